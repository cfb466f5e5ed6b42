theorem rsF_n {ok : Nat → Nat → Bool} {c : Nat} (h : ok (c / 3) (c % 3) = false) : rsF ok (c + 1) = rsF ok c := by rw [rsF, if_neg (by rw [h]; decide)]
theorem rsF_y {ok : Nat → Nat → Bool} {c : Nat} (h : ok (c / 3) (c % 3) = true) : rsF ok (c + 1) = ((rsF ok c).1 + 1, if (rsF ok c).1 = 0 then nI (10 * (c / 3) + c % 3) else (rsF ok c).2) := by rw [rsF, if_pos h]
set_option maxRecDepth 100000 in
set_option maxHeartbeats 400000 in
theorem s_X7_rests_44 {T : TT} {p : PLt} {t u : Nat} (ht : t < 6) (hu : u < 6) (hne : t ≠ u) {v : Int32} : ∀ (f c : Nat) (Mj : z_Mem) (ij w4 w5 : Int32), TN Mj T → PM Mj 0 p → w4 = nI (rsF (arB T p t u) c).1 → w5 = (rsF (arB T p t u) c).2 → ij = nI c → c + f = 9 → ∃ M2, z_Sm mX7_rests (some (.int (rsR T p t u v))) M2 44 [some (.ref 59), some (.int (nI t)), some (.int (nI u)), some (.int v), some (.int w4), some (.int w5), some (.int ij)] [] Mj ∧ Sn 1 Mj M2 := by
  intro f
  induction f with
  | zero =>
    intro c Mj ij w4 w5 hT hp h4 h5 hi hf
    obtain rfl : c = 9 := by omega
    refine ⟨Mj, ?_, Sn.rf⟩
    refine z_iload (pc := 44) dX7_rests_44 rfl ?_
    refine z_bipush (pc := 46) (v := 9) dX7_rests_46 (by decide) ?_
    refine z_icmp_ge (pc := 48) (tgt := 101) dX7_rests_48 (by decide) (fun h48 => ?_) (fun h48 => ?_)
    · refine z_iload_n (pc := 101) dX7_rests_101 rfl ?_
      refine z_if_ne (pc := 102) (tgt := 110) dX7_rests_102 (by decide) (fun h102 => ?_) (fun h102 => ?_)
      · refine z_iload (pc := 110) dX7_rests_110 rfl ?_
        refine z_iret (pc := 112) rfl dX7_rests_112 ?_ ?_
        · rw [rsR, if_neg h102]; exact h5
        · rfl
      · refine z_iload (pc := 105) dX7_rests_105 rfl ?_
        refine z_goto (pc := 107) (tgt := 112) dX7_rests_107 (by decide) ?_
        refine z_iret (pc := 112) rfl dX7_rests_112 ?_ ?_
        · rw [rsR, if_pos h102]; exact h4
        · rfl
    · exact absurd (z_lt h48 hi (show (9 : Int32) = nI 9 from rfl) (by omega) (by omega)) (by omega)
  | succ f ih =>
    intro c Mj ij w4 w5 hT hp h4 h5 hi hf
    have hle := rsF_le (arB T p t u) c
    subst hi
    obtain ⟨N, c1, s1⟩ := c_X7_isRest hT hp ht hu hne (a := c / 3) (b := c % 3) (by omega) (by omega)
    have e1 : nI c / 3 = nI (c / 3) := pk_div (d := 3) (by omega) (by decide) (by decide)
    have e2 : nI c - nI c / 3 * 3 = nI (c % 3) := pk_rem (d := 3) (by omega) (by decide) (by decide)
    have e3 : (10 : Int32) * nI (c / 3) = nI (10 * (c / 3)) := nx_mul 10 _
    by_cases hb : arB T p t u (c / 3) (c % 3) = true
    · by_cases h0 : (rsF (arB T p t u) c).1 = 0
      · obtain ⟨M2, k2, q2⟩ := ih (c + 1) N (nI c + Int32.ofInt 1) (w4 + Int32.ofInt 1) (nI (10 * (c / 3) + c % 3)) (s1.tn hT) (s1.p0 hp) (by rw [rsF_y hb]; exact z_n1 h4) (by rw [rsF_y hb]; exact (if_pos h0).symm) (z_n1 rfl) (by omega)
        refine ⟨M2, ?_, s1.tr q2⟩
        refine z_iload (pc := 44) dX7_rests_44 rfl ?_
        refine z_bipush (pc := 46) (v := 9) dX7_rests_46 (by decide) ?_
        refine z_icmp_ge (pc := 48) (tgt := 101) dX7_rests_48 (by decide) (fun h48 => ?_) (fun h48 => ?_)
        · exact absurd (z_ge h48 (show nI c = nI c from rfl) (show (9 : Int32) = nI 9 from rfl) (by omega) (by omega)) (by omega)
        · refine z_aload_n (pc := 51) dX7_rests_51 rfl ?_
          refine z_iload_n (pc := 52) dX7_rests_52 rfl ?_
          refine z_iload_n (pc := 53) dX7_rests_53 rfl ?_
          refine z_iload (pc := 54) dX7_rests_54 rfl ?_
          refine z_iconst (pc := 56) (v := 3) dX7_rests_56 (by decide) ?_
          refine z_idiv (pc := 57) dX7_rests_57 (by decide) ?_
          refine z_iload (pc := 58) dX7_rests_58 rfl ?_
          refine z_iconst (pc := 60) (v := 3) dX7_rests_60 (by decide) ?_
          refine z_irem (pc := 61) dX7_rests_61 (by decide) ?_
          rw [e2, e1]
          refine z_cV4 (pc := 62) c1 (q_cX7_212 _ (by decide)) z_s59 rfl rfl dX7_rests_62 ?_
          refine z_if_eq (pc := 65) (tgt := 95) dX7_rests_65 (by decide) (fun h65 => ?_) (fun h65 => ?_)
          · rw [if_pos hb] at h65
            exact absurd h65 (by decide)
          · refine z_iload (pc := 68) dX7_rests_68 rfl ?_
            refine z_if_ne (pc := 70) (tgt := 88) dX7_rests_70 (by decide) (fun h70 => ?_) (fun h70 => ?_)
            · rw [h4, h0] at h70
              exact absurd rfl h70
            · refine z_bipush (pc := 73) (v := 10) dX7_rests_73 (by decide) ?_
              refine z_iload (pc := 75) dX7_rests_75 rfl ?_
              refine z_iconst (pc := 77) (v := 3) dX7_rests_77 (by decide) ?_
              refine z_idiv (pc := 78) dX7_rests_78 (by decide) ?_
              refine z_imul (pc := 79) dX7_rests_79 ?_
              refine z_iload (pc := 80) dX7_rests_80 rfl ?_
              refine z_iconst (pc := 82) (v := 3) dX7_rests_82 (by decide) ?_
              refine z_irem (pc := 83) dX7_rests_83 (by decide) ?_
              refine z_iadd (pc := 84) dX7_rests_84 ?_
              refine z_goto (pc := 85) (tgt := 90) dX7_rests_85 (by decide) ?_
              rw [e2, e1, e3, nI_add]
              refine z_istore (pc := 90) dX7_rests_90 rfl (by decide) ?_
              refine z_iinc (pc := 92) dX7_rests_92 rfl rfl rfl (by decide) ?_
              refine z_iinc (pc := 95) dX7_rests_95 rfl rfl rfl (by decide) ?_
              refine z_goto (pc := 98) (tgt := 44) dX7_rests_98 (by decide) ?_
              exact k2
      · obtain ⟨M2, k2, q2⟩ := ih (c + 1) N (nI c + Int32.ofInt 1) (w4 + Int32.ofInt 1) w5 (s1.tn hT) (s1.p0 hp) (by rw [rsF_y hb]; exact z_n1 h4) (by rw [rsF_y hb, h5]; exact (if_neg h0).symm) (z_n1 rfl) (by omega)
        refine ⟨M2, ?_, s1.tr q2⟩
        refine z_iload (pc := 44) dX7_rests_44 rfl ?_
        refine z_bipush (pc := 46) (v := 9) dX7_rests_46 (by decide) ?_
        refine z_icmp_ge (pc := 48) (tgt := 101) dX7_rests_48 (by decide) (fun h48 => ?_) (fun h48 => ?_)
        · exact absurd (z_ge h48 (show nI c = nI c from rfl) (show (9 : Int32) = nI 9 from rfl) (by omega) (by omega)) (by omega)
        · refine z_aload_n (pc := 51) dX7_rests_51 rfl ?_
          refine z_iload_n (pc := 52) dX7_rests_52 rfl ?_
          refine z_iload_n (pc := 53) dX7_rests_53 rfl ?_
          refine z_iload (pc := 54) dX7_rests_54 rfl ?_
          refine z_iconst (pc := 56) (v := 3) dX7_rests_56 (by decide) ?_
          refine z_idiv (pc := 57) dX7_rests_57 (by decide) ?_
          refine z_iload (pc := 58) dX7_rests_58 rfl ?_
          refine z_iconst (pc := 60) (v := 3) dX7_rests_60 (by decide) ?_
          refine z_irem (pc := 61) dX7_rests_61 (by decide) ?_
          rw [e2, e1]
          refine z_cV4 (pc := 62) c1 (q_cX7_212 _ (by decide)) z_s59 rfl rfl dX7_rests_62 ?_
          refine z_if_eq (pc := 65) (tgt := 95) dX7_rests_65 (by decide) (fun h65 => ?_) (fun h65 => ?_)
          · rw [if_pos hb] at h65
            exact absurd h65 (by decide)
          · refine z_iload (pc := 68) dX7_rests_68 rfl ?_
            refine z_if_ne (pc := 70) (tgt := 88) dX7_rests_70 (by decide) (fun h70 => ?_) (fun h70 => ?_)
            · refine z_iload (pc := 88) dX7_rests_88 rfl ?_
              refine z_istore (pc := 90) dX7_rests_90 rfl (by decide) ?_
              refine z_iinc (pc := 92) dX7_rests_92 rfl rfl rfl (by decide) ?_
              refine z_iinc (pc := 95) dX7_rests_95 rfl rfl rfl (by decide) ?_
              refine z_goto (pc := 98) (tgt := 44) dX7_rests_98 (by decide) ?_
              exact k2
            · rw [h4] at h70
              exact absurd ((nI0 (by omega)).mp h70) h0
    · have hb2 : arB T p t u (c / 3) (c % 3) = false := by cases q : arB T p t u (c / 3) (c % 3) <;> simp_all
      obtain ⟨M2, k2, q2⟩ := ih (c + 1) N (nI c + Int32.ofInt 1) w4 w5 (s1.tn hT) (s1.p0 hp) (by rw [rsF_n hb2]; exact h4) (by rw [rsF_n hb2]; exact h5) (z_n1 rfl) (by omega)
      refine ⟨M2, ?_, s1.tr q2⟩
      refine z_iload (pc := 44) dX7_rests_44 rfl ?_
      refine z_bipush (pc := 46) (v := 9) dX7_rests_46 (by decide) ?_
      refine z_icmp_ge (pc := 48) (tgt := 101) dX7_rests_48 (by decide) (fun h48 => ?_) (fun h48 => ?_)
      · exact absurd (z_ge h48 (show nI c = nI c from rfl) (show (9 : Int32) = nI 9 from rfl) (by omega) (by omega)) (by omega)
      · refine z_aload_n (pc := 51) dX7_rests_51 rfl ?_
        refine z_iload_n (pc := 52) dX7_rests_52 rfl ?_
        refine z_iload_n (pc := 53) dX7_rests_53 rfl ?_
        refine z_iload (pc := 54) dX7_rests_54 rfl ?_
        refine z_iconst (pc := 56) (v := 3) dX7_rests_56 (by decide) ?_
        refine z_idiv (pc := 57) dX7_rests_57 (by decide) ?_
        refine z_iload (pc := 58) dX7_rests_58 rfl ?_
        refine z_iconst (pc := 60) (v := 3) dX7_rests_60 (by decide) ?_
        refine z_irem (pc := 61) dX7_rests_61 (by decide) ?_
        rw [e2, e1]
        refine z_cV4 (pc := 62) c1 (q_cX7_212 _ (by decide)) z_s59 rfl rfl dX7_rests_62 ?_
        refine z_if_eq (pc := 65) (tgt := 95) dX7_rests_65 (by decide) (fun h65 => ?_) (fun h65 => ?_)
        · refine z_iinc (pc := 95) dX7_rests_95 rfl rfl rfl (by decide) ?_
          refine z_goto (pc := 98) (tgt := 44) dX7_rests_98 (by decide) ?_
          exact k2
        · rw [if_neg hb] at h65
          exact absurd rfl h65
set_option maxRecDepth 100000 in
set_option maxHeartbeats 400000 in
theorem o_X7_rests_no {M : z_Mem} {l : Nat → Int32} {n : Nat} {T : TT} {U : UT} {D : DT} {p : PLt} {A : List PLt} {k0 k1 : Option PLt} {L : List (Int32 × Int32)} {sd : Int64} (hR : RM M l n T U D p A k0 k1 L sd) {x y v : Int32} (h : ¬ rfF x y = 0) : z_Ct mX7_rests [.ref 59, .int x, .int y, .int v] M (some (.int (rfF x y))) M := by
  obtain ⟨rS, rT, rU, rD, rp, rA, r0, r1, rL, rs⟩ := id hR

  refine z_entry (by decide +kernel) (Nat.le_of_ble_eq_true rfl) rfl ?_
  show z_Sm mX7_rests _ _ 0 [some (.ref 59), some (.int x), some (.int y), some (.int v), none, none, none] [] M
  refine z_iload_n (pc := 0) dX7_rests_0 rfl ?_
  refine z_cS1 (pc := 1) c_X7_isThing (q_cX7_150 _ (by decide)) rfl dX7_rests_1 ?_
  refine z_if_eq (pc := 4) (tgt := 14) dX7_rests_4 (by decide) (fun h4 => ?_) (fun h4 => ?_)
  · refine z_iconst (pc := 14) (v := (-1)) dX7_rests_14 (by decide) ?_
    refine z_iret (pc := 15) rfl dX7_rests_15 ?_ ?_
    · exact (show rfF x y = -1 by rw [rfF, z_f h4]; rfl).symm
    · rfl
  · refine z_iload_n (pc := 7) dX7_rests_7 rfl ?_
    refine z_cS1 (pc := 8) c_X7_isThing (q_cX7_150 _ (by decide)) rfl dX7_rests_8 ?_
    refine z_if_ne (pc := 11) (tgt := 16) dX7_rests_11 (by decide) (fun h11 => ?_) (fun h11 => ?_)
    · refine z_iload_n (pc := 16) dX7_rests_16 rfl ?_
      refine z_iload_n (pc := 17) dX7_rests_17 rfl ?_
      refine z_icmp_eq (pc := 18) (tgt := 31) dX7_rests_18 (by decide) (fun h18 => ?_) (fun h18 => ?_)
      · refine z_bipush (pc := 31) (v := (-2)) dX7_rests_31 (by decide) ?_
        refine z_iret (pc := 33) rfl dX7_rests_33 ?_ ?_
        · exact (show rfF x y = -2 by rw [rfF, z_t h4, z_t h11, show x = y from h18]; simp).symm
        · rfl
      · exact absurd (show rfF x y = 0 by rw [rfF, z_t h4, z_t h11]; exact if_neg h18) h
    · refine z_iconst (pc := 14) (v := (-1)) dX7_rests_14 (by decide) ?_
      refine z_iret (pc := 15) rfl dX7_rests_15 ?_ ?_
      · exact (show rfF x y = -1 by rw [rfF, z_f h11, Bool.and_false]; rfl).symm
      · rfl
set_option maxRecDepth 100000 in
set_option maxHeartbeats 400000 in
theorem o_X7_rests_no1 {M : z_Mem} {l : Nat → Int32} {n : Nat} {T : TT} {U : UT} {D : DT} {p : PLt} {A : List PLt} {k0 k1 : Option PLt} {L : List (Int32 × Int32)} {sd : Int64} (hR : RM M l n T U D p A k0 k1 L sd) {x y v : Int32} (h : rfF x y = 0) (h2 : v < 0 ∨ 1 < v) : z_Ct mX7_rests [.ref 59, .int x, .int y, .int v] M (some (.int (-2))) M := by
  obtain ⟨rS, rT, rU, rD, rp, rA, r0, r1, rL, rs⟩ := id hR
  obtain ⟨hx, hy, hxy⟩ := rf_at h
  have hin := inB_no (b := 0) (c := 1) 0 1 (by decide) (by decide) h2

  refine z_entry (by decide +kernel) (Nat.le_of_ble_eq_true rfl) rfl ?_
  show z_Sm mX7_rests _ _ 0 [some (.ref 59), some (.int x), some (.int y), some (.int v), none, none, none] [] M
  refine z_iload_n (pc := 0) dX7_rests_0 rfl ?_
  refine z_cS1 (pc := 1) c_X7_isThing (q_cX7_150 _ (by decide)) rfl dX7_rests_1 ?_
  refine z_if_eq (pc := 4) (tgt := 14) dX7_rests_4 (by decide) (fun h4 => ?_) (fun h4 => ?_)
  · rw [hx] at h4; exact absurd h4 (by decide)
  · refine z_iload_n (pc := 7) dX7_rests_7 rfl ?_
    refine z_cS1 (pc := 8) c_X7_isThing (q_cX7_150 _ (by decide)) rfl dX7_rests_8 ?_
    refine z_if_ne (pc := 11) (tgt := 16) dX7_rests_11 (by decide) (fun h11 => ?_) (fun h11 => ?_)
    · refine z_iload_n (pc := 16) dX7_rests_16 rfl ?_
      refine z_iload_n (pc := 17) dX7_rests_17 rfl ?_
      refine z_icmp_eq (pc := 18) (tgt := 31) dX7_rests_18 (by decide) (fun h18 => ?_) (fun h18 => ?_)
      · exact absurd h18 hxy
      · refine z_iload_n (pc := 21) dX7_rests_21 rfl ?_
        refine z_i2l (pc := 22) dX7_rests_22 rfl ?_
        refine z_lconst (pc := 23) (v := 0) dX7_rests_23 (by decide) ?_
        refine z_lconst (pc := 24) (v := 1) dX7_rests_24 (by decide) ?_
        refine z_cS3 (pc := 25) c_X7_in (q_cX7_70 _ (by decide)) rfl dX7_rests_25 ?_
        refine z_if_ne (pc := 28) (tgt := 34) dX7_rests_28 (by decide) (fun h28 => ?_) (fun h28 => ?_)
        · rw [hin] at h28; exact absurd rfl h28
        · refine z_bipush (pc := 31) (v := (-2)) dX7_rests_31 (by decide) ?_
          refine z_iret (pc := 33) rfl dX7_rests_33 ?_ ?_
          · rfl
          · rfl
    · rw [hy] at h11; exact absurd h11 (by decide)
set_option maxRecDepth 100000 in
set_option maxHeartbeats 400000 in
theorem o_X7_rests {M : z_Mem} {l : Nat → Int32} {n : Nat} {T : TT} {U : UT} {D : DT} {p : PLt} {A : List PLt} {k0 k1 : Option PLt} {L : List (Int32 × Int32)} {sd : Int64} (hR : RM M l n T U D p A k0 k1 L sd) {x y v : Int32} (h : rfF x y = 0) (h2 : ¬ v < 0 ∧ v ≤ 1) : ∃ M1, z_Ct mX7_rests [.ref 59, .int x, .int y, .int v] M (some (.int (rsR T p x.toNatClampNeg y.toNatClampNeg v))) M1 ∧ RM M1 l n T U D p A k0 k1 L sd ∧ Fm M M1 := by
  obtain ⟨rS, rT, rU, rD, rp, rA, r0, r1, rL, rs⟩ := id hR
  obtain ⟨hx, hy, hxy⟩ := rf_at h
  have htx := thg_at hx
  have hty := thg_at hy
  have hnn : x.toNatClampNeg ≠ y.toNatClampNeg := fun q => hxy (by rw [htx.2, hty.2, q])
  have hin := inB_yes (x := v) (b := 0) (c := 1) 0 1 (by decide) (by decide) (fun q => q.elim h2.1 (fun z => absurd z (Int32.not_lt.mpr h2.2)))
  obtain ⟨M2, k2, q2⟩ := s_X7_rests_44 htx.1 hty.1 hnn (v := v) 9 0 M 0 0 (-9) rT rp rfl rfl rfl (by omega)
  rw [← htx.2, ← hty.2] at k2
  refine ⟨M2, ?_, RM_th hR q2, q2.1.fm (by simp)⟩
  refine z_entry (by decide +kernel) (Nat.le_of_ble_eq_true rfl) rfl ?_
  show z_Sm mX7_rests _ _ 0 [some (.ref 59), some (.int x), some (.int y), some (.int v), none, none, none] [] M
  refine z_iload_n (pc := 0) dX7_rests_0 rfl ?_
  refine z_cS1 (pc := 1) c_X7_isThing (q_cX7_150 _ (by decide)) rfl dX7_rests_1 ?_
  refine z_if_eq (pc := 4) (tgt := 14) dX7_rests_4 (by decide) (fun h4 => ?_) (fun h4 => ?_)
  · rw [hx] at h4; exact absurd h4 (by decide)
  · refine z_iload_n (pc := 7) dX7_rests_7 rfl ?_
    refine z_cS1 (pc := 8) c_X7_isThing (q_cX7_150 _ (by decide)) rfl dX7_rests_8 ?_
    refine z_if_ne (pc := 11) (tgt := 16) dX7_rests_11 (by decide) (fun h11 => ?_) (fun h11 => ?_)
    · refine z_iload_n (pc := 16) dX7_rests_16 rfl ?_
      refine z_iload_n (pc := 17) dX7_rests_17 rfl ?_
      refine z_icmp_eq (pc := 18) (tgt := 31) dX7_rests_18 (by decide) (fun h18 => ?_) (fun h18 => ?_)
      · exact absurd h18 hxy
      · refine z_iload_n (pc := 21) dX7_rests_21 rfl ?_
        refine z_i2l (pc := 22) dX7_rests_22 rfl ?_
        refine z_lconst (pc := 23) (v := 0) dX7_rests_23 (by decide) ?_
        refine z_lconst (pc := 24) (v := 1) dX7_rests_24 (by decide) ?_
        refine z_cS3 (pc := 25) c_X7_in (q_cX7_70 _ (by decide)) rfl dX7_rests_25 ?_
        refine z_if_ne (pc := 28) (tgt := 34) dX7_rests_28 (by decide) (fun h28 => ?_) (fun h28 => ?_)
        · refine z_iconst (pc := 34) (v := 0) dX7_rests_34 (by decide) ?_
          refine z_istore (pc := 35) dX7_rests_35 rfl (by decide) ?_
          refine z_bipush (pc := 37) (v := (-9)) dX7_rests_37 (by decide) ?_
          refine z_istore (pc := 39) dX7_rests_39 rfl (by decide) ?_
          refine z_iconst (pc := 41) (v := 0) dX7_rests_41 (by decide) ?_
          refine z_istore (pc := 42) dX7_rests_42 rfl (by decide) ?_
          exact k2
        · rw [hin] at h28; exact absurd h28 (by decide)
    · rw [hy] at h11; exact absurd h11 (by decide)
