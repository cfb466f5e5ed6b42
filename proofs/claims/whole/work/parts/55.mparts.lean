set_option maxRecDepth 100000 in
set_option maxHeartbeats 400000 in
theorem s_X7_parts_73 {T : TT} {p : PLt} {x y v w : Int32} {t u : Nat} (hx : x = nI t) (hy : y = nI u) (ht : t < 6) (hu : u < 6) : ∀ (f : Nat) (Mj : z_Mem) (ij : Int32) (i : Nat), TN Mj T → PM Mj 0 p → ij = nI i → i + f = 6 → ∃ N, Sn 1 Mj N ∧ (ftF T p t u w f i = -9 → ∀ (M2 : z_Mem) (r : Option Value), z_Sm mX7_parts r M2 128 [some (.ref 59), some (.int x), some (.int y), some (.int v), some (.int w), none] [] N → z_Sm mX7_parts r M2 73 [some (.ref 59), some (.int x), some (.int y), some (.int v), some (.int w), some (.int ij)] [] Mj) ∧ (¬ ftF T p t u w f i = -9 → z_Sm mX7_parts (some (.int (if v = 0 then w else ftF T p t u w f i))) N 73 [some (.ref 59), some (.int x), some (.int y), some (.int v), some (.int w), some (.int ij)] [] Mj) := by
  intro f
  induction f with
  | zero =>
    intro Mj ij i hT hp h2 hi
    refine ⟨Mj, Sn.rf, fun _ M2 r kk => ?_, fun q => absurd rfl q⟩
    refine z_iload (pc := 73) dX7_parts_73 rfl ?_
    refine z_bipush (pc := 75) (v := 6) dX7_parts_75 (by decide) ?_
    refine z_icmp_ge (pc := 77) (tgt := 128) dX7_parts_77 (by decide) (fun h77 => ?_) (fun h77 => ?_)
    · exact z_drop 5 kk
    · exact absurd (z_lt h77 h2 (show (6 : Int32) = nI 6 from rfl) (by omega) (by omega)) (by omega)
  | succ f ih =>
    intro Mj ij i hT hp h2 hi
    obtain ⟨N0, c0, p0, s0⟩ := c_X7_layTrial hp
    obtain ⟨N, c1, p1, s1⟩ := c_X7_tugOn (s0.tn hT) (lv := 1) (by decide) p0 (n := w) h2 (by omega)
    have s1 := s0.tr s1
    have hat := c_X7_isTogether (s1.tn hT) (o := (tugF T p i w).1) hx hy ht hu
    by_cases hb : tog (tugF T p i w).1 T.2.1 T.2.2.1 T.1 t u = true
    · obtain ⟨N2, q2, qa, qb⟩ := ih N (ij + Int32.ofInt 1) (i + 1) (s1.tn hT) (s1.p0 hp) (z_n1 h2) (by omega)
      refine ⟨N2, s1.tr q2, fun q M2 r kk => ?_, fun q => ?_⟩
      · rw [ftF, if_pos hb] at q
        rw [hb] at hat
        refine z_iload (pc := 73) dX7_parts_73 rfl ?_
        refine z_bipush (pc := 75) (v := 6) dX7_parts_75 (by decide) ?_
        refine z_icmp_ge (pc := 77) (tgt := 128) dX7_parts_77 (by decide) (fun h77 => ?_) (fun h77 => ?_)
        · exact absurd (z_ge h77 h2 (show (6 : Int32) = nI 6 from rfl) (by omega) (by omega)) (by omega)
        · refine z_aload_n (pc := 80) dX7_parts_80 rfl ?_
          refine z_cV0v (pc := 81) c0 (q_cX7_174 _ (by decide)) z_s59 rfl rfl dX7_parts_81 ?_
          refine z_aload_n (pc := 84) dX7_parts_84 rfl ?_
          refine z_iconst (pc := 85) (v := 1) dX7_parts_85 (by decide) ?_
          refine z_iload (pc := 86) dX7_parts_86 rfl ?_
          refine z_iload (pc := 88) dX7_parts_88 rfl ?_
          refine z_cV3 (pc := 90) c1 (q_cX7_164 _ (by decide)) z_s59 rfl rfl dX7_parts_90 ?_
          refine z_pop (pc := 93) dX7_parts_93 rfl ?_
          refine z_aload_n (pc := 94) dX7_parts_94 rfl ?_
          refine z_iload_n (pc := 95) dX7_parts_95 rfl ?_
          refine z_iload_n (pc := 96) dX7_parts_96 rfl ?_
          refine z_aload_n (pc := 97) dX7_parts_97 rfl ?_
          refine z_getR (pc := 98) 68 q_fX7_34 z_s59 rfl dX7_parts_98 ?_
          refine z_bipush (pc := 101) (v := 9) dX7_parts_101 (by decide) ?_
          refine z_iald (pc := 103) (9) z_s68 ⟨rfl, by omega⟩ dX7_parts_103 ?_
          rw [show N.1 68 9 = _ from p1.1]
          refine z_cV3 (pc := 104) hat (q_cX7_126 _ (by decide)) z_s59 rfl rfl dX7_parts_104 ?_
          refine z_if_ne (pc := 107) (tgt := 122) dX7_parts_107 (by decide) (fun h107 => ?_) (fun h107 => ?_)
          · refine z_iinc (pc := 122) dX7_parts_122 rfl rfl rfl (by decide) ?_
            refine z_goto (pc := 125) (tgt := 73) dX7_parts_125 (by decide) ?_
            exact qa q M2 r kk
          · exact absurd h107 (by decide)
      · rw [ftF, if_pos hb] at q ⊢
        rw [hb] at hat
        refine z_iload (pc := 73) dX7_parts_73 rfl ?_
        refine z_bipush (pc := 75) (v := 6) dX7_parts_75 (by decide) ?_
        refine z_icmp_ge (pc := 77) (tgt := 128) dX7_parts_77 (by decide) (fun h77 => ?_) (fun h77 => ?_)
        · exact absurd (z_ge h77 h2 (show (6 : Int32) = nI 6 from rfl) (by omega) (by omega)) (by omega)
        · refine z_aload_n (pc := 80) dX7_parts_80 rfl ?_
          refine z_cV0v (pc := 81) c0 (q_cX7_174 _ (by decide)) z_s59 rfl rfl dX7_parts_81 ?_
          refine z_aload_n (pc := 84) dX7_parts_84 rfl ?_
          refine z_iconst (pc := 85) (v := 1) dX7_parts_85 (by decide) ?_
          refine z_iload (pc := 86) dX7_parts_86 rfl ?_
          refine z_iload (pc := 88) dX7_parts_88 rfl ?_
          refine z_cV3 (pc := 90) c1 (q_cX7_164 _ (by decide)) z_s59 rfl rfl dX7_parts_90 ?_
          refine z_pop (pc := 93) dX7_parts_93 rfl ?_
          refine z_aload_n (pc := 94) dX7_parts_94 rfl ?_
          refine z_iload_n (pc := 95) dX7_parts_95 rfl ?_
          refine z_iload_n (pc := 96) dX7_parts_96 rfl ?_
          refine z_aload_n (pc := 97) dX7_parts_97 rfl ?_
          refine z_getR (pc := 98) 68 q_fX7_34 z_s59 rfl dX7_parts_98 ?_
          refine z_bipush (pc := 101) (v := 9) dX7_parts_101 (by decide) ?_
          refine z_iald (pc := 103) (9) z_s68 ⟨rfl, by omega⟩ dX7_parts_103 ?_
          rw [show N.1 68 9 = _ from p1.1]
          refine z_cV3 (pc := 104) hat (q_cX7_126 _ (by decide)) z_s59 rfl rfl dX7_parts_104 ?_
          refine z_if_ne (pc := 107) (tgt := 122) dX7_parts_107 (by decide) (fun h107 => ?_) (fun h107 => ?_)
          · refine z_iinc (pc := 122) dX7_parts_122 rfl rfl rfl (by decide) ?_
            refine z_goto (pc := 125) (tgt := 73) dX7_parts_125 (by decide) ?_
            exact qb q
          · exact absurd h107 (by decide)
    · have e : ftF T p t u w (f + 1) i = nI i := by rw [ftF, if_neg hb]
      rw [if_neg hb] at hat
      refine ⟨N, s1, fun q => ?_, fun _ => ?_⟩
      · rw [e] at q
        have := nI_pos (n := i) (by omega)
        rw [q] at this
        exact absurd (by decide) this
      · rw [e]
        refine z_iload (pc := 73) dX7_parts_73 rfl ?_
        refine z_bipush (pc := 75) (v := 6) dX7_parts_75 (by decide) ?_
        refine z_icmp_ge (pc := 77) (tgt := 128) dX7_parts_77 (by decide) (fun h77 => ?_) (fun h77 => ?_)
        · exact absurd (z_ge h77 h2 (show (6 : Int32) = nI 6 from rfl) (by omega) (by omega)) (by omega)
        · refine z_aload_n (pc := 80) dX7_parts_80 rfl ?_
          refine z_cV0v (pc := 81) c0 (q_cX7_174 _ (by decide)) z_s59 rfl rfl dX7_parts_81 ?_
          refine z_aload_n (pc := 84) dX7_parts_84 rfl ?_
          refine z_iconst (pc := 85) (v := 1) dX7_parts_85 (by decide) ?_
          refine z_iload (pc := 86) dX7_parts_86 rfl ?_
          refine z_iload (pc := 88) dX7_parts_88 rfl ?_
          refine z_cV3 (pc := 90) c1 (q_cX7_164 _ (by decide)) z_s59 rfl rfl dX7_parts_90 ?_
          refine z_pop (pc := 93) dX7_parts_93 rfl ?_
          refine z_aload_n (pc := 94) dX7_parts_94 rfl ?_
          refine z_iload_n (pc := 95) dX7_parts_95 rfl ?_
          refine z_iload_n (pc := 96) dX7_parts_96 rfl ?_
          refine z_aload_n (pc := 97) dX7_parts_97 rfl ?_
          refine z_getR (pc := 98) 68 q_fX7_34 z_s59 rfl dX7_parts_98 ?_
          refine z_bipush (pc := 101) (v := 9) dX7_parts_101 (by decide) ?_
          refine z_iald (pc := 103) (9) z_s68 ⟨rfl, by omega⟩ dX7_parts_103 ?_
          rw [show N.1 68 9 = _ from p1.1]
          refine z_cV3 (pc := 104) hat (q_cX7_126 _ (by decide)) z_s59 rfl rfl dX7_parts_104 ?_
          refine z_if_ne (pc := 107) (tgt := 122) dX7_parts_107 (by decide) (fun h107 => ?_) (fun h107 => ?_)
          · exact absurd rfl h107
          · refine z_iload_n (pc := 110) dX7_parts_110 rfl ?_
            refine z_if_ne (pc := 111) (tgt := 119) dX7_parts_111 (by decide) (fun h111 => ?_) (fun h111 => ?_)
            · refine z_iload (pc := 119) dX7_parts_119 rfl ?_
              refine z_iret (pc := 121) rfl dX7_parts_121 ?_ ?_
              · rw [if_neg h111]; exact h2
              · rfl
            · refine z_iload (pc := 114) dX7_parts_114 rfl ?_
              refine z_goto (pc := 116) (tgt := 121) dX7_parts_116 (by decide) ?_
              refine z_iret (pc := 121) rfl dX7_parts_121 ?_ ?_
              · exact (if_pos h111).symm
              · rfl
set_option maxRecDepth 100000 in
set_option maxHeartbeats 400000 in
theorem s_X7_parts_63 {T : TT} {p : PLt} {x y v : Int32} {t u : Nat} (hx : x = nI t) (hy : y = nI u) (ht : t < 6) (hu : u < 6) : ∀ (f : Nat) (Mj : z_Mem) (ij : Int32) (i : Nat), TN Mj T → PM Mj 0 p → ij = nI i → i + f = 10 → ∃ M2, z_Sm mX7_parts (some (.int (ptF T p t u v f i))) M2 63 [some (.ref 59), some (.int x), some (.int y), some (.int v), some (.int ij), none] [] Mj ∧ Sn 1 Mj M2 := by
  intro f
  induction f with
  | zero =>
    intro Mj ij i hT hp h2 hi
    refine ⟨Mj, ?_, Sn.rf⟩
    refine z_iload (pc := 63) dX7_parts_63 rfl ?_
    refine z_bipush (pc := 65) (v := 10) dX7_parts_65 (by decide) ?_
    refine z_icmp_ge (pc := 67) (tgt := 134) dX7_parts_67 (by decide) (fun h67 => ?_) (fun h67 => ?_)
    · refine z_bipush (pc := 134) (v := (-9)) dX7_parts_134 (by decide) ?_
      refine z_iret (pc := 136) rfl dX7_parts_136 ?_ ?_
      · rfl
      · rfl
    · exact absurd (z_lt h67 h2 (show (10 : Int32) = nI 10 from rfl) (by omega) (by omega)) (by omega)
  | succ f ih =>
    intro Mj ij i hT hp h2 hi
    obtain ⟨N, s1, qa, qb⟩ := s_X7_parts_73 (v := v) (w := ij) hx hy ht hu 6 Mj 0 0 hT hp rfl (by omega)
    rw [h2] at qa qb
    by_cases hb : ftF T p t u (nI i) 6 0 = -9
    · obtain ⟨M2, k2, q2⟩ := ih N (nI i + Int32.ofInt 1) (i + 1) (s1.tn hT) (s1.p0 hp) (z_n1 rfl) (by omega)
      refine ⟨M2, ?_, s1.tr q2⟩
      rw [ptF, if_pos hb, h2]
      refine z_iload (pc := 63) dX7_parts_63 rfl ?_
      refine z_bipush (pc := 65) (v := 10) dX7_parts_65 (by decide) ?_
      refine z_icmp_ge (pc := 67) (tgt := 134) dX7_parts_67 (by decide) (fun h67 => ?_) (fun h67 => ?_)
      · exact absurd (z_ge h67 (show nI i = nI i from rfl) (show (10 : Int32) = nI 10 from rfl) (by omega) (by omega)) (by omega)
      · refine z_iconst (pc := 70) (v := 0) dX7_parts_70 (by decide) ?_
        refine z_istore (pc := 71) dX7_parts_71 rfl (by decide) ?_
        refine qa hb _ _ ?_
        refine z_iinc (pc := 128) dX7_parts_128 rfl rfl rfl (by decide) ?_
        refine z_goto (pc := 131) (tgt := 63) dX7_parts_131 (by decide) ?_
        exact k2
    · refine ⟨N, ?_, s1⟩
      rw [ptF, if_neg hb, h2]
      refine z_iload (pc := 63) dX7_parts_63 rfl ?_
      refine z_bipush (pc := 65) (v := 10) dX7_parts_65 (by decide) ?_
      refine z_icmp_ge (pc := 67) (tgt := 134) dX7_parts_67 (by decide) (fun h67 => ?_) (fun h67 => ?_)
      · exact absurd (z_ge h67 (show nI i = nI i from rfl) (show (10 : Int32) = nI 10 from rfl) (by omega) (by omega)) (by omega)
      · refine z_iconst (pc := 70) (v := 0) dX7_parts_70 (by decide) ?_
        refine z_istore (pc := 71) dX7_parts_71 rfl (by decide) ?_
        exact qb hb
set_option maxRecDepth 100000 in
set_option maxHeartbeats 400000 in
theorem o_X7_parts_no0 {M : z_Mem} {l : Nat → Int32} {n : Nat} {T : TT} {U : UT} {D : DT} {p : PLt} {A : List PLt} {k0 k1 : Option PLt} {L : List (Int32 × Int32)} {sd : Int64} (hR : RM M l n T U D p A k0 k1 L sd) {x y v : Int32} (h : ¬ rfF x y = 0) : z_Ct mX7_parts [.ref 59, .int x, .int y, .int v] M (some (.int (rfF x y))) M := by
  obtain ⟨rS, rT, rU, rD, rp, rA, r0, r1, rL, rs⟩ := id hR

  refine z_entry (by decide +kernel) (Nat.le_of_ble_eq_true rfl) rfl ?_
  show z_Sm mX7_parts _ _ 0 [some (.ref 59), some (.int x), some (.int y), some (.int v), none, none] [] M
  refine z_iload_n (pc := 0) dX7_parts_0 rfl ?_
  refine z_cS1 (pc := 1) c_X7_isThing (q_cX7_150 _ (by decide)) rfl dX7_parts_1 ?_
  refine z_if_eq (pc := 4) (tgt := 14) dX7_parts_4 (by decide) (fun h4 => ?_) (fun h4 => ?_)
  · refine z_iconst (pc := 14) (v := (-1)) dX7_parts_14 (by decide) ?_
    refine z_iret (pc := 15) rfl dX7_parts_15 ?_ ?_
    · exact (show rfF x y = -1 by rw [rfF, z_f h4]; rfl).symm
    · rfl
  · refine z_iload_n (pc := 7) dX7_parts_7 rfl ?_
    refine z_cS1 (pc := 8) c_X7_isThing (q_cX7_150 _ (by decide)) rfl dX7_parts_8 ?_
    refine z_if_ne (pc := 11) (tgt := 16) dX7_parts_11 (by decide) (fun h11 => ?_) (fun h11 => ?_)
    · refine z_iload_n (pc := 16) dX7_parts_16 rfl ?_
      refine z_iload_n (pc := 17) dX7_parts_17 rfl ?_
      refine z_icmp_eq (pc := 18) (tgt := 31) dX7_parts_18 (by decide) (fun h18 => ?_) (fun h18 => ?_)
      · refine z_bipush (pc := 31) (v := (-2)) dX7_parts_31 (by decide) ?_
        refine z_iret (pc := 33) rfl dX7_parts_33 ?_ ?_
        · exact (show rfF x y = -2 by rw [rfF, z_t h4, z_t h11, show x = y from h18]; simp).symm
        · rfl
      · exact absurd (show rfF x y = 0 by rw [rfF, z_t h4, z_t h11]; exact if_neg h18) h
    · refine z_iconst (pc := 14) (v := (-1)) dX7_parts_14 (by decide) ?_
      refine z_iret (pc := 15) rfl dX7_parts_15 ?_ ?_
      · exact (show rfF x y = -1 by rw [rfF, z_f h11, Bool.and_false]; rfl).symm
      · rfl
set_option maxRecDepth 100000 in
set_option maxHeartbeats 400000 in
theorem o_X7_parts_no1 {M : z_Mem} {l : Nat → Int32} {n : Nat} {T : TT} {U : UT} {D : DT} {p : PLt} {A : List PLt} {k0 k1 : Option PLt} {L : List (Int32 × Int32)} {sd : Int64} (hR : RM M l n T U D p A k0 k1 L sd) {x y v : Int32} (h : rfF x y = 0) (h2 : v < 0 ∨ 1 < v) : z_Ct mX7_parts [.ref 59, .int x, .int y, .int v] M (some (.int (-2))) M := by
  obtain ⟨rS, rT, rU, rD, rp, rA, r0, r1, rL, rs⟩ := id hR
  obtain ⟨hx, hy, hxy⟩ := rf_at h
  have hin := inB_no (b := 0) (c := 1) 0 1 (by decide) (by decide) h2

  refine z_entry (by decide +kernel) (Nat.le_of_ble_eq_true rfl) rfl ?_
  show z_Sm mX7_parts _ _ 0 [some (.ref 59), some (.int x), some (.int y), some (.int v), none, none] [] M
  refine z_iload_n (pc := 0) dX7_parts_0 rfl ?_
  refine z_cS1 (pc := 1) c_X7_isThing (q_cX7_150 _ (by decide)) rfl dX7_parts_1 ?_
  refine z_if_eq (pc := 4) (tgt := 14) dX7_parts_4 (by decide) (fun h4 => ?_) (fun h4 => ?_)
  · rw [hx] at h4; exact absurd h4 (by decide)
  · refine z_iload_n (pc := 7) dX7_parts_7 rfl ?_
    refine z_cS1 (pc := 8) c_X7_isThing (q_cX7_150 _ (by decide)) rfl dX7_parts_8 ?_
    refine z_if_ne (pc := 11) (tgt := 16) dX7_parts_11 (by decide) (fun h11 => ?_) (fun h11 => ?_)
    · refine z_iload_n (pc := 16) dX7_parts_16 rfl ?_
      refine z_iload_n (pc := 17) dX7_parts_17 rfl ?_
      refine z_icmp_eq (pc := 18) (tgt := 31) dX7_parts_18 (by decide) (fun h18 => ?_) (fun h18 => ?_)
      · exact absurd h18 hxy
      · refine z_iload_n (pc := 21) dX7_parts_21 rfl ?_
        refine z_i2l (pc := 22) dX7_parts_22 rfl ?_
        refine z_lconst (pc := 23) (v := 0) dX7_parts_23 (by decide) ?_
        refine z_lconst (pc := 24) (v := 1) dX7_parts_24 (by decide) ?_
        refine z_cS3 (pc := 25) c_X7_in (q_cX7_70 _ (by decide)) rfl dX7_parts_25 ?_
        refine z_if_ne (pc := 28) (tgt := 34) dX7_parts_28 (by decide) (fun h28 => ?_) (fun h28 => ?_)
        · rw [hin] at h28; exact absurd rfl h28
        · refine z_bipush (pc := 31) (v := (-2)) dX7_parts_31 (by decide) ?_
          refine z_iret (pc := 33) rfl dX7_parts_33 ?_ ?_
          · rfl
          · rfl
    · rw [hy] at h11; exact absurd h11 (by decide)
theorem o_X7_parts_no {M : z_Mem} {l : Nat → Int32} {n : Nat} {T : TT} {U : UT} {D : DT} {p : PLt} {A : List PLt} {k0 k1 : Option PLt} {L : List (Int32 × Int32)} {sd : Int64} (hR : RM M l n T U D p A k0 k1 L sd) {x y v : Int32} (h : ¬ rfF x y = 0 ∨ v < 0 ∨ 1 < v) : z_Ct mX7_parts [.ref 59, .int x, .int y, .int v] M (some (.int (if rfF x y = 0 then -2 else rfF x y))) M := by
  by_cases q : rfF x y = 0
  · rw [if_pos q]
    exact o_X7_parts_no1 hR q (h.resolve_left (fun z => z q))
  · rw [if_neg q]
    exact o_X7_parts_no0 hR q
set_option maxRecDepth 100000 in
set_option maxHeartbeats 400000 in
theorem o_X7_parts {M : z_Mem} {l : Nat → Int32} {n : Nat} {T : TT} {U : UT} {D : DT} {p : PLt} {A : List PLt} {k0 k1 : Option PLt} {L : List (Int32 × Int32)} {sd : Int64} (hR : RM M l n T U D p A k0 k1 L sd) {x y v : Int32} (h : rfF x y = 0) (h2 : ¬ (v < 0 ∨ 1 < v)) : ∃ M1, z_Ct mX7_parts [.ref 59, .int x, .int y, .int v] M (some (.int (paF T p x.toNatClampNeg y.toNatClampNeg v))) M1 ∧ RM M1 l n T U D p A k0 k1 L sd ∧ Fm M M1 := by
  obtain ⟨rS, rT, rU, rD, rp, rA, r0, r1, rL, rs⟩ := id hR
  obtain ⟨hx, hy, hxy⟩ := rf_at h
  have htx := thg_at hx
  have hty := thg_at hy
  have hnn : x.toNatClampNeg ≠ y.toNatClampNeg := fun q => hxy (by rw [htx.2, hty.2, q])
  have hin := inB_yes (x := v) (b := 0) (c := 1) 0 1 (by decide) (by decide) h2
  have e0 : M.1 68 0 = p.1 := rp.1
  have hat := c_X7_isTogether rT (o := p.1) htx.2 hty.2 htx.1 hty.1
  by_cases hb : tog p.1 T.2.1 T.2.2.1 T.1 x.toNatClampNeg y.toNatClampNeg = true
  · obtain ⟨M2, k2, q2⟩ := s_X7_parts_63 (v := v) htx.2 hty.2 htx.1 hty.1 9 M 1 1 rT rp rfl (by omega)
    refine ⟨M2, ?_, RM_th hR q2, q2.1.fm (by simp)⟩
    rw [paF, if_pos hb]
    rw [hb] at hat
    refine z_entry (by decide +kernel) (Nat.le_of_ble_eq_true rfl) rfl ?_
    show z_Sm mX7_parts _ _ 0 [some (.ref 59), some (.int x), some (.int y), some (.int v), none, none] [] M
    refine z_iload_n (pc := 0) dX7_parts_0 rfl ?_
    refine z_cS1 (pc := 1) c_X7_isThing (q_cX7_150 _ (by decide)) rfl dX7_parts_1 ?_
    refine z_if_eq (pc := 4) (tgt := 14) dX7_parts_4 (by decide) (fun h4 => ?_) (fun h4 => ?_)
    · rw [hx] at h4; exact absurd h4 (by decide)
    · refine z_iload_n (pc := 7) dX7_parts_7 rfl ?_
      refine z_cS1 (pc := 8) c_X7_isThing (q_cX7_150 _ (by decide)) rfl dX7_parts_8 ?_
      refine z_if_ne (pc := 11) (tgt := 16) dX7_parts_11 (by decide) (fun h11 => ?_) (fun h11 => ?_)
      · refine z_iload_n (pc := 16) dX7_parts_16 rfl ?_
        refine z_iload_n (pc := 17) dX7_parts_17 rfl ?_
        refine z_icmp_eq (pc := 18) (tgt := 31) dX7_parts_18 (by decide) (fun h18 => ?_) (fun h18 => ?_)
        · exact absurd h18 hxy
        · refine z_iload_n (pc := 21) dX7_parts_21 rfl ?_
          refine z_i2l (pc := 22) dX7_parts_22 rfl ?_
          refine z_lconst (pc := 23) (v := 0) dX7_parts_23 (by decide) ?_
          refine z_lconst (pc := 24) (v := 1) dX7_parts_24 (by decide) ?_
          refine z_cS3 (pc := 25) c_X7_in (q_cX7_70 _ (by decide)) rfl dX7_parts_25 ?_
          refine z_if_ne (pc := 28) (tgt := 34) dX7_parts_28 (by decide) (fun h28 => ?_) (fun h28 => ?_)
          · refine z_aload_n (pc := 34) dX7_parts_34 rfl ?_
            refine z_iload_n (pc := 35) dX7_parts_35 rfl ?_
            refine z_iload_n (pc := 36) dX7_parts_36 rfl ?_
            refine z_aload_n (pc := 37) dX7_parts_37 rfl ?_
            refine z_getR (pc := 38) 68 q_fX7_34 z_s59 rfl dX7_parts_38 ?_
            refine z_iconst (pc := 41) (v := 0) dX7_parts_41 (by decide) ?_
            refine z_iald (pc := 42) (0) z_s68 ⟨rfl, by omega⟩ dX7_parts_42 ?_
            rw [e0]
            refine z_cV3 (pc := 43) hat (q_cX7_126 _ (by decide)) z_s59 rfl rfl dX7_parts_43 ?_
            refine z_if_ne (pc := 46) (tgt := 60) dX7_parts_46 (by decide) (fun h46 => ?_) (fun h46 => ?_)
            · refine z_iconst (pc := 60) (v := 1) dX7_parts_60 (by decide) ?_
              refine z_istore (pc := 61) dX7_parts_61 rfl (by decide) ?_
              exact k2
            · exact absurd h46 (by decide)
          · rw [hin] at h28; exact absurd h28 (by decide)
      · rw [hy] at h11; exact absurd h11 (by decide)
  · refine ⟨M, ?_, hR, Fm.rf⟩
    rw [paF, if_neg hb]
    rw [if_neg hb] at hat
    refine z_entry (by decide +kernel) (Nat.le_of_ble_eq_true rfl) rfl ?_
    show z_Sm mX7_parts _ _ 0 [some (.ref 59), some (.int x), some (.int y), some (.int v), none, none] [] M
    refine z_iload_n (pc := 0) dX7_parts_0 rfl ?_
    refine z_cS1 (pc := 1) c_X7_isThing (q_cX7_150 _ (by decide)) rfl dX7_parts_1 ?_
    refine z_if_eq (pc := 4) (tgt := 14) dX7_parts_4 (by decide) (fun h4 => ?_) (fun h4 => ?_)
    · rw [hx] at h4; exact absurd h4 (by decide)
    · refine z_iload_n (pc := 7) dX7_parts_7 rfl ?_
      refine z_cS1 (pc := 8) c_X7_isThing (q_cX7_150 _ (by decide)) rfl dX7_parts_8 ?_
      refine z_if_ne (pc := 11) (tgt := 16) dX7_parts_11 (by decide) (fun h11 => ?_) (fun h11 => ?_)
      · refine z_iload_n (pc := 16) dX7_parts_16 rfl ?_
        refine z_iload_n (pc := 17) dX7_parts_17 rfl ?_
        refine z_icmp_eq (pc := 18) (tgt := 31) dX7_parts_18 (by decide) (fun h18 => ?_) (fun h18 => ?_)
        · exact absurd h18 hxy
        · refine z_iload_n (pc := 21) dX7_parts_21 rfl ?_
          refine z_i2l (pc := 22) dX7_parts_22 rfl ?_
          refine z_lconst (pc := 23) (v := 0) dX7_parts_23 (by decide) ?_
          refine z_lconst (pc := 24) (v := 1) dX7_parts_24 (by decide) ?_
          refine z_cS3 (pc := 25) c_X7_in (q_cX7_70 _ (by decide)) rfl dX7_parts_25 ?_
          refine z_if_ne (pc := 28) (tgt := 34) dX7_parts_28 (by decide) (fun h28 => ?_) (fun h28 => ?_)
          · refine z_aload_n (pc := 34) dX7_parts_34 rfl ?_
            refine z_iload_n (pc := 35) dX7_parts_35 rfl ?_
            refine z_iload_n (pc := 36) dX7_parts_36 rfl ?_
            refine z_aload_n (pc := 37) dX7_parts_37 rfl ?_
            refine z_getR (pc := 38) 68 q_fX7_34 z_s59 rfl dX7_parts_38 ?_
            refine z_iconst (pc := 41) (v := 0) dX7_parts_41 (by decide) ?_
            refine z_iald (pc := 42) (0) z_s68 ⟨rfl, by omega⟩ dX7_parts_42 ?_
            rw [e0]
            refine z_cV3 (pc := 43) hat (q_cX7_126 _ (by decide)) z_s59 rfl rfl dX7_parts_43 ?_
            refine z_if_ne (pc := 46) (tgt := 60) dX7_parts_46 (by decide) (fun h46 => ?_) (fun h46 => ?_)
            · exact absurd rfl h46
            · refine z_iload_n (pc := 49) dX7_parts_49 rfl ?_
              refine z_if_ne (pc := 50) (tgt := 57) dX7_parts_50 (by decide) (fun h50 => ?_) (fun h50 => ?_)
              · refine z_bipush (pc := 57) (v := (-9)) dX7_parts_57 (by decide) ?_
                refine z_iret (pc := 59) rfl dX7_parts_59 ?_ ?_
                · exact (if_neg h50).symm
                · rfl
              · refine z_iconst (pc := 53) (v := 0) dX7_parts_53 (by decide) ?_
                refine z_goto (pc := 54) (tgt := 59) dX7_parts_54 (by decide) ?_
                refine z_iret (pc := 59) rfl dX7_parts_59 ?_ ?_
                · exact (if_pos h50).symm
                · rfl
          · rw [hin] at h28; exact absurd h28 (by decide)
      · rw [hy] at h11; exact absurd h11 (by decide)
