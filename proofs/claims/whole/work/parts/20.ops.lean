set_option maxRecDepth 100000 in
set_option maxHeartbeats 400000 in
theorem o_X6_write_no {M : z_Mem} {l : Nat → Int32} {n : Nat} {T : TT} {U : UT} {D : DT} {p : PLt} {A : List PLt} {k0 k1 : Option PLt} {L : List (Int32 × Int32)} {sd : Int64} (hR : RX M l n T U D p A k0 k1 L sd) {x : Int32} (h : (x < 0 ∨ 255 < x) ∨ 60 ≤ n) : z_Ct mX6_write [.ref 0, .int x] M (some (.int (if x < 0 ∨ 255 < x then -2 else -4))) M := by
  obtain ⟨rS, rT, rU, rD, rp, rA, r0, r1, rL, rs⟩ := id hR

  refine z_entry (by decide +kernel) (Nat.le_of_ble_eq_true rfl) rfl ?_
  show z_Sm mX6_write _ _ 0 [some (.ref 0), some (.int x)] [] M
  refine z_iload_n (pc := 0) dX6_write_0 rfl ?_
  refine z_if_lt (pc := 1) (tgt := 11) dX6_write_1 (by decide) (fun h1 => ?_) (fun h1 => ?_)
  · refine z_bipush (pc := 11) (v := (-2)) dX6_write_11 (by decide) ?_
    refine z_iret (pc := 13) rfl dX6_write_13 ?_ ?_
    · exact (if_pos (Or.inl h1)).symm
    · rfl
  · refine z_iload_n (pc := 4) dX6_write_4 rfl ?_
    refine z_sipush (pc := 5) (v := 255) dX6_write_5 (by decide) ?_
    refine z_icmp_le (pc := 8) (tgt := 14) dX6_write_8 (by decide) (fun h8 => ?_) (fun h8 => ?_)
    · refine z_aload_n (pc := 14) dX6_write_14 rfl ?_
      refine z_getR (pc := 15) 1 q_fX6_10 z_s0 rfl dX6_write_15 ?_
      refine z_getI (pc := 18) q_fX6_75 z_s1 rfl dX6_write_18 ?_
      refine z_bipush (pc := 21) (v := 60) dX6_write_21 (by decide) ?_
      refine z_icmp_lt (pc := 23) (tgt := 29) dX6_write_23 (by decide) (fun h23 => ?_) (fun h23 => ?_)
      · exfalso
        rw [rS.1] at h23
        rcases h with (h | h) | h
        · exact h1 h
        · exact (Int32.not_lt.mpr h8) h
        · exact (nI_nlt (b := 60) h (by have := rS.2.1; omega)) h23
      · refine z_bipush (pc := 26) (v := (-4)) dX6_write_26 (by decide) ?_
        refine z_iret (pc := 28) rfl dX6_write_28 ?_ ?_
        · exact (if_neg (fun q => q.elim h1 (Int32.not_lt.mpr h8))).symm
        · rfl
    · refine z_bipush (pc := 11) (v := (-2)) dX6_write_11 (by decide) ?_
      refine z_iret (pc := 13) rfl dX6_write_13 ?_ ?_
      · exact (if_pos (Or.inr (Int32.not_le.mp h8))).symm
      · rfl
set_option maxRecDepth 100000 in
set_option maxHeartbeats 400000 in
theorem o_X6_write {M : z_Mem} {l : Nat → Int32} {n : Nat} {T : TT} {U : UT} {D : DT} {p : PLt} {A : List PLt} {k0 k1 : Option PLt} {L : List (Int32 × Int32)} {sd : Int64} (hR : RX M l n T U D p A k0 k1 L sd) {x : Int32} (h : ¬ (x < 0 ∨ 255 < x)) (hn : n < 60) : ∃ M1, z_Ct mX6_write [.ref 0, .int x] M (some (.int (nI (n + 1)))) M1 ∧ RX M1 (upd l n x) (n + 1) T U D p A k0 k1 L sd ∧ Fx M M1 := by
  obtain ⟨rS, rT, rU, rD, rp, rA, r0, r1, rL, rs⟩ := id hR
  obtain ⟨N, hc, hN, hs⟩ := c_X3_add rS hn (x := x)
  refine ⟨N, ?_, ?_, ?_⟩
  · refine z_entry (by decide +kernel) (Nat.le_of_ble_eq_true rfl) rfl ?_
    show z_Sm mX6_write _ _ 0 [some (.ref 0), some (.int x)] [] M
    refine z_iload_n (pc := 0) dX6_write_0 rfl ?_
    refine z_if_lt (pc := 1) (tgt := 11) dX6_write_1 (by decide) (fun h1 => ?_) (fun h1 => ?_)
    · exact absurd (Or.inl h1) h
    · refine z_iload_n (pc := 4) dX6_write_4 rfl ?_
      refine z_sipush (pc := 5) (v := 255) dX6_write_5 (by decide) ?_
      refine z_icmp_le (pc := 8) (tgt := 14) dX6_write_8 (by decide) (fun h8 => ?_) (fun h8 => ?_)
      · refine z_aload_n (pc := 14) dX6_write_14 rfl ?_
        refine z_getR (pc := 15) 1 q_fX6_10 z_s0 rfl dX6_write_15 ?_
        refine z_getI (pc := 18) q_fX6_75 z_s1 rfl dX6_write_18 ?_
        refine z_bipush (pc := 21) (v := 60) dX6_write_21 (by decide) ?_
        refine z_icmp_lt (pc := 23) (tgt := 29) dX6_write_23 (by decide) (fun h23 => ?_) (fun h23 => ?_)
        · refine z_aload_n (pc := 29) dX6_write_29 rfl ?_
          refine z_getR (pc := 30) 1 q_fX6_10 z_s0 rfl dX6_write_30 ?_
          refine z_iload_n (pc := 33) dX6_write_33 rfl ?_
          refine z_cV1v (pc := 34) hc (q_cX6_79 _ (by decide)) z_s1 rfl rfl dX6_write_34 ?_
          refine z_aload_n (pc := 37) dX6_write_37 rfl ?_
          refine z_getR (pc := 38) 1 q_fX6_10 z_s0 rfl dX6_write_38 ?_
          refine z_getI (pc := 41) q_fX6_75 z_s1 rfl dX6_write_41 ?_
          refine z_iret (pc := 44) rfl dX6_write_44 ?_ ?_
          · exact hN.1
          · rfl
        · exact absurd (by rw [rS.1]; exact nI_lt (b := 60) hn (by decide)) h23
      · exact absurd (Or.inr (Int32.not_le.mp h8)) h
  · exact ⟨hN, TK_sb rT hs (by simp), UK_sb rU hs (by simp) (by simp) (by simp), DK_sb rD hs (by simp) (by simp) (by simp), PlAt_sb rp hs (by simp) (by simp), AcAt_sb rA hs (by simp), KpAt_sb r0 hs (by simp) (by simp) (by simp), KpAt_sb r1 hs (by simp) (by simp) (by simp), TrAt_sb rL hs (by simp) (by simp) (by simp), by rw [hs.2]; exact rs⟩
  · exact hs.fx (by simp)
set_option maxRecDepth 100000 in
set_option maxHeartbeats 400000 in
theorem o_X6_wipe {M : z_Mem} {l : Nat → Int32} {n : Nat} {T : TT} {U : UT} {D : DT} {p : PLt} {A : List PLt} {k0 k1 : Option PLt} {L : List (Int32 × Int32)} {sd : Int64} (hR : RX M l n T U D p A k0 k1 L sd)  : ∃ M1, z_Ct mX6_wipe [.ref 0] M (some (.int (nI n))) M1 ∧ RX M1 l 0 T U D p A k0 k1 L sd ∧ Fx M M1 := by
  obtain ⟨rS, rT, rU, rD, rp, rA, r0, r1, rL, rs⟩ := id hR
  have hs : Sb [1] M (z_set M 1 1 0) := Sb.set _ (by simp)
  refine ⟨z_set M 1 1 0, ?_, ?_, ?_⟩
  · refine z_entry (by decide +kernel) (Nat.le_of_ble_eq_true rfl) rfl ?_
    show z_Sm mX6_wipe _ _ 0 [some (.ref 0), none] [] M
    refine z_aload_n (pc := 0) dX6_wipe_0 rfl ?_
    refine z_getR (pc := 1) 1 q_fX6_10 z_s0 rfl dX6_wipe_1 ?_
    refine z_getI (pc := 4) q_fX6_75 z_s1 rfl dX6_wipe_4 ?_
    refine z_istore_n (pc := 7) dX6_wipe_7 rfl (by decide) ?_
    refine z_aload_n (pc := 8) dX6_wipe_8 rfl ?_
    refine z_getR (pc := 9) 1 q_fX6_10 z_s0 rfl dX6_wipe_9 ?_
    refine z_iconst (pc := 12) (v := 0) dX6_wipe_12 (by decide) ?_
    refine z_putI (pc := 13) q_fX6_75 q_p3_1 z_s1 rfl dX6_wipe_13 ?_
    refine z_iload_n (pc := 16) dX6_wipe_16 rfl ?_
    refine z_iret (pc := 17) rfl dX6_wipe_17 ?_ ?_
    · exact rS.1
    · rfl
  · exact ⟨⟨by rw [z_set, z_row_1, upd_1]; rfl, by decide, fun i hi => absurd hi (Nat.not_lt_zero i)⟩, TK_sb rT hs (by simp), UK_sb rU hs (by simp) (by simp) (by simp), DK_sb rD hs (by simp) (by simp) (by simp), PlAt_sb rp hs (by simp) (by simp), AcAt_sb rA hs (by simp), KpAt_sb r0 hs (by simp) (by simp) (by simp), KpAt_sb r1 hs (by simp) (by simp) (by simp), TrAt_sb rL hs (by simp) (by simp) (by simp), rs⟩
  · exact hs.fx (by simp)
set_option maxRecDepth 100000 in
set_option maxHeartbeats 400000 in
theorem o_X6_fault {M : z_Mem} {l : Nat → Int32} {n : Nat} {T : TT} {U : UT} {D : DT} {p : PLt} {A : List PLt} {k0 k1 : Option PLt} {L : List (Int32 × Int32)} {sd : Int64} (hR : RX M l n T U D p A k0 k1 L sd)  : z_Ct mX6_fault [.ref 0] M (some (.int (faF l n))) M := by
  obtain ⟨rS, rT, rU, rD, rp, rA, r0, r1, rL, rs⟩ := id hR

  refine z_entry (by decide +kernel) (Nat.le_of_ble_eq_true rfl) rfl ?_
  show z_Sm mX6_fault _ _ 0 [some (.ref 0)] [] M
  refine z_aload_n (pc := 0) dX6_fault_0 rfl ?_
  refine z_getR (pc := 1) 1 q_fX6_10 z_s0 rfl dX6_fault_1 ?_
  refine z_cV0 (pc := 4) (c_X3_firstFault rS) (q_cX6_83 _ (by decide)) z_s1 rfl rfl dX6_fault_4 ?_
  refine z_iret (pc := 7) rfl dX6_fault_7 ?_ ?_
  · rfl
  · rfl
set_option maxRecDepth 100000 in
set_option maxHeartbeats 400000 in
theorem o_X6_town_no {M : z_Mem} {l : Nat → Int32} {n : Nat} {T : TT} {U : UT} {D : DT} {p : PLt} {A : List PLt} {k0 k1 : Option PLt} {L : List (Int32 × Int32)} {sd : Int64} (hR : RX M l n T U D p A k0 k1 L sd) (h : ¬ faF l n = -9) : z_Ct mX6_town [.ref 0] M (some (.int (-3))) M := by
  obtain ⟨rS, rT, rU, rD, rp, rA, r0, r1, rL, rs⟩ := id hR

  refine z_entry (by decide +kernel) (Nat.le_of_ble_eq_true rfl) rfl ?_
  show z_Sm mX6_town _ _ 0 [some (.ref 0), none] [] M
  refine z_aload_n (pc := 0) dX6_town_0 rfl ?_
  refine z_getR (pc := 1) 1 q_fX6_10 z_s0 rfl dX6_town_1 ?_
  refine z_cV0 (pc := 4) (c_X3_firstFault rS) (q_cX6_83 _ (by decide)) z_s1 rfl rfl dX6_town_4 ?_
  refine z_bipush (pc := 7) (v := (-9)) dX6_town_7 (by decide) ?_
  refine z_icmp_eq (pc := 9) (tgt := 15) dX6_town_9 (by decide) (fun h9 => ?_) (fun h9 => ?_)
  · exact absurd h9 h
  · refine z_bipush (pc := 12) (v := (-3)) dX6_town_12 (by decide) ?_
    refine z_iret (pc := 14) rfl dX6_town_14 ?_ ?_
    · rfl
    · rfl
theorem z_bool0 : vp_nar .boolean (0 : Int32) = 0 := by decide
theorem z_bool1 : vp_nar .boolean (1 : Int32) = 1 := by decide
set_option maxRecDepth 100000 in
set_option maxHeartbeats 400000 in
theorem s_X6_town_42 {M M2 : z_Mem} {r : Option Value}  (kk : z_Sm mX6_town r M2 60 [some (.ref 0), none] [] (z_row M 53 (cpF (2) (fun _ => 0) (M.1 53)))) (j : Nat) (hj : j ≤ 2) (ij : Int32) (Mj : z_Mem) (h2 : ij = nI j) (hM : Mj = z_row M 53 (cpF j (fun _ => 0) (M.1 53))) : z_Sm mX6_town r M2 42 [some (.ref 0), some (.int ij)] [] Mj := by
  refine z_iload_n (pc := 42) dX6_town_42 rfl ?_
  refine z_iconst (pc := 43) (v := 2) dX6_town_43 (by decide) ?_
  refine z_icmp_ge (pc := 44) (tgt := 60) dX6_town_44 (by decide) (fun h44 => ?_) (fun h44 => ?_)
  · have hNj : 2 ≤ j := by
      have := z_ge h44 h2 (show (2 : Int32) = nI 2 from rfl) (by omega) (by omega)
      omega
    obtain rfl : j = 2 := by omega
    subst hM
    exact z_drop 1 kk
  · have hlt : j < 2 := by
      have := z_lt h44 h2 (show (2 : Int32) = nI 2 from rfl) (by omega) (by omega)
      omega
    refine z_aload_n (pc := 47) dX6_town_47 rfl ?_
    refine z_getR (pc := 48) 53 q_fX6_53 z_s0 rfl dX6_town_48 ?_
    refine z_iload_n (pc := 51) dX6_town_51 rfl ?_
    refine z_iconst (pc := 52) (v := 0) dX6_town_52 (by decide) ?_
    refine z_zast (pc := 53) (j) z_s53 ⟨h2, hlt, by decide⟩ z_bool0 dX6_town_53 ?_
    refine z_iinc (pc := 54) dX6_town_54 rfl rfl rfl (by decide) ?_
    refine z_goto (pc := 57) (tgt := 42) dX6_town_57 (by decide) ?_
    exact s_X6_town_42  kk (j + 1) hlt _ _ (z_n1 h2) (by rw [hM, z_set, z_row_1, z_row_row]; exact congrArg (z_row M 53) (cpF_s j (fun _ => 0) (M.1 53)))
termination_by 2 - j
decreasing_by all_goals omega
set_option maxRecDepth 100000 in
set_option maxHeartbeats 400000 in
theorem o_X6_town {M : z_Mem} {l : Nat → Int32} {n : Nat} {T : TT} {U : UT} {D : DT} {p : PLt} {A : List PLt} {k0 k1 : Option PLt} {L : List (Int32 × Int32)} {sd : Int64} (hR : RX M l n T U D p A k0 k1 L sd) (h : faF l n = -9) : ∃ M1, z_Ct mX6_town [.ref 0] M (some (.int (100 * nI (twP l n).1 + 10 * nI (twU l n).1 + nI (twD l n).1))) M1 ∧ RX M1 l n (twP l n) (twU l n) (twD l n) (0, fun _ => 0, 0) [] none none L sd ∧ Fx M M1 := by
  obtain ⟨rS, rT, rU, rD, rp, rA, r0, r1, rL, rs⟩ := id hR
  obtain ⟨N, hN, t1, t2, t3, s1⟩ := c_X4_readFrom rS h
  obtain ⟨N2, hN2, b1, s2⟩ := c_X2_begin (M := N)
  have s3 : Sb [18] N2 (z_set N2 18 2 0) := Sb.set _ (by simp)
  have s4 : Sb [53] (z_set N2 18 2 0) (z_row (z_set N2 18 2 0) 53 (cpF 2 (fun _ => 0) ((z_set N2 18 2 0).1 53))) := Sb.row _ (by simp)
  have sall : Sb [3, 4, 5, 6, 7, 8, 9, 10, 11, 14, 15, 18, 53] M (z_row (z_set N2 18 2 0) 53 (cpF 2 (fun _ => 0) ((z_set N2 18 2 0).1 53))) := (((s1.wk (by simp)).tr (s2.wk (by simp))).tr (s3.wk (by simp))).tr (s4.wk (by simp))
  have sl : Sb [14, 15, 18, 53] N (z_row (z_set N2 18 2 0) 53 (cpF 2 (fun _ => 0) ((z_set N2 18 2 0).1 53))) := ((s2.wk (by simp)).tr (s3.wk (by simp))).tr (s4.wk (by simp))
  have st : Sb [18, 53] N2 (z_row (z_set N2 18 2 0) 53 (cpF 2 (fun _ => 0) ((z_set N2 18 2 0).1 53))) := (s3.wk (by simp)).tr (s4.wk (by simp))
  obtain ⟨t, ht, a1, a2, a3, a4⟩ := rA
  have u3 := (UK_sb t2 sl (by simp) (by simp) (by simp)).1
  have d3 := (DK_sb t3 sl (by simp) (by simp) (by simp)).1
  have p3 := (TK_sb t1 sl (by simp)).1.1
  refine ⟨z_row (z_set N2 18 2 0) 53 (cpF 2 (fun _ => 0) ((z_set N2 18 2 0).1 53)), ?_, ?_, ?_⟩
  · refine z_entry (by decide +kernel) (Nat.le_of_ble_eq_true rfl) rfl ?_
    show z_Sm mX6_town _ _ 0 [some (.ref 0), none] [] M
    refine z_aload_n (pc := 0) dX6_town_0 rfl ?_
    refine z_getR (pc := 1) 1 q_fX6_10 z_s0 rfl dX6_town_1 ?_
    refine z_cV0 (pc := 4) (c_X3_firstFault rS) (q_cX6_83 _ (by decide)) z_s1 rfl rfl dX6_town_4 ?_
    refine z_bipush (pc := 7) (v := (-9)) dX6_town_7 (by decide) ?_
    refine z_icmp_eq (pc := 9) (tgt := 15) dX6_town_9 (by decide) (fun h9 => ?_) (fun h9 => ?_)
    · refine z_aload_n (pc := 15) dX6_town_15 rfl ?_
      refine z_getR (pc := 16) 3 q_fX6_19 z_s0 rfl dX6_town_16 ?_
      refine z_aload_n (pc := 19) dX6_town_19 rfl ?_
      refine z_getR (pc := 20) 1 q_fX6_10 z_s0 rfl dX6_town_20 ?_
      refine z_cV1v (pc := 23) hN (q_cX6_87 _ (by decide)) z_s3 rfl rfl dX6_town_23 ?_
      refine z_aload_n (pc := 26) dX6_town_26 rfl ?_
      refine z_getR (pc := 27) 14 q_fX6_35 z_s0 rfl dX6_town_27 ?_
      refine z_cV0v (pc := 30) hN2 (q_cX6_91 _ (by decide)) z_s14 rfl rfl dX6_town_30 ?_
      refine z_aload_n (pc := 33) dX6_town_33 rfl ?_
      refine z_getR (pc := 34) 18 q_fX6_45 z_s0 rfl dX6_town_34 ?_
      refine z_cV0v (pc := 37) c_X0_forget (q_cX6_94 _ (by decide)) z_s18 rfl rfl dX6_town_37 ?_
      refine z_iconst (pc := 40) (v := 0) dX6_town_40 (by decide) ?_
      refine z_istore_n (pc := 41) dX6_town_41 rfl (by decide) ?_
      refine s_X6_town_42 ?_ 0 (by omega) _ _ rfl (by rw [cpF_0, z_row_same])
      refine z_bipush (pc := 60) (v := 100) dX6_town_60 (by decide) ?_
      refine z_aload_n (pc := 62) dX6_town_62 rfl ?_
      refine z_getR (pc := 63) 3 q_fX6_19 z_s0 rfl dX6_town_63 ?_
      refine z_getI (pc := 66) q_fX6_97 z_s3 rfl dX6_town_66 ?_
      refine z_imul (pc := 69) dX6_town_69 ?_
      refine z_bipush (pc := 70) (v := 10) dX6_town_70 (by decide) ?_
      refine z_aload_n (pc := 72) dX6_town_72 rfl ?_
      refine z_getR (pc := 73) 3 q_fX6_19 z_s0 rfl dX6_town_73 ?_
      refine z_getI (pc := 76) q_fX6_100 z_s3 rfl dX6_town_76 ?_
      refine z_imul (pc := 79) dX6_town_79 ?_
      refine z_iadd (pc := 80) dX6_town_80 ?_
      refine z_aload_n (pc := 81) dX6_town_81 rfl ?_
      refine z_getR (pc := 82) 3 q_fX6_19 z_s0 rfl dX6_town_82 ?_
      refine z_getI (pc := 85) q_fX6_103 z_s3 rfl dX6_town_85 ?_
      refine z_iadd (pc := 88) dX6_town_88 ?_
      refine z_iret (pc := 89) rfl dX6_town_89 ?_ ?_
      · rw [p3, u3, d3]
      · rfl
    · exact absurd h h9
  · refine ⟨ScAt_sb rS sall (by simp) (by simp), TK_sb t1 sl (by simp), UK_sb t2 sl (by simp) (by simp) (by simp), DK_sb t3 sl (by simp) (by simp) (by simp), PlAt_sb b1 st (by simp) (by simp), ⟨t, ht, ?_, ?_, by simp, fun i pl hi => by simp at hi⟩, ?_, ?_, TrAt_sb rL sall (by simp) (by simp) (by simp), by rw [sall.2]; exact rs⟩
    · rw [s4.1 18 (by simp), z_set, z_row_1, upd_n _ _ (by decide), s2.1 18 (by simp), s1.1 18 (by simp)]; exact a1
    · rw [s4.1 18 (by simp), z_set, z_row_1, upd_1]; rfl
    · show (z_row _ 53 _).1 53 0 = 0
      rw [z_row_1]; rfl
    · show (z_row _ 53 _).1 53 1 = 0
      rw [z_row_1]; rfl
  · exact sall.fx (by simp)
set_option maxRecDepth 100000 in
set_option maxHeartbeats 400000 in
theorem o_X6_with {M : z_Mem} {l : Nat → Int32} {n : Nat} {T : TT} {U : UT} {D : DT} {p : PLt} {A : List PLt} {k0 k1 : Option PLt} {L : List (Int32 × Int32)} {sd : Int64} (hR : RX M l n T U D p A k0 k1 L sd) {x : Int32} (h : thg x = true) : z_Ct mX6_with [.ref 0, .int x] M (some (.int (rOut p.1 T.2.1 T.2.2.1 T.1 5 (em x.toNatClampNeg)))) M := by
  obtain ⟨rS, rT, rU, rD, rp, rA, r0, r1, rL, rs⟩ := id hR

  refine z_entry (by decide +kernel) (Nat.le_of_ble_eq_true rfl) rfl ?_
  show z_Sm mX6_with _ _ 0 [some (.ref 0), some (.int x)] [] M
  refine z_iload_n (pc := 0) dX6_with_0 rfl ?_
  refine z_cS1 (pc := 1) c_X6_isThing (q_cX6_132 _ (by decide)) rfl dX6_with_1 ?_
  refine z_if_ne (pc := 4) (tgt := 9) dX6_with_4 (by decide) (fun h4 => ?_) (fun h4 => ?_)
  · refine z_aload_n (pc := 9) dX6_with_9 rfl ?_
    refine z_getR (pc := 10) 3 q_fX6_19 z_s0 rfl dX6_with_10 ?_
    refine z_iload_n (pc := 13) dX6_with_13 rfl ?_
    refine z_aload_n (pc := 14) dX6_with_14 rfl ?_
    refine z_getR (pc := 15) 14 q_fX6_35 z_s0 rfl dX6_with_15 ?_
    refine z_getI (pc := 18) q_fX6_135 z_s14 rfl dX6_with_18 ?_
    refine z_cV2 (pc := 21) (c_X4_reach rT.1 (thg_at h).2) (q_cX6_138 _ (by decide)) z_s3 rfl rfl dX6_with_21 ?_
    refine z_iret (pc := 24) rfl dX6_with_24 ?_ ?_
    · rw [rp.1]
    · rfl
  · rw [h] at h4; exact absurd h4 (by decide)
set_option maxRecDepth 100000 in
set_option maxHeartbeats 400000 in
theorem o_X6_with_no {M : z_Mem} {l : Nat → Int32} {n : Nat} {T : TT} {U : UT} {D : DT} {p : PLt} {A : List PLt} {k0 k1 : Option PLt} {L : List (Int32 × Int32)} {sd : Int64} (hR : RX M l n T U D p A k0 k1 L sd) {x : Int32} (h : thg x = false) : z_Ct mX6_with [.ref 0, .int x] M (some (.int (-1))) M := by
  obtain ⟨rS, rT, rU, rD, rp, rA, r0, r1, rL, rs⟩ := id hR

  refine z_entry (by decide +kernel) (Nat.le_of_ble_eq_true rfl) rfl ?_
  show z_Sm mX6_with _ _ 0 [some (.ref 0), some (.int x)] [] M
  refine z_iload_n (pc := 0) dX6_with_0 rfl ?_
  refine z_cS1 (pc := 1) c_X6_isThing (q_cX6_132 _ (by decide)) rfl dX6_with_1 ?_
  refine z_if_ne (pc := 4) (tgt := 9) dX6_with_4 (by decide) (fun h4 => ?_) (fun h4 => ?_)
  · rw [h] at h4; exact absurd rfl h4
  · refine z_iconst (pc := 7) (v := (-1)) dX6_with_7 (by decide) ?_
    refine z_iret (pc := 8) rfl dX6_with_8 ?_ ?_
    · rfl
    · rfl
