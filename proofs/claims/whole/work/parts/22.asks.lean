set_option maxRecDepth 100000 in
set_option maxHeartbeats 400000 in
theorem o_X6_trial {M : z_Mem} {l : Nat → Int32} {n : Nat} {T : TT} {U : UT} {D : DT} {p : PLt} {A : List PLt} {k0 k1 : Option PLt} {L : List (Int32 × Int32)} {sd : Int64} (hR : RX M l n T U D p A k0 k1 L sd) {x y : Int32} (h : ¬ (x < 0 ∨ 12 < x ∨ y < 0 ∨ 1 < y)) (hL : L.length < 6) : ∃ M1, z_Ct mX6_trial [.ref 0, .int x, .int y] M (some (.int (nI (L.length + 1)))) M1 ∧ RX M1 l n T U D p A k0 k1 (L ++ [(x, y)]) sd ∧ Fx M M1 := by
  obtain ⟨rS, rT, rU, rD, rp, rA, r0, r1, rL, rs⟩ := id hR
  have hy : y = 0 ∨ y = 1 := by
    have h0 : ¬ y < 0 := fun q => h (Or.inr (Or.inr (Or.inl q)))
    have h1 : y ≤ 1 := Int32.not_lt.mp (fun q => h (Or.inr (Or.inr (Or.inr q))))
    obtain ⟨j, hj, e⟩ := nI_of2 (M := 1) (n := 1) (by decide) h0 h1
    rcases (show j = 0 ∨ j = 1 by omega) with rfl | rfl
    · exact Or.inl e
    · exact Or.inr e
  obtain ⟨N, c1, t1, s1⟩ := c_X5_add rL hL (x := x) hy
  refine ⟨N, ?_, ?_, ?_⟩
  · refine z_entry (by decide +kernel) (Nat.le_of_ble_eq_true rfl) rfl ?_
    show z_Sm mX6_trial _ _ 0 [some (.ref 0), some (.int x), some (.int y)] [] M
    refine z_iload_n (pc := 0) dX6_trial_0 rfl ?_
    refine z_if_lt (pc := 1) (tgt := 19) dX6_trial_1 (by decide) (fun h1 => ?_) (fun h1 => ?_)
    · exact absurd (Or.inl h1) h
    · refine z_iload_n (pc := 4) dX6_trial_4 rfl ?_
      refine z_bipush (pc := 5) (v := 12) dX6_trial_5 (by decide) ?_
      refine z_icmp_gt (pc := 7) (tgt := 19) dX6_trial_7 (by decide) (fun h7 => ?_) (fun h7 => ?_)
      · exact absurd (Or.inr (Or.inl h7)) h
      · refine z_iload_n (pc := 10) dX6_trial_10 rfl ?_
        refine z_if_lt (pc := 11) (tgt := 19) dX6_trial_11 (by decide) (fun h11 => ?_) (fun h11 => ?_)
        · exact absurd (Or.inr (Or.inr (Or.inl h11))) h
        · refine z_iload_n (pc := 14) dX6_trial_14 rfl ?_
          refine z_iconst (pc := 15) (v := 1) dX6_trial_15 (by decide) ?_
          refine z_icmp_le (pc := 16) (tgt := 22) dX6_trial_16 (by decide) (fun h16 => ?_) (fun h16 => ?_)
          · refine z_aload_n (pc := 22) dX6_trial_22 rfl ?_
            refine z_getR (pc := 23) 54 q_fX6_60 z_s0 rfl dX6_trial_23 ?_
            refine z_getI (pc := 26) q_fX6_211 z_s54 rfl dX6_trial_26 ?_
            refine z_bipush (pc := 29) (v := 6) dX6_trial_29 (by decide) ?_
            refine z_icmp_lt (pc := 31) (tgt := 37) dX6_trial_31 (by decide) (fun h31 => ?_) (fun h31 => ?_)
            · refine z_aload_n (pc := 37) dX6_trial_37 rfl ?_
              refine z_getR (pc := 38) 54 q_fX6_60 z_s0 rfl dX6_trial_38 ?_
              refine z_iload_n (pc := 41) dX6_trial_41 rfl ?_
              refine z_iload_n (pc := 42) dX6_trial_42 rfl ?_
              refine z_iconst (pc := 43) (v := 1) dX6_trial_43 (by decide) ?_
              refine z_icmp_ne (pc := 44) (tgt := 51) dX6_trial_44 (by decide) (fun h44 => ?_) (fun h44 => ?_)
              · obtain rfl : y = 0 := by
                  rcases hy with q | q
                  · exact q
                  · exact absurd q h44
                refine z_iconst (pc := 51) (v := 0) dX6_trial_51 (by decide) ?_
                refine z_cV2v (pc := 52) c1 (q_cX6_212 _ (by decide)) z_s54 rfl rfl dX6_trial_52 ?_
                refine z_aload_n (pc := 55) dX6_trial_55 rfl ?_
                refine z_getR (pc := 56) 54 q_fX6_60 z_s0 rfl dX6_trial_56 ?_
                refine z_getI (pc := 59) q_fX6_211 z_s54 rfl dX6_trial_59 ?_
                refine z_iret (pc := 62) rfl dX6_trial_62 ?_ ?_
                · rw [t1.1, List.length_append]; rfl
                · rfl
              · obtain rfl : y = 1 := h44
                refine z_iconst (pc := 47) (v := 1) dX6_trial_47 (by decide) ?_
                refine z_goto (pc := 48) (tgt := 52) dX6_trial_48 (by decide) ?_
                refine z_cV2v (pc := 52) c1 (q_cX6_212 _ (by decide)) z_s54 rfl rfl dX6_trial_52 ?_
                refine z_aload_n (pc := 55) dX6_trial_55 rfl ?_
                refine z_getR (pc := 56) 54 q_fX6_60 z_s0 rfl dX6_trial_56 ?_
                refine z_getI (pc := 59) q_fX6_211 z_s54 rfl dX6_trial_59 ?_
                refine z_iret (pc := 62) rfl dX6_trial_62 ?_ ?_
                · rw [t1.1, List.length_append]; rfl
                · rfl
            · exact absurd (by rw [rL.1]; exact nI_lt (b := 6) hL (by decide)) h31
          · exact absurd (Or.inr (Or.inr (Or.inr (Int32.not_le.mp h16)))) h
  · exact ⟨ScAt_sb rS s1 (by simp) (by simp), TK_sb rT s1 (by simp), UK_sb rU s1 (by simp) (by simp) (by simp), DK_sb rD s1 (by simp) (by simp) (by simp), PlAt_sb rp s1 (by simp) (by simp), AcAt_sb rA s1 (by simp), KpAt_sb r0 s1 (by simp) (by simp) (by simp), KpAt_sb r1 s1 (by simp) (by simp) (by simp), t1, by rw [s1.2]; exact rs⟩
  · exact s1.fx (by simp)
set_option maxRecDepth 100000 in
set_option maxHeartbeats 400000 in
theorem o_X6_trial_no {M : z_Mem} {l : Nat → Int32} {n : Nat} {T : TT} {U : UT} {D : DT} {p : PLt} {A : List PLt} {k0 k1 : Option PLt} {L : List (Int32 × Int32)} {sd : Int64} (hR : RX M l n T U D p A k0 k1 L sd) {x y : Int32} (h : (x < 0 ∨ 12 < x ∨ y < 0 ∨ 1 < y) ∨ 6 ≤ L.length) : z_Ct mX6_trial [.ref 0, .int x, .int y] M (some (.int (if x < 0 ∨ 12 < x ∨ y < 0 ∨ 1 < y then -2 else -4))) M := by
  obtain ⟨rS, rT, rU, rD, rp, rA, r0, r1, rL, rs⟩ := id hR

  refine z_entry (by decide +kernel) (Nat.le_of_ble_eq_true rfl) rfl ?_
  show z_Sm mX6_trial _ _ 0 [some (.ref 0), some (.int x), some (.int y)] [] M
  refine z_iload_n (pc := 0) dX6_trial_0 rfl ?_
  refine z_if_lt (pc := 1) (tgt := 19) dX6_trial_1 (by decide) (fun h1 => ?_) (fun h1 => ?_)
  · refine z_bipush (pc := 19) (v := (-2)) dX6_trial_19 (by decide) ?_
    refine z_iret (pc := 21) rfl dX6_trial_21 ?_ ?_
    · exact (if_pos (Or.inl h1)).symm
    · rfl
  · refine z_iload_n (pc := 4) dX6_trial_4 rfl ?_
    refine z_bipush (pc := 5) (v := 12) dX6_trial_5 (by decide) ?_
    refine z_icmp_gt (pc := 7) (tgt := 19) dX6_trial_7 (by decide) (fun h7 => ?_) (fun h7 => ?_)
    · refine z_bipush (pc := 19) (v := (-2)) dX6_trial_19 (by decide) ?_
      refine z_iret (pc := 21) rfl dX6_trial_21 ?_ ?_
      · exact (if_pos (Or.inr (Or.inl h7))).symm
      · rfl
    · refine z_iload_n (pc := 10) dX6_trial_10 rfl ?_
      refine z_if_lt (pc := 11) (tgt := 19) dX6_trial_11 (by decide) (fun h11 => ?_) (fun h11 => ?_)
      · refine z_bipush (pc := 19) (v := (-2)) dX6_trial_19 (by decide) ?_
        refine z_iret (pc := 21) rfl dX6_trial_21 ?_ ?_
        · exact (if_pos (Or.inr (Or.inr (Or.inl h11)))).symm
        · rfl
      · refine z_iload_n (pc := 14) dX6_trial_14 rfl ?_
        refine z_iconst (pc := 15) (v := 1) dX6_trial_15 (by decide) ?_
        refine z_icmp_le (pc := 16) (tgt := 22) dX6_trial_16 (by decide) (fun h16 => ?_) (fun h16 => ?_)
        · refine z_aload_n (pc := 22) dX6_trial_22 rfl ?_
          refine z_getR (pc := 23) 54 q_fX6_60 z_s0 rfl dX6_trial_23 ?_
          refine z_getI (pc := 26) q_fX6_211 z_s54 rfl dX6_trial_26 ?_
          refine z_bipush (pc := 29) (v := 6) dX6_trial_29 (by decide) ?_
          refine z_icmp_lt (pc := 31) (tgt := 37) dX6_trial_31 (by decide) (fun h31 => ?_) (fun h31 => ?_)
          · exfalso
            rw [rL.1] at h31
            rcases h with (h | h | h | h) | h
            · exact h1 h
            · exact h7 h
            · exact h11 h
            · exact (Int32.not_lt.mpr h16) h
            · exact (nI_nlt (b := 6) h (by have := rL.2.1; omega)) h31
          · refine z_bipush (pc := 34) (v := (-4)) dX6_trial_34 (by decide) ?_
            refine z_iret (pc := 36) rfl dX6_trial_36 ?_ ?_
            · exact (if_neg (fun q => q.elim h1 (fun q => q.elim h7 (fun q => q.elim h11 (Int32.not_lt.mpr h16))))).symm
            · rfl
        · refine z_bipush (pc := 19) (v := (-2)) dX6_trial_19 (by decide) ?_
          refine z_iret (pc := 21) rfl dX6_trial_21 ?_ ?_
          · exact (if_pos (Or.inr (Or.inr (Or.inr (Int32.not_le.mp h16))))).symm
          · rfl
set_option maxRecDepth 100000 in
set_option maxHeartbeats 400000 in
theorem o_X6_untry {M : z_Mem} {l : Nat → Int32} {n : Nat} {T : TT} {U : UT} {D : DT} {p : PLt} {A : List PLt} {k0 k1 : Option PLt} {L : List (Int32 × Int32)} {sd : Int64} (hR : RX M l n T U D p A k0 k1 L sd)  : ∃ M1, z_Ct mX6_untry [.ref 0] M (some (.int (nI L.length))) M1 ∧ RX M1 l n T U D p A k0 k1 [] sd ∧ Fx M M1 := by
  obtain ⟨rS, rT, rU, rD, rp, rA, r0, r1, rL, rs⟩ := id hR
  have s1 : Sb [54] M (z_set M 54 2 0) := Sb.set _ (by simp)
  refine ⟨z_set M 54 2 0, ?_, ?_, ?_⟩
  · refine z_entry (by decide +kernel) (Nat.le_of_ble_eq_true rfl) rfl ?_
    show z_Sm mX6_untry _ _ 0 [some (.ref 0), none] [] M
    refine z_aload_n (pc := 0) dX6_untry_0 rfl ?_
    refine z_getR (pc := 1) 54 q_fX6_60 z_s0 rfl dX6_untry_1 ?_
    refine z_getI (pc := 4) q_fX6_211 z_s54 rfl dX6_untry_4 ?_
    refine z_istore_n (pc := 7) dX6_untry_7 rfl (by decide) ?_
    refine z_aload_n (pc := 8) dX6_untry_8 rfl ?_
    refine z_getR (pc := 9) 54 q_fX6_60 z_s0 rfl dX6_untry_9 ?_
    refine z_iconst (pc := 12) (v := 0) dX6_untry_12 (by decide) ?_
    refine z_putI (pc := 13) q_fX6_211 q_p5_2 z_s54 rfl dX6_untry_13 ?_
    refine z_iload_n (pc := 16) dX6_untry_16 rfl ?_
    refine z_iret (pc := 17) rfl dX6_untry_17 ?_ ?_
    · exact rL.1
    · rfl
  · exact ⟨ScAt_sb rS s1 (by simp) (by simp), TK_sb rT s1 (by simp), UK_sb rU s1 (by simp) (by simp) (by simp), DK_sb rD s1 (by simp) (by simp) (by simp), PlAt_sb rp s1 (by simp) (by simp), AcAt_sb rA s1 (by simp), KpAt_sb r0 s1 (by simp) (by simp) (by simp), KpAt_sb r1 s1 (by simp) (by simp) (by simp), ⟨by rw [z_set, z_row_1, upd_1]; rfl, by decide, fun i q hi => by simp at hi⟩, rs⟩
  · exact s1.fx (by simp)
set_option maxRecDepth 100000 in
set_option maxHeartbeats 400000 in
theorem o_X6_seed {M : z_Mem} {l : Nat → Int32} {n : Nat} {T : TT} {U : UT} {D : DT} {p : PLt} {A : List PLt} {k0 k1 : Option PLt} {L : List (Int32 × Int32)} {sd : Int64} (hR : RX M l n T U D p A k0 k1 L sd) {v : Int64} : ∃ M1, z_Ct mX6_seed [.ref 0, .long v] M (some (.long sd)) M1 ∧ RX M1 l n T U D p A k0 k1 L v ∧ Fx M M1 := by
  obtain ⟨rS, rT, rU, rD, rp, rA, r0, r1, rL, rs⟩ := id hR
  refine ⟨z_setL M 0 11 v, ?_, ⟨rS, rT, rU, rD, rp, rA, ?_, ?_, rL, by simp [z_setL]⟩, fun i hi => ⟨rfl, by simp [z_setL, show i ≠ 0 by omega]⟩⟩
  · refine z_entry (by decide +kernel) (Nat.le_of_ble_eq_true rfl) rfl ?_
    show z_Sm mX6_seed _ _ 0 [some (.ref 0), some (.long v), none, none, none] [] M
    refine z_aload_n (pc := 0) dX6_seed_0 rfl ?_
    refine z_getL (pc := 1) q_fX6_71 z_s0 rfl dX6_seed_1 ?_
    refine z_lstore_n (pc := 4) dX6_seed_4 rfl (by decide) ?_
    refine z_aload_n (pc := 5) dX6_seed_5 rfl ?_
    refine z_lload_n (pc := 6) dX6_seed_6 rfl ?_
    refine z_putL (pc := 7) q_fX6_71 q_p6_11 z_s0 rfl dX6_seed_7 ?_
    refine z_lload_n (pc := 10) dX6_seed_10 rfl ?_
    refine z_lret (pc := 11) rfl dX6_seed_11 ?_ ?_
    · exact rs
    · rfl
  · cases k0 <;> exact r0
  · cases k1 <;> exact r1
def pinF (T : TT) (p : PLt) (j : Nat) (w : Int32) : Int32 := if w = 0 then nI (T.2.1 j) else if w = 1 then nI (T.2.2.1 j) else if w = 2 then T.2.2.2.1 j else if w = 3 then T.2.2.2.2 j else if w = 4 then hlF (T.2.2.2.1 j) (p.2.1 j) (T.2.2.2.2 j) else if w = 5 then p.2.1 j else if w = 6 then (if bt p.1 j then 1 else 0) else -2
def cntF (n : Nat) (T : TT) (U : UT) (D : DT) (p : PLt) (A : List PLt) (L : List (Int32 × Int32)) (w : Int32) : Int32 := if w = 0 then nI n else if w = 1 then nI T.1 else if w = 2 then nI U.1 else if w = 3 then nI D.1 else if w = 4 then nI p.2.2 else if w = 5 then p.1 else if w = 6 then dbF p.1 T.2.1 T.2.2.1 T.1 D D.1 else if w = 7 then nI (prN p.1 T.2.1 T.2.2.1 T.1 6 / 2) else if w = 8 then wsF p.2.1 7 else if w = 9 then nI A.length else if w = 10 then nI L.length else -2
set_option maxRecDepth 100000 in
set_option maxHeartbeats 400000 in
theorem o_X6_pin_no {M : z_Mem} {l : Nat → Int32} {n : Nat} {T : TT} {U : UT} {D : DT} {p : PLt} {A : List PLt} {k0 k1 : Option PLt} {L : List (Int32 × Int32)} {sd : Int64} (hR : RX M l n T U D p A k0 k1 L sd) {x y : Int32} (h : pnB x T.1 = false) : z_Ct mX6_pin [.ref 0, .int x, .int y] M (some (.int (-1))) M := by
  obtain ⟨rS, rT, rU, rD, rp, rA, r0, r1, rL, rs⟩ := id hR

  refine z_entry (by decide +kernel) (Nat.le_of_ble_eq_true rfl) rfl ?_
  show z_Sm mX6_pin _ _ 0 [some (.ref 0), some (.int x), some (.int y)] [] M
  refine z_aload_n (pc := 0) dX6_pin_0 rfl ?_
  refine z_iload_n (pc := 1) dX6_pin_1 rfl ?_
  refine z_cV1 (pc := 2) (c_X6_isPin rT.1.1) (q_cX6_106 _ (by decide)) z_s0 rfl rfl dX6_pin_2 ?_
  refine z_if_ne (pc := 5) (tgt := 10) dX6_pin_5 (by decide) (fun h5 => ?_) (fun h5 => ?_)
  · rw [h] at h5; exact absurd rfl h5
  · refine z_iconst (pc := 8) (v := (-1)) dX6_pin_8 (by decide) ?_
    refine z_iret (pc := 9) rfl dX6_pin_9 ?_ ?_
    · rfl
    · rfl
set_option maxRecDepth 100000 in
set_option maxHeartbeats 400000 in
theorem o_X6_pin {M : z_Mem} {l : Nat → Int32} {n : Nat} {T : TT} {U : UT} {D : DT} {p : PLt} {A : List PLt} {k0 k1 : Option PLt} {L : List (Int32 × Int32)} {sd : Int64} (hR : RX M l n T U D p A k0 k1 L sd) {x y : Int32} (h : pnB x T.1 = true) : z_Ct mX6_pin [.ref 0, .int x, .int y] M (some (.int (pinF T p x.toNatClampNeg y))) M := by
  obtain ⟨rS, rT, rU, rD, rp, rA, r0, r1, rL, rs⟩ := id hR
  have hx := pnB_at rT.1.2.1 h
  have hP7 := rT.1.2.1
  obtain ⟨ha, hb, -, -⟩ := rT.1.2.2 _ hx.1
  obtain ⟨hs, hk⟩ := rT.2 _ hx.1
  have hw := rp.2.1 x.toNatClampNeg (by omega)
  refine z_entry (by decide +kernel) (Nat.le_of_ble_eq_true rfl) rfl ?_
  show z_Sm mX6_pin _ _ 0 [some (.ref 0), some (.int x), some (.int y)] [] M
  refine z_aload_n (pc := 0) dX6_pin_0 rfl ?_
  refine z_iload_n (pc := 1) dX6_pin_1 rfl ?_
  refine z_cV1 (pc := 2) (c_X6_isPin rT.1.1) (q_cX6_106 _ (by decide)) z_s0 rfl rfl dX6_pin_2 ?_
  refine z_if_ne (pc := 5) (tgt := 10) dX6_pin_5 (by decide) (fun h5 => ?_) (fun h5 => ?_)
  · refine z_iload_n (pc := 10) dX6_pin_10 rfl ?_
    by_cases hs0 : y = 0
    · rw [hs0]
      refine z_tswIn (pc := 11) (off := 41) (tgt := 52) dX6_pin_11 (by decide) (by decide) (by decide) (by decide) ?_
      refine z_aload_n (pc := 52) dX6_pin_52 rfl ?_
      refine z_getR (pc := 53) 3 q_fX6_19 z_s0 rfl dX6_pin_53 ?_
      refine z_getR (pc := 56) 4 q_fX6_110 z_s3 rfl dX6_pin_56 ?_
      refine z_iload_n (pc := 59) dX6_pin_59 rfl ?_
      refine z_iald (pc := 60) (x.toNatClampNeg) z_s4 ⟨hx.2, by omega, by decide⟩ dX6_pin_60 ?_
      refine z_iret (pc := 61) rfl dX6_pin_61 ?_ ?_
      · rw [ha]; rfl
      · rfl
    by_cases hs1 : y = 1
    · rw [hs1]
      refine z_tswIn (pc := 11) (off := 51) (tgt := 62) dX6_pin_11 (by decide) (by decide) (by decide) (by decide) ?_
      refine z_aload_n (pc := 62) dX6_pin_62 rfl ?_
      refine z_getR (pc := 63) 3 q_fX6_19 z_s0 rfl dX6_pin_63 ?_
      refine z_getR (pc := 66) 5 q_fX6_113 z_s3 rfl dX6_pin_66 ?_
      refine z_iload_n (pc := 69) dX6_pin_69 rfl ?_
      refine z_iald (pc := 70) (x.toNatClampNeg) z_s5 ⟨hx.2, by omega, by decide⟩ dX6_pin_70 ?_
      refine z_iret (pc := 71) rfl dX6_pin_71 ?_ ?_
      · rw [hb]; rfl
      · rfl
    by_cases hs2 : y = 2
    · rw [hs2]
      refine z_tswIn (pc := 11) (off := 61) (tgt := 72) dX6_pin_11 (by decide) (by decide) (by decide) (by decide) ?_
      refine z_aload_n (pc := 72) dX6_pin_72 rfl ?_
      refine z_getR (pc := 73) 3 q_fX6_19 z_s0 rfl dX6_pin_73 ?_
      refine z_getR (pc := 76) 6 q_fX6_116 z_s3 rfl dX6_pin_76 ?_
      refine z_iload_n (pc := 79) dX6_pin_79 rfl ?_
      refine z_iald (pc := 80) (x.toNatClampNeg) z_s6 ⟨hx.2, by omega, by decide⟩ dX6_pin_80 ?_
      refine z_iret (pc := 81) rfl dX6_pin_81 ?_ ?_
      · rw [hs]; rfl
      · rfl
    by_cases hs3 : y = 3
    · rw [hs3]
      refine z_tswIn (pc := 11) (off := 71) (tgt := 82) dX6_pin_11 (by decide) (by decide) (by decide) (by decide) ?_
      refine z_aload_n (pc := 82) dX6_pin_82 rfl ?_
      refine z_getR (pc := 83) 3 q_fX6_19 z_s0 rfl dX6_pin_83 ?_
      refine z_getR (pc := 86) 7 q_fX6_119 z_s3 rfl dX6_pin_86 ?_
      refine z_iload_n (pc := 89) dX6_pin_89 rfl ?_
      refine z_iald (pc := 90) (x.toNatClampNeg) z_s7 ⟨hx.2, by omega, by decide⟩ dX6_pin_90 ?_
      refine z_iret (pc := 91) rfl dX6_pin_91 ?_ ?_
      · rw [hk]; rfl
      · rfl
    by_cases hs4 : y = 4
    · rw [hs4]
      refine z_tswIn (pc := 11) (off := 81) (tgt := 92) dX6_pin_11 (by decide) (by decide) (by decide) (by decide) ?_
      refine z_aload_n (pc := 92) dX6_pin_92 rfl ?_
      refine z_getR (pc := 93) 3 q_fX6_19 z_s0 rfl dX6_pin_93 ?_
      refine z_iload_n (pc := 96) dX6_pin_96 rfl ?_
      refine z_aload_n (pc := 97) dX6_pin_97 rfl ?_
      refine z_getR (pc := 98) 14 q_fX6_35 z_s0 rfl dX6_pin_98 ?_
      refine z_getR (pc := 101) 15 q_fX6_122 z_s14 rfl dX6_pin_101 ?_
      refine z_iload_n (pc := 104) dX6_pin_104 rfl ?_
      refine z_iald (pc := 105) (x.toNatClampNeg) z_s15 ⟨hx.2, by omega, by decide⟩ dX6_pin_105 ?_
      refine z_cV2 (pc := 106) (c_X4_holds hx.2 (by omega)) (q_cX6_125 _ (by decide)) z_s3 rfl rfl dX6_pin_106 ?_
      refine z_iret (pc := 109) rfl dX6_pin_109 ?_ ?_
      · rw [hs, hk, hw]; rfl
      · rfl
    by_cases hs5 : y = 5
    · rw [hs5]
      refine z_tswIn (pc := 11) (off := 99) (tgt := 110) dX6_pin_11 (by decide) (by decide) (by decide) (by decide) ?_
      refine z_aload_n (pc := 110) dX6_pin_110 rfl ?_
      refine z_getR (pc := 111) 14 q_fX6_35 z_s0 rfl dX6_pin_111 ?_
      refine z_getR (pc := 114) 15 q_fX6_122 z_s14 rfl dX6_pin_114 ?_
      refine z_iload_n (pc := 117) dX6_pin_117 rfl ?_
      refine z_iald (pc := 118) (x.toNatClampNeg) z_s15 ⟨hx.2, by omega, by decide⟩ dX6_pin_118 ?_
      refine z_iret (pc := 119) rfl dX6_pin_119 ?_ ?_
      · rw [hw]; rfl
      · rfl
    by_cases hs6 : y = 6
    · rw [hs6]
      refine z_tswIn (pc := 11) (off := 109) (tgt := 120) dX6_pin_11 (by decide) (by decide) (by decide) (by decide) ?_
      refine z_aload_n (pc := 120) dX6_pin_120 rfl ?_
      refine z_getR (pc := 121) 14 q_fX6_35 z_s0 rfl dX6_pin_121 ?_
      refine z_iload_n (pc := 124) dX6_pin_124 rfl ?_
      refine z_cV1 (pc := 125) (c_X2_isOpen_14 hx.2 (by omega)) (q_cX6_129 _ (by decide)) z_s14 rfl rfl dX6_pin_125 ?_
      refine z_if_eq (pc := 128) (tgt := 135) dX6_pin_128 (by decide) (fun h128 => ?_) (fun h128 => ?_)
      · refine z_iconst (pc := 135) (v := 0) dX6_pin_135 (by decide) ?_
        refine z_iret (pc := 136) rfl dX6_pin_136 ?_ ?_
        · rw [rp.1] at h128
          rw [show pinF T p x.toNatClampNeg 6 = if bt p.1 x.toNatClampNeg then 1 else 0 from rfl, h128]
        · rfl
      · refine z_iconst (pc := 131) (v := 1) dX6_pin_131 (by decide) ?_
        refine z_goto (pc := 132) (tgt := 136) dX6_pin_132 (by decide) ?_
        refine z_iret (pc := 136) rfl dX6_pin_136 ?_ ?_
        · rw [rp.1] at h128
          rw [show pinF T p x.toNatClampNeg 6 = if bt p.1 x.toNatClampNeg then 1 else 0 from rfl, z_t h128]; rfl
        · rfl
    refine z_tswOut (pc := 11) (tgt := 137) dX6_pin_11 (z_sw0_6 hs0 hs1 hs2 hs3 hs4 hs5 hs6) (by decide) ?_
    refine z_bipush (pc := 137) (v := (-2)) dX6_pin_137 (by decide) ?_
    refine z_iret (pc := 139) rfl dX6_pin_139 ?_ ?_
    · rw [pinF, if_neg hs0, if_neg hs1, if_neg hs2, if_neg hs3, if_neg hs4, if_neg hs5, if_neg hs6]
    · rfl
  · rw [h] at h5; exact absurd h5 (by decide)
set_option maxRecDepth 100000 in
set_option maxHeartbeats 400000 in
theorem o_X6_count {M : z_Mem} {l : Nat → Int32} {n : Nat} {T : TT} {U : UT} {D : DT} {p : PLt} {A : List PLt} {k0 k1 : Option PLt} {L : List (Int32 × Int32)} {sd : Int64} (hR : RX M l n T U D p A k0 k1 L sd) {y : Int32} : z_Ct mX6_count [.ref 0, .int y] M (some (.int (cntF n T U D p A L y))) M := by
  obtain ⟨rS, rT, rU, rD, rp, rA, r0, r1, rL, rs⟩ := id hR

  refine z_entry (by decide +kernel) (Nat.le_of_ble_eq_true rfl) rfl ?_
  show z_Sm mX6_count _ _ 0 [some (.ref 0), some (.int y)] [] M
  refine z_iload_n (pc := 0) dX6_count_0 rfl ?_
  by_cases hs0 : y = 0
  · rw [hs0]
    refine z_tswIn (pc := 1) (off := 59) (tgt := 60) dX6_count_1 (by decide) (by decide) (by decide) (by decide) ?_
    refine z_aload_n (pc := 60) dX6_count_60 rfl ?_
    refine z_getR (pc := 61) 1 q_fX6_10 z_s0 rfl dX6_count_61 ?_
    refine z_getI (pc := 64) q_fX6_75 z_s1 rfl dX6_count_64 ?_
    refine z_iret (pc := 67) rfl dX6_count_67 ?_ ?_
    · exact rS.1
    · rfl
  by_cases hs1 : y = 1
  · rw [hs1]
    refine z_tswIn (pc := 1) (off := 67) (tgt := 68) dX6_count_1 (by decide) (by decide) (by decide) (by decide) ?_
    refine z_aload_n (pc := 68) dX6_count_68 rfl ?_
    refine z_getR (pc := 69) 3 q_fX6_19 z_s0 rfl dX6_count_69 ?_
    refine z_getI (pc := 72) q_fX6_97 z_s3 rfl dX6_count_72 ?_
    refine z_iret (pc := 75) rfl dX6_count_75 ?_ ?_
    · exact rT.1.1
    · rfl
  by_cases hs2 : y = 2
  · rw [hs2]
    refine z_tswIn (pc := 1) (off := 75) (tgt := 76) dX6_count_1 (by decide) (by decide) (by decide) (by decide) ?_
    refine z_aload_n (pc := 76) dX6_count_76 rfl ?_
    refine z_getR (pc := 77) 3 q_fX6_19 z_s0 rfl dX6_count_77 ?_
    refine z_getI (pc := 80) q_fX6_100 z_s3 rfl dX6_count_80 ?_
    refine z_iret (pc := 83) rfl dX6_count_83 ?_ ?_
    · exact rU.1
    · rfl
  by_cases hs3 : y = 3
  · rw [hs3]
    refine z_tswIn (pc := 1) (off := 83) (tgt := 84) dX6_count_1 (by decide) (by decide) (by decide) (by decide) ?_
    refine z_aload_n (pc := 84) dX6_count_84 rfl ?_
    refine z_getR (pc := 85) 3 q_fX6_19 z_s0 rfl dX6_count_85 ?_
    refine z_getI (pc := 88) q_fX6_103 z_s3 rfl dX6_count_88 ?_
    refine z_iret (pc := 91) rfl dX6_count_91 ?_ ?_
    · exact rD.1
    · rfl
  by_cases hs4 : y = 4
  · rw [hs4]
    refine z_tswIn (pc := 1) (off := 91) (tgt := 92) dX6_count_1 (by decide) (by decide) (by decide) (by decide) ?_
    refine z_aload_n (pc := 92) dX6_count_92 rfl ?_
    refine z_getR (pc := 93) 14 q_fX6_35 z_s0 rfl dX6_count_93 ?_
    refine z_getI (pc := 96) q_fX6_247 z_s14 rfl dX6_count_96 ?_
    refine z_iret (pc := 99) rfl dX6_count_99 ?_ ?_
    · exact rp.2.2
    · rfl
  by_cases hs5 : y = 5
  · rw [hs5]
    refine z_tswIn (pc := 1) (off := 99) (tgt := 100) dX6_count_1 (by decide) (by decide) (by decide) (by decide) ?_
    refine z_aload_n (pc := 100) dX6_count_100 rfl ?_
    refine z_getR (pc := 101) 14 q_fX6_35 z_s0 rfl dX6_count_101 ?_
    refine z_getI (pc := 104) q_fX6_135 z_s14 rfl dX6_count_104 ?_
    refine z_iret (pc := 107) rfl dX6_count_107 ?_ ?_
    · exact rp.1
    · rfl
  by_cases hs6 : y = 6
  · rw [hs6]
    refine z_tswIn (pc := 1) (off := 107) (tgt := 108) dX6_count_1 (by decide) (by decide) (by decide) (by decide) ?_
    refine z_aload_n (pc := 108) dX6_count_108 rfl ?_
    refine z_getR (pc := 109) 3 q_fX6_19 z_s0 rfl dX6_count_109 ?_
    refine z_aload_n (pc := 112) dX6_count_112 rfl ?_
    refine z_getR (pc := 113) 14 q_fX6_35 z_s0 rfl dX6_count_113 ?_
    refine z_getI (pc := 116) q_fX6_135 z_s14 rfl dX6_count_116 ?_
    refine z_cV1 (pc := 119) (c_X4_doable rT.1 rD) (q_cX6_199 _ (by decide)) z_s3 rfl rfl dX6_count_119 ?_
    refine z_iret (pc := 122) rfl dX6_count_122 ?_ ?_
    · rw [rp.1]; rfl
    · rfl
  by_cases hs7 : y = 7
  · rw [hs7]
    refine z_tswIn (pc := 1) (off := 122) (tgt := 123) dX6_count_1 (by decide) (by decide) (by decide) (by decide) ?_
    refine z_aload_n (pc := 123) dX6_count_123 rfl ?_
    refine z_getR (pc := 124) 3 q_fX6_19 z_s0 rfl dX6_count_124 ?_
    refine z_aload_n (pc := 127) dX6_count_127 rfl ?_
    refine z_getR (pc := 128) 14 q_fX6_35 z_s0 rfl dX6_count_128 ?_
    refine z_getI (pc := 131) q_fX6_135 z_s14 rfl dX6_count_131 ?_
    refine z_cV1 (pc := 134) (c_X4_pairsTogether rT.1) (q_cX6_250 _ (by decide)) z_s3 rfl rfl dX6_count_134 ?_
    refine z_iret (pc := 137) rfl dX6_count_137 ?_ ?_
    · rw [rp.1]; rfl
    · rfl
  by_cases hs8 : y = 8
  · rw [hs8]
    refine z_tswIn (pc := 1) (off := 137) (tgt := 138) dX6_count_1 (by decide) (by decide) (by decide) (by decide) ?_
    refine z_aload_n (pc := 138) dX6_count_138 rfl ?_
    refine z_getR (pc := 139) 14 q_fX6_35 z_s0 rfl dX6_count_139 ?_
    refine z_cV0 (pc := 142) c_X2_wearOfAll (q_cX6_253 _ (by decide)) z_s14 rfl rfl dX6_count_142 ?_
    refine z_iret (pc := 145) rfl dX6_count_145 ?_ ?_
    · exact wsF_cong 7 rp.2.1
    · rfl
  by_cases hs9 : y = 9
  · rw [hs9]
    refine z_tswIn (pc := 1) (off := 145) (tgt := 146) dX6_count_1 (by decide) (by decide) (by decide) (by decide) ?_
    refine z_aload_n (pc := 146) dX6_count_146 rfl ?_
    refine z_getR (pc := 147) 18 q_fX6_45 z_s0 rfl dX6_count_147 ?_
    refine z_getI (pc := 150) q_fX6_165 z_s18 rfl dX6_count_150 ?_
    refine z_iret (pc := 153) rfl dX6_count_153 ?_ ?_
    · obtain ⟨t, ht, a1, a2, -⟩ := rA; exact a2
    · rfl
  by_cases hs10 : y = 10
  · rw [hs10]
    refine z_tswIn (pc := 1) (off := 153) (tgt := 154) dX6_count_1 (by decide) (by decide) (by decide) (by decide) ?_
    refine z_aload_n (pc := 154) dX6_count_154 rfl ?_
    refine z_getR (pc := 155) 54 q_fX6_60 z_s0 rfl dX6_count_155 ?_
    refine z_getI (pc := 158) q_fX6_211 z_s54 rfl dX6_count_158 ?_
    refine z_iret (pc := 161) rfl dX6_count_161 ?_ ?_
    · exact rL.1
    · rfl
  refine z_tswOut (pc := 1) (tgt := 162) dX6_count_1 (z_sw0_10 hs0 hs1 hs2 hs3 hs4 hs5 hs6 hs7 hs8 hs9 hs10) (by decide) ?_
  refine z_bipush (pc := 162) (v := (-2)) dX6_count_162 (by decide) ?_
  refine z_iret (pc := 164) rfl dX6_count_164 ?_ ?_
  · rw [cntF, if_neg hs0, if_neg hs1, if_neg hs2, if_neg hs3, if_neg hs4, if_neg hs5, if_neg hs6, if_neg hs7, if_neg hs8, if_neg hs9, if_neg hs10]
  · rfl
theorem dayF_sm {T : TT} {U : UT} {p : PLt} (hP : T.1 ≤ 7) (ho : sm7 p.1) : sm7 (dayF T U p).1 := pgF_sm hP (spF_sm ho _) _
def itF (T : TT) (U : UT) : Nat → PLt → PLt
  | 0, q => q
  | f + 1, q => itF T U f (dayF T U q)
def lsF (T : TT) (U : UT) (j : Nat) : Nat → Nat → PLt → Int32
  | 0, _, _ => -9
  | f + 1, i, q => if bt (dayF T U q).1 j = true then nI i else lsF T U j f (i + 1) (dayF T U q)
theorem TK_th {M N : z_Mem} {T : TT} (h : TK M T) (s : Sb [13, 16, 17] M N) : TK N T := TK_sb h s (by simp)
theorem UK_th {M N : z_Mem} {U : UT} (h : UK M U) (s : Sb [13, 16, 17] M N) : UK N U := UK_sb h s (by simp) (by simp) (by simp)
set_option maxRecDepth 100000 in
set_option maxHeartbeats 400000 in
theorem s_X6_later_26 {T : TT} {U : UT} {x : Int32} {m : Nat} (hx : x = nI m) (hm : m ≤ 20) : ∀ (f : Nat) (Mj : z_Mem) (q : PLt) (ij : Int32) (i : Nat), TK Mj T → UK Mj U → PlAt Mj 16 q → sm7 q.1 → q.2.2 + f < 2 ^ 29 → ij = nI i → i + f = m → ∃ M2, z_Sm mX6_later (some (.int (itF T U f q).1)) M2 26 [some (.ref 0), some (.int x), some (.int ij)] [] Mj ∧ Sb [13, 16, 17] Mj M2 := by
  intro f
  induction f with
  | zero =>
    intro Mj q ij i hT hU hp ho hd h2 hi
    refine ⟨Mj, ?_, Sb.rf⟩
    refine z_iload_n (pc := 26) dX6_later_26 rfl ?_
    refine z_iload_n (pc := 27) dX6_later_27 rfl ?_
    refine z_icmp_ge (pc := 28) (tgt := 49) dX6_later_28 (by decide) (fun h28 => ?_) (fun h28 => ?_)
    · refine z_aload_n (pc := 49) dX6_later_49 rfl ?_
      refine z_getR (pc := 50) 16 q_fX6_39 z_s0 rfl dX6_later_50 ?_
      refine z_getI (pc := 53) q_fX6_135 z_s16 rfl dX6_later_53 ?_
      refine z_iret (pc := 56) rfl dX6_later_56 ?_ ?_
      · exact hp.1
      · rfl
    · exact absurd (z_lt h28 h2 hx (by omega) (by omega)) (by omega)
  | succ f ih =>
    intro Mj q ij i hT hU hp ho hd h2 hi
    obtain ⟨N, c1, p1, s1⟩ := c_X1_passDay_16 hT hU hp ho (by omega)
    obtain ⟨M2, h3, s2⟩ := ih N (dayF T U q) (ij + Int32.ofInt 1) (i + 1) (TK_th hT s1) (UK_th hU s1) p1 (dayF_sm hT.1.2.1 ho) (by show q.2.2 + 1 + f < 2 ^ 29; omega) (z_n1 h2) (by omega)
    refine ⟨M2, ?_, s1.tr s2⟩
    refine z_iload_n (pc := 26) dX6_later_26 rfl ?_
    refine z_iload_n (pc := 27) dX6_later_27 rfl ?_
    refine z_icmp_ge (pc := 28) (tgt := 49) dX6_later_28 (by decide) (fun h28 => ?_) (fun h28 => ?_)
    · exact absurd (z_ge h28 h2 hx (by omega) (by omega)) (by omega)
    · refine z_aload_n (pc := 31) dX6_later_31 rfl ?_
      refine z_getR (pc := 32) 12 q_fX6_28 z_s0 rfl dX6_later_32 ?_
      refine z_aload_n (pc := 35) dX6_later_35 rfl ?_
      refine z_getR (pc := 36) 16 q_fX6_39 z_s0 rfl dX6_later_36 ?_
      refine z_cV1 (pc := 39) c1 (q_cX6_145 _ (by decide)) z_s12 rfl rfl dX6_later_39 ?_
      refine z_pop (pc := 42) dX6_later_42 rfl ?_
      refine z_iinc (pc := 43) dX6_later_43 rfl rfl rfl (by decide) ?_
      refine z_goto (pc := 46) (tgt := 26) dX6_later_46 (by decide) ?_
      exact h3
set_option maxRecDepth 100000 in
set_option maxHeartbeats 400000 in
theorem o_X6_later_no {M : z_Mem} {l : Nat → Int32} {n : Nat} {T : TT} {U : UT} {D : DT} {p : PLt} {A : List PLt} {k0 k1 : Option PLt} {L : List (Int32 × Int32)} {sd : Int64} (hR : RX M l n T U D p A k0 k1 L sd) {x : Int32} (h : x < 0 ∨ 20 < x) : z_Ct mX6_later [.ref 0, .int x] M (some (.int (-2))) M := by
  obtain ⟨rS, rT, rU, rD, rp, rA, r0, r1, rL, rs⟩ := id hR

  refine z_entry (by decide +kernel) (Nat.le_of_ble_eq_true rfl) rfl ?_
  show z_Sm mX6_later _ _ 0 [some (.ref 0), some (.int x), none] [] M
  refine z_iload_n (pc := 0) dX6_later_0 rfl ?_
  refine z_if_lt (pc := 1) (tgt := 10) dX6_later_1 (by decide) (fun h1 => ?_) (fun h1 => ?_)
  · refine z_bipush (pc := 10) (v := (-2)) dX6_later_10 (by decide) ?_
    refine z_iret (pc := 12) rfl dX6_later_12 ?_ ?_
    · rfl
    · rfl
  · refine z_iload_n (pc := 4) dX6_later_4 rfl ?_
    refine z_bipush (pc := 5) (v := 20) dX6_later_5 (by decide) ?_
    refine z_icmp_le (pc := 7) (tgt := 13) dX6_later_7 (by decide) (fun h7 => ?_) (fun h7 => ?_)
    · exact absurd h7 (h.elim (fun q => absurd q h1) (fun q => Int32.not_le.mpr q))
    · refine z_bipush (pc := 10) (v := (-2)) dX6_later_10 (by decide) ?_
      refine z_iret (pc := 12) rfl dX6_later_12 ?_ ?_
      · rfl
      · rfl
set_option maxRecDepth 100000 in
set_option maxHeartbeats 400000 in
theorem o_X6_later {M : z_Mem} {l : Nat → Int32} {n : Nat} {T : TT} {U : UT} {D : DT} {p : PLt} {A : List PLt} {k0 k1 : Option PLt} {L : List (Int32 × Int32)} {sd : Int64} (hR : RX M l n T U D p A k0 k1 L sd) (ho : sm7 p.1) (hd : p.2.2 < 2 ^ 28) {x : Int32} {m : Nat} (hx : x = nI m) (hm : m ≤ 20) : ∃ M1, z_Ct mX6_later [.ref 0, .int x] M (some (.int (itF T U m p).1)) M1 ∧ RX M1 l n T U D p A k0 k1 L sd ∧ Fx M M1 := by
  obtain ⟨rS, rT, rU, rD, rp, rA, r0, r1, rL, rs⟩ := id hR
  obtain ⟨N, c0, p0, s0⟩ := c_X2_become (q := 16) PL_16 PL_14 (by decide) (by decide) (by decide) rp
  have s0 : Sb [13, 16, 17] M N := s0.wk (by simp)
  have t0 := TK_th rT s0
  have u0 := UK_th rU s0
  obtain ⟨M2, h3, s2⟩ := s_X6_later_26 hx hm m N p 0 0 t0 u0 p0 ho (by omega) rfl (by omega)
  refine ⟨M2, ?_, RX_th hR (s0.tr s2) (by simp), (s0.tr s2).fx (by simp)⟩
  refine z_entry (by decide +kernel) (Nat.le_of_ble_eq_true rfl) rfl ?_
  show z_Sm mX6_later _ _ 0 [some (.ref 0), some (.int x), none] [] M
  refine z_iload_n (pc := 0) dX6_later_0 rfl ?_
  refine z_if_lt (pc := 1) (tgt := 10) dX6_later_1 (by decide) (fun h1 => ?_) (fun h1 => ?_)
  · exact absurd h1 (by rw [hx]; exact nI_pos (by omega))
  · refine z_iload_n (pc := 4) dX6_later_4 rfl ?_
    refine z_bipush (pc := 5) (v := 20) dX6_later_5 (by decide) ?_
    refine z_icmp_le (pc := 7) (tgt := 13) dX6_later_7 (by decide) (fun h7 => ?_) (fun h7 => ?_)
    · refine z_aload_n (pc := 13) dX6_later_13 rfl ?_
      refine z_getR (pc := 14) 16 q_fX6_39 z_s0 rfl dX6_later_14 ?_
      refine z_aload_n (pc := 17) dX6_later_17 rfl ?_
      refine z_getR (pc := 18) 14 q_fX6_35 z_s0 rfl dX6_later_18 ?_
      refine z_cV1v (pc := 21) c0 (q_cX6_169 _ (by decide)) z_s16 rfl rfl dX6_later_21 ?_
      refine z_iconst (pc := 24) (v := 0) dX6_later_24 (by decide) ?_
      refine z_istore_n (pc := 25) dX6_later_25 rfl (by decide) ?_
      exact h3
    · exact absurd (by rw [hx]; exact nI_le (b := 20) hm (by decide)) h7
set_option maxRecDepth 100000 in
set_option maxHeartbeats 400000 in
theorem s_X6_lasts_37 {T : TT} {U : UT} {x : Int32} {j : Nat} (hx : x = nI j) (hj : j < 7) : ∀ (f : Nat) (Mj : z_Mem) (q : PLt) (ij : Int32) (i : Nat), TK Mj T → UK Mj U → PlAt Mj 16 q → sm7 q.1 → q.2.2 + f < 2 ^ 29 → ij = nI i → i + f = 21 → ∃ M2, z_Sm mX6_lasts (some (.int (lsF T U j f i q))) M2 37 [some (.ref 0), some (.int x), some (.int ij)] [] Mj ∧ Sb [13, 16, 17] Mj M2 := by
  intro f
  induction f with
  | zero =>
    intro Mj q ij i hT hU hp ho hd h2 hi
    refine ⟨Mj, ?_, Sb.rf⟩
    refine z_iload_n (pc := 37) dX6_lasts_37 rfl ?_
    refine z_bipush (pc := 38) (v := 20) dX6_lasts_38 (by decide) ?_
    refine z_icmp_gt (pc := 40) (tgt := 74) dX6_lasts_40 (by decide) (fun h40 => ?_) (fun h40 => ?_)
    · refine z_bipush (pc := 74) (v := (-9)) dX6_lasts_74 (by decide) ?_
      refine z_iret (pc := 76) rfl dX6_lasts_76 ?_ ?_
      · rfl
      · rfl
    · exact absurd (z_ngt h40 h2 (show (20 : Int32) = nI 20 from rfl) (by omega) (by omega)) (by omega)
  | succ f ih =>
    intro Mj q ij i hT hU hp ho hd h2 hi
    obtain ⟨N, c1, p1, s1⟩ := c_X1_passDay_16 hT hU hp ho (by omega)
    have hop := c_X2_isOpen_16 (M := N) hx (show j < 32 by omega)
    rw [p1.1] at hop
    by_cases hb : bt (dayF T U q).1 j = true
    · rw [hb] at hop
      refine ⟨N, ?_, s1⟩
      refine z_iload_n (pc := 37) dX6_lasts_37 rfl ?_
      refine z_bipush (pc := 38) (v := 20) dX6_lasts_38 (by decide) ?_
      refine z_icmp_gt (pc := 40) (tgt := 74) dX6_lasts_40 (by decide) (fun h40 => ?_) (fun h40 => ?_)
      · exact absurd (z_gt h40 h2 (show (20 : Int32) = nI 20 from rfl) (by omega) (by omega)) (by omega)
      · refine z_aload_n (pc := 43) dX6_lasts_43 rfl ?_
        refine z_getR (pc := 44) 12 q_fX6_28 z_s0 rfl dX6_lasts_44 ?_
        refine z_aload_n (pc := 47) dX6_lasts_47 rfl ?_
        refine z_getR (pc := 48) 16 q_fX6_39 z_s0 rfl dX6_lasts_48 ?_
        refine z_cV1 (pc := 51) c1 (q_cX6_145 _ (by decide)) z_s12 rfl rfl dX6_lasts_51 ?_
        refine z_pop (pc := 54) dX6_lasts_54 rfl ?_
        refine z_aload_n (pc := 55) dX6_lasts_55 rfl ?_
        refine z_getR (pc := 56) 16 q_fX6_39 z_s0 rfl dX6_lasts_56 ?_
        refine z_iload_n (pc := 59) dX6_lasts_59 rfl ?_
        refine z_cV1 (pc := 60) hop (q_cX6_129 _ (by decide)) z_s16 rfl rfl dX6_lasts_60 ?_
        refine z_if_eq (pc := 63) (tgt := 68) dX6_lasts_63 (by decide) (fun h63 => ?_) (fun h63 => ?_)
        · exact absurd h63 (by decide)
        · refine z_iload_n (pc := 66) dX6_lasts_66 rfl ?_
          refine z_iret (pc := 67) rfl dX6_lasts_67 ?_ ?_
          · rw [lsF, if_pos hb]; exact h2
          · rfl
    · obtain ⟨M2, h3, s2⟩ := ih N (dayF T U q) (ij + Int32.ofInt 1) (i + 1) (TK_th hT s1) (UK_th hU s1) p1 (dayF_sm hT.1.2.1 ho) (by show q.2.2 + 1 + f < 2 ^ 29; omega) (z_n1 h2) (by omega)
      rw [if_neg hb] at hop
      refine ⟨M2, ?_, s1.tr s2⟩
      rw [lsF, if_neg hb]
      refine z_iload_n (pc := 37) dX6_lasts_37 rfl ?_
      refine z_bipush (pc := 38) (v := 20) dX6_lasts_38 (by decide) ?_
      refine z_icmp_gt (pc := 40) (tgt := 74) dX6_lasts_40 (by decide) (fun h40 => ?_) (fun h40 => ?_)
      · exact absurd (z_gt h40 h2 (show (20 : Int32) = nI 20 from rfl) (by omega) (by omega)) (by omega)
      · refine z_aload_n (pc := 43) dX6_lasts_43 rfl ?_
        refine z_getR (pc := 44) 12 q_fX6_28 z_s0 rfl dX6_lasts_44 ?_
        refine z_aload_n (pc := 47) dX6_lasts_47 rfl ?_
        refine z_getR (pc := 48) 16 q_fX6_39 z_s0 rfl dX6_lasts_48 ?_
        refine z_cV1 (pc := 51) c1 (q_cX6_145 _ (by decide)) z_s12 rfl rfl dX6_lasts_51 ?_
        refine z_pop (pc := 54) dX6_lasts_54 rfl ?_
        refine z_aload_n (pc := 55) dX6_lasts_55 rfl ?_
        refine z_getR (pc := 56) 16 q_fX6_39 z_s0 rfl dX6_lasts_56 ?_
        refine z_iload_n (pc := 59) dX6_lasts_59 rfl ?_
        refine z_cV1 (pc := 60) hop (q_cX6_129 _ (by decide)) z_s16 rfl rfl dX6_lasts_60 ?_
        refine z_if_eq (pc := 63) (tgt := 68) dX6_lasts_63 (by decide) (fun h63 => ?_) (fun h63 => ?_)
        · refine z_iinc (pc := 68) dX6_lasts_68 rfl rfl rfl (by decide) ?_
          refine z_goto (pc := 71) (tgt := 37) dX6_lasts_71 (by decide) ?_
          exact h3
        · exact absurd rfl h63
set_option maxRecDepth 100000 in
set_option maxHeartbeats 400000 in
theorem o_X6_lasts {M : z_Mem} {l : Nat → Int32} {n : Nat} {T : TT} {U : UT} {D : DT} {p : PLt} {A : List PLt} {k0 k1 : Option PLt} {L : List (Int32 × Int32)} {sd : Int64} (hR : RX M l n T U D p A k0 k1 L sd) (ho : sm7 p.1) (hd : p.2.2 < 2 ^ 28) {x : Int32} (h : pnB x T.1 = true) (hb : bt p.1 x.toNatClampNeg = false) : ∃ M1, z_Ct mX6_lasts [.ref 0, .int x] M (some (.int (lsF T U x.toNatClampNeg 20 1 p))) M1 ∧ RX M1 l n T U D p A k0 k1 L sd ∧ Fx M M1 := by
  obtain ⟨rS, rT, rU, rD, rp, rA, r0, r1, rL, rs⟩ := id hR
  obtain ⟨N, c0, p0, s0⟩ := c_X2_become (q := 16) PL_16 PL_14 (by decide) (by decide) (by decide) rp
  have s0 : Sb [13, 16, 17] M N := s0.wk (by simp)
  have t0 := TK_th rT s0
  have u0 := UK_th rU s0
  have hx := pnB_at rT.1.2.1 h
  have hP7 := rT.1.2.1
  obtain ⟨M2, h3, s2⟩ := s_X6_lasts_37 hx.2 (by omega) 20 N p 1 1 t0 u0 p0 ho (by omega) rfl (by omega)
  refine ⟨M2, ?_, RX_th hR (s0.tr s2) (by simp), (s0.tr s2).fx (by simp)⟩
  refine z_entry (by decide +kernel) (Nat.le_of_ble_eq_true rfl) rfl ?_
  show z_Sm mX6_lasts _ _ 0 [some (.ref 0), some (.int x), none] [] M
  refine z_aload_n (pc := 0) dX6_lasts_0 rfl ?_
  refine z_iload_n (pc := 1) dX6_lasts_1 rfl ?_
  refine z_cV1 (pc := 2) (c_X6_isPin rT.1.1) (q_cX6_106 _ (by decide)) z_s0 rfl rfl dX6_lasts_2 ?_
  refine z_if_ne (pc := 5) (tgt := 10) dX6_lasts_5 (by decide) (fun h5 => ?_) (fun h5 => ?_)
  · refine z_aload_n (pc := 10) dX6_lasts_10 rfl ?_
    refine z_getR (pc := 11) 14 q_fX6_35 z_s0 rfl dX6_lasts_11 ?_
    refine z_iload_n (pc := 14) dX6_lasts_14 rfl ?_
    refine z_cV1 (pc := 15) (c_X2_isOpen_14 hx.2 (by omega)) (q_cX6_129 _ (by decide)) z_s14 rfl rfl dX6_lasts_15 ?_
    refine z_if_eq (pc := 18) (tgt := 24) dX6_lasts_18 (by decide) (fun h18 => ?_) (fun h18 => ?_)
    · refine z_aload_n (pc := 24) dX6_lasts_24 rfl ?_
      refine z_getR (pc := 25) 16 q_fX6_39 z_s0 rfl dX6_lasts_25 ?_
      refine z_aload_n (pc := 28) dX6_lasts_28 rfl ?_
      refine z_getR (pc := 29) 14 q_fX6_35 z_s0 rfl dX6_lasts_29 ?_
      refine z_cV1v (pc := 32) c0 (q_cX6_169 _ (by decide)) z_s16 rfl rfl dX6_lasts_32 ?_
      refine z_iconst (pc := 35) (v := 1) dX6_lasts_35 (by decide) ?_
      refine z_istore_n (pc := 36) dX6_lasts_36 rfl (by decide) ?_
      exact h3
    · rw [rp.1, hb] at h18; exact absurd rfl h18
  · rw [h] at h5; exact absurd h5 (by decide)
theorem c_X1_ping_th {M : z_Mem} {T : TT} (hT : TK M T) {q : PLt} (hp : PlAt M 16 q) (ho : sm7 q.1) {K : Nat → Int32} (hK : ∀ k, k < 6 → M.1 13 k = K k) : ∃ M1, z_Ct mX1_ping [.ref 12, .ref 16] M (some (.int (pgR q.1 (pgF T q.2.1 q.1 K (T.1 + 1)).1))) M1 ∧ PlAt M1 16 ((pgF T q.2.1 q.1 K (T.1 + 1)).1, q.2.1, q.2.2) ∧ Sb [13, 16, 17] M M1 := by
  obtain ⟨h0, hw, hd⟩ := hp
  have hc := (pgF_cong (o := M.1 16 0) hT.te (w := M.1 17) (v := q.2.1) (L := M.1 13) (K := K) (fun k hk => hw k (by have := hT.1.2.1; omega)) hK (T.1 + 1)).1
  have e := c_X1_ping_16 hT (h0 ▸ ho)
  rw [h0] at e hc
  rw [hc] at e
  refine ⟨_, e, ⟨?_, fun k hk => ?_, ?_⟩, Sb.pm _ _ (by simp) (by simp)⟩
  · rw [pm_q0 M (by decide)]
  · rw [pm_n M (by decide) (by decide)]; exact hw k hk
  · rw [pm_q M (by decide), upd_n _ _ (by decide)]; exact hd
def chL (T : TT) (j : Nat) : Nat → Int32 := upd (upd (fun _ => 0) (T.2.1 j) 1) (T.2.2.1 j) 1
def chF (T : TT) (p : PLt) (j : Nat) : Int32 := (pgF T p.2.1 (p.1 ||| em j) (chL T j) (T.1 + 1)).1 &&& (p.1 ^^^ (-1))
set_option maxRecDepth 100000 in
set_option maxHeartbeats 400000 in
theorem o_X6_chain {M : z_Mem} {l : Nat → Int32} {n : Nat} {T : TT} {U : UT} {D : DT} {p : PLt} {A : List PLt} {k0 k1 : Option PLt} {L : List (Int32 × Int32)} {sd : Int64} (hR : RX M l n T U D p A k0 k1 L sd) (ho : sm7 p.1) (hne : ∀ k, k < T.1 → T.2.1 k ≠ T.2.2.1 k) {x : Int32} (h : pnB x T.1 = true) (hb : bt p.1 x.toNatClampNeg = false) : ∃ M1, z_Ct mX6_chain [.ref 0, .int x] M (some (.int (chF T p x.toNatClampNeg))) M1 ∧ RX M1 l n T U D p A k0 k1 L sd ∧ Fx M M1 := by
  obtain ⟨rS, rT, rU, rD, rp, rA, r0, r1, rL, rs⟩ := id hR
  obtain ⟨N, c0, p0, s0⟩ := c_X2_become (q := 16) PL_16 PL_14 (by decide) (by decide) (by decide) rp
  have s0 : Sb [13, 16, 17] M N := s0.wk (by simp)
  have t0 := TK_th rT s0
  have u0 := UK_th rU s0
  have hx := pnB_at rT.1.2.1 h
  have hP7 := rT.1.2.1
  obtain ⟨N1, c1, p1, s1⟩ := c_X2_unpin_16 p0 hx.2
  have s1 : Sb [13, 16, 17] N N1 := s1.wk (by simp)
  have sc : Sb [13, 16, 17] N1 (z_row N1 13 (cpF 6 (fun _ => 0) (N1.1 13))) := Sb.row _ (by simp)
  have sb : Sb [13, 16, 17] (z_row N1 13 (cpF 6 (fun _ => 0) (N1.1 13))) (z_row (z_row N1 13 (cpF 6 (fun _ => 0) (N1.1 13))) 13 (bd1 T x.toNatClampNeg ((z_row N1 13 (cpF 6 (fun _ => 0) (N1.1 13))).1 13))) := Sb.row _ (by simp)
  have t1 := TK_th (TK_th t0 s1) sc
  have c2 := c_X1_burdenEnds t1 hx.2 hx.1
  obtain ⟨M2, c3, p3, s3⟩ := c_X1_ping_th (TK_th t1 sb) (PlAt_sb (PlAt_sb p1 (Sb.row (ids := [13]) _ (by simp)) (by simp) (by simp)) (Sb.row (ids := [13]) _ (by simp)) (by simp) (by simp)) (sm7_or ho (sm7_em (by omega))) (K := chL T x.toNatClampNeg) (fun k hk => by
    obtain ⟨ha6, hb6⟩ := t1.te _ hx.1
    have hn := hne _ hx.1
    rw [z_row_1, z_row_1, bd1, chL]
    have z : ∀ i, i < 6 → cpF 6 (fun _ => (0 : Int32)) (N1.1 13) i = 0 := fun i hi => by rw [cpF, if_pos hi]
    rw [z _ ha6, upd_n _ _ (Ne.symm hn), z _ hb6]
    unfold upd
    split
    · rfl
    · split
      · rfl
      · exact z k hk)
  have s2 : Sb [13, 16, 17] N M2 := ((s1.tr sc).tr sb).tr s3
  have e14 : M2.1 14 0 = p.1 := by rw [(s0.tr s2).1 14 (by simp)]; exact rp.1
  refine ⟨M2, ?_, RX_th hR (s0.tr s2) (by simp), (s0.tr s2).fx (by simp)⟩
  refine z_entry (by decide +kernel) (Nat.le_of_ble_eq_true rfl) rfl ?_
  show z_Sm mX6_chain _ _ 0 [some (.ref 0), some (.int x)] [] M
  refine z_aload_n (pc := 0) dX6_chain_0 rfl ?_
  refine z_iload_n (pc := 1) dX6_chain_1 rfl ?_
  refine z_cV1 (pc := 2) (c_X6_isPin rT.1.1) (q_cX6_106 _ (by decide)) z_s0 rfl rfl dX6_chain_2 ?_
  refine z_if_ne (pc := 5) (tgt := 10) dX6_chain_5 (by decide) (fun h5 => ?_) (fun h5 => ?_)
  · refine z_aload_n (pc := 10) dX6_chain_10 rfl ?_
    refine z_getR (pc := 11) 14 q_fX6_35 z_s0 rfl dX6_chain_11 ?_
    refine z_iload_n (pc := 14) dX6_chain_14 rfl ?_
    refine z_cV1 (pc := 15) (c_X2_isOpen_14 hx.2 (by omega)) (q_cX6_129 _ (by decide)) z_s14 rfl rfl dX6_chain_15 ?_
    refine z_if_eq (pc := 18) (tgt := 24) dX6_chain_18 (by decide) (fun h18 => ?_) (fun h18 => ?_)
    · refine z_aload_n (pc := 24) dX6_chain_24 rfl ?_
      refine z_getR (pc := 25) 16 q_fX6_39 z_s0 rfl dX6_chain_25 ?_
      refine z_aload_n (pc := 28) dX6_chain_28 rfl ?_
      refine z_getR (pc := 29) 14 q_fX6_35 z_s0 rfl dX6_chain_29 ?_
      refine z_cV1v (pc := 32) c0 (q_cX6_169 _ (by decide)) z_s16 rfl rfl dX6_chain_32 ?_
      refine z_aload_n (pc := 35) dX6_chain_35 rfl ?_
      refine z_getR (pc := 36) 16 q_fX6_39 z_s0 rfl dX6_chain_36 ?_
      refine z_iload_n (pc := 39) dX6_chain_39 rfl ?_
      refine z_cV1v (pc := 40) c1 (q_cX6_162 _ (by decide)) z_s16 rfl rfl dX6_chain_40 ?_
      refine z_aload_n (pc := 43) dX6_chain_43 rfl ?_
      refine z_getR (pc := 44) 12 q_fX6_28 z_s0 rfl dX6_chain_44 ?_
      refine z_cV0v (pc := 47) c_X1_clear (q_cX6_172 _ (by decide)) z_s12 rfl rfl dX6_chain_47 ?_
      refine z_aload_n (pc := 50) dX6_chain_50 rfl ?_
      refine z_getR (pc := 51) 12 q_fX6_28 z_s0 rfl dX6_chain_51 ?_
      refine z_iload_n (pc := 54) dX6_chain_54 rfl ?_
      refine z_cV1v (pc := 55) c2 (q_cX6_175 _ (by decide)) z_s12 rfl rfl dX6_chain_55 ?_
      refine z_aload_n (pc := 58) dX6_chain_58 rfl ?_
      refine z_getR (pc := 59) 12 q_fX6_28 z_s0 rfl dX6_chain_59 ?_
      refine z_aload_n (pc := 62) dX6_chain_62 rfl ?_
      refine z_getR (pc := 63) 16 q_fX6_39 z_s0 rfl dX6_chain_63 ?_
      refine z_cV1 (pc := 66) c3 (q_cX6_178 _ (by decide)) z_s12 rfl rfl dX6_chain_66 ?_
      refine z_pop (pc := 69) dX6_chain_69 rfl ?_
      refine z_aload_n (pc := 70) dX6_chain_70 rfl ?_
      refine z_getR (pc := 71) 16 q_fX6_39 z_s0 rfl dX6_chain_71 ?_
      refine z_getI (pc := 74) q_fX6_135 z_s16 rfl dX6_chain_74 ?_
      refine z_aload_n (pc := 77) dX6_chain_77 rfl ?_
      refine z_getR (pc := 78) 14 q_fX6_35 z_s0 rfl dX6_chain_78 ?_
      refine z_getI (pc := 81) q_fX6_135 z_s14 rfl dX6_chain_81 ?_
      refine z_iconst (pc := 84) (v := (-1)) dX6_chain_84 (by decide) ?_
      refine z_ixor (pc := 85) dX6_chain_85 ?_
      refine z_iand (pc := 86) dX6_chain_86 ?_
      refine z_iret (pc := 87) rfl dX6_chain_87 ?_ ?_
      · rw [p3.1, e14]; rfl
      · rfl
    · rw [rp.1, hb] at h18; exact absurd rfl h18
  · rw [h] at h5; exact absurd h5 (by decide)
