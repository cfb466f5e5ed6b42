set_option maxRecDepth 100000 in
set_option maxHeartbeats 400000 in
theorem o_X7_trial {M : z_Mem} {l : Nat → Int32} {n : Nat} {T : TT} {U : UT} {D : DT} {p : PLt} {A : List PLt} {k0 k1 : Option PLt} {L : List (Int32 × Int32)} {sd : Int64} (hR : RM M l n T U D p A k0 k1 L sd) {x y : Int32} (h : ¬ (x < 0 ∨ 12 < x ∨ y < 0 ∨ 1 < y)) (hL : L.length < 6) : ∃ M1, z_Ct mX7_trial [.ref 59, .int x, .int y] M (some (.int (nI (L.length + 1)))) M1 ∧ RM M1 l n T U D p A k0 k1 (L ++ [(x, y)]) sd ∧ Fm M M1 := by
  obtain ⟨rS, rT, rU, rD, rp, rA, r0, r1, rL, rs⟩ := id hR
  obtain ⟨e1, e2, e3⟩ := rL
  have hx := inB_yes (x := x) (b := 0) (c := 12) 0 12 (by decide) (by decide) (fun q => h (q.elim Or.inl (fun z => Or.inr (Or.inl z))))
  have hy := inB_yes (x := y) (b := 0) (c := 1) 0 1 (by decide) (by decide) (fun q => h (q.elim (fun z => Or.inr (Or.inr (Or.inl z))) (fun z => Or.inr (Or.inr (Or.inr z)))))
  have e4 : (z_set M 75 L.length x).1 59 26 = nI L.length := by rw [z_set, z_row_n _ _ (by decide)]; exact e1
  have e5 : (z_set (z_set M 75 L.length x) 76 L.length y).1 59 26 = nI L.length := by rw [z_set, z_row_n _ _ (by decide)]; exact e4
  have sk : Sk M (z_set (z_set (z_set M 75 L.length x) 76 L.length y) 59 26 (nI (L.length + 1))) := ((Sk.row _ (by omega)).tr (Sk.row _ (by omega))).tr (Sk.fld _ (by omega))
  have sL : LN (z_set (z_set (z_set M 75 L.length x) 76 L.length y) 59 26 (nI (L.length + 1))) (L ++ [(x, y)]) := ⟨by rw [zs_1, List.length_append]; rfl, by rw [List.length_append]; show L.length + 1 ≤ 6; omega, fun i q hi => by
    rw [z_set, z_row_n _ _ (by decide), z_row_n _ _ (by decide), z_set, z_row_n (a := 75) _ _ (by decide), z_row_1, z_set, z_row_1, z_row_n (a := 76) _ _ (by decide)]
    by_cases w : i = L.length
    · subst w
      simp at hi
      subst hi
      rw [upd_1, upd_1]
      exact ⟨rfl, rfl⟩
    · have : i < L.length := by
        have := (List.getElem?_eq_some_iff.mp hi).1
        rw [List.length_append] at this
        have : i < L.length + 1 := this
        omega
      rw [List.getElem?_append_left this] at hi
      rw [upd_n _ _ w, upd_n _ _ w]
      exact e3 i q hi⟩
  refine ⟨z_set (z_set (z_set M 75 L.length x) 76 L.length y) 59 26 (nI (L.length + 1)), ?_, RM_sk hR sk (SN_cong rS (by rw [z_set, z_row_1, upd_n _ _ (by decide), z_set, z_row_n _ _ (by decide), z_set, z_row_n _ _ (by decide)]) (by rw [z_set, z_row_n _ _ (by decide), z_set, z_row_n _ _ (by decide), z_set, z_row_n _ _ (by decide)])) sL⟩
  · refine z_entry (by decide +kernel) (Nat.le_of_ble_eq_true rfl) rfl ?_
    show z_Sm mX7_trial _ _ 0 [some (.ref 59), some (.int x), some (.int y)] [] M
    refine z_iload_n (pc := 0) dX7_trial_0 rfl ?_
    refine z_i2l (pc := 1) dX7_trial_1 rfl ?_
    refine z_lconst (pc := 2) (v := 0) dX7_trial_2 (by decide) ?_
    refine z_ldc2 (pc := 3) q_kX7_194 dX7_trial_3 ?_
    refine z_cS3 (pc := 6) c_X7_in (q_cX7_70 _ (by decide)) rfl dX7_trial_6 ?_
    refine z_if_eq (pc := 9) (tgt := 22) dX7_trial_9 (by decide) (fun h9 => ?_) (fun h9 => ?_)
    · rw [hx] at h9; exact absurd h9 (by decide)
    · refine z_iload_n (pc := 12) dX7_trial_12 rfl ?_
      refine z_i2l (pc := 13) dX7_trial_13 rfl ?_
      refine z_lconst (pc := 14) (v := 0) dX7_trial_14 (by decide) ?_
      refine z_lconst (pc := 15) (v := 1) dX7_trial_15 (by decide) ?_
      refine z_cS3 (pc := 16) c_X7_in (q_cX7_70 _ (by decide)) rfl dX7_trial_16 ?_
      refine z_if_ne (pc := 19) (tgt := 25) dX7_trial_19 (by decide) (fun h19 => ?_) (fun h19 => ?_)
      · refine z_aload_n (pc := 25) dX7_trial_25 rfl ?_
        refine z_getI (pc := 26) q_fX7_196 z_s59 rfl dX7_trial_26 ?_
        refine z_bipush (pc := 29) (v := 6) dX7_trial_29 (by decide) ?_
        refine z_icmp_ne (pc := 31) (tgt := 37) dX7_trial_31 (by decide) (fun h31 => ?_) (fun h31 => ?_)
        · refine z_aload_n (pc := 37) dX7_trial_37 rfl ?_
          refine z_getR (pc := 38) 75 q_fX7_55 z_s59 rfl dX7_trial_38 ?_
          refine z_aload_n (pc := 41) dX7_trial_41 rfl ?_
          refine z_getI (pc := 42) q_fX7_196 z_s59 rfl dX7_trial_42 ?_
          refine z_iload_n (pc := 45) dX7_trial_45 rfl ?_
          refine z_iast (pc := 46) (L.length) z_s75 ⟨e1, by omega⟩ dX7_trial_46 ?_
          refine z_aload_n (pc := 47) dX7_trial_47 rfl ?_
          refine z_getR (pc := 48) 76 q_fX7_58 z_s59 rfl dX7_trial_48 ?_
          refine z_aload_n (pc := 51) dX7_trial_51 rfl ?_
          refine z_getI (pc := 52) q_fX7_196 z_s59 rfl dX7_trial_52 ?_
          refine z_iload_n (pc := 55) dX7_trial_55 rfl ?_
          refine z_iast (pc := 56) (L.length) z_s76 ⟨e4, by omega⟩ dX7_trial_56 ?_
          refine z_aload_n (pc := 57) dX7_trial_57 rfl ?_
          refine z_dup (pc := 58) dX7_trial_58 rfl ?_
          refine z_getI (pc := 59) q_fX7_196 z_s59 rfl dX7_trial_59 ?_
          refine z_iconst (pc := 62) (v := 1) dX7_trial_62 (by decide) ?_
          refine z_iadd (pc := 63) dX7_trial_63 ?_
          refine z_putI (pc := 64) q_fX7_196 q_p7_26 z_s59 rfl dX7_trial_64 ?_
          rw [e5, ← nI_succ]
          refine z_aload_n (pc := 67) dX7_trial_67 rfl ?_
          refine z_getI (pc := 68) q_fX7_196 z_s59 rfl dX7_trial_68 ?_
          refine z_iret (pc := 71) rfl dX7_trial_71 ?_ ?_
          · rw [zs_1]
          · rfl
        · exfalso
          rw [e1] at h31
          have q : nI L.length < 6 := nI_lt (b := 6) hL (by decide)
          rw [h31] at q
          exact absurd q (by decide)
      · rw [hy] at h19; exact absurd h19 (by decide)
set_option maxRecDepth 100000 in
set_option maxHeartbeats 400000 in
theorem o_X7_trial_no {M : z_Mem} {l : Nat → Int32} {n : Nat} {T : TT} {U : UT} {D : DT} {p : PLt} {A : List PLt} {k0 k1 : Option PLt} {L : List (Int32 × Int32)} {sd : Int64} (hR : RM M l n T U D p A k0 k1 L sd) {x y : Int32} (h : (x < 0 ∨ 12 < x ∨ y < 0 ∨ 1 < y) ∨ 6 ≤ L.length) : z_Ct mX7_trial [.ref 59, .int x, .int y] M (some (.int (if x < 0 ∨ 12 < x ∨ y < 0 ∨ 1 < y then -2 else -4))) M := by
  obtain ⟨rS, rT, rU, rD, rp, rA, r0, r1, rL, rs⟩ := id hR
  obtain ⟨e1, e2, -⟩ := rL
  have hxn := fun q => inB_no (x := x) (b := 0) (c := 12) 0 12 (by decide) (by decide) q
  have hxy := fun q => inB_yes (x := x) (b := 0) (c := 12) 0 12 (by decide) (by decide) q
  have hyn := fun q => inB_no (x := y) (b := 0) (c := 1) 0 1 (by decide) (by decide) q
  have hyy := fun q => inB_yes (x := y) (b := 0) (c := 1) 0 1 (by decide) (by decide) q

  refine z_entry (by decide +kernel) (Nat.le_of_ble_eq_true rfl) rfl ?_
  show z_Sm mX7_trial _ _ 0 [some (.ref 59), some (.int x), some (.int y)] [] M
  refine z_iload_n (pc := 0) dX7_trial_0 rfl ?_
  refine z_i2l (pc := 1) dX7_trial_1 rfl ?_
  refine z_lconst (pc := 2) (v := 0) dX7_trial_2 (by decide) ?_
  refine z_ldc2 (pc := 3) q_kX7_194 dX7_trial_3 ?_
  refine z_cS3 (pc := 6) c_X7_in (q_cX7_70 _ (by decide)) rfl dX7_trial_6 ?_
  refine z_if_eq (pc := 9) (tgt := 22) dX7_trial_9 (by decide) (fun h9 => ?_) (fun h9 => ?_)
  · refine z_bipush (pc := 22) (v := (-2)) dX7_trial_22 (by decide) ?_
    refine z_iret (pc := 24) rfl dX7_trial_24 ?_ ?_
    · have h9 := z_f h9
      rw [if_pos]
      by_cases q : x < 0 ∨ 12 < x
      · exact q.elim Or.inl (fun z => Or.inr (Or.inl z))
      · rw [hxy q] at h9; cases h9
    · rfl
  · refine z_iload_n (pc := 12) dX7_trial_12 rfl ?_
    refine z_i2l (pc := 13) dX7_trial_13 rfl ?_
    refine z_lconst (pc := 14) (v := 0) dX7_trial_14 (by decide) ?_
    refine z_lconst (pc := 15) (v := 1) dX7_trial_15 (by decide) ?_
    refine z_cS3 (pc := 16) c_X7_in (q_cX7_70 _ (by decide)) rfl dX7_trial_16 ?_
    refine z_if_ne (pc := 19) (tgt := 25) dX7_trial_19 (by decide) (fun h19 => ?_) (fun h19 => ?_)
    · refine z_aload_n (pc := 25) dX7_trial_25 rfl ?_
      refine z_getI (pc := 26) q_fX7_196 z_s59 rfl dX7_trial_26 ?_
      refine z_bipush (pc := 29) (v := 6) dX7_trial_29 (by decide) ?_
      refine z_icmp_ne (pc := 31) (tgt := 37) dX7_trial_31 (by decide) (fun h31 => ?_) (fun h31 => ?_)
      · exfalso
        have h9 := z_t h9
        have h19 := z_t h19
        rcases h with (q | q | q | q) | q
        · rw [hxn (Or.inl q)] at h9; cases h9
        · rw [hxn (Or.inr q)] at h9; cases h9
        · rw [hyn (Or.inl q)] at h19; cases h19
        · rw [hyn (Or.inr q)] at h19; cases h19
        · exact h31 (by rw [e1, show L.length = 6 by omega]; rfl)
      · refine z_bipush (pc := 34) (v := (-4)) dX7_trial_34 (by decide) ?_
        refine z_iret (pc := 36) rfl dX7_trial_36 ?_ ?_
        · have h9 := z_t h9
          have h19 := z_t h19
          rw [if_neg]
          rintro (q | q | q | q)
          · rw [hxn (Or.inl q)] at h9; cases h9
          · rw [hxn (Or.inr q)] at h9; cases h9
          · rw [hyn (Or.inl q)] at h19; cases h19
          · rw [hyn (Or.inr q)] at h19; cases h19
        · rfl
    · refine z_bipush (pc := 22) (v := (-2)) dX7_trial_22 (by decide) ?_
      refine z_iret (pc := 24) rfl dX7_trial_24 ?_ ?_
      · have h19 := z_f h19
        rw [if_pos]
        by_cases q : y < 0 ∨ 1 < y
        · exact q.elim (fun z => Or.inr (Or.inr (Or.inl z))) (fun z => Or.inr (Or.inr (Or.inr z)))
        · rw [hyy q] at h19; cases h19
      · rfl
set_option maxRecDepth 100000 in
set_option maxHeartbeats 400000 in
theorem o_X7_seed {M : z_Mem} {l : Nat → Int32} {n : Nat} {T : TT} {U : UT} {D : DT} {p : PLt} {A : List PLt} {k0 k1 : Option PLt} {L : List (Int32 × Int32)} {sd : Int64} (hR : RM M l n T U D p A k0 k1 L sd) {v : Int64} : ∃ M1, z_Ct mX7_seed [.ref 59, .long v] M (some (.long sd)) M1 ∧ RM M1 l n T U D p A k0 k1 L v ∧ Fm M M1 := by
  obtain ⟨rS, rT, rU, rD, rp, rA, r0, r1, rL, rs⟩ := id hR
  refine ⟨z_setL M 59 29 v, ?_, ⟨rS, rT, rU, rD, rp, rA, ?_, ?_, rL, by simp [z_setL]⟩, fun i hi => ⟨rfl, by simp [z_setL, show i ≠ 59 by omega]⟩⟩
  · refine z_entry (by decide +kernel) (Nat.le_of_ble_eq_true rfl) rfl ?_
    show z_Sm mX7_seed _ _ 0 [some (.ref 59), some (.long v), none, none, none] [] M
    refine z_aload_n (pc := 0) dX7_seed_0 rfl ?_
    refine z_getL (pc := 1) q_fX7_221 z_s59 rfl dX7_seed_1 ?_
    refine z_lstore_n (pc := 4) dX7_seed_4 rfl (by decide) ?_
    refine z_aload_n (pc := 5) dX7_seed_5 rfl ?_
    refine z_lload_n (pc := 6) dX7_seed_6 rfl ?_
    refine z_putL (pc := 7) q_fX7_221 q_p7_29 z_s59 rfl dX7_seed_7 ?_
    refine z_lload_n (pc := 10) dX7_seed_10 rfl ?_
    refine z_lret (pc := 11) rfl dX7_seed_11 ?_ ?_
    · exact rs
    · rfl
  · cases k0 <;> exact r0
  · cases k1 <;> exact r1
set_option maxRecDepth 100000 in
set_option maxHeartbeats 400000 in
theorem s_X7_wearOfAll_4 {M M2 : z_Mem} {r : Option Value} {T : TT} (hT : TN M T) (kk : z_Sm mX7_wearOfAll r M2 29 [some (.ref 59), some (.int (wsF (fun i => M.1 68 (1 + i)) (T.1))), none] [] (M)) (j : Nat) (hj : j ≤ T.1) (ij : Int32) (v : Int32) (h2 : ij = nI j) (hv_v : v = wsF (fun i => M.1 68 (1 + i)) j) : z_Sm mX7_wearOfAll r M2 4 [some (.ref 59), some (.int v), some (.int ij)] [] M := by
  have hP7 := hT.2.1
  refine z_iload_n (pc := 4) dX7_wearOfAll_4 rfl ?_
  refine z_aload_n (pc := 5) dX7_wearOfAll_5 rfl ?_
  refine z_getI (pc := 6) q_fX7_105 z_s59 rfl dX7_wearOfAll_6 ?_
  refine z_icmp_ge (pc := 9) (tgt := 29) dX7_wearOfAll_9 (by decide) (fun h9 => ?_) (fun h9 => ?_)
  · have hNj : T.1 ≤ j := by
      have := z_ge h9 h2 hT.1 (by omega) (by omega)
      omega
    obtain rfl : j = T.1 := by omega
    subst hv_v
    exact z_drop 2 kk
  · have hlt : j < T.1 := by
      have := z_lt h9 h2 hT.1 (by omega) (by omega)
      omega
    have hix : (1 : Int32) + ij = nI (1 + j) := by rw [h2, show (1 : Int32) = nI 1 from rfl, nI_add]
    refine z_iload_n (pc := 12) dX7_wearOfAll_12 rfl ?_
    refine z_aload_n (pc := 13) dX7_wearOfAll_13 rfl ?_
    refine z_getR (pc := 14) 68 q_fX7_34 z_s59 rfl dX7_wearOfAll_14 ?_
    refine z_iconst (pc := 17) (v := 1) dX7_wearOfAll_17 (by decide) ?_
    refine z_iload_n (pc := 18) dX7_wearOfAll_18 rfl ?_
    refine z_iadd (pc := 19) dX7_wearOfAll_19 ?_
    refine z_iald (pc := 20) (1 + j) z_s68 ⟨hix, by omega⟩ dX7_wearOfAll_20 ?_
    refine z_iadd (pc := 21) dX7_wearOfAll_21 ?_
    refine z_istore_n (pc := 22) dX7_wearOfAll_22 rfl (by decide) ?_
    refine z_iinc (pc := 23) dX7_wearOfAll_23 rfl rfl rfl (by decide) ?_
    refine z_goto (pc := 26) (tgt := 4) dX7_wearOfAll_26 (by decide) ?_
    exact s_X7_wearOfAll_4 hT kk (j + 1) hlt _ _ (z_n1 h2) (by rw [hv_v, wsF])
termination_by T.1 - j
decreasing_by all_goals omega
set_option maxRecDepth 100000 in
set_option maxHeartbeats 400000 in
theorem c_X7_wearOfAll {M : z_Mem} {T : TT} (hT : TN M T) {p : PLt} (hp : PM M 0 p) : z_Ct mX7_wearOfAll [.ref 59] M (some (.int (wsF p.2.1 T.1))) M := by
  have hP7 := hT.2.1
  refine z_entry (by decide +kernel) (Nat.le_of_ble_eq_true rfl) rfl ?_
  show z_Sm mX7_wearOfAll _ _ 0 [some (.ref 59), none, none] [] M
  refine z_iconst (pc := 0) (v := 0) dX7_wearOfAll_0 (by decide) ?_
  refine z_istore_n (pc := 1) dX7_wearOfAll_1 rfl (by decide) ?_
  refine z_iconst (pc := 2) (v := 0) dX7_wearOfAll_2 (by decide) ?_
  refine z_istore_n (pc := 3) dX7_wearOfAll_3 rfl (by decide) ?_
  refine s_X7_wearOfAll_4 hT ?_ 0 (Nat.zero_le _) _ _ rfl rfl
  refine z_iload_n (pc := 29) dX7_wearOfAll_29 rfl ?_
  refine z_iret (pc := 30) rfl dX7_wearOfAll_30 ?_ ?_
  · exact wsF_cong _ (fun k hk => by have := hp.2.1 k (by omega); rw [← this])
  · rfl
