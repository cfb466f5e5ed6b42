set_option maxRecDepth 100000 in
set_option maxHeartbeats 400000 in
theorem s_X7_keep_21 {M M2 : z_Mem} {r : Option Value} {s : Nat} (hs : s ≤ 1) {x : Int32} (hx : x = nI s) (kk : z_Sm mX7_keep r M2 50 [some (.ref 59), some (.int x), none] [] (z_row M 78 (cpR (M.1 78) (9 * s) (M.1 68) (0) (9)))) (j : Nat) (hj : j ≤ 9) (ij : Int32) (Mj : z_Mem) (h2 : ij = nI j) (hM : Mj = z_row M 78 (cpR (M.1 78) (9 * s) (M.1 68) (0) j)) : z_Sm mX7_keep r M2 21 [some (.ref 59), some (.int x), some (.int ij)] [] Mj := by
  refine z_iload_n (pc := 21) dX7_keep_21 rfl ?_
  refine z_bipush (pc := 22) (v := 9) dX7_keep_22 (by decide) ?_
  refine z_icmp_ge (pc := 24) (tgt := 50) dX7_keep_24 (by decide) (fun h24 => ?_) (fun h24 => ?_)
  · have hNj : 9 ≤ j := by
      have := z_ge h24 h2 (show (9 : Int32) = nI 9 from rfl) (by omega) (by omega)
      omega
    obtain rfl : j = 9 := by omega
    subst hM
    exact z_drop 2 kk
  · have hlt : j < 9 := by
      have := z_lt h24 h2 (show (9 : Int32) = nI 9 from rfl) (by omega) (by omega)
      omega
    have hix : (9 : Int32) * x + ij = nI (9 * s + j) := by rw [hx, show (9 : Int32) * nI s = nI (9 * s) from nx_mul 9 s, h2, nI_add]
    have esr : Mj.1 68 = M.1 68 := by rw [hM, z_row_n _ _ (by decide)]
    refine z_aload_n (pc := 27) dX7_keep_27 rfl ?_
    refine z_getR (pc := 28) 78 q_fX7_65 z_s59 rfl dX7_keep_28 ?_
    refine z_bipush (pc := 31) (v := 9) dX7_keep_31 (by decide) ?_
    refine z_iload_n (pc := 33) dX7_keep_33 rfl ?_
    refine z_imul (pc := 34) dX7_keep_34 ?_
    refine z_iload_n (pc := 35) dX7_keep_35 rfl ?_
    refine z_iadd (pc := 36) dX7_keep_36 ?_
    refine z_aload_n (pc := 37) dX7_keep_37 rfl ?_
    refine z_getR (pc := 38) 68 q_fX7_34 z_s59 rfl dX7_keep_38 ?_
    refine z_iload_n (pc := 41) dX7_keep_41 rfl ?_
    refine z_iald (pc := 42) (j) z_s68 ⟨h2, by omega⟩ dX7_keep_42 ?_
    refine z_iast (pc := 43) (9 * s + j) z_s78 ⟨hix, by omega⟩ dX7_keep_43 ?_
    refine z_iinc (pc := 44) dX7_keep_44 rfl rfl rfl (by decide) ?_
    refine z_goto (pc := 47) (tgt := 21) dX7_keep_47 (by decide) ?_
    exact s_X7_keep_21 hs hx kk (j + 1) hlt _ _ (z_n1 h2) (by rw [esr, z_set, hM, z_row_1, z_row_row]; refine congrArg (z_row M 78) ?_; have e := cpR_s (M.1 78) (9 * s) (M.1 68) 0 j; rw [Nat.zero_add] at e; exact e)
termination_by 9 - j
decreasing_by all_goals omega
set_option maxRecDepth 100000 in
set_option maxHeartbeats 400000 in
theorem s_X7_again_26 {M M2 : z_Mem} {r : Option Value} {s : Nat} (hs : s ≤ 1) {x : Int32} (hx : x = nI s) (kk : z_Sm mX7_again r M2 55 [some (.ref 59), some (.int x), none] [] (z_row M 68 (cpR (M.1 68) (0) (M.1 78) (9 * s) (9)))) (j : Nat) (hj : j ≤ 9) (ij : Int32) (Mj : z_Mem) (h2 : ij = nI j) (hM : Mj = z_row M 68 (cpR (M.1 68) (0) (M.1 78) (9 * s) j)) : z_Sm mX7_again r M2 26 [some (.ref 59), some (.int x), some (.int ij)] [] Mj := by
  refine z_iload_n (pc := 26) dX7_again_26 rfl ?_
  refine z_bipush (pc := 27) (v := 9) dX7_again_27 (by decide) ?_
  refine z_icmp_ge (pc := 29) (tgt := 55) dX7_again_29 (by decide) (fun h29 => ?_) (fun h29 => ?_)
  · have hNj : 9 ≤ j := by
      have := z_ge h29 h2 (show (9 : Int32) = nI 9 from rfl) (by omega) (by omega)
      omega
    obtain rfl : j = 9 := by omega
    subst hM
    exact z_drop 2 kk
  · have hlt : j < 9 := by
      have := z_lt h29 h2 (show (9 : Int32) = nI 9 from rfl) (by omega) (by omega)
      omega
    have hix : (9 : Int32) * x + ij = nI (9 * s + j) := by rw [hx, show (9 : Int32) * nI s = nI (9 * s) from nx_mul 9 s, h2, nI_add]
    have esr : Mj.1 78 = M.1 78 := by rw [hM, z_row_n _ _ (by decide)]
    refine z_aload_n (pc := 32) dX7_again_32 rfl ?_
    refine z_getR (pc := 33) 68 q_fX7_34 z_s59 rfl dX7_again_33 ?_
    refine z_iload_n (pc := 36) dX7_again_36 rfl ?_
    refine z_aload_n (pc := 37) dX7_again_37 rfl ?_
    refine z_getR (pc := 38) 78 q_fX7_65 z_s59 rfl dX7_again_38 ?_
    refine z_bipush (pc := 41) (v := 9) dX7_again_41 (by decide) ?_
    refine z_iload_n (pc := 43) dX7_again_43 rfl ?_
    refine z_imul (pc := 44) dX7_again_44 ?_
    refine z_iload_n (pc := 45) dX7_again_45 rfl ?_
    refine z_iadd (pc := 46) dX7_again_46 ?_
    refine z_iald (pc := 47) (9 * s + j) z_s78 ⟨hix, by omega⟩ dX7_again_47 ?_
    refine z_iast (pc := 48) (j) z_s68 ⟨h2, by omega⟩ dX7_again_48 ?_
    refine z_iinc (pc := 49) dX7_again_49 rfl rfl rfl (by decide) ?_
    refine z_goto (pc := 52) (tgt := 26) dX7_again_52 (by decide) ?_
    exact s_X7_again_26 hs hx kk (j + 1) hlt _ _ (z_n1 h2) (by rw [esr, z_set, hM, z_row_1, z_row_row]; refine congrArg (z_row M 68) ?_; have e := cpR_s (M.1 68) 0 (M.1 78) (9 * s) j; rw [Nat.zero_add] at e; exact e)
termination_by 9 - j
decreasing_by all_goals omega
set_option maxRecDepth 100000 in
set_option maxHeartbeats 400000 in
theorem o_X7_keep_no1 {M : z_Mem} {l : Nat → Int32} {n : Nat} {T : TT} {U : UT} {D : DT} {p : PLt} {A : List PLt} {k0 k1 : Option PLt} {L : List (Int32 × Int32)} {sd : Int64} (hR : RM M l n T U D p A k0 k1 L sd) {x : Int32} (h : x < 0 ∨ 2 ≤ x) : z_Ct mX7_keep [.ref 59, .int x] M (some (.int (-1))) M := by
  obtain ⟨rS, rT, rU, rD, rp, rA, r0, r1, rL, rs⟩ := id hR
  have hin : inB x.toInt64 0 1 = false := by
    refine inB_no 0 1 (by decide) (by decide) (h.imp id (fun q => ?_))
    rw [Int32.le_iff_toInt_le] at q
    rw [Int32.lt_iff_toInt_lt]
    have h1 : (1 : Int32).toInt = 1 := by decide
    have h2 : (2 : Int32).toInt = 2 := by decide
    omega

  refine z_entry (by decide +kernel) (Nat.le_of_ble_eq_true rfl) rfl ?_
  show z_Sm mX7_keep _ _ 0 [some (.ref 59), some (.int x), none] [] M
  refine z_iload_n (pc := 0) dX7_keep_0 rfl ?_
  refine z_i2l (pc := 1) dX7_keep_1 rfl ?_
  refine z_lconst (pc := 2) (v := 0) dX7_keep_2 (by decide) ?_
  refine z_lconst (pc := 3) (v := 1) dX7_keep_3 (by decide) ?_
  refine z_cS3 (pc := 4) c_X7_in (q_cX7_70 _ (by decide)) rfl dX7_keep_4 ?_
  refine z_if_ne (pc := 7) (tgt := 12) dX7_keep_7 (by decide) (fun h7 => ?_) (fun h7 => ?_)
  · rw [hin] at h7; exact absurd rfl h7
  · refine z_iconst (pc := 10) (v := (-1)) dX7_keep_10 (by decide) ?_
    refine z_iret (pc := 11) rfl dX7_keep_11 ?_ ?_
    · rfl
    · rfl
set_option maxRecDepth 100000 in
set_option maxHeartbeats 400000 in
theorem o_X7_again_no1 {M : z_Mem} {l : Nat → Int32} {n : Nat} {T : TT} {U : UT} {D : DT} {p : PLt} {A : List PLt} {k0 k1 : Option PLt} {L : List (Int32 × Int32)} {sd : Int64} (hR : RM M l n T U D p A k0 k1 L sd) {x : Int32} (h : x < 0 ∨ 2 ≤ x) : z_Ct mX7_again [.ref 59, .int x] M (some (.int (-1))) M := by
  obtain ⟨rS, rT, rU, rD, rp, rA, r0, r1, rL, rs⟩ := id hR
  have hin : inB x.toInt64 0 1 = false := by
    refine inB_no 0 1 (by decide) (by decide) (h.imp id (fun q => ?_))
    rw [Int32.le_iff_toInt_le] at q
    rw [Int32.lt_iff_toInt_lt]
    have h1 : (1 : Int32).toInt = 1 := by decide
    have h2 : (2 : Int32).toInt = 2 := by decide
    omega

  refine z_entry (by decide +kernel) (Nat.le_of_ble_eq_true rfl) rfl ?_
  show z_Sm mX7_again _ _ 0 [some (.ref 59), some (.int x), none] [] M
  refine z_iload_n (pc := 0) dX7_again_0 rfl ?_
  refine z_i2l (pc := 1) dX7_again_1 rfl ?_
  refine z_lconst (pc := 2) (v := 0) dX7_again_2 (by decide) ?_
  refine z_lconst (pc := 3) (v := 1) dX7_again_3 (by decide) ?_
  refine z_cS3 (pc := 4) c_X7_in (q_cX7_70 _ (by decide)) rfl dX7_again_4 ?_
  refine z_if_ne (pc := 7) (tgt := 12) dX7_again_7 (by decide) (fun h7 => ?_) (fun h7 => ?_)
  · rw [hin] at h7; exact absurd rfl h7
  · refine z_iconst (pc := 10) (v := (-1)) dX7_again_10 (by decide) ?_
    refine z_iret (pc := 11) rfl dX7_again_11 ?_ ?_
    · rfl
    · rfl
/-- only what is kept has changed -/
theorem RM_kp {M N : z_Mem} {l : Nat → Int32} {n : Nat} {T : TT} {U : UT} {D : DT} {p : PLt} {A : List PLt} {k0 k1 j0 j1 : Option PLt} {L : List (Int32 × Int32)} {sd : Int64} (h : RM M l n T U D p A k0 k1 L sd) (s : Sb [77, 78] M N) (q0 : KN N 0 j0) (q1 : KN N 1 j1) : RM N l n T U D p A j0 j1 L sd ∧ Fm M N := by
  obtain ⟨h1, h2, h3, h4, h5, h6, h7, h8, h9, h10⟩ := h
  have e : ∀ i, i ≠ 77 → i ≠ 78 → N.1 i = M.1 i := fun i a b => s.1 i (by simp [a, b])
  refine ⟨⟨SN_cong h1 (by rw [e 59 (by decide) (by decide)]) (e 72 (by decide) (by decide)), TN_sb h2 s (by simp), UN_sb h3 s (by simp), ?_, ?_, AN_cong h6 (by rw [e 59 (by decide) (by decide)]) (by rw [e 59 (by decide) (by decide)]) (e 74 (by decide) (by decide)), q0, q1, LN_cong h9 (by rw [e 59 (by decide) (by decide)]) (e 75 (by decide) (by decide)) (e 76 (by decide) (by decide)), by rw [s.2]; exact h10⟩, s.fm (by simp)⟩
  · unfold DN
    rw [e 59 (by decide) (by decide), e 66 (by decide) (by decide), e 67 (by decide) (by decide)]
    exact h4
  · unfold PM
    rw [e 68 (by decide) (by decide)]
    exact h5
