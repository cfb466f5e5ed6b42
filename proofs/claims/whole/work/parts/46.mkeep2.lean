set_option maxRecDepth 100000 in
set_option maxHeartbeats 400000 in
theorem o_X7_keep_0 {M : z_Mem} {l : Nat → Int32} {n : Nat} {T : TT} {U : UT} {D : DT} {p : PLt} {A : List PLt} {k0 k1 : Option PLt} {L : List (Int32 × Int32)} {sd : Int64} (hR : RM M l n T U D p A k0 k1 L sd) {x : Int32} (hx : x = 0) : ∃ M1, z_Ct mX7_keep [.ref 59, .int x] M (some (.int (nI p.2.2))) M1 ∧ RM M1 l n T U D p A (some p) k1 L sd ∧ Fm M M1 := by
  obtain ⟨rS, rT, rU, rD, rp, rA, r0, r1, rL, rs⟩ := id hR
  have hin : inB x.toInt64 0 1 = true := by rw [hx]; decide
  refine ⟨z_row (z_set M 77 0 1) 78 (cpR ((z_set M 77 0 1).1 78) (9 * 0) ((z_set M 77 0 1).1 68) 0 9), ?_, RM_kp hR ((Sb.set _ (by simp)).tr (Sb.row _ (by simp))) (⟨by rw [z_row_n _ _ (by decide), zs_1], PA.mv (M := M) (ro := 68) (b := 9 * 0) rp (fun j hj => by rw [z_row_1, cpR_in hj, z_set, z_row_n _ _ (by decide)])⟩) (KN_cong r1 (by rw [z_row_n _ _ (by decide), z_set, z_row_1, upd_n _ _ (by decide)]) (fun j hj => by rw [z_row_1, cpR_out (by omega), z_set, z_row_n _ _ (by decide)]))⟩
  · refine z_entry (by decide +kernel) (Nat.le_of_ble_eq_true rfl) rfl ?_
    show z_Sm mX7_keep _ _ 0 [some (.ref 59), some (.int x), none] [] M
    refine z_iload_n (pc := 0) dX7_keep_0 rfl ?_
    refine z_i2l (pc := 1) dX7_keep_1 rfl ?_
    refine z_lconst (pc := 2) (v := 0) dX7_keep_2 (by decide) ?_
    refine z_lconst (pc := 3) (v := 1) dX7_keep_3 (by decide) ?_
    refine z_cS3 (pc := 4) c_X7_in (q_cX7_70 _ (by decide)) rfl dX7_keep_4 ?_
    refine z_if_ne (pc := 7) (tgt := 12) dX7_keep_7 (by decide) (fun h7 => ?_) (fun h7 => ?_)
    · refine z_aload_n (pc := 12) dX7_keep_12 rfl ?_
      refine z_getR (pc := 13) 77 q_fX7_61 z_s59 rfl dX7_keep_13 ?_
      refine z_iload_n (pc := 16) dX7_keep_16 rfl ?_
      refine z_iconst (pc := 17) (v := 1) dX7_keep_17 (by decide) ?_
      refine z_zast (pc := 18) (0) z_s77 ⟨hx, by decide, by decide⟩ z_bool1 dX7_keep_18 ?_
      refine z_iconst (pc := 19) (v := 0) dX7_keep_19 (by decide) ?_
      refine z_istore_n (pc := 20) dX7_keep_20 rfl (by decide) ?_
      refine s_X7_keep_21 (s := 0) (by decide) hx ?_ 0 (by omega) _ _ rfl (by rw [cpR_0, z_row_same])
      refine z_aload_n (pc := 50) dX7_keep_50 rfl ?_
      refine z_getR (pc := 51) 68 q_fX7_34 z_s59 rfl dX7_keep_51 ?_
      refine z_bipush (pc := 54) (v := 8) dX7_keep_54 (by decide) ?_
      refine z_iald (pc := 56) (8) z_s68 ⟨rfl, by omega⟩ dX7_keep_56 ?_
      refine z_iret (pc := 57) rfl dX7_keep_57 ?_ ?_
      · rw [z_row_n _ _ (by decide), z_set, z_row_n _ _ (by decide)]; exact rp.2.2
      · rfl
    · rw [hin] at h7; exact absurd h7 (by decide)
set_option maxRecDepth 100000 in
set_option maxHeartbeats 400000 in
theorem o_X7_again_no2_0 {M : z_Mem} {l : Nat → Int32} {n : Nat} {T : TT} {U : UT} {D : DT} {p : PLt} {A : List PLt} {k0 k1 : Option PLt} {L : List (Int32 × Int32)} {sd : Int64} (hR : RM M l n T U D p A k0 k1 L sd) {x : Int32} (hx : x = 0) (hk : k0 = none) : z_Ct mX7_again [.ref 59, .int x] M (some (.int (-3))) M := by
  obtain ⟨rS, rT, rU, rD, rp, rA, r0, r1, rL, rs⟩ := id hR
  subst hk
  have hin : inB x.toInt64 0 1 = true := by rw [hx]; decide

  refine z_entry (by decide +kernel) (Nat.le_of_ble_eq_true rfl) rfl ?_
  show z_Sm mX7_again _ _ 0 [some (.ref 59), some (.int x), none] [] M
  refine z_iload_n (pc := 0) dX7_again_0 rfl ?_
  refine z_i2l (pc := 1) dX7_again_1 rfl ?_
  refine z_lconst (pc := 2) (v := 0) dX7_again_2 (by decide) ?_
  refine z_lconst (pc := 3) (v := 1) dX7_again_3 (by decide) ?_
  refine z_cS3 (pc := 4) c_X7_in (q_cX7_70 _ (by decide)) rfl dX7_again_4 ?_
  refine z_if_ne (pc := 7) (tgt := 12) dX7_again_7 (by decide) (fun h7 => ?_) (fun h7 => ?_)
  · refine z_aload_n (pc := 12) dX7_again_12 rfl ?_
    refine z_getR (pc := 13) 77 q_fX7_61 z_s59 rfl dX7_again_13 ?_
    refine z_iload_n (pc := 16) dX7_again_16 rfl ?_
    refine z_zald (pc := 17) (0) z_s77 ⟨hx, by decide, by decide⟩ dX7_again_17 ?_
    refine z_if_ne (pc := 18) (tgt := 24) dX7_again_18 (by decide) (fun h18 => ?_) (fun h18 => ?_)
    · exact absurd r0 h18
    · refine z_bipush (pc := 21) (v := (-3)) dX7_again_21 (by decide) ?_
      refine z_iret (pc := 23) rfl dX7_again_23 ?_ ?_
      · rfl
      · rfl
  · rw [hin] at h7; exact absurd h7 (by decide)
set_option maxRecDepth 100000 in
set_option maxHeartbeats 400000 in
theorem o_X7_again_0 {M : z_Mem} {l : Nat → Int32} {n : Nat} {T : TT} {U : UT} {D : DT} {p : PLt} {A : List PLt} {k0 k1 : Option PLt} {L : List (Int32 × Int32)} {sd : Int64} (hR : RM M l n T U D p A k0 k1 L sd) {q : PLt} {x : Int32} (hx : x = 0) (hk : k0 = some q) : ∃ M1, z_Ct mX7_again [.ref 59, .int x] M (some (.int (nI q.2.2))) M1 ∧ RM M1 l n T U D q [] k0 k1 L sd ∧ Fm M M1 := by
  subst hk
  obtain ⟨rS, rT, rU, rD, rp, rA, r0, r1, rL, rs⟩ := id hR
  have hin : inB x.toInt64 0 1 = true := by rw [hx]; decide
  have s1 : Se M (z_set M 59 23 0) := ⟨fun i a b => by rw [z_set, z_row_n _ _ a], fun k a b => by rw [z_set, z_row_1, upd_n _ _ a], rfl⟩
  have a1 : AN (z_set M 59 23 0) [] := by
    obtain ⟨t, ht, h1, h2, h3, h4⟩ := rA
    exact ⟨t, ht, by rw [z_set, z_row_1, upd_n _ _ (by decide)]; exact h1, by rw [zs_1]; rfl, by simp, fun i pl hi => by simp at hi⟩
  have s2 : Sn 0 (z_set M 59 23 0) (z_set (z_row M 68 (cpR (M.1 68) 0 (M.1 78) (9 * 0) 9)) 59 23 0) := by
    refine ⟨⟨fun i hi => ?_, rfl⟩, fun i hi => ?_⟩
    · have h68 : i ≠ 68 := fun e => hi (by simp [e])
      by_cases e : i = 59
      · subst e
        rw [z_set, z_row_1, z_set, z_row_1, z_row_n _ _ (by decide)]
      · rw [z_set, z_row_n _ _ e, z_set, z_row_n _ _ e, z_row_n _ _ h68]
    · rw [z_set, z_row_n (a := 68) _ _ (by decide), z_row_1, cpR_out (by omega), z_set, z_row_n (a := 68) _ _ (by decide)]
  have p2 : PM (z_set (z_row M 68 (cpR (M.1 68) 0 (M.1 78) (9 * 0) 9)) 59 23 0) 0 q := PA.mv (rb := 68) (c := 9 * 0) r0.2 (fun j hj => by rw [z_set, z_row_n (a := 68) _ _ (by decide), z_row_1, cpR_in hj])
  refine ⟨_, ?_, RM_act hR s1 a1 s2 p2⟩
  refine z_entry (by decide +kernel) (Nat.le_of_ble_eq_true rfl) rfl ?_
  show z_Sm mX7_again _ _ 0 [some (.ref 59), some (.int x), none] [] M
  refine z_iload_n (pc := 0) dX7_again_0 rfl ?_
  refine z_i2l (pc := 1) dX7_again_1 rfl ?_
  refine z_lconst (pc := 2) (v := 0) dX7_again_2 (by decide) ?_
  refine z_lconst (pc := 3) (v := 1) dX7_again_3 (by decide) ?_
  refine z_cS3 (pc := 4) c_X7_in (q_cX7_70 _ (by decide)) rfl dX7_again_4 ?_
  refine z_if_ne (pc := 7) (tgt := 12) dX7_again_7 (by decide) (fun h7 => ?_) (fun h7 => ?_)
  · refine z_aload_n (pc := 12) dX7_again_12 rfl ?_
    refine z_getR (pc := 13) 77 q_fX7_61 z_s59 rfl dX7_again_13 ?_
    refine z_iload_n (pc := 16) dX7_again_16 rfl ?_
    refine z_zald (pc := 17) (0) z_s77 ⟨hx, by decide, by decide⟩ dX7_again_17 ?_
    refine z_if_ne (pc := 18) (tgt := 24) dX7_again_18 (by decide) (fun h18 => ?_) (fun h18 => ?_)
    · refine z_iconst (pc := 24) (v := 0) dX7_again_24 (by decide) ?_
      refine z_istore_n (pc := 25) dX7_again_25 rfl (by decide) ?_
      refine s_X7_again_26 (s := 0) (by decide) hx ?_ 0 (by omega) _ _ rfl (by rw [cpR_0, z_row_same])
      refine z_aload_n (pc := 55) dX7_again_55 rfl ?_
      refine z_iconst (pc := 56) (v := 0) dX7_again_56 (by decide) ?_
      refine z_putI (pc := 57) q_fX7_114 q_p7_23 z_s59 rfl dX7_again_57 ?_
      refine z_aload_n (pc := 60) dX7_again_60 rfl ?_
      refine z_getR (pc := 61) 68 q_fX7_34 z_s59 rfl dX7_again_61 ?_
      refine z_bipush (pc := 64) (v := 8) dX7_again_64 (by decide) ?_
      refine z_iald (pc := 66) (8) z_s68 ⟨rfl, by omega⟩ dX7_again_66 ?_
      refine z_iret (pc := 67) rfl dX7_again_67 ?_ ?_
      · exact p2.2.2
      · rfl
    · exact absurd (r0.1.symm.trans h18) (by decide)
  · rw [hin] at h7; exact absurd h7 (by decide)
set_option maxRecDepth 100000 in
set_option maxHeartbeats 400000 in
theorem o_X7_keep_1 {M : z_Mem} {l : Nat → Int32} {n : Nat} {T : TT} {U : UT} {D : DT} {p : PLt} {A : List PLt} {k0 k1 : Option PLt} {L : List (Int32 × Int32)} {sd : Int64} (hR : RM M l n T U D p A k0 k1 L sd) {x : Int32} (hx : x = 1) : ∃ M1, z_Ct mX7_keep [.ref 59, .int x] M (some (.int (nI p.2.2))) M1 ∧ RM M1 l n T U D p A k0 (some p) L sd ∧ Fm M M1 := by
  obtain ⟨rS, rT, rU, rD, rp, rA, r0, r1, rL, rs⟩ := id hR
  have hin : inB x.toInt64 0 1 = true := by rw [hx]; decide
  refine ⟨z_row (z_set M 77 1 1) 78 (cpR ((z_set M 77 1 1).1 78) (9 * 1) ((z_set M 77 1 1).1 68) 0 9), ?_, RM_kp hR ((Sb.set _ (by simp)).tr (Sb.row _ (by simp))) (KN_cong r0 (by rw [z_row_n _ _ (by decide), z_set, z_row_1, upd_n _ _ (by decide)]) (fun j hj => by rw [z_row_1, cpR_out (by omega), z_set, z_row_n _ _ (by decide)])) (⟨by rw [z_row_n _ _ (by decide), zs_1], PA.mv (M := M) (ro := 68) (b := 9 * 0) rp (fun j hj => by rw [z_row_1, cpR_in hj, z_set, z_row_n _ _ (by decide)])⟩)⟩
  · refine z_entry (by decide +kernel) (Nat.le_of_ble_eq_true rfl) rfl ?_
    show z_Sm mX7_keep _ _ 0 [some (.ref 59), some (.int x), none] [] M
    refine z_iload_n (pc := 0) dX7_keep_0 rfl ?_
    refine z_i2l (pc := 1) dX7_keep_1 rfl ?_
    refine z_lconst (pc := 2) (v := 0) dX7_keep_2 (by decide) ?_
    refine z_lconst (pc := 3) (v := 1) dX7_keep_3 (by decide) ?_
    refine z_cS3 (pc := 4) c_X7_in (q_cX7_70 _ (by decide)) rfl dX7_keep_4 ?_
    refine z_if_ne (pc := 7) (tgt := 12) dX7_keep_7 (by decide) (fun h7 => ?_) (fun h7 => ?_)
    · refine z_aload_n (pc := 12) dX7_keep_12 rfl ?_
      refine z_getR (pc := 13) 77 q_fX7_61 z_s59 rfl dX7_keep_13 ?_
      refine z_iload_n (pc := 16) dX7_keep_16 rfl ?_
      refine z_iconst (pc := 17) (v := 1) dX7_keep_17 (by decide) ?_
      refine z_zast (pc := 18) (1) z_s77 ⟨hx, by decide, by decide⟩ z_bool1 dX7_keep_18 ?_
      refine z_iconst (pc := 19) (v := 0) dX7_keep_19 (by decide) ?_
      refine z_istore_n (pc := 20) dX7_keep_20 rfl (by decide) ?_
      refine s_X7_keep_21 (s := 1) (by decide) hx ?_ 0 (by omega) _ _ rfl (by rw [cpR_0, z_row_same])
      refine z_aload_n (pc := 50) dX7_keep_50 rfl ?_
      refine z_getR (pc := 51) 68 q_fX7_34 z_s59 rfl dX7_keep_51 ?_
      refine z_bipush (pc := 54) (v := 8) dX7_keep_54 (by decide) ?_
      refine z_iald (pc := 56) (8) z_s68 ⟨rfl, by omega⟩ dX7_keep_56 ?_
      refine z_iret (pc := 57) rfl dX7_keep_57 ?_ ?_
      · rw [z_row_n _ _ (by decide), z_set, z_row_n _ _ (by decide)]; exact rp.2.2
      · rfl
    · rw [hin] at h7; exact absurd h7 (by decide)
set_option maxRecDepth 100000 in
set_option maxHeartbeats 400000 in
theorem o_X7_again_no2_1 {M : z_Mem} {l : Nat → Int32} {n : Nat} {T : TT} {U : UT} {D : DT} {p : PLt} {A : List PLt} {k0 k1 : Option PLt} {L : List (Int32 × Int32)} {sd : Int64} (hR : RM M l n T U D p A k0 k1 L sd) {x : Int32} (hx : x = 1) (hk : k1 = none) : z_Ct mX7_again [.ref 59, .int x] M (some (.int (-3))) M := by
  obtain ⟨rS, rT, rU, rD, rp, rA, r0, r1, rL, rs⟩ := id hR
  subst hk
  have hin : inB x.toInt64 0 1 = true := by rw [hx]; decide

  refine z_entry (by decide +kernel) (Nat.le_of_ble_eq_true rfl) rfl ?_
  show z_Sm mX7_again _ _ 0 [some (.ref 59), some (.int x), none] [] M
  refine z_iload_n (pc := 0) dX7_again_0 rfl ?_
  refine z_i2l (pc := 1) dX7_again_1 rfl ?_
  refine z_lconst (pc := 2) (v := 0) dX7_again_2 (by decide) ?_
  refine z_lconst (pc := 3) (v := 1) dX7_again_3 (by decide) ?_
  refine z_cS3 (pc := 4) c_X7_in (q_cX7_70 _ (by decide)) rfl dX7_again_4 ?_
  refine z_if_ne (pc := 7) (tgt := 12) dX7_again_7 (by decide) (fun h7 => ?_) (fun h7 => ?_)
  · refine z_aload_n (pc := 12) dX7_again_12 rfl ?_
    refine z_getR (pc := 13) 77 q_fX7_61 z_s59 rfl dX7_again_13 ?_
    refine z_iload_n (pc := 16) dX7_again_16 rfl ?_
    refine z_zald (pc := 17) (1) z_s77 ⟨hx, by decide, by decide⟩ dX7_again_17 ?_
    refine z_if_ne (pc := 18) (tgt := 24) dX7_again_18 (by decide) (fun h18 => ?_) (fun h18 => ?_)
    · exact absurd r1 h18
    · refine z_bipush (pc := 21) (v := (-3)) dX7_again_21 (by decide) ?_
      refine z_iret (pc := 23) rfl dX7_again_23 ?_ ?_
      · rfl
      · rfl
  · rw [hin] at h7; exact absurd h7 (by decide)
set_option maxRecDepth 100000 in
set_option maxHeartbeats 400000 in
theorem o_X7_again_1 {M : z_Mem} {l : Nat → Int32} {n : Nat} {T : TT} {U : UT} {D : DT} {p : PLt} {A : List PLt} {k0 k1 : Option PLt} {L : List (Int32 × Int32)} {sd : Int64} (hR : RM M l n T U D p A k0 k1 L sd) {q : PLt} {x : Int32} (hx : x = 1) (hk : k1 = some q) : ∃ M1, z_Ct mX7_again [.ref 59, .int x] M (some (.int (nI q.2.2))) M1 ∧ RM M1 l n T U D q [] k0 k1 L sd ∧ Fm M M1 := by
  subst hk
  obtain ⟨rS, rT, rU, rD, rp, rA, r0, r1, rL, rs⟩ := id hR
  have hin : inB x.toInt64 0 1 = true := by rw [hx]; decide
  have s1 : Se M (z_set M 59 23 0) := ⟨fun i a b => by rw [z_set, z_row_n _ _ a], fun k a b => by rw [z_set, z_row_1, upd_n _ _ a], rfl⟩
  have a1 : AN (z_set M 59 23 0) [] := by
    obtain ⟨t, ht, h1, h2, h3, h4⟩ := rA
    exact ⟨t, ht, by rw [z_set, z_row_1, upd_n _ _ (by decide)]; exact h1, by rw [zs_1]; rfl, by simp, fun i pl hi => by simp at hi⟩
  have s2 : Sn 0 (z_set M 59 23 0) (z_set (z_row M 68 (cpR (M.1 68) 0 (M.1 78) (9 * 1) 9)) 59 23 0) := by
    refine ⟨⟨fun i hi => ?_, rfl⟩, fun i hi => ?_⟩
    · have h68 : i ≠ 68 := fun e => hi (by simp [e])
      by_cases e : i = 59
      · subst e
        rw [z_set, z_row_1, z_set, z_row_1, z_row_n _ _ (by decide)]
      · rw [z_set, z_row_n _ _ e, z_set, z_row_n _ _ e, z_row_n _ _ h68]
    · rw [z_set, z_row_n (a := 68) _ _ (by decide), z_row_1, cpR_out (by omega), z_set, z_row_n (a := 68) _ _ (by decide)]
  have p2 : PM (z_set (z_row M 68 (cpR (M.1 68) 0 (M.1 78) (9 * 1) 9)) 59 23 0) 0 q := PA.mv (rb := 68) (c := 9 * 0) r1.2 (fun j hj => by rw [z_set, z_row_n (a := 68) _ _ (by decide), z_row_1, cpR_in hj])
  refine ⟨_, ?_, RM_act hR s1 a1 s2 p2⟩
  refine z_entry (by decide +kernel) (Nat.le_of_ble_eq_true rfl) rfl ?_
  show z_Sm mX7_again _ _ 0 [some (.ref 59), some (.int x), none] [] M
  refine z_iload_n (pc := 0) dX7_again_0 rfl ?_
  refine z_i2l (pc := 1) dX7_again_1 rfl ?_
  refine z_lconst (pc := 2) (v := 0) dX7_again_2 (by decide) ?_
  refine z_lconst (pc := 3) (v := 1) dX7_again_3 (by decide) ?_
  refine z_cS3 (pc := 4) c_X7_in (q_cX7_70 _ (by decide)) rfl dX7_again_4 ?_
  refine z_if_ne (pc := 7) (tgt := 12) dX7_again_7 (by decide) (fun h7 => ?_) (fun h7 => ?_)
  · refine z_aload_n (pc := 12) dX7_again_12 rfl ?_
    refine z_getR (pc := 13) 77 q_fX7_61 z_s59 rfl dX7_again_13 ?_
    refine z_iload_n (pc := 16) dX7_again_16 rfl ?_
    refine z_zald (pc := 17) (1) z_s77 ⟨hx, by decide, by decide⟩ dX7_again_17 ?_
    refine z_if_ne (pc := 18) (tgt := 24) dX7_again_18 (by decide) (fun h18 => ?_) (fun h18 => ?_)
    · refine z_iconst (pc := 24) (v := 0) dX7_again_24 (by decide) ?_
      refine z_istore_n (pc := 25) dX7_again_25 rfl (by decide) ?_
      refine s_X7_again_26 (s := 1) (by decide) hx ?_ 0 (by omega) _ _ rfl (by rw [cpR_0, z_row_same])
      refine z_aload_n (pc := 55) dX7_again_55 rfl ?_
      refine z_iconst (pc := 56) (v := 0) dX7_again_56 (by decide) ?_
      refine z_putI (pc := 57) q_fX7_114 q_p7_23 z_s59 rfl dX7_again_57 ?_
      refine z_aload_n (pc := 60) dX7_again_60 rfl ?_
      refine z_getR (pc := 61) 68 q_fX7_34 z_s59 rfl dX7_again_61 ?_
      refine z_bipush (pc := 64) (v := 8) dX7_again_64 (by decide) ?_
      refine z_iald (pc := 66) (8) z_s68 ⟨rfl, by omega⟩ dX7_again_66 ?_
      refine z_iret (pc := 67) rfl dX7_again_67 ?_ ?_
      · exact p2.2.2
      · rfl
    · exact absurd (r1.1.symm.trans h18) (by decide)
  · rw [hin] at h7; exact absurd h7 (by decide)
