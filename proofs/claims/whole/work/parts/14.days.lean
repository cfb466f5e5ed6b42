def dyM (T : TT) (q : Nat) (M : z_Mem) : z_Mem := z_set (z_row (pm M q (pgF T (M.1 (q + 1)) (M.1 q 0) (M.1 13) (T.1 + 1)).1 (pgF T (M.1 (q + 1)) (M.1 q 0) (M.1 13) (T.1 + 1)).2) (q + 1) (wnF T (pgF T (M.1 (q + 1)) (M.1 q 0) (M.1 13) (T.1 + 1)).1 (pgF T (M.1 (q + 1)) (M.1 q 0) (M.1 13) (T.1 + 1)).2 (M.1 (q + 1)) T.1)) q 2 (M.1 q 2 + 1)
theorem dyM_ok {T : TT} {U : UT} {q : Nat} {M : z_Mem} {p : PLt} (hE : TE T) (hP : T.1 ≤ 7) (hq : 13 < q) (h0 : M.1 q 0 = dyO T p) (hw : ∀ k, k < 7 → M.1 (q + 1) k = p.2.1 k) (hL : ∀ k, k < 6 → M.1 13 k = dyL U p.2.2 k) (hd : M.1 q 2 = nI p.2.2) : PlAt (dyM T q M) q (dayF T U p) ∧ Sb [13, q, q + 1] M (dyM T q M) ∧ (pgF T (M.1 (q + 1)) (M.1 q 0) (M.1 13) (T.1 + 1)).1 = (dyP T U p).1 := by
  have hc := pgF_cong (o := M.1 q 0) hE (w := M.1 (q + 1)) (v := p.2.1) (L := M.1 13) (K := dyL U p.2.2) (fun k hk => hw k (by omega)) hL (T.1 + 1)
  rw [h0] at hc
  have e1 : (pgF T (M.1 (q + 1)) (M.1 q 0) (M.1 13) (T.1 + 1)).1 = (dyP T U p).1 := by rw [h0]; exact hc.1
  refine ⟨⟨?_, fun k hk => ?_, ?_⟩, ?_, e1⟩
  · show (dyM T q M).1 q 0 = (dyP T U p).1
    unfold dyM
    rw [z_set, z_row_1, upd_n _ _ (by decide), z_row_n _ _ (by omega), pm_q0 M (by omega)]
    exact e1
  · show (dyM T q M).1 (q + 1) k = wnF T (dyP T U p).1 (dyP T U p).2 p.2.1 T.1 k
    unfold dyM
    rw [z_set, z_row_n _ _ (by omega), z_row_1, e1]
    rw [h0]
    exact wnF_cong hE hw hc.2 (Nat.le_refl _) k hk
  · show (dyM T q M).1 q 2 = nI (p.2.2 + 1)
    unfold dyM
    rw [z_set, z_row_1, upd_1, hd]
    exact (nI_succ _).symm
  · unfold dyM
    exact ((Sb.pm _ _ (by simp) (by simp)).tr (Sb.row _ (by simp))).tr (Sb.set _ (by simp))
set_option maxRecDepth 100000 in
set_option maxHeartbeats 400000 in
theorem e_X1_pullAt_14 {M : z_Mem} {T : TT} (hT : TK M T) (ho : sm7 (M.1 14 0)) {x n : Int32} {t : Nat} (hx : x = nI t) (ht : t < 6) : z_Ct mX1_pullAt [.ref 12, .ref 14, .int x, .int n] M (some (.int (pgR (M.1 14 0) (pgF T (M.1 15) (M.1 14 0) (upd (cpF 6 (fun _ => 0) (M.1 13)) t (cpF 6 (fun _ => 0) (M.1 13) t + n)) (T.1 + 1)).1))) (pm M 14 (pgF T (M.1 15) (M.1 14 0) (upd (cpF 6 (fun _ => 0) (M.1 13)) t (cpF 6 (fun _ => 0) (M.1 13) t + n)) (T.1 + 1)).1 (pgF T (M.1 15) (M.1 14 0) (upd (cpF 6 (fun _ => 0) (M.1 13)) t (cpF 6 (fun _ => 0) (M.1 13) t + n)) (T.1 + 1)).2) := by
  refine z_entry (by decide +kernel) (Nat.le_of_ble_eq_true rfl) rfl ?_
  show z_Sm mX1_pullAt _ _ 0 [some (.ref 12), some (.ref 14), some (.int x), some (.int n)] [] M
  refine z_aload_n (pc := 0) dX1_pullAt_0 rfl ?_
  refine z_cV0v (pc := 1) c_X1_clear (q_cX1_64 _ (by decide)) z_s12 rfl rfl dX1_pullAt_1 ?_
  refine z_aload_n (pc := 4) dX1_pullAt_4 rfl ?_
  refine z_iload_n (pc := 5) dX1_pullAt_5 rfl ?_
  refine z_iload_n (pc := 6) dX1_pullAt_6 rfl ?_
  refine z_cV2v (pc := 7) (c_X1_burden hx ht) (q_cX1_67 _ (by decide)) z_s12 rfl rfl dX1_pullAt_7 ?_
  refine z_aload_n (pc := 10) dX1_pullAt_10 rfl ?_
  refine z_aload_n (pc := 11) dX1_pullAt_11 rfl ?_
  refine z_cV1 (pc := 12) (c_X1_ping_14 (T := T) (TK_cong hT (by simp [z_row]) (by simp [z_row]) (by simp [z_row]) (by simp [z_row]) (by simp [z_row])) (by simp only [z_row_row, z_row_1]; rw [z_row_n _ _ (by decide)]; exact ho)) (q_cX1_71 _ (by decide)) z_s12 rfl rfl dX1_pullAt_12 ?_
  refine z_iret (pc := 15) rfl dX1_pullAt_15 ?_ ?_
  · simp only [z_row_row, z_row_1]
    rw [z_row_n _ _ (by decide), z_row_n _ _ (by decide)]
  · simp only [z_row_row, z_row_1]
    rw [z_row_n _ _ (by decide), z_row_n _ _ (by decide), pm_pre (by decide)]
set_option maxRecDepth 100000 in
set_option maxHeartbeats 400000 in
theorem c_X1_pullAt_14 {M : z_Mem} {T : TT} (hT : TK M T) {p : PLt} (hp : PlAt M 14 p) (ho : sm7 p.1) {x n : Int32} {t : Nat} (hx : x = nI t) (ht : t < 6) : ∃ M1, z_Ct mX1_pullAt [.ref 12, .ref 14, .int x, .int n] M (some (.int (pgR p.1 (tugF T p t n).1))) M1 ∧ PlAt M1 14 (tugF T p t n) ∧ Sb [13, 14, 15] M M1 := by
  obtain ⟨h0, hw, hd⟩ := hp
  have hc := pgF_cong (o := M.1 14 0) hT.te (w := M.1 15) (v := p.2.1) (L := upd (cpF 6 (fun _ => 0) (M.1 13)) t (cpF 6 (fun _ => 0) (M.1 13) t + n)) (K := tgL t n) (fun k hk => hw k (by have := hT.1.2.1; omega)) (fun k hk => by
    unfold tgL upd cpF
    split
    · simp
    · rfl) (T.1 + 1)
  have e := e_X1_pullAt_14 hT (h0 ▸ ho) (n := n) hx ht
  have e1 := hc.1
  rw [h0] at e e1
  refine ⟨_, e1 ▸ e, ⟨?_, fun k hk => ?_, ?_⟩, Sb.pm _ _ (by simp) (by simp)⟩
  · rw [pm_q0 M (by decide)]; rfl
  · rw [pm_n M (by decide) (by decide)]; exact hw k hk
  · rw [pm_q M (by decide), upd_n _ _ (by decide)]; exact hd
set_option maxRecDepth 100000 in
set_option maxHeartbeats 400000 in
theorem s_X1_passDay_56_14a {M : z_Mem} {T : TT} (hT : TK M T) (ho : sm7 (M.1 14 0)) : z_Sm mX1_passDay (some (.int (pgR (M.1 14 0) (pgF T (M.1 15) (M.1 14 0) (M.1 13) (T.1 + 1)).1))) (dyM T 14 M) 56 [some (.ref 12), some (.ref 14), none] [] M := by
  have hT2 : TK (pm M 14 (pgF T (M.1 15) (M.1 14 0) (M.1 13) (T.1 + 1)).1 (pgF T (M.1 15) (M.1 14 0) (M.1 13) (T.1 + 1)).2) T := TK_pm hT (by decide) _ _
  refine z_aload_n (pc := 56) dX1_passDay_56 rfl ?_
  refine z_aload_n (pc := 57) dX1_passDay_57 rfl ?_
  refine z_cV1 (pc := 58) (c_X1_ping_14 hT ho) (q_cX1_71 _ (by decide)) z_s12 rfl rfl dX1_passDay_58 ?_
  refine z_istore_n (pc := 61) dX1_passDay_61 rfl (by decide) ?_
  refine z_aload_n (pc := 62) dX1_passDay_62 rfl ?_
  refine z_aload_n (pc := 63) dX1_passDay_63 rfl ?_
  refine z_cV1v (pc := 64) (c_X1_wearDown_14 hT2) (q_cX1_95 _ (by decide)) z_s12 rfl rfl dX1_passDay_64 ?_
  refine z_aload_n (pc := 67) dX1_passDay_67 rfl ?_
  refine z_dup (pc := 68) dX1_passDay_68 rfl ?_
  refine z_getI (pc := 69) q_fX1_81 z_s14 rfl dX1_passDay_69 ?_
  refine z_iconst (pc := 72) (v := 1) dX1_passDay_72 (by decide) ?_
  refine z_iadd (pc := 73) dX1_passDay_73 ?_
  refine z_putI (pc := 74) q_fX1_81 q_p2_2 z_s14 rfl dX1_passDay_74 ?_
  refine z_iload_n (pc := 77) dX1_passDay_77 rfl ?_
  refine z_iret (pc := 78) rfl dX1_passDay_78 ?_ ?_
  · rfl
  · rw [z_row_n _ _ (by decide), pm_q0 M (by decide), pm_13, pm_q M (by decide), upd_n _ _ (by decide), pm_n M (by decide) (by decide)]; rfl
set_option maxRecDepth 100000 in
set_option maxHeartbeats 400000 in
theorem s_X1_passDay_56_14b {M : z_Mem} {T : TT} (hT : TK M T) (ho : sm7 (M.1 14 0)) {z : Int32} : z_Sm mX1_passDay (some (.int (pgR (M.1 14 0) (pgF T (M.1 15) (M.1 14 0) (M.1 13) (T.1 + 1)).1))) (dyM T 14 M) 56 [some (.ref 12), some (.ref 14), some (.int z)] [] M := by
  have hT2 : TK (pm M 14 (pgF T (M.1 15) (M.1 14 0) (M.1 13) (T.1 + 1)).1 (pgF T (M.1 15) (M.1 14 0) (M.1 13) (T.1 + 1)).2) T := TK_pm hT (by decide) _ _
  refine z_aload_n (pc := 56) dX1_passDay_56 rfl ?_
  refine z_aload_n (pc := 57) dX1_passDay_57 rfl ?_
  refine z_cV1 (pc := 58) (c_X1_ping_14 hT ho) (q_cX1_71 _ (by decide)) z_s12 rfl rfl dX1_passDay_58 ?_
  refine z_istore_n (pc := 61) dX1_passDay_61 rfl (by decide) ?_
  refine z_aload_n (pc := 62) dX1_passDay_62 rfl ?_
  refine z_aload_n (pc := 63) dX1_passDay_63 rfl ?_
  refine z_cV1v (pc := 64) (c_X1_wearDown_14 hT2) (q_cX1_95 _ (by decide)) z_s12 rfl rfl dX1_passDay_64 ?_
  refine z_aload_n (pc := 67) dX1_passDay_67 rfl ?_
  refine z_dup (pc := 68) dX1_passDay_68 rfl ?_
  refine z_getI (pc := 69) q_fX1_81 z_s14 rfl dX1_passDay_69 ?_
  refine z_iconst (pc := 72) (v := 1) dX1_passDay_72 (by decide) ?_
  refine z_iadd (pc := 73) dX1_passDay_73 ?_
  refine z_putI (pc := 74) q_fX1_81 q_p2_2 z_s14 rfl dX1_passDay_74 ?_
  refine z_iload_n (pc := 77) dX1_passDay_77 rfl ?_
  refine z_iret (pc := 78) rfl dX1_passDay_78 ?_ ?_
  · rfl
  · rw [z_row_n _ _ (by decide), pm_q0 M (by decide), pm_13, pm_q M (by decide), upd_n _ _ (by decide), pm_n M (by decide) (by decide)]; rfl
set_option maxRecDepth 100000 in
set_option maxHeartbeats 400000 in
theorem c_X1_passDay_14 {M : z_Mem} {T : TT} {U : UT} (hT : TK M T) (hU : UK M U) {p : PLt} (hp : PlAt M 14 p) (ho : sm7 p.1) (hd9 : p.2.2 < 2 ^ 29) : ∃ M1, z_Ct mX1_passDay [.ref 12, .ref 14] M (some (.int (pgR (dyO T p) (dayF T U p).1))) M1 ∧ PlAt M1 14 (dayF T U p) ∧ Sb [13, 14, 15] M M1 := by
  obtain ⟨h0, hw, hd⟩ := hp
  have hk : spF (M.1 7) (M.1 14 0) T.1 = dyO T p := by
    rw [h0]; exact spF_cong _ (fun k hk => (hT.2 k hk).2)
  have hk2 : spF T.2.2.2.2 (M.1 14 0) T.1 = dyO T p := by rw [h0]; rfl
  have hsm : sm7 (dyO T p) := spF_sm ho _
  have hc := c_X1_springShut_14 hT
  rw [hk2] at hc
  have hcl := c_X1_clear (M := z_set M 14 0 (dyO T p))
  have hTs : ∀ f, TK (z_row (z_set M 14 0 (dyO T p)) 13 f) T := fun f => TK_sb hT ((Sb.set (ids := [13, 14]) _ (by simp)).tr (Sb.row _ (by simp))) (by simp)
  have hn : ∀ f i, i ≠ 13 → i ≠ 14 → (z_row (z_set M 14 0 (dyO T p)) 13 f).1 i = M.1 i := fun f i h1 h2 => by rw [z_row_n _ _ h1, z_set, z_row_n _ _ h2]
  have hq0 : ∀ f, (z_row (z_set M 14 0 (dyO T p)) 13 f).1 14 = upd (M.1 14) 0 (dyO T p) := fun f => by rw [z_row_n _ _ (by decide), z_set, z_row_1]
  have h13 : (z_set M 14 0 (dyO T p)).1 13 = M.1 13 := by rw [z_set, z_row_n _ _ (by decide)]
  by_cases hz : U.1 = 0
  · have hok := dyM_ok (U := U) (q := 14) (M := z_row (z_set M 14 0 (dyO T p)) 13 (cpF 6 (fun _ => 0) (M.1 13))) (p := p) hT.te hT.1.2.1 (by decide) (by rw [hq0, upd_1]) (fun k hk => by rw [hn _ _ (by decide) (by decide)]; exact hw k hk) (fun k hk => by rw [z_row_1, dyL, if_pos hz, cpF, if_pos hk]) (by rw [hq0, upd_n _ _ (by decide)]; exact hd)
    refine ⟨_, ?_, hok.1, ((Sb.set _ (by simp)).tr (Sb.row _ (by simp))).tr hok.2.1⟩
    refine z_entry (by decide +kernel) (Nat.le_of_ble_eq_true rfl) rfl ?_
    show z_Sm mX1_passDay _ _ 0 [some (.ref 12), some (.ref 14), none] [] M
    refine z_aload_n (pc := 0) dX1_passDay_0 rfl ?_
    refine z_aload_n (pc := 1) dX1_passDay_1 rfl ?_
    refine z_cV1v (pc := 2) hc (q_cX1_74 _ (by decide)) z_s12 rfl rfl dX1_passDay_2 ?_
    refine z_aload_n (pc := 5) dX1_passDay_5 rfl ?_
    refine z_cV0v (pc := 6) hcl (q_cX1_64 _ (by decide)) z_s12 rfl rfl dX1_passDay_6 ?_
    refine z_aload_n (pc := 9) dX1_passDay_9 rfl ?_
    refine z_getR (pc := 10) 3 q_fX1_15 z_s12 rfl dX1_passDay_10 ?_
    refine z_getI (pc := 13) q_fX1_78 z_s3 rfl dX1_passDay_13 ?_
    refine z_if_le (pc := 16) (tgt := 56) dX1_passDay_16 (by decide) (fun h16 => ?_) (fun h16 => ?_)
    · rw [h13]
      have hs := s_X1_passDay_56_14a (hTs (cpF 6 (fun _ => 0) (M.1 13))) (by rw [hq0, upd_1]; exact hsm)
      rw [hok.2.2, show (z_row (z_set M 14 0 (dyO T p)) 13 (cpF 6 (fun _ => 0) (M.1 13))).1 14 0 = dyO T p by rw [hq0, upd_1]] at hs
      exact hs
    · exfalso
      rw [hn _ _ (by decide) (by decide), hU.1, hz] at h16
      exact h16 (Int32.le_refl 0)
  · have hpos : 0 < U.1 := Nat.pos_of_ne_zero hz
    have hmod : p.2.2 % U.1 < U.1 := Nat.mod_lt _ hpos
    obtain ⟨hx8, hx6, hx9⟩ := hU.2.2 _ hmod
    have hok := dyM_ok (U := U) (q := 14) (M := z_row (z_set M 14 0 (dyO T p)) 13 (upd (cpF 6 (fun _ => 0) (M.1 13)) (U.2.1 (p.2.2 % U.1)) (cpF 6 (fun _ => 0) (M.1 13) (U.2.1 (p.2.2 % U.1)) + U.2.2 (p.2.2 % U.1)))) (p := p) hT.te hT.1.2.1 (by decide) (by rw [hq0, upd_1]) (fun k hk => by rw [hn _ _ (by decide) (by decide)]; exact hw k hk) (fun k hk => by
      rw [z_row_1, dyL, if_neg hz]
      unfold tgL upd cpF
      split
      · simp
      · rfl) (by rw [hq0, upd_n _ _ (by decide)]; exact hd)
    have hbu := c_X1_burden (M := z_row (z_set M 14 0 (dyO T p)) 13 (cpF 6 (fun _ => 0) (M.1 13))) (n := U.2.2 (p.2.2 % U.1)) hx8 hx6
    rw [z_row_1, z_row_row] at hbu
    refine ⟨_, ?_, hok.1, ((Sb.set _ (by simp)).tr (Sb.row _ (by simp))).tr hok.2.1⟩
    refine z_entry (by decide +kernel) (Nat.le_of_ble_eq_true rfl) rfl ?_
    show z_Sm mX1_passDay _ _ 0 [some (.ref 12), some (.ref 14), none] [] M
    refine z_aload_n (pc := 0) dX1_passDay_0 rfl ?_
    refine z_aload_n (pc := 1) dX1_passDay_1 rfl ?_
    refine z_cV1v (pc := 2) hc (q_cX1_74 _ (by decide)) z_s12 rfl rfl dX1_passDay_2 ?_
    refine z_aload_n (pc := 5) dX1_passDay_5 rfl ?_
    refine z_cV0v (pc := 6) hcl (q_cX1_64 _ (by decide)) z_s12 rfl rfl dX1_passDay_6 ?_
    rw [h13]
    refine z_aload_n (pc := 9) dX1_passDay_9 rfl ?_
    refine z_getR (pc := 10) 3 q_fX1_15 z_s12 rfl dX1_passDay_10 ?_
    refine z_getI (pc := 13) q_fX1_78 z_s3 rfl dX1_passDay_13 ?_
    refine z_if_le (pc := 16) (tgt := 56) dX1_passDay_16 (by decide) (fun h16 => ?_) (fun h16 => ?_)
    · exfalso
      rw [hn _ _ (by decide) (by decide), hU.1] at h16
      exact nI_nle hpos (by have := hU.2.1; omega) h16
    · refine z_aload_n (pc := 19) dX1_passDay_19 rfl ?_
      refine z_getI (pc := 20) q_fX1_81 z_s14 rfl dX1_passDay_20 ?_
      refine z_aload_n (pc := 23) dX1_passDay_23 rfl ?_
      refine z_getR (pc := 24) 3 q_fX1_15 z_s12 rfl dX1_passDay_24 ?_
      refine z_getI (pc := 27) q_fX1_78 z_s3 rfl dX1_passDay_27 ?_
      refine z_cS2 (pc := 30) (c_J9_floorMod_7cf53 (by rw [hq0, upd_n _ _ (by decide)]; exact hd) (by rw [hn _ _ (by decide) (by decide)]; exact hU.1) (by omega) hpos (by have := hU.2.1; omega)) (q_cX1_84 _ (by decide)) rfl dX1_passDay_30 ?_
      refine z_istore_n (pc := 33) dX1_passDay_33 rfl (by decide) ?_
      refine z_aload_n (pc := 34) dX1_passDay_34 rfl ?_
      refine z_aload_n (pc := 35) dX1_passDay_35 rfl ?_
      refine z_getR (pc := 36) 3 q_fX1_15 z_s12 rfl dX1_passDay_36 ?_
      refine z_getR (pc := 39) 8 q_fX1_89 z_s3 rfl dX1_passDay_39 ?_
      refine z_iload_n (pc := 42) dX1_passDay_42 rfl ?_
      refine z_iald (pc := 43) (p.2.2 % U.1) z_s8 ⟨rfl, by have := hU.2.1; omega, by decide⟩ dX1_passDay_43 ?_
      refine z_aload_n (pc := 44) dX1_passDay_44 rfl ?_
      refine z_getR (pc := 45) 3 q_fX1_15 z_s12 rfl dX1_passDay_45 ?_
      refine z_getR (pc := 48) 9 q_fX1_92 z_s3 rfl dX1_passDay_48 ?_
      refine z_iload_n (pc := 51) dX1_passDay_51 rfl ?_
      refine z_iald (pc := 52) (p.2.2 % U.1) z_s9 ⟨rfl, by have := hU.2.1; omega, by decide⟩ dX1_passDay_52 ?_
      rw [hn _ 9 (by decide) (by decide), hx9]
      refine z_cV2v (pc := 53) hbu (q_cX1_67 _ (by decide)) z_s12 rfl rfl dX1_passDay_53 ?_
      have hs := s_X1_passDay_56_14b (z := nI (p.2.2 % U.1)) (hTs (upd (cpF 6 (fun _ => 0) (M.1 13)) (U.2.1 (p.2.2 % U.1)) (cpF 6 (fun _ => 0) (M.1 13) (U.2.1 (p.2.2 % U.1)) + U.2.2 (p.2.2 % U.1)))) (by rw [hq0, upd_1]; exact hsm)
      rw [hok.2.2, show (z_row (z_set M 14 0 (dyO T p)) 13 (upd (cpF 6 (fun _ => 0) (M.1 13)) (U.2.1 (p.2.2 % U.1)) (cpF 6 (fun _ => 0) (M.1 13) (U.2.1 (p.2.2 % U.1)) + U.2.2 (p.2.2 % U.1)))).1 14 0 = dyO T p by rw [hq0, upd_1]] at hs
      exact hs
set_option maxRecDepth 100000 in
set_option maxHeartbeats 400000 in
theorem e_X1_pullAt_16 {M : z_Mem} {T : TT} (hT : TK M T) (ho : sm7 (M.1 16 0)) {x n : Int32} {t : Nat} (hx : x = nI t) (ht : t < 6) : z_Ct mX1_pullAt [.ref 12, .ref 16, .int x, .int n] M (some (.int (pgR (M.1 16 0) (pgF T (M.1 17) (M.1 16 0) (upd (cpF 6 (fun _ => 0) (M.1 13)) t (cpF 6 (fun _ => 0) (M.1 13) t + n)) (T.1 + 1)).1))) (pm M 16 (pgF T (M.1 17) (M.1 16 0) (upd (cpF 6 (fun _ => 0) (M.1 13)) t (cpF 6 (fun _ => 0) (M.1 13) t + n)) (T.1 + 1)).1 (pgF T (M.1 17) (M.1 16 0) (upd (cpF 6 (fun _ => 0) (M.1 13)) t (cpF 6 (fun _ => 0) (M.1 13) t + n)) (T.1 + 1)).2) := by
  refine z_entry (by decide +kernel) (Nat.le_of_ble_eq_true rfl) rfl ?_
  show z_Sm mX1_pullAt _ _ 0 [some (.ref 12), some (.ref 16), some (.int x), some (.int n)] [] M
  refine z_aload_n (pc := 0) dX1_pullAt_0 rfl ?_
  refine z_cV0v (pc := 1) c_X1_clear (q_cX1_64 _ (by decide)) z_s12 rfl rfl dX1_pullAt_1 ?_
  refine z_aload_n (pc := 4) dX1_pullAt_4 rfl ?_
  refine z_iload_n (pc := 5) dX1_pullAt_5 rfl ?_
  refine z_iload_n (pc := 6) dX1_pullAt_6 rfl ?_
  refine z_cV2v (pc := 7) (c_X1_burden hx ht) (q_cX1_67 _ (by decide)) z_s12 rfl rfl dX1_pullAt_7 ?_
  refine z_aload_n (pc := 10) dX1_pullAt_10 rfl ?_
  refine z_aload_n (pc := 11) dX1_pullAt_11 rfl ?_
  refine z_cV1 (pc := 12) (c_X1_ping_16 (T := T) (TK_cong hT (by simp [z_row]) (by simp [z_row]) (by simp [z_row]) (by simp [z_row]) (by simp [z_row])) (by simp only [z_row_row, z_row_1]; rw [z_row_n _ _ (by decide)]; exact ho)) (q_cX1_71 _ (by decide)) z_s12 rfl rfl dX1_pullAt_12 ?_
  refine z_iret (pc := 15) rfl dX1_pullAt_15 ?_ ?_
  · simp only [z_row_row, z_row_1]
    rw [z_row_n _ _ (by decide), z_row_n _ _ (by decide)]
  · simp only [z_row_row, z_row_1]
    rw [z_row_n _ _ (by decide), z_row_n _ _ (by decide), pm_pre (by decide)]
set_option maxRecDepth 100000 in
set_option maxHeartbeats 400000 in
theorem c_X1_pullAt_16 {M : z_Mem} {T : TT} (hT : TK M T) {p : PLt} (hp : PlAt M 16 p) (ho : sm7 p.1) {x n : Int32} {t : Nat} (hx : x = nI t) (ht : t < 6) : ∃ M1, z_Ct mX1_pullAt [.ref 12, .ref 16, .int x, .int n] M (some (.int (pgR p.1 (tugF T p t n).1))) M1 ∧ PlAt M1 16 (tugF T p t n) ∧ Sb [13, 16, 17] M M1 := by
  obtain ⟨h0, hw, hd⟩ := hp
  have hc := pgF_cong (o := M.1 16 0) hT.te (w := M.1 17) (v := p.2.1) (L := upd (cpF 6 (fun _ => 0) (M.1 13)) t (cpF 6 (fun _ => 0) (M.1 13) t + n)) (K := tgL t n) (fun k hk => hw k (by have := hT.1.2.1; omega)) (fun k hk => by
    unfold tgL upd cpF
    split
    · simp
    · rfl) (T.1 + 1)
  have e := e_X1_pullAt_16 hT (h0 ▸ ho) (n := n) hx ht
  have e1 := hc.1
  rw [h0] at e e1
  refine ⟨_, e1 ▸ e, ⟨?_, fun k hk => ?_, ?_⟩, Sb.pm _ _ (by simp) (by simp)⟩
  · rw [pm_q0 M (by decide)]; rfl
  · rw [pm_n M (by decide) (by decide)]; exact hw k hk
  · rw [pm_q M (by decide), upd_n _ _ (by decide)]; exact hd
set_option maxRecDepth 100000 in
set_option maxHeartbeats 400000 in
theorem s_X1_passDay_56_16a {M : z_Mem} {T : TT} (hT : TK M T) (ho : sm7 (M.1 16 0)) : z_Sm mX1_passDay (some (.int (pgR (M.1 16 0) (pgF T (M.1 17) (M.1 16 0) (M.1 13) (T.1 + 1)).1))) (dyM T 16 M) 56 [some (.ref 12), some (.ref 16), none] [] M := by
  have hT2 : TK (pm M 16 (pgF T (M.1 17) (M.1 16 0) (M.1 13) (T.1 + 1)).1 (pgF T (M.1 17) (M.1 16 0) (M.1 13) (T.1 + 1)).2) T := TK_pm hT (by decide) _ _
  refine z_aload_n (pc := 56) dX1_passDay_56 rfl ?_
  refine z_aload_n (pc := 57) dX1_passDay_57 rfl ?_
  refine z_cV1 (pc := 58) (c_X1_ping_16 hT ho) (q_cX1_71 _ (by decide)) z_s12 rfl rfl dX1_passDay_58 ?_
  refine z_istore_n (pc := 61) dX1_passDay_61 rfl (by decide) ?_
  refine z_aload_n (pc := 62) dX1_passDay_62 rfl ?_
  refine z_aload_n (pc := 63) dX1_passDay_63 rfl ?_
  refine z_cV1v (pc := 64) (c_X1_wearDown_16 hT2) (q_cX1_95 _ (by decide)) z_s12 rfl rfl dX1_passDay_64 ?_
  refine z_aload_n (pc := 67) dX1_passDay_67 rfl ?_
  refine z_dup (pc := 68) dX1_passDay_68 rfl ?_
  refine z_getI (pc := 69) q_fX1_81 z_s16 rfl dX1_passDay_69 ?_
  refine z_iconst (pc := 72) (v := 1) dX1_passDay_72 (by decide) ?_
  refine z_iadd (pc := 73) dX1_passDay_73 ?_
  refine z_putI (pc := 74) q_fX1_81 q_p2_2 z_s16 rfl dX1_passDay_74 ?_
  refine z_iload_n (pc := 77) dX1_passDay_77 rfl ?_
  refine z_iret (pc := 78) rfl dX1_passDay_78 ?_ ?_
  · rfl
  · rw [z_row_n _ _ (by decide), pm_q0 M (by decide), pm_13, pm_q M (by decide), upd_n _ _ (by decide), pm_n M (by decide) (by decide)]; rfl
set_option maxRecDepth 100000 in
set_option maxHeartbeats 400000 in
theorem s_X1_passDay_56_16b {M : z_Mem} {T : TT} (hT : TK M T) (ho : sm7 (M.1 16 0)) {z : Int32} : z_Sm mX1_passDay (some (.int (pgR (M.1 16 0) (pgF T (M.1 17) (M.1 16 0) (M.1 13) (T.1 + 1)).1))) (dyM T 16 M) 56 [some (.ref 12), some (.ref 16), some (.int z)] [] M := by
  have hT2 : TK (pm M 16 (pgF T (M.1 17) (M.1 16 0) (M.1 13) (T.1 + 1)).1 (pgF T (M.1 17) (M.1 16 0) (M.1 13) (T.1 + 1)).2) T := TK_pm hT (by decide) _ _
  refine z_aload_n (pc := 56) dX1_passDay_56 rfl ?_
  refine z_aload_n (pc := 57) dX1_passDay_57 rfl ?_
  refine z_cV1 (pc := 58) (c_X1_ping_16 hT ho) (q_cX1_71 _ (by decide)) z_s12 rfl rfl dX1_passDay_58 ?_
  refine z_istore_n (pc := 61) dX1_passDay_61 rfl (by decide) ?_
  refine z_aload_n (pc := 62) dX1_passDay_62 rfl ?_
  refine z_aload_n (pc := 63) dX1_passDay_63 rfl ?_
  refine z_cV1v (pc := 64) (c_X1_wearDown_16 hT2) (q_cX1_95 _ (by decide)) z_s12 rfl rfl dX1_passDay_64 ?_
  refine z_aload_n (pc := 67) dX1_passDay_67 rfl ?_
  refine z_dup (pc := 68) dX1_passDay_68 rfl ?_
  refine z_getI (pc := 69) q_fX1_81 z_s16 rfl dX1_passDay_69 ?_
  refine z_iconst (pc := 72) (v := 1) dX1_passDay_72 (by decide) ?_
  refine z_iadd (pc := 73) dX1_passDay_73 ?_
  refine z_putI (pc := 74) q_fX1_81 q_p2_2 z_s16 rfl dX1_passDay_74 ?_
  refine z_iload_n (pc := 77) dX1_passDay_77 rfl ?_
  refine z_iret (pc := 78) rfl dX1_passDay_78 ?_ ?_
  · rfl
  · rw [z_row_n _ _ (by decide), pm_q0 M (by decide), pm_13, pm_q M (by decide), upd_n _ _ (by decide), pm_n M (by decide) (by decide)]; rfl
set_option maxRecDepth 100000 in
set_option maxHeartbeats 400000 in
theorem c_X1_passDay_16 {M : z_Mem} {T : TT} {U : UT} (hT : TK M T) (hU : UK M U) {p : PLt} (hp : PlAt M 16 p) (ho : sm7 p.1) (hd9 : p.2.2 < 2 ^ 29) : ∃ M1, z_Ct mX1_passDay [.ref 12, .ref 16] M (some (.int (pgR (dyO T p) (dayF T U p).1))) M1 ∧ PlAt M1 16 (dayF T U p) ∧ Sb [13, 16, 17] M M1 := by
  obtain ⟨h0, hw, hd⟩ := hp
  have hk : spF (M.1 7) (M.1 16 0) T.1 = dyO T p := by
    rw [h0]; exact spF_cong _ (fun k hk => (hT.2 k hk).2)
  have hk2 : spF T.2.2.2.2 (M.1 16 0) T.1 = dyO T p := by rw [h0]; rfl
  have hsm : sm7 (dyO T p) := spF_sm ho _
  have hc := c_X1_springShut_16 hT
  rw [hk2] at hc
  have hcl := c_X1_clear (M := z_set M 16 0 (dyO T p))
  have hTs : ∀ f, TK (z_row (z_set M 16 0 (dyO T p)) 13 f) T := fun f => TK_sb hT ((Sb.set (ids := [13, 16]) _ (by simp)).tr (Sb.row _ (by simp))) (by simp)
  have hn : ∀ f i, i ≠ 13 → i ≠ 16 → (z_row (z_set M 16 0 (dyO T p)) 13 f).1 i = M.1 i := fun f i h1 h2 => by rw [z_row_n _ _ h1, z_set, z_row_n _ _ h2]
  have hq0 : ∀ f, (z_row (z_set M 16 0 (dyO T p)) 13 f).1 16 = upd (M.1 16) 0 (dyO T p) := fun f => by rw [z_row_n _ _ (by decide), z_set, z_row_1]
  have h13 : (z_set M 16 0 (dyO T p)).1 13 = M.1 13 := by rw [z_set, z_row_n _ _ (by decide)]
  by_cases hz : U.1 = 0
  · have hok := dyM_ok (U := U) (q := 16) (M := z_row (z_set M 16 0 (dyO T p)) 13 (cpF 6 (fun _ => 0) (M.1 13))) (p := p) hT.te hT.1.2.1 (by decide) (by rw [hq0, upd_1]) (fun k hk => by rw [hn _ _ (by decide) (by decide)]; exact hw k hk) (fun k hk => by rw [z_row_1, dyL, if_pos hz, cpF, if_pos hk]) (by rw [hq0, upd_n _ _ (by decide)]; exact hd)
    refine ⟨_, ?_, hok.1, ((Sb.set _ (by simp)).tr (Sb.row _ (by simp))).tr hok.2.1⟩
    refine z_entry (by decide +kernel) (Nat.le_of_ble_eq_true rfl) rfl ?_
    show z_Sm mX1_passDay _ _ 0 [some (.ref 12), some (.ref 16), none] [] M
    refine z_aload_n (pc := 0) dX1_passDay_0 rfl ?_
    refine z_aload_n (pc := 1) dX1_passDay_1 rfl ?_
    refine z_cV1v (pc := 2) hc (q_cX1_74 _ (by decide)) z_s12 rfl rfl dX1_passDay_2 ?_
    refine z_aload_n (pc := 5) dX1_passDay_5 rfl ?_
    refine z_cV0v (pc := 6) hcl (q_cX1_64 _ (by decide)) z_s12 rfl rfl dX1_passDay_6 ?_
    refine z_aload_n (pc := 9) dX1_passDay_9 rfl ?_
    refine z_getR (pc := 10) 3 q_fX1_15 z_s12 rfl dX1_passDay_10 ?_
    refine z_getI (pc := 13) q_fX1_78 z_s3 rfl dX1_passDay_13 ?_
    refine z_if_le (pc := 16) (tgt := 56) dX1_passDay_16 (by decide) (fun h16 => ?_) (fun h16 => ?_)
    · rw [h13]
      have hs := s_X1_passDay_56_16a (hTs (cpF 6 (fun _ => 0) (M.1 13))) (by rw [hq0, upd_1]; exact hsm)
      rw [hok.2.2, show (z_row (z_set M 16 0 (dyO T p)) 13 (cpF 6 (fun _ => 0) (M.1 13))).1 16 0 = dyO T p by rw [hq0, upd_1]] at hs
      exact hs
    · exfalso
      rw [hn _ _ (by decide) (by decide), hU.1, hz] at h16
      exact h16 (Int32.le_refl 0)
  · have hpos : 0 < U.1 := Nat.pos_of_ne_zero hz
    have hmod : p.2.2 % U.1 < U.1 := Nat.mod_lt _ hpos
    obtain ⟨hx8, hx6, hx9⟩ := hU.2.2 _ hmod
    have hok := dyM_ok (U := U) (q := 16) (M := z_row (z_set M 16 0 (dyO T p)) 13 (upd (cpF 6 (fun _ => 0) (M.1 13)) (U.2.1 (p.2.2 % U.1)) (cpF 6 (fun _ => 0) (M.1 13) (U.2.1 (p.2.2 % U.1)) + U.2.2 (p.2.2 % U.1)))) (p := p) hT.te hT.1.2.1 (by decide) (by rw [hq0, upd_1]) (fun k hk => by rw [hn _ _ (by decide) (by decide)]; exact hw k hk) (fun k hk => by
      rw [z_row_1, dyL, if_neg hz]
      unfold tgL upd cpF
      split
      · simp
      · rfl) (by rw [hq0, upd_n _ _ (by decide)]; exact hd)
    have hbu := c_X1_burden (M := z_row (z_set M 16 0 (dyO T p)) 13 (cpF 6 (fun _ => 0) (M.1 13))) (n := U.2.2 (p.2.2 % U.1)) hx8 hx6
    rw [z_row_1, z_row_row] at hbu
    refine ⟨_, ?_, hok.1, ((Sb.set _ (by simp)).tr (Sb.row _ (by simp))).tr hok.2.1⟩
    refine z_entry (by decide +kernel) (Nat.le_of_ble_eq_true rfl) rfl ?_
    show z_Sm mX1_passDay _ _ 0 [some (.ref 12), some (.ref 16), none] [] M
    refine z_aload_n (pc := 0) dX1_passDay_0 rfl ?_
    refine z_aload_n (pc := 1) dX1_passDay_1 rfl ?_
    refine z_cV1v (pc := 2) hc (q_cX1_74 _ (by decide)) z_s12 rfl rfl dX1_passDay_2 ?_
    refine z_aload_n (pc := 5) dX1_passDay_5 rfl ?_
    refine z_cV0v (pc := 6) hcl (q_cX1_64 _ (by decide)) z_s12 rfl rfl dX1_passDay_6 ?_
    rw [h13]
    refine z_aload_n (pc := 9) dX1_passDay_9 rfl ?_
    refine z_getR (pc := 10) 3 q_fX1_15 z_s12 rfl dX1_passDay_10 ?_
    refine z_getI (pc := 13) q_fX1_78 z_s3 rfl dX1_passDay_13 ?_
    refine z_if_le (pc := 16) (tgt := 56) dX1_passDay_16 (by decide) (fun h16 => ?_) (fun h16 => ?_)
    · exfalso
      rw [hn _ _ (by decide) (by decide), hU.1] at h16
      exact nI_nle hpos (by have := hU.2.1; omega) h16
    · refine z_aload_n (pc := 19) dX1_passDay_19 rfl ?_
      refine z_getI (pc := 20) q_fX1_81 z_s16 rfl dX1_passDay_20 ?_
      refine z_aload_n (pc := 23) dX1_passDay_23 rfl ?_
      refine z_getR (pc := 24) 3 q_fX1_15 z_s12 rfl dX1_passDay_24 ?_
      refine z_getI (pc := 27) q_fX1_78 z_s3 rfl dX1_passDay_27 ?_
      refine z_cS2 (pc := 30) (c_J9_floorMod_7cf53 (by rw [hq0, upd_n _ _ (by decide)]; exact hd) (by rw [hn _ _ (by decide) (by decide)]; exact hU.1) (by omega) hpos (by have := hU.2.1; omega)) (q_cX1_84 _ (by decide)) rfl dX1_passDay_30 ?_
      refine z_istore_n (pc := 33) dX1_passDay_33 rfl (by decide) ?_
      refine z_aload_n (pc := 34) dX1_passDay_34 rfl ?_
      refine z_aload_n (pc := 35) dX1_passDay_35 rfl ?_
      refine z_getR (pc := 36) 3 q_fX1_15 z_s12 rfl dX1_passDay_36 ?_
      refine z_getR (pc := 39) 8 q_fX1_89 z_s3 rfl dX1_passDay_39 ?_
      refine z_iload_n (pc := 42) dX1_passDay_42 rfl ?_
      refine z_iald (pc := 43) (p.2.2 % U.1) z_s8 ⟨rfl, by have := hU.2.1; omega, by decide⟩ dX1_passDay_43 ?_
      refine z_aload_n (pc := 44) dX1_passDay_44 rfl ?_
      refine z_getR (pc := 45) 3 q_fX1_15 z_s12 rfl dX1_passDay_45 ?_
      refine z_getR (pc := 48) 9 q_fX1_92 z_s3 rfl dX1_passDay_48 ?_
      refine z_iload_n (pc := 51) dX1_passDay_51 rfl ?_
      refine z_iald (pc := 52) (p.2.2 % U.1) z_s9 ⟨rfl, by have := hU.2.1; omega, by decide⟩ dX1_passDay_52 ?_
      rw [hn _ 9 (by decide) (by decide), hx9]
      refine z_cV2v (pc := 53) hbu (q_cX1_67 _ (by decide)) z_s12 rfl rfl dX1_passDay_53 ?_
      have hs := s_X1_passDay_56_16b (z := nI (p.2.2 % U.1)) (hTs (upd (cpF 6 (fun _ => 0) (M.1 13)) (U.2.1 (p.2.2 % U.1)) (cpF 6 (fun _ => 0) (M.1 13) (U.2.1 (p.2.2 % U.1)) + U.2.2 (p.2.2 % U.1)))) (by rw [hq0, upd_1]; exact hsm)
      rw [hok.2.2, show (z_row (z_set M 16 0 (dyO T p)) 13 (upd (cpF 6 (fun _ => 0) (M.1 13)) (U.2.1 (p.2.2 % U.1)) (cpF 6 (fun _ => 0) (M.1 13) (U.2.1 (p.2.2 % U.1)) + U.2.2 (p.2.2 % U.1)))).1 16 0 = dyO T p by rw [hq0, upd_1]] at hs
      exact hs
