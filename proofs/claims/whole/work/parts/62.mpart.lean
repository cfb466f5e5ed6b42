theorem okF_1 {l : Nat → Int32} {n s : Nat} : okF 5 (-9) (fg l n (s + 1)) = okG l n s (s + 1) := by
  rw [okG]
  by_cases h : fg l n (s + 1) < 0
  · rw [if_pos h, okF, decide_eq_true h]; rfl
  · obtain ⟨v, hv, e⟩ := fg_rng h
    rw [if_neg h, if_pos rfl, e]
    exact (show ∀ v, v < 10 → okF 5 (-9) (nI v) = decide (nI v < 6) by decide +kernel) v hv
theorem okF_2w {l : Nat → Int32} {n s : Nat} (hw : l s = 87) : okF 9 (-9) (fg l n (s + 2)) = okG l n s (s + 2) := by
  rw [okG]
  by_cases h : fg l n (s + 2) < 0
  · rw [if_pos h, okF, decide_eq_true h]; rfl
  · obtain ⟨v, hv, e⟩ := fg_rng h
    rw [if_neg h, if_neg (show ¬ s + 2 = s + 1 by omega), if_pos rfl, if_pos hw, e]
    exact (show ∀ v, v < 10 → okF 9 (-9) (nI v) = true by decide +kernel) v hv
theorem okF_2 {l : Nat → Int32} {n s : Nat} (hw : ¬ l s = 87) : okF 5 (fg l n (s + 1)) (fg l n (s + 2)) = okG l n s (s + 2) := by
  rw [okG]
  by_cases h : fg l n (s + 2) < 0
  · rw [if_pos h, okF, decide_eq_true h]; rfl
  · obtain ⟨v, hv, e⟩ := fg_rng h
    rw [if_neg h, if_neg (show ¬ s + 2 = s + 1 by omega), if_pos rfl, if_neg hw, okF, decide_eq_false h]
    have e2 : (!decide (nI 5 < fg l n (s + 2))) = decide (fg l n (s + 2) < 6) := by
      rw [e]
      exact (show ∀ v, v < 10 → (!decide (nI 5 < nI v)) = decide (nI v < 6) by decide +kernel) v hv
    rw [Bool.not_false, Bool.true_and, e2, ← decide_not]
    by_cases q : fg l n (s + 2) < 6
    · rw [decide_eq_true q, if_pos q, Bool.true_and]
    · rw [decide_eq_false q, if_neg q, Bool.false_and]
theorem okF_3 {l : Nat → Int32} {n s : Nat} : okF 9 (-9) (fg l n (s + 3)) = okG l n s (s + 3) := by
  rw [okG]
  by_cases h : fg l n (s + 3) < 0
  · rw [if_pos h, okF, decide_eq_true h]; rfl
  · obtain ⟨v, hv, e⟩ := fg_rng h
    rw [if_neg h, if_neg (show ¬ s + 3 = s + 1 by omega), if_neg (show ¬ s + 3 = s + 2 by omega), if_pos rfl, e]
    exact (show ∀ v, v < 10 → okF 9 (-9) (nI v) = true by decide +kernel) v hv
theorem okF_4 {l : Nat → Int32} {n s : Nat} : okF 3 (-9) (fg l n (s + 4)) = okG l n s (s + 4) := by
  rw [okG]
  by_cases h : fg l n (s + 4) < 0
  · rw [if_pos h, okF, decide_eq_true h]; rfl
  · obtain ⟨v, hv, e⟩ := fg_rng h
    rw [if_neg h, if_neg (show ¬ s + 4 = s + 1 by omega), if_neg (show ¬ s + 4 = s + 2 by omega), if_neg (show ¬ s + 4 = s + 3 by omega), e]
    exact (show ∀ v, v < 10 → okF 3 (-9) (nI v) = decide (nI v ≤ 3) by decide +kernel) v hv
theorem scn_b {l : Nat → Int32} {n p : Nat} (hp : p < n) : scn l n (n - p) p p = if okB l p = false then nI p else scn l n (n - (p + 1)) (p + 1) p := by
  have e : n - p = (n - (p + 1)) + 1 := by omega
  rw [e, scn, if_pos rfl, if_neg (show ¬ p - p + 1 = sz (l p) by rw [Nat.sub_self]; exact sz_one _)]
/-- within a part: its row, the place, the fault -/
def Sw (ro : Nat) (M N : z_Mem) : Prop := (∀ i, i ≠ 59 → i ≠ ro → N.1 i = M.1 i) ∧ (∀ k, k ≠ 20 → k ≠ 21 → N.1 59 k = M.1 59 k) ∧ N.2 = M.2
theorem Sw.tr {ro : Nat} {M N K : z_Mem} (h : Sw ro M N) (h2 : Sw ro N K) : Sw ro M K := ⟨fun i a b => (h2.1 i a b).trans (h.1 i a b), fun k a b => (h2.2.1 k a b).trans (h.2.1 k a b), h2.2.2.trans h.2.2⟩
theorem Sg.sw {ro : Nat} {M N : z_Mem} (h : Sg M N) : Sw ro M N := ⟨fun i a _ => h.1 i a, h.2.1, h.2.2⟩
theorem Sw.row {ro : Nat} {M : z_Mem} (h : ro ≠ 59) (k : Nat) (v : Int32) : Sw ro M (z_set M ro k v) := ⟨fun i _ b => by rw [z_set, z_row_n _ _ b], fun k _ _ => by rw [z_set, z_row_n _ _ (Ne.symm h)], rfl⟩
theorem Sw.sr {ro : Nat} {M N : z_Mem} (h : Sw ro M N) (hr : 68 < ro ∧ ro < 72) : Sr M N := ⟨fun i a b => h.1 i a (by omega), fun k a => h.2.1 k (by omega) (by omega), h.2.2⟩
set_option maxRecDepth 100000 in
set_option maxHeartbeats 400000 in
theorem c_X7_readPart_N {M : z_Mem} {l : Nat → Int32} {n p a : Nat} {X : Int32} (hS : SN M l n) (hp : p < n) (hf : M.1 59 21 = -9) (ha : M.1 59 20 = nI p) (hX : X = scn l n (n - p) p p) (hc : l p = 78) (hA : M.1 59 15 = nI a) (ha7 : a < 7) (hB : okB l p = true) : ∃ N, z_Ct mX7_readPart [.ref 59, .int (l p)] M none N ∧ Sr M N ∧ FS N l n X (p + 5) (p + 5) ∧ (N.1 59 21 = -9 → (∀ i, p < i → i < p + 5 → okG l n p i = true) ∧ N.1 59 15 = nI (a + 1) ∧ (∀ k, k ≠ 15 → k ≠ 20 → k ≠ 21 → N.1 59 k = M.1 59 k) ∧ (∀ i, i ≠ 59 → i ≠ 69 → N.1 i = M.1 i) ∧ (∀ j, j < 4 → N.1 69 (4 * a + j) = fg l n (p + (1 + j))) ∧ ∀ i, i < 4 * a → N.1 69 i = M.1 69 i) := by
  have hsz : sz (l p) = 5 := by rw [hc]; rfl
  have hn6 := hS.2.1
  have hat : M.1 59 20 + 1 = nI (p + 1) := by rw [ha, ← nI_succ]
  have hX1 : X = scn l n (n - (p + 1)) (p + 1) p := by rw [hX, scn_b hp, if_neg (by rw [hB]; decide)]
  have F0 : FS (z_set M 59 20 (nI (p + 1))) l n X p (p + 1) := Or.inl ⟨by rw [z_set, z_row_1, upd_n _ _ (by decide)]; exact hf, zs_1 _ _ _ _, hp, hX1⟩
  have u0 : Sw 69 M (z_set M 59 20 (nI (p + 1))) := (Sg.fld _ (Or.inl rfl)).sw
  have r0 : (z_set M 59 20 (nI (p + 1))).1 69 = M.1 69 := by rw [z_set, z_row_n _ _ (by decide)]
  generalize hK0 : z_set M 59 20 (nI (p + 1)) = K0 at F0 u0 r0
  have w0 := u0
  have a0 : (4 : Int32) * K0.1 59 15 = nI (4 * a) := by rw [w0.2.1 15 (by decide) (by decide), hA]; exact nx_mul 4 a
  obtain ⟨N1, v1, c1, g1, F1, q1⟩ := c_X7_figureOf (M := K0) (s := p) (q := p + 1) (m := 5) (X := X) (but := -9) ((w0.sr (by decide)).sn hS) (by decide) F0 (by omega) (fun _ => okF_1)
  have u1 : Sw 69 K0 (z_set N1 69 (4 * a) v1) := g1.sw.tr (Sw.row (by decide) _ _)
  have r1 : (z_set N1 69 (4 * a) v1).1 69 = upd (K0.1 69) (4 * a) v1 := by rw [z_set, z_row_1, g1.1 69 (by decide)]
  have f1 : (z_set N1 69 (4 * a) v1).1 59 = N1.1 59 := by rw [z_set, z_row_n _ _ (by decide)]
  generalize hK1 : z_set N1 69 (4 * a) v1 = K1 at u1 r1 f1
  have w1 := w0.tr u1
  have a1 : (4 : Int32) * K1.1 59 15 = nI (4 * a) := by rw [w1.2.1 15 (by decide) (by decide), hA]; exact nx_mul 4 a
  rw [hsz, if_neg (by omega)] at F1
  have F1 : FS K1 l n X p (p + 1 + 1) := by unfold FS at F1 ⊢; rw [f1]; exact F1
  obtain ⟨N2, v2, c2, g2, F2, q2⟩ := c_X7_figureOf (M := K1) (s := p) (q := p + 2) (m := 5) (X := X) (but := v1) ((w1.sr (by decide)).sn hS) (by decide) F1 (by omega) (fun z => by rw [(q1 ((congrFun f1 21).symm.trans z)).2.1]; exact okF_2 (by rw [hc]; decide))
  have u2 : Sw 69 K1 (z_set N2 69 (4 * a + 1) v2) := g2.sw.tr (Sw.row (by decide) _ _)
  have r2 : (z_set N2 69 (4 * a + 1) v2).1 69 = upd (K1.1 69) (4 * a + 1) v2 := by rw [z_set, z_row_1, g2.1 69 (by decide)]
  have f2 : (z_set N2 69 (4 * a + 1) v2).1 59 = N2.1 59 := by rw [z_set, z_row_n _ _ (by decide)]
  generalize hK2 : z_set N2 69 (4 * a + 1) v2 = K2 at u2 r2 f2
  have w2 := w1.tr u2
  have a2 : (4 : Int32) * K2.1 59 15 = nI (4 * a) := by rw [w2.2.1 15 (by decide) (by decide), hA]; exact nx_mul 4 a
  rw [hsz, if_neg (by omega)] at F2
  have F2 : FS K2 l n X p (p + 2 + 1) := by unfold FS at F2 ⊢; rw [f2]; exact F2
  obtain ⟨N3, v3, c3, g3, F3, q3⟩ := c_X7_figureOf (M := K2) (s := p) (q := p + 3) (m := 9) (X := X) (but := -9) ((w2.sr (by decide)).sn hS) (by decide) F2 (by omega) (fun _ => okF_3)
  have u3 : Sw 69 K2 (z_set N3 69 (4 * a + 2) v3) := g3.sw.tr (Sw.row (by decide) _ _)
  have r3 : (z_set N3 69 (4 * a + 2) v3).1 69 = upd (K2.1 69) (4 * a + 2) v3 := by rw [z_set, z_row_1, g3.1 69 (by decide)]
  have f3 : (z_set N3 69 (4 * a + 2) v3).1 59 = N3.1 59 := by rw [z_set, z_row_n _ _ (by decide)]
  generalize hK3 : z_set N3 69 (4 * a + 2) v3 = K3 at u3 r3 f3
  have w3 := w2.tr u3
  have a3 : (4 : Int32) * K3.1 59 15 = nI (4 * a) := by rw [w3.2.1 15 (by decide) (by decide), hA]; exact nx_mul 4 a
  rw [hsz, if_neg (by omega)] at F3
  have F3 : FS K3 l n X p (p + 3 + 1) := by unfold FS at F3 ⊢; rw [f3]; exact F3
  obtain ⟨N4, v4, c4, g4, F4, q4⟩ := c_X7_figureOf (M := K3) (s := p) (q := p + 4) (m := 3) (X := X) (but := -9) ((w3.sr (by decide)).sn hS) (by decide) F3 (by omega) (fun _ => okF_4)
  have u4 : Sw 69 K3 (z_set N4 69 (4 * a + 3) v4) := g4.sw.tr (Sw.row (by decide) _ _)
  have r4 : (z_set N4 69 (4 * a + 3) v4).1 69 = upd (K3.1 69) (4 * a + 3) v4 := by rw [z_set, z_row_1, g4.1 69 (by decide)]
  have f4 : (z_set N4 69 (4 * a + 3) v4).1 59 = N4.1 59 := by rw [z_set, z_row_n _ _ (by decide)]
  generalize hK4 : z_set N4 69 (4 * a + 3) v4 = K4 at u4 r4 f4
  have w4 := w3.tr u4
  have a4 : (4 : Int32) * K4.1 59 15 = nI (4 * a) := by rw [w4.2.1 15 (by decide) (by decide), hA]; exact nx_mul 4 a
  rw [hsz, if_pos (by omega)] at F4
  have F4 : FS K4 l n X (p + 5) (p + 5) := by unfold FS at F4 ⊢; rw [f4]; exact F4
  have ctr : K4.1 59 15 + 1 = nI (a + 1) := by rw [w4.2.1 15 (by decide) (by decide), hA, ← nI_succ]
  have fin : ∀ k, k ≠ 15 → (z_set K4 59 15 (nI (a + 1))).1 59 k = K4.1 59 k := fun k hk => by rw [z_set, z_row_1, upd_n _ _ hk]
  have fir : ∀ i, i ≠ 59 → (z_set K4 59 15 (nI (a + 1))).1 i = K4.1 i := fun i hi => by rw [z_set, z_row_n _ _ hi]
  refine ⟨z_set K4 59 15 (nI (a + 1)), ?_, (w4.sr (by decide)).tr (Sr.fld _ (by decide)), ?_, fun z => ?_⟩
  · refine z_entry (by decide +kernel) (Nat.le_of_ble_eq_true rfl) rfl ?_
    show z_Sm mX7_readPart _ _ 0 [some (.ref 59), some (.int (l p)), none] [] M
    refine z_iload_n (pc := 0) dX7_readPart_0 rfl ?_
    refine z_bipush (pc := 1) (v := 78) dX7_readPart_1 (by decide) ?_
    refine z_icmp_ne (pc := 3) (tgt := 108) dX7_readPart_3 (by decide) (fun h3 => ?_) (fun h3 => ?_)
    · exact absurd hc h3
    · refine z_aload_n (pc := 6) dX7_readPart_6 rfl ?_
      refine z_getI (pc := 7) q_fX7_84 z_s59 rfl dX7_readPart_7 ?_
      refine z_bipush (pc := 10) (v := 7) dX7_readPart_10 (by decide) ?_
      refine z_icmp_ge (pc := 12) (tgt := 108) dX7_readPart_12 (by decide) (fun h12 => ?_) (fun h12 => ?_)
      · exact absurd (z_ge h12 hA (show (7 : Int32) = nI 7 from rfl) (by omega) (by omega)) (by omega)
      · refine z_aload_n (pc := 15) dX7_readPart_15 rfl ?_
        refine z_dup (pc := 16) dX7_readPart_16 rfl ?_
        refine z_getI (pc := 17) q_fX7_81 z_s59 rfl dX7_readPart_17 ?_
        refine z_iconst (pc := 20) (v := 1) dX7_readPart_20 (by decide) ?_
        refine z_iadd (pc := 21) dX7_readPart_21 ?_
        refine z_putI (pc := 22) q_fX7_81 q_p7_20 z_s59 rfl dX7_readPart_22 ?_
        rw [hat, hK0]
        refine z_iconst (pc := 25) (v := 4) dX7_readPart_25 (by decide) ?_
        refine z_aload_n (pc := 26) dX7_readPart_26 rfl ?_
        refine z_getI (pc := 27) q_fX7_84 z_s59 rfl dX7_readPart_27 ?_
        refine z_imul (pc := 30) dX7_readPart_30 ?_
        rw [a0]
        refine z_istore_n (pc := 31) dX7_readPart_31 rfl (by decide) ?_
        refine z_aload_n (pc := 32) dX7_readPart_32 rfl ?_
        refine z_getR (pc := 33) 69 q_fX7_37 z_s59 rfl dX7_readPart_33 ?_
        refine z_iload_n (pc := 36) dX7_readPart_36 rfl ?_
        refine z_aload_n (pc := 37) dX7_readPart_37 rfl ?_
        refine z_iconst (pc := 38) (v := 5) dX7_readPart_38 (by decide) ?_
        refine z_bipush (pc := 39) (v := (-9)) dX7_readPart_39 (by decide) ?_
        refine z_cV2 (pc := 41) c1 (q_cX7_97 _ (by decide)) z_s59 rfl rfl dX7_readPart_41 ?_
        refine z_iast (pc := 44) (4 * a) z_s69 ⟨rfl, by omega⟩ dX7_readPart_44 ?_
        rw [hK1]
        refine z_aload_n (pc := 45) dX7_readPart_45 rfl ?_
        refine z_getR (pc := 46) 69 q_fX7_37 z_s59 rfl dX7_readPart_46 ?_
        refine z_iload_n (pc := 49) dX7_readPart_49 rfl ?_
        refine z_iconst (pc := 50) (v := 1) dX7_readPart_50 (by decide) ?_
        refine z_iadd (pc := 51) dX7_readPart_51 ?_
        refine z_aload_n (pc := 52) dX7_readPart_52 rfl ?_
        refine z_iconst (pc := 53) (v := 5) dX7_readPart_53 (by decide) ?_
        refine z_aload_n (pc := 54) dX7_readPart_54 rfl ?_
        refine z_getR (pc := 55) 69 q_fX7_37 z_s59 rfl dX7_readPart_55 ?_
        refine z_iload_n (pc := 58) dX7_readPart_58 rfl ?_
        refine z_iald (pc := 59) (4 * a) z_s69 ⟨rfl, by omega⟩ dX7_readPart_59 ?_
        rw [show K1.1 69 (4 * a) = v1 by rw [r1, upd_1]]
        refine z_cV2 (pc := 60) c2 (q_cX7_97 _ (by decide)) z_s59 rfl rfl dX7_readPart_60 ?_
        refine z_iast (pc := 63) (4 * a + 1) z_s69 ⟨nI_add _ 1, by omega⟩ dX7_readPart_63 ?_
        rw [hK2]
        refine z_aload_n (pc := 64) dX7_readPart_64 rfl ?_
        refine z_getR (pc := 65) 69 q_fX7_37 z_s59 rfl dX7_readPart_65 ?_
        refine z_iload_n (pc := 68) dX7_readPart_68 rfl ?_
        refine z_iconst (pc := 69) (v := 2) dX7_readPart_69 (by decide) ?_
        refine z_iadd (pc := 70) dX7_readPart_70 ?_
        refine z_aload_n (pc := 71) dX7_readPart_71 rfl ?_
        refine z_bipush (pc := 72) (v := 9) dX7_readPart_72 (by decide) ?_
        refine z_bipush (pc := 74) (v := (-9)) dX7_readPart_74 (by decide) ?_
        refine z_cV2 (pc := 76) c3 (q_cX7_97 _ (by decide)) z_s59 rfl rfl dX7_readPart_76 ?_
        refine z_iast (pc := 79) (4 * a + 2) z_s69 ⟨nI_add _ 2, by omega⟩ dX7_readPart_79 ?_
        rw [hK3]
        refine z_aload_n (pc := 80) dX7_readPart_80 rfl ?_
        refine z_getR (pc := 81) 69 q_fX7_37 z_s59 rfl dX7_readPart_81 ?_
        refine z_iload_n (pc := 84) dX7_readPart_84 rfl ?_
        refine z_iconst (pc := 85) (v := 3) dX7_readPart_85 (by decide) ?_
        refine z_iadd (pc := 86) dX7_readPart_86 ?_
        refine z_aload_n (pc := 87) dX7_readPart_87 rfl ?_
        refine z_iconst (pc := 88) (v := 3) dX7_readPart_88 (by decide) ?_
        refine z_bipush (pc := 89) (v := (-9)) dX7_readPart_89 (by decide) ?_
        refine z_cV2 (pc := 91) c4 (q_cX7_97 _ (by decide)) z_s59 rfl rfl dX7_readPart_91 ?_
        refine z_iast (pc := 94) (4 * a + 3) z_s69 ⟨nI_add _ 3, by omega⟩ dX7_readPart_94 ?_
        rw [hK4]
        refine z_aload_n (pc := 95) dX7_readPart_95 rfl ?_
        refine z_dup (pc := 96) dX7_readPart_96 rfl ?_
        refine z_getI (pc := 97) q_fX7_84 z_s59 rfl dX7_readPart_97 ?_
        refine z_iconst (pc := 100) (v := 1) dX7_readPart_100 (by decide) ?_
        refine z_iadd (pc := 101) dX7_readPart_101 ?_
        refine z_putI (pc := 102) q_fX7_84 q_p7_15 z_s59 rfl dX7_readPart_102 ?_
        rw [ctr]
        refine z_goto (pc := 105) (tgt := 276) dX7_readPart_105 (by decide) ?_
        refine z_vret (pc := 276) rfl dX7_readPart_276 ?_
        rfl
  · unfold FS at F4 ⊢
    rw [fin 21 (by decide), fin 20 (by decide)]
    exact F4
  · rw [fin 21 (by decide), congrFun f4 21] at z
    obtain ⟨z4, y4, x4⟩ := q4 z
    have z4 := (congrFun f3 21).symm.trans z4
    obtain ⟨z3, y3, x3⟩ := q3 z4
    have z3 := (congrFun f2 21).symm.trans z3
    obtain ⟨z2, y2, x2⟩ := q2 z3
    have z2 := (congrFun f1 21).symm.trans z2
    obtain ⟨z1, y1, x1⟩ := q1 z2
    have rr : K4.1 69 = upd (upd (upd (upd (M.1 69) (4 * a) v1) (4 * a + 1) v2) (4 * a + 2) v3) (4 * a + 3) v4 := by rw [r4, r3, r2, r1, r0]
    refine ⟨fun i h1 h2 => ?_, zs_1 _ _ _ _, fun k h1 h2 h3 => (fin k h1).trans (w4.2.1 k h2 h3), fun i h1 h2 => (fir i h1).trans (w4.1 i h1 h2), fun j hj => ?_, fun i hi => ?_⟩
    · rcases (show i = p + 1 ∨ i = p + 2 ∨ i = p + 3 ∨ i = p + 4 by omega) with rfl | rfl | rfl | rfl
      · exact x1
      · exact x2
      · exact x3
      · exact x4
    · rw [fir 69 (by decide), rr]
      rcases (show j = 0 ∨ j = 1 ∨ j = 2 ∨ j = 3 by omega) with rfl | rfl | rfl | rfl
      · rw [upd_n _ _ (by omega), upd_n _ _ (by omega), upd_n _ _ (by omega), Nat.add_zero, upd_1, y1]
      · rw [upd_n _ _ (by omega), upd_n _ _ (by omega), upd_1, y2]
      · rw [upd_n _ _ (by omega), upd_1, y3]
      · rw [upd_1, y4]
    · rw [fir 69 (by decide), rr, upd_n _ _ (by omega), upd_n _ _ (by omega), upd_n _ _ (by omega), upd_n _ _ (by omega)]
set_option maxRecDepth 100000 in
set_option maxHeartbeats 400000 in
theorem c_X7_readPart_W {M : z_Mem} {l : Nat → Int32} {n p a : Nat} {X : Int32} (hS : SN M l n) (hp : p < n) (hf : M.1 59 21 = -9) (ha : M.1 59 20 = nI p) (hX : X = scn l n (n - p) p p) (hc : l p = 87) (hA : M.1 59 16 = nI a) (ha7 : a < 4) (hB : okB l p = true) : ∃ N, z_Ct mX7_readPart [.ref 59, .int (l p)] M none N ∧ Sr M N ∧ FS N l n X (p + 3) (p + 3) ∧ (N.1 59 21 = -9 → (∀ i, p < i → i < p + 3 → okG l n p i = true) ∧ N.1 59 16 = nI (a + 1) ∧ (∀ k, k ≠ 16 → k ≠ 20 → k ≠ 21 → N.1 59 k = M.1 59 k) ∧ (∀ i, i ≠ 59 → i ≠ 70 → N.1 i = M.1 i) ∧ (∀ j, j < 2 → N.1 70 (2 * a + j) = fg l n (p + (1 + j))) ∧ ∀ i, i < 2 * a → N.1 70 i = M.1 70 i) := by
  have hsz : sz (l p) = 3 := by rw [hc]; rfl
  have hn6 := hS.2.1
  have hat : M.1 59 20 + 1 = nI (p + 1) := by rw [ha, ← nI_succ]
  have hX1 : X = scn l n (n - (p + 1)) (p + 1) p := by rw [hX, scn_b hp, if_neg (by rw [hB]; decide)]
  have F0 : FS (z_set M 59 20 (nI (p + 1))) l n X p (p + 1) := Or.inl ⟨by rw [z_set, z_row_1, upd_n _ _ (by decide)]; exact hf, zs_1 _ _ _ _, hp, hX1⟩
  have u0 : Sw 70 M (z_set M 59 20 (nI (p + 1))) := (Sg.fld _ (Or.inl rfl)).sw
  have r0 : (z_set M 59 20 (nI (p + 1))).1 70 = M.1 70 := by rw [z_set, z_row_n _ _ (by decide)]
  generalize hK0 : z_set M 59 20 (nI (p + 1)) = K0 at F0 u0 r0
  have w0 := u0
  have a0 : (2 : Int32) * K0.1 59 16 = nI (2 * a) := by rw [w0.2.1 16 (by decide) (by decide), hA]; exact nx_mul 2 a
  obtain ⟨N1, v1, c1, g1, F1, q1⟩ := c_X7_figureOf (M := K0) (s := p) (q := p + 1) (m := 5) (X := X) (but := -9) ((w0.sr (by decide)).sn hS) (by decide) F0 (by omega) (fun _ => okF_1)
  have u1 : Sw 70 K0 (z_set N1 70 (2 * a) v1) := g1.sw.tr (Sw.row (by decide) _ _)
  have r1 : (z_set N1 70 (2 * a) v1).1 70 = upd (K0.1 70) (2 * a) v1 := by rw [z_set, z_row_1, g1.1 70 (by decide)]
  have f1 : (z_set N1 70 (2 * a) v1).1 59 = N1.1 59 := by rw [z_set, z_row_n _ _ (by decide)]
  generalize hK1 : z_set N1 70 (2 * a) v1 = K1 at u1 r1 f1
  have w1 := w0.tr u1
  have a1 : (2 : Int32) * K1.1 59 16 = nI (2 * a) := by rw [w1.2.1 16 (by decide) (by decide), hA]; exact nx_mul 2 a
  rw [hsz, if_neg (by omega)] at F1
  have F1 : FS K1 l n X p (p + 1 + 1) := by unfold FS at F1 ⊢; rw [f1]; exact F1
  obtain ⟨N2, v2, c2, g2, F2, q2⟩ := c_X7_figureOf (M := K1) (s := p) (q := p + 2) (m := 9) (X := X) (but := -9) ((w1.sr (by decide)).sn hS) (by decide) F1 (by omega) (fun _ => okF_2w hc)
  have u2 : Sw 70 K1 (z_set N2 70 (2 * a + 1) v2) := g2.sw.tr (Sw.row (by decide) _ _)
  have r2 : (z_set N2 70 (2 * a + 1) v2).1 70 = upd (K1.1 70) (2 * a + 1) v2 := by rw [z_set, z_row_1, g2.1 70 (by decide)]
  have f2 : (z_set N2 70 (2 * a + 1) v2).1 59 = N2.1 59 := by rw [z_set, z_row_n _ _ (by decide)]
  generalize hK2 : z_set N2 70 (2 * a + 1) v2 = K2 at u2 r2 f2
  have w2 := w1.tr u2
  have a2 : (2 : Int32) * K2.1 59 16 = nI (2 * a) := by rw [w2.2.1 16 (by decide) (by decide), hA]; exact nx_mul 2 a
  rw [hsz, if_pos (by omega)] at F2
  have F2 : FS K2 l n X (p + 3) (p + 3) := by unfold FS at F2 ⊢; rw [f2]; exact F2
  have ctr : K2.1 59 16 + 1 = nI (a + 1) := by rw [w2.2.1 16 (by decide) (by decide), hA, ← nI_succ]
  have fin : ∀ k, k ≠ 16 → (z_set K2 59 16 (nI (a + 1))).1 59 k = K2.1 59 k := fun k hk => by rw [z_set, z_row_1, upd_n _ _ hk]
  have fir : ∀ i, i ≠ 59 → (z_set K2 59 16 (nI (a + 1))).1 i = K2.1 i := fun i hi => by rw [z_set, z_row_n _ _ hi]
  refine ⟨z_set K2 59 16 (nI (a + 1)), ?_, (w2.sr (by decide)).tr (Sr.fld _ (by decide)), ?_, fun z => ?_⟩
  · refine z_entry (by decide +kernel) (Nat.le_of_ble_eq_true rfl) rfl ?_
    show z_Sm mX7_readPart _ _ 0 [some (.ref 59), some (.int (l p)), none] [] M
    refine z_iload_n (pc := 0) dX7_readPart_0 rfl ?_
    refine z_bipush (pc := 1) (v := 78) dX7_readPart_1 (by decide) ?_
    refine z_icmp_ne (pc := 3) (tgt := 108) dX7_readPart_3 (by decide) (fun h3 => ?_) (fun h3 => ?_)
    · refine z_iload_n (pc := 108) dX7_readPart_108 rfl ?_
      refine z_bipush (pc := 109) (v := 87) dX7_readPart_109 (by decide) ?_
      refine z_icmp_ne (pc := 111) (tgt := 184) dX7_readPart_111 (by decide) (fun h111 => ?_) (fun h111 => ?_)
      · exact absurd hc h111
      · refine z_aload_n (pc := 114) dX7_readPart_114 rfl ?_
        refine z_getI (pc := 115) q_fX7_87 z_s59 rfl dX7_readPart_115 ?_
        refine z_iconst (pc := 118) (v := 4) dX7_readPart_118 (by decide) ?_
        refine z_icmp_ge (pc := 119) (tgt := 184) dX7_readPart_119 (by decide) (fun h119 => ?_) (fun h119 => ?_)
        · exact absurd (z_ge h119 hA (show (4 : Int32) = nI 4 from rfl) (by omega) (by omega)) (by omega)
        · refine z_aload_n (pc := 122) dX7_readPart_122 rfl ?_
          refine z_dup (pc := 123) dX7_readPart_123 rfl ?_
          refine z_getI (pc := 124) q_fX7_81 z_s59 rfl dX7_readPart_124 ?_
          refine z_iconst (pc := 127) (v := 1) dX7_readPart_127 (by decide) ?_
          refine z_iadd (pc := 128) dX7_readPart_128 ?_
          refine z_putI (pc := 129) q_fX7_81 q_p7_20 z_s59 rfl dX7_readPart_129 ?_
          rw [hat, hK0]
          refine z_aload_n (pc := 132) dX7_readPart_132 rfl ?_
          refine z_getR (pc := 133) 70 q_fX7_40 z_s59 rfl dX7_readPart_133 ?_
          refine z_iconst (pc := 136) (v := 2) dX7_readPart_136 (by decide) ?_
          refine z_aload_n (pc := 137) dX7_readPart_137 rfl ?_
          refine z_getI (pc := 138) q_fX7_87 z_s59 rfl dX7_readPart_138 ?_
          refine z_imul (pc := 141) dX7_readPart_141 ?_
          rw [a0]
          refine z_aload_n (pc := 142) dX7_readPart_142 rfl ?_
          refine z_iconst (pc := 143) (v := 5) dX7_readPart_143 (by decide) ?_
          refine z_bipush (pc := 144) (v := (-9)) dX7_readPart_144 (by decide) ?_
          refine z_cV2 (pc := 146) c1 (q_cX7_97 _ (by decide)) z_s59 rfl rfl dX7_readPart_146 ?_
          refine z_iast (pc := 149) (2 * a) z_s70 ⟨rfl, by omega⟩ dX7_readPart_149 ?_
          rw [hK1]
          refine z_aload_n (pc := 150) dX7_readPart_150 rfl ?_
          refine z_getR (pc := 151) 70 q_fX7_40 z_s59 rfl dX7_readPart_151 ?_
          refine z_iconst (pc := 154) (v := 2) dX7_readPart_154 (by decide) ?_
          refine z_aload_n (pc := 155) dX7_readPart_155 rfl ?_
          refine z_getI (pc := 156) q_fX7_87 z_s59 rfl dX7_readPart_156 ?_
          refine z_imul (pc := 159) dX7_readPart_159 ?_
          rw [a1]
          refine z_iconst (pc := 160) (v := 1) dX7_readPart_160 (by decide) ?_
          refine z_iadd (pc := 161) dX7_readPart_161 ?_
          refine z_aload_n (pc := 162) dX7_readPart_162 rfl ?_
          refine z_bipush (pc := 163) (v := 9) dX7_readPart_163 (by decide) ?_
          refine z_bipush (pc := 165) (v := (-9)) dX7_readPart_165 (by decide) ?_
          refine z_cV2 (pc := 167) c2 (q_cX7_97 _ (by decide)) z_s59 rfl rfl dX7_readPart_167 ?_
          refine z_iast (pc := 170) (2 * a + 1) z_s70 ⟨nI_add _ 1, by omega⟩ dX7_readPart_170 ?_
          rw [hK2]
          refine z_aload_n (pc := 171) dX7_readPart_171 rfl ?_
          refine z_dup (pc := 172) dX7_readPart_172 rfl ?_
          refine z_getI (pc := 173) q_fX7_87 z_s59 rfl dX7_readPart_173 ?_
          refine z_iconst (pc := 176) (v := 1) dX7_readPart_176 (by decide) ?_
          refine z_iadd (pc := 177) dX7_readPart_177 ?_
          refine z_putI (pc := 178) q_fX7_87 q_p7_16 z_s59 rfl dX7_readPart_178 ?_
          rw [ctr]
          refine z_goto (pc := 181) (tgt := 276) dX7_readPart_181 (by decide) ?_
          refine z_vret (pc := 276) rfl dX7_readPart_276 ?_
          rfl
    · exact absurd (hc.symm.trans h3) (by decide)
  · unfold FS at F2 ⊢
    rw [fin 21 (by decide), fin 20 (by decide)]
    exact F2
  · rw [fin 21 (by decide), congrFun f2 21] at z
    obtain ⟨z2, y2, x2⟩ := q2 z
    have z2 := (congrFun f1 21).symm.trans z2
    obtain ⟨z1, y1, x1⟩ := q1 z2
    have rr : K2.1 70 = upd (upd (M.1 70) (2 * a) v1) (2 * a + 1) v2 := by rw [r2, r1, r0]
    refine ⟨fun i h1 h2 => ?_, zs_1 _ _ _ _, fun k h1 h2 h3 => (fin k h1).trans (w2.2.1 k h2 h3), fun i h1 h2 => (fir i h1).trans (w2.1 i h1 h2), fun j hj => ?_, fun i hi => ?_⟩
    · rcases (show i = p + 1 ∨ i = p + 2 by omega) with rfl | rfl
      · exact x1
      · exact x2
    · rw [fir 70 (by decide), rr]
      rcases (show j = 0 ∨ j = 1 by omega) with rfl | rfl
      · rw [upd_n _ _ (by omega), Nat.add_zero, upd_1, y1]
      · rw [upd_1, y2]
    · rw [fir 70 (by decide), rr, upd_n _ _ (by omega), upd_n _ _ (by omega)]
set_option maxRecDepth 100000 in
set_option maxHeartbeats 400000 in
theorem c_X7_readPart_D {M : z_Mem} {l : Nat → Int32} {n p a : Nat} {X : Int32} (hS : SN M l n) (hp : p < n) (hf : M.1 59 21 = -9) (ha : M.1 59 20 = nI p) (hX : X = scn l n (n - p) p p) (hc : l p = 68) (hA : M.1 59 17 = nI a) (ha7 : a < 3) (hB : okB l p = true) : ∃ N, z_Ct mX7_readPart [.ref 59, .int (l p)] M none N ∧ Sr M N ∧ FS N l n X (p + 3) (p + 3) ∧ (N.1 59 21 = -9 → (∀ i, p < i → i < p + 3 → okG l n p i = true) ∧ N.1 59 17 = nI (a + 1) ∧ (∀ k, k ≠ 17 → k ≠ 20 → k ≠ 21 → N.1 59 k = M.1 59 k) ∧ (∀ i, i ≠ 59 → i ≠ 71 → N.1 i = M.1 i) ∧ (∀ j, j < 2 → N.1 71 (2 * a + j) = fg l n (p + (1 + j))) ∧ ∀ i, i < 2 * a → N.1 71 i = M.1 71 i) := by
  have hsz : sz (l p) = 3 := by rw [hc]; rfl
  have hn6 := hS.2.1
  have hat : M.1 59 20 + 1 = nI (p + 1) := by rw [ha, ← nI_succ]
  have hX1 : X = scn l n (n - (p + 1)) (p + 1) p := by rw [hX, scn_b hp, if_neg (by rw [hB]; decide)]
  have F0 : FS (z_set M 59 20 (nI (p + 1))) l n X p (p + 1) := Or.inl ⟨by rw [z_set, z_row_1, upd_n _ _ (by decide)]; exact hf, zs_1 _ _ _ _, hp, hX1⟩
  have u0 : Sw 71 M (z_set M 59 20 (nI (p + 1))) := (Sg.fld _ (Or.inl rfl)).sw
  have r0 : (z_set M 59 20 (nI (p + 1))).1 71 = M.1 71 := by rw [z_set, z_row_n _ _ (by decide)]
  generalize hK0 : z_set M 59 20 (nI (p + 1)) = K0 at F0 u0 r0
  have w0 := u0
  have a0 : (2 : Int32) * K0.1 59 17 = nI (2 * a) := by rw [w0.2.1 17 (by decide) (by decide), hA]; exact nx_mul 2 a
  obtain ⟨N1, v1, c1, g1, F1, q1⟩ := c_X7_figureOf (M := K0) (s := p) (q := p + 1) (m := 5) (X := X) (but := -9) ((w0.sr (by decide)).sn hS) (by decide) F0 (by omega) (fun _ => okF_1)
  have u1 : Sw 71 K0 (z_set N1 71 (2 * a) v1) := g1.sw.tr (Sw.row (by decide) _ _)
  have r1 : (z_set N1 71 (2 * a) v1).1 71 = upd (K0.1 71) (2 * a) v1 := by rw [z_set, z_row_1, g1.1 71 (by decide)]
  have f1 : (z_set N1 71 (2 * a) v1).1 59 = N1.1 59 := by rw [z_set, z_row_n _ _ (by decide)]
  generalize hK1 : z_set N1 71 (2 * a) v1 = K1 at u1 r1 f1
  have w1 := w0.tr u1
  have a1 : (2 : Int32) * K1.1 59 17 = nI (2 * a) := by rw [w1.2.1 17 (by decide) (by decide), hA]; exact nx_mul 2 a
  rw [hsz, if_neg (by omega)] at F1
  have F1 : FS K1 l n X p (p + 1 + 1) := by unfold FS at F1 ⊢; rw [f1]; exact F1
  obtain ⟨N2, v2, c2, g2, F2, q2⟩ := c_X7_figureOf (M := K1) (s := p) (q := p + 2) (m := 5) (X := X) (but := v1) ((w1.sr (by decide)).sn hS) (by decide) F1 (by omega) (fun z => by rw [(q1 ((congrFun f1 21).symm.trans z)).2.1]; exact okF_2 (by rw [hc]; decide))
  have u2 : Sw 71 K1 (z_set N2 71 (2 * a + 1) v2) := g2.sw.tr (Sw.row (by decide) _ _)
  have r2 : (z_set N2 71 (2 * a + 1) v2).1 71 = upd (K1.1 71) (2 * a + 1) v2 := by rw [z_set, z_row_1, g2.1 71 (by decide)]
  have f2 : (z_set N2 71 (2 * a + 1) v2).1 59 = N2.1 59 := by rw [z_set, z_row_n _ _ (by decide)]
  generalize hK2 : z_set N2 71 (2 * a + 1) v2 = K2 at u2 r2 f2
  have w2 := w1.tr u2
  have a2 : (2 : Int32) * K2.1 59 17 = nI (2 * a) := by rw [w2.2.1 17 (by decide) (by decide), hA]; exact nx_mul 2 a
  rw [hsz, if_pos (by omega)] at F2
  have F2 : FS K2 l n X (p + 3) (p + 3) := by unfold FS at F2 ⊢; rw [f2]; exact F2
  have ctr : K2.1 59 17 + 1 = nI (a + 1) := by rw [w2.2.1 17 (by decide) (by decide), hA, ← nI_succ]
  have fin : ∀ k, k ≠ 17 → (z_set K2 59 17 (nI (a + 1))).1 59 k = K2.1 59 k := fun k hk => by rw [z_set, z_row_1, upd_n _ _ hk]
  have fir : ∀ i, i ≠ 59 → (z_set K2 59 17 (nI (a + 1))).1 i = K2.1 i := fun i hi => by rw [z_set, z_row_n _ _ hi]
  refine ⟨z_set K2 59 17 (nI (a + 1)), ?_, (w2.sr (by decide)).tr (Sr.fld _ (by decide)), ?_, fun z => ?_⟩
  · refine z_entry (by decide +kernel) (Nat.le_of_ble_eq_true rfl) rfl ?_
    show z_Sm mX7_readPart _ _ 0 [some (.ref 59), some (.int (l p)), none] [] M
    refine z_iload_n (pc := 0) dX7_readPart_0 rfl ?_
    refine z_bipush (pc := 1) (v := 78) dX7_readPart_1 (by decide) ?_
    refine z_icmp_ne (pc := 3) (tgt := 108) dX7_readPart_3 (by decide) (fun h3 => ?_) (fun h3 => ?_)
    · refine z_iload_n (pc := 108) dX7_readPart_108 rfl ?_
      refine z_bipush (pc := 109) (v := 87) dX7_readPart_109 (by decide) ?_
      refine z_icmp_ne (pc := 111) (tgt := 184) dX7_readPart_111 (by decide) (fun h111 => ?_) (fun h111 => ?_)
      · refine z_iload_n (pc := 184) dX7_readPart_184 rfl ?_
        refine z_bipush (pc := 185) (v := 68) dX7_readPart_185 (by decide) ?_
        refine z_icmp_ne (pc := 187) (tgt := 268) dX7_readPart_187 (by decide) (fun h187 => ?_) (fun h187 => ?_)
        · exact absurd hc h187
        · refine z_aload_n (pc := 190) dX7_readPart_190 rfl ?_
          refine z_getI (pc := 191) q_fX7_90 z_s59 rfl dX7_readPart_191 ?_
          refine z_iconst (pc := 194) (v := 3) dX7_readPart_194 (by decide) ?_
          refine z_icmp_ge (pc := 195) (tgt := 268) dX7_readPart_195 (by decide) (fun h195 => ?_) (fun h195 => ?_)
          · exact absurd (z_ge h195 hA (show (3 : Int32) = nI 3 from rfl) (by omega) (by omega)) (by omega)
          · refine z_aload_n (pc := 198) dX7_readPart_198 rfl ?_
            refine z_dup (pc := 199) dX7_readPart_199 rfl ?_
            refine z_getI (pc := 200) q_fX7_81 z_s59 rfl dX7_readPart_200 ?_
            refine z_iconst (pc := 203) (v := 1) dX7_readPart_203 (by decide) ?_
            refine z_iadd (pc := 204) dX7_readPart_204 ?_
            refine z_putI (pc := 205) q_fX7_81 q_p7_20 z_s59 rfl dX7_readPart_205 ?_
            rw [hat, hK0]
            refine z_aload_n (pc := 208) dX7_readPart_208 rfl ?_
            refine z_getR (pc := 209) 71 q_fX7_43 z_s59 rfl dX7_readPart_209 ?_
            refine z_iconst (pc := 212) (v := 2) dX7_readPart_212 (by decide) ?_
            refine z_aload_n (pc := 213) dX7_readPart_213 rfl ?_
            refine z_getI (pc := 214) q_fX7_90 z_s59 rfl dX7_readPart_214 ?_
            refine z_imul (pc := 217) dX7_readPart_217 ?_
            rw [a0]
            refine z_aload_n (pc := 218) dX7_readPart_218 rfl ?_
            refine z_iconst (pc := 219) (v := 5) dX7_readPart_219 (by decide) ?_
            refine z_bipush (pc := 220) (v := (-9)) dX7_readPart_220 (by decide) ?_
            refine z_cV2 (pc := 222) c1 (q_cX7_97 _ (by decide)) z_s59 rfl rfl dX7_readPart_222 ?_
            refine z_iast (pc := 225) (2 * a) z_s71 ⟨rfl, by omega⟩ dX7_readPart_225 ?_
            rw [hK1]
            refine z_aload_n (pc := 226) dX7_readPart_226 rfl ?_
            refine z_getR (pc := 227) 71 q_fX7_43 z_s59 rfl dX7_readPart_227 ?_
            refine z_iconst (pc := 230) (v := 2) dX7_readPart_230 (by decide) ?_
            refine z_aload_n (pc := 231) dX7_readPart_231 rfl ?_
            refine z_getI (pc := 232) q_fX7_90 z_s59 rfl dX7_readPart_232 ?_
            refine z_imul (pc := 235) dX7_readPart_235 ?_
            rw [a1]
            refine z_iconst (pc := 236) (v := 1) dX7_readPart_236 (by decide) ?_
            refine z_iadd (pc := 237) dX7_readPart_237 ?_
            refine z_aload_n (pc := 238) dX7_readPart_238 rfl ?_
            refine z_iconst (pc := 239) (v := 5) dX7_readPart_239 (by decide) ?_
            refine z_aload_n (pc := 240) dX7_readPart_240 rfl ?_
            refine z_getR (pc := 241) 71 q_fX7_43 z_s59 rfl dX7_readPart_241 ?_
            refine z_iconst (pc := 244) (v := 2) dX7_readPart_244 (by decide) ?_
            refine z_aload_n (pc := 245) dX7_readPart_245 rfl ?_
            refine z_getI (pc := 246) q_fX7_90 z_s59 rfl dX7_readPart_246 ?_
            refine z_imul (pc := 249) dX7_readPart_249 ?_
            rw [a1]
            refine z_iald (pc := 250) (2 * a) z_s71 ⟨rfl, by omega⟩ dX7_readPart_250 ?_
            rw [show K1.1 71 (2 * a) = v1 by rw [r1, upd_1]]
            refine z_cV2 (pc := 251) c2 (q_cX7_97 _ (by decide)) z_s59 rfl rfl dX7_readPart_251 ?_
            refine z_iast (pc := 254) (2 * a + 1) z_s71 ⟨nI_add _ 1, by omega⟩ dX7_readPart_254 ?_
            rw [hK2]
            refine z_aload_n (pc := 255) dX7_readPart_255 rfl ?_
            refine z_dup (pc := 256) dX7_readPart_256 rfl ?_
            refine z_getI (pc := 257) q_fX7_90 z_s59 rfl dX7_readPart_257 ?_
            refine z_iconst (pc := 260) (v := 1) dX7_readPart_260 (by decide) ?_
            refine z_iadd (pc := 261) dX7_readPart_261 ?_
            refine z_putI (pc := 262) q_fX7_90 q_p7_17 z_s59 rfl dX7_readPart_262 ?_
            rw [ctr]
            refine z_goto (pc := 265) (tgt := 276) dX7_readPart_265 (by decide) ?_
            refine z_vret (pc := 276) rfl dX7_readPart_276 ?_
            rfl
      · exact absurd (hc.symm.trans h111) (by decide)
    · exact absurd (hc.symm.trans h3) (by decide)
  · unfold FS at F2 ⊢
    rw [fin 21 (by decide), fin 20 (by decide)]
    exact F2
  · rw [fin 21 (by decide), congrFun f2 21] at z
    obtain ⟨z2, y2, x2⟩ := q2 z
    have z2 := (congrFun f1 21).symm.trans z2
    obtain ⟨z1, y1, x1⟩ := q1 z2
    have rr : K2.1 71 = upd (upd (M.1 71) (2 * a) v1) (2 * a + 1) v2 := by rw [r2, r1, r0]
    refine ⟨fun i h1 h2 => ?_, zs_1 _ _ _ _, fun k h1 h2 h3 => (fin k h1).trans (w2.2.1 k h2 h3), fun i h1 h2 => (fir i h1).trans (w2.1 i h1 h2), fun j hj => ?_, fun i hi => ?_⟩
    · rcases (show i = p + 1 ∨ i = p + 2 by omega) with rfl | rfl
      · exact x1
      · exact x2
    · rw [fir 71 (by decide), rr]
      rcases (show j = 0 ∨ j = 1 by omega) with rfl | rfl
      · rw [upd_n _ _ (by omega), Nat.add_zero, upd_1, y1]
      · rw [upd_1, y2]
    · rw [fir 71 (by decide), rr, upd_n _ _ (by omega), upd_n _ _ (by omega)]
set_option maxRecDepth 100000 in
set_option maxHeartbeats 400000 in
theorem c_X7_readPart_X {M : z_Mem} {l : Nat → Int32} {n p : Nat} (hn : n ≤ 60) (hp : p < n) (ha : M.1 59 20 = nI p) (hA : M.1 59 15 = nI (cN l 78 p)) (hW : M.1 59 16 = nI (cN l 87 p)) (hD : M.1 59 17 = nI (cN l 68 p)) (hB : okB l p = false) : z_Ct mX7_readPart [.ref 59, .int (l p)] M none (z_set M 59 21 (nI p)) := by
  have c1 := cN_le l 78 p
  have c2 := cN_le l 87 p
  have c3 := cN_le l 68 p
  have okN : l p = 78 → ¬ cN l 78 p < 7 := fun e h => by
    rw [okB, e, if_neg (show ¬ sz 78 = 0 by decide)] at hB
    exact absurd h (of_decide_eq_false hB)
  have okW : l p = 87 → ¬ cN l 87 p < 4 := fun e h => by
    rw [okB, e, if_neg (show ¬ sz 87 = 0 by decide)] at hB
    exact absurd h (of_decide_eq_false hB)
  have okD : l p = 68 → ¬ cN l 68 p < 3 := fun e h => by
    rw [okB, e, if_neg (show ¬ sz 68 = 0 by decide)] at hB
    exact absurd h (of_decide_eq_false hB)
  refine z_entry (by decide +kernel) (Nat.le_of_ble_eq_true rfl) rfl ?_
  show z_Sm mX7_readPart _ _ 0 [some (.ref 59), some (.int (l p)), none] [] M
  refine z_iload_n (pc := 0) dX7_readPart_0 rfl ?_
  refine z_bipush (pc := 1) (v := 78) dX7_readPart_1 (by decide) ?_
  refine z_icmp_ne (pc := 3) (tgt := 108) dX7_readPart_3 (by decide) (fun h3 => ?_) (fun h3 => ?_)
  · refine z_iload_n (pc := 108) dX7_readPart_108 rfl ?_
    refine z_bipush (pc := 109) (v := 87) dX7_readPart_109 (by decide) ?_
    refine z_icmp_ne (pc := 111) (tgt := 184) dX7_readPart_111 (by decide) (fun h111 => ?_) (fun h111 => ?_)
    · refine z_iload_n (pc := 184) dX7_readPart_184 rfl ?_
      refine z_bipush (pc := 185) (v := 68) dX7_readPart_185 (by decide) ?_
      refine z_icmp_ne (pc := 187) (tgt := 268) dX7_readPart_187 (by decide) (fun h187 => ?_) (fun h187 => ?_)
      · refine z_aload_n (pc := 268) dX7_readPart_268 rfl ?_
        refine z_aload_n (pc := 269) dX7_readPart_269 rfl ?_
        refine z_getI (pc := 270) q_fX7_81 z_s59 rfl dX7_readPart_270 ?_
        refine z_putI (pc := 273) q_fX7_78 q_p7_21 z_s59 rfl dX7_readPart_273 ?_
        refine z_vret (pc := 276) rfl dX7_readPart_276 ?_
        rw [ha]
      · refine z_aload_n (pc := 190) dX7_readPart_190 rfl ?_
        refine z_getI (pc := 191) q_fX7_90 z_s59 rfl dX7_readPart_191 ?_
        refine z_iconst (pc := 194) (v := 3) dX7_readPart_194 (by decide) ?_
        refine z_icmp_ge (pc := 195) (tgt := 268) dX7_readPart_195 (by decide) (fun h195 => ?_) (fun h195 => ?_)
        · refine z_aload_n (pc := 268) dX7_readPart_268 rfl ?_
          refine z_aload_n (pc := 269) dX7_readPart_269 rfl ?_
          refine z_getI (pc := 270) q_fX7_81 z_s59 rfl dX7_readPart_270 ?_
          refine z_putI (pc := 273) q_fX7_78 q_p7_21 z_s59 rfl dX7_readPart_273 ?_
          refine z_vret (pc := 276) rfl dX7_readPart_276 ?_
          rw [ha]
        · exact absurd (z_lt h195 hD (show (3 : Int32) = nI 3 from rfl) (by omega) (by omega)) (okD h187)
    · refine z_aload_n (pc := 114) dX7_readPart_114 rfl ?_
      refine z_getI (pc := 115) q_fX7_87 z_s59 rfl dX7_readPart_115 ?_
      refine z_iconst (pc := 118) (v := 4) dX7_readPart_118 (by decide) ?_
      refine z_icmp_ge (pc := 119) (tgt := 184) dX7_readPart_119 (by decide) (fun h119 => ?_) (fun h119 => ?_)
      · refine z_iload_n (pc := 184) dX7_readPart_184 rfl ?_
        refine z_bipush (pc := 185) (v := 68) dX7_readPart_185 (by decide) ?_
        refine z_icmp_ne (pc := 187) (tgt := 268) dX7_readPart_187 (by decide) (fun h187 => ?_) (fun h187 => ?_)
        · refine z_aload_n (pc := 268) dX7_readPart_268 rfl ?_
          refine z_aload_n (pc := 269) dX7_readPart_269 rfl ?_
          refine z_getI (pc := 270) q_fX7_81 z_s59 rfl dX7_readPart_270 ?_
          refine z_putI (pc := 273) q_fX7_78 q_p7_21 z_s59 rfl dX7_readPart_273 ?_
          refine z_vret (pc := 276) rfl dX7_readPart_276 ?_
          rw [ha]
        · exact absurd (h111.symm.trans h187) (by decide)
      · exact absurd (z_lt h119 hW (show (4 : Int32) = nI 4 from rfl) (by omega) (by omega)) (okW h111)
  · refine z_aload_n (pc := 6) dX7_readPart_6 rfl ?_
    refine z_getI (pc := 7) q_fX7_84 z_s59 rfl dX7_readPart_7 ?_
    refine z_bipush (pc := 10) (v := 7) dX7_readPart_10 (by decide) ?_
    refine z_icmp_ge (pc := 12) (tgt := 108) dX7_readPart_12 (by decide) (fun h12 => ?_) (fun h12 => ?_)
    · refine z_iload_n (pc := 108) dX7_readPart_108 rfl ?_
      refine z_bipush (pc := 109) (v := 87) dX7_readPart_109 (by decide) ?_
      refine z_icmp_ne (pc := 111) (tgt := 184) dX7_readPart_111 (by decide) (fun h111 => ?_) (fun h111 => ?_)
      · refine z_iload_n (pc := 184) dX7_readPart_184 rfl ?_
        refine z_bipush (pc := 185) (v := 68) dX7_readPart_185 (by decide) ?_
        refine z_icmp_ne (pc := 187) (tgt := 268) dX7_readPart_187 (by decide) (fun h187 => ?_) (fun h187 => ?_)
        · refine z_aload_n (pc := 268) dX7_readPart_268 rfl ?_
          refine z_aload_n (pc := 269) dX7_readPart_269 rfl ?_
          refine z_getI (pc := 270) q_fX7_81 z_s59 rfl dX7_readPart_270 ?_
          refine z_putI (pc := 273) q_fX7_78 q_p7_21 z_s59 rfl dX7_readPart_273 ?_
          refine z_vret (pc := 276) rfl dX7_readPart_276 ?_
          rw [ha]
        · exact absurd (h3.symm.trans h187) (by decide)
      · exact absurd (h3.symm.trans h111) (by decide)
    · exact absurd (z_lt h12 hA (show (7 : Int32) = nI 7 from rfl) (by omega) (by omega)) (okN h3)
