theorem gvF_sm (T : TT) (w : Nat → Int32) (o : Int32) (L : Nat → Int32) : ∀ n, n ≤ 7 → sm7 (gvF T w o L n)
  | 0, _ => sm7_0
  | n + 1, h => by
    have := gvF_sm T w o L n (by omega)
    unfold gvF
    split
    · exact sm7_or this (sm7_em (by omega))
    · exact this
theorem pgF_sm {T : TT} {w : Nat → Int32} {o : Int32} {L : Nat → Int32} (hP : T.1 ≤ 7) (ho : sm7 o) : ∀ n, sm7 (pgF T w o L n).1
  | 0 => ho
  | n + 1 => sm7_or (pgF_sm hP ho n) (gvF_sm T w _ _ _ hP)
theorem spF_sm {kd : Nat → Int32} {o : Int32} (ho : sm7 o) : ∀ n, sm7 (spF kd o n)
  | 0 => ho
  | n + 1 => by
    unfold spF
    split
    · exact sm7_and (spF_sm ho n)
    · exact spF_sm ho n
/-- a town's ends are things -/
def TE (T : TT) : Prop := ∀ k, k < T.1 → T.2.1 k < 6 ∧ T.2.2.1 k < 6
theorem TK.te {M : z_Mem} {T : TT} (h : TK M T) : TE T := fun k hk => (h.1.2.2 k hk).2.2
theorem gvF_cong {T : TT} (hE : TE T) {w v : Nat → Int32} {o : Int32} {L K : Nat → Int32} (hw : ∀ k, k < T.1 → w k = v k) (hL : ∀ k, k < 6 → L k = K k) : ∀ n, n ≤ T.1 → gvF T w o L n = gvF T v o K n
  | 0, _ => rfl
  | n + 1, h => by
    obtain ⟨h1, h2⟩ := hE n (by omega)
    rw [gvF, gvF, gvF_cong hE hw hL n (by omega), hw n (by omega), hL _ h1, hL _ h2]
theorem bd1_cong {T : TT} (hE : TE T) {L K : Nat → Int32} (hL : ∀ k, k < 6 → L k = K k) {n : Nat} (hn : n < T.1) : ∀ k, k < 6 → bd1 T n L k = bd1 T n K k := by
  obtain ⟨h1, h2⟩ := hE n hn
  intro k hk
  have e : ∀ i, i < 6 → upd L (T.2.1 n) (L (T.2.1 n) + 1) i = upd K (T.2.1 n) (K (T.2.1 n) + 1) i := by
    intro i hi
    unfold upd
    split
    · rw [hL _ h1]
    · exact hL i hi
  unfold bd1
  rw [e _ h2]
  show (if k = T.2.2.1 n then _ else _) = if k = T.2.2.1 n then _ else _
  split
  · rfl
  · exact e k hk
theorem bdF_cong {T : TT} (hE : TE T) {g : Int32} {L K : Nat → Int32} (hL : ∀ k, k < 6 → L k = K k) : ∀ n, n ≤ T.1 → ∀ k, k < 6 → bdF T g L n k = bdF T g K n k
  | 0, _ => hL
  | n + 1, h => by
    have ih := bdF_cong hE (g := g) hL n (by omega)
    unfold bdF
    split
    · exact bd1_cong hE ih (by omega)
    · exact ih
theorem pgF_cong {T : TT} (hE : TE T) {w v : Nat → Int32} {o : Int32} {L K : Nat → Int32} (hw : ∀ k, k < T.1 → w k = v k) (hL : ∀ k, k < 6 → L k = K k) : ∀ n, (pgF T w o L n).1 = (pgF T v o K n).1 ∧ ∀ k, k < 6 → (pgF T w o L n).2 k = (pgF T v o K n).2 k
  | 0 => ⟨rfl, hL⟩
  | n + 1 => by
    obtain ⟨i1, i2⟩ := pgF_cong hE hw hL n
    have e : gvF T w (pgF T w o L n).1 (pgF T w o L n).2 T.1 = gvF T v (pgF T v o K n).1 (pgF T v o K n).2 T.1 := by
      rw [i1]; exact gvF_cong hE hw i2 _ (Nat.le_refl _)
    unfold pgF
    rw [e, i1]
    exact ⟨rfl, bdF_cong hE i2 _ (Nat.le_refl _)⟩
theorem wnF_cong {T : TT} (hE : TE T) {o : Int32} {L K w v : Nat → Int32} (hw : ∀ k, k < 7 → w k = v k) (hL : ∀ k, k < 6 → L k = K k) {n : Nat} (hn : n ≤ T.1) : ∀ k, k < 7 → wnF T o L w n k = wnF T o K v n k := by
  intro k hk
  unfold wnF
  by_cases h : k < n
  · obtain ⟨h1, h2⟩ := hE k (by omega)
    rw [hL _ h1, hL _ h2, hw k hk]
  · rw [if_neg (fun q => h q.1), if_neg (fun q => h q.1), hw k hk]
theorem spF_cong {kd ke : Nat → Int32} {o : Int32} : ∀ n, (∀ k, k < n → kd k = ke k) → spF kd o n = spF ke o n
  | 0, _ => rfl
  | n + 1, h => by rw [spF, spF, spF_cong n (fun k hk => h k (by omega)), h n (by omega)]
/-- a plight: which pins are open, how they are worn, the day -/
abbrev PLt : Type := Int32 × (Nat → Int32) × Nat
def PlAt (M : z_Mem) (q : Nat) (p : PLt) : Prop := M.1 q 0 = p.1 ∧ (∀ k, k < 7 → M.1 (q + 1) k = p.2.1 k) ∧ M.1 q 2 = nI p.2.2
/-- nothing but these rows has changed -/
def Sb (ids : List Nat) (M N : z_Mem) : Prop := (∀ i, i ∉ ids → N.1 i = M.1 i) ∧ N.2 = M.2
theorem Sb.rf {ids : List Nat} {M : z_Mem} : Sb ids M M := ⟨fun _ _ => rfl, rfl⟩
theorem Sb.tr {ids : List Nat} {M N K : z_Mem} (h : Sb ids M N) (h2 : Sb ids N K) : Sb ids M K := ⟨fun i hi => (h2.1 i hi).trans (h.1 i hi), h2.2.trans h.2⟩
theorem Sb.wk {ids jds : List Nat} {M N : z_Mem} (h : Sb ids M N) (hs : ∀ i ∈ ids, i ∈ jds) : Sb jds M N := ⟨fun i hi => h.1 i (fun q => hi (hs i q)), h.2⟩
theorem Sb.row {ids : List Nat} {M : z_Mem} {i : Nat} (f : Nat → Int32) (hi : i ∈ ids) : Sb ids M (z_row M i f) := ⟨fun j hj => z_row_n M f (fun e => hj (e ▸ hi)), rfl⟩
theorem Sb.set {ids : List Nat} {M : z_Mem} {i k : Nat} (v : Int32) (hi : i ∈ ids) : Sb ids M (z_set M i k v) := Sb.row _ hi
theorem Sb.pm {ids : List Nat} {M : z_Mem} {q : Nat} (o : Int32) (L : Nat → Int32) (hi : q ∈ ids) (h13 : 13 ∈ ids) : Sb ids M (pm M q o L) := (Sb.set o hi).tr (Sb.row L h13)
theorem TK_sb {ids : List Nat} {M N : z_Mem} {T : TT} (h : TK M T) (s : Sb ids M N) (hi : ∀ i ∈ ids, i < 3 ∨ 7 < i) : TK N T := by
  have e : ∀ i, 3 ≤ i → i ≤ 7 → N.1 i = M.1 i := fun i h1 h2 => s.1 i (fun q => by have := hi i q; omega)
  exact TK_cong h (by rw [e 3 (by omega) (by omega)]) (e 4 (by omega) (by omega)) (e 5 (by omega) (by omega)) (e 6 (by omega) (by omega)) (e 7 (by omega) (by omega))
theorem PlAt_sb {ids : List Nat} {M N : z_Mem} {q : Nat} {p : PLt} (h : PlAt M q p) (s : Sb ids M N) (h1 : q ∉ ids) (h2 : q + 1 ∉ ids) : PlAt N q p := by
  unfold PlAt
  rw [s.1 q h1, s.1 (q + 1) h2]
  exact h
def pgR (o o2 : Int32) : Int32 := nI (pc 7 o2) - nI (pc 7 o)
def tgL (t : Nat) (n : Int32) : Nat → Int32 := upd (fun _ => 0) t n
def tugF (T : TT) (p : PLt) (t : Nat) (n : Int32) : PLt := ((pgF T p.2.1 p.1 (tgL t n) (T.1 + 1)).1, p.2.1, p.2.2)
/-- pulls: how many, at which thing, how much -/
abbrev UT : Type := Nat × (Nat → Nat) × (Nat → Int32)
def UK (M : z_Mem) (U : UT) : Prop := M.1 3 5 = nI U.1 ∧ U.1 ≤ 4 ∧ ∀ k, k < U.1 → M.1 8 k = nI (U.2.1 k) ∧ U.2.1 k < 6 ∧ M.1 9 k = U.2.2 k
theorem UK_sb {ids : List Nat} {M N : z_Mem} {U : UT} (h : UK M U) (s : Sb ids M N) (h3 : 3 ∉ ids) (h8 : 8 ∉ ids) (h9 : 9 ∉ ids) : UK N U := by
  unfold UK
  rw [s.1 3 h3, s.1 8 h8, s.1 9 h9]
  exact h
def dyL (U : UT) (d : Nat) : Nat → Int32 := if U.1 = 0 then fun _ => 0 else tgL (U.2.1 (d % U.1)) (U.2.2 (d % U.1))
/-- a day's open pins behind the springs, and its pings -/
def dyO (T : TT) (p : PLt) : Int32 := spF T.2.2.2.2 p.1 T.1
def dyP (T : TT) (U : UT) (p : PLt) : Int32 × (Nat → Int32) := pgF T p.2.1 (dyO T p) (dyL U p.2.2) (T.1 + 1)
def dayF (T : TT) (U : UT) (p : PLt) : PLt := ((dyP T U p).1, wnF T (dyP T U p).1 (dyP T U p).2 p.2.1 T.1, p.2.2 + 1)
theorem pm_pre {M : z_Mem} {q : Nat} (hq : q ≠ 13) (X : Nat → Int32) (o : Int32) (L : Nat → Int32) : pm (z_row M 13 X) q o L = pm M q o L := by
  unfold pm z_set
  rw [z_row_n _ _ hq, z_row_comm _ _ _ (Ne.symm hq), z_row_row]
set_option maxRecDepth 100000 in
set_option maxHeartbeats 400000 in
theorem c_X1_ping_14 {M : z_Mem} {T : TT} (hT : TK M T) (ho : sm7 (M.1 14 0)) : z_Ct mX1_ping [.ref 12, .ref 14] M (some (.int (pgR (M.1 14 0) (pgF T (M.1 15) (M.1 14 0) (M.1 13) (T.1 + 1)).1))) (pm M 14 (pgF T (M.1 15) (M.1 14 0) (M.1 13) (T.1 + 1)).1 (pgF T (M.1 15) (M.1 14 0) (M.1 13) (T.1 + 1)).2) := by
  refine z_entry (by decide +kernel) (Nat.le_of_ble_eq_true rfl) rfl ?_
  show z_Sm mX1_ping _ _ 0 [some (.ref 12), some (.ref 14), none, none, none, none] [] M
  refine z_aload_n (pc := 0) dX1_ping_0 rfl ?_
  refine z_getI (pc := 1) q_fX1_27 z_s14 rfl dX1_ping_1 ?_
  refine z_cS1 (pc := 4) (c_J6_bitCount_0f7a4 ho) (q_cX1_33 _ (by decide)) rfl dX1_ping_4 ?_
  refine z_istore_n (pc := 7) dX1_ping_7 rfl (by decide) ?_
  refine z_iconst (pc := 8) (v := 0) dX1_ping_8 (by decide) ?_
  refine z_istore_n (pc := 9) dX1_ping_9 rfl (by decide) ?_
  refine s_X1_ping_10_14 hT (o := M.1 14 0) (L := M.1 13) ?_ 0 (Nat.zero_le _) _ _ rfl (pm_self M 14).symm
  refine z_aload_n (pc := 82) dX1_ping_82 rfl ?_
  refine z_getI (pc := 83) q_fX1_27 z_s14 rfl dX1_ping_83 ?_
  refine z_cS1 (pc := 86) (c_J6_bitCount_0f7a4 (by rw [pm_q0 M (by decide)]; exact pgF_sm hT.1.2.1 ho _)) (q_cX1_33 _ (by decide)) rfl dX1_ping_86 ?_
  refine z_iload_n (pc := 89) dX1_ping_89 rfl ?_
  refine z_isub (pc := 90) dX1_ping_90 ?_
  refine z_iret (pc := 91) rfl dX1_ping_91 ?_ ?_
  · rw [pm_q0 M (by decide)]; rfl
  · rfl
set_option maxRecDepth 100000 in
set_option maxHeartbeats 400000 in
theorem s_X1_springShut_2_14 {M M2 : z_Mem} {r : Option Value} {T : TT} (hT : TK M T) (kk : z_Sm mX1_springShut r M2 46 [some (.ref 12), some (.ref 14), none] [] (z_set M 14 0 (spF T.2.2.2.2 (M.1 14 0) (T.1)))) (j : Nat) (hj : j ≤ T.1) (ij : Int32) (Mj : z_Mem) (h2 : ij = nI j) (hM : Mj = z_set M 14 0 (spF T.2.2.2.2 (M.1 14 0) j)) : z_Sm mX1_springShut r M2 2 [some (.ref 12), some (.ref 14), some (.int ij)] [] Mj := by
  have hP7 := hT.1.2.1
  subst hM
  have hP : (z_set M 14 0 (spF T.2.2.2.2 (M.1 14 0) j)).1 3 0 = nI T.1 := by rw [z_set, z_row_n _ _ (by decide)]; exact hT.1.1
  have h7 : (z_set M 14 0 (spF T.2.2.2.2 (M.1 14 0) j)).1 7 = M.1 7 := by rw [z_set, z_row_n _ _ (by decide)]
  have hq0 : (z_set M 14 0 (spF T.2.2.2.2 (M.1 14 0) j)).1 14 0 = spF T.2.2.2.2 (M.1 14 0) j := by rw [z_set, z_row_1, upd_1]
  refine z_iload_n (pc := 2) dX1_springShut_2 rfl ?_
  refine z_aload_n (pc := 3) dX1_springShut_3 rfl ?_
  refine z_getR (pc := 4) 3 q_fX1_15 z_s12 rfl dX1_springShut_4 ?_
  refine z_getI (pc := 7) q_fX1_39 z_s3 rfl dX1_springShut_7 ?_
  refine z_icmp_ge (pc := 10) (tgt := 46) dX1_springShut_10 (by decide) (fun h10 => ?_) (fun h10 => ?_)
  · have hNj : T.1 ≤ j := by
      have := z_ge h10 h2 hP (by omega) (by omega)
      omega
    obtain rfl : j = T.1 := by omega
    exact z_drop 2 kk
  · have hlt : j < T.1 := by
      have := z_lt h10 h2 hP (by omega) (by omega)
      omega
    have hk := (hT.2 j hlt).2
    refine z_aload_n (pc := 13) dX1_springShut_13 rfl ?_
    refine z_getR (pc := 14) 3 q_fX1_15 z_s12 rfl dX1_springShut_14 ?_
    refine z_getR (pc := 17) 7 q_fX1_98 z_s3 rfl dX1_springShut_17 ?_
    refine z_iload_n (pc := 20) dX1_springShut_20 rfl ?_
    refine z_iald (pc := 21) (j) z_s7 ⟨h2, by omega, by decide⟩ dX1_springShut_21 ?_
    refine z_iconst (pc := 22) (v := 3) dX1_springShut_22 (by decide) ?_
    refine z_icmp_ne (pc := 23) (tgt := 40) dX1_springShut_23 (by decide) (fun h23 => ?_) (fun h23 => ?_)
    · refine z_iinc (pc := 40) dX1_springShut_40 rfl rfl rfl (by decide) ?_
      refine z_goto (pc := 43) (tgt := 2) dX1_springShut_43 (by decide) ?_
      rw [h7, hk] at h23
      exact s_X1_springShut_2_14 hT kk (j + 1) hlt _ _ (z_n1 h2) (by rw [spF, if_neg h23])
    · refine z_aload_n (pc := 26) dX1_springShut_26 rfl ?_
      refine z_dup (pc := 27) dX1_springShut_27 rfl ?_
      refine z_getI (pc := 28) q_fX1_27 z_s14 rfl dX1_springShut_28 ?_
      refine z_iconst (pc := 31) (v := 1) dX1_springShut_31 (by decide) ?_
      refine z_iload_n (pc := 32) dX1_springShut_32 rfl ?_
      refine z_ishl (pc := 33) dX1_springShut_33 ?_
      refine z_iconst (pc := 34) (v := (-1)) dX1_springShut_34 (by decide) ?_
      refine z_ixor (pc := 35) dX1_springShut_35 ?_
      refine z_iand (pc := 36) dX1_springShut_36 ?_
      refine z_putI (pc := 37) q_fX1_27 q_p2_0 z_s14 rfl dX1_springShut_37 ?_
      refine z_iinc (pc := 40) dX1_springShut_40 rfl rfl rfl (by decide) ?_
      refine z_goto (pc := 43) (tgt := 2) dX1_springShut_43 (by decide) ?_
      rw [h7, hk] at h23
      have h23 : T.2.2.2.2 j = 3 := by simpa using h23
      exact s_X1_springShut_2_14 hT kk (j + 1) hlt _ _ (z_n1 h2) (by rw [hq0, h2, spF, if_pos h23, z_set, z_set, z_row_1, upd_upd, z_row_row]; rfl)
termination_by T.1 - j
decreasing_by all_goals omega
set_option maxRecDepth 100000 in
set_option maxHeartbeats 400000 in
theorem c_X1_springShut_14 {M : z_Mem} {T : TT} (hT : TK M T) : z_Ct mX1_springShut [.ref 12, .ref 14] M none (z_set M 14 0 (spF T.2.2.2.2 (M.1 14 0) T.1)) := by
  refine z_entry (by decide +kernel) (Nat.le_of_ble_eq_true rfl) rfl ?_
  show z_Sm mX1_springShut _ _ 0 [some (.ref 12), some (.ref 14), none] [] M
  refine z_iconst (pc := 0) (v := 0) dX1_springShut_0 (by decide) ?_
  refine z_istore_n (pc := 1) dX1_springShut_1 rfl (by decide) ?_
  refine s_X1_springShut_2_14 hT ?_ 0 (Nat.zero_le _) _ _ rfl (by rw [spF, z_set_self])
  refine z_vret (pc := 46) rfl dX1_springShut_46 ?_
  rfl
set_option maxRecDepth 100000 in
set_option maxHeartbeats 400000 in
theorem s_X1_wearDown_2_14 {M M2 : z_Mem} {r : Option Value} {T : TT} (hT : TK M T) (kk : z_Sm mX1_wearDown r M2 59 [some (.ref 12), some (.ref 14), none] [] (z_row M 15 (wnF T (M.1 14 0) (M.1 13) (M.1 15) (T.1)))) (j : Nat) (hj : j ≤ T.1) (ij : Int32) (Mj : z_Mem) (h2 : ij = nI j) (hM : Mj = z_row M 15 (wnF T (M.1 14 0) (M.1 13) (M.1 15) j)) : z_Sm mX1_wearDown r M2 2 [some (.ref 12), some (.ref 14), some (.int ij)] [] Mj := by
  have hP7 := hT.1.2.1
  subst hM
  have hn : ∀ i, i ≠ 15 → (z_row M 15 (wnF T (M.1 14 0) (M.1 13) (M.1 15) j)).1 i = M.1 i := fun i hi => z_row_n _ _ hi
  have hP : (z_row M 15 (wnF T (M.1 14 0) (M.1 13) (M.1 15) j)).1 3 0 = nI T.1 := by rw [hn 3 (by decide)]; exact hT.1.1
  have hT2 : TK (z_row M 15 (wnF T (M.1 14 0) (M.1 13) (M.1 15) j)) T := TK_cong hT (by rw [hn 3 (by decide)]) (hn 4 (by decide)) (hn 5 (by decide)) (hn 6 (by decide)) (hn 7 (by decide))
  refine z_iload_n (pc := 2) dX1_wearDown_2 rfl ?_
  refine z_aload_n (pc := 3) dX1_wearDown_3 rfl ?_
  refine z_getR (pc := 4) 3 q_fX1_15 z_s12 rfl dX1_wearDown_4 ?_
  refine z_getI (pc := 7) q_fX1_39 z_s3 rfl dX1_wearDown_7 ?_
  refine z_icmp_ge (pc := 10) (tgt := 59) dX1_wearDown_10 (by decide) (fun h10 => ?_) (fun h10 => ?_)
  · have hNj : T.1 ≤ j := by
      have := z_ge h10 h2 hP (by omega) (by omega)
      omega
    obtain rfl : j = T.1 := by omega
    exact z_drop 2 kk
  · have hlt : j < T.1 := by
      have := z_lt h10 h2 hP (by omega) (by omega)
      omega
    have hk := (hT.2 j hlt).2
    refine z_aload_n (pc := 13) dX1_wearDown_13 rfl ?_
    refine z_getR (pc := 14) 3 q_fX1_15 z_s12 rfl dX1_wearDown_14 ?_
    refine z_getR (pc := 17) 7 q_fX1_98 z_s3 rfl dX1_wearDown_17 ?_
    refine z_iload_n (pc := 20) dX1_wearDown_20 rfl ?_
    refine z_iald (pc := 21) (j) z_s7 ⟨h2, by omega, by decide⟩ dX1_wearDown_21 ?_
    refine z_iconst (pc := 22) (v := 2) dX1_wearDown_22 (by decide) ?_
    refine z_icmp_ne (pc := 23) (tgt := 53) dX1_wearDown_23 (by decide) (fun h23 => ?_) (fun h23 => ?_)
    · refine z_iinc (pc := 53) dX1_wearDown_53 rfl rfl rfl (by decide) ?_
      refine z_goto (pc := 56) (tgt := 2) dX1_wearDown_56 (by decide) ?_
      rw [hn 7 (by decide), hk] at h23
      exact s_X1_wearDown_2_14 hT kk (j + 1) hlt _ _ (z_n1 h2) (by rw [wnF_no (fun q => h23 q.1)])
    · refine z_aload_n (pc := 26) dX1_wearDown_26 rfl ?_
      refine z_iload_n (pc := 27) dX1_wearDown_27 rfl ?_
      refine z_cV1 (pc := 28) (c_X2_isOpen_14 h2 (by omega)) (q_cX1_50 _ (by decide)) z_s14 rfl rfl dX1_wearDown_28 ?_
      refine z_if_ne (pc := 31) (tgt := 53) dX1_wearDown_31 (by decide) (fun h31 => ?_) (fun h31 => ?_)
      · refine z_iinc (pc := 53) dX1_wearDown_53 rfl rfl rfl (by decide) ?_
        refine z_goto (pc := 56) (tgt := 2) dX1_wearDown_56 (by decide) ?_
        rw [hn 14 (by decide)] at h31
        have hb : bt (M.1 14 0) j = true := by
          cases q : bt (M.1 14 0) j
          · rw [q] at h31; exact absurd rfl h31
          · rfl
        exact s_X1_wearDown_2_14 hT kk (j + 1) hlt _ _ (z_n1 h2) (by rw [wnF_no (fun q => by rw [hb] at q; exact absurd q.2.1 (by decide))])
      · refine z_aload_n (pc := 34) dX1_wearDown_34 rfl ?_
        refine z_iload_n (pc := 35) dX1_wearDown_35 rfl ?_
        refine z_cV1 (pc := 36) (c_X1_loadOf hT2 h2 hlt) (q_cX1_54 _ (by decide)) z_s12 rfl rfl dX1_wearDown_36 ?_
        refine z_iconst (pc := 39) (v := 1) dX1_wearDown_39 (by decide) ?_
        refine z_icmp_lt (pc := 40) (tgt := 53) dX1_wearDown_40 (by decide) (fun h40 => ?_) (fun h40 => ?_)
        · refine z_iinc (pc := 53) dX1_wearDown_53 rfl rfl rfl (by decide) ?_
          refine z_goto (pc := 56) (tgt := 2) dX1_wearDown_56 (by decide) ?_
          rw [hn 13 (by decide)] at h40
          exact s_X1_wearDown_2_14 hT kk (j + 1) hlt _ _ (z_n1 h2) (by rw [wnF_no (fun q => (Int32.not_lt.mpr q.2.2) h40)])
        · refine z_aload_n (pc := 43) dX1_wearDown_43 rfl ?_
          refine z_getR (pc := 44) 15 q_fX1_57 z_s14 rfl dX1_wearDown_44 ?_
          refine z_iload_n (pc := 47) dX1_wearDown_47 rfl ?_
          refine z_dup2 (pc := 48) dX1_wearDown_48 rfl rfl ?_
          refine z_iald (pc := 49) (j) z_s15 ⟨h2, by omega, by decide⟩ dX1_wearDown_49 ?_
          refine z_iconst (pc := 50) (v := 1) dX1_wearDown_50 (by decide) ?_
          refine z_iadd (pc := 51) dX1_wearDown_51 ?_
          refine z_iast (pc := 52) (j) z_s15 ⟨h2, by omega, by decide⟩ dX1_wearDown_52 ?_
          refine z_iinc (pc := 53) dX1_wearDown_53 rfl rfl rfl (by decide) ?_
          refine z_goto (pc := 56) (tgt := 2) dX1_wearDown_56 (by decide) ?_
          rw [hn 13 (by decide)] at h40
          rw [hn 7 (by decide), hk] at h23
          rw [hn 14 (by decide)] at h31
          have hb : bt (M.1 14 0) j = false := by
            cases q : bt (M.1 14 0) j
            · rfl
            · rw [q] at h31; exact absurd h31 (by decide)
          have h23 : T.2.2.2.2 j = 2 := by simpa using h23
          exact s_X1_wearDown_2_14 hT kk (j + 1) hlt _ _ (z_n1 h2) (by rw [← wnF_yes ⟨h23, hb, Int32.not_lt.mp h40⟩, z_set, z_row_1, z_row_row])
termination_by T.1 - j
decreasing_by all_goals omega
set_option maxRecDepth 100000 in
set_option maxHeartbeats 400000 in
theorem c_X1_wearDown_14 {M : z_Mem} {T : TT} (hT : TK M T) : z_Ct mX1_wearDown [.ref 12, .ref 14] M none (z_row M 15 (wnF T (M.1 14 0) (M.1 13) (M.1 15) T.1)) := by
  refine z_entry (by decide +kernel) (Nat.le_of_ble_eq_true rfl) rfl ?_
  show z_Sm mX1_wearDown _ _ 0 [some (.ref 12), some (.ref 14), none] [] M
  refine z_iconst (pc := 0) (v := 0) dX1_wearDown_0 (by decide) ?_
  refine z_istore_n (pc := 1) dX1_wearDown_1 rfl (by decide) ?_
  refine s_X1_wearDown_2_14 hT ?_ 0 (Nat.zero_le _) _ _ rfl (by rw [wnF_0, z_row_same])
  refine z_vret (pc := 59) rfl dX1_wearDown_59 ?_
  rfl
set_option maxRecDepth 100000 in
set_option maxHeartbeats 400000 in
theorem c_X1_ping_16 {M : z_Mem} {T : TT} (hT : TK M T) (ho : sm7 (M.1 16 0)) : z_Ct mX1_ping [.ref 12, .ref 16] M (some (.int (pgR (M.1 16 0) (pgF T (M.1 17) (M.1 16 0) (M.1 13) (T.1 + 1)).1))) (pm M 16 (pgF T (M.1 17) (M.1 16 0) (M.1 13) (T.1 + 1)).1 (pgF T (M.1 17) (M.1 16 0) (M.1 13) (T.1 + 1)).2) := by
  refine z_entry (by decide +kernel) (Nat.le_of_ble_eq_true rfl) rfl ?_
  show z_Sm mX1_ping _ _ 0 [some (.ref 12), some (.ref 16), none, none, none, none] [] M
  refine z_aload_n (pc := 0) dX1_ping_0 rfl ?_
  refine z_getI (pc := 1) q_fX1_27 z_s16 rfl dX1_ping_1 ?_
  refine z_cS1 (pc := 4) (c_J6_bitCount_0f7a4 ho) (q_cX1_33 _ (by decide)) rfl dX1_ping_4 ?_
  refine z_istore_n (pc := 7) dX1_ping_7 rfl (by decide) ?_
  refine z_iconst (pc := 8) (v := 0) dX1_ping_8 (by decide) ?_
  refine z_istore_n (pc := 9) dX1_ping_9 rfl (by decide) ?_
  refine s_X1_ping_10_16 hT (o := M.1 16 0) (L := M.1 13) ?_ 0 (Nat.zero_le _) _ _ rfl (pm_self M 16).symm
  refine z_aload_n (pc := 82) dX1_ping_82 rfl ?_
  refine z_getI (pc := 83) q_fX1_27 z_s16 rfl dX1_ping_83 ?_
  refine z_cS1 (pc := 86) (c_J6_bitCount_0f7a4 (by rw [pm_q0 M (by decide)]; exact pgF_sm hT.1.2.1 ho _)) (q_cX1_33 _ (by decide)) rfl dX1_ping_86 ?_
  refine z_iload_n (pc := 89) dX1_ping_89 rfl ?_
  refine z_isub (pc := 90) dX1_ping_90 ?_
  refine z_iret (pc := 91) rfl dX1_ping_91 ?_ ?_
  · rw [pm_q0 M (by decide)]; rfl
  · rfl
set_option maxRecDepth 100000 in
set_option maxHeartbeats 400000 in
theorem s_X1_springShut_2_16 {M M2 : z_Mem} {r : Option Value} {T : TT} (hT : TK M T) (kk : z_Sm mX1_springShut r M2 46 [some (.ref 12), some (.ref 16), none] [] (z_set M 16 0 (spF T.2.2.2.2 (M.1 16 0) (T.1)))) (j : Nat) (hj : j ≤ T.1) (ij : Int32) (Mj : z_Mem) (h2 : ij = nI j) (hM : Mj = z_set M 16 0 (spF T.2.2.2.2 (M.1 16 0) j)) : z_Sm mX1_springShut r M2 2 [some (.ref 12), some (.ref 16), some (.int ij)] [] Mj := by
  have hP7 := hT.1.2.1
  subst hM
  have hP : (z_set M 16 0 (spF T.2.2.2.2 (M.1 16 0) j)).1 3 0 = nI T.1 := by rw [z_set, z_row_n _ _ (by decide)]; exact hT.1.1
  have h7 : (z_set M 16 0 (spF T.2.2.2.2 (M.1 16 0) j)).1 7 = M.1 7 := by rw [z_set, z_row_n _ _ (by decide)]
  have hq0 : (z_set M 16 0 (spF T.2.2.2.2 (M.1 16 0) j)).1 16 0 = spF T.2.2.2.2 (M.1 16 0) j := by rw [z_set, z_row_1, upd_1]
  refine z_iload_n (pc := 2) dX1_springShut_2 rfl ?_
  refine z_aload_n (pc := 3) dX1_springShut_3 rfl ?_
  refine z_getR (pc := 4) 3 q_fX1_15 z_s12 rfl dX1_springShut_4 ?_
  refine z_getI (pc := 7) q_fX1_39 z_s3 rfl dX1_springShut_7 ?_
  refine z_icmp_ge (pc := 10) (tgt := 46) dX1_springShut_10 (by decide) (fun h10 => ?_) (fun h10 => ?_)
  · have hNj : T.1 ≤ j := by
      have := z_ge h10 h2 hP (by omega) (by omega)
      omega
    obtain rfl : j = T.1 := by omega
    exact z_drop 2 kk
  · have hlt : j < T.1 := by
      have := z_lt h10 h2 hP (by omega) (by omega)
      omega
    have hk := (hT.2 j hlt).2
    refine z_aload_n (pc := 13) dX1_springShut_13 rfl ?_
    refine z_getR (pc := 14) 3 q_fX1_15 z_s12 rfl dX1_springShut_14 ?_
    refine z_getR (pc := 17) 7 q_fX1_98 z_s3 rfl dX1_springShut_17 ?_
    refine z_iload_n (pc := 20) dX1_springShut_20 rfl ?_
    refine z_iald (pc := 21) (j) z_s7 ⟨h2, by omega, by decide⟩ dX1_springShut_21 ?_
    refine z_iconst (pc := 22) (v := 3) dX1_springShut_22 (by decide) ?_
    refine z_icmp_ne (pc := 23) (tgt := 40) dX1_springShut_23 (by decide) (fun h23 => ?_) (fun h23 => ?_)
    · refine z_iinc (pc := 40) dX1_springShut_40 rfl rfl rfl (by decide) ?_
      refine z_goto (pc := 43) (tgt := 2) dX1_springShut_43 (by decide) ?_
      rw [h7, hk] at h23
      exact s_X1_springShut_2_16 hT kk (j + 1) hlt _ _ (z_n1 h2) (by rw [spF, if_neg h23])
    · refine z_aload_n (pc := 26) dX1_springShut_26 rfl ?_
      refine z_dup (pc := 27) dX1_springShut_27 rfl ?_
      refine z_getI (pc := 28) q_fX1_27 z_s16 rfl dX1_springShut_28 ?_
      refine z_iconst (pc := 31) (v := 1) dX1_springShut_31 (by decide) ?_
      refine z_iload_n (pc := 32) dX1_springShut_32 rfl ?_
      refine z_ishl (pc := 33) dX1_springShut_33 ?_
      refine z_iconst (pc := 34) (v := (-1)) dX1_springShut_34 (by decide) ?_
      refine z_ixor (pc := 35) dX1_springShut_35 ?_
      refine z_iand (pc := 36) dX1_springShut_36 ?_
      refine z_putI (pc := 37) q_fX1_27 q_p2_0 z_s16 rfl dX1_springShut_37 ?_
      refine z_iinc (pc := 40) dX1_springShut_40 rfl rfl rfl (by decide) ?_
      refine z_goto (pc := 43) (tgt := 2) dX1_springShut_43 (by decide) ?_
      rw [h7, hk] at h23
      have h23 : T.2.2.2.2 j = 3 := by simpa using h23
      exact s_X1_springShut_2_16 hT kk (j + 1) hlt _ _ (z_n1 h2) (by rw [hq0, h2, spF, if_pos h23, z_set, z_set, z_row_1, upd_upd, z_row_row]; rfl)
termination_by T.1 - j
decreasing_by all_goals omega
set_option maxRecDepth 100000 in
set_option maxHeartbeats 400000 in
theorem c_X1_springShut_16 {M : z_Mem} {T : TT} (hT : TK M T) : z_Ct mX1_springShut [.ref 12, .ref 16] M none (z_set M 16 0 (spF T.2.2.2.2 (M.1 16 0) T.1)) := by
  refine z_entry (by decide +kernel) (Nat.le_of_ble_eq_true rfl) rfl ?_
  show z_Sm mX1_springShut _ _ 0 [some (.ref 12), some (.ref 16), none] [] M
  refine z_iconst (pc := 0) (v := 0) dX1_springShut_0 (by decide) ?_
  refine z_istore_n (pc := 1) dX1_springShut_1 rfl (by decide) ?_
  refine s_X1_springShut_2_16 hT ?_ 0 (Nat.zero_le _) _ _ rfl (by rw [spF, z_set_self])
  refine z_vret (pc := 46) rfl dX1_springShut_46 ?_
  rfl
set_option maxRecDepth 100000 in
set_option maxHeartbeats 400000 in
theorem s_X1_wearDown_2_16 {M M2 : z_Mem} {r : Option Value} {T : TT} (hT : TK M T) (kk : z_Sm mX1_wearDown r M2 59 [some (.ref 12), some (.ref 16), none] [] (z_row M 17 (wnF T (M.1 16 0) (M.1 13) (M.1 17) (T.1)))) (j : Nat) (hj : j ≤ T.1) (ij : Int32) (Mj : z_Mem) (h2 : ij = nI j) (hM : Mj = z_row M 17 (wnF T (M.1 16 0) (M.1 13) (M.1 17) j)) : z_Sm mX1_wearDown r M2 2 [some (.ref 12), some (.ref 16), some (.int ij)] [] Mj := by
  have hP7 := hT.1.2.1
  subst hM
  have hn : ∀ i, i ≠ 17 → (z_row M 17 (wnF T (M.1 16 0) (M.1 13) (M.1 17) j)).1 i = M.1 i := fun i hi => z_row_n _ _ hi
  have hP : (z_row M 17 (wnF T (M.1 16 0) (M.1 13) (M.1 17) j)).1 3 0 = nI T.1 := by rw [hn 3 (by decide)]; exact hT.1.1
  have hT2 : TK (z_row M 17 (wnF T (M.1 16 0) (M.1 13) (M.1 17) j)) T := TK_cong hT (by rw [hn 3 (by decide)]) (hn 4 (by decide)) (hn 5 (by decide)) (hn 6 (by decide)) (hn 7 (by decide))
  refine z_iload_n (pc := 2) dX1_wearDown_2 rfl ?_
  refine z_aload_n (pc := 3) dX1_wearDown_3 rfl ?_
  refine z_getR (pc := 4) 3 q_fX1_15 z_s12 rfl dX1_wearDown_4 ?_
  refine z_getI (pc := 7) q_fX1_39 z_s3 rfl dX1_wearDown_7 ?_
  refine z_icmp_ge (pc := 10) (tgt := 59) dX1_wearDown_10 (by decide) (fun h10 => ?_) (fun h10 => ?_)
  · have hNj : T.1 ≤ j := by
      have := z_ge h10 h2 hP (by omega) (by omega)
      omega
    obtain rfl : j = T.1 := by omega
    exact z_drop 2 kk
  · have hlt : j < T.1 := by
      have := z_lt h10 h2 hP (by omega) (by omega)
      omega
    have hk := (hT.2 j hlt).2
    refine z_aload_n (pc := 13) dX1_wearDown_13 rfl ?_
    refine z_getR (pc := 14) 3 q_fX1_15 z_s12 rfl dX1_wearDown_14 ?_
    refine z_getR (pc := 17) 7 q_fX1_98 z_s3 rfl dX1_wearDown_17 ?_
    refine z_iload_n (pc := 20) dX1_wearDown_20 rfl ?_
    refine z_iald (pc := 21) (j) z_s7 ⟨h2, by omega, by decide⟩ dX1_wearDown_21 ?_
    refine z_iconst (pc := 22) (v := 2) dX1_wearDown_22 (by decide) ?_
    refine z_icmp_ne (pc := 23) (tgt := 53) dX1_wearDown_23 (by decide) (fun h23 => ?_) (fun h23 => ?_)
    · refine z_iinc (pc := 53) dX1_wearDown_53 rfl rfl rfl (by decide) ?_
      refine z_goto (pc := 56) (tgt := 2) dX1_wearDown_56 (by decide) ?_
      rw [hn 7 (by decide), hk] at h23
      exact s_X1_wearDown_2_16 hT kk (j + 1) hlt _ _ (z_n1 h2) (by rw [wnF_no (fun q => h23 q.1)])
    · refine z_aload_n (pc := 26) dX1_wearDown_26 rfl ?_
      refine z_iload_n (pc := 27) dX1_wearDown_27 rfl ?_
      refine z_cV1 (pc := 28) (c_X2_isOpen_16 h2 (by omega)) (q_cX1_50 _ (by decide)) z_s16 rfl rfl dX1_wearDown_28 ?_
      refine z_if_ne (pc := 31) (tgt := 53) dX1_wearDown_31 (by decide) (fun h31 => ?_) (fun h31 => ?_)
      · refine z_iinc (pc := 53) dX1_wearDown_53 rfl rfl rfl (by decide) ?_
        refine z_goto (pc := 56) (tgt := 2) dX1_wearDown_56 (by decide) ?_
        rw [hn 16 (by decide)] at h31
        have hb : bt (M.1 16 0) j = true := by
          cases q : bt (M.1 16 0) j
          · rw [q] at h31; exact absurd rfl h31
          · rfl
        exact s_X1_wearDown_2_16 hT kk (j + 1) hlt _ _ (z_n1 h2) (by rw [wnF_no (fun q => by rw [hb] at q; exact absurd q.2.1 (by decide))])
      · refine z_aload_n (pc := 34) dX1_wearDown_34 rfl ?_
        refine z_iload_n (pc := 35) dX1_wearDown_35 rfl ?_
        refine z_cV1 (pc := 36) (c_X1_loadOf hT2 h2 hlt) (q_cX1_54 _ (by decide)) z_s12 rfl rfl dX1_wearDown_36 ?_
        refine z_iconst (pc := 39) (v := 1) dX1_wearDown_39 (by decide) ?_
        refine z_icmp_lt (pc := 40) (tgt := 53) dX1_wearDown_40 (by decide) (fun h40 => ?_) (fun h40 => ?_)
        · refine z_iinc (pc := 53) dX1_wearDown_53 rfl rfl rfl (by decide) ?_
          refine z_goto (pc := 56) (tgt := 2) dX1_wearDown_56 (by decide) ?_
          rw [hn 13 (by decide)] at h40
          exact s_X1_wearDown_2_16 hT kk (j + 1) hlt _ _ (z_n1 h2) (by rw [wnF_no (fun q => (Int32.not_lt.mpr q.2.2) h40)])
        · refine z_aload_n (pc := 43) dX1_wearDown_43 rfl ?_
          refine z_getR (pc := 44) 17 q_fX1_57 z_s16 rfl dX1_wearDown_44 ?_
          refine z_iload_n (pc := 47) dX1_wearDown_47 rfl ?_
          refine z_dup2 (pc := 48) dX1_wearDown_48 rfl rfl ?_
          refine z_iald (pc := 49) (j) z_s17 ⟨h2, by omega, by decide⟩ dX1_wearDown_49 ?_
          refine z_iconst (pc := 50) (v := 1) dX1_wearDown_50 (by decide) ?_
          refine z_iadd (pc := 51) dX1_wearDown_51 ?_
          refine z_iast (pc := 52) (j) z_s17 ⟨h2, by omega, by decide⟩ dX1_wearDown_52 ?_
          refine z_iinc (pc := 53) dX1_wearDown_53 rfl rfl rfl (by decide) ?_
          refine z_goto (pc := 56) (tgt := 2) dX1_wearDown_56 (by decide) ?_
          rw [hn 13 (by decide)] at h40
          rw [hn 7 (by decide), hk] at h23
          rw [hn 16 (by decide)] at h31
          have hb : bt (M.1 16 0) j = false := by
            cases q : bt (M.1 16 0) j
            · rfl
            · rw [q] at h31; exact absurd h31 (by decide)
          have h23 : T.2.2.2.2 j = 2 := by simpa using h23
          exact s_X1_wearDown_2_16 hT kk (j + 1) hlt _ _ (z_n1 h2) (by rw [← wnF_yes ⟨h23, hb, Int32.not_lt.mp h40⟩, z_set, z_row_1, z_row_row])
termination_by T.1 - j
decreasing_by all_goals omega
set_option maxRecDepth 100000 in
set_option maxHeartbeats 400000 in
theorem c_X1_wearDown_16 {M : z_Mem} {T : TT} (hT : TK M T) : z_Ct mX1_wearDown [.ref 12, .ref 16] M none (z_row M 17 (wnF T (M.1 16 0) (M.1 13) (M.1 17) T.1)) := by
  refine z_entry (by decide +kernel) (Nat.le_of_ble_eq_true rfl) rfl ?_
  show z_Sm mX1_wearDown _ _ 0 [some (.ref 12), some (.ref 16), none] [] M
  refine z_iconst (pc := 0) (v := 0) dX1_wearDown_0 (by decide) ?_
  refine z_istore_n (pc := 1) dX1_wearDown_1 rfl (by decide) ?_
  refine s_X1_wearDown_2_16 hT ?_ 0 (Nat.zero_le _) _ _ rfl (by rw [wnF_0, z_row_same])
  refine z_vret (pc := 59) rfl dX1_wearDown_59 ?_
  rfl
