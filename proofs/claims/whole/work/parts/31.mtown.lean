/-! ===== the model: the few that all use ===== -/
theorem i2l_le (x y : Int32) : x.toInt64 ≤ y.toInt64 ↔ x ≤ y := by
  rw [Int64.le_iff_toInt_le, Int32.le_iff_toInt_le, Int32.toInt_toInt64, Int32.toInt_toInt64]
def inB (a b c : Int64) : Bool := decide (b ≤ a) && decide (a ≤ c)
theorem inB_i {x : Int32} {b c : Int64} (b0 c0 : Int32) (hb : b = b0.toInt64) (hc : c = c0.toInt64) : inB x.toInt64 b c = (!decide (x < b0) && !decide (c0 < x)) := by
  have e1 : decide (b0.toInt64 ≤ x.toInt64) = !decide (x < b0) := by
    by_cases q : x < b0
    · rw [decide_eq_true q, decide_eq_false (fun z => absurd q (Int32.not_lt.mpr ((i2l_le _ _).mp z)))]; rfl
    · rw [decide_eq_false q, decide_eq_true ((i2l_le _ _).mpr (Int32.not_lt.mp q))]; rfl
  have e2 : decide (x.toInt64 ≤ c0.toInt64) = !decide (c0 < x) := by
    by_cases q : c0 < x
    · rw [decide_eq_true q, decide_eq_false (fun z => absurd q (Int32.not_lt.mpr ((i2l_le _ _).mp z)))]; rfl
    · rw [decide_eq_false q, decide_eq_true ((i2l_le _ _).mpr (Int32.not_lt.mp q))]; rfl
  rw [inB, hb, hc, e1, e2]
set_option maxRecDepth 100000 in
set_option maxHeartbeats 400000 in
theorem c_X7_in {M : z_Mem} {a b c : Int64} : z_Ct mX7_in [.long a, .long b, .long c] M (some (.int (if inB a b c then 1 else 0))) M := by
  refine z_entry (by decide +kernel) (Nat.le_of_ble_eq_true rfl) rfl ?_
  show z_Sm mX7_in _ _ 0 [some (.long a), none, some (.long b), none, some (.long c), none] [] M
  refine z_lload_n (pc := 0) dX7_in_0 rfl ?_
  refine z_lload_n (pc := 1) dX7_in_1 rfl ?_
  refine z_lcmp (pc := 2) dX7_in_2 ?_
  refine z_if_lt (pc := 3) (tgt := 17) dX7_in_3 (by decide) (fun h3 => ?_) (fun h3 => ?_)
  · refine z_iconst (pc := 17) (v := 0) dX7_in_17 (by decide) ?_
    refine z_zret (pc := 18) rfl dX7_in_18 ?_ ?_ ?_
    · rfl
    · rw [lg_cmp_lt] at h3
      rw [inB, decide_eq_false (Int64.not_le.mpr h3)]; rfl
    · rfl
  · refine z_lload_n (pc := 6) dX7_in_6 rfl ?_
    refine z_lload (pc := 7) dX7_in_7 rfl ?_
    refine z_lcmp (pc := 9) dX7_in_9 ?_
    refine z_if_gt (pc := 10) (tgt := 17) dX7_in_10 (by decide) (fun h10 => ?_) (fun h10 => ?_)
    · refine z_iconst (pc := 17) (v := 0) dX7_in_17 (by decide) ?_
      refine z_zret (pc := 18) rfl dX7_in_18 ?_ ?_ ?_
      · rfl
      · rw [lg_cmp_lt] at h3
        rw [lg_cmp_gt] at h10
        rw [inB, decide_eq_false (Int64.not_le.mpr h10), Bool.and_false]; rfl
      · rfl
    · refine z_iconst (pc := 13) (v := 1) dX7_in_13 (by decide) ?_
      refine z_goto (pc := 14) (tgt := 18) dX7_in_14 (by decide) ?_
      refine z_zret (pc := 18) rfl dX7_in_18 ?_ ?_ ?_
      · rfl
      · rw [lg_cmp_lt] at h3
        rw [lg_cmp_gt] at h10
        rw [inB, decide_eq_true (Int64.not_lt.mp h3), decide_eq_true (Int64.not_lt.mp h10)]; rfl
      · rfl
set_option maxRecDepth 100000 in
set_option maxHeartbeats 400000 in
theorem c_X7_has {M : z_Mem} {x y : Int32} {k : Nat} (hy : y = nI k) (hk : k < 32) : z_Ct mX7_has [.int x, .int y] M (some (.int (if bt x k then 1 else 0))) M := by
  have e := z_has x hk
  rw [← hy] at e
  refine z_entry (by decide +kernel) (Nat.le_of_ble_eq_true rfl) rfl ?_
  show z_Sm mX7_has _ _ 0 [some (.int x), some (.int y)] [] M
  refine z_iload_n (pc := 0) dX7_has_0 rfl ?_
  refine z_iload_n (pc := 1) dX7_has_1 rfl ?_
  refine z_ishr (pc := 2) dX7_has_2 ?_
  refine z_iconst (pc := 3) (v := 1) dX7_has_3 (by decide) ?_
  refine z_iand (pc := 4) dX7_has_4 ?_
  refine z_iconst (pc := 5) (v := 1) dX7_has_5 (by decide) ?_
  refine z_icmp_ne (pc := 6) (tgt := 13) dX7_has_6 (by decide) (fun h6 => ?_) (fun h6 => ?_)
  · refine z_iconst (pc := 13) (v := 0) dX7_has_13 (by decide) ?_
    refine z_zret (pc := 14) rfl dX7_has_14 ?_ ?_ ?_
    · rfl
    · rw [e] at h6
      cases q : bt x k
      · rfl
      · rw [q] at h6; exact absurd rfl h6
    · rfl
  · refine z_iconst (pc := 9) (v := 1) dX7_has_9 (by decide) ?_
    refine z_goto (pc := 10) (tgt := 14) dX7_has_10 (by decide) ?_
    refine z_zret (pc := 14) rfl dX7_has_14 ?_ ?_ ?_
    · rfl
    · rw [e] at h6
      cases q : bt x k
      · rw [q] at h6; exact absurd h6 (by decide)
      · rfl
    · rfl
set_option maxRecDepth 100000 in
set_option maxHeartbeats 400000 in
theorem s_X7_ones_4 {M M2 : z_Mem} {r : Option Value} {x : Int32} (kk : z_Sm mX7_ones r M2 24 [some (.int x), some (.int (nI (pc (7) x))), none] [] (M)) (j : Nat) (hj : j ≤ 7) (ij : Int32) (v : Int32) (h2 : ij = nI j) (hv_v : v = nI (pc j x)) : z_Sm mX7_ones r M2 4 [some (.int x), some (.int v), some (.int ij)] [] M := by
  refine z_iload_n (pc := 4) dX7_ones_4 rfl ?_
  refine z_bipush (pc := 5) (v := 7) dX7_ones_5 (by decide) ?_
  refine z_icmp_ge (pc := 7) (tgt := 24) dX7_ones_7 (by decide) (fun h7 => ?_) (fun h7 => ?_)
  · have hNj : 7 ≤ j := by
      have := z_ge h7 h2 (show (7 : Int32) = nI 7 from rfl) (by omega) (by omega)
      omega
    obtain rfl : j = 7 := by omega
    subst hv_v
    exact z_drop 2 kk
  · have hlt : j < 7 := by
      have := z_lt h7 h2 (show (7 : Int32) = nI 7 from rfl) (by omega) (by omega)
      omega
    refine z_iload_n (pc := 10) dX7_ones_10 rfl ?_
    refine z_iload_n (pc := 11) dX7_ones_11 rfl ?_
    refine z_iload_n (pc := 12) dX7_ones_12 rfl ?_
    refine z_ishr (pc := 13) dX7_ones_13 ?_
    refine z_iconst (pc := 14) (v := 1) dX7_ones_14 (by decide) ?_
    refine z_iand (pc := 15) dX7_ones_15 ?_
    refine z_iadd (pc := 16) dX7_ones_16 ?_
    refine z_istore_n (pc := 17) dX7_ones_17 rfl (by decide) ?_
    refine z_iinc (pc := 18) dX7_ones_18 rfl rfl rfl (by decide) ?_
    refine z_goto (pc := 21) (tgt := 4) dX7_ones_21 (by decide) ?_
    have e := z_has x (show j < 32 by omega)
    rw [← h2] at e
    exact s_X7_ones_4  kk (j + 1) hlt _ _ (z_n1 h2) (by rw [e, hv_v, pc]; cases bt x j <;> rw [← nI_add] <;> rfl)
termination_by 7 - j
decreasing_by all_goals omega
set_option maxRecDepth 100000 in
set_option maxHeartbeats 400000 in
theorem c_X7_ones {M : z_Mem} {x : Int32} : z_Ct mX7_ones [.int x] M (some (.int (nI (pc 7 x)))) M := by
  refine z_entry (by decide +kernel) (Nat.le_of_ble_eq_true rfl) rfl ?_
  show z_Sm mX7_ones _ _ 0 [some (.int x), none, none] [] M
  refine z_iconst (pc := 0) (v := 0) dX7_ones_0 (by decide) ?_
  refine z_istore_n (pc := 1) dX7_ones_1 rfl (by decide) ?_
  refine z_iconst (pc := 2) (v := 0) dX7_ones_2 (by decide) ?_
  refine z_istore_n (pc := 3) dX7_ones_3 rfl (by decide) ?_
  refine s_X7_ones_4 ?_ 0 (by omega) _ _ rfl rfl
  refine z_iload_n (pc := 24) dX7_ones_24 rfl ?_
  refine z_iret (pc := 25) rfl dX7_ones_25 ?_ ?_
  · rfl
  · rfl
set_option maxRecDepth 100000 in
set_option maxHeartbeats 400000 in
theorem c_X7_isThing {M : z_Mem} {x : Int32} : z_Ct mX7_isThing [.int x] M (some (.int (if thg x then 1 else 0))) M := by
  have e0 : inB x.toInt64 0 5 = thg x := by
    rw [inB_i 0 5 (by decide) (by decide)]
    have e : (!decide ((5 : Int32) < x)) = decide (x < 6) := by
      have h5 : (5 : Int32).toInt = 5 := by decide
      have h6 : (6 : Int32).toInt = 6 := by decide
      by_cases q : (5 : Int32) < x
      · rw [decide_eq_true q, decide_eq_false]
        · rfl
        · intro z
          rw [Int32.lt_iff_toInt_lt] at q z
          omega
      · rw [decide_eq_false q, decide_eq_true]
        · rfl
        · rw [Int32.lt_iff_toInt_lt] at q ⊢
          omega
    rw [e]
    rfl

  refine z_entry (by decide +kernel) (Nat.le_of_ble_eq_true rfl) rfl ?_
  show z_Sm mX7_isThing _ _ 0 [some (.int x)] [] M
  refine z_iload_n (pc := 0) dX7_isThing_0 rfl ?_
  refine z_i2l (pc := 1) dX7_isThing_1 rfl ?_
  refine z_lconst (pc := 2) (v := 0) dX7_isThing_2 (by decide) ?_
  refine z_ldc2 (pc := 3) q_kX7_117 dX7_isThing_3 ?_
  refine z_cS3 (pc := 6) c_X7_in (q_cX7_70 _ (by decide)) rfl dX7_isThing_6 ?_
  refine z_zret (pc := 9) rfl dX7_isThing_9 ?_ ?_ ?_
  · rw [e0]
    cases thg x <;> rfl
  · rw [e0]
  · rfl
/-- the model's town -/
def TN (M : z_Mem) (T : TT) : Prop := M.1 59 0 = nI T.1 ∧ T.1 ≤ 7 ∧ ∀ k, k < T.1 → M.1 60 k = nI (T.2.1 k) ∧ M.1 61 k = nI (T.2.2.1 k) ∧ T.2.1 k < 6 ∧ T.2.2.1 k < 6 ∧ M.1 62 k = T.2.2.2.1 k ∧ M.1 63 k = T.2.2.2.2 k
theorem TN.ab {M : z_Mem} {T : TT} (h : TN M T) : ∀ k, k < T.1 → T.2.1 k < 6 ∧ T.2.2.1 k < 6 := fun k hk => ⟨(h.2.2 k hk).2.2.1, (h.2.2 k hk).2.2.2.1⟩
theorem rOut_fix {o : Int32} {a b : Nat → Nat} {P : Nat} {x : Int32} {n : Nat} (h : rOut o a b P (n + 1) x = rOut o a b P n x) : ∀ m, n ≤ m → rOut o a b P (m + 1) x = rOut o a b P m x := by
  intro m hm
  induction m with
  | zero => obtain rfl : n = 0 := by omega
            exact h
  | succ m ih =>
    by_cases e : n = m + 1
    · subst e; exact h
    · have := ih (by omega)
      show rIn o a b P (rOut o a b P (m + 1) x) = rIn o a b P (rOut o a b P m x)
      rw [this]
theorem rOut_grow {o : Int32} {a b : Nat → Nat} {P t : Nat} (ht : t < 6) (hab : ∀ k, k < P → a k < 6 ∧ b k < 6) (n : Nat) : rOut o a b P (n + 1) (em t) = rOut o a b P n (em t) ∨ pc 6 (rOut o a b P n (em t)) + 1 ≤ pc 6 (rOut o a b P (n + 1) (em t)) := by
  by_cases h : ∀ i, i < 32 → bt (rOut o a b P (n + 1) (em t)) i = bt (rOut o a b P n (em t)) i
  · exact Or.inl (b_ext h)
  · refine Or.inr ?_
    have ⟨i, hi⟩ : ∃ i, ¬ (i < 32 → bt (rOut o a b P (n + 1) (em t)) i = bt (rOut o a b P n (em t)) i) := Classical.not_forall.mp h
    have hi32 : i < 32 := Classical.byContradiction fun q => hi (fun z => absurd z q)
    have hne : ¬ bt (rOut o a b P (n + 1) (em t)) i = bt (rOut o a b P n (em t)) i := fun z => hi (fun _ => z)
    have mono : ∀ j, bt (rOut o a b P n (em t)) j = true → bt (rOut o a b P (n + 1) (em t)) j = true := fun j hj => rIn_mono hj P
    have h0 : bt (rOut o a b P n (em t)) i = false := by
      cases e : bt (rOut o a b P n (em t)) i
      · rfl
      · exact absurd ((mono i e).trans e.symm) hne
    have h1 : bt (rOut o a b P (n + 1) (em t)) i = true := by
      cases e : bt (rOut o a b P (n + 1) (em t)) i
      · exact absurd (e.trans h0.symm) hne
      · rfl
    have hi6 : i < 6 := by
      by_cases q : i < 6
      · exact q
      · rw [rOut_lo ht hab (n + 1) i (by omega) hi32] at h1; cases h1
    exact pc_lt mono h0 h1 6 hi6
/-- six rounds reach no more than five -/
theorem rOut_6 {o : Int32} {a b : Nat → Nat} {P t : Nat} (ht : t < 6) (hab : ∀ k, k < P → a k < 6 ∧ b k < 6) : rOut o a b P 6 (em t) = rOut o a b P 5 (em t) := by
  have g := rOut_grow (o := o) ht hab
  have l := pc_le (rOut o a b P 6 (em t)) 6
  have s : 1 ≤ pc 6 (rOut o a b P 0 (em t)) := pc_pos (k := t) (by rw [rOut, em_bt (by omega) (by omega)]; simp) 6 ht
  rcases g 5 with h | h5
  · exact h
  rcases g 4 with h | h4
  · exact rOut_fix h 5 (by omega)
  rcases g 3 with h | h3
  · exact rOut_fix h 5 (by omega)
  rcases g 2 with h | h2
  · exact rOut_fix h 5 (by omega)
  rcases g 1 with h | h1
  · exact rOut_fix h 5 (by omega)
  rcases g 0 with h | h0
  · exact rOut_fix h 5 (by omega)
  simp only [Nat.reduceAdd, Nat.zero_add] at h0 h1 h2 h3 h4 h5
  omega
set_option maxRecDepth 100000 in
set_option maxHeartbeats 400000 in
theorem c_X7_isPin {M : z_Mem} {T : TT} (hT : TN M T) {x : Int32} : z_Ct mX7_isPin [.ref 59, .int x] M (some (.int (if pnB x T.1 then 1 else 0))) M := by
  obtain ⟨hP, hP7, -⟩ := hT
  have e2 : inB x.toInt64 0 ((M.1 59 0 - 1).toInt64) = pnB x T.1 := by
    rw [inB_i 0 (M.1 59 0 - 1) (by decide) rfl, pnB, hP]
    have e : (!decide (nI T.1 - 1 < x)) = decide (x < nI T.1) := by
      have h1 : (nI T.1 - nI 1).toInt = (T.1 : Int) - 1 := pk_sub_toInt (by omega) (by decide)
      have h2 : (nI T.1).toInt = (T.1 : Int) := nI_toInt (by omega)
      by_cases q : nI T.1 - 1 < x
      · rw [decide_eq_true q, decide_eq_false]
        · rfl
        · intro z
          rw [Int32.lt_iff_toInt_lt] at q z
          rw [show (1 : Int32) = nI 1 from rfl, h1] at q
          rw [h2] at z
          omega
      · rw [decide_eq_false q, decide_eq_true]
        · rfl
        · rw [Int32.lt_iff_toInt_lt] at q ⊢
          rw [show (1 : Int32) = nI 1 from rfl, h1] at q
          rw [h2]
          omega
    rw [e]

  refine z_entry (by decide +kernel) (Nat.le_of_ble_eq_true rfl) rfl ?_
  show z_Sm mX7_isPin _ _ 0 [some (.ref 59), some (.int x)] [] M
  refine z_iload_n (pc := 0) dX7_isPin_0 rfl ?_
  refine z_i2l (pc := 1) dX7_isPin_1 rfl ?_
  refine z_lconst (pc := 2) (v := 0) dX7_isPin_2 (by decide) ?_
  refine z_aload_n (pc := 3) dX7_isPin_3 rfl ?_
  refine z_getI (pc := 4) q_fX7_105 z_s59 rfl dX7_isPin_4 ?_
  refine z_iconst (pc := 7) (v := 1) dX7_isPin_7 (by decide) ?_
  refine z_isub (pc := 8) dX7_isPin_8 ?_
  refine z_i2l (pc := 9) dX7_isPin_9 rfl ?_
  refine z_cS3 (pc := 10) c_X7_in (q_cX7_70 _ (by decide)) rfl dX7_isPin_10 ?_
  refine z_zret (pc := 13) rfl dX7_isPin_13 ?_ ?_ ?_
  · rw [e2]
    cases pnB x T.1 <;> rfl
  · rw [e2]
  · rfl
set_option maxRecDepth 100000 in
set_option maxHeartbeats 400000 in
theorem c_X7_all {M : z_Mem} {T : TT} (hT : TN M T) : z_Ct mX7_all [.ref 59] M (some (.int (em T.1 - 1))) M := by
  refine z_entry (by decide +kernel) (Nat.le_of_ble_eq_true rfl) rfl ?_
  show z_Sm mX7_all _ _ 0 [some (.ref 59)] [] M
  refine z_iconst (pc := 0) (v := 1) dX7_all_0 (by decide) ?_
  refine z_aload_n (pc := 1) dX7_all_1 rfl ?_
  refine z_getI (pc := 2) q_fX7_105 z_s59 rfl dX7_all_2 ?_
  refine z_ishl (pc := 5) dX7_all_5 ?_
  refine z_iconst (pc := 6) (v := 1) dX7_all_6 (by decide) ?_
  refine z_isub (pc := 7) dX7_all_7 ?_
  refine z_iret (pc := 8) rfl dX7_all_8 ?_ ?_
  · rw [hT.1]; rfl
  · rfl
