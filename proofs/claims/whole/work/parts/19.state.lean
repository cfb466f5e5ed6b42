theorem VP.go {l : Nat → Int32} {n q : Nat} (hv : VP l n q) (c : Int32) (hc : l q = c) (h0 : ¬ sz c = 0) (d : Nat) (hd : 0 < d) (hd2 : d < sz c) : q + d < n ∧ okG l n q (q + d) = true := by
  subst hc
  exact (hv h0).2 (q + d) (by omega) (by omega)
/-- what a town out of a text without a fault keeps to -/
def wfT (T : TT) (U : UT) (D : DT) : Prop := (T.1 ≤ 7 ∧ ∀ k, k < T.1 → T.2.1 k < 6 ∧ T.2.2.1 k < 6 ∧ T.2.1 k ≠ T.2.2.1 k) ∧ (U.1 ≤ 4 ∧ ∀ k, k < U.1 → U.2.1 k < 6) ∧ (D.1 ≤ 3 ∧ ∀ k, k < D.1 → D.2.1 k < 6 ∧ D.2.2 k < 6 ∧ D.2.1 k ≠ D.2.2 k)
theorem fa_wf {l : Nat → Int32} {n : Nat} (hV : ∀ q, 1 ≤ q → q < n → VP l n q) : wfT (twP l n) (twU l n) (twD l n) ∧ (∀ k, k < cN l 78 n → fg l n (nP l 78 n k + 1) = nI ((twP l n).2.1 k) ∧ fg l n (nP l 78 n k + 2) = nI ((twP l n).2.2.1 k)) ∧ (∀ k, k < cN l 87 n → fg l n (nP l 87 n k + 1) = nI ((twU l n).2.1 k)) ∧ (∀ k, k < cN l 68 n → fg l n (nP l 68 n k + 1) = nI ((twD l n).2.1 k) ∧ fg l n (nP l 68 n k + 2) = nI ((twD l n).2.2 k)) := by
  have hA : ∀ k, k < cN l 78 n → (fg l n (nP l 78 n k + 1) = nI (fgN l n (nP l 78 n k + 1)) ∧ fgN l n (nP l 78 n k + 1) < 6) ∧ (fg l n (nP l 78 n k + 2) = nI (fgN l n (nP l 78 n k + 2)) ∧ fgN l n (nP l 78 n k + 2) < 6 ∧ ¬ fg l n (nP l 78 n k + 2) = fg l n (nP l 78 n k + 1)) := fun k hk => by
    obtain ⟨h1, h2, h3⟩ := nP_at n k hk
    have hv := hV _ h1 h2
    exact ⟨okG_1 (hv.go 78 h3 (by decide) 1 (by decide) (by decide)).2, okG_2 (by rw [h3]; decide) (hv.go 78 h3 (by decide) 2 (by decide) (by decide)).2⟩
  have hB : ∀ k, k < cN l 87 n → (fg l n (nP l 87 n k + 1) = nI (fgN l n (nP l 87 n k + 1)) ∧ fgN l n (nP l 87 n k + 1) < 6) := fun k hk => by
    obtain ⟨h1, h2, h3⟩ := nP_at n k hk
    exact okG_1 ((hV _ h1 h2).go 87 h3 (by decide) 1 (by decide) (by decide)).2
  have hC : ∀ k, k < cN l 68 n → (fg l n (nP l 68 n k + 1) = nI (fgN l n (nP l 68 n k + 1)) ∧ fgN l n (nP l 68 n k + 1) < 6) ∧ (fg l n (nP l 68 n k + 2) = nI (fgN l n (nP l 68 n k + 2)) ∧ fgN l n (nP l 68 n k + 2) < 6 ∧ ¬ fg l n (nP l 68 n k + 2) = fg l n (nP l 68 n k + 1)) := fun k hk => by
    obtain ⟨h1, h2, h3⟩ := nP_at n k hk
    have hv := hV _ h1 h2
    exact ⟨okG_1 (hv.go 68 h3 (by decide) 1 (by decide) (by decide)).2, okG_2 (by rw [h3]; decide) (hv.go 68 h3 (by decide) 2 (by decide) (by decide)).2⟩
  refine ⟨⟨⟨cN_most (by decide) hV n (Nat.le_refl n), fun k hk => ?_⟩, ⟨cN_most (by decide) hV n (Nat.le_refl n), fun k hk => (hB k hk).2⟩, ⟨cN_most (by decide) hV n (Nat.le_refl n), fun k hk => ?_⟩⟩, fun k hk => ⟨(hA k hk).1.1, (hA k hk).2.1⟩, fun k hk => (hB k hk).1, fun k hk => ⟨(hC k hk).1.1, (hC k hk).2.1⟩⟩
  · obtain ⟨⟨a1, a2⟩, b1, b2, b3⟩ := hA k hk
    exact ⟨a2, b2, fun e => b3 (by rw [b1, a1]; exact congrArg nI e.symm)⟩
  · obtain ⟨⟨a1, a2⟩, b1, b2, b3⟩ := hC k hk
    exact ⟨a2, b2, fun e => b3 (by rw [b1, a1]; exact congrArg nI e.symm)⟩
set_option maxRecDepth 100000 in
set_option maxHeartbeats 400000 in
theorem c_X4_readFrom {M : z_Mem} {l : Nat → Int32} {n : Nat} (hS : ScAt M l n) (hf : faF l n = -9) : ∃ M1, z_Ct mX4_readFrom [.ref 3, .ref 1] M none M1 ∧ TK M1 (twP l n) ∧ UK M1 (twU l n) ∧ DK M1 (twD l n) ∧ Sb [3, 4, 5, 6, 7, 8, 9, 10, 11] M M1 := by
  obtain ⟨hn1, hV⟩ := faF_ok hS.2.1 hf
  have hs0 : Sb [3, 4, 5, 6, 7, 8, 9, 10, 11] M (z_set (z_set (z_set M 3 0 0) 3 5 0) 3 8 0) := ((Sb.set _ (by simp)).tr (Sb.set _ (by simp))).tr (Sb.set _ (by simp))
  have e1 : ∀ c, cN l c 1 = 0 := fun c => by rw [cN, cN, if_neg (fun q => absurd q.1 (by decide))]
  obtain ⟨M1, hsm, ⟨a1, a2⟩, ⟨b1, b2⟩, ⟨c1, c2⟩, hs⟩ := s_X4_readFrom_17 hV (ScAt_sb hS hs0 (by simp) (by simp)) 1 (Nat.le_refl 1) hn1 1 (z_set (z_set (z_set M 3 0 0) 3 5 0) 3 8 0) rfl
    ⟨by rw [e1]; simp [z_set, z_row, upd, nI_0], fun k hk => by rw [e1] at hk; omega⟩ ⟨by rw [e1]; simp [z_set, z_row, upd, nI_0], fun k hk => by rw [e1] at hk; omega⟩ ⟨by rw [e1]; simp [z_set, z_row, upd, nI_0], fun k hk => by rw [e1] at hk; omega⟩
  obtain ⟨⟨w1, w2, w3⟩, f1, f2, f3⟩ := fa_wf hV
  refine ⟨M1, ?_, ⟨⟨a1, w1.1, fun k hk => ?_⟩, fun k hk => ⟨(a2 k hk).2.2.1, (a2 k hk).2.2.2⟩⟩, ⟨b1, w2.1, fun k hk => ⟨(b2 k hk).1.trans (f2 k hk), w2.2 k hk, (b2 k hk).2⟩⟩, ⟨c1, w3.1, fun k hk => ⟨(c2 k hk).1.trans (f3 k hk).1, (c2 k hk).2.trans (f3 k hk).2, (w3.2 k hk).1, (w3.2 k hk).2.1⟩⟩, hs0.tr hs⟩
  · refine z_entry (by decide +kernel) (Nat.le_of_ble_eq_true rfl) rfl ?_
    show z_Sm mX4_readFrom _ _ 0 [some (.ref 3), some (.ref 1), none, none] [] M
    refine z_aload_n (pc := 0) dX4_readFrom_0 rfl ?_
    refine z_iconst (pc := 1) (v := 0) dX4_readFrom_1 (by decide) ?_
    refine z_putI (pc := 2) q_fX4_9 q_p4_0 z_s3 rfl dX4_readFrom_2 ?_
    refine z_aload_n (pc := 5) dX4_readFrom_5 rfl ?_
    refine z_iconst (pc := 6) (v := 0) dX4_readFrom_6 (by decide) ?_
    refine z_putI (pc := 7) q_fX4_28 q_p4_5 z_s3 rfl dX4_readFrom_7 ?_
    refine z_aload_n (pc := 10) dX4_readFrom_10 rfl ?_
    refine z_iconst (pc := 11) (v := 0) dX4_readFrom_11 (by decide) ?_
    refine z_putI (pc := 12) q_fX4_37 q_p4_8 z_s3 rfl dX4_readFrom_12 ?_
    refine z_iconst (pc := 15) (v := 1) dX4_readFrom_15 (by decide) ?_
    refine z_istore_n (pc := 16) dX4_readFrom_16 rfl (by decide) ?_
    exact hsm
  · exact ⟨(a2 k hk).1.trans (f1 k hk).1, (a2 k hk).2.1.trans (f1 k hk).2, (w1.2 k hk).1, (w1.2 k hk).2.1⟩
/-! ===== the class's cells as one state ===== -/
/-- a slot -/
def KpAt (M : z_Mem) (s : Nat) : Option PLt → Prop
  | none => M.1 53 s = 0
  | some pl => M.1 53 s = 1 ∧ PlAt M (49 + 2 * s) pl
theorem KpAt_sb {ids : List Nat} {M N : z_Mem} {s : Nat} {k : Option PLt} (h : KpAt M s k) (sb : Sb ids M N) (h53 : 53 ∉ ids) (h1 : 49 + 2 * s ∉ ids) (h2 : 49 + 2 * s + 1 ∉ ids) : KpAt N s k := by
  cases k with
  | none => exact (congrFun (sb.1 53 h53) s).trans h
  | some pl => exact ⟨(congrFun (sb.1 53 h53) s).trans h.1, PlAt_sb h.2 sb h1 h2⟩
def RX (M : z_Mem) (l : Nat → Int32) (n : Nat) (T : TT) (U : UT) (D : DT) (p : PLt) (A : List PLt) (k0 k1 : Option PLt) (L : List (Int32 × Int32)) (sd : Int64) : Prop :=
  ScAt M l n ∧ TK M T ∧ UK M U ∧ DK M D ∧ PlAt M 14 p ∧ AcAt M A ∧ KpAt M 0 k0 ∧ KpAt M 1 k1 ∧ TrAt M L ∧ M.2 0 11 = sd
/-- what the other side's cells hold stays -/
def Fx (M N : z_Mem) : Prop := ∀ i, 59 ≤ i → N.1 i = M.1 i ∧ N.2 i = M.2 i
theorem Fx.rf {M : z_Mem} : Fx M M := fun _ _ => ⟨rfl, rfl⟩
theorem Fx.tr {M N K : z_Mem} (h : Fx M N) (h2 : Fx N K) : Fx M K := fun i hi => ⟨(h2 i hi).1.trans (h i hi).1, (h2 i hi).2.trans (h i hi).2⟩
theorem Sb.fx {ids : List Nat} {M N : z_Mem} (s : Sb ids M N) (hi : ∀ i ∈ ids, i < 59) : Fx M N := fun i h => ⟨s.1 i (fun q => by have := hi i q; omega), by rw [s.2]⟩
/-- the rows that only think change: the state stays -/
theorem RX_th {ids : List Nat} {M N : z_Mem} {l : Nat → Int32} {n : Nat} {T : TT} {U : UT} {D : DT} {p : PLt} {A : List PLt} {k0 k1 : Option PLt} {L : List (Int32 × Int32)} {sd : Int64} (h : RX M l n T U D p A k0 k1 L sd) (s : Sb ids M N) (hi : ∀ i ∈ ids, i = 13 ∨ i = 16 ∨ i = 17 ∨ i = 57 ∨ i = 58) : RX N l n T U D p A k0 k1 L sd := by
  obtain ⟨h1, h2, h3, h4, h5, h6, h7, h8, h9, h10⟩ := h
  have no : ∀ i, i ≠ 13 → i ≠ 16 → i ≠ 17 → i ≠ 57 → i ≠ 58 → i ∉ ids := fun i a b c d e q => by have := hi i q; omega
  exact ⟨ScAt_sb h1 s (no _ (by decide) (by decide) (by decide) (by decide) (by decide)) (no _ (by decide) (by decide) (by decide) (by decide) (by decide)), TK_sb h2 s (fun i q => by have := hi i q; omega), UK_sb h3 s (no _ (by decide) (by decide) (by decide) (by decide) (by decide)) (no _ (by decide) (by decide) (by decide) (by decide) (by decide)) (no _ (by decide) (by decide) (by decide) (by decide) (by decide)), DK_sb h4 s (no _ (by decide) (by decide) (by decide) (by decide) (by decide)) (no _ (by decide) (by decide) (by decide) (by decide) (by decide)) (no _ (by decide) (by decide) (by decide) (by decide) (by decide)),
    PlAt_sb h5 s (no _ (by decide) (by decide) (by decide) (by decide) (by decide)) (no _ (by decide) (by decide) (by decide) (by decide) (by decide)), AcAt_sb h6 s (fun i q => by have := hi i q; omega), KpAt_sb h7 s (no _ (by decide) (by decide) (by decide) (by decide) (by decide)) (no _ (by decide) (by decide) (by decide) (by decide) (by decide)) (no _ (by decide) (by decide) (by decide) (by decide) (by decide)), KpAt_sb h8 s (no _ (by decide) (by decide) (by decide) (by decide) (by decide)) (no _ (by decide) (by decide) (by decide) (by decide) (by decide)) (no _ (by decide) (by decide) (by decide) (by decide) (by decide)),
    TrAt_sb h9 s (no _ (by decide) (by decide) (by decide) (by decide) (by decide)) (no _ (by decide) (by decide) (by decide) (by decide) (by decide)) (no _ (by decide) (by decide) (by decide) (by decide) (by decide)), by rw [s.2]; exact h10⟩
/-- the plight that is and the row of acts change -/
theorem RX_mid {ids : List Nat} {M N : z_Mem} {l : Nat → Int32} {n : Nat} {T : TT} {U : UT} {D : DT} {p q : PLt} {A B : List PLt} {k0 k1 : Option PLt} {L : List (Int32 × Int32)} {sd : Int64} (h : RX M l n T U D p A k0 k1 L sd) (s : Sb ids M N) (hi : ∀ i ∈ ids, 12 < i ∧ i < 48) (hq : PlAt N 14 q) (hB : AcAt N B) : RX N l n T U D q B k0 k1 L sd := by
  obtain ⟨h1, h2, h3, h4, h5, h6, h7, h8, h9, h10⟩ := h
  have no : ∀ i, (i ≤ 12 ∨ 48 ≤ i) → i ∉ ids := fun i a q => by have := hi i q; omega
  exact ⟨ScAt_sb h1 s (no _ (by decide)) (no _ (by decide)), TK_sb h2 s (fun i q => by have := hi i q; omega), UK_sb h3 s (no _ (by decide)) (no _ (by decide)) (no _ (by decide)), DK_sb h4 s (no _ (by decide)) (no _ (by decide)) (no _ (by decide)), hq, hB, KpAt_sb h7 s (no _ (by decide)) (no _ (by decide)) (no _ (by decide)), KpAt_sb h8 s (no _ (by decide)) (no _ (by decide)) (no _ (by decide)), TrAt_sb h9 s (no _ (by decide)) (no _ (by decide)) (no _ (by decide)), by rw [s.2]; exact h10⟩
theorem z_ring_lt : ∀ i ∈ z_ring, 17 < i ∧ i < 48 := by decide
/-- a number of a thing, of a pin -/
def thg (x : Int32) : Bool := !decide (x < 0) && decide (x < 6)
def pnB (x : Int32) (P : Nat) : Bool := !decide (x < 0) && decide (x < nI P)
theorem thg_at {x : Int32} (h : thg x = true) : x.toNatClampNeg < 6 ∧ x = nI x.toNatClampNeg := by
  simp only [thg, Bool.and_eq_true, Bool.not_eq_true', decide_eq_true_eq, decide_eq_false_iff_not] at h
  obtain ⟨j, hj, e⟩ := nI_of h.1
  have := h.2
  rw [e] at this ⊢
  rw [nI_clamp hj]
  exact ⟨(nI_ltI (b := 6) hj (by decide)).mp this, rfl⟩
theorem pnB_at {x : Int32} {P : Nat} (hP : P ≤ 7) (h : pnB x P = true) : x.toNatClampNeg < P ∧ x = nI x.toNatClampNeg := by
  simp only [pnB, Bool.and_eq_true, Bool.not_eq_true', decide_eq_true_eq, decide_eq_false_iff_not] at h
  obtain ⟨j, hj, e⟩ := nI_of h.1
  have := h.2
  rw [e] at this ⊢
  rw [nI_clamp hj]
  exact ⟨(nI_ltI hj (by omega)).mp this, rfl⟩
def rfF (x y : Int32) : Int32 := if thg x && thg y then (if x = y then -2 else 0) else -1
set_option maxRecDepth 100000 in
set_option maxHeartbeats 400000 in
theorem c_X6_isThing {M : z_Mem} {x : Int32} : z_Ct mX6_isThing [.int x] M (some (.int (if thg x then 1 else 0))) M := by
  refine z_entry (by decide +kernel) (Nat.le_of_ble_eq_true rfl) rfl ?_
  show z_Sm mX6_isThing _ _ 0 [some (.int x)] [] M
  refine z_iload_n (pc := 0) dX6_isThing_0 rfl ?_
  refine z_if_lt (pc := 1) (tgt := 14) dX6_isThing_1 (by decide) (fun h1 => ?_) (fun h1 => ?_)
  · refine z_iconst (pc := 14) (v := 0) dX6_isThing_14 (by decide) ?_
    refine z_zret (pc := 15) rfl dX6_isThing_15 ?_ ?_ ?_
    · rfl
    · rw [thg, decide_eq_true h1]; rfl
    · rfl
  · refine z_iload_n (pc := 4) dX6_isThing_4 rfl ?_
    refine z_bipush (pc := 5) (v := 6) dX6_isThing_5 (by decide) ?_
    refine z_icmp_ge (pc := 7) (tgt := 14) dX6_isThing_7 (by decide) (fun h7 => ?_) (fun h7 => ?_)
    · refine z_iconst (pc := 14) (v := 0) dX6_isThing_14 (by decide) ?_
      refine z_zret (pc := 15) rfl dX6_isThing_15 ?_ ?_ ?_
      · rfl
      · rw [thg, decide_eq_false (Int32.not_lt.mpr h7)]; simp
      · rfl
    · refine z_iconst (pc := 10) (v := 1) dX6_isThing_10 (by decide) ?_
      refine z_goto (pc := 11) (tgt := 15) dX6_isThing_11 (by decide) ?_
      refine z_zret (pc := 15) rfl dX6_isThing_15 ?_ ?_ ?_
      · rfl
      · rw [thg, decide_eq_false h1, decide_eq_true (Int32.not_le.mp h7)]; rfl
      · rfl
set_option maxRecDepth 100000 in
set_option maxHeartbeats 400000 in
theorem c_X6_isPin {M : z_Mem} {P : Nat} (hP : M.1 3 0 = nI P) {x : Int32} : z_Ct mX6_isPin [.ref 0, .int x] M (some (.int (if pnB x P then 1 else 0))) M := by
  refine z_entry (by decide +kernel) (Nat.le_of_ble_eq_true rfl) rfl ?_
  show z_Sm mX6_isPin _ _ 0 [some (.ref 0), some (.int x)] [] M
  refine z_iload_n (pc := 0) dX6_isPin_0 rfl ?_
  refine z_if_lt (pc := 1) (tgt := 19) dX6_isPin_1 (by decide) (fun h1 => ?_) (fun h1 => ?_)
  · refine z_iconst (pc := 19) (v := 0) dX6_isPin_19 (by decide) ?_
    refine z_zret (pc := 20) rfl dX6_isPin_20 ?_ ?_ ?_
    · rfl
    · rw [pnB, decide_eq_true h1]; rfl
    · rfl
  · refine z_iload_n (pc := 4) dX6_isPin_4 rfl ?_
    refine z_aload_n (pc := 5) dX6_isPin_5 rfl ?_
    refine z_getR (pc := 6) 3 q_fX6_19 z_s0 rfl dX6_isPin_6 ?_
    refine z_getI (pc := 9) q_fX6_97 z_s3 rfl dX6_isPin_9 ?_
    refine z_icmp_ge (pc := 12) (tgt := 19) dX6_isPin_12 (by decide) (fun h12 => ?_) (fun h12 => ?_)
    · refine z_iconst (pc := 19) (v := 0) dX6_isPin_19 (by decide) ?_
      refine z_zret (pc := 20) rfl dX6_isPin_20 ?_ ?_ ?_
      · rfl
      · rw [hP] at h12
        rw [pnB, decide_eq_false (Int32.not_lt.mpr h12)]; simp
      · rfl
    · refine z_iconst (pc := 15) (v := 1) dX6_isPin_15 (by decide) ?_
      refine z_goto (pc := 16) (tgt := 20) dX6_isPin_16 (by decide) ?_
      refine z_zret (pc := 20) rfl dX6_isPin_20 ?_ ?_ ?_
      · rfl
      · rw [hP] at h12
        rw [pnB, decide_eq_false h1, decide_eq_true (Int32.not_le.mp h12)]; rfl
      · rfl
theorem z_t {b : Bool} (h : ¬ (if b then (1 : Int32) else 0) = 0) : b = true := by
  cases b
  · exact absurd rfl h
  · rfl
theorem z_f {b : Bool} (h : (if b then (1 : Int32) else 0) = 0) : b = false := by
  cases b
  · rfl
  · exact absurd h (by decide)
theorem z_nn {a b : Int32} (h : ¬ ¬ a = b) : a = b := Classical.not_not.mp h
set_option maxRecDepth 100000 in
set_option maxHeartbeats 400000 in
theorem c_X6_refusalOfTwo {M : z_Mem} {x y : Int32} : z_Ct mX6_refusalOfTwo [.int x, .int y] M (some (.int (rfF x y))) M := by
  refine z_entry (by decide +kernel) (Nat.le_of_ble_eq_true rfl) rfl ?_
  show z_Sm mX6_refusalOfTwo _ _ 0 [some (.int x), some (.int y)] [] M
  refine z_iload_n (pc := 0) dX6_refusalOfTwo_0 rfl ?_
  refine z_cS1 (pc := 1) c_X6_isThing (q_cX6_132 _ (by decide)) rfl dX6_refusalOfTwo_1 ?_
  refine z_if_eq (pc := 4) (tgt := 14) dX6_refusalOfTwo_4 (by decide) (fun h4 => ?_) (fun h4 => ?_)
  · refine z_iconst (pc := 14) (v := (-1)) dX6_refusalOfTwo_14 (by decide) ?_
    refine z_iret (pc := 15) rfl dX6_refusalOfTwo_15 ?_ ?_
    · rw [rfF, z_f h4]; rfl
    · rfl
  · refine z_iload_n (pc := 7) dX6_refusalOfTwo_7 rfl ?_
    refine z_cS1 (pc := 8) c_X6_isThing (q_cX6_132 _ (by decide)) rfl dX6_refusalOfTwo_8 ?_
    refine z_if_ne (pc := 11) (tgt := 16) dX6_refusalOfTwo_11 (by decide) (fun h11 => ?_) (fun h11 => ?_)
    · refine z_iload_n (pc := 16) dX6_refusalOfTwo_16 rfl ?_
      refine z_iload_n (pc := 17) dX6_refusalOfTwo_17 rfl ?_
      refine z_icmp_ne (pc := 18) (tgt := 26) dX6_refusalOfTwo_18 (by decide) (fun h18 => ?_) (fun h18 => ?_)
      · refine z_iconst (pc := 26) (v := 0) dX6_refusalOfTwo_26 (by decide) ?_
        refine z_iret (pc := 27) rfl dX6_refusalOfTwo_27 ?_ ?_
        · rw [rfF, z_t h4, z_t h11, if_pos (by rfl), if_neg h18]
        · rfl
      · refine z_bipush (pc := 21) (v := (-2)) dX6_refusalOfTwo_21 (by decide) ?_
        refine z_goto (pc := 23) (tgt := 27) dX6_refusalOfTwo_23 (by decide) ?_
        refine z_iret (pc := 27) rfl dX6_refusalOfTwo_27 ?_ ?_
        · rw [rfF, z_t h4, z_t h11, if_pos (by rfl), if_pos h18]
        · rfl
    · refine z_iconst (pc := 14) (v := (-1)) dX6_refusalOfTwo_14 (by decide) ?_
      refine z_iret (pc := 15) rfl dX6_refusalOfTwo_15 ?_ ?_
      · have h11 := z_f h11
        rw [rfF, h11]; simp
      · rfl
