/-! ===== both sides over one memory ===== -/
theorem PlAt_e {M N : z_Mem} {q : Nat} {p : PLt} (h : PlAt M q p) (e1 : N.1 q = M.1 q) (e2 : N.1 (q + 1) = M.1 (q + 1)) : PlAt N q p := by
  unfold PlAt
  rw [e1, e2]
  exact h
theorem KpAt_e {M N : z_Mem} {s : Nat} {k : Option PLt} (h : KpAt M s k) (e0 : N.1 53 = M.1 53) (e1 : N.1 (49 + 2 * s) = M.1 (49 + 2 * s)) (e2 : N.1 (49 + 2 * s + 1) = M.1 (49 + 2 * s + 1)) : KpAt N s k := by
  cases k with
  | none => exact (congrFun e0 s).trans h
  | some pl => exact ⟨(congrFun e0 s).trans h.1, PlAt_e h.2 e1 e2⟩
theorem RX_fm {M N : z_Mem} {l : Nat → Int32} {n : Nat} {T : TT} {U : UT} {D : DT} {p : PLt} {A : List PLt} {k0 k1 : Option PLt} {L : List (Int32 × Int32)} {sd : Int64} (h : RX M l n T U D p A k0 k1 L sd) (f : Fm M N) : RX N l n T U D p A k0 k1 L sd := by
  obtain ⟨h1, h2, h3, h4, h5, h6, h7, h8, h9, h10⟩ := h
  have e : ∀ i, i < 59 → N.1 i = M.1 i := fun i hi => (f i hi).1
  refine ⟨?_, TK_cong h2 (by rw [e 3 (by decide)]) (e 4 (by decide)) (e 5 (by decide)) (e 6 (by decide)) (e 7 (by decide)), ?_, ?_, PlAt_e h5 (e 14 (by decide)) (e 15 (by decide)), ?_, KpAt_e h7 (e 53 (by decide)) (e 49 (by decide)) (e 50 (by decide)), KpAt_e h8 (e 53 (by decide)) (e 51 (by decide)) (e 52 (by decide)), ?_, by rw [(f 0 (by decide)).2]; exact h10⟩
  · unfold ScAt
    rw [e 1 (by decide), e 2 (by decide)]
    exact h1
  · unfold UK
    rw [e 3 (by decide), e 8 (by decide), e 9 (by decide)]
    exact h3
  · unfold DK
    rw [e 3 (by decide), e 10 (by decide), e 11 (by decide)]
    exact h4
  · obtain ⟨t, a1, a2, a3, a4, a5⟩ := h6
    refine ⟨t, a1, by rw [e 18 (by decide)]; exact a2, by rw [e 18 (by decide)]; exact a3, a4, fun i pl hi => ?_⟩
    have : (t + 13 - i) % 14 < 14 := Nat.mod_lt _ (by decide)
    exact PlAt_e (a5 i pl hi) (e _ (by omega)) (e _ (by omega))
  · unfold TrAt
    rw [e 54 (by decide), e 55 (by decide), e 56 (by decide)]
    exact h9
theorem RM_fx {M N : z_Mem} {l : Nat → Int32} {n : Nat} {T : TT} {U : UT} {D : DT} {p : PLt} {A : List PLt} {k0 k1 : Option PLt} {L : List (Int32 × Int32)} {sd : Int64} (h : RM M l n T U D p A k0 k1 L sd) (f : Fx M N) : RM N l n T U D p A k0 k1 L sd := by
  obtain ⟨h1, h2, h3, h4, h5, h6, h7, h8, h9, h10⟩ := h
  have e : ∀ i, 59 ≤ i → N.1 i = M.1 i := fun i hi => (f i hi).1
  refine ⟨SN_cong h1 (by rw [e 59 (by decide)]) (e 72 (by decide)), ?_, ?_, ?_, ?_, AN_cong h6 (by rw [e 59 (by decide)]) (by rw [e 59 (by decide)]) (e 74 (by decide)), KN_cong h7 (by rw [e 77 (by decide)]) (fun j _ => by rw [e 78 (by decide)]), KN_cong h8 (by rw [e 77 (by decide)]) (fun j _ => by rw [e 78 (by decide)]), LN_cong h9 (by rw [e 59 (by decide)]) (e 75 (by decide)) (e 76 (by decide)), by rw [(f 59 (by decide)).2]; exact h10⟩
  · unfold TN
    rw [e 59 (by decide), e 60 (by decide), e 61 (by decide), e 62 (by decide), e 63 (by decide)]
    exact h2
  · unfold UN
    rw [e 59 (by decide), e 64 (by decide), e 65 (by decide)]
    exact h3
  · unfold DN
    rw [e 59 (by decide), e 66 (by decide), e 67 (by decide)]
    exact h4
  · unfold PM
    rw [e 68 (by decide)]
    exact h5
/-- what holds of every plight after at most k calls -/
def plG (T : TT) (k : Nat) (p : PLt) : Prop := sm7 p.1 ∧ (∀ j, T.1 ≤ j → j < 7 → p.2.1 j = 0) ∧ p.2.2 ≤ k
theorem plG.up {T : TT} {k : Nat} {p : PLt} (h : plG T k p) : plG T (k + 1) p := ⟨h.1, h.2.1, Nat.le_succ_of_le h.2.2⟩
def gd (k : Nat) (T : TT) (U : UT) (D : DT) (p : PLt) (A : List PLt) (k0 k1 : Option PLt) (L : List (Int32 × Int32)) : Prop := wfT T U D ∧ plG T k p ∧ (∀ q ∈ A, plG T k q) ∧ (∀ q, k0 = some q → plG T k q) ∧ (∀ q, k1 = some q → plG T k q) ∧ ∀ q ∈ L, q.2 = 0 ∨ q.2 = 1
theorem gd.up {k : Nat} {T : TT} {U : UT} {D : DT} {p : PLt} {A : List PLt} {k0 k1 : Option PLt} {L : List (Int32 × Int32)} (h : gd k T U D p A k0 k1 L) : gd (k + 1) T U D p A k0 k1 L := ⟨h.1, h.2.1.up, fun q hq => (h.2.2.1 q hq).up, fun q hq => (h.2.2.2.1 q hq).up, fun q hq => (h.2.2.2.2.1 q hq).up, h.2.2.2.2.2⟩
/-- an act: the plight before goes on top of the row -/
theorem gd.act {k : Nat} {T : TT} {U : UT} {D : DT} {p q : PLt} {A : List PLt} {k0 k1 : Option PLt} {L : List (Int32 × Int32)} (h : gd k T U D p A k0 k1 L) (hq : plG T (k + 1) q) : gd (k + 1) T U D q ((p :: A).take 14) k0 k1 L := by
  have u := h.up
  refine ⟨u.1, hq, fun r hr => ?_, u.2.2.2.1, u.2.2.2.2.1, u.2.2.2.2.2⟩
  rcases List.mem_cons.mp (List.mem_of_mem_take hr) with rfl | hr
  · exact u.2.1
  · exact u.2.2.1 r hr
theorem plG_day {T : TT} {U : UT} {k : Nat} {p : PLt} (hP : T.1 ≤ 7) (h : plG T k p) : plG T (k + 1) (dayF T U p) := by
  refine ⟨dayF_sm hP h.1, fun j h1 h2 => ?_, Nat.succ_le_succ h.2.2⟩
  show wnF T _ _ p.2.1 T.1 j = 0
  rw [wnF, if_neg (fun q => by have := q.1; omega)]
  exact h.2.1 j h1 h2
theorem plG_tug {T : TT} {k : Nat} {p : PLt} {t : Nat} {w : Int32} (hP : T.1 ≤ 7) (h : plG T k p) : plG T (k + 1) (tugF T p t w) := ⟨tugF_sm hP h.1, h.2.1, Nat.le_succ_of_le h.2.2⟩
theorem plG_shut {T : TT} {k : Nat} {p : PLt} {j : Nat} (h : plG T k p) : plG T (k + 1) (p.1 &&& (em j ^^^ (-1)), upd p.2.1 j 0, p.2.2) := by
  refine ⟨sm7_and h.1, fun i h1 h2 => ?_, Nat.le_succ_of_le h.2.2⟩
  show upd p.2.1 j 0 i = 0
  by_cases e : i = j
  · rw [e, upd_1]
  · rw [upd_n _ _ e]; exact h.2.1 i h1 h2
theorem plG_open {T : TT} {k : Nat} {p : PLt} {j : Nat} (hj : j < 7) (h : plG T k p) : plG T (k + 1) (p.1 ||| em j, p.2.1, p.2.2) := ⟨sm7_or h.1 (sm7_em hj), h.2.1, Nat.le_succ_of_le h.2.2⟩
def J (k : Nat) (M : z_Mem) : Prop := ∃ (l : Nat → Int32) (n : Nat) (T : TT) (U : UT) (D : DT) (p : PLt) (A : List PLt) (k0 k1 : Option PLt) (L : List (Int32 × Int32)) (sd : Int64), RX M l n T U D p A k0 k1 L sd ∧ RM M l n T U D p A k0 k1 L sd ∧ gd k T U D p A k0 k1 L
/-- a call on both sides: one answer -/
def PR (K : Value → Prop) (cx6 cx7 : z_MC) (as : List Value) (k : Nat) (M : z_Mem) : Prop := ∃ (r : Value) (M1 M2 : z_Mem), K r ∧ z_Ct cx6 (.ref 0 :: as) M (some r) M1 ∧ z_Ct cx7 (.ref 59 :: as) M1 (some r) M2 ∧ J (k + 1) M2
abbrev isI : Value → Prop := fun r => ∃ x : Int32, r = .int x
abbrev isL : Value → Prop := fun r => ∃ x : Int64, r = .long x
theorem PR_ee {K : Value → Prop} {cx6 cx7 : z_MC} {as : List Value} {k : Nat} {M : z_Mem} {r : Value} {l l2 : Nat → Int32} {n n2 : Nat} {T T2 : TT} {U U2 : UT} {D D2 : DT} {p p2 : PLt} {A A2 : List PLt} {k0 k1 j0 j1 : Option PLt} {L L2 : List (Int32 × Int32)} {sd sd2 : Int64} (hK : K r)
    (hX : ∃ M1, z_Ct cx6 (.ref 0 :: as) M (some r) M1 ∧ RX M1 l2 n2 T2 U2 D2 p2 A2 j0 j1 L2 sd2 ∧ Fx M M1)
    (hM : ∀ M1, RM M1 l n T U D p A k0 k1 L sd → ∃ M2, z_Ct cx7 (.ref 59 :: as) M1 (some r) M2 ∧ RM M2 l2 n2 T2 U2 D2 p2 A2 j0 j1 L2 sd2 ∧ Fm M1 M2)
    (hR : RM M l n T U D p A k0 k1 L sd) (g : gd (k + 1) T2 U2 D2 p2 A2 j0 j1 L2) : PR K cx6 cx7 as k M := by
  obtain ⟨M1, c1, x1, f1⟩ := hX
  obtain ⟨M2, c2, x2, f2⟩ := hM M1 (RM_fx hR f1)
  exact ⟨r, M1, M2, hK, c1, c2, l2, n2, T2, U2, D2, p2, A2, j0, j1, L2, sd2, RX_fm x1 f2, x2, g⟩
theorem ex6 {cx : z_MC} {as : List Value} {M : z_Mem} {r : Value} {l : Nat → Int32} {n : Nat} {T : TT} {U : UT} {D : DT} {p : PLt} {A : List PLt} {k0 k1 : Option PLt} {L : List (Int32 × Int32)} {sd : Int64} (h : z_Ct cx as M (some r) M) (hR : RX M l n T U D p A k0 k1 L sd) : ∃ M1, z_Ct cx as M (some r) M1 ∧ RX M1 l n T U D p A k0 k1 L sd ∧ Fx M M1 := ⟨M, h, hR, Fx.rf⟩
theorem ex7 {cx : z_MC} {as : List Value} {M : z_Mem} {r : Value} {l : Nat → Int32} {n : Nat} {T : TT} {U : UT} {D : DT} {p : PLt} {A : List PLt} {k0 k1 : Option PLt} {L : List (Int32 × Int32)} {sd : Int64} (h : z_Ct cx as M (some r) M) (hR : RM M l n T U D p A k0 k1 L sd) : ∃ M1, z_Ct cx as M (some r) M1 ∧ RM M1 l n T U D p A k0 k1 L sd ∧ Fm M M1 := ⟨M, h, hR, Fm.rf⟩
set_option maxRecDepth 100000 in
set_option maxHeartbeats 400000 in
theorem pr_write {k : Nat} {M : z_Mem} {x : Int32} (h : J k M) (hk : k < 64) : PR isI mX6_write mX7_write [.int x] k M := by
  obtain ⟨l, n, T, U, D, p, A, k0, k1, L, sd, hX, hM, g⟩ := h
  obtain ⟨⟨⟨hP7, hT6⟩, ⟨hU4, hU6⟩, hD3, hD6⟩, ⟨ho, hz, hd⟩, hA, h0, h1, h01⟩ := id g
  by_cases c : (x < 0 ∨ 255 < x) ∨ 60 ≤ n
  · exact PR_ee ⟨_, rfl⟩ (ex6 (o_X6_write_no hX c) hX) (fun M1 hR => ex7 (o_X7_write_no hR c) hR) hM g.up
  · exact PR_ee ⟨_, rfl⟩ (o_X6_write hX (fun q => c (Or.inl q)) (Nat.lt_of_not_le (fun q => c (Or.inr q)))) (fun M1 hR => o_X7_write hR (fun q => c (Or.inl q)) (Nat.lt_of_not_le (fun q => c (Or.inr q)))) hM g.up
set_option maxRecDepth 100000 in
set_option maxHeartbeats 400000 in
theorem pr_wipe {k : Nat} {M : z_Mem} (h : J k M) (hk : k < 64) : PR isI mX6_wipe mX7_wipe [] k M := by
  obtain ⟨l, n, T, U, D, p, A, k0, k1, L, sd, hX, hM, g⟩ := h
  obtain ⟨⟨⟨hP7, hT6⟩, ⟨hU4, hU6⟩, hD3, hD6⟩, ⟨ho, hz, hd⟩, hA, h0, h1, h01⟩ := id g
  exact PR_ee ⟨_, rfl⟩ (o_X6_wipe hX) (fun M1 hR => o_X7_wipe hR) hM g.up
set_option maxRecDepth 100000 in
set_option maxHeartbeats 400000 in
theorem pr_fault {k : Nat} {M : z_Mem} (h : J k M) (hk : k < 64) : PR isI mX6_fault mX7_fault [] k M := by
  obtain ⟨l, n, T, U, D, p, A, k0, k1, L, sd, hX, hM, g⟩ := h
  obtain ⟨⟨⟨hP7, hT6⟩, ⟨hU4, hU6⟩, hD3, hD6⟩, ⟨ho, hz, hd⟩, hA, h0, h1, h01⟩ := id g
  exact PR_ee ⟨_, rfl⟩ (ex6 (o_X6_fault hX) hX) (fun M1 hR => o_X7_fault hR) hM g.up
set_option maxRecDepth 100000 in
set_option maxHeartbeats 400000 in
theorem pr_town {k : Nat} {M : z_Mem} (h : J k M) (hk : k < 64) : PR isI mX6_town mX7_town [] k M := by
  obtain ⟨l, n, T, U, D, p, A, k0, k1, L, sd, hX, hM, g⟩ := h
  obtain ⟨⟨⟨hP7, hT6⟩, ⟨hU4, hU6⟩, hD3, hD6⟩, ⟨ho, hz, hd⟩, hA, h0, h1, h01⟩ := id g
  by_cases c : faF l n = -9
  · obtain ⟨w, -⟩ := fa_wf (faF_ok hX.1.2.1 c).2
    exact PR_ee ⟨_, rfl⟩ (o_X6_town hX c) (fun M1 hR => o_X7_town hR c) hM ⟨w, ⟨sm7_0, fun _ _ _ => rfl, Nat.zero_le _⟩, fun q hq => absurd hq List.not_mem_nil, fun q hq => by (cases hq), fun q hq => by (cases hq), h01⟩
  · exact PR_ee ⟨_, rfl⟩ (ex6 (o_X6_town_no hX c) hX) (fun M1 hR => o_X7_town_no hR c) hM g.up
set_option maxRecDepth 100000 in
set_option maxHeartbeats 400000 in
theorem pr_pin {k : Nat} {M : z_Mem} {x y : Int32} (h : J k M) (hk : k < 64) : PR isI mX6_pin mX7_pin [.int x, .int y] k M := by
  obtain ⟨l, n, T, U, D, p, A, k0, k1, L, sd, hX, hM, g⟩ := h
  obtain ⟨⟨⟨hP7, hT6⟩, ⟨hU4, hU6⟩, hD3, hD6⟩, ⟨ho, hz, hd⟩, hA, h0, h1, h01⟩ := id g
  cases c : pnB x T.1
  · exact PR_ee ⟨_, rfl⟩ (ex6 (o_X6_pin_no hX c) hX) (fun M1 hR => ex7 (o_X7_pin_no hR c) hR) hM g.up
  · exact PR_ee ⟨_, rfl⟩ (ex6 (o_X6_pin hX c) hX) (fun M1 hR => ex7 (o_X7_pin hR c) hR) hM g.up
set_option maxRecDepth 100000 in
set_option maxHeartbeats 400000 in
theorem pr_with {k : Nat} {M : z_Mem} {x : Int32} (h : J k M) (hk : k < 64) : PR isI mX6_with mX7_with [.int x] k M := by
  obtain ⟨l, n, T, U, D, p, A, k0, k1, L, sd, hX, hM, g⟩ := h
  obtain ⟨⟨⟨hP7, hT6⟩, ⟨hU4, hU6⟩, hD3, hD6⟩, ⟨ho, hz, hd⟩, hA, h0, h1, h01⟩ := id g
  cases c : thg x
  · exact PR_ee ⟨_, rfl⟩ (ex6 (o_X6_with_no hX c) hX) (fun M1 hR => ex7 (o_X7_with_no hR c) hR) hM g.up
  · exact PR_ee ⟨_, rfl⟩ (ex6 (o_X6_with hX c) hX) (fun M1 hR => ex7 (o_X7_with hR c) hR) hM g.up
set_option maxRecDepth 100000 in
set_option maxHeartbeats 400000 in
theorem pr_day {k : Nat} {M : z_Mem} (h : J k M) (hk : k < 64) : PR isI mX6_day mX7_day [] k M := by
  obtain ⟨l, n, T, U, D, p, A, k0, k1, L, sd, hX, hM, g⟩ := h
  obtain ⟨⟨⟨hP7, hT6⟩, ⟨hU4, hU6⟩, hD3, hD6⟩, ⟨ho, hz, hd⟩, hA, h0, h1, h01⟩ := id g
  exact PR_ee ⟨_, rfl⟩ (o_X6_day hX ho (by omega)) (fun M1 hR => o_X7_day hR (by omega)) hM (g.act (plG_day hP7 g.2.1))
set_option maxRecDepth 100000 in
set_option maxHeartbeats 400000 in
theorem pr_tug {k : Nat} {M : z_Mem} {x y : Int32} (h : J k M) (hk : k < 64) : PR isI mX6_tug mX7_tug [.int x, .int y] k M := by
  obtain ⟨l, n, T, U, D, p, A, k0, k1, L, sd, hX, hM, g⟩ := h
  obtain ⟨⟨⟨hP7, hT6⟩, ⟨hU4, hU6⟩, hD3, hD6⟩, ⟨ho, hz, hd⟩, hA, h0, h1, h01⟩ := id g
  by_cases c : thg x = false ∨ y < 1 ∨ 9 < y
  · exact PR_ee ⟨_, rfl⟩ (ex6 (o_X6_tug_no hX c) hX) (fun M1 hR => ex7 (o_X7_tug_no hR c) hR) hM g.up
  · have cx : thg x = true := z_nb (fun q => c (Or.inl q))
    exact PR_ee ⟨_, rfl⟩ (o_X6_tug hX ho cx (fun q => c (Or.inr q))) (fun M1 hR => o_X7_tug hR cx (fun q => c (Or.inr q))) hM (g.act (plG_tug hP7 g.2.1))
set_option maxRecDepth 100000 in
set_option maxHeartbeats 400000 in
theorem pr_shut {k : Nat} {M : z_Mem} {x : Int32} (h : J k M) (hk : k < 64) : PR isI mX6_shut mX7_shut [.int x] k M := by
  obtain ⟨l, n, T, U, D, p, A, k0, k1, L, sd, hX, hM, g⟩ := h
  obtain ⟨⟨⟨hP7, hT6⟩, ⟨hU4, hU6⟩, hD3, hD6⟩, ⟨ho, hz, hd⟩, hA, h0, h1, h01⟩ := id g
  cases c : pnB x T.1
  · exact PR_ee ⟨_, rfl⟩ (ex6 (o_X6_shut_no1 hX c) hX) (fun M1 hR => ex7 (o_X7_shut_no1 hR c) hR) hM g.up
  · cases b : bt p.1 x.toNatClampNeg
    · exact PR_ee ⟨_, rfl⟩ (ex6 (o_X6_shut_no2 hX c b) hX) (fun M1 hR => ex7 (o_X7_shut_no2 hR c b) hR) hM g.up
    · exact PR_ee ⟨_, rfl⟩ (o_X6_shut hX ho c b) (fun M1 hR => o_X7_shut hR c b) hM (g.act (plG_shut g.2.1))
set_option maxRecDepth 100000 in
set_option maxHeartbeats 400000 in
theorem pr_open {k : Nat} {M : z_Mem} {x : Int32} (h : J k M) (hk : k < 64) : PR isI mX6_open mX7_open [.int x] k M := by
  obtain ⟨l, n, T, U, D, p, A, k0, k1, L, sd, hX, hM, g⟩ := h
  obtain ⟨⟨⟨hP7, hT6⟩, ⟨hU4, hU6⟩, hD3, hD6⟩, ⟨ho, hz, hd⟩, hA, h0, h1, h01⟩ := id g
  cases c : pnB x T.1
  · exact PR_ee ⟨_, rfl⟩ (ex6 (o_X6_open_no1 hX c) hX) (fun M1 hR => ex7 (o_X7_open_no1 hR c) hR) hM g.up
  · cases b : bt p.1 x.toNatClampNeg
    · exact PR_ee ⟨_, rfl⟩ (o_X6_open hX ho c b) (fun M1 hR => o_X7_open hR c b) hM (g.act (plG_open (by have := (pnB_at hP7 c).1; omega) g.2.1))
    · exact PR_ee ⟨_, rfl⟩ (ex6 (o_X6_open_no2 hX c b) hX) (fun M1 hR => ex7 (o_X7_open_no2 hR c b) hR) hM g.up
set_option maxRecDepth 100000 in
set_option maxHeartbeats 400000 in
theorem pr_undo {k : Nat} {M : z_Mem} (h : J k M) (hk : k < 64) : PR isI mX6_undo mX7_undo [] k M := by
  obtain ⟨l, n, T, U, D, p, A, k0, k1, L, sd, hX, hM, g⟩ := h
  obtain ⟨⟨⟨hP7, hT6⟩, ⟨hU4, hU6⟩, hD3, hD6⟩, ⟨ho, hz, hd⟩, hA, h0, h1, h01⟩ := id g
  cases A with
  | nil =>
    exact PR_ee ⟨_, rfl⟩ (ex6 (o_X6_undo_no hX rfl) hX) (fun M1 hR => ex7 (o_X7_undo_no hR rfl) hR) hM g.up
  | cons q A =>
    have u := g.up
    exact PR_ee ⟨_, rfl⟩ (o_X6_undo hX) (fun M1 hR => o_X7_undo hR) hM ⟨u.1, u.2.2.1 q List.mem_cons_self, fun r hr => u.2.2.1 r (List.mem_cons_of_mem _ hr), u.2.2.2⟩
set_option maxRecDepth 100000 in
set_option maxHeartbeats 400000 in
theorem pr_later {k : Nat} {M : z_Mem} {x : Int32} (h : J k M) (hk : k < 64) : PR isI mX6_later mX7_later [.int x] k M := by
  obtain ⟨l, n, T, U, D, p, A, k0, k1, L, sd, hX, hM, g⟩ := h
  obtain ⟨⟨⟨hP7, hT6⟩, ⟨hU4, hU6⟩, hD3, hD6⟩, ⟨ho, hz, hd⟩, hA, h0, h1, h01⟩ := id g
  by_cases c : x < 0 ∨ 20 < x
  · exact PR_ee ⟨_, rfl⟩ (ex6 (o_X6_later_no hX c) hX) (fun M1 hR => ex7 (o_X7_later_no hR c) hR) hM g.up
  · obtain ⟨m, hm, e⟩ := nI_of2 (M := 20) (n := 20) (x := x) (by decide) (fun q => c (Or.inl q)) (Int32.not_lt.mp (fun q => c (Or.inr q)))
    exact PR_ee ⟨_, rfl⟩ (o_X6_later hX ho (by omega) e hm) (fun M1 hR => o_X7_later hR (by omega) e hm) hM g.up
set_option maxRecDepth 100000 in
set_option maxHeartbeats 400000 in
theorem pr_lasts {k : Nat} {M : z_Mem} {x : Int32} (h : J k M) (hk : k < 64) : PR isI mX6_lasts mX7_lasts [.int x] k M := by
  obtain ⟨l, n, T, U, D, p, A, k0, k1, L, sd, hX, hM, g⟩ := h
  obtain ⟨⟨⟨hP7, hT6⟩, ⟨hU4, hU6⟩, hD3, hD6⟩, ⟨ho, hz, hd⟩, hA, h0, h1, h01⟩ := id g
  cases c : pnB x T.1
  · exact PR_ee ⟨_, rfl⟩ (ex6 (o_X6_lasts_no1 hX c) hX) (fun M1 hR => ex7 (o_X7_lasts_no1 hR c) hR) hM g.up
  · cases b : bt p.1 x.toNatClampNeg
    · exact PR_ee ⟨_, rfl⟩ (o_X6_lasts hX ho (by omega) c b) (fun M1 hR => o_X7_lasts hR (by omega) c b) hM g.up
    · exact PR_ee ⟨_, rfl⟩ (ex6 (o_X6_lasts_no2 hX c b) hX) (fun M1 hR => ex7 (o_X7_lasts_no2 hR c b) hR) hM g.up
set_option maxRecDepth 100000 in
set_option maxHeartbeats 400000 in
theorem pr_chain {k : Nat} {M : z_Mem} {x : Int32} (h : J k M) (hk : k < 64) : PR isI mX6_chain mX7_chain [.int x] k M := by
  obtain ⟨l, n, T, U, D, p, A, k0, k1, L, sd, hX, hM, g⟩ := h
  obtain ⟨⟨⟨hP7, hT6⟩, ⟨hU4, hU6⟩, hD3, hD6⟩, ⟨ho, hz, hd⟩, hA, h0, h1, h01⟩ := id g
  cases c : pnB x T.1
  · exact PR_ee ⟨_, rfl⟩ (ex6 (o_X6_chain_no1 hX c) hX) (fun M1 hR => ex7 (o_X7_chain_no1 hR c) hR) hM g.up
  · cases b : bt p.1 x.toNatClampNeg
    · exact PR_ee ⟨_, rfl⟩ (o_X6_chain hX ho (fun j hj => (hT6 j hj).2.2) c b) (fun M1 hR => o_X7_chain hR c b) hM g.up
    · exact PR_ee ⟨_, rfl⟩ (ex6 (o_X6_chain_no2 hX c b) hX) (fun M1 hR => ex7 (o_X7_chain_no2 hR c b) hR) hM g.up
set_option maxRecDepth 100000 in
set_option maxHeartbeats 400000 in
theorem pr_cuts {k : Nat} {M : z_Mem} {x y : Int32} (h : J k M) (hk : k < 64) : PR isI mX6_cuts mX7_cuts [.int x, .int y] k M := by
  obtain ⟨l, n, T, U, D, p, A, k0, k1, L, sd, hX, hM, g⟩ := h
  obtain ⟨⟨⟨hP7, hT6⟩, ⟨hU4, hU6⟩, hD3, hD6⟩, ⟨ho, hz, hd⟩, hA, h0, h1, h01⟩ := id g
  by_cases c : rfF x y = 0
  · exact PR_ee ⟨_, rfl⟩ (ex6 (o_X6_cuts hX c) hX) (fun M1 hR => ex7 (o_X7_cuts hR c) hR) hM g.up
  · exact PR_ee ⟨_, rfl⟩ (ex6 (o_X6_cuts_no hX c) hX) (fun M1 hR => ex7 (o_X7_cuts_no hR c) hR) hM g.up
set_option maxRecDepth 100000 in
set_option maxHeartbeats 400000 in
theorem pr_parts {k : Nat} {M : z_Mem} {x y w : Int32} (h : J k M) (hk : k < 64) : PR isI mX6_parts mX7_parts [.int x, .int y, .int w] k M := by
  obtain ⟨l, n, T, U, D, p, A, k0, k1, L, sd, hX, hM, g⟩ := h
  obtain ⟨⟨⟨hP7, hT6⟩, ⟨hU4, hU6⟩, hD3, hD6⟩, ⟨ho, hz, hd⟩, hA, h0, h1, h01⟩ := id g
  by_cases c : ¬ rfF x y = 0 ∨ w < 0 ∨ 1 < w
  · exact PR_ee ⟨_, rfl⟩ (ex6 (o_X6_parts_no hX c) hX) (fun M1 hR => ex7 (o_X7_parts_no hR c) hR) hM g.up
  · have c1 : rfF x y = 0 := Classical.not_not.mp (fun q => c (Or.inl q))
    exact PR_ee ⟨_, rfl⟩ (o_X6_parts hX ho c1 (fun q => c (Or.inr q))) (fun M1 hR => o_X7_parts hR c1 (fun q => c (Or.inr q))) hM g.up
set_option maxRecDepth 100000 in
set_option maxHeartbeats 400000 in
theorem pr_letsGo {k : Nat} {M : z_Mem} {x : Int32} (h : J k M) (hk : k < 64) : PR isI mX6_letsGo mX7_letsGo [.int x] k M := by
  obtain ⟨l, n, T, U, D, p, A, k0, k1, L, sd, hX, hM, g⟩ := h
  obtain ⟨⟨⟨hP7, hT6⟩, ⟨hU4, hU6⟩, hD3, hD6⟩, ⟨ho, hz, hd⟩, hA, h0, h1, h01⟩ := id g
  by_cases c : x < 0 ∨ em D.1 ≤ x
  · exact PR_ee ⟨_, rfl⟩ (ex6 (o_X6_letsGo_no hX c) hX) (fun M1 hR => ex7 (o_X7_letsGo_no hR c) hR) hM g.up
  · exact PR_ee ⟨_, rfl⟩ (ex6 (o_X6_letsGo hX c) hX) (fun M1 hR => ex7 (o_X7_letsGo hR (fun j hj => (hD6 j hj).2.2) c) hR) hM g.up
set_option maxRecDepth 100000 in
set_option maxHeartbeats 400000 in
theorem pr_judge {k : Nat} {M : z_Mem} {x : Int32} {v : Int64} (h : J k M) (hk : k < 64) : PR isI mX6_judge mX7_judge [.int x, .long v] k M := by
  obtain ⟨l, n, T, U, D, p, A, k0, k1, L, sd, hX, hM, g⟩ := h
  obtain ⟨⟨⟨hP7, hT6⟩, ⟨hU4, hU6⟩, hD3, hD6⟩, ⟨ho, hz, hd⟩, hA, h0, h1, h01⟩ := id g
  by_cases c : jdOk x v
  · obtain ⟨m, R, e1, m1, m4, e2, hR2, -⟩ := jdOk_at c
    exact PR_ee ⟨_, rfl⟩ (o_X6_judge hX ho (by omega) e1 m1 m4 e2 hR2) (fun M1 hR => o_X7_judge hR (by omega) e1 m1 m4 e2 hR2) hM g.up
  · exact PR_ee ⟨_, rfl⟩ (ex6 (o_X6_judge_no hX c) hX) (fun M1 hR => ex7 (o_X7_judge_no hR c) hR) hM g.up
set_option maxRecDepth 100000 in
set_option maxHeartbeats 400000 in
theorem pr_trial {k : Nat} {M : z_Mem} {x y : Int32} (h : J k M) (hk : k < 64) : PR isI mX6_trial mX7_trial [.int x, .int y] k M := by
  obtain ⟨l, n, T, U, D, p, A, k0, k1, L, sd, hX, hM, g⟩ := h
  obtain ⟨⟨⟨hP7, hT6⟩, ⟨hU4, hU6⟩, hD3, hD6⟩, ⟨ho, hz, hd⟩, hA, h0, h1, h01⟩ := id g
  by_cases c : (x < 0 ∨ 12 < x ∨ y < 0 ∨ 1 < y) ∨ 6 ≤ L.length
  · exact PR_ee ⟨_, rfl⟩ (ex6 (o_X6_trial_no hX c) hX) (fun M1 hR => ex7 (o_X7_trial_no hR c) hR) hM g.up
  · have c1 : ¬ (x < 0 ∨ 12 < x ∨ y < 0 ∨ 1 < y) := fun q => c (Or.inl q)
    have hy : y = 0 ∨ y = 1 := by
      obtain ⟨j, hj, e⟩ := nI_of2 (M := 1) (n := 1) (x := y) (by decide) (fun q => c1 (Or.inr (Or.inr (Or.inl q)))) (Int32.not_lt.mp (fun q => c1 (Or.inr (Or.inr (Or.inr q)))))
      rcases (show j = 0 ∨ j = 1 by omega) with rfl | rfl
      · exact Or.inl e
      · exact Or.inr e
    have u := g.up
    exact PR_ee ⟨_, rfl⟩ (o_X6_trial hX c1 (Nat.lt_of_not_le (fun q => c (Or.inr q)))) (fun M1 hR => o_X7_trial hR c1 (Nat.lt_of_not_le (fun q => c (Or.inr q)))) hM ⟨u.1, u.2.1, u.2.2.1, u.2.2.2.1, u.2.2.2.2.1, fun q hq => by
      rcases List.mem_append.mp hq with hq | hq
      · exact h01 q hq
      · rw [List.mem_singleton.mp hq]; exact hy⟩
set_option maxRecDepth 100000 in
set_option maxHeartbeats 400000 in
theorem pr_untry {k : Nat} {M : z_Mem} (h : J k M) (hk : k < 64) : PR isI mX6_untry mX7_untry [] k M := by
  obtain ⟨l, n, T, U, D, p, A, k0, k1, L, sd, hX, hM, g⟩ := h
  obtain ⟨⟨⟨hP7, hT6⟩, ⟨hU4, hU6⟩, hD3, hD6⟩, ⟨ho, hz, hd⟩, hA, h0, h1, h01⟩ := id g
  have u := g.up
  exact PR_ee ⟨_, rfl⟩ (o_X6_untry hX) (fun M1 hR => o_X7_untry hR) hM ⟨u.1, u.2.1, u.2.2.1, u.2.2.2.1, u.2.2.2.2.1, fun q hq => absurd hq List.not_mem_nil⟩
set_option maxRecDepth 100000 in
set_option maxHeartbeats 400000 in
theorem pr_which {k : Nat} {M : z_Mem} {x : Int32} (h : J k M) (hk : k < 64) : PR isI mX6_which mX7_which [.int x] k M := by
  obtain ⟨l, n, T, U, D, p, A, k0, k1, L, sd, hX, hM, g⟩ := h
  obtain ⟨⟨⟨hP7, hT6⟩, ⟨hU4, hU6⟩, hD3, hD6⟩, ⟨ho, hz, hd⟩, hA, h0, h1, h01⟩ := id g
  by_cases c : x < 0 ∨ 1 < x
  · exact PR_ee ⟨_, rfl⟩ (ex6 (o_X6_which_no hX c) hX) (fun M1 hR => ex7 (o_X7_which_no hR c) hR) hM g.up
  · exact PR_ee ⟨_, rfl⟩ (ex6 (o_X6_which hX c) hX) (fun M1 hR => ex7 (o_X7_which hR h01 c) hR) hM g.up
set_option maxRecDepth 100000 in
set_option maxHeartbeats 400000 in
theorem pr_share {k : Nat} {M : z_Mem} {x z : Int32} (h : J k M) (hk : k < 64) : PR isI mX6_share mX7_share [.int x, .int z] k M := by
  obtain ⟨l, n, T, U, D, p, A, k0, k1, L, sd, hX, hM, g⟩ := h
  obtain ⟨⟨⟨hP7, hT6⟩, ⟨hU4, hU6⟩, hD3, hD6⟩, ⟨ho, hz, hd⟩, hA, h0, h1, h01⟩ := id g
  cases c : pnB x T.1
  · exact PR_ee ⟨_, rfl⟩ (ex6 (o_X6_share_no hX c) hX) (fun M1 hR => ex7 (o_X7_share_no hR c) hR) hM g.up
  · obtain ⟨c1, c2⟩ := pnB_at hP7 c
    rw [c2]
    exact PR_ee ⟨_, rfl⟩ (ex6 (o_X6_share hX c1) hX) (fun M1 hR => ex7 (o_X7_share hR c1) hR) hM g.up
set_option maxRecDepth 100000 in
set_option maxHeartbeats 400000 in
theorem pr_rests {k : Nat} {M : z_Mem} {x y v : Int32} (h : J k M) (hk : k < 64) : PR isI mX6_rests mX7_rests [.int x, .int y, .int v] k M := by
  obtain ⟨l, n, T, U, D, p, A, k0, k1, L, sd, hX, hM, g⟩ := h
  obtain ⟨⟨⟨hP7, hT6⟩, ⟨hU4, hU6⟩, hD3, hD6⟩, ⟨ho, hz, hd⟩, hA, h0, h1, h01⟩ := id g
  by_cases c : rfF x y = 0
  · by_cases c2 : v < 0 ∨ 1 < v
    · exact PR_ee ⟨_, rfl⟩ (ex6 (o_X6_rests_no1 hX c c2) hX) (fun M1 hR => ex7 (o_X7_rests_no1 hR c c2) hR) hM g.up
    · exact PR_ee ⟨_, rfl⟩ (o_X6_rests hX ho c ⟨fun q => c2 (Or.inl q), Int32.not_lt.mp (fun q => c2 (Or.inr q))⟩) (fun M1 hR => o_X7_rests hR c ⟨fun q => c2 (Or.inl q), Int32.not_lt.mp (fun q => c2 (Or.inr q))⟩) hM g.up
  · exact PR_ee ⟨_, rfl⟩ (ex6 (o_X6_rests_no hX c) hX) (fun M1 hR => ex7 (o_X7_rests_no hR c) hR) hM g.up
set_option maxRecDepth 100000 in
set_option maxHeartbeats 400000 in
theorem pr_gives {k : Nat} {M : z_Mem} {x y v z : Int32} (h : J k M) (hk : k < 64) : PR isI mX6_gives mX7_gives [.int x, .int y, .int v, .int z] k M := by
  obtain ⟨l, n, T, U, D, p, A, k0, k1, L, sd, hX, hM, g⟩ := h
  obtain ⟨⟨⟨hP7, hT6⟩, ⟨hU4, hU6⟩, hD3, hD6⟩, ⟨ho, hz, hd⟩, hA, h0, h1, h01⟩ := id g
  by_cases c : rfF x y = 0
  · by_cases c2 : v < 0 ∨ 10 < v
    · exact PR_ee ⟨_, rfl⟩ (ex6 (o_X6_gives_no1 hX c c2) hX) (fun M1 hR => ex7 (o_X7_gives_no1 hR c c2) hR) hM g.up
    · obtain ⟨w, hw, e⟩ := nI_of2 (M := 10) (n := 10) (x := v) (by decide) (fun q => c2 (Or.inl q)) (Int32.not_lt.mp (fun q => c2 (Or.inr q)))
      rw [e]
      exact PR_ee ⟨_, rfl⟩ (ex6 (o_X6_gives hX c hw) hX) (fun M1 hR => ex7 (o_X7_gives hR c hw) hR) hM g.up
  · exact PR_ee ⟨_, rfl⟩ (ex6 (o_X6_gives_no hX c) hX) (fun M1 hR => ex7 (o_X7_gives_no hR c) hR) hM g.up
set_option maxRecDepth 100000 in
set_option maxHeartbeats 400000 in
theorem pr_seed {k : Nat} {M : z_Mem} {v : Int64} (h : J k M) (hk : k < 64) : PR isL mX6_seed mX7_seed [.long v] k M := by
  obtain ⟨l, n, T, U, D, p, A, k0, k1, L, sd, hX, hM, g⟩ := h
  obtain ⟨⟨⟨hP7, hT6⟩, ⟨hU4, hU6⟩, hD3, hD6⟩, ⟨ho, hz, hd⟩, hA, h0, h1, h01⟩ := id g
  exact PR_ee ⟨_, rfl⟩ (o_X6_seed hX) (fun M1 hR => o_X7_seed hR) hM g.up
set_option maxRecDepth 100000 in
set_option maxHeartbeats 400000 in
theorem pr_seasons {k : Nat} {M : z_Mem} {x : Int32} (h : J k M) (hk : k < 64) : PR isI mX6_seasons mX7_seasons [.int x] k M := by
  obtain ⟨l, n, T, U, D, p, A, k0, k1, L, sd, hX, hM, g⟩ := h
  obtain ⟨⟨⟨hP7, hT6⟩, ⟨hU4, hU6⟩, hD3, hD6⟩, ⟨ho, hz, hd⟩, hA, h0, h1, h01⟩ := id g
  by_cases c : x < 1 ∨ 30 < x
  · exact PR_ee ⟨_, rfl⟩ (ex6 (o_X6_seasons_no hX c) hX) (fun M1 hR => ex7 (o_X7_seasons_no hR c) hR) hM g.up
  · obtain ⟨m, hm, e⟩ := nI_of2 (M := 30) (n := 30) (x := x) (by decide) (fun q => c (Or.inl (Int32.lt_trans q (by decide)))) (Int32.not_lt.mp (fun q => c (Or.inr q)))
    have m1 : 1 ≤ m := by
      rcases Nat.eq_zero_or_pos m with q | q
      · exact absurd (Or.inl (by rw [e, q]; decide)) c
      · exact q
    exact PR_ee ⟨_, rfl⟩ (o_X6_seasons hX ho (by omega) e m1 hm) (fun M1 hR => o_X7_seasons hR ho (by omega) e m1 hm) hM g.up
set_option maxRecDepth 100000 in
set_option maxHeartbeats 400000 in
theorem pr_keep {k : Nat} {M : z_Mem} {x : Int32} (h : J k M) (hk : k < 64) : PR isI mX6_keep mX7_keep [.int x] k M := by
  obtain ⟨l, n, T, U, D, p, A, k0, k1, L, sd, hX, hM, g⟩ := h
  obtain ⟨⟨⟨hP7, hT6⟩, ⟨hU4, hU6⟩, hD3, hD6⟩, ⟨ho, hz, hd⟩, hA, h0, h1, h01⟩ := id g
  by_cases c : x < 0 ∨ 2 ≤ x
  · exact PR_ee ⟨_, rfl⟩ (ex6 (o_X6_keep_no1 hX c) hX) (fun M1 hR => ex7 (o_X7_keep_no1 hR c) hR) hM g.up
  · have c01 : x = 0 ∨ x = 1 := by
      obtain ⟨j, hj, e⟩ := nI_of2 (M := 1) (n := 1) (x := x) (by decide) (fun q => c (Or.inl q)) (by
        have q : x < 2 := Int32.not_le.mp (fun q => c (Or.inr q))
        rw [Int32.lt_iff_toInt_lt] at q
        rw [Int32.le_iff_toInt_le]
        have e1 : (1 : Int32).toInt = 1 := by decide
        have e2 : (2 : Int32).toInt = 2 := by decide
        omega)
      rcases (show j = 0 ∨ j = 1 by omega) with rfl | rfl
      · exact Or.inl e
      · exact Or.inr e
    have u := g.up
    rcases c01 with c | c
    · exact PR_ee ⟨_, rfl⟩ (o_X6_keep_0 hX c) (fun M1 hR => o_X7_keep_0 hR c) hM ⟨u.1, u.2.1, u.2.2.1, fun q hq => by (cases hq; exact u.2.1), u.2.2.2.2.1, u.2.2.2.2.2⟩
    · exact PR_ee ⟨_, rfl⟩ (o_X6_keep_1 hX c) (fun M1 hR => o_X7_keep_1 hR c) hM ⟨u.1, u.2.1, u.2.2.1, u.2.2.2.1, fun q hq => by (cases hq; exact u.2.1), u.2.2.2.2.2⟩
set_option maxRecDepth 100000 in
set_option maxHeartbeats 400000 in
theorem pr_again {k : Nat} {M : z_Mem} {x : Int32} (h : J k M) (hk : k < 64) : PR isI mX6_again mX7_again [.int x] k M := by
  obtain ⟨l, n, T, U, D, p, A, k0, k1, L, sd, hX, hM, g⟩ := h
  obtain ⟨⟨⟨hP7, hT6⟩, ⟨hU4, hU6⟩, hD3, hD6⟩, ⟨ho, hz, hd⟩, hA, h0, h1, h01⟩ := id g
  by_cases c : x < 0 ∨ 2 ≤ x
  · exact PR_ee ⟨_, rfl⟩ (ex6 (o_X6_again_no1 hX c) hX) (fun M1 hR => ex7 (o_X7_again_no1 hR c) hR) hM g.up
  · have c01 : x = 0 ∨ x = 1 := by
      obtain ⟨j, hj, e⟩ := nI_of2 (M := 1) (n := 1) (x := x) (by decide) (fun q => c (Or.inl q)) (by
        have q : x < 2 := Int32.not_le.mp (fun q => c (Or.inr q))
        rw [Int32.lt_iff_toInt_lt] at q
        rw [Int32.le_iff_toInt_le]
        have e1 : (1 : Int32).toInt = 1 := by decide
        have e2 : (2 : Int32).toInt = 2 := by decide
        omega)
      rcases (show j = 0 ∨ j = 1 by omega) with rfl | rfl
      · exact Or.inl e
      · exact Or.inr e
    have u := g.up
    rcases c01 with c | c
    · cases hs : k0 with
      | none =>
        subst hs
        exact PR_ee ⟨_, rfl⟩ (ex6 (o_X6_again_no2_0 hX c rfl) hX) (fun M1 hR => ex7 (o_X7_again_no2_0 hR c rfl) hR) hM u
      | some q =>
        exact PR_ee ⟨_, rfl⟩ (o_X6_again_0 hX c hs) (fun M1 hR => o_X7_again_0 hR c hs) hM ⟨u.1, u.2.2.2.1 q hs, fun r hr => absurd hr List.not_mem_nil, u.2.2.2⟩
    · cases hs : k1 with
      | none =>
        subst hs
        exact PR_ee ⟨_, rfl⟩ (ex6 (o_X6_again_no2_1 hX c rfl) hX) (fun M1 hR => ex7 (o_X7_again_no2_1 hR c rfl) hR) hM u
      | some q =>
        exact PR_ee ⟨_, rfl⟩ (o_X6_again_1 hX c hs) (fun M1 hR => o_X7_again_1 hR c hs) hM ⟨u.1, u.2.2.2.2.1 q hs, fun r hr => absurd hr List.not_mem_nil, u.2.2.2⟩
set_option maxRecDepth 100000 in
set_option maxHeartbeats 400000 in
theorem pr_count {k : Nat} {M : z_Mem} {x : Int32} (h : J k M) (hk : k < 64) : PR isI mX6_count mX7_count [.int x] k M := by
  obtain ⟨l, n, T, U, D, p, A, k0, k1, L, sd, hX, hM, g⟩ := h
  obtain ⟨⟨⟨hP7, hT6⟩, ⟨hU4, hU6⟩, hD3, hD6⟩, ⟨ho, hz, hd⟩, hA, h0, h1, h01⟩ := id g
  exact PR_ee ⟨_, rfl⟩ (ex6 (o_X6_count hX) hX) (fun M1 hR => ex7 (o_X7_count hR hz) hR) hM g.up
