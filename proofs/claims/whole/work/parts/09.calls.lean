theorem z_cV0 {cx cx2 : z_MC} {r : Option Value} {M M1 M2 : z_Mem} {pc idx b ci N : Nat} {ls : List (Option Value)} {st : List Value} {C : String} {T : u_T} {fks : List Nat} {v : Value} (hC : z_Ct cx2 [.ref b] M (some v) M1) (hg : z_CV cx.2.1 cx.2.2.2.2.2 idx cx2 C 0) (hs : z_shp[b]? = some (.inr (.inl (ci, fks)))) (hc : vwCl[ci]? = some (C, T, N)) (hcat : decide ((st.map fun v => v.category).sum ≤ 8) = true) (d : decode cx.1 pc = .ok (.invokevirtual idx, 3)) (kk : z_Sm cx r M2 (pc + 3) ls (v :: st) M1) : z_Sm cx r M2 pc ls (.ref b :: st) M := z_callV (As := []) hC hg hs hc rfl rfl (of_decide_eq_true hcat) d kk
theorem z_cV0v {cx cx2 : z_MC} {r : Option Value} {M M1 M2 : z_Mem} {pc idx b ci N : Nat} {ls : List (Option Value)} {st : List Value} {C : String} {T : u_T} {fks : List Nat} (hC : z_Ct cx2 [.ref b] M none M1) (hg : z_CV cx.2.1 cx.2.2.2.2.2 idx cx2 C 0) (hs : z_shp[b]? = some (.inr (.inl (ci, fks)))) (hc : vwCl[ci]? = some (C, T, N)) (hcat : decide ((st.map fun v => v.category).sum ≤ 8) = true) (d : decode cx.1 pc = .ok (.invokevirtual idx, 3)) (kk : z_Sm cx r M2 (pc + 3) ls st M1) : z_Sm cx r M2 pc ls (.ref b :: st) M := z_callV (As := []) hC hg hs hc rfl rfl (of_decide_eq_true hcat) d kk
theorem z_cV1 {cx cx2 : z_MC} {r : Option Value} {M M1 M2 : z_Mem} {pc idx b ci N : Nat} {ls : List (Option Value)} {st : List Value} {a1 : Value} {C : String} {T : u_T} {fks : List Nat} {v : Value} (hC : z_Ct cx2 [.ref b, a1] M (some v) M1) (hg : z_CV cx.2.1 cx.2.2.2.2.2 idx cx2 C 1) (hs : z_shp[b]? = some (.inr (.inl (ci, fks)))) (hc : vwCl[ci]? = some (C, T, N)) (hcat : decide ((st.map fun v => v.category).sum ≤ 8) = true) (d : decode cx.1 pc = .ok (.invokevirtual idx, 3)) (kk : z_Sm cx r M2 (pc + 3) ls (v :: st) M1) : z_Sm cx r M2 pc ls (a1 :: .ref b :: st) M := z_callV (As := [a1]) hC hg hs hc rfl rfl (of_decide_eq_true hcat) d kk
theorem z_cV1v {cx cx2 : z_MC} {r : Option Value} {M M1 M2 : z_Mem} {pc idx b ci N : Nat} {ls : List (Option Value)} {st : List Value} {a1 : Value} {C : String} {T : u_T} {fks : List Nat} (hC : z_Ct cx2 [.ref b, a1] M none M1) (hg : z_CV cx.2.1 cx.2.2.2.2.2 idx cx2 C 1) (hs : z_shp[b]? = some (.inr (.inl (ci, fks)))) (hc : vwCl[ci]? = some (C, T, N)) (hcat : decide ((st.map fun v => v.category).sum ≤ 8) = true) (d : decode cx.1 pc = .ok (.invokevirtual idx, 3)) (kk : z_Sm cx r M2 (pc + 3) ls st M1) : z_Sm cx r M2 pc ls (a1 :: .ref b :: st) M := z_callV (As := [a1]) hC hg hs hc rfl rfl (of_decide_eq_true hcat) d kk
theorem z_cS1 {cx cx2 : z_MC} {r : Option Value} {M M1 M2 : z_Mem} {pc idx : Nat} {ls : List (Option Value)} {st : List Value} {a1 : Value} {v : Value} (hC : z_Ct cx2 [a1] M (some v) M1) (hg : z_CS cx.2.1 cx.2.2.2.2.2 idx cx2 1) (hcat : decide ((st.map fun v => v.category).sum ≤ 8) = true) (d : decode cx.1 pc = .ok (.invokestatic idx, 3)) (kk : z_Sm cx r M2 (pc + 3) ls (v :: st) M1) : z_Sm cx r M2 pc ls (a1 :: st) M := z_callS (As := [a1]) hC hg rfl rfl (of_decide_eq_true hcat) d kk
theorem z_cV2 {cx cx2 : z_MC} {r : Option Value} {M M1 M2 : z_Mem} {pc idx b ci N : Nat} {ls : List (Option Value)} {st : List Value} {a1 a2 : Value} {C : String} {T : u_T} {fks : List Nat} {v : Value} (hC : z_Ct cx2 [.ref b, a1, a2] M (some v) M1) (hg : z_CV cx.2.1 cx.2.2.2.2.2 idx cx2 C 2) (hs : z_shp[b]? = some (.inr (.inl (ci, fks)))) (hc : vwCl[ci]? = some (C, T, N)) (hcat : decide ((st.map fun v => v.category).sum ≤ 8) = true) (d : decode cx.1 pc = .ok (.invokevirtual idx, 3)) (kk : z_Sm cx r M2 (pc + 3) ls (v :: st) M1) : z_Sm cx r M2 pc ls (a2 :: a1 :: .ref b :: st) M := z_callV (As := [a1, a2]) hC hg hs hc rfl rfl (of_decide_eq_true hcat) d kk
theorem z_cV2v {cx cx2 : z_MC} {r : Option Value} {M M1 M2 : z_Mem} {pc idx b ci N : Nat} {ls : List (Option Value)} {st : List Value} {a1 a2 : Value} {C : String} {T : u_T} {fks : List Nat} (hC : z_Ct cx2 [.ref b, a1, a2] M none M1) (hg : z_CV cx.2.1 cx.2.2.2.2.2 idx cx2 C 2) (hs : z_shp[b]? = some (.inr (.inl (ci, fks)))) (hc : vwCl[ci]? = some (C, T, N)) (hcat : decide ((st.map fun v => v.category).sum ≤ 8) = true) (d : decode cx.1 pc = .ok (.invokevirtual idx, 3)) (kk : z_Sm cx r M2 (pc + 3) ls st M1) : z_Sm cx r M2 pc ls (a2 :: a1 :: .ref b :: st) M := z_callV (As := [a1, a2]) hC hg hs hc rfl rfl (of_decide_eq_true hcat) d kk
theorem z_cS2 {cx cx2 : z_MC} {r : Option Value} {M M1 M2 : z_Mem} {pc idx : Nat} {ls : List (Option Value)} {st : List Value} {a1 a2 : Value} {v : Value} (hC : z_Ct cx2 [a1, a2] M (some v) M1) (hg : z_CS cx.2.1 cx.2.2.2.2.2 idx cx2 2) (hcat : decide ((st.map fun v => v.category).sum ≤ 8) = true) (d : decode cx.1 pc = .ok (.invokestatic idx, 3)) (kk : z_Sm cx r M2 (pc + 3) ls (v :: st) M1) : z_Sm cx r M2 pc ls (a2 :: a1 :: st) M := z_callS (As := [a1, a2]) hC hg rfl rfl (of_decide_eq_true hcat) d kk
theorem z_cV3 {cx cx2 : z_MC} {r : Option Value} {M M1 M2 : z_Mem} {pc idx b ci N : Nat} {ls : List (Option Value)} {st : List Value} {a1 a2 a3 : Value} {C : String} {T : u_T} {fks : List Nat} {v : Value} (hC : z_Ct cx2 [.ref b, a1, a2, a3] M (some v) M1) (hg : z_CV cx.2.1 cx.2.2.2.2.2 idx cx2 C 3) (hs : z_shp[b]? = some (.inr (.inl (ci, fks)))) (hc : vwCl[ci]? = some (C, T, N)) (hcat : decide ((st.map fun v => v.category).sum ≤ 8) = true) (d : decode cx.1 pc = .ok (.invokevirtual idx, 3)) (kk : z_Sm cx r M2 (pc + 3) ls (v :: st) M1) : z_Sm cx r M2 pc ls (a3 :: a2 :: a1 :: .ref b :: st) M := z_callV (As := [a1, a2, a3]) hC hg hs hc rfl rfl (of_decide_eq_true hcat) d kk
theorem z_cV3v {cx cx2 : z_MC} {r : Option Value} {M M1 M2 : z_Mem} {pc idx b ci N : Nat} {ls : List (Option Value)} {st : List Value} {a1 a2 a3 : Value} {C : String} {T : u_T} {fks : List Nat} (hC : z_Ct cx2 [.ref b, a1, a2, a3] M none M1) (hg : z_CV cx.2.1 cx.2.2.2.2.2 idx cx2 C 3) (hs : z_shp[b]? = some (.inr (.inl (ci, fks)))) (hc : vwCl[ci]? = some (C, T, N)) (hcat : decide ((st.map fun v => v.category).sum ≤ 8) = true) (d : decode cx.1 pc = .ok (.invokevirtual idx, 3)) (kk : z_Sm cx r M2 (pc + 3) ls st M1) : z_Sm cx r M2 pc ls (a3 :: a2 :: a1 :: .ref b :: st) M := z_callV (As := [a1, a2, a3]) hC hg hs hc rfl rfl (of_decide_eq_true hcat) d kk
theorem z_cS3 {cx cx2 : z_MC} {r : Option Value} {M M1 M2 : z_Mem} {pc idx : Nat} {ls : List (Option Value)} {st : List Value} {a1 a2 a3 : Value} {v : Value} (hC : z_Ct cx2 [a1, a2, a3] M (some v) M1) (hg : z_CS cx.2.1 cx.2.2.2.2.2 idx cx2 3) (hcat : decide ((st.map fun v => v.category).sum ≤ 8) = true) (d : decode cx.1 pc = .ok (.invokestatic idx, 3)) (kk : z_Sm cx r M2 (pc + 3) ls (v :: st) M1) : z_Sm cx r M2 pc ls (a3 :: a2 :: a1 :: st) M := z_callS (As := [a1, a2, a3]) hC hg rfl rfl (of_decide_eq_true hcat) d kk
theorem z_cV4 {cx cx2 : z_MC} {r : Option Value} {M M1 M2 : z_Mem} {pc idx b ci N : Nat} {ls : List (Option Value)} {st : List Value} {a1 a2 a3 a4 : Value} {C : String} {T : u_T} {fks : List Nat} {v : Value} (hC : z_Ct cx2 [.ref b, a1, a2, a3, a4] M (some v) M1) (hg : z_CV cx.2.1 cx.2.2.2.2.2 idx cx2 C 4) (hs : z_shp[b]? = some (.inr (.inl (ci, fks)))) (hc : vwCl[ci]? = some (C, T, N)) (hcat : decide ((st.map fun v => v.category).sum ≤ 8) = true) (d : decode cx.1 pc = .ok (.invokevirtual idx, 3)) (kk : z_Sm cx r M2 (pc + 3) ls (v :: st) M1) : z_Sm cx r M2 pc ls (a4 :: a3 :: a2 :: a1 :: .ref b :: st) M := z_callV (As := [a1, a2, a3, a4]) hC hg hs hc rfl rfl (of_decide_eq_true hcat) d kk
theorem z_cV4v {cx cx2 : z_MC} {r : Option Value} {M M1 M2 : z_Mem} {pc idx b ci N : Nat} {ls : List (Option Value)} {st : List Value} {a1 a2 a3 a4 : Value} {C : String} {T : u_T} {fks : List Nat} (hC : z_Ct cx2 [.ref b, a1, a2, a3, a4] M none M1) (hg : z_CV cx.2.1 cx.2.2.2.2.2 idx cx2 C 4) (hs : z_shp[b]? = some (.inr (.inl (ci, fks)))) (hc : vwCl[ci]? = some (C, T, N)) (hcat : decide ((st.map fun v => v.category).sum ≤ 8) = true) (d : decode cx.1 pc = .ok (.invokevirtual idx, 3)) (kk : z_Sm cx r M2 (pc + 3) ls st M1) : z_Sm cx r M2 pc ls (a4 :: a3 :: a2 :: a1 :: .ref b :: st) M := z_callV (As := [a1, a2, a3, a4]) hC hg hs hc rfl rfl (of_decide_eq_true hcat) d kk
theorem z_cS4 {cx cx2 : z_MC} {r : Option Value} {M M1 M2 : z_Mem} {pc idx : Nat} {ls : List (Option Value)} {st : List Value} {a1 a2 a3 a4 : Value} {v : Value} (hC : z_Ct cx2 [a1, a2, a3, a4] M (some v) M1) (hg : z_CS cx.2.1 cx.2.2.2.2.2 idx cx2 4) (hcat : decide ((st.map fun v => v.category).sum ≤ 8) = true) (d : decode cx.1 pc = .ok (.invokestatic idx, 3)) (kk : z_Sm cx r M2 (pc + 3) ls (v :: st) M1) : z_Sm cx r M2 pc ls (a4 :: a3 :: a2 :: a1 :: st) M := z_callS (As := [a1, a2, a3, a4]) hC hg rfl rfl (of_decide_eq_true hcat) d kk
theorem z_swo {x : Int32} {lo hi : Nat} (hh : hi < 2 ^ 31) (h : ∀ k, lo ≤ k → k ≤ hi → ¬ x = nI k) : x.toInt < (lo : Int) ∨ (hi : Int) < x.toInt := by
  by_cases q : x.toInt < (lo : Int)
  · exact Or.inl q
  by_cases q2 : (hi : Int) < x.toInt
  · exact Or.inr q2
  exfalso
  obtain ⟨k, hk⟩ := Int.eq_ofNat_of_zero_le (show 0 ≤ x.toInt by omega)
  refine h k (by omega) (by omega) (Int32.toInt_inj.mp ?_)
  rw [hk, nI_toInt (by omega)]
theorem z_sw0_6 {x : Int32} (h0 : ¬ x = 0) (h1 : ¬ x = 1) (h2 : ¬ x = 2) (h3 : ¬ x = 3) (h4 : ¬ x = 4) (h5 : ¬ x = 5) (h6 : ¬ x = 6) : x.toInt < 0 ∨ 6 < x.toInt := z_swo (lo := 0) (hi := 6) (by decide) (fun k p1 p2 => by
  rcases (show k = 0 ∨ k = 1 ∨ k = 2 ∨ k = 3 ∨ k = 4 ∨ k = 5 ∨ k = 6 by omega) with rfl | rfl | rfl | rfl | rfl | rfl | rfl
  · exact h0
  · exact h1
  · exact h2
  · exact h3
  · exact h4
  · exact h5
  · exact h6)
theorem z_sw0_10 {x : Int32} (h0 : ¬ x = 0) (h1 : ¬ x = 1) (h2 : ¬ x = 2) (h3 : ¬ x = 3) (h4 : ¬ x = 4) (h5 : ¬ x = 5) (h6 : ¬ x = 6) (h7 : ¬ x = 7) (h8 : ¬ x = 8) (h9 : ¬ x = 9) (h10 : ¬ x = 10) : x.toInt < 0 ∨ 10 < x.toInt := z_swo (lo := 0) (hi := 10) (by decide) (fun k p1 p2 => by
  rcases (show k = 0 ∨ k = 1 ∨ k = 2 ∨ k = 3 ∨ k = 4 ∨ k = 5 ∨ k = 6 ∨ k = 7 ∨ k = 8 ∨ k = 9 ∨ k = 10 by omega) with rfl | rfl | rfl | rfl | rfl | rfl | rfl | rfl | rfl | rfl | rfl
  · exact h0
  · exact h1
  · exact h2
  · exact h3
  · exact h4
  · exact h5
  · exact h6
  · exact h7
  · exact h8
  · exact h9
  · exact h10)
theorem z_sw0_5 {x : Int32} (h0 : ¬ x = 0) (h1 : ¬ x = 1) (h2 : ¬ x = 2) (h3 : ¬ x = 3) (h4 : ¬ x = 4) (h5 : ¬ x = 5) : x.toInt < 0 ∨ 5 < x.toInt := z_swo (lo := 0) (hi := 5) (by decide) (fun k p1 p2 => by
  rcases (show k = 0 ∨ k = 1 ∨ k = 2 ∨ k = 3 ∨ k = 4 ∨ k = 5 by omega) with rfl | rfl | rfl | rfl | rfl | rfl
  · exact h0
  · exact h1
  · exact h2
  · exact h3
  · exact h4
  · exact h5)
theorem z_sw1_3 {x : Int32} (h1 : ¬ x = 1) (h2 : ¬ x = 2) (h3 : ¬ x = 3) : x.toInt < 1 ∨ 3 < x.toInt := z_swo (lo := 1) (hi := 3) (by decide) (fun k p1 p2 => by
  rcases (show k = 1 ∨ k = 2 ∨ k = 3 by omega) with rfl | rfl | rfl
  · exact h1
  · exact h2
  · exact h3)
theorem z_n1 {x : Int32} {j : Nat} (h : x = nI j) : x + Int32.ofInt 1 = nI (j + 1) := by rw [h]; exact (nI_succ j).symm
theorem z_nlt {a b : Nat} (ha : a < 2 ^ 31) (hb : b < 2 ^ 31) : nI a < nI b ↔ a < b := nI_ltI ha hb
theorem z_nge {a b : Nat} (ha : a < 2 ^ 31) (hb : b < 2 ^ 31) : nI b ≤ nI a ↔ b ≤ a := nI_leI hb ha
theorem z_lit (n : Nat) : (OfNat.ofNat n : Int32) = nI n := rfl
/-- comparing numbers that are Nats: at a loop's head -/
theorem z_ge {x y : Int32} {a b : Nat} (h : y ≤ x) (hx : x = nI a) (hy : y = nI b) (ha : a < 2 ^ 31) (hb : b < 2 ^ 31) : b ≤ a := by subst hx; subst hy; exact (nI_leI hb ha).mp h
theorem z_lt {x y : Int32} {a b : Nat} (h : ¬ y ≤ x) (hx : x = nI a) (hy : y = nI b) (ha : a < 2 ^ 31) (hb : b < 2 ^ 31) : a < b := by subst hx; subst hy; exact Nat.lt_of_not_le (fun q => h ((nI_leI hb ha).mpr q))
theorem z_gt {x y : Int32} {a b : Nat} (h : y < x) (hx : x = nI a) (hy : y = nI b) (ha : a < 2 ^ 31) (hb : b < 2 ^ 31) : b < a := by subst hx; subst hy; exact (nI_ltI hb ha).mp h
theorem z_ngt {x y : Int32} {a b : Nat} (h : ¬ y < x) (hx : x = nI a) (hy : y = nI b) (ha : a < 2 ^ 31) (hb : b < 2 ^ 31) : a ≤ b := by subst hx; subst hy; exact Nat.le_of_not_lt (fun q => h ((nI_ltI hb ha).mpr q))
