def R_law : String := "SafetyPinsLaw"
def lw_P (b : Addr) (xs : List Int32) (args : Array Value) (s : State) : Prop := args = #[.ref b] ∧ s.IntsAt b xs ∧ xs.length ≤ 320 ∧ (Jvm.Cond.and given_1 narrow_1).before args s = true
def lw_Q (_ : Array Value) (s : State) (o : Outcome) (t : State) : Prop := o = .returned (some (.int 1)) ∧ Framed s o t [] 600000 7302250
def lw_Z (below : List Frame) (a : Array Value) (s : State) : State → Prop := fun t => ∃ o, t.status = .running ∧ Ended t below o ∧ lw_Q a s o t
/-- the law's own end, with 1 on the stack, nothing written that was there before, its room as the claim has it -/
theorem lw_ret {p : Program} {l : Launch} {e : Env} {s : State} {m : MethodId} {below : List Frame} {meth : Method} {c : Code} {b : Nat} (hx : p.tables.exec = Jvm.exec) (hb : c.code = code) (hr : meth.sig.returnType = ret) (hlocks : meth.locks = false) {pc : Nat} {H : Heap} {ls : Array Slot} (hdg : decode code pc = .ok (.ireturn, 1)) : W p l e room_1 s m #[Value.ref b] below meth c H [] 600000 7302250 (lw_Z below #[Value.ref b] s) (F0 m pc ls [.int 1]) := by
  intro T hT X
  obtain ⟨fs, hret, hrun, hended, hW, hframe⟩ := X.leave (v := some (.int 1)) (hlocks := hlocks) (fun h => by rw [hr] at h; cases h)
  have hmeth' : T.vm.method? m = some meth := X.method'
  refine ⟨T.setFrames fs, ?_, .returned (some (.int 1)), hrun, hended, rfl, ⟨_, rfl⟩, hW, hframe⟩
  jvm_step X.here [X.here.top, hx, hb, hdg, hmeth', hr, ret, narrow_b1]
  (try refine ⟨rfl, ?_⟩); (try refine ⟨rfl, ?_⟩)
  first | (intro acts; rw [hret _ acts rfl rfl rfl]) | rw [hret _ _ rfl rfl rfl]
  exact Steps.refl _
/-- what holds at the law's entry: the machine, the code, the tables' words (any of lw_tbl by 'hts w (by decide +kernel)'), the script of L ints xs at the cell b, what the Statement gives of the start (any of its parts by flat_of_before) -/
def lw_At (p : Program) (s : State) (m : MethodId) (meth : Method) (c : Code) (b L : Nat) (xs : Nat → Int32) : Prop :=
  p.tables.exec = Jvm.exec ∧ c.code = code ∧ meth.sig.returnType = ret ∧ c.maxLocals = 4 ∧ s.vm.findClass R_law = some m.cls ∧ (∀ w ∈ lw_tbl, w.before #[Value.ref b] s = true) ∧ va_X b L xs s s.heap ∧ b < s.heap.size ∧ meth.locks = false ∧ (Jvm.Cond.and given_1 narrow_1).before #[Value.ref b] s = true
/-! ===== the start: what the constructors have laid is the memory of zeros ===== -/
def M00 : z_Mem := (fun _ _ => 0, fun _ _ => 0)
def y_rel : y_S → z_Sh → Bool
  | .inl q, .inl r => q == r
  | .inr (.inl q), .inr (.inl r) => q.1 == r.1 && q.2 == r.2.map (fun f => if f < 2 then f else f + 1)
  | .inr (.inr q), .inr (.inr r) => q == r.map (fun f => f + 1)
  | _, _ => false
theorem y_fs (ad : Nat → Nat) (id : Nat) : ∀ (fs : List Nat) (j : Nat), (fs.map (fun f => if f < 2 then f else f + 1)).map (y_fv ad) = z_fs ad M00 id j fs
  | [], _ => rfl
  | f :: fs, j => by
    rw [List.map_cons, List.map_cons, z_fs, y_fs ad id fs (j + 1)]
    refine congrArg (fun v => v :: z_fs ad M00 id (j + 1) fs) ?_
    match f with
    | 0 => rfl
    | 1 => rfl
    | f + 2 =>
      show y_fv ad (if f + 2 < 2 then f + 2 else f + 2 + 1) = _
      rw [if_neg (by omega)]
      rfl
theorem y_rel_ok {cy : Nat → ClassId} {ad : Nat → Nat} {id : Nat} : ∀ (x : y_S) (y : z_Sh), y_rel x y = true → y_ent cy ad x = z_ent cy ad M00 id y
  | .inl q, .inl r, h => by
    have h : q = r := by simpa [y_rel] using h
    subst h
    rfl
  | .inr (.inl q), .inr (.inl r), h => by
    simp only [y_rel, Bool.and_eq_true, beq_iff_eq] at h
    show Sum.inr (q.1, q.2.map (y_fv ad)) = Sum.inr (r.1, z_fs ad M00 id 0 r.2)
    rw [h.1, h.2, y_fs]
  | .inr (.inr q), .inr (.inr r), h => by
    simp only [y_rel, beq_iff_eq] at h
    subst h
    have e : (fun k : Nat => ((r.map (fun f => f + 1))[k]?).bind (y_rf ad)) = fun k => (r[k]?).map ad := by
      funext k
      rw [List.getElem?_map]
      cases r[k]? <;> rfl
    show (Sum.inl (cy 2, (r.map (fun f => f + 1)).length, .inr (.inr (.inr (.inr (fun k : Nat => ((r.map (fun f => f + 1))[k]?).bind (y_rf ad)))))) : va_E) = Sum.inl (cy 2, r.length, .inr (.inr (.inr (.inr (fun k => (r[k]?).map ad)))))
    rw [e, List.length_map]
  | .inl _, .inr (.inl _), h => by cases h
  | .inl _, .inr (.inr _), h => by cases h
  | .inr (.inl _), .inl _, h => by cases h
  | .inr (.inl _), .inr (.inr _), h => by cases h
  | .inr (.inr _), .inl _, h => by cases h
  | .inr (.inr _), .inr (.inl _), h => by cases h
theorem y_all : ∀ k, k < 79 → y_rel (y_L yL79 k) ((z_shp[k]?).getD (.inl (0, 0))) = true := by decide +kernel
theorem z_shp_len : z_shp.length = 79 := by decide +kernel
theorem z_wd_at {cy : Nat → ClassId} {ad : Nat → Nat} {M : z_Mem} {k : Nat} {q : Nat × va_E} (h : (z_wd cy ad M)[k]? = some q) : k < 79 ∧ q = (ad k, z_ent cy ad M k ((z_shp[k]?).getD (.inl (0, 0)))) := by
  have hl : k < (z_wd cy ad M).length := (List.getElem?_eq_some_iff.mp h).1
  have hl2 : k < z_shp.length := by rwa [z_wd, z_wdf_len] at hl
  have hs : z_shp[k]? = some z_shp[k] := List.getElem?_eq_getElem hl2
  have e := z_wd_get (cy := cy) (ad := ad) (M := M) hs
  rw [hs]
  rw [z_shp_len] at hl2
  exact ⟨hl2, Option.some.inj (h.symm.trans e)⟩
theorem y_to_z {D : va_G} {cy : Nat → ClassId} {ad : Nat → Nat} {H : Heap} (h : y_P D cy ad (y_L yL79) 79 H) : va_P D vwCl (z_wd cy ad M00) H := fun k q hk => by
  obtain ⟨h1, rfl⟩ := z_wd_at hk
  have g := h k h1
  rw [y_rel_ok (id := k) _ _ (y_all k h1)] at g
  exact g
theorem z_D {cy : Nat → ClassId} {ad : Nat → Nat} {M : z_Mem} (had : y_ad ad) : va_D (z_A ad) (z_wd cy ad M) := by
  refine ⟨fun i j p q hi hj e => ?_, fun k q hk => ?_⟩
  · obtain ⟨h1, rfl⟩ := z_wd_at hi
    obtain ⟨h2, rfl⟩ := z_wd_at hj
    have e : ad i = ad j := e
    rw [had i (by omega), had j (by omega)] at e
    omega
  · obtain ⟨h1, rfl⟩ := z_wd_at hk
    exact ⟨k, h1, rfl⟩
theorem J_0 : J 0 M00 := by
  refine ⟨fun _ => 0, 0, (0, fun _ => 0, fun _ => 0, fun _ => 0, fun _ => 0), (0, fun _ => 0, fun _ => 0), (0, fun _ => 0, fun _ => 0), (0, fun _ => 0, 0), [], none, none, [], 0, ?_, ?_, ?_⟩
  · exact ⟨⟨rfl, by decide, fun i h => absurd h (Nat.not_lt_zero i)⟩, ⟨⟨rfl, by decide, fun i h => absurd h (Nat.not_lt_zero i)⟩, fun i h => absurd h (Nat.not_lt_zero i)⟩, ⟨rfl, by decide, fun i h => absurd h (Nat.not_lt_zero i)⟩, ⟨rfl, by decide, fun i h => absurd h (Nat.not_lt_zero i)⟩, ⟨rfl, fun _ _ => rfl, rfl⟩, ⟨0, by decide, rfl, rfl, by decide, fun i pl h => by simp at h⟩, rfl, rfl, ⟨rfl, by decide, fun i q h => by simp at h⟩, rfl⟩
  · exact ⟨⟨rfl, by decide, fun i h => absurd h (Nat.not_lt_zero i)⟩, ⟨rfl, by decide, fun i h => absurd h (Nat.not_lt_zero i)⟩, ⟨rfl, by decide, fun i h => absurd h (Nat.not_lt_zero i)⟩, ⟨rfl, by decide, fun i h => absurd h (Nat.not_lt_zero i)⟩, ⟨rfl, fun _ _ => rfl, rfl⟩, ⟨0, by decide, rfl, rfl, by decide, fun i pl h => by simp at h⟩, rfl, rfl, ⟨rfl, by decide, fun i q h => by simp at h⟩, rfl⟩
  · exact ⟨⟨⟨by decide, fun i h => absurd h (Nat.not_lt_zero i)⟩, ⟨by decide, fun i h => absurd h (Nat.not_lt_zero i)⟩, ⟨by decide, fun i h => absurd h (Nat.not_lt_zero i)⟩⟩, ⟨sm7_0, fun _ _ _ => rfl, Nat.le_refl 0⟩, fun q h => absurd h List.not_mem_nil, fun q h => by (cases h), fun q h => by (cases h), fun q h => absurd h List.not_mem_nil⟩
/-! ===== what the tables and the premises give at the law's entry ===== -/
def pk8 {α : Type} (a0 a1 a2 a3 a4 a5 a6 a7 : α) : Nat → α
  | 0 => a0
  | 1 => a1
  | 2 => a2
  | 3 => a3
  | 4 => a4
  | 5 => a5
  | 6 => a6
  | _ => a7
def pk3 {α : Type} (a0 a1 a2 : α) : Nat → α
  | 0 => a0
  | 1 => a1
  | _ => a2
theorem lw_in {w : Cond} (i : Nat) (h : tables_1[i]? = some w) : w ∈ lw_tbl := List.mem_append_right _ (List.mem_of_getElem? h)
theorem z_tb_lw {w : Cond} (h : w ∈ z_tb) : w ∈ lw_tbl := (List.mem_filter.mp h).1
set_option maxRecDepth 100000 in
set_option maxHeartbeats 4000000 in
theorem q_classes {s : State} {args : Array Value} (hts : ∀ w ∈ lw_tbl, w.before args s = true) : ∃ (D : va_G) (cy : Nat → ClassId), va_K D vwCl (z_ty cy) s := by
  obtain ⟨c0, i0, k0⟩ := u_known hts (fun w h => z_tb_lw (z_u0 w h)) (hts _ (z_tb_lw q_tX0))
  obtain ⟨c1, i1, k1⟩ := u_known hts (fun w h => z_tb_lw (z_u1 w h)) (hts _ (z_tb_lw q_tX1))
  obtain ⟨c2, i2, k2⟩ := u_known hts (fun w h => z_tb_lw (z_u2 w h)) (hts _ (z_tb_lw q_tX2))
  obtain ⟨c3, i3, k3⟩ := u_known hts (fun w h => z_tb_lw (z_u3 w h)) (hts _ (z_tb_lw q_tX3))
  obtain ⟨c4, i4, k4⟩ := u_known hts (fun w h => z_tb_lw (z_u4 w h)) (hts _ (z_tb_lw q_tX4))
  obtain ⟨c5, i5, k5⟩ := u_known hts (fun w h => z_tb_lw (z_u5 w h)) (hts _ (z_tb_lw q_tX5))
  obtain ⟨c6, i6, k6⟩ := u_known hts (fun w h => z_tb_lw (z_u6 w h)) (hts _ (z_tb_lw q_tX6))
  obtain ⟨c7, i7, k7⟩ := u_known hts (fun w h => z_tb_lw (z_u7 w h)) (hts _ (z_tb_lw q_tX7))
  obtain ⟨aI, kI, pI, f1, f2, f3⟩ := Cond.arrayClass_spec (hts _ (z_tb_lw q_aI))
  obtain ⟨aZ, kZ, pZ, g1, g2, g3⟩ := Cond.arrayClass_spec (hts _ (z_tb_lw q_aZ))
  obtain ⟨pP, aP, kP, h1, -, h3, h4, h5⟩ := Cond.arrayOver_spec (hts (.arrayOver (.object "SafetyPins$Plight")) (lw_in 132 (by decide +kernel)))
  refine ⟨(pk8 c0 c1 c2 c3 c4 c5 c6 c7, pk8 i0 i1 i2 i3 i4 i5 i6 i7), pk3 aI aZ aP, fun c q hc => ?_, fun k q hk => ?_⟩
  · match c, hc with
    | 0, hc => cases hc; exact k0
    | 1, hc => cases hc; exact k1
    | 2, hc => cases hc; exact k2
    | 3, hc => cases hc; exact k3
    | 4, hc => cases hc; exact k4
    | 5, hc => cases hc; exact k5
    | 6, hc => cases hc; exact k6
    | 7, hc => cases hc; exact k7
    | k + 8, hc => simp at hc
  · match k, hk with
    | 0, hk => cases hk; exact ⟨fun n z => ⟨fun k h => (by cases h), kI, f2, pI, f3⟩, f1⟩
    | 1, hk => cases hk; exact ⟨fun n z => ⟨fun k h => (by cases h), kZ, g2, pZ, g3⟩, g1⟩
    | 2, hk => cases hk; exact ⟨fun n z => ⟨fun k h => (by cases h), kP, h3, pP, h4⟩, kP, pP, h3, h4, h1, h5⟩
    | k + 3, hk => simp [z_ty] at hk
theorem q_tb {s : State} {args : Array Value} (hts : ∀ w ∈ lw_tbl, w.before args s = true) : y_tb s := by
  refine ⟨va_AO.of (hts (.arrayOver (.object "SafetyPins$Plight")) (lw_in 132 (by decide +kernel))), fun q hq => ?_⟩
  simp only [y_nest, List.mem_cons, List.not_mem_nil, or_false] at hq
  rcases hq with rfl | rfl | rfl | rfl | rfl
  · exact va_Nw.of rfl (hts _ (lw_in 21 (by decide +kernel)))
  · exact va_Nw.of rfl (hts _ (lw_in 38 (by decide +kernel)))
  · exact va_Nw.of rfl (hts _ (lw_in 105 (by decide +kernel)))
  · exact va_Nw.of rfl (hts _ (lw_in 133 (by decide +kernel)))
  · exact va_Nw.of rfl (hts _ (lw_in 147 (by decide +kernel)))
set_option maxRecDepth 100000 in
set_option maxHeartbeats 4000000 in
theorem q_statics {s : State} {args : Array Value} (hts : ∀ w ∈ lw_tbl, w.before args s = true) (hg : (Jvm.Cond.and given_1 narrow_1).before args s = true) (b : Nat) : ∃ ad : Nat → Nat, z_st ad s s.heap ∧ y_ad ad ∧ ad 0 = s.heap.size ∧ ad 2000 = b := by
  have hs := flat_of_before _ hg
  have hA : ∀ a : Nat, a < s.heap.size → ¬ (fun q : Nat => s.heap.size ≤ q) a := fun a h => Nat.not_le.mpr h
  obtain ⟨tF, evF, hF⟩ := va_Tof (tm := .static "SafetyPins" "FACTORIALS" "[I") (ty := .int) (N := 8) (f := fun k => .int (z_FA.getD k 0)) (A := fun q => s.heap.size ≤ q) (by decide) (hs (.arrayOf (.static "SafetyPins" "FACTORIALS" "[I") .int) (by decide +kernel)) (va_eqt (hs (.eq (.length (.static "SafetyPins" "FACTORIALS" "[I")) (.int 8)) (by decide +kernel))) (fun j hj => by
    rcases (show j = 0 ∨ j = 1 ∨ j = 2 ∨ j = 3 ∨ j = 4 ∨ j = 5 ∨ j = 6 ∨ j = 7 by omega) with rfl | rfl | rfl | rfl | rfl | rfl | rfl | rfl
    · exact va_eqt (hs (.eq (.elem (.static "SafetyPins" "FACTORIALS" "[I") (.int 0)) (.int 1)) (by decide +kernel))
    · exact va_eqt (hs (.eq (.elem (.static "SafetyPins" "FACTORIALS" "[I") (.int 1)) (.int 1)) (by decide +kernel))
    · exact va_eqt (hs (.eq (.elem (.static "SafetyPins" "FACTORIALS" "[I") (.int 2)) (.int 2)) (by decide +kernel))
    · exact va_eqt (hs (.eq (.elem (.static "SafetyPins" "FACTORIALS" "[I") (.int 3)) (.int 6)) (by decide +kernel))
    · exact va_eqt (hs (.eq (.elem (.static "SafetyPins" "FACTORIALS" "[I") (.int 4)) (.int 24)) (by decide +kernel))
    · exact va_eqt (hs (.eq (.elem (.static "SafetyPins" "FACTORIALS" "[I") (.int 5)) (.int 120)) (by decide +kernel))
    · exact va_eqt (hs (.eq (.elem (.static "SafetyPins" "FACTORIALS" "[I") (.int 6)) (.int 720)) (by decide +kernel))
    · exact va_eqt (hs (.eq (.elem (.static "SafetyPins" "FACTORIALS" "[I") (.int 7)) (.int 5040)) (by decide +kernel))) hA
  obtain ⟨tT, evT, hT⟩ := va_Tof (tm := .static "SafetyPins" "THOUSANDS" "[J") (ty := .long) (N := 5) (f := fun k => .long (z_TH.getD k 0)) (A := fun q => s.heap.size ≤ q) (by decide) (hs (.arrayOf (.static "SafetyPins" "THOUSANDS" "[J") .long) (by decide +kernel)) (va_eqt (hs (.eq (.length (.static "SafetyPins" "THOUSANDS" "[J")) (.int 5)) (by decide +kernel))) (fun j hj => by
    rcases (show j = 0 ∨ j = 1 ∨ j = 2 ∨ j = 3 ∨ j = 4 by omega) with rfl | rfl | rfl | rfl | rfl
    · exact va_eqtl (hs (.eq (.elem (.static "SafetyPins" "THOUSANDS" "[J") (.int 0)) (.long 1)) (by decide +kernel))
    · exact va_eqtl (hs (.eq (.elem (.static "SafetyPins" "THOUSANDS" "[J") (.int 1)) (.long 1000)) (by decide +kernel))
    · exact va_eqtl (hs (.eq (.elem (.static "SafetyPins" "THOUSANDS" "[J") (.int 2)) (.long 1000000)) (by decide +kernel))
    · exact va_eqtl (hs (.eq (.elem (.static "SafetyPins" "THOUSANDS" "[J") (.int 3)) (.long 1000000000)) (by decide +kernel))
    · exact va_eqtl (hs (.eq (.elem (.static "SafetyPins" "THOUSANDS" "[J") (.int 4)) (.long 1000000000000)) (by decide +kernel))) hA
  have zF := va_Zof (A := fun q => s.heap.size ≤ q) (hts (.laysStatic "SafetyPins" "FACTORIALS" "[I") (lw_in 498 (by decide +kernel))) (hts (.initialized "SafetyPins") (lw_in 1 (by decide +kernel))) evF hA
  have zT := va_Zof (A := fun q => s.heap.size ≤ q) (hts (.laysStatic "SafetyPins" "THOUSANDS" "[J") (lw_in 446 (by decide +kernel))) (hts (.initialized "SafetyPins") (lw_in 1 (by decide +kernel))) evT hA
  have had : y_ad (fun i => if i < 1000 then s.heap.size + i else if i = 1000 then tF else if i = 1001 then tT else b) := fun i hi => by
    show (if i < 1000 then s.heap.size + i else _) = (if 0 < 1000 then s.heap.size + 0 else _) + i
    rw [if_pos (show i < 1000 by omega), if_pos (show 0 < 1000 by decide)]
    rfl
  have hAB : ∀ q, z_A (fun i => if i < 1000 then s.heap.size + i else if i = 1000 then tF else if i = 1001 then tT else b) q → s.heap.size ≤ q := by
    rintro q ⟨i, hi, rfl⟩
    show s.heap.size ≤ if i < 1000 then s.heap.size + i else _
    rw [if_pos (by omega)]
    omega
  exact ⟨_, ⟨zF.narrow hAB, zT.narrow hAB, hF.narrow hAB, hT.narrow hAB⟩, had, rfl, rfl⟩
