/-! ===== the law's own frame: its script is the cell 2000 ===== -/
def q_Fx (D : va_G) (cy : Nat → ClassId) (ad : Nat → Nat) (p : Program) (s : State) (m : MethodId) (meth : Method) (c : Code) (b Ln : Nat) (xs : Nat → Int32) : Prop := p.tables.exec = Jvm.exec ∧ c.code = code ∧ meth.sig.returnType = ret ∧ c.maxLocals = 4 ∧ s.vm.findClass R_law = some m.cls ∧ (∀ w ∈ lw_tbl, w.before #[Value.ref b] s = true) ∧ va_X b Ln xs s s.heap ∧ b < s.heap.size ∧ meth.locks = false ∧ va_K D vwCl (z_ty cy) s ∧ z_st ad s s.heap ∧ ad 2000 = b ∧ y_ad ad ∧ ad 0 = s.heap.size
def q_Wo (D : va_G) (cy : Nat → ClassId) (ad : Nat → Nat) (s : State) (M : z_Mem) (H : Heap) (locs : List Loc) : Prop := va_P D vwCl (z_wd cy ad M) H ∧ va_D (z_A ad) (z_wd cy ad M) ∧ va_S (y_A ad) s.heap H locs
def q_Sm (xs : Nat → Int32) (Ln pc : Nat) (ls : List (Option Value)) (st : List Value) (M : z_Mem) : Prop :=
  ∀ (l : Launch) (D : va_G) (cy : Nat → ClassId) (ad : Nat → Nat) (p : Program) (e : Env) (s : State) (m : MethodId) (below : List Frame) (meth : Method) (c : Code) (b : Nat) (H : Heap) (locs : List Loc) (ar : Array Slot),
    q_Fx D cy ad p s m meth c b Ln xs → q_Wo D cy ad s M H locs → z_Lo ad 4 ls ar →
    W p l e room_1 s m #[Value.ref b] below meth c H locs 600000 7302250 (lw_Z below #[Value.ref b] s) (F0 m pc ar (st.map (z_mv ad)))
theorem q_iconst {xs : Nat → Int32} {Ln pc : Nat} {ls : List (Option Value)} {st : List Value} {M : z_Mem} {n : Int} {v : Int32} (d : decode code pc = .ok (.iconst n, 1)) (hv : Int32.ofInt n = v) (k : q_Sm xs Ln (pc + 1) ls (.int v :: st) M) : q_Sm xs Ln pc ls (st) M := by
  intro l D cy ad p e s m below meth c b H locs ar F w h
  exact lv_iconst F.1 F.2.1 d hv (k l D cy ad p e s m below meth c b H locs ar F w h)
theorem q_bipush {xs : Nat → Int32} {Ln pc : Nat} {ls : List (Option Value)} {st : List Value} {M : z_Mem} {n : Int} {v : Int32} (d : decode code pc = .ok (.bipush n, 2)) (hv : (Int8.ofInt n).toInt32 = v) (k : q_Sm xs Ln (pc + 2) ls (.int v :: st) M) : q_Sm xs Ln pc ls (st) M := by
  intro l D cy ad p e s m below meth c b H locs ar F w h
  exact lv_bipush F.1 F.2.1 d hv (k l D cy ad p e s m below meth c b H locs ar F w h)
theorem q_iadd {xs : Nat → Int32} {Ln pc : Nat} {ls : List (Option Value)} {st : List Value} {M : z_Mem} {x y : Int32} (d : decode code pc = .ok (.iadd, 1)) (k : q_Sm xs Ln (pc + 1) ls (.int (x + y) :: st) M) : q_Sm xs Ln pc ls (.int y :: .int x :: st) M := by
  intro l D cy ad p e s m below meth c b H locs ar F w h
  exact lv_iadd F.1 F.2.1 d (k l D cy ad p e s m below meth c b H locs ar F w h)
theorem q_isub {xs : Nat → Int32} {Ln pc : Nat} {ls : List (Option Value)} {st : List Value} {M : z_Mem} {x y : Int32} (d : decode code pc = .ok (.isub, 1)) (k : q_Sm xs Ln (pc + 1) ls (.int (x - y) :: st) M) : q_Sm xs Ln pc ls (.int y :: .int x :: st) M := by
  intro l D cy ad p e s m below meth c b H locs ar F w h
  exact lv_isub F.1 F.2.1 d (k l D cy ad p e s m below meth c b H locs ar F w h)
theorem q_iand {xs : Nat → Int32} {Ln pc : Nat} {ls : List (Option Value)} {st : List Value} {M : z_Mem} {x y : Int32} (d : decode code pc = .ok (.iand, 1)) (k : q_Sm xs Ln (pc + 1) ls (.int (x &&& y) :: st) M) : q_Sm xs Ln pc ls (.int y :: .int x :: st) M := by
  intro l D cy ad p e s m below meth c b H locs ar F w h
  exact lv_iand F.1 F.2.1 d (k l D cy ad p e s m below meth c b H locs ar F w h)
theorem q_land {xs : Nat → Int32} {Ln pc : Nat} {ls : List (Option Value)} {st : List Value} {M : z_Mem} {x y : Int64} (d : decode code pc = .ok (.land, 1)) (k : q_Sm xs Ln (pc + 1) ls (.long (x &&& y) :: st) M) : q_Sm xs Ln pc ls (.long y :: .long x :: st) M := by
  intro l D cy ad p e s m below meth c b H locs ar F w h
  exact lv_land F.1 F.2.1 d (k l D cy ad p e s m below meth c b H locs ar F w h)
theorem q_lor {xs : Nat → Int32} {Ln pc : Nat} {ls : List (Option Value)} {st : List Value} {M : z_Mem} {x y : Int64} (d : decode code pc = .ok (.lor, 1)) (k : q_Sm xs Ln (pc + 1) ls (.long (x ||| y) :: st) M) : q_Sm xs Ln pc ls (.long y :: .long x :: st) M := by
  intro l D cy ad p e s m below meth c b H locs ar F w h
  exact lv_lor F.1 F.2.1 d (k l D cy ad p e s m below meth c b H locs ar F w h)
theorem q_i2l {xs : Nat → Int32} {Ln pc : Nat} {ls : List (Option Value)} {st : List Value} {M : z_Mem} {x : Int32} {v : Int64} (d : decode code pc = .ok (.i2l, 1)) (hv : x.toInt64 = v) (k : q_Sm xs Ln (pc + 1) ls (.long v :: st) M) : q_Sm xs Ln pc ls (.int x :: st) M := by
  intro l D cy ad p e s m below meth c b H locs ar F w h
  exact lv_i2l F.1 F.2.1 d hv (k l D cy ad p e s m below meth c b H locs ar F w h)
theorem q_lshl {xs : Nat → Int32} {Ln pc : Nat} {ls : List (Option Value)} {st : List Value} {M : z_Mem} {x v : Int64} {y : Int32} (d : decode code pc = .ok (.lshl, 1)) (hv : x <<< (y.toInt64 &&& 63) = v) (k : q_Sm xs Ln (pc + 1) ls (.long v :: st) M) : q_Sm xs Ln pc ls (.int y :: .long x :: st) M := by
  intro l D cy ad p e s m below meth c b H locs ar F w h
  exact lv_lshl F.1 F.2.1 d hv (k l D cy ad p e s m below meth c b H locs ar F w h)
theorem q_lcmp {xs : Nat → Int32} {Ln pc : Nat} {ls : List (Option Value)} {st : List Value} {M : z_Mem} {x y : Int64} (d : decode code pc = .ok (.lcmp, 1)) (k : q_Sm xs Ln (pc + 1) ls (.int (lg_cmp x y) :: st) M) : q_Sm xs Ln pc ls (.long y :: .long x :: st) M := by
  intro l D cy ad p e s m below meth c b H locs ar F w h
  exact W.lcmp F.1 F.2.1 d (k l D cy ad p e s m below meth c b H locs ar F w h)
theorem q_ldc2 {xs : Nat → Int32} {Ln pc : Nat} {ls : List (Option Value)} {st : List Value} {M : z_Mem} {index : Nat} {v : Int64} (hc : Jvm.Cond.constantLong RL index v ∈ z_tb) (d : decode code pc = .ok (.ldc2_w index, 3)) (k : q_Sm xs Ln (pc + 3) ls (.long v :: st) M) : q_Sm xs Ln pc ls (st) M := by
  intro l D cy ad p e s m below meth c b H locs ar F w h
  exact lv_ldc2 F.1 F.2.1 F.2.2.2.2.1 (F.2.2.2.2.2.1 _ (z_tb_lw hc)) d (k l D cy ad p e s m below meth c b H locs ar F w h)
theorem q_iload_n {xs : Nat → Int32} {Ln pc : Nat} {ls : List (Option Value)} {st : List Value} {M : z_Mem} {i : Fin 4} {x : Int32} (d : decode code pc = .ok (.iload_n i, 1)) (hl : ls[(i : Nat)]? = some (some (.int x))) (k : q_Sm xs Ln (pc + 1) ls (.int x :: st) M) : q_Sm xs Ln pc ls (st) M := by
  intro l D cy ad p e s m below meth c b H locs ar F w h
  exact lv_iload_n F.1 F.2.1 d rfl (h.2.2 _ _ hl) (k l D cy ad p e s m below meth c b H locs ar F w h)
theorem q_aload_n {xs : Nat → Int32} {Ln pc : Nat} {ls : List (Option Value)} {st : List Value} {M : z_Mem} {i : Fin 4} {x : Nat} (d : decode code pc = .ok (.aload_n i, 1)) (hl : ls[(i : Nat)]? = some (some (.ref x))) (k : q_Sm xs Ln (pc + 1) ls (.ref x :: st) M) : q_Sm xs Ln pc ls (st) M := by
  intro l D cy ad p e s m below meth c b H locs ar F w h
  exact lv_aload_n F.1 F.2.1 d rfl (h.2.2 _ _ hl) (k l D cy ad p e s m below meth c b H locs ar F w h)
theorem q_goto {xs : Nat → Int32} {Ln pc : Nat} {ls : List (Option Value)} {st : List Value} {M : z_Mem} {off : Int} {tgt : Nat} (d : decode code pc = .ok (.goto off, 3)) (ht : (pc : Int) + off = (tgt : Int)) (k : q_Sm xs Ln tgt ls st M) : q_Sm xs Ln pc ls st M := by
  intro l D cy ad p e s m below meth c b H locs ar F w h
  exact lv_goto F.1 F.2.1 d ht (k l D cy ad p e s m below meth c b H locs ar F w h)
theorem q_icmp_eq {xs : Nat → Int32} {Ln pc : Nat} {ls : List (Option Value)} {st : List Value} {M : z_Mem} {x y : Int32} {off : Int} {tgt : Nat} (d : decode code pc = .ok (.if_icmp .eq off, 3)) (ht : (pc : Int) + off = (tgt : Int)) (kt : x = y → q_Sm xs Ln tgt ls st M) (kf : ¬ x = y → q_Sm xs Ln (pc + 3) ls st M) : q_Sm xs Ln pc ls (.int y :: .int x :: st) M := by
  intro l D cy ad p e s m below meth c b H locs ar F w h
  exact lv_icmp_eq F.1 F.2.1 d ht (fun q => kt q l D cy ad p e s m below meth c b H locs ar F w h) (fun q => kf q l D cy ad p e s m below meth c b H locs ar F w h)
theorem q_icmp_gt {xs : Nat → Int32} {Ln pc : Nat} {ls : List (Option Value)} {st : List Value} {M : z_Mem} {x y : Int32} {off : Int} {tgt : Nat} (d : decode code pc = .ok (.if_icmp .gt off, 3)) (ht : (pc : Int) + off = (tgt : Int)) (kt : y < x → q_Sm xs Ln tgt ls st M) (kf : ¬ y < x → q_Sm xs Ln (pc + 3) ls st M) : q_Sm xs Ln pc ls (.int y :: .int x :: st) M := by
  intro l D cy ad p e s m below meth c b H locs ar F w h
  exact lv_icmp_gt F.1 F.2.1 d ht (fun q => kt q l D cy ad p e s m below meth c b H locs ar F w h) (fun q => kf q l D cy ad p e s m below meth c b H locs ar F w h)
theorem q_if_eq {xs : Nat → Int32} {Ln pc : Nat} {ls : List (Option Value)} {st : List Value} {M : z_Mem} {x : Int32} {off : Int} {tgt : Nat} (d : decode code pc = .ok (.ifCond .eq off, 3)) (ht : (pc : Int) + off = (tgt : Int)) (kt : x = 0 → q_Sm xs Ln tgt ls st M) (kf : ¬ x = 0 → q_Sm xs Ln (pc + 3) ls st M) : q_Sm xs Ln pc ls (.int x :: st) M := by
  intro l D cy ad p e s m below meth c b H locs ar F w h
  exact lv_if_eq F.1 F.2.1 d ht (fun q => kt q l D cy ad p e s m below meth c b H locs ar F w h) (fun q => kf q l D cy ad p e s m below meth c b H locs ar F w h)
theorem q_tswIn {xs : Nat → Int32} {Ln pc : Nat} {ls : List (Option Value)} {st : List Value} {M : z_Mem} {dflt lo hi off : Int} {offs : Array Int} {len tgt : Nat} {x : Int32} (d : decode code pc = .ok (.tableswitch dflt lo hi offs, len)) (h1 : ¬ x.toInt < lo) (h2 : ¬ hi < x.toInt) (ho : offs[(x.toInt - lo).toNat]? = some off) (ht : (pc : Int) + off = (tgt : Int)) (k : q_Sm xs Ln tgt ls st M) : q_Sm xs Ln pc ls (.int x :: st) M := by
  intro l D cy ad p e s m below meth c b H locs ar F w h
  exact lv_tableIn F.1 F.2.1 d h1 h2 ho ht (k l D cy ad p e s m below meth c b H locs ar F w h)
theorem q_tswOut {xs : Nat → Int32} {Ln pc : Nat} {ls : List (Option Value)} {st : List Value} {M : z_Mem} {dflt lo hi : Int} {offs : Array Int} {len tgt : Nat} {x : Int32} (d : decode code pc = .ok (.tableswitch dflt lo hi offs, len)) (h1 : x.toInt < lo ∨ hi < x.toInt) (ht : (pc : Int) + dflt = (tgt : Int)) (k : q_Sm xs Ln tgt ls st M) : q_Sm xs Ln pc ls (.int x :: st) M := by
  intro l D cy ad p e s m below meth c b H locs ar F w h
  exact lv_tableOut F.1 F.2.1 d h1 ht (k l D cy ad p e s m below meth c b H locs ar F w h)
theorem q_iinc {xs : Nat → Int32} {Ln pc : Nat} {ls : List (Option Value)} {st : List Value} {M : z_Mem} {i : Nat} {n : Int} {x v : Int32} (d : decode code pc = .ok (.iinc i n, 3)) (hl : ls[i]? = some (some (.int x))) (hv : x + Int32.ofInt n = v) (hi : z_okst i ls = true) (hn : i < 4) (k : q_Sm xs Ln (pc + 3) (ls.set i (some (.int v))) st M) : q_Sm xs Ln pc ls st M := by
  intro l D cy ad p e s m below meth c b H locs ar F w h
  have hh : lv_has ar 4 ((i, .int x) :: z_lvl ad ls) := by
    refine ⟨h.1, h.2.1, fun q hq => ?_⟩
    rcases List.mem_cons.mp hq with rfl | hq
    · exact h.2.2 _ _ hl
    · exact (z_lvh h).2.2 q hq
  refine lv_iinc (k := 0) F.1 F.2.1 d hh rfl hv hn rfl (fun ar2 h2 => k l D cy ad p e s m below meth c b H locs ar2 F w (z_lv1 (v := .int v) hi ⟨h2.1, h2.2.1, fun q hq => h2.2.2 q ?_⟩))
  rcases List.mem_cons.mp hq with rfl | hq
  · exact List.mem_cons_self
  · exact List.mem_cons_of_mem _ (List.mem_filter.mpr ⟨List.mem_cons_of_mem _ (List.mem_filter.mp hq).1, (List.mem_filter.mp hq).2⟩)
theorem q_sld {xs : Nat → Int32} {Ln pc : Nat} {ls : List (Option Value)} {st : List Value} {M : z_Mem} {i : Int32} (j : Nat) (hi : i = nI j ∧ j < Ln) (hL : Ln ≤ 320) (d : decode code pc = .ok (.iaload, 1)) (k : q_Sm xs Ln (pc + 1) ls (.int (xs j) :: st) M) : q_Sm xs Ln pc ls (.int i :: .ref 2000 :: st) M := by
  intro l D cy ad p e s m below meth c b H locs ar F w h
  obtain ⟨rfl, hj⟩ := hi
  have KK := k l D cy ad p e s m below meth c b H locs ar F w h
  rw [List.map_cons, List.map_cons]
  show W p l e room_1 s m #[Value.ref b] below meth c H locs 600000 7302250 (lw_Z below #[Value.ref b] s) (F0 m pc ar (.int (nI j) :: .ref (ad 2000) :: st.map (z_mv ad)))
  rw [F.2.2.2.2.2.2.2.2.2.2.2.1]
  refine va_sld F.1 F.2.1 F.2.2.2.2.2.2.1 F.2.2.2.2.2.2.2.1 (A := y_A ad) (fun q => ?_) w.2.2 (vp_in_nI hj (by omega)) d ?_
  · have q : ad 0 ≤ b := q
    have h1 := F.2.2.2.2.2.2.2.2.2.2.2.2.2
    have h2 := F.2.2.2.2.2.2.2.1
    omega
  · rw [nI_clamp (by omega)]
    exact KK
theorem q_slen {xs : Nat → Int32} {Ln pc : Nat} {ls : List (Option Value)} {st : List Value} {M : z_Mem} (d : decode code pc = .ok (.arraylength, 1)) (k : q_Sm xs Ln (pc + 1) ls (.int (nI Ln) :: st) M) : q_Sm xs Ln pc ls (.ref 2000 :: st) M := by
  intro l D cy ad p e s m below meth c b H locs ar F w h
  have KK := k l D cy ad p e s m below meth c b H locs ar F w h
  rw [List.map_cons]
  show W p l e room_1 s m #[Value.ref b] below meth c H locs 600000 7302250 (lw_Z below #[Value.ref b] s) (F0 m pc ar (.ref (ad 2000) :: st.map (z_mv ad)))
  rw [F.2.2.2.2.2.2.2.2.2.2.2.1]
  refine va_slen F.1 F.2.1 F.2.2.2.2.2.2.1 F.2.2.2.2.2.2.2.1 (A := y_A ad) (fun q => ?_) w.2.2 d KK
  have q : ad 0 ≤ b := q
  have h1 := F.2.2.2.2.2.2.2.2.2.2.2.2.2
  have h2 := F.2.2.2.2.2.2.2.1
  omega
theorem q_ret {xs : Nat → Int32} {Ln pc : Nat} {ls : List (Option Value)} {st : List Value} {M : z_Mem} (d : decode code pc = .ok (.ireturn, 1)) : q_Sm xs Ln pc ls [.int 1] M := by
  intro l D cy ad p e s m below meth c b H locs ar F w h
  refine va_forget (fun q hq => ?_) (lw_ret F.1 F.2.1 F.2.2.1 F.2.2.2.2.2.2.2.2.1 d)
  have h1 : ad 0 ≤ q.base := w.2.2.2.2 q hq
  have h2 := F.2.2.2.2.2.2.2.2.2.2.2.2.2
  omega
theorem q_apart {ad : Nat → Nat} (h : y_ad ad) {q : Nat} (hq : z_A ad q) : y_A ad q := by
  obtain ⟨i, hi, rfl⟩ := hq
  show ad 0 ≤ ad i
  rw [h i (by omega)]
  omega
theorem q_pre_at {D : va_G} {cy : Nat → ClassId} {ad : Nat → Nat} {p : Program} {s : State} {m : MethodId} {meth : Method} {c : Code} {b Ln : Nat} {xs : Nat → Int32} {M : z_Mem} {H : Heap} {locs : List Loc} {U : State} (F : q_Fx D cy ad p s m meth c b Ln xs) (w : q_Wo D cy ad s M H locs) (hU : U.heap = H) (hW : s.WarmedH U.vm) : z_Pre D cy ad M U := by
  refine ⟨by rw [hU]; exact w.1, va_K.moved hW.alike F.2.2.2.2.2.2.2.2.2.1, w.2.1, ?_⟩
  rw [hU]
  refine z_st_kept (z_st_moved hW.alike F.2.2.2.2.2.2.2.2.2.2.1) (fun a h1 _ => w.2.2.2.1 a h1 (fun q => ?_))
  have q : ad 0 ≤ a := q
  have h2 := F.2.2.2.2.2.2.2.2.2.2.2.2.2
  omega
theorem q_callV {xs : Nat → Int32} {Ln pc : Nat} {ls : List (Option Value)} {st : List Value} {M : z_Mem} {cx2 : z_MC} {ro : Option Value} {M1 : z_Mem} {idx n b2 ci N : Nat} {st0 As : List Value} {C : String} {T : u_T} {fks : List Nat} (hC : z_Ct cx2 (.ref b2 :: As) M ro M1) (hg : z_CV RL 9 idx cx2 C n) (hs : z_shp[b2]? = some (.inr (.inl (ci, fks)))) (hc : vwCl[ci]? = some (C, T, N)) (hn : As.length = n) (hst : st0 = As.reverse ++ .ref b2 :: st) (hcat : (st.map fun v => v.category).sum ≤ 8) (d : decode code pc = .ok (.invokevirtual idx, 3)) (k : q_Sm xs Ln (pc + 3) ls (ro.toList ++ st) M1) : q_Sm xs Ln pc ls st0 M := by
  intro l D cy ad p e s m below meth c b H locs ar F w h
  obtain ⟨g1, g3, g4, g5⟩ := hg
  have hget := z_wd_get (cy := cy) (ad := ad) (M := M) hs
  have hr := va_runV (R := room_1) (cells := 600000) (slots := 7302250) (locs := locs) (e := e) (below := below) (meth := meth) (l := l) (g := F0 m pc ar (st0.map (z_mv ad))) (As := As.map (z_mv ad)) (rest := st.map (z_mv ad)) (nL := 4) ⟨F.1, F.2.1, F.2.2.2.1, F.2.2.2.2.1, F.2.2.2.2.2.1⟩ (hC l D cy ad) (cwV n F.2.2.2.2.2.1 (z_gV (fun _ h9 => z_tb_lw h9) g1) rfl rfl rfl g3 ⟨g4, Nat.le_trans g5 (by decide)⟩) ⟨z_blind, va_recv (q0 := b2) F.2.2.2.2.2.2.2.2.2.1 w.1 hc hget, fun U hU hW => ⟨rfl, q_pre_at F w hU hW⟩⟩ rfl (by rw [List.length_map]; exact hn) h.1 (by
    subst hst
    show ((As.reverse ++ Value.ref b2 :: st).map (z_mv ad)) = _
    rw [List.map_append, List.map_cons, List.map_reverse]
    rfl) (lv_room (by rw [z_cats]; exact hcat)) d ⟨Nat.le_refl _, Nat.le_refl _⟩
  intro T' hT X
  obtain ⟨v, st₀, t, T2, L, h0, X', hL, e1, e2, ⟨⟨hv, hPt⟩, hz, hk⟩, go⟩ := hr T' hT X
  have hv : v = ro.map (z_mv ad) := by cases hv; rfl
  subst hv
  rw [h0] at hz hk
  have hS := w.2.2
  have had := F.2.2.2.2.2.2.2.2.2.2.2.2.1
  have KK := k l D cy ad p e s m below meth c b T2.heap (locs ++ L) ar F ⟨by rw [e1]; exact hPt.1, hPt.2.2.1, Nat.le_trans hS.1 (by rw [e1]; exact hz), fun q h1 h2 => by rw [e1, hk q (Nat.lt_of_lt_of_le h1 hS.1) (fun z => h2 (q_apart had z))]; exact hS.2.1 q h1 h2, fun q hq => by
      rcases List.mem_append.mp hq with h9 | h9
      · exact hS.2.2 q h9
      · exact q_apart had (hL q h9)⟩ h
  obtain ⟨t2, a1, b1⟩ := KK T2 rfl X'
  refine ⟨t2, go t2 ?_, b1⟩
  have e9 : (ro.map (z_mv ad)).toList ++ st.map (z_mv ad) = (ro.toList ++ st).map (z_mv ad) := by cases ro <;> simp
  rw [show ({ F0 m pc ar (st0.map (z_mv ad)) with pc := (F0 m pc ar (st0.map (z_mv ad))).pc + 3, stack := (ro.map (z_mv ad)).toList ++ st.map (z_mv ad) } : JFrame) = F0 m (pc + 3) ar ((ro.toList ++ st).map (z_mv ad)) by rw [e9]]
  exact a1
theorem q_cV0 {xs : Nat → Int32} {Ln pc : Nat} {ls : List (Option Value)} {st : List Value} {M : z_Mem} {cx2 : z_MC} {M1 : z_Mem} {idx b2 ci N : Nat}  {C : String} {T : u_T} {fks : List Nat} {v : Value} (hC : z_Ct cx2 [.ref b2] M (some v) M1) (hg : z_CV RL 9 idx cx2 C 0) (hs : z_shp[b2]? = some (.inr (.inl (ci, fks)))) (hc : vwCl[ci]? = some (C, T, N)) (hcat : decide ((st.map fun v => v.category).sum ≤ 8) = true) (d : decode code pc = .ok (.invokevirtual idx, 3)) (k : q_Sm xs Ln (pc + 3) ls (v :: st) M1) : q_Sm xs Ln pc ls (.ref b2 :: st) M := q_callV (As := []) hC hg hs hc rfl rfl (of_decide_eq_true hcat) d k
theorem q_cV1 {xs : Nat → Int32} {Ln pc : Nat} {ls : List (Option Value)} {st : List Value} {M : z_Mem} {cx2 : z_MC} {M1 : z_Mem} {idx b2 ci N : Nat} {a1 : Value} {C : String} {T : u_T} {fks : List Nat} {v : Value} (hC : z_Ct cx2 [.ref b2, a1] M (some v) M1) (hg : z_CV RL 9 idx cx2 C 1) (hs : z_shp[b2]? = some (.inr (.inl (ci, fks)))) (hc : vwCl[ci]? = some (C, T, N)) (hcat : decide ((st.map fun v => v.category).sum ≤ 8) = true) (d : decode code pc = .ok (.invokevirtual idx, 3)) (k : q_Sm xs Ln (pc + 3) ls (v :: st) M1) : q_Sm xs Ln pc ls (a1 :: .ref b2 :: st) M := q_callV (As := [a1]) hC hg hs hc rfl rfl (of_decide_eq_true hcat) d k
theorem q_cV2 {xs : Nat → Int32} {Ln pc : Nat} {ls : List (Option Value)} {st : List Value} {M : z_Mem} {cx2 : z_MC} {M1 : z_Mem} {idx b2 ci N : Nat} {a1 a2 : Value} {C : String} {T : u_T} {fks : List Nat} {v : Value} (hC : z_Ct cx2 [.ref b2, a1, a2] M (some v) M1) (hg : z_CV RL 9 idx cx2 C 2) (hs : z_shp[b2]? = some (.inr (.inl (ci, fks)))) (hc : vwCl[ci]? = some (C, T, N)) (hcat : decide ((st.map fun v => v.category).sum ≤ 8) = true) (d : decode code pc = .ok (.invokevirtual idx, 3)) (k : q_Sm xs Ln (pc + 3) ls (v :: st) M1) : q_Sm xs Ln pc ls (a2 :: a1 :: .ref b2 :: st) M := q_callV (As := [a1, a2]) hC hg hs hc rfl rfl (of_decide_eq_true hcat) d k
theorem q_cV3 {xs : Nat → Int32} {Ln pc : Nat} {ls : List (Option Value)} {st : List Value} {M : z_Mem} {cx2 : z_MC} {M1 : z_Mem} {idx b2 ci N : Nat} {a1 a2 a3 : Value} {C : String} {T : u_T} {fks : List Nat} {v : Value} (hC : z_Ct cx2 [.ref b2, a1, a2, a3] M (some v) M1) (hg : z_CV RL 9 idx cx2 C 3) (hs : z_shp[b2]? = some (.inr (.inl (ci, fks)))) (hc : vwCl[ci]? = some (C, T, N)) (hcat : decide ((st.map fun v => v.category).sum ≤ 8) = true) (d : decode code pc = .ok (.invokevirtual idx, 3)) (k : q_Sm xs Ln (pc + 3) ls (v :: st) M1) : q_Sm xs Ln pc ls (a3 :: a2 :: a1 :: .ref b2 :: st) M := q_callV (As := [a1, a2, a3]) hC hg hs hc rfl rfl (of_decide_eq_true hcat) d k
theorem q_cV4 {xs : Nat → Int32} {Ln pc : Nat} {ls : List (Option Value)} {st : List Value} {M : z_Mem} {cx2 : z_MC} {M1 : z_Mem} {idx b2 ci N : Nat} {a1 a2 a3 a4 : Value} {C : String} {T : u_T} {fks : List Nat} {v : Value} (hC : z_Ct cx2 [.ref b2, a1, a2, a3, a4] M (some v) M1) (hg : z_CV RL 9 idx cx2 C 4) (hs : z_shp[b2]? = some (.inr (.inl (ci, fks)))) (hc : vwCl[ci]? = some (C, T, N)) (hcat : decide ((st.map fun v => v.category).sum ≤ 8) = true) (d : decode code pc = .ok (.invokevirtual idx, 3)) (k : q_Sm xs Ln (pc + 3) ls (v :: st) M1) : q_Sm xs Ln pc ls (a4 :: a3 :: a2 :: a1 :: .ref b2 :: st) M := q_callV (As := [a1, a2, a3, a4]) hC hg hs hc rfl rfl (of_decide_eq_true hcat) d k
theorem q_cL_13 : z_CV RL 9 13 mX6_write RX6 1 := ⟨⟨z_in 200 (by decide +kernel), z_in 201 (by decide +kernel), z_in 202 (by decide +kernel), z_in 1 (by decide +kernel), z_in 203 (by decide +kernel)⟩, ⟨rfl, by decide +kernel, by decide +kernel, by decide +kernel⟩, ⟨by decide, by decide⟩⟩
theorem q_cL_17 : z_CV RL 9 17 mX7_write RX7 1 := ⟨⟨z_in 661 (by decide +kernel), z_in 662 (by decide +kernel), z_in 663 (by decide +kernel), z_in 8 (by decide +kernel), z_in 664 (by decide +kernel)⟩, ⟨rfl, by decide +kernel, by decide +kernel, by decide +kernel⟩, ⟨by decide, by decide⟩⟩
theorem q_cL_18 : z_CV RL 9 18 mX6_wipe RX6 0 := ⟨⟨z_in 208 (by decide +kernel), z_in 209 (by decide +kernel), z_in 210 (by decide +kernel), z_in 1 (by decide +kernel), z_in 211 (by decide +kernel)⟩, ⟨rfl, by decide +kernel, by decide +kernel, by decide +kernel⟩, ⟨by decide, by decide⟩⟩
theorem q_cL_22 : z_CV RL 9 22 mX7_wipe RX7 0 := ⟨⟨z_in 669 (by decide +kernel), z_in 670 (by decide +kernel), z_in 671 (by decide +kernel), z_in 8 (by decide +kernel), z_in 672 (by decide +kernel)⟩, ⟨rfl, by decide +kernel, by decide +kernel, by decide +kernel⟩, ⟨by decide, by decide⟩⟩
theorem q_cL_23 : z_CV RL 9 23 mX6_fault RX6 0 := ⟨⟨z_in 212 (by decide +kernel), z_in 213 (by decide +kernel), z_in 214 (by decide +kernel), z_in 1 (by decide +kernel), z_in 215 (by decide +kernel)⟩, ⟨rfl, by decide +kernel, by decide +kernel, by decide +kernel⟩, ⟨by decide, by decide⟩⟩
theorem q_cL_26 : z_CV RL 9 26 mX7_fault RX7 0 := ⟨⟨z_in 673 (by decide +kernel), z_in 674 (by decide +kernel), z_in 675 (by decide +kernel), z_in 8 (by decide +kernel), z_in 676 (by decide +kernel)⟩, ⟨rfl, by decide +kernel, by decide +kernel, by decide +kernel⟩, ⟨by decide, by decide⟩⟩
theorem q_cL_27 : z_CV RL 9 27 mX6_town RX6 0 := ⟨⟨z_in 238 (by decide +kernel), z_in 239 (by decide +kernel), z_in 240 (by decide +kernel), z_in 1 (by decide +kernel), z_in 241 (by decide +kernel)⟩, ⟨rfl, by decide +kernel, by decide +kernel, by decide +kernel⟩, ⟨by decide, by decide⟩⟩
theorem q_cL_30 : z_CV RL 9 30 mX7_town RX7 0 := ⟨⟨z_in 689 (by decide +kernel), z_in 690 (by decide +kernel), z_in 691 (by decide +kernel), z_in 8 (by decide +kernel), z_in 692 (by decide +kernel)⟩, ⟨rfl, by decide +kernel, by decide +kernel, by decide +kernel⟩, ⟨by decide, by decide⟩⟩
theorem q_cL_31 : z_CV RL 9 31 mX6_pin RX6 2 := ⟨⟨z_in 259 (by decide +kernel), z_in 260 (by decide +kernel), z_in 261 (by decide +kernel), z_in 1 (by decide +kernel), z_in 262 (by decide +kernel)⟩, ⟨rfl, by decide +kernel, by decide +kernel, by decide +kernel⟩, ⟨by decide, by decide⟩⟩
theorem q_cL_35 : z_CV RL 9 35 mX7_pin RX7 2 := ⟨⟨z_in 693 (by decide +kernel), z_in 694 (by decide +kernel), z_in 695 (by decide +kernel), z_in 8 (by decide +kernel), z_in 696 (by decide +kernel)⟩, ⟨rfl, by decide +kernel, by decide +kernel, by decide +kernel⟩, ⟨by decide, by decide⟩⟩
theorem q_cL_36 : z_CV RL 9 36 mX6_with RX6 1 := ⟨⟨z_in 278 (by decide +kernel), z_in 279 (by decide +kernel), z_in 280 (by decide +kernel), z_in 1 (by decide +kernel), z_in 281 (by decide +kernel)⟩, ⟨rfl, by decide +kernel, by decide +kernel, by decide +kernel⟩, ⟨by decide, by decide⟩⟩
theorem q_cL_39 : z_CV RL 9 39 mX7_with RX7 1 := ⟨⟨z_in 705 (by decide +kernel), z_in 706 (by decide +kernel), z_in 707 (by decide +kernel), z_in 8 (by decide +kernel), z_in 708 (by decide +kernel)⟩, ⟨rfl, by decide +kernel, by decide +kernel, by decide +kernel⟩, ⟨by decide, by decide⟩⟩
theorem q_cL_40 : z_CV RL 9 40 mX6_day RX6 0 := ⟨⟨z_in 293 (by decide +kernel), z_in 294 (by decide +kernel), z_in 295 (by decide +kernel), z_in 1 (by decide +kernel), z_in 296 (by decide +kernel)⟩, ⟨rfl, by decide +kernel, by decide +kernel, by decide +kernel⟩, ⟨by decide, by decide⟩⟩
theorem q_cL_43 : z_CV RL 9 43 mX7_day RX7 0 := ⟨⟨z_in 720 (by decide +kernel), z_in 721 (by decide +kernel), z_in 722 (by decide +kernel), z_in 8 (by decide +kernel), z_in 723 (by decide +kernel)⟩, ⟨rfl, by decide +kernel, by decide +kernel, by decide +kernel⟩, ⟨by decide, by decide⟩⟩
theorem q_cL_44 : z_CV RL 9 44 mX6_tug RX6 2 := ⟨⟨z_in 355 (by decide +kernel), z_in 356 (by decide +kernel), z_in 357 (by decide +kernel), z_in 1 (by decide +kernel), z_in 358 (by decide +kernel)⟩, ⟨rfl, by decide +kernel, by decide +kernel, by decide +kernel⟩, ⟨by decide, by decide⟩⟩
theorem q_cL_47 : z_CV RL 9 47 mX7_tug RX7 2 := ⟨⟨z_in 747 (by decide +kernel), z_in 748 (by decide +kernel), z_in 749 (by decide +kernel), z_in 8 (by decide +kernel), z_in 750 (by decide +kernel)⟩, ⟨rfl, by decide +kernel, by decide +kernel, by decide +kernel⟩, ⟨by decide, by decide⟩⟩
theorem q_cL_48 : z_CV RL 9 48 mX6_shut RX6 1 := ⟨⟨z_in 363 (by decide +kernel), z_in 364 (by decide +kernel), z_in 365 (by decide +kernel), z_in 1 (by decide +kernel), z_in 366 (by decide +kernel)⟩, ⟨rfl, by decide +kernel, by decide +kernel, by decide +kernel⟩, ⟨by decide, by decide⟩⟩
theorem q_cL_51 : z_CV RL 9 51 mX7_shut RX7 1 := ⟨⟨z_in 756 (by decide +kernel), z_in 757 (by decide +kernel), z_in 758 (by decide +kernel), z_in 8 (by decide +kernel), z_in 759 (by decide +kernel)⟩, ⟨rfl, by decide +kernel, by decide +kernel, by decide +kernel⟩, ⟨by decide, by decide⟩⟩
theorem q_cL_52 : z_CV RL 9 52 mX6_open RX6 1 := ⟨⟨z_in 372 (by decide +kernel), z_in 373 (by decide +kernel), z_in 374 (by decide +kernel), z_in 1 (by decide +kernel), z_in 375 (by decide +kernel)⟩, ⟨rfl, by decide +kernel, by decide +kernel, by decide +kernel⟩, ⟨by decide, by decide⟩⟩
theorem q_cL_55 : z_CV RL 9 55 mX7_open RX7 1 := ⟨⟨z_in 764 (by decide +kernel), z_in 765 (by decide +kernel), z_in 766 (by decide +kernel), z_in 8 (by decide +kernel), z_in 767 (by decide +kernel)⟩, ⟨rfl, by decide +kernel, by decide +kernel, by decide +kernel⟩, ⟨by decide, by decide⟩⟩
theorem q_cL_56 : z_CV RL 9 56 mX6_undo RX6 0 := ⟨⟨z_in 380 (by decide +kernel), z_in 381 (by decide +kernel), z_in 382 (by decide +kernel), z_in 1 (by decide +kernel), z_in 383 (by decide +kernel)⟩, ⟨rfl, by decide +kernel, by decide +kernel, by decide +kernel⟩, ⟨by decide, by decide⟩⟩
theorem q_cL_59 : z_CV RL 9 59 mX7_undo RX7 0 := ⟨⟨z_in 768 (by decide +kernel), z_in 769 (by decide +kernel), z_in 770 (by decide +kernel), z_in 8 (by decide +kernel), z_in 771 (by decide +kernel)⟩, ⟨rfl, by decide +kernel, by decide +kernel, by decide +kernel⟩, ⟨by decide, by decide⟩⟩
theorem q_cL_60 : z_CV RL 9 60 mX6_later RX6 1 := ⟨⟨z_in 388 (by decide +kernel), z_in 389 (by decide +kernel), z_in 390 (by decide +kernel), z_in 1 (by decide +kernel), z_in 391 (by decide +kernel)⟩, ⟨rfl, by decide +kernel, by decide +kernel, by decide +kernel⟩, ⟨by decide, by decide⟩⟩
theorem q_cL_63 : z_CV RL 9 63 mX7_later RX7 1 := ⟨⟨z_in 772 (by decide +kernel), z_in 773 (by decide +kernel), z_in 774 (by decide +kernel), z_in 8 (by decide +kernel), z_in 775 (by decide +kernel)⟩, ⟨rfl, by decide +kernel, by decide +kernel, by decide +kernel⟩, ⟨by decide, by decide⟩⟩
theorem q_cL_64 : z_CV RL 9 64 mX6_lasts RX6 1 := ⟨⟨z_in 393 (by decide +kernel), z_in 394 (by decide +kernel), z_in 395 (by decide +kernel), z_in 1 (by decide +kernel), z_in 396 (by decide +kernel)⟩, ⟨rfl, by decide +kernel, by decide +kernel, by decide +kernel⟩, ⟨by decide, by decide⟩⟩
theorem q_cL_67 : z_CV RL 9 67 mX7_lasts RX7 1 := ⟨⟨z_in 781 (by decide +kernel), z_in 782 (by decide +kernel), z_in 783 (by decide +kernel), z_in 8 (by decide +kernel), z_in 784 (by decide +kernel)⟩, ⟨rfl, by decide +kernel, by decide +kernel, by decide +kernel⟩, ⟨by decide, by decide⟩⟩
theorem q_cL_68 : z_CV RL 9 68 mX6_chain RX6 1 := ⟨⟨z_in 397 (by decide +kernel), z_in 398 (by decide +kernel), z_in 399 (by decide +kernel), z_in 1 (by decide +kernel), z_in 400 (by decide +kernel)⟩, ⟨rfl, by decide +kernel, by decide +kernel, by decide +kernel⟩, ⟨by decide, by decide⟩⟩
theorem q_cL_71 : z_CV RL 9 71 mX7_chain RX7 1 := ⟨⟨z_in 785 (by decide +kernel), z_in 786 (by decide +kernel), z_in 787 (by decide +kernel), z_in 8 (by decide +kernel), z_in 788 (by decide +kernel)⟩, ⟨rfl, by decide +kernel, by decide +kernel, by decide +kernel⟩, ⟨by decide, by decide⟩⟩
theorem q_cL_72 : z_CV RL 9 72 mX6_cuts RX6 2 := ⟨⟨z_in 404 (by decide +kernel), z_in 405 (by decide +kernel), z_in 406 (by decide +kernel), z_in 1 (by decide +kernel), z_in 407 (by decide +kernel)⟩, ⟨rfl, by decide +kernel, by decide +kernel, by decide +kernel⟩, ⟨by decide, by decide⟩⟩
theorem q_cL_75 : z_CV RL 9 75 mX7_cuts RX7 2 := ⟨⟨z_in 789 (by decide +kernel), z_in 790 (by decide +kernel), z_in 791 (by decide +kernel), z_in 8 (by decide +kernel), z_in 792 (by decide +kernel)⟩, ⟨rfl, by decide +kernel, by decide +kernel, by decide +kernel⟩, ⟨by decide, by decide⟩⟩
theorem q_cL_76 : z_CV RL 9 76 mX6_parts RX6 3 := ⟨⟨z_in 424 (by decide +kernel), z_in 425 (by decide +kernel), z_in 426 (by decide +kernel), z_in 1 (by decide +kernel), z_in 427 (by decide +kernel)⟩, ⟨rfl, by decide +kernel, by decide +kernel, by decide +kernel⟩, ⟨by decide, by decide⟩⟩
theorem q_cL_80 : z_CV RL 9 80 mX7_parts RX7 3 := ⟨⟨z_in 801 (by decide +kernel), z_in 802 (by decide +kernel), z_in 803 (by decide +kernel), z_in 8 (by decide +kernel), z_in 804 (by decide +kernel)⟩, ⟨rfl, by decide +kernel, by decide +kernel, by decide +kernel⟩, ⟨by decide, by decide⟩⟩
theorem q_cL_81 : z_CV RL 9 81 mX6_letsGo RX6 1 := ⟨⟨z_in 432 (by decide +kernel), z_in 433 (by decide +kernel), z_in 434 (by decide +kernel), z_in 1 (by decide +kernel), z_in 435 (by decide +kernel)⟩, ⟨rfl, by decide +kernel, by decide +kernel, by decide +kernel⟩, ⟨by decide, by decide⟩⟩
theorem q_cL_84 : z_CV RL 9 84 mX7_letsGo RX7 1 := ⟨⟨z_in 805 (by decide +kernel), z_in 806 (by decide +kernel), z_in 807 (by decide +kernel), z_in 8 (by decide +kernel), z_in 808 (by decide +kernel)⟩, ⟨rfl, by decide +kernel, by decide +kernel, by decide +kernel⟩, ⟨by decide, by decide⟩⟩
theorem q_cL_87 : z_CV RL 9 87 mX6_judge RX6 2 := ⟨⟨z_in 441 (by decide +kernel), z_in 442 (by decide +kernel), z_in 443 (by decide +kernel), z_in 1 (by decide +kernel), z_in 444 (by decide +kernel)⟩, ⟨rfl, by decide +kernel, by decide +kernel, by decide +kernel⟩, ⟨by decide, by decide⟩⟩
theorem q_cL_91 : z_CV RL 9 91 mX7_judge RX7 2 := ⟨⟨z_in 813 (by decide +kernel), z_in 814 (by decide +kernel), z_in 815 (by decide +kernel), z_in 8 (by decide +kernel), z_in 816 (by decide +kernel)⟩, ⟨rfl, by decide +kernel, by decide +kernel, by decide +kernel⟩, ⟨by decide, by decide⟩⟩
theorem q_cL_92 : z_CV RL 9 92 mX6_trial RX6 2 := ⟨⟨z_in 460 (by decide +kernel), z_in 461 (by decide +kernel), z_in 462 (by decide +kernel), z_in 1 (by decide +kernel), z_in 463 (by decide +kernel)⟩, ⟨rfl, by decide +kernel, by decide +kernel, by decide +kernel⟩, ⟨by decide, by decide⟩⟩
theorem q_cL_95 : z_CV RL 9 95 mX7_trial RX7 2 := ⟨⟨z_in 826 (by decide +kernel), z_in 827 (by decide +kernel), z_in 828 (by decide +kernel), z_in 8 (by decide +kernel), z_in 829 (by decide +kernel)⟩, ⟨rfl, by decide +kernel, by decide +kernel, by decide +kernel⟩, ⟨by decide, by decide⟩⟩
theorem q_cL_96 : z_CV RL 9 96 mX6_untry RX6 0 := ⟨⟨z_in 468 (by decide +kernel), z_in 469 (by decide +kernel), z_in 470 (by decide +kernel), z_in 1 (by decide +kernel), z_in 471 (by decide +kernel)⟩, ⟨rfl, by decide +kernel, by decide +kernel, by decide +kernel⟩, ⟨by decide, by decide⟩⟩
theorem q_cL_99 : z_CV RL 9 99 mX7_untry RX7 0 := ⟨⟨z_in 831 (by decide +kernel), z_in 832 (by decide +kernel), z_in 833 (by decide +kernel), z_in 8 (by decide +kernel), z_in 834 (by decide +kernel)⟩, ⟨rfl, by decide +kernel, by decide +kernel, by decide +kernel⟩, ⟨by decide, by decide⟩⟩
theorem q_cL_100 : z_CV RL 9 100 mX6_which RX6 1 := ⟨⟨z_in 472 (by decide +kernel), z_in 473 (by decide +kernel), z_in 474 (by decide +kernel), z_in 1 (by decide +kernel), z_in 475 (by decide +kernel)⟩, ⟨rfl, by decide +kernel, by decide +kernel, by decide +kernel⟩, ⟨by decide, by decide⟩⟩
theorem q_cL_103 : z_CV RL 9 103 mX7_which RX7 1 := ⟨⟨z_in 835 (by decide +kernel), z_in 836 (by decide +kernel), z_in 837 (by decide +kernel), z_in 8 (by decide +kernel), z_in 838 (by decide +kernel)⟩, ⟨rfl, by decide +kernel, by decide +kernel, by decide +kernel⟩, ⟨by decide, by decide⟩⟩
theorem q_cL_104 : z_CV RL 9 104 mX6_share RX6 2 := ⟨⟨z_in 480 (by decide +kernel), z_in 481 (by decide +kernel), z_in 482 (by decide +kernel), z_in 1 (by decide +kernel), z_in 483 (by decide +kernel)⟩, ⟨rfl, by decide +kernel, by decide +kernel, by decide +kernel⟩, ⟨by decide, by decide⟩⟩
theorem q_cL_108 : z_CV RL 9 108 mX7_share RX7 2 := ⟨⟨z_in 839 (by decide +kernel), z_in 840 (by decide +kernel), z_in 841 (by decide +kernel), z_in 8 (by decide +kernel), z_in 842 (by decide +kernel)⟩, ⟨rfl, by decide +kernel, by decide +kernel, by decide +kernel⟩, ⟨by decide, by decide⟩⟩
theorem q_cL_109 : z_CV RL 9 109 mX6_rests RX6 3 := ⟨⟨z_in 504 (by decide +kernel), z_in 505 (by decide +kernel), z_in 506 (by decide +kernel), z_in 1 (by decide +kernel), z_in 507 (by decide +kernel)⟩, ⟨rfl, by decide +kernel, by decide +kernel, by decide +kernel⟩, ⟨by decide, by decide⟩⟩
theorem q_cL_112 : z_CV RL 9 112 mX7_rests RX7 3 := ⟨⟨z_in 853 (by decide +kernel), z_in 854 (by decide +kernel), z_in 855 (by decide +kernel), z_in 8 (by decide +kernel), z_in 856 (by decide +kernel)⟩, ⟨rfl, by decide +kernel, by decide +kernel, by decide +kernel⟩, ⟨by decide, by decide⟩⟩
theorem q_cL_113 : z_CV RL 9 113 mX6_gives RX6 4 := ⟨⟨z_in 521 (by decide +kernel), z_in 522 (by decide +kernel), z_in 523 (by decide +kernel), z_in 1 (by decide +kernel), z_in 524 (by decide +kernel)⟩, ⟨rfl, by decide +kernel, by decide +kernel, by decide +kernel⟩, ⟨by decide, by decide⟩⟩
theorem q_cL_117 : z_CV RL 9 117 mX7_gives RX7 4 := ⟨⟨z_in 865 (by decide +kernel), z_in 866 (by decide +kernel), z_in 867 (by decide +kernel), z_in 8 (by decide +kernel), z_in 868 (by decide +kernel)⟩, ⟨rfl, by decide +kernel, by decide +kernel, by decide +kernel⟩, ⟨by decide, by decide⟩⟩
theorem q_cL_118 : z_CV RL 9 118 mX6_seed RX6 1 := ⟨⟨z_in 528 (by decide +kernel), z_in 529 (by decide +kernel), z_in 530 (by decide +kernel), z_in 1 (by decide +kernel), z_in 531 (by decide +kernel)⟩, ⟨rfl, by decide +kernel, by decide +kernel, by decide +kernel⟩, ⟨by decide, by decide⟩⟩
theorem q_cL_122 : z_CV RL 9 122 mX7_seed RX7 1 := ⟨⟨z_in 873 (by decide +kernel), z_in 874 (by decide +kernel), z_in 875 (by decide +kernel), z_in 8 (by decide +kernel), z_in 876 (by decide +kernel)⟩, ⟨rfl, by decide +kernel, by decide +kernel, by decide +kernel⟩, ⟨by decide, by decide⟩⟩
theorem q_cL_123 : z_CV RL 9 123 mX6_seasons RX6 1 := ⟨⟨z_in 532 (by decide +kernel), z_in 533 (by decide +kernel), z_in 534 (by decide +kernel), z_in 1 (by decide +kernel), z_in 535 (by decide +kernel)⟩, ⟨rfl, by decide +kernel, by decide +kernel, by decide +kernel⟩, ⟨by decide, by decide⟩⟩
theorem q_cL_126 : z_CV RL 9 126 mX7_seasons RX7 1 := ⟨⟨z_in 877 (by decide +kernel), z_in 878 (by decide +kernel), z_in 879 (by decide +kernel), z_in 8 (by decide +kernel), z_in 880 (by decide +kernel)⟩, ⟨rfl, by decide +kernel, by decide +kernel, by decide +kernel⟩, ⟨by decide, by decide⟩⟩
theorem q_cL_127 : z_CV RL 9 127 mX6_keep RX6 1 := ⟨⟨z_in 542 (by decide +kernel), z_in 543 (by decide +kernel), z_in 544 (by decide +kernel), z_in 1 (by decide +kernel), z_in 545 (by decide +kernel)⟩, ⟨rfl, by decide +kernel, by decide +kernel, by decide +kernel⟩, ⟨by decide, by decide⟩⟩
theorem q_cL_130 : z_CV RL 9 130 mX7_keep RX7 1 := ⟨⟨z_in 885 (by decide +kernel), z_in 886 (by decide +kernel), z_in 887 (by decide +kernel), z_in 8 (by decide +kernel), z_in 888 (by decide +kernel)⟩, ⟨rfl, by decide +kernel, by decide +kernel, by decide +kernel⟩, ⟨by decide, by decide⟩⟩
theorem q_cL_131 : z_CV RL 9 131 mX6_again RX6 1 := ⟨⟨z_in 546 (by decide +kernel), z_in 547 (by decide +kernel), z_in 548 (by decide +kernel), z_in 1 (by decide +kernel), z_in 549 (by decide +kernel)⟩, ⟨rfl, by decide +kernel, by decide +kernel, by decide +kernel⟩, ⟨by decide, by decide⟩⟩
theorem q_cL_134 : z_CV RL 9 134 mX7_again RX7 1 := ⟨⟨z_in 889 (by decide +kernel), z_in 890 (by decide +kernel), z_in 891 (by decide +kernel), z_in 8 (by decide +kernel), z_in 892 (by decide +kernel)⟩, ⟨rfl, by decide +kernel, by decide +kernel, by decide +kernel⟩, ⟨by decide, by decide⟩⟩
theorem q_cL_135 : z_CV RL 9 135 mX6_count RX6 1 := ⟨⟨z_in 550 (by decide +kernel), z_in 551 (by decide +kernel), z_in 552 (by decide +kernel), z_in 1 (by decide +kernel), z_in 553 (by decide +kernel)⟩, ⟨rfl, by decide +kernel, by decide +kernel, by decide +kernel⟩, ⟨by decide, by decide⟩⟩
theorem q_cL_138 : z_CV RL 9 138 mX7_count RX7 1 := ⟨⟨z_in 893 (by decide +kernel), z_in 894 (by decide +kernel), z_in 895 (by decide +kernel), z_in 8 (by decide +kernel), z_in 896 (by decide +kernel)⟩, ⟨rfl, by decide +kernel, by decide +kernel, by decide +kernel⟩, ⟨by decide, by decide⟩⟩
