/-! ===== the constructors' frame, over lists of cells ===== -/
abbrev yI (k : Nat) : y_S := .inl (0, k)
abbrev yZ (k : Nat) : y_S := .inl (1, k)
abbrev yO (c : Nat) (qs : List Nat) : y_S := .inr (.inl (c, qs))
abbrev yR (qs : List Nat) : y_S := .inr (.inr qs)
def y_L (L : List y_S) : Nat → y_S := fun i => (L[i]?).getD (.inl (0, 0))
theorem y_L_get {L : List y_S} {b : Nat} {e : y_S} (h : L[b]? = some e) : y_L L b = e := by rw [y_L, h]; rfl
theorem y_L_set {L : List y_S} {b : Nat} {e : y_S} (hb : b < L.length) : yup (y_L L) b e = y_L (L.set b e) := by
  funext i
  by_cases h : i = b
  · subst h
    rw [yup_1, y_L_get (List.getElem?_set_self hb)]
  · rw [yup_n _ _ h, y_L, y_L, List.getElem?_set_ne (Ne.symm h)]
theorem y_L_push {L : List y_S} {e : y_S} : yup (y_L L) L.length e = y_L (L ++ [e]) := by
  funext i
  by_cases h : i = L.length
  · subst h
    rw [yup_1, y_L_get (List.getElem?_concat_length)]
  · rw [yup_n _ _ h, y_L, y_L]
    by_cases h2 : i < L.length
    · rw [List.getElem?_append_left h2]
    · rw [List.getElem?_eq_none (by omega), List.getElem?_eq_none (by rw [List.length_append]; simp; omega)]
def y_Fx (cx : z_MC) (D : va_G) (cy : Nat → ClassId) (p : Program) (s : State) (m : MethodId) (args : Array Value) (meth : Method) (c : Code) : Prop := p.tables.exec = Jvm.exec ∧ c.code = cx.1 ∧ c.maxLocals = cx.2.2.1 ∧ meth.sig.returnType = none ∧ s.vm.findClass cx.2.1 = some m.cls ∧ (∀ w ∈ z_ws cx, w.before args s = true) ∧ meth.locks = false ∧ va_K D vwCl (z_ty cy) s ∧ y_tb s ∧ meth.name = "<init>"
def y_Sm (cx : z_MC) (mc ms : Nat) (L2 : List y_S) (pc : Nat) (ls : List (Option Value)) (st : List Value) (L : List y_S) (cells slots : Nat) : Prop :=
  ∀ (l : Launch) (D : va_G) (cy : Nat → ClassId) (ad : Nat → Nat) (p : Program) (e : Env) (s : State) (m : MethodId) (args : Array Value) (below : List Frame) (meth : Method) (c : Code) (H : Heap) (locs : List Loc) (ar : Array Slot),
    y_Fx cx D cy p s m args meth c → y_Wo D cy ad s (y_L L) L.length H locs → z_Lo ad cx.2.2.1 ls ar →
    W p l e (y_rm cx.2.2.2.2.2 mc ms) s m args below meth c H locs cells slots (MQ below (y_Q D cy ad (y_L L2) L2.length) args s mc ms (y_A ad)) (F0 m pc ar (st.map (z_mv ad)))
def y_Cl (cx : z_MC) (mc ms : Nat) (as : List Value) (L L2 : List y_S) : Prop := y_Ct cx mc ms as (y_L L) L.length (y_L L2) L2.length
section YS
variable {cx : z_MC} {mc ms : Nat} {L2 : List y_S} {pc : Nat} {ls : List (Option Value)} {st : List Value} {L : List y_S} {cells slots : Nat}
theorem y_iconst {n : Int} {v : Int32} (d : decode cx.1 pc = .ok (.iconst n, 1)) (hv : Int32.ofInt n = v) (k : y_Sm cx mc ms L2 (pc + 1) ls (.int v :: st) L cells slots) : y_Sm cx mc ms L2 pc ls st L cells slots := by
  intro l D cy ad p e s m args below meth c H locs ar F w h
  exact lv_iconst F.1 F.2.1 d hv (k l D cy ad p e s m args below meth c H locs ar F w h)
theorem y_bipush {n : Int} {v : Int32} (d : decode cx.1 pc = .ok (.bipush n, 2)) (hv : (Int8.ofInt n).toInt32 = v) (k : y_Sm cx mc ms L2 (pc + 2) ls (.int v :: st) L cells slots) : y_Sm cx mc ms L2 pc ls st L cells slots := by
  intro l D cy ad p e s m args below meth c H locs ar F w h
  exact lv_bipush F.1 F.2.1 d hv (k l D cy ad p e s m args below meth c H locs ar F w h)
theorem y_lconst {n : Fin 2} {v : Int64} (d : decode cx.1 pc = .ok (.lconst n, 1)) (hv : Int64.ofNat (n : Nat) = v) (k : y_Sm cx mc ms L2 (pc + 1) ls (.long v :: st) L cells slots) : y_Sm cx mc ms L2 pc ls st L cells slots := by
  intro l D cy ad p e s m args below meth c H locs ar F w h
  exact lv_lconst F.1 F.2.1 d hv (k l D cy ad p e s m args below meth c H locs ar F w h)
theorem y_dup {va : Value} (d : decode cx.1 pc = .ok (.dup, 1)) (hva : va.category = 1) (k : y_Sm cx mc ms L2 (pc + 1) ls (va :: va :: st) L cells slots) : y_Sm cx mc ms L2 pc ls (va :: st) L cells slots := by
  intro l D cy ad p e s m args below meth c H locs ar F w h
  exact lv_dup F.1 F.2.1 d ((z_cat ad va).trans hva) (k l D cy ad p e s m args below meth c H locs ar F w h)
theorem y_aload_n {i : Fin 4} {x : Nat} (d : decode cx.1 pc = .ok (.aload_n i, 1)) (hl : ls[(i : Nat)]? = some (some (.ref x))) (k : y_Sm cx mc ms L2 (pc + 1) ls (.ref x :: st) L cells slots) : y_Sm cx mc ms L2 pc ls st L cells slots := by
  intro l D cy ad p e s m args below meth c H locs ar F w h
  exact lv_aload_n F.1 F.2.1 d rfl (h.2.2 _ _ hl) (k l D cy ad p e s m args below meth c H locs ar F w h)
theorem y_iload_n {i : Fin 4} {x : Int32} (d : decode cx.1 pc = .ok (.iload_n i, 1)) (hl : ls[(i : Nat)]? = some (some (.int x))) (k : y_Sm cx mc ms L2 (pc + 1) ls (.int x :: st) L cells slots) : y_Sm cx mc ms L2 pc ls st L cells slots := by
  intro l D cy ad p e s m args below meth c H locs ar F w h
  exact lv_iload_n F.1 F.2.1 d rfl (h.2.2 _ _ hl) (k l D cy ad p e s m args below meth c H locs ar F w h)
theorem y_istore_n {i : Fin 4} {x : Int32} (d : decode cx.1 pc = .ok (.istore_n i, 1)) (hi : z_okst (i : Nat) ls = true) (hn : (i : Nat) < cx.2.2.1) (k : y_Sm cx mc ms L2 (pc + 1) (ls.set (i : Nat) (some (.int x))) st L cells slots) : y_Sm cx mc ms L2 pc ls (.int x :: st) L cells slots := by
  intro l D cy ad p e s m args below meth c H locs ar F w h
  exact lv_istore_n F.1 F.2.1 d rfl (z_lvh h) hn rfl (fun ar2 h2 => k l D cy ad p e s m args below meth c H locs ar2 F w (z_lv1 (v := .int x) hi h2))
theorem y_icmp_ge {x y : Int32} {off : Int} {tgt : Nat} (d : decode cx.1 pc = .ok (.if_icmp .ge off, 3)) (ht : (pc : Int) + off = (tgt : Int)) (kt : y ≤ x → y_Sm cx mc ms L2 tgt ls st L cells slots) (kf : ¬ y ≤ x → y_Sm cx mc ms L2 (pc + 3) ls st L cells slots) : y_Sm cx mc ms L2 pc ls (.int y :: .int x :: st) L cells slots := by
  intro l D cy ad p e s m args below meth c H locs ar F w h
  exact lv_icmp_ge F.1 F.2.1 d ht (fun q => kt q l D cy ad p e s m args below meth c H locs ar F w h) (fun q => kf q l D cy ad p e s m args below meth c H locs ar F w h)
theorem y_goto {off : Int} {tgt : Nat} (d : decode cx.1 pc = .ok (.goto off, 3)) (ht : (pc : Int) + off = (tgt : Int)) (k : y_Sm cx mc ms L2 tgt ls st L cells slots) : y_Sm cx mc ms L2 pc ls st L cells slots := by
  intro l D cy ad p e s m args below meth c H locs ar F w h
  exact lv_goto F.1 F.2.1 d ht (k l D cy ad p e s m args below meth c H locs ar F w h)
theorem y_obj {idx x : Nat} (hlv : 1 ≤ cx.2.2.2.2.2) (hl : Cond.methodLink cx.2.1 idx objectInit ∈ z_tb) (d : decode cx.1 pc = .ok (.invokespecial idx, 3)) (k : y_Sm cx mc ms L2 (pc + 3) ls [] L cells slots) : y_Sm cx mc ms L2 pc ls [.ref x] L cells slots := by
  intro l D cy ad p e s m args below meth c H locs ar F w h
  refine W.objInit F.1 F.2.1 F.2.2.2.2.1 (F.2.2.2.2.2.1 _ (List.mem_cons_of_mem _ hl)) (F.2.2.2.2.2.1 (.instanceMethod objectInit) (List.mem_cons_of_mem _ (z_in 17 (by decide +kernel)))) (F.2.2.2.2.2.1 (.code objectInit ⟨#[0xb1]⟩ 1 none) (List.mem_cons_of_mem _ (z_in 18 (by decide +kernel)))) rfl (h.1.trans F.2.2.1.symm) rfl d hlv ?_ (k l D cy ad p e s m args below meth c H locs ar F w h)
  show 2 * 0 + 0 + 12 ≤ 36 * cx.2.2.2.2.2
  omega
theorem y_new {idx ci N : Nat} {C : String} {T : u_T} {codes : List Nat} {L' : List y_S} {ty : Nat → FieldType} (hu : ∀ w ∈ u_ws C T N, w ∈ z_tb) (hty : ∀ k, k < N → parseFieldDescriptor (T k).2.2.1 = some (ty k)) (hc : vwCl[ci]? = some (C, T, N)) (hcl : Cond.classLink cx.2.1 idx C ∈ z_tb) (hinst : Cond.instantiable C N ∈ z_tb) (hini : Cond.initialized C ∈ z_tb) (hfs : ∀ ad : Nat → Nat, ∀ j, j < N → defaultValue (ty j) = vp_V (codes.map (y_fv ad)) j) (hn : L.length < 79) (hL' : L ++ [.inr (.inl (ci, codes))] = L') (hcells : cells + 1 ≤ mc) (hslots : slots + N ≤ ms) (d : decode cx.1 pc = .ok (.new idx, 3)) (k : y_Sm cx mc ms L2 (pc + 3) ls (.ref L.length :: st) L' (cells + 1) (slots + N)) : y_Sm cx mc ms L2 pc ls st L cells slots := by
  subst hL'
  intro l D cy ad p e s m args below meth c H locs ar F w h
  have ok : ∀ w9 ∈ z_tb, w9.before args s = true := fun w9 h9 => F.2.2.2.2.2.1 _ (List.mem_cons_of_mem _ h9)
  refine yw_new F.1 F.2.1 ok hu ty hty F.2.2.2.2.1 (ok _ hcl) (ok _ hinst) (ok _ hini) F.2.2.2.2.2.2.2.1 w hn hc (hfs ad) hcells hslots d (fun H1 w1 => ?_)
  rw [y_L_push, show L.length + 1 = (L ++ [(.inr (.inl (ci, codes)) : y_S)]).length by rw [List.length_append]; rfl] at w1
  exact k l D cy ad p e s m args below meth c H1 locs ar F w1 h
theorem y_newa {at' : ArrayType} {t0 N : Nat} {v : Int32} {L' : List y_S} (harr : Cond.arrayClass (newarray.typeOf at') ∈ z_tb) (hd : defaultValue (newarray.typeOf at') = .int 0) (hfc : ∀ (D : va_G) (cy : Nat → ClassId) (s : State), va_K D vwCl (z_ty cy) s → s.vm.findClass ("[" ++ (newarray.typeOf at').toString) = some (cy t0)) (hn : L.length < 79) (h0 : ¬ v < 0) (hN : v.toNatClampNeg = N) (hb : N * componentBytes (newarray.typeOf at') ≤ 536870912) (hL' : L ++ [.inl (t0, N)] = L') (hcells : cells + 1 ≤ mc) (hslots : slots + N ≤ ms) (d : decode cx.1 pc = .ok (.newarray at', 2)) (k : y_Sm cx mc ms L2 (pc + 2) ls (.ref L.length :: st) L' (cells + 1) (slots + N)) : y_Sm cx mc ms L2 pc ls (.int v :: st) L cells slots := by
  subst hL'
  intro l D cy ad p e s m args below meth c H locs ar F w h
  refine yw_newa F.1 F.2.1 (F.2.2.2.2.2.1 _ (List.mem_cons_of_mem _ harr)) hd (hfc D cy s F.2.2.2.2.2.2.2.1) w hn h0 hN hb hcells hslots d (fun H1 w1 => ?_)
  rw [y_L_push, show L.length + 1 = (L ++ [(.inl (t0, N) : y_S)]).length by rw [List.length_append]; rfl] at w1
  exact k l D cy ad p e s m args below meth c H1 locs ar F w1 h
theorem y_fcI (D : va_G) (cy : Nat → ClassId) (s : State) (hK : va_K D vwCl (z_ty cy) s) : s.vm.findClass ("[" ++ (newarray.typeOf .int).toString) = some (cy 0) := (hK.2 0 _ rfl).2
theorem y_fcZ (D : va_G) (cy : Nat → ClassId) (s : State) (hK : va_K D vwCl (z_ty cy) s) : s.vm.findClass ("[" ++ (newarray.typeOf .boolean).toString) = some (cy 1) := (hK.2 1 _ rfl).2
theorem y_newq {idx N : Nat} {v : Int32} {L' : List y_S} (hcl : Cond.classLink cx.2.1 idx "SafetyPins$Plight" ∈ z_tb) (hn : L.length < 79) (h0 : ¬ v < 0) (hN : v.toNatClampNeg = N) (hb : N * 4 ≤ 536870912) (hL' : L ++ [.inr (.inr (List.replicate N 0))] = L') (hcells : cells + 1 ≤ mc) (hslots : slots + N ≤ ms) (d : decode cx.1 pc = .ok (.anewarray idx, 3)) (k : y_Sm cx mc ms L2 (pc + 3) ls (.ref L.length :: st) L' (cells + 1) (slots + N)) : y_Sm cx mc ms L2 pc ls (.int v :: st) L cells slots := by
  subst hL'
  intro l D cy ad p e s m args below meth c H locs ar F w h
  refine yw_newq F.1 F.2.1 F.2.2.2.2.1 (F.2.2.2.2.2.1 _ (List.mem_cons_of_mem _ hcl)) F.2.2.2.2.2.2.2.2.1.1 F.2.2.2.2.2.2.2.1 w hn h0 hN hb hcells hslots d (fun H1 w1 => ?_)
  rw [y_L_push, show L.length + 1 = (L ++ [(.inr (.inr (List.replicate N 0)) : y_S)]).length by rw [List.length_append]; rfl] at w1
  exact k l D cy ad p e s m args below meth c H1 locs ar F w1 h
def y_FP (ci k : Nat) (own dsc : String) : Bool := match vwCl[ci]? with
  | some q => (q.2.1 k).1 == own && (q.2.1 k).2.2.1 == dsc
  | none => false
theorem y_putf {idx ci k b vc : Nat} {codes : List Nat} {L' : List y_S} {v : Value} {ty : FieldType} {dsc : String} (hf : z_FL cx.2.1 idx ci k) (hp : y_FP ci k cx.2.1 dsc = true) (hd : parseFieldDescriptor dsc = some ty) (hv : ∀ ad : Nat → Nat, z_mv ad v = y_fv ad vc) (hn : ∀ ad : Nat → Nat, narrow ty (y_fv ad vc) = y_fv ad vc) (hfit : ∀ ad : Nat → Nat, fits ty (y_fv ad vc) = true) (hL : L[b]? = some (.inr (.inl (ci, codes)))) (hk : k < codes.length) (hL' : L.set b (.inr (.inl (ci, codes.set k vc))) = L') (d : decode cx.1 pc = .ok (.putfield idx, 3)) (kk : y_Sm cx mc ms L2 (pc + 3) ls st L' cells slots) : y_Sm cx mc ms L2 pc ls (v :: .ref b :: st) L cells slots := by
  subst hL'
  intro l D cy ad p e s m args below meth c H locs ar F w h
  have ok : ∀ w9 ∈ z_tb, w9.before args s = true := fun w9 h9 => F.2.2.2.2.2.1 _ (List.mem_cons_of_mem _ h9)
  obtain ⟨C, T, N, hc, hkN, hlk⟩ := hf
  obtain ⟨hui, ty0, hty, hnm⟩ := z_cls hc
  simp only [y_FP, hc, Bool.and_eq_true, beq_iff_eq] at hp
  have hbl : b < L.length := (List.getElem?_eq_some_iff.mp hL).1
  have hty0 : ty0 k = ty := by
    have := hty k hkN
    rw [hp.2, hd] at this
    exact (Option.some.inj this).symm
  rw [List.map_cons, List.map_cons, hv ad]
  refine yw_put F.1 F.2.1 ok hui ty0 hty hnm F.2.2.2.2.1 F.2.2.2.2.2.2.2.1 w hbl (y_L_get hL) hc hkN hk (ok _ hlk) rfl F.2.2.2.2.2.2.2.2.2 hp.1 (by rw [hty0]; exact hn ad) (by rw [hty0]; exact hfit ad) d (fun H1 locs1 w1 => ?_)
  rw [y_L_set hbl, ← List.length_set (as := L) (i := b) (a := (.inr (.inl (ci, codes.set k vc)) : y_S))] at w1
  exact kk l D cy ad p e s m args below meth c H1 locs1 ar F w1 h
theorem y_getf {idx ci k b j : Nat} {codes : List Nat} (hf : z_FL cx.2.1 idx ci k) (hL : L[b]? = some (.inr (.inl (ci, codes)))) (hj : codes[k]? = some (j + 3)) (d : decode cx.1 pc = .ok (.getfield idx, 3)) (kk : y_Sm cx mc ms L2 (pc + 3) ls (.ref j :: st) L cells slots) : y_Sm cx mc ms L2 pc ls (.ref b :: st) L cells slots := by
  intro l D cy ad p e s m args below meth c H locs ar F w h
  have ok : ∀ w9 ∈ z_tb, w9.before args s = true := fun w9 h9 => F.2.2.2.2.2.1 _ (List.mem_cons_of_mem _ h9)
  obtain ⟨C, T, N, hc, hkN, hlk⟩ := hf
  obtain ⟨hui, -⟩ := z_cls hc
  exact yw_get F.1 F.2.1 ok hui F.2.2.2.2.1 F.2.2.2.2.2.2.2.1 w (List.getElem?_eq_some_iff.mp hL).1 (y_L_get hL) hc hkN hj (ok _ hlk) d (kk l D cy ad p e s m args below meth c H locs ar F w h)
theorem y_aast {b v i : Nat} {qs codes : List Nat} {x : Int32} {L' : List y_S} (hL : L[b]? = some (.inr (.inr qs))) (hV : L[v]? = some (.inr (.inl (2, codes)))) (hxi : x = nI i) (hi : i < qs.length ∧ qs.length < 2 ^ 31) (hL' : L.set b (.inr (.inr (qs.set i (v + 1)))) = L') (d : decode cx.1 pc = .ok (.aastore, 1)) (kk : y_Sm cx mc ms L2 (pc + 1) ls st L' cells slots) : y_Sm cx mc ms L2 pc ls (.ref v :: .int x :: .ref b :: st) L cells slots := by
  subst hL'
  intro l D cy ad p e s m args below meth c H locs ar F w h
  have hbl : b < L.length := (List.getElem?_eq_some_iff.mp hL).1
  refine yw_aast (ci := 2) F.1 F.2.1 F.2.2.2.2.2.2.2.1 w hbl (y_L_get hL) (List.getElem?_eq_some_iff.mp hV).1 (y_L_get hV) hxi hi.1 hi.2 d (fun H1 locs1 w1 => ?_)
  rw [y_L_set hbl, ← List.length_set (as := L) (i := b) (a := (.inr (.inr (qs.set i (v + 1))) : y_S))] at w1
  exact kk l D cy ad p e s m args below meth c H1 locs1 ar F w1 h
theorem y_ret (hc : cells ≤ mc) (hs : slots ≤ ms) (hL : L = L2) (d : decode cx.1 pc = .ok (.return_, 1)) : y_Sm cx mc ms L2 pc ls [] L cells slots := by
  subst hL
  intro l D cy ad p e s m args below meth c H locs ar F w h
  exact W.widen hc hs (W.vret F.1 F.2.1 F.2.2.2.1 (fun t ht hW => ⟨⟨rfl, y_pre_at F.2.2.2.2.2.2.2.1 F.2.2.2.2.2.2.2.2.1 w ht hW⟩, w.2.2.1.F ht⟩) w.2.2.1.2.2 d F.2.2.2.2.2.2.1)
theorem y_entry {as : List Value} (hp : plainFor cx.2.2.2.2.1 = true) (hlen : (z_ents as).length ≤ cx.2.2.1) (hcl : cx.2.2.2.2.1.cls = cx.2.1) (hr : cx.2.2.2.1 = none) (hnm : cx.2.2.2.2.1.name = "<init>") (k : y_Sm cx mc ms L2 0 (z_ent0 cx.2.2.1 as) [] L 0 0) : y_Cl cx mc ms as L L2 := by
  intro l D cy ad
  refine va_MetF (cc := cx.1) (maxL := cx.2.2.1) (ret := cx.2.2.2.1) hp rfl ?_
  intro p e s m args below meth c s₁ B hml hv
  obtain ⟨rfl, hP, hK, hsz, had, hn, ht⟩ := hv
  have hts := atoms_spec (ws := z_ws cx) B.pre
  have hown : s.vm.findClass cx.2.2.2.2.1.cls = some m.cls := findClass_of_methodNamed B.named
  have hl := lv_entry (as.map (z_mv ad)) (n := cx.2.2.1) (by rw [z_ents_len]; exact hlen)
  rw [lg_entry_eq]
  refine k l D cy ad p e s m _ below meth c s.heap [] _ ⟨B.exec, B.bytes, hml, B.returns.trans hr, hcl ▸ hown, hts, B.notSynchronized, hK, ht, ((name_of_methodNamed B.named B.method).1).trans hnm⟩ ⟨hP, hsz, va_S.rf, had, hn⟩ ⟨hl.1, hl.2.1, fun i v hi => ?_⟩
  refine hl.2.2 (i, z_mv ad v) ?_
  have hi2 : (z_ents as)[i]? = some (some v) := by
    by_cases h9 : i < (z_ents as).length
    · rwa [z_ent0, List.getElem?_append_left h9] at hi
    · rw [z_ent0, List.getElem?_append_right (by omega)] at hi
      have := List.eq_of_mem_replicate (List.mem_of_getElem? hi)
      cases this
  have := z_ents_in (ad := ad) as 0 i v hi2
  rwa [Nat.zero_add] at this
/-- what a call of a constructor needs of the words and the room -/
def y_CI (lv : Nat) (cx2 : z_MC) (k : Nat) : Prop := (Cond.instanceMethod cx2.2.2.2.2.1 ∈ z_tb ∧ Cond.initialized cx2.2.2.2.2.1.cls ∈ z_tb ∧ Cond.code cx2.2.2.2.2.1 cx2.1 cx2.2.2.1 none ∈ z_tb) ∧ (cx2.2.2.2.2.1.cls ≠ "java/lang/invoke/MethodHandle" ∧ cx2.2.2.2.2.1.cls ≠ "java/lang/invoke/VarHandle" ∧ (parseMethodDescriptor cx2.2.2.2.2.1.desc).map (fun d => d.parameters.length) = some k) ∧ (cx2.2.2.2.2.2 + 1 ≤ lv ∧ 8 + (cx2.2.2.1 + 11) + 36 * cx2.2.2.2.2.2 ≤ 36 * lv) ∧ cx2.2.2.2.1 = none ∧ cx2.2.2.2.2.1.name = "<init>"
theorem y_ws2 {cx2 : z_MC} {k lv : Nat} {big : List Cond} (hb : ∀ w ∈ z_tb, w ∈ big) (g : y_CI lv cx2 k) : GoodIn big (z_ws cx2) := z_wsIn hb (by have := g.1.2.2; rw [g.2.2.2.1]; exact this)
theorem y_call {cx2 : z_MC} {mc2 ms2 b idx k : Nat} {As st0 : List Value} {L1 L' : List y_S} (hC : y_Cl cx2 mc2 ms2 (.ref b :: As) L L1) (g : y_CI cx.2.2.2.2.2 cx2 k) (hl : Cond.methodLink cx.2.1 idx cx2.2.2.2.2.1 ∈ z_tb) (hn : As.length = k) (hst : st0 = As.reverse ++ .ref b :: st) (hcat : (st.map fun v => v.category).sum ≤ 8) (hL' : L1 = L') (hcells : cells + mc2 ≤ mc) (hslots : slots + ms2 ≤ ms) (d : decode cx.1 pc = .ok (.invokespecial idx, 3)) (kk : y_Sm cx mc ms L2 (pc + 3) ls st L' (cells + mc2) (slots + ms2)) : y_Sm cx mc ms L2 pc ls st0 L cells slots := by
  subst hL'
  intro l D cy ad p e s m args below meth c H locs ar F w h
  have ok : ∀ w9 ∈ z_tb, w9.before args s = true := fun w9 h9 => F.2.2.2.2.2.1 _ (List.mem_cons_of_mem _ h9)
  refine yw_after w (va_runI (As := As.map (z_mv ad)) (rest := st.map (z_mv ad)) (nL := cx.2.2.1) ⟨F.1, F.2.1, F.2.2.1, F.2.2.2.2.1, F.2.2.2.2.2.1⟩ (hC l D cy ad) (cwI k F.2.2.2.2.2.1 (y_ws2 (fun _ h9 => List.mem_cons_of_mem _ h9) g) (by rw [z_ws, g.2.2.2.1]) rfl rfl (ok _ g.1.2.1) (ok _ hl) (ok _ g.1.1) g.2.2.2.2 g.2.1 g.2.2.1) ⟨y_blind, fun U hU hW => ⟨rfl, y_pre_at F.2.2.2.2.2.2.2.1 F.2.2.2.2.2.2.2.2.1 w hU hW⟩⟩ rfl (by rw [List.length_map]; exact hn) h.1 ?_ (lv_room (by rw [z_cats]; exact hcat)) d ⟨hcells, hslots⟩) (fun H1 locs1 w1 => kk l D cy ad p e s m args below meth c H1 locs1 ar F w1 h)
  subst hst
  show ((As.reverse ++ Value.ref b :: st).map (z_mv ad)) = _
  rw [List.map_append, List.map_cons, List.map_reverse]
  rfl
theorem y_callN {cx2 : z_MC} {mc2 ms2 b idx k : Nat} {As st0 : List Value} {L1 L' : List y_S} (hC : y_Cl cx2 mc2 ms2 (.ref b :: As) L L1) (g : y_CI cx.2.2.2.2.2 cx2 k) (hl : (cx.2.1, idx, cx2.2.2.2.2.1) ∈ y_nest) (hn : As.length = k) (hst : st0 = As.reverse ++ .ref b :: st) (hcat : (st.map fun v => v.category).sum ≤ 8) (hL' : L1 = L') (hcells : cells + mc2 ≤ mc) (hslots : slots + ms2 ≤ ms) (d : decode cx.1 pc = .ok (.invokespecial idx, 3)) (kk : y_Sm cx mc ms L2 (pc + 3) ls st L' (cells + mc2) (slots + ms2)) : y_Sm cx mc ms L2 pc ls st0 L cells slots := by
  subst hL'
  intro l D cy ad p e s m args below meth c H locs ar F w h
  have ok : ∀ w9 ∈ z_tb, w9.before args s = true := fun w9 h9 => F.2.2.2.2.2.1 _ (List.mem_cons_of_mem _ h9)
  refine yw_after w (va_runIN (As := As.map (z_mv ad)) (rest := st.map (z_mv ad)) (nL := cx.2.2.1) ⟨F.1, F.2.1, F.2.2.1, F.2.2.2.2.1, F.2.2.2.2.2.1⟩ (hC l D cy ad) ⟨va_cnB k F.2.2.2.2.2.1 (y_ws2 (fun _ h9 => List.mem_cons_of_mem _ h9) g) (by rw [z_ws, g.2.2.2.1]) rfl rfl (F.2.2.2.2.2.2.2.2.1.2 _ hl) (ok _ g.1.2.1) g.2.1 g.2.2.1, g.2.2.2.2, ok _ g.1.1⟩ ⟨y_blind, fun U hU hW => ⟨rfl, y_pre_at F.2.2.2.2.2.2.2.1 F.2.2.2.2.2.2.2.2.1 w hU hW⟩⟩ rfl (by rw [List.length_map]; exact hn) h.1 ?_ (lv_room (by rw [z_cats]; exact hcat)) d ⟨hcells, hslots⟩) (fun H1 locs1 w1 => kk l D cy ad p e s m args below meth c H1 locs1 ar F w1 h)
  subst hst
  show ((As.reverse ++ Value.ref b :: st).map (z_mv ad)) = _
  rw [List.map_append, List.map_cons, List.map_reverse]
  rfl
end YS
def mX2_init : z_MC := (cX2_init, RX2, 1, none, yX2_init, 1)
theorem dX2_init_0 : decode cX2_init 0 = .ok (.aload_n 0, 1) := by decide +kernel
theorem dX2_init_1 : decode cX2_init 1 = .ok (.invokespecial 3, 3) := by decide +kernel
theorem dX2_init_4 : decode cX2_init 4 = .ok (.aload_n 0, 1) := by decide +kernel
theorem dX2_init_5 : decode cX2_init 5 = .ok (.iconst 0, 1) := by decide +kernel
theorem dX2_init_6 : decode cX2_init 6 = .ok (.putfield 9, 3) := by decide +kernel
theorem dX2_init_9 : decode cX2_init 9 = .ok (.aload_n 0, 1) := by decide +kernel
theorem dX2_init_10 : decode cX2_init 10 = .ok (.bipush 7, 2) := by decide +kernel
theorem dX2_init_12 : decode cX2_init 12 = .ok (.newarray .int, 2) := by decide +kernel
theorem dX2_init_14 : decode cX2_init 14 = .ok (.putfield 15, 3) := by decide +kernel
theorem dX2_init_17 : decode cX2_init 17 = .ok (.aload_n 0, 1) := by decide +kernel
theorem dX2_init_18 : decode cX2_init 18 = .ok (.iconst 0, 1) := by decide +kernel
theorem dX2_init_19 : decode cX2_init 19 = .ok (.putfield 19, 3) := by decide +kernel
theorem dX2_init_22 : decode cX2_init 22 = .ok (.return_, 1) := by decide +kernel
theorem y_ciX2 (lv : Nat) (h : 2 ≤ lv) : y_CI lv mX2_init 0 := ⟨⟨z_in 106 (by decide +kernel), z_in 5 (by decide +kernel), z_in 107 (by decide +kernel)⟩, ⟨by decide +kernel, by decide +kernel, by decide +kernel⟩, ⟨h, by show 8 + (1 + 11) + 36 * 1 ≤ 36 * lv; omega⟩, rfl, rfl⟩
def mX3_init : z_MC := (cX3_init, RX3, 1, none, yX3_init, 1)
theorem dX3_init_0 : decode cX3_init 0 = .ok (.aload_n 0, 1) := by decide +kernel
theorem dX3_init_1 : decode cX3_init 1 = .ok (.invokespecial 3, 3) := by decide +kernel
theorem dX3_init_4 : decode cX3_init 4 = .ok (.aload_n 0, 1) := by decide +kernel
theorem dX3_init_5 : decode cX3_init 5 = .ok (.bipush 60, 2) := by decide +kernel
theorem dX3_init_7 : decode cX3_init 7 = .ok (.newarray .int, 2) := by decide +kernel
theorem dX3_init_9 : decode cX3_init 9 = .ok (.putfield 9, 3) := by decide +kernel
theorem dX3_init_12 : decode cX3_init 12 = .ok (.aload_n 0, 1) := by decide +kernel
theorem dX3_init_13 : decode cX3_init 13 = .ok (.iconst 0, 1) := by decide +kernel
theorem dX3_init_14 : decode cX3_init 14 = .ok (.putfield 15, 3) := by decide +kernel
theorem dX3_init_17 : decode cX3_init 17 = .ok (.return_, 1) := by decide +kernel
theorem y_ciX3 (lv : Nat) (h : 2 ≤ lv) : y_CI lv mX3_init 0 := ⟨⟨z_in 22 (by decide +kernel), z_in 2 (by decide +kernel), z_in 23 (by decide +kernel)⟩, ⟨by decide +kernel, by decide +kernel, by decide +kernel⟩, ⟨h, by show 8 + (1 + 11) + 36 * 1 ≤ 36 * lv; omega⟩, rfl, rfl⟩
def mX4_init : z_MC := (cX4_init, RX4, 1, none, yX4_init, 1)
theorem dX4_init_0 : decode cX4_init 0 = .ok (.aload_n 0, 1) := by decide +kernel
theorem dX4_init_1 : decode cX4_init 1 = .ok (.invokespecial 3, 3) := by decide +kernel
theorem dX4_init_4 : decode cX4_init 4 = .ok (.aload_n 0, 1) := by decide +kernel
theorem dX4_init_5 : decode cX4_init 5 = .ok (.iconst 0, 1) := by decide +kernel
theorem dX4_init_6 : decode cX4_init 6 = .ok (.putfield 9, 3) := by decide +kernel
theorem dX4_init_9 : decode cX4_init 9 = .ok (.aload_n 0, 1) := by decide +kernel
theorem dX4_init_10 : decode cX4_init 10 = .ok (.bipush 7, 2) := by decide +kernel
theorem dX4_init_12 : decode cX4_init 12 = .ok (.newarray .int, 2) := by decide +kernel
theorem dX4_init_14 : decode cX4_init 14 = .ok (.putfield 15, 3) := by decide +kernel
theorem dX4_init_17 : decode cX4_init 17 = .ok (.aload_n 0, 1) := by decide +kernel
theorem dX4_init_18 : decode cX4_init 18 = .ok (.bipush 7, 2) := by decide +kernel
theorem dX4_init_20 : decode cX4_init 20 = .ok (.newarray .int, 2) := by decide +kernel
theorem dX4_init_22 : decode cX4_init 22 = .ok (.putfield 19, 3) := by decide +kernel
theorem dX4_init_25 : decode cX4_init 25 = .ok (.aload_n 0, 1) := by decide +kernel
theorem dX4_init_26 : decode cX4_init 26 = .ok (.bipush 7, 2) := by decide +kernel
theorem dX4_init_28 : decode cX4_init 28 = .ok (.newarray .int, 2) := by decide +kernel
theorem dX4_init_30 : decode cX4_init 30 = .ok (.putfield 22, 3) := by decide +kernel
theorem dX4_init_33 : decode cX4_init 33 = .ok (.aload_n 0, 1) := by decide +kernel
theorem dX4_init_34 : decode cX4_init 34 = .ok (.bipush 7, 2) := by decide +kernel
theorem dX4_init_36 : decode cX4_init 36 = .ok (.newarray .int, 2) := by decide +kernel
theorem dX4_init_38 : decode cX4_init 38 = .ok (.putfield 25, 3) := by decide +kernel
theorem dX4_init_41 : decode cX4_init 41 = .ok (.aload_n 0, 1) := by decide +kernel
theorem dX4_init_42 : decode cX4_init 42 = .ok (.iconst 0, 1) := by decide +kernel
theorem dX4_init_43 : decode cX4_init 43 = .ok (.putfield 28, 3) := by decide +kernel
theorem dX4_init_46 : decode cX4_init 46 = .ok (.aload_n 0, 1) := by decide +kernel
theorem dX4_init_47 : decode cX4_init 47 = .ok (.iconst 4, 1) := by decide +kernel
theorem dX4_init_48 : decode cX4_init 48 = .ok (.newarray .int, 2) := by decide +kernel
theorem dX4_init_50 : decode cX4_init 50 = .ok (.putfield 31, 3) := by decide +kernel
theorem dX4_init_53 : decode cX4_init 53 = .ok (.aload_n 0, 1) := by decide +kernel
theorem dX4_init_54 : decode cX4_init 54 = .ok (.iconst 4, 1) := by decide +kernel
theorem dX4_init_55 : decode cX4_init 55 = .ok (.newarray .int, 2) := by decide +kernel
theorem dX4_init_57 : decode cX4_init 57 = .ok (.putfield 34, 3) := by decide +kernel
theorem dX4_init_60 : decode cX4_init 60 = .ok (.aload_n 0, 1) := by decide +kernel
theorem dX4_init_61 : decode cX4_init 61 = .ok (.iconst 0, 1) := by decide +kernel
theorem dX4_init_62 : decode cX4_init 62 = .ok (.putfield 37, 3) := by decide +kernel
theorem dX4_init_65 : decode cX4_init 65 = .ok (.aload_n 0, 1) := by decide +kernel
theorem dX4_init_66 : decode cX4_init 66 = .ok (.iconst 3, 1) := by decide +kernel
theorem dX4_init_67 : decode cX4_init 67 = .ok (.newarray .int, 2) := by decide +kernel
theorem dX4_init_69 : decode cX4_init 69 = .ok (.putfield 40, 3) := by decide +kernel
theorem dX4_init_72 : decode cX4_init 72 = .ok (.aload_n 0, 1) := by decide +kernel
theorem dX4_init_73 : decode cX4_init 73 = .ok (.iconst 3, 1) := by decide +kernel
theorem dX4_init_74 : decode cX4_init 74 = .ok (.newarray .int, 2) := by decide +kernel
theorem dX4_init_76 : decode cX4_init 76 = .ok (.putfield 43, 3) := by decide +kernel
theorem dX4_init_79 : decode cX4_init 79 = .ok (.return_, 1) := by decide +kernel
theorem y_ciX4 (lv : Nat) (h : 2 ≤ lv) : y_CI lv mX4_init 0 := ⟨⟨z_in 39 (by decide +kernel), z_in 3 (by decide +kernel), z_in 40 (by decide +kernel)⟩, ⟨by decide +kernel, by decide +kernel, by decide +kernel⟩, ⟨h, by show 8 + (1 + 11) + 36 * 1 ≤ 36 * lv; omega⟩, rfl, rfl⟩
def mX1_init : z_MC := (cX1_init, RX1, 2, none, yX1_init, 1)
theorem dX1_init_0 : decode cX1_init 0 = .ok (.aload_n 0, 1) := by decide +kernel
theorem dX1_init_1 : decode cX1_init 1 = .ok (.invokespecial 3, 3) := by decide +kernel
theorem dX1_init_4 : decode cX1_init 4 = .ok (.aload_n 0, 1) := by decide +kernel
theorem dX1_init_5 : decode cX1_init 5 = .ok (.bipush 6, 2) := by decide +kernel
theorem dX1_init_7 : decode cX1_init 7 = .ok (.newarray .int, 2) := by decide +kernel
theorem dX1_init_9 : decode cX1_init 9 = .ok (.putfield 9, 3) := by decide +kernel
theorem dX1_init_12 : decode cX1_init 12 = .ok (.aload_n 0, 1) := by decide +kernel
theorem dX1_init_13 : decode cX1_init 13 = .ok (.aload_n 1, 1) := by decide +kernel
theorem dX1_init_14 : decode cX1_init 14 = .ok (.putfield 15, 3) := by decide +kernel
theorem dX1_init_17 : decode cX1_init 17 = .ok (.return_, 1) := by decide +kernel
theorem y_ciX1 (lv : Nat) (h : 2 ≤ lv) : y_CI lv mX1_init 1 := ⟨⟨z_in 93 (by decide +kernel), z_in 4 (by decide +kernel), z_in 94 (by decide +kernel)⟩, ⟨by decide +kernel, by decide +kernel, by decide +kernel⟩, ⟨h, by show 8 + (2 + 11) + 36 * 1 ≤ 36 * lv; omega⟩, rfl, rfl⟩
def mX5_init : z_MC := (cX5_init, RX5, 1, none, yX5_init, 1)
theorem dX5_init_0 : decode cX5_init 0 = .ok (.aload_n 0, 1) := by decide +kernel
theorem dX5_init_1 : decode cX5_init 1 = .ok (.invokespecial 3, 3) := by decide +kernel
theorem dX5_init_4 : decode cX5_init 4 = .ok (.aload_n 0, 1) := by decide +kernel
theorem dX5_init_5 : decode cX5_init 5 = .ok (.bipush 6, 2) := by decide +kernel
theorem dX5_init_7 : decode cX5_init 7 = .ok (.newarray .int, 2) := by decide +kernel
theorem dX5_init_9 : decode cX5_init 9 = .ok (.putfield 9, 3) := by decide +kernel
theorem dX5_init_12 : decode cX5_init 12 = .ok (.aload_n 0, 1) := by decide +kernel
theorem dX5_init_13 : decode cX5_init 13 = .ok (.bipush 6, 2) := by decide +kernel
theorem dX5_init_15 : decode cX5_init 15 = .ok (.newarray .boolean, 2) := by decide +kernel
theorem dX5_init_17 : decode cX5_init 17 = .ok (.putfield 15, 3) := by decide +kernel
theorem dX5_init_20 : decode cX5_init 20 = .ok (.aload_n 0, 1) := by decide +kernel
theorem dX5_init_21 : decode cX5_init 21 = .ok (.iconst 0, 1) := by decide +kernel
theorem dX5_init_22 : decode cX5_init 22 = .ok (.putfield 19, 3) := by decide +kernel
theorem dX5_init_25 : decode cX5_init 25 = .ok (.return_, 1) := by decide +kernel
theorem y_ciX5 (lv : Nat) (h : 2 ≤ lv) : y_CI lv mX5_init 0 := ⟨⟨z_in 148 (by decide +kernel), z_in 7 (by decide +kernel), z_in 149 (by decide +kernel)⟩, ⟨by decide +kernel, by decide +kernel, by decide +kernel⟩, ⟨h, by show 8 + (1 + 11) + 36 * 1 ≤ 36 * lv; omega⟩, rfl, rfl⟩
def mX0_init : z_MC := (cX0_init, RX0, 2, none, yX0_init, 2)
theorem dX0_init_0 : decode cX0_init 0 = .ok (.aload_n 0, 1) := by decide +kernel
theorem dX0_init_1 : decode cX0_init 1 = .ok (.invokespecial 3, 3) := by decide +kernel
theorem dX0_init_4 : decode cX0_init 4 = .ok (.aload_n 0, 1) := by decide +kernel
theorem dX0_init_5 : decode cX0_init 5 = .ok (.bipush 14, 2) := by decide +kernel
theorem dX0_init_7 : decode cX0_init 7 = .ok (.anewarray 9, 3) := by decide +kernel
theorem dX0_init_10 : decode cX0_init 10 = .ok (.putfield 11, 3) := by decide +kernel
theorem dX0_init_13 : decode cX0_init 13 = .ok (.aload_n 0, 1) := by decide +kernel
theorem dX0_init_14 : decode cX0_init 14 = .ok (.iconst 0, 1) := by decide +kernel
theorem dX0_init_15 : decode cX0_init 15 = .ok (.putfield 17, 3) := by decide +kernel
theorem dX0_init_18 : decode cX0_init 18 = .ok (.aload_n 0, 1) := by decide +kernel
theorem dX0_init_19 : decode cX0_init 19 = .ok (.iconst 0, 1) := by decide +kernel
theorem dX0_init_20 : decode cX0_init 20 = .ok (.putfield 21, 3) := by decide +kernel
theorem dX0_init_23 : decode cX0_init 23 = .ok (.iconst 0, 1) := by decide +kernel
theorem dX0_init_24 : decode cX0_init 24 = .ok (.istore_n 1, 1) := by decide +kernel
theorem dX0_init_25 : decode cX0_init 25 = .ok (.iload_n 1, 1) := by decide +kernel
theorem dX0_init_26 : decode cX0_init 26 = .ok (.bipush 14, 2) := by decide +kernel
theorem dX0_init_28 : decode cX0_init 28 = .ok (.if_icmp .ge 22, 3) := by decide +kernel
theorem dX0_init_31 : decode cX0_init 31 = .ok (.aload_n 0, 1) := by decide +kernel
theorem dX0_init_32 : decode cX0_init 32 = .ok (.getfield 11, 3) := by decide +kernel
theorem dX0_init_35 : decode cX0_init 35 = .ok (.iload_n 1, 1) := by decide +kernel
theorem dX0_init_36 : decode cX0_init 36 = .ok (.new 9, 3) := by decide +kernel
theorem dX0_init_39 : decode cX0_init 39 = .ok (.dup, 1) := by decide +kernel
theorem dX0_init_40 : decode cX0_init 40 = .ok (.invokespecial 24, 3) := by decide +kernel
theorem dX0_init_43 : decode cX0_init 43 = .ok (.aastore, 1) := by decide +kernel
theorem dX0_init_44 : decode cX0_init 44 = .ok (.iinc 1 1, 3) := by decide +kernel
theorem dX0_init_47 : decode cX0_init 47 = .ok (.goto (-22), 3) := by decide +kernel
theorem dX0_init_50 : decode cX0_init 50 = .ok (.return_, 1) := by decide +kernel
theorem y_ciX0 (lv : Nat) (h : 3 ≤ lv) : y_CI lv mX0_init 0 := ⟨⟨z_in 128 (by decide +kernel), z_in 6 (by decide +kernel), z_in 129 (by decide +kernel)⟩, ⟨by decide +kernel, by decide +kernel, by decide +kernel⟩, ⟨h, by show 8 + (2 + 11) + 36 * 2 ≤ 36 * lv; omega⟩, rfl, rfl⟩
def mX6_init : z_MC := (cX6_init, RX6, 2, none, yX6_init, 3)
theorem dX6_init_0 : decode cX6_init 0 = .ok (.aload_n 0, 1) := by decide +kernel
theorem dX6_init_1 : decode cX6_init 1 = .ok (.invokespecial 1, 3) := by decide +kernel
theorem dX6_init_4 : decode cX6_init 4 = .ok (.aload_n 0, 1) := by decide +kernel
theorem dX6_init_5 : decode cX6_init 5 = .ok (.new 7, 3) := by decide +kernel
theorem dX6_init_8 : decode cX6_init 8 = .ok (.dup, 1) := by decide +kernel
theorem dX6_init_9 : decode cX6_init 9 = .ok (.invokespecial 9, 3) := by decide +kernel
theorem dX6_init_12 : decode cX6_init 12 = .ok (.putfield 10, 3) := by decide +kernel
theorem dX6_init_15 : decode cX6_init 15 = .ok (.aload_n 0, 1) := by decide +kernel
theorem dX6_init_16 : decode cX6_init 16 = .ok (.new 16, 3) := by decide +kernel
theorem dX6_init_19 : decode cX6_init 19 = .ok (.dup, 1) := by decide +kernel
theorem dX6_init_20 : decode cX6_init 20 = .ok (.invokespecial 18, 3) := by decide +kernel
theorem dX6_init_23 : decode cX6_init 23 = .ok (.putfield 19, 3) := by decide +kernel
theorem dX6_init_26 : decode cX6_init 26 = .ok (.aload_n 0, 1) := by decide +kernel
theorem dX6_init_27 : decode cX6_init 27 = .ok (.new 23, 3) := by decide +kernel
theorem dX6_init_30 : decode cX6_init 30 = .ok (.dup, 1) := by decide +kernel
theorem dX6_init_31 : decode cX6_init 31 = .ok (.aload_n 0, 1) := by decide +kernel
theorem dX6_init_32 : decode cX6_init 32 = .ok (.getfield 19, 3) := by decide +kernel
theorem dX6_init_35 : decode cX6_init 35 = .ok (.invokespecial 25, 3) := by decide +kernel
theorem dX6_init_38 : decode cX6_init 38 = .ok (.putfield 28, 3) := by decide +kernel
theorem dX6_init_41 : decode cX6_init 41 = .ok (.aload_n 0, 1) := by decide +kernel
theorem dX6_init_42 : decode cX6_init 42 = .ok (.new 32, 3) := by decide +kernel
theorem dX6_init_45 : decode cX6_init 45 = .ok (.dup, 1) := by decide +kernel
theorem dX6_init_46 : decode cX6_init 46 = .ok (.invokespecial 34, 3) := by decide +kernel
theorem dX6_init_49 : decode cX6_init 49 = .ok (.putfield 35, 3) := by decide +kernel
theorem dX6_init_52 : decode cX6_init 52 = .ok (.aload_n 0, 1) := by decide +kernel
theorem dX6_init_53 : decode cX6_init 53 = .ok (.new 32, 3) := by decide +kernel
theorem dX6_init_56 : decode cX6_init 56 = .ok (.dup, 1) := by decide +kernel
theorem dX6_init_57 : decode cX6_init 57 = .ok (.invokespecial 34, 3) := by decide +kernel
theorem dX6_init_60 : decode cX6_init 60 = .ok (.putfield 39, 3) := by decide +kernel
theorem dX6_init_63 : decode cX6_init 63 = .ok (.aload_n 0, 1) := by decide +kernel
theorem dX6_init_64 : decode cX6_init 64 = .ok (.new 42, 3) := by decide +kernel
theorem dX6_init_67 : decode cX6_init 67 = .ok (.dup, 1) := by decide +kernel
theorem dX6_init_68 : decode cX6_init 68 = .ok (.invokespecial 44, 3) := by decide +kernel
theorem dX6_init_71 : decode cX6_init 71 = .ok (.putfield 45, 3) := by decide +kernel
theorem dX6_init_74 : decode cX6_init 74 = .ok (.aload_n 0, 1) := by decide +kernel
theorem dX6_init_75 : decode cX6_init 75 = .ok (.iconst 2, 1) := by decide +kernel
theorem dX6_init_76 : decode cX6_init 76 = .ok (.anewarray 32, 3) := by decide +kernel
theorem dX6_init_79 : decode cX6_init 79 = .ok (.putfield 49, 3) := by decide +kernel
theorem dX6_init_82 : decode cX6_init 82 = .ok (.iconst 0, 1) := by decide +kernel
theorem dX6_init_83 : decode cX6_init 83 = .ok (.istore_n 1, 1) := by decide +kernel
theorem dX6_init_84 : decode cX6_init 84 = .ok (.iload_n 1, 1) := by decide +kernel
theorem dX6_init_85 : decode cX6_init 85 = .ok (.iconst 2, 1) := by decide +kernel
theorem dX6_init_86 : decode cX6_init 86 = .ok (.if_icmp .ge 22, 3) := by decide +kernel
theorem dX6_init_89 : decode cX6_init 89 = .ok (.aload_n 0, 1) := by decide +kernel
theorem dX6_init_90 : decode cX6_init 90 = .ok (.getfield 49, 3) := by decide +kernel
theorem dX6_init_93 : decode cX6_init 93 = .ok (.iload_n 1, 1) := by decide +kernel
theorem dX6_init_94 : decode cX6_init 94 = .ok (.new 32, 3) := by decide +kernel
theorem dX6_init_97 : decode cX6_init 97 = .ok (.dup, 1) := by decide +kernel
theorem dX6_init_98 : decode cX6_init 98 = .ok (.invokespecial 34, 3) := by decide +kernel
theorem dX6_init_101 : decode cX6_init 101 = .ok (.aastore, 1) := by decide +kernel
theorem dX6_init_102 : decode cX6_init 102 = .ok (.iinc 1 1, 3) := by decide +kernel
theorem dX6_init_105 : decode cX6_init 105 = .ok (.goto (-21), 3) := by decide +kernel
theorem dX6_init_108 : decode cX6_init 108 = .ok (.aload_n 0, 1) := by decide +kernel
theorem dX6_init_109 : decode cX6_init 109 = .ok (.iconst 2, 1) := by decide +kernel
theorem dX6_init_110 : decode cX6_init 110 = .ok (.newarray .boolean, 2) := by decide +kernel
theorem dX6_init_112 : decode cX6_init 112 = .ok (.putfield 53, 3) := by decide +kernel
theorem dX6_init_115 : decode cX6_init 115 = .ok (.aload_n 0, 1) := by decide +kernel
theorem dX6_init_116 : decode cX6_init 116 = .ok (.new 57, 3) := by decide +kernel
theorem dX6_init_119 : decode cX6_init 119 = .ok (.dup, 1) := by decide +kernel
theorem dX6_init_120 : decode cX6_init 120 = .ok (.invokespecial 59, 3) := by decide +kernel
theorem dX6_init_123 : decode cX6_init 123 = .ok (.putfield 60, 3) := by decide +kernel
theorem dX6_init_126 : decode cX6_init 126 = .ok (.aload_n 0, 1) := by decide +kernel
theorem dX6_init_127 : decode cX6_init 127 = .ok (.bipush 9, 2) := by decide +kernel
theorem dX6_init_129 : decode cX6_init 129 = .ok (.newarray .int, 2) := by decide +kernel
theorem dX6_init_131 : decode cX6_init 131 = .ok (.putfield 64, 3) := by decide +kernel
theorem dX6_init_134 : decode cX6_init 134 = .ok (.aload_n 0, 1) := by decide +kernel
theorem dX6_init_135 : decode cX6_init 135 = .ok (.bipush 9, 2) := by decide +kernel
theorem dX6_init_137 : decode cX6_init 137 = .ok (.newarray .int, 2) := by decide +kernel
theorem dX6_init_139 : decode cX6_init 139 = .ok (.putfield 68, 3) := by decide +kernel
theorem dX6_init_142 : decode cX6_init 142 = .ok (.aload_n 0, 1) := by decide +kernel
theorem dX6_init_143 : decode cX6_init 143 = .ok (.lconst 0, 1) := by decide +kernel
theorem dX6_init_144 : decode cX6_init 144 = .ok (.putfield 71, 3) := by decide +kernel
theorem dX6_init_147 : decode cX6_init 147 = .ok (.return_, 1) := by decide +kernel
theorem y_ciX6 (lv : Nat) (h : 4 ≤ lv) : y_CI lv mX6_init 0 := ⟨⟨z_in 14 (by decide +kernel), z_in 1 (by decide +kernel), z_in 15 (by decide +kernel)⟩, ⟨by decide +kernel, by decide +kernel, by decide +kernel⟩, ⟨h, by show 8 + (2 + 11) + 36 * 3 ≤ 36 * lv; omega⟩, rfl, rfl⟩
def mX7_init : z_MC := (cX7_init, RX7, 1, none, yX7_init, 1)
theorem dX7_init_0 : decode cX7_init 0 = .ok (.aload_n 0, 1) := by decide +kernel
theorem dX7_init_1 : decode cX7_init 1 = .ok (.invokespecial 1, 3) := by decide +kernel
theorem dX7_init_4 : decode cX7_init 4 = .ok (.aload_n 0, 1) := by decide +kernel
theorem dX7_init_5 : decode cX7_init 5 = .ok (.bipush 7, 2) := by decide +kernel
theorem dX7_init_7 : decode cX7_init 7 = .ok (.newarray .int, 2) := by decide +kernel
theorem dX7_init_9 : decode cX7_init 9 = .ok (.putfield 7, 3) := by decide +kernel
theorem dX7_init_12 : decode cX7_init 12 = .ok (.aload_n 0, 1) := by decide +kernel
theorem dX7_init_13 : decode cX7_init 13 = .ok (.bipush 7, 2) := by decide +kernel
theorem dX7_init_15 : decode cX7_init 15 = .ok (.newarray .int, 2) := by decide +kernel
theorem dX7_init_17 : decode cX7_init 17 = .ok (.putfield 13, 3) := by decide +kernel
theorem dX7_init_20 : decode cX7_init 20 = .ok (.aload_n 0, 1) := by decide +kernel
theorem dX7_init_21 : decode cX7_init 21 = .ok (.bipush 7, 2) := by decide +kernel
theorem dX7_init_23 : decode cX7_init 23 = .ok (.newarray .int, 2) := by decide +kernel
theorem dX7_init_25 : decode cX7_init 25 = .ok (.putfield 16, 3) := by decide +kernel
theorem dX7_init_28 : decode cX7_init 28 = .ok (.aload_n 0, 1) := by decide +kernel
theorem dX7_init_29 : decode cX7_init 29 = .ok (.bipush 7, 2) := by decide +kernel
theorem dX7_init_31 : decode cX7_init 31 = .ok (.newarray .int, 2) := by decide +kernel
theorem dX7_init_33 : decode cX7_init 33 = .ok (.putfield 19, 3) := by decide +kernel
theorem dX7_init_36 : decode cX7_init 36 = .ok (.aload_n 0, 1) := by decide +kernel
theorem dX7_init_37 : decode cX7_init 37 = .ok (.iconst 4, 1) := by decide +kernel
theorem dX7_init_38 : decode cX7_init 38 = .ok (.newarray .int, 2) := by decide +kernel
theorem dX7_init_40 : decode cX7_init 40 = .ok (.putfield 22, 3) := by decide +kernel
theorem dX7_init_43 : decode cX7_init 43 = .ok (.aload_n 0, 1) := by decide +kernel
theorem dX7_init_44 : decode cX7_init 44 = .ok (.iconst 4, 1) := by decide +kernel
theorem dX7_init_45 : decode cX7_init 45 = .ok (.newarray .int, 2) := by decide +kernel
theorem dX7_init_47 : decode cX7_init 47 = .ok (.putfield 25, 3) := by decide +kernel
theorem dX7_init_50 : decode cX7_init 50 = .ok (.aload_n 0, 1) := by decide +kernel
theorem dX7_init_51 : decode cX7_init 51 = .ok (.iconst 3, 1) := by decide +kernel
theorem dX7_init_52 : decode cX7_init 52 = .ok (.newarray .int, 2) := by decide +kernel
theorem dX7_init_54 : decode cX7_init 54 = .ok (.putfield 28, 3) := by decide +kernel
theorem dX7_init_57 : decode cX7_init 57 = .ok (.aload_n 0, 1) := by decide +kernel
theorem dX7_init_58 : decode cX7_init 58 = .ok (.iconst 3, 1) := by decide +kernel
theorem dX7_init_59 : decode cX7_init 59 = .ok (.newarray .int, 2) := by decide +kernel
theorem dX7_init_61 : decode cX7_init 61 = .ok (.putfield 31, 3) := by decide +kernel
theorem dX7_init_64 : decode cX7_init 64 = .ok (.aload_n 0, 1) := by decide +kernel
theorem dX7_init_65 : decode cX7_init 65 = .ok (.bipush 18, 2) := by decide +kernel
theorem dX7_init_67 : decode cX7_init 67 = .ok (.newarray .int, 2) := by decide +kernel
theorem dX7_init_69 : decode cX7_init 69 = .ok (.putfield 34, 3) := by decide +kernel
theorem dX7_init_72 : decode cX7_init 72 = .ok (.aload_n 0, 1) := by decide +kernel
theorem dX7_init_73 : decode cX7_init 73 = .ok (.bipush 28, 2) := by decide +kernel
theorem dX7_init_75 : decode cX7_init 75 = .ok (.newarray .int, 2) := by decide +kernel
theorem dX7_init_77 : decode cX7_init 77 = .ok (.putfield 37, 3) := by decide +kernel
theorem dX7_init_80 : decode cX7_init 80 = .ok (.aload_n 0, 1) := by decide +kernel
theorem dX7_init_81 : decode cX7_init 81 = .ok (.bipush 8, 2) := by decide +kernel
theorem dX7_init_83 : decode cX7_init 83 = .ok (.newarray .int, 2) := by decide +kernel
theorem dX7_init_85 : decode cX7_init 85 = .ok (.putfield 40, 3) := by decide +kernel
theorem dX7_init_88 : decode cX7_init 88 = .ok (.aload_n 0, 1) := by decide +kernel
theorem dX7_init_89 : decode cX7_init 89 = .ok (.bipush 6, 2) := by decide +kernel
theorem dX7_init_91 : decode cX7_init 91 = .ok (.newarray .int, 2) := by decide +kernel
theorem dX7_init_93 : decode cX7_init 93 = .ok (.putfield 43, 3) := by decide +kernel
theorem dX7_init_96 : decode cX7_init 96 = .ok (.aload_n 0, 1) := by decide +kernel
theorem dX7_init_97 : decode cX7_init 97 = .ok (.bipush 60, 2) := by decide +kernel
theorem dX7_init_99 : decode cX7_init 99 = .ok (.newarray .int, 2) := by decide +kernel
theorem dX7_init_101 : decode cX7_init 101 = .ok (.putfield 46, 3) := by decide +kernel
theorem dX7_init_104 : decode cX7_init 104 = .ok (.aload_n 0, 1) := by decide +kernel
theorem dX7_init_105 : decode cX7_init 105 = .ok (.bipush 6, 2) := by decide +kernel
theorem dX7_init_107 : decode cX7_init 107 = .ok (.newarray .int, 2) := by decide +kernel
theorem dX7_init_109 : decode cX7_init 109 = .ok (.putfield 49, 3) := by decide +kernel
theorem dX7_init_112 : decode cX7_init 112 = .ok (.aload_n 0, 1) := by decide +kernel
theorem dX7_init_113 : decode cX7_init 113 = .ok (.bipush 126, 2) := by decide +kernel
theorem dX7_init_115 : decode cX7_init 115 = .ok (.newarray .int, 2) := by decide +kernel
theorem dX7_init_117 : decode cX7_init 117 = .ok (.putfield 52, 3) := by decide +kernel
theorem dX7_init_120 : decode cX7_init 120 = .ok (.aload_n 0, 1) := by decide +kernel
theorem dX7_init_121 : decode cX7_init 121 = .ok (.bipush 6, 2) := by decide +kernel
theorem dX7_init_123 : decode cX7_init 123 = .ok (.newarray .int, 2) := by decide +kernel
theorem dX7_init_125 : decode cX7_init 125 = .ok (.putfield 55, 3) := by decide +kernel
theorem dX7_init_128 : decode cX7_init 128 = .ok (.aload_n 0, 1) := by decide +kernel
theorem dX7_init_129 : decode cX7_init 129 = .ok (.bipush 6, 2) := by decide +kernel
theorem dX7_init_131 : decode cX7_init 131 = .ok (.newarray .int, 2) := by decide +kernel
theorem dX7_init_133 : decode cX7_init 133 = .ok (.putfield 58, 3) := by decide +kernel
theorem dX7_init_136 : decode cX7_init 136 = .ok (.aload_n 0, 1) := by decide +kernel
theorem dX7_init_137 : decode cX7_init 137 = .ok (.iconst 2, 1) := by decide +kernel
theorem dX7_init_138 : decode cX7_init 138 = .ok (.newarray .boolean, 2) := by decide +kernel
theorem dX7_init_140 : decode cX7_init 140 = .ok (.putfield 61, 3) := by decide +kernel
theorem dX7_init_143 : decode cX7_init 143 = .ok (.aload_n 0, 1) := by decide +kernel
theorem dX7_init_144 : decode cX7_init 144 = .ok (.bipush 18, 2) := by decide +kernel
theorem dX7_init_146 : decode cX7_init 146 = .ok (.newarray .int, 2) := by decide +kernel
theorem dX7_init_148 : decode cX7_init 148 = .ok (.putfield 65, 3) := by decide +kernel
theorem dX7_init_151 : decode cX7_init 151 = .ok (.return_, 1) := by decide +kernel
theorem y_ciX7 (lv : Nat) (h : 2 ≤ lv) : y_CI lv mX7_init 0 := ⟨⟨z_in 561 (by decide +kernel), z_in 8 (by decide +kernel), z_in 562 (by decide +kernel)⟩, ⟨by decide +kernel, by decide +kernel, by decide +kernel⟩, ⟨h, by show 8 + (1 + 11) + 36 * 1 ≤ 36 * lv; omega⟩, rfl, rfl⟩
theorem q_jX6 : Cond.initialized RX6 ∈ z_tb := z_in 1 (by decide +kernel)
theorem q_jX3 : Cond.initialized RX3 ∈ z_tb := z_in 2 (by decide +kernel)
theorem q_jX4 : Cond.initialized RX4 ∈ z_tb := z_in 3 (by decide +kernel)
theorem q_jX1 : Cond.initialized RX1 ∈ z_tb := z_in 4 (by decide +kernel)
theorem q_jX2 : Cond.initialized RX2 ∈ z_tb := z_in 5 (by decide +kernel)
theorem q_jX0 : Cond.initialized RX0 ∈ z_tb := z_in 6 (by decide +kernel)
theorem q_jX5 : Cond.initialized RX5 ∈ z_tb := z_in 7 (by decide +kernel)
theorem q_jX7 : Cond.initialized RX7 ∈ z_tb := z_in 8 (by decide +kernel)
theorem q_tX6 : Cond.instantiable RX6 12 ∈ z_tb := z_in 12 (by decide +kernel)
theorem q_oX6_1 : Cond.methodLink RX6 1 objectInit ∈ z_tb := z_in 16 (by decide +kernel)
theorem q_nX6_7 : Cond.classLink RX6 7 RX3 ∈ z_tb := z_in 19 (by decide +kernel)
theorem q_tX3 : Cond.instantiable RX3 2 ∈ z_tb := z_in 20 (by decide +kernel)
theorem q_oX3_3 : Cond.methodLink RX3 3 objectInit ∈ z_tb := z_in 24 (by decide +kernel)
theorem q_nX6_16 : Cond.classLink RX6 16 RX4 ∈ z_tb := z_in 36 (by decide +kernel)
theorem q_tX4 : Cond.instantiable RX4 11 ∈ z_tb := z_in 37 (by decide +kernel)
theorem q_oX4_3 : Cond.methodLink RX4 3 objectInit ∈ z_tb := z_in 41 (by decide +kernel)
theorem q_nX6_23 : Cond.classLink RX6 23 RX1 ∈ z_tb := z_in 90 (by decide +kernel)
theorem q_tX1 : Cond.instantiable RX1 2 ∈ z_tb := z_in 91 (by decide +kernel)
theorem q_oX1_3 : Cond.methodLink RX1 3 objectInit ∈ z_tb := z_in 95 (by decide +kernel)
theorem q_nX6_32 : Cond.classLink RX6 32 RX2 ∈ z_tb := z_in 103 (by decide +kernel)
theorem q_tX2 : Cond.instantiable RX2 3 ∈ z_tb := z_in 104 (by decide +kernel)
theorem q_oX2_3 : Cond.methodLink RX2 3 objectInit ∈ z_tb := z_in 108 (by decide +kernel)
theorem q_nX6_42 : Cond.classLink RX6 42 RX0 ∈ z_tb := z_in 125 (by decide +kernel)
theorem q_tX0 : Cond.instantiable RX0 3 ∈ z_tb := z_in 126 (by decide +kernel)
theorem q_oX0_3 : Cond.methodLink RX0 3 objectInit ∈ z_tb := z_in 130 (by decide +kernel)
theorem q_nX0_9 : Cond.classLink RX0 9 RX2 ∈ z_tb := z_in 131 (by decide +kernel)
theorem q_nX6_57 : Cond.classLink RX6 57 RX5 ∈ z_tb := z_in 145 (by decide +kernel)
theorem q_tX5 : Cond.instantiable RX5 3 ∈ z_tb := z_in 146 (by decide +kernel)
theorem q_oX5_3 : Cond.methodLink RX5 3 objectInit ∈ z_tb := z_in 150 (by decide +kernel)
theorem q_tX7 : Cond.instantiable RX7 32 ∈ z_tb := z_in 559 (by decide +kernel)
theorem q_oX7_1 : Cond.methodLink RX7 1 objectInit ∈ z_tb := z_in 563 (by decide +kernel)
theorem q_aI : Cond.arrayClass (newarray.typeOf .int) ∈ z_tb := z_in 35 (by decide +kernel)
theorem q_aZ : Cond.arrayClass (newarray.typeOf .boolean) ∈ z_tb := z_in 162 (by decide +kernel)
theorem q_iX6_25 : Cond.methodLink RX6 25 yX1_init ∈ z_tb := z_in 92 (by decide +kernel)
theorem q_iX6_44 : Cond.methodLink RX6 44 yX0_init ∈ z_tb := z_in 127 (by decide +kernel)
