/-! ===== construction: the cells come in the order of their numbers, at addresses that follow each other ===== -/
/-- a cell: an array of zeros (kind, length); an object (class, its slots: 0 an int 0, 1 a long 0, 2 null, j + 3 a reference to j); a row of references (0 null, j + 1 to j) -/
abbrev y_S : Type := (Nat × Nat) ⊕ ((Nat × List Nat) ⊕ List Nat)
def y_fv (ad : Nat → Nat) : Nat → Value
  | 0 => .int 0
  | 1 => .long 0
  | 2 => .null
  | j + 3 => .ref (ad j)
def y_rf (ad : Nat → Nat) : Nat → Option Nat
  | 0 => none
  | j + 1 => some (ad j)
def y_ent (cy : Nat → ClassId) (ad : Nat → Nat) : y_S → va_E
  | .inl q => .inl (cy q.1, q.2, .inl (fun _ => 0))
  | .inr (.inl q) => .inr (q.1, q.2.map (y_fv ad))
  | .inr (.inr l) => .inl (cy 2, l.length, .inr (.inr (.inr (.inr (fun k => (l[k]?).bind (y_rf ad))))))
def yup (F : Nat → y_S) (b : Nat) (e : y_S) : Nat → y_S := fun i => if i = b then e else F i
theorem yup_1 (F : Nat → y_S) (b : Nat) (e : y_S) : yup F b e b = e := if_pos rfl
theorem yup_n (F : Nat → y_S) {b i : Nat} (e : y_S) (h : i ≠ b) : yup F b e i = F i := if_neg h
def y_ad (ad : Nat → Nat) : Prop := ∀ i, i < 80 → ad i = ad 0 + i
def y_P (D : va_G) (cy : Nat → ClassId) (ad : Nat → Nat) (F : Nat → y_S) (n : Nat) (H : Heap) : Prop := ∀ k, k < n → va_at D vwCl (ad k, y_ent cy ad (F k)) H
def y_A (ad : Nat → Nat) : Nat → Prop := fun q => ad 0 ≤ q
def y_Wo (D : va_G) (cy : Nat → ClassId) (ad : Nat → Nat) (s : State) (F : Nat → y_S) (n : Nat) (H : Heap) (locs : List Loc) : Prop := y_P D cy ad F n H ∧ H.size = ad n ∧ va_S (y_A ad) s.heap H locs ∧ y_ad ad ∧ n ≤ 79
theorem y_push {D : va_G} {cy : Nat → ClassId} {ad : Nat → Nat} {s : State} {F : Nat → y_S} {n : Nat} {H H1 : Heap} {locs : List Loc} {e : y_S} (w : y_Wo D cy ad s F n H locs) (hn : n < 79) (z1 : H1.size = ad n + 1) (o1 : ∀ q : Nat, q < ad n → H1[q]? = H[q]?) (he : va_at D vwCl (ad n, y_ent cy ad e) H1) : y_Wo D cy ad s (yup F n e) (n + 1) H1 locs := by
  obtain ⟨w1, w2, w3, w4, w5⟩ := w
  have hs := w3.1
  refine ⟨fun k hk => ?_, ?_, ⟨by omega, fun q h1 h2 => ?_, w3.2.2⟩, w4, by omega⟩
  · by_cases e0 : k = n
    · subst e0
      rw [yup_1]
      exact he
    · rw [yup_n _ _ e0]
      exact (w1 k (by omega)).kept (o1 (ad k) (by rw [w4 k (by omega), w4 n (by omega)]; omega))
  · have a1 := w4 n (by omega)
    have a2 := w4 (n + 1) (by omega)
    omega
  · rw [o1 q (by omega)]
    exact w3.2.1 q h1 h2
theorem y_put {D : va_G} {cy : Nat → ClassId} {ad : Nat → Nat} {s : State} {F : Nat → y_S} {n b k : Nat} {H H1 : Heap} {locs : List Loc} {e : y_S} (w : y_Wo D cy ad s F n H locs) (hb : b < n) (z : H1.size = H.size) (oq : ∀ q : Nat, q ≠ ad b → H1[q]? = H[q]?) (he : va_at D vwCl (ad b, y_ent cy ad e) H1) : y_Wo D cy ad s (yup F b e) n H1 (locs ++ [⟨ad b, k⟩]) := by
  obtain ⟨w1, w2, w3, w4, w5⟩ := w
  have ab := w4 b (by omega)
  refine ⟨fun j hj => ?_, by rw [z]; exact w2, w3.put z oq (show ad 0 ≤ ad b by omega), w4, w5⟩
  by_cases e0 : j = b
  · subst e0
    rw [yup_1]
    exact he
  · rw [yup_n _ _ e0]
    have aj := w4 j (by omega)
    exact (w1 j hj).kept (oq (ad j) (by omega))
section YW
variable {p : Program} {l : Launch} {e : Env} {R : Room} {s : State} {m : MethodId} {args : Array Value} {below : List Frame} {meth : Method} {c : Code} {H : Heap} {locs : List Loc} {cells slots : Nat} {Q : State → Prop}
variable {cc : ByteArray} {pc : Nat} {ls : Array Slot} {rest : List Value} {D : va_G} {cy : Nat → ClassId} {ad : Nat → Nat} {F : Nat → y_S} {n : Nat}
theorem yw_new {own C : String} {T : u_T} {N ci index : Nat} {Ts : List Cond} {codes : List Nat} (hx : p.tables.exec = Jvm.exec) (hb : c.code = cc) (hts : ∀ w ∈ Ts, w.before args s = true) (hin : ∀ w ∈ u_ws C T N, w ∈ Ts) (ty : Nat → FieldType) (hty : ∀ k, k < N → parseFieldDescriptor (T k).2.2.1 = some (ty k)) (hown : s.vm.findClass own = some m.cls) (hcl : (Cond.classLink own index C).before args s = true) (hinst : (Cond.instantiable C N).before args s = true) (hini : (Cond.initialized C).before args s = true) (hK : va_K D vwCl (z_ty cy) s) (w : y_Wo D cy ad s F n H locs) (hn : n < 79) (hc : vwCl[ci]? = some (C, T, N)) (hfs : ∀ j, j < N → defaultValue (ty j) = vp_V (codes.map (y_fv ad)) j) (hcells : cells + 1 ≤ R.cells) (hslots : slots + N ≤ R.slots) (hdg : decode cc pc = .ok (.new index, 3))
    (kk : ∀ H1 : Heap, y_Wo D cy ad s (yup F n (.inr (.inl (ci, codes)))) (n + 1) H1 locs → W p l e R s m args below meth c H1 locs (cells + 1) (slots + N) Q (F0 m (pc + 3) ls (.ref (ad n) :: rest))) : W p l e R s m args below meth c H locs cells slots Q (F0 m pc ls rest) := by
  have hKn := hK.1 ci _ hc
  refine W.newcK hx hb hown hcl hinst hini rfl hdg hcells hslots hKn.2.1 w.2.1 fun H1 kC hkC e1 z1 o1 => ?_
  exact kk H1 (y_push w hn z1 o1 ⟨_, hc, (u_born ty hts hin hKn hkC e1 hty).to hfs⟩)
theorem yw_newa {atype : ArrayType} {t0 N : Nat} {v : Int32} (hx : p.tables.exec = Jvm.exec) (hb : c.code = cc) (harr : (Cond.arrayClass (newarray.typeOf atype)).before args s = true) (hd : defaultValue (newarray.typeOf atype) = .int 0) (hfc : s.vm.findClass ("[" ++ (newarray.typeOf atype).toString) = some (cy t0)) (w : y_Wo D cy ad s F n H locs) (hn : n < 79) (h0 : ¬ v < 0) (hN : v.toNatClampNeg = N) (hbytes : N * componentBytes (newarray.typeOf atype) ≤ 536870912) (hcells : cells + 1 ≤ R.cells) (hslots : slots + N ≤ R.slots) (hdg : decode cc pc = .ok (.newarray atype, 2))
    (kk : ∀ H1 : Heap, y_Wo D cy ad s (yup F n (.inl (t0, N))) (n + 1) H1 locs → W p l e R s m args below meth c H1 locs (cells + 1) (slots + N) Q (F0 m (pc + 2) ls (.ref (ad n) :: rest))) : W p l e R s m args below meth c H locs cells slots Q (F0 m pc ls (.int v :: rest)) := by
  refine va_newaK hx hb harr rfl hdg rfl h0 hN hbytes hcells hslots w.2.1 fun H1 cA e1 z1 o1 hAr hNm => ?_
  cases hfc.symm.trans hNm
  refine kk H1 (y_push w hn z1 o1 ?_)
  rw [hd] at e1
  exact e1
theorem y_nulls (ad : Nat → Nat) (N : Nat) : (fun k : Nat => ((List.replicate N 0)[k]?).bind (y_rf ad)) = fun _ => none := by
  funext k
  by_cases h : k < N
  · rw [List.getElem?_replicate, if_pos h]; rfl
  · rw [List.getElem?_replicate, if_neg h]; rfl
theorem yw_newq {own : String} {index N : Nat} {v : Int32} (hx : p.tables.exec = Jvm.exec) (hb : c.code = cc) (hown : s.vm.findClass own = some m.cls) (hclink : (Cond.classLink own index "SafetyPins$Plight").before args s = true) (hover : va_AO "SafetyPins$Plight" s) (hK : va_K D vwCl (z_ty cy) s) (w : y_Wo D cy ad s F n H locs) (hn : n < 79) (h0 : ¬ v < 0) (hN : v.toNatClampNeg = N) (hbytes : N * 4 ≤ 536870912) (hcells : cells + 1 ≤ R.cells) (hslots : slots + N ≤ R.slots) (hdg : decode cc pc = .ok (.anewarray index, 3))
    (kk : ∀ H1 : Heap, y_Wo D cy ad s (yup F n (.inr (.inr (List.replicate N 0)))) (n + 1) H1 locs → W p l e R s m args below meth c H1 locs (cells + 1) (slots + N) Q (F0 m (pc + 3) ls (.ref (ad n) :: rest))) : W p l e R s m args below meth c H locs cells slots Q (F0 m pc ls (.int v :: rest)) := by
  subst hN
  refine W.anew hx hb hown hclink (va_AO.use hover) rfl hdg rfl h0 hbytes hcells hslots fun cA kA comp f1 f2 f3 f4 => ?_
  obtain ⟨-, -, -, -, -, f5⟩ := (hK.2 2 _ rfl).2
  cases f5.symm.trans f1
  have e1 : (H.push ({ cls := cy 2, slots := Array.replicate v.toNatClampNeg .null, vm := .none } : Cell))[ad n]? = some (arrV (cy 2) v.toNatClampNeg (fun _ => .null)) := by rw [← w.2.1, Array.getElem?_push_size, ← arrV_new]
  have K := kk _ (y_push w hn (H1 := H.push ({ cls := cy 2, slots := Array.replicate v.toNatClampNeg .null, vm := .none } : Cell)) (by rw [Array.size_push, w.2.1]) (fun q hq => by rw [Array.getElem?_push, if_neg (by rw [w.2.1]; exact Nat.ne_of_lt hq)]) (by
    show _ = some (vp_cell (cy 2) ((List.replicate v.toNatClampNeg 0).length, .inr (.inr (.inr (.inr (fun k : Nat => ((List.replicate v.toNatClampNeg 0)[k]?).bind (y_rf ad)))))))
    rw [y_nulls, vp_cell_q, List.length_replicate]
    exact e1))
  rw [w.2.1]
  exact K
theorem yw_put {own : String} {T : u_T} {C : String} {N ci k b vc index : Nat} {Ts : List Cond} {codes : List Nat} {fin : Bool} (hx : p.tables.exec = Jvm.exec) (hb : c.code = cc) (hts : ∀ w ∈ Ts, w.before args s = true) (hin : ∀ w ∈ u_ws C T N, w ∈ Ts) (ty0 : Nat → FieldType) (hty : ∀ k, k < N → parseFieldDescriptor (T k).2.2.1 = some (ty0 k)) (hnm : ∀ a, a < N → ∀ b, b < N → a ≠ b → (T a).2.1 ≠ (T b).2.1) (hown : s.vm.findClass own = some m.cls) (hK : va_K D vwCl (z_ty cy) s) (w : y_Wo D cy ad s F n H locs) (hbn : b < n) (hF : F b = .inr (.inl (ci, codes))) (hc : vwCl[ci]? = some (C, T, N)) (hk : k < N) (hl : k < codes.length) (hlink : (Cond.fieldLink own index (T k).1 (T k).2.1 (T k).2.2.1).before args s = true) (hfin : (T k).2.2.2 = fin) (hmn : meth.name = "<init>") (hdecl : (T k).1 = own) (hn : narrow (ty0 k) (y_fv ad vc) = y_fv ad vc) (hfit : fits (ty0 k) (y_fv ad vc) = true) (hdg : decode cc pc = .ok (.putfield index, 3))
    (kk : ∀ (H1 : Heap) (locs1 : List Loc), y_Wo D cy ad s (yup F b (.inr (.inl (ci, codes.set k vc)))) n H1 locs1 → W p l e R s m args below meth c H1 locs1 cells slots Q (F0 m (pc + 3) ls rest)) : W p l e R s m args below meth c H locs cells slots Q (F0 m pc ls (y_fv ad vc :: .ref (ad b) :: rest)) := by
  have hap := va_apart (own := own) hts hin ty0 hty hnm hK hc
  have hat := w.1 b hbn
  rw [hF] at hat
  obtain ⟨r, h1, cell, q1, q2, q3, q4⟩ := hat
  have hr : r = (C, T, N) := Option.some.inj (h1.symm.trans hc)
  subst hr
  obtain ⟨hS, hfc, kC, hkC, hkind⟩ := hK.1 ci _ hc
  obtain ⟨cf, kf, fi, f, hi, hsl⟩ := hS k hk
  have hlay := hts _ (hin _ (u_in_lay hk))
  have hst := (u_facts hfc hkC (u_lays hts hin hk) hi).1
  have hl2 : k < (codes.map (y_fv ad)).length := by rw [List.length_map]; exact hl
  have fin2 : ∀ H' : Heap, H'[ad b]? = some (cell.setSlot f.slot (y_fv ad vc)) → H'.size = H.size → (∀ q : Nat, q ≠ ad b → H'[q]? = H[q]?) → W p l e R s m args below meth c H' (locs ++ [⟨ad b, f.slot⟩]) cells slots Q (F0 m (pc + 3) ls rest) := by
    intro H' e1 e2 e3
    rw [hsl] at e1 ⊢
    refine kk H' _ (y_put w hbn e2 e3 ?_)
    show va_at D vwCl (ad b, .inr (ci, (codes.set k vc).map (y_fv ad))) H'
    rw [List.map_set]
    exact ⟨_, hc, t_OB.to (V := updV (vp_V (codes.map (y_fv ad))) k (y_fv ad vc)) ⟨_, e1, q2, q3, t_set q4 hap hk _⟩ (fun j _ => vp_updV_set hl2 _ j)⟩
  unfold u_lay at hlay
  cases fin with
  | false =>
    rw [if_neg (by rw [hfin]; decide)] at hlay
    have h6 := u_store hfc hkC hkind hlay hi (hty k hk) hn hfit
    exact W.putK hx hb (f := f) ⟨hown, hlink, ⟨_, _, _, hi⟩, hst⟩ (by rw [q2]; exact h6) q1 q3 (by rw [hsl]; exact k2_hasslot (q4 k hk)) rfl rfl hdg fin2
  | true =>
    rw [if_pos hfin] at hlay
    have hcf : m.cls = cf := by
      obtain ⟨_, _, c', _, _, _, -, -, hf', -, -, -, hown2, -⟩ := Cond.laysFinal_spec hlay
      have e1 : c' = cf := by have := hi.symm.trans hf'; simp at this; exact this.1.symm
      rw [hdecl] at hown2
      rw [← e1]; exact Option.some.inj (hown.symm.trans hown2)
    have h6 := u_fits hfc hkC hkind (Or.inr hlay) hi (hty k hk) hn hfit
    exact W.putFinK hx hb hown hlink hi hst hcf hmn (by rw [q2]; exact h6) q1 q3 (by rw [hsl]; exact k2_hasslot (q4 k hk)) rfl rfl hdg fin2
theorem y_one {b : Nat} (w : y_Wo D cy ad s F n H locs) (hb : b < n) : va_P D vwCl [(ad b, y_ent cy ad (F b))] H := fun k q hk => by
  match k, hk with
  | 0, hk => cases hk; exact w.1 b hb
  | k + 1, hk => simp at hk
theorem yw_get {own : String} {T : u_T} {C : String} {N ci k b j index : Nat} {Ts : List Cond} {codes : List Nat} (hx : p.tables.exec = Jvm.exec) (hb : c.code = cc) (hts : ∀ w ∈ Ts, w.before args s = true) (hin : ∀ w ∈ u_ws C T N, w ∈ Ts) (hown : s.vm.findClass own = some m.cls) (hK : va_K D vwCl (z_ty cy) s) (w : y_Wo D cy ad s F n H locs) (hbn : b < n) (hF : F b = .inr (.inl (ci, codes))) (hc : vwCl[ci]? = some (C, T, N)) (hk : k < N) (hj : codes[k]? = some j) (hlink : (Cond.fieldLink own index (T k).1 (T k).2.1 (T k).2.2.1).before args s = true) (hdg : decode cc pc = .ok (.getfield index, 3))
    (kk : W p l e R s m args below meth c H locs cells slots Q (F0 m (pc + 3) ls (y_fv ad j :: rest))) : W p l e R s m args below meth c H locs cells slots Q (F0 m pc ls (.ref (ad b) :: rest)) := by
  have hP := y_one w hbn
  rw [hF] at hP
  exact va_get hx hb hts hin hown hK hP 0 rfl hc k hk hlink (fun _ h9 => h9) (by rw [List.getElem?_map, hj]; rfl) hdg kk
theorem y_upd (ad : Nat → Nat) {l : List Nat} {i v : Nat} (hi : i < l.length) : (fun k : Nat => ((l.set i (v + 1))[k]?).bind (y_rf ad)) = va_up (fun k : Nat => (l[k]?).bind (y_rf ad)) i (some (ad v)) := by
  funext k
  by_cases h : k = i
  · subst h
    rw [List.getElem?_set_self hi, va_up_self]; rfl
  · rw [List.getElem?_set_ne (Ne.symm h), va_up_ne _ _ h]
theorem yw_aast {b v i ci : Nat} {qs : List Nat} {codes : List Nat} {x : Int32} (hx : p.tables.exec = Jvm.exec) (hb : c.code = cc) (hK : va_K D vwCl (z_ty cy) s) (w : y_Wo D cy ad s F n H locs) (hbn : b < n) (hF : F b = .inr (.inr qs)) (hvn : v < n) (hV : F v = .inr (.inl (2, codes))) (hxi : x = nI i) (hi : i < qs.length) (hi2 : qs.length < 2 ^ 31) (hdg : decode cc pc = .ok (.aastore, 1))
    (kk : ∀ (H1 : Heap) (locs1 : List Loc), y_Wo D cy ad s (yup F b (.inr (.inr (qs.set i (v + 1))))) n H1 locs1 → W p l e R s m args below meth c H1 locs1 cells slots Q (F0 m (pc + 1) ls rest)) : W p l e R s m args below meth c H locs cells slots Q (F0 m pc ls (.ref (ad v) :: .int x :: .ref (ad b) :: rest)) := by
  have ha := w.1 b hbn
  rw [hF] at ha
  have ha : H[ad b]? = some (vp_cell (cy 2) (qs.length, .inr (.inr (.inr (.inr (fun k => (qs[k]?).bind (y_rf ad))))))) := ha
  have hv := w.1 v hvn
  rw [hV] at hv
  obtain ⟨r', hr', cellV, g1, g2, g3, -⟩ := hv
  have hr9 : r' = (RX2, TX2, 3) := Option.some.inj (hr'.symm.trans rfl)
  subst hr9
  have hcls := (hK.1 2 _ rfl).2
  obtain ⟨kA, comp, k1, k2, k3, -⟩ := (hK.2 2 _ rfl).2
  have hcomp : comp = D.1 2 := Option.some.inj (k3.symm.trans hcls.1)
  subst hcomp
  obtain ⟨kC, hkC, -⟩ := hcls.2
  have hxn : x.toNatClampNeg = i := by rw [hxi, nI_clamp (by omega)]
  refine W.aast hx hb ha (fun q h => by cases h) (fun h => by cases h) k1 k2 rfl hkC ⟨by rw [hxi]; exact nI_pos (by omega), by show _ < (arrV _ _ _).slots.size; rw [arrV_size, hxn]; exact hi⟩ g1 (fun q h => by rw [g3] at h; cases h) (by rw [g2]; exact hkC) (by rw [g2]; exact va_assign hcls) rfl rfl hdg fun H1 e1 z oq => ?_
  refine kk H1 _ (y_put w hbn z oq ?_)
  show H1[ad b]? = some (vp_cell (cy 2) ((qs.set i (v + 1)).length, .inr (.inr (.inr (.inr _)))))
  rw [e1, y_upd ad hi, vp_cell_q, vp_cell_q, arrV_store, List.length_set, hxn]
  congr 2
  funext q
  by_cases hq : q = i
  · subst hq
    simp [updV, va_up, va_rf]
  · simp [updV, va_up, hq]
/-- what the tables say beside the words -/
def y_nest : List (String × Nat × MethodName) := [("SafetyPins", 9, ⟨"SafetyPins$Script", "<init>", "()V"⟩), ("SafetyPins", 18, ⟨"SafetyPins$Town", "<init>", "()V"⟩), ("SafetyPins", 34, ⟨"SafetyPins$Plight", "<init>", "()V"⟩), ("SafetyPins$Acts", 24, ⟨"SafetyPins$Plight", "<init>", "()V"⟩), ("SafetyPins", 59, ⟨"SafetyPins$Trials", "<init>", "()V"⟩)]
def y_tb (U : State) : Prop := va_AO "SafetyPins$Plight" U ∧ ∀ q ∈ y_nest, va_Nw (.methodLinkNest q.1 q.2.1 q.2.2 "SafetyPins") U
theorem y_tb_moved {u U : State} (hW : u.WarmedH U.vm) (h : y_tb u) : y_tb U := ⟨va_AO.moved hW.alike h.1, fun q hq => va_Nw.warmM hW (h.2 q hq)⟩
def y_Pre (D : va_G) (cy : Nat → ClassId) (ad : Nat → Nat) (F : Nat → y_S) (n : Nat) (U : State) : Prop := y_P D cy ad F n U.heap ∧ va_K D vwCl (z_ty cy) U ∧ U.heap.size = ad n ∧ y_ad ad ∧ n ≤ 79 ∧ y_tb U
def y_Q (D : va_G) (cy : Nat → ClassId) (ad : Nat → Nat) (F : Nat → y_S) (n : Nat) : Array Value → State → Outcome → State → Prop := fun _ st oc t => (oc = .returned none ∧ y_Pre D cy ad F n t) ∧ va_F (y_A ad) st t
def y_rm (lv mc ms : Nat) : Room := { frames := lv, cells := mc, slots := ms, locals := 36 * lv }
def y_Ct (cx : z_MC) (mc ms : Nat) (as : List Value) (F : Nat → y_S) (n : Nat) (F2 : Nat → y_S) (n2 : Nat) : Prop :=
  ∀ (l : Launch) (D : va_G) (cy : Nat → ClassId) (ad : Nat → Nat), Met l cx.2.2.2.2.1 (z_ws cx) (y_rm cx.2.2.2.2.2 mc ms) (va_Pc (as.map (z_mv ad)) (y_Pre D cy ad F n)) (y_Q D cy ad F2 n2) mc ms (y_A ad)
theorem y_blind {D : va_G} {cy : Nat → ClassId} {ad : Nat → Nat} {F : Nat → y_S} {n : Nat} {av : List Value} : FrameBlind (va_Pc av (y_Pre D cy ad F n)) := fun a U g mk q => ⟨q.1, q.2.1, va_K.moved (u := U) (U := U.calling g mk a) (Vm.Alike.refl U.vm) q.2.2.1, q.2.2.2.1, q.2.2.2.2.1, q.2.2.2.2.2.1, va_AO.moved (u := U) (U := U.calling g mk a) (Vm.Alike.refl U.vm) q.2.2.2.2.2.2.1, fun r hr => va_Nw.same (u := U) (U := U.calling g mk a) rfl rfl (q.2.2.2.2.2.2.2 r hr)⟩
theorem y_pre_at {F0' : Nat → y_S} {U : State} (hK : va_K D vwCl (z_ty cy) s) (ht : y_tb s) (w : y_Wo D cy ad s F0' n H locs) (hU : U.heap = H) (hW : s.WarmedH U.vm) : y_Pre D cy ad F0' n U := ⟨by rw [hU]; exact w.1, va_K.moved hW.alike hK, by rw [hU]; exact w.2.1, w.2.2.2.1, w.2.2.2.2, y_tb_moved hW ht⟩
theorem yw_after {F1 : Nat → y_S} {n1 mc2 ms2 : Nat} {st0 : List Value} {a : Array Value} (w : y_Wo D cy ad s F n H locs) (hr : va_Run p l e R s m args below meth c H locs cells slots mc2 ms2 (F0 m pc ls st0) rest (y_Q D cy ad F1 n1 a) (y_A ad))
    (kk : ∀ (H1 : Heap) (locs1 : List Loc), y_Wo D cy ad s F1 n1 H1 locs1 → W p l e R s m args below meth c H1 locs1 (cells + mc2) (slots + ms2) Q (F0 m (pc + 3) ls rest)) : W p l e R s m args below meth c H locs cells slots Q (F0 m pc ls st0) := by
  intro T hT X
  obtain ⟨v, st₀, t, T', L, h0, X', hL, e1, e2, ⟨⟨hv, hPt⟩, hz, hk⟩, go⟩ := hr T hT X
  cases hv
  rw [h0] at hz hk
  have hS := w.2.2.1
  obtain ⟨t2, a1, b1⟩ := kk T'.heap (locs ++ L) ⟨by rw [e1]; exact hPt.1, by rw [e1]; exact hPt.2.2.1, ⟨Nat.le_trans hS.1 (by rw [e1]; exact hz), fun q h1 h2 => by rw [e1, hk q (Nat.lt_of_lt_of_le h1 hS.1) h2]; exact hS.2.1 q h1 h2, fun q hq => by
      rcases List.mem_append.mp hq with h9 | h9
      · exact hS.2.2 q h9
      · exact hL q h9⟩, hPt.2.2.2.1, hPt.2.2.2.2.1⟩ T' rfl X'
  exact ⟨t2, go t2 a1, b1⟩
end YW
