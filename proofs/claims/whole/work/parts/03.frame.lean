/-! ABSTRACT MEMORY: every object and array has a number (its place in z_shp); M.1 id k: the int in slot k of object id (or place k of array id); M.2 id k: the long in slot k. References are constant. -/
abbrev z_Mem : Type := (Nat → Nat → Int32) × (Nat → Nat → Int64)
/-- a shape: an int array (kind, length); an object (class, its slots: 0 int, 1 long, j + 2 a reference to j); an array of references -/
abbrev z_Sh : Type := (Nat × Nat) ⊕ ((Nat × List Nat) ⊕ List Nat)
def z_fv (ad : Nat → Nat) (M : z_Mem) (id k : Nat) : Nat → Value
  | 0 => .int (M.1 id k)
  | 1 => .long (M.2 id k)
  | j + 2 => .ref (ad j)
def z_fs (ad : Nat → Nat) (M : z_Mem) (id : Nat) : Nat → List Nat → List Value
  | _, [] => []
  | k, f :: fs => z_fv ad M id k f :: z_fs ad M id (k + 1) fs
def z_ent (cy : Nat → ClassId) (ad : Nat → Nat) (M : z_Mem) (id : Nat) : z_Sh → va_E
  | .inl q => .inl (cy q.1, q.2, .inl (M.1 id))
  | .inr (.inl q) => .inr (q.1, z_fs ad M id 0 q.2)
  | .inr (.inr l) => .inl (cy 2, l.length, .inr (.inr (.inr (.inr (fun k => (l[k]?).map ad)))))
def z_wdf (cy : Nat → ClassId) (ad : Nat → Nat) (M : z_Mem) : Nat → List z_Sh → va_W
  | _, [] => []
  | i, s :: l => (ad i, z_ent cy ad M i s) :: z_wdf cy ad M (i + 1) l

def z_shp : List z_Sh := [.inr (.inl (6, [3, 5, 14, 16, 18, 20, 50, 55, 56, 59, 60, 1])), .inr (.inl (3, [4, 0])), .inl (0, 60), .inr (.inl (4, [0, 6, 7, 8, 9, 0, 10, 11, 0, 12, 13])), .inl (0, 7), .inl (0, 7), .inl (0, 7), .inl (0, 7), .inl (0, 4), .inl (0, 4), .inl (0, 3), .inl (0, 3), .inr (.inl (1, [5, 15])), .inl (0, 6), .inr (.inl (2, [0, 17, 0])), .inl (0, 7), .inr (.inl (2, [0, 19, 0])), .inl (0, 7), .inr (.inl (0, [21, 0, 0])), .inr (.inr [20, 22, 24, 26, 28, 30, 32, 34, 36, 38, 40, 42, 44, 46]), .inr (.inl (2, [0, 23, 0])), .inl (0, 7), .inr (.inl (2, [0, 25, 0])), .inl (0, 7), .inr (.inl (2, [0, 27, 0])), .inl (0, 7), .inr (.inl (2, [0, 29, 0])), .inl (0, 7), .inr (.inl (2, [0, 31, 0])), .inl (0, 7), .inr (.inl (2, [0, 33, 0])), .inl (0, 7), .inr (.inl (2, [0, 35, 0])), .inl (0, 7), .inr (.inl (2, [0, 37, 0])), .inl (0, 7), .inr (.inl (2, [0, 39, 0])), .inl (0, 7), .inr (.inl (2, [0, 41, 0])), .inl (0, 7), .inr (.inl (2, [0, 43, 0])), .inl (0, 7), .inr (.inl (2, [0, 45, 0])), .inl (0, 7), .inr (.inl (2, [0, 47, 0])), .inl (0, 7), .inr (.inl (2, [0, 49, 0])), .inl (0, 7), .inr (.inr [49, 51]), .inr (.inl (2, [0, 52, 0])), .inl (0, 7), .inr (.inl (2, [0, 54, 0])), .inl (0, 7), .inl (1, 2), .inr (.inl (5, [57, 58, 0])), .inl (0, 6), .inl (1, 6), .inl (0, 9), .inl (0, 9), .inr (.inl (7, [0, 0, 0, 62, 63, 64, 65, 66, 67, 68, 69, 70, 71, 72, 73, 0, 0, 0, 74, 0, 0, 0, 75, 0, 0, 76, 0, 77, 78, 1, 79, 80])), .inl (0, 7), .inl (0, 7), .inl (0, 7), .inl (0, 7), .inl (0, 4), .inl (0, 4), .inl (0, 3), .inl (0, 3), .inl (0, 18), .inl (0, 28), .inl (0, 8), .inl (0, 6), .inl (0, 60), .inl (0, 6), .inl (0, 126), .inl (0, 6), .inl (0, 6), .inl (1, 2), .inl (0, 18)]
def z_wd (cy : Nat → ClassId) (ad : Nat → Nat) (M : z_Mem) : va_W := z_wdf cy ad M 0 z_shp
def z_ty (cy : Nat → ClassId) : List (ClassId × FieldType) := [(cy 0, .int), (cy 1, .boolean), (cy 2, .object "SafetyPins$Plight")]
def z_A (ad : Nat → Nat) : Nat → Prop := fun q => ∃ i, i < 79 ∧ q = ad i
def z_FA : List Int32 := [1, 1, 2, 6, 24, 120, 720, 5040]
def z_TH : List Int64 := [1, 1000, 1000000, 1000000000, 1000000000000]
/-- the class's two static arrays, as they stand ahead of the law -/
def z_st (ad : Nat → Nat) (U : State) (H : Heap) : Prop := va_Z "SafetyPins" "FACTORIALS" "[I" (.ref (ad 1000)) (z_A ad) U H ∧ va_Z "SafetyPins" "THOUSANDS" "[J" (.ref (ad 1001)) (z_A ad) U H ∧ va_T .int (ad 1000) 8 (fun k => .int (z_FA.getD k 0)) (z_A ad) U H ∧ va_T .long (ad 1001) 5 (fun k => .long (z_TH.getD k 0)) (z_A ad) U H
theorem z_st_moved {ad : Nat → Nat} {u U : State} {H : Heap} (hvm : u.vm.Alike U.vm) (h : z_st ad u H) : z_st ad U H := ⟨va_Z.moved hvm h.1, va_Z.moved hvm h.2.1, va_T.moved hvm h.2.2.1, va_T.moved hvm h.2.2.2⟩
theorem z_st_kept {ad : Nat → Nat} {U : State} {H H1 : Heap} (h : z_st ad U H) (hq : ∀ a : Nat, a < H.size → ¬ z_A ad a → H1[a]? = H[a]?) : z_st ad U H1 := ⟨h.1.kept hq, h.2.1.kept hq, h.2.2.1.kept hq, h.2.2.2.kept hq⟩
-- worlds
theorem z_fs_get {ad : Nat → Nat} {M : z_Mem} {id : Nat} : ∀ (l : List Nat) (j k f : Nat), l[k]? = some f → (z_fs ad M id j l)[k]? = some (z_fv ad M id (j + k) f)
  | [], j, k, f, h => by simp at h
  | g :: l, j, 0, f, h => by
    simp at h
    subst h
    simp [z_fs]
  | g :: l, j, k + 1, f, h => by
    have := z_fs_get (ad := ad) (M := M) (id := id) l (j + 1) k f (by simpa using h)
    rw [z_fs, List.getElem?_cons_succ, this, show j + 1 + k = j + (k + 1) by omega]
theorem z_fs_len {ad : Nat → Nat} {M : z_Mem} {id : Nat} : ∀ (l : List Nat) (j : Nat), (z_fs ad M id j l).length = l.length
  | [], _ => rfl
  | _ :: l, j => by rw [z_fs, List.length_cons, List.length_cons, z_fs_len l (j + 1)]
theorem z_fv_cong {ad : Nat → Nat} {M N : z_Mem} {id k : Nat} (h1 : N.1 id k = M.1 id k) (h2 : N.2 id k = M.2 id k) : ∀ f, z_fv ad N id k f = z_fv ad M id k f
  | 0 => by rw [z_fv, z_fv, h1]
  | 1 => by rw [z_fv, z_fv, h2]
  | _ + 2 => rfl
theorem z_fs_cong {ad : Nat → Nat} {M N : z_Mem} {id : Nat} : ∀ (l : List Nat) (j : Nat), (∀ b, j ≤ b → N.1 id b = M.1 id b) → (∀ b, j ≤ b → N.2 id b = M.2 id b) → z_fs ad N id j l = z_fs ad M id j l
  | [], _, _, _ => rfl
  | f :: l, j, h1, h2 => by rw [z_fs, z_fs, z_fs_cong l (j + 1) (fun b hb => h1 b (by omega)) (fun b hb => h2 b (by omega)), z_fv_cong (h1 j (Nat.le_refl j)) (h2 j (Nat.le_refl j))]
theorem z_fs_set {ad : Nat → Nat} {M N : z_Mem} {id : Nat} {v : Value} : ∀ (l : List Nat) (j k f : Nat), l[k]? = some f → z_fv ad N id (j + k) f = v → (∀ b, b ≠ j + k → N.1 id b = M.1 id b) → (∀ b, b ≠ j + k → N.2 id b = M.2 id b) → (z_fs ad M id j l).set k v = z_fs ad N id j l
  | [], j, k, f, h, _, _, _ => by simp at h
  | g :: l, j, 0, f, h, hv, h1, h2 => by
    simp at h
    subst h
    rw [z_fs, z_fs, List.set_cons_zero, z_fs_cong l (j + 1) (fun b hb => h1 b (by omega)) (fun b hb => h2 b (by omega)), ← hv, Nat.add_zero]
  | g :: l, j, k + 1, f, h, hv, h1, h2 => by
    have e : j + 1 + k = j + (k + 1) := by omega
    rw [z_fs, z_fs, List.set_cons_succ, z_fs_set l (j + 1) k f (by simpa using h) (by rw [e]; exact hv) (fun b hb => h1 b (by omega)) (fun b hb => h2 b (by omega)), z_fv_cong (h1 j (by omega)) (h2 j (by omega))]
theorem z_ent_cong {cy : Nat → ClassId} {ad : Nat → Nat} {M N : z_Mem} {id : Nat} (h1 : N.1 id = M.1 id) (h2 : N.2 id = M.2 id) : ∀ s : z_Sh, z_ent cy ad N id s = z_ent cy ad M id s
  | .inl q => by rw [z_ent, z_ent, h1]
  | .inr (.inl q) => by
    show Sum.inr (q.1, z_fs ad N id 0 q.2) = Sum.inr (q.1, z_fs ad M id 0 q.2)
    rw [z_fs_cong (M := M) (N := N) q.2 0 (fun b _ => by rw [h1]) (fun b _ => by rw [h2])]
  | .inr (.inr l) => rfl
theorem z_wdf_get {cy : Nat → ClassId} {ad : Nat → Nat} {M : z_Mem} : ∀ (l : List z_Sh) (i k : Nat) (s : z_Sh), l[k]? = some s → (z_wdf cy ad M i l)[k]? = some (ad (i + k), z_ent cy ad M (i + k) s)
  | [], i, k, s, h => by simp at h
  | t :: l, i, 0, s, h => by
    simp at h
    subst h
    simp [z_wdf]
  | t :: l, i, k + 1, s, h => by
    have := z_wdf_get (cy := cy) (ad := ad) (M := M) l (i + 1) k s (by simpa using h)
    rw [z_wdf, List.getElem?_cons_succ, this, show i + 1 + k = i + (k + 1) by omega]
theorem z_wdf_len {cy : Nat → ClassId} {ad : Nat → Nat} {M : z_Mem} : ∀ (l : List z_Sh) (i : Nat), (z_wdf cy ad M i l).length = l.length
  | [], _ => rfl
  | _ :: l, i => by rw [z_wdf, List.length_cons, List.length_cons, z_wdf_len l (i + 1)]
theorem z_wdf_cong {cy : Nat → ClassId} {ad : Nat → Nat} {M N : z_Mem} : ∀ (l : List z_Sh) (i : Nat), (∀ a, i ≤ a → N.1 a = M.1 a ∧ N.2 a = M.2 a) → z_wdf cy ad N i l = z_wdf cy ad M i l
  | [], _, _ => rfl
  | t :: l, i, h => by rw [z_wdf, z_wdf, z_wdf_cong l (i + 1) (fun a ha => h a (by omega)), z_ent_cong (h i (Nat.le_refl i)).1 (h i (Nat.le_refl i)).2]
theorem z_wdf_set {cy : Nat → ClassId} {ad : Nat → Nat} {M N : z_Mem} : ∀ (l : List z_Sh) (i k : Nat) (s : z_Sh), (∀ a, a ≠ i + k → N.1 a = M.1 a ∧ N.2 a = M.2 a) → l[k]? = some s → z_wdf cy ad N i l = (z_wdf cy ad M i l).set k (ad (i + k), z_ent cy ad N (i + k) s)
  | [], i, k, s, _, h => by simp at h
  | t :: l, i, 0, s, hq, h => by
    simp at h
    subst h
    rw [z_wdf, z_wdf, List.set_cons_zero, z_wdf_cong (M := M) (N := N) l (i + 1) (fun a ha => hq a (by omega))]
    simp
  | t :: l, i, k + 1, s, hq, h => by
    have e : i + 1 + k = i + (k + 1) := by omega
    rw [z_wdf, z_wdf, List.set_cons_succ, z_wdf_set (M := M) l (i + 1) k s (fun a ha => hq a (by omega)) (by simpa using h), z_ent_cong (hq i (by omega)).1 (hq i (by omega)).2, e]
theorem z_wd_get {cy : Nat → ClassId} {ad : Nat → Nat} {M : z_Mem} {k : Nat} {s : z_Sh} (h : z_shp[k]? = some s) : (z_wd cy ad M)[k]? = some (ad k, z_ent cy ad M k s) := by
  have := z_wdf_get (cy := cy) (ad := ad) (M := M) z_shp 0 k s h
  rwa [Nat.zero_add] at this
theorem z_wd_set {cy : Nat → ClassId} {ad : Nat → Nat} {M N : z_Mem} {k : Nat} {s : z_Sh} (hq : ∀ a, a ≠ k → N.1 a = M.1 a ∧ N.2 a = M.2 a) (h : z_shp[k]? = some s) : (z_wd cy ad M).set k (ad k, z_ent cy ad N k s) = z_wd cy ad N := by
  have := z_wdf_set (cy := cy) (ad := ad) (M := M) (N := N) z_shp 0 k s (by rw [Nat.zero_add]; exact hq) h
  rw [Nat.zero_add] at this
  exact this.symm
-- memory
def z_row (M : z_Mem) (id : Nat) (f : Nat → Int32) : z_Mem := (fun a => if a = id then f else M.1 a, M.2)
def z_set (M : z_Mem) (id k : Nat) (v : Int32) : z_Mem := z_row M id (upd (M.1 id) k v)
def z_setL (M : z_Mem) (id k : Nat) (v : Int64) : z_Mem := (M.1, fun a => if a = id then (fun b => if b = k then v else M.2 a b) else M.2 a)
theorem z_row_1 (M : z_Mem) (id : Nat) (f : Nat → Int32) : (z_row M id f).1 id = f := by simp [z_row]
theorem z_row_n (M : z_Mem) {id a : Nat} (f : Nat → Int32) (h : a ≠ id) : (z_row M id f).1 a = M.1 a := by simp [z_row, h]
theorem z_row_2 (M : z_Mem) (id : Nat) (f : Nat → Int32) : (z_row M id f).2 = M.2 := rfl
theorem z_row_same (M : z_Mem) (id : Nat) : z_row M id (M.1 id) = M := by
  refine Prod.ext (funext fun a => ?_) rfl
  show (if a = id then M.1 id else M.1 a) = M.1 a
  by_cases h : a = id
  · rw [if_pos h, h]
  · rw [if_neg h]
theorem z_row_row (M : z_Mem) (id : Nat) (f g : Nat → Int32) : z_row (z_row M id f) id g = z_row M id g := by
  refine Prod.ext (funext fun a => ?_) rfl
  show (if a = id then g else if a = id then f else M.1 a) = if a = id then g else M.1 a
  by_cases h : a = id <;> simp [h]
theorem z_row_comm (M : z_Mem) {i j : Nat} (f g : Nat → Int32) (h : i ≠ j) : z_row (z_row M i f) j g = z_row (z_row M j g) i f := by
  refine Prod.ext (funext fun a => ?_) rfl
  show (if a = j then g else if a = i then f else M.1 a) = if a = i then f else if a = j then g else M.1 a
  by_cases h1 : a = j
  · subst h1
    rw [if_pos rfl, if_neg (Ne.symm h), if_pos rfl]
  · rw [if_neg h1, if_neg h1]
-- values
def z_mv (ad : Nat → Nat) : Value → Value
  | .ref i => .ref (ad i)
  | v => v
theorem z_cat (ad : Nat → Nat) (v : Value) : (z_mv ad v).category = v.category := by cases v <;> rfl
theorem z_cats (ad : Nat → Nat) (st : List Value) : ((st.map (z_mv ad)).map fun v => v.category) = st.map fun v => v.category := by
  rw [List.map_map]
  exact List.map_congr_left (fun v _ => z_cat ad v)
def z_pv (M : z_Mem) (id k : Nat) : Nat → Value
  | 0 => .int (M.1 id k)
  | 1 => .long (M.2 id k)
  | j + 2 => .ref j
theorem z_pv_mv (ad : Nat → Nat) (M : z_Mem) (id k : Nat) : ∀ f, z_mv ad (z_pv M id k f) = z_fv ad M id k f
  | 0 => rfl
  | 1 => rfl
  | _ + 2 => rfl
-- locals
def z_Lo (ad : Nat → Nat) (nL : Nat) (ls : List (Option Value)) (ar : Array Slot) : Prop := ar.size = nL ∧ lv_wf ar ∧ ∀ (i : Nat) (v : Value), ls[i]? = some (some v) → ar[i]? = some (.val (z_mv ad v))
def z_okst (i : Nat) (ls : List (Option Value)) : Bool := match i with
  | 0 => true
  | j + 1 => match ls[j]? with
    | some (some v) => v.category != 2
    | _ => true
def z_lvl (ad : Nat → Nat) (ls : List (Option Value)) : List (Nat × Value) := (List.range ls.length).filterMap (fun i => match ls[i]? with
  | some (some v) => some (i, z_mv ad v)
  | _ => none)
theorem z_lvl_in {ad : Nat → Nat} {ls : List (Option Value)} {i : Nat} {v : Value} (h : ls[i]? = some (some v)) : (i, z_mv ad v) ∈ z_lvl ad ls := by
  refine List.mem_filterMap.mpr ⟨i, List.mem_range.mpr (List.getElem?_eq_some_iff.mp h).1, ?_⟩
  rw [h]
theorem z_lvl_of {ad : Nat → Nat} {ls : List (Option Value)} {q : Nat × Value} (h : q ∈ z_lvl ad ls) : ∃ v, ls[q.1]? = some (some v) ∧ q.2 = z_mv ad v := by
  obtain ⟨i, -, h2⟩ := List.mem_filterMap.mp h
  split at h2
  · next v hv =>
    cases h2
    exact ⟨v, hv, rfl⟩
  · cases h2
theorem z_lvh {ad : Nat → Nat} {nL : Nat} {ls : List (Option Value)} {ar : Array Slot} (h : z_Lo ad nL ls ar) : lv_has ar nL (z_lvl ad ls) := by
  refine ⟨h.1, h.2.1, fun q hq => ?_⟩
  obtain ⟨v, h1, h2⟩ := z_lvl_of hq
  rw [h2]
  exact h.2.2 _ _ h1
theorem z_lv1 {ad : Nat → Nat} {nL i : Nat} {ls : List (Option Value)} {ar : Array Slot} {v : Value} (hi : z_okst i ls = true) (h : lv_has ar nL ((i, z_mv ad v) :: (z_lvl ad ls).filter (fun q => !(q.1 == i) && !(q.1 + 1 == i && q.2.category == 2)))) : z_Lo ad nL (ls.set i (some v)) ar := by
  refine ⟨h.1, h.2.1, fun j w hj => ?_⟩
  by_cases e : i = j
  · subst e
    have hlt : i < ls.length := by
      have := (List.getElem?_eq_some_iff.mp hj).1
      rwa [List.length_set] at this
    rw [List.getElem?_set_self hlt] at hj
    cases hj
    exact h.2.2 _ List.mem_cons_self
  · rw [List.getElem?_set_ne e] at hj
    refine h.2.2 (j, z_mv ad w) (List.mem_cons_of_mem _ (List.mem_filter.mpr ⟨z_lvl_in hj, ?_⟩))
    have h1 : (j == i) = false := by simpa using (Ne.symm e)
    show (!(j == i) && !(j + 1 == i && (z_mv ad w).category == 2)) = true
    rw [h1, z_cat]
    by_cases h2 : j + 1 = i
    · subst h2
      simp only [z_okst, hj] at hi
      simpa using hi
    · have : (j + 1 == i) = false := by simpa using h2
      simp [this]
theorem z_lv2 {ad : Nat → Nat} {nL i : Nat} {ls : List (Option Value)} {ar : Array Slot} {v : Value} (hi : z_okst i ls = true) (h : lv_has ar nL ((i, z_mv ad v) :: (z_lvl ad ls).filter (fun q => !(q.1 == i) && (!(q.1 == i + 1) && !(q.1 + 1 == i && q.2.category == 2))))) : z_Lo ad nL ((ls.set i (some v)).set (i + 1) none) ar := by
  refine ⟨h.1, h.2.1, fun j w hj => ?_⟩
  have e2 : i + 1 ≠ j := by
    intro e
    subst e
    have hlt := (List.getElem?_eq_some_iff.mp hj).1
    rw [List.length_set] at hlt
    rw [List.getElem?_set_self hlt] at hj
    cases hj
  rw [List.getElem?_set_ne e2] at hj
  by_cases e : i = j
  · subst e
    have hlt : i < ls.length := by
      have := (List.getElem?_eq_some_iff.mp hj).1
      rwa [List.length_set] at this
    rw [List.getElem?_set_self hlt] at hj
    cases hj
    exact h.2.2 _ List.mem_cons_self
  · rw [List.getElem?_set_ne e] at hj
    refine h.2.2 (j, z_mv ad w) (List.mem_cons_of_mem _ (List.mem_filter.mpr ⟨z_lvl_in hj, ?_⟩))
    have h1 : (j == i) = false := by simpa using (Ne.symm e)
    have h3 : (j == i + 1) = false := by simpa using (Ne.symm e2)
    show (!(j == i) && (!(j == i + 1) && !(j + 1 == i && (z_mv ad w).category == 2))) = true
    rw [h1, h3, z_cat]
    by_cases h2 : j + 1 = i
    · subst h2
      simp only [z_okst, hj] at hi
      simpa using hi
    · have : (j + 1 == i) = false := by simpa using h2
      simp [this]
-- a method's constants: code, own class, number of locals, answer's type, its name, level (of calls below it)
abbrev z_MC : Type := ByteArray × String × Nat × Option FieldType × MethodName × Nat
def z_ws (cx : z_MC) : List Cond := Cond.code cx.2.2.2.2.1 cx.1 cx.2.2.1 cx.2.2.2.1 :: z_tb
def z_rm (lv : Nat) : Room := { frames := lv, cells := 0, slots := 0, locals := 36 * lv }
def z_Pre (D : va_G) (cy : Nat → ClassId) (ad : Nat → Nat) (M : z_Mem) (U : State) : Prop := va_P D vwCl (z_wd cy ad M) U.heap ∧ va_K D vwCl (z_ty cy) U ∧ va_D (z_A ad) (z_wd cy ad M) ∧ z_st ad U U.heap
def z_Q (D : va_G) (cy : Nat → ClassId) (ad : Nat → Nat) (r : Option Value) (M : z_Mem) : Array Value → State → Outcome → State → Prop := fun _ st oc t => (oc = .returned (r.map (z_mv ad)) ∧ z_Pre D cy ad M t) ∧ va_F (z_A ad) st t
def z_Fx (cx : z_MC) (D : va_G) (cy : Nat → ClassId) (ad : Nat → Nat) (p : Program) (s : State) (m : MethodId) (args : Array Value) (meth : Method) (c : Code) : Prop := p.tables.exec = Jvm.exec ∧ c.code = cx.1 ∧ c.maxLocals = cx.2.2.1 ∧ meth.sig.returnType = cx.2.2.2.1 ∧ s.vm.findClass cx.2.1 = some m.cls ∧ (∀ w ∈ z_ws cx, w.before args s = true) ∧ meth.locks = false ∧ va_K D vwCl (z_ty cy) s ∧ z_st ad s s.heap
def z_Wo (D : va_G) (cy : Nat → ClassId) (ad : Nat → Nat) (s : State) (M : z_Mem) (H : Heap) (locs : List Loc) : Prop := va_P D vwCl (z_wd cy ad M) H ∧ va_D (z_A ad) (z_wd cy ad M) ∧ va_S (z_A ad) s.heap H locs
/-- from this frame over this memory the method comes to its end, with the answer r over the memory M2 -/
def z_Sm (cx : z_MC) (r : Option Value) (M2 : z_Mem) (pc : Nat) (ls : List (Option Value)) (st : List Value) (M : z_Mem) : Prop :=
  ∀ (l : Launch) (D : va_G) (cy : Nat → ClassId) (ad : Nat → Nat) (p : Program) (e : Env) (s : State) (m : MethodId) (args : Array Value) (below : List Frame) (meth : Method) (c : Code) (H : Heap) (locs : List Loc) (ar : Array Slot),
    z_Fx cx D cy ad p s m args meth c → z_Wo D cy ad s M H locs → z_Lo ad cx.2.2.1 ls ar →
    W p l e (z_rm cx.2.2.2.2.2) s m args below meth c H locs 0 0 (MQ below (z_Q D cy ad r M2) args s 0 0 (z_A ad)) (F0 m pc ar (st.map (z_mv ad)))

theorem z_iconst {cx : z_MC} {r : Option Value} {M M2 : z_Mem} {pc : Nat} {ls : List (Option Value)} {st : List Value} {n : Int} {v : Int32} (d : decode cx.1 pc = .ok (.iconst n, 1)) (hv : Int32.ofInt n = v) (k : z_Sm cx r M2 (pc + 1) ls (.int v :: st) M) : z_Sm cx r M2 pc ls (st) M := by
  intro l D cy ad p e s m args below meth c H locs ar F w h
  exact lv_iconst F.1 F.2.1 d hv (k l D cy ad p e s m args below meth c H locs ar F w h)
theorem z_bipush {cx : z_MC} {r : Option Value} {M M2 : z_Mem} {pc : Nat} {ls : List (Option Value)} {st : List Value} {n : Int} {v : Int32} (d : decode cx.1 pc = .ok (.bipush n, 2)) (hv : (Int8.ofInt n).toInt32 = v) (k : z_Sm cx r M2 (pc + 2) ls (.int v :: st) M) : z_Sm cx r M2 pc ls (st) M := by
  intro l D cy ad p e s m args below meth c H locs ar F w h
  exact lv_bipush F.1 F.2.1 d hv (k l D cy ad p e s m args below meth c H locs ar F w h)
theorem z_sipush {cx : z_MC} {r : Option Value} {M M2 : z_Mem} {pc : Nat} {ls : List (Option Value)} {st : List Value} {n : Int} {v : Int32} (d : decode cx.1 pc = .ok (.sipush n, 3)) (hv : (Int16.ofInt n).toInt32 = v) (k : z_Sm cx r M2 (pc + 3) ls (.int v :: st) M) : z_Sm cx r M2 pc ls (st) M := by
  intro l D cy ad p e s m args below meth c H locs ar F w h
  exact lv_sipush F.1 F.2.1 d hv (k l D cy ad p e s m args below meth c H locs ar F w h)
theorem z_lconst {cx : z_MC} {r : Option Value} {M M2 : z_Mem} {pc : Nat} {ls : List (Option Value)} {st : List Value} {n : Fin 2} {v : Int64} (d : decode cx.1 pc = .ok (.lconst n, 1)) (hv : Int64.ofNat (n : Nat) = v) (k : z_Sm cx r M2 (pc + 1) ls (.long v :: st) M) : z_Sm cx r M2 pc ls (st) M := by
  intro l D cy ad p e s m args below meth c H locs ar F w h
  exact lv_lconst F.1 F.2.1 d hv (k l D cy ad p e s m args below meth c H locs ar F w h)
theorem z_iadd {cx : z_MC} {r : Option Value} {M M2 : z_Mem} {pc : Nat} {ls : List (Option Value)} {st : List Value} {x y : Int32} (d : decode cx.1 pc = .ok (.iadd, 1)) (k : z_Sm cx r M2 (pc + 1) ls (.int (x + y) :: st) M) : z_Sm cx r M2 pc ls (.int y :: .int x :: st) M := by
  intro l D cy ad p e s m args below meth c H locs ar F w h
  exact lv_iadd F.1 F.2.1 d (k l D cy ad p e s m args below meth c H locs ar F w h)
theorem z_isub {cx : z_MC} {r : Option Value} {M M2 : z_Mem} {pc : Nat} {ls : List (Option Value)} {st : List Value} {x y : Int32} (d : decode cx.1 pc = .ok (.isub, 1)) (k : z_Sm cx r M2 (pc + 1) ls (.int (x - y) :: st) M) : z_Sm cx r M2 pc ls (.int y :: .int x :: st) M := by
  intro l D cy ad p e s m args below meth c H locs ar F w h
  exact lv_isub F.1 F.2.1 d (k l D cy ad p e s m args below meth c H locs ar F w h)
theorem z_imul {cx : z_MC} {r : Option Value} {M M2 : z_Mem} {pc : Nat} {ls : List (Option Value)} {st : List Value} {x y : Int32} (d : decode cx.1 pc = .ok (.imul, 1)) (k : z_Sm cx r M2 (pc + 1) ls (.int (x * y) :: st) M) : z_Sm cx r M2 pc ls (.int y :: .int x :: st) M := by
  intro l D cy ad p e s m args below meth c H locs ar F w h
  exact lv_imul F.1 F.2.1 d (k l D cy ad p e s m args below meth c H locs ar F w h)
theorem z_iand {cx : z_MC} {r : Option Value} {M M2 : z_Mem} {pc : Nat} {ls : List (Option Value)} {st : List Value} {x y : Int32} (d : decode cx.1 pc = .ok (.iand, 1)) (k : z_Sm cx r M2 (pc + 1) ls (.int (x &&& y) :: st) M) : z_Sm cx r M2 pc ls (.int y :: .int x :: st) M := by
  intro l D cy ad p e s m args below meth c H locs ar F w h
  exact lv_iand F.1 F.2.1 d (k l D cy ad p e s m args below meth c H locs ar F w h)
theorem z_ior {cx : z_MC} {r : Option Value} {M M2 : z_Mem} {pc : Nat} {ls : List (Option Value)} {st : List Value} {x y : Int32} (d : decode cx.1 pc = .ok (.ior, 1)) (k : z_Sm cx r M2 (pc + 1) ls (.int (x ||| y) :: st) M) : z_Sm cx r M2 pc ls (.int y :: .int x :: st) M := by
  intro l D cy ad p e s m args below meth c H locs ar F w h
  exact lv_ior F.1 F.2.1 d (k l D cy ad p e s m args below meth c H locs ar F w h)
theorem z_ixor {cx : z_MC} {r : Option Value} {M M2 : z_Mem} {pc : Nat} {ls : List (Option Value)} {st : List Value} {x y : Int32} (d : decode cx.1 pc = .ok (.ixor, 1)) (k : z_Sm cx r M2 (pc + 1) ls (.int (x ^^^ y) :: st) M) : z_Sm cx r M2 pc ls (.int y :: .int x :: st) M := by
  intro l D cy ad p e s m args below meth c H locs ar F w h
  exact lv_ixor F.1 F.2.1 d (k l D cy ad p e s m args below meth c H locs ar F w h)
theorem z_ishl {cx : z_MC} {r : Option Value} {M M2 : z_Mem} {pc : Nat} {ls : List (Option Value)} {st : List Value} {x y : Int32} (d : decode cx.1 pc = .ok (.ishl, 1)) (k : z_Sm cx r M2 (pc + 1) ls (.int (x <<< (y &&& 31)) :: st) M) : z_Sm cx r M2 pc ls (.int y :: .int x :: st) M := by
  intro l D cy ad p e s m args below meth c H locs ar F w h
  exact lv_ishl F.1 F.2.1 d (k l D cy ad p e s m args below meth c H locs ar F w h)
theorem z_ishr {cx : z_MC} {r : Option Value} {M M2 : z_Mem} {pc : Nat} {ls : List (Option Value)} {st : List Value} {x y : Int32} (d : decode cx.1 pc = .ok (.ishr, 1)) (k : z_Sm cx r M2 (pc + 1) ls (.int (x >>> (y &&& 31)) :: st) M) : z_Sm cx r M2 pc ls (.int y :: .int x :: st) M := by
  intro l D cy ad p e s m args below meth c H locs ar F w h
  exact lv_ishr F.1 F.2.1 d (k l D cy ad p e s m args below meth c H locs ar F w h)
theorem z_idiv {cx : z_MC} {r : Option Value} {M M2 : z_Mem} {pc : Nat} {ls : List (Option Value)} {st : List Value} {x y : Int32} (d : decode cx.1 pc = .ok (.idiv, 1)) (hne : ¬ y = 0) (k : z_Sm cx r M2 (pc + 1) ls (.int (x / y) :: st) M) : z_Sm cx r M2 pc ls (.int y :: .int x :: st) M := by
  intro l D cy ad p e s m args below meth c H locs ar F w h
  exact lv_idiv F.1 F.2.1 d hne (k l D cy ad p e s m args below meth c H locs ar F w h)
theorem z_irem {cx : z_MC} {r : Option Value} {M M2 : z_Mem} {pc : Nat} {ls : List (Option Value)} {st : List Value} {x y : Int32} (d : decode cx.1 pc = .ok (.irem, 1)) (hne : ¬ y = 0) (k : z_Sm cx r M2 (pc + 1) ls (.int (x - x / y * y) :: st) M) : z_Sm cx r M2 pc ls (.int y :: .int x :: st) M := by
  intro l D cy ad p e s m args below meth c H locs ar F w h
  exact lv_irem F.1 F.2.1 d hne (k l D cy ad p e s m args below meth c H locs ar F w h)
theorem z_ladd {cx : z_MC} {r : Option Value} {M M2 : z_Mem} {pc : Nat} {ls : List (Option Value)} {st : List Value} {x y : Int64} (d : decode cx.1 pc = .ok (.ladd, 1)) (k : z_Sm cx r M2 (pc + 1) ls (.long (x + y) :: st) M) : z_Sm cx r M2 pc ls (.long y :: .long x :: st) M := by
  intro l D cy ad p e s m args below meth c H locs ar F w h
  exact lv_ladd F.1 F.2.1 d (k l D cy ad p e s m args below meth c H locs ar F w h)
theorem z_lsub {cx : z_MC} {r : Option Value} {M M2 : z_Mem} {pc : Nat} {ls : List (Option Value)} {st : List Value} {x y : Int64} (d : decode cx.1 pc = .ok (.lsub, 1)) (k : z_Sm cx r M2 (pc + 1) ls (.long (x - y) :: st) M) : z_Sm cx r M2 pc ls (.long y :: .long x :: st) M := by
  intro l D cy ad p e s m args below meth c H locs ar F w h
  exact lv_lsub F.1 F.2.1 d (k l D cy ad p e s m args below meth c H locs ar F w h)
theorem z_lmul {cx : z_MC} {r : Option Value} {M M2 : z_Mem} {pc : Nat} {ls : List (Option Value)} {st : List Value} {x y : Int64} (d : decode cx.1 pc = .ok (.lmul, 1)) (k : z_Sm cx r M2 (pc + 1) ls (.long (x * y) :: st) M) : z_Sm cx r M2 pc ls (.long y :: .long x :: st) M := by
  intro l D cy ad p e s m args below meth c H locs ar F w h
  exact lv_lmul F.1 F.2.1 d (k l D cy ad p e s m args below meth c H locs ar F w h)
theorem z_land {cx : z_MC} {r : Option Value} {M M2 : z_Mem} {pc : Nat} {ls : List (Option Value)} {st : List Value} {x y : Int64} (d : decode cx.1 pc = .ok (.land, 1)) (k : z_Sm cx r M2 (pc + 1) ls (.long (x &&& y) :: st) M) : z_Sm cx r M2 pc ls (.long y :: .long x :: st) M := by
  intro l D cy ad p e s m args below meth c H locs ar F w h
  exact lv_land F.1 F.2.1 d (k l D cy ad p e s m args below meth c H locs ar F w h)
theorem z_lor {cx : z_MC} {r : Option Value} {M M2 : z_Mem} {pc : Nat} {ls : List (Option Value)} {st : List Value} {x y : Int64} (d : decode cx.1 pc = .ok (.lor, 1)) (k : z_Sm cx r M2 (pc + 1) ls (.long (x ||| y) :: st) M) : z_Sm cx r M2 pc ls (.long y :: .long x :: st) M := by
  intro l D cy ad p e s m args below meth c H locs ar F w h
  exact lv_lor F.1 F.2.1 d (k l D cy ad p e s m args below meth c H locs ar F w h)
theorem z_ldiv {cx : z_MC} {r : Option Value} {M M2 : z_Mem} {pc : Nat} {ls : List (Option Value)} {st : List Value} {x y : Int64} (d : decode cx.1 pc = .ok (.ldiv, 1)) (hne : ¬ y = 0) (k : z_Sm cx r M2 (pc + 1) ls (.long (x / y) :: st) M) : z_Sm cx r M2 pc ls (.long y :: .long x :: st) M := by
  intro l D cy ad p e s m args below meth c H locs ar F w h
  exact lv_ldiv F.1 F.2.1 d hne (k l D cy ad p e s m args below meth c H locs ar F w h)
theorem z_lrem {cx : z_MC} {r : Option Value} {M M2 : z_Mem} {pc : Nat} {ls : List (Option Value)} {st : List Value} {x y : Int64} (d : decode cx.1 pc = .ok (.lrem, 1)) (hne : ¬ y = 0) (k : z_Sm cx r M2 (pc + 1) ls (.long (x - x / y * y) :: st) M) : z_Sm cx r M2 pc ls (.long y :: .long x :: st) M := by
  intro l D cy ad p e s m args below meth c H locs ar F w h
  exact lv_lrem F.1 F.2.1 d hne (k l D cy ad p e s m args below meth c H locs ar F w h)
theorem z_ineg {cx : z_MC} {r : Option Value} {M M2 : z_Mem} {pc : Nat} {ls : List (Option Value)} {st : List Value} {x : Int32} (d : decode cx.1 pc = .ok (.ineg, 1)) (k : z_Sm cx r M2 (pc + 1) ls (.int (-x) :: st) M) : z_Sm cx r M2 pc ls (.int x :: st) M := by
  intro l D cy ad p e s m args below meth c H locs ar F w h
  exact lv_ineg F.1 F.2.1 d (k l D cy ad p e s m args below meth c H locs ar F w h)
theorem z_iushr {cx : z_MC} {r : Option Value} {M M2 : z_Mem} {pc : Nat} {ls : List (Option Value)} {st : List Value} {x y v : Int32} (d : decode cx.1 pc = .ok (.iushr, 1)) (hv : (x.toUInt32 >>> (y.toUInt32 &&& Int32.toUInt32 31)).toInt32 = v) (k : z_Sm cx r M2 (pc + 1) ls (.int v :: st) M) : z_Sm cx r M2 pc ls (.int y :: .int x :: st) M := by
  intro l D cy ad p e s m args below meth c H locs ar F w h
  exact lv_iushr F.1 F.2.1 d hv (k l D cy ad p e s m args below meth c H locs ar F w h)
theorem z_lushr {cx : z_MC} {r : Option Value} {M M2 : z_Mem} {pc : Nat} {ls : List (Option Value)} {st : List Value} {x v : Int64} {y : Int32} (d : decode cx.1 pc = .ok (.lushr, 1)) (hv : (x.toUInt64 >>> (y.toInt64.toUInt64 &&& Int64.toUInt64 63)).toInt64 = v) (k : z_Sm cx r M2 (pc + 1) ls (.long v :: st) M) : z_Sm cx r M2 pc ls (.int y :: .long x :: st) M := by
  intro l D cy ad p e s m args below meth c H locs ar F w h
  exact lv_lushr F.1 F.2.1 d hv (k l D cy ad p e s m args below meth c H locs ar F w h)
theorem z_lshl {cx : z_MC} {r : Option Value} {M M2 : z_Mem} {pc : Nat} {ls : List (Option Value)} {st : List Value} {x v : Int64} {y : Int32} (d : decode cx.1 pc = .ok (.lshl, 1)) (hv : x <<< (y.toInt64 &&& 63) = v) (k : z_Sm cx r M2 (pc + 1) ls (.long v :: st) M) : z_Sm cx r M2 pc ls (.int y :: .long x :: st) M := by
  intro l D cy ad p e s m args below meth c H locs ar F w h
  exact lv_lshl F.1 F.2.1 d hv (k l D cy ad p e s m args below meth c H locs ar F w h)
theorem z_i2l {cx : z_MC} {r : Option Value} {M M2 : z_Mem} {pc : Nat} {ls : List (Option Value)} {st : List Value} {x : Int32} {v : Int64} (d : decode cx.1 pc = .ok (.i2l, 1)) (hv : x.toInt64 = v) (k : z_Sm cx r M2 (pc + 1) ls (.long v :: st) M) : z_Sm cx r M2 pc ls (.int x :: st) M := by
  intro l D cy ad p e s m args below meth c H locs ar F w h
  exact lv_i2l F.1 F.2.1 d hv (k l D cy ad p e s m args below meth c H locs ar F w h)
theorem z_l2i {cx : z_MC} {r : Option Value} {M M2 : z_Mem} {pc : Nat} {ls : List (Option Value)} {st : List Value} {x : Int64} {v : Int32} (d : decode cx.1 pc = .ok (.l2i, 1)) (hv : x.toInt32 = v) (k : z_Sm cx r M2 (pc + 1) ls (.int v :: st) M) : z_Sm cx r M2 pc ls (.long x :: st) M := by
  intro l D cy ad p e s m args below meth c H locs ar F w h
  exact lv_l2i F.1 F.2.1 d hv (k l D cy ad p e s m args below meth c H locs ar F w h)
theorem z_lcmp {cx : z_MC} {r : Option Value} {M M2 : z_Mem} {pc : Nat} {ls : List (Option Value)} {st : List Value} {x y : Int64} (d : decode cx.1 pc = .ok (.lcmp, 1)) (k : z_Sm cx r M2 (pc + 1) ls (.int (lg_cmp x y) :: st) M) : z_Sm cx r M2 pc ls (.long y :: .long x :: st) M := by
  intro l D cy ad p e s m args below meth c H locs ar F w h
  exact W.lcmp F.1 F.2.1 d (k l D cy ad p e s m args below meth c H locs ar F w h)
theorem z_dup {cx : z_MC} {r : Option Value} {M M2 : z_Mem} {pc : Nat} {ls : List (Option Value)} {st : List Value} {va : Value} (d : decode cx.1 pc = .ok (.dup, 1)) (hva : va.category = 1) (k : z_Sm cx r M2 (pc + 1) ls (va :: va :: st) M) : z_Sm cx r M2 pc ls (va :: st) M := by
  intro l D cy ad p e s m args below meth c H locs ar F w h
  exact lv_dup F.1 F.2.1 d ((z_cat ad va).trans hva) (k l D cy ad p e s m args below meth c H locs ar F w h)
theorem z_pop {cx : z_MC} {r : Option Value} {M M2 : z_Mem} {pc : Nat} {ls : List (Option Value)} {st : List Value} {va : Value} (d : decode cx.1 pc = .ok (.pop, 1)) (hva : va.category = 1) (k : z_Sm cx r M2 (pc + 1) ls (st) M) : z_Sm cx r M2 pc ls (va :: st) M := by
  intro l D cy ad p e s m args below meth c H locs ar F w h
  exact lv_pop F.1 F.2.1 d ((z_cat ad va).trans hva) (k l D cy ad p e s m args below meth c H locs ar F w h)
theorem z_dup_x1 {cx : z_MC} {r : Option Value} {M M2 : z_Mem} {pc : Nat} {ls : List (Option Value)} {st : List Value} {va : Value} {vb : Value} (d : decode cx.1 pc = .ok (.dup_x1, 1)) (hva : va.category = 1) (hvb : vb.category = 1) (k : z_Sm cx r M2 (pc + 1) ls (va :: vb :: va :: st) M) : z_Sm cx r M2 pc ls (va :: vb :: st) M := by
  intro l D cy ad p e s m args below meth c H locs ar F w h
  exact lv_dup_x1 F.1 F.2.1 d ((z_cat ad va).trans hva) ((z_cat ad vb).trans hvb) (k l D cy ad p e s m args below meth c H locs ar F w h)
theorem z_dup2 {cx : z_MC} {r : Option Value} {M M2 : z_Mem} {pc : Nat} {ls : List (Option Value)} {st : List Value} {va : Value} {vb : Value} (d : decode cx.1 pc = .ok (.dup2, 1)) (hva : va.category = 1) (hvb : vb.category = 1) (k : z_Sm cx r M2 (pc + 1) ls (va :: vb :: va :: vb :: st) M) : z_Sm cx r M2 pc ls (va :: vb :: st) M := by
  intro l D cy ad p e s m args below meth c H locs ar F w h
  exact lv_dup2_11 F.1 F.2.1 d ((z_cat ad va).trans hva) ((z_cat ad vb).trans hvb) (k l D cy ad p e s m args below meth c H locs ar F w h)
theorem z_dup2L {cx : z_MC} {r : Option Value} {M M2 : z_Mem} {pc : Nat} {ls : List (Option Value)} {st : List Value} {va : Value} (d : decode cx.1 pc = .ok (.dup2, 1)) (hva : va.category = 2) (k : z_Sm cx r M2 (pc + 1) ls (va :: va :: st) M) : z_Sm cx r M2 pc ls (va :: st) M := by
  intro l D cy ad p e s m args below meth c H locs ar F w h
  exact lv_dup2_2 F.1 F.2.1 d ((z_cat ad va).trans hva) (k l D cy ad p e s m args below meth c H locs ar F w h)
theorem z_iload {cx : z_MC} {r : Option Value} {M M2 : z_Mem} {pc : Nat} {ls : List (Option Value)} {st : List Value} {i : Nat} {x : Int32} (d : decode cx.1 pc = .ok (.iload i, 2)) (hl : ls[i]? = some (some (.int x))) (k : z_Sm cx r M2 (pc + 2) ls (.int x :: st) M) : z_Sm cx r M2 pc ls st M := by
  intro l D cy ad p e s m args below meth c H locs ar F w h
  exact lv_iload F.1 F.2.1 d (h.2.2 _ _ hl) (k l D cy ad p e s m args below meth c H locs ar F w h)
theorem z_iload_n {cx : z_MC} {r : Option Value} {M M2 : z_Mem} {pc : Nat} {ls : List (Option Value)} {st : List Value} {i : Fin 4} {x : Int32} (d : decode cx.1 pc = .ok (.iload_n i, 1)) (hl : ls[(i : Nat)]? = some (some (.int x))) (k : z_Sm cx r M2 (pc + 1) ls (.int x :: st) M) : z_Sm cx r M2 pc ls st M := by
  intro l D cy ad p e s m args below meth c H locs ar F w h
  exact lv_iload_n F.1 F.2.1 d rfl (h.2.2 _ _ hl) (k l D cy ad p e s m args below meth c H locs ar F w h)
theorem z_lload {cx : z_MC} {r : Option Value} {M M2 : z_Mem} {pc : Nat} {ls : List (Option Value)} {st : List Value} {i : Nat} {x : Int64} (d : decode cx.1 pc = .ok (.lload i, 2)) (hl : ls[i]? = some (some (.long x))) (k : z_Sm cx r M2 (pc + 2) ls (.long x :: st) M) : z_Sm cx r M2 pc ls st M := by
  intro l D cy ad p e s m args below meth c H locs ar F w h
  exact lv_lload F.1 F.2.1 d (h.2.2 _ _ hl) (k l D cy ad p e s m args below meth c H locs ar F w h)
theorem z_lload_n {cx : z_MC} {r : Option Value} {M M2 : z_Mem} {pc : Nat} {ls : List (Option Value)} {st : List Value} {i : Fin 4} {x : Int64} (d : decode cx.1 pc = .ok (.lload_n i, 1)) (hl : ls[(i : Nat)]? = some (some (.long x))) (k : z_Sm cx r M2 (pc + 1) ls (.long x :: st) M) : z_Sm cx r M2 pc ls st M := by
  intro l D cy ad p e s m args below meth c H locs ar F w h
  exact lv_lload_n F.1 F.2.1 d rfl (h.2.2 _ _ hl) (k l D cy ad p e s m args below meth c H locs ar F w h)
theorem z_aload {cx : z_MC} {r : Option Value} {M M2 : z_Mem} {pc : Nat} {ls : List (Option Value)} {st : List Value} {i : Nat} {x : Nat} (d : decode cx.1 pc = .ok (.aload i, 2)) (hl : ls[i]? = some (some (.ref x))) (k : z_Sm cx r M2 (pc + 2) ls (.ref x :: st) M) : z_Sm cx r M2 pc ls st M := by
  intro l D cy ad p e s m args below meth c H locs ar F w h
  exact lv_aload F.1 F.2.1 d (h.2.2 _ _ hl) (k l D cy ad p e s m args below meth c H locs ar F w h)
theorem z_aload_n {cx : z_MC} {r : Option Value} {M M2 : z_Mem} {pc : Nat} {ls : List (Option Value)} {st : List Value} {i : Fin 4} {x : Nat} (d : decode cx.1 pc = .ok (.aload_n i, 1)) (hl : ls[(i : Nat)]? = some (some (.ref x))) (k : z_Sm cx r M2 (pc + 1) ls (.ref x :: st) M) : z_Sm cx r M2 pc ls st M := by
  intro l D cy ad p e s m args below meth c H locs ar F w h
  exact lv_aload_n F.1 F.2.1 d rfl (h.2.2 _ _ hl) (k l D cy ad p e s m args below meth c H locs ar F w h)
theorem z_istore {cx : z_MC} {r : Option Value} {M M2 : z_Mem} {pc : Nat} {ls : List (Option Value)} {st : List Value} {i : Nat} {x : Int32} (d : decode cx.1 pc = .ok (.istore i, 2)) (hi : z_okst i ls = true) (hn : i < cx.2.2.1) (k : z_Sm cx r M2 (pc + 2) (ls.set i (some (.int x))) st M) : z_Sm cx r M2 pc ls (.int x :: st) M := by
  intro l D cy ad p e s m args below meth c H locs ar F w h
  exact lv_istore F.1 F.2.1 d (z_lvh h) hn rfl (fun ar2 h2 => k l D cy ad p e s m args below meth c H locs ar2 F w (z_lv1 (v := .int x) hi h2))
theorem z_istore_n {cx : z_MC} {r : Option Value} {M M2 : z_Mem} {pc : Nat} {ls : List (Option Value)} {st : List Value} {i : Fin 4} {x : Int32} (d : decode cx.1 pc = .ok (.istore_n i, 1)) (hi : z_okst (i : Nat) ls = true) (hn : (i : Nat) < cx.2.2.1) (k : z_Sm cx r M2 (pc + 1) (ls.set (i : Nat) (some (.int x))) st M) : z_Sm cx r M2 pc ls (.int x :: st) M := by
  intro l D cy ad p e s m args below meth c H locs ar F w h
  exact lv_istore_n F.1 F.2.1 d rfl (z_lvh h) hn rfl (fun ar2 h2 => k l D cy ad p e s m args below meth c H locs ar2 F w (z_lv1 (v := .int x) hi h2))
theorem z_astore {cx : z_MC} {r : Option Value} {M M2 : z_Mem} {pc : Nat} {ls : List (Option Value)} {st : List Value} {i : Nat} {x : Nat} (d : decode cx.1 pc = .ok (.astore i, 2)) (hi : z_okst i ls = true) (hn : i < cx.2.2.1) (k : z_Sm cx r M2 (pc + 2) (ls.set i (some (.ref x))) st M) : z_Sm cx r M2 pc ls (.ref x :: st) M := by
  intro l D cy ad p e s m args below meth c H locs ar F w h
  exact lv_astore F.1 F.2.1 d (z_lvh h) hn rfl (fun ar2 h2 => k l D cy ad p e s m args below meth c H locs ar2 F w (z_lv1 (v := .ref x) hi h2))
theorem z_astore_n {cx : z_MC} {r : Option Value} {M M2 : z_Mem} {pc : Nat} {ls : List (Option Value)} {st : List Value} {i : Fin 4} {x : Nat} (d : decode cx.1 pc = .ok (.astore_n i, 1)) (hi : z_okst (i : Nat) ls = true) (hn : (i : Nat) < cx.2.2.1) (k : z_Sm cx r M2 (pc + 1) (ls.set (i : Nat) (some (.ref x))) st M) : z_Sm cx r M2 pc ls (.ref x :: st) M := by
  intro l D cy ad p e s m args below meth c H locs ar F w h
  exact lv_astore_n F.1 F.2.1 d rfl (z_lvh h) hn rfl (fun ar2 h2 => k l D cy ad p e s m args below meth c H locs ar2 F w (z_lv1 (v := .ref x) hi h2))
theorem z_lstore {cx : z_MC} {r : Option Value} {M M2 : z_Mem} {pc : Nat} {ls : List (Option Value)} {st : List Value} {i : Nat} {x : Int64} (d : decode cx.1 pc = .ok (.lstore i, 2)) (hi : z_okst i ls = true) (hn : i + 1 < cx.2.2.1) (k : z_Sm cx r M2 (pc + 2) ((ls.set i (some (.long x))).set (i + 1) none) st M) : z_Sm cx r M2 pc ls (.long x :: st) M := by
  intro l D cy ad p e s m args below meth c H locs ar F w h
  exact lv_lstore F.1 F.2.1 d (z_lvh h) hn rfl (fun ar2 h2 => k l D cy ad p e s m args below meth c H locs ar2 F w (z_lv2 (v := .long x) hi h2))
theorem z_lstore_n {cx : z_MC} {r : Option Value} {M M2 : z_Mem} {pc : Nat} {ls : List (Option Value)} {st : List Value} {i : Fin 4} {x : Int64} (d : decode cx.1 pc = .ok (.lstore_n i, 1)) (hi : z_okst (i : Nat) ls = true) (hn : (i : Nat) + 1 < cx.2.2.1) (k : z_Sm cx r M2 (pc + 1) ((ls.set (i : Nat) (some (.long x))).set ((i : Nat) + 1) none) st M) : z_Sm cx r M2 pc ls (.long x :: st) M := by
  intro l D cy ad p e s m args below meth c H locs ar F w h
  exact lv_lstore_n F.1 F.2.1 d rfl (z_lvh h) hn rfl (fun ar2 h2 => k l D cy ad p e s m args below meth c H locs ar2 F w (z_lv2 (v := .long x) hi h2))
theorem z_icmp_eq {cx : z_MC} {r : Option Value} {M M2 : z_Mem} {pc : Nat} {ls : List (Option Value)} {st : List Value} {x y : Int32} {off : Int} {tgt : Nat} (d : decode cx.1 pc = .ok (.if_icmp .eq off, 3)) (ht : (pc : Int) + off = (tgt : Int)) (kt : x = y → z_Sm cx r M2 tgt ls st M) (kf : ¬ x = y → z_Sm cx r M2 (pc + 3) ls st M) : z_Sm cx r M2 pc ls (.int y :: .int x :: st) M := by
  intro l D cy ad p e s m args below meth c H locs ar F w h
  exact lv_icmp_eq F.1 F.2.1 d ht (fun q => kt q l D cy ad p e s m args below meth c H locs ar F w h) (fun q => kf q l D cy ad p e s m args below meth c H locs ar F w h)
theorem z_if_eq {cx : z_MC} {r : Option Value} {M M2 : z_Mem} {pc : Nat} {ls : List (Option Value)} {st : List Value} {x : Int32} {off : Int} {tgt : Nat} (d : decode cx.1 pc = .ok (.ifCond .eq off, 3)) (ht : (pc : Int) + off = (tgt : Int)) (kt : x = 0 → z_Sm cx r M2 tgt ls st M) (kf : ¬ x = 0 → z_Sm cx r M2 (pc + 3) ls st M) : z_Sm cx r M2 pc ls (.int x :: st) M := by
  intro l D cy ad p e s m args below meth c H locs ar F w h
  exact lv_if_eq F.1 F.2.1 d ht (fun q => kt q l D cy ad p e s m args below meth c H locs ar F w h) (fun q => kf q l D cy ad p e s m args below meth c H locs ar F w h)
theorem z_icmp_ne {cx : z_MC} {r : Option Value} {M M2 : z_Mem} {pc : Nat} {ls : List (Option Value)} {st : List Value} {x y : Int32} {off : Int} {tgt : Nat} (d : decode cx.1 pc = .ok (.if_icmp .ne off, 3)) (ht : (pc : Int) + off = (tgt : Int)) (kt : ¬ x = y → z_Sm cx r M2 tgt ls st M) (kf : x = y → z_Sm cx r M2 (pc + 3) ls st M) : z_Sm cx r M2 pc ls (.int y :: .int x :: st) M := by
  intro l D cy ad p e s m args below meth c H locs ar F w h
  exact lv_icmp_ne F.1 F.2.1 d ht (fun q => kt q l D cy ad p e s m args below meth c H locs ar F w h) (fun q => kf q l D cy ad p e s m args below meth c H locs ar F w h)
theorem z_if_ne {cx : z_MC} {r : Option Value} {M M2 : z_Mem} {pc : Nat} {ls : List (Option Value)} {st : List Value} {x : Int32} {off : Int} {tgt : Nat} (d : decode cx.1 pc = .ok (.ifCond .ne off, 3)) (ht : (pc : Int) + off = (tgt : Int)) (kt : ¬ x = 0 → z_Sm cx r M2 tgt ls st M) (kf : x = 0 → z_Sm cx r M2 (pc + 3) ls st M) : z_Sm cx r M2 pc ls (.int x :: st) M := by
  intro l D cy ad p e s m args below meth c H locs ar F w h
  exact lv_if_ne F.1 F.2.1 d ht (fun q => kt q l D cy ad p e s m args below meth c H locs ar F w h) (fun q => kf q l D cy ad p e s m args below meth c H locs ar F w h)
theorem z_icmp_lt {cx : z_MC} {r : Option Value} {M M2 : z_Mem} {pc : Nat} {ls : List (Option Value)} {st : List Value} {x y : Int32} {off : Int} {tgt : Nat} (d : decode cx.1 pc = .ok (.if_icmp .lt off, 3)) (ht : (pc : Int) + off = (tgt : Int)) (kt : x < y → z_Sm cx r M2 tgt ls st M) (kf : ¬ x < y → z_Sm cx r M2 (pc + 3) ls st M) : z_Sm cx r M2 pc ls (.int y :: .int x :: st) M := by
  intro l D cy ad p e s m args below meth c H locs ar F w h
  exact lv_icmp_lt F.1 F.2.1 d ht (fun q => kt q l D cy ad p e s m args below meth c H locs ar F w h) (fun q => kf q l D cy ad p e s m args below meth c H locs ar F w h)
theorem z_if_lt {cx : z_MC} {r : Option Value} {M M2 : z_Mem} {pc : Nat} {ls : List (Option Value)} {st : List Value} {x : Int32} {off : Int} {tgt : Nat} (d : decode cx.1 pc = .ok (.ifCond .lt off, 3)) (ht : (pc : Int) + off = (tgt : Int)) (kt : x < 0 → z_Sm cx r M2 tgt ls st M) (kf : ¬ x < 0 → z_Sm cx r M2 (pc + 3) ls st M) : z_Sm cx r M2 pc ls (.int x :: st) M := by
  intro l D cy ad p e s m args below meth c H locs ar F w h
  exact lv_if_lt F.1 F.2.1 d ht (fun q => kt q l D cy ad p e s m args below meth c H locs ar F w h) (fun q => kf q l D cy ad p e s m args below meth c H locs ar F w h)
theorem z_icmp_ge {cx : z_MC} {r : Option Value} {M M2 : z_Mem} {pc : Nat} {ls : List (Option Value)} {st : List Value} {x y : Int32} {off : Int} {tgt : Nat} (d : decode cx.1 pc = .ok (.if_icmp .ge off, 3)) (ht : (pc : Int) + off = (tgt : Int)) (kt : y ≤ x → z_Sm cx r M2 tgt ls st M) (kf : ¬ y ≤ x → z_Sm cx r M2 (pc + 3) ls st M) : z_Sm cx r M2 pc ls (.int y :: .int x :: st) M := by
  intro l D cy ad p e s m args below meth c H locs ar F w h
  exact lv_icmp_ge F.1 F.2.1 d ht (fun q => kt q l D cy ad p e s m args below meth c H locs ar F w h) (fun q => kf q l D cy ad p e s m args below meth c H locs ar F w h)
theorem z_if_ge {cx : z_MC} {r : Option Value} {M M2 : z_Mem} {pc : Nat} {ls : List (Option Value)} {st : List Value} {x : Int32} {off : Int} {tgt : Nat} (d : decode cx.1 pc = .ok (.ifCond .ge off, 3)) (ht : (pc : Int) + off = (tgt : Int)) (kt : 0 ≤ x → z_Sm cx r M2 tgt ls st M) (kf : ¬ 0 ≤ x → z_Sm cx r M2 (pc + 3) ls st M) : z_Sm cx r M2 pc ls (.int x :: st) M := by
  intro l D cy ad p e s m args below meth c H locs ar F w h
  exact lv_if_ge F.1 F.2.1 d ht (fun q => kt q l D cy ad p e s m args below meth c H locs ar F w h) (fun q => kf q l D cy ad p e s m args below meth c H locs ar F w h)
theorem z_icmp_gt {cx : z_MC} {r : Option Value} {M M2 : z_Mem} {pc : Nat} {ls : List (Option Value)} {st : List Value} {x y : Int32} {off : Int} {tgt : Nat} (d : decode cx.1 pc = .ok (.if_icmp .gt off, 3)) (ht : (pc : Int) + off = (tgt : Int)) (kt : y < x → z_Sm cx r M2 tgt ls st M) (kf : ¬ y < x → z_Sm cx r M2 (pc + 3) ls st M) : z_Sm cx r M2 pc ls (.int y :: .int x :: st) M := by
  intro l D cy ad p e s m args below meth c H locs ar F w h
  exact lv_icmp_gt F.1 F.2.1 d ht (fun q => kt q l D cy ad p e s m args below meth c H locs ar F w h) (fun q => kf q l D cy ad p e s m args below meth c H locs ar F w h)
theorem z_if_gt {cx : z_MC} {r : Option Value} {M M2 : z_Mem} {pc : Nat} {ls : List (Option Value)} {st : List Value} {x : Int32} {off : Int} {tgt : Nat} (d : decode cx.1 pc = .ok (.ifCond .gt off, 3)) (ht : (pc : Int) + off = (tgt : Int)) (kt : 0 < x → z_Sm cx r M2 tgt ls st M) (kf : ¬ 0 < x → z_Sm cx r M2 (pc + 3) ls st M) : z_Sm cx r M2 pc ls (.int x :: st) M := by
  intro l D cy ad p e s m args below meth c H locs ar F w h
  exact lv_if_gt F.1 F.2.1 d ht (fun q => kt q l D cy ad p e s m args below meth c H locs ar F w h) (fun q => kf q l D cy ad p e s m args below meth c H locs ar F w h)
theorem z_icmp_le {cx : z_MC} {r : Option Value} {M M2 : z_Mem} {pc : Nat} {ls : List (Option Value)} {st : List Value} {x y : Int32} {off : Int} {tgt : Nat} (d : decode cx.1 pc = .ok (.if_icmp .le off, 3)) (ht : (pc : Int) + off = (tgt : Int)) (kt : x ≤ y → z_Sm cx r M2 tgt ls st M) (kf : ¬ x ≤ y → z_Sm cx r M2 (pc + 3) ls st M) : z_Sm cx r M2 pc ls (.int y :: .int x :: st) M := by
  intro l D cy ad p e s m args below meth c H locs ar F w h
  exact lv_icmp_le F.1 F.2.1 d ht (fun q => kt q l D cy ad p e s m args below meth c H locs ar F w h) (fun q => kf q l D cy ad p e s m args below meth c H locs ar F w h)
theorem z_if_le {cx : z_MC} {r : Option Value} {M M2 : z_Mem} {pc : Nat} {ls : List (Option Value)} {st : List Value} {x : Int32} {off : Int} {tgt : Nat} (d : decode cx.1 pc = .ok (.ifCond .le off, 3)) (ht : (pc : Int) + off = (tgt : Int)) (kt : x ≤ 0 → z_Sm cx r M2 tgt ls st M) (kf : ¬ x ≤ 0 → z_Sm cx r M2 (pc + 3) ls st M) : z_Sm cx r M2 pc ls (.int x :: st) M := by
  intro l D cy ad p e s m args below meth c H locs ar F w h
  exact lv_if_le F.1 F.2.1 d ht (fun q => kt q l D cy ad p e s m args below meth c H locs ar F w h) (fun q => kf q l D cy ad p e s m args below meth c H locs ar F w h)
-- goto, iinc, constants of the pool, switches
theorem z_goto {cx : z_MC} {r : Option Value} {M M2 : z_Mem} {pc : Nat} {ls : List (Option Value)} {st : List Value} {off : Int} {tgt : Nat} (d : decode cx.1 pc = .ok (.goto off, 3)) (ht : (pc : Int) + off = (tgt : Int)) (k : z_Sm cx r M2 tgt ls st M) : z_Sm cx r M2 pc ls st M := by
  intro l D cy ad p e s m args below meth c H locs ar F w h
  exact lv_goto F.1 F.2.1 d ht (k l D cy ad p e s m args below meth c H locs ar F w h)
theorem z_iinc {cx : z_MC} {r : Option Value} {M M2 : z_Mem} {pc : Nat} {ls : List (Option Value)} {st : List Value} {i : Nat} {n : Int} {x v : Int32} (d : decode cx.1 pc = .ok (.iinc i n, 3)) (hl : ls[i]? = some (some (.int x))) (hv : x + Int32.ofInt n = v) (hi : z_okst i ls = true) (hn : i < cx.2.2.1) (k : z_Sm cx r M2 (pc + 3) (ls.set i (some (.int v))) st M) : z_Sm cx r M2 pc ls st M := by
  intro l D cy ad p e s m args below meth c H locs ar F w h
  have hh : lv_has ar cx.2.2.1 ((i, .int x) :: z_lvl ad ls) := by
    refine ⟨h.1, h.2.1, fun q hq => ?_⟩
    rcases List.mem_cons.mp hq with rfl | hq
    · exact h.2.2 _ _ hl
    · exact (z_lvh h).2.2 q hq
  refine lv_iinc (k := 0) F.1 F.2.1 d hh rfl hv hn rfl (fun ar2 h2 => k l D cy ad p e s m args below meth c H locs ar2 F w (z_lv1 (v := .int v) hi ⟨h2.1, h2.2.1, fun q hq => h2.2.2 q ?_⟩))
  rcases List.mem_cons.mp hq with rfl | hq
  · exact List.mem_cons_self
  · exact List.mem_cons_of_mem _ (List.mem_filter.mpr ⟨List.mem_cons_of_mem _ (List.mem_filter.mp hq).1, (List.mem_filter.mp hq).2⟩)
theorem z_ldc2 {cx : z_MC} {r : Option Value} {M M2 : z_Mem} {pc : Nat} {ls : List (Option Value)} {st : List Value} {index : Nat} {v : Int64} (hc : Jvm.Cond.constantLong cx.2.1 index v ∈ z_tb) (d : decode cx.1 pc = .ok (.ldc2_w index, 3)) (k : z_Sm cx r M2 (pc + 3) ls (.long v :: st) M) : z_Sm cx r M2 pc ls st M := by
  intro l D cy ad p e s m args below meth c H locs ar F w h
  exact lv_ldc2 F.1 F.2.1 F.2.2.2.2.1 (F.2.2.2.2.2.1 _ (List.mem_cons_of_mem _ hc)) d (k l D cy ad p e s m args below meth c H locs ar F w h)
theorem z_ldcw {cx : z_MC} {r : Option Value} {M M2 : z_Mem} {pc : Nat} {ls : List (Option Value)} {st : List Value} {index : Nat} {v : Int32} (hc : Jvm.Cond.constant cx.2.1 index v ∈ z_tb) (d : decode cx.1 pc = .ok (.ldc_w index, 3)) (k : z_Sm cx r M2 (pc + 3) ls (.int v :: st) M) : z_Sm cx r M2 pc ls st M := by
  intro l D cy ad p e s m args below meth c H locs ar F w h
  exact lv_ldcw F.1 F.2.1 F.2.2.2.2.1 (F.2.2.2.2.2.1 _ (List.mem_cons_of_mem _ hc)) d (k l D cy ad p e s m args below meth c H locs ar F w h)
theorem z_tswIn {cx : z_MC} {r : Option Value} {M M2 : z_Mem} {pc : Nat} {ls : List (Option Value)} {st : List Value} {dflt lo hi off : Int} {offs : Array Int} {len tgt : Nat} {x : Int32} (d : decode cx.1 pc = .ok (.tableswitch dflt lo hi offs, len)) (h1 : ¬ x.toInt < lo) (h2 : ¬ hi < x.toInt) (ho : offs[(x.toInt - lo).toNat]? = some off) (ht : (pc : Int) + off = (tgt : Int)) (k : z_Sm cx r M2 tgt ls st M) : z_Sm cx r M2 pc ls (.int x :: st) M := by
  intro l D cy ad p e s m args below meth c H locs ar F w h
  exact lv_tableIn F.1 F.2.1 d h1 h2 ho ht (k l D cy ad p e s m args below meth c H locs ar F w h)
theorem z_tswOut {cx : z_MC} {r : Option Value} {M M2 : z_Mem} {pc : Nat} {ls : List (Option Value)} {st : List Value} {dflt lo hi : Int} {offs : Array Int} {len tgt : Nat} {x : Int32} (d : decode cx.1 pc = .ok (.tableswitch dflt lo hi offs, len)) (h1 : x.toInt < lo ∨ hi < x.toInt) (ht : (pc : Int) + dflt = (tgt : Int)) (k : z_Sm cx r M2 tgt ls st M) : z_Sm cx r M2 pc ls (.int x :: st) M := by
  intro l D cy ad p e s m args below meth c H locs ar F w h
  exact lv_tableOut F.1 F.2.1 d h1 ht (k l D cy ad p e s m args below meth c H locs ar F w h)
-- what a frame needn't know
theorem z_drop {cx : z_MC} {r : Option Value} {M M2 : z_Mem} {pc : Nat} {ls : List (Option Value)} {st : List Value} (i : Nat) (k : z_Sm cx r M2 pc (ls.set i none) st M) : z_Sm cx r M2 pc ls st M := by
  intro l D cy ad p e s m args below meth c H locs ar F w h
  refine k l D cy ad p e s m args below meth c H locs ar F w ⟨h.1, h.2.1, fun j v hj => h.2.2 j v ?_⟩
  by_cases e : i = j
  · subst e
    have hlt := (List.getElem?_eq_some_iff.mp hj).1
    rw [List.length_set] at hlt
    rw [List.getElem?_set_self hlt] at hj
    cases hj
  · rwa [List.getElem?_set_ne e] at hj
theorem z_eq {cx : z_MC} {r : Option Value} {M N M2 : z_Mem} {pc : Nat} {ls ls2 : List (Option Value)} {st st2 : List Value} (h1 : ls = ls2) (h2 : st = st2) (h3 : M = N) (k : z_Sm cx r M2 pc ls2 st2 N) : z_Sm cx r M2 pc ls st M := by
  subst h1; subst h2; subst h3; exact k
-- fields
def z_FL (own : String) (idx ci k : Nat) : Prop := ∃ C T N, vwCl[ci]? = some (C, T, N) ∧ k < N ∧ Cond.fieldLink own idx (T k).1 (T k).2.1 (T k).2.2.1 ∈ z_tb
def z_FP (ci k : Nat) (dsc : String) : Bool := match vwCl[ci]? with
  | some q => (q.2.1 k).2.2.2 == false && (q.2.1 k).2.2.1 == dsc
  | none => false
theorem z_cls {ci : Nat} {C : String} {T : u_T} {N : Nat} (hc : vwCl[ci]? = some (C, T, N)) : (∀ w ∈ u_ws C T N, w ∈ z_tb) ∧ ∃ ty0 : Nat → FieldType, (∀ k, k < N → parseFieldDescriptor (T k).2.2.1 = some (ty0 k)) ∧ ∀ a, a < N → ∀ b, b < N → a ≠ b → (T a).2.1 ≠ (T b).2.1 := by
  match ci, hc with
  | 0, hc => cases hc; exact ⟨z_u0, tyX0, tyX0_ok, nmX0⟩
  | 1, hc => cases hc; exact ⟨z_u1, tyX1, tyX1_ok, nmX1⟩
  | 2, hc => cases hc; exact ⟨z_u2, tyX2, tyX2_ok, nmX2⟩
  | 3, hc => cases hc; exact ⟨z_u3, tyX3, tyX3_ok, nmX3⟩
  | 4, hc => cases hc; exact ⟨z_u4, tyX4, tyX4_ok, nmX4⟩
  | 5, hc => cases hc; exact ⟨z_u5, tyX5, tyX5_ok, nmX5⟩
  | 6, hc => cases hc; exact ⟨z_u6, tyX6, tyX6_ok, nmX6⟩
  | 7, hc => cases hc; exact ⟨z_u7, tyX7, tyX7_ok, nmX7⟩
  | k + 8, hc => simp at hc
theorem z_getf {cx : z_MC} {r : Option Value} {M M2 : z_Mem} {pc : Nat} {ls : List (Option Value)} {st : List Value} {idx ci k id f : Nat} {fks : List Nat} (hf : z_FL cx.2.1 idx ci k) (hs : z_shp[id]? = some (.inr (.inl (ci, fks)))) (hk : fks[k]? = some f) (d : decode cx.1 pc = .ok (.getfield idx, 3)) (kk : z_Sm cx r M2 (pc + 3) ls (z_pv M id k f :: st) M) : z_Sm cx r M2 pc ls (.ref id :: st) M := by
  intro l D cy ad p e s m args below meth c H locs ar F w h
  obtain ⟨C, T, N, hc, hkN, hlk⟩ := hf
  obtain ⟨hui, -⟩ := z_cls hc
  have hget := z_wd_get (cy := cy) (ad := ad) (M := M) hs
  have hv : (z_fs ad M id 0 fks)[k]? = some (z_fv ad M id k f) := by
    have := z_fs_get (ad := ad) (M := M) (id := id) fks 0 k f hk
    rwa [Nat.zero_add] at this
  have K := kk l D cy ad p e s m args below meth c H locs ar F w h
  rw [List.map_cons, z_pv_mv] at K
  exact va_get F.1 F.2.1 F.2.2.2.2.2.1 (fun w9 h9 => List.mem_cons_of_mem _ (hui w9 h9)) F.2.2.2.2.1 F.2.2.2.2.2.2.2.1 w.1 id hget hc k hkN (F.2.2.2.2.2.1 _ (List.mem_cons_of_mem _ hlk)) (fun _ h9 => h9) hv d K
theorem z_getI {cx : z_MC} {r : Option Value} {M M2 : z_Mem} {pc : Nat} {ls : List (Option Value)} {st : List Value} {idx ci k id : Nat} {fks : List Nat} (hf : z_FL cx.2.1 idx ci k) (hs : z_shp[id]? = some (.inr (.inl (ci, fks)))) (hk : fks[k]? = some 0) (d : decode cx.1 pc = .ok (.getfield idx, 3)) (kk : z_Sm cx r M2 (pc + 3) ls (.int (M.1 id k) :: st) M) : z_Sm cx r M2 pc ls (.ref id :: st) M := z_getf hf hs hk d kk
theorem z_getL {cx : z_MC} {r : Option Value} {M M2 : z_Mem} {pc : Nat} {ls : List (Option Value)} {st : List Value} {idx ci k id : Nat} {fks : List Nat} (hf : z_FL cx.2.1 idx ci k) (hs : z_shp[id]? = some (.inr (.inl (ci, fks)))) (hk : fks[k]? = some 1) (d : decode cx.1 pc = .ok (.getfield idx, 3)) (kk : z_Sm cx r M2 (pc + 3) ls (.long (M.2 id k) :: st) M) : z_Sm cx r M2 pc ls (.ref id :: st) M := z_getf hf hs hk d kk
theorem z_getR {cx : z_MC} {r : Option Value} {M M2 : z_Mem} {pc : Nat} {ls : List (Option Value)} {st : List Value} {idx ci k id : Nat} {fks : List Nat} (j : Nat) (hf : z_FL cx.2.1 idx ci k) (hs : z_shp[id]? = some (.inr (.inl (ci, fks)))) (hk : fks[k]? = some (j + 2)) (d : decode cx.1 pc = .ok (.getfield idx, 3)) (kk : z_Sm cx r M2 (pc + 3) ls (.ref j :: st) M) : z_Sm cx r M2 pc ls (.ref id :: st) M := z_getf hf hs hk d kk
theorem z_putI {cx : z_MC} {r : Option Value} {M M2 : z_Mem} {pc : Nat} {ls : List (Option Value)} {st : List Value} {idx ci k id : Nat} {fks : List Nat} {v : Int32} (hf : z_FL cx.2.1 idx ci k) (hp : z_FP ci k "I" = true) (hs : z_shp[id]? = some (.inr (.inl (ci, fks)))) (hk : fks[k]? = some 0) (d : decode cx.1 pc = .ok (.putfield idx, 3)) (kk : z_Sm cx r M2 (pc + 3) ls st (z_set M id k v)) : z_Sm cx r M2 pc ls (.int v :: .ref id :: st) M := by
  intro l D cy ad p e s m args below meth c H locs ar F w h
  obtain ⟨C, T, N, hc, hkN, hlk⟩ := hf
  obtain ⟨hui, ty0, hty, hnm⟩ := z_cls hc
  have hget := z_wd_get (cy := cy) (ad := ad) (M := M) hs
  simp only [z_FP, hc, Bool.and_eq_true, beq_iff_eq] at hp
  have hset : (z_wd cy ad M).set id (ad id, .inr (ci, (z_fs ad M id 0 fks).set k (.int v))) = z_wd cy ad (z_set M id k v) := by
    have e1 : (z_fs ad M id 0 fks).set k (.int v) = z_fs ad (z_set M id k v) id 0 fks := z_fs_set (f := 0) fks 0 k hk (by rw [Nat.zero_add]; simp [z_fv, z_set, z_row, upd]) (fun b hb => by simp [z_set, z_row, upd, show b ≠ k by omega]) (fun _ _ => rfl)
    rw [e1]
    exact z_wd_set (cy := cy) (ad := ad) (M := M) (N := z_set M id k v) (fun a ha => ⟨by simp [z_set, z_row, ha], rfl⟩) hs
  refine va_put (ty := .int) F.1 F.2.1 F.2.2.2.2.2.1 (fun w9 h9 => List.mem_cons_of_mem _ (hui w9 h9)) ty0 hty hnm F.2.2.2.2.1 F.2.2.2.2.2.2.2.1 w.1 w.2.1 w.2.2 id hget hc k hkN (F.2.2.2.2.2.1 _ (List.mem_cons_of_mem _ hlk)) (fun _ h9 => h9) hp.1 (by rw [hp.2]; decide +kernel) rfl rfl (by rw [z_fs_len]; exact (List.getElem?_eq_some_iff.mp hk).1) d (fun H1 locs1 q1 q2 q3 => ?_)
  replace q1 := hset ▸ (show va_P D vwCl ((z_wd cy ad M).set id (ad id, .inr (ci, (z_fs ad M id 0 fks).set k (.int v)))) H1 from q1)
  replace q2 := hset ▸ (show va_D (z_A ad) ((z_wd cy ad M).set id (ad id, .inr (ci, (z_fs ad M id 0 fks).set k (.int v)))) from q2)
  exact kk l D cy ad p e s m args below meth c H1 locs1 ar F ⟨q1, q2, q3⟩ h
theorem z_putL {cx : z_MC} {r : Option Value} {M M2 : z_Mem} {pc : Nat} {ls : List (Option Value)} {st : List Value} {idx ci k id : Nat} {fks : List Nat} {v : Int64} (hf : z_FL cx.2.1 idx ci k) (hp : z_FP ci k "J" = true) (hs : z_shp[id]? = some (.inr (.inl (ci, fks)))) (hk : fks[k]? = some 1) (d : decode cx.1 pc = .ok (.putfield idx, 3)) (kk : z_Sm cx r M2 (pc + 3) ls st (z_setL M id k v)) : z_Sm cx r M2 pc ls (.long v :: .ref id :: st) M := by
  intro l D cy ad p e s m args below meth c H locs ar F w h
  obtain ⟨C, T, N, hc, hkN, hlk⟩ := hf
  obtain ⟨hui, ty0, hty, hnm⟩ := z_cls hc
  have hget := z_wd_get (cy := cy) (ad := ad) (M := M) hs
  simp only [z_FP, hc, Bool.and_eq_true, beq_iff_eq] at hp
  have hset : (z_wd cy ad M).set id (ad id, .inr (ci, (z_fs ad M id 0 fks).set k (.long v))) = z_wd cy ad (z_setL M id k v) := by
    have e1 : (z_fs ad M id 0 fks).set k (.long v) = z_fs ad (z_setL M id k v) id 0 fks := z_fs_set (f := 1) fks 0 k hk (by rw [Nat.zero_add]; simp [z_fv, z_setL]) (fun _ _ => rfl) (fun b hb => by simp [z_setL, show b ≠ k by omega])
    rw [e1]
    exact z_wd_set (cy := cy) (ad := ad) (M := M) (N := z_setL M id k v) (fun a ha => ⟨rfl, by simp [z_setL, ha]⟩) hs
  refine va_put (ty := .long) F.1 F.2.1 F.2.2.2.2.2.1 (fun w9 h9 => List.mem_cons_of_mem _ (hui w9 h9)) ty0 hty hnm F.2.2.2.2.1 F.2.2.2.2.2.2.2.1 w.1 w.2.1 w.2.2 id hget hc k hkN (F.2.2.2.2.2.1 _ (List.mem_cons_of_mem _ hlk)) (fun _ h9 => h9) hp.1 (by rw [hp.2]; decide +kernel) rfl rfl (by rw [z_fs_len]; exact (List.getElem?_eq_some_iff.mp hk).1) d (fun H1 locs1 q1 q2 q3 => ?_)
  replace q1 := hset ▸ (show va_P D vwCl ((z_wd cy ad M).set id (ad id, .inr (ci, (z_fs ad M id 0 fks).set k (.long v)))) H1 from q1)
  replace q2 := hset ▸ (show va_D (z_A ad) ((z_wd cy ad M).set id (ad id, .inr (ci, (z_fs ad M id 0 fks).set k (.long v)))) from q2)
  exact kk l D cy ad p e s m args below meth c H1 locs1 ar F ⟨q1, q2, q3⟩ h
-- arrays
theorem z_iald {cx : z_MC} {r : Option Value} {M M2 : z_Mem} {pc : Nat} {ls : List (Option Value)} {st : List Value} {id n : Nat} {i : Int32} (j : Nat) (hs : z_shp[id]? = some (.inl (0, n))) (hi : i = nI j ∧ j < n ∧ n < 2 ^ 31) (d : decode cx.1 pc = .ok (.iaload, 1)) (kk : z_Sm cx r M2 (pc + 1) ls (.int (M.1 id j) :: st) M) : z_Sm cx r M2 pc ls (.int i :: .ref id :: st) M := by
  intro l D cy ad p e s m args below meth c H locs ar F w h
  obtain ⟨rfl, hj, hn⟩ := hi
  have hget := z_wd_get (cy := cy) (ad := ad) (M := M) hs
  have K := kk l D cy ad p e s m args below meth c H locs ar F w h
  refine va_iald (n := n) (f := M.1 id) F.1 F.2.1 F.2.2.2.2.2.2.2.1 w.1 id 0 hget rfl (vp_in_nI hj hn) d ?_
  rw [nI_clamp (by omega)]
  exact K
theorem z_iast {cx : z_MC} {r : Option Value} {M M2 : z_Mem} {pc : Nat} {ls : List (Option Value)} {st : List Value} {id n : Nat} {i x : Int32} (j : Nat) (hs : z_shp[id]? = some (.inl (0, n))) (hi : i = nI j ∧ j < n ∧ n < 2 ^ 31) (d : decode cx.1 pc = .ok (.iastore, 1)) (kk : z_Sm cx r M2 (pc + 1) ls st (z_set M id j x)) : z_Sm cx r M2 pc ls (.int x :: .int i :: .ref id :: st) M := by
  intro l D cy ad p e s m args below meth c H locs ar F w h
  obtain ⟨rfl, hj, hn⟩ := hi
  have hget := z_wd_get (cy := cy) (ad := ad) (M := M) hs
  have hset : (z_wd cy ad M).set id (ad id, .inl (cy 0, n, .inl (upd (M.1 id) j x))) = z_wd cy ad (z_set M id j x) := by
    have := z_wd_set (cy := cy) (ad := ad) (M := M) (N := z_set M id j x) (fun a ha => ⟨by simp [z_set, z_row, ha], rfl⟩) hs
    rw [z_ent, z_set, z_row_1] at this
    exact this
  refine va_iast (n := n) (f := M.1 id) F.1 F.2.1 F.2.2.2.2.2.2.2.1 w.1 w.2.1 w.2.2 id 0 hget rfl (vp_in_nI hj hn) d (fun H1 locs1 q1 q2 q3 => ?_)
  rw [nI_clamp (by omega), hset] at q1 q2
  exact kk l D cy ad p e s m args below meth c H1 locs1 ar F ⟨q1, q2, q3⟩ h
theorem z_zald {cx : z_MC} {r : Option Value} {M M2 : z_Mem} {pc : Nat} {ls : List (Option Value)} {st : List Value} {id n : Nat} {i : Int32} (j : Nat) (hs : z_shp[id]? = some (.inl (1, n))) (hi : i = nI j ∧ j < n ∧ n < 2 ^ 31) (d : decode cx.1 pc = .ok (.baload, 1)) (kk : z_Sm cx r M2 (pc + 1) ls (.int (M.1 id j) :: st) M) : z_Sm cx r M2 pc ls (.int i :: .ref id :: st) M := by
  intro l D cy ad p e s m args below meth c H locs ar F w h
  obtain ⟨rfl, hj, hn⟩ := hi
  have hget := z_wd_get (cy := cy) (ad := ad) (M := M) hs
  have K := kk l D cy ad p e s m args below meth c H locs ar F w h
  refine va_zald (n := n) (f := M.1 id) F.1 F.2.1 F.2.2.2.2.2.2.2.1 w.1 id 1 hget rfl (vp_in_nI hj hn) d ?_
  rw [nI_clamp (by omega)]
  exact K
theorem z_zast {cx : z_MC} {r : Option Value} {M M2 : z_Mem} {pc : Nat} {ls : List (Option Value)} {st : List Value} {id n : Nat} {i x : Int32} (j : Nat) (hs : z_shp[id]? = some (.inl (1, n))) (hi : i = nI j ∧ j < n ∧ n < 2 ^ 31) (hx : vp_nar .boolean x = x) (d : decode cx.1 pc = .ok (.bastore, 1)) (kk : z_Sm cx r M2 (pc + 1) ls st (z_set M id j x)) : z_Sm cx r M2 pc ls (.int x :: .int i :: .ref id :: st) M := by
  intro l D cy ad p e s m args below meth c H locs ar F w h
  obtain ⟨rfl, hj, hn⟩ := hi
  have hget := z_wd_get (cy := cy) (ad := ad) (M := M) hs
  have hset : (z_wd cy ad M).set id (ad id, .inl (cy 1, n, .inl (upd (M.1 id) j x))) = z_wd cy ad (z_set M id j x) := by
    have := z_wd_set (cy := cy) (ad := ad) (M := M) (N := z_set M id j x) (fun a ha => ⟨by simp [z_set, z_row, ha], rfl⟩) hs
    rw [z_ent, z_set, z_row_1] at this
    exact this
  refine va_zast (n := n) (f := M.1 id) F.1 F.2.1 F.2.2.2.2.2.2.2.1 w.1 w.2.1 w.2.2 id 1 hget rfl (vp_in_nI hj hn) d (fun H1 locs1 q1 q2 q3 => ?_)
  rw [nI_clamp (by omega), hx, hset] at q1 q2
  exact kk l D cy ad p e s m args below meth c H1 locs1 ar F ⟨q1, q2, q3⟩ h
theorem z_aald {cx : z_MC} {r : Option Value} {M M2 : z_Mem} {pc : Nat} {ls : List (Option Value)} {st : List Value} {id q : Nat} {ids : List Nat} {i : Int32} (j : Nat) (hs : z_shp[id]? = some (.inr (.inr ids))) (hi : i = nI j ∧ j < ids.length ∧ ids.length < 2 ^ 31) (hq : ids[j]? = some q) (d : decode cx.1 pc = .ok (.aaload, 1)) (kk : z_Sm cx r M2 (pc + 1) ls (.ref q :: st) M) : z_Sm cx r M2 pc ls (.int i :: .ref id :: st) M := by
  intro l D cy ad p e s m args below meth c H locs ar F w h
  obtain ⟨rfl, hj, hn⟩ := hi
  have hget := z_wd_get (cy := cy) (ad := ad) (M := M) hs
  have K := kk l D cy ad p e s m args below meth c H locs ar F w h
  refine va_aldq (n := ids.length) (f := fun k => (ids[k]?).map ad) (C := "SafetyPins$Plight") F.1 F.2.1 F.2.2.2.2.2.2.2.1 w.1 id 2 hget rfl (vp_in_nI hj hn) d ?_
  rw [nI_clamp (by omega), hq]
  exact K
-- the two static arrays
theorem z_getFA {cx : z_MC} {r : Option Value} {M M2 : z_Mem} {pc : Nat} {ls : List (Option Value)} {st : List Value} {idx : Nat} (hl : Cond.fieldLink cx.2.1 idx "SafetyPins" "FACTORIALS" "[I" ∈ z_tb) (d : decode cx.1 pc = .ok (.getstatic idx, 3)) (kk : z_Sm cx r M2 (pc + 3) ls (.ref 1000 :: st) M) : z_Sm cx r M2 pc ls st M := by
  intro l D cy ad p e s m args below meth c H locs ar F w h
  exact va_gets F.1 F.2.1 F.2.2.2.2.2.2.2.2.1 w.2.2 F.2.2.2.2.1 (F.2.2.2.2.2.1 _ (List.mem_cons_of_mem _ hl)) (fun _ h9 => h9) d (kk l D cy ad p e s m args below meth c H locs ar F w h)
theorem z_getTH {cx : z_MC} {r : Option Value} {M M2 : z_Mem} {pc : Nat} {ls : List (Option Value)} {st : List Value} {idx : Nat} (hl : Cond.fieldLink cx.2.1 idx "SafetyPins" "THOUSANDS" "[J" ∈ z_tb) (d : decode cx.1 pc = .ok (.getstatic idx, 3)) (kk : z_Sm cx r M2 (pc + 3) ls (.ref 1001 :: st) M) : z_Sm cx r M2 pc ls st M := by
  intro l D cy ad p e s m args below meth c H locs ar F w h
  exact va_gets F.1 F.2.1 F.2.2.2.2.2.2.2.2.2.1 w.2.2 F.2.2.2.2.1 (F.2.2.2.2.2.1 _ (List.mem_cons_of_mem _ hl)) (fun _ h9 => h9) d (kk l D cy ad p e s m args below meth c H locs ar F w h)
theorem z_ialdFA {cx : z_MC} {r : Option Value} {M M2 : z_Mem} {pc : Nat} {ls : List (Option Value)} {st : List Value} {i : Int32} (j : Nat) (hi : i = nI j ∧ j < 8) (d : decode cx.1 pc = .ok (.iaload, 1)) (kk : z_Sm cx r M2 (pc + 1) ls (.int (z_FA.getD j 0) :: st) M) : z_Sm cx r M2 pc ls (.int i :: .ref 1000 :: st) M := by
  intro l D cy ad p e s m args below meth c H locs ar F w h
  obtain ⟨rfl, hj⟩ := hi
  exact va_ti F.1 F.2.1 F.2.2.2.2.2.2.2.2.2.2.1 w.2.2 (vp_in_nI hj (by decide)) (by rw [nI_clamp (by omega)]; rfl) d (kk l D cy ad p e s m args below meth c H locs ar F w h)
theorem z_laldTH {cx : z_MC} {r : Option Value} {M M2 : z_Mem} {pc : Nat} {ls : List (Option Value)} {st : List Value} {i : Int32} (j : Nat) (hi : i = nI j ∧ j < 5) (d : decode cx.1 pc = .ok (.laload, 1)) (kk : z_Sm cx r M2 (pc + 1) ls (.long (z_TH.getD j 0) :: st) M) : z_Sm cx r M2 pc ls (.int i :: .ref 1001 :: st) M := by
  intro l D cy ad p e s m args below meth c H locs ar F w h
  obtain ⟨rfl, hj⟩ := hi
  exact va_tl F.1 F.2.1 F.2.2.2.2.2.2.2.2.2.2.2 w.2.2 (vp_in_nI hj (by decide)) (by rw [nI_clamp (by omega)]; rfl) d (kk l D cy ad p e s m args below meth c H locs ar F w h)
-- contracts and calls
def z_Ct (cx : z_MC) (as : List Value) (M : z_Mem) (r : Option Value) (M2 : z_Mem) : Prop :=
  ∀ (l : Launch) (D : va_G) (cy : Nat → ClassId) (ad : Nat → Nat), Met l cx.2.2.2.2.1 (z_ws cx) (z_rm cx.2.2.2.2.2) (va_Pc (as.map (z_mv ad)) (z_Pre D cy ad M)) (z_Q D cy ad r M2) 0 0 (z_A ad)
def z_ents : List Value → List (Option Value)
  | [] => []
  | v :: vs => if v.category = 2 then some v :: none :: z_ents vs else some v :: z_ents vs
theorem z_ents_in {ad : Nat → Nat} : ∀ (vs : List Value) (k i : Nat) (v : Value), (z_ents vs)[i]? = some (some v) → (k + i, z_mv ad v) ∈ lv_args k (vs.map (z_mv ad))
  | [], k, i, v, h => by simp [z_ents] at h
  | u :: vs, k, i, v, h => by
    rw [List.map_cons, lv_args, z_cat]
    by_cases hu : u.category = 2
    · rw [z_ents, if_pos hu] at h
      rw [if_pos hu]
      match i, h with
      | 0, h => simp at h; subst h; exact List.mem_cons_self
      | 1, h => simp at h
      | i + 2, h =>
        have := z_ents_in (ad := ad) vs (k + 2) i v (by simpa using h)
        rw [show k + 2 + i = k + (i + 2) by omega] at this
        exact List.mem_cons_of_mem _ this
    · rw [z_ents, if_neg hu] at h
      rw [if_neg hu]
      match i, h with
      | 0, h => simp at h; subst h; exact List.mem_cons_self
      | i + 1, h =>
        have := z_ents_in (ad := ad) vs (k + 1) i v (by simpa using h)
        rw [show k + 1 + i = k + (i + 1) by omega] at this
        exact List.mem_cons_of_mem _ this
theorem z_ents_len {ad : Nat → Nat} : ∀ vs : List Value, (lg_sl (vs.map (z_mv ad))).length = (z_ents vs).length
  | [] => rfl
  | u :: vs => by
    have ih := z_ents_len (ad := ad) vs
    rw [List.map_cons]
    show (lg_sl (z_mv ad u :: vs.map (z_mv ad))).length = _
    rw [show lg_sl (z_mv ad u :: vs.map (z_mv ad)) = (if (z_mv ad u).category = 2 then [Slot.val (z_mv ad u), .second] else [.val (z_mv ad u)]) ++ lg_sl (vs.map (z_mv ad)) from rfl, z_cat, List.length_append, ih, z_ents]
    by_cases hu : u.category = 2
    · rw [if_pos hu, if_pos hu]; simp; omega
    · rw [if_neg hu, if_neg hu]; simp; omega
def z_ent0 (nL : Nat) (as : List Value) : List (Option Value) := z_ents as ++ List.replicate (nL - (z_ents as).length) none
theorem z_entry {cx : z_MC} {as : List Value} {M M2 : z_Mem} {r : Option Value} (hp : plainFor cx.2.2.2.2.1 = true) (hlen : (z_ents as).length ≤ cx.2.2.1) (hcl : cx.2.2.2.2.1.cls = cx.2.1) (k : z_Sm cx r M2 0 (z_ent0 cx.2.2.1 as) [] M) : z_Ct cx as M r M2 := by
  intro l D cy ad
  refine va_MetF (cc := cx.1) (maxL := cx.2.2.1) (ret := cx.2.2.2.1) hp rfl ?_
  intro p e s m args below meth c s₁ B hml hv
  obtain ⟨rfl, hP, hK, hD, hZ⟩ := hv
  have hts := atoms_spec (ws := z_ws cx) B.pre
  have hown : s.vm.findClass cx.2.2.2.2.1.cls = some m.cls := findClass_of_methodNamed B.named
  have hl := lv_entry (as.map (z_mv ad)) (n := cx.2.2.1) (by rw [z_ents_len]; exact hlen)
  rw [lg_entry_eq]
  refine k l D cy ad p e s m _ below meth c s.heap [] _ ⟨B.exec, B.bytes, hml, B.returns, hcl ▸ hown, hts, B.notSynchronized, hK, hZ⟩ ⟨hP, hD, va_S.rf⟩ ⟨hl.1, hl.2.1, fun i v hi => ?_⟩
  refine hl.2.2 (i, z_mv ad v) ?_
  have hi2 : (z_ents as)[i]? = some (some v) := by
    by_cases h9 : i < (z_ents as).length
    · rwa [z_ent0, List.getElem?_append_left h9] at hi
    · rw [z_ent0, List.getElem?_append_right (by omega)] at hi
      have := List.eq_of_mem_replicate (List.mem_of_getElem? hi)
      cases this
  have := z_ents_in (ad := ad) as 0 i v hi2
  rwa [Nat.zero_add] at this
theorem z_blind {D : va_G} {cy : Nat → ClassId} {ad : Nat → Nat} {M : z_Mem} {av : List Value} : FrameBlind (va_Pc av (z_Pre D cy ad M)) := fun a U g mk q => ⟨q.1, q.2.1, va_K.moved (u := U) (U := U.calling g mk a) (Vm.Alike.refl U.vm) q.2.2.1, q.2.2.2.1, z_st_moved (u := U) (U := U.calling g mk a) (Vm.Alike.refl U.vm) q.2.2.2.2⟩
theorem z_pre_at {cx : z_MC} {D : va_G} {cy : Nat → ClassId} {ad : Nat → Nat} {p : Program} {s : State} {m : MethodId} {args : Array Value} {meth : Method} {c : Code} {M : z_Mem} {H : Heap} {locs : List Loc} {U : State} (F : z_Fx cx D cy ad p s m args meth c) (w : z_Wo D cy ad s M H locs) (hU : U.heap = H) (hW : s.WarmedH U.vm) : z_Pre D cy ad M U := by
  refine ⟨by rw [hU]; exact w.1, va_K.moved hW.alike F.2.2.2.2.2.2.2.1, w.2.1, ?_⟩
  rw [hU]
  exact z_st_kept (z_st_moved hW.alike F.2.2.2.2.2.2.2.2) w.2.2.2.1
theorem z_after {cx : z_MC} {r ro : Option Value} {M1 M2 : z_Mem} {pc : Nat} {ls : List (Option Value)} {st : List Value} (kk : z_Sm cx r M2 (pc + 3) ls (ro.toList ++ st) M1)
    {l : Launch} {D : va_G} {cy : Nat → ClassId} {ad : Nat → Nat} {p : Program} {e : Env} {s : State} {m : MethodId} {args : Array Value} {below : List Frame} {meth : Method} {c : Code} {H : Heap} {locs : List Loc} {ar : Array Slot} {M : z_Mem} {st0 : List Value} {a : Array Value}
    (F : z_Fx cx D cy ad p s m args meth c) (w : z_Wo D cy ad s M H locs) (h : z_Lo ad cx.2.2.1 ls ar)
    (hr : va_Run p l e (z_rm cx.2.2.2.2.2) s m args below meth c H locs 0 0 0 0 (F0 m pc ar st0) (st.map (z_mv ad)) (z_Q D cy ad ro M1 a) (z_A ad)) : W p l e (z_rm cx.2.2.2.2.2) s m args below meth c H locs 0 0 (MQ below (z_Q D cy ad r M2) args s 0 0 (z_A ad)) (F0 m pc ar st0) := by
  intro T hT X
  obtain ⟨v, st₀, t, T', L, h0, X', hL, e1, e2, ⟨⟨hv, hPt⟩, hz, hk⟩, go⟩ := hr T hT X
  have hv : v = ro.map (z_mv ad) := by cases hv; rfl
  subst hv
  rw [h0] at hz hk
  have hS := w.2.2
  have K := kk l D cy ad p e s m args below meth c T'.heap (locs ++ L) ar F ⟨by rw [e1]; exact hPt.1, hPt.2.2.1, Nat.le_trans hS.1 (by rw [e1]; exact hz), fun q h1 h2 => by rw [e1, hk q (Nat.lt_of_lt_of_le h1 hS.1) h2]; exact hS.2.1 q h1 h2, fun q hq => by
      rcases List.mem_append.mp hq with h9 | h9
      · exact hS.2.2 q h9
      · exact hL q h9⟩ h
  obtain ⟨t2, a1, b1⟩ := K T' rfl X'
  refine ⟨t2, go t2 ?_, b1⟩
  have e9 : (ro.map (z_mv ad)).toList ++ st.map (z_mv ad) = (ro.toList ++ st).map (z_mv ad) := by cases ro <;> simp
  rw [show ({ F0 m pc ar st0 with pc := (F0 m pc ar st0).pc + 3, stack := (ro.map (z_mv ad)).toList ++ st.map (z_mv ad) } : JFrame) = F0 m (pc + 3) ar ((ro.toList ++ st).map (z_mv ad)) by rw [e9]]
  exact a1
theorem z_gT {w : Cond} (h : w ∈ z_tb) : (w.onTables && w.keeps) = true ∨ ∃ ty, w = .arrayClass ty := good_of_word (List.mem_filter.mp h).2
/-- what a call by invokevirtual needs of the words and the room -/
def z_CV (own : String) (lv : Nat) (idx : Nat) (cx2 : z_MC) (C : String) (n : Nat) : Prop := (Cond.methodLink own idx cx2.2.2.2.2.1 ∈ z_tb ∧ Cond.instanceMethod cx2.2.2.2.2.1 ∈ z_tb ∧ Cond.selects C cx2.2.2.2.2.1 cx2.2.2.2.2.1 ∈ z_tb ∧ Cond.initialized C ∈ z_tb ∧ Cond.code cx2.2.2.2.2.1 cx2.1 cx2.2.2.1 cx2.2.2.2.1 ∈ z_tb) ∧ (cx2.2.2.2.2.1.cls = C ∧ cx2.2.2.2.2.1.cls ≠ "java/lang/invoke/MethodHandle" ∧ cx2.2.2.2.2.1.cls ≠ "java/lang/invoke/VarHandle" ∧ (parseMethodDescriptor cx2.2.2.2.2.1.desc).map (fun d => d.parameters.length) = some n) ∧ (cx2.2.2.2.2.2 + 1 ≤ lv ∧ 8 + (cx2.2.2.1 + 11) + 36 * cx2.2.2.2.2.2 ≤ 36 * lv)
def z_CS (own : String) (lv : Nat) (idx : Nat) (cx2 : z_MC) (n : Nat) : Prop := (Cond.methodLink own idx cx2.2.2.2.2.1 ∈ z_tb ∧ Cond.static cx2.2.2.2.2.1 ∈ z_tb ∧ Cond.initialized cx2.2.2.2.2.1.cls ∈ z_tb ∧ Cond.code cx2.2.2.2.2.1 cx2.1 cx2.2.2.1 cx2.2.2.2.1 ∈ z_tb) ∧ (cx2.2.2.2.2.1.cls ≠ "java/lang/invoke/MethodHandle" ∧ cx2.2.2.2.2.1.cls ≠ "java/lang/invoke/VarHandle" ∧ (parseMethodDescriptor cx2.2.2.2.2.1.desc).map (fun d => d.parameters.length) = some n) ∧ (cx2.2.2.2.2.2 + 1 ≤ lv ∧ 8 + (cx2.2.2.1 + 11) + 36 * cx2.2.2.2.2.2 ≤ 36 * lv)
theorem z_wsIn {big : List Cond} {cx2 : z_MC} (hb : ∀ w ∈ z_tb, w ∈ big) (h : Cond.code cx2.2.2.2.2.1 cx2.1 cx2.2.2.1 cx2.2.2.2.1 ∈ z_tb) : GoodIn big (z_ws cx2) := by
  intro w hw
  rcases List.mem_cons.mp hw with rfl | hw
  · exact ⟨hb _ h, z_gT h⟩
  · exact ⟨hb _ hw, z_gT hw⟩
theorem z_gV {big : List Cond} {own : String} {idx : Nat} {cx2 : z_MC} {C : String} (hb : ∀ w ∈ z_tb, w ∈ big) (g : Cond.methodLink own idx cx2.2.2.2.2.1 ∈ z_tb ∧ Cond.instanceMethod cx2.2.2.2.2.1 ∈ z_tb ∧ Cond.selects C cx2.2.2.2.2.1 cx2.2.2.2.2.1 ∈ z_tb ∧ Cond.initialized C ∈ z_tb ∧ Cond.code cx2.2.2.2.2.1 cx2.1 cx2.2.2.1 cx2.2.2.2.1 ∈ z_tb) : GoodIn big (wsV own idx C cx2.2.2.2.2.1 (z_ws cx2)) := by
  intro w hw
  obtain ⟨g1, g2, g3, g4, g5⟩ := g
  rcases List.mem_append.mp hw with hw | hw
  · simp only [List.mem_cons, List.not_mem_nil, or_false] at hw
    rcases hw with rfl | rfl | rfl | rfl
    · exact ⟨hb _ g1, z_gT g1⟩
    · exact ⟨hb _ g2, z_gT g2⟩
    · exact ⟨hb _ g3, z_gT g3⟩
    · exact ⟨hb _ g4, z_gT g4⟩
  · exact z_wsIn hb g5 w hw
theorem z_gS {big : List Cond} {own : String} {idx : Nat} {cx2 : z_MC} (hb : ∀ w ∈ z_tb, w ∈ big) (g : Cond.methodLink own idx cx2.2.2.2.2.1 ∈ z_tb ∧ Cond.static cx2.2.2.2.2.1 ∈ z_tb ∧ Cond.initialized cx2.2.2.2.2.1.cls ∈ z_tb ∧ Cond.code cx2.2.2.2.2.1 cx2.1 cx2.2.2.1 cx2.2.2.2.1 ∈ z_tb) : GoodIn big (va_wsS own idx cx2.2.2.2.2.1 (z_ws cx2)) := by
  intro w hw
  obtain ⟨g1, g2, g3, g5⟩ := g
  rcases List.mem_append.mp hw with hw | hw
  · simp only [List.mem_cons, List.not_mem_nil, or_false] at hw
    rcases hw with rfl | rfl | rfl
    · exact ⟨hb _ g1, z_gT g1⟩
    · exact ⟨hb _ g2, z_gT g2⟩
    · exact ⟨hb _ g3, z_gT g3⟩
  · exact z_wsIn hb g5 w hw
theorem z_callV {cx cx2 : z_MC} {r ro : Option Value} {M M1 M2 : z_Mem} {pc idx n b ci N : Nat} {ls : List (Option Value)} {st st0 As : List Value} {C : String} {T : u_T} {fks : List Nat} (hC : z_Ct cx2 (.ref b :: As) M ro M1) (hg : z_CV cx.2.1 cx.2.2.2.2.2 idx cx2 C n) (hs : z_shp[b]? = some (.inr (.inl (ci, fks)))) (hc : vwCl[ci]? = some (C, T, N)) (hn : As.length = n) (hst : st0 = As.reverse ++ .ref b :: st) (hcat : (st.map fun v => v.category).sum ≤ 8) (d : decode cx.1 pc = .ok (.invokevirtual idx, 3)) (kk : z_Sm cx r M2 (pc + 3) ls (ro.toList ++ st) M1) : z_Sm cx r M2 pc ls st0 M := by
  intro l D cy ad p e s m args below meth c H locs ar F w h
  obtain ⟨g1, g3, g4⟩ := hg
  have hget := z_wd_get (cy := cy) (ad := ad) (M := M) hs
  refine z_after kk F w h (a := (Value.ref (ad b) :: As.map (z_mv ad)).toArray) (va_runV (As := As.map (z_mv ad)) (rest := st.map (z_mv ad)) (nL := cx.2.2.1) ⟨F.1, F.2.1, F.2.2.1, F.2.2.2.2.1, F.2.2.2.2.2.1⟩ (hC l D cy ad) (cwV n F.2.2.2.2.2.1 (z_gV (fun _ h9 => List.mem_cons_of_mem _ h9) g1) rfl rfl rfl g3 g4) ⟨z_blind, va_recv (q0 := b) F.2.2.2.2.2.2.2.1 w.1 hc hget, fun U hU hW => ⟨rfl, z_pre_at F w hU hW⟩⟩ rfl (by rw [List.length_map]; exact hn) h.1 ?_ (lv_room (by rw [z_cats]; exact hcat)) d ⟨Nat.le_refl _, Nat.le_refl _⟩)
  subst hst
  show ((As.reverse ++ Value.ref b :: st).map (z_mv ad)) = _
  rw [List.map_append, List.map_cons, List.map_reverse]
  rfl
theorem z_callS {cx cx2 : z_MC} {r ro : Option Value} {M M1 M2 : z_Mem} {pc idx n : Nat} {ls : List (Option Value)} {st st0 As : List Value} (hC : z_Ct cx2 As M ro M1) (hg : z_CS cx.2.1 cx.2.2.2.2.2 idx cx2 n) (hn : As.length = n) (hst : st0 = As.reverse ++ st) (hcat : (st.map fun v => v.category).sum ≤ 8) (d : decode cx.1 pc = .ok (.invokestatic idx, 3)) (kk : z_Sm cx r M2 (pc + 3) ls (ro.toList ++ st) M1) : z_Sm cx r M2 pc ls st0 M := by
  intro l D cy ad p e s m args below meth c H locs ar F w h
  obtain ⟨g1, g3, g4⟩ := hg
  refine z_after kk F w h (a := (As.map (z_mv ad)).toArray) (va_runS (As := As.map (z_mv ad)) (rest := st.map (z_mv ad)) (nL := cx.2.2.1) ⟨F.1, F.2.1, F.2.2.1, F.2.2.2.2.1, F.2.2.2.2.2.1⟩ (hC l D cy ad) (va_cwS n F.2.2.2.2.2.1 (z_gS (fun _ h9 => List.mem_cons_of_mem _ h9) g1) rfl rfl rfl g3 g4) ⟨z_blind, fun U hU hW => ⟨rfl, z_pre_at F w hU hW⟩⟩ rfl (by rw [List.length_map]; exact hn) h.1 ?_ (lv_room (by rw [z_cats]; exact hcat)) d ⟨Nat.le_refl _, Nat.le_refl _⟩)
  subst hst
  show ((As.reverse ++ st).map (z_mv ad)) = _
  rw [List.map_append, List.map_reverse]
-- ends
theorem z_iret {cx : z_MC} {M M2 : z_Mem} {pc : Nat} {ls : List (Option Value)} {v w : Int32} (hr : cx.2.2.2.1 = some .int) (d : decode cx.1 pc = .ok (.ireturn, 1)) (hv : v = w) (hM : M = M2) : z_Sm cx (some (.int w)) M2 pc ls [.int v] M := by
  subst hv; subst hM
  intro l D cy ad p e s m args below meth c H locs ar F w h
  exact W.iret F.1 F.2.1 (F.2.2.2.1.trans hr) (fun t ht hW => ⟨⟨rfl, z_pre_at F w ht hW⟩, w.2.2.F ht⟩) w.2.2.2.2 d F.2.2.2.2.2.2.1
theorem z_zret {cx : z_MC} {M M2 : z_Mem} {pc : Nat} {ls : List (Option Value)} {v w : Int32} (hr : cx.2.2.2.1 = some .boolean) (d : decode cx.1 pc = .ok (.ireturn, 1)) (hn : narrow .boolean (.int v) = .int v) (hv : v = w) (hM : M = M2) : z_Sm cx (some (.int w)) M2 pc ls [.int v] M := by
  subst hv; subst hM
  intro l D cy ad p e s m args below meth c H locs ar F w h
  exact W.zret F.1 F.2.1 (F.2.2.2.1.trans hr) hn (fun t ht hW => ⟨⟨rfl, z_pre_at F w ht hW⟩, w.2.2.F ht⟩) w.2.2.2.2 d F.2.2.2.2.2.2.1
theorem z_lret {cx : z_MC} {M M2 : z_Mem} {pc : Nat} {ls : List (Option Value)} {v w : Int64} (hr : cx.2.2.2.1 = some .long) (d : decode cx.1 pc = .ok (.lreturn, 1)) (hv : v = w) (hM : M = M2) : z_Sm cx (some (.long w)) M2 pc ls [.long v] M := by
  subst hv; subst hM
  intro l D cy ad p e s m args below meth c H locs ar F w h
  exact W.lret F.1 F.2.1 (F.2.2.2.1.trans hr) (fun t ht hW => ⟨⟨rfl, z_pre_at F w ht hW⟩, w.2.2.F ht⟩) w.2.2.2.2 d F.2.2.2.2.2.2.1
theorem z_vret {cx : z_MC} {M M2 : z_Mem} {pc : Nat} {ls : List (Option Value)} (hr : cx.2.2.2.1 = none) (d : decode cx.1 pc = .ok (.return_, 1)) (hM : M = M2) : z_Sm cx none M2 pc ls [] M := by
  subst hM
  intro l D cy ad p e s m args below meth c H locs ar F w h
  exact W.vret F.1 F.2.1 (F.2.2.2.1.trans hr) (fun t ht hW => ⟨⟨rfl, z_pre_at F w ht hW⟩, w.2.2.F ht⟩) w.2.2.2.2 d F.2.2.2.2.2.2.1

