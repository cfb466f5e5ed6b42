/-! ===== the JDK's few: bitCount, max, min, floorMod ===== -/
def bcE (x : Int32) : Int32 :=
  let s := fun (v k : Int32) => (v.toUInt32 >>> (k.toUInt32 &&& Int32.toUInt32 31)).toInt32
  let a := x - (s x 1 &&& 1431655765)
  let b := (a &&& 858993459) + (s a 2 &&& 858993459)
  let c := (b + s b 4) &&& 252645135
  let d := c + s c 8
  let e := d + s d 16
  e &&& 63
theorem bcE_pc : ∀ n, n < 128 → bcE (nI n) = nI (pc 7 (nI n)) := by decide +kernel
set_option maxRecDepth 100000 in
set_option maxHeartbeats 4000000 in
theorem c_J6_bitCount_0f7a4 {M : z_Mem} {x : Int32} (hx : sm7 x) : z_Ct mJ6_bitCount_0f7a4 [.int x] M (some (.int (nI (pc 7 x)))) M := by
  obtain ⟨n, hn, hxn⟩ := sm7_nat hx
  refine z_entry (by decide +kernel) (Nat.le_of_ble_eq_true rfl) rfl ?_
  show z_Sm mJ6_bitCount_0f7a4 _ _ 0 [some (.int x)] [] M
  refine z_iload_n (pc := 0) dJ6_bitCount_0f7a4_0 rfl ?_
  refine z_iload_n (pc := 1) dJ6_bitCount_0f7a4_1 rfl ?_
  refine z_iconst (pc := 2) (v := 1) dJ6_bitCount_0f7a4_2 (by decide) ?_
  refine z_iushr (pc := 3) dJ6_bitCount_0f7a4_3 rfl ?_
  refine z_ldcw (pc := 4) q_kJ6_265 dJ6_bitCount_0f7a4_4 ?_
  refine z_iand (pc := 7) dJ6_bitCount_0f7a4_7 ?_
  refine z_isub (pc := 8) dJ6_bitCount_0f7a4_8 ?_
  refine z_istore_n (pc := 9) dJ6_bitCount_0f7a4_9 rfl (by decide) ?_
  refine z_iload_n (pc := 10) dJ6_bitCount_0f7a4_10 rfl ?_
  refine z_ldcw (pc := 11) q_kJ6_266 dJ6_bitCount_0f7a4_11 ?_
  refine z_iand (pc := 14) dJ6_bitCount_0f7a4_14 ?_
  refine z_iload_n (pc := 15) dJ6_bitCount_0f7a4_15 rfl ?_
  refine z_iconst (pc := 16) (v := 2) dJ6_bitCount_0f7a4_16 (by decide) ?_
  refine z_iushr (pc := 17) dJ6_bitCount_0f7a4_17 rfl ?_
  refine z_ldcw (pc := 18) q_kJ6_266 dJ6_bitCount_0f7a4_18 ?_
  refine z_iand (pc := 21) dJ6_bitCount_0f7a4_21 ?_
  refine z_iadd (pc := 22) dJ6_bitCount_0f7a4_22 ?_
  refine z_istore_n (pc := 23) dJ6_bitCount_0f7a4_23 rfl (by decide) ?_
  refine z_iload_n (pc := 24) dJ6_bitCount_0f7a4_24 rfl ?_
  refine z_iload_n (pc := 25) dJ6_bitCount_0f7a4_25 rfl ?_
  refine z_iconst (pc := 26) (v := 4) dJ6_bitCount_0f7a4_26 (by decide) ?_
  refine z_iushr (pc := 27) dJ6_bitCount_0f7a4_27 rfl ?_
  refine z_iadd (pc := 28) dJ6_bitCount_0f7a4_28 ?_
  refine z_ldcw (pc := 29) q_kJ6_267 dJ6_bitCount_0f7a4_29 ?_
  refine z_iand (pc := 32) dJ6_bitCount_0f7a4_32 ?_
  refine z_istore_n (pc := 33) dJ6_bitCount_0f7a4_33 rfl (by decide) ?_
  refine z_iload_n (pc := 34) dJ6_bitCount_0f7a4_34 rfl ?_
  refine z_iload_n (pc := 35) dJ6_bitCount_0f7a4_35 rfl ?_
  refine z_bipush (pc := 36) (v := 8) dJ6_bitCount_0f7a4_36 (by decide) ?_
  refine z_iushr (pc := 38) dJ6_bitCount_0f7a4_38 rfl ?_
  refine z_iadd (pc := 39) dJ6_bitCount_0f7a4_39 ?_
  refine z_istore_n (pc := 40) dJ6_bitCount_0f7a4_40 rfl (by decide) ?_
  refine z_iload_n (pc := 41) dJ6_bitCount_0f7a4_41 rfl ?_
  refine z_iload_n (pc := 42) dJ6_bitCount_0f7a4_42 rfl ?_
  refine z_bipush (pc := 43) (v := 16) dJ6_bitCount_0f7a4_43 (by decide) ?_
  refine z_iushr (pc := 45) dJ6_bitCount_0f7a4_45 rfl ?_
  refine z_iadd (pc := 46) dJ6_bitCount_0f7a4_46 ?_
  refine z_istore_n (pc := 47) dJ6_bitCount_0f7a4_47 rfl (by decide) ?_
  refine z_iload_n (pc := 48) dJ6_bitCount_0f7a4_48 rfl ?_
  refine z_bipush (pc := 49) (v := 63) dJ6_bitCount_0f7a4_49 (by decide) ?_
  refine z_iand (pc := 51) dJ6_bitCount_0f7a4_51 ?_
  refine z_iret (pc := 52) rfl dJ6_bitCount_0f7a4_52 ?_ ?_
  · rw [hxn]; exact bcE_pc n hn
  · rfl
set_option maxRecDepth 100000 in
set_option maxHeartbeats 4000000 in
theorem c_J9_max_7cf53 {M : z_Mem} {x y : Int32} : z_Ct mJ9_max_7cf53 [.int x, .int y] M (some (.int (if x < y then y else x))) M := by
  refine z_entry (by decide +kernel) (Nat.le_of_ble_eq_true rfl) rfl ?_
  show z_Sm mJ9_max_7cf53 _ _ 0 [some (.int x), some (.int y)] [] M
  refine z_iload_n (pc := 0) dJ9_max_7cf53_0 rfl ?_
  refine z_iload_n (pc := 1) dJ9_max_7cf53_1 rfl ?_
  refine z_icmp_lt (pc := 2) (tgt := 9) dJ9_max_7cf53_2 (by decide) (fun h2 => ?_) (fun h2 => ?_)
  · refine z_iload_n (pc := 9) dJ9_max_7cf53_9 rfl ?_
    refine z_iret (pc := 10) rfl dJ9_max_7cf53_10 ?_ ?_
    · rw [if_pos h2]
    · rfl
  · refine z_iload_n (pc := 5) dJ9_max_7cf53_5 rfl ?_
    refine z_goto (pc := 6) (tgt := 10) dJ9_max_7cf53_6 (by decide) ?_
    refine z_iret (pc := 10) rfl dJ9_max_7cf53_10 ?_ ?_
    · rw [if_neg h2]
    · rfl
set_option maxRecDepth 100000 in
set_option maxHeartbeats 4000000 in
theorem c_J9_min_7cf53 {M : z_Mem} {x y : Int32} : z_Ct mJ9_min_7cf53 [.int x, .int y] M (some (.int (if y < x then y else x))) M := by
  refine z_entry (by decide +kernel) (Nat.le_of_ble_eq_true rfl) rfl ?_
  show z_Sm mJ9_min_7cf53 _ _ 0 [some (.int x), some (.int y)] [] M
  refine z_iload_n (pc := 0) dJ9_min_7cf53_0 rfl ?_
  refine z_iload_n (pc := 1) dJ9_min_7cf53_1 rfl ?_
  refine z_icmp_gt (pc := 2) (tgt := 9) dJ9_min_7cf53_2 (by decide) (fun h2 => ?_) (fun h2 => ?_)
  · refine z_iload_n (pc := 9) dJ9_min_7cf53_9 rfl ?_
    refine z_iret (pc := 10) rfl dJ9_min_7cf53_10 ?_ ?_
    · rw [if_pos h2]
    · rfl
  · refine z_iload_n (pc := 5) dJ9_min_7cf53_5 rfl ?_
    refine z_goto (pc := 6) (tgt := 10) dJ9_min_7cf53_6 (by decide) ?_
    refine z_iret (pc := 10) rfl dJ9_min_7cf53_10 ?_ ?_
    · rw [if_neg h2]
    · rfl
set_option maxRecDepth 100000 in
set_option maxHeartbeats 4000000 in
theorem c_J9_floorMod_7cf53 {M : z_Mem} {x y : Int32} {i n : Nat} (hx : x = nI i) (hy : y = nI n) (hi : i < 2 ^ 30) (hn : 0 < n) (hn2 : n < 2 ^ 30) : z_Ct mJ9_floorMod_7cf53 [.int x, .int y] M (some (.int (nI (i % n)))) M := by
  have hm : nI i - nI i / nI n * nI n = nI (i % n) := pk_rem (by omega) hn (by omega)
  have hml : i % n < n := Nat.mod_lt _ hn
  refine z_entry (by decide +kernel) (Nat.le_of_ble_eq_true rfl) rfl ?_
  show z_Sm mJ9_floorMod_7cf53 _ _ 0 [some (.int x), some (.int y), none] [] M
  refine z_iload_n (pc := 0) dJ9_floorMod_7cf53_0 rfl ?_
  refine z_iload_n (pc := 1) dJ9_floorMod_7cf53_1 rfl ?_
  refine z_irem (pc := 2) dJ9_floorMod_7cf53_2 (by rw [hy]; exact nI_ne0 hn (by omega)) ?_
  refine z_istore_n (pc := 3) dJ9_floorMod_7cf53_3 rfl (by decide) ?_
  refine z_iload_n (pc := 4) dJ9_floorMod_7cf53_4 rfl ?_
  refine z_iload_n (pc := 5) dJ9_floorMod_7cf53_5 rfl ?_
  refine z_ixor (pc := 6) dJ9_floorMod_7cf53_6 ?_
  refine z_if_ge (pc := 7) (tgt := 18) dJ9_floorMod_7cf53_7 (by decide) (fun h7 => ?_) (fun h7 => ?_)
  · refine z_iload_n (pc := 18) dJ9_floorMod_7cf53_18 rfl ?_
    refine z_iret (pc := 19) rfl dJ9_floorMod_7cf53_19 ?_ ?_
    · rw [hx, hy]; exact hm
    · rfl
  · refine z_iload_n (pc := 10) dJ9_floorMod_7cf53_10 rfl ?_
    refine z_if_eq (pc := 11) (tgt := 18) dJ9_floorMod_7cf53_11 (by decide) (fun h11 => ?_) (fun h11 => ?_)
    · refine z_iload_n (pc := 18) dJ9_floorMod_7cf53_18 rfl ?_
      refine z_iret (pc := 19) rfl dJ9_floorMod_7cf53_19 ?_ ?_
      · rw [hx, hy]; exact hm
      · rfl
    · refine z_iload_n (pc := 14) dJ9_floorMod_7cf53_14 rfl ?_
      refine z_iload_n (pc := 15) dJ9_floorMod_7cf53_15 rfl ?_
      refine z_iadd (pc := 16) dJ9_floorMod_7cf53_16 ?_
      refine z_iret (pc := 17) rfl dJ9_floorMod_7cf53_17 ?_ ?_
      · exfalso
        refine h7 ?_
        rw [hx, hy]
        have e : nI i ^^^ nI n = nI (i ^^^ n) := nx_xorN i n
        rw [e]
        exact nI_pos' (Nat.lt_trans (Nat.xor_lt_two_pow (n := 30) (by omega) (by omega)) (by decide))
      · rfl
/-! ===== the town's reads ===== -/
/-- the town as it lies in the class's cells: pins, their ends -/
def TW (M : z_Mem) (P : Nat) (a b : Nat → Nat) : Prop := M.1 3 0 = nI P ∧ P ≤ 7 ∧ ∀ k, k < P → M.1 4 k = nI (a k) ∧ M.1 5 k = nI (b k) ∧ a k < 6 ∧ b k < 6
def hlF (s w kd : Int32) : Int32 := if kd = 1 then s + 3 else if kd = 2 then (if 0 < s - w then s - w else 0) else s
set_option maxRecDepth 100000 in
set_option maxHeartbeats 4000000 in
theorem c_X4_allPins {M : z_Mem} {P : Nat} (hP : M.1 3 0 = nI P) : z_Ct mX4_allPins [.ref 3] M (some (.int (em P - 1))) M := by
  refine z_entry (by decide +kernel) (Nat.le_of_ble_eq_true rfl) rfl ?_
  show z_Sm mX4_allPins _ _ 0 [some (.ref 3)] [] M
  refine z_iconst (pc := 0) (v := 1) dX4_allPins_0 (by decide) ?_
  refine z_aload_n (pc := 1) dX4_allPins_1 rfl ?_
  refine z_getI (pc := 2) q_fX4_9 z_s3 rfl dX4_allPins_2 ?_
  refine z_ishl (pc := 5) dX4_allPins_5 ?_
  refine z_iconst (pc := 6) (v := 1) dX4_allPins_6 (by decide) ?_
  refine z_isub (pc := 7) dX4_allPins_7 ?_
  refine z_iret (pc := 8) rfl dX4_allPins_8 ?_ ?_
  · rw [hP]; rfl
  · rfl
set_option maxRecDepth 100000 in
set_option maxHeartbeats 4000000 in
theorem c_X4_endsOf {M : z_Mem} {P : Nat} {a b : Nat → Nat} (hT : TW M P a b) {x : Int32} {j : Nat} (hx : x = nI j) (hj : j < P) : z_Ct mX4_endsOf [.ref 3, .int x] M (some (.int (em (a j) ||| em (b j)))) M := by
  obtain ⟨hP, hP7, hab⟩ := hT
  obtain ⟨ha, hb, -, -⟩ := hab j hj
  refine z_entry (by decide +kernel) (Nat.le_of_ble_eq_true rfl) rfl ?_
  show z_Sm mX4_endsOf _ _ 0 [some (.ref 3), some (.int x)] [] M
  refine z_iconst (pc := 0) (v := 1) dX4_endsOf_0 (by decide) ?_
  refine z_aload_n (pc := 1) dX4_endsOf_1 rfl ?_
  refine z_getR (pc := 2) 4 q_fX4_15 z_s3 rfl dX4_endsOf_2 ?_
  refine z_iload_n (pc := 5) dX4_endsOf_5 rfl ?_
  refine z_iald (pc := 6) (j) z_s4 ⟨hx, by omega, by decide⟩ dX4_endsOf_6 ?_
  refine z_ishl (pc := 7) dX4_endsOf_7 ?_
  refine z_iconst (pc := 8) (v := 1) dX4_endsOf_8 (by decide) ?_
  refine z_aload_n (pc := 9) dX4_endsOf_9 rfl ?_
  refine z_getR (pc := 10) 5 q_fX4_19 z_s3 rfl dX4_endsOf_10 ?_
  refine z_iload_n (pc := 13) dX4_endsOf_13 rfl ?_
  refine z_iald (pc := 14) (j) z_s5 ⟨hx, by omega, by decide⟩ dX4_endsOf_14 ?_
  refine z_ishl (pc := 15) dX4_endsOf_15 ?_
  refine z_ior (pc := 16) dX4_endsOf_16 ?_
  refine z_iret (pc := 17) rfl dX4_endsOf_17 ?_ ?_
  · rw [ha, hb]; rfl
  · rfl
set_option maxRecDepth 100000 in
set_option maxHeartbeats 4000000 in
theorem c_X4_holds {M : z_Mem} {x w : Int32} {j : Nat} (hx : x = nI j) (hj : j < 7) : z_Ct mX4_holds [.ref 3, .int x, .int w] M (some (.int (hlF (M.1 6 j) w (M.1 7 j)))) M := by
  refine z_entry (by decide +kernel) (Nat.le_of_ble_eq_true rfl) rfl ?_
  show z_Sm mX4_holds _ _ 0 [some (.ref 3), some (.int x), some (.int w)] [] M
  refine z_aload_n (pc := 0) dX4_holds_0 rfl ?_
  refine z_getR (pc := 1) 7 q_fX4_25 z_s3 rfl dX4_holds_1 ?_
  refine z_iload_n (pc := 4) dX4_holds_4 rfl ?_
  refine z_iald (pc := 5) (j) z_s7 ⟨hx, hj, by decide⟩ dX4_holds_5 ?_
  refine z_iconst (pc := 6) (v := 1) dX4_holds_6 (by decide) ?_
  refine z_icmp_ne (pc := 7) (tgt := 19) dX4_holds_7 (by decide) (fun h7 => ?_) (fun h7 => ?_)
  · refine z_aload_n (pc := 19) dX4_holds_19 rfl ?_
    refine z_getR (pc := 20) 7 q_fX4_25 z_s3 rfl dX4_holds_20 ?_
    refine z_iload_n (pc := 23) dX4_holds_23 rfl ?_
    refine z_iald (pc := 24) (j) z_s7 ⟨hx, hj, by decide⟩ dX4_holds_24 ?_
    refine z_iconst (pc := 25) (v := 2) dX4_holds_25 (by decide) ?_
    refine z_icmp_ne (pc := 26) (tgt := 44) dX4_holds_26 (by decide) (fun h26 => ?_) (fun h26 => ?_)
    · refine z_aload_n (pc := 44) dX4_holds_44 rfl ?_
      refine z_getR (pc := 45) 6 q_fX4_22 z_s3 rfl dX4_holds_45 ?_
      refine z_iload_n (pc := 48) dX4_holds_48 rfl ?_
      refine z_iald (pc := 49) (j) z_s6 ⟨hx, hj, by decide⟩ dX4_holds_49 ?_
      refine z_iret (pc := 50) rfl dX4_holds_50 ?_ ?_
      · unfold hlF; rw [if_neg h7, if_neg h26]
      · rfl
    · refine z_iconst (pc := 29) (v := 0) dX4_holds_29 (by decide) ?_
      refine z_aload_n (pc := 30) dX4_holds_30 rfl ?_
      refine z_getR (pc := 31) 6 q_fX4_22 z_s3 rfl dX4_holds_31 ?_
      refine z_iload_n (pc := 34) dX4_holds_34 rfl ?_
      refine z_iald (pc := 35) (j) z_s6 ⟨hx, hj, by decide⟩ dX4_holds_35 ?_
      refine z_iload_n (pc := 36) dX4_holds_36 rfl ?_
      refine z_isub (pc := 37) dX4_holds_37 ?_
      refine z_cS2 (pc := 38) c_J9_max_7cf53 (q_cX4_62 _ (by decide)) rfl dX4_holds_38 ?_
      refine z_goto (pc := 41) (tgt := 50) dX4_holds_41 (by decide) ?_
      refine z_iret (pc := 50) rfl dX4_holds_50 ?_ ?_
      · unfold hlF; rw [if_neg h7, if_pos h26]
      · rfl
  · refine z_aload_n (pc := 10) dX4_holds_10 rfl ?_
    refine z_getR (pc := 11) 6 q_fX4_22 z_s3 rfl dX4_holds_11 ?_
    refine z_iload_n (pc := 14) dX4_holds_14 rfl ?_
    refine z_iald (pc := 15) (j) z_s6 ⟨hx, hj, by decide⟩ dX4_holds_15 ?_
    refine z_iconst (pc := 16) (v := 3) dX4_holds_16 (by decide) ?_
    refine z_iadd (pc := 17) dX4_holds_17 ?_
    refine z_iret (pc := 18) rfl dX4_holds_18 ?_ ?_
    · unfold hlF; rw [if_pos h7]
    · rfl
/-! ===== what is together ===== -/
def rIn (o : Int32) (a b : Nat → Nat) : Nat → Int32 → Int32
  | 0, x => x
  | n + 1, x => if bt o n = false ∧ (bt (rIn o a b n x) (a n) = true ∨ bt (rIn o a b n x) (b n) = true) then rIn o a b n x ||| (em (a n) ||| em (b n)) else rIn o a b n x
def rOut (o : Int32) (a b : Nat → Nat) (P : Nat) : Nat → Int32 → Int32
  | 0, x => x
  | n + 1, x => rIn o a b P (rOut o a b P n x)
def tog (o : Int32) (a b : Nat → Nat) (P t u : Nat) : Bool := bt (rOut o a b P 5 (em t)) u
theorem rIn_no {o : Int32} {a b : Nat → Nat} {n : Nat} {x : Int32} (h : bt o n = true ∨ (bt (rIn o a b n x) (a n) = false ∧ bt (rIn o a b n x) (b n) = false)) : rIn o a b (n + 1) x = rIn o a b n x := by
  rw [rIn, if_neg]
  rintro ⟨h1, h2⟩
  rcases h with h | ⟨h3, h4⟩
  · rw [h] at h1; cases h1
  · rw [h3, h4] at h2
    rcases h2 with h2 | h2 <;> cases h2
theorem rIn_yes {o : Int32} {a b : Nat → Nat} {n : Nat} {x : Int32} (h : bt o n = false) (h2 : bt (rIn o a b n x) (a n) = true ∨ bt (rIn o a b n x) (b n) = true) : rIn o a b (n + 1) x = rIn o a b n x ||| (em (a n) ||| em (b n)) := by rw [rIn, if_pos ⟨h, h2⟩]
theorem z_b2 (y : Int32) {i j : Nat} (hi : i < 32) (hj : j < 32) : (y &&& (em i ||| em j)) = 0 ↔ bt y i = false ∧ bt y j = false := by
  constructor
  · intro h
    constructor
    · have := congrArg (fun x => bt x i) h
      simp only [b_and, b_or, em_bt hi hi, b_0] at this
      simpa using this
    · have := congrArg (fun x => bt x j) h
      simp only [b_and, b_or, em_bt hj hj, b_0] at this
      simpa using this
  · rintro ⟨h1, h2⟩
    refine b_ext (fun k hk => ?_)
    rw [b_and, b_or, em_bt hi hk, em_bt hj hk, b_0]
    by_cases e1 : k = i
    · subst e1; simp [h1]
    · by_cases e2 : k = j
      · subst e2; simp [h2]
      · simp [e1, e2]
theorem z_nb {b : Bool} (h : ¬ b = false) : b = true := by cases b <;> simp_all
set_option maxRecDepth 100000 in
set_option maxHeartbeats 4000000 in
theorem s_X4_reach_17 {M M2 : z_Mem} {r : Option Value} {P : Nat} {a b : Nat → Nat} (hT : TW M P a b) {x1 o x0 rd : Int32} (kk : z_Sm mX4_reach r M2 61 [some (.ref 3), some (.int x1), some (.int o), some (.int (rIn o a b P x0)), some (.int rd), none] [] M) (j : Nat) (hj : j ≤ P) (xj ij : Int32) (h1 : xj = rIn o a b j x0) (h2 : ij = nI j) : z_Sm mX4_reach r M2 17 [some (.ref 3), some (.int x1), some (.int o), some (.int xj), some (.int rd), some (.int ij)] [] M := by
  have hP := hT.1
  have hP7 := hT.2.1
  refine z_iload (pc := 17) dX4_reach_17 rfl ?_
  refine z_aload_n (pc := 19) dX4_reach_19 rfl ?_
  refine z_getI (pc := 20) q_fX4_9 z_s3 rfl dX4_reach_20 ?_
  refine z_icmp_ge (pc := 23) (tgt := 61) dX4_reach_23 (by decide) (fun h23 => ?_) (fun h23 => ?_)
  · have hPj : P ≤ j := z_ge h23 h2 hP (by omega) (by omega)
    have e : j = P := by omega
    subst e
    subst h1
    exact z_drop 5 kk
  · have hlt : j < P := z_lt h23 h2 hP (by omega) (by omega)
    obtain ⟨hA, hB, ha6, hb6⟩ := hT.2.2 j hlt
    refine z_iload_n (pc := 26) dX4_reach_26 rfl ?_
    refine z_iconst (pc := 27) (v := 1) dX4_reach_27 (by decide) ?_
    refine z_iload (pc := 28) dX4_reach_28 rfl ?_
    refine z_ishl (pc := 30) dX4_reach_30 ?_
    refine z_iand (pc := 31) dX4_reach_31 ?_
    refine z_if_ne (pc := 32) (tgt := 55) dX4_reach_32 (by decide) (fun h32 => ?_) (fun h32 => ?_)
    · refine z_iinc (pc := 55) dX4_reach_55 rfl rfl rfl (by decide) ?_
      refine z_goto (pc := 58) (tgt := 17) dX4_reach_58 (by decide) ?_
      rw [h2] at h32
      exact s_X4_reach_17 hT kk (j + 1) hlt _ _ (by rw [h1, rIn_no (Or.inl (z_nb (fun q => h32 ((z_b0 o (by omega)).mpr q))))]) (z_n1 h2)
    · refine z_iload_n (pc := 35) dX4_reach_35 rfl ?_
      refine z_aload_n (pc := 36) dX4_reach_36 rfl ?_
      refine z_iload (pc := 37) dX4_reach_37 rfl ?_
      refine z_cV1 (pc := 39) (c_X4_endsOf hT h2 hlt) (q_cX4_68 _ (by decide)) z_s3 rfl rfl dX4_reach_39 ?_
      refine z_iand (pc := 42) dX4_reach_42 ?_
      refine z_if_eq (pc := 43) (tgt := 55) dX4_reach_43 (by decide) (fun h43 => ?_) (fun h43 => ?_)
      · refine z_iinc (pc := 55) dX4_reach_55 rfl rfl rfl (by decide) ?_
        refine z_goto (pc := 58) (tgt := 17) dX4_reach_58 (by decide) ?_
        rw [h1] at h43
        exact s_X4_reach_17 hT kk (j + 1) hlt _ _ (by rw [h1, rIn_no (Or.inr ((z_b2 _ (by omega) (by omega)).mp h43))]) (z_n1 h2)
      · refine z_iload_n (pc := 46) dX4_reach_46 rfl ?_
        refine z_aload_n (pc := 47) dX4_reach_47 rfl ?_
        refine z_iload (pc := 48) dX4_reach_48 rfl ?_
        refine z_cV1 (pc := 50) (c_X4_endsOf hT h2 hlt) (q_cX4_68 _ (by decide)) z_s3 rfl rfl dX4_reach_50 ?_
        refine z_ior (pc := 53) dX4_reach_53 ?_
        refine z_istore_n (pc := 54) dX4_reach_54 rfl (by decide) ?_
        refine z_iinc (pc := 55) dX4_reach_55 rfl rfl rfl (by decide) ?_
        refine z_goto (pc := 58) (tgt := 17) dX4_reach_58 (by decide) ?_
        rw [h1] at h43
        rw [h2] at h32
        refine s_X4_reach_17 hT kk (j + 1) hlt _ _ ?_ (z_n1 h2)
        rw [h1, rIn_yes ((z_b0 o (by omega)).mp h32)]
        rw [z_b2 _ (by omega) (by omega)] at h43
        cases q1 : bt (rIn o a b j x0) (a j)
        · right
          cases q2 : bt (rIn o a b j x0) (b j)
          · exact absurd ⟨q1, q2⟩ h43
          · rfl
        · left; rfl
termination_by P - j
decreasing_by all_goals omega
set_option maxRecDepth 100000 in
set_option maxHeartbeats 4000000 in
theorem s_X4_reach_7 {M M2 : z_Mem} {r : Option Value} {P : Nat} {a b : Nat → Nat} (hT : TW M P a b) {x1 o x0 : Int32} (kk : z_Sm mX4_reach r M2 67 [some (.ref 3), some (.int x1), some (.int o), some (.int (rOut o a b P 5 x0)), none, none] [] M) (j : Nat) (hj : j ≤ 5) (xj ij : Int32) (h1 : xj = rOut o a b P j x0) (h2 : ij = nI (j + 1)) : z_Sm mX4_reach r M2 7 [some (.ref 3), some (.int x1), some (.int o), some (.int xj), some (.int ij), none] [] M := by
  refine z_iload (pc := 7) dX4_reach_7 rfl ?_
  refine z_bipush (pc := 9) (v := 6) dX4_reach_9 (by decide) ?_
  refine z_icmp_ge (pc := 11) (tgt := 67) dX4_reach_11 (by decide) (fun h11 => ?_) (fun h11 => ?_)
  · have hPj : 6 ≤ j + 1 := z_ge h11 h2 (show (6 : Int32) = nI 6 from rfl) (by omega) (by omega)
    have e : j = 5 := by omega
    subst e
    subst h1
    exact z_drop 4 kk
  · refine z_iconst (pc := 14) (v := 0) dX4_reach_14 (by decide) ?_
    refine z_istore (pc := 15) dX4_reach_15 rfl (by decide) ?_
    have hlt : j + 1 < 6 := z_lt h11 h2 (show (6 : Int32) = nI 6 from rfl) (by omega) (by omega)
    refine s_X4_reach_17 hT (x0 := xj) ?_ 0 (Nat.zero_le P) xj 0 rfl rfl
    refine z_iinc (pc := 61) dX4_reach_61 rfl rfl rfl (by decide) ?_
    refine z_goto (pc := 64) (tgt := 7) dX4_reach_64 (by decide) ?_
    exact s_X4_reach_7 hT kk (j + 1) (by omega) _ _ (by rw [h1, rOut]) (z_n1 h2)
termination_by 5 - j
decreasing_by all_goals omega
set_option maxRecDepth 100000 in
set_option maxHeartbeats 4000000 in
theorem c_X4_reach {M : z_Mem} {P : Nat} {a b : Nat → Nat} (hT : TW M P a b) {x o : Int32} {t : Nat} (hx : x = nI t) : z_Ct mX4_reach [.ref 3, .int x, .int o] M (some (.int (rOut o a b P 5 (em t)))) M := by
  refine z_entry (by decide +kernel) (Nat.le_of_ble_eq_true rfl) rfl ?_
  show z_Sm mX4_reach _ _ 0 [some (.ref 3), some (.int x), some (.int o), none, none, none] [] M
  refine z_iconst (pc := 0) (v := 1) dX4_reach_0 (by decide) ?_
  refine z_iload_n (pc := 1) dX4_reach_1 rfl ?_
  refine z_ishl (pc := 2) dX4_reach_2 ?_
  refine z_istore_n (pc := 3) dX4_reach_3 rfl (by decide) ?_
  refine z_iconst (pc := 4) (v := 1) dX4_reach_4 (by decide) ?_
  refine z_istore (pc := 5) dX4_reach_5 rfl (by decide) ?_
  refine s_X4_reach_7 hT ?_ 0 (by omega) _ _ rfl rfl
  refine z_iload_n (pc := 67) dX4_reach_67 rfl ?_
  refine z_iret (pc := 68) rfl dX4_reach_68 ?_ ?_
  · rw [hx]; rfl
  · rfl
set_option maxRecDepth 100000 in
set_option maxHeartbeats 4000000 in
theorem c_X4_areTogether {M : z_Mem} {P : Nat} {a b : Nat → Nat} (hT : TW M P a b) {x y o : Int32} {t u : Nat} (hx : x = nI t) (hy : y = nI u) (hu : u < 6) : z_Ct mX4_areTogether [.ref 3, .int x, .int y, .int o] M (some (.int (if tog o a b P t u then 1 else 0))) M := by
  refine z_entry (by decide +kernel) (Nat.le_of_ble_eq_true rfl) rfl ?_
  show z_Sm mX4_areTogether _ _ 0 [some (.ref 3), some (.int x), some (.int y), some (.int o)] [] M
  refine z_aload_n (pc := 0) dX4_areTogether_0 rfl ?_
  refine z_iload_n (pc := 1) dX4_areTogether_1 rfl ?_
  refine z_iload_n (pc := 2) dX4_areTogether_2 rfl ?_
  refine z_cV2 (pc := 3) (c_X4_reach hT hx) (q_cX4_71 _ (by decide)) z_s3 rfl rfl dX4_areTogether_3 ?_
  refine z_iconst (pc := 6) (v := 1) dX4_areTogether_6 (by decide) ?_
  refine z_iload_n (pc := 7) dX4_areTogether_7 rfl ?_
  refine z_ishl (pc := 8) dX4_areTogether_8 ?_
  refine z_iand (pc := 9) dX4_areTogether_9 ?_
  refine z_if_eq (pc := 10) (tgt := 17) dX4_areTogether_10 (by decide) (fun h10 => ?_) (fun h10 => ?_)
  · refine z_iconst (pc := 17) (v := 0) dX4_areTogether_17 (by decide) ?_
    refine z_zret (pc := 18) rfl dX4_areTogether_18 ?_ ?_ ?_
    · rfl
    · rw [hy] at h10
      have q := (z_b0 _ (by omega)).mp h10
      rw [tog, q]; rfl
    · rfl
  · refine z_iconst (pc := 13) (v := 1) dX4_areTogether_13 (by decide) ?_
    refine z_goto (pc := 14) (tgt := 18) dX4_areTogether_14 (by decide) ?_
    refine z_zret (pc := 18) rfl dX4_areTogether_18 ?_ ?_ ?_
    · rfl
    · rw [hy] at h10
      have q := z_nb (fun q => h10 ((z_b0 (rOut o a b P 5 (em t)) (k := u) (by omega)).mpr q))
      rw [tog, q]; rfl
    · rfl
