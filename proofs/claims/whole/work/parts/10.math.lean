/-! ===== Int32 by its bits: bt x i ===== -/
def bt (x : Int32) (i : Nat) : Bool := x.toBitVec.getLsbD i
theorem b_ext {x y : Int32} (h : ∀ i, i < 32 → bt x i = bt y i) : x = y := Int32.toBitVec_inj.mp (BitVec.eq_of_getLsbD_eq (fun i hi => h i hi))
theorem b_or (x y : Int32) (i : Nat) : bt (x ||| y) i = (bt x i || bt y i) := by unfold bt; rw [Int32.toBitVec_or, BitVec.getLsbD_or]
theorem b_and (x y : Int32) (i : Nat) : bt (x &&& y) i = (bt x i && bt y i) := by unfold bt; rw [Int32.toBitVec_and, BitVec.getLsbD_and]
theorem b_xor (x y : Int32) (i : Nat) : bt (x ^^^ y) i = (bt x i ^^ bt y i) := by unfold bt; rw [Int32.toBitVec_xor, BitVec.getLsbD_xor]
theorem b_big {x : Int32} {i : Nat} (h : 32 ≤ i) : bt x i = false := BitVec.getLsbD_of_ge _ _ h
theorem b_255 (i : Nat) : bt 255 i = decide (i < 8) := by
  rcases Nat.lt_or_ge i 32 with h | h
  · exact (by decide +kernel : ∀ i, i < 32 → bt 255 i = decide (i < 8)) i h
  · rw [b_big h, decide_eq_false (by omega)]
theorem b_65535 (i : Nat) : bt 65535 i = decide (i < 16) := by
  rcases Nat.lt_or_ge i 32 with h | h
  · exact (by decide +kernel : ∀ i, i < 32 → bt 65535 i = decide (i < 16)) i h
  · rw [b_big h, decide_eq_false (by omega)]
theorem b_m1 : ∀ i, i < 32 → bt (-1) i = true := by decide +kernel
theorem b_0 (i : Nat) : bt 0 i = false := BitVec.getLsbD_zero
theorem s_l : ∀ n, n < 32 → ((nI n &&& 31).toBitVec.smod 32).toNat = n := by decide +kernel
theorem s_u : ∀ n, n < 32 → (((nI n).toUInt32 &&& Int32.toUInt32 31).toBitVec % 32).toNat = n := by decide +kernel
theorem b_shl (n : Nat) (hn : n < 32) (x : Int32) {i : Nat} (hi : i < 32) : bt (x <<< (nI n &&& 31)) i = (decide (n ≤ i) && bt x (i - n)) := by
  unfold bt
  rw [Int32.toBitVec_shiftLeft]
  show (x.toBitVec <<< ((nI n &&& 31).toBitVec.smod 32).toNat).getLsbD i = _
  rw [s_l n hn, BitVec.getLsbD_shiftLeft]
  rcases Nat.lt_or_ge i n with h | h
  · simp [h, Nat.not_le.mpr h]
  · simp [hi, h, Nat.not_lt.mpr h]
theorem b_ushr (n : Nat) (hn : n < 32) (x : Int32) (i : Nat) : bt ((x.toUInt32 >>> ((nI n).toUInt32 &&& Int32.toUInt32 31)).toInt32) i = bt x (n + i) := by
  show (x.toUInt32 >>> ((nI n).toUInt32 &&& Int32.toUInt32 31)).toBitVec.getLsbD i = x.toUInt32.toBitVec.getLsbD (n + i)
  rw [UInt32.toBitVec_shiftRight]
  show (x.toUInt32.toBitVec >>> (((nI n).toUInt32 &&& Int32.toUInt32 31).toBitVec % 32).toNat).getLsbD i = _
  rw [s_u n hn, BitVec.getLsbD_ushiftRight]
theorem b_sshr (n : Nat) (hn : n < 32) (x : Int32) {i : Nat} (hi : i < 32) : bt (x >>> (nI n &&& 31)) i = if n + i < 32 then bt x (n + i) else bt x 31 := by
  unfold bt
  rw [Int32.toBitVec_shiftRight]
  show (x.toBitVec.sshiftRight ((nI n &&& 31).toBitVec.smod 32).toNat).getLsbD i = _
  rw [s_l n hn, BitVec.getLsbD_sshiftRight, BitVec.msb_eq_getLsbD_last]
  simp [hi]
theorem b_shl8 (x : Int32) {i : Nat} (hi : i < 32) : bt (x <<< ((8 : Int32) &&& 31)) i = (decide (8 ≤ i) && bt x (i - 8)) := b_shl 8 (by omega) x hi
theorem b_shl16 (x : Int32) {i : Nat} (hi : i < 32) : bt (x <<< ((16 : Int32) &&& 31)) i = (decide (16 ≤ i) && bt x (i - 16)) := b_shl 16 (by omega) x hi
theorem b_shl24 (x : Int32) {i : Nat} (hi : i < 32) : bt (x <<< ((24 : Int32) &&& 31)) i = (decide (24 ≤ i) && bt x (i - 24)) := b_shl 24 (by omega) x hi
theorem b_sshr8 (x : Int32) {i : Nat} (hi : i < 32) : bt (x >>> ((8 : Int32) &&& 31)) i = if 8 + i < 32 then bt x (8 + i) else bt x 31 := b_sshr 8 (by omega) x hi
/-! ===== sets of bits in an int ===== -/
def em (t : Nat) : Int32 := (1 : Int32) <<< (nI t &&& 31)
theorem em_bt {t : Nat} (ht : t < 32) {j : Nat} (hj : j < 32) : bt (em t) j = decide (j = t) := by
  have h1 : ∀ i, i < 32 → bt 1 i = decide (i = 0) := by decide +kernel
  rw [em, b_shl t ht 1 hj]
  by_cases h : t ≤ j
  · rw [h1 (j - t) (by omega)]
    by_cases e : j = t
    · subst e; simp
    · simp [h, e, show ¬ j - t = 0 by omega]
  · simp [h, show ¬ j = t by omega]
theorem z_b0 (o : Int32) {k : Nat} (hk : k < 32) : (o &&& em k) = 0 ↔ bt o k = false := by
  constructor
  · intro h
    have := congrArg (fun x => bt x k) h
    simp only [b_and, em_bt hk hk, b_0] at this
    simpa using this
  · intro h
    refine b_ext (fun i hi => ?_)
    rw [b_and, em_bt hk hi, b_0]
    by_cases e : i = k
    · subst e; rw [h]; rfl
    · simp [e]
theorem z_b01 (o : Int32) {k : Nat} (hk : k < 32) : (o &&& em k) = if bt o k then em k else 0 := by
  refine b_ext (fun i hi => ?_)
  rw [b_and, em_bt hk hi]
  by_cases e : i = k
  · subst e
    cases h : bt o i <;> simp [b_0, em_bt hk hi]
  · cases h : bt o k <;> simp [b_0, em_bt hk hi, e]
theorem z_has (o : Int32) {k : Nat} (hk : k < 32) : ((o >>> (nI k &&& 31)) &&& 1) = if bt o k then 1 else 0 := by
  have h1 : ∀ i, i < 32 → bt 1 i = decide (i = 0) := by decide +kernel
  refine b_ext (fun i hi => ?_)
  rw [b_and, b_sshr k hk o hi, h1 i hi]
  by_cases e : i = 0
  · subst e
    rw [if_pos (by omega), Nat.add_zero]
    cases h : bt o k <;> simp [b_0, h1 0 (by omega)]
  · cases h : bt o k <;> simp [b_0, h1 i hi, e]
theorem z_not (x : Int32) {k : Nat} (hk : k < 32) : bt (x ^^^ (-1)) k = !bt x k := by rw [b_xor, b_m1 k hk]; cases bt x k <;> rfl
theorem z_orN (a b : Nat) : nI a ||| nI b = nI (a ||| b) := by
  apply Int32.toBitVec_inj.1
  show BitVec.ofNat 32 a ||| BitVec.ofNat 32 b = BitVec.ofNat 32 (a ||| b)
  apply BitVec.eq_of_getLsbD_eq
  intro i hi
  simp [hi]
theorem z_andN (a b : Nat) : nI a &&& nI b = nI (a &&& b) := by
  apply Int32.toBitVec_inj.1
  show BitVec.ofNat 32 a &&& BitVec.ofNat 32 b = BitVec.ofNat 32 (a &&& b)
  apply BitVec.eq_of_getLsbD_eq
  intro i hi
  simp [hi]
theorem nx_xorN (a b : Nat) : nI a ^^^ nI b = nI (a ^^^ b) := by
  apply Int32.toBitVec_inj.1
  show BitVec.ofNat 32 a ^^^ BitVec.ofNat 32 b = BitVec.ofNat 32 (a ^^^ b)
  apply BitVec.eq_of_getLsbD_eq
  intro i hi
  simp [hi]
theorem bt_nI (n : Nat) {k : Nat} (hk : k < 32) : bt (nI n) k = n.testBit k := by
  show (BitVec.ofNat 32 n).getLsbD k = _
  rw [BitVec.getLsbD_ofNat]
  simp [hk]
/-- nothing from bit 7 on -/
def sm7 (x : Int32) : Prop := ∀ k, 7 ≤ k → k < 32 → bt x k = false
theorem sm7_nat {x : Int32} (h : sm7 x) : ∃ n, n < 128 ∧ x = nI n := by
  refine ⟨x.toBitVec.toNat % 128, Nat.mod_lt _ (by decide), b_ext (fun i hi => ?_)⟩
  rw [bt_nI _ hi]
  show x.toBitVec.getLsbD i = (x.toBitVec.toNat % 2 ^ 7).testBit i
  rw [Nat.testBit_mod_two_pow]
  by_cases h7 : i < 7
  · simp [h7, BitVec.getLsbD]
  · rw [show x.toBitVec.getLsbD i = bt x i from rfl, h i (by omega) hi]
    simp [h7]
theorem sm7_of {n : Nat} (h : n < 128) : sm7 (nI n) := by
  intro k h7 hk
  rw [bt_nI _ hk]
  exact Nat.testBit_lt_two_pow (Nat.lt_of_lt_of_le h (by have := Nat.pow_le_pow_right (n := 2) (by decide) h7; omega))
theorem sm7_0 : sm7 0 := fun k _ _ => b_0 k
theorem sm7_or {x y : Int32} (hx : sm7 x) (hy : sm7 y) : sm7 (x ||| y) := fun k h1 h2 => by rw [b_or, hx k h1 h2, hy k h1 h2]; rfl
theorem sm7_and {x y : Int32} (hx : sm7 x) : sm7 (x &&& y) := fun k h1 h2 => by rw [b_and, hx k h1 h2]; rfl
theorem sm7_em {k : Nat} (h : k < 7) : sm7 (em k) := fun j h1 h2 => by rw [em_bt (by omega) h2]; simp; omega
/-- how many of the first n bits are there -/
def pc : Nat → Int32 → Nat
  | 0, _ => 0
  | n + 1, x => pc n x + (bt x n).toNat
theorem pc_le (x : Int32) : ∀ n, pc n x ≤ n
  | 0 => Nat.le_refl 0
  | n + 1 => by
    have := pc_le x n
    show pc n x + (bt x n).toNat ≤ n + 1
    cases bt x n <;> simp <;> omega
