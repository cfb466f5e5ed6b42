theorem lgc0 (x y : Int64) : lg_cmp x y = 0 ↔ x = y := by
  unfold lg_cmp
  simp only [gt_iff_lt, Int64.lt_iff_toInt_lt, ← Int64.toInt_inj]
  repeat' split
  all_goals (constructor <;> intro hh <;> first | omega | decide | exact absurd hh (by decide))
set_option maxRecDepth 100000 in
set_option maxHeartbeats 400000 in
theorem c_J9_max_f86c9 {M : z_Mem} {a b : Nat} (ha : a < 2 ^ 63) (hb : b < 2 ^ 63) : z_Ct mJ9_max_f86c9 [.long (lN a), .long (lN b)] M (some (.long (lN (max a b)))) M := by
  refine z_entry (by decide +kernel) (Nat.le_of_ble_eq_true rfl) rfl ?_
  show z_Sm mJ9_max_f86c9 _ _ 0 [some (.long (lN a)), none, some (.long (lN b)), none] [] M
  refine z_lload_n (pc := 0) dJ9_max_f86c9_0 rfl ?_
  refine z_lload_n (pc := 1) dJ9_max_f86c9_1 rfl ?_
  refine z_lcmp (pc := 2) dJ9_max_f86c9_2 ?_
  refine z_if_lt (pc := 3) (tgt := 10) dJ9_max_f86c9_3 (by decide) (fun h3 => ?_) (fun h3 => ?_)
  · refine z_lload_n (pc := 10) dJ9_max_f86c9_10 rfl ?_
    refine z_lret (pc := 11) rfl dJ9_max_f86c9_11 ?_ ?_
    · rw [lg_cmp_lt, pk_lLT ha hb] at h3
      rw [Nat.max_def, if_pos (by omega)]
    · rfl
  · refine z_lload_n (pc := 6) dJ9_max_f86c9_6 rfl ?_
    refine z_goto (pc := 7) (tgt := 11) dJ9_max_f86c9_7 (by decide) ?_
    refine z_lret (pc := 11) rfl dJ9_max_f86c9_11 ?_ ?_
    · rw [lg_cmp_lt, pk_lLT ha hb] at h3
      rw [Nat.max_def]
      split
      · rw [show a = b by omega]
      · rfl
    · rfl
set_option maxRecDepth 100000 in
set_option maxHeartbeats 400000 in
theorem s_X6_commonDivisor_45 {M : z_Mem} {x y G : Int64} {ls : List (Option Value)} {g : Nat} (hG : G = lN g) (hg : g < 2 ^ 60) : z_Sm mX6_commonDivisor (some (.long (lN (max 1 g)))) M 45 (some (.long x) :: none :: some (.long y) :: none :: some (.long G) :: none :: ls) [] M := by
  subst hG
  refine z_lconst (pc := 45) (v := 1) dX6_commonDivisor_45 (by decide) ?_
  refine z_lload (pc := 46) dX6_commonDivisor_46 rfl ?_
  refine z_cS2 (pc := 48) (c_J9_max_f86c9 (a := 1) (b := g) (by decide) (by omega)) (q_cX6_272 _ (by decide)) rfl dX6_commonDivisor_48 ?_
  refine z_lret (pc := 51) rfl dX6_commonDivisor_51 ?_ ?_
  · rfl
  · rfl
set_option maxRecDepth 100000 in
set_option maxHeartbeats 400000 in
theorem s_X6_commonDivisor_9 {M : z_Mem} {x y : Int64} : ∀ (m g l st : Nat) (G K : Int64) (ij : Int32) (o : Option Value), G = lN g → K = lN l → ij = nI st → g < 2 ^ 60 → l < 2 ^ 60 → (if l ≤ g then g * l else 2 * (g * l) + 1) < 2 ^ m → st + m < 200 → z_Sm mX6_commonDivisor (some (.long (lN (max 1 (Nat.gcd g l))))) M 9 [some (.long x), none, some (.long y), none, some (.long G), none, some (.long K), none, some (.int ij), o, none] [] M := by
  intro m
  induction m with
  | zero =>
    intro g l st G K ij o hG hL hs hg hl hm hst
    have l0 : l = 0 := by
      split at hm
      · have e : g * l = 0 := by omega
        rcases Nat.mul_eq_zero.mp e with q | q <;> omega
      · omega
    subst l0
    rw [Nat.gcd_zero_right]
    refine z_iload (pc := 9) dX6_commonDivisor_9 rfl ?_
    refine z_sipush (pc := 11) (v := 200) dX6_commonDivisor_11 (by decide) ?_
    refine z_icmp_ge (pc := 14) (tgt := 45) dX6_commonDivisor_14 (by decide) (fun h14 => ?_) (fun h14 => ?_)
    · exact absurd (z_ge h14 hs (show (200 : Int32) = nI 200 from rfl) (by omega) (by omega)) (by omega)
    · refine z_lload (pc := 17) dX6_commonDivisor_17 rfl ?_
      refine z_lconst (pc := 19) (v := 0) dX6_commonDivisor_19 (by decide) ?_
      refine z_lcmp (pc := 20) dX6_commonDivisor_20 ?_
      refine z_if_eq (pc := 21) (tgt := 45) dX6_commonDivisor_21 (by decide) (fun h21 => ?_) (fun h21 => ?_)
      · exact s_X6_commonDivisor_45 hG hg
      · exfalso
        apply h21
        rw [hL]
        exact (lgc0 _ _).mpr rfl
  | succ m ih =>
    intro g l st G K ij o hG hL hs hg hl hm hst
    by_cases l0 : l = 0
    · subst l0
      rw [Nat.gcd_zero_right]
      refine z_iload (pc := 9) dX6_commonDivisor_9 rfl ?_
      refine z_sipush (pc := 11) (v := 200) dX6_commonDivisor_11 (by decide) ?_
      refine z_icmp_ge (pc := 14) (tgt := 45) dX6_commonDivisor_14 (by decide) (fun h14 => ?_) (fun h14 => ?_)
      · exact absurd (z_ge h14 hs (show (200 : Int32) = nI 200 from rfl) (by omega) (by omega)) (by omega)
      · refine z_lload (pc := 17) dX6_commonDivisor_17 rfl ?_
        refine z_lconst (pc := 19) (v := 0) dX6_commonDivisor_19 (by decide) ?_
        refine z_lcmp (pc := 20) dX6_commonDivisor_20 ?_
        refine z_if_eq (pc := 21) (tgt := 45) dX6_commonDivisor_21 (by decide) (fun h21 => ?_) (fun h21 => ?_)
        · exact s_X6_commonDivisor_45 hG hg
        · exfalso
          apply h21
          rw [hL]
          exact (lgc0 _ _).mpr rfl
    · have hml := Nat.mod_lt g (show 0 < l by omega)
      have hmg := Nat.mod_le g l
      have e : Nat.gcd g l = Nat.gcd l (g % l) := by rw [Nat.gcd_comm g l, Nat.gcd_rec l g, Nat.gcd_comm]
      have hK : ¬ K = 0 := by rw [hL, show (0 : Int64) = lN 0 from rfl, pk_lEQ (by omega) (by decide)]; exact l0
      have hR : G - G / K * K = lN (g % l) := by rw [hG, hL, pk_lRem (by omega) (by omega) (by omega)]
      have hd : (if g % l ≤ l then l * (g % l) else 2 * (l * (g % l)) + 1) < 2 ^ m := by
        rw [if_pos (show g % l ≤ l by omega)]
        rw [Nat.pow_succ] at hm
        split at hm
        · next h1 =>
          have h2 := Nat.div_add_mod g l
          have h3 : l ≤ l * (g / l) := Nat.le_mul_of_pos_right l (Nat.div_pos h1 (by omega))
          have h4 : l * (2 * (g % l)) ≤ l * g := Nat.mul_le_mul_left l (by omega)
          rw [Nat.mul_left_comm, Nat.mul_comm l g] at h4
          omega
        · next h1 =>
          rw [Nat.mod_eq_of_lt (by omega), Nat.mul_comm l g]
          omega
      rw [e]
      refine z_iload (pc := 9) dX6_commonDivisor_9 rfl ?_
      refine z_sipush (pc := 11) (v := 200) dX6_commonDivisor_11 (by decide) ?_
      refine z_icmp_ge (pc := 14) (tgt := 45) dX6_commonDivisor_14 (by decide) (fun h14 => ?_) (fun h14 => ?_)
      · exact absurd (z_ge h14 hs (show (200 : Int32) = nI 200 from rfl) (by omega) (by omega)) (by omega)
      · refine z_lload (pc := 17) dX6_commonDivisor_17 rfl ?_
        refine z_lconst (pc := 19) (v := 0) dX6_commonDivisor_19 (by decide) ?_
        refine z_lcmp (pc := 20) dX6_commonDivisor_20 ?_
        refine z_if_eq (pc := 21) (tgt := 45) dX6_commonDivisor_21 (by decide) (fun h21 => ?_) (fun h21 => ?_)
        · exfalso
          exact hK ((lgc0 _ _).mp h21)
        · refine z_lload (pc := 24) dX6_commonDivisor_24 rfl ?_
          refine z_lload (pc := 26) dX6_commonDivisor_26 rfl ?_
          refine z_lrem (pc := 28) dX6_commonDivisor_28 hK ?_
          refine z_lstore (pc := 29) dX6_commonDivisor_29 rfl (by decide) ?_
          refine z_lload (pc := 31) dX6_commonDivisor_31 rfl ?_
          refine z_lstore (pc := 33) dX6_commonDivisor_33 rfl (by decide) ?_
          refine z_lload (pc := 35) dX6_commonDivisor_35 rfl ?_
          refine z_lstore (pc := 37) dX6_commonDivisor_37 rfl (by decide) ?_
          refine z_iinc (pc := 39) dX6_commonDivisor_39 rfl rfl rfl (by decide) ?_
          refine z_goto (pc := 42) (tgt := 9) dX6_commonDivisor_42 (by decide) ?_
          exact ih l (g % l) (st + 1) _ _ _ _ hL hR (z_n1 hs) hl (by omega) hd (by omega)
set_option maxRecDepth 100000 in
set_option maxHeartbeats 400000 in
theorem c_X6_commonDivisor {M : z_Mem} {a b : Nat} (ha : a < 2 ^ 60) (hb : b < 2 ^ 60) : z_Ct mX6_commonDivisor [.long (lN a), .long (lN b)] M (some (.long (lN (max 1 (Nat.gcd a b))))) M := by
  have hd : (if b ≤ a then a * b else 2 * (a * b) + 1) < 2 ^ 130 := by
    have h1 : a * b ≤ 2 ^ 60 * 2 ^ 60 := Nat.mul_le_mul (by omega) (by omega)
    have h2 : (2 : Nat) ^ 60 * 2 ^ 60 < 2 ^ 125 := by decide
    have h3 : (2 : Nat) ^ 125 * 2 + 1 < 2 ^ 130 := by decide
    split <;> omega

  refine z_entry (by decide +kernel) (Nat.le_of_ble_eq_true rfl) rfl ?_
  show z_Sm mX6_commonDivisor _ _ 0 [some (.long (lN a)), none, some (.long (lN b)), none, none, none, none, none, none, none, none] [] M
  refine z_lload_n (pc := 0) dX6_commonDivisor_0 rfl ?_
  refine z_lstore (pc := 1) dX6_commonDivisor_1 rfl (by decide) ?_
  refine z_lload_n (pc := 3) dX6_commonDivisor_3 rfl ?_
  refine z_lstore (pc := 4) dX6_commonDivisor_4 rfl (by decide) ?_
  refine z_iconst (pc := 6) (v := 0) dX6_commonDivisor_6 (by decide) ?_
  refine z_istore (pc := 7) dX6_commonDivisor_7 rfl (by decide) ?_
  exact s_X6_commonDivisor_9 130 a b 0 _ _ _ _ rfl rfl rfl ha hb hd (by omega)
/-- a share told in least terms: above or below -/
def ltF (z : Int32) (a b : Nat) : Int32 := nI ((if z = 0 then b else a) / max 1 (Nat.gcd a b))
theorem mx_pos (a b : Nat) : 0 < max 1 (Nat.gcd a b) := Nat.lt_of_lt_of_le Nat.one_pos (Nat.le_max_left 1 _)
theorem mx_lt {a b : Nat} (ha : a < 2 ^ 60) (hb : b < 2 ^ 60) : max 1 (Nat.gcd a b) < 2 ^ 63 := by
  rw [Nat.max_def]
  split
  · by_cases h : a = 0
    · subst h; rw [Nat.gcd_zero_left]; omega
    · have := Nat.gcd_le_left b (show 0 < a by omega); omega
  · decide
set_option maxRecDepth 100000 in
set_option maxHeartbeats 400000 in
theorem c_X6_inLeastTerms {M : z_Mem} {a b : Nat} (ha : a < 2 ^ 60) (hb : b < 2 ^ 60) {z : Int32} : z_Ct mX6_inLeastTerms [.long (lN a), .long (lN b), .int z] M (some (.int (ltF z a b))) M := by
  refine z_entry (by decide +kernel) (Nat.le_of_ble_eq_true rfl) rfl ?_
  show z_Sm mX6_inLeastTerms _ _ 0 [some (.long (lN a)), none, some (.long (lN b)), none, some (.int z), none, none] [] M
  refine z_lload_n (pc := 0) dX6_inLeastTerms_0 rfl ?_
  refine z_lload_n (pc := 1) dX6_inLeastTerms_1 rfl ?_
  refine z_cS2 (pc := 2) (c_X6_commonDivisor ha hb) (q_cX6_268 _ (by decide)) rfl dX6_inLeastTerms_2 ?_
  refine z_lstore (pc := 5) dX6_inLeastTerms_5 rfl (by decide) ?_
  refine z_iload (pc := 7) dX6_inLeastTerms_7 rfl ?_
  refine z_if_eq (pc := 9) (tgt := 16) dX6_inLeastTerms_9 (by decide) (fun h9 => ?_) (fun h9 => ?_)
  · refine z_lload_n (pc := 16) dX6_inLeastTerms_16 rfl ?_
    refine z_lload (pc := 17) dX6_inLeastTerms_17 rfl ?_
    refine z_ldiv (pc := 19) dX6_inLeastTerms_19 (by rw [show (0 : Int64) = lN 0 from rfl, pk_lEQ (mx_lt ha hb) (by decide)]; have := mx_pos a b; omega) ?_
    refine z_l2i (pc := 20) dX6_inLeastTerms_20 rfl ?_
    refine z_iret (pc := 21) rfl dX6_inLeastTerms_21 ?_ ?_
    · rw [pk_lDiv (by omega) (mx_pos a b) (mx_lt ha hb), lN_i, ltF, if_pos h9]
    · rfl
  · refine z_lload_n (pc := 12) dX6_inLeastTerms_12 rfl ?_
    refine z_goto (pc := 13) (tgt := 17) dX6_inLeastTerms_13 (by decide) ?_
    refine z_lload (pc := 17) dX6_inLeastTerms_17 rfl ?_
    refine z_ldiv (pc := 19) dX6_inLeastTerms_19 (by rw [show (0 : Int64) = lN 0 from rfl, pk_lEQ (mx_lt ha hb) (by decide)]; have := mx_pos a b; omega) ?_
    refine z_l2i (pc := 20) dX6_inLeastTerms_20 rfl ?_
    refine z_iret (pc := 21) rfl dX6_inLeastTerms_21 ?_ ?_
    · rw [pk_lDiv (by omega) (mx_pos a b) (mx_lt ha hb), lN_i, ltF, if_neg h9]
    · rfl
set_option maxRecDepth 100000 in
set_option maxHeartbeats 400000 in
theorem s_X6_power_5 {M : z_Mem} {x e : Nat} (hx : x < 2 ^ 31) (he : e < 2 ^ 30) : ∀ (f st : Nat) (G : Int64) (ij : Int32), G = lN (x ^ st) → ij = nI st → st + f = e → z_Sm mX6_power (some (.long (lN (x ^ e)))) M 5 [some (.int (nI x)), some (.int (nI e)), some (.long G), none, some (.int ij)] [] M := by
  intro f
  induction f with
  | zero =>
    intro st G ij hG hs hf
    refine z_iload (pc := 5) dX6_power_5 rfl ?_
    refine z_iload_n (pc := 7) dX6_power_7 rfl ?_
    refine z_icmp_ge (pc := 8) (tgt := 22) dX6_power_8 (by decide) (fun h8 => ?_) (fun h8 => ?_)
    · refine z_lload_n (pc := 22) dX6_power_22 rfl ?_
      refine z_lret (pc := 23) rfl dX6_power_23 ?_ ?_
      · rw [hG, show st = e by omega]
      · rfl
    · exact absurd (z_lt h8 hs (show nI e = nI e from rfl) (by omega) (by omega)) (by omega)
  | succ f ih =>
    intro st G ij hG hs hf
    refine z_iload (pc := 5) dX6_power_5 rfl ?_
    refine z_iload_n (pc := 7) dX6_power_7 rfl ?_
    refine z_icmp_ge (pc := 8) (tgt := 22) dX6_power_8 (by decide) (fun h8 => ?_) (fun h8 => ?_)
    · exact absurd (z_ge h8 hs (show nI e = nI e from rfl) (by omega) (by omega)) (by omega)
    · refine z_lload_n (pc := 11) dX6_power_11 rfl ?_
      refine z_iload_n (pc := 12) dX6_power_12 rfl ?_
      refine z_i2l (pc := 13) dX6_power_13 rfl ?_
      refine z_lmul (pc := 14) dX6_power_14 ?_
      refine z_lstore_n (pc := 15) dX6_power_15 rfl (by decide) ?_
      refine z_iinc (pc := 16) dX6_power_16 rfl rfl rfl (by decide) ?_
      refine z_goto (pc := 19) (tgt := 5) dX6_power_19 (by decide) ?_
      exact ih (st + 1) _ _ (by rw [hG, nI_l hx, lN_mul, Nat.pow_succ]) (z_n1 hs) (by omega)
set_option maxRecDepth 100000 in
set_option maxHeartbeats 400000 in
theorem c_X6_power {M : z_Mem} {x e : Nat} (hx : x < 2 ^ 31) (he : e < 2 ^ 30) : z_Ct mX6_power [.int (nI x), .int (nI e)] M (some (.long (lN (x ^ e)))) M := by
  refine z_entry (by decide +kernel) (Nat.le_of_ble_eq_true rfl) rfl ?_
  show z_Sm mX6_power _ _ 0 [some (.int (nI x)), some (.int (nI e)), none, none, none] [] M
  refine z_lconst (pc := 0) (v := 1) dX6_power_0 (by decide) ?_
  refine z_lstore_n (pc := 1) dX6_power_1 rfl (by decide) ?_
  refine z_iconst (pc := 2) (v := 0) dX6_power_2 (by decide) ?_
  refine z_istore (pc := 3) dX6_power_3 rfl (by decide) ?_
  exact s_X6_power_5 hx he e 0 _ _ rfl rfl (by omega)
