def pqI (tg : Nat → Nat → Bool) (x : Nat) : Nat → Nat
  | 0 => 0
  | y + 1 => pqI tg x y + (if x < y ∧ tg x y = true then 1 else 0)
def pqO (tg : Nat → Nat → Bool) : Nat → Nat
  | 0 => 0
  | x + 1 => pqO tg x + pqI tg x 6
theorem pqI_0 (tg : Nat → Nat → Bool) (x : Nat) : ∀ y, y ≤ x + 1 → pqI tg x y = 0
  | 0, _ => rfl
  | y + 1, h => by rw [pqI, pqI_0 tg x y (by omega), if_neg (fun q => by omega)]
theorem pqI_le (tg : Nat → Nat → Bool) (x : Nat) : ∀ y, pqI tg x y ≤ y
  | 0 => Nat.le_refl 0
  | y + 1 => by
    have := pqI_le tg x y
    rw [pqI]
    split <;> omega
set_option maxHeartbeats 2000000 in
theorem prN_pq {o : Int32} {a b : Nat → Nat} {P : Nat} (hab : ∀ k, k < P → a k < 6 ∧ b k < 6) : pqO (tog o a b P) 6 = prN o a b P 6 / 2 := by
  have sy : ∀ t u, t < 6 → u < 6 → (bt (rOut o a b P 5 (em t)) u).toNat = (bt (rOut o a b P 5 (em u)) t).toNat := fun t u ht hu => congrArg Bool.toNat (tog_sym ht hu hab)
  have rf : ∀ t, t < 6 → (bt (rOut o a b P 5 (em t)) t).toNat = 1 := fun t ht => by rw [rOut_mono (by rw [em_bt (by omega) (by omega)]; simp) 5]; rfl
  have lo : ∀ t, t < 6 → (bt (rOut o a b P 5 (em t)) 6).toNat = 0 := fun t ht => by rw [rOut_lo ht hab 5 6 (by decide) (by decide)]; rfl
  have e : ∀ x y, (if x < y ∧ tog o a b P x y = true then 1 else 0) = if x < y then (bt (rOut o a b P 5 (em x)) y).toNat else 0 := by
    intro x y
    rw [tog]
    cases bt (rOut o a b P 5 (em x)) y <;> simp
  have s01 := sy 0 1 (by decide) (by decide)
  have s02 := sy 0 2 (by decide) (by decide)
  have s03 := sy 0 3 (by decide) (by decide)
  have s04 := sy 0 4 (by decide) (by decide)
  have s05 := sy 0 5 (by decide) (by decide)
  have s12 := sy 1 2 (by decide) (by decide)
  have s13 := sy 1 3 (by decide) (by decide)
  have s14 := sy 1 4 (by decide) (by decide)
  have s15 := sy 1 5 (by decide) (by decide)
  have s23 := sy 2 3 (by decide) (by decide)
  have s24 := sy 2 4 (by decide) (by decide)
  have s25 := sy 2 5 (by decide) (by decide)
  have s34 := sy 3 4 (by decide) (by decide)
  have s35 := sy 3 5 (by decide) (by decide)
  have s45 := sy 4 5 (by decide) (by decide)
  have r0 := rf 0 (by decide)
  have l0 := lo 0 (by decide)
  have r1 := rf 1 (by decide)
  have l1 := lo 1 (by decide)
  have r2 := rf 2 (by decide)
  have l2 := lo 2 (by decide)
  have r3 := rf 3 (by decide)
  have l3 := lo 3 (by decide)
  have r4 := rf 4 (by decide)
  have l4 := lo 4 (by decide)
  have r5 := rf 5 (by decide)
  have l5 := lo 5 (by decide)
  simp only [pqO, pqI, prN, pc, e]
  simp only [Nat.reduceLT, Nat.lt_irrefl, if_true, if_false, Nat.zero_add, Nat.add_zero, Nat.not_lt_zero]
  generalize em 0 = e0 at *
  omega
set_option maxRecDepth 100000 in
set_option maxHeartbeats 400000 in
theorem s_X7_pairsBy_15 {M M2 : z_Mem} {r : Option Value} {T : TT} (hT : TN M T) {o xi : Int32} {x : Nat} (hx : xi = nI x) (hx6 : x < 6) (kk : z_Sm mX7_pairsBy r M2 47 [some (.ref 59), some (.int o), some (.int (nI (pqO (tog o T.2.1 T.2.2.1 T.1) x + pqI (tog o T.2.1 T.2.2.1 T.1) x 6))), some (.int xi), none] [] M) : ∀ (f y : Nat) (ij w : Int32), w = nI (pqO (tog o T.2.1 T.2.2.1 T.1) x + pqI (tog o T.2.1 T.2.2.1 T.1) x y) → ij = nI y → x < y → y + f = 6 → z_Sm mX7_pairsBy r M2 15 [some (.ref 59), some (.int o), some (.int (w)), some (.int xi), some (.int ij)] [] M := by
  intro f
  induction f with
  | zero =>
    intro y ij w hw hi hxy hf
    obtain rfl : y = 6 := by omega
    subst hw
    refine z_iload (pc := 15) dX7_pairsBy_15 rfl ?_
    refine z_bipush (pc := 17) (v := 6) dX7_pairsBy_17 (by decide) ?_
    refine z_icmp_ge (pc := 19) (tgt := 47) dX7_pairsBy_19 (by decide) (fun h19 => ?_) (fun h19 => ?_)
    · exact z_drop 4 kk
    · exact absurd (z_lt h19 hi (show (6 : Int32) = nI 6 from rfl) (by omega) (by omega)) (by omega)
  | succ f ih =>
    intro y ij w hw hi hxy hf
    refine z_iload (pc := 15) dX7_pairsBy_15 rfl ?_
    refine z_bipush (pc := 17) (v := 6) dX7_pairsBy_17 (by decide) ?_
    refine z_icmp_ge (pc := 19) (tgt := 47) dX7_pairsBy_19 (by decide) (fun h19 => ?_) (fun h19 => ?_)
    · exact absurd (z_ge h19 hi (show (6 : Int32) = nI 6 from rfl) (by omega) (by omega)) (by omega)
    · refine z_iload_n (pc := 22) dX7_pairsBy_22 rfl ?_
      refine z_aload_n (pc := 23) dX7_pairsBy_23 rfl ?_
      refine z_iload_n (pc := 24) dX7_pairsBy_24 rfl ?_
      refine z_iload (pc := 25) dX7_pairsBy_25 rfl ?_
      refine z_iload_n (pc := 27) dX7_pairsBy_27 rfl ?_
      refine z_cV3 (pc := 28) (c_X7_isTogether hT hx hi hx6 (by omega)) (q_cX7_126 _ (by decide)) z_s59 rfl rfl dX7_pairsBy_28 ?_
      refine z_if_eq (pc := 31) (tgt := 38) dX7_pairsBy_31 (by decide) (fun h31 => ?_) (fun h31 => ?_)
      · refine z_iconst (pc := 38) (v := 0) dX7_pairsBy_38 (by decide) ?_
        refine z_iadd (pc := 39) dX7_pairsBy_39 ?_
        refine z_istore_n (pc := 40) dX7_pairsBy_40 rfl (by decide) ?_
        refine z_iinc (pc := 41) dX7_pairsBy_41 rfl rfl rfl (by decide) ?_
        refine z_goto (pc := 44) (tgt := 15) dX7_pairsBy_44 (by decide) ?_
        have h31 := z_f h31
        exact ih (y + 1) _ _ (by rw [Int32.add_zero, hw, pqI, if_neg (fun q => by rw [h31] at q; cases q.2), Nat.add_zero]) (z_n1 hi) (by omega) (by omega)
      · refine z_iconst (pc := 34) (v := 1) dX7_pairsBy_34 (by decide) ?_
        refine z_goto (pc := 35) (tgt := 39) dX7_pairsBy_35 (by decide) ?_
        refine z_iadd (pc := 39) dX7_pairsBy_39 ?_
        refine z_istore_n (pc := 40) dX7_pairsBy_40 rfl (by decide) ?_
        refine z_iinc (pc := 41) dX7_pairsBy_41 rfl rfl rfl (by decide) ?_
        refine z_goto (pc := 44) (tgt := 15) dX7_pairsBy_44 (by decide) ?_
        have h31 := z_t h31
        exact ih (y + 1) _ _ (by rw [hw, pqI, if_pos ⟨hxy, h31⟩, ← Nat.add_assoc]; exact (nI_succ _).symm) (z_n1 hi) (by omega) (by omega)
set_option maxRecDepth 100000 in
set_option maxHeartbeats 400000 in
theorem s_X7_pairsBy_4 {M M2 : z_Mem} {r : Option Value} {T : TT} (hT : TN M T) {o : Int32} (kk : z_Sm mX7_pairsBy r M2 53 [some (.ref 59), some (.int o), some (.int (nI (pqO (tog o T.2.1 T.2.2.1 T.1) 6))), some (.int (nI 6)), none] [] M) : ∀ (f x : Nat) (ij w : Int32) (v4 : Option Value), w = nI (pqO (tog o T.2.1 T.2.2.1 T.1) x) → ij = nI x → x + f = 6 → z_Sm mX7_pairsBy r M2 4 [some (.ref 59), some (.int o), some (.int (w)), some (.int ij), v4] [] M := by
  intro f
  induction f with
  | zero =>
    intro x ij w v4 hw hi hf
    obtain rfl : x = 6 := by omega
    subst hw
    subst hi
    refine z_iload_n (pc := 4) dX7_pairsBy_4 rfl ?_
    refine z_bipush (pc := 5) (v := 6) dX7_pairsBy_5 (by decide) ?_
    refine z_icmp_ge (pc := 7) (tgt := 53) dX7_pairsBy_7 (by decide) (fun h7 => ?_) (fun h7 => ?_)
    · exact z_drop 4 kk
    · exact absurd (z_lt h7 (show nI 6 = nI 6 from rfl) (show (6 : Int32) = nI 6 from rfl) (by omega) (by omega)) (by omega)
  | succ f ih =>
    intro x ij w v4 hw hi hf
    refine z_iload_n (pc := 4) dX7_pairsBy_4 rfl ?_
    refine z_bipush (pc := 5) (v := 6) dX7_pairsBy_5 (by decide) ?_
    refine z_icmp_ge (pc := 7) (tgt := 53) dX7_pairsBy_7 (by decide) (fun h7 => ?_) (fun h7 => ?_)
    · exact absurd (z_ge h7 hi (show (6 : Int32) = nI 6 from rfl) (by omega) (by omega)) (by omega)
    · refine z_iload_n (pc := 10) dX7_pairsBy_10 rfl ?_
      refine z_iconst (pc := 11) (v := 1) dX7_pairsBy_11 (by decide) ?_
      refine z_iadd (pc := 12) dX7_pairsBy_12 ?_
      refine z_istore (pc := 13) dX7_pairsBy_13 rfl (by decide) ?_
      refine s_X7_pairsBy_15 hT hi (by omega) ?_ (6 - (x + 1)) (x + 1) _ _ (by rw [hw, pqI_0 _ x (x + 1) (by omega), Nat.add_zero]) (by rw [hi]; exact (nI_succ _).symm) (by omega) (by omega)
      refine z_iinc (pc := 47) dX7_pairsBy_47 rfl rfl rfl (by decide) ?_
      refine z_goto (pc := 50) (tgt := 4) dX7_pairsBy_50 (by decide) ?_
      exact ih (x + 1) _ _ _ rfl (z_n1 hi) (by omega)
set_option maxRecDepth 100000 in
set_option maxHeartbeats 400000 in
theorem c_X7_pairsBy {M : z_Mem} {T : TT} (hT : TN M T) {o : Int32} : z_Ct mX7_pairsBy [.ref 59, .int o] M (some (.int (nI (prN o T.2.1 T.2.2.1 T.1 6 / 2)))) M := by
  refine z_entry (by decide +kernel) (Nat.le_of_ble_eq_true rfl) rfl ?_
  show z_Sm mX7_pairsBy _ _ 0 [some (.ref 59), some (.int o), none, none, none] [] M
  refine z_iconst (pc := 0) (v := 0) dX7_pairsBy_0 (by decide) ?_
  refine z_istore_n (pc := 1) dX7_pairsBy_1 rfl (by decide) ?_
  refine z_iconst (pc := 2) (v := 0) dX7_pairsBy_2 (by decide) ?_
  refine z_istore_n (pc := 3) dX7_pairsBy_3 rfl (by decide) ?_
  refine s_X7_pairsBy_4 hT ?_ 6 0 _ _ _ rfl rfl (by omega)
  refine z_iload_n (pc := 53) dX7_pairsBy_53 rfl ?_
  refine z_iret (pc := 54) rfl dX7_pairsBy_54 ?_ ?_
  · rw [prN_pq hT.ab]
  · rfl
set_option maxRecDepth 100000 in
set_option maxHeartbeats 400000 in
theorem s_X7_doableBy_4 {M M2 : z_Mem} {r : Option Value} {T : TT} (hT : TN M T) {D : DT} (hD : DN M D) {o : Int32} (kk : z_Sm mX7_doableBy r M2 48 [some (.ref 59), some (.int o), some (.int (dbF o T.2.1 T.2.2.1 T.1 D (D.1))), none] [] (M)) (j : Nat) (hj : j ≤ D.1) (ij : Int32) (v : Int32) (h2 : ij = nI j) (hv_v : v = dbF o T.2.1 T.2.2.1 T.1 D j) : z_Sm mX7_doableBy r M2 4 [some (.ref 59), some (.int o), some (.int v), some (.int ij)] [] M := by
  have hD3 := hD.2.1
  refine z_iload_n (pc := 4) dX7_doableBy_4 rfl ?_
  refine z_aload_n (pc := 5) dX7_doableBy_5 rfl ?_
  refine z_getI (pc := 6) q_fX7_111 z_s59 rfl dX7_doableBy_6 ?_
  refine z_icmp_ge (pc := 9) (tgt := 48) dX7_doableBy_9 (by decide) (fun h9 => ?_) (fun h9 => ?_)
  · have hNj : D.1 ≤ j := by
      have := z_ge h9 h2 hD.1 (by omega) (by omega)
      omega
    obtain rfl : j = D.1 := by omega
    subst hv_v
    exact z_drop 3 kk
  · have hlt : j < D.1 := by
      have := z_lt h9 h2 hD.1 (by omega) (by omega)
      omega
    obtain ⟨hx, hy, hx6, hy6⟩ := hD.2.2 j hlt
    refine z_iload_n (pc := 12) dX7_doableBy_12 rfl ?_
    refine z_aload_n (pc := 13) dX7_doableBy_13 rfl ?_
    refine z_aload_n (pc := 14) dX7_doableBy_14 rfl ?_
    refine z_getR (pc := 15) 66 q_fX7_28 z_s59 rfl dX7_doableBy_15 ?_
    refine z_iload_n (pc := 18) dX7_doableBy_18 rfl ?_
    refine z_iald (pc := 19) (j) z_s66 ⟨h2, by omega⟩ dX7_doableBy_19 ?_
    refine z_aload_n (pc := 20) dX7_doableBy_20 rfl ?_
    refine z_getR (pc := 21) 67 q_fX7_31 z_s59 rfl dX7_doableBy_21 ?_
    refine z_iload_n (pc := 24) dX7_doableBy_24 rfl ?_
    refine z_iald (pc := 25) (j) z_s67 ⟨h2, by omega⟩ dX7_doableBy_25 ?_
    refine z_iload_n (pc := 26) dX7_doableBy_26 rfl ?_
    refine z_cV3 (pc := 27) (c_X7_isTogether hT hx hy hx6 hy6) (q_cX7_126 _ (by decide)) z_s59 rfl rfl dX7_doableBy_27 ?_
    refine z_if_eq (pc := 30) (tgt := 37) dX7_doableBy_30 (by decide) (fun h30 => ?_) (fun h30 => ?_)
    · refine z_iconst (pc := 37) (v := 1) dX7_doableBy_37 (by decide) ?_
      refine z_iload_n (pc := 38) dX7_doableBy_38 rfl ?_
      refine z_ishl (pc := 39) dX7_doableBy_39 ?_
      refine z_ior (pc := 40) dX7_doableBy_40 ?_
      refine z_istore_n (pc := 41) dX7_doableBy_41 rfl (by decide) ?_
      refine z_iinc (pc := 42) dX7_doableBy_42 rfl rfl rfl (by decide) ?_
      refine z_goto (pc := 45) (tgt := 4) dX7_doableBy_45 (by decide) ?_
      have h30 := z_f h30
      exact s_X7_doableBy_4 hT hD kk (j + 1) hlt _ _ (z_n1 h2) (by rw [hv_v, dbF, if_neg (by rw [h30]; decide), h2]; rfl)
    · refine z_iconst (pc := 33) (v := 0) dX7_doableBy_33 (by decide) ?_
      refine z_goto (pc := 34) (tgt := 40) dX7_doableBy_34 (by decide) ?_
      refine z_ior (pc := 40) dX7_doableBy_40 ?_
      refine z_istore_n (pc := 41) dX7_doableBy_41 rfl (by decide) ?_
      refine z_iinc (pc := 42) dX7_doableBy_42 rfl rfl rfl (by decide) ?_
      refine z_goto (pc := 45) (tgt := 4) dX7_doableBy_45 (by decide) ?_
      have h30 := z_t h30
      exact s_X7_doableBy_4 hT hD kk (j + 1) hlt _ _ (z_n1 h2) (by rw [Int32.or_zero, hv_v, dbF, if_pos h30])
termination_by D.1 - j
decreasing_by all_goals omega
set_option maxRecDepth 100000 in
set_option maxHeartbeats 400000 in
theorem c_X7_doableBy {M : z_Mem} {T : TT} (hT : TN M T) {D : DT} (hD : DN M D) {o : Int32} : z_Ct mX7_doableBy [.ref 59, .int o] M (some (.int (dbF o T.2.1 T.2.2.1 T.1 D D.1))) M := by
  refine z_entry (by decide +kernel) (Nat.le_of_ble_eq_true rfl) rfl ?_
  show z_Sm mX7_doableBy _ _ 0 [some (.ref 59), some (.int o), none, none] [] M
  refine z_iconst (pc := 0) (v := 0) dX7_doableBy_0 (by decide) ?_
  refine z_istore_n (pc := 1) dX7_doableBy_1 rfl (by decide) ?_
  refine z_iconst (pc := 2) (v := 0) dX7_doableBy_2 (by decide) ?_
  refine z_istore_n (pc := 3) dX7_doableBy_3 rfl (by decide) ?_
  refine s_X7_doableBy_4 hT hD ?_ 0 (by omega) _ _ rfl rfl
  refine z_iload_n (pc := 48) dX7_doableBy_48 rfl ?_
  refine z_iret (pc := 49) rfl dX7_doableBy_49 ?_ ?_
  · rfl
  · rfl
