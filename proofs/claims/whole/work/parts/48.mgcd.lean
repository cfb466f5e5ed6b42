set_option maxRecDepth 100000 in
set_option maxHeartbeats 400000 in
theorem s_X7_common_13 {M : z_Mem} {x y : Int32} : ∀ (f g l : Nat) (v4 : Option Value), l < f → g < 2 ^ 30 → l < 2 ^ 30 → z_Sm mX7_common (some (.int (nI (Nat.gcd g l)))) M 13 [some (.int x), some (.int y), some (.int (nI g)), some (.int (nI l)), v4] [] M := by
  intro f
  induction f with
  | zero => exact fun g l v4 h => absurd h (Nat.not_lt_zero l)
  | succ f ih =>
    intro g l v4 hf hg hl
    by_cases h0 : l = 0
    · subst h0
      rw [Nat.gcd_zero_right]
      refine z_iload_n (pc := 13) dX7_common_13 rfl ?_
      refine z_if_eq (pc := 14) (tgt := 30) dX7_common_14 (by decide) (fun h14 => ?_) (fun h14 => ?_)
      · refine z_iload_n (pc := 30) dX7_common_30 rfl ?_
        refine z_iret (pc := 31) rfl dX7_common_31 ?_ ?_
        · rfl
        · rfl
      · exact absurd rfl h14
    · have hne : ¬ nI l = 0 := fun q => h0 ((nI0 (by omega)).mp q)
      have hR : nI g - nI g / nI l * nI l = nI (g % l) := pk_rem (by omega) (by omega) (by omega)
      have hml := Nat.mod_lt g (show 0 < l by omega)
      have e : Nat.gcd g l = Nat.gcd l (g % l) := by rw [Nat.gcd_comm g l, Nat.gcd_rec l g, Nat.gcd_comm]
      rw [e]
      refine z_iload_n (pc := 13) dX7_common_13 rfl ?_
      refine z_if_eq (pc := 14) (tgt := 30) dX7_common_14 (by decide) (fun h14 => ?_) (fun h14 => ?_)
      · exact absurd h14 hne
      · refine z_iload_n (pc := 17) dX7_common_17 rfl ?_
        refine z_iload_n (pc := 18) dX7_common_18 rfl ?_
        refine z_irem (pc := 19) dX7_common_19 hne ?_
        refine z_istore (pc := 20) dX7_common_20 rfl (by decide) ?_
        refine z_iload_n (pc := 22) dX7_common_22 rfl ?_
        refine z_istore_n (pc := 23) dX7_common_23 rfl (by decide) ?_
        refine z_iload (pc := 24) dX7_common_24 rfl ?_
        refine z_istore_n (pc := 26) dX7_common_26 rfl (by decide) ?_
        refine z_goto (pc := 27) (tgt := 13) dX7_common_27 (by decide) ?_
        rw [hR]
        exact ih l (g % l) _ (by omega) hl (by omega)
set_option maxRecDepth 100000 in
set_option maxHeartbeats 400000 in
theorem c_X7_common {M : z_Mem} {a b : Nat} (ha : a < 2 ^ 30) (hb : b < 2 ^ 30) : z_Ct mX7_common [.int (nI a), .int (nI b)] M (some (.int (nI (Nat.gcd a b)))) M := by
  refine z_entry (by decide +kernel) (Nat.le_of_ble_eq_true rfl) rfl ?_
  show z_Sm mX7_common _ _ 0 [some (.int (nI a)), some (.int (nI b)), none, none, none] [] M
  refine z_iload_n (pc := 0) dX7_common_0 rfl ?_
  refine z_if_ge (pc := 1) (tgt := 9) dX7_common_1 (by decide) (fun h1 => ?_) (fun h1 => ?_)
  · refine z_iload_n (pc := 9) dX7_common_9 rfl ?_
    refine z_istore_n (pc := 10) dX7_common_10 rfl (by decide) ?_
    refine z_iload_n (pc := 11) dX7_common_11 rfl ?_
    refine z_istore_n (pc := 12) dX7_common_12 rfl (by decide) ?_
    exact s_X7_common_13 (b + 1) a b _ (by omega) ha hb
  · exact absurd (Int32.not_lt.mp (nI_pos (by omega))) h1
