set_option maxRecDepth 100000 in
set_option maxHeartbeats 400000 in
theorem s_X7_power_4 {M M2 : z_Mem} {r : Option Value} {x e : Nat} (he : e < 2 ^ 30) (kk : z_Sm mX7_power r M2 19 [some (.int (nI x)), some (.int (nI e)), some (.int (nI (x ^ (e)))), none] [] (M)) (j : Nat) (hj : j ≤ e) (ij : Int32) (v : Int32) (h2 : ij = nI j) (hv_v : v = nI (x ^ j)) : z_Sm mX7_power r M2 4 [some (.int (nI x)), some (.int (nI e)), some (.int v), some (.int ij)] [] M := by
  refine z_iload_n (pc := 4) dX7_power_4 rfl ?_
  refine z_iload_n (pc := 5) dX7_power_5 rfl ?_
  refine z_icmp_ge (pc := 6) (tgt := 19) dX7_power_6 (by decide) (fun h6 => ?_) (fun h6 => ?_)
  · have hNj : e ≤ j := by
      have := z_ge h6 h2 (show nI e = nI e from rfl) (by omega) (by omega)
      omega
    obtain rfl : j = e := by omega
    subst hv_v
    exact z_drop 3 kk
  · have hlt : j < e := by
      have := z_lt h6 h2 (show nI e = nI e from rfl) (by omega) (by omega)
      omega
    refine z_iload_n (pc := 9) dX7_power_9 rfl ?_
    refine z_iload_n (pc := 10) dX7_power_10 rfl ?_
    refine z_imul (pc := 11) dX7_power_11 ?_
    refine z_istore_n (pc := 12) dX7_power_12 rfl (by decide) ?_
    refine z_iinc (pc := 13) dX7_power_13 rfl rfl rfl (by decide) ?_
    refine z_goto (pc := 16) (tgt := 4) dX7_power_16 (by decide) ?_
    exact s_X7_power_4 he kk (j + 1) hlt _ _ (z_n1 h2) (by rw [hv_v, nx_mul, Nat.pow_succ])
termination_by e - j
decreasing_by all_goals omega
set_option maxRecDepth 100000 in
set_option maxHeartbeats 400000 in
theorem c_X7_power {M : z_Mem} {x e : Nat} (he : e < 2 ^ 30) : z_Ct mX7_power [.int (nI x), .int (nI e)] M (some (.int (nI (x ^ e)))) M := by
  refine z_entry (by decide +kernel) (Nat.le_of_ble_eq_true rfl) rfl ?_
  show z_Sm mX7_power _ _ 0 [some (.int (nI x)), some (.int (nI e)), none, none] [] M
  refine z_iconst (pc := 0) (v := 1) dX7_power_0 (by decide) ?_
  refine z_istore_n (pc := 1) dX7_power_1 rfl (by decide) ?_
  refine z_iconst (pc := 2) (v := 0) dX7_power_2 (by decide) ?_
  refine z_istore_n (pc := 3) dX7_power_3 rfl (by decide) ?_
  refine s_X7_power_4 he ?_ 0 (by omega) _ _ rfl rfl
  refine z_iload_n (pc := 19) dX7_power_19 rfl ?_
  refine z_iret (pc := 20) rfl dX7_power_20 ?_ ?_
  · rfl
  · rfl
set_option maxRecDepth 100000 in
set_option maxHeartbeats 400000 in
theorem s_X7_thousandTo_4 {M : z_Mem} {e : Nat} (he : e < 2 ^ 30) : ∀ (f st : Nat) (G : Int64) (ij : Int32), G = lN (1000 ^ st) → ij = nI st → st + f = e → z_Sm mX7_thousandTo (some (.long (lN (1000 ^ e)))) M 4 [some (.int (nI e)), some (.long G), none, some (.int ij)] [] M := by
  intro f
  induction f with
  | zero =>
    intro st G ij hG hs hf
    refine z_iload_n (pc := 4) dX7_thousandTo_4 rfl ?_
    refine z_iload_n (pc := 5) dX7_thousandTo_5 rfl ?_
    refine z_icmp_ge (pc := 6) (tgt := 21) dX7_thousandTo_6 (by decide) (fun h6 => ?_) (fun h6 => ?_)
    · refine z_lload_n (pc := 21) dX7_thousandTo_21 rfl ?_
      refine z_lret (pc := 22) rfl dX7_thousandTo_22 ?_ ?_
      · rw [hG, show st = e by omega]
      · rfl
    · exact absurd (z_lt h6 hs (show nI e = nI e from rfl) (by omega) (by omega)) (by omega)
  | succ f ih =>
    intro st G ij hG hs hf
    refine z_iload_n (pc := 4) dX7_thousandTo_4 rfl ?_
    refine z_iload_n (pc := 5) dX7_thousandTo_5 rfl ?_
    refine z_icmp_ge (pc := 6) (tgt := 21) dX7_thousandTo_6 (by decide) (fun h6 => ?_) (fun h6 => ?_)
    · exact absurd (z_ge h6 hs (show nI e = nI e from rfl) (by omega) (by omega)) (by omega)
    · refine z_lload_n (pc := 9) dX7_thousandTo_9 rfl ?_
      refine z_ldc2 (pc := 10) q_kX7_183 dX7_thousandTo_10 ?_
      refine z_lmul (pc := 13) dX7_thousandTo_13 ?_
      refine z_lstore_n (pc := 14) dX7_thousandTo_14 rfl (by decide) ?_
      refine z_iinc (pc := 15) dX7_thousandTo_15 rfl rfl rfl (by decide) ?_
      refine z_goto (pc := 18) (tgt := 4) dX7_thousandTo_18 (by decide) ?_
      exact ih (st + 1) _ _ (by rw [hG, show (1000 : Int64) = lN 1000 from rfl, lN_mul, Nat.pow_succ]) (z_n1 hs) (by omega)
set_option maxRecDepth 100000 in
set_option maxHeartbeats 400000 in
theorem c_X7_thousandTo {M : z_Mem} {e : Nat} (he : e < 2 ^ 30) : z_Ct mX7_thousandTo [.int (nI e)] M (some (.long (lN (1000 ^ e)))) M := by
  refine z_entry (by decide +kernel) (Nat.le_of_ble_eq_true rfl) rfl ?_
  show z_Sm mX7_thousandTo _ _ 0 [some (.int (nI e)), none, none, none] [] M
  refine z_lconst (pc := 0) (v := 1) dX7_thousandTo_0 (by decide) ?_
  refine z_lstore_n (pc := 1) dX7_thousandTo_1 rfl (by decide) ?_
  refine z_iconst (pc := 2) (v := 0) dX7_thousandTo_2 (by decide) ?_
  refine z_istore_n (pc := 3) dX7_thousandTo_3 rfl (by decide) ?_
  exact s_X7_thousandTo_4 he e 0 _ _ rfl rfl (by omega)
