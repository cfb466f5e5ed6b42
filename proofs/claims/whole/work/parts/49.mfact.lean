def fc : Nat → Nat
  | 0 => 1
  | k + 1 => fc k * (k + 1)
theorem fc_fa : ∀ n, n < 8 → fc n = fa n := by decide +kernel
set_option maxRecDepth 100000 in
set_option maxHeartbeats 400000 in
theorem s_X7_factorial_4 {M : z_Mem} {n : Nat} (hn : n < 2 ^ 20) : ∀ (f i : Nat) (ij v : Int32), v = nI (fc i) → ij = nI (i + 1) → i + f = n → z_Sm mX7_factorial (some (.int (nI (fc n)))) M 4 [some (.int (nI n)), some (.int v), some (.int ij)] [] M := by
  intro f
  induction f with
  | zero =>
    intro i ij v hv hi hf
    refine z_iload_n (pc := 4) dX7_factorial_4 rfl ?_
    refine z_iload_n (pc := 5) dX7_factorial_5 rfl ?_
    refine z_icmp_gt (pc := 6) (tgt := 19) dX7_factorial_6 (by decide) (fun h6 => ?_) (fun h6 => ?_)
    · refine z_iload_n (pc := 19) dX7_factorial_19 rfl ?_
      refine z_iret (pc := 20) rfl dX7_factorial_20 ?_ ?_
      · rw [hv, show i = n by omega]
      · rfl
    · exact absurd (z_ngt h6 hi (show nI n = nI n from rfl) (by omega) (by omega)) (by omega)
  | succ f ih =>
    intro i ij v hv hi hf
    refine z_iload_n (pc := 4) dX7_factorial_4 rfl ?_
    refine z_iload_n (pc := 5) dX7_factorial_5 rfl ?_
    refine z_icmp_gt (pc := 6) (tgt := 19) dX7_factorial_6 (by decide) (fun h6 => ?_) (fun h6 => ?_)
    · exact absurd (z_gt h6 hi (show nI n = nI n from rfl) (by omega) (by omega)) (by omega)
    · refine z_iload_n (pc := 9) dX7_factorial_9 rfl ?_
      refine z_iload_n (pc := 10) dX7_factorial_10 rfl ?_
      refine z_imul (pc := 11) dX7_factorial_11 ?_
      refine z_istore_n (pc := 12) dX7_factorial_12 rfl (by decide) ?_
      refine z_iinc (pc := 13) dX7_factorial_13 rfl rfl rfl (by decide) ?_
      refine z_goto (pc := 16) (tgt := 4) dX7_factorial_16 (by decide) ?_
      exact ih (i + 1) _ _ (by rw [hv, hi, nx_mul, fc]) (z_n1 hi) (by omega)
set_option maxRecDepth 100000 in
set_option maxHeartbeats 400000 in
theorem c_X7_factorial {M : z_Mem} {n : Nat} (hn : n < 8) : z_Ct mX7_factorial [.int (nI n)] M (some (.int (nI (fa n)))) M := by
  rw [← fc_fa n hn]
  refine z_entry (by decide +kernel) (Nat.le_of_ble_eq_true rfl) rfl ?_
  show z_Sm mX7_factorial _ _ 0 [some (.int (nI n)), none, none] [] M
  rcases Nat.eq_zero_or_pos n with h0 | h0
  · subst h0
    refine z_iconst (pc := 0) (v := 1) dX7_factorial_0 (by decide) ?_
    refine z_istore_n (pc := 1) dX7_factorial_1 rfl (by decide) ?_
    refine z_iconst (pc := 2) (v := 2) dX7_factorial_2 (by decide) ?_
    refine z_istore_n (pc := 3) dX7_factorial_3 rfl (by decide) ?_
    refine z_iload_n (pc := 4) dX7_factorial_4 rfl ?_
    refine z_iload_n (pc := 5) dX7_factorial_5 rfl ?_
    refine z_icmp_gt (pc := 6) (tgt := 19) dX7_factorial_6 (by decide) (fun h6 => ?_) (fun h6 => ?_)
    · refine z_iload_n (pc := 19) dX7_factorial_19 rfl ?_
      refine z_iret (pc := 20) rfl dX7_factorial_20 ?_ ?_
      · rfl
      · rfl
    · exact absurd (z_ngt h6 (show (2 : Int32) = nI 2 from rfl) (show nI 0 = nI 0 from rfl) (by omega) (by omega)) (by omega)
  · refine z_iconst (pc := 0) (v := 1) dX7_factorial_0 (by decide) ?_
    refine z_istore_n (pc := 1) dX7_factorial_1 rfl (by decide) ?_
    refine z_iconst (pc := 2) (v := 2) dX7_factorial_2 (by decide) ?_
    refine z_istore_n (pc := 3) dX7_factorial_3 rfl (by decide) ?_
    exact s_X7_factorial_4 (by omega) (n - 1) 1 _ _ rfl rfl (by omega)
