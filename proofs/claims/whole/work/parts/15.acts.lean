/-- q is a plight's number, q + 1 its row of wear -/
def PL (q : Nat) : Prop := z_shp[q]? = some (.inr (.inl (2, [0, q + 1 + 2, 0]))) ∧ z_shp[q + 1]? = some (.inl (0, 7))
theorem PL_acts : ∀ t, t < 14 → PL (20 + 2 * t)
  | 0, _ => ⟨rfl, rfl⟩
  | 1, _ => ⟨rfl, rfl⟩
  | 2, _ => ⟨rfl, rfl⟩
  | 3, _ => ⟨rfl, rfl⟩
  | 4, _ => ⟨rfl, rfl⟩
  | 5, _ => ⟨rfl, rfl⟩
  | 6, _ => ⟨rfl, rfl⟩
  | 7, _ => ⟨rfl, rfl⟩
  | 8, _ => ⟨rfl, rfl⟩
  | 9, _ => ⟨rfl, rfl⟩
  | 10, _ => ⟨rfl, rfl⟩
  | 11, _ => ⟨rfl, rfl⟩
  | 12, _ => ⟨rfl, rfl⟩
  | 13, _ => ⟨rfl, rfl⟩
  | t + 14, h => absurd h (by omega)
theorem PL_14 : PL 14 := ⟨rfl, rfl⟩
theorem PL_16 : PL 16 := ⟨rfl, rfl⟩
theorem PL_49 : PL 49 := ⟨rfl, rfl⟩
theorem PL_51 : PL 51 := ⟨rfl, rfl⟩
set_option maxRecDepth 100000 in
set_option maxHeartbeats 400000 in
theorem s_X2_become_18 {M M2 : z_Mem} {r : Option Value} {q p : Nat} (hq : PL q) (hp : PL p) (h9 : p ≠ q) (kk : z_Sm mX2_become r M2 42 [some (.ref q), some (.ref p), none] [] (z_row M (q + 1) (cpF (7) (M.1 (p + 1)) (M.1 (q + 1))))) (j : Nat) (hj : j ≤ 7) (ij : Int32) (Mj : z_Mem) (h2 : ij = nI j) (hM : Mj = z_row M (q + 1) (cpF j (M.1 (p + 1)) (M.1 (q + 1)))) : z_Sm mX2_become r M2 18 [some (.ref q), some (.ref p), some (.int ij)] [] Mj := by
  refine z_iload_n (pc := 18) dX2_become_18 rfl ?_
  refine z_bipush (pc := 19) (v := 7) dX2_become_19 (by decide) ?_
  refine z_icmp_ge (pc := 21) (tgt := 42) dX2_become_21 (by decide) (fun h21 => ?_) (fun h21 => ?_)
  · have hNj : 7 ≤ j := by
      have := z_ge h21 h2 (show (7 : Int32) = nI 7 from rfl) (by omega) (by omega)
      omega
    obtain rfl : j = 7 := by omega
    subst hM
    exact z_drop 2 kk
  · have hlt : j < 7 := by
      have := z_lt h21 h2 (show (7 : Int32) = nI 7 from rfl) (by omega) (by omega)
      omega
    refine z_aload_n (pc := 24) dX2_become_24 rfl ?_
    refine z_getR (pc := 25) (q + 1) q_fX2_15 hq.1 rfl dX2_become_25 ?_
    refine z_iload_n (pc := 28) dX2_become_28 rfl ?_
    refine z_aload_n (pc := 29) dX2_become_29 rfl ?_
    refine z_getR (pc := 30) (p + 1) q_fX2_15 hp.1 rfl dX2_become_30 ?_
    refine z_iload_n (pc := 33) dX2_become_33 rfl ?_
    refine z_iald (pc := 34) (j) hp.2 ⟨h2, hlt, by decide⟩ dX2_become_34 ?_
    refine z_iast (pc := 35) (j) hq.2 ⟨h2, hlt, by decide⟩ dX2_become_35 ?_
    refine z_iinc (pc := 36) dX2_become_36 rfl rfl rfl (by decide) ?_
    refine z_goto (pc := 39) (tgt := 18) dX2_become_39 (by decide) ?_
    exact s_X2_become_18 hq hp h9 kk (j + 1) hlt _ _ (z_n1 h2) (by rw [hM, z_set, z_row_1, z_row_n _ _ (by omega), z_row_row, cpF_s])
termination_by 7 - j
decreasing_by all_goals omega
set_option maxRecDepth 100000 in
set_option maxHeartbeats 400000 in
theorem e_X2_become {M : z_Mem} {q p : Nat} (hq : PL q) (hp : PL p) (h9 : p ≠ q) (h8 : p ≠ q + 1) (h7 : q ≠ p + 1) : z_Ct mX2_become [.ref q, .ref p] M none (z_row (z_set (z_set M q 0 (M.1 p 0)) q 2 (M.1 p 2)) (q + 1) (cpF 7 (M.1 (p + 1)) (M.1 (q + 1)))) := by
  refine z_entry (by decide +kernel) (Nat.le_of_ble_eq_true rfl) rfl ?_
  show z_Sm mX2_become _ _ 0 [some (.ref q), some (.ref p), none] [] M
  refine z_aload_n (pc := 0) dX2_become_0 rfl ?_
  refine z_aload_n (pc := 1) dX2_become_1 rfl ?_
  refine z_getI (pc := 2) q_fX2_9 hp.1 rfl dX2_become_2 ?_
  refine z_putI (pc := 5) q_fX2_9 q_p2_0 hq.1 rfl dX2_become_5 ?_
  refine z_aload_n (pc := 8) dX2_become_8 rfl ?_
  refine z_aload_n (pc := 9) dX2_become_9 rfl ?_
  refine z_getI (pc := 10) q_fX2_19 hp.1 rfl dX2_become_10 ?_
  refine z_putI (pc := 13) q_fX2_19 q_p2_2 hq.1 rfl dX2_become_13 ?_
  refine z_iconst (pc := 16) (v := 0) dX2_become_16 (by decide) ?_
  refine z_istore_n (pc := 17) dX2_become_17 rfl (by decide) ?_
  have e0 : (z_set M q 0 (M.1 p 0)).1 p 2 = M.1 p 2 := by rw [z_set, z_row_n _ _ h9]
  rw [e0]
  refine s_X2_become_18 hq hp h9 ?_ 0 (by omega) _ _ rfl (by rw [cpF_0, z_row_same])
  refine z_eq (N := z_row (z_set (z_set M q 0 (M.1 p 0)) q 2 (M.1 p 2)) (q + 1) (cpF 7 (M.1 (p + 1)) (M.1 (q + 1)))) rfl rfl ?_ ?_
  · have eN : ∀ i, i ≠ q → (z_set (z_set M q 0 (M.1 p 0)) q 2 (M.1 p 2)).1 i = M.1 i := fun i hi => by rw [z_set, z_row_n _ _ hi, z_set, z_row_n _ _ hi]
    rw [eN (p + 1) (by omega), eN (q + 1) (by omega)]
  · refine z_vret (pc := 42) rfl dX2_become_42 ?_
    rfl
theorem c_X2_become {M : z_Mem} {q p : Nat} (hq : PL q) (hp : PL p) (h9 : p ≠ q) (h8 : p ≠ q + 1) (h7 : q ≠ p + 1) {x : PLt} (hx : PlAt M p x) : ∃ M1, z_Ct mX2_become [.ref q, .ref p] M none M1 ∧ PlAt M1 q x ∧ Sb [q, q + 1] M M1 := by
  obtain ⟨h0, hw, hd⟩ := hx
  refine ⟨_, e_X2_become hq hp h9 h8 h7, ⟨?_, fun k hk => ?_, ?_⟩, ((Sb.set _ (by simp)).tr (Sb.set _ (by simp))).tr (Sb.row _ (by simp))⟩
  · rw [z_row_n _ _ (by omega), z_set, z_row_1, upd_n _ _ (by decide), z_set, z_row_1, upd_1]; exact h0
  · rw [z_row_1, cpF, if_pos hk]; exact hw k hk
  · rw [z_row_n _ _ (by omega), z_set, z_row_1, upd_1]; exact hd
set_option maxRecDepth 100000 in
set_option maxHeartbeats 400000 in
theorem s_X2_begin_12 {M M2 : z_Mem} {r : Option Value}  (kk : z_Sm mX2_begin r M2 31 [some (.ref 14), none] [] (z_row M 15 (cpF (7) (fun _ => 0) (M.1 15)))) (j : Nat) (hj : j ≤ 7) (ij : Int32) (Mj : z_Mem) (h2 : ij = nI j) (hM : Mj = z_row M 15 (cpF j (fun _ => 0) (M.1 15))) : z_Sm mX2_begin r M2 12 [some (.ref 14), some (.int ij)] [] Mj := by
  refine z_iload_n (pc := 12) dX2_begin_12 rfl ?_
  refine z_bipush (pc := 13) (v := 7) dX2_begin_13 (by decide) ?_
  refine z_icmp_ge (pc := 15) (tgt := 31) dX2_begin_15 (by decide) (fun h15 => ?_) (fun h15 => ?_)
  · have hNj : 7 ≤ j := by
      have := z_ge h15 h2 (show (7 : Int32) = nI 7 from rfl) (by omega) (by omega)
      omega
    obtain rfl : j = 7 := by omega
    subst hM
    exact z_drop 1 kk
  · have hlt : j < 7 := by
      have := z_lt h15 h2 (show (7 : Int32) = nI 7 from rfl) (by omega) (by omega)
      omega
    refine z_aload_n (pc := 18) dX2_begin_18 rfl ?_
    refine z_getR (pc := 19) 15 q_fX2_15 z_s14 rfl dX2_begin_19 ?_
    refine z_iload_n (pc := 22) dX2_begin_22 rfl ?_
    refine z_iconst (pc := 23) (v := 0) dX2_begin_23 (by decide) ?_
    refine z_iast (pc := 24) (j) z_s15 ⟨h2, hlt, by decide⟩ dX2_begin_24 ?_
    refine z_iinc (pc := 25) dX2_begin_25 rfl rfl rfl (by decide) ?_
    refine z_goto (pc := 28) (tgt := 12) dX2_begin_28 (by decide) ?_
    exact s_X2_begin_12  kk (j + 1) hlt _ _ (z_n1 h2) (by rw [hM, z_set, z_row_1, z_row_row]; exact congrArg (z_row M 15) (cpF_s j (fun _ => 0) (M.1 15)))
termination_by 7 - j
decreasing_by all_goals omega
set_option maxRecDepth 100000 in
set_option maxHeartbeats 400000 in
theorem c_X2_begin {M : z_Mem} : ∃ M1, z_Ct mX2_begin [.ref 14] M none M1 ∧ PlAt M1 14 (0, fun _ => 0, 0) ∧ Sb [14, 15] M M1 := by
  refine ⟨z_row (z_set (z_set M 14 0 0) 14 2 0) 15 (cpF 7 (fun _ => 0) ((z_set (z_set M 14 0 0) 14 2 0).1 15)), ?_, ⟨?_, fun k hk => ?_, ?_⟩, ((Sb.set _ (by simp)).tr (Sb.set _ (by simp))).tr (Sb.row _ (by simp))⟩
  · refine z_entry (by decide +kernel) (Nat.le_of_ble_eq_true rfl) rfl ?_
    show z_Sm mX2_begin _ _ 0 [some (.ref 14), none] [] M
    refine z_aload_n (pc := 0) dX2_begin_0 rfl ?_
    refine z_iconst (pc := 1) (v := 0) dX2_begin_1 (by decide) ?_
    refine z_putI (pc := 2) q_fX2_9 q_p2_0 z_s14 rfl dX2_begin_2 ?_
    refine z_aload_n (pc := 5) dX2_begin_5 rfl ?_
    refine z_iconst (pc := 6) (v := 0) dX2_begin_6 (by decide) ?_
    refine z_putI (pc := 7) q_fX2_19 q_p2_2 z_s14 rfl dX2_begin_7 ?_
    refine z_iconst (pc := 10) (v := 0) dX2_begin_10 (by decide) ?_
    refine z_istore_n (pc := 11) dX2_begin_11 rfl (by decide) ?_
    refine s_X2_begin_12 ?_ 0 (by omega) _ _ rfl (by rw [cpF_0, z_row_same])
    refine z_vret (pc := 31) rfl dX2_begin_31 ?_
    rfl
  · rw [z_row_n _ _ (by decide), z_set, z_row_1, upd_n _ _ (by decide), z_set, z_row_1, upd_1]
  · rw [z_row_1, cpF, if_pos hk]
  · rw [z_row_n _ _ (by decide), z_set, z_row_1, upd_1]; rfl
set_option maxRecDepth 100000 in
set_option maxHeartbeats 400000 in
theorem c_X2_close_14 {M : z_Mem} {p : PLt} (hp : PlAt M 14 p) {x : Int32} {j : Nat} (hx : x = nI j) (hj : j < 7) : ∃ M1, z_Ct mX2_close [.ref 14, .int x] M none M1 ∧ PlAt M1 14 (p.1 &&& (em j ^^^ (-1)), upd p.2.1 j 0, p.2.2) ∧ Sb [14, 15] M M1 := by
  obtain ⟨h0, hw, hd⟩ := hp
  refine ⟨z_set (z_set M 14 0 (p.1 &&& (em j ^^^ (-1)))) 15 j 0, ?_, ⟨?_, fun k hk => ?_, ?_⟩, (Sb.set _ (by simp)).tr (Sb.set _ (by simp))⟩
  · refine z_entry (by decide +kernel) (Nat.le_of_ble_eq_true rfl) rfl ?_
    show z_Sm mX2_close _ _ 0 [some (.ref 14), some (.int x)] [] M
    refine z_aload_n (pc := 0) dX2_close_0 rfl ?_
    refine z_dup (pc := 1) dX2_close_1 rfl ?_
    refine z_getI (pc := 2) q_fX2_9 z_s14 rfl dX2_close_2 ?_
    refine z_iconst (pc := 5) (v := 1) dX2_close_5 (by decide) ?_
    refine z_iload_n (pc := 6) dX2_close_6 rfl ?_
    refine z_ishl (pc := 7) dX2_close_7 ?_
    refine z_iconst (pc := 8) (v := (-1)) dX2_close_8 (by decide) ?_
    refine z_ixor (pc := 9) dX2_close_9 ?_
    refine z_iand (pc := 10) dX2_close_10 ?_
    refine z_putI (pc := 11) q_fX2_9 q_p2_0 z_s14 rfl dX2_close_11 ?_
    refine z_aload_n (pc := 14) dX2_close_14 rfl ?_
    refine z_getR (pc := 15) 15 q_fX2_15 z_s14 rfl dX2_close_15 ?_
    refine z_iload_n (pc := 18) dX2_close_18 rfl ?_
    refine z_iconst (pc := 19) (v := 0) dX2_close_19 (by decide) ?_
    refine z_iast (pc := 20) (j) z_s15 ⟨hx, hj, by decide⟩ dX2_close_20 ?_
    refine z_vret (pc := 21) rfl dX2_close_21 ?_
    rw [h0, hx]; rfl
  · rw [z_set, z_row_n _ _ (by decide), z_set, z_row_1, upd_1]
  · rw [z_set, z_row_1, z_set, z_row_n _ _ (by decide)]
    show (if k = j then (0 : Int32) else _) = if k = j then 0 else _
    split
    · rfl
    · exact hw k hk
  · rw [z_set, z_row_n _ _ (by decide), z_set, z_row_1, upd_n _ _ (by decide)]; exact hd
set_option maxRecDepth 100000 in
set_option maxHeartbeats 400000 in
theorem c_X2_unpin_14 {M : z_Mem} {p : PLt} (hp : PlAt M 14 p) {x : Int32} {j : Nat} (hx : x = nI j) : ∃ M1, z_Ct mX2_unpin [.ref 14, .int x] M none M1 ∧ PlAt M1 14 (p.1 ||| em j, p.2.1, p.2.2) ∧ Sb [14, 15] M M1 := by
  obtain ⟨h0, hw, hd⟩ := hp
  refine ⟨z_set M 14 0 (p.1 ||| em j), ?_, ⟨?_, fun k hk => ?_, ?_⟩, (Sb.set _ (by simp))⟩
  · refine z_entry (by decide +kernel) (Nat.le_of_ble_eq_true rfl) rfl ?_
    show z_Sm mX2_unpin _ _ 0 [some (.ref 14), some (.int x)] [] M
    refine z_aload_n (pc := 0) dX2_unpin_0 rfl ?_
    refine z_dup (pc := 1) dX2_unpin_1 rfl ?_
    refine z_getI (pc := 2) q_fX2_9 z_s14 rfl dX2_unpin_2 ?_
    refine z_iconst (pc := 5) (v := 1) dX2_unpin_5 (by decide) ?_
    refine z_iload_n (pc := 6) dX2_unpin_6 rfl ?_
    refine z_ishl (pc := 7) dX2_unpin_7 ?_
    refine z_ior (pc := 8) dX2_unpin_8 ?_
    refine z_putI (pc := 9) q_fX2_9 q_p2_0 z_s14 rfl dX2_unpin_9 ?_
    refine z_vret (pc := 12) rfl dX2_unpin_12 ?_
    rw [h0, hx]; rfl
  · rw [z_set, z_row_1, upd_1]
  · rw [z_set, z_row_n _ _ (by decide)]; exact hw k hk
  · rw [z_set, z_row_1, upd_n _ _ (by decide)]; exact hd
set_option maxRecDepth 100000 in
set_option maxHeartbeats 400000 in
theorem c_X2_close_16 {M : z_Mem} {p : PLt} (hp : PlAt M 16 p) {x : Int32} {j : Nat} (hx : x = nI j) (hj : j < 7) : ∃ M1, z_Ct mX2_close [.ref 16, .int x] M none M1 ∧ PlAt M1 16 (p.1 &&& (em j ^^^ (-1)), upd p.2.1 j 0, p.2.2) ∧ Sb [16, 17] M M1 := by
  obtain ⟨h0, hw, hd⟩ := hp
  refine ⟨z_set (z_set M 16 0 (p.1 &&& (em j ^^^ (-1)))) 17 j 0, ?_, ⟨?_, fun k hk => ?_, ?_⟩, (Sb.set _ (by simp)).tr (Sb.set _ (by simp))⟩
  · refine z_entry (by decide +kernel) (Nat.le_of_ble_eq_true rfl) rfl ?_
    show z_Sm mX2_close _ _ 0 [some (.ref 16), some (.int x)] [] M
    refine z_aload_n (pc := 0) dX2_close_0 rfl ?_
    refine z_dup (pc := 1) dX2_close_1 rfl ?_
    refine z_getI (pc := 2) q_fX2_9 z_s16 rfl dX2_close_2 ?_
    refine z_iconst (pc := 5) (v := 1) dX2_close_5 (by decide) ?_
    refine z_iload_n (pc := 6) dX2_close_6 rfl ?_
    refine z_ishl (pc := 7) dX2_close_7 ?_
    refine z_iconst (pc := 8) (v := (-1)) dX2_close_8 (by decide) ?_
    refine z_ixor (pc := 9) dX2_close_9 ?_
    refine z_iand (pc := 10) dX2_close_10 ?_
    refine z_putI (pc := 11) q_fX2_9 q_p2_0 z_s16 rfl dX2_close_11 ?_
    refine z_aload_n (pc := 14) dX2_close_14 rfl ?_
    refine z_getR (pc := 15) 17 q_fX2_15 z_s16 rfl dX2_close_15 ?_
    refine z_iload_n (pc := 18) dX2_close_18 rfl ?_
    refine z_iconst (pc := 19) (v := 0) dX2_close_19 (by decide) ?_
    refine z_iast (pc := 20) (j) z_s17 ⟨hx, hj, by decide⟩ dX2_close_20 ?_
    refine z_vret (pc := 21) rfl dX2_close_21 ?_
    rw [h0, hx]; rfl
  · rw [z_set, z_row_n _ _ (by decide), z_set, z_row_1, upd_1]
  · rw [z_set, z_row_1, z_set, z_row_n _ _ (by decide)]
    show (if k = j then (0 : Int32) else _) = if k = j then 0 else _
    split
    · rfl
    · exact hw k hk
  · rw [z_set, z_row_n _ _ (by decide), z_set, z_row_1, upd_n _ _ (by decide)]; exact hd
set_option maxRecDepth 100000 in
set_option maxHeartbeats 400000 in
theorem c_X2_unpin_16 {M : z_Mem} {p : PLt} (hp : PlAt M 16 p) {x : Int32} {j : Nat} (hx : x = nI j) : ∃ M1, z_Ct mX2_unpin [.ref 16, .int x] M none M1 ∧ PlAt M1 16 (p.1 ||| em j, p.2.1, p.2.2) ∧ Sb [16, 17] M M1 := by
  obtain ⟨h0, hw, hd⟩ := hp
  refine ⟨z_set M 16 0 (p.1 ||| em j), ?_, ⟨?_, fun k hk => ?_, ?_⟩, (Sb.set _ (by simp))⟩
  · refine z_entry (by decide +kernel) (Nat.le_of_ble_eq_true rfl) rfl ?_
    show z_Sm mX2_unpin _ _ 0 [some (.ref 16), some (.int x)] [] M
    refine z_aload_n (pc := 0) dX2_unpin_0 rfl ?_
    refine z_dup (pc := 1) dX2_unpin_1 rfl ?_
    refine z_getI (pc := 2) q_fX2_9 z_s16 rfl dX2_unpin_2 ?_
    refine z_iconst (pc := 5) (v := 1) dX2_unpin_5 (by decide) ?_
    refine z_iload_n (pc := 6) dX2_unpin_6 rfl ?_
    refine z_ishl (pc := 7) dX2_unpin_7 ?_
    refine z_ior (pc := 8) dX2_unpin_8 ?_
    refine z_putI (pc := 9) q_fX2_9 q_p2_0 z_s16 rfl dX2_unpin_9 ?_
    refine z_vret (pc := 12) rfl dX2_unpin_12 ?_
    rw [h0, hx]; rfl
  · rw [z_set, z_row_1, upd_1]
  · rw [z_set, z_row_n _ _ (by decide)]; exact hw k hk
  · rw [z_set, z_row_1, upd_n _ _ (by decide)]; exact hd
/-- wear of all pins of a row of seven -/
def wsF (w : Nat → Int32) : Nat → Int32
  | 0 => 0
  | n + 1 => wsF w n + w n
theorem wsF_cong {w v : Nat → Int32} : ∀ n, (∀ k, k < n → w k = v k) → wsF w n = wsF v n
  | 0, _ => rfl
  | n + 1, h => by rw [wsF, wsF, wsF_cong n (fun k hk => h k (by omega)), h n (by omega)]
set_option maxRecDepth 100000 in
set_option maxHeartbeats 400000 in
theorem s_X2_wearOfAll_4 {M M2 : z_Mem} {r : Option Value}  (kk : z_Sm mX2_wearOfAll r M2 25 [some (.ref 14), some (.int (wsF (M.1 15) (7))), none] [] (M)) (j : Nat) (hj : j ≤ 7) (ij : Int32) (v : Int32) (h2 : ij = nI j) (hv_v : v = wsF (M.1 15) j) : z_Sm mX2_wearOfAll r M2 4 [some (.ref 14), some (.int v), some (.int ij)] [] M := by
  refine z_iload_n (pc := 4) dX2_wearOfAll_4 rfl ?_
  refine z_bipush (pc := 5) (v := 7) dX2_wearOfAll_5 (by decide) ?_
  refine z_icmp_ge (pc := 7) (tgt := 25) dX2_wearOfAll_7 (by decide) (fun h7 => ?_) (fun h7 => ?_)
  · have hNj : 7 ≤ j := by
      have := z_ge h7 h2 (show (7 : Int32) = nI 7 from rfl) (by omega) (by omega)
      omega
    obtain rfl : j = 7 := by omega
    subst hv_v
    exact z_drop 2 kk
  · have hlt : j < 7 := by
      have := z_lt h7 h2 (show (7 : Int32) = nI 7 from rfl) (by omega) (by omega)
      omega
    refine z_iload_n (pc := 10) dX2_wearOfAll_10 rfl ?_
    refine z_aload_n (pc := 11) dX2_wearOfAll_11 rfl ?_
    refine z_getR (pc := 12) 15 q_fX2_15 z_s14 rfl dX2_wearOfAll_12 ?_
    refine z_iload_n (pc := 15) dX2_wearOfAll_15 rfl ?_
    refine z_iald (pc := 16) (j) z_s15 ⟨h2, hlt, by decide⟩ dX2_wearOfAll_16 ?_
    refine z_iadd (pc := 17) dX2_wearOfAll_17 ?_
    refine z_istore_n (pc := 18) dX2_wearOfAll_18 rfl (by decide) ?_
    refine z_iinc (pc := 19) dX2_wearOfAll_19 rfl rfl rfl (by decide) ?_
    refine z_goto (pc := 22) (tgt := 4) dX2_wearOfAll_22 (by decide) ?_
    exact s_X2_wearOfAll_4  kk (j + 1) hlt _ _ (z_n1 h2) (by rw [hv_v, wsF])
termination_by 7 - j
decreasing_by all_goals omega
set_option maxRecDepth 100000 in
set_option maxHeartbeats 400000 in
theorem c_X2_wearOfAll {M : z_Mem}  : z_Ct mX2_wearOfAll [.ref 14] M (some (.int (wsF (M.1 15) 7))) M := by
  refine z_entry (by decide +kernel) (Nat.le_of_ble_eq_true rfl) rfl ?_
  show z_Sm mX2_wearOfAll _ _ 0 [some (.ref 14), none, none] [] M
  refine z_iconst (pc := 0) (v := 0) dX2_wearOfAll_0 (by decide) ?_
  refine z_istore_n (pc := 1) dX2_wearOfAll_1 rfl (by decide) ?_
  refine z_iconst (pc := 2) (v := 0) dX2_wearOfAll_2 (by decide) ?_
  refine z_istore_n (pc := 3) dX2_wearOfAll_3 rfl (by decide) ?_
  refine s_X2_wearOfAll_4 ?_ 0 (by omega) _ _ rfl rfl
  refine z_iload_n (pc := 25) dX2_wearOfAll_25 rfl ?_
  refine z_iret (pc := 26) rfl dX2_wearOfAll_26 ?_ ?_
  · rfl
  · rfl
/-- the row of acts: the plights before them, the last first -/
def AcAt (M : z_Mem) (A : List PLt) : Prop := ∃ t, t < 14 ∧ M.1 18 1 = nI t ∧ M.1 18 2 = nI A.length ∧ A.length ≤ 14 ∧ ∀ i pl, A[i]? = some pl → PlAt M (20 + 2 * ((t + 13 - i) % 14)) pl
theorem AcAt_sb {ids : List Nat} {M N : z_Mem} {A : List PLt} (h : AcAt M A) (s : Sb ids M N) (hi : ∀ i ∈ ids, i < 18 ∨ 47 < i) : AcAt N A := by
  obtain ⟨t, ht, h1, h2, h3, h4⟩ := h
  have e : ∀ i, 18 ≤ i → i ≤ 47 → i ∉ ids := fun i a b q => by have := hi i q; omega
  refine ⟨t, ht, by rw [s.1 18 (e 18 (by omega) (by omega))]; exact h1, by rw [s.1 18 (e 18 (by omega) (by omega))]; exact h2, h3, fun i pl hp => ?_⟩
  have : (t + 13 - i) % 14 < 14 := Nat.mod_lt _ (by decide)
  exact PlAt_sb (h4 i pl hp) s (e _ (by omega) (by omega)) (e _ (by omega) (by omega))
theorem take14 {A : List PLt} {pl : PLt} (h : A.length ≤ 14) : ((pl :: A).take 14).length = if A.length < 14 then A.length + 1 else 14 := by
  rw [List.length_take, List.length_cons]
  split <;> omega
set_option maxRecDepth 100000 in
set_option maxHeartbeats 400000 in
theorem c_X0_forget {M : z_Mem}  : z_Ct mX0_forget [.ref 18] M none (z_set M 18 2 0) := by
  refine z_entry (by decide +kernel) (Nat.le_of_ble_eq_true rfl) rfl ?_
  show z_Sm mX0_forget _ _ 0 [some (.ref 18)] [] M
  refine z_aload_n (pc := 0) dX0_forget_0 rfl ?_
  refine z_iconst (pc := 1) (v := 0) dX0_forget_1 (by decide) ?_
  refine z_putI (pc := 2) q_fX0_21 q_p0_2 z_s18 rfl dX0_forget_2 ?_
  refine z_vret (pc := 5) rfl dX0_forget_5 ?_
  rfl
def z_ring : List Nat := List.range' 18 30
theorem z_ring_in {t : Nat} (h : t < 14) : 20 + 2 * t ∈ z_ring ∧ 20 + 2 * t + 1 ∈ z_ring := by
  unfold z_ring
  rw [List.mem_range'_1, List.mem_range'_1]
  omega
theorem z_ring_18 : 18 ∈ z_ring := by decide
theorem z_befores {t : Nat} (h : t < 14) : ([20, 22, 24, 26, 28, 30, 32, 34, 36, 38, 40, 42, 44, 46] : List Nat)[t]? = some (20 + 2 * t) := by
  have : ∀ t, t < 14 → ([20, 22, 24, 26, 28, 30, 32, 34, 36, 38, 40, 42, 44, 46] : List Nat)[t]? = some (20 + 2 * t) := by decide +kernel
  exact this t h
set_option maxRecDepth 100000 in
set_option maxHeartbeats 400000 in
theorem c_X0_remember {M : z_Mem} {A : List PLt} {p : PLt} (hA : AcAt M A) (hp : PlAt M 14 p) : ∃ M1, z_Ct mX0_remember [.ref 18, .ref 14] M none M1 ∧ AcAt M1 ((p :: A).take 14) ∧ Sb z_ring M M1 := by
  obtain ⟨t, ht, h1, h2, h3, h4⟩ := hA
  obtain ⟨N, hN, hNp, hNs⟩ := c_X2_become (PL_acts t ht) PL_14 (by omega) (by omega) (by omega) hp
  have e18 : N.1 18 = M.1 18 := hNs.1 18 (by simp; omega)
  have hm : nI t + 1 - (nI t + 1) / 14 * 14 = nI ((t + 1) % 14) := by
    rw [← nI_succ]
    exact pk_rem (d := 14) (by omega) (by decide) (by decide)
  have hl : (if nI A.length + 1 < (14 : Int32) then nI A.length + 1 else 14) = nI ((p :: A).take 14).length := by
    rw [take14 h3, ← nI_succ]
    by_cases q : A.length < 14
    · rw [if_pos q]
      by_cases q2 : A.length + 1 < 14
      · rw [if_pos (show nI (A.length + 1) < (14 : Int32) from nI_lt (b := 14) q2 (by decide))]
      · have : A.length + 1 = 14 := by omega
        rw [this]; rfl
    · rw [if_neg q, if_neg (show ¬ nI (A.length + 1) < (14 : Int32) from nI_nlt (b := 14) (by omega) (by omega))]; rfl
  refine ⟨z_set (z_set N 18 1 (nI ((t + 1) % 14))) 18 2 (nI ((p :: A).take 14).length), ?_, ⟨(t + 1) % 14, Nat.mod_lt _ (by decide), ?_, ?_, by rw [List.length_take]; omega, fun i pl hi => ?_⟩, (hNs.wk (fun i hi => ?_)).tr ((Sb.set _ z_ring_18).tr (Sb.set _ z_ring_18))⟩
  · refine z_entry (by decide +kernel) (Nat.le_of_ble_eq_true rfl) rfl ?_
    show z_Sm mX0_remember _ _ 0 [some (.ref 18), some (.ref 14)] [] M
    refine z_aload_n (pc := 0) dX0_remember_0 rfl ?_
    refine z_getR (pc := 1) 19 q_fX0_11 z_s18 rfl dX0_remember_1 ?_
    refine z_aload_n (pc := 4) dX0_remember_4 rfl ?_
    refine z_getI (pc := 5) q_fX0_17 z_s18 rfl dX0_remember_5 ?_
    refine z_aald (pc := 8) (t) z_s19 ⟨h1, ht, by decide⟩ (z_befores ht) dX0_remember_8 ?_
    refine z_aload_n (pc := 9) dX0_remember_9 rfl ?_
    refine z_cV1v (pc := 10) hN (q_cX0_25 _ (by decide)) (PL_acts t ht).1 rfl rfl dX0_remember_10 ?_
    refine z_aload_n (pc := 13) dX0_remember_13 rfl ?_
    refine z_aload_n (pc := 14) dX0_remember_14 rfl ?_
    refine z_getI (pc := 15) q_fX0_17 z_s18 rfl dX0_remember_15 ?_
    refine z_iconst (pc := 18) (v := 1) dX0_remember_18 (by decide) ?_
    refine z_iadd (pc := 19) dX0_remember_19 ?_
    refine z_bipush (pc := 20) (v := 14) dX0_remember_20 (by decide) ?_
    refine z_irem (pc := 22) dX0_remember_22 (by decide) ?_
    refine z_putI (pc := 23) q_fX0_17 q_p0_1 z_s18 rfl dX0_remember_23 ?_
    refine z_aload_n (pc := 26) dX0_remember_26 rfl ?_
    refine z_bipush (pc := 27) (v := 14) dX0_remember_27 (by decide) ?_
    refine z_aload_n (pc := 29) dX0_remember_29 rfl ?_
    refine z_getI (pc := 30) q_fX0_21 z_s18 rfl dX0_remember_30 ?_
    refine z_iconst (pc := 33) (v := 1) dX0_remember_33 (by decide) ?_
    refine z_iadd (pc := 34) dX0_remember_34 ?_
    refine z_cS2 (pc := 35) c_J9_min_7cf53 (q_cX0_29 _ (by decide)) rfl dX0_remember_35 ?_
    refine z_putI (pc := 38) q_fX0_21 q_p0_2 z_s18 rfl dX0_remember_38 ?_
    refine z_vret (pc := 41) rfl dX0_remember_41 ?_
    rw [e18, h1, hm]
    have e9 : (z_set N 18 1 (nI ((t + 1) % 14))).1 18 2 = nI A.length := by rw [z_set, z_row_1, upd_n _ _ (by decide), e18]; exact h2
    rw [e9, hl]
  · rw [z_set, z_row_1, upd_n _ _ (by decide), z_set, z_row_1, upd_1]
  · rw [z_set, z_row_1, upd_1]
  · have hs2 : Sb [18] N (z_set (z_set N 18 1 (nI ((t + 1) % 14))) 18 2 (nI ((p :: A).take 14).length)) := (Sb.set _ (by simp)).tr (Sb.set _ (by simp))
    have hi14 : i < 14 := by
      have := (List.getElem?_eq_some_iff.mp hi).1
      rw [List.length_take] at this; omega
    rw [List.getElem?_take_of_lt hi14] at hi
    match i, hi with
    | 0, hi =>
      simp at hi
      subst hi
      rw [show ((t + 1) % 14 + 13 - 0) % 14 = t by omega]
      exact PlAt_sb hNp hs2 (by simp; omega) (by simp; omega)
    | i + 1, hi =>
      have hi2 : A[i]? = some pl := by simpa using hi
      have e : ((t + 1) % 14 + 13 - (i + 1)) % 14 = (t + 13 - i) % 14 := by omega
      rw [e]
      have hne : (t + 13 - i) % 14 ≠ t := by omega
      have := h4 i pl hi2
      exact PlAt_sb (PlAt_sb this hNs (by simp; omega) (by simp; omega)) hs2 (by simp; omega) (by simp; omega)
  · have := z_ring_in ht
    simp at hi
    rcases hi with rfl | rfl
    · exact this.1
    · exact this.2
set_option maxRecDepth 100000 in
set_option maxHeartbeats 400000 in
theorem c_X0_takeBack {M : z_Mem} {A : List PLt} {p : PLt} (hA : AcAt M (p :: A)) : ∃ M1, z_Ct mX0_takeBack [.ref 18, .ref 14] M none M1 ∧ AcAt M1 A ∧ PlAt M1 14 p ∧ Sb [14, 15, 18] M M1 := by
  obtain ⟨t, ht, h1, h2, h3, h4⟩ := hA
  have h0 := h4 0 p rfl
  rw [Nat.sub_zero] at h0
  have ht2 : (t + 13) % 14 < 14 := Nat.mod_lt _ (by decide)
  have hm : nI t + 14 - 1 - (nI t + 14 - 1) / 14 * 14 = nI ((t + 13) % 14) := by
    rw [show (14 : Int32) = nI 14 from rfl, show (1 : Int32) = nI 1 from rfl, nI_add, pk_sub (by omega), show t + 14 - 1 = t + 13 by omega]
    exact pk_rem (by omega) (by decide) (by decide)
  have hs1 : Sb [18] M (z_set M 18 1 (nI ((t + 13) % 14))) := Sb.set _ (by simp)
  obtain ⟨N, hN, hNp, hNs⟩ := c_X2_become (q := 14) PL_14 (PL_acts _ ht2) (by omega) (by omega) (by omega) (PlAt_sb h0 hs1 (by simp; omega) (by simp; omega))
  have e18 : N.1 18 = (z_set M 18 1 (nI ((t + 13) % 14))).1 18 := hNs.1 18 (by simp)
  have hs3 : Sb [18] N (z_set N 18 2 (nI A.length)) := Sb.set _ (by simp)
  rw [List.length_cons] at h2 h3
  refine ⟨z_set N 18 2 (nI A.length), ?_, ⟨(t + 13) % 14, ht2, ?_, ?_, by omega, fun i pl hi => ?_⟩, ?_, ((hs1.wk (by simp)).tr (hNs.wk (by simp))).tr (hs3.wk (by simp))⟩
  · refine z_entry (by decide +kernel) (Nat.le_of_ble_eq_true rfl) rfl ?_
    show z_Sm mX0_takeBack _ _ 0 [some (.ref 18), some (.ref 14)] [] M
    refine z_aload_n (pc := 0) dX0_takeBack_0 rfl ?_
    refine z_getI (pc := 1) q_fX0_21 z_s18 rfl dX0_takeBack_1 ?_
    refine z_if_le (pc := 4) (tgt := 46) dX0_takeBack_4 (by decide) (fun h4' => ?_) (fun h4' => ?_)
    · exact absurd h4' (by rw [h2]; exact nI_nle (by omega) (by omega))
    · refine z_aload_n (pc := 7) dX0_takeBack_7 rfl ?_
      refine z_aload_n (pc := 8) dX0_takeBack_8 rfl ?_
      refine z_getI (pc := 9) q_fX0_17 z_s18 rfl dX0_takeBack_9 ?_
      refine z_bipush (pc := 12) (v := 14) dX0_takeBack_12 (by decide) ?_
      refine z_iadd (pc := 14) dX0_takeBack_14 ?_
      refine z_iconst (pc := 15) (v := 1) dX0_takeBack_15 (by decide) ?_
      refine z_isub (pc := 16) dX0_takeBack_16 ?_
      refine z_bipush (pc := 17) (v := 14) dX0_takeBack_17 (by decide) ?_
      refine z_irem (pc := 19) dX0_takeBack_19 (by decide) ?_
      refine z_putI (pc := 20) q_fX0_17 q_p0_1 z_s18 rfl dX0_takeBack_20 ?_
      rw [h1, hm]
      refine z_aload_n (pc := 23) dX0_takeBack_23 rfl ?_
      refine z_aload_n (pc := 24) dX0_takeBack_24 rfl ?_
      refine z_getR (pc := 25) 19 q_fX0_11 z_s18 rfl dX0_takeBack_25 ?_
      refine z_aload_n (pc := 28) dX0_takeBack_28 rfl ?_
      refine z_getI (pc := 29) q_fX0_17 z_s18 rfl dX0_takeBack_29 ?_
      refine z_aald (pc := 32) ((t + 13) % 14) z_s19 ⟨by rw [z_set, z_row_1, upd_1], ht2, by decide⟩ (z_befores ht2) dX0_takeBack_32 ?_
      refine z_cV1v (pc := 33) hN (q_cX0_25 _ (by decide)) z_s14 rfl rfl dX0_takeBack_33 ?_
      refine z_aload_n (pc := 36) dX0_takeBack_36 rfl ?_
      refine z_dup (pc := 37) dX0_takeBack_37 rfl ?_
      refine z_getI (pc := 38) q_fX0_21 z_s18 rfl dX0_takeBack_38 ?_
      refine z_iconst (pc := 41) (v := 1) dX0_takeBack_41 (by decide) ?_
      refine z_isub (pc := 42) dX0_takeBack_42 ?_
      refine z_putI (pc := 43) q_fX0_21 q_p0_2 z_s18 rfl dX0_takeBack_43 ?_
      refine z_vret (pc := 46) rfl dX0_takeBack_46 ?_
      have e9 : N.1 18 2 = nI (A.length + 1) := by rw [e18, z_set, z_row_1, upd_n _ _ (by decide)]; exact h2
      rw [e9, nI_pred]
  · rw [z_set, z_row_1, upd_n _ _ (by decide), e18, z_set, z_row_1, upd_1]
  · rw [z_set, z_row_1, upd_1]
  · have hi2 : (p :: A)[i + 1]? = some pl := by simpa using hi
    have e : ((t + 13) % 14 + 13 - i) % 14 = (t + 13 - (i + 1)) % 14 := by
      have := (List.getElem?_eq_some_iff.mp hi).1
      omega
    rw [e]
    have := h4 (i + 1) pl hi2
    exact PlAt_sb (PlAt_sb (PlAt_sb this hs1 (by simp; omega) (by simp; omega)) hNs (by simp; omega) (by simp; omega)) hs3 (by simp; omega) (by simp; omega)
  · exact PlAt_sb hNp hs3 (by simp) (by simp)
