/-- the model's plight at a level -/
def PM (M : z_Mem) (lv : Nat) (p : PLt) : Prop := M.1 68 (9 * lv) = p.1 ∧ (∀ k, k < 7 → M.1 68 (9 * lv + 1 + k) = p.2.1 k) ∧ M.1 68 (9 * lv + 8) = nI p.2.2
/-- only this level and the loads have changed -/
def Sn (lv : Nat) (M N : z_Mem) : Prop := Sb [68, 73] M N ∧ ∀ i, (i < 9 * lv ∨ 9 * lv + 9 ≤ i) → N.1 68 i = M.1 68 i
theorem Sn.rf {lv : Nat} {M : z_Mem} : Sn lv M M := ⟨Sb.rf, fun _ _ => rfl⟩
theorem Sn.tr {lv : Nat} {M N K : z_Mem} (h : Sn lv M N) (h2 : Sn lv N K) : Sn lv M K := ⟨h.1.tr h2.1, fun i hi => (h2.2 i hi).trans (h.2 i hi)⟩
theorem Sn.l73 {lv : Nat} {M : z_Mem} (f : Nat → Int32) : Sn lv M (z_row M 73 f) := ⟨Sb.row f (by simp), fun i _ => by rw [z_row_n _ _ (by decide)]⟩
theorem Sn.s68 {lv k : Nat} {M : z_Mem} (v : Int32) (h : 9 * lv ≤ k ∧ k < 9 * lv + 9) : Sn lv M (z_set M 68 k v) := ⟨Sb.set v (by simp), fun i hi => by rw [z_set, z_row_1, upd_n _ _ (by omega)]⟩
theorem Sn.qm {lv : Nat} {M : z_Mem} (o : Int32) (L : Nat → Int32) : Sn lv M (qm M lv o L) := (Sn.l73 L).tr (Sn.s68 o ⟨by omega, by omega⟩)
theorem Sn.tn {lv : Nat} {M N : z_Mem} {T : TT} (s : Sn lv M N) (h : TN M T) : TN N T := TN_sb h s.1 (by simp)
theorem Sn.p0 {M N : z_Mem} {p : PLt} (s : Sn 1 M N) (h : PM M 0 p) : PM N 0 p := ⟨(s.2 _ (by omega)).trans h.1, fun k hk => (s.2 _ (by omega)).trans (h.2.1 k hk), (s.2 _ (by omega)).trans h.2.2⟩
theorem PM.l73 {M : z_Mem} {lv : Nat} {p : PLt} (h : PM M lv p) (f : Nat → Int32) : PM (z_row M 73 f) lv p := by
  unfold PM
  rw [z_row_n _ _ (show (68 : Nat) ≠ 73 by decide)]
  exact h
theorem TN.te {M : z_Mem} {T : TT} (h : TN M T) : TE T := h.ab
theorem c_X7_ping_p {M : z_Mem} {T : TT} (hT : TN M T) {lv : Nat} (hlv : lv ≤ 1) {p : PLt} (hp : PM M lv p) {K : Nat → Int32} (hK : ∀ k, k < 6 → M.1 73 k = K k) : ∃ M1, z_Ct mX7_ping [.ref 59, .int (nI lv)] M (some (.int (pgR p.1 (pgF T p.2.1 p.1 K (T.1 + 1)).1))) M1 ∧ PM M1 lv ((pgF T p.2.1 p.1 K (T.1 + 1)).1, p.2.1, p.2.2) ∧ Sn lv M M1 ∧ ∀ k, k < 6 → M1.1 73 k = (pgF T p.2.1 p.1 K (T.1 + 1)).2 k := by
  obtain ⟨h0, hw, hd⟩ := hp
  have c := c_X7_ping hT hlv
  have hP7 := hT.2.1
  have q := pgF_cong (T := T) hT.te (w := fun i => M.1 68 (9 * lv + 1 + i)) (v := p.2.1) (o := p.1) (L := M.1 73) (K := K) (fun k hk => hw k (by omega)) hK (T.1 + 1)
  rw [h0, q.1] at c
  refine ⟨_, c, ⟨qm_o _ _ _ _, fun k hk => ?_, ?_⟩, Sn.qm _ _, fun k hk => ?_⟩
  · rw [qm_w _ _ _ _ (by omega)]; exact hw k hk
  · rw [qm_w _ _ _ _ (by omega)]; exact hd
  · rw [qm_L]; exact q.2 k hk
set_option maxRecDepth 100000 in
set_option maxHeartbeats 400000 in
theorem c_X7_tugOn {M : z_Mem} {T : TT} (hT : TN M T) {lv : Nat} (hlv : lv ≤ 1) {p : PLt} (hp : PM M lv p) {x n : Int32} {t : Nat} (hx : x = nI t) (ht : t < 6) : ∃ M1, z_Ct mX7_tugOn [.ref 59, .int (nI lv), .int x, .int n] M (some (.int (pgR p.1 (tugF T p t n).1))) M1 ∧ PM M1 lv (tugF T p t n) ∧ Sn lv M M1 := by
  have s2 : Sn lv M (z_set (z_row M 73 (cpF 6 (fun _ => 0) (M.1 73))) 73 t n) := (Sn.l73 _).tr (Sn.l73 _)
  obtain ⟨M1, c1, p1, s1, -⟩ := c_X7_ping_p (s2.tn hT) hlv ((hp.l73 _).l73 _) (K := tgL t n) (fun k hk => by
    rw [z_set, z_row_1, z_row_1, tgL]
    unfold upd
    split
    · rfl
    · rw [cpF, if_pos hk])
  refine ⟨M1, ?_, p1, s2.tr s1⟩
  refine z_entry (by decide +kernel) (Nat.le_of_ble_eq_true rfl) rfl ?_
  show z_Sm mX7_tugOn _ _ 0 [some (.ref 59), some (.int (nI lv)), some (.int x), some (.int n)] [] M
  refine z_aload_n (pc := 0) dX7_tugOn_0 rfl ?_
  refine z_cV0v (pc := 1) c_X7_unload (q_cX7_140 _ (by decide)) z_s59 rfl rfl dX7_tugOn_1 ?_
  refine z_aload_n (pc := 4) dX7_tugOn_4 rfl ?_
  refine z_getR (pc := 5) 73 q_fX7_49 z_s59 rfl dX7_tugOn_5 ?_
  refine z_iload_n (pc := 8) dX7_tugOn_8 rfl ?_
  refine z_iload_n (pc := 9) dX7_tugOn_9 rfl ?_
  refine z_iast (pc := 10) (t) z_s73 ⟨hx, by omega⟩ dX7_tugOn_10 ?_
  refine z_aload_n (pc := 11) dX7_tugOn_11 rfl ?_
  refine z_iload_n (pc := 12) dX7_tugOn_12 rfl ?_
  refine z_cV1 (pc := 13) c1 (q_cX7_143 _ (by decide)) z_s59 rfl rfl dX7_tugOn_13 ?_
  refine z_iret (pc := 16) rfl dX7_tugOn_16 ?_ ?_
  · rfl
  · rfl
set_option maxRecDepth 100000 in
set_option maxHeartbeats 400000 in
theorem c_X7_shutOn {M : z_Mem} {lv : Nat} (hlv : lv ≤ 1) {p : PLt} (hp : PM M lv p) {x : Int32} {j : Nat} (hx : x = nI j) (hj : j < 7) : ∃ M1, z_Ct mX7_shutOn [.ref 59, .int (nI lv), .int x] M none M1 ∧ PM M1 lv (p.1 &&& (em j ^^^ (-1)), upd p.2.1 j 0, p.2.2) ∧ Sn lv M M1 := by
  have h9 : (9 : Int32) * nI lv = nI (9 * lv) := nx_mul 9 lv
  have hix : (9 : Int32) * nI lv + 1 + x = nI (9 * lv + 1 + j) := by rw [h9, hx, show (1 : Int32) = nI 1 from rfl, nI_add, nI_add]
  have s1 : Sn lv M (z_set M 68 (9 * lv) (M.1 68 (9 * lv) &&& (em j ^^^ (-1)))) := Sn.s68 _ ⟨by omega, by omega⟩
  have s2 : Sn lv (z_set M 68 (9 * lv) (M.1 68 (9 * lv) &&& (em j ^^^ (-1)))) (z_set (z_set M 68 (9 * lv) (M.1 68 (9 * lv) &&& (em j ^^^ (-1)))) 68 (9 * lv + 1 + j) 0) := Sn.s68 _ ⟨by omega, by omega⟩
  refine ⟨_, ?_, ⟨?_, fun k hk => ?_, ?_⟩, s1.tr s2⟩
  · subst hx
    refine z_entry (by decide +kernel) (Nat.le_of_ble_eq_true rfl) rfl ?_
    show z_Sm mX7_shutOn _ _ 0 [some (.ref 59), some (.int (nI lv)), some (.int (nI j))] [] M
    refine z_aload_n (pc := 0) dX7_shutOn_0 rfl ?_
    refine z_getR (pc := 1) 68 q_fX7_34 z_s59 rfl dX7_shutOn_1 ?_
    refine z_bipush (pc := 4) (v := 9) dX7_shutOn_4 (by decide) ?_
    refine z_iload_n (pc := 6) dX7_shutOn_6 rfl ?_
    refine z_imul (pc := 7) dX7_shutOn_7 ?_
    refine z_dup2 (pc := 8) dX7_shutOn_8 rfl rfl ?_
    refine z_iald (pc := 9) (9 * lv) z_s68 ⟨h9, by omega⟩ dX7_shutOn_9 ?_
    refine z_iconst (pc := 10) (v := 1) dX7_shutOn_10 (by decide) ?_
    refine z_iload_n (pc := 11) dX7_shutOn_11 rfl ?_
    refine z_ishl (pc := 12) dX7_shutOn_12 ?_
    refine z_iconst (pc := 13) (v := (-1)) dX7_shutOn_13 (by decide) ?_
    refine z_ixor (pc := 14) dX7_shutOn_14 ?_
    refine z_iand (pc := 15) dX7_shutOn_15 ?_
    refine z_iast (pc := 16) (9 * lv) z_s68 ⟨h9, by omega⟩ dX7_shutOn_16 ?_
    refine z_aload_n (pc := 17) dX7_shutOn_17 rfl ?_
    refine z_getR (pc := 18) 68 q_fX7_34 z_s59 rfl dX7_shutOn_18 ?_
    refine z_bipush (pc := 21) (v := 9) dX7_shutOn_21 (by decide) ?_
    refine z_iload_n (pc := 23) dX7_shutOn_23 rfl ?_
    refine z_imul (pc := 24) dX7_shutOn_24 ?_
    refine z_iconst (pc := 25) (v := 1) dX7_shutOn_25 (by decide) ?_
    refine z_iadd (pc := 26) dX7_shutOn_26 ?_
    refine z_iload_n (pc := 27) dX7_shutOn_27 rfl ?_
    refine z_iadd (pc := 28) dX7_shutOn_28 ?_
    refine z_iconst (pc := 29) (v := 0) dX7_shutOn_29 (by decide) ?_
    refine z_iast (pc := 30) (9 * lv + 1 + j) z_s68 ⟨hix, by omega⟩ dX7_shutOn_30 ?_
    refine z_vret (pc := 31) rfl dX7_shutOn_31 ?_
    rfl
  · rw [z_set, z_row_1, upd_n _ _ (by omega), z_set, z_row_1, upd_1, hp.1]
  · rw [z_set, z_row_1, z_set, z_row_1]
    show _ = upd p.2.1 j 0 k
    by_cases e : k = j
    · subst e; rw [upd_1, upd_1]
    · rw [upd_n _ _ (by omega), upd_n _ _ (by omega), upd_n _ _ e]; exact hp.2.1 k hk
  · rw [z_set, z_row_1, upd_n _ _ (by omega), z_set, z_row_1, upd_n _ _ (by omega)]; exact hp.2.2
set_option maxRecDepth 100000 in
set_option maxHeartbeats 400000 in
theorem s_X7_layTrial_2 {M M2 : z_Mem} {r : Option Value}  (kk : z_Sm mX7_layTrial r M2 29 [some (.ref 59), none] [] (z_row M 68 (fun i => if 9 ≤ i ∧ i < 9 + (9) then M.1 68 (i - 9) else M.1 68 i))) (j : Nat) (hj : j ≤ 9) (ij : Int32) (Mj : z_Mem) (h2 : ij = nI j) (hM : Mj = z_row M 68 (fun i => if 9 ≤ i ∧ i < 9 + j then M.1 68 (i - 9) else M.1 68 i)) : z_Sm mX7_layTrial r M2 2 [some (.ref 59), some (.int ij)] [] Mj := by
  refine z_iload_n (pc := 2) dX7_layTrial_2 rfl ?_
  refine z_bipush (pc := 3) (v := 9) dX7_layTrial_3 (by decide) ?_
  refine z_icmp_ge (pc := 5) (tgt := 29) dX7_layTrial_5 (by decide) (fun h5 => ?_) (fun h5 => ?_)
  · have hNj : 9 ≤ j := by
      have := z_ge h5 h2 (show (9 : Int32) = nI 9 from rfl) (by omega) (by omega)
      omega
    obtain rfl : j = 9 := by omega
    subst hM
    exact z_drop 1 kk
  · have hlt : j < 9 := by
      have := z_lt h5 h2 (show (9 : Int32) = nI 9 from rfl) (by omega) (by omega)
      omega
    have h9 : (9 : Int32) + ij = nI (9 + j) := by rw [h2, show (9 : Int32) = nI 9 from rfl, nI_add]
    refine z_aload_n (pc := 8) dX7_layTrial_8 rfl ?_
    refine z_getR (pc := 9) 68 q_fX7_34 z_s59 rfl dX7_layTrial_9 ?_
    refine z_bipush (pc := 12) (v := 9) dX7_layTrial_12 (by decide) ?_
    refine z_iload_n (pc := 14) dX7_layTrial_14 rfl ?_
    refine z_iadd (pc := 15) dX7_layTrial_15 ?_
    refine z_aload_n (pc := 16) dX7_layTrial_16 rfl ?_
    refine z_getR (pc := 17) 68 q_fX7_34 z_s59 rfl dX7_layTrial_17 ?_
    refine z_iload_n (pc := 20) dX7_layTrial_20 rfl ?_
    refine z_iald (pc := 21) (j) z_s68 ⟨h2, by omega⟩ dX7_layTrial_21 ?_
    refine z_iast (pc := 22) (9 + j) z_s68 ⟨h9, by omega⟩ dX7_layTrial_22 ?_
    refine z_iinc (pc := 23) dX7_layTrial_23 rfl rfl rfl (by decide) ?_
    refine z_goto (pc := 26) (tgt := 2) dX7_layTrial_26 (by decide) ?_
    exact s_X7_layTrial_2  kk (j + 1) hlt _ _ (z_n1 h2) (by
      rw [hM, z_set, z_row_1, z_row_row]
      refine congrArg (z_row M 68) (funext fun i => ?_)
      unfold upd
      by_cases e : i = 9 + j
      · subst e
        rw [if_pos rfl, if_neg (by omega), if_pos (by omega), Nat.add_sub_cancel_left]
      · rw [if_neg e]
        show (if 9 ≤ i ∧ i < 9 + j then M.1 68 (i - 9) else M.1 68 i) = if 9 ≤ i ∧ i < 9 + (j + 1) then M.1 68 (i - 9) else M.1 68 i
        by_cases q : 9 ≤ i ∧ i < 9 + j
        · rw [if_pos q, if_pos (by omega)]
        · rw [if_neg q, if_neg (by omega)])
termination_by 9 - j
decreasing_by all_goals omega
set_option maxRecDepth 100000 in
set_option maxHeartbeats 400000 in
theorem c_X7_layTrial {M : z_Mem} {p : PLt} (hp : PM M 0 p) : ∃ M1, z_Ct mX7_layTrial [.ref 59] M none M1 ∧ PM M1 1 p ∧ Sn 1 M M1 := by
  have hs : ∀ i, (z_row M 68 (fun i => if 9 ≤ i ∧ i < 9 + 9 then M.1 68 (i - 9) else M.1 68 i)).1 68 i = if 9 ≤ i ∧ i < 9 + 9 then M.1 68 (i - 9) else M.1 68 i := fun i => by rw [z_row_1]
  refine ⟨z_row M 68 (fun i => if 9 ≤ i ∧ i < 9 + 9 then M.1 68 (i - 9) else M.1 68 i), ?_, ⟨?_, fun k hk => ?_, ?_⟩, ⟨Sb.row _ (by simp), fun i hi => ?_⟩⟩
  · refine z_entry (by decide +kernel) (Nat.le_of_ble_eq_true rfl) rfl ?_
    show z_Sm mX7_layTrial _ _ 0 [some (.ref 59), none] [] M
    refine z_iconst (pc := 0) (v := 0) dX7_layTrial_0 (by decide) ?_
    refine z_istore_n (pc := 1) dX7_layTrial_1 rfl (by decide) ?_
    refine s_X7_layTrial_2 (M := M) ?_ 0 (by omega) _ _ rfl ?_
    · refine z_vret (pc := 29) rfl dX7_layTrial_29 ?_
      rfl
    · rw [show (fun i => if 9 ≤ i ∧ i < 9 + 0 then M.1 68 (i - 9) else M.1 68 i) = M.1 68 from funext fun i => if_neg (by omega), z_row_same]
  · rw [hs, if_pos (by omega)]; exact hp.1
  · rw [hs, if_pos (by omega), show 9 * 1 + 1 + k - 9 = 9 * 0 + 1 + k by omega]; exact hp.2.1 k hk
  · rw [hs, if_pos (by omega)]; exact hp.2.2
  · rw [hs, if_neg (by omega)]
