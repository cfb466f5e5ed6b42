theorem TN_sb {ids : List Nat} {M N : z_Mem} {T : TT} (h : TN M T) (s : Sb ids M N) (hi : ∀ i ∈ ids, 63 < i) : TN N T := by
  have no : ∀ i, i ≤ 63 → i ∉ ids := fun i hi2 q => by have := hi i q; omega
  have n0 : N.1 59 = M.1 59 := s.1 59 (no _ (by decide))
  unfold TN
  rw [n0, s.1 60 (no _ (by decide)), s.1 61 (no _ (by decide)), s.1 62 (no _ (by decide)), s.1 63 (no _ (by decide))]
  exact h
def qm (M : z_Mem) (lv : Nat) (o : Int32) (L : Nat → Int32) : z_Mem := z_set (z_row M 73 L) 68 (9 * lv) o
theorem qm_o (M : z_Mem) (lv : Nat) (o : Int32) (L : Nat → Int32) : (qm M lv o L).1 68 (9 * lv) = o := by rw [qm, z_set, z_row_1, upd_1]
theorem qm_w (M : z_Mem) (lv : Nat) (o : Int32) (L : Nat → Int32) {i : Nat} (h : i ≠ 9 * lv) : (qm M lv o L).1 68 i = M.1 68 i := by rw [qm, z_set, z_row_1, upd_n _ _ h, z_row_n _ _ (by decide)]
theorem qm_L (M : z_Mem) (lv : Nat) (o : Int32) (L : Nat → Int32) : (qm M lv o L).1 73 = L := by rw [qm, z_set, z_row_n _ _ (by decide), z_row_1]
theorem qm_sb (M : z_Mem) (lv : Nat) (o : Int32) (L : Nat → Int32) : Sb [68, 73] M (qm M lv o L) := (Sb.row (ids := [68, 73]) L (by simp)).tr (Sb.set o (by simp))
theorem qm_self (M : z_Mem) (lv : Nat) : qm M lv (M.1 68 (9 * lv)) (M.1 73) = M := by
  rw [qm, z_row_same, z_set_self]
theorem qm_ext {M N K : z_Mem} (h : ∀ i, N.1 i = K.1 i) (h2 : N.2 = K.2) : N = K := Prod.ext (funext h) h2
theorem qm_qm (M : z_Mem) (lv : Nat) (o o2 : Int32) (L L2 : Nat → Int32) : qm (qm M lv o L) lv o2 L2 = qm M lv o2 L2 := by
  refine qm_ext (M := M) (fun i => ?_) rfl
  by_cases e : i = 68
  · subst e
    funext j
    by_cases q : j = 9 * lv
    · subst q; rw [qm_o, qm_o]
    · rw [qm_w _ _ _ _ q, qm_w _ _ _ _ q, qm_w _ _ _ _ q]
  · by_cases e2 : i = 73
    · subst e2; rw [qm_L, qm_L]
    · rw [(qm_sb _ _ _ _).1 i (by simp [e, e2]), (qm_sb _ _ _ _).1 i (by simp [e, e2]), (qm_sb _ _ _ _).1 i (by simp [e, e2])]
theorem gvF_bt {T : TT} {w : Nat → Int32} {o : Int32} {L : Nat → Int32} {i : Nat} : ∀ n, n ≤ 7 → bt (gvF T w o L n) i = true → i < n ∧ bt o i = false
  | 0, _, h => by rw [gvF, b_0] at h; cases h
  | n + 1, hn, h => by
    have ih := gvF_bt (T := T) (w := w) (o := o) (L := L) (i := i) n (by omega)
    rw [gvF] at h
    split at h
    · next q =>
      rw [b_or] at h
      cases e : bt (gvF T w o L n) i
      · by_cases h32 : i < 32
        · rw [e, em_bt (by omega) h32] at h
          simp at h
          subst h
          exact ⟨by omega, q.1⟩
        · rw [e, b_big (x := em n) (by omega)] at h; cases h
      · exact ⟨by have := (ih e).1; omega, (ih e).2⟩
    · exact ⟨by have := (ih h).1; omega, (ih h).2⟩
theorem pc_or {x y : Int32} (h : ∀ i, bt y i = true → bt x i = false) : ∀ n, pc n (x ||| y) = pc n x + pc n y
  | 0 => rfl
  | n + 1 => by
    have ih := pc_or h n
    show pc n (x ||| y) + (bt (x ||| y) n).toNat = (pc n x + (bt x n).toNat) + (pc n y + (bt y n).toNat)
    rw [ih, b_or]
    cases e : bt y n
    · simp; omega
    · rw [h n e]; simp; omega
theorem nz_bt {x : Int32} (h : ¬ x = 0) : ∃ i, i < 32 ∧ bt x i = true := by
  refine Classical.byContradiction fun q => h (b_ext fun i hi => ?_)
  rw [b_0]
  cases e : bt x i
  · rfl
  · exact (q ⟨i, hi, e⟩).elim
theorem bdF_0 (T : TT) (L : Nat → Int32) : ∀ n, bdF T 0 L n = L
  | 0 => rfl
  | n + 1 => by rw [bdF, if_neg (by rw [b_0]; decide), bdF_0 T L n]
theorem pgF_sh (T : TT) (w : Nat → Int32) (o : Int32) (L : Nat → Int32) : ∀ n, pgF T w o L (n + 1) = pgF T w (o ||| gvF T w o L T.1) (bdF T (gvF T w o L T.1) L T.1) n
  | 0 => rfl
  | n + 1 => by
    rw [pgF, pgF_sh T w o L n]
    rfl
theorem pgF_fx {T : TT} {w : Nat → Int32} {o : Int32} {L : Nat → Int32} (h : gvF T w o L T.1 = 0) : ∀ n, pgF T w o L n = (o, L)
  | 0 => rfl
  | n + 1 => by rw [pgF_sh, h, Int32.or_zero, bdF_0, pgF_fx h n]
set_option maxRecDepth 100000 in
set_option maxHeartbeats 400000 in
theorem c_X7_onBoth {M : z_Mem} {T : TT} (hT : TN M T) {x : Int32} {j : Nat} (hx : x = nI j) (hj : j < T.1) : z_Ct mX7_onBoth [.ref 59, .int x] M (some (.int (M.1 73 (T.2.1 j) + M.1 73 (T.2.2.1 j)))) M := by
  obtain ⟨hP, hP7, hab⟩ := hT
  obtain ⟨ha, hb, ha6, hb6, hs, hk⟩ := hab j hj
  refine z_entry (by decide +kernel) (Nat.le_of_ble_eq_true rfl) rfl ?_
  show z_Sm mX7_onBoth _ _ 0 [some (.ref 59), some (.int x)] [] M
  refine z_aload_n (pc := 0) dX7_onBoth_0 rfl ?_
  refine z_getR (pc := 1) 73 q_fX7_49 z_s59 rfl dX7_onBoth_1 ?_
  refine z_aload_n (pc := 4) dX7_onBoth_4 rfl ?_
  refine z_getR (pc := 5) 60 q_fX7_7 z_s59 rfl dX7_onBoth_5 ?_
  refine z_iload_n (pc := 8) dX7_onBoth_8 rfl ?_
  refine z_iald (pc := 9) (j) z_s60 ⟨hx, by omega⟩ dX7_onBoth_9 ?_
  refine z_iald (pc := 10) (T.2.1 j) z_s73 ⟨ha, by omega⟩ dX7_onBoth_10 ?_
  refine z_aload_n (pc := 11) dX7_onBoth_11 rfl ?_
  refine z_getR (pc := 12) 73 q_fX7_49 z_s59 rfl dX7_onBoth_12 ?_
  refine z_aload_n (pc := 15) dX7_onBoth_15 rfl ?_
  refine z_getR (pc := 16) 61 q_fX7_13 z_s59 rfl dX7_onBoth_16 ?_
  refine z_iload_n (pc := 19) dX7_onBoth_19 rfl ?_
  refine z_iald (pc := 20) (j) z_s61 ⟨hx, by omega⟩ dX7_onBoth_20 ?_
  refine z_iald (pc := 21) (T.2.2.1 j) z_s73 ⟨hb, by omega⟩ dX7_onBoth_21 ?_
  refine z_iadd (pc := 22) dX7_onBoth_22 ?_
  refine z_iret (pc := 23) rfl dX7_onBoth_23 ?_ ?_
  · rfl
  · rfl
set_option maxRecDepth 100000 in
set_option maxHeartbeats 400000 in
theorem c_X7_holdsOn {M : z_Mem} {T : TT} (hT : TN M T) {lv : Nat} (hlv : lv ≤ 1) {x : Int32} {j : Nat} (hx : x = nI j) (hj : j < T.1) : z_Ct mX7_holdsOn [.ref 59, .int (nI lv), .int x] M (some (.int (hlF (T.2.2.2.1 j) (M.1 68 (9 * lv + 1 + j)) (T.2.2.2.2 j)))) M := by
  obtain ⟨hP, hP7, hab⟩ := hT
  obtain ⟨ha, hb, ha6, hb6, hs, hk⟩ := hab j hj
  have hix : (9 : Int32) * nI lv + 1 + x = nI (9 * lv + 1 + j) := by rw [show (9 : Int32) * nI lv = nI (9 * lv) from nx_mul 9 lv, hx, show (1 : Int32) = nI 1 from rfl, nI_add, nI_add]

  refine z_entry (by decide +kernel) (Nat.le_of_ble_eq_true rfl) rfl ?_
  show z_Sm mX7_holdsOn _ _ 0 [some (.ref 59), some (.int (nI lv)), some (.int x), none] [] M
  refine z_aload_n (pc := 0) dX7_holdsOn_0 rfl ?_
  refine z_getR (pc := 1) 62 q_fX7_16 z_s59 rfl dX7_holdsOn_1 ?_
  refine z_iload_n (pc := 4) dX7_holdsOn_4 rfl ?_
  refine z_iald (pc := 5) (j) z_s62 ⟨hx, by omega⟩ dX7_holdsOn_5 ?_
  refine z_aload_n (pc := 6) dX7_holdsOn_6 rfl ?_
  refine z_getR (pc := 7) 68 q_fX7_34 z_s59 rfl dX7_holdsOn_7 ?_
  refine z_bipush (pc := 10) (v := 9) dX7_holdsOn_10 (by decide) ?_
  refine z_iload_n (pc := 12) dX7_holdsOn_12 rfl ?_
  refine z_imul (pc := 13) dX7_holdsOn_13 ?_
  refine z_iconst (pc := 14) (v := 1) dX7_holdsOn_14 (by decide) ?_
  refine z_iadd (pc := 15) dX7_holdsOn_15 ?_
  refine z_iload_n (pc := 16) dX7_holdsOn_16 rfl ?_
  refine z_iadd (pc := 17) dX7_holdsOn_17 ?_
  refine z_iald (pc := 18) (9 * lv + 1 + j) z_s68 ⟨hix, by omega⟩ dX7_holdsOn_18 ?_
  refine z_isub (pc := 19) dX7_holdsOn_19 ?_
  refine z_istore_n (pc := 20) dX7_holdsOn_20 rfl (by decide) ?_
  refine z_aload_n (pc := 21) dX7_holdsOn_21 rfl ?_
  refine z_getR (pc := 22) 63 q_fX7_19 z_s59 rfl dX7_holdsOn_22 ?_
  refine z_iload_n (pc := 25) dX7_holdsOn_25 rfl ?_
  refine z_iald (pc := 26) (j) z_s63 ⟨hx, by omega⟩ dX7_holdsOn_26 ?_
  refine z_iconst (pc := 27) (v := 1) dX7_holdsOn_27 (by decide) ?_
  refine z_icmp_ne (pc := 28) (tgt := 42) dX7_holdsOn_28 (by decide) (fun h28 => ?_) (fun h28 => ?_)
  · refine z_aload_n (pc := 42) dX7_holdsOn_42 rfl ?_
    refine z_getR (pc := 43) 63 q_fX7_19 z_s59 rfl dX7_holdsOn_43 ?_
    refine z_iload_n (pc := 46) dX7_holdsOn_46 rfl ?_
    refine z_iald (pc := 47) (j) z_s63 ⟨hx, by omega⟩ dX7_holdsOn_47 ?_
    refine z_iconst (pc := 48) (v := 2) dX7_holdsOn_48 (by decide) ?_
    refine z_icmp_eq (pc := 49) (tgt := 61) dX7_holdsOn_49 (by decide) (fun h49 => ?_) (fun h49 => ?_)
    · refine z_iload_n (pc := 61) dX7_holdsOn_61 rfl ?_
      refine z_if_ge (pc := 62) (tgt := 69) dX7_holdsOn_62 (by decide) (fun h62 => ?_) (fun h62 => ?_)
      · refine z_iload_n (pc := 69) dX7_holdsOn_69 rfl ?_
        refine z_iret (pc := 70) rfl dX7_holdsOn_70 ?_ ?_
        · rw [hk] at h28 h49
          rw [hs] at h62 ⊢
          rw [hlF, if_neg h28, if_pos h49]
          split
          · rfl
          · next q => exact Int32.le_antisymm (Int32.not_lt.mp q) h62
        · rfl
      · refine z_iconst (pc := 65) (v := 0) dX7_holdsOn_65 (by decide) ?_
        refine z_goto (pc := 66) (tgt := 70) dX7_holdsOn_66 (by decide) ?_
        refine z_iret (pc := 70) rfl dX7_holdsOn_70 ?_ ?_
        · rw [hk] at h28 h49
          rw [hs] at h62
          rw [hlF, if_neg h28, if_pos h49, if_neg (fun q => h62 (Int32.le_of_lt q))]
        · rfl
    · refine z_aload_n (pc := 52) dX7_holdsOn_52 rfl ?_
      refine z_getR (pc := 53) 62 q_fX7_16 z_s59 rfl dX7_holdsOn_53 ?_
      refine z_iload_n (pc := 56) dX7_holdsOn_56 rfl ?_
      refine z_iald (pc := 57) (j) z_s62 ⟨hx, by omega⟩ dX7_holdsOn_57 ?_
      refine z_goto (pc := 58) (tgt := 70) dX7_holdsOn_58 (by decide) ?_
      refine z_iret (pc := 70) rfl dX7_holdsOn_70 ?_ ?_
      · rw [hk] at h28 h49
        rw [hs, hlF, if_neg h28, if_neg h49]
      · rfl
  · refine z_aload_n (pc := 31) dX7_holdsOn_31 rfl ?_
    refine z_getR (pc := 32) 62 q_fX7_16 z_s59 rfl dX7_holdsOn_32 ?_
    refine z_iload_n (pc := 35) dX7_holdsOn_35 rfl ?_
    refine z_iald (pc := 36) (j) z_s62 ⟨hx, by omega⟩ dX7_holdsOn_36 ?_
    refine z_iconst (pc := 37) (v := 3) dX7_holdsOn_37 (by decide) ?_
    refine z_iadd (pc := 38) dX7_holdsOn_38 ?_
    refine z_goto (pc := 39) (tgt := 70) dX7_holdsOn_39 (by decide) ?_
    refine z_iret (pc := 70) rfl dX7_holdsOn_70 ?_ ?_
    · rw [hk] at h28
      rw [hs, hlF, if_pos (show T.2.2.2.2 j = 1 from h28)]
    · rfl
