/-! ===== a plight, loads, pings: the numbers ===== -/
def cpF (n : Nat) (f g : Nat → Int32) : Nat → Int32 := fun k => if k < n then f k else g k
theorem cpF_0 (f g : Nat → Int32) : cpF 0 f g = g := funext fun k => by simp [cpF]
theorem cpF_s (n : Nat) (f g : Nat → Int32) : upd (cpF n f g) n (f n) = cpF (n + 1) f g := by
  funext k
  unfold upd cpF
  by_cases h : k = n
  · subst h; simp
  · by_cases h2 : k < n
    · simp [h, h2, show k < n + 1 by omega]
    · simp [h, h2, show ¬ k < n + 1 by omega]
/-- a town: pins, their ends, strengths, kinds -/
abbrev TT : Type := Nat × (Nat → Nat) × (Nat → Nat) × (Nat → Int32) × (Nat → Int32)
def TK (M : z_Mem) (T : TT) : Prop := TW M T.1 T.2.1 T.2.2.1 ∧ ∀ k, k < T.1 → M.1 6 k = T.2.2.2.1 k ∧ M.1 7 k = T.2.2.2.2 k
theorem TW_cong {M N : z_Mem} {P : Nat} {a b : Nat → Nat} (h : TW M P a b) (e3 : N.1 3 0 = M.1 3 0) (e4 : N.1 4 = M.1 4) (e5 : N.1 5 = M.1 5) : TW N P a b := by
  unfold TW; rw [e3, e4, e5]; exact h
theorem TK_cong {M N : z_Mem} {T : TT} (h : TK M T) (e3 : N.1 3 0 = M.1 3 0) (e4 : N.1 4 = M.1 4) (e5 : N.1 5 = M.1 5) (e6 : N.1 6 = M.1 6) (e7 : N.1 7 = M.1 7) : TK N T := by
  refine ⟨TW_cong h.1 e3 e4 e5, ?_⟩
  rw [e6, e7]; exact h.2
def gvF (T : TT) (w : Nat → Int32) (o : Int32) (L : Nat → Int32) : Nat → Int32
  | 0 => 0
  | n + 1 => if bt o n = false ∧ hlF (T.2.2.2.1 n) (w n) (T.2.2.2.2 n) < L (T.2.1 n) + L (T.2.2.1 n) then gvF T w o L n ||| em n else gvF T w o L n
def bd1 (T : TT) (n : Nat) (L : Nat → Int32) : Nat → Int32 := upd (upd L (T.2.1 n) (L (T.2.1 n) + 1)) (T.2.2.1 n) (upd L (T.2.1 n) (L (T.2.1 n) + 1) (T.2.2.1 n) + 1)
def bdF (T : TT) (g : Int32) (L : Nat → Int32) : Nat → Nat → Int32
  | 0 => L
  | n + 1 => if bt g n = true then bd1 T n (bdF T g L n) else bdF T g L n
def pgF (T : TT) (w : Nat → Int32) (o : Int32) (L : Nat → Int32) : Nat → Int32 × (Nat → Int32)
  | 0 => (o, L)
  | n + 1 => ((pgF T w o L n).1 ||| gvF T w (pgF T w o L n).1 (pgF T w o L n).2 T.1, bdF T (gvF T w (pgF T w o L n).1 (pgF T w o L n).2 T.1) (pgF T w o L n).2 T.1)
def spF (kd : Nat → Int32) (o : Int32) : Nat → Int32
  | 0 => o
  | n + 1 => if kd n = 3 then spF kd o n &&& (em n ^^^ (-1)) else spF kd o n
def wnF (T : TT) (o : Int32) (L w : Nat → Int32) (n : Nat) : Nat → Int32 := fun k => if k < n ∧ T.2.2.2.2 k = 2 ∧ bt o k = false ∧ 1 ≤ L (T.2.1 k) + L (T.2.2.1 k) then w k + 1 else w k
theorem wnF_0 (T : TT) (o : Int32) (L w : Nat → Int32) : wnF T o L w 0 = w := funext fun k => by simp [wnF]
theorem wnF_no {T : TT} {o : Int32} {L w : Nat → Int32} {n : Nat} (h : ¬ (T.2.2.2.2 n = 2 ∧ bt o n = false ∧ 1 ≤ L (T.2.1 n) + L (T.2.2.1 n))) : wnF T o L w (n + 1) = wnF T o L w n := by
  funext k
  unfold wnF
  by_cases e : k = n
  · subst e
    rw [if_neg (fun q => h q.2), if_neg (fun q => h q.2)]
  · by_cases h2 : k < n
    · simp [h2, show k < n + 1 by omega]
    · simp [h2, show ¬ k < n + 1 by omega]
theorem wnF_yes {T : TT} {o : Int32} {L w : Nat → Int32} {n : Nat} (h : T.2.2.2.2 n = 2 ∧ bt o n = false ∧ 1 ≤ L (T.2.1 n) + L (T.2.2.1 n)) : upd (wnF T o L w n) n (wnF T o L w n n + 1) = wnF T o L w (n + 1) := by
  funext k
  unfold upd
  by_cases e : k = n
  · subst e
    rw [if_pos rfl]
    unfold wnF
    rw [if_neg (fun q => Nat.lt_irrefl _ q.1), if_pos ⟨Nat.lt_succ_self _, h⟩]
  · rw [if_neg e]
    unfold wnF
    by_cases h2 : k < n
    · simp [h2, show k < n + 1 by omega]
    · simp [h2, show ¬ k < n + 1 by omega]
/-- memory while it pings: the plight's open pins, the loads -/
def pm (M : z_Mem) (q : Nat) (o : Int32) (L : Nat → Int32) : z_Mem := z_row (z_set M q 0 o) 13 L
theorem upd_self (f : Nat → Int32) (k : Nat) : upd f k (f k) = f := funext fun j => by unfold upd; by_cases h : j = k <;> simp [h]
theorem upd_upd (f : Nat → Int32) (k : Nat) (v w : Int32) : upd (upd f k v) k w = upd f k w := funext fun j => by unfold upd; by_cases h : j = k <;> simp [h]
theorem upd_1 (f : Nat → Int32) (k : Nat) (v : Int32) : upd f k v k = v := by simp [upd]
theorem upd_n (f : Nat → Int32) {k j : Nat} (v : Int32) (h : j ≠ k) : upd f k v j = f j := by simp [upd, h]
theorem z_set_self (M : z_Mem) (q k : Nat) : z_set M q k (M.1 q k) = M := by rw [z_set, upd_self, z_row_same]
theorem pm_self (M : z_Mem) (q : Nat) : pm M q (M.1 q 0) (M.1 13) = M := by rw [pm, z_set_self, z_row_same]
theorem pm_13 (M : z_Mem) (q : Nat) (o : Int32) (L : Nat → Int32) : (pm M q o L).1 13 = L := z_row_1 _ _ _
theorem pm_q (M : z_Mem) {q : Nat} (hq : q ≠ 13) (o : Int32) (L : Nat → Int32) : (pm M q o L).1 q = upd (M.1 q) 0 o := by rw [pm, z_row_n _ _ hq, z_set, z_row_1]
theorem pm_q0 (M : z_Mem) {q : Nat} (hq : q ≠ 13) (o : Int32) (L : Nat → Int32) : (pm M q o L).1 q 0 = o := by rw [pm_q M hq, upd_1]
theorem pm_n (M : z_Mem) {q i : Nat} (h1 : i ≠ q) (h2 : i ≠ 13) (o : Int32) (L : Nat → Int32) : (pm M q o L).1 i = M.1 i := by rw [pm, z_row_n _ _ h2, z_set, z_row_n _ _ h1]
theorem pm_row (M : z_Mem) (q : Nat) (o : Int32) (L L2 : Nat → Int32) : z_row (pm M q o L) 13 L2 = pm M q o L2 := z_row_row _ _ _ _
theorem pm_set (M : z_Mem) {q : Nat} (hq : q ≠ 13) (o o2 : Int32) (L : Nat → Int32) : z_set (pm M q o L) q 0 o2 = pm M q o2 L := by
  rw [z_set, pm_q M hq, upd_upd, pm, z_row_comm _ _ _ (Ne.symm hq)]
  show z_row (z_row (z_row M q (upd (M.1 q) 0 o)) q (upd (M.1 q) 0 o2)) 13 L = z_row (z_row M q (upd (M.1 q) 0 o2)) 13 L
  rw [z_row_row]
theorem TK_pm {M : z_Mem} {T : TT} (h : TK M T) {q : Nat} (hq : 13 < q) (o : Int32) (L : Nat → Int32) : TK (pm M q o L) T := TK_cong h (by rw [pm_n M (by omega) (by omega)]) (by rw [pm_n M (by omega) (by omega)]) (by rw [pm_n M (by omega) (by omega)]) (by rw [pm_n M (by omega) (by omega)]) (by rw [pm_n M (by omega) (by omega)])
set_option maxRecDepth 100000 in
set_option maxHeartbeats 400000 in
theorem s_X1_clear_2 {M M2 : z_Mem} {r : Option Value}  (kk : z_Sm mX1_clear r M2 21 [some (.ref 12), none] [] (z_row M 13 (cpF (6) (fun _ => 0) (M.1 13)))) (j : Nat) (hj : j ≤ 6) (ij : Int32) (Mj : z_Mem) (h2 : ij = nI j) (hM : Mj = z_row M 13 (cpF j (fun _ => 0) (M.1 13))) : z_Sm mX1_clear r M2 2 [some (.ref 12), some (.int ij)] [] Mj := by
  refine z_iload_n (pc := 2) dX1_clear_2 rfl ?_
  refine z_bipush (pc := 3) (v := 6) dX1_clear_3 (by decide) ?_
  refine z_icmp_ge (pc := 5) (tgt := 21) dX1_clear_5 (by decide) (fun h5 => ?_) (fun h5 => ?_)
  · have hNj : 6 ≤ j := by
      have := z_ge h5 h2 (show (6 : Int32) = nI 6 from rfl) (by omega) (by omega)
      omega
    obtain rfl : j = 6 := by omega
    subst hM
    exact z_drop 1 kk
  · have hlt : j < 6 := by
      have := z_lt h5 h2 (show (6 : Int32) = nI 6 from rfl) (by omega) (by omega)
      omega
    refine z_aload_n (pc := 8) dX1_clear_8 rfl ?_
    refine z_getR (pc := 9) 13 q_fX1_9 z_s12 rfl dX1_clear_9 ?_
    refine z_iload_n (pc := 12) dX1_clear_12 rfl ?_
    refine z_iconst (pc := 13) (v := 0) dX1_clear_13 (by decide) ?_
    refine z_iast (pc := 14) (j) z_s13 ⟨h2, by omega, by decide⟩ dX1_clear_14 ?_
    refine z_iinc (pc := 15) dX1_clear_15 rfl rfl rfl (by decide) ?_
    refine z_goto (pc := 18) (tgt := 2) dX1_clear_18 (by decide) ?_
    exact s_X1_clear_2  kk (j + 1) hlt _ _ (z_n1 h2) (by rw [hM, z_set, z_row_1, z_row_row]; exact congrArg (z_row M 13) (cpF_s j (fun _ => 0) (M.1 13)))
termination_by 6 - j
decreasing_by all_goals omega
set_option maxRecDepth 100000 in
set_option maxHeartbeats 400000 in
theorem c_X1_clear {M : z_Mem}  : z_Ct mX1_clear [.ref 12] M none (z_row M 13 (cpF 6 (fun _ => 0) (M.1 13))) := by
  refine z_entry (by decide +kernel) (Nat.le_of_ble_eq_true rfl) rfl ?_
  show z_Sm mX1_clear _ _ 0 [some (.ref 12), none] [] M
  refine z_iconst (pc := 0) (v := 0) dX1_clear_0 (by decide) ?_
  refine z_istore_n (pc := 1) dX1_clear_1 rfl (by decide) ?_
  refine s_X1_clear_2 ?_ 0 (by omega) _ _ rfl (by rw [cpF_0, z_row_same])
  refine z_vret (pc := 21) rfl dX1_clear_21 ?_
  rfl
set_option maxRecDepth 100000 in
set_option maxHeartbeats 400000 in
theorem c_X1_burden {M : z_Mem} {x n : Int32} {t : Nat} (hx : x = nI t) (ht : t < 6) : z_Ct mX1_burden [.ref 12, .int x, .int n] M none (z_row M 13 (upd (M.1 13) t (M.1 13 t + n))) := by
  refine z_entry (by decide +kernel) (Nat.le_of_ble_eq_true rfl) rfl ?_
  show z_Sm mX1_burden _ _ 0 [some (.ref 12), some (.int x), some (.int n)] [] M
  refine z_aload_n (pc := 0) dX1_burden_0 rfl ?_
  refine z_getR (pc := 1) 13 q_fX1_9 z_s12 rfl dX1_burden_1 ?_
  refine z_iload_n (pc := 4) dX1_burden_4 rfl ?_
  refine z_dup2 (pc := 5) dX1_burden_5 rfl rfl ?_
  refine z_iald (pc := 6) (t) z_s13 ⟨hx, ht, by decide⟩ dX1_burden_6 ?_
  refine z_iload_n (pc := 7) dX1_burden_7 rfl ?_
  refine z_iadd (pc := 8) dX1_burden_8 ?_
  refine z_iast (pc := 9) (t) z_s13 ⟨hx, ht, by decide⟩ dX1_burden_9 ?_
  refine z_vret (pc := 10) rfl dX1_burden_10 ?_
  rfl
set_option maxRecDepth 100000 in
set_option maxHeartbeats 400000 in
theorem c_X1_burdenEnds {M : z_Mem} {T : TT} (hT : TK M T) {x : Int32} {j : Nat} (hx : x = nI j) (hj : j < T.1) : z_Ct mX1_burdenEnds [.ref 12, .int x] M none (z_row M 13 (bd1 T j (M.1 13))) := by
  obtain ⟨⟨hP, hP7, hab⟩, -⟩ := hT
  obtain ⟨ha, hb, ha6, hb6⟩ := hab j hj
  refine z_entry (by decide +kernel) (Nat.le_of_ble_eq_true rfl) rfl ?_
  show z_Sm mX1_burdenEnds _ _ 0 [some (.ref 12), some (.int x)] [] M
  refine z_aload_n (pc := 0) dX1_burdenEnds_0 rfl ?_
  refine z_getR (pc := 1) 13 q_fX1_9 z_s12 rfl dX1_burdenEnds_1 ?_
  refine z_aload_n (pc := 4) dX1_burdenEnds_4 rfl ?_
  refine z_getR (pc := 5) 3 q_fX1_15 z_s12 rfl dX1_burdenEnds_5 ?_
  refine z_getR (pc := 8) 4 q_fX1_19 z_s3 rfl dX1_burdenEnds_8 ?_
  refine z_iload_n (pc := 11) dX1_burdenEnds_11 rfl ?_
  refine z_iald (pc := 12) (j) z_s4 ⟨hx, by omega, by decide⟩ dX1_burdenEnds_12 ?_
  refine z_dup2 (pc := 13) dX1_burdenEnds_13 rfl rfl ?_
  refine z_iald (pc := 14) (T.2.1 j) z_s13 ⟨ha, ha6, by decide⟩ dX1_burdenEnds_14 ?_
  refine z_iconst (pc := 15) (v := 1) dX1_burdenEnds_15 (by decide) ?_
  refine z_iadd (pc := 16) dX1_burdenEnds_16 ?_
  refine z_iast (pc := 17) (T.2.1 j) z_s13 ⟨ha, ha6, by decide⟩ dX1_burdenEnds_17 ?_
  refine z_aload_n (pc := 18) dX1_burdenEnds_18 rfl ?_
  refine z_getR (pc := 19) 13 q_fX1_9 z_s12 rfl dX1_burdenEnds_19 ?_
  refine z_aload_n (pc := 22) dX1_burdenEnds_22 rfl ?_
  refine z_getR (pc := 23) 3 q_fX1_15 z_s12 rfl dX1_burdenEnds_23 ?_
  refine z_getR (pc := 26) 5 q_fX1_24 z_s3 rfl dX1_burdenEnds_26 ?_
  refine z_iload_n (pc := 29) dX1_burdenEnds_29 rfl ?_
  refine z_iald (pc := 30) (j) z_s5 ⟨hx, by omega, by decide⟩ dX1_burdenEnds_30 ?_
  refine z_dup2 (pc := 31) dX1_burdenEnds_31 rfl rfl ?_
  refine z_iald (pc := 32) (T.2.2.1 j) z_s13 ⟨hb, hb6, by decide⟩ dX1_burdenEnds_32 ?_
  refine z_iconst (pc := 33) (v := 1) dX1_burdenEnds_33 (by decide) ?_
  refine z_iadd (pc := 34) dX1_burdenEnds_34 ?_
  refine z_iast (pc := 35) (T.2.2.1 j) z_s13 ⟨hb, hb6, by decide⟩ dX1_burdenEnds_35 ?_
  refine z_vret (pc := 36) rfl dX1_burdenEnds_36 ?_
  rw [z_set, z_set, z_row_1, z_row_row]; rfl
set_option maxRecDepth 100000 in
set_option maxHeartbeats 400000 in
theorem c_X1_loadOf {M : z_Mem} {T : TT} (hT : TK M T) {x : Int32} {j : Nat} (hx : x = nI j) (hj : j < T.1) : z_Ct mX1_loadOf [.ref 12, .int x] M (some (.int (M.1 13 (T.2.1 j) + M.1 13 (T.2.2.1 j)))) M := by
  obtain ⟨⟨hP, hP7, hab⟩, -⟩ := hT
  obtain ⟨ha, hb, ha6, hb6⟩ := hab j hj
  refine z_entry (by decide +kernel) (Nat.le_of_ble_eq_true rfl) rfl ?_
  show z_Sm mX1_loadOf _ _ 0 [some (.ref 12), some (.int x)] [] M
  refine z_aload_n (pc := 0) dX1_loadOf_0 rfl ?_
  refine z_getR (pc := 1) 13 q_fX1_9 z_s12 rfl dX1_loadOf_1 ?_
  refine z_aload_n (pc := 4) dX1_loadOf_4 rfl ?_
  refine z_getR (pc := 5) 3 q_fX1_15 z_s12 rfl dX1_loadOf_5 ?_
  refine z_getR (pc := 8) 4 q_fX1_19 z_s3 rfl dX1_loadOf_8 ?_
  refine z_iload_n (pc := 11) dX1_loadOf_11 rfl ?_
  refine z_iald (pc := 12) (j) z_s4 ⟨hx, by omega, by decide⟩ dX1_loadOf_12 ?_
  refine z_iald (pc := 13) (T.2.1 j) z_s13 ⟨ha, ha6, by decide⟩ dX1_loadOf_13 ?_
  refine z_aload_n (pc := 14) dX1_loadOf_14 rfl ?_
  refine z_getR (pc := 15) 13 q_fX1_9 z_s12 rfl dX1_loadOf_15 ?_
  refine z_aload_n (pc := 18) dX1_loadOf_18 rfl ?_
  refine z_getR (pc := 19) 3 q_fX1_15 z_s12 rfl dX1_loadOf_19 ?_
  refine z_getR (pc := 22) 5 q_fX1_24 z_s3 rfl dX1_loadOf_22 ?_
  refine z_iload_n (pc := 25) dX1_loadOf_25 rfl ?_
  refine z_iald (pc := 26) (j) z_s5 ⟨hx, by omega, by decide⟩ dX1_loadOf_26 ?_
  refine z_iald (pc := 27) (T.2.2.1 j) z_s13 ⟨hb, hb6, by decide⟩ dX1_loadOf_27 ?_
  refine z_iadd (pc := 28) dX1_loadOf_28 ?_
  refine z_iret (pc := 29) rfl dX1_loadOf_29 ?_ ?_
  · rfl
  · rfl
set_option maxRecDepth 100000 in
set_option maxHeartbeats 400000 in
theorem c_X2_isOpen_14 {M : z_Mem} {x : Int32} {j : Nat} (hx : x = nI j) (hj : j < 32) : z_Ct mX2_isOpen [.ref 14, .int x] M (some (.int (if bt (M.1 14 0) j then 1 else 0))) M := by
  refine z_entry (by decide +kernel) (Nat.le_of_ble_eq_true rfl) rfl ?_
  show z_Sm mX2_isOpen _ _ 0 [some (.ref 14), some (.int x)] [] M
  refine z_aload_n (pc := 0) dX2_isOpen_0 rfl ?_
  refine z_getI (pc := 1) q_fX2_9 z_s14 rfl dX2_isOpen_1 ?_
  refine z_iconst (pc := 4) (v := 1) dX2_isOpen_4 (by decide) ?_
  refine z_iload_n (pc := 5) dX2_isOpen_5 rfl ?_
  refine z_ishl (pc := 6) dX2_isOpen_6 ?_
  refine z_iand (pc := 7) dX2_isOpen_7 ?_
  refine z_if_eq (pc := 8) (tgt := 15) dX2_isOpen_8 (by decide) (fun h8 => ?_) (fun h8 => ?_)
  · refine z_iconst (pc := 15) (v := 0) dX2_isOpen_15 (by decide) ?_
    refine z_zret (pc := 16) rfl dX2_isOpen_16 ?_ ?_ ?_
    · rfl
    · rw [hx] at h8
      rw [(z_b0 _ hj).mp h8]; rfl
    · rfl
  · refine z_iconst (pc := 11) (v := 1) dX2_isOpen_11 (by decide) ?_
    refine z_goto (pc := 12) (tgt := 16) dX2_isOpen_12 (by decide) ?_
    refine z_zret (pc := 16) rfl dX2_isOpen_16 ?_ ?_ ?_
    · rfl
    · rw [hx] at h8
      rw [z_nb (fun q => h8 ((z_b0 (M.1 14 0) hj).mpr q))]; rfl
    · rfl
set_option maxRecDepth 100000 in
set_option maxHeartbeats 400000 in
theorem s_X1_givingNow_4_14 {M M2 : z_Mem} {r : Option Value} {T : TT} (hT : TK M T) (kk : z_Sm mX1_givingNow r M2 57 [some (.ref 12), some (.ref 14), some (.int (gvF T (M.1 15) (M.1 14 0) (M.1 13) (T.1))), none] [] (M)) (j : Nat) (hj : j ≤ T.1) (ij : Int32) (g : Int32) (h2 : ij = nI j) (hv_g : g = gvF T (M.1 15) (M.1 14 0) (M.1 13) j) : z_Sm mX1_givingNow r M2 4 [some (.ref 12), some (.ref 14), some (.int g), some (.int ij)] [] M := by
  have hP7 := hT.1.2.1
  refine z_iload_n (pc := 4) dX1_givingNow_4 rfl ?_
  refine z_aload_n (pc := 5) dX1_givingNow_5 rfl ?_
  refine z_getR (pc := 6) 3 q_fX1_15 z_s12 rfl dX1_givingNow_6 ?_
  refine z_getI (pc := 9) q_fX1_39 z_s3 rfl dX1_givingNow_9 ?_
  refine z_icmp_ge (pc := 12) (tgt := 57) dX1_givingNow_12 (by decide) (fun h12 => ?_) (fun h12 => ?_)
  · have hNj : T.1 ≤ j := by
      have := z_ge h12 h2 hT.1.1 (by omega) (by omega)
      omega
    obtain rfl : j = T.1 := by omega
    subst hv_g
    exact z_drop 3 kk
  · have hlt : j < T.1 := by
      have := z_lt h12 h2 hT.1.1 (by omega) (by omega)
      omega
    obtain ⟨hs, hk⟩ := hT.2 j hlt
    refine z_aload_n (pc := 15) dX1_givingNow_15 rfl ?_
    refine z_iload_n (pc := 16) dX1_givingNow_16 rfl ?_
    refine z_cV1 (pc := 17) (c_X2_isOpen_14 h2 (by omega)) (q_cX1_50 _ (by decide)) z_s14 rfl rfl dX1_givingNow_17 ?_
    refine z_if_ne (pc := 20) (tgt := 51) dX1_givingNow_20 (by decide) (fun h20 => ?_) (fun h20 => ?_)
    · refine z_iinc (pc := 51) dX1_givingNow_51 rfl rfl rfl (by decide) ?_
      refine z_goto (pc := 54) (tgt := 4) dX1_givingNow_54 (by decide) ?_
      have hb : bt (M.1 14 0) j = true := by
        cases q : bt (M.1 14 0) j
        · rw [q] at h20; exact absurd rfl h20
        · rfl
      exact s_X1_givingNow_4_14 hT kk (j + 1) hlt _ _ (z_n1 h2) (by rw [hv_g, gvF, if_neg (by rw [hb]; simp)])
    · refine z_aload_n (pc := 23) dX1_givingNow_23 rfl ?_
      refine z_iload_n (pc := 24) dX1_givingNow_24 rfl ?_
      refine z_cV1 (pc := 25) (c_X1_loadOf hT h2 hlt) (q_cX1_54 _ (by decide)) z_s12 rfl rfl dX1_givingNow_25 ?_
      refine z_aload_n (pc := 28) dX1_givingNow_28 rfl ?_
      refine z_getR (pc := 29) 3 q_fX1_15 z_s12 rfl dX1_givingNow_29 ?_
      refine z_iload_n (pc := 32) dX1_givingNow_32 rfl ?_
      refine z_aload_n (pc := 33) dX1_givingNow_33 rfl ?_
      refine z_getR (pc := 34) 15 q_fX1_57 z_s14 rfl dX1_givingNow_34 ?_
      refine z_iload_n (pc := 37) dX1_givingNow_37 rfl ?_
      refine z_iald (pc := 38) (j) z_s15 ⟨h2, by omega, by decide⟩ dX1_givingNow_38 ?_
      refine z_cV2 (pc := 39) (c_X4_holds h2 (by omega)) (q_cX1_60 _ (by decide)) z_s3 rfl rfl dX1_givingNow_39 ?_
      refine z_icmp_le (pc := 42) (tgt := 51) dX1_givingNow_42 (by decide) (fun h42 => ?_) (fun h42 => ?_)
      · refine z_iinc (pc := 51) dX1_givingNow_51 rfl rfl rfl (by decide) ?_
        refine z_goto (pc := 54) (tgt := 4) dX1_givingNow_54 (by decide) ?_
        rw [hs, hk] at h42
        exact s_X1_givingNow_4_14 hT kk (j + 1) hlt _ _ (z_n1 h2) (by rw [hv_g, gvF, if_neg (fun q => (Int32.not_lt.mpr h42) q.2)])
      · refine z_iload_n (pc := 45) dX1_givingNow_45 rfl ?_
        refine z_iconst (pc := 46) (v := 1) dX1_givingNow_46 (by decide) ?_
        refine z_iload_n (pc := 47) dX1_givingNow_47 rfl ?_
        refine z_ishl (pc := 48) dX1_givingNow_48 ?_
        refine z_ior (pc := 49) dX1_givingNow_49 ?_
        refine z_istore_n (pc := 50) dX1_givingNow_50 rfl (by decide) ?_
        refine z_iinc (pc := 51) dX1_givingNow_51 rfl rfl rfl (by decide) ?_
        refine z_goto (pc := 54) (tgt := 4) dX1_givingNow_54 (by decide) ?_
        rw [hs, hk] at h42
        have hb : bt (M.1 14 0) j = false := by
          cases q : bt (M.1 14 0) j
          · rfl
          · rw [q] at h20; exact absurd h20 (by decide)
        exact s_X1_givingNow_4_14 hT kk (j + 1) hlt _ _ (z_n1 h2) (by rw [hv_g, gvF, if_pos ⟨hb, Int32.not_le.mp h42⟩, h2]; rfl)
termination_by T.1 - j
decreasing_by all_goals omega
set_option maxRecDepth 100000 in
set_option maxHeartbeats 400000 in
theorem c_X1_givingNow_14 {M : z_Mem} {T : TT} (hT : TK M T) : z_Ct mX1_givingNow [.ref 12, .ref 14] M (some (.int (gvF T (M.1 15) (M.1 14 0) (M.1 13) T.1))) M := by
  refine z_entry (by decide +kernel) (Nat.le_of_ble_eq_true rfl) rfl ?_
  show z_Sm mX1_givingNow _ _ 0 [some (.ref 12), some (.ref 14), none, none] [] M
  refine z_iconst (pc := 0) (v := 0) dX1_givingNow_0 (by decide) ?_
  refine z_istore_n (pc := 1) dX1_givingNow_1 rfl (by decide) ?_
  refine z_iconst (pc := 2) (v := 0) dX1_givingNow_2 (by decide) ?_
  refine z_istore_n (pc := 3) dX1_givingNow_3 rfl (by decide) ?_
  refine s_X1_givingNow_4_14 hT ?_ 0 (Nat.zero_le _) _ _ rfl rfl
  refine z_iload_n (pc := 57) dX1_givingNow_57 rfl ?_
  refine z_iret (pc := 58) rfl dX1_givingNow_58 ?_ ?_
  · rfl
  · rfl
set_option maxRecDepth 100000 in
set_option maxHeartbeats 400000 in
theorem s_X1_ping_42_14 {M M2 : z_Mem} {r : Option Value} {T : TT} (hT : TK M T) {b0 rd g o : Int32} {L : Nat → Int32} (kk : z_Sm mX1_ping r M2 76 [some (.ref 12), some (.ref 14), some (.int b0), some (.int rd), some (.int g), none] [] (pm M 14 o (bdF T g L (T.1)))) (j : Nat) (hj : j ≤ T.1) (ij : Int32) (Mj : z_Mem) (h2 : ij = nI j) (hM : Mj = pm M 14 o (bdF T g L j)) : z_Sm mX1_ping r M2 42 [some (.ref 12), some (.ref 14), some (.int b0), some (.int rd), some (.int g), some (.int ij)] [] Mj := by
  have hP7 := hT.1.2.1
  have hP : ∀ X, (pm M 14 o X).1 3 0 = nI T.1 := fun X => by rw [pm_n M (by decide) (by decide)]; exact hT.1.1
  subst hM
  refine z_iload (pc := 42) dX1_ping_42 rfl ?_
  refine z_aload_n (pc := 44) dX1_ping_44 rfl ?_
  refine z_getR (pc := 45) 3 q_fX1_15 z_s12 rfl dX1_ping_45 ?_
  refine z_getI (pc := 48) q_fX1_39 z_s3 rfl dX1_ping_48 ?_
  refine z_icmp_ge (pc := 51) (tgt := 76) dX1_ping_51 (by decide) (fun h51 => ?_) (fun h51 => ?_)
  · have hNj : T.1 ≤ j := by
      have := z_ge h51 h2 (hP _) (by omega) (by omega)
      omega
    obtain rfl : j = T.1 := by omega
    exact z_drop 5 kk
  · have hlt : j < T.1 := by
      have := z_lt h51 h2 (hP _) (by omega) (by omega)
      omega
    refine z_iload (pc := 54) dX1_ping_54 rfl ?_
    refine z_iconst (pc := 56) (v := 1) dX1_ping_56 (by decide) ?_
    refine z_iload (pc := 57) dX1_ping_57 rfl ?_
    refine z_ishl (pc := 59) dX1_ping_59 ?_
    refine z_iand (pc := 60) dX1_ping_60 ?_
    refine z_if_eq (pc := 61) (tgt := 70) dX1_ping_61 (by decide) (fun h61 => ?_) (fun h61 => ?_)
    · refine z_iinc (pc := 70) dX1_ping_70 rfl rfl rfl (by decide) ?_
      refine z_goto (pc := 73) (tgt := 42) dX1_ping_73 (by decide) ?_
      rw [h2] at h61
      have hb := (z_b0 g (k := j) (by omega)).mp h61
      exact s_X1_ping_42_14 hT kk (j + 1) hlt _ _ (z_n1 h2) (by rw [bdF, if_neg (by rw [hb]; simp)])
    · refine z_aload_n (pc := 64) dX1_ping_64 rfl ?_
      refine z_iload (pc := 65) dX1_ping_65 rfl ?_
      refine z_cV1v (pc := 67) (c_X1_burdenEnds (TK_pm hT (by decide) _ _) h2 hlt) (q_cX1_46 _ (by decide)) z_s12 rfl rfl dX1_ping_67 ?_
      refine z_iinc (pc := 70) dX1_ping_70 rfl rfl rfl (by decide) ?_
      refine z_goto (pc := 73) (tgt := 42) dX1_ping_73 (by decide) ?_
      rw [h2] at h61
      have hb := z_nb (fun q => h61 ((z_b0 g (k := j) (by omega)).mpr q))
      exact s_X1_ping_42_14 hT kk (j + 1) hlt _ _ (z_n1 h2) (by rw [bdF, if_pos hb, pm_13, pm_row])
termination_by T.1 - j
decreasing_by all_goals omega
set_option maxRecDepth 100000 in
set_option maxHeartbeats 400000 in
theorem s_X1_ping_10_14 {M M2 : z_Mem} {r : Option Value} {T : TT} (hT : TK M T) {b0 o : Int32} {L : Nat → Int32} (kk : z_Sm mX1_ping r M2 82 [some (.ref 12), some (.ref 14), some (.int b0), none, none, none] [] (pm M 14 (pgF T (M.1 15) o L (T.1 + 1)).1 (pgF T (M.1 15) o L (T.1 + 1)).2)) (j : Nat) (hj : j ≤ T.1 + 1) (ij : Int32) (Mj : z_Mem) (h2 : ij = nI j) (hM : Mj = pm M 14 (pgF T (M.1 15) o L j).1 (pgF T (M.1 15) o L j).2) : z_Sm mX1_ping r M2 10 [some (.ref 12), some (.ref 14), some (.int b0), some (.int ij), none, none] [] Mj := by
  have hP7 := hT.1.2.1
  have hP : ∀ Y X, (pm M 14 Y X).1 3 0 = nI T.1 := fun Y X => by rw [pm_n M (by decide) (by decide)]; exact hT.1.1
  subst hM
  refine z_iload_n (pc := 10) dX1_ping_10 rfl ?_
  refine z_aload_n (pc := 11) dX1_ping_11 rfl ?_
  refine z_getR (pc := 12) 3 q_fX1_15 z_s12 rfl dX1_ping_12 ?_
  refine z_getI (pc := 15) q_fX1_39 z_s3 rfl dX1_ping_15 ?_
  refine z_icmp_gt (pc := 18) (tgt := 82) dX1_ping_18 (by decide) (fun h18 => ?_) (fun h18 => ?_)
  · have hNj : T.1 + 1 ≤ j := by
      have := z_gt h18 h2 (hP _ _) (by omega) (by omega)
      omega
    obtain rfl : j = T.1 + 1 := by omega
    exact z_drop 3 kk
  · have hlt : j < T.1 + 1 := by
      have := z_ngt h18 h2 (hP _ _) (by omega) (by omega)
      omega
    refine z_aload_n (pc := 21) dX1_ping_21 rfl ?_
    refine z_aload_n (pc := 22) dX1_ping_22 rfl ?_
    refine z_cV1 (pc := 23) (c_X1_givingNow_14 (TK_pm hT (by decide) _ _)) (q_cX1_42 _ (by decide)) z_s12 rfl rfl dX1_ping_23 ?_
    refine z_istore (pc := 26) dX1_ping_26 rfl (by decide) ?_
    refine z_aload_n (pc := 28) dX1_ping_28 rfl ?_
    refine z_dup (pc := 29) dX1_ping_29 rfl ?_
    refine z_getI (pc := 30) q_fX1_27 z_s14 rfl dX1_ping_30 ?_
    refine z_iload (pc := 33) dX1_ping_33 rfl ?_
    refine z_ior (pc := 35) dX1_ping_35 ?_
    refine z_putI (pc := 36) q_fX1_27 q_p2_0 z_s14 rfl dX1_ping_36 ?_
    refine z_iconst (pc := 39) (v := 0) dX1_ping_39 (by decide) ?_
    refine z_istore (pc := 40) dX1_ping_40 rfl (by decide) ?_
    refine s_X1_ping_42_14 hT (o := (pgF T (M.1 15) o L (j + 1)).1) (L := (pgF T (M.1 15) o L j).2) ?_ 0 (Nat.zero_le _) _ _ rfl (by rw [pm_q0 M (by decide), pm_13, pm_n M (by decide) (by decide), pm_set M (by decide)]; rfl)
    refine z_iinc (pc := 76) dX1_ping_76 rfl rfl rfl (by decide) ?_
    refine z_goto (pc := 79) (tgt := 10) dX1_ping_79 (by decide) ?_
    refine z_drop 4 ?_
    exact s_X1_ping_10_14 hT kk (j + 1) hlt _ _ (z_n1 h2) (by rw [pm_q0 M (by decide), pm_13, pm_n M (by decide) (by decide)]; rfl)
termination_by T.1 + 1 - j
decreasing_by all_goals omega
set_option maxRecDepth 100000 in
set_option maxHeartbeats 400000 in
theorem c_X2_isOpen_16 {M : z_Mem} {x : Int32} {j : Nat} (hx : x = nI j) (hj : j < 32) : z_Ct mX2_isOpen [.ref 16, .int x] M (some (.int (if bt (M.1 16 0) j then 1 else 0))) M := by
  refine z_entry (by decide +kernel) (Nat.le_of_ble_eq_true rfl) rfl ?_
  show z_Sm mX2_isOpen _ _ 0 [some (.ref 16), some (.int x)] [] M
  refine z_aload_n (pc := 0) dX2_isOpen_0 rfl ?_
  refine z_getI (pc := 1) q_fX2_9 z_s16 rfl dX2_isOpen_1 ?_
  refine z_iconst (pc := 4) (v := 1) dX2_isOpen_4 (by decide) ?_
  refine z_iload_n (pc := 5) dX2_isOpen_5 rfl ?_
  refine z_ishl (pc := 6) dX2_isOpen_6 ?_
  refine z_iand (pc := 7) dX2_isOpen_7 ?_
  refine z_if_eq (pc := 8) (tgt := 15) dX2_isOpen_8 (by decide) (fun h8 => ?_) (fun h8 => ?_)
  · refine z_iconst (pc := 15) (v := 0) dX2_isOpen_15 (by decide) ?_
    refine z_zret (pc := 16) rfl dX2_isOpen_16 ?_ ?_ ?_
    · rfl
    · rw [hx] at h8
      rw [(z_b0 _ hj).mp h8]; rfl
    · rfl
  · refine z_iconst (pc := 11) (v := 1) dX2_isOpen_11 (by decide) ?_
    refine z_goto (pc := 12) (tgt := 16) dX2_isOpen_12 (by decide) ?_
    refine z_zret (pc := 16) rfl dX2_isOpen_16 ?_ ?_ ?_
    · rfl
    · rw [hx] at h8
      rw [z_nb (fun q => h8 ((z_b0 (M.1 16 0) hj).mpr q))]; rfl
    · rfl
set_option maxRecDepth 100000 in
set_option maxHeartbeats 400000 in
theorem s_X1_givingNow_4_16 {M M2 : z_Mem} {r : Option Value} {T : TT} (hT : TK M T) (kk : z_Sm mX1_givingNow r M2 57 [some (.ref 12), some (.ref 16), some (.int (gvF T (M.1 17) (M.1 16 0) (M.1 13) (T.1))), none] [] (M)) (j : Nat) (hj : j ≤ T.1) (ij : Int32) (g : Int32) (h2 : ij = nI j) (hv_g : g = gvF T (M.1 17) (M.1 16 0) (M.1 13) j) : z_Sm mX1_givingNow r M2 4 [some (.ref 12), some (.ref 16), some (.int g), some (.int ij)] [] M := by
  have hP7 := hT.1.2.1
  refine z_iload_n (pc := 4) dX1_givingNow_4 rfl ?_
  refine z_aload_n (pc := 5) dX1_givingNow_5 rfl ?_
  refine z_getR (pc := 6) 3 q_fX1_15 z_s12 rfl dX1_givingNow_6 ?_
  refine z_getI (pc := 9) q_fX1_39 z_s3 rfl dX1_givingNow_9 ?_
  refine z_icmp_ge (pc := 12) (tgt := 57) dX1_givingNow_12 (by decide) (fun h12 => ?_) (fun h12 => ?_)
  · have hNj : T.1 ≤ j := by
      have := z_ge h12 h2 hT.1.1 (by omega) (by omega)
      omega
    obtain rfl : j = T.1 := by omega
    subst hv_g
    exact z_drop 3 kk
  · have hlt : j < T.1 := by
      have := z_lt h12 h2 hT.1.1 (by omega) (by omega)
      omega
    obtain ⟨hs, hk⟩ := hT.2 j hlt
    refine z_aload_n (pc := 15) dX1_givingNow_15 rfl ?_
    refine z_iload_n (pc := 16) dX1_givingNow_16 rfl ?_
    refine z_cV1 (pc := 17) (c_X2_isOpen_16 h2 (by omega)) (q_cX1_50 _ (by decide)) z_s16 rfl rfl dX1_givingNow_17 ?_
    refine z_if_ne (pc := 20) (tgt := 51) dX1_givingNow_20 (by decide) (fun h20 => ?_) (fun h20 => ?_)
    · refine z_iinc (pc := 51) dX1_givingNow_51 rfl rfl rfl (by decide) ?_
      refine z_goto (pc := 54) (tgt := 4) dX1_givingNow_54 (by decide) ?_
      have hb : bt (M.1 16 0) j = true := by
        cases q : bt (M.1 16 0) j
        · rw [q] at h20; exact absurd rfl h20
        · rfl
      exact s_X1_givingNow_4_16 hT kk (j + 1) hlt _ _ (z_n1 h2) (by rw [hv_g, gvF, if_neg (by rw [hb]; simp)])
    · refine z_aload_n (pc := 23) dX1_givingNow_23 rfl ?_
      refine z_iload_n (pc := 24) dX1_givingNow_24 rfl ?_
      refine z_cV1 (pc := 25) (c_X1_loadOf hT h2 hlt) (q_cX1_54 _ (by decide)) z_s12 rfl rfl dX1_givingNow_25 ?_
      refine z_aload_n (pc := 28) dX1_givingNow_28 rfl ?_
      refine z_getR (pc := 29) 3 q_fX1_15 z_s12 rfl dX1_givingNow_29 ?_
      refine z_iload_n (pc := 32) dX1_givingNow_32 rfl ?_
      refine z_aload_n (pc := 33) dX1_givingNow_33 rfl ?_
      refine z_getR (pc := 34) 17 q_fX1_57 z_s16 rfl dX1_givingNow_34 ?_
      refine z_iload_n (pc := 37) dX1_givingNow_37 rfl ?_
      refine z_iald (pc := 38) (j) z_s17 ⟨h2, by omega, by decide⟩ dX1_givingNow_38 ?_
      refine z_cV2 (pc := 39) (c_X4_holds h2 (by omega)) (q_cX1_60 _ (by decide)) z_s3 rfl rfl dX1_givingNow_39 ?_
      refine z_icmp_le (pc := 42) (tgt := 51) dX1_givingNow_42 (by decide) (fun h42 => ?_) (fun h42 => ?_)
      · refine z_iinc (pc := 51) dX1_givingNow_51 rfl rfl rfl (by decide) ?_
        refine z_goto (pc := 54) (tgt := 4) dX1_givingNow_54 (by decide) ?_
        rw [hs, hk] at h42
        exact s_X1_givingNow_4_16 hT kk (j + 1) hlt _ _ (z_n1 h2) (by rw [hv_g, gvF, if_neg (fun q => (Int32.not_lt.mpr h42) q.2)])
      · refine z_iload_n (pc := 45) dX1_givingNow_45 rfl ?_
        refine z_iconst (pc := 46) (v := 1) dX1_givingNow_46 (by decide) ?_
        refine z_iload_n (pc := 47) dX1_givingNow_47 rfl ?_
        refine z_ishl (pc := 48) dX1_givingNow_48 ?_
        refine z_ior (pc := 49) dX1_givingNow_49 ?_
        refine z_istore_n (pc := 50) dX1_givingNow_50 rfl (by decide) ?_
        refine z_iinc (pc := 51) dX1_givingNow_51 rfl rfl rfl (by decide) ?_
        refine z_goto (pc := 54) (tgt := 4) dX1_givingNow_54 (by decide) ?_
        rw [hs, hk] at h42
        have hb : bt (M.1 16 0) j = false := by
          cases q : bt (M.1 16 0) j
          · rfl
          · rw [q] at h20; exact absurd h20 (by decide)
        exact s_X1_givingNow_4_16 hT kk (j + 1) hlt _ _ (z_n1 h2) (by rw [hv_g, gvF, if_pos ⟨hb, Int32.not_le.mp h42⟩, h2]; rfl)
termination_by T.1 - j
decreasing_by all_goals omega
set_option maxRecDepth 100000 in
set_option maxHeartbeats 400000 in
theorem c_X1_givingNow_16 {M : z_Mem} {T : TT} (hT : TK M T) : z_Ct mX1_givingNow [.ref 12, .ref 16] M (some (.int (gvF T (M.1 17) (M.1 16 0) (M.1 13) T.1))) M := by
  refine z_entry (by decide +kernel) (Nat.le_of_ble_eq_true rfl) rfl ?_
  show z_Sm mX1_givingNow _ _ 0 [some (.ref 12), some (.ref 16), none, none] [] M
  refine z_iconst (pc := 0) (v := 0) dX1_givingNow_0 (by decide) ?_
  refine z_istore_n (pc := 1) dX1_givingNow_1 rfl (by decide) ?_
  refine z_iconst (pc := 2) (v := 0) dX1_givingNow_2 (by decide) ?_
  refine z_istore_n (pc := 3) dX1_givingNow_3 rfl (by decide) ?_
  refine s_X1_givingNow_4_16 hT ?_ 0 (Nat.zero_le _) _ _ rfl rfl
  refine z_iload_n (pc := 57) dX1_givingNow_57 rfl ?_
  refine z_iret (pc := 58) rfl dX1_givingNow_58 ?_ ?_
  · rfl
  · rfl
set_option maxRecDepth 100000 in
set_option maxHeartbeats 400000 in
theorem s_X1_ping_42_16 {M M2 : z_Mem} {r : Option Value} {T : TT} (hT : TK M T) {b0 rd g o : Int32} {L : Nat → Int32} (kk : z_Sm mX1_ping r M2 76 [some (.ref 12), some (.ref 16), some (.int b0), some (.int rd), some (.int g), none] [] (pm M 16 o (bdF T g L (T.1)))) (j : Nat) (hj : j ≤ T.1) (ij : Int32) (Mj : z_Mem) (h2 : ij = nI j) (hM : Mj = pm M 16 o (bdF T g L j)) : z_Sm mX1_ping r M2 42 [some (.ref 12), some (.ref 16), some (.int b0), some (.int rd), some (.int g), some (.int ij)] [] Mj := by
  have hP7 := hT.1.2.1
  have hP : ∀ X, (pm M 16 o X).1 3 0 = nI T.1 := fun X => by rw [pm_n M (by decide) (by decide)]; exact hT.1.1
  subst hM
  refine z_iload (pc := 42) dX1_ping_42 rfl ?_
  refine z_aload_n (pc := 44) dX1_ping_44 rfl ?_
  refine z_getR (pc := 45) 3 q_fX1_15 z_s12 rfl dX1_ping_45 ?_
  refine z_getI (pc := 48) q_fX1_39 z_s3 rfl dX1_ping_48 ?_
  refine z_icmp_ge (pc := 51) (tgt := 76) dX1_ping_51 (by decide) (fun h51 => ?_) (fun h51 => ?_)
  · have hNj : T.1 ≤ j := by
      have := z_ge h51 h2 (hP _) (by omega) (by omega)
      omega
    obtain rfl : j = T.1 := by omega
    exact z_drop 5 kk
  · have hlt : j < T.1 := by
      have := z_lt h51 h2 (hP _) (by omega) (by omega)
      omega
    refine z_iload (pc := 54) dX1_ping_54 rfl ?_
    refine z_iconst (pc := 56) (v := 1) dX1_ping_56 (by decide) ?_
    refine z_iload (pc := 57) dX1_ping_57 rfl ?_
    refine z_ishl (pc := 59) dX1_ping_59 ?_
    refine z_iand (pc := 60) dX1_ping_60 ?_
    refine z_if_eq (pc := 61) (tgt := 70) dX1_ping_61 (by decide) (fun h61 => ?_) (fun h61 => ?_)
    · refine z_iinc (pc := 70) dX1_ping_70 rfl rfl rfl (by decide) ?_
      refine z_goto (pc := 73) (tgt := 42) dX1_ping_73 (by decide) ?_
      rw [h2] at h61
      have hb := (z_b0 g (k := j) (by omega)).mp h61
      exact s_X1_ping_42_16 hT kk (j + 1) hlt _ _ (z_n1 h2) (by rw [bdF, if_neg (by rw [hb]; simp)])
    · refine z_aload_n (pc := 64) dX1_ping_64 rfl ?_
      refine z_iload (pc := 65) dX1_ping_65 rfl ?_
      refine z_cV1v (pc := 67) (c_X1_burdenEnds (TK_pm hT (by decide) _ _) h2 hlt) (q_cX1_46 _ (by decide)) z_s12 rfl rfl dX1_ping_67 ?_
      refine z_iinc (pc := 70) dX1_ping_70 rfl rfl rfl (by decide) ?_
      refine z_goto (pc := 73) (tgt := 42) dX1_ping_73 (by decide) ?_
      rw [h2] at h61
      have hb := z_nb (fun q => h61 ((z_b0 g (k := j) (by omega)).mpr q))
      exact s_X1_ping_42_16 hT kk (j + 1) hlt _ _ (z_n1 h2) (by rw [bdF, if_pos hb, pm_13, pm_row])
termination_by T.1 - j
decreasing_by all_goals omega
set_option maxRecDepth 100000 in
set_option maxHeartbeats 400000 in
theorem s_X1_ping_10_16 {M M2 : z_Mem} {r : Option Value} {T : TT} (hT : TK M T) {b0 o : Int32} {L : Nat → Int32} (kk : z_Sm mX1_ping r M2 82 [some (.ref 12), some (.ref 16), some (.int b0), none, none, none] [] (pm M 16 (pgF T (M.1 17) o L (T.1 + 1)).1 (pgF T (M.1 17) o L (T.1 + 1)).2)) (j : Nat) (hj : j ≤ T.1 + 1) (ij : Int32) (Mj : z_Mem) (h2 : ij = nI j) (hM : Mj = pm M 16 (pgF T (M.1 17) o L j).1 (pgF T (M.1 17) o L j).2) : z_Sm mX1_ping r M2 10 [some (.ref 12), some (.ref 16), some (.int b0), some (.int ij), none, none] [] Mj := by
  have hP7 := hT.1.2.1
  have hP : ∀ Y X, (pm M 16 Y X).1 3 0 = nI T.1 := fun Y X => by rw [pm_n M (by decide) (by decide)]; exact hT.1.1
  subst hM
  refine z_iload_n (pc := 10) dX1_ping_10 rfl ?_
  refine z_aload_n (pc := 11) dX1_ping_11 rfl ?_
  refine z_getR (pc := 12) 3 q_fX1_15 z_s12 rfl dX1_ping_12 ?_
  refine z_getI (pc := 15) q_fX1_39 z_s3 rfl dX1_ping_15 ?_
  refine z_icmp_gt (pc := 18) (tgt := 82) dX1_ping_18 (by decide) (fun h18 => ?_) (fun h18 => ?_)
  · have hNj : T.1 + 1 ≤ j := by
      have := z_gt h18 h2 (hP _ _) (by omega) (by omega)
      omega
    obtain rfl : j = T.1 + 1 := by omega
    exact z_drop 3 kk
  · have hlt : j < T.1 + 1 := by
      have := z_ngt h18 h2 (hP _ _) (by omega) (by omega)
      omega
    refine z_aload_n (pc := 21) dX1_ping_21 rfl ?_
    refine z_aload_n (pc := 22) dX1_ping_22 rfl ?_
    refine z_cV1 (pc := 23) (c_X1_givingNow_16 (TK_pm hT (by decide) _ _)) (q_cX1_42 _ (by decide)) z_s12 rfl rfl dX1_ping_23 ?_
    refine z_istore (pc := 26) dX1_ping_26 rfl (by decide) ?_
    refine z_aload_n (pc := 28) dX1_ping_28 rfl ?_
    refine z_dup (pc := 29) dX1_ping_29 rfl ?_
    refine z_getI (pc := 30) q_fX1_27 z_s16 rfl dX1_ping_30 ?_
    refine z_iload (pc := 33) dX1_ping_33 rfl ?_
    refine z_ior (pc := 35) dX1_ping_35 ?_
    refine z_putI (pc := 36) q_fX1_27 q_p2_0 z_s16 rfl dX1_ping_36 ?_
    refine z_iconst (pc := 39) (v := 0) dX1_ping_39 (by decide) ?_
    refine z_istore (pc := 40) dX1_ping_40 rfl (by decide) ?_
    refine s_X1_ping_42_16 hT (o := (pgF T (M.1 17) o L (j + 1)).1) (L := (pgF T (M.1 17) o L j).2) ?_ 0 (Nat.zero_le _) _ _ rfl (by rw [pm_q0 M (by decide), pm_13, pm_n M (by decide) (by decide), pm_set M (by decide)]; rfl)
    refine z_iinc (pc := 76) dX1_ping_76 rfl rfl rfl (by decide) ?_
    refine z_goto (pc := 79) (tgt := 10) dX1_ping_79 (by decide) ?_
    refine z_drop 4 ?_
    exact s_X1_ping_10_16 hT kk (j + 1) hlt _ _ (z_n1 h2) (by rw [pm_q0 M (by decide), pm_13, pm_n M (by decide) (by decide)]; rfl)
termination_by T.1 + 1 - j
decreasing_by all_goals omega
