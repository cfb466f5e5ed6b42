/-! ===== a text without a fault, and the town that it tells ===== -/
/-- where the k-th letter c stands, of those in places 1 .. p - 1 -/
def nP (l : Nat → Int32) (c : Int32) : Nat → Nat → Nat
  | 0, _ => 0
  | p + 1, k => if (1 ≤ p ∧ l p = c) ∧ k = cN l c p then p else nP l c p k
theorem nP_old {l : Nat → Int32} {c : Int32} {p k : Nat} (h : k < cN l c p) : nP l c (p + 1) k = nP l c p k := by rw [nP, if_neg (fun q => by have := q.2; omega)]
theorem nP_new {l : Nat → Int32} {c : Int32} {p : Nat} (h1 : 1 ≤ p) (h : l p = c) : nP l c (p + 1) (cN l c p) = p := by rw [nP, if_pos ⟨⟨h1, h⟩, rfl⟩]
def fgN (l : Nat → Int32) (n p : Nat) : Nat := (fg l n p).toNatClampNeg
def twP (l : Nat → Int32) (n : Nat) : TT := (cN l 78 n, fun k => fgN l n (nP l 78 n k + 1), fun k => fgN l n (nP l 78 n k + 2), fun k => fg l n (nP l 78 n k + 3), fun k => fg l n (nP l 78 n k + 4))
def twU (l : Nat → Int32) (n : Nat) : UT := (cN l 87 n, fun k => fgN l n (nP l 87 n k + 1), fun k => fg l n (nP l 87 n k + 2))
def twD (l : Nat → Int32) (n : Nat) : DT := (cN l 68 n, fun k => fgN l n (nP l 68 n k + 1), fun k => fgN l n (nP l 68 n k + 2))
/-- what is so of a letter that begins a part -/
def VP (l : Nat → Int32) (n q : Nat) : Prop := ¬ sz (l q) = 0 → okB l q = true ∧ ∀ i, q < i → i < q + sz (l q) → i < n ∧ okG l n q i = true
theorem okG_digit {l : Nat → Int32} {n s p : Nat} (h : okG l n s p = true) : sz (l p) = 0 := by
  have h0 : ¬ fg l n p < 0 := by
    intro q
    rw [okG, if_pos q] at h
    cases h
  unfold fg at h0
  split at h0
  · exact absurd (by decide) h0
  · split at h0
    · exact absurd (by decide) h0
    · next h1 =>
      split at h0
      · exact absurd (by decide) h0
      · next h2 =>
        have e1 : ¬ l p = 78 := fun q => h2 (by rw [q]; decide)
        have e2 : ¬ l p = 87 := fun q => h2 (by rw [q]; decide)
        have e3 : ¬ l p = 68 := fun q => h2 (by rw [q]; decide)
        rw [sz, if_neg e1, if_neg e2, if_neg e3]
theorem sz_one (c : Int32) : ¬ 1 = sz c := by unfold sz; split <;> (try split) <;> (try split) <;> decide
theorem scn_ok {l : Nat → Int32} {n : Nat} (hn : n ≤ 60) : ∀ (f p s : Nat), p + f = n → s ≤ p → scn l n f p s = -9 → (s < p → ∀ i, p ≤ i → i < s + sz (l s) → i < n ∧ okG l n s i = true) ∧ ∀ q, p ≤ q → q < n → VP l n q
  | 0, p, s, hf, hs, h => by
    have e : s = n := by
      rw [scn] at h
      split at h
      · assumption
      · exfalso
        exact nI_pos (n := n) (by omega) (by rw [h]; decide)
    exact ⟨fun q => by omega, fun q h1 h2 => by omega⟩
  | f + 1, p, s, hf, hs, h => by
    have hne : ∀ k, k < n → ¬ nI k = -9 := fun k hk q => nI_pos (n := k) (by omega) (by rw [q]; decide)
    rw [scn] at h
    by_cases hc : (if p = s then okB l p else okG l n s p) = false
    · rw [if_pos hc] at h
      exact absurd h (hne p (by omega))
    · rw [if_neg hc] at h
      by_cases e : p = s
      · subst e
        rw [if_pos rfl] at hc
        have hb : okB l p = true := z_nb hc
        rw [if_neg (by rw [Nat.sub_self, Nat.zero_add]; exact sz_one _)] at h
        obtain ⟨i1, i2⟩ := scn_ok hn f (p + 1) p (by omega) (by omega) h
        refine ⟨fun q => absurd q (Nat.lt_irrefl _), fun q h1 h2 => ?_⟩
        by_cases e2 : q = p
        · subst e2
          exact fun _ => ⟨hb, fun i j1 j2 => i1 (Nat.lt_succ_self _) i j1 j2⟩
        · exact i2 q (by omega) h2
      · rw [if_neg e] at hc
        have hg : okG l n s p = true := z_nb hc
        have hv : VP l n p := fun q => absurd (okG_digit hg) q
        split at h
        · next e3 =>
          obtain ⟨-, i2⟩ := scn_ok hn f (p + 1) (p + 1) (by omega) (Nat.le_refl _) h
          refine ⟨fun _ i j1 j2 => ?_, fun q h1 h2 => ?_⟩
          · obtain rfl : i = p := by omega
            exact ⟨by omega, hg⟩
          · by_cases e2 : q = p
            · subst e2; exact hv
            · exact i2 q (by omega) h2
        · obtain ⟨i1, i2⟩ := scn_ok hn f (p + 1) s (by omega) (by omega) h
          refine ⟨fun _ i j1 j2 => ?_, fun q h1 h2 => ?_⟩
          · by_cases e2 : i = p
            · subst e2; exact ⟨by omega, hg⟩
            · exact i1 (by omega) i (by omega) j2
          · by_cases e2 : q = p
            · subst e2; exact hv
            · exact i2 q (by omega) h2
/-- no fault: every letter that begins a part begins a whole one -/
theorem faF_ok {l : Nat → Int32} {n : Nat} (hn : n ≤ 60) (h : faF l n = -9) : 1 ≤ n ∧ ∀ q, 1 ≤ q → q < n → VP l n q := by
  unfold faF at h
  split at h
  · exact absurd h (by decide)
  · split at h
    · exact ⟨by omega, (scn_ok hn (n - 1) 1 1 (by omega) (Nat.le_refl _) h).2⟩
    · exact absurd h (by decide)
theorem fg_rng {l : Nat → Int32} {n p : Nat} (h : ¬ fg l n p < 0) : ∃ v, v < 10 ∧ fg l n p = nI v := by
  have h9 : fg l n p ≤ 9 := by
    unfold fg
    split
    · decide
    · split
      · decide
      · split
        · decide
        · next h1 h2 =>
          have a1 := Int32.le_iff_toInt_le.mp (Int32.not_lt.mp h2)
          have a2 := Int32.le_iff_toInt_le.mp (Int32.not_lt.mp h1)
          have e57 : (57 : Int32).toInt = 57 := by decide
          have e48 : (48 : Int32).toInt = 48 := by decide
          rw [Int32.le_iff_toInt_le, Int32.toInt_sub, e48]
          have e9 : (9 : Int32).toInt = 9 := by decide
          rw [e9, Int.bmod_eq_of_le (by omega) (by omega)]
          omega
  obtain ⟨j, hj, e⟩ := nI_of2 (M := 9) (n := 9) (by decide) h h9
  exact ⟨j, by omega, e⟩
theorem fg_six {l : Nat → Int32} {n p : Nat} (h : ¬ fg l n p < 0) (h6 : fg l n p < 6) : fg l n p = nI (fgN l n p) ∧ fgN l n p < 6 := by
  obtain ⟨v, hv, e⟩ := fg_rng h
  unfold fgN
  rw [e, nI_clamp (by omega)]
  rw [e] at h6
  exact ⟨rfl, (nI_ltI (b := 6) (by omega) (by decide)).mp h6⟩
/-- a part's figures -/
theorem okG_1 {l : Nat → Int32} {n s : Nat} (h : okG l n s (s + 1) = true) : fg l n (s + 1) = nI (fgN l n (s + 1)) ∧ fgN l n (s + 1) < 6 := by
  unfold okG at h
  split at h
  · cases h
  · next h0 =>
    rw [if_pos rfl] at h
    exact fg_six h0 (of_decide_eq_true h)
theorem okG_2 {l : Nat → Int32} {n s : Nat} (hw : ¬ l s = 87) (h : okG l n s (s + 2) = true) : fg l n (s + 2) = nI (fgN l n (s + 2)) ∧ fgN l n (s + 2) < 6 ∧ ¬ fg l n (s + 2) = fg l n (s + 1) := by
  unfold okG at h
  split at h
  · cases h
  · next h0 =>
    rw [if_neg (show ¬ s + 2 = s + 1 by omega), if_pos rfl] at h
    try rw [if_neg hw] at h
    split at h
    · next h6 =>
      obtain ⟨a1, a2⟩ := fg_six h0 h6
      exact ⟨a1, a2, of_decide_eq_true h⟩
    · cases h
theorem VP.lt {l : Nat → Int32} {n q : Nat} (hv : VP l n q) (h : ¬ sz (l q) = 0) : cN l (l q) q < mo (l q) := by
  have := (hv h).1
  rw [okB, if_neg h] at this
  exact of_decide_eq_true this
theorem cN_most {l : Nat → Int32} {n : Nat} {c : Int32} (hc : ¬ sz c = 0) (hV : ∀ q, 1 ≤ q → q < n → VP l n q) : ∀ p, p ≤ n → cN l c p ≤ mo c
  | 0, _ => Nat.zero_le _
  | p + 1, h => by
    have ih := cN_most hc hV p (by omega)
    by_cases e : 1 ≤ p ∧ l p = c
    · rw [cN_yes e.1 e.2]
      have := (hV p e.1 (by omega)).lt (by rw [e.2]; exact hc)
      rw [e.2] at this
      omega
    · rw [cN, if_neg e]; omega
/-- every number below the count has its place -/
theorem nP_at {l : Nat → Int32} {c : Int32} : ∀ (p k : Nat), k < cN l c p → 1 ≤ nP l c p k ∧ nP l c p k < p ∧ l (nP l c p k) = c
  | 0, k, h => absurd h (Nat.not_lt_zero _)
  | p + 1, k, h => by
    by_cases e : 1 ≤ p ∧ l p = c
    · rw [cN_yes e.1 e.2] at h
      by_cases e2 : k = cN l c p
      · rw [e2, nP_new e.1 e.2]
        exact ⟨e.1, Nat.lt_succ_self _, e.2⟩
      · have := nP_at (l := l) (c := c) p k (by omega)
        rw [nP_old (by omega)]
        exact ⟨this.1, by omega, this.2.2⟩
    · have h2 : k < cN l c p := by rw [cN, if_neg e] at h; omega
      have := nP_at p k h2
      rw [nP_old h2]
      exact ⟨this.1, by omega, this.2.2⟩
set_option maxRecDepth 100000 in
set_option maxHeartbeats 400000 in
theorem c_X4_addPin {M : z_Mem} {l : Nat → Int32} {n P q : Nat} (hS : ScAt M l n) (hP : M.1 3 0 = nI P) (hP7 : P < 7) {x : Int32} (hx : x = nI q) (hqn : q < n) : z_Ct mX4_addPin [.ref 3, .ref 1, .int x] M none (z_set (z_set (z_set (z_set (z_set M 4 P (fg l n (q + 1))) 5 P (fg l n (q + 2))) 6 P (fg l n (q + 3))) 7 P (fg l n (q + 4))) 3 0 (nI (P + 1))) := by
  have hb : ∀ N, Sb [4, 5, 6, 7] M N → ScAt N l n := fun N h => ScAt_sb hS h (by simp) (by simp)
  have hp : ∀ N, Sb [4, 5, 6, 7] M N → N.1 3 0 = nI P := fun N h => by rw [h.1 3 (by simp)]; exact hP
  have hn := hS.2.1
  have s1 : ∀ v, Sb [4, 5, 6, 7] M (z_set M 4 P v) := fun v => Sb.set v (by simp)
  have s2 : ∀ v w, Sb [4, 5, 6, 7] M (z_set (z_set M 4 P v) 5 P w) := fun v w => (s1 v).tr (Sb.set w (by simp))
  have s3 : ∀ v w u, Sb [4, 5, 6, 7] M (z_set (z_set (z_set M 4 P v) 5 P w) 6 P u) := fun v w u => (s2 v w).tr (Sb.set u (by simp))
  have s4 : ∀ v w u t, Sb [4, 5, 6, 7] M (z_set (z_set (z_set (z_set M 4 P v) 5 P w) 6 P u) 7 P t) := fun v w u t => (s3 v w u).tr (Sb.set t (by simp))
  have hq : ∀ d : Nat, x + nI d = nI (q + d) := fun d => by rw [hx, nI_add]
  refine z_entry (by decide +kernel) (Nat.le_of_ble_eq_true rfl) rfl ?_
  show z_Sm mX4_addPin _ _ 0 [some (.ref 3), some (.ref 1), some (.int x)] [] M
  refine z_aload_n (pc := 0) dX4_addPin_0 rfl ?_
  refine z_getR (pc := 1) 4 q_fX4_15 z_s3 rfl dX4_addPin_1 ?_
  refine z_aload_n (pc := 4) dX4_addPin_4 rfl ?_
  refine z_getI (pc := 5) q_fX4_9 z_s3 rfl dX4_addPin_5 ?_
  refine z_aload_n (pc := 8) dX4_addPin_8 rfl ?_
  refine z_iload_n (pc := 9) dX4_addPin_9 rfl ?_
  refine z_iconst (pc := 10) (v := 1) dX4_addPin_10 (by decide) ?_
  refine z_iadd (pc := 11) dX4_addPin_11 ?_
  refine z_cV1 (pc := 12) (c_X3_figure (p := q + 1) hS (hq 1) (by omega)) (q_cX4_58 _ (by decide)) z_s1 rfl rfl dX4_addPin_12 ?_
  refine z_iast (pc := 15) (P) z_s4 ⟨hP, hP7, by decide⟩ dX4_addPin_15 ?_
  refine z_aload_n (pc := 16) dX4_addPin_16 rfl ?_
  refine z_getR (pc := 17) 5 q_fX4_19 z_s3 rfl dX4_addPin_17 ?_
  refine z_aload_n (pc := 20) dX4_addPin_20 rfl ?_
  refine z_getI (pc := 21) q_fX4_9 z_s3 rfl dX4_addPin_21 ?_
  refine z_aload_n (pc := 24) dX4_addPin_24 rfl ?_
  refine z_iload_n (pc := 25) dX4_addPin_25 rfl ?_
  refine z_iconst (pc := 26) (v := 2) dX4_addPin_26 (by decide) ?_
  refine z_iadd (pc := 27) dX4_addPin_27 ?_
  refine z_cV1 (pc := 28) (c_X3_figure (p := q + 2) (hb _ (s1 _)) (hq 2) (by omega)) (q_cX4_58 _ (by decide)) z_s1 rfl rfl dX4_addPin_28 ?_
  refine z_iast (pc := 31) (P) z_s5 ⟨hp _ (s1 _), hP7, by decide⟩ dX4_addPin_31 ?_
  refine z_aload_n (pc := 32) dX4_addPin_32 rfl ?_
  refine z_getR (pc := 33) 6 q_fX4_22 z_s3 rfl dX4_addPin_33 ?_
  refine z_aload_n (pc := 36) dX4_addPin_36 rfl ?_
  refine z_getI (pc := 37) q_fX4_9 z_s3 rfl dX4_addPin_37 ?_
  refine z_aload_n (pc := 40) dX4_addPin_40 rfl ?_
  refine z_iload_n (pc := 41) dX4_addPin_41 rfl ?_
  refine z_iconst (pc := 42) (v := 3) dX4_addPin_42 (by decide) ?_
  refine z_iadd (pc := 43) dX4_addPin_43 ?_
  refine z_cV1 (pc := 44) (c_X3_figure (p := q + 3) (hb _ (s2 _ _)) (hq 3) (by omega)) (q_cX4_58 _ (by decide)) z_s1 rfl rfl dX4_addPin_44 ?_
  refine z_iast (pc := 47) (P) z_s6 ⟨hp _ (s2 _ _), hP7, by decide⟩ dX4_addPin_47 ?_
  refine z_aload_n (pc := 48) dX4_addPin_48 rfl ?_
  refine z_getR (pc := 49) 7 q_fX4_25 z_s3 rfl dX4_addPin_49 ?_
  refine z_aload_n (pc := 52) dX4_addPin_52 rfl ?_
  refine z_getI (pc := 53) q_fX4_9 z_s3 rfl dX4_addPin_53 ?_
  refine z_aload_n (pc := 56) dX4_addPin_56 rfl ?_
  refine z_iload_n (pc := 57) dX4_addPin_57 rfl ?_
  refine z_iconst (pc := 58) (v := 4) dX4_addPin_58 (by decide) ?_
  refine z_iadd (pc := 59) dX4_addPin_59 ?_
  refine z_cV1 (pc := 60) (c_X3_figure (p := q + 4) (hb _ (s3 _ _ _)) (hq 4) (by omega)) (q_cX4_58 _ (by decide)) z_s1 rfl rfl dX4_addPin_60 ?_
  refine z_iast (pc := 63) (P) z_s7 ⟨hp _ (s3 _ _ _), hP7, by decide⟩ dX4_addPin_63 ?_
  refine z_aload_n (pc := 64) dX4_addPin_64 rfl ?_
  refine z_dup (pc := 65) dX4_addPin_65 rfl ?_
  refine z_getI (pc := 66) q_fX4_9 z_s3 rfl dX4_addPin_66 ?_
  refine z_iconst (pc := 69) (v := 1) dX4_addPin_69 (by decide) ?_
  refine z_iadd (pc := 70) dX4_addPin_70 ?_
  refine z_putI (pc := 71) q_fX4_9 q_p4_0 z_s3 rfl dX4_addPin_71 ?_
  refine z_vret (pc := 74) rfl dX4_addPin_74 ?_
  rw [hp _ (s4 _ _ _ _), nI_succ]
/-- as far as the text has been read into the class's cells -/
def RdA (M : z_Mem) (l : Nat → Int32) (n p : Nat) : Prop := M.1 3 0 = nI (cN l 78 p) ∧ ∀ k, k < cN l 78 p → M.1 4 k = fg l n (nP l 78 p k + 1) ∧ M.1 5 k = fg l n (nP l 78 p k + 2) ∧ M.1 6 k = fg l n (nP l 78 p k + 3) ∧ M.1 7 k = fg l n (nP l 78 p k + 4)
def RdB (M : z_Mem) (l : Nat → Int32) (n p : Nat) : Prop := M.1 3 5 = nI (cN l 87 p) ∧ ∀ k, k < cN l 87 p → M.1 8 k = fg l n (nP l 87 p k + 1) ∧ M.1 9 k = fg l n (nP l 87 p k + 2)
def RdC (M : z_Mem) (l : Nat → Int32) (n p : Nat) : Prop := M.1 3 8 = nI (cN l 68 p) ∧ ∀ k, k < cN l 68 p → M.1 10 k = fg l n (nP l 68 p k + 1) ∧ M.1 11 k = fg l n (nP l 68 p k + 2)
theorem RdA_no {M N : z_Mem} {l : Nat → Int32} {n p : Nat} (h : RdA M l n p) (hp : ¬ l p = 78) (e : N.1 3 0 = M.1 3 0 ∧ N.1 4 = M.1 4 ∧ N.1 5 = M.1 5 ∧ N.1 6 = M.1 6 ∧ N.1 7 = M.1 7) : RdA N l n (p + 1) := by
  unfold RdA
  rw [cN_no hp, e.1, e.2.1, e.2.2.1, e.2.2.2.1, e.2.2.2.2]
  refine ⟨h.1, fun k hk => ?_⟩
  rw [nP_old hk]
  exact h.2 k hk
theorem RdB_no {M N : z_Mem} {l : Nat → Int32} {n p : Nat} (h : RdB M l n p) (hp : ¬ l p = 87) (e : N.1 3 5 = M.1 3 5 ∧ N.1 8 = M.1 8 ∧ N.1 9 = M.1 9) : RdB N l n (p + 1) := by
  unfold RdB
  rw [cN_no hp, e.1, e.2.1, e.2.2]
  refine ⟨h.1, fun k hk => ?_⟩
  rw [nP_old hk]
  exact h.2 k hk
theorem RdC_no {M N : z_Mem} {l : Nat → Int32} {n p : Nat} (h : RdC M l n p) (hp : ¬ l p = 68) (e : N.1 3 8 = M.1 3 8 ∧ N.1 10 = M.1 10 ∧ N.1 11 = M.1 11) : RdC N l n (p + 1) := by
  unfold RdC
  rw [cN_no hp, e.1, e.2.1, e.2.2]
  refine ⟨h.1, fun k hk => ?_⟩
  rw [nP_old hk]
  exact h.2 k hk
theorem upd_lt {f : Nat → Int32} {P k : Nat} {v : Int32} (h : k < P) : upd f P v k = f k := upd_n _ _ (by omega)
set_option maxRecDepth 100000 in
set_option maxHeartbeats 400000 in
theorem s_X4_readFrom_17 {l : Nat → Int32} {n : Nat} (hV : ∀ q, 1 ≤ q → q < n → VP l n q) {Mj : z_Mem} (hS : ScAt Mj l n) (p : Nat) (hp1 : 1 ≤ p) (hpn : p ≤ n) (ij : Int32) (Mk : z_Mem) (h2 : ij = nI p) (hA : RdA Mj l n p) (hB : RdB Mj l n p) (hC : RdC Mj l n p) : ∃ M2, z_Sm mX4_readFrom none M2 17 [some (.ref 3), some (.ref 1), some (.int ij), none] [] Mj ∧ RdA M2 l n n ∧ RdB M2 l n n ∧ RdC M2 l n n ∧ Sb [3, 4, 5, 6, 7, 8, 9, 10, 11] Mj M2 := by
  have hn60 := hS.2.1
  by_cases hend : p = n
  · subst hend
    refine ⟨Mj, ?_, hA, hB, hC, Sb.rf⟩
    refine z_iload_n (pc := 17) dX4_readFrom_17 rfl ?_
    refine z_aload_n (pc := 18) dX4_readFrom_18 rfl ?_
    refine z_getI (pc := 19) q_fX4_46 z_s1 rfl dX4_readFrom_19 ?_
    refine z_icmp_ge (pc := 22) (tgt := 177) dX4_readFrom_22 (by decide) (fun h22 => ?_) (fun h22 => ?_)
    · refine z_vret (pc := 177) rfl dX4_readFrom_177 ?_
      rfl
    · exact absurd (z_lt h22 h2 hS.1 (by omega) (by omega)) (by omega)
  have hlt : p < n := by omega
  have hlp := hS.2.2 p hlt
  have hV1 := hV p hp1 hlt
  by_cases cN' : l p = 78
  · have hc := hV1.lt (by rw [cN']; decide)
    rw [cN'] at hc
    have hc7 : cN l 78 p < 7 := hc
    have hsb : Sb [3, 4, 5, 6, 7, 8, 9, 10, 11] Mj (z_set (z_set (z_set (z_set (z_set Mj 4 (cN l 78 p) (fg l n (p + 1))) 5 (cN l 78 p) (fg l n (p + 2))) 6 (cN l 78 p) (fg l n (p + 3))) 7 (cN l 78 p) (fg l n (p + 4))) 3 0 (nI (cN l 78 p + 1))) := ((((Sb.set _ (by simp)).tr (Sb.set _ (by simp))).tr (Sb.set _ (by simp))).tr (Sb.set _ (by simp))).tr (Sb.set _ (by simp))
    obtain ⟨M2, hsm, r1, r2, r3, r4⟩ := s_X4_readFrom_17 hV (ScAt_sb hS hsb (by simp) (by simp)) (p + 1) (by omega) (by omega) (ij + Int32.ofInt 1) (z_set (z_set (z_set (z_set (z_set Mj 4 (cN l 78 p) (fg l n (p + 1))) 5 (cN l 78 p) (fg l n (p + 2))) 6 (cN l 78 p) (fg l n (p + 3))) 7 (cN l 78 p) (fg l n (p + 4))) 3 0 (nI (cN l 78 p + 1))) (z_n1 h2) (by
      unfold RdA
      rw [cN_yes hp1 cN']
      refine ⟨by rw [z_set, z_row_1, upd_1], fun k hk => ?_⟩
      have g4 : (z_set (z_set (z_set (z_set (z_set Mj 4 (cN l 78 p) (fg l n (p + 1))) 5 (cN l 78 p) (fg l n (p + 2))) 6 (cN l 78 p) (fg l n (p + 3))) 7 (cN l 78 p) (fg l n (p + 4))) 3 0 (nI (cN l 78 p + 1))).1 4 = upd (Mj.1 4) (cN l 78 p) (fg l n (p + 1)) := by simp [z_set, z_row]
      have g5 : (z_set (z_set (z_set (z_set (z_set Mj 4 (cN l 78 p) (fg l n (p + 1))) 5 (cN l 78 p) (fg l n (p + 2))) 6 (cN l 78 p) (fg l n (p + 3))) 7 (cN l 78 p) (fg l n (p + 4))) 3 0 (nI (cN l 78 p + 1))).1 5 = upd (Mj.1 5) (cN l 78 p) (fg l n (p + 2)) := by simp [z_set, z_row]
      have g6 : (z_set (z_set (z_set (z_set (z_set Mj 4 (cN l 78 p) (fg l n (p + 1))) 5 (cN l 78 p) (fg l n (p + 2))) 6 (cN l 78 p) (fg l n (p + 3))) 7 (cN l 78 p) (fg l n (p + 4))) 3 0 (nI (cN l 78 p + 1))).1 6 = upd (Mj.1 6) (cN l 78 p) (fg l n (p + 3)) := by simp [z_set, z_row]
      have g7 : (z_set (z_set (z_set (z_set (z_set Mj 4 (cN l 78 p) (fg l n (p + 1))) 5 (cN l 78 p) (fg l n (p + 2))) 6 (cN l 78 p) (fg l n (p + 3))) 7 (cN l 78 p) (fg l n (p + 4))) 3 0 (nI (cN l 78 p + 1))).1 7 = upd (Mj.1 7) (cN l 78 p) (fg l n (p + 4)) := by simp [z_set, z_row]
      rw [g4, g5, g6, g7]
      by_cases e : k = cN l 78 p
      · subst e
        rw [nP_new hp1 cN', upd_1, upd_1, upd_1, upd_1]
        exact ⟨rfl, rfl, rfl, rfl⟩
      · rw [nP_old (by omega), upd_n _ _ e, upd_n _ _ e, upd_n _ _ e, upd_n _ _ e]
        exact hA.2 k (by omega)) (RdB_no hB (by rw [cN']; decide) ⟨by simp [z_set, z_row, upd], by simp [z_set, z_row], by simp [z_set, z_row]⟩) (RdC_no hC (by rw [cN']; decide) ⟨by simp [z_set, z_row, upd], by simp [z_set, z_row], by simp [z_set, z_row]⟩)
    refine ⟨M2, ?_, r1, r2, r3, hsb.tr r4⟩
    refine z_iload_n (pc := 17) dX4_readFrom_17 rfl ?_
    refine z_aload_n (pc := 18) dX4_readFrom_18 rfl ?_
    refine z_getI (pc := 19) q_fX4_46 z_s1 rfl dX4_readFrom_19 ?_
    refine z_icmp_ge (pc := 22) (tgt := 177) dX4_readFrom_22 (by decide) (fun h22 => ?_) (fun h22 => ?_)
    · exact absurd (z_ge h22 h2 hS.1 (by omega) (by omega)) (by omega)
    · refine z_aload_n (pc := 25) dX4_readFrom_25 rfl ?_
      refine z_getR (pc := 26) 2 q_fX4_51 z_s1 rfl dX4_readFrom_26 ?_
      refine z_iload_n (pc := 29) dX4_readFrom_29 rfl ?_
      refine z_iald (pc := 30) (p) z_s2 ⟨h2, by omega, by decide⟩ dX4_readFrom_30 ?_
      refine z_istore_n (pc := 31) dX4_readFrom_31 rfl (by decide) ?_
      refine z_iload_n (pc := 32) dX4_readFrom_32 rfl ?_
      refine z_bipush (pc := 33) (v := 78) dX4_readFrom_33 (by decide) ?_
      refine z_icmp_ne (pc := 35) (tgt := 56) dX4_readFrom_35 (by decide) (fun h35 => ?_) (fun h35 => ?_)
      · exact absurd (hlp.trans cN') h35
      · refine z_aload_n (pc := 38) dX4_readFrom_38 rfl ?_
        refine z_getI (pc := 39) q_fX4_9 z_s3 rfl dX4_readFrom_39 ?_
        refine z_bipush (pc := 42) (v := 7) dX4_readFrom_42 (by decide) ?_
        refine z_icmp_ge (pc := 44) (tgt := 56) dX4_readFrom_44 (by decide) (fun h44 => ?_) (fun h44 => ?_)
        · exact absurd h44 (by rw [hA.1]; exact nI_ge (b := 7) hc7 (by decide))
        · refine z_aload_n (pc := 47) dX4_readFrom_47 rfl ?_
          refine z_aload_n (pc := 48) dX4_readFrom_48 rfl ?_
          refine z_iload_n (pc := 49) dX4_readFrom_49 rfl ?_
          refine z_cV2v (pc := 50) (c_X4_addPin hS hA.1 hc7 h2 hlt) (q_cX4_54 _ (by decide)) z_s3 rfl rfl dX4_readFrom_50 ?_
          refine z_goto (pc := 53) (tgt := 171) dX4_readFrom_53 (by decide) ?_
          refine z_iinc (pc := 171) dX4_readFrom_171 rfl rfl rfl (by decide) ?_
          refine z_goto (pc := 174) (tgt := 17) dX4_readFrom_174 (by decide) ?_
          refine z_drop 3 ?_
          exact hsm
  by_cases cW : l p = 87
  · have hc := hV1.lt (by rw [cW]; decide)
    rw [cW] at hc
    have hc4 : cN l 87 p < 4 := hc
    have hsb : Sb [3, 4, 5, 6, 7, 8, 9, 10, 11] Mj (z_set (z_set (z_set Mj 8 (cN l 87 p) (fg l n (p + 1))) 9 (cN l 87 p) (fg l n (p + 2))) 3 5 (nI (cN l 87 p + 1))) := (((Sb.set _ (by simp)).tr (Sb.set _ (by simp)))).tr (Sb.set _ (by simp))
    obtain ⟨M2, hsm, r1, r2, r3, r4⟩ := s_X4_readFrom_17 hV (ScAt_sb hS hsb (by simp) (by simp)) (p + 1) (by omega) (by omega) (ij + Int32.ofInt 1) (z_set (z_set (z_set Mj 8 (cN l 87 p) (fg l n (p + 1))) 9 (cN l 87 p) (fg l n (p + 2))) 3 5 (nI (cN l 87 p + 1))) (z_n1 h2) (RdA_no hA cN' ⟨by simp [z_set, z_row, upd], by simp [z_set, z_row], by simp [z_set, z_row], by simp [z_set, z_row], by simp [z_set, z_row]⟩) (by
      unfold RdB
      rw [cN_yes hp1 cW]
      refine ⟨by rw [z_set, z_row_1, upd_1], fun k hk => ?_⟩
      have g4 : (z_set (z_set (z_set Mj 8 (cN l 87 p) (fg l n (p + 1))) 9 (cN l 87 p) (fg l n (p + 2))) 3 5 (nI (cN l 87 p + 1))).1 8 = upd (Mj.1 8) (cN l 87 p) (fg l n (p + 1)) := by simp [z_set, z_row]
      have g5 : (z_set (z_set (z_set Mj 8 (cN l 87 p) (fg l n (p + 1))) 9 (cN l 87 p) (fg l n (p + 2))) 3 5 (nI (cN l 87 p + 1))).1 9 = upd (Mj.1 9) (cN l 87 p) (fg l n (p + 2)) := by simp [z_set, z_row]
      rw [g4, g5]
      by_cases e : k = cN l 87 p
      · subst e
        rw [nP_new hp1 cW, upd_1, upd_1]
        exact ⟨rfl, rfl⟩
      · rw [nP_old (by omega), upd_n _ _ e, upd_n _ _ e]
        exact hB.2 k (by omega)) (RdC_no hC (by rw [cW]; decide) ⟨by simp [z_set, z_row, upd], by simp [z_set, z_row], by simp [z_set, z_row]⟩)
    refine ⟨M2, ?_, r1, r2, r3, hsb.tr r4⟩
    have hq : ∀ d : Nat, ij + nI d = nI (p + d) := fun d => by rw [h2, nI_add]
    have s1 : ∀ v, (z_set Mj 8 (cN l 87 p) v).1 3 5 = nI (cN l 87 p) := fun v => by rw [z_set, z_row_n _ _ (by decide)]; exact hB.1
    have s2 : ∀ v w, (z_set (z_set Mj 8 (cN l 87 p) v) 9 (cN l 87 p) w).1 3 5 = nI (cN l 87 p) := fun v w => by rw [z_set, z_row_n _ _ (by decide)]; exact s1 v
    refine z_iload_n (pc := 17) dX4_readFrom_17 rfl ?_
    refine z_aload_n (pc := 18) dX4_readFrom_18 rfl ?_
    refine z_getI (pc := 19) q_fX4_46 z_s1 rfl dX4_readFrom_19 ?_
    refine z_icmp_ge (pc := 22) (tgt := 177) dX4_readFrom_22 (by decide) (fun h22 => ?_) (fun h22 => ?_)
    · exact absurd (z_ge h22 h2 hS.1 (by omega) (by omega)) (by omega)
    · refine z_aload_n (pc := 25) dX4_readFrom_25 rfl ?_
      refine z_getR (pc := 26) 2 q_fX4_51 z_s1 rfl dX4_readFrom_26 ?_
      refine z_iload_n (pc := 29) dX4_readFrom_29 rfl ?_
      refine z_iald (pc := 30) (p) z_s2 ⟨h2, by omega, by decide⟩ dX4_readFrom_30 ?_
      refine z_istore_n (pc := 31) dX4_readFrom_31 rfl (by decide) ?_
      refine z_iload_n (pc := 32) dX4_readFrom_32 rfl ?_
      refine z_bipush (pc := 33) (v := 78) dX4_readFrom_33 (by decide) ?_
      refine z_icmp_ne (pc := 35) (tgt := 56) dX4_readFrom_35 (by decide) (fun h35 => ?_) (fun h35 => ?_)
      · refine z_iload_n (pc := 56) dX4_readFrom_56 rfl ?_
        refine z_bipush (pc := 57) (v := 87) dX4_readFrom_57 (by decide) ?_
        refine z_icmp_ne (pc := 59) (tgt := 115) dX4_readFrom_59 (by decide) (fun h59 => ?_) (fun h59 => ?_)
        · exact absurd (hlp.trans cW) h59
        · refine z_aload_n (pc := 62) dX4_readFrom_62 rfl ?_
          refine z_getI (pc := 63) q_fX4_28 z_s3 rfl dX4_readFrom_63 ?_
          refine z_iconst (pc := 66) (v := 4) dX4_readFrom_66 (by decide) ?_
          refine z_icmp_ge (pc := 67) (tgt := 115) dX4_readFrom_67 (by decide) (fun h67 => ?_) (fun h67 => ?_)
          · exact absurd h67 (by rw [hB.1]; exact nI_ge (b := 4) hc4 (by decide))
          · refine z_aload_n (pc := 70) dX4_readFrom_70 rfl ?_
            refine z_getR (pc := 71) 8 q_fX4_31 z_s3 rfl dX4_readFrom_71 ?_
            refine z_aload_n (pc := 74) dX4_readFrom_74 rfl ?_
            refine z_getI (pc := 75) q_fX4_28 z_s3 rfl dX4_readFrom_75 ?_
            refine z_aload_n (pc := 78) dX4_readFrom_78 rfl ?_
            refine z_iload_n (pc := 79) dX4_readFrom_79 rfl ?_
            refine z_iconst (pc := 80) (v := 1) dX4_readFrom_80 (by decide) ?_
            refine z_iadd (pc := 81) dX4_readFrom_81 ?_
            refine z_cV1 (pc := 82) (c_X3_figure (p := p + 1) hS (hq 1) (by omega)) (q_cX4_58 _ (by decide)) z_s1 rfl rfl dX4_readFrom_82 ?_
            refine z_iast (pc := 85) (cN l 87 p) z_s8 ⟨hB.1, hc4, by decide⟩ dX4_readFrom_85 ?_
            refine z_aload_n (pc := 86) dX4_readFrom_86 rfl ?_
            refine z_getR (pc := 87) 9 q_fX4_34 z_s3 rfl dX4_readFrom_87 ?_
            refine z_aload_n (pc := 90) dX4_readFrom_90 rfl ?_
            refine z_getI (pc := 91) q_fX4_28 z_s3 rfl dX4_readFrom_91 ?_
            refine z_aload_n (pc := 94) dX4_readFrom_94 rfl ?_
            refine z_iload_n (pc := 95) dX4_readFrom_95 rfl ?_
            refine z_iconst (pc := 96) (v := 2) dX4_readFrom_96 (by decide) ?_
            refine z_iadd (pc := 97) dX4_readFrom_97 ?_
            refine z_cV1 (pc := 98) (c_X3_figure (p := p + 2) (ScAt_sb hS (Sb.set (ids := [8]) _ (by simp)) (by simp) (by simp)) (hq 2) (by omega)) (q_cX4_58 _ (by decide)) z_s1 rfl rfl dX4_readFrom_98 ?_
            refine z_iast (pc := 101) (cN l 87 p) z_s9 ⟨s1 _, hc4, by decide⟩ dX4_readFrom_101 ?_
            refine z_aload_n (pc := 102) dX4_readFrom_102 rfl ?_
            refine z_dup (pc := 103) dX4_readFrom_103 rfl ?_
            refine z_getI (pc := 104) q_fX4_28 z_s3 rfl dX4_readFrom_104 ?_
            refine z_iconst (pc := 107) (v := 1) dX4_readFrom_107 (by decide) ?_
            refine z_iadd (pc := 108) dX4_readFrom_108 ?_
            refine z_putI (pc := 109) q_fX4_28 q_p4_5 z_s3 rfl dX4_readFrom_109 ?_
            refine z_goto (pc := 112) (tgt := 171) dX4_readFrom_112 (by decide) ?_
            refine z_iinc (pc := 171) dX4_readFrom_171 rfl rfl rfl (by decide) ?_
            refine z_goto (pc := 174) (tgt := 17) dX4_readFrom_174 (by decide) ?_
            rw [s2, ← nI_succ]
            refine z_drop 3 ?_
            exact hsm
      · exact absurd (hlp.symm.trans (by simpa using h35)) cN'
  by_cases cD : l p = 68
  · have hc := hV1.lt (by rw [cD]; decide)
    rw [cD] at hc
    have hc3 : cN l 68 p < 3 := hc
    have hsb : Sb [3, 4, 5, 6, 7, 8, 9, 10, 11] Mj (z_set (z_set (z_set Mj 10 (cN l 68 p) (fg l n (p + 1))) 11 (cN l 68 p) (fg l n (p + 2))) 3 8 (nI (cN l 68 p + 1))) := (((Sb.set _ (by simp)).tr (Sb.set _ (by simp)))).tr (Sb.set _ (by simp))
    obtain ⟨M2, hsm, r1, r2, r3, r4⟩ := s_X4_readFrom_17 hV (ScAt_sb hS hsb (by simp) (by simp)) (p + 1) (by omega) (by omega) (ij + Int32.ofInt 1) (z_set (z_set (z_set Mj 10 (cN l 68 p) (fg l n (p + 1))) 11 (cN l 68 p) (fg l n (p + 2))) 3 8 (nI (cN l 68 p + 1))) (z_n1 h2) (RdA_no hA cN' ⟨by simp [z_set, z_row, upd], by simp [z_set, z_row], by simp [z_set, z_row], by simp [z_set, z_row], by simp [z_set, z_row]⟩) (RdB_no hB cW ⟨by simp [z_set, z_row, upd], by simp [z_set, z_row], by simp [z_set, z_row]⟩) (by
      unfold RdC
      rw [cN_yes hp1 cD]
      refine ⟨by rw [z_set, z_row_1, upd_1], fun k hk => ?_⟩
      have g4 : (z_set (z_set (z_set Mj 10 (cN l 68 p) (fg l n (p + 1))) 11 (cN l 68 p) (fg l n (p + 2))) 3 8 (nI (cN l 68 p + 1))).1 10 = upd (Mj.1 10) (cN l 68 p) (fg l n (p + 1)) := by simp [z_set, z_row]
      have g5 : (z_set (z_set (z_set Mj 10 (cN l 68 p) (fg l n (p + 1))) 11 (cN l 68 p) (fg l n (p + 2))) 3 8 (nI (cN l 68 p + 1))).1 11 = upd (Mj.1 11) (cN l 68 p) (fg l n (p + 2)) := by simp [z_set, z_row]
      rw [g4, g5]
      by_cases e : k = cN l 68 p
      · subst e
        rw [nP_new hp1 cD, upd_1, upd_1]
        exact ⟨rfl, rfl⟩
      · rw [nP_old (by omega), upd_n _ _ e, upd_n _ _ e]
        exact hC.2 k (by omega))
    refine ⟨M2, ?_, r1, r2, r3, hsb.tr r4⟩
    have hq : ∀ d : Nat, ij + nI d = nI (p + d) := fun d => by rw [h2, nI_add]
    have s1 : ∀ v, (z_set Mj 10 (cN l 68 p) v).1 3 8 = nI (cN l 68 p) := fun v => by rw [z_set, z_row_n _ _ (by decide)]; exact hC.1
    have s2 : ∀ v w, (z_set (z_set Mj 10 (cN l 68 p) v) 11 (cN l 68 p) w).1 3 8 = nI (cN l 68 p) := fun v w => by rw [z_set, z_row_n _ _ (by decide)]; exact s1 v
    refine z_iload_n (pc := 17) dX4_readFrom_17 rfl ?_
    refine z_aload_n (pc := 18) dX4_readFrom_18 rfl ?_
    refine z_getI (pc := 19) q_fX4_46 z_s1 rfl dX4_readFrom_19 ?_
    refine z_icmp_ge (pc := 22) (tgt := 177) dX4_readFrom_22 (by decide) (fun h22 => ?_) (fun h22 => ?_)
    · exact absurd (z_ge h22 h2 hS.1 (by omega) (by omega)) (by omega)
    · refine z_aload_n (pc := 25) dX4_readFrom_25 rfl ?_
      refine z_getR (pc := 26) 2 q_fX4_51 z_s1 rfl dX4_readFrom_26 ?_
      refine z_iload_n (pc := 29) dX4_readFrom_29 rfl ?_
      refine z_iald (pc := 30) (p) z_s2 ⟨h2, by omega, by decide⟩ dX4_readFrom_30 ?_
      refine z_istore_n (pc := 31) dX4_readFrom_31 rfl (by decide) ?_
      refine z_iload_n (pc := 32) dX4_readFrom_32 rfl ?_
      refine z_bipush (pc := 33) (v := 78) dX4_readFrom_33 (by decide) ?_
      refine z_icmp_ne (pc := 35) (tgt := 56) dX4_readFrom_35 (by decide) (fun h35 => ?_) (fun h35 => ?_)
      · refine z_iload_n (pc := 56) dX4_readFrom_56 rfl ?_
        refine z_bipush (pc := 57) (v := 87) dX4_readFrom_57 (by decide) ?_
        refine z_icmp_ne (pc := 59) (tgt := 115) dX4_readFrom_59 (by decide) (fun h59 => ?_) (fun h59 => ?_)
        · refine z_iload_n (pc := 115) dX4_readFrom_115 rfl ?_
          refine z_bipush (pc := 116) (v := 68) dX4_readFrom_116 (by decide) ?_
          refine z_icmp_ne (pc := 118) (tgt := 171) dX4_readFrom_118 (by decide) (fun h118 => ?_) (fun h118 => ?_)
          · exact absurd (hlp.trans cD) h118
          · refine z_aload_n (pc := 121) dX4_readFrom_121 rfl ?_
            refine z_getI (pc := 122) q_fX4_37 z_s3 rfl dX4_readFrom_122 ?_
            refine z_iconst (pc := 125) (v := 3) dX4_readFrom_125 (by decide) ?_
            refine z_icmp_ge (pc := 126) (tgt := 171) dX4_readFrom_126 (by decide) (fun h126 => ?_) (fun h126 => ?_)
            · exact absurd h126 (by rw [hC.1]; exact nI_ge (b := 3) hc3 (by decide))
            · refine z_aload_n (pc := 129) dX4_readFrom_129 rfl ?_
              refine z_getR (pc := 130) 10 q_fX4_40 z_s3 rfl dX4_readFrom_130 ?_
              refine z_aload_n (pc := 133) dX4_readFrom_133 rfl ?_
              refine z_getI (pc := 134) q_fX4_37 z_s3 rfl dX4_readFrom_134 ?_
              refine z_aload_n (pc := 137) dX4_readFrom_137 rfl ?_
              refine z_iload_n (pc := 138) dX4_readFrom_138 rfl ?_
              refine z_iconst (pc := 139) (v := 1) dX4_readFrom_139 (by decide) ?_
              refine z_iadd (pc := 140) dX4_readFrom_140 ?_
              refine z_cV1 (pc := 141) (c_X3_figure (p := p + 1) hS (hq 1) (by omega)) (q_cX4_58 _ (by decide)) z_s1 rfl rfl dX4_readFrom_141 ?_
              refine z_iast (pc := 144) (cN l 68 p) z_s10 ⟨hC.1, hc3, by decide⟩ dX4_readFrom_144 ?_
              refine z_aload_n (pc := 145) dX4_readFrom_145 rfl ?_
              refine z_getR (pc := 146) 11 q_fX4_43 z_s3 rfl dX4_readFrom_146 ?_
              refine z_aload_n (pc := 149) dX4_readFrom_149 rfl ?_
              refine z_getI (pc := 150) q_fX4_37 z_s3 rfl dX4_readFrom_150 ?_
              refine z_aload_n (pc := 153) dX4_readFrom_153 rfl ?_
              refine z_iload_n (pc := 154) dX4_readFrom_154 rfl ?_
              refine z_iconst (pc := 155) (v := 2) dX4_readFrom_155 (by decide) ?_
              refine z_iadd (pc := 156) dX4_readFrom_156 ?_
              refine z_cV1 (pc := 157) (c_X3_figure (p := p + 2) (ScAt_sb hS (Sb.set (ids := [10]) _ (by simp)) (by simp) (by simp)) (hq 2) (by omega)) (q_cX4_58 _ (by decide)) z_s1 rfl rfl dX4_readFrom_157 ?_
              refine z_iast (pc := 160) (cN l 68 p) z_s11 ⟨s1 _, hc3, by decide⟩ dX4_readFrom_160 ?_
              refine z_aload_n (pc := 161) dX4_readFrom_161 rfl ?_
              refine z_dup (pc := 162) dX4_readFrom_162 rfl ?_
              refine z_getI (pc := 163) q_fX4_37 z_s3 rfl dX4_readFrom_163 ?_
              refine z_iconst (pc := 166) (v := 1) dX4_readFrom_166 (by decide) ?_
              refine z_iadd (pc := 167) dX4_readFrom_167 ?_
              refine z_putI (pc := 168) q_fX4_37 q_p4_8 z_s3 rfl dX4_readFrom_168 ?_
              refine z_iinc (pc := 171) dX4_readFrom_171 rfl rfl rfl (by decide) ?_
              refine z_goto (pc := 174) (tgt := 17) dX4_readFrom_174 (by decide) ?_
              rw [s2, ← nI_succ]
              refine z_drop 3 ?_
              exact hsm
        · exact absurd (hlp.symm.trans (by simpa using h59)) cW
      · exact absurd (hlp.symm.trans (by simpa using h35)) cN'
  · obtain ⟨M2, hsm, r1, r2, r3, r4⟩ := s_X4_readFrom_17 hV hS (p + 1) (by omega) (by omega) (ij + Int32.ofInt 1) Mj (z_n1 h2) (RdA_no hA cN' ⟨rfl, rfl, rfl, rfl, rfl⟩) (RdB_no hB cW ⟨rfl, rfl, rfl⟩) (RdC_no hC cD ⟨rfl, rfl, rfl⟩)
    refine ⟨M2, ?_, r1, r2, r3, r4⟩
    refine z_iload_n (pc := 17) dX4_readFrom_17 rfl ?_
    refine z_aload_n (pc := 18) dX4_readFrom_18 rfl ?_
    refine z_getI (pc := 19) q_fX4_46 z_s1 rfl dX4_readFrom_19 ?_
    refine z_icmp_ge (pc := 22) (tgt := 177) dX4_readFrom_22 (by decide) (fun h22 => ?_) (fun h22 => ?_)
    · exact absurd (z_ge h22 h2 hS.1 (by omega) (by omega)) (by omega)
    · refine z_aload_n (pc := 25) dX4_readFrom_25 rfl ?_
      refine z_getR (pc := 26) 2 q_fX4_51 z_s1 rfl dX4_readFrom_26 ?_
      refine z_iload_n (pc := 29) dX4_readFrom_29 rfl ?_
      refine z_iald (pc := 30) (p) z_s2 ⟨h2, by omega, by decide⟩ dX4_readFrom_30 ?_
      refine z_istore_n (pc := 31) dX4_readFrom_31 rfl (by decide) ?_
      refine z_iload_n (pc := 32) dX4_readFrom_32 rfl ?_
      refine z_bipush (pc := 33) (v := 78) dX4_readFrom_33 (by decide) ?_
      refine z_icmp_ne (pc := 35) (tgt := 56) dX4_readFrom_35 (by decide) (fun h35 => ?_) (fun h35 => ?_)
      · refine z_iload_n (pc := 56) dX4_readFrom_56 rfl ?_
        refine z_bipush (pc := 57) (v := 87) dX4_readFrom_57 (by decide) ?_
        refine z_icmp_ne (pc := 59) (tgt := 115) dX4_readFrom_59 (by decide) (fun h59 => ?_) (fun h59 => ?_)
        · refine z_iload_n (pc := 115) dX4_readFrom_115 rfl ?_
          refine z_bipush (pc := 116) (v := 68) dX4_readFrom_116 (by decide) ?_
          refine z_icmp_ne (pc := 118) (tgt := 171) dX4_readFrom_118 (by decide) (fun h118 => ?_) (fun h118 => ?_)
          · refine z_iinc (pc := 171) dX4_readFrom_171 rfl rfl rfl (by decide) ?_
            refine z_goto (pc := 174) (tgt := 17) dX4_readFrom_174 (by decide) ?_
            refine z_drop 3 ?_
            exact hsm
          · exact absurd (hlp.symm.trans (by simpa using h118)) cD
        · exact absurd (hlp.symm.trans (by simpa using h59)) cW
      · exact absurd (hlp.symm.trans (by simpa using h35)) cN'
termination_by n - p
decreasing_by all_goals omega
