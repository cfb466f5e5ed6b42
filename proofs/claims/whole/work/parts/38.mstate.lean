/-- a plight that lies in a row -/
def PA (M : z_Mem) (ro b : Nat) (p : PLt) : Prop := M.1 ro b = p.1 ∧ (∀ k, k < 7 → M.1 ro (b + 1 + k) = p.2.1 k) ∧ M.1 ro (b + 8) = nI p.2.2
theorem PA.mv {M N : z_Mem} {ro rb b c : Nat} {p : PLt} (h : PA M ro b p) (e : ∀ j, j < 9 → N.1 rb (c + j) = M.1 ro (b + j)) : PA N rb c p := by
  refine ⟨(e 0 (by decide)).trans h.1, fun k hk => ?_, (e 8 (by decide)).trans h.2.2⟩
  have := e (1 + k) (by omega)
  rw [← Nat.add_assoc, ← Nat.add_assoc] at this
  exact this.trans (h.2.1 k hk)
def AN (M : z_Mem) (A : List PLt) : Prop := ∃ t, t < 14 ∧ M.1 59 24 = nI t ∧ M.1 59 23 = nI A.length ∧ A.length ≤ 14 ∧ ∀ i pl, A[i]? = some pl → PA M 74 (9 * ((t + 13 - i) % 14)) pl
def KN (M : z_Mem) (s : Nat) : Option PLt → Prop
  | none => M.1 77 s = 0
  | some pl => M.1 77 s = 1 ∧ PA M 78 (9 * s) pl
def LN (M : z_Mem) (L : List (Int32 × Int32)) : Prop := M.1 59 26 = nI L.length ∧ L.length ≤ 6 ∧ ∀ i q, L[i]? = some q → M.1 75 i = q.1 ∧ M.1 76 i = q.2
def SN (M : z_Mem) (l : Nat → Int32) (n : Nat) : Prop := M.1 59 19 = nI n ∧ n ≤ 60 ∧ ∀ i, i < n → M.1 72 i = l i
/-- the model's state -/
def RM (M : z_Mem) (l : Nat → Int32) (n : Nat) (T : TT) (U : UT) (D : DT) (p : PLt) (A : List PLt) (k0 k1 : Option PLt) (L : List (Int32 × Int32)) (sd : Int64) : Prop :=
  SN M l n ∧ TN M T ∧ UN M U ∧ DN M D ∧ PM M 0 p ∧ AN M A ∧ KN M 0 k0 ∧ KN M 1 k1 ∧ LN M L ∧ M.2 59 29 = sd
/-- what the class's cells hold stays -/
def Fm (M N : z_Mem) : Prop := ∀ i, i < 59 → N.1 i = M.1 i ∧ N.2 i = M.2 i
theorem Fm.rf {M : z_Mem} : Fm M M := fun _ _ => ⟨rfl, rfl⟩
theorem Sb.fm {ids : List Nat} {M N : z_Mem} (s : Sb ids M N) (hi : ∀ i ∈ ids, 59 ≤ i) : Fm M N := fun i h => ⟨s.1 i (fun q => by have := hi i q; omega), by rw [s.2]⟩
theorem AN_cong {M N : z_Mem} {A : List PLt} (h : AN M A) (e1 : N.1 59 24 = M.1 59 24) (e2 : N.1 59 23 = M.1 59 23) (e3 : N.1 74 = M.1 74) : AN N A := by
  obtain ⟨t, h1, h2, h3, h4, h5⟩ := h
  exact ⟨t, h1, e1.trans h2, e2.trans h3, h4, fun i pl hi => (h5 i pl hi).mv (fun j _ => by rw [e3])⟩
theorem KN_cong {M N : z_Mem} {s : Nat} {k : Option PLt} (h : KN M s k) (e1 : N.1 77 s = M.1 77 s) (e2 : ∀ j, j < 9 → N.1 78 (9 * s + j) = M.1 78 (9 * s + j)) : KN N s k := by
  cases k with
  | none => exact e1.trans h
  | some pl => exact ⟨e1.trans h.1, h.2.mv e2⟩
/-- only the trial's level and the loads change: the state stays -/
theorem RM_th {M N : z_Mem} {l : Nat → Int32} {n : Nat} {T : TT} {U : UT} {D : DT} {p : PLt} {A : List PLt} {k0 k1 : Option PLt} {L : List (Int32 × Int32)} {sd : Int64} (h : RM M l n T U D p A k0 k1 L sd) (s : Sn 1 M N) : RM N l n T U D p A k0 k1 L sd := by
  obtain ⟨h1, h2, h3, h4, h5, h6, h7, h8, h9, h10⟩ := h
  have e : ∀ i, i ≠ 68 → i ≠ 73 → N.1 i = M.1 i := fun i a b => s.1.1 i (by simp [a, b])
  refine ⟨?_, s.tn h2, s.un h3, ?_, s.p0 h5, AN_cong h6 (by rw [e 59 (by decide) (by decide)]) (by rw [e 59 (by decide) (by decide)]) (e 74 (by decide) (by decide)), KN_cong h7 (by rw [e 77 (by decide) (by decide)]) (fun j _ => by rw [e 78 (by decide) (by decide)]), KN_cong h8 (by rw [e 77 (by decide) (by decide)]) (fun j _ => by rw [e 78 (by decide) (by decide)]), ?_, by rw [s.1.2]; exact h10⟩
  · unfold SN
    rw [e 59 (by decide) (by decide), e 72 (by decide) (by decide)]
    exact h1
  · unfold DN
    rw [e 59 (by decide) (by decide), e 66 (by decide) (by decide), e 67 (by decide) (by decide)]
    exact h4
  · unfold LN
    rw [e 59 (by decide) (by decide), e 75 (by decide) (by decide), e 76 (by decide) (by decide)]
    exact h9
/-- a piece of a row laid into another -/
def cpR (R : Nat → Int32) (b : Nat) (S : Nat → Int32) (s j : Nat) : Nat → Int32 := fun i => if b ≤ i ∧ i < b + j then S (s + (i - b)) else R i
theorem cpR_0 (R : Nat → Int32) (b : Nat) (S : Nat → Int32) (s : Nat) : cpR R b S s 0 = R := funext fun i => if_neg (by omega)
theorem cpR_s (R : Nat → Int32) (b : Nat) (S : Nat → Int32) (s j : Nat) : upd (cpR R b S s j) (b + j) (S (s + j)) = cpR R b S s (j + 1) := by
  funext i
  by_cases q : i = b + j
  · subst q
    rw [upd_1, cpR, if_pos (by omega), Nat.add_sub_cancel_left]
  · rw [upd_n _ _ q, cpR, cpR]
    by_cases q2 : b ≤ i ∧ i < b + j
    · rw [if_pos q2, if_pos (by omega)]
    · rw [if_neg q2, if_neg (by omega)]
theorem cpR_in {R : Nat → Int32} {b : Nat} {S : Nat → Int32} {s j i : Nat} (h : i < j) : cpR R b S s j (b + i) = S (s + i) := by rw [cpR, if_pos (by omega), Nat.add_sub_cancel_left]
theorem cpR_out {R : Nat → Int32} {b : Nat} {S : Nat → Int32} {s j i : Nat} (h : i < b ∨ b + j ≤ i) : cpR R b S s j i = R i := by rw [cpR, if_neg (by omega)]
/-- only the ring of acts has changed -/
def Se (M N : z_Mem) : Prop := (∀ i, i ≠ 59 → i ≠ 74 → N.1 i = M.1 i) ∧ (∀ k, k ≠ 23 → k ≠ 24 → N.1 59 k = M.1 59 k) ∧ N.2 = M.2
theorem Se.fm {M N : z_Mem} (s : Se M N) : Fm M N := fun i h => ⟨s.1 i (by omega) (by omega), by rw [s.2.2]⟩
set_option maxRecDepth 100000 in
set_option maxHeartbeats 400000 in
theorem s_X7_keepAct_2 {M M2 : z_Mem} {r : Option Value} {t : Nat} (ht : t < 14) (hn : M.1 59 24 = nI t) (kk : z_Sm mX7_keepAct r M2 34 [some (.ref 59), none] [] (z_row M 74 (cpR (M.1 74) (9 * t) (M.1 68) 0 (9)))) (j : Nat) (hj : j ≤ 9) (ij : Int32) (Mj : z_Mem) (h2 : ij = nI j) (hM : Mj = z_row M 74 (cpR (M.1 74) (9 * t) (M.1 68) 0 j)) : z_Sm mX7_keepAct r M2 2 [some (.ref 59), some (.int ij)] [] Mj := by
  refine z_iload_n (pc := 2) dX7_keepAct_2 rfl ?_
  refine z_bipush (pc := 3) (v := 9) dX7_keepAct_3 (by decide) ?_
  refine z_icmp_ge (pc := 5) (tgt := 34) dX7_keepAct_5 (by decide) (fun h5 => ?_) (fun h5 => ?_)
  · have hNj : 9 ≤ j := by
      have := z_ge h5 h2 (show (9 : Int32) = nI 9 from rfl) (by omega) (by omega)
      omega
    obtain rfl : j = 9 := by omega
    subst hM
    exact z_drop 1 kk
  · have hlt : j < 9 := by
      have := z_lt h5 h2 (show (9 : Int32) = nI 9 from rfl) (by omega) (by omega)
      omega
    have hn2 : Mj.1 59 24 = nI t := by rw [hM, z_row_n _ _ (by decide)]; exact hn
    have hix : (9 : Int32) * Mj.1 59 24 + ij = nI (9 * t + j) := by rw [hn2, show (9 : Int32) * nI t = nI (9 * t) from nx_mul 9 t, h2, nI_add]
    have e68 : Mj.1 68 = M.1 68 := by rw [hM, z_row_n _ _ (by decide)]
    refine z_aload_n (pc := 8) dX7_keepAct_8 rfl ?_
    refine z_getR (pc := 9) 74 q_fX7_52 z_s59 rfl dX7_keepAct_9 ?_
    refine z_bipush (pc := 12) (v := 9) dX7_keepAct_12 (by decide) ?_
    refine z_aload_n (pc := 14) dX7_keepAct_14 rfl ?_
    refine z_getI (pc := 15) q_fX7_153 z_s59 rfl dX7_keepAct_15 ?_
    refine z_imul (pc := 18) dX7_keepAct_18 ?_
    refine z_iload_n (pc := 19) dX7_keepAct_19 rfl ?_
    refine z_iadd (pc := 20) dX7_keepAct_20 ?_
    refine z_aload_n (pc := 21) dX7_keepAct_21 rfl ?_
    refine z_getR (pc := 22) 68 q_fX7_34 z_s59 rfl dX7_keepAct_22 ?_
    refine z_iload_n (pc := 25) dX7_keepAct_25 rfl ?_
    refine z_iald (pc := 26) (j) z_s68 ⟨h2, by omega⟩ dX7_keepAct_26 ?_
    refine z_iast (pc := 27) (9 * t + j) z_s74 ⟨hix, by omega⟩ dX7_keepAct_27 ?_
    refine z_iinc (pc := 28) dX7_keepAct_28 rfl rfl rfl (by decide) ?_
    refine z_goto (pc := 31) (tgt := 2) dX7_keepAct_31 (by decide) ?_
    exact s_X7_keepAct_2 ht hn kk (j + 1) hlt _ _ (z_n1 h2) (by rw [e68, z_set, hM, z_row_1, z_row_row]; refine congrArg (z_row M 74) ?_; have e := cpR_s (M.1 74) (9 * t) (M.1 68) 0 j; rw [Nat.zero_add] at e; exact e)
termination_by 9 - j
decreasing_by all_goals omega
set_option maxRecDepth 100000 in
set_option maxHeartbeats 400000 in
theorem c_X7_keepAct {M : z_Mem} {A : List PLt} {p : PLt} (hA : AN M A) (hp : PM M 0 p) : ∃ M1, z_Ct mX7_keepAct [.ref 59] M none M1 ∧ AN M1 ((p :: A).take 14) ∧ Se M M1 := by
  obtain ⟨t, ht, h1, h2, h3, h4⟩ := hA
  have hm : nI t + 1 - (nI t + 1) / 14 * 14 = nI ((t + 1) % 14) := by
    rw [← nI_succ]
    exact pk_rem (d := 14) (by omega) (by decide) (by decide)
  have e59 : (z_row M 74 (cpR (M.1 74) (9 * t) (M.1 68) 0 9)).1 59 = M.1 59 := by rw [z_row_n _ _ (by decide)]
  have e74 : (z_row M 74 (cpR (M.1 74) (9 * t) (M.1 68) 0 9)).1 74 = cpR (M.1 74) (9 * t) (M.1 68) 0 9 := z_row_1 _ _ _
  have eo : ∀ i, i ≠ 74 → (z_row M 74 (cpR (M.1 74) (9 * t) (M.1 68) 0 9)).1 i = M.1 i := fun i hi => z_row_n _ _ hi
  have c0 : ∀ (M2 : z_Mem) (r : Option Value), z_Sm mX7_keepAct r M2 34 [some (.ref 59), none] [] (z_row M 74 (cpR (M.1 74) (9 * t) (M.1 68) 0 9)) → z_Sm mX7_keepAct r M2 2 [some (.ref 59), some (.int 0)] [] M := fun M2 r kk => s_X7_keepAct_2 ht h1 kk 0 (by omega) _ _ rfl (by rw [cpR_0, z_row_same])
  have e2 : (z_row M 74 (cpR (M.1 74) (9 * t) (M.1 68) 0 9)).2 = M.2 := rfl
  generalize z_row M 74 (cpR (M.1 74) (9 * t) (M.1 68) 0 9) = N at e59 e74 eo c0 e2
  refine ⟨z_set (z_set N 59 24 (nI ((t + 1) % 14))) 59 23 (nI ((p :: A).take 14).length), ?_, ⟨(t + 1) % 14, Nat.mod_lt _ (by decide), ?_, ?_, by rw [List.length_take]; omega, fun i pl hi => ?_⟩, ⟨fun i a b => ?_, fun k a b => ?_, e2⟩⟩
  · refine z_entry (by decide +kernel) (Nat.le_of_ble_eq_true rfl) rfl ?_
    show z_Sm mX7_keepAct _ _ 0 [some (.ref 59), none] [] M
    refine z_iconst (pc := 0) (v := 0) dX7_keepAct_0 (by decide) ?_
    refine z_istore_n (pc := 1) dX7_keepAct_1 rfl (by decide) ?_
    refine c0 _ _ ?_
    refine z_aload_n (pc := 34) dX7_keepAct_34 rfl ?_
    refine z_aload_n (pc := 35) dX7_keepAct_35 rfl ?_
    refine z_getI (pc := 36) q_fX7_153 z_s59 rfl dX7_keepAct_36 ?_
    refine z_iconst (pc := 39) (v := 1) dX7_keepAct_39 (by decide) ?_
    refine z_iadd (pc := 40) dX7_keepAct_40 ?_
    refine z_bipush (pc := 41) (v := 14) dX7_keepAct_41 (by decide) ?_
    refine z_irem (pc := 43) dX7_keepAct_43 (by decide) ?_
    rw [e59, h1, hm]
    refine z_putI (pc := 44) q_fX7_153 q_p7_24 z_s59 rfl dX7_keepAct_44 ?_
    have e23 : (z_set N 59 24 (nI ((t + 1) % 14))).1 59 23 = nI A.length := by rw [z_set, z_row_1, upd_n _ _ (by decide), e59]; exact h2
    refine z_aload_n (pc := 47) dX7_keepAct_47 rfl ?_
    refine z_aload_n (pc := 48) dX7_keepAct_48 rfl ?_
    refine z_getI (pc := 49) q_fX7_114 z_s59 rfl dX7_keepAct_49 ?_
    refine z_bipush (pc := 52) (v := 14) dX7_keepAct_52 (by decide) ?_
    refine z_icmp_ge (pc := 54) (tgt := 66) dX7_keepAct_54 (by decide) (fun h54 => ?_) (fun h54 => ?_)
    · refine z_bipush (pc := 66) (v := 14) dX7_keepAct_66 (by decide) ?_
      refine z_putI (pc := 68) q_fX7_114 q_p7_23 z_s59 rfl dX7_keepAct_68 ?_
      refine z_vret (pc := 71) rfl dX7_keepAct_71 ?_
      have hl : ((p :: A).take 14).length = 14 := by
        rw [e23] at h54
        rw [take14 h3]
        by_cases q : A.length < 14
        · exact absurd (nI_lt (b := 14) q (by decide)) (Int32.not_lt.mpr h54)
        · rw [if_neg q]
      rw [hl]
      rfl
    · refine z_aload_n (pc := 57) dX7_keepAct_57 rfl ?_
      refine z_getI (pc := 58) q_fX7_114 z_s59 rfl dX7_keepAct_58 ?_
      refine z_iconst (pc := 61) (v := 1) dX7_keepAct_61 (by decide) ?_
      refine z_iadd (pc := 62) dX7_keepAct_62 ?_
      refine z_goto (pc := 63) (tgt := 68) dX7_keepAct_63 (by decide) ?_
      refine z_putI (pc := 68) q_fX7_114 q_p7_23 z_s59 rfl dX7_keepAct_68 ?_
      refine z_vret (pc := 71) rfl dX7_keepAct_71 ?_
      have hl : ((p :: A).take 14).length = A.length + 1 := by
        rw [e23] at h54
        rw [take14 h3]
        by_cases q : A.length < 14
        · rw [if_pos q]
        · exact absurd (nI_le (a := 14) (by omega) (by omega)) h54
      rw [hl, e23, ← nI_succ]
  · rw [z_set, z_row_1, upd_n _ _ (by decide), z_set, z_row_1, upd_1]
  · rw [z_set, z_row_1, upd_1]
  · have hi14 : i < 14 := by
      have := (List.getElem?_eq_some_iff.mp hi).1
      rw [List.length_take] at this; omega
    rw [List.getElem?_take_of_lt hi14] at hi
    have f74 : (z_set (z_set N 59 24 (nI ((t + 1) % 14))) 59 23 (nI ((p :: A).take 14).length)).1 74 = cpR (M.1 74) (9 * t) (M.1 68) 0 9 := by
      rw [z_set, z_row_n _ _ (by decide), z_set, z_row_n _ _ (by decide)]; exact e74
    match i, hi with
    | 0, hi =>
      simp at hi
      subst hi
      rw [show ((t + 1) % 14 + 13 - 0) % 14 = t by omega]
      exact PA.mv (M := M) (ro := 68) (b := 9 * 0) hp (fun j hj => by rw [f74, cpR_in hj])
    | i + 1, hi =>
      have hi2 : A[i]? = some pl := by simpa using hi
      have e : ((t + 1) % 14 + 13 - (i + 1)) % 14 = (t + 13 - i) % 14 := by omega
      rw [e]
      have hne : (t + 13 - i) % 14 ≠ t := by omega
      exact (h4 i pl hi2).mv (fun j hj => by rw [f74, cpR_out (by omega)])
  · rw [z_set, z_row_n _ _ a, z_set, z_row_n _ _ a]; exact eo i b
  · rw [z_set, z_row_1, upd_n _ _ a, z_set, z_row_1, upd_n _ _ b, e59]
