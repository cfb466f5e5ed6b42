/-- the model's pulls -/
def UN (M : z_Mem) (U : UT) : Prop := M.1 59 1 = nI U.1 ∧ U.1 ≤ 4 ∧ ∀ k, k < U.1 → M.1 64 k = nI (U.2.1 k) ∧ U.2.1 k < 6 ∧ M.1 65 k = U.2.2 k
theorem UN_sb {ids : List Nat} {M N : z_Mem} {U : UT} (h : UN M U) (s : Sb ids M N) (hi : ∀ i ∈ ids, 67 < i) : UN N U := by
  have no : ∀ i, i ≤ 67 → i ∉ ids := fun i hi2 q => by have := hi i q; omega
  unfold UN
  rw [s.1 59 (no _ (by decide)), s.1 64 (no _ (by decide)), s.1 65 (no _ (by decide))]
  exact h
theorem Sn.un {lv : Nat} {M N : z_Mem} {U : UT} (s : Sn lv M N) (h : UN M U) : UN N U := UN_sb h s.1 (by simp)
theorem and_m1 (x : Int32) : x &&& (-1) = x := b_ext fun i hi => by rw [b_and, b_m1 i hi, Bool.and_true]
theorem zs_1 (M : z_Mem) (i k : Nat) (v : Int32) : (z_set M i k v).1 i k = v := by rw [z_set, z_row_1, upd_1]
theorem zs_s (M : z_Mem) (i k : Nat) (v w : Int32) : z_set (z_set M i k v) i k w = z_set M i k w := by
  unfold z_set
  rw [z_row_1, upd_upd, z_row_row]
theorem i_le0 {x : Int32} : ¬ x ≤ 0 ↔ 1 ≤ x := by
  rw [Int32.not_le, Int32.lt_iff_toInt_lt, Int32.le_iff_toInt_le]
  have h0 : (0 : Int32).toInt = 0 := by decide
  have h1 : (1 : Int32).toInt = 1 := by decide
  omega
def wr (lv : Nat) (T : TT) (o : Int32) (L R : Nat → Int32) (j : Nat) : Nat → Int32 := fun i => if 9 * lv + 1 ≤ i then wnF T o L (fun k => R (9 * lv + 1 + k)) j (i - (9 * lv + 1)) else R i
theorem wr_0 (lv : Nat) (T : TT) (o : Int32) (L R : Nat → Int32) : wr lv T o L R 0 = R := funext fun i => by
  rw [wr, wnF_0]
  split
  · rw [show 9 * lv + 1 + (i - (9 * lv + 1)) = i by omega]
  · rfl
theorem wr_lo {lv : Nat} {T : TT} {o : Int32} {L R : Nat → Int32} {j : Nat} : wr lv T o L R j (9 * lv) = R (9 * lv) := by rw [wr, if_neg (by omega)]
theorem wr_at {lv : Nat} {T : TT} {o : Int32} {L R : Nat → Int32} {j k : Nat} : wr lv T o L R j (9 * lv + 1 + k) = wnF T o L (fun k => R (9 * lv + 1 + k)) j k := by rw [wr, if_pos (by omega), Nat.add_sub_cancel_left]
theorem wr_hi {lv : Nat} {T : TT} {o : Int32} {L R : Nat → Int32} {j i : Nat} (h : i < 9 * lv + 1 ∨ 9 * lv + 1 + j ≤ i) : wr lv T o L R j i = R i := by
  rw [wr]
  split
  · rw [wnF, if_neg (by omega), show 9 * lv + 1 + (i - (9 * lv + 1)) = i by omega]
  · rfl
theorem wr_no {lv : Nat} {T : TT} {o : Int32} {L R : Nat → Int32} {n : Nat} (h : ¬ (T.2.2.2.2 n = 2 ∧ bt o n = false ∧ 1 ≤ L (T.2.1 n) + L (T.2.2.1 n))) : wr lv T o L R (n + 1) = wr lv T o L R n := by
  unfold wr
  rw [wnF_no h]
theorem wr_yes {lv : Nat} {T : TT} {o : Int32} {L R : Nat → Int32} {n : Nat} (h : T.2.2.2.2 n = 2 ∧ bt o n = false ∧ 1 ≤ L (T.2.1 n) + L (T.2.2.1 n)) : upd (wr lv T o L R n) (9 * lv + 1 + n) (wr lv T o L R n (9 * lv + 1 + n) + 1) = wr lv T o L R (n + 1) := by
  have e := wnF_yes (w := fun k => R (9 * lv + 1 + k)) h
  funext i
  by_cases q : i = 9 * lv + 1 + n
  · subst q
    rw [upd_1, wr_at, wr_at, ← e, upd_1]
  · rw [upd_n _ _ q]
    by_cases q2 : 9 * lv + 1 ≤ i
    · obtain ⟨k, rfl⟩ : ∃ k, i = 9 * lv + 1 + k := ⟨i - (9 * lv + 1), by omega⟩
      rw [wr_at, wr_at, ← e, upd_n _ _ (by omega)]
    · rw [wr, wr, if_neg q2, if_neg q2]
set_option maxRecDepth 100000 in
set_option maxHeartbeats 400000 in
theorem s_X7_passOn_7 {M M2 : z_Mem} {r : Option Value} {T : TT} (hT : TN M T) {lv : Nat} (hlv : lv ≤ 1) {bs : Int32} (hb : bs = nI (9 * lv)) (kk : z_Sm mX7_passOn r M2 49 [some (.ref 59), some (.int (nI lv)), some (.int bs), none, none] [] (z_set M 68 (9 * lv) (spF T.2.2.2.2 (M.1 68 (9 * lv)) (T.1)))) (j : Nat) (hj : j ≤ T.1) (ij : Int32) (Mj : z_Mem) (h2 : ij = nI j) (hM : Mj = z_set M 68 (9 * lv) (spF T.2.2.2.2 (M.1 68 (9 * lv)) j)) : z_Sm mX7_passOn r M2 7 [some (.ref 59), some (.int (nI lv)), some (.int bs), some (.int ij), none] [] Mj := by
  have hP7 := hT.2.1
  have hTj : TN Mj T := hM ▸ TN_sb hT (Sb.set (ids := [68]) _ (by simp)) (by simp)
  have hPj := hTj.1
  refine z_iload_n (pc := 7) dX7_passOn_7 rfl ?_
  refine z_aload_n (pc := 8) dX7_passOn_8 rfl ?_
  refine z_getI (pc := 9) q_fX7_105 z_s59 rfl dX7_passOn_9 ?_
  refine z_icmp_ge (pc := 12) (tgt := 49) dX7_passOn_12 (by decide) (fun h12 => ?_) (fun h12 => ?_)
  · have hNj : T.1 ≤ j := by
      have := z_ge h12 h2 hPj (by omega) (by omega)
      omega
    obtain rfl : j = T.1 := by omega
    subst hM
    exact z_drop 3 kk
  · have hlt : j < T.1 := by
      have := z_lt h12 h2 hPj (by omega) (by omega)
      omega
    obtain ⟨-, -, -, -, -, hkd⟩ := hTj.2.2 j hlt
    refine z_aload_n (pc := 15) dX7_passOn_15 rfl ?_
    refine z_getR (pc := 16) 68 q_fX7_34 z_s59 rfl dX7_passOn_16 ?_
    refine z_iload_n (pc := 19) dX7_passOn_19 rfl ?_
    refine z_dup2 (pc := 20) dX7_passOn_20 rfl rfl ?_
    refine z_iald (pc := 21) (9 * lv) z_s68 ⟨hb, by omega⟩ dX7_passOn_21 ?_
    refine z_aload_n (pc := 22) dX7_passOn_22 rfl ?_
    refine z_getR (pc := 23) 63 q_fX7_19 z_s59 rfl dX7_passOn_23 ?_
    refine z_iload_n (pc := 26) dX7_passOn_26 rfl ?_
    refine z_iald (pc := 27) (j) z_s63 ⟨h2, by omega⟩ dX7_passOn_27 ?_
    refine z_iconst (pc := 28) (v := 3) dX7_passOn_28 (by decide) ?_
    refine z_icmp_ne (pc := 29) (tgt := 40) dX7_passOn_29 (by decide) (fun h29 => ?_) (fun h29 => ?_)
    · refine z_iconst (pc := 40) (v := (-1)) dX7_passOn_40 (by decide) ?_
      refine z_iand (pc := 41) dX7_passOn_41 ?_
      refine z_iast (pc := 42) (9 * lv) z_s68 ⟨hb, by omega⟩ dX7_passOn_42 ?_
      refine z_iinc (pc := 43) dX7_passOn_43 rfl rfl rfl (by decide) ?_
      refine z_goto (pc := 46) (tgt := 7) dX7_passOn_46 (by decide) ?_
      rw [hkd] at h29
      exact s_X7_passOn_7 hT hlv hb kk (j + 1) hlt _ _ (z_n1 h2) (by rw [and_m1, z_set_self, hM, spF, if_neg h29])
    · refine z_iconst (pc := 32) (v := 1) dX7_passOn_32 (by decide) ?_
      refine z_iload_n (pc := 33) dX7_passOn_33 rfl ?_
      refine z_ishl (pc := 34) dX7_passOn_34 ?_
      refine z_iconst (pc := 35) (v := (-1)) dX7_passOn_35 (by decide) ?_
      refine z_ixor (pc := 36) dX7_passOn_36 ?_
      refine z_goto (pc := 37) (tgt := 41) dX7_passOn_37 (by decide) ?_
      refine z_iand (pc := 41) dX7_passOn_41 ?_
      refine z_iast (pc := 42) (9 * lv) z_s68 ⟨hb, by omega⟩ dX7_passOn_42 ?_
      refine z_iinc (pc := 43) dX7_passOn_43 rfl rfl rfl (by decide) ?_
      refine z_goto (pc := 46) (tgt := 7) dX7_passOn_46 (by decide) ?_
      rw [hkd] at h29
      exact s_X7_passOn_7 hT hlv hb kk (j + 1) hlt _ _ (z_n1 h2) (by rw [h2, hM, zs_1, zs_s, spF, if_pos h29]; rfl)
termination_by T.1 - j
decreasing_by all_goals omega
set_option maxRecDepth 100000 in
set_option maxHeartbeats 400000 in
theorem s_X7_passOn_112 {M M2 : z_Mem} {r : Option Value} {T : TT} (hT : TN M T) {lv : Nat} (hlv : lv ≤ 1) {bs n : Int32} (hb : bs = nI (9 * lv)) (kk : z_Sm mX7_passOn r M2 180 [some (.ref 59), some (.int (nI lv)), some (.int bs), some (.int n), none] [] (z_row M 68 (wr lv T (M.1 68 (9 * lv)) (M.1 73) (M.1 68) (T.1)))) (j : Nat) (hj : j ≤ T.1) (ij : Int32) (Mj : z_Mem) (h2 : ij = nI j) (hM : Mj = z_row M 68 (wr lv T (M.1 68 (9 * lv)) (M.1 73) (M.1 68) j)) : z_Sm mX7_passOn r M2 112 [some (.ref 59), some (.int (nI lv)), some (.int bs), some (.int n), some (.int ij)] [] Mj := by
  have hP7 := hT.2.1
  have hTj : TN Mj T := hM ▸ TN_sb hT (Sb.row (ids := [68]) _ (by simp)) (by simp)
  have hPj := hTj.1
  have e73 : Mj.1 73 = M.1 73 := by rw [hM, z_row_n _ _ (by decide)]
  have e68 : Mj.1 68 = wr lv T (M.1 68 (9 * lv)) (M.1 73) (M.1 68) j := by rw [hM, z_row_1]
  refine z_iload (pc := 112) dX7_passOn_112 rfl ?_
  refine z_aload_n (pc := 114) dX7_passOn_114 rfl ?_
  refine z_getI (pc := 115) q_fX7_105 z_s59 rfl dX7_passOn_115 ?_
  refine z_icmp_ge (pc := 118) (tgt := 180) dX7_passOn_118 (by decide) (fun h118 => ?_) (fun h118 => ?_)
  · have hNj : T.1 ≤ j := by
      have := z_ge h118 h2 hPj (by omega) (by omega)
      omega
    obtain rfl : j = T.1 := by omega
    subst hM
    exact z_drop 4 kk
  · have hlt : j < T.1 := by
      have := z_lt h118 h2 hPj (by omega) (by omega)
      omega
    obtain ⟨-, -, -, -, -, hkd⟩ := hTj.2.2 j hlt
    have hix : bs + 1 + ij = nI (9 * lv + 1 + j) := by rw [hb, h2, show (1 : Int32) = nI 1 from rfl, nI_add, nI_add]
    refine z_aload_n (pc := 121) dX7_passOn_121 rfl ?_
    refine z_getR (pc := 122) 68 q_fX7_34 z_s59 rfl dX7_passOn_122 ?_
    refine z_iload_n (pc := 125) dX7_passOn_125 rfl ?_
    refine z_iconst (pc := 126) (v := 1) dX7_passOn_126 (by decide) ?_
    refine z_iadd (pc := 127) dX7_passOn_127 ?_
    refine z_iload (pc := 128) dX7_passOn_128 rfl ?_
    refine z_iadd (pc := 130) dX7_passOn_130 ?_
    refine z_dup2 (pc := 131) dX7_passOn_131 rfl rfl ?_
    refine z_iald (pc := 132) (9 * lv + 1 + j) z_s68 ⟨hix, by omega⟩ dX7_passOn_132 ?_
    refine z_aload_n (pc := 133) dX7_passOn_133 rfl ?_
    refine z_getR (pc := 134) 63 q_fX7_19 z_s59 rfl dX7_passOn_134 ?_
    refine z_iload (pc := 137) dX7_passOn_137 rfl ?_
    refine z_iald (pc := 139) (j) z_s63 ⟨h2, by omega⟩ dX7_passOn_139 ?_
    refine z_iconst (pc := 140) (v := 2) dX7_passOn_140 (by decide) ?_
    refine z_icmp_ne (pc := 141) (tgt := 171) dX7_passOn_141 (by decide) (fun h141 => ?_) (fun h141 => ?_)
    · refine z_iconst (pc := 171) (v := 0) dX7_passOn_171 (by decide) ?_
      refine z_iadd (pc := 172) dX7_passOn_172 ?_
      refine z_iast (pc := 173) (9 * lv + 1 + j) z_s68 ⟨hix, by omega⟩ dX7_passOn_173 ?_
      refine z_iinc (pc := 174) dX7_passOn_174 rfl rfl rfl (by decide) ?_
      refine z_goto (pc := 177) (tgt := 112) dX7_passOn_177 (by decide) ?_
      rw [hkd] at h141
      exact s_X7_passOn_112 hT hlv hb kk (j + 1) hlt _ _ (z_n1 h2) (by rw [Int32.add_zero, z_set_self, hM, wr_no (fun q => h141 q.1)])
    · refine z_aload_n (pc := 144) dX7_passOn_144 rfl ?_
      refine z_getR (pc := 145) 68 q_fX7_34 z_s59 rfl dX7_passOn_145 ?_
      refine z_iload_n (pc := 148) dX7_passOn_148 rfl ?_
      refine z_iald (pc := 149) (9 * lv) z_s68 ⟨hb, by omega⟩ dX7_passOn_149 ?_
      refine z_iload (pc := 150) dX7_passOn_150 rfl ?_
      refine z_cS2 (pc := 152) (c_X7_has h2 (by omega)) (q_cX7_119 _ (by decide)) rfl dX7_passOn_152 ?_
      refine z_if_ne (pc := 155) (tgt := 171) dX7_passOn_155 (by decide) (fun h155 => ?_) (fun h155 => ?_)
      · refine z_iconst (pc := 171) (v := 0) dX7_passOn_171 (by decide) ?_
        refine z_iadd (pc := 172) dX7_passOn_172 ?_
        refine z_iast (pc := 173) (9 * lv + 1 + j) z_s68 ⟨hix, by omega⟩ dX7_passOn_173 ?_
        refine z_iinc (pc := 174) dX7_passOn_174 rfl rfl rfl (by decide) ?_
        refine z_goto (pc := 177) (tgt := 112) dX7_passOn_177 (by decide) ?_
        have h155 := z_t h155
        rw [e68, wr_lo] at h155
        exact s_X7_passOn_112 hT hlv hb kk (j + 1) hlt _ _ (z_n1 h2) (by rw [Int32.add_zero, z_set_self, hM, wr_no (fun q => by rw [h155] at q; cases q.2.1)])
      · refine z_aload_n (pc := 158) dX7_passOn_158 rfl ?_
        refine z_iload (pc := 159) dX7_passOn_159 rfl ?_
        refine z_cV1 (pc := 161) (c_X7_onBoth hTj h2 hlt) (q_cX7_130 _ (by decide)) z_s59 rfl rfl dX7_passOn_161 ?_
        refine z_if_le (pc := 164) (tgt := 171) dX7_passOn_164 (by decide) (fun h164 => ?_) (fun h164 => ?_)
        · refine z_iconst (pc := 171) (v := 0) dX7_passOn_171 (by decide) ?_
          refine z_iadd (pc := 172) dX7_passOn_172 ?_
          refine z_iast (pc := 173) (9 * lv + 1 + j) z_s68 ⟨hix, by omega⟩ dX7_passOn_173 ?_
          refine z_iinc (pc := 174) dX7_passOn_174 rfl rfl rfl (by decide) ?_
          refine z_goto (pc := 177) (tgt := 112) dX7_passOn_177 (by decide) ?_
          rw [e73] at h164
          exact s_X7_passOn_112 hT hlv hb kk (j + 1) hlt _ _ (z_n1 h2) (by rw [Int32.add_zero, z_set_self, hM, wr_no (fun q => absurd h164 (i_le0.mpr q.2.2))])
        · refine z_iconst (pc := 167) (v := 1) dX7_passOn_167 (by decide) ?_
          refine z_goto (pc := 168) (tgt := 172) dX7_passOn_168 (by decide) ?_
          refine z_iadd (pc := 172) dX7_passOn_172 ?_
          refine z_iast (pc := 173) (9 * lv + 1 + j) z_s68 ⟨hix, by omega⟩ dX7_passOn_173 ?_
          refine z_iinc (pc := 174) dX7_passOn_174 rfl rfl rfl (by decide) ?_
          refine z_goto (pc := 177) (tgt := 112) dX7_passOn_177 (by decide) ?_
          rw [hkd] at h141
          have h155 := z_f h155
          rw [e68, wr_lo] at h155
          rw [e73] at h164
          exact s_X7_passOn_112 hT hlv hb kk (j + 1) hlt _ _ (z_n1 h2) (by rw [z_set, e68, ← wr_yes ⟨h141, h155, i_le0.mp h164⟩, hM, z_row_row])
termination_by T.1 - j
decreasing_by all_goals omega
set_option maxRecDepth 100000 in
set_option maxHeartbeats 400000 in
theorem c_X7_passOn {M : z_Mem} {T : TT} {U : UT} (hT : TN M T) (hU : UN M U) {lv : Nat} (hlv : lv ≤ 1) {p : PLt} (hp : PM M lv p) (hd : p.2.2 < 2 ^ 29) : ∃ M1, z_Ct mX7_passOn [.ref 59, .int (nI lv)] M (some (.int (pgR (dyO T p) (dayF T U p).1))) M1 ∧ PM M1 lv (dayF T U p) ∧ Sn lv M M1 := by
  have hP7 := hT.2.1
  have h9 : (9 : Int32) * nI lv = nI (9 * lv) := nx_mul 9 lv
  have s1 : Sn lv M (z_set M 68 (9 * lv) (spF T.2.2.2.2 (M.1 68 (9 * lv)) T.1)) := Sn.s68 _ ⟨by omega, by omega⟩
  have p1 : PM (z_set M 68 (9 * lv) (spF T.2.2.2.2 (M.1 68 (9 * lv)) T.1)) lv (dyO T p, p.2.1, p.2.2) := ⟨by rw [zs_1, hp.1]; rfl, fun k hk => by rw [z_set, z_row_1, upd_n _ _ (by omega)]; exact hp.2.1 k hk, by rw [z_set, z_row_1, upd_n _ _ (by omega)]; exact hp.2.2⟩
  generalize hN1 : z_set M 68 (9 * lv) (spF T.2.2.2.2 (M.1 68 (9 * lv)) T.1) = N1 at s1 p1
  have s2 : Sn lv N1 (z_row N1 73 (cpF 6 (fun _ => 0) (N1.1 73))) := Sn.l73 _
  have p2 : PM (z_row N1 73 (cpF 6 (fun _ => 0) (N1.1 73))) lv (dyO T p, p.2.1, p.2.2) := p1.l73 _
  have e2 : ∀ k, k < 6 → (z_row N1 73 (cpF 6 (fun _ => 0) (N1.1 73))).1 73 k = 0 := fun k hk => by rw [z_row_1, cpF, if_pos hk]
  have c2 := c_X7_unload (M := N1)
  generalize z_row N1 73 (cpF 6 (fun _ => 0) (N1.1 73)) = N2 at s2 p2 e2 c2
  have t2 := s2.tn (s1.tn hT)
  have u2 := s2.un (s1.un hU)
  obtain ⟨N3, s3, p3, e3, k3⟩ : ∃ N3, Sn lv N2 N3 ∧ PM N3 lv (dyO T p, p.2.1, p.2.2) ∧ (∀ k, k < 6 → N3.1 73 k = dyL U p.2.2 k) ∧ ∀ (M2 : z_Mem) (r : Option Value), z_Sm mX7_passOn r M2 103 [some (.ref 59), some (.int (nI lv)), some (.int (nI (9 * lv))), none, none] [] N3 → z_Sm mX7_passOn r M2 53 [some (.ref 59), some (.int (nI lv)), some (.int (nI (9 * lv))), none, none] [] N2 := by
    obtain ⟨hU1, hU4, hUk⟩ := u2
    by_cases h0 : U.1 = 0
    · refine ⟨N2, Sn.rf, p2, fun k hk => by rw [e2 k hk, dyL, if_pos h0], fun M2 r kk => ?_⟩
      refine z_aload_n (pc := 53) dX7_passOn_53 rfl ?_
      refine z_getI (pc := 54) q_fX7_108 z_s59 rfl dX7_passOn_54 ?_
      refine z_if_le (pc := 57) (tgt := 103) dX7_passOn_57 (by decide) (fun h57 => ?_) (fun h57 => ?_)
      · exact kk
      · exact absurd (by rw [hU1, h0]; decide) h57
    · have hm : p.2.2 % U.1 < U.1 := Nat.mod_lt _ (by omega)
      obtain ⟨q1, q2, q3⟩ := hUk _ hm
      have h98 : nI (9 * lv) + 8 = nI (9 * lv + 8) := nI_add _ 8
      have hne : ¬ N2.1 59 1 = 0 := by rw [hU1]; exact fun q => h0 ((nI0 (by omega)).mp q)
      have hrm : N2.1 68 (9 * lv + 8) - N2.1 68 (9 * lv + 8) / N2.1 59 1 * N2.1 59 1 = nI (p.2.2 % U.1) := by rw [p2.2.2, hU1]; exact pk_rem (by show p.2.2 < _; omega) (by omega) (by omega)
      refine ⟨z_set N2 73 (U.2.1 (p.2.2 % U.1)) (U.2.2 (p.2.2 % U.1)), Sn.l73 _, p2.l73 _, fun k hk => ?_, fun M2 r kk => ?_⟩
      · rw [z_set, z_row_1, dyL, if_neg h0, tgL]
        unfold upd
        split
        · rfl
        · exact e2 k hk
      refine z_aload_n (pc := 53) dX7_passOn_53 rfl ?_
      refine z_getI (pc := 54) q_fX7_108 z_s59 rfl dX7_passOn_54 ?_
      refine z_if_le (pc := 57) (tgt := 103) dX7_passOn_57 (by decide) (fun h57 => ?_) (fun h57 => ?_)
      · exfalso
        rw [hU1] at h57
        exact (i_le0.mpr (nI_le (a := 1) (by omega) (by omega))) h57
      · refine z_aload_n (pc := 60) dX7_passOn_60 rfl ?_
        refine z_getR (pc := 61) 73 q_fX7_49 z_s59 rfl dX7_passOn_61 ?_
        refine z_aload_n (pc := 64) dX7_passOn_64 rfl ?_
        refine z_getR (pc := 65) 64 q_fX7_22 z_s59 rfl dX7_passOn_65 ?_
        refine z_aload_n (pc := 68) dX7_passOn_68 rfl ?_
        refine z_getR (pc := 69) 68 q_fX7_34 z_s59 rfl dX7_passOn_69 ?_
        refine z_iload_n (pc := 72) dX7_passOn_72 rfl ?_
        refine z_bipush (pc := 73) (v := 8) dX7_passOn_73 (by decide) ?_
        refine z_iadd (pc := 75) dX7_passOn_75 ?_
        refine z_iald (pc := 76) (9 * lv + 8) z_s68 ⟨h98, by omega⟩ dX7_passOn_76 ?_
        refine z_aload_n (pc := 77) dX7_passOn_77 rfl ?_
        refine z_getI (pc := 78) q_fX7_108 z_s59 rfl dX7_passOn_78 ?_
        refine z_irem (pc := 81) dX7_passOn_81 hne ?_
        refine z_iald (pc := 82) (p.2.2 % U.1) z_s64 ⟨hrm, by omega⟩ dX7_passOn_82 ?_
        refine z_aload_n (pc := 83) dX7_passOn_83 rfl ?_
        refine z_getR (pc := 84) 65 q_fX7_25 z_s59 rfl dX7_passOn_84 ?_
        refine z_aload_n (pc := 87) dX7_passOn_87 rfl ?_
        refine z_getR (pc := 88) 68 q_fX7_34 z_s59 rfl dX7_passOn_88 ?_
        refine z_iload_n (pc := 91) dX7_passOn_91 rfl ?_
        refine z_bipush (pc := 92) (v := 8) dX7_passOn_92 (by decide) ?_
        refine z_iadd (pc := 94) dX7_passOn_94 ?_
        refine z_iald (pc := 95) (9 * lv + 8) z_s68 ⟨h98, by omega⟩ dX7_passOn_95 ?_
        refine z_aload_n (pc := 96) dX7_passOn_96 rfl ?_
        refine z_getI (pc := 97) q_fX7_108 z_s59 rfl dX7_passOn_97 ?_
        refine z_irem (pc := 100) dX7_passOn_100 hne ?_
        refine z_iald (pc := 101) (p.2.2 % U.1) z_s65 ⟨hrm, by omega⟩ dX7_passOn_101 ?_
        rw [q3]
        refine z_iast (pc := 102) (U.2.1 (p.2.2 % U.1)) z_s73 ⟨q1, by omega⟩ dX7_passOn_102 ?_
        exact kk
  have t3 := s3.tn t2
  obtain ⟨N4, c4, p4, s4, l4⟩ := c_X7_ping_p t3 hlv p3 e3
  have t4 := s4.tn t3
  refine ⟨z_set (z_row N4 68 (wr lv T (N4.1 68 (9 * lv)) (N4.1 73) (N4.1 68) T.1)) 68 (9 * lv + 8) ((z_row N4 68 (wr lv T (N4.1 68 (9 * lv)) (N4.1 73) (N4.1 68) T.1)).1 68 (9 * lv + 8) + 1), ?_, ⟨?_, fun k hk => ?_, ?_⟩, (((s1.tr s2).tr s3).tr s4).tr ⟨(Sb.row _ (by simp)).tr (Sb.set _ (by simp)), fun i hi => ?_⟩⟩
  · subst hN1
    refine z_entry (by decide +kernel) (Nat.le_of_ble_eq_true rfl) rfl ?_
    show z_Sm mX7_passOn _ _ 0 [some (.ref 59), some (.int (nI lv)), none, none, none] [] M
    refine z_bipush (pc := 0) (v := 9) dX7_passOn_0 (by decide) ?_
    refine z_iload_n (pc := 2) dX7_passOn_2 rfl ?_
    refine z_imul (pc := 3) dX7_passOn_3 ?_
    refine z_istore_n (pc := 4) dX7_passOn_4 rfl (by decide) ?_
    refine z_iconst (pc := 5) (v := 0) dX7_passOn_5 (by decide) ?_
    refine z_istore_n (pc := 6) dX7_passOn_6 rfl (by decide) ?_
    rw [h9]
    refine s_X7_passOn_7 hT hlv rfl ?_ 0 (Nat.zero_le _) _ _ rfl (by rw [spF, z_set_self])
    refine z_aload_n (pc := 49) dX7_passOn_49 rfl ?_
    refine z_cV0v (pc := 50) c2 (q_cX7_140 _ (by decide)) z_s59 rfl rfl dX7_passOn_50 ?_
    refine k3 _ _ ?_
    refine z_aload_n (pc := 103) dX7_passOn_103 rfl ?_
    refine z_iload_n (pc := 104) dX7_passOn_104 rfl ?_
    refine z_cV1 (pc := 105) c4 (q_cX7_143 _ (by decide)) z_s59 rfl rfl dX7_passOn_105 ?_
    refine z_istore_n (pc := 108) dX7_passOn_108 rfl (by decide) ?_
    refine z_iconst (pc := 109) (v := 0) dX7_passOn_109 (by decide) ?_
    refine z_istore (pc := 110) dX7_passOn_110 rfl (by decide) ?_
    refine s_X7_passOn_112 t4 hlv rfl ?_ 0 (Nat.zero_le _) _ _ rfl (by rw [wr_0, z_row_same])
    refine z_aload_n (pc := 180) dX7_passOn_180 rfl ?_
    refine z_getR (pc := 181) 68 q_fX7_34 z_s59 rfl dX7_passOn_181 ?_
    refine z_iload_n (pc := 184) dX7_passOn_184 rfl ?_
    refine z_bipush (pc := 185) (v := 8) dX7_passOn_185 (by decide) ?_
    refine z_iadd (pc := 187) dX7_passOn_187 ?_
    refine z_dup2 (pc := 188) dX7_passOn_188 rfl rfl ?_
    refine z_iald (pc := 189) (9 * lv + 8) z_s68 ⟨nI_add _ 8, by omega⟩ dX7_passOn_189 ?_
    refine z_iconst (pc := 190) (v := 1) dX7_passOn_190 (by decide) ?_
    refine z_iadd (pc := 191) dX7_passOn_191 ?_
    refine z_iast (pc := 192) (9 * lv + 8) z_s68 ⟨nI_add _ 8, by omega⟩ dX7_passOn_192 ?_
    refine z_iload_n (pc := 193) dX7_passOn_193 rfl ?_
    refine z_iret (pc := 194) rfl dX7_passOn_194 ?_ ?_
    · rfl
    · rfl
  · rw [z_set, z_row_1, upd_n _ _ (by omega), z_row_1, wr_lo]; exact p4.1
  · rw [z_set, z_row_1, upd_n _ _ (by omega), z_row_1, wr_at, p4.1]
    exact wnF_cong hT.te (fun k hk => p4.2.1 k hk) l4 (Nat.le_refl _) k hk
  · rw [zs_1, z_row_1, wr_hi (Or.inr (by omega)), p4.2.2]
    exact (nI_succ _).symm
  · rw [z_set, z_row_1, upd_n _ _ (by omega), z_row_1, wr_hi (by omega)]
