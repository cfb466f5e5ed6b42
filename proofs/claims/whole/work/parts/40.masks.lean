theorem inB_no {x : Int32} {b c : Int64} (b0 c0 : Int32) (hb : b = b0.toInt64) (hc : c = c0.toInt64) (h : x < b0 ∨ c0 < x) : inB x.toInt64 b c = false := by
  rw [inB_i b0 c0 hb hc]
  rcases h with h | h
  · rw [decide_eq_true h]; rfl
  · rw [decide_eq_true h]; cases decide (x < b0) <;> rfl
theorem inB_yes {x : Int32} {b c : Int64} (b0 c0 : Int32) (hb : b = b0.toInt64) (hc : c = c0.toInt64) (h : ¬ (x < b0 ∨ c0 < x)) : inB x.toInt64 b c = true := by
  rw [inB_i b0 c0 hb hc, decide_eq_false (fun q => h (Or.inl q)), decide_eq_false (fun q => h (Or.inr q))]
  rfl
set_option maxRecDepth 100000 in
set_option maxHeartbeats 400000 in
theorem o_X7_with {M : z_Mem} {l : Nat → Int32} {n : Nat} {T : TT} {U : UT} {D : DT} {p : PLt} {A : List PLt} {k0 k1 : Option PLt} {L : List (Int32 × Int32)} {sd : Int64} (hR : RM M l n T U D p A k0 k1 L sd) {x : Int32} (h : thg x = true) : z_Ct mX7_with [.ref 59, .int x] M (some (.int (rOut p.1 T.2.1 T.2.2.1 T.1 5 (em x.toNatClampNeg)))) M := by
  obtain ⟨rS, rT, rU, rD, rp, rA, r0, r1, rL, rs⟩ := id hR
  have hx := thg_at h

  refine z_entry (by decide +kernel) (Nat.le_of_ble_eq_true rfl) rfl ?_
  show z_Sm mX7_with _ _ 0 [some (.ref 59), some (.int x)] [] M
  refine z_iload_n (pc := 0) dX7_with_0 rfl ?_
  refine z_cS1 (pc := 1) c_X7_isThing (q_cX7_150 _ (by decide)) rfl dX7_with_1 ?_
  refine z_if_eq (pc := 4) (tgt := 21) dX7_with_4 (by decide) (fun h4 => ?_) (fun h4 => ?_)
  · rw [h] at h4; exact absurd h4 (by decide)
  · refine z_aload_n (pc := 7) dX7_with_7 rfl ?_
    refine z_iload_n (pc := 8) dX7_with_8 rfl ?_
    refine z_aload_n (pc := 9) dX7_with_9 rfl ?_
    refine z_getR (pc := 10) 68 q_fX7_34 z_s59 rfl dX7_with_10 ?_
    refine z_iconst (pc := 13) (v := 0) dX7_with_13 (by decide) ?_
    refine z_iald (pc := 14) (0) z_s68 ⟨rfl, by omega⟩ dX7_with_14 ?_
    refine z_cV2 (pc := 15) (c_X7_withBy rT hx.2 hx.1) (q_cX7_123 _ (by decide)) z_s59 rfl rfl dX7_with_15 ?_
    refine z_goto (pc := 18) (tgt := 22) dX7_with_18 (by decide) ?_
    refine z_iret (pc := 22) rfl dX7_with_22 ?_ ?_
    · rw [show M.1 68 0 = p.1 from rp.1]
    · rfl
set_option maxRecDepth 100000 in
set_option maxHeartbeats 400000 in
theorem o_X7_with_no {M : z_Mem} {l : Nat → Int32} {n : Nat} {T : TT} {U : UT} {D : DT} {p : PLt} {A : List PLt} {k0 k1 : Option PLt} {L : List (Int32 × Int32)} {sd : Int64} (hR : RM M l n T U D p A k0 k1 L sd) {x : Int32} (h : thg x = false) : z_Ct mX7_with [.ref 59, .int x] M (some (.int (-1))) M := by
  obtain ⟨rS, rT, rU, rD, rp, rA, r0, r1, rL, rs⟩ := id hR

  refine z_entry (by decide +kernel) (Nat.le_of_ble_eq_true rfl) rfl ?_
  show z_Sm mX7_with _ _ 0 [some (.ref 59), some (.int x)] [] M
  refine z_iload_n (pc := 0) dX7_with_0 rfl ?_
  refine z_cS1 (pc := 1) c_X7_isThing (q_cX7_150 _ (by decide)) rfl dX7_with_1 ?_
  refine z_if_eq (pc := 4) (tgt := 21) dX7_with_4 (by decide) (fun h4 => ?_) (fun h4 => ?_)
  · refine z_iconst (pc := 21) (v := (-1)) dX7_with_21 (by decide) ?_
    refine z_iret (pc := 22) rfl dX7_with_22 ?_ ?_
    · rfl
    · rfl
  · rw [h] at h4; exact absurd rfl h4
set_option maxRecDepth 100000 in
set_option maxHeartbeats 400000 in
theorem s_X7_later_21 {T : TT} {U : UT} {x : Int32} {m : Nat} (hx : x = nI m) (hm : m ≤ 20) : ∀ (f : Nat) (Mj : z_Mem) (q : PLt) (ij : Int32) (i : Nat), TN Mj T → UN Mj U → PM Mj 1 q → q.2.2 + f < 2 ^ 29 → ij = nI i → i + f = m → ∃ M2, z_Sm mX7_later (some (.int (itF T U f q).1)) M2 21 [some (.ref 59), some (.int x), some (.int ij)] [] Mj ∧ Sn 1 Mj M2 := by
  intro f
  induction f with
  | zero =>
    intro Mj q ij i hT hU hp hd h2 hi
    refine ⟨Mj, ?_, Sn.rf⟩
    refine z_iload_n (pc := 21) dX7_later_21 rfl ?_
    refine z_iload_n (pc := 22) dX7_later_22 rfl ?_
    refine z_icmp_ge (pc := 23) (tgt := 38) dX7_later_23 (by decide) (fun h23 => ?_) (fun h23 => ?_)
    · refine z_aload_n (pc := 38) dX7_later_38 rfl ?_
      refine z_getR (pc := 39) 68 q_fX7_34 z_s59 rfl dX7_later_39 ?_
      refine z_bipush (pc := 42) (v := 9) dX7_later_42 (by decide) ?_
      refine z_iald (pc := 44) (9) z_s68 ⟨rfl, by omega⟩ dX7_later_44 ?_
      refine z_iret (pc := 45) rfl dX7_later_45 ?_ ?_
      · exact hp.1
      · rfl
    · exact absurd (z_lt h23 h2 hx (by omega) (by omega)) (by omega)
  | succ f ih =>
    intro Mj q ij i hT hU hp hd h2 hi
    obtain ⟨N, c1, p1, s1⟩ := c_X7_passOn hT hU (lv := 1) (by decide) hp (by omega)
    obtain ⟨M2, h3, s2⟩ := ih N (dayF T U q) (ij + Int32.ofInt 1) (i + 1) (s1.tn hT) (s1.un hU) p1 (by show q.2.2 + 1 + f < 2 ^ 29; omega) (z_n1 h2) (by omega)
    refine ⟨M2, ?_, s1.tr s2⟩
    refine z_iload_n (pc := 21) dX7_later_21 rfl ?_
    refine z_iload_n (pc := 22) dX7_later_22 rfl ?_
    refine z_icmp_ge (pc := 23) (tgt := 38) dX7_later_23 (by decide) (fun h23 => ?_) (fun h23 => ?_)
    · exact absurd (z_ge h23 h2 hx (by omega) (by omega)) (by omega)
    · refine z_aload_n (pc := 26) dX7_later_26 rfl ?_
      refine z_iconst (pc := 27) (v := 1) dX7_later_27 (by decide) ?_
      refine z_cV1 (pc := 28) c1 (q_cX7_159 _ (by decide)) z_s59 rfl rfl dX7_later_28 ?_
      refine z_pop (pc := 31) dX7_later_31 rfl ?_
      refine z_iinc (pc := 32) dX7_later_32 rfl rfl rfl (by decide) ?_
      refine z_goto (pc := 35) (tgt := 21) dX7_later_35 (by decide) ?_
      exact h3
set_option maxRecDepth 100000 in
set_option maxHeartbeats 400000 in
theorem o_X7_later_no {M : z_Mem} {l : Nat → Int32} {n : Nat} {T : TT} {U : UT} {D : DT} {p : PLt} {A : List PLt} {k0 k1 : Option PLt} {L : List (Int32 × Int32)} {sd : Int64} (hR : RM M l n T U D p A k0 k1 L sd) {x : Int32} (h : x < 0 ∨ 20 < x) : z_Ct mX7_later [.ref 59, .int x] M (some (.int (-2))) M := by
  obtain ⟨rS, rT, rU, rD, rp, rA, r0, r1, rL, rs⟩ := id hR
  have hin := inB_no (b := 0) (c := 20) 0 20 (by decide) (by decide) h

  refine z_entry (by decide +kernel) (Nat.le_of_ble_eq_true rfl) rfl ?_
  show z_Sm mX7_later _ _ 0 [some (.ref 59), some (.int x), none] [] M
  refine z_iload_n (pc := 0) dX7_later_0 rfl ?_
  refine z_i2l (pc := 1) dX7_later_1 rfl ?_
  refine z_lconst (pc := 2) (v := 0) dX7_later_2 (by decide) ?_
  refine z_ldc2 (pc := 3) q_kX7_172 dX7_later_3 ?_
  refine z_cS3 (pc := 6) c_X7_in (q_cX7_70 _ (by decide)) rfl dX7_later_6 ?_
  refine z_if_ne (pc := 9) (tgt := 15) dX7_later_9 (by decide) (fun h9 => ?_) (fun h9 => ?_)
  · rw [hin] at h9; exact absurd rfl h9
  · refine z_bipush (pc := 12) (v := (-2)) dX7_later_12 (by decide) ?_
    refine z_iret (pc := 14) rfl dX7_later_14 ?_ ?_
    · rfl
    · rfl
set_option maxRecDepth 100000 in
set_option maxHeartbeats 400000 in
theorem o_X7_later {M : z_Mem} {l : Nat → Int32} {n : Nat} {T : TT} {U : UT} {D : DT} {p : PLt} {A : List PLt} {k0 k1 : Option PLt} {L : List (Int32 × Int32)} {sd : Int64} (hR : RM M l n T U D p A k0 k1 L sd) (hd : p.2.2 < 2 ^ 28) {x : Int32} {m : Nat} (hx : x = nI m) (hm : m ≤ 20) : ∃ M1, z_Ct mX7_later [.ref 59, .int x] M (some (.int (itF T U m p).1)) M1 ∧ RM M1 l n T U D p A k0 k1 L sd ∧ Fm M M1 := by
  obtain ⟨rS, rT, rU, rD, rp, rA, r0, r1, rL, rs⟩ := id hR
  obtain ⟨N, c0, p0, s0⟩ := c_X7_layTrial rp
  have t0 := s0.tn rT
  have u0 := s0.un rU
  have hin := inB_yes (x := x) (b := 0) (c := 20) 0 20 (by decide) (by decide) (fun h => h.elim (by rw [hx]; exact nI_pos (by omega)) (fun q => absurd q (Int32.not_lt.mpr (by rw [hx]; exact nI_le (b := 20) hm (by decide)))))
  obtain ⟨M2, h3, s2⟩ := s_X7_later_21 hx hm m N p 0 0 t0 u0 p0 (by omega) rfl (by omega)
  refine ⟨M2, ?_, RM_th hR (s0.tr s2), (s0.tr s2).1.fm (by simp)⟩
  refine z_entry (by decide +kernel) (Nat.le_of_ble_eq_true rfl) rfl ?_
  show z_Sm mX7_later _ _ 0 [some (.ref 59), some (.int x), none] [] M
  refine z_iload_n (pc := 0) dX7_later_0 rfl ?_
  refine z_i2l (pc := 1) dX7_later_1 rfl ?_
  refine z_lconst (pc := 2) (v := 0) dX7_later_2 (by decide) ?_
  refine z_ldc2 (pc := 3) q_kX7_172 dX7_later_3 ?_
  refine z_cS3 (pc := 6) c_X7_in (q_cX7_70 _ (by decide)) rfl dX7_later_6 ?_
  refine z_if_ne (pc := 9) (tgt := 15) dX7_later_9 (by decide) (fun h9 => ?_) (fun h9 => ?_)
  · refine z_aload_n (pc := 15) dX7_later_15 rfl ?_
    refine z_cV0v (pc := 16) c0 (q_cX7_174 _ (by decide)) z_s59 rfl rfl dX7_later_16 ?_
    refine z_iconst (pc := 19) (v := 0) dX7_later_19 (by decide) ?_
    refine z_istore_n (pc := 20) dX7_later_20 rfl (by decide) ?_
    exact h3
  · rw [hin] at h9; exact absurd h9 (by decide)
set_option maxRecDepth 100000 in
set_option maxHeartbeats 400000 in
theorem s_X7_lasts_32 {T : TT} {U : UT} {x : Int32} {j : Nat} (hx : x = nI j) (hj : j < 7) : ∀ (f : Nat) (Mj : z_Mem) (q : PLt) (ij : Int32) (i : Nat), TN Mj T → UN Mj U → PM Mj 1 q → q.2.2 + f < 2 ^ 29 → ij = nI i → i + f = 21 → ∃ M2, z_Sm mX7_lasts (some (.int (lsF T U j f i q))) M2 32 [some (.ref 59), some (.int x), some (.int ij)] [] Mj ∧ Sn 1 Mj M2 := by
  intro f
  induction f with
  | zero =>
    intro Mj q ij i hT hU hp hd h2 hi
    refine ⟨Mj, ?_, Sn.rf⟩
    refine z_iload_n (pc := 32) dX7_lasts_32 rfl ?_
    refine z_bipush (pc := 33) (v := 21) dX7_lasts_33 (by decide) ?_
    refine z_icmp_ge (pc := 35) (tgt := 66) dX7_lasts_35 (by decide) (fun h35 => ?_) (fun h35 => ?_)
    · refine z_bipush (pc := 66) (v := (-9)) dX7_lasts_66 (by decide) ?_
      refine z_iret (pc := 68) rfl dX7_lasts_68 ?_ ?_
      · rfl
      · rfl
    · exact absurd (z_lt h35 h2 (show (21 : Int32) = nI 21 from rfl) (by omega) (by omega)) (by omega)
  | succ f ih =>
    intro Mj q ij i hT hU hp hd h2 hi
    obtain ⟨N, c1, p1, s1⟩ := c_X7_passOn hT hU (lv := 1) (by decide) hp (by omega)
    have e9 : N.1 68 9 = (dayF T U q).1 := p1.1
    by_cases hb : bt (dayF T U q).1 j = true
    · refine ⟨N, ?_, s1⟩
      refine z_iload_n (pc := 32) dX7_lasts_32 rfl ?_
      refine z_bipush (pc := 33) (v := 21) dX7_lasts_33 (by decide) ?_
      refine z_icmp_ge (pc := 35) (tgt := 66) dX7_lasts_35 (by decide) (fun h35 => ?_) (fun h35 => ?_)
      · exact absurd (z_ge h35 h2 (show (21 : Int32) = nI 21 from rfl) (by omega) (by omega)) (by omega)
      · refine z_aload_n (pc := 38) dX7_lasts_38 rfl ?_
        refine z_iconst (pc := 39) (v := 1) dX7_lasts_39 (by decide) ?_
        refine z_cV1 (pc := 40) c1 (q_cX7_159 _ (by decide)) z_s59 rfl rfl dX7_lasts_40 ?_
        refine z_pop (pc := 43) dX7_lasts_43 rfl ?_
        refine z_aload_n (pc := 44) dX7_lasts_44 rfl ?_
        refine z_getR (pc := 45) 68 q_fX7_34 z_s59 rfl dX7_lasts_45 ?_
        refine z_bipush (pc := 48) (v := 9) dX7_lasts_48 (by decide) ?_
        refine z_iald (pc := 50) (9) z_s68 ⟨rfl, by omega⟩ dX7_lasts_50 ?_
        refine z_iload_n (pc := 51) dX7_lasts_51 rfl ?_
        refine z_cS2 (pc := 52) (c_X7_has hx (by omega)) (q_cX7_119 _ (by decide)) rfl dX7_lasts_52 ?_
        refine z_if_eq (pc := 55) (tgt := 60) dX7_lasts_55 (by decide) (fun h55 => ?_) (fun h55 => ?_)
        · rw [e9, hb] at h55; exact absurd h55 (by decide)
        · refine z_iload_n (pc := 58) dX7_lasts_58 rfl ?_
          refine z_iret (pc := 59) rfl dX7_lasts_59 ?_ ?_
          · rw [lsF, if_pos hb]; exact h2
          · rfl
    · obtain ⟨M2, h3, s2⟩ := ih N (dayF T U q) (ij + Int32.ofInt 1) (i + 1) (s1.tn hT) (s1.un hU) p1 (by show q.2.2 + 1 + f < 2 ^ 29; omega) (z_n1 h2) (by omega)
      refine ⟨M2, ?_, s1.tr s2⟩
      rw [lsF, if_neg hb]
      refine z_iload_n (pc := 32) dX7_lasts_32 rfl ?_
      refine z_bipush (pc := 33) (v := 21) dX7_lasts_33 (by decide) ?_
      refine z_icmp_ge (pc := 35) (tgt := 66) dX7_lasts_35 (by decide) (fun h35 => ?_) (fun h35 => ?_)
      · exact absurd (z_ge h35 h2 (show (21 : Int32) = nI 21 from rfl) (by omega) (by omega)) (by omega)
      · refine z_aload_n (pc := 38) dX7_lasts_38 rfl ?_
        refine z_iconst (pc := 39) (v := 1) dX7_lasts_39 (by decide) ?_
        refine z_cV1 (pc := 40) c1 (q_cX7_159 _ (by decide)) z_s59 rfl rfl dX7_lasts_40 ?_
        refine z_pop (pc := 43) dX7_lasts_43 rfl ?_
        refine z_aload_n (pc := 44) dX7_lasts_44 rfl ?_
        refine z_getR (pc := 45) 68 q_fX7_34 z_s59 rfl dX7_lasts_45 ?_
        refine z_bipush (pc := 48) (v := 9) dX7_lasts_48 (by decide) ?_
        refine z_iald (pc := 50) (9) z_s68 ⟨rfl, by omega⟩ dX7_lasts_50 ?_
        refine z_iload_n (pc := 51) dX7_lasts_51 rfl ?_
        refine z_cS2 (pc := 52) (c_X7_has hx (by omega)) (q_cX7_119 _ (by decide)) rfl dX7_lasts_52 ?_
        refine z_if_eq (pc := 55) (tgt := 60) dX7_lasts_55 (by decide) (fun h55 => ?_) (fun h55 => ?_)
        · refine z_iinc (pc := 60) dX7_lasts_60 rfl rfl rfl (by decide) ?_
          refine z_goto (pc := 63) (tgt := 32) dX7_lasts_63 (by decide) ?_
          exact h3
        · rw [e9, if_neg hb] at h55; exact absurd rfl h55
set_option maxRecDepth 100000 in
set_option maxHeartbeats 400000 in
theorem o_X7_lasts {M : z_Mem} {l : Nat → Int32} {n : Nat} {T : TT} {U : UT} {D : DT} {p : PLt} {A : List PLt} {k0 k1 : Option PLt} {L : List (Int32 × Int32)} {sd : Int64} (hR : RM M l n T U D p A k0 k1 L sd) (hd : p.2.2 < 2 ^ 28) {x : Int32} (h : pnB x T.1 = true) (hb : bt p.1 x.toNatClampNeg = false) : ∃ M1, z_Ct mX7_lasts [.ref 59, .int x] M (some (.int (lsF T U x.toNatClampNeg 20 1 p))) M1 ∧ RM M1 l n T U D p A k0 k1 L sd ∧ Fm M M1 := by
  obtain ⟨rS, rT, rU, rD, rp, rA, r0, r1, rL, rs⟩ := id hR
  obtain ⟨N, c0, p0, s0⟩ := c_X7_layTrial rp
  have t0 := s0.tn rT
  have u0 := s0.un rU
  have hP7 := rT.2.1
  have hx := pnB_at hP7 h
  have e0 : M.1 68 0 = p.1 := rp.1
  obtain ⟨M2, h3, s2⟩ := s_X7_lasts_32 hx.2 (by omega) 20 N p 1 1 t0 u0 p0 (by omega) rfl (by omega)
  refine ⟨M2, ?_, RM_th hR (s0.tr s2), (s0.tr s2).1.fm (by simp)⟩
  refine z_entry (by decide +kernel) (Nat.le_of_ble_eq_true rfl) rfl ?_
  show z_Sm mX7_lasts _ _ 0 [some (.ref 59), some (.int x), none] [] M
  refine z_aload_n (pc := 0) dX7_lasts_0 rfl ?_
  refine z_iload_n (pc := 1) dX7_lasts_1 rfl ?_
  refine z_cV1 (pc := 2) (c_X7_isPin rT) (q_cX7_146 _ (by decide)) z_s59 rfl rfl dX7_lasts_2 ?_
  refine z_if_ne (pc := 5) (tgt := 10) dX7_lasts_5 (by decide) (fun h5 => ?_) (fun h5 => ?_)
  · refine z_aload_n (pc := 10) dX7_lasts_10 rfl ?_
    refine z_getR (pc := 11) 68 q_fX7_34 z_s59 rfl dX7_lasts_11 ?_
    refine z_iconst (pc := 14) (v := 0) dX7_lasts_14 (by decide) ?_
    refine z_iald (pc := 15) (0) z_s68 ⟨rfl, by omega⟩ dX7_lasts_15 ?_
    refine z_iload_n (pc := 16) dX7_lasts_16 rfl ?_
    refine z_cS2 (pc := 17) (c_X7_has hx.2 (by omega)) (q_cX7_119 _ (by decide)) rfl dX7_lasts_17 ?_
    refine z_if_eq (pc := 20) (tgt := 26) dX7_lasts_20 (by decide) (fun h20 => ?_) (fun h20 => ?_)
    · refine z_aload_n (pc := 26) dX7_lasts_26 rfl ?_
      refine z_cV0v (pc := 27) c0 (q_cX7_174 _ (by decide)) z_s59 rfl rfl dX7_lasts_27 ?_
      refine z_iconst (pc := 30) (v := 1) dX7_lasts_30 (by decide) ?_
      refine z_istore_n (pc := 31) dX7_lasts_31 rfl (by decide) ?_
      exact h3
    · rw [e0, hb] at h20; exact absurd rfl h20
  · rw [h] at h5; exact absurd h5 (by decide)
set_option maxRecDepth 100000 in
set_option maxHeartbeats 400000 in
theorem o_X7_chain {M : z_Mem} {l : Nat → Int32} {n : Nat} {T : TT} {U : UT} {D : DT} {p : PLt} {A : List PLt} {k0 k1 : Option PLt} {L : List (Int32 × Int32)} {sd : Int64} (hR : RM M l n T U D p A k0 k1 L sd) {x : Int32} (h : pnB x T.1 = true) (hb : bt p.1 x.toNatClampNeg = false) : ∃ M1, z_Ct mX7_chain [.ref 59, .int x] M (some (.int (chF T p x.toNatClampNeg))) M1 ∧ RM M1 l n T U D p A k0 k1 L sd ∧ Fm M M1 := by
  obtain ⟨rS, rT, rU, rD, rp, rA, r0, r1, rL, rs⟩ := id hR
  obtain ⟨N, c0, p0, s0⟩ := c_X7_layTrial rp
  have t0 := s0.tn rT
  have u0 := s0.un rU
  have hP7 := rT.2.1
  have hx := pnB_at hP7 h
  have e0 : M.1 68 0 = p.1 := rp.1
  have sa : Sn 1 N (z_set N 68 9 (p.1 ||| em x.toNatClampNeg)) := Sn.s68 _ ⟨by omega, by omega⟩
  have pa : PM (z_set N 68 9 (p.1 ||| em x.toNatClampNeg)) 1 (p.1 ||| em x.toNatClampNeg, p.2.1, p.2.2) := ⟨zs_1 _ _ _ _, fun k hk => by rw [z_set, z_row_1, upd_n _ _ (by omega)]; exact p0.2.1 k hk, by rw [z_set, z_row_1, upd_n _ _ (by omega)]; exact p0.2.2⟩
  have e9 : N.1 68 9 = p.1 := p0.1
  have em' : (1 : Int32) <<< (x &&& 31) = em x.toNatClampNeg := by
    rw [hx.2, nI_clamp (by omega)]; rfl
  generalize hN1 : z_set N 68 9 (p.1 ||| em x.toNatClampNeg) = N1 at sa pa
  have sb : Sn 1 N1 (z_row N1 73 (cpF 6 (fun _ => 0) (N1.1 73))) := Sn.l73 _
  have pb := pa.l73 (cpF 6 (fun _ => 0) (N1.1 73))
  have eb : ∀ k, k < 6 → (z_row N1 73 (cpF 6 (fun _ => 0) (N1.1 73))).1 73 k = 0 := fun k hk => by rw [z_row_1, cpF, if_pos hk]
  have cb := c_X7_unload (M := N1)
  generalize z_row N1 73 (cpF 6 (fun _ => 0) (N1.1 73)) = N2 at sb pb eb cb
  have t2 := sb.tn (sa.tn t0)
  obtain ⟨ha, hbb, ha6, hb6, -⟩ := t2.2.2 _ hx.1
  have sc : Sn 1 N2 (z_set (z_set N2 73 (T.2.1 x.toNatClampNeg) 1) 73 (T.2.2.1 x.toNatClampNeg) 1) := (Sn.l73 _).tr (Sn.l73 _)
  obtain ⟨M2, c3, p3, s3, -⟩ := c_X7_ping_p (sc.tn t2) (lv := 1) (by decide) ((pb.l73 _).l73 _) (K := chL T x.toNatClampNeg) (fun k hk => by
    rw [z_set, z_row_1, z_set, z_row_1, chL]
    unfold upd
    split
    · rfl
    · split
      · rfl
      · exact eb k hk)
  have s2 : Sn 1 N M2 := ((sa.tr sb).tr sc).tr s3
  have e3 : M2.1 68 0 = p.1 := by rw [(s0.tr s2).2 0 (by omega)]; exact e0
  refine ⟨M2, ?_, RM_th hR (s0.tr s2), (s0.tr s2).1.fm (by simp)⟩
  refine z_entry (by decide +kernel) (Nat.le_of_ble_eq_true rfl) rfl ?_
  show z_Sm mX7_chain _ _ 0 [some (.ref 59), some (.int x)] [] M
  refine z_aload_n (pc := 0) dX7_chain_0 rfl ?_
  refine z_iload_n (pc := 1) dX7_chain_1 rfl ?_
  refine z_cV1 (pc := 2) (c_X7_isPin rT) (q_cX7_146 _ (by decide)) z_s59 rfl rfl dX7_chain_2 ?_
  refine z_if_ne (pc := 5) (tgt := 10) dX7_chain_5 (by decide) (fun h5 => ?_) (fun h5 => ?_)
  · refine z_aload_n (pc := 10) dX7_chain_10 rfl ?_
    refine z_getR (pc := 11) 68 q_fX7_34 z_s59 rfl dX7_chain_11 ?_
    refine z_iconst (pc := 14) (v := 0) dX7_chain_14 (by decide) ?_
    refine z_iald (pc := 15) (0) z_s68 ⟨rfl, by omega⟩ dX7_chain_15 ?_
    refine z_iload_n (pc := 16) dX7_chain_16 rfl ?_
    refine z_cS2 (pc := 17) (c_X7_has hx.2 (by omega)) (q_cX7_119 _ (by decide)) rfl dX7_chain_17 ?_
    refine z_if_eq (pc := 20) (tgt := 26) dX7_chain_20 (by decide) (fun h20 => ?_) (fun h20 => ?_)
    · refine z_aload_n (pc := 26) dX7_chain_26 rfl ?_
      refine z_cV0v (pc := 27) c0 (q_cX7_174 _ (by decide)) z_s59 rfl rfl dX7_chain_27 ?_
      refine z_aload_n (pc := 30) dX7_chain_30 rfl ?_
      refine z_getR (pc := 31) 68 q_fX7_34 z_s59 rfl dX7_chain_31 ?_
      refine z_bipush (pc := 34) (v := 9) dX7_chain_34 (by decide) ?_
      refine z_dup2 (pc := 36) dX7_chain_36 rfl rfl ?_
      refine z_iald (pc := 37) (9) z_s68 ⟨rfl, by omega⟩ dX7_chain_37 ?_
      refine z_iconst (pc := 38) (v := 1) dX7_chain_38 (by decide) ?_
      refine z_iload_n (pc := 39) dX7_chain_39 rfl ?_
      refine z_ishl (pc := 40) dX7_chain_40 ?_
      refine z_ior (pc := 41) dX7_chain_41 ?_
      refine z_iast (pc := 42) (9) z_s68 ⟨rfl, by omega⟩ dX7_chain_42 ?_
      rw [e9, em', hN1]
      refine z_aload_n (pc := 43) dX7_chain_43 rfl ?_
      refine z_cV0v (pc := 44) cb (q_cX7_140 _ (by decide)) z_s59 rfl rfl dX7_chain_44 ?_
      refine z_aload_n (pc := 47) dX7_chain_47 rfl ?_
      refine z_getR (pc := 48) 73 q_fX7_49 z_s59 rfl dX7_chain_48 ?_
      refine z_aload_n (pc := 51) dX7_chain_51 rfl ?_
      refine z_getR (pc := 52) 60 q_fX7_7 z_s59 rfl dX7_chain_52 ?_
      refine z_iload_n (pc := 55) dX7_chain_55 rfl ?_
      refine z_iald (pc := 56) (x.toNatClampNeg) z_s60 ⟨hx.2, by omega⟩ dX7_chain_56 ?_
      refine z_iconst (pc := 57) (v := 1) dX7_chain_57 (by decide) ?_
      refine z_iast (pc := 58) (T.2.1 x.toNatClampNeg) z_s73 ⟨ha, by omega⟩ dX7_chain_58 ?_
      refine z_aload_n (pc := 59) dX7_chain_59 rfl ?_
      refine z_getR (pc := 60) 73 q_fX7_49 z_s59 rfl dX7_chain_60 ?_
      refine z_aload_n (pc := 63) dX7_chain_63 rfl ?_
      refine z_getR (pc := 64) 61 q_fX7_13 z_s59 rfl dX7_chain_64 ?_
      refine z_iload_n (pc := 67) dX7_chain_67 rfl ?_
      refine z_iald (pc := 68) (x.toNatClampNeg) z_s61 ⟨hx.2, by omega⟩ dX7_chain_68 ?_
      refine z_iconst (pc := 69) (v := 1) dX7_chain_69 (by decide) ?_
      refine z_iast (pc := 70) (T.2.2.1 x.toNatClampNeg) z_s73 ⟨hbb, by omega⟩ dX7_chain_70 ?_
      refine z_aload_n (pc := 71) dX7_chain_71 rfl ?_
      refine z_iconst (pc := 72) (v := 1) dX7_chain_72 (by decide) ?_
      refine z_cV1 (pc := 73) c3 (q_cX7_143 _ (by decide)) z_s59 rfl rfl dX7_chain_73 ?_
      refine z_pop (pc := 76) dX7_chain_76 rfl ?_
      refine z_aload_n (pc := 77) dX7_chain_77 rfl ?_
      refine z_getR (pc := 78) 68 q_fX7_34 z_s59 rfl dX7_chain_78 ?_
      refine z_bipush (pc := 81) (v := 9) dX7_chain_81 (by decide) ?_
      refine z_iald (pc := 83) (9) z_s68 ⟨rfl, by omega⟩ dX7_chain_83 ?_
      refine z_aload_n (pc := 84) dX7_chain_84 rfl ?_
      refine z_getR (pc := 85) 68 q_fX7_34 z_s59 rfl dX7_chain_85 ?_
      refine z_iconst (pc := 88) (v := 0) dX7_chain_88 (by decide) ?_
      refine z_iald (pc := 89) (0) z_s68 ⟨rfl, by omega⟩ dX7_chain_89 ?_
      refine z_iconst (pc := 90) (v := (-1)) dX7_chain_90 (by decide) ?_
      refine z_ixor (pc := 91) dX7_chain_91 ?_
      refine z_iand (pc := 92) dX7_chain_92 ?_
      refine z_iret (pc := 93) rfl dX7_chain_93 ?_ ?_
      · rw [e3, show M2.1 68 9 = _ from p3.1]; rfl
      · rfl
    · rw [e0, hb] at h20; exact absurd rfl h20
  · rw [h] at h5; exact absurd h5 (by decide)
