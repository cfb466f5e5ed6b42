theorem Se.tn {M N : z_Mem} {T : TT} (s : Se M N) (h : TN M T) : TN N T := by
  unfold TN
  rw [s.2.1 0 (by decide) (by decide), s.1 60 (by decide) (by decide), s.1 61 (by decide) (by decide), s.1 62 (by decide) (by decide), s.1 63 (by decide) (by decide)]
  exact h
theorem Se.un {M N : z_Mem} {U : UT} (s : Se M N) (h : UN M U) : UN N U := by
  unfold UN
  rw [s.2.1 1 (by decide) (by decide), s.1 64 (by decide) (by decide), s.1 65 (by decide) (by decide)]
  exact h
theorem Se.pm {M N : z_Mem} {p : PLt} (s : Se M N) (h : PM M 0 p) : PM N 0 p := by
  unfold PM
  rw [s.1 68 (by decide) (by decide)]
  exact h
/-- an act: the ring, then the plight that is -/
theorem RM_act {M N1 N2 : z_Mem} {l : Nat → Int32} {n : Nat} {T : TT} {U : UT} {D : DT} {p q : PLt} {A B : List PLt} {k0 k1 : Option PLt} {L : List (Int32 × Int32)} {sd : Int64} (h : RM M l n T U D p A k0 k1 L sd) (s1 : Se M N1) (a1 : AN N1 B) (s2 : Sn 0 N1 N2) (hq : PM N2 0 q) : RM N2 l n T U D q B k0 k1 L sd ∧ Fm M N2 := by
  obtain ⟨h1, h2, h3, h4, h5, h6, h7, h8, h9, h10⟩ := h
  have e : ∀ i, i ≠ 59 → i ≠ 74 → i ≠ 68 → i ≠ 73 → N2.1 i = M.1 i := fun i a b c d => (s2.1.1 i (by simp [c, d])).trans (s1.1 i a b)
  have f : ∀ k, k ≠ 23 → k ≠ 24 → N2.1 59 k = M.1 59 k := fun k a b => by rw [s2.1.1 59 (by simp)]; exact s1.2.1 k a b
  refine ⟨⟨?_, s2.tn (s1.tn h2), s2.un (s1.un h3), ?_, hq, AN_cong a1 (by rw [s2.1.1 59 (by simp)]) (by rw [s2.1.1 59 (by simp)]) (s2.1.1 74 (by simp)), KN_cong h7 (by rw [e 77 (by decide) (by decide) (by decide) (by decide)]) (fun j _ => by rw [e 78 (by decide) (by decide) (by decide) (by decide)]), KN_cong h8 (by rw [e 77 (by decide) (by decide) (by decide) (by decide)]) (fun j _ => by rw [e 78 (by decide) (by decide) (by decide) (by decide)]), ?_, by rw [s2.1.2, s1.2.2]; exact h10⟩, fun i hi => ⟨e i (by omega) (by omega) (by omega) (by omega), by rw [s2.1.2, s1.2.2]⟩⟩
  · unfold SN
    rw [f 19 (by decide) (by decide), e 72 (by decide) (by decide) (by decide) (by decide)]
    exact h1
  · unfold DN
    rw [f 2 (by decide) (by decide), e 66 (by decide) (by decide) (by decide) (by decide), e 67 (by decide) (by decide) (by decide) (by decide)]
    exact h4
  · unfold LN
    rw [f 26 (by decide) (by decide), e 75 (by decide) (by decide) (by decide) (by decide), e 76 (by decide) (by decide) (by decide) (by decide)]
    exact h9
set_option maxRecDepth 100000 in
set_option maxHeartbeats 400000 in
theorem o_X7_day {M : z_Mem} {l : Nat → Int32} {n : Nat} {T : TT} {U : UT} {D : DT} {p : PLt} {A : List PLt} {k0 k1 : Option PLt} {L : List (Int32 × Int32)} {sd : Int64} (hR : RM M l n T U D p A k0 k1 L sd) (hd : p.2.2 < 2 ^ 29) : ∃ M1, z_Ct mX7_day [.ref 59] M (some (.int (pgR (dyO T p) (dayF T U p).1))) M1 ∧ RM M1 l n T U D (dayF T U p) ((p :: A).take 14) k0 k1 L sd ∧ Fm M M1 := by
  obtain ⟨rS, rT, rU, rD, rp, rA, r0, r1, rL, rs⟩ := id hR
  obtain ⟨N1, c1, a1, s1⟩ := c_X7_keepAct rA rp
  have t1 := s1.tn rT
  have u1 := s1.un rU
  have p1 := s1.pm rp
  obtain ⟨N2, c2, p2, s2⟩ := c_X7_passOn t1 u1 (lv := 0) (by decide) p1 hd
  refine ⟨N2, ?_, RM_act hR s1 a1 s2 p2⟩
  · refine z_entry (by decide +kernel) (Nat.le_of_ble_eq_true rfl) rfl ?_
    show z_Sm mX7_day _ _ 0 [some (.ref 59)] [] M
    refine z_aload_n (pc := 0) dX7_day_0 rfl ?_
    refine z_cV0v (pc := 1) c1 (q_cX7_156 _ (by decide)) z_s59 rfl rfl dX7_day_1 ?_
    refine z_aload_n (pc := 4) dX7_day_4 rfl ?_
    refine z_iconst (pc := 5) (v := 0) dX7_day_5 (by decide) ?_
    refine z_cV1 (pc := 6) c2 (q_cX7_159 _ (by decide)) z_s59 rfl rfl dX7_day_6 ?_
    refine z_iret (pc := 9) rfl dX7_day_9 ?_ ?_
    · rfl
    · rfl
set_option maxRecDepth 100000 in
set_option maxHeartbeats 400000 in
theorem o_X7_tug {M : z_Mem} {l : Nat → Int32} {n : Nat} {T : TT} {U : UT} {D : DT} {p : PLt} {A : List PLt} {k0 k1 : Option PLt} {L : List (Int32 × Int32)} {sd : Int64} (hR : RM M l n T U D p A k0 k1 L sd) {x y : Int32} (h : thg x = true) (hy : ¬ (y < 1 ∨ 9 < y)) : ∃ M1, z_Ct mX7_tug [.ref 59, .int x, .int y] M (some (.int (pgR p.1 (tugF T p x.toNatClampNeg y).1))) M1 ∧ RM M1 l n T U D (tugF T p x.toNatClampNeg y) ((p :: A).take 14) k0 k1 L sd ∧ Fm M M1 := by
  obtain ⟨rS, rT, rU, rD, rp, rA, r0, r1, rL, rs⟩ := id hR
  have hx := thg_at h
  obtain ⟨N1, c1, a1, s1⟩ := c_X7_keepAct rA rp
  have t1 := s1.tn rT
  have u1 := s1.un rU
  have p1 := s1.pm rp
  obtain ⟨N2, c2, p2, s2⟩ := c_X7_tugOn t1 (lv := 0) (by decide) p1 (n := y) hx.2 hx.1
  have hin : inB y.toInt64 1 9 = true := by
    rw [inB_i 1 9 (by decide) (by decide), decide_eq_false (fun q => hy (Or.inl q)), decide_eq_false (fun q => hy (Or.inr q))]; rfl
  refine ⟨N2, ?_, RM_act hR s1 a1 s2 p2⟩
  · refine z_entry (by decide +kernel) (Nat.le_of_ble_eq_true rfl) rfl ?_
    show z_Sm mX7_tug _ _ 0 [some (.ref 59), some (.int x), some (.int y)] [] M
    refine z_iload_n (pc := 0) dX7_tug_0 rfl ?_
    refine z_cS1 (pc := 1) c_X7_isThing (q_cX7_150 _ (by decide)) rfl dX7_tug_1 ?_
    refine z_if_ne (pc := 4) (tgt := 9) dX7_tug_4 (by decide) (fun h4 => ?_) (fun h4 => ?_)
    · refine z_iload_n (pc := 9) dX7_tug_9 rfl ?_
      refine z_i2l (pc := 10) dX7_tug_10 rfl ?_
      refine z_lconst (pc := 11) (v := 1) dX7_tug_11 (by decide) ?_
      refine z_ldc2 (pc := 12) q_kX7_162 dX7_tug_12 ?_
      refine z_cS3 (pc := 15) c_X7_in (q_cX7_70 _ (by decide)) rfl dX7_tug_15 ?_
      refine z_if_ne (pc := 18) (tgt := 24) dX7_tug_18 (by decide) (fun h18 => ?_) (fun h18 => ?_)
      · refine z_aload_n (pc := 24) dX7_tug_24 rfl ?_
        refine z_cV0v (pc := 25) c1 (q_cX7_156 _ (by decide)) z_s59 rfl rfl dX7_tug_25 ?_
        refine z_aload_n (pc := 28) dX7_tug_28 rfl ?_
        refine z_iconst (pc := 29) (v := 0) dX7_tug_29 (by decide) ?_
        refine z_iload_n (pc := 30) dX7_tug_30 rfl ?_
        refine z_iload_n (pc := 31) dX7_tug_31 rfl ?_
        refine z_cV3 (pc := 32) c2 (q_cX7_164 _ (by decide)) z_s59 rfl rfl dX7_tug_32 ?_
        refine z_iret (pc := 35) rfl dX7_tug_35 ?_ ?_
        · rfl
        · rfl
      · rw [hin] at h18; exact absurd h18 (by decide)
    · rw [h] at h4; exact absurd h4 (by decide)
set_option maxRecDepth 100000 in
set_option maxHeartbeats 400000 in
theorem o_X7_tug_no {M : z_Mem} {l : Nat → Int32} {n : Nat} {T : TT} {U : UT} {D : DT} {p : PLt} {A : List PLt} {k0 k1 : Option PLt} {L : List (Int32 × Int32)} {sd : Int64} (hR : RM M l n T U D p A k0 k1 L sd) {x y : Int32} (h : thg x = false ∨ y < 1 ∨ 9 < y) : z_Ct mX7_tug [.ref 59, .int x, .int y] M (some (.int (if thg x then -2 else -1))) M := by
  obtain ⟨rS, rT, rU, rD, rp, rA, r0, r1, rL, rs⟩ := id hR
  have hin : thg x = true → inB y.toInt64 1 9 = false := fun hx => by
    rw [inB_i 1 9 (by decide) (by decide)]
    rcases h with h | h | h
    · rw [hx] at h; cases h
    · rw [decide_eq_true h]; rfl
    · rw [decide_eq_true h]
      cases decide (y < 1) <;> rfl

  refine z_entry (by decide +kernel) (Nat.le_of_ble_eq_true rfl) rfl ?_
  show z_Sm mX7_tug _ _ 0 [some (.ref 59), some (.int x), some (.int y)] [] M
  refine z_iload_n (pc := 0) dX7_tug_0 rfl ?_
  refine z_cS1 (pc := 1) c_X7_isThing (q_cX7_150 _ (by decide)) rfl dX7_tug_1 ?_
  refine z_if_ne (pc := 4) (tgt := 9) dX7_tug_4 (by decide) (fun h4 => ?_) (fun h4 => ?_)
  · refine z_iload_n (pc := 9) dX7_tug_9 rfl ?_
    refine z_i2l (pc := 10) dX7_tug_10 rfl ?_
    refine z_lconst (pc := 11) (v := 1) dX7_tug_11 (by decide) ?_
    refine z_ldc2 (pc := 12) q_kX7_162 dX7_tug_12 ?_
    refine z_cS3 (pc := 15) c_X7_in (q_cX7_70 _ (by decide)) rfl dX7_tug_15 ?_
    refine z_if_ne (pc := 18) (tgt := 24) dX7_tug_18 (by decide) (fun h18 => ?_) (fun h18 => ?_)
    · have h4 := z_t h4
      rw [hin h4] at h18; exact absurd rfl h18
    · refine z_bipush (pc := 21) (v := (-2)) dX7_tug_21 (by decide) ?_
      refine z_iret (pc := 23) rfl dX7_tug_23 ?_ ?_
      · have h4 := z_t h4
        rw [h4]; rfl
      · rfl
  · refine z_iconst (pc := 7) (v := (-1)) dX7_tug_7 (by decide) ?_
    refine z_iret (pc := 8) rfl dX7_tug_8 ?_ ?_
    · have h4 := z_f h4
      rw [h4]; rfl
    · rfl
set_option maxRecDepth 100000 in
set_option maxHeartbeats 400000 in
theorem o_X7_shut_no1 {M : z_Mem} {l : Nat → Int32} {n : Nat} {T : TT} {U : UT} {D : DT} {p : PLt} {A : List PLt} {k0 k1 : Option PLt} {L : List (Int32 × Int32)} {sd : Int64} (hR : RM M l n T U D p A k0 k1 L sd) {x : Int32} (h : pnB x T.1 = false) : z_Ct mX7_shut [.ref 59, .int x] M (some (.int (-1))) M := by
  obtain ⟨rS, rT, rU, rD, rp, rA, r0, r1, rL, rs⟩ := id hR

  refine z_entry (by decide +kernel) (Nat.le_of_ble_eq_true rfl) rfl ?_
  show z_Sm mX7_shut _ _ 0 [some (.ref 59), some (.int x)] [] M
  refine z_aload_n (pc := 0) dX7_shut_0 rfl ?_
  refine z_iload_n (pc := 1) dX7_shut_1 rfl ?_
  refine z_cV1 (pc := 2) (c_X7_isPin rT) (q_cX7_146 _ (by decide)) z_s59 rfl rfl dX7_shut_2 ?_
  refine z_if_ne (pc := 5) (tgt := 10) dX7_shut_5 (by decide) (fun h5 => ?_) (fun h5 => ?_)
  · rw [h] at h5; exact absurd rfl h5
  · refine z_iconst (pc := 8) (v := (-1)) dX7_shut_8 (by decide) ?_
    refine z_iret (pc := 9) rfl dX7_shut_9 ?_ ?_
    · rfl
    · rfl
set_option maxRecDepth 100000 in
set_option maxHeartbeats 400000 in
theorem o_X7_shut_no2 {M : z_Mem} {l : Nat → Int32} {n : Nat} {T : TT} {U : UT} {D : DT} {p : PLt} {A : List PLt} {k0 k1 : Option PLt} {L : List (Int32 × Int32)} {sd : Int64} (hR : RM M l n T U D p A k0 k1 L sd) {x : Int32} (h : pnB x T.1 = true) (hb : bt p.1 x.toNatClampNeg = false) : z_Ct mX7_shut [.ref 59, .int x] M (some (.int (-3))) M := by
  obtain ⟨rS, rT, rU, rD, rp, rA, r0, r1, rL, rs⟩ := id hR
  have hP7 := rT.2.1
  have hx := pnB_at hP7 h

  refine z_entry (by decide +kernel) (Nat.le_of_ble_eq_true rfl) rfl ?_
  show z_Sm mX7_shut _ _ 0 [some (.ref 59), some (.int x)] [] M
  refine z_aload_n (pc := 0) dX7_shut_0 rfl ?_
  refine z_iload_n (pc := 1) dX7_shut_1 rfl ?_
  refine z_cV1 (pc := 2) (c_X7_isPin rT) (q_cX7_146 _ (by decide)) z_s59 rfl rfl dX7_shut_2 ?_
  refine z_if_ne (pc := 5) (tgt := 10) dX7_shut_5 (by decide) (fun h5 => ?_) (fun h5 => ?_)
  · refine z_aload_n (pc := 10) dX7_shut_10 rfl ?_
    refine z_getR (pc := 11) 68 q_fX7_34 z_s59 rfl dX7_shut_11 ?_
    refine z_iconst (pc := 14) (v := 0) dX7_shut_14 (by decide) ?_
    refine z_iald (pc := 15) (0) z_s68 ⟨rfl, by omega⟩ dX7_shut_15 ?_
    refine z_iload_n (pc := 16) dX7_shut_16 rfl ?_
    refine z_cS2 (pc := 17) (c_X7_has hx.2 (by omega)) (q_cX7_119 _ (by decide)) rfl dX7_shut_17 ?_
    refine z_if_ne (pc := 20) (tgt := 26) dX7_shut_20 (by decide) (fun h20 => ?_) (fun h20 => ?_)
    · rw [show M.1 68 0 = p.1 from rp.1, hb] at h20; exact absurd rfl h20
    · refine z_bipush (pc := 23) (v := (-3)) dX7_shut_23 (by decide) ?_
      refine z_iret (pc := 25) rfl dX7_shut_25 ?_ ?_
      · rfl
      · rfl
  · rw [h] at h5; exact absurd h5 (by decide)
set_option maxRecDepth 100000 in
set_option maxHeartbeats 400000 in
theorem o_X7_open_no1 {M : z_Mem} {l : Nat → Int32} {n : Nat} {T : TT} {U : UT} {D : DT} {p : PLt} {A : List PLt} {k0 k1 : Option PLt} {L : List (Int32 × Int32)} {sd : Int64} (hR : RM M l n T U D p A k0 k1 L sd) {x : Int32} (h : pnB x T.1 = false) : z_Ct mX7_open [.ref 59, .int x] M (some (.int (-1))) M := by
  obtain ⟨rS, rT, rU, rD, rp, rA, r0, r1, rL, rs⟩ := id hR

  refine z_entry (by decide +kernel) (Nat.le_of_ble_eq_true rfl) rfl ?_
  show z_Sm mX7_open _ _ 0 [some (.ref 59), some (.int x)] [] M
  refine z_aload_n (pc := 0) dX7_open_0 rfl ?_
  refine z_iload_n (pc := 1) dX7_open_1 rfl ?_
  refine z_cV1 (pc := 2) (c_X7_isPin rT) (q_cX7_146 _ (by decide)) z_s59 rfl rfl dX7_open_2 ?_
  refine z_if_ne (pc := 5) (tgt := 10) dX7_open_5 (by decide) (fun h5 => ?_) (fun h5 => ?_)
  · rw [h] at h5; exact absurd rfl h5
  · refine z_iconst (pc := 8) (v := (-1)) dX7_open_8 (by decide) ?_
    refine z_iret (pc := 9) rfl dX7_open_9 ?_ ?_
    · rfl
    · rfl
set_option maxRecDepth 100000 in
set_option maxHeartbeats 400000 in
theorem o_X7_open_no2 {M : z_Mem} {l : Nat → Int32} {n : Nat} {T : TT} {U : UT} {D : DT} {p : PLt} {A : List PLt} {k0 k1 : Option PLt} {L : List (Int32 × Int32)} {sd : Int64} (hR : RM M l n T U D p A k0 k1 L sd) {x : Int32} (h : pnB x T.1 = true) (hb : bt p.1 x.toNatClampNeg = true) : z_Ct mX7_open [.ref 59, .int x] M (some (.int (-3))) M := by
  obtain ⟨rS, rT, rU, rD, rp, rA, r0, r1, rL, rs⟩ := id hR
  have hP7 := rT.2.1
  have hx := pnB_at hP7 h

  refine z_entry (by decide +kernel) (Nat.le_of_ble_eq_true rfl) rfl ?_
  show z_Sm mX7_open _ _ 0 [some (.ref 59), some (.int x)] [] M
  refine z_aload_n (pc := 0) dX7_open_0 rfl ?_
  refine z_iload_n (pc := 1) dX7_open_1 rfl ?_
  refine z_cV1 (pc := 2) (c_X7_isPin rT) (q_cX7_146 _ (by decide)) z_s59 rfl rfl dX7_open_2 ?_
  refine z_if_ne (pc := 5) (tgt := 10) dX7_open_5 (by decide) (fun h5 => ?_) (fun h5 => ?_)
  · refine z_aload_n (pc := 10) dX7_open_10 rfl ?_
    refine z_getR (pc := 11) 68 q_fX7_34 z_s59 rfl dX7_open_11 ?_
    refine z_iconst (pc := 14) (v := 0) dX7_open_14 (by decide) ?_
    refine z_iald (pc := 15) (0) z_s68 ⟨rfl, by omega⟩ dX7_open_15 ?_
    refine z_iload_n (pc := 16) dX7_open_16 rfl ?_
    refine z_cS2 (pc := 17) (c_X7_has hx.2 (by omega)) (q_cX7_119 _ (by decide)) rfl dX7_open_17 ?_
    refine z_if_eq (pc := 20) (tgt := 26) dX7_open_20 (by decide) (fun h20 => ?_) (fun h20 => ?_)
    · rw [show M.1 68 0 = p.1 from rp.1, hb] at h20; exact absurd h20 (by decide)
    · refine z_bipush (pc := 23) (v := (-3)) dX7_open_23 (by decide) ?_
      refine z_iret (pc := 25) rfl dX7_open_25 ?_ ?_
      · rfl
      · rfl
  · rw [h] at h5; exact absurd h5 (by decide)
set_option maxRecDepth 100000 in
set_option maxHeartbeats 400000 in
theorem o_X7_lasts_no1 {M : z_Mem} {l : Nat → Int32} {n : Nat} {T : TT} {U : UT} {D : DT} {p : PLt} {A : List PLt} {k0 k1 : Option PLt} {L : List (Int32 × Int32)} {sd : Int64} (hR : RM M l n T U D p A k0 k1 L sd) {x : Int32} (h : pnB x T.1 = false) : z_Ct mX7_lasts [.ref 59, .int x] M (some (.int (-1))) M := by
  obtain ⟨rS, rT, rU, rD, rp, rA, r0, r1, rL, rs⟩ := id hR

  refine z_entry (by decide +kernel) (Nat.le_of_ble_eq_true rfl) rfl ?_
  show z_Sm mX7_lasts _ _ 0 [some (.ref 59), some (.int x), none] [] M
  refine z_aload_n (pc := 0) dX7_lasts_0 rfl ?_
  refine z_iload_n (pc := 1) dX7_lasts_1 rfl ?_
  refine z_cV1 (pc := 2) (c_X7_isPin rT) (q_cX7_146 _ (by decide)) z_s59 rfl rfl dX7_lasts_2 ?_
  refine z_if_ne (pc := 5) (tgt := 10) dX7_lasts_5 (by decide) (fun h5 => ?_) (fun h5 => ?_)
  · rw [h] at h5; exact absurd rfl h5
  · refine z_iconst (pc := 8) (v := (-1)) dX7_lasts_8 (by decide) ?_
    refine z_iret (pc := 9) rfl dX7_lasts_9 ?_ ?_
    · rfl
    · rfl
set_option maxRecDepth 100000 in
set_option maxHeartbeats 400000 in
theorem o_X7_lasts_no2 {M : z_Mem} {l : Nat → Int32} {n : Nat} {T : TT} {U : UT} {D : DT} {p : PLt} {A : List PLt} {k0 k1 : Option PLt} {L : List (Int32 × Int32)} {sd : Int64} (hR : RM M l n T U D p A k0 k1 L sd) {x : Int32} (h : pnB x T.1 = true) (hb : bt p.1 x.toNatClampNeg = true) : z_Ct mX7_lasts [.ref 59, .int x] M (some (.int (-3))) M := by
  obtain ⟨rS, rT, rU, rD, rp, rA, r0, r1, rL, rs⟩ := id hR
  have hP7 := rT.2.1
  have hx := pnB_at hP7 h

  refine z_entry (by decide +kernel) (Nat.le_of_ble_eq_true rfl) rfl ?_
  show z_Sm mX7_lasts _ _ 0 [some (.ref 59), some (.int x), none] [] M
  refine z_aload_n (pc := 0) dX7_lasts_0 rfl ?_
  refine z_iload_n (pc := 1) dX7_lasts_1 rfl ?_
  refine z_cV1 (pc := 2) (c_X7_isPin rT) (q_cX7_146 _ (by decide)) z_s59 rfl rfl dX7_lasts_2 ?_
  refine z_if_ne (pc := 5) (tgt := 10) dX7_lasts_5 (by decide) (fun h5 => ?_) (fun h5 => ?_)
  · refine z_aload_n (pc := 10) dX7_lasts_10 rfl ?_
    refine z_getR (pc := 11) 68 q_fX7_34 z_s59 rfl dX7_lasts_11 ?_
    refine z_iconst (pc := 14) (v := 0) dX7_lasts_14 (by decide) ?_
    refine z_iald (pc := 15) (0) z_s68 ⟨rfl, by omega⟩ dX7_lasts_15 ?_
    refine z_iload_n (pc := 16) dX7_lasts_16 rfl ?_
    refine z_cS2 (pc := 17) (c_X7_has hx.2 (by omega)) (q_cX7_119 _ (by decide)) rfl dX7_lasts_17 ?_
    refine z_if_eq (pc := 20) (tgt := 26) dX7_lasts_20 (by decide) (fun h20 => ?_) (fun h20 => ?_)
    · rw [show M.1 68 0 = p.1 from rp.1, hb] at h20; exact absurd h20 (by decide)
    · refine z_bipush (pc := 23) (v := (-3)) dX7_lasts_23 (by decide) ?_
      refine z_iret (pc := 25) rfl dX7_lasts_25 ?_ ?_
      · rfl
      · rfl
  · rw [h] at h5; exact absurd h5 (by decide)
set_option maxRecDepth 100000 in
set_option maxHeartbeats 400000 in
theorem o_X7_chain_no1 {M : z_Mem} {l : Nat → Int32} {n : Nat} {T : TT} {U : UT} {D : DT} {p : PLt} {A : List PLt} {k0 k1 : Option PLt} {L : List (Int32 × Int32)} {sd : Int64} (hR : RM M l n T U D p A k0 k1 L sd) {x : Int32} (h : pnB x T.1 = false) : z_Ct mX7_chain [.ref 59, .int x] M (some (.int (-1))) M := by
  obtain ⟨rS, rT, rU, rD, rp, rA, r0, r1, rL, rs⟩ := id hR

  refine z_entry (by decide +kernel) (Nat.le_of_ble_eq_true rfl) rfl ?_
  show z_Sm mX7_chain _ _ 0 [some (.ref 59), some (.int x)] [] M
  refine z_aload_n (pc := 0) dX7_chain_0 rfl ?_
  refine z_iload_n (pc := 1) dX7_chain_1 rfl ?_
  refine z_cV1 (pc := 2) (c_X7_isPin rT) (q_cX7_146 _ (by decide)) z_s59 rfl rfl dX7_chain_2 ?_
  refine z_if_ne (pc := 5) (tgt := 10) dX7_chain_5 (by decide) (fun h5 => ?_) (fun h5 => ?_)
  · rw [h] at h5; exact absurd rfl h5
  · refine z_iconst (pc := 8) (v := (-1)) dX7_chain_8 (by decide) ?_
    refine z_iret (pc := 9) rfl dX7_chain_9 ?_ ?_
    · rfl
    · rfl
set_option maxRecDepth 100000 in
set_option maxHeartbeats 400000 in
theorem o_X7_chain_no2 {M : z_Mem} {l : Nat → Int32} {n : Nat} {T : TT} {U : UT} {D : DT} {p : PLt} {A : List PLt} {k0 k1 : Option PLt} {L : List (Int32 × Int32)} {sd : Int64} (hR : RM M l n T U D p A k0 k1 L sd) {x : Int32} (h : pnB x T.1 = true) (hb : bt p.1 x.toNatClampNeg = true) : z_Ct mX7_chain [.ref 59, .int x] M (some (.int (-3))) M := by
  obtain ⟨rS, rT, rU, rD, rp, rA, r0, r1, rL, rs⟩ := id hR
  have hP7 := rT.2.1
  have hx := pnB_at hP7 h

  refine z_entry (by decide +kernel) (Nat.le_of_ble_eq_true rfl) rfl ?_
  show z_Sm mX7_chain _ _ 0 [some (.ref 59), some (.int x)] [] M
  refine z_aload_n (pc := 0) dX7_chain_0 rfl ?_
  refine z_iload_n (pc := 1) dX7_chain_1 rfl ?_
  refine z_cV1 (pc := 2) (c_X7_isPin rT) (q_cX7_146 _ (by decide)) z_s59 rfl rfl dX7_chain_2 ?_
  refine z_if_ne (pc := 5) (tgt := 10) dX7_chain_5 (by decide) (fun h5 => ?_) (fun h5 => ?_)
  · refine z_aload_n (pc := 10) dX7_chain_10 rfl ?_
    refine z_getR (pc := 11) 68 q_fX7_34 z_s59 rfl dX7_chain_11 ?_
    refine z_iconst (pc := 14) (v := 0) dX7_chain_14 (by decide) ?_
    refine z_iald (pc := 15) (0) z_s68 ⟨rfl, by omega⟩ dX7_chain_15 ?_
    refine z_iload_n (pc := 16) dX7_chain_16 rfl ?_
    refine z_cS2 (pc := 17) (c_X7_has hx.2 (by omega)) (q_cX7_119 _ (by decide)) rfl dX7_chain_17 ?_
    refine z_if_eq (pc := 20) (tgt := 26) dX7_chain_20 (by decide) (fun h20 => ?_) (fun h20 => ?_)
    · rw [show M.1 68 0 = p.1 from rp.1, hb] at h20; exact absurd h20 (by decide)
    · refine z_bipush (pc := 23) (v := (-3)) dX7_chain_23 (by decide) ?_
      refine z_iret (pc := 25) rfl dX7_chain_25 ?_ ?_
      · rfl
      · rfl
  · rw [h] at h5; exact absurd h5 (by decide)
set_option maxRecDepth 100000 in
set_option maxHeartbeats 400000 in
theorem o_X7_shut {M : z_Mem} {l : Nat → Int32} {n : Nat} {T : TT} {U : UT} {D : DT} {p : PLt} {A : List PLt} {k0 k1 : Option PLt} {L : List (Int32 × Int32)} {sd : Int64} (hR : RM M l n T U D p A k0 k1 L sd) {x : Int32} (h : pnB x T.1 = true) (hb : bt p.1 x.toNatClampNeg = true) : ∃ M1, z_Ct mX7_shut [.ref 59, .int x] M (some (.int (nI (pc 7 (p.1 &&& (em x.toNatClampNeg ^^^ (-1))))))) M1 ∧ RM M1 l n T U D (p.1 &&& (em x.toNatClampNeg ^^^ (-1)), upd p.2.1 x.toNatClampNeg 0, p.2.2) ((p :: A).take 14) k0 k1 L sd ∧ Fm M M1 := by
  obtain ⟨rS, rT, rU, rD, rp, rA, r0, r1, rL, rs⟩ := id hR
  have hP7 := rT.2.1
  have hx := pnB_at hP7 h
  obtain ⟨N1, c1, a1, s1⟩ := c_X7_keepAct rA rp
  have t1 := s1.tn rT
  have u1 := s1.un rU
  have p1 := s1.pm rp
  obtain ⟨N2, c2, p2, s2⟩ := c_X7_shutOn (lv := 0) (by decide) p1 hx.2 (show x.toNatClampNeg < 7 by omega)
  refine ⟨N2, ?_, RM_act hR s1 a1 s2 p2⟩
  · refine z_entry (by decide +kernel) (Nat.le_of_ble_eq_true rfl) rfl ?_
    show z_Sm mX7_shut _ _ 0 [some (.ref 59), some (.int x)] [] M
    refine z_aload_n (pc := 0) dX7_shut_0 rfl ?_
    refine z_iload_n (pc := 1) dX7_shut_1 rfl ?_
    refine z_cV1 (pc := 2) (c_X7_isPin rT) (q_cX7_146 _ (by decide)) z_s59 rfl rfl dX7_shut_2 ?_
    refine z_if_ne (pc := 5) (tgt := 10) dX7_shut_5 (by decide) (fun h5 => ?_) (fun h5 => ?_)
    · refine z_aload_n (pc := 10) dX7_shut_10 rfl ?_
      refine z_getR (pc := 11) 68 q_fX7_34 z_s59 rfl dX7_shut_11 ?_
      refine z_iconst (pc := 14) (v := 0) dX7_shut_14 (by decide) ?_
      refine z_iald (pc := 15) (0) z_s68 ⟨rfl, by omega⟩ dX7_shut_15 ?_
      refine z_iload_n (pc := 16) dX7_shut_16 rfl ?_
      refine z_cS2 (pc := 17) (c_X7_has hx.2 (by omega)) (q_cX7_119 _ (by decide)) rfl dX7_shut_17 ?_
      refine z_if_ne (pc := 20) (tgt := 26) dX7_shut_20 (by decide) (fun h20 => ?_) (fun h20 => ?_)
      · refine z_aload_n (pc := 26) dX7_shut_26 rfl ?_
        refine z_cV0v (pc := 27) c1 (q_cX7_156 _ (by decide)) z_s59 rfl rfl dX7_shut_27 ?_
        refine z_aload_n (pc := 30) dX7_shut_30 rfl ?_
        refine z_iconst (pc := 31) (v := 0) dX7_shut_31 (by decide) ?_
        refine z_iload_n (pc := 32) dX7_shut_32 rfl ?_
        refine z_cV2v (pc := 33) c2 (q_cX7_168 _ (by decide)) z_s59 rfl rfl dX7_shut_33 ?_
        refine z_aload_n (pc := 36) dX7_shut_36 rfl ?_
        refine z_getR (pc := 37) 68 q_fX7_34 z_s59 rfl dX7_shut_37 ?_
        refine z_iconst (pc := 40) (v := 0) dX7_shut_40 (by decide) ?_
        refine z_iald (pc := 41) (0) z_s68 ⟨rfl, by omega⟩ dX7_shut_41 ?_
        refine z_cS1 (pc := 42) c_X7_ones (q_cX7_137 _ (by decide)) rfl dX7_shut_42 ?_
        refine z_iret (pc := 45) rfl dX7_shut_45 ?_ ?_
        · rw [show N2.1 68 0 = _ from p2.1]
        · rfl
      · rw [show M.1 68 0 = p.1 from rp.1, hb] at h20; exact absurd h20 (by decide)
    · rw [h] at h5; exact absurd h5 (by decide)
set_option maxRecDepth 100000 in
set_option maxHeartbeats 400000 in
theorem o_X7_open {M : z_Mem} {l : Nat → Int32} {n : Nat} {T : TT} {U : UT} {D : DT} {p : PLt} {A : List PLt} {k0 k1 : Option PLt} {L : List (Int32 × Int32)} {sd : Int64} (hR : RM M l n T U D p A k0 k1 L sd) {x : Int32} (h : pnB x T.1 = true) (hb : bt p.1 x.toNatClampNeg = false) : ∃ M1, z_Ct mX7_open [.ref 59, .int x] M (some (.int (nI (pc 7 (p.1 ||| em x.toNatClampNeg))))) M1 ∧ RM M1 l n T U D (p.1 ||| em x.toNatClampNeg, p.2.1, p.2.2) ((p :: A).take 14) k0 k1 L sd ∧ Fm M M1 := by
  obtain ⟨rS, rT, rU, rD, rp, rA, r0, r1, rL, rs⟩ := id hR
  have hP7 := rT.2.1
  have hx := pnB_at hP7 h
  obtain ⟨N1, c1, a1, s1⟩ := c_X7_keepAct rA rp
  have t1 := s1.tn rT
  have u1 := s1.un rU
  have p1 := s1.pm rp
  have s2 : Sn 0 N1 (z_set N1 68 0 (p.1 ||| em x.toNatClampNeg)) := Sn.s68 _ ⟨by omega, by omega⟩
  have p2 : PM (z_set N1 68 0 (p.1 ||| em x.toNatClampNeg)) 0 (p.1 ||| em x.toNatClampNeg, p.2.1, p.2.2) := ⟨zs_1 _ _ _ _, fun k hk => by rw [z_set, z_row_1, upd_n _ _ (by omega)]; exact p1.2.1 k hk, by rw [z_set, z_row_1, upd_n _ _ (by omega)]; exact p1.2.2⟩
  refine ⟨z_set N1 68 0 (p.1 ||| em x.toNatClampNeg), ?_, RM_act hR s1 a1 s2 p2⟩
  · refine z_entry (by decide +kernel) (Nat.le_of_ble_eq_true rfl) rfl ?_
    show z_Sm mX7_open _ _ 0 [some (.ref 59), some (.int x)] [] M
    refine z_aload_n (pc := 0) dX7_open_0 rfl ?_
    refine z_iload_n (pc := 1) dX7_open_1 rfl ?_
    refine z_cV1 (pc := 2) (c_X7_isPin rT) (q_cX7_146 _ (by decide)) z_s59 rfl rfl dX7_open_2 ?_
    refine z_if_ne (pc := 5) (tgt := 10) dX7_open_5 (by decide) (fun h5 => ?_) (fun h5 => ?_)
    · refine z_aload_n (pc := 10) dX7_open_10 rfl ?_
      refine z_getR (pc := 11) 68 q_fX7_34 z_s59 rfl dX7_open_11 ?_
      refine z_iconst (pc := 14) (v := 0) dX7_open_14 (by decide) ?_
      refine z_iald (pc := 15) (0) z_s68 ⟨rfl, by omega⟩ dX7_open_15 ?_
      refine z_iload_n (pc := 16) dX7_open_16 rfl ?_
      refine z_cS2 (pc := 17) (c_X7_has hx.2 (by omega)) (q_cX7_119 _ (by decide)) rfl dX7_open_17 ?_
      refine z_if_eq (pc := 20) (tgt := 26) dX7_open_20 (by decide) (fun h20 => ?_) (fun h20 => ?_)
      · refine z_aload_n (pc := 26) dX7_open_26 rfl ?_
        refine z_cV0v (pc := 27) c1 (q_cX7_156 _ (by decide)) z_s59 rfl rfl dX7_open_27 ?_
        refine z_aload_n (pc := 30) dX7_open_30 rfl ?_
        refine z_getR (pc := 31) 68 q_fX7_34 z_s59 rfl dX7_open_31 ?_
        refine z_iconst (pc := 34) (v := 0) dX7_open_34 (by decide) ?_
        refine z_dup2 (pc := 35) dX7_open_35 rfl rfl ?_
        refine z_iald (pc := 36) (0) z_s68 ⟨rfl, by omega⟩ dX7_open_36 ?_
        refine z_iconst (pc := 37) (v := 1) dX7_open_37 (by decide) ?_
        refine z_iload_n (pc := 38) dX7_open_38 rfl ?_
        refine z_ishl (pc := 39) dX7_open_39 ?_
        refine z_ior (pc := 40) dX7_open_40 ?_
        refine z_iast (pc := 41) (0) z_s68 ⟨rfl, by omega⟩ dX7_open_41 ?_
        rw [show N1.1 68 0 = p.1 from p1.1, show (1 : Int32) <<< (x &&& 31) = em x.toNatClampNeg by rw [hx.2, nI_clamp (by omega)]; rfl]
        refine z_aload_n (pc := 42) dX7_open_42 rfl ?_
        refine z_getR (pc := 43) 68 q_fX7_34 z_s59 rfl dX7_open_43 ?_
        refine z_iconst (pc := 46) (v := 0) dX7_open_46 (by decide) ?_
        refine z_iald (pc := 47) (0) z_s68 ⟨rfl, by omega⟩ dX7_open_47 ?_
        refine z_cS1 (pc := 48) c_X7_ones (q_cX7_137 _ (by decide)) rfl dX7_open_48 ?_
        refine z_iret (pc := 51) rfl dX7_open_51 ?_ ?_
        · rw [zs_1]
        · rfl
      · rw [show M.1 68 0 = p.1 from rp.1, hb] at h20; exact absurd rfl h20
    · rw [h] at h5; exact absurd h5 (by decide)
