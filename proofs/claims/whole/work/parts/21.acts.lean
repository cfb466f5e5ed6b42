theorem RX_act {M N1 N2 : z_Mem} {l : Nat → Int32} {n : Nat} {T : TT} {U : UT} {D : DT} {p q : PLt} {A B : List PLt} {k0 k1 : Option PLt} {L : List (Int32 × Int32)} {sd : Int64} (h : RX M l n T U D p A k0 k1 L sd) (s1 : Sb z_ring M N1) (a1 : AcAt N1 B) (s2 : Sb [13, 14, 15] N1 N2) (hq : PlAt N2 14 q) : RX N2 l n T U D q B k0 k1 L sd ∧ Fx M N2 := by
  have hi : ∀ i ∈ 13 :: 14 :: 15 :: z_ring, 12 < i ∧ i < 48 := by
    intro i hi
    rcases List.mem_cons.mp hi with rfl | hi
    · decide
    rcases List.mem_cons.mp hi with rfl | hi
    · decide
    rcases List.mem_cons.mp hi with rfl | hi
    · decide
    have := z_ring_lt i hi
    omega
  have s : Sb (13 :: 14 :: 15 :: z_ring) M N2 := (s1.wk (fun i hi => List.mem_cons_of_mem _ (List.mem_cons_of_mem _ (List.mem_cons_of_mem _ hi)))).tr (s2.wk (fun i hi => by
    simp at hi
    rcases hi with rfl | rfl | rfl <;> simp))
  exact ⟨RX_mid h s hi hq (AcAt_sb a1 s2 (by simp)), s.fx (fun i hh => by have := hi i hh; omega)⟩
theorem ring_no {i : Nat} (h : i ≤ 17 ∨ 48 ≤ i) : i ∉ z_ring := fun q => by have := z_ring_lt i q; omega
set_option maxRecDepth 100000 in
set_option maxHeartbeats 400000 in
theorem o_X6_day {M : z_Mem} {l : Nat → Int32} {n : Nat} {T : TT} {U : UT} {D : DT} {p : PLt} {A : List PLt} {k0 k1 : Option PLt} {L : List (Int32 × Int32)} {sd : Int64} (hR : RX M l n T U D p A k0 k1 L sd) (ho : sm7 p.1) (hd : p.2.2 < 2 ^ 29) : ∃ M1, z_Ct mX6_day [.ref 0] M (some (.int (pgR (dyO T p) (dayF T U p).1))) M1 ∧ RX M1 l n T U D (dayF T U p) ((p :: A).take 14) k0 k1 L sd ∧ Fx M M1 := by
  obtain ⟨rS, rT, rU, rD, rp, rA, r0, r1, rL, rs⟩ := id hR
  obtain ⟨N1, c1, a1, s1⟩ := c_X0_remember rA rp
  have p1 : PlAt N1 14 p := PlAt_sb rp s1 (ring_no (by decide)) (ring_no (by decide))
  have t1 : TK N1 T := TK_sb rT s1 (fun i hi => by have := z_ring_lt i hi; omega)
  obtain ⟨N2, c2, p2, s2⟩ := c_X1_passDay_14 t1 (UK_sb rU s1 (ring_no (by decide)) (ring_no (by decide)) (ring_no (by decide))) p1 ho hd
  refine ⟨N2, ?_, ?_, ?_⟩
  · refine z_entry (by decide +kernel) (Nat.le_of_ble_eq_true rfl) rfl ?_
    show z_Sm mX6_day _ _ 0 [some (.ref 0)] [] M
    refine z_aload_n (pc := 0) dX6_day_0 rfl ?_
    refine z_getR (pc := 1) 18 q_fX6_45 z_s0 rfl dX6_day_1 ?_
    refine z_aload_n (pc := 4) dX6_day_4 rfl ?_
    refine z_getR (pc := 5) 14 q_fX6_35 z_s0 rfl dX6_day_5 ?_
    refine z_cV1v (pc := 8) c1 (q_cX6_141 _ (by decide)) z_s18 rfl rfl dX6_day_8 ?_
    refine z_aload_n (pc := 11) dX6_day_11 rfl ?_
    refine z_getR (pc := 12) 12 q_fX6_28 z_s0 rfl dX6_day_12 ?_
    refine z_aload_n (pc := 15) dX6_day_15 rfl ?_
    refine z_getR (pc := 16) 14 q_fX6_35 z_s0 rfl dX6_day_16 ?_
    refine z_cV1 (pc := 19) c2 (q_cX6_145 _ (by decide)) z_s12 rfl rfl dX6_day_19 ?_
    refine z_iret (pc := 22) rfl dX6_day_22 ?_ ?_
    · rfl
    · rfl
  · exact (RX_act hR s1 a1 (s2.wk (by simp)) p2).1
  · exact (RX_act hR s1 a1 (s2.wk (by simp)) p2).2
set_option maxRecDepth 100000 in
set_option maxHeartbeats 400000 in
theorem o_X6_tug {M : z_Mem} {l : Nat → Int32} {n : Nat} {T : TT} {U : UT} {D : DT} {p : PLt} {A : List PLt} {k0 k1 : Option PLt} {L : List (Int32 × Int32)} {sd : Int64} (hR : RX M l n T U D p A k0 k1 L sd) (ho : sm7 p.1) {x y : Int32} (h : thg x = true) (hy : ¬ (y < 1 ∨ 9 < y)) : ∃ M1, z_Ct mX6_tug [.ref 0, .int x, .int y] M (some (.int (pgR p.1 (tugF T p x.toNatClampNeg y).1))) M1 ∧ RX M1 l n T U D (tugF T p x.toNatClampNeg y) ((p :: A).take 14) k0 k1 L sd ∧ Fx M M1 := by
  obtain ⟨rS, rT, rU, rD, rp, rA, r0, r1, rL, rs⟩ := id hR
  obtain ⟨N1, c1, a1, s1⟩ := c_X0_remember rA rp
  have p1 : PlAt N1 14 p := PlAt_sb rp s1 (ring_no (by decide)) (ring_no (by decide))
  have t1 : TK N1 T := TK_sb rT s1 (fun i hi => by have := z_ring_lt i hi; omega)
  obtain ⟨N2, c2, p2, s2⟩ := c_X1_pullAt_14 t1 p1 ho (n := y) (thg_at h).2 (thg_at h).1
  refine ⟨N2, ?_, ?_, ?_⟩
  · refine z_entry (by decide +kernel) (Nat.le_of_ble_eq_true rfl) rfl ?_
    show z_Sm mX6_tug _ _ 0 [some (.ref 0), some (.int x), some (.int y)] [] M
    refine z_iload_n (pc := 0) dX6_tug_0 rfl ?_
    refine z_cS1 (pc := 1) c_X6_isThing (q_cX6_132 _ (by decide)) rfl dX6_tug_1 ?_
    refine z_if_ne (pc := 4) (tgt := 9) dX6_tug_4 (by decide) (fun h4 => ?_) (fun h4 => ?_)
    · refine z_iload_n (pc := 9) dX6_tug_9 rfl ?_
      refine z_iconst (pc := 10) (v := 1) dX6_tug_10 (by decide) ?_
      refine z_icmp_lt (pc := 11) (tgt := 20) dX6_tug_11 (by decide) (fun h11 => ?_) (fun h11 => ?_)
      · exact absurd (Or.inl h11) hy
      · refine z_iload_n (pc := 14) dX6_tug_14 rfl ?_
        refine z_bipush (pc := 15) (v := 9) dX6_tug_15 (by decide) ?_
        refine z_icmp_le (pc := 17) (tgt := 23) dX6_tug_17 (by decide) (fun h17 => ?_) (fun h17 => ?_)
        · refine z_aload_n (pc := 23) dX6_tug_23 rfl ?_
          refine z_getR (pc := 24) 18 q_fX6_45 z_s0 rfl dX6_tug_24 ?_
          refine z_aload_n (pc := 27) dX6_tug_27 rfl ?_
          refine z_getR (pc := 28) 14 q_fX6_35 z_s0 rfl dX6_tug_28 ?_
          refine z_cV1v (pc := 31) c1 (q_cX6_141 _ (by decide)) z_s18 rfl rfl dX6_tug_31 ?_
          refine z_aload_n (pc := 34) dX6_tug_34 rfl ?_
          refine z_getR (pc := 35) 12 q_fX6_28 z_s0 rfl dX6_tug_35 ?_
          refine z_aload_n (pc := 38) dX6_tug_38 rfl ?_
          refine z_getR (pc := 39) 14 q_fX6_35 z_s0 rfl dX6_tug_39 ?_
          refine z_iload_n (pc := 42) dX6_tug_42 rfl ?_
          refine z_iload_n (pc := 43) dX6_tug_43 rfl ?_
          refine z_cV3 (pc := 44) c2 (q_cX6_149 _ (by decide)) z_s12 rfl rfl dX6_tug_44 ?_
          refine z_iret (pc := 47) rfl dX6_tug_47 ?_ ?_
          · rfl
          · rfl
        · exact absurd (Or.inr (Int32.not_le.mp h17)) hy
    · rw [h] at h4; exact absurd h4 (by decide)
  · exact (RX_act hR s1 a1 (s2.wk (by simp)) p2).1
  · exact (RX_act hR s1 a1 (s2.wk (by simp)) p2).2
set_option maxRecDepth 100000 in
set_option maxHeartbeats 400000 in
theorem o_X6_tug_no {M : z_Mem} {l : Nat → Int32} {n : Nat} {T : TT} {U : UT} {D : DT} {p : PLt} {A : List PLt} {k0 k1 : Option PLt} {L : List (Int32 × Int32)} {sd : Int64} (hR : RX M l n T U D p A k0 k1 L sd) {x y : Int32} (h : thg x = false ∨ y < 1 ∨ 9 < y) : z_Ct mX6_tug [.ref 0, .int x, .int y] M (some (.int (if thg x then -2 else -1))) M := by
  obtain ⟨rS, rT, rU, rD, rp, rA, r0, r1, rL, rs⟩ := id hR

  refine z_entry (by decide +kernel) (Nat.le_of_ble_eq_true rfl) rfl ?_
  show z_Sm mX6_tug _ _ 0 [some (.ref 0), some (.int x), some (.int y)] [] M
  refine z_iload_n (pc := 0) dX6_tug_0 rfl ?_
  refine z_cS1 (pc := 1) c_X6_isThing (q_cX6_132 _ (by decide)) rfl dX6_tug_1 ?_
  refine z_if_ne (pc := 4) (tgt := 9) dX6_tug_4 (by decide) (fun h4 => ?_) (fun h4 => ?_)
  · refine z_iload_n (pc := 9) dX6_tug_9 rfl ?_
    refine z_iconst (pc := 10) (v := 1) dX6_tug_10 (by decide) ?_
    refine z_icmp_lt (pc := 11) (tgt := 20) dX6_tug_11 (by decide) (fun h11 => ?_) (fun h11 => ?_)
    · refine z_bipush (pc := 20) (v := (-2)) dX6_tug_20 (by decide) ?_
      refine z_iret (pc := 22) rfl dX6_tug_22 ?_ ?_
      · rw [z_t h4]; rfl
      · rfl
    · refine z_iload_n (pc := 14) dX6_tug_14 rfl ?_
      refine z_bipush (pc := 15) (v := 9) dX6_tug_15 (by decide) ?_
      refine z_icmp_le (pc := 17) (tgt := 23) dX6_tug_17 (by decide) (fun h17 => ?_) (fun h17 => ?_)
      · rcases h with h | h | h
        · rw [h] at h4; exact absurd rfl h4
        · exact absurd h h11
        · exact absurd h (Int32.not_lt.mpr h17)
      · refine z_bipush (pc := 20) (v := (-2)) dX6_tug_20 (by decide) ?_
        refine z_iret (pc := 22) rfl dX6_tug_22 ?_ ?_
        · rw [z_t h4]; rfl
        · rfl
  · refine z_iconst (pc := 7) (v := (-1)) dX6_tug_7 (by decide) ?_
    refine z_iret (pc := 8) rfl dX6_tug_8 ?_ ?_
    · rw [z_f h4]; rfl
    · rfl
set_option maxRecDepth 100000 in
set_option maxHeartbeats 400000 in
theorem o_X6_shut_no1 {M : z_Mem} {l : Nat → Int32} {n : Nat} {T : TT} {U : UT} {D : DT} {p : PLt} {A : List PLt} {k0 k1 : Option PLt} {L : List (Int32 × Int32)} {sd : Int64} (hR : RX M l n T U D p A k0 k1 L sd) {x : Int32} (h : pnB x T.1 = false) : z_Ct mX6_shut [.ref 0, .int x] M (some (.int (-1))) M := by
  obtain ⟨rS, rT, rU, rD, rp, rA, r0, r1, rL, rs⟩ := id hR

  refine z_entry (by decide +kernel) (Nat.le_of_ble_eq_true rfl) rfl ?_
  show z_Sm mX6_shut _ _ 0 [some (.ref 0), some (.int x)] [] M
  refine z_aload_n (pc := 0) dX6_shut_0 rfl ?_
  refine z_iload_n (pc := 1) dX6_shut_1 rfl ?_
  refine z_cV1 (pc := 2) (c_X6_isPin rT.1.1) (q_cX6_106 _ (by decide)) z_s0 rfl rfl dX6_shut_2 ?_
  refine z_if_ne (pc := 5) (tgt := 10) dX6_shut_5 (by decide) (fun h5 => ?_) (fun h5 => ?_)
  · rw [h] at h5; exact absurd rfl h5
  · refine z_iconst (pc := 8) (v := (-1)) dX6_shut_8 (by decide) ?_
    refine z_iret (pc := 9) rfl dX6_shut_9 ?_ ?_
    · rfl
    · rfl
set_option maxRecDepth 100000 in
set_option maxHeartbeats 400000 in
theorem o_X6_shut_no2 {M : z_Mem} {l : Nat → Int32} {n : Nat} {T : TT} {U : UT} {D : DT} {p : PLt} {A : List PLt} {k0 k1 : Option PLt} {L : List (Int32 × Int32)} {sd : Int64} (hR : RX M l n T U D p A k0 k1 L sd) {x : Int32} (h : pnB x T.1 = true) (hb : bt p.1 x.toNatClampNeg = false) : z_Ct mX6_shut [.ref 0, .int x] M (some (.int (-3))) M := by
  obtain ⟨rS, rT, rU, rD, rp, rA, r0, r1, rL, rs⟩ := id hR

  refine z_entry (by decide +kernel) (Nat.le_of_ble_eq_true rfl) rfl ?_
  show z_Sm mX6_shut _ _ 0 [some (.ref 0), some (.int x)] [] M
  refine z_aload_n (pc := 0) dX6_shut_0 rfl ?_
  refine z_iload_n (pc := 1) dX6_shut_1 rfl ?_
  refine z_cV1 (pc := 2) (c_X6_isPin rT.1.1) (q_cX6_106 _ (by decide)) z_s0 rfl rfl dX6_shut_2 ?_
  refine z_if_ne (pc := 5) (tgt := 10) dX6_shut_5 (by decide) (fun h5 => ?_) (fun h5 => ?_)
  · refine z_aload_n (pc := 10) dX6_shut_10 rfl ?_
    refine z_getR (pc := 11) 14 q_fX6_35 z_s0 rfl dX6_shut_11 ?_
    refine z_iload_n (pc := 14) dX6_shut_14 rfl ?_
    refine z_cV1 (pc := 15) (c_X2_isOpen_14 (pnB_at rT.1.2.1 h).2 (by have := (pnB_at rT.1.2.1 h).1; have := rT.1.2.1; omega)) (q_cX6_129 _ (by decide)) z_s14 rfl rfl dX6_shut_15 ?_
    refine z_if_ne (pc := 18) (tgt := 24) dX6_shut_18 (by decide) (fun h18 => ?_) (fun h18 => ?_)
    · rw [rp.1, hb] at h18; exact absurd rfl h18
    · refine z_bipush (pc := 21) (v := (-3)) dX6_shut_21 (by decide) ?_
      refine z_iret (pc := 23) rfl dX6_shut_23 ?_ ?_
      · rfl
      · rfl
  · rw [h] at h5; exact absurd h5 (by decide)
set_option maxRecDepth 100000 in
set_option maxHeartbeats 400000 in
theorem o_X6_open_no1 {M : z_Mem} {l : Nat → Int32} {n : Nat} {T : TT} {U : UT} {D : DT} {p : PLt} {A : List PLt} {k0 k1 : Option PLt} {L : List (Int32 × Int32)} {sd : Int64} (hR : RX M l n T U D p A k0 k1 L sd) {x : Int32} (h : pnB x T.1 = false) : z_Ct mX6_open [.ref 0, .int x] M (some (.int (-1))) M := by
  obtain ⟨rS, rT, rU, rD, rp, rA, r0, r1, rL, rs⟩ := id hR

  refine z_entry (by decide +kernel) (Nat.le_of_ble_eq_true rfl) rfl ?_
  show z_Sm mX6_open _ _ 0 [some (.ref 0), some (.int x)] [] M
  refine z_aload_n (pc := 0) dX6_open_0 rfl ?_
  refine z_iload_n (pc := 1) dX6_open_1 rfl ?_
  refine z_cV1 (pc := 2) (c_X6_isPin rT.1.1) (q_cX6_106 _ (by decide)) z_s0 rfl rfl dX6_open_2 ?_
  refine z_if_ne (pc := 5) (tgt := 10) dX6_open_5 (by decide) (fun h5 => ?_) (fun h5 => ?_)
  · rw [h] at h5; exact absurd rfl h5
  · refine z_iconst (pc := 8) (v := (-1)) dX6_open_8 (by decide) ?_
    refine z_iret (pc := 9) rfl dX6_open_9 ?_ ?_
    · rfl
    · rfl
set_option maxRecDepth 100000 in
set_option maxHeartbeats 400000 in
theorem o_X6_open_no2 {M : z_Mem} {l : Nat → Int32} {n : Nat} {T : TT} {U : UT} {D : DT} {p : PLt} {A : List PLt} {k0 k1 : Option PLt} {L : List (Int32 × Int32)} {sd : Int64} (hR : RX M l n T U D p A k0 k1 L sd) {x : Int32} (h : pnB x T.1 = true) (hb : bt p.1 x.toNatClampNeg = true) : z_Ct mX6_open [.ref 0, .int x] M (some (.int (-3))) M := by
  obtain ⟨rS, rT, rU, rD, rp, rA, r0, r1, rL, rs⟩ := id hR

  refine z_entry (by decide +kernel) (Nat.le_of_ble_eq_true rfl) rfl ?_
  show z_Sm mX6_open _ _ 0 [some (.ref 0), some (.int x)] [] M
  refine z_aload_n (pc := 0) dX6_open_0 rfl ?_
  refine z_iload_n (pc := 1) dX6_open_1 rfl ?_
  refine z_cV1 (pc := 2) (c_X6_isPin rT.1.1) (q_cX6_106 _ (by decide)) z_s0 rfl rfl dX6_open_2 ?_
  refine z_if_ne (pc := 5) (tgt := 10) dX6_open_5 (by decide) (fun h5 => ?_) (fun h5 => ?_)
  · refine z_aload_n (pc := 10) dX6_open_10 rfl ?_
    refine z_getR (pc := 11) 14 q_fX6_35 z_s0 rfl dX6_open_11 ?_
    refine z_iload_n (pc := 14) dX6_open_14 rfl ?_
    refine z_cV1 (pc := 15) (c_X2_isOpen_14 (pnB_at rT.1.2.1 h).2 (by have := (pnB_at rT.1.2.1 h).1; have := rT.1.2.1; omega)) (q_cX6_129 _ (by decide)) z_s14 rfl rfl dX6_open_15 ?_
    refine z_if_eq (pc := 18) (tgt := 24) dX6_open_18 (by decide) (fun h18 => ?_) (fun h18 => ?_)
    · rw [rp.1, hb] at h18; exact absurd h18 (by decide)
    · refine z_bipush (pc := 21) (v := (-3)) dX6_open_21 (by decide) ?_
      refine z_iret (pc := 23) rfl dX6_open_23 ?_ ?_
      · rfl
      · rfl
  · rw [h] at h5; exact absurd h5 (by decide)
set_option maxRecDepth 100000 in
set_option maxHeartbeats 400000 in
theorem o_X6_lasts_no1 {M : z_Mem} {l : Nat → Int32} {n : Nat} {T : TT} {U : UT} {D : DT} {p : PLt} {A : List PLt} {k0 k1 : Option PLt} {L : List (Int32 × Int32)} {sd : Int64} (hR : RX M l n T U D p A k0 k1 L sd) {x : Int32} (h : pnB x T.1 = false) : z_Ct mX6_lasts [.ref 0, .int x] M (some (.int (-1))) M := by
  obtain ⟨rS, rT, rU, rD, rp, rA, r0, r1, rL, rs⟩ := id hR

  refine z_entry (by decide +kernel) (Nat.le_of_ble_eq_true rfl) rfl ?_
  show z_Sm mX6_lasts _ _ 0 [some (.ref 0), some (.int x), none] [] M
  refine z_aload_n (pc := 0) dX6_lasts_0 rfl ?_
  refine z_iload_n (pc := 1) dX6_lasts_1 rfl ?_
  refine z_cV1 (pc := 2) (c_X6_isPin rT.1.1) (q_cX6_106 _ (by decide)) z_s0 rfl rfl dX6_lasts_2 ?_
  refine z_if_ne (pc := 5) (tgt := 10) dX6_lasts_5 (by decide) (fun h5 => ?_) (fun h5 => ?_)
  · rw [h] at h5; exact absurd rfl h5
  · refine z_iconst (pc := 8) (v := (-1)) dX6_lasts_8 (by decide) ?_
    refine z_iret (pc := 9) rfl dX6_lasts_9 ?_ ?_
    · rfl
    · rfl
set_option maxRecDepth 100000 in
set_option maxHeartbeats 400000 in
theorem o_X6_lasts_no2 {M : z_Mem} {l : Nat → Int32} {n : Nat} {T : TT} {U : UT} {D : DT} {p : PLt} {A : List PLt} {k0 k1 : Option PLt} {L : List (Int32 × Int32)} {sd : Int64} (hR : RX M l n T U D p A k0 k1 L sd) {x : Int32} (h : pnB x T.1 = true) (hb : bt p.1 x.toNatClampNeg = true) : z_Ct mX6_lasts [.ref 0, .int x] M (some (.int (-3))) M := by
  obtain ⟨rS, rT, rU, rD, rp, rA, r0, r1, rL, rs⟩ := id hR

  refine z_entry (by decide +kernel) (Nat.le_of_ble_eq_true rfl) rfl ?_
  show z_Sm mX6_lasts _ _ 0 [some (.ref 0), some (.int x), none] [] M
  refine z_aload_n (pc := 0) dX6_lasts_0 rfl ?_
  refine z_iload_n (pc := 1) dX6_lasts_1 rfl ?_
  refine z_cV1 (pc := 2) (c_X6_isPin rT.1.1) (q_cX6_106 _ (by decide)) z_s0 rfl rfl dX6_lasts_2 ?_
  refine z_if_ne (pc := 5) (tgt := 10) dX6_lasts_5 (by decide) (fun h5 => ?_) (fun h5 => ?_)
  · refine z_aload_n (pc := 10) dX6_lasts_10 rfl ?_
    refine z_getR (pc := 11) 14 q_fX6_35 z_s0 rfl dX6_lasts_11 ?_
    refine z_iload_n (pc := 14) dX6_lasts_14 rfl ?_
    refine z_cV1 (pc := 15) (c_X2_isOpen_14 (pnB_at rT.1.2.1 h).2 (by have := (pnB_at rT.1.2.1 h).1; have := rT.1.2.1; omega)) (q_cX6_129 _ (by decide)) z_s14 rfl rfl dX6_lasts_15 ?_
    refine z_if_eq (pc := 18) (tgt := 24) dX6_lasts_18 (by decide) (fun h18 => ?_) (fun h18 => ?_)
    · rw [rp.1, hb] at h18; exact absurd h18 (by decide)
    · refine z_bipush (pc := 21) (v := (-3)) dX6_lasts_21 (by decide) ?_
      refine z_iret (pc := 23) rfl dX6_lasts_23 ?_ ?_
      · rfl
      · rfl
  · rw [h] at h5; exact absurd h5 (by decide)
set_option maxRecDepth 100000 in
set_option maxHeartbeats 400000 in
theorem o_X6_chain_no1 {M : z_Mem} {l : Nat → Int32} {n : Nat} {T : TT} {U : UT} {D : DT} {p : PLt} {A : List PLt} {k0 k1 : Option PLt} {L : List (Int32 × Int32)} {sd : Int64} (hR : RX M l n T U D p A k0 k1 L sd) {x : Int32} (h : pnB x T.1 = false) : z_Ct mX6_chain [.ref 0, .int x] M (some (.int (-1))) M := by
  obtain ⟨rS, rT, rU, rD, rp, rA, r0, r1, rL, rs⟩ := id hR

  refine z_entry (by decide +kernel) (Nat.le_of_ble_eq_true rfl) rfl ?_
  show z_Sm mX6_chain _ _ 0 [some (.ref 0), some (.int x)] [] M
  refine z_aload_n (pc := 0) dX6_chain_0 rfl ?_
  refine z_iload_n (pc := 1) dX6_chain_1 rfl ?_
  refine z_cV1 (pc := 2) (c_X6_isPin rT.1.1) (q_cX6_106 _ (by decide)) z_s0 rfl rfl dX6_chain_2 ?_
  refine z_if_ne (pc := 5) (tgt := 10) dX6_chain_5 (by decide) (fun h5 => ?_) (fun h5 => ?_)
  · rw [h] at h5; exact absurd rfl h5
  · refine z_iconst (pc := 8) (v := (-1)) dX6_chain_8 (by decide) ?_
    refine z_iret (pc := 9) rfl dX6_chain_9 ?_ ?_
    · rfl
    · rfl
set_option maxRecDepth 100000 in
set_option maxHeartbeats 400000 in
theorem o_X6_chain_no2 {M : z_Mem} {l : Nat → Int32} {n : Nat} {T : TT} {U : UT} {D : DT} {p : PLt} {A : List PLt} {k0 k1 : Option PLt} {L : List (Int32 × Int32)} {sd : Int64} (hR : RX M l n T U D p A k0 k1 L sd) {x : Int32} (h : pnB x T.1 = true) (hb : bt p.1 x.toNatClampNeg = true) : z_Ct mX6_chain [.ref 0, .int x] M (some (.int (-3))) M := by
  obtain ⟨rS, rT, rU, rD, rp, rA, r0, r1, rL, rs⟩ := id hR

  refine z_entry (by decide +kernel) (Nat.le_of_ble_eq_true rfl) rfl ?_
  show z_Sm mX6_chain _ _ 0 [some (.ref 0), some (.int x)] [] M
  refine z_aload_n (pc := 0) dX6_chain_0 rfl ?_
  refine z_iload_n (pc := 1) dX6_chain_1 rfl ?_
  refine z_cV1 (pc := 2) (c_X6_isPin rT.1.1) (q_cX6_106 _ (by decide)) z_s0 rfl rfl dX6_chain_2 ?_
  refine z_if_ne (pc := 5) (tgt := 10) dX6_chain_5 (by decide) (fun h5 => ?_) (fun h5 => ?_)
  · refine z_aload_n (pc := 10) dX6_chain_10 rfl ?_
    refine z_getR (pc := 11) 14 q_fX6_35 z_s0 rfl dX6_chain_11 ?_
    refine z_iload_n (pc := 14) dX6_chain_14 rfl ?_
    refine z_cV1 (pc := 15) (c_X2_isOpen_14 (pnB_at rT.1.2.1 h).2 (by have := (pnB_at rT.1.2.1 h).1; have := rT.1.2.1; omega)) (q_cX6_129 _ (by decide)) z_s14 rfl rfl dX6_chain_15 ?_
    refine z_if_eq (pc := 18) (tgt := 24) dX6_chain_18 (by decide) (fun h18 => ?_) (fun h18 => ?_)
    · rw [rp.1, hb] at h18; exact absurd h18 (by decide)
    · refine z_bipush (pc := 21) (v := (-3)) dX6_chain_21 (by decide) ?_
      refine z_iret (pc := 23) rfl dX6_chain_23 ?_ ?_
      · rfl
      · rfl
  · rw [h] at h5; exact absurd h5 (by decide)
set_option maxRecDepth 100000 in
set_option maxHeartbeats 400000 in
theorem o_X6_shut {M : z_Mem} {l : Nat → Int32} {n : Nat} {T : TT} {U : UT} {D : DT} {p : PLt} {A : List PLt} {k0 k1 : Option PLt} {L : List (Int32 × Int32)} {sd : Int64} (hR : RX M l n T U D p A k0 k1 L sd) (ho : sm7 p.1) {x : Int32} (h : pnB x T.1 = true) (hb : bt p.1 x.toNatClampNeg = true) : ∃ M1, z_Ct mX6_shut [.ref 0, .int x] M (some (.int (nI (pc 7 (p.1 &&& (em x.toNatClampNeg ^^^ (-1))))))) M1 ∧ RX M1 l n T U D (p.1 &&& (em x.toNatClampNeg ^^^ (-1)), upd p.2.1 x.toNatClampNeg 0, p.2.2) ((p :: A).take 14) k0 k1 L sd ∧ Fx M M1 := by
  obtain ⟨rS, rT, rU, rD, rp, rA, r0, r1, rL, rs⟩ := id hR
  obtain ⟨N1, c1, a1, s1⟩ := c_X0_remember rA rp
  have p1 : PlAt N1 14 p := PlAt_sb rp s1 (ring_no (by decide)) (ring_no (by decide))
  have t1 : TK N1 T := TK_sb rT s1 (fun i hi => by have := z_ring_lt i hi; omega)
  have hx := pnB_at rT.1.2.1 h
  have hP7 := rT.1.2.1
  obtain ⟨N2, c2, p2, s2⟩ := c_X2_close_14 p1 hx.2 (by omega)
  refine ⟨N2, ?_, ?_, ?_⟩
  · refine z_entry (by decide +kernel) (Nat.le_of_ble_eq_true rfl) rfl ?_
    show z_Sm mX6_shut _ _ 0 [some (.ref 0), some (.int x)] [] M
    refine z_aload_n (pc := 0) dX6_shut_0 rfl ?_
    refine z_iload_n (pc := 1) dX6_shut_1 rfl ?_
    refine z_cV1 (pc := 2) (c_X6_isPin rT.1.1) (q_cX6_106 _ (by decide)) z_s0 rfl rfl dX6_shut_2 ?_
    refine z_if_ne (pc := 5) (tgt := 10) dX6_shut_5 (by decide) (fun h5 => ?_) (fun h5 => ?_)
    · refine z_aload_n (pc := 10) dX6_shut_10 rfl ?_
      refine z_getR (pc := 11) 14 q_fX6_35 z_s0 rfl dX6_shut_11 ?_
      refine z_iload_n (pc := 14) dX6_shut_14 rfl ?_
      refine z_cV1 (pc := 15) (c_X2_isOpen_14 hx.2 (by omega)) (q_cX6_129 _ (by decide)) z_s14 rfl rfl dX6_shut_15 ?_
      refine z_if_ne (pc := 18) (tgt := 24) dX6_shut_18 (by decide) (fun h18 => ?_) (fun h18 => ?_)
      · refine z_aload_n (pc := 24) dX6_shut_24 rfl ?_
        refine z_getR (pc := 25) 18 q_fX6_45 z_s0 rfl dX6_shut_25 ?_
        refine z_aload_n (pc := 28) dX6_shut_28 rfl ?_
        refine z_getR (pc := 29) 14 q_fX6_35 z_s0 rfl dX6_shut_29 ?_
        refine z_cV1v (pc := 32) c1 (q_cX6_141 _ (by decide)) z_s18 rfl rfl dX6_shut_32 ?_
        refine z_aload_n (pc := 35) dX6_shut_35 rfl ?_
        refine z_getR (pc := 36) 14 q_fX6_35 z_s0 rfl dX6_shut_36 ?_
        refine z_iload_n (pc := 39) dX6_shut_39 rfl ?_
        refine z_cV1v (pc := 40) c2 (q_cX6_153 _ (by decide)) z_s14 rfl rfl dX6_shut_40 ?_
        refine z_aload_n (pc := 43) dX6_shut_43 rfl ?_
        refine z_getR (pc := 44) 14 q_fX6_35 z_s0 rfl dX6_shut_44 ?_
        refine z_getI (pc := 47) q_fX6_135 z_s14 rfl dX6_shut_47 ?_
        refine z_cS1 (pc := 50) (c_J6_bitCount_0f7a4 (by rw [p2.1]; exact sm7_and ho)) (q_cX6_156 _ (by decide)) rfl dX6_shut_50 ?_
        refine z_iret (pc := 53) rfl dX6_shut_53 ?_ ?_
        · rw [p2.1]
        · rfl
      · rw [rp.1, hb] at h18; exact absurd h18 (by decide)
    · rw [h] at h5; exact absurd h5 (by decide)
  · exact (RX_act hR s1 a1 (s2.wk (by simp)) p2).1
  · exact (RX_act hR s1 a1 (s2.wk (by simp)) p2).2
set_option maxRecDepth 100000 in
set_option maxHeartbeats 400000 in
theorem o_X6_open {M : z_Mem} {l : Nat → Int32} {n : Nat} {T : TT} {U : UT} {D : DT} {p : PLt} {A : List PLt} {k0 k1 : Option PLt} {L : List (Int32 × Int32)} {sd : Int64} (hR : RX M l n T U D p A k0 k1 L sd) (ho : sm7 p.1) {x : Int32} (h : pnB x T.1 = true) (hb : bt p.1 x.toNatClampNeg = false) : ∃ M1, z_Ct mX6_open [.ref 0, .int x] M (some (.int (nI (pc 7 (p.1 ||| em x.toNatClampNeg))))) M1 ∧ RX M1 l n T U D (p.1 ||| em x.toNatClampNeg, p.2.1, p.2.2) ((p :: A).take 14) k0 k1 L sd ∧ Fx M M1 := by
  obtain ⟨rS, rT, rU, rD, rp, rA, r0, r1, rL, rs⟩ := id hR
  obtain ⟨N1, c1, a1, s1⟩ := c_X0_remember rA rp
  have p1 : PlAt N1 14 p := PlAt_sb rp s1 (ring_no (by decide)) (ring_no (by decide))
  have t1 : TK N1 T := TK_sb rT s1 (fun i hi => by have := z_ring_lt i hi; omega)
  have hx := pnB_at rT.1.2.1 h
  have hP7 := rT.1.2.1
  obtain ⟨N2, c2, p2, s2⟩ := c_X2_unpin_14 p1 hx.2
  refine ⟨N2, ?_, ?_, ?_⟩
  · refine z_entry (by decide +kernel) (Nat.le_of_ble_eq_true rfl) rfl ?_
    show z_Sm mX6_open _ _ 0 [some (.ref 0), some (.int x)] [] M
    refine z_aload_n (pc := 0) dX6_open_0 rfl ?_
    refine z_iload_n (pc := 1) dX6_open_1 rfl ?_
    refine z_cV1 (pc := 2) (c_X6_isPin rT.1.1) (q_cX6_106 _ (by decide)) z_s0 rfl rfl dX6_open_2 ?_
    refine z_if_ne (pc := 5) (tgt := 10) dX6_open_5 (by decide) (fun h5 => ?_) (fun h5 => ?_)
    · refine z_aload_n (pc := 10) dX6_open_10 rfl ?_
      refine z_getR (pc := 11) 14 q_fX6_35 z_s0 rfl dX6_open_11 ?_
      refine z_iload_n (pc := 14) dX6_open_14 rfl ?_
      refine z_cV1 (pc := 15) (c_X2_isOpen_14 hx.2 (by omega)) (q_cX6_129 _ (by decide)) z_s14 rfl rfl dX6_open_15 ?_
      refine z_if_eq (pc := 18) (tgt := 24) dX6_open_18 (by decide) (fun h18 => ?_) (fun h18 => ?_)
      · refine z_aload_n (pc := 24) dX6_open_24 rfl ?_
        refine z_getR (pc := 25) 18 q_fX6_45 z_s0 rfl dX6_open_25 ?_
        refine z_aload_n (pc := 28) dX6_open_28 rfl ?_
        refine z_getR (pc := 29) 14 q_fX6_35 z_s0 rfl dX6_open_29 ?_
        refine z_cV1v (pc := 32) c1 (q_cX6_141 _ (by decide)) z_s18 rfl rfl dX6_open_32 ?_
        refine z_aload_n (pc := 35) dX6_open_35 rfl ?_
        refine z_getR (pc := 36) 14 q_fX6_35 z_s0 rfl dX6_open_36 ?_
        refine z_iload_n (pc := 39) dX6_open_39 rfl ?_
        refine z_cV1v (pc := 40) c2 (q_cX6_162 _ (by decide)) z_s14 rfl rfl dX6_open_40 ?_
        refine z_aload_n (pc := 43) dX6_open_43 rfl ?_
        refine z_getR (pc := 44) 14 q_fX6_35 z_s0 rfl dX6_open_44 ?_
        refine z_getI (pc := 47) q_fX6_135 z_s14 rfl dX6_open_47 ?_
        refine z_cS1 (pc := 50) (c_J6_bitCount_0f7a4 (by rw [p2.1]; exact sm7_or ho (sm7_em (by omega)))) (q_cX6_156 _ (by decide)) rfl dX6_open_50 ?_
        refine z_iret (pc := 53) rfl dX6_open_53 ?_ ?_
        · rw [p2.1]
        · rfl
      · rw [rp.1, hb] at h18; exact absurd rfl h18
    · rw [h] at h5; exact absurd h5 (by decide)
  · exact (RX_act hR s1 a1 (s2.wk (by simp)) p2).1
  · exact (RX_act hR s1 a1 (s2.wk (by simp)) p2).2
set_option maxRecDepth 100000 in
set_option maxHeartbeats 400000 in
theorem o_X6_undo_no {M : z_Mem} {l : Nat → Int32} {n : Nat} {T : TT} {U : UT} {D : DT} {p : PLt} {A : List PLt} {k0 k1 : Option PLt} {L : List (Int32 × Int32)} {sd : Int64} (hR : RX M l n T U D p A k0 k1 L sd) (h : A = []) : z_Ct mX6_undo [.ref 0] M (some (.int (-3))) M := by
  obtain ⟨rS, rT, rU, rD, rp, rA, r0, r1, rL, rs⟩ := id hR

  refine z_entry (by decide +kernel) (Nat.le_of_ble_eq_true rfl) rfl ?_
  show z_Sm mX6_undo _ _ 0 [some (.ref 0)] [] M
  refine z_aload_n (pc := 0) dX6_undo_0 rfl ?_
  refine z_getR (pc := 1) 18 q_fX6_45 z_s0 rfl dX6_undo_1 ?_
  refine z_getI (pc := 4) q_fX6_165 z_s18 rfl dX6_undo_4 ?_
  refine z_if_ne (pc := 7) (tgt := 13) dX6_undo_7 (by decide) (fun h7 => ?_) (fun h7 => ?_)
  · obtain ⟨t, ht, a1, a2, -⟩ := rA
    exact absurd (by rw [a2, h]; rfl) h7
  · refine z_bipush (pc := 10) (v := (-3)) dX6_undo_10 (by decide) ?_
    refine z_iret (pc := 12) rfl dX6_undo_12 ?_ ?_
    · rfl
    · rfl
set_option maxRecDepth 100000 in
set_option maxHeartbeats 400000 in
theorem o_X6_undo {M : z_Mem} {l : Nat → Int32} {n : Nat} {T : TT} {U : UT} {D : DT} {p : PLt} {A : List PLt} {q : PLt} {k0 k1 : Option PLt} {L : List (Int32 × Int32)} {sd : Int64} (hR : RX M l n T U D p (q :: A) k0 k1 L sd) : ∃ M1, z_Ct mX6_undo [.ref 0] M (some (.int (nI A.length))) M1 ∧ RX M1 l n T U D q A k0 k1 L sd ∧ Fx M M1 := by
  obtain ⟨rS, rT, rU, rD, rp, rA, r0, r1, rL, rs⟩ := id hR
  obtain ⟨N, c1, a1, p1, s1⟩ := c_X0_takeBack rA
  refine ⟨N, ?_, RX_mid hR s1 (by simp) p1 a1, s1.fx (by simp)⟩
  obtain ⟨t, ht, b1, b2, b3, -⟩ := rA
  obtain ⟨t2, ht2, d1, d2, -⟩ := a1
  rw [List.length_cons] at b2 b3
  refine z_entry (by decide +kernel) (Nat.le_of_ble_eq_true rfl) rfl ?_
  show z_Sm mX6_undo _ _ 0 [some (.ref 0)] [] M
  refine z_aload_n (pc := 0) dX6_undo_0 rfl ?_
  refine z_getR (pc := 1) 18 q_fX6_45 z_s0 rfl dX6_undo_1 ?_
  refine z_getI (pc := 4) q_fX6_165 z_s18 rfl dX6_undo_4 ?_
  refine z_if_ne (pc := 7) (tgt := 13) dX6_undo_7 (by decide) (fun h7 => ?_) (fun h7 => ?_)
  · refine z_aload_n (pc := 13) dX6_undo_13 rfl ?_
    refine z_getR (pc := 14) 18 q_fX6_45 z_s0 rfl dX6_undo_14 ?_
    refine z_aload_n (pc := 17) dX6_undo_17 rfl ?_
    refine z_getR (pc := 18) 14 q_fX6_35 z_s0 rfl dX6_undo_18 ?_
    refine z_cV1v (pc := 21) c1 (q_cX6_166 _ (by decide)) z_s18 rfl rfl dX6_undo_21 ?_
    refine z_aload_n (pc := 24) dX6_undo_24 rfl ?_
    refine z_getR (pc := 25) 18 q_fX6_45 z_s0 rfl dX6_undo_25 ?_
    refine z_getI (pc := 28) q_fX6_165 z_s18 rfl dX6_undo_28 ?_
    refine z_iret (pc := 31) rfl dX6_undo_31 ?_ ?_
    · exact d2
    · rfl
  · exact absurd h7 (by rw [b2]; exact nI_ne0 (by omega) (by omega))
set_option maxRecDepth 100000 in
set_option maxHeartbeats 400000 in
theorem o_X6_keep_no1 {M : z_Mem} {l : Nat → Int32} {n : Nat} {T : TT} {U : UT} {D : DT} {p : PLt} {A : List PLt} {k0 k1 : Option PLt} {L : List (Int32 × Int32)} {sd : Int64} (hR : RX M l n T U D p A k0 k1 L sd) {x : Int32} (h : x < 0 ∨ 2 ≤ x) : z_Ct mX6_keep [.ref 0, .int x] M (some (.int (-1))) M := by
  obtain ⟨rS, rT, rU, rD, rp, rA, r0, r1, rL, rs⟩ := id hR

  refine z_entry (by decide +kernel) (Nat.le_of_ble_eq_true rfl) rfl ?_
  show z_Sm mX6_keep _ _ 0 [some (.ref 0), some (.int x)] [] M
  refine z_iload_n (pc := 0) dX6_keep_0 rfl ?_
  refine z_if_lt (pc := 1) (tgt := 9) dX6_keep_1 (by decide) (fun h1 => ?_) (fun h1 => ?_)
  · refine z_iconst (pc := 9) (v := (-1)) dX6_keep_9 (by decide) ?_
    refine z_iret (pc := 10) rfl dX6_keep_10 ?_ ?_
    · rfl
    · rfl
  · refine z_iload_n (pc := 4) dX6_keep_4 rfl ?_
    refine z_iconst (pc := 5) (v := 2) dX6_keep_5 (by decide) ?_
    refine z_icmp_lt (pc := 6) (tgt := 11) dX6_keep_6 (by decide) (fun h6 => ?_) (fun h6 => ?_)
    · exact absurd h6 (h.elim (fun q => absurd q h1) (fun q => Int32.not_lt.mpr q))
    · refine z_iconst (pc := 9) (v := (-1)) dX6_keep_9 (by decide) ?_
      refine z_iret (pc := 10) rfl dX6_keep_10 ?_ ?_
      · rfl
      · rfl
set_option maxRecDepth 100000 in
set_option maxHeartbeats 400000 in
theorem o_X6_again_no1 {M : z_Mem} {l : Nat → Int32} {n : Nat} {T : TT} {U : UT} {D : DT} {p : PLt} {A : List PLt} {k0 k1 : Option PLt} {L : List (Int32 × Int32)} {sd : Int64} (hR : RX M l n T U D p A k0 k1 L sd) {x : Int32} (h : x < 0 ∨ 2 ≤ x) : z_Ct mX6_again [.ref 0, .int x] M (some (.int (-1))) M := by
  obtain ⟨rS, rT, rU, rD, rp, rA, r0, r1, rL, rs⟩ := id hR

  refine z_entry (by decide +kernel) (Nat.le_of_ble_eq_true rfl) rfl ?_
  show z_Sm mX6_again _ _ 0 [some (.ref 0), some (.int x)] [] M
  refine z_iload_n (pc := 0) dX6_again_0 rfl ?_
  refine z_if_lt (pc := 1) (tgt := 9) dX6_again_1 (by decide) (fun h1 => ?_) (fun h1 => ?_)
  · refine z_iconst (pc := 9) (v := (-1)) dX6_again_9 (by decide) ?_
    refine z_iret (pc := 10) rfl dX6_again_10 ?_ ?_
    · rfl
    · rfl
  · refine z_iload_n (pc := 4) dX6_again_4 rfl ?_
    refine z_iconst (pc := 5) (v := 2) dX6_again_5 (by decide) ?_
    refine z_icmp_lt (pc := 6) (tgt := 11) dX6_again_6 (by decide) (fun h6 => ?_) (fun h6 => ?_)
    · exact absurd h6 (h.elim (fun q => absurd q h1) (fun q => Int32.not_lt.mpr q))
    · refine z_iconst (pc := 9) (v := (-1)) dX6_again_9 (by decide) ?_
      refine z_iret (pc := 10) rfl dX6_again_10 ?_ ?_
      · rfl
      · rfl
set_option maxRecDepth 100000 in
set_option maxHeartbeats 400000 in
theorem o_X6_keep_0 {M : z_Mem} {l : Nat → Int32} {n : Nat} {T : TT} {U : UT} {D : DT} {p : PLt} {A : List PLt} {k0 k1 : Option PLt} {L : List (Int32 × Int32)} {sd : Int64} (hR : RX M l n T U D p A k0 k1 L sd) {x : Int32} (hx : x = 0) : ∃ M1, z_Ct mX6_keep [.ref 0, .int x] M (some (.int (nI p.2.2))) M1 ∧ RX M1 l n T U D p A (some p) k1 L sd ∧ Fx M M1 := by
  obtain ⟨rS, rT, rU, rD, rp, rA, r0, r1, rL, rs⟩ := id hR
  obtain ⟨N, c1, p1, s1⟩ := c_X2_become (q := 49) PL_49 PL_14 (by decide) (by decide) (by decide) rp
  have s2 : Sb [53] N (z_set N 53 0 1) := Sb.set _ (by simp)
  have s3 : Sb [49, 50, 53] M (z_set N 53 0 1) := (s1.wk (by simp)).tr (s2.wk (by simp))
  refine ⟨z_set N 53 0 1, ?_, ?_, ?_⟩
  · refine z_entry (by decide +kernel) (Nat.le_of_ble_eq_true rfl) rfl ?_
    show z_Sm mX6_keep _ _ 0 [some (.ref 0), some (.int x)] [] M
    refine z_iload_n (pc := 0) dX6_keep_0 rfl ?_
    refine z_if_lt (pc := 1) (tgt := 9) dX6_keep_1 (by decide) (fun h1 => ?_) (fun h1 => ?_)
    · exact absurd h1 (by rw [hx]; decide)
    · refine z_iload_n (pc := 4) dX6_keep_4 rfl ?_
      refine z_iconst (pc := 5) (v := 2) dX6_keep_5 (by decide) ?_
      refine z_icmp_lt (pc := 6) (tgt := 11) dX6_keep_6 (by decide) (fun h6 => ?_) (fun h6 => ?_)
      · refine z_aload_n (pc := 11) dX6_keep_11 rfl ?_
        refine z_getR (pc := 12) 48 q_fX6_49 z_s0 rfl dX6_keep_12 ?_
        refine z_iload_n (pc := 15) dX6_keep_15 rfl ?_
        refine z_aald (pc := 16) (0) z_s48 ⟨hx, by decide, by decide⟩ rfl dX6_keep_16 ?_
        refine z_aload_n (pc := 17) dX6_keep_17 rfl ?_
        refine z_getR (pc := 18) 14 q_fX6_35 z_s0 rfl dX6_keep_18 ?_
        refine z_cV1v (pc := 21) c1 (q_cX6_169 _ (by decide)) z_s49 rfl rfl dX6_keep_21 ?_
        refine z_aload_n (pc := 24) dX6_keep_24 rfl ?_
        refine z_getR (pc := 25) 53 q_fX6_53 z_s0 rfl dX6_keep_25 ?_
        refine z_iload_n (pc := 28) dX6_keep_28 rfl ?_
        refine z_iconst (pc := 29) (v := 1) dX6_keep_29 (by decide) ?_
        refine z_zast (pc := 30) (0) z_s53 ⟨hx, by decide, by decide⟩ z_bool1 dX6_keep_30 ?_
        refine z_aload_n (pc := 31) dX6_keep_31 rfl ?_
        refine z_getR (pc := 32) 14 q_fX6_35 z_s0 rfl dX6_keep_32 ?_
        refine z_getI (pc := 35) q_fX6_247 z_s14 rfl dX6_keep_35 ?_
        refine z_iret (pc := 38) rfl dX6_keep_38 ?_ ?_
        · rw [(PlAt_sb rp s3 (by simp) (by simp)).2.2]
        · rfl
      · exact absurd (by rw [hx]; decide) h6
  · refine ⟨ScAt_sb rS s3 (by simp) (by simp), TK_sb rT s3 (by simp), UK_sb rU s3 (by simp) (by simp) (by simp), DK_sb rD s3 (by simp) (by simp) (by simp), PlAt_sb rp s3 (by simp) (by simp), AcAt_sb rA s3 (by simp), ?_, ?_, TrAt_sb rL s3 (by simp) (by simp) (by simp), by rw [s3.2]; exact rs⟩
    · exact ⟨by rw [z_set, z_row_1, upd_1], PlAt_sb p1 s2 (by simp) (by simp)⟩
    · have e : (z_set N 53 0 1).1 53 1 = M.1 53 1 := by rw [z_set, z_row_1, upd_n _ _ (by decide), s1.1 53 (by simp)]
      cases k1 with
      | none => exact e.trans r1
      | some pl => exact ⟨e.trans r1.1, PlAt_sb r1.2 s3 (by simp) (by simp)⟩
  · exact s3.fx (by simp)
set_option maxRecDepth 100000 in
set_option maxHeartbeats 400000 in
theorem o_X6_again_no2_0 {M : z_Mem} {l : Nat → Int32} {n : Nat} {T : TT} {U : UT} {D : DT} {p : PLt} {A : List PLt} {k0 k1 : Option PLt} {L : List (Int32 × Int32)} {sd : Int64} (hR : RX M l n T U D p A k0 k1 L sd) {x : Int32} (hx : x = 0) (hk : k0 = none) : z_Ct mX6_again [.ref 0, .int x] M (some (.int (-3))) M := by
  obtain ⟨rS, rT, rU, rD, rp, rA, r0, r1, rL, rs⟩ := id hR
  subst hk
  refine z_entry (by decide +kernel) (Nat.le_of_ble_eq_true rfl) rfl ?_
  show z_Sm mX6_again _ _ 0 [some (.ref 0), some (.int x)] [] M
  refine z_iload_n (pc := 0) dX6_again_0 rfl ?_
  refine z_if_lt (pc := 1) (tgt := 9) dX6_again_1 (by decide) (fun h1 => ?_) (fun h1 => ?_)
  · exact absurd h1 (by rw [hx]; decide)
  · refine z_iload_n (pc := 4) dX6_again_4 rfl ?_
    refine z_iconst (pc := 5) (v := 2) dX6_again_5 (by decide) ?_
    refine z_icmp_lt (pc := 6) (tgt := 11) dX6_again_6 (by decide) (fun h6 => ?_) (fun h6 => ?_)
    · refine z_aload_n (pc := 11) dX6_again_11 rfl ?_
      refine z_getR (pc := 12) 53 q_fX6_53 z_s0 rfl dX6_again_12 ?_
      refine z_iload_n (pc := 15) dX6_again_15 rfl ?_
      refine z_zald (pc := 16) (0) z_s53 ⟨hx, by decide, by decide⟩ dX6_again_16 ?_
      refine z_if_ne (pc := 17) (tgt := 23) dX6_again_17 (by decide) (fun h17 => ?_) (fun h17 => ?_)
      · exact absurd r0 h17
      · refine z_bipush (pc := 20) (v := (-3)) dX6_again_20 (by decide) ?_
        refine z_iret (pc := 22) rfl dX6_again_22 ?_ ?_
        · rfl
        · rfl
    · exact absurd (by rw [hx]; decide) h6
set_option maxRecDepth 100000 in
set_option maxHeartbeats 400000 in
theorem o_X6_again_0 {M : z_Mem} {l : Nat → Int32} {n : Nat} {T : TT} {U : UT} {D : DT} {p : PLt} {A : List PLt} {k0 k1 : Option PLt} {L : List (Int32 × Int32)} {sd : Int64} (hR : RX M l n T U D p A k0 k1 L sd) {q : PLt} {x : Int32} (hx : x = 0) (hk : k0 = some q) : ∃ M1, z_Ct mX6_again [.ref 0, .int x] M (some (.int (nI q.2.2))) M1 ∧ RX M1 l n T U D q [] k0 k1 L sd ∧ Fx M M1 := by
  obtain ⟨rS, rT, rU, rD, rp, rA, r0, r1, rL, rs⟩ := id hR
  subst hk
  obtain ⟨N, c1, p1, s1⟩ := c_X2_become (q := 14) PL_14 PL_49 (by decide) (by decide) (by decide) r0.2
  have s2 : Sb [18] N (z_set N 18 2 0) := Sb.set _ (by simp)
  have s3 : Sb [14, 15, 18] M (z_set N 18 2 0) := (s1.wk (by simp)).tr (s2.wk (by simp))
  obtain ⟨t, ht, a1, a2, a3, a4⟩ := rA
  refine ⟨z_set N 18 2 0, ?_, RX_mid hR s3 (by simp) (PlAt_sb p1 s2 (by simp) (by simp)) ⟨t, ht, ?_, ?_, by simp, fun i pl hi => by simp at hi⟩, s3.fx (by simp)⟩
  · refine z_entry (by decide +kernel) (Nat.le_of_ble_eq_true rfl) rfl ?_
    show z_Sm mX6_again _ _ 0 [some (.ref 0), some (.int x)] [] M
    refine z_iload_n (pc := 0) dX6_again_0 rfl ?_
    refine z_if_lt (pc := 1) (tgt := 9) dX6_again_1 (by decide) (fun h1 => ?_) (fun h1 => ?_)
    · exact absurd h1 (by rw [hx]; decide)
    · refine z_iload_n (pc := 4) dX6_again_4 rfl ?_
      refine z_iconst (pc := 5) (v := 2) dX6_again_5 (by decide) ?_
      refine z_icmp_lt (pc := 6) (tgt := 11) dX6_again_6 (by decide) (fun h6 => ?_) (fun h6 => ?_)
      · refine z_aload_n (pc := 11) dX6_again_11 rfl ?_
        refine z_getR (pc := 12) 53 q_fX6_53 z_s0 rfl dX6_again_12 ?_
        refine z_iload_n (pc := 15) dX6_again_15 rfl ?_
        refine z_zald (pc := 16) (0) z_s53 ⟨hx, by decide, by decide⟩ dX6_again_16 ?_
        refine z_if_ne (pc := 17) (tgt := 23) dX6_again_17 (by decide) (fun h17 => ?_) (fun h17 => ?_)
        · refine z_aload_n (pc := 23) dX6_again_23 rfl ?_
          refine z_getR (pc := 24) 14 q_fX6_35 z_s0 rfl dX6_again_24 ?_
          refine z_aload_n (pc := 27) dX6_again_27 rfl ?_
          refine z_getR (pc := 28) 48 q_fX6_49 z_s0 rfl dX6_again_28 ?_
          refine z_iload_n (pc := 31) dX6_again_31 rfl ?_
          refine z_aald (pc := 32) (0) z_s48 ⟨hx, by decide, by decide⟩ rfl dX6_again_32 ?_
          refine z_cV1v (pc := 33) c1 (q_cX6_169 _ (by decide)) z_s14 rfl rfl dX6_again_33 ?_
          refine z_aload_n (pc := 36) dX6_again_36 rfl ?_
          refine z_getR (pc := 37) 18 q_fX6_45 z_s0 rfl dX6_again_37 ?_
          refine z_cV0v (pc := 40) c_X0_forget (q_cX6_94 _ (by decide)) z_s18 rfl rfl dX6_again_40 ?_
          refine z_aload_n (pc := 43) dX6_again_43 rfl ?_
          refine z_getR (pc := 44) 14 q_fX6_35 z_s0 rfl dX6_again_44 ?_
          refine z_getI (pc := 47) q_fX6_247 z_s14 rfl dX6_again_47 ?_
          refine z_iret (pc := 50) rfl dX6_again_50 ?_ ?_
          · rw [(PlAt_sb p1 s2 (by simp) (by simp)).2.2]
          · rfl
        · exact absurd (r0.1.symm.trans h17) (by decide)
      · exact absurd (by rw [hx]; decide) h6
  · rw [z_set, z_row_1, upd_n _ _ (by decide), s1.1 18 (by simp)]; exact a1
  · rw [z_set, z_row_1, upd_1]; rfl
set_option maxRecDepth 100000 in
set_option maxHeartbeats 400000 in
theorem o_X6_keep_1 {M : z_Mem} {l : Nat → Int32} {n : Nat} {T : TT} {U : UT} {D : DT} {p : PLt} {A : List PLt} {k0 k1 : Option PLt} {L : List (Int32 × Int32)} {sd : Int64} (hR : RX M l n T U D p A k0 k1 L sd) {x : Int32} (hx : x = 1) : ∃ M1, z_Ct mX6_keep [.ref 0, .int x] M (some (.int (nI p.2.2))) M1 ∧ RX M1 l n T U D p A k0 (some p) L sd ∧ Fx M M1 := by
  obtain ⟨rS, rT, rU, rD, rp, rA, r0, r1, rL, rs⟩ := id hR
  obtain ⟨N, c1, p1, s1⟩ := c_X2_become (q := 51) PL_51 PL_14 (by decide) (by decide) (by decide) rp
  have s2 : Sb [53] N (z_set N 53 1 1) := Sb.set _ (by simp)
  have s3 : Sb [51, 52, 53] M (z_set N 53 1 1) := (s1.wk (by simp)).tr (s2.wk (by simp))
  refine ⟨z_set N 53 1 1, ?_, ?_, ?_⟩
  · refine z_entry (by decide +kernel) (Nat.le_of_ble_eq_true rfl) rfl ?_
    show z_Sm mX6_keep _ _ 0 [some (.ref 0), some (.int x)] [] M
    refine z_iload_n (pc := 0) dX6_keep_0 rfl ?_
    refine z_if_lt (pc := 1) (tgt := 9) dX6_keep_1 (by decide) (fun h1 => ?_) (fun h1 => ?_)
    · exact absurd h1 (by rw [hx]; decide)
    · refine z_iload_n (pc := 4) dX6_keep_4 rfl ?_
      refine z_iconst (pc := 5) (v := 2) dX6_keep_5 (by decide) ?_
      refine z_icmp_lt (pc := 6) (tgt := 11) dX6_keep_6 (by decide) (fun h6 => ?_) (fun h6 => ?_)
      · refine z_aload_n (pc := 11) dX6_keep_11 rfl ?_
        refine z_getR (pc := 12) 48 q_fX6_49 z_s0 rfl dX6_keep_12 ?_
        refine z_iload_n (pc := 15) dX6_keep_15 rfl ?_
        refine z_aald (pc := 16) (1) z_s48 ⟨hx, by decide, by decide⟩ rfl dX6_keep_16 ?_
        refine z_aload_n (pc := 17) dX6_keep_17 rfl ?_
        refine z_getR (pc := 18) 14 q_fX6_35 z_s0 rfl dX6_keep_18 ?_
        refine z_cV1v (pc := 21) c1 (q_cX6_169 _ (by decide)) z_s51 rfl rfl dX6_keep_21 ?_
        refine z_aload_n (pc := 24) dX6_keep_24 rfl ?_
        refine z_getR (pc := 25) 53 q_fX6_53 z_s0 rfl dX6_keep_25 ?_
        refine z_iload_n (pc := 28) dX6_keep_28 rfl ?_
        refine z_iconst (pc := 29) (v := 1) dX6_keep_29 (by decide) ?_
        refine z_zast (pc := 30) (1) z_s53 ⟨hx, by decide, by decide⟩ z_bool1 dX6_keep_30 ?_
        refine z_aload_n (pc := 31) dX6_keep_31 rfl ?_
        refine z_getR (pc := 32) 14 q_fX6_35 z_s0 rfl dX6_keep_32 ?_
        refine z_getI (pc := 35) q_fX6_247 z_s14 rfl dX6_keep_35 ?_
        refine z_iret (pc := 38) rfl dX6_keep_38 ?_ ?_
        · rw [(PlAt_sb rp s3 (by simp) (by simp)).2.2]
        · rfl
      · exact absurd (by rw [hx]; decide) h6
  · refine ⟨ScAt_sb rS s3 (by simp) (by simp), TK_sb rT s3 (by simp), UK_sb rU s3 (by simp) (by simp) (by simp), DK_sb rD s3 (by simp) (by simp) (by simp), PlAt_sb rp s3 (by simp) (by simp), AcAt_sb rA s3 (by simp), ?_, ?_, TrAt_sb rL s3 (by simp) (by simp) (by simp), by rw [s3.2]; exact rs⟩
    · have e : (z_set N 53 1 1).1 53 0 = M.1 53 0 := by rw [z_set, z_row_1, upd_n _ _ (by decide), s1.1 53 (by simp)]
      cases k0 with
      | none => exact e.trans r0
      | some pl => exact ⟨e.trans r0.1, PlAt_sb r0.2 s3 (by simp) (by simp)⟩
    · exact ⟨by rw [z_set, z_row_1, upd_1], PlAt_sb p1 s2 (by simp) (by simp)⟩
  · exact s3.fx (by simp)
set_option maxRecDepth 100000 in
set_option maxHeartbeats 400000 in
theorem o_X6_again_no2_1 {M : z_Mem} {l : Nat → Int32} {n : Nat} {T : TT} {U : UT} {D : DT} {p : PLt} {A : List PLt} {k0 k1 : Option PLt} {L : List (Int32 × Int32)} {sd : Int64} (hR : RX M l n T U D p A k0 k1 L sd) {x : Int32} (hx : x = 1) (hk : k1 = none) : z_Ct mX6_again [.ref 0, .int x] M (some (.int (-3))) M := by
  obtain ⟨rS, rT, rU, rD, rp, rA, r0, r1, rL, rs⟩ := id hR
  subst hk
  refine z_entry (by decide +kernel) (Nat.le_of_ble_eq_true rfl) rfl ?_
  show z_Sm mX6_again _ _ 0 [some (.ref 0), some (.int x)] [] M
  refine z_iload_n (pc := 0) dX6_again_0 rfl ?_
  refine z_if_lt (pc := 1) (tgt := 9) dX6_again_1 (by decide) (fun h1 => ?_) (fun h1 => ?_)
  · exact absurd h1 (by rw [hx]; decide)
  · refine z_iload_n (pc := 4) dX6_again_4 rfl ?_
    refine z_iconst (pc := 5) (v := 2) dX6_again_5 (by decide) ?_
    refine z_icmp_lt (pc := 6) (tgt := 11) dX6_again_6 (by decide) (fun h6 => ?_) (fun h6 => ?_)
    · refine z_aload_n (pc := 11) dX6_again_11 rfl ?_
      refine z_getR (pc := 12) 53 q_fX6_53 z_s0 rfl dX6_again_12 ?_
      refine z_iload_n (pc := 15) dX6_again_15 rfl ?_
      refine z_zald (pc := 16) (1) z_s53 ⟨hx, by decide, by decide⟩ dX6_again_16 ?_
      refine z_if_ne (pc := 17) (tgt := 23) dX6_again_17 (by decide) (fun h17 => ?_) (fun h17 => ?_)
      · exact absurd r1 h17
      · refine z_bipush (pc := 20) (v := (-3)) dX6_again_20 (by decide) ?_
        refine z_iret (pc := 22) rfl dX6_again_22 ?_ ?_
        · rfl
        · rfl
    · exact absurd (by rw [hx]; decide) h6
set_option maxRecDepth 100000 in
set_option maxHeartbeats 400000 in
theorem o_X6_again_1 {M : z_Mem} {l : Nat → Int32} {n : Nat} {T : TT} {U : UT} {D : DT} {p : PLt} {A : List PLt} {k0 k1 : Option PLt} {L : List (Int32 × Int32)} {sd : Int64} (hR : RX M l n T U D p A k0 k1 L sd) {q : PLt} {x : Int32} (hx : x = 1) (hk : k1 = some q) : ∃ M1, z_Ct mX6_again [.ref 0, .int x] M (some (.int (nI q.2.2))) M1 ∧ RX M1 l n T U D q [] k0 k1 L sd ∧ Fx M M1 := by
  obtain ⟨rS, rT, rU, rD, rp, rA, r0, r1, rL, rs⟩ := id hR
  subst hk
  obtain ⟨N, c1, p1, s1⟩ := c_X2_become (q := 14) PL_14 PL_51 (by decide) (by decide) (by decide) r1.2
  have s2 : Sb [18] N (z_set N 18 2 0) := Sb.set _ (by simp)
  have s3 : Sb [14, 15, 18] M (z_set N 18 2 0) := (s1.wk (by simp)).tr (s2.wk (by simp))
  obtain ⟨t, ht, a1, a2, a3, a4⟩ := rA
  refine ⟨z_set N 18 2 0, ?_, RX_mid hR s3 (by simp) (PlAt_sb p1 s2 (by simp) (by simp)) ⟨t, ht, ?_, ?_, by simp, fun i pl hi => by simp at hi⟩, s3.fx (by simp)⟩
  · refine z_entry (by decide +kernel) (Nat.le_of_ble_eq_true rfl) rfl ?_
    show z_Sm mX6_again _ _ 0 [some (.ref 0), some (.int x)] [] M
    refine z_iload_n (pc := 0) dX6_again_0 rfl ?_
    refine z_if_lt (pc := 1) (tgt := 9) dX6_again_1 (by decide) (fun h1 => ?_) (fun h1 => ?_)
    · exact absurd h1 (by rw [hx]; decide)
    · refine z_iload_n (pc := 4) dX6_again_4 rfl ?_
      refine z_iconst (pc := 5) (v := 2) dX6_again_5 (by decide) ?_
      refine z_icmp_lt (pc := 6) (tgt := 11) dX6_again_6 (by decide) (fun h6 => ?_) (fun h6 => ?_)
      · refine z_aload_n (pc := 11) dX6_again_11 rfl ?_
        refine z_getR (pc := 12) 53 q_fX6_53 z_s0 rfl dX6_again_12 ?_
        refine z_iload_n (pc := 15) dX6_again_15 rfl ?_
        refine z_zald (pc := 16) (1) z_s53 ⟨hx, by decide, by decide⟩ dX6_again_16 ?_
        refine z_if_ne (pc := 17) (tgt := 23) dX6_again_17 (by decide) (fun h17 => ?_) (fun h17 => ?_)
        · refine z_aload_n (pc := 23) dX6_again_23 rfl ?_
          refine z_getR (pc := 24) 14 q_fX6_35 z_s0 rfl dX6_again_24 ?_
          refine z_aload_n (pc := 27) dX6_again_27 rfl ?_
          refine z_getR (pc := 28) 48 q_fX6_49 z_s0 rfl dX6_again_28 ?_
          refine z_iload_n (pc := 31) dX6_again_31 rfl ?_
          refine z_aald (pc := 32) (1) z_s48 ⟨hx, by decide, by decide⟩ rfl dX6_again_32 ?_
          refine z_cV1v (pc := 33) c1 (q_cX6_169 _ (by decide)) z_s14 rfl rfl dX6_again_33 ?_
          refine z_aload_n (pc := 36) dX6_again_36 rfl ?_
          refine z_getR (pc := 37) 18 q_fX6_45 z_s0 rfl dX6_again_37 ?_
          refine z_cV0v (pc := 40) c_X0_forget (q_cX6_94 _ (by decide)) z_s18 rfl rfl dX6_again_40 ?_
          refine z_aload_n (pc := 43) dX6_again_43 rfl ?_
          refine z_getR (pc := 44) 14 q_fX6_35 z_s0 rfl dX6_again_44 ?_
          refine z_getI (pc := 47) q_fX6_247 z_s14 rfl dX6_again_47 ?_
          refine z_iret (pc := 50) rfl dX6_again_50 ?_ ?_
          · rw [(PlAt_sb p1 s2 (by simp) (by simp)).2.2]
          · rfl
        · exact absurd (r1.1.symm.trans h17) (by decide)
      · exact absurd (by rw [hx]; decide) h6
  · rw [z_set, z_row_1, upd_n _ _ (by decide), s1.1 18 (by simp)]; exact a1
  · rw [z_set, z_row_1, upd_1]; rfl
