theorem in14 {x : Int32} (h : inB x.toInt64 1 4 = true) : ∃ m, x = nI m ∧ 1 ≤ m ∧ m ≤ 4 := by
  rw [inB_i 1 4 (by decide) (by decide), Bool.and_eq_true, Bool.not_eq_true', Bool.not_eq_true', decide_eq_false_iff_not, decide_eq_false_iff_not] at h
  obtain ⟨h1, h2⟩ := h
  have h0 : ¬ x < 0 := fun q => h1 (Int32.lt_trans q (by decide))
  obtain ⟨m, hm, e⟩ := nI_of2 (M := 4) (n := 4) (by decide) h0 (Int32.not_lt.mp h2)
  refine ⟨m, e, ?_, hm⟩
  rcases Nat.eq_zero_or_pos m with q | q
  · rw [e, q] at h1
    exact absurd (by decide) h1
  · exact q
theorem in_th {v : Int64} {k : Nat} (h1 : 1 ≤ k) (hk : k ≤ 10 ^ 12) : inB v 0 (lN k - 1) = true ↔ ¬ v < 0 ∧ v < lN k := by
  rw [inB, Bool.and_eq_true, decide_eq_true_eq, decide_eq_true_eq, ← Int64.not_lt, show (1 : Int64) = lN 1 from rfl, lN_sub h1]
  refine and_congr_right fun h0 => ?_
  obtain ⟨R, hR, e⟩ := pk_lOf h0
  rw [e, ← Int64.not_lt, pk_lLT (by omega) hR, pk_lLT hR (by omega)]
  omega
theorem DN_sb {ids : List Nat} {M N : z_Mem} {D : DT} (h : DN M D) (s : Sb ids M N) (hi : ∀ i ∈ ids, 67 < i) : DN N D := by
  unfold DN
  rw [s.1 59 (fun q => by have := hi _ q; omega), s.1 66 (fun q => by have := hi _ q; omega), s.1 67 (fun q => by have := hi _ q; omega)]
  exact h
theorem Sn.dn {lv : Nat} {M N : z_Mem} {D : DT} (s : Sn lv M N) (h : DN M D) : DN N D := DN_sb h s.1 (by simp)
theorem ctF_day {T : TT} {U : UT} {D : DT} {q q2 : PLt} {k a b : Nat} (h : ctF T U D q k a b = some q2) : q2.2.2 ≤ q.2.2 + 1 := by
  unfold ctF at h
  split at h
  · split at h
    · cases h; exact Nat.le_refl _
    · cases h
  split at h
  · split at h
    · cases h; exact Nat.le_succ _
    · cases h
  split at h
  · split at h
    · unfold clF at h
      split at h
      · cases h; exact Nat.le_succ _
      · cases h
    · cases h
  split at h
  · split at h
    · unfold opF at h
      split at h
      · cases h; exact Nat.le_succ _
      · cases h
    · cases h
  split at h
  · split at h
    · cases h; exact Nat.le_succ _
    · cases h
  split at h
  · split at h
    · cases h; exact Nat.le_succ _
    · cases h
  · cases h
set_option maxRecDepth 100000 in
set_option maxHeartbeats 400000 in
theorem s_X7_judge_36 {T : TT} {U : UT} {D : DT} {x : Int32} {v : Int64} {m R : Nat} (hx : x = nI m) (hm : m ≤ 4) (hv : v = lN R) (hR : R < 10 ^ 12) : ∀ (f : Nat) (Mj : z_Mem) (q : PLt) (ij : Int32) (i : Nat), TN Mj T → UN Mj U → DN Mj D → PM Mj 1 q → q.2.2 + f < 2 ^ 29 → ij = nI i → i + f = m → ∃ M2, z_Sm mX7_judge (some (.int (jdF T U D m R f i q))) M2 36 [some (.ref 59), some (.int x), some (.long v), none, some (.int ij), none] [] Mj ∧ Sn 1 Mj M2 := by
  intro f
  induction f with
  | zero =>
    intro Mj q ij i hT hU hD hp hd h2 hi
    refine ⟨Mj, ?_, Sn.rf⟩
    refine z_iload (pc := 36) dX7_judge_36 rfl ?_
    refine z_iload_n (pc := 38) dX7_judge_38 rfl ?_
    refine z_icmp_ge (pc := 39) (tgt := 94) dX7_judge_39 (by decide) (fun h39 => ?_) (fun h39 => ?_)
    · refine z_bipush (pc := 94) (v := (-9)) dX7_judge_94 (by decide) ?_
      refine z_iret (pc := 96) rfl dX7_judge_96 ?_ ?_
      · rfl
      · rfl
    · exact absurd (z_lt h39 h2 hx (by omega) (by omega)) (by omega)
  | succ f ih =>
    intro Mj q ij i hT hU hD hp hd h2 hi
    have hI : x - 1 - ij = nI (m - 1 - i) := by
      rw [hx, h2, show (1 : Int32) = nI 1 from rfl, pk_sub (by omega), pk_sub (by omega)]
    have hE := TH_le (m - 1 - i) (by omega)
    have htd : (v / lN (1000 ^ (m - 1 - i)) - v / lN (1000 ^ (m - 1 - i)) / 1000 * 1000).toInt32 = nI (tdF m R i) := by
      rw [hv, pk_lDiv (by omega) hE.1 (by omega)]
      rw [show (1000 : Int64) = lN 1000 from rfl, pk_lRem (by have := Nat.div_le_self R (1000 ^ (m - 1 - i)); omega) (by decide) (by decide), lN_i]
      rfl
    have ht : tdF m R i < 1000 := Nat.mod_lt _ (by decide)
    have d1 : nI (tdF m R i) / 100 = nI (tdF m R i / 100) := pk_div (d := 100) (by omega) (by decide) (by decide)
    have d2 : nI (tdF m R i) / 10 = nI (tdF m R i / 10) := pk_div (d := 10) (by omega) (by decide) (by decide)
    have d3 : nI (tdF m R i / 10) - nI (tdF m R i / 10) / 10 * 10 = nI (tdF m R i / 10 % 10) := pk_rem (d := 10) (by omega) (by decide) (by decide)
    have d4 : nI (tdF m R i) - nI (tdF m R i) / 10 * 10 = nI (tdF m R i % 10) := pk_rem (d := 10) (by omega) (by decide) (by decide)
    have hne : ¬ lN (1000 ^ (m - 1 - i)) = 0 := by
      rw [show (0 : Int64) = lN 0 from rfl, pk_lEQ (by omega) (by decide)]; omega
    obtain ⟨N, c1, p1, s1⟩ := c_X7_tryThing hT hU hD hp (by omega) (k := tdF m R i / 100) (a := tdF m R i / 10 % 10) (b := tdF m R i % 10) d1 (d2 ▸ d3) d4 (by omega) (by omega) (by omega)
    cases hc : ctF T U D q (tdF m R i / 100) (tdF m R i / 10 % 10) (tdF m R i % 10) with
    | none =>
      rw [hc] at c1
      have e : jdF T U D m R (f + 1) i q = nI i := by rw [jdF, hc]
      rw [e]
      refine ⟨N, ?_, s1⟩
      refine z_iload (pc := 36) dX7_judge_36 rfl ?_
      refine z_iload_n (pc := 38) dX7_judge_38 rfl ?_
      refine z_icmp_ge (pc := 39) (tgt := 94) dX7_judge_39 (by decide) (fun h39 => ?_) (fun h39 => ?_)
      · exact absurd (z_ge h39 h2 hx (by omega) (by omega)) (by omega)
      · refine z_lload_n (pc := 42) dX7_judge_42 rfl ?_
        refine z_iload_n (pc := 43) dX7_judge_43 rfl ?_
        refine z_iconst (pc := 44) (v := 1) dX7_judge_44 (by decide) ?_
        refine z_isub (pc := 45) dX7_judge_45 ?_
        refine z_iload (pc := 46) dX7_judge_46 rfl ?_
        refine z_isub (pc := 48) dX7_judge_48 ?_
        rw [hI]
        refine z_cS1 (pc := 49) (c_X7_thousandTo (e := m - 1 - i) (by omega)) (q_cX7_187 _ (by decide)) rfl dX7_judge_49 ?_
        refine z_ldiv (pc := 52) dX7_judge_52 hne ?_
        refine z_ldc2 (pc := 53) q_kX7_183 dX7_judge_53 ?_
        refine z_lrem (pc := 56) dX7_judge_56 (by decide) ?_
        refine z_l2i (pc := 57) dX7_judge_57 rfl ?_
        rw [htd]
        refine z_istore (pc := 58) dX7_judge_58 rfl (by decide) ?_
        refine z_aload_n (pc := 60) dX7_judge_60 rfl ?_
        refine z_iload (pc := 61) dX7_judge_61 rfl ?_
        refine z_bipush (pc := 63) (v := 100) dX7_judge_63 (by decide) ?_
        refine z_idiv (pc := 65) dX7_judge_65 (by decide) ?_
        refine z_iload (pc := 66) dX7_judge_66 rfl ?_
        refine z_bipush (pc := 68) (v := 10) dX7_judge_68 (by decide) ?_
        refine z_idiv (pc := 70) dX7_judge_70 (by decide) ?_
        refine z_bipush (pc := 71) (v := 10) dX7_judge_71 (by decide) ?_
        refine z_irem (pc := 73) dX7_judge_73 (by decide) ?_
        refine z_iload (pc := 74) dX7_judge_74 rfl ?_
        refine z_bipush (pc := 76) (v := 10) dX7_judge_76 (by decide) ?_
        refine z_irem (pc := 78) dX7_judge_78 (by decide) ?_
        refine z_cV3 (pc := 79) c1 (q_cX7_191 _ (by decide)) z_s59 rfl rfl dX7_judge_79 ?_
        refine z_if_ne (pc := 82) (tgt := 88) dX7_judge_82 (by decide) (fun h82 => ?_) (fun h82 => ?_)
        · exact absurd rfl h82
        · refine z_iload (pc := 85) dX7_judge_85 rfl ?_
          refine z_iret (pc := 87) rfl dX7_judge_87 ?_ ?_
          · exact h2
          · rfl
    | some q2 =>
      have p1 := p1 q2 hc
      rw [hc] at c1
      have e : jdF T U D m R (f + 1) i q = jdF T U D m R f (i + 1) q2 := by rw [jdF, hc]
      rw [e]
      have g2 : q2.2.2 ≤ q.2.2 + 1 := ctF_day hc
      obtain ⟨M2, h3, s2⟩ := ih N q2 (ij + Int32.ofInt 1) (i + 1) (s1.tn hT) (s1.un hU) (s1.dn hD) p1 (by omega) (z_n1 h2) (by omega)
      refine ⟨M2, ?_, s1.tr s2⟩
      refine z_iload (pc := 36) dX7_judge_36 rfl ?_
      refine z_iload_n (pc := 38) dX7_judge_38 rfl ?_
      refine z_icmp_ge (pc := 39) (tgt := 94) dX7_judge_39 (by decide) (fun h39 => ?_) (fun h39 => ?_)
      · exact absurd (z_ge h39 h2 hx (by omega) (by omega)) (by omega)
      · refine z_lload_n (pc := 42) dX7_judge_42 rfl ?_
        refine z_iload_n (pc := 43) dX7_judge_43 rfl ?_
        refine z_iconst (pc := 44) (v := 1) dX7_judge_44 (by decide) ?_
        refine z_isub (pc := 45) dX7_judge_45 ?_
        refine z_iload (pc := 46) dX7_judge_46 rfl ?_
        refine z_isub (pc := 48) dX7_judge_48 ?_
        rw [hI]
        refine z_cS1 (pc := 49) (c_X7_thousandTo (e := m - 1 - i) (by omega)) (q_cX7_187 _ (by decide)) rfl dX7_judge_49 ?_
        refine z_ldiv (pc := 52) dX7_judge_52 hne ?_
        refine z_ldc2 (pc := 53) q_kX7_183 dX7_judge_53 ?_
        refine z_lrem (pc := 56) dX7_judge_56 (by decide) ?_
        refine z_l2i (pc := 57) dX7_judge_57 rfl ?_
        rw [htd]
        refine z_istore (pc := 58) dX7_judge_58 rfl (by decide) ?_
        refine z_aload_n (pc := 60) dX7_judge_60 rfl ?_
        refine z_iload (pc := 61) dX7_judge_61 rfl ?_
        refine z_bipush (pc := 63) (v := 100) dX7_judge_63 (by decide) ?_
        refine z_idiv (pc := 65) dX7_judge_65 (by decide) ?_
        refine z_iload (pc := 66) dX7_judge_66 rfl ?_
        refine z_bipush (pc := 68) (v := 10) dX7_judge_68 (by decide) ?_
        refine z_idiv (pc := 70) dX7_judge_70 (by decide) ?_
        refine z_bipush (pc := 71) (v := 10) dX7_judge_71 (by decide) ?_
        refine z_irem (pc := 73) dX7_judge_73 (by decide) ?_
        refine z_iload (pc := 74) dX7_judge_74 rfl ?_
        refine z_bipush (pc := 76) (v := 10) dX7_judge_76 (by decide) ?_
        refine z_irem (pc := 78) dX7_judge_78 (by decide) ?_
        refine z_cV3 (pc := 79) c1 (q_cX7_191 _ (by decide)) z_s59 rfl rfl dX7_judge_79 ?_
        refine z_if_ne (pc := 82) (tgt := 88) dX7_judge_82 (by decide) (fun h82 => ?_) (fun h82 => ?_)
        · refine z_iinc (pc := 88) dX7_judge_88 rfl rfl rfl (by decide) ?_
          refine z_goto (pc := 91) (tgt := 36) dX7_judge_91 (by decide) ?_
          exact z_drop 5 h3
        · exact absurd h82 (show ¬ (1 : Int32) = 0 by decide)
set_option maxRecDepth 100000 in
set_option maxHeartbeats 400000 in
theorem o_X7_judge_no {M : z_Mem} {l : Nat → Int32} {n : Nat} {T : TT} {U : UT} {D : DT} {p : PLt} {A : List PLt} {k0 k1 : Option PLt} {L : List (Int32 × Int32)} {sd : Int64} (hR : RM M l n T U D p A k0 k1 L sd) {x : Int32} {v : Int64} (h : ¬ jdOk x v) : z_Ct mX7_judge [.ref 59, .int x, .long v] M (some (.int (-2))) M := by
  obtain ⟨rS, rT, rU, rD, rp, rA, r0, r1, rL, rs⟩ := id hR

  refine z_entry (by decide +kernel) (Nat.le_of_ble_eq_true rfl) rfl ?_
  show z_Sm mX7_judge _ _ 0 [some (.ref 59), some (.int x), some (.long v), none, none, none] [] M
  refine z_iload_n (pc := 0) dX7_judge_0 rfl ?_
  refine z_i2l (pc := 1) dX7_judge_1 rfl ?_
  refine z_lconst (pc := 2) (v := 1) dX7_judge_2 (by decide) ?_
  refine z_ldc2 (pc := 3) q_kX7_185 dX7_judge_3 ?_
  refine z_cS3 (pc := 6) c_X7_in (q_cX7_70 _ (by decide)) rfl dX7_judge_6 ?_
  refine z_if_eq (pc := 9) (tgt := 26) dX7_judge_9 (by decide) (fun h9 => ?_) (fun h9 => ?_)
  · refine z_bipush (pc := 26) (v := (-2)) dX7_judge_26 (by decide) ?_
    refine z_iret (pc := 28) rfl dX7_judge_28 ?_ ?_
    · rfl
    · rfl
  · obtain ⟨m, hxm, hm1, hm4⟩ := in14 (z_t h9)
    subst hxm
    have hE := TH_le m (by omega)
    have hcl : (nI m).toNatClampNeg = m := nI_clamp (by omega)
    refine z_lload_n (pc := 12) dX7_judge_12 rfl ?_
    refine z_lconst (pc := 13) (v := 0) dX7_judge_13 (by decide) ?_
    refine z_iload_n (pc := 14) dX7_judge_14 rfl ?_
    refine z_cS1 (pc := 15) (c_X7_thousandTo (e := m) (by omega)) (q_cX7_187 _ (by decide)) rfl dX7_judge_15 ?_
    refine z_lconst (pc := 18) (v := 1) dX7_judge_18 (by decide) ?_
    refine z_lsub (pc := 19) dX7_judge_19 ?_
    refine z_cS3 (pc := 20) c_X7_in (q_cX7_70 _ (by decide)) rfl dX7_judge_20 ?_
    refine z_if_ne (pc := 23) (tgt := 29) dX7_judge_23 (by decide) (fun h23 => ?_) (fun h23 => ?_)
    · exfalso
      have q := (in_th hE.1 hE.2).mp (z_t h23)
      exact h ⟨fun z => absurd ((nI_ltI (b := 1) (by omega) (by decide)).mp z) (by omega), fun z => absurd ((nI_ltI (a := 4) (by decide) (by omega)).mp z) (by omega), q.1, by rw [hcl, TH_at m (by omega)]; exact q.2⟩
    · refine z_bipush (pc := 26) (v := (-2)) dX7_judge_26 (by decide) ?_
      refine z_iret (pc := 28) rfl dX7_judge_28 ?_ ?_
      · rfl
      · rfl
set_option maxRecDepth 100000 in
set_option maxHeartbeats 400000 in
theorem o_X7_judge {M : z_Mem} {l : Nat → Int32} {n : Nat} {T : TT} {U : UT} {D : DT} {p : PLt} {A : List PLt} {k0 k1 : Option PLt} {L : List (Int32 × Int32)} {sd : Int64} (hR : RM M l n T U D p A k0 k1 L sd) (hd : p.2.2 < 2 ^ 28) {x : Int32} {v : Int64} {m R : Nat} (hx : x = nI m) (hm1 : 1 ≤ m) (hm : m ≤ 4) (hv : v = lN R) (hRm : R < 1000 ^ m) : ∃ M1, z_Ct mX7_judge [.ref 59, .int x, .long v] M (some (.int (jdF T U D m R m 0 p))) M1 ∧ RM M1 l n T U D p A k0 k1 L sd ∧ Fm M M1 := by
  obtain ⟨rS, rT, rU, rD, rp, rA, r0, r1, rL, rs⟩ := id hR
  have hE := TH_le m (by omega)
  have hR12 : R < 10 ^ 12 := by omega
  obtain ⟨N, c0, p0, s0⟩ := c_X7_layTrial rp
  obtain ⟨M2, h3, s2⟩ := s_X7_judge_36 hx hm hv hR12 m N p 0 0 (s0.tn rT) (s0.un rU) (s0.dn rD) p0 (by omega) rfl (by omega)
  have hin : inB x.toInt64 1 4 = true := inB_yes (b := 1) (c := 4) 1 4 (by decide) (by decide) (fun q => q.elim (fun z => absurd ((nI_ltI (b := 1) (by omega) (by decide)).mp (hx ▸ z)) (by omega)) (fun z => absurd ((nI_ltI (a := 4) (by decide) (by omega)).mp (hx ▸ z)) (by omega)))
  have hin2 : inB v 0 (lN (1000 ^ m) - 1) = true := (in_th hE.1 hE.2).mpr ⟨fun z => by rw [hv, show (0 : Int64) = lN 0 from rfl, pk_lLT (by omega) (by decide)] at z; omega, by rw [hv, pk_lLT (by omega) (by omega)]; exact hRm⟩
  refine ⟨M2, ?_, RM_th hR (s0.tr s2), (s0.tr s2).1.fm (by simp)⟩
  refine z_entry (by decide +kernel) (Nat.le_of_ble_eq_true rfl) rfl ?_
  show z_Sm mX7_judge _ _ 0 [some (.ref 59), some (.int x), some (.long v), none, none, none] [] M
  refine z_iload_n (pc := 0) dX7_judge_0 rfl ?_
  refine z_i2l (pc := 1) dX7_judge_1 rfl ?_
  refine z_lconst (pc := 2) (v := 1) dX7_judge_2 (by decide) ?_
  refine z_ldc2 (pc := 3) q_kX7_185 dX7_judge_3 ?_
  refine z_cS3 (pc := 6) c_X7_in (q_cX7_70 _ (by decide)) rfl dX7_judge_6 ?_
  refine z_if_eq (pc := 9) (tgt := 26) dX7_judge_9 (by decide) (fun h9 => ?_) (fun h9 => ?_)
  · rw [hin] at h9; exact absurd h9 (by decide)
  · refine z_lload_n (pc := 12) dX7_judge_12 rfl ?_
    refine z_lconst (pc := 13) (v := 0) dX7_judge_13 (by decide) ?_
    refine z_iload_n (pc := 14) dX7_judge_14 rfl ?_
    rw [hx]
    refine z_cS1 (pc := 15) (c_X7_thousandTo (e := m) (by omega)) (q_cX7_187 _ (by decide)) rfl dX7_judge_15 ?_
    refine z_lconst (pc := 18) (v := 1) dX7_judge_18 (by decide) ?_
    refine z_lsub (pc := 19) dX7_judge_19 ?_
    refine z_cS3 (pc := 20) c_X7_in (q_cX7_70 _ (by decide)) rfl dX7_judge_20 ?_
    refine z_if_ne (pc := 23) (tgt := 29) dX7_judge_23 (by decide) (fun h23 => ?_) (fun h23 => ?_)
    · refine z_aload_n (pc := 29) dX7_judge_29 rfl ?_
      refine z_cV0v (pc := 30) c0 (q_cX7_174 _ (by decide)) z_s59 rfl rfl dX7_judge_30 ?_
      refine z_iconst (pc := 33) (v := 0) dX7_judge_33 (by decide) ?_
      refine z_istore (pc := 34) dX7_judge_34 rfl (by decide) ?_
      rw [← hx]
      exact h3
    · rw [hin2] at h23; exact absurd h23 (by decide)
