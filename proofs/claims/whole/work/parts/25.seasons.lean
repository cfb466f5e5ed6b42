theorem TH_at : ∀ e, e < 5 → z_TH.getD e 0 = lN (1000 ^ e) := by decide +kernel
theorem TH_le : ∀ e, e < 5 → 0 < 1000 ^ e ∧ 1000 ^ e ≤ 10 ^ 12 := by decide +kernel
/-- a doing as told: its three figures -/
def tdF (n R i : Nat) : Nat := R / 1000 ^ (n - 1 - i) % 1000
def jdF (T : TT) (U : UT) (D : DT) (n R : Nat) : Nat → Nat → PLt → Int32
  | 0, _, _ => -9
  | f + 1, i, q => match ctF T U D q (tdF n R i / 100) (tdF n R i / 10 % 10) (tdF n R i % 10) with
    | none => nI i
    | some q2 => jdF T U D n R f (i + 1) q2
theorem DK_th {M N : z_Mem} {D : DT} (h : DK M D) (s : Sb [13, 16, 17] M N) : DK N D := DK_sb h s (by simp) (by simp) (by simp)
theorem tugF_sm {T : TT} {q : PLt} {a : Nat} {w : Int32} (hP : T.1 ≤ 7) (ho : sm7 q.1) : sm7 (tugF T q a w).1 := pgF_sm hP ho _
theorem ctF_sm {T : TT} {U : UT} {D : DT} {q q2 : PLt} {k a b : Nat} (hP : T.1 ≤ 7) (ho : sm7 q.1) (h : ctF T U D q k a b = some q2) : sm7 q2.1 ∧ q2.2.2 ≤ q.2.2 + 1 := by
  unfold ctF at h
  split at h
  · split at h
    · cases h; exact ⟨dayF_sm hP ho, Nat.le_refl _⟩
    · cases h
  split at h
  · split at h
    · cases h; exact ⟨tugF_sm hP ho, Nat.le_succ _⟩
    · cases h
  split at h
  · split at h
    · unfold clF at h
      split at h
      · cases h; exact ⟨sm7_and ho, Nat.le_succ _⟩
      · cases h
    · cases h
  split at h
  · split at h
    · unfold opF at h
      split at h
      · next h9 => cases h; exact ⟨sm7_or ho (sm7_em (by omega)), Nat.le_succ _⟩
      · cases h
    · cases h
  split at h
  · split at h
    · cases h; exact ⟨ho, Nat.le_succ _⟩
    · cases h
  split at h
  · split at h
    · cases h; exact ⟨ho, Nat.le_succ _⟩
    · cases h
  · cases h
set_option maxRecDepth 100000 in
set_option maxHeartbeats 400000 in
theorem s_X6_judge_43 {T : TT} {U : UT} {D : DT} {x : Int32} {v : Int64} {m R : Nat} (hx : x = nI m) (hm : m ≤ 4) (hv : v = lN R) (hR : R < 10 ^ 12) {w : Option Value} : ∀ (f : Nat) (Mj : z_Mem) (q : PLt) (ij : Int32) (i : Nat), TK Mj T → UK Mj U → DK Mj D → PlAt Mj 16 q → sm7 q.1 → q.2.2 + f < 2 ^ 29 → ij = nI i → i + f = m → ∃ M2, z_Sm mX6_judge (some (.int (jdF T U D m R f i q))) M2 43 [some (.ref 0), some (.int x), some (.long v), none, some (.int ij), none] [] Mj ∧ Sb [13, 16, 17] Mj M2 := by
  intro f
  induction f with
  | zero =>
    intro Mj q ij i hT hU hD hp ho hd h2 hi
    refine ⟨Mj, ?_, Sb.rf⟩
    refine z_iload (pc := 43) dX6_judge_43 rfl ?_
    refine z_iload_n (pc := 45) dX6_judge_45 rfl ?_
    refine z_icmp_ge (pc := 46) (tgt := 102) dX6_judge_46 (by decide) (fun h46 => ?_) (fun h46 => ?_)
    · refine z_bipush (pc := 102) (v := (-9)) dX6_judge_102 (by decide) ?_
      refine z_iret (pc := 104) rfl dX6_judge_104 ?_ ?_
      · rfl
      · rfl
    · exact absurd (z_lt h46 h2 hx (by omega) (by omega)) (by omega)
  | succ f ih =>
    intro Mj q ij i hT hU hD hp ho hd h2 hi
    have hI : x - 1 - ij = nI (m - 1 - i) := by
      rw [hx, h2, show (1 : Int32) = nI 1 from rfl, pk_sub (by omega), pk_sub (by omega)]
    have hE := TH_le (m - 1 - i) (by omega)
    have hT9 := TH_at (m - 1 - i) (by omega)
    have htd : (v / z_TH.getD (m - 1 - i) 0 - v / z_TH.getD (m - 1 - i) 0 / 1000 * 1000).toInt32 = nI (tdF m R i) := by
      rw [hv, hT9, pk_lDiv (by omega) hE.1 (by omega)]
      rw [show (1000 : Int64) = lN 1000 from rfl, pk_lRem (by have := Nat.div_le_self R (1000 ^ (m - 1 - i)); omega) (by decide) (by decide), lN_i]
      rfl
    have ht : tdF m R i < 1000 := Nat.mod_lt _ (by decide)
    have d1 : nI (tdF m R i) / 100 = nI (tdF m R i / 100) := pk_div (d := 100) (by omega) (by decide) (by decide)
    have d2 : nI (tdF m R i) / 10 = nI (tdF m R i / 10) := pk_div (d := 10) (by omega) (by decide) (by decide)
    have d3 : nI (tdF m R i / 10) - nI (tdF m R i / 10) / 10 * 10 = nI (tdF m R i / 10 % 10) := pk_rem (d := 10) (by omega) (by decide) (by decide)
    have d4 : nI (tdF m R i) - nI (tdF m R i) / 10 * 10 = nI (tdF m R i % 10) := pk_rem (d := 10) (by omega) (by decide) (by decide)
    have hne : ¬ z_TH.getD (m - 1 - i) 0 = 0 := by
      rw [hT9, show (0 : Int64) = lN 0 from rfl, pk_lEQ (by omega) (by decide)]; omega
    obtain ⟨N, c1, p1, s1⟩ := c_X6_comesTrue hT hU hD hp ho (by omega) (k := tdF m R i / 100) (a := tdF m R i / 10 % 10) (b := tdF m R i % 10) d1 (d2 ▸ d3) d4 (by omega) (by omega) (by omega)
    cases hc : ctF T U D q (tdF m R i / 100) (tdF m R i / 10 % 10) (tdF m R i % 10) with
    | none =>
      rw [hc] at c1 p1
      have e : jdF T U D m R (f + 1) i q = nI i := by rw [jdF, hc]
      rw [e]
      refine ⟨N, ?_, s1⟩
      refine z_iload (pc := 43) dX6_judge_43 rfl ?_
      refine z_iload_n (pc := 45) dX6_judge_45 rfl ?_
      refine z_icmp_ge (pc := 46) (tgt := 102) dX6_judge_46 (by decide) (fun h46 => ?_) (fun h46 => ?_)
      · exact absurd (z_ge h46 h2 hx (by omega) (by omega)) (by omega)
      · refine z_lload_n (pc := 49) dX6_judge_49 rfl ?_
        refine z_getTH (pc := 50) q_sX6_202 dX6_judge_50 ?_
        refine z_iload_n (pc := 53) dX6_judge_53 rfl ?_
        refine z_iconst (pc := 54) (v := 1) dX6_judge_54 (by decide) ?_
        refine z_isub (pc := 55) dX6_judge_55 ?_
        refine z_iload (pc := 56) dX6_judge_56 rfl ?_
        refine z_isub (pc := 58) dX6_judge_58 ?_
        refine z_laldTH (pc := 59) (m - 1 - i) ⟨hI, by omega⟩ dX6_judge_59 ?_
        refine z_ldiv (pc := 60) dX6_judge_60 hne ?_
        refine z_ldc2 (pc := 61) q_kX6_206 dX6_judge_61 ?_
        refine z_lrem (pc := 64) dX6_judge_64 (by decide) ?_
        refine z_l2i (pc := 65) dX6_judge_65 rfl ?_
        rw [htd]
        refine z_istore (pc := 66) dX6_judge_66 rfl (by decide) ?_
        refine z_aload_n (pc := 68) dX6_judge_68 rfl ?_
        refine z_iload (pc := 69) dX6_judge_69 rfl ?_
        refine z_bipush (pc := 71) (v := 100) dX6_judge_71 (by decide) ?_
        refine z_idiv (pc := 73) dX6_judge_73 (by decide) ?_
        refine z_iload (pc := 74) dX6_judge_74 rfl ?_
        refine z_bipush (pc := 76) (v := 10) dX6_judge_76 (by decide) ?_
        refine z_idiv (pc := 78) dX6_judge_78 (by decide) ?_
        refine z_bipush (pc := 79) (v := 10) dX6_judge_79 (by decide) ?_
        refine z_irem (pc := 81) dX6_judge_81 (by decide) ?_
        refine z_iload (pc := 82) dX6_judge_82 rfl ?_
        refine z_bipush (pc := 84) (v := 10) dX6_judge_84 (by decide) ?_
        refine z_irem (pc := 86) dX6_judge_86 (by decide) ?_
        refine z_cV3 (pc := 87) c1 (q_cX6_208 _ (by decide)) z_s0 rfl rfl dX6_judge_87 ?_
        refine z_if_ne (pc := 90) (tgt := 96) dX6_judge_90 (by decide) (fun h90 => ?_) (fun h90 => ?_)
        · exact absurd rfl h90
        · refine z_iload (pc := 93) dX6_judge_93 rfl ?_
          refine z_iret (pc := 95) rfl dX6_judge_95 ?_ ?_
          · exact h2
          · rfl
    | some q2 =>
      rw [hc] at c1 p1
      have e : jdF T U D m R (f + 1) i q = jdF T U D m R f (i + 1) q2 := by rw [jdF, hc]
      rw [e]
      obtain ⟨g1, g2⟩ := ctF_sm hT.1.2.1 ho hc
      obtain ⟨M2, h3, s2⟩ := ih N q2 (ij + Int32.ofInt 1) (i + 1) (TK_th hT s1) (UK_th hU s1) (DK_th hD s1) p1 g1 (by omega) (z_n1 h2) (by omega)
      refine ⟨M2, ?_, s1.tr s2⟩
      refine z_iload (pc := 43) dX6_judge_43 rfl ?_
      refine z_iload_n (pc := 45) dX6_judge_45 rfl ?_
      refine z_icmp_ge (pc := 46) (tgt := 102) dX6_judge_46 (by decide) (fun h46 => ?_) (fun h46 => ?_)
      · exact absurd (z_ge h46 h2 hx (by omega) (by omega)) (by omega)
      · refine z_lload_n (pc := 49) dX6_judge_49 rfl ?_
        refine z_getTH (pc := 50) q_sX6_202 dX6_judge_50 ?_
        refine z_iload_n (pc := 53) dX6_judge_53 rfl ?_
        refine z_iconst (pc := 54) (v := 1) dX6_judge_54 (by decide) ?_
        refine z_isub (pc := 55) dX6_judge_55 ?_
        refine z_iload (pc := 56) dX6_judge_56 rfl ?_
        refine z_isub (pc := 58) dX6_judge_58 ?_
        refine z_laldTH (pc := 59) (m - 1 - i) ⟨hI, by omega⟩ dX6_judge_59 ?_
        refine z_ldiv (pc := 60) dX6_judge_60 hne ?_
        refine z_ldc2 (pc := 61) q_kX6_206 dX6_judge_61 ?_
        refine z_lrem (pc := 64) dX6_judge_64 (by decide) ?_
        refine z_l2i (pc := 65) dX6_judge_65 rfl ?_
        rw [htd]
        refine z_istore (pc := 66) dX6_judge_66 rfl (by decide) ?_
        refine z_aload_n (pc := 68) dX6_judge_68 rfl ?_
        refine z_iload (pc := 69) dX6_judge_69 rfl ?_
        refine z_bipush (pc := 71) (v := 100) dX6_judge_71 (by decide) ?_
        refine z_idiv (pc := 73) dX6_judge_73 (by decide) ?_
        refine z_iload (pc := 74) dX6_judge_74 rfl ?_
        refine z_bipush (pc := 76) (v := 10) dX6_judge_76 (by decide) ?_
        refine z_idiv (pc := 78) dX6_judge_78 (by decide) ?_
        refine z_bipush (pc := 79) (v := 10) dX6_judge_79 (by decide) ?_
        refine z_irem (pc := 81) dX6_judge_81 (by decide) ?_
        refine z_iload (pc := 82) dX6_judge_82 rfl ?_
        refine z_bipush (pc := 84) (v := 10) dX6_judge_84 (by decide) ?_
        refine z_irem (pc := 86) dX6_judge_86 (by decide) ?_
        refine z_cV3 (pc := 87) c1 (q_cX6_208 _ (by decide)) z_s0 rfl rfl dX6_judge_87 ?_
        refine z_if_ne (pc := 90) (tgt := 96) dX6_judge_90 (by decide) (fun h90 => ?_) (fun h90 => ?_)
        · refine z_iinc (pc := 96) dX6_judge_96 rfl rfl rfl (by decide) ?_
          refine z_goto (pc := 99) (tgt := 43) dX6_judge_99 (by decide) ?_
          exact z_drop 5 h3
        · exact absurd h90 (show ¬ (1 : Int32) = 0 by decide)
def jdOk (x : Int32) (v : Int64) : Prop := ¬ x < 1 ∧ ¬ 4 < x ∧ ¬ v < 0 ∧ v < z_TH.getD x.toNatClampNeg 0
theorem jdOk_at {x : Int32} {v : Int64} (h : jdOk x v) : ∃ m R, x = nI m ∧ 1 ≤ m ∧ m ≤ 4 ∧ v = lN R ∧ R < 1000 ^ m ∧ R < 10 ^ 12 := by
  obtain ⟨h1, h2, h3, h4⟩ := h
  have h0 : ¬ x < 0 := fun q => h1 (Int32.lt_trans q (by decide))
  obtain ⟨m, hm, e⟩ := nI_of2 (M := 4) (n := 4) (by decide) h0 (Int32.not_lt.mp h2)
  obtain ⟨R, hR, e2⟩ := pk_lOf h3
  rw [e, nI_clamp (by omega), TH_at m (by omega), e2, pk_lLT hR (by have := TH_le m (by omega); omega)] at h4
  refine ⟨m, R, e, ?_, hm, e2, h4, by have := TH_le m (by omega); omega⟩
  rcases Nat.eq_zero_or_pos m with q | q
  · rw [e, q] at h1
    exact absurd (by decide) h1
  · exact q
set_option maxRecDepth 100000 in
set_option maxHeartbeats 400000 in
theorem o_X6_judge_no {M : z_Mem} {l : Nat → Int32} {n : Nat} {T : TT} {U : UT} {D : DT} {p : PLt} {A : List PLt} {k0 k1 : Option PLt} {L : List (Int32 × Int32)} {sd : Int64} (hR : RX M l n T U D p A k0 k1 L sd) {x : Int32} {v : Int64} (h : ¬ jdOk x v) : z_Ct mX6_judge [.ref 0, .int x, .long v] M (some (.int (-2))) M := by
  obtain ⟨rS, rT, rU, rD, rp, rA, r0, r1, rL, rs⟩ := id hR

  refine z_entry (by decide +kernel) (Nat.le_of_ble_eq_true rfl) rfl ?_
  show z_Sm mX6_judge _ _ 0 [some (.ref 0), some (.int x), some (.long v), none, none, none] [] M
  refine z_iload_n (pc := 0) dX6_judge_0 rfl ?_
  refine z_iconst (pc := 1) (v := 1) dX6_judge_1 (by decide) ?_
  refine z_icmp_lt (pc := 2) (tgt := 26) dX6_judge_2 (by decide) (fun h2 => ?_) (fun h2 => ?_)
  · refine z_bipush (pc := 26) (v := (-2)) dX6_judge_26 (by decide) ?_
    refine z_iret (pc := 28) rfl dX6_judge_28 ?_ ?_
    · rfl
    · rfl
  · refine z_iload_n (pc := 5) dX6_judge_5 rfl ?_
    refine z_iconst (pc := 6) (v := 4) dX6_judge_6 (by decide) ?_
    refine z_icmp_gt (pc := 7) (tgt := 26) dX6_judge_7 (by decide) (fun h7 => ?_) (fun h7 => ?_)
    · refine z_bipush (pc := 26) (v := (-2)) dX6_judge_26 (by decide) ?_
      refine z_iret (pc := 28) rfl dX6_judge_28 ?_ ?_
      · rfl
      · rfl
    · refine z_lload_n (pc := 10) dX6_judge_10 rfl ?_
      refine z_lconst (pc := 11) (v := 0) dX6_judge_11 (by decide) ?_
      refine z_lcmp (pc := 12) dX6_judge_12 ?_
      refine z_if_lt (pc := 13) (tgt := 26) dX6_judge_13 (by decide) (fun h13 => ?_) (fun h13 => ?_)
      · refine z_bipush (pc := 26) (v := (-2)) dX6_judge_26 (by decide) ?_
        refine z_iret (pc := 28) rfl dX6_judge_28 ?_ ?_
        · rfl
        · rfl
      · refine z_lload_n (pc := 16) dX6_judge_16 rfl ?_
        refine z_getTH (pc := 17) q_sX6_202 dX6_judge_17 ?_
        obtain ⟨m, hm, hxm⟩ := nI_of2 (M := 4) (n := 4) (x := x) (by decide) (fun q => h2 (Int32.lt_trans q (by decide))) (Int32.not_lt.mp h7)
        have hcl : x.toNatClampNeg = m := by rw [hxm, nI_clamp (by omega)]
        refine z_iload_n (pc := 20) dX6_judge_20 rfl ?_
        refine z_laldTH (pc := 21) (m) ⟨hxm, by omega⟩ dX6_judge_21 ?_
        refine z_lcmp (pc := 22) dX6_judge_22 ?_
        refine z_if_lt (pc := 23) (tgt := 29) dX6_judge_23 (by decide) (fun h23 => ?_) (fun h23 => ?_)
        · exfalso
          rw [lg_cmp_lt] at h23
          rw [lg_cmp_lt] at h13
          exact h ⟨h2, h7, h13, by rw [hcl]; exact h23⟩
        · refine z_bipush (pc := 26) (v := (-2)) dX6_judge_26 (by decide) ?_
          refine z_iret (pc := 28) rfl dX6_judge_28 ?_ ?_
          · rfl
          · rfl
set_option maxRecDepth 100000 in
set_option maxHeartbeats 400000 in
theorem o_X6_judge {M : z_Mem} {l : Nat → Int32} {n : Nat} {T : TT} {U : UT} {D : DT} {p : PLt} {A : List PLt} {k0 k1 : Option PLt} {L : List (Int32 × Int32)} {sd : Int64} (hR : RX M l n T U D p A k0 k1 L sd) (ho : sm7 p.1) (hd : p.2.2 < 2 ^ 28) {x : Int32} {v : Int64} {m R : Nat} (hx : x = nI m) (hm1 : 1 ≤ m) (hm : m ≤ 4) (hv : v = lN R) (hRm : R < 1000 ^ m) : ∃ M1, z_Ct mX6_judge [.ref 0, .int x, .long v] M (some (.int (jdF T U D m R m 0 p))) M1 ∧ RX M1 l n T U D p A k0 k1 L sd ∧ Fx M M1 := by
  obtain ⟨rS, rT, rU, rD, rp, rA, r0, r1, rL, rs⟩ := id hR
  have hR12 : R < 10 ^ 12 := by have := TH_le m (by omega); omega
  obtain ⟨N, c0, p0, s0⟩ := c_X2_become (q := 16) PL_16 PL_14 (by decide) (by decide) (by decide) rp
  have s0 : Sb [13, 16, 17] M N := s0.wk (by simp)
  obtain ⟨M2, h3, s2⟩ := s_X6_judge_43 (w := none) hx hm hv hR12 m N p 0 0 (TK_th rT s0) (UK_th rU s0) (DK_th rD s0) p0 ho (by omega) rfl (by omega)
  refine ⟨M2, ?_, RX_th hR (s0.tr s2) (by simp), (s0.tr s2).fx (by simp)⟩
  refine z_entry (by decide +kernel) (Nat.le_of_ble_eq_true rfl) rfl ?_
  show z_Sm mX6_judge _ _ 0 [some (.ref 0), some (.int x), some (.long v), none, none, none] [] M
  refine z_iload_n (pc := 0) dX6_judge_0 rfl ?_
  refine z_iconst (pc := 1) (v := 1) dX6_judge_1 (by decide) ?_
  refine z_icmp_lt (pc := 2) (tgt := 26) dX6_judge_2 (by decide) (fun h2 => ?_) (fun h2 => ?_)
  · exact absurd (by rw [hx] at h2; exact (nI_ltI (b := 1) (by omega) (by decide)).mp h2) (by omega)
  · refine z_iload_n (pc := 5) dX6_judge_5 rfl ?_
    refine z_iconst (pc := 6) (v := 4) dX6_judge_6 (by decide) ?_
    refine z_icmp_gt (pc := 7) (tgt := 26) dX6_judge_7 (by decide) (fun h7 => ?_) (fun h7 => ?_)
    · exact absurd (by rw [hx] at h7; exact (nI_ltI (a := 4) (by decide) (by omega)).mp h7) (by omega)
    · refine z_lload_n (pc := 10) dX6_judge_10 rfl ?_
      refine z_lconst (pc := 11) (v := 0) dX6_judge_11 (by decide) ?_
      refine z_lcmp (pc := 12) dX6_judge_12 ?_
      refine z_if_lt (pc := 13) (tgt := 26) dX6_judge_13 (by decide) (fun h13 => ?_) (fun h13 => ?_)
      · exfalso
        rw [lg_cmp_lt, hv, show (0 : Int64) = lN 0 from rfl, pk_lLT (by omega) (by decide)] at h13
        omega
      · refine z_lload_n (pc := 16) dX6_judge_16 rfl ?_
        refine z_getTH (pc := 17) q_sX6_202 dX6_judge_17 ?_
        refine z_iload_n (pc := 20) dX6_judge_20 rfl ?_
        refine z_laldTH (pc := 21) (m) ⟨hx, by omega⟩ dX6_judge_21 ?_
        refine z_lcmp (pc := 22) dX6_judge_22 ?_
        refine z_if_lt (pc := 23) (tgt := 29) dX6_judge_23 (by decide) (fun h23 => ?_) (fun h23 => ?_)
        · refine z_aload_n (pc := 29) dX6_judge_29 rfl ?_
          refine z_getR (pc := 30) 16 q_fX6_39 z_s0 rfl dX6_judge_30 ?_
          refine z_aload_n (pc := 33) dX6_judge_33 rfl ?_
          refine z_getR (pc := 34) 14 q_fX6_35 z_s0 rfl dX6_judge_34 ?_
          refine z_cV1v (pc := 37) c0 (q_cX6_169 _ (by decide)) z_s16 rfl rfl dX6_judge_37 ?_
          refine z_iconst (pc := 40) (v := 0) dX6_judge_40 (by decide) ?_
          refine z_istore (pc := 41) dX6_judge_41 rfl (by decide) ?_
          exact h3
        · exfalso
          rw [lg_cmp_lt, hv, TH_at m (by omega), pk_lLT (by omega) (by have := TH_le m (by omega); omega)] at h23
          exact h23 hRm
def psF (T : TT) (U : UT) (q : PLt) (v : Nat) : PLt := if v ≤ 5 then tugF T q v 4 else if v ≤ 12 then (clF T q (v - 6)).getD q else if v ≤ 19 then (opF T q (v - 13)).getD q else dayF T U q
theorem clF_sm {T : TT} {q : PLt} {b : Nat} (ho : sm7 q.1) : sm7 ((clF T q b).getD q).1 ∧ ((clF T q b).getD q).2.2 = q.2.2 := by
  unfold clF
  split
  · exact ⟨sm7_and ho, rfl⟩
  · exact ⟨ho, rfl⟩
theorem opF_sm {T : TT} {q : PLt} {b : Nat} (hP : T.1 ≤ 7) (ho : sm7 q.1) : sm7 ((opF T q b).getD q).1 ∧ ((opF T q b).getD q).2.2 = q.2.2 := by
  unfold opF
  split
  · next h => exact ⟨sm7_or ho (sm7_em (by omega)), rfl⟩
  · exact ⟨ho, rfl⟩
theorem psF_sm {T : TT} {U : UT} {q : PLt} {v : Nat} (hP : T.1 ≤ 7) (ho : sm7 q.1) : sm7 (psF T U q v).1 ∧ (psF T U q v).2.2 ≤ q.2.2 + 1 := by
  unfold psF
  split
  · exact ⟨tugF_sm hP ho, Nat.le_succ _⟩
  split
  · exact ⟨(clF_sm ho).1, by rw [(clF_sm ho).2]; exact Nat.le_succ _⟩
  split
  · exact ⟨(opF_sm hP ho).1, by rw [(opF_sm hP ho).2]; exact Nat.le_succ _⟩
  · exact ⟨dayF_sm hP ho, Nat.le_refl _⟩
set_option maxRecDepth 100000 in
set_option maxHeartbeats 400000 in
theorem c_X6_passSeason {M : z_Mem} {T : TT} {U : UT} (hT : TK M T) (hU : UK M U) {q : PLt} (hq : PlAt M 16 q) (ho : sm7 q.1) (hd : q.2.2 < 2 ^ 29) {x : Int32} {v : Nat} (hx : x = nI v) (hv : v < 32) : ∃ M1, z_Ct mX6_passSeason [.ref 0, .int x] M none M1 ∧ PlAt M1 16 (psF T U q v) ∧ Sb [13, 16, 17] M M1 := by
  by_cases h5 : v ≤ 5
  · obtain ⟨N, c1, p1, s1⟩ := c_X1_pullAt_16 hT hq ho (n := 4) hx (by omega)
    rw [psF, if_pos h5]
    refine ⟨N, ?_, p1, s1⟩
    refine z_entry (by decide +kernel) (Nat.le_of_ble_eq_true rfl) rfl ?_
    show z_Sm mX6_passSeason _ _ 0 [some (.ref 0), some (.int x)] [] M
    refine z_iload_n (pc := 0) dX6_passSeason_0 rfl ?_
    refine z_iconst (pc := 1) (v := 5) dX6_passSeason_1 (by decide) ?_
    refine z_icmp_gt (pc := 2) (tgt := 22) dX6_passSeason_2 (by decide) (fun h2 => ?_) (fun h2 => ?_)
    · exact absurd (show 5 < v by rw [hx] at h2; exact (nI_ltI (a := 5) (by decide) (by omega)).mp h2) (by omega)
    · refine z_aload_n (pc := 5) dX6_passSeason_5 rfl ?_
      refine z_getR (pc := 6) 12 q_fX6_28 z_s0 rfl dX6_passSeason_6 ?_
      refine z_aload_n (pc := 9) dX6_passSeason_9 rfl ?_
      refine z_getR (pc := 10) 16 q_fX6_39 z_s0 rfl dX6_passSeason_10 ?_
      refine z_iload_n (pc := 13) dX6_passSeason_13 rfl ?_
      refine z_iconst (pc := 14) (v := 4) dX6_passSeason_14 (by decide) ?_
      refine z_cV3 (pc := 15) c1 (q_cX6_149 _ (by decide)) z_s12 rfl rfl dX6_passSeason_15 ?_
      refine z_pop (pc := 18) dX6_passSeason_18 rfl ?_
      refine z_goto (pc := 19) (tgt := 70) dX6_passSeason_19 (by decide) ?_
      refine z_vret (pc := 70) rfl dX6_passSeason_70 ?_
      rfl
  by_cases h12 : v ≤ 12
  · obtain ⟨N, c1, p1, s1⟩ := c_X6_closesInThought hT hq (x := x - 6) (b := v - 6) (by rw [hx, show (6 : Int32) = nI 6 from rfl, pk_sub (by omega)]) (by omega)
    rw [psF, if_neg h5, if_pos h12]
    refine ⟨N, ?_, p1, s1⟩
    refine z_entry (by decide +kernel) (Nat.le_of_ble_eq_true rfl) rfl ?_
    show z_Sm mX6_passSeason _ _ 0 [some (.ref 0), some (.int x)] [] M
    refine z_iload_n (pc := 0) dX6_passSeason_0 rfl ?_
    refine z_iconst (pc := 1) (v := 5) dX6_passSeason_1 (by decide) ?_
    refine z_icmp_gt (pc := 2) (tgt := 22) dX6_passSeason_2 (by decide) (fun h2 => ?_) (fun h2 => ?_)
    · refine z_iload_n (pc := 22) dX6_passSeason_22 rfl ?_
      refine z_bipush (pc := 23) (v := 12) dX6_passSeason_23 (by decide) ?_
      refine z_icmp_gt (pc := 25) (tgt := 40) dX6_passSeason_25 (by decide) (fun h25 => ?_) (fun h25 => ?_)
      · exact absurd (show 12 < v by rw [hx] at h25; exact (nI_ltI (a := 12) (by decide) (by omega)).mp h25) (by omega)
      · refine z_aload_n (pc := 28) dX6_passSeason_28 rfl ?_
        refine z_iload_n (pc := 29) dX6_passSeason_29 rfl ?_
        refine z_bipush (pc := 30) (v := 6) dX6_passSeason_30 (by decide) ?_
        refine z_isub (pc := 32) dX6_passSeason_32 ?_
        refine z_cV1 (pc := 33) c1 (q_cX6_256 _ (by decide)) z_s0 rfl rfl dX6_passSeason_33 ?_
        refine z_pop (pc := 36) dX6_passSeason_36 rfl ?_
        refine z_goto (pc := 37) (tgt := 70) dX6_passSeason_37 (by decide) ?_
        refine z_vret (pc := 70) rfl dX6_passSeason_70 ?_
        rfl
    · exact absurd (show v ≤ 5 from Nat.le_of_not_lt (fun q => h2 (by rw [hx]; exact nI_lt (a := 5) q (by omega)))) (by omega)
  by_cases h19 : v ≤ 19
  · obtain ⟨N, c1, p1, s1⟩ := c_X6_unpinsInThought hT hq (x := x - 13) (b := v - 13) (by rw [hx, show (13 : Int32) = nI 13 from rfl, pk_sub (by omega)]) (by omega)
    rw [psF, if_neg h5, if_neg h12, if_pos h19]
    refine ⟨N, ?_, p1, s1⟩
    refine z_entry (by decide +kernel) (Nat.le_of_ble_eq_true rfl) rfl ?_
    show z_Sm mX6_passSeason _ _ 0 [some (.ref 0), some (.int x)] [] M
    refine z_iload_n (pc := 0) dX6_passSeason_0 rfl ?_
    refine z_iconst (pc := 1) (v := 5) dX6_passSeason_1 (by decide) ?_
    refine z_icmp_gt (pc := 2) (tgt := 22) dX6_passSeason_2 (by decide) (fun h2 => ?_) (fun h2 => ?_)
    · refine z_iload_n (pc := 22) dX6_passSeason_22 rfl ?_
      refine z_bipush (pc := 23) (v := 12) dX6_passSeason_23 (by decide) ?_
      refine z_icmp_gt (pc := 25) (tgt := 40) dX6_passSeason_25 (by decide) (fun h25 => ?_) (fun h25 => ?_)
      · refine z_iload_n (pc := 40) dX6_passSeason_40 rfl ?_
        refine z_bipush (pc := 41) (v := 19) dX6_passSeason_41 (by decide) ?_
        refine z_icmp_gt (pc := 43) (tgt := 58) dX6_passSeason_43 (by decide) (fun h43 => ?_) (fun h43 => ?_)
        · exact absurd (show 19 < v by rw [hx] at h43; exact (nI_ltI (a := 19) (by decide) (by omega)).mp h43) (by omega)
        · refine z_aload_n (pc := 46) dX6_passSeason_46 rfl ?_
          refine z_iload_n (pc := 47) dX6_passSeason_47 rfl ?_
          refine z_bipush (pc := 48) (v := 13) dX6_passSeason_48 (by decide) ?_
          refine z_isub (pc := 50) dX6_passSeason_50 ?_
          refine z_cV1 (pc := 51) c1 (q_cX6_259 _ (by decide)) z_s0 rfl rfl dX6_passSeason_51 ?_
          refine z_pop (pc := 54) dX6_passSeason_54 rfl ?_
          refine z_goto (pc := 55) (tgt := 70) dX6_passSeason_55 (by decide) ?_
          refine z_vret (pc := 70) rfl dX6_passSeason_70 ?_
          rfl
      · exact absurd (show v ≤ 12 from Nat.le_of_not_lt (fun q => h25 (by rw [hx]; exact nI_lt (a := 12) q (by omega)))) (by omega)
    · exact absurd (show v ≤ 5 from Nat.le_of_not_lt (fun q => h2 (by rw [hx]; exact nI_lt (a := 5) q (by omega)))) (by omega)
  · obtain ⟨N, c1, p1, s1⟩ := c_X1_passDay_16 hT hU hq ho hd
    rw [psF, if_neg h5, if_neg h12, if_neg h19]
    refine ⟨N, ?_, p1, s1⟩
    refine z_entry (by decide +kernel) (Nat.le_of_ble_eq_true rfl) rfl ?_
    show z_Sm mX6_passSeason _ _ 0 [some (.ref 0), some (.int x)] [] M
    refine z_iload_n (pc := 0) dX6_passSeason_0 rfl ?_
    refine z_iconst (pc := 1) (v := 5) dX6_passSeason_1 (by decide) ?_
    refine z_icmp_gt (pc := 2) (tgt := 22) dX6_passSeason_2 (by decide) (fun h2 => ?_) (fun h2 => ?_)
    · refine z_iload_n (pc := 22) dX6_passSeason_22 rfl ?_
      refine z_bipush (pc := 23) (v := 12) dX6_passSeason_23 (by decide) ?_
      refine z_icmp_gt (pc := 25) (tgt := 40) dX6_passSeason_25 (by decide) (fun h25 => ?_) (fun h25 => ?_)
      · refine z_iload_n (pc := 40) dX6_passSeason_40 rfl ?_
        refine z_bipush (pc := 41) (v := 19) dX6_passSeason_41 (by decide) ?_
        refine z_icmp_gt (pc := 43) (tgt := 58) dX6_passSeason_43 (by decide) (fun h43 => ?_) (fun h43 => ?_)
        · refine z_aload_n (pc := 58) dX6_passSeason_58 rfl ?_
          refine z_getR (pc := 59) 12 q_fX6_28 z_s0 rfl dX6_passSeason_59 ?_
          refine z_aload_n (pc := 62) dX6_passSeason_62 rfl ?_
          refine z_getR (pc := 63) 16 q_fX6_39 z_s0 rfl dX6_passSeason_63 ?_
          refine z_cV1 (pc := 66) c1 (q_cX6_145 _ (by decide)) z_s12 rfl rfl dX6_passSeason_66 ?_
          refine z_pop (pc := 69) dX6_passSeason_69 rfl ?_
          refine z_vret (pc := 70) rfl dX6_passSeason_70 ?_
          rfl
        · exact absurd (show v ≤ 19 from Nat.le_of_not_lt (fun q => h43 (by rw [hx]; exact nI_lt (a := 19) q (by omega)))) (by omega)
      · exact absurd (show v ≤ 12 from Nat.le_of_not_lt (fun q => h25 (by rw [hx]; exact nI_lt (a := 12) q (by omega)))) (by omega)
    · exact absurd (show v ≤ 5 from Nat.le_of_not_lt (fun q => h2 (by rw [hx]; exact nI_lt (a := 5) q (by omega)))) (by omega)
/-- the next of the seed's numbers; what falls out of it -/
def sdF (s : Int64) : Int64 := s * 6364136223846793005 + 1442695040888963407
def ltI (s : Int64) : Int32 := ((s.toUInt64 >>> ((33 : Int32).toInt64.toUInt64 &&& Int64.toUInt64 63)).toInt64).toInt32 &&& 31
def ltN (s : Int64) : Nat := (ltI s).toNatClampNeg
theorem ltI_at (s : Int64) : ltI s = nI (ltN s) ∧ ltN s < 32 := by
  obtain ⟨j, hj, e⟩ := pk_andE ((s.toUInt64 >>> ((33 : Int32).toInt64.toUInt64 &&& Int64.toUInt64 63)).toInt64).toInt32 (m := 31) 5 (by decide)
  have e2 : ltN s = j := by
    unfold ltN ltI
    rw [e, nI_clamp (by omega)]
  rw [e2]
  exact ⟨e, hj⟩
def ssF (T : TT) (U : UT) (g : Int64 → Int64) (lt : Int64 → Nat) : Nat → Int64 → PLt → Nat → Int64 × Nat
  | 0, s, _, c => (s, c)
  | f + 1, s, q, c => ssF T U g lt f (g s) (psF T U q (lt (g s))) (c + pc 7 (psF T U q (lt (g s))).1)
/-- all but the seed as it was -/
def Sd (M N : z_Mem) : Prop := (∀ i, i ∉ [13, 16, 17] → N.1 i = M.1 i) ∧ ∀ i, ¬ i = 0 → N.2 i = M.2 i
set_option maxRecDepth 100000 in
set_option maxHeartbeats 400000 in
theorem s_X6_seasons_29 {T : TT} {U : UT} {x : Int32} {m : Nat} (hx : x = nI m) (hm : m ≤ 30) {g : Int64 → Int64} {lt : Int64 → Nat} (hg : ∀ s, s * 6364136223846793005 + 1442695040888963407 = g s) (hl : ∀ s, ((s.toUInt64 >>> ((33 : Int32).toInt64.toUInt64 &&& Int64.toUInt64 63)).toInt64).toInt32 &&& 31 = nI (lt s) ∧ lt s < 32) : ∀ (f : Nat) (Mj : z_Mem) (s : Int64) (q : PLt) (c : Nat) (ij w : Int32) (i : Nat), TK Mj T → UK Mj U → PlAt Mj 16 q → sm7 q.1 → q.2.2 + f < 2 ^ 29 → Mj.2 0 11 = s → ij = nI i → w = nI c → i + f = m → ∃ M2, z_Sm mX6_seasons (some (.int (nI (ssF T U g lt f s q c).2))) M2 29 [some (.ref 0), some (.int x), some (.int w), some (.int ij)] [] Mj ∧ Sd Mj M2 ∧ M2.2 0 11 = (ssF T U g lt f s q c).1 := by
  intro f
  induction f with
  | zero =>
    intro Mj s q c ij w i hT hU hp ho hd hs h2 hw hi
    refine ⟨Mj, ?_, ⟨fun _ _ => rfl, fun _ _ => rfl⟩, hs⟩
    refine z_iload_n (pc := 29) dX6_seasons_29 rfl ?_
    refine z_iload_n (pc := 30) dX6_seasons_30 rfl ?_
    refine z_icmp_ge (pc := 31) (tgt := 84) dX6_seasons_31 (by decide) (fun h31 => ?_) (fun h31 => ?_)
    · refine z_iload_n (pc := 84) dX6_seasons_84 rfl ?_
      refine z_iret (pc := 85) rfl dX6_seasons_85 ?_ ?_
      · exact hw
      · rfl
    · exact absurd (z_lt h31 h2 hx (by omega) (by omega)) (by omega)
  | succ f ih =>
    intro Mj s q c ij w i hT hU hp ho hd hs h2 hw hi
    obtain ⟨l1, l2⟩ := hl (g s)
    have hT1 : TK (z_setL Mj 0 11 (g s)) T := hT
    have hU1 : UK (z_setL Mj 0 11 (g s)) U := hU
    have hp1 : PlAt (z_setL Mj 0 11 (g s)) 16 q := hp
    obtain ⟨N, c1, p1, s1⟩ := c_X6_passSeason hT1 hU1 hp1 ho (by omega) (x := nI (lt (g s))) rfl l2
    obtain ⟨g1, g2⟩ := psF_sm (U := U) (v := lt (g s)) hT.1.2.1 ho
    have eN : N.2 0 11 = g s := by rw [s1.2]; simp [z_setL]
    obtain ⟨M2, h3, h4, h5⟩ := ih N (g s) (psF T U q (lt (g s))) (c + pc 7 (psF T U q (lt (g s))).1) (ij + Int32.ofInt 1) (w + nI (pc 7 (psF T U q (lt (g s))).1)) (i + 1) (TK_th hT1 s1) (UK_th hU1 s1) p1 g1 (by omega) eN (z_n1 h2) (by rw [hw, nI_add]) (by omega)
    refine ⟨M2, ?_, ⟨fun i hi => (h4.1 i hi).trans (s1.1 i hi), fun i hi => (h4.2 i hi).trans (by rw [s1.2]; simp [z_setL, hi])⟩, h5⟩
    have e9 : (z_setL Mj 0 11 (g s)).2 0 11 = g s := by simp [z_setL]
    refine z_iload_n (pc := 29) dX6_seasons_29 rfl ?_
    refine z_iload_n (pc := 30) dX6_seasons_30 rfl ?_
    refine z_icmp_ge (pc := 31) (tgt := 84) dX6_seasons_31 (by decide) (fun h31 => ?_) (fun h31 => ?_)
    · exact absurd (z_ge h31 h2 hx (by omega) (by omega)) (by omega)
    · refine z_aload_n (pc := 34) dX6_seasons_34 rfl ?_
      refine z_aload_n (pc := 35) dX6_seasons_35 rfl ?_
      refine z_getL (pc := 36) q_fX6_71 z_s0 rfl dX6_seasons_36 ?_
      refine z_ldc2 (pc := 39) q_kX6_240 dX6_seasons_39 ?_
      refine z_lmul (pc := 42) dX6_seasons_42 ?_
      refine z_ldc2 (pc := 43) q_kX6_242 dX6_seasons_43 ?_
      refine z_ladd (pc := 46) dX6_seasons_46 ?_
      refine z_putL (pc := 47) q_fX6_71 q_p6_11 z_s0 rfl dX6_seasons_47 ?_
      rw [hs, hg]
      refine z_aload_n (pc := 50) dX6_seasons_50 rfl ?_
      refine z_aload_n (pc := 51) dX6_seasons_51 rfl ?_
      refine z_getL (pc := 52) q_fX6_71 z_s0 rfl dX6_seasons_52 ?_
      refine z_bipush (pc := 55) (v := 33) dX6_seasons_55 (by decide) ?_
      rw [e9]
      refine z_lushr (pc := 57) dX6_seasons_57 rfl ?_
      refine z_l2i (pc := 58) dX6_seasons_58 rfl ?_
      refine z_bipush (pc := 59) (v := 31) dX6_seasons_59 (by decide) ?_
      refine z_iand (pc := 61) dX6_seasons_61 ?_
      rw [l1]
      refine z_cV1v (pc := 62) c1 (q_cX6_244 _ (by decide)) z_s0 rfl rfl dX6_seasons_62 ?_
      refine z_iload_n (pc := 65) dX6_seasons_65 rfl ?_
      refine z_aload_n (pc := 66) dX6_seasons_66 rfl ?_
      refine z_getR (pc := 67) 16 q_fX6_39 z_s0 rfl dX6_seasons_67 ?_
      refine z_getI (pc := 70) q_fX6_135 z_s16 rfl dX6_seasons_70 ?_
      refine z_cS1 (pc := 73) (c_J6_bitCount_0f7a4 (by rw [p1.1]; exact g1)) (q_cX6_156 _ (by decide)) rfl dX6_seasons_73 ?_
      refine z_iadd (pc := 76) dX6_seasons_76 ?_
      refine z_istore_n (pc := 77) dX6_seasons_77 rfl (by decide) ?_
      refine z_iinc (pc := 78) dX6_seasons_78 rfl rfl rfl (by decide) ?_
      refine z_goto (pc := 81) (tgt := 29) dX6_seasons_81 (by decide) ?_
      rw [p1.1]
      exact h3
set_option maxRecDepth 100000 in
set_option maxHeartbeats 400000 in
theorem o_X6_seasons_no {M : z_Mem} {l : Nat → Int32} {n : Nat} {T : TT} {U : UT} {D : DT} {p : PLt} {A : List PLt} {k0 k1 : Option PLt} {L : List (Int32 × Int32)} {sd : Int64} (hR : RX M l n T U D p A k0 k1 L sd) {x : Int32} (h : x < 1 ∨ 30 < x) : z_Ct mX6_seasons [.ref 0, .int x] M (some (.int (-2))) M := by
  obtain ⟨rS, rT, rU, rD, rp, rA, r0, r1, rL, rs⟩ := id hR

  refine z_entry (by decide +kernel) (Nat.le_of_ble_eq_true rfl) rfl ?_
  show z_Sm mX6_seasons _ _ 0 [some (.ref 0), some (.int x), none, none] [] M
  refine z_iload_n (pc := 0) dX6_seasons_0 rfl ?_
  refine z_iconst (pc := 1) (v := 1) dX6_seasons_1 (by decide) ?_
  refine z_icmp_lt (pc := 2) (tgt := 11) dX6_seasons_2 (by decide) (fun h2 => ?_) (fun h2 => ?_)
  · refine z_bipush (pc := 11) (v := (-2)) dX6_seasons_11 (by decide) ?_
    refine z_iret (pc := 13) rfl dX6_seasons_13 ?_ ?_
    · rfl
    · rfl
  · refine z_iload_n (pc := 5) dX6_seasons_5 rfl ?_
    refine z_bipush (pc := 6) (v := 30) dX6_seasons_6 (by decide) ?_
    refine z_icmp_le (pc := 8) (tgt := 14) dX6_seasons_8 (by decide) (fun h8 => ?_) (fun h8 => ?_)
    · exact absurd h8 (h.elim (fun q => absurd q h2) (fun q => Int32.not_le.mpr q))
    · refine z_bipush (pc := 11) (v := (-2)) dX6_seasons_11 (by decide) ?_
      refine z_iret (pc := 13) rfl dX6_seasons_13 ?_ ?_
      · rfl
      · rfl
set_option maxRecDepth 100000 in
set_option maxHeartbeats 400000 in
theorem o_X6_seasons {M : z_Mem} {l : Nat → Int32} {n : Nat} {T : TT} {U : UT} {D : DT} {p : PLt} {A : List PLt} {k0 k1 : Option PLt} {L : List (Int32 × Int32)} {sd : Int64} (hR : RX M l n T U D p A k0 k1 L sd) (ho : sm7 p.1) (hd : p.2.2 < 2 ^ 28) {x : Int32} {m : Nat} (hx : x = nI m) (hm1 : 1 ≤ m) (hm : m ≤ 30) : ∃ M1, z_Ct mX6_seasons [.ref 0, .int x] M (some (.int (nI (ssF T U sdF ltN m sd p 0).2))) M1 ∧ RX M1 l n T U D p A k0 k1 L (ssF T U sdF ltN m sd p 0).1 ∧ Fx M M1 := by
  obtain ⟨rS, rT, rU, rD, rp, rA, r0, r1, rL, rs⟩ := id hR
  obtain ⟨N, c0, p0, s0⟩ := c_X2_become (q := 16) PL_16 PL_14 (by decide) (by decide) (by decide) rp
  have s0 : Sb [13, 16, 17] M N := s0.wk (by simp)
  obtain ⟨M2, h3, s2, s3⟩ := s_X6_seasons_29 hx hm (g := sdF) (lt := ltN) (fun _ => rfl) ltI_at m N sd p 0 0 0 0 (TK_th rT s0) (UK_th rU s0) p0 ho (by omega) (by rw [s0.2]; exact rs) rfl rfl (by omega)
  have s4 : Sb [13, 16, 17] M (M2.1, M.2) := ⟨fun i hi => (s2.1 i hi).trans (s0.1 i hi), rfl⟩
  obtain ⟨q1, q2, q3, q4, q5, q6, q7, q8, q9, -⟩ := RX_th hR s4 (by simp)
  refine ⟨M2, ?_, ⟨q1, q2, q3, q4, q5, q6, ?_, ?_, q9, s3⟩, fun i hi => ⟨s4.1 i (by simp; omega), (s2.2 i (by omega)).trans (by rw [s0.2])⟩⟩
  · refine z_entry (by decide +kernel) (Nat.le_of_ble_eq_true rfl) rfl ?_
    show z_Sm mX6_seasons _ _ 0 [some (.ref 0), some (.int x), none, none] [] M
    refine z_iload_n (pc := 0) dX6_seasons_0 rfl ?_
    refine z_iconst (pc := 1) (v := 1) dX6_seasons_1 (by decide) ?_
    refine z_icmp_lt (pc := 2) (tgt := 11) dX6_seasons_2 (by decide) (fun h2 => ?_) (fun h2 => ?_)
    · exact absurd (by rw [hx] at h2; exact (nI_ltI (b := 1) (by omega) (by decide)).mp h2) (by omega)
    · refine z_iload_n (pc := 5) dX6_seasons_5 rfl ?_
      refine z_bipush (pc := 6) (v := 30) dX6_seasons_6 (by decide) ?_
      refine z_icmp_le (pc := 8) (tgt := 14) dX6_seasons_8 (by decide) (fun h8 => ?_) (fun h8 => ?_)
      · refine z_aload_n (pc := 14) dX6_seasons_14 rfl ?_
        refine z_getR (pc := 15) 16 q_fX6_39 z_s0 rfl dX6_seasons_15 ?_
        refine z_aload_n (pc := 18) dX6_seasons_18 rfl ?_
        refine z_getR (pc := 19) 14 q_fX6_35 z_s0 rfl dX6_seasons_19 ?_
        refine z_cV1v (pc := 22) c0 (q_cX6_169 _ (by decide)) z_s16 rfl rfl dX6_seasons_22 ?_
        refine z_iconst (pc := 25) (v := 0) dX6_seasons_25 (by decide) ?_
        refine z_istore_n (pc := 26) dX6_seasons_26 rfl (by decide) ?_
        refine z_iconst (pc := 27) (v := 0) dX6_seasons_27 (by decide) ?_
        refine z_istore_n (pc := 28) dX6_seasons_28 rfl (by decide) ?_
        exact h3
      · exact absurd (by rw [hx]; exact nI_le (b := 30) hm (by decide)) h8
  · cases k0 <;> exact q7
  · cases k1 <;> exact q8
