theorem u2l (x : UInt64) : x.toInt64 = lN x.toNat := Int64.toBitVec_inj.mp (BitVec.eq_of_toNat_eq (by
  show x.toBitVec.toNat = (BitVec.ofNat 64 x.toNat).toNat
  rw [BitVec.toNat_ofNat]
  exact (Nat.mod_eq_of_lt x.toBitVec.isLt).symm))
theorem sh_at (s : Int64) : ∃ k : Nat, k < 2 ^ 31 ∧ (s.toUInt64 >>> ((33 : Int32).toInt64.toUInt64 &&& Int64.toUInt64 63)).toInt64 = lN k := by
  have hD : ((33 : Int32).toInt64.toUInt64 &&& Int64.toUInt64 63).toNat % 64 = 33 := by decide
  generalize (33 : Int32).toInt64.toUInt64 &&& Int64.toUInt64 63 = d at hD
  refine ⟨(s.toUInt64 >>> d).toNat, ?_, u2l _⟩
  rw [UInt64.toNat_shiftRight, hD, Nat.shiftRight_eq_div_pow]
  have := UInt64.toNat_lt s.toUInt64
  omega
theorem ltM_at (s : Int64) : ((s.toUInt64 >>> ((33 : Int32).toInt64.toUInt64 &&& Int64.toUInt64 63)).toInt64 - (s.toUInt64 >>> ((33 : Int32).toInt64.toUInt64 &&& Int64.toUInt64 63)).toInt64 / 32 * 32).toInt32 = nI (ltN s) ∧ ltN s < 32 := by
  obtain ⟨k, hk, e⟩ := sh_at s
  have e2 : ltI s = nI (k % 32) := by
    rw [ltI, e, lN_i, show (31 : Int32) = nI 31 from rfl, z_andN]
    exact congrArg nI (Nat.and_two_pow_sub_one_eq_mod k 5)
  have e3 : ltN s = k % 32 := by rw [ltN, e2, nI_clamp (by omega)]
  rw [e, e3, show (32 : Int64) = lN 32 from rfl, pk_lRem (by omega) (by decide) (by decide), lN_i]
  exact ⟨rfl, by omega⟩
set_option maxRecDepth 100000 in
set_option maxHeartbeats 400000 in
theorem s_X7_seasons_58 {M : z_Mem} {T : TT} {U : UT} {D : DT} (hT : TN M T) (hU : UN M U) (hD : DN M D) {q : PLt} (hq : PM M 1 q) (hd : q.2.2 < 2 ^ 29) {v : Nat} (hv : v < 32) {x w ij : Int32} : ∃ N, PM N 1 (psF T U q v) ∧ Sn 1 M N ∧ ∀ (M2 : z_Mem) (r : Option Value), z_Sm mX7_seasons r M2 126 [some (.ref 59), some (.int x), some (.int w), some (.int ij), some (.int (nI v))] [] N → z_Sm mX7_seasons r M2 58 [some (.ref 59), some (.int x), some (.int w), some (.int ij), some (.int (nI v))] [] M := by
  by_cases h5 : v ≤ 5
  · obtain ⟨N, c1, p1, s1⟩ := c_X7_tugOn hT (lv := 1) (by decide) hq (n := 4) (x := nI v) rfl (by omega)
    rw [psF, if_pos h5]
    refine ⟨N, p1, s1, fun M2 r kk => ?_⟩
    refine z_iload (pc := 58) dX7_seasons_58 rfl ?_
    refine z_bipush (pc := 60) (v := 19) dX7_seasons_60 (by decide) ?_
    refine z_icmp_le (pc := 62) (tgt := 74) dX7_seasons_62 (by decide) (fun h62 => ?_) (fun h62 => ?_)
    · refine z_iload (pc := 74) dX7_seasons_74 rfl ?_
      refine z_bipush (pc := 76) (v := 12) dX7_seasons_76 (by decide) ?_
      refine z_icmp_le (pc := 78) (tgt := 96) dX7_seasons_78 (by decide) (fun h78 => ?_) (fun h78 => ?_)
      · refine z_iload (pc := 96) dX7_seasons_96 rfl ?_
        refine z_iconst (pc := 98) (v := 5) dX7_seasons_98 (by decide) ?_
        refine z_icmp_le (pc := 99) (tgt := 117) dX7_seasons_99 (by decide) (fun h99 => ?_) (fun h99 => ?_)
        · refine z_aload_n (pc := 117) dX7_seasons_117 rfl ?_
          refine z_iconst (pc := 118) (v := 1) dX7_seasons_118 (by decide) ?_
          refine z_iload (pc := 119) dX7_seasons_119 rfl ?_
          refine z_iconst (pc := 121) (v := 4) dX7_seasons_121 (by decide) ?_
          refine z_cV3 (pc := 122) c1 (q_cX7_164 _ (by decide)) z_s59 rfl rfl dX7_seasons_122 ?_
          refine z_pop (pc := 125) dX7_seasons_125 rfl ?_
          exact kk
        · exact absurd (show ¬ v ≤ 5 from fun q => h99 (nI_le (b := 5) q (by decide))) (by omega)
      · exact absurd (show ¬ v ≤ 12 from fun q => h78 (nI_le (b := 12) q (by decide))) (by omega)
    · exact absurd (show ¬ v ≤ 19 from fun q => h62 (nI_le (b := 19) q (by decide))) (by omega)
  by_cases h12 : v ≤ 12
  · have e6 : nI v - 6 = nI (v - 6) := by rw [show (6 : Int32) = nI 6 from rfl, pk_sub (by omega)]
    obtain ⟨N, c1, p1, s1⟩ := c_X7_tt2 hT hU hD hq hd (a := 0) (b := v - 6) (by decide) (by omega)
    rw [psF, if_neg h5, if_pos h12]
    refine ⟨N, ?_, s1, fun M2 r kk => ?_⟩
    · rw [show ctF T U D q 2 0 (v - 6) = clF T q (v - 6) from rfl] at p1
      exact p1
    refine z_iload (pc := 58) dX7_seasons_58 rfl ?_
    refine z_bipush (pc := 60) (v := 19) dX7_seasons_60 (by decide) ?_
    refine z_icmp_le (pc := 62) (tgt := 74) dX7_seasons_62 (by decide) (fun h62 => ?_) (fun h62 => ?_)
    · refine z_iload (pc := 74) dX7_seasons_74 rfl ?_
      refine z_bipush (pc := 76) (v := 12) dX7_seasons_76 (by decide) ?_
      refine z_icmp_le (pc := 78) (tgt := 96) dX7_seasons_78 (by decide) (fun h78 => ?_) (fun h78 => ?_)
      · refine z_iload (pc := 96) dX7_seasons_96 rfl ?_
        refine z_iconst (pc := 98) (v := 5) dX7_seasons_98 (by decide) ?_
        refine z_icmp_le (pc := 99) (tgt := 117) dX7_seasons_99 (by decide) (fun h99 => ?_) (fun h99 => ?_)
        · exact absurd (show v ≤ 5 from (nI_leI (b := 5) (by omega) (by decide)).mp h99) (by omega)
        · refine z_aload_n (pc := 102) dX7_seasons_102 rfl ?_
          refine z_iconst (pc := 103) (v := 2) dX7_seasons_103 (by decide) ?_
          refine z_iconst (pc := 104) (v := 0) dX7_seasons_104 (by decide) ?_
          refine z_iload (pc := 105) dX7_seasons_105 rfl ?_
          refine z_bipush (pc := 107) (v := 6) dX7_seasons_107 (by decide) ?_
          refine z_isub (pc := 109) dX7_seasons_109 ?_
          rw [e6]
          refine z_cV3 (pc := 110) c1 (q_cX7_191 _ (by decide)) z_s59 rfl rfl dX7_seasons_110 ?_
          refine z_pop (pc := 113) dX7_seasons_113 rfl ?_
          refine z_goto (pc := 114) (tgt := 126) dX7_seasons_114 (by decide) ?_
          exact kk
      · exact absurd (show ¬ v ≤ 12 from fun q => h78 (nI_le (b := 12) q (by decide))) (by omega)
    · exact absurd (show ¬ v ≤ 19 from fun q => h62 (nI_le (b := 19) q (by decide))) (by omega)
  by_cases h19 : v ≤ 19
  · have e6 : nI v - 13 = nI (v - 13) := by rw [show (13 : Int32) = nI 13 from rfl, pk_sub (by omega)]
    obtain ⟨N, c1, p1, s1⟩ := c_X7_tt3 hT hU hD hq hd (a := 0) (b := v - 13) (by decide) (by omega)
    rw [psF, if_neg h5, if_neg h12, if_pos h19]
    refine ⟨N, ?_, s1, fun M2 r kk => ?_⟩
    · rw [show ctF T U D q 3 0 (v - 13) = opF T q (v - 13) from rfl] at p1
      exact p1
    refine z_iload (pc := 58) dX7_seasons_58 rfl ?_
    refine z_bipush (pc := 60) (v := 19) dX7_seasons_60 (by decide) ?_
    refine z_icmp_le (pc := 62) (tgt := 74) dX7_seasons_62 (by decide) (fun h62 => ?_) (fun h62 => ?_)
    · refine z_iload (pc := 74) dX7_seasons_74 rfl ?_
      refine z_bipush (pc := 76) (v := 12) dX7_seasons_76 (by decide) ?_
      refine z_icmp_le (pc := 78) (tgt := 96) dX7_seasons_78 (by decide) (fun h78 => ?_) (fun h78 => ?_)
      · exact absurd (show v ≤ 12 from (nI_leI (b := 12) (by omega) (by decide)).mp h78) (by omega)
      · refine z_aload_n (pc := 81) dX7_seasons_81 rfl ?_
        refine z_iconst (pc := 82) (v := 3) dX7_seasons_82 (by decide) ?_
        refine z_iconst (pc := 83) (v := 0) dX7_seasons_83 (by decide) ?_
        refine z_iload (pc := 84) dX7_seasons_84 rfl ?_
        refine z_bipush (pc := 86) (v := 13) dX7_seasons_86 (by decide) ?_
        refine z_isub (pc := 88) dX7_seasons_88 ?_
        rw [e6]
        refine z_cV3 (pc := 89) c1 (q_cX7_191 _ (by decide)) z_s59 rfl rfl dX7_seasons_89 ?_
        refine z_pop (pc := 92) dX7_seasons_92 rfl ?_
        refine z_goto (pc := 93) (tgt := 126) dX7_seasons_93 (by decide) ?_
        exact kk
    · exact absurd (show ¬ v ≤ 19 from fun q => h62 (nI_le (b := 19) q (by decide))) (by omega)
  · obtain ⟨N, c1, p1, s1⟩ := c_X7_passOn hT hU (lv := 1) (by decide) hq hd
    rw [psF, if_neg h5, if_neg h12, if_neg h19]
    refine ⟨N, p1, s1, fun M2 r kk => ?_⟩
    refine z_iload (pc := 58) dX7_seasons_58 rfl ?_
    refine z_bipush (pc := 60) (v := 19) dX7_seasons_60 (by decide) ?_
    refine z_icmp_le (pc := 62) (tgt := 74) dX7_seasons_62 (by decide) (fun h62 => ?_) (fun h62 => ?_)
    · exact absurd (show v ≤ 19 from (nI_leI (b := 19) (by omega) (by decide)).mp h62) (by omega)
    · refine z_aload_n (pc := 65) dX7_seasons_65 rfl ?_
      refine z_iconst (pc := 66) (v := 1) dX7_seasons_66 (by decide) ?_
      refine z_cV1 (pc := 67) c1 (q_cX7_159 _ (by decide)) z_s59 rfl rfl dX7_seasons_67 ?_
      refine z_pop (pc := 70) dX7_seasons_70 rfl ?_
      refine z_goto (pc := 71) (tgt := 126) dX7_seasons_71 (by decide) ?_
      exact kk
set_option maxRecDepth 100000 in
set_option maxHeartbeats 400000 in
theorem s_X7_seasons_23 {T : TT} {U : UT} {D : DT} {x : Int32} {m : Nat} (hx : x = nI m) (hm : m ≤ 30) {g : Int64 → Int64} {lt : Int64 → Nat} (hg : ∀ s, s * 6364136223846793005 + 1442695040888963407 = g s) (hl : ∀ s, ((s.toUInt64 >>> ((33 : Int32).toInt64.toUInt64 &&& Int64.toUInt64 63)).toInt64 - (s.toUInt64 >>> ((33 : Int32).toInt64.toUInt64 &&& Int64.toUInt64 63)).toInt64 / 32 * 32).toInt32 = nI (lt s) ∧ lt s < 32) : ∀ (f : Nat) (Mj : z_Mem) (s : Int64) (q : PLt) (c : Nat) (ij w : Int32) (i : Nat), TN Mj T → UN Mj U → DN Mj D → PM Mj 1 q → sm7 q.1 → q.2.2 + f < 2 ^ 29 → Mj.2 59 29 = s → ij = nI i → w = nI c → i + f = m → ∃ M2, z_Sm mX7_seasons (some (.int (nI (ssF T U g lt f s q c).2))) M2 23 [some (.ref 59), some (.int x), some (.int w), some (.int ij), none] [] Mj ∧ Sn 1 Mj (M2.1, Mj.2) ∧ (∀ i, ¬ i = 59 → M2.2 i = Mj.2 i) ∧ M2.2 59 29 = (ssF T U g lt f s q c).1 := by
  intro f
  induction f with
  | zero =>
    intro Mj s q c ij w i hT hU hD hp ho hd hs h2 hw hi
    refine ⟨Mj, ?_, Sn.rf, fun _ _ => rfl, hs⟩
    refine z_iload_n (pc := 23) dX7_seasons_23 rfl ?_
    refine z_iload_n (pc := 24) dX7_seasons_24 rfl ?_
    refine z_icmp_ge (pc := 25) (tgt := 145) dX7_seasons_25 (by decide) (fun h25 => ?_) (fun h25 => ?_)
    · refine z_iload_n (pc := 145) dX7_seasons_145 rfl ?_
      refine z_iret (pc := 146) rfl dX7_seasons_146 ?_ ?_
      · exact hw
      · rfl
    · exact absurd (z_lt h25 h2 hx (by omega) (by omega)) (by omega)
  | succ f ih =>
    intro Mj s q c ij w i hT hU hD hp ho hd hs h2 hw hi
    obtain ⟨l1, l2⟩ := hl (g s)
    have hT1 : TN (z_setL Mj 59 29 (g s)) T := hT
    have hU1 : UN (z_setL Mj 59 29 (g s)) U := hU
    have hD1 : DN (z_setL Mj 59 29 (g s)) D := hD
    have hp1 : PM (z_setL Mj 59 29 (g s)) 1 q := hp
    obtain ⟨N, p1, s1, c1⟩ := s_X7_seasons_58 hT1 hU1 hD1 hp1 (by omega) l2 (x := x) (w := w) (ij := ij)
    obtain ⟨g1, g2⟩ := psF_sm (U := U) (v := lt (g s)) hT.2.1 ho
    have eN : N.2 59 29 = g s := by rw [s1.1.2]; simp [z_setL]
    obtain ⟨M2, h3, h4, h5, h6⟩ := ih N (g s) (psF T U q (lt (g s))) (c + pc 7 (psF T U q (lt (g s))).1) (ij + Int32.ofInt 1) (w + nI (pc 7 (psF T U q (lt (g s))).1)) (i + 1) (s1.tn hT1) (s1.un hU1) (s1.dn hD1) p1 g1 (by omega) eN (z_n1 h2) (by rw [hw, nI_add]) (by omega)
    refine ⟨M2, ?_, ⟨⟨fun i hi => (h4.1.1 i hi).trans (s1.1.1 i hi), rfl⟩, fun i hi => (h4.2 i hi).trans (s1.2 i hi)⟩, fun i hi => (h5 i hi).trans (by rw [s1.1.2]; simp [z_setL, hi]), h6⟩
    have e9 : (z_setL Mj 59 29 (g s)).2 59 29 = g s := by simp [z_setL]
    have e68 : N.1 68 9 = (psF T U q (lt (g s))).1 := p1.1
    refine z_iload_n (pc := 23) dX7_seasons_23 rfl ?_
    refine z_iload_n (pc := 24) dX7_seasons_24 rfl ?_
    refine z_icmp_ge (pc := 25) (tgt := 145) dX7_seasons_25 (by decide) (fun h25 => ?_) (fun h25 => ?_)
    · exact absurd (z_ge h25 h2 hx (by omega) (by omega)) (by omega)
    · refine z_aload_n (pc := 28) dX7_seasons_28 rfl ?_
      refine z_aload_n (pc := 29) dX7_seasons_29 rfl ?_
      refine z_getL (pc := 30) q_fX7_221 z_s59 rfl dX7_seasons_30 ?_
      refine z_ldc2 (pc := 33) q_kX7_227 dX7_seasons_33 ?_
      refine z_lmul (pc := 36) dX7_seasons_36 ?_
      refine z_ldc2 (pc := 37) q_kX7_229 dX7_seasons_37 ?_
      refine z_ladd (pc := 40) dX7_seasons_40 ?_
      rw [hs, hg]
      refine z_putL (pc := 41) q_fX7_221 q_p7_29 z_s59 rfl dX7_seasons_41 ?_
      refine z_aload_n (pc := 44) dX7_seasons_44 rfl ?_
      refine z_getL (pc := 45) q_fX7_221 z_s59 rfl dX7_seasons_45 ?_
      rw [e9]
      refine z_bipush (pc := 48) (v := 33) dX7_seasons_48 (by decide) ?_
      refine z_lushr (pc := 50) dX7_seasons_50 rfl ?_
      refine z_ldc2 (pc := 51) q_kX7_231 dX7_seasons_51 ?_
      refine z_lrem (pc := 54) dX7_seasons_54 (by decide) ?_
      refine z_l2i (pc := 55) dX7_seasons_55 rfl ?_
      rw [l1]
      refine z_istore (pc := 56) dX7_seasons_56 rfl (by decide) ?_
      refine c1 _ _ ?_
      refine z_iload_n (pc := 126) dX7_seasons_126 rfl ?_
      refine z_aload_n (pc := 127) dX7_seasons_127 rfl ?_
      refine z_getR (pc := 128) 68 q_fX7_34 z_s59 rfl dX7_seasons_128 ?_
      refine z_bipush (pc := 131) (v := 9) dX7_seasons_131 (by decide) ?_
      refine z_iald (pc := 133) (9) z_s68 ⟨rfl, by omega⟩ dX7_seasons_133 ?_
      rw [e68]
      refine z_cS1 (pc := 134) c_X7_ones (q_cX7_137 _ (by decide)) rfl dX7_seasons_134 ?_
      refine z_iadd (pc := 137) dX7_seasons_137 ?_
      refine z_istore_n (pc := 138) dX7_seasons_138 rfl (by decide) ?_
      refine z_iinc (pc := 139) dX7_seasons_139 rfl rfl rfl (by decide) ?_
      refine z_goto (pc := 142) (tgt := 23) dX7_seasons_142 (by decide) ?_
      exact z_drop 4 h3
set_option maxRecDepth 100000 in
set_option maxHeartbeats 400000 in
theorem o_X7_seasons_no {M : z_Mem} {l : Nat → Int32} {n : Nat} {T : TT} {U : UT} {D : DT} {p : PLt} {A : List PLt} {k0 k1 : Option PLt} {L : List (Int32 × Int32)} {sd : Int64} (hR : RM M l n T U D p A k0 k1 L sd) {x : Int32} (h : x < 1 ∨ 30 < x) : z_Ct mX7_seasons [.ref 59, .int x] M (some (.int (-2))) M := by
  obtain ⟨rS, rT, rU, rD, rp, rA, r0, r1, rL, rs⟩ := id hR
  have hin := inB_no (b := 1) (c := 30) 1 30 (by decide) (by decide) h

  refine z_entry (by decide +kernel) (Nat.le_of_ble_eq_true rfl) rfl ?_
  show z_Sm mX7_seasons _ _ 0 [some (.ref 59), some (.int x), none, none, none] [] M
  refine z_iload_n (pc := 0) dX7_seasons_0 rfl ?_
  refine z_i2l (pc := 1) dX7_seasons_1 rfl ?_
  refine z_lconst (pc := 2) (v := 1) dX7_seasons_2 (by decide) ?_
  refine z_ldc2 (pc := 3) q_kX7_225 dX7_seasons_3 ?_
  refine z_cS3 (pc := 6) c_X7_in (q_cX7_70 _ (by decide)) rfl dX7_seasons_6 ?_
  refine z_if_ne (pc := 9) (tgt := 15) dX7_seasons_9 (by decide) (fun h9 => ?_) (fun h9 => ?_)
  · rw [hin] at h9; exact absurd rfl h9
  · refine z_bipush (pc := 12) (v := (-2)) dX7_seasons_12 (by decide) ?_
    refine z_iret (pc := 14) rfl dX7_seasons_14 ?_ ?_
    · rfl
    · rfl
set_option maxRecDepth 100000 in
set_option maxHeartbeats 400000 in
theorem o_X7_seasons {M : z_Mem} {l : Nat → Int32} {n : Nat} {T : TT} {U : UT} {D : DT} {p : PLt} {A : List PLt} {k0 k1 : Option PLt} {L : List (Int32 × Int32)} {sd : Int64} (hR : RM M l n T U D p A k0 k1 L sd) (ho : sm7 p.1) (hd : p.2.2 < 2 ^ 28) {x : Int32} {m : Nat} (hx : x = nI m) (hm1 : 1 ≤ m) (hm : m ≤ 30) : ∃ M1, z_Ct mX7_seasons [.ref 59, .int x] M (some (.int (nI (ssF T U sdF ltN m sd p 0).2))) M1 ∧ RM M1 l n T U D p A k0 k1 L (ssF T U sdF ltN m sd p 0).1 ∧ Fm M M1 := by
  obtain ⟨rS, rT, rU, rD, rp, rA, r0, r1, rL, rs⟩ := id hR
  obtain ⟨N, c0, p0, s0⟩ := c_X7_layTrial rp
  have hin : inB x.toInt64 1 30 = true := inB_yes (b := 1) (c := 30) 1 30 (by decide) (by decide) (fun q => q.elim (fun z => absurd ((nI_ltI (b := 1) (by omega) (by decide)).mp (hx ▸ z)) (by omega)) (fun z => absurd ((nI_ltI (a := 30) (by decide) (by omega)).mp (hx ▸ z)) (by omega)))
  obtain ⟨M2, h3, s2, s3, s4⟩ := s_X7_seasons_23 hx hm (g := sdF) (lt := ltN) (fun _ => rfl) ltM_at m N sd p 0 0 0 0 (s0.tn rT) (s0.un rU) (s0.dn rD) p0 ho (by omega) (by rw [s0.1.2]; exact rs) rfl rfl (by omega)
  have s5 : Sn 1 M (M2.1, M.2) := ⟨⟨fun i hi => (s2.1.1 i hi).trans (s0.1.1 i hi), rfl⟩, fun i hi => (s2.2 i hi).trans (s0.2 i hi)⟩
  obtain ⟨q1, q2, q3, q4, q5, q6, q7, q8, q9, -⟩ := RM_th hR s5
  refine ⟨M2, ?_, ⟨q1, q2, q3, q4, q5, q6, ?_, ?_, q9, s4⟩, fun i hi => ⟨s5.1.1 i (by simp; omega), (s3 i (by omega)).trans (by rw [s0.1.2])⟩⟩
  · refine z_entry (by decide +kernel) (Nat.le_of_ble_eq_true rfl) rfl ?_
    show z_Sm mX7_seasons _ _ 0 [some (.ref 59), some (.int x), none, none, none] [] M
    refine z_iload_n (pc := 0) dX7_seasons_0 rfl ?_
    refine z_i2l (pc := 1) dX7_seasons_1 rfl ?_
    refine z_lconst (pc := 2) (v := 1) dX7_seasons_2 (by decide) ?_
    refine z_ldc2 (pc := 3) q_kX7_225 dX7_seasons_3 ?_
    refine z_cS3 (pc := 6) c_X7_in (q_cX7_70 _ (by decide)) rfl dX7_seasons_6 ?_
    refine z_if_ne (pc := 9) (tgt := 15) dX7_seasons_9 (by decide) (fun h9 => ?_) (fun h9 => ?_)
    · refine z_aload_n (pc := 15) dX7_seasons_15 rfl ?_
      refine z_cV0v (pc := 16) c0 (q_cX7_174 _ (by decide)) z_s59 rfl rfl dX7_seasons_16 ?_
      refine z_iconst (pc := 19) (v := 0) dX7_seasons_19 (by decide) ?_
      refine z_istore_n (pc := 20) dX7_seasons_20 rfl (by decide) ?_
      refine z_iconst (pc := 21) (v := 0) dX7_seasons_21 (by decide) ?_
      refine z_istore_n (pc := 22) dX7_seasons_22 rfl (by decide) ?_
      exact h3
    · rw [hin] at h9; exact absurd h9 (by decide)
  · cases k0 <;> exact q7
  · cases k1 <;> exact q8
