theorem wsF_z {w : Nat → Int32} {m : Nat} : ∀ d, (∀ k, m ≤ k → k < m + d → w k = 0) → wsF w (m + d) = wsF w m
  | 0, _ => rfl
  | d + 1, h => by
    show wsF w (m + d) + w (m + d) = wsF w m
    rw [wsF_z d (fun k a b => h k a (by omega)), h (m + d) (by omega) (by omega), Int32.add_zero]
set_option maxRecDepth 100000 in
set_option maxHeartbeats 400000 in
theorem o_X7_pin_no {M : z_Mem} {l : Nat → Int32} {n : Nat} {T : TT} {U : UT} {D : DT} {p : PLt} {A : List PLt} {k0 k1 : Option PLt} {L : List (Int32 × Int32)} {sd : Int64} (hR : RM M l n T U D p A k0 k1 L sd) {x y : Int32} (h : pnB x T.1 = false) : z_Ct mX7_pin [.ref 59, .int x, .int y] M (some (.int (-1))) M := by
  obtain ⟨rS, rT, rU, rD, rp, rA, r0, r1, rL, rs⟩ := id hR

  refine z_entry (by decide +kernel) (Nat.le_of_ble_eq_true rfl) rfl ?_
  show z_Sm mX7_pin _ _ 0 [some (.ref 59), some (.int x), some (.int y)] [] M
  refine z_aload_n (pc := 0) dX7_pin_0 rfl ?_
  refine z_iload_n (pc := 1) dX7_pin_1 rfl ?_
  refine z_cV1 (pc := 2) (c_X7_isPin rT) (q_cX7_146 _ (by decide)) z_s59 rfl rfl dX7_pin_2 ?_
  refine z_if_ne (pc := 5) (tgt := 10) dX7_pin_5 (by decide) (fun h5 => ?_) (fun h5 => ?_)
  · rw [h] at h5; exact absurd rfl h5
  · refine z_iconst (pc := 8) (v := (-1)) dX7_pin_8 (by decide) ?_
    refine z_iret (pc := 9) rfl dX7_pin_9 ?_ ?_
    · rfl
    · rfl
set_option maxRecDepth 100000 in
set_option maxHeartbeats 400000 in
theorem o_X7_pin {M : z_Mem} {l : Nat → Int32} {n : Nat} {T : TT} {U : UT} {D : DT} {p : PLt} {A : List PLt} {k0 k1 : Option PLt} {L : List (Int32 × Int32)} {sd : Int64} (hR : RM M l n T U D p A k0 k1 L sd) {x y : Int32} (h : pnB x T.1 = true) : z_Ct mX7_pin [.ref 59, .int x, .int y] M (some (.int (pinF T p x.toNatClampNeg y))) M := by
  obtain ⟨rS, rT, rU, rD, rp, rA, r0, r1, rL, rs⟩ := id hR
  have hP7 := rT.2.1
  have hx := pnB_at hP7 h
  obtain ⟨ha, hb, ha6, hb6, hs, hk⟩ := rT.2.2 _ hx.1
  have hw : M.1 68 (9 * 0 + 1 + x.toNatClampNeg) = p.2.1 x.toNatClampNeg := rp.2.1 _ (by omega)
  have hix : (1 : Int32) + x = nI (9 * 0 + 1 + x.toNatClampNeg) := by
    rw [← nI_add, ← hx.2]; rfl
  have e0 : M.1 68 0 = p.1 := rp.1
  have e := z_has p.1 (show x.toNatClampNeg < 32 by omega)
  rw [← hx.2] at e

  refine z_entry (by decide +kernel) (Nat.le_of_ble_eq_true rfl) rfl ?_
  show z_Sm mX7_pin _ _ 0 [some (.ref 59), some (.int x), some (.int y)] [] M
  refine z_aload_n (pc := 0) dX7_pin_0 rfl ?_
  refine z_iload_n (pc := 1) dX7_pin_1 rfl ?_
  refine z_cV1 (pc := 2) (c_X7_isPin rT) (q_cX7_146 _ (by decide)) z_s59 rfl rfl dX7_pin_2 ?_
  refine z_if_ne (pc := 5) (tgt := 10) dX7_pin_5 (by decide) (fun h5 => ?_) (fun h5 => ?_)
  · refine z_iload_n (pc := 10) dX7_pin_10 rfl ?_
    by_cases hs0 : y = 0
    · rw [hs0]
      refine z_tswIn (pc := 11) (off := 41) (tgt := 52) dX7_pin_11 (by decide) (by decide) (by decide) (by decide) ?_
      refine z_aload_n (pc := 52) dX7_pin_52 rfl ?_
      refine z_getR (pc := 53) 60 q_fX7_7 z_s59 rfl dX7_pin_53 ?_
      refine z_iload_n (pc := 56) dX7_pin_56 rfl ?_
      refine z_iald (pc := 57) (x.toNatClampNeg) z_s60 ⟨hx.2, by omega⟩ dX7_pin_57 ?_
      refine z_iret (pc := 58) rfl dX7_pin_58 ?_ ?_
      · rw [ha]; rfl
      · rfl
    by_cases hs1 : y = 1
    · rw [hs1]
      refine z_tswIn (pc := 11) (off := 48) (tgt := 59) dX7_pin_11 (by decide) (by decide) (by decide) (by decide) ?_
      refine z_aload_n (pc := 59) dX7_pin_59 rfl ?_
      refine z_getR (pc := 60) 61 q_fX7_13 z_s59 rfl dX7_pin_60 ?_
      refine z_iload_n (pc := 63) dX7_pin_63 rfl ?_
      refine z_iald (pc := 64) (x.toNatClampNeg) z_s61 ⟨hx.2, by omega⟩ dX7_pin_64 ?_
      refine z_iret (pc := 65) rfl dX7_pin_65 ?_ ?_
      · rw [hb]; rfl
      · rfl
    by_cases hs2 : y = 2
    · rw [hs2]
      refine z_tswIn (pc := 11) (off := 55) (tgt := 66) dX7_pin_11 (by decide) (by decide) (by decide) (by decide) ?_
      refine z_aload_n (pc := 66) dX7_pin_66 rfl ?_
      refine z_getR (pc := 67) 62 q_fX7_16 z_s59 rfl dX7_pin_67 ?_
      refine z_iload_n (pc := 70) dX7_pin_70 rfl ?_
      refine z_iald (pc := 71) (x.toNatClampNeg) z_s62 ⟨hx.2, by omega⟩ dX7_pin_71 ?_
      refine z_iret (pc := 72) rfl dX7_pin_72 ?_ ?_
      · rw [hs]; rfl
      · rfl
    by_cases hs3 : y = 3
    · rw [hs3]
      refine z_tswIn (pc := 11) (off := 62) (tgt := 73) dX7_pin_11 (by decide) (by decide) (by decide) (by decide) ?_
      refine z_aload_n (pc := 73) dX7_pin_73 rfl ?_
      refine z_getR (pc := 74) 63 q_fX7_19 z_s59 rfl dX7_pin_74 ?_
      refine z_iload_n (pc := 77) dX7_pin_77 rfl ?_
      refine z_iald (pc := 78) (x.toNatClampNeg) z_s63 ⟨hx.2, by omega⟩ dX7_pin_78 ?_
      refine z_iret (pc := 79) rfl dX7_pin_79 ?_ ?_
      · rw [hk]; rfl
      · rfl
    by_cases hs4 : y = 4
    · rw [hs4]
      refine z_tswIn (pc := 11) (off := 69) (tgt := 80) dX7_pin_11 (by decide) (by decide) (by decide) (by decide) ?_
      refine z_aload_n (pc := 80) dX7_pin_80 rfl ?_
      refine z_iconst (pc := 81) (v := 0) dX7_pin_81 (by decide) ?_
      refine z_iload_n (pc := 82) dX7_pin_82 rfl ?_
      refine z_cV2 (pc := 83) (c_X7_holdsOn rT (lv := 0) (by decide) hx.2 hx.1) (q_cX7_134 _ (by decide)) z_s59 rfl rfl dX7_pin_83 ?_
      refine z_iret (pc := 86) rfl dX7_pin_86 ?_ ?_
      · rw [hw]; rfl
      · rfl
    by_cases hs5 : y = 5
    · rw [hs5]
      refine z_tswIn (pc := 11) (off := 76) (tgt := 87) dX7_pin_11 (by decide) (by decide) (by decide) (by decide) ?_
      refine z_aload_n (pc := 87) dX7_pin_87 rfl ?_
      refine z_getR (pc := 88) 68 q_fX7_34 z_s59 rfl dX7_pin_88 ?_
      refine z_iconst (pc := 91) (v := 1) dX7_pin_91 (by decide) ?_
      refine z_iload_n (pc := 92) dX7_pin_92 rfl ?_
      refine z_iadd (pc := 93) dX7_pin_93 ?_
      refine z_iald (pc := 94) (9 * 0 + 1 + x.toNatClampNeg) z_s68 ⟨hix, by omega⟩ dX7_pin_94 ?_
      refine z_iret (pc := 95) rfl dX7_pin_95 ?_ ?_
      · rw [hw]; rfl
      · rfl
    by_cases hs6 : y = 6
    · rw [hs6]
      refine z_tswIn (pc := 11) (off := 85) (tgt := 96) dX7_pin_11 (by decide) (by decide) (by decide) (by decide) ?_
      refine z_aload_n (pc := 96) dX7_pin_96 rfl ?_
      refine z_getR (pc := 97) 68 q_fX7_34 z_s59 rfl dX7_pin_97 ?_
      refine z_iconst (pc := 100) (v := 0) dX7_pin_100 (by decide) ?_
      refine z_iald (pc := 101) (0) z_s68 ⟨rfl, by omega⟩ dX7_pin_101 ?_
      refine z_iload_n (pc := 102) dX7_pin_102 rfl ?_
      refine z_ishr (pc := 103) dX7_pin_103 ?_
      refine z_iconst (pc := 104) (v := 1) dX7_pin_104 (by decide) ?_
      refine z_iand (pc := 105) dX7_pin_105 ?_
      refine z_iret (pc := 106) rfl dX7_pin_106 ?_ ?_
      · rw [e0, e]; rfl
      · rfl
    refine z_tswOut (pc := 11) (tgt := 107) dX7_pin_11 (z_sw0_6 hs0 hs1 hs2 hs3 hs4 hs5 hs6) (by decide) ?_
    refine z_bipush (pc := 107) (v := (-2)) dX7_pin_107 (by decide) ?_
    refine z_iret (pc := 109) rfl dX7_pin_109 ?_ ?_
    · rw [pinF, if_neg hs0, if_neg hs1, if_neg hs2, if_neg hs3, if_neg hs4, if_neg hs5, if_neg hs6]
    · rfl
  · rw [h] at h5; exact absurd h5 (by decide)
set_option maxRecDepth 100000 in
set_option maxHeartbeats 400000 in
theorem o_X7_count {M : z_Mem} {l : Nat → Int32} {n : Nat} {T : TT} {U : UT} {D : DT} {p : PLt} {A : List PLt} {k0 k1 : Option PLt} {L : List (Int32 × Int32)} {sd : Int64} (hR : RM M l n T U D p A k0 k1 L sd) (hz : ∀ k, T.1 ≤ k → k < 7 → p.2.1 k = 0) {y : Int32} : z_Ct mX7_count [.ref 59, .int y] M (some (.int (cntF n T U D p A L y))) M := by
  obtain ⟨rS, rT, rU, rD, rp, rA, r0, r1, rL, rs⟩ := id hR
  have e0 : M.1 68 0 = p.1 := rp.1
  have e8 : M.1 68 8 = nI p.2.2 := rp.2.2
  have hP7 := rT.2.1
  have ew : wsF p.2.1 T.1 = wsF p.2.1 7 := by
    have := wsF_z (w := p.2.1) (m := T.1) (7 - T.1) (fun k a b => hz k a (by omega))
    rw [show T.1 + (7 - T.1) = 7 by omega] at this
    exact this.symm

  refine z_entry (by decide +kernel) (Nat.le_of_ble_eq_true rfl) rfl ?_
  show z_Sm mX7_count _ _ 0 [some (.ref 59), some (.int y)] [] M
  refine z_iload_n (pc := 0) dX7_count_0 rfl ?_
  by_cases hs0 : y = 0
  · rw [hs0]
    refine z_tswIn (pc := 1) (off := 59) (tgt := 60) dX7_count_1 (by decide) (by decide) (by decide) (by decide) ?_
    refine z_aload_n (pc := 60) dX7_count_60 rfl ?_
    refine z_getI (pc := 61) q_fX7_74 z_s59 rfl dX7_count_61 ?_
    refine z_iret (pc := 64) rfl dX7_count_64 ?_ ?_
    · exact rS.1
    · rfl
  by_cases hs1 : y = 1
  · rw [hs1]
    refine z_tswIn (pc := 1) (off := 64) (tgt := 65) dX7_count_1 (by decide) (by decide) (by decide) (by decide) ?_
    refine z_aload_n (pc := 65) dX7_count_65 rfl ?_
    refine z_getI (pc := 66) q_fX7_105 z_s59 rfl dX7_count_66 ?_
    refine z_iret (pc := 69) rfl dX7_count_69 ?_ ?_
    · exact rT.1
    · rfl
  by_cases hs2 : y = 2
  · rw [hs2]
    refine z_tswIn (pc := 1) (off := 69) (tgt := 70) dX7_count_1 (by decide) (by decide) (by decide) (by decide) ?_
    refine z_aload_n (pc := 70) dX7_count_70 rfl ?_
    refine z_getI (pc := 71) q_fX7_108 z_s59 rfl dX7_count_71 ?_
    refine z_iret (pc := 74) rfl dX7_count_74 ?_ ?_
    · exact rU.1
    · rfl
  by_cases hs3 : y = 3
  · rw [hs3]
    refine z_tswIn (pc := 1) (off := 74) (tgt := 75) dX7_count_1 (by decide) (by decide) (by decide) (by decide) ?_
    refine z_aload_n (pc := 75) dX7_count_75 rfl ?_
    refine z_getI (pc := 76) q_fX7_111 z_s59 rfl dX7_count_76 ?_
    refine z_iret (pc := 79) rfl dX7_count_79 ?_ ?_
    · exact rD.1
    · rfl
  by_cases hs4 : y = 4
  · rw [hs4]
    refine z_tswIn (pc := 1) (off := 79) (tgt := 80) dX7_count_1 (by decide) (by decide) (by decide) (by decide) ?_
    refine z_aload_n (pc := 80) dX7_count_80 rfl ?_
    refine z_getR (pc := 81) 68 q_fX7_34 z_s59 rfl dX7_count_81 ?_
    refine z_bipush (pc := 84) (v := 8) dX7_count_84 (by decide) ?_
    refine z_iald (pc := 86) (8) z_s68 ⟨rfl, by omega⟩ dX7_count_86 ?_
    refine z_iret (pc := 87) rfl dX7_count_87 ?_ ?_
    · rw [e8]; rfl
    · rfl
  by_cases hs5 : y = 5
  · rw [hs5]
    refine z_tswIn (pc := 1) (off := 87) (tgt := 88) dX7_count_1 (by decide) (by decide) (by decide) (by decide) ?_
    refine z_aload_n (pc := 88) dX7_count_88 rfl ?_
    refine z_getR (pc := 89) 68 q_fX7_34 z_s59 rfl dX7_count_89 ?_
    refine z_iconst (pc := 92) (v := 0) dX7_count_92 (by decide) ?_
    refine z_iald (pc := 93) (0) z_s68 ⟨rfl, by omega⟩ dX7_count_93 ?_
    refine z_iret (pc := 94) rfl dX7_count_94 ?_ ?_
    · rw [e0]; rfl
    · rfl
  by_cases hs6 : y = 6
  · rw [hs6]
    refine z_tswIn (pc := 1) (off := 94) (tgt := 95) dX7_count_1 (by decide) (by decide) (by decide) (by decide) ?_
    refine z_aload_n (pc := 95) dX7_count_95 rfl ?_
    refine z_aload_n (pc := 96) dX7_count_96 rfl ?_
    refine z_getR (pc := 97) 68 q_fX7_34 z_s59 rfl dX7_count_97 ?_
    refine z_iconst (pc := 100) (v := 0) dX7_count_100 (by decide) ?_
    refine z_iald (pc := 101) (0) z_s68 ⟨rfl, by omega⟩ dX7_count_101 ?_
    refine z_cV1 (pc := 102) (c_X7_doableBy rT rD) (q_cX7_180 _ (by decide)) z_s59 rfl rfl dX7_count_102 ?_
    refine z_iret (pc := 105) rfl dX7_count_105 ?_ ?_
    · rw [e0]; rfl
    · rfl
  by_cases hs7 : y = 7
  · rw [hs7]
    refine z_tswIn (pc := 1) (off := 105) (tgt := 106) dX7_count_1 (by decide) (by decide) (by decide) (by decide) ?_
    refine z_aload_n (pc := 106) dX7_count_106 rfl ?_
    refine z_aload_n (pc := 107) dX7_count_107 rfl ?_
    refine z_getR (pc := 108) 68 q_fX7_34 z_s59 rfl dX7_count_108 ?_
    refine z_iconst (pc := 111) (v := 0) dX7_count_111 (by decide) ?_
    refine z_iald (pc := 112) (0) z_s68 ⟨rfl, by omega⟩ dX7_count_112 ?_
    refine z_cV1 (pc := 113) (c_X7_pairsBy rT) (q_cX7_202 _ (by decide)) z_s59 rfl rfl dX7_count_113 ?_
    refine z_iret (pc := 116) rfl dX7_count_116 ?_ ?_
    · rw [e0]; rfl
    · rfl
  by_cases hs8 : y = 8
  · rw [hs8]
    refine z_tswIn (pc := 1) (off := 116) (tgt := 117) dX7_count_1 (by decide) (by decide) (by decide) (by decide) ?_
    refine z_aload_n (pc := 117) dX7_count_117 rfl ?_
    refine z_cV0 (pc := 118) (c_X7_wearOfAll rT rp) (q_cX7_233 _ (by decide)) z_s59 rfl rfl dX7_count_118 ?_
    refine z_iret (pc := 121) rfl dX7_count_121 ?_ ?_
    · rw [ew]; rfl
    · rfl
  by_cases hs9 : y = 9
  · rw [hs9]
    refine z_tswIn (pc := 1) (off := 121) (tgt := 122) dX7_count_1 (by decide) (by decide) (by decide) (by decide) ?_
    refine z_aload_n (pc := 122) dX7_count_122 rfl ?_
    refine z_getI (pc := 123) q_fX7_114 z_s59 rfl dX7_count_123 ?_
    refine z_iret (pc := 126) rfl dX7_count_126 ?_ ?_
    · obtain ⟨t, ht, a1, a2, -⟩ := rA; exact a2
    · rfl
  by_cases hs10 : y = 10
  · rw [hs10]
    refine z_tswIn (pc := 1) (off := 126) (tgt := 127) dX7_count_1 (by decide) (by decide) (by decide) (by decide) ?_
    refine z_aload_n (pc := 127) dX7_count_127 rfl ?_
    refine z_getI (pc := 128) q_fX7_196 z_s59 rfl dX7_count_128 ?_
    refine z_iret (pc := 131) rfl dX7_count_131 ?_ ?_
    · exact rL.1
    · rfl
  refine z_tswOut (pc := 1) (tgt := 132) dX7_count_1 (z_sw0_10 hs0 hs1 hs2 hs3 hs4 hs5 hs6 hs7 hs8 hs9 hs10) (by decide) ?_
  refine z_bipush (pc := 132) (v := (-2)) dX7_count_132 (by decide) ?_
  refine z_iret (pc := 134) rfl dX7_count_134 ?_ ?_
  · rw [cntF, if_neg hs0, if_neg hs1, if_neg hs2, if_neg hs3, if_neg hs4, if_neg hs5, if_neg hs6, if_neg hs7, if_neg hs8, if_neg hs9, if_neg hs10]
  · rfl
