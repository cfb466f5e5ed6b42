set_option maxRecDepth 100000 in
set_option maxHeartbeats 400000 in
theorem s_X7_town_38 {M M2 : z_Mem} {r : Option Value}  (kk : z_Sm mX7_town r M2 57 [some (.ref 59), none] [] (z_row M 68 (cpF (9) (fun _ => 0) (M.1 68)))) (j : Nat) (hj : j ≤ 9) (ij : Int32) (Mj : z_Mem) (h2 : ij = nI j) (hM : Mj = z_row M 68 (cpF j (fun _ => 0) (M.1 68))) : z_Sm mX7_town r M2 38 [some (.ref 59), some (.int ij)] [] Mj := by
  refine z_iload_n (pc := 38) dX7_town_38 rfl ?_
  refine z_bipush (pc := 39) (v := 9) dX7_town_39 (by decide) ?_
  refine z_icmp_ge (pc := 41) (tgt := 57) dX7_town_41 (by decide) (fun h41 => ?_) (fun h41 => ?_)
  · have hNj : 9 ≤ j := by
      have := z_ge h41 h2 (show (9 : Int32) = nI 9 from rfl) (by omega) (by omega)
      omega
    obtain rfl : j = 9 := by omega
    subst hM
    exact z_drop 1 kk
  · have hlt : j < 9 := by
      have := z_lt h41 h2 (show (9 : Int32) = nI 9 from rfl) (by omega) (by omega)
      omega
    refine z_aload_n (pc := 44) dX7_town_44 rfl ?_
    refine z_getR (pc := 45) 68 q_fX7_34 z_s59 rfl dX7_town_45 ?_
    refine z_iload_n (pc := 48) dX7_town_48 rfl ?_
    refine z_iconst (pc := 49) (v := 0) dX7_town_49 (by decide) ?_
    refine z_iast (pc := 50) (j) z_s68 ⟨h2, by omega⟩ dX7_town_50 ?_
    refine z_iinc (pc := 51) dX7_town_51 rfl rfl rfl (by decide) ?_
    refine z_goto (pc := 54) (tgt := 38) dX7_town_54 (by decide) ?_
    exact s_X7_town_38  kk (j + 1) hlt _ _ (z_n1 h2) (by rw [z_set, hM, z_row_1, z_row_row]; exact congrArg (z_row M 68) (cpF_s j (fun _ => 0) (M.1 68)))
termination_by 9 - j
decreasing_by all_goals omega
set_option maxRecDepth 100000 in
set_option maxHeartbeats 400000 in
theorem s_X7_town_59 {P : Nat} (hP : P ≤ 7) : ∀ (f j : Nat) (M : z_Mem) (ij : Int32), ij = nI j → j + f = P → M.1 59 0 = nI P → ∃ N, (∀ (M2 : z_Mem) (r : Option Value), z_Sm mX7_town r M2 135 [some (.ref 59), none] [] N → z_Sm mX7_town r M2 59 [some (.ref 59), some (.int ij)] [] M) ∧ (∀ i, i ≠ 60 → i ≠ 61 → i ≠ 62 → i ≠ 63 → N.1 i = M.1 i) ∧ N.2 = M.2 ∧ (∀ k, j ≤ k → k < P → N.1 60 k = M.1 69 (4 * k) ∧ N.1 61 k = M.1 69 (4 * k + 1) ∧ N.1 62 k = M.1 69 (4 * k + 2) ∧ N.1 63 k = M.1 69 (4 * k + 3)) ∧ (∀ k, k < j → N.1 60 k = M.1 60 k ∧ N.1 61 k = M.1 61 k ∧ N.1 62 k = M.1 62 k ∧ N.1 63 k = M.1 63 k) := by
  intro f
  induction f with
  | zero =>
    intro j M ij hi hf hA
    refine ⟨M, fun M2 r kk => ?_, fun _ _ _ _ _ => rfl, rfl, fun k h1 h2 => absurd h2 (by omega), fun k hk => ⟨rfl, rfl, rfl, rfl⟩⟩
    refine z_iload_n (pc := 59) dX7_town_59 rfl ?_
    refine z_aload_n (pc := 60) dX7_town_60 rfl ?_
    refine z_getI (pc := 61) q_fX7_105 z_s59 rfl dX7_town_61 ?_
    refine z_icmp_ge (pc := 64) (tgt := 135) dX7_town_64 (by decide) (fun h64 => ?_) (fun h64 => ?_)
    · exact z_drop 1 kk
    · exact absurd (z_lt h64 hi hA (by omega) (by omega)) (by omega)
  | succ f ih =>
    intro j M ij hi hf hA
    subst hi
    have ix : (4 : Int32) * nI j = nI (4 * j) := nx_mul 4 j
    have v1 : M.1 69 (4 * j) = M.1 69 (4 * j) := rfl
    have r1 : (z_set M 60 j (M.1 69 (4 * j))).1 60 = upd (M.1 60) j (M.1 69 (4 * j)) := z_row_1 _ _ _
    have o1 : ∀ i, i ≠ 60 → (z_set M 60 j (M.1 69 (4 * j))).1 i = M.1 i := fun i hi => z_row_n _ _ hi
    have t1 : (z_set M 60 j (M.1 69 (4 * j))).2 = M.2 := rfl
    generalize hK1 : z_set M 60 j (M.1 69 (4 * j)) = K1 at r1 o1 t1
    have v2 : K1.1 69 (4 * j + 1) = M.1 69 (4 * j + 1) := by rw [o1 _ (by decide)]
    have r2 : (z_set K1 61 j (M.1 69 (4 * j + 1))).1 61 = upd (K1.1 61) j (M.1 69 (4 * j + 1)) := z_row_1 _ _ _
    have o2 : ∀ i, i ≠ 61 → (z_set K1 61 j (M.1 69 (4 * j + 1))).1 i = K1.1 i := fun i hi => z_row_n _ _ hi
    have t2 : (z_set K1 61 j (M.1 69 (4 * j + 1))).2 = K1.2 := rfl
    generalize hK2 : z_set K1 61 j (M.1 69 (4 * j + 1)) = K2 at r2 o2 t2
    have v3 : K2.1 69 (4 * j + 2) = M.1 69 (4 * j + 2) := by rw [o2 _ (by decide), o1 _ (by decide)]
    have r3 : (z_set K2 62 j (M.1 69 (4 * j + 2))).1 62 = upd (K2.1 62) j (M.1 69 (4 * j + 2)) := z_row_1 _ _ _
    have o3 : ∀ i, i ≠ 62 → (z_set K2 62 j (M.1 69 (4 * j + 2))).1 i = K2.1 i := fun i hi => z_row_n _ _ hi
    have t3 : (z_set K2 62 j (M.1 69 (4 * j + 2))).2 = K2.2 := rfl
    generalize hK3 : z_set K2 62 j (M.1 69 (4 * j + 2)) = K3 at r3 o3 t3
    have v4 : K3.1 69 (4 * j + 3) = M.1 69 (4 * j + 3) := by rw [o3 _ (by decide), o2 _ (by decide), o1 _ (by decide)]
    have r4 : (z_set K3 63 j (M.1 69 (4 * j + 3))).1 63 = upd (K3.1 63) j (M.1 69 (4 * j + 3)) := z_row_1 _ _ _
    have o4 : ∀ i, i ≠ 63 → (z_set K3 63 j (M.1 69 (4 * j + 3))).1 i = K3.1 i := fun i hi => z_row_n _ _ hi
    have t4 : (z_set K3 63 j (M.1 69 (4 * j + 3))).2 = K3.2 := rfl
    generalize hK4 : z_set K3 63 j (M.1 69 (4 * j + 3)) = K4 at r4 o4 t4
    have oo : ∀ i, i ≠ 60 → i ≠ 61 → i ≠ 62 → i ≠ 63 → K4.1 i = M.1 i := fun i b1 b2 b3 b4 => by rw [o4 i b4, o3 i b3, o2 i b2, o1 i b1]
    obtain ⟨N, c1, e1, e2, e3, e4⟩ := ih (j + 1) K4 (nI j + Int32.ofInt 1) (z_n1 rfl) (by omega) (by rw [oo 59 (by decide) (by decide) (by decide) (by decide)]; exact hA)
    refine ⟨N, fun M2 r kk => ?_, fun i b1 b2 b3 b4 => (e1 i b1 b2 b3 b4).trans (oo i b1 b2 b3 b4), e2.trans (by rw [t4, t3, t2, t1]), fun k h1 h2 => ?_, fun k hk => ?_⟩
    · refine z_iload_n (pc := 59) dX7_town_59 rfl ?_
      refine z_aload_n (pc := 60) dX7_town_60 rfl ?_
      refine z_getI (pc := 61) q_fX7_105 z_s59 rfl dX7_town_61 ?_
      refine z_icmp_ge (pc := 64) (tgt := 135) dX7_town_64 (by decide) (fun h64 => ?_) (fun h64 => ?_)
      · exact absurd (z_ge h64 (show nI j = nI j from rfl) hA (by omega) (by omega)) (by omega)
      · refine z_aload_n (pc := 67) dX7_town_67 rfl ?_
        refine z_getR (pc := 68) 60 q_fX7_7 z_s59 rfl dX7_town_68 ?_
        refine z_iload_n (pc := 71) dX7_town_71 rfl ?_
        refine z_aload_n (pc := 72) dX7_town_72 rfl ?_
        refine z_getR (pc := 73) 69 q_fX7_37 z_s59 rfl dX7_town_73 ?_
        refine z_iconst (pc := 76) (v := 4) dX7_town_76 (by decide) ?_
        refine z_iload_n (pc := 77) dX7_town_77 rfl ?_
        refine z_imul (pc := 78) dX7_town_78 ?_
        refine z_iald (pc := 79) (4 * j) z_s69 ⟨ix, by omega⟩ dX7_town_79 ?_
        refine z_iast (pc := 80) (j) z_s60 ⟨rfl, by omega⟩ dX7_town_80 ?_
        rw [hK1]
        refine z_aload_n (pc := 81) dX7_town_81 rfl ?_
        refine z_getR (pc := 82) 61 q_fX7_13 z_s59 rfl dX7_town_82 ?_
        refine z_iload_n (pc := 85) dX7_town_85 rfl ?_
        refine z_aload_n (pc := 86) dX7_town_86 rfl ?_
        refine z_getR (pc := 87) 69 q_fX7_37 z_s59 rfl dX7_town_87 ?_
        refine z_iconst (pc := 90) (v := 4) dX7_town_90 (by decide) ?_
        refine z_iload_n (pc := 91) dX7_town_91 rfl ?_
        refine z_imul (pc := 92) dX7_town_92 ?_
        refine z_iconst (pc := 93) (v := 1) dX7_town_93 (by decide) ?_
        refine z_iadd (pc := 94) dX7_town_94 ?_
        refine z_iald (pc := 95) (4 * j + 1) z_s69 ⟨by rw [ix]; exact nI_add _ 1, by omega⟩ dX7_town_95 ?_
        rw [v2]
        refine z_iast (pc := 96) (j) z_s61 ⟨rfl, by omega⟩ dX7_town_96 ?_
        rw [hK2]
        refine z_aload_n (pc := 97) dX7_town_97 rfl ?_
        refine z_getR (pc := 98) 62 q_fX7_16 z_s59 rfl dX7_town_98 ?_
        refine z_iload_n (pc := 101) dX7_town_101 rfl ?_
        refine z_aload_n (pc := 102) dX7_town_102 rfl ?_
        refine z_getR (pc := 103) 69 q_fX7_37 z_s59 rfl dX7_town_103 ?_
        refine z_iconst (pc := 106) (v := 4) dX7_town_106 (by decide) ?_
        refine z_iload_n (pc := 107) dX7_town_107 rfl ?_
        refine z_imul (pc := 108) dX7_town_108 ?_
        refine z_iconst (pc := 109) (v := 2) dX7_town_109 (by decide) ?_
        refine z_iadd (pc := 110) dX7_town_110 ?_
        refine z_iald (pc := 111) (4 * j + 2) z_s69 ⟨by rw [ix]; exact nI_add _ 2, by omega⟩ dX7_town_111 ?_
        rw [v3]
        refine z_iast (pc := 112) (j) z_s62 ⟨rfl, by omega⟩ dX7_town_112 ?_
        rw [hK3]
        refine z_aload_n (pc := 113) dX7_town_113 rfl ?_
        refine z_getR (pc := 114) 63 q_fX7_19 z_s59 rfl dX7_town_114 ?_
        refine z_iload_n (pc := 117) dX7_town_117 rfl ?_
        refine z_aload_n (pc := 118) dX7_town_118 rfl ?_
        refine z_getR (pc := 119) 69 q_fX7_37 z_s59 rfl dX7_town_119 ?_
        refine z_iconst (pc := 122) (v := 4) dX7_town_122 (by decide) ?_
        refine z_iload_n (pc := 123) dX7_town_123 rfl ?_
        refine z_imul (pc := 124) dX7_town_124 ?_
        refine z_iconst (pc := 125) (v := 3) dX7_town_125 (by decide) ?_
        refine z_iadd (pc := 126) dX7_town_126 ?_
        refine z_iald (pc := 127) (4 * j + 3) z_s69 ⟨by rw [ix]; exact nI_add _ 3, by omega⟩ dX7_town_127 ?_
        rw [v4]
        refine z_iast (pc := 128) (j) z_s63 ⟨rfl, by omega⟩ dX7_town_128 ?_
        rw [hK4]
        refine z_iinc (pc := 129) dX7_town_129 rfl rfl rfl (by decide) ?_
        refine z_goto (pc := 132) (tgt := 59) dX7_town_132 (by decide) ?_
        exact c1 _ _ kk
    · by_cases e : k = j
      · subst e
        have ⟨g1, g2, g3, g4⟩ := e4 k (Nat.lt_succ_self k)
        exact ⟨by rw [g1, o4 _ (by decide), o3 _ (by decide), o2 _ (by decide), r1, upd_1], by rw [g2, o4 _ (by decide), o3 _ (by decide), r2, upd_1], by rw [g3, o4 _ (by decide), r3, upd_1], by rw [g4, r4, upd_1]⟩
      · have ⟨g1, g2, g3, g4⟩ := e3 k (by omega) h2
        rw [oo 69 (by decide) (by decide) (by decide) (by decide)] at g1 g2 g3 g4
        exact ⟨g1, g2, g3, g4⟩
    · have ⟨g1, g2, g3, g4⟩ := e4 k (by omega)
      exact ⟨by rw [g1, o4 _ (by decide), o3 _ (by decide), o2 _ (by decide), r1, upd_n _ _ (by omega)], by rw [g2, o4 _ (by decide), o3 _ (by decide), r2, upd_n _ _ (by omega), o1 _ (by decide)], by rw [g3, o4 _ (by decide), r3, upd_n _ _ (by omega), o2 _ (by decide), o1 _ (by decide)], by rw [g4, r4, upd_n _ _ (by omega), o3 _ (by decide), o2 _ (by decide), o1 _ (by decide)]⟩
set_option maxRecDepth 100000 in
set_option maxHeartbeats 400000 in
theorem s_X7_town_137 {P : Nat} (hP : P ≤ 4) : ∀ (f j : Nat) (M : z_Mem) (ij : Int32), ij = nI j → j + f = P → M.1 59 1 = nI P → ∃ N, (∀ (M2 : z_Mem) (r : Option Value), z_Sm mX7_town r M2 181 [some (.ref 59), none] [] N → z_Sm mX7_town r M2 137 [some (.ref 59), some (.int ij)] [] M) ∧ (∀ i, i ≠ 64 → i ≠ 65 → N.1 i = M.1 i) ∧ N.2 = M.2 ∧ (∀ k, j ≤ k → k < P → N.1 64 k = M.1 70 (2 * k) ∧ N.1 65 k = M.1 70 (2 * k + 1)) ∧ (∀ k, k < j → N.1 64 k = M.1 64 k ∧ N.1 65 k = M.1 65 k) := by
  intro f
  induction f with
  | zero =>
    intro j M ij hi hf hA
    refine ⟨M, fun M2 r kk => ?_, fun _ _ _ => rfl, rfl, fun k h1 h2 => absurd h2 (by omega), fun k hk => ⟨rfl, rfl⟩⟩
    refine z_iload_n (pc := 137) dX7_town_137 rfl ?_
    refine z_aload_n (pc := 138) dX7_town_138 rfl ?_
    refine z_getI (pc := 139) q_fX7_108 z_s59 rfl dX7_town_139 ?_
    refine z_icmp_ge (pc := 142) (tgt := 181) dX7_town_142 (by decide) (fun h142 => ?_) (fun h142 => ?_)
    · exact z_drop 1 kk
    · exact absurd (z_lt h142 hi hA (by omega) (by omega)) (by omega)
  | succ f ih =>
    intro j M ij hi hf hA
    subst hi
    have ix : (2 : Int32) * nI j = nI (2 * j) := nx_mul 2 j
    have v1 : M.1 70 (2 * j) = M.1 70 (2 * j) := rfl
    have r1 : (z_set M 64 j (M.1 70 (2 * j))).1 64 = upd (M.1 64) j (M.1 70 (2 * j)) := z_row_1 _ _ _
    have o1 : ∀ i, i ≠ 64 → (z_set M 64 j (M.1 70 (2 * j))).1 i = M.1 i := fun i hi => z_row_n _ _ hi
    have t1 : (z_set M 64 j (M.1 70 (2 * j))).2 = M.2 := rfl
    generalize hK1 : z_set M 64 j (M.1 70 (2 * j)) = K1 at r1 o1 t1
    have v2 : K1.1 70 (2 * j + 1) = M.1 70 (2 * j + 1) := by rw [o1 _ (by decide)]
    have r2 : (z_set K1 65 j (M.1 70 (2 * j + 1))).1 65 = upd (K1.1 65) j (M.1 70 (2 * j + 1)) := z_row_1 _ _ _
    have o2 : ∀ i, i ≠ 65 → (z_set K1 65 j (M.1 70 (2 * j + 1))).1 i = K1.1 i := fun i hi => z_row_n _ _ hi
    have t2 : (z_set K1 65 j (M.1 70 (2 * j + 1))).2 = K1.2 := rfl
    generalize hK2 : z_set K1 65 j (M.1 70 (2 * j + 1)) = K2 at r2 o2 t2
    have oo : ∀ i, i ≠ 64 → i ≠ 65 → K2.1 i = M.1 i := fun i b1 b2 => by rw [o2 i b2, o1 i b1]
    obtain ⟨N, c1, e1, e2, e3, e4⟩ := ih (j + 1) K2 (nI j + Int32.ofInt 1) (z_n1 rfl) (by omega) (by rw [oo 59 (by decide) (by decide)]; exact hA)
    refine ⟨N, fun M2 r kk => ?_, fun i b1 b2 => (e1 i b1 b2).trans (oo i b1 b2), e2.trans (by rw [t2, t1]), fun k h1 h2 => ?_, fun k hk => ?_⟩
    · refine z_iload_n (pc := 137) dX7_town_137 rfl ?_
      refine z_aload_n (pc := 138) dX7_town_138 rfl ?_
      refine z_getI (pc := 139) q_fX7_108 z_s59 rfl dX7_town_139 ?_
      refine z_icmp_ge (pc := 142) (tgt := 181) dX7_town_142 (by decide) (fun h142 => ?_) (fun h142 => ?_)
      · exact absurd (z_ge h142 (show nI j = nI j from rfl) hA (by omega) (by omega)) (by omega)
      · refine z_aload_n (pc := 145) dX7_town_145 rfl ?_
        refine z_getR (pc := 146) 64 q_fX7_22 z_s59 rfl dX7_town_146 ?_
        refine z_iload_n (pc := 149) dX7_town_149 rfl ?_
        refine z_aload_n (pc := 150) dX7_town_150 rfl ?_
        refine z_getR (pc := 151) 70 q_fX7_40 z_s59 rfl dX7_town_151 ?_
        refine z_iconst (pc := 154) (v := 2) dX7_town_154 (by decide) ?_
        refine z_iload_n (pc := 155) dX7_town_155 rfl ?_
        refine z_imul (pc := 156) dX7_town_156 ?_
        refine z_iald (pc := 157) (2 * j) z_s70 ⟨ix, by omega⟩ dX7_town_157 ?_
        refine z_iast (pc := 158) (j) z_s64 ⟨rfl, by omega⟩ dX7_town_158 ?_
        rw [hK1]
        refine z_aload_n (pc := 159) dX7_town_159 rfl ?_
        refine z_getR (pc := 160) 65 q_fX7_25 z_s59 rfl dX7_town_160 ?_
        refine z_iload_n (pc := 163) dX7_town_163 rfl ?_
        refine z_aload_n (pc := 164) dX7_town_164 rfl ?_
        refine z_getR (pc := 165) 70 q_fX7_40 z_s59 rfl dX7_town_165 ?_
        refine z_iconst (pc := 168) (v := 2) dX7_town_168 (by decide) ?_
        refine z_iload_n (pc := 169) dX7_town_169 rfl ?_
        refine z_imul (pc := 170) dX7_town_170 ?_
        refine z_iconst (pc := 171) (v := 1) dX7_town_171 (by decide) ?_
        refine z_iadd (pc := 172) dX7_town_172 ?_
        refine z_iald (pc := 173) (2 * j + 1) z_s70 ⟨by rw [ix]; exact nI_add _ 1, by omega⟩ dX7_town_173 ?_
        rw [v2]
        refine z_iast (pc := 174) (j) z_s65 ⟨rfl, by omega⟩ dX7_town_174 ?_
        rw [hK2]
        refine z_iinc (pc := 175) dX7_town_175 rfl rfl rfl (by decide) ?_
        refine z_goto (pc := 178) (tgt := 137) dX7_town_178 (by decide) ?_
        exact c1 _ _ kk
    · by_cases e : k = j
      · subst e
        have ⟨g1, g2⟩ := e4 k (Nat.lt_succ_self k)
        exact ⟨by rw [g1, o2 _ (by decide), r1, upd_1], by rw [g2, r2, upd_1]⟩
      · have ⟨g1, g2⟩ := e3 k (by omega) h2
        rw [oo 70 (by decide) (by decide)] at g1 g2
        exact ⟨g1, g2⟩
    · have ⟨g1, g2⟩ := e4 k (by omega)
      exact ⟨by rw [g1, o2 _ (by decide), r1, upd_n _ _ (by omega)], by rw [g2, r2, upd_n _ _ (by omega), o1 _ (by decide)]⟩
set_option maxRecDepth 100000 in
set_option maxHeartbeats 400000 in
theorem s_X7_town_183 {P : Nat} (hP : P ≤ 3) : ∀ (f j : Nat) (M : z_Mem) (ij : Int32), ij = nI j → j + f = P → M.1 59 2 = nI P → ∃ N, (∀ (M2 : z_Mem) (r : Option Value), z_Sm mX7_town r M2 227 [some (.ref 59), none] [] N → z_Sm mX7_town r M2 183 [some (.ref 59), some (.int ij)] [] M) ∧ (∀ i, i ≠ 66 → i ≠ 67 → N.1 i = M.1 i) ∧ N.2 = M.2 ∧ (∀ k, j ≤ k → k < P → N.1 66 k = M.1 71 (2 * k) ∧ N.1 67 k = M.1 71 (2 * k + 1)) ∧ (∀ k, k < j → N.1 66 k = M.1 66 k ∧ N.1 67 k = M.1 67 k) := by
  intro f
  induction f with
  | zero =>
    intro j M ij hi hf hA
    refine ⟨M, fun M2 r kk => ?_, fun _ _ _ => rfl, rfl, fun k h1 h2 => absurd h2 (by omega), fun k hk => ⟨rfl, rfl⟩⟩
    refine z_iload_n (pc := 183) dX7_town_183 rfl ?_
    refine z_aload_n (pc := 184) dX7_town_184 rfl ?_
    refine z_getI (pc := 185) q_fX7_111 z_s59 rfl dX7_town_185 ?_
    refine z_icmp_ge (pc := 188) (tgt := 227) dX7_town_188 (by decide) (fun h188 => ?_) (fun h188 => ?_)
    · exact z_drop 1 kk
    · exact absurd (z_lt h188 hi hA (by omega) (by omega)) (by omega)
  | succ f ih =>
    intro j M ij hi hf hA
    subst hi
    have ix : (2 : Int32) * nI j = nI (2 * j) := nx_mul 2 j
    have v1 : M.1 71 (2 * j) = M.1 71 (2 * j) := rfl
    have r1 : (z_set M 66 j (M.1 71 (2 * j))).1 66 = upd (M.1 66) j (M.1 71 (2 * j)) := z_row_1 _ _ _
    have o1 : ∀ i, i ≠ 66 → (z_set M 66 j (M.1 71 (2 * j))).1 i = M.1 i := fun i hi => z_row_n _ _ hi
    have t1 : (z_set M 66 j (M.1 71 (2 * j))).2 = M.2 := rfl
    generalize hK1 : z_set M 66 j (M.1 71 (2 * j)) = K1 at r1 o1 t1
    have v2 : K1.1 71 (2 * j + 1) = M.1 71 (2 * j + 1) := by rw [o1 _ (by decide)]
    have r2 : (z_set K1 67 j (M.1 71 (2 * j + 1))).1 67 = upd (K1.1 67) j (M.1 71 (2 * j + 1)) := z_row_1 _ _ _
    have o2 : ∀ i, i ≠ 67 → (z_set K1 67 j (M.1 71 (2 * j + 1))).1 i = K1.1 i := fun i hi => z_row_n _ _ hi
    have t2 : (z_set K1 67 j (M.1 71 (2 * j + 1))).2 = K1.2 := rfl
    generalize hK2 : z_set K1 67 j (M.1 71 (2 * j + 1)) = K2 at r2 o2 t2
    have oo : ∀ i, i ≠ 66 → i ≠ 67 → K2.1 i = M.1 i := fun i b1 b2 => by rw [o2 i b2, o1 i b1]
    obtain ⟨N, c1, e1, e2, e3, e4⟩ := ih (j + 1) K2 (nI j + Int32.ofInt 1) (z_n1 rfl) (by omega) (by rw [oo 59 (by decide) (by decide)]; exact hA)
    refine ⟨N, fun M2 r kk => ?_, fun i b1 b2 => (e1 i b1 b2).trans (oo i b1 b2), e2.trans (by rw [t2, t1]), fun k h1 h2 => ?_, fun k hk => ?_⟩
    · refine z_iload_n (pc := 183) dX7_town_183 rfl ?_
      refine z_aload_n (pc := 184) dX7_town_184 rfl ?_
      refine z_getI (pc := 185) q_fX7_111 z_s59 rfl dX7_town_185 ?_
      refine z_icmp_ge (pc := 188) (tgt := 227) dX7_town_188 (by decide) (fun h188 => ?_) (fun h188 => ?_)
      · exact absurd (z_ge h188 (show nI j = nI j from rfl) hA (by omega) (by omega)) (by omega)
      · refine z_aload_n (pc := 191) dX7_town_191 rfl ?_
        refine z_getR (pc := 192) 66 q_fX7_28 z_s59 rfl dX7_town_192 ?_
        refine z_iload_n (pc := 195) dX7_town_195 rfl ?_
        refine z_aload_n (pc := 196) dX7_town_196 rfl ?_
        refine z_getR (pc := 197) 71 q_fX7_43 z_s59 rfl dX7_town_197 ?_
        refine z_iconst (pc := 200) (v := 2) dX7_town_200 (by decide) ?_
        refine z_iload_n (pc := 201) dX7_town_201 rfl ?_
        refine z_imul (pc := 202) dX7_town_202 ?_
        refine z_iald (pc := 203) (2 * j) z_s71 ⟨ix, by omega⟩ dX7_town_203 ?_
        refine z_iast (pc := 204) (j) z_s66 ⟨rfl, by omega⟩ dX7_town_204 ?_
        rw [hK1]
        refine z_aload_n (pc := 205) dX7_town_205 rfl ?_
        refine z_getR (pc := 206) 67 q_fX7_31 z_s59 rfl dX7_town_206 ?_
        refine z_iload_n (pc := 209) dX7_town_209 rfl ?_
        refine z_aload_n (pc := 210) dX7_town_210 rfl ?_
        refine z_getR (pc := 211) 71 q_fX7_43 z_s59 rfl dX7_town_211 ?_
        refine z_iconst (pc := 214) (v := 2) dX7_town_214 (by decide) ?_
        refine z_iload_n (pc := 215) dX7_town_215 rfl ?_
        refine z_imul (pc := 216) dX7_town_216 ?_
        refine z_iconst (pc := 217) (v := 1) dX7_town_217 (by decide) ?_
        refine z_iadd (pc := 218) dX7_town_218 ?_
        refine z_iald (pc := 219) (2 * j + 1) z_s71 ⟨by rw [ix]; exact nI_add _ 1, by omega⟩ dX7_town_219 ?_
        rw [v2]
        refine z_iast (pc := 220) (j) z_s67 ⟨rfl, by omega⟩ dX7_town_220 ?_
        rw [hK2]
        refine z_iinc (pc := 221) dX7_town_221 rfl rfl rfl (by decide) ?_
        refine z_goto (pc := 224) (tgt := 183) dX7_town_224 (by decide) ?_
        exact c1 _ _ kk
    · by_cases e : k = j
      · subst e
        have ⟨g1, g2⟩ := e4 k (Nat.lt_succ_self k)
        exact ⟨by rw [g1, o2 _ (by decide), r1, upd_1], by rw [g2, r2, upd_1]⟩
      · have ⟨g1, g2⟩ := e3 k (by omega) h2
        rw [oo 71 (by decide) (by decide)] at g1 g2
        exact ⟨g1, g2⟩
    · have ⟨g1, g2⟩ := e4 k (by omega)
      exact ⟨by rw [g1, o2 _ (by decide), r1, upd_n _ _ (by omega)], by rw [g2, r2, upd_n _ _ (by omega), o1 _ (by decide)]⟩
set_option maxRecDepth 100000 in
set_option maxHeartbeats 400000 in
theorem o_X7_town_no {M : z_Mem} {l : Nat → Int32} {n : Nat} {T : TT} {U : UT} {D : DT} {p : PLt} {A : List PLt} {k0 k1 : Option PLt} {L : List (Int32 × Int32)} {sd : Int64} (hR : RM M l n T U D p A k0 k1 L sd) (h : ¬ faF l n = -9) : ∃ M1, z_Ct mX7_town [.ref 59] M (some (.int (-3))) M1 ∧ RM M1 l n T U D p A k0 k1 L sd ∧ Fm M M1 := by
  obtain ⟨rS, rT, rU, rD, rp, rA, r0, r1, rL, rs⟩ := id hR
  obtain ⟨M1, c1, s1, -⟩ := c_X7_readText rS
  have hh := RM_sk hR s1.sk (s1.sn rS) (LN_cong rL (s1.2.1 26 (by decide)) (s1.1 75 (by decide) (by decide)) (s1.1 76 (by decide) (by decide)))
  refine ⟨M1, ?_, hh.1, hh.2⟩
  refine z_entry (by decide +kernel) (Nat.le_of_ble_eq_true rfl) rfl ?_
  show z_Sm mX7_town _ _ 0 [some (.ref 59), none] [] M
  refine z_aload_n (pc := 0) dX7_town_0 rfl ?_
  refine z_cV0 (pc := 1) c1 (q_cX7_101 _ (by decide)) z_s59 rfl rfl dX7_town_1 ?_
  refine z_bipush (pc := 4) (v := (-9)) dX7_town_4 (by decide) ?_
  refine z_icmp_eq (pc := 6) (tgt := 12) dX7_town_6 (by decide) (fun h6 => ?_) (fun h6 => ?_)
  · exact absurd h6 h
  · refine z_bipush (pc := 9) (v := (-3)) dX7_town_9 (by decide) ?_
    refine z_iret (pc := 11) rfl dX7_town_11 ?_ ?_
    · rfl
    · rfl
set_option maxRecDepth 100000 in
set_option maxHeartbeats 400000 in
theorem o_X7_town {M : z_Mem} {l : Nat → Int32} {n : Nat} {T : TT} {U : UT} {D : DT} {p : PLt} {A : List PLt} {k0 k1 : Option PLt} {L : List (Int32 × Int32)} {sd : Int64} (hR : RM M l n T U D p A k0 k1 L sd) (h : faF l n = -9) : ∃ M1, z_Ct mX7_town [.ref 59] M (some (.int (100 * nI (twP l n).1 + 10 * nI (twU l n).1 + nI (twD l n).1))) M1 ∧ RM M1 l n (twP l n) (twU l n) (twD l n) (0, fun _ => 0, 0) [] none none L sd ∧ Fm M M1 := by
  obtain ⟨rS, rT, rU, rD, rp, rA, r0, r1, rL, rs⟩ := id hR
  obtain ⟨M1, c1, s1, r1⟩ := c_X7_readText rS
  obtain ⟨RN, RW, RD⟩ := r1 h
  have hn6 := rS.2.1
  obtain ⟨-, hV⟩ := faF_ok hn6 h
  obtain ⟨⟨⟨w1, w2⟩, ⟨w3, w4⟩, w5, w6⟩, y1, y2, y3⟩ := fa_wf hV
  have S1 := s1.sn rS
  obtain ⟨t, ha1, ha2, -⟩ := rA
  have ek : ∀ k, k ≠ 0 → k ≠ 1 → k ≠ 2 → (z_set (z_set (z_set M1 59 0 (M1.1 59 15)) 59 1 (M1.1 59 16)) 59 2 (M1.1 59 17)).1 59 k = M1.1 59 k := fun k a b c => by
    rw [z_set, z_row_1, upd_n _ _ c, z_set, z_row_1, upd_n _ _ b, z_set, z_row_1, upd_n _ _ a]
  have e0 : (z_set (z_set (z_set M1 59 0 (M1.1 59 15)) 59 1 (M1.1 59 16)) 59 2 (M1.1 59 17)).1 59 0 = nI (twP l n).1 := by
    rw [z_set, z_row_1, upd_n _ _ (by decide), z_set, z_row_1, upd_n _ _ (by decide), zs_1]; exact RN.1
  have e1 : (z_set (z_set (z_set M1 59 0 (M1.1 59 15)) 59 1 (M1.1 59 16)) 59 2 (M1.1 59 17)).1 59 1 = nI (twU l n).1 := by
    rw [z_set, z_row_1, upd_n _ _ (by decide), zs_1]; exact RW.1
  have e2 : (z_set (z_set (z_set M1 59 0 (M1.1 59 15)) 59 1 (M1.1 59 16)) 59 2 (M1.1 59 17)).1 59 2 = nI (twD l n).1 := by
    rw [zs_1]; exact RD.1
  have eo : ∀ i, i ≠ 59 → (z_set (z_set (z_set M1 59 0 (M1.1 59 15)) 59 1 (M1.1 59 16)) 59 2 (M1.1 59 17)).1 i = M1.1 i := fun i hi => by
    rw [z_set, z_row_n _ _ hi, z_set, z_row_n _ _ hi, z_set, z_row_n _ _ hi]
  have et : (z_set (z_set (z_set M1 59 0 (M1.1 59 15)) 59 1 (M1.1 59 16)) 59 2 (M1.1 59 17)).2 = M1.2 := rfl
  have eg1 : (z_set M1 59 0 (M1.1 59 15)).1 59 16 = M1.1 59 16 := by rw [z_set, z_row_1, upd_n _ _ (by decide)]
  have eg2 : (z_set (z_set M1 59 0 (M1.1 59 15)) 59 1 (M1.1 59 16)).1 59 17 = M1.1 59 17 := by rw [z_set, z_row_1, upd_n _ _ (by decide), z_set, z_row_1, upd_n _ _ (by decide)]
  generalize hM2 : z_set (z_set (z_set M1 59 0 (M1.1 59 15)) 59 1 (M1.1 59 16)) 59 2 (M1.1 59 17) = M2 at ek e0 e1 e2 eo et
  have c38 : ∀ (Mz : z_Mem) (r : Option Value), z_Sm mX7_town r Mz 57 [some (.ref 59), none] [] (z_row M2 68 (cpF 9 (fun _ => 0) (M2.1 68))) → z_Sm mX7_town r Mz 38 [some (.ref 59), some (.int 0)] [] M2 := fun Mz r kk => s_X7_town_38 kk 0 (by omega) _ _ rfl (by rw [cpF_0, z_row_same])
  have f68 : (z_row M2 68 (cpF 9 (fun _ => 0) (M2.1 68))).1 68 = cpF 9 (fun _ => 0) (M2.1 68) := z_row_1 _ _ _
  have fo : ∀ i, i ≠ 68 → (z_row M2 68 (cpF 9 (fun _ => 0) (M2.1 68))).1 i = M2.1 i := fun i hi => z_row_n _ _ hi
  have ft : (z_row M2 68 (cpF 9 (fun _ => 0) (M2.1 68))).2 = M2.2 := rfl
  generalize z_row M2 68 (cpF 9 (fun _ => 0) (M2.1 68)) = M3 at c38 f68 fo ft
  obtain ⟨M4, c59, g1, g2, g3, -⟩ := s_X7_town_59 w1 (twP l n).1 0 M3 0 rfl (by omega) (by rw [fo 59 (by decide)]; exact e0)
  obtain ⟨M5, c137, i1, i2, i3, -⟩ := s_X7_town_137 w3 (twU l n).1 0 M4 0 rfl (by omega) (by rw [g1 59 (by decide) (by decide) (by decide) (by decide), fo 59 (by decide)]; exact e1)
  obtain ⟨M6, c183, j1, j2, j3, -⟩ := s_X7_town_183 w5 (twD l n).1 0 M5 0 rfl (by omega) (by rw [i1 59 (by decide) (by decide), g1 59 (by decide) (by decide) (by decide) (by decide), fo 59 (by decide)]; exact e2)
  have q59 : M6.1 59 = M2.1 59 := by rw [j1 59 (by decide) (by decide), i1 59 (by decide) (by decide), g1 59 (by decide) (by decide) (by decide) (by decide), fo 59 (by decide)]
  have q2 : M6.2 = M.2 := by rw [j2, i2, g2, ft, et]; exact s1.2.2
  have qo : ∀ i, i ≠ 59 → i ≠ 68 → (i < 60 ∨ 67 < i) → M6.1 i = M1.1 i := fun i a b c => by
    rw [j1 i (by omega) (by omega), i1 i (by omega) (by omega), g1 i (by omega) (by omega) (by omega) (by omega), fo i b]; exact eo i a
  have q60 : ∀ i, i ≠ 64 → i ≠ 65 → i ≠ 66 → i ≠ 67 → M6.1 i = M4.1 i := fun i a b c d => by rw [j1 i c d, i1 i a b]
  have q64 : ∀ i, i ≠ 66 → i ≠ 67 → M6.1 i = M5.1 i := fun i c d => j1 i c d
  have n59 : ∀ k, k ≠ 23 → (z_set (z_set (z_set M6 59 23 0) 77 0 0) 77 1 0).1 59 k = M6.1 59 k := fun k hk => by
    rw [z_set, z_row_n _ _ (by decide), z_set, z_row_n _ _ (by decide), z_set, z_row_1, upd_n _ _ hk]
  have n23 : (z_set (z_set (z_set M6 59 23 0) 77 0 0) 77 1 0).1 59 23 = 0 := by
    rw [z_set, z_row_n _ _ (by decide), z_set, z_row_n _ _ (by decide), zs_1]
  have n770 : (z_set (z_set (z_set M6 59 23 0) 77 0 0) 77 1 0).1 77 0 = 0 := by rw [z_set, z_row_1, upd_n _ _ (by decide), zs_1]
  have n771 : (z_set (z_set (z_set M6 59 23 0) 77 0 0) 77 1 0).1 77 1 = 0 := zs_1 _ _ _ _
  have nno : ∀ i, i ≠ 59 → i ≠ 77 → (z_set (z_set (z_set M6 59 23 0) 77 0 0) 77 1 0).1 i = M6.1 i := fun i a b => by
    rw [z_set, z_row_n _ _ b, z_set, z_row_n _ _ b, z_set, z_row_n _ _ a]
  have nt : (z_set (z_set (z_set M6 59 23 0) 77 0 0) 77 1 0).2 = M6.2 := rfl
  refine ⟨z_set (z_set (z_set M6 59 23 0) 77 0 0) 77 1 0, ?_, ⟨?_, ⟨?_, w1, fun k hk => ?_⟩, ⟨?_, w3, fun k hk => ?_⟩, ⟨?_, w5, fun k hk => ?_⟩, ⟨?_, fun k hk => ?_, ?_⟩, ⟨t, ha1, ?_, n23, by decide, fun i pl hi => by simp at hi⟩, n770, n771, ?_, ?_⟩, fun i hi => ⟨?_, ?_⟩⟩
  · refine z_entry (by decide +kernel) (Nat.le_of_ble_eq_true rfl) rfl ?_
    show z_Sm mX7_town _ _ 0 [some (.ref 59), none] [] M
    refine z_aload_n (pc := 0) dX7_town_0 rfl ?_
    refine z_cV0 (pc := 1) c1 (q_cX7_101 _ (by decide)) z_s59 rfl rfl dX7_town_1 ?_
    refine z_bipush (pc := 4) (v := (-9)) dX7_town_4 (by decide) ?_
    refine z_icmp_eq (pc := 6) (tgt := 12) dX7_town_6 (by decide) (fun h6 => ?_) (fun h6 => ?_)
    · refine z_aload_n (pc := 12) dX7_town_12 rfl ?_
      refine z_aload_n (pc := 13) dX7_town_13 rfl ?_
      refine z_getI (pc := 14) q_fX7_84 z_s59 rfl dX7_town_14 ?_
      refine z_putI (pc := 17) q_fX7_105 q_p7_0 z_s59 rfl dX7_town_17 ?_
      refine z_aload_n (pc := 20) dX7_town_20 rfl ?_
      refine z_aload_n (pc := 21) dX7_town_21 rfl ?_
      refine z_getI (pc := 22) q_fX7_87 z_s59 rfl dX7_town_22 ?_
      rw [eg1]
      refine z_putI (pc := 25) q_fX7_108 q_p7_1 z_s59 rfl dX7_town_25 ?_
      refine z_aload_n (pc := 28) dX7_town_28 rfl ?_
      refine z_aload_n (pc := 29) dX7_town_29 rfl ?_
      refine z_getI (pc := 30) q_fX7_90 z_s59 rfl dX7_town_30 ?_
      rw [eg2]
      refine z_putI (pc := 33) q_fX7_111 q_p7_2 z_s59 rfl dX7_town_33 ?_
      rw [hM2]
      refine z_iconst (pc := 36) (v := 0) dX7_town_36 (by decide) ?_
      refine z_istore_n (pc := 37) dX7_town_37 rfl (by decide) ?_
      refine c38 _ _ ?_
      refine z_iconst (pc := 57) (v := 0) dX7_town_57 (by decide) ?_
      refine z_istore_n (pc := 58) dX7_town_58 rfl (by decide) ?_
      refine c59 _ _ ?_
      refine z_iconst (pc := 135) (v := 0) dX7_town_135 (by decide) ?_
      refine z_istore_n (pc := 136) dX7_town_136 rfl (by decide) ?_
      refine c137 _ _ ?_
      refine z_iconst (pc := 181) (v := 0) dX7_town_181 (by decide) ?_
      refine z_istore_n (pc := 182) dX7_town_182 rfl (by decide) ?_
      refine c183 _ _ ?_
      refine z_aload_n (pc := 227) dX7_town_227 rfl ?_
      refine z_iconst (pc := 228) (v := 0) dX7_town_228 (by decide) ?_
      refine z_putI (pc := 229) q_fX7_114 q_p7_23 z_s59 rfl dX7_town_229 ?_
      refine z_aload_n (pc := 232) dX7_town_232 rfl ?_
      refine z_getR (pc := 233) 77 q_fX7_61 z_s59 rfl dX7_town_233 ?_
      refine z_iconst (pc := 236) (v := 0) dX7_town_236 (by decide) ?_
      refine z_iconst (pc := 237) (v := 0) dX7_town_237 (by decide) ?_
      refine z_zast (pc := 238) (0) z_s77 ⟨rfl, by omega⟩ z_bool0 dX7_town_238 ?_
      refine z_aload_n (pc := 239) dX7_town_239 rfl ?_
      refine z_getR (pc := 240) 77 q_fX7_61 z_s59 rfl dX7_town_240 ?_
      refine z_iconst (pc := 243) (v := 1) dX7_town_243 (by decide) ?_
      refine z_iconst (pc := 244) (v := 0) dX7_town_244 (by decide) ?_
      refine z_zast (pc := 245) (1) z_s77 ⟨rfl, by omega⟩ z_bool0 dX7_town_245 ?_
      refine z_bipush (pc := 246) (v := 100) dX7_town_246 (by decide) ?_
      refine z_aload_n (pc := 248) dX7_town_248 rfl ?_
      refine z_getI (pc := 249) q_fX7_105 z_s59 rfl dX7_town_249 ?_
      refine z_imul (pc := 252) dX7_town_252 ?_
      refine z_bipush (pc := 253) (v := 10) dX7_town_253 (by decide) ?_
      refine z_aload_n (pc := 255) dX7_town_255 rfl ?_
      refine z_getI (pc := 256) q_fX7_108 z_s59 rfl dX7_town_256 ?_
      refine z_imul (pc := 259) dX7_town_259 ?_
      refine z_iadd (pc := 260) dX7_town_260 ?_
      refine z_aload_n (pc := 261) dX7_town_261 rfl ?_
      refine z_getI (pc := 262) q_fX7_111 z_s59 rfl dX7_town_262 ?_
      refine z_iadd (pc := 265) dX7_town_265 ?_
      refine z_iret (pc := 266) rfl dX7_town_266 ?_ ?_
      · rw [n59 0 (by decide), n59 1 (by decide), n59 2 (by decide), q59, e0, e1, e2]
      · rfl
    · exact absurd h h6
  · refine SN_cong S1 ?_ ?_
    · rw [n59 19 (by decide), q59]; exact ek 19 (by decide) (by decide) (by decide)
    · rw [nno 72 (by decide) (by decide)]; exact qo 72 (by decide) (by decide) (by decide)
  · rw [n59 0 (by decide), q59]; exact e0
  · have ⟨h1, h2, h3, h4⟩ := g3 k (Nat.zero_le k) hk
    have ⟨x1, x2⟩ := y1 k hk
    have ⟨z1, z2, z3⟩ := w2 k hk
    have hR := RN.2 k hk
    rw [fo 69 (by decide), eo 69 (by decide)] at h1 h2 h3 h4
    rw [nno 60 (by decide) (by decide), nno 61 (by decide) (by decide), nno 62 (by decide) (by decide), nno 63 (by decide) (by decide), q60 60 (by decide) (by decide) (by decide) (by decide), q60 61 (by decide) (by decide) (by decide) (by decide), q60 62 (by decide) (by decide) (by decide) (by decide), q60 63 (by decide) (by decide) (by decide) (by decide), h1, h2, h3, h4]
    exact ⟨(hR 0 (by decide)).trans x1, (hR 1 (by decide)).trans x2, z1, z2, hR 2 (by decide), hR 3 (by decide)⟩
  · rw [n59 1 (by decide), q59]; exact e1
  · have ⟨h1, h2⟩ := i3 k (Nat.zero_le k) hk
    have x1 := y2 k hk
    have z1 := w4 k hk
    have hR := RW.2 k hk
    rw [g1 70 (by decide) (by decide) (by decide) (by decide), fo 70 (by decide), eo 70 (by decide)] at h1 h2
    rw [nno 64 (by decide) (by decide), nno 65 (by decide) (by decide), q64 64 (by decide) (by decide), q64 65 (by decide) (by decide), h1, h2]
    exact ⟨(hR 0 (by decide)).trans x1, z1, hR 1 (by decide)⟩
  · rw [n59 2 (by decide), q59]; exact e2
  · have ⟨h1, h2⟩ := j3 k (Nat.zero_le k) hk
    have ⟨x1, x2⟩ := y3 k hk
    obtain ⟨z1, z2, -⟩ := w6 k hk
    have hR := RD.2 k hk
    rw [i1 71 (by decide) (by decide), g1 71 (by decide) (by decide) (by decide) (by decide), fo 71 (by decide), eo 71 (by decide)] at h1 h2
    rw [nno 66 (by decide) (by decide), nno 67 (by decide) (by decide), h1, h2]
    exact ⟨(hR 0 (by decide)).trans x1, (hR 1 (by decide)).trans x2, z1, z2⟩
  · rw [nno 68 (by decide) (by decide), q60 68 (by decide) (by decide) (by decide) (by decide), g1 68 (by decide) (by decide) (by decide) (by decide), f68]; rfl
  · rw [nno 68 (by decide) (by decide), q60 68 (by decide) (by decide) (by decide) (by decide), g1 68 (by decide) (by decide) (by decide) (by decide), f68, cpF, if_pos (by omega)]
  · rw [nno 68 (by decide) (by decide), q60 68 (by decide) (by decide) (by decide) (by decide), g1 68 (by decide) (by decide) (by decide) (by decide), f68]; rfl
  · rw [n59 24 (by decide), q59, ek 24 (by decide) (by decide) (by decide)]
    exact (s1.2.1 24 (by decide)).trans ha2
  · refine LN_cong (LN_cong rL (s1.2.1 26 (by decide)) (s1.1 75 (by decide) (by decide)) (s1.1 76 (by decide) (by decide))) ?_ ?_ ?_
    · rw [n59 26 (by decide), q59]; exact ek 26 (by decide) (by decide) (by decide)
    · rw [nno 75 (by decide) (by decide)]; exact qo 75 (by decide) (by decide) (by decide)
    · rw [nno 76 (by decide) (by decide)]; exact qo 76 (by decide) (by decide) (by decide)
  · rw [nt, q2]; exact rs
  · rw [nno i (by omega) (by omega), qo i (by omega) (by omega) (by omega)]
    exact s1.1 i (by omega) (by omega)
  · rw [nt, q2]
