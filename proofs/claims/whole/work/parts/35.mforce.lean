set_option maxRecDepth 100000 in
set_option maxHeartbeats 400000 in
theorem s_X7_unload_2 {M M2 : z_Mem} {r : Option Value}  (kk : z_Sm mX7_unload r M2 21 [some (.ref 59), none] [] (z_row M 73 (cpF (6) (fun _ => 0) (M.1 73)))) (j : Nat) (hj : j ≤ 6) (ij : Int32) (Mj : z_Mem) (h2 : ij = nI j) (hM : Mj = z_row M 73 (cpF j (fun _ => 0) (M.1 73))) : z_Sm mX7_unload r M2 2 [some (.ref 59), some (.int ij)] [] Mj := by
  refine z_iload_n (pc := 2) dX7_unload_2 rfl ?_
  refine z_bipush (pc := 3) (v := 6) dX7_unload_3 (by decide) ?_
  refine z_icmp_ge (pc := 5) (tgt := 21) dX7_unload_5 (by decide) (fun h5 => ?_) (fun h5 => ?_)
  · have hNj : 6 ≤ j := by
      have := z_ge h5 h2 (show (6 : Int32) = nI 6 from rfl) (by omega) (by omega)
      omega
    obtain rfl : j = 6 := by omega
    subst hM
    exact z_drop 1 kk
  · have hlt : j < 6 := by
      have := z_lt h5 h2 (show (6 : Int32) = nI 6 from rfl) (by omega) (by omega)
      omega
    refine z_aload_n (pc := 8) dX7_unload_8 rfl ?_
    refine z_getR (pc := 9) 73 q_fX7_49 z_s59 rfl dX7_unload_9 ?_
    refine z_iload_n (pc := 12) dX7_unload_12 rfl ?_
    refine z_iconst (pc := 13) (v := 0) dX7_unload_13 (by decide) ?_
    refine z_iast (pc := 14) (j) z_s73 ⟨h2, by omega, by decide⟩ dX7_unload_14 ?_
    refine z_iinc (pc := 15) dX7_unload_15 rfl rfl rfl (by decide) ?_
    refine z_goto (pc := 18) (tgt := 2) dX7_unload_18 (by decide) ?_
    exact s_X7_unload_2  kk (j + 1) hlt _ _ (z_n1 h2) (by rw [hM, z_set, z_row_1, z_row_row]; exact congrArg (z_row M 73) (cpF_s j (fun _ => 0) (M.1 73)))
termination_by 6 - j
decreasing_by all_goals omega
set_option maxRecDepth 100000 in
set_option maxHeartbeats 400000 in
theorem c_X7_unload {M : z_Mem}  : z_Ct mX7_unload [.ref 59] M none (z_row M 73 (cpF 6 (fun _ => 0) (M.1 73))) := by
  refine z_entry (by decide +kernel) (Nat.le_of_ble_eq_true rfl) rfl ?_
  show z_Sm mX7_unload _ _ 0 [some (.ref 59), none] [] M
  refine z_iconst (pc := 0) (v := 0) dX7_unload_0 (by decide) ?_
  refine z_istore_n (pc := 1) dX7_unload_1 rfl (by decide) ?_
  refine s_X7_unload_2 ?_ 0 (by omega) _ _ rfl (by rw [cpF_0, z_row_same])
  refine z_vret (pc := 21) rfl dX7_unload_21 ?_
  rfl
set_option maxRecDepth 100000 in
set_option maxHeartbeats 400000 in
theorem s_X7_ping_13 {M M2 : z_Mem} {r : Option Value} {T : TT} (hT : TN M T) {lv : Nat} (hlv : lv ≤ 1) {n0 : Int32} (kk : z_Sm mX7_ping r M2 72 [some (.ref 59), some (.int (nI lv)), some (.int n0), some (.int (gvF T (fun i => M.1 68 (9 * lv + 1 + i)) (M.1 68 (9 * lv)) (M.1 73) (T.1))), none] [] (M)) (j : Nat) (hj : j ≤ T.1) (ij : Int32) (v : Int32) (h2 : ij = nI j) (hv_v : v = gvF T (fun i => M.1 68 (9 * lv + 1 + i)) (M.1 68 (9 * lv)) (M.1 73) j) : z_Sm mX7_ping r M2 13 [some (.ref 59), some (.int (nI lv)), some (.int n0), some (.int v), some (.int ij)] [] M := by
  have hP7 := hT.2.1
  have h9 : (9 : Int32) * nI lv = nI (9 * lv) := nx_mul 9 lv
  refine z_iload (pc := 13) dX7_ping_13 rfl ?_
  refine z_aload_n (pc := 15) dX7_ping_15 rfl ?_
  refine z_getI (pc := 16) q_fX7_105 z_s59 rfl dX7_ping_16 ?_
  refine z_icmp_ge (pc := 19) (tgt := 72) dX7_ping_19 (by decide) (fun h19 => ?_) (fun h19 => ?_)
  · have hNj : T.1 ≤ j := by
      have := z_ge h19 h2 (hT.1) (by omega) (by omega)
      omega
    obtain rfl : j = T.1 := by omega
    subst hv_v
    exact z_drop 4 kk
  · have hlt : j < T.1 := by
      have := z_lt h19 h2 (hT.1) (by omega) (by omega)
      omega
    refine z_iload_n (pc := 22) dX7_ping_22 rfl ?_
    refine z_aload_n (pc := 23) dX7_ping_23 rfl ?_
    refine z_getR (pc := 24) 68 q_fX7_34 z_s59 rfl dX7_ping_24 ?_
    refine z_bipush (pc := 27) (v := 9) dX7_ping_27 (by decide) ?_
    refine z_iload_n (pc := 29) dX7_ping_29 rfl ?_
    refine z_imul (pc := 30) dX7_ping_30 ?_
    refine z_iald (pc := 31) (9 * lv) z_s68 ⟨h9, by omega⟩ dX7_ping_31 ?_
    refine z_iload (pc := 32) dX7_ping_32 rfl ?_
    refine z_cS2 (pc := 34) (c_X7_has h2 (by omega)) (q_cX7_119 _ (by decide)) rfl dX7_ping_34 ?_
    refine z_if_ne (pc := 37) (tgt := 63) dX7_ping_37 (by decide) (fun h37 => ?_) (fun h37 => ?_)
    · refine z_iconst (pc := 63) (v := 0) dX7_ping_63 (by decide) ?_
      refine z_ior (pc := 64) dX7_ping_64 ?_
      refine z_istore_n (pc := 65) dX7_ping_65 rfl (by decide) ?_
      refine z_iinc (pc := 66) dX7_ping_66 rfl rfl rfl (by decide) ?_
      refine z_goto (pc := 69) (tgt := 13) dX7_ping_69 (by decide) ?_
      have h37 := z_t h37
      exact s_X7_ping_13 hT hlv kk (j + 1) hlt _ _ (z_n1 h2) (by rw [Int32.or_zero, hv_v, gvF, if_neg (fun q => by rw [h37] at q; cases q.1)])
    · refine z_aload_n (pc := 40) dX7_ping_40 rfl ?_
      refine z_iload (pc := 41) dX7_ping_41 rfl ?_
      refine z_cV1 (pc := 43) (c_X7_onBoth hT h2 hlt) (q_cX7_130 _ (by decide)) z_s59 rfl rfl dX7_ping_43 ?_
      refine z_aload_n (pc := 46) dX7_ping_46 rfl ?_
      refine z_iload_n (pc := 47) dX7_ping_47 rfl ?_
      refine z_iload (pc := 48) dX7_ping_48 rfl ?_
      refine z_cV2 (pc := 50) (c_X7_holdsOn hT hlv h2 hlt) (q_cX7_134 _ (by decide)) z_s59 rfl rfl dX7_ping_50 ?_
      refine z_icmp_le (pc := 53) (tgt := 63) dX7_ping_53 (by decide) (fun h53 => ?_) (fun h53 => ?_)
      · refine z_iconst (pc := 63) (v := 0) dX7_ping_63 (by decide) ?_
        refine z_ior (pc := 64) dX7_ping_64 ?_
        refine z_istore_n (pc := 65) dX7_ping_65 rfl (by decide) ?_
        refine z_iinc (pc := 66) dX7_ping_66 rfl rfl rfl (by decide) ?_
        refine z_goto (pc := 69) (tgt := 13) dX7_ping_69 (by decide) ?_
        have h37 := z_f h37
        exact s_X7_ping_13 hT hlv kk (j + 1) hlt _ _ (z_n1 h2) (by rw [Int32.or_zero, hv_v, gvF, if_neg (fun q => absurd q.2 (Int32.not_lt.mpr h53))])
      · refine z_iconst (pc := 56) (v := 1) dX7_ping_56 (by decide) ?_
        refine z_iload (pc := 57) dX7_ping_57 rfl ?_
        refine z_ishl (pc := 59) dX7_ping_59 ?_
        refine z_goto (pc := 60) (tgt := 64) dX7_ping_60 (by decide) ?_
        refine z_ior (pc := 64) dX7_ping_64 ?_
        refine z_istore_n (pc := 65) dX7_ping_65 rfl (by decide) ?_
        refine z_iinc (pc := 66) dX7_ping_66 rfl rfl rfl (by decide) ?_
        refine z_goto (pc := 69) (tgt := 13) dX7_ping_69 (by decide) ?_
        have h37 := z_f h37
        exact s_X7_ping_13 hT hlv kk (j + 1) hlt _ _ (z_n1 h2) (by rw [hv_v, h2, gvF, if_pos ⟨h37, Int32.not_le.mp h53⟩]; rfl)
termination_by T.1 - j
decreasing_by all_goals omega
set_option maxRecDepth 100000 in
set_option maxHeartbeats 400000 in
theorem s_X7_ping_75 {M M2 : z_Mem} {r : Option Value} {T : TT} (hT : TN M T) {lv : Nat} {n0 g : Int32} (kk : z_Sm mX7_ping r M2 148 [some (.ref 59), some (.int (nI lv)), some (.int n0), some (.int g), none] [] (z_row M 73 (bdF T g (M.1 73) (T.1)))) (j : Nat) (hj : j ≤ T.1) (ij : Int32) (Mj : z_Mem) (h2 : ij = nI j) (hM : Mj = z_row M 73 (bdF T g (M.1 73) j)) : z_Sm mX7_ping r M2 75 [some (.ref 59), some (.int (nI lv)), some (.int n0), some (.int g), some (.int ij)] [] Mj := by
  have hP7 := hT.2.1
  have hTj : TN Mj T := hM ▸ TN_sb hT (Sb.row (ids := [73]) _ (by simp)) (by simp)
  have hPj := hTj.1
  refine z_iload (pc := 75) dX7_ping_75 rfl ?_
  refine z_aload_n (pc := 77) dX7_ping_77 rfl ?_
  refine z_getI (pc := 78) q_fX7_105 z_s59 rfl dX7_ping_78 ?_
  refine z_icmp_ge (pc := 81) (tgt := 148) dX7_ping_81 (by decide) (fun h81 => ?_) (fun h81 => ?_)
  · have hNj : T.1 ≤ j := by
      have := z_ge h81 h2 hPj (by omega) (by omega)
      omega
    obtain rfl : j = T.1 := by omega
    subst hM
    exact z_drop 4 kk
  · have hlt : j < T.1 := by
      have := z_lt h81 h2 hPj (by omega) (by omega)
      omega
    obtain ⟨ha, hb, ha6, hb6, -⟩ := hTj.2.2 j hlt
    refine z_aload_n (pc := 84) dX7_ping_84 rfl ?_
    refine z_getR (pc := 85) 73 q_fX7_49 z_s59 rfl dX7_ping_85 ?_
    refine z_aload_n (pc := 88) dX7_ping_88 rfl ?_
    refine z_getR (pc := 89) 60 q_fX7_7 z_s59 rfl dX7_ping_89 ?_
    refine z_iload (pc := 92) dX7_ping_92 rfl ?_
    refine z_iald (pc := 94) (j) z_s60 ⟨h2, by omega⟩ dX7_ping_94 ?_
    refine z_dup2 (pc := 95) dX7_ping_95 rfl rfl ?_
    refine z_iald (pc := 96) (T.2.1 j) z_s73 ⟨ha, by omega⟩ dX7_ping_96 ?_
    refine z_iload_n (pc := 97) dX7_ping_97 rfl ?_
    refine z_iload (pc := 98) dX7_ping_98 rfl ?_
    refine z_cS2 (pc := 100) (c_X7_has h2 (by omega)) (q_cX7_119 _ (by decide)) rfl dX7_ping_100 ?_
    refine z_if_eq (pc := 103) (tgt := 110) dX7_ping_103 (by decide) (fun h103 => ?_) (fun h103 => ?_)
    · refine z_iconst (pc := 110) (v := 0) dX7_ping_110 (by decide) ?_
      refine z_iadd (pc := 111) dX7_ping_111 ?_
      refine z_iast (pc := 112) (T.2.1 j) z_s73 ⟨ha, by omega⟩ dX7_ping_112 ?_
      refine z_aload_n (pc := 113) dX7_ping_113 rfl ?_
      refine z_getR (pc := 114) 73 q_fX7_49 z_s59 rfl dX7_ping_114 ?_
      refine z_aload_n (pc := 117) dX7_ping_117 rfl ?_
      refine z_getR (pc := 118) 61 q_fX7_13 z_s59 rfl dX7_ping_118 ?_
      refine z_iload (pc := 121) dX7_ping_121 rfl ?_
      refine z_iald (pc := 123) (j) z_s61 ⟨h2, by omega⟩ dX7_ping_123 ?_
      refine z_dup2 (pc := 124) dX7_ping_124 rfl rfl ?_
      refine z_iald (pc := 125) (T.2.2.1 j) z_s73 ⟨hb, by omega⟩ dX7_ping_125 ?_
      refine z_iload_n (pc := 126) dX7_ping_126 rfl ?_
      refine z_iload (pc := 127) dX7_ping_127 rfl ?_
      refine z_cS2 (pc := 129) (c_X7_has h2 (by omega)) (q_cX7_119 _ (by decide)) rfl dX7_ping_129 ?_
      refine z_if_eq (pc := 132) (tgt := 139) dX7_ping_132 (by decide) (fun h132 => ?_) (fun h132 => ?_)
      · refine z_iconst (pc := 139) (v := 0) dX7_ping_139 (by decide) ?_
        refine z_iadd (pc := 140) dX7_ping_140 ?_
        refine z_iast (pc := 141) (T.2.2.1 j) z_s73 ⟨hb, by omega⟩ dX7_ping_141 ?_
        refine z_iinc (pc := 142) dX7_ping_142 rfl rfl rfl (by decide) ?_
        refine z_goto (pc := 145) (tgt := 75) dX7_ping_145 (by decide) ?_
        have h103 := z_f h103
        exact s_X7_ping_75 hT kk (j + 1) hlt _ _ (z_n1 h2) (by rw [Int32.add_zero, z_set_self, Int32.add_zero, z_set_self, hM, bdF, if_neg (by rw [h103]; decide)])
      · refine z_iconst (pc := 135) (v := 1) dX7_ping_135 (by decide) ?_
        refine z_goto (pc := 136) (tgt := 140) dX7_ping_136 (by decide) ?_
        refine z_iadd (pc := 140) dX7_ping_140 ?_
        refine z_iast (pc := 141) (T.2.2.1 j) z_s73 ⟨hb, by omega⟩ dX7_ping_141 ?_
        refine z_iinc (pc := 142) dX7_ping_142 rfl rfl rfl (by decide) ?_
        refine z_goto (pc := 145) (tgt := 75) dX7_ping_145 (by decide) ?_
        exact absurd h103 h132
    · refine z_iconst (pc := 106) (v := 1) dX7_ping_106 (by decide) ?_
      refine z_goto (pc := 107) (tgt := 111) dX7_ping_107 (by decide) ?_
      refine z_iadd (pc := 111) dX7_ping_111 ?_
      refine z_iast (pc := 112) (T.2.1 j) z_s73 ⟨ha, by omega⟩ dX7_ping_112 ?_
      refine z_aload_n (pc := 113) dX7_ping_113 rfl ?_
      refine z_getR (pc := 114) 73 q_fX7_49 z_s59 rfl dX7_ping_114 ?_
      refine z_aload_n (pc := 117) dX7_ping_117 rfl ?_
      refine z_getR (pc := 118) 61 q_fX7_13 z_s59 rfl dX7_ping_118 ?_
      refine z_iload (pc := 121) dX7_ping_121 rfl ?_
      refine z_iald (pc := 123) (j) z_s61 ⟨h2, by omega⟩ dX7_ping_123 ?_
      refine z_dup2 (pc := 124) dX7_ping_124 rfl rfl ?_
      refine z_iald (pc := 125) (T.2.2.1 j) z_s73 ⟨hb, by omega⟩ dX7_ping_125 ?_
      refine z_iload_n (pc := 126) dX7_ping_126 rfl ?_
      refine z_iload (pc := 127) dX7_ping_127 rfl ?_
      refine z_cS2 (pc := 129) (c_X7_has h2 (by omega)) (q_cX7_119 _ (by decide)) rfl dX7_ping_129 ?_
      refine z_if_eq (pc := 132) (tgt := 139) dX7_ping_132 (by decide) (fun h132 => ?_) (fun h132 => ?_)
      · refine z_iconst (pc := 139) (v := 0) dX7_ping_139 (by decide) ?_
        refine z_iadd (pc := 140) dX7_ping_140 ?_
        refine z_iast (pc := 141) (T.2.2.1 j) z_s73 ⟨hb, by omega⟩ dX7_ping_141 ?_
        refine z_iinc (pc := 142) dX7_ping_142 rfl rfl rfl (by decide) ?_
        refine z_goto (pc := 145) (tgt := 75) dX7_ping_145 (by decide) ?_
        exact absurd h132 h103
      · refine z_iconst (pc := 135) (v := 1) dX7_ping_135 (by decide) ?_
        refine z_goto (pc := 136) (tgt := 140) dX7_ping_136 (by decide) ?_
        refine z_iadd (pc := 140) dX7_ping_140 ?_
        refine z_iast (pc := 141) (T.2.2.1 j) z_s73 ⟨hb, by omega⟩ dX7_ping_141 ?_
        refine z_iinc (pc := 142) dX7_ping_142 rfl rfl rfl (by decide) ?_
        refine z_goto (pc := 145) (tgt := 75) dX7_ping_145 (by decide) ?_
        have h103 := z_t h103
        exact s_X7_ping_75 hT kk (j + 1) hlt _ _ (z_n1 h2) (by rw [hM]; simp only [z_set, z_row_1, z_row_row]; rw [bdF, if_pos h103]; rfl)
termination_by T.1 - j
decreasing_by all_goals omega
set_option maxRecDepth 100000 in
set_option maxHeartbeats 400000 in
theorem s_X7_ping_r {M M2 : z_Mem} {r : Option Value} {T : TT} (hT : TN M T) {lv : Nat} (hlv : lv ≤ 1) {n give : Int32} {v4 : Option Value} (hg : ¬ give = 0) (kk : z_Sm mX7_ping r M2 4 [some (.ref 59), some (.int (nI lv)), some (.int (n + nI (pc 7 (gvF T (fun i => M.1 68 (9 * lv + 1 + i)) (M.1 68 (9 * lv)) (M.1 73) T.1)))), some (.int (gvF T (fun i => M.1 68 (9 * lv + 1 + i)) (M.1 68 (9 * lv)) (M.1 73) T.1)), none] [] (qm M lv (M.1 68 (9 * lv) ||| (gvF T (fun i => M.1 68 (9 * lv + 1 + i)) (M.1 68 (9 * lv)) (M.1 73) T.1)) (bdF T (gvF T (fun i => M.1 68 (9 * lv + 1 + i)) (M.1 68 (9 * lv)) (M.1 73) T.1) (M.1 73) T.1))) : z_Sm mX7_ping r M2 4 [some (.ref 59), some (.int (nI lv)), some (.int n), some (.int give), v4] [] M := by
  have hP7 := hT.2.1
  have h9 : (9 : Int32) * nI lv = nI (9 * lv) := nx_mul 9 lv
  refine z_iload_n (pc := 4) dX7_ping_4 rfl ?_
  refine z_if_eq (pc := 5) (tgt := 171) dX7_ping_5 (by decide) (fun h5 => ?_) (fun h5 => ?_)
  · exact absurd h5 hg
  · refine z_iconst (pc := 8) (v := 0) dX7_ping_8 (by decide) ?_
    refine z_istore_n (pc := 9) dX7_ping_9 rfl (by decide) ?_
    refine z_iconst (pc := 10) (v := 0) dX7_ping_10 (by decide) ?_
    refine z_istore (pc := 11) dX7_ping_11 rfl (by decide) ?_
    refine s_X7_ping_13 hT hlv ?_ 0 (by omega) _ _ rfl rfl
    refine z_iconst (pc := 72) (v := 0) dX7_ping_72 (by decide) ?_
    refine z_istore (pc := 73) dX7_ping_73 rfl (by decide) ?_
    refine s_X7_ping_75 hT ?_ 0 (by omega) _ _ rfl (by rw [bdF, z_row_same])
    refine z_aload_n (pc := 148) dX7_ping_148 rfl ?_
    refine z_getR (pc := 149) 68 q_fX7_34 z_s59 rfl dX7_ping_149 ?_
    refine z_bipush (pc := 152) (v := 9) dX7_ping_152 (by decide) ?_
    refine z_iload_n (pc := 154) dX7_ping_154 rfl ?_
    refine z_imul (pc := 155) dX7_ping_155 ?_
    refine z_dup2 (pc := 156) dX7_ping_156 rfl rfl ?_
    refine z_iald (pc := 157) (9 * lv) z_s68 ⟨h9, by omega⟩ dX7_ping_157 ?_
    refine z_iload_n (pc := 158) dX7_ping_158 rfl ?_
    refine z_ior (pc := 159) dX7_ping_159 ?_
    refine z_iast (pc := 160) (9 * lv) z_s68 ⟨h9, by omega⟩ dX7_ping_160 ?_
    refine z_iload_n (pc := 161) dX7_ping_161 rfl ?_
    refine z_iload_n (pc := 162) dX7_ping_162 rfl ?_
    refine z_cS1 (pc := 163) c_X7_ones (q_cX7_137 _ (by decide)) rfl dX7_ping_163 ?_
    refine z_iadd (pc := 166) dX7_ping_166 ?_
    refine z_istore_n (pc := 167) dX7_ping_167 rfl (by decide) ?_
    refine z_goto (pc := 168) (tgt := 4) dX7_ping_168 (by decide) ?_
    exact kk
theorem a_pg (a b c d : Int32) : a + b + (c - (d + b)) = a + (c - d) := Int32.toBitVec_inj.mp (by simp only [Int32.toBitVec_add, Int32.toBitVec_sub]; bv_omega)
set_option maxRecDepth 100000 in
set_option maxHeartbeats 400000 in
theorem s_X7_ping_4 {T : TT} {lv : Nat} (hlv : lv ≤ 1) : ∀ (f N : Nat) (M : z_Mem) (n give : Int32) (v4 : Option Value), TN M T → T.1 ≤ pc T.1 (M.1 68 (9 * lv)) + f → f + 1 ≤ N → ¬ give = 0 → z_Sm mX7_ping (some (.int (n + pgR (M.1 68 (9 * lv)) (pgF T (fun i => M.1 68 (9 * lv + 1 + i)) (M.1 68 (9 * lv)) (M.1 73) N).1))) (qm M lv (pgF T (fun i => M.1 68 (9 * lv + 1 + i)) (M.1 68 (9 * lv)) (M.1 73) N).1 (pgF T (fun i => M.1 68 (9 * lv + 1 + i)) (M.1 68 (9 * lv)) (M.1 73) N).2) 4 [some (.ref 59), some (.int (nI lv)), some (.int n), some (.int give), v4] [] M := by
  intro f
  induction f with
  | zero =>
    intro N M n give v4 hT hf hN hg
    have hz : (gvF T (fun i => M.1 68 (9 * lv + 1 + i)) (M.1 68 (9 * lv)) (M.1 73) T.1) = 0 := by
      refine Classical.byContradiction fun q => ?_
      obtain ⟨i, hi32, hi⟩ := nz_bt q
      obtain ⟨h1, h2⟩ := gvF_bt T.1 hT.2.1 hi
      have := pc_lt (x := M.1 68 (9 * lv)) (y := M.1 68 (9 * lv) ||| (gvF T (fun i => M.1 68 (9 * lv + 1 + i)) (M.1 68 (9 * lv)) (M.1 73) T.1)) (k := i) (fun j hj => by rw [b_or, hj, Bool.true_or]) h2 (by rw [b_or, hi, Bool.or_true]) T.1 h1
      have := pc_le (M.1 68 (9 * lv) ||| (gvF T (fun i => M.1 68 (9 * lv + 1 + i)) (M.1 68 (9 * lv)) (M.1 73) T.1)) T.1
      omega
    refine s_X7_ping_r hT hlv hg ?_
    rw [pgF_fx hz, hz, Int32.or_zero, bdF_0, qm_self]
    refine z_iload_n (pc := 4) dX7_ping_4 rfl ?_
    refine z_if_eq (pc := 5) (tgt := 171) dX7_ping_5 (by decide) (fun h5 => ?_) (fun h5 => ?_)
    · refine z_iload_n (pc := 171) dX7_ping_171 rfl ?_
      refine z_iret (pc := 172) rfl dX7_ping_172 ?_ ?_
      · rw [pgR, Int32.sub_self]; rfl
      · rfl
    · exact absurd rfl h5
  | succ f ih =>
    intro N M n give v4 hT hf hN hg
    refine s_X7_ping_r hT hlv hg ?_
    by_cases hz : (gvF T (fun i => M.1 68 (9 * lv + 1 + i)) (M.1 68 (9 * lv)) (M.1 73) T.1) = 0
    · rw [pgF_fx hz, hz, Int32.or_zero, bdF_0, qm_self]
      refine z_iload_n (pc := 4) dX7_ping_4 rfl ?_
      refine z_if_eq (pc := 5) (tgt := 171) dX7_ping_5 (by decide) (fun h5 => ?_) (fun h5 => ?_)
      · refine z_iload_n (pc := 171) dX7_ping_171 rfl ?_
        refine z_iret (pc := 172) rfl dX7_ping_172 ?_ ?_
        · rw [pgR, Int32.sub_self]; rfl
        · rfl
      · exact absurd rfl h5
    · obtain ⟨i, hi32, hi⟩ := nz_bt hz
      obtain ⟨h1, h2⟩ := gvF_bt T.1 hT.2.1 hi
      have hlt := pc_lt (x := M.1 68 (9 * lv)) (y := M.1 68 (9 * lv) ||| (gvF T (fun i => M.1 68 (9 * lv + 1 + i)) (M.1 68 (9 * lv)) (M.1 73) T.1)) (k := i) (fun j hj => by rw [b_or, hj, Bool.true_or]) h2 (by rw [b_or, hi, Bool.or_true]) T.1 h1
      have hor := pc_or (x := M.1 68 (9 * lv)) (y := (gvF T (fun i => M.1 68 (9 * lv + 1 + i)) (M.1 68 (9 * lv)) (M.1 73) T.1)) (fun j hj => (gvF_bt T.1 hT.2.1 hj).2) 7
      obtain ⟨N, rfl⟩ : ∃ N2, N = N2 + 1 := ⟨N - 1, by omega⟩
      rw [pgF_sh]
      have q := ih N (qm M lv (M.1 68 (9 * lv) ||| (gvF T (fun i => M.1 68 (9 * lv + 1 + i)) (M.1 68 (9 * lv)) (M.1 73) T.1)) (bdF T (gvF T (fun i => M.1 68 (9 * lv + 1 + i)) (M.1 68 (9 * lv)) (M.1 73) T.1) (M.1 73) T.1)) (n + nI (pc 7 (gvF T (fun i => M.1 68 (9 * lv + 1 + i)) (M.1 68 (9 * lv)) (M.1 73) T.1))) (gvF T (fun i => M.1 68 (9 * lv + 1 + i)) (M.1 68 (9 * lv)) (M.1 73) T.1) none (TN_sb hT (qm_sb _ _ _ _) (by simp)) (by rw [qm_o]; omega) (by omega) hz
      have ew : (fun i => (qm M lv (M.1 68 (9 * lv) ||| (gvF T (fun i => M.1 68 (9 * lv + 1 + i)) (M.1 68 (9 * lv)) (M.1 73) T.1)) (bdF T (gvF T (fun i => M.1 68 (9 * lv + 1 + i)) (M.1 68 (9 * lv)) (M.1 73) T.1) (M.1 73) T.1)).1 68 (9 * lv + 1 + i)) = (fun i => M.1 68 (9 * lv + 1 + i)) := funext fun i => qm_w _ _ _ _ (by omega)
      rw [ew, qm_o, qm_L, qm_qm] at q
      rw [pgR, hor, ← nI_add, a_pg, ← pgR] at q
      exact q
set_option maxRecDepth 100000 in
set_option maxHeartbeats 400000 in
theorem c_X7_ping {M : z_Mem} {T : TT} (hT : TN M T) {lv : Nat} (hlv : lv ≤ 1) : z_Ct mX7_ping [.ref 59, .int (nI lv)] M (some (.int (pgR (M.1 68 (9 * lv)) (pgF T (fun i => M.1 68 (9 * lv + 1 + i)) (M.1 68 (9 * lv)) (M.1 73) (T.1 + 1)).1))) (qm M lv (pgF T (fun i => M.1 68 (9 * lv + 1 + i)) (M.1 68 (9 * lv)) (M.1 73) (T.1 + 1)).1 (pgF T (fun i => M.1 68 (9 * lv + 1 + i)) (M.1 68 (9 * lv)) (M.1 73) (T.1 + 1)).2) := by
  refine z_entry (by decide +kernel) (Nat.le_of_ble_eq_true rfl) rfl ?_
  show z_Sm mX7_ping _ _ 0 [some (.ref 59), some (.int (nI lv)), none, none, none] [] M
  refine z_iconst (pc := 0) (v := 0) dX7_ping_0 (by decide) ?_
  refine z_istore_n (pc := 1) dX7_ping_1 rfl (by decide) ?_
  refine z_iconst (pc := 2) (v := 1) dX7_ping_2 (by decide) ?_
  refine z_istore_n (pc := 3) dX7_ping_3 rfl (by decide) ?_
  rw [← Int32.zero_add (pgR _ _)]
  exact s_X7_ping_4 hlv T.1 (T.1 + 1) M 0 1 _ hT (by omega) (by omega) (by decide)
