theorem held_at : ∀ g, g < 20 → (nI g ≤ 9 → nI (g % 10) + 0 = heldF (nI (g / 10)) (nI (g % 10))) ∧ (¬ nI g ≤ 9 → nI (g % 10) + 3 = heldF (nI (g / 10)) (nI (g % 10))) := by decide +kernel
set_option maxRecDepth 100000 in
set_option maxHeartbeats 400000 in
theorem s_X7_which_54 {M M2 : z_Mem} {r : Option Value} {L : List (Int32 × Int32)} (hL : LN M L) (h01 : ∀ q ∈ L, q.2 = 0 ∨ q.2 = 1) {x v2 v3 v4 z : Int32} (kk : z_Sm mX7_which r M2 117 [some (.ref 59), some (.int x), some (.int v2), some (.int v3), some (.int v4), some (.int z), some (.int ((if (L.take ((L.length))).all (agQ z) = true then (1 : Int32) else 0))), none] [] (M)) (j : Nat) (hj : j ≤ L.length) (ij : Int32) (w : Int32) (h2 : ij = nI j) (hv_w : w = (if (L.take (j)).all (agQ z) = true then (1 : Int32) else 0)) : z_Sm mX7_which r M2 54 [some (.ref 59), some (.int x), some (.int v2), some (.int v3), some (.int v4), some (.int z), some (.int w), some (.int ij)] [] M := by
  have hl6 := hL.2.1
  refine z_iload (pc := 54) dX7_which_54 rfl ?_
  refine z_aload_n (pc := 56) dX7_which_56 rfl ?_
  refine z_getI (pc := 57) q_fX7_196 z_s59 rfl dX7_which_57 ?_
  refine z_icmp_ge (pc := 60) (tgt := 117) dX7_which_60 (by decide) (fun h60 => ?_) (fun h60 => ?_)
  · have hNj : L.length ≤ j := by
      have := z_ge h60 h2 hL.1 (by omega) (by omega)
      omega
    obtain rfl : j = L.length := by omega
    subst hv_w
    exact z_drop 7 kk
  · have hlt : j < L.length := by
      have := z_lt h60 h2 hL.1 (by omega) (by omega)
      omega
    have ⟨ha, hb⟩ := hL.2.2 j _ (List.getElem?_eq_getElem hlt)
    have htk : (L.take (j + 1)).all (agQ z) = ((L.take j).all (agQ z) && agQ z L[j]) := by rw [(List.take_append_getElem hlt).symm, List.all_append, List.all_cons, List.all_nil, Bool.and_true]
    have h01j := h01 _ (List.getElem_mem hlt)
    refine z_iload (pc := 63) dX7_which_63 rfl ?_
    refine z_if_eq (pc := 65) (tgt := 108) dX7_which_65 (by decide) (fun h65 => ?_) (fun h65 => ?_)
    · refine z_iconst (pc := 108) (v := 0) dX7_which_108 (by decide) ?_
      refine z_istore (pc := 109) dX7_which_109 rfl (by decide) ?_
      refine z_iinc (pc := 111) dX7_which_111 rfl rfl rfl (by decide) ?_
      refine z_goto (pc := 114) (tgt := 54) dX7_which_114 (by decide) ?_
      rw [hv_w] at h65
      have h65 := z_f h65
      exact s_X7_which_54 hL h01 kk (j + 1) hlt _ _ (z_n1 h2) (by rw [htk, h65, Bool.false_and]; rfl)
    · refine z_aload_n (pc := 68) dX7_which_68 rfl ?_
      refine z_getR (pc := 69) 75 q_fX7_55 z_s59 rfl dX7_which_69 ?_
      refine z_iload (pc := 72) dX7_which_72 rfl ?_
      refine z_iald (pc := 74) (j) z_s75 ⟨h2, by omega⟩ dX7_which_74 ?_
      refine z_iload (pc := 75) dX7_which_75 rfl ?_
      refine z_icmp_le (pc := 77) (tgt := 84) dX7_which_77 (by decide) (fun h77 => ?_) (fun h77 => ?_)
      · refine z_iconst (pc := 84) (v := 0) dX7_which_84 (by decide) ?_
        refine z_aload_n (pc := 85) dX7_which_85 rfl ?_
        refine z_getR (pc := 86) 76 q_fX7_58 z_s59 rfl dX7_which_86 ?_
        refine z_iload (pc := 89) dX7_which_89 rfl ?_
        refine z_iald (pc := 91) (j) z_s76 ⟨h2, by omega⟩ dX7_which_91 ?_
        refine z_iconst (pc := 92) (v := 1) dX7_which_92 (by decide) ?_
        refine z_icmp_ne (pc := 93) (tgt := 100) dX7_which_93 (by decide) (fun h93 => ?_) (fun h93 => ?_)
        · refine z_iconst (pc := 100) (v := 0) dX7_which_100 (by decide) ?_
          refine z_icmp_ne (pc := 101) (tgt := 108) dX7_which_101 (by decide) (fun h101 => ?_) (fun h101 => ?_)
          · refine z_iconst (pc := 108) (v := 0) dX7_which_108 (by decide) ?_
            refine z_istore (pc := 109) dX7_which_109 rfl (by decide) ?_
            refine z_iinc (pc := 111) dX7_which_111 rfl rfl rfl (by decide) ?_
            refine z_goto (pc := 114) (tgt := 54) dX7_which_114 (by decide) ?_
            exact absurd h101 (by decide)
          · refine z_iconst (pc := 104) (v := 1) dX7_which_104 (by decide) ?_
            refine z_goto (pc := 105) (tgt := 109) dX7_which_105 (by decide) ?_
            refine z_istore (pc := 109) dX7_which_109 rfl (by decide) ?_
            refine z_iinc (pc := 111) dX7_which_111 rfl rfl rfl (by decide) ?_
            refine z_goto (pc := 114) (tgt := 54) dX7_which_114 (by decide) ?_
            rw [hv_w] at h65
            have h65 := z_t h65
            have hq : L[j].2 = 0 := (h01j.resolve_right (fun q => h93 (hb.trans q)))
            have hl : ¬ z < L[j].1 := by rw [← ha]; exact Int32.not_lt.mpr h77
            have hf : agQ z L[j] = true := by rw [agQ, if_neg hl, hq]; rfl
            exact s_X7_which_54 hL h01 kk (j + 1) hlt _ _ (z_n1 h2) (by rw [htk, h65, hf]; rfl)
        · refine z_iconst (pc := 96) (v := 1) dX7_which_96 (by decide) ?_
          refine z_goto (pc := 97) (tgt := 101) dX7_which_97 (by decide) ?_
          refine z_icmp_ne (pc := 101) (tgt := 108) dX7_which_101 (by decide) (fun h101 => ?_) (fun h101 => ?_)
          · refine z_iconst (pc := 108) (v := 0) dX7_which_108 (by decide) ?_
            refine z_istore (pc := 109) dX7_which_109 rfl (by decide) ?_
            refine z_iinc (pc := 111) dX7_which_111 rfl rfl rfl (by decide) ?_
            refine z_goto (pc := 114) (tgt := 54) dX7_which_114 (by decide) ?_
            rw [hv_w] at h65
            have h65 := z_t h65
            have hq : L[j].2 = 1 := hb.symm.trans h93
            have hl : ¬ z < L[j].1 := by rw [← ha]; exact Int32.not_lt.mpr h77
            have hf : agQ z L[j] = false := by rw [agQ, if_neg hl, hq]; rfl
            exact s_X7_which_54 hL h01 kk (j + 1) hlt _ _ (z_n1 h2) (by rw [htk, h65, hf]; rfl)
          · refine z_iconst (pc := 104) (v := 1) dX7_which_104 (by decide) ?_
            refine z_goto (pc := 105) (tgt := 109) dX7_which_105 (by decide) ?_
            refine z_istore (pc := 109) dX7_which_109 rfl (by decide) ?_
            refine z_iinc (pc := 111) dX7_which_111 rfl rfl rfl (by decide) ?_
            refine z_goto (pc := 114) (tgt := 54) dX7_which_114 (by decide) ?_
            exact absurd h101 (by decide)
      · refine z_iconst (pc := 80) (v := 1) dX7_which_80 (by decide) ?_
        refine z_goto (pc := 81) (tgt := 85) dX7_which_81 (by decide) ?_
        refine z_aload_n (pc := 85) dX7_which_85 rfl ?_
        refine z_getR (pc := 86) 76 q_fX7_58 z_s59 rfl dX7_which_86 ?_
        refine z_iload (pc := 89) dX7_which_89 rfl ?_
        refine z_iald (pc := 91) (j) z_s76 ⟨h2, by omega⟩ dX7_which_91 ?_
        refine z_iconst (pc := 92) (v := 1) dX7_which_92 (by decide) ?_
        refine z_icmp_ne (pc := 93) (tgt := 100) dX7_which_93 (by decide) (fun h93 => ?_) (fun h93 => ?_)
        · refine z_iconst (pc := 100) (v := 0) dX7_which_100 (by decide) ?_
          refine z_icmp_ne (pc := 101) (tgt := 108) dX7_which_101 (by decide) (fun h101 => ?_) (fun h101 => ?_)
          · refine z_iconst (pc := 108) (v := 0) dX7_which_108 (by decide) ?_
            refine z_istore (pc := 109) dX7_which_109 rfl (by decide) ?_
            refine z_iinc (pc := 111) dX7_which_111 rfl rfl rfl (by decide) ?_
            refine z_goto (pc := 114) (tgt := 54) dX7_which_114 (by decide) ?_
            rw [hv_w] at h65
            have h65 := z_t h65
            have hq : L[j].2 = 0 := (h01j.resolve_right (fun q => h93 (hb.trans q)))
            have hl : z < L[j].1 := by rw [← ha]; exact Int32.not_le.mp h77
            have hf : agQ z L[j] = false := by rw [agQ, if_pos hl, hq]; rfl
            exact s_X7_which_54 hL h01 kk (j + 1) hlt _ _ (z_n1 h2) (by rw [htk, h65, hf]; rfl)
          · refine z_iconst (pc := 104) (v := 1) dX7_which_104 (by decide) ?_
            refine z_goto (pc := 105) (tgt := 109) dX7_which_105 (by decide) ?_
            refine z_istore (pc := 109) dX7_which_109 rfl (by decide) ?_
            refine z_iinc (pc := 111) dX7_which_111 rfl rfl rfl (by decide) ?_
            refine z_goto (pc := 114) (tgt := 54) dX7_which_114 (by decide) ?_
            exact absurd h101 (by decide)
        · refine z_iconst (pc := 96) (v := 1) dX7_which_96 (by decide) ?_
          refine z_goto (pc := 97) (tgt := 101) dX7_which_97 (by decide) ?_
          refine z_icmp_ne (pc := 101) (tgt := 108) dX7_which_101 (by decide) (fun h101 => ?_) (fun h101 => ?_)
          · refine z_iconst (pc := 108) (v := 0) dX7_which_108 (by decide) ?_
            refine z_istore (pc := 109) dX7_which_109 rfl (by decide) ?_
            refine z_iinc (pc := 111) dX7_which_111 rfl rfl rfl (by decide) ?_
            refine z_goto (pc := 114) (tgt := 54) dX7_which_114 (by decide) ?_
            exact absurd h101 (by decide)
          · refine z_iconst (pc := 104) (v := 1) dX7_which_104 (by decide) ?_
            refine z_goto (pc := 105) (tgt := 109) dX7_which_105 (by decide) ?_
            refine z_istore (pc := 109) dX7_which_109 rfl (by decide) ?_
            refine z_iinc (pc := 111) dX7_which_111 rfl rfl rfl (by decide) ?_
            refine z_goto (pc := 114) (tgt := 54) dX7_which_114 (by decide) ?_
            rw [hv_w] at h65
            have h65 := z_t h65
            have hq : L[j].2 = 1 := hb.symm.trans h93
            have hl : z < L[j].1 := by rw [← ha]; exact Int32.not_le.mp h77
            have hf : agQ z L[j] = true := by rw [agQ, if_pos hl, hq]; rfl
            exact s_X7_which_54 hL h01 kk (j + 1) hlt _ _ (z_n1 h2) (by rw [htk, h65, hf]; rfl)
termination_by L.length - j
decreasing_by all_goals omega
set_option maxRecDepth 100000 in
set_option maxHeartbeats 400000 in
theorem s_X7_which_21 {M : z_Mem} {L : List (Int32 × Int32)} (hL : LN M L) (h01 : ∀ q ∈ L, q.2 = 0 ∨ q.2 = 1) {x : Int32} : ∀ (f g : Nat) (ij v2 v3 : Int32) (v5 v6 : Option Value), v2 = nI (whF (whO L) g).1 → v3 = (whF (whO L) g).2 → ij = nI g → g + f = 20 → z_Sm mX7_which (some (.int (if x = 0 then nI (whF (whO L) 20).1 else (whF (whO L) 20).2))) M 21 [some (.ref 59), some (.int x), some (.int v2), some (.int v3), some (.int ij), v5, v6, none] [] M := by
  intro f
  induction f with
  | zero =>
    intro g ij v2 v3 v5 v6 h2 h3 hi hf
    obtain rfl : g = 20 := by omega
    refine z_iload (pc := 21) dX7_which_21 rfl ?_
    refine z_bipush (pc := 23) (v := 20) dX7_which_23 (by decide) ?_
    refine z_icmp_ge (pc := 25) (tgt := 152) dX7_which_25 (by decide) (fun h25 => ?_) (fun h25 => ?_)
    · refine z_iload_n (pc := 152) dX7_which_152 rfl ?_
      refine z_if_ne (pc := 153) (tgt := 160) dX7_which_153 (by decide) (fun h153 => ?_) (fun h153 => ?_)
      · refine z_iload_n (pc := 160) dX7_which_160 rfl ?_
        refine z_iret (pc := 161) rfl dX7_which_161 ?_ ?_
        · rw [if_neg h153]; exact h3
        · rfl
      · refine z_iload_n (pc := 156) dX7_which_156 rfl ?_
        refine z_goto (pc := 157) (tgt := 161) dX7_which_157 (by decide) ?_
        refine z_iret (pc := 161) rfl dX7_which_161 ?_ ?_
        · rw [if_pos h153]; exact h2
        · rfl
    · exact absurd (z_lt h25 hi (show (20 : Int32) = nI 20 from rfl) (by omega) (by omega)) (by omega)
  | succ f ih =>
    intro g ij v2 v3 v5 v6 h2 h3 hi hf
    have hwl := whF_le (whO L) g
    subst hi
    have hwt : (L.take L.length).all (agQ (heldF (nI (g / 10)) (nI (g % 10)))) = whO L g := by rw [List.take_length]; rfl
    have hk : z_Sm mX7_which (some (.int (if x = 0 then nI (whF (whO L) 20).1 else (whF (whO L) 20).2))) M 117 [some (.ref 59), some (.int x), some (.int v2), some (.int v3), some (.int (nI g)), some (.int (heldF (nI (g / 10)) (nI (g % 10)))), some (.int (if (L.take L.length).all (agQ (heldF (nI (g / 10)) (nI (g % 10)))) = true then (1 : Int32) else 0)), none] [] M := by
      rw [hwt]
      refine z_iload (pc := 117) dX7_which_117 rfl ?_
      refine z_if_eq (pc := 119) (tgt := 131) dX7_which_119 (by decide) (fun h119 => ?_) (fun h119 => ?_)
      · refine z_iload_n (pc := 131) dX7_which_131 rfl ?_
        refine z_istore_n (pc := 132) dX7_which_132 rfl (by decide) ?_
        refine z_iload_n (pc := 133) dX7_which_133 rfl ?_
        refine z_iload (pc := 134) dX7_which_134 rfl ?_
        refine z_if_eq (pc := 136) (tgt := 143) dX7_which_136 (by decide) (fun h136 => ?_) (fun h136 => ?_)
        · refine z_iconst (pc := 143) (v := 0) dX7_which_143 (by decide) ?_
          refine z_iadd (pc := 144) dX7_which_144 ?_
          refine z_istore_n (pc := 145) dX7_which_145 rfl (by decide) ?_
          refine z_iinc (pc := 146) dX7_which_146 rfl rfl rfl (by decide) ?_
          refine z_goto (pc := 149) (tgt := 21) dX7_which_149 (by decide) ?_
          have hw := z_f h119
          exact ih (g + 1) _ _ _ _ _ (by rw [whF_no hw, h2]; exact Int32.add_zero _) (by rw [whF_no hw]; exact h3) (z_n1 rfl) (by omega)
        · exact absurd h119 h136
      · refine z_iload_n (pc := 122) dX7_which_122 rfl ?_
        refine z_if_ne (pc := 123) (tgt := 131) dX7_which_123 (by decide) (fun h123 => ?_) (fun h123 => ?_)
        · refine z_iload_n (pc := 131) dX7_which_131 rfl ?_
          refine z_istore_n (pc := 132) dX7_which_132 rfl (by decide) ?_
          refine z_iload_n (pc := 133) dX7_which_133 rfl ?_
          refine z_iload (pc := 134) dX7_which_134 rfl ?_
          refine z_if_eq (pc := 136) (tgt := 143) dX7_which_136 (by decide) (fun h136 => ?_) (fun h136 => ?_)
          · exact absurd h136 h119
          · refine z_iconst (pc := 139) (v := 1) dX7_which_139 (by decide) ?_
            refine z_goto (pc := 140) (tgt := 144) dX7_which_140 (by decide) ?_
            refine z_iadd (pc := 144) dX7_which_144 ?_
            refine z_istore_n (pc := 145) dX7_which_145 rfl (by decide) ?_
            refine z_iinc (pc := 146) dX7_which_146 rfl rfl rfl (by decide) ?_
            refine z_goto (pc := 149) (tgt := 21) dX7_which_149 (by decide) ?_
            have hw := z_t h119
            rw [h2] at h123
            have h123 : ¬ (whF (whO L) g).1 = 0 := fun q => h123 ((nI0 (by omega)).mpr q)
            exact ih (g + 1) _ _ _ _ _ (by rw [whF_yes hw, h2]; exact (nI_succ _).symm) (by rw [whF_yes hw, h3]; exact (if_neg h123).symm) (z_n1 rfl) (by omega)
        · refine z_iload (pc := 126) dX7_which_126 rfl ?_
          refine z_goto (pc := 128) (tgt := 132) dX7_which_128 (by decide) ?_
          refine z_istore_n (pc := 132) dX7_which_132 rfl (by decide) ?_
          refine z_iload_n (pc := 133) dX7_which_133 rfl ?_
          refine z_iload (pc := 134) dX7_which_134 rfl ?_
          refine z_if_eq (pc := 136) (tgt := 143) dX7_which_136 (by decide) (fun h136 => ?_) (fun h136 => ?_)
          · exact absurd h136 h119
          · refine z_iconst (pc := 139) (v := 1) dX7_which_139 (by decide) ?_
            refine z_goto (pc := 140) (tgt := 144) dX7_which_140 (by decide) ?_
            refine z_iadd (pc := 144) dX7_which_144 ?_
            refine z_istore_n (pc := 145) dX7_which_145 rfl (by decide) ?_
            refine z_iinc (pc := 146) dX7_which_146 rfl rfl rfl (by decide) ?_
            refine z_goto (pc := 149) (tgt := 21) dX7_which_149 (by decide) ?_
            have hw := z_t h119
            rw [h2] at h123
            have h123 : (whF (whO L) g).1 = 0 := (nI0 (by omega)).mp h123
            exact ih (g + 1) _ _ _ _ _ (by rw [whF_yes hw, h2]; exact (nI_succ _).symm) (by rw [whF_yes hw]; exact (if_pos h123).symm) (z_n1 rfl) (by omega)
    have e2 : nI g - nI g / 10 * 10 = nI (g % 10) := pk_rem (d := 10) (by omega) (by decide) (by decide)
    have hz := held_at g (by omega)
    refine z_iload (pc := 21) dX7_which_21 rfl ?_
    refine z_bipush (pc := 23) (v := 20) dX7_which_23 (by decide) ?_
    refine z_icmp_ge (pc := 25) (tgt := 152) dX7_which_25 (by decide) (fun h25 => ?_) (fun h25 => ?_)
    · exact absurd (z_ge h25 (show nI g = nI g from rfl) (show (20 : Int32) = nI 20 from rfl) (by omega) (by omega)) (by omega)
    · refine z_iload (pc := 28) dX7_which_28 rfl ?_
      refine z_bipush (pc := 30) (v := 10) dX7_which_30 (by decide) ?_
      refine z_irem (pc := 32) dX7_which_32 (by decide) ?_
      refine z_iload (pc := 33) dX7_which_33 rfl ?_
      refine z_bipush (pc := 35) (v := 9) dX7_which_35 (by decide) ?_
      refine z_icmp_le (pc := 37) (tgt := 44) dX7_which_37 (by decide) (fun h37 => ?_) (fun h37 => ?_)
      · refine z_iconst (pc := 44) (v := 0) dX7_which_44 (by decide) ?_
        refine z_iadd (pc := 45) dX7_which_45 ?_
        refine z_istore (pc := 46) dX7_which_46 rfl (by decide) ?_
        refine z_iconst (pc := 48) (v := 1) dX7_which_48 (by decide) ?_
        refine z_istore (pc := 49) dX7_which_49 rfl (by decide) ?_
        refine z_iconst (pc := 51) (v := 0) dX7_which_51 (by decide) ?_
        refine z_istore (pc := 52) dX7_which_52 rfl (by decide) ?_
        rw [e2, hz.1 h37]
        exact s_X7_which_54 hL h01 hk 0 (Nat.zero_le _) _ _ rfl rfl
      · refine z_iconst (pc := 40) (v := 3) dX7_which_40 (by decide) ?_
        refine z_goto (pc := 41) (tgt := 45) dX7_which_41 (by decide) ?_
        refine z_iadd (pc := 45) dX7_which_45 ?_
        refine z_istore (pc := 46) dX7_which_46 rfl (by decide) ?_
        refine z_iconst (pc := 48) (v := 1) dX7_which_48 (by decide) ?_
        refine z_istore (pc := 49) dX7_which_49 rfl (by decide) ?_
        refine z_iconst (pc := 51) (v := 0) dX7_which_51 (by decide) ?_
        refine z_istore (pc := 52) dX7_which_52 rfl (by decide) ?_
        rw [e2, hz.2 h37]
        exact s_X7_which_54 hL h01 hk 0 (Nat.zero_le _) _ _ rfl rfl
set_option maxRecDepth 100000 in
set_option maxHeartbeats 400000 in
theorem o_X7_which_no {M : z_Mem} {l : Nat → Int32} {n : Nat} {T : TT} {U : UT} {D : DT} {p : PLt} {A : List PLt} {k0 k1 : Option PLt} {L : List (Int32 × Int32)} {sd : Int64} (hR : RM M l n T U D p A k0 k1 L sd) {x : Int32} (h : x < 0 ∨ 1 < x) : z_Ct mX7_which [.ref 59, .int x] M (some (.int (-2))) M := by
  obtain ⟨rS, rT, rU, rD, rp, rA, r0, r1, rL, rs⟩ := id hR
  have hin := inB_no (b := 0) (c := 1) 0 1 (by decide) (by decide) h

  refine z_entry (by decide +kernel) (Nat.le_of_ble_eq_true rfl) rfl ?_
  show z_Sm mX7_which _ _ 0 [some (.ref 59), some (.int x), none, none, none, none, none, none] [] M
  refine z_iload_n (pc := 0) dX7_which_0 rfl ?_
  refine z_i2l (pc := 1) dX7_which_1 rfl ?_
  refine z_lconst (pc := 2) (v := 0) dX7_which_2 (by decide) ?_
  refine z_lconst (pc := 3) (v := 1) dX7_which_3 (by decide) ?_
  refine z_cS3 (pc := 4) c_X7_in (q_cX7_70 _ (by decide)) rfl dX7_which_4 ?_
  refine z_if_ne (pc := 7) (tgt := 13) dX7_which_7 (by decide) (fun h7 => ?_) (fun h7 => ?_)
  · rw [hin] at h7; exact absurd rfl h7
  · refine z_bipush (pc := 10) (v := (-2)) dX7_which_10 (by decide) ?_
    refine z_iret (pc := 12) rfl dX7_which_12 ?_ ?_
    · rfl
    · rfl
set_option maxRecDepth 100000 in
set_option maxHeartbeats 400000 in
theorem o_X7_which {M : z_Mem} {l : Nat → Int32} {n : Nat} {T : TT} {U : UT} {D : DT} {p : PLt} {A : List PLt} {k0 k1 : Option PLt} {L : List (Int32 × Int32)} {sd : Int64} (hR : RM M l n T U D p A k0 k1 L sd) (h01 : ∀ q ∈ L, q.2 = 0 ∨ q.2 = 1) {x : Int32} (h : ¬ (x < 0 ∨ 1 < x)) : z_Ct mX7_which [.ref 59, .int x] M (some (.int (if x = 0 then nI (whF (whO L) 20).1 else (whF (whO L) 20).2))) M := by
  obtain ⟨rS, rT, rU, rD, rp, rA, r0, r1, rL, rs⟩ := id hR
  have hin := inB_yes (b := 0) (c := 1) 0 1 (by decide) (by decide) h

  refine z_entry (by decide +kernel) (Nat.le_of_ble_eq_true rfl) rfl ?_
  show z_Sm mX7_which _ _ 0 [some (.ref 59), some (.int x), none, none, none, none, none, none] [] M
  refine z_iload_n (pc := 0) dX7_which_0 rfl ?_
  refine z_i2l (pc := 1) dX7_which_1 rfl ?_
  refine z_lconst (pc := 2) (v := 0) dX7_which_2 (by decide) ?_
  refine z_lconst (pc := 3) (v := 1) dX7_which_3 (by decide) ?_
  refine z_cS3 (pc := 4) c_X7_in (q_cX7_70 _ (by decide)) rfl dX7_which_4 ?_
  refine z_if_ne (pc := 7) (tgt := 13) dX7_which_7 (by decide) (fun h7 => ?_) (fun h7 => ?_)
  · refine z_iconst (pc := 13) (v := 0) dX7_which_13 (by decide) ?_
    refine z_istore_n (pc := 14) dX7_which_14 rfl (by decide) ?_
    refine z_bipush (pc := 15) (v := (-9)) dX7_which_15 (by decide) ?_
    refine z_istore_n (pc := 17) dX7_which_17 rfl (by decide) ?_
    refine z_iconst (pc := 18) (v := 0) dX7_which_18 (by decide) ?_
    refine z_istore (pc := 19) dX7_which_19 rfl (by decide) ?_
    exact s_X7_which_21 rL h01 20 0 _ _ _ _ _ rfl rfl rfl (by omega)
  · rw [hin] at h7; exact absurd h7 (by decide)
