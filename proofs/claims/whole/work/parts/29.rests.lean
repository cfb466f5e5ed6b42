abbrev z_thi : List Nat := [13, 16, 17, 57, 58]
def rsK (t u a b : Nat) : Nat → Int32 := upd (upd (fun _ => 0) t (nI (3 * a))) u (nI (3 * b))
/-- which pins are open after the trial -/
def rsP (T : TT) (p : PLt) (t u a b : Nat) : Int32 := (pgF T p.2.1 p.1 (rsK t u a b) (T.1 + 1)).1
def alF (T : TT) (o : Int32) (t : Nat) : Int32 := if rOut o T.2.1 T.2.2.1 T.1 5 (em t) = em t then 2 else 0
def ptd (T : TT) (o : Int32) (t u : Nat) : Int32 := if tog o T.2.1 T.2.2.1 T.1 t u = true then 0 else 4
def g1F (T : TT) (p : PLt) (t u a b : Nat) : Int32 := ptd T (rsP T p t u a b) t u - nI a - alF T (rsP T p t u a b) t
def g2F (T : TT) (p : PLt) (t u a b : Nat) : Int32 := ptd T (rsP T p t u a b) t u - nI b - alF T (rsP T p t u a b) u
def GK (M : z_Mem) (T : TT) (p : PLt) (t u n : Nat) : Prop := ∀ a b, b < 3 → 3 * a + b < n → M.1 57 (3 * a + b) = g1F T p t u a b ∧ M.1 58 (3 * a + b) = g2F T p t u a b
set_option maxRecDepth 100000 in
set_option maxHeartbeats 400000 in
theorem c_X6_priceOfBeingAlone {M : z_Mem} {T : TT} (hT : TK M T) {o : Int32} (ho : M.1 16 0 = o) {x : Int32} {t : Nat} (hx : x = nI t) : z_Ct mX6_priceOfBeingAlone [.ref 0, .int x] M (some (.int (alF T o t))) M := by
  refine z_entry (by decide +kernel) (Nat.le_of_ble_eq_true rfl) rfl ?_
  show z_Sm mX6_priceOfBeingAlone _ _ 0 [some (.ref 0), some (.int x)] [] M
  refine z_aload_n (pc := 0) dX6_priceOfBeingAlone_0 rfl ?_
  refine z_getR (pc := 1) 3 q_fX6_19 z_s0 rfl dX6_priceOfBeingAlone_1 ?_
  refine z_iload_n (pc := 4) dX6_priceOfBeingAlone_4 rfl ?_
  refine z_aload_n (pc := 5) dX6_priceOfBeingAlone_5 rfl ?_
  refine z_getR (pc := 6) 16 q_fX6_39 z_s0 rfl dX6_priceOfBeingAlone_6 ?_
  refine z_getI (pc := 9) q_fX6_135 z_s16 rfl dX6_priceOfBeingAlone_9 ?_
  refine z_cV2 (pc := 12) (c_X4_reach hT.1 hx) (q_cX6_138 _ (by decide)) z_s3 rfl rfl dX6_priceOfBeingAlone_12 ?_
  refine z_iconst (pc := 15) (v := 1) dX6_priceOfBeingAlone_15 (by decide) ?_
  refine z_iload_n (pc := 16) dX6_priceOfBeingAlone_16 rfl ?_
  refine z_ishl (pc := 17) dX6_priceOfBeingAlone_17 ?_
  refine z_icmp_ne (pc := 18) (tgt := 25) dX6_priceOfBeingAlone_18 (by decide) (fun h18 => ?_) (fun h18 => ?_)
  · refine z_iconst (pc := 25) (v := 0) dX6_priceOfBeingAlone_25 (by decide) ?_
    refine z_iret (pc := 26) rfl dX6_priceOfBeingAlone_26 ?_ ?_
    · rw [ho, hx] at h18
      exact (if_neg h18).symm
    · rfl
  · refine z_iconst (pc := 21) (v := 2) dX6_priceOfBeingAlone_21 (by decide) ?_
    refine z_goto (pc := 22) (tgt := 26) dX6_priceOfBeingAlone_22 (by decide) ?_
    refine z_iret (pc := 26) rfl dX6_priceOfBeingAlone_26 ?_ ?_
    · rw [ho, hx] at h18
      rw [alF, if_pos (show rOut o T.2.1 T.2.2.1 T.1 5 (em t) = em t from h18)]
    · rfl
set_option maxRecDepth 100000 in
set_option maxHeartbeats 400000 in
theorem s_X6_reckonGains_10 {T : TT} {p : PLt} (ho : sm7 p.1) {t u a : Nat} (ht : t < 6) (hu : u < 6) (hne : t ≠ u) (ha : a < 3) : ∀ (f b : Nat) (Mj : z_Mem) (ij : Int32), TK Mj T → PlAt Mj 14 p → GK Mj T p t u (3 * a + b) → ij = nI b → b + f = 3 → ∃ N, TK N T ∧ PlAt N 14 p ∧ GK N T p t u (3 * a + 3) ∧ Sb z_thi Mj N ∧ ∀ (M2 : z_Mem) (v5 : Option Value), (z_Sm mX6_reckonGains none M2 144 [some (.ref 0), some (.int (nI t)), some (.int (nI u)), some (.int (nI a)), none, none] [] N) → z_Sm mX6_reckonGains none M2 10 [some (.ref 0), some (.int (nI t)), some (.int (nI u)), some (.int (nI a)), some (.int ij), v5] [] Mj := by
  intro f
  induction f with
  | zero =>
    intro b Mj ij hT hp hG hi hf
    refine ⟨Mj, hT, hp, (show b = 3 by omega) ▸ hG, Sb.rf, fun M2 v5 kk => ?_⟩
    refine z_iload (pc := 10) dX6_reckonGains_10 rfl ?_
    refine z_iconst (pc := 12) (v := 3) dX6_reckonGains_12 (by decide) ?_
    refine z_icmp_ge (pc := 13) (tgt := 144) dX6_reckonGains_13 (by decide) (fun h13 => ?_) (fun h13 => ?_)
    · exact z_drop 4 (z_drop 5 kk)
    · exact absurd (z_lt h13 hi (show (3 : Int32) = nI 3 from rfl) (by omega) (by omega)) (by omega)
  | succ f ih =>
    intro b Mj ij hT hp hG hi hf
    subst hi
    obtain ⟨N1, c1, p1, s1⟩ := c_X2_become (q := 16) PL_16 PL_14 (by decide) (by decide) (by decide) hp
    have s1 : Sb [13, 16, 17] Mj N1 := s1.wk (by simp)
    have sc : Sb [13] N1 (z_row N1 13 (cpF 6 (fun _ => 0) (N1.1 13))) := Sb.row _ (by simp)
    generalize hN2 : z_row N1 13 (cpF 6 (fun _ => 0) (N1.1 13)) = N2 at sc
    have c2 := c_X1_clear (M := N1)
    rw [hN2] at c2
    have e2 : ∀ k, k < 6 → N2.1 13 k = 0 := fun k hk => by rw [← hN2, z_row_1, cpF, if_pos hk]
    have c3 := c_X1_burden (M := N2) (n := 3 * nI a) (show nI t = nI t from rfl) ht
    have sd : Sb [13] N2 (z_row N2 13 (upd (N2.1 13) t (N2.1 13 t + 3 * nI a))) := Sb.row _ (by simp)
    have e3 : (z_row N2 13 (upd (N2.1 13) t (N2.1 13 t + 3 * nI a))).1 13 = upd (N2.1 13) t (N2.1 13 t + 3 * nI a) := z_row_1 _ _ _
    generalize z_row N2 13 (upd (N2.1 13) t (N2.1 13 t + 3 * nI a)) = N3 at c3 sd e3
    have c4 := c_X1_burden (M := N3) (n := 3 * nI b) (show nI u = nI u from rfl) hu
    have se : Sb [13] N3 (z_row N3 13 (upd (N3.1 13) u (N3.1 13 u + 3 * nI b))) := Sb.row _ (by simp)
    have e4 : (z_row N3 13 (upd (N3.1 13) u (N3.1 13 u + 3 * nI b))).1 13 = upd (N3.1 13) u (N3.1 13 u + 3 * nI b) := z_row_1 _ _ _
    generalize z_row N3 13 (upd (N3.1 13) u (N3.1 13 u + 3 * nI b)) = N4 at c4 se e4
    have sf : Sb [13] N1 N4 := (sc.tr sd).tr se
    have t4 : TK N4 T := TK_sb (TK_sb hT s1 (by simp)) sf (by simp)
    have p4 : PlAt N4 16 p := PlAt_sb p1 sf (by simp) (by simp)
    have m3 : (3 : Int32) * nI a = nI (3 * a) := nx_mul 3 a
    have m4 : (3 : Int32) * nI b = nI (3 * b) := nx_mul 3 b
    obtain ⟨N5, c5, p5, s5⟩ := c_X1_ping_th t4 p4 ho (K := rsK t u a b) (fun k hk => by
      rw [e4, e3, m3, m4, rsK, upd_n _ _ (Ne.symm hne), e2 u hu, e2 t ht, Int32.zero_add, Int32.zero_add]
      unfold upd
      split
      · rfl
      · split
        · rfl
        · exact e2 k hk)
    have s6 : Sb [13, 16, 17] Mj N5 := (s1.tr (sf.wk (by simp))).tr s5
    have t5 : TK N5 T := TK_sb hT s6 (by simp)
    have hi1 : (3 : Int32) * nI a + nI b = nI (3 * a + b) := by rw [m3, nI_add]
    have o5 : N5.1 16 0 = rsP T p t u a b := p5.1
    have c7 := c_X6_priceOfBeingAlone t5 o5 (show nI t = nI t from rfl)
    have sg : Sb [57] N5 (z_set N5 57 (3 * a + b) (g1F T p t u a b)) := Sb.set _ (by simp)
    have e7 : (z_set N5 57 (3 * a + b) (g1F T p t u a b)).1 57 = upd (N5.1 57) (3 * a + b) (g1F T p t u a b) := z_row_1 _ _ _
    have k7 : z_set N5 57 (3 * a + b) (ptd T (rsP T p t u a b) t u - nI a - alF T (rsP T p t u a b) t) = z_set N5 57 (3 * a + b) (g1F T p t u a b) := rfl
    generalize z_set N5 57 (3 * a + b) (g1F T p t u a b) = N7 at sg e7 k7
    have t7 : TK N7 T := TK_sb t5 sg (by simp)
    have c8 := c_X6_priceOfBeingAlone t7 (show N7.1 16 0 = rsP T p t u a b by rw [sg.1 16 (by simp)]; exact o5) (show nI u = nI u from rfl)
    have sh : Sb [58] N7 (z_set N7 58 (3 * a + b) (g2F T p t u a b)) := Sb.set _ (by simp)
    have e8 : (z_set N7 58 (3 * a + b) (g2F T p t u a b)).1 58 = upd (N7.1 58) (3 * a + b) (g2F T p t u a b) := z_row_1 _ _ _
    have k8 : z_set N7 58 (3 * a + b) (ptd T (rsP T p t u a b) t u - nI b - alF T (rsP T p t u a b) u) = z_set N7 58 (3 * a + b) (g2F T p t u a b) := rfl
    generalize z_set N7 58 (3 * a + b) (g2F T p t u a b) = N8 at sh e8 k8
    have s8 : Sb z_thi Mj N8 := ((s6.wk (by simp)).tr (sg.wk (by simp))).tr (sh.wk (by simp))
    have G8 : GK N8 T p t u (3 * a + (b + 1)) := fun a2 b2 hb2 hlt => by
      rw [e8, sh.1 57 (by simp), e7]
      by_cases e : 3 * a2 + b2 = 3 * a + b
      · obtain rfl : b2 = b := by omega
        obtain rfl : a2 = a := by omega
        rw [upd_1, upd_1]
        exact ⟨rfl, rfl⟩
      · rw [upd_n _ _ e, upd_n _ _ e, sg.1 58 (by simp), s6.1 57 (by simp), s6.1 58 (by simp)]
        exact hG a2 b2 hb2 (by omega)
    obtain ⟨N, h1, h2, h3, h4, h5⟩ := ih (b + 1) N8 (nI b + Int32.ofInt 1) (TK_sb hT s8 (by simp)) (PlAt_sb hp s8 (by simp) (by simp)) G8 (z_n1 rfl) (by omega)
    refine ⟨N, h1, h2, h3, s8.tr h4, fun M2 v5 kk => ?_⟩
    refine z_iload (pc := 10) dX6_reckonGains_10 rfl ?_
    refine z_iconst (pc := 12) (v := 3) dX6_reckonGains_12 (by decide) ?_
    refine z_icmp_ge (pc := 13) (tgt := 144) dX6_reckonGains_13 (by decide) (fun h13 => ?_) (fun h13 => ?_)
    · exact absurd (z_ge h13 (show nI b = nI b from rfl) (show (3 : Int32) = nI 3 from rfl) (by omega) (by omega)) (by omega)
    · refine z_aload_n (pc := 16) dX6_reckonGains_16 rfl ?_
      refine z_getR (pc := 17) 16 q_fX6_39 z_s0 rfl dX6_reckonGains_17 ?_
      refine z_aload_n (pc := 20) dX6_reckonGains_20 rfl ?_
      refine z_getR (pc := 21) 14 q_fX6_35 z_s0 rfl dX6_reckonGains_21 ?_
      refine z_cV1v (pc := 24) c1 (q_cX6_169 _ (by decide)) z_s16 rfl rfl dX6_reckonGains_24 ?_
      refine z_aload_n (pc := 27) dX6_reckonGains_27 rfl ?_
      refine z_getR (pc := 28) 12 q_fX6_28 z_s0 rfl dX6_reckonGains_28 ?_
      refine z_cV0v (pc := 31) c2 (q_cX6_172 _ (by decide)) z_s12 rfl rfl dX6_reckonGains_31 ?_
      refine z_aload_n (pc := 34) dX6_reckonGains_34 rfl ?_
      refine z_getR (pc := 35) 12 q_fX6_28 z_s0 rfl dX6_reckonGains_35 ?_
      refine z_iload_n (pc := 38) dX6_reckonGains_38 rfl ?_
      refine z_iconst (pc := 39) (v := 3) dX6_reckonGains_39 (by decide) ?_
      refine z_iload_n (pc := 40) dX6_reckonGains_40 rfl ?_
      refine z_imul (pc := 41) dX6_reckonGains_41 ?_
      refine z_cV2v (pc := 42) c3 (q_cX6_262 _ (by decide)) z_s12 rfl rfl dX6_reckonGains_42 ?_
      refine z_aload_n (pc := 45) dX6_reckonGains_45 rfl ?_
      refine z_getR (pc := 46) 12 q_fX6_28 z_s0 rfl dX6_reckonGains_46 ?_
      refine z_iload_n (pc := 49) dX6_reckonGains_49 rfl ?_
      refine z_iconst (pc := 50) (v := 3) dX6_reckonGains_50 (by decide) ?_
      refine z_iload (pc := 51) dX6_reckonGains_51 rfl ?_
      refine z_imul (pc := 53) dX6_reckonGains_53 ?_
      refine z_cV2v (pc := 54) c4 (q_cX6_262 _ (by decide)) z_s12 rfl rfl dX6_reckonGains_54 ?_
      refine z_aload_n (pc := 57) dX6_reckonGains_57 rfl ?_
      refine z_getR (pc := 58) 12 q_fX6_28 z_s0 rfl dX6_reckonGains_58 ?_
      refine z_aload_n (pc := 61) dX6_reckonGains_61 rfl ?_
      refine z_getR (pc := 62) 16 q_fX6_39 z_s0 rfl dX6_reckonGains_62 ?_
      refine z_cV1 (pc := 65) c5 (q_cX6_178 _ (by decide)) z_s12 rfl rfl dX6_reckonGains_65 ?_
      refine z_pop (pc := 68) dX6_reckonGains_68 rfl ?_
      refine z_aload_n (pc := 69) dX6_reckonGains_69 rfl ?_
      refine z_getR (pc := 70) 3 q_fX6_19 z_s0 rfl dX6_reckonGains_70 ?_
      refine z_iload_n (pc := 73) dX6_reckonGains_73 rfl ?_
      refine z_iload_n (pc := 74) dX6_reckonGains_74 rfl ?_
      refine z_aload_n (pc := 75) dX6_reckonGains_75 rfl ?_
      refine z_getR (pc := 76) 16 q_fX6_39 z_s0 rfl dX6_reckonGains_76 ?_
      refine z_getI (pc := 79) q_fX6_135 z_s16 rfl dX6_reckonGains_79 ?_
      refine z_cV3 (pc := 82) (c_X4_areTogether t5.1 (show nI t = nI t from rfl) (show nI u = nI u from rfl) hu) (q_cX6_191 _ (by decide)) z_s3 rfl rfl dX6_reckonGains_82 ?_
      refine z_if_eq (pc := 85) (tgt := 92) dX6_reckonGains_85 (by decide) (fun h85 => ?_) (fun h85 => ?_)
      · have h85 := z_f h85
        rw [o5] at h85
        rw [show ptd T (rsP T p t u a b) t u = 4 from if_neg (by rw [h85]; decide)] at k7 k8
        refine z_iconst (pc := 92) (v := 4) dX6_reckonGains_92 (by decide) ?_
        refine z_istore (pc := 93) dX6_reckonGains_93 rfl (by decide) ?_
        refine z_aload_n (pc := 95) dX6_reckonGains_95 rfl ?_
        refine z_getR (pc := 96) 57 q_fX6_64 z_s0 rfl dX6_reckonGains_96 ?_
        refine z_iconst (pc := 99) (v := 3) dX6_reckonGains_99 (by decide) ?_
        refine z_iload_n (pc := 100) dX6_reckonGains_100 rfl ?_
        refine z_imul (pc := 101) dX6_reckonGains_101 ?_
        refine z_iload (pc := 102) dX6_reckonGains_102 rfl ?_
        refine z_iadd (pc := 104) dX6_reckonGains_104 ?_
        refine z_iload (pc := 105) dX6_reckonGains_105 rfl ?_
        refine z_iload_n (pc := 107) dX6_reckonGains_107 rfl ?_
        refine z_isub (pc := 108) dX6_reckonGains_108 ?_
        refine z_aload_n (pc := 109) dX6_reckonGains_109 rfl ?_
        refine z_iload_n (pc := 110) dX6_reckonGains_110 rfl ?_
        refine z_cV1 (pc := 111) c7 (q_cX6_265 _ (by decide)) z_s0 rfl rfl dX6_reckonGains_111 ?_
        refine z_isub (pc := 114) dX6_reckonGains_114 ?_
        refine z_iast (pc := 115) (3 * a + b) z_s57 ⟨hi1, by omega⟩ dX6_reckonGains_115 ?_
        rw [k7]
        refine z_aload_n (pc := 116) dX6_reckonGains_116 rfl ?_
        refine z_getR (pc := 117) 58 q_fX6_68 z_s0 rfl dX6_reckonGains_117 ?_
        refine z_iconst (pc := 120) (v := 3) dX6_reckonGains_120 (by decide) ?_
        refine z_iload_n (pc := 121) dX6_reckonGains_121 rfl ?_
        refine z_imul (pc := 122) dX6_reckonGains_122 ?_
        refine z_iload (pc := 123) dX6_reckonGains_123 rfl ?_
        refine z_iadd (pc := 125) dX6_reckonGains_125 ?_
        refine z_iload (pc := 126) dX6_reckonGains_126 rfl ?_
        refine z_iload (pc := 128) dX6_reckonGains_128 rfl ?_
        refine z_isub (pc := 130) dX6_reckonGains_130 ?_
        refine z_aload_n (pc := 131) dX6_reckonGains_131 rfl ?_
        refine z_iload_n (pc := 132) dX6_reckonGains_132 rfl ?_
        refine z_cV1 (pc := 133) c8 (q_cX6_265 _ (by decide)) z_s0 rfl rfl dX6_reckonGains_133 ?_
        refine z_isub (pc := 136) dX6_reckonGains_136 ?_
        refine z_iast (pc := 137) (3 * a + b) z_s58 ⟨hi1, by omega⟩ dX6_reckonGains_137 ?_
        rw [k8]
        refine z_iinc (pc := 138) dX6_reckonGains_138 rfl rfl rfl (by decide) ?_
        refine z_goto (pc := 141) (tgt := 10) dX6_reckonGains_141 (by decide) ?_
        exact h5 M2 _ kk
      · have h85 := z_t h85
        rw [o5] at h85
        rw [show ptd T (rsP T p t u a b) t u = 0 from if_pos h85] at k7 k8
        refine z_iconst (pc := 88) (v := 0) dX6_reckonGains_88 (by decide) ?_
        refine z_goto (pc := 89) (tgt := 93) dX6_reckonGains_89 (by decide) ?_
        refine z_istore (pc := 93) dX6_reckonGains_93 rfl (by decide) ?_
        refine z_aload_n (pc := 95) dX6_reckonGains_95 rfl ?_
        refine z_getR (pc := 96) 57 q_fX6_64 z_s0 rfl dX6_reckonGains_96 ?_
        refine z_iconst (pc := 99) (v := 3) dX6_reckonGains_99 (by decide) ?_
        refine z_iload_n (pc := 100) dX6_reckonGains_100 rfl ?_
        refine z_imul (pc := 101) dX6_reckonGains_101 ?_
        refine z_iload (pc := 102) dX6_reckonGains_102 rfl ?_
        refine z_iadd (pc := 104) dX6_reckonGains_104 ?_
        refine z_iload (pc := 105) dX6_reckonGains_105 rfl ?_
        refine z_iload_n (pc := 107) dX6_reckonGains_107 rfl ?_
        refine z_isub (pc := 108) dX6_reckonGains_108 ?_
        refine z_aload_n (pc := 109) dX6_reckonGains_109 rfl ?_
        refine z_iload_n (pc := 110) dX6_reckonGains_110 rfl ?_
        refine z_cV1 (pc := 111) c7 (q_cX6_265 _ (by decide)) z_s0 rfl rfl dX6_reckonGains_111 ?_
        refine z_isub (pc := 114) dX6_reckonGains_114 ?_
        refine z_iast (pc := 115) (3 * a + b) z_s57 ⟨hi1, by omega⟩ dX6_reckonGains_115 ?_
        rw [k7]
        refine z_aload_n (pc := 116) dX6_reckonGains_116 rfl ?_
        refine z_getR (pc := 117) 58 q_fX6_68 z_s0 rfl dX6_reckonGains_117 ?_
        refine z_iconst (pc := 120) (v := 3) dX6_reckonGains_120 (by decide) ?_
        refine z_iload_n (pc := 121) dX6_reckonGains_121 rfl ?_
        refine z_imul (pc := 122) dX6_reckonGains_122 ?_
        refine z_iload (pc := 123) dX6_reckonGains_123 rfl ?_
        refine z_iadd (pc := 125) dX6_reckonGains_125 ?_
        refine z_iload (pc := 126) dX6_reckonGains_126 rfl ?_
        refine z_iload (pc := 128) dX6_reckonGains_128 rfl ?_
        refine z_isub (pc := 130) dX6_reckonGains_130 ?_
        refine z_aload_n (pc := 131) dX6_reckonGains_131 rfl ?_
        refine z_iload_n (pc := 132) dX6_reckonGains_132 rfl ?_
        refine z_cV1 (pc := 133) c8 (q_cX6_265 _ (by decide)) z_s0 rfl rfl dX6_reckonGains_133 ?_
        refine z_isub (pc := 136) dX6_reckonGains_136 ?_
        refine z_iast (pc := 137) (3 * a + b) z_s58 ⟨hi1, by omega⟩ dX6_reckonGains_137 ?_
        rw [k8]
        refine z_iinc (pc := 138) dX6_reckonGains_138 rfl rfl rfl (by decide) ?_
        refine z_goto (pc := 141) (tgt := 10) dX6_reckonGains_141 (by decide) ?_
        exact h5 M2 _ kk
set_option maxRecDepth 100000 in
set_option maxHeartbeats 400000 in
theorem s_X6_reckonGains_2 {T : TT} {p : PLt} (ho : sm7 p.1) {t u : Nat} (ht : t < 6) (hu : u < 6) (hne : t ≠ u) : ∀ (f a : Nat) (Mj : z_Mem) (ij : Int32), TK Mj T → PlAt Mj 14 p → GK Mj T p t u (3 * a) → ij = nI a → a + f = 3 → ∃ N, GK N T p t u 9 ∧ Sb z_thi Mj N ∧ ∀ (v4 v5 : Option Value), z_Sm mX6_reckonGains none N 2 [some (.ref 0), some (.int (nI t)), some (.int (nI u)), some (.int ij), v4, v5] [] Mj := by
  intro f
  induction f with
  | zero =>
    intro a Mj ij hT hp hG hi hf
    refine ⟨Mj, (show 3 * a = 9 by omega) ▸ hG, Sb.rf, fun v4 v5 => ?_⟩
    refine z_iload_n (pc := 2) dX6_reckonGains_2 rfl ?_
    refine z_iconst (pc := 3) (v := 3) dX6_reckonGains_3 (by decide) ?_
    refine z_icmp_ge (pc := 4) (tgt := 150) dX6_reckonGains_4 (by decide) (fun h4 => ?_) (fun h4 => ?_)
    · refine z_vret (pc := 150) rfl dX6_reckonGains_150 ?_
      · rfl
    · exact absurd (z_lt h4 hi (show (3 : Int32) = nI 3 from rfl) (by omega) (by omega)) (by omega)
  | succ f ih =>
    intro a Mj ij hT hp hG hi hf
    subst hi
    obtain ⟨N1, q1, q2, q3, q4, q5⟩ := s_X6_reckonGains_10 ho ht hu hne (show a < 3 by omega) 3 0 Mj (nI 0) hT hp hG rfl (by omega)
    obtain ⟨N, g1, g2, g3⟩ := ih (a + 1) N1 (nI a + Int32.ofInt 1) q1 q2 q3 (z_n1 rfl) (by omega)
    refine ⟨N, g1, q4.tr g2, fun v4 v5 => ?_⟩
    refine z_iload_n (pc := 2) dX6_reckonGains_2 rfl ?_
    refine z_iconst (pc := 3) (v := 3) dX6_reckonGains_3 (by decide) ?_
    refine z_icmp_ge (pc := 4) (tgt := 150) dX6_reckonGains_4 (by decide) (fun h4 => ?_) (fun h4 => ?_)
    · exact absurd (z_ge h4 (show nI a = nI a from rfl) (show (3 : Int32) = nI 3 from rfl) (by omega) (by omega)) (by omega)
    · refine z_iconst (pc := 7) (v := 0) dX6_reckonGains_7 (by decide) ?_
      refine z_istore (pc := 8) dX6_reckonGains_8 rfl (by decide) ?_
      refine q5 N _ ?_
      refine z_iinc (pc := 144) dX6_reckonGains_144 rfl rfl rfl (by decide) ?_
      refine z_goto (pc := 147) (tgt := 2) dX6_reckonGains_147 (by decide) ?_
      exact g3 _ _
set_option maxRecDepth 100000 in
set_option maxHeartbeats 400000 in
theorem c_X6_reckonGains {M : z_Mem} {T : TT} (hT : TK M T) {p : PLt} (hp : PlAt M 14 p) (ho : sm7 p.1) {t u : Nat} (ht : t < 6) (hu : u < 6) (hne : t ≠ u) : ∃ N, z_Ct mX6_reckonGains [.ref 0, .int (nI t), .int (nI u)] M none N ∧ GK N T p t u 9 ∧ Sb z_thi M N := by
  obtain ⟨N, g1, g2, g3⟩ := s_X6_reckonGains_2 ho ht hu hne 3 0 M (nI 0) hT hp (fun a b _ h => absurd h (by omega)) rfl (by omega)
  refine ⟨N, ?_, g1, g2⟩
  refine z_entry (by decide +kernel) (Nat.le_of_ble_eq_true rfl) rfl ?_
  show z_Sm mX6_reckonGains _ _ 0 [some (.ref 0), some (.int (nI t)), some (.int (nI u)), none, none, none] [] M
  refine z_iconst (pc := 0) (v := 0) dX6_reckonGains_0 (by decide) ?_
  refine z_istore_n (pc := 1) dX6_reckonGains_1 rfl (by decide) ?_
  exact g3 _ _
