theorem rIn_cong2 {o o2 : Int32} {a b : Nat → Nat} {x : Int32} : ∀ n, (∀ k, k < n → bt o k = bt o2 k) → rIn o a b n x = rIn o2 a b n x
  | 0, _ => rfl
  | n + 1, h => by rw [rIn, rIn, rIn_cong2 n (fun k hk => h k (by omega)), h n (Nat.lt_succ_self n)]
theorem rOut_cong2 {o o2 : Int32} {a b : Nat → Nat} {P : Nat} {x : Int32} (h : ∀ k, k < P → bt o k = bt o2 k) : ∀ n, rOut o a b P n x = rOut o2 a b P n x
  | 0 => rfl
  | n + 1 => by rw [rOut, rOut, rOut_cong2 h n, rIn_cong2 P h]
theorem prN_cong2 {o o2 : Int32} {a b : Nat → Nat} {P : Nat} (h : ∀ k, k < P → bt o k = bt o2 k) : ∀ n, prN o a b P n = prN o2 a b P n
  | 0 => rfl
  | n + 1 => by rw [prN, prN, prN_cong2 h n, rOut_cong2 h]
theorem em1_bt {P i : Nat} (hP : P ≤ 7) (hi : i < P) : bt (em P - 1) i = true := by
  rw [(emP P hP).1, bt_nI _ (by omega), Nat.testBit_two_pow_sub_one]
  exact decide_eq_true hi
theorem fa_6 : ∀ a, a < 7 → ∀ b, b < 7 → a + b ≤ 6 → fa a * fa b ≤ 720 := by decide +kernel
theorem fa_1 : ∀ a, a < 8 → 0 < fa a := by decide +kernel
/-- which cuts count: those that are shut, without the pin itself -/
def shC (sh : Int32) (k c : Nat) : Prop := nI c &&& (sh ^^^ (-1)) = 0 ∧ bt sh k = true ∧ bt (nI c) k = false
theorem shC_ot {sh ot : Int32} {k c : Nat} (hk : k < 7) (hs : bt sh k = true) (hot : ot = sh &&& (em k ^^^ (-1))) : nI c &&& (ot ^^^ (-1)) = 0 ↔ shC sh k c := by
  constructor
  · intro h
    have hsub := sub_bt h
    have hno : bt ot k = false := by rw [hot, b_and, z_not _ (by omega), em_bt (by omega) (by omega)]; simp
    refine ⟨b_ext fun i hi => ?_, hs, ?_⟩
    · rw [b_and, z_not _ hi, b_0]
      have q := hsub i
      rw [hot, b_and] at q
      cases h1 : bt (nI c) i
      · rfl
      · have := q h1
        cases h2 : bt sh i
        · rw [h2] at this; cases this
        · rfl
    · cases e : bt (nI c) k
      · rfl
      · rw [hsub k e] at hno; cases hno
  · rintro ⟨h1, _, h3⟩
    have hsub := sub_bt h1
    refine b_ext fun i hi => ?_
    rw [b_and, z_not _ hi, b_0, hot, b_and, z_not _ hi, em_bt (by omega) hi]
    cases q : bt (nI c) i
    · rfl
    · rw [hsub i q]
      by_cases e : i = k
      · rw [e] at q; rw [q] at h3; cases h3
      · rw [decide_eq_false e]; rfl
def shT (T : TT) (sh : Int32) (k c : Nat) : Nat := fa (pc 7 (nI c)) * fa (pc 7 sh - 1 - pc 7 (nI c)) * (prN ((nI c ||| em k) ^^^ (-1)) T.2.1 T.2.2.1 T.1 6 / 2 - prN (nI c ^^^ (-1)) T.2.1 T.2.2.1 T.1 6 / 2)
theorem shC_lt {sh : Int32} {k c : Nat} (hk : k < 7) (h : shC sh k c) : pc 7 (nI c) + 1 ≤ pc 7 sh := pc_lt (sub_bt h.1) h.2.2 h.2.1 7 hk
theorem shT_le {T : TT} {sh : Int32} {k c : Nat} (hk : k < 7) (h : shC sh k c) : shT T sh k c ≤ 15120 := by
  have h1 := shC_lt hk h
  have h2 := pc_le sh 7
  have f1 := fa_6 (pc 7 (nI c)) (by omega) (pc 7 sh - 1 - pc 7 (nI c)) (by omega) (by omega)
  have q := prN_le ((nI c ||| em k) ^^^ (-1)) T.2.1 T.2.2.1 T.1 6
  exact Nat.le_trans (Nat.mul_le_mul f1 (show prN ((nI c ||| em k) ^^^ (-1)) T.2.1 T.2.2.1 T.1 6 / 2 - prN (nI c ^^^ (-1)) T.2.1 T.2.2.1 T.1 6 / 2 ≤ 21 by omega)) (by decide)
theorem sh_mono {T : TT} {k c : Nat} (hk : k < 7) : prN (nI c ^^^ (-1)) T.2.1 T.2.2.1 T.1 6 ≤ prN ((nI c ||| em k) ^^^ (-1)) T.2.1 T.2.2.1 T.1 6 := by
  refine prN_anti (fun i hi => ?_) 6
  by_cases h32 : i < 32
  · rw [z_not _ h32, b_or] at hi
    rw [z_not _ h32]
    cases e : bt (nI c) i
    · rfl
    · rw [e] at hi; cases hi
  · rw [b_big (by omega)] at hi; cases hi
theorem shS_small {T : TT} {sh ot : Int32} {k : Nat} (hk : k < 7) (hs : bt sh k = true) (hot : ot = sh &&& (em k ^^^ (-1))) : ∀ n, shS T k (pc 7 sh) ot n ≤ n * 15120
  | 0 => Nat.zero_le _
  | n + 1 => by
    have ih := shS_small (T := T) hk hs hot n
    rw [shS, Nat.succ_mul]
    by_cases h : nI n &&& (ot ^^^ (-1)) = 0
    · rw [if_pos h]
      exact Nat.add_le_add ih (shT_le (T := T) hk ((shC_ot hk hs hot).mp h))
    · rw [if_neg h]
      exact Nat.le_trans ih (Nat.le_add_right _ _)
set_option maxRecDepth 100000 in
set_option maxHeartbeats 400000 in
theorem s_X7_share_30 {M : z_Mem} {T : TT} (hT : TN M T) {sh z : Int32} {k : Nat} (hk : k < 7) {s : Nat → Nat} (hA : ∀ c, shC sh k c → s (c + 1) = s c + shT T sh k c) (hB : ∀ c, ¬ shC sh k c → s (c + 1) = s c) (hE : s (2 ^ T.1) < 2 ^ 30) : ∀ (f c : Nat) (ij s4 : Int32) (v6 : Option Value), s4 = nI (s c) → ij = nI c → c + f = 2 ^ T.1 → z_Sm mX7_share (some (.int (ltF z (s (2 ^ T.1)) (fa (pc 7 sh))))) M 30 [some (.ref 59), some (.int (nI k)), some (.int z), some (.int sh), some (.int s4), some (.int ij), v6] [] M := by
  obtain ⟨-, e1, e2⟩ := emP T.1 hT.2.1
  have eQ : (1 : Int32) <<< (M.1 59 0 &&& 31) = nI (2 ^ T.1) := by rw [hT.1]; exact emQ T.1 hT.2.1
  have p7 := pc_le sh 7
  have hP7 := hT.2.1
  intro f
  induction f with
  | zero =>
    intro c ij s4 v6 h4 hi hf
    obtain rfl : c = 2 ^ T.1 := by omega
    have f1 := (fa_at (pc 7 sh) (by omega)).2
    have f2 := fa_1 (pc 7 sh) (by omega)
    obtain ⟨l1, l2, l3⟩ := lt_nI (z := z) (a := s (2 ^ T.1)) (b := fa (pc 7 sh)) hE (by omega) f2
    subst h4
    refine z_iload (pc := 30) dX7_share_30 rfl ?_
    refine z_iconst (pc := 32) (v := 1) dX7_share_32 (by decide) ?_
    refine z_aload_n (pc := 33) dX7_share_33 rfl ?_
    refine z_getI (pc := 34) q_fX7_105 z_s59 rfl dX7_share_34 ?_
    refine z_ishl (pc := 37) dX7_share_37 ?_
    refine z_icmp_ge (pc := 38) (tgt := 140) dX7_share_38 (by decide) (fun h38 => ?_) (fun h38 => ?_)
    · refine z_iload (pc := 140) dX7_share_140 rfl ?_
      refine z_iload_n (pc := 142) dX7_share_142 rfl ?_
      refine z_cS1 (pc := 143) c_X7_ones (q_cX7_137 _ (by decide)) rfl dX7_share_143 ?_
      refine z_cS1 (pc := 146) (c_X7_factorial (by omega)) (q_cX7_199 _ (by decide)) rfl dX7_share_146 ?_
      refine z_cS2 (pc := 149) (c_X7_common hE (by omega)) (q_cX7_205 _ (by decide)) rfl dX7_share_149 ?_
      refine z_istore (pc := 152) dX7_share_152 rfl (by decide) ?_
      refine z_iload_n (pc := 154) dX7_share_154 rfl ?_
      refine z_if_eq (pc := 155) (tgt := 166) dX7_share_155 (by decide) (fun h155 => ?_) (fun h155 => ?_)
      · refine z_iload_n (pc := 166) dX7_share_166 rfl ?_
        refine z_cS1 (pc := 167) c_X7_ones (q_cX7_137 _ (by decide)) rfl dX7_share_167 ?_
        refine z_cS1 (pc := 170) (c_X7_factorial (by omega)) (q_cX7_199 _ (by decide)) rfl dX7_share_170 ?_
        refine z_iload (pc := 173) dX7_share_173 rfl ?_
        refine z_idiv (pc := 175) dX7_share_175 l3 ?_
        refine z_iret (pc := 176) rfl dX7_share_176 ?_ ?_
        · exact l2 h155
        · rfl
      · refine z_iload (pc := 158) dX7_share_158 rfl ?_
        refine z_iload (pc := 160) dX7_share_160 rfl ?_
        refine z_idiv (pc := 162) dX7_share_162 l3 ?_
        refine z_goto (pc := 163) (tgt := 176) dX7_share_163 (by decide) ?_
        refine z_iret (pc := 176) rfl dX7_share_176 ?_ ?_
        · exact l1 h155
        · rfl
    · exact absurd (z_lt h38 hi eQ (by omega) (by omega)) (by omega)
  | succ f ih =>
    intro c ij s4 v6 h4 hi hf
    subst hi
    have q7 := pc_le (nI c) 7
    refine z_iload (pc := 30) dX7_share_30 rfl ?_
    refine z_iconst (pc := 32) (v := 1) dX7_share_32 (by decide) ?_
    refine z_aload_n (pc := 33) dX7_share_33 rfl ?_
    refine z_getI (pc := 34) q_fX7_105 z_s59 rfl dX7_share_34 ?_
    refine z_ishl (pc := 37) dX7_share_37 ?_
    refine z_icmp_ge (pc := 38) (tgt := 140) dX7_share_38 (by decide) (fun h38 => ?_) (fun h38 => ?_)
    · exact absurd (z_ge h38 (show nI c = nI c from rfl) eQ (by omega) (by omega)) (by omega)
    · refine z_iload (pc := 41) dX7_share_41 rfl ?_
      refine z_iload_n (pc := 43) dX7_share_43 rfl ?_
      refine z_iconst (pc := 44) (v := (-1)) dX7_share_44 (by decide) ?_
      refine z_ixor (pc := 45) dX7_share_45 ?_
      refine z_iand (pc := 46) dX7_share_46 ?_
      refine z_if_ne (pc := 47) (tgt := 134) dX7_share_47 (by decide) (fun h47 => ?_) (fun h47 => ?_)
      · refine z_iinc (pc := 134) dX7_share_134 rfl rfl rfl (by decide) ?_
        refine z_goto (pc := 137) (tgt := 30) dX7_share_137 (by decide) ?_
        exact ih (c + 1) _ _ _ (by rw [hB c (fun q => h47 q.1)]; exact h4) (z_n1 rfl) (by omega)
      · refine z_iload_n (pc := 50) dX7_share_50 rfl ?_
        refine z_iload_n (pc := 51) dX7_share_51 rfl ?_
        refine z_cS2 (pc := 52) (c_X7_has rfl (by omega)) (q_cX7_119 _ (by decide)) rfl dX7_share_52 ?_
        refine z_if_eq (pc := 55) (tgt := 134) dX7_share_55 (by decide) (fun h55 => ?_) (fun h55 => ?_)
        · refine z_iinc (pc := 134) dX7_share_134 rfl rfl rfl (by decide) ?_
          refine z_goto (pc := 137) (tgt := 30) dX7_share_137 (by decide) ?_
          exact ih (c + 1) _ _ _ (by rw [hB c (fun q => absurd ((z_f h55).symm.trans q.2.1) (by decide))]; exact h4) (z_n1 rfl) (by omega)
        · refine z_iload (pc := 58) dX7_share_58 rfl ?_
          refine z_iload_n (pc := 60) dX7_share_60 rfl ?_
          refine z_cS2 (pc := 61) (c_X7_has rfl (by omega)) (q_cX7_119 _ (by decide)) rfl dX7_share_61 ?_
          refine z_if_ne (pc := 64) (tgt := 134) dX7_share_64 (by decide) (fun h64 => ?_) (fun h64 => ?_)
          · refine z_iinc (pc := 134) dX7_share_134 rfl rfl rfl (by decide) ?_
            refine z_goto (pc := 137) (tgt := 30) dX7_share_137 (by decide) ?_
            exact ih (c + 1) _ _ _ (by rw [hB c (fun q => absurd ((z_t h64).symm.trans q.2.2) (by decide))]; exact h4) (z_n1 rfl) (by omega)
          · have hC : shC sh k c := ⟨h47, z_t h55, z_f h64⟩
            have hlt := shC_lt hk hC
            have eI : nI (pc 7 sh) - 1 - nI (pc 7 (nI c)) = nI (pc 7 sh - 1 - pc 7 (nI c)) := by rw [show (1 : Int32) = nI 1 from rfl, pk_sub (by omega), pk_sub (by omega)]
            have eA : prN (((em T.1 - 1) &&& (nI c ^^^ (-1))) &&& (em k ^^^ (-1))) T.2.1 T.2.2.1 T.1 6 = prN ((nI c ||| em k) ^^^ (-1)) T.2.1 T.2.2.1 T.1 6 := prN_cong2 (fun i hi => by rw [b_and, b_and, em1_bt hP7 hi, z_not _ (by omega), z_not _ (by omega), z_not _ (by omega), b_or]; cases bt (nI c) i <;> cases bt (em k) i <;> rfl) 6
            have eB : prN ((em T.1 - 1) &&& (nI c ^^^ (-1))) T.2.1 T.2.2.1 T.1 6 = prN (nI c ^^^ (-1)) T.2.1 T.2.2.1 T.1 6 := prN_cong2 (fun i hi => by rw [b_and, em1_bt hP7 hi, Bool.true_and]) 6
            refine z_iload (pc := 67) dX7_share_67 rfl ?_
            refine z_cS1 (pc := 69) c_X7_ones (q_cX7_137 _ (by decide)) rfl dX7_share_69 ?_
            refine z_cS1 (pc := 72) (c_X7_factorial (by omega)) (q_cX7_199 _ (by decide)) rfl dX7_share_72 ?_
            refine z_iload_n (pc := 75) dX7_share_75 rfl ?_
            refine z_cS1 (pc := 76) c_X7_ones (q_cX7_137 _ (by decide)) rfl dX7_share_76 ?_
            refine z_iconst (pc := 79) (v := 1) dX7_share_79 (by decide) ?_
            refine z_isub (pc := 80) dX7_share_80 ?_
            refine z_iload (pc := 81) dX7_share_81 rfl ?_
            refine z_cS1 (pc := 83) c_X7_ones (q_cX7_137 _ (by decide)) rfl dX7_share_83 ?_
            refine z_isub (pc := 86) dX7_share_86 ?_
            rw [eI]
            refine z_cS1 (pc := 87) (c_X7_factorial (by omega)) (q_cX7_199 _ (by decide)) rfl dX7_share_87 ?_
            refine z_imul (pc := 90) dX7_share_90 ?_
            refine z_istore (pc := 91) dX7_share_91 rfl (by decide) ?_
            refine z_iload (pc := 93) dX7_share_93 rfl ?_
            refine z_iload (pc := 95) dX7_share_95 rfl ?_
            refine z_aload_n (pc := 97) dX7_share_97 rfl ?_
            refine z_aload_n (pc := 98) dX7_share_98 rfl ?_
            refine z_cV0 (pc := 99) (c_X7_all hT) (q_cX7_177 _ (by decide)) z_s59 rfl rfl dX7_share_99 ?_
            refine z_iload (pc := 102) dX7_share_102 rfl ?_
            refine z_iconst (pc := 104) (v := (-1)) dX7_share_104 (by decide) ?_
            refine z_ixor (pc := 105) dX7_share_105 ?_
            refine z_iand (pc := 106) dX7_share_106 ?_
            refine z_iconst (pc := 107) (v := 1) dX7_share_107 (by decide) ?_
            refine z_iload_n (pc := 108) dX7_share_108 rfl ?_
            refine z_ishl (pc := 109) dX7_share_109 ?_
            refine z_iconst (pc := 110) (v := (-1)) dX7_share_110 (by decide) ?_
            refine z_ixor (pc := 111) dX7_share_111 ?_
            refine z_iand (pc := 112) dX7_share_112 ?_
            refine z_cV1 (pc := 113) (c_X7_pairsBy hT) (q_cX7_202 _ (by decide)) z_s59 rfl rfl dX7_share_113 ?_
            rw [show prN (((em T.1 - 1) &&& (nI c ^^^ (-1))) &&& (((1 : Int32) <<< (nI k &&& 31)) ^^^ (-1))) T.2.1 T.2.2.1 T.1 6 = _ from eA]
            refine z_aload_n (pc := 116) dX7_share_116 rfl ?_
            refine z_aload_n (pc := 117) dX7_share_117 rfl ?_
            refine z_cV0 (pc := 118) (c_X7_all hT) (q_cX7_177 _ (by decide)) z_s59 rfl rfl dX7_share_118 ?_
            refine z_iload (pc := 121) dX7_share_121 rfl ?_
            refine z_iconst (pc := 123) (v := (-1)) dX7_share_123 (by decide) ?_
            refine z_ixor (pc := 124) dX7_share_124 ?_
            refine z_iand (pc := 125) dX7_share_125 ?_
            refine z_cV1 (pc := 126) (c_X7_pairsBy hT) (q_cX7_202 _ (by decide)) z_s59 rfl rfl dX7_share_126 ?_
            rw [eB]
            refine z_isub (pc := 129) dX7_share_129 ?_
            refine z_imul (pc := 130) dX7_share_130 ?_
            refine z_iadd (pc := 131) dX7_share_131 ?_
            rw [pk_sub (Nat.div_le_div_right (sh_mono hk)), nx_mul, nx_mul]
            refine z_istore (pc := 132) dX7_share_132 rfl (by decide) ?_
            refine z_iinc (pc := 134) dX7_share_134 rfl rfl rfl (by decide) ?_
            refine z_goto (pc := 137) (tgt := 30) dX7_share_137 (by decide) ?_
            exact ih (c + 1) _ _ _ (by rw [hA c hC, h4, nI_add]; rfl) (z_n1 rfl) (by omega)
set_option maxRecDepth 100000 in
set_option maxHeartbeats 400000 in
theorem o_X7_share_no {M : z_Mem} {l : Nat → Int32} {n : Nat} {T : TT} {U : UT} {D : DT} {p : PLt} {A : List PLt} {k0 k1 : Option PLt} {L : List (Int32 × Int32)} {sd : Int64} (hR : RM M l n T U D p A k0 k1 L sd) {x z : Int32} (h : pnB x T.1 = false) : z_Ct mX7_share [.ref 59, .int x, .int z] M (some (.int (-1))) M := by
  obtain ⟨rS, rT, rU, rD, rp, rA, r0, r1, rL, rs⟩ := id hR

  refine z_entry (by decide +kernel) (Nat.le_of_ble_eq_true rfl) rfl ?_
  show z_Sm mX7_share _ _ 0 [some (.ref 59), some (.int x), some (.int z), none, none, none, none] [] M
  refine z_aload_n (pc := 0) dX7_share_0 rfl ?_
  refine z_iload_n (pc := 1) dX7_share_1 rfl ?_
  refine z_cV1 (pc := 2) (c_X7_isPin rT) (q_cX7_146 _ (by decide)) z_s59 rfl rfl dX7_share_2 ?_
  refine z_if_ne (pc := 5) (tgt := 10) dX7_share_5 (by decide) (fun h5 => ?_) (fun h5 => ?_)
  · rw [h] at h5; exact absurd rfl h5
  · refine z_iconst (pc := 8) (v := (-1)) dX7_share_8 (by decide) ?_
    refine z_iret (pc := 9) rfl dX7_share_9 ?_ ?_
    · rfl
    · rfl
set_option maxRecDepth 100000 in
set_option maxHeartbeats 400000 in
theorem o_X7_share {M : z_Mem} {l : Nat → Int32} {n : Nat} {T : TT} {U : UT} {D : DT} {p : PLt} {A : List PLt} {k0 k1 : Option PLt} {L : List (Int32 × Int32)} {sd : Int64} (hR : RM M l n T U D p A k0 k1 L sd) {z : Int32} {k : Nat} (hx7 : k < T.1) : z_Ct mX7_share [.ref 59, .int (nI k), .int z] M (some (.int (shR T p.1 z k))) M := by
  obtain ⟨rS, rT, rU, rD, rp, rA, r0, r1, rL, rs⟩ := id hR
  have hP7 := rT.2.1
  have e0 : M.1 68 0 = p.1 := rp.1
  have hk : k < 7 := by omega
  obtain ⟨-, e1, e2⟩ := emP T.1 hP7
  have h := pnB_nI (b := k) (by omega) hP7
  rw [decide_eq_true hx7] at h
  have p7 := pc_le (shF T p.1) 7
  have fin : z_Sm mX7_share (some (.int (shR T p.1 z k))) M 30 [some (.ref 59), some (.int (nI k)), some (.int z), some (.int (shF T p.1)), some (.int 0), some (.int 0), none] [] M := by
    rw [shR]
    by_cases hs : bt (shF T p.1) k = false
    · rw [if_pos hs]
      have e : ltF z 0 1 = ltF z 0 (fa (pc 7 (shF T p.1))) := by
        have f2 := fa_1 (pc 7 (shF T p.1)) (by omega)
        rw [ltF, ltF, Nat.gcd_zero_left, Nat.gcd_zero_left, Nat.max_eq_right f2, Nat.max_self]
        by_cases q : z = 0
        · rw [if_pos q, if_pos q, Nat.div_self f2]
        · rw [if_neg q, if_neg q, Nat.zero_div, Nat.zero_div]
      rw [e]
      exact s_X7_share_30 rT hk (s := fun _ => 0) (fun c hc => absurd (hs.symm.trans hc.2.1) (by decide)) (fun _ _ => rfl) (by decide) (2 ^ T.1) 0 0 0 none rfl rfl (by omega)
    · rw [if_neg hs]
      have hs := z_nb hs
      have hsm := shS_small (T := T) hk hs rfl (2 ^ T.1)
      exact s_X7_share_30 rT hk (s := shS T k (pc 7 (shF T p.1)) (shF T p.1 &&& (em k ^^^ (-1)))) (fun c hc => by rw [shS, if_pos ((shC_ot hk hs rfl).mpr hc)]; rfl) (fun c hc => by rw [shS, if_neg (fun q => hc ((shC_ot hk hs rfl).mp q))]) (by omega) (2 ^ T.1) 0 0 0 none rfl rfl (by omega)

  refine z_entry (by decide +kernel) (Nat.le_of_ble_eq_true rfl) rfl ?_
  show z_Sm mX7_share _ _ 0 [some (.ref 59), some (.int (nI k)), some (.int z), none, none, none, none] [] M
  refine z_aload_n (pc := 0) dX7_share_0 rfl ?_
  refine z_iload_n (pc := 1) dX7_share_1 rfl ?_
  refine z_cV1 (pc := 2) (c_X7_isPin rT) (q_cX7_146 _ (by decide)) z_s59 rfl rfl dX7_share_2 ?_
  refine z_if_ne (pc := 5) (tgt := 10) dX7_share_5 (by decide) (fun h5 => ?_) (fun h5 => ?_)
  · refine z_aload_n (pc := 10) dX7_share_10 rfl ?_
    refine z_cV0 (pc := 11) (c_X7_all rT) (q_cX7_177 _ (by decide)) z_s59 rfl rfl dX7_share_11 ?_
    refine z_aload_n (pc := 14) dX7_share_14 rfl ?_
    refine z_getR (pc := 15) 68 q_fX7_34 z_s59 rfl dX7_share_15 ?_
    refine z_iconst (pc := 18) (v := 0) dX7_share_18 (by decide) ?_
    refine z_iald (pc := 19) (0) z_s68 ⟨rfl, by omega⟩ dX7_share_19 ?_
    rw [e0]
    refine z_iconst (pc := 20) (v := (-1)) dX7_share_20 (by decide) ?_
    refine z_ixor (pc := 21) dX7_share_21 ?_
    refine z_iand (pc := 22) dX7_share_22 ?_
    refine z_istore_n (pc := 23) dX7_share_23 rfl (by decide) ?_
    refine z_iconst (pc := 24) (v := 0) dX7_share_24 (by decide) ?_
    refine z_istore (pc := 25) dX7_share_25 rfl (by decide) ?_
    refine z_iconst (pc := 27) (v := 0) dX7_share_27 (by decide) ?_
    refine z_istore (pc := 28) dX7_share_28 rfl (by decide) ?_
    exact fin
  · rw [h] at h5; exact absurd h5 (by decide)
