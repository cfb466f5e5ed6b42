theorem pc_mono {x y : Int32} (h : ∀ i, bt x i = true → bt y i = true) : ∀ n, pc n x ≤ pc n y
  | 0 => Nat.le_refl 0
  | n + 1 => by
    have ih := pc_mono h n
    show pc n x + (bt x n).toNat ≤ pc n y + (bt y n).toNat
    cases e : bt x n
    · simp; omega
    · rw [h n e]; omega
theorem pc_lt {x y : Int32} {k : Nat} (h : ∀ i, bt x i = true → bt y i = true) (h1 : bt x k = false) (h2 : bt y k = true) : ∀ n, k < n → pc n x + 1 ≤ pc n y
  | 0, q => absurd q (Nat.not_lt_zero k)
  | n + 1, q => by
    show pc n x + (bt x n).toNat + 1 ≤ pc n y + (bt y n).toNat
    by_cases e : k = n
    · subst e
      have := pc_mono h k
      rw [h1, h2]; simp; omega
    · have ih := pc_lt h h1 h2 n (by omega)
      cases e2 : bt x n
      · simp; omega
      · rw [h n e2]; omega
theorem sub_bt {x y : Int32} (h : x &&& (y ^^^ (-1)) = 0) : ∀ i, bt x i = true → bt y i = true := by
  intro i hi
  by_cases h32 : i < 32
  · have e : bt (x &&& (y ^^^ (-1))) i = false := by rw [h]; exact b_0 i
    rw [b_and, z_not y h32, hi] at e
    cases e2 : bt y i
    · rw [e2] at e; cases e
    · rfl
  · rw [b_big (by omega)] at hi; cases hi
theorem rIn_anti {o o2 : Int32} {a b : Nat → Nat} (h : ∀ k, bt o2 k = true → bt o k = true) {x x2 : Int32} (hx : ∀ i, bt x i = true → bt x2 i = true) : ∀ n i, bt (rIn o a b n x) i = true → bt (rIn o2 a b n x2) i = true
  | 0, i, hi => hx i hi
  | n + 1, i, hi => by
    have ih := rIn_anti (a := a) (b := b) h hx n
    rw [rIn] at hi
    rw [rIn]
    split at hi
    · next q =>
      have q1 : bt o2 n = false := by
        cases e : bt o2 n
        · rfl
        · rw [h n e] at q; cases q.1
      rw [if_pos ⟨q1, q.2.imp (ih _) (ih _)⟩]
      rw [b_or] at hi ⊢
      cases e : bt (rIn o a b n x) i
      · rw [e] at hi
        rw [Bool.false_or] at hi
        rw [hi, Bool.or_true]
      · rw [ih i e, Bool.true_or]
    · split
      · rw [b_or, ih i hi, Bool.true_or]
      · exact ih i hi
theorem rOut_anti {o o2 : Int32} {a b : Nat → Nat} {P : Nat} (h : ∀ k, bt o2 k = true → bt o k = true) {x : Int32} : ∀ n i, bt (rOut o a b P n x) i = true → bt (rOut o2 a b P n x) i = true
  | 0, _, hi => hi
  | n + 1, i, hi => rIn_anti h (rOut_anti h n) P i hi
theorem prN_anti {o o2 : Int32} {a b : Nat → Nat} {P : Nat} (h : ∀ k, bt o2 k = true → bt o k = true) : ∀ n, prN o a b P n ≤ prN o2 a b P n
  | 0 => Nat.le_refl 0
  | n + 1 => Nat.add_le_add (prN_anti h n) (Nat.sub_le_sub_right (pc_mono (rOut_anti h 5) 7) 1)
theorem pw7 {x e : Nat} (hx : x ≤ 10) (he : e ≤ 7) : x ^ e ≤ 10 ^ 7 := Nat.le_trans (Nat.pow_le_pow_left hx e) (Nat.pow_le_pow_right (by decide) he)
/-- the shut pins -/
def shF (T : TT) (o : Int32) : Int32 := (em T.1 - 1) &&& (o ^^^ (-1))
theorem shF_sm {T : TT} (hP : T.1 ≤ 7) (o : Int32) : sm7 (shF T o) := by
  obtain ⟨e, _, h⟩ := emP T.1 hP
  unfold shF
  rw [e]
  exact sm7_and (sm7_of (by omega))
def giF (T : TT) (o sh : Int32) (t u w : Nat) : Nat → Nat
  | 0 => 0
  | c + 1 => if nI c &&& (sh ^^^ (-1)) = 0 ∧ tog (o ||| nI c) T.2.1 T.2.2.1 T.1 t u = true then giF T o sh t u w c + w ^ pc 7 (nI c) * (10 - w) ^ pc 7 (sh &&& (nI c ^^^ (-1))) else giF T o sh t u w c
theorem giF_le {T : TT} {o sh : Int32} {t u w : Nat} (hw : w ≤ 10) : ∀ c, giF T o sh t u w c ≤ c * 10 ^ 14
  | 0 => Nat.zero_le _
  | c + 1 => by
    have ih := giF_le (T := T) (o := o) (sh := sh) (t := t) (u := u) hw c
    have h1 := Nat.mul_le_mul (pw7 hw (pc_le (nI c) 7)) (pw7 (show 10 - w ≤ 10 by omega) (pc_le (sh &&& (nI c ^^^ (-1))) 7))
    have h2 : (10 : Nat) ^ 7 * 10 ^ 7 = 10 ^ 14 := by decide
    rw [giF]
    split
    · rw [Nat.succ_mul]; exact Nat.add_le_add ih (Nat.le_trans h1 (Nat.le_of_eq h2))
    · rw [Nat.succ_mul]; exact Nat.le_trans ih (Nat.le_add_right _ _)
set_option maxRecDepth 100000 in
set_option maxHeartbeats 400000 in
theorem s_X6_gives_65 {M : z_Mem} {T : TT} (hT : TK M T) {x y z x5 sh o : Int32} {t u w W : Nat} (hx : x = nI t) (hy : y = nI u) (hu : u < 6) (hw : w ≤ 10) (hs : sm7 sh) (ho : M.1 14 0 = o) (hW : W < 2 ^ 60) : ∀ (f c : Nat) (G : Int64) (ij : Int32) (v12 : Option Value), G = lN (giF T o sh t u w c) → ij = nI c → c + f = 2 ^ T.1 → z_Sm mX6_gives (some (.int (ltF z (giF T o sh t u w (2 ^ T.1)) W))) M 65 [some (.ref 0), some (.int x), some (.int y), some (.int (nI w)), some (.int z), some (.int x5), some (.int sh), some (.long (lN W)), none, some (.long G), none, some (.int ij), v12] [] M := by
  obtain ⟨eP, e1, e2⟩ := emP T.1 hT.1.2.1
  have h10 : (10 : Int32) - nI w = nI (10 - w) := pk_sub (a := 10) hw
  intro f
  induction f with
  | zero =>
    intro c G ij v12 hG hi hf
    have hcN : c = 2 ^ T.1 := by omega
    have hG60 : giF T o sh t u w (2 ^ T.1) < 2 ^ 60 := by
      have := giF_le (T := T) (o := o) (sh := sh) (t := t) (u := u) hw (2 ^ T.1)
      have h3 : 2 ^ T.1 * 10 ^ 14 ≤ 128 * 10 ^ 14 := Nat.mul_le_mul_right _ e2
      omega
    refine z_iload (pc := 65) dX6_gives_65 rfl ?_
    refine z_aload_n (pc := 67) dX6_gives_67 rfl ?_
    refine z_getR (pc := 68) 3 q_fX6_19 z_s0 rfl dX6_gives_68 ?_
    refine z_cV0 (pc := 71) (c_X4_allPins hT.1.1) (q_cX6_184 _ (by decide)) z_s3 rfl rfl dX6_gives_71 ?_
    refine z_icmp_gt (pc := 74) (tgt := 151) dX6_gives_74 (by decide) (fun h74 => ?_) (fun h74 => ?_)
    · refine z_lload (pc := 151) dX6_gives_151 rfl ?_
      refine z_lload (pc := 153) dX6_gives_153 rfl ?_
      refine z_iload (pc := 155) dX6_gives_155 rfl ?_
      rw [hG, hcN]
      refine z_cS3 (pc := 157) (c_X6_inLeastTerms hG60 hW) (q_cX6_218 _ (by decide)) rfl dX6_gives_157 ?_
      refine z_iret (pc := 160) rfl dX6_gives_160 ?_ ?_
      · rfl
      · rfl
    · exact absurd (z_ngt h74 hi eP (by omega) (by omega)) (by omega)
  | succ f ih =>
    intro c G ij v12 hG hi hf
    have hc7 : sm7 ij := by rw [hi]; exact sm7_of (by omega)
    refine z_iload (pc := 65) dX6_gives_65 rfl ?_
    refine z_aload_n (pc := 67) dX6_gives_67 rfl ?_
    refine z_getR (pc := 68) 3 q_fX6_19 z_s0 rfl dX6_gives_68 ?_
    refine z_cV0 (pc := 71) (c_X4_allPins hT.1.1) (q_cX6_184 _ (by decide)) z_s3 rfl rfl dX6_gives_71 ?_
    refine z_icmp_gt (pc := 74) (tgt := 151) dX6_gives_74 (by decide) (fun h74 => ?_) (fun h74 => ?_)
    · exact absurd (z_gt h74 hi eP (by omega) (by omega)) (by omega)
    · refine z_iload (pc := 77) dX6_gives_77 rfl ?_
      refine z_iload (pc := 79) dX6_gives_79 rfl ?_
      refine z_iconst (pc := 81) (v := (-1)) dX6_gives_81 (by decide) ?_
      refine z_ixor (pc := 82) dX6_gives_82 ?_
      refine z_iand (pc := 83) dX6_gives_83 ?_
      refine z_if_ne (pc := 84) (tgt := 145) dX6_gives_84 (by decide) (fun h84 => ?_) (fun h84 => ?_)
      · refine z_iinc (pc := 145) dX6_gives_145 rfl rfl rfl (by decide) ?_
        refine z_goto (pc := 148) (tgt := 65) dX6_gives_148 (by decide) ?_
        exact ih (c + 1) _ _ _ (by rw [hG, giF, if_neg (fun q => h84 (by rw [hi]; exact q.1))]) (z_n1 hi) (by omega)
      · refine z_aload_n (pc := 87) dX6_gives_87 rfl ?_
        refine z_getR (pc := 88) 3 q_fX6_19 z_s0 rfl dX6_gives_88 ?_
        refine z_iload_n (pc := 91) dX6_gives_91 rfl ?_
        refine z_iload_n (pc := 92) dX6_gives_92 rfl ?_
        refine z_aload_n (pc := 93) dX6_gives_93 rfl ?_
        refine z_getR (pc := 94) 14 q_fX6_35 z_s0 rfl dX6_gives_94 ?_
        refine z_getI (pc := 97) q_fX6_135 z_s14 rfl dX6_gives_97 ?_
        refine z_iload (pc := 100) dX6_gives_100 rfl ?_
        refine z_ior (pc := 102) dX6_gives_102 ?_
        refine z_cV3 (pc := 103) (c_X4_areTogether hT.1 hx hy hu) (q_cX6_191 _ (by decide)) z_s3 rfl rfl dX6_gives_103 ?_
        refine z_if_eq (pc := 106) (tgt := 145) dX6_gives_106 (by decide) (fun h106 => ?_) (fun h106 => ?_)
        · refine z_iinc (pc := 145) dX6_gives_145 rfl rfl rfl (by decide) ?_
          refine z_goto (pc := 148) (tgt := 65) dX6_gives_148 (by decide) ?_
          have h106 := z_f h106
          rw [ho, hi] at h106
          exact ih (c + 1) _ _ _ (by rw [hG, giF, if_neg (fun q => by rw [h106] at q; cases q.2)]) (z_n1 hi) (by omega)
        · refine z_iload (pc := 109) dX6_gives_109 rfl ?_
          refine z_iload (pc := 111) dX6_gives_111 rfl ?_
          refine z_iconst (pc := 113) (v := (-1)) dX6_gives_113 (by decide) ?_
          refine z_ixor (pc := 114) dX6_gives_114 ?_
          refine z_iand (pc := 115) dX6_gives_115 ?_
          refine z_cS1 (pc := 116) (c_J6_bitCount_0f7a4 (sm7_and hs)) (q_cX6_156 _ (by decide)) rfl dX6_gives_116 ?_
          refine z_istore (pc := 119) dX6_gives_119 rfl (by decide) ?_
          refine z_lload (pc := 121) dX6_gives_121 rfl ?_
          refine z_iload_n (pc := 123) dX6_gives_123 rfl ?_
          refine z_iload (pc := 124) dX6_gives_124 rfl ?_
          refine z_cS1 (pc := 126) (c_J6_bitCount_0f7a4 hc7) (q_cX6_156 _ (by decide)) rfl dX6_gives_126 ?_
          refine z_cS2 (pc := 129) (c_X6_power (x := w) (e := pc 7 ij) (by omega) (by have := pc_le ij 7; omega)) (q_cX6_236 _ (by decide)) rfl dX6_gives_129 ?_
          refine z_bipush (pc := 132) (v := 10) dX6_gives_132 (by decide) ?_
          refine z_iload_n (pc := 134) dX6_gives_134 rfl ?_
          refine z_isub (pc := 135) dX6_gives_135 ?_
          refine z_iload (pc := 136) dX6_gives_136 rfl ?_
          rw [h10]
          refine z_cS2 (pc := 138) (c_X6_power (x := 10 - w) (e := pc 7 (sh &&& (ij ^^^ (-1)))) (by omega) (by have := pc_le (sh &&& (ij ^^^ (-1))) 7; omega)) (q_cX6_236 _ (by decide)) rfl dX6_gives_138 ?_
          refine z_lmul (pc := 141) dX6_gives_141 ?_
          refine z_ladd (pc := 142) dX6_gives_142 ?_
          refine z_lstore (pc := 143) dX6_gives_143 rfl (by decide) ?_
          refine z_iinc (pc := 145) dX6_gives_145 rfl rfl rfl (by decide) ?_
          refine z_goto (pc := 148) (tgt := 65) dX6_gives_148 (by decide) ?_
          have h106 := z_t h106
          rw [ho, hi] at h106
          rw [hi] at h84
          exact ih (c + 1) _ _ _ (by rw [hG, giF, if_pos ⟨h84, h106⟩, lN_mul, lN_add, hi]) (z_n1 hi) (by omega)
def gvR (T : TT) (o z : Int32) (t u w : Nat) : Int32 := ltF z (giF T o (shF T o) t u w (2 ^ T.1)) (10 ^ pc 7 (shF T o))
set_option maxRecDepth 100000 in
set_option maxHeartbeats 400000 in
theorem o_X6_gives_no {M : z_Mem} {l : Nat → Int32} {n : Nat} {T : TT} {U : UT} {D : DT} {p : PLt} {A : List PLt} {k0 k1 : Option PLt} {L : List (Int32 × Int32)} {sd : Int64} (hR : RX M l n T U D p A k0 k1 L sd) {x y v z : Int32} (h : ¬ rfF x y = 0) : z_Ct mX6_gives [.ref 0, .int x, .int y, .int v, .int z] M (some (.int (rfF x y))) M := by
  obtain ⟨rS, rT, rU, rD, rp, rA, r0, r1, rL, rs⟩ := id hR

  refine z_entry (by decide +kernel) (Nat.le_of_ble_eq_true rfl) rfl ?_
  show z_Sm mX6_gives _ _ 0 [some (.ref 0), some (.int x), some (.int y), some (.int v), some (.int z), none, none, none, none, none, none, none, none] [] M
  refine z_iload_n (pc := 0) dX6_gives_0 rfl ?_
  refine z_iload_n (pc := 1) dX6_gives_1 rfl ?_
  refine z_cS2 (pc := 2) c_X6_refusalOfTwo (q_cX6_181 _ (by decide)) rfl dX6_gives_2 ?_
  refine z_istore (pc := 5) dX6_gives_5 rfl (by decide) ?_
  refine z_iload (pc := 7) dX6_gives_7 rfl ?_
  refine z_if_eq (pc := 9) (tgt := 15) dX6_gives_9 (by decide) (fun h9 => ?_) (fun h9 => ?_)
  · exact absurd h9 h
  · refine z_iload (pc := 12) dX6_gives_12 rfl ?_
    refine z_iret (pc := 14) rfl dX6_gives_14 ?_ ?_
    · rfl
    · rfl
set_option maxRecDepth 100000 in
set_option maxHeartbeats 400000 in
theorem o_X6_gives_no1 {M : z_Mem} {l : Nat → Int32} {n : Nat} {T : TT} {U : UT} {D : DT} {p : PLt} {A : List PLt} {k0 k1 : Option PLt} {L : List (Int32 × Int32)} {sd : Int64} (hR : RX M l n T U D p A k0 k1 L sd) {x y v z : Int32} (h : rfF x y = 0) (h2 : v < 0 ∨ 10 < v) : z_Ct mX6_gives [.ref 0, .int x, .int y, .int v, .int z] M (some (.int (-2))) M := by
  obtain ⟨rS, rT, rU, rD, rp, rA, r0, r1, rL, rs⟩ := id hR

  refine z_entry (by decide +kernel) (Nat.le_of_ble_eq_true rfl) rfl ?_
  show z_Sm mX6_gives _ _ 0 [some (.ref 0), some (.int x), some (.int y), some (.int v), some (.int z), none, none, none, none, none, none, none, none] [] M
  refine z_iload_n (pc := 0) dX6_gives_0 rfl ?_
  refine z_iload_n (pc := 1) dX6_gives_1 rfl ?_
  refine z_cS2 (pc := 2) c_X6_refusalOfTwo (q_cX6_181 _ (by decide)) rfl dX6_gives_2 ?_
  refine z_istore (pc := 5) dX6_gives_5 rfl (by decide) ?_
  refine z_iload (pc := 7) dX6_gives_7 rfl ?_
  refine z_if_eq (pc := 9) (tgt := 15) dX6_gives_9 (by decide) (fun h9 => ?_) (fun h9 => ?_)
  · refine z_iload_n (pc := 15) dX6_gives_15 rfl ?_
    refine z_if_lt (pc := 16) (tgt := 25) dX6_gives_16 (by decide) (fun h16 => ?_) (fun h16 => ?_)
    · refine z_bipush (pc := 25) (v := (-2)) dX6_gives_25 (by decide) ?_
      refine z_iret (pc := 27) rfl dX6_gives_27 ?_ ?_
      · rfl
      · rfl
    · refine z_iload_n (pc := 19) dX6_gives_19 rfl ?_
      refine z_bipush (pc := 20) (v := 10) dX6_gives_20 (by decide) ?_
      refine z_icmp_le (pc := 22) (tgt := 28) dX6_gives_22 (by decide) (fun h22 => ?_) (fun h22 => ?_)
      · exact absurd h2 (fun q => q.elim h16 (Int32.not_lt.mpr h22))
      · refine z_bipush (pc := 25) (v := (-2)) dX6_gives_25 (by decide) ?_
        refine z_iret (pc := 27) rfl dX6_gives_27 ?_ ?_
        · rfl
        · rfl
  · exact absurd h h9
set_option maxRecDepth 100000 in
set_option maxHeartbeats 400000 in
theorem o_X6_gives {M : z_Mem} {l : Nat → Int32} {n : Nat} {T : TT} {U : UT} {D : DT} {p : PLt} {A : List PLt} {k0 k1 : Option PLt} {L : List (Int32 × Int32)} {sd : Int64} (hR : RX M l n T U D p A k0 k1 L sd) {x y z : Int32} {w : Nat} (h : rfF x y = 0) (hw : w ≤ 10) : z_Ct mX6_gives [.ref 0, .int x, .int y, .int (nI w), .int z] M (some (.int (gvR T p.1 z x.toNatClampNeg y.toNatClampNeg w))) M := by
  obtain ⟨rS, rT, rU, rD, rp, rA, r0, r1, rL, rs⟩ := id hR
  obtain ⟨hx, hy, -⟩ := rf_at h
  have hx := thg_at hx
  have hy := thg_at hy
  have hP7 := rT.1.2.1
  have ho := rp.1
  have hp10 := pw7 (x := 10) (Nat.le_refl 10) (pc_le (shF T p.1) 7)

  refine z_entry (by decide +kernel) (Nat.le_of_ble_eq_true rfl) rfl ?_
  show z_Sm mX6_gives _ _ 0 [some (.ref 0), some (.int x), some (.int y), some (.int (nI w)), some (.int z), none, none, none, none, none, none, none, none] [] M
  refine z_iload_n (pc := 0) dX6_gives_0 rfl ?_
  refine z_iload_n (pc := 1) dX6_gives_1 rfl ?_
  refine z_cS2 (pc := 2) c_X6_refusalOfTwo (q_cX6_181 _ (by decide)) rfl dX6_gives_2 ?_
  refine z_istore (pc := 5) dX6_gives_5 rfl (by decide) ?_
  refine z_iload (pc := 7) dX6_gives_7 rfl ?_
  refine z_if_eq (pc := 9) (tgt := 15) dX6_gives_9 (by decide) (fun h9 => ?_) (fun h9 => ?_)
  · refine z_iload_n (pc := 15) dX6_gives_15 rfl ?_
    refine z_if_lt (pc := 16) (tgt := 25) dX6_gives_16 (by decide) (fun h16 => ?_) (fun h16 => ?_)
    · exact absurd h16 (nI_pos (by omega))
    · refine z_iload_n (pc := 19) dX6_gives_19 rfl ?_
      refine z_bipush (pc := 20) (v := 10) dX6_gives_20 (by decide) ?_
      refine z_icmp_le (pc := 22) (tgt := 28) dX6_gives_22 (by decide) (fun h22 => ?_) (fun h22 => ?_)
      · refine z_aload_n (pc := 28) dX6_gives_28 rfl ?_
        refine z_getR (pc := 29) 3 q_fX6_19 z_s0 rfl dX6_gives_29 ?_
        refine z_cV0 (pc := 32) (c_X4_allPins rT.1.1) (q_cX6_184 _ (by decide)) z_s3 rfl rfl dX6_gives_32 ?_
        refine z_aload_n (pc := 35) dX6_gives_35 rfl ?_
        refine z_getR (pc := 36) 14 q_fX6_35 z_s0 rfl dX6_gives_36 ?_
        refine z_getI (pc := 39) q_fX6_135 z_s14 rfl dX6_gives_39 ?_
        refine z_iconst (pc := 42) (v := (-1)) dX6_gives_42 (by decide) ?_
        refine z_ixor (pc := 43) dX6_gives_43 ?_
        refine z_iand (pc := 44) dX6_gives_44 ?_
        refine z_istore (pc := 45) dX6_gives_45 rfl (by decide) ?_
        refine z_bipush (pc := 47) (v := 10) dX6_gives_47 (by decide) ?_
        refine z_iload (pc := 49) dX6_gives_49 rfl ?_
        rw [ho]
        refine z_cS1 (pc := 51) (c_J6_bitCount_0f7a4 (shF_sm hP7 p.1)) (q_cX6_156 _ (by decide)) rfl dX6_gives_51 ?_
        refine z_cS2 (pc := 54) (c_X6_power (x := 10) (e := pc 7 (shF T p.1)) (by decide) (by have := pc_le (shF T p.1) 7; omega)) (q_cX6_236 _ (by decide)) rfl dX6_gives_54 ?_
        refine z_lstore (pc := 57) dX6_gives_57 rfl (by decide) ?_
        refine z_lconst (pc := 59) (v := 0) dX6_gives_59 (by decide) ?_
        refine z_lstore (pc := 60) dX6_gives_60 rfl (by decide) ?_
        refine z_iconst (pc := 62) (v := 0) dX6_gives_62 (by decide) ?_
        refine z_istore (pc := 63) dX6_gives_63 rfl (by decide) ?_
        exact s_X6_gives_65 rT hx.2 hy.2 hy.1 hw (shF_sm hP7 p.1) ho (by omega) _ 0 _ _ _ rfl rfl (Nat.zero_add _)
      · exact absurd (nI_le (b := 10) hw (by decide)) h22
  · exact absurd h h9
