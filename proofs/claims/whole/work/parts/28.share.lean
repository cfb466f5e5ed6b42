theorem nx_mul (a b : Nat) : nI a * nI b = nI (a * b) := (Int32.ofNat_mul a b).symm
def fa (n : Nat) : Nat := [1, 1, 2, 6, 24, 120, 720, 5040].getD n 0
theorem fa_at : ∀ n, n < 8 → z_FA.getD n 0 = nI (fa n) ∧ fa n ≤ 5040 := by decide +kernel
/-- the pairs that pin k brings together, over all orders of c comers -/
def shS (T : TT) (k c : Nat) (ot : Int32) : Nat → Nat
  | 0 => 0
  | n + 1 => if nI n &&& (ot ^^^ (-1)) = 0 then shS T k c ot n + fa (pc 7 (nI n)) * fa (c - 1 - pc 7 (nI n)) * (prN ((nI n ||| em k) ^^^ (-1)) T.2.1 T.2.2.1 T.1 6 / 2 - prN (nI n ^^^ (-1)) T.2.1 T.2.2.1 T.1 6 / 2) else shS T k c ot n
theorem shS_le {T : TT} {k c : Nat} {ot : Int32} (hc : c ≤ 7) : ∀ n, shS T k c ot n ≤ n * 533433600
  | 0 => Nat.zero_le _
  | n + 1 => by
    have ih := shS_le (T := T) (k := k) (ot := ot) hc n
    rw [shS]
    split
    · have h7 := pc_le (nI n) 7
      have f1 := (fa_at (pc 7 (nI n)) (by omega)).2
      have f2 := (fa_at (c - 1 - pc 7 (nI n)) (by omega)).2
      have f3 := Nat.mul_le_mul f1 f2
      have q := prN_le ((nI n ||| em k) ^^^ (-1)) T.2.1 T.2.2.1 T.1 6
      have f4 := Nat.mul_le_mul f3 (show prN ((nI n ||| em k) ^^^ (-1)) T.2.1 T.2.2.1 T.1 6 / 2 - prN (nI n ^^^ (-1)) T.2.1 T.2.2.1 T.1 6 / 2 ≤ 21 by omega)
      rw [Nat.succ_mul]
      exact Nat.add_le_add ih (Nat.le_trans f4 (by decide))
    · rw [Nat.succ_mul]; exact Nat.le_trans ih (Nat.le_add_right _ _)
set_option maxRecDepth 100000 in
set_option maxHeartbeats 400000 in
theorem s_X6_pairsBrought_15 {M : z_Mem} {T : TT} (hT : TK M T) {sh ot : Int32} {k : Nat} (hk : k < 7) (hs : bt sh k = true) (hot : ot = sh &&& (em k ^^^ (-1))) : ∀ (f c : Nat) (G : Int64) (ij : Int32) (v8 v9 v10 : Option Value), G = lN (shS T k (pc 7 sh) ot c) → ij = nI c → c + f = 2 ^ T.1 → z_Sm mX6_pairsBroughtInAllOrders (some (.long (lN (shS T k (pc 7 sh) ot (2 ^ T.1))))) M 15 [some (.ref 0), some (.int (nI k)), some (.int sh), some (.int (nI (pc 7 sh))), some (.int ot), some (.long G), none, some (.int ij), v8, v9, v10] [] M := by
  obtain ⟨eP, e1, e2⟩ := emP T.1 hT.1.2.1
  have hcs := pc_le sh 7
  intro f
  induction f with
  | zero =>
    intro c G ij v8 v9 v10 hG hi hf
    have hcN : c = 2 ^ T.1 := by omega
    refine z_iload (pc := 15) dX6_pairsBroughtInAllOrders_15 rfl ?_
    refine z_aload_n (pc := 17) dX6_pairsBroughtInAllOrders_17 rfl ?_
    refine z_getR (pc := 18) 3 q_fX6_19 z_s0 rfl dX6_pairsBroughtInAllOrders_18 ?_
    refine z_cV0 (pc := 21) (c_X4_allPins hT.1.1) (q_cX6_184 _ (by decide)) z_s3 rfl rfl dX6_pairsBroughtInAllOrders_21 ?_
    refine z_icmp_gt (pc := 24) (tgt := 110) dX6_pairsBroughtInAllOrders_24 (by decide) (fun h24 => ?_) (fun h24 => ?_)
    · refine z_lload (pc := 110) dX6_pairsBroughtInAllOrders_110 rfl ?_
      refine z_lret (pc := 112) rfl dX6_pairsBroughtInAllOrders_112 ?_ ?_
      · rw [hG, hcN]
      · rfl
    · exact absurd (z_ngt h24 hi eP (by omega) (by omega)) (by omega)
  | succ f ih =>
    intro c G ij v8 v9 v10 hG hi hf
    have hc7 : sm7 ij := by rw [hi]; exact sm7_of (by omega)
    refine z_iload (pc := 15) dX6_pairsBroughtInAllOrders_15 rfl ?_
    refine z_aload_n (pc := 17) dX6_pairsBroughtInAllOrders_17 rfl ?_
    refine z_getR (pc := 18) 3 q_fX6_19 z_s0 rfl dX6_pairsBroughtInAllOrders_18 ?_
    refine z_cV0 (pc := 21) (c_X4_allPins hT.1.1) (q_cX6_184 _ (by decide)) z_s3 rfl rfl dX6_pairsBroughtInAllOrders_21 ?_
    refine z_icmp_gt (pc := 24) (tgt := 110) dX6_pairsBroughtInAllOrders_24 (by decide) (fun h24 => ?_) (fun h24 => ?_)
    · exact absurd (z_gt h24 hi eP (by omega) (by omega)) (by omega)
    · refine z_iload (pc := 27) dX6_pairsBroughtInAllOrders_27 rfl ?_
      refine z_iload (pc := 29) dX6_pairsBroughtInAllOrders_29 rfl ?_
      refine z_iconst (pc := 31) (v := (-1)) dX6_pairsBroughtInAllOrders_31 (by decide) ?_
      refine z_ixor (pc := 32) dX6_pairsBroughtInAllOrders_32 ?_
      refine z_iand (pc := 33) dX6_pairsBroughtInAllOrders_33 ?_
      refine z_if_ne (pc := 34) (tgt := 104) dX6_pairsBroughtInAllOrders_34 (by decide) (fun h34 => ?_) (fun h34 => ?_)
      · refine z_iinc (pc := 104) dX6_pairsBroughtInAllOrders_104 rfl rfl rfl (by decide) ?_
        refine z_goto (pc := 107) (tgt := 15) dX6_pairsBroughtInAllOrders_107 (by decide) ?_
        exact ih (c + 1) _ _ _ _ _ (by rw [hG, shS, if_neg (fun q => h34 (by rw [hi]; exact q))]) (z_n1 hi) (by omega)
      · rw [hi] at h34
        have h34 : nI c &&& (ot ^^^ (-1)) = 0 := h34
        have hsub := sub_bt h34
        have hno : bt ot k = false := by rw [hot, b_and, z_not _ (by omega), em_bt (by omega) (by omega)]; simp
        have hck : bt (nI c) k = false := by
          cases e : bt (nI c) k
          · rfl
          · rw [hsub k e] at hno; cases hno
        have hlt : pc 7 ij + 1 ≤ pc 7 sh := by
          rw [hi]
          refine pc_lt (k := k) (fun i hi => ?_) hck hs 7 hk
          have := hsub i hi
          rw [hot, b_and] at this
          cases e : bt sh i
          · rw [e] at this; cases this
          · rfl
        have hI : nI (pc 7 sh) - 1 - nI (pc 7 ij) = nI (pc 7 sh - 1 - pc 7 ij) := by
          rw [show (1 : Int32) = nI 1 from rfl, pk_sub (by omega), pk_sub (by omega)]
        obtain ⟨fa1, fb1⟩ := fa_at (pc 7 ij) (by omega)
        obtain ⟨fa2, fb2⟩ := fa_at (pc 7 sh - 1 - pc 7 ij) (by omega)
        have fb3 := Nat.mul_le_mul fb1 fb2
        have hmo : prN (ij ^^^ (-1)) T.2.1 T.2.2.1 T.1 6 ≤ prN ((ij ||| em k) ^^^ (-1)) T.2.1 T.2.2.1 T.1 6 := by
          refine prN_anti (fun i hi => ?_) 6
          by_cases h32 : i < 32
          · rw [z_not _ h32, b_or] at hi
            rw [z_not _ h32]
            cases e : bt ij i
            · rfl
            · rw [e] at hi; cases hi
          · rw [b_big (by omega)] at hi; cases hi
        have hpl := prN_le ((ij ||| em k) ^^^ (-1)) T.2.1 T.2.2.1 T.1 6
        refine z_iload (pc := 37) dX6_pairsBroughtInAllOrders_37 rfl ?_
        refine z_cS1 (pc := 39) (c_J6_bitCount_0f7a4 hc7) (q_cX6_156 _ (by decide)) rfl dX6_pairsBroughtInAllOrders_39 ?_
        refine z_istore (pc := 42) dX6_pairsBroughtInAllOrders_42 rfl (by decide) ?_
        refine z_getFA (pc := 44) q_sX6_226 dX6_pairsBroughtInAllOrders_44 ?_
        refine z_iload (pc := 47) dX6_pairsBroughtInAllOrders_47 rfl ?_
        refine z_ialdFA (pc := 49) (pc 7 ij) ⟨rfl, by have := pc_le ij 7; omega⟩ dX6_pairsBroughtInAllOrders_49 ?_
        refine z_getFA (pc := 50) q_sX6_226 dX6_pairsBroughtInAllOrders_50 ?_
        refine z_iload_n (pc := 53) dX6_pairsBroughtInAllOrders_53 rfl ?_
        refine z_iconst (pc := 54) (v := 1) dX6_pairsBroughtInAllOrders_54 (by decide) ?_
        refine z_isub (pc := 55) dX6_pairsBroughtInAllOrders_55 ?_
        refine z_iload (pc := 56) dX6_pairsBroughtInAllOrders_56 rfl ?_
        refine z_isub (pc := 58) dX6_pairsBroughtInAllOrders_58 ?_
        refine z_ialdFA (pc := 59) (pc 7 sh - 1 - pc 7 ij) ⟨hI, by omega⟩ dX6_pairsBroughtInAllOrders_59 ?_
        refine z_imul (pc := 60) dX6_pairsBroughtInAllOrders_60 ?_
        refine z_istore (pc := 61) dX6_pairsBroughtInAllOrders_61 rfl (by decide) ?_
        refine z_aload_n (pc := 63) dX6_pairsBroughtInAllOrders_63 rfl ?_
        refine z_getR (pc := 64) 3 q_fX6_19 z_s0 rfl dX6_pairsBroughtInAllOrders_64 ?_
        refine z_iload (pc := 67) dX6_pairsBroughtInAllOrders_67 rfl ?_
        refine z_iconst (pc := 69) (v := 1) dX6_pairsBroughtInAllOrders_69 (by decide) ?_
        refine z_iload_n (pc := 70) dX6_pairsBroughtInAllOrders_70 rfl ?_
        refine z_ishl (pc := 71) dX6_pairsBroughtInAllOrders_71 ?_
        refine z_ior (pc := 72) dX6_pairsBroughtInAllOrders_72 ?_
        refine z_iconst (pc := 73) (v := (-1)) dX6_pairsBroughtInAllOrders_73 (by decide) ?_
        refine z_ixor (pc := 74) dX6_pairsBroughtInAllOrders_74 ?_
        refine z_cV1 (pc := 75) (c_X4_pairsTogether hT.1) (q_cX6_250 _ (by decide)) z_s3 rfl rfl dX6_pairsBroughtInAllOrders_75 ?_
        refine z_istore (pc := 78) dX6_pairsBroughtInAllOrders_78 rfl (by decide) ?_
        refine z_lload (pc := 80) dX6_pairsBroughtInAllOrders_80 rfl ?_
        refine z_iload (pc := 82) dX6_pairsBroughtInAllOrders_82 rfl ?_
        refine z_i2l (pc := 84) dX6_pairsBroughtInAllOrders_84 rfl ?_
        refine z_iload (pc := 85) dX6_pairsBroughtInAllOrders_85 rfl ?_
        refine z_aload_n (pc := 87) dX6_pairsBroughtInAllOrders_87 rfl ?_
        refine z_getR (pc := 88) 3 q_fX6_19 z_s0 rfl dX6_pairsBroughtInAllOrders_88 ?_
        refine z_iload (pc := 91) dX6_pairsBroughtInAllOrders_91 rfl ?_
        refine z_iconst (pc := 93) (v := (-1)) dX6_pairsBroughtInAllOrders_93 (by decide) ?_
        refine z_ixor (pc := 94) dX6_pairsBroughtInAllOrders_94 ?_
        refine z_cV1 (pc := 95) (c_X4_pairsTogether hT.1) (q_cX6_250 _ (by decide)) z_s3 rfl rfl dX6_pairsBroughtInAllOrders_95 ?_
        refine z_isub (pc := 98) dX6_pairsBroughtInAllOrders_98 ?_
        refine z_i2l (pc := 99) dX6_pairsBroughtInAllOrders_99 rfl ?_
        refine z_lmul (pc := 100) dX6_pairsBroughtInAllOrders_100 ?_
        refine z_ladd (pc := 101) dX6_pairsBroughtInAllOrders_101 ?_
        refine z_lstore (pc := 102) dX6_pairsBroughtInAllOrders_102 rfl (by decide) ?_
        refine z_iinc (pc := 104) dX6_pairsBroughtInAllOrders_104 rfl rfl rfl (by decide) ?_
        refine z_goto (pc := 107) (tgt := 15) dX6_pairsBroughtInAllOrders_107 (by decide) ?_
        refine ih (c + 1) _ _ _ _ _ ?_ (z_n1 hi) (by omega)
        rw [fa1, fa2, show nI (fa (pc 7 ij)) * nI (fa (pc 7 sh - 1 - pc 7 ij)) = nI (fa (pc 7 ij) * fa (pc 7 sh - 1 - pc 7 ij)) from nx_mul _ _, nI_l (by omega)]
        rw [show nI (prN ((ij ||| (1 : Int32) <<< (nI k &&& 31)) ^^^ (-1)) T.2.1 T.2.2.1 T.1 6 / 2) = nI (prN ((ij ||| em k) ^^^ (-1)) T.2.1 T.2.2.1 T.1 6 / 2) from rfl]
        rw [pk_sub (Nat.div_le_div_right hmo), nI_l (by omega), lN_mul, hG, lN_add, shS, if_pos h34, hi]
set_option maxRecDepth 100000 in
set_option maxHeartbeats 400000 in
theorem c_X6_pairsBroughtInAllOrders {M : z_Mem} {T : TT} (hT : TK M T) {sh : Int32} {k : Nat} (hk : k < 7) (hs : bt sh k = true) : z_Ct mX6_pairsBroughtInAllOrders [.ref 0, .int (nI k), .int sh, .int (nI (pc 7 sh))] M (some (.long (lN (shS T k (pc 7 sh) (sh &&& (em k ^^^ (-1))) (2 ^ T.1))))) M := by
  refine z_entry (by decide +kernel) (Nat.le_of_ble_eq_true rfl) rfl ?_
  show z_Sm mX6_pairsBroughtInAllOrders _ _ 0 [some (.ref 0), some (.int (nI k)), some (.int sh), some (.int (nI (pc 7 sh))), none, none, none, none, none, none, none] [] M
  refine z_iload_n (pc := 0) dX6_pairsBroughtInAllOrders_0 rfl ?_
  refine z_iconst (pc := 1) (v := 1) dX6_pairsBroughtInAllOrders_1 (by decide) ?_
  refine z_iload_n (pc := 2) dX6_pairsBroughtInAllOrders_2 rfl ?_
  refine z_ishl (pc := 3) dX6_pairsBroughtInAllOrders_3 ?_
  refine z_iconst (pc := 4) (v := (-1)) dX6_pairsBroughtInAllOrders_4 (by decide) ?_
  refine z_ixor (pc := 5) dX6_pairsBroughtInAllOrders_5 ?_
  refine z_iand (pc := 6) dX6_pairsBroughtInAllOrders_6 ?_
  refine z_istore (pc := 7) dX6_pairsBroughtInAllOrders_7 rfl (by decide) ?_
  refine z_lconst (pc := 9) (v := 0) dX6_pairsBroughtInAllOrders_9 (by decide) ?_
  refine z_lstore (pc := 10) dX6_pairsBroughtInAllOrders_10 rfl (by decide) ?_
  refine z_iconst (pc := 12) (v := 0) dX6_pairsBroughtInAllOrders_12 (by decide) ?_
  refine z_istore (pc := 13) dX6_pairsBroughtInAllOrders_13 rfl (by decide) ?_
  exact s_X6_pairsBrought_15 hT hk hs rfl _ 0 _ _ _ _ _ rfl rfl (Nat.zero_add _)
def shR (T : TT) (o z : Int32) (k : Nat) : Int32 := if bt (shF T o) k = false then ltF z 0 1 else ltF z (shS T k (pc 7 (shF T o)) (shF T o &&& (em k ^^^ (-1))) (2 ^ T.1)) (fa (pc 7 (shF T o)))
set_option maxRecDepth 100000 in
set_option maxHeartbeats 400000 in
theorem o_X6_share_no {M : z_Mem} {l : Nat → Int32} {n : Nat} {T : TT} {U : UT} {D : DT} {p : PLt} {A : List PLt} {k0 k1 : Option PLt} {L : List (Int32 × Int32)} {sd : Int64} (hR : RX M l n T U D p A k0 k1 L sd) {x z : Int32} (h : pnB x T.1 = false) : z_Ct mX6_share [.ref 0, .int x, .int z] M (some (.int (-1))) M := by
  obtain ⟨rS, rT, rU, rD, rp, rA, r0, r1, rL, rs⟩ := id hR

  refine z_entry (by decide +kernel) (Nat.le_of_ble_eq_true rfl) rfl ?_
  show z_Sm mX6_share _ _ 0 [some (.ref 0), some (.int x), some (.int z), none, none] [] M
  refine z_aload_n (pc := 0) dX6_share_0 rfl ?_
  refine z_iload_n (pc := 1) dX6_share_1 rfl ?_
  refine z_cV1 (pc := 2) (c_X6_isPin rT.1.1) (q_cX6_106 _ (by decide)) z_s0 rfl rfl dX6_share_2 ?_
  refine z_if_ne (pc := 5) (tgt := 10) dX6_share_5 (by decide) (fun h5 => ?_) (fun h5 => ?_)
  · rw [h] at h5; exact absurd rfl h5
  · refine z_iconst (pc := 8) (v := (-1)) dX6_share_8 (by decide) ?_
    refine z_iret (pc := 9) rfl dX6_share_9 ?_ ?_
    · rfl
    · rfl
set_option maxRecDepth 100000 in
set_option maxHeartbeats 400000 in
theorem o_X6_share {M : z_Mem} {l : Nat → Int32} {n : Nat} {T : TT} {U : UT} {D : DT} {p : PLt} {A : List PLt} {k0 k1 : Option PLt} {L : List (Int32 × Int32)} {sd : Int64} (hR : RX M l n T U D p A k0 k1 L sd) {z : Int32} {k : Nat} (hx7 : k < T.1) : z_Ct mX6_share [.ref 0, .int (nI k), .int z] M (some (.int (shR T p.1 z k))) M := by
  obtain ⟨rS, rT, rU, rD, rp, rA, r0, r1, rL, rs⟩ := id hR
  have hP7 := rT.1.2.1
  have h : pnB (nI k) T.1 = true := by rw [pnB_nI (by omega) hP7]; exact decide_eq_true hx7
  have ho := rp.1
  obtain ⟨eP, e1, e2⟩ := emP T.1 hP7
  have hcs := pc_le (shF T p.1) 7
  obtain ⟨fa1, fb1⟩ := fa_at (pc 7 (shF T p.1)) (by omega)
  have hS := shS_le (T := T) (k := k) (ot := shF T p.1 &&& (em k ^^^ (-1))) hcs (2 ^ T.1)

  refine z_entry (by decide +kernel) (Nat.le_of_ble_eq_true rfl) rfl ?_
  show z_Sm mX6_share _ _ 0 [some (.ref 0), some (.int (nI k)), some (.int z), none, none] [] M
  refine z_aload_n (pc := 0) dX6_share_0 rfl ?_
  refine z_iload_n (pc := 1) dX6_share_1 rfl ?_
  refine z_cV1 (pc := 2) (c_X6_isPin rT.1.1) (q_cX6_106 _ (by decide)) z_s0 rfl rfl dX6_share_2 ?_
  refine z_if_ne (pc := 5) (tgt := 10) dX6_share_5 (by decide) (fun h5 => ?_) (fun h5 => ?_)
  · refine z_aload_n (pc := 10) dX6_share_10 rfl ?_
    refine z_getR (pc := 11) 3 q_fX6_19 z_s0 rfl dX6_share_11 ?_
    refine z_cV0 (pc := 14) (c_X4_allPins rT.1.1) (q_cX6_184 _ (by decide)) z_s3 rfl rfl dX6_share_14 ?_
    refine z_aload_n (pc := 17) dX6_share_17 rfl ?_
    refine z_getR (pc := 18) 14 q_fX6_35 z_s0 rfl dX6_share_18 ?_
    refine z_getI (pc := 21) q_fX6_135 z_s14 rfl dX6_share_21 ?_
    refine z_iconst (pc := 24) (v := (-1)) dX6_share_24 (by decide) ?_
    refine z_ixor (pc := 25) dX6_share_25 ?_
    refine z_iand (pc := 26) dX6_share_26 ?_
    refine z_istore_n (pc := 27) dX6_share_27 rfl (by decide) ?_
    rw [ho]
    refine z_iload_n (pc := 28) dX6_share_28 rfl ?_
    refine z_iconst (pc := 29) (v := 1) dX6_share_29 (by decide) ?_
    refine z_iload_n (pc := 30) dX6_share_30 rfl ?_
    refine z_ishl (pc := 31) dX6_share_31 ?_
    refine z_iand (pc := 32) dX6_share_32 ?_
    refine z_if_ne (pc := 33) (tgt := 43) dX6_share_33 (by decide) (fun h33 => ?_) (fun h33 => ?_)
    · have hbk : bt (shF T p.1) k = true := by
        cases e : bt (shF T p.1) k
        · exact absurd ((z_b0 _ (by omega)).mpr e) h33
        · rfl
      refine z_iload_n (pc := 43) dX6_share_43 rfl ?_
      refine z_cS1 (pc := 44) (c_J6_bitCount_0f7a4 (shF_sm hP7 p.1)) (q_cX6_156 _ (by decide)) rfl dX6_share_44 ?_
      refine z_istore (pc := 47) dX6_share_47 rfl (by decide) ?_
      refine z_aload_n (pc := 49) dX6_share_49 rfl ?_
      refine z_iload_n (pc := 50) dX6_share_50 rfl ?_
      refine z_iload_n (pc := 51) dX6_share_51 rfl ?_
      refine z_iload (pc := 52) dX6_share_52 rfl ?_
      refine z_cV3 (pc := 54) (c_X6_pairsBroughtInAllOrders rT (sh := shF T p.1) (by omega) hbk) (q_cX6_222 _ (by decide)) z_s0 rfl rfl dX6_share_54 ?_
      refine z_getFA (pc := 57) q_sX6_226 dX6_share_57 ?_
      refine z_iload (pc := 60) dX6_share_60 rfl ?_
      refine z_ialdFA (pc := 62) (pc 7 (shF T p.1)) ⟨rfl, by omega⟩ dX6_share_62 ?_
      refine z_i2l (pc := 63) dX6_share_63 rfl ?_
      refine z_iload_n (pc := 64) dX6_share_64 rfl ?_
      rw [fa1, nI_l (by omega)]
      refine z_cS3 (pc := 65) (c_X6_inLeastTerms (a := shS T k (pc 7 (shF T p.1)) (shF T p.1 &&& (em k ^^^ (-1))) (2 ^ T.1)) (b := fa (pc 7 (shF T p.1))) (by omega) (by omega)) (q_cX6_218 _ (by decide)) rfl dX6_share_65 ?_
      refine z_iret (pc := 68) rfl dX6_share_68 ?_ ?_
      · rw [shR, if_neg (by rw [hbk]; decide)]
      · rfl
    · refine z_lconst (pc := 36) (v := 0) dX6_share_36 (by decide) ?_
      refine z_lconst (pc := 37) (v := 1) dX6_share_37 (by decide) ?_
      refine z_iload_n (pc := 38) dX6_share_38 rfl ?_
      refine z_cS3 (pc := 39) (c_X6_inLeastTerms (a := 0) (b := 1) (by decide) (by decide)) (q_cX6_218 _ (by decide)) rfl dX6_share_39 ?_
      refine z_iret (pc := 42) rfl dX6_share_42 ?_ ?_
      · rw [shR, if_pos (show bt (shF T p.1) k = false from (z_b0 _ (by omega)).mp h33)]
      · rfl
  · rw [h] at h5; exact absurd h5 (by decide)
