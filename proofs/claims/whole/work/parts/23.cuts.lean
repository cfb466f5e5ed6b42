theorem emP : ∀ P, P ≤ 7 → em P - 1 = nI (2 ^ P - 1) ∧ 1 ≤ 2 ^ P ∧ 2 ^ P ≤ 128 := by
  have h : ∀ P, P < 8 → em P - 1 = nI (2 ^ P - 1) ∧ 1 ≤ 2 ^ P ∧ 2 ^ P ≤ 128 := by decide +kernel
  exact fun P hP => h P (by omega)
/-- the best of some cuts that are looked at from the least on -/
def bsF (o : Int32) (ok : Nat → Bool) : Nat → Int32
  | 0 => -9
  | c + 1 => if ((bsF o ok c = -9 ∨ pc 7 (nI c) < pc 7 (bsF o ok c)) ∧ nI c &&& o = 0) ∧ ok c = true then nI c else bsF o ok c
theorem bsF_or (o : Int32) (ok : Nat → Bool) : ∀ c, bsF o ok c = -9 ∨ ∃ b, b < c ∧ bsF o ok c = nI b
  | 0 => Or.inl rfl
  | c + 1 => by
    unfold bsF
    split
    · exact Or.inr ⟨c, Nat.lt_succ_self c, rfl⟩
    · rcases bsF_or o ok c with h | ⟨b, hb, h⟩
      · exact Or.inl h
      · exact Or.inr ⟨b, by omega, h⟩
def btrB (o cut best : Int32) : Bool := (decide (best = -9) || decide (pc 7 cut < pc 7 best)) && decide (cut &&& o = 0)
set_option maxRecDepth 100000 in
set_option maxHeartbeats 400000 in
theorem s_X6_isBetterCut_23_1 {M : z_Mem} {o x y : Int32} (ho : M.1 14 0 = o) : z_Sm mX6_isBetterCut (some (.int (if true && decide (x &&& o = 0) then 1 else 0))) M 23 [some (.ref 0), some (.int x), some (.int y), some (.int 1)] [] M := by
  refine z_iload_n (pc := 23) dX6_isBetterCut_23 rfl ?_
  refine z_if_eq (pc := 24) (tgt := 43) dX6_isBetterCut_24 (by decide) (fun h24 => ?_) (fun h24 => ?_)
  · exact absurd h24 (by decide)
  · refine z_iload_n (pc := 27) dX6_isBetterCut_27 rfl ?_
    refine z_aload_n (pc := 28) dX6_isBetterCut_28 rfl ?_
    refine z_getR (pc := 29) 14 q_fX6_35 z_s0 rfl dX6_isBetterCut_29 ?_
    refine z_getI (pc := 32) q_fX6_135 z_s14 rfl dX6_isBetterCut_32 ?_
    refine z_iand (pc := 35) dX6_isBetterCut_35 ?_
    refine z_if_ne (pc := 36) (tgt := 43) dX6_isBetterCut_36 (by decide) (fun h36 => ?_) (fun h36 => ?_)
    · refine z_iconst (pc := 43) (v := 0) dX6_isBetterCut_43 (by decide) ?_
      refine z_zret (pc := 44) rfl dX6_isBetterCut_44 ?_ ?_ ?_
      · rfl
      · rw [ho] at h36
        rw [decide_eq_false h36]; rfl
      · rfl
    · refine z_iconst (pc := 39) (v := 1) dX6_isBetterCut_39 (by decide) ?_
      refine z_goto (pc := 40) (tgt := 44) dX6_isBetterCut_40 (by decide) ?_
      refine z_zret (pc := 44) rfl dX6_isBetterCut_44 ?_ ?_ ?_
      · rfl
      · rw [ho] at h36
        rw [decide_eq_true h36]; rfl
      · rfl
set_option maxRecDepth 100000 in
set_option maxHeartbeats 400000 in
theorem s_X6_isBetterCut_23_0 {M : z_Mem} {o x y : Int32} (ho : M.1 14 0 = o) : z_Sm mX6_isBetterCut (some (.int (if false && decide (x &&& o = 0) then 1 else 0))) M 23 [some (.ref 0), some (.int x), some (.int y), some (.int 0)] [] M := by
  refine z_iload_n (pc := 23) dX6_isBetterCut_23 rfl ?_
  refine z_if_eq (pc := 24) (tgt := 43) dX6_isBetterCut_24 (by decide) (fun h24 => ?_) (fun h24 => ?_)
  · refine z_iconst (pc := 43) (v := 0) dX6_isBetterCut_43 (by decide) ?_
    refine z_zret (pc := 44) rfl dX6_isBetterCut_44 ?_ ?_ ?_
    · rfl
    · rfl
    · rfl
  · exact absurd rfl h24
set_option maxRecDepth 100000 in
set_option maxHeartbeats 400000 in
theorem c_X6_isBetterCut {M : z_Mem} {o : Int32} (ho : M.1 14 0 = o) {x y : Int32} (hx : sm7 x) (hy : y = -9 ∨ sm7 y) : z_Ct mX6_isBetterCut [.ref 0, .int x, .int y] M (some (.int (if btrB o x y then 1 else 0))) M := by
  refine z_entry (by decide +kernel) (Nat.le_of_ble_eq_true rfl) rfl ?_
  show z_Sm mX6_isBetterCut _ _ 0 [some (.ref 0), some (.int x), some (.int y), none] [] M
  refine z_iload_n (pc := 0) dX6_isBetterCut_0 rfl ?_
  refine z_bipush (pc := 1) (v := (-9)) dX6_isBetterCut_1 (by decide) ?_
  refine z_icmp_eq (pc := 3) (tgt := 17) dX6_isBetterCut_3 (by decide) (fun h3 => ?_) (fun h3 => ?_)
  · refine z_iconst (pc := 17) (v := 1) dX6_isBetterCut_17 (by decide) ?_
    refine z_goto (pc := 18) (tgt := 22) dX6_isBetterCut_18 (by decide) ?_
    refine z_istore_n (pc := 22) dX6_isBetterCut_22 rfl (by decide) ?_
    rw [btrB, decide_eq_true h3]
    exact s_X6_isBetterCut_23_1 ho
  · have hy7 : sm7 y := hy.resolve_left h3
    have l1 := pc_le x 7
    have l2 := pc_le y 7
    refine z_iload_n (pc := 6) dX6_isBetterCut_6 rfl ?_
    refine z_cS1 (pc := 7) (c_J6_bitCount_0f7a4 hx) (q_cX6_156 _ (by decide)) rfl dX6_isBetterCut_7 ?_
    refine z_iload_n (pc := 10) dX6_isBetterCut_10 rfl ?_
    refine z_cS1 (pc := 11) (c_J6_bitCount_0f7a4 hy7) (q_cX6_156 _ (by decide)) rfl dX6_isBetterCut_11 ?_
    refine z_icmp_ge (pc := 14) (tgt := 21) dX6_isBetterCut_14 (by decide) (fun h14 => ?_) (fun h14 => ?_)
    · refine z_iconst (pc := 21) (v := 0) dX6_isBetterCut_21 (by decide) ?_
      refine z_istore_n (pc := 22) dX6_isBetterCut_22 rfl (by decide) ?_
      rw [btrB, decide_eq_false h3, decide_eq_false (fun q => (Int32.not_lt.mpr h14) (nI_lt q (by omega)))]
      exact s_X6_isBetterCut_23_0 ho
    · refine z_iconst (pc := 17) (v := 1) dX6_isBetterCut_17 (by decide) ?_
      refine z_goto (pc := 18) (tgt := 22) dX6_isBetterCut_18 (by decide) ?_
      refine z_istore_n (pc := 22) dX6_isBetterCut_22 rfl (by decide) ?_
      rw [btrB, decide_eq_false h3, decide_eq_true ((nI_ltI (by omega) (by omega)).mp (Int32.not_le.mp h14))]
      exact s_X6_isBetterCut_23_1 ho
theorem btr_iff {o x y : Int32} : btrB o x y = true ↔ (y = -9 ∨ pc 7 x < pc 7 y) ∧ x &&& o = 0 := by
  simp [btrB]
theorem bsF_sm {o : Int32} {ok : Nat → Bool} {c : Nat} (hc : c ≤ 128) : bsF o ok c = -9 ∨ sm7 (bsF o ok c) := by
  rcases bsF_or o ok c with h | ⟨b, hb, h⟩
  · exact Or.inl h
  · exact Or.inr (by rw [h]; exact sm7_of (by omega))
theorem bsF_yes {o : Int32} {ok : Nat → Bool} {c : Nat} (h : btrB o (nI c) (bsF o ok c) = true) (h2 : ok c = true) : bsF o ok (c + 1) = nI c := by rw [bsF, if_pos ⟨btr_iff.mp h, h2⟩]
theorem bsF_no {o : Int32} {ok : Nat → Bool} {c : Nat} (h : btrB o (nI c) (bsF o ok c) = false ∨ ok c = false) : bsF o ok (c + 1) = bsF o ok c := by
  rw [bsF, if_neg]
  rintro ⟨q1, q2⟩
  rcases h with h | h
  · rw [btr_iff.mpr q1] at h; cases h
  · rw [h] at q2; cases q2
def cuOk (T : TT) (o : Int32) (t u : Nat) (c : Nat) : Bool := !tog (o ||| nI c) T.2.1 T.2.2.1 T.1 t u
def leOk (T : TT) (D : DT) (o x : Int32) (c : Nat) : Bool := decide (dbF (o ||| nI c) T.2.1 T.2.2.1 T.1 D D.1 &&& x = x)
set_option maxRecDepth 100000 in
set_option maxHeartbeats 400000 in
theorem s_X6_cuts_19 {M M2 : z_Mem} {r : Option Value} {T : TT} (hT : TK M T) {x y z : Int32} {t u : Nat} (hx : x = nI t) (hy : y = nI u) (hu : u < 6) (kk : z_Sm mX6_cuts r M2 74 [some (.ref 0), some (.int x), some (.int y), some (.int z), some (.int (bsF (M.1 14 0) (cuOk T (M.1 14 0) t u) (2 ^ T.1))), none] [] (M)) (j : Nat) (hj : j ≤ 2 ^ T.1) (ij : Int32) (v : Int32) (h2 : ij = nI j) (hv_v : v = bsF (M.1 14 0) (cuOk T (M.1 14 0) t u) j) : z_Sm mX6_cuts r M2 19 [some (.ref 0), some (.int x), some (.int y), some (.int z), some (.int v), some (.int ij)] [] M := by
  obtain ⟨eP, e1, e2⟩ := emP T.1 hT.1.2.1
  have hsm := bsF_sm (o := M.1 14 0) (ok := cuOk T (M.1 14 0) t u) (c := j) (by omega)
  refine z_iload (pc := 19) dX6_cuts_19 rfl ?_
  refine z_aload_n (pc := 21) dX6_cuts_21 rfl ?_
  refine z_getR (pc := 22) 3 q_fX6_19 z_s0 rfl dX6_cuts_22 ?_
  refine z_cV0 (pc := 25) (c_X4_allPins hT.1.1) (q_cX6_184 _ (by decide)) z_s3 rfl rfl dX6_cuts_25 ?_
  refine z_icmp_gt (pc := 28) (tgt := 74) dX6_cuts_28 (by decide) (fun h28 => ?_) (fun h28 => ?_)
  · have hNj : 2 ^ T.1 ≤ j := by
      have := z_gt h28 h2 eP (by omega) (by omega)
      omega
    obtain rfl : j = 2 ^ T.1 := by omega
    subst hv_v
    exact z_drop 5 kk
  · have hlt : j < 2 ^ T.1 := by
      have := z_ngt h28 h2 eP (by omega) (by omega)
      omega
    refine z_aload_n (pc := 31) dX6_cuts_31 rfl ?_
    refine z_iload (pc := 32) dX6_cuts_32 rfl ?_
    refine z_iload (pc := 34) dX6_cuts_34 rfl ?_
    refine z_cV2 (pc := 36) (c_X6_isBetterCut rfl (by rw [h2]; exact sm7_of (by omega)) (by rw [hv_v]; exact hsm)) (q_cX6_187 _ (by decide)) z_s0 rfl rfl dX6_cuts_36 ?_
    refine z_if_eq (pc := 39) (tgt := 68) dX6_cuts_39 (by decide) (fun h39 => ?_) (fun h39 => ?_)
    · refine z_iinc (pc := 68) dX6_cuts_68 rfl rfl rfl (by decide) ?_
      refine z_goto (pc := 71) (tgt := 19) dX6_cuts_71 (by decide) ?_
      have h39 := z_f h39
      rw [h2, hv_v] at h39
      exact s_X6_cuts_19 hT hx hy hu kk (j + 1) hlt _ _ (z_n1 h2) (by rw [hv_v, bsF_no (Or.inl h39)])
    · refine z_aload_n (pc := 42) dX6_cuts_42 rfl ?_
      refine z_getR (pc := 43) 3 q_fX6_19 z_s0 rfl dX6_cuts_43 ?_
      refine z_iload_n (pc := 46) dX6_cuts_46 rfl ?_
      refine z_iload_n (pc := 47) dX6_cuts_47 rfl ?_
      refine z_aload_n (pc := 48) dX6_cuts_48 rfl ?_
      refine z_getR (pc := 49) 14 q_fX6_35 z_s0 rfl dX6_cuts_49 ?_
      refine z_getI (pc := 52) q_fX6_135 z_s14 rfl dX6_cuts_52 ?_
      refine z_iload (pc := 55) dX6_cuts_55 rfl ?_
      refine z_ior (pc := 57) dX6_cuts_57 ?_
      refine z_cV3 (pc := 58) (c_X4_areTogether hT.1 hx hy hu) (q_cX6_191 _ (by decide)) z_s3 rfl rfl dX6_cuts_58 ?_
      refine z_if_ne (pc := 61) (tgt := 68) dX6_cuts_61 (by decide) (fun h61 => ?_) (fun h61 => ?_)
      · refine z_iinc (pc := 68) dX6_cuts_68 rfl rfl rfl (by decide) ?_
        refine z_goto (pc := 71) (tgt := 19) dX6_cuts_71 (by decide) ?_
        have h61 := z_t h61
        rw [h2] at h61
        exact s_X6_cuts_19 hT hx hy hu kk (j + 1) hlt _ _ (z_n1 h2) (by rw [hv_v, bsF_no (Or.inr (by rw [cuOk, h61]; rfl))])
      · refine z_iload (pc := 64) dX6_cuts_64 rfl ?_
        refine z_istore (pc := 66) dX6_cuts_66 rfl (by decide) ?_
        refine z_iinc (pc := 68) dX6_cuts_68 rfl rfl rfl (by decide) ?_
        refine z_goto (pc := 71) (tgt := 19) dX6_cuts_71 (by decide) ?_
        have h39 := z_t h39
        have h61 := z_f h61
        rw [h2, hv_v] at h39
        rw [h2] at h61
        exact s_X6_cuts_19 hT hx hy hu kk (j + 1) hlt _ _ (z_n1 h2) (by rw [h2, bsF_yes h39 (by rw [cuOk, h61]; rfl)])
termination_by 2 ^ T.1 - j
decreasing_by all_goals omega
set_option maxRecDepth 100000 in
set_option maxHeartbeats 400000 in
theorem o_X6_cuts_no {M : z_Mem} {l : Nat → Int32} {n : Nat} {T : TT} {U : UT} {D : DT} {p : PLt} {A : List PLt} {k0 k1 : Option PLt} {L : List (Int32 × Int32)} {sd : Int64} (hR : RX M l n T U D p A k0 k1 L sd) {x y : Int32} (h : ¬ rfF x y = 0) : z_Ct mX6_cuts [.ref 0, .int x, .int y] M (some (.int (rfF x y))) M := by
  obtain ⟨rS, rT, rU, rD, rp, rA, r0, r1, rL, rs⟩ := id hR

  refine z_entry (by decide +kernel) (Nat.le_of_ble_eq_true rfl) rfl ?_
  show z_Sm mX6_cuts _ _ 0 [some (.ref 0), some (.int x), some (.int y), none, none, none] [] M
  refine z_iload_n (pc := 0) dX6_cuts_0 rfl ?_
  refine z_iload_n (pc := 1) dX6_cuts_1 rfl ?_
  refine z_cS2 (pc := 2) c_X6_refusalOfTwo (q_cX6_181 _ (by decide)) rfl dX6_cuts_2 ?_
  refine z_istore_n (pc := 5) dX6_cuts_5 rfl (by decide) ?_
  refine z_iload_n (pc := 6) dX6_cuts_6 rfl ?_
  refine z_if_eq (pc := 7) (tgt := 12) dX6_cuts_7 (by decide) (fun h7 => ?_) (fun h7 => ?_)
  · exact absurd h7 h
  · refine z_iload_n (pc := 10) dX6_cuts_10 rfl ?_
    refine z_iret (pc := 11) rfl dX6_cuts_11 ?_ ?_
    · rfl
    · rfl
theorem rf_at {x y : Int32} (h : rfF x y = 0) : thg x = true ∧ thg y = true ∧ ¬ x = y := by
  unfold rfF at h
  cases h1 : thg x <;> cases h2 : thg y <;> rw [h1, h2] at h
  · exact absurd h (by rw [if_neg (by decide)]; decide)
  · exact absurd h (by rw [if_neg (by decide)]; decide)
  · exact absurd h (by rw [if_neg (by decide)]; decide)
  · refine ⟨rfl, rfl, fun e => ?_⟩
    rw [if_pos (by rfl), if_pos e] at h
    exact absurd h (by decide)
def cuF (T : TT) (o : Int32) (t u : Nat) : Int32 := bsF o (cuOk T o t u) (2 ^ T.1)
set_option maxRecDepth 100000 in
set_option maxHeartbeats 400000 in
theorem o_X6_cuts {M : z_Mem} {l : Nat → Int32} {n : Nat} {T : TT} {U : UT} {D : DT} {p : PLt} {A : List PLt} {k0 k1 : Option PLt} {L : List (Int32 × Int32)} {sd : Int64} (hR : RX M l n T U D p A k0 k1 L sd) {x y : Int32} (h : rfF x y = 0) : z_Ct mX6_cuts [.ref 0, .int x, .int y] M (some (.int (cuF T p.1 x.toNatClampNeg y.toNatClampNeg))) M := by
  obtain ⟨rS, rT, rU, rD, rp, rA, r0, r1, rL, rs⟩ := id hR
  obtain ⟨hx, hy, -⟩ := rf_at h
  have hx := thg_at hx
  have hy := thg_at hy
  refine z_entry (by decide +kernel) (Nat.le_of_ble_eq_true rfl) rfl ?_
  show z_Sm mX6_cuts _ _ 0 [some (.ref 0), some (.int x), some (.int y), none, none, none] [] M
  refine z_iload_n (pc := 0) dX6_cuts_0 rfl ?_
  refine z_iload_n (pc := 1) dX6_cuts_1 rfl ?_
  refine z_cS2 (pc := 2) c_X6_refusalOfTwo (q_cX6_181 _ (by decide)) rfl dX6_cuts_2 ?_
  refine z_istore_n (pc := 5) dX6_cuts_5 rfl (by decide) ?_
  refine z_iload_n (pc := 6) dX6_cuts_6 rfl ?_
  refine z_if_eq (pc := 7) (tgt := 12) dX6_cuts_7 (by decide) (fun h7 => ?_) (fun h7 => ?_)
  · refine z_bipush (pc := 12) (v := (-9)) dX6_cuts_12 (by decide) ?_
    refine z_istore (pc := 14) dX6_cuts_14 rfl (by decide) ?_
    refine z_iconst (pc := 16) (v := 0) dX6_cuts_16 (by decide) ?_
    refine z_istore (pc := 17) dX6_cuts_17 rfl (by decide) ?_
    refine s_X6_cuts_19 rT hx.2 hy.2 hy.1 ?_ 0 (Nat.zero_le _) _ _ rfl rfl
    refine z_iload (pc := 74) dX6_cuts_74 rfl ?_
    refine z_iret (pc := 76) rfl dX6_cuts_76 ?_ ?_
    · rw [rp.1]; rfl
    · rfl
  · exact absurd h h7
set_option maxRecDepth 100000 in
set_option maxHeartbeats 400000 in
theorem s_X6_letsGo_25 {M M2 : z_Mem} {r : Option Value} {T : TT} (hT : TK M T) {D : DT} (hD : DK M D) {x : Int32} (kk : z_Sm mX6_letsGo r M2 75 [some (.ref 0), some (.int x), some (.int (bsF (M.1 14 0) (leOk T D (M.1 14 0) x) (2 ^ T.1))), none] [] (M)) (j : Nat) (hj : j ≤ 2 ^ T.1) (ij : Int32) (v : Int32) (h2 : ij = nI j) (hv_v : v = bsF (M.1 14 0) (leOk T D (M.1 14 0) x) j) : z_Sm mX6_letsGo r M2 25 [some (.ref 0), some (.int x), some (.int v), some (.int ij)] [] M := by
  obtain ⟨eP, e1, e2⟩ := emP T.1 hT.1.2.1
  have hsm := bsF_sm (o := M.1 14 0) (ok := leOk T D (M.1 14 0) x) (c := j) (by omega)
  refine z_iload_n (pc := 25) dX6_letsGo_25 rfl ?_
  refine z_aload_n (pc := 26) dX6_letsGo_26 rfl ?_
  refine z_getR (pc := 27) 3 q_fX6_19 z_s0 rfl dX6_letsGo_27 ?_
  refine z_cV0 (pc := 30) (c_X4_allPins hT.1.1) (q_cX6_184 _ (by decide)) z_s3 rfl rfl dX6_letsGo_30 ?_
  refine z_icmp_gt (pc := 33) (tgt := 75) dX6_letsGo_33 (by decide) (fun h33 => ?_) (fun h33 => ?_)
  · have hNj : 2 ^ T.1 ≤ j := by
      have := z_gt h33 h2 eP (by omega) (by omega)
      omega
    obtain rfl : j = 2 ^ T.1 := by omega
    subst hv_v
    exact z_drop 3 kk
  · have hlt : j < 2 ^ T.1 := by
      have := z_ngt h33 h2 eP (by omega) (by omega)
      omega
    refine z_aload_n (pc := 36) dX6_letsGo_36 rfl ?_
    refine z_iload_n (pc := 37) dX6_letsGo_37 rfl ?_
    refine z_iload_n (pc := 38) dX6_letsGo_38 rfl ?_
    refine z_cV2 (pc := 39) (c_X6_isBetterCut rfl (by rw [h2]; exact sm7_of (by omega)) (by rw [hv_v]; exact hsm)) (q_cX6_187 _ (by decide)) z_s0 rfl rfl dX6_letsGo_39 ?_
    refine z_if_eq (pc := 42) (tgt := 69) dX6_letsGo_42 (by decide) (fun h42 => ?_) (fun h42 => ?_)
    · refine z_iinc (pc := 69) dX6_letsGo_69 rfl rfl rfl (by decide) ?_
      refine z_goto (pc := 72) (tgt := 25) dX6_letsGo_72 (by decide) ?_
      have h42 := z_f h42
      rw [h2, hv_v] at h42
      exact s_X6_letsGo_25 hT hD kk (j + 1) hlt _ _ (z_n1 h2) (by rw [hv_v, bsF_no (Or.inl h42)])
    · refine z_aload_n (pc := 45) dX6_letsGo_45 rfl ?_
      refine z_getR (pc := 46) 3 q_fX6_19 z_s0 rfl dX6_letsGo_46 ?_
      refine z_aload_n (pc := 49) dX6_letsGo_49 rfl ?_
      refine z_getR (pc := 50) 14 q_fX6_35 z_s0 rfl dX6_letsGo_50 ?_
      refine z_getI (pc := 53) q_fX6_135 z_s14 rfl dX6_letsGo_53 ?_
      refine z_iload_n (pc := 56) dX6_letsGo_56 rfl ?_
      refine z_ior (pc := 57) dX6_letsGo_57 ?_
      refine z_cV1 (pc := 58) (c_X4_doable hT.1 hD) (q_cX6_199 _ (by decide)) z_s3 rfl rfl dX6_letsGo_58 ?_
      refine z_iload_n (pc := 61) dX6_letsGo_61 rfl ?_
      refine z_iand (pc := 62) dX6_letsGo_62 ?_
      refine z_iload_n (pc := 63) dX6_letsGo_63 rfl ?_
      refine z_icmp_ne (pc := 64) (tgt := 69) dX6_letsGo_64 (by decide) (fun h64 => ?_) (fun h64 => ?_)
      · refine z_iinc (pc := 69) dX6_letsGo_69 rfl rfl rfl (by decide) ?_
        refine z_goto (pc := 72) (tgt := 25) dX6_letsGo_72 (by decide) ?_
        rw [h2] at h64
        exact s_X6_letsGo_25 hT hD kk (j + 1) hlt _ _ (z_n1 h2) (by rw [hv_v, bsF_no (Or.inr (decide_eq_false h64))])
      · refine z_iload_n (pc := 67) dX6_letsGo_67 rfl ?_
        refine z_istore_n (pc := 68) dX6_letsGo_68 rfl (by decide) ?_
        refine z_iinc (pc := 69) dX6_letsGo_69 rfl rfl rfl (by decide) ?_
        refine z_goto (pc := 72) (tgt := 25) dX6_letsGo_72 (by decide) ?_
        have h42 := z_t h42
        rw [h2, hv_v] at h42
        rw [h2] at h64
        exact s_X6_letsGo_25 hT hD kk (j + 1) hlt _ _ (z_n1 h2) (by rw [h2, bsF_yes h42 (decide_eq_true h64)])
termination_by 2 ^ T.1 - j
decreasing_by all_goals omega
def leF (T : TT) (D : DT) (o x : Int32) : Int32 := bsF o (leOk T D o x) (2 ^ T.1)
set_option maxRecDepth 100000 in
set_option maxHeartbeats 400000 in
theorem o_X6_letsGo_no {M : z_Mem} {l : Nat → Int32} {n : Nat} {T : TT} {U : UT} {D : DT} {p : PLt} {A : List PLt} {k0 k1 : Option PLt} {L : List (Int32 × Int32)} {sd : Int64} (hR : RX M l n T U D p A k0 k1 L sd) {x : Int32} (h : x < 0 ∨ em D.1 ≤ x) : z_Ct mX6_letsGo [.ref 0, .int x] M (some (.int (-2))) M := by
  obtain ⟨rS, rT, rU, rD, rp, rA, r0, r1, rL, rs⟩ := id hR

  refine z_entry (by decide +kernel) (Nat.le_of_ble_eq_true rfl) rfl ?_
  show z_Sm mX6_letsGo _ _ 0 [some (.ref 0), some (.int x), none, none] [] M
  refine z_iload_n (pc := 0) dX6_letsGo_0 rfl ?_
  refine z_if_lt (pc := 1) (tgt := 17) dX6_letsGo_1 (by decide) (fun h1 => ?_) (fun h1 => ?_)
  · refine z_bipush (pc := 17) (v := (-2)) dX6_letsGo_17 (by decide) ?_
    refine z_iret (pc := 19) rfl dX6_letsGo_19 ?_ ?_
    · rfl
    · rfl
  · refine z_iload_n (pc := 4) dX6_letsGo_4 rfl ?_
    refine z_iconst (pc := 5) (v := 1) dX6_letsGo_5 (by decide) ?_
    refine z_aload_n (pc := 6) dX6_letsGo_6 rfl ?_
    refine z_getR (pc := 7) 3 q_fX6_19 z_s0 rfl dX6_letsGo_7 ?_
    refine z_getI (pc := 10) q_fX6_103 z_s3 rfl dX6_letsGo_10 ?_
    refine z_ishl (pc := 13) dX6_letsGo_13 ?_
    refine z_icmp_lt (pc := 14) (tgt := 20) dX6_letsGo_14 (by decide) (fun h14 => ?_) (fun h14 => ?_)
    · exfalso
      rw [rD.1] at h14
      exact h.elim h1 (fun q => (Int32.not_lt.mpr q) h14)
    · refine z_bipush (pc := 17) (v := (-2)) dX6_letsGo_17 (by decide) ?_
      refine z_iret (pc := 19) rfl dX6_letsGo_19 ?_ ?_
      · rfl
      · rfl
set_option maxRecDepth 100000 in
set_option maxHeartbeats 400000 in
theorem o_X6_letsGo {M : z_Mem} {l : Nat → Int32} {n : Nat} {T : TT} {U : UT} {D : DT} {p : PLt} {A : List PLt} {k0 k1 : Option PLt} {L : List (Int32 × Int32)} {sd : Int64} (hR : RX M l n T U D p A k0 k1 L sd) {x : Int32} (h : ¬ (x < 0 ∨ em D.1 ≤ x)) : z_Ct mX6_letsGo [.ref 0, .int x] M (some (.int (leF T D p.1 x))) M := by
  obtain ⟨rS, rT, rU, rD, rp, rA, r0, r1, rL, rs⟩ := id hR

  refine z_entry (by decide +kernel) (Nat.le_of_ble_eq_true rfl) rfl ?_
  show z_Sm mX6_letsGo _ _ 0 [some (.ref 0), some (.int x), none, none] [] M
  refine z_iload_n (pc := 0) dX6_letsGo_0 rfl ?_
  refine z_if_lt (pc := 1) (tgt := 17) dX6_letsGo_1 (by decide) (fun h1 => ?_) (fun h1 => ?_)
  · exact absurd (Or.inl h1) h
  · refine z_iload_n (pc := 4) dX6_letsGo_4 rfl ?_
    refine z_iconst (pc := 5) (v := 1) dX6_letsGo_5 (by decide) ?_
    refine z_aload_n (pc := 6) dX6_letsGo_6 rfl ?_
    refine z_getR (pc := 7) 3 q_fX6_19 z_s0 rfl dX6_letsGo_7 ?_
    refine z_getI (pc := 10) q_fX6_103 z_s3 rfl dX6_letsGo_10 ?_
    refine z_ishl (pc := 13) dX6_letsGo_13 ?_
    refine z_icmp_lt (pc := 14) (tgt := 20) dX6_letsGo_14 (by decide) (fun h14 => ?_) (fun h14 => ?_)
    · refine z_bipush (pc := 20) (v := (-9)) dX6_letsGo_20 (by decide) ?_
      refine z_istore_n (pc := 22) dX6_letsGo_22 rfl (by decide) ?_
      refine z_iconst (pc := 23) (v := 0) dX6_letsGo_23 (by decide) ?_
      refine z_istore_n (pc := 24) dX6_letsGo_24 rfl (by decide) ?_
      refine s_X6_letsGo_25 rT rD ?_ 0 (Nat.zero_le _) _ _ rfl rfl
      refine z_iload_n (pc := 75) dX6_letsGo_75 rfl ?_
      refine z_iret (pc := 76) rfl dX6_letsGo_76 ?_ ?_
      · rw [rp.1]; rfl
      · rfl
    · exfalso
      rw [rD.1] at h14
      exact h (Or.inr (Int32.not_lt.mp h14))
def ftF (T : TT) (p : PLt) (t u : Nat) (w : Int32) : Nat → Nat → Int32
  | 0, _ => -9
  | f + 1, i => if tog (tugF T p i w).1 T.2.1 T.2.2.1 T.1 t u = true then ftF T p t u w f (i + 1) else nI i
def ptF (T : TT) (p : PLt) (t u : Nat) (what : Int32) : Nat → Nat → Int32
  | 0, _ => -9
  | f + 1, i => if ftF T p t u (nI i) 6 0 = -9 then ptF T p t u what f (i + 1) else if what = 0 then nI i else ftF T p t u (nI i) 6 0
theorem PlAt_th {M N : z_Mem} {p : PLt} (h : PlAt M 14 p) (s : Sb [13, 16, 17] M N) : PlAt N 14 p := PlAt_sb h s (by simp) (by simp)
set_option maxRecDepth 100000 in
set_option maxHeartbeats 400000 in
theorem s_X6_firstThatParts_3 {T : TT} {p : PLt} (ho : sm7 p.1) {x y w : Int32} {t u : Nat} (hx : x = nI t) (hy : y = nI u) (hu : u < 6) : ∀ (f : Nat) (Mj : z_Mem) (ij : Int32) (i : Nat), TK Mj T → PlAt Mj 14 p → ij = nI i → i + f = 6 → ∃ M2, z_Sm mX6_firstThatParts (some (.int (ftF T p t u w f i))) M2 3 [some (.ref 0), some (.int x), some (.int y), some (.int w), some (.int ij)] [] Mj ∧ Sb [13, 16, 17] Mj M2 := by
  intro f
  induction f with
  | zero =>
    intro Mj ij i hT hp h2 hi
    refine ⟨Mj, ?_, Sb.rf⟩
    refine z_iload (pc := 3) dX6_firstThatParts_3 rfl ?_
    refine z_bipush (pc := 5) (v := 6) dX6_firstThatParts_5 (by decide) ?_
    refine z_icmp_ge (pc := 7) (tgt := 64) dX6_firstThatParts_7 (by decide) (fun h7 => ?_) (fun h7 => ?_)
    · refine z_bipush (pc := 64) (v := (-9)) dX6_firstThatParts_64 (by decide) ?_
      refine z_iret (pc := 66) rfl dX6_firstThatParts_66 ?_ ?_
      · rfl
      · rfl
    · exact absurd (z_lt h7 h2 (show (6 : Int32) = nI 6 from rfl) (by omega) (by omega)) (by omega)
  | succ f ih =>
    intro Mj ij i hT hp h2 hi
    obtain ⟨N0, c0, p0, s0⟩ := c_X2_become (q := 16) PL_16 PL_14 (by decide) (by decide) (by decide) hp
    have s0 : Sb [13, 16, 17] Mj N0 := s0.wk (by simp)
    obtain ⟨N, c1, p1, s1⟩ := c_X1_pullAt_16 (TK_th hT s0) p0 ho (n := w) h2 (by omega)
    have hT1 := TK_th (TK_th hT s0) s1
    have hat := c_X4_areTogether hT1.1 (o := (tugF T p i w).1) hx hy hu
    by_cases hb : tog (tugF T p i w).1 T.2.1 T.2.2.1 T.1 t u = true
    · obtain ⟨M2, h3, s2⟩ := ih N (ij + Int32.ofInt 1) (i + 1) hT1 (PlAt_th (PlAt_th hp s0) s1) (z_n1 h2) (by omega)
      refine ⟨M2, ?_, (s0.tr s1).tr s2⟩
      rw [ftF, if_pos hb]
      rw [hb] at hat
      refine z_iload (pc := 3) dX6_firstThatParts_3 rfl ?_
      refine z_bipush (pc := 5) (v := 6) dX6_firstThatParts_5 (by decide) ?_
      refine z_icmp_ge (pc := 7) (tgt := 64) dX6_firstThatParts_7 (by decide) (fun h7 => ?_) (fun h7 => ?_)
      · exact absurd (z_ge h7 h2 (show (6 : Int32) = nI 6 from rfl) (by omega) (by omega)) (by omega)
      · refine z_aload_n (pc := 10) dX6_firstThatParts_10 rfl ?_
        refine z_getR (pc := 11) 16 q_fX6_39 z_s0 rfl dX6_firstThatParts_11 ?_
        refine z_aload_n (pc := 14) dX6_firstThatParts_14 rfl ?_
        refine z_getR (pc := 15) 14 q_fX6_35 z_s0 rfl dX6_firstThatParts_15 ?_
        refine z_cV1v (pc := 18) c0 (q_cX6_169 _ (by decide)) z_s16 rfl rfl dX6_firstThatParts_18 ?_
        refine z_aload_n (pc := 21) dX6_firstThatParts_21 rfl ?_
        refine z_getR (pc := 22) 12 q_fX6_28 z_s0 rfl dX6_firstThatParts_22 ?_
        refine z_aload_n (pc := 25) dX6_firstThatParts_25 rfl ?_
        refine z_getR (pc := 26) 16 q_fX6_39 z_s0 rfl dX6_firstThatParts_26 ?_
        refine z_iload (pc := 29) dX6_firstThatParts_29 rfl ?_
        refine z_iload_n (pc := 31) dX6_firstThatParts_31 rfl ?_
        refine z_cV3 (pc := 32) c1 (q_cX6_149 _ (by decide)) z_s12 rfl rfl dX6_firstThatParts_32 ?_
        refine z_pop (pc := 35) dX6_firstThatParts_35 rfl ?_
        refine z_aload_n (pc := 36) dX6_firstThatParts_36 rfl ?_
        refine z_getR (pc := 37) 3 q_fX6_19 z_s0 rfl dX6_firstThatParts_37 ?_
        refine z_iload_n (pc := 40) dX6_firstThatParts_40 rfl ?_
        refine z_iload_n (pc := 41) dX6_firstThatParts_41 rfl ?_
        refine z_aload_n (pc := 42) dX6_firstThatParts_42 rfl ?_
        refine z_getR (pc := 43) 16 q_fX6_39 z_s0 rfl dX6_firstThatParts_43 ?_
        refine z_getI (pc := 46) q_fX6_135 z_s16 rfl dX6_firstThatParts_46 ?_
        rw [p1.1]
        refine z_cV3 (pc := 49) hat (q_cX6_191 _ (by decide)) z_s3 rfl rfl dX6_firstThatParts_49 ?_
        refine z_if_ne (pc := 52) (tgt := 58) dX6_firstThatParts_52 (by decide) (fun h52 => ?_) (fun h52 => ?_)
        · refine z_iinc (pc := 58) dX6_firstThatParts_58 rfl rfl rfl (by decide) ?_
          refine z_goto (pc := 61) (tgt := 3) dX6_firstThatParts_61 (by decide) ?_
          exact h3
        · exact absurd h52 (by decide)
    · refine ⟨N, ?_, s0.tr s1⟩
      rw [ftF, if_neg hb]
      rw [if_neg hb] at hat
      refine z_iload (pc := 3) dX6_firstThatParts_3 rfl ?_
      refine z_bipush (pc := 5) (v := 6) dX6_firstThatParts_5 (by decide) ?_
      refine z_icmp_ge (pc := 7) (tgt := 64) dX6_firstThatParts_7 (by decide) (fun h7 => ?_) (fun h7 => ?_)
      · exact absurd (z_ge h7 h2 (show (6 : Int32) = nI 6 from rfl) (by omega) (by omega)) (by omega)
      · refine z_aload_n (pc := 10) dX6_firstThatParts_10 rfl ?_
        refine z_getR (pc := 11) 16 q_fX6_39 z_s0 rfl dX6_firstThatParts_11 ?_
        refine z_aload_n (pc := 14) dX6_firstThatParts_14 rfl ?_
        refine z_getR (pc := 15) 14 q_fX6_35 z_s0 rfl dX6_firstThatParts_15 ?_
        refine z_cV1v (pc := 18) c0 (q_cX6_169 _ (by decide)) z_s16 rfl rfl dX6_firstThatParts_18 ?_
        refine z_aload_n (pc := 21) dX6_firstThatParts_21 rfl ?_
        refine z_getR (pc := 22) 12 q_fX6_28 z_s0 rfl dX6_firstThatParts_22 ?_
        refine z_aload_n (pc := 25) dX6_firstThatParts_25 rfl ?_
        refine z_getR (pc := 26) 16 q_fX6_39 z_s0 rfl dX6_firstThatParts_26 ?_
        refine z_iload (pc := 29) dX6_firstThatParts_29 rfl ?_
        refine z_iload_n (pc := 31) dX6_firstThatParts_31 rfl ?_
        refine z_cV3 (pc := 32) c1 (q_cX6_149 _ (by decide)) z_s12 rfl rfl dX6_firstThatParts_32 ?_
        refine z_pop (pc := 35) dX6_firstThatParts_35 rfl ?_
        refine z_aload_n (pc := 36) dX6_firstThatParts_36 rfl ?_
        refine z_getR (pc := 37) 3 q_fX6_19 z_s0 rfl dX6_firstThatParts_37 ?_
        refine z_iload_n (pc := 40) dX6_firstThatParts_40 rfl ?_
        refine z_iload_n (pc := 41) dX6_firstThatParts_41 rfl ?_
        refine z_aload_n (pc := 42) dX6_firstThatParts_42 rfl ?_
        refine z_getR (pc := 43) 16 q_fX6_39 z_s0 rfl dX6_firstThatParts_43 ?_
        refine z_getI (pc := 46) q_fX6_135 z_s16 rfl dX6_firstThatParts_46 ?_
        rw [p1.1]
        refine z_cV3 (pc := 49) hat (q_cX6_191 _ (by decide)) z_s3 rfl rfl dX6_firstThatParts_49 ?_
        refine z_if_ne (pc := 52) (tgt := 58) dX6_firstThatParts_52 (by decide) (fun h52 => ?_) (fun h52 => ?_)
        · exact absurd rfl h52
        · refine z_iload (pc := 55) dX6_firstThatParts_55 rfl ?_
          refine z_iret (pc := 57) rfl dX6_firstThatParts_57 ?_ ?_
          · exact h2
          · rfl
set_option maxRecDepth 100000 in
set_option maxHeartbeats 400000 in
theorem c_X6_firstThatParts {M : z_Mem} {T : TT} (hT : TK M T) {p : PLt} (hp : PlAt M 14 p) (ho : sm7 p.1) {x y w : Int32} {t u : Nat} (hx : x = nI t) (hy : y = nI u) (hu : u < 6) : ∃ M1, z_Ct mX6_firstThatParts [.ref 0, .int x, .int y, .int w] M (some (.int (ftF T p t u w 6 0))) M1 ∧ Sb [13, 16, 17] M M1 := by
  obtain ⟨M2, h3, s2⟩ := s_X6_firstThatParts_3 ho (w := w) hx hy hu 6 M 0 0 hT hp rfl (by omega)
  refine ⟨M2, ?_, s2⟩
  refine z_entry (by decide +kernel) (Nat.le_of_ble_eq_true rfl) rfl ?_
  show z_Sm mX6_firstThatParts _ _ 0 [some (.ref 0), some (.int x), some (.int y), some (.int w), none] [] M
  refine z_iconst (pc := 0) (v := 0) dX6_firstThatParts_0 (by decide) ?_
  refine z_istore (pc := 1) dX6_firstThatParts_1 rfl (by decide) ?_
  exact h3
set_option maxRecDepth 100000 in
set_option maxHeartbeats 400000 in
theorem s_X6_parts_60 {T : TT} {p : PLt} (ho : sm7 p.1) {x y w z : Int32} {t u : Nat} (hx : x = nI t) (hy : y = nI u) (hu : u < 6) : ∀ (f : Nat) (Mj : z_Mem) (ij : Int32) (i : Nat), TK Mj T → PlAt Mj 14 p → ij = nI i → i + f = 10 → ∃ M2, z_Sm mX6_parts (some (.int (ptF T p t u w f i))) M2 60 [some (.ref 0), some (.int x), some (.int y), some (.int w), some (.int z), some (.int ij), none] [] Mj ∧ Sb [13, 16, 17] Mj M2 := by
  intro f
  induction f with
  | zero =>
    intro Mj ij i hT hp h2 hi
    refine ⟨Mj, ?_, Sb.rf⟩
    refine z_iload (pc := 60) dX6_parts_60 rfl ?_
    refine z_bipush (pc := 62) (v := 9) dX6_parts_62 (by decide) ?_
    refine z_icmp_gt (pc := 64) (tgt := 102) dX6_parts_64 (by decide) (fun h64 => ?_) (fun h64 => ?_)
    · refine z_bipush (pc := 102) (v := (-9)) dX6_parts_102 (by decide) ?_
      refine z_iret (pc := 104) rfl dX6_parts_104 ?_ ?_
      · rfl
      · rfl
    · exact absurd (z_ngt h64 h2 (show (9 : Int32) = nI 9 from rfl) (by omega) (by omega)) (by omega)
  | succ f ih =>
    intro Mj ij i hT hp h2 hi
    obtain ⟨N, c1, s1⟩ := c_X6_firstThatParts hT hp ho (w := ij) hx hy hu
    rw [h2] at c1
    by_cases hb : ftF T p t u (nI i) 6 0 = -9
    · obtain ⟨M2, h3, s2⟩ := ih N (ij + Int32.ofInt 1) (i + 1) (TK_th hT s1) (PlAt_th hp s1) (z_n1 h2) (by omega)
      refine ⟨M2, ?_, s1.tr s2⟩
      rw [ptF, if_pos hb]
      subst h2
      refine z_iload (pc := 60) dX6_parts_60 rfl ?_
      refine z_bipush (pc := 62) (v := 9) dX6_parts_62 (by decide) ?_
      refine z_icmp_gt (pc := 64) (tgt := 102) dX6_parts_64 (by decide) (fun h64 => ?_) (fun h64 => ?_)
      · exact absurd (z_gt h64 rfl (show (9 : Int32) = nI 9 from rfl) (by omega) (by omega)) (by omega)
      · refine z_aload_n (pc := 67) dX6_parts_67 rfl ?_
        refine z_iload_n (pc := 68) dX6_parts_68 rfl ?_
        refine z_iload_n (pc := 69) dX6_parts_69 rfl ?_
        refine z_iload (pc := 70) dX6_parts_70 rfl ?_
        refine z_cV3 (pc := 72) c1 (q_cX6_195 _ (by decide)) z_s0 rfl rfl dX6_parts_72 ?_
        refine z_istore (pc := 75) dX6_parts_75 rfl (by decide) ?_
        refine z_iload (pc := 77) dX6_parts_77 rfl ?_
        refine z_bipush (pc := 79) (v := (-9)) dX6_parts_79 (by decide) ?_
        refine z_icmp_eq (pc := 81) (tgt := 96) dX6_parts_81 (by decide) (fun h81 => ?_) (fun h81 => ?_)
        · refine z_iinc (pc := 96) dX6_parts_96 rfl rfl rfl (by decide) ?_
          refine z_goto (pc := 99) (tgt := 60) dX6_parts_99 (by decide) ?_
          exact z_drop 6 h3
        · exact absurd hb h81
    · refine ⟨N, ?_, s1⟩
      rw [ptF, if_neg hb]
      subst h2
      refine z_iload (pc := 60) dX6_parts_60 rfl ?_
      refine z_bipush (pc := 62) (v := 9) dX6_parts_62 (by decide) ?_
      refine z_icmp_gt (pc := 64) (tgt := 102) dX6_parts_64 (by decide) (fun h64 => ?_) (fun h64 => ?_)
      · exact absurd (z_gt h64 rfl (show (9 : Int32) = nI 9 from rfl) (by omega) (by omega)) (by omega)
      · refine z_aload_n (pc := 67) dX6_parts_67 rfl ?_
        refine z_iload_n (pc := 68) dX6_parts_68 rfl ?_
        refine z_iload_n (pc := 69) dX6_parts_69 rfl ?_
        refine z_iload (pc := 70) dX6_parts_70 rfl ?_
        refine z_cV3 (pc := 72) c1 (q_cX6_195 _ (by decide)) z_s0 rfl rfl dX6_parts_72 ?_
        refine z_istore (pc := 75) dX6_parts_75 rfl (by decide) ?_
        refine z_iload (pc := 77) dX6_parts_77 rfl ?_
        refine z_bipush (pc := 79) (v := (-9)) dX6_parts_79 (by decide) ?_
        refine z_icmp_eq (pc := 81) (tgt := 96) dX6_parts_81 (by decide) (fun h81 => ?_) (fun h81 => ?_)
        · exact absurd h81 hb
        · refine z_iload_n (pc := 84) dX6_parts_84 rfl ?_
          refine z_if_ne (pc := 85) (tgt := 93) dX6_parts_85 (by decide) (fun h85 => ?_) (fun h85 => ?_)
          · refine z_iload (pc := 93) dX6_parts_93 rfl ?_
            refine z_iret (pc := 95) rfl dX6_parts_95 ?_ ?_
            · rw [if_neg h85]
            · rfl
          · refine z_iload (pc := 88) dX6_parts_88 rfl ?_
            refine z_goto (pc := 90) (tgt := 95) dX6_parts_90 (by decide) ?_
            refine z_iret (pc := 95) rfl dX6_parts_95 ?_ ?_
            · rw [if_pos h85]
            · rfl
set_option maxRecDepth 100000 in
set_option maxHeartbeats 400000 in
theorem o_X6_parts_no {M : z_Mem} {l : Nat → Int32} {n : Nat} {T : TT} {U : UT} {D : DT} {p : PLt} {A : List PLt} {k0 k1 : Option PLt} {L : List (Int32 × Int32)} {sd : Int64} (hR : RX M l n T U D p A k0 k1 L sd) {x y w : Int32} (h : ¬ rfF x y = 0 ∨ w < 0 ∨ 1 < w) : z_Ct mX6_parts [.ref 0, .int x, .int y, .int w] M (some (.int (if rfF x y = 0 then -2 else rfF x y))) M := by
  obtain ⟨rS, rT, rU, rD, rp, rA, r0, r1, rL, rs⟩ := id hR

  refine z_entry (by decide +kernel) (Nat.le_of_ble_eq_true rfl) rfl ?_
  show z_Sm mX6_parts _ _ 0 [some (.ref 0), some (.int x), some (.int y), some (.int w), none, none, none] [] M
  refine z_iload_n (pc := 0) dX6_parts_0 rfl ?_
  refine z_iload_n (pc := 1) dX6_parts_1 rfl ?_
  refine z_cS2 (pc := 2) c_X6_refusalOfTwo (q_cX6_181 _ (by decide)) rfl dX6_parts_2 ?_
  refine z_istore (pc := 5) dX6_parts_5 rfl (by decide) ?_
  refine z_iload (pc := 7) dX6_parts_7 rfl ?_
  refine z_if_eq (pc := 9) (tgt := 15) dX6_parts_9 (by decide) (fun h9 => ?_) (fun h9 => ?_)
  · refine z_iload_n (pc := 15) dX6_parts_15 rfl ?_
    refine z_if_lt (pc := 16) (tgt := 24) dX6_parts_16 (by decide) (fun h16 => ?_) (fun h16 => ?_)
    · refine z_bipush (pc := 24) (v := (-2)) dX6_parts_24 (by decide) ?_
      refine z_iret (pc := 26) rfl dX6_parts_26 ?_ ?_
      · exact (if_pos h9).symm
      · rfl
    · refine z_iload_n (pc := 19) dX6_parts_19 rfl ?_
      refine z_iconst (pc := 20) (v := 1) dX6_parts_20 (by decide) ?_
      refine z_icmp_le (pc := 21) (tgt := 27) dX6_parts_21 (by decide) (fun h21 => ?_) (fun h21 => ?_)
      · exfalso
        exact h.elim (fun q => q h9) (fun q => q.elim h16 (Int32.not_lt.mpr h21))
      · refine z_bipush (pc := 24) (v := (-2)) dX6_parts_24 (by decide) ?_
        refine z_iret (pc := 26) rfl dX6_parts_26 ?_ ?_
        · exact (if_pos h9).symm
        · rfl
  · refine z_iload (pc := 12) dX6_parts_12 rfl ?_
    refine z_iret (pc := 14) rfl dX6_parts_14 ?_ ?_
    · exact (if_neg h9).symm
    · rfl
def paF (T : TT) (p : PLt) (t u : Nat) (w : Int32) : Int32 := if tog p.1 T.2.1 T.2.2.1 T.1 t u = true then ptF T p t u w 9 1 else if w = 0 then 0 else -9
set_option maxRecDepth 100000 in
set_option maxHeartbeats 400000 in
theorem o_X6_parts {M : z_Mem} {l : Nat → Int32} {n : Nat} {T : TT} {U : UT} {D : DT} {p : PLt} {A : List PLt} {k0 k1 : Option PLt} {L : List (Int32 × Int32)} {sd : Int64} (hR : RX M l n T U D p A k0 k1 L sd) (ho : sm7 p.1) {x y w : Int32} (h : rfF x y = 0) (hw : ¬ (w < 0 ∨ 1 < w)) : ∃ M1, z_Ct mX6_parts [.ref 0, .int x, .int y, .int w] M (some (.int (paF T p x.toNatClampNeg y.toNatClampNeg w))) M1 ∧ RX M1 l n T U D p A k0 k1 L sd ∧ Fx M M1 := by
  obtain ⟨rS, rT, rU, rD, rp, rA, r0, r1, rL, rs⟩ := id hR
  obtain ⟨hx, hy, -⟩ := rf_at h
  have hx := thg_at hx
  have hy := thg_at hy
  have hat := c_X4_areTogether rT.1 (o := p.1) hx.2 hy.2 hy.1
  by_cases hb : tog p.1 T.2.1 T.2.2.1 T.1 x.toNatClampNeg y.toNatClampNeg = true
  · obtain ⟨M2, h3, s2⟩ := s_X6_parts_60 ho (w := w) (z := rfF x y) hx.2 hy.2 hy.1 9 M 1 1 rT rp rfl (by omega)
    refine ⟨M2, ?_, RX_th hR s2 (by simp), s2.fx (by simp)⟩
    rw [paF, if_pos hb]
    rw [hb] at hat
    refine z_entry (by decide +kernel) (Nat.le_of_ble_eq_true rfl) rfl ?_
    show z_Sm mX6_parts _ _ 0 [some (.ref 0), some (.int x), some (.int y), some (.int w), none, none, none] [] M
    refine z_iload_n (pc := 0) dX6_parts_0 rfl ?_
    refine z_iload_n (pc := 1) dX6_parts_1 rfl ?_
    refine z_cS2 (pc := 2) c_X6_refusalOfTwo (q_cX6_181 _ (by decide)) rfl dX6_parts_2 ?_
    refine z_istore (pc := 5) dX6_parts_5 rfl (by decide) ?_
    refine z_iload (pc := 7) dX6_parts_7 rfl ?_
    refine z_if_eq (pc := 9) (tgt := 15) dX6_parts_9 (by decide) (fun h9 => ?_) (fun h9 => ?_)
    · refine z_iload_n (pc := 15) dX6_parts_15 rfl ?_
      refine z_if_lt (pc := 16) (tgt := 24) dX6_parts_16 (by decide) (fun h16 => ?_) (fun h16 => ?_)
      · exact absurd (Or.inl h16) hw
      · refine z_iload_n (pc := 19) dX6_parts_19 rfl ?_
        refine z_iconst (pc := 20) (v := 1) dX6_parts_20 (by decide) ?_
        refine z_icmp_le (pc := 21) (tgt := 27) dX6_parts_21 (by decide) (fun h21 => ?_) (fun h21 => ?_)
        · refine z_aload_n (pc := 27) dX6_parts_27 rfl ?_
          refine z_getR (pc := 28) 3 q_fX6_19 z_s0 rfl dX6_parts_28 ?_
          refine z_iload_n (pc := 31) dX6_parts_31 rfl ?_
          refine z_iload_n (pc := 32) dX6_parts_32 rfl ?_
          refine z_aload_n (pc := 33) dX6_parts_33 rfl ?_
          refine z_getR (pc := 34) 14 q_fX6_35 z_s0 rfl dX6_parts_34 ?_
          refine z_getI (pc := 37) q_fX6_135 z_s14 rfl dX6_parts_37 ?_
          rw [rp.1]
          refine z_cV3 (pc := 40) hat (q_cX6_191 _ (by decide)) z_s3 rfl rfl dX6_parts_40 ?_
          refine z_if_ne (pc := 43) (tgt := 57) dX6_parts_43 (by decide) (fun h43 => ?_) (fun h43 => ?_)
          · refine z_iconst (pc := 57) (v := 1) dX6_parts_57 (by decide) ?_
            refine z_istore (pc := 58) dX6_parts_58 rfl (by decide) ?_
            exact h3
          · exact absurd h43 (by decide)
        · exact absurd (Or.inr (Int32.not_le.mp h21)) hw
    · exact absurd h h9
  · refine ⟨M, ?_, hR, Fx.rf⟩
    rw [paF, if_neg hb]
    rw [if_neg hb] at hat
    refine z_entry (by decide +kernel) (Nat.le_of_ble_eq_true rfl) rfl ?_
    show z_Sm mX6_parts _ _ 0 [some (.ref 0), some (.int x), some (.int y), some (.int w), none, none, none] [] M
    refine z_iload_n (pc := 0) dX6_parts_0 rfl ?_
    refine z_iload_n (pc := 1) dX6_parts_1 rfl ?_
    refine z_cS2 (pc := 2) c_X6_refusalOfTwo (q_cX6_181 _ (by decide)) rfl dX6_parts_2 ?_
    refine z_istore (pc := 5) dX6_parts_5 rfl (by decide) ?_
    refine z_iload (pc := 7) dX6_parts_7 rfl ?_
    refine z_if_eq (pc := 9) (tgt := 15) dX6_parts_9 (by decide) (fun h9 => ?_) (fun h9 => ?_)
    · refine z_iload_n (pc := 15) dX6_parts_15 rfl ?_
      refine z_if_lt (pc := 16) (tgt := 24) dX6_parts_16 (by decide) (fun h16 => ?_) (fun h16 => ?_)
      · exact absurd (Or.inl h16) hw
      · refine z_iload_n (pc := 19) dX6_parts_19 rfl ?_
        refine z_iconst (pc := 20) (v := 1) dX6_parts_20 (by decide) ?_
        refine z_icmp_le (pc := 21) (tgt := 27) dX6_parts_21 (by decide) (fun h21 => ?_) (fun h21 => ?_)
        · refine z_aload_n (pc := 27) dX6_parts_27 rfl ?_
          refine z_getR (pc := 28) 3 q_fX6_19 z_s0 rfl dX6_parts_28 ?_
          refine z_iload_n (pc := 31) dX6_parts_31 rfl ?_
          refine z_iload_n (pc := 32) dX6_parts_32 rfl ?_
          refine z_aload_n (pc := 33) dX6_parts_33 rfl ?_
          refine z_getR (pc := 34) 14 q_fX6_35 z_s0 rfl dX6_parts_34 ?_
          refine z_getI (pc := 37) q_fX6_135 z_s14 rfl dX6_parts_37 ?_
          rw [rp.1]
          refine z_cV3 (pc := 40) hat (q_cX6_191 _ (by decide)) z_s3 rfl rfl dX6_parts_40 ?_
          refine z_if_ne (pc := 43) (tgt := 57) dX6_parts_43 (by decide) (fun h43 => ?_) (fun h43 => ?_)
          · exact absurd rfl h43
          · refine z_iload_n (pc := 46) dX6_parts_46 rfl ?_
            refine z_if_ne (pc := 47) (tgt := 54) dX6_parts_47 (by decide) (fun h47 => ?_) (fun h47 => ?_)
            · refine z_bipush (pc := 54) (v := (-9)) dX6_parts_54 (by decide) ?_
              refine z_iret (pc := 56) rfl dX6_parts_56 ?_ ?_
              · exact (if_neg h47).symm
              · rfl
            · refine z_iconst (pc := 50) (v := 0) dX6_parts_50 (by decide) ?_
              refine z_goto (pc := 51) (tgt := 56) dX6_parts_51 (by decide) ?_
              refine z_iret (pc := 56) rfl dX6_parts_56 ?_ ?_
              · exact (if_pos h47).symm
              · rfl
        · exact absurd (Or.inr (Int32.not_le.mp h21)) hw
    · exact absurd h h9
