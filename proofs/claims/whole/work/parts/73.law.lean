theorem J.up {k : Nat} {M : z_Mem} (h : J k M) : J (k + 1) M := by
  obtain ⟨l, n, T, U, D, p, A, k0, k1, L, sd, hX, hM, g⟩ := h
  exact ⟨l, n, T, U, D, p, A, k0, k1, L, sd, hX, hM, g.up⟩
set_option maxRecDepth 100000 in
set_option maxHeartbeats 400000 in
theorem q_loop {xs : Nat → Int32} {Ln : Nat} (hL : Ln ≤ 320) : ∀ (f k : Nat) (M : z_Mem), Ln - 5 * k < f → J k M → 5 * k ≤ 320 → q_Sm xs Ln 18 [some (.ref 2000), some (.ref 0), some (.ref 59), some (.int (nI (5 * k)))] [] M := by
  intro f
  induction f with
  | zero =>
    intro k M hf hJ hk
    exact absurd hf (Nat.not_lt_zero _)
  | succ f ih =>
    intro k M hf hJ hk
    have e5 : (nI Ln - 5).toInt = (Ln : Int) - 5 := pk_sub_toInt (b := 5) (by omega) (by decide)
    have ek : (nI (5 * k)).toInt = ((5 * k : Nat) : Int) := nI_toInt (by omega)
    refine q_iload_n (pc := 18) dL_18 rfl ?_
    refine q_aload_n (pc := 19) dL_19 rfl ?_
    refine q_slen (pc := 20) dL_20 ?_
    refine q_iconst (pc := 21) (v := 5) dL_21 (by decide) ?_
    refine q_isub (pc := 22) dL_22 ?_
    refine q_icmp_gt (pc := 23) (tgt := 1000) dL_23 (by decide) (fun h => ?_) (fun h => ?_)
    · refine q_iconst (pc := 1000) (v := 1) dL_1000 (by decide) ?_
      exact q_ret (pc := 1001) (st := []) dL_1001
    · have hk5 : 5 * k + 5 ≤ Ln := by
        rw [Int32.lt_iff_toInt_lt, e5, ek] at h
        omega
      have kk : ∀ M2, J (k + 1) M2 → q_Sm xs Ln 994 [some (.ref 2000), some (.ref 0), some (.ref 59), some (.int (nI (5 * k)))] [] M2 := fun M2 hJ2 => by
        refine q_iinc (pc := 994) (v := nI (5 * (k + 1))) dL_994 rfl (show nI (5 * k) + Int32.ofInt 5 = nI (5 * (k + 1)) from nI_add (5 * k) 5) rfl (by decide) ?_
        refine q_goto (pc := 997) (tgt := 18) dL_997 (by decide) ?_
        exact ih (k + 1) M2 (by omega) hJ2 (by omega)
      refine q_aload_n (pc := 26) dL_26 rfl ?_
      refine q_iload_n (pc := 27) dL_27 rfl ?_
      refine q_sld (pc := 28) (5 * k) ⟨rfl, by omega⟩ hL dL_28 ?_
      refine q_bipush (pc := 29) (v := 31) dL_29 (by decide) ?_
      refine q_iand (pc := 31) dL_31 ?_
      obtain ⟨j, hj, e⟩ := pk_andE (xs (5 * k)) (m := 31) 5 (by decide)
      rw [e]
      by_cases h29 : j < 29
      · rcases (show j = 0 ∨ j = 1 ∨ j = 2 ∨ j = 3 ∨ j = 4 ∨ j = 5 ∨ j = 6 ∨ j = 7 ∨ j = 8 ∨ j = 9 ∨ j = 10 ∨ j = 11 ∨ j = 12 ∨ j = 13 ∨ j = 14 ∨ j = 15 ∨ j = 16 ∨ j = 17 ∨ j = 18 ∨ j = 19 ∨ j = 20 ∨ j = 21 ∨ j = 22 ∨ j = 23 ∨ j = 24 ∨ j = 25 ∨ j = 26 ∨ j = 27 ∨ j = 28 by omega) with rfl | rfl | rfl | rfl | rfl | rfl | rfl | rfl | rfl | rfl | rfl | rfl | rfl | rfl | rfl | rfl | rfl | rfl | rfl | rfl | rfl | rfl | rfl | rfl | rfl | rfl | rfl | rfl | rfl
        · exact q_tswIn (pc := 32) (off := 132) (tgt := 164) dL_32 (by decide) (by decide) (by decide) (by decide) (q_case0 hL hk5 hJ kk)
        · exact q_tswIn (pc := 32) (off := 155) (tgt := 187) dL_32 (by decide) (by decide) (by decide) (by decide) (q_case1 hL hk5 hJ kk)
        · exact q_tswIn (pc := 32) (off := 168) (tgt := 200) dL_32 (by decide) (by decide) (by decide) (by decide) (q_case2 hL hk5 hJ kk)
        · exact q_tswIn (pc := 32) (off := 181) (tgt := 213) dL_32 (by decide) (by decide) (by decide) (by decide) (q_case3 hL hk5 hJ kk)
        · exact q_tswIn (pc := 32) (off := 194) (tgt := 226) dL_32 (by decide) (by decide) (by decide) (by decide) (q_case4 hL hk5 hJ kk)
        · exact q_tswIn (pc := 32) (off := 227) (tgt := 259) dL_32 (by decide) (by decide) (by decide) (by decide) (q_case5 hL hk5 hJ kk)
        · exact q_tswIn (pc := 32) (off := 250) (tgt := 282) dL_32 (by decide) (by decide) (by decide) (by decide) (q_case6 hL hk5 hJ kk)
        · exact q_tswIn (pc := 32) (off := 263) (tgt := 295) dL_32 (by decide) (by decide) (by decide) (by decide) (q_case7 hL hk5 hJ kk)
        · exact q_tswIn (pc := 32) (off := 296) (tgt := 328) dL_32 (by decide) (by decide) (by decide) (by decide) (q_case8 hL hk5 hJ kk)
        · exact q_tswIn (pc := 32) (off := 319) (tgt := 351) dL_32 (by decide) (by decide) (by decide) (by decide) (q_case9 hL hk5 hJ kk)
        · exact q_tswIn (pc := 32) (off := 342) (tgt := 374) dL_32 (by decide) (by decide) (by decide) (by decide) (q_case10 hL hk5 hJ kk)
        · exact q_tswIn (pc := 32) (off := 355) (tgt := 387) dL_32 (by decide) (by decide) (by decide) (by decide) (q_case11 hL hk5 hJ kk)
        · exact q_tswIn (pc := 32) (off := 378) (tgt := 410) dL_32 (by decide) (by decide) (by decide) (by decide) (q_case12 hL hk5 hJ kk)
        · exact q_tswIn (pc := 32) (off := 401) (tgt := 433) dL_32 (by decide) (by decide) (by decide) (by decide) (q_case13 hL hk5 hJ kk)
        · exact q_tswIn (pc := 32) (off := 424) (tgt := 456) dL_32 (by decide) (by decide) (by decide) (by decide) (q_case14 hL hk5 hJ kk)
        · exact q_tswIn (pc := 32) (off := 457) (tgt := 489) dL_32 (by decide) (by decide) (by decide) (by decide) (q_case15 hL hk5 hJ kk)
        · exact q_tswIn (pc := 32) (off := 500) (tgt := 532) dL_32 (by decide) (by decide) (by decide) (by decide) (q_case16 hL hk5 hJ kk)
        · exact q_tswIn (pc := 32) (off := 523) (tgt := 555) dL_32 (by decide) (by decide) (by decide) (by decide) (q_case17 hL hk5 hJ kk)
        · exact q_tswIn (pc := 32) (off := 586) (tgt := 618) dL_32 (by decide) (by decide) (by decide) (by decide) (q_case18 hL hk5 hJ kk)
        · exact q_tswIn (pc := 32) (off := 619) (tgt := 651) dL_32 (by decide) (by decide) (by decide) (by decide) (q_case19 hL hk5 hJ kk)
        · exact q_tswIn (pc := 32) (off := 632) (tgt := 664) dL_32 (by decide) (by decide) (by decide) (by decide) (q_case20 hL hk5 hJ kk)
        · exact q_tswIn (pc := 32) (off := 655) (tgt := 687) dL_32 (by decide) (by decide) (by decide) (by decide) (q_case21 hL hk5 hJ kk)
        · exact q_tswIn (pc := 32) (off := 704) (tgt := 736) dL_32 (by decide) (by decide) (by decide) (by decide) (q_case22 hL hk5 hJ kk)
        · exact q_tswIn (pc := 32) (off := 747) (tgt := 779) dL_32 (by decide) (by decide) (by decide) (by decide) (q_case23 hL hk5 hJ kk)
        · exact q_tswIn (pc := 32) (off := 816) (tgt := 848) dL_32 (by decide) (by decide) (by decide) (by decide) (q_case24 hL hk5 hJ kk)
        · exact q_tswIn (pc := 32) (off := 870) (tgt := 902) dL_32 (by decide) (by decide) (by decide) (by decide) (q_case25 hL hk5 hJ kk)
        · exact q_tswIn (pc := 32) (off := 893) (tgt := 925) dL_32 (by decide) (by decide) (by decide) (by decide) (q_case26 hL hk5 hJ kk)
        · exact q_tswIn (pc := 32) (off := 916) (tgt := 948) dL_32 (by decide) (by decide) (by decide) (by decide) (q_case27 hL hk5 hJ kk)
        · exact q_tswIn (pc := 32) (off := 939) (tgt := 971) dL_32 (by decide) (by decide) (by decide) (by decide) (q_case28 hL hk5 hJ kk)
      · exact q_tswOut (pc := 32) (tgt := 994) dL_32 (Or.inr (by rw [nI_toInt (by omega)]; omega)) (by decide) (kk M hJ.up)
theorem y_i6 : y_Cl mX6_init 58 357 [.ref 0] [yO 6 [2, 2, 2, 2, 2, 2, 2, 2, 2, 2, 2, 1]] yL59 := y_X6_init
theorem y_i7 : y_Cl mX7_init 19 326 [.ref 59] (yL59 ++ [yO 7 [0, 0, 0, 2, 2, 2, 2, 2, 2, 2, 2, 2, 2, 2, 2, 0, 0, 0, 2, 0, 0, 0, 2, 0, 0, 2, 0, 2, 2, 1, 2, 2]]) yL79 := y_X7_init
set_option maxRecDepth 100000 in
set_option maxHeartbeats 4000000 in
theorem whole_start {p : Program} {e : Env} {s : State} {m : MethodId} {below : List Frame} {meth : Method} {c : Code} (l : Launch) (hflags : l.flags = flags0) {b L : Nat} {xs : Nat → Int32} (hL : L ≤ 320) (C0 : lw_At p s m meth c b L xs) : W p l e room_1 s m #[Value.ref b] below meth c s.heap [] 0 0 (lw_Z below #[Value.ref b] s) (entryFrame m ([Value.ref b] : List Value).toArray 4) := by
  obtain ⟨hx, hb, hr, hml, hown, hts, hX, hbl, hlk, hg⟩ := C0
  obtain ⟨D, cy, hK⟩ := q_classes hts
  obtain ⟨ad, hst, had, ha0, hab⟩ := q_statics hts hg b
  have htb := q_tb hts
  have F : q_Fx D cy ad p s m meth c b L xs := ⟨hx, hb, hr, hml, hown, hts, hX, hbl, hlk, hK, hst, hab, had, ha0⟩
  have w0 : y_Wo D cy ad s (y_L []) ([] : List y_S).length s.heap [] := ⟨fun k hk => absurd hk (Nat.not_lt_zero k), ha0.symm, va_S.rf, had, by decide⟩
  have hl := lv_entry ([.ref b]) (n := 4) (Nat.le_of_ble_eq_true rfl)
  rw [lg_entry_eq]
  generalize (lg_sl ([.ref b]) ++ List.replicate (4 - (lg_sl ([.ref b])).length) Slot.unset).toArray = ar at hl ⊢
  have h0 : z_Lo ad 4 [some (.ref 2000), none, none, none] ar := ⟨hl.1, hl.2.1, fun i v hi => by
    match i, hi with
    | 0, hi =>
      cases hi
      show ar[0]? = some (.val (.ref (ad 2000)))
      rw [hab]
      exact hl.2.2 (0, .ref b) List.mem_cons_self
    | 1, hi => cases hi
    | 2, hi => cases hi
    | 3, hi => cases hi
    | i + 4, hi => simp at hi⟩
  refine yw_new (own := R_law) (ci := 6) (codes := [2, 2, 2, 2, 2, 2, 2, 2, 2, 2, 2, 1]) hx hb hts (fun w h => z_tb_lw (z_u6 w h)) tyX6 tyX6_ok hown (hts (.classLink R_law 7 RX6) (lw_in 11 (by decide +kernel))) (hts _ (z_tb_lw q_tX6)) (hts _ (z_tb_lw q_jX6)) hK w0 (by decide) rfl (fun j hj => by rcases (show j = 0 ∨ j = 1 ∨ j = 2 ∨ j = 3 ∨ j = 4 ∨ j = 5 ∨ j = 6 ∨ j = 7 ∨ j = 8 ∨ j = 9 ∨ j = 10 ∨ j = 11 by omega) with rfl | rfl | rfl | rfl | rfl | rfl | rfl | rfl | rfl | rfl | rfl | rfl <;> rfl) (by decide) (by decide) dL_0 (fun H1 w1 => ?_)
  rw [y_L_push] at w1
  have w1 : y_Wo D cy ad s (y_L [yO 6 [2, 2, 2, 2, 2, 2, 2, 2, 2, 2, 2, 1]]) ([yO 6 [2, 2, 2, 2, 2, 2, 2, 2, 2, 2, 2, 1]] : List y_S).length H1 [] := w1
  refine lv_dup hx hb dL_3 rfl ?_
  have g6 := y_ciX6 9 (by decide)
  refine yw_after w1 (va_runI (As := []) (rest := [.ref (ad 0)]) (nL := 4) ⟨hx, hb, hml, hown, hts⟩ (y_i6 l D cy ad) (cwI 0 hts (y_ws2 (fun _ h => z_tb_lw h) g6) rfl rfl rfl (hts _ (z_tb_lw g6.1.2.1)) (hts (.methodLink R_law 9 yX6_init) (lw_in 13 (by decide +kernel))) (hts _ (z_tb_lw g6.1.1)) rfl g6.2.1 ⟨g6.2.2.1.1, Nat.le_trans g6.2.2.1.2 (by decide)⟩) ⟨y_blind, fun U hU hW => ⟨rfl, y_pre_at hK htb w1 hU hW⟩⟩ rfl rfl h0.1 rfl (lv_room (Nat.le_of_ble_eq_true rfl)) dL_4 ⟨by decide, by decide⟩) (fun H2 locs2 w2 => ?_)
  refine lv_astore_n hx hb dL_7 rfl (z_lvh h0) (by decide) rfl (fun ar2 h2 => ?_)
  have h1 : z_Lo ad 4 [some (.ref 2000), some (.ref 0), none, none] ar2 := z_lv1 (i := 1) (v := .ref 0) rfl h2
  refine yw_new (own := R_law) (ci := 7) (codes := [0, 0, 0, 2, 2, 2, 2, 2, 2, 2, 2, 2, 2, 2, 2, 0, 0, 0, 2, 0, 0, 0, 2, 0, 0, 2, 0, 2, 2, 1, 2, 2]) hx hb hts (fun w h => z_tb_lw (z_u7 w h)) tyX7 tyX7_ok hown (hts (.classLink R_law 10 RX7) (lw_in 558 (by decide +kernel))) (hts _ (z_tb_lw q_tX7)) (hts _ (z_tb_lw q_jX7)) hK w2 (by decide) rfl (fun j hj => by rcases (show j = 0 ∨ j = 1 ∨ j = 2 ∨ j = 3 ∨ j = 4 ∨ j = 5 ∨ j = 6 ∨ j = 7 ∨ j = 8 ∨ j = 9 ∨ j = 10 ∨ j = 11 ∨ j = 12 ∨ j = 13 ∨ j = 14 ∨ j = 15 ∨ j = 16 ∨ j = 17 ∨ j = 18 ∨ j = 19 ∨ j = 20 ∨ j = 21 ∨ j = 22 ∨ j = 23 ∨ j = 24 ∨ j = 25 ∨ j = 26 ∨ j = 27 ∨ j = 28 ∨ j = 29 ∨ j = 30 ∨ j = 31 by omega) with rfl | rfl | rfl | rfl | rfl | rfl | rfl | rfl | rfl | rfl | rfl | rfl | rfl | rfl | rfl | rfl | rfl | rfl | rfl | rfl | rfl | rfl | rfl | rfl | rfl | rfl | rfl | rfl | rfl | rfl | rfl | rfl <;> rfl) (by decide) (by decide) dL_8 (fun H3 w3 => ?_)
  rw [y_L_push] at w3
  have w3 : y_Wo D cy ad s (y_L (yL59 ++ [yO 7 [0, 0, 0, 2, 2, 2, 2, 2, 2, 2, 2, 2, 2, 2, 2, 0, 0, 0, 2, 0, 0, 0, 2, 0, 0, 2, 0, 2, 2, 1, 2, 2]])) (yL59 ++ [yO 7 [0, 0, 0, 2, 2, 2, 2, 2, 2, 2, 2, 2, 2, 2, 2, 0, 0, 0, 2, 0, 0, 0, 2, 0, 0, 2, 0, 2, 2, 1, 2, 2]] : List y_S).length H3 locs2 := w3
  refine lv_dup hx hb dL_11 rfl ?_
  have g7 := y_ciX7 9 (by decide)
  refine yw_after w3 (va_runI (As := []) (rest := [.ref (ad 59)]) (nL := 4) ⟨hx, hb, hml, hown, hts⟩ (y_i7 l D cy ad) (cwI 0 hts (y_ws2 (fun _ h => z_tb_lw h) g7) rfl rfl rfl (hts _ (z_tb_lw g7.1.2.1)) (hts (.methodLink R_law 12 yX7_init) (lw_in 560 (by decide +kernel))) (hts _ (z_tb_lw g7.1.1)) rfl g7.2.1 ⟨g7.2.2.1.1, Nat.le_trans g7.2.2.1.2 (by decide)⟩) ⟨y_blind, fun U hU hW => ⟨rfl, y_pre_at hK htb w3 hU hW⟩⟩ rfl rfl h1.1 rfl (lv_room (Nat.le_of_ble_eq_true rfl)) dL_12 ⟨by decide, by decide⟩) (fun H4 locs4 w4 => ?_)
  have w4 : y_Wo D cy ad s (y_L yL79) 79 H4 locs4 := w4
  refine lv_astore_n hx hb dL_15 rfl (z_lvh h1) (by decide) rfl (fun ar3 h3 => ?_)
  have h2 : z_Lo ad 4 [some (.ref 2000), some (.ref 0), some (.ref 59), none] ar3 := z_lv1 (i := 2) (v := .ref 59) rfl h3
  refine lv_iconst (v := 0) hx hb dL_16 (by decide) ?_
  refine lv_istore_n hx hb dL_17 rfl (z_lvh h2) (by decide) rfl (fun ar4 h4 => ?_)
  have h5 : z_Lo ad 4 [some (.ref 2000), some (.ref 0), some (.ref 59), some (.int (nI (5 * 0)))] ar4 := z_lv1 (i := 3) (v := .int 0) rfl h4
  refine W.widen (k := 600000) (n := 7302250) (Nat.le_of_ble_eq_true rfl) (Nat.le_of_ble_eq_true rfl) ?_
  exact q_loop hL (L + 1) 0 M00 (by omega) J_0 (by decide) l D cy ad p e s m below meth c b H4 locs4 ar4 F ⟨y_to_z w4.1, z_D had, w4.2.2.1⟩ h5
