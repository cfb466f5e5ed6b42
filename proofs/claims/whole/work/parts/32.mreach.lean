set_option maxRecDepth 100000 in
set_option maxHeartbeats 400000 in
theorem s_X7_withBy_17 {M M2 : z_Mem} {r : Option Value} {T : TT} (hT : TN M T) {x1 o x0 rd : Int32} (kk : z_Sm mX7_withBy r M2 107 [some (.ref 59), some (.int x1), some (.int o), some (.int (rIn o T.2.1 T.2.2.1 T.1 x0)), some (.int rd), none, none] [] M) (j : Nat) (hj : j ≤ T.1) (xj ij : Int32) (v6 : Option Value) (h1 : xj = rIn o T.2.1 T.2.2.1 j x0) (h2 : ij = nI j) : z_Sm mX7_withBy r M2 17 [some (.ref 59), some (.int x1), some (.int o), some (.int (xj)), some (.int rd), some (.int ij), v6] [] M := by
  have hP := hT.1
  have hP7 := hT.2.1
  refine z_iload (pc := 17) dX7_withBy_17 rfl ?_
  refine z_aload_n (pc := 19) dX7_withBy_19 rfl ?_
  refine z_getI (pc := 20) q_fX7_105 z_s59 rfl dX7_withBy_20 ?_
  refine z_icmp_ge (pc := 23) (tgt := 107) dX7_withBy_23 (by decide) (fun h23 => ?_) (fun h23 => ?_)
  · have hPj : T.1 ≤ j := z_ge h23 h2 hP (by omega) (by omega)
    have e : j = T.1 := by omega
    subst e
    subst h1
    exact z_drop 5 (z_drop 6 kk)
  · have hlt : j < T.1 := z_lt h23 h2 hP (by omega) (by omega)
    obtain ⟨hA, hB, ha6, hb6, -⟩ := hT.2.2 j hlt
    refine z_iload_n (pc := 26) dX7_withBy_26 rfl ?_
    refine z_iload (pc := 27) dX7_withBy_27 rfl ?_
    refine z_cS2 (pc := 29) (c_X7_has h2 (by omega)) (q_cX7_119 _ (by decide)) rfl dX7_withBy_29 ?_
    refine z_if_ne (pc := 32) (tgt := 67) dX7_withBy_32 (by decide) (fun h32 => ?_) (fun h32 => ?_)
    · refine z_iconst (pc := 67) (v := 0) dX7_withBy_67 (by decide) ?_
      refine z_istore (pc := 68) dX7_withBy_68 rfl (by decide) ?_
      refine z_iload_n (pc := 70) dX7_withBy_70 rfl ?_
      refine z_iload (pc := 71) dX7_withBy_71 rfl ?_
      refine z_if_eq (pc := 73) (tgt := 98) dX7_withBy_73 (by decide) (fun h73 => ?_) (fun h73 => ?_)
      · refine z_iconst (pc := 98) (v := 0) dX7_withBy_98 (by decide) ?_
        refine z_ior (pc := 99) dX7_withBy_99 ?_
        refine z_istore_n (pc := 100) dX7_withBy_100 rfl (by decide) ?_
        refine z_iinc (pc := 101) dX7_withBy_101 rfl rfl rfl (by decide) ?_
        refine z_goto (pc := 104) (tgt := 17) dX7_withBy_104 (by decide) ?_
        have h32 := z_t h32
        exact s_X7_withBy_17 hT kk (j + 1) hlt _ _ _ (by rw [Int32.or_zero, h1, rIn_no (Or.inl h32)]) (z_n1 h2)
      · refine z_iconst (pc := 76) (v := 1) dX7_withBy_76 (by decide) ?_
        refine z_aload_n (pc := 77) dX7_withBy_77 rfl ?_
        refine z_getR (pc := 78) 60 q_fX7_7 z_s59 rfl dX7_withBy_78 ?_
        refine z_iload (pc := 81) dX7_withBy_81 rfl ?_
        refine z_iald (pc := 83) (j) z_s60 ⟨h2, by omega⟩ dX7_withBy_83 ?_
        refine z_ishl (pc := 84) dX7_withBy_84 ?_
        refine z_iconst (pc := 85) (v := 1) dX7_withBy_85 (by decide) ?_
        refine z_aload_n (pc := 86) dX7_withBy_86 rfl ?_
        refine z_getR (pc := 87) 61 q_fX7_13 z_s59 rfl dX7_withBy_87 ?_
        refine z_iload (pc := 90) dX7_withBy_90 rfl ?_
        refine z_iald (pc := 92) (j) z_s61 ⟨h2, by omega⟩ dX7_withBy_92 ?_
        refine z_ishl (pc := 93) dX7_withBy_93 ?_
        refine z_ior (pc := 94) dX7_withBy_94 ?_
        refine z_goto (pc := 95) (tgt := 99) dX7_withBy_95 (by decide) ?_
        refine z_ior (pc := 99) dX7_withBy_99 ?_
        refine z_istore_n (pc := 100) dX7_withBy_100 rfl (by decide) ?_
        refine z_iinc (pc := 101) dX7_withBy_101 rfl rfl rfl (by decide) ?_
        refine z_goto (pc := 104) (tgt := 17) dX7_withBy_104 (by decide) ?_
        exact absurd rfl h73
    · refine z_iload_n (pc := 35) dX7_withBy_35 rfl ?_
      refine z_aload_n (pc := 36) dX7_withBy_36 rfl ?_
      refine z_getR (pc := 37) 60 q_fX7_7 z_s59 rfl dX7_withBy_37 ?_
      refine z_iload (pc := 40) dX7_withBy_40 rfl ?_
      refine z_iald (pc := 42) (j) z_s60 ⟨h2, by omega⟩ dX7_withBy_42 ?_
      refine z_cS2 (pc := 43) (c_X7_has hA (by omega)) (q_cX7_119 _ (by decide)) rfl dX7_withBy_43 ?_
      refine z_if_ne (pc := 46) (tgt := 63) dX7_withBy_46 (by decide) (fun h46 => ?_) (fun h46 => ?_)
      · refine z_iconst (pc := 63) (v := 1) dX7_withBy_63 (by decide) ?_
        refine z_goto (pc := 64) (tgt := 68) dX7_withBy_64 (by decide) ?_
        refine z_istore (pc := 68) dX7_withBy_68 rfl (by decide) ?_
        refine z_iload_n (pc := 70) dX7_withBy_70 rfl ?_
        refine z_iload (pc := 71) dX7_withBy_71 rfl ?_
        refine z_if_eq (pc := 73) (tgt := 98) dX7_withBy_73 (by decide) (fun h73 => ?_) (fun h73 => ?_)
        · refine z_iconst (pc := 98) (v := 0) dX7_withBy_98 (by decide) ?_
          refine z_ior (pc := 99) dX7_withBy_99 ?_
          refine z_istore_n (pc := 100) dX7_withBy_100 rfl (by decide) ?_
          refine z_iinc (pc := 101) dX7_withBy_101 rfl rfl rfl (by decide) ?_
          refine z_goto (pc := 104) (tgt := 17) dX7_withBy_104 (by decide) ?_
          exact absurd h73 (by decide)
        · refine z_iconst (pc := 76) (v := 1) dX7_withBy_76 (by decide) ?_
          refine z_aload_n (pc := 77) dX7_withBy_77 rfl ?_
          refine z_getR (pc := 78) 60 q_fX7_7 z_s59 rfl dX7_withBy_78 ?_
          refine z_iload (pc := 81) dX7_withBy_81 rfl ?_
          refine z_iald (pc := 83) (j) z_s60 ⟨h2, by omega⟩ dX7_withBy_83 ?_
          refine z_ishl (pc := 84) dX7_withBy_84 ?_
          refine z_iconst (pc := 85) (v := 1) dX7_withBy_85 (by decide) ?_
          refine z_aload_n (pc := 86) dX7_withBy_86 rfl ?_
          refine z_getR (pc := 87) 61 q_fX7_13 z_s59 rfl dX7_withBy_87 ?_
          refine z_iload (pc := 90) dX7_withBy_90 rfl ?_
          refine z_iald (pc := 92) (j) z_s61 ⟨h2, by omega⟩ dX7_withBy_92 ?_
          refine z_ishl (pc := 93) dX7_withBy_93 ?_
          refine z_ior (pc := 94) dX7_withBy_94 ?_
          refine z_goto (pc := 95) (tgt := 99) dX7_withBy_95 (by decide) ?_
          refine z_ior (pc := 99) dX7_withBy_99 ?_
          refine z_istore_n (pc := 100) dX7_withBy_100 rfl (by decide) ?_
          refine z_iinc (pc := 101) dX7_withBy_101 rfl rfl rfl (by decide) ?_
          refine z_goto (pc := 104) (tgt := 17) dX7_withBy_104 (by decide) ?_
          have h32 := z_f h32
          have h46 := z_t h46
          rw [h1] at h46
          exact s_X7_withBy_17 hT kk (j + 1) hlt _ _ _ (by rw [h1, hA, hB, rIn_yes h32 (Or.inl h46)]; rfl) (z_n1 h2)
      · refine z_iload_n (pc := 49) dX7_withBy_49 rfl ?_
        refine z_aload_n (pc := 50) dX7_withBy_50 rfl ?_
        refine z_getR (pc := 51) 61 q_fX7_13 z_s59 rfl dX7_withBy_51 ?_
        refine z_iload (pc := 54) dX7_withBy_54 rfl ?_
        refine z_iald (pc := 56) (j) z_s61 ⟨h2, by omega⟩ dX7_withBy_56 ?_
        refine z_cS2 (pc := 57) (c_X7_has hB (by omega)) (q_cX7_119 _ (by decide)) rfl dX7_withBy_57 ?_
        refine z_if_eq (pc := 60) (tgt := 67) dX7_withBy_60 (by decide) (fun h60 => ?_) (fun h60 => ?_)
        · refine z_iconst (pc := 67) (v := 0) dX7_withBy_67 (by decide) ?_
          refine z_istore (pc := 68) dX7_withBy_68 rfl (by decide) ?_
          refine z_iload_n (pc := 70) dX7_withBy_70 rfl ?_
          refine z_iload (pc := 71) dX7_withBy_71 rfl ?_
          refine z_if_eq (pc := 73) (tgt := 98) dX7_withBy_73 (by decide) (fun h73 => ?_) (fun h73 => ?_)
          · refine z_iconst (pc := 98) (v := 0) dX7_withBy_98 (by decide) ?_
            refine z_ior (pc := 99) dX7_withBy_99 ?_
            refine z_istore_n (pc := 100) dX7_withBy_100 rfl (by decide) ?_
            refine z_iinc (pc := 101) dX7_withBy_101 rfl rfl rfl (by decide) ?_
            refine z_goto (pc := 104) (tgt := 17) dX7_withBy_104 (by decide) ?_
            have h46 := z_f h46
            have h60 := z_f h60
            rw [h1] at h46 h60
            exact s_X7_withBy_17 hT kk (j + 1) hlt _ _ _ (by rw [Int32.or_zero, h1, rIn_no (Or.inr ⟨h46, h60⟩)]) (z_n1 h2)
          · refine z_iconst (pc := 76) (v := 1) dX7_withBy_76 (by decide) ?_
            refine z_aload_n (pc := 77) dX7_withBy_77 rfl ?_
            refine z_getR (pc := 78) 60 q_fX7_7 z_s59 rfl dX7_withBy_78 ?_
            refine z_iload (pc := 81) dX7_withBy_81 rfl ?_
            refine z_iald (pc := 83) (j) z_s60 ⟨h2, by omega⟩ dX7_withBy_83 ?_
            refine z_ishl (pc := 84) dX7_withBy_84 ?_
            refine z_iconst (pc := 85) (v := 1) dX7_withBy_85 (by decide) ?_
            refine z_aload_n (pc := 86) dX7_withBy_86 rfl ?_
            refine z_getR (pc := 87) 61 q_fX7_13 z_s59 rfl dX7_withBy_87 ?_
            refine z_iload (pc := 90) dX7_withBy_90 rfl ?_
            refine z_iald (pc := 92) (j) z_s61 ⟨h2, by omega⟩ dX7_withBy_92 ?_
            refine z_ishl (pc := 93) dX7_withBy_93 ?_
            refine z_ior (pc := 94) dX7_withBy_94 ?_
            refine z_goto (pc := 95) (tgt := 99) dX7_withBy_95 (by decide) ?_
            refine z_ior (pc := 99) dX7_withBy_99 ?_
            refine z_istore_n (pc := 100) dX7_withBy_100 rfl (by decide) ?_
            refine z_iinc (pc := 101) dX7_withBy_101 rfl rfl rfl (by decide) ?_
            refine z_goto (pc := 104) (tgt := 17) dX7_withBy_104 (by decide) ?_
            exact absurd rfl h73
        · refine z_iconst (pc := 63) (v := 1) dX7_withBy_63 (by decide) ?_
          refine z_goto (pc := 64) (tgt := 68) dX7_withBy_64 (by decide) ?_
          refine z_istore (pc := 68) dX7_withBy_68 rfl (by decide) ?_
          refine z_iload_n (pc := 70) dX7_withBy_70 rfl ?_
          refine z_iload (pc := 71) dX7_withBy_71 rfl ?_
          refine z_if_eq (pc := 73) (tgt := 98) dX7_withBy_73 (by decide) (fun h73 => ?_) (fun h73 => ?_)
          · refine z_iconst (pc := 98) (v := 0) dX7_withBy_98 (by decide) ?_
            refine z_ior (pc := 99) dX7_withBy_99 ?_
            refine z_istore_n (pc := 100) dX7_withBy_100 rfl (by decide) ?_
            refine z_iinc (pc := 101) dX7_withBy_101 rfl rfl rfl (by decide) ?_
            refine z_goto (pc := 104) (tgt := 17) dX7_withBy_104 (by decide) ?_
            exact absurd h73 (by decide)
          · refine z_iconst (pc := 76) (v := 1) dX7_withBy_76 (by decide) ?_
            refine z_aload_n (pc := 77) dX7_withBy_77 rfl ?_
            refine z_getR (pc := 78) 60 q_fX7_7 z_s59 rfl dX7_withBy_78 ?_
            refine z_iload (pc := 81) dX7_withBy_81 rfl ?_
            refine z_iald (pc := 83) (j) z_s60 ⟨h2, by omega⟩ dX7_withBy_83 ?_
            refine z_ishl (pc := 84) dX7_withBy_84 ?_
            refine z_iconst (pc := 85) (v := 1) dX7_withBy_85 (by decide) ?_
            refine z_aload_n (pc := 86) dX7_withBy_86 rfl ?_
            refine z_getR (pc := 87) 61 q_fX7_13 z_s59 rfl dX7_withBy_87 ?_
            refine z_iload (pc := 90) dX7_withBy_90 rfl ?_
            refine z_iald (pc := 92) (j) z_s61 ⟨h2, by omega⟩ dX7_withBy_92 ?_
            refine z_ishl (pc := 93) dX7_withBy_93 ?_
            refine z_ior (pc := 94) dX7_withBy_94 ?_
            refine z_goto (pc := 95) (tgt := 99) dX7_withBy_95 (by decide) ?_
            refine z_ior (pc := 99) dX7_withBy_99 ?_
            refine z_istore_n (pc := 100) dX7_withBy_100 rfl (by decide) ?_
            refine z_iinc (pc := 101) dX7_withBy_101 rfl rfl rfl (by decide) ?_
            refine z_goto (pc := 104) (tgt := 17) dX7_withBy_104 (by decide) ?_
            have h32 := z_f h32
            have h60 := z_t h60
            rw [h1] at h60
            exact s_X7_withBy_17 hT kk (j + 1) hlt _ _ _ (by rw [h1, hA, hB, rIn_yes h32 (Or.inr h60)]; rfl) (z_n1 h2)
termination_by T.1 - j
decreasing_by all_goals omega
set_option maxRecDepth 100000 in
set_option maxHeartbeats 400000 in
theorem s_X7_withBy_7 {M M2 : z_Mem} {r : Option Value} {T : TT} (hT : TN M T) {x1 o x0 : Int32} (kk : z_Sm mX7_withBy r M2 113 [some (.ref 59), some (.int x1), some (.int o), some (.int (rOut o T.2.1 T.2.2.1 T.1 6 x0)), none, none, none] [] M) (j : Nat) (hj : j ≤ 6) (xj ij : Int32) (v5 v6 : Option Value) (h1 : xj = rOut o T.2.1 T.2.2.1 T.1 j x0) (h2 : ij = nI j) : z_Sm mX7_withBy r M2 7 [some (.ref 59), some (.int x1), some (.int o), some (.int (xj)), some (.int ij), v5, v6] [] M := by
  refine z_iload (pc := 7) dX7_withBy_7 rfl ?_
  refine z_bipush (pc := 9) (v := 6) dX7_withBy_9 (by decide) ?_
  refine z_icmp_ge (pc := 11) (tgt := 113) dX7_withBy_11 (by decide) (fun h11 => ?_) (fun h11 => ?_)
  · have hPj : 6 ≤ j := z_ge h11 h2 (show (6 : Int32) = nI 6 from rfl) (by omega) (by omega)
    have e : j = 6 := by omega
    subst e
    subst h1
    exact z_drop 4 (z_drop 5 (z_drop 6 kk))
  · refine z_iconst (pc := 14) (v := 0) dX7_withBy_14 (by decide) ?_
    refine z_istore (pc := 15) dX7_withBy_15 rfl (by decide) ?_
    have hlt : j < 6 := z_lt h11 h2 (show (6 : Int32) = nI 6 from rfl) (by omega) (by omega)
    refine s_X7_withBy_17 hT (x0 := xj) ?_ 0 (Nat.zero_le T.1) xj 0 _ rfl rfl
    refine z_iinc (pc := 107) dX7_withBy_107 rfl rfl rfl (by decide) ?_
    refine z_goto (pc := 110) (tgt := 7) dX7_withBy_110 (by decide) ?_
    exact s_X7_withBy_7 hT kk (j + 1) (by omega) _ _ _ _ (by rw [h1, rOut]) (z_n1 h2)
termination_by 6 - j
decreasing_by all_goals omega
set_option maxRecDepth 100000 in
set_option maxHeartbeats 400000 in
theorem c_X7_withBy {M : z_Mem} {T : TT} (hT : TN M T) {x o : Int32} {t : Nat} (hx : x = nI t) (ht : t < 6) : z_Ct mX7_withBy [.ref 59, .int x, .int o] M (some (.int (rOut o T.2.1 T.2.2.1 T.1 5 (em t)))) M := by
  refine z_entry (by decide +kernel) (Nat.le_of_ble_eq_true rfl) rfl ?_
  show z_Sm mX7_withBy _ _ 0 [some (.ref 59), some (.int x), some (.int o), none, none, none, none] [] M
  refine z_iconst (pc := 0) (v := 1) dX7_withBy_0 (by decide) ?_
  refine z_iload_n (pc := 1) dX7_withBy_1 rfl ?_
  refine z_ishl (pc := 2) dX7_withBy_2 ?_
  refine z_istore_n (pc := 3) dX7_withBy_3 rfl (by decide) ?_
  refine z_iconst (pc := 4) (v := 0) dX7_withBy_4 (by decide) ?_
  refine z_istore (pc := 5) dX7_withBy_5 rfl (by decide) ?_
  refine s_X7_withBy_7 hT ?_ 0 (by omega) _ _ _ _ rfl rfl
  refine z_iload_n (pc := 113) dX7_withBy_113 rfl ?_
  refine z_iret (pc := 114) rfl dX7_withBy_114 ?_ ?_
  · rw [hx]; exact rOut_6 ht hT.ab
  · rfl
set_option maxRecDepth 100000 in
set_option maxHeartbeats 400000 in
theorem c_X7_isTogether {M : z_Mem} {T : TT} (hT : TN M T) {x y o : Int32} {t u : Nat} (hx : x = nI t) (hy : y = nI u) (ht : t < 6) (hu : u < 6) : z_Ct mX7_isTogether [.ref 59, .int x, .int y, .int o] M (some (.int (if tog o T.2.1 T.2.2.1 T.1 t u then 1 else 0))) M := by
  refine z_entry (by decide +kernel) (Nat.le_of_ble_eq_true rfl) rfl ?_
  show z_Sm mX7_isTogether _ _ 0 [some (.ref 59), some (.int x), some (.int y), some (.int o)] [] M
  refine z_aload_n (pc := 0) dX7_isTogether_0 rfl ?_
  refine z_iload_n (pc := 1) dX7_isTogether_1 rfl ?_
  refine z_iload_n (pc := 2) dX7_isTogether_2 rfl ?_
  refine z_cV2 (pc := 3) (c_X7_withBy hT hx ht) (q_cX7_123 _ (by decide)) z_s59 rfl rfl dX7_isTogether_3 ?_
  refine z_iload_n (pc := 6) dX7_isTogether_6 rfl ?_
  refine z_cS2 (pc := 7) (c_X7_has hy (by omega)) (q_cX7_119 _ (by decide)) rfl dX7_isTogether_7 ?_
  refine z_zret (pc := 10) rfl dX7_isTogether_10 ?_ ?_ ?_
  · rw [← tog]
    cases tog o T.2.1 T.2.2.1 T.1 t u <;> rfl
  · rfl
  · rfl
/-- the model's deeds -/
def DN (M : z_Mem) (D : DT) : Prop := M.1 59 2 = nI D.1 ∧ D.1 ≤ 3 ∧ ∀ k, k < D.1 → M.1 66 k = nI (D.2.1 k) ∧ M.1 67 k = nI (D.2.2 k) ∧ D.2.1 k < 6 ∧ D.2.2 k < 6
theorem rIn_up {o : Int32} {a b : Nat → Nat} {x : Int32} {i n m : Nat} (h : n ≤ m) (hi : bt (rIn o a b n x) i = true) : bt (rIn o a b m x) i = true := by
  induction m with
  | zero => obtain rfl : n = 0 := by omega
            exact hi
  | succ m ih =>
    by_cases e : n = m + 1
    · subst e; exact hi
    · have := ih (by omega)
      rw [rIn]
      split
      · rw [b_or, this, Bool.true_or]
      · exact this
theorem rIn_closed {o : Int32} {a b : Nat → Nat} {P : Nat} {x : Int32} (h : rIn o a b P x = x) (hab : ∀ k, k < P → a k < 6 ∧ b k < 6) {k : Nat} (hk : k < P) (ho : bt o k = false) (h2 : bt x (a k) = true ∨ bt x (b k) = true) : bt x (a k) = true ∧ bt x (b k) = true := by
  obtain ⟨ha, hb⟩ := hab k hk
  have e : rIn o a b (k + 1) x = rIn o a b k x ||| (em (a k) ||| em (b k)) := rIn_yes ho (h2.imp (fun q => rIn_mono q k) (fun q => rIn_mono q k))
  have g : ∀ i, bt (rIn o a b (k + 1) x) i = true → bt x i = true := fun i hi => h ▸ rIn_up (show k + 1 ≤ P by omega) hi
  refine ⟨g _ ?_, g _ ?_⟩
  · rw [e, b_or, b_or, em_bt (by omega) (by omega)]; simp
  · rw [e, b_or, b_or, em_bt (t := b k) (by omega) (by omega)]; simp
/-- together goes both ways -/
theorem tog_sym1 {o : Int32} {a b : Nat → Nat} {P t u : Nat} (ht : t < 6) (hu : u < 6) (hab : ∀ k, k < P → a k < 6 ∧ b k < 6) (h : tog o a b P u t = false) : tog o a b P t u = false := by
  have hcl : rIn o a b P (rOut o a b P 5 (em u)) = rOut o a b P 5 (em u) := rOut_6 hu hab
  have huS : bt (rOut o a b P 5 (em u)) u = true := rOut_mono (by rw [em_bt (by omega) (by omega)]; simp) 5
  have stepIn : ∀ x, (∀ i, bt x i = true → bt (rOut o a b P 5 (em u)) i = false) → ∀ n, n ≤ P → ∀ i, bt (rIn o a b n x) i = true → bt (rOut o a b P 5 (em u)) i = false := by
    intro x hx n
    induction n with
    | zero => exact fun _ => hx
    | succ n ih =>
      intro hn i hi
      have ih := ih (by omega)
      rw [rIn] at hi
      split at hi
      · next q =>
        obtain ⟨ha, hb⟩ := hab n (by omega)
        have hno : bt (rOut o a b P 5 (em u)) (a n) = false ∧ bt (rOut o a b P 5 (em u)) (b n) = false := by
          have hc : (bt (rOut o a b P 5 (em u)) (a n) = true ∨ bt (rOut o a b P 5 (em u)) (b n) = true) → False := fun z => by
            obtain ⟨c1, c2⟩ := rIn_closed hcl hab (show n < P by omega) q.1 z
            rcases q.2 with w | w
            · rw [ih _ w] at c1; cases c1
            · rw [ih _ w] at c2; cases c2
          constructor
          · cases e : bt (rOut o a b P 5 (em u)) (a n)
            · rfl
            · exact (hc (Or.inl e)).elim
          · cases e : bt (rOut o a b P 5 (em u)) (b n)
            · rfl
            · exact (hc (Or.inr e)).elim
        rw [b_or, b_or] at hi
        cases e0 : bt (rIn o a b n x) i
        · by_cases h32 : i < 32
          · rw [e0, em_bt (by omega) h32, em_bt (by omega) h32] at hi
            simp at hi
            rcases hi with rfl | rfl
            · exact hno.1
            · exact hno.2
          · exact b_big (by omega)
        · exact ih i e0
      · exact ih i hi
  have all : ∀ n i, bt (rOut o a b P n (em t)) i = true → bt (rOut o a b P 5 (em u)) i = false := by
    intro n
    induction n with
    | zero =>
      intro i hi
      by_cases h32 : i < 32
      · rw [rOut, em_bt (by omega) h32] at hi
        simp at hi
        subst hi
        exact h
      · exact b_big (by omega)
    | succ n ih => exact stepIn _ ih P (Nat.le_refl P)
  cases e : tog o a b P t u
  · rfl
  · rw [all 5 u e] at huS; cases huS
theorem tog_sym {o : Int32} {a b : Nat → Nat} {P t u : Nat} (ht : t < 6) (hu : u < 6) (hab : ∀ k, k < P → a k < 6 ∧ b k < 6) : tog o a b P t u = tog o a b P u t := by
  cases e : tog o a b P u t
  · exact tog_sym1 ht hu hab e
  · cases e2 : tog o a b P t u
    · rw [tog_sym1 hu ht hab e2] at e; cases e
    · rfl
