theorem emQ : ∀ P, P ≤ 7 → em P = nI (2 ^ P) := by
  have h : ∀ P, P < 8 → em P = nI (2 ^ P) := by decide +kernel
  exact fun P hP => h P (by omega)
theorem nI_bt {n P i : Nat} (hn : n < 2 ^ P) (hi : i < 32) (h : bt (nI n) i = true) : i < P := by
  rw [bt_nI n hi] at h
  by_cases q : i < P
  · exact q
  · rw [Nat.testBit_lt_two_pow (Nat.lt_of_lt_of_le hn (Nat.pow_le_pow_right (by decide) (by omega)))] at h
    cases h
/-- the shut pins -/
theorem shF_at {T : TT} (hP : T.1 ≤ 7) (o : Int32) : ∃ S, S < 2 ^ T.1 ∧ shF T o = nI S := by
  obtain ⟨n, hn, e⟩ := sm7_nat (shF_sm hP o)
  obtain ⟨eP, e1, e2⟩ := emP T.1 hP
  have h : nI n = nI ((2 ^ T.1 - 1) &&& n) := by
    rw [← z_andN, ← eP, ← e, shF]
    exact b_ext fun i _ => by rw [b_and, b_and, b_and]; cases bt (em T.1 - 1) i <;> rfl
  have hb : (2 ^ T.1 - 1) &&& n ≤ 2 ^ T.1 - 1 := Nat.and_le_left
  rw [nI_eq (by omega) (by omega)] at h
  exact ⟨n, by omega, e⟩
theorem shF_bt {T : TT} (hP : T.1 ≤ 7) (o : Int32) {i : Nat} (hi : i < 32) : bt (shF T o) i = (decide (i < T.1) && !bt o i) := by
  obtain ⟨eP, e1, e2⟩ := emP T.1 hP
  rw [shF, b_and, z_not o hi, eP, bt_nI _ hi, Nat.testBit_two_pow_sub_one]
theorem shF_o {T : TT} (hP : T.1 ≤ 7) (o : Int32) : shF T o &&& o = 0 := b_ext fun i hi => by
  rw [b_and, shF_bt hP o hi, b_0]
  cases bt o i <;> simp
theorem shF_lt {T : TT} (hP : T.1 ≤ 7) {o : Int32} {S c : Nat} (hS : S < 2 ^ T.1) (eS : shF T o = nI S) (hc : c < 2 ^ T.1) (h0 : nI c &&& o = 0) (hne : c ≠ S) : pc 7 (nI c) < pc 7 (nI S) := by
  obtain ⟨eP, e1, e2⟩ := emP T.1 hP
  have hsub : ∀ i, bt (nI c) i = true → bt (nI S) i = true := fun i hb => by
    have hi : i < 32 := Classical.byContradiction fun q => by rw [b_big (by omega)] at hb; cases hb
    have hiP := nI_bt hc hi hb
    have z : bt (nI c &&& o) i = false := by rw [h0]; exact b_0 i
    rw [b_and, hb, Bool.true_and] at z
    rw [← eS, shF_bt hP o hi, z, decide_eq_true hiP]; rfl
  have ⟨i, hi⟩ : ∃ i, ¬ (i < 32 → bt (nI S) i = bt (nI c) i) := Classical.not_forall.mp fun q => hne (((nI_eq (by omega) (by omega)).mp (b_ext q)).symm)
  have hi32 : i < 32 := Classical.byContradiction fun q => hi (fun z => absurd z q)
  have hn : ¬ bt (nI S) i = bt (nI c) i := fun z => hi (fun _ => z)
  have hc0 : bt (nI c) i = false := by
    cases q : bt (nI c) i
    · rfl
    · exact absurd ((hsub i q).trans q.symm) hn
  have hS1 : bt (nI S) i = true := by
    cases q : bt (nI S) i
    · exact absurd (q.trans hc0.symm) hn
    · rfl
  have := pc_lt hsub hc0 hS1 7 (by have := nI_bt hS hi32 hS1; omega)
  omega
/-- with all of them open nothing is together -/
theorem rIn_open {o : Int32} {a b : Nat → Nat} {x : Int32} : ∀ n, (∀ k, k < n → bt o k = true) → rIn o a b n x = x
  | 0, _ => rfl
  | n + 1, h => by rw [rIn_no (Or.inl (h n (Nat.lt_succ_self n))), rIn_open n (fun k hk => h k (by omega))]
theorem rOut_open {o : Int32} {a b : Nat → Nat} {P : Nat} {x : Int32} (h : ∀ k, k < P → bt o k = true) : ∀ n, rOut o a b P n x = x
  | 0 => rfl
  | n + 1 => by rw [rOut, rOut_open h n, rIn_open P h]
theorem tog_open {T : TT} (hP : T.1 ≤ 7) {o : Int32} {t u : Nat} (hu : u < 6) (hne : t ≠ u) (ht : t < 6) : tog (o ||| shF T o) T.2.1 T.2.2.1 T.1 t u = false := by
  rw [tog, rOut_open (fun k hk => by rw [b_or, shF_bt hP o (by omega), decide_eq_true hk]; cases bt o k <;> rfl), em_bt (by omega) (by omega)]
  exact decide_eq_false (Ne.symm hne)
/-- the model's best cut -/
def fwB (c b : Nat) : Prop := pc 7 (nI c) < pc 7 (nI b) ∨ (pc 7 (nI c) = pc 7 (nI b) ∧ c < b)
noncomputable def mbF (o : Int32) (S : Nat) (ok : Nat → Bool) : Nat → Nat
  | 0 => S
  | c + 1 => @ite _ ((fwB c (mbF o S ok c) ∧ nI c &&& o = 0) ∧ ok c = true) (Classical.propDecidable _) c (mbF o S ok c)
theorem mbF_y {o : Int32} {S : Nat} {ok : Nat → Bool} {c : Nat} (h : (fwB c (mbF o S ok c) ∧ nI c &&& o = 0) ∧ ok c = true) : mbF o S ok (c + 1) = c := by rw [mbF, if_pos h]
theorem mbF_n {o : Int32} {S : Nat} {ok : Nat → Bool} {c : Nat} (h : ¬ ((fwB c (mbF o S ok c) ∧ nI c &&& o = 0) ∧ ok c = true)) : mbF o S ok (c + 1) = mbF o S ok c := by rw [mbF, if_neg h]
theorem mbF_lt {o : Int32} {S : Nat} {ok : Nat → Bool} (hS : S < 128) : ∀ c, c ≤ 128 → mbF o S ok c < 128
  | 0, _ => hS
  | c + 1, h => by
    have := mbF_lt (o := o) (ok := ok) hS c (by omega)
    by_cases q : (fwB c (mbF o S ok c) ∧ nI c &&& o = 0) ∧ ok c = true
    · rw [mbF_y q]; omega
    · rw [mbF_n q]; exact this
theorem mb_bs {o : Int32} {S m : Nat} {ok : Nat → Bool} (hm : m ≤ 128) (hS : S < m) (hS0 : nI S &&& o = 0) (hSk : ok S = true) (hlt : ∀ c, c < m → nI c &&& o = 0 → c ≠ S → pc 7 (nI c) < pc 7 (nI S)) : ∀ c, c ≤ m → (bsF o ok c = -9 ∧ mbF o S ok c = S ∧ c ≤ S) ∨ (bsF o ok c = nI (mbF o S ok c) ∧ mbF o S ok c < c)
  | 0, _ => Or.inl ⟨rfl, rfl, Nat.zero_le _⟩
  | c + 1, h => by
    rcases mb_bs hm hS hS0 hSk hlt c (by omega) with ⟨h1, h2, h3⟩ | ⟨h1, h2⟩
    · by_cases q : nI c &&& o = 0 ∧ ok c = true
      · refine Or.inr ?_
        have e1 : bsF o ok (c + 1) = nI c := by rw [bsF, if_pos ⟨⟨Or.inl h1, q.1⟩, q.2⟩]
        have e2 : mbF o S ok (c + 1) = c := by
          by_cases e : c = S
          · by_cases z : (fwB c (mbF o S ok c) ∧ nI c &&& o = 0) ∧ ok c = true
            · exact mbF_y z
            · rw [mbF_n z, h2]; exact e.symm
          · exact mbF_y ⟨⟨by rw [h2]; exact Or.inl (hlt c (by omega) q.1 e), q.1⟩, q.2⟩
        rw [e1, e2]
        exact ⟨rfl, Nat.lt_succ_self c⟩
      · have e : c ≠ S := fun e => q (by rw [e]; exact ⟨hS0, hSk⟩)
        exact Or.inl ⟨by rw [bsF, if_neg (fun z => q ⟨z.1.2, z.2⟩)]; exact h1, by rw [mbF_n (fun z => q ⟨z.1.2, z.2⟩)]; exact h2, by omega⟩
    · refine Or.inr ?_
      have hb : mbF o S ok c < 128 := by omega
      have n9 : ¬ nI (mbF o S ok c) = -9 := fun z => by
        have := nI_pos (n := mbF o S ok c) (by omega)
        rw [z] at this
        exact this (by decide)
      by_cases q : (fwB c (mbF o S ok c) ∧ nI c &&& o = 0) ∧ ok c = true
      · have q1 : pc 7 (nI c) < pc 7 (nI (mbF o S ok c)) := q.1.1.resolve_right (fun z => by have := z.2; omega)
        rw [mbF_y q, bsF, h1, if_pos ⟨⟨Or.inr q1, q.1.2⟩, q.2⟩]
        exact ⟨rfl, Nat.lt_succ_self c⟩
      · rw [mbF_n q, bsF, h1, if_neg (fun z => q ⟨⟨Or.inl (z.1.1.resolve_left n9), z.1.2⟩, z.2⟩)]
        exact ⟨rfl, by omega⟩
theorem mb_end {T : TT} (hP : T.1 ≤ 7) {o : Int32} {S : Nat} (hS : S < 2 ^ T.1) (eS : shF T o = nI S) {ok : Nat → Bool} (hSk : ok S = true) : nI (mbF o S ok (2 ^ T.1)) = bsF o ok (2 ^ T.1) := by
  obtain ⟨eP, e1, e2⟩ := emP T.1 hP
  rcases mb_bs (m := 2 ^ T.1) e2 hS (by rw [← eS]; exact shF_o hP o) hSk (fun c hc h0 hne => shF_lt hP hS eS hc h0 hne) (2 ^ T.1) (Nat.le_refl _) with ⟨_, _, h⟩ | ⟨h, _⟩
  · omega
  · exact h.symm
set_option maxRecDepth 100000 in
set_option maxHeartbeats 400000 in
theorem s_X7_cuts_41 {M : z_Mem} {T : TT} (hT : TN M T) {x y : Int32} {t u S : Nat} (hx : x = nI t) (hy : y = nI u) (ht : t < 6) (hu : u < 6) (hS : S < 128) : ∀ (f c : Nat) (ij w : Int32) (v5 : Option Value), w = nI (mbF (M.1 68 0) S (cuOk T (M.1 68 0) t u) c) → ij = nI c → c + f = 2 ^ T.1 → z_Sm mX7_cuts (some (.int (nI (mbF (M.1 68 0) S (cuOk T (M.1 68 0) t u) (2 ^ T.1))))) M 41 [some (.ref 59), some (.int x), some (.int y), some (.int w), some (.int ij), v5] [] M := by
  obtain ⟨-, e1, e2⟩ := emP T.1 hT.2.1
  have eQ : (1 : Int32) <<< (M.1 59 0 &&& 31) = nI (2 ^ T.1) := by rw [hT.1]; exact emQ T.1 hT.2.1
  intro f
  induction f with
  | zero =>
    intro c ij w v5 hw hi hf
    obtain rfl : c = 2 ^ T.1 := by omega
    refine z_iload (pc := 41) dX7_cuts_41 rfl ?_
    refine z_iconst (pc := 43) (v := 1) dX7_cuts_43 (by decide) ?_
    refine z_aload_n (pc := 44) dX7_cuts_44 rfl ?_
    refine z_getI (pc := 45) q_fX7_105 z_s59 rfl dX7_cuts_45 ?_
    refine z_ishl (pc := 48) dX7_cuts_48 ?_
    refine z_icmp_ge (pc := 49) (tgt := 137) dX7_cuts_49 (by decide) (fun h49 => ?_) (fun h49 => ?_)
    · refine z_iload_n (pc := 137) dX7_cuts_137 rfl ?_
      refine z_iret (pc := 138) rfl dX7_cuts_138 ?_ ?_
      · exact hw
      · rfl
    · exact absurd (z_lt h49 hi eQ (by omega) (by omega)) (by omega)
  | succ f ih =>
    intro c ij w v5 hw hi hf
    have hb := mbF_lt (o := M.1 68 0) (ok := (cuOk T (M.1 68 0) t u)) hS c (by omega)
    subst hi
    subst hw
    have p1 := pc_le (nI c) 7
    have p2 := pc_le (nI (mbF (M.1 68 0) S (cuOk T (M.1 68 0) t u) c)) 7
    refine z_iload (pc := 41) dX7_cuts_41 rfl ?_
    refine z_iconst (pc := 43) (v := 1) dX7_cuts_43 (by decide) ?_
    refine z_aload_n (pc := 44) dX7_cuts_44 rfl ?_
    refine z_getI (pc := 45) q_fX7_105 z_s59 rfl dX7_cuts_45 ?_
    refine z_ishl (pc := 48) dX7_cuts_48 ?_
    refine z_icmp_ge (pc := 49) (tgt := 137) dX7_cuts_49 (by decide) (fun h49 => ?_) (fun h49 => ?_)
    · exact absurd (z_ge h49 (show nI c = nI c from rfl) eQ (by omega) (by omega)) (by omega)
    · refine z_iload (pc := 52) dX7_cuts_52 rfl ?_
      refine z_cS1 (pc := 54) c_X7_ones (q_cX7_137 _ (by decide)) rfl dX7_cuts_54 ?_
      refine z_iload_n (pc := 57) dX7_cuts_57 rfl ?_
      refine z_cS1 (pc := 58) c_X7_ones (q_cX7_137 _ (by decide)) rfl dX7_cuts_58 ?_
      refine z_icmp_lt (pc := 61) (tgt := 82) dX7_cuts_61 (by decide) (fun h61 => ?_) (fun h61 => ?_)
      · refine z_iconst (pc := 82) (v := 1) dX7_cuts_82 (by decide) ?_
        refine z_goto (pc := 83) (tgt := 87) dX7_cuts_83 (by decide) ?_
        refine z_istore (pc := 87) dX7_cuts_87 rfl (by decide) ?_
        refine z_iload (pc := 89) dX7_cuts_89 rfl ?_
        refine z_if_eq (pc := 91) (tgt := 129) dX7_cuts_91 (by decide) (fun h91 => ?_) (fun h91 => ?_)
        · exact absurd h91 (by decide)
        · refine z_iload (pc := 94) dX7_cuts_94 rfl ?_
          refine z_aload_n (pc := 96) dX7_cuts_96 rfl ?_
          refine z_getR (pc := 97) 68 q_fX7_34 z_s59 rfl dX7_cuts_97 ?_
          refine z_iconst (pc := 100) (v := 0) dX7_cuts_100 (by decide) ?_
          refine z_iald (pc := 101) (0) z_s68 ⟨rfl, by omega⟩ dX7_cuts_101 ?_
          refine z_iand (pc := 102) dX7_cuts_102 ?_
          refine z_if_ne (pc := 103) (tgt := 129) dX7_cuts_103 (by decide) (fun h103 => ?_) (fun h103 => ?_)
          · refine z_iload_n (pc := 129) dX7_cuts_129 rfl ?_
            refine z_istore_n (pc := 130) dX7_cuts_130 rfl (by decide) ?_
            refine z_iinc (pc := 131) dX7_cuts_131 rfl rfl rfl (by decide) ?_
            refine z_goto (pc := 134) (tgt := 41) dX7_cuts_134 (by decide) ?_
            have fw : fwB c (mbF (M.1 68 0) S (cuOk T (M.1 68 0) t u) c) := Or.inl (z_gt h61 rfl rfl (by omega) (by omega))
            exact ih (c + 1) _ _ _ (by rw [mbF_n (fun q => h103 q.1.2)]) (z_n1 rfl) (by omega)
          · refine z_aload_n (pc := 106) dX7_cuts_106 rfl ?_
            refine z_iload_n (pc := 107) dX7_cuts_107 rfl ?_
            refine z_iload_n (pc := 108) dX7_cuts_108 rfl ?_
            refine z_aload_n (pc := 109) dX7_cuts_109 rfl ?_
            refine z_getR (pc := 110) 68 q_fX7_34 z_s59 rfl dX7_cuts_110 ?_
            refine z_iconst (pc := 113) (v := 0) dX7_cuts_113 (by decide) ?_
            refine z_iald (pc := 114) (0) z_s68 ⟨rfl, by omega⟩ dX7_cuts_114 ?_
            refine z_iload (pc := 115) dX7_cuts_115 rfl ?_
            refine z_ior (pc := 117) dX7_cuts_117 ?_
            refine z_cV3 (pc := 118) (c_X7_isTogether hT hx hy ht hu) (q_cX7_126 _ (by decide)) z_s59 rfl rfl dX7_cuts_118 ?_
            refine z_if_ne (pc := 121) (tgt := 129) dX7_cuts_121 (by decide) (fun h121 => ?_) (fun h121 => ?_)
            · refine z_iload_n (pc := 129) dX7_cuts_129 rfl ?_
              refine z_istore_n (pc := 130) dX7_cuts_130 rfl (by decide) ?_
              refine z_iinc (pc := 131) dX7_cuts_131 rfl rfl rfl (by decide) ?_
              refine z_goto (pc := 134) (tgt := 41) dX7_cuts_134 (by decide) ?_
              have fw : fwB c (mbF (M.1 68 0) S (cuOk T (M.1 68 0) t u) c) := Or.inl (z_gt h61 rfl rfl (by omega) (by omega))
              have hk : cuOk T (M.1 68 0) t u c = false := by rw [cuOk, z_t h121]; rfl
              exact ih (c + 1) _ _ _ (by rw [mbF_n (fun q => by rw [hk] at q; cases q.2)]) (z_n1 rfl) (by omega)
            · refine z_iload (pc := 124) dX7_cuts_124 rfl ?_
              refine z_goto (pc := 126) (tgt := 130) dX7_cuts_126 (by decide) ?_
              refine z_istore_n (pc := 130) dX7_cuts_130 rfl (by decide) ?_
              refine z_iinc (pc := 131) dX7_cuts_131 rfl rfl rfl (by decide) ?_
              refine z_goto (pc := 134) (tgt := 41) dX7_cuts_134 (by decide) ?_
              have fw : fwB c (mbF (M.1 68 0) S (cuOk T (M.1 68 0) t u) c) := Or.inl (z_gt h61 rfl rfl (by omega) (by omega))
              have hk : cuOk T (M.1 68 0) t u c = true := by rw [cuOk, z_f h121]; rfl
              exact ih (c + 1) _ _ _ (by rw [mbF_y ⟨⟨fw, h103⟩, hk⟩]) (z_n1 rfl) (by omega)
      · refine z_iload (pc := 64) dX7_cuts_64 rfl ?_
        refine z_cS1 (pc := 66) c_X7_ones (q_cX7_137 _ (by decide)) rfl dX7_cuts_66 ?_
        refine z_iload_n (pc := 69) dX7_cuts_69 rfl ?_
        refine z_cS1 (pc := 70) c_X7_ones (q_cX7_137 _ (by decide)) rfl dX7_cuts_70 ?_
        refine z_icmp_ne (pc := 73) (tgt := 86) dX7_cuts_73 (by decide) (fun h73 => ?_) (fun h73 => ?_)
        · refine z_iconst (pc := 86) (v := 0) dX7_cuts_86 (by decide) ?_
          refine z_istore (pc := 87) dX7_cuts_87 rfl (by decide) ?_
          refine z_iload (pc := 89) dX7_cuts_89 rfl ?_
          refine z_if_eq (pc := 91) (tgt := 129) dX7_cuts_91 (by decide) (fun h91 => ?_) (fun h91 => ?_)
          · refine z_iload_n (pc := 129) dX7_cuts_129 rfl ?_
            refine z_istore_n (pc := 130) dX7_cuts_130 rfl (by decide) ?_
            refine z_iinc (pc := 131) dX7_cuts_131 rfl rfl rfl (by decide) ?_
            refine z_goto (pc := 134) (tgt := 41) dX7_cuts_134 (by decide) ?_
            have fw : ¬ fwB c (mbF (M.1 68 0) S (cuOk T (M.1 68 0) t u) c) := fun q => q.elim (fun z => h61 (nI_lt z (by omega))) (fun z => h73 (by rw [z.1]))
            exact ih (c + 1) _ _ _ (by rw [mbF_n (fun q => fw q.1.1)]) (z_n1 rfl) (by omega)
          · exact absurd rfl h91
        · refine z_iload (pc := 76) dX7_cuts_76 rfl ?_
          refine z_iload_n (pc := 78) dX7_cuts_78 rfl ?_
          refine z_icmp_ge (pc := 79) (tgt := 86) dX7_cuts_79 (by decide) (fun h79 => ?_) (fun h79 => ?_)
          · refine z_iconst (pc := 86) (v := 0) dX7_cuts_86 (by decide) ?_
            refine z_istore (pc := 87) dX7_cuts_87 rfl (by decide) ?_
            refine z_iload (pc := 89) dX7_cuts_89 rfl ?_
            refine z_if_eq (pc := 91) (tgt := 129) dX7_cuts_91 (by decide) (fun h91 => ?_) (fun h91 => ?_)
            · refine z_iload_n (pc := 129) dX7_cuts_129 rfl ?_
              refine z_istore_n (pc := 130) dX7_cuts_130 rfl (by decide) ?_
              refine z_iinc (pc := 131) dX7_cuts_131 rfl rfl rfl (by decide) ?_
              refine z_goto (pc := 134) (tgt := 41) dX7_cuts_134 (by decide) ?_
              have fw : ¬ fwB c (mbF (M.1 68 0) S (cuOk T (M.1 68 0) t u) c) := fun q => q.elim (fun z => h61 (nI_lt z (by omega))) (fun z => absurd (z_ge h79 rfl rfl (by omega) (by omega)) (by have := z.2; omega))
              exact ih (c + 1) _ _ _ (by rw [mbF_n (fun q => fw q.1.1)]) (z_n1 rfl) (by omega)
            · exact absurd rfl h91
          · refine z_iconst (pc := 82) (v := 1) dX7_cuts_82 (by decide) ?_
            refine z_goto (pc := 83) (tgt := 87) dX7_cuts_83 (by decide) ?_
            refine z_istore (pc := 87) dX7_cuts_87 rfl (by decide) ?_
            refine z_iload (pc := 89) dX7_cuts_89 rfl ?_
            refine z_if_eq (pc := 91) (tgt := 129) dX7_cuts_91 (by decide) (fun h91 => ?_) (fun h91 => ?_)
            · exact absurd h91 (by decide)
            · refine z_iload (pc := 94) dX7_cuts_94 rfl ?_
              refine z_aload_n (pc := 96) dX7_cuts_96 rfl ?_
              refine z_getR (pc := 97) 68 q_fX7_34 z_s59 rfl dX7_cuts_97 ?_
              refine z_iconst (pc := 100) (v := 0) dX7_cuts_100 (by decide) ?_
              refine z_iald (pc := 101) (0) z_s68 ⟨rfl, by omega⟩ dX7_cuts_101 ?_
              refine z_iand (pc := 102) dX7_cuts_102 ?_
              refine z_if_ne (pc := 103) (tgt := 129) dX7_cuts_103 (by decide) (fun h103 => ?_) (fun h103 => ?_)
              · refine z_iload_n (pc := 129) dX7_cuts_129 rfl ?_
                refine z_istore_n (pc := 130) dX7_cuts_130 rfl (by decide) ?_
                refine z_iinc (pc := 131) dX7_cuts_131 rfl rfl rfl (by decide) ?_
                refine z_goto (pc := 134) (tgt := 41) dX7_cuts_134 (by decide) ?_
                have fw : fwB c (mbF (M.1 68 0) S (cuOk T (M.1 68 0) t u) c) := Or.inr ⟨(nI_eq (by omega) (by omega)).mp h73, z_lt h79 rfl rfl (by omega) (by omega)⟩
                exact ih (c + 1) _ _ _ (by rw [mbF_n (fun q => h103 q.1.2)]) (z_n1 rfl) (by omega)
              · refine z_aload_n (pc := 106) dX7_cuts_106 rfl ?_
                refine z_iload_n (pc := 107) dX7_cuts_107 rfl ?_
                refine z_iload_n (pc := 108) dX7_cuts_108 rfl ?_
                refine z_aload_n (pc := 109) dX7_cuts_109 rfl ?_
                refine z_getR (pc := 110) 68 q_fX7_34 z_s59 rfl dX7_cuts_110 ?_
                refine z_iconst (pc := 113) (v := 0) dX7_cuts_113 (by decide) ?_
                refine z_iald (pc := 114) (0) z_s68 ⟨rfl, by omega⟩ dX7_cuts_114 ?_
                refine z_iload (pc := 115) dX7_cuts_115 rfl ?_
                refine z_ior (pc := 117) dX7_cuts_117 ?_
                refine z_cV3 (pc := 118) (c_X7_isTogether hT hx hy ht hu) (q_cX7_126 _ (by decide)) z_s59 rfl rfl dX7_cuts_118 ?_
                refine z_if_ne (pc := 121) (tgt := 129) dX7_cuts_121 (by decide) (fun h121 => ?_) (fun h121 => ?_)
                · refine z_iload_n (pc := 129) dX7_cuts_129 rfl ?_
                  refine z_istore_n (pc := 130) dX7_cuts_130 rfl (by decide) ?_
                  refine z_iinc (pc := 131) dX7_cuts_131 rfl rfl rfl (by decide) ?_
                  refine z_goto (pc := 134) (tgt := 41) dX7_cuts_134 (by decide) ?_
                  have fw : fwB c (mbF (M.1 68 0) S (cuOk T (M.1 68 0) t u) c) := Or.inr ⟨(nI_eq (by omega) (by omega)).mp h73, z_lt h79 rfl rfl (by omega) (by omega)⟩
                  have hk : cuOk T (M.1 68 0) t u c = false := by rw [cuOk, z_t h121]; rfl
                  exact ih (c + 1) _ _ _ (by rw [mbF_n (fun q => by rw [hk] at q; cases q.2)]) (z_n1 rfl) (by omega)
                · refine z_iload (pc := 124) dX7_cuts_124 rfl ?_
                  refine z_goto (pc := 126) (tgt := 130) dX7_cuts_126 (by decide) ?_
                  refine z_istore_n (pc := 130) dX7_cuts_130 rfl (by decide) ?_
                  refine z_iinc (pc := 131) dX7_cuts_131 rfl rfl rfl (by decide) ?_
                  refine z_goto (pc := 134) (tgt := 41) dX7_cuts_134 (by decide) ?_
                  have fw : fwB c (mbF (M.1 68 0) S (cuOk T (M.1 68 0) t u) c) := Or.inr ⟨(nI_eq (by omega) (by omega)).mp h73, z_lt h79 rfl rfl (by omega) (by omega)⟩
                  have hk : cuOk T (M.1 68 0) t u c = true := by rw [cuOk, z_f h121]; rfl
                  exact ih (c + 1) _ _ _ (by rw [mbF_y ⟨⟨fw, h103⟩, hk⟩]) (z_n1 rfl) (by omega)
set_option maxRecDepth 100000 in
set_option maxHeartbeats 400000 in
theorem o_X7_cuts_no {M : z_Mem} {l : Nat → Int32} {n : Nat} {T : TT} {U : UT} {D : DT} {p : PLt} {A : List PLt} {k0 k1 : Option PLt} {L : List (Int32 × Int32)} {sd : Int64} (hR : RM M l n T U D p A k0 k1 L sd) {x y : Int32} (h : ¬ rfF x y = 0) : z_Ct mX7_cuts [.ref 59, .int x, .int y] M (some (.int (rfF x y))) M := by
  obtain ⟨rS, rT, rU, rD, rp, rA, r0, r1, rL, rs⟩ := id hR

  refine z_entry (by decide +kernel) (Nat.le_of_ble_eq_true rfl) rfl ?_
  show z_Sm mX7_cuts _ _ 0 [some (.ref 59), some (.int x), some (.int y), none, none, none] [] M
  refine z_iload_n (pc := 0) dX7_cuts_0 rfl ?_
  refine z_cS1 (pc := 1) c_X7_isThing (q_cX7_150 _ (by decide)) rfl dX7_cuts_1 ?_
  refine z_if_eq (pc := 4) (tgt := 14) dX7_cuts_4 (by decide) (fun h4 => ?_) (fun h4 => ?_)
  · refine z_iconst (pc := 14) (v := (-1)) dX7_cuts_14 (by decide) ?_
    refine z_iret (pc := 15) rfl dX7_cuts_15 ?_ ?_
    · exact (show rfF x y = -1 by rw [rfF, z_f h4]; rfl).symm
    · rfl
  · refine z_iload_n (pc := 7) dX7_cuts_7 rfl ?_
    refine z_cS1 (pc := 8) c_X7_isThing (q_cX7_150 _ (by decide)) rfl dX7_cuts_8 ?_
    refine z_if_ne (pc := 11) (tgt := 16) dX7_cuts_11 (by decide) (fun h11 => ?_) (fun h11 => ?_)
    · refine z_iload_n (pc := 16) dX7_cuts_16 rfl ?_
      refine z_iload_n (pc := 17) dX7_cuts_17 rfl ?_
      refine z_icmp_ne (pc := 18) (tgt := 24) dX7_cuts_18 (by decide) (fun h18 => ?_) (fun h18 => ?_)
      · exact absurd (show rfF x y = 0 by rw [rfF, z_t h4, z_t h11]; exact if_neg h18) h
      · refine z_bipush (pc := 21) (v := (-2)) dX7_cuts_21 (by decide) ?_
        refine z_iret (pc := 23) rfl dX7_cuts_23 ?_ ?_
        · exact (show rfF x y = -2 by rw [rfF, z_t h4, z_t h11, show x = y from h18]; simp).symm
        · rfl
    · refine z_iconst (pc := 14) (v := (-1)) dX7_cuts_14 (by decide) ?_
      refine z_iret (pc := 15) rfl dX7_cuts_15 ?_ ?_
      · exact (show rfF x y = -1 by rw [rfF, z_f h11, Bool.and_false]; rfl).symm
      · rfl
set_option maxRecDepth 100000 in
set_option maxHeartbeats 400000 in
theorem o_X7_cuts {M : z_Mem} {l : Nat → Int32} {n : Nat} {T : TT} {U : UT} {D : DT} {p : PLt} {A : List PLt} {k0 k1 : Option PLt} {L : List (Int32 × Int32)} {sd : Int64} (hR : RM M l n T U D p A k0 k1 L sd) {x y : Int32} (h : rfF x y = 0) : z_Ct mX7_cuts [.ref 59, .int x, .int y] M (some (.int (cuF T p.1 x.toNatClampNeg y.toNatClampNeg))) M := by
  obtain ⟨rS, rT, rU, rD, rp, rA, r0, r1, rL, rs⟩ := id hR
  obtain ⟨hx, hy, hxy⟩ := rf_at h
  have htx := thg_at hx
  have hty := thg_at hy
  have hnn : x.toNatClampNeg ≠ y.toNatClampNeg := fun q => hxy (by rw [htx.2, hty.2, q])
  have hP7 := rT.2.1
  have e0 : M.1 68 0 = p.1 := rp.1
  obtain ⟨S, hS, eS⟩ := shF_at hP7 (M.1 68 0)
  obtain ⟨-, e1, e2⟩ := emP T.1 hP7
  have hk : cuOk T (M.1 68 0) x.toNatClampNeg y.toNatClampNeg S = true := by rw [cuOk, ← eS, tog_open hP7 hty.1 hnn htx.1]; rfl
  have fin := s_X7_cuts_41 rT htx.2 hty.2 htx.1 hty.1 (S := S) (by omega) (2 ^ T.1) 0 0 (nI S) none rfl rfl (by omega)
  rw [mb_end hP7 hS eS hk, e0] at fin
  have eS2 : (em T.1 - 1) &&& (M.1 68 0 ^^^ (-1)) = nI S := eS

  refine z_entry (by decide +kernel) (Nat.le_of_ble_eq_true rfl) rfl ?_
  show z_Sm mX7_cuts _ _ 0 [some (.ref 59), some (.int x), some (.int y), none, none, none] [] M
  refine z_iload_n (pc := 0) dX7_cuts_0 rfl ?_
  refine z_cS1 (pc := 1) c_X7_isThing (q_cX7_150 _ (by decide)) rfl dX7_cuts_1 ?_
  refine z_if_eq (pc := 4) (tgt := 14) dX7_cuts_4 (by decide) (fun h4 => ?_) (fun h4 => ?_)
  · rw [hx] at h4; exact absurd h4 (by decide)
  · refine z_iload_n (pc := 7) dX7_cuts_7 rfl ?_
    refine z_cS1 (pc := 8) c_X7_isThing (q_cX7_150 _ (by decide)) rfl dX7_cuts_8 ?_
    refine z_if_ne (pc := 11) (tgt := 16) dX7_cuts_11 (by decide) (fun h11 => ?_) (fun h11 => ?_)
    · refine z_iload_n (pc := 16) dX7_cuts_16 rfl ?_
      refine z_iload_n (pc := 17) dX7_cuts_17 rfl ?_
      refine z_icmp_ne (pc := 18) (tgt := 24) dX7_cuts_18 (by decide) (fun h18 => ?_) (fun h18 => ?_)
      · refine z_aload_n (pc := 24) dX7_cuts_24 rfl ?_
        refine z_cV0 (pc := 25) (c_X7_all rT) (q_cX7_177 _ (by decide)) z_s59 rfl rfl dX7_cuts_25 ?_
        refine z_aload_n (pc := 28) dX7_cuts_28 rfl ?_
        refine z_getR (pc := 29) 68 q_fX7_34 z_s59 rfl dX7_cuts_29 ?_
        refine z_iconst (pc := 32) (v := 0) dX7_cuts_32 (by decide) ?_
        refine z_iald (pc := 33) (0) z_s68 ⟨rfl, by omega⟩ dX7_cuts_33 ?_
        refine z_iconst (pc := 34) (v := (-1)) dX7_cuts_34 (by decide) ?_
        refine z_ixor (pc := 35) dX7_cuts_35 ?_
        refine z_iand (pc := 36) dX7_cuts_36 ?_
        rw [eS2]
        refine z_istore_n (pc := 37) dX7_cuts_37 rfl (by decide) ?_
        refine z_iconst (pc := 38) (v := 0) dX7_cuts_38 (by decide) ?_
        refine z_istore (pc := 39) dX7_cuts_39 rfl (by decide) ?_
        exact fin
      · exact absurd h18 hxy
    · rw [hy] at h11; exact absurd h11 (by decide)
theorem le_iff {d x : Int32} : x &&& (d ^^^ (-1)) = 0 ↔ d &&& x = x := by
  constructor
  · intro h
    refine b_ext fun i hi => ?_
    have z : bt (x &&& (d ^^^ (-1))) i = false := by rw [h]; exact b_0 i
    rw [b_and, z_not d hi] at z
    rw [b_and]
    cases h1 : bt d i <;> cases h2 : bt x i <;> rw [h1, h2] at z <;> simp_all
  · intro h
    refine b_ext fun i hi => ?_
    rw [b_and, z_not d hi, b_0, ← h, b_and]
    cases bt d i <;> cases bt x i <;> rfl
theorem dbF_open {T : TT} {D : DT} {o : Int32} : ∀ n, n ≤ 31 → (∀ k, k < n → tog o T.2.1 T.2.2.1 T.1 (D.2.1 k) (D.2.2 k) = false) → ∀ i, i < n → bt (dbF o T.2.1 T.2.2.1 T.1 D n) i = true
  | 0, _, _, i, h => absurd h (Nat.not_lt_zero i)
  | n + 1, hn, hk, i, h => by
    rw [dbF, if_neg (by rw [hk n (Nat.lt_succ_self n)]; decide), b_or, em_bt (by omega) (by omega)]
    by_cases e : i = n
    · rw [decide_eq_true e, Bool.or_true]
    · rw [dbF_open n (by omega) (fun k h2 => hk k (by omega)) i (by omega), Bool.true_or]
theorem le_ok {T : TT} (hP : T.1 ≤ 7) {D : DT} (hD : D.1 ≤ 3 ∧ ∀ k, k < D.1 → D.2.1 k < 6 ∧ D.2.2 k < 6 ∧ D.2.1 k ≠ D.2.2 k) {o x : Int32} {S v : Nat} (eS : shF T o = nI S) (hx : x = nI v) (hv : v < 2 ^ D.1) : leOk T D o x S = true := by
  rw [leOk, ← eS]
  refine decide_eq_true (b_ext fun i hi => ?_)
  rw [b_and]
  cases q : bt x i
  · rw [Bool.and_false]
  · have hi3 : i < D.1 := nI_bt hv hi (by rw [← hx]; exact q)
    rw [dbF_open D.1 (by omega) (fun k hk => by have ⟨h1, h2, h3⟩ := hD.2 k hk; exact tog_open hP h2 h3 h1) i hi3]; rfl
theorem le_rng {x : Int32} {d : Nat} (hd : d ≤ 3) (h : ¬ (x < 0 ∨ em d ≤ x)) : ∃ v, v < 2 ^ d ∧ x = nI v := by
  have h1 : ¬ x < 0 := fun q => h (Or.inl q)
  have h2 : x < em d := Int32.not_le.mp fun q => h (Or.inr q)
  have hp : (2 : Nat) ^ d ≤ 2 ^ 3 := Nat.pow_le_pow_right (by decide) hd
  rw [emQ d (by omega), Int32.lt_iff_toInt_lt, nI_toInt (by omega)] at h2
  rw [Int32.lt_iff_toInt_lt, show (0 : Int32).toInt = 0 from rfl] at h1
  refine ⟨x.toInt.toNat, by omega, ?_⟩
  apply Int32.toInt_inj.mp
  rw [nI_toInt (by omega)]
  omega
theorem le_in {x : Int32} {d : Nat} (hd : d ≤ 3) : inB x.toInt64 0 ((em d - 1).toInt64) = (!decide (x < 0) && !decide (em d ≤ x)) := by
  rw [inB_i 0 (em d - 1) (by decide) rfl]
  have hp : (2 : Nat) ^ d ≤ 2 ^ 3 := Nat.pow_le_pow_right (by decide) hd
  obtain ⟨eP, e1, e2⟩ := emP d (by omega)
  have e : decide (em d - 1 < x) = decide (em d ≤ x) := by
    refine decide_eq_decide.mpr ?_
    rw [eP, emQ d (by omega), Int32.lt_iff_toInt_lt, Int32.le_iff_toInt_le, nI_toInt (by omega), nI_toInt (by omega)]
    omega
  rw [e]
set_option maxRecDepth 100000 in
set_option maxHeartbeats 400000 in
theorem s_X7_letsGo_37 {M : z_Mem} {T : TT} (hT : TN M T) {D : DT} (hD : DN M D) {x : Int32} {S : Nat} (hS : S < 128) : ∀ (f c : Nat) (ij w : Int32) (v5 : Option Value), w = nI (mbF (M.1 68 0) S (leOk T D (M.1 68 0) x) c) → ij = nI c → c + f = 2 ^ T.1 → z_Sm mX7_letsGo (some (.int (nI (mbF (M.1 68 0) S (leOk T D (M.1 68 0) x) (2 ^ T.1))))) M 37 [some (.ref 59), some (.int x), some (.int w), some (.int ij), v5] [] M := by
  obtain ⟨-, e1, e2⟩ := emP T.1 hT.2.1
  have eQ : (1 : Int32) <<< (M.1 59 0 &&& 31) = nI (2 ^ T.1) := by rw [hT.1]; exact emQ T.1 hT.2.1
  intro f
  induction f with
  | zero =>
    intro c ij w v5 hw hi hf
    obtain rfl : c = 2 ^ T.1 := by omega
    refine z_iload_n (pc := 37) dX7_letsGo_37 rfl ?_
    refine z_iconst (pc := 38) (v := 1) dX7_letsGo_38 (by decide) ?_
    refine z_aload_n (pc := 39) dX7_letsGo_39 rfl ?_
    refine z_getI (pc := 40) q_fX7_105 z_s59 rfl dX7_letsGo_40 ?_
    refine z_ishl (pc := 43) dX7_letsGo_43 ?_
    refine z_icmp_ge (pc := 44) (tgt := 128) dX7_letsGo_44 (by decide) (fun h44 => ?_) (fun h44 => ?_)
    · refine z_iload_n (pc := 128) dX7_letsGo_128 rfl ?_
      refine z_iret (pc := 129) rfl dX7_letsGo_129 ?_ ?_
      · exact hw
      · rfl
    · exact absurd (z_lt h44 hi eQ (by omega) (by omega)) (by omega)
  | succ f ih =>
    intro c ij w v5 hw hi hf
    have hb := mbF_lt (o := M.1 68 0) (ok := (leOk T D (M.1 68 0) x)) hS c (by omega)
    subst hi
    subst hw
    have p1 := pc_le (nI c) 7
    have p2 := pc_le (nI (mbF (M.1 68 0) S (leOk T D (M.1 68 0) x) c)) 7
    refine z_iload_n (pc := 37) dX7_letsGo_37 rfl ?_
    refine z_iconst (pc := 38) (v := 1) dX7_letsGo_38 (by decide) ?_
    refine z_aload_n (pc := 39) dX7_letsGo_39 rfl ?_
    refine z_getI (pc := 40) q_fX7_105 z_s59 rfl dX7_letsGo_40 ?_
    refine z_ishl (pc := 43) dX7_letsGo_43 ?_
    refine z_icmp_ge (pc := 44) (tgt := 128) dX7_letsGo_44 (by decide) (fun h44 => ?_) (fun h44 => ?_)
    · exact absurd (z_ge h44 (show nI c = nI c from rfl) eQ (by omega) (by omega)) (by omega)
    · refine z_iload_n (pc := 47) dX7_letsGo_47 rfl ?_
      refine z_cS1 (pc := 48) c_X7_ones (q_cX7_137 _ (by decide)) rfl dX7_letsGo_48 ?_
      refine z_iload_n (pc := 51) dX7_letsGo_51 rfl ?_
      refine z_cS1 (pc := 52) c_X7_ones (q_cX7_137 _ (by decide)) rfl dX7_letsGo_52 ?_
      refine z_icmp_lt (pc := 55) (tgt := 74) dX7_letsGo_55 (by decide) (fun h55 => ?_) (fun h55 => ?_)
      · refine z_iconst (pc := 74) (v := 1) dX7_letsGo_74 (by decide) ?_
        refine z_goto (pc := 75) (tgt := 79) dX7_letsGo_75 (by decide) ?_
        refine z_istore (pc := 79) dX7_letsGo_79 rfl (by decide) ?_
        refine z_iload (pc := 81) dX7_letsGo_81 rfl ?_
        refine z_if_eq (pc := 83) (tgt := 120) dX7_letsGo_83 (by decide) (fun h83 => ?_) (fun h83 => ?_)
        · exact absurd h83 (by decide)
        · refine z_iload_n (pc := 86) dX7_letsGo_86 rfl ?_
          refine z_aload_n (pc := 87) dX7_letsGo_87 rfl ?_
          refine z_getR (pc := 88) 68 q_fX7_34 z_s59 rfl dX7_letsGo_88 ?_
          refine z_iconst (pc := 91) (v := 0) dX7_letsGo_91 (by decide) ?_
          refine z_iald (pc := 92) (0) z_s68 ⟨rfl, by omega⟩ dX7_letsGo_92 ?_
          refine z_iand (pc := 93) dX7_letsGo_93 ?_
          refine z_if_ne (pc := 94) (tgt := 120) dX7_letsGo_94 (by decide) (fun h94 => ?_) (fun h94 => ?_)
          · refine z_iload_n (pc := 120) dX7_letsGo_120 rfl ?_
            refine z_istore_n (pc := 121) dX7_letsGo_121 rfl (by decide) ?_
            refine z_iinc (pc := 122) dX7_letsGo_122 rfl rfl rfl (by decide) ?_
            refine z_goto (pc := 125) (tgt := 37) dX7_letsGo_125 (by decide) ?_
            have fw : fwB c (mbF (M.1 68 0) S (leOk T D (M.1 68 0) x) c) := Or.inl (z_gt h55 rfl rfl (by omega) (by omega))
            exact ih (c + 1) _ _ _ (by rw [mbF_n (fun q => h94 q.1.2)]) (z_n1 rfl) (by omega)
          · refine z_iload_n (pc := 97) dX7_letsGo_97 rfl ?_
            refine z_aload_n (pc := 98) dX7_letsGo_98 rfl ?_
            refine z_aload_n (pc := 99) dX7_letsGo_99 rfl ?_
            refine z_getR (pc := 100) 68 q_fX7_34 z_s59 rfl dX7_letsGo_100 ?_
            refine z_iconst (pc := 103) (v := 0) dX7_letsGo_103 (by decide) ?_
            refine z_iald (pc := 104) (0) z_s68 ⟨rfl, by omega⟩ dX7_letsGo_104 ?_
            refine z_iload_n (pc := 105) dX7_letsGo_105 rfl ?_
            refine z_ior (pc := 106) dX7_letsGo_106 ?_
            refine z_cV1 (pc := 107) (c_X7_doableBy hT hD) (q_cX7_180 _ (by decide)) z_s59 rfl rfl dX7_letsGo_107 ?_
            refine z_iconst (pc := 110) (v := (-1)) dX7_letsGo_110 (by decide) ?_
            refine z_ixor (pc := 111) dX7_letsGo_111 ?_
            refine z_iand (pc := 112) dX7_letsGo_112 ?_
            refine z_if_ne (pc := 113) (tgt := 120) dX7_letsGo_113 (by decide) (fun h113 => ?_) (fun h113 => ?_)
            · refine z_iload_n (pc := 120) dX7_letsGo_120 rfl ?_
              refine z_istore_n (pc := 121) dX7_letsGo_121 rfl (by decide) ?_
              refine z_iinc (pc := 122) dX7_letsGo_122 rfl rfl rfl (by decide) ?_
              refine z_goto (pc := 125) (tgt := 37) dX7_letsGo_125 (by decide) ?_
              have fw : fwB c (mbF (M.1 68 0) S (leOk T D (M.1 68 0) x) c) := Or.inl (z_gt h55 rfl rfl (by omega) (by omega))
              have hk : leOk T D (M.1 68 0) x c = false := decide_eq_false (fun q => h113 (le_iff.mpr q))
              exact ih (c + 1) _ _ _ (by rw [mbF_n (fun q => by rw [hk] at q; cases q.2)]) (z_n1 rfl) (by omega)
            · refine z_iload_n (pc := 116) dX7_letsGo_116 rfl ?_
              refine z_goto (pc := 117) (tgt := 121) dX7_letsGo_117 (by decide) ?_
              refine z_istore_n (pc := 121) dX7_letsGo_121 rfl (by decide) ?_
              refine z_iinc (pc := 122) dX7_letsGo_122 rfl rfl rfl (by decide) ?_
              refine z_goto (pc := 125) (tgt := 37) dX7_letsGo_125 (by decide) ?_
              have fw : fwB c (mbF (M.1 68 0) S (leOk T D (M.1 68 0) x) c) := Or.inl (z_gt h55 rfl rfl (by omega) (by omega))
              have hk : leOk T D (M.1 68 0) x c = true := decide_eq_true (le_iff.mp h113)
              exact ih (c + 1) _ _ _ (by rw [mbF_y ⟨⟨fw, h94⟩, hk⟩]) (z_n1 rfl) (by omega)
      · refine z_iload_n (pc := 58) dX7_letsGo_58 rfl ?_
        refine z_cS1 (pc := 59) c_X7_ones (q_cX7_137 _ (by decide)) rfl dX7_letsGo_59 ?_
        refine z_iload_n (pc := 62) dX7_letsGo_62 rfl ?_
        refine z_cS1 (pc := 63) c_X7_ones (q_cX7_137 _ (by decide)) rfl dX7_letsGo_63 ?_
        refine z_icmp_ne (pc := 66) (tgt := 78) dX7_letsGo_66 (by decide) (fun h66 => ?_) (fun h66 => ?_)
        · refine z_iconst (pc := 78) (v := 0) dX7_letsGo_78 (by decide) ?_
          refine z_istore (pc := 79) dX7_letsGo_79 rfl (by decide) ?_
          refine z_iload (pc := 81) dX7_letsGo_81 rfl ?_
          refine z_if_eq (pc := 83) (tgt := 120) dX7_letsGo_83 (by decide) (fun h83 => ?_) (fun h83 => ?_)
          · refine z_iload_n (pc := 120) dX7_letsGo_120 rfl ?_
            refine z_istore_n (pc := 121) dX7_letsGo_121 rfl (by decide) ?_
            refine z_iinc (pc := 122) dX7_letsGo_122 rfl rfl rfl (by decide) ?_
            refine z_goto (pc := 125) (tgt := 37) dX7_letsGo_125 (by decide) ?_
            have fw : ¬ fwB c (mbF (M.1 68 0) S (leOk T D (M.1 68 0) x) c) := fun q => q.elim (fun z => h55 (nI_lt z (by omega))) (fun z => h66 (by rw [z.1]))
            exact ih (c + 1) _ _ _ (by rw [mbF_n (fun q => fw q.1.1)]) (z_n1 rfl) (by omega)
          · exact absurd rfl h83
        · refine z_iload_n (pc := 69) dX7_letsGo_69 rfl ?_
          refine z_iload_n (pc := 70) dX7_letsGo_70 rfl ?_
          refine z_icmp_ge (pc := 71) (tgt := 78) dX7_letsGo_71 (by decide) (fun h71 => ?_) (fun h71 => ?_)
          · refine z_iconst (pc := 78) (v := 0) dX7_letsGo_78 (by decide) ?_
            refine z_istore (pc := 79) dX7_letsGo_79 rfl (by decide) ?_
            refine z_iload (pc := 81) dX7_letsGo_81 rfl ?_
            refine z_if_eq (pc := 83) (tgt := 120) dX7_letsGo_83 (by decide) (fun h83 => ?_) (fun h83 => ?_)
            · refine z_iload_n (pc := 120) dX7_letsGo_120 rfl ?_
              refine z_istore_n (pc := 121) dX7_letsGo_121 rfl (by decide) ?_
              refine z_iinc (pc := 122) dX7_letsGo_122 rfl rfl rfl (by decide) ?_
              refine z_goto (pc := 125) (tgt := 37) dX7_letsGo_125 (by decide) ?_
              have fw : ¬ fwB c (mbF (M.1 68 0) S (leOk T D (M.1 68 0) x) c) := fun q => q.elim (fun z => h55 (nI_lt z (by omega))) (fun z => absurd (z_ge h71 rfl rfl (by omega) (by omega)) (by have := z.2; omega))
              exact ih (c + 1) _ _ _ (by rw [mbF_n (fun q => fw q.1.1)]) (z_n1 rfl) (by omega)
            · exact absurd rfl h83
          · refine z_iconst (pc := 74) (v := 1) dX7_letsGo_74 (by decide) ?_
            refine z_goto (pc := 75) (tgt := 79) dX7_letsGo_75 (by decide) ?_
            refine z_istore (pc := 79) dX7_letsGo_79 rfl (by decide) ?_
            refine z_iload (pc := 81) dX7_letsGo_81 rfl ?_
            refine z_if_eq (pc := 83) (tgt := 120) dX7_letsGo_83 (by decide) (fun h83 => ?_) (fun h83 => ?_)
            · exact absurd h83 (by decide)
            · refine z_iload_n (pc := 86) dX7_letsGo_86 rfl ?_
              refine z_aload_n (pc := 87) dX7_letsGo_87 rfl ?_
              refine z_getR (pc := 88) 68 q_fX7_34 z_s59 rfl dX7_letsGo_88 ?_
              refine z_iconst (pc := 91) (v := 0) dX7_letsGo_91 (by decide) ?_
              refine z_iald (pc := 92) (0) z_s68 ⟨rfl, by omega⟩ dX7_letsGo_92 ?_
              refine z_iand (pc := 93) dX7_letsGo_93 ?_
              refine z_if_ne (pc := 94) (tgt := 120) dX7_letsGo_94 (by decide) (fun h94 => ?_) (fun h94 => ?_)
              · refine z_iload_n (pc := 120) dX7_letsGo_120 rfl ?_
                refine z_istore_n (pc := 121) dX7_letsGo_121 rfl (by decide) ?_
                refine z_iinc (pc := 122) dX7_letsGo_122 rfl rfl rfl (by decide) ?_
                refine z_goto (pc := 125) (tgt := 37) dX7_letsGo_125 (by decide) ?_
                have fw : fwB c (mbF (M.1 68 0) S (leOk T D (M.1 68 0) x) c) := Or.inr ⟨(nI_eq (by omega) (by omega)).mp h66, z_lt h71 rfl rfl (by omega) (by omega)⟩
                exact ih (c + 1) _ _ _ (by rw [mbF_n (fun q => h94 q.1.2)]) (z_n1 rfl) (by omega)
              · refine z_iload_n (pc := 97) dX7_letsGo_97 rfl ?_
                refine z_aload_n (pc := 98) dX7_letsGo_98 rfl ?_
                refine z_aload_n (pc := 99) dX7_letsGo_99 rfl ?_
                refine z_getR (pc := 100) 68 q_fX7_34 z_s59 rfl dX7_letsGo_100 ?_
                refine z_iconst (pc := 103) (v := 0) dX7_letsGo_103 (by decide) ?_
                refine z_iald (pc := 104) (0) z_s68 ⟨rfl, by omega⟩ dX7_letsGo_104 ?_
                refine z_iload_n (pc := 105) dX7_letsGo_105 rfl ?_
                refine z_ior (pc := 106) dX7_letsGo_106 ?_
                refine z_cV1 (pc := 107) (c_X7_doableBy hT hD) (q_cX7_180 _ (by decide)) z_s59 rfl rfl dX7_letsGo_107 ?_
                refine z_iconst (pc := 110) (v := (-1)) dX7_letsGo_110 (by decide) ?_
                refine z_ixor (pc := 111) dX7_letsGo_111 ?_
                refine z_iand (pc := 112) dX7_letsGo_112 ?_
                refine z_if_ne (pc := 113) (tgt := 120) dX7_letsGo_113 (by decide) (fun h113 => ?_) (fun h113 => ?_)
                · refine z_iload_n (pc := 120) dX7_letsGo_120 rfl ?_
                  refine z_istore_n (pc := 121) dX7_letsGo_121 rfl (by decide) ?_
                  refine z_iinc (pc := 122) dX7_letsGo_122 rfl rfl rfl (by decide) ?_
                  refine z_goto (pc := 125) (tgt := 37) dX7_letsGo_125 (by decide) ?_
                  have fw : fwB c (mbF (M.1 68 0) S (leOk T D (M.1 68 0) x) c) := Or.inr ⟨(nI_eq (by omega) (by omega)).mp h66, z_lt h71 rfl rfl (by omega) (by omega)⟩
                  have hk : leOk T D (M.1 68 0) x c = false := decide_eq_false (fun q => h113 (le_iff.mpr q))
                  exact ih (c + 1) _ _ _ (by rw [mbF_n (fun q => by rw [hk] at q; cases q.2)]) (z_n1 rfl) (by omega)
                · refine z_iload_n (pc := 116) dX7_letsGo_116 rfl ?_
                  refine z_goto (pc := 117) (tgt := 121) dX7_letsGo_117 (by decide) ?_
                  refine z_istore_n (pc := 121) dX7_letsGo_121 rfl (by decide) ?_
                  refine z_iinc (pc := 122) dX7_letsGo_122 rfl rfl rfl (by decide) ?_
                  refine z_goto (pc := 125) (tgt := 37) dX7_letsGo_125 (by decide) ?_
                  have fw : fwB c (mbF (M.1 68 0) S (leOk T D (M.1 68 0) x) c) := Or.inr ⟨(nI_eq (by omega) (by omega)).mp h66, z_lt h71 rfl rfl (by omega) (by omega)⟩
                  have hk : leOk T D (M.1 68 0) x c = true := decide_eq_true (le_iff.mp h113)
                  exact ih (c + 1) _ _ _ (by rw [mbF_y ⟨⟨fw, h94⟩, hk⟩]) (z_n1 rfl) (by omega)
set_option maxRecDepth 100000 in
set_option maxHeartbeats 400000 in
theorem o_X7_letsGo_no {M : z_Mem} {l : Nat → Int32} {n : Nat} {T : TT} {U : UT} {D : DT} {p : PLt} {A : List PLt} {k0 k1 : Option PLt} {L : List (Int32 × Int32)} {sd : Int64} (hR : RM M l n T U D p A k0 k1 L sd) {x : Int32} (h : x < 0 ∨ em D.1 ≤ x) : z_Ct mX7_letsGo [.ref 59, .int x] M (some (.int (-2))) M := by
  obtain ⟨rS, rT, rU, rD, rp, rA, r0, r1, rL, rs⟩ := id hR
  have hin := le_in (x := x) rD.2.1
  rw [show (!decide (x < 0) && !decide (em D.1 ≤ x)) = false from by rcases h with h | h <;> rw [decide_eq_true h] <;> simp] at hin
  have e2 : (1 : Int32) <<< (M.1 59 2 &&& 31) - 1 = em D.1 - 1 := by rw [rD.1]; rfl

  refine z_entry (by decide +kernel) (Nat.le_of_ble_eq_true rfl) rfl ?_
  show z_Sm mX7_letsGo _ _ 0 [some (.ref 59), some (.int x), none, none, none] [] M
  refine z_iload_n (pc := 0) dX7_letsGo_0 rfl ?_
  refine z_i2l (pc := 1) dX7_letsGo_1 rfl ?_
  refine z_lconst (pc := 2) (v := 0) dX7_letsGo_2 (by decide) ?_
  refine z_iconst (pc := 3) (v := 1) dX7_letsGo_3 (by decide) ?_
  refine z_aload_n (pc := 4) dX7_letsGo_4 rfl ?_
  refine z_getI (pc := 5) q_fX7_111 z_s59 rfl dX7_letsGo_5 ?_
  refine z_ishl (pc := 8) dX7_letsGo_8 ?_
  refine z_iconst (pc := 9) (v := 1) dX7_letsGo_9 (by decide) ?_
  refine z_isub (pc := 10) dX7_letsGo_10 ?_
  rw [e2]
  refine z_i2l (pc := 11) dX7_letsGo_11 rfl ?_
  refine z_cS3 (pc := 12) c_X7_in (q_cX7_70 _ (by decide)) rfl dX7_letsGo_12 ?_
  refine z_if_ne (pc := 15) (tgt := 21) dX7_letsGo_15 (by decide) (fun h15 => ?_) (fun h15 => ?_)
  · rw [hin] at h15; exact absurd rfl h15
  · refine z_bipush (pc := 18) (v := (-2)) dX7_letsGo_18 (by decide) ?_
    refine z_iret (pc := 20) rfl dX7_letsGo_20 ?_ ?_
    · rfl
    · rfl
set_option maxRecDepth 100000 in
set_option maxHeartbeats 400000 in
theorem o_X7_letsGo {M : z_Mem} {l : Nat → Int32} {n : Nat} {T : TT} {U : UT} {D : DT} {p : PLt} {A : List PLt} {k0 k1 : Option PLt} {L : List (Int32 × Int32)} {sd : Int64} (hR : RM M l n T U D p A k0 k1 L sd) (hne : ∀ k, k < D.1 → D.2.1 k ≠ D.2.2 k) {x : Int32} (h : ¬ (x < 0 ∨ em D.1 ≤ x)) : z_Ct mX7_letsGo [.ref 59, .int x] M (some (.int (leF T D p.1 x))) M := by
  obtain ⟨rS, rT, rU, rD, rp, rA, r0, r1, rL, rs⟩ := id hR
  have hin := le_in (x := x) rD.2.1
  rw [show (!decide (x < 0) && !decide (em D.1 ≤ x)) = true from by rw [decide_eq_false (fun q => h (Or.inl q)), decide_eq_false (fun q => h (Or.inr q))]; rfl] at hin
  have eD : (1 : Int32) <<< (M.1 59 2 &&& 31) - 1 = em D.1 - 1 := by rw [rD.1]; rfl
  have hP7 := rT.2.1
  have e0 : M.1 68 0 = p.1 := rp.1
  obtain ⟨S, hS, eS⟩ := shF_at hP7 (M.1 68 0)
  obtain ⟨-, e1, e2⟩ := emP T.1 hP7
  obtain ⟨v, hv, hxv⟩ := le_rng rD.2.1 h
  have hk : leOk T D (M.1 68 0) x S = true := le_ok hP7 ⟨rD.2.1, fun k hk => ⟨(rD.2.2 k hk).2.2.1, (rD.2.2 k hk).2.2.2, hne k hk⟩⟩ eS hxv hv
  have fin := s_X7_letsGo_37 rT rD (x := x) (S := S) (by omega) (2 ^ T.1) 0 0 (nI S) none rfl rfl (by omega)
  rw [mb_end hP7 hS eS hk, e0] at fin
  have eS2 : (em T.1 - 1) &&& (M.1 68 0 ^^^ (-1)) = nI S := eS

  refine z_entry (by decide +kernel) (Nat.le_of_ble_eq_true rfl) rfl ?_
  show z_Sm mX7_letsGo _ _ 0 [some (.ref 59), some (.int x), none, none, none] [] M
  refine z_iload_n (pc := 0) dX7_letsGo_0 rfl ?_
  refine z_i2l (pc := 1) dX7_letsGo_1 rfl ?_
  refine z_lconst (pc := 2) (v := 0) dX7_letsGo_2 (by decide) ?_
  refine z_iconst (pc := 3) (v := 1) dX7_letsGo_3 (by decide) ?_
  refine z_aload_n (pc := 4) dX7_letsGo_4 rfl ?_
  refine z_getI (pc := 5) q_fX7_111 z_s59 rfl dX7_letsGo_5 ?_
  refine z_ishl (pc := 8) dX7_letsGo_8 ?_
  refine z_iconst (pc := 9) (v := 1) dX7_letsGo_9 (by decide) ?_
  refine z_isub (pc := 10) dX7_letsGo_10 ?_
  rw [eD]
  refine z_i2l (pc := 11) dX7_letsGo_11 rfl ?_
  refine z_cS3 (pc := 12) c_X7_in (q_cX7_70 _ (by decide)) rfl dX7_letsGo_12 ?_
  refine z_if_ne (pc := 15) (tgt := 21) dX7_letsGo_15 (by decide) (fun h15 => ?_) (fun h15 => ?_)
  · refine z_aload_n (pc := 21) dX7_letsGo_21 rfl ?_
    refine z_cV0 (pc := 22) (c_X7_all rT) (q_cX7_177 _ (by decide)) z_s59 rfl rfl dX7_letsGo_22 ?_
    refine z_aload_n (pc := 25) dX7_letsGo_25 rfl ?_
    refine z_getR (pc := 26) 68 q_fX7_34 z_s59 rfl dX7_letsGo_26 ?_
    refine z_iconst (pc := 29) (v := 0) dX7_letsGo_29 (by decide) ?_
    refine z_iald (pc := 30) (0) z_s68 ⟨rfl, by omega⟩ dX7_letsGo_30 ?_
    refine z_iconst (pc := 31) (v := (-1)) dX7_letsGo_31 (by decide) ?_
    refine z_ixor (pc := 32) dX7_letsGo_32 ?_
    refine z_iand (pc := 33) dX7_letsGo_33 ?_
    rw [eS2]
    refine z_istore_n (pc := 34) dX7_letsGo_34 rfl (by decide) ?_
    refine z_iconst (pc := 35) (v := 0) dX7_letsGo_35 (by decide) ?_
    refine z_istore_n (pc := 36) dX7_letsGo_36 rfl (by decide) ?_
    exact fin
  · rw [hin] at h15; exact absurd h15 (by decide)
