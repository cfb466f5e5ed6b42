/-- what was tried: load and whether it gave (1) or not (0), in their order -/
def TrAt (M : z_Mem) (L : List (Int32 × Int32)) : Prop := M.1 54 2 = nI L.length ∧ L.length ≤ 6 ∧ ∀ i q, L[i]? = some q → M.1 55 i = q.1 ∧ M.1 56 i = q.2
theorem TrAt_sb {ids : List Nat} {M N : z_Mem} {L : List (Int32 × Int32)} (h : TrAt M L) (s : Sb ids M N) (h4 : 54 ∉ ids) (h5 : 55 ∉ ids) (h6 : 56 ∉ ids) : TrAt N L := by
  unfold TrAt
  rw [s.1 54 h4, s.1 55 h5, s.1 56 h6]
  exact h
def agQ (held : Int32) (q : Int32 × Int32) : Bool := (if held < q.1 then (1 : Int32) else 0) == q.2
def heldF (kind st : Int32) : Int32 := if kind = 1 then st + 3 else st
set_option maxRecDepth 100000 in
set_option maxHeartbeats 400000 in
theorem c_X5_add {M : z_Mem} {L : List (Int32 × Int32)} (hL : TrAt M L) (hl : L.length < 6) {x y : Int32} (hy : y = 0 ∨ y = 1) : ∃ M1, z_Ct mX5_add [.ref 54, .int x, .int y] M none M1 ∧ TrAt M1 (L ++ [(x, y)]) ∧ Sb [54, 55, 56] M M1 := by
  obtain ⟨h1, h2, h3⟩ := hL
  have hn : vp_nar .boolean y = y := by rcases hy with rfl | rfl <;> decide
  have e5 : (z_set M 55 L.length x).1 54 2 = nI L.length := by rw [z_set, z_row_n _ _ (by decide)]; exact h1
  have e6 : (z_set (z_set M 55 L.length x) 56 L.length y).1 54 2 = nI L.length := by rw [z_set, z_row_n _ _ (by decide)]; exact e5
  refine ⟨z_set (z_set (z_set M 55 L.length x) 56 L.length y) 54 2 (nI (L.length + 1)), ?_, ⟨?_, ?_, fun i q hi => ?_⟩, ((Sb.set _ (by simp)).tr (Sb.set _ (by simp))).tr (Sb.set _ (by simp))⟩
  · refine z_entry (by decide +kernel) (Nat.le_of_ble_eq_true rfl) rfl ?_
    show z_Sm mX5_add _ _ 0 [some (.ref 54), some (.int x), some (.int y)] [] M
    refine z_aload_n (pc := 0) dX5_add_0 rfl ?_
    refine z_getI (pc := 1) q_fX5_19 z_s54 rfl dX5_add_1 ?_
    refine z_if_lt (pc := 4) (tgt := 46) dX5_add_4 (by decide) (fun h4 => ?_) (fun h4 => ?_)
    · exact absurd h4 (by rw [h1]; exact nI_pos (by omega))
    · refine z_aload_n (pc := 7) dX5_add_7 rfl ?_
      refine z_getI (pc := 8) q_fX5_19 z_s54 rfl dX5_add_8 ?_
      refine z_bipush (pc := 11) (v := 6) dX5_add_11 (by decide) ?_
      refine z_icmp_ge (pc := 13) (tgt := 46) dX5_add_13 (by decide) (fun h13 => ?_) (fun h13 => ?_)
      · exact absurd h13 (by rw [h1]; exact nI_ge (b := 6) hl (by decide))
      · refine z_aload_n (pc := 16) dX5_add_16 rfl ?_
        refine z_getR (pc := 17) 55 q_fX5_9 z_s54 rfl dX5_add_17 ?_
        refine z_aload_n (pc := 20) dX5_add_20 rfl ?_
        refine z_getI (pc := 21) q_fX5_19 z_s54 rfl dX5_add_21 ?_
        refine z_iload_n (pc := 24) dX5_add_24 rfl ?_
        refine z_iast (pc := 25) (L.length) z_s55 ⟨h1, hl, by decide⟩ dX5_add_25 ?_
        refine z_aload_n (pc := 26) dX5_add_26 rfl ?_
        refine z_getR (pc := 27) 56 q_fX5_15 z_s54 rfl dX5_add_27 ?_
        refine z_aload_n (pc := 30) dX5_add_30 rfl ?_
        refine z_getI (pc := 31) q_fX5_19 z_s54 rfl dX5_add_31 ?_
        refine z_iload_n (pc := 34) dX5_add_34 rfl ?_
        refine z_zast (pc := 35) (L.length) z_s56 ⟨e5, hl, by decide⟩ hn dX5_add_35 ?_
        refine z_aload_n (pc := 36) dX5_add_36 rfl ?_
        refine z_dup (pc := 37) dX5_add_37 rfl ?_
        refine z_getI (pc := 38) q_fX5_19 z_s54 rfl dX5_add_38 ?_
        refine z_iconst (pc := 41) (v := 1) dX5_add_41 (by decide) ?_
        refine z_iadd (pc := 42) dX5_add_42 ?_
        refine z_putI (pc := 43) q_fX5_19 q_p5_2 z_s54 rfl dX5_add_43 ?_
        refine z_vret (pc := 46) rfl dX5_add_46 ?_
        rw [e6, nI_succ]
  · rw [z_set, z_row_1, upd_1, List.length_append]; rfl
  · rw [List.length_append]; simp; omega
  · have f5 : (z_set (z_set (z_set M 55 L.length x) 56 L.length y) 54 2 (nI (L.length + 1))).1 55 = upd (M.1 55) L.length x := by rw [z_set, z_row_n _ _ (by decide), z_set, z_row_n _ _ (by decide), z_set, z_row_1]
    have f6 : (z_set (z_set (z_set M 55 L.length x) 56 L.length y) 54 2 (nI (L.length + 1))).1 56 = upd (M.1 56) L.length y := by rw [z_set, z_row_n _ _ (by decide), z_set, z_row_1, z_set, z_row_n _ _ (by decide)]
    rw [f5, f6]
    by_cases e : i < L.length
    · rw [List.getElem?_append_left e] at hi
      rw [upd_n _ _ (by omega), upd_n _ _ (by omega)]
      exact h3 i q hi
    · rw [List.getElem?_append_right (by omega)] at hi
      have hz := (List.getElem?_eq_some_iff.mp hi).1
      simp at hz
      have : i = L.length := by omega
      subst this
      rw [Nat.sub_self] at hi
      simp at hi
      subst hi
      exact ⟨upd_1 _ _ _, upd_1 _ _ _⟩
set_option maxRecDepth 100000 in
set_option maxHeartbeats 400000 in
theorem s_X5_agreeWith_16 {M : z_Mem} {L : List (Int32 × Int32)} (hL : TrAt M L) {x y z : Int32} (j : Nat) (hj : j ≤ L.length) (ij : Int32) (h2 : ij = nI j) (hp : (L.take j).all (agQ z) = true) : z_Sm mX5_agreeWith (some (.int (if L.all (agQ z) then 1 else 0))) M 16 [some (.ref 54), some (.int x), some (.int y), some (.int z), some (.int ij)] [] M := by
  have hl6 := hL.2.1
  refine z_iload (pc := 16) dX5_agreeWith_16 rfl ?_
  refine z_aload_n (pc := 18) dX5_agreeWith_18 rfl ?_
  refine z_getI (pc := 19) q_fX5_19 z_s54 rfl dX5_agreeWith_19 ?_
  refine z_icmp_ge (pc := 22) (tgt := 59) dX5_agreeWith_22 (by decide) (fun h22 => ?_) (fun h22 => ?_)
  · have hN : L.length ≤ j := z_ge h22 h2 hL.1 (by omega) (by omega)
    have e : L.take j = L := List.take_of_length_le hN
    rw [e] at hp
    refine z_iconst (pc := 59) (v := 1) dX5_agreeWith_59 (by decide) ?_
    refine z_zret (pc := 60) rfl dX5_agreeWith_60 ?_ ?_ ?_
    · rfl
    · rw [hp]; rfl
    · rfl
  · have hlt : j < L.length := z_lt h22 h2 hL.1 (by omega) (by omega)
    have hget : L[j]? = some L[j] := List.getElem?_eq_getElem hlt
    obtain ⟨ha, hb⟩ := hL.2.2 j _ hget
    have htk : L.take (j + 1) = L.take j ++ [L[j]] := (List.take_append_getElem hlt).symm
    refine z_aload_n (pc := 25) dX5_agreeWith_25 rfl ?_
    refine z_getR (pc := 26) 55 q_fX5_9 z_s54 rfl dX5_agreeWith_26 ?_
    refine z_iload (pc := 29) dX5_agreeWith_29 rfl ?_
    refine z_iald (pc := 31) (j) z_s55 ⟨h2, by omega, by decide⟩ dX5_agreeWith_31 ?_
    refine z_iload_n (pc := 32) dX5_agreeWith_32 rfl ?_
    refine z_icmp_le (pc := 33) (tgt := 40) dX5_agreeWith_33 (by decide) (fun h33 => ?_) (fun h33 => ?_)
    · refine z_iconst (pc := 40) (v := 0) dX5_agreeWith_40 (by decide) ?_
      refine z_aload_n (pc := 41) dX5_agreeWith_41 rfl ?_
      refine z_getR (pc := 42) 56 q_fX5_15 z_s54 rfl dX5_agreeWith_42 ?_
      refine z_iload (pc := 45) dX5_agreeWith_45 rfl ?_
      refine z_zald (pc := 47) (j) z_s56 ⟨h2, by omega, by decide⟩ dX5_agreeWith_47 ?_
      refine z_icmp_eq (pc := 48) (tgt := 53) dX5_agreeWith_48 (by decide) (fun h48 => ?_) (fun h48 => ?_)
      · refine z_iinc (pc := 53) dX5_agreeWith_53 rfl rfl rfl (by decide) ?_
        refine z_goto (pc := 56) (tgt := 16) dX5_agreeWith_56 (by decide) ?_
        refine s_X5_agreeWith_16 hL (j + 1) hlt _ (z_n1 h2) ?_
        rw [htk, List.all_append, hp]
        rw [ha] at h33
        rw [hb] at h48
        simp only [agQ, List.all_cons, List.all_nil, if_neg (Int32.not_lt.mpr h33), Bool.true_and, Bool.and_true, beq_iff_eq]
        exact h48
      · refine z_iconst (pc := 51) (v := 0) dX5_agreeWith_51 (by decide) ?_
        refine z_zret (pc := 52) rfl dX5_agreeWith_52 ?_ ?_ ?_
        · rfl
        · have hf : agQ z L[j] = false := by
            rw [ha] at h33
            rw [hb] at h48
            simp only [agQ, if_neg (Int32.not_lt.mpr h33), beq_eq_false_iff_ne]
            exact h48
          rw [show L.all (agQ z) = false from List.all_eq_false.mpr ⟨L[j], List.getElem_mem hlt, by rw [hf]; decide⟩]; rfl
        · rfl
    · refine z_iconst (pc := 36) (v := 1) dX5_agreeWith_36 (by decide) ?_
      refine z_goto (pc := 37) (tgt := 41) dX5_agreeWith_37 (by decide) ?_
      refine z_aload_n (pc := 41) dX5_agreeWith_41 rfl ?_
      refine z_getR (pc := 42) 56 q_fX5_15 z_s54 rfl dX5_agreeWith_42 ?_
      refine z_iload (pc := 45) dX5_agreeWith_45 rfl ?_
      refine z_zald (pc := 47) (j) z_s56 ⟨h2, by omega, by decide⟩ dX5_agreeWith_47 ?_
      refine z_icmp_eq (pc := 48) (tgt := 53) dX5_agreeWith_48 (by decide) (fun h48 => ?_) (fun h48 => ?_)
      · refine z_iinc (pc := 53) dX5_agreeWith_53 rfl rfl rfl (by decide) ?_
        refine z_goto (pc := 56) (tgt := 16) dX5_agreeWith_56 (by decide) ?_
        refine s_X5_agreeWith_16 hL (j + 1) hlt _ (z_n1 h2) ?_
        rw [htk, List.all_append, hp]
        rw [ha] at h33
        rw [hb] at h48
        simp only [agQ, List.all_cons, List.all_nil, if_pos (Int32.not_le.mp h33), Bool.true_and, Bool.and_true, beq_iff_eq]
        exact h48
      · refine z_iconst (pc := 51) (v := 0) dX5_agreeWith_51 (by decide) ?_
        refine z_zret (pc := 52) rfl dX5_agreeWith_52 ?_ ?_ ?_
        · rfl
        · have hf : agQ z L[j] = false := by
            rw [ha] at h33
            rw [hb] at h48
            simp only [agQ, if_pos (Int32.not_le.mp h33), beq_eq_false_iff_ne]
            exact h48
          rw [show L.all (agQ z) = false from List.all_eq_false.mpr ⟨L[j], List.getElem_mem hlt, by rw [hf]; decide⟩]; rfl
        · rfl
termination_by L.length - j
decreasing_by all_goals omega
set_option maxRecDepth 100000 in
set_option maxHeartbeats 400000 in
theorem c_X5_agreeWith {M : z_Mem} {L : List (Int32 × Int32)} (hL : TrAt M L) {x y : Int32} : z_Ct mX5_agreeWith [.ref 54, .int x, .int y] M (some (.int (if L.all (agQ (heldF x y)) then 1 else 0))) M := by
  refine z_entry (by decide +kernel) (Nat.le_of_ble_eq_true rfl) rfl ?_
  show z_Sm mX5_agreeWith _ _ 0 [some (.ref 54), some (.int x), some (.int y), none, none] [] M
  refine z_iload_n (pc := 0) dX5_agreeWith_0 rfl ?_
  refine z_iconst (pc := 1) (v := 1) dX5_agreeWith_1 (by decide) ?_
  refine z_icmp_ne (pc := 2) (tgt := 11) dX5_agreeWith_2 (by decide) (fun h2 => ?_) (fun h2 => ?_)
  · refine z_iload_n (pc := 11) dX5_agreeWith_11 rfl ?_
    refine z_istore_n (pc := 12) dX5_agreeWith_12 rfl (by decide) ?_
    refine z_iconst (pc := 13) (v := 0) dX5_agreeWith_13 (by decide) ?_
    refine z_istore (pc := 14) dX5_agreeWith_14 rfl (by decide) ?_
    have e : heldF x y = y := if_neg h2
    rw [e]
    exact s_X5_agreeWith_16 hL 0 (Nat.zero_le _) _ rfl rfl
  · refine z_iload_n (pc := 5) dX5_agreeWith_5 rfl ?_
    refine z_iconst (pc := 6) (v := 3) dX5_agreeWith_6 (by decide) ?_
    refine z_iadd (pc := 7) dX5_agreeWith_7 ?_
    refine z_goto (pc := 8) (tgt := 12) dX5_agreeWith_8 (by decide) ?_
    refine z_istore_n (pc := 12) dX5_agreeWith_12 rfl (by decide) ?_
    refine z_iconst (pc := 13) (v := 0) dX5_agreeWith_13 (by decide) ?_
    refine z_istore (pc := 14) dX5_agreeWith_14 rfl (by decide) ?_
    have e : heldF x y = y + 3 := if_pos (by simpa using h2)
    rw [e]
    exact s_X5_agreeWith_16 hL 0 (Nat.zero_le _) _ rfl rfl
theorem rIn_mono {o : Int32} {a b : Nat → Nat} {x : Int32} {k : Nat} (h : bt x k = true) : ∀ n, bt (rIn o a b n x) k = true
  | 0 => h
  | n + 1 => by
    have := rIn_mono (o := o) (a := a) (b := b) h n
    unfold rIn
    split
    · rw [b_or, this]; rfl
    · exact this
theorem rOut_mono {o : Int32} {a b : Nat → Nat} {P : Nat} {x : Int32} {k : Nat} (h : bt x k = true) : ∀ n, bt (rOut o a b P n x) k = true
  | 0 => h
  | n + 1 => rIn_mono (rOut_mono h n) P
theorem rIn_lo {o : Int32} {a b : Nat → Nat} {x : Int32} (hx : ∀ k, 6 ≤ k → k < 32 → bt x k = false) : ∀ n, (∀ k, k < n → a k < 6 ∧ b k < 6) → ∀ k, 6 ≤ k → k < 32 → bt (rIn o a b n x) k = false
  | 0, _ => hx
  | n + 1, hab => by
    have ih := rIn_lo (o := o) hx n (fun k hk => hab k (by omega))
    obtain ⟨h1, h2⟩ := hab n (by omega)
    intro k hk hk2
    unfold rIn
    split
    · rw [b_or, b_or, ih k hk hk2, em_bt (by omega) hk2, em_bt (by omega) hk2]
      simp; omega
    · exact ih k hk hk2
theorem rOut_lo {o : Int32} {a b : Nat → Nat} {P t : Nat} (ht : t < 6) (hab : ∀ k, k < P → a k < 6 ∧ b k < 6) : ∀ n k, 6 ≤ k → k < 32 → bt (rOut o a b P n (em t)) k = false
  | 0 => fun k hk hk2 => by rw [rOut, em_bt (by omega) hk2]; simp; omega
  | n + 1 => rIn_lo (rOut_lo ht hab n) P hab
theorem rOut_sm {o : Int32} {a b : Nat → Nat} {P t n : Nat} (ht : t < 6) (hab : ∀ k, k < P → a k < 6 ∧ b k < 6) : sm7 (rOut o a b P n (em t)) := fun k h1 h2 => rOut_lo ht hab n k (by omega) h2
theorem TW.ab {M : z_Mem} {P : Nat} {a b : Nat → Nat} (h : TW M P a b) : ∀ k, k < P → a k < 6 ∧ b k < 6 := fun k hk => (h.2.2 k hk).2.2
theorem pc_pos {x : Int32} {k : Nat} (h : bt x k = true) : ∀ n, k < n → 1 ≤ pc n x
  | 0, q => absurd q (Nat.not_lt_zero k)
  | n + 1, q => by
    show 1 ≤ pc n x + (bt x n).toNat
    by_cases e : k = n
    · subst e; rw [h]; simp
    · have := pc_pos h n (by omega)
      omega
/-- the pairs of things that are together, each met from both sides -/
def prN (o : Int32) (a b : Nat → Nat) (P : Nat) : Nat → Nat
  | 0 => 0
  | n + 1 => prN o a b P n + (pc 7 (rOut o a b P 5 (em n)) - 1)
theorem prN_le (o : Int32) (a b : Nat → Nat) (P : Nat) : ∀ n, prN o a b P n ≤ 7 * n
  | 0 => Nat.le_refl 0
  | n + 1 => by
    have := prN_le o a b P n
    have := pc_le (rOut o a b P 5 (em n)) 7
    show prN o a b P n + (pc 7 (rOut o a b P 5 (em n)) - 1) ≤ 7 * (n + 1)
    omega
set_option maxRecDepth 100000 in
set_option maxHeartbeats 400000 in
theorem s_X4_pairsTogether_4 {M M2 : z_Mem} {r : Option Value} {P : Nat} {a b : Nat → Nat} (hT : TW M P a b) {o : Int32} (kk : z_Sm mX4_pairsTogether r M2 30 [some (.ref 3), some (.int o), some (.int (nI (prN o a b P (6)))), none] [] (M)) (j : Nat) (hj : j ≤ 6) (ij : Int32) (v : Int32) (h2 : ij = nI j) (hv_v : v = nI (prN o a b P j)) : z_Sm mX4_pairsTogether r M2 4 [some (.ref 3), some (.int o), some (.int v), some (.int ij)] [] M := by
  refine z_iload_n (pc := 4) dX4_pairsTogether_4 rfl ?_
  refine z_bipush (pc := 5) (v := 6) dX4_pairsTogether_5 (by decide) ?_
  refine z_icmp_ge (pc := 7) (tgt := 30) dX4_pairsTogether_7 (by decide) (fun h7 => ?_) (fun h7 => ?_)
  · have hNj : 6 ≤ j := by
      have := z_ge h7 h2 (show (6 : Int32) = nI 6 from rfl) (by omega) (by omega)
      omega
    obtain rfl : j = 6 := by omega
    subst hv_v
    exact z_drop 3 kk
  · have hlt : j < 6 := by
      have := z_lt h7 h2 (show (6 : Int32) = nI 6 from rfl) (by omega) (by omega)
      omega
    refine z_iload_n (pc := 10) dX4_pairsTogether_10 rfl ?_
    refine z_aload_n (pc := 11) dX4_pairsTogether_11 rfl ?_
    refine z_iload_n (pc := 12) dX4_pairsTogether_12 rfl ?_
    refine z_iload_n (pc := 13) dX4_pairsTogether_13 rfl ?_
    refine z_cV2 (pc := 14) (c_X4_reach hT h2) (q_cX4_71 _ (by decide)) z_s3 rfl rfl dX4_pairsTogether_14 ?_
    refine z_cS1 (pc := 17) (c_J6_bitCount_0f7a4 (rOut_sm hlt hT.ab)) (q_cX4_74 _ (by decide)) rfl dX4_pairsTogether_17 ?_
    refine z_iconst (pc := 20) (v := 1) dX4_pairsTogether_20 (by decide) ?_
    refine z_isub (pc := 21) dX4_pairsTogether_21 ?_
    refine z_iadd (pc := 22) dX4_pairsTogether_22 ?_
    refine z_istore_n (pc := 23) dX4_pairsTogether_23 rfl (by decide) ?_
    refine z_iinc (pc := 24) dX4_pairsTogether_24 rfl rfl rfl (by decide) ?_
    refine z_goto (pc := 27) (tgt := 4) dX4_pairsTogether_27 (by decide) ?_
    exact s_X4_pairsTogether_4 hT kk (j + 1) hlt _ _ (z_n1 h2) (by have h1 := pc_pos (rOut_mono (o := o) (a := a) (b := b) (P := P) (show bt (em j) j = true by rw [em_bt (by omega) (by omega)]; simp) 5) 7 (by omega); rw [hv_v, prN, show (1 : Int32) = nI 1 from rfl, pk_sub h1, nI_add])
termination_by 6 - j
decreasing_by all_goals omega
set_option maxRecDepth 100000 in
set_option maxHeartbeats 400000 in
theorem c_X4_pairsTogether {M : z_Mem} {P : Nat} {a b : Nat → Nat} (hT : TW M P a b) {o : Int32} : z_Ct mX4_pairsTogether [.ref 3, .int o] M (some (.int (nI (prN o a b P 6 / 2)))) M := by
  refine z_entry (by decide +kernel) (Nat.le_of_ble_eq_true rfl) rfl ?_
  show z_Sm mX4_pairsTogether _ _ 0 [some (.ref 3), some (.int o), none, none] [] M
  refine z_iconst (pc := 0) (v := 0) dX4_pairsTogether_0 (by decide) ?_
  refine z_istore_n (pc := 1) dX4_pairsTogether_1 rfl (by decide) ?_
  refine z_iconst (pc := 2) (v := 0) dX4_pairsTogether_2 (by decide) ?_
  refine z_istore_n (pc := 3) dX4_pairsTogether_3 rfl (by decide) ?_
  refine s_X4_pairsTogether_4 hT ?_ 0 (by omega) _ _ rfl rfl
  refine z_iload_n (pc := 30) dX4_pairsTogether_30 rfl ?_
  refine z_iconst (pc := 31) (v := 2) dX4_pairsTogether_31 (by decide) ?_
  refine z_idiv (pc := 32) dX4_pairsTogether_32 (by decide) ?_
  refine z_iret (pc := 33) rfl dX4_pairsTogether_33 ?_ ?_
  · exact pk_div (d := 2) (by have := prN_le o a b P 6; omega) (by decide) (by decide)
  · rfl
/-- deeds: how many, the two things of each -/
abbrev DT : Type := Nat × (Nat → Nat) × (Nat → Nat)
def DK (M : z_Mem) (D : DT) : Prop := M.1 3 8 = nI D.1 ∧ D.1 ≤ 3 ∧ ∀ k, k < D.1 → M.1 10 k = nI (D.2.1 k) ∧ M.1 11 k = nI (D.2.2 k) ∧ D.2.1 k < 6 ∧ D.2.2 k < 6
theorem DK_sb {ids : List Nat} {M N : z_Mem} {D : DT} (h : DK M D) (s : Sb ids M N) (h3 : 3 ∉ ids) (h8 : 10 ∉ ids) (h9 : 11 ∉ ids) : DK N D := by
  unfold DK
  rw [s.1 3 h3, s.1 10 h8, s.1 11 h9]
  exact h
def dbF (o : Int32) (a b : Nat → Nat) (P : Nat) (D : DT) : Nat → Int32
  | 0 => 0
  | n + 1 => if tog o a b P (D.2.1 n) (D.2.2 n) = true then dbF o a b P D n else dbF o a b P D n ||| em n
set_option maxRecDepth 100000 in
set_option maxHeartbeats 400000 in
theorem s_X4_doable_4 {M M2 : z_Mem} {r : Option Value} {P : Nat} {a b : Nat → Nat} (hT : TW M P a b) {D : DT} (hD : DK M D) {o : Int32} (kk : z_Sm mX4_doable r M2 44 [some (.ref 3), some (.int o), some (.int (dbF o a b P D (D.1))), none] [] (M)) (j : Nat) (hj : j ≤ D.1) (ij : Int32) (v : Int32) (h2 : ij = nI j) (hv_v : v = dbF o a b P D j) : z_Sm mX4_doable r M2 4 [some (.ref 3), some (.int o), some (.int v), some (.int ij)] [] M := by
  have hD3 := hD.2.1
  refine z_iload_n (pc := 4) dX4_doable_4 rfl ?_
  refine z_aload_n (pc := 5) dX4_doable_5 rfl ?_
  refine z_getI (pc := 6) q_fX4_37 z_s3 rfl dX4_doable_6 ?_
  refine z_icmp_ge (pc := 9) (tgt := 44) dX4_doable_9 (by decide) (fun h9 => ?_) (fun h9 => ?_)
  · have hNj : D.1 ≤ j := by
      have := z_ge h9 h2 hD.1 (by omega) (by omega)
      omega
    obtain rfl : j = D.1 := by omega
    subst hv_v
    exact z_drop 3 kk
  · have hlt : j < D.1 := by
      have := z_lt h9 h2 hD.1 (by omega) (by omega)
      omega
    obtain ⟨hx, hy, hx6, hy6⟩ := hD.2.2 j hlt
    refine z_aload_n (pc := 12) dX4_doable_12 rfl ?_
    refine z_aload_n (pc := 13) dX4_doable_13 rfl ?_
    refine z_getR (pc := 14) 10 q_fX4_40 z_s3 rfl dX4_doable_14 ?_
    refine z_iload_n (pc := 17) dX4_doable_17 rfl ?_
    refine z_iald (pc := 18) (j) z_s10 ⟨h2, by omega, by decide⟩ dX4_doable_18 ?_
    refine z_aload_n (pc := 19) dX4_doable_19 rfl ?_
    refine z_getR (pc := 20) 11 q_fX4_43 z_s3 rfl dX4_doable_20 ?_
    refine z_iload_n (pc := 23) dX4_doable_23 rfl ?_
    refine z_iald (pc := 24) (j) z_s11 ⟨h2, by omega, by decide⟩ dX4_doable_24 ?_
    refine z_iload_n (pc := 25) dX4_doable_25 rfl ?_
    refine z_cV3 (pc := 26) (c_X4_areTogether hT hx hy hy6) (q_cX4_79 _ (by decide)) z_s3 rfl rfl dX4_doable_26 ?_
    refine z_if_ne (pc := 29) (tgt := 38) dX4_doable_29 (by decide) (fun h29 => ?_) (fun h29 => ?_)
    · refine z_iinc (pc := 38) dX4_doable_38 rfl rfl rfl (by decide) ?_
      refine z_goto (pc := 41) (tgt := 4) dX4_doable_41 (by decide) ?_
      have hb : tog o a b P (D.2.1 j) (D.2.2 j) = true := by
        cases q : tog o a b P (D.2.1 j) (D.2.2 j)
        · rw [q] at h29; exact absurd rfl h29
        · rfl
      exact s_X4_doable_4 hT hD kk (j + 1) hlt _ _ (z_n1 h2) (by rw [hv_v, dbF, if_pos hb])
    · refine z_iload_n (pc := 32) dX4_doable_32 rfl ?_
      refine z_iconst (pc := 33) (v := 1) dX4_doable_33 (by decide) ?_
      refine z_iload_n (pc := 34) dX4_doable_34 rfl ?_
      refine z_ishl (pc := 35) dX4_doable_35 ?_
      refine z_ior (pc := 36) dX4_doable_36 ?_
      refine z_istore_n (pc := 37) dX4_doable_37 rfl (by decide) ?_
      refine z_iinc (pc := 38) dX4_doable_38 rfl rfl rfl (by decide) ?_
      refine z_goto (pc := 41) (tgt := 4) dX4_doable_41 (by decide) ?_
      have hb : ¬ tog o a b P (D.2.1 j) (D.2.2 j) = true := by
        intro q
        rw [q] at h29; exact absurd h29 (by decide)
      exact s_X4_doable_4 hT hD kk (j + 1) hlt _ _ (z_n1 h2) (by rw [hv_v, dbF, if_neg hb, h2]; rfl)
termination_by D.1 - j
decreasing_by all_goals omega
set_option maxRecDepth 100000 in
set_option maxHeartbeats 400000 in
theorem c_X4_doable {M : z_Mem} {P : Nat} {a b : Nat → Nat} (hT : TW M P a b) {D : DT} (hD : DK M D) {o : Int32} : z_Ct mX4_doable [.ref 3, .int o] M (some (.int (dbF o a b P D D.1))) M := by
  refine z_entry (by decide +kernel) (Nat.le_of_ble_eq_true rfl) rfl ?_
  show z_Sm mX4_doable _ _ 0 [some (.ref 3), some (.int o), none, none] [] M
  refine z_iconst (pc := 0) (v := 0) dX4_doable_0 (by decide) ?_
  refine z_istore_n (pc := 1) dX4_doable_1 rfl (by decide) ?_
  refine z_iconst (pc := 2) (v := 0) dX4_doable_2 (by decide) ?_
  refine z_istore_n (pc := 3) dX4_doable_3 rfl (by decide) ?_
  refine s_X4_doable_4 hT hD ?_ 0 (Nat.zero_le _) _ _ rfl rfl
  refine z_iload_n (pc := 44) dX4_doable_44 rfl ?_
  refine z_iret (pc := 45) rfl dX4_doable_45 ?_ ?_
  · rfl
  · rfl
