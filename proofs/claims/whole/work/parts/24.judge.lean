def whO (L : List (Int32 × Int32)) (g : Nat) : Bool := L.all (agQ (heldF (nI (g / 10)) (nI (g % 10))))
def whF (ok : Nat → Bool) : Nat → Nat × Int32
  | 0 => (0, -9)
  | g + 1 => if ok g = true then ((whF ok g).1 + 1, if (whF ok g).1 = 0 then nI g else (whF ok g).2) else whF ok g
theorem whF_le (ok : Nat → Bool) : ∀ g, (whF ok g).1 ≤ g
  | 0 => Nat.le_refl 0
  | g + 1 => by
    have := whF_le ok g
    unfold whF
    split
    · show (whF ok g).1 + 1 ≤ g + 1; omega
    · omega
theorem whF_no {ok : Nat → Bool} {g : Nat} (h : ok g = false) : whF ok (g + 1) = whF ok g := by rw [whF, if_neg (by rw [h]; decide)]
theorem whF_yes {ok : Nat → Bool} {g : Nat} (h : ok g = true) : whF ok (g + 1) = ((whF ok g).1 + 1, if (whF ok g).1 = 0 then nI g else (whF ok g).2) := by rw [whF, if_pos h]
set_option maxRecDepth 100000 in
set_option maxHeartbeats 400000 in
theorem s_X6_which_20 {M M2 : z_Mem} {r : Option Value} {L : List (Int32 × Int32)} (hL : TrAt M L) {x : Int32} (kk : z_Sm mX6_which r M2 67 [some (.ref 0), some (.int x), some (.int (nI (whF (whO L) (20)).1)), some (.int ((whF (whO L) (20)).2)), none] [] (M)) (j : Nat) (hj : j ≤ 20) (ij : Int32) (v : Int32) (w : Int32) (h2 : ij = nI j) (hv_v : v = nI (whF (whO L) j).1) (hv_w : w = (whF (whO L) j).2) : z_Sm mX6_which r M2 20 [some (.ref 0), some (.int x), some (.int v), some (.int w), some (.int ij)] [] M := by
  have hwl := whF_le (whO L) j
  refine z_iload (pc := 20) dX6_which_20 rfl ?_
  refine z_bipush (pc := 22) (v := 20) dX6_which_22 (by decide) ?_
  refine z_icmp_ge (pc := 24) (tgt := 67) dX6_which_24 (by decide) (fun h24 => ?_) (fun h24 => ?_)
  · have hNj : 20 ≤ j := by
      have := z_ge h24 h2 (show (20 : Int32) = nI 20 from rfl) (by omega) (by omega)
      omega
    obtain rfl : j = 20 := by omega
    subst hv_v
    subst hv_w
    exact z_drop 4 kk
  · have hlt : j < 20 := by
      have := z_lt h24 h2 (show (20 : Int32) = nI 20 from rfl) (by omega) (by omega)
      omega
    refine z_aload_n (pc := 27) dX6_which_27 rfl ?_
    refine z_getR (pc := 28) 54 q_fX6_60 z_s0 rfl dX6_which_28 ?_
    refine z_iload (pc := 31) dX6_which_31 rfl ?_
    refine z_bipush (pc := 33) (v := 10) dX6_which_33 (by decide) ?_
    refine z_idiv (pc := 35) dX6_which_35 (by decide) ?_
    refine z_iload (pc := 36) dX6_which_36 rfl ?_
    refine z_bipush (pc := 38) (v := 10) dX6_which_38 (by decide) ?_
    refine z_irem (pc := 40) dX6_which_40 (by decide) ?_
    refine z_cV2 (pc := 41) (c_X5_agreeWith hL) (q_cX6_215 _ (by decide)) z_s54 rfl rfl dX6_which_41 ?_
    refine z_if_eq (pc := 44) (tgt := 61) dX6_which_44 (by decide) (fun h44 => ?_) (fun h44 => ?_)
    · refine z_iinc (pc := 61) dX6_which_61 rfl rfl rfl (by decide) ?_
      refine z_goto (pc := 64) (tgt := 20) dX6_which_64 (by decide) ?_
      have e1 : ij / 10 = nI (j / 10) := by rw [h2]; exact pk_div (d := 10) (by omega) (by decide) (by decide)
      have e2 : ij - ij / 10 * 10 = nI (j % 10) := by rw [h2]; exact pk_rem (d := 10) (by omega) (by decide) (by decide)
      have h44 := z_f h44
      rw [e2, e1] at h44
      exact s_X6_which_20 hL kk (j + 1) hlt _ _ _ (z_n1 h2) (by rw [hv_v, whF_no h44]) (by rw [hv_w, whF_no h44])
    · refine z_iload_n (pc := 47) dX6_which_47 rfl ?_
      refine z_if_ne (pc := 48) (tgt := 56) dX6_which_48 (by decide) (fun h48 => ?_) (fun h48 => ?_)
      · refine z_iload_n (pc := 56) dX6_which_56 rfl ?_
        refine z_istore_n (pc := 57) dX6_which_57 rfl (by decide) ?_
        refine z_iinc (pc := 58) dX6_which_58 rfl rfl rfl (by decide) ?_
        refine z_iinc (pc := 61) dX6_which_61 rfl rfl rfl (by decide) ?_
        refine z_goto (pc := 64) (tgt := 20) dX6_which_64 (by decide) ?_
        have e1 : ij / 10 = nI (j / 10) := by rw [h2]; exact pk_div (d := 10) (by omega) (by decide) (by decide)
        have e2 : ij - ij / 10 * 10 = nI (j % 10) := by rw [h2]; exact pk_rem (d := 10) (by omega) (by decide) (by decide)
        have h44 := z_t h44
        rw [e2, e1] at h44
        rw [hv_v] at h48
        have h48 : ¬ (whF (whO L) j).1 = 0 := fun q => h48 ((nI0 (by omega)).mpr q)
        exact s_X6_which_20 hL kk (j + 1) hlt _ _ _ (z_n1 h2) (by rw [whF_yes h44, hv_v]; exact (nI_succ _).symm) (by rw [whF_yes h44, hv_w]; exact (if_neg h48).symm)
      · refine z_iload (pc := 51) dX6_which_51 rfl ?_
        refine z_goto (pc := 53) (tgt := 57) dX6_which_53 (by decide) ?_
        refine z_istore_n (pc := 57) dX6_which_57 rfl (by decide) ?_
        refine z_iinc (pc := 58) dX6_which_58 rfl rfl rfl (by decide) ?_
        refine z_iinc (pc := 61) dX6_which_61 rfl rfl rfl (by decide) ?_
        refine z_goto (pc := 64) (tgt := 20) dX6_which_64 (by decide) ?_
        have e1 : ij / 10 = nI (j / 10) := by rw [h2]; exact pk_div (d := 10) (by omega) (by decide) (by decide)
        have e2 : ij - ij / 10 * 10 = nI (j % 10) := by rw [h2]; exact pk_rem (d := 10) (by omega) (by decide) (by decide)
        have h44 := z_t h44
        rw [e2, e1] at h44
        rw [hv_v] at h48
        have h48 : (whF (whO L) j).1 = 0 := (nI0 (by omega)).mp h48
        exact s_X6_which_20 hL kk (j + 1) hlt _ _ _ (z_n1 h2) (by rw [whF_yes h44, hv_v]; exact (nI_succ _).symm) (by rw [whF_yes h44, h2]; exact (if_pos h48).symm)
termination_by 20 - j
decreasing_by all_goals omega
set_option maxRecDepth 100000 in
set_option maxHeartbeats 400000 in
theorem o_X6_which_no {M : z_Mem} {l : Nat → Int32} {n : Nat} {T : TT} {U : UT} {D : DT} {p : PLt} {A : List PLt} {k0 k1 : Option PLt} {L : List (Int32 × Int32)} {sd : Int64} (hR : RX M l n T U D p A k0 k1 L sd) {x : Int32} (h : x < 0 ∨ 1 < x) : z_Ct mX6_which [.ref 0, .int x] M (some (.int (-2))) M := by
  obtain ⟨rS, rT, rU, rD, rp, rA, r0, r1, rL, rs⟩ := id hR

  refine z_entry (by decide +kernel) (Nat.le_of_ble_eq_true rfl) rfl ?_
  show z_Sm mX6_which _ _ 0 [some (.ref 0), some (.int x), none, none, none] [] M
  refine z_iload_n (pc := 0) dX6_which_0 rfl ?_
  refine z_if_lt (pc := 1) (tgt := 9) dX6_which_1 (by decide) (fun h1 => ?_) (fun h1 => ?_)
  · refine z_bipush (pc := 9) (v := (-2)) dX6_which_9 (by decide) ?_
    refine z_iret (pc := 11) rfl dX6_which_11 ?_ ?_
    · rfl
    · rfl
  · refine z_iload_n (pc := 4) dX6_which_4 rfl ?_
    refine z_iconst (pc := 5) (v := 1) dX6_which_5 (by decide) ?_
    refine z_icmp_le (pc := 6) (tgt := 12) dX6_which_6 (by decide) (fun h6 => ?_) (fun h6 => ?_)
    · exact absurd h6 (h.elim (fun q => absurd q h1) (fun q => Int32.not_le.mpr q))
    · refine z_bipush (pc := 9) (v := (-2)) dX6_which_9 (by decide) ?_
      refine z_iret (pc := 11) rfl dX6_which_11 ?_ ?_
      · rfl
      · rfl
set_option maxRecDepth 100000 in
set_option maxHeartbeats 400000 in
theorem o_X6_which {M : z_Mem} {l : Nat → Int32} {n : Nat} {T : TT} {U : UT} {D : DT} {p : PLt} {A : List PLt} {k0 k1 : Option PLt} {L : List (Int32 × Int32)} {sd : Int64} (hR : RX M l n T U D p A k0 k1 L sd) {x : Int32} (h : ¬ (x < 0 ∨ 1 < x)) : z_Ct mX6_which [.ref 0, .int x] M (some (.int (if x = 0 then nI (whF (whO L) 20).1 else (whF (whO L) 20).2))) M := by
  obtain ⟨rS, rT, rU, rD, rp, rA, r0, r1, rL, rs⟩ := id hR

  refine z_entry (by decide +kernel) (Nat.le_of_ble_eq_true rfl) rfl ?_
  show z_Sm mX6_which _ _ 0 [some (.ref 0), some (.int x), none, none, none] [] M
  refine z_iload_n (pc := 0) dX6_which_0 rfl ?_
  refine z_if_lt (pc := 1) (tgt := 9) dX6_which_1 (by decide) (fun h1 => ?_) (fun h1 => ?_)
  · exact absurd (Or.inl h1) h
  · refine z_iload_n (pc := 4) dX6_which_4 rfl ?_
    refine z_iconst (pc := 5) (v := 1) dX6_which_5 (by decide) ?_
    refine z_icmp_le (pc := 6) (tgt := 12) dX6_which_6 (by decide) (fun h6 => ?_) (fun h6 => ?_)
    · refine z_iconst (pc := 12) (v := 0) dX6_which_12 (by decide) ?_
      refine z_istore_n (pc := 13) dX6_which_13 rfl (by decide) ?_
      refine z_bipush (pc := 14) (v := (-9)) dX6_which_14 (by decide) ?_
      refine z_istore_n (pc := 16) dX6_which_16 rfl (by decide) ?_
      refine z_iconst (pc := 17) (v := 0) dX6_which_17 (by decide) ?_
      refine z_istore (pc := 18) dX6_which_18 rfl (by decide) ?_
      refine s_X6_which_20 rL ?_ 0 (by omega) _ _ _ rfl rfl rfl
      refine z_iload_n (pc := 67) dX6_which_67 rfl ?_
      refine z_if_ne (pc := 68) (tgt := 75) dX6_which_68 (by decide) (fun h68 => ?_) (fun h68 => ?_)
      · refine z_iload_n (pc := 75) dX6_which_75 rfl ?_
        refine z_iret (pc := 76) rfl dX6_which_76 ?_ ?_
        · exact (if_neg h68).symm
        · rfl
      · refine z_iload_n (pc := 71) dX6_which_71 rfl ?_
        refine z_goto (pc := 72) (tgt := 76) dX6_which_72 (by decide) ?_
        refine z_iret (pc := 76) rfl dX6_which_76 ?_ ?_
        · exact (if_pos h68).symm
        · rfl
    · exact absurd (Or.inr (Int32.not_le.mp h6)) h
def clF (T : TT) (q : PLt) (b : Nat) : Option PLt := if b < T.1 ∧ bt q.1 b = true then some (q.1 &&& (em b ^^^ (-1)), upd q.2.1 b 0, q.2.2) else none
def opF (T : TT) (q : PLt) (b : Nat) : Option PLt := if b < T.1 ∧ bt q.1 b = false then some (q.1 ||| em b, q.2.1, q.2.2) else none
def ctF (T : TT) (U : UT) (D : DT) (q : PLt) (k a b : Nat) : Option PLt :=
  if k = 0 then (if a = 0 ∧ b = 0 then some (dayF T U q) else none)
  else if k = 1 then (if a < 6 ∧ ¬ b = 0 then some (tugF T q a (nI b)) else none)
  else if k = 2 then (if a = 0 then clF T q b else none)
  else if k = 3 then (if a = 0 then opF T q b else none)
  else if k = 4 then (if (a < 6 ∧ b < 6) ∧ tog q.1 T.2.1 T.2.2.1 T.1 a b = true then some q else none)
  else if k = 5 then (if (a = 0 ∧ b < D.1) ∧ bt (dbF q.1 T.2.1 T.2.2.1 T.1 D D.1) b = true then some q else none)
  else none
theorem thg_nI {a : Nat} (h : a < 100) : thg (nI a) = decide (a < 6) := by
  have : ∀ a, a < 100 → thg (nI a) = decide (a < 6) := by decide +kernel
  exact this a h
theorem pnB_nI {b P : Nat} (h : b < 100) (hP : P ≤ 7) : pnB (nI b) P = decide (b < P) := by
  rw [pnB, decide_eq_false (nI_pos (by omega))]
  by_cases q : b < P
  · rw [decide_eq_true q, decide_eq_true (nI_lt q (by omega))]; rfl
  · rw [decide_eq_false q, decide_eq_false (nI_nlt (by omega) (by omega))]; rfl
set_option maxRecDepth 100000 in
set_option maxHeartbeats 400000 in
theorem c_X6_closesInThought {M : z_Mem} {T : TT} (hT : TK M T) {q : PLt} (hq : PlAt M 16 q) {x : Int32} {b : Nat} (hx : x = nI b) (hb : b < 100) : ∃ M1, z_Ct mX6_closesInThought [.ref 0, .int x] M (some (.int (if (clF T q b).isSome then 1 else 0))) M1 ∧ PlAt M1 16 ((clF T q b).getD q) ∧ Sb [13, 16, 17] M M1 := by
  subst hx
  have hP7 := hT.1.2.1
  have hpn := c_X6_isPin hT.1.1 (x := nI b)
  rw [pnB_nI hb hP7] at hpn
  by_cases h1 : b < T.1
  · have hop := c_X2_isOpen_16 (M := M) (x := nI b) rfl (show b < 32 by omega)
    rw [hq.1] at hop
    rw [decide_eq_true h1] at hpn
    by_cases h2 : bt q.1 b = true
    · have ef : clF T q b = some (q.1 &&& (em b ^^^ (-1)), upd q.2.1 b 0, q.2.2) := if_pos ⟨h1, h2⟩
      rw [ef]
      rw [h2] at hop
      obtain ⟨N, c1, p1, s1⟩ := c_X2_close_16 hq (x := nI b) (j := b) rfl (by omega)
      refine ⟨N, ?_, p1, s1.wk (by simp)⟩
      refine z_entry (by decide +kernel) (Nat.le_of_ble_eq_true rfl) rfl ?_
      show z_Sm mX6_closesInThought _ _ 0 [some (.ref 0), some (.int (nI b))] [] M
      refine z_aload_n (pc := 0) dX6_closesInThought_0 rfl ?_
      refine z_iload_n (pc := 1) dX6_closesInThought_1 rfl ?_
      refine z_cV1 (pc := 2) hpn (q_cX6_106 _ (by decide)) z_s0 rfl rfl dX6_closesInThought_2 ?_
      refine z_if_eq (pc := 5) (tgt := 19) dX6_closesInThought_5 (by decide) (fun h5 => ?_) (fun h5 => ?_)
      · exact absurd h5 (by decide)
      · refine z_aload_n (pc := 8) dX6_closesInThought_8 rfl ?_
        refine z_getR (pc := 9) 16 q_fX6_39 z_s0 rfl dX6_closesInThought_9 ?_
        refine z_iload_n (pc := 12) dX6_closesInThought_12 rfl ?_
        refine z_cV1 (pc := 13) hop (q_cX6_129 _ (by decide)) z_s16 rfl rfl dX6_closesInThought_13 ?_
        refine z_if_ne (pc := 16) (tgt := 21) dX6_closesInThought_16 (by decide) (fun h16 => ?_) (fun h16 => ?_)
        · refine z_aload_n (pc := 21) dX6_closesInThought_21 rfl ?_
          refine z_getR (pc := 22) 16 q_fX6_39 z_s0 rfl dX6_closesInThought_22 ?_
          refine z_iload_n (pc := 25) dX6_closesInThought_25 rfl ?_
          refine z_cV1v (pc := 26) c1 (q_cX6_153 _ (by decide)) z_s16 rfl rfl dX6_closesInThought_26 ?_
          refine z_iconst (pc := 29) (v := 1) dX6_closesInThought_29 (by decide) ?_
          refine z_zret (pc := 30) rfl dX6_closesInThought_30 ?_ ?_ ?_
          · rfl
          · rfl
          · rfl
        · exact absurd h16 (by decide)
    · have ef : clF T q b = none := if_neg (fun z => h2 z.2)
      rw [ef]
      rw [if_neg h2] at hop
      refine ⟨M, ?_, hq, Sb.rf⟩
      refine z_entry (by decide +kernel) (Nat.le_of_ble_eq_true rfl) rfl ?_
      show z_Sm mX6_closesInThought _ _ 0 [some (.ref 0), some (.int (nI b))] [] M
      refine z_aload_n (pc := 0) dX6_closesInThought_0 rfl ?_
      refine z_iload_n (pc := 1) dX6_closesInThought_1 rfl ?_
      refine z_cV1 (pc := 2) hpn (q_cX6_106 _ (by decide)) z_s0 rfl rfl dX6_closesInThought_2 ?_
      refine z_if_eq (pc := 5) (tgt := 19) dX6_closesInThought_5 (by decide) (fun h5 => ?_) (fun h5 => ?_)
      · exact absurd h5 (by decide)
      · refine z_aload_n (pc := 8) dX6_closesInThought_8 rfl ?_
        refine z_getR (pc := 9) 16 q_fX6_39 z_s0 rfl dX6_closesInThought_9 ?_
        refine z_iload_n (pc := 12) dX6_closesInThought_12 rfl ?_
        refine z_cV1 (pc := 13) hop (q_cX6_129 _ (by decide)) z_s16 rfl rfl dX6_closesInThought_13 ?_
        refine z_if_ne (pc := 16) (tgt := 21) dX6_closesInThought_16 (by decide) (fun h16 => ?_) (fun h16 => ?_)
        · exact absurd rfl h16
        · refine z_iconst (pc := 19) (v := 0) dX6_closesInThought_19 (by decide) ?_
          refine z_zret (pc := 20) rfl dX6_closesInThought_20 ?_ ?_ ?_
          · rfl
          · rfl
          · rfl
  · have ef : clF T q b = none := if_neg (fun z => h1 z.1)
    rw [ef]
    rw [decide_eq_false h1] at hpn
    refine ⟨M, ?_, hq, Sb.rf⟩
    refine z_entry (by decide +kernel) (Nat.le_of_ble_eq_true rfl) rfl ?_
    show z_Sm mX6_closesInThought _ _ 0 [some (.ref 0), some (.int (nI b))] [] M
    refine z_aload_n (pc := 0) dX6_closesInThought_0 rfl ?_
    refine z_iload_n (pc := 1) dX6_closesInThought_1 rfl ?_
    refine z_cV1 (pc := 2) hpn (q_cX6_106 _ (by decide)) z_s0 rfl rfl dX6_closesInThought_2 ?_
    refine z_if_eq (pc := 5) (tgt := 19) dX6_closesInThought_5 (by decide) (fun h5 => ?_) (fun h5 => ?_)
    · refine z_iconst (pc := 19) (v := 0) dX6_closesInThought_19 (by decide) ?_
      refine z_zret (pc := 20) rfl dX6_closesInThought_20 ?_ ?_ ?_
      · rfl
      · rfl
      · rfl
    · exact absurd rfl h5
set_option maxRecDepth 100000 in
set_option maxHeartbeats 400000 in
theorem c_X6_unpinsInThought {M : z_Mem} {T : TT} (hT : TK M T) {q : PLt} (hq : PlAt M 16 q) {x : Int32} {b : Nat} (hx : x = nI b) (hb : b < 100) : ∃ M1, z_Ct mX6_unpinsInThought [.ref 0, .int x] M (some (.int (if (opF T q b).isSome then 1 else 0))) M1 ∧ PlAt M1 16 ((opF T q b).getD q) ∧ Sb [13, 16, 17] M M1 := by
  subst hx
  have hP7 := hT.1.2.1
  have hpn := c_X6_isPin hT.1.1 (x := nI b)
  rw [pnB_nI hb hP7] at hpn
  by_cases h1 : b < T.1
  · have hop := c_X2_isOpen_16 (M := M) (x := nI b) rfl (show b < 32 by omega)
    rw [hq.1] at hop
    rw [decide_eq_true h1] at hpn
    by_cases h2 : bt q.1 b = false
    · have ef : opF T q b = some (q.1 ||| em b, q.2.1, q.2.2) := if_pos ⟨h1, h2⟩
      rw [ef]
      rw [h2] at hop
      obtain ⟨N, c1, p1, s1⟩ := c_X2_unpin_16 hq (x := nI b) (j := b) rfl
      refine ⟨N, ?_, p1, s1.wk (by simp)⟩
      refine z_entry (by decide +kernel) (Nat.le_of_ble_eq_true rfl) rfl ?_
      show z_Sm mX6_unpinsInThought _ _ 0 [some (.ref 0), some (.int (nI b))] [] M
      refine z_aload_n (pc := 0) dX6_unpinsInThought_0 rfl ?_
      refine z_iload_n (pc := 1) dX6_unpinsInThought_1 rfl ?_
      refine z_cV1 (pc := 2) hpn (q_cX6_106 _ (by decide)) z_s0 rfl rfl dX6_unpinsInThought_2 ?_
      refine z_if_eq (pc := 5) (tgt := 19) dX6_unpinsInThought_5 (by decide) (fun h5 => ?_) (fun h5 => ?_)
      · exact absurd h5 (by decide)
      · refine z_aload_n (pc := 8) dX6_unpinsInThought_8 rfl ?_
        refine z_getR (pc := 9) 16 q_fX6_39 z_s0 rfl dX6_unpinsInThought_9 ?_
        refine z_iload_n (pc := 12) dX6_unpinsInThought_12 rfl ?_
        refine z_cV1 (pc := 13) hop (q_cX6_129 _ (by decide)) z_s16 rfl rfl dX6_unpinsInThought_13 ?_
        refine z_if_eq (pc := 16) (tgt := 21) dX6_unpinsInThought_16 (by decide) (fun h16 => ?_) (fun h16 => ?_)
        · refine z_aload_n (pc := 21) dX6_unpinsInThought_21 rfl ?_
          refine z_getR (pc := 22) 16 q_fX6_39 z_s0 rfl dX6_unpinsInThought_22 ?_
          refine z_iload_n (pc := 25) dX6_unpinsInThought_25 rfl ?_
          refine z_cV1v (pc := 26) c1 (q_cX6_162 _ (by decide)) z_s16 rfl rfl dX6_unpinsInThought_26 ?_
          refine z_iconst (pc := 29) (v := 1) dX6_unpinsInThought_29 (by decide) ?_
          refine z_zret (pc := 30) rfl dX6_unpinsInThought_30 ?_ ?_ ?_
          · rfl
          · rfl
          · rfl
        · exact absurd rfl h16
    · have ef : opF T q b = none := if_neg (fun z => h2 z.2)
      rw [ef]
      rw [z_nb h2] at hop
      refine ⟨M, ?_, hq, Sb.rf⟩
      refine z_entry (by decide +kernel) (Nat.le_of_ble_eq_true rfl) rfl ?_
      show z_Sm mX6_unpinsInThought _ _ 0 [some (.ref 0), some (.int (nI b))] [] M
      refine z_aload_n (pc := 0) dX6_unpinsInThought_0 rfl ?_
      refine z_iload_n (pc := 1) dX6_unpinsInThought_1 rfl ?_
      refine z_cV1 (pc := 2) hpn (q_cX6_106 _ (by decide)) z_s0 rfl rfl dX6_unpinsInThought_2 ?_
      refine z_if_eq (pc := 5) (tgt := 19) dX6_unpinsInThought_5 (by decide) (fun h5 => ?_) (fun h5 => ?_)
      · exact absurd h5 (by decide)
      · refine z_aload_n (pc := 8) dX6_unpinsInThought_8 rfl ?_
        refine z_getR (pc := 9) 16 q_fX6_39 z_s0 rfl dX6_unpinsInThought_9 ?_
        refine z_iload_n (pc := 12) dX6_unpinsInThought_12 rfl ?_
        refine z_cV1 (pc := 13) hop (q_cX6_129 _ (by decide)) z_s16 rfl rfl dX6_unpinsInThought_13 ?_
        refine z_if_eq (pc := 16) (tgt := 21) dX6_unpinsInThought_16 (by decide) (fun h16 => ?_) (fun h16 => ?_)
        · exact absurd h16 (by decide)
        · refine z_iconst (pc := 19) (v := 0) dX6_unpinsInThought_19 (by decide) ?_
          refine z_zret (pc := 20) rfl dX6_unpinsInThought_20 ?_ ?_ ?_
          · rfl
          · rfl
          · rfl
  · have ef : opF T q b = none := if_neg (fun z => h1 z.1)
    rw [ef]
    rw [decide_eq_false h1] at hpn
    refine ⟨M, ?_, hq, Sb.rf⟩
    refine z_entry (by decide +kernel) (Nat.le_of_ble_eq_true rfl) rfl ?_
    show z_Sm mX6_unpinsInThought _ _ 0 [some (.ref 0), some (.int (nI b))] [] M
    refine z_aload_n (pc := 0) dX6_unpinsInThought_0 rfl ?_
    refine z_iload_n (pc := 1) dX6_unpinsInThought_1 rfl ?_
    refine z_cV1 (pc := 2) hpn (q_cX6_106 _ (by decide)) z_s0 rfl rfl dX6_unpinsInThought_2 ?_
    refine z_if_eq (pc := 5) (tgt := 19) dX6_unpinsInThought_5 (by decide) (fun h5 => ?_) (fun h5 => ?_)
    · refine z_iconst (pc := 19) (v := 0) dX6_unpinsInThought_19 (by decide) ?_
      refine z_zret (pc := 20) rfl dX6_unpinsInThought_20 ?_ ?_ ?_
      · rfl
      · rfl
      · rfl
    · exact absurd rfl h5
set_option maxRecDepth 100000 in
set_option maxHeartbeats 400000 in
theorem c_X6_ct0 {M : z_Mem} {T : TT} {U : UT} {D : DT} (hT : TK M T) (hU : UK M U) (hD : DK M D) {q : PLt} (hq : PlAt M 16 q) (ho : sm7 q.1) (hd : q.2.2 < 2 ^ 29) {a b : Nat} (ha : a < 10) (hb : b < 10) : ∃ M1, z_Ct mX6_comesTrue [.ref 0, .int (nI 0), .int (nI a), .int (nI b)] M (some (.int (if (ctF T U D q 0 a b).isSome then 1 else 0))) M1 ∧ PlAt M1 16 ((ctF T U D q 0 a b).getD q) ∧ Sb [13, 16, 17] M M1 := by
  rw [show ctF T U D q 0 a b = if a = 0 ∧ b = 0 then some (dayF T U q) else none from rfl]
  by_cases h : a = 0 ∧ b = 0
  · rw [if_pos h]
    obtain ⟨N, c1, p1, s1⟩ := c_X1_passDay_16 hT hU hq ho hd
    refine ⟨N, ?_, p1, s1⟩
    refine z_entry (by decide +kernel) (Nat.le_of_ble_eq_true rfl) rfl ?_
    show z_Sm mX6_comesTrue _ _ 0 [some (.ref 0), some (.int (nI 0)), some (.int (nI a)), some (.int (nI b))] [] M
    refine z_iload_n (pc := 0) dX6_comesTrue_0 rfl ?_
    rw [nI_0]
    refine z_tswIn (pc := 1) (off := 39) (tgt := 40) dX6_comesTrue_1 (by decide) (by decide) (by decide) (by decide) ?_
    refine z_iload_n (pc := 40) dX6_comesTrue_40 rfl ?_
    refine z_if_ne (pc := 41) (tgt := 48) dX6_comesTrue_41 (by decide) (fun h41 => ?_) (fun h41 => ?_)
    · exact absurd ((nI0 (by omega)).mpr h.1) h41
    · refine z_iload_n (pc := 44) dX6_comesTrue_44 rfl ?_
      refine z_if_eq (pc := 45) (tgt := 50) dX6_comesTrue_45 (by decide) (fun h45 => ?_) (fun h45 => ?_)
      · refine z_aload_n (pc := 50) dX6_comesTrue_50 rfl ?_
        refine z_getR (pc := 51) 12 q_fX6_28 z_s0 rfl dX6_comesTrue_51 ?_
        refine z_aload_n (pc := 54) dX6_comesTrue_54 rfl ?_
        refine z_getR (pc := 55) 16 q_fX6_39 z_s0 rfl dX6_comesTrue_55 ?_
        refine z_cV1 (pc := 58) c1 (q_cX6_145 _ (by decide)) z_s12 rfl rfl dX6_comesTrue_58 ?_
        refine z_pop (pc := 61) dX6_comesTrue_61 rfl ?_
        refine z_iconst (pc := 62) (v := 1) dX6_comesTrue_62 (by decide) ?_
        refine z_zret (pc := 63) rfl dX6_comesTrue_63 ?_ ?_ ?_
        · rfl
        · rfl
        · rfl
      · exact absurd ((nI0 (by omega)).mpr h.2) h45
  · rw [if_neg h]
    refine ⟨M, ?_, hq, Sb.rf⟩
    refine z_entry (by decide +kernel) (Nat.le_of_ble_eq_true rfl) rfl ?_
    show z_Sm mX6_comesTrue _ _ 0 [some (.ref 0), some (.int (nI 0)), some (.int (nI a)), some (.int (nI b))] [] M
    refine z_iload_n (pc := 0) dX6_comesTrue_0 rfl ?_
    rw [nI_0]
    refine z_tswIn (pc := 1) (off := 39) (tgt := 40) dX6_comesTrue_1 (by decide) (by decide) (by decide) (by decide) ?_
    refine z_iload_n (pc := 40) dX6_comesTrue_40 rfl ?_
    refine z_if_ne (pc := 41) (tgt := 48) dX6_comesTrue_41 (by decide) (fun h41 => ?_) (fun h41 => ?_)
    · refine z_iconst (pc := 48) (v := 0) dX6_comesTrue_48 (by decide) ?_
      refine z_zret (pc := 49) rfl dX6_comesTrue_49 ?_ ?_ ?_
      · rfl
      · rfl
      · rfl
    · refine z_iload_n (pc := 44) dX6_comesTrue_44 rfl ?_
      refine z_if_eq (pc := 45) (tgt := 50) dX6_comesTrue_45 (by decide) (fun h45 => ?_) (fun h45 => ?_)
      · exact absurd ⟨(nI0 (by omega)).mp h41, (nI0 (by omega)).mp h45⟩ h
      · refine z_iconst (pc := 48) (v := 0) dX6_comesTrue_48 (by decide) ?_
        refine z_zret (pc := 49) rfl dX6_comesTrue_49 ?_ ?_ ?_
        · rfl
        · rfl
        · rfl
set_option maxRecDepth 100000 in
set_option maxHeartbeats 400000 in
theorem c_X6_ct1 {M : z_Mem} {T : TT} {U : UT} {D : DT} (hT : TK M T) (hU : UK M U) (hD : DK M D) {q : PLt} (hq : PlAt M 16 q) (ho : sm7 q.1) (hd : q.2.2 < 2 ^ 29) {a b : Nat} (ha : a < 10) (hb : b < 10) : ∃ M1, z_Ct mX6_comesTrue [.ref 0, .int (nI 1), .int (nI a), .int (nI b)] M (some (.int (if (ctF T U D q 1 a b).isSome then 1 else 0))) M1 ∧ PlAt M1 16 ((ctF T U D q 1 a b).getD q) ∧ Sb [13, 16, 17] M M1 := by
  rw [show ctF T U D q 1 a b = if a < 6 ∧ ¬ b = 0 then some (tugF T q a (nI b)) else none from rfl]
  have hth := c_X6_isThing (M := M) (x := nI a)
  rw [thg_nI (by omega)] at hth
  by_cases h1 : a < 6
  · rw [decide_eq_true h1] at hth
    by_cases h2 : b = 0
    · rw [if_neg (show ¬ (a < 6 ∧ ¬ b = 0) from fun z => z.2 h2)]
      refine ⟨M, ?_, hq, Sb.rf⟩
      refine z_entry (by decide +kernel) (Nat.le_of_ble_eq_true rfl) rfl ?_
      show z_Sm mX6_comesTrue _ _ 0 [some (.ref 0), some (.int (nI 1)), some (.int (nI a)), some (.int (nI b))] [] M
      refine z_iload_n (pc := 0) dX6_comesTrue_0 rfl ?_
      rw [show nI 1 = 1 from rfl]
      refine z_tswIn (pc := 1) (off := 63) (tgt := 64) dX6_comesTrue_1 (by decide) (by decide) (by decide) (by decide) ?_
      refine z_iload_n (pc := 64) dX6_comesTrue_64 rfl ?_
      refine z_cS1 (pc := 65) hth (q_cX6_132 _ (by decide)) rfl dX6_comesTrue_65 ?_
      refine z_if_eq (pc := 68) (tgt := 75) dX6_comesTrue_68 (by decide) (fun h68 => ?_) (fun h68 => ?_)
      · exact absurd h68 (by decide)
      · refine z_iload_n (pc := 71) dX6_comesTrue_71 rfl ?_
        refine z_if_ne (pc := 72) (tgt := 77) dX6_comesTrue_72 (by decide) (fun h72 => ?_) (fun h72 => ?_)
        · exact absurd ((nI0 (by omega)).mpr h2) h72
        · refine z_iconst (pc := 75) (v := 0) dX6_comesTrue_75 (by decide) ?_
          refine z_zret (pc := 76) rfl dX6_comesTrue_76 ?_ ?_ ?_
          · rfl
          · rfl
          · rfl
    · rw [if_pos (show a < 6 ∧ ¬ b = 0 from ⟨h1, h2⟩)]
      obtain ⟨N, c1, p1, s1⟩ := c_X1_pullAt_16 hT hq ho (n := nI b) (x := nI a) rfl h1
      refine ⟨N, ?_, p1, s1⟩
      refine z_entry (by decide +kernel) (Nat.le_of_ble_eq_true rfl) rfl ?_
      show z_Sm mX6_comesTrue _ _ 0 [some (.ref 0), some (.int (nI 1)), some (.int (nI a)), some (.int (nI b))] [] M
      refine z_iload_n (pc := 0) dX6_comesTrue_0 rfl ?_
      rw [show nI 1 = 1 from rfl]
      refine z_tswIn (pc := 1) (off := 63) (tgt := 64) dX6_comesTrue_1 (by decide) (by decide) (by decide) (by decide) ?_
      refine z_iload_n (pc := 64) dX6_comesTrue_64 rfl ?_
      refine z_cS1 (pc := 65) hth (q_cX6_132 _ (by decide)) rfl dX6_comesTrue_65 ?_
      refine z_if_eq (pc := 68) (tgt := 75) dX6_comesTrue_68 (by decide) (fun h68 => ?_) (fun h68 => ?_)
      · exact absurd h68 (by decide)
      · refine z_iload_n (pc := 71) dX6_comesTrue_71 rfl ?_
        refine z_if_ne (pc := 72) (tgt := 77) dX6_comesTrue_72 (by decide) (fun h72 => ?_) (fun h72 => ?_)
        · refine z_aload_n (pc := 77) dX6_comesTrue_77 rfl ?_
          refine z_getR (pc := 78) 12 q_fX6_28 z_s0 rfl dX6_comesTrue_78 ?_
          refine z_aload_n (pc := 81) dX6_comesTrue_81 rfl ?_
          refine z_getR (pc := 82) 16 q_fX6_39 z_s0 rfl dX6_comesTrue_82 ?_
          refine z_iload_n (pc := 85) dX6_comesTrue_85 rfl ?_
          refine z_iload_n (pc := 86) dX6_comesTrue_86 rfl ?_
          refine z_cV3 (pc := 87) c1 (q_cX6_149 _ (by decide)) z_s12 rfl rfl dX6_comesTrue_87 ?_
          refine z_pop (pc := 90) dX6_comesTrue_90 rfl ?_
          refine z_iconst (pc := 91) (v := 1) dX6_comesTrue_91 (by decide) ?_
          refine z_zret (pc := 92) rfl dX6_comesTrue_92 ?_ ?_ ?_
          · rfl
          · rfl
          · rfl
        · exact absurd ((nI0 (by omega)).mp h72) h2
  · rw [if_neg (show ¬ (a < 6 ∧ ¬ b = 0) from fun z => h1 z.1)]
    rw [decide_eq_false h1] at hth
    refine ⟨M, ?_, hq, Sb.rf⟩
    refine z_entry (by decide +kernel) (Nat.le_of_ble_eq_true rfl) rfl ?_
    show z_Sm mX6_comesTrue _ _ 0 [some (.ref 0), some (.int (nI 1)), some (.int (nI a)), some (.int (nI b))] [] M
    refine z_iload_n (pc := 0) dX6_comesTrue_0 rfl ?_
    rw [show nI 1 = 1 from rfl]
    refine z_tswIn (pc := 1) (off := 63) (tgt := 64) dX6_comesTrue_1 (by decide) (by decide) (by decide) (by decide) ?_
    refine z_iload_n (pc := 64) dX6_comesTrue_64 rfl ?_
    refine z_cS1 (pc := 65) hth (q_cX6_132 _ (by decide)) rfl dX6_comesTrue_65 ?_
    refine z_if_eq (pc := 68) (tgt := 75) dX6_comesTrue_68 (by decide) (fun h68 => ?_) (fun h68 => ?_)
    · refine z_iconst (pc := 75) (v := 0) dX6_comesTrue_75 (by decide) ?_
      refine z_zret (pc := 76) rfl dX6_comesTrue_76 ?_ ?_ ?_
      · rfl
      · rfl
      · rfl
    · exact absurd rfl h68
set_option maxRecDepth 100000 in
set_option maxHeartbeats 400000 in
theorem c_X6_ct2 {M : z_Mem} {T : TT} {U : UT} {D : DT} (hT : TK M T) (hU : UK M U) (hD : DK M D) {q : PLt} (hq : PlAt M 16 q) (ho : sm7 q.1) (hd : q.2.2 < 2 ^ 29) {a b : Nat} (ha : a < 10) (hb : b < 10) : ∃ M1, z_Ct mX6_comesTrue [.ref 0, .int (nI 2), .int (nI a), .int (nI b)] M (some (.int (if (ctF T U D q 2 a b).isSome then 1 else 0))) M1 ∧ PlAt M1 16 ((ctF T U D q 2 a b).getD q) ∧ Sb [13, 16, 17] M M1 := by
  rw [show ctF T U D q 2 a b = if a = 0 then clF T q b else none from rfl]
  by_cases h : a = 0
  · rw [if_pos h]
    obtain ⟨N, c1, q1, s1⟩ := c_X6_closesInThought hT hq (x := nI b) rfl (by omega)
    refine ⟨N, ?_, q1, s1⟩
    refine z_entry (by decide +kernel) (Nat.le_of_ble_eq_true rfl) rfl ?_
    show z_Sm mX6_comesTrue _ _ 0 [some (.ref 0), some (.int (nI 2)), some (.int (nI a)), some (.int (nI b))] [] M
    refine z_iload_n (pc := 0) dX6_comesTrue_0 rfl ?_
    rw [show nI 2 = 2 from rfl]
    refine z_tswIn (pc := 1) (off := 92) (tgt := 93) dX6_comesTrue_1 (by decide) (by decide) (by decide) (by decide) ?_
    refine z_iload_n (pc := 93) dX6_comesTrue_93 rfl ?_
    refine z_if_ne (pc := 94) (tgt := 109) dX6_comesTrue_94 (by decide) (fun h94 => ?_) (fun h94 => ?_)
    · exact absurd ((nI0 (by omega)).mpr h) h94
    · refine z_aload_n (pc := 97) dX6_comesTrue_97 rfl ?_
      refine z_iload_n (pc := 98) dX6_comesTrue_98 rfl ?_
      refine z_cV1 (pc := 99) c1 (q_cX6_256 _ (by decide)) z_s0 rfl rfl dX6_comesTrue_99 ?_
      refine z_if_eq (pc := 102) (tgt := 109) dX6_comesTrue_102 (by decide) (fun h102 => ?_) (fun h102 => ?_)
      · refine z_iconst (pc := 109) (v := 0) dX6_comesTrue_109 (by decide) ?_
        refine z_zret (pc := 110) rfl dX6_comesTrue_110 ?_ ?_ ?_
        · rfl
        · exact h102.symm
        · rfl
      · refine z_iconst (pc := 105) (v := 1) dX6_comesTrue_105 (by decide) ?_
        refine z_goto (pc := 106) (tgt := 110) dX6_comesTrue_106 (by decide) ?_
        refine z_zret (pc := 110) rfl dX6_comesTrue_110 ?_ ?_ ?_
        · rfl
        · rw [z_t h102]; rfl
        · rfl
  · rw [if_neg h]
    refine ⟨M, ?_, hq, Sb.rf⟩
    refine z_entry (by decide +kernel) (Nat.le_of_ble_eq_true rfl) rfl ?_
    show z_Sm mX6_comesTrue _ _ 0 [some (.ref 0), some (.int (nI 2)), some (.int (nI a)), some (.int (nI b))] [] M
    refine z_iload_n (pc := 0) dX6_comesTrue_0 rfl ?_
    rw [show nI 2 = 2 from rfl]
    refine z_tswIn (pc := 1) (off := 92) (tgt := 93) dX6_comesTrue_1 (by decide) (by decide) (by decide) (by decide) ?_
    refine z_iload_n (pc := 93) dX6_comesTrue_93 rfl ?_
    refine z_if_ne (pc := 94) (tgt := 109) dX6_comesTrue_94 (by decide) (fun h94 => ?_) (fun h94 => ?_)
    · refine z_iconst (pc := 109) (v := 0) dX6_comesTrue_109 (by decide) ?_
      refine z_zret (pc := 110) rfl dX6_comesTrue_110 ?_ ?_ ?_
      · rfl
      · rfl
      · rfl
    · exact absurd ((nI0 (by omega)).mp h94) h
set_option maxRecDepth 100000 in
set_option maxHeartbeats 400000 in
theorem c_X6_ct3 {M : z_Mem} {T : TT} {U : UT} {D : DT} (hT : TK M T) (hU : UK M U) (hD : DK M D) {q : PLt} (hq : PlAt M 16 q) (ho : sm7 q.1) (hd : q.2.2 < 2 ^ 29) {a b : Nat} (ha : a < 10) (hb : b < 10) : ∃ M1, z_Ct mX6_comesTrue [.ref 0, .int (nI 3), .int (nI a), .int (nI b)] M (some (.int (if (ctF T U D q 3 a b).isSome then 1 else 0))) M1 ∧ PlAt M1 16 ((ctF T U D q 3 a b).getD q) ∧ Sb [13, 16, 17] M M1 := by
  rw [show ctF T U D q 3 a b = if a = 0 then opF T q b else none from rfl]
  by_cases h : a = 0
  · rw [if_pos h]
    obtain ⟨N, c1, q1, s1⟩ := c_X6_unpinsInThought hT hq (x := nI b) rfl (by omega)
    refine ⟨N, ?_, q1, s1⟩
    refine z_entry (by decide +kernel) (Nat.le_of_ble_eq_true rfl) rfl ?_
    show z_Sm mX6_comesTrue _ _ 0 [some (.ref 0), some (.int (nI 3)), some (.int (nI a)), some (.int (nI b))] [] M
    refine z_iload_n (pc := 0) dX6_comesTrue_0 rfl ?_
    rw [show nI 3 = 3 from rfl]
    refine z_tswIn (pc := 1) (off := 110) (tgt := 111) dX6_comesTrue_1 (by decide) (by decide) (by decide) (by decide) ?_
    refine z_iload_n (pc := 111) dX6_comesTrue_111 rfl ?_
    refine z_if_ne (pc := 112) (tgt := 127) dX6_comesTrue_112 (by decide) (fun h112 => ?_) (fun h112 => ?_)
    · exact absurd ((nI0 (by omega)).mpr h) h112
    · refine z_aload_n (pc := 115) dX6_comesTrue_115 rfl ?_
      refine z_iload_n (pc := 116) dX6_comesTrue_116 rfl ?_
      refine z_cV1 (pc := 117) c1 (q_cX6_259 _ (by decide)) z_s0 rfl rfl dX6_comesTrue_117 ?_
      refine z_if_eq (pc := 120) (tgt := 127) dX6_comesTrue_120 (by decide) (fun h120 => ?_) (fun h120 => ?_)
      · refine z_iconst (pc := 127) (v := 0) dX6_comesTrue_127 (by decide) ?_
        refine z_zret (pc := 128) rfl dX6_comesTrue_128 ?_ ?_ ?_
        · rfl
        · exact h120.symm
        · rfl
      · refine z_iconst (pc := 123) (v := 1) dX6_comesTrue_123 (by decide) ?_
        refine z_goto (pc := 124) (tgt := 128) dX6_comesTrue_124 (by decide) ?_
        refine z_zret (pc := 128) rfl dX6_comesTrue_128 ?_ ?_ ?_
        · rfl
        · rw [z_t h120]; rfl
        · rfl
  · rw [if_neg h]
    refine ⟨M, ?_, hq, Sb.rf⟩
    refine z_entry (by decide +kernel) (Nat.le_of_ble_eq_true rfl) rfl ?_
    show z_Sm mX6_comesTrue _ _ 0 [some (.ref 0), some (.int (nI 3)), some (.int (nI a)), some (.int (nI b))] [] M
    refine z_iload_n (pc := 0) dX6_comesTrue_0 rfl ?_
    rw [show nI 3 = 3 from rfl]
    refine z_tswIn (pc := 1) (off := 110) (tgt := 111) dX6_comesTrue_1 (by decide) (by decide) (by decide) (by decide) ?_
    refine z_iload_n (pc := 111) dX6_comesTrue_111 rfl ?_
    refine z_if_ne (pc := 112) (tgt := 127) dX6_comesTrue_112 (by decide) (fun h112 => ?_) (fun h112 => ?_)
    · refine z_iconst (pc := 127) (v := 0) dX6_comesTrue_127 (by decide) ?_
      refine z_zret (pc := 128) rfl dX6_comesTrue_128 ?_ ?_ ?_
      · rfl
      · rfl
      · rfl
    · exact absurd ((nI0 (by omega)).mp h112) h
set_option maxRecDepth 100000 in
set_option maxHeartbeats 400000 in
theorem c_X6_ct4 {M : z_Mem} {T : TT} {U : UT} {D : DT} (hT : TK M T) (hU : UK M U) (hD : DK M D) {q : PLt} (hq : PlAt M 16 q) (ho : sm7 q.1) (hd : q.2.2 < 2 ^ 29) {a b : Nat} (ha : a < 10) (hb : b < 10) : ∃ M1, z_Ct mX6_comesTrue [.ref 0, .int (nI 4), .int (nI a), .int (nI b)] M (some (.int (if (ctF T U D q 4 a b).isSome then 1 else 0))) M1 ∧ PlAt M1 16 ((ctF T U D q 4 a b).getD q) ∧ Sb [13, 16, 17] M M1 := by
  rw [show ctF T U D q 4 a b = if (a < 6 ∧ b < 6) ∧ tog q.1 T.2.1 T.2.2.1 T.1 a b = true then some q else none from rfl]
  have hth := c_X6_isThing (M := M) (x := nI a)
  have hth2 := c_X6_isThing (M := M) (x := nI b)
  rw [thg_nI (by omega)] at hth hth2
  have key : ∀ z : Bool, (if (a < 6 ∧ b < 6) ∧ tog q.1 T.2.1 T.2.2.1 T.1 a b = true then some q else none).isSome = z → ∃ M1, z_Ct mX6_comesTrue [.ref 0, .int (nI 4), .int (nI a), .int (nI b)] M (some (.int (if z then 1 else 0))) M1 ∧ PlAt M1 16 q ∧ Sb [13, 16, 17] M M1 := by
    intro z hz
    refine ⟨M, ?_, hq, Sb.rf⟩
    refine z_entry (by decide +kernel) (Nat.le_of_ble_eq_true rfl) rfl ?_
    show z_Sm mX6_comesTrue _ _ 0 [some (.ref 0), some (.int (nI 4)), some (.int (nI a)), some (.int (nI b))] [] M
    refine z_iload_n (pc := 0) dX6_comesTrue_0 rfl ?_
    rw [show nI 4 = 4 from rfl]
    refine z_tswIn (pc := 1) (off := 128) (tgt := 129) dX6_comesTrue_1 (by decide) (by decide) (by decide) (by decide) ?_
    refine z_iload_n (pc := 129) dX6_comesTrue_129 rfl ?_
    refine z_cS1 (pc := 130) hth (q_cX6_132 _ (by decide)) rfl dX6_comesTrue_130 ?_
    refine z_if_eq (pc := 133) (tgt := 166) dX6_comesTrue_133 (by decide) (fun h133 => ?_) (fun h133 => ?_)
    · refine z_iconst (pc := 166) (v := 0) dX6_comesTrue_166 (by decide) ?_
      refine z_zret (pc := 167) rfl dX6_comesTrue_167 ?_ ?_ ?_
      · rfl
      · rw [← hz, if_neg (show ¬ ((a < 6 ∧ b < 6) ∧ tog q.1 T.2.1 T.2.2.1 T.1 a b = true) from fun w => by rw [decide_eq_true w.1.1] at h133; exact absurd h133 (by decide))]; rfl
      · rfl
    · refine z_iload_n (pc := 136) dX6_comesTrue_136 rfl ?_
      refine z_cS1 (pc := 137) hth2 (q_cX6_132 _ (by decide)) rfl dX6_comesTrue_137 ?_
      refine z_if_eq (pc := 140) (tgt := 166) dX6_comesTrue_140 (by decide) (fun h140 => ?_) (fun h140 => ?_)
      · refine z_iconst (pc := 166) (v := 0) dX6_comesTrue_166 (by decide) ?_
        refine z_zret (pc := 167) rfl dX6_comesTrue_167 ?_ ?_ ?_
        · rfl
        · rw [← hz, if_neg (show ¬ ((a < 6 ∧ b < 6) ∧ tog q.1 T.2.1 T.2.2.1 T.1 a b = true) from fun w => by rw [decide_eq_true w.1.2] at h140; exact absurd h140 (by decide))]; rfl
        · rfl
      · refine z_aload_n (pc := 143) dX6_comesTrue_143 rfl ?_
        refine z_getR (pc := 144) 3 q_fX6_19 z_s0 rfl dX6_comesTrue_144 ?_
        refine z_iload_n (pc := 147) dX6_comesTrue_147 rfl ?_
        refine z_iload_n (pc := 148) dX6_comesTrue_148 rfl ?_
        refine z_aload_n (pc := 149) dX6_comesTrue_149 rfl ?_
        refine z_getR (pc := 150) 16 q_fX6_39 z_s0 rfl dX6_comesTrue_150 ?_
        refine z_getI (pc := 153) q_fX6_135 z_s16 rfl dX6_comesTrue_153 ?_
        refine z_cV3 (pc := 156) (c_X4_areTogether hT.1 (t := a) (u := b) rfl rfl (of_decide_eq_true (z_t h140))) (q_cX6_191 _ (by decide)) z_s3 rfl rfl dX6_comesTrue_156 ?_
        refine z_if_eq (pc := 159) (tgt := 166) dX6_comesTrue_159 (by decide) (fun h159 => ?_) (fun h159 => ?_)
        · refine z_iconst (pc := 166) (v := 0) dX6_comesTrue_166 (by decide) ?_
          refine z_zret (pc := 167) rfl dX6_comesTrue_167 ?_ ?_ ?_
          · rfl
          · rw [hq.1] at h159
            rw [← hz, if_neg (show ¬ ((a < 6 ∧ b < 6) ∧ tog q.1 T.2.1 T.2.2.1 T.1 a b = true) from fun w => by rw [z_f h159] at w; exact absurd w.2 (by decide))]; rfl
          · rfl
        · refine z_iconst (pc := 162) (v := 1) dX6_comesTrue_162 (by decide) ?_
          refine z_goto (pc := 163) (tgt := 167) dX6_comesTrue_163 (by decide) ?_
          refine z_zret (pc := 167) rfl dX6_comesTrue_167 ?_ ?_ ?_
          · rfl
          · rw [hq.1] at h159
            rw [← hz, if_pos (show ((a < 6 ∧ b < 6) ∧ tog q.1 T.2.1 T.2.2.1 T.1 a b = true) from ⟨⟨of_decide_eq_true (z_t h133), of_decide_eq_true (z_t h140)⟩, z_t h159⟩)]; rfl
          · rfl
  obtain ⟨M1, h1, h2, h3⟩ := key _ rfl
  refine ⟨M1, h1, ?_, h3⟩
  split <;> exact h2
set_option maxRecDepth 100000 in
set_option maxHeartbeats 400000 in
theorem c_X6_ct5 {M : z_Mem} {T : TT} {U : UT} {D : DT} (hT : TK M T) (hU : UK M U) (hD : DK M D) {q : PLt} (hq : PlAt M 16 q) (ho : sm7 q.1) (hd : q.2.2 < 2 ^ 29) {a b : Nat} (ha : a < 10) (hb : b < 10) : ∃ M1, z_Ct mX6_comesTrue [.ref 0, .int (nI 5), .int (nI a), .int (nI b)] M (some (.int (if (ctF T U D q 5 a b).isSome then 1 else 0))) M1 ∧ PlAt M1 16 ((ctF T U D q 5 a b).getD q) ∧ Sb [13, 16, 17] M M1 := by
  rw [show ctF T U D q 5 a b = if (a = 0 ∧ b < D.1) ∧ bt (dbF q.1 T.2.1 T.2.2.1 T.1 D D.1) b = true then some q else none from rfl]
  have hD3 := hD.2.1
  have key : ∀ z : Bool, (if (a = 0 ∧ b < D.1) ∧ bt (dbF q.1 T.2.1 T.2.2.1 T.1 D D.1) b = true then some q else none).isSome = z → ∃ M1, z_Ct mX6_comesTrue [.ref 0, .int (nI 5), .int (nI a), .int (nI b)] M (some (.int (if z then 1 else 0))) M1 ∧ PlAt M1 16 q ∧ Sb [13, 16, 17] M M1 := by
    intro z hz
    refine ⟨M, ?_, hq, Sb.rf⟩
    refine z_entry (by decide +kernel) (Nat.le_of_ble_eq_true rfl) rfl ?_
    show z_Sm mX6_comesTrue _ _ 0 [some (.ref 0), some (.int (nI 5)), some (.int (nI a)), some (.int (nI b))] [] M
    refine z_iload_n (pc := 0) dX6_comesTrue_0 rfl ?_
    rw [show nI 5 = 5 from rfl]
    refine z_tswIn (pc := 1) (off := 167) (tgt := 168) dX6_comesTrue_1 (by decide) (by decide) (by decide) (by decide) ?_
    refine z_iload_n (pc := 168) dX6_comesTrue_168 rfl ?_
    refine z_if_ne (pc := 169) (tgt := 208) dX6_comesTrue_169 (by decide) (fun h169 => ?_) (fun h169 => ?_)
    · refine z_iconst (pc := 208) (v := 0) dX6_comesTrue_208 (by decide) ?_
      refine z_zret (pc := 209) rfl dX6_comesTrue_209 ?_ ?_ ?_
      · rfl
      · rw [← hz, if_neg (show ¬ ((a = 0 ∧ b < D.1) ∧ bt (dbF q.1 T.2.1 T.2.2.1 T.1 D D.1) b = true) from fun w => h169 ((nI0 (by omega)).mpr w.1.1))]; rfl
      · rfl
    · refine z_iload_n (pc := 172) dX6_comesTrue_172 rfl ?_
      refine z_aload_n (pc := 173) dX6_comesTrue_173 rfl ?_
      refine z_getR (pc := 174) 3 q_fX6_19 z_s0 rfl dX6_comesTrue_174 ?_
      refine z_getI (pc := 177) q_fX6_103 z_s3 rfl dX6_comesTrue_177 ?_
      refine z_icmp_ge (pc := 180) (tgt := 208) dX6_comesTrue_180 (by decide) (fun h180 => ?_) (fun h180 => ?_)
      · refine z_iconst (pc := 208) (v := 0) dX6_comesTrue_208 (by decide) ?_
        refine z_zret (pc := 209) rfl dX6_comesTrue_209 ?_ ?_ ?_
        · rfl
        · rw [hD.1] at h180
          rw [← hz, if_neg (show ¬ ((a = 0 ∧ b < D.1) ∧ bt (dbF q.1 T.2.1 T.2.2.1 T.1 D D.1) b = true) from fun w => nI_ge w.1.2 (by omega) h180)]; rfl
        · rfl
      · refine z_aload_n (pc := 183) dX6_comesTrue_183 rfl ?_
        refine z_getR (pc := 184) 3 q_fX6_19 z_s0 rfl dX6_comesTrue_184 ?_
        refine z_aload_n (pc := 187) dX6_comesTrue_187 rfl ?_
        refine z_getR (pc := 188) 16 q_fX6_39 z_s0 rfl dX6_comesTrue_188 ?_
        refine z_getI (pc := 191) q_fX6_135 z_s16 rfl dX6_comesTrue_191 ?_
        refine z_cV1 (pc := 194) (c_X4_doable hT.1 hD) (q_cX6_199 _ (by decide)) z_s3 rfl rfl dX6_comesTrue_194 ?_
        refine z_iconst (pc := 197) (v := 1) dX6_comesTrue_197 (by decide) ?_
        refine z_iload_n (pc := 198) dX6_comesTrue_198 rfl ?_
        refine z_ishl (pc := 199) dX6_comesTrue_199 ?_
        refine z_iand (pc := 200) dX6_comesTrue_200 ?_
        refine z_if_eq (pc := 201) (tgt := 208) dX6_comesTrue_201 (by decide) (fun h201 => ?_) (fun h201 => ?_)
        · refine z_iconst (pc := 208) (v := 0) dX6_comesTrue_208 (by decide) ?_
          refine z_zret (pc := 209) rfl dX6_comesTrue_209 ?_ ?_ ?_
          · rfl
          · rw [hq.1] at h201
            have hb0 := (z_b0 _ (by omega)).mp h201
            rw [← hz, if_neg (show ¬ ((a = 0 ∧ b < D.1) ∧ bt (dbF q.1 T.2.1 T.2.2.1 T.1 D D.1) b = true) from fun w => by rw [hb0] at w; exact absurd w.2 (by decide))]; rfl
          · rfl
        · refine z_iconst (pc := 204) (v := 1) dX6_comesTrue_204 (by decide) ?_
          refine z_goto (pc := 205) (tgt := 209) dX6_comesTrue_205 (by decide) ?_
          refine z_zret (pc := 209) rfl dX6_comesTrue_209 ?_ ?_ ?_
          · rfl
          · rw [hq.1] at h201
            rw [hD.1] at h180
            have hb1 := z_nb (fun w => h201 ((z_b0 (dbF q.1 T.2.1 T.2.2.1 T.1 D D.1) (k := b) (by omega)).mpr w))
            rw [← hz, if_pos (show ((a = 0 ∧ b < D.1) ∧ bt (dbF q.1 T.2.1 T.2.2.1 T.1 D D.1) b = true) from ⟨⟨(nI0 (by omega)).mp h169, (nI_ltI (by omega) (by omega)).mp (Int32.not_le.mp h180)⟩, hb1⟩)]; rfl
          · rfl
  obtain ⟨M1, h1, h2, h3⟩ := key _ rfl
  refine ⟨M1, h1, ?_, h3⟩
  split <;> exact h2
set_option maxRecDepth 100000 in
set_option maxHeartbeats 400000 in
theorem c_X6_comesTrue {M : z_Mem} {T : TT} {U : UT} {D : DT} (hT : TK M T) (hU : UK M U) (hD : DK M D) {q : PLt} (hq : PlAt M 16 q) (ho : sm7 q.1) (hd : q.2.2 < 2 ^ 29) {x y z : Int32} {k a b : Nat} (hx : x = nI k) (hy : y = nI a) (hz : z = nI b) (hk : k < 10) (ha : a < 10) (hb : b < 10) : ∃ M1, z_Ct mX6_comesTrue [.ref 0, .int x, .int y, .int z] M (some (.int (if (ctF T U D q k a b).isSome then 1 else 0))) M1 ∧ PlAt M1 16 ((ctF T U D q k a b).getD q) ∧ Sb [13, 16, 17] M M1 := by
  subst hx; subst hy; subst hz
  rcases (show k = 0 ∨ k = 1 ∨ k = 2 ∨ k = 3 ∨ k = 4 ∨ k = 5 ∨ 5 < k by omega) with rfl | rfl | rfl | rfl | rfl | rfl | h
  · exact c_X6_ct0 hT hU hD hq ho hd ha hb
  · exact c_X6_ct1 hT hU hD hq ho hd ha hb
  · exact c_X6_ct2 hT hU hD hq ho hd ha hb
  · exact c_X6_ct3 hT hU hD hq ho hd ha hb
  · exact c_X6_ct4 hT hU hD hq ho hd ha hb
  · exact c_X6_ct5 hT hU hD hq ho hd ha hb
  · have e : ctF T U D q k a b = none := by
      rw [ctF, if_neg (by omega), if_neg (by omega), if_neg (by omega), if_neg (by omega), if_neg (by omega), if_neg (by omega)]
    rw [e]
    refine ⟨M, ?_, hq, Sb.rf⟩
    refine z_entry (by decide +kernel) (Nat.le_of_ble_eq_true rfl) rfl ?_
    show z_Sm mX6_comesTrue _ _ 0 [some (.ref 0), some (.int (nI k)), some (.int (nI a)), some (.int (nI b))] [] M
    refine z_iload_n (pc := 0) dX6_comesTrue_0 rfl ?_
    refine z_tswOut (pc := 1) (tgt := 210) dX6_comesTrue_1 (by rw [nI_toInt (by omega)]; omega) (by decide) ?_
    refine z_iconst (pc := 210) (v := 0) dX6_comesTrue_210 (by decide) ?_
    refine z_zret (pc := 211) rfl dX6_comesTrue_211 ?_ ?_ ?_
    · rfl
    · rfl
    · rfl
