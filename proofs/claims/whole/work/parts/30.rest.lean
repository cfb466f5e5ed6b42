def arB (T : TT) (p : PLt) (t u a b : Nat) : Bool := [0, 1, 2].all fun c => decide (g1F T p t u c b ≤ g1F T p t u a b ∧ g2F T p t u a c ≤ g2F T p t u a b)
theorem arB_iff {T : TT} {p : PLt} {t u a b : Nat} : arB T p t u a b = true ↔ ∀ c, c < 3 → g1F T p t u c b ≤ g1F T p t u a b ∧ g2F T p t u a c ≤ g2F T p t u a b := by
  unfold arB
  rw [List.all_eq_true]
  constructor
  · intro h c hc
    exact of_decide_eq_true (h c (by rcases (show c = 0 ∨ c = 1 ∨ c = 2 by omega) with rfl | rfl | rfl <;> simp))
  · intro h c hc
    exact decide_eq_true (h c (by simp at hc; omega))
def rsF (ok : Nat → Nat → Bool) : Nat → Nat × Int32
  | 0 => (0, -9)
  | n + 1 => if ok (n / 3) (n % 3) = true then ((rsF ok n).1 + 1, if (rsF ok n).1 = 0 then nI (10 * (n / 3) + n % 3) else (rsF ok n).2) else rsF ok n
theorem rsF_le (ok : Nat → Nat → Bool) : ∀ n, (rsF ok n).1 ≤ n
  | 0 => Nat.le_refl 0
  | n + 1 => by
    have := rsF_le ok n
    unfold rsF
    split
    · show (rsF ok n).1 + 1 ≤ n + 1; omega
    · omega
theorem rsF_no {ok : Nat → Nat → Bool} {a b : Nat} (hb : b < 3) (h : ok a b = false) : rsF ok (3 * a + (b + 1)) = rsF ok (3 * a + b) := by
  show rsF ok (3 * a + b + 1) = _
  rw [rsF, show (3 * a + b) / 3 = a by omega, show (3 * a + b) % 3 = b by omega, if_neg (by rw [h]; decide)]
theorem rsF_yes {ok : Nat → Nat → Bool} {a b : Nat} (hb : b < 3) (h : ok a b = true) : rsF ok (3 * a + (b + 1)) = ((rsF ok (3 * a + b)).1 + 1, if (rsF ok (3 * a + b)).1 = 0 then nI (10 * a + b) else (rsF ok (3 * a + b)).2) := by
  show rsF ok (3 * a + b + 1) = _
  rw [rsF, show (3 * a + b) / 3 = a by omega, show (3 * a + b) % 3 = b by omega, if_pos h]
set_option maxRecDepth 100000 in
set_option maxHeartbeats 400000 in
theorem s_X6_isAtRest_9 {M : z_Mem} {T : TT} {p : PLt} {t u : Nat} (hG : GK M T p t u 9) {a b : Nat} (ha : a < 3) (hb : b < 3) : ∀ (f c : Nat) (ij : Int32), (∀ c2, c2 < c → g1F T p t u c2 b ≤ g1F T p t u a b ∧ g2F T p t u a c2 ≤ g2F T p t u a b) → ij = nI c → c + f = 3 → z_Sm mX6_isAtRest (some (.int (if arB T p t u a b then 1 else 0))) M 9 [some (.ref 0), some (.int (nI a)), some (.int (nI b)), some (.int (nI (3 * a + b))), some (.int ij)] [] M := by
  intro f
  induction f with
  | zero =>
    intro c ij hO hi hf
    obtain rfl : c = 3 := by omega
    refine z_iload (pc := 9) dX6_isAtRest_9 rfl ?_
    refine z_iconst (pc := 11) (v := 3) dX6_isAtRest_11 (by decide) ?_
    refine z_icmp_ge (pc := 12) (tgt := 63) dX6_isAtRest_12 (by decide) (fun h12 => ?_) (fun h12 => ?_)
    · refine z_iconst (pc := 63) (v := 1) dX6_isAtRest_63 (by decide) ?_
      refine z_zret (pc := 64) rfl dX6_isAtRest_64 ?_ ?_ ?_
      · rfl
      · rw [if_pos (show arB T p t u a b = true from arB_iff.mpr hO)]
      · rfl
    · exact absurd (z_lt h12 hi (show (3 : Int32) = nI 3 from rfl) (by omega) (by omega)) (by omega)
  | succ f ih =>
    intro c ij hO hi hf
    have hc : c < 3 := by omega
    subst hi
    have hcb : (3 : Int32) * nI c + nI b = nI (3 * c + b) := by rw [show (3 : Int32) * nI c = nI (3 * c) from nx_mul 3 c, nI_add]
    have hac : (3 : Int32) * nI a + nI c = nI (3 * a + c) := by rw [show (3 : Int32) * nI a = nI (3 * a) from nx_mul 3 a, nI_add]
    obtain ⟨v1, w1⟩ := hG a b hb (by omega)
    obtain ⟨v2, -⟩ := hG c b hb (by omega)
    obtain ⟨-, w3⟩ := hG a c hc (by omega)
    refine z_iload (pc := 9) dX6_isAtRest_9 rfl ?_
    refine z_iconst (pc := 11) (v := 3) dX6_isAtRest_11 (by decide) ?_
    refine z_icmp_ge (pc := 12) (tgt := 63) dX6_isAtRest_12 (by decide) (fun h12 => ?_) (fun h12 => ?_)
    · exact absurd (z_ge h12 (show nI c = nI c from rfl) (show (3 : Int32) = nI 3 from rfl) (by omega) (by omega)) (by omega)
    · refine z_aload_n (pc := 15) dX6_isAtRest_15 rfl ?_
      refine z_getR (pc := 16) 57 q_fX6_64 z_s0 rfl dX6_isAtRest_16 ?_
      refine z_iconst (pc := 19) (v := 3) dX6_isAtRest_19 (by decide) ?_
      refine z_iload (pc := 20) dX6_isAtRest_20 rfl ?_
      refine z_imul (pc := 22) dX6_isAtRest_22 ?_
      refine z_iload_n (pc := 23) dX6_isAtRest_23 rfl ?_
      refine z_iadd (pc := 24) dX6_isAtRest_24 ?_
      refine z_iald (pc := 25) (3 * c + b) z_s57 ⟨hcb, by omega⟩ dX6_isAtRest_25 ?_
      refine z_aload_n (pc := 26) dX6_isAtRest_26 rfl ?_
      refine z_getR (pc := 27) 57 q_fX6_64 z_s0 rfl dX6_isAtRest_27 ?_
      refine z_iload_n (pc := 30) dX6_isAtRest_30 rfl ?_
      refine z_iald (pc := 31) (3 * a + b) z_s57 ⟨rfl, by omega⟩ dX6_isAtRest_31 ?_
      refine z_icmp_gt (pc := 32) (tgt := 55) dX6_isAtRest_32 (by decide) (fun h32 => ?_) (fun h32 => ?_)
      · refine z_iconst (pc := 55) (v := 0) dX6_isAtRest_55 (by decide) ?_
        refine z_zret (pc := 56) rfl dX6_isAtRest_56 ?_ ?_ ?_
        · rfl
        · rw [v1, v2] at h32
          rw [if_neg (show ¬ arB T p t u a b = true from fun q => absurd (arB_iff.mp q c hc).1 (Int32.not_le.mpr h32))]
        · rfl
      · refine z_aload_n (pc := 35) dX6_isAtRest_35 rfl ?_
        refine z_getR (pc := 36) 58 q_fX6_68 z_s0 rfl dX6_isAtRest_36 ?_
        refine z_iconst (pc := 39) (v := 3) dX6_isAtRest_39 (by decide) ?_
        refine z_iload_n (pc := 40) dX6_isAtRest_40 rfl ?_
        refine z_imul (pc := 41) dX6_isAtRest_41 ?_
        refine z_iload (pc := 42) dX6_isAtRest_42 rfl ?_
        refine z_iadd (pc := 44) dX6_isAtRest_44 ?_
        refine z_iald (pc := 45) (3 * a + c) z_s58 ⟨hac, by omega⟩ dX6_isAtRest_45 ?_
        refine z_aload_n (pc := 46) dX6_isAtRest_46 rfl ?_
        refine z_getR (pc := 47) 58 q_fX6_68 z_s0 rfl dX6_isAtRest_47 ?_
        refine z_iload_n (pc := 50) dX6_isAtRest_50 rfl ?_
        refine z_iald (pc := 51) (3 * a + b) z_s58 ⟨rfl, by omega⟩ dX6_isAtRest_51 ?_
        refine z_icmp_le (pc := 52) (tgt := 57) dX6_isAtRest_52 (by decide) (fun h52 => ?_) (fun h52 => ?_)
        · refine z_iinc (pc := 57) dX6_isAtRest_57 rfl rfl rfl (by decide) ?_
          refine z_goto (pc := 60) (tgt := 9) dX6_isAtRest_60 (by decide) ?_
          rw [v1, v2] at h32
          rw [w1, w3] at h52
          refine ih (c + 1) _ (fun c2 h2 => ?_) (z_n1 rfl) (by omega)
          by_cases e : c2 = c
          · subst e
            exact ⟨Int32.not_lt.mp h32, h52⟩
          · exact hO c2 (by omega)
        · refine z_iconst (pc := 55) (v := 0) dX6_isAtRest_55 (by decide) ?_
          refine z_zret (pc := 56) rfl dX6_isAtRest_56 ?_ ?_ ?_
          · rfl
          · rw [w1, w3] at h52
            rw [if_neg (show ¬ arB T p t u a b = true from fun q => h52 (arB_iff.mp q c hc).2)]
          · rfl
set_option maxRecDepth 100000 in
set_option maxHeartbeats 400000 in
theorem c_X6_isAtRest {M : z_Mem} {T : TT} {p : PLt} {t u : Nat} (hG : GK M T p t u 9) {a b : Nat} (ha : a < 3) (hb : b < 3) : z_Ct mX6_isAtRest [.ref 0, .int (nI a), .int (nI b)] M (some (.int (if arB T p t u a b then 1 else 0))) M := by
  have hab : (3 : Int32) * nI a + nI b = nI (3 * a + b) := by rw [show (3 : Int32) * nI a = nI (3 * a) from nx_mul 3 a, nI_add]
  refine z_entry (by decide +kernel) (Nat.le_of_ble_eq_true rfl) rfl ?_
  show z_Sm mX6_isAtRest _ _ 0 [some (.ref 0), some (.int (nI a)), some (.int (nI b)), none, none] [] M
  refine z_iconst (pc := 0) (v := 3) dX6_isAtRest_0 (by decide) ?_
  refine z_iload_n (pc := 1) dX6_isAtRest_1 rfl ?_
  refine z_imul (pc := 2) dX6_isAtRest_2 ?_
  refine z_iload_n (pc := 3) dX6_isAtRest_3 rfl ?_
  refine z_iadd (pc := 4) dX6_isAtRest_4 ?_
  rw [hab]
  refine z_istore_n (pc := 5) dX6_isAtRest_5 rfl (by decide) ?_
  refine z_iconst (pc := 6) (v := 0) dX6_isAtRest_6 (by decide) ?_
  refine z_istore (pc := 7) dX6_isAtRest_7 rfl (by decide) ?_
  exact s_X6_isAtRest_9 hG ha hb 3 0 _ (fun _ q => absurd q (Nat.not_lt_zero _)) rfl (by omega)
set_option maxRecDepth 100000 in
set_option maxHeartbeats 400000 in
theorem s_X6_rests_52 {M M2 : z_Mem} {r : Option Value} {T : TT} {p : PLt} {t u : Nat} (hG : GK M T p t u 9) {a : Nat} (ha : a < 3) {x y v v4 : Int32} : ∀ (f b : Nat) (ij w5 w6 : Int32), w5 = nI (rsF (arB T p t u) (3 * a + b)).1 → w6 = (rsF (arB T p t u) (3 * a + b)).2 → ij = nI b → b + f = 3 → z_Sm mX6_rests r M2 98 [some (.ref 0), some (.int x), some (.int y), some (.int v), some (.int v4), some (.int (nI (rsF (arB T p t u) (3 * a + 3)).1)), some (.int ((rsF (arB T p t u) (3 * a + 3)).2)), some (.int (nI a)), none] [] M → z_Sm mX6_rests r M2 52 [some (.ref 0), some (.int x), some (.int y), some (.int v), some (.int v4), some (.int (w5)), some (.int (w6)), some (.int (nI a)), some (.int ij)] [] M := by
  intro f
  induction f with
  | zero =>
    intro b ij w5 w6 h5 h6 hi hf kk
    obtain rfl : b = 3 := by omega
    subst h5
    subst h6
    refine z_iload (pc := 52) dX6_rests_52 rfl ?_
    refine z_iconst (pc := 54) (v := 3) dX6_rests_54 (by decide) ?_
    refine z_icmp_ge (pc := 55) (tgt := 98) dX6_rests_55 (by decide) (fun h55 => ?_) (fun h55 => ?_)
    · exact z_drop 8 kk
    · exact absurd (z_lt h55 hi (show (3 : Int32) = nI 3 from rfl) (by omega) (by omega)) (by omega)
  | succ f ih =>
    intro b ij w5 w6 h5 h6 hi hf kk
    have hb : b < 3 := by omega
    have hle := rsF_le (arB T p t u) (3 * a + b)
    subst hi
    refine z_iload (pc := 52) dX6_rests_52 rfl ?_
    refine z_iconst (pc := 54) (v := 3) dX6_rests_54 (by decide) ?_
    refine z_icmp_ge (pc := 55) (tgt := 98) dX6_rests_55 (by decide) (fun h55 => ?_) (fun h55 => ?_)
    · exact absurd (z_ge h55 (show nI b = nI b from rfl) (show (3 : Int32) = nI 3 from rfl) (by omega) (by omega)) (by omega)
    · refine z_aload_n (pc := 58) dX6_rests_58 rfl ?_
      refine z_iload (pc := 59) dX6_rests_59 rfl ?_
      refine z_iload (pc := 61) dX6_rests_61 rfl ?_
      refine z_cV2 (pc := 63) (c_X6_isAtRest hG ha hb) (q_cX6_233 _ (by decide)) z_s0 rfl rfl dX6_rests_63 ?_
      refine z_if_eq (pc := 66) (tgt := 92) dX6_rests_66 (by decide) (fun h66 => ?_) (fun h66 => ?_)
      · refine z_iinc (pc := 92) dX6_rests_92 rfl rfl rfl (by decide) ?_
        refine z_goto (pc := 95) (tgt := 52) dX6_rests_95 (by decide) ?_
        have h66 := z_f h66
        exact ih (b + 1) _ _ _ (by rw [rsF_no hb h66]; exact h5) (by rw [rsF_no hb h66]; exact h6) (z_n1 rfl) (by omega) kk
      · refine z_iload (pc := 69) dX6_rests_69 rfl ?_
        refine z_if_ne (pc := 71) (tgt := 85) dX6_rests_71 (by decide) (fun h71 => ?_) (fun h71 => ?_)
        · refine z_iload (pc := 85) dX6_rests_85 rfl ?_
          refine z_istore (pc := 87) dX6_rests_87 rfl (by decide) ?_
          refine z_iinc (pc := 89) dX6_rests_89 rfl rfl rfl (by decide) ?_
          refine z_iinc (pc := 92) dX6_rests_92 rfl rfl rfl (by decide) ?_
          refine z_goto (pc := 95) (tgt := 52) dX6_rests_95 (by decide) ?_
          have h66 := z_t h66
          rw [h5] at h71
          have h71 : ¬ (rsF (arB T p t u) (3 * a + b)).1 = 0 := fun q => h71 ((nI0 (by omega)).mpr q)
          exact ih (b + 1) _ _ _ (by rw [rsF_yes hb h66, h5]; exact (nI_succ _).symm) (by rw [rsF_yes hb h66, h6]; exact (if_neg h71).symm) (z_n1 rfl) (by omega) kk
        · refine z_bipush (pc := 74) (v := 10) dX6_rests_74 (by decide) ?_
          refine z_iload (pc := 76) dX6_rests_76 rfl ?_
          refine z_imul (pc := 78) dX6_rests_78 ?_
          refine z_iload (pc := 79) dX6_rests_79 rfl ?_
          refine z_iadd (pc := 81) dX6_rests_81 ?_
          refine z_goto (pc := 82) (tgt := 87) dX6_rests_82 (by decide) ?_
          refine z_istore (pc := 87) dX6_rests_87 rfl (by decide) ?_
          refine z_iinc (pc := 89) dX6_rests_89 rfl rfl rfl (by decide) ?_
          refine z_iinc (pc := 92) dX6_rests_92 rfl rfl rfl (by decide) ?_
          refine z_goto (pc := 95) (tgt := 52) dX6_rests_95 (by decide) ?_
          have h66 := z_t h66
          rw [h5] at h71
          have h71 : (rsF (arB T p t u) (3 * a + b)).1 = 0 := (nI0 (by omega)).mp h71
          exact ih (b + 1) _ _ _ (by rw [rsF_yes hb h66, h5]; exact (nI_succ _).symm) (by rw [rsF_yes hb h66, show (10 : Int32) * nI a = nI (10 * a) from nx_mul 10 a, nI_add]; exact (if_pos h71).symm) (z_n1 rfl) (by omega) kk
set_option maxRecDepth 100000 in
set_option maxHeartbeats 400000 in
theorem s_X6_rests_43 {M M2 : z_Mem} {r : Option Value} {T : TT} {p : PLt} {t u : Nat} (hG : GK M T p t u 9) {x y v v4 : Int32} : ∀ (f a : Nat) (ij w5 w6 : Int32) (v8 : Option Value), w5 = nI (rsF (arB T p t u) (3 * a)).1 → w6 = (rsF (arB T p t u) (3 * a)).2 → ij = nI a → a + f = 3 → z_Sm mX6_rests r M2 104 [some (.ref 0), some (.int x), some (.int y), some (.int v), some (.int v4), some (.int (nI (rsF (arB T p t u) 9).1)), some (.int ((rsF (arB T p t u) 9).2)), some (.int (nI 3)), none] [] M → z_Sm mX6_rests r M2 43 [some (.ref 0), some (.int x), some (.int y), some (.int v), some (.int v4), some (.int (w5)), some (.int (w6)), some (.int (ij)), v8] [] M := by
  intro f
  induction f with
  | zero =>
    intro a ij w5 w6 v8 h5 h6 hi hf kk
    obtain rfl : a = 3 := by omega
    subst h5
    subst h6
    subst hi
    refine z_iload (pc := 43) dX6_rests_43 rfl ?_
    refine z_iconst (pc := 45) (v := 3) dX6_rests_45 (by decide) ?_
    refine z_icmp_ge (pc := 46) (tgt := 104) dX6_rests_46 (by decide) (fun h46 => ?_) (fun h46 => ?_)
    · exact z_drop 8 kk
    · exact absurd (z_lt h46 (show nI 3 = nI 3 from rfl) (show (3 : Int32) = nI 3 from rfl) (by omega) (by omega)) (by omega)
  | succ f ih =>
    intro a ij w5 w6 v8 h5 h6 hi hf kk
    have ha : a < 3 := by omega
    subst hi
    refine z_iload (pc := 43) dX6_rests_43 rfl ?_
    refine z_iconst (pc := 45) (v := 3) dX6_rests_45 (by decide) ?_
    refine z_icmp_ge (pc := 46) (tgt := 104) dX6_rests_46 (by decide) (fun h46 => ?_) (fun h46 => ?_)
    · exact absurd (z_ge h46 (show nI a = nI a from rfl) (show (3 : Int32) = nI 3 from rfl) (by omega) (by omega)) (by omega)
    · refine z_iconst (pc := 49) (v := 0) dX6_rests_49 (by decide) ?_
      refine z_istore (pc := 50) dX6_rests_50 rfl (by decide) ?_
      refine s_X6_rests_52 hG ha 3 0 _ _ _ h5 h6 rfl (by omega) ?_
      refine z_iinc (pc := 98) dX6_rests_98 rfl rfl rfl (by decide) ?_
      refine z_goto (pc := 101) (tgt := 43) dX6_rests_101 (by decide) ?_
      exact ih (a + 1) _ _ _ _ rfl rfl (z_n1 rfl) (by omega) kk
set_option maxRecDepth 100000 in
set_option maxHeartbeats 400000 in
theorem o_X6_rests_no {M : z_Mem} {l : Nat → Int32} {n : Nat} {T : TT} {U : UT} {D : DT} {p : PLt} {A : List PLt} {k0 k1 : Option PLt} {L : List (Int32 × Int32)} {sd : Int64} (hR : RX M l n T U D p A k0 k1 L sd) {x y v : Int32} (h : ¬ rfF x y = 0) : z_Ct mX6_rests [.ref 0, .int x, .int y, .int v] M (some (.int (rfF x y))) M := by
  obtain ⟨rS, rT, rU, rD, rp, rA, r0, r1, rL, rs⟩ := id hR

  refine z_entry (by decide +kernel) (Nat.le_of_ble_eq_true rfl) rfl ?_
  show z_Sm mX6_rests _ _ 0 [some (.ref 0), some (.int x), some (.int y), some (.int v), none, none, none, none, none] [] M
  refine z_iload_n (pc := 0) dX6_rests_0 rfl ?_
  refine z_iload_n (pc := 1) dX6_rests_1 rfl ?_
  refine z_cS2 (pc := 2) c_X6_refusalOfTwo (q_cX6_181 _ (by decide)) rfl dX6_rests_2 ?_
  refine z_istore (pc := 5) dX6_rests_5 rfl (by decide) ?_
  refine z_iload (pc := 7) dX6_rests_7 rfl ?_
  refine z_if_eq (pc := 9) (tgt := 15) dX6_rests_9 (by decide) (fun h9 => ?_) (fun h9 => ?_)
  · exact absurd h9 h
  · refine z_iload (pc := 12) dX6_rests_12 rfl ?_
    refine z_iret (pc := 14) rfl dX6_rests_14 ?_ ?_
    · rfl
    · rfl
set_option maxRecDepth 100000 in
set_option maxHeartbeats 400000 in
theorem o_X6_rests_no1 {M : z_Mem} {l : Nat → Int32} {n : Nat} {T : TT} {U : UT} {D : DT} {p : PLt} {A : List PLt} {k0 k1 : Option PLt} {L : List (Int32 × Int32)} {sd : Int64} (hR : RX M l n T U D p A k0 k1 L sd) {x y v : Int32} (h : rfF x y = 0) (h2 : v < 0 ∨ 1 < v) : z_Ct mX6_rests [.ref 0, .int x, .int y, .int v] M (some (.int (-2))) M := by
  obtain ⟨rS, rT, rU, rD, rp, rA, r0, r1, rL, rs⟩ := id hR

  refine z_entry (by decide +kernel) (Nat.le_of_ble_eq_true rfl) rfl ?_
  show z_Sm mX6_rests _ _ 0 [some (.ref 0), some (.int x), some (.int y), some (.int v), none, none, none, none, none] [] M
  refine z_iload_n (pc := 0) dX6_rests_0 rfl ?_
  refine z_iload_n (pc := 1) dX6_rests_1 rfl ?_
  refine z_cS2 (pc := 2) c_X6_refusalOfTwo (q_cX6_181 _ (by decide)) rfl dX6_rests_2 ?_
  refine z_istore (pc := 5) dX6_rests_5 rfl (by decide) ?_
  refine z_iload (pc := 7) dX6_rests_7 rfl ?_
  refine z_if_eq (pc := 9) (tgt := 15) dX6_rests_9 (by decide) (fun h9 => ?_) (fun h9 => ?_)
  · refine z_iload_n (pc := 15) dX6_rests_15 rfl ?_
    refine z_if_lt (pc := 16) (tgt := 24) dX6_rests_16 (by decide) (fun h16 => ?_) (fun h16 => ?_)
    · refine z_bipush (pc := 24) (v := (-2)) dX6_rests_24 (by decide) ?_
      refine z_iret (pc := 26) rfl dX6_rests_26 ?_ ?_
      · rfl
      · rfl
    · refine z_iload_n (pc := 19) dX6_rests_19 rfl ?_
      refine z_iconst (pc := 20) (v := 1) dX6_rests_20 (by decide) ?_
      refine z_icmp_le (pc := 21) (tgt := 27) dX6_rests_21 (by decide) (fun h21 => ?_) (fun h21 => ?_)
      · exact absurd h2 (fun q => q.elim h16 (Int32.not_lt.mpr h21))
      · refine z_bipush (pc := 24) (v := (-2)) dX6_rests_24 (by decide) ?_
        refine z_iret (pc := 26) rfl dX6_rests_26 ?_ ?_
        · rfl
        · rfl
  · exact absurd h h9
def rsR (T : TT) (p : PLt) (t u : Nat) (v : Int32) : Int32 := if v = 0 then nI (rsF (arB T p t u) 9).1 else (rsF (arB T p t u) 9).2
set_option maxRecDepth 100000 in
set_option maxHeartbeats 400000 in
theorem o_X6_rests {M : z_Mem} {l : Nat → Int32} {n : Nat} {T : TT} {U : UT} {D : DT} {p : PLt} {A : List PLt} {k0 k1 : Option PLt} {L : List (Int32 × Int32)} {sd : Int64} (hR : RX M l n T U D p A k0 k1 L sd) (ho : sm7 p.1) {x y v : Int32} (h : rfF x y = 0) (h2 : ¬ v < 0 ∧ v ≤ 1) : ∃ M1, z_Ct mX6_rests [.ref 0, .int x, .int y, .int v] M (some (.int (rsR T p x.toNatClampNeg y.toNatClampNeg v))) M1 ∧ RX M1 l n T U D p A k0 k1 L sd ∧ Fx M M1 := by
  obtain ⟨rS, rT, rU, rD, rp, rA, r0, r1, rL, rs⟩ := id hR
  obtain ⟨hx, hy, hne⟩ := rf_at h
  have hx := thg_at hx
  have hy := thg_at hy
  have hn : x.toNatClampNeg ≠ y.toNatClampNeg := fun q => hne (by rw [hx.2, hy.2, q])
  obtain ⟨N, c1, g1, s1⟩ := c_X6_reckonGains rT rp ho hx.1 hy.1 hn
  rw [← hx.2, ← hy.2] at c1
  refine ⟨N, ?_, RX_th hR s1 (by simp), s1.fx (by simp)⟩
  refine z_entry (by decide +kernel) (Nat.le_of_ble_eq_true rfl) rfl ?_
  show z_Sm mX6_rests _ _ 0 [some (.ref 0), some (.int x), some (.int y), some (.int v), none, none, none, none, none] [] M
  refine z_iload_n (pc := 0) dX6_rests_0 rfl ?_
  refine z_iload_n (pc := 1) dX6_rests_1 rfl ?_
  refine z_cS2 (pc := 2) c_X6_refusalOfTwo (q_cX6_181 _ (by decide)) rfl dX6_rests_2 ?_
  refine z_istore (pc := 5) dX6_rests_5 rfl (by decide) ?_
  refine z_iload (pc := 7) dX6_rests_7 rfl ?_
  refine z_if_eq (pc := 9) (tgt := 15) dX6_rests_9 (by decide) (fun h9 => ?_) (fun h9 => ?_)
  · refine z_iload_n (pc := 15) dX6_rests_15 rfl ?_
    refine z_if_lt (pc := 16) (tgt := 24) dX6_rests_16 (by decide) (fun h16 => ?_) (fun h16 => ?_)
    · exact absurd h16 h2.1
    · refine z_iload_n (pc := 19) dX6_rests_19 rfl ?_
      refine z_iconst (pc := 20) (v := 1) dX6_rests_20 (by decide) ?_
      refine z_icmp_le (pc := 21) (tgt := 27) dX6_rests_21 (by decide) (fun h21 => ?_) (fun h21 => ?_)
      · refine z_aload_n (pc := 27) dX6_rests_27 rfl ?_
        refine z_iload_n (pc := 28) dX6_rests_28 rfl ?_
        refine z_iload_n (pc := 29) dX6_rests_29 rfl ?_
        refine z_cV2v (pc := 30) c1 (q_cX6_229 _ (by decide)) z_s0 rfl rfl dX6_rests_30 ?_
        refine z_iconst (pc := 33) (v := 0) dX6_rests_33 (by decide) ?_
        refine z_istore (pc := 34) dX6_rests_34 rfl (by decide) ?_
        refine z_bipush (pc := 36) (v := (-9)) dX6_rests_36 (by decide) ?_
        refine z_istore (pc := 38) dX6_rests_38 rfl (by decide) ?_
        refine z_iconst (pc := 40) (v := 0) dX6_rests_40 (by decide) ?_
        refine z_istore (pc := 41) dX6_rests_41 rfl (by decide) ?_
        refine s_X6_rests_43 g1 3 0 _ _ _ _ rfl rfl rfl (by omega) ?_
        refine z_iload_n (pc := 104) dX6_rests_104 rfl ?_
        refine z_if_ne (pc := 105) (tgt := 113) dX6_rests_105 (by decide) (fun h105 => ?_) (fun h105 => ?_)
        · refine z_iload (pc := 113) dX6_rests_113 rfl ?_
          refine z_iret (pc := 115) rfl dX6_rests_115 ?_ ?_
          · exact (if_neg h105).symm
          · rfl
        · refine z_iload (pc := 108) dX6_rests_108 rfl ?_
          refine z_goto (pc := 110) (tgt := 115) dX6_rests_110 (by decide) ?_
          refine z_iret (pc := 115) rfl dX6_rests_115 ?_ ?_
          · exact (if_pos h105).symm
          · rfl
      · exact absurd h2.2 h21
  · exact absurd h h9
