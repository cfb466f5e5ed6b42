def arO (T : TT) (p : PLt) (t u a b : Nat) : Nat → Bool
  | 0 => true
  | c + 1 => arO T p t u a b c && (decide (g1F T p t u c b ≤ g1F T p t u a b) && decide (g2F T p t u a c ≤ g2F T p t u a b))
theorem arO_iff {T : TT} {p : PLt} {t u a b : Nat} : ∀ n, arO T p t u a b n = true ↔ ∀ c, c < n → g1F T p t u c b ≤ g1F T p t u a b ∧ g2F T p t u a c ≤ g2F T p t u a b
  | 0 => ⟨fun _ c h => absurd h (Nat.not_lt_zero c), fun _ => rfl⟩
  | n + 1 => by
    rw [arO, Bool.and_eq_true, Bool.and_eq_true, decide_eq_true_eq, decide_eq_true_eq, arO_iff n]
    constructor
    · rintro ⟨h1, h2⟩ c hc
      by_cases e : c = n
      · subst e; exact h2
      · exact h1 c (by omega)
    · exact fun h => ⟨fun c hc => h c (by omega), h n (by omega)⟩
theorem arO_B {T : TT} {p : PLt} {t u a b : Nat} : arO T p t u a b 3 = arB T p t u a b := by
  cases e : arB T p t u a b
  · cases e2 : arO T p t u a b 3
    · rfl
    · rw [arB_iff.mpr ((arO_iff 3).mp e2)] at e; cases e
  · exact (arO_iff 3).mpr (arB_iff.mp e)
set_option maxRecDepth 100000 in
set_option maxHeartbeats 400000 in
theorem s_X7_isRest_6 {T : TT} {p : PLt} {t u a b : Nat} (ht : t < 6) (hu : u < 6) (hne : t ≠ u) (ha : a < 3) (hb : b < 3) : ∀ (f c : Nat) (Mj : z_Mem) (ij w5 : Int32), TN Mj T → PM Mj 0 p → w5 = (if arO T p t u a b c then 1 else 0) → ij = nI c → c + f = 3 → ∃ M2, z_Sm mX7_isRest (some (.int (if arO T p t u a b 3 then 1 else 0))) M2 6 [some (.ref 59), some (.int (nI t)), some (.int (nI u)), some (.int (nI a)), some (.int (nI b)), some (.int w5), some (.int ij)] [] Mj ∧ Sn 1 Mj M2 := by
  intro f
  induction f with
  | zero =>
    intro c Mj ij w5 hT hp h5 hi hf
    obtain rfl : c = 3 := by omega
    refine ⟨Mj, ?_, Sn.rf⟩
    refine z_iload (pc := 6) dX7_isRest_6 rfl ?_
    refine z_iconst (pc := 8) (v := 3) dX7_isRest_8 (by decide) ?_
    refine z_icmp_ge (pc := 9) (tgt := 73) dX7_isRest_9 (by decide) (fun h9 => ?_) (fun h9 => ?_)
    · refine z_iload (pc := 73) dX7_isRest_73 rfl ?_
      refine z_zret (pc := 75) rfl dX7_isRest_75 ?_ ?_ ?_
      · rw [h5]
        cases arO T p t u a b 3 <;> rfl
      · exact h5
      · rfl
    · exact absurd (z_lt h9 hi (show (3 : Int32) = nI 3 from rfl) (by omega) (by omega)) (by omega)
  | succ f ih =>
    intro c Mj ij w5 hT hp h5 hi hf
    have hc : c < 3 := by omega
    have hE := hT.te
    subst hi
    by_cases h0 : arO T p t u a b c = true
    · obtain ⟨N1, c1, s1⟩ := c_X7_gain hT hp ht hu hne hc hb
      obtain ⟨N2, c2, s2⟩ := c_X7_gain (s1.tn hT) (s1.p0 hp) ht hu hne ha hb
      have s2 := s1.tr s2
      by_cases h1 : g1F T p t u c b ≤ g1F T p t u a b
      · obtain ⟨N3, c3, s3⟩ := c_X7_gain (s2.tn hT) (s2.p0 hp) hu ht (Ne.symm hne) hc ha
        have s3 := s2.tr s3
        obtain ⟨N4, c4, s4⟩ := c_X7_gain (s3.tn hT) (s3.p0 hp) hu ht (Ne.symm hne) hb ha
        have s4 := s3.tr s4
        rw [g1_g2 hE ht hu hne] at c3 c4
        by_cases h2 : g2F T p t u a c ≤ g2F T p t u a b
        · have e : arO T p t u a b (c + 1) = true := by rw [arO, h0, decide_eq_true h1, decide_eq_true h2]; rfl
          obtain ⟨M2, k2, q2⟩ := ih (c + 1) N4 (nI c + Int32.ofInt 1) 1 (s4.tn hT) (s4.p0 hp) (by rw [if_pos e]) (z_n1 rfl) (by omega)
          refine ⟨M2, ?_, s4.tr q2⟩
          refine z_iload (pc := 6) dX7_isRest_6 rfl ?_
          refine z_iconst (pc := 8) (v := 3) dX7_isRest_8 (by decide) ?_
          refine z_icmp_ge (pc := 9) (tgt := 73) dX7_isRest_9 (by decide) (fun h9 => ?_) (fun h9 => ?_)
          · exact absurd (z_ge h9 (show nI c = nI c from rfl) (show (3 : Int32) = nI 3 from rfl) (by omega) (by omega)) (by omega)
          · refine z_iload (pc := 12) dX7_isRest_12 rfl ?_
            refine z_if_eq (pc := 14) (tgt := 64) dX7_isRest_14 (by decide) (fun h14 => ?_) (fun h14 => ?_)
            · rw [h5, if_pos h0] at h14
              exact absurd h14 (by decide)
            · refine z_aload_n (pc := 17) dX7_isRest_17 rfl ?_
              refine z_iload_n (pc := 18) dX7_isRest_18 rfl ?_
              refine z_iload_n (pc := 19) dX7_isRest_19 rfl ?_
              refine z_iload (pc := 20) dX7_isRest_20 rfl ?_
              refine z_iload (pc := 22) dX7_isRest_22 rfl ?_
              refine z_cV4 (pc := 24) c1 (q_cX7_208 _ (by decide)) z_s59 rfl rfl dX7_isRest_24 ?_
              refine z_aload_n (pc := 27) dX7_isRest_27 rfl ?_
              refine z_iload_n (pc := 28) dX7_isRest_28 rfl ?_
              refine z_iload_n (pc := 29) dX7_isRest_29 rfl ?_
              refine z_iload_n (pc := 30) dX7_isRest_30 rfl ?_
              refine z_iload (pc := 31) dX7_isRest_31 rfl ?_
              refine z_cV4 (pc := 33) c2 (q_cX7_208 _ (by decide)) z_s59 rfl rfl dX7_isRest_33 ?_
              refine z_icmp_gt (pc := 36) (tgt := 64) dX7_isRest_36 (by decide) (fun h36 => ?_) (fun h36 => ?_)
              · exact absurd h1 (Int32.not_le.mpr h36)
              · refine z_aload_n (pc := 39) dX7_isRest_39 rfl ?_
                refine z_iload_n (pc := 40) dX7_isRest_40 rfl ?_
                refine z_iload_n (pc := 41) dX7_isRest_41 rfl ?_
                refine z_iload (pc := 42) dX7_isRest_42 rfl ?_
                refine z_iload_n (pc := 44) dX7_isRest_44 rfl ?_
                refine z_cV4 (pc := 45) c3 (q_cX7_208 _ (by decide)) z_s59 rfl rfl dX7_isRest_45 ?_
                refine z_aload_n (pc := 48) dX7_isRest_48 rfl ?_
                refine z_iload_n (pc := 49) dX7_isRest_49 rfl ?_
                refine z_iload_n (pc := 50) dX7_isRest_50 rfl ?_
                refine z_iload (pc := 51) dX7_isRest_51 rfl ?_
                refine z_iload_n (pc := 53) dX7_isRest_53 rfl ?_
                refine z_cV4 (pc := 54) c4 (q_cX7_208 _ (by decide)) z_s59 rfl rfl dX7_isRest_54 ?_
                refine z_icmp_gt (pc := 57) (tgt := 64) dX7_isRest_57 (by decide) (fun h57 => ?_) (fun h57 => ?_)
                · exact absurd h2 (Int32.not_le.mpr h57)
                · refine z_iconst (pc := 60) (v := 1) dX7_isRest_60 (by decide) ?_
                  refine z_goto (pc := 61) (tgt := 65) dX7_isRest_61 (by decide) ?_
                  refine z_istore (pc := 65) dX7_isRest_65 rfl (by decide) ?_
                  refine z_iinc (pc := 67) dX7_isRest_67 rfl rfl rfl (by decide) ?_
                  refine z_goto (pc := 70) (tgt := 6) dX7_isRest_70 (by decide) ?_
                  exact k2
        · have e : ¬ arO T p t u a b (c + 1) = true := by rw [arO, decide_eq_false h2, Bool.and_false, Bool.and_false]; decide
          obtain ⟨M2, k2, q2⟩ := ih (c + 1) N4 (nI c + Int32.ofInt 1) 0 (s4.tn hT) (s4.p0 hp) (by rw [if_neg e]) (z_n1 rfl) (by omega)
          refine ⟨M2, ?_, s4.tr q2⟩
          refine z_iload (pc := 6) dX7_isRest_6 rfl ?_
          refine z_iconst (pc := 8) (v := 3) dX7_isRest_8 (by decide) ?_
          refine z_icmp_ge (pc := 9) (tgt := 73) dX7_isRest_9 (by decide) (fun h9 => ?_) (fun h9 => ?_)
          · exact absurd (z_ge h9 (show nI c = nI c from rfl) (show (3 : Int32) = nI 3 from rfl) (by omega) (by omega)) (by omega)
          · refine z_iload (pc := 12) dX7_isRest_12 rfl ?_
            refine z_if_eq (pc := 14) (tgt := 64) dX7_isRest_14 (by decide) (fun h14 => ?_) (fun h14 => ?_)
            · rw [h5, if_pos h0] at h14
              exact absurd h14 (by decide)
            · refine z_aload_n (pc := 17) dX7_isRest_17 rfl ?_
              refine z_iload_n (pc := 18) dX7_isRest_18 rfl ?_
              refine z_iload_n (pc := 19) dX7_isRest_19 rfl ?_
              refine z_iload (pc := 20) dX7_isRest_20 rfl ?_
              refine z_iload (pc := 22) dX7_isRest_22 rfl ?_
              refine z_cV4 (pc := 24) c1 (q_cX7_208 _ (by decide)) z_s59 rfl rfl dX7_isRest_24 ?_
              refine z_aload_n (pc := 27) dX7_isRest_27 rfl ?_
              refine z_iload_n (pc := 28) dX7_isRest_28 rfl ?_
              refine z_iload_n (pc := 29) dX7_isRest_29 rfl ?_
              refine z_iload_n (pc := 30) dX7_isRest_30 rfl ?_
              refine z_iload (pc := 31) dX7_isRest_31 rfl ?_
              refine z_cV4 (pc := 33) c2 (q_cX7_208 _ (by decide)) z_s59 rfl rfl dX7_isRest_33 ?_
              refine z_icmp_gt (pc := 36) (tgt := 64) dX7_isRest_36 (by decide) (fun h36 => ?_) (fun h36 => ?_)
              · exact absurd h1 (Int32.not_le.mpr h36)
              · refine z_aload_n (pc := 39) dX7_isRest_39 rfl ?_
                refine z_iload_n (pc := 40) dX7_isRest_40 rfl ?_
                refine z_iload_n (pc := 41) dX7_isRest_41 rfl ?_
                refine z_iload (pc := 42) dX7_isRest_42 rfl ?_
                refine z_iload_n (pc := 44) dX7_isRest_44 rfl ?_
                refine z_cV4 (pc := 45) c3 (q_cX7_208 _ (by decide)) z_s59 rfl rfl dX7_isRest_45 ?_
                refine z_aload_n (pc := 48) dX7_isRest_48 rfl ?_
                refine z_iload_n (pc := 49) dX7_isRest_49 rfl ?_
                refine z_iload_n (pc := 50) dX7_isRest_50 rfl ?_
                refine z_iload (pc := 51) dX7_isRest_51 rfl ?_
                refine z_iload_n (pc := 53) dX7_isRest_53 rfl ?_
                refine z_cV4 (pc := 54) c4 (q_cX7_208 _ (by decide)) z_s59 rfl rfl dX7_isRest_54 ?_
                refine z_icmp_gt (pc := 57) (tgt := 64) dX7_isRest_57 (by decide) (fun h57 => ?_) (fun h57 => ?_)
                · refine z_iconst (pc := 64) (v := 0) dX7_isRest_64 (by decide) ?_
                  refine z_istore (pc := 65) dX7_isRest_65 rfl (by decide) ?_
                  refine z_iinc (pc := 67) dX7_isRest_67 rfl rfl rfl (by decide) ?_
                  refine z_goto (pc := 70) (tgt := 6) dX7_isRest_70 (by decide) ?_
                  exact k2
                · exact absurd (Int32.not_lt.mp h57) h2
      · have e : ¬ arO T p t u a b (c + 1) = true := by rw [arO, decide_eq_false h1, Bool.false_and, Bool.and_false]; decide
        obtain ⟨M2, k2, q2⟩ := ih (c + 1) N2 (nI c + Int32.ofInt 1) 0 (s2.tn hT) (s2.p0 hp) (by rw [if_neg e]) (z_n1 rfl) (by omega)
        refine ⟨M2, ?_, s2.tr q2⟩
        refine z_iload (pc := 6) dX7_isRest_6 rfl ?_
        refine z_iconst (pc := 8) (v := 3) dX7_isRest_8 (by decide) ?_
        refine z_icmp_ge (pc := 9) (tgt := 73) dX7_isRest_9 (by decide) (fun h9 => ?_) (fun h9 => ?_)
        · exact absurd (z_ge h9 (show nI c = nI c from rfl) (show (3 : Int32) = nI 3 from rfl) (by omega) (by omega)) (by omega)
        · refine z_iload (pc := 12) dX7_isRest_12 rfl ?_
          refine z_if_eq (pc := 14) (tgt := 64) dX7_isRest_14 (by decide) (fun h14 => ?_) (fun h14 => ?_)
          · rw [h5, if_pos h0] at h14
            exact absurd h14 (by decide)
          · refine z_aload_n (pc := 17) dX7_isRest_17 rfl ?_
            refine z_iload_n (pc := 18) dX7_isRest_18 rfl ?_
            refine z_iload_n (pc := 19) dX7_isRest_19 rfl ?_
            refine z_iload (pc := 20) dX7_isRest_20 rfl ?_
            refine z_iload (pc := 22) dX7_isRest_22 rfl ?_
            refine z_cV4 (pc := 24) c1 (q_cX7_208 _ (by decide)) z_s59 rfl rfl dX7_isRest_24 ?_
            refine z_aload_n (pc := 27) dX7_isRest_27 rfl ?_
            refine z_iload_n (pc := 28) dX7_isRest_28 rfl ?_
            refine z_iload_n (pc := 29) dX7_isRest_29 rfl ?_
            refine z_iload_n (pc := 30) dX7_isRest_30 rfl ?_
            refine z_iload (pc := 31) dX7_isRest_31 rfl ?_
            refine z_cV4 (pc := 33) c2 (q_cX7_208 _ (by decide)) z_s59 rfl rfl dX7_isRest_33 ?_
            refine z_icmp_gt (pc := 36) (tgt := 64) dX7_isRest_36 (by decide) (fun h36 => ?_) (fun h36 => ?_)
            · refine z_iconst (pc := 64) (v := 0) dX7_isRest_64 (by decide) ?_
              refine z_istore (pc := 65) dX7_isRest_65 rfl (by decide) ?_
              refine z_iinc (pc := 67) dX7_isRest_67 rfl rfl rfl (by decide) ?_
              refine z_goto (pc := 70) (tgt := 6) dX7_isRest_70 (by decide) ?_
              exact k2
            · exact absurd (Int32.not_lt.mp h36) h1
    · have e : ¬ arO T p t u a b (c + 1) = true := fun q => h0 (by rw [arO, Bool.and_eq_true] at q; exact q.1)
      obtain ⟨M2, k2, q2⟩ := ih (c + 1) Mj (nI c + Int32.ofInt 1) 0 hT hp (by rw [if_neg e]) (z_n1 rfl) (by omega)
      refine ⟨M2, ?_, q2⟩
      refine z_iload (pc := 6) dX7_isRest_6 rfl ?_
      refine z_iconst (pc := 8) (v := 3) dX7_isRest_8 (by decide) ?_
      refine z_icmp_ge (pc := 9) (tgt := 73) dX7_isRest_9 (by decide) (fun h9 => ?_) (fun h9 => ?_)
      · exact absurd (z_ge h9 (show nI c = nI c from rfl) (show (3 : Int32) = nI 3 from rfl) (by omega) (by omega)) (by omega)
      · refine z_iload (pc := 12) dX7_isRest_12 rfl ?_
        refine z_if_eq (pc := 14) (tgt := 64) dX7_isRest_14 (by decide) (fun h14 => ?_) (fun h14 => ?_)
        · refine z_iconst (pc := 64) (v := 0) dX7_isRest_64 (by decide) ?_
          refine z_istore (pc := 65) dX7_isRest_65 rfl (by decide) ?_
          refine z_iinc (pc := 67) dX7_isRest_67 rfl rfl rfl (by decide) ?_
          refine z_goto (pc := 70) (tgt := 6) dX7_isRest_70 (by decide) ?_
          exact k2
        · rw [h5, if_neg h0] at h14
          exact absurd rfl h14
set_option maxRecDepth 100000 in
set_option maxHeartbeats 400000 in
theorem c_X7_isRest {M : z_Mem} {T : TT} (hT : TN M T) {p : PLt} (hp : PM M 0 p) {t u a b : Nat} (ht : t < 6) (hu : u < 6) (hne : t ≠ u) (ha : a < 3) (hb : b < 3) : ∃ M1, z_Ct mX7_isRest [.ref 59, .int (nI t), .int (nI u), .int (nI a), .int (nI b)] M (some (.int (if arB T p t u a b then 1 else 0))) M1 ∧ Sn 1 M M1 := by
  obtain ⟨M2, k2, q2⟩ := s_X7_isRest_6 ht hu hne ha hb 3 0 M 0 1 hT hp rfl rfl (by omega)
  rw [arO_B] at k2
  refine ⟨M2, ?_, q2⟩
  refine z_entry (by decide +kernel) (Nat.le_of_ble_eq_true rfl) rfl ?_
  show z_Sm mX7_isRest _ _ 0 [some (.ref 59), some (.int (nI t)), some (.int (nI u)), some (.int (nI a)), some (.int (nI b)), none, none] [] M
  refine z_iconst (pc := 0) (v := 1) dX7_isRest_0 (by decide) ?_
  refine z_istore (pc := 1) dX7_isRest_1 rfl (by decide) ?_
  refine z_iconst (pc := 3) (v := 0) dX7_isRest_3 (by decide) ?_
  refine z_istore (pc := 4) dX7_isRest_4 rfl (by decide) ?_
  exact k2
