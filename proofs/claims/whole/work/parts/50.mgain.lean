set_option maxRecDepth 100000 in
set_option maxHeartbeats 400000 in
theorem c_X7_gain {M : z_Mem} {T : TT} (hT : TN M T) {p : PLt} (hp : PM M 0 p) {t u a b : Nat} (ht : t < 6) (hu : u < 6) (hne : t ≠ u) (ha : a < 3) (hb : b < 3) : ∃ M1, z_Ct mX7_gain [.ref 59, .int (nI t), .int (nI u), .int (nI a), .int (nI b)] M (some (.int (g1F T p t u a b))) M1 ∧ Sn 1 M M1 := by
  obtain ⟨N, c0, p0, s0⟩ := c_X7_layTrial hp
  have t0 := s0.tn hT
  have sb : Sn 1 N (z_row N 73 (cpF 6 (fun _ => 0) (N.1 73))) := Sn.l73 _
  have pb := p0.l73 (cpF 6 (fun _ => 0) (N.1 73))
  have eb : ∀ k, k < 6 → (z_row N 73 (cpF 6 (fun _ => 0) (N.1 73))).1 73 k = 0 := fun k hk => by rw [z_row_1, cpF, if_pos hk]
  have cb := c_X7_unload (M := N)
  generalize z_row N 73 (cpF 6 (fun _ => 0) (N.1 73)) = N2 at sb pb eb cb
  have t2 := sb.tn t0
  have m3 : (3 : Int32) * nI a = nI (3 * a) := nx_mul 3 a
  have m4 : (3 : Int32) * nI b = nI (3 * b) := nx_mul 3 b
  have sc : Sn 1 N2 (z_set (z_set N2 73 t (nI (3 * a))) 73 u (nI (3 * b))) := (Sn.l73 _).tr (Sn.l73 _)
  obtain ⟨M2, c3, p3, s3, -⟩ := c_X7_ping_p (sc.tn t2) (lv := 1) (by decide) ((pb.l73 _).l73 _) (K := rsK t u a b) (fun k hk => by
    rw [z_set, z_row_1, z_set, z_row_1, rsK]
    unfold upd
    split
    · rfl
    · split
      · rfl
      · exact eb k hk)
  have t3 := s3.tn (sc.tn t2)
  have e9 : M2.1 68 9 = rsP T p t u a b := p3.1
  refine ⟨M2, ?_, ((s0.tr sb).tr sc).tr s3⟩
  refine z_entry (by decide +kernel) (Nat.le_of_ble_eq_true rfl) rfl ?_
  show z_Sm mX7_gain _ _ 0 [some (.ref 59), some (.int (nI t)), some (.int (nI u)), some (.int (nI a)), some (.int (nI b)), none] [] M
  refine z_aload_n (pc := 0) dX7_gain_0 rfl ?_
  refine z_cV0v (pc := 1) c0 (q_cX7_174 _ (by decide)) z_s59 rfl rfl dX7_gain_1 ?_
  refine z_aload_n (pc := 4) dX7_gain_4 rfl ?_
  refine z_cV0v (pc := 5) cb (q_cX7_140 _ (by decide)) z_s59 rfl rfl dX7_gain_5 ?_
  refine z_aload_n (pc := 8) dX7_gain_8 rfl ?_
  refine z_getR (pc := 9) 73 q_fX7_49 z_s59 rfl dX7_gain_9 ?_
  refine z_iload_n (pc := 12) dX7_gain_12 rfl ?_
  refine z_iconst (pc := 13) (v := 3) dX7_gain_13 (by decide) ?_
  refine z_iload_n (pc := 14) dX7_gain_14 rfl ?_
  refine z_imul (pc := 15) dX7_gain_15 ?_
  rw [m3]
  refine z_iast (pc := 16) (t) z_s73 ⟨rfl, by omega⟩ dX7_gain_16 ?_
  refine z_aload_n (pc := 17) dX7_gain_17 rfl ?_
  refine z_getR (pc := 18) 73 q_fX7_49 z_s59 rfl dX7_gain_18 ?_
  refine z_iload_n (pc := 21) dX7_gain_21 rfl ?_
  refine z_iconst (pc := 22) (v := 3) dX7_gain_22 (by decide) ?_
  refine z_iload (pc := 23) dX7_gain_23 rfl ?_
  refine z_imul (pc := 25) dX7_gain_25 ?_
  rw [m4]
  refine z_iast (pc := 26) (u) z_s73 ⟨rfl, by omega⟩ dX7_gain_26 ?_
  refine z_aload_n (pc := 27) dX7_gain_27 rfl ?_
  refine z_iconst (pc := 28) (v := 1) dX7_gain_28 (by decide) ?_
  refine z_cV1 (pc := 29) c3 (q_cX7_143 _ (by decide)) z_s59 rfl rfl dX7_gain_29 ?_
  refine z_pop (pc := 32) dX7_gain_32 rfl ?_
  refine z_aload_n (pc := 33) dX7_gain_33 rfl ?_
  refine z_iload_n (pc := 34) dX7_gain_34 rfl ?_
  refine z_aload_n (pc := 35) dX7_gain_35 rfl ?_
  refine z_getR (pc := 36) 68 q_fX7_34 z_s59 rfl dX7_gain_36 ?_
  refine z_bipush (pc := 39) (v := 9) dX7_gain_39 (by decide) ?_
  refine z_iald (pc := 41) (9) z_s68 ⟨rfl, by omega⟩ dX7_gain_41 ?_
  refine z_cV2 (pc := 42) (c_X7_withBy t3 (show nI t = nI t from rfl) ht) (q_cX7_123 _ (by decide)) z_s59 rfl rfl dX7_gain_42 ?_
  refine z_istore (pc := 45) dX7_gain_45 rfl (by decide) ?_
  refine z_iload (pc := 47) dX7_gain_47 rfl ?_
  refine z_iload_n (pc := 49) dX7_gain_49 rfl ?_
  refine z_cS2 (pc := 50) (c_X7_has (show nI u = nI u from rfl) (by omega)) (q_cX7_119 _ (by decide)) rfl dX7_gain_50 ?_
  refine z_if_eq (pc := 53) (tgt := 60) dX7_gain_53 (by decide) (fun h53 => ?_) (fun h53 => ?_)
  · refine z_iconst (pc := 60) (v := 4) dX7_gain_60 (by decide) ?_
    refine z_iload_n (pc := 61) dX7_gain_61 rfl ?_
    refine z_isub (pc := 62) dX7_gain_62 ?_
    refine z_iload (pc := 63) dX7_gain_63 rfl ?_
    refine z_iconst (pc := 65) (v := 1) dX7_gain_65 (by decide) ?_
    refine z_iload_n (pc := 66) dX7_gain_66 rfl ?_
    refine z_ishl (pc := 67) dX7_gain_67 ?_
    refine z_icmp_ne (pc := 68) (tgt := 75) dX7_gain_68 (by decide) (fun h68 => ?_) (fun h68 => ?_)
    · refine z_iconst (pc := 75) (v := 0) dX7_gain_75 (by decide) ?_
      refine z_isub (pc := 76) dX7_gain_76 ?_
      refine z_iret (pc := 77) rfl dX7_gain_77 ?_ ?_
      · rw [e9] at h53 h68
        have h53 := z_f h53
        rw [g1F, ptd, if_neg (show ¬ tog (rsP T p t u a b) T.2.1 T.2.2.1 T.1 t u = true by rw [tog, h53]; decide), alF, if_neg (show ¬ rOut (rsP T p t u a b) T.2.1 T.2.2.1 T.1 5 (em t) = em t from h68)]
      · rfl
    · refine z_iconst (pc := 71) (v := 2) dX7_gain_71 (by decide) ?_
      refine z_goto (pc := 72) (tgt := 76) dX7_gain_72 (by decide) ?_
      refine z_isub (pc := 76) dX7_gain_76 ?_
      refine z_iret (pc := 77) rfl dX7_gain_77 ?_ ?_
      · rw [e9] at h53 h68
        have h53 := z_f h53
        rw [g1F, ptd, if_neg (show ¬ tog (rsP T p t u a b) T.2.1 T.2.2.1 T.1 t u = true by rw [tog, h53]; decide), alF, if_pos (show rOut (rsP T p t u a b) T.2.1 T.2.2.1 T.1 5 (em t) = em t from h68)]
      · rfl
  · refine z_iconst (pc := 56) (v := 0) dX7_gain_56 (by decide) ?_
    refine z_goto (pc := 57) (tgt := 61) dX7_gain_57 (by decide) ?_
    refine z_iload_n (pc := 61) dX7_gain_61 rfl ?_
    refine z_isub (pc := 62) dX7_gain_62 ?_
    refine z_iload (pc := 63) dX7_gain_63 rfl ?_
    refine z_iconst (pc := 65) (v := 1) dX7_gain_65 (by decide) ?_
    refine z_iload_n (pc := 66) dX7_gain_66 rfl ?_
    refine z_ishl (pc := 67) dX7_gain_67 ?_
    refine z_icmp_ne (pc := 68) (tgt := 75) dX7_gain_68 (by decide) (fun h68 => ?_) (fun h68 => ?_)
    · refine z_iconst (pc := 75) (v := 0) dX7_gain_75 (by decide) ?_
      refine z_isub (pc := 76) dX7_gain_76 ?_
      refine z_iret (pc := 77) rfl dX7_gain_77 ?_ ?_
      · rw [e9] at h53 h68
        have h53 := z_t h53
        rw [g1F, ptd, if_pos (show tog (rsP T p t u a b) T.2.1 T.2.2.1 T.1 t u = true from h53), alF, if_neg (show ¬ rOut (rsP T p t u a b) T.2.1 T.2.2.1 T.1 5 (em t) = em t from h68)]
      · rfl
    · refine z_iconst (pc := 71) (v := 2) dX7_gain_71 (by decide) ?_
      refine z_goto (pc := 72) (tgt := 76) dX7_gain_72 (by decide) ?_
      refine z_isub (pc := 76) dX7_gain_76 ?_
      refine z_iret (pc := 77) rfl dX7_gain_77 ?_ ?_
      · rw [e9] at h53 h68
        have h53 := z_t h53
        rw [g1F, ptd, if_pos (show tog (rsP T p t u a b) T.2.1 T.2.2.1 T.1 t u = true from h53), alF, if_pos (show rOut (rsP T p t u a b) T.2.1 T.2.2.1 T.1 5 (em t) = em t from h68)]
      · rfl
theorem upd_comm (f : Nat → Int32) {i j : Nat} (h : i ≠ j) (v w : Int32) : upd (upd f i v) j w = upd (upd f j w) i v := funext fun k => by
  unfold upd
  by_cases e : k = j
  · subst e; rw [if_pos rfl, if_neg (Ne.symm h), if_pos rfl]
  · rw [if_neg e, if_neg e]
/-- the other's gain is the one's, with the parts changed -/
theorem g1_g2 {T : TT} {p : PLt} {t u a b : Nat} (hE : TE T) (ht : t < 6) (hu : u < 6) (hne : t ≠ u) : g1F T p u t b a = g2F T p t u a b := by
  have e : rsK u t b a = rsK t u a b := upd_comm _ (Ne.symm hne) _ _
  have e2 : rsP T p u t b a = rsP T p t u a b := by rw [rsP, rsP, e]
  rw [g1F, g2F, e2, ptd, ptd, tog_sym hu ht hE]
