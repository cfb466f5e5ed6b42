set_option maxRecDepth 100000 in
set_option maxHeartbeats 400000 in
theorem s_X7_undo_36 {M M2 : z_Mem} {r : Option Value} {t : Nat} (ht : t < 14) (hn : M.1 59 24 = nI t) (kk : z_Sm mX7_undo r M2 68 [some (.ref 59), none] [] (z_row M 68 (cpR (M.1 68) 0 (M.1 74) (9 * t) (9)))) (j : Nat) (hj : j ≤ 9) (ij : Int32) (Mj : z_Mem) (h2 : ij = nI j) (hM : Mj = z_row M 68 (cpR (M.1 68) 0 (M.1 74) (9 * t) j)) : z_Sm mX7_undo r M2 36 [some (.ref 59), some (.int ij)] [] Mj := by
  refine z_iload_n (pc := 36) dX7_undo_36 rfl ?_
  refine z_bipush (pc := 37) (v := 9) dX7_undo_37 (by decide) ?_
  refine z_icmp_ge (pc := 39) (tgt := 68) dX7_undo_39 (by decide) (fun h39 => ?_) (fun h39 => ?_)
  · have hNj : 9 ≤ j := by
      have := z_ge h39 h2 (show (9 : Int32) = nI 9 from rfl) (by omega) (by omega)
      omega
    obtain rfl : j = 9 := by omega
    subst hM
    exact z_drop 1 kk
  · have hlt : j < 9 := by
      have := z_lt h39 h2 (show (9 : Int32) = nI 9 from rfl) (by omega) (by omega)
      omega
    have hn2 : Mj.1 59 24 = nI t := by rw [hM, z_row_n _ _ (by decide)]; exact hn
    have hix : (9 : Int32) * Mj.1 59 24 + ij = nI (9 * t + j) := by rw [hn2, show (9 : Int32) * nI t = nI (9 * t) from nx_mul 9 t, h2, nI_add]
    have e74 : Mj.1 74 = M.1 74 := by rw [hM, z_row_n _ _ (by decide)]
    refine z_aload_n (pc := 42) dX7_undo_42 rfl ?_
    refine z_getR (pc := 43) 68 q_fX7_34 z_s59 rfl dX7_undo_43 ?_
    refine z_iload_n (pc := 46) dX7_undo_46 rfl ?_
    refine z_aload_n (pc := 47) dX7_undo_47 rfl ?_
    refine z_getR (pc := 48) 74 q_fX7_52 z_s59 rfl dX7_undo_48 ?_
    refine z_bipush (pc := 51) (v := 9) dX7_undo_51 (by decide) ?_
    refine z_aload_n (pc := 53) dX7_undo_53 rfl ?_
    refine z_getI (pc := 54) q_fX7_153 z_s59 rfl dX7_undo_54 ?_
    refine z_imul (pc := 57) dX7_undo_57 ?_
    refine z_iload_n (pc := 58) dX7_undo_58 rfl ?_
    refine z_iadd (pc := 59) dX7_undo_59 ?_
    refine z_iald (pc := 60) (9 * t + j) z_s74 ⟨hix, by omega⟩ dX7_undo_60 ?_
    refine z_iast (pc := 61) (j) z_s68 ⟨h2, by omega⟩ dX7_undo_61 ?_
    refine z_iinc (pc := 62) dX7_undo_62 rfl rfl rfl (by decide) ?_
    refine z_goto (pc := 65) (tgt := 36) dX7_undo_65 (by decide) ?_
    exact s_X7_undo_36 ht hn kk (j + 1) hlt _ _ (z_n1 h2) (by rw [e74, z_set, hM, z_row_1, z_row_row]; refine congrArg (z_row M 68) ?_; have e := cpR_s (M.1 68) 0 (M.1 74) (9 * t) j; rw [Nat.zero_add] at e; exact e)
termination_by 9 - j
decreasing_by all_goals omega
set_option maxRecDepth 100000 in
set_option maxHeartbeats 400000 in
theorem o_X7_undo_no {M : z_Mem} {l : Nat → Int32} {n : Nat} {T : TT} {U : UT} {D : DT} {p : PLt} {A : List PLt} {k0 k1 : Option PLt} {L : List (Int32 × Int32)} {sd : Int64} (hR : RM M l n T U D p A k0 k1 L sd) (h : A = []) : z_Ct mX7_undo [.ref 59] M (some (.int (-3))) M := by
  obtain ⟨rS, rT, rU, rD, rp, rA, r0, r1, rL, rs⟩ := id hR
  obtain ⟨t, ht, a1, a2, -⟩ := rA
  rw [h] at a2

  refine z_entry (by decide +kernel) (Nat.le_of_ble_eq_true rfl) rfl ?_
  show z_Sm mX7_undo _ _ 0 [some (.ref 59), none] [] M
  refine z_aload_n (pc := 0) dX7_undo_0 rfl ?_
  refine z_getI (pc := 1) q_fX7_114 z_s59 rfl dX7_undo_1 ?_
  refine z_if_ne (pc := 4) (tgt := 10) dX7_undo_4 (by decide) (fun h4 => ?_) (fun h4 => ?_)
  · exact absurd a2 h4
  · refine z_bipush (pc := 7) (v := (-3)) dX7_undo_7 (by decide) ?_
    refine z_iret (pc := 9) rfl dX7_undo_9 ?_ ?_
    · rfl
    · rfl
set_option maxRecDepth 100000 in
set_option maxHeartbeats 400000 in
theorem o_X7_undo {M : z_Mem} {l : Nat → Int32} {n : Nat} {T : TT} {U : UT} {D : DT} {p : PLt} {A : List PLt} {q : PLt} {k0 k1 : Option PLt} {L : List (Int32 × Int32)} {sd : Int64} (hR : RM M l n T U D p (q :: A) k0 k1 L sd) : ∃ M1, z_Ct mX7_undo [.ref 59] M (some (.int (nI A.length))) M1 ∧ RM M1 l n T U D q A k0 k1 L sd ∧ Fm M M1 := by
  obtain ⟨rS, rT, rU, rD, rp, rA, r0, r1, rL, rs⟩ := id hR
  obtain ⟨t, ht, h1, h2, h3, h4⟩ := rA
  have h3 : A.length + 1 ≤ 14 := h3
  have hm : nI t + 13 - (nI t + 13) / 14 * 14 = nI ((t + 13) % 14) := by
    rw [show nI t + 13 = nI (t + 13) from nI_add t 13]
    exact pk_rem (d := 14) (by omega) (by decide) (by decide)
  have hl : nI (q :: A).length - 1 = nI A.length := by
    rw [show (1 : Int32) = nI 1 from rfl, pk_sub (by simp)]; rfl
  have hne : ¬ M.1 59 23 = 0 := by
    rw [h2]
    intro z
    have := (nI0 (by rw [List.length_cons]; omega)).mp z
    rw [List.length_cons] at this
    omega
  have s1 : Se M (z_set (z_set M 59 23 (nI A.length)) 59 24 (nI ((t + 13) % 14))) := ⟨fun i a b => by rw [z_set, z_row_n _ _ a, z_set, z_row_n _ _ a], fun k a b => by rw [z_set, z_row_1, upd_n _ _ b, z_set, z_row_1, upd_n _ _ a], rfl⟩
  have f1 : (z_set M 59 23 (nI A.length)).1 59 24 = nI t := by rw [z_set, z_row_1, upd_n _ _ (by decide)]; exact h1
  have f24 : (z_set (z_set M 59 23 (nI A.length)) 59 24 (nI ((t + 13) % 14))).1 59 24 = nI ((t + 13) % 14) := zs_1 _ _ _ _
  have f23 : (z_set (z_set M 59 23 (nI A.length)) 59 24 (nI ((t + 13) % 14))).1 59 23 = nI A.length := by rw [z_set, z_row_1, upd_n _ _ (by decide), zs_1]
  have f74 : (z_set (z_set M 59 23 (nI A.length)) 59 24 (nI ((t + 13) % 14))).1 74 = M.1 74 := by
    rw [z_set, z_row_n _ _ (by decide), z_set, z_row_n _ _ (by decide)]
  have a1 : AN (z_set (z_set M 59 23 (nI A.length)) 59 24 (nI ((t + 13) % 14))) A := ⟨(t + 13) % 14, Nat.mod_lt _ (by decide), f24, f23, by omega, fun i pl hi => by
    have := h4 (i + 1) pl (by simpa using hi)
    have hi2 := (List.getElem?_eq_some_iff.mp hi).1
    rw [show ((t + 13) % 14 + 13 - i) % 14 = (t + 13 - (i + 1)) % 14 by omega]
    exact this.mv (fun j _ => by rw [f74])⟩
  have hq : PA M 74 (9 * ((t + 13) % 14)) q := by
    have := h4 0 q rfl
    rw [Nat.sub_zero] at this
    exact this
  have ht2 : (t + 13) % 14 < 14 := Nat.mod_lt _ (by decide)
  generalize hN : z_set (z_set M 59 23 (nI A.length)) 59 24 (nI ((t + 13) % 14)) = N at s1 f24 f23 f74 a1
  have s2 : Sn 0 N (z_row N 68 (cpR (N.1 68) 0 (N.1 74) (9 * ((t + 13) % 14)) 9)) := ⟨Sb.row _ (by simp), fun i hi => by rw [z_row_1, cpR_out (by omega)]⟩
  have p2 : PM (z_row N 68 (cpR (N.1 68) 0 (N.1 74) (9 * ((t + 13) % 14)) 9)) 0 q := PA.mv (rb := 68) (c := 9 * 0) hq (fun j hj => by rw [z_row_1, cpR_in hj, f74])
  have e23 : (z_row N 68 (cpR (N.1 68) 0 (N.1 74) (9 * ((t + 13) % 14)) 9)).1 59 23 = nI A.length := by rw [z_row_n _ _ (by decide)]; exact f23
  refine ⟨_, ?_, RM_act hR s1 a1 s2 p2⟩
  refine z_entry (by decide +kernel) (Nat.le_of_ble_eq_true rfl) rfl ?_
  show z_Sm mX7_undo _ _ 0 [some (.ref 59), none] [] M
  refine z_aload_n (pc := 0) dX7_undo_0 rfl ?_
  refine z_getI (pc := 1) q_fX7_114 z_s59 rfl dX7_undo_1 ?_
  refine z_if_ne (pc := 4) (tgt := 10) dX7_undo_4 (by decide) (fun h4 => ?_) (fun h4 => ?_)
  · refine z_aload_n (pc := 10) dX7_undo_10 rfl ?_
    refine z_dup (pc := 11) dX7_undo_11 rfl ?_
    refine z_getI (pc := 12) q_fX7_114 z_s59 rfl dX7_undo_12 ?_
    refine z_iconst (pc := 15) (v := 1) dX7_undo_15 (by decide) ?_
    refine z_isub (pc := 16) dX7_undo_16 ?_
    refine z_putI (pc := 17) q_fX7_114 q_p7_23 z_s59 rfl dX7_undo_17 ?_
    rw [h2, hl]
    refine z_aload_n (pc := 20) dX7_undo_20 rfl ?_
    refine z_aload_n (pc := 21) dX7_undo_21 rfl ?_
    refine z_getI (pc := 22) q_fX7_153 z_s59 rfl dX7_undo_22 ?_
    refine z_bipush (pc := 25) (v := 13) dX7_undo_25 (by decide) ?_
    refine z_iadd (pc := 27) dX7_undo_27 ?_
    refine z_bipush (pc := 28) (v := 14) dX7_undo_28 (by decide) ?_
    refine z_irem (pc := 30) dX7_undo_30 (by decide) ?_
    refine z_putI (pc := 31) q_fX7_153 q_p7_24 z_s59 rfl dX7_undo_31 ?_
    rw [f1, hm, hN]
    refine z_iconst (pc := 34) (v := 0) dX7_undo_34 (by decide) ?_
    refine z_istore_n (pc := 35) dX7_undo_35 rfl (by decide) ?_
    refine s_X7_undo_36 ht2 f24 ?_ 0 (by omega) _ _ rfl (by rw [cpR_0, z_row_same])
    refine z_aload_n (pc := 68) dX7_undo_68 rfl ?_
    refine z_getI (pc := 69) q_fX7_114 z_s59 rfl dX7_undo_69 ?_
    refine z_iret (pc := 72) rfl dX7_undo_72 ?_ ?_
    · exact e23
    · rfl
  · exact absurd h4 hne
