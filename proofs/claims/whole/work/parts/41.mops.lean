/-- neither town nor plight nor act has changed -/
def Sk (M N : z_Mem) : Prop := (∀ i, i ≠ 59 → (i < 69 ∨ 72 < i) → i ≠ 75 → i ≠ 76 → N.1 i = M.1 i) ∧ (∀ k, k < 15 ∨ k = 23 ∨ k = 24 → N.1 59 k = M.1 59 k) ∧ N.2 = M.2
theorem Sk.tr {M N K : z_Mem} (h : Sk M N) (h2 : Sk N K) : Sk M K := ⟨fun i a b c d => (h2.1 i a b c d).trans (h.1 i a b c d), fun k a => (h2.2.1 k a).trans (h.2.1 k a), h2.2.2.trans h.2.2⟩
theorem Sk.row {M : z_Mem} {i : Nat} (f : Nat → Int32) (h : (68 < i ∧ i < 73) ∨ i = 75 ∨ i = 76) : Sk M (z_row M i f) := ⟨fun j a b c d => z_row_n _ _ (by omega), fun k _ => by rw [z_row_n _ _ (by omega)], rfl⟩
theorem Sk.fld {M : z_Mem} {k : Nat} (v : Int32) (h : 14 < k ∧ k ≠ 23 ∧ k ≠ 24) : Sk M (z_set M 59 k v) := ⟨fun j a b c d => by rw [z_set, z_row_n _ _ a], fun j a => by rw [z_set, z_row_1, upd_n _ _ (by omega)], rfl⟩
theorem RM_sk {M N : z_Mem} {l l2 : Nat → Int32} {n n2 : Nat} {T : TT} {U : UT} {D : DT} {p : PLt} {A : List PLt} {k0 k1 : Option PLt} {L L2 : List (Int32 × Int32)} {sd : Int64} (h : RM M l n T U D p A k0 k1 L sd) (s : Sk M N) (hS : SN N l2 n2) (hL : LN N L2) : RM N l2 n2 T U D p A k0 k1 L2 sd ∧ Fm M N := by
  obtain ⟨h1, h2, h3, h4, h5, h6, h7, h8, h9, h10⟩ := h
  have e : ∀ i, i ≠ 59 → (i < 69 ∨ 72 < i) → i ≠ 75 → i ≠ 76 → N.1 i = M.1 i := s.1
  have f : ∀ k, k < 15 ∨ k = 23 ∨ k = 24 → N.1 59 k = M.1 59 k := s.2.1
  refine ⟨⟨hS, ?_, ?_, ?_, ?_, AN_cong h6 (f 24 (by decide)) (f 23 (by decide)) (e 74 (by decide) (by decide) (by decide) (by decide)), KN_cong h7 (by rw [e 77 (by decide) (by decide) (by decide) (by decide)]) (fun j _ => by rw [e 78 (by decide) (by decide) (by decide) (by decide)]), KN_cong h8 (by rw [e 77 (by decide) (by decide) (by decide) (by decide)]) (fun j _ => by rw [e 78 (by decide) (by decide) (by decide) (by decide)]), hL, by rw [s.2.2]; exact h10⟩, fun i hi => ⟨e i (by omega) (by omega) (by omega) (by omega), by rw [s.2.2]⟩⟩
  · unfold TN
    rw [f 0 (by decide), e 60 (by decide) (by decide) (by decide) (by decide), e 61 (by decide) (by decide) (by decide) (by decide), e 62 (by decide) (by decide) (by decide) (by decide), e 63 (by decide) (by decide) (by decide) (by decide)]
    exact h2
  · unfold UN
    rw [f 1 (by decide), e 64 (by decide) (by decide) (by decide) (by decide), e 65 (by decide) (by decide) (by decide) (by decide)]
    exact h3
  · unfold DN
    rw [f 2 (by decide), e 66 (by decide) (by decide) (by decide) (by decide), e 67 (by decide) (by decide) (by decide) (by decide)]
    exact h4
  · unfold PM
    rw [e 68 (by decide) (by decide) (by decide) (by decide)]
    exact h5
theorem SN_cong {M N : z_Mem} {l : Nat → Int32} {n : Nat} (h : SN M l n) (e1 : N.1 59 19 = M.1 59 19) (e2 : N.1 72 = M.1 72) : SN N l n := by
  unfold SN
  rw [e1, e2]
  exact h
theorem LN_cong {M N : z_Mem} {L : List (Int32 × Int32)} (h : LN M L) (e1 : N.1 59 26 = M.1 59 26) (e2 : N.1 75 = M.1 75) (e3 : N.1 76 = M.1 76) : LN N L := by
  unfold LN
  rw [e1, e2, e3]
  exact h
set_option maxRecDepth 100000 in
set_option maxHeartbeats 400000 in
theorem o_X7_write_no {M : z_Mem} {l : Nat → Int32} {n : Nat} {T : TT} {U : UT} {D : DT} {p : PLt} {A : List PLt} {k0 k1 : Option PLt} {L : List (Int32 × Int32)} {sd : Int64} (hR : RM M l n T U D p A k0 k1 L sd) {x : Int32} (h : (x < 0 ∨ 255 < x) ∨ 60 ≤ n) : z_Ct mX7_write [.ref 59, .int x] M (some (.int (if x < 0 ∨ 255 < x then -2 else -4))) M := by
  obtain ⟨rS, rT, rU, rD, rp, rA, r0, r1, rL, rs⟩ := id hR
  obtain ⟨e1, e2, -⟩ := rS
  have hin := fun q => inB_no (x := x) (b := 0) (c := 255) 0 255 (by decide) (by decide) q
  have hin2 := fun q => inB_yes (x := x) (b := 0) (c := 255) 0 255 (by decide) (by decide) q

  refine z_entry (by decide +kernel) (Nat.le_of_ble_eq_true rfl) rfl ?_
  show z_Sm mX7_write _ _ 0 [some (.ref 59), some (.int x)] [] M
  refine z_iload_n (pc := 0) dX7_write_0 rfl ?_
  refine z_i2l (pc := 1) dX7_write_1 rfl ?_
  refine z_lconst (pc := 2) (v := 0) dX7_write_2 (by decide) ?_
  refine z_ldc2 (pc := 3) q_kX7_68 dX7_write_3 ?_
  refine z_cS3 (pc := 6) c_X7_in (q_cX7_70 _ (by decide)) rfl dX7_write_6 ?_
  refine z_if_ne (pc := 9) (tgt := 15) dX7_write_9 (by decide) (fun h9 => ?_) (fun h9 => ?_)
  · refine z_aload_n (pc := 15) dX7_write_15 rfl ?_
    refine z_getI (pc := 16) q_fX7_74 z_s59 rfl dX7_write_16 ?_
    refine z_bipush (pc := 19) (v := 60) dX7_write_19 (by decide) ?_
    refine z_icmp_ne (pc := 21) (tgt := 27) dX7_write_21 (by decide) (fun h21 => ?_) (fun h21 => ?_)
    · exfalso
      have h9 := z_t h9
      rcases h with h | h
      · rw [hin h] at h9; cases h9
      · exact h21 (by rw [e1, show n = 60 by omega]; rfl)
    · refine z_bipush (pc := 24) (v := (-4)) dX7_write_24 (by decide) ?_
      refine z_iret (pc := 26) rfl dX7_write_26 ?_ ?_
      · have h9 := z_t h9
        by_cases q : x < 0 ∨ 255 < x
        · rw [hin q] at h9; cases h9
        · rw [if_neg q]
      · rfl
  · refine z_bipush (pc := 12) (v := (-2)) dX7_write_12 (by decide) ?_
    refine z_iret (pc := 14) rfl dX7_write_14 ?_ ?_
    · have h9 := z_f h9
      by_cases q : x < 0 ∨ 255 < x
      · rw [if_pos q]
      · rw [hin2 q] at h9; cases h9
    · rfl
set_option maxRecDepth 100000 in
set_option maxHeartbeats 400000 in
theorem o_X7_write {M : z_Mem} {l : Nat → Int32} {n : Nat} {T : TT} {U : UT} {D : DT} {p : PLt} {A : List PLt} {k0 k1 : Option PLt} {L : List (Int32 × Int32)} {sd : Int64} (hR : RM M l n T U D p A k0 k1 L sd) {x : Int32} (h : ¬ (x < 0 ∨ 255 < x)) (hn : n < 60) : ∃ M1, z_Ct mX7_write [.ref 59, .int x] M (some (.int (nI (n + 1)))) M1 ∧ RM M1 (upd l n x) (n + 1) T U D p A k0 k1 L sd ∧ Fm M M1 := by
  obtain ⟨rS, rT, rU, rD, rp, rA, r0, r1, rL, rs⟩ := id hR
  obtain ⟨e1, e2, e3⟩ := rS
  have hin := inB_yes (x := x) (b := 0) (c := 255) 0 255 (by decide) (by decide) h
  have e4 : (z_set M 72 n x).1 59 19 = nI n := by rw [z_set, z_row_n _ _ (by decide)]; exact e1
  have sk : Sk M (z_set (z_set M 72 n x) 59 19 (nI (n + 1))) := (Sk.row _ (by omega)).tr (Sk.fld _ (by omega))
  have sS : SN (z_set (z_set M 72 n x) 59 19 (nI (n + 1))) (upd l n x) (n + 1) := ⟨zs_1 _ _ _ _, by omega, fun i hi => by
    rw [z_set, z_row_n _ _ (by decide), z_set, z_row_1]
    by_cases q : i = n
    · subst q; rw [upd_1, upd_1]
    · rw [upd_n _ _ q, upd_n _ _ q]; exact e3 i (by omega)⟩
  refine ⟨z_set (z_set M 72 n x) 59 19 (nI (n + 1)), ?_, RM_sk hR sk sS (LN_cong rL (by rw [z_set, z_row_1, upd_n _ _ (by decide), z_set, z_row_n _ _ (by decide)]) (by rw [z_set, z_row_n _ _ (by decide), z_set, z_row_n _ _ (by decide)]) (by rw [z_set, z_row_n _ _ (by decide), z_set, z_row_n _ _ (by decide)]))⟩
  · refine z_entry (by decide +kernel) (Nat.le_of_ble_eq_true rfl) rfl ?_
    show z_Sm mX7_write _ _ 0 [some (.ref 59), some (.int x)] [] M
    refine z_iload_n (pc := 0) dX7_write_0 rfl ?_
    refine z_i2l (pc := 1) dX7_write_1 rfl ?_
    refine z_lconst (pc := 2) (v := 0) dX7_write_2 (by decide) ?_
    refine z_ldc2 (pc := 3) q_kX7_68 dX7_write_3 ?_
    refine z_cS3 (pc := 6) c_X7_in (q_cX7_70 _ (by decide)) rfl dX7_write_6 ?_
    refine z_if_ne (pc := 9) (tgt := 15) dX7_write_9 (by decide) (fun h9 => ?_) (fun h9 => ?_)
    · refine z_aload_n (pc := 15) dX7_write_15 rfl ?_
      refine z_getI (pc := 16) q_fX7_74 z_s59 rfl dX7_write_16 ?_
      refine z_bipush (pc := 19) (v := 60) dX7_write_19 (by decide) ?_
      refine z_icmp_ne (pc := 21) (tgt := 27) dX7_write_21 (by decide) (fun h21 => ?_) (fun h21 => ?_)
      · refine z_aload_n (pc := 27) dX7_write_27 rfl ?_
        refine z_getR (pc := 28) 72 q_fX7_46 z_s59 rfl dX7_write_28 ?_
        refine z_aload_n (pc := 31) dX7_write_31 rfl ?_
        refine z_getI (pc := 32) q_fX7_74 z_s59 rfl dX7_write_32 ?_
        refine z_iload_n (pc := 35) dX7_write_35 rfl ?_
        refine z_iast (pc := 36) (n) z_s72 ⟨e1, by omega⟩ dX7_write_36 ?_
        refine z_aload_n (pc := 37) dX7_write_37 rfl ?_
        refine z_dup (pc := 38) dX7_write_38 rfl ?_
        refine z_getI (pc := 39) q_fX7_74 z_s59 rfl dX7_write_39 ?_
        refine z_iconst (pc := 42) (v := 1) dX7_write_42 (by decide) ?_
        refine z_iadd (pc := 43) dX7_write_43 ?_
        refine z_putI (pc := 44) q_fX7_74 q_p7_19 z_s59 rfl dX7_write_44 ?_
        rw [e4, ← nI_succ]
        refine z_aload_n (pc := 47) dX7_write_47 rfl ?_
        refine z_getI (pc := 48) q_fX7_74 z_s59 rfl dX7_write_48 ?_
        refine z_iret (pc := 51) rfl dX7_write_51 ?_ ?_
        · rw [zs_1]
        · rfl
      · exfalso
        rw [e1] at h21
        have q : nI n < 60 := nI_lt (b := 60) hn (by decide)
        rw [h21] at q
        exact absurd q (by decide)
    · rw [hin] at h9; exact absurd h9 (by decide)
set_option maxRecDepth 100000 in
set_option maxHeartbeats 400000 in
theorem o_X7_wipe {M : z_Mem} {l : Nat → Int32} {n : Nat} {T : TT} {U : UT} {D : DT} {p : PLt} {A : List PLt} {k0 k1 : Option PLt} {L : List (Int32 × Int32)} {sd : Int64} (hR : RM M l n T U D p A k0 k1 L sd)  : ∃ M1, z_Ct mX7_wipe [.ref 59] M (some (.int (nI n))) M1 ∧ RM M1 l 0 T U D p A k0 k1 L sd ∧ Fm M M1 := by
  obtain ⟨rS, rT, rU, rD, rp, rA, r0, r1, rL, rs⟩ := id hR
  refine ⟨z_set M 59 19 0, ?_, RM_sk hR (Sk.fld _ (by omega)) ⟨by rw [zs_1]; rfl, by omega, fun i hi => absurd hi (by omega)⟩ (LN_cong rL (by rw [z_set, z_row_1, upd_n _ _ (by decide)]) (by rw [z_set, z_row_n _ _ (by decide)]) (by rw [z_set, z_row_n _ _ (by decide)]))⟩
  · refine z_entry (by decide +kernel) (Nat.le_of_ble_eq_true rfl) rfl ?_
    show z_Sm mX7_wipe _ _ 0 [some (.ref 59), none] [] M
    refine z_aload_n (pc := 0) dX7_wipe_0 rfl ?_
    refine z_getI (pc := 1) q_fX7_74 z_s59 rfl dX7_wipe_1 ?_
    refine z_istore_n (pc := 4) dX7_wipe_4 rfl (by decide) ?_
    refine z_aload_n (pc := 5) dX7_wipe_5 rfl ?_
    refine z_iconst (pc := 6) (v := 0) dX7_wipe_6 (by decide) ?_
    refine z_putI (pc := 7) q_fX7_74 q_p7_19 z_s59 rfl dX7_wipe_7 ?_
    refine z_iload_n (pc := 10) dX7_wipe_10 rfl ?_
    refine z_iret (pc := 11) rfl dX7_wipe_11 ?_ ?_
    · exact rS.1
    · rfl
set_option maxRecDepth 100000 in
set_option maxHeartbeats 400000 in
theorem o_X7_untry {M : z_Mem} {l : Nat → Int32} {n : Nat} {T : TT} {U : UT} {D : DT} {p : PLt} {A : List PLt} {k0 k1 : Option PLt} {L : List (Int32 × Int32)} {sd : Int64} (hR : RM M l n T U D p A k0 k1 L sd)  : ∃ M1, z_Ct mX7_untry [.ref 59] M (some (.int (nI L.length))) M1 ∧ RM M1 l n T U D p A k0 k1 [] sd ∧ Fm M M1 := by
  obtain ⟨rS, rT, rU, rD, rp, rA, r0, r1, rL, rs⟩ := id hR
  refine ⟨z_set M 59 26 0, ?_, RM_sk hR (Sk.fld _ (by omega)) (SN_cong rS (by rw [z_set, z_row_1, upd_n _ _ (by decide)]) (by rw [z_set, z_row_n _ _ (by decide)])) ⟨by rw [zs_1]; rfl, by simp, fun i q hi => by simp at hi⟩⟩
  · refine z_entry (by decide +kernel) (Nat.le_of_ble_eq_true rfl) rfl ?_
    show z_Sm mX7_untry _ _ 0 [some (.ref 59), none] [] M
    refine z_aload_n (pc := 0) dX7_untry_0 rfl ?_
    refine z_getI (pc := 1) q_fX7_196 z_s59 rfl dX7_untry_1 ?_
    refine z_istore_n (pc := 4) dX7_untry_4 rfl (by decide) ?_
    refine z_aload_n (pc := 5) dX7_untry_5 rfl ?_
    refine z_iconst (pc := 6) (v := 0) dX7_untry_6 (by decide) ?_
    refine z_putI (pc := 7) q_fX7_196 q_p7_26 z_s59 rfl dX7_untry_7 ?_
    refine z_iload_n (pc := 10) dX7_untry_10 rfl ?_
    refine z_iret (pc := 11) rfl dX7_untry_11 ?_ ?_
    · exact rL.1
    · rfl
