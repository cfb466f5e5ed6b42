/-- what has been read of the parts of one kind -/
def Rd (M : z_Mem) (fld ro w : Nat) (c : Int32) (l : Nat → Int32) (n p : Nat) : Prop := M.1 59 fld = nI (cN l c p) ∧ ∀ k, k < cN l c p → ∀ j, j < w → M.1 ro (w * k + j) = fg l n (nP l c p k + (1 + j))
def RdM (M : z_Mem) (l : Nat → Int32) (n p : Nat) : Prop := Rd M 15 69 4 78 l n p ∧ Rd M 16 70 2 87 l n p ∧ Rd M 17 71 2 68 l n p
theorem Rd_new {M N : z_Mem} {fld ro w : Nat} {c : Int32} {l : Nat → Int32} {n p : Nat} (h : Rd M fld ro w c l n p) (h1 : 1 ≤ p) (hc : l p = c) (e1 : N.1 59 fld = nI (cN l c p + 1)) (e4 : ∀ j, j < w → N.1 ro (w * cN l c p + j) = fg l n (p + (1 + j))) (e5 : ∀ i, i < w * cN l c p → N.1 ro i = M.1 ro i) : Rd N fld ro w c l n (p + 1) := by
  refine ⟨by rw [cN_yes h1 hc]; exact e1, fun k hk j hj => ?_⟩
  rw [cN_yes h1 hc] at hk
  by_cases e : k = cN l c p
  · subst e
    rw [nP_new h1 hc]
    exact e4 j hj
  · have hk2 : k < cN l c p := by omega
    have hm := Nat.mul_le_mul_left w (show k + 1 ≤ cN l c p from hk2)
    rw [Nat.mul_succ] at hm
    rw [nP_old hk2, e5 _ (by omega)]
    exact h.2 k hk2 j hj
theorem Rd_skip {M : z_Mem} {fld ro w : Nat} {c : Int32} {l : Nat → Int32} {n p : Nat} (h : Rd M fld ro w c l n p) (hc : ¬ l p = c) : Rd M fld ro w c l n (p + 1) := by
  refine ⟨by rw [cN_no hc]; exact h.1, fun k hk j hj => ?_⟩
  rw [cN_no hc] at hk
  rw [nP_old hk]
  exact h.2 k hk j hj
theorem Rd_skips {M : z_Mem} {fld ro w : Nat} {c : Int32} {l : Nat → Int32} {n p : Nat} (h : Rd M fld ro w c l n p) : ∀ d, (∀ i, p ≤ i → i < p + d → ¬ l i = c) → Rd M fld ro w c l n (p + d)
  | 0, _ => h
  | d + 1, hc => Rd_skip (Rd_skips h d (fun i h1 h2 => hc i h1 (by omega))) (hc (p + d) (by omega) (by omega))
theorem Rd_same {M N : z_Mem} {fld ro w : Nat} {c : Int32} {l : Nat → Int32} {n p : Nat} (h : Rd M fld ro w c l n p) (e1 : N.1 59 fld = M.1 59 fld) (e2 : N.1 ro = M.1 ro) : Rd N fld ro w c l n p := by
  unfold Rd
  rw [e1, e2]
  exact h
theorem dig_ne {l : Nat → Int32} {n p i : Nat} {c : Int32} (h : okG l n p i = true) (hc : ¬ sz c = 0) : ¬ l i = c := fun e => hc (e ▸ okG_digit h)
theorem okB_at {l : Nat → Int32} {p : Nat} (h : okB l p = true) : (l p = 78 ∧ cN l 78 p < 7) ∨ (l p = 87 ∧ cN l 87 p < 4) ∨ (l p = 68 ∧ cN l 68 p < 3) := by
  rw [okB] at h
  by_cases hz : sz (l p) = 0
  · rw [if_pos hz] at h; cases h
  · rw [if_neg hz] at h
    have h := of_decide_eq_true h
    by_cases h1 : l p = 78
    · rw [h1] at h; exact Or.inl ⟨h1, h⟩
    by_cases h2 : l p = 87
    · rw [h2] at h; exact Or.inr (Or.inl ⟨h2, h⟩)
    by_cases h3 : l p = 68
    · rw [h3] at h; exact Or.inr (Or.inr ⟨h3, h⟩)
    · exact absurd (by rw [sz, if_neg h1, if_neg h2, if_neg h3]) hz
set_option maxRecDepth 100000 in
set_option maxHeartbeats 400000 in
theorem c_X7_readPart {M : z_Mem} {l : Nat → Int32} {n p : Nat} {X : Int32} (hS : SN M l n) (h1 : 1 ≤ p) (hp : p < n) (hf : M.1 59 21 = -9) (ha : M.1 59 20 = nI p) (hX : X = scn l n (n - p) p p) (hR : RdM M l n p) : ∃ (N : z_Mem) (p2 : Nat), z_Ct mX7_readPart [.ref 59, .int (l p)] M none N ∧ Sr M N ∧ p < p2 ∧ FS N l n X p2 p2 ∧ (N.1 59 21 = -9 → RdM N l n p2) := by
  obtain ⟨RN, RW, RD⟩ := hR
  by_cases hB : okB l p = true
  · rcases okB_at hB with ⟨hc, hlt⟩ | ⟨hc, hlt⟩ | ⟨hc, hlt⟩
    · obtain ⟨N, c1, s1, F1, r1⟩ := c_X7_readPart_N hS hp hf ha hX hc RN.1 hlt hB
      refine ⟨N, p + 5, c1, s1, by omega, F1, fun z => ?_⟩
      obtain ⟨dg, e1, e2, e3, e4, e5⟩ := r1 z
      have ne : ∀ c : Int32, ¬ sz c = 0 → ¬ c = 78 → ∀ i, p ≤ i → i < p + 5 → ¬ l i = c := fun c h1 h2 i h3 h4 q => by
        by_cases e : i = p
        · subst e; exact h2 (q.symm.trans hc)
        · exact dig_ne (dg i (by omega) h4) h1 q
      refine ⟨?_, ?_, ?_⟩
      · exact Rd_skips (p := p + 1) (Rd_new RN h1 hc e1 e4 e5) 4 (fun i h3 h4 => dig_ne (dg i (by omega) (by omega)) (by decide))
      · exact Rd_skips (Rd_same RW (e2 16 (by decide) (by decide) (by decide)) (e3 70 (by decide) (by decide))) 5 (ne 87 (by decide) (by decide))
      · exact Rd_skips (Rd_same RD (e2 17 (by decide) (by decide) (by decide)) (e3 71 (by decide) (by decide))) 5 (ne 68 (by decide) (by decide))
    · obtain ⟨N, c1, s1, F1, r1⟩ := c_X7_readPart_W hS hp hf ha hX hc RW.1 hlt hB
      refine ⟨N, p + 3, c1, s1, by omega, F1, fun z => ?_⟩
      obtain ⟨dg, e1, e2, e3, e4, e5⟩ := r1 z
      have ne : ∀ c : Int32, ¬ sz c = 0 → ¬ c = 87 → ∀ i, p ≤ i → i < p + 3 → ¬ l i = c := fun c h1 h2 i h3 h4 q => by
        by_cases e : i = p
        · subst e; exact h2 (q.symm.trans hc)
        · exact dig_ne (dg i (by omega) h4) h1 q
      refine ⟨?_, ?_, ?_⟩
      · exact Rd_skips (Rd_same RN (e2 15 (by decide) (by decide) (by decide)) (e3 69 (by decide) (by decide))) 3 (ne 78 (by decide) (by decide))
      · exact Rd_skips (p := p + 1) (Rd_new RW h1 hc e1 e4 e5) 2 (fun i h3 h4 => dig_ne (dg i (by omega) (by omega)) (by decide))
      · exact Rd_skips (Rd_same RD (e2 17 (by decide) (by decide) (by decide)) (e3 71 (by decide) (by decide))) 3 (ne 68 (by decide) (by decide))
    · obtain ⟨N, c1, s1, F1, r1⟩ := c_X7_readPart_D hS hp hf ha hX hc RD.1 hlt hB
      refine ⟨N, p + 3, c1, s1, by omega, F1, fun z => ?_⟩
      obtain ⟨dg, e1, e2, e3, e4, e5⟩ := r1 z
      have ne : ∀ c : Int32, ¬ sz c = 0 → ¬ c = 68 → ∀ i, p ≤ i → i < p + 3 → ¬ l i = c := fun c h1 h2 i h3 h4 q => by
        by_cases e : i = p
        · subst e; exact h2 (q.symm.trans hc)
        · exact dig_ne (dg i (by omega) h4) h1 q
      refine ⟨?_, ?_, ?_⟩
      · exact Rd_skips (Rd_same RN (e2 15 (by decide) (by decide) (by decide)) (e3 69 (by decide) (by decide))) 3 (ne 78 (by decide) (by decide))
      · exact Rd_skips (Rd_same RW (e2 16 (by decide) (by decide) (by decide)) (e3 70 (by decide) (by decide))) 3 (ne 87 (by decide) (by decide))
      · exact Rd_skips (p := p + 1) (Rd_new RD h1 hc e1 e4 e5) 2 (fun i h3 h4 => dig_ne (dg i (by omega) (by omega)) (by decide))
  · have hB : okB l p = false := by cases e : okB l p <;> simp_all
    have c1 := c_X7_readPart_X hS.2.1 hp ha RN.1 RW.1 RD.1 hB
    refine ⟨_, p + 1, c1, Sr.fld _ (by omega), by omega, Or.inr ⟨p, by omega, zs_1 _ _ _ _, by rw [hX, scn_b hp, if_pos hB]⟩, fun z => ?_⟩
    rw [zs_1] at z
    have hn := hS.2.1
    exact absurd z (nI_m9 (by omega))
set_option maxRecDepth 100000 in
set_option maxHeartbeats 400000 in
theorem s_X7_readText_51 {l : Nat → Int32} {n : Nat} {X : Int32} : ∀ (f p : Nat) (M : z_Mem), n - p < f → 1 ≤ p → SN M l n → FS M l n X p p → (M.1 59 21 = -9 → RdM M l n p) → ∃ M2, z_Sm mX7_readText (some (.int X)) M2 51 [some (.ref 59)] [] M ∧ Sr M M2 ∧ (X = -9 → RdM M2 l n n) := by
  intro f
  induction f with
  | zero =>
    intro p M hf h1 hS hF hR
    exact absurd hf (Nat.not_lt_zero _)
  | succ f ih =>
    intro p M hf h1 hS hF hR
    have hn6 := hS.2.1
    rcases hF with ⟨f1, f2, f3, f4⟩ | ⟨x, f1, f2, f3⟩
    · by_cases hp : p < n
      · obtain ⟨N, p2, c1, s1, hp2, F1, r1⟩ := c_X7_readPart hS h1 hp f1 f2 f4 (hR f1)
        obtain ⟨M2, k2, s2, r2⟩ := ih p2 N (by omega) (by omega) (s1.sn hS) F1 r1
        refine ⟨M2, ?_, s1.tr s2, r2⟩
        have et : M.1 72 p = l p := hS.2.2 p hp
        refine z_aload_n (pc := 51) dX7_readText_51 rfl ?_
        refine z_getI (pc := 52) q_fX7_78 z_s59 rfl dX7_readText_52 ?_
        refine z_bipush (pc := 55) (v := (-9)) dX7_readText_55 (by decide) ?_
        refine z_icmp_ne (pc := 57) (tgt := 87) dX7_readText_57 (by decide) (fun h57 => ?_) (fun h57 => ?_)
        · exact absurd f1 h57
        · refine z_aload_n (pc := 60) dX7_readText_60 rfl ?_
          refine z_getI (pc := 61) q_fX7_81 z_s59 rfl dX7_readText_61 ?_
          refine z_aload_n (pc := 64) dX7_readText_64 rfl ?_
          refine z_getI (pc := 65) q_fX7_74 z_s59 rfl dX7_readText_65 ?_
          refine z_icmp_ge (pc := 68) (tgt := 87) dX7_readText_68 (by decide) (fun h68 => ?_) (fun h68 => ?_)
          · exact absurd (z_ge h68 f2 hS.1 (by omega) (by omega)) (by omega)
          · refine z_aload_n (pc := 71) dX7_readText_71 rfl ?_
            refine z_aload_n (pc := 72) dX7_readText_72 rfl ?_
            refine z_getR (pc := 73) 72 q_fX7_46 z_s59 rfl dX7_readText_73 ?_
            refine z_aload_n (pc := 76) dX7_readText_76 rfl ?_
            refine z_getI (pc := 77) q_fX7_81 z_s59 rfl dX7_readText_77 ?_
            refine z_iald (pc := 80) (p) z_s72 ⟨f2, by omega⟩ dX7_readText_80 ?_
            rw [et]
            refine z_cV1v (pc := 81) c1 (q_cX7_93 _ (by decide)) z_s59 rfl rfl dX7_readText_81 ?_
            refine z_goto (pc := 84) (tgt := 51) dX7_readText_84 (by decide) ?_
            exact k2
      · obtain rfl : p = n := by omega
        rw [Nat.sub_self, scn, if_pos rfl] at f4
        refine ⟨M, ?_, Sr.rf, fun _ => hR f1⟩
        refine z_aload_n (pc := 51) dX7_readText_51 rfl ?_
        refine z_getI (pc := 52) q_fX7_78 z_s59 rfl dX7_readText_52 ?_
        refine z_bipush (pc := 55) (v := (-9)) dX7_readText_55 (by decide) ?_
        refine z_icmp_ne (pc := 57) (tgt := 87) dX7_readText_57 (by decide) (fun h57 => ?_) (fun h57 => ?_)
        · exact absurd f1 h57
        · refine z_aload_n (pc := 60) dX7_readText_60 rfl ?_
          refine z_getI (pc := 61) q_fX7_81 z_s59 rfl dX7_readText_61 ?_
          refine z_aload_n (pc := 64) dX7_readText_64 rfl ?_
          refine z_getI (pc := 65) q_fX7_74 z_s59 rfl dX7_readText_65 ?_
          refine z_icmp_ge (pc := 68) (tgt := 87) dX7_readText_68 (by decide) (fun h68 => ?_) (fun h68 => ?_)
          · refine z_aload_n (pc := 87) dX7_readText_87 rfl ?_
            refine z_getI (pc := 88) q_fX7_78 z_s59 rfl dX7_readText_88 ?_
            refine z_iret (pc := 91) rfl dX7_readText_91 ?_ ?_
            · rw [f1, f4]
            · rfl
          · exact absurd (z_lt h68 f2 hS.1 (by omega) (by omega)) (by omega)
    · refine ⟨M, ?_, Sr.rf, fun q => absurd (f3.symm.trans q) (nI_m9 (by omega))⟩
      refine z_aload_n (pc := 51) dX7_readText_51 rfl ?_
      refine z_getI (pc := 52) q_fX7_78 z_s59 rfl dX7_readText_52 ?_
      refine z_bipush (pc := 55) (v := (-9)) dX7_readText_55 (by decide) ?_
      refine z_icmp_ne (pc := 57) (tgt := 87) dX7_readText_57 (by decide) (fun h57 => ?_) (fun h57 => ?_)
      · refine z_aload_n (pc := 87) dX7_readText_87 rfl ?_
        refine z_getI (pc := 88) q_fX7_78 z_s59 rfl dX7_readText_88 ?_
        refine z_iret (pc := 91) rfl dX7_readText_91 ?_ ?_
        · rw [f2, f3]
        · rfl
      · exact absurd (f2.symm.trans h57) (nI_m9 (by omega))
set_option maxRecDepth 100000 in
set_option maxHeartbeats 400000 in
theorem c_X7_readText {M : z_Mem} {l : Nat → Int32} {n : Nat} (hS : SN M l n) : ∃ M1, z_Ct mX7_readText [.ref 59] M (some (.int (faF l n))) M1 ∧ Sr M M1 ∧ (faF l n = -9 → RdM M1 l n n) := by
  have hn6 := hS.2.1
  have s5 : Sr M (z_set (z_set (z_set (z_set (z_set M 59 20 0) 59 21 (-9)) 59 15 0) 59 16 0) 59 17 0) := ((((Sr.fld _ (by omega)).tr (Sr.fld _ (by omega))).tr (Sr.fld _ (by omega))).tr (Sr.fld _ (by omega))).tr (Sr.fld _ (by omega))
  have e21 : (z_set (z_set (z_set (z_set (z_set M 59 20 0) 59 21 (-9)) 59 15 0) 59 16 0) 59 17 0).1 59 21 = -9 := by
    rw [z_set, z_row_1, upd_n _ _ (by decide), z_set, z_row_1, upd_n _ _ (by decide), z_set, z_row_1, upd_n _ _ (by decide), zs_1]
  have e15 : (z_set (z_set (z_set (z_set (z_set M 59 20 0) 59 21 (-9)) 59 15 0) 59 16 0) 59 17 0).1 59 15 = 0 := by
    rw [z_set, z_row_1, upd_n _ _ (by decide), z_set, z_row_1, upd_n _ _ (by decide), zs_1]
  have e16 : (z_set (z_set (z_set (z_set (z_set M 59 20 0) 59 21 (-9)) 59 15 0) 59 16 0) 59 17 0).1 59 16 = 0 := by
    rw [z_set, z_row_1, upd_n _ _ (by decide), zs_1]
  have e17 : (z_set (z_set (z_set (z_set (z_set M 59 20 0) 59 21 (-9)) 59 15 0) 59 16 0) 59 17 0).1 59 17 = 0 := zs_1 _ _ _ _
  generalize hM5 : z_set (z_set (z_set (z_set (z_set M 59 20 0) 59 21 (-9)) 59 15 0) 59 16 0) 59 17 0 = M5 at s5 e21 e15 e16 e17
  have S5 := s5.sn hS
  have hd : ∀ (M2 : z_Mem) (r : Option Value), z_Sm mX7_readText r M2 26 [some (.ref 59)] [] M5 → z_Sm mX7_readText r M2 0 [some (.ref 59)] [] M := fun M2 r kk => by
    refine z_aload_n (pc := 0) dX7_readText_0 rfl ?_
    refine z_iconst (pc := 1) (v := 0) dX7_readText_1 (by decide) ?_
    refine z_putI (pc := 2) q_fX7_81 q_p7_20 z_s59 rfl dX7_readText_2 ?_
    refine z_aload_n (pc := 5) dX7_readText_5 rfl ?_
    refine z_bipush (pc := 6) (v := (-9)) dX7_readText_6 (by decide) ?_
    refine z_putI (pc := 8) q_fX7_78 q_p7_21 z_s59 rfl dX7_readText_8 ?_
    refine z_aload_n (pc := 11) dX7_readText_11 rfl ?_
    refine z_iconst (pc := 12) (v := 0) dX7_readText_12 (by decide) ?_
    refine z_putI (pc := 13) q_fX7_84 q_p7_15 z_s59 rfl dX7_readText_13 ?_
    refine z_aload_n (pc := 16) dX7_readText_16 rfl ?_
    refine z_iconst (pc := 17) (v := 0) dX7_readText_17 (by decide) ?_
    refine z_putI (pc := 18) q_fX7_87 q_p7_16 z_s59 rfl dX7_readText_18 ?_
    refine z_aload_n (pc := 21) dX7_readText_21 rfl ?_
    refine z_iconst (pc := 22) (v := 0) dX7_readText_22 (by decide) ?_
    refine z_putI (pc := 23) q_fX7_90 q_p7_17 z_s59 rfl dX7_readText_23 ?_
    rw [hM5]
    exact kk
  by_cases hn0 : n = 0
  · refine ⟨M5, ?_, s5, fun q => by rw [faF, if_pos hn0] at q; exact absurd q (by decide)⟩
    rw [faF, if_pos hn0]
    refine z_entry (by decide +kernel) (Nat.le_of_ble_eq_true rfl) rfl ?_
    show z_Sm mX7_readText _ _ 0 [some (.ref 59)] [] M
    refine hd _ _ ?_
    refine z_aload_n (pc := 26) dX7_readText_26 rfl ?_
    refine z_getI (pc := 27) q_fX7_74 z_s59 rfl dX7_readText_27 ?_
    refine z_if_eq (pc := 30) (tgt := 44) dX7_readText_30 (by decide) (fun h30 => ?_) (fun h30 => ?_)
    · refine z_iconst (pc := 44) (v := 0) dX7_readText_44 (by decide) ?_
      refine z_iret (pc := 45) rfl dX7_readText_45 ?_ ?_
      · rfl
      · rfl
    · exact absurd (show M5.1 59 19 = 0 by rw [S5.1, hn0]; rfl) h30
  · have e0 : M5.1 72 0 = l 0 := S5.2.2 0 (by omega)
    have hl : ¬ M5.1 59 19 = 0 := fun q => hn0 ((nI0 (by omega)).mp (S5.1.symm.trans q))
    by_cases h83 : l 0 = 83
    · have ef : faF l n = scn l n (n - 1) 1 1 := by rw [faF, if_neg hn0, if_pos h83]
      have s6 : Sr M5 (z_set M5 59 20 1) := Sr.fld _ (by omega)
      have F6 : FS (z_set M5 59 20 1) l n (faF l n) 1 1 := Or.inl ⟨by rw [z_set, z_row_1, upd_n _ _ (by decide)]; exact e21, zs_1 _ _ _ _, by omega, ef⟩
      have R6 : RdM (z_set M5 59 20 1) l n 1 := ⟨⟨by rw [z_set, z_row_1, upd_n _ _ (by decide)]; exact e15, fun k hk => absurd hk (Nat.not_lt_zero k)⟩, ⟨by rw [z_set, z_row_1, upd_n _ _ (by decide)]; exact e16, fun k hk => absurd hk (Nat.not_lt_zero k)⟩, ⟨by rw [z_set, z_row_1, upd_n _ _ (by decide)]; exact e17, fun k hk => absurd hk (Nat.not_lt_zero k)⟩⟩
      obtain ⟨M2, k2, s2, r2⟩ := s_X7_readText_51 n 1 _ (by omega) (Nat.le_refl _) (s6.sn S5) F6 (fun _ => R6)
      refine ⟨M2, ?_, (s5.tr s6).tr s2, r2⟩
      refine z_entry (by decide +kernel) (Nat.le_of_ble_eq_true rfl) rfl ?_
      show z_Sm mX7_readText _ _ 0 [some (.ref 59)] [] M
      refine hd _ _ ?_
      refine z_aload_n (pc := 26) dX7_readText_26 rfl ?_
      refine z_getI (pc := 27) q_fX7_74 z_s59 rfl dX7_readText_27 ?_
      refine z_if_eq (pc := 30) (tgt := 44) dX7_readText_30 (by decide) (fun h30 => ?_) (fun h30 => ?_)
      · exact absurd h30 hl
      · refine z_aload_n (pc := 33) dX7_readText_33 rfl ?_
        refine z_getR (pc := 34) 72 q_fX7_46 z_s59 rfl dX7_readText_34 ?_
        refine z_iconst (pc := 37) (v := 0) dX7_readText_37 (by decide) ?_
        refine z_iald (pc := 38) (0) z_s72 ⟨rfl, by omega⟩ dX7_readText_38 ?_
        refine z_bipush (pc := 39) (v := 83) dX7_readText_39 (by decide) ?_
        refine z_icmp_eq (pc := 41) (tgt := 46) dX7_readText_41 (by decide) (fun h41 => ?_) (fun h41 => ?_)
        · refine z_aload_n (pc := 46) dX7_readText_46 rfl ?_
          refine z_iconst (pc := 47) (v := 1) dX7_readText_47 (by decide) ?_
          refine z_putI (pc := 48) q_fX7_81 q_p7_20 z_s59 rfl dX7_readText_48 ?_
          exact k2
        · exact absurd (e0.trans h83) h41
    · have ef : faF l n = 0 := by rw [faF, if_neg hn0, if_neg h83]
      refine ⟨M5, ?_, s5, fun q => by rw [ef] at q; exact absurd q (by decide)⟩
      rw [ef]
      refine z_entry (by decide +kernel) (Nat.le_of_ble_eq_true rfl) rfl ?_
      show z_Sm mX7_readText _ _ 0 [some (.ref 59)] [] M
      refine hd _ _ ?_
      refine z_aload_n (pc := 26) dX7_readText_26 rfl ?_
      refine z_getI (pc := 27) q_fX7_74 z_s59 rfl dX7_readText_27 ?_
      refine z_if_eq (pc := 30) (tgt := 44) dX7_readText_30 (by decide) (fun h30 => ?_) (fun h30 => ?_)
      · exact absurd h30 hl
      · refine z_aload_n (pc := 33) dX7_readText_33 rfl ?_
        refine z_getR (pc := 34) 72 q_fX7_46 z_s59 rfl dX7_readText_34 ?_
        refine z_iconst (pc := 37) (v := 0) dX7_readText_37 (by decide) ?_
        refine z_iald (pc := 38) (0) z_s72 ⟨rfl, by omega⟩ dX7_readText_38 ?_
        refine z_bipush (pc := 39) (v := 83) dX7_readText_39 (by decide) ?_
        refine z_icmp_eq (pc := 41) (tgt := 46) dX7_readText_41 (by decide) (fun h41 => ?_) (fun h41 => ?_)
        · exact absurd (e0.symm.trans h41) h83
        · refine z_iconst (pc := 44) (v := 0) dX7_readText_44 (by decide) ?_
          refine z_iret (pc := 45) rfl dX7_readText_45 ?_ ?_
          · rfl
          · rfl
set_option maxRecDepth 100000 in
set_option maxHeartbeats 400000 in
theorem o_X7_fault {M : z_Mem} {l : Nat → Int32} {n : Nat} {T : TT} {U : UT} {D : DT} {p : PLt} {A : List PLt} {k0 k1 : Option PLt} {L : List (Int32 × Int32)} {sd : Int64} (hR : RM M l n T U D p A k0 k1 L sd) : ∃ M1, z_Ct mX7_fault [.ref 59] M (some (.int (faF l n))) M1 ∧ RM M1 l n T U D p A k0 k1 L sd ∧ Fm M M1 := by
  obtain ⟨rS, rT, rU, rD, rp, rA, r0, r1, rL, rs⟩ := id hR
  obtain ⟨M1, c1, s1, -⟩ := c_X7_readText rS
  have h := RM_sk hR s1.sk (s1.sn rS) (LN_cong rL (s1.2.1 26 (by decide)) (s1.1 75 (by decide) (by decide)) (s1.1 76 (by decide) (by decide)))
  refine ⟨M1, ?_, h.1, h.2⟩
  refine z_entry (by decide +kernel) (Nat.le_of_ble_eq_true rfl) rfl ?_
  show z_Sm mX7_fault _ _ 0 [some (.ref 59)] [] M
  refine z_aload_n (pc := 0) dX7_fault_0 rfl ?_
  refine z_cV0 (pc := 1) c1 (q_cX7_101 _ (by decide)) z_s59 rfl rfl dX7_fault_1 ?_
  refine z_iret (pc := 4) rfl dX7_fault_4 ?_ ?_
  · rfl
  · rfl
