/-! ===== the text: letters l, n of them ===== -/
def ScAt (M : z_Mem) (l : Nat → Int32) (n : Nat) : Prop := M.1 1 1 = nI n ∧ n ≤ 60 ∧ ∀ i, i < n → M.1 2 i = l i
theorem ScAt_sb {ids : List Nat} {M N : z_Mem} {l : Nat → Int32} {n : Nat} (h : ScAt M l n) (s : Sb ids M N) (h1 : 1 ∉ ids) (h2 : 2 ∉ ids) : ScAt N l n := by
  unfold ScAt
  rw [s.1 1 h1, s.1 2 h2]
  exact h
/-- the figure at a place, -1 where there is none -/
def fg (l : Nat → Int32) (n p : Nat) : Int32 := if n ≤ p then -1 else if l p < 48 then -1 else if 57 < l p then -1 else l p - 48
def sz (c : Int32) : Nat := if c = 78 then 5 else if c = 87 then 3 else if c = 68 then 3 else 0
def mo (c : Int32) : Nat := if c = 78 then 7 else if c = 87 then 4 else 3
/-- how many letters c stand in places 1 .. p - 1 -/
def cN (l : Nat → Int32) (c : Int32) : Nat → Nat
  | 0 => 0
  | p + 1 => cN l c p + (if 1 ≤ p ∧ l p = c then 1 else 0)
theorem cN_le (l : Nat → Int32) (c : Int32) : ∀ p, cN l c p ≤ p
  | 0 => Nat.le_refl 0
  | p + 1 => by
    have := cN_le l c p
    unfold cN
    split <;> omega
theorem cN_no {l : Nat → Int32} {c : Int32} {p : Nat} (h : ¬ l p = c) : cN l c (p + 1) = cN l c p := by rw [cN, if_neg (fun q => h q.2), Nat.add_zero]
theorem cN_yes {l : Nat → Int32} {c : Int32} {p : Nat} (h1 : 1 ≤ p) (h : l p = c) : cN l c (p + 1) = cN l c p + 1 := by rw [cN, if_pos ⟨h1, h⟩]
def okB (l : Nat → Int32) (p : Nat) : Bool := if sz (l p) = 0 then false else decide (cN l (l p) p < mo (l p))
def okG (l : Nat → Int32) (n s p : Nat) : Bool :=
  if fg l n p < 0 then false
  else if p = s + 1 then decide (fg l n p < 6)
  else if p = s + 2 then (if l s = 87 then true else if fg l n p < 6 then decide (¬ fg l n p = fg l n (s + 1)) else false)
  else if p = s + 3 then true
  else decide (fg l n p ≤ 3)
def scn (l : Nat → Int32) (n : Nat) : Nat → Nat → Nat → Int32
  | 0, _, s => if s = n then -9 else nI n
  | f + 1, p, s => if (if p = s then okB l p else okG l n s p) = false then nI p else if p - s + 1 = sz (l s) then scn l n f (p + 1) (p + 1) else scn l n f (p + 1) s
def faF (l : Nat → Int32) (n : Nat) : Int32 := if n = 0 then 0 else if l 0 = 83 then scn l n (n - 1) 1 1 else 0
set_option maxRecDepth 100000 in
set_option maxHeartbeats 400000 in
theorem c_X3_add {M : z_Mem} {l : Nat → Int32} {n : Nat} (hS : ScAt M l n) (hn : n < 60) {x : Int32} : ∃ M1, z_Ct mX3_add [.ref 1, .int x] M none M1 ∧ ScAt M1 (upd l n x) (n + 1) ∧ Sb [1, 2] M M1 := by
  obtain ⟨h1, h2, h3⟩ := hS
  have e5 : (z_set M 2 n x).1 1 1 = nI n := by rw [z_set, z_row_n _ _ (by decide)]; exact h1
  refine ⟨z_set (z_set M 2 n x) 1 1 (nI (n + 1)), ?_, ⟨?_, by omega, fun i hi => ?_⟩, (Sb.set _ (by simp)).tr (Sb.set _ (by simp))⟩
  · refine z_entry (by decide +kernel) (Nat.le_of_ble_eq_true rfl) rfl ?_
    show z_Sm mX3_add _ _ 0 [some (.ref 1), some (.int x)] [] M
    refine z_aload_n (pc := 0) dX3_add_0 rfl ?_
    refine z_getI (pc := 1) q_fX3_15 z_s1 rfl dX3_add_1 ?_
    refine z_if_lt (pc := 4) (tgt := 36) dX3_add_4 (by decide) (fun h4 => ?_) (fun h4 => ?_)
    · exact absurd h4 (by rw [h1]; exact nI_pos (by omega))
    · refine z_aload_n (pc := 7) dX3_add_7 rfl ?_
      refine z_getI (pc := 8) q_fX3_15 z_s1 rfl dX3_add_8 ?_
      refine z_bipush (pc := 11) (v := 60) dX3_add_11 (by decide) ?_
      refine z_icmp_ge (pc := 13) (tgt := 36) dX3_add_13 (by decide) (fun h13 => ?_) (fun h13 => ?_)
      · exact absurd h13 (by rw [h1]; exact nI_ge (b := 60) hn (by decide))
      · refine z_aload_n (pc := 16) dX3_add_16 rfl ?_
        refine z_getR (pc := 17) 2 q_fX3_9 z_s1 rfl dX3_add_17 ?_
        refine z_aload_n (pc := 20) dX3_add_20 rfl ?_
        refine z_getI (pc := 21) q_fX3_15 z_s1 rfl dX3_add_21 ?_
        refine z_iload_n (pc := 24) dX3_add_24 rfl ?_
        refine z_iast (pc := 25) (n) z_s2 ⟨h1, hn, by decide⟩ dX3_add_25 ?_
        refine z_aload_n (pc := 26) dX3_add_26 rfl ?_
        refine z_dup (pc := 27) dX3_add_27 rfl ?_
        refine z_getI (pc := 28) q_fX3_15 z_s1 rfl dX3_add_28 ?_
        refine z_iconst (pc := 31) (v := 1) dX3_add_31 (by decide) ?_
        refine z_iadd (pc := 32) dX3_add_32 ?_
        refine z_putI (pc := 33) q_fX3_15 q_p3_1 z_s1 rfl dX3_add_33 ?_
        refine z_vret (pc := 36) rfl dX3_add_36 ?_
        rw [e5, nI_succ]
  · rw [z_set, z_row_1, upd_1]
  · rw [z_set, z_row_n _ _ (by decide), z_set, z_row_1]
    show (if i = n then x else M.1 2 i) = if i = n then x else l i
    split
    · rfl
    · exact h3 i (by omega)
set_option maxRecDepth 100000 in
set_option maxHeartbeats 400000 in
theorem c_X3_figure {M : z_Mem} {l : Nat → Int32} {n : Nat} (hS : ScAt M l n) {x : Int32} {p : Nat} (hx : x = nI p) (hp : p < 2 ^ 20) : z_Ct mX3_figure [.ref 1, .int x] M (some (.int (fg l n p))) M := by
  obtain ⟨g1, g2, g3⟩ := hS
  refine z_entry (by decide +kernel) (Nat.le_of_ble_eq_true rfl) rfl ?_
  show z_Sm mX3_figure _ _ 0 [some (.ref 1), some (.int x), none] [] M
  refine z_iload_n (pc := 0) dX3_figure_0 rfl ?_
  refine z_if_lt (pc := 1) (tgt := 12) dX3_figure_1 (by decide) (fun h1 => ?_) (fun h1 => ?_)
  · exact absurd h1 (by rw [hx]; exact nI_pos (by omega))
  · refine z_iload_n (pc := 4) dX3_figure_4 rfl ?_
    refine z_aload_n (pc := 5) dX3_figure_5 rfl ?_
    refine z_getI (pc := 6) q_fX3_15 z_s1 rfl dX3_figure_6 ?_
    refine z_icmp_lt (pc := 9) (tgt := 14) dX3_figure_9 (by decide) (fun h9 => ?_) (fun h9 => ?_)
    · have hlt : p < n := by rw [hx, g1] at h9; exact (nI_ltI (by omega) (by omega)).mp h9
      refine z_aload_n (pc := 14) dX3_figure_14 rfl ?_
      refine z_getR (pc := 15) 2 q_fX3_9 z_s1 rfl dX3_figure_15 ?_
      refine z_iload_n (pc := 18) dX3_figure_18 rfl ?_
      refine z_iald (pc := 19) (p) z_s2 ⟨hx, by omega, by decide⟩ dX3_figure_19 ?_
      refine z_istore_n (pc := 20) dX3_figure_20 rfl (by decide) ?_
      refine z_iload_n (pc := 21) dX3_figure_21 rfl ?_
      refine z_bipush (pc := 22) (v := 48) dX3_figure_22 (by decide) ?_
      refine z_icmp_lt (pc := 24) (tgt := 40) dX3_figure_24 (by decide) (fun h24 => ?_) (fun h24 => ?_)
      · refine z_iconst (pc := 40) (v := (-1)) dX3_figure_40 (by decide) ?_
        refine z_iret (pc := 41) rfl dX3_figure_41 ?_ ?_
        · rw [g3 p hlt] at h24
          rw [fg, if_neg (by omega), if_pos h24]
        · rfl
      · refine z_iload_n (pc := 27) dX3_figure_27 rfl ?_
        refine z_bipush (pc := 28) (v := 57) dX3_figure_28 (by decide) ?_
        refine z_icmp_gt (pc := 30) (tgt := 40) dX3_figure_30 (by decide) (fun h30 => ?_) (fun h30 => ?_)
        · refine z_iconst (pc := 40) (v := (-1)) dX3_figure_40 (by decide) ?_
          refine z_iret (pc := 41) rfl dX3_figure_41 ?_ ?_
          · rw [g3 p hlt] at h24 h30
            rw [fg, if_neg (by omega), if_neg h24, if_pos h30]
          · rfl
        · refine z_iload_n (pc := 33) dX3_figure_33 rfl ?_
          refine z_bipush (pc := 34) (v := 48) dX3_figure_34 (by decide) ?_
          refine z_isub (pc := 36) dX3_figure_36 ?_
          refine z_goto (pc := 37) (tgt := 41) dX3_figure_37 (by decide) ?_
          refine z_iret (pc := 41) rfl dX3_figure_41 ?_ ?_
          · rw [g3 p hlt] at h24 h30
            rw [fg, if_neg (by omega), if_neg h24, if_neg h30, g3 p hlt]
          · rfl
    · refine z_iconst (pc := 12) (v := (-1)) dX3_figure_12 (by decide) ?_
      refine z_iret (pc := 13) rfl dX3_figure_13 ?_ ?_
      · have hp : n ≤ p := Nat.le_of_not_lt (fun q => h9 (by rw [hx, g1]; exact nI_lt q (by omega)))
        rw [fg, if_pos hp]
      · rfl
set_option maxRecDepth 100000 in
set_option maxHeartbeats 400000 in
theorem c_X3_sizeOfPart {M : z_Mem} {x : Int32} : z_Ct mX3_sizeOfPart [.int x] M (some (.int (nI (sz x)))) M := by
  refine z_entry (by decide +kernel) (Nat.le_of_ble_eq_true rfl) rfl ?_
  show z_Sm mX3_sizeOfPart _ _ 0 [some (.int x)] [] M
  refine z_iload_n (pc := 0) dX3_sizeOfPart_0 rfl ?_
  refine z_bipush (pc := 1) (v := 78) dX3_sizeOfPart_1 (by decide) ?_
  refine z_icmp_ne (pc := 3) (tgt := 8) dX3_sizeOfPart_3 (by decide) (fun h3 => ?_) (fun h3 => ?_)
  · refine z_iload_n (pc := 8) dX3_sizeOfPart_8 rfl ?_
    refine z_bipush (pc := 9) (v := 87) dX3_sizeOfPart_9 (by decide) ?_
    refine z_icmp_eq (pc := 11) (tgt := 20) dX3_sizeOfPart_11 (by decide) (fun h11 => ?_) (fun h11 => ?_)
    · refine z_iconst (pc := 20) (v := 3) dX3_sizeOfPart_20 (by decide) ?_
      refine z_goto (pc := 21) (tgt := 25) dX3_sizeOfPart_21 (by decide) ?_
      refine z_iret (pc := 25) rfl dX3_sizeOfPart_25 ?_ ?_
      · rw [sz, if_neg h3, if_pos h11]; rfl
      · rfl
    · refine z_iload_n (pc := 14) dX3_sizeOfPart_14 rfl ?_
      refine z_bipush (pc := 15) (v := 68) dX3_sizeOfPart_15 (by decide) ?_
      refine z_icmp_ne (pc := 17) (tgt := 24) dX3_sizeOfPart_17 (by decide) (fun h17 => ?_) (fun h17 => ?_)
      · refine z_iconst (pc := 24) (v := 0) dX3_sizeOfPart_24 (by decide) ?_
        refine z_iret (pc := 25) rfl dX3_sizeOfPart_25 ?_ ?_
        · rw [sz, if_neg h3, if_neg h11, if_neg h17]; rfl
        · rfl
      · refine z_iconst (pc := 20) (v := 3) dX3_sizeOfPart_20 (by decide) ?_
        refine z_goto (pc := 21) (tgt := 25) dX3_sizeOfPart_21 (by decide) ?_
        refine z_iret (pc := 25) rfl dX3_sizeOfPart_25 ?_ ?_
        · have e : x = 68 := by simpa using h17
          rw [sz, if_neg h3, if_neg h11, if_pos e]; rfl
        · rfl
  · refine z_iconst (pc := 6) (v := 5) dX3_sizeOfPart_6 (by decide) ?_
    refine z_iret (pc := 7) rfl dX3_sizeOfPart_7 ?_ ?_
    · have e : x = 78 := by simpa using h3
      rw [sz, if_pos e]; rfl
    · rfl
set_option maxRecDepth 100000 in
set_option maxHeartbeats 400000 in
theorem c_X3_mostOf {M : z_Mem} {x : Int32} : z_Ct mX3_mostOf [.int x] M (some (.int (nI (mo x)))) M := by
  refine z_entry (by decide +kernel) (Nat.le_of_ble_eq_true rfl) rfl ?_
  show z_Sm mX3_mostOf _ _ 0 [some (.int x)] [] M
  refine z_iload_n (pc := 0) dX3_mostOf_0 rfl ?_
  refine z_bipush (pc := 1) (v := 78) dX3_mostOf_1 (by decide) ?_
  refine z_icmp_ne (pc := 3) (tgt := 9) dX3_mostOf_3 (by decide) (fun h3 => ?_) (fun h3 => ?_)
  · refine z_iload_n (pc := 9) dX3_mostOf_9 rfl ?_
    refine z_bipush (pc := 10) (v := 87) dX3_mostOf_10 (by decide) ?_
    refine z_icmp_ne (pc := 12) (tgt := 19) dX3_mostOf_12 (by decide) (fun h12 => ?_) (fun h12 => ?_)
    · refine z_iconst (pc := 19) (v := 3) dX3_mostOf_19 (by decide) ?_
      refine z_iret (pc := 20) rfl dX3_mostOf_20 ?_ ?_
      · rw [mo, if_neg h3, if_neg h12]; rfl
      · rfl
    · refine z_iconst (pc := 15) (v := 4) dX3_mostOf_15 (by decide) ?_
      refine z_goto (pc := 16) (tgt := 20) dX3_mostOf_16 (by decide) ?_
      refine z_iret (pc := 20) rfl dX3_mostOf_20 ?_ ?_
      · have e : x = 87 := by simpa using h12
        rw [mo, if_neg h3, if_pos e]; rfl
      · rfl
  · refine z_bipush (pc := 6) (v := 7) dX3_mostOf_6 (by decide) ?_
    refine z_iret (pc := 8) rfl dX3_mostOf_8 ?_ ?_
    · have e : x = 78 := by simpa using h3
      rw [mo, if_pos e]; rfl
    · rfl
theorem sz_le (c : Int32) : sz c ≤ 5 := by unfold sz; split <;> (try split) <;> (try split) <;> decide
theorem mo_le (c : Int32) : mo c ≤ 7 := by unfold mo; split <;> (try split) <;> decide
theorem nI0 {x : Nat} (hx : x < 2 ^ 31) : nI x = 0 ↔ x = 0 := nI_eq (b := 0) hx (by decide)
set_option maxRecDepth 100000 in
set_option maxHeartbeats 400000 in
theorem s_X3_canBegin_21 {M M2 : z_Mem} {r : Option Value} {l : Nat → Int32} {n : Nat} (hS : ScAt M l n) {x c : Int32} {p : Nat} (hx : x = nI p) (hp1 : 1 ≤ p) (hp : p < n) (kk : z_Sm mX3_canBegin r M2 52 [some (.ref 1), some (.int x), some (.int c), some (.int (nI (cN l c ((p - 1) + 1)))), none] [] (M)) (j : Nat) (hj : j ≤ p - 1) (ij : Int32) (v : Int32) (h2 : ij = nI (j + 1)) (hv_v : v = nI (cN l c (j + 1))) : z_Sm mX3_canBegin r M2 21 [some (.ref 1), some (.int x), some (.int c), some (.int v), some (.int ij)] [] M := by
  obtain ⟨h1, hn60, h3⟩ := hS
  have hxb : x = nI p := hx
  refine z_iload (pc := 21) dX3_canBegin_21 rfl ?_
  refine z_iload_n (pc := 23) dX3_canBegin_23 rfl ?_
  refine z_icmp_ge (pc := 24) (tgt := 52) dX3_canBegin_24 (by decide) (fun h24 => ?_) (fun h24 => ?_)
  · have hNj : p - 1 ≤ j := by
      have := z_ge h24 h2 hxb (by omega) (by omega)
      omega
    obtain rfl : j = p - 1 := by omega
    subst hv_v
    exact z_drop 4 kk
  · have hlt : j < p - 1 := by
      have := z_lt h24 h2 hxb (by omega) (by omega)
      omega
    refine z_iload_n (pc := 27) dX3_canBegin_27 rfl ?_
    refine z_aload_n (pc := 28) dX3_canBegin_28 rfl ?_
    refine z_getR (pc := 29) 2 q_fX3_9 z_s1 rfl dX3_canBegin_29 ?_
    refine z_iload (pc := 32) dX3_canBegin_32 rfl ?_
    refine z_iald (pc := 34) (j + 1) z_s2 ⟨h2, by omega, by decide⟩ dX3_canBegin_34 ?_
    refine z_iload_n (pc := 35) dX3_canBegin_35 rfl ?_
    refine z_icmp_ne (pc := 36) (tgt := 43) dX3_canBegin_36 (by decide) (fun h36 => ?_) (fun h36 => ?_)
    · refine z_iconst (pc := 43) (v := 0) dX3_canBegin_43 (by decide) ?_
      refine z_iadd (pc := 44) dX3_canBegin_44 ?_
      refine z_istore_n (pc := 45) dX3_canBegin_45 rfl (by decide) ?_
      refine z_iinc (pc := 46) dX3_canBegin_46 rfl rfl rfl (by decide) ?_
      refine z_goto (pc := 49) (tgt := 21) dX3_canBegin_49 (by decide) ?_
      rw [h3 _ (by omega)] at h36
      exact s_X3_canBegin_21 ⟨h1, hn60, h3⟩ hx hp1 hp kk (j + 1) hlt _ _ (z_n1 h2) (by rw [hv_v, cN_no h36, Int32.add_zero])
    · refine z_iconst (pc := 39) (v := 1) dX3_canBegin_39 (by decide) ?_
      refine z_goto (pc := 40) (tgt := 44) dX3_canBegin_40 (by decide) ?_
      refine z_iadd (pc := 44) dX3_canBegin_44 ?_
      refine z_istore_n (pc := 45) dX3_canBegin_45 rfl (by decide) ?_
      refine z_iinc (pc := 46) dX3_canBegin_46 rfl rfl rfl (by decide) ?_
      refine z_goto (pc := 49) (tgt := 21) dX3_canBegin_49 (by decide) ?_
      rw [h3 _ (by omega)] at h36
      have h36 : l (j + 1) = c := by simpa using h36
      exact s_X3_canBegin_21 ⟨h1, hn60, h3⟩ hx hp1 hp kk (j + 1) hlt _ _ (z_n1 h2) (by rw [hv_v, cN_yes (by omega) h36, nI_succ])
termination_by p - 1 - j
decreasing_by all_goals omega
set_option maxRecDepth 100000 in
set_option maxHeartbeats 400000 in
theorem c_X3_canBegin {M : z_Mem} {l : Nat → Int32} {n : Nat} (hS : ScAt M l n) {x : Int32} {p : Nat} (hx : x = nI p) (hp1 : 1 ≤ p) (hp : p < n) : z_Ct mX3_canBegin [.ref 1, .int x] M (some (.int (if okB l p then 1 else 0))) M := by
  have hn60 := hS.2.1
  have hlp := hS.2.2 p hp
  have hcl := cN_le l (l p) p
  have hml := mo_le (l p)
  have hsl := sz_le (l p)
  refine z_entry (by decide +kernel) (Nat.le_of_ble_eq_true rfl) rfl ?_
  show z_Sm mX3_canBegin _ _ 0 [some (.ref 1), some (.int x), none, none, none] [] M
  refine z_aload_n (pc := 0) dX3_canBegin_0 rfl ?_
  refine z_getR (pc := 1) 2 q_fX3_9 z_s1 rfl dX3_canBegin_1 ?_
  refine z_iload_n (pc := 4) dX3_canBegin_4 rfl ?_
  refine z_iald (pc := 5) (p) z_s2 ⟨hx, by omega, by decide⟩ dX3_canBegin_5 ?_
  refine z_istore_n (pc := 6) dX3_canBegin_6 rfl (by decide) ?_
  refine z_iload_n (pc := 7) dX3_canBegin_7 rfl ?_
  refine z_cS1 (pc := 8) c_X3_sizeOfPart (q_cX3_27 _ (by decide)) rfl dX3_canBegin_8 ?_
  refine z_if_ne (pc := 11) (tgt := 16) dX3_canBegin_11 (by decide) (fun h11 => ?_) (fun h11 => ?_)
  · refine z_iconst (pc := 16) (v := 0) dX3_canBegin_16 (by decide) ?_
    refine z_istore_n (pc := 17) dX3_canBegin_17 rfl (by decide) ?_
    refine z_iconst (pc := 18) (v := 1) dX3_canBegin_18 (by decide) ?_
    refine z_istore (pc := 19) dX3_canBegin_19 rfl (by decide) ?_
    rw [hlp] at h11 ⊢
    have h11 : ¬ sz (l p) = 0 := fun q => h11 ((nI0 (by omega)).mpr q)
    refine s_X3_canBegin_21 hS hx hp1 hp ?_ 0 (Nat.zero_le _) _ _ rfl rfl
    rw [show p - 1 + 1 = p by omega]
    refine z_iload_n (pc := 52) dX3_canBegin_52 rfl ?_
    refine z_iload_n (pc := 53) dX3_canBegin_53 rfl ?_
    refine z_cS1 (pc := 54) c_X3_mostOf (q_cX3_31 _ (by decide)) rfl dX3_canBegin_54 ?_
    refine z_icmp_ge (pc := 57) (tgt := 64) dX3_canBegin_57 (by decide) (fun h57 => ?_) (fun h57 => ?_)
    · refine z_iconst (pc := 64) (v := 0) dX3_canBegin_64 (by decide) ?_
      refine z_zret (pc := 65) rfl dX3_canBegin_65 ?_ ?_ ?_
      · rfl
      · rw [okB, if_neg h11, decide_eq_false (fun q => (Int32.not_lt.mpr h57) (nI_lt q (by omega)))]; rfl
      · rfl
    · refine z_iconst (pc := 60) (v := 1) dX3_canBegin_60 (by decide) ?_
      refine z_goto (pc := 61) (tgt := 65) dX3_canBegin_61 (by decide) ?_
      refine z_zret (pc := 65) rfl dX3_canBegin_65 ?_ ?_ ?_
      · rfl
      · rw [okB, if_neg h11, decide_eq_true ((nI_ltI (by omega) (by omega)).mp (Int32.not_le.mp h57))]; rfl
      · rfl
  · refine z_iconst (pc := 14) (v := 0) dX3_canBegin_14 (by decide) ?_
    refine z_zret (pc := 15) rfl dX3_canBegin_15 ?_ ?_ ?_
    · rfl
    · rw [hlp] at h11
      have h11 : sz (l p) = 0 := (nI0 (by omega)).mp (by simpa using h11)
      rw [okB, if_pos h11]; rfl
    · rfl
set_option maxRecDepth 100000 in
set_option maxHeartbeats 400000 in
theorem c_X3_canGoOn {M : z_Mem} {l : Nat → Int32} {n : Nat} (hS : ScAt M l n) {x y : Int32} {s p : Nat} (hx : x = nI s) (hy : y = nI p) (hsp : s < p) (hp : p < n) : z_Ct mX3_canGoOn [.ref 1, .int x, .int y] M (some (.int (if okG l n s p then 1 else 0))) M := by
  have hn60 := hS.2.1
  have hls := hS.2.2 s (by omega)
  have hsub : ∀ d, y - x = nI d → d < 100 → p = s + d := fun d hd hd2 => by
    rw [hx, hy, pk_sub (by omega)] at hd
    have := (nI_eq (by omega) (by omega)).mp hd
    omega
  refine z_entry (by decide +kernel) (Nat.le_of_ble_eq_true rfl) rfl ?_
  show z_Sm mX3_canGoOn _ _ 0 [some (.ref 1), some (.int x), some (.int y), none, none] [] M
  refine z_aload_n (pc := 0) dX3_canGoOn_0 rfl ?_
  refine z_iload_n (pc := 1) dX3_canGoOn_1 rfl ?_
  refine z_cV1 (pc := 2) (c_X3_figure hS hy (by omega)) (q_cX3_34 _ (by decide)) z_s1 rfl rfl dX3_canGoOn_2 ?_
  refine z_istore_n (pc := 5) dX3_canGoOn_5 rfl (by decide) ?_
  refine z_iload_n (pc := 6) dX3_canGoOn_6 rfl ?_
  refine z_if_ge (pc := 7) (tgt := 12) dX3_canGoOn_7 (by decide) (fun h7 => ?_) (fun h7 => ?_)
  · refine z_aload_n (pc := 12) dX3_canGoOn_12 rfl ?_
    refine z_getR (pc := 13) 2 q_fX3_9 z_s1 rfl dX3_canGoOn_13 ?_
    refine z_iload_n (pc := 16) dX3_canGoOn_16 rfl ?_
    refine z_iald (pc := 17) (s) z_s2 ⟨hx, by omega, by decide⟩ dX3_canGoOn_17 ?_
    refine z_bipush (pc := 18) (v := 87) dX3_canGoOn_18 (by decide) ?_
    refine z_icmp_ne (pc := 20) (tgt := 27) dX3_canGoOn_20 (by decide) (fun h20 => ?_) (fun h20 => ?_)
    · refine z_iconst (pc := 27) (v := 0) dX3_canGoOn_27 (by decide) ?_
      refine z_istore (pc := 28) dX3_canGoOn_28 rfl (by decide) ?_
      have hf : ¬ fg l n p < 0 := Int32.not_lt.mpr h7
      have hd : ∀ d, p = s + d → y - x = nI d := fun d hd => by rw [hx, hy, pk_sub (by omega)]; congr 1; omega
      have hne : ∀ d : Nat, ¬ y - x = nI d → ¬ p = s + d := fun d h q => h (hd d q)
      have hw : ¬ l s = 87 := by rw [hls] at h20; exact h20
      refine z_iload_n (pc := 30) dX3_canGoOn_30 rfl ?_
      refine z_iload_n (pc := 31) dX3_canGoOn_31 rfl ?_
      refine z_isub (pc := 32) dX3_canGoOn_32 ?_
      by_cases hs1 : y - x = 1
      · rw [hs1]
        refine z_tswIn (pc := 33) (off := 27) (tgt := 60) dX3_canGoOn_33 (by decide) (by decide) (by decide) (by decide) ?_
        refine z_iload_n (pc := 60) dX3_canGoOn_60 rfl ?_
        refine z_bipush (pc := 61) (v := 6) dX3_canGoOn_61 (by decide) ?_
        refine z_icmp_ge (pc := 63) (tgt := 70) dX3_canGoOn_63 (by decide) (fun h63 => ?_) (fun h63 => ?_)
        · refine z_iconst (pc := 70) (v := 0) dX3_canGoOn_70 (by decide) ?_
          refine z_zret (pc := 71) rfl dX3_canGoOn_71 ?_ ?_ ?_
          · rfl
          · have e := hsub 1 hs1 (by decide)
            rw [okG, if_neg hf, if_pos e, decide_eq_false (Int32.not_lt.mpr h63)]; rfl
          · rfl
        · refine z_iconst (pc := 66) (v := 1) dX3_canGoOn_66 (by decide) ?_
          refine z_goto (pc := 67) (tgt := 71) dX3_canGoOn_67 (by decide) ?_
          refine z_zret (pc := 71) rfl dX3_canGoOn_71 ?_ ?_ ?_
          · rfl
          · have e := hsub 1 hs1 (by decide)
            rw [okG, if_neg hf, if_pos e, decide_eq_true (Int32.not_le.mp h63)]; rfl
          · rfl
      by_cases hs2 : y - x = 2
      · rw [hs2]
        refine z_tswIn (pc := 33) (off := 39) (tgt := 72) dX3_canGoOn_33 (by decide) (by decide) (by decide) (by decide) ?_
        refine z_iload (pc := 72) dX3_canGoOn_72 rfl ?_
        refine z_if_ne (pc := 74) (tgt := 94) dX3_canGoOn_74 (by decide) (fun h74 => ?_) (fun h74 => ?_)
        · exact absurd rfl h74
        · refine z_iload_n (pc := 77) dX3_canGoOn_77 rfl ?_
          refine z_bipush (pc := 78) (v := 6) dX3_canGoOn_78 (by decide) ?_
          refine z_icmp_ge (pc := 80) (tgt := 98) dX3_canGoOn_80 (by decide) (fun h80 => ?_) (fun h80 => ?_)
          · refine z_iconst (pc := 98) (v := 0) dX3_canGoOn_98 (by decide) ?_
            refine z_zret (pc := 99) rfl dX3_canGoOn_99 ?_ ?_ ?_
            · rfl
            · have e := hsub 2 hs2 (by decide)
              rw [okG, if_neg hf, if_neg (show ¬ p = s + 1 by omega), if_pos e, if_neg hw, if_neg (Int32.not_lt.mpr h80)]; rfl
            · rfl
          · refine z_iload_n (pc := 83) dX3_canGoOn_83 rfl ?_
            refine z_aload_n (pc := 84) dX3_canGoOn_84 rfl ?_
            refine z_iload_n (pc := 85) dX3_canGoOn_85 rfl ?_
            refine z_iconst (pc := 86) (v := 1) dX3_canGoOn_86 (by decide) ?_
            refine z_iadd (pc := 87) dX3_canGoOn_87 ?_
            refine z_cV1 (pc := 88) (c_X3_figure hS (p := s + 1) (by rw [hx, ← nI_succ]) (by omega)) (q_cX3_34 _ (by decide)) z_s1 rfl rfl dX3_canGoOn_88 ?_
            refine z_icmp_eq (pc := 91) (tgt := 98) dX3_canGoOn_91 (by decide) (fun h91 => ?_) (fun h91 => ?_)
            · refine z_iconst (pc := 98) (v := 0) dX3_canGoOn_98 (by decide) ?_
              refine z_zret (pc := 99) rfl dX3_canGoOn_99 ?_ ?_ ?_
              · rfl
              · have e := hsub 2 hs2 (by decide)
                rw [okG, if_neg hf, if_neg (show ¬ p = s + 1 by omega), if_pos e, if_neg hw, if_pos (Int32.not_le.mp h80), decide_eq_false (fun q => q h91)]; rfl
              · rfl
            · refine z_iconst (pc := 94) (v := 1) dX3_canGoOn_94 (by decide) ?_
              refine z_goto (pc := 95) (tgt := 99) dX3_canGoOn_95 (by decide) ?_
              refine z_zret (pc := 99) rfl dX3_canGoOn_99 ?_ ?_ ?_
              · rfl
              · have e := hsub 2 hs2 (by decide)
                rw [okG, if_neg hf, if_neg (show ¬ p = s + 1 by omega), if_pos e, if_neg hw, if_pos (Int32.not_le.mp h80), decide_eq_true h91]; rfl
              · rfl
      by_cases hs3 : y - x = 3
      · rw [hs3]
        refine z_tswIn (pc := 33) (off := 67) (tgt := 100) dX3_canGoOn_33 (by decide) (by decide) (by decide) (by decide) ?_
        refine z_iconst (pc := 100) (v := 1) dX3_canGoOn_100 (by decide) ?_
        refine z_zret (pc := 101) rfl dX3_canGoOn_101 ?_ ?_ ?_
        · rfl
        · have e := hsub 3 hs3 (by decide)
          rw [okG, if_neg hf, if_neg (show ¬ p = s + 1 by omega), if_neg (show ¬ p = s + 2 by omega), if_pos e]; rfl
        · rfl
      have hn1 := hne 1 hs1
      have hn2 := hne 2 hs2
      have hn3 := hne 3 hs3
      refine z_tswOut (pc := 33) (tgt := 102) dX3_canGoOn_33 (z_sw1_3 hs1 hs2 hs3) (by decide) ?_
      refine z_iload_n (pc := 102) dX3_canGoOn_102 rfl ?_
      refine z_iconst (pc := 103) (v := 3) dX3_canGoOn_103 (by decide) ?_
      refine z_icmp_gt (pc := 104) (tgt := 111) dX3_canGoOn_104 (by decide) (fun h104 => ?_) (fun h104 => ?_)
      · refine z_iconst (pc := 111) (v := 0) dX3_canGoOn_111 (by decide) ?_
        refine z_zret (pc := 112) rfl dX3_canGoOn_112 ?_ ?_ ?_
        · rfl
        · rw [okG, if_neg hf, if_neg hn1, if_neg hn2, if_neg hn3, decide_eq_false (Int32.not_le.mpr h104)]; rfl
        · rfl
      · refine z_iconst (pc := 107) (v := 1) dX3_canGoOn_107 (by decide) ?_
        refine z_goto (pc := 108) (tgt := 112) dX3_canGoOn_108 (by decide) ?_
        refine z_zret (pc := 112) rfl dX3_canGoOn_112 ?_ ?_ ?_
        · rfl
        · rw [okG, if_neg hf, if_neg hn1, if_neg hn2, if_neg hn3, decide_eq_true (Int32.not_lt.mp h104)]; rfl
        · rfl
    · refine z_iconst (pc := 23) (v := 1) dX3_canGoOn_23 (by decide) ?_
      refine z_goto (pc := 24) (tgt := 28) dX3_canGoOn_24 (by decide) ?_
      refine z_istore (pc := 28) dX3_canGoOn_28 rfl (by decide) ?_
      have hf : ¬ fg l n p < 0 := Int32.not_lt.mpr h7
      have hd : ∀ d, p = s + d → y - x = nI d := fun d hd => by rw [hx, hy, pk_sub (by omega)]; congr 1; omega
      have hne : ∀ d : Nat, ¬ y - x = nI d → ¬ p = s + d := fun d h q => h (hd d q)
      have hw : l s = 87 := by rw [hls] at h20; simpa using h20
      refine z_iload_n (pc := 30) dX3_canGoOn_30 rfl ?_
      refine z_iload_n (pc := 31) dX3_canGoOn_31 rfl ?_
      refine z_isub (pc := 32) dX3_canGoOn_32 ?_
      by_cases hs1 : y - x = 1
      · rw [hs1]
        refine z_tswIn (pc := 33) (off := 27) (tgt := 60) dX3_canGoOn_33 (by decide) (by decide) (by decide) (by decide) ?_
        refine z_iload_n (pc := 60) dX3_canGoOn_60 rfl ?_
        refine z_bipush (pc := 61) (v := 6) dX3_canGoOn_61 (by decide) ?_
        refine z_icmp_ge (pc := 63) (tgt := 70) dX3_canGoOn_63 (by decide) (fun h63 => ?_) (fun h63 => ?_)
        · refine z_iconst (pc := 70) (v := 0) dX3_canGoOn_70 (by decide) ?_
          refine z_zret (pc := 71) rfl dX3_canGoOn_71 ?_ ?_ ?_
          · rfl
          · have e := hsub 1 hs1 (by decide)
            rw [okG, if_neg hf, if_pos e, decide_eq_false (Int32.not_lt.mpr h63)]; rfl
          · rfl
        · refine z_iconst (pc := 66) (v := 1) dX3_canGoOn_66 (by decide) ?_
          refine z_goto (pc := 67) (tgt := 71) dX3_canGoOn_67 (by decide) ?_
          refine z_zret (pc := 71) rfl dX3_canGoOn_71 ?_ ?_ ?_
          · rfl
          · have e := hsub 1 hs1 (by decide)
            rw [okG, if_neg hf, if_pos e, decide_eq_true (Int32.not_le.mp h63)]; rfl
          · rfl
      by_cases hs2 : y - x = 2
      · rw [hs2]
        refine z_tswIn (pc := 33) (off := 39) (tgt := 72) dX3_canGoOn_33 (by decide) (by decide) (by decide) (by decide) ?_
        refine z_iload (pc := 72) dX3_canGoOn_72 rfl ?_
        refine z_if_ne (pc := 74) (tgt := 94) dX3_canGoOn_74 (by decide) (fun h74 => ?_) (fun h74 => ?_)
        · refine z_iconst (pc := 94) (v := 1) dX3_canGoOn_94 (by decide) ?_
          refine z_goto (pc := 95) (tgt := 99) dX3_canGoOn_95 (by decide) ?_
          refine z_zret (pc := 99) rfl dX3_canGoOn_99 ?_ ?_ ?_
          · rfl
          · have e := hsub 2 hs2 (by decide)
            rw [okG, if_neg hf, if_neg (show ¬ p = s + 1 by omega), if_pos e, if_pos hw]; rfl
          · rfl
        · exact absurd h74 (by decide)
      by_cases hs3 : y - x = 3
      · rw [hs3]
        refine z_tswIn (pc := 33) (off := 67) (tgt := 100) dX3_canGoOn_33 (by decide) (by decide) (by decide) (by decide) ?_
        refine z_iconst (pc := 100) (v := 1) dX3_canGoOn_100 (by decide) ?_
        refine z_zret (pc := 101) rfl dX3_canGoOn_101 ?_ ?_ ?_
        · rfl
        · have e := hsub 3 hs3 (by decide)
          rw [okG, if_neg hf, if_neg (show ¬ p = s + 1 by omega), if_neg (show ¬ p = s + 2 by omega), if_pos e]; rfl
        · rfl
      have hn1 := hne 1 hs1
      have hn2 := hne 2 hs2
      have hn3 := hne 3 hs3
      refine z_tswOut (pc := 33) (tgt := 102) dX3_canGoOn_33 (z_sw1_3 hs1 hs2 hs3) (by decide) ?_
      refine z_iload_n (pc := 102) dX3_canGoOn_102 rfl ?_
      refine z_iconst (pc := 103) (v := 3) dX3_canGoOn_103 (by decide) ?_
      refine z_icmp_gt (pc := 104) (tgt := 111) dX3_canGoOn_104 (by decide) (fun h104 => ?_) (fun h104 => ?_)
      · refine z_iconst (pc := 111) (v := 0) dX3_canGoOn_111 (by decide) ?_
        refine z_zret (pc := 112) rfl dX3_canGoOn_112 ?_ ?_ ?_
        · rfl
        · rw [okG, if_neg hf, if_neg hn1, if_neg hn2, if_neg hn3, decide_eq_false (Int32.not_le.mpr h104)]; rfl
        · rfl
      · refine z_iconst (pc := 107) (v := 1) dX3_canGoOn_107 (by decide) ?_
        refine z_goto (pc := 108) (tgt := 112) dX3_canGoOn_108 (by decide) ?_
        refine z_zret (pc := 112) rfl dX3_canGoOn_112 ?_ ?_ ?_
        · rfl
        · rw [okG, if_neg hf, if_neg hn1, if_neg hn2, if_neg hn3, decide_eq_true (Int32.not_lt.mp h104)]; rfl
        · rfl
  · refine z_iconst (pc := 10) (v := 0) dX3_canGoOn_10 (by decide) ?_
    refine z_zret (pc := 11) rfl dX3_canGoOn_11 ?_ ?_ ?_
    · rfl
    · rw [okG, if_pos (Int32.not_le.mp h7)]; rfl
    · rfl
set_option maxRecDepth 100000 in
set_option maxHeartbeats 400000 in
theorem s_X3_firstFault_24 {M : z_Mem} {l : Nat → Int32} {n : Nat} (hS : ScAt M l n) (hn1 : 1 ≤ n) (f p s : Nat) (hf : p + f = n) (hs1 : 1 ≤ s) (hsp : s ≤ p) (x y : Int32) (hx : x = nI s) (hy : y = nI p) : z_Sm mX3_firstFault (some (.int (scn l n f p s))) M 24 [some (.ref 1), some (.int x), some (.int y)] [] M := by
  have hn60 := hS.2.1
  refine z_iload_n (pc := 24) dX3_firstFault_24 rfl ?_
  refine z_aload_n (pc := 25) dX3_firstFault_25 rfl ?_
  refine z_getI (pc := 26) q_fX3_15 z_s1 rfl dX3_firstFault_26 ?_
  refine z_icmp_ge (pc := 29) (tgt := 86) dX3_firstFault_29 (by decide) (fun h29 => ?_) (fun h29 => ?_)
  · have hnp : n ≤ p := z_ge h29 hy hS.1 (by omega) (by omega)
    obtain rfl : f = 0 := by omega
    refine z_iload_n (pc := 86) dX3_firstFault_86 rfl ?_
    refine z_aload_n (pc := 87) dX3_firstFault_87 rfl ?_
    refine z_getI (pc := 88) q_fX3_15 z_s1 rfl dX3_firstFault_88 ?_
    refine z_icmp_ne (pc := 91) (tgt := 99) dX3_firstFault_91 (by decide) (fun h91 => ?_) (fun h91 => ?_)
    · refine z_aload_n (pc := 99) dX3_firstFault_99 rfl ?_
      refine z_getI (pc := 100) q_fX3_15 z_s1 rfl dX3_firstFault_100 ?_
      refine z_iret (pc := 103) rfl dX3_firstFault_103 ?_ ?_
      · have e : ¬ s = n := by
          rw [hx, hS.1] at h91
          exact fun q => h91 (by rw [q])
        rw [scn, if_neg e, hS.1]
      · rfl
    · refine z_bipush (pc := 94) (v := (-9)) dX3_firstFault_94 (by decide) ?_
      refine z_goto (pc := 96) (tgt := 103) dX3_firstFault_96 (by decide) ?_
      refine z_iret (pc := 103) rfl dX3_firstFault_103 ?_ ?_
      · have e : s = n := by
          rw [hx, hS.1] at h91
          exact (nI_eq (by omega) (by omega)).mp (by simpa using h91)
        rw [scn, if_pos e]
      · rfl
  · have hlt : p < n := z_lt h29 hy hS.1 (by omega) (by omega)
    obtain ⟨g, rfl⟩ : ∃ g, f = g + 1 := ⟨f - 1, by omega⟩
    have hnps : ∀ q : nI p = nI s, p = s := fun q => (nI_eq (by omega) (by omega)).mp q
    rw [scn]
    refine z_iload_n (pc := 32) dX3_firstFault_32 rfl ?_
    refine z_iload_n (pc := 33) dX3_firstFault_33 rfl ?_
    refine z_icmp_ne (pc := 34) (tgt := 48) dX3_firstFault_34 (by decide) (fun h34 => ?_) (fun h34 => ?_)
    · refine z_aload_n (pc := 48) dX3_firstFault_48 rfl ?_
      refine z_iload_n (pc := 49) dX3_firstFault_49 rfl ?_
      refine z_iload_n (pc := 50) dX3_firstFault_50 rfl ?_
      refine z_cV2 (pc := 51) (c_X3_canGoOn hS hx hy (show s < p from Nat.lt_of_le_of_ne hsp (fun q => h34 (by rw [hx, hy, q]))) hlt) (q_cX3_23 _ (by decide)) z_s1 rfl rfl dX3_firstFault_51 ?_
      refine z_if_ne (pc := 54) (tgt := 59) dX3_firstFault_54 (by decide) (fun h54 => ?_) (fun h54 => ?_)
      · have ep : ¬ p = s := fun q => h34 (by rw [hx, hy, q])
        have hb : okG l n s p = true := by
          cases q : okG l n s p
          · rw [q] at h54; exact absurd rfl h54
          · rfl
        rw [if_neg ep, hb, if_neg (by decide)]
        refine z_iload_n (pc := 59) dX3_firstFault_59 rfl ?_
        refine z_iload_n (pc := 60) dX3_firstFault_60 rfl ?_
        refine z_isub (pc := 61) dX3_firstFault_61 ?_
        refine z_iconst (pc := 62) (v := 1) dX3_firstFault_62 (by decide) ?_
        refine z_iadd (pc := 63) dX3_firstFault_63 ?_
        refine z_aload_n (pc := 64) dX3_firstFault_64 rfl ?_
        refine z_getR (pc := 65) 2 q_fX3_9 z_s1 rfl dX3_firstFault_65 ?_
        refine z_iload_n (pc := 68) dX3_firstFault_68 rfl ?_
        refine z_iald (pc := 69) (s) z_s2 ⟨hx, by omega, by decide⟩ dX3_firstFault_69 ?_
        refine z_cS1 (pc := 70) c_X3_sizeOfPart (q_cX3_27 _ (by decide)) rfl dX3_firstFault_70 ?_
        refine z_icmp_ne (pc := 73) (tgt := 80) dX3_firstFault_73 (by decide) (fun h73 => ?_) (fun h73 => ?_)
        · refine z_iinc (pc := 80) dX3_firstFault_80 rfl rfl rfl (by decide) ?_
          refine z_goto (pc := 83) (tgt := 24) dX3_firstFault_83 (by decide) ?_
          have e : ¬ p - s + 1 = sz (l s) := fun q => h73 (by rw [hS.2.2 s (by omega), ← q, hx, hy, pk_sub (by omega), nI_succ])
          rw [if_neg e]
          exact s_X3_firstFault_24 hS hn1 g (p + 1) s (by omega) hs1 (by omega) _ _ hx (z_n1 hy)
        · refine z_iload_n (pc := 76) dX3_firstFault_76 rfl ?_
          refine z_iconst (pc := 77) (v := 1) dX3_firstFault_77 (by decide) ?_
          refine z_iadd (pc := 78) dX3_firstFault_78 ?_
          refine z_istore_n (pc := 79) dX3_firstFault_79 rfl (by decide) ?_
          refine z_iinc (pc := 80) dX3_firstFault_80 rfl rfl rfl (by decide) ?_
          refine z_goto (pc := 83) (tgt := 24) dX3_firstFault_83 (by decide) ?_
          have e : p - s + 1 = sz (l s) := by
            have h73 : y - x + 1 = nI (sz (l s)) := by rw [← hS.2.2 s (by omega)]; simpa using h73
            rw [hx, hy, pk_sub (by omega), ← nI_succ] at h73
            exact (nI_eq (by omega) (by have := sz_le (l s); omega)).mp h73
          rw [if_pos e]
          exact s_X3_firstFault_24 hS hn1 g (p + 1) (p + 1) (by omega) (by omega) (Nat.le_refl _) _ _ (by rw [hy, nI_succ]) (z_n1 hy)
      · refine z_iload_n (pc := 57) dX3_firstFault_57 rfl ?_
        refine z_iret (pc := 58) rfl dX3_firstFault_58 ?_ ?_
        · have ep : ¬ p = s := fun q => h34 (by rw [hx, hy, q])
          have hb : okG l n s p = false := by
            cases q : okG l n s p
            · rfl
            · rw [q] at h54; exact absurd h54 (by decide)
          rw [if_neg ep, if_pos hb, hy]
        · rfl
    · refine z_aload_n (pc := 37) dX3_firstFault_37 rfl ?_
      refine z_iload_n (pc := 38) dX3_firstFault_38 rfl ?_
      refine z_cV1 (pc := 39) (c_X3_canBegin hS hy (by omega) hlt) (q_cX3_19 _ (by decide)) z_s1 rfl rfl dX3_firstFault_39 ?_
      refine z_if_ne (pc := 42) (tgt := 59) dX3_firstFault_42 (by decide) (fun h42 => ?_) (fun h42 => ?_)
      · have ep : p = s := hnps (by rw [← hx, ← hy]; simpa using h34)
        have hb : okB l p = true := by
          cases q : okB l p
          · rw [q] at h42; exact absurd rfl h42
          · rfl
        rw [if_pos ep, hb, if_neg (by decide)]
        refine z_iload_n (pc := 59) dX3_firstFault_59 rfl ?_
        refine z_iload_n (pc := 60) dX3_firstFault_60 rfl ?_
        refine z_isub (pc := 61) dX3_firstFault_61 ?_
        refine z_iconst (pc := 62) (v := 1) dX3_firstFault_62 (by decide) ?_
        refine z_iadd (pc := 63) dX3_firstFault_63 ?_
        refine z_aload_n (pc := 64) dX3_firstFault_64 rfl ?_
        refine z_getR (pc := 65) 2 q_fX3_9 z_s1 rfl dX3_firstFault_65 ?_
        refine z_iload_n (pc := 68) dX3_firstFault_68 rfl ?_
        refine z_iald (pc := 69) (s) z_s2 ⟨hx, by omega, by decide⟩ dX3_firstFault_69 ?_
        refine z_cS1 (pc := 70) c_X3_sizeOfPart (q_cX3_27 _ (by decide)) rfl dX3_firstFault_70 ?_
        refine z_icmp_ne (pc := 73) (tgt := 80) dX3_firstFault_73 (by decide) (fun h73 => ?_) (fun h73 => ?_)
        · refine z_iinc (pc := 80) dX3_firstFault_80 rfl rfl rfl (by decide) ?_
          refine z_goto (pc := 83) (tgt := 24) dX3_firstFault_83 (by decide) ?_
          have e : ¬ p - s + 1 = sz (l s) := fun q => h73 (by rw [hS.2.2 s (by omega), ← q, hx, hy, pk_sub (by omega), nI_succ])
          rw [if_neg e]
          exact s_X3_firstFault_24 hS hn1 g (p + 1) s (by omega) hs1 (by omega) _ _ hx (z_n1 hy)
        · refine z_iload_n (pc := 76) dX3_firstFault_76 rfl ?_
          refine z_iconst (pc := 77) (v := 1) dX3_firstFault_77 (by decide) ?_
          refine z_iadd (pc := 78) dX3_firstFault_78 ?_
          refine z_istore_n (pc := 79) dX3_firstFault_79 rfl (by decide) ?_
          refine z_iinc (pc := 80) dX3_firstFault_80 rfl rfl rfl (by decide) ?_
          refine z_goto (pc := 83) (tgt := 24) dX3_firstFault_83 (by decide) ?_
          have e : p - s + 1 = sz (l s) := by
            have h73 : y - x + 1 = nI (sz (l s)) := by rw [← hS.2.2 s (by omega)]; simpa using h73
            rw [hx, hy, pk_sub (by omega), ← nI_succ] at h73
            exact (nI_eq (by omega) (by have := sz_le (l s); omega)).mp h73
          rw [if_pos e]
          exact s_X3_firstFault_24 hS hn1 g (p + 1) (p + 1) (by omega) (by omega) (Nat.le_refl _) _ _ (by rw [hy, nI_succ]) (z_n1 hy)
      · refine z_goto (pc := 45) (tgt := 57) dX3_firstFault_45 (by decide) ?_
        refine z_iload_n (pc := 57) dX3_firstFault_57 rfl ?_
        refine z_iret (pc := 58) rfl dX3_firstFault_58 ?_ ?_
        · have ep : p = s := hnps (by rw [← hx, ← hy]; simpa using h34)
          have hb : okB l p = false := by
            cases q : okB l p
            · rfl
            · rw [q] at h42; exact absurd h42 (by decide)
          rw [if_pos ep, if_pos hb, hy]
        · rfl
termination_by f
decreasing_by all_goals omega
set_option maxRecDepth 100000 in
set_option maxHeartbeats 400000 in
theorem c_X3_firstFault {M : z_Mem} {l : Nat → Int32} {n : Nat} (hS : ScAt M l n) : z_Ct mX3_firstFault [.ref 1] M (some (.int (faF l n))) M := by
  have hn60 := hS.2.1
  refine z_entry (by decide +kernel) (Nat.le_of_ble_eq_true rfl) rfl ?_
  show z_Sm mX3_firstFault _ _ 0 [some (.ref 1), none, none] [] M
  refine z_aload_n (pc := 0) dX3_firstFault_0 rfl ?_
  refine z_getI (pc := 1) q_fX3_15 z_s1 rfl dX3_firstFault_1 ?_
  refine z_if_eq (pc := 4) (tgt := 18) dX3_firstFault_4 (by decide) (fun h4 => ?_) (fun h4 => ?_)
  · refine z_iconst (pc := 18) (v := 0) dX3_firstFault_18 (by decide) ?_
    refine z_iret (pc := 19) rfl dX3_firstFault_19 ?_ ?_
    · rw [hS.1] at h4
      rw [faF, if_pos ((nI0 (by omega)).mp h4)]
    · rfl
  · have hn0 : ¬ n = 0 := fun q => h4 (by rw [hS.1, q]; rfl)
    refine z_aload_n (pc := 7) dX3_firstFault_7 rfl ?_
    refine z_getR (pc := 8) 2 q_fX3_9 z_s1 rfl dX3_firstFault_8 ?_
    refine z_iconst (pc := 11) (v := 0) dX3_firstFault_11 (by decide) ?_
    refine z_iald (pc := 12) (0) z_s2 ⟨rfl, by decide, by decide⟩ dX3_firstFault_12 ?_
    refine z_bipush (pc := 13) (v := 83) dX3_firstFault_13 (by decide) ?_
    refine z_icmp_eq (pc := 15) (tgt := 20) dX3_firstFault_15 (by decide) (fun h15 => ?_) (fun h15 => ?_)
    · refine z_iconst (pc := 20) (v := 1) dX3_firstFault_20 (by decide) ?_
      refine z_istore_n (pc := 21) dX3_firstFault_21 rfl (by decide) ?_
      refine z_iconst (pc := 22) (v := 1) dX3_firstFault_22 (by decide) ?_
      refine z_istore_n (pc := 23) dX3_firstFault_23 rfl (by decide) ?_
      rw [hS.2.2 0 (by omega)] at h15
      rw [faF, if_neg hn0, if_pos h15]
      exact s_X3_firstFault_24 hS (by omega) (n - 1) 1 1 (by omega) (by decide) (by decide) _ _ rfl rfl
    · refine z_iconst (pc := 18) (v := 0) dX3_firstFault_18 (by decide) ?_
      refine z_iret (pc := 19) rfl dX3_firstFault_19 ?_ ?_
      · rw [hS.2.2 0 (by omega)] at h15
        rw [faF, if_neg hn0, if_neg h15]
      · rfl
