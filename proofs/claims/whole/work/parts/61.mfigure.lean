/-- what reading changes -/
def Sr (M N : z_Mem) : Prop := (∀ i, i ≠ 59 → (i < 69 ∨ 71 < i) → N.1 i = M.1 i) ∧ (∀ k, k < 15 ∨ (17 < k ∧ k ≠ 20 ∧ k ≠ 21) → N.1 59 k = M.1 59 k) ∧ N.2 = M.2
theorem Sr.rf {M : z_Mem} : Sr M M := ⟨fun _ _ _ => rfl, fun _ _ => rfl, rfl⟩
theorem Sr.tr {M N K : z_Mem} (h : Sr M N) (h2 : Sr N K) : Sr M K := ⟨fun i a b => (h2.1 i a b).trans (h.1 i a b), fun k a => (h2.2.1 k a).trans (h.2.1 k a), h2.2.2.trans h.2.2⟩
theorem Sr.row {M : z_Mem} {i : Nat} (f : Nat → Int32) (h : 68 < i ∧ i < 72) : Sr M (z_row M i f) := ⟨fun j a b => z_row_n _ _ (by omega), fun k _ => by rw [z_row_n _ _ (by omega)], rfl⟩
theorem Sr.fld {M : z_Mem} {k : Nat} (v : Int32) (h : (14 < k ∧ k < 18) ∨ k = 20 ∨ k = 21) : Sr M (z_set M 59 k v) := ⟨fun j a b => by rw [z_set, z_row_n _ _ a], fun j a => by rw [z_set, z_row_1, upd_n _ _ (by omega)], rfl⟩
theorem Sr.sk {M N : z_Mem} (h : Sr M N) : Sk M N := ⟨fun i a b _ _ => h.1 i a (by omega), fun k a => h.2.1 k (by omega), h.2.2⟩
theorem Sr.sn {M N : z_Mem} {l : Nat → Int32} {n : Nat} (s : Sr M N) (h : SN M l n) : SN N l n := SN_cong h (s.2.1 19 (by decide)) (s.1 72 (by decide) (by decide))
/-- only the place and the fault -/
def Sg (M N : z_Mem) : Prop := (∀ i, i ≠ 59 → N.1 i = M.1 i) ∧ (∀ k, k ≠ 20 → k ≠ 21 → N.1 59 k = M.1 59 k) ∧ N.2 = M.2
theorem Sg.rf {M : z_Mem} : Sg M M := ⟨fun _ _ => rfl, fun _ _ _ => rfl, rfl⟩
theorem Sg.fld {M : z_Mem} {k : Nat} (v : Int32) (h : k = 20 ∨ k = 21) : Sg M (z_set M 59 k v) := ⟨fun j a => by rw [z_set, z_row_n _ _ a], fun j a b => by rw [z_set, z_row_1, upd_n _ _ (by omega)], rfl⟩
theorem Sg.sr {M N : z_Mem} (h : Sg M N) : Sr M N := ⟨fun i a _ => h.1 i a, fun k a => h.2.1 k (by omega) (by omega), h.2.2⟩
/-- the reader between two figures of the part that begins at s: no fault yet, at q; or a fault. X is what comes of it -/
def FS (M : z_Mem) (l : Nat → Int32) (n : Nat) (X : Int32) (s q : Nat) : Prop := (M.1 59 21 = -9 ∧ M.1 59 20 = nI q ∧ q ≤ n ∧ X = scn l n (n - q) q s) ∨ ∃ x, x ≤ n ∧ M.1 59 21 = nI x ∧ X = nI x
theorem nI_m9 {x : Nat} (h : x < 2 ^ 31) : ¬ nI x = -9 := fun z => by
  have := nI_pos (n := x) h
  rw [z] at this
  exact this (by decide)
def okF (m : Nat) (but v : Int32) : Bool := !decide (v < 0) && !decide (nI m < v) && !decide (v = but)
theorem okF_iff {m : Nat} {but v : Int32} : okF m but v = true ↔ ¬ v < 0 ∧ ¬ nI m < v ∧ ¬ v = but := by
  simp only [okF, Bool.and_eq_true, Bool.not_eq_true', decide_eq_false_iff_not, and_assoc]
theorem fg_yes {l : Nat → Int32} {n q : Nat} (hq : q < n) (h1 : ¬ l q < 48) (h2 : ¬ 57 < l q) : fg l n q = l q - 48 := by rw [fg, if_neg (by omega), if_neg h1, if_neg h2]
theorem fg_no {l : Nat → Int32} {n q : Nat} (h : n ≤ q ∨ l q < 48 ∨ 57 < l q) : fg l n q = -1 := by
  rw [fg]
  split
  · rfl
  split
  · rfl
  split
  · rfl
  · next a b c => exact absurd h (by simp only [a, b, c, or_self, not_false_eq_true])
theorem dig_of {x : Int32} (h0 : ¬ x - 48 < 0) (h9 : ¬ 9 < x - 48) : ¬ x < 48 ∧ ¬ 57 < x := by
  obtain ⟨j, hj, e⟩ := nI_of2 (M := 9) (n := 9) (x := x - 48) (by decide) h0 (Int32.not_lt.mp h9)
  have e2 : x = nI (j + 48) := by
    have := Int32.sub_add_cancel x 48
    rw [e, show (48 : Int32) = nI 48 from rfl, nI_add] at this
    exact this.symm
  rw [e2]
  exact ⟨nI_nlt (b := 48) (by omega) (by omega), nI_nlt (a := 57) (by omega) (by decide)⟩
theorem fg_in {l : Nat → Int32} {n q m : Nat} (hq : q < n) (hm : m ≤ 9) : inB (l q - 48).toInt64 0 (nI m).toInt64 = true ↔ ¬ fg l n q < 0 ∧ ¬ nI m < fg l n q := by
  rw [inB_i 0 (nI m) (by decide) rfl, Bool.and_eq_true, Bool.not_eq_true', Bool.not_eq_true', decide_eq_false_iff_not, decide_eq_false_iff_not]
  by_cases h : ¬ l q < 48 ∧ ¬ 57 < l q
  · rw [fg_yes hq h.1 h.2]
  · rw [fg_no (Or.inr (Classical.byContradiction fun z => h ⟨fun a => z (Or.inl a), fun b => z (Or.inr b)⟩))]
    constructor
    · rintro ⟨a, b⟩
      exact absurd (dig_of a (fun z => b (Int32.lt_of_le_of_lt (nI_le (b := 9) hm (by decide)) z))) h
    · rintro ⟨a, b⟩
      exact absurd (show (-1 : Int32) < 0 by decide) a
theorem fg_eq {l : Nat → Int32} {n q : Nat} (h : ¬ fg l n q < 0) : q < n ∧ l q - 48 = fg l n q := by
  by_cases hq : q < n
  · refine ⟨hq, ?_⟩
    by_cases a : l q < 48
    · rw [fg_no (Or.inr (Or.inl a))] at h; exact absurd (by decide) h
    · by_cases b : 57 < l q
      · rw [fg_no (Or.inr (Or.inr b))] at h; exact absurd (by decide) h
      · exact (fg_yes hq a b).symm
  · rw [fg_no (Or.inl (by omega))] at h; exact absurd (by decide) h
theorem scn_go {l : Nat → Int32} {n s q : Nat} (hs : s < q) (hq : q ≤ n) : scn l n (n - q) q s = if okG l n s q = false then nI q else if q - s + 1 = sz (l s) then scn l n (n - (q + 1)) (q + 1) (q + 1) else scn l n (n - (q + 1)) (q + 1) s := by
  by_cases h : q < n
  · have e : n - q = (n - (q + 1)) + 1 := by omega
    rw [e, scn, if_neg (show ¬ q = s by omega)]
  · obtain rfl : q = n := by omega
    have e : okG l q s q = false := by rw [okG, if_pos (by rw [fg_no (Or.inl (Nat.le_refl _))]; decide)]
    rw [Nat.sub_self, scn, if_neg (by omega), if_pos e]
set_option maxRecDepth 100000 in
set_option maxHeartbeats 400000 in
theorem c_X7_figureOf_f {M : z_Mem} {x m : Nat} {but : Int32} (hx : x ≤ 60) (h : M.1 59 21 = nI x) : z_Ct mX7_figureOf [.ref 59, .int (nI m), .int but] M (some (.int 0)) M := by
  refine z_entry (by decide +kernel) (Nat.le_of_ble_eq_true rfl) rfl ?_
  show z_Sm mX7_figureOf _ _ 0 [some (.ref 59), some (.int (nI m)), some (.int but), none, none] [] M
  refine z_aload_n (pc := 0) dX7_figureOf_0 rfl ?_
  refine z_getI (pc := 1) q_fX7_78 z_s59 rfl dX7_figureOf_1 ?_
  refine z_bipush (pc := 4) (v := (-9)) dX7_figureOf_4 (by decide) ?_
  refine z_icmp_ne (pc := 6) (tgt := 24) dX7_figureOf_6 (by decide) (fun h6 => ?_) (fun h6 => ?_)
  · refine z_iconst (pc := 24) (v := 0) dX7_figureOf_24 (by decide) ?_
    refine z_istore_n (pc := 25) dX7_figureOf_25 rfl (by decide) ?_
    refine z_iload_n (pc := 26) dX7_figureOf_26 rfl ?_
    refine z_if_eq (pc := 27) (tgt := 45) dX7_figureOf_27 (by decide) (fun h27 => ?_) (fun h27 => ?_)
    · refine z_iconst (pc := 45) (v := 0) dX7_figureOf_45 (by decide) ?_
      refine z_istore (pc := 46) dX7_figureOf_46 rfl (by decide) ?_
      refine z_iload_n (pc := 48) dX7_figureOf_48 rfl ?_
      refine z_if_eq (pc := 49) (tgt := 70) dX7_figureOf_49 (by decide) (fun h49 => ?_) (fun h49 => ?_)
      · refine z_aload_n (pc := 70) dX7_figureOf_70 rfl ?_
        refine z_aload_n (pc := 71) dX7_figureOf_71 rfl ?_
        refine z_getI (pc := 72) q_fX7_78 z_s59 rfl dX7_figureOf_72 ?_
        refine z_bipush (pc := 75) (v := (-9)) dX7_figureOf_75 (by decide) ?_
        refine z_icmp_ne (pc := 77) (tgt := 87) dX7_figureOf_77 (by decide) (fun h77 => ?_) (fun h77 => ?_)
        · refine z_aload_n (pc := 87) dX7_figureOf_87 rfl ?_
          refine z_getI (pc := 88) q_fX7_78 z_s59 rfl dX7_figureOf_88 ?_
          refine z_putI (pc := 91) q_fX7_78 q_p7_21 z_s59 rfl dX7_figureOf_91 ?_
          refine z_iconst (pc := 94) (v := 0) dX7_figureOf_94 (by decide) ?_
          refine z_iret (pc := 95) rfl dX7_figureOf_95 ?_ ?_
          · rfl
          · exact z_set_self M 59 21
        · exact absurd (h.symm.trans h77) (nI_m9 (by omega))
      · exact absurd rfl h49
    · exact absurd rfl h27
  · exact absurd (h.symm.trans h6) (nI_m9 (by omega))
set_option maxRecDepth 100000 in
set_option maxHeartbeats 400000 in
theorem c_X7_figureOf_y {M : z_Mem} {l : Nat → Int32} {n q m : Nat} {but : Int32} (hS : SN M l n) (hm : m ≤ 9) (h : M.1 59 21 = -9) (ha : M.1 59 20 = nI q) (hq : q ≤ n) (ok : okF m but (fg l n q) = true) : z_Ct mX7_figureOf [.ref 59, .int (nI m), .int but] M (some (.int (fg l n q))) (z_set M 59 20 (nI (q + 1))) := by
  obtain ⟨o1, o2, o3⟩ := okF_iff.mp ok
  obtain ⟨hqn, e48⟩ := fg_eq o1
  have hn6 := hS.2.1
  have hin := (fg_in (l := l) (n := n) hqn hm).mpr ⟨o1, o2⟩
  have et : M.1 72 q = l q := hS.2.2 q hqn

  refine z_entry (by decide +kernel) (Nat.le_of_ble_eq_true rfl) rfl ?_
  show z_Sm mX7_figureOf _ _ 0 [some (.ref 59), some (.int (nI m)), some (.int but), none, none] [] M
  refine z_aload_n (pc := 0) dX7_figureOf_0 rfl ?_
  refine z_getI (pc := 1) q_fX7_78 z_s59 rfl dX7_figureOf_1 ?_
  refine z_bipush (pc := 4) (v := (-9)) dX7_figureOf_4 (by decide) ?_
  refine z_icmp_ne (pc := 6) (tgt := 24) dX7_figureOf_6 (by decide) (fun h6 => ?_) (fun h6 => ?_)
  · exact absurd h h6
  · refine z_aload_n (pc := 9) dX7_figureOf_9 rfl ?_
    refine z_getI (pc := 10) q_fX7_81 z_s59 rfl dX7_figureOf_10 ?_
    refine z_aload_n (pc := 13) dX7_figureOf_13 rfl ?_
    refine z_getI (pc := 14) q_fX7_74 z_s59 rfl dX7_figureOf_14 ?_
    refine z_icmp_ge (pc := 17) (tgt := 24) dX7_figureOf_17 (by decide) (fun h17 => ?_) (fun h17 => ?_)
    · exact absurd (z_ge h17 ha hS.1 (by omega) (by omega)) (by omega)
    · refine z_iconst (pc := 20) (v := 1) dX7_figureOf_20 (by decide) ?_
      refine z_goto (pc := 21) (tgt := 25) dX7_figureOf_21 (by decide) ?_
      refine z_istore_n (pc := 25) dX7_figureOf_25 rfl (by decide) ?_
      refine z_iload_n (pc := 26) dX7_figureOf_26 rfl ?_
      refine z_if_eq (pc := 27) (tgt := 45) dX7_figureOf_27 (by decide) (fun h27 => ?_) (fun h27 => ?_)
      · exact absurd h27 (by decide)
      · refine z_aload_n (pc := 30) dX7_figureOf_30 rfl ?_
        refine z_getR (pc := 31) 72 q_fX7_46 z_s59 rfl dX7_figureOf_31 ?_
        refine z_aload_n (pc := 34) dX7_figureOf_34 rfl ?_
        refine z_getI (pc := 35) q_fX7_81 z_s59 rfl dX7_figureOf_35 ?_
        refine z_iald (pc := 38) (q) z_s72 ⟨ha, by omega⟩ dX7_figureOf_38 ?_
        rw [et]
        refine z_bipush (pc := 39) (v := 48) dX7_figureOf_39 (by decide) ?_
        refine z_isub (pc := 41) dX7_figureOf_41 ?_
        refine z_goto (pc := 42) (tgt := 46) dX7_figureOf_42 (by decide) ?_
        refine z_istore (pc := 46) dX7_figureOf_46 rfl (by decide) ?_
        refine z_iload_n (pc := 48) dX7_figureOf_48 rfl ?_
        refine z_if_eq (pc := 49) (tgt := 70) dX7_figureOf_49 (by decide) (fun h49 => ?_) (fun h49 => ?_)
        · exact absurd h49 (by decide)
        · refine z_iload (pc := 52) dX7_figureOf_52 rfl ?_
          refine z_i2l (pc := 54) dX7_figureOf_54 rfl ?_
          refine z_lconst (pc := 55) (v := 0) dX7_figureOf_55 (by decide) ?_
          refine z_iload_n (pc := 56) dX7_figureOf_56 rfl ?_
          refine z_i2l (pc := 57) dX7_figureOf_57 rfl ?_
          refine z_cS3 (pc := 58) c_X7_in (q_cX7_70 _ (by decide)) rfl dX7_figureOf_58 ?_
          refine z_if_eq (pc := 61) (tgt := 70) dX7_figureOf_61 (by decide) (fun h61 => ?_) (fun h61 => ?_)
          · rw [hin] at h61; exact absurd h61 (by decide)
          · refine z_iload (pc := 64) dX7_figureOf_64 rfl ?_
            refine z_iload_n (pc := 66) dX7_figureOf_66 rfl ?_
            refine z_icmp_ne (pc := 67) (tgt := 96) dX7_figureOf_67 (by decide) (fun h67 => ?_) (fun h67 => ?_)
            · refine z_aload_n (pc := 96) dX7_figureOf_96 rfl ?_
              refine z_dup (pc := 97) dX7_figureOf_97 rfl ?_
              refine z_getI (pc := 98) q_fX7_81 z_s59 rfl dX7_figureOf_98 ?_
              refine z_iconst (pc := 101) (v := 1) dX7_figureOf_101 (by decide) ?_
              refine z_iadd (pc := 102) dX7_figureOf_102 ?_
              refine z_putI (pc := 103) q_fX7_81 q_p7_20 z_s59 rfl dX7_figureOf_103 ?_
              refine z_iload (pc := 106) dX7_figureOf_106 rfl ?_
              refine z_iret (pc := 108) rfl dX7_figureOf_108 ?_ ?_
              · exact e48
              · rw [ha, ← nI_succ]
            · exact absurd (show fg l n q = but by rw [← e48]; simpa using h67) o3
set_option maxRecDepth 100000 in
set_option maxHeartbeats 400000 in
theorem c_X7_figureOf_n {M : z_Mem} {l : Nat → Int32} {n q m : Nat} {but : Int32} (hS : SN M l n) (hm : m ≤ 9) (h : M.1 59 21 = -9) (ha : M.1 59 20 = nI q) (hq : q ≤ n) (ok : okF m but (fg l n q) = false) : z_Ct mX7_figureOf [.ref 59, .int (nI m), .int but] M (some (.int 0)) (z_set M 59 21 (nI q)) := by
  have hn6 := hS.2.1
  have nok : ¬ (¬ fg l n q < 0 ∧ ¬ nI m < fg l n q ∧ ¬ fg l n q = but) := fun z => by rw [okF_iff.mpr z] at ok; cases ok

  refine z_entry (by decide +kernel) (Nat.le_of_ble_eq_true rfl) rfl ?_
  show z_Sm mX7_figureOf _ _ 0 [some (.ref 59), some (.int (nI m)), some (.int but), none, none] [] M
  refine z_aload_n (pc := 0) dX7_figureOf_0 rfl ?_
  refine z_getI (pc := 1) q_fX7_78 z_s59 rfl dX7_figureOf_1 ?_
  refine z_bipush (pc := 4) (v := (-9)) dX7_figureOf_4 (by decide) ?_
  refine z_icmp_ne (pc := 6) (tgt := 24) dX7_figureOf_6 (by decide) (fun h6 => ?_) (fun h6 => ?_)
  · exact absurd h h6
  · refine z_aload_n (pc := 9) dX7_figureOf_9 rfl ?_
    refine z_getI (pc := 10) q_fX7_81 z_s59 rfl dX7_figureOf_10 ?_
    refine z_aload_n (pc := 13) dX7_figureOf_13 rfl ?_
    refine z_getI (pc := 14) q_fX7_74 z_s59 rfl dX7_figureOf_14 ?_
    refine z_icmp_ge (pc := 17) (tgt := 24) dX7_figureOf_17 (by decide) (fun h17 => ?_) (fun h17 => ?_)
    · refine z_iconst (pc := 24) (v := 0) dX7_figureOf_24 (by decide) ?_
      refine z_istore_n (pc := 25) dX7_figureOf_25 rfl (by decide) ?_
      refine z_iload_n (pc := 26) dX7_figureOf_26 rfl ?_
      refine z_if_eq (pc := 27) (tgt := 45) dX7_figureOf_27 (by decide) (fun h27 => ?_) (fun h27 => ?_)
      · refine z_iconst (pc := 45) (v := 0) dX7_figureOf_45 (by decide) ?_
        refine z_istore (pc := 46) dX7_figureOf_46 rfl (by decide) ?_
        refine z_iload_n (pc := 48) dX7_figureOf_48 rfl ?_
        refine z_if_eq (pc := 49) (tgt := 70) dX7_figureOf_49 (by decide) (fun h49 => ?_) (fun h49 => ?_)
        · refine z_aload_n (pc := 70) dX7_figureOf_70 rfl ?_
          refine z_aload_n (pc := 71) dX7_figureOf_71 rfl ?_
          refine z_getI (pc := 72) q_fX7_78 z_s59 rfl dX7_figureOf_72 ?_
          refine z_bipush (pc := 75) (v := (-9)) dX7_figureOf_75 (by decide) ?_
          refine z_icmp_ne (pc := 77) (tgt := 87) dX7_figureOf_77 (by decide) (fun h77 => ?_) (fun h77 => ?_)
          · exact absurd h h77
          · refine z_aload_n (pc := 80) dX7_figureOf_80 rfl ?_
            refine z_getI (pc := 81) q_fX7_81 z_s59 rfl dX7_figureOf_81 ?_
            refine z_goto (pc := 84) (tgt := 91) dX7_figureOf_84 (by decide) ?_
            refine z_putI (pc := 91) q_fX7_78 q_p7_21 z_s59 rfl dX7_figureOf_91 ?_
            refine z_iconst (pc := 94) (v := 0) dX7_figureOf_94 (by decide) ?_
            refine z_iret (pc := 95) rfl dX7_figureOf_95 ?_ ?_
            · rfl
            · rw [ha]
        · exact absurd rfl h49
      · exact absurd rfl h27
    · refine z_iconst (pc := 20) (v := 1) dX7_figureOf_20 (by decide) ?_
      refine z_goto (pc := 21) (tgt := 25) dX7_figureOf_21 (by decide) ?_
      refine z_istore_n (pc := 25) dX7_figureOf_25 rfl (by decide) ?_
      refine z_iload_n (pc := 26) dX7_figureOf_26 rfl ?_
      refine z_if_eq (pc := 27) (tgt := 45) dX7_figureOf_27 (by decide) (fun h27 => ?_) (fun h27 => ?_)
      · exact absurd h27 (by decide)
      · have hqn : q < n := z_lt h17 ha hS.1 (by omega) (by omega)
        have et : M.1 72 q = l q := hS.2.2 q hqn
        refine z_aload_n (pc := 30) dX7_figureOf_30 rfl ?_
        refine z_getR (pc := 31) 72 q_fX7_46 z_s59 rfl dX7_figureOf_31 ?_
        refine z_aload_n (pc := 34) dX7_figureOf_34 rfl ?_
        refine z_getI (pc := 35) q_fX7_81 z_s59 rfl dX7_figureOf_35 ?_
        refine z_iald (pc := 38) (q) z_s72 ⟨ha, by omega⟩ dX7_figureOf_38 ?_
        rw [et]
        refine z_bipush (pc := 39) (v := 48) dX7_figureOf_39 (by decide) ?_
        refine z_isub (pc := 41) dX7_figureOf_41 ?_
        refine z_goto (pc := 42) (tgt := 46) dX7_figureOf_42 (by decide) ?_
        refine z_istore (pc := 46) dX7_figureOf_46 rfl (by decide) ?_
        refine z_iload_n (pc := 48) dX7_figureOf_48 rfl ?_
        refine z_if_eq (pc := 49) (tgt := 70) dX7_figureOf_49 (by decide) (fun h49 => ?_) (fun h49 => ?_)
        · exact absurd h49 (by decide)
        · refine z_iload (pc := 52) dX7_figureOf_52 rfl ?_
          refine z_i2l (pc := 54) dX7_figureOf_54 rfl ?_
          refine z_lconst (pc := 55) (v := 0) dX7_figureOf_55 (by decide) ?_
          refine z_iload_n (pc := 56) dX7_figureOf_56 rfl ?_
          refine z_i2l (pc := 57) dX7_figureOf_57 rfl ?_
          refine z_cS3 (pc := 58) c_X7_in (q_cX7_70 _ (by decide)) rfl dX7_figureOf_58 ?_
          refine z_if_eq (pc := 61) (tgt := 70) dX7_figureOf_61 (by decide) (fun h61 => ?_) (fun h61 => ?_)
          · refine z_aload_n (pc := 70) dX7_figureOf_70 rfl ?_
            refine z_aload_n (pc := 71) dX7_figureOf_71 rfl ?_
            refine z_getI (pc := 72) q_fX7_78 z_s59 rfl dX7_figureOf_72 ?_
            refine z_bipush (pc := 75) (v := (-9)) dX7_figureOf_75 (by decide) ?_
            refine z_icmp_ne (pc := 77) (tgt := 87) dX7_figureOf_77 (by decide) (fun h77 => ?_) (fun h77 => ?_)
            · exact absurd h h77
            · refine z_aload_n (pc := 80) dX7_figureOf_80 rfl ?_
              refine z_getI (pc := 81) q_fX7_81 z_s59 rfl dX7_figureOf_81 ?_
              refine z_goto (pc := 84) (tgt := 91) dX7_figureOf_84 (by decide) ?_
              refine z_putI (pc := 91) q_fX7_78 q_p7_21 z_s59 rfl dX7_figureOf_91 ?_
              refine z_iconst (pc := 94) (v := 0) dX7_figureOf_94 (by decide) ?_
              refine z_iret (pc := 95) rfl dX7_figureOf_95 ?_ ?_
              · rfl
              · rw [ha]
          · refine z_iload (pc := 64) dX7_figureOf_64 rfl ?_
            refine z_iload_n (pc := 66) dX7_figureOf_66 rfl ?_
            refine z_icmp_ne (pc := 67) (tgt := 96) dX7_figureOf_67 (by decide) (fun h67 => ?_) (fun h67 => ?_)
            · have i1 := (fg_in hqn hm).mp (z_t h61)
              exact absurd ⟨i1.1, i1.2, by rw [← (fg_eq i1.1).2]; exact h67⟩ nok
            · refine z_aload_n (pc := 70) dX7_figureOf_70 rfl ?_
              refine z_aload_n (pc := 71) dX7_figureOf_71 rfl ?_
              refine z_getI (pc := 72) q_fX7_78 z_s59 rfl dX7_figureOf_72 ?_
              refine z_bipush (pc := 75) (v := (-9)) dX7_figureOf_75 (by decide) ?_
              refine z_icmp_ne (pc := 77) (tgt := 87) dX7_figureOf_77 (by decide) (fun h77 => ?_) (fun h77 => ?_)
              · exact absurd h h77
              · refine z_aload_n (pc := 80) dX7_figureOf_80 rfl ?_
                refine z_getI (pc := 81) q_fX7_81 z_s59 rfl dX7_figureOf_81 ?_
                refine z_goto (pc := 84) (tgt := 91) dX7_figureOf_84 (by decide) ?_
                refine z_putI (pc := 91) q_fX7_78 q_p7_21 z_s59 rfl dX7_figureOf_91 ?_
                refine z_iconst (pc := 94) (v := 0) dX7_figureOf_94 (by decide) ?_
                refine z_iret (pc := 95) rfl dX7_figureOf_95 ?_ ?_
                · rfl
                · rw [ha]
set_option maxRecDepth 100000 in
set_option maxHeartbeats 400000 in
theorem c_X7_figureOf {M : z_Mem} {l : Nat → Int32} {n s q m : Nat} {X but : Int32} (hS : SN M l n) (hm : m ≤ 9) (hF : FS M l n X s q) (hsq : s < q) (hok : M.1 59 21 = -9 → okF m but (fg l n q) = okG l n s q) : ∃ (M1 : z_Mem) (v : Int32), z_Ct mX7_figureOf [.ref 59, .int (nI m), .int but] M (some (.int v)) M1 ∧ Sg M M1 ∧ FS M1 l n X (if q - s + 1 = sz (l s) then q + 1 else s) (q + 1) ∧ (M1.1 59 21 = -9 → M.1 59 21 = -9 ∧ v = fg l n q ∧ okG l n s q = true) := by
  have hn6 := hS.2.1
  rcases hF with ⟨h1, h2, h3, h4⟩ | ⟨x, h1, h2, h3⟩
  · have hgo := scn_go (l := l) hsq h3
    have hok := hok h1
    by_cases ok : okF m but (fg l n q) = true
    · have hqn := (fg_eq (okF_iff.mp ok).1).1
      have hG : okG l n s q = true := by rw [← hok]; exact ok
      refine ⟨_, _, c_X7_figureOf_y hS hm h1 h2 h3 ok, Sg.fld _ (Or.inl rfl), Or.inl ⟨?_, zs_1 _ _ _ _, hqn, ?_⟩, fun _ => ⟨h1, rfl, hG⟩⟩
      · rw [z_set, z_row_1, upd_n _ _ (by decide)]; exact h1
      · rw [h4, hgo, if_neg (by rw [hG]; decide)]
        split <;> rfl
    · have ok : okF m but (fg l n q) = false := by cases e : okF m but (fg l n q) <;> simp_all
      refine ⟨_, _, c_X7_figureOf_n hS hm h1 h2 h3 ok, Sg.fld _ (Or.inr rfl), Or.inr ⟨q, h3, zs_1 _ _ _ _, ?_⟩, fun z => ?_⟩
      · rw [h4, hgo, if_pos (by rw [← hok]; exact ok)]
      · rw [zs_1] at z
        exact absurd z (nI_m9 (by omega))
  · exact ⟨M, 0, c_X7_figureOf_f (by omega) h2, Sg.rf, Or.inr ⟨x, h1, h2, h3⟩, fun z => absurd (h2.symm.trans z) (nI_m9 (by omega))⟩
