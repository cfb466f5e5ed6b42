theorem or_0 (x : Int32) : x ||| 0 = x := b_ext fun i _ => by rw [b_or, b_0, Bool.or_false]
theorem in_dec : ∀ d, d < 4 → ∀ b, b < 10 → inB (nI b).toInt64 0 ((nI d - 1).toInt64) = decide (b < d) := by decide +kernel
set_option maxRecDepth 100000 in
set_option maxHeartbeats 400000 in
theorem c_X7_tt0 {M : z_Mem} {T : TT} {U : UT} {D : DT} (hT : TN M T) (hU : UN M U) (hD : DN M D) {q : PLt} (hq : PM M 1 q) (hd : q.2.2 < 2 ^ 29) {a b : Nat} (ha : a < 10) (hb : b < 10) : ∃ M1, z_Ct mX7_tryThing [.ref 59, .int (nI 0), .int (nI a), .int (nI b)] M (some (.int (if (ctF T U D q 0 a b).isSome then 1 else 0))) M1 ∧ (∀ q2, ctF T U D q 0 a b = some q2 → PM M1 1 q2) ∧ Sn 1 M M1 := by
  rw [show ctF T U D q 0 a b = if a = 0 ∧ b = 0 then some (dayF T U q) else none from rfl]
  obtain ⟨N, c1, p1, s1⟩ := c_X7_passOn hT hU (lv := 1) (by decide) hq hd
  by_cases h : a = 0 ∧ b = 0
  · rw [if_pos h]
    refine ⟨N, ?_, fun q2 e => by cases e; exact p1, s1⟩
    refine z_entry (by decide +kernel) (Nat.le_of_ble_eq_true rfl) rfl ?_
    show z_Sm mX7_tryThing _ _ 0 [some (.ref 59), some (.int (nI 0)), some (.int (nI a)), some (.int (nI b)), none, none, none] [] M
    refine z_iload_n (pc := 0) dX7_tryThing_0 rfl ?_
    rw [nI_0]
    refine z_tswIn (pc := 1) (off := 39) (tgt := 40) dX7_tryThing_1 (by decide) (by decide) (by decide) (by decide) ?_
    refine z_aload_n (pc := 40) dX7_tryThing_40 rfl ?_
    refine z_iconst (pc := 41) (v := 1) dX7_tryThing_41 (by decide) ?_
    refine z_cV1 (pc := 42) c1 (q_cX7_159 _ (by decide)) z_s59 rfl rfl dX7_tryThing_42 ?_
    refine z_pop (pc := 45) dX7_tryThing_45 rfl ?_
    refine z_iload_n (pc := 46) dX7_tryThing_46 rfl ?_
    refine z_if_ne (pc := 47) (tgt := 58) dX7_tryThing_47 (by decide) (fun h47 => ?_) (fun h47 => ?_)
    · exact absurd ((nI0 (by omega)).mpr h.1) h47
    · refine z_iload_n (pc := 50) dX7_tryThing_50 rfl ?_
      refine z_if_ne (pc := 51) (tgt := 58) dX7_tryThing_51 (by decide) (fun h51 => ?_) (fun h51 => ?_)
      · exact absurd ((nI0 (by omega)).mpr h.2) h51
      · refine z_iconst (pc := 54) (v := 1) dX7_tryThing_54 (by decide) ?_
        refine z_goto (pc := 55) (tgt := 59) dX7_tryThing_55 (by decide) ?_
        refine z_zret (pc := 59) rfl dX7_tryThing_59 ?_ ?_ ?_
        · rfl
        · rfl
        · rfl
  · rw [if_neg h]
    refine ⟨N, ?_, fun q2 e => by (cases e), s1⟩
    refine z_entry (by decide +kernel) (Nat.le_of_ble_eq_true rfl) rfl ?_
    show z_Sm mX7_tryThing _ _ 0 [some (.ref 59), some (.int (nI 0)), some (.int (nI a)), some (.int (nI b)), none, none, none] [] M
    refine z_iload_n (pc := 0) dX7_tryThing_0 rfl ?_
    rw [nI_0]
    refine z_tswIn (pc := 1) (off := 39) (tgt := 40) dX7_tryThing_1 (by decide) (by decide) (by decide) (by decide) ?_
    refine z_aload_n (pc := 40) dX7_tryThing_40 rfl ?_
    refine z_iconst (pc := 41) (v := 1) dX7_tryThing_41 (by decide) ?_
    refine z_cV1 (pc := 42) c1 (q_cX7_159 _ (by decide)) z_s59 rfl rfl dX7_tryThing_42 ?_
    refine z_pop (pc := 45) dX7_tryThing_45 rfl ?_
    refine z_iload_n (pc := 46) dX7_tryThing_46 rfl ?_
    refine z_if_ne (pc := 47) (tgt := 58) dX7_tryThing_47 (by decide) (fun h47 => ?_) (fun h47 => ?_)
    · refine z_iconst (pc := 58) (v := 0) dX7_tryThing_58 (by decide) ?_
      refine z_zret (pc := 59) rfl dX7_tryThing_59 ?_ ?_ ?_
      · rfl
      · rfl
      · rfl
    · refine z_iload_n (pc := 50) dX7_tryThing_50 rfl ?_
      refine z_if_ne (pc := 51) (tgt := 58) dX7_tryThing_51 (by decide) (fun h51 => ?_) (fun h51 => ?_)
      · refine z_iconst (pc := 58) (v := 0) dX7_tryThing_58 (by decide) ?_
        refine z_zret (pc := 59) rfl dX7_tryThing_59 ?_ ?_ ?_
        · rfl
        · rfl
        · rfl
      · exact absurd ⟨(nI0 (by omega)).mp h47, (nI0 (by omega)).mp h51⟩ h
set_option maxRecDepth 100000 in
set_option maxHeartbeats 400000 in
theorem c_X7_tt1 {M : z_Mem} {T : TT} {U : UT} {D : DT} (hT : TN M T) (hU : UN M U) (hD : DN M D) {q : PLt} (hq : PM M 1 q) (hd : q.2.2 < 2 ^ 29) {a b : Nat} (ha : a < 10) (hb : b < 10) : ∃ M1, z_Ct mX7_tryThing [.ref 59, .int (nI 1), .int (nI a), .int (nI b)] M (some (.int (if (ctF T U D q 1 a b).isSome then 1 else 0))) M1 ∧ (∀ q2, ctF T U D q 1 a b = some q2 → PM M1 1 q2) ∧ Sn 1 M M1 := by
  rw [show ctF T U D q 1 a b = if a < 6 ∧ ¬ b = 0 then some (tugF T q a (nI b)) else none from rfl]
  have hth := c_X7_isThing (M := M) (x := nI a)
  rw [thg_nI (by omega)] at hth
  by_cases h1 : a < 6
  · rw [decide_eq_true h1] at hth
    by_cases h2 : b = 0
    · rw [if_neg (show ¬ (a < 6 ∧ ¬ b = 0) from fun z => z.2 h2)]
      refine ⟨M, ?_, fun q2 e => by (cases e), Sn.rf⟩
      refine z_entry (by decide +kernel) (Nat.le_of_ble_eq_true rfl) rfl ?_
      show z_Sm mX7_tryThing _ _ 0 [some (.ref 59), some (.int (nI 1)), some (.int (nI a)), some (.int (nI b)), none, none, none] [] M
      refine z_iload_n (pc := 0) dX7_tryThing_0 rfl ?_
      rw [show nI 1 = 1 from rfl]
      refine z_tswIn (pc := 1) (off := 59) (tgt := 60) dX7_tryThing_1 (by decide) (by decide) (by decide) (by decide) ?_
      refine z_iload_n (pc := 60) dX7_tryThing_60 rfl ?_
      refine z_cS1 (pc := 61) hth (q_cX7_150 _ (by decide)) rfl dX7_tryThing_61 ?_
      refine z_if_eq (pc := 64) (tgt := 75) dX7_tryThing_64 (by decide) (fun h64 => ?_) (fun h64 => ?_)
      · exact absurd h64 (by decide)
      · refine z_iload_n (pc := 67) dX7_tryThing_67 rfl ?_
        refine z_if_le (pc := 68) (tgt := 75) dX7_tryThing_68 (by decide) (fun h68 => ?_) (fun h68 => ?_)
        · refine z_iconst (pc := 75) (v := 0) dX7_tryThing_75 (by decide) ?_
          refine z_istore (pc := 76) dX7_tryThing_76 rfl (by decide) ?_
          refine z_iload (pc := 78) dX7_tryThing_78 rfl ?_
          refine z_if_eq (pc := 80) (tgt := 91) dX7_tryThing_80 (by decide) (fun h80 => ?_) (fun h80 => ?_)
          · refine z_iload (pc := 91) dX7_tryThing_91 rfl ?_
            refine z_zret (pc := 93) rfl dX7_tryThing_93 ?_ ?_ ?_
            · rfl
            · rfl
            · rfl
          · exact absurd rfl h80
        · exact absurd (by rw [h2]; decide) h68
    · rw [if_pos (show a < 6 ∧ ¬ b = 0 from ⟨h1, h2⟩)]
      obtain ⟨N, c1, p1, s1⟩ := c_X7_tugOn hT (lv := 1) (by decide) hq (n := nI b) (x := nI a) rfl h1
      refine ⟨N, ?_, fun q2 e => by cases e; exact p1, s1⟩
      refine z_entry (by decide +kernel) (Nat.le_of_ble_eq_true rfl) rfl ?_
      show z_Sm mX7_tryThing _ _ 0 [some (.ref 59), some (.int (nI 1)), some (.int (nI a)), some (.int (nI b)), none, none, none] [] M
      refine z_iload_n (pc := 0) dX7_tryThing_0 rfl ?_
      rw [show nI 1 = 1 from rfl]
      refine z_tswIn (pc := 1) (off := 59) (tgt := 60) dX7_tryThing_1 (by decide) (by decide) (by decide) (by decide) ?_
      refine z_iload_n (pc := 60) dX7_tryThing_60 rfl ?_
      refine z_cS1 (pc := 61) hth (q_cX7_150 _ (by decide)) rfl dX7_tryThing_61 ?_
      refine z_if_eq (pc := 64) (tgt := 75) dX7_tryThing_64 (by decide) (fun h64 => ?_) (fun h64 => ?_)
      · exact absurd h64 (by decide)
      · refine z_iload_n (pc := 67) dX7_tryThing_67 rfl ?_
        refine z_if_le (pc := 68) (tgt := 75) dX7_tryThing_68 (by decide) (fun h68 => ?_) (fun h68 => ?_)
        · exact absurd ((nI_leI (b := 0) (by omega) (by decide)).mp h68) (by omega)
        · refine z_iconst (pc := 71) (v := 1) dX7_tryThing_71 (by decide) ?_
          refine z_goto (pc := 72) (tgt := 76) dX7_tryThing_72 (by decide) ?_
          refine z_istore (pc := 76) dX7_tryThing_76 rfl (by decide) ?_
          refine z_iload (pc := 78) dX7_tryThing_78 rfl ?_
          refine z_if_eq (pc := 80) (tgt := 91) dX7_tryThing_80 (by decide) (fun h80 => ?_) (fun h80 => ?_)
          · exact absurd h80 (by decide)
          · refine z_aload_n (pc := 83) dX7_tryThing_83 rfl ?_
            refine z_iconst (pc := 84) (v := 1) dX7_tryThing_84 (by decide) ?_
            refine z_iload_n (pc := 85) dX7_tryThing_85 rfl ?_
            refine z_iload_n (pc := 86) dX7_tryThing_86 rfl ?_
            refine z_cV3 (pc := 87) c1 (q_cX7_164 _ (by decide)) z_s59 rfl rfl dX7_tryThing_87 ?_
            refine z_pop (pc := 90) dX7_tryThing_90 rfl ?_
            refine z_iload (pc := 91) dX7_tryThing_91 rfl ?_
            refine z_zret (pc := 93) rfl dX7_tryThing_93 ?_ ?_ ?_
            · rfl
            · rfl
            · rfl
  · rw [if_neg (show ¬ (a < 6 ∧ ¬ b = 0) from fun z => h1 z.1)]
    rw [decide_eq_false h1] at hth
    refine ⟨M, ?_, fun q2 e => by (cases e), Sn.rf⟩
    refine z_entry (by decide +kernel) (Nat.le_of_ble_eq_true rfl) rfl ?_
    show z_Sm mX7_tryThing _ _ 0 [some (.ref 59), some (.int (nI 1)), some (.int (nI a)), some (.int (nI b)), none, none, none] [] M
    refine z_iload_n (pc := 0) dX7_tryThing_0 rfl ?_
    rw [show nI 1 = 1 from rfl]
    refine z_tswIn (pc := 1) (off := 59) (tgt := 60) dX7_tryThing_1 (by decide) (by decide) (by decide) (by decide) ?_
    refine z_iload_n (pc := 60) dX7_tryThing_60 rfl ?_
    refine z_cS1 (pc := 61) hth (q_cX7_150 _ (by decide)) rfl dX7_tryThing_61 ?_
    refine z_if_eq (pc := 64) (tgt := 75) dX7_tryThing_64 (by decide) (fun h64 => ?_) (fun h64 => ?_)
    · refine z_iconst (pc := 75) (v := 0) dX7_tryThing_75 (by decide) ?_
      refine z_istore (pc := 76) dX7_tryThing_76 rfl (by decide) ?_
      refine z_iload (pc := 78) dX7_tryThing_78 rfl ?_
      refine z_if_eq (pc := 80) (tgt := 91) dX7_tryThing_80 (by decide) (fun h80 => ?_) (fun h80 => ?_)
      · refine z_iload (pc := 91) dX7_tryThing_91 rfl ?_
        refine z_zret (pc := 93) rfl dX7_tryThing_93 ?_ ?_ ?_
        · rfl
        · rfl
        · rfl
      · exact absurd rfl h80
    · exact absurd rfl h64
set_option maxRecDepth 100000 in
set_option maxHeartbeats 400000 in
theorem c_X7_tt2 {M : z_Mem} {T : TT} {U : UT} {D : DT} (hT : TN M T) (hU : UN M U) (hD : DN M D) {q : PLt} (hq : PM M 1 q) (hd : q.2.2 < 2 ^ 29) {a b : Nat} (ha : a < 10) (hb : b < 10) : ∃ M1, z_Ct mX7_tryThing [.ref 59, .int (nI 2), .int (nI a), .int (nI b)] M (some (.int (if (ctF T U D q 2 a b).isSome then 1 else 0))) M1 ∧ PM M1 1 ((ctF T U D q 2 a b).getD q) ∧ Sn 1 M M1 := by
  rw [show ctF T U D q 2 a b = if a = 0 then clF T q b else none from rfl]
  have e9 : M.1 68 9 = q.1 := hq.1
  have hP7 := hT.2.1
  have hpn := c_X7_isPin hT (x := nI b)
  rw [pnB_nI (by omega) hP7] at hpn
  have hop := c_X7_has (M := M) (x := q.1) (y := nI b) (k := b) rfl (by omega)
  by_cases h : a = 0
  · rw [if_pos h]
    by_cases h1 : b < T.1
    · rw [decide_eq_true h1] at hpn
      by_cases h2 : bt q.1 b = true
      · have ef : clF T q b = some (q.1 &&& (em b ^^^ (-1)), upd q.2.1 b 0, q.2.2) := if_pos ⟨h1, h2⟩
        rw [ef]
        rw [h2] at hop
        obtain ⟨N, c1, p1, s1⟩ := c_X7_shutOn (lv := 1) (by decide) hq (x := nI b) (j := b) rfl (by omega)
        refine ⟨N, ?_, p1, s1⟩
        refine z_entry (by decide +kernel) (Nat.le_of_ble_eq_true rfl) rfl ?_
        show z_Sm mX7_tryThing _ _ 0 [some (.ref 59), some (.int (nI 2)), some (.int (nI a)), some (.int (nI b)), none, none, none] [] M
        refine z_iload_n (pc := 0) dX7_tryThing_0 rfl ?_
        rw [show nI 2 = 2 from rfl]
        refine z_tswIn (pc := 1) (off := 93) (tgt := 94) dX7_tryThing_1 (by decide) (by decide) (by decide) (by decide) ?_
        refine z_iload_n (pc := 94) dX7_tryThing_94 rfl ?_
        refine z_if_ne (pc := 95) (tgt := 124) dX7_tryThing_95 (by decide) (fun h95 => ?_) (fun h95 => ?_)
        · exact absurd ((nI0 (by omega)).mpr h) h95
        · refine z_aload_n (pc := 98) dX7_tryThing_98 rfl ?_
          refine z_iload_n (pc := 99) dX7_tryThing_99 rfl ?_
          refine z_cV1 (pc := 100) hpn (q_cX7_146 _ (by decide)) z_s59 rfl rfl dX7_tryThing_100 ?_
          refine z_if_eq (pc := 103) (tgt := 124) dX7_tryThing_103 (by decide) (fun h103 => ?_) (fun h103 => ?_)
          · exact absurd h103 (by decide)
          · refine z_aload_n (pc := 106) dX7_tryThing_106 rfl ?_
            refine z_getR (pc := 107) 68 q_fX7_34 z_s59 rfl dX7_tryThing_107 ?_
            refine z_bipush (pc := 110) (v := 9) dX7_tryThing_110 (by decide) ?_
            refine z_iald (pc := 112) (9) z_s68 ⟨rfl, by omega⟩ dX7_tryThing_112 ?_
            refine z_iload_n (pc := 113) dX7_tryThing_113 rfl ?_
            rw [e9]
            refine z_cS2 (pc := 114) hop (q_cX7_119 _ (by decide)) rfl dX7_tryThing_114 ?_
            refine z_if_eq (pc := 117) (tgt := 124) dX7_tryThing_117 (by decide) (fun h117 => ?_) (fun h117 => ?_)
            · exact absurd h117 (by decide)
            · refine z_iconst (pc := 120) (v := 1) dX7_tryThing_120 (by decide) ?_
              refine z_goto (pc := 121) (tgt := 125) dX7_tryThing_121 (by decide) ?_
              refine z_istore (pc := 125) dX7_tryThing_125 rfl (by decide) ?_
              refine z_iload (pc := 127) dX7_tryThing_127 rfl ?_
              refine z_if_eq (pc := 129) (tgt := 138) dX7_tryThing_129 (by decide) (fun h129 => ?_) (fun h129 => ?_)
              · exact absurd h129 (by decide)
              · refine z_aload_n (pc := 132) dX7_tryThing_132 rfl ?_
                refine z_iconst (pc := 133) (v := 1) dX7_tryThing_133 (by decide) ?_
                refine z_iload_n (pc := 134) dX7_tryThing_134 rfl ?_
                refine z_cV2v (pc := 135) c1 (q_cX7_168 _ (by decide)) z_s59 rfl rfl dX7_tryThing_135 ?_
                refine z_iload (pc := 138) dX7_tryThing_138 rfl ?_
                refine z_zret (pc := 140) rfl dX7_tryThing_140 ?_ ?_ ?_
                · rfl
                · rfl
                · rfl
      · have ef : clF T q b = none := if_neg (fun z => h2 z.2)
        rw [ef]
        rw [if_neg h2] at hop
        refine ⟨M, ?_, hq, Sn.rf⟩
        refine z_entry (by decide +kernel) (Nat.le_of_ble_eq_true rfl) rfl ?_
        show z_Sm mX7_tryThing _ _ 0 [some (.ref 59), some (.int (nI 2)), some (.int (nI a)), some (.int (nI b)), none, none, none] [] M
        refine z_iload_n (pc := 0) dX7_tryThing_0 rfl ?_
        rw [show nI 2 = 2 from rfl]
        refine z_tswIn (pc := 1) (off := 93) (tgt := 94) dX7_tryThing_1 (by decide) (by decide) (by decide) (by decide) ?_
        refine z_iload_n (pc := 94) dX7_tryThing_94 rfl ?_
        refine z_if_ne (pc := 95) (tgt := 124) dX7_tryThing_95 (by decide) (fun h95 => ?_) (fun h95 => ?_)
        · exact absurd ((nI0 (by omega)).mpr h) h95
        · refine z_aload_n (pc := 98) dX7_tryThing_98 rfl ?_
          refine z_iload_n (pc := 99) dX7_tryThing_99 rfl ?_
          refine z_cV1 (pc := 100) hpn (q_cX7_146 _ (by decide)) z_s59 rfl rfl dX7_tryThing_100 ?_
          refine z_if_eq (pc := 103) (tgt := 124) dX7_tryThing_103 (by decide) (fun h103 => ?_) (fun h103 => ?_)
          · exact absurd h103 (by decide)
          · refine z_aload_n (pc := 106) dX7_tryThing_106 rfl ?_
            refine z_getR (pc := 107) 68 q_fX7_34 z_s59 rfl dX7_tryThing_107 ?_
            refine z_bipush (pc := 110) (v := 9) dX7_tryThing_110 (by decide) ?_
            refine z_iald (pc := 112) (9) z_s68 ⟨rfl, by omega⟩ dX7_tryThing_112 ?_
            refine z_iload_n (pc := 113) dX7_tryThing_113 rfl ?_
            rw [e9]
            refine z_cS2 (pc := 114) hop (q_cX7_119 _ (by decide)) rfl dX7_tryThing_114 ?_
            refine z_if_eq (pc := 117) (tgt := 124) dX7_tryThing_117 (by decide) (fun h117 => ?_) (fun h117 => ?_)
            · refine z_iconst (pc := 124) (v := 0) dX7_tryThing_124 (by decide) ?_
              refine z_istore (pc := 125) dX7_tryThing_125 rfl (by decide) ?_
              refine z_iload (pc := 127) dX7_tryThing_127 rfl ?_
              refine z_if_eq (pc := 129) (tgt := 138) dX7_tryThing_129 (by decide) (fun h129 => ?_) (fun h129 => ?_)
              · refine z_iload (pc := 138) dX7_tryThing_138 rfl ?_
                refine z_zret (pc := 140) rfl dX7_tryThing_140 ?_ ?_ ?_
                · rfl
                · rfl
                · rfl
              · exact absurd rfl h129
            · exact absurd rfl h117
    · have ef : clF T q b = none := if_neg (fun z => h1 z.1)
      rw [ef]
      rw [decide_eq_false h1] at hpn
      refine ⟨M, ?_, hq, Sn.rf⟩
      refine z_entry (by decide +kernel) (Nat.le_of_ble_eq_true rfl) rfl ?_
      show z_Sm mX7_tryThing _ _ 0 [some (.ref 59), some (.int (nI 2)), some (.int (nI a)), some (.int (nI b)), none, none, none] [] M
      refine z_iload_n (pc := 0) dX7_tryThing_0 rfl ?_
      rw [show nI 2 = 2 from rfl]
      refine z_tswIn (pc := 1) (off := 93) (tgt := 94) dX7_tryThing_1 (by decide) (by decide) (by decide) (by decide) ?_
      refine z_iload_n (pc := 94) dX7_tryThing_94 rfl ?_
      refine z_if_ne (pc := 95) (tgt := 124) dX7_tryThing_95 (by decide) (fun h95 => ?_) (fun h95 => ?_)
      · exact absurd ((nI0 (by omega)).mpr h) h95
      · refine z_aload_n (pc := 98) dX7_tryThing_98 rfl ?_
        refine z_iload_n (pc := 99) dX7_tryThing_99 rfl ?_
        refine z_cV1 (pc := 100) hpn (q_cX7_146 _ (by decide)) z_s59 rfl rfl dX7_tryThing_100 ?_
        refine z_if_eq (pc := 103) (tgt := 124) dX7_tryThing_103 (by decide) (fun h103 => ?_) (fun h103 => ?_)
        · refine z_iconst (pc := 124) (v := 0) dX7_tryThing_124 (by decide) ?_
          refine z_istore (pc := 125) dX7_tryThing_125 rfl (by decide) ?_
          refine z_iload (pc := 127) dX7_tryThing_127 rfl ?_
          refine z_if_eq (pc := 129) (tgt := 138) dX7_tryThing_129 (by decide) (fun h129 => ?_) (fun h129 => ?_)
          · refine z_iload (pc := 138) dX7_tryThing_138 rfl ?_
            refine z_zret (pc := 140) rfl dX7_tryThing_140 ?_ ?_ ?_
            · rfl
            · rfl
            · rfl
          · exact absurd rfl h129
        · exact absurd rfl h103
  · rw [if_neg h]
    refine ⟨M, ?_, hq, Sn.rf⟩
    refine z_entry (by decide +kernel) (Nat.le_of_ble_eq_true rfl) rfl ?_
    show z_Sm mX7_tryThing _ _ 0 [some (.ref 59), some (.int (nI 2)), some (.int (nI a)), some (.int (nI b)), none, none, none] [] M
    refine z_iload_n (pc := 0) dX7_tryThing_0 rfl ?_
    rw [show nI 2 = 2 from rfl]
    refine z_tswIn (pc := 1) (off := 93) (tgt := 94) dX7_tryThing_1 (by decide) (by decide) (by decide) (by decide) ?_
    refine z_iload_n (pc := 94) dX7_tryThing_94 rfl ?_
    refine z_if_ne (pc := 95) (tgt := 124) dX7_tryThing_95 (by decide) (fun h95 => ?_) (fun h95 => ?_)
    · refine z_iconst (pc := 124) (v := 0) dX7_tryThing_124 (by decide) ?_
      refine z_istore (pc := 125) dX7_tryThing_125 rfl (by decide) ?_
      refine z_iload (pc := 127) dX7_tryThing_127 rfl ?_
      refine z_if_eq (pc := 129) (tgt := 138) dX7_tryThing_129 (by decide) (fun h129 => ?_) (fun h129 => ?_)
      · refine z_iload (pc := 138) dX7_tryThing_138 rfl ?_
        refine z_zret (pc := 140) rfl dX7_tryThing_140 ?_ ?_ ?_
        · rfl
        · rfl
        · rfl
      · exact absurd rfl h129
    · exact absurd ((nI0 (by omega)).mp h95) h
set_option maxRecDepth 100000 in
set_option maxHeartbeats 400000 in
theorem c_X7_tt3 {M : z_Mem} {T : TT} {U : UT} {D : DT} (hT : TN M T) (hU : UN M U) (hD : DN M D) {q : PLt} (hq : PM M 1 q) (hd : q.2.2 < 2 ^ 29) {a b : Nat} (ha : a < 10) (hb : b < 10) : ∃ M1, z_Ct mX7_tryThing [.ref 59, .int (nI 3), .int (nI a), .int (nI b)] M (some (.int (if (ctF T U D q 3 a b).isSome then 1 else 0))) M1 ∧ PM M1 1 ((ctF T U D q 3 a b).getD q) ∧ Sn 1 M M1 := by
  rw [show ctF T U D q 3 a b = if a = 0 then opF T q b else none from rfl]
  have s0 : Sn 1 M (z_set M 68 9 (M.1 68 9 ||| 0)) := Sn.s68 _ ⟨by omega, by omega⟩
  have hq0 : PM (z_set M 68 9 (M.1 68 9 ||| 0)) 1 q := by rw [or_0, z_set_self]; exact hq
  have e9 : M.1 68 9 = q.1 := hq.1
  have hP7 := hT.2.1
  have hpn := c_X7_isPin hT (x := nI b)
  rw [pnB_nI (by omega) hP7] at hpn
  have hop := c_X7_has (M := M) (x := M.1 68 9) (y := nI b) (k := b) rfl (by omega)
  by_cases h : a = 0
  · rw [if_pos h]
    by_cases h1 : b < T.1
    · rw [decide_eq_true h1] at hpn
      by_cases h2 : bt q.1 b = false
      · have ef : opF T q b = some (q.1 ||| em b, q.2.1, q.2.2) := if_pos ⟨h1, h2⟩
        rw [ef]
        rw [show bt (M.1 68 9) b = false by rw [e9]; exact h2] at hop
        have s1 : Sn 1 M (z_set M 68 9 (M.1 68 9 ||| em b)) := Sn.s68 _ ⟨by omega, by omega⟩
        have p1 : PM (z_set M 68 9 (M.1 68 9 ||| em b)) 1 (q.1 ||| em b, q.2.1, q.2.2) := ⟨by rw [zs_1, e9], fun k hk => by rw [z_set, z_row_1, upd_n _ _ (by omega)]; exact hq.2.1 k hk, by rw [z_set, z_row_1, upd_n _ _ (by omega)]; exact hq.2.2⟩
        refine ⟨z_set M 68 9 (M.1 68 9 ||| em b), ?_, p1, s1⟩
        refine z_entry (by decide +kernel) (Nat.le_of_ble_eq_true rfl) rfl ?_
        show z_Sm mX7_tryThing _ _ 0 [some (.ref 59), some (.int (nI 3)), some (.int (nI a)), some (.int (nI b)), none, none, none] [] M
        refine z_iload_n (pc := 0) dX7_tryThing_0 rfl ?_
        rw [show nI 3 = 3 from rfl]
        refine z_tswIn (pc := 1) (off := 140) (tgt := 141) dX7_tryThing_1 (by decide) (by decide) (by decide) (by decide) ?_
        refine z_iload_n (pc := 141) dX7_tryThing_141 rfl ?_
        refine z_if_ne (pc := 142) (tgt := 171) dX7_tryThing_142 (by decide) (fun h142 => ?_) (fun h142 => ?_)
        · exact absurd ((nI0 (by omega)).mpr h) h142
        · refine z_aload_n (pc := 145) dX7_tryThing_145 rfl ?_
          refine z_iload_n (pc := 146) dX7_tryThing_146 rfl ?_
          refine z_cV1 (pc := 147) hpn (q_cX7_146 _ (by decide)) z_s59 rfl rfl dX7_tryThing_147 ?_
          refine z_if_eq (pc := 150) (tgt := 171) dX7_tryThing_150 (by decide) (fun h150 => ?_) (fun h150 => ?_)
          · exact absurd h150 (by decide)
          · refine z_aload_n (pc := 153) dX7_tryThing_153 rfl ?_
            refine z_getR (pc := 154) 68 q_fX7_34 z_s59 rfl dX7_tryThing_154 ?_
            refine z_bipush (pc := 157) (v := 9) dX7_tryThing_157 (by decide) ?_
            refine z_iald (pc := 159) (9) z_s68 ⟨rfl, by omega⟩ dX7_tryThing_159 ?_
            refine z_iload_n (pc := 160) dX7_tryThing_160 rfl ?_
            refine z_cS2 (pc := 161) hop (q_cX7_119 _ (by decide)) rfl dX7_tryThing_161 ?_
            refine z_if_ne (pc := 164) (tgt := 171) dX7_tryThing_164 (by decide) (fun h164 => ?_) (fun h164 => ?_)
            · exact absurd rfl h164
            · refine z_iconst (pc := 167) (v := 1) dX7_tryThing_167 (by decide) ?_
              refine z_goto (pc := 168) (tgt := 172) dX7_tryThing_168 (by decide) ?_
              refine z_istore (pc := 172) dX7_tryThing_172 rfl (by decide) ?_
              refine z_aload_n (pc := 174) dX7_tryThing_174 rfl ?_
              refine z_getR (pc := 175) 68 q_fX7_34 z_s59 rfl dX7_tryThing_175 ?_
              refine z_bipush (pc := 178) (v := 9) dX7_tryThing_178 (by decide) ?_
              refine z_dup2 (pc := 180) dX7_tryThing_180 rfl rfl ?_
              refine z_iald (pc := 181) (9) z_s68 ⟨rfl, by omega⟩ dX7_tryThing_181 ?_
              refine z_iload (pc := 182) dX7_tryThing_182 rfl ?_
              refine z_if_eq (pc := 184) (tgt := 193) dX7_tryThing_184 (by decide) (fun h184 => ?_) (fun h184 => ?_)
              · exact absurd h184 (by decide)
              · refine z_iconst (pc := 187) (v := 1) dX7_tryThing_187 (by decide) ?_
                refine z_iload_n (pc := 188) dX7_tryThing_188 rfl ?_
                refine z_ishl (pc := 189) dX7_tryThing_189 ?_
                refine z_goto (pc := 190) (tgt := 194) dX7_tryThing_190 (by decide) ?_
                refine z_ior (pc := 194) dX7_tryThing_194 ?_
                refine z_iast (pc := 195) (9) z_s68 ⟨rfl, by omega⟩ dX7_tryThing_195 ?_
                refine z_iload (pc := 196) dX7_tryThing_196 rfl ?_
                refine z_zret (pc := 198) rfl dX7_tryThing_198 ?_ ?_ ?_
                · rfl
                · rfl
                · rfl
      · have ef : opF T q b = none := if_neg (fun z => h2 z.2)
        rw [ef]
        rw [show bt (M.1 68 9) b = true by rw [e9]; exact z_nb h2] at hop
        refine ⟨z_set M 68 9 (M.1 68 9 ||| 0), ?_, hq0, s0⟩
        refine z_entry (by decide +kernel) (Nat.le_of_ble_eq_true rfl) rfl ?_
        show z_Sm mX7_tryThing _ _ 0 [some (.ref 59), some (.int (nI 3)), some (.int (nI a)), some (.int (nI b)), none, none, none] [] M
        refine z_iload_n (pc := 0) dX7_tryThing_0 rfl ?_
        rw [show nI 3 = 3 from rfl]
        refine z_tswIn (pc := 1) (off := 140) (tgt := 141) dX7_tryThing_1 (by decide) (by decide) (by decide) (by decide) ?_
        refine z_iload_n (pc := 141) dX7_tryThing_141 rfl ?_
        refine z_if_ne (pc := 142) (tgt := 171) dX7_tryThing_142 (by decide) (fun h142 => ?_) (fun h142 => ?_)
        · exact absurd ((nI0 (by omega)).mpr h) h142
        · refine z_aload_n (pc := 145) dX7_tryThing_145 rfl ?_
          refine z_iload_n (pc := 146) dX7_tryThing_146 rfl ?_
          refine z_cV1 (pc := 147) hpn (q_cX7_146 _ (by decide)) z_s59 rfl rfl dX7_tryThing_147 ?_
          refine z_if_eq (pc := 150) (tgt := 171) dX7_tryThing_150 (by decide) (fun h150 => ?_) (fun h150 => ?_)
          · exact absurd h150 (by decide)
          · refine z_aload_n (pc := 153) dX7_tryThing_153 rfl ?_
            refine z_getR (pc := 154) 68 q_fX7_34 z_s59 rfl dX7_tryThing_154 ?_
            refine z_bipush (pc := 157) (v := 9) dX7_tryThing_157 (by decide) ?_
            refine z_iald (pc := 159) (9) z_s68 ⟨rfl, by omega⟩ dX7_tryThing_159 ?_
            refine z_iload_n (pc := 160) dX7_tryThing_160 rfl ?_
            refine z_cS2 (pc := 161) hop (q_cX7_119 _ (by decide)) rfl dX7_tryThing_161 ?_
            refine z_if_ne (pc := 164) (tgt := 171) dX7_tryThing_164 (by decide) (fun h164 => ?_) (fun h164 => ?_)
            · refine z_iconst (pc := 171) (v := 0) dX7_tryThing_171 (by decide) ?_
              refine z_istore (pc := 172) dX7_tryThing_172 rfl (by decide) ?_
              refine z_aload_n (pc := 174) dX7_tryThing_174 rfl ?_
              refine z_getR (pc := 175) 68 q_fX7_34 z_s59 rfl dX7_tryThing_175 ?_
              refine z_bipush (pc := 178) (v := 9) dX7_tryThing_178 (by decide) ?_
              refine z_dup2 (pc := 180) dX7_tryThing_180 rfl rfl ?_
              refine z_iald (pc := 181) (9) z_s68 ⟨rfl, by omega⟩ dX7_tryThing_181 ?_
              refine z_iload (pc := 182) dX7_tryThing_182 rfl ?_
              refine z_if_eq (pc := 184) (tgt := 193) dX7_tryThing_184 (by decide) (fun h184 => ?_) (fun h184 => ?_)
              · refine z_iconst (pc := 193) (v := 0) dX7_tryThing_193 (by decide) ?_
                refine z_ior (pc := 194) dX7_tryThing_194 ?_
                refine z_iast (pc := 195) (9) z_s68 ⟨rfl, by omega⟩ dX7_tryThing_195 ?_
                refine z_iload (pc := 196) dX7_tryThing_196 rfl ?_
                refine z_zret (pc := 198) rfl dX7_tryThing_198 ?_ ?_ ?_
                · rfl
                · rfl
                · rfl
              · exact absurd rfl h184
            · exact absurd h164 (by decide)
    · have ef : opF T q b = none := if_neg (fun z => h1 z.1)
      rw [ef]
      rw [decide_eq_false h1] at hpn
      refine ⟨z_set M 68 9 (M.1 68 9 ||| 0), ?_, hq0, s0⟩
      refine z_entry (by decide +kernel) (Nat.le_of_ble_eq_true rfl) rfl ?_
      show z_Sm mX7_tryThing _ _ 0 [some (.ref 59), some (.int (nI 3)), some (.int (nI a)), some (.int (nI b)), none, none, none] [] M
      refine z_iload_n (pc := 0) dX7_tryThing_0 rfl ?_
      rw [show nI 3 = 3 from rfl]
      refine z_tswIn (pc := 1) (off := 140) (tgt := 141) dX7_tryThing_1 (by decide) (by decide) (by decide) (by decide) ?_
      refine z_iload_n (pc := 141) dX7_tryThing_141 rfl ?_
      refine z_if_ne (pc := 142) (tgt := 171) dX7_tryThing_142 (by decide) (fun h142 => ?_) (fun h142 => ?_)
      · exact absurd ((nI0 (by omega)).mpr h) h142
      · refine z_aload_n (pc := 145) dX7_tryThing_145 rfl ?_
        refine z_iload_n (pc := 146) dX7_tryThing_146 rfl ?_
        refine z_cV1 (pc := 147) hpn (q_cX7_146 _ (by decide)) z_s59 rfl rfl dX7_tryThing_147 ?_
        refine z_if_eq (pc := 150) (tgt := 171) dX7_tryThing_150 (by decide) (fun h150 => ?_) (fun h150 => ?_)
        · refine z_iconst (pc := 171) (v := 0) dX7_tryThing_171 (by decide) ?_
          refine z_istore (pc := 172) dX7_tryThing_172 rfl (by decide) ?_
          refine z_aload_n (pc := 174) dX7_tryThing_174 rfl ?_
          refine z_getR (pc := 175) 68 q_fX7_34 z_s59 rfl dX7_tryThing_175 ?_
          refine z_bipush (pc := 178) (v := 9) dX7_tryThing_178 (by decide) ?_
          refine z_dup2 (pc := 180) dX7_tryThing_180 rfl rfl ?_
          refine z_iald (pc := 181) (9) z_s68 ⟨rfl, by omega⟩ dX7_tryThing_181 ?_
          refine z_iload (pc := 182) dX7_tryThing_182 rfl ?_
          refine z_if_eq (pc := 184) (tgt := 193) dX7_tryThing_184 (by decide) (fun h184 => ?_) (fun h184 => ?_)
          · refine z_iconst (pc := 193) (v := 0) dX7_tryThing_193 (by decide) ?_
            refine z_ior (pc := 194) dX7_tryThing_194 ?_
            refine z_iast (pc := 195) (9) z_s68 ⟨rfl, by omega⟩ dX7_tryThing_195 ?_
            refine z_iload (pc := 196) dX7_tryThing_196 rfl ?_
            refine z_zret (pc := 198) rfl dX7_tryThing_198 ?_ ?_ ?_
            · rfl
            · rfl
            · rfl
          · exact absurd rfl h184
        · exact absurd rfl h150
  · rw [if_neg h]
    refine ⟨z_set M 68 9 (M.1 68 9 ||| 0), ?_, hq0, s0⟩
    refine z_entry (by decide +kernel) (Nat.le_of_ble_eq_true rfl) rfl ?_
    show z_Sm mX7_tryThing _ _ 0 [some (.ref 59), some (.int (nI 3)), some (.int (nI a)), some (.int (nI b)), none, none, none] [] M
    refine z_iload_n (pc := 0) dX7_tryThing_0 rfl ?_
    rw [show nI 3 = 3 from rfl]
    refine z_tswIn (pc := 1) (off := 140) (tgt := 141) dX7_tryThing_1 (by decide) (by decide) (by decide) (by decide) ?_
    refine z_iload_n (pc := 141) dX7_tryThing_141 rfl ?_
    refine z_if_ne (pc := 142) (tgt := 171) dX7_tryThing_142 (by decide) (fun h142 => ?_) (fun h142 => ?_)
    · refine z_iconst (pc := 171) (v := 0) dX7_tryThing_171 (by decide) ?_
      refine z_istore (pc := 172) dX7_tryThing_172 rfl (by decide) ?_
      refine z_aload_n (pc := 174) dX7_tryThing_174 rfl ?_
      refine z_getR (pc := 175) 68 q_fX7_34 z_s59 rfl dX7_tryThing_175 ?_
      refine z_bipush (pc := 178) (v := 9) dX7_tryThing_178 (by decide) ?_
      refine z_dup2 (pc := 180) dX7_tryThing_180 rfl rfl ?_
      refine z_iald (pc := 181) (9) z_s68 ⟨rfl, by omega⟩ dX7_tryThing_181 ?_
      refine z_iload (pc := 182) dX7_tryThing_182 rfl ?_
      refine z_if_eq (pc := 184) (tgt := 193) dX7_tryThing_184 (by decide) (fun h184 => ?_) (fun h184 => ?_)
      · refine z_iconst (pc := 193) (v := 0) dX7_tryThing_193 (by decide) ?_
        refine z_ior (pc := 194) dX7_tryThing_194 ?_
        refine z_iast (pc := 195) (9) z_s68 ⟨rfl, by omega⟩ dX7_tryThing_195 ?_
        refine z_iload (pc := 196) dX7_tryThing_196 rfl ?_
        refine z_zret (pc := 198) rfl dX7_tryThing_198 ?_ ?_ ?_
        · rfl
        · rfl
        · rfl
      · exact absurd rfl h184
    · exact absurd ((nI0 (by omega)).mp h142) h
set_option maxRecDepth 100000 in
set_option maxHeartbeats 400000 in
theorem c_X7_tt4 {M : z_Mem} {T : TT} {U : UT} {D : DT} (hT : TN M T) (hU : UN M U) (hD : DN M D) {q : PLt} (hq : PM M 1 q) (hd : q.2.2 < 2 ^ 29) {a b : Nat} (ha : a < 10) (hb : b < 10) : ∃ M1, z_Ct mX7_tryThing [.ref 59, .int (nI 4), .int (nI a), .int (nI b)] M (some (.int (if (ctF T U D q 4 a b).isSome then 1 else 0))) M1 ∧ PM M1 1 ((ctF T U D q 4 a b).getD q) ∧ Sn 1 M M1 := by
  rw [show ctF T U D q 4 a b = if (a < 6 ∧ b < 6) ∧ tog q.1 T.2.1 T.2.2.1 T.1 a b = true then some q else none from rfl]
  have e9 : M.1 68 9 = q.1 := hq.1
  have hth := c_X7_isThing (M := M) (x := nI a)
  have hth2 := c_X7_isThing (M := M) (x := nI b)
  rw [thg_nI (by omega)] at hth hth2
  have key : ∀ z : Bool, (if (a < 6 ∧ b < 6) ∧ tog q.1 T.2.1 T.2.2.1 T.1 a b = true then some q else none).isSome = z → ∃ M1, z_Ct mX7_tryThing [.ref 59, .int (nI 4), .int (nI a), .int (nI b)] M (some (.int (if z then 1 else 0))) M1 ∧ PM M1 1 q ∧ Sn 1 M M1 := by
    intro z hz
    refine ⟨M, ?_, hq, Sn.rf⟩
    refine z_entry (by decide +kernel) (Nat.le_of_ble_eq_true rfl) rfl ?_
    show z_Sm mX7_tryThing _ _ 0 [some (.ref 59), some (.int (nI 4)), some (.int (nI a)), some (.int (nI b)), none, none, none] [] M
    refine z_iload_n (pc := 0) dX7_tryThing_0 rfl ?_
    rw [show nI 4 = 4 from rfl]
    refine z_tswIn (pc := 1) (off := 198) (tgt := 199) dX7_tryThing_1 (by decide) (by decide) (by decide) (by decide) ?_
    refine z_iload_n (pc := 199) dX7_tryThing_199 rfl ?_
    refine z_cS1 (pc := 200) hth (q_cX7_150 _ (by decide)) rfl dX7_tryThing_200 ?_
    refine z_if_eq (pc := 203) (tgt := 233) dX7_tryThing_203 (by decide) (fun h203 => ?_) (fun h203 => ?_)
    · refine z_iconst (pc := 233) (v := 0) dX7_tryThing_233 (by decide) ?_
      refine z_zret (pc := 234) rfl dX7_tryThing_234 ?_ ?_ ?_
      · rfl
      · rw [← hz, if_neg (show ¬ ((a < 6 ∧ b < 6) ∧ tog q.1 T.2.1 T.2.2.1 T.1 a b = true) from fun w => by rw [decide_eq_true w.1.1] at h203; exact absurd h203 (by decide))]; rfl
      · rfl
    · refine z_iload_n (pc := 206) dX7_tryThing_206 rfl ?_
      refine z_cS1 (pc := 207) hth2 (q_cX7_150 _ (by decide)) rfl dX7_tryThing_207 ?_
      refine z_if_eq (pc := 210) (tgt := 233) dX7_tryThing_210 (by decide) (fun h210 => ?_) (fun h210 => ?_)
      · refine z_iconst (pc := 233) (v := 0) dX7_tryThing_233 (by decide) ?_
        refine z_zret (pc := 234) rfl dX7_tryThing_234 ?_ ?_ ?_
        · rfl
        · rw [← hz, if_neg (show ¬ ((a < 6 ∧ b < 6) ∧ tog q.1 T.2.1 T.2.2.1 T.1 a b = true) from fun w => by rw [decide_eq_true w.1.2] at h210; exact absurd h210 (by decide))]; rfl
        · rfl
      · refine z_aload_n (pc := 213) dX7_tryThing_213 rfl ?_
        refine z_iload_n (pc := 214) dX7_tryThing_214 rfl ?_
        refine z_iload_n (pc := 215) dX7_tryThing_215 rfl ?_
        refine z_aload_n (pc := 216) dX7_tryThing_216 rfl ?_
        refine z_getR (pc := 217) 68 q_fX7_34 z_s59 rfl dX7_tryThing_217 ?_
        refine z_bipush (pc := 220) (v := 9) dX7_tryThing_220 (by decide) ?_
        refine z_iald (pc := 222) (9) z_s68 ⟨rfl, by omega⟩ dX7_tryThing_222 ?_
        rw [e9]
        refine z_cV3 (pc := 223) (c_X7_isTogether hT (t := a) (u := b) rfl rfl (of_decide_eq_true (z_t h203)) (of_decide_eq_true (z_t h210))) (q_cX7_126 _ (by decide)) z_s59 rfl rfl dX7_tryThing_223 ?_
        refine z_if_eq (pc := 226) (tgt := 233) dX7_tryThing_226 (by decide) (fun h226 => ?_) (fun h226 => ?_)
        · refine z_iconst (pc := 233) (v := 0) dX7_tryThing_233 (by decide) ?_
          refine z_zret (pc := 234) rfl dX7_tryThing_234 ?_ ?_ ?_
          · rfl
          · rw [← hz, if_neg (show ¬ ((a < 6 ∧ b < 6) ∧ tog q.1 T.2.1 T.2.2.1 T.1 a b = true) from fun w => by rw [z_f h226] at w; exact absurd w.2 (by decide))]; rfl
          · rfl
        · refine z_iconst (pc := 229) (v := 1) dX7_tryThing_229 (by decide) ?_
          refine z_goto (pc := 230) (tgt := 234) dX7_tryThing_230 (by decide) ?_
          refine z_zret (pc := 234) rfl dX7_tryThing_234 ?_ ?_ ?_
          · rfl
          · rw [← hz, if_pos (show ((a < 6 ∧ b < 6) ∧ tog q.1 T.2.1 T.2.2.1 T.1 a b = true) from ⟨⟨of_decide_eq_true (z_t h203), of_decide_eq_true (z_t h210)⟩, z_t h226⟩)]; rfl
          · rfl
  obtain ⟨M1, h1, h2, h3⟩ := key _ rfl
  refine ⟨M1, h1, ?_, h3⟩
  split <;> exact h2
set_option maxRecDepth 100000 in
set_option maxHeartbeats 400000 in
theorem c_X7_tt5 {M : z_Mem} {T : TT} {U : UT} {D : DT} (hT : TN M T) (hU : UN M U) (hD : DN M D) {q : PLt} (hq : PM M 1 q) (hd : q.2.2 < 2 ^ 29) {a b : Nat} (ha : a < 10) (hb : b < 10) : ∃ M1, z_Ct mX7_tryThing [.ref 59, .int (nI 5), .int (nI a), .int (nI b)] M (some (.int (if (ctF T U D q 5 a b).isSome then 1 else 0))) M1 ∧ PM M1 1 ((ctF T U D q 5 a b).getD q) ∧ Sn 1 M M1 := by
  rw [show ctF T U D q 5 a b = if (a = 0 ∧ b < D.1) ∧ bt (dbF q.1 T.2.1 T.2.2.1 T.1 D D.1) b = true then some q else none from rfl]
  have e9 : M.1 68 9 = q.1 := hq.1
  have hD3 := hD.2.1
  have hin := in_dec D.1 (by omega) b hb
  have key : ∀ z : Bool, (if (a = 0 ∧ b < D.1) ∧ bt (dbF q.1 T.2.1 T.2.2.1 T.1 D D.1) b = true then some q else none).isSome = z → ∃ M1, z_Ct mX7_tryThing [.ref 59, .int (nI 5), .int (nI a), .int (nI b)] M (some (.int (if z then 1 else 0))) M1 ∧ PM M1 1 q ∧ Sn 1 M M1 := by
    intro z hz
    refine ⟨M, ?_, hq, Sn.rf⟩
    refine z_entry (by decide +kernel) (Nat.le_of_ble_eq_true rfl) rfl ?_
    show z_Sm mX7_tryThing _ _ 0 [some (.ref 59), some (.int (nI 5)), some (.int (nI a)), some (.int (nI b)), none, none, none] [] M
    refine z_iload_n (pc := 0) dX7_tryThing_0 rfl ?_
    rw [show nI 5 = 5 from rfl]
    refine z_tswIn (pc := 1) (off := 234) (tgt := 235) dX7_tryThing_1 (by decide) (by decide) (by decide) (by decide) ?_
    refine z_iload_n (pc := 235) dX7_tryThing_235 rfl ?_
    refine z_if_ne (pc := 236) (tgt := 277) dX7_tryThing_236 (by decide) (fun h236 => ?_) (fun h236 => ?_)
    · refine z_iconst (pc := 277) (v := 0) dX7_tryThing_277 (by decide) ?_
      refine z_zret (pc := 278) rfl dX7_tryThing_278 ?_ ?_ ?_
      · rfl
      · rw [← hz, if_neg (show ¬ ((a = 0 ∧ b < D.1) ∧ bt (dbF q.1 T.2.1 T.2.2.1 T.1 D D.1) b = true) from fun w => h236 ((nI0 (by omega)).mpr w.1.1))]; rfl
      · rfl
    · refine z_iload_n (pc := 239) dX7_tryThing_239 rfl ?_
      refine z_i2l (pc := 240) dX7_tryThing_240 rfl ?_
      refine z_lconst (pc := 241) (v := 0) dX7_tryThing_241 (by decide) ?_
      refine z_aload_n (pc := 242) dX7_tryThing_242 rfl ?_
      refine z_getI (pc := 243) q_fX7_111 z_s59 rfl dX7_tryThing_243 ?_
      refine z_iconst (pc := 246) (v := 1) dX7_tryThing_246 (by decide) ?_
      refine z_isub (pc := 247) dX7_tryThing_247 ?_
      refine z_i2l (pc := 248) dX7_tryThing_248 rfl ?_
      rw [hD.1]
      refine z_cS3 (pc := 249) c_X7_in (q_cX7_70 _ (by decide)) rfl dX7_tryThing_249 ?_
      refine z_if_eq (pc := 252) (tgt := 277) dX7_tryThing_252 (by decide) (fun h252 => ?_) (fun h252 => ?_)
      · refine z_iconst (pc := 277) (v := 0) dX7_tryThing_277 (by decide) ?_
        refine z_zret (pc := 278) rfl dX7_tryThing_278 ?_ ?_ ?_
        · rfl
        · rw [hin] at h252
          rw [← hz, if_neg (show ¬ ((a = 0 ∧ b < D.1) ∧ bt (dbF q.1 T.2.1 T.2.2.1 T.1 D D.1) b = true) from fun w => by rw [decide_eq_true w.1.2] at h252; exact absurd h252 (by decide))]; rfl
        · rfl
      · refine z_aload_n (pc := 255) dX7_tryThing_255 rfl ?_
        refine z_aload_n (pc := 256) dX7_tryThing_256 rfl ?_
        refine z_getR (pc := 257) 68 q_fX7_34 z_s59 rfl dX7_tryThing_257 ?_
        refine z_bipush (pc := 260) (v := 9) dX7_tryThing_260 (by decide) ?_
        refine z_iald (pc := 262) (9) z_s68 ⟨rfl, by omega⟩ dX7_tryThing_262 ?_
        rw [e9]
        refine z_cV1 (pc := 263) (c_X7_doableBy hT hD) (q_cX7_180 _ (by decide)) z_s59 rfl rfl dX7_tryThing_263 ?_
        refine z_iload_n (pc := 266) dX7_tryThing_266 rfl ?_
        refine z_cS2 (pc := 267) (c_X7_has rfl (by omega)) (q_cX7_119 _ (by decide)) rfl dX7_tryThing_267 ?_
        refine z_if_eq (pc := 270) (tgt := 277) dX7_tryThing_270 (by decide) (fun h270 => ?_) (fun h270 => ?_)
        · refine z_iconst (pc := 277) (v := 0) dX7_tryThing_277 (by decide) ?_
          refine z_zret (pc := 278) rfl dX7_tryThing_278 ?_ ?_ ?_
          · rfl
          · rw [← hz, if_neg (show ¬ ((a = 0 ∧ b < D.1) ∧ bt (dbF q.1 T.2.1 T.2.2.1 T.1 D D.1) b = true) from fun w => by rw [z_f h270] at w; exact absurd w.2 (by decide))]; rfl
          · rfl
        · refine z_iconst (pc := 273) (v := 1) dX7_tryThing_273 (by decide) ?_
          refine z_goto (pc := 274) (tgt := 278) dX7_tryThing_274 (by decide) ?_
          refine z_zret (pc := 278) rfl dX7_tryThing_278 ?_ ?_ ?_
          · rfl
          · rw [hin] at h252
            rw [← hz, if_pos (show ((a = 0 ∧ b < D.1) ∧ bt (dbF q.1 T.2.1 T.2.2.1 T.1 D D.1) b = true) from ⟨⟨(nI0 (by omega)).mp h236, of_decide_eq_true (z_t h252)⟩, z_t h270⟩)]; rfl
          · rfl
  obtain ⟨M1, h1, h2, h3⟩ := key _ rfl
  refine ⟨M1, h1, ?_, h3⟩
  split <;> exact h2
set_option maxRecDepth 100000 in
set_option maxHeartbeats 400000 in
theorem c_X7_tryThing {M : z_Mem} {T : TT} {U : UT} {D : DT} (hT : TN M T) (hU : UN M U) (hD : DN M D) {q : PLt} (hq : PM M 1 q) (hd : q.2.2 < 2 ^ 29) {x y z : Int32} {k a b : Nat} (hx : x = nI k) (hy : y = nI a) (hz : z = nI b) (hk : k < 10) (ha : a < 10) (hb : b < 10) : ∃ M1, z_Ct mX7_tryThing [.ref 59, .int x, .int y, .int z] M (some (.int (if (ctF T U D q k a b).isSome then 1 else 0))) M1 ∧ (∀ q2, ctF T U D q k a b = some q2 → PM M1 1 q2) ∧ Sn 1 M M1 := by
  subst hx; subst hy; subst hz
  have gd : ∀ (M1 : z_Mem) (o : Option PLt), PM M1 1 (o.getD q) → ∀ q2, o = some q2 → PM M1 1 q2 := fun M1 o h q2 e => by rw [e] at h; exact h
  rcases (show k = 0 ∨ k = 1 ∨ k = 2 ∨ k = 3 ∨ k = 4 ∨ k = 5 ∨ 5 < k by omega) with rfl | rfl | rfl | rfl | rfl | rfl | h
  · exact c_X7_tt0 hT hU hD hq hd ha hb
  · exact c_X7_tt1 hT hU hD hq hd ha hb
  · obtain ⟨M1, h1, h2, h3⟩ := c_X7_tt2 hT hU hD hq hd ha hb
    exact ⟨M1, h1, gd _ _ h2, h3⟩
  · obtain ⟨M1, h1, h2, h3⟩ := c_X7_tt3 hT hU hD hq hd ha hb
    exact ⟨M1, h1, gd _ _ h2, h3⟩
  · obtain ⟨M1, h1, h2, h3⟩ := c_X7_tt4 hT hU hD hq hd ha hb
    exact ⟨M1, h1, gd _ _ h2, h3⟩
  · obtain ⟨M1, h1, h2, h3⟩ := c_X7_tt5 hT hU hD hq hd ha hb
    exact ⟨M1, h1, gd _ _ h2, h3⟩
  · have e : ctF T U D q k a b = none := by
      rw [ctF, if_neg (by omega), if_neg (by omega), if_neg (by omega), if_neg (by omega), if_neg (by omega), if_neg (by omega)]
    rw [e]
    refine ⟨M, ?_, fun q2 e => by (cases e), Sn.rf⟩
    refine z_entry (by decide +kernel) (Nat.le_of_ble_eq_true rfl) rfl ?_
    show z_Sm mX7_tryThing _ _ 0 [some (.ref 59), some (.int (nI k)), some (.int (nI a)), some (.int (nI b)), none, none, none] [] M
    refine z_iload_n (pc := 0) dX7_tryThing_0 rfl ?_
    refine z_tswOut (pc := 1) (tgt := 279) dX7_tryThing_1 (by rw [nI_toInt (by omega)]; omega) (by decide) ?_
    refine z_iconst (pc := 279) (v := 0) dX7_tryThing_279 (by decide) ?_
    refine z_zret (pc := 280) rfl dX7_tryThing_280 ?_ ?_ ?_
    · rfl
    · rfl
    · rfl
