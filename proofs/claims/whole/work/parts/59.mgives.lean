/-! sums over the cuts of some pins -/
def suF (g : Nat → Bool) (h : Nat → Nat) : Nat → Nat
  | 0 => 0
  | c + 1 => suF g h c + if g c = true then h c else 0
theorem suF_add (g : Nat → Bool) (h : Nat → Nat) (n : Nat) : ∀ m, suF g h (n + m) = suF g h n + suF (fun c => g (n + c)) (fun c => h (n + c)) m
  | 0 => rfl
  | m + 1 => by
    show suF g h (n + m) + _ = _
    rw [suF_add g h n m, suF, Nat.add_assoc]
    rfl
theorem suF_cong {g g2 : Nat → Bool} {h h2 : Nat → Nat} : ∀ n, (∀ c, c < n → g c = g2 c ∧ (g c = true → h c = h2 c)) → suF g h n = suF g2 h2 n
  | 0, _ => rfl
  | n + 1, e => by
    rw [suF, suF, suF_cong n (fun c hc => e c (by omega))]
    have ⟨e1, e2⟩ := e n (Nat.lt_succ_self n)
    cases q : g n
    · rw [← e1, q]; rfl
    · rw [← e1, q, e2 q]
theorem suF_mul {g : Nat → Bool} {h : Nat → Nat} (w : Nat) : ∀ n, suF g (fun c => w * h c) n = w * suF g h n
  | 0 => rfl
  | n + 1 => by
    rw [suF, suF, suF_mul w n, Nat.mul_add]
    cases g n
    · rfl
    · rfl
theorem suF_no {g : Nat → Bool} {h : Nat → Nat} : ∀ n, (∀ c, c < n → g c = false) → suF g h n = 0
  | 0, _ => rfl
  | n + 1, e => by rw [suF, suF_no n (fun c hc => e c (by omega)), e n (Nat.lt_succ_self n)]; rfl
theorem nI_two : ∀ n, n < 7 → ∀ c, c < 2 ^ n → nI (2 ^ n + c) = nI c ||| em n ∧ pc 7 (nI (2 ^ n + c)) = pc 7 (nI c) + 1 := by decide +kernel
theorem or_and0 {x y m : Int32} : (x ||| y) &&& m = 0 ↔ x &&& m = 0 ∧ y &&& m = 0 := by
  constructor
  · intro h
    constructor
    · refine b_ext fun i _ => ?_
      have z : bt ((x ||| y) &&& m) i = false := by rw [h]; exact b_0 i
      rw [b_and, b_or] at z
      rw [b_and, b_0]
      cases h1 : bt x i <;> cases h2 : bt m i <;> rw [h1, h2] at z <;> simp_all
    · refine b_ext fun i _ => ?_
      have z : bt ((x ||| y) &&& m) i = false := by rw [h]; exact b_0 i
      rw [b_and, b_or] at z
      rw [b_and, b_0]
      cases h1 : bt y i <;> cases h2 : bt m i <;> rw [h1, h2] at z <;> simp_all
  · rintro ⟨h1, h2⟩
    refine b_ext fun i _ => ?_
    have z1 : bt (x &&& m) i = false := by rw [h1]; exact b_0 i
    have z2 : bt (y &&& m) i = false := by rw [h2]; exact b_0 i
    rw [b_and] at z1 z2
    rw [b_and, b_or, b_0, Bool.and_or_distrib_right, z1, z2]; rfl
theorem and_comm32 (x y : Int32) : x &&& y = y &&& x := b_ext fun i _ => by rw [b_and, b_and, Bool.and_comm]
def inS (sh : Int32) (c : Nat) : Bool := decide (nI c &&& (sh ^^^ (-1)) = 0)
theorem inS_two {sh : Int32} {n c : Nat} (hn : n < 7) (hc : c < 2 ^ n) : inS sh (2 ^ n + c) = (bt sh n && inS sh c) := by
  have h0 : em n &&& (sh ^^^ (-1)) = 0 ↔ bt sh n = true := by
    rw [and_comm32, z_b0 _ (by omega), z_not _ (by omega)]
    cases bt sh n <;> simp
  rw [inS, inS, (nI_two n hn c hc).1]
  cases q : bt sh n
  · exact decide_eq_false (fun z => by rw [h0.mp (or_and0.mp z).2] at q; cases q)
  · exact decide_eq_decide.mpr ⟨fun z => (or_and0.mp z).1, fun z => or_and0.mpr ⟨z, h0.mpr q⟩⟩
theorem suF_pow (sh : Int32) (w v : Nat) : ∀ n, n ≤ 7 → ∀ k, pc n sh ≤ k → suF (inS sh) (fun c => w ^ pc 7 (nI c) * v ^ (k - pc 7 (nI c))) (2 ^ n) = (v + w) ^ pc n sh * v ^ (k - pc n sh)
  | 0, _, k, _ => by
    show 0 + (if inS sh 0 = true then w ^ pc 7 (nI 0) * v ^ (k - pc 7 (nI 0)) else 0) = _
    have e : inS sh 0 = true := decide_eq_true (b_ext fun i _ => by rw [b_and, show bt (nI 0) i = false from b_0 i, b_0]; rfl)
    rw [if_pos e, show pc 7 (nI 0) = 0 from rfl, Nat.zero_add, Nat.pow_zero, Nat.one_mul]
    show v ^ k = (v + w) ^ 0 * v ^ k
    rw [Nat.pow_zero, Nat.one_mul]
  | n + 1, hn, k, hk => by
    have e2 : (2 : Nat) ^ (n + 1) = 2 ^ n + 2 ^ n := by rw [Nat.pow_succ]; omega
    rw [e2, suF_add]
    cases q : bt sh n
    · rw [pc, q] at hk ⊢
      rw [suF_pow sh w v n (by omega) k hk, suF_no _ (fun c hc => by rw [inS_two (by omega) hc, q]; rfl)]
      rfl
    · rw [pc, q] at hk ⊢
      have hk : pc n sh + 1 ≤ k := hk
      show _ = (v + w) ^ (pc n sh + 1) * v ^ (k - (pc n sh + 1))
      have c1 : suF (fun c => inS sh (2 ^ n + c)) (fun c => w ^ pc 7 (nI (2 ^ n + c)) * v ^ (k - pc 7 (nI (2 ^ n + c)))) (2 ^ n) = suF (inS sh) (fun c => w * (w ^ pc 7 (nI c) * v ^ (k - 1 - pc 7 (nI c)))) (2 ^ n) := by
        refine suF_cong _ (fun c hc => ⟨by rw [inS_two (by omega) hc, q]; rfl, fun _ => ?_⟩)
        rw [(nI_two n (by omega) c hc).2, Nat.pow_succ, show k - (pc 7 (nI c) + 1) = k - 1 - pc 7 (nI c) by omega, Nat.mul_comm (w ^ pc 7 (nI c)) w, Nat.mul_assoc]
      rw [c1, suF_mul, suF_pow sh w v n (by omega) k (by omega), suF_pow sh w v n (by omega) (k - 1) (by omega)]
      have e3 : k - pc n sh = (k - 1 - pc n sh) + 1 := by omega
      rw [e3, show k - (pc n sh + 1) = k - 1 - pc n sh by omega, Nat.pow_succ, Nat.pow_succ, ← Nat.mul_assoc]
      generalize (v + w) ^ pc n sh = X
      generalize v ^ (k - 1 - pc n sh) = Y
      rw [Nat.mul_comm w (X * Y), ← Nat.mul_add, Nat.mul_assoc, Nat.mul_assoc, Nat.mul_comm Y (v + w)]
theorem pc_sub {x y : Int32} (h : ∀ i, bt x i = true → bt y i = true) : ∀ n, n ≤ 32 → pc n (y &&& (x ^^^ (-1))) + pc n x = pc n y
  | 0, _ => rfl
  | n + 1, hn => by
    have ih := pc_sub h n (by omega)
    have hx := h n
    rw [pc, pc, pc, b_and, z_not x (by omega)]
    cases h1 : bt x n <;> cases h2 : bt y n <;> rw [h1, h2] at hx
    · show pc n _ + 0 + (pc n x + 0) = pc n y + 0; omega
    · show pc n _ + 1 + (pc n x + 0) = pc n y + 1; omega
    · exact absurd (hx rfl) (by decide)
    · show pc n _ + 0 + (pc n x + 1) = pc n y + 1; omega
/-- the whole that the chances add up to -/
def gwF (sh : Int32) (w : Nat) : Nat → Nat
  | 0 => 0
  | c + 1 => if nI c &&& (sh ^^^ (-1)) = 0 then gwF sh w c + w ^ pc 7 (nI c) * (10 - w) ^ pc 7 (sh &&& (nI c ^^^ (-1))) else gwF sh w c
theorem gwF_su (sh : Int32) (w : Nat) : ∀ n, gwF sh w n = suF (inS sh) (fun c => w ^ pc 7 (nI c) * (10 - w) ^ (pc 7 sh - pc 7 (nI c))) n
  | 0 => rfl
  | n + 1 => by
    rw [gwF, suF, gwF_su sh w n]
    by_cases h : nI n &&& (sh ^^^ (-1)) = 0
    · have e := pc_sub (sub_bt h) 7 (by decide)
      rw [if_pos h, if_pos (show inS sh n = true from decide_eq_true h), show pc 7 (sh &&& (nI n ^^^ (-1))) = pc 7 sh - pc 7 (nI n) by omega]
    · rw [if_neg h, if_neg (show ¬ inS sh n = true from fun z => h (of_decide_eq_true z))]
      rfl
theorem giF_gw {T : TT} {o sh : Int32} {t u w : Nat} : ∀ c, giF T o sh t u w c ≤ gwF sh w c
  | 0 => Nat.le_refl 0
  | c + 1 => by
    have ih := giF_gw (T := T) (o := o) (sh := sh) (t := t) (u := u) (w := w) c
    rw [giF, gwF]
    by_cases h : nI c &&& (sh ^^^ (-1)) = 0
    · rw [if_pos h]
      split
      · exact Nat.add_le_add_right ih _
      · exact Nat.le_trans ih (Nat.le_add_right _ _)
    · rw [if_neg h, if_neg (fun z => h z.1)]
      exact ih
theorem pc_hi {x : Int32} {P : Nat} (h : ∀ i, P ≤ i → i < 32 → bt x i = false) : ∀ d, P + d ≤ 32 → pc (P + d) x = pc P x
  | 0, _ => rfl
  | d + 1, hd => by
    show pc (P + d) x + (bt x (P + d)).toNat = _
    rw [pc_hi h d (by omega), h (P + d) (by omega) (by omega)]; rfl
theorem gwF_end {T : TT} (hP : T.1 ≤ 7) {o : Int32} {w : Nat} (hw : w ≤ 10) : gwF (shF T o) w (2 ^ T.1) = 10 ^ pc 7 (shF T o) := by
  have e : pc 7 (shF T o) = pc T.1 (shF T o) := by
    have := pc_hi (x := shF T o) (P := T.1) (fun i h1 h2 => by rw [shF_bt hP o h2, decide_eq_false (by omega)]; rfl) (7 - T.1) (by omega)
    rw [show T.1 + (7 - T.1) = 7 by omega] at this
    exact this
  rw [gwF_su, suF_pow _ w (10 - w) T.1 hP _ (by omega), e, Nat.sub_self, Nat.pow_zero, Nat.mul_one, show 10 - w + w = 10 by omega]
theorem lt_nI {z : Int32} {a b : Nat} (ha : a < 2 ^ 30) (hb : b < 2 ^ 30) (h0 : 0 < b) : (¬ z = 0 → nI a / nI (Nat.gcd a b) = ltF z a b) ∧ (z = 0 → nI b / nI (Nat.gcd a b) = ltF z a b) ∧ ¬ nI (Nat.gcd a b) = 0 := by
  have g0 : 0 < Nat.gcd a b := Nat.gcd_pos_of_pos_right _ h0
  have gb : Nat.gcd a b ≤ b := Nat.gcd_le_right _ h0
  have em : max 1 (Nat.gcd a b) = Nat.gcd a b := Nat.max_eq_right g0
  refine ⟨fun q => ?_, fun q => ?_, fun q => ?_⟩
  · rw [ltF, if_neg q, em, pk_div (by omega) g0 (by omega)]
  · rw [ltF, if_pos q, em, pk_div (by omega) g0 (by omega)]
  · have := (nI0 (by omega)).mp q
    omega
set_option maxRecDepth 100000 in
set_option maxHeartbeats 400000 in
theorem s_X7_gives_60 {M : z_Mem} {T : TT} (hT : TN M T) {x y z sh o : Int32} {t u w : Nat} (hx : x = nI t) (hy : y = nI u) (ht : t < 6) (hu : u < 6) (hw : w ≤ 10) (hs : sh = shF T o) (ho : M.1 68 0 = o) : ∀ (f c : Nat) (ij s6 s7 : Int32) (v9 : Option Value), s6 = nI (giF T o sh t u w c) → s7 = nI (gwF sh w c) → ij = nI c → c + f = 2 ^ T.1 → z_Sm mX7_gives (some (.int (gvR T o z t u w))) M 60 [some (.ref 59), some (.int x), some (.int y), some (.int (nI w)), some (.int z), some (.int sh), some (.int s6), some (.int s7), some (.int ij), v9] [] M := by
  obtain ⟨-, e1, e2⟩ := emP T.1 hT.2.1
  have eQ : (1 : Int32) <<< (M.1 59 0 &&& 31) = nI (2 ^ T.1) := by rw [hT.1]; exact emQ T.1 hT.2.1
  have p7 := pc_le sh 7
  intro f
  induction f with
  | zero =>
    intro c ij s6 s7 v9 h6 h7 hi hf
    obtain rfl : c = 2 ^ T.1 := by omega
    have hW : gwF sh w (2 ^ T.1) = 10 ^ pc 7 sh := by rw [hs]; exact gwF_end hT.2.1 hw
    have hle := giF_gw (T := T) (o := o) (sh := sh) (t := t) (u := u) (w := w) (2 ^ T.1)
    have h10 := pw7 (x := 10) (Nat.le_refl 10) p7
    have hpos : 0 < gwF sh w (2 ^ T.1) := by rw [hW]; exact Nat.pow_pos (by decide)
    have hgv : gvR T o z t u w = ltF z (giF T o sh t u w (2 ^ T.1)) (gwF sh w (2 ^ T.1)) := by rw [hW, gvR, hs]
    obtain ⟨l1, l2, l3⟩ := lt_nI (z := z) (a := giF T o sh t u w (2 ^ T.1)) (b := gwF sh w (2 ^ T.1)) (by omega) (by omega) hpos
    rw [hgv]
    subst h6
    subst h7
    refine z_iload (pc := 60) dX7_gives_60 rfl ?_
    refine z_iconst (pc := 62) (v := 1) dX7_gives_62 (by decide) ?_
    refine z_aload_n (pc := 63) dX7_gives_63 rfl ?_
    refine z_getI (pc := 64) q_fX7_105 z_s59 rfl dX7_gives_64 ?_
    refine z_ishl (pc := 67) dX7_gives_67 ?_
    refine z_icmp_ge (pc := 68) (tgt := 153) dX7_gives_68 (by decide) (fun h68 => ?_) (fun h68 => ?_)
    · refine z_iload (pc := 153) dX7_gives_153 rfl ?_
      refine z_iload (pc := 155) dX7_gives_155 rfl ?_
      refine z_cS2 (pc := 157) (c_X7_common (by omega) (by omega)) (q_cX7_205 _ (by decide)) rfl dX7_gives_157 ?_
      refine z_istore (pc := 160) dX7_gives_160 rfl (by decide) ?_
      refine z_iload (pc := 162) dX7_gives_162 rfl ?_
      refine z_if_eq (pc := 164) (tgt := 175) dX7_gives_164 (by decide) (fun h164 => ?_) (fun h164 => ?_)
      · refine z_iload (pc := 175) dX7_gives_175 rfl ?_
        refine z_iload (pc := 177) dX7_gives_177 rfl ?_
        refine z_idiv (pc := 179) dX7_gives_179 l3 ?_
        refine z_iret (pc := 180) rfl dX7_gives_180 ?_ ?_
        · exact l2 h164
        · rfl
      · refine z_iload (pc := 167) dX7_gives_167 rfl ?_
        refine z_iload (pc := 169) dX7_gives_169 rfl ?_
        refine z_idiv (pc := 171) dX7_gives_171 l3 ?_
        refine z_goto (pc := 172) (tgt := 180) dX7_gives_172 (by decide) ?_
        refine z_iret (pc := 180) rfl dX7_gives_180 ?_ ?_
        · exact l1 h164
        · rfl
    · exact absurd (z_lt h68 hi eQ (by omega) (by omega)) (by omega)
  | succ f ih =>
    intro c ij s6 s7 v9 h6 h7 hi hf
    subst hi
    have e10 : (10 : Int32) - nI w = nI (10 - w) := by rw [show (10 : Int32) = nI 10 from rfl, pk_sub hw]
    have q7 := pc_le (nI c) 7
    have hat := c_X7_isTogether hT (o := o ||| nI c) hx hy ht hu
    refine z_iload (pc := 60) dX7_gives_60 rfl ?_
    refine z_iconst (pc := 62) (v := 1) dX7_gives_62 (by decide) ?_
    refine z_aload_n (pc := 63) dX7_gives_63 rfl ?_
    refine z_getI (pc := 64) q_fX7_105 z_s59 rfl dX7_gives_64 ?_
    refine z_ishl (pc := 67) dX7_gives_67 ?_
    refine z_icmp_ge (pc := 68) (tgt := 153) dX7_gives_68 (by decide) (fun h68 => ?_) (fun h68 => ?_)
    · exact absurd (z_ge h68 (show nI c = nI c from rfl) eQ (by omega) (by omega)) (by omega)
    · refine z_iload (pc := 71) dX7_gives_71 rfl ?_
      refine z_iload (pc := 73) dX7_gives_73 rfl ?_
      refine z_iconst (pc := 75) (v := (-1)) dX7_gives_75 (by decide) ?_
      refine z_ixor (pc := 76) dX7_gives_76 ?_
      refine z_iand (pc := 77) dX7_gives_77 ?_
      refine z_if_ne (pc := 78) (tgt := 147) dX7_gives_78 (by decide) (fun h78 => ?_) (fun h78 => ?_)
      · refine z_iinc (pc := 147) dX7_gives_147 rfl rfl rfl (by decide) ?_
        refine z_goto (pc := 150) (tgt := 60) dX7_gives_150 (by decide) ?_
        exact ih (c + 1) _ _ _ _ (by rw [giF, if_neg (fun q => h78 q.1)]; exact h6) (by rw [gwF, if_neg h78]; exact h7) (z_n1 rfl) (by omega)
      · have hsub := sub_bt h78
        have hmo := pc_mono hsub 7
        have hps := pc_sub hsub 7 (by decide)
        have eS : nI (pc 7 sh) - nI (pc 7 (nI c)) = nI (pc 7 (sh &&& (nI c ^^^ (-1)))) := by rw [pk_sub hmo]; exact congrArg nI (by omega)
        have q8 := pc_le (sh &&& (nI c ^^^ (-1))) 7
        refine z_iload_n (pc := 81) dX7_gives_81 rfl ?_
        refine z_iload (pc := 82) dX7_gives_82 rfl ?_
        refine z_cS1 (pc := 84) c_X7_ones (q_cX7_137 _ (by decide)) rfl dX7_gives_84 ?_
        refine z_cS2 (pc := 87) (c_X7_power (by omega)) (q_cX7_218 _ (by decide)) rfl dX7_gives_87 ?_
        refine z_bipush (pc := 90) (v := 10) dX7_gives_90 (by decide) ?_
        refine z_iload_n (pc := 92) dX7_gives_92 rfl ?_
        refine z_isub (pc := 93) dX7_gives_93 ?_
        refine z_iload (pc := 94) dX7_gives_94 rfl ?_
        refine z_cS1 (pc := 96) c_X7_ones (q_cX7_137 _ (by decide)) rfl dX7_gives_96 ?_
        refine z_iload (pc := 99) dX7_gives_99 rfl ?_
        refine z_cS1 (pc := 101) c_X7_ones (q_cX7_137 _ (by decide)) rfl dX7_gives_101 ?_
        refine z_isub (pc := 104) dX7_gives_104 ?_
        rw [e10, eS]
        refine z_cS2 (pc := 105) (c_X7_power (by omega)) (q_cX7_218 _ (by decide)) rfl dX7_gives_105 ?_
        refine z_imul (pc := 108) dX7_gives_108 ?_
        refine z_istore (pc := 109) dX7_gives_109 rfl (by decide) ?_
        refine z_iload (pc := 111) dX7_gives_111 rfl ?_
        refine z_iload (pc := 113) dX7_gives_113 rfl ?_
        refine z_iadd (pc := 115) dX7_gives_115 ?_
        refine z_istore (pc := 116) dX7_gives_116 rfl (by decide) ?_
        refine z_iload (pc := 118) dX7_gives_118 rfl ?_
        refine z_aload_n (pc := 120) dX7_gives_120 rfl ?_
        refine z_iload_n (pc := 121) dX7_gives_121 rfl ?_
        refine z_iload_n (pc := 122) dX7_gives_122 rfl ?_
        refine z_aload_n (pc := 123) dX7_gives_123 rfl ?_
        refine z_getR (pc := 124) 68 q_fX7_34 z_s59 rfl dX7_gives_124 ?_
        refine z_iconst (pc := 127) (v := 0) dX7_gives_127 (by decide) ?_
        refine z_iald (pc := 128) (0) z_s68 ⟨rfl, by omega⟩ dX7_gives_128 ?_
        refine z_iload (pc := 129) dX7_gives_129 rfl ?_
        refine z_ior (pc := 131) dX7_gives_131 ?_
        rw [ho]
        refine z_cV3 (pc := 132) hat (q_cX7_126 _ (by decide)) z_s59 rfl rfl dX7_gives_132 ?_
        refine z_if_eq (pc := 135) (tgt := 143) dX7_gives_135 (by decide) (fun h135 => ?_) (fun h135 => ?_)
        · refine z_iconst (pc := 143) (v := 0) dX7_gives_143 (by decide) ?_
          refine z_iadd (pc := 144) dX7_gives_144 ?_
          refine z_istore (pc := 145) dX7_gives_145 rfl (by decide) ?_
          refine z_iinc (pc := 147) dX7_gives_147 rfl rfl rfl (by decide) ?_
          refine z_goto (pc := 150) (tgt := 60) dX7_gives_150 (by decide) ?_
          have h135 := z_f h135
          exact ih (c + 1) _ _ _ _ (by rw [giF, if_neg (fun q => by rw [h135] at q; cases q.2), h6]; exact Int32.add_zero _) (by rw [gwF, if_pos h78, h7, nx_mul, nI_add]) (z_n1 rfl) (by omega)
        · refine z_iload (pc := 138) dX7_gives_138 rfl ?_
          refine z_goto (pc := 140) (tgt := 144) dX7_gives_140 (by decide) ?_
          refine z_iadd (pc := 144) dX7_gives_144 ?_
          refine z_istore (pc := 145) dX7_gives_145 rfl (by decide) ?_
          refine z_iinc (pc := 147) dX7_gives_147 rfl rfl rfl (by decide) ?_
          refine z_goto (pc := 150) (tgt := 60) dX7_gives_150 (by decide) ?_
          have h135 := z_t h135
          exact ih (c + 1) _ _ _ _ (by rw [giF, if_pos ⟨h78, h135⟩, h6, nx_mul, nI_add]) (by rw [gwF, if_pos h78, h7, nx_mul, nI_add]) (z_n1 rfl) (by omega)
set_option maxRecDepth 100000 in
set_option maxHeartbeats 400000 in
theorem o_X7_gives_no {M : z_Mem} {l : Nat → Int32} {n : Nat} {T : TT} {U : UT} {D : DT} {p : PLt} {A : List PLt} {k0 k1 : Option PLt} {L : List (Int32 × Int32)} {sd : Int64} (hR : RM M l n T U D p A k0 k1 L sd) {x y v z : Int32} (h : ¬ rfF x y = 0) : z_Ct mX7_gives [.ref 59, .int x, .int y, .int v, .int z] M (some (.int (rfF x y))) M := by
  obtain ⟨rS, rT, rU, rD, rp, rA, r0, r1, rL, rs⟩ := id hR

  refine z_entry (by decide +kernel) (Nat.le_of_ble_eq_true rfl) rfl ?_
  show z_Sm mX7_gives _ _ 0 [some (.ref 59), some (.int x), some (.int y), some (.int v), some (.int z), none, none, none, none, none] [] M
  refine z_iload_n (pc := 0) dX7_gives_0 rfl ?_
  refine z_cS1 (pc := 1) c_X7_isThing (q_cX7_150 _ (by decide)) rfl dX7_gives_1 ?_
  refine z_if_eq (pc := 4) (tgt := 14) dX7_gives_4 (by decide) (fun h4 => ?_) (fun h4 => ?_)
  · refine z_iconst (pc := 14) (v := (-1)) dX7_gives_14 (by decide) ?_
    refine z_iret (pc := 15) rfl dX7_gives_15 ?_ ?_
    · exact (show rfF x y = -1 by rw [rfF, z_f h4]; rfl).symm
    · rfl
  · refine z_iload_n (pc := 7) dX7_gives_7 rfl ?_
    refine z_cS1 (pc := 8) c_X7_isThing (q_cX7_150 _ (by decide)) rfl dX7_gives_8 ?_
    refine z_if_ne (pc := 11) (tgt := 16) dX7_gives_11 (by decide) (fun h11 => ?_) (fun h11 => ?_)
    · refine z_iload_n (pc := 16) dX7_gives_16 rfl ?_
      refine z_iload_n (pc := 17) dX7_gives_17 rfl ?_
      refine z_icmp_eq (pc := 18) (tgt := 33) dX7_gives_18 (by decide) (fun h18 => ?_) (fun h18 => ?_)
      · refine z_bipush (pc := 33) (v := (-2)) dX7_gives_33 (by decide) ?_
        refine z_iret (pc := 35) rfl dX7_gives_35 ?_ ?_
        · exact (show rfF x y = -2 by rw [rfF, z_t h4, z_t h11, show x = y from h18]; simp).symm
        · rfl
      · exact absurd (show rfF x y = 0 by rw [rfF, z_t h4, z_t h11]; exact if_neg h18) h
    · refine z_iconst (pc := 14) (v := (-1)) dX7_gives_14 (by decide) ?_
      refine z_iret (pc := 15) rfl dX7_gives_15 ?_ ?_
      · exact (show rfF x y = -1 by rw [rfF, z_f h11, Bool.and_false]; rfl).symm
      · rfl
set_option maxRecDepth 100000 in
set_option maxHeartbeats 400000 in
theorem o_X7_gives_no1 {M : z_Mem} {l : Nat → Int32} {n : Nat} {T : TT} {U : UT} {D : DT} {p : PLt} {A : List PLt} {k0 k1 : Option PLt} {L : List (Int32 × Int32)} {sd : Int64} (hR : RM M l n T U D p A k0 k1 L sd) {x y v z : Int32} (h : rfF x y = 0) (h2 : v < 0 ∨ 10 < v) : z_Ct mX7_gives [.ref 59, .int x, .int y, .int v, .int z] M (some (.int (-2))) M := by
  obtain ⟨rS, rT, rU, rD, rp, rA, r0, r1, rL, rs⟩ := id hR
  obtain ⟨hx, hy, hxy⟩ := rf_at h
  have hin := inB_no (b := 0) (c := 10) 0 10 (by decide) (by decide) h2

  refine z_entry (by decide +kernel) (Nat.le_of_ble_eq_true rfl) rfl ?_
  show z_Sm mX7_gives _ _ 0 [some (.ref 59), some (.int x), some (.int y), some (.int v), some (.int z), none, none, none, none, none] [] M
  refine z_iload_n (pc := 0) dX7_gives_0 rfl ?_
  refine z_cS1 (pc := 1) c_X7_isThing (q_cX7_150 _ (by decide)) rfl dX7_gives_1 ?_
  refine z_if_eq (pc := 4) (tgt := 14) dX7_gives_4 (by decide) (fun h4 => ?_) (fun h4 => ?_)
  · rw [hx] at h4; exact absurd h4 (by decide)
  · refine z_iload_n (pc := 7) dX7_gives_7 rfl ?_
    refine z_cS1 (pc := 8) c_X7_isThing (q_cX7_150 _ (by decide)) rfl dX7_gives_8 ?_
    refine z_if_ne (pc := 11) (tgt := 16) dX7_gives_11 (by decide) (fun h11 => ?_) (fun h11 => ?_)
    · refine z_iload_n (pc := 16) dX7_gives_16 rfl ?_
      refine z_iload_n (pc := 17) dX7_gives_17 rfl ?_
      refine z_icmp_eq (pc := 18) (tgt := 33) dX7_gives_18 (by decide) (fun h18 => ?_) (fun h18 => ?_)
      · exact absurd h18 hxy
      · refine z_iload_n (pc := 21) dX7_gives_21 rfl ?_
        refine z_i2l (pc := 22) dX7_gives_22 rfl ?_
        refine z_lconst (pc := 23) (v := 0) dX7_gives_23 (by decide) ?_
        refine z_ldc2 (pc := 24) q_kX7_216 dX7_gives_24 ?_
        refine z_cS3 (pc := 27) c_X7_in (q_cX7_70 _ (by decide)) rfl dX7_gives_27 ?_
        refine z_if_ne (pc := 30) (tgt := 36) dX7_gives_30 (by decide) (fun h30 => ?_) (fun h30 => ?_)
        · rw [hin] at h30; exact absurd rfl h30
        · refine z_bipush (pc := 33) (v := (-2)) dX7_gives_33 (by decide) ?_
          refine z_iret (pc := 35) rfl dX7_gives_35 ?_ ?_
          · rfl
          · rfl
    · rw [hy] at h11; exact absurd h11 (by decide)
set_option maxRecDepth 100000 in
set_option maxHeartbeats 400000 in
theorem o_X7_gives {M : z_Mem} {l : Nat → Int32} {n : Nat} {T : TT} {U : UT} {D : DT} {p : PLt} {A : List PLt} {k0 k1 : Option PLt} {L : List (Int32 × Int32)} {sd : Int64} (hR : RM M l n T U D p A k0 k1 L sd) {x y z : Int32} {w : Nat} (h : rfF x y = 0) (hw : w ≤ 10) : z_Ct mX7_gives [.ref 59, .int x, .int y, .int (nI w), .int z] M (some (.int (gvR T p.1 z x.toNatClampNeg y.toNatClampNeg w))) M := by
  obtain ⟨rS, rT, rU, rD, rp, rA, r0, r1, rL, rs⟩ := id hR
  obtain ⟨hx, hy, hxy⟩ := rf_at h
  have htx := thg_at hx
  have hty := thg_at hy
  have hnn : x.toNatClampNeg ≠ y.toNatClampNeg := fun q => hxy (by rw [htx.2, hty.2, q])
  have hin : inB (nI w).toInt64 0 10 = true := inB_yes (b := 0) (c := 10) 0 10 (by decide) (by decide) (fun q => q.elim (nI_pos (by omega)) (fun z => absurd ((nI_ltI (a := 10) (by decide) (by omega)).mp z) (by omega)))
  have e0 : M.1 68 0 = p.1 := rp.1
  have fin := s_X7_gives_60 rT (z := z) htx.2 hty.2 htx.1 hty.1 hw (o := p.1) rfl e0 (2 ^ T.1) 0 0 0 0 none rfl rfl rfl (by omega)

  refine z_entry (by decide +kernel) (Nat.le_of_ble_eq_true rfl) rfl ?_
  show z_Sm mX7_gives _ _ 0 [some (.ref 59), some (.int x), some (.int y), some (.int (nI w)), some (.int z), none, none, none, none, none] [] M
  refine z_iload_n (pc := 0) dX7_gives_0 rfl ?_
  refine z_cS1 (pc := 1) c_X7_isThing (q_cX7_150 _ (by decide)) rfl dX7_gives_1 ?_
  refine z_if_eq (pc := 4) (tgt := 14) dX7_gives_4 (by decide) (fun h4 => ?_) (fun h4 => ?_)
  · rw [hx] at h4; exact absurd h4 (by decide)
  · refine z_iload_n (pc := 7) dX7_gives_7 rfl ?_
    refine z_cS1 (pc := 8) c_X7_isThing (q_cX7_150 _ (by decide)) rfl dX7_gives_8 ?_
    refine z_if_ne (pc := 11) (tgt := 16) dX7_gives_11 (by decide) (fun h11 => ?_) (fun h11 => ?_)
    · refine z_iload_n (pc := 16) dX7_gives_16 rfl ?_
      refine z_iload_n (pc := 17) dX7_gives_17 rfl ?_
      refine z_icmp_eq (pc := 18) (tgt := 33) dX7_gives_18 (by decide) (fun h18 => ?_) (fun h18 => ?_)
      · exact absurd h18 hxy
      · refine z_iload_n (pc := 21) dX7_gives_21 rfl ?_
        refine z_i2l (pc := 22) dX7_gives_22 rfl ?_
        refine z_lconst (pc := 23) (v := 0) dX7_gives_23 (by decide) ?_
        refine z_ldc2 (pc := 24) q_kX7_216 dX7_gives_24 ?_
        refine z_cS3 (pc := 27) c_X7_in (q_cX7_70 _ (by decide)) rfl dX7_gives_27 ?_
        refine z_if_ne (pc := 30) (tgt := 36) dX7_gives_30 (by decide) (fun h30 => ?_) (fun h30 => ?_)
        · refine z_aload_n (pc := 36) dX7_gives_36 rfl ?_
          refine z_cV0 (pc := 37) (c_X7_all rT) (q_cX7_177 _ (by decide)) z_s59 rfl rfl dX7_gives_37 ?_
          refine z_aload_n (pc := 40) dX7_gives_40 rfl ?_
          refine z_getR (pc := 41) 68 q_fX7_34 z_s59 rfl dX7_gives_41 ?_
          refine z_iconst (pc := 44) (v := 0) dX7_gives_44 (by decide) ?_
          refine z_iald (pc := 45) (0) z_s68 ⟨rfl, by omega⟩ dX7_gives_45 ?_
          rw [e0]
          refine z_iconst (pc := 46) (v := (-1)) dX7_gives_46 (by decide) ?_
          refine z_ixor (pc := 47) dX7_gives_47 ?_
          refine z_iand (pc := 48) dX7_gives_48 ?_
          refine z_istore (pc := 49) dX7_gives_49 rfl (by decide) ?_
          refine z_iconst (pc := 51) (v := 0) dX7_gives_51 (by decide) ?_
          refine z_istore (pc := 52) dX7_gives_52 rfl (by decide) ?_
          refine z_iconst (pc := 54) (v := 0) dX7_gives_54 (by decide) ?_
          refine z_istore (pc := 55) dX7_gives_55 rfl (by decide) ?_
          refine z_iconst (pc := 57) (v := 0) dX7_gives_57 (by decide) ?_
          refine z_istore (pc := 58) dX7_gives_58 rfl (by decide) ?_
          exact fin
        · rw [hin] at h30; exact absurd h30 (by decide)
    · rw [hy] at h11; exact absurd h11 (by decide)
