def arO (T : TT) (p : PLt) (t u a b : Nat) : Nat → Bool
  | 0 => true
  | c + 1 => arO T p t u a b c && (decide (g1F T p t u c b ≤ g1F T p t u a b) && decide (g2F T p t u a c ≤ g2F T p t u a b))
theorem arO_iff {T : TT} {p : PLt} {t u a b : Nat} : ∀ n, arO T p t u a b n = true ↔ ∀ c, c < n → g1F T p t u c b ≤ g1F T p t u a b ∧ g2F T p t u a c ≤ g2F T p t u a b
  | 0 => ⟨fun _ c h => absurd h (Nat.not_lt_zero c), fun _ => rfl⟩
  | n + 1 => by
    rw [arO, Bool.and_eq_true, Bool.and_eq_true, decide_eq_true_eq, decide_eq_true_eq, arO_iff n]
    constructor
    · rintro ⟨h1, h2⟩ c hc
      by_cases e : c = n
      · subst e; exact h2
      · exact h1 c (by omega)
    · exact fun h => ⟨fun c hc => h c (by omega), h n (by omega)⟩
theorem arO_B {T : TT} {p : PLt} {t u a b : Nat} : arO T p t u a b 3 = arB T p t u a b := by
  cases e : arB T p t u a b
  · cases e2 : arO T p t u a b 3
    · rfl
    · rw [arB_iff.mpr ((arO_iff 3).mp e2)] at e; cases e
  · exact (arO_iff 3).mpr (arB_iff.mp e)
