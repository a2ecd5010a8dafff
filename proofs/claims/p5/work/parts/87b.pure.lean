/-- numbers of the tests that were told -/
def tsV (t : Nat → Nat) (n : Nat) : Prop := n ≤ 12 ∧ ∀ i, i < n → (1 ≤ t (4 * i) ∧ t (4 * i) ≤ 9) ∧ t (4 * i + 1) ≤ 999999 ∧ t (4 * i + 2) ≤ 99 ∧ t (4 * i + 3) ≤ 99
theorem tsV.cg {t t' : Nat → Nat} {n : Nat} (h : tsV t n) (e : ∀ j, j < n * 4 → t' j = t j) : tsV t' n := by
  obtain ⟨h1, h2⟩ := h
  refine ⟨h1, fun i hi => ?_⟩
  rw [e (4 * i) (by omega), e (4 * i + 1) (by omega), e (4 * i + 2) (by omega), e (4 * i + 3) (by omega)]
  exact h2 i hi