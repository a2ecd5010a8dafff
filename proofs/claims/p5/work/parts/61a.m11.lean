/-! the model: lines of films -/
def DATA (w : List (List xE)) : Prop := rwv w 85 0 ≤ 6 ∧ rwv w 85 1 ≤ 4 ∧ rwv w 85 2 ≤ 6 ∧ rwv w 85 3 ≤ 4 ∧ rwv w 85 4 ≤ 20 ∧ (1 ≤ rwv w 86 5 ∧ rwv w 86 5 ≤ 6) ∧ (1 ≤ rwv w 86 6 ∧ rwv w 86 6 ≤ 6) ∧ (1 ≤ rwv w 86 7 ∧ rwv w 86 7 ≤ 10) ∧ (1 ≤ rwv w 86 8 ∧ rwv w 86 8 ≤ 10) ∧ (∀ k i, k < rwv w 85 0 → i < 3 → 1 ≤ rwv w 86 (20 + 4 * k + i) ∧ rwv w 86 (20 + 4 * k + i) ≤ 99) ∧ ∀ k, k < rwv w 85 1 → 1 ≤ rwv w 86 (51 + 2 * k) ∧ rwv w 86 (51 + 2 * k) ≤ 999
theorem DATA.s0 {w w' : List (List xE)} {K : Nat} (h : DATA w) (hm : ∀ s, s < 7 → s ≠ 0 → rwv w' 85 s = rwv w 85 s) (hK : rwv w 85 0 = K) (hK' : rwv w' 85 0 = K + 1) (hl : K < 6) (hos : ∀ j, (j < 20 + 4 * K ∨ 24 + 4 * K ≤ j) → j < 140 → rwv w' 86 j = rwv w 86 j) (hn : 1 ≤ rwv w' 86 (20 + 4 * K + 0) ∧ rwv w' 86 (20 + 4 * K + 0) ≤ 99 ∧ 1 ≤ rwv w' 86 (20 + 4 * K + 1) ∧ rwv w' 86 (20 + 4 * K + 1) ≤ 99 ∧ 1 ≤ rwv w' 86 (20 + 4 * K + 2) ∧ rwv w' 86 (20 + 4 * K + 2) ≤ 99) : DATA w' := by
  obtain ⟨m0, m1, m2, m3, m4, r5, r6, r7, r8, d0, d1⟩ := h
  have e1 := hm 1 (by decide) (by decide)
  have e2 := hm 2 (by decide) (by decide)
  have e3 := hm 3 (by decide) (by decide)
  have e4 := hm 4 (by decide) (by decide)
  have f5 := hos 5 (by omega) (by decide)
  have f6 := hos 6 (by omega) (by decide)
  have f7 := hos 7 (by omega) (by decide)
  have f8 := hos 8 (by omega) (by decide)
  refine ⟨by omega, by omega, by omega, by omega, by omega, by omega, by omega, by omega, by omega, fun k i hk hi => ?_, fun k hk => ?_⟩
  · by_cases z : k = K
    · subst z
      rcases (show i = 0 ∨ i = 1 ∨ i = 2 by omega) with rfl | rfl | rfl <;> omega
    · rw [hos _ (by omega) (by omega)]
      exact d0 k i (by omega) hi
  · rw [hos _ (by omega) (by omega)]
    exact d1 k (by omega)
theorem DATA.s1 {w w' : List (List xE)} {K : Nat} (h : DATA w) (hm : ∀ s, s < 7 → s ≠ 1 → rwv w' 85 s = rwv w 85 s) (hK : rwv w 85 1 = K) (hK' : rwv w' 85 1 = K + 1) (hl : K < 4) (hos : ∀ j, (j < 50 + 2 * K ∨ 52 + 2 * K ≤ j) → j < 140 → rwv w' 86 j = rwv w 86 j) (hn : 1 ≤ rwv w' 86 (50 + 2 * K + 1) ∧ rwv w' 86 (50 + 2 * K + 1) ≤ 999) : DATA w' := by
  obtain ⟨m0, m1, m2, m3, m4, r5, r6, r7, r8, d0, d1⟩ := h
  have e0 := hm 0 (by decide) (by decide)
  have e2 := hm 2 (by decide) (by decide)
  have e3 := hm 3 (by decide) (by decide)
  have e4 := hm 4 (by decide) (by decide)
  have f5 := hos 5 (by omega) (by decide)
  have f6 := hos 6 (by omega) (by decide)
  have f7 := hos 7 (by omega) (by decide)
  have f8 := hos 8 (by omega) (by decide)
  refine ⟨by omega, by omega, by omega, by omega, by omega, by omega, by omega, by omega, by omega, fun k i hk hi => ?_, fun k hk => ?_⟩
  · rw [hos _ (by omega) (by omega)]
    exact d0 k i (by omega) hi
  · by_cases z : k = K
    · subst z
      have e : 51 + 2 * k = 50 + 2 * k + 1 := by omega
      rw [e]
      exact hn
    · rw [hos _ (by omega) (by omega)]
      exact d1 k (by omega)
theorem DATA.s2 {w w' : List (List xE)} {K : Nat} (h : DATA w) (hm : ∀ s, s < 7 → s ≠ 2 → rwv w' 85 s = rwv w 85 s) (hK : rwv w 85 2 = K) (hK' : rwv w' 85 2 = K + 1) (hl : K < 6) (hos : ∀ j, (j < 60 + 2 * K ∨ 62 + 2 * K ≤ j) → j < 140 → rwv w' 86 j = rwv w 86 j) (hn : True) : DATA w' := by
  obtain ⟨m0, m1, m2, m3, m4, r5, r6, r7, r8, d0, d1⟩ := h
  have e0 := hm 0 (by decide) (by decide)
  have e1 := hm 1 (by decide) (by decide)
  have e3 := hm 3 (by decide) (by decide)
  have e4 := hm 4 (by decide) (by decide)
  have f5 := hos 5 (by omega) (by decide)
  have f6 := hos 6 (by omega) (by decide)
  have f7 := hos 7 (by omega) (by decide)
  have f8 := hos 8 (by omega) (by decide)
  refine ⟨by omega, by omega, by omega, by omega, by omega, by omega, by omega, by omega, by omega, fun k i hk hi => ?_, fun k hk => ?_⟩
  · rw [hos _ (by omega) (by omega)]
    exact d0 k i (by omega) hi
  · rw [hos _ (by omega) (by omega)]
    exact d1 k (by omega)
theorem DATA.s3 {w w' : List (List xE)} {K : Nat} (h : DATA w) (hm : ∀ s, s < 7 → s ≠ 3 → rwv w' 85 s = rwv w 85 s) (hK : rwv w 85 3 = K) (hK' : rwv w' 85 3 = K + 1) (hl : K < 4) (hos : ∀ j, (j < 80 + 3 * K ∨ 83 + 3 * K ≤ j) → j < 140 → rwv w' 86 j = rwv w 86 j) (hn : True) : DATA w' := by
  obtain ⟨m0, m1, m2, m3, m4, r5, r6, r7, r8, d0, d1⟩ := h
  have e0 := hm 0 (by decide) (by decide)
  have e1 := hm 1 (by decide) (by decide)
  have e2 := hm 2 (by decide) (by decide)
  have e4 := hm 4 (by decide) (by decide)
  have f5 := hos 5 (by omega) (by decide)
  have f6 := hos 6 (by omega) (by decide)
  have f7 := hos 7 (by omega) (by decide)
  have f8 := hos 8 (by omega) (by decide)
  refine ⟨by omega, by omega, by omega, by omega, by omega, by omega, by omega, by omega, by omega, fun k i hk hi => ?_, fun k hk => ?_⟩
  · rw [hos _ (by omega) (by omega)]
    exact d0 k i (by omega) hi
  · rw [hos _ (by omega) (by omega)]
    exact d1 k (by omega)
theorem DATA.s4 {w w' : List (List xE)} {K : Nat} (h : DATA w) (hm : ∀ s, s < 7 → s ≠ 4 → rwv w' 85 s = rwv w 85 s) (hK : rwv w 85 4 = K) (hK' : rwv w' 85 4 = K + 1) (hl : K < 20) (hos : ∀ j, (j < 100 + 2 * K ∨ 102 + 2 * K ≤ j) → j < 140 → rwv w' 86 j = rwv w 86 j) (hn : True) : DATA w' := by
  obtain ⟨m0, m1, m2, m3, m4, r5, r6, r7, r8, d0, d1⟩ := h
  have e0 := hm 0 (by decide) (by decide)
  have e1 := hm 1 (by decide) (by decide)
  have e2 := hm 2 (by decide) (by decide)
  have e3 := hm 3 (by decide) (by decide)
  have f5 := hos 5 (by omega) (by decide)
  have f6 := hos 6 (by omega) (by decide)
  have f7 := hos 7 (by omega) (by decide)
  have f8 := hos 8 (by omega) (by decide)
  refine ⟨by omega, by omega, by omega, by omega, by omega, by omega, by omega, by omega, by omega, fun k i hk hi => ?_, fun k hk => ?_⟩
  · rw [hos _ (by omega) (by omega)]
    exact d0 k i (by omega) hi
  · rw [hos _ (by omega) (by omega)]
    exact d1 k (by omega)
theorem DATA.s5 {w w' : List (List xE)} {K : Nat} (h : DATA w) (hm : ∀ s, s < 7 → s ≠ 5 → rwv w' 85 s = rwv w 85 s) (hK : rwv w 85 5 = K) (hK' : rwv w' 85 5 = K + 1) (hl : K < 1) (hos : ∀ j, (j < 7 ∨ 9 ≤ j) → j < 140 → rwv w' 86 j = rwv w 86 j) (hn : 1 ≤ rwv w' 86 7 ∧ rwv w' 86 7 ≤ 10 ∧ 1 ≤ rwv w' 86 8 ∧ rwv w' 86 8 ≤ 10) : DATA w' := by
  obtain ⟨m0, m1, m2, m3, m4, r5, r6, r7, r8, d0, d1⟩ := h
  have e0 := hm 0 (by decide) (by decide)
  have e1 := hm 1 (by decide) (by decide)
  have e2 := hm 2 (by decide) (by decide)
  have e3 := hm 3 (by decide) (by decide)
  have e4 := hm 4 (by decide) (by decide)
  have f5 := hos 5 (by omega) (by decide)
  have f6 := hos 6 (by omega) (by decide)
  refine ⟨by omega, by omega, by omega, by omega, by omega, by omega, by omega, by omega, by omega, fun k i hk hi => ?_, fun k hk => ?_⟩
  · rw [hos _ (by omega) (by omega)]
    exact d0 k i (by omega) hi
  · rw [hos _ (by omega) (by omega)]
    exact d1 k (by omega)
theorem DATA.s6 {w w' : List (List xE)} {K : Nat} (h : DATA w) (hm : ∀ s, s < 7 → s ≠ 6 → rwv w' 85 s = rwv w 85 s) (hK : rwv w 85 6 = K) (hK' : rwv w' 85 6 = K + 1) (hl : K < 1) (hos : ∀ j, (j < 5 ∨ 7 ≤ j) → j < 140 → rwv w' 86 j = rwv w 86 j) (hn : 1 ≤ rwv w' 86 5 ∧ rwv w' 86 5 ≤ 6 ∧ 1 ≤ rwv w' 86 6 ∧ rwv w' 86 6 ≤ 6) : DATA w' := by
  obtain ⟨m0, m1, m2, m3, m4, r5, r6, r7, r8, d0, d1⟩ := h
  have e0 := hm 0 (by decide) (by decide)
  have e1 := hm 1 (by decide) (by decide)
  have e2 := hm 2 (by decide) (by decide)
  have e3 := hm 3 (by decide) (by decide)
  have e4 := hm 4 (by decide) (by decide)
  have f7 := hos 7 (by omega) (by decide)
  have f8 := hos 8 (by omega) (by decide)
  refine ⟨by omega, by omega, by omega, by omega, by omega, by omega, by omega, by omega, by omega, fun k i hk hi => ?_, fun k hk => ?_⟩
  · rw [hos _ (by omega) (by omega)]
    exact d0 k i (by omega) hi
  · rw [hos _ (by omega) (by omega)]
    exact d1 k (by omega)
section XMB
variable {d : Nat} {w : List (List xE)} {bd : List (Nat × Nat)} {fc : List (Nat × Nat × Bool)} {rr : Nat × Nat}
end XMB
