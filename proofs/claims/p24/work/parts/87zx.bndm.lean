/-! the model: layers laid -/
theorem xMnv.lay {w : List (List xE)} (hI : xMnv w) {k i : Nat} (hk : k < rwv w 83 0) (hi : i < 3) : 1 ≤ rwv w 83 (20 + (4 * k + i)) ∧ rwv w 83 (20 + (4 * k + i)) ≤ 99 := by
  obtain ⟨f, h, hb, hx⟩ := (hI 83 (by decide) (by decide) : cpx83 (wget w 83))
  have h : xRow w 83 5360 50 f := h
  rw [rwv_of (j := 0) h (by decide)] at hk
  have l := hx.l0
  have q := hx.lay hk hi
  rw [rwv_of (j := 20 + (4 * k + i)) h (by omega), ← Nat.add_assoc]
  exact q
theorem xMnv.l0 {w : List (List xE)} (hI : xMnv w) : rwv w 83 0 ≤ 6 := by
  obtain ⟨f, h, hb, hx⟩ := (hI 83 (by decide) (by decide) : cpx83 (wget w 83))
  have h : xRow w 83 5360 50 f := h
  rw [rwv_of (j := 0) h (by decide)]
  exact hx.l0
section XBM
variable {d : Nat} {w : List (List xE)} {bd : List (Nat × Nat)} {fc : List (Nat × Nat × Bool)} {rr : Nat × Nat}
end XBM
