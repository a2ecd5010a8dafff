/-! layers told alike: the bend's numbers -/
theorem al.beq {w : List (List xE)} (h : al w 1 0) : bEq (fun j => rwv w 83 (20 + j)) (fun q => q) (rwv w 5) (fun q => q) (fld w 4 3) := ⟨fun j hj => h.2.2.1.2.1.get (show j < fld w 4 3 * 4 by omega), fun _ hq => ⟨rfl, hq⟩⟩
theorem al.s0 {w : List (List xE)} (h : al w 1 0) : fld w 4 3 = rwv w 83 0 := h.2.2.1.2.1.sz
theorem al.ht {w : List (List xE)} (h : al w 1 0) (hM : xMnv w) : ∀ k i, k < fld w 4 3 → i < 3 → 1 ≤ rwv w 5 (4 * k + i) ∧ rwv w 5 (4 * k + i) ≤ 99 := fun k i hk hi => by
  have e : rwv w 5 (4 * k + i) = rwv w 83 (20 + (4 * k + i)) := h.2.2.1.2.1.get (show 4 * k + i < fld w 4 3 * 4 by omega)
  have s := h.s0
  rw [e]
  exact xMnv.lay hM (by omega) hi
