/-! the tape's bytes alike in class and model (for p4) -/
def bq (w : List (List xE)) (b k : Nat) : Prop := fld w b 1 ≤ 500 ∧ ∀ j, j < fld w b 1 → rwv w 83 (1340 * k + 400 + j) = rwk w (b + 1) j % 256
theorem bq.cp {w w' : List (List xE)} {D S k k' : Nat} (h : bq w S k) (e : tdE w' D w S) (r : ∀ j, j < 1340 → rwv w' 83 (1340 * k' + j) = rwv w 83 (1340 * k + j)) : bq w' D k' := by
  obtain ⟨h1, h2⟩ := h
  obtain ⟨⟨e1, -⟩, e2, -⟩ := e
  refine ⟨by rw [e1]; exact h1, fun j hj => ?_⟩
  rw [e1] at hj
  have a1 := r (400 + j) (by omega)
  rw [← Nat.add_assoc, ← Nat.add_assoc] at a1
  rw [a1, h2 j hj]
  exact congrArg (· % 256) (e2 j (by omega)).symm
theorem bq.kp {w w' : List (List xE)} {b k : Nat} (h : bq w b k) (hc : ∀ o, o < 25 → wget w' (b + o) = wget w (b + o)) (hr : ∀ j, 1340 * k ≤ j → j < 1340 * k + 1340 → rwv w' 83 j = rwv w 83 j) : bq w' b k := h.cp (tdE.rf.tr0 hc (fun _ _ => rfl)) (fun j hj => hr _ (by omega) (by omega))
/-- a call that leaves the tape, or cuts it -/
theorem bq.st {w w2 : List (List xE)} (h : bq w 1 0) (e1 : fld w2 1 1 ≤ fld w 1 1) (e2 : ∀ j, j < fld w2 1 1 → rwk w2 2 j = rwk w 2 j) (r : ∀ j, j < fld w2 1 1 → rwv w2 83 (400 + j) = rwv w 83 (400 + j)) : bq w2 1 0 := by
  obtain ⟨h1, h2⟩ := h
  refine ⟨by omega, fun j hj => ?_⟩
  have a := h2 j (by omega)
  rw [show 1340 * 0 + 400 + j = 400 + j by omega] at a ⊢
  rw [r j hj, a]
  exact congrArg (· % 256) (e2 j hj).symm
/-- feed -/
theorem bq.fd {w w1 w2 : List (List xE)} {S : List Nat} {a b c d e n n2 : Nat} (h : bq w 1 0) (hl : fld w 1 1 = rwv w 83 15) (hF : (n = fld w 1 1 + 20 ∧ fld w 1 1 ≤ 480 ∧ fld w1 1 1 = fld w 1 1 + 20 ∧ (∀ i, i < 20 → rwk w1 2 (fld w 1 1 + i) % 256 = fdB a b c d e i) ∧ (∀ j, j < fld w 1 1 → rwk w1 2 j = rwk w 2 j)) ∨ (n = 4294967295 ∧ ¬ fld w 1 1 ≤ 480 ∧ w1 = w)) (hR : xFr S w w1) (hS : 83 ∉ S) (hG : ((n2 = rwv w1 83 15 + 20 ∧ rwv w1 83 15 ≤ 480 ∧ rwv w2 83 15 = rwv w1 83 15 + 20 ∧ (∀ i, i < 20 → rwv w2 83 (400 + rwv w1 83 15 + i) = fdB a b c d e i)) ∨ (n2 = 4294967295 ∧ ¬ rwv w1 83 15 ≤ 480 ∧ rwv w2 83 15 = rwv w1 83 15)) ∧ ∀ j, j < 5360 → (j ≠ 15 ∧ (j < 400 + rwv w1 83 15 ∨ 900 ≤ j)) → rwv w2 83 j = rwv w1 83 j) (hR2 : xFr [83] w1 w2) : n = n2 ∧ bq w2 1 0 ∧ fld w2 1 1 = rwv w2 83 15 := by
  obtain ⟨h1, h2⟩ := h
  obtain ⟨g1, g2⟩ := hG
  have k83 : ∀ j, rwv w1 83 j = rwv w 83 j := fun j => rwv_fr hR hS
  have c1 : fld w2 1 1 = fld w1 1 1 := fld_fr hR2 (by decide)
  have c2 : ∀ j, rwk w2 2 j = rwk w1 2 j := fun j => rwv_fr hR2 (by decide)
  have k15 := k83 15
  rcases hF with ⟨f1, f2, f3, f4, f5⟩ | ⟨f1, f2, rfl⟩
  · rcases g1 with ⟨x1, x2, x3, x4⟩ | ⟨x1, x2, x3⟩
    · refine ⟨by omega, ⟨by omega, fun j hj => ?_⟩, by omega⟩
      rw [show 1340 * 0 + 400 + j = 400 + j by omega]
      show _ = rwk w2 2 j % 256
      rw [c2]
      by_cases y : j < fld w 1 1
      · have a := h2 j y
        rw [show 1340 * 0 + 400 + j = 400 + j by omega] at a
        rw [g2 (400 + j) (by omega) ⟨by omega, by omega⟩, k83, a, f5 j y]
      · have a := f4 (j - fld w 1 1) (by omega)
        have b' := x4 (j - fld w 1 1) (by omega)
        rw [show fld w 1 1 + (j - fld w 1 1) = j by omega] at a
        rw [show 400 + rwv w1 83 15 + (j - fld w 1 1) = 400 + j by omega] at b'
        rw [b', a]
    · omega
  · rcases g1 with ⟨x1, x2, x3, x4⟩ | ⟨x1, x2, x3⟩
    · omega
    · refine ⟨by omega, ⟨by omega, fun j hj => ?_⟩, by omega⟩
      have a := h2 j (by omega)
      rw [show 1340 * 0 + 400 + j = 400 + j by omega] at a ⊢
      show _ = rwk w2 2 j % 256
      rw [c2, g2 (400 + j) (by omega) ⟨by omega, by omega⟩, a]
/-- the texts that film reads on both sides -/
theorem bq.txt {w w1 : List (List xE)} {S : List Nat} (h : bq w 1 0) (hR : xFr S w w1) (hS : 83 ∉ S) : bsr w (fun j => rwk w 2 j % 256) (fld w 1 1) ∧ bsm w1 (fun j => rwk w 2 j % 256) (fld w 1 1) := by
  obtain ⟨h1, h2⟩ := h
  refine ⟨⟨h1, fun j _ => rfl⟩, h1, fun j hj => ⟨?_, by have := Nat.mod_lt (rwk w 2 j) (show 0 < 256 by decide); show rwk w 2 j % 256 ≤ 255; omega⟩⟩
  have a := h2 j hj
  rw [show 1340 * 0 + 400 + j = 400 + j by omega] at a
  exact (rwv_fr hR hS).trans a
