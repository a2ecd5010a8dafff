/-! what numbers of pictures can be; ages, alike -/
def vP (R : Nat → Nat) : Prop := R 10 ≤ 12 ∧ ∀ p, p < R 10 → (∀ t, t < 4 → R (300 + 6 * p + t) ≤ 5) ∧ R (304 + 6 * p) ≤ 9 ∧ R (305 + 6 * p) ≤ 999
theorem vP.cg {R R' : Nat → Nat} (h : vP R) (e : ∀ j, (j = 10 ∨ (300 ≤ j ∧ j < 372)) → R' j = R j) : vP R' := by
  obtain ⟨a, b⟩ := h
  have e0 := e 10 (Or.inl rfl)
  refine ⟨by omega, fun p hp => ?_⟩
  obtain ⟨c, d⟩ := b p (by omega)
  refine ⟨fun t ht => ?_, ?_⟩
  · rw [e (300 + 6 * p + t) (by omega)]
    exact c t ht
  · rw [e (304 + 6 * p) (by omega), e (305 + 6 * p) (by omega)]
    exact d
theorem vP.e0 {R : Nat → Nat} (h : R 10 = 0) : vP R := ⟨by omega, fun p hp => absurd hp (by omega)⟩
theorem vP.pic {w1 w2 : List (List xE)} {n2 pa pb pc_ pd li ho : Nat} (h : vP (rwv w1 83)) (hm : rwv w1 83 5 ≤ 6 ∧ rwv w1 83 6 ≤ 6) (hG : ((n2 = rwv w1 83 10 + 1 ∧ rwv w1 83 10 < 12 ∧ ((pa ≤ pb ∧ pb < rwv w1 83 5) ∧ (pc_ ≤ pd ∧ pd < rwv w1 83 6) ∧ (1 ≤ li ∧ li ≤ 9) ∧ (1 ≤ ho ∧ ho ≤ 999)) ∧ rwv w2 83 10 = rwv w1 83 10 + 1) ∨ (n2 = 4294967295 ∧ ¬ (rwv w1 83 10 < 12 ∧ ((pa ≤ pb ∧ pb < rwv w1 83 5) ∧ (pc_ ≤ pd ∧ pd < rwv w1 83 6) ∧ (1 ≤ li ∧ li ≤ 9) ∧ (1 ≤ ho ∧ ho ≤ 999))) ∧ rwv w2 83 10 = rwv w1 83 10)) ∧ (n2 ≠ 4294967295 → rwv w2 83 (300 + 6 * rwv w1 83 10) = pa ∧ rwv w2 83 (300 + 6 * rwv w1 83 10 + 1) = pb ∧ rwv w2 83 (300 + 6 * rwv w1 83 10 + 2) = pc_ ∧ rwv w2 83 (300 + 6 * rwv w1 83 10 + 3) = pd ∧ rwv w2 83 (300 + 6 * rwv w1 83 10 + 4) = li ∧ rwv w2 83 (300 + 6 * rwv w1 83 10 + 5) = ho) ∧ (∀ j, (j ≠ 10 ∧ (j < 300 + 6 * rwv w1 83 10 ∨ 306 + 6 * rwv w1 83 10 ≤ j)) → j < 5360 → rwv w2 83 j = rwv w1 83 j)) : vP (rwv w2 83) := by
  obtain ⟨g1, g2, g3⟩ := hG
  obtain ⟨a, b⟩ := h
  rcases g1 with ⟨z1, z2, z3, z4⟩ | ⟨z1, -, z3⟩
  · obtain ⟨v0, v1, v2, v3, v4, v5⟩ := g2 (by omega)
    refine ⟨by omega, fun p hp => ?_⟩
    by_cases e : p = rwv w1 83 10
    · subst e
      refine ⟨fun t ht => ?_, ?_⟩
      · rcases (show t = 0 ∨ t = 1 ∨ t = 2 ∨ t = 3 by omega) with rfl | rfl | rfl | rfl
        · rw [Nat.add_zero, v0]
          omega
        · rw [v1]
          omega
        · rw [v2]
          omega
        · rw [v3]
          omega
      · rw [show 304 + 6 * rwv w1 83 10 = 300 + 6 * rwv w1 83 10 + 4 by omega, v4, show 305 + 6 * rwv w1 83 10 = 300 + 6 * rwv w1 83 10 + 5 by omega, v5]
        omega
    · have q := b p (by omega)
      refine ⟨fun t ht => ?_, ?_⟩
      · rw [g3 (300 + 6 * p + t) (by omega) (by omega)]
        exact q.1 t ht
      · rw [g3 (304 + 6 * p) (by omega) (by omega), g3 (305 + 6 * p) (by omega) (by omega)]
        exact q.2
  · refine ⟨by omega, fun p hp => ?_⟩
    have q := b p (by omega)
    refine ⟨fun t ht => ?_, ?_⟩
    · rw [g3 (300 + 6 * p + t) (by omega) (by omega)]
      exact q.1 t ht
    · rw [g3 (304 + 6 * p) (by omega) (by omega), g3 (305 + 6 * p) (by omega) (by omega)]
      exact q.2
def a8 (w : List (List xE)) (b k : Nat) : Prop := a6 w b k ∧ vP (fun j => rwv w 83 (1340 * k + j))
theorem a8.cp {w w' : List (List xE)} {D S k k' : Nat} (h : a8 w S k) (e : tdE w' D w S) (r : ∀ j, j < 1340 → rwv w' 83 (1340 * k' + j) = rwv w 83 (1340 * k + j)) : a8 w' D k' := ⟨h.1.cp e r, h.2.cg (fun j hj => r j (by omega))⟩
theorem a8.kp {w w' : List (List xE)} {b k : Nat} (h : a8 w b k) (hc : ∀ o, o < 25 → wget w' (b + o) = wget w (b + o)) (hr : ∀ j, 1340 * k ≤ j → j < 1340 * k + 1340 → rwv w' 83 j = rwv w 83 j) : a8 w' b k := h.cp (tdE.rf.tr0 hc (fun _ _ => rfl)) (fun j hj => hr _ (by omega) (by omega))
theorem a8.gP {w : List (List xE)} (h : a8 w 1 0) : vP (rwv w 83) := by
  have q := h.2
  rw [blk0] at q
  exact q
theorem a8.mk {w : List (List xE)} (h : a6 w 1 0) (hP : vP (rwv w 83)) : a8 w 1 0 := by
  refine ⟨h, ?_⟩
  rw [blk0]
  exact hP
theorem a8.s37 {w : List (List xE)} (h : a8 w 1 0) : fld w 3 7 = rwv w 83 5 := h.1.1.2.2.1.1.2.2.1
theorem a8.s38 {w : List (List xE)} (h : a8 w 1 0) : fld w 3 8 = rwv w 83 6 := h.1.1.2.2.1.1.2.2.2.1
theorem a8.pic {w : List (List xE)} (h : a8 w 1 0) : fld w 16 3 = rwv w 83 10 ∧ ∀ i, i < fld w 16 3 → (∀ t, t < 4 → rwv w 17 (5 * i + t) = rwv w 83 (300 + 6 * i + t)) ∧ rwv w 17 (5 * i + 4) = rwv w 83 (304 + 6 * i) * rwv w 83 (305 + 6 * i) := by
  obtain ⟨h1, -, h3⟩ := h.1.1.2.2.2.1
  refine ⟨by rw [Nat.mul_zero, Nat.zero_add] at h1; exact h1, fun i hi => ?_⟩
  obtain ⟨q1, q2⟩ := h3 i hi
  refine ⟨fun t ht => ?_, ?_⟩
  · have q := q1 t ht
    rw [Nat.mul_zero, Nat.zero_add] at q
    exact q
  · rw [Nat.mul_zero, Nat.zero_add, Nat.zero_add] at q2
    exact q2
theorem a8.hq {w : List (List xE)} (h : a8 w 1 0) : agQ w := by
  intro p hp
  obtain ⟨e, q⟩ := h.pic
  obtain ⟨q1, q2⟩ := q p hp
  obtain ⟨b1, b2, b3⟩ := h.gP.2 p (by omega)
  refine ⟨fun t ht => by rw [q1 t ht]; exact b1 t ht, ?_⟩
  rw [q2]
  exact Nat.mul_le_mul b2 b3
theorem a8.ag {w : List (List xE)} (h : a8 w 1 0) : ag (agP (rwv w 83)) (rwv w 83 10) = ag (rwv w 17) (fld w 16 3) := by
  obtain ⟨e, q⟩ := h.pic
  funext k
  rw [← e]
  refine ag_cg (fun p hp => ?_)
  obtain ⟨q1, q2⟩ := q p hp
  refine ⟨fun t ht => ?_, ?_⟩
  · rw [q1 t ht]
    show (if (5 * p + t) % 5 = 4 then _ else _) = _
    rw [if_neg (by omega), show (5 * p + t) / 5 = p by omega, show (5 * p + t) % 5 = t by omega]
  · rw [q2]
    exact agm_4
theorem agV.film {w w1 : List (List xE)} {n : Nat} (h : agV w) (h1 : n ≠ 4294967295 → fld w1 68 4 = 0) (h2 : n = 4294967295 → wget w1 68 = wget w 68 ∧ wget w1 69 = wget w 69) (h3 : n = 4294967295 → ∀ c, 3 ≤ c → c < 26 → wget w1 c = wget w c) : agV w1 := by
  by_cases e : n = 4294967295
  · obtain ⟨a, b⟩ := h2 e
    exact h.k (h3 e 16 (by decide) (by decide)) (h3 e 17 (by decide) (by decide)) b (fld_eq a)
  · exact agV.of0 (h1 e)
