/-! rows told in both -/
theorem rq.hand {w w1 w2 : List (List xE)} {S : List Nat} {n n2 fi fo ro : Nat} (h : rq w 18 900 950 3 4 0) (hF : ((n = fld w 18 3 ∧ fld w 18 3 < 4 ∧ ((1 ≤ fi ∧ fi ≤ 999) ∧ (1 ≤ fo ∧ fo ≤ 999) ∧ (1 ≤ ro ∧ ro ≤ 9999)) ∧ fld w1 18 3 = fld w 18 3 + 1) ∨ (n = 4294967295 ∧ ¬ (fld w 18 3 < 4 ∧ ((1 ≤ fi ∧ fi ≤ 999) ∧ (1 ≤ fo ∧ fo ≤ 999) ∧ (1 ≤ ro ∧ ro ≤ 9999))) ∧ w1 = w)) ∧ (n ≠ 4294967295 → rwv w1 19 (3 * fld w 18 3) = fi ∧ rwv w1 19 (3 * fld w 18 3 + 1) = fo ∧ rwv w1 19 (3 * fld w 18 3 + 2) = ro) ∧ (∀ j, (j < 3 * fld w 18 3 ∨ 3 * fld w 18 3 + 3 ≤ j) → j < 12 → rwv w1 19 j = rwv w 19 j)) (hR : xFr S w w1) (hS : 83 ∉ S) (hG : ((n2 = rwv w1 83 900 ∧ rwv w1 83 900 < 4 ∧ ((1 ≤ fi ∧ fi ≤ 999) ∧ (1 ≤ fo ∧ fo ≤ 999) ∧ (1 ≤ ro ∧ ro ≤ 9999)) ∧ rwv w2 83 900 = rwv w1 83 900 + 1) ∨ (n2 = 4294967295 ∧ ¬ (rwv w1 83 900 < 4 ∧ ((1 ≤ fi ∧ fi ≤ 999) ∧ (1 ≤ fo ∧ fo ≤ 999) ∧ (1 ≤ ro ∧ ro ≤ 9999))) ∧ rwv w2 83 900 = rwv w1 83 900)) ∧ (n2 ≠ 4294967295 → rwv w2 83 (950 + 3 * rwv w1 83 900) = fi ∧ rwv w2 83 (950 + 3 * rwv w1 83 900 + 1) = fo ∧ rwv w2 83 (950 + 3 * rwv w1 83 900 + 2) = ro) ∧ (∀ j, (j ≠ 900 ∧ (j < 950 + 3 * rwv w1 83 900 ∨ 953 + 3 * rwv w1 83 900 ≤ j)) → j < 5360 → rwv w2 83 j = rwv w1 83 j)) (hR2 : xFr [83] w1 w2) : n = n2 ∧ rq w2 18 900 950 3 4 0 := by
  have hz := h.sz
  have hlm := h.2.1
  obtain ⟨f1, f2, f3⟩ := hF
  obtain ⟨g1, g2, g3⟩ := hG
  have b : ∀ j, rwv w1 83 j = rwv w 83 j := fun j => rwv_fr hR hS
  have bm := b 900
  have c18 : fld w2 18 3 = fld w1 18 3 := fld_fr hR2 (by decide)
  have c19 : ∀ j, rwv w2 19 j = rwv w1 19 j := fun j => rwv_fr hR2 (by decide)
  rcases f1 with ⟨x1, x2, x3, x4⟩ | ⟨x1, x2, x3⟩
  · rcases g1 with ⟨z1, z2, z3, z4⟩ | ⟨-, z2, -⟩
    · obtain ⟨u0, u1, u2⟩ := f2 (by omega)
      obtain ⟨v0, v1, v2⟩ := g2 (by omega)
      refine ⟨by omega, h.push (by omega) x2 (by omega) (fun j hj => (c19 j).trans (f3 j (by omega) (by omega))) (fun j hj => (g3 (950 + j) (by omega) (by omega)).trans (b _)) (fun t ht => ?_)⟩
      show rwv w2 19 _ = _
      rcases (show t = 0 ∨ t = 1 ∨ t = 2 by omega) with rfl | rfl | rfl
      · rw [show fld w 18 3 * 3 + 0 = 3 * fld w 18 3 by omega, c19, u0, show 950 + (3 * fld w 18 3) = 950 + 3 * rwv w1 83 900 by omega, v0]
      · rw [show fld w 18 3 * 3 + 1 = 3 * fld w 18 3 + 1 by omega, c19, u1, show 950 + (3 * fld w 18 3 + 1) = 950 + 3 * rwv w1 83 900 + 1 by omega, v1]
      · rw [show fld w 18 3 * 3 + 2 = 3 * fld w 18 3 + 2 by omega, c19, u2, show 950 + (3 * fld w 18 3 + 2) = 950 + 3 * rwv w1 83 900 + 2 by omega, v2]
    · exact absurd ⟨by omega, x3⟩ z2
  · rcases g1 with ⟨-, z2, z3, -⟩ | ⟨z1, -, z3⟩
    · exact absurd ⟨by omega, z3⟩ x2
    · exact ⟨by omega, h.kq ((hR2.1 18 (by decide)).trans (by rw [x3])) ((hR2.1 19 (by decide)).trans (by rw [x3])) (by omega) (fun j hj => (g3 (950 + j) (by omega) (by omega)).trans (b _))⟩
theorem rq.test {w w1 w2 : List (List xE)} {S : List Nat} {n n2 sp fo fi cr : Nat} (h : rq w 20 901 970 4 12 0) (hF : ((n = fld w 20 3 ∧ fld w 20 3 < 12 ∧ ((1 ≤ sp ∧ sp ≤ 9) ∧ (1 ≤ fo ∧ fo ≤ 999999) ∧ (1 ≤ fi ∧ fi ≤ 99) ∧ cr ≤ fi) ∧ fld w1 20 3 = fld w 20 3 + 1 ∧ fld w1 76 9 = 0 ∧ fld w1 76 10 = 0 ∧ fld w1 76 11 = 0) ∨ (n = 4294967295 ∧ ¬ (fld w 20 3 < 12 ∧ ((1 ≤ sp ∧ sp ≤ 9) ∧ (1 ≤ fo ∧ fo ≤ 999999) ∧ (1 ≤ fi ∧ fi ≤ 99) ∧ cr ≤ fi)) ∧ w1 = w)) ∧ (n ≠ 4294967295 → rwv w1 21 (4 * fld w 20 3) = sp ∧ rwv w1 21 (4 * fld w 20 3 + 1) = fo ∧ rwv w1 21 (4 * fld w 20 3 + 2) = fi ∧ rwv w1 21 (4 * fld w 20 3 + 3) = cr) ∧ (∀ j, (j < 4 * fld w 20 3 ∨ 4 * fld w 20 3 + 4 ≤ j) → j < 48 → rwv w1 21 j = rwv w 21 j)) (hR : xFr S w w1) (hS : 83 ∉ S) (hG : ((n2 = rwv w1 83 901 ∧ rwv w1 83 901 < 12 ∧ ((1 ≤ sp ∧ sp ≤ 9) ∧ (1 ≤ fo ∧ fo ≤ 999999) ∧ (1 ≤ fi ∧ fi ≤ 99) ∧ cr ≤ fi) ∧ rwv w2 83 901 = rwv w1 83 901 + 1) ∨ (n2 = 4294967295 ∧ ¬ (rwv w1 83 901 < 12 ∧ ((1 ≤ sp ∧ sp ≤ 9) ∧ (1 ≤ fo ∧ fo ≤ 999999) ∧ (1 ≤ fi ∧ fi ≤ 99) ∧ cr ≤ fi)) ∧ rwv w2 83 901 = rwv w1 83 901)) ∧ (n2 ≠ 4294967295 → rwv w2 83 (970 + 4 * rwv w1 83 901) = sp ∧ rwv w2 83 (970 + 4 * rwv w1 83 901 + 1) = fo ∧ rwv w2 83 (970 + 4 * rwv w1 83 901 + 2) = fi ∧ rwv w2 83 (970 + 4 * rwv w1 83 901 + 3) = cr) ∧ (∀ j, (j ≠ 901 ∧ (j < 970 + 4 * rwv w1 83 901 ∨ 974 + 4 * rwv w1 83 901 ≤ j)) → j < 5360 → rwv w2 83 j = rwv w1 83 j)) (hR2 : xFr [83] w1 w2) : n = n2 ∧ rq w2 20 901 970 4 12 0 := by
  have hz := h.sz
  have hlm := h.2.1
  obtain ⟨f1, f2, f3⟩ := hF
  obtain ⟨g1, g2, g3⟩ := hG
  have b : ∀ j, rwv w1 83 j = rwv w 83 j := fun j => rwv_fr hR hS
  have bm := b 901
  have c18 : fld w2 20 3 = fld w1 20 3 := fld_fr hR2 (by decide)
  have c19 : ∀ j, rwv w2 21 j = rwv w1 21 j := fun j => rwv_fr hR2 (by decide)
  rcases f1 with ⟨x1, x2, x3, x4, -, -, -⟩ | ⟨x1, x2, x3⟩
  · rcases g1 with ⟨z1, z2, z3, z4⟩ | ⟨-, z2, -⟩
    · obtain ⟨u0, u1, u2, u3⟩ := f2 (by omega)
      obtain ⟨v0, v1, v2, v3⟩ := g2 (by omega)
      refine ⟨by omega, h.push (by omega) x2 (by omega) (fun j hj => (c19 j).trans (f3 j (by omega) (by omega))) (fun j hj => (g3 (970 + j) (by omega) (by omega)).trans (b _)) (fun t ht => ?_)⟩
      show rwv w2 21 _ = _
      rcases (show t = 0 ∨ t = 1 ∨ t = 2 ∨ t = 3 by omega) with rfl | rfl | rfl | rfl
      · rw [show fld w 20 3 * 4 + 0 = 4 * fld w 20 3 by omega, c19, u0, show 970 + (4 * fld w 20 3) = 970 + 4 * rwv w1 83 901 by omega, v0]
      · rw [show fld w 20 3 * 4 + 1 = 4 * fld w 20 3 + 1 by omega, c19, u1, show 970 + (4 * fld w 20 3 + 1) = 970 + 4 * rwv w1 83 901 + 1 by omega, v1]
      · rw [show fld w 20 3 * 4 + 2 = 4 * fld w 20 3 + 2 by omega, c19, u2, show 970 + (4 * fld w 20 3 + 2) = 970 + 4 * rwv w1 83 901 + 2 by omega, v2]
      · rw [show fld w 20 3 * 4 + 3 = 4 * fld w 20 3 + 3 by omega, c19, u3, show 970 + (4 * fld w 20 3 + 3) = 970 + 4 * rwv w1 83 901 + 3 by omega, v3]
    · exact absurd ⟨by omega, x3⟩ z2
  · rcases g1 with ⟨-, z2, z3, -⟩ | ⟨z1, -, z3⟩
    · exact absurd ⟨by omega, z3⟩ x2
    · exact ⟨by omega, h.kq ((hR2.1 20 (by decide)).trans (by rw [x3])) ((hR2.1 21 (by decide)).trans (by rw [x3])) (by omega) (fun j hj => (g3 (970 + j) (by omega) (by omega)).trans (b _))⟩
theorem aqP.pic {w w1 w2 : List (List xE)} {S : List Nat} {n n2 pa pb pc_ pd li ho : Nat} (h : aqP w 1 0) (hN : fld w 3 7 = rwv w 83 5 ∧ fld w 3 8 = rwv w 83 6) (hF : ((n = fld w 16 3 + 1 ∧ fld w 16 3 < 12 ∧ ((pa ≤ pb ∧ pb < fld w 3 7) ∧ (pc_ ≤ pd ∧ pd < fld w 3 8) ∧ (1 ≤ li ∧ li ≤ 9) ∧ (1 ≤ ho ∧ ho ≤ 999)) ∧ fld w1 16 3 = fld w 16 3 + 1 ∧ fld w1 68 4 = 0) ∨ (n = 4294967295 ∧ ¬ (fld w 16 3 < 12 ∧ ((pa ≤ pb ∧ pb < fld w 3 7) ∧ (pc_ ≤ pd ∧ pd < fld w 3 8) ∧ (1 ≤ li ∧ li ≤ 9) ∧ (1 ≤ ho ∧ ho ≤ 999))) ∧ w1 = w)) ∧ (n ≠ 4294967295 → rwv w1 17 (5 * fld w 16 3) = pa ∧ rwv w1 17 (5 * fld w 16 3 + 1) = pb ∧ rwv w1 17 (5 * fld w 16 3 + 2) = pc_ ∧ rwv w1 17 (5 * fld w 16 3 + 3) = pd ∧ rwv w1 17 (5 * fld w 16 3 + 4) = li * ho) ∧ (∀ j, (j < 5 * fld w 16 3 ∨ 5 * fld w 16 3 + 5 ≤ j) → j < 60 → rwv w1 17 j = rwv w 17 j)) (hR : xFr S w w1) (hS : 83 ∉ S) (hG : ((n2 = rwv w1 83 10 + 1 ∧ rwv w1 83 10 < 12 ∧ ((pa ≤ pb ∧ pb < rwv w1 83 5) ∧ (pc_ ≤ pd ∧ pd < rwv w1 83 6) ∧ (1 ≤ li ∧ li ≤ 9) ∧ (1 ≤ ho ∧ ho ≤ 999)) ∧ rwv w2 83 10 = rwv w1 83 10 + 1) ∨ (n2 = 4294967295 ∧ ¬ (rwv w1 83 10 < 12 ∧ ((pa ≤ pb ∧ pb < rwv w1 83 5) ∧ (pc_ ≤ pd ∧ pd < rwv w1 83 6) ∧ (1 ≤ li ∧ li ≤ 9) ∧ (1 ≤ ho ∧ ho ≤ 999))) ∧ rwv w2 83 10 = rwv w1 83 10)) ∧ (n2 ≠ 4294967295 → rwv w2 83 (300 + 6 * rwv w1 83 10) = pa ∧ rwv w2 83 (300 + 6 * rwv w1 83 10 + 1) = pb ∧ rwv w2 83 (300 + 6 * rwv w1 83 10 + 2) = pc_ ∧ rwv w2 83 (300 + 6 * rwv w1 83 10 + 3) = pd ∧ rwv w2 83 (300 + 6 * rwv w1 83 10 + 4) = li ∧ rwv w2 83 (300 + 6 * rwv w1 83 10 + 5) = ho) ∧ (∀ j, (j ≠ 10 ∧ (j < 300 + 6 * rwv w1 83 10 ∨ 306 + 6 * rwv w1 83 10 ≤ j)) → j < 5360 → rwv w2 83 j = rwv w1 83 j)) (hR2 : xFr [83] w1 w2) : n = n2 ∧ aqP w2 1 0 := by
  obtain ⟨h1, hlm, h3⟩ := h
  obtain ⟨hn1, hn2⟩ := hN
  have hz : fld w 16 3 = rwv w 83 10 := h1
  have hlm : fld w 16 3 ≤ 12 := hlm
  have h3 : ∀ i, i < fld w 16 3 → (∀ t, t < 4 → rwv w 17 (5 * i + t) = rwv w 83 (1340 * 0 + (300 + 6 * i + t))) ∧ rwv w 17 (5 * i + 4) = rwv w 83 (1340 * 0 + (304 + 6 * i)) * rwv w 83 (1340 * 0 + (305 + 6 * i)) := h3
  obtain ⟨f1, f2, f3⟩ := hF
  obtain ⟨g1, g2, g3⟩ := hG
  have b : ∀ j, rwv w1 83 j = rwv w 83 j := fun j => rwv_fr hR hS
  have b10 := b 10
  have b5 := b 5
  have b6 := b 6
  have c16 : fld w2 16 3 = fld w1 16 3 := fld_fr hR2 (by decide)
  have c17 : ∀ j, rwv w2 17 j = rwv w1 17 j := fun j => rwv_fr hR2 (by decide)
  have old : ∀ i, i < fld w 16 3 → (∀ j, j < 5 * fld w 16 3 → rwv w1 17 j = rwv w 17 j) → (∀ t, t < 4 → rwv w2 17 (5 * i + t) = rwv w2 83 (1340 * 0 + (300 + 6 * i + t))) ∧ rwv w2 17 (5 * i + 4) = rwv w2 83 (1340 * 0 + (304 + 6 * i)) * rwv w2 83 (1340 * 0 + (305 + 6 * i)) := by
    intro i hi hk
    obtain ⟨q1, q2⟩ := h3 i hi
    refine ⟨fun t ht => ?_, ?_⟩
    · have q := q1 t ht
      rw [Nat.mul_zero, Nat.zero_add] at q ⊢
      rw [c17, hk _ (by omega), q, g3 (300 + 6 * i + t) (by omega) (by omega), b]
    · rw [Nat.mul_zero, Nat.zero_add, Nat.zero_add] at q2 ⊢
      rw [c17, hk _ (by omega), q2, g3 (304 + 6 * i) (by omega) (by omega), g3 (305 + 6 * i) (by omega) (by omega), b, b]
  rcases f1 with ⟨x1, x2, x3, x4, -⟩ | ⟨x1, x2, x3⟩
  · rcases g1 with ⟨z1, z2, z3, z4⟩ | ⟨-, z2, -⟩
    · obtain ⟨u0, u1, u2, u3, u4⟩ := f2 (by omega)
      obtain ⟨v0, v1, v2, v3, v4, v5⟩ := g2 (by omega)
      refine ⟨by omega, (show fld w2 16 3 = rwv w2 83 10 by omega), (show fld w2 16 3 ≤ 12 by omega), fun i hi => ?_⟩
      have hi : i < fld w2 16 3 := hi
      show (∀ t, t < 4 → rwv w2 17 (5 * i + t) = rwv w2 83 (1340 * 0 + (300 + 6 * i + t))) ∧ rwv w2 17 (5 * i + 4) = rwv w2 83 (1340 * 0 + (304 + 6 * i)) * rwv w2 83 (1340 * 0 + (305 + 6 * i))
      by_cases y : i < fld w 16 3
      · exact old i y (fun j hj => f3 j (by omega) (by omega))
      · have e : i = fld w 16 3 := by omega
        subst e
        refine ⟨fun t ht => ?_, ?_⟩
        · rw [Nat.mul_zero, Nat.zero_add, c17]
          rcases (show t = 0 ∨ t = 1 ∨ t = 2 ∨ t = 3 by omega) with rfl | rfl | rfl | rfl
          · rw [Nat.add_zero, Nat.add_zero, u0, show 300 + 6 * fld w 16 3 = 300 + 6 * rwv w1 83 10 by omega, v0]
          · rw [u1, show 300 + 6 * fld w 16 3 + 1 = 300 + 6 * rwv w1 83 10 + 1 by omega, v1]
          · rw [u2, show 300 + 6 * fld w 16 3 + 2 = 300 + 6 * rwv w1 83 10 + 2 by omega, v2]
          · rw [u3, show 300 + 6 * fld w 16 3 + 3 = 300 + 6 * rwv w1 83 10 + 3 by omega, v3]
        · rw [Nat.mul_zero, Nat.zero_add, Nat.zero_add, c17, u4, show 304 + 6 * fld w 16 3 = 300 + 6 * rwv w1 83 10 + 4 by omega, v4, show 305 + 6 * fld w 16 3 = 300 + 6 * rwv w1 83 10 + 5 by omega, v5]
    · exact absurd ⟨by omega, by omega⟩ z2
  · rcases g1 with ⟨-, z2, z3, -⟩ | ⟨z1, -, z3⟩
    · exact absurd ⟨by omega, by omega⟩ x2
    · have e16 : fld w1 16 3 = fld w 16 3 := by rw [x3]
      have e17 : ∀ j, rwv w1 17 j = rwv w 17 j := fun j => by rw [x3]
      refine ⟨by omega, (show fld w2 16 3 = rwv w2 83 10 by omega), (show fld w2 16 3 ≤ 12 by omega), fun i hi => ?_⟩
      have hi : i < fld w2 16 3 := hi
      exact old i (by omega) (fun j _ => e17 j)
