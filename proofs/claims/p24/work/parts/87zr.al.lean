/-! all that is told, alike in class and model, but for cracks, fault and rules (al) -/
/-- rows of numbers alike: cells c, c + 1 of the class; how many at m, the numbers from base on, of block k of the model -/
def rq (w : List (List xE)) (c m base wd lim k : Nat) : Prop := fld w c 3 = rwv w 83 (1340 * k + m) ∧ fld w c 3 ≤ lim ∧ ∀ j, j < fld w c 3 * wd → rwv w (c + 1) j = rwv w 83 (1340 * k + (base + j))
theorem rq.cp {w w' : List (List xE)} {D S m base wd lim k k' : Nat} (h : rq w S m base wd lim k) (e : rwE w' D w S wd) (hm : m < 1340) (hN : base + lim * wd ≤ 1340) (r : ∀ j, j < 1340 → rwv w' 83 (1340 * k' + j) = rwv w 83 (1340 * k + j)) : rq w' D m base wd lim k' := by
  obtain ⟨h1, h2, h3⟩ := h
  obtain ⟨e1, e2⟩ := e
  refine ⟨by rw [e1, r m hm]; exact h1, by rw [e1]; exact h2, fun j hj => ?_⟩
  rw [e1] at hj
  have hl : fld w S 3 * wd ≤ lim * wd := Nat.mul_le_mul_right wd h2
  rw [e2 j hj, h3 j hj]
  exact (r (base + j) (by omega)).symm
theorem rq.kp {w w' : List (List xE)} {c m base wd lim : Nat} (h : rq w c m base wd lim 0) (a : wget w' c = wget w c) (b : wget w' (c + 1) = wget w (c + 1)) (r0 : rwv w' 83 m = rwv w 83 m) (r : ∀ j, base ≤ j → j < base + lim * wd → rwv w' 83 j = rwv w 83 j) : rq w' c m base wd lim 0 := by
  obtain ⟨h1, h2, h3⟩ := h
  rw [Nat.mul_zero, Nat.zero_add] at h1
  have e : fld w' c 3 = fld w c 3 := fld_eq a
  refine ⟨by rw [Nat.mul_zero, Nat.zero_add, e, r0]; exact h1, by rw [e]; exact h2, fun j hj => ?_⟩
  rw [e] at hj
  have hl : fld w c 3 * wd ≤ lim * wd := Nat.mul_le_mul_right wd h2
  have q := h3 j hj
  rw [Nat.mul_zero, Nat.zero_add] at q ⊢
  rw [rwv_eq b, q, r (base + j) (by omega) (by omega)]
theorem rq.kq {w w' : List (List xE)} {c m base wd lim : Nat} (h : rq w c m base wd lim 0) (a : wget w' c = wget w c) (b : wget w' (c + 1) = wget w (c + 1)) (r0 : rwv w' 83 m = rwv w 83 m) (r : ∀ j, j < fld w c 3 * wd → rwv w' 83 (base + j) = rwv w 83 (base + j)) : rq w' c m base wd lim 0 := by
  obtain ⟨h1, h2, h3⟩ := h
  rw [Nat.mul_zero, Nat.zero_add] at h1
  have e : fld w' c 3 = fld w c 3 := fld_eq a
  refine ⟨by rw [Nat.mul_zero, Nat.zero_add, e, r0]; exact h1, by rw [e]; exact h2, fun j hj => ?_⟩
  rw [e] at hj
  have q := h3 j hj
  rw [Nat.mul_zero, Nat.zero_add] at q ⊢
  rw [rwv_eq b, q, r j hj]
theorem rq.get {w : List (List xE)} {c m base wd lim j : Nat} (h : rq w c m base wd lim 0) (hj : j < fld w c 3 * wd) : rwv w (c + 1) j = rwv w 83 (base + j) := by
  have q := h.2.2 j hj
  rw [Nat.mul_zero, Nat.zero_add] at q
  exact q
theorem rq.sz {w : List (List xE)} {c m base wd lim : Nat} (h : rq w c m base wd lim 0) : fld w c 3 = rwv w 83 m := by
  have q := h.1
  rw [Nat.mul_zero, Nat.zero_add] at q
  exact q
theorem rq.mk0 {w : List (List xE)} {c m base wd lim : Nat} (h1 : fld w c 3 = rwv w 83 m) (h2 : fld w c 3 ≤ lim) (h3 : ∀ j, j < fld w c 3 * wd → rwv w (c + 1) j = rwv w 83 (base + j)) : rq w c m base wd lim 0 := by
  refine ⟨?_, h2, fun j hj => ?_⟩
  · rw [Nat.mul_zero, Nat.zero_add]
    exact h1
  · rw [Nat.mul_zero, Nat.zero_add]
    exact h3 j hj
theorem rq.push {w w2 : List (List xE)} {c m base wd lim : Nat} (h : rq w c m base wd lim 0) (a1 : fld w2 c 3 = fld w c 3 + 1) (a2 : fld w c 3 < lim) (b1 : rwv w2 83 m = rwv w 83 m + 1) (k1 : ∀ j, j < fld w c 3 * wd → rwv w2 (c + 1) j = rwv w (c + 1) j) (k2 : ∀ j, j < fld w c 3 * wd → rwv w2 83 (base + j) = rwv w 83 (base + j)) (v : ∀ t, t < wd → rwv w2 (c + 1) (fld w c 3 * wd + t) = rwv w2 83 (base + (fld w c 3 * wd + t))) : rq w2 c m base wd lim 0 := by
  have hz := h.sz
  refine rq.mk0 (by omega) (by omega) (fun j hj => ?_)
  rw [a1, Nat.add_mul, Nat.one_mul] at hj
  by_cases y : j < fld w c 3 * wd
  · rw [k1 j y, k2 j y]
    exact h.get y
  · have q := v (j - fld w c 3 * wd) (by omega)
    rw [show fld w c 3 * wd + (j - fld w c 3 * wd) = j by omega] at q
    exact q
/-- the tape -/
def aqT (w : List (List xE)) (b k : Nat) : Prop := fld w b 1 = rwv w 83 (1340 * k + 15) ∧ bq w b k
/-- days -/
def aqD (w : List (List xE)) (b k : Nat) : Prop := fld w b 6 = rwv w 83 (1340 * k + 11) ∧ fld w b 7 = rwv w 83 (1340 * k + 12) ∧ fld w b 9 = rwv w 83 (1340 * k + 13) ∧ fld w b 6 ≤ 999
/-- the film -/
def aqF (w : List (List xE)) (b k : Nat) : Prop := (fld w (b + 2) 5 = rwv w 83 (1340 * k + 7) ∧ fld w (b + 2) 6 = rwv w 83 (1340 * k + 8) ∧ fld w (b + 2) 7 = rwv w 83 (1340 * k + 5) ∧ fld w (b + 2) 8 = rwv w 83 (1340 * k + 6) ∧ fld w (b + 2) 9 = rwv w 83 (1340 * k + 14)) ∧ rq w (b + 3) 0 20 4 6 k ∧ rq w (b + 5) 1 50 2 4 k ∧ rq w (b + 7) 2 60 2 6 k ∧ rq w (b + 9) 3 80 3 4 k ∧ rq w (b + 11) 4 100 2 20 k
/-- pictures -/
def aqP (w : List (List xE)) (b k : Nat) : Prop := fld w (b + 15) 3 = rwv w 83 (1340 * k + 10) ∧ fld w (b + 15) 3 ≤ 12 ∧ ∀ i, i < fld w (b + 15) 3 → (∀ t, t < 4 → rwv w (b + 16) (5 * i + t) = rwv w 83 (1340 * k + (300 + 6 * i + t))) ∧ rwv w (b + 16) (5 * i + 4) = rwv w 83 (1340 * k + (304 + 6 * i)) * rwv w 83 (1340 * k + (305 + 6 * i))
def al (w : List (List xE)) (b k : Nat) : Prop := aqT w b k ∧ aqD w b k ∧ aqF w b k ∧ aqP w b k ∧ rq w (b + 17) 900 950 3 4 k ∧ rq w (b + 19) 901 970 4 12 k
theorem al.cp {w w' : List (List xE)} {D S k k' : Nat} (h : al w S k) (e : tdE w' D w S) (r : ∀ j, j < 1340 → rwv w' 83 (1340 * k' + j) = rwv w 83 (1340 * k + j)) : al w' D k' := by
  obtain ⟨⟨t1, t2⟩, ⟨d1, d2, d3, d4⟩, ⟨⟨f1, f2, f3, f4, f5⟩, g1, g2, g3, g4, g5⟩, ⟨p1, p2, p3⟩, h1, h2⟩ := h
  have e0 := e
  obtain ⟨⟨e1, -, -, e6, e7, e9⟩, -, ⟨⟨x5, x6, x7, x8, x9⟩, y1, y2, y3, y4, y5⟩, -, ⟨z1, z2⟩, v1, v2, -, -⟩ := e
  refine ⟨⟨by rw [e1, r 15 (by decide)]; exact t1, t2.cp e0 r⟩, ⟨by rw [e6, r 11 (by decide)]; exact d1, by rw [e7, r 12 (by decide)]; exact d2, by rw [e9, r 13 (by decide)]; exact d3, by rw [e6]; exact d4⟩, ⟨⟨by rw [x5, r 7 (by decide)]; exact f1, by rw [x6, r 8 (by decide)]; exact f2, by rw [x7, r 5 (by decide)]; exact f3, by rw [x8, r 6 (by decide)]; exact f4, by rw [x9, r 14 (by decide)]; exact f5⟩, g1.cp y1 (by decide) (by decide) r, g2.cp y2 (by decide) (by decide) r, g3.cp y3 (by decide) (by decide) r, g4.cp y4 (by decide) (by decide) r, g5.cp y5 (by decide) (by decide) r⟩, ⟨by rw [z1, r 10 (by decide)]; exact p1, by rw [z1]; exact p2, fun i hi => ?_⟩, h1.cp v1 (by decide) (by decide) r, h2.cp v2 (by decide) (by decide) r⟩
  rw [z1] at hi
  obtain ⟨q1, q2⟩ := p3 i hi
  have z2 : ∀ j, j < fld w (S + 15) 3 * 5 → rwv w' (D + 16) j = rwv w (S + 16) j := z2
  refine ⟨fun t ht => ?_, ?_⟩
  · rw [z2 (5 * i + t) (by omega), q1 t ht]
    exact (r (300 + 6 * i + t) (by omega)).symm
  · rw [z2 (5 * i + 4) (by omega), q2, r (304 + 6 * i) (by omega), r (305 + 6 * i) (by omega)]
theorem al.kp {w w' : List (List xE)} {b k : Nat} (h : al w b k) (hc : ∀ o, o < 25 → wget w' (b + o) = wget w (b + o)) (hr : ∀ j, 1340 * k ≤ j → j < 1340 * k + 1340 → rwv w' 83 j = rwv w 83 j) : al w' b k := h.cp (tdE.rf.tr0 hc (fun _ _ => rfl)) (fun j hj => hr _ (by omega) (by omega))
/-! a piece of it kept -/
theorem keepL {L S S2 : List Nat} {w w1 w2 : List (List xE)} (hR : xFr S w w1) (hR2 : xFr S2 w1 w2) (h : ∀ c ∈ L, c ∉ S ∧ c ∉ S2) : ∀ c ∈ L, wget w2 c = wget w c := fun c hc => (hR2.1 c (h c hc).2).trans (hR.1 c (h c hc).1)
theorem aqT.st {w w2 : List (List xE)} (h : aqT w 1 0) (e : fld w2 1 1 = rwv w2 83 15) (e1 : fld w2 1 1 ≤ fld w 1 1) (e2 : ∀ j, j < fld w2 1 1 → rwk w2 2 j = rwk w 2 j) (r : ∀ j, j < fld w2 1 1 → rwv w2 83 (400 + j) = rwv w 83 (400 + j)) : aqT w2 1 0 := ⟨e, h.2.st e1 e2 r⟩
theorem aqT.kp {w w2 : List (List xE)} (h : aqT w 1 0) (e1 : fld w2 1 1 = fld w 1 1) (e2 : wget w2 2 = wget w 2) (r0 : rwv w2 83 15 = rwv w 83 15) (r : ∀ j, 400 ≤ j → j < 900 → rwv w2 83 j = rwv w 83 j) : aqT w2 1 0 := by
  have b := h.2.1
  exact h.st (by rw [e1, r0]; exact h.1) (by omega) (fun j _ => rwk_eq e2) (fun j hj => r _ (by omega) (by omega))
theorem aqT.e0 {w w2 : List (List xE)} (h : aqT w 1 0) (e1 : fld w2 1 1 = 0) (r0 : rwv w2 83 15 = 0) : aqT w2 1 0 := h.st (by omega) (by omega) (fun j hj => absurd hj (by omega)) (fun j hj => absurd hj (by omega))
theorem aqD.kp {w w2 : List (List xE)} (h : aqD w 1 0) (e6 : fld w2 1 6 = fld w 1 6) (e7 : fld w2 1 7 = fld w 1 7) (e9 : fld w2 1 9 = fld w 1 9) (r : ∀ j, 11 ≤ j → j < 14 → rwv w2 83 j = rwv w 83 j) : aqD w2 1 0 := by
  obtain ⟨h1, h2, h3, h4⟩ := h
  exact ⟨by rw [e6]; exact h1.trans (r 11 (by decide) (by decide)).symm, by rw [e7]; exact h2.trans (r 12 (by decide) (by decide)).symm, by rw [e9]; exact h3.trans (r 13 (by decide) (by decide)).symm, by rw [e6]; exact h4⟩
theorem aqF.kp {w w2 : List (List xE)} (h : aqF w 1 0) (hc : ∀ c ∈ [3, 4, 5, 6, 7, 8, 9, 10, 11, 12, 13], wget w2 c = wget w c) (r : ∀ j, (j < 9 ∨ j = 14 ∨ (20 ≤ j ∧ j < 140)) → rwv w2 83 j = rwv w 83 j) : aqF w2 1 0 := by
  obtain ⟨⟨f1, f2, f3, f4, f5⟩, g1, g2, g3, g4, g5⟩ := h
  have c3 : wget w2 (1 + 2) = wget w (1 + 2) := hc 3 (by decide)
  exact ⟨⟨(fld_eq c3).trans (f1.trans (r 7 (by omega)).symm), (fld_eq c3).trans (f2.trans (r 8 (by omega)).symm), (fld_eq c3).trans (f3.trans (r 5 (by omega)).symm), (fld_eq c3).trans (f4.trans (r 6 (by omega)).symm), (fld_eq c3).trans (f5.trans (r 14 (by omega)).symm)⟩, g1.kp (hc 4 (by decide)) (hc 5 (by decide)) (r 0 (by omega)) (fun j a b => r j (by omega)), g2.kp (hc 6 (by decide)) (hc 7 (by decide)) (r 1 (by omega)) (fun j a b => r j (by omega)), g3.kp (hc 8 (by decide)) (hc 9 (by decide)) (r 2 (by omega)) (fun j a b => r j (by omega)), g4.kp (hc 10 (by decide)) (hc 11 (by decide)) (r 3 (by omega)) (fun j a b => r j (by omega)), g5.kp (hc 12 (by decide)) (hc 13 (by decide)) (r 4 (by omega)) (fun j a b => r j (by omega))⟩
theorem aqP.kp {w w2 : List (List xE)} (h : aqP w 1 0) (a : wget w2 16 = wget w 16) (b : wget w2 17 = wget w 17) (r0 : rwv w2 83 10 = rwv w 83 10) (r : ∀ j, 300 ≤ j → j < 372 → rwv w2 83 j = rwv w 83 j) : aqP w2 1 0 := by
  obtain ⟨h1, h2, h3⟩ := h
  have e : fld w2 (1 + 15) 3 = fld w (1 + 15) 3 := fld_eq a
  have h1 : fld w (1 + 15) 3 = rwv w 83 10 := h1
  refine ⟨(show fld w2 (1 + 15) 3 = rwv w2 83 10 from by rw [e, r0]; exact h1), by rw [e]; exact h2, fun i hi => ?_⟩
  rw [e] at hi
  obtain ⟨q1, q2⟩ := h3 i hi
  refine ⟨fun t ht => ?_, ?_⟩
  · have q := q1 t ht
    rw [Nat.mul_zero, Nat.zero_add] at q ⊢
    rw [rwv_eq (show wget w2 (1 + 16) = wget w (1 + 16) from b), q, r _ (by omega) (by omega)]
  · rw [Nat.mul_zero, Nat.zero_add, Nat.zero_add] at q2 ⊢
    rw [rwv_eq (show wget w2 (1 + 16) = wget w (1 + 16) from b), q2, r _ (by omega) (by omega), r _ (by omega) (by omega)]
/-- no pictures -/
theorem aqP.e0 {w2 : List (List xE)} (a : fld w2 16 3 = 0) (r0 : rwv w2 83 10 = 0) : aqP w2 1 0 := by
  have a : fld w2 (1 + 15) 3 = 0 := a
  refine ⟨(show fld w2 (1 + 15) 3 = rwv w2 83 10 by omega), by omega, fun i hi => absurd hi (by omega)⟩
/-- a film is told: the same text in both -/
theorem aqF.film {B : Nat → Nat} {nn n : Nat} {w2 : List (List xE)} (hF : FLM B nn w2 n) (hG : FLA B nn w2 n) : aqF w2 1 0 := by
  obtain ⟨⟨f0, f1, f2, f3, f4, f9, fz⟩, fR⟩ := hF
  obtain ⟨⟨g0, g1, g2, g3, g4, g9, -⟩, gR⟩ := hG
  have l0 := lnC_lim (s := 0) fz (by decide)
  have l1 := lnC_lim (s := 1) fz (by decide)
  have l2 := lnC_lim (s := 2) fz (by decide)
  have l3 := lnC_lim (s := 3) fz (by decide)
  have l4 := lnC_lim (s := 4) fz (by decide)
  have l5 := lnC_lim (s := 5) fz (by decide)
  have l6 := lnC_lim (s := 6) fz (by decide)
  have l0 : lnC B nn 0 n ≤ 6 := l0
  have l1 : lnC B nn 1 n ≤ 4 := l1
  have l2 : lnC B nn 2 n ≤ 6 := l2
  have l3 : lnC B nn 3 n ≤ 4 := l3
  have l4 : lnC B nn 4 n ≤ 20 := l4
  have l5 : lnC B nn 5 n ≤ 1 := l5
  have l6 : lnC B nn 6 n ≤ 1 := l6
  have s5 : ∀ t, t < 2 → fld w2 3 (5 + t) = rwv w2 83 (7 + t) := fun t ht => fR.eq5 gR (s := 5) (Or.inl rfl) l5 ht
  have s6 : ∀ t, t < 2 → fld w2 3 (7 + t) = rwv w2 83 (5 + t) := fun t ht => fR.eq5 gR (s := 6) (Or.inr rfl) l6 ht
  have x0 : ∀ m t, m < lnC B nn 0 n → t < 4 → rwv w2 5 (4 * m + t) = rwv w2 83 (20 + 4 * m + t) := fun m t hm ht => fR.eq gR (s := 0) hm ht
  have x1 : ∀ m t, m < lnC B nn 1 n → t < 2 → rwv w2 7 (2 * m + t) = rwv w2 83 (50 + 2 * m + t) := fun m t hm ht => fR.eq gR (s := 1) hm ht
  have x2 : ∀ m t, m < lnC B nn 2 n → t < 2 → rwv w2 9 (2 * m + t) = rwv w2 83 (60 + 2 * m + t) := fun m t hm ht => fR.eq gR (s := 2) hm ht
  have x3 : ∀ m t, m < lnC B nn 3 n → t < 3 → rwv w2 11 (3 * m + t) = rwv w2 83 (80 + 3 * m + t) := fun m t hm ht => fR.eq gR (s := 3) hm ht
  have x4 : ∀ m t, m < lnC B nn 4 n → t < 2 → rwv w2 13 (2 * m + t) = rwv w2 83 (100 + 2 * m + t) := fun m t hm ht => fR.eq gR (s := 4) hm ht
  refine ⟨⟨s5 0 (by decide), s5 1 (by decide), s6 0 (by decide), s6 1 (by decide), (show fld w2 3 9 = rwv w2 83 14 by omega)⟩, rq.mk0 (show fld w2 4 3 = rwv w2 83 0 by omega) (show fld w2 4 3 ≤ 6 by omega) (fun j hj => ?_), rq.mk0 (show fld w2 6 3 = rwv w2 83 1 by omega) (show fld w2 6 3 ≤ 4 by omega) (fun j hj => ?_), rq.mk0 (show fld w2 8 3 = rwv w2 83 2 by omega) (show fld w2 8 3 ≤ 6 by omega) (fun j hj => ?_), rq.mk0 (show fld w2 10 3 = rwv w2 83 3 by omega) (show fld w2 10 3 ≤ 4 by omega) (fun j hj => ?_), rq.mk0 (show fld w2 12 3 = rwv w2 83 4 by omega) (show fld w2 12 3 ≤ 20 by omega) (fun j hj => ?_)⟩
  · have hj : j < fld w2 4 3 * 4 := hj
    have q := x0 (j / 4) (j % 4) (by omega) (by omega)
    rw [show 4 * (j / 4) + j % 4 = j by omega, show 20 + 4 * (j / 4) + j % 4 = 20 + j by omega] at q
    exact q
  · have hj : j < fld w2 6 3 * 2 := hj
    have q := x1 (j / 2) (j % 2) (by omega) (by omega)
    rw [show 2 * (j / 2) + j % 2 = j by omega, show 50 + 2 * (j / 2) + j % 2 = 50 + j by omega] at q
    exact q
  · have hj : j < fld w2 8 3 * 2 := hj
    have q := x2 (j / 2) (j % 2) (by omega) (by omega)
    rw [show 2 * (j / 2) + j % 2 = j by omega, show 60 + 2 * (j / 2) + j % 2 = 60 + j by omega] at q
    exact q
  · have hj : j < fld w2 10 3 * 3 := hj
    have q := x3 (j / 3) (j % 3) (by omega) (by omega)
    rw [show 3 * (j / 3) + j % 3 = j by omega, show 80 + 3 * (j / 3) + j % 3 = 80 + j by omega] at q
    exact q
  · have hj : j < fld w2 12 3 * 2 := hj
    have q := x4 (j / 2) (j % 2) (by omega) (by omega)
    rw [show 2 * (j / 2) + j % 2 = j by omega, show 100 + 2 * (j / 2) + j % 2 = 100 + j by omega] at q
    exact q
