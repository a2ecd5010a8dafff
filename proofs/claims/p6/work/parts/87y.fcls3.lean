/-! the class: films read, to the last number -/
section XFCC
variable {B : Nat → Nat} {n k : Nat} {w wf wt : List (List xE)}
theorem lf_iff {v : Nat} (h : RCN B n k (XC w)) (hz : fld w 31 3 = lnC B n 1 k) : (∃ m, m < fld w 31 3 ∧ rwv w 32 (2 * m) = v) ↔ lfB B n v k = true := by
  refine ⟨fun z => ?_, fun z => ?_⟩
  · obtain ⟨m, h1, h2⟩ := z
    obtain ⟨i, i1, i2, i3⟩ := lnC_hit (B := B) (n := n) (s := 1) (m := m) k (by omega)
    have q := h.1 i i1 0 (by rw [i2]; decide)
    rw [i2, i3] at q
    have q : rwv w 32 (2 * m + 0) = vln B n (lnP B n i) 0 := q
    exact lfB_t i1 i2 (q.symm.trans h2)
  · by_cases e : ∃ m, m < fld w 31 3 ∧ rwv w 32 (2 * m) = v
    · exact e
    · exfalso
      have f := lfB_f (B := B) (n := n) (v := v) k (fun i hi hs hv => e ⟨lnC B n 1 i, by rw [hz]; exact lnC_lt hi hs, by
        have q := h.1 i hi 0 (by rw [hs]; decide)
        rw [hs] at q
        have q : rwv w 32 (2 * lnC B n 1 i + 0) = vln B n (lnP B n i) 0 := q
        exact q.trans hv⟩)
      rw [f] at z
      exact Bool.false_ne_true z
theorem manyT0 (hS : CST B n w k) (h0 : (flA B n k).1 = 0) (hs : slt B n (lnP B n k) = 0) (hF0 : xFr [27, 39, 40, 42] w wf) (c7 : fld wf 27 7 = fld w 27 7) (c8 : fld wf 27 8 = fld w 27 8) (hm : 6 ≤ fld wf 29 3) : flt B n k = (3, tq B n (lnP B n k)) := by
  obtain ⟨⟨z0, z1, z2, z3, z4, z5, z6⟩, hR, hP⟩ := hS.2.2 h0
  have c : fld wf 29 3 = fld w 29 3 := fld_fr hF0 (by decide)
  exact flt_3a hs (show 6 ≤ _ by omega)
theorem manyF0 (hS : CST B n w k) (h0 : (flA B n k).1 = 0) (hs : slt B n (lnP B n k) = 0) (hF0 : xFr [27, 39, 40, 42] w wf) (c7 : fld wf 27 7 = fld w 27 7) (c8 : fld wf 27 8 = fld w 27 8) (hm : ¬ (6 ≤ fld wf 29 3)) : ¬ lim 0 ≤ lnC B n 0 k ∧ (0 = 1 → lfB B n (vln B n (lnP B n k) 0) k = false) := by
  obtain ⟨⟨z0, z1, z2, z3, z4, z5, z6⟩, hR, hP⟩ := hS.2.2 h0
  have c : fld wf 29 3 = fld w 29 3 := fld_fr hF0 (by decide)
  exact ⟨fun z => by have z : 6 ≤ lnC B n 0 k := z; omega, fun z => absurd z (by decide)⟩
theorem CSTok0 (hS : CST B n w k) (h0 : (flA B n k).1 = 0) (hs : slt B n (lnP B n k) = 0) (hF0 : xFr [27, 39, 40, 42] w wf) (c7 : fld wf 27 7 = fld w 27 7) (c8 : fld wf 27 8 = fld w 27 8) (c9 : fld wf 27 9 = fld w 27 9) (hf : flt B n k = (0, 0)) (hF : xFr [29, 30] wf wt) (t1 : fld wt 29 3 = fld wf 29 3 + 1) (t2 : ∀ j, j < 4 * fld wf 29 3 → rwv wt 30 j = rwv wf 30 j) (t3 : ∀ t, t < 3 → rwv wt 30 (4 * fld wf 29 3 + t) = vln B n (lnP B n k) t) (t4 : rwv wt 30 (4 * fld wf 29 3 + 3) = vln B n (lnP B n k) 3) : CST B n wt (k + 1) := by
  obtain ⟨⟨z0, z1, z2, z3, z4, z5, z6⟩, hR, hP⟩ := hS.2.2 h0
  have hX : XC wf = XC w := XC_fr hF0 (by decide)
  rw [← hX] at hR
  have g0 : fld wf 29 3 = fld w 29 3 := fld_fr hF0 (by decide)
  have g1 : fld wf 31 3 = fld w 31 3 := fld_fr hF0 (by decide)
  have g2 : fld wf 33 3 = fld w 33 3 := fld_fr hF0 (by decide)
  have g3 : fld wf 35 3 = fld w 35 3 := fld_fr hF0 (by decide)
  have g4 : fld wf 37 3 = fld w 37 3 := fld_fr hF0 (by decide)
  have u1 : fld wt 31 3 = fld wf 31 3 := fld_fr hF (by decide)
  have u2 : fld wt 33 3 = fld wf 33 3 := fld_fr hF (by decide)
  have u3 : fld wt 35 3 = fld wf 35 3 := fld_fr hF (by decide)
  have u4 : fld wt 37 3 = fld wf 37 3 := fld_fr hF (by decide)
  have v7 : fld wt 27 7 = fld wf 27 7 := fld_fr hF (by decide)
  have v8 : fld wt 27 8 = fld wf 27 8 := fld_fr hF (by decide)
  have v9 : fld wt 27 9 = fld wf 27 9 := fld_fr hF (by decide)
  have y0 : lnC B n 0 (k + 1) = lnC B n 0 k + 1 := lnC_y hs
  have y1 : lnC B n 1 (k + 1) = lnC B n 1 k := lnC_n (by rw [hs]; decide)
  have y2 : lnC B n 2 (k + 1) = lnC B n 2 k := lnC_n (by rw [hs]; decide)
  have y3 : lnC B n 3 (k + 1) = lnC B n 3 k := lnC_n (by rw [hs]; decide)
  have y4 : lnC B n 4 (k + 1) = lnC B n 4 k := lnC_n (by rw [hs]; decide)
  have y5 : lnC B n 5 (k + 1) = lnC B n 5 k := lnC_n (by rw [hs]; decide)
  have y6 : lnC B n 6 (k + 1) = lnC B n 6 k := lnC_n (by rw [hs]; decide)
  have h9 := hS.1
  unfold CST
  rw [flA_y h0, hf]
  refine ⟨show fld wt 27 9 = 0 by omega, fun z => absurd rfl z, fun _ => ⟨⟨by omega, by omega, by omega, by omega, by omega, by omega, by omega⟩, ?_, fun i hi hsi => ?_⟩⟩
  · exact CTK0 hF hs hR (g0.trans z0) t2 (fun t ht => by
      by_cases e : t = 3
      · rw [e]; exact t4
      · exact t3 t (by omega))
  · by_cases e : i = k
    · subst e
      rw [hs] at hsi
      exact absurd hsi (by decide)
    · rw [rwv_fr hF (by decide), rwv_fr hF0 (by decide)]
      exact hP i (by omega) hsi
theorem manyT1 (hS : CST B n w k) (h0 : (flA B n k).1 = 0) (hs : slt B n (lnP B n k) = 1) (hF0 : xFr [27, 39, 40, 42] w wf) (c7 : fld wf 27 7 = fld w 27 7) (c8 : fld wf 27 8 = fld w 27 8) (hv : rwv wf 39 0 = vln B n (lnP B n k) 0) (hm : (4 ≤ fld wf 31 3 ∨ ∃ m, m < fld wf 31 3 ∧ rwv wf 32 (2 * m) = rwv wf 39 0)) : flt B n k = (3, tq B n (lnP B n k)) := by
  obtain ⟨⟨z0, z1, z2, z3, z4, z5, z6⟩, hR, hP⟩ := hS.2.2 h0
  have c : fld wf 31 3 = fld w 31 3 := fld_fr hF0 (by decide)
  have c32 : ∀ j, rwv wf 32 j = rwv w 32 j := fun j => rwv_fr hF0 (by decide)
  rcases hm with hm | ⟨m, hm, he⟩
  · exact flt_3a hs (show 4 ≤ _ by omega)
  · refine flt_3b hs ((lf_iff hR z1).mp ⟨m, by omega, ?_⟩)
    rw [← c32, he, hv]
theorem manyF1 (hS : CST B n w k) (h0 : (flA B n k).1 = 0) (hs : slt B n (lnP B n k) = 1) (hF0 : xFr [27, 39, 40, 42] w wf) (c7 : fld wf 27 7 = fld w 27 7) (c8 : fld wf 27 8 = fld w 27 8) (hv : rwv wf 39 0 = vln B n (lnP B n k) 0) (hm : ¬ ((4 ≤ fld wf 31 3 ∨ ∃ m, m < fld wf 31 3 ∧ rwv wf 32 (2 * m) = rwv wf 39 0))) : ¬ lim 1 ≤ lnC B n 1 k ∧ (1 = 1 → lfB B n (vln B n (lnP B n k) 0) k = false) := by
  obtain ⟨⟨z0, z1, z2, z3, z4, z5, z6⟩, hR, hP⟩ := hS.2.2 h0
  have c : fld wf 31 3 = fld w 31 3 := fld_fr hF0 (by decide)
  have c32 : ∀ j, rwv wf 32 j = rwv w 32 j := fun j => rwv_fr hF0 (by decide)
  refine ⟨fun z => hm (Or.inl (by have z : 4 ≤ lnC B n 1 k := z; omega)), fun _ => ?_⟩
  cases hz : lfB B n (vln B n (lnP B n k) 0) k with
  | false => rfl
  | true =>
    obtain ⟨m, a, b⟩ := (lf_iff hR z1).mpr hz
    exact absurd (Or.inr ⟨m, by omega, by rw [c32, b, hv]⟩) hm
theorem CSTok1 (hS : CST B n w k) (h0 : (flA B n k).1 = 0) (hs : slt B n (lnP B n k) = 1) (hF0 : xFr [27, 39, 40, 42] w wf) (c7 : fld wf 27 7 = fld w 27 7) (c8 : fld wf 27 8 = fld w 27 8) (c9 : fld wf 27 9 = fld w 27 9) (hf : flt B n k = (0, 0)) (hF : xFr [31, 32] wf wt) (t1 : fld wt 31 3 = fld wf 31 3 + 1) (t2 : ∀ j, j < 2 * fld wf 31 3 → rwv wt 32 j = rwv wf 32 j) (t3 : ∀ t, t < 2 → rwv wt 32 (2 * fld wf 31 3 + t) = vln B n (lnP B n k) t) : CST B n wt (k + 1) := by
  obtain ⟨⟨z0, z1, z2, z3, z4, z5, z6⟩, hR, hP⟩ := hS.2.2 h0
  have hX : XC wf = XC w := XC_fr hF0 (by decide)
  rw [← hX] at hR
  have g0 : fld wf 29 3 = fld w 29 3 := fld_fr hF0 (by decide)
  have g1 : fld wf 31 3 = fld w 31 3 := fld_fr hF0 (by decide)
  have g2 : fld wf 33 3 = fld w 33 3 := fld_fr hF0 (by decide)
  have g3 : fld wf 35 3 = fld w 35 3 := fld_fr hF0 (by decide)
  have g4 : fld wf 37 3 = fld w 37 3 := fld_fr hF0 (by decide)
  have u0 : fld wt 29 3 = fld wf 29 3 := fld_fr hF (by decide)
  have u2 : fld wt 33 3 = fld wf 33 3 := fld_fr hF (by decide)
  have u3 : fld wt 35 3 = fld wf 35 3 := fld_fr hF (by decide)
  have u4 : fld wt 37 3 = fld wf 37 3 := fld_fr hF (by decide)
  have v7 : fld wt 27 7 = fld wf 27 7 := fld_fr hF (by decide)
  have v8 : fld wt 27 8 = fld wf 27 8 := fld_fr hF (by decide)
  have v9 : fld wt 27 9 = fld wf 27 9 := fld_fr hF (by decide)
  have y0 : lnC B n 0 (k + 1) = lnC B n 0 k := lnC_n (by rw [hs]; decide)
  have y1 : lnC B n 1 (k + 1) = lnC B n 1 k + 1 := lnC_y hs
  have y2 : lnC B n 2 (k + 1) = lnC B n 2 k := lnC_n (by rw [hs]; decide)
  have y3 : lnC B n 3 (k + 1) = lnC B n 3 k := lnC_n (by rw [hs]; decide)
  have y4 : lnC B n 4 (k + 1) = lnC B n 4 k := lnC_n (by rw [hs]; decide)
  have y5 : lnC B n 5 (k + 1) = lnC B n 5 k := lnC_n (by rw [hs]; decide)
  have y6 : lnC B n 6 (k + 1) = lnC B n 6 k := lnC_n (by rw [hs]; decide)
  have h9 := hS.1
  unfold CST
  rw [flA_y h0, hf]
  refine ⟨show fld wt 27 9 = 0 by omega, fun z => absurd rfl z, fun _ => ⟨⟨by omega, by omega, by omega, by omega, by omega, by omega, by omega⟩, ?_, fun i hi hsi => ?_⟩⟩
  · exact CTK1 hF hs hR (g1.trans z1) t2 t3
  · by_cases e : i = k
    · subst e
      rw [hs] at hsi
      exact absurd hsi (by decide)
    · rw [rwv_fr hF (by decide), rwv_fr hF0 (by decide)]
      exact hP i (by omega) hsi
theorem manyT2 (hS : CST B n w k) (h0 : (flA B n k).1 = 0) (hs : slt B n (lnP B n k) = 2) (hF0 : xFr [27, 39, 40, 42] w wf) (c7 : fld wf 27 7 = fld w 27 7) (c8 : fld wf 27 8 = fld w 27 8) (hm : 6 ≤ fld wf 33 3) : flt B n k = (3, tq B n (lnP B n k)) := by
  obtain ⟨⟨z0, z1, z2, z3, z4, z5, z6⟩, hR, hP⟩ := hS.2.2 h0
  have c : fld wf 33 3 = fld w 33 3 := fld_fr hF0 (by decide)
  exact flt_3a hs (show 6 ≤ _ by omega)
theorem manyF2 (hS : CST B n w k) (h0 : (flA B n k).1 = 0) (hs : slt B n (lnP B n k) = 2) (hF0 : xFr [27, 39, 40, 42] w wf) (c7 : fld wf 27 7 = fld w 27 7) (c8 : fld wf 27 8 = fld w 27 8) (hm : ¬ (6 ≤ fld wf 33 3)) : ¬ lim 2 ≤ lnC B n 2 k ∧ (2 = 1 → lfB B n (vln B n (lnP B n k) 0) k = false) := by
  obtain ⟨⟨z0, z1, z2, z3, z4, z5, z6⟩, hR, hP⟩ := hS.2.2 h0
  have c : fld wf 33 3 = fld w 33 3 := fld_fr hF0 (by decide)
  exact ⟨fun z => by have z : 6 ≤ lnC B n 2 k := z; omega, fun z => absurd z (by decide)⟩
theorem CSTok2 (hS : CST B n w k) (h0 : (flA B n k).1 = 0) (hs : slt B n (lnP B n k) = 2) (hF0 : xFr [27, 39, 40, 42] w wf) (c7 : fld wf 27 7 = fld w 27 7) (c8 : fld wf 27 8 = fld w 27 8) (c9 : fld wf 27 9 = fld w 27 9) (hf : flt B n k = (0, 0)) (hF : xFr [33, 34] wf wt) (t1 : fld wt 33 3 = fld wf 33 3 + 1) (t2 : ∀ j, j < 2 * fld wf 33 3 → rwv wt 34 j = rwv wf 34 j) (t3 : ∀ t, t < 2 → rwv wt 34 (2 * fld wf 33 3 + t) = vln B n (lnP B n k) t) : CST B n wt (k + 1) := by
  obtain ⟨⟨z0, z1, z2, z3, z4, z5, z6⟩, hR, hP⟩ := hS.2.2 h0
  have hX : XC wf = XC w := XC_fr hF0 (by decide)
  rw [← hX] at hR
  have g0 : fld wf 29 3 = fld w 29 3 := fld_fr hF0 (by decide)
  have g1 : fld wf 31 3 = fld w 31 3 := fld_fr hF0 (by decide)
  have g2 : fld wf 33 3 = fld w 33 3 := fld_fr hF0 (by decide)
  have g3 : fld wf 35 3 = fld w 35 3 := fld_fr hF0 (by decide)
  have g4 : fld wf 37 3 = fld w 37 3 := fld_fr hF0 (by decide)
  have u0 : fld wt 29 3 = fld wf 29 3 := fld_fr hF (by decide)
  have u1 : fld wt 31 3 = fld wf 31 3 := fld_fr hF (by decide)
  have u3 : fld wt 35 3 = fld wf 35 3 := fld_fr hF (by decide)
  have u4 : fld wt 37 3 = fld wf 37 3 := fld_fr hF (by decide)
  have v7 : fld wt 27 7 = fld wf 27 7 := fld_fr hF (by decide)
  have v8 : fld wt 27 8 = fld wf 27 8 := fld_fr hF (by decide)
  have v9 : fld wt 27 9 = fld wf 27 9 := fld_fr hF (by decide)
  have y0 : lnC B n 0 (k + 1) = lnC B n 0 k := lnC_n (by rw [hs]; decide)
  have y1 : lnC B n 1 (k + 1) = lnC B n 1 k := lnC_n (by rw [hs]; decide)
  have y2 : lnC B n 2 (k + 1) = lnC B n 2 k + 1 := lnC_y hs
  have y3 : lnC B n 3 (k + 1) = lnC B n 3 k := lnC_n (by rw [hs]; decide)
  have y4 : lnC B n 4 (k + 1) = lnC B n 4 k := lnC_n (by rw [hs]; decide)
  have y5 : lnC B n 5 (k + 1) = lnC B n 5 k := lnC_n (by rw [hs]; decide)
  have y6 : lnC B n 6 (k + 1) = lnC B n 6 k := lnC_n (by rw [hs]; decide)
  have h9 := hS.1
  unfold CST
  rw [flA_y h0, hf]
  refine ⟨show fld wt 27 9 = 0 by omega, fun z => absurd rfl z, fun _ => ⟨⟨by omega, by omega, by omega, by omega, by omega, by omega, by omega⟩, ?_, fun i hi hsi => ?_⟩⟩
  · exact CTK2 hF hs hR (g2.trans z2) t2 t3
  · by_cases e : i = k
    · subst e
      rw [hs] at hsi
      exact absurd hsi (by decide)
    · rw [rwv_fr hF (by decide), rwv_fr hF0 (by decide)]
      exact hP i (by omega) hsi
theorem manyT3 (hS : CST B n w k) (h0 : (flA B n k).1 = 0) (hs : slt B n (lnP B n k) = 3) (hF0 : xFr [27, 39, 40, 42] w wf) (c7 : fld wf 27 7 = fld w 27 7) (c8 : fld wf 27 8 = fld w 27 8) (hm : 4 ≤ fld wf 35 3) : flt B n k = (3, tq B n (lnP B n k)) := by
  obtain ⟨⟨z0, z1, z2, z3, z4, z5, z6⟩, hR, hP⟩ := hS.2.2 h0
  have c : fld wf 35 3 = fld w 35 3 := fld_fr hF0 (by decide)
  exact flt_3a hs (show 4 ≤ _ by omega)
theorem manyF3 (hS : CST B n w k) (h0 : (flA B n k).1 = 0) (hs : slt B n (lnP B n k) = 3) (hF0 : xFr [27, 39, 40, 42] w wf) (c7 : fld wf 27 7 = fld w 27 7) (c8 : fld wf 27 8 = fld w 27 8) (hm : ¬ (4 ≤ fld wf 35 3)) : ¬ lim 3 ≤ lnC B n 3 k ∧ (3 = 1 → lfB B n (vln B n (lnP B n k) 0) k = false) := by
  obtain ⟨⟨z0, z1, z2, z3, z4, z5, z6⟩, hR, hP⟩ := hS.2.2 h0
  have c : fld wf 35 3 = fld w 35 3 := fld_fr hF0 (by decide)
  exact ⟨fun z => by have z : 4 ≤ lnC B n 3 k := z; omega, fun z => absurd z (by decide)⟩
theorem CSTok3 (hS : CST B n w k) (h0 : (flA B n k).1 = 0) (hs : slt B n (lnP B n k) = 3) (hF0 : xFr [27, 39, 40, 42] w wf) (c7 : fld wf 27 7 = fld w 27 7) (c8 : fld wf 27 8 = fld w 27 8) (c9 : fld wf 27 9 = fld w 27 9) (hf : flt B n k = (0, 0)) (hF : xFr [35, 36] wf wt) (t1 : fld wt 35 3 = fld wf 35 3 + 1) (t2 : ∀ j, j < 3 * fld wf 35 3 → rwv wt 36 j = rwv wf 36 j) (t3 : ∀ t, t < 3 → rwv wt 36 (3 * fld wf 35 3 + t) = vln B n (lnP B n k) t) : CST B n wt (k + 1) := by
  obtain ⟨⟨z0, z1, z2, z3, z4, z5, z6⟩, hR, hP⟩ := hS.2.2 h0
  have hX : XC wf = XC w := XC_fr hF0 (by decide)
  rw [← hX] at hR
  have g0 : fld wf 29 3 = fld w 29 3 := fld_fr hF0 (by decide)
  have g1 : fld wf 31 3 = fld w 31 3 := fld_fr hF0 (by decide)
  have g2 : fld wf 33 3 = fld w 33 3 := fld_fr hF0 (by decide)
  have g3 : fld wf 35 3 = fld w 35 3 := fld_fr hF0 (by decide)
  have g4 : fld wf 37 3 = fld w 37 3 := fld_fr hF0 (by decide)
  have u0 : fld wt 29 3 = fld wf 29 3 := fld_fr hF (by decide)
  have u1 : fld wt 31 3 = fld wf 31 3 := fld_fr hF (by decide)
  have u2 : fld wt 33 3 = fld wf 33 3 := fld_fr hF (by decide)
  have u4 : fld wt 37 3 = fld wf 37 3 := fld_fr hF (by decide)
  have v7 : fld wt 27 7 = fld wf 27 7 := fld_fr hF (by decide)
  have v8 : fld wt 27 8 = fld wf 27 8 := fld_fr hF (by decide)
  have v9 : fld wt 27 9 = fld wf 27 9 := fld_fr hF (by decide)
  have y0 : lnC B n 0 (k + 1) = lnC B n 0 k := lnC_n (by rw [hs]; decide)
  have y1 : lnC B n 1 (k + 1) = lnC B n 1 k := lnC_n (by rw [hs]; decide)
  have y2 : lnC B n 2 (k + 1) = lnC B n 2 k := lnC_n (by rw [hs]; decide)
  have y3 : lnC B n 3 (k + 1) = lnC B n 3 k + 1 := lnC_y hs
  have y4 : lnC B n 4 (k + 1) = lnC B n 4 k := lnC_n (by rw [hs]; decide)
  have y5 : lnC B n 5 (k + 1) = lnC B n 5 k := lnC_n (by rw [hs]; decide)
  have y6 : lnC B n 6 (k + 1) = lnC B n 6 k := lnC_n (by rw [hs]; decide)
  have h9 := hS.1
  unfold CST
  rw [flA_y h0, hf]
  refine ⟨show fld wt 27 9 = 0 by omega, fun z => absurd rfl z, fun _ => ⟨⟨by omega, by omega, by omega, by omega, by omega, by omega, by omega⟩, ?_, fun i hi hsi => ?_⟩⟩
  · exact CTK3 hF hs hR (g3.trans z3) t2 t3
  · by_cases e : i = k
    · subst e
      rw [hs] at hsi
      exact absurd hsi (by decide)
    · rw [rwv_fr hF (by decide), rwv_fr hF0 (by decide)]
      exact hP i (by omega) hsi
theorem manyT4 (hS : CST B n w k) (h0 : (flA B n k).1 = 0) (hs : slt B n (lnP B n k) = 4) (hF0 : xFr [27, 39, 40, 42] w wf) (c7 : fld wf 27 7 = fld w 27 7) (c8 : fld wf 27 8 = fld w 27 8) (hm : 20 ≤ fld wf 37 3) : flt B n k = (3, tq B n (lnP B n k)) := by
  obtain ⟨⟨z0, z1, z2, z3, z4, z5, z6⟩, hR, hP⟩ := hS.2.2 h0
  have c : fld wf 37 3 = fld w 37 3 := fld_fr hF0 (by decide)
  exact flt_3a hs (show 20 ≤ _ by omega)
theorem manyF4 (hS : CST B n w k) (h0 : (flA B n k).1 = 0) (hs : slt B n (lnP B n k) = 4) (hF0 : xFr [27, 39, 40, 42] w wf) (c7 : fld wf 27 7 = fld w 27 7) (c8 : fld wf 27 8 = fld w 27 8) (hm : ¬ (20 ≤ fld wf 37 3)) : ¬ lim 4 ≤ lnC B n 4 k ∧ (4 = 1 → lfB B n (vln B n (lnP B n k) 0) k = false) := by
  obtain ⟨⟨z0, z1, z2, z3, z4, z5, z6⟩, hR, hP⟩ := hS.2.2 h0
  have c : fld wf 37 3 = fld w 37 3 := fld_fr hF0 (by decide)
  exact ⟨fun z => by have z : 20 ≤ lnC B n 4 k := z; omega, fun z => absurd z (by decide)⟩
theorem CSTok4 (hS : CST B n w k) (h0 : (flA B n k).1 = 0) (hs : slt B n (lnP B n k) = 4) (hF0 : xFr [27, 39, 40, 42] w wf) (c7 : fld wf 27 7 = fld w 27 7) (c8 : fld wf 27 8 = fld w 27 8) (c9 : fld wf 27 9 = fld w 27 9) (hf : flt B n k = (0, 0)) (hF : xFr [37, 38, 41] wf wt) (t1 : fld wt 37 3 = fld wf 37 3 + 1) (t2 : ∀ j, j < 2 * fld wf 37 3 → rwv wt 38 j = rwv wf 38 j) (t3 : ∀ t, t < 2 → rwv wt 38 (2 * fld wf 37 3 + t) = vln B n (lnP B n k) t) (t5 : rwv wt 41 (fld wf 37 3) = tq B n (lnP B n k)) (t6 : ∀ j, j < fld wf 37 3 → rwv wt 41 j = rwv wf 41 j) : CST B n wt (k + 1) := by
  obtain ⟨⟨z0, z1, z2, z3, z4, z5, z6⟩, hR, hP⟩ := hS.2.2 h0
  have hX : XC wf = XC w := XC_fr hF0 (by decide)
  rw [← hX] at hR
  have g0 : fld wf 29 3 = fld w 29 3 := fld_fr hF0 (by decide)
  have g1 : fld wf 31 3 = fld w 31 3 := fld_fr hF0 (by decide)
  have g2 : fld wf 33 3 = fld w 33 3 := fld_fr hF0 (by decide)
  have g3 : fld wf 35 3 = fld w 35 3 := fld_fr hF0 (by decide)
  have g4 : fld wf 37 3 = fld w 37 3 := fld_fr hF0 (by decide)
  have u0 : fld wt 29 3 = fld wf 29 3 := fld_fr hF (by decide)
  have u1 : fld wt 31 3 = fld wf 31 3 := fld_fr hF (by decide)
  have u2 : fld wt 33 3 = fld wf 33 3 := fld_fr hF (by decide)
  have u3 : fld wt 35 3 = fld wf 35 3 := fld_fr hF (by decide)
  have v7 : fld wt 27 7 = fld wf 27 7 := fld_fr hF (by decide)
  have v8 : fld wt 27 8 = fld wf 27 8 := fld_fr hF (by decide)
  have v9 : fld wt 27 9 = fld wf 27 9 := fld_fr hF (by decide)
  have y0 : lnC B n 0 (k + 1) = lnC B n 0 k := lnC_n (by rw [hs]; decide)
  have y1 : lnC B n 1 (k + 1) = lnC B n 1 k := lnC_n (by rw [hs]; decide)
  have y2 : lnC B n 2 (k + 1) = lnC B n 2 k := lnC_n (by rw [hs]; decide)
  have y3 : lnC B n 3 (k + 1) = lnC B n 3 k := lnC_n (by rw [hs]; decide)
  have y4 : lnC B n 4 (k + 1) = lnC B n 4 k + 1 := lnC_y hs
  have y5 : lnC B n 5 (k + 1) = lnC B n 5 k := lnC_n (by rw [hs]; decide)
  have y6 : lnC B n 6 (k + 1) = lnC B n 6 k := lnC_n (by rw [hs]; decide)
  have h9 := hS.1
  unfold CST
  rw [flA_y h0, hf]
  refine ⟨show fld wt 27 9 = 0 by omega, fun z => absurd rfl z, fun _ => ⟨⟨by omega, by omega, by omega, by omega, by omega, by omega, by omega⟩, ?_, fun i hi hsi => ?_⟩⟩
  · exact CTK4 hF hs hR (g4.trans z4) t2 t3
  · by_cases e : i = k
    · subst e
      rw [← z4, ← g4]
      exact t5
    · have q := lnC_lt (B := B) (n := n) (show i < k by omega) hsi
      rw [t6 _ (by omega), rwv_fr hF0 (by decide)]
      exact hP i (by omega) hsi
theorem manyT5 (hS : CST B n w k) (h0 : (flA B n k).1 = 0) (hs : slt B n (lnP B n k) = 5) (hF0 : xFr [27, 39, 40, 42] w wf) (c7 : fld wf 27 7 = fld w 27 7) (c8 : fld wf 27 8 = fld w 27 8) (hm : fld wf 27 7 ≠ 0) : flt B n k = (3, tq B n (lnP B n k)) := by
  obtain ⟨⟨z0, z1, z2, z3, z4, z5, z6⟩, hR, hP⟩ := hS.2.2 h0
  have c := c7
  exact flt_3a hs (show 1 ≤ _ by omega)
theorem manyF5 (hS : CST B n w k) (h0 : (flA B n k).1 = 0) (hs : slt B n (lnP B n k) = 5) (hF0 : xFr [27, 39, 40, 42] w wf) (c7 : fld wf 27 7 = fld w 27 7) (c8 : fld wf 27 8 = fld w 27 8) (hm : ¬ (fld wf 27 7 ≠ 0)) : ¬ lim 5 ≤ lnC B n 5 k ∧ (5 = 1 → lfB B n (vln B n (lnP B n k) 0) k = false) := by
  obtain ⟨⟨z0, z1, z2, z3, z4, z5, z6⟩, hR, hP⟩ := hS.2.2 h0
  have c := c7
  exact ⟨fun z => by have z : 1 ≤ lnC B n 5 k := z; omega, fun z => absurd z (by decide)⟩
theorem CSTok5 (hS : CST B n w k) (h0 : (flA B n k).1 = 0) (hs : slt B n (lnP B n k) = 5) (hF0 : xFr [27, 39, 40, 42] w wf) (c7 : fld wf 27 7 = fld w 27 7) (c8 : fld wf 27 8 = fld w 27 8) (c9 : fld wf 27 9 = fld w 27 9) (hf : flt B n k = (0, 0)) (hF : xFr [27, 28] wf wt) (hm : ¬ (fld wf 27 7 ≠ 0)) (t2 : ∀ t, t < 2 → fld wt 28 (5 + t) = vln B n (lnP B n k) t) (t3 : ∀ t, t < 2 → fld wt 28 (7 + t) = fld wf 28 (7 + t)) (t4 : fld wt 27 7 = 1) (t5 : fld wt 27 8 = fld wf 27 8) (t6 : fld wt 27 9 = fld wf 27 9) : CST B n wt (k + 1) := by
  obtain ⟨⟨z0, z1, z2, z3, z4, z5, z6⟩, hR, hP⟩ := hS.2.2 h0
  have hX : XC wf = XC w := XC_fr hF0 (by decide)
  rw [← hX] at hR
  have g0 : fld wf 29 3 = fld w 29 3 := fld_fr hF0 (by decide)
  have g1 : fld wf 31 3 = fld w 31 3 := fld_fr hF0 (by decide)
  have g2 : fld wf 33 3 = fld w 33 3 := fld_fr hF0 (by decide)
  have g3 : fld wf 35 3 = fld w 35 3 := fld_fr hF0 (by decide)
  have g4 : fld wf 37 3 = fld w 37 3 := fld_fr hF0 (by decide)
  have u0 : fld wt 29 3 = fld wf 29 3 := fld_fr hF (by decide)
  have u1 : fld wt 31 3 = fld wf 31 3 := fld_fr hF (by decide)
  have u2 : fld wt 33 3 = fld wf 33 3 := fld_fr hF (by decide)
  have u3 : fld wt 35 3 = fld wf 35 3 := fld_fr hF (by decide)
  have u4 : fld wt 37 3 = fld wf 37 3 := fld_fr hF (by decide)
  have y0 : lnC B n 0 (k + 1) = lnC B n 0 k := lnC_n (by rw [hs]; decide)
  have y1 : lnC B n 1 (k + 1) = lnC B n 1 k := lnC_n (by rw [hs]; decide)
  have y2 : lnC B n 2 (k + 1) = lnC B n 2 k := lnC_n (by rw [hs]; decide)
  have y3 : lnC B n 3 (k + 1) = lnC B n 3 k := lnC_n (by rw [hs]; decide)
  have y4 : lnC B n 4 (k + 1) = lnC B n 4 k := lnC_n (by rw [hs]; decide)
  have y5 : lnC B n 5 (k + 1) = lnC B n 5 k + 1 := lnC_y hs
  have y6 : lnC B n 6 (k + 1) = lnC B n 6 k := lnC_n (by rw [hs]; decide)
  have h9 := hS.1
  unfold CST
  rw [flA_y h0, hf]
  refine ⟨show fld wt 27 9 = 0 by omega, fun z => absurd rfl z, fun _ => ⟨⟨by omega, by omega, by omega, by omega, by omega, by omega, by omega⟩, ?_, fun i hi hsi => ?_⟩⟩
  · exact CTK5 hF hs hR (by omega) t3 t2
  · by_cases e : i = k
    · subst e
      rw [hs] at hsi
      exact absurd hsi (by decide)
    · rw [rwv_fr hF (by decide), rwv_fr hF0 (by decide)]
      exact hP i (by omega) hsi
theorem manyT6 (hS : CST B n w k) (h0 : (flA B n k).1 = 0) (hs : slt B n (lnP B n k) = 6) (hF0 : xFr [27, 39, 40, 42] w wf) (c7 : fld wf 27 7 = fld w 27 7) (c8 : fld wf 27 8 = fld w 27 8) (hm : fld wf 27 8 ≠ 0) : flt B n k = (3, tq B n (lnP B n k)) := by
  obtain ⟨⟨z0, z1, z2, z3, z4, z5, z6⟩, hR, hP⟩ := hS.2.2 h0
  have c := c8
  exact flt_3a hs (show 1 ≤ _ by omega)
theorem manyF6 (hS : CST B n w k) (h0 : (flA B n k).1 = 0) (hs : slt B n (lnP B n k) = 6) (hF0 : xFr [27, 39, 40, 42] w wf) (c7 : fld wf 27 7 = fld w 27 7) (c8 : fld wf 27 8 = fld w 27 8) (hm : ¬ (fld wf 27 8 ≠ 0)) : ¬ lim 6 ≤ lnC B n 6 k ∧ (6 = 1 → lfB B n (vln B n (lnP B n k) 0) k = false) := by
  obtain ⟨⟨z0, z1, z2, z3, z4, z5, z6⟩, hR, hP⟩ := hS.2.2 h0
  have c := c8
  exact ⟨fun z => by have z : 1 ≤ lnC B n 6 k := z; omega, fun z => absurd z (by decide)⟩
theorem CSTok6 (hS : CST B n w k) (h0 : (flA B n k).1 = 0) (hs : slt B n (lnP B n k) = 6) (hF0 : xFr [27, 39, 40, 42] w wf) (c7 : fld wf 27 7 = fld w 27 7) (c8 : fld wf 27 8 = fld w 27 8) (c9 : fld wf 27 9 = fld w 27 9) (hf : flt B n k = (0, 0)) (hF : xFr [27, 28] wf wt) (hm : ¬ (fld wf 27 8 ≠ 0)) (t2 : ∀ t, t < 2 → fld wt 28 (7 + t) = vln B n (lnP B n k) t) (t3 : ∀ t, t < 2 → fld wt 28 (5 + t) = fld wf 28 (5 + t)) (t4 : fld wt 27 8 = 1) (t5 : fld wt 27 7 = fld wf 27 7) (t6 : fld wt 27 9 = fld wf 27 9) : CST B n wt (k + 1) := by
  obtain ⟨⟨z0, z1, z2, z3, z4, z5, z6⟩, hR, hP⟩ := hS.2.2 h0
  have hX : XC wf = XC w := XC_fr hF0 (by decide)
  rw [← hX] at hR
  have g0 : fld wf 29 3 = fld w 29 3 := fld_fr hF0 (by decide)
  have g1 : fld wf 31 3 = fld w 31 3 := fld_fr hF0 (by decide)
  have g2 : fld wf 33 3 = fld w 33 3 := fld_fr hF0 (by decide)
  have g3 : fld wf 35 3 = fld w 35 3 := fld_fr hF0 (by decide)
  have g4 : fld wf 37 3 = fld w 37 3 := fld_fr hF0 (by decide)
  have u0 : fld wt 29 3 = fld wf 29 3 := fld_fr hF (by decide)
  have u1 : fld wt 31 3 = fld wf 31 3 := fld_fr hF (by decide)
  have u2 : fld wt 33 3 = fld wf 33 3 := fld_fr hF (by decide)
  have u3 : fld wt 35 3 = fld wf 35 3 := fld_fr hF (by decide)
  have u4 : fld wt 37 3 = fld wf 37 3 := fld_fr hF (by decide)
  have y0 : lnC B n 0 (k + 1) = lnC B n 0 k := lnC_n (by rw [hs]; decide)
  have y1 : lnC B n 1 (k + 1) = lnC B n 1 k := lnC_n (by rw [hs]; decide)
  have y2 : lnC B n 2 (k + 1) = lnC B n 2 k := lnC_n (by rw [hs]; decide)
  have y3 : lnC B n 3 (k + 1) = lnC B n 3 k := lnC_n (by rw [hs]; decide)
  have y4 : lnC B n 4 (k + 1) = lnC B n 4 k := lnC_n (by rw [hs]; decide)
  have y5 : lnC B n 5 (k + 1) = lnC B n 5 k := lnC_n (by rw [hs]; decide)
  have y6 : lnC B n 6 (k + 1) = lnC B n 6 k + 1 := lnC_y hs
  have h9 := hS.1
  unfold CST
  rw [flA_y h0, hf]
  refine ⟨show fld wt 27 9 = 0 by omega, fun z => absurd rfl z, fun _ => ⟨⟨by omega, by omega, by omega, by omega, by omega, by omega, by omega⟩, ?_, fun i hi hsi => ?_⟩⟩
  · exact CTK6 hF hs hR (by omega) t3 t2
  · by_cases e : i = k
    · subst e
      rw [hs] at hsi
      exact absurd hsi (by decide)
    · rw [rwv_fr hF (by decide), rwv_fr hF0 (by decide)]
      exact hP i (by omega) hsi
end XFCC
section XFCD
variable {d : Nat} {w : List (List xE)} {bd : List (Nat × Nat)} {fc : List (Nat × Nat × Bool)} {rr : Nat × Nat}
set_option maxHeartbeats 60000000 in
theorem ftLineX {B : Nat → Nat} {nn k p0 : Nat} (hI : xInv w) (hB : bsr w B nn) (hp0 : p0 = lnP B nn k) (hT : TKw 42 B nn w p0) (hS : CST B nn w k) : xPi (d + 6) mX2_readLine [(2, 27)] w bd fc rr (fun n w' => (((n = 1 ∧ (lnR B nn p0).1 = true ∧ TKw 42 B nn w' (lnP B nn (k + 1)) ∧ CST B nn w' (k + 1)) ∨ (n = 0 ∧ ¬ (lnR B nn p0).1 = true ∧ fld w' 42 3 = tq B nn (lnR B nn p0).2)) ∧ fld w' 28 9 = fld w 28 9) ∧ xInv w' ∧ xFr [27, 28, 29, 30, 31, 32, 33, 34, 35, 36, 37, 38, 39, 40, 41, 42] w w') := by
  refine xPi.of ?_
  show xTo (d + 6) mX2_readLine (0, [], [(0, (2, 27))], [], (w, bd, fc, 0, 0, rr)) (fun φ => ∃ n w', xEnd 4 [(0, n)] (w', bd, fc, 0, 0, rr) φ ∧ (((n = 1 ∧ (lnR B nn p0).1 = true ∧ TKw 42 B nn w' (lnP B nn (k + 1)) ∧ CST B nn w' (k + 1)) ∨ (n = 0 ∧ ¬ (lnR B nn p0).1 = true ∧ fld w' 42 3 = tq B nn (lnR B nn p0).2)) ∧ fld w' 28 9 = fld w 28 9) ∧ xInv w' ∧ xFr [27, 28, 29, 30, 31, 32, 33, 34, 35, 36, 37, 38, 39, 40, 41, 42] w w')
  refine xoC27 (xqc27 hI : cp27 (wget w 27)) (fun f27_1 f27_3 f27_5 f27_7 f27_9 h27_11 hb2 hb4 hb6 hb8 hb10 => ?_)
  refine xoC42 (xqc42 hI : cp42 (wget w 42)) (fun f42_12 f42_14 f42_16 f42_18 f42_20 h42_22 hb13 hb15 hb17 hb19 hb21 hb23 => ?_)
  obtain ⟨⟨ht24, ht25, ht26, ht27, ht28⟩, -⟩ := id hT
  have hq29 : fld w 42 3 = f42_16 := fld_of h42_22
  refine xg_t (xg_blq rfl) ?_
  refine xg_t (xg_aload (va := (2, 27)) rfl rfl) ?_
  refine xg_cVi mX2_sortOfWord (vs := []) (rest := []) (cn1 := 0) (sl1 := 0) rfl (ftSortX (hI) hB hT) rfl h27_11 rfl rfl rfl rfl rfl rfl (fun n34 w30 hq31 => ?_)
  obtain ⟨hn35, hI32, hF33⟩ := hq31
  rcases hn35 with ⟨hs, rfl⟩ | ⟨hs, rfl⟩ | ⟨hs, rfl⟩ | ⟨hs, rfl⟩ | ⟨hs, rfl⟩ | ⟨hs, rfl⟩ | ⟨hs, rfl⟩ | ⟨hs, rfl⟩
  · have hsk : slt B nn (lnP B nn k) = 0 := by rw [← hp0]; exact hs
    refine xg_t (xg_istore (l1 := [(0, (2, 27))]) rfl rfl rfl) ?_
    refine xg_t (xg_aload (va := (2, 27)) rfl rfl) ?_
    refine xg_t (xg_getf (va := (2, 42)) (hF33.get (by decide) h27_11) rfl) ?_
    refine xg_t (xg_getf (va := (0, f42_16)) (hF33.get (by decide) h42_22) rfl) ?_
    refine xg_t (xg_istore (l1 := [(1, (0, 0)), (0, (2, 27))]) rfl rfl rfl) ?_
    refine xg_t (xg_iload (va := (0, 0)) rfl rfl) ?_
    refine xg_t (xg_const) ?_
    refine xg_t (xg_icT (u := 0) (v := 4294967295) rfl xnm0 xnm0 (by decide)) ?_
    refine xg_t (xg_blq rfl) ?_
    refine xg_t (xg_aload (va := (2, 27)) rfl rfl) ?_
    refine xg_t (xg_getf (va := (2, 42)) (hF33.get (by decide) h27_11) rfl) ?_
    obtain ⟨⟨ht36, -, -, ht37, ht38⟩, -⟩ := id (hT.fr (hF33.1 42 (by decide)))
    refine xg_cVv mX8_advance (vs := []) (rest := []) (cn1 := 0) (sl1 := 0) rfl (tkAdvX42 (hI32) (hB.fr (hF33.1 2 (by decide))) ht36 (by rw [ht37]; exact tf_le ht38)) rfl (hF33.get (by decide) h42_22) rfl rfl rfl rfl rfl rfl (fun w39 hq40 => ?_)
    obtain ⟨hI41, hF42, hx43⟩ := hq40
    rw [ht37] at hx43
    clear ht36 ht37 ht38
    obtain ⟨p_44, hp45⟩ : ∃ x, x = tf B nn p0 := ⟨_, rfl⟩
    rw [← hp45] at hx43
    have ln46 : lnR B nn p0 = lnN B nn 0 3 p_44 := by rw [hp45]; exact lnR_go hs (by decide)
    obtain ⟨⟨ht47, ht48, ht49, ht50, ht51⟩, ht52⟩ := id hx43
    refine xoC42 (xqc42 hI41 : cp42 (wget w39 42)) (fun f42_53 f42_55 f42_57 f42_59 f42_61 h42_63 hb54 hb56 hb58 hb60 hb62 hb64 => ?_)
    have hq65 : fld w39 42 1 = f42_53 := fld_of h42_63
    have hq66 : fld w39 42 2 = f42_55 := fld_of h42_63
    have hq67 : fld w39 42 3 = f42_57 := fld_of h42_63
    have hq68 : fld w39 42 4 = f42_59 := fld_of h42_63
    have hq69 : fld w39 42 5 = f42_61 := fld_of h42_63
    refine xg_t (xg_const) ?_
    refine xg_t (xg_istore (l1 := [(2, (0, f42_16)), (1, (0, 0)), (0, (2, 27))]) rfl rfl rfl) ?_
    refine xg_t (xg_blq rfl) ?_
    refine xg_t (xg_iload (va := (0, 0)) rfl rfl) ?_
    refine xg_t (xg_gets) ?_
    refine xg_t (xg_iload (va := (0, 0)) rfl rfl) ?_
    refine xg_t (xg_ald8L (n := 0) (u := 3) xnm0 rfl rfl) ?_
    refine xg_t (xg_icF (u := 0) (v := 3) rfl xnm0 xnm0 (by decide)) ?_
    refine xg_t (xg_iload (va := (0, 0)) rfl rfl) ?_
    refine xg_t (xg_const) ?_
    refine xg_t (xg_icF (u := 0) (v := 3) rfl xnm0 xnm0 (by decide)) ?_
    refine xg_t (xg_aload (va := (2, 27)) rfl rfl) ?_
    refine xg_t (xg_getf (va := (2, 42)) (hF42.get (by decide) (hF33.get (by decide) h27_11)) rfl) ?_
    refine xg_t (xg_getf (va := (0, f42_55)) h42_63 rfl) ?_
    refine xg_t (xg_const) ?_
    by_cases hc70 : f42_55 = 2
    · refine xg_t (xg_icT (u := f42_55) (v := 2) rfl xnm0 xnm0 (xj_eqT hc70)) ?_
      refine xg_t (xg_blq rfl) ?_
      have hk71 : tkd B nn p_44 = 2 := by omega
      have hv72 : f42_61 = tnu B nn p_44 := hq69.symm.trans (ht52 hk71)
      have hw73 : f42_57 = tq B nn p_44 := by omega
      refine xg_t (xg_aload (va := (2, 27)) rfl rfl) ?_
      refine xg_t (xg_getf (va := (2, 39)) (hF42.get (by decide) (hF33.get (by decide) h27_11)) rfl) ?_
      refine xg_t (xg_iload (va := (0, 0)) rfl rfl) ?_
      refine xg_t (xg_aload (va := (2, 27)) rfl rfl) ?_
      refine xg_t (xg_getf (va := (2, 42)) (hF42.get (by decide) (hF33.get (by decide) h27_11)) rfl) ?_
      refine xg_t (xg_getf (va := (0, f42_61)) h42_63 rfl) ?_
      refine xoI (xqc39 hI41 : cpI 3 18 4294967295 (wget w39 39)) (fun g39_74 h39_75 hb76 => ?_)
      refine xg_iastK (n := 0) (u := f42_61) h39_75 xnm0 xnm0 rfl (by first | decide | omega) (fun w77 hr78 hb79 => ?_)
      refine xg_t (xg_aload (va := (2, 27)) rfl rfl) ?_
      refine xg_t (xg_getf (va := (2, 40)) (hb79.get (by decide) (hF42.get (by decide) (hF33.get (by decide) h27_11))) rfl) ?_
      refine xg_t (xg_iload (va := (0, 0)) rfl rfl) ?_
      refine xg_t (xg_aload (va := (2, 27)) rfl rfl) ?_
      refine xg_t (xg_getf (va := (2, 42)) (hb79.get (by decide) (hF42.get (by decide) (hF33.get (by decide) h27_11))) rfl) ?_
      refine xg_t (xg_getf (va := (0, f42_57)) (hb79.get (by decide) h42_63) rfl) ?_
      refine xoI (xqc40 hI41 : cpI 3 19 4294967295 (wget w39 40)) (fun g40_80 h40_81 hb82 => ?_)
      refine xg_iastK (n := 0) (u := f42_57) (h40_81.but hb79 (by decide)) xnm0 xnm0 rfl (by first | decide | omega) (fun w83 hr84 hb85 => ?_)
      refine xg_t (xg_aload (va := (2, 27)) rfl rfl) ?_
      refine xg_t (xg_getf (va := (2, 42)) (hb85.get (by decide) (hb79.get (by decide) (hF42.get (by decide) (hF33.get (by decide) h27_11)))) rfl) ?_
      clear ht47 ht48 ht49 ht50 ht51 ht52 hq65 hq66 hq67 hq68 hq69
      obtain ⟨⟨ht86, -, -, ht87, ht88⟩, -⟩ := id (hx43.fr ((hb85.1 42 (by decide)).trans (hb79.1 42 (by decide))))
      refine xg_cVv mX8_advance (vs := []) (rest := []) (cn1 := 0) (sl1 := 0) rfl (tkAdvX42 (xInv.up (S := [39, 40]) hI41 ((xFr.of (S := [39, 40]) hb79 (by decide)).tr (xFr.of (S := [39, 40]) hb85 (by decide))) (List.forall_mem_cons.mpr ⟨xqu39 (show cpI 3 18 4294967295 (wget w83 39) from ⟨_, (hr78.but hb85 (by decide)), xrb (by omega) (hb76)⟩), List.forall_mem_cons.mpr ⟨xqu40 (show cpI 3 19 4294967295 (wget w83 40) from ⟨_, hr84, xrb (by omega) (hb82)⟩), fun _ h => absurd h List.not_mem_nil⟩⟩)) (hB.fr ((hb85.1 2 (by decide)).trans ((hb79.1 2 (by decide)).trans ((hF42.1 2 (by decide)).trans (hF33.1 2 (by decide)))))) ht86 (by rw [ht87]; exact tf_le ht88)) rfl (hb85.get (by decide) (hb79.get (by decide) h42_63)) rfl rfl rfl rfl rfl rfl (fun w89 hq90 => ?_)
      obtain ⟨hI91, hF92, hx93⟩ := hq90
      rw [ht87] at hx93
      clear ht86 ht87 ht88
      obtain ⟨p_94, hp95⟩ : ∃ x, x = tf B nn p_44 := ⟨_, rfl⟩
      rw [← hp95] at hx93
      have ln96 : lnR B nn p0 = lnN B nn 0 2 p_94 := by rw [hp95]; exact ln46.trans (lnN_y (k := 2) hk71)
      obtain ⟨⟨ht97, ht98, ht99, ht100, ht101⟩, ht102⟩ := id hx93
      refine xoC42 (xqc42 hI91 : cp42 (wget w89 42)) (fun f42_103 f42_105 f42_107 f42_109 f42_111 h42_113 hb104 hb106 hb108 hb110 hb112 hb114 => ?_)
      have hq115 : fld w89 42 1 = f42_103 := fld_of h42_113
      have hq116 : fld w89 42 2 = f42_105 := fld_of h42_113
      have hq117 : fld w89 42 3 = f42_107 := fld_of h42_113
      have hq118 : fld w89 42 4 = f42_109 := fld_of h42_113
      have hq119 : fld w89 42 5 = f42_111 := fld_of h42_113
      refine xg_t (xg_iinc (u := 0) (z := 1) (l1 := [(2, (0, f42_16)), (1, (0, 0)), (0, (2, 27))]) rfl rfl (by decide) rfl) ?_
      refine xg_t (xg_goto) ?_
      refine xg_t (xg_blq rfl) ?_
      refine xg_t (xg_iload (va := (0, 1)) rfl rfl) ?_
      refine xg_t (xg_gets) ?_
      refine xg_t (xg_iload (va := (0, 0)) rfl rfl) ?_
      refine xg_t (xg_ald8L (n := 0) (u := 3) xnm0 rfl rfl) ?_
      refine xg_t (xg_icF (u := 1) (v := 3) rfl xnm0 xnm0 (by decide)) ?_
      refine xg_t (xg_iload (va := (0, 1)) rfl rfl) ?_
      refine xg_t (xg_const) ?_
      refine xg_t (xg_icF (u := 1) (v := 3) rfl xnm0 xnm0 (by decide)) ?_
      refine xg_t (xg_aload (va := (2, 27)) rfl rfl) ?_
      refine xg_t (xg_getf (va := (2, 42)) (hF92.get (by decide) (hb85.get (by decide) (hb79.get (by decide) (hF42.get (by decide) (hF33.get (by decide) h27_11))))) rfl) ?_
      refine xg_t (xg_getf (va := (0, f42_105)) h42_113 rfl) ?_
      refine xg_t (xg_const) ?_
      by_cases hc120 : f42_105 = 2
      · refine xg_t (xg_icT (u := f42_105) (v := 2) rfl xnm0 xnm0 (xj_eqT hc120)) ?_
        refine xg_t (xg_blq rfl) ?_
        have hk121 : tkd B nn p_94 = 2 := by omega
        have hv122 : f42_111 = tnu B nn p_94 := hq119.symm.trans (ht102 hk121)
        have hw123 : f42_107 = tq B nn p_94 := by omega
        refine xg_t (xg_aload (va := (2, 27)) rfl rfl) ?_
        refine xg_t (xg_getf (va := (2, 39)) (hF92.get (by decide) (hb85.get (by decide) (hb79.get (by decide) (hF42.get (by decide) (hF33.get (by decide) h27_11))))) rfl) ?_
        refine xg_t (xg_iload (va := (0, 1)) rfl rfl) ?_
        refine xg_t (xg_aload (va := (2, 27)) rfl rfl) ?_
        refine xg_t (xg_getf (va := (2, 42)) (hF92.get (by decide) (hb85.get (by decide) (hb79.get (by decide) (hF42.get (by decide) (hF33.get (by decide) h27_11))))) rfl) ?_
        refine xg_t (xg_getf (va := (0, f42_111)) h42_113 rfl) ?_
        refine xg_iastK (n := 1) (u := f42_111) ((hr78.but hb85 (by decide)).fr hF92 (by decide)) xnm0 xnm0 rfl (by first | decide | omega) (fun w124 hr125 hb126 => ?_)
        refine xg_t (xg_aload (va := (2, 27)) rfl rfl) ?_
        refine xg_t (xg_getf (va := (2, 40)) (hb126.get (by decide) (hF92.get (by decide) (hb85.get (by decide) (hb79.get (by decide) (hF42.get (by decide) (hF33.get (by decide) h27_11)))))) rfl) ?_
        refine xg_t (xg_iload (va := (0, 1)) rfl rfl) ?_
        refine xg_t (xg_aload (va := (2, 27)) rfl rfl) ?_
        refine xg_t (xg_getf (va := (2, 42)) (hb126.get (by decide) (hF92.get (by decide) (hb85.get (by decide) (hb79.get (by decide) (hF42.get (by decide) (hF33.get (by decide) h27_11)))))) rfl) ?_
        refine xg_t (xg_getf (va := (0, f42_107)) (hb126.get (by decide) h42_113) rfl) ?_
        refine xg_iastK (n := 1) (u := f42_107) ((hr84.fr hF92 (by decide)).but hb126 (by decide)) xnm0 xnm0 rfl (by first | decide | omega) (fun w127 hr128 hb129 => ?_)
        refine xg_t (xg_aload (va := (2, 27)) rfl rfl) ?_
        refine xg_t (xg_getf (va := (2, 42)) (hb129.get (by decide) (hb126.get (by decide) (hF92.get (by decide) (hb85.get (by decide) (hb79.get (by decide) (hF42.get (by decide) (hF33.get (by decide) h27_11))))))) rfl) ?_
        clear ht97 ht98 ht99 ht100 ht101 ht102 hq115 hq116 hq117 hq118 hq119
        obtain ⟨⟨ht130, -, -, ht131, ht132⟩, -⟩ := id (hx93.fr ((hb129.1 42 (by decide)).trans (hb126.1 42 (by decide))))
        refine xg_cVv mX8_advance (vs := []) (rest := []) (cn1 := 0) (sl1 := 0) rfl (tkAdvX42 (xInv.up (S := [39, 40]) hI91 ((xFr.of (S := [39, 40]) hb126 (by decide)).tr (xFr.of (S := [39, 40]) hb129 (by decide))) (List.forall_mem_cons.mpr ⟨xqu39 (show cpI 3 18 4294967295 (wget w127 39) from ⟨_, (hr125.but hb129 (by decide)), xrb (by omega) (xrb (by omega) (hb76))⟩), List.forall_mem_cons.mpr ⟨xqu40 (show cpI 3 19 4294967295 (wget w127 40) from ⟨_, hr128, xrb (by omega) (xrb (by omega) (hb82))⟩), fun _ h => absurd h List.not_mem_nil⟩⟩)) (hB.fr ((hb129.1 2 (by decide)).trans ((hb126.1 2 (by decide)).trans ((hF92.1 2 (by decide)).trans ((hb85.1 2 (by decide)).trans ((hb79.1 2 (by decide)).trans ((hF42.1 2 (by decide)).trans (hF33.1 2 (by decide))))))))) ht130 (by rw [ht131]; exact tf_le ht132)) rfl (hb129.get (by decide) (hb126.get (by decide) h42_113)) rfl rfl rfl rfl rfl rfl (fun w133 hq134 => ?_)
        obtain ⟨hI135, hF136, hx137⟩ := hq134
        rw [ht131] at hx137
        clear ht130 ht131 ht132
        obtain ⟨p_138, hp139⟩ : ∃ x, x = tf B nn p_94 := ⟨_, rfl⟩
        rw [← hp139] at hx137
        have ln140 : lnR B nn p0 = lnN B nn 0 1 p_138 := by rw [hp139]; exact ln96.trans (lnN_y (k := 1) hk121)
        obtain ⟨⟨ht141, ht142, ht143, ht144, ht145⟩, ht146⟩ := id hx137
        refine xoC42 (xqc42 hI135 : cp42 (wget w133 42)) (fun f42_147 f42_149 f42_151 f42_153 f42_155 h42_157 hb148 hb150 hb152 hb154 hb156 hb158 => ?_)
        have hq159 : fld w133 42 1 = f42_147 := fld_of h42_157
        have hq160 : fld w133 42 2 = f42_149 := fld_of h42_157
        have hq161 : fld w133 42 3 = f42_151 := fld_of h42_157
        have hq162 : fld w133 42 4 = f42_153 := fld_of h42_157
        have hq163 : fld w133 42 5 = f42_155 := fld_of h42_157
        refine xg_t (xg_iinc (u := 1) (z := 2) (l1 := [(2, (0, f42_16)), (1, (0, 0)), (0, (2, 27))]) rfl rfl (by decide) rfl) ?_
        refine xg_t (xg_goto) ?_
        refine xg_t (xg_blq rfl) ?_
        refine xg_t (xg_iload (va := (0, 2)) rfl rfl) ?_
        refine xg_t (xg_gets) ?_
        refine xg_t (xg_iload (va := (0, 0)) rfl rfl) ?_
        refine xg_t (xg_ald8L (n := 0) (u := 3) xnm0 rfl rfl) ?_
        refine xg_t (xg_icF (u := 2) (v := 3) rfl xnm0 xnm0 (by decide)) ?_
        refine xg_t (xg_iload (va := (0, 2)) rfl rfl) ?_
        refine xg_t (xg_const) ?_
        refine xg_t (xg_icF (u := 2) (v := 3) rfl xnm0 xnm0 (by decide)) ?_
        refine xg_t (xg_aload (va := (2, 27)) rfl rfl) ?_
        refine xg_t (xg_getf (va := (2, 42)) (hF136.get (by decide) (hb129.get (by decide) (hb126.get (by decide) (hF92.get (by decide) (hb85.get (by decide) (hb79.get (by decide) (hF42.get (by decide) (hF33.get (by decide) h27_11)))))))) rfl) ?_
        refine xg_t (xg_getf (va := (0, f42_149)) h42_157 rfl) ?_
        refine xg_t (xg_const) ?_
        by_cases hc164 : f42_149 = 2
        · refine xg_t (xg_icT (u := f42_149) (v := 2) rfl xnm0 xnm0 (xj_eqT hc164)) ?_
          refine xg_t (xg_blq rfl) ?_
          have hk165 : tkd B nn p_138 = 2 := by omega
          have hv166 : f42_155 = tnu B nn p_138 := hq163.symm.trans (ht146 hk165)
          have hw167 : f42_151 = tq B nn p_138 := by omega
          refine xg_t (xg_aload (va := (2, 27)) rfl rfl) ?_
          refine xg_t (xg_getf (va := (2, 39)) (hF136.get (by decide) (hb129.get (by decide) (hb126.get (by decide) (hF92.get (by decide) (hb85.get (by decide) (hb79.get (by decide) (hF42.get (by decide) (hF33.get (by decide) h27_11)))))))) rfl) ?_
          refine xg_t (xg_iload (va := (0, 2)) rfl rfl) ?_
          refine xg_t (xg_aload (va := (2, 27)) rfl rfl) ?_
          refine xg_t (xg_getf (va := (2, 42)) (hF136.get (by decide) (hb129.get (by decide) (hb126.get (by decide) (hF92.get (by decide) (hb85.get (by decide) (hb79.get (by decide) (hF42.get (by decide) (hF33.get (by decide) h27_11)))))))) rfl) ?_
          refine xg_t (xg_getf (va := (0, f42_155)) h42_157 rfl) ?_
          refine xg_iastK (n := 2) (u := f42_155) ((hr125.but hb129 (by decide)).fr hF136 (by decide)) xnm0 xnm0 rfl (by first | decide | omega) (fun w168 hr169 hb170 => ?_)
          refine xg_t (xg_aload (va := (2, 27)) rfl rfl) ?_
          refine xg_t (xg_getf (va := (2, 40)) (hb170.get (by decide) (hF136.get (by decide) (hb129.get (by decide) (hb126.get (by decide) (hF92.get (by decide) (hb85.get (by decide) (hb79.get (by decide) (hF42.get (by decide) (hF33.get (by decide) h27_11))))))))) rfl) ?_
          refine xg_t (xg_iload (va := (0, 2)) rfl rfl) ?_
          refine xg_t (xg_aload (va := (2, 27)) rfl rfl) ?_
          refine xg_t (xg_getf (va := (2, 42)) (hb170.get (by decide) (hF136.get (by decide) (hb129.get (by decide) (hb126.get (by decide) (hF92.get (by decide) (hb85.get (by decide) (hb79.get (by decide) (hF42.get (by decide) (hF33.get (by decide) h27_11))))))))) rfl) ?_
          refine xg_t (xg_getf (va := (0, f42_151)) (hb170.get (by decide) h42_157) rfl) ?_
          refine xg_iastK (n := 2) (u := f42_151) ((hr128.fr hF136 (by decide)).but hb170 (by decide)) xnm0 xnm0 rfl (by first | decide | omega) (fun w171 hr172 hb173 => ?_)
          refine xg_t (xg_aload (va := (2, 27)) rfl rfl) ?_
          refine xg_t (xg_getf (va := (2, 42)) (hb173.get (by decide) (hb170.get (by decide) (hF136.get (by decide) (hb129.get (by decide) (hb126.get (by decide) (hF92.get (by decide) (hb85.get (by decide) (hb79.get (by decide) (hF42.get (by decide) (hF33.get (by decide) h27_11)))))))))) rfl) ?_
          clear ht141 ht142 ht143 ht144 ht145 ht146 hq159 hq160 hq161 hq162 hq163
          obtain ⟨⟨ht174, -, -, ht175, ht176⟩, -⟩ := id (hx137.fr ((hb173.1 42 (by decide)).trans (hb170.1 42 (by decide))))
          refine xg_cVv mX8_advance (vs := []) (rest := []) (cn1 := 0) (sl1 := 0) rfl (tkAdvX42 (xInv.up (S := [39, 40]) hI135 ((xFr.of (S := [39, 40]) hb170 (by decide)).tr (xFr.of (S := [39, 40]) hb173 (by decide))) (List.forall_mem_cons.mpr ⟨xqu39 (show cpI 3 18 4294967295 (wget w171 39) from ⟨_, (hr169.but hb173 (by decide)), xrb (by omega) (xrb (by omega) (xrb (by omega) (hb76)))⟩), List.forall_mem_cons.mpr ⟨xqu40 (show cpI 3 19 4294967295 (wget w171 40) from ⟨_, hr172, xrb (by omega) (xrb (by omega) (xrb (by omega) (hb82)))⟩), fun _ h => absurd h List.not_mem_nil⟩⟩)) (hB.fr ((hb173.1 2 (by decide)).trans ((hb170.1 2 (by decide)).trans ((hF136.1 2 (by decide)).trans ((hb129.1 2 (by decide)).trans ((hb126.1 2 (by decide)).trans ((hF92.1 2 (by decide)).trans ((hb85.1 2 (by decide)).trans ((hb79.1 2 (by decide)).trans ((hF42.1 2 (by decide)).trans (hF33.1 2 (by decide)))))))))))) ht174 (by rw [ht175]; exact tf_le ht176)) rfl (hb173.get (by decide) (hb170.get (by decide) h42_157)) rfl rfl rfl rfl rfl rfl (fun w177 hq178 => ?_)
          obtain ⟨hI179, hF180, hx181⟩ := hq178
          rw [ht175] at hx181
          clear ht174 ht175 ht176
          obtain ⟨p_182, hp183⟩ : ∃ x, x = tf B nn p_138 := ⟨_, rfl⟩
          rw [← hp183] at hx181
          have ln184 : lnR B nn p0 = lnN B nn 0 0 p_182 := by rw [hp183]; exact ln140.trans (lnN_y (k := 0) hk165)
          obtain ⟨⟨ht185, ht186, ht187, ht188, ht189⟩, ht190⟩ := id hx181
          refine xoC42 (xqc42 hI179 : cp42 (wget w177 42)) (fun f42_191 f42_193 f42_195 f42_197 f42_199 h42_201 hb192 hb194 hb196 hb198 hb200 hb202 => ?_)
          have hq203 : fld w177 42 1 = f42_191 := fld_of h42_201
          have hq204 : fld w177 42 2 = f42_193 := fld_of h42_201
          have hq205 : fld w177 42 3 = f42_195 := fld_of h42_201
          have hq206 : fld w177 42 4 = f42_197 := fld_of h42_201
          have hq207 : fld w177 42 5 = f42_199 := fld_of h42_201
          refine xg_t (xg_iinc (u := 2) (z := 3) (l1 := [(2, (0, f42_16)), (1, (0, 0)), (0, (2, 27))]) rfl rfl (by decide) rfl) ?_
          refine xg_t (xg_goto) ?_
          refine xg_t (xg_blq rfl) ?_
          refine xg_t (xg_iload (va := (0, 3)) rfl rfl) ?_
          refine xg_t (xg_gets) ?_
          refine xg_t (xg_iload (va := (0, 0)) rfl rfl) ?_
          refine xg_t (xg_ald8L (n := 0) (u := 3) xnm0 rfl rfl) ?_
          refine xg_t (xg_icT (u := 3) (v := 3) rfl xnm0 xnm0 (by decide)) ?_
          refine xg_t (xg_blq rfl) ?_
          refine xg_t (xg_iload (va := (0, 0)) rfl rfl) ?_
          refine xg_t (xg_ifF (u := 0) rfl xnm0 (by decide)) ?_
          refine xg_t (xg_aload (va := (2, 27)) rfl rfl) ?_
          clear ht185 ht186 ht187 ht188 ht189 ht190 hq203 hq204 hq205 hq206 hq207
          refine xg_cVi mX2_readGlue (vs := []) (rest := []) (cn1 := 0) (sl1 := 0) rfl (ftGlueX (hI179) (hB.fr ((hF180.1 2 (by decide)).trans ((hb173.1 2 (by decide)).trans ((hb170.1 2 (by decide)).trans ((hF136.1 2 (by decide)).trans ((hb129.1 2 (by decide)).trans ((hb126.1 2 (by decide)).trans ((hF92.1 2 (by decide)).trans ((hb85.1 2 (by decide)).trans ((hb79.1 2 (by decide)).trans ((hF42.1 2 (by decide)).trans (hF33.1 2 (by decide))))))))))))) hx181) rfl (hF180.get (by decide) (hb173.get (by decide) (hb170.get (by decide) (hF136.get (by decide) (hb129.get (by decide) (hb126.get (by decide) (hF92.get (by decide) (hb85.get (by decide) (hb79.get (by decide) (hF42.get (by decide) (hF33.get (by decide) h27_11))))))))))) rfl rfl rfl rfl rfl rfl (fun n212 w208 hq209 => ?_)
          obtain ⟨hn213, hI210, hF211⟩ := hq209
          rcases hn213 with ⟨rfl, hg214, hT_215, h6216, k7217, k8218, k9219, k10220⟩ | ⟨rfl, hg214, hT_215, -, -, -, -⟩
          · obtain ⟨p_221, hp222⟩ : ∃ x, x = tf B nn p_182 := ⟨_, rfl⟩
            rw [← hp222] at hT_215
            have ln223 : lnR B nn p0 = lnS B nn p_221 := by rw [hp222]; exact ln184.trans (lnN_g hg214)
            have c224 : fld w208 27 7 = fld w 27 7 := k7217.trans (fld_eq ((hF180.1 27 (by decide)).trans ((hb173.1 27 (by decide)).trans ((hb170.1 27 (by decide)).trans ((hF136.1 27 (by decide)).trans ((hb129.1 27 (by decide)).trans ((hb126.1 27 (by decide)).trans ((hF92.1 27 (by decide)).trans ((hb85.1 27 (by decide)).trans ((hb79.1 27 (by decide)).trans ((hF42.1 27 (by decide)).trans (hF33.1 27 (by decide)))))))))))))
            have c225 : fld w208 27 8 = fld w 27 8 := k8218.trans (fld_eq ((hF180.1 27 (by decide)).trans ((hb173.1 27 (by decide)).trans ((hb170.1 27 (by decide)).trans ((hF136.1 27 (by decide)).trans ((hb129.1 27 (by decide)).trans ((hb126.1 27 (by decide)).trans ((hF92.1 27 (by decide)).trans ((hb85.1 27 (by decide)).trans ((hb79.1 27 (by decide)).trans ((hF42.1 27 (by decide)).trans (hF33.1 27 (by decide)))))))))))))
            have c226 : fld w208 27 9 = fld w 27 9 := k9219.trans (fld_eq ((hF180.1 27 (by decide)).trans ((hb173.1 27 (by decide)).trans ((hb170.1 27 (by decide)).trans ((hF136.1 27 (by decide)).trans ((hb129.1 27 (by decide)).trans ((hb126.1 27 (by decide)).trans ((hF92.1 27 (by decide)).trans ((hb85.1 27 (by decide)).trans ((hb79.1 27 (by decide)).trans ((hF42.1 27 (by decide)).trans (hF33.1 27 (by decide)))))))))))))
            have c227 : fld w208 27 10 = fld w 27 10 := k10220.trans (fld_eq ((hF180.1 27 (by decide)).trans ((hb173.1 27 (by decide)).trans ((hb170.1 27 (by decide)).trans ((hF136.1 27 (by decide)).trans ((hb129.1 27 (by decide)).trans ((hb126.1 27 (by decide)).trans ((hF92.1 27 (by decide)).trans ((hb85.1 27 (by decide)).trans ((hb79.1 27 (by decide)).trans ((hF42.1 27 (by decide)).trans (hF33.1 27 (by decide)))))))))))))
            refine xg_t (xg_ifT (u := 1) rfl xnm0 (by decide)) ?_
            refine xg_t (xg_blq rfl) ?_
            refine xg_t (xg_aload (va := (2, 27)) rfl rfl) ?_
            refine xoC27 (xqc27 hI210 : cp27 (wget w208 27)) (fun f27_228 f27_230 f27_232 f27_234 f27_236 h27_238 hb229 hb231 hb233 hb235 hb237 => ?_)
            refine xg_t (xg_getf (va := (2, 42)) h27_238 rfl) ?_
            refine xg_t (xg_bip) ?_
            refine xoC42 (xqc42 hI210 : cp42 (wget w208 42)) (fun f42_239 f42_241 f42_243 f42_245 f42_247 h42_249 hb240 hb242 hb244 hb246 hb248 hb250 => ?_)
            refine xg_cVi mX8_isSign (vs := [(0, 59)]) (rest := []) (cn1 := 0) (sl1 := 0) rfl (tkSigX42 (hI210) (by omega) (hB.fr ((hF211.1 2 (by decide)).trans ((hF180.1 2 (by decide)).trans ((hb173.1 2 (by decide)).trans ((hb170.1 2 (by decide)).trans ((hF136.1 2 (by decide)).trans ((hb129.1 2 (by decide)).trans ((hb126.1 2 (by decide)).trans ((hF92.1 2 (by decide)).trans ((hb85.1 2 (by decide)).trans ((hb79.1 2 (by decide)).trans ((hF42.1 2 (by decide)).trans (hF33.1 2 (by decide)))))))))))))) hT_215) rfl h42_249 rfl rfl rfl rfl rfl rfl (fun n255 w251 hq252 => ?_)
            obtain ⟨hn256, hI253, hF254⟩ := hq252
            rcases hn256 with ⟨rfl, hsg257⟩ | ⟨rfl, hsg257⟩
            · refine xg_t (xg_ifT (u := 1) rfl xnm0 (by decide)) ?_
              refine xg_t (xg_blq rfl) ?_
              refine xg_t (xg_aload (va := (2, 27)) rfl rfl) ?_
              refine xg_t (xg_getf (va := (2, 42)) (hF254.get (by decide) h27_238) rfl) ?_
              obtain ⟨⟨ht258, -, -, ht259, ht260⟩, -⟩ := id (hT_215.fr (hF254.1 42 (by decide)))
              refine xg_cVv mX8_advance (vs := []) (rest := []) (cn1 := 0) (sl1 := 0) rfl (tkAdvX42 (hI253) (hB.fr ((hF254.1 2 (by decide)).trans ((hF211.1 2 (by decide)).trans ((hF180.1 2 (by decide)).trans ((hb173.1 2 (by decide)).trans ((hb170.1 2 (by decide)).trans ((hF136.1 2 (by decide)).trans ((hb129.1 2 (by decide)).trans ((hb126.1 2 (by decide)).trans ((hF92.1 2 (by decide)).trans ((hb85.1 2 (by decide)).trans ((hb79.1 2 (by decide)).trans ((hF42.1 2 (by decide)).trans (hF33.1 2 (by decide))))))))))))))) ht258 (by rw [ht259]; exact tf_le ht260)) rfl (hF254.get (by decide) h42_249) rfl rfl rfl rfl rfl rfl (fun w261 hq262 => ?_)
              obtain ⟨hI263, hF264, hx265⟩ := hq262
              rw [ht259] at hx265
              clear ht258 ht259 ht260
              obtain ⟨p_266, hp267⟩ : ∃ x, x = tf B nn p_221 := ⟨_, rfl⟩
              rw [← hp267] at hx265
              have ln268 : lnR B nn p0 = (true, p_266) := by rw [hp267]; exact ln223.trans (lnS_y hsg257)
              have d269 : fld w261 27 7 = fld w 27 7 := ((fld_eq (j := 7) ((hF264.1 27 (by decide)).trans (hF254.1 27 (by decide)))).trans c224)
              have d270 : fld w261 27 8 = fld w 27 8 := ((fld_eq (j := 8) ((hF264.1 27 (by decide)).trans (hF254.1 27 (by decide)))).trans c225)
              have d271 : fld w261 27 9 = fld w 27 9 := ((fld_eq (j := 9) ((hF264.1 27 (by decide)).trans (hF254.1 27 (by decide)))).trans c226)
              have d272 : fld w261 27 10 = fld w 27 10 := ((fld_eq (j := 10) ((hF264.1 27 (by decide)).trans (hF254.1 27 (by decide)))).trans c227)
              have hS1 := hS.1
              have hq273 : fld w261 27 9 = f27_234 := fld_of (hF264.get (by decide) (hF254.get (by decide) h27_238))
              have n274 : rwv w261 39 0 = f42_61 := (rwv_of (((((hr169.but hb173 (by decide)).fr hF180 (by decide)).fr hF211 (by decide)).fr hF254 (by decide)).fr hF264 (by decide)) (by decide)).trans ((if_neg (by decide)).trans ((if_neg (by decide)).trans (if_pos rfl)))
              have n275 : rwv w261 39 1 = f42_111 := (rwv_of (((((hr169.but hb173 (by decide)).fr hF180 (by decide)).fr hF211 (by decide)).fr hF254 (by decide)).fr hF264 (by decide)) (by decide)).trans ((if_neg (by decide)).trans (if_pos rfl))
              have n276 : rwv w261 39 2 = f42_155 := (rwv_of (((((hr169.but hb173 (by decide)).fr hF180 (by decide)).fr hF211 (by decide)).fr hF254 (by decide)).fr hF264 (by decide)) (by decide)).trans (if_pos rfl)
              have n277 : rwv w261 40 0 = f42_57 := (rwv_of ((((hr172.fr hF180 (by decide)).fr hF211 (by decide)).fr hF254 (by decide)).fr hF264 (by decide)) (by decide)).trans ((if_neg (by decide)).trans ((if_neg (by decide)).trans (if_pos rfl)))
              have n278 : rwv w261 40 1 = f42_107 := (rwv_of ((((hr172.fr hF180 (by decide)).fr hF211 (by decide)).fr hF254 (by decide)).fr hF264 (by decide)) (by decide)).trans ((if_neg (by decide)).trans (if_pos rfl))
              have n279 : rwv w261 40 2 = f42_151 := (rwv_of ((((hr172.fr hF180 (by decide)).fr hF211 (by decide)).fr hF254 (by decide)).fr hF264 (by decide)) (by decide)).trans (if_pos rfl)
              have vp280 : vlp B nn p0 0 = p_44 := hp45.symm
              have vp281 : vlp B nn p0 1 = p_94 := by show tf B nn (vlp B nn p0 0) = p_94; rw [vp280, hp95]
              have vp282 : vlp B nn p0 2 = p_138 := by show tf B nn (vlp B nn p0 1) = p_138; rw [vp281, hp139]
              have vp283 : vlp B nn p0 3 = p_182 := by show tf B nn (vlp B nn p0 2) = p_182; rw [vp282, hp183]
              have vl284 : vln B nn (lnP B nn k) 0 = f42_61 := by
                rw [← hp0]
                show (if (0 : Nat) = 3 then _ else tnu B nn (vlp B nn p0 0)) = _
                rw [if_neg (by decide), vp280]
                exact hv72.symm
              have vl285 : vln B nn (lnP B nn k) 1 = f42_111 := by
                rw [← hp0]
                show (if (1 : Nat) = 3 then _ else tnu B nn (vlp B nn p0 1)) = _
                rw [if_neg (by decide), vp281]
                exact hv122.symm
              have vl286 : vln B nn (lnP B nn k) 2 = f42_155 := by
                rw [← hp0]
                show (if (2 : Nat) = 3 then _ else tnu B nn (vlp B nn p0 2)) = _
                rw [if_neg (by decide), vp282]
                exact hv166.symm
              have vl287 : fld w261 27 6 = vln B nn (lnP B nn k) 3 := by
                rw [← hp0, fld_eq (j := 6) ((hF264.1 27 (by decide)).trans (hF254.1 27 (by decide)))]
                show _ = (if (3 : Nat) = 3 then (if twk B nn (vlp B nn p0 3) = 20325509 then 1 else 0) else _)
                rw [if_pos rfl, vp283]
                exact h6216
              refine xg_t (xg_aload (va := (2, 27)) rfl rfl) ?_
              refine xg_t (xg_getf (va := (0, f27_234)) (hF264.get (by decide) (hF254.get (by decide) h27_238)) rfl) ?_
              by_cases hc288 : f27_234 = 0
              · refine xg_t (xg_ifF (u := f27_234) rfl xnm0 (xj_neF hc288)) ?_
                refine xg_t (xg_aload (va := (2, 27)) rfl rfl) ?_
                refine xg_t (xg_iload (va := (0, 0)) rfl rfl) ?_
                refine xg_t (xg_iload (va := (0, f42_16)) rfl rfl) ?_
                refine xg_cVi mX2_isFine (vs := [(0, 0), (0, f42_16)]) (rest := []) (cn1 := 0) (sl1 := 0) rfl (ftFineX0 (hI263) (by omega)) rfl (hF264.get (by decide) (hF254.get (by decide) h27_238)) rfl rfl rfl rfl rfl rfl (fun n293 w289 hq290 => ?_)
                obtain ⟨hn294, hI291, hF292⟩ := hq290
                have h0_ : (flA B nn k).1 = 0 := by omega
                rcases hn294 with ⟨rfl, hm295, hi296, hi297, hi298, hw301⟩ | ⟨rfl, hm295, e9299, e10300⟩ | ⟨rfl, hm295, hi296, e9299, e10300⟩ | ⟨rfl, hm295, hi296, hi297, e9299, e10300⟩ | ⟨rfl, hm295, hi296, hi297, hi298, e9299, e10300⟩
                · obtain ⟨mf1, mf2⟩ := manyF0 hS h0_ hsk ((((((((((((((hF33.up (T := [27, 39, 40, 42]) (by decide)).tr (hF42.up (T := [27, 39, 40, 42]) (by decide))).tr (xFr.of (S := [27, 39, 40, 42]) hb79 (by decide))).tr (xFr.of (S := [27, 39, 40, 42]) hb85 (by decide))).tr (hF92.up (T := [27, 39, 40, 42]) (by decide))).tr (xFr.of (S := [27, 39, 40, 42]) hb126 (by decide))).tr (xFr.of (S := [27, 39, 40, 42]) hb129 (by decide))).tr (hF136.up (T := [27, 39, 40, 42]) (by decide))).tr (xFr.of (S := [27, 39, 40, 42]) hb170 (by decide))).tr (xFr.of (S := [27, 39, 40, 42]) hb173 (by decide))).tr (hF180.up (T := [27, 39, 40, 42]) (by decide))).tr (hF211.up (T := [27, 39, 40, 42]) (by decide))).tr (hF254.up (T := [27, 39, 40, 42]) (by decide))).tr (hF264.up (T := [27, 39, 40, 42]) (by decide))) d269 d270 hm295
                  refine xg_t (xg_ifF (u := 1) rfl xnm0 (by decide)) ?_
                  refine xg_t (xg_aload (va := (2, 27)) rfl rfl) ?_
                  refine xg_t (xg_iload (va := (0, 0)) rfl rfl) ?_
                  refine xg_t (xg_iload (va := (0, f42_16)) rfl rfl) ?_
                  refine xoC27 (xqc27 hI291 : cp27 (wget w289 27)) (fun f27_302 f27_304 f27_306 f27_308 f27_310 h27_312 hb303 hb305 hb307 hb309 hb311 => ?_)
                  refine xg_cVv mX2_take (vs := [(0, 0), (0, f42_16)]) (rest := []) (cn1 := 0) (sl1 := 0) rfl (ftTakeX0 (hI291) (by omega) (by rw [fld_eq (j := 3) (hw301.1 29 List.not_mem_nil)]; exact Nat.lt_of_not_le hm295)) rfl h27_312 rfl rfl rfl rfl rfl rfl (fun w313 hq314 => ?_)
                  obtain ⟨hI315, hF316, hx317⟩ := hq314
                  refine xg_t (xg_blq rfl) ?_
                  refine xg_t (xg_const) ?_
                  have l9318 : fld w313 28 9 = fld w 28 9 := fld_eq (j := 9) ((hF316.1 28 (by decide)).trans ((hF292.1 28 (by decide)).trans ((hF264.1 28 (by decide)).trans ((hF254.1 28 (by decide)).trans ((hF211.1 28 (by decide)).trans ((hF180.1 28 (by decide)).trans ((hb173.1 28 (by decide)).trans ((hb170.1 28 (by decide)).trans ((hF136.1 28 (by decide)).trans ((hb129.1 28 (by decide)).trans ((hb126.1 28 (by decide)).trans ((hF92.1 28 (by decide)).trans ((hb85.1 28 (by decide)).trans ((hb79.1 28 (by decide)).trans ((hF42.1 28 (by decide)).trans (hF33.1 28 (by decide)))))))))))))))))
                  have he319 : lnP B nn (k + 1) = p_266 := by
                    show (lnR B nn (lnP B nn k)).2 = _
                    rw [← hp0, ln268]
                  have hfl := flt_ok hsk mf1 mf2 (show lst0 0 ≤ vln B nn (lnP B nn k) 0 ∧ vln B nn (lnP B nn k) 0 ≤ grt0 0 from (show 1 ≤ vln B nn (lnP B nn k) 0 ∧ vln B nn (lnP B nn k) 0 ≤ 99 by omega)) (show lst1 0 ≤ vln B nn (lnP B nn k) 1 ∧ vln B nn (lnP B nn k) 1 ≤ grt1 0 from (show 1 ≤ vln B nn (lnP B nn k) 1 ∧ vln B nn (lnP B nn k) 1 ≤ 99 by omega)) (fun _ => show 1 ≤ vln B nn (lnP B nn k) 2 ∧ vln B nn (lnP B nn k) 2 ≤ grt2 0 from (show 1 ≤ vln B nn (lnP B nn k) 2 ∧ vln B nn (lnP B nn k) 2 ≤ 99 by omega))
                  have e1_ : ∀ c j, fld w289 c j = fld w261 c j := fun c j => fld_eq (hw301.1 c List.not_mem_nil)
                  have e2_ : ∀ c, rwv w289 c = rwv w261 c := fun c => rwf_eq (hw301.1 c List.not_mem_nil)
                  simp only [e1_, e2_] at hx317
                  have hF321 := (hw301.up (fun _ h => absurd h List.not_mem_nil)).tr hF316
                  have nv322 : ∀ t, t < 3 → rwv w261 39 t = vln B nn (lnP B nn k) t := fun t ht => by
                    rcases (show t = 0 ∨ t = 1 ∨ t = 2 by omega) with rfl | rfl | rfl
                    · exact n274.trans vl284.symm
                    · exact n275.trans vl285.symm
                    · exact n276.trans vl286.symm
                  obtain ⟨t1323, t2324, t3325, t4326⟩ := hx317
                  have hC320 := CSTok0 hS h0_ hsk ((((((((((((((hF33.up (T := [27, 39, 40, 42]) (by decide)).tr (hF42.up (T := [27, 39, 40, 42]) (by decide))).tr (xFr.of (S := [27, 39, 40, 42]) hb79 (by decide))).tr (xFr.of (S := [27, 39, 40, 42]) hb85 (by decide))).tr (hF92.up (T := [27, 39, 40, 42]) (by decide))).tr (xFr.of (S := [27, 39, 40, 42]) hb126 (by decide))).tr (xFr.of (S := [27, 39, 40, 42]) hb129 (by decide))).tr (hF136.up (T := [27, 39, 40, 42]) (by decide))).tr (xFr.of (S := [27, 39, 40, 42]) hb170 (by decide))).tr (xFr.of (S := [27, 39, 40, 42]) hb173 (by decide))).tr (hF180.up (T := [27, 39, 40, 42]) (by decide))).tr (hF211.up (T := [27, 39, 40, 42]) (by decide))).tr (hF254.up (T := [27, 39, 40, 42]) (by decide))).tr (hF264.up (T := [27, 39, 40, 42]) (by decide))) d269 d270 d271 hfl hF321 t1323 t2324 (fun t ht => (t3325 t ht).trans (nv322 t ht)) (t4326.trans vl287)
                  exact xg_e ⟨1, w313, ⟨rfl, rfl⟩, ⟨Or.inl ⟨rfl, by rw [ln268], by rw [he319]; exact (hx265.fr ((hF316.1 42 (by decide)).trans (hF292.1 42 (by decide)))), hC320⟩, l9318⟩, hI315, (((((((((((((hF33.up (by decide)).tr (hF42.up (by decide))).tr ((xFr.of (S := [27, 28, 29, 30, 31, 32, 33, 34, 35, 36, 37, 38, 39, 40, 41, 42]) hb79 (by decide)).tr (xFr.of (S := [27, 28, 29, 30, 31, 32, 33, 34, 35, 36, 37, 38, 39, 40, 41, 42]) hb85 (by decide)))).tr (hF92.up (by decide))).tr ((xFr.of (S := [27, 28, 29, 30, 31, 32, 33, 34, 35, 36, 37, 38, 39, 40, 41, 42]) hb126 (by decide)).tr (xFr.of (S := [27, 28, 29, 30, 31, 32, 33, 34, 35, 36, 37, 38, 39, 40, 41, 42]) hb129 (by decide)))).tr (hF136.up (by decide))).tr ((xFr.of (S := [27, 28, 29, 30, 31, 32, 33, 34, 35, 36, 37, 38, 39, 40, 41, 42]) hb170 (by decide)).tr (xFr.of (S := [27, 28, 29, 30, 31, 32, 33, 34, 35, 36, 37, 38, 39, 40, 41, 42]) hb173 (by decide)))).tr (hF180.up (by decide))).tr (hF211.up (by decide))).tr (hF254.up (by decide))).tr (hF264.up (by decide))).tr (hF292.up (by decide))).tr (hF316.up (by decide)))⟩
                · have hfl := manyT0 hS h0_ hsk ((((((((((((((hF33.up (T := [27, 39, 40, 42]) (by decide)).tr (hF42.up (T := [27, 39, 40, 42]) (by decide))).tr (xFr.of (S := [27, 39, 40, 42]) hb79 (by decide))).tr (xFr.of (S := [27, 39, 40, 42]) hb85 (by decide))).tr (hF92.up (T := [27, 39, 40, 42]) (by decide))).tr (xFr.of (S := [27, 39, 40, 42]) hb126 (by decide))).tr (xFr.of (S := [27, 39, 40, 42]) hb129 (by decide))).tr (hF136.up (T := [27, 39, 40, 42]) (by decide))).tr (xFr.of (S := [27, 39, 40, 42]) hb170 (by decide))).tr (xFr.of (S := [27, 39, 40, 42]) hb173 (by decide))).tr (hF180.up (T := [27, 39, 40, 42]) (by decide))).tr (hF211.up (T := [27, 39, 40, 42]) (by decide))).tr (hF254.up (T := [27, 39, 40, 42]) (by decide))).tr (hF264.up (T := [27, 39, 40, 42]) (by decide))) d269 d270 hm295
                  refine xg_t (xg_ifT (u := 0) rfl xnm0 (by decide)) ?_
                  refine xg_t (xg_blq rfl) ?_
                  refine xg_t (xg_const) ?_
                  have l9327 : fld w289 28 9 = fld w 28 9 := fld_eq (j := 9) ((hF292.1 28 (by decide)).trans ((hF264.1 28 (by decide)).trans ((hF254.1 28 (by decide)).trans ((hF211.1 28 (by decide)).trans ((hF180.1 28 (by decide)).trans ((hb173.1 28 (by decide)).trans ((hb170.1 28 (by decide)).trans ((hF136.1 28 (by decide)).trans ((hb129.1 28 (by decide)).trans ((hb126.1 28 (by decide)).trans ((hF92.1 28 (by decide)).trans ((hb85.1 28 (by decide)).trans ((hb79.1 28 (by decide)).trans ((hF42.1 28 (by decide)).trans (hF33.1 28 (by decide))))))))))))))))
                  have he328 : lnP B nn (k + 1) = p_266 := by
                    show (lnR B nn (lnP B nn k)).2 = _
                    rw [← hp0, ln268]
                  have hC329 := CST.bad h0_ hfl (by decide) e9299 (e10300.trans (by rw [← hp0]; omega))
                  exact xg_e ⟨1, w289, ⟨rfl, rfl⟩, ⟨Or.inl ⟨rfl, by rw [ln268], by rw [he328]; exact (hx265.fr (hF292.1 42 (by decide))), hC329⟩, l9327⟩, hI291, ((((((((((((hF33.up (by decide)).tr (hF42.up (by decide))).tr ((xFr.of (S := [27, 28, 29, 30, 31, 32, 33, 34, 35, 36, 37, 38, 39, 40, 41, 42]) hb79 (by decide)).tr (xFr.of (S := [27, 28, 29, 30, 31, 32, 33, 34, 35, 36, 37, 38, 39, 40, 41, 42]) hb85 (by decide)))).tr (hF92.up (by decide))).tr ((xFr.of (S := [27, 28, 29, 30, 31, 32, 33, 34, 35, 36, 37, 38, 39, 40, 41, 42]) hb126 (by decide)).tr (xFr.of (S := [27, 28, 29, 30, 31, 32, 33, 34, 35, 36, 37, 38, 39, 40, 41, 42]) hb129 (by decide)))).tr (hF136.up (by decide))).tr ((xFr.of (S := [27, 28, 29, 30, 31, 32, 33, 34, 35, 36, 37, 38, 39, 40, 41, 42]) hb170 (by decide)).tr (xFr.of (S := [27, 28, 29, 30, 31, 32, 33, 34, 35, 36, 37, 38, 39, 40, 41, 42]) hb173 (by decide)))).tr (hF180.up (by decide))).tr (hF211.up (by decide))).tr (hF254.up (by decide))).tr (hF264.up (by decide))).tr (hF292.up (by decide)))⟩
                · obtain ⟨mf1, mf2⟩ := manyF0 hS h0_ hsk ((((((((((((((hF33.up (T := [27, 39, 40, 42]) (by decide)).tr (hF42.up (T := [27, 39, 40, 42]) (by decide))).tr (xFr.of (S := [27, 39, 40, 42]) hb79 (by decide))).tr (xFr.of (S := [27, 39, 40, 42]) hb85 (by decide))).tr (hF92.up (T := [27, 39, 40, 42]) (by decide))).tr (xFr.of (S := [27, 39, 40, 42]) hb126 (by decide))).tr (xFr.of (S := [27, 39, 40, 42]) hb129 (by decide))).tr (hF136.up (T := [27, 39, 40, 42]) (by decide))).tr (xFr.of (S := [27, 39, 40, 42]) hb170 (by decide))).tr (xFr.of (S := [27, 39, 40, 42]) hb173 (by decide))).tr (hF180.up (T := [27, 39, 40, 42]) (by decide))).tr (hF211.up (T := [27, 39, 40, 42]) (by decide))).tr (hF254.up (T := [27, 39, 40, 42]) (by decide))).tr (hF264.up (T := [27, 39, 40, 42]) (by decide))) d269 d270 hm295
                  have hfl := flt_0 hsk mf1 mf2 (show ¬ _ from fun z => hi296 (by have z : 1 ≤ _ ∧ _ ≤ 99 := z; omega))
                  refine xg_t (xg_ifT (u := 0) rfl xnm0 (by decide)) ?_
                  refine xg_t (xg_blq rfl) ?_
                  refine xg_t (xg_const) ?_
                  have l9330 : fld w289 28 9 = fld w 28 9 := fld_eq (j := 9) ((hF292.1 28 (by decide)).trans ((hF264.1 28 (by decide)).trans ((hF254.1 28 (by decide)).trans ((hF211.1 28 (by decide)).trans ((hF180.1 28 (by decide)).trans ((hb173.1 28 (by decide)).trans ((hb170.1 28 (by decide)).trans ((hF136.1 28 (by decide)).trans ((hb129.1 28 (by decide)).trans ((hb126.1 28 (by decide)).trans ((hF92.1 28 (by decide)).trans ((hb85.1 28 (by decide)).trans ((hb79.1 28 (by decide)).trans ((hF42.1 28 (by decide)).trans (hF33.1 28 (by decide))))))))))))))))
                  have he331 : lnP B nn (k + 1) = p_266 := by
                    show (lnR B nn (lnP B nn k)).2 = _
                    rw [← hp0, ln268]
                  have hC332 := CST.bad h0_ hfl (by decide) e9299 (e10300.trans (n277.trans (by rw [← hp0, vp280]; exact hw73)))
                  exact xg_e ⟨1, w289, ⟨rfl, rfl⟩, ⟨Or.inl ⟨rfl, by rw [ln268], by rw [he331]; exact (hx265.fr (hF292.1 42 (by decide))), hC332⟩, l9330⟩, hI291, ((((((((((((hF33.up (by decide)).tr (hF42.up (by decide))).tr ((xFr.of (S := [27, 28, 29, 30, 31, 32, 33, 34, 35, 36, 37, 38, 39, 40, 41, 42]) hb79 (by decide)).tr (xFr.of (S := [27, 28, 29, 30, 31, 32, 33, 34, 35, 36, 37, 38, 39, 40, 41, 42]) hb85 (by decide)))).tr (hF92.up (by decide))).tr ((xFr.of (S := [27, 28, 29, 30, 31, 32, 33, 34, 35, 36, 37, 38, 39, 40, 41, 42]) hb126 (by decide)).tr (xFr.of (S := [27, 28, 29, 30, 31, 32, 33, 34, 35, 36, 37, 38, 39, 40, 41, 42]) hb129 (by decide)))).tr (hF136.up (by decide))).tr ((xFr.of (S := [27, 28, 29, 30, 31, 32, 33, 34, 35, 36, 37, 38, 39, 40, 41, 42]) hb170 (by decide)).tr (xFr.of (S := [27, 28, 29, 30, 31, 32, 33, 34, 35, 36, 37, 38, 39, 40, 41, 42]) hb173 (by decide)))).tr (hF180.up (by decide))).tr (hF211.up (by decide))).tr (hF254.up (by decide))).tr (hF264.up (by decide))).tr (hF292.up (by decide)))⟩
                · obtain ⟨mf1, mf2⟩ := manyF0 hS h0_ hsk ((((((((((((((hF33.up (T := [27, 39, 40, 42]) (by decide)).tr (hF42.up (T := [27, 39, 40, 42]) (by decide))).tr (xFr.of (S := [27, 39, 40, 42]) hb79 (by decide))).tr (xFr.of (S := [27, 39, 40, 42]) hb85 (by decide))).tr (hF92.up (T := [27, 39, 40, 42]) (by decide))).tr (xFr.of (S := [27, 39, 40, 42]) hb126 (by decide))).tr (xFr.of (S := [27, 39, 40, 42]) hb129 (by decide))).tr (hF136.up (T := [27, 39, 40, 42]) (by decide))).tr (xFr.of (S := [27, 39, 40, 42]) hb170 (by decide))).tr (xFr.of (S := [27, 39, 40, 42]) hb173 (by decide))).tr (hF180.up (T := [27, 39, 40, 42]) (by decide))).tr (hF211.up (T := [27, 39, 40, 42]) (by decide))).tr (hF254.up (T := [27, 39, 40, 42]) (by decide))).tr (hF264.up (T := [27, 39, 40, 42]) (by decide))) d269 d270 hm295
                  have hfl := flt_1 hsk mf1 mf2 (show lst0 0 ≤ vln B nn (lnP B nn k) 0 ∧ vln B nn (lnP B nn k) 0 ≤ grt0 0 from (show 1 ≤ vln B nn (lnP B nn k) 0 ∧ vln B nn (lnP B nn k) 0 ≤ 99 by omega)) (show ¬ _ from fun z => hi297 (by have z : 1 ≤ _ ∧ _ ≤ 99 := z; omega))
                  refine xg_t (xg_ifT (u := 0) rfl xnm0 (by decide)) ?_
                  refine xg_t (xg_blq rfl) ?_
                  refine xg_t (xg_const) ?_
                  have l9333 : fld w289 28 9 = fld w 28 9 := fld_eq (j := 9) ((hF292.1 28 (by decide)).trans ((hF264.1 28 (by decide)).trans ((hF254.1 28 (by decide)).trans ((hF211.1 28 (by decide)).trans ((hF180.1 28 (by decide)).trans ((hb173.1 28 (by decide)).trans ((hb170.1 28 (by decide)).trans ((hF136.1 28 (by decide)).trans ((hb129.1 28 (by decide)).trans ((hb126.1 28 (by decide)).trans ((hF92.1 28 (by decide)).trans ((hb85.1 28 (by decide)).trans ((hb79.1 28 (by decide)).trans ((hF42.1 28 (by decide)).trans (hF33.1 28 (by decide))))))))))))))))
                  have he334 : lnP B nn (k + 1) = p_266 := by
                    show (lnR B nn (lnP B nn k)).2 = _
                    rw [← hp0, ln268]
                  have hC335 := CST.bad h0_ hfl (by decide) e9299 (e10300.trans (n278.trans (by rw [← hp0, vp281]; exact hw123)))
                  exact xg_e ⟨1, w289, ⟨rfl, rfl⟩, ⟨Or.inl ⟨rfl, by rw [ln268], by rw [he334]; exact (hx265.fr (hF292.1 42 (by decide))), hC335⟩, l9333⟩, hI291, ((((((((((((hF33.up (by decide)).tr (hF42.up (by decide))).tr ((xFr.of (S := [27, 28, 29, 30, 31, 32, 33, 34, 35, 36, 37, 38, 39, 40, 41, 42]) hb79 (by decide)).tr (xFr.of (S := [27, 28, 29, 30, 31, 32, 33, 34, 35, 36, 37, 38, 39, 40, 41, 42]) hb85 (by decide)))).tr (hF92.up (by decide))).tr ((xFr.of (S := [27, 28, 29, 30, 31, 32, 33, 34, 35, 36, 37, 38, 39, 40, 41, 42]) hb126 (by decide)).tr (xFr.of (S := [27, 28, 29, 30, 31, 32, 33, 34, 35, 36, 37, 38, 39, 40, 41, 42]) hb129 (by decide)))).tr (hF136.up (by decide))).tr ((xFr.of (S := [27, 28, 29, 30, 31, 32, 33, 34, 35, 36, 37, 38, 39, 40, 41, 42]) hb170 (by decide)).tr (xFr.of (S := [27, 28, 29, 30, 31, 32, 33, 34, 35, 36, 37, 38, 39, 40, 41, 42]) hb173 (by decide)))).tr (hF180.up (by decide))).tr (hF211.up (by decide))).tr (hF254.up (by decide))).tr (hF264.up (by decide))).tr (hF292.up (by decide)))⟩
                · obtain ⟨mf1, mf2⟩ := manyF0 hS h0_ hsk ((((((((((((((hF33.up (T := [27, 39, 40, 42]) (by decide)).tr (hF42.up (T := [27, 39, 40, 42]) (by decide))).tr (xFr.of (S := [27, 39, 40, 42]) hb79 (by decide))).tr (xFr.of (S := [27, 39, 40, 42]) hb85 (by decide))).tr (hF92.up (T := [27, 39, 40, 42]) (by decide))).tr (xFr.of (S := [27, 39, 40, 42]) hb126 (by decide))).tr (xFr.of (S := [27, 39, 40, 42]) hb129 (by decide))).tr (hF136.up (T := [27, 39, 40, 42]) (by decide))).tr (xFr.of (S := [27, 39, 40, 42]) hb170 (by decide))).tr (xFr.of (S := [27, 39, 40, 42]) hb173 (by decide))).tr (hF180.up (T := [27, 39, 40, 42]) (by decide))).tr (hF211.up (T := [27, 39, 40, 42]) (by decide))).tr (hF254.up (T := [27, 39, 40, 42]) (by decide))).tr (hF264.up (T := [27, 39, 40, 42]) (by decide))) d269 d270 hm295
                  have hfl := flt_2 hsk mf1 mf2 (show lst0 0 ≤ vln B nn (lnP B nn k) 0 ∧ vln B nn (lnP B nn k) 0 ≤ grt0 0 from (show 1 ≤ vln B nn (lnP B nn k) 0 ∧ vln B nn (lnP B nn k) 0 ≤ 99 by omega)) (show lst1 0 ≤ vln B nn (lnP B nn k) 1 ∧ vln B nn (lnP B nn k) 1 ≤ grt1 0 from (show 1 ≤ vln B nn (lnP B nn k) 1 ∧ vln B nn (lnP B nn k) 1 ≤ 99 by omega)) rfl (show ¬ _ from fun z => hi298 (by have z : 1 ≤ _ ∧ _ ≤ 99 := z; omega))
                  refine xg_t (xg_ifT (u := 0) rfl xnm0 (by decide)) ?_
                  refine xg_t (xg_blq rfl) ?_
                  refine xg_t (xg_const) ?_
                  have l9336 : fld w289 28 9 = fld w 28 9 := fld_eq (j := 9) ((hF292.1 28 (by decide)).trans ((hF264.1 28 (by decide)).trans ((hF254.1 28 (by decide)).trans ((hF211.1 28 (by decide)).trans ((hF180.1 28 (by decide)).trans ((hb173.1 28 (by decide)).trans ((hb170.1 28 (by decide)).trans ((hF136.1 28 (by decide)).trans ((hb129.1 28 (by decide)).trans ((hb126.1 28 (by decide)).trans ((hF92.1 28 (by decide)).trans ((hb85.1 28 (by decide)).trans ((hb79.1 28 (by decide)).trans ((hF42.1 28 (by decide)).trans (hF33.1 28 (by decide))))))))))))))))
                  have he337 : lnP B nn (k + 1) = p_266 := by
                    show (lnR B nn (lnP B nn k)).2 = _
                    rw [← hp0, ln268]
                  have hC338 := CST.bad h0_ hfl (by decide) e9299 (e10300.trans (n279.trans (by rw [← hp0, vp282]; exact hw167)))
                  exact xg_e ⟨1, w289, ⟨rfl, rfl⟩, ⟨Or.inl ⟨rfl, by rw [ln268], by rw [he337]; exact (hx265.fr (hF292.1 42 (by decide))), hC338⟩, l9336⟩, hI291, ((((((((((((hF33.up (by decide)).tr (hF42.up (by decide))).tr ((xFr.of (S := [27, 28, 29, 30, 31, 32, 33, 34, 35, 36, 37, 38, 39, 40, 41, 42]) hb79 (by decide)).tr (xFr.of (S := [27, 28, 29, 30, 31, 32, 33, 34, 35, 36, 37, 38, 39, 40, 41, 42]) hb85 (by decide)))).tr (hF92.up (by decide))).tr ((xFr.of (S := [27, 28, 29, 30, 31, 32, 33, 34, 35, 36, 37, 38, 39, 40, 41, 42]) hb126 (by decide)).tr (xFr.of (S := [27, 28, 29, 30, 31, 32, 33, 34, 35, 36, 37, 38, 39, 40, 41, 42]) hb129 (by decide)))).tr (hF136.up (by decide))).tr ((xFr.of (S := [27, 28, 29, 30, 31, 32, 33, 34, 35, 36, 37, 38, 39, 40, 41, 42]) hb170 (by decide)).tr (xFr.of (S := [27, 28, 29, 30, 31, 32, 33, 34, 35, 36, 37, 38, 39, 40, 41, 42]) hb173 (by decide)))).tr (hF180.up (by decide))).tr (hF211.up (by decide))).tr (hF254.up (by decide))).tr (hF264.up (by decide))).tr (hF292.up (by decide)))⟩
              · refine xg_t (xg_ifT (u := f27_234) rfl xnm0 (xj_neT hc288)) ?_
                refine xg_t (xg_blq rfl) ?_
                refine xg_t (xg_const) ?_
                have l9339 : fld w261 28 9 = fld w 28 9 := fld_eq (j := 9) ((hF264.1 28 (by decide)).trans ((hF254.1 28 (by decide)).trans ((hF211.1 28 (by decide)).trans ((hF180.1 28 (by decide)).trans ((hb173.1 28 (by decide)).trans ((hb170.1 28 (by decide)).trans ((hF136.1 28 (by decide)).trans ((hb129.1 28 (by decide)).trans ((hb126.1 28 (by decide)).trans ((hF92.1 28 (by decide)).trans ((hb85.1 28 (by decide)).trans ((hb79.1 28 (by decide)).trans ((hF42.1 28 (by decide)).trans (hF33.1 28 (by decide)))))))))))))))
                have he340 : lnP B nn (k + 1) = p_266 := by
                  show (lnR B nn (lnP B nn k)).2 = _
                  rw [← hp0, ln268]
                have hC341 := hS.st (by omega) d271 d272
                exact xg_e ⟨1, w261, ⟨rfl, rfl⟩, ⟨Or.inl ⟨rfl, by rw [ln268], by rw [he340]; exact hx265, hC341⟩, l9339⟩, hI263, (((((((((((hF33.up (by decide)).tr (hF42.up (by decide))).tr ((xFr.of (S := [27, 28, 29, 30, 31, 32, 33, 34, 35, 36, 37, 38, 39, 40, 41, 42]) hb79 (by decide)).tr (xFr.of (S := [27, 28, 29, 30, 31, 32, 33, 34, 35, 36, 37, 38, 39, 40, 41, 42]) hb85 (by decide)))).tr (hF92.up (by decide))).tr ((xFr.of (S := [27, 28, 29, 30, 31, 32, 33, 34, 35, 36, 37, 38, 39, 40, 41, 42]) hb126 (by decide)).tr (xFr.of (S := [27, 28, 29, 30, 31, 32, 33, 34, 35, 36, 37, 38, 39, 40, 41, 42]) hb129 (by decide)))).tr (hF136.up (by decide))).tr ((xFr.of (S := [27, 28, 29, 30, 31, 32, 33, 34, 35, 36, 37, 38, 39, 40, 41, 42]) hb170 (by decide)).tr (xFr.of (S := [27, 28, 29, 30, 31, 32, 33, 34, 35, 36, 37, 38, 39, 40, 41, 42]) hb173 (by decide)))).tr (hF180.up (by decide))).tr (hF211.up (by decide))).tr (hF254.up (by decide))).tr (hF264.up (by decide)))⟩
            · have lf342 : lnR B nn p0 = (false, p_221) := ln223.trans (lnS_n hsg257)
              refine xg_t (xg_ifF (u := 0) rfl xnm0 (by decide)) ?_
              refine xg_t (xg_const) ?_
              have l9343 : fld w251 28 9 = fld w 28 9 := fld_eq (j := 9) ((hF254.1 28 (by decide)).trans ((hF211.1 28 (by decide)).trans ((hF180.1 28 (by decide)).trans ((hb173.1 28 (by decide)).trans ((hb170.1 28 (by decide)).trans ((hF136.1 28 (by decide)).trans ((hb129.1 28 (by decide)).trans ((hb126.1 28 (by decide)).trans ((hF92.1 28 (by decide)).trans ((hb85.1 28 (by decide)).trans ((hb79.1 28 (by decide)).trans ((hF42.1 28 (by decide)).trans (hF33.1 28 (by decide))))))))))))))
              exact xg_e ⟨0, w251, ⟨rfl, rfl⟩, ⟨Or.inr ⟨rfl, by rw [lf342]; exact Bool.false_ne_true, by rw [lf342]; exact (hT_215.fr (hF254.1 42 (by decide))).1.2.2.1⟩, l9343⟩, hI253, ((((((((((hF33.up (by decide)).tr (hF42.up (by decide))).tr ((xFr.of (S := [27, 28, 29, 30, 31, 32, 33, 34, 35, 36, 37, 38, 39, 40, 41, 42]) hb79 (by decide)).tr (xFr.of (S := [27, 28, 29, 30, 31, 32, 33, 34, 35, 36, 37, 38, 39, 40, 41, 42]) hb85 (by decide)))).tr (hF92.up (by decide))).tr ((xFr.of (S := [27, 28, 29, 30, 31, 32, 33, 34, 35, 36, 37, 38, 39, 40, 41, 42]) hb126 (by decide)).tr (xFr.of (S := [27, 28, 29, 30, 31, 32, 33, 34, 35, 36, 37, 38, 39, 40, 41, 42]) hb129 (by decide)))).tr (hF136.up (by decide))).tr ((xFr.of (S := [27, 28, 29, 30, 31, 32, 33, 34, 35, 36, 37, 38, 39, 40, 41, 42]) hb170 (by decide)).tr (xFr.of (S := [27, 28, 29, 30, 31, 32, 33, 34, 35, 36, 37, 38, 39, 40, 41, 42]) hb173 (by decide)))).tr (hF180.up (by decide))).tr (hF211.up (by decide))).tr (hF254.up (by decide)))⟩
          · have lf344 : lnR B nn p0 = (false, p_182) := ln184.trans (lnN_gn hg214)
            refine xg_t (xg_ifF (u := 0) rfl xnm0 (by decide)) ?_
            refine xg_t (xg_const) ?_
            have l9345 : fld w208 28 9 = fld w 28 9 := fld_eq (j := 9) ((hF211.1 28 (by decide)).trans ((hF180.1 28 (by decide)).trans ((hb173.1 28 (by decide)).trans ((hb170.1 28 (by decide)).trans ((hF136.1 28 (by decide)).trans ((hb129.1 28 (by decide)).trans ((hb126.1 28 (by decide)).trans ((hF92.1 28 (by decide)).trans ((hb85.1 28 (by decide)).trans ((hb79.1 28 (by decide)).trans ((hF42.1 28 (by decide)).trans (hF33.1 28 (by decide)))))))))))))
            exact xg_e ⟨0, w208, ⟨rfl, rfl⟩, ⟨Or.inr ⟨rfl, by rw [lf344]; exact Bool.false_ne_true, by rw [lf344]; exact hT_215⟩, l9345⟩, hI210, (((((((((hF33.up (by decide)).tr (hF42.up (by decide))).tr ((xFr.of (S := [27, 28, 29, 30, 31, 32, 33, 34, 35, 36, 37, 38, 39, 40, 41, 42]) hb79 (by decide)).tr (xFr.of (S := [27, 28, 29, 30, 31, 32, 33, 34, 35, 36, 37, 38, 39, 40, 41, 42]) hb85 (by decide)))).tr (hF92.up (by decide))).tr ((xFr.of (S := [27, 28, 29, 30, 31, 32, 33, 34, 35, 36, 37, 38, 39, 40, 41, 42]) hb126 (by decide)).tr (xFr.of (S := [27, 28, 29, 30, 31, 32, 33, 34, 35, 36, 37, 38, 39, 40, 41, 42]) hb129 (by decide)))).tr (hF136.up (by decide))).tr ((xFr.of (S := [27, 28, 29, 30, 31, 32, 33, 34, 35, 36, 37, 38, 39, 40, 41, 42]) hb170 (by decide)).tr (xFr.of (S := [27, 28, 29, 30, 31, 32, 33, 34, 35, 36, 37, 38, 39, 40, 41, 42]) hb173 (by decide)))).tr (hF180.up (by decide))).tr (hF211.up (by decide)))⟩
        · refine xg_t (xg_icF (u := f42_149) (v := 2) rfl xnm0 xnm0 (xj_eqF hc164)) ?_
          have lf346 : lnR B nn p0 = (false, p_138) := ln140.trans (lnN_n (k := 0) (by omega))
          refine xg_t (xg_const) ?_
          have l9347 : fld w133 28 9 = fld w 28 9 := fld_eq (j := 9) ((hF136.1 28 (by decide)).trans ((hb129.1 28 (by decide)).trans ((hb126.1 28 (by decide)).trans ((hF92.1 28 (by decide)).trans ((hb85.1 28 (by decide)).trans ((hb79.1 28 (by decide)).trans ((hF42.1 28 (by decide)).trans (hF33.1 28 (by decide)))))))))
          exact xg_e ⟨0, w133, ⟨rfl, rfl⟩, ⟨Or.inr ⟨rfl, by rw [lf346]; exact Bool.false_ne_true, by rw [lf346]; exact hx137.1.2.2.1⟩, l9347⟩, hI135, ((((((hF33.up (by decide)).tr (hF42.up (by decide))).tr ((xFr.of (S := [27, 28, 29, 30, 31, 32, 33, 34, 35, 36, 37, 38, 39, 40, 41, 42]) hb79 (by decide)).tr (xFr.of (S := [27, 28, 29, 30, 31, 32, 33, 34, 35, 36, 37, 38, 39, 40, 41, 42]) hb85 (by decide)))).tr (hF92.up (by decide))).tr ((xFr.of (S := [27, 28, 29, 30, 31, 32, 33, 34, 35, 36, 37, 38, 39, 40, 41, 42]) hb126 (by decide)).tr (xFr.of (S := [27, 28, 29, 30, 31, 32, 33, 34, 35, 36, 37, 38, 39, 40, 41, 42]) hb129 (by decide)))).tr (hF136.up (by decide)))⟩
      · refine xg_t (xg_icF (u := f42_105) (v := 2) rfl xnm0 xnm0 (xj_eqF hc120)) ?_
        have lf348 : lnR B nn p0 = (false, p_94) := ln96.trans (lnN_n (k := 1) (by omega))
        refine xg_t (xg_const) ?_
        have l9349 : fld w89 28 9 = fld w 28 9 := fld_eq (j := 9) ((hF92.1 28 (by decide)).trans ((hb85.1 28 (by decide)).trans ((hb79.1 28 (by decide)).trans ((hF42.1 28 (by decide)).trans (hF33.1 28 (by decide))))))
        exact xg_e ⟨0, w89, ⟨rfl, rfl⟩, ⟨Or.inr ⟨rfl, by rw [lf348]; exact Bool.false_ne_true, by rw [lf348]; exact hx93.1.2.2.1⟩, l9349⟩, hI91, ((((hF33.up (by decide)).tr (hF42.up (by decide))).tr ((xFr.of (S := [27, 28, 29, 30, 31, 32, 33, 34, 35, 36, 37, 38, 39, 40, 41, 42]) hb79 (by decide)).tr (xFr.of (S := [27, 28, 29, 30, 31, 32, 33, 34, 35, 36, 37, 38, 39, 40, 41, 42]) hb85 (by decide)))).tr (hF92.up (by decide)))⟩
    · refine xg_t (xg_icF (u := f42_55) (v := 2) rfl xnm0 xnm0 (xj_eqF hc70)) ?_
      have lf350 : lnR B nn p0 = (false, p_44) := ln46.trans (lnN_n (k := 2) (by omega))
      refine xg_t (xg_const) ?_
      have l9351 : fld w39 28 9 = fld w 28 9 := fld_eq (j := 9) ((hF42.1 28 (by decide)).trans (hF33.1 28 (by decide)))
      exact xg_e ⟨0, w39, ⟨rfl, rfl⟩, ⟨Or.inr ⟨rfl, by rw [lf350]; exact Bool.false_ne_true, by rw [lf350]; exact hx43.1.2.2.1⟩, l9351⟩, hI41, ((hF33.up (by decide)).tr (hF42.up (by decide)))⟩
  · have hsk : slt B nn (lnP B nn k) = 1 := by rw [← hp0]; exact hs
    refine xg_t (xg_istore (l1 := [(0, (2, 27))]) rfl rfl rfl) ?_
    refine xg_t (xg_aload (va := (2, 27)) rfl rfl) ?_
    refine xg_t (xg_getf (va := (2, 42)) (hF33.get (by decide) h27_11) rfl) ?_
    refine xg_t (xg_getf (va := (0, f42_16)) (hF33.get (by decide) h42_22) rfl) ?_
    refine xg_t (xg_istore (l1 := [(1, (0, 1)), (0, (2, 27))]) rfl rfl rfl) ?_
    refine xg_t (xg_iload (va := (0, 1)) rfl rfl) ?_
    refine xg_t (xg_const) ?_
    refine xg_t (xg_icT (u := 1) (v := 4294967295) rfl xnm0 xnm0 (by decide)) ?_
    refine xg_t (xg_blq rfl) ?_
    refine xg_t (xg_aload (va := (2, 27)) rfl rfl) ?_
    refine xg_t (xg_getf (va := (2, 42)) (hF33.get (by decide) h27_11) rfl) ?_
    obtain ⟨⟨ht352, -, -, ht353, ht354⟩, -⟩ := id (hT.fr (hF33.1 42 (by decide)))
    refine xg_cVv mX8_advance (vs := []) (rest := []) (cn1 := 0) (sl1 := 0) rfl (tkAdvX42 (hI32) (hB.fr (hF33.1 2 (by decide))) ht352 (by rw [ht353]; exact tf_le ht354)) rfl (hF33.get (by decide) h42_22) rfl rfl rfl rfl rfl rfl (fun w355 hq356 => ?_)
    obtain ⟨hI357, hF358, hx359⟩ := hq356
    rw [ht353] at hx359
    clear ht352 ht353 ht354
    obtain ⟨p_360, hp361⟩ : ∃ x, x = tf B nn p0 := ⟨_, rfl⟩
    rw [← hp361] at hx359
    have ln362 : lnR B nn p0 = lnN B nn 1 2 p_360 := by rw [hp361]; exact lnR_go hs (by decide)
    obtain ⟨⟨ht363, ht364, ht365, ht366, ht367⟩, ht368⟩ := id hx359
    refine xoC42 (xqc42 hI357 : cp42 (wget w355 42)) (fun f42_369 f42_371 f42_373 f42_375 f42_377 h42_379 hb370 hb372 hb374 hb376 hb378 hb380 => ?_)
    have hq381 : fld w355 42 1 = f42_369 := fld_of h42_379
    have hq382 : fld w355 42 2 = f42_371 := fld_of h42_379
    have hq383 : fld w355 42 3 = f42_373 := fld_of h42_379
    have hq384 : fld w355 42 4 = f42_375 := fld_of h42_379
    have hq385 : fld w355 42 5 = f42_377 := fld_of h42_379
    refine xg_t (xg_const) ?_
    refine xg_t (xg_istore (l1 := [(2, (0, f42_16)), (1, (0, 1)), (0, (2, 27))]) rfl rfl rfl) ?_
    refine xg_t (xg_blq rfl) ?_
    refine xg_t (xg_iload (va := (0, 0)) rfl rfl) ?_
    refine xg_t (xg_gets) ?_
    refine xg_t (xg_iload (va := (0, 1)) rfl rfl) ?_
    refine xg_t (xg_ald8L (n := 1) (u := 2) xnm0 rfl rfl) ?_
    refine xg_t (xg_icF (u := 0) (v := 2) rfl xnm0 xnm0 (by decide)) ?_
    refine xg_t (xg_iload (va := (0, 0)) rfl rfl) ?_
    refine xg_t (xg_const) ?_
    refine xg_t (xg_icF (u := 0) (v := 3) rfl xnm0 xnm0 (by decide)) ?_
    refine xg_t (xg_aload (va := (2, 27)) rfl rfl) ?_
    refine xg_t (xg_getf (va := (2, 42)) (hF358.get (by decide) (hF33.get (by decide) h27_11)) rfl) ?_
    refine xg_t (xg_getf (va := (0, f42_371)) h42_379 rfl) ?_
    refine xg_t (xg_const) ?_
    by_cases hc386 : f42_371 = 2
    · refine xg_t (xg_icT (u := f42_371) (v := 2) rfl xnm0 xnm0 (xj_eqT hc386)) ?_
      refine xg_t (xg_blq rfl) ?_
      have hk387 : tkd B nn p_360 = 2 := by omega
      have hv388 : f42_377 = tnu B nn p_360 := hq385.symm.trans (ht368 hk387)
      have hw389 : f42_373 = tq B nn p_360 := by omega
      refine xg_t (xg_aload (va := (2, 27)) rfl rfl) ?_
      refine xg_t (xg_getf (va := (2, 39)) (hF358.get (by decide) (hF33.get (by decide) h27_11)) rfl) ?_
      refine xg_t (xg_iload (va := (0, 0)) rfl rfl) ?_
      refine xg_t (xg_aload (va := (2, 27)) rfl rfl) ?_
      refine xg_t (xg_getf (va := (2, 42)) (hF358.get (by decide) (hF33.get (by decide) h27_11)) rfl) ?_
      refine xg_t (xg_getf (va := (0, f42_377)) h42_379 rfl) ?_
      refine xoI (xqc39 hI357 : cpI 3 18 4294967295 (wget w355 39)) (fun g39_390 h39_391 hb392 => ?_)
      refine xg_iastK (n := 0) (u := f42_377) h39_391 xnm0 xnm0 rfl (by first | decide | omega) (fun w393 hr394 hb395 => ?_)
      refine xg_t (xg_aload (va := (2, 27)) rfl rfl) ?_
      refine xg_t (xg_getf (va := (2, 40)) (hb395.get (by decide) (hF358.get (by decide) (hF33.get (by decide) h27_11))) rfl) ?_
      refine xg_t (xg_iload (va := (0, 0)) rfl rfl) ?_
      refine xg_t (xg_aload (va := (2, 27)) rfl rfl) ?_
      refine xg_t (xg_getf (va := (2, 42)) (hb395.get (by decide) (hF358.get (by decide) (hF33.get (by decide) h27_11))) rfl) ?_
      refine xg_t (xg_getf (va := (0, f42_373)) (hb395.get (by decide) h42_379) rfl) ?_
      refine xoI (xqc40 hI357 : cpI 3 19 4294967295 (wget w355 40)) (fun g40_396 h40_397 hb398 => ?_)
      refine xg_iastK (n := 0) (u := f42_373) (h40_397.but hb395 (by decide)) xnm0 xnm0 rfl (by first | decide | omega) (fun w399 hr400 hb401 => ?_)
      refine xg_t (xg_aload (va := (2, 27)) rfl rfl) ?_
      refine xg_t (xg_getf (va := (2, 42)) (hb401.get (by decide) (hb395.get (by decide) (hF358.get (by decide) (hF33.get (by decide) h27_11)))) rfl) ?_
      clear ht363 ht364 ht365 ht366 ht367 ht368 hq381 hq382 hq383 hq384 hq385
      obtain ⟨⟨ht402, -, -, ht403, ht404⟩, -⟩ := id (hx359.fr ((hb401.1 42 (by decide)).trans (hb395.1 42 (by decide))))
      refine xg_cVv mX8_advance (vs := []) (rest := []) (cn1 := 0) (sl1 := 0) rfl (tkAdvX42 (xInv.up (S := [39, 40]) hI357 ((xFr.of (S := [39, 40]) hb395 (by decide)).tr (xFr.of (S := [39, 40]) hb401 (by decide))) (List.forall_mem_cons.mpr ⟨xqu39 (show cpI 3 18 4294967295 (wget w399 39) from ⟨_, (hr394.but hb401 (by decide)), xrb (by omega) (hb392)⟩), List.forall_mem_cons.mpr ⟨xqu40 (show cpI 3 19 4294967295 (wget w399 40) from ⟨_, hr400, xrb (by omega) (hb398)⟩), fun _ h => absurd h List.not_mem_nil⟩⟩)) (hB.fr ((hb401.1 2 (by decide)).trans ((hb395.1 2 (by decide)).trans ((hF358.1 2 (by decide)).trans (hF33.1 2 (by decide)))))) ht402 (by rw [ht403]; exact tf_le ht404)) rfl (hb401.get (by decide) (hb395.get (by decide) h42_379)) rfl rfl rfl rfl rfl rfl (fun w405 hq406 => ?_)
      obtain ⟨hI407, hF408, hx409⟩ := hq406
      rw [ht403] at hx409
      clear ht402 ht403 ht404
      obtain ⟨p_410, hp411⟩ : ∃ x, x = tf B nn p_360 := ⟨_, rfl⟩
      rw [← hp411] at hx409
      have ln412 : lnR B nn p0 = lnN B nn 1 1 p_410 := by rw [hp411]; exact ln362.trans (lnN_y (k := 1) hk387)
      obtain ⟨⟨ht413, ht414, ht415, ht416, ht417⟩, ht418⟩ := id hx409
      refine xoC42 (xqc42 hI407 : cp42 (wget w405 42)) (fun f42_419 f42_421 f42_423 f42_425 f42_427 h42_429 hb420 hb422 hb424 hb426 hb428 hb430 => ?_)
      have hq431 : fld w405 42 1 = f42_419 := fld_of h42_429
      have hq432 : fld w405 42 2 = f42_421 := fld_of h42_429
      have hq433 : fld w405 42 3 = f42_423 := fld_of h42_429
      have hq434 : fld w405 42 4 = f42_425 := fld_of h42_429
      have hq435 : fld w405 42 5 = f42_427 := fld_of h42_429
      refine xg_t (xg_iinc (u := 0) (z := 1) (l1 := [(2, (0, f42_16)), (1, (0, 1)), (0, (2, 27))]) rfl rfl (by decide) rfl) ?_
      refine xg_t (xg_goto) ?_
      refine xg_t (xg_blq rfl) ?_
      refine xg_t (xg_iload (va := (0, 1)) rfl rfl) ?_
      refine xg_t (xg_gets) ?_
      refine xg_t (xg_iload (va := (0, 1)) rfl rfl) ?_
      refine xg_t (xg_ald8L (n := 1) (u := 2) xnm0 rfl rfl) ?_
      refine xg_t (xg_icF (u := 1) (v := 2) rfl xnm0 xnm0 (by decide)) ?_
      refine xg_t (xg_iload (va := (0, 1)) rfl rfl) ?_
      refine xg_t (xg_const) ?_
      refine xg_t (xg_icF (u := 1) (v := 3) rfl xnm0 xnm0 (by decide)) ?_
      refine xg_t (xg_aload (va := (2, 27)) rfl rfl) ?_
      refine xg_t (xg_getf (va := (2, 42)) (hF408.get (by decide) (hb401.get (by decide) (hb395.get (by decide) (hF358.get (by decide) (hF33.get (by decide) h27_11))))) rfl) ?_
      refine xg_t (xg_getf (va := (0, f42_421)) h42_429 rfl) ?_
      refine xg_t (xg_const) ?_
      by_cases hc436 : f42_421 = 2
      · refine xg_t (xg_icT (u := f42_421) (v := 2) rfl xnm0 xnm0 (xj_eqT hc436)) ?_
        refine xg_t (xg_blq rfl) ?_
        have hk437 : tkd B nn p_410 = 2 := by omega
        have hv438 : f42_427 = tnu B nn p_410 := hq435.symm.trans (ht418 hk437)
        have hw439 : f42_423 = tq B nn p_410 := by omega
        refine xg_t (xg_aload (va := (2, 27)) rfl rfl) ?_
        refine xg_t (xg_getf (va := (2, 39)) (hF408.get (by decide) (hb401.get (by decide) (hb395.get (by decide) (hF358.get (by decide) (hF33.get (by decide) h27_11))))) rfl) ?_
        refine xg_t (xg_iload (va := (0, 1)) rfl rfl) ?_
        refine xg_t (xg_aload (va := (2, 27)) rfl rfl) ?_
        refine xg_t (xg_getf (va := (2, 42)) (hF408.get (by decide) (hb401.get (by decide) (hb395.get (by decide) (hF358.get (by decide) (hF33.get (by decide) h27_11))))) rfl) ?_
        refine xg_t (xg_getf (va := (0, f42_427)) h42_429 rfl) ?_
        refine xg_iastK (n := 1) (u := f42_427) ((hr394.but hb401 (by decide)).fr hF408 (by decide)) xnm0 xnm0 rfl (by first | decide | omega) (fun w440 hr441 hb442 => ?_)
        refine xg_t (xg_aload (va := (2, 27)) rfl rfl) ?_
        refine xg_t (xg_getf (va := (2, 40)) (hb442.get (by decide) (hF408.get (by decide) (hb401.get (by decide) (hb395.get (by decide) (hF358.get (by decide) (hF33.get (by decide) h27_11)))))) rfl) ?_
        refine xg_t (xg_iload (va := (0, 1)) rfl rfl) ?_
        refine xg_t (xg_aload (va := (2, 27)) rfl rfl) ?_
        refine xg_t (xg_getf (va := (2, 42)) (hb442.get (by decide) (hF408.get (by decide) (hb401.get (by decide) (hb395.get (by decide) (hF358.get (by decide) (hF33.get (by decide) h27_11)))))) rfl) ?_
        refine xg_t (xg_getf (va := (0, f42_423)) (hb442.get (by decide) h42_429) rfl) ?_
        refine xg_iastK (n := 1) (u := f42_423) ((hr400.fr hF408 (by decide)).but hb442 (by decide)) xnm0 xnm0 rfl (by first | decide | omega) (fun w443 hr444 hb445 => ?_)
        refine xg_t (xg_aload (va := (2, 27)) rfl rfl) ?_
        refine xg_t (xg_getf (va := (2, 42)) (hb445.get (by decide) (hb442.get (by decide) (hF408.get (by decide) (hb401.get (by decide) (hb395.get (by decide) (hF358.get (by decide) (hF33.get (by decide) h27_11))))))) rfl) ?_
        clear ht413 ht414 ht415 ht416 ht417 ht418 hq431 hq432 hq433 hq434 hq435
        obtain ⟨⟨ht446, -, -, ht447, ht448⟩, -⟩ := id (hx409.fr ((hb445.1 42 (by decide)).trans (hb442.1 42 (by decide))))
        refine xg_cVv mX8_advance (vs := []) (rest := []) (cn1 := 0) (sl1 := 0) rfl (tkAdvX42 (xInv.up (S := [39, 40]) hI407 ((xFr.of (S := [39, 40]) hb442 (by decide)).tr (xFr.of (S := [39, 40]) hb445 (by decide))) (List.forall_mem_cons.mpr ⟨xqu39 (show cpI 3 18 4294967295 (wget w443 39) from ⟨_, (hr441.but hb445 (by decide)), xrb (by omega) (xrb (by omega) (hb392))⟩), List.forall_mem_cons.mpr ⟨xqu40 (show cpI 3 19 4294967295 (wget w443 40) from ⟨_, hr444, xrb (by omega) (xrb (by omega) (hb398))⟩), fun _ h => absurd h List.not_mem_nil⟩⟩)) (hB.fr ((hb445.1 2 (by decide)).trans ((hb442.1 2 (by decide)).trans ((hF408.1 2 (by decide)).trans ((hb401.1 2 (by decide)).trans ((hb395.1 2 (by decide)).trans ((hF358.1 2 (by decide)).trans (hF33.1 2 (by decide))))))))) ht446 (by rw [ht447]; exact tf_le ht448)) rfl (hb445.get (by decide) (hb442.get (by decide) h42_429)) rfl rfl rfl rfl rfl rfl (fun w449 hq450 => ?_)
        obtain ⟨hI451, hF452, hx453⟩ := hq450
        rw [ht447] at hx453
        clear ht446 ht447 ht448
        obtain ⟨p_454, hp455⟩ : ∃ x, x = tf B nn p_410 := ⟨_, rfl⟩
        rw [← hp455] at hx453
        have ln456 : lnR B nn p0 = lnN B nn 1 0 p_454 := by rw [hp455]; exact ln412.trans (lnN_y (k := 0) hk437)
        obtain ⟨⟨ht457, ht458, ht459, ht460, ht461⟩, ht462⟩ := id hx453
        refine xoC42 (xqc42 hI451 : cp42 (wget w449 42)) (fun f42_463 f42_465 f42_467 f42_469 f42_471 h42_473 hb464 hb466 hb468 hb470 hb472 hb474 => ?_)
        have hq475 : fld w449 42 1 = f42_463 := fld_of h42_473
        have hq476 : fld w449 42 2 = f42_465 := fld_of h42_473
        have hq477 : fld w449 42 3 = f42_467 := fld_of h42_473
        have hq478 : fld w449 42 4 = f42_469 := fld_of h42_473
        have hq479 : fld w449 42 5 = f42_471 := fld_of h42_473
        refine xg_t (xg_iinc (u := 1) (z := 2) (l1 := [(2, (0, f42_16)), (1, (0, 1)), (0, (2, 27))]) rfl rfl (by decide) rfl) ?_
        refine xg_t (xg_goto) ?_
        refine xg_t (xg_blq rfl) ?_
        refine xg_t (xg_iload (va := (0, 2)) rfl rfl) ?_
        refine xg_t (xg_gets) ?_
        refine xg_t (xg_iload (va := (0, 1)) rfl rfl) ?_
        refine xg_t (xg_ald8L (n := 1) (u := 2) xnm0 rfl rfl) ?_
        refine xg_t (xg_icT (u := 2) (v := 2) rfl xnm0 xnm0 (by decide)) ?_
        refine xg_t (xg_blq rfl) ?_
        refine xg_t (xg_iload (va := (0, 1)) rfl rfl) ?_
        refine xg_t (xg_ifT (u := 1) rfl xnm0 (by decide)) ?_
        refine xg_t (xg_blq rfl) ?_
        have ln480 : lnR B nn p0 = lnS B nn p_454 := ln456.trans (lnN_0 (by decide))
        refine xg_t (xg_aload (va := (2, 27)) rfl rfl) ?_
        refine xg_t (xg_getf (va := (2, 42)) (hF452.get (by decide) (hb445.get (by decide) (hb442.get (by decide) (hF408.get (by decide) (hb401.get (by decide) (hb395.get (by decide) (hF358.get (by decide) (hF33.get (by decide) h27_11)))))))) rfl) ?_
        refine xg_t (xg_bip) ?_
        refine xg_cVi mX8_isSign (vs := [(0, 59)]) (rest := []) (cn1 := 0) (sl1 := 0) rfl (tkSigX42 (hI451) (by omega) (hB.fr ((hF452.1 2 (by decide)).trans ((hb445.1 2 (by decide)).trans ((hb442.1 2 (by decide)).trans ((hF408.1 2 (by decide)).trans ((hb401.1 2 (by decide)).trans ((hb395.1 2 (by decide)).trans ((hF358.1 2 (by decide)).trans (hF33.1 2 (by decide)))))))))) hx453) rfl h42_473 rfl rfl rfl rfl rfl rfl (fun n485 w481 hq482 => ?_)
        obtain ⟨hn486, hI483, hF484⟩ := hq482
        rcases hn486 with ⟨rfl, hsg487⟩ | ⟨rfl, hsg487⟩
        · refine xg_t (xg_ifT (u := 1) rfl xnm0 (by decide)) ?_
          refine xg_t (xg_blq rfl) ?_
          refine xg_t (xg_aload (va := (2, 27)) rfl rfl) ?_
          refine xg_t (xg_getf (va := (2, 42)) (hF484.get (by decide) (hF452.get (by decide) (hb445.get (by decide) (hb442.get (by decide) (hF408.get (by decide) (hb401.get (by decide) (hb395.get (by decide) (hF358.get (by decide) (hF33.get (by decide) h27_11))))))))) rfl) ?_
          clear ht457 ht458 ht459 ht460 ht461 ht462 hq475 hq476 hq477 hq478 hq479
          obtain ⟨⟨ht488, -, -, ht489, ht490⟩, -⟩ := id (hx453.fr (hF484.1 42 (by decide)))
          refine xg_cVv mX8_advance (vs := []) (rest := []) (cn1 := 0) (sl1 := 0) rfl (tkAdvX42 (hI483) (hB.fr ((hF484.1 2 (by decide)).trans ((hF452.1 2 (by decide)).trans ((hb445.1 2 (by decide)).trans ((hb442.1 2 (by decide)).trans ((hF408.1 2 (by decide)).trans ((hb401.1 2 (by decide)).trans ((hb395.1 2 (by decide)).trans ((hF358.1 2 (by decide)).trans (hF33.1 2 (by decide))))))))))) ht488 (by rw [ht489]; exact tf_le ht490)) rfl (hF484.get (by decide) h42_473) rfl rfl rfl rfl rfl rfl (fun w491 hq492 => ?_)
          obtain ⟨hI493, hF494, hx495⟩ := hq492
          rw [ht489] at hx495
          clear ht488 ht489 ht490
          obtain ⟨p_496, hp497⟩ : ∃ x, x = tf B nn p_454 := ⟨_, rfl⟩
          rw [← hp497] at hx495
          have ln498 : lnR B nn p0 = (true, p_496) := by rw [hp497]; exact ln480.trans (lnS_y hsg487)
          have d499 : fld w491 27 7 = fld w 27 7 := (fld_eq (j := 7) ((hF494.1 27 (by decide)).trans ((hF484.1 27 (by decide)).trans ((hF452.1 27 (by decide)).trans ((hb445.1 27 (by decide)).trans ((hb442.1 27 (by decide)).trans ((hF408.1 27 (by decide)).trans ((hb401.1 27 (by decide)).trans ((hb395.1 27 (by decide)).trans ((hF358.1 27 (by decide)).trans (hF33.1 27 (by decide))))))))))))
          have d500 : fld w491 27 8 = fld w 27 8 := (fld_eq (j := 8) ((hF494.1 27 (by decide)).trans ((hF484.1 27 (by decide)).trans ((hF452.1 27 (by decide)).trans ((hb445.1 27 (by decide)).trans ((hb442.1 27 (by decide)).trans ((hF408.1 27 (by decide)).trans ((hb401.1 27 (by decide)).trans ((hb395.1 27 (by decide)).trans ((hF358.1 27 (by decide)).trans (hF33.1 27 (by decide))))))))))))
          have d501 : fld w491 27 9 = fld w 27 9 := (fld_eq (j := 9) ((hF494.1 27 (by decide)).trans ((hF484.1 27 (by decide)).trans ((hF452.1 27 (by decide)).trans ((hb445.1 27 (by decide)).trans ((hb442.1 27 (by decide)).trans ((hF408.1 27 (by decide)).trans ((hb401.1 27 (by decide)).trans ((hb395.1 27 (by decide)).trans ((hF358.1 27 (by decide)).trans (hF33.1 27 (by decide))))))))))))
          have d502 : fld w491 27 10 = fld w 27 10 := (fld_eq (j := 10) ((hF494.1 27 (by decide)).trans ((hF484.1 27 (by decide)).trans ((hF452.1 27 (by decide)).trans ((hb445.1 27 (by decide)).trans ((hb442.1 27 (by decide)).trans ((hF408.1 27 (by decide)).trans ((hb401.1 27 (by decide)).trans ((hb395.1 27 (by decide)).trans ((hF358.1 27 (by decide)).trans (hF33.1 27 (by decide))))))))))))
          have hS1 := hS.1
          have hq503 : fld w491 27 9 = f27_7 := fld_of (hF494.get (by decide) (hF484.get (by decide) (hF452.get (by decide) (hb445.get (by decide) (hb442.get (by decide) (hF408.get (by decide) (hb401.get (by decide) (hb395.get (by decide) (hF358.get (by decide) (hF33.get (by decide) h27_11))))))))))
          have n504 : rwv w491 39 0 = f42_377 := (rwv_of ((((hr441.but hb445 (by decide)).fr hF452 (by decide)).fr hF484 (by decide)).fr hF494 (by decide)) (by decide)).trans ((if_neg (by decide)).trans (if_pos rfl))
          have n505 : rwv w491 39 1 = f42_427 := (rwv_of ((((hr441.but hb445 (by decide)).fr hF452 (by decide)).fr hF484 (by decide)).fr hF494 (by decide)) (by decide)).trans (if_pos rfl)
          have n506 : rwv w491 40 0 = f42_373 := (rwv_of (((hr444.fr hF452 (by decide)).fr hF484 (by decide)).fr hF494 (by decide)) (by decide)).trans ((if_neg (by decide)).trans (if_pos rfl))
          have n507 : rwv w491 40 1 = f42_423 := (rwv_of (((hr444.fr hF452 (by decide)).fr hF484 (by decide)).fr hF494 (by decide)) (by decide)).trans (if_pos rfl)
          have vp508 : vlp B nn p0 0 = p_360 := hp361.symm
          have vp509 : vlp B nn p0 1 = p_410 := by show tf B nn (vlp B nn p0 0) = p_410; rw [vp508, hp411]
          have vl510 : vln B nn (lnP B nn k) 0 = f42_377 := by
            rw [← hp0]
            show (if (0 : Nat) = 3 then _ else tnu B nn (vlp B nn p0 0)) = _
            rw [if_neg (by decide), vp508]
            exact hv388.symm
          have vl511 : vln B nn (lnP B nn k) 1 = f42_427 := by
            rw [← hp0]
            show (if (1 : Nat) = 3 then _ else tnu B nn (vlp B nn p0 1)) = _
            rw [if_neg (by decide), vp509]
            exact hv438.symm
          refine xg_t (xg_aload (va := (2, 27)) rfl rfl) ?_
          refine xg_t (xg_getf (va := (0, f27_7)) (hF494.get (by decide) (hF484.get (by decide) (hF452.get (by decide) (hb445.get (by decide) (hb442.get (by decide) (hF408.get (by decide) (hb401.get (by decide) (hb395.get (by decide) (hF358.get (by decide) (hF33.get (by decide) h27_11)))))))))) rfl) ?_
          by_cases hc512 : f27_7 = 0
          · refine xg_t (xg_ifF (u := f27_7) rfl xnm0 (xj_neF hc512)) ?_
            refine xg_t (xg_aload (va := (2, 27)) rfl rfl) ?_
            refine xg_t (xg_iload (va := (0, 1)) rfl rfl) ?_
            refine xg_t (xg_iload (va := (0, f42_16)) rfl rfl) ?_
            refine xg_cVi mX2_isFine (vs := [(0, 1), (0, f42_16)]) (rest := []) (cn1 := 0) (sl1 := 0) rfl (ftFineX1 (hI493) (by omega)) rfl (hF494.get (by decide) (hF484.get (by decide) (hF452.get (by decide) (hb445.get (by decide) (hb442.get (by decide) (hF408.get (by decide) (hb401.get (by decide) (hb395.get (by decide) (hF358.get (by decide) (hF33.get (by decide) h27_11)))))))))) rfl rfl rfl rfl rfl rfl (fun n517 w513 hq514 => ?_)
            obtain ⟨hn518, hI515, hF516⟩ := hq514
            have h0_ : (flA B nn k).1 = 0 := by omega
            rcases hn518 with ⟨rfl, hm519, hi520, hi521, hw524⟩ | ⟨rfl, hm519, e9522, e10523⟩ | ⟨rfl, hm519, hi520, e9522, e10523⟩ | ⟨rfl, hm519, hi520, hi521, e9522, e10523⟩
            · obtain ⟨mf1, mf2⟩ := manyF1 hS h0_ hsk ((((((((((hF33.up (T := [27, 39, 40, 42]) (by decide)).tr (hF358.up (T := [27, 39, 40, 42]) (by decide))).tr (xFr.of (S := [27, 39, 40, 42]) hb395 (by decide))).tr (xFr.of (S := [27, 39, 40, 42]) hb401 (by decide))).tr (hF408.up (T := [27, 39, 40, 42]) (by decide))).tr (xFr.of (S := [27, 39, 40, 42]) hb442 (by decide))).tr (xFr.of (S := [27, 39, 40, 42]) hb445 (by decide))).tr (hF452.up (T := [27, 39, 40, 42]) (by decide))).tr (hF484.up (T := [27, 39, 40, 42]) (by decide))).tr (hF494.up (T := [27, 39, 40, 42]) (by decide))) d499 d500 (n504.trans vl510.symm) hm519
              refine xg_t (xg_ifF (u := 1) rfl xnm0 (by decide)) ?_
              refine xg_t (xg_aload (va := (2, 27)) rfl rfl) ?_
              refine xg_t (xg_iload (va := (0, 1)) rfl rfl) ?_
              refine xg_t (xg_iload (va := (0, f42_16)) rfl rfl) ?_
              refine xoC27 (xqc27 hI515 : cp27 (wget w513 27)) (fun f27_525 f27_527 f27_529 f27_531 f27_533 h27_535 hb526 hb528 hb530 hb532 hb534 => ?_)
              refine xg_cVv mX2_take (vs := [(0, 1), (0, f42_16)]) (rest := []) (cn1 := 0) (sl1 := 0) rfl (ftTakeX1 (hI515) (by omega) (by rw [fld_eq (j := 3) (hw524.1 31 List.not_mem_nil)]; exact Nat.lt_of_not_le (fun z => hm519 (Or.inl z)))) rfl h27_535 rfl rfl rfl rfl rfl rfl (fun w536 hq537 => ?_)
              obtain ⟨hI538, hF539, hx540⟩ := hq537
              refine xg_t (xg_blq rfl) ?_
              refine xg_t (xg_const) ?_
              have l9541 : fld w536 28 9 = fld w 28 9 := fld_eq (j := 9) ((hF539.1 28 (by decide)).trans ((hF516.1 28 (by decide)).trans ((hF494.1 28 (by decide)).trans ((hF484.1 28 (by decide)).trans ((hF452.1 28 (by decide)).trans ((hb445.1 28 (by decide)).trans ((hb442.1 28 (by decide)).trans ((hF408.1 28 (by decide)).trans ((hb401.1 28 (by decide)).trans ((hb395.1 28 (by decide)).trans ((hF358.1 28 (by decide)).trans (hF33.1 28 (by decide)))))))))))))
              have he542 : lnP B nn (k + 1) = p_496 := by
                show (lnR B nn (lnP B nn k)).2 = _
                rw [← hp0, ln498]
              have hfl := flt_ok hsk mf1 mf2 (show lst0 1 ≤ vln B nn (lnP B nn k) 0 ∧ vln B nn (lnP B nn k) 0 ≤ grt0 1 from (show 0 ≤ vln B nn (lnP B nn k) 0 ∧ vln B nn (lnP B nn k) 0 ≤ 99 by omega)) (show lst1 1 ≤ vln B nn (lnP B nn k) 1 ∧ vln B nn (lnP B nn k) 1 ≤ grt1 1 from (show 1 ≤ vln B nn (lnP B nn k) 1 ∧ vln B nn (lnP B nn k) 1 ≤ 999 by omega)) (fun z => absurd z (by decide))
              have e1_ : ∀ c j, fld w513 c j = fld w491 c j := fun c j => fld_eq (hw524.1 c List.not_mem_nil)
              have e2_ : ∀ c, rwv w513 c = rwv w491 c := fun c => rwf_eq (hw524.1 c List.not_mem_nil)
              simp only [e1_, e2_] at hx540
              have hF544 := (hw524.up (fun _ h => absurd h List.not_mem_nil)).tr hF539
              have nv545 : ∀ t, t < 2 → rwv w491 39 t = vln B nn (lnP B nn k) t := fun t ht => by
                rcases (show t = 0 ∨ t = 1 by omega) with rfl | rfl
                · exact n504.trans vl510.symm
                · exact n505.trans vl511.symm
              obtain ⟨t1546, t2547, t3548⟩ := hx540
              have hC543 := CSTok1 hS h0_ hsk ((((((((((hF33.up (T := [27, 39, 40, 42]) (by decide)).tr (hF358.up (T := [27, 39, 40, 42]) (by decide))).tr (xFr.of (S := [27, 39, 40, 42]) hb395 (by decide))).tr (xFr.of (S := [27, 39, 40, 42]) hb401 (by decide))).tr (hF408.up (T := [27, 39, 40, 42]) (by decide))).tr (xFr.of (S := [27, 39, 40, 42]) hb442 (by decide))).tr (xFr.of (S := [27, 39, 40, 42]) hb445 (by decide))).tr (hF452.up (T := [27, 39, 40, 42]) (by decide))).tr (hF484.up (T := [27, 39, 40, 42]) (by decide))).tr (hF494.up (T := [27, 39, 40, 42]) (by decide))) d499 d500 d501 hfl hF544 t1546 t2547 (fun t ht => (t3548 t ht).trans (nv545 t ht))
              exact xg_e ⟨1, w536, ⟨rfl, rfl⟩, ⟨Or.inl ⟨rfl, by rw [ln498], by rw [he542]; exact (hx495.fr ((hF539.1 42 (by decide)).trans (hF516.1 42 (by decide)))), hC543⟩, l9541⟩, hI538, ((((((((((hF33.up (by decide)).tr (hF358.up (by decide))).tr ((xFr.of (S := [27, 28, 29, 30, 31, 32, 33, 34, 35, 36, 37, 38, 39, 40, 41, 42]) hb395 (by decide)).tr (xFr.of (S := [27, 28, 29, 30, 31, 32, 33, 34, 35, 36, 37, 38, 39, 40, 41, 42]) hb401 (by decide)))).tr (hF408.up (by decide))).tr ((xFr.of (S := [27, 28, 29, 30, 31, 32, 33, 34, 35, 36, 37, 38, 39, 40, 41, 42]) hb442 (by decide)).tr (xFr.of (S := [27, 28, 29, 30, 31, 32, 33, 34, 35, 36, 37, 38, 39, 40, 41, 42]) hb445 (by decide)))).tr (hF452.up (by decide))).tr (hF484.up (by decide))).tr (hF494.up (by decide))).tr (hF516.up (by decide))).tr (hF539.up (by decide)))⟩
            · have hfl := manyT1 hS h0_ hsk ((((((((((hF33.up (T := [27, 39, 40, 42]) (by decide)).tr (hF358.up (T := [27, 39, 40, 42]) (by decide))).tr (xFr.of (S := [27, 39, 40, 42]) hb395 (by decide))).tr (xFr.of (S := [27, 39, 40, 42]) hb401 (by decide))).tr (hF408.up (T := [27, 39, 40, 42]) (by decide))).tr (xFr.of (S := [27, 39, 40, 42]) hb442 (by decide))).tr (xFr.of (S := [27, 39, 40, 42]) hb445 (by decide))).tr (hF452.up (T := [27, 39, 40, 42]) (by decide))).tr (hF484.up (T := [27, 39, 40, 42]) (by decide))).tr (hF494.up (T := [27, 39, 40, 42]) (by decide))) d499 d500 (n504.trans vl510.symm) hm519
              refine xg_t (xg_ifT (u := 0) rfl xnm0 (by decide)) ?_
              refine xg_t (xg_blq rfl) ?_
              refine xg_t (xg_const) ?_
              have l9549 : fld w513 28 9 = fld w 28 9 := fld_eq (j := 9) ((hF516.1 28 (by decide)).trans ((hF494.1 28 (by decide)).trans ((hF484.1 28 (by decide)).trans ((hF452.1 28 (by decide)).trans ((hb445.1 28 (by decide)).trans ((hb442.1 28 (by decide)).trans ((hF408.1 28 (by decide)).trans ((hb401.1 28 (by decide)).trans ((hb395.1 28 (by decide)).trans ((hF358.1 28 (by decide)).trans (hF33.1 28 (by decide))))))))))))
              have he550 : lnP B nn (k + 1) = p_496 := by
                show (lnR B nn (lnP B nn k)).2 = _
                rw [← hp0, ln498]
              have hC551 := CST.bad h0_ hfl (by decide) e9522 (e10523.trans (by rw [← hp0]; omega))
              exact xg_e ⟨1, w513, ⟨rfl, rfl⟩, ⟨Or.inl ⟨rfl, by rw [ln498], by rw [he550]; exact (hx495.fr (hF516.1 42 (by decide))), hC551⟩, l9549⟩, hI515, (((((((((hF33.up (by decide)).tr (hF358.up (by decide))).tr ((xFr.of (S := [27, 28, 29, 30, 31, 32, 33, 34, 35, 36, 37, 38, 39, 40, 41, 42]) hb395 (by decide)).tr (xFr.of (S := [27, 28, 29, 30, 31, 32, 33, 34, 35, 36, 37, 38, 39, 40, 41, 42]) hb401 (by decide)))).tr (hF408.up (by decide))).tr ((xFr.of (S := [27, 28, 29, 30, 31, 32, 33, 34, 35, 36, 37, 38, 39, 40, 41, 42]) hb442 (by decide)).tr (xFr.of (S := [27, 28, 29, 30, 31, 32, 33, 34, 35, 36, 37, 38, 39, 40, 41, 42]) hb445 (by decide)))).tr (hF452.up (by decide))).tr (hF484.up (by decide))).tr (hF494.up (by decide))).tr (hF516.up (by decide)))⟩
            · obtain ⟨mf1, mf2⟩ := manyF1 hS h0_ hsk ((((((((((hF33.up (T := [27, 39, 40, 42]) (by decide)).tr (hF358.up (T := [27, 39, 40, 42]) (by decide))).tr (xFr.of (S := [27, 39, 40, 42]) hb395 (by decide))).tr (xFr.of (S := [27, 39, 40, 42]) hb401 (by decide))).tr (hF408.up (T := [27, 39, 40, 42]) (by decide))).tr (xFr.of (S := [27, 39, 40, 42]) hb442 (by decide))).tr (xFr.of (S := [27, 39, 40, 42]) hb445 (by decide))).tr (hF452.up (T := [27, 39, 40, 42]) (by decide))).tr (hF484.up (T := [27, 39, 40, 42]) (by decide))).tr (hF494.up (T := [27, 39, 40, 42]) (by decide))) d499 d500 (n504.trans vl510.symm) hm519
              have hfl := flt_0 hsk mf1 mf2 (show ¬ _ from fun z => hi520 (by have z : 0 ≤ _ ∧ _ ≤ 99 := z; omega))
              refine xg_t (xg_ifT (u := 0) rfl xnm0 (by decide)) ?_
              refine xg_t (xg_blq rfl) ?_
              refine xg_t (xg_const) ?_
              have l9552 : fld w513 28 9 = fld w 28 9 := fld_eq (j := 9) ((hF516.1 28 (by decide)).trans ((hF494.1 28 (by decide)).trans ((hF484.1 28 (by decide)).trans ((hF452.1 28 (by decide)).trans ((hb445.1 28 (by decide)).trans ((hb442.1 28 (by decide)).trans ((hF408.1 28 (by decide)).trans ((hb401.1 28 (by decide)).trans ((hb395.1 28 (by decide)).trans ((hF358.1 28 (by decide)).trans (hF33.1 28 (by decide))))))))))))
              have he553 : lnP B nn (k + 1) = p_496 := by
                show (lnR B nn (lnP B nn k)).2 = _
                rw [← hp0, ln498]
              have hC554 := CST.bad h0_ hfl (by decide) e9522 (e10523.trans (n506.trans (by rw [← hp0, vp508]; exact hw389)))
              exact xg_e ⟨1, w513, ⟨rfl, rfl⟩, ⟨Or.inl ⟨rfl, by rw [ln498], by rw [he553]; exact (hx495.fr (hF516.1 42 (by decide))), hC554⟩, l9552⟩, hI515, (((((((((hF33.up (by decide)).tr (hF358.up (by decide))).tr ((xFr.of (S := [27, 28, 29, 30, 31, 32, 33, 34, 35, 36, 37, 38, 39, 40, 41, 42]) hb395 (by decide)).tr (xFr.of (S := [27, 28, 29, 30, 31, 32, 33, 34, 35, 36, 37, 38, 39, 40, 41, 42]) hb401 (by decide)))).tr (hF408.up (by decide))).tr ((xFr.of (S := [27, 28, 29, 30, 31, 32, 33, 34, 35, 36, 37, 38, 39, 40, 41, 42]) hb442 (by decide)).tr (xFr.of (S := [27, 28, 29, 30, 31, 32, 33, 34, 35, 36, 37, 38, 39, 40, 41, 42]) hb445 (by decide)))).tr (hF452.up (by decide))).tr (hF484.up (by decide))).tr (hF494.up (by decide))).tr (hF516.up (by decide)))⟩
            · obtain ⟨mf1, mf2⟩ := manyF1 hS h0_ hsk ((((((((((hF33.up (T := [27, 39, 40, 42]) (by decide)).tr (hF358.up (T := [27, 39, 40, 42]) (by decide))).tr (xFr.of (S := [27, 39, 40, 42]) hb395 (by decide))).tr (xFr.of (S := [27, 39, 40, 42]) hb401 (by decide))).tr (hF408.up (T := [27, 39, 40, 42]) (by decide))).tr (xFr.of (S := [27, 39, 40, 42]) hb442 (by decide))).tr (xFr.of (S := [27, 39, 40, 42]) hb445 (by decide))).tr (hF452.up (T := [27, 39, 40, 42]) (by decide))).tr (hF484.up (T := [27, 39, 40, 42]) (by decide))).tr (hF494.up (T := [27, 39, 40, 42]) (by decide))) d499 d500 (n504.trans vl510.symm) hm519
              have hfl := flt_1 hsk mf1 mf2 (show lst0 1 ≤ vln B nn (lnP B nn k) 0 ∧ vln B nn (lnP B nn k) 0 ≤ grt0 1 from (show 0 ≤ vln B nn (lnP B nn k) 0 ∧ vln B nn (lnP B nn k) 0 ≤ 99 by omega)) (show ¬ _ from fun z => hi521 (by have z : 1 ≤ _ ∧ _ ≤ 999 := z; omega))
              refine xg_t (xg_ifT (u := 0) rfl xnm0 (by decide)) ?_
              refine xg_t (xg_blq rfl) ?_
              refine xg_t (xg_const) ?_
              have l9555 : fld w513 28 9 = fld w 28 9 := fld_eq (j := 9) ((hF516.1 28 (by decide)).trans ((hF494.1 28 (by decide)).trans ((hF484.1 28 (by decide)).trans ((hF452.1 28 (by decide)).trans ((hb445.1 28 (by decide)).trans ((hb442.1 28 (by decide)).trans ((hF408.1 28 (by decide)).trans ((hb401.1 28 (by decide)).trans ((hb395.1 28 (by decide)).trans ((hF358.1 28 (by decide)).trans (hF33.1 28 (by decide))))))))))))
              have he556 : lnP B nn (k + 1) = p_496 := by
                show (lnR B nn (lnP B nn k)).2 = _
                rw [← hp0, ln498]
              have hC557 := CST.bad h0_ hfl (by decide) e9522 (e10523.trans (n507.trans (by rw [← hp0, vp509]; exact hw439)))
              exact xg_e ⟨1, w513, ⟨rfl, rfl⟩, ⟨Or.inl ⟨rfl, by rw [ln498], by rw [he556]; exact (hx495.fr (hF516.1 42 (by decide))), hC557⟩, l9555⟩, hI515, (((((((((hF33.up (by decide)).tr (hF358.up (by decide))).tr ((xFr.of (S := [27, 28, 29, 30, 31, 32, 33, 34, 35, 36, 37, 38, 39, 40, 41, 42]) hb395 (by decide)).tr (xFr.of (S := [27, 28, 29, 30, 31, 32, 33, 34, 35, 36, 37, 38, 39, 40, 41, 42]) hb401 (by decide)))).tr (hF408.up (by decide))).tr ((xFr.of (S := [27, 28, 29, 30, 31, 32, 33, 34, 35, 36, 37, 38, 39, 40, 41, 42]) hb442 (by decide)).tr (xFr.of (S := [27, 28, 29, 30, 31, 32, 33, 34, 35, 36, 37, 38, 39, 40, 41, 42]) hb445 (by decide)))).tr (hF452.up (by decide))).tr (hF484.up (by decide))).tr (hF494.up (by decide))).tr (hF516.up (by decide)))⟩
          · refine xg_t (xg_ifT (u := f27_7) rfl xnm0 (xj_neT hc512)) ?_
            refine xg_t (xg_blq rfl) ?_
            refine xg_t (xg_const) ?_
            have l9558 : fld w491 28 9 = fld w 28 9 := fld_eq (j := 9) ((hF494.1 28 (by decide)).trans ((hF484.1 28 (by decide)).trans ((hF452.1 28 (by decide)).trans ((hb445.1 28 (by decide)).trans ((hb442.1 28 (by decide)).trans ((hF408.1 28 (by decide)).trans ((hb401.1 28 (by decide)).trans ((hb395.1 28 (by decide)).trans ((hF358.1 28 (by decide)).trans (hF33.1 28 (by decide)))))))))))
            have he559 : lnP B nn (k + 1) = p_496 := by
              show (lnR B nn (lnP B nn k)).2 = _
              rw [← hp0, ln498]
            have hC560 := hS.st (by omega) d501 d502
            exact xg_e ⟨1, w491, ⟨rfl, rfl⟩, ⟨Or.inl ⟨rfl, by rw [ln498], by rw [he559]; exact hx495, hC560⟩, l9558⟩, hI493, ((((((((hF33.up (by decide)).tr (hF358.up (by decide))).tr ((xFr.of (S := [27, 28, 29, 30, 31, 32, 33, 34, 35, 36, 37, 38, 39, 40, 41, 42]) hb395 (by decide)).tr (xFr.of (S := [27, 28, 29, 30, 31, 32, 33, 34, 35, 36, 37, 38, 39, 40, 41, 42]) hb401 (by decide)))).tr (hF408.up (by decide))).tr ((xFr.of (S := [27, 28, 29, 30, 31, 32, 33, 34, 35, 36, 37, 38, 39, 40, 41, 42]) hb442 (by decide)).tr (xFr.of (S := [27, 28, 29, 30, 31, 32, 33, 34, 35, 36, 37, 38, 39, 40, 41, 42]) hb445 (by decide)))).tr (hF452.up (by decide))).tr (hF484.up (by decide))).tr (hF494.up (by decide)))⟩
        · have lf561 : lnR B nn p0 = (false, p_454) := ln480.trans (lnS_n hsg487)
          refine xg_t (xg_ifF (u := 0) rfl xnm0 (by decide)) ?_
          refine xg_t (xg_const) ?_
          have l9562 : fld w481 28 9 = fld w 28 9 := fld_eq (j := 9) ((hF484.1 28 (by decide)).trans ((hF452.1 28 (by decide)).trans ((hb445.1 28 (by decide)).trans ((hb442.1 28 (by decide)).trans ((hF408.1 28 (by decide)).trans ((hb401.1 28 (by decide)).trans ((hb395.1 28 (by decide)).trans ((hF358.1 28 (by decide)).trans (hF33.1 28 (by decide))))))))))
          exact xg_e ⟨0, w481, ⟨rfl, rfl⟩, ⟨Or.inr ⟨rfl, by rw [lf561]; exact Bool.false_ne_true, by rw [lf561]; exact (hx453.fr (hF484.1 42 (by decide))).1.2.2.1⟩, l9562⟩, hI483, (((((((hF33.up (by decide)).tr (hF358.up (by decide))).tr ((xFr.of (S := [27, 28, 29, 30, 31, 32, 33, 34, 35, 36, 37, 38, 39, 40, 41, 42]) hb395 (by decide)).tr (xFr.of (S := [27, 28, 29, 30, 31, 32, 33, 34, 35, 36, 37, 38, 39, 40, 41, 42]) hb401 (by decide)))).tr (hF408.up (by decide))).tr ((xFr.of (S := [27, 28, 29, 30, 31, 32, 33, 34, 35, 36, 37, 38, 39, 40, 41, 42]) hb442 (by decide)).tr (xFr.of (S := [27, 28, 29, 30, 31, 32, 33, 34, 35, 36, 37, 38, 39, 40, 41, 42]) hb445 (by decide)))).tr (hF452.up (by decide))).tr (hF484.up (by decide)))⟩
      · refine xg_t (xg_icF (u := f42_421) (v := 2) rfl xnm0 xnm0 (xj_eqF hc436)) ?_
        have lf563 : lnR B nn p0 = (false, p_410) := ln412.trans (lnN_n (k := 0) (by omega))
        refine xg_t (xg_const) ?_
        have l9564 : fld w405 28 9 = fld w 28 9 := fld_eq (j := 9) ((hF408.1 28 (by decide)).trans ((hb401.1 28 (by decide)).trans ((hb395.1 28 (by decide)).trans ((hF358.1 28 (by decide)).trans (hF33.1 28 (by decide))))))
        exact xg_e ⟨0, w405, ⟨rfl, rfl⟩, ⟨Or.inr ⟨rfl, by rw [lf563]; exact Bool.false_ne_true, by rw [lf563]; exact hx409.1.2.2.1⟩, l9564⟩, hI407, ((((hF33.up (by decide)).tr (hF358.up (by decide))).tr ((xFr.of (S := [27, 28, 29, 30, 31, 32, 33, 34, 35, 36, 37, 38, 39, 40, 41, 42]) hb395 (by decide)).tr (xFr.of (S := [27, 28, 29, 30, 31, 32, 33, 34, 35, 36, 37, 38, 39, 40, 41, 42]) hb401 (by decide)))).tr (hF408.up (by decide)))⟩
    · refine xg_t (xg_icF (u := f42_371) (v := 2) rfl xnm0 xnm0 (xj_eqF hc386)) ?_
      have lf565 : lnR B nn p0 = (false, p_360) := ln362.trans (lnN_n (k := 1) (by omega))
      refine xg_t (xg_const) ?_
      have l9566 : fld w355 28 9 = fld w 28 9 := fld_eq (j := 9) ((hF358.1 28 (by decide)).trans (hF33.1 28 (by decide)))
      exact xg_e ⟨0, w355, ⟨rfl, rfl⟩, ⟨Or.inr ⟨rfl, by rw [lf565]; exact Bool.false_ne_true, by rw [lf565]; exact hx359.1.2.2.1⟩, l9566⟩, hI357, ((hF33.up (by decide)).tr (hF358.up (by decide)))⟩
  · have hsk : slt B nn (lnP B nn k) = 2 := by rw [← hp0]; exact hs
    refine xg_t (xg_istore (l1 := [(0, (2, 27))]) rfl rfl rfl) ?_
    refine xg_t (xg_aload (va := (2, 27)) rfl rfl) ?_
    refine xg_t (xg_getf (va := (2, 42)) (hF33.get (by decide) h27_11) rfl) ?_
    refine xg_t (xg_getf (va := (0, f42_16)) (hF33.get (by decide) h42_22) rfl) ?_
    refine xg_t (xg_istore (l1 := [(1, (0, 2)), (0, (2, 27))]) rfl rfl rfl) ?_
    refine xg_t (xg_iload (va := (0, 2)) rfl rfl) ?_
    refine xg_t (xg_const) ?_
    refine xg_t (xg_icT (u := 2) (v := 4294967295) rfl xnm0 xnm0 (by decide)) ?_
    refine xg_t (xg_blq rfl) ?_
    refine xg_t (xg_aload (va := (2, 27)) rfl rfl) ?_
    refine xg_t (xg_getf (va := (2, 42)) (hF33.get (by decide) h27_11) rfl) ?_
    obtain ⟨⟨ht567, -, -, ht568, ht569⟩, -⟩ := id (hT.fr (hF33.1 42 (by decide)))
    refine xg_cVv mX8_advance (vs := []) (rest := []) (cn1 := 0) (sl1 := 0) rfl (tkAdvX42 (hI32) (hB.fr (hF33.1 2 (by decide))) ht567 (by rw [ht568]; exact tf_le ht569)) rfl (hF33.get (by decide) h42_22) rfl rfl rfl rfl rfl rfl (fun w570 hq571 => ?_)
    obtain ⟨hI572, hF573, hx574⟩ := hq571
    rw [ht568] at hx574
    clear ht567 ht568 ht569
    obtain ⟨p_575, hp576⟩ : ∃ x, x = tf B nn p0 := ⟨_, rfl⟩
    rw [← hp576] at hx574
    have ln577 : lnR B nn p0 = lnN B nn 2 2 p_575 := by rw [hp576]; exact lnR_go hs (by decide)
    obtain ⟨⟨ht578, ht579, ht580, ht581, ht582⟩, ht583⟩ := id hx574
    refine xoC42 (xqc42 hI572 : cp42 (wget w570 42)) (fun f42_584 f42_586 f42_588 f42_590 f42_592 h42_594 hb585 hb587 hb589 hb591 hb593 hb595 => ?_)
    have hq596 : fld w570 42 1 = f42_584 := fld_of h42_594
    have hq597 : fld w570 42 2 = f42_586 := fld_of h42_594
    have hq598 : fld w570 42 3 = f42_588 := fld_of h42_594
    have hq599 : fld w570 42 4 = f42_590 := fld_of h42_594
    have hq600 : fld w570 42 5 = f42_592 := fld_of h42_594
    refine xg_t (xg_const) ?_
    refine xg_t (xg_istore (l1 := [(2, (0, f42_16)), (1, (0, 2)), (0, (2, 27))]) rfl rfl rfl) ?_
    refine xg_t (xg_blq rfl) ?_
    refine xg_t (xg_iload (va := (0, 0)) rfl rfl) ?_
    refine xg_t (xg_gets) ?_
    refine xg_t (xg_iload (va := (0, 2)) rfl rfl) ?_
    refine xg_t (xg_ald8L (n := 2) (u := 2) xnm0 rfl rfl) ?_
    refine xg_t (xg_icF (u := 0) (v := 2) rfl xnm0 xnm0 (by decide)) ?_
    refine xg_t (xg_iload (va := (0, 0)) rfl rfl) ?_
    refine xg_t (xg_const) ?_
    refine xg_t (xg_icF (u := 0) (v := 3) rfl xnm0 xnm0 (by decide)) ?_
    refine xg_t (xg_aload (va := (2, 27)) rfl rfl) ?_
    refine xg_t (xg_getf (va := (2, 42)) (hF573.get (by decide) (hF33.get (by decide) h27_11)) rfl) ?_
    refine xg_t (xg_getf (va := (0, f42_586)) h42_594 rfl) ?_
    refine xg_t (xg_const) ?_
    by_cases hc601 : f42_586 = 2
    · refine xg_t (xg_icT (u := f42_586) (v := 2) rfl xnm0 xnm0 (xj_eqT hc601)) ?_
      refine xg_t (xg_blq rfl) ?_
      have hk602 : tkd B nn p_575 = 2 := by omega
      have hv603 : f42_592 = tnu B nn p_575 := hq600.symm.trans (ht583 hk602)
      have hw604 : f42_588 = tq B nn p_575 := by omega
      refine xg_t (xg_aload (va := (2, 27)) rfl rfl) ?_
      refine xg_t (xg_getf (va := (2, 39)) (hF573.get (by decide) (hF33.get (by decide) h27_11)) rfl) ?_
      refine xg_t (xg_iload (va := (0, 0)) rfl rfl) ?_
      refine xg_t (xg_aload (va := (2, 27)) rfl rfl) ?_
      refine xg_t (xg_getf (va := (2, 42)) (hF573.get (by decide) (hF33.get (by decide) h27_11)) rfl) ?_
      refine xg_t (xg_getf (va := (0, f42_592)) h42_594 rfl) ?_
      refine xoI (xqc39 hI572 : cpI 3 18 4294967295 (wget w570 39)) (fun g39_605 h39_606 hb607 => ?_)
      refine xg_iastK (n := 0) (u := f42_592) h39_606 xnm0 xnm0 rfl (by first | decide | omega) (fun w608 hr609 hb610 => ?_)
      refine xg_t (xg_aload (va := (2, 27)) rfl rfl) ?_
      refine xg_t (xg_getf (va := (2, 40)) (hb610.get (by decide) (hF573.get (by decide) (hF33.get (by decide) h27_11))) rfl) ?_
      refine xg_t (xg_iload (va := (0, 0)) rfl rfl) ?_
      refine xg_t (xg_aload (va := (2, 27)) rfl rfl) ?_
      refine xg_t (xg_getf (va := (2, 42)) (hb610.get (by decide) (hF573.get (by decide) (hF33.get (by decide) h27_11))) rfl) ?_
      refine xg_t (xg_getf (va := (0, f42_588)) (hb610.get (by decide) h42_594) rfl) ?_
      refine xoI (xqc40 hI572 : cpI 3 19 4294967295 (wget w570 40)) (fun g40_611 h40_612 hb613 => ?_)
      refine xg_iastK (n := 0) (u := f42_588) (h40_612.but hb610 (by decide)) xnm0 xnm0 rfl (by first | decide | omega) (fun w614 hr615 hb616 => ?_)
      refine xg_t (xg_aload (va := (2, 27)) rfl rfl) ?_
      refine xg_t (xg_getf (va := (2, 42)) (hb616.get (by decide) (hb610.get (by decide) (hF573.get (by decide) (hF33.get (by decide) h27_11)))) rfl) ?_
      clear ht578 ht579 ht580 ht581 ht582 ht583 hq596 hq597 hq598 hq599 hq600
      obtain ⟨⟨ht617, -, -, ht618, ht619⟩, -⟩ := id (hx574.fr ((hb616.1 42 (by decide)).trans (hb610.1 42 (by decide))))
      refine xg_cVv mX8_advance (vs := []) (rest := []) (cn1 := 0) (sl1 := 0) rfl (tkAdvX42 (xInv.up (S := [39, 40]) hI572 ((xFr.of (S := [39, 40]) hb610 (by decide)).tr (xFr.of (S := [39, 40]) hb616 (by decide))) (List.forall_mem_cons.mpr ⟨xqu39 (show cpI 3 18 4294967295 (wget w614 39) from ⟨_, (hr609.but hb616 (by decide)), xrb (by omega) (hb607)⟩), List.forall_mem_cons.mpr ⟨xqu40 (show cpI 3 19 4294967295 (wget w614 40) from ⟨_, hr615, xrb (by omega) (hb613)⟩), fun _ h => absurd h List.not_mem_nil⟩⟩)) (hB.fr ((hb616.1 2 (by decide)).trans ((hb610.1 2 (by decide)).trans ((hF573.1 2 (by decide)).trans (hF33.1 2 (by decide)))))) ht617 (by rw [ht618]; exact tf_le ht619)) rfl (hb616.get (by decide) (hb610.get (by decide) h42_594)) rfl rfl rfl rfl rfl rfl (fun w620 hq621 => ?_)
      obtain ⟨hI622, hF623, hx624⟩ := hq621
      rw [ht618] at hx624
      clear ht617 ht618 ht619
      obtain ⟨p_625, hp626⟩ : ∃ x, x = tf B nn p_575 := ⟨_, rfl⟩
      rw [← hp626] at hx624
      have ln627 : lnR B nn p0 = lnN B nn 2 1 p_625 := by rw [hp626]; exact ln577.trans (lnN_y (k := 1) hk602)
      obtain ⟨⟨ht628, ht629, ht630, ht631, ht632⟩, ht633⟩ := id hx624
      refine xoC42 (xqc42 hI622 : cp42 (wget w620 42)) (fun f42_634 f42_636 f42_638 f42_640 f42_642 h42_644 hb635 hb637 hb639 hb641 hb643 hb645 => ?_)
      have hq646 : fld w620 42 1 = f42_634 := fld_of h42_644
      have hq647 : fld w620 42 2 = f42_636 := fld_of h42_644
      have hq648 : fld w620 42 3 = f42_638 := fld_of h42_644
      have hq649 : fld w620 42 4 = f42_640 := fld_of h42_644
      have hq650 : fld w620 42 5 = f42_642 := fld_of h42_644
      refine xg_t (xg_iinc (u := 0) (z := 1) (l1 := [(2, (0, f42_16)), (1, (0, 2)), (0, (2, 27))]) rfl rfl (by decide) rfl) ?_
      refine xg_t (xg_goto) ?_
      refine xg_t (xg_blq rfl) ?_
      refine xg_t (xg_iload (va := (0, 1)) rfl rfl) ?_
      refine xg_t (xg_gets) ?_
      refine xg_t (xg_iload (va := (0, 2)) rfl rfl) ?_
      refine xg_t (xg_ald8L (n := 2) (u := 2) xnm0 rfl rfl) ?_
      refine xg_t (xg_icF (u := 1) (v := 2) rfl xnm0 xnm0 (by decide)) ?_
      refine xg_t (xg_iload (va := (0, 1)) rfl rfl) ?_
      refine xg_t (xg_const) ?_
      refine xg_t (xg_icF (u := 1) (v := 3) rfl xnm0 xnm0 (by decide)) ?_
      refine xg_t (xg_aload (va := (2, 27)) rfl rfl) ?_
      refine xg_t (xg_getf (va := (2, 42)) (hF623.get (by decide) (hb616.get (by decide) (hb610.get (by decide) (hF573.get (by decide) (hF33.get (by decide) h27_11))))) rfl) ?_
      refine xg_t (xg_getf (va := (0, f42_636)) h42_644 rfl) ?_
      refine xg_t (xg_const) ?_
      by_cases hc651 : f42_636 = 2
      · refine xg_t (xg_icT (u := f42_636) (v := 2) rfl xnm0 xnm0 (xj_eqT hc651)) ?_
        refine xg_t (xg_blq rfl) ?_
        have hk652 : tkd B nn p_625 = 2 := by omega
        have hv653 : f42_642 = tnu B nn p_625 := hq650.symm.trans (ht633 hk652)
        have hw654 : f42_638 = tq B nn p_625 := by omega
        refine xg_t (xg_aload (va := (2, 27)) rfl rfl) ?_
        refine xg_t (xg_getf (va := (2, 39)) (hF623.get (by decide) (hb616.get (by decide) (hb610.get (by decide) (hF573.get (by decide) (hF33.get (by decide) h27_11))))) rfl) ?_
        refine xg_t (xg_iload (va := (0, 1)) rfl rfl) ?_
        refine xg_t (xg_aload (va := (2, 27)) rfl rfl) ?_
        refine xg_t (xg_getf (va := (2, 42)) (hF623.get (by decide) (hb616.get (by decide) (hb610.get (by decide) (hF573.get (by decide) (hF33.get (by decide) h27_11))))) rfl) ?_
        refine xg_t (xg_getf (va := (0, f42_642)) h42_644 rfl) ?_
        refine xg_iastK (n := 1) (u := f42_642) ((hr609.but hb616 (by decide)).fr hF623 (by decide)) xnm0 xnm0 rfl (by first | decide | omega) (fun w655 hr656 hb657 => ?_)
        refine xg_t (xg_aload (va := (2, 27)) rfl rfl) ?_
        refine xg_t (xg_getf (va := (2, 40)) (hb657.get (by decide) (hF623.get (by decide) (hb616.get (by decide) (hb610.get (by decide) (hF573.get (by decide) (hF33.get (by decide) h27_11)))))) rfl) ?_
        refine xg_t (xg_iload (va := (0, 1)) rfl rfl) ?_
        refine xg_t (xg_aload (va := (2, 27)) rfl rfl) ?_
        refine xg_t (xg_getf (va := (2, 42)) (hb657.get (by decide) (hF623.get (by decide) (hb616.get (by decide) (hb610.get (by decide) (hF573.get (by decide) (hF33.get (by decide) h27_11)))))) rfl) ?_
        refine xg_t (xg_getf (va := (0, f42_638)) (hb657.get (by decide) h42_644) rfl) ?_
        refine xg_iastK (n := 1) (u := f42_638) ((hr615.fr hF623 (by decide)).but hb657 (by decide)) xnm0 xnm0 rfl (by first | decide | omega) (fun w658 hr659 hb660 => ?_)
        refine xg_t (xg_aload (va := (2, 27)) rfl rfl) ?_
        refine xg_t (xg_getf (va := (2, 42)) (hb660.get (by decide) (hb657.get (by decide) (hF623.get (by decide) (hb616.get (by decide) (hb610.get (by decide) (hF573.get (by decide) (hF33.get (by decide) h27_11))))))) rfl) ?_
        clear ht628 ht629 ht630 ht631 ht632 ht633 hq646 hq647 hq648 hq649 hq650
        obtain ⟨⟨ht661, -, -, ht662, ht663⟩, -⟩ := id (hx624.fr ((hb660.1 42 (by decide)).trans (hb657.1 42 (by decide))))
        refine xg_cVv mX8_advance (vs := []) (rest := []) (cn1 := 0) (sl1 := 0) rfl (tkAdvX42 (xInv.up (S := [39, 40]) hI622 ((xFr.of (S := [39, 40]) hb657 (by decide)).tr (xFr.of (S := [39, 40]) hb660 (by decide))) (List.forall_mem_cons.mpr ⟨xqu39 (show cpI 3 18 4294967295 (wget w658 39) from ⟨_, (hr656.but hb660 (by decide)), xrb (by omega) (xrb (by omega) (hb607))⟩), List.forall_mem_cons.mpr ⟨xqu40 (show cpI 3 19 4294967295 (wget w658 40) from ⟨_, hr659, xrb (by omega) (xrb (by omega) (hb613))⟩), fun _ h => absurd h List.not_mem_nil⟩⟩)) (hB.fr ((hb660.1 2 (by decide)).trans ((hb657.1 2 (by decide)).trans ((hF623.1 2 (by decide)).trans ((hb616.1 2 (by decide)).trans ((hb610.1 2 (by decide)).trans ((hF573.1 2 (by decide)).trans (hF33.1 2 (by decide))))))))) ht661 (by rw [ht662]; exact tf_le ht663)) rfl (hb660.get (by decide) (hb657.get (by decide) h42_644)) rfl rfl rfl rfl rfl rfl (fun w664 hq665 => ?_)
        obtain ⟨hI666, hF667, hx668⟩ := hq665
        rw [ht662] at hx668
        clear ht661 ht662 ht663
        obtain ⟨p_669, hp670⟩ : ∃ x, x = tf B nn p_625 := ⟨_, rfl⟩
        rw [← hp670] at hx668
        have ln671 : lnR B nn p0 = lnN B nn 2 0 p_669 := by rw [hp670]; exact ln627.trans (lnN_y (k := 0) hk652)
        obtain ⟨⟨ht672, ht673, ht674, ht675, ht676⟩, ht677⟩ := id hx668
        refine xoC42 (xqc42 hI666 : cp42 (wget w664 42)) (fun f42_678 f42_680 f42_682 f42_684 f42_686 h42_688 hb679 hb681 hb683 hb685 hb687 hb689 => ?_)
        have hq690 : fld w664 42 1 = f42_678 := fld_of h42_688
        have hq691 : fld w664 42 2 = f42_680 := fld_of h42_688
        have hq692 : fld w664 42 3 = f42_682 := fld_of h42_688
        have hq693 : fld w664 42 4 = f42_684 := fld_of h42_688
        have hq694 : fld w664 42 5 = f42_686 := fld_of h42_688
        refine xg_t (xg_iinc (u := 1) (z := 2) (l1 := [(2, (0, f42_16)), (1, (0, 2)), (0, (2, 27))]) rfl rfl (by decide) rfl) ?_
        refine xg_t (xg_goto) ?_
        refine xg_t (xg_blq rfl) ?_
        refine xg_t (xg_iload (va := (0, 2)) rfl rfl) ?_
        refine xg_t (xg_gets) ?_
        refine xg_t (xg_iload (va := (0, 2)) rfl rfl) ?_
        refine xg_t (xg_ald8L (n := 2) (u := 2) xnm0 rfl rfl) ?_
        refine xg_t (xg_icT (u := 2) (v := 2) rfl xnm0 xnm0 (by decide)) ?_
        refine xg_t (xg_blq rfl) ?_
        refine xg_t (xg_iload (va := (0, 2)) rfl rfl) ?_
        refine xg_t (xg_ifT (u := 2) rfl xnm0 (by decide)) ?_
        refine xg_t (xg_blq rfl) ?_
        have ln695 : lnR B nn p0 = lnS B nn p_669 := ln671.trans (lnN_0 (by decide))
        refine xg_t (xg_aload (va := (2, 27)) rfl rfl) ?_
        refine xg_t (xg_getf (va := (2, 42)) (hF667.get (by decide) (hb660.get (by decide) (hb657.get (by decide) (hF623.get (by decide) (hb616.get (by decide) (hb610.get (by decide) (hF573.get (by decide) (hF33.get (by decide) h27_11)))))))) rfl) ?_
        refine xg_t (xg_bip) ?_
        refine xg_cVi mX8_isSign (vs := [(0, 59)]) (rest := []) (cn1 := 0) (sl1 := 0) rfl (tkSigX42 (hI666) (by omega) (hB.fr ((hF667.1 2 (by decide)).trans ((hb660.1 2 (by decide)).trans ((hb657.1 2 (by decide)).trans ((hF623.1 2 (by decide)).trans ((hb616.1 2 (by decide)).trans ((hb610.1 2 (by decide)).trans ((hF573.1 2 (by decide)).trans (hF33.1 2 (by decide)))))))))) hx668) rfl h42_688 rfl rfl rfl rfl rfl rfl (fun n700 w696 hq697 => ?_)
        obtain ⟨hn701, hI698, hF699⟩ := hq697
        rcases hn701 with ⟨rfl, hsg702⟩ | ⟨rfl, hsg702⟩
        · refine xg_t (xg_ifT (u := 1) rfl xnm0 (by decide)) ?_
          refine xg_t (xg_blq rfl) ?_
          refine xg_t (xg_aload (va := (2, 27)) rfl rfl) ?_
          refine xg_t (xg_getf (va := (2, 42)) (hF699.get (by decide) (hF667.get (by decide) (hb660.get (by decide) (hb657.get (by decide) (hF623.get (by decide) (hb616.get (by decide) (hb610.get (by decide) (hF573.get (by decide) (hF33.get (by decide) h27_11))))))))) rfl) ?_
          clear ht672 ht673 ht674 ht675 ht676 ht677 hq690 hq691 hq692 hq693 hq694
          obtain ⟨⟨ht703, -, -, ht704, ht705⟩, -⟩ := id (hx668.fr (hF699.1 42 (by decide)))
          refine xg_cVv mX8_advance (vs := []) (rest := []) (cn1 := 0) (sl1 := 0) rfl (tkAdvX42 (hI698) (hB.fr ((hF699.1 2 (by decide)).trans ((hF667.1 2 (by decide)).trans ((hb660.1 2 (by decide)).trans ((hb657.1 2 (by decide)).trans ((hF623.1 2 (by decide)).trans ((hb616.1 2 (by decide)).trans ((hb610.1 2 (by decide)).trans ((hF573.1 2 (by decide)).trans (hF33.1 2 (by decide))))))))))) ht703 (by rw [ht704]; exact tf_le ht705)) rfl (hF699.get (by decide) h42_688) rfl rfl rfl rfl rfl rfl (fun w706 hq707 => ?_)
          obtain ⟨hI708, hF709, hx710⟩ := hq707
          rw [ht704] at hx710
          clear ht703 ht704 ht705
          obtain ⟨p_711, hp712⟩ : ∃ x, x = tf B nn p_669 := ⟨_, rfl⟩
          rw [← hp712] at hx710
          have ln713 : lnR B nn p0 = (true, p_711) := by rw [hp712]; exact ln695.trans (lnS_y hsg702)
          have d714 : fld w706 27 7 = fld w 27 7 := (fld_eq (j := 7) ((hF709.1 27 (by decide)).trans ((hF699.1 27 (by decide)).trans ((hF667.1 27 (by decide)).trans ((hb660.1 27 (by decide)).trans ((hb657.1 27 (by decide)).trans ((hF623.1 27 (by decide)).trans ((hb616.1 27 (by decide)).trans ((hb610.1 27 (by decide)).trans ((hF573.1 27 (by decide)).trans (hF33.1 27 (by decide))))))))))))
          have d715 : fld w706 27 8 = fld w 27 8 := (fld_eq (j := 8) ((hF709.1 27 (by decide)).trans ((hF699.1 27 (by decide)).trans ((hF667.1 27 (by decide)).trans ((hb660.1 27 (by decide)).trans ((hb657.1 27 (by decide)).trans ((hF623.1 27 (by decide)).trans ((hb616.1 27 (by decide)).trans ((hb610.1 27 (by decide)).trans ((hF573.1 27 (by decide)).trans (hF33.1 27 (by decide))))))))))))
          have d716 : fld w706 27 9 = fld w 27 9 := (fld_eq (j := 9) ((hF709.1 27 (by decide)).trans ((hF699.1 27 (by decide)).trans ((hF667.1 27 (by decide)).trans ((hb660.1 27 (by decide)).trans ((hb657.1 27 (by decide)).trans ((hF623.1 27 (by decide)).trans ((hb616.1 27 (by decide)).trans ((hb610.1 27 (by decide)).trans ((hF573.1 27 (by decide)).trans (hF33.1 27 (by decide))))))))))))
          have d717 : fld w706 27 10 = fld w 27 10 := (fld_eq (j := 10) ((hF709.1 27 (by decide)).trans ((hF699.1 27 (by decide)).trans ((hF667.1 27 (by decide)).trans ((hb660.1 27 (by decide)).trans ((hb657.1 27 (by decide)).trans ((hF623.1 27 (by decide)).trans ((hb616.1 27 (by decide)).trans ((hb610.1 27 (by decide)).trans ((hF573.1 27 (by decide)).trans (hF33.1 27 (by decide))))))))))))
          have hS1 := hS.1
          have hq718 : fld w706 27 9 = f27_7 := fld_of (hF709.get (by decide) (hF699.get (by decide) (hF667.get (by decide) (hb660.get (by decide) (hb657.get (by decide) (hF623.get (by decide) (hb616.get (by decide) (hb610.get (by decide) (hF573.get (by decide) (hF33.get (by decide) h27_11))))))))))
          have n719 : rwv w706 39 0 = f42_592 := (rwv_of ((((hr656.but hb660 (by decide)).fr hF667 (by decide)).fr hF699 (by decide)).fr hF709 (by decide)) (by decide)).trans ((if_neg (by decide)).trans (if_pos rfl))
          have n720 : rwv w706 39 1 = f42_642 := (rwv_of ((((hr656.but hb660 (by decide)).fr hF667 (by decide)).fr hF699 (by decide)).fr hF709 (by decide)) (by decide)).trans (if_pos rfl)
          have n721 : rwv w706 40 0 = f42_588 := (rwv_of (((hr659.fr hF667 (by decide)).fr hF699 (by decide)).fr hF709 (by decide)) (by decide)).trans ((if_neg (by decide)).trans (if_pos rfl))
          have n722 : rwv w706 40 1 = f42_638 := (rwv_of (((hr659.fr hF667 (by decide)).fr hF699 (by decide)).fr hF709 (by decide)) (by decide)).trans (if_pos rfl)
          have vp723 : vlp B nn p0 0 = p_575 := hp576.symm
          have vp724 : vlp B nn p0 1 = p_625 := by show tf B nn (vlp B nn p0 0) = p_625; rw [vp723, hp626]
          have vl725 : vln B nn (lnP B nn k) 0 = f42_592 := by
            rw [← hp0]
            show (if (0 : Nat) = 3 then _ else tnu B nn (vlp B nn p0 0)) = _
            rw [if_neg (by decide), vp723]
            exact hv603.symm
          have vl726 : vln B nn (lnP B nn k) 1 = f42_642 := by
            rw [← hp0]
            show (if (1 : Nat) = 3 then _ else tnu B nn (vlp B nn p0 1)) = _
            rw [if_neg (by decide), vp724]
            exact hv653.symm
          refine xg_t (xg_aload (va := (2, 27)) rfl rfl) ?_
          refine xg_t (xg_getf (va := (0, f27_7)) (hF709.get (by decide) (hF699.get (by decide) (hF667.get (by decide) (hb660.get (by decide) (hb657.get (by decide) (hF623.get (by decide) (hb616.get (by decide) (hb610.get (by decide) (hF573.get (by decide) (hF33.get (by decide) h27_11)))))))))) rfl) ?_
          by_cases hc727 : f27_7 = 0
          · refine xg_t (xg_ifF (u := f27_7) rfl xnm0 (xj_neF hc727)) ?_
            refine xg_t (xg_aload (va := (2, 27)) rfl rfl) ?_
            refine xg_t (xg_iload (va := (0, 2)) rfl rfl) ?_
            refine xg_t (xg_iload (va := (0, f42_16)) rfl rfl) ?_
            refine xg_cVi mX2_isFine (vs := [(0, 2), (0, f42_16)]) (rest := []) (cn1 := 0) (sl1 := 0) rfl (ftFineX2 (hI708) (by omega)) rfl (hF709.get (by decide) (hF699.get (by decide) (hF667.get (by decide) (hb660.get (by decide) (hb657.get (by decide) (hF623.get (by decide) (hb616.get (by decide) (hb610.get (by decide) (hF573.get (by decide) (hF33.get (by decide) h27_11)))))))))) rfl rfl rfl rfl rfl rfl (fun n732 w728 hq729 => ?_)
            obtain ⟨hn733, hI730, hF731⟩ := hq729
            have h0_ : (flA B nn k).1 = 0 := by omega
            rcases hn733 with ⟨rfl, hm734, hi735, hi736, hw739⟩ | ⟨rfl, hm734, e9737, e10738⟩ | ⟨rfl, hm734, hi735, e9737, e10738⟩ | ⟨rfl, hm734, hi735, hi736, e9737, e10738⟩
            · obtain ⟨mf1, mf2⟩ := manyF2 hS h0_ hsk ((((((((((hF33.up (T := [27, 39, 40, 42]) (by decide)).tr (hF573.up (T := [27, 39, 40, 42]) (by decide))).tr (xFr.of (S := [27, 39, 40, 42]) hb610 (by decide))).tr (xFr.of (S := [27, 39, 40, 42]) hb616 (by decide))).tr (hF623.up (T := [27, 39, 40, 42]) (by decide))).tr (xFr.of (S := [27, 39, 40, 42]) hb657 (by decide))).tr (xFr.of (S := [27, 39, 40, 42]) hb660 (by decide))).tr (hF667.up (T := [27, 39, 40, 42]) (by decide))).tr (hF699.up (T := [27, 39, 40, 42]) (by decide))).tr (hF709.up (T := [27, 39, 40, 42]) (by decide))) d714 d715 hm734
              refine xg_t (xg_ifF (u := 1) rfl xnm0 (by decide)) ?_
              refine xg_t (xg_aload (va := (2, 27)) rfl rfl) ?_
              refine xg_t (xg_iload (va := (0, 2)) rfl rfl) ?_
              refine xg_t (xg_iload (va := (0, f42_16)) rfl rfl) ?_
              refine xoC27 (xqc27 hI730 : cp27 (wget w728 27)) (fun f27_740 f27_742 f27_744 f27_746 f27_748 h27_750 hb741 hb743 hb745 hb747 hb749 => ?_)
              refine xg_cVv mX2_take (vs := [(0, 2), (0, f42_16)]) (rest := []) (cn1 := 0) (sl1 := 0) rfl (ftTakeX2 (hI730) (by omega) (by rw [fld_eq (j := 3) (hw739.1 33 List.not_mem_nil)]; exact Nat.lt_of_not_le hm734)) rfl h27_750 rfl rfl rfl rfl rfl rfl (fun w751 hq752 => ?_)
              obtain ⟨hI753, hF754, hx755⟩ := hq752
              refine xg_t (xg_blq rfl) ?_
              refine xg_t (xg_const) ?_
              have l9756 : fld w751 28 9 = fld w 28 9 := fld_eq (j := 9) ((hF754.1 28 (by decide)).trans ((hF731.1 28 (by decide)).trans ((hF709.1 28 (by decide)).trans ((hF699.1 28 (by decide)).trans ((hF667.1 28 (by decide)).trans ((hb660.1 28 (by decide)).trans ((hb657.1 28 (by decide)).trans ((hF623.1 28 (by decide)).trans ((hb616.1 28 (by decide)).trans ((hb610.1 28 (by decide)).trans ((hF573.1 28 (by decide)).trans (hF33.1 28 (by decide)))))))))))))
              have he757 : lnP B nn (k + 1) = p_711 := by
                show (lnR B nn (lnP B nn k)).2 = _
                rw [← hp0, ln713]
              have hfl := flt_ok hsk mf1 mf2 (show lst0 2 ≤ vln B nn (lnP B nn k) 0 ∧ vln B nn (lnP B nn k) 0 ≤ grt0 2 from (show 1 ≤ vln B nn (lnP B nn k) 0 ∧ vln B nn (lnP B nn k) 0 ≤ 9999 by omega)) (show lst1 2 ≤ vln B nn (lnP B nn k) 1 ∧ vln B nn (lnP B nn k) 1 ≤ grt1 2 from (show 1 ≤ vln B nn (lnP B nn k) 1 ∧ vln B nn (lnP B nn k) 1 ≤ 9999 by omega)) (fun z => absurd z (by decide))
              have e1_ : ∀ c j, fld w728 c j = fld w706 c j := fun c j => fld_eq (hw739.1 c List.not_mem_nil)
              have e2_ : ∀ c, rwv w728 c = rwv w706 c := fun c => rwf_eq (hw739.1 c List.not_mem_nil)
              simp only [e1_, e2_] at hx755
              have hF759 := (hw739.up (fun _ h => absurd h List.not_mem_nil)).tr hF754
              have nv760 : ∀ t, t < 2 → rwv w706 39 t = vln B nn (lnP B nn k) t := fun t ht => by
                rcases (show t = 0 ∨ t = 1 by omega) with rfl | rfl
                · exact n719.trans vl725.symm
                · exact n720.trans vl726.symm
              obtain ⟨t1761, t2762, t3763⟩ := hx755
              have hC758 := CSTok2 hS h0_ hsk ((((((((((hF33.up (T := [27, 39, 40, 42]) (by decide)).tr (hF573.up (T := [27, 39, 40, 42]) (by decide))).tr (xFr.of (S := [27, 39, 40, 42]) hb610 (by decide))).tr (xFr.of (S := [27, 39, 40, 42]) hb616 (by decide))).tr (hF623.up (T := [27, 39, 40, 42]) (by decide))).tr (xFr.of (S := [27, 39, 40, 42]) hb657 (by decide))).tr (xFr.of (S := [27, 39, 40, 42]) hb660 (by decide))).tr (hF667.up (T := [27, 39, 40, 42]) (by decide))).tr (hF699.up (T := [27, 39, 40, 42]) (by decide))).tr (hF709.up (T := [27, 39, 40, 42]) (by decide))) d714 d715 d716 hfl hF759 t1761 t2762 (fun t ht => (t3763 t ht).trans (nv760 t ht))
              exact xg_e ⟨1, w751, ⟨rfl, rfl⟩, ⟨Or.inl ⟨rfl, by rw [ln713], by rw [he757]; exact (hx710.fr ((hF754.1 42 (by decide)).trans (hF731.1 42 (by decide)))), hC758⟩, l9756⟩, hI753, ((((((((((hF33.up (by decide)).tr (hF573.up (by decide))).tr ((xFr.of (S := [27, 28, 29, 30, 31, 32, 33, 34, 35, 36, 37, 38, 39, 40, 41, 42]) hb610 (by decide)).tr (xFr.of (S := [27, 28, 29, 30, 31, 32, 33, 34, 35, 36, 37, 38, 39, 40, 41, 42]) hb616 (by decide)))).tr (hF623.up (by decide))).tr ((xFr.of (S := [27, 28, 29, 30, 31, 32, 33, 34, 35, 36, 37, 38, 39, 40, 41, 42]) hb657 (by decide)).tr (xFr.of (S := [27, 28, 29, 30, 31, 32, 33, 34, 35, 36, 37, 38, 39, 40, 41, 42]) hb660 (by decide)))).tr (hF667.up (by decide))).tr (hF699.up (by decide))).tr (hF709.up (by decide))).tr (hF731.up (by decide))).tr (hF754.up (by decide)))⟩
            · have hfl := manyT2 hS h0_ hsk ((((((((((hF33.up (T := [27, 39, 40, 42]) (by decide)).tr (hF573.up (T := [27, 39, 40, 42]) (by decide))).tr (xFr.of (S := [27, 39, 40, 42]) hb610 (by decide))).tr (xFr.of (S := [27, 39, 40, 42]) hb616 (by decide))).tr (hF623.up (T := [27, 39, 40, 42]) (by decide))).tr (xFr.of (S := [27, 39, 40, 42]) hb657 (by decide))).tr (xFr.of (S := [27, 39, 40, 42]) hb660 (by decide))).tr (hF667.up (T := [27, 39, 40, 42]) (by decide))).tr (hF699.up (T := [27, 39, 40, 42]) (by decide))).tr (hF709.up (T := [27, 39, 40, 42]) (by decide))) d714 d715 hm734
              refine xg_t (xg_ifT (u := 0) rfl xnm0 (by decide)) ?_
              refine xg_t (xg_blq rfl) ?_
              refine xg_t (xg_const) ?_
              have l9764 : fld w728 28 9 = fld w 28 9 := fld_eq (j := 9) ((hF731.1 28 (by decide)).trans ((hF709.1 28 (by decide)).trans ((hF699.1 28 (by decide)).trans ((hF667.1 28 (by decide)).trans ((hb660.1 28 (by decide)).trans ((hb657.1 28 (by decide)).trans ((hF623.1 28 (by decide)).trans ((hb616.1 28 (by decide)).trans ((hb610.1 28 (by decide)).trans ((hF573.1 28 (by decide)).trans (hF33.1 28 (by decide))))))))))))
              have he765 : lnP B nn (k + 1) = p_711 := by
                show (lnR B nn (lnP B nn k)).2 = _
                rw [← hp0, ln713]
              have hC766 := CST.bad h0_ hfl (by decide) e9737 (e10738.trans (by rw [← hp0]; omega))
              exact xg_e ⟨1, w728, ⟨rfl, rfl⟩, ⟨Or.inl ⟨rfl, by rw [ln713], by rw [he765]; exact (hx710.fr (hF731.1 42 (by decide))), hC766⟩, l9764⟩, hI730, (((((((((hF33.up (by decide)).tr (hF573.up (by decide))).tr ((xFr.of (S := [27, 28, 29, 30, 31, 32, 33, 34, 35, 36, 37, 38, 39, 40, 41, 42]) hb610 (by decide)).tr (xFr.of (S := [27, 28, 29, 30, 31, 32, 33, 34, 35, 36, 37, 38, 39, 40, 41, 42]) hb616 (by decide)))).tr (hF623.up (by decide))).tr ((xFr.of (S := [27, 28, 29, 30, 31, 32, 33, 34, 35, 36, 37, 38, 39, 40, 41, 42]) hb657 (by decide)).tr (xFr.of (S := [27, 28, 29, 30, 31, 32, 33, 34, 35, 36, 37, 38, 39, 40, 41, 42]) hb660 (by decide)))).tr (hF667.up (by decide))).tr (hF699.up (by decide))).tr (hF709.up (by decide))).tr (hF731.up (by decide)))⟩
            · obtain ⟨mf1, mf2⟩ := manyF2 hS h0_ hsk ((((((((((hF33.up (T := [27, 39, 40, 42]) (by decide)).tr (hF573.up (T := [27, 39, 40, 42]) (by decide))).tr (xFr.of (S := [27, 39, 40, 42]) hb610 (by decide))).tr (xFr.of (S := [27, 39, 40, 42]) hb616 (by decide))).tr (hF623.up (T := [27, 39, 40, 42]) (by decide))).tr (xFr.of (S := [27, 39, 40, 42]) hb657 (by decide))).tr (xFr.of (S := [27, 39, 40, 42]) hb660 (by decide))).tr (hF667.up (T := [27, 39, 40, 42]) (by decide))).tr (hF699.up (T := [27, 39, 40, 42]) (by decide))).tr (hF709.up (T := [27, 39, 40, 42]) (by decide))) d714 d715 hm734
              have hfl := flt_0 hsk mf1 mf2 (show ¬ _ from fun z => hi735 (by have z : 1 ≤ _ ∧ _ ≤ 9999 := z; omega))
              refine xg_t (xg_ifT (u := 0) rfl xnm0 (by decide)) ?_
              refine xg_t (xg_blq rfl) ?_
              refine xg_t (xg_const) ?_
              have l9767 : fld w728 28 9 = fld w 28 9 := fld_eq (j := 9) ((hF731.1 28 (by decide)).trans ((hF709.1 28 (by decide)).trans ((hF699.1 28 (by decide)).trans ((hF667.1 28 (by decide)).trans ((hb660.1 28 (by decide)).trans ((hb657.1 28 (by decide)).trans ((hF623.1 28 (by decide)).trans ((hb616.1 28 (by decide)).trans ((hb610.1 28 (by decide)).trans ((hF573.1 28 (by decide)).trans (hF33.1 28 (by decide))))))))))))
              have he768 : lnP B nn (k + 1) = p_711 := by
                show (lnR B nn (lnP B nn k)).2 = _
                rw [← hp0, ln713]
              have hC769 := CST.bad h0_ hfl (by decide) e9737 (e10738.trans (n721.trans (by rw [← hp0, vp723]; exact hw604)))
              exact xg_e ⟨1, w728, ⟨rfl, rfl⟩, ⟨Or.inl ⟨rfl, by rw [ln713], by rw [he768]; exact (hx710.fr (hF731.1 42 (by decide))), hC769⟩, l9767⟩, hI730, (((((((((hF33.up (by decide)).tr (hF573.up (by decide))).tr ((xFr.of (S := [27, 28, 29, 30, 31, 32, 33, 34, 35, 36, 37, 38, 39, 40, 41, 42]) hb610 (by decide)).tr (xFr.of (S := [27, 28, 29, 30, 31, 32, 33, 34, 35, 36, 37, 38, 39, 40, 41, 42]) hb616 (by decide)))).tr (hF623.up (by decide))).tr ((xFr.of (S := [27, 28, 29, 30, 31, 32, 33, 34, 35, 36, 37, 38, 39, 40, 41, 42]) hb657 (by decide)).tr (xFr.of (S := [27, 28, 29, 30, 31, 32, 33, 34, 35, 36, 37, 38, 39, 40, 41, 42]) hb660 (by decide)))).tr (hF667.up (by decide))).tr (hF699.up (by decide))).tr (hF709.up (by decide))).tr (hF731.up (by decide)))⟩
            · obtain ⟨mf1, mf2⟩ := manyF2 hS h0_ hsk ((((((((((hF33.up (T := [27, 39, 40, 42]) (by decide)).tr (hF573.up (T := [27, 39, 40, 42]) (by decide))).tr (xFr.of (S := [27, 39, 40, 42]) hb610 (by decide))).tr (xFr.of (S := [27, 39, 40, 42]) hb616 (by decide))).tr (hF623.up (T := [27, 39, 40, 42]) (by decide))).tr (xFr.of (S := [27, 39, 40, 42]) hb657 (by decide))).tr (xFr.of (S := [27, 39, 40, 42]) hb660 (by decide))).tr (hF667.up (T := [27, 39, 40, 42]) (by decide))).tr (hF699.up (T := [27, 39, 40, 42]) (by decide))).tr (hF709.up (T := [27, 39, 40, 42]) (by decide))) d714 d715 hm734
              have hfl := flt_1 hsk mf1 mf2 (show lst0 2 ≤ vln B nn (lnP B nn k) 0 ∧ vln B nn (lnP B nn k) 0 ≤ grt0 2 from (show 1 ≤ vln B nn (lnP B nn k) 0 ∧ vln B nn (lnP B nn k) 0 ≤ 9999 by omega)) (show ¬ _ from fun z => hi736 (by have z : 1 ≤ _ ∧ _ ≤ 9999 := z; omega))
              refine xg_t (xg_ifT (u := 0) rfl xnm0 (by decide)) ?_
              refine xg_t (xg_blq rfl) ?_
              refine xg_t (xg_const) ?_
              have l9770 : fld w728 28 9 = fld w 28 9 := fld_eq (j := 9) ((hF731.1 28 (by decide)).trans ((hF709.1 28 (by decide)).trans ((hF699.1 28 (by decide)).trans ((hF667.1 28 (by decide)).trans ((hb660.1 28 (by decide)).trans ((hb657.1 28 (by decide)).trans ((hF623.1 28 (by decide)).trans ((hb616.1 28 (by decide)).trans ((hb610.1 28 (by decide)).trans ((hF573.1 28 (by decide)).trans (hF33.1 28 (by decide))))))))))))
              have he771 : lnP B nn (k + 1) = p_711 := by
                show (lnR B nn (lnP B nn k)).2 = _
                rw [← hp0, ln713]
              have hC772 := CST.bad h0_ hfl (by decide) e9737 (e10738.trans (n722.trans (by rw [← hp0, vp724]; exact hw654)))
              exact xg_e ⟨1, w728, ⟨rfl, rfl⟩, ⟨Or.inl ⟨rfl, by rw [ln713], by rw [he771]; exact (hx710.fr (hF731.1 42 (by decide))), hC772⟩, l9770⟩, hI730, (((((((((hF33.up (by decide)).tr (hF573.up (by decide))).tr ((xFr.of (S := [27, 28, 29, 30, 31, 32, 33, 34, 35, 36, 37, 38, 39, 40, 41, 42]) hb610 (by decide)).tr (xFr.of (S := [27, 28, 29, 30, 31, 32, 33, 34, 35, 36, 37, 38, 39, 40, 41, 42]) hb616 (by decide)))).tr (hF623.up (by decide))).tr ((xFr.of (S := [27, 28, 29, 30, 31, 32, 33, 34, 35, 36, 37, 38, 39, 40, 41, 42]) hb657 (by decide)).tr (xFr.of (S := [27, 28, 29, 30, 31, 32, 33, 34, 35, 36, 37, 38, 39, 40, 41, 42]) hb660 (by decide)))).tr (hF667.up (by decide))).tr (hF699.up (by decide))).tr (hF709.up (by decide))).tr (hF731.up (by decide)))⟩
          · refine xg_t (xg_ifT (u := f27_7) rfl xnm0 (xj_neT hc727)) ?_
            refine xg_t (xg_blq rfl) ?_
            refine xg_t (xg_const) ?_
            have l9773 : fld w706 28 9 = fld w 28 9 := fld_eq (j := 9) ((hF709.1 28 (by decide)).trans ((hF699.1 28 (by decide)).trans ((hF667.1 28 (by decide)).trans ((hb660.1 28 (by decide)).trans ((hb657.1 28 (by decide)).trans ((hF623.1 28 (by decide)).trans ((hb616.1 28 (by decide)).trans ((hb610.1 28 (by decide)).trans ((hF573.1 28 (by decide)).trans (hF33.1 28 (by decide)))))))))))
            have he774 : lnP B nn (k + 1) = p_711 := by
              show (lnR B nn (lnP B nn k)).2 = _
              rw [← hp0, ln713]
            have hC775 := hS.st (by omega) d716 d717
            exact xg_e ⟨1, w706, ⟨rfl, rfl⟩, ⟨Or.inl ⟨rfl, by rw [ln713], by rw [he774]; exact hx710, hC775⟩, l9773⟩, hI708, ((((((((hF33.up (by decide)).tr (hF573.up (by decide))).tr ((xFr.of (S := [27, 28, 29, 30, 31, 32, 33, 34, 35, 36, 37, 38, 39, 40, 41, 42]) hb610 (by decide)).tr (xFr.of (S := [27, 28, 29, 30, 31, 32, 33, 34, 35, 36, 37, 38, 39, 40, 41, 42]) hb616 (by decide)))).tr (hF623.up (by decide))).tr ((xFr.of (S := [27, 28, 29, 30, 31, 32, 33, 34, 35, 36, 37, 38, 39, 40, 41, 42]) hb657 (by decide)).tr (xFr.of (S := [27, 28, 29, 30, 31, 32, 33, 34, 35, 36, 37, 38, 39, 40, 41, 42]) hb660 (by decide)))).tr (hF667.up (by decide))).tr (hF699.up (by decide))).tr (hF709.up (by decide)))⟩
        · have lf776 : lnR B nn p0 = (false, p_669) := ln695.trans (lnS_n hsg702)
          refine xg_t (xg_ifF (u := 0) rfl xnm0 (by decide)) ?_
          refine xg_t (xg_const) ?_
          have l9777 : fld w696 28 9 = fld w 28 9 := fld_eq (j := 9) ((hF699.1 28 (by decide)).trans ((hF667.1 28 (by decide)).trans ((hb660.1 28 (by decide)).trans ((hb657.1 28 (by decide)).trans ((hF623.1 28 (by decide)).trans ((hb616.1 28 (by decide)).trans ((hb610.1 28 (by decide)).trans ((hF573.1 28 (by decide)).trans (hF33.1 28 (by decide))))))))))
          exact xg_e ⟨0, w696, ⟨rfl, rfl⟩, ⟨Or.inr ⟨rfl, by rw [lf776]; exact Bool.false_ne_true, by rw [lf776]; exact (hx668.fr (hF699.1 42 (by decide))).1.2.2.1⟩, l9777⟩, hI698, (((((((hF33.up (by decide)).tr (hF573.up (by decide))).tr ((xFr.of (S := [27, 28, 29, 30, 31, 32, 33, 34, 35, 36, 37, 38, 39, 40, 41, 42]) hb610 (by decide)).tr (xFr.of (S := [27, 28, 29, 30, 31, 32, 33, 34, 35, 36, 37, 38, 39, 40, 41, 42]) hb616 (by decide)))).tr (hF623.up (by decide))).tr ((xFr.of (S := [27, 28, 29, 30, 31, 32, 33, 34, 35, 36, 37, 38, 39, 40, 41, 42]) hb657 (by decide)).tr (xFr.of (S := [27, 28, 29, 30, 31, 32, 33, 34, 35, 36, 37, 38, 39, 40, 41, 42]) hb660 (by decide)))).tr (hF667.up (by decide))).tr (hF699.up (by decide)))⟩
      · refine xg_t (xg_icF (u := f42_636) (v := 2) rfl xnm0 xnm0 (xj_eqF hc651)) ?_
        have lf778 : lnR B nn p0 = (false, p_625) := ln627.trans (lnN_n (k := 0) (by omega))
        refine xg_t (xg_const) ?_
        have l9779 : fld w620 28 9 = fld w 28 9 := fld_eq (j := 9) ((hF623.1 28 (by decide)).trans ((hb616.1 28 (by decide)).trans ((hb610.1 28 (by decide)).trans ((hF573.1 28 (by decide)).trans (hF33.1 28 (by decide))))))
        exact xg_e ⟨0, w620, ⟨rfl, rfl⟩, ⟨Or.inr ⟨rfl, by rw [lf778]; exact Bool.false_ne_true, by rw [lf778]; exact hx624.1.2.2.1⟩, l9779⟩, hI622, ((((hF33.up (by decide)).tr (hF573.up (by decide))).tr ((xFr.of (S := [27, 28, 29, 30, 31, 32, 33, 34, 35, 36, 37, 38, 39, 40, 41, 42]) hb610 (by decide)).tr (xFr.of (S := [27, 28, 29, 30, 31, 32, 33, 34, 35, 36, 37, 38, 39, 40, 41, 42]) hb616 (by decide)))).tr (hF623.up (by decide)))⟩
    · refine xg_t (xg_icF (u := f42_586) (v := 2) rfl xnm0 xnm0 (xj_eqF hc601)) ?_
      have lf780 : lnR B nn p0 = (false, p_575) := ln577.trans (lnN_n (k := 1) (by omega))
      refine xg_t (xg_const) ?_
      have l9781 : fld w570 28 9 = fld w 28 9 := fld_eq (j := 9) ((hF573.1 28 (by decide)).trans (hF33.1 28 (by decide)))
      exact xg_e ⟨0, w570, ⟨rfl, rfl⟩, ⟨Or.inr ⟨rfl, by rw [lf780]; exact Bool.false_ne_true, by rw [lf780]; exact hx574.1.2.2.1⟩, l9781⟩, hI572, ((hF33.up (by decide)).tr (hF573.up (by decide)))⟩
  · have hsk : slt B nn (lnP B nn k) = 3 := by rw [← hp0]; exact hs
    refine xg_t (xg_istore (l1 := [(0, (2, 27))]) rfl rfl rfl) ?_
    refine xg_t (xg_aload (va := (2, 27)) rfl rfl) ?_
    refine xg_t (xg_getf (va := (2, 42)) (hF33.get (by decide) h27_11) rfl) ?_
    refine xg_t (xg_getf (va := (0, f42_16)) (hF33.get (by decide) h42_22) rfl) ?_
    refine xg_t (xg_istore (l1 := [(1, (0, 3)), (0, (2, 27))]) rfl rfl rfl) ?_
    refine xg_t (xg_iload (va := (0, 3)) rfl rfl) ?_
    refine xg_t (xg_const) ?_
    refine xg_t (xg_icT (u := 3) (v := 4294967295) rfl xnm0 xnm0 (by decide)) ?_
    refine xg_t (xg_blq rfl) ?_
    refine xg_t (xg_aload (va := (2, 27)) rfl rfl) ?_
    refine xg_t (xg_getf (va := (2, 42)) (hF33.get (by decide) h27_11) rfl) ?_
    obtain ⟨⟨ht782, -, -, ht783, ht784⟩, -⟩ := id (hT.fr (hF33.1 42 (by decide)))
    refine xg_cVv mX8_advance (vs := []) (rest := []) (cn1 := 0) (sl1 := 0) rfl (tkAdvX42 (hI32) (hB.fr (hF33.1 2 (by decide))) ht782 (by rw [ht783]; exact tf_le ht784)) rfl (hF33.get (by decide) h42_22) rfl rfl rfl rfl rfl rfl (fun w785 hq786 => ?_)
    obtain ⟨hI787, hF788, hx789⟩ := hq786
    rw [ht783] at hx789
    clear ht782 ht783 ht784
    obtain ⟨p_790, hp791⟩ : ∃ x, x = tf B nn p0 := ⟨_, rfl⟩
    rw [← hp791] at hx789
    have ln792 : lnR B nn p0 = lnN B nn 3 3 p_790 := by rw [hp791]; exact lnR_go hs (by decide)
    obtain ⟨⟨ht793, ht794, ht795, ht796, ht797⟩, ht798⟩ := id hx789
    refine xoC42 (xqc42 hI787 : cp42 (wget w785 42)) (fun f42_799 f42_801 f42_803 f42_805 f42_807 h42_809 hb800 hb802 hb804 hb806 hb808 hb810 => ?_)
    have hq811 : fld w785 42 1 = f42_799 := fld_of h42_809
    have hq812 : fld w785 42 2 = f42_801 := fld_of h42_809
    have hq813 : fld w785 42 3 = f42_803 := fld_of h42_809
    have hq814 : fld w785 42 4 = f42_805 := fld_of h42_809
    have hq815 : fld w785 42 5 = f42_807 := fld_of h42_809
    refine xg_t (xg_const) ?_
    refine xg_t (xg_istore (l1 := [(2, (0, f42_16)), (1, (0, 3)), (0, (2, 27))]) rfl rfl rfl) ?_
    refine xg_t (xg_blq rfl) ?_
    refine xg_t (xg_iload (va := (0, 0)) rfl rfl) ?_
    refine xg_t (xg_gets) ?_
    refine xg_t (xg_iload (va := (0, 3)) rfl rfl) ?_
    refine xg_t (xg_ald8L (n := 3) (u := 3) xnm0 rfl rfl) ?_
    refine xg_t (xg_icF (u := 0) (v := 3) rfl xnm0 xnm0 (by decide)) ?_
    refine xg_t (xg_iload (va := (0, 0)) rfl rfl) ?_
    refine xg_t (xg_const) ?_
    refine xg_t (xg_icF (u := 0) (v := 3) rfl xnm0 xnm0 (by decide)) ?_
    refine xg_t (xg_aload (va := (2, 27)) rfl rfl) ?_
    refine xg_t (xg_getf (va := (2, 42)) (hF788.get (by decide) (hF33.get (by decide) h27_11)) rfl) ?_
    refine xg_t (xg_getf (va := (0, f42_801)) h42_809 rfl) ?_
    refine xg_t (xg_const) ?_
    by_cases hc816 : f42_801 = 2
    · refine xg_t (xg_icT (u := f42_801) (v := 2) rfl xnm0 xnm0 (xj_eqT hc816)) ?_
      refine xg_t (xg_blq rfl) ?_
      have hk817 : tkd B nn p_790 = 2 := by omega
      have hv818 : f42_807 = tnu B nn p_790 := hq815.symm.trans (ht798 hk817)
      have hw819 : f42_803 = tq B nn p_790 := by omega
      refine xg_t (xg_aload (va := (2, 27)) rfl rfl) ?_
      refine xg_t (xg_getf (va := (2, 39)) (hF788.get (by decide) (hF33.get (by decide) h27_11)) rfl) ?_
      refine xg_t (xg_iload (va := (0, 0)) rfl rfl) ?_
      refine xg_t (xg_aload (va := (2, 27)) rfl rfl) ?_
      refine xg_t (xg_getf (va := (2, 42)) (hF788.get (by decide) (hF33.get (by decide) h27_11)) rfl) ?_
      refine xg_t (xg_getf (va := (0, f42_807)) h42_809 rfl) ?_
      refine xoI (xqc39 hI787 : cpI 3 18 4294967295 (wget w785 39)) (fun g39_820 h39_821 hb822 => ?_)
      refine xg_iastK (n := 0) (u := f42_807) h39_821 xnm0 xnm0 rfl (by first | decide | omega) (fun w823 hr824 hb825 => ?_)
      refine xg_t (xg_aload (va := (2, 27)) rfl rfl) ?_
      refine xg_t (xg_getf (va := (2, 40)) (hb825.get (by decide) (hF788.get (by decide) (hF33.get (by decide) h27_11))) rfl) ?_
      refine xg_t (xg_iload (va := (0, 0)) rfl rfl) ?_
      refine xg_t (xg_aload (va := (2, 27)) rfl rfl) ?_
      refine xg_t (xg_getf (va := (2, 42)) (hb825.get (by decide) (hF788.get (by decide) (hF33.get (by decide) h27_11))) rfl) ?_
      refine xg_t (xg_getf (va := (0, f42_803)) (hb825.get (by decide) h42_809) rfl) ?_
      refine xoI (xqc40 hI787 : cpI 3 19 4294967295 (wget w785 40)) (fun g40_826 h40_827 hb828 => ?_)
      refine xg_iastK (n := 0) (u := f42_803) (h40_827.but hb825 (by decide)) xnm0 xnm0 rfl (by first | decide | omega) (fun w829 hr830 hb831 => ?_)
      refine xg_t (xg_aload (va := (2, 27)) rfl rfl) ?_
      refine xg_t (xg_getf (va := (2, 42)) (hb831.get (by decide) (hb825.get (by decide) (hF788.get (by decide) (hF33.get (by decide) h27_11)))) rfl) ?_
      clear ht793 ht794 ht795 ht796 ht797 ht798 hq811 hq812 hq813 hq814 hq815
      obtain ⟨⟨ht832, -, -, ht833, ht834⟩, -⟩ := id (hx789.fr ((hb831.1 42 (by decide)).trans (hb825.1 42 (by decide))))
      refine xg_cVv mX8_advance (vs := []) (rest := []) (cn1 := 0) (sl1 := 0) rfl (tkAdvX42 (xInv.up (S := [39, 40]) hI787 ((xFr.of (S := [39, 40]) hb825 (by decide)).tr (xFr.of (S := [39, 40]) hb831 (by decide))) (List.forall_mem_cons.mpr ⟨xqu39 (show cpI 3 18 4294967295 (wget w829 39) from ⟨_, (hr824.but hb831 (by decide)), xrb (by omega) (hb822)⟩), List.forall_mem_cons.mpr ⟨xqu40 (show cpI 3 19 4294967295 (wget w829 40) from ⟨_, hr830, xrb (by omega) (hb828)⟩), fun _ h => absurd h List.not_mem_nil⟩⟩)) (hB.fr ((hb831.1 2 (by decide)).trans ((hb825.1 2 (by decide)).trans ((hF788.1 2 (by decide)).trans (hF33.1 2 (by decide)))))) ht832 (by rw [ht833]; exact tf_le ht834)) rfl (hb831.get (by decide) (hb825.get (by decide) h42_809)) rfl rfl rfl rfl rfl rfl (fun w835 hq836 => ?_)
      obtain ⟨hI837, hF838, hx839⟩ := hq836
      rw [ht833] at hx839
      clear ht832 ht833 ht834
      obtain ⟨p_840, hp841⟩ : ∃ x, x = tf B nn p_790 := ⟨_, rfl⟩
      rw [← hp841] at hx839
      have ln842 : lnR B nn p0 = lnN B nn 3 2 p_840 := by rw [hp841]; exact ln792.trans (lnN_y (k := 2) hk817)
      obtain ⟨⟨ht843, ht844, ht845, ht846, ht847⟩, ht848⟩ := id hx839
      refine xoC42 (xqc42 hI837 : cp42 (wget w835 42)) (fun f42_849 f42_851 f42_853 f42_855 f42_857 h42_859 hb850 hb852 hb854 hb856 hb858 hb860 => ?_)
      have hq861 : fld w835 42 1 = f42_849 := fld_of h42_859
      have hq862 : fld w835 42 2 = f42_851 := fld_of h42_859
      have hq863 : fld w835 42 3 = f42_853 := fld_of h42_859
      have hq864 : fld w835 42 4 = f42_855 := fld_of h42_859
      have hq865 : fld w835 42 5 = f42_857 := fld_of h42_859
      refine xg_t (xg_iinc (u := 0) (z := 1) (l1 := [(2, (0, f42_16)), (1, (0, 3)), (0, (2, 27))]) rfl rfl (by decide) rfl) ?_
      refine xg_t (xg_goto) ?_
      refine xg_t (xg_blq rfl) ?_
      refine xg_t (xg_iload (va := (0, 1)) rfl rfl) ?_
      refine xg_t (xg_gets) ?_
      refine xg_t (xg_iload (va := (0, 3)) rfl rfl) ?_
      refine xg_t (xg_ald8L (n := 3) (u := 3) xnm0 rfl rfl) ?_
      refine xg_t (xg_icF (u := 1) (v := 3) rfl xnm0 xnm0 (by decide)) ?_
      refine xg_t (xg_iload (va := (0, 1)) rfl rfl) ?_
      refine xg_t (xg_const) ?_
      refine xg_t (xg_icF (u := 1) (v := 3) rfl xnm0 xnm0 (by decide)) ?_
      refine xg_t (xg_aload (va := (2, 27)) rfl rfl) ?_
      refine xg_t (xg_getf (va := (2, 42)) (hF838.get (by decide) (hb831.get (by decide) (hb825.get (by decide) (hF788.get (by decide) (hF33.get (by decide) h27_11))))) rfl) ?_
      refine xg_t (xg_getf (va := (0, f42_851)) h42_859 rfl) ?_
      refine xg_t (xg_const) ?_
      by_cases hc866 : f42_851 = 2
      · refine xg_t (xg_icT (u := f42_851) (v := 2) rfl xnm0 xnm0 (xj_eqT hc866)) ?_
        refine xg_t (xg_blq rfl) ?_
        have hk867 : tkd B nn p_840 = 2 := by omega
        have hv868 : f42_857 = tnu B nn p_840 := hq865.symm.trans (ht848 hk867)
        have hw869 : f42_853 = tq B nn p_840 := by omega
        refine xg_t (xg_aload (va := (2, 27)) rfl rfl) ?_
        refine xg_t (xg_getf (va := (2, 39)) (hF838.get (by decide) (hb831.get (by decide) (hb825.get (by decide) (hF788.get (by decide) (hF33.get (by decide) h27_11))))) rfl) ?_
        refine xg_t (xg_iload (va := (0, 1)) rfl rfl) ?_
        refine xg_t (xg_aload (va := (2, 27)) rfl rfl) ?_
        refine xg_t (xg_getf (va := (2, 42)) (hF838.get (by decide) (hb831.get (by decide) (hb825.get (by decide) (hF788.get (by decide) (hF33.get (by decide) h27_11))))) rfl) ?_
        refine xg_t (xg_getf (va := (0, f42_857)) h42_859 rfl) ?_
        refine xg_iastK (n := 1) (u := f42_857) ((hr824.but hb831 (by decide)).fr hF838 (by decide)) xnm0 xnm0 rfl (by first | decide | omega) (fun w870 hr871 hb872 => ?_)
        refine xg_t (xg_aload (va := (2, 27)) rfl rfl) ?_
        refine xg_t (xg_getf (va := (2, 40)) (hb872.get (by decide) (hF838.get (by decide) (hb831.get (by decide) (hb825.get (by decide) (hF788.get (by decide) (hF33.get (by decide) h27_11)))))) rfl) ?_
        refine xg_t (xg_iload (va := (0, 1)) rfl rfl) ?_
        refine xg_t (xg_aload (va := (2, 27)) rfl rfl) ?_
        refine xg_t (xg_getf (va := (2, 42)) (hb872.get (by decide) (hF838.get (by decide) (hb831.get (by decide) (hb825.get (by decide) (hF788.get (by decide) (hF33.get (by decide) h27_11)))))) rfl) ?_
        refine xg_t (xg_getf (va := (0, f42_853)) (hb872.get (by decide) h42_859) rfl) ?_
        refine xg_iastK (n := 1) (u := f42_853) ((hr830.fr hF838 (by decide)).but hb872 (by decide)) xnm0 xnm0 rfl (by first | decide | omega) (fun w873 hr874 hb875 => ?_)
        refine xg_t (xg_aload (va := (2, 27)) rfl rfl) ?_
        refine xg_t (xg_getf (va := (2, 42)) (hb875.get (by decide) (hb872.get (by decide) (hF838.get (by decide) (hb831.get (by decide) (hb825.get (by decide) (hF788.get (by decide) (hF33.get (by decide) h27_11))))))) rfl) ?_
        clear ht843 ht844 ht845 ht846 ht847 ht848 hq861 hq862 hq863 hq864 hq865
        obtain ⟨⟨ht876, -, -, ht877, ht878⟩, -⟩ := id (hx839.fr ((hb875.1 42 (by decide)).trans (hb872.1 42 (by decide))))
        refine xg_cVv mX8_advance (vs := []) (rest := []) (cn1 := 0) (sl1 := 0) rfl (tkAdvX42 (xInv.up (S := [39, 40]) hI837 ((xFr.of (S := [39, 40]) hb872 (by decide)).tr (xFr.of (S := [39, 40]) hb875 (by decide))) (List.forall_mem_cons.mpr ⟨xqu39 (show cpI 3 18 4294967295 (wget w873 39) from ⟨_, (hr871.but hb875 (by decide)), xrb (by omega) (xrb (by omega) (hb822))⟩), List.forall_mem_cons.mpr ⟨xqu40 (show cpI 3 19 4294967295 (wget w873 40) from ⟨_, hr874, xrb (by omega) (xrb (by omega) (hb828))⟩), fun _ h => absurd h List.not_mem_nil⟩⟩)) (hB.fr ((hb875.1 2 (by decide)).trans ((hb872.1 2 (by decide)).trans ((hF838.1 2 (by decide)).trans ((hb831.1 2 (by decide)).trans ((hb825.1 2 (by decide)).trans ((hF788.1 2 (by decide)).trans (hF33.1 2 (by decide))))))))) ht876 (by rw [ht877]; exact tf_le ht878)) rfl (hb875.get (by decide) (hb872.get (by decide) h42_859)) rfl rfl rfl rfl rfl rfl (fun w879 hq880 => ?_)
        obtain ⟨hI881, hF882, hx883⟩ := hq880
        rw [ht877] at hx883
        clear ht876 ht877 ht878
        obtain ⟨p_884, hp885⟩ : ∃ x, x = tf B nn p_840 := ⟨_, rfl⟩
        rw [← hp885] at hx883
        have ln886 : lnR B nn p0 = lnN B nn 3 1 p_884 := by rw [hp885]; exact ln842.trans (lnN_y (k := 1) hk867)
        obtain ⟨⟨ht887, ht888, ht889, ht890, ht891⟩, ht892⟩ := id hx883
        refine xoC42 (xqc42 hI881 : cp42 (wget w879 42)) (fun f42_893 f42_895 f42_897 f42_899 f42_901 h42_903 hb894 hb896 hb898 hb900 hb902 hb904 => ?_)
        have hq905 : fld w879 42 1 = f42_893 := fld_of h42_903
        have hq906 : fld w879 42 2 = f42_895 := fld_of h42_903
        have hq907 : fld w879 42 3 = f42_897 := fld_of h42_903
        have hq908 : fld w879 42 4 = f42_899 := fld_of h42_903
        have hq909 : fld w879 42 5 = f42_901 := fld_of h42_903
        refine xg_t (xg_iinc (u := 1) (z := 2) (l1 := [(2, (0, f42_16)), (1, (0, 3)), (0, (2, 27))]) rfl rfl (by decide) rfl) ?_
        refine xg_t (xg_goto) ?_
        refine xg_t (xg_blq rfl) ?_
        refine xg_t (xg_iload (va := (0, 2)) rfl rfl) ?_
        refine xg_t (xg_gets) ?_
        refine xg_t (xg_iload (va := (0, 3)) rfl rfl) ?_
        refine xg_t (xg_ald8L (n := 3) (u := 3) xnm0 rfl rfl) ?_
        refine xg_t (xg_icF (u := 2) (v := 3) rfl xnm0 xnm0 (by decide)) ?_
        refine xg_t (xg_iload (va := (0, 2)) rfl rfl) ?_
        refine xg_t (xg_const) ?_
        refine xg_t (xg_icF (u := 2) (v := 3) rfl xnm0 xnm0 (by decide)) ?_
        refine xg_t (xg_aload (va := (2, 27)) rfl rfl) ?_
        refine xg_t (xg_getf (va := (2, 42)) (hF882.get (by decide) (hb875.get (by decide) (hb872.get (by decide) (hF838.get (by decide) (hb831.get (by decide) (hb825.get (by decide) (hF788.get (by decide) (hF33.get (by decide) h27_11)))))))) rfl) ?_
        refine xg_t (xg_getf (va := (0, f42_895)) h42_903 rfl) ?_
        refine xg_t (xg_const) ?_
        by_cases hc910 : f42_895 = 2
        · refine xg_t (xg_icT (u := f42_895) (v := 2) rfl xnm0 xnm0 (xj_eqT hc910)) ?_
          refine xg_t (xg_blq rfl) ?_
          have hk911 : tkd B nn p_884 = 2 := by omega
          have hv912 : f42_901 = tnu B nn p_884 := hq909.symm.trans (ht892 hk911)
          have hw913 : f42_897 = tq B nn p_884 := by omega
          refine xg_t (xg_aload (va := (2, 27)) rfl rfl) ?_
          refine xg_t (xg_getf (va := (2, 39)) (hF882.get (by decide) (hb875.get (by decide) (hb872.get (by decide) (hF838.get (by decide) (hb831.get (by decide) (hb825.get (by decide) (hF788.get (by decide) (hF33.get (by decide) h27_11)))))))) rfl) ?_
          refine xg_t (xg_iload (va := (0, 2)) rfl rfl) ?_
          refine xg_t (xg_aload (va := (2, 27)) rfl rfl) ?_
          refine xg_t (xg_getf (va := (2, 42)) (hF882.get (by decide) (hb875.get (by decide) (hb872.get (by decide) (hF838.get (by decide) (hb831.get (by decide) (hb825.get (by decide) (hF788.get (by decide) (hF33.get (by decide) h27_11)))))))) rfl) ?_
          refine xg_t (xg_getf (va := (0, f42_901)) h42_903 rfl) ?_
          refine xg_iastK (n := 2) (u := f42_901) ((hr871.but hb875 (by decide)).fr hF882 (by decide)) xnm0 xnm0 rfl (by first | decide | omega) (fun w914 hr915 hb916 => ?_)
          refine xg_t (xg_aload (va := (2, 27)) rfl rfl) ?_
          refine xg_t (xg_getf (va := (2, 40)) (hb916.get (by decide) (hF882.get (by decide) (hb875.get (by decide) (hb872.get (by decide) (hF838.get (by decide) (hb831.get (by decide) (hb825.get (by decide) (hF788.get (by decide) (hF33.get (by decide) h27_11))))))))) rfl) ?_
          refine xg_t (xg_iload (va := (0, 2)) rfl rfl) ?_
          refine xg_t (xg_aload (va := (2, 27)) rfl rfl) ?_
          refine xg_t (xg_getf (va := (2, 42)) (hb916.get (by decide) (hF882.get (by decide) (hb875.get (by decide) (hb872.get (by decide) (hF838.get (by decide) (hb831.get (by decide) (hb825.get (by decide) (hF788.get (by decide) (hF33.get (by decide) h27_11))))))))) rfl) ?_
          refine xg_t (xg_getf (va := (0, f42_897)) (hb916.get (by decide) h42_903) rfl) ?_
          refine xg_iastK (n := 2) (u := f42_897) ((hr874.fr hF882 (by decide)).but hb916 (by decide)) xnm0 xnm0 rfl (by first | decide | omega) (fun w917 hr918 hb919 => ?_)
          refine xg_t (xg_aload (va := (2, 27)) rfl rfl) ?_
          refine xg_t (xg_getf (va := (2, 42)) (hb919.get (by decide) (hb916.get (by decide) (hF882.get (by decide) (hb875.get (by decide) (hb872.get (by decide) (hF838.get (by decide) (hb831.get (by decide) (hb825.get (by decide) (hF788.get (by decide) (hF33.get (by decide) h27_11)))))))))) rfl) ?_
          clear ht887 ht888 ht889 ht890 ht891 ht892 hq905 hq906 hq907 hq908 hq909
          obtain ⟨⟨ht920, -, -, ht921, ht922⟩, -⟩ := id (hx883.fr ((hb919.1 42 (by decide)).trans (hb916.1 42 (by decide))))
          refine xg_cVv mX8_advance (vs := []) (rest := []) (cn1 := 0) (sl1 := 0) rfl (tkAdvX42 (xInv.up (S := [39, 40]) hI881 ((xFr.of (S := [39, 40]) hb916 (by decide)).tr (xFr.of (S := [39, 40]) hb919 (by decide))) (List.forall_mem_cons.mpr ⟨xqu39 (show cpI 3 18 4294967295 (wget w917 39) from ⟨_, (hr915.but hb919 (by decide)), xrb (by omega) (xrb (by omega) (xrb (by omega) (hb822)))⟩), List.forall_mem_cons.mpr ⟨xqu40 (show cpI 3 19 4294967295 (wget w917 40) from ⟨_, hr918, xrb (by omega) (xrb (by omega) (xrb (by omega) (hb828)))⟩), fun _ h => absurd h List.not_mem_nil⟩⟩)) (hB.fr ((hb919.1 2 (by decide)).trans ((hb916.1 2 (by decide)).trans ((hF882.1 2 (by decide)).trans ((hb875.1 2 (by decide)).trans ((hb872.1 2 (by decide)).trans ((hF838.1 2 (by decide)).trans ((hb831.1 2 (by decide)).trans ((hb825.1 2 (by decide)).trans ((hF788.1 2 (by decide)).trans (hF33.1 2 (by decide)))))))))))) ht920 (by rw [ht921]; exact tf_le ht922)) rfl (hb919.get (by decide) (hb916.get (by decide) h42_903)) rfl rfl rfl rfl rfl rfl (fun w923 hq924 => ?_)
          obtain ⟨hI925, hF926, hx927⟩ := hq924
          rw [ht921] at hx927
          clear ht920 ht921 ht922
          obtain ⟨p_928, hp929⟩ : ∃ x, x = tf B nn p_884 := ⟨_, rfl⟩
          rw [← hp929] at hx927
          have ln930 : lnR B nn p0 = lnN B nn 3 0 p_928 := by rw [hp929]; exact ln886.trans (lnN_y (k := 0) hk911)
          obtain ⟨⟨ht931, ht932, ht933, ht934, ht935⟩, ht936⟩ := id hx927
          refine xoC42 (xqc42 hI925 : cp42 (wget w923 42)) (fun f42_937 f42_939 f42_941 f42_943 f42_945 h42_947 hb938 hb940 hb942 hb944 hb946 hb948 => ?_)
          have hq949 : fld w923 42 1 = f42_937 := fld_of h42_947
          have hq950 : fld w923 42 2 = f42_939 := fld_of h42_947
          have hq951 : fld w923 42 3 = f42_941 := fld_of h42_947
          have hq952 : fld w923 42 4 = f42_943 := fld_of h42_947
          have hq953 : fld w923 42 5 = f42_945 := fld_of h42_947
          refine xg_t (xg_iinc (u := 2) (z := 3) (l1 := [(2, (0, f42_16)), (1, (0, 3)), (0, (2, 27))]) rfl rfl (by decide) rfl) ?_
          refine xg_t (xg_goto) ?_
          refine xg_t (xg_blq rfl) ?_
          refine xg_t (xg_iload (va := (0, 3)) rfl rfl) ?_
          refine xg_t (xg_gets) ?_
          refine xg_t (xg_iload (va := (0, 3)) rfl rfl) ?_
          refine xg_t (xg_ald8L (n := 3) (u := 3) xnm0 rfl rfl) ?_
          refine xg_t (xg_icT (u := 3) (v := 3) rfl xnm0 xnm0 (by decide)) ?_
          refine xg_t (xg_blq rfl) ?_
          refine xg_t (xg_iload (va := (0, 3)) rfl rfl) ?_
          refine xg_t (xg_ifT (u := 3) rfl xnm0 (by decide)) ?_
          refine xg_t (xg_blq rfl) ?_
          have ln954 : lnR B nn p0 = lnS B nn p_928 := ln930.trans (lnN_0 (by decide))
          refine xg_t (xg_aload (va := (2, 27)) rfl rfl) ?_
          refine xg_t (xg_getf (va := (2, 42)) (hF926.get (by decide) (hb919.get (by decide) (hb916.get (by decide) (hF882.get (by decide) (hb875.get (by decide) (hb872.get (by decide) (hF838.get (by decide) (hb831.get (by decide) (hb825.get (by decide) (hF788.get (by decide) (hF33.get (by decide) h27_11))))))))))) rfl) ?_
          refine xg_t (xg_bip) ?_
          refine xg_cVi mX8_isSign (vs := [(0, 59)]) (rest := []) (cn1 := 0) (sl1 := 0) rfl (tkSigX42 (hI925) (by omega) (hB.fr ((hF926.1 2 (by decide)).trans ((hb919.1 2 (by decide)).trans ((hb916.1 2 (by decide)).trans ((hF882.1 2 (by decide)).trans ((hb875.1 2 (by decide)).trans ((hb872.1 2 (by decide)).trans ((hF838.1 2 (by decide)).trans ((hb831.1 2 (by decide)).trans ((hb825.1 2 (by decide)).trans ((hF788.1 2 (by decide)).trans (hF33.1 2 (by decide))))))))))))) hx927) rfl h42_947 rfl rfl rfl rfl rfl rfl (fun n959 w955 hq956 => ?_)
          obtain ⟨hn960, hI957, hF958⟩ := hq956
          rcases hn960 with ⟨rfl, hsg961⟩ | ⟨rfl, hsg961⟩
          · refine xg_t (xg_ifT (u := 1) rfl xnm0 (by decide)) ?_
            refine xg_t (xg_blq rfl) ?_
            refine xg_t (xg_aload (va := (2, 27)) rfl rfl) ?_
            refine xg_t (xg_getf (va := (2, 42)) (hF958.get (by decide) (hF926.get (by decide) (hb919.get (by decide) (hb916.get (by decide) (hF882.get (by decide) (hb875.get (by decide) (hb872.get (by decide) (hF838.get (by decide) (hb831.get (by decide) (hb825.get (by decide) (hF788.get (by decide) (hF33.get (by decide) h27_11)))))))))))) rfl) ?_
            clear ht931 ht932 ht933 ht934 ht935 ht936 hq949 hq950 hq951 hq952 hq953
            obtain ⟨⟨ht962, -, -, ht963, ht964⟩, -⟩ := id (hx927.fr (hF958.1 42 (by decide)))
            refine xg_cVv mX8_advance (vs := []) (rest := []) (cn1 := 0) (sl1 := 0) rfl (tkAdvX42 (hI957) (hB.fr ((hF958.1 2 (by decide)).trans ((hF926.1 2 (by decide)).trans ((hb919.1 2 (by decide)).trans ((hb916.1 2 (by decide)).trans ((hF882.1 2 (by decide)).trans ((hb875.1 2 (by decide)).trans ((hb872.1 2 (by decide)).trans ((hF838.1 2 (by decide)).trans ((hb831.1 2 (by decide)).trans ((hb825.1 2 (by decide)).trans ((hF788.1 2 (by decide)).trans (hF33.1 2 (by decide)))))))))))))) ht962 (by rw [ht963]; exact tf_le ht964)) rfl (hF958.get (by decide) h42_947) rfl rfl rfl rfl rfl rfl (fun w965 hq966 => ?_)
            obtain ⟨hI967, hF968, hx969⟩ := hq966
            rw [ht963] at hx969
            clear ht962 ht963 ht964
            obtain ⟨p_970, hp971⟩ : ∃ x, x = tf B nn p_928 := ⟨_, rfl⟩
            rw [← hp971] at hx969
            have ln972 : lnR B nn p0 = (true, p_970) := by rw [hp971]; exact ln954.trans (lnS_y hsg961)
            have d973 : fld w965 27 7 = fld w 27 7 := (fld_eq (j := 7) ((hF968.1 27 (by decide)).trans ((hF958.1 27 (by decide)).trans ((hF926.1 27 (by decide)).trans ((hb919.1 27 (by decide)).trans ((hb916.1 27 (by decide)).trans ((hF882.1 27 (by decide)).trans ((hb875.1 27 (by decide)).trans ((hb872.1 27 (by decide)).trans ((hF838.1 27 (by decide)).trans ((hb831.1 27 (by decide)).trans ((hb825.1 27 (by decide)).trans ((hF788.1 27 (by decide)).trans (hF33.1 27 (by decide)))))))))))))))
            have d974 : fld w965 27 8 = fld w 27 8 := (fld_eq (j := 8) ((hF968.1 27 (by decide)).trans ((hF958.1 27 (by decide)).trans ((hF926.1 27 (by decide)).trans ((hb919.1 27 (by decide)).trans ((hb916.1 27 (by decide)).trans ((hF882.1 27 (by decide)).trans ((hb875.1 27 (by decide)).trans ((hb872.1 27 (by decide)).trans ((hF838.1 27 (by decide)).trans ((hb831.1 27 (by decide)).trans ((hb825.1 27 (by decide)).trans ((hF788.1 27 (by decide)).trans (hF33.1 27 (by decide)))))))))))))))
            have d975 : fld w965 27 9 = fld w 27 9 := (fld_eq (j := 9) ((hF968.1 27 (by decide)).trans ((hF958.1 27 (by decide)).trans ((hF926.1 27 (by decide)).trans ((hb919.1 27 (by decide)).trans ((hb916.1 27 (by decide)).trans ((hF882.1 27 (by decide)).trans ((hb875.1 27 (by decide)).trans ((hb872.1 27 (by decide)).trans ((hF838.1 27 (by decide)).trans ((hb831.1 27 (by decide)).trans ((hb825.1 27 (by decide)).trans ((hF788.1 27 (by decide)).trans (hF33.1 27 (by decide)))))))))))))))
            have d976 : fld w965 27 10 = fld w 27 10 := (fld_eq (j := 10) ((hF968.1 27 (by decide)).trans ((hF958.1 27 (by decide)).trans ((hF926.1 27 (by decide)).trans ((hb919.1 27 (by decide)).trans ((hb916.1 27 (by decide)).trans ((hF882.1 27 (by decide)).trans ((hb875.1 27 (by decide)).trans ((hb872.1 27 (by decide)).trans ((hF838.1 27 (by decide)).trans ((hb831.1 27 (by decide)).trans ((hb825.1 27 (by decide)).trans ((hF788.1 27 (by decide)).trans (hF33.1 27 (by decide)))))))))))))))
            have hS1 := hS.1
            have hq977 : fld w965 27 9 = f27_7 := fld_of (hF968.get (by decide) (hF958.get (by decide) (hF926.get (by decide) (hb919.get (by decide) (hb916.get (by decide) (hF882.get (by decide) (hb875.get (by decide) (hb872.get (by decide) (hF838.get (by decide) (hb831.get (by decide) (hb825.get (by decide) (hF788.get (by decide) (hF33.get (by decide) h27_11)))))))))))))
            have n978 : rwv w965 39 0 = f42_807 := (rwv_of ((((hr915.but hb919 (by decide)).fr hF926 (by decide)).fr hF958 (by decide)).fr hF968 (by decide)) (by decide)).trans ((if_neg (by decide)).trans ((if_neg (by decide)).trans (if_pos rfl)))
            have n979 : rwv w965 39 1 = f42_857 := (rwv_of ((((hr915.but hb919 (by decide)).fr hF926 (by decide)).fr hF958 (by decide)).fr hF968 (by decide)) (by decide)).trans ((if_neg (by decide)).trans (if_pos rfl))
            have n980 : rwv w965 39 2 = f42_901 := (rwv_of ((((hr915.but hb919 (by decide)).fr hF926 (by decide)).fr hF958 (by decide)).fr hF968 (by decide)) (by decide)).trans (if_pos rfl)
            have n981 : rwv w965 40 0 = f42_803 := (rwv_of (((hr918.fr hF926 (by decide)).fr hF958 (by decide)).fr hF968 (by decide)) (by decide)).trans ((if_neg (by decide)).trans ((if_neg (by decide)).trans (if_pos rfl)))
            have n982 : rwv w965 40 1 = f42_853 := (rwv_of (((hr918.fr hF926 (by decide)).fr hF958 (by decide)).fr hF968 (by decide)) (by decide)).trans ((if_neg (by decide)).trans (if_pos rfl))
            have n983 : rwv w965 40 2 = f42_897 := (rwv_of (((hr918.fr hF926 (by decide)).fr hF958 (by decide)).fr hF968 (by decide)) (by decide)).trans (if_pos rfl)
            have vp984 : vlp B nn p0 0 = p_790 := hp791.symm
            have vp985 : vlp B nn p0 1 = p_840 := by show tf B nn (vlp B nn p0 0) = p_840; rw [vp984, hp841]
            have vp986 : vlp B nn p0 2 = p_884 := by show tf B nn (vlp B nn p0 1) = p_884; rw [vp985, hp885]
            have vl987 : vln B nn (lnP B nn k) 0 = f42_807 := by
              rw [← hp0]
              show (if (0 : Nat) = 3 then _ else tnu B nn (vlp B nn p0 0)) = _
              rw [if_neg (by decide), vp984]
              exact hv818.symm
            have vl988 : vln B nn (lnP B nn k) 1 = f42_857 := by
              rw [← hp0]
              show (if (1 : Nat) = 3 then _ else tnu B nn (vlp B nn p0 1)) = _
              rw [if_neg (by decide), vp985]
              exact hv868.symm
            have vl989 : vln B nn (lnP B nn k) 2 = f42_901 := by
              rw [← hp0]
              show (if (2 : Nat) = 3 then _ else tnu B nn (vlp B nn p0 2)) = _
              rw [if_neg (by decide), vp986]
              exact hv912.symm
            refine xg_t (xg_aload (va := (2, 27)) rfl rfl) ?_
            refine xg_t (xg_getf (va := (0, f27_7)) (hF968.get (by decide) (hF958.get (by decide) (hF926.get (by decide) (hb919.get (by decide) (hb916.get (by decide) (hF882.get (by decide) (hb875.get (by decide) (hb872.get (by decide) (hF838.get (by decide) (hb831.get (by decide) (hb825.get (by decide) (hF788.get (by decide) (hF33.get (by decide) h27_11))))))))))))) rfl) ?_
            by_cases hc990 : f27_7 = 0
            · refine xg_t (xg_ifF (u := f27_7) rfl xnm0 (xj_neF hc990)) ?_
              refine xg_t (xg_aload (va := (2, 27)) rfl rfl) ?_
              refine xg_t (xg_iload (va := (0, 3)) rfl rfl) ?_
              refine xg_t (xg_iload (va := (0, f42_16)) rfl rfl) ?_
              refine xg_cVi mX2_isFine (vs := [(0, 3), (0, f42_16)]) (rest := []) (cn1 := 0) (sl1 := 0) rfl (ftFineX3 (hI967) (by omega)) rfl (hF968.get (by decide) (hF958.get (by decide) (hF926.get (by decide) (hb919.get (by decide) (hb916.get (by decide) (hF882.get (by decide) (hb875.get (by decide) (hb872.get (by decide) (hF838.get (by decide) (hb831.get (by decide) (hb825.get (by decide) (hF788.get (by decide) (hF33.get (by decide) h27_11))))))))))))) rfl rfl rfl rfl rfl rfl (fun n995 w991 hq992 => ?_)
              obtain ⟨hn996, hI993, hF994⟩ := hq992
              have h0_ : (flA B nn k).1 = 0 := by omega
              rcases hn996 with ⟨rfl, hm997, hi998, hi999, hi1000, hw1003⟩ | ⟨rfl, hm997, e91001, e101002⟩ | ⟨rfl, hm997, hi998, e91001, e101002⟩ | ⟨rfl, hm997, hi998, hi999, e91001, e101002⟩ | ⟨rfl, hm997, hi998, hi999, hi1000, e91001, e101002⟩
              · obtain ⟨mf1, mf2⟩ := manyF3 hS h0_ hsk (((((((((((((hF33.up (T := [27, 39, 40, 42]) (by decide)).tr (hF788.up (T := [27, 39, 40, 42]) (by decide))).tr (xFr.of (S := [27, 39, 40, 42]) hb825 (by decide))).tr (xFr.of (S := [27, 39, 40, 42]) hb831 (by decide))).tr (hF838.up (T := [27, 39, 40, 42]) (by decide))).tr (xFr.of (S := [27, 39, 40, 42]) hb872 (by decide))).tr (xFr.of (S := [27, 39, 40, 42]) hb875 (by decide))).tr (hF882.up (T := [27, 39, 40, 42]) (by decide))).tr (xFr.of (S := [27, 39, 40, 42]) hb916 (by decide))).tr (xFr.of (S := [27, 39, 40, 42]) hb919 (by decide))).tr (hF926.up (T := [27, 39, 40, 42]) (by decide))).tr (hF958.up (T := [27, 39, 40, 42]) (by decide))).tr (hF968.up (T := [27, 39, 40, 42]) (by decide))) d973 d974 hm997
                refine xg_t (xg_ifF (u := 1) rfl xnm0 (by decide)) ?_
                refine xg_t (xg_aload (va := (2, 27)) rfl rfl) ?_
                refine xg_t (xg_iload (va := (0, 3)) rfl rfl) ?_
                refine xg_t (xg_iload (va := (0, f42_16)) rfl rfl) ?_
                refine xoC27 (xqc27 hI993 : cp27 (wget w991 27)) (fun f27_1004 f27_1006 f27_1008 f27_1010 f27_1012 h27_1014 hb1005 hb1007 hb1009 hb1011 hb1013 => ?_)
                refine xg_cVv mX2_take (vs := [(0, 3), (0, f42_16)]) (rest := []) (cn1 := 0) (sl1 := 0) rfl (ftTakeX3 (hI993) (by omega) (by rw [fld_eq (j := 3) (hw1003.1 35 List.not_mem_nil)]; exact Nat.lt_of_not_le hm997)) rfl h27_1014 rfl rfl rfl rfl rfl rfl (fun w1015 hq1016 => ?_)
                obtain ⟨hI1017, hF1018, hx1019⟩ := hq1016
                refine xg_t (xg_blq rfl) ?_
                refine xg_t (xg_const) ?_
                have l91020 : fld w1015 28 9 = fld w 28 9 := fld_eq (j := 9) ((hF1018.1 28 (by decide)).trans ((hF994.1 28 (by decide)).trans ((hF968.1 28 (by decide)).trans ((hF958.1 28 (by decide)).trans ((hF926.1 28 (by decide)).trans ((hb919.1 28 (by decide)).trans ((hb916.1 28 (by decide)).trans ((hF882.1 28 (by decide)).trans ((hb875.1 28 (by decide)).trans ((hb872.1 28 (by decide)).trans ((hF838.1 28 (by decide)).trans ((hb831.1 28 (by decide)).trans ((hb825.1 28 (by decide)).trans ((hF788.1 28 (by decide)).trans (hF33.1 28 (by decide))))))))))))))))
                have he1021 : lnP B nn (k + 1) = p_970 := by
                  show (lnR B nn (lnP B nn k)).2 = _
                  rw [← hp0, ln972]
                have hfl := flt_ok hsk mf1 mf2 (show lst0 3 ≤ vln B nn (lnP B nn k) 0 ∧ vln B nn (lnP B nn k) 0 ≤ grt0 3 from (show 1 ≤ vln B nn (lnP B nn k) 0 ∧ vln B nn (lnP B nn k) 0 ≤ 10 by omega)) (show lst1 3 ≤ vln B nn (lnP B nn k) 1 ∧ vln B nn (lnP B nn k) 1 ≤ grt1 3 from (show 1 ≤ vln B nn (lnP B nn k) 1 ∧ vln B nn (lnP B nn k) 1 ≤ 10 by omega)) (fun _ => show 1 ≤ vln B nn (lnP B nn k) 2 ∧ vln B nn (lnP B nn k) 2 ≤ grt2 3 from (show 1 ≤ vln B nn (lnP B nn k) 2 ∧ vln B nn (lnP B nn k) 2 ≤ 999 by omega))
                have e1_ : ∀ c j, fld w991 c j = fld w965 c j := fun c j => fld_eq (hw1003.1 c List.not_mem_nil)
                have e2_ : ∀ c, rwv w991 c = rwv w965 c := fun c => rwf_eq (hw1003.1 c List.not_mem_nil)
                simp only [e1_, e2_] at hx1019
                have hF1023 := (hw1003.up (fun _ h => absurd h List.not_mem_nil)).tr hF1018
                have nv1024 : ∀ t, t < 3 → rwv w965 39 t = vln B nn (lnP B nn k) t := fun t ht => by
                  rcases (show t = 0 ∨ t = 1 ∨ t = 2 by omega) with rfl | rfl | rfl
                  · exact n978.trans vl987.symm
                  · exact n979.trans vl988.symm
                  · exact n980.trans vl989.symm
                obtain ⟨t11025, t21026, t31027⟩ := hx1019
                have hC1022 := CSTok3 hS h0_ hsk (((((((((((((hF33.up (T := [27, 39, 40, 42]) (by decide)).tr (hF788.up (T := [27, 39, 40, 42]) (by decide))).tr (xFr.of (S := [27, 39, 40, 42]) hb825 (by decide))).tr (xFr.of (S := [27, 39, 40, 42]) hb831 (by decide))).tr (hF838.up (T := [27, 39, 40, 42]) (by decide))).tr (xFr.of (S := [27, 39, 40, 42]) hb872 (by decide))).tr (xFr.of (S := [27, 39, 40, 42]) hb875 (by decide))).tr (hF882.up (T := [27, 39, 40, 42]) (by decide))).tr (xFr.of (S := [27, 39, 40, 42]) hb916 (by decide))).tr (xFr.of (S := [27, 39, 40, 42]) hb919 (by decide))).tr (hF926.up (T := [27, 39, 40, 42]) (by decide))).tr (hF958.up (T := [27, 39, 40, 42]) (by decide))).tr (hF968.up (T := [27, 39, 40, 42]) (by decide))) d973 d974 d975 hfl hF1023 t11025 t21026 (fun t ht => (t31027 t ht).trans (nv1024 t ht))
                exact xg_e ⟨1, w1015, ⟨rfl, rfl⟩, ⟨Or.inl ⟨rfl, by rw [ln972], by rw [he1021]; exact (hx969.fr ((hF1018.1 42 (by decide)).trans (hF994.1 42 (by decide)))), hC1022⟩, l91020⟩, hI1017, ((((((((((((hF33.up (by decide)).tr (hF788.up (by decide))).tr ((xFr.of (S := [27, 28, 29, 30, 31, 32, 33, 34, 35, 36, 37, 38, 39, 40, 41, 42]) hb825 (by decide)).tr (xFr.of (S := [27, 28, 29, 30, 31, 32, 33, 34, 35, 36, 37, 38, 39, 40, 41, 42]) hb831 (by decide)))).tr (hF838.up (by decide))).tr ((xFr.of (S := [27, 28, 29, 30, 31, 32, 33, 34, 35, 36, 37, 38, 39, 40, 41, 42]) hb872 (by decide)).tr (xFr.of (S := [27, 28, 29, 30, 31, 32, 33, 34, 35, 36, 37, 38, 39, 40, 41, 42]) hb875 (by decide)))).tr (hF882.up (by decide))).tr ((xFr.of (S := [27, 28, 29, 30, 31, 32, 33, 34, 35, 36, 37, 38, 39, 40, 41, 42]) hb916 (by decide)).tr (xFr.of (S := [27, 28, 29, 30, 31, 32, 33, 34, 35, 36, 37, 38, 39, 40, 41, 42]) hb919 (by decide)))).tr (hF926.up (by decide))).tr (hF958.up (by decide))).tr (hF968.up (by decide))).tr (hF994.up (by decide))).tr (hF1018.up (by decide)))⟩
              · have hfl := manyT3 hS h0_ hsk (((((((((((((hF33.up (T := [27, 39, 40, 42]) (by decide)).tr (hF788.up (T := [27, 39, 40, 42]) (by decide))).tr (xFr.of (S := [27, 39, 40, 42]) hb825 (by decide))).tr (xFr.of (S := [27, 39, 40, 42]) hb831 (by decide))).tr (hF838.up (T := [27, 39, 40, 42]) (by decide))).tr (xFr.of (S := [27, 39, 40, 42]) hb872 (by decide))).tr (xFr.of (S := [27, 39, 40, 42]) hb875 (by decide))).tr (hF882.up (T := [27, 39, 40, 42]) (by decide))).tr (xFr.of (S := [27, 39, 40, 42]) hb916 (by decide))).tr (xFr.of (S := [27, 39, 40, 42]) hb919 (by decide))).tr (hF926.up (T := [27, 39, 40, 42]) (by decide))).tr (hF958.up (T := [27, 39, 40, 42]) (by decide))).tr (hF968.up (T := [27, 39, 40, 42]) (by decide))) d973 d974 hm997
                refine xg_t (xg_ifT (u := 0) rfl xnm0 (by decide)) ?_
                refine xg_t (xg_blq rfl) ?_
                refine xg_t (xg_const) ?_
                have l91028 : fld w991 28 9 = fld w 28 9 := fld_eq (j := 9) ((hF994.1 28 (by decide)).trans ((hF968.1 28 (by decide)).trans ((hF958.1 28 (by decide)).trans ((hF926.1 28 (by decide)).trans ((hb919.1 28 (by decide)).trans ((hb916.1 28 (by decide)).trans ((hF882.1 28 (by decide)).trans ((hb875.1 28 (by decide)).trans ((hb872.1 28 (by decide)).trans ((hF838.1 28 (by decide)).trans ((hb831.1 28 (by decide)).trans ((hb825.1 28 (by decide)).trans ((hF788.1 28 (by decide)).trans (hF33.1 28 (by decide)))))))))))))))
                have he1029 : lnP B nn (k + 1) = p_970 := by
                  show (lnR B nn (lnP B nn k)).2 = _
                  rw [← hp0, ln972]
                have hC1030 := CST.bad h0_ hfl (by decide) e91001 (e101002.trans (by rw [← hp0]; omega))
                exact xg_e ⟨1, w991, ⟨rfl, rfl⟩, ⟨Or.inl ⟨rfl, by rw [ln972], by rw [he1029]; exact (hx969.fr (hF994.1 42 (by decide))), hC1030⟩, l91028⟩, hI993, (((((((((((hF33.up (by decide)).tr (hF788.up (by decide))).tr ((xFr.of (S := [27, 28, 29, 30, 31, 32, 33, 34, 35, 36, 37, 38, 39, 40, 41, 42]) hb825 (by decide)).tr (xFr.of (S := [27, 28, 29, 30, 31, 32, 33, 34, 35, 36, 37, 38, 39, 40, 41, 42]) hb831 (by decide)))).tr (hF838.up (by decide))).tr ((xFr.of (S := [27, 28, 29, 30, 31, 32, 33, 34, 35, 36, 37, 38, 39, 40, 41, 42]) hb872 (by decide)).tr (xFr.of (S := [27, 28, 29, 30, 31, 32, 33, 34, 35, 36, 37, 38, 39, 40, 41, 42]) hb875 (by decide)))).tr (hF882.up (by decide))).tr ((xFr.of (S := [27, 28, 29, 30, 31, 32, 33, 34, 35, 36, 37, 38, 39, 40, 41, 42]) hb916 (by decide)).tr (xFr.of (S := [27, 28, 29, 30, 31, 32, 33, 34, 35, 36, 37, 38, 39, 40, 41, 42]) hb919 (by decide)))).tr (hF926.up (by decide))).tr (hF958.up (by decide))).tr (hF968.up (by decide))).tr (hF994.up (by decide)))⟩
              · obtain ⟨mf1, mf2⟩ := manyF3 hS h0_ hsk (((((((((((((hF33.up (T := [27, 39, 40, 42]) (by decide)).tr (hF788.up (T := [27, 39, 40, 42]) (by decide))).tr (xFr.of (S := [27, 39, 40, 42]) hb825 (by decide))).tr (xFr.of (S := [27, 39, 40, 42]) hb831 (by decide))).tr (hF838.up (T := [27, 39, 40, 42]) (by decide))).tr (xFr.of (S := [27, 39, 40, 42]) hb872 (by decide))).tr (xFr.of (S := [27, 39, 40, 42]) hb875 (by decide))).tr (hF882.up (T := [27, 39, 40, 42]) (by decide))).tr (xFr.of (S := [27, 39, 40, 42]) hb916 (by decide))).tr (xFr.of (S := [27, 39, 40, 42]) hb919 (by decide))).tr (hF926.up (T := [27, 39, 40, 42]) (by decide))).tr (hF958.up (T := [27, 39, 40, 42]) (by decide))).tr (hF968.up (T := [27, 39, 40, 42]) (by decide))) d973 d974 hm997
                have hfl := flt_0 hsk mf1 mf2 (show ¬ _ from fun z => hi998 (by have z : 1 ≤ _ ∧ _ ≤ 10 := z; omega))
                refine xg_t (xg_ifT (u := 0) rfl xnm0 (by decide)) ?_
                refine xg_t (xg_blq rfl) ?_
                refine xg_t (xg_const) ?_
                have l91031 : fld w991 28 9 = fld w 28 9 := fld_eq (j := 9) ((hF994.1 28 (by decide)).trans ((hF968.1 28 (by decide)).trans ((hF958.1 28 (by decide)).trans ((hF926.1 28 (by decide)).trans ((hb919.1 28 (by decide)).trans ((hb916.1 28 (by decide)).trans ((hF882.1 28 (by decide)).trans ((hb875.1 28 (by decide)).trans ((hb872.1 28 (by decide)).trans ((hF838.1 28 (by decide)).trans ((hb831.1 28 (by decide)).trans ((hb825.1 28 (by decide)).trans ((hF788.1 28 (by decide)).trans (hF33.1 28 (by decide)))))))))))))))
                have he1032 : lnP B nn (k + 1) = p_970 := by
                  show (lnR B nn (lnP B nn k)).2 = _
                  rw [← hp0, ln972]
                have hC1033 := CST.bad h0_ hfl (by decide) e91001 (e101002.trans (n981.trans (by rw [← hp0, vp984]; exact hw819)))
                exact xg_e ⟨1, w991, ⟨rfl, rfl⟩, ⟨Or.inl ⟨rfl, by rw [ln972], by rw [he1032]; exact (hx969.fr (hF994.1 42 (by decide))), hC1033⟩, l91031⟩, hI993, (((((((((((hF33.up (by decide)).tr (hF788.up (by decide))).tr ((xFr.of (S := [27, 28, 29, 30, 31, 32, 33, 34, 35, 36, 37, 38, 39, 40, 41, 42]) hb825 (by decide)).tr (xFr.of (S := [27, 28, 29, 30, 31, 32, 33, 34, 35, 36, 37, 38, 39, 40, 41, 42]) hb831 (by decide)))).tr (hF838.up (by decide))).tr ((xFr.of (S := [27, 28, 29, 30, 31, 32, 33, 34, 35, 36, 37, 38, 39, 40, 41, 42]) hb872 (by decide)).tr (xFr.of (S := [27, 28, 29, 30, 31, 32, 33, 34, 35, 36, 37, 38, 39, 40, 41, 42]) hb875 (by decide)))).tr (hF882.up (by decide))).tr ((xFr.of (S := [27, 28, 29, 30, 31, 32, 33, 34, 35, 36, 37, 38, 39, 40, 41, 42]) hb916 (by decide)).tr (xFr.of (S := [27, 28, 29, 30, 31, 32, 33, 34, 35, 36, 37, 38, 39, 40, 41, 42]) hb919 (by decide)))).tr (hF926.up (by decide))).tr (hF958.up (by decide))).tr (hF968.up (by decide))).tr (hF994.up (by decide)))⟩
              · obtain ⟨mf1, mf2⟩ := manyF3 hS h0_ hsk (((((((((((((hF33.up (T := [27, 39, 40, 42]) (by decide)).tr (hF788.up (T := [27, 39, 40, 42]) (by decide))).tr (xFr.of (S := [27, 39, 40, 42]) hb825 (by decide))).tr (xFr.of (S := [27, 39, 40, 42]) hb831 (by decide))).tr (hF838.up (T := [27, 39, 40, 42]) (by decide))).tr (xFr.of (S := [27, 39, 40, 42]) hb872 (by decide))).tr (xFr.of (S := [27, 39, 40, 42]) hb875 (by decide))).tr (hF882.up (T := [27, 39, 40, 42]) (by decide))).tr (xFr.of (S := [27, 39, 40, 42]) hb916 (by decide))).tr (xFr.of (S := [27, 39, 40, 42]) hb919 (by decide))).tr (hF926.up (T := [27, 39, 40, 42]) (by decide))).tr (hF958.up (T := [27, 39, 40, 42]) (by decide))).tr (hF968.up (T := [27, 39, 40, 42]) (by decide))) d973 d974 hm997
                have hfl := flt_1 hsk mf1 mf2 (show lst0 3 ≤ vln B nn (lnP B nn k) 0 ∧ vln B nn (lnP B nn k) 0 ≤ grt0 3 from (show 1 ≤ vln B nn (lnP B nn k) 0 ∧ vln B nn (lnP B nn k) 0 ≤ 10 by omega)) (show ¬ _ from fun z => hi999 (by have z : 1 ≤ _ ∧ _ ≤ 10 := z; omega))
                refine xg_t (xg_ifT (u := 0) rfl xnm0 (by decide)) ?_
                refine xg_t (xg_blq rfl) ?_
                refine xg_t (xg_const) ?_
                have l91034 : fld w991 28 9 = fld w 28 9 := fld_eq (j := 9) ((hF994.1 28 (by decide)).trans ((hF968.1 28 (by decide)).trans ((hF958.1 28 (by decide)).trans ((hF926.1 28 (by decide)).trans ((hb919.1 28 (by decide)).trans ((hb916.1 28 (by decide)).trans ((hF882.1 28 (by decide)).trans ((hb875.1 28 (by decide)).trans ((hb872.1 28 (by decide)).trans ((hF838.1 28 (by decide)).trans ((hb831.1 28 (by decide)).trans ((hb825.1 28 (by decide)).trans ((hF788.1 28 (by decide)).trans (hF33.1 28 (by decide)))))))))))))))
                have he1035 : lnP B nn (k + 1) = p_970 := by
                  show (lnR B nn (lnP B nn k)).2 = _
                  rw [← hp0, ln972]
                have hC1036 := CST.bad h0_ hfl (by decide) e91001 (e101002.trans (n982.trans (by rw [← hp0, vp985]; exact hw869)))
                exact xg_e ⟨1, w991, ⟨rfl, rfl⟩, ⟨Or.inl ⟨rfl, by rw [ln972], by rw [he1035]; exact (hx969.fr (hF994.1 42 (by decide))), hC1036⟩, l91034⟩, hI993, (((((((((((hF33.up (by decide)).tr (hF788.up (by decide))).tr ((xFr.of (S := [27, 28, 29, 30, 31, 32, 33, 34, 35, 36, 37, 38, 39, 40, 41, 42]) hb825 (by decide)).tr (xFr.of (S := [27, 28, 29, 30, 31, 32, 33, 34, 35, 36, 37, 38, 39, 40, 41, 42]) hb831 (by decide)))).tr (hF838.up (by decide))).tr ((xFr.of (S := [27, 28, 29, 30, 31, 32, 33, 34, 35, 36, 37, 38, 39, 40, 41, 42]) hb872 (by decide)).tr (xFr.of (S := [27, 28, 29, 30, 31, 32, 33, 34, 35, 36, 37, 38, 39, 40, 41, 42]) hb875 (by decide)))).tr (hF882.up (by decide))).tr ((xFr.of (S := [27, 28, 29, 30, 31, 32, 33, 34, 35, 36, 37, 38, 39, 40, 41, 42]) hb916 (by decide)).tr (xFr.of (S := [27, 28, 29, 30, 31, 32, 33, 34, 35, 36, 37, 38, 39, 40, 41, 42]) hb919 (by decide)))).tr (hF926.up (by decide))).tr (hF958.up (by decide))).tr (hF968.up (by decide))).tr (hF994.up (by decide)))⟩
              · obtain ⟨mf1, mf2⟩ := manyF3 hS h0_ hsk (((((((((((((hF33.up (T := [27, 39, 40, 42]) (by decide)).tr (hF788.up (T := [27, 39, 40, 42]) (by decide))).tr (xFr.of (S := [27, 39, 40, 42]) hb825 (by decide))).tr (xFr.of (S := [27, 39, 40, 42]) hb831 (by decide))).tr (hF838.up (T := [27, 39, 40, 42]) (by decide))).tr (xFr.of (S := [27, 39, 40, 42]) hb872 (by decide))).tr (xFr.of (S := [27, 39, 40, 42]) hb875 (by decide))).tr (hF882.up (T := [27, 39, 40, 42]) (by decide))).tr (xFr.of (S := [27, 39, 40, 42]) hb916 (by decide))).tr (xFr.of (S := [27, 39, 40, 42]) hb919 (by decide))).tr (hF926.up (T := [27, 39, 40, 42]) (by decide))).tr (hF958.up (T := [27, 39, 40, 42]) (by decide))).tr (hF968.up (T := [27, 39, 40, 42]) (by decide))) d973 d974 hm997
                have hfl := flt_2 hsk mf1 mf2 (show lst0 3 ≤ vln B nn (lnP B nn k) 0 ∧ vln B nn (lnP B nn k) 0 ≤ grt0 3 from (show 1 ≤ vln B nn (lnP B nn k) 0 ∧ vln B nn (lnP B nn k) 0 ≤ 10 by omega)) (show lst1 3 ≤ vln B nn (lnP B nn k) 1 ∧ vln B nn (lnP B nn k) 1 ≤ grt1 3 from (show 1 ≤ vln B nn (lnP B nn k) 1 ∧ vln B nn (lnP B nn k) 1 ≤ 10 by omega)) rfl (show ¬ _ from fun z => hi1000 (by have z : 1 ≤ _ ∧ _ ≤ 999 := z; omega))
                refine xg_t (xg_ifT (u := 0) rfl xnm0 (by decide)) ?_
                refine xg_t (xg_blq rfl) ?_
                refine xg_t (xg_const) ?_
                have l91037 : fld w991 28 9 = fld w 28 9 := fld_eq (j := 9) ((hF994.1 28 (by decide)).trans ((hF968.1 28 (by decide)).trans ((hF958.1 28 (by decide)).trans ((hF926.1 28 (by decide)).trans ((hb919.1 28 (by decide)).trans ((hb916.1 28 (by decide)).trans ((hF882.1 28 (by decide)).trans ((hb875.1 28 (by decide)).trans ((hb872.1 28 (by decide)).trans ((hF838.1 28 (by decide)).trans ((hb831.1 28 (by decide)).trans ((hb825.1 28 (by decide)).trans ((hF788.1 28 (by decide)).trans (hF33.1 28 (by decide)))))))))))))))
                have he1038 : lnP B nn (k + 1) = p_970 := by
                  show (lnR B nn (lnP B nn k)).2 = _
                  rw [← hp0, ln972]
                have hC1039 := CST.bad h0_ hfl (by decide) e91001 (e101002.trans (n983.trans (by rw [← hp0, vp986]; exact hw913)))
                exact xg_e ⟨1, w991, ⟨rfl, rfl⟩, ⟨Or.inl ⟨rfl, by rw [ln972], by rw [he1038]; exact (hx969.fr (hF994.1 42 (by decide))), hC1039⟩, l91037⟩, hI993, (((((((((((hF33.up (by decide)).tr (hF788.up (by decide))).tr ((xFr.of (S := [27, 28, 29, 30, 31, 32, 33, 34, 35, 36, 37, 38, 39, 40, 41, 42]) hb825 (by decide)).tr (xFr.of (S := [27, 28, 29, 30, 31, 32, 33, 34, 35, 36, 37, 38, 39, 40, 41, 42]) hb831 (by decide)))).tr (hF838.up (by decide))).tr ((xFr.of (S := [27, 28, 29, 30, 31, 32, 33, 34, 35, 36, 37, 38, 39, 40, 41, 42]) hb872 (by decide)).tr (xFr.of (S := [27, 28, 29, 30, 31, 32, 33, 34, 35, 36, 37, 38, 39, 40, 41, 42]) hb875 (by decide)))).tr (hF882.up (by decide))).tr ((xFr.of (S := [27, 28, 29, 30, 31, 32, 33, 34, 35, 36, 37, 38, 39, 40, 41, 42]) hb916 (by decide)).tr (xFr.of (S := [27, 28, 29, 30, 31, 32, 33, 34, 35, 36, 37, 38, 39, 40, 41, 42]) hb919 (by decide)))).tr (hF926.up (by decide))).tr (hF958.up (by decide))).tr (hF968.up (by decide))).tr (hF994.up (by decide)))⟩
            · refine xg_t (xg_ifT (u := f27_7) rfl xnm0 (xj_neT hc990)) ?_
              refine xg_t (xg_blq rfl) ?_
              refine xg_t (xg_const) ?_
              have l91040 : fld w965 28 9 = fld w 28 9 := fld_eq (j := 9) ((hF968.1 28 (by decide)).trans ((hF958.1 28 (by decide)).trans ((hF926.1 28 (by decide)).trans ((hb919.1 28 (by decide)).trans ((hb916.1 28 (by decide)).trans ((hF882.1 28 (by decide)).trans ((hb875.1 28 (by decide)).trans ((hb872.1 28 (by decide)).trans ((hF838.1 28 (by decide)).trans ((hb831.1 28 (by decide)).trans ((hb825.1 28 (by decide)).trans ((hF788.1 28 (by decide)).trans (hF33.1 28 (by decide))))))))))))))
              have he1041 : lnP B nn (k + 1) = p_970 := by
                show (lnR B nn (lnP B nn k)).2 = _
                rw [← hp0, ln972]
              have hC1042 := hS.st (by omega) d975 d976
              exact xg_e ⟨1, w965, ⟨rfl, rfl⟩, ⟨Or.inl ⟨rfl, by rw [ln972], by rw [he1041]; exact hx969, hC1042⟩, l91040⟩, hI967, ((((((((((hF33.up (by decide)).tr (hF788.up (by decide))).tr ((xFr.of (S := [27, 28, 29, 30, 31, 32, 33, 34, 35, 36, 37, 38, 39, 40, 41, 42]) hb825 (by decide)).tr (xFr.of (S := [27, 28, 29, 30, 31, 32, 33, 34, 35, 36, 37, 38, 39, 40, 41, 42]) hb831 (by decide)))).tr (hF838.up (by decide))).tr ((xFr.of (S := [27, 28, 29, 30, 31, 32, 33, 34, 35, 36, 37, 38, 39, 40, 41, 42]) hb872 (by decide)).tr (xFr.of (S := [27, 28, 29, 30, 31, 32, 33, 34, 35, 36, 37, 38, 39, 40, 41, 42]) hb875 (by decide)))).tr (hF882.up (by decide))).tr ((xFr.of (S := [27, 28, 29, 30, 31, 32, 33, 34, 35, 36, 37, 38, 39, 40, 41, 42]) hb916 (by decide)).tr (xFr.of (S := [27, 28, 29, 30, 31, 32, 33, 34, 35, 36, 37, 38, 39, 40, 41, 42]) hb919 (by decide)))).tr (hF926.up (by decide))).tr (hF958.up (by decide))).tr (hF968.up (by decide)))⟩
          · have lf1043 : lnR B nn p0 = (false, p_928) := ln954.trans (lnS_n hsg961)
            refine xg_t (xg_ifF (u := 0) rfl xnm0 (by decide)) ?_
            refine xg_t (xg_const) ?_
            have l91044 : fld w955 28 9 = fld w 28 9 := fld_eq (j := 9) ((hF958.1 28 (by decide)).trans ((hF926.1 28 (by decide)).trans ((hb919.1 28 (by decide)).trans ((hb916.1 28 (by decide)).trans ((hF882.1 28 (by decide)).trans ((hb875.1 28 (by decide)).trans ((hb872.1 28 (by decide)).trans ((hF838.1 28 (by decide)).trans ((hb831.1 28 (by decide)).trans ((hb825.1 28 (by decide)).trans ((hF788.1 28 (by decide)).trans (hF33.1 28 (by decide)))))))))))))
            exact xg_e ⟨0, w955, ⟨rfl, rfl⟩, ⟨Or.inr ⟨rfl, by rw [lf1043]; exact Bool.false_ne_true, by rw [lf1043]; exact (hx927.fr (hF958.1 42 (by decide))).1.2.2.1⟩, l91044⟩, hI957, (((((((((hF33.up (by decide)).tr (hF788.up (by decide))).tr ((xFr.of (S := [27, 28, 29, 30, 31, 32, 33, 34, 35, 36, 37, 38, 39, 40, 41, 42]) hb825 (by decide)).tr (xFr.of (S := [27, 28, 29, 30, 31, 32, 33, 34, 35, 36, 37, 38, 39, 40, 41, 42]) hb831 (by decide)))).tr (hF838.up (by decide))).tr ((xFr.of (S := [27, 28, 29, 30, 31, 32, 33, 34, 35, 36, 37, 38, 39, 40, 41, 42]) hb872 (by decide)).tr (xFr.of (S := [27, 28, 29, 30, 31, 32, 33, 34, 35, 36, 37, 38, 39, 40, 41, 42]) hb875 (by decide)))).tr (hF882.up (by decide))).tr ((xFr.of (S := [27, 28, 29, 30, 31, 32, 33, 34, 35, 36, 37, 38, 39, 40, 41, 42]) hb916 (by decide)).tr (xFr.of (S := [27, 28, 29, 30, 31, 32, 33, 34, 35, 36, 37, 38, 39, 40, 41, 42]) hb919 (by decide)))).tr (hF926.up (by decide))).tr (hF958.up (by decide)))⟩
        · refine xg_t (xg_icF (u := f42_895) (v := 2) rfl xnm0 xnm0 (xj_eqF hc910)) ?_
          have lf1045 : lnR B nn p0 = (false, p_884) := ln886.trans (lnN_n (k := 0) (by omega))
          refine xg_t (xg_const) ?_
          have l91046 : fld w879 28 9 = fld w 28 9 := fld_eq (j := 9) ((hF882.1 28 (by decide)).trans ((hb875.1 28 (by decide)).trans ((hb872.1 28 (by decide)).trans ((hF838.1 28 (by decide)).trans ((hb831.1 28 (by decide)).trans ((hb825.1 28 (by decide)).trans ((hF788.1 28 (by decide)).trans (hF33.1 28 (by decide)))))))))
          exact xg_e ⟨0, w879, ⟨rfl, rfl⟩, ⟨Or.inr ⟨rfl, by rw [lf1045]; exact Bool.false_ne_true, by rw [lf1045]; exact hx883.1.2.2.1⟩, l91046⟩, hI881, ((((((hF33.up (by decide)).tr (hF788.up (by decide))).tr ((xFr.of (S := [27, 28, 29, 30, 31, 32, 33, 34, 35, 36, 37, 38, 39, 40, 41, 42]) hb825 (by decide)).tr (xFr.of (S := [27, 28, 29, 30, 31, 32, 33, 34, 35, 36, 37, 38, 39, 40, 41, 42]) hb831 (by decide)))).tr (hF838.up (by decide))).tr ((xFr.of (S := [27, 28, 29, 30, 31, 32, 33, 34, 35, 36, 37, 38, 39, 40, 41, 42]) hb872 (by decide)).tr (xFr.of (S := [27, 28, 29, 30, 31, 32, 33, 34, 35, 36, 37, 38, 39, 40, 41, 42]) hb875 (by decide)))).tr (hF882.up (by decide)))⟩
      · refine xg_t (xg_icF (u := f42_851) (v := 2) rfl xnm0 xnm0 (xj_eqF hc866)) ?_
        have lf1047 : lnR B nn p0 = (false, p_840) := ln842.trans (lnN_n (k := 1) (by omega))
        refine xg_t (xg_const) ?_
        have l91048 : fld w835 28 9 = fld w 28 9 := fld_eq (j := 9) ((hF838.1 28 (by decide)).trans ((hb831.1 28 (by decide)).trans ((hb825.1 28 (by decide)).trans ((hF788.1 28 (by decide)).trans (hF33.1 28 (by decide))))))
        exact xg_e ⟨0, w835, ⟨rfl, rfl⟩, ⟨Or.inr ⟨rfl, by rw [lf1047]; exact Bool.false_ne_true, by rw [lf1047]; exact hx839.1.2.2.1⟩, l91048⟩, hI837, ((((hF33.up (by decide)).tr (hF788.up (by decide))).tr ((xFr.of (S := [27, 28, 29, 30, 31, 32, 33, 34, 35, 36, 37, 38, 39, 40, 41, 42]) hb825 (by decide)).tr (xFr.of (S := [27, 28, 29, 30, 31, 32, 33, 34, 35, 36, 37, 38, 39, 40, 41, 42]) hb831 (by decide)))).tr (hF838.up (by decide)))⟩
    · refine xg_t (xg_icF (u := f42_801) (v := 2) rfl xnm0 xnm0 (xj_eqF hc816)) ?_
      have lf1049 : lnR B nn p0 = (false, p_790) := ln792.trans (lnN_n (k := 2) (by omega))
      refine xg_t (xg_const) ?_
      have l91050 : fld w785 28 9 = fld w 28 9 := fld_eq (j := 9) ((hF788.1 28 (by decide)).trans (hF33.1 28 (by decide)))
      exact xg_e ⟨0, w785, ⟨rfl, rfl⟩, ⟨Or.inr ⟨rfl, by rw [lf1049]; exact Bool.false_ne_true, by rw [lf1049]; exact hx789.1.2.2.1⟩, l91050⟩, hI787, ((hF33.up (by decide)).tr (hF788.up (by decide)))⟩
  · have hsk : slt B nn (lnP B nn k) = 4 := by rw [← hp0]; exact hs
    refine xg_t (xg_istore (l1 := [(0, (2, 27))]) rfl rfl rfl) ?_
    refine xg_t (xg_aload (va := (2, 27)) rfl rfl) ?_
    refine xg_t (xg_getf (va := (2, 42)) (hF33.get (by decide) h27_11) rfl) ?_
    refine xg_t (xg_getf (va := (0, f42_16)) (hF33.get (by decide) h42_22) rfl) ?_
    refine xg_t (xg_istore (l1 := [(1, (0, 4)), (0, (2, 27))]) rfl rfl rfl) ?_
    refine xg_t (xg_iload (va := (0, 4)) rfl rfl) ?_
    refine xg_t (xg_const) ?_
    refine xg_t (xg_icT (u := 4) (v := 4294967295) rfl xnm0 xnm0 (by decide)) ?_
    refine xg_t (xg_blq rfl) ?_
    refine xg_t (xg_aload (va := (2, 27)) rfl rfl) ?_
    refine xg_t (xg_getf (va := (2, 42)) (hF33.get (by decide) h27_11) rfl) ?_
    obtain ⟨⟨ht1051, -, -, ht1052, ht1053⟩, -⟩ := id (hT.fr (hF33.1 42 (by decide)))
    refine xg_cVv mX8_advance (vs := []) (rest := []) (cn1 := 0) (sl1 := 0) rfl (tkAdvX42 (hI32) (hB.fr (hF33.1 2 (by decide))) ht1051 (by rw [ht1052]; exact tf_le ht1053)) rfl (hF33.get (by decide) h42_22) rfl rfl rfl rfl rfl rfl (fun w1054 hq1055 => ?_)
    obtain ⟨hI1056, hF1057, hx1058⟩ := hq1055
    rw [ht1052] at hx1058
    clear ht1051 ht1052 ht1053
    obtain ⟨p_1059, hp1060⟩ : ∃ x, x = tf B nn p0 := ⟨_, rfl⟩
    rw [← hp1060] at hx1058
    have ln1061 : lnR B nn p0 = lnN B nn 4 2 p_1059 := by rw [hp1060]; exact lnR_go hs (by decide)
    obtain ⟨⟨ht1062, ht1063, ht1064, ht1065, ht1066⟩, ht1067⟩ := id hx1058
    refine xoC42 (xqc42 hI1056 : cp42 (wget w1054 42)) (fun f42_1068 f42_1070 f42_1072 f42_1074 f42_1076 h42_1078 hb1069 hb1071 hb1073 hb1075 hb1077 hb1079 => ?_)
    have hq1080 : fld w1054 42 1 = f42_1068 := fld_of h42_1078
    have hq1081 : fld w1054 42 2 = f42_1070 := fld_of h42_1078
    have hq1082 : fld w1054 42 3 = f42_1072 := fld_of h42_1078
    have hq1083 : fld w1054 42 4 = f42_1074 := fld_of h42_1078
    have hq1084 : fld w1054 42 5 = f42_1076 := fld_of h42_1078
    refine xg_t (xg_const) ?_
    refine xg_t (xg_istore (l1 := [(2, (0, f42_16)), (1, (0, 4)), (0, (2, 27))]) rfl rfl rfl) ?_
    refine xg_t (xg_blq rfl) ?_
    refine xg_t (xg_iload (va := (0, 0)) rfl rfl) ?_
    refine xg_t (xg_gets) ?_
    refine xg_t (xg_iload (va := (0, 4)) rfl rfl) ?_
    refine xg_t (xg_ald8L (n := 4) (u := 2) xnm0 rfl rfl) ?_
    refine xg_t (xg_icF (u := 0) (v := 2) rfl xnm0 xnm0 (by decide)) ?_
    refine xg_t (xg_iload (va := (0, 0)) rfl rfl) ?_
    refine xg_t (xg_const) ?_
    refine xg_t (xg_icF (u := 0) (v := 3) rfl xnm0 xnm0 (by decide)) ?_
    refine xg_t (xg_aload (va := (2, 27)) rfl rfl) ?_
    refine xg_t (xg_getf (va := (2, 42)) (hF1057.get (by decide) (hF33.get (by decide) h27_11)) rfl) ?_
    refine xg_t (xg_getf (va := (0, f42_1070)) h42_1078 rfl) ?_
    refine xg_t (xg_const) ?_
    by_cases hc1085 : f42_1070 = 2
    · refine xg_t (xg_icT (u := f42_1070) (v := 2) rfl xnm0 xnm0 (xj_eqT hc1085)) ?_
      refine xg_t (xg_blq rfl) ?_
      have hk1086 : tkd B nn p_1059 = 2 := by omega
      have hv1087 : f42_1076 = tnu B nn p_1059 := hq1084.symm.trans (ht1067 hk1086)
      have hw1088 : f42_1072 = tq B nn p_1059 := by omega
      refine xg_t (xg_aload (va := (2, 27)) rfl rfl) ?_
      refine xg_t (xg_getf (va := (2, 39)) (hF1057.get (by decide) (hF33.get (by decide) h27_11)) rfl) ?_
      refine xg_t (xg_iload (va := (0, 0)) rfl rfl) ?_
      refine xg_t (xg_aload (va := (2, 27)) rfl rfl) ?_
      refine xg_t (xg_getf (va := (2, 42)) (hF1057.get (by decide) (hF33.get (by decide) h27_11)) rfl) ?_
      refine xg_t (xg_getf (va := (0, f42_1076)) h42_1078 rfl) ?_
      refine xoI (xqc39 hI1056 : cpI 3 18 4294967295 (wget w1054 39)) (fun g39_1089 h39_1090 hb1091 => ?_)
      refine xg_iastK (n := 0) (u := f42_1076) h39_1090 xnm0 xnm0 rfl (by first | decide | omega) (fun w1092 hr1093 hb1094 => ?_)
      refine xg_t (xg_aload (va := (2, 27)) rfl rfl) ?_
      refine xg_t (xg_getf (va := (2, 40)) (hb1094.get (by decide) (hF1057.get (by decide) (hF33.get (by decide) h27_11))) rfl) ?_
      refine xg_t (xg_iload (va := (0, 0)) rfl rfl) ?_
      refine xg_t (xg_aload (va := (2, 27)) rfl rfl) ?_
      refine xg_t (xg_getf (va := (2, 42)) (hb1094.get (by decide) (hF1057.get (by decide) (hF33.get (by decide) h27_11))) rfl) ?_
      refine xg_t (xg_getf (va := (0, f42_1072)) (hb1094.get (by decide) h42_1078) rfl) ?_
      refine xoI (xqc40 hI1056 : cpI 3 19 4294967295 (wget w1054 40)) (fun g40_1095 h40_1096 hb1097 => ?_)
      refine xg_iastK (n := 0) (u := f42_1072) (h40_1096.but hb1094 (by decide)) xnm0 xnm0 rfl (by first | decide | omega) (fun w1098 hr1099 hb1100 => ?_)
      refine xg_t (xg_aload (va := (2, 27)) rfl rfl) ?_
      refine xg_t (xg_getf (va := (2, 42)) (hb1100.get (by decide) (hb1094.get (by decide) (hF1057.get (by decide) (hF33.get (by decide) h27_11)))) rfl) ?_
      clear ht1062 ht1063 ht1064 ht1065 ht1066 ht1067 hq1080 hq1081 hq1082 hq1083 hq1084
      obtain ⟨⟨ht1101, -, -, ht1102, ht1103⟩, -⟩ := id (hx1058.fr ((hb1100.1 42 (by decide)).trans (hb1094.1 42 (by decide))))
      refine xg_cVv mX8_advance (vs := []) (rest := []) (cn1 := 0) (sl1 := 0) rfl (tkAdvX42 (xInv.up (S := [39, 40]) hI1056 ((xFr.of (S := [39, 40]) hb1094 (by decide)).tr (xFr.of (S := [39, 40]) hb1100 (by decide))) (List.forall_mem_cons.mpr ⟨xqu39 (show cpI 3 18 4294967295 (wget w1098 39) from ⟨_, (hr1093.but hb1100 (by decide)), xrb (by omega) (hb1091)⟩), List.forall_mem_cons.mpr ⟨xqu40 (show cpI 3 19 4294967295 (wget w1098 40) from ⟨_, hr1099, xrb (by omega) (hb1097)⟩), fun _ h => absurd h List.not_mem_nil⟩⟩)) (hB.fr ((hb1100.1 2 (by decide)).trans ((hb1094.1 2 (by decide)).trans ((hF1057.1 2 (by decide)).trans (hF33.1 2 (by decide)))))) ht1101 (by rw [ht1102]; exact tf_le ht1103)) rfl (hb1100.get (by decide) (hb1094.get (by decide) h42_1078)) rfl rfl rfl rfl rfl rfl (fun w1104 hq1105 => ?_)
      obtain ⟨hI1106, hF1107, hx1108⟩ := hq1105
      rw [ht1102] at hx1108
      clear ht1101 ht1102 ht1103
      obtain ⟨p_1109, hp1110⟩ : ∃ x, x = tf B nn p_1059 := ⟨_, rfl⟩
      rw [← hp1110] at hx1108
      have ln1111 : lnR B nn p0 = lnN B nn 4 1 p_1109 := by rw [hp1110]; exact ln1061.trans (lnN_y (k := 1) hk1086)
      obtain ⟨⟨ht1112, ht1113, ht1114, ht1115, ht1116⟩, ht1117⟩ := id hx1108
      refine xoC42 (xqc42 hI1106 : cp42 (wget w1104 42)) (fun f42_1118 f42_1120 f42_1122 f42_1124 f42_1126 h42_1128 hb1119 hb1121 hb1123 hb1125 hb1127 hb1129 => ?_)
      have hq1130 : fld w1104 42 1 = f42_1118 := fld_of h42_1128
      have hq1131 : fld w1104 42 2 = f42_1120 := fld_of h42_1128
      have hq1132 : fld w1104 42 3 = f42_1122 := fld_of h42_1128
      have hq1133 : fld w1104 42 4 = f42_1124 := fld_of h42_1128
      have hq1134 : fld w1104 42 5 = f42_1126 := fld_of h42_1128
      refine xg_t (xg_iinc (u := 0) (z := 1) (l1 := [(2, (0, f42_16)), (1, (0, 4)), (0, (2, 27))]) rfl rfl (by decide) rfl) ?_
      refine xg_t (xg_goto) ?_
      refine xg_t (xg_blq rfl) ?_
      refine xg_t (xg_iload (va := (0, 1)) rfl rfl) ?_
      refine xg_t (xg_gets) ?_
      refine xg_t (xg_iload (va := (0, 4)) rfl rfl) ?_
      refine xg_t (xg_ald8L (n := 4) (u := 2) xnm0 rfl rfl) ?_
      refine xg_t (xg_icF (u := 1) (v := 2) rfl xnm0 xnm0 (by decide)) ?_
      refine xg_t (xg_iload (va := (0, 1)) rfl rfl) ?_
      refine xg_t (xg_const) ?_
      refine xg_t (xg_icF (u := 1) (v := 3) rfl xnm0 xnm0 (by decide)) ?_
      refine xg_t (xg_aload (va := (2, 27)) rfl rfl) ?_
      refine xg_t (xg_getf (va := (2, 42)) (hF1107.get (by decide) (hb1100.get (by decide) (hb1094.get (by decide) (hF1057.get (by decide) (hF33.get (by decide) h27_11))))) rfl) ?_
      refine xg_t (xg_getf (va := (0, f42_1120)) h42_1128 rfl) ?_
      refine xg_t (xg_const) ?_
      by_cases hc1135 : f42_1120 = 2
      · refine xg_t (xg_icT (u := f42_1120) (v := 2) rfl xnm0 xnm0 (xj_eqT hc1135)) ?_
        refine xg_t (xg_blq rfl) ?_
        have hk1136 : tkd B nn p_1109 = 2 := by omega
        have hv1137 : f42_1126 = tnu B nn p_1109 := hq1134.symm.trans (ht1117 hk1136)
        have hw1138 : f42_1122 = tq B nn p_1109 := by omega
        refine xg_t (xg_aload (va := (2, 27)) rfl rfl) ?_
        refine xg_t (xg_getf (va := (2, 39)) (hF1107.get (by decide) (hb1100.get (by decide) (hb1094.get (by decide) (hF1057.get (by decide) (hF33.get (by decide) h27_11))))) rfl) ?_
        refine xg_t (xg_iload (va := (0, 1)) rfl rfl) ?_
        refine xg_t (xg_aload (va := (2, 27)) rfl rfl) ?_
        refine xg_t (xg_getf (va := (2, 42)) (hF1107.get (by decide) (hb1100.get (by decide) (hb1094.get (by decide) (hF1057.get (by decide) (hF33.get (by decide) h27_11))))) rfl) ?_
        refine xg_t (xg_getf (va := (0, f42_1126)) h42_1128 rfl) ?_
        refine xg_iastK (n := 1) (u := f42_1126) ((hr1093.but hb1100 (by decide)).fr hF1107 (by decide)) xnm0 xnm0 rfl (by first | decide | omega) (fun w1139 hr1140 hb1141 => ?_)
        refine xg_t (xg_aload (va := (2, 27)) rfl rfl) ?_
        refine xg_t (xg_getf (va := (2, 40)) (hb1141.get (by decide) (hF1107.get (by decide) (hb1100.get (by decide) (hb1094.get (by decide) (hF1057.get (by decide) (hF33.get (by decide) h27_11)))))) rfl) ?_
        refine xg_t (xg_iload (va := (0, 1)) rfl rfl) ?_
        refine xg_t (xg_aload (va := (2, 27)) rfl rfl) ?_
        refine xg_t (xg_getf (va := (2, 42)) (hb1141.get (by decide) (hF1107.get (by decide) (hb1100.get (by decide) (hb1094.get (by decide) (hF1057.get (by decide) (hF33.get (by decide) h27_11)))))) rfl) ?_
        refine xg_t (xg_getf (va := (0, f42_1122)) (hb1141.get (by decide) h42_1128) rfl) ?_
        refine xg_iastK (n := 1) (u := f42_1122) ((hr1099.fr hF1107 (by decide)).but hb1141 (by decide)) xnm0 xnm0 rfl (by first | decide | omega) (fun w1142 hr1143 hb1144 => ?_)
        refine xg_t (xg_aload (va := (2, 27)) rfl rfl) ?_
        refine xg_t (xg_getf (va := (2, 42)) (hb1144.get (by decide) (hb1141.get (by decide) (hF1107.get (by decide) (hb1100.get (by decide) (hb1094.get (by decide) (hF1057.get (by decide) (hF33.get (by decide) h27_11))))))) rfl) ?_
        clear ht1112 ht1113 ht1114 ht1115 ht1116 ht1117 hq1130 hq1131 hq1132 hq1133 hq1134
        obtain ⟨⟨ht1145, -, -, ht1146, ht1147⟩, -⟩ := id (hx1108.fr ((hb1144.1 42 (by decide)).trans (hb1141.1 42 (by decide))))
        refine xg_cVv mX8_advance (vs := []) (rest := []) (cn1 := 0) (sl1 := 0) rfl (tkAdvX42 (xInv.up (S := [39, 40]) hI1106 ((xFr.of (S := [39, 40]) hb1141 (by decide)).tr (xFr.of (S := [39, 40]) hb1144 (by decide))) (List.forall_mem_cons.mpr ⟨xqu39 (show cpI 3 18 4294967295 (wget w1142 39) from ⟨_, (hr1140.but hb1144 (by decide)), xrb (by omega) (xrb (by omega) (hb1091))⟩), List.forall_mem_cons.mpr ⟨xqu40 (show cpI 3 19 4294967295 (wget w1142 40) from ⟨_, hr1143, xrb (by omega) (xrb (by omega) (hb1097))⟩), fun _ h => absurd h List.not_mem_nil⟩⟩)) (hB.fr ((hb1144.1 2 (by decide)).trans ((hb1141.1 2 (by decide)).trans ((hF1107.1 2 (by decide)).trans ((hb1100.1 2 (by decide)).trans ((hb1094.1 2 (by decide)).trans ((hF1057.1 2 (by decide)).trans (hF33.1 2 (by decide))))))))) ht1145 (by rw [ht1146]; exact tf_le ht1147)) rfl (hb1144.get (by decide) (hb1141.get (by decide) h42_1128)) rfl rfl rfl rfl rfl rfl (fun w1148 hq1149 => ?_)
        obtain ⟨hI1150, hF1151, hx1152⟩ := hq1149
        rw [ht1146] at hx1152
        clear ht1145 ht1146 ht1147
        obtain ⟨p_1153, hp1154⟩ : ∃ x, x = tf B nn p_1109 := ⟨_, rfl⟩
        rw [← hp1154] at hx1152
        have ln1155 : lnR B nn p0 = lnN B nn 4 0 p_1153 := by rw [hp1154]; exact ln1111.trans (lnN_y (k := 0) hk1136)
        obtain ⟨⟨ht1156, ht1157, ht1158, ht1159, ht1160⟩, ht1161⟩ := id hx1152
        refine xoC42 (xqc42 hI1150 : cp42 (wget w1148 42)) (fun f42_1162 f42_1164 f42_1166 f42_1168 f42_1170 h42_1172 hb1163 hb1165 hb1167 hb1169 hb1171 hb1173 => ?_)
        have hq1174 : fld w1148 42 1 = f42_1162 := fld_of h42_1172
        have hq1175 : fld w1148 42 2 = f42_1164 := fld_of h42_1172
        have hq1176 : fld w1148 42 3 = f42_1166 := fld_of h42_1172
        have hq1177 : fld w1148 42 4 = f42_1168 := fld_of h42_1172
        have hq1178 : fld w1148 42 5 = f42_1170 := fld_of h42_1172
        refine xg_t (xg_iinc (u := 1) (z := 2) (l1 := [(2, (0, f42_16)), (1, (0, 4)), (0, (2, 27))]) rfl rfl (by decide) rfl) ?_
        refine xg_t (xg_goto) ?_
        refine xg_t (xg_blq rfl) ?_
        refine xg_t (xg_iload (va := (0, 2)) rfl rfl) ?_
        refine xg_t (xg_gets) ?_
        refine xg_t (xg_iload (va := (0, 4)) rfl rfl) ?_
        refine xg_t (xg_ald8L (n := 4) (u := 2) xnm0 rfl rfl) ?_
        refine xg_t (xg_icT (u := 2) (v := 2) rfl xnm0 xnm0 (by decide)) ?_
        refine xg_t (xg_blq rfl) ?_
        refine xg_t (xg_iload (va := (0, 4)) rfl rfl) ?_
        refine xg_t (xg_ifT (u := 4) rfl xnm0 (by decide)) ?_
        refine xg_t (xg_blq rfl) ?_
        have ln1179 : lnR B nn p0 = lnS B nn p_1153 := ln1155.trans (lnN_0 (by decide))
        refine xg_t (xg_aload (va := (2, 27)) rfl rfl) ?_
        refine xg_t (xg_getf (va := (2, 42)) (hF1151.get (by decide) (hb1144.get (by decide) (hb1141.get (by decide) (hF1107.get (by decide) (hb1100.get (by decide) (hb1094.get (by decide) (hF1057.get (by decide) (hF33.get (by decide) h27_11)))))))) rfl) ?_
        refine xg_t (xg_bip) ?_
        refine xg_cVi mX8_isSign (vs := [(0, 59)]) (rest := []) (cn1 := 0) (sl1 := 0) rfl (tkSigX42 (hI1150) (by omega) (hB.fr ((hF1151.1 2 (by decide)).trans ((hb1144.1 2 (by decide)).trans ((hb1141.1 2 (by decide)).trans ((hF1107.1 2 (by decide)).trans ((hb1100.1 2 (by decide)).trans ((hb1094.1 2 (by decide)).trans ((hF1057.1 2 (by decide)).trans (hF33.1 2 (by decide)))))))))) hx1152) rfl h42_1172 rfl rfl rfl rfl rfl rfl (fun n1184 w1180 hq1181 => ?_)
        obtain ⟨hn1185, hI1182, hF1183⟩ := hq1181
        rcases hn1185 with ⟨rfl, hsg1186⟩ | ⟨rfl, hsg1186⟩
        · refine xg_t (xg_ifT (u := 1) rfl xnm0 (by decide)) ?_
          refine xg_t (xg_blq rfl) ?_
          refine xg_t (xg_aload (va := (2, 27)) rfl rfl) ?_
          refine xg_t (xg_getf (va := (2, 42)) (hF1183.get (by decide) (hF1151.get (by decide) (hb1144.get (by decide) (hb1141.get (by decide) (hF1107.get (by decide) (hb1100.get (by decide) (hb1094.get (by decide) (hF1057.get (by decide) (hF33.get (by decide) h27_11))))))))) rfl) ?_
          clear ht1156 ht1157 ht1158 ht1159 ht1160 ht1161 hq1174 hq1175 hq1176 hq1177 hq1178
          obtain ⟨⟨ht1187, -, -, ht1188, ht1189⟩, -⟩ := id (hx1152.fr (hF1183.1 42 (by decide)))
          refine xg_cVv mX8_advance (vs := []) (rest := []) (cn1 := 0) (sl1 := 0) rfl (tkAdvX42 (hI1182) (hB.fr ((hF1183.1 2 (by decide)).trans ((hF1151.1 2 (by decide)).trans ((hb1144.1 2 (by decide)).trans ((hb1141.1 2 (by decide)).trans ((hF1107.1 2 (by decide)).trans ((hb1100.1 2 (by decide)).trans ((hb1094.1 2 (by decide)).trans ((hF1057.1 2 (by decide)).trans (hF33.1 2 (by decide))))))))))) ht1187 (by rw [ht1188]; exact tf_le ht1189)) rfl (hF1183.get (by decide) h42_1172) rfl rfl rfl rfl rfl rfl (fun w1190 hq1191 => ?_)
          obtain ⟨hI1192, hF1193, hx1194⟩ := hq1191
          rw [ht1188] at hx1194
          clear ht1187 ht1188 ht1189
          obtain ⟨p_1195, hp1196⟩ : ∃ x, x = tf B nn p_1153 := ⟨_, rfl⟩
          rw [← hp1196] at hx1194
          have ln1197 : lnR B nn p0 = (true, p_1195) := by rw [hp1196]; exact ln1179.trans (lnS_y hsg1186)
          have d1198 : fld w1190 27 7 = fld w 27 7 := (fld_eq (j := 7) ((hF1193.1 27 (by decide)).trans ((hF1183.1 27 (by decide)).trans ((hF1151.1 27 (by decide)).trans ((hb1144.1 27 (by decide)).trans ((hb1141.1 27 (by decide)).trans ((hF1107.1 27 (by decide)).trans ((hb1100.1 27 (by decide)).trans ((hb1094.1 27 (by decide)).trans ((hF1057.1 27 (by decide)).trans (hF33.1 27 (by decide))))))))))))
          have d1199 : fld w1190 27 8 = fld w 27 8 := (fld_eq (j := 8) ((hF1193.1 27 (by decide)).trans ((hF1183.1 27 (by decide)).trans ((hF1151.1 27 (by decide)).trans ((hb1144.1 27 (by decide)).trans ((hb1141.1 27 (by decide)).trans ((hF1107.1 27 (by decide)).trans ((hb1100.1 27 (by decide)).trans ((hb1094.1 27 (by decide)).trans ((hF1057.1 27 (by decide)).trans (hF33.1 27 (by decide))))))))))))
          have d1200 : fld w1190 27 9 = fld w 27 9 := (fld_eq (j := 9) ((hF1193.1 27 (by decide)).trans ((hF1183.1 27 (by decide)).trans ((hF1151.1 27 (by decide)).trans ((hb1144.1 27 (by decide)).trans ((hb1141.1 27 (by decide)).trans ((hF1107.1 27 (by decide)).trans ((hb1100.1 27 (by decide)).trans ((hb1094.1 27 (by decide)).trans ((hF1057.1 27 (by decide)).trans (hF33.1 27 (by decide))))))))))))
          have d1201 : fld w1190 27 10 = fld w 27 10 := (fld_eq (j := 10) ((hF1193.1 27 (by decide)).trans ((hF1183.1 27 (by decide)).trans ((hF1151.1 27 (by decide)).trans ((hb1144.1 27 (by decide)).trans ((hb1141.1 27 (by decide)).trans ((hF1107.1 27 (by decide)).trans ((hb1100.1 27 (by decide)).trans ((hb1094.1 27 (by decide)).trans ((hF1057.1 27 (by decide)).trans (hF33.1 27 (by decide))))))))))))
          have hS1 := hS.1
          have hq1202 : fld w1190 27 9 = f27_7 := fld_of (hF1193.get (by decide) (hF1183.get (by decide) (hF1151.get (by decide) (hb1144.get (by decide) (hb1141.get (by decide) (hF1107.get (by decide) (hb1100.get (by decide) (hb1094.get (by decide) (hF1057.get (by decide) (hF33.get (by decide) h27_11))))))))))
          have n1203 : rwv w1190 39 0 = f42_1076 := (rwv_of ((((hr1140.but hb1144 (by decide)).fr hF1151 (by decide)).fr hF1183 (by decide)).fr hF1193 (by decide)) (by decide)).trans ((if_neg (by decide)).trans (if_pos rfl))
          have n1204 : rwv w1190 39 1 = f42_1126 := (rwv_of ((((hr1140.but hb1144 (by decide)).fr hF1151 (by decide)).fr hF1183 (by decide)).fr hF1193 (by decide)) (by decide)).trans (if_pos rfl)
          have n1205 : rwv w1190 40 0 = f42_1072 := (rwv_of (((hr1143.fr hF1151 (by decide)).fr hF1183 (by decide)).fr hF1193 (by decide)) (by decide)).trans ((if_neg (by decide)).trans (if_pos rfl))
          have n1206 : rwv w1190 40 1 = f42_1122 := (rwv_of (((hr1143.fr hF1151 (by decide)).fr hF1183 (by decide)).fr hF1193 (by decide)) (by decide)).trans (if_pos rfl)
          have vp1207 : vlp B nn p0 0 = p_1059 := hp1060.symm
          have vp1208 : vlp B nn p0 1 = p_1109 := by show tf B nn (vlp B nn p0 0) = p_1109; rw [vp1207, hp1110]
          have vl1209 : vln B nn (lnP B nn k) 0 = f42_1076 := by
            rw [← hp0]
            show (if (0 : Nat) = 3 then _ else tnu B nn (vlp B nn p0 0)) = _
            rw [if_neg (by decide), vp1207]
            exact hv1087.symm
          have vl1210 : vln B nn (lnP B nn k) 1 = f42_1126 := by
            rw [← hp0]
            show (if (1 : Nat) = 3 then _ else tnu B nn (vlp B nn p0 1)) = _
            rw [if_neg (by decide), vp1208]
            exact hv1137.symm
          refine xg_t (xg_aload (va := (2, 27)) rfl rfl) ?_
          refine xg_t (xg_getf (va := (0, f27_7)) (hF1193.get (by decide) (hF1183.get (by decide) (hF1151.get (by decide) (hb1144.get (by decide) (hb1141.get (by decide) (hF1107.get (by decide) (hb1100.get (by decide) (hb1094.get (by decide) (hF1057.get (by decide) (hF33.get (by decide) h27_11)))))))))) rfl) ?_
          by_cases hc1211 : f27_7 = 0
          · refine xg_t (xg_ifF (u := f27_7) rfl xnm0 (xj_neF hc1211)) ?_
            refine xg_t (xg_aload (va := (2, 27)) rfl rfl) ?_
            refine xg_t (xg_iload (va := (0, 4)) rfl rfl) ?_
            refine xg_t (xg_iload (va := (0, f42_16)) rfl rfl) ?_
            refine xg_cVi mX2_isFine (vs := [(0, 4), (0, f42_16)]) (rest := []) (cn1 := 0) (sl1 := 0) rfl (ftFineX4 (hI1192) (by omega)) rfl (hF1193.get (by decide) (hF1183.get (by decide) (hF1151.get (by decide) (hb1144.get (by decide) (hb1141.get (by decide) (hF1107.get (by decide) (hb1100.get (by decide) (hb1094.get (by decide) (hF1057.get (by decide) (hF33.get (by decide) h27_11)))))))))) rfl rfl rfl rfl rfl rfl (fun n1216 w1212 hq1213 => ?_)
            obtain ⟨hn1217, hI1214, hF1215⟩ := hq1213
            have h0_ : (flA B nn k).1 = 0 := by omega
            rcases hn1217 with ⟨rfl, hm1218, hi1219, hi1220, hw1223⟩ | ⟨rfl, hm1218, e91221, e101222⟩ | ⟨rfl, hm1218, hi1219, e91221, e101222⟩ | ⟨rfl, hm1218, hi1219, hi1220, e91221, e101222⟩
            · obtain ⟨mf1, mf2⟩ := manyF4 hS h0_ hsk ((((((((((hF33.up (T := [27, 39, 40, 42]) (by decide)).tr (hF1057.up (T := [27, 39, 40, 42]) (by decide))).tr (xFr.of (S := [27, 39, 40, 42]) hb1094 (by decide))).tr (xFr.of (S := [27, 39, 40, 42]) hb1100 (by decide))).tr (hF1107.up (T := [27, 39, 40, 42]) (by decide))).tr (xFr.of (S := [27, 39, 40, 42]) hb1141 (by decide))).tr (xFr.of (S := [27, 39, 40, 42]) hb1144 (by decide))).tr (hF1151.up (T := [27, 39, 40, 42]) (by decide))).tr (hF1183.up (T := [27, 39, 40, 42]) (by decide))).tr (hF1193.up (T := [27, 39, 40, 42]) (by decide))) d1198 d1199 hm1218
              refine xg_t (xg_ifF (u := 1) rfl xnm0 (by decide)) ?_
              refine xg_t (xg_aload (va := (2, 27)) rfl rfl) ?_
              refine xg_t (xg_iload (va := (0, 4)) rfl rfl) ?_
              refine xg_t (xg_iload (va := (0, f42_16)) rfl rfl) ?_
              refine xoC27 (xqc27 hI1214 : cp27 (wget w1212 27)) (fun f27_1224 f27_1226 f27_1228 f27_1230 f27_1232 h27_1234 hb1225 hb1227 hb1229 hb1231 hb1233 => ?_)
              refine xg_cVv mX2_take (vs := [(0, 4), (0, f42_16)]) (rest := []) (cn1 := 0) (sl1 := 0) rfl (ftTakeX4 (hI1214) (by omega) (by rw [fld_eq (j := 3) (hw1223.1 37 List.not_mem_nil)]; exact Nat.lt_of_not_le hm1218)) rfl h27_1234 rfl rfl rfl rfl rfl rfl (fun w1235 hq1236 => ?_)
              obtain ⟨hI1237, hF1238, hx1239⟩ := hq1236
              refine xg_t (xg_blq rfl) ?_
              refine xg_t (xg_const) ?_
              have l91240 : fld w1235 28 9 = fld w 28 9 := fld_eq (j := 9) ((hF1238.1 28 (by decide)).trans ((hF1215.1 28 (by decide)).trans ((hF1193.1 28 (by decide)).trans ((hF1183.1 28 (by decide)).trans ((hF1151.1 28 (by decide)).trans ((hb1144.1 28 (by decide)).trans ((hb1141.1 28 (by decide)).trans ((hF1107.1 28 (by decide)).trans ((hb1100.1 28 (by decide)).trans ((hb1094.1 28 (by decide)).trans ((hF1057.1 28 (by decide)).trans (hF33.1 28 (by decide)))))))))))))
              have he1241 : lnP B nn (k + 1) = p_1195 := by
                show (lnR B nn (lnP B nn k)).2 = _
                rw [← hp0, ln1197]
              have hfl := flt_ok hsk mf1 mf2 (show lst0 4 ≤ vln B nn (lnP B nn k) 0 ∧ vln B nn (lnP B nn k) 0 ≤ grt0 4 from (show 0 ≤ vln B nn (lnP B nn k) 0 ∧ vln B nn (lnP B nn k) 0 ≤ 9 by omega)) (show lst1 4 ≤ vln B nn (lnP B nn k) 1 ∧ vln B nn (lnP B nn k) 1 ≤ grt1 4 from (show 0 ≤ vln B nn (lnP B nn k) 1 ∧ vln B nn (lnP B nn k) 1 ≤ 9 by omega)) (fun z => absurd z (by decide))
              have e1_ : ∀ c j, fld w1212 c j = fld w1190 c j := fun c j => fld_eq (hw1223.1 c List.not_mem_nil)
              have e2_ : ∀ c, rwv w1212 c = rwv w1190 c := fun c => rwf_eq (hw1223.1 c List.not_mem_nil)
              simp only [e1_, e2_] at hx1239
              have hF1243 := (hw1223.up (fun _ h => absurd h List.not_mem_nil)).tr hF1238
              have nv1244 : ∀ t, t < 2 → rwv w1190 39 t = vln B nn (lnP B nn k) t := fun t ht => by
                rcases (show t = 0 ∨ t = 1 by omega) with rfl | rfl
                · exact n1203.trans vl1209.symm
                · exact n1204.trans vl1210.symm
              obtain ⟨t11245, t21246, t31247, t51248, t61249⟩ := hx1239
              have hC1242 := CSTok4 hS h0_ hsk ((((((((((hF33.up (T := [27, 39, 40, 42]) (by decide)).tr (hF1057.up (T := [27, 39, 40, 42]) (by decide))).tr (xFr.of (S := [27, 39, 40, 42]) hb1094 (by decide))).tr (xFr.of (S := [27, 39, 40, 42]) hb1100 (by decide))).tr (hF1107.up (T := [27, 39, 40, 42]) (by decide))).tr (xFr.of (S := [27, 39, 40, 42]) hb1141 (by decide))).tr (xFr.of (S := [27, 39, 40, 42]) hb1144 (by decide))).tr (hF1151.up (T := [27, 39, 40, 42]) (by decide))).tr (hF1183.up (T := [27, 39, 40, 42]) (by decide))).tr (hF1193.up (T := [27, 39, 40, 42]) (by decide))) d1198 d1199 d1200 hfl hF1243 t11245 t21246 (fun t ht => (t31247 t ht).trans (nv1244 t ht)) (t51248.trans (by rw [← hp0]; omega)) t61249
              exact xg_e ⟨1, w1235, ⟨rfl, rfl⟩, ⟨Or.inl ⟨rfl, by rw [ln1197], by rw [he1241]; exact (hx1194.fr ((hF1238.1 42 (by decide)).trans (hF1215.1 42 (by decide)))), hC1242⟩, l91240⟩, hI1237, ((((((((((hF33.up (by decide)).tr (hF1057.up (by decide))).tr ((xFr.of (S := [27, 28, 29, 30, 31, 32, 33, 34, 35, 36, 37, 38, 39, 40, 41, 42]) hb1094 (by decide)).tr (xFr.of (S := [27, 28, 29, 30, 31, 32, 33, 34, 35, 36, 37, 38, 39, 40, 41, 42]) hb1100 (by decide)))).tr (hF1107.up (by decide))).tr ((xFr.of (S := [27, 28, 29, 30, 31, 32, 33, 34, 35, 36, 37, 38, 39, 40, 41, 42]) hb1141 (by decide)).tr (xFr.of (S := [27, 28, 29, 30, 31, 32, 33, 34, 35, 36, 37, 38, 39, 40, 41, 42]) hb1144 (by decide)))).tr (hF1151.up (by decide))).tr (hF1183.up (by decide))).tr (hF1193.up (by decide))).tr (hF1215.up (by decide))).tr (hF1238.up (by decide)))⟩
            · have hfl := manyT4 hS h0_ hsk ((((((((((hF33.up (T := [27, 39, 40, 42]) (by decide)).tr (hF1057.up (T := [27, 39, 40, 42]) (by decide))).tr (xFr.of (S := [27, 39, 40, 42]) hb1094 (by decide))).tr (xFr.of (S := [27, 39, 40, 42]) hb1100 (by decide))).tr (hF1107.up (T := [27, 39, 40, 42]) (by decide))).tr (xFr.of (S := [27, 39, 40, 42]) hb1141 (by decide))).tr (xFr.of (S := [27, 39, 40, 42]) hb1144 (by decide))).tr (hF1151.up (T := [27, 39, 40, 42]) (by decide))).tr (hF1183.up (T := [27, 39, 40, 42]) (by decide))).tr (hF1193.up (T := [27, 39, 40, 42]) (by decide))) d1198 d1199 hm1218
              refine xg_t (xg_ifT (u := 0) rfl xnm0 (by decide)) ?_
              refine xg_t (xg_blq rfl) ?_
              refine xg_t (xg_const) ?_
              have l91250 : fld w1212 28 9 = fld w 28 9 := fld_eq (j := 9) ((hF1215.1 28 (by decide)).trans ((hF1193.1 28 (by decide)).trans ((hF1183.1 28 (by decide)).trans ((hF1151.1 28 (by decide)).trans ((hb1144.1 28 (by decide)).trans ((hb1141.1 28 (by decide)).trans ((hF1107.1 28 (by decide)).trans ((hb1100.1 28 (by decide)).trans ((hb1094.1 28 (by decide)).trans ((hF1057.1 28 (by decide)).trans (hF33.1 28 (by decide))))))))))))
              have he1251 : lnP B nn (k + 1) = p_1195 := by
                show (lnR B nn (lnP B nn k)).2 = _
                rw [← hp0, ln1197]
              have hC1252 := CST.bad h0_ hfl (by decide) e91221 (e101222.trans (by rw [← hp0]; omega))
              exact xg_e ⟨1, w1212, ⟨rfl, rfl⟩, ⟨Or.inl ⟨rfl, by rw [ln1197], by rw [he1251]; exact (hx1194.fr (hF1215.1 42 (by decide))), hC1252⟩, l91250⟩, hI1214, (((((((((hF33.up (by decide)).tr (hF1057.up (by decide))).tr ((xFr.of (S := [27, 28, 29, 30, 31, 32, 33, 34, 35, 36, 37, 38, 39, 40, 41, 42]) hb1094 (by decide)).tr (xFr.of (S := [27, 28, 29, 30, 31, 32, 33, 34, 35, 36, 37, 38, 39, 40, 41, 42]) hb1100 (by decide)))).tr (hF1107.up (by decide))).tr ((xFr.of (S := [27, 28, 29, 30, 31, 32, 33, 34, 35, 36, 37, 38, 39, 40, 41, 42]) hb1141 (by decide)).tr (xFr.of (S := [27, 28, 29, 30, 31, 32, 33, 34, 35, 36, 37, 38, 39, 40, 41, 42]) hb1144 (by decide)))).tr (hF1151.up (by decide))).tr (hF1183.up (by decide))).tr (hF1193.up (by decide))).tr (hF1215.up (by decide)))⟩
            · obtain ⟨mf1, mf2⟩ := manyF4 hS h0_ hsk ((((((((((hF33.up (T := [27, 39, 40, 42]) (by decide)).tr (hF1057.up (T := [27, 39, 40, 42]) (by decide))).tr (xFr.of (S := [27, 39, 40, 42]) hb1094 (by decide))).tr (xFr.of (S := [27, 39, 40, 42]) hb1100 (by decide))).tr (hF1107.up (T := [27, 39, 40, 42]) (by decide))).tr (xFr.of (S := [27, 39, 40, 42]) hb1141 (by decide))).tr (xFr.of (S := [27, 39, 40, 42]) hb1144 (by decide))).tr (hF1151.up (T := [27, 39, 40, 42]) (by decide))).tr (hF1183.up (T := [27, 39, 40, 42]) (by decide))).tr (hF1193.up (T := [27, 39, 40, 42]) (by decide))) d1198 d1199 hm1218
              have hfl := flt_0 hsk mf1 mf2 (show ¬ _ from fun z => hi1219 (by have z : 0 ≤ _ ∧ _ ≤ 9 := z; omega))
              refine xg_t (xg_ifT (u := 0) rfl xnm0 (by decide)) ?_
              refine xg_t (xg_blq rfl) ?_
              refine xg_t (xg_const) ?_
              have l91253 : fld w1212 28 9 = fld w 28 9 := fld_eq (j := 9) ((hF1215.1 28 (by decide)).trans ((hF1193.1 28 (by decide)).trans ((hF1183.1 28 (by decide)).trans ((hF1151.1 28 (by decide)).trans ((hb1144.1 28 (by decide)).trans ((hb1141.1 28 (by decide)).trans ((hF1107.1 28 (by decide)).trans ((hb1100.1 28 (by decide)).trans ((hb1094.1 28 (by decide)).trans ((hF1057.1 28 (by decide)).trans (hF33.1 28 (by decide))))))))))))
              have he1254 : lnP B nn (k + 1) = p_1195 := by
                show (lnR B nn (lnP B nn k)).2 = _
                rw [← hp0, ln1197]
              have hC1255 := CST.bad h0_ hfl (by decide) e91221 (e101222.trans (n1205.trans (by rw [← hp0, vp1207]; exact hw1088)))
              exact xg_e ⟨1, w1212, ⟨rfl, rfl⟩, ⟨Or.inl ⟨rfl, by rw [ln1197], by rw [he1254]; exact (hx1194.fr (hF1215.1 42 (by decide))), hC1255⟩, l91253⟩, hI1214, (((((((((hF33.up (by decide)).tr (hF1057.up (by decide))).tr ((xFr.of (S := [27, 28, 29, 30, 31, 32, 33, 34, 35, 36, 37, 38, 39, 40, 41, 42]) hb1094 (by decide)).tr (xFr.of (S := [27, 28, 29, 30, 31, 32, 33, 34, 35, 36, 37, 38, 39, 40, 41, 42]) hb1100 (by decide)))).tr (hF1107.up (by decide))).tr ((xFr.of (S := [27, 28, 29, 30, 31, 32, 33, 34, 35, 36, 37, 38, 39, 40, 41, 42]) hb1141 (by decide)).tr (xFr.of (S := [27, 28, 29, 30, 31, 32, 33, 34, 35, 36, 37, 38, 39, 40, 41, 42]) hb1144 (by decide)))).tr (hF1151.up (by decide))).tr (hF1183.up (by decide))).tr (hF1193.up (by decide))).tr (hF1215.up (by decide)))⟩
            · obtain ⟨mf1, mf2⟩ := manyF4 hS h0_ hsk ((((((((((hF33.up (T := [27, 39, 40, 42]) (by decide)).tr (hF1057.up (T := [27, 39, 40, 42]) (by decide))).tr (xFr.of (S := [27, 39, 40, 42]) hb1094 (by decide))).tr (xFr.of (S := [27, 39, 40, 42]) hb1100 (by decide))).tr (hF1107.up (T := [27, 39, 40, 42]) (by decide))).tr (xFr.of (S := [27, 39, 40, 42]) hb1141 (by decide))).tr (xFr.of (S := [27, 39, 40, 42]) hb1144 (by decide))).tr (hF1151.up (T := [27, 39, 40, 42]) (by decide))).tr (hF1183.up (T := [27, 39, 40, 42]) (by decide))).tr (hF1193.up (T := [27, 39, 40, 42]) (by decide))) d1198 d1199 hm1218
              have hfl := flt_1 hsk mf1 mf2 (show lst0 4 ≤ vln B nn (lnP B nn k) 0 ∧ vln B nn (lnP B nn k) 0 ≤ grt0 4 from (show 0 ≤ vln B nn (lnP B nn k) 0 ∧ vln B nn (lnP B nn k) 0 ≤ 9 by omega)) (show ¬ _ from fun z => hi1220 (by have z : 0 ≤ _ ∧ _ ≤ 9 := z; omega))
              refine xg_t (xg_ifT (u := 0) rfl xnm0 (by decide)) ?_
              refine xg_t (xg_blq rfl) ?_
              refine xg_t (xg_const) ?_
              have l91256 : fld w1212 28 9 = fld w 28 9 := fld_eq (j := 9) ((hF1215.1 28 (by decide)).trans ((hF1193.1 28 (by decide)).trans ((hF1183.1 28 (by decide)).trans ((hF1151.1 28 (by decide)).trans ((hb1144.1 28 (by decide)).trans ((hb1141.1 28 (by decide)).trans ((hF1107.1 28 (by decide)).trans ((hb1100.1 28 (by decide)).trans ((hb1094.1 28 (by decide)).trans ((hF1057.1 28 (by decide)).trans (hF33.1 28 (by decide))))))))))))
              have he1257 : lnP B nn (k + 1) = p_1195 := by
                show (lnR B nn (lnP B nn k)).2 = _
                rw [← hp0, ln1197]
              have hC1258 := CST.bad h0_ hfl (by decide) e91221 (e101222.trans (n1206.trans (by rw [← hp0, vp1208]; exact hw1138)))
              exact xg_e ⟨1, w1212, ⟨rfl, rfl⟩, ⟨Or.inl ⟨rfl, by rw [ln1197], by rw [he1257]; exact (hx1194.fr (hF1215.1 42 (by decide))), hC1258⟩, l91256⟩, hI1214, (((((((((hF33.up (by decide)).tr (hF1057.up (by decide))).tr ((xFr.of (S := [27, 28, 29, 30, 31, 32, 33, 34, 35, 36, 37, 38, 39, 40, 41, 42]) hb1094 (by decide)).tr (xFr.of (S := [27, 28, 29, 30, 31, 32, 33, 34, 35, 36, 37, 38, 39, 40, 41, 42]) hb1100 (by decide)))).tr (hF1107.up (by decide))).tr ((xFr.of (S := [27, 28, 29, 30, 31, 32, 33, 34, 35, 36, 37, 38, 39, 40, 41, 42]) hb1141 (by decide)).tr (xFr.of (S := [27, 28, 29, 30, 31, 32, 33, 34, 35, 36, 37, 38, 39, 40, 41, 42]) hb1144 (by decide)))).tr (hF1151.up (by decide))).tr (hF1183.up (by decide))).tr (hF1193.up (by decide))).tr (hF1215.up (by decide)))⟩
          · refine xg_t (xg_ifT (u := f27_7) rfl xnm0 (xj_neT hc1211)) ?_
            refine xg_t (xg_blq rfl) ?_
            refine xg_t (xg_const) ?_
            have l91259 : fld w1190 28 9 = fld w 28 9 := fld_eq (j := 9) ((hF1193.1 28 (by decide)).trans ((hF1183.1 28 (by decide)).trans ((hF1151.1 28 (by decide)).trans ((hb1144.1 28 (by decide)).trans ((hb1141.1 28 (by decide)).trans ((hF1107.1 28 (by decide)).trans ((hb1100.1 28 (by decide)).trans ((hb1094.1 28 (by decide)).trans ((hF1057.1 28 (by decide)).trans (hF33.1 28 (by decide)))))))))))
            have he1260 : lnP B nn (k + 1) = p_1195 := by
              show (lnR B nn (lnP B nn k)).2 = _
              rw [← hp0, ln1197]
            have hC1261 := hS.st (by omega) d1200 d1201
            exact xg_e ⟨1, w1190, ⟨rfl, rfl⟩, ⟨Or.inl ⟨rfl, by rw [ln1197], by rw [he1260]; exact hx1194, hC1261⟩, l91259⟩, hI1192, ((((((((hF33.up (by decide)).tr (hF1057.up (by decide))).tr ((xFr.of (S := [27, 28, 29, 30, 31, 32, 33, 34, 35, 36, 37, 38, 39, 40, 41, 42]) hb1094 (by decide)).tr (xFr.of (S := [27, 28, 29, 30, 31, 32, 33, 34, 35, 36, 37, 38, 39, 40, 41, 42]) hb1100 (by decide)))).tr (hF1107.up (by decide))).tr ((xFr.of (S := [27, 28, 29, 30, 31, 32, 33, 34, 35, 36, 37, 38, 39, 40, 41, 42]) hb1141 (by decide)).tr (xFr.of (S := [27, 28, 29, 30, 31, 32, 33, 34, 35, 36, 37, 38, 39, 40, 41, 42]) hb1144 (by decide)))).tr (hF1151.up (by decide))).tr (hF1183.up (by decide))).tr (hF1193.up (by decide)))⟩
        · have lf1262 : lnR B nn p0 = (false, p_1153) := ln1179.trans (lnS_n hsg1186)
          refine xg_t (xg_ifF (u := 0) rfl xnm0 (by decide)) ?_
          refine xg_t (xg_const) ?_
          have l91263 : fld w1180 28 9 = fld w 28 9 := fld_eq (j := 9) ((hF1183.1 28 (by decide)).trans ((hF1151.1 28 (by decide)).trans ((hb1144.1 28 (by decide)).trans ((hb1141.1 28 (by decide)).trans ((hF1107.1 28 (by decide)).trans ((hb1100.1 28 (by decide)).trans ((hb1094.1 28 (by decide)).trans ((hF1057.1 28 (by decide)).trans (hF33.1 28 (by decide))))))))))
          exact xg_e ⟨0, w1180, ⟨rfl, rfl⟩, ⟨Or.inr ⟨rfl, by rw [lf1262]; exact Bool.false_ne_true, by rw [lf1262]; exact (hx1152.fr (hF1183.1 42 (by decide))).1.2.2.1⟩, l91263⟩, hI1182, (((((((hF33.up (by decide)).tr (hF1057.up (by decide))).tr ((xFr.of (S := [27, 28, 29, 30, 31, 32, 33, 34, 35, 36, 37, 38, 39, 40, 41, 42]) hb1094 (by decide)).tr (xFr.of (S := [27, 28, 29, 30, 31, 32, 33, 34, 35, 36, 37, 38, 39, 40, 41, 42]) hb1100 (by decide)))).tr (hF1107.up (by decide))).tr ((xFr.of (S := [27, 28, 29, 30, 31, 32, 33, 34, 35, 36, 37, 38, 39, 40, 41, 42]) hb1141 (by decide)).tr (xFr.of (S := [27, 28, 29, 30, 31, 32, 33, 34, 35, 36, 37, 38, 39, 40, 41, 42]) hb1144 (by decide)))).tr (hF1151.up (by decide))).tr (hF1183.up (by decide)))⟩
      · refine xg_t (xg_icF (u := f42_1120) (v := 2) rfl xnm0 xnm0 (xj_eqF hc1135)) ?_
        have lf1264 : lnR B nn p0 = (false, p_1109) := ln1111.trans (lnN_n (k := 0) (by omega))
        refine xg_t (xg_const) ?_
        have l91265 : fld w1104 28 9 = fld w 28 9 := fld_eq (j := 9) ((hF1107.1 28 (by decide)).trans ((hb1100.1 28 (by decide)).trans ((hb1094.1 28 (by decide)).trans ((hF1057.1 28 (by decide)).trans (hF33.1 28 (by decide))))))
        exact xg_e ⟨0, w1104, ⟨rfl, rfl⟩, ⟨Or.inr ⟨rfl, by rw [lf1264]; exact Bool.false_ne_true, by rw [lf1264]; exact hx1108.1.2.2.1⟩, l91265⟩, hI1106, ((((hF33.up (by decide)).tr (hF1057.up (by decide))).tr ((xFr.of (S := [27, 28, 29, 30, 31, 32, 33, 34, 35, 36, 37, 38, 39, 40, 41, 42]) hb1094 (by decide)).tr (xFr.of (S := [27, 28, 29, 30, 31, 32, 33, 34, 35, 36, 37, 38, 39, 40, 41, 42]) hb1100 (by decide)))).tr (hF1107.up (by decide)))⟩
    · refine xg_t (xg_icF (u := f42_1070) (v := 2) rfl xnm0 xnm0 (xj_eqF hc1085)) ?_
      have lf1266 : lnR B nn p0 = (false, p_1059) := ln1061.trans (lnN_n (k := 1) (by omega))
      refine xg_t (xg_const) ?_
      have l91267 : fld w1054 28 9 = fld w 28 9 := fld_eq (j := 9) ((hF1057.1 28 (by decide)).trans (hF33.1 28 (by decide)))
      exact xg_e ⟨0, w1054, ⟨rfl, rfl⟩, ⟨Or.inr ⟨rfl, by rw [lf1266]; exact Bool.false_ne_true, by rw [lf1266]; exact hx1058.1.2.2.1⟩, l91267⟩, hI1056, ((hF33.up (by decide)).tr (hF1057.up (by decide)))⟩
  · have hsk : slt B nn (lnP B nn k) = 5 := by rw [← hp0]; exact hs
    refine xg_t (xg_istore (l1 := [(0, (2, 27))]) rfl rfl rfl) ?_
    refine xg_t (xg_aload (va := (2, 27)) rfl rfl) ?_
    refine xg_t (xg_getf (va := (2, 42)) (hF33.get (by decide) h27_11) rfl) ?_
    refine xg_t (xg_getf (va := (0, f42_16)) (hF33.get (by decide) h42_22) rfl) ?_
    refine xg_t (xg_istore (l1 := [(1, (0, 5)), (0, (2, 27))]) rfl rfl rfl) ?_
    refine xg_t (xg_iload (va := (0, 5)) rfl rfl) ?_
    refine xg_t (xg_const) ?_
    refine xg_t (xg_icT (u := 5) (v := 4294967295) rfl xnm0 xnm0 (by decide)) ?_
    refine xg_t (xg_blq rfl) ?_
    refine xg_t (xg_aload (va := (2, 27)) rfl rfl) ?_
    refine xg_t (xg_getf (va := (2, 42)) (hF33.get (by decide) h27_11) rfl) ?_
    obtain ⟨⟨ht1268, -, -, ht1269, ht1270⟩, -⟩ := id (hT.fr (hF33.1 42 (by decide)))
    refine xg_cVv mX8_advance (vs := []) (rest := []) (cn1 := 0) (sl1 := 0) rfl (tkAdvX42 (hI32) (hB.fr (hF33.1 2 (by decide))) ht1268 (by rw [ht1269]; exact tf_le ht1270)) rfl (hF33.get (by decide) h42_22) rfl rfl rfl rfl rfl rfl (fun w1271 hq1272 => ?_)
    obtain ⟨hI1273, hF1274, hx1275⟩ := hq1272
    rw [ht1269] at hx1275
    clear ht1268 ht1269 ht1270
    obtain ⟨p_1276, hp1277⟩ : ∃ x, x = tf B nn p0 := ⟨_, rfl⟩
    rw [← hp1277] at hx1275
    have ln1278 : lnR B nn p0 = lnN B nn 5 2 p_1276 := by rw [hp1277]; exact lnR_go hs (by decide)
    obtain ⟨⟨ht1279, ht1280, ht1281, ht1282, ht1283⟩, ht1284⟩ := id hx1275
    refine xoC42 (xqc42 hI1273 : cp42 (wget w1271 42)) (fun f42_1285 f42_1287 f42_1289 f42_1291 f42_1293 h42_1295 hb1286 hb1288 hb1290 hb1292 hb1294 hb1296 => ?_)
    have hq1297 : fld w1271 42 1 = f42_1285 := fld_of h42_1295
    have hq1298 : fld w1271 42 2 = f42_1287 := fld_of h42_1295
    have hq1299 : fld w1271 42 3 = f42_1289 := fld_of h42_1295
    have hq1300 : fld w1271 42 4 = f42_1291 := fld_of h42_1295
    have hq1301 : fld w1271 42 5 = f42_1293 := fld_of h42_1295
    refine xg_t (xg_const) ?_
    refine xg_t (xg_istore (l1 := [(2, (0, f42_16)), (1, (0, 5)), (0, (2, 27))]) rfl rfl rfl) ?_
    refine xg_t (xg_blq rfl) ?_
    refine xg_t (xg_iload (va := (0, 0)) rfl rfl) ?_
    refine xg_t (xg_gets) ?_
    refine xg_t (xg_iload (va := (0, 5)) rfl rfl) ?_
    refine xg_t (xg_ald8L (n := 5) (u := 2) xnm0 rfl rfl) ?_
    refine xg_t (xg_icF (u := 0) (v := 2) rfl xnm0 xnm0 (by decide)) ?_
    refine xg_t (xg_iload (va := (0, 0)) rfl rfl) ?_
    refine xg_t (xg_const) ?_
    refine xg_t (xg_icF (u := 0) (v := 3) rfl xnm0 xnm0 (by decide)) ?_
    refine xg_t (xg_aload (va := (2, 27)) rfl rfl) ?_
    refine xg_t (xg_getf (va := (2, 42)) (hF1274.get (by decide) (hF33.get (by decide) h27_11)) rfl) ?_
    refine xg_t (xg_getf (va := (0, f42_1287)) h42_1295 rfl) ?_
    refine xg_t (xg_const) ?_
    by_cases hc1302 : f42_1287 = 2
    · refine xg_t (xg_icT (u := f42_1287) (v := 2) rfl xnm0 xnm0 (xj_eqT hc1302)) ?_
      refine xg_t (xg_blq rfl) ?_
      have hk1303 : tkd B nn p_1276 = 2 := by omega
      have hv1304 : f42_1293 = tnu B nn p_1276 := hq1301.symm.trans (ht1284 hk1303)
      have hw1305 : f42_1289 = tq B nn p_1276 := by omega
      refine xg_t (xg_aload (va := (2, 27)) rfl rfl) ?_
      refine xg_t (xg_getf (va := (2, 39)) (hF1274.get (by decide) (hF33.get (by decide) h27_11)) rfl) ?_
      refine xg_t (xg_iload (va := (0, 0)) rfl rfl) ?_
      refine xg_t (xg_aload (va := (2, 27)) rfl rfl) ?_
      refine xg_t (xg_getf (va := (2, 42)) (hF1274.get (by decide) (hF33.get (by decide) h27_11)) rfl) ?_
      refine xg_t (xg_getf (va := (0, f42_1293)) h42_1295 rfl) ?_
      refine xoI (xqc39 hI1273 : cpI 3 18 4294967295 (wget w1271 39)) (fun g39_1306 h39_1307 hb1308 => ?_)
      refine xg_iastK (n := 0) (u := f42_1293) h39_1307 xnm0 xnm0 rfl (by first | decide | omega) (fun w1309 hr1310 hb1311 => ?_)
      refine xg_t (xg_aload (va := (2, 27)) rfl rfl) ?_
      refine xg_t (xg_getf (va := (2, 40)) (hb1311.get (by decide) (hF1274.get (by decide) (hF33.get (by decide) h27_11))) rfl) ?_
      refine xg_t (xg_iload (va := (0, 0)) rfl rfl) ?_
      refine xg_t (xg_aload (va := (2, 27)) rfl rfl) ?_
      refine xg_t (xg_getf (va := (2, 42)) (hb1311.get (by decide) (hF1274.get (by decide) (hF33.get (by decide) h27_11))) rfl) ?_
      refine xg_t (xg_getf (va := (0, f42_1289)) (hb1311.get (by decide) h42_1295) rfl) ?_
      refine xoI (xqc40 hI1273 : cpI 3 19 4294967295 (wget w1271 40)) (fun g40_1312 h40_1313 hb1314 => ?_)
      refine xg_iastK (n := 0) (u := f42_1289) (h40_1313.but hb1311 (by decide)) xnm0 xnm0 rfl (by first | decide | omega) (fun w1315 hr1316 hb1317 => ?_)
      refine xg_t (xg_aload (va := (2, 27)) rfl rfl) ?_
      refine xg_t (xg_getf (va := (2, 42)) (hb1317.get (by decide) (hb1311.get (by decide) (hF1274.get (by decide) (hF33.get (by decide) h27_11)))) rfl) ?_
      clear ht1279 ht1280 ht1281 ht1282 ht1283 ht1284 hq1297 hq1298 hq1299 hq1300 hq1301
      obtain ⟨⟨ht1318, -, -, ht1319, ht1320⟩, -⟩ := id (hx1275.fr ((hb1317.1 42 (by decide)).trans (hb1311.1 42 (by decide))))
      refine xg_cVv mX8_advance (vs := []) (rest := []) (cn1 := 0) (sl1 := 0) rfl (tkAdvX42 (xInv.up (S := [39, 40]) hI1273 ((xFr.of (S := [39, 40]) hb1311 (by decide)).tr (xFr.of (S := [39, 40]) hb1317 (by decide))) (List.forall_mem_cons.mpr ⟨xqu39 (show cpI 3 18 4294967295 (wget w1315 39) from ⟨_, (hr1310.but hb1317 (by decide)), xrb (by omega) (hb1308)⟩), List.forall_mem_cons.mpr ⟨xqu40 (show cpI 3 19 4294967295 (wget w1315 40) from ⟨_, hr1316, xrb (by omega) (hb1314)⟩), fun _ h => absurd h List.not_mem_nil⟩⟩)) (hB.fr ((hb1317.1 2 (by decide)).trans ((hb1311.1 2 (by decide)).trans ((hF1274.1 2 (by decide)).trans (hF33.1 2 (by decide)))))) ht1318 (by rw [ht1319]; exact tf_le ht1320)) rfl (hb1317.get (by decide) (hb1311.get (by decide) h42_1295)) rfl rfl rfl rfl rfl rfl (fun w1321 hq1322 => ?_)
      obtain ⟨hI1323, hF1324, hx1325⟩ := hq1322
      rw [ht1319] at hx1325
      clear ht1318 ht1319 ht1320
      obtain ⟨p_1326, hp1327⟩ : ∃ x, x = tf B nn p_1276 := ⟨_, rfl⟩
      rw [← hp1327] at hx1325
      have ln1328 : lnR B nn p0 = lnN B nn 5 1 p_1326 := by rw [hp1327]; exact ln1278.trans (lnN_y (k := 1) hk1303)
      obtain ⟨⟨ht1329, ht1330, ht1331, ht1332, ht1333⟩, ht1334⟩ := id hx1325
      refine xoC42 (xqc42 hI1323 : cp42 (wget w1321 42)) (fun f42_1335 f42_1337 f42_1339 f42_1341 f42_1343 h42_1345 hb1336 hb1338 hb1340 hb1342 hb1344 hb1346 => ?_)
      have hq1347 : fld w1321 42 1 = f42_1335 := fld_of h42_1345
      have hq1348 : fld w1321 42 2 = f42_1337 := fld_of h42_1345
      have hq1349 : fld w1321 42 3 = f42_1339 := fld_of h42_1345
      have hq1350 : fld w1321 42 4 = f42_1341 := fld_of h42_1345
      have hq1351 : fld w1321 42 5 = f42_1343 := fld_of h42_1345
      refine xg_t (xg_iinc (u := 0) (z := 1) (l1 := [(2, (0, f42_16)), (1, (0, 5)), (0, (2, 27))]) rfl rfl (by decide) rfl) ?_
      refine xg_t (xg_goto) ?_
      refine xg_t (xg_blq rfl) ?_
      refine xg_t (xg_iload (va := (0, 1)) rfl rfl) ?_
      refine xg_t (xg_gets) ?_
      refine xg_t (xg_iload (va := (0, 5)) rfl rfl) ?_
      refine xg_t (xg_ald8L (n := 5) (u := 2) xnm0 rfl rfl) ?_
      refine xg_t (xg_icF (u := 1) (v := 2) rfl xnm0 xnm0 (by decide)) ?_
      refine xg_t (xg_iload (va := (0, 1)) rfl rfl) ?_
      refine xg_t (xg_const) ?_
      refine xg_t (xg_icF (u := 1) (v := 3) rfl xnm0 xnm0 (by decide)) ?_
      refine xg_t (xg_aload (va := (2, 27)) rfl rfl) ?_
      refine xg_t (xg_getf (va := (2, 42)) (hF1324.get (by decide) (hb1317.get (by decide) (hb1311.get (by decide) (hF1274.get (by decide) (hF33.get (by decide) h27_11))))) rfl) ?_
      refine xg_t (xg_getf (va := (0, f42_1337)) h42_1345 rfl) ?_
      refine xg_t (xg_const) ?_
      by_cases hc1352 : f42_1337 = 2
      · refine xg_t (xg_icT (u := f42_1337) (v := 2) rfl xnm0 xnm0 (xj_eqT hc1352)) ?_
        refine xg_t (xg_blq rfl) ?_
        have hk1353 : tkd B nn p_1326 = 2 := by omega
        have hv1354 : f42_1343 = tnu B nn p_1326 := hq1351.symm.trans (ht1334 hk1353)
        have hw1355 : f42_1339 = tq B nn p_1326 := by omega
        refine xg_t (xg_aload (va := (2, 27)) rfl rfl) ?_
        refine xg_t (xg_getf (va := (2, 39)) (hF1324.get (by decide) (hb1317.get (by decide) (hb1311.get (by decide) (hF1274.get (by decide) (hF33.get (by decide) h27_11))))) rfl) ?_
        refine xg_t (xg_iload (va := (0, 1)) rfl rfl) ?_
        refine xg_t (xg_aload (va := (2, 27)) rfl rfl) ?_
        refine xg_t (xg_getf (va := (2, 42)) (hF1324.get (by decide) (hb1317.get (by decide) (hb1311.get (by decide) (hF1274.get (by decide) (hF33.get (by decide) h27_11))))) rfl) ?_
        refine xg_t (xg_getf (va := (0, f42_1343)) h42_1345 rfl) ?_
        refine xg_iastK (n := 1) (u := f42_1343) ((hr1310.but hb1317 (by decide)).fr hF1324 (by decide)) xnm0 xnm0 rfl (by first | decide | omega) (fun w1356 hr1357 hb1358 => ?_)
        refine xg_t (xg_aload (va := (2, 27)) rfl rfl) ?_
        refine xg_t (xg_getf (va := (2, 40)) (hb1358.get (by decide) (hF1324.get (by decide) (hb1317.get (by decide) (hb1311.get (by decide) (hF1274.get (by decide) (hF33.get (by decide) h27_11)))))) rfl) ?_
        refine xg_t (xg_iload (va := (0, 1)) rfl rfl) ?_
        refine xg_t (xg_aload (va := (2, 27)) rfl rfl) ?_
        refine xg_t (xg_getf (va := (2, 42)) (hb1358.get (by decide) (hF1324.get (by decide) (hb1317.get (by decide) (hb1311.get (by decide) (hF1274.get (by decide) (hF33.get (by decide) h27_11)))))) rfl) ?_
        refine xg_t (xg_getf (va := (0, f42_1339)) (hb1358.get (by decide) h42_1345) rfl) ?_
        refine xg_iastK (n := 1) (u := f42_1339) ((hr1316.fr hF1324 (by decide)).but hb1358 (by decide)) xnm0 xnm0 rfl (by first | decide | omega) (fun w1359 hr1360 hb1361 => ?_)
        refine xg_t (xg_aload (va := (2, 27)) rfl rfl) ?_
        refine xg_t (xg_getf (va := (2, 42)) (hb1361.get (by decide) (hb1358.get (by decide) (hF1324.get (by decide) (hb1317.get (by decide) (hb1311.get (by decide) (hF1274.get (by decide) (hF33.get (by decide) h27_11))))))) rfl) ?_
        clear ht1329 ht1330 ht1331 ht1332 ht1333 ht1334 hq1347 hq1348 hq1349 hq1350 hq1351
        obtain ⟨⟨ht1362, -, -, ht1363, ht1364⟩, -⟩ := id (hx1325.fr ((hb1361.1 42 (by decide)).trans (hb1358.1 42 (by decide))))
        refine xg_cVv mX8_advance (vs := []) (rest := []) (cn1 := 0) (sl1 := 0) rfl (tkAdvX42 (xInv.up (S := [39, 40]) hI1323 ((xFr.of (S := [39, 40]) hb1358 (by decide)).tr (xFr.of (S := [39, 40]) hb1361 (by decide))) (List.forall_mem_cons.mpr ⟨xqu39 (show cpI 3 18 4294967295 (wget w1359 39) from ⟨_, (hr1357.but hb1361 (by decide)), xrb (by omega) (xrb (by omega) (hb1308))⟩), List.forall_mem_cons.mpr ⟨xqu40 (show cpI 3 19 4294967295 (wget w1359 40) from ⟨_, hr1360, xrb (by omega) (xrb (by omega) (hb1314))⟩), fun _ h => absurd h List.not_mem_nil⟩⟩)) (hB.fr ((hb1361.1 2 (by decide)).trans ((hb1358.1 2 (by decide)).trans ((hF1324.1 2 (by decide)).trans ((hb1317.1 2 (by decide)).trans ((hb1311.1 2 (by decide)).trans ((hF1274.1 2 (by decide)).trans (hF33.1 2 (by decide))))))))) ht1362 (by rw [ht1363]; exact tf_le ht1364)) rfl (hb1361.get (by decide) (hb1358.get (by decide) h42_1345)) rfl rfl rfl rfl rfl rfl (fun w1365 hq1366 => ?_)
        obtain ⟨hI1367, hF1368, hx1369⟩ := hq1366
        rw [ht1363] at hx1369
        clear ht1362 ht1363 ht1364
        obtain ⟨p_1370, hp1371⟩ : ∃ x, x = tf B nn p_1326 := ⟨_, rfl⟩
        rw [← hp1371] at hx1369
        have ln1372 : lnR B nn p0 = lnN B nn 5 0 p_1370 := by rw [hp1371]; exact ln1328.trans (lnN_y (k := 0) hk1353)
        obtain ⟨⟨ht1373, ht1374, ht1375, ht1376, ht1377⟩, ht1378⟩ := id hx1369
        refine xoC42 (xqc42 hI1367 : cp42 (wget w1365 42)) (fun f42_1379 f42_1381 f42_1383 f42_1385 f42_1387 h42_1389 hb1380 hb1382 hb1384 hb1386 hb1388 hb1390 => ?_)
        have hq1391 : fld w1365 42 1 = f42_1379 := fld_of h42_1389
        have hq1392 : fld w1365 42 2 = f42_1381 := fld_of h42_1389
        have hq1393 : fld w1365 42 3 = f42_1383 := fld_of h42_1389
        have hq1394 : fld w1365 42 4 = f42_1385 := fld_of h42_1389
        have hq1395 : fld w1365 42 5 = f42_1387 := fld_of h42_1389
        refine xg_t (xg_iinc (u := 1) (z := 2) (l1 := [(2, (0, f42_16)), (1, (0, 5)), (0, (2, 27))]) rfl rfl (by decide) rfl) ?_
        refine xg_t (xg_goto) ?_
        refine xg_t (xg_blq rfl) ?_
        refine xg_t (xg_iload (va := (0, 2)) rfl rfl) ?_
        refine xg_t (xg_gets) ?_
        refine xg_t (xg_iload (va := (0, 5)) rfl rfl) ?_
        refine xg_t (xg_ald8L (n := 5) (u := 2) xnm0 rfl rfl) ?_
        refine xg_t (xg_icT (u := 2) (v := 2) rfl xnm0 xnm0 (by decide)) ?_
        refine xg_t (xg_blq rfl) ?_
        refine xg_t (xg_iload (va := (0, 5)) rfl rfl) ?_
        refine xg_t (xg_ifT (u := 5) rfl xnm0 (by decide)) ?_
        refine xg_t (xg_blq rfl) ?_
        have ln1396 : lnR B nn p0 = lnS B nn p_1370 := ln1372.trans (lnN_0 (by decide))
        refine xg_t (xg_aload (va := (2, 27)) rfl rfl) ?_
        refine xg_t (xg_getf (va := (2, 42)) (hF1368.get (by decide) (hb1361.get (by decide) (hb1358.get (by decide) (hF1324.get (by decide) (hb1317.get (by decide) (hb1311.get (by decide) (hF1274.get (by decide) (hF33.get (by decide) h27_11)))))))) rfl) ?_
        refine xg_t (xg_bip) ?_
        refine xg_cVi mX8_isSign (vs := [(0, 59)]) (rest := []) (cn1 := 0) (sl1 := 0) rfl (tkSigX42 (hI1367) (by omega) (hB.fr ((hF1368.1 2 (by decide)).trans ((hb1361.1 2 (by decide)).trans ((hb1358.1 2 (by decide)).trans ((hF1324.1 2 (by decide)).trans ((hb1317.1 2 (by decide)).trans ((hb1311.1 2 (by decide)).trans ((hF1274.1 2 (by decide)).trans (hF33.1 2 (by decide)))))))))) hx1369) rfl h42_1389 rfl rfl rfl rfl rfl rfl (fun n1401 w1397 hq1398 => ?_)
        obtain ⟨hn1402, hI1399, hF1400⟩ := hq1398
        rcases hn1402 with ⟨rfl, hsg1403⟩ | ⟨rfl, hsg1403⟩
        · refine xg_t (xg_ifT (u := 1) rfl xnm0 (by decide)) ?_
          refine xg_t (xg_blq rfl) ?_
          refine xg_t (xg_aload (va := (2, 27)) rfl rfl) ?_
          refine xg_t (xg_getf (va := (2, 42)) (hF1400.get (by decide) (hF1368.get (by decide) (hb1361.get (by decide) (hb1358.get (by decide) (hF1324.get (by decide) (hb1317.get (by decide) (hb1311.get (by decide) (hF1274.get (by decide) (hF33.get (by decide) h27_11))))))))) rfl) ?_
          clear ht1373 ht1374 ht1375 ht1376 ht1377 ht1378 hq1391 hq1392 hq1393 hq1394 hq1395
          obtain ⟨⟨ht1404, -, -, ht1405, ht1406⟩, -⟩ := id (hx1369.fr (hF1400.1 42 (by decide)))
          refine xg_cVv mX8_advance (vs := []) (rest := []) (cn1 := 0) (sl1 := 0) rfl (tkAdvX42 (hI1399) (hB.fr ((hF1400.1 2 (by decide)).trans ((hF1368.1 2 (by decide)).trans ((hb1361.1 2 (by decide)).trans ((hb1358.1 2 (by decide)).trans ((hF1324.1 2 (by decide)).trans ((hb1317.1 2 (by decide)).trans ((hb1311.1 2 (by decide)).trans ((hF1274.1 2 (by decide)).trans (hF33.1 2 (by decide))))))))))) ht1404 (by rw [ht1405]; exact tf_le ht1406)) rfl (hF1400.get (by decide) h42_1389) rfl rfl rfl rfl rfl rfl (fun w1407 hq1408 => ?_)
          obtain ⟨hI1409, hF1410, hx1411⟩ := hq1408
          rw [ht1405] at hx1411
          clear ht1404 ht1405 ht1406
          obtain ⟨p_1412, hp1413⟩ : ∃ x, x = tf B nn p_1370 := ⟨_, rfl⟩
          rw [← hp1413] at hx1411
          have ln1414 : lnR B nn p0 = (true, p_1412) := by rw [hp1413]; exact ln1396.trans (lnS_y hsg1403)
          have d1415 : fld w1407 27 7 = fld w 27 7 := (fld_eq (j := 7) ((hF1410.1 27 (by decide)).trans ((hF1400.1 27 (by decide)).trans ((hF1368.1 27 (by decide)).trans ((hb1361.1 27 (by decide)).trans ((hb1358.1 27 (by decide)).trans ((hF1324.1 27 (by decide)).trans ((hb1317.1 27 (by decide)).trans ((hb1311.1 27 (by decide)).trans ((hF1274.1 27 (by decide)).trans (hF33.1 27 (by decide))))))))))))
          have d1416 : fld w1407 27 8 = fld w 27 8 := (fld_eq (j := 8) ((hF1410.1 27 (by decide)).trans ((hF1400.1 27 (by decide)).trans ((hF1368.1 27 (by decide)).trans ((hb1361.1 27 (by decide)).trans ((hb1358.1 27 (by decide)).trans ((hF1324.1 27 (by decide)).trans ((hb1317.1 27 (by decide)).trans ((hb1311.1 27 (by decide)).trans ((hF1274.1 27 (by decide)).trans (hF33.1 27 (by decide))))))))))))
          have d1417 : fld w1407 27 9 = fld w 27 9 := (fld_eq (j := 9) ((hF1410.1 27 (by decide)).trans ((hF1400.1 27 (by decide)).trans ((hF1368.1 27 (by decide)).trans ((hb1361.1 27 (by decide)).trans ((hb1358.1 27 (by decide)).trans ((hF1324.1 27 (by decide)).trans ((hb1317.1 27 (by decide)).trans ((hb1311.1 27 (by decide)).trans ((hF1274.1 27 (by decide)).trans (hF33.1 27 (by decide))))))))))))
          have d1418 : fld w1407 27 10 = fld w 27 10 := (fld_eq (j := 10) ((hF1410.1 27 (by decide)).trans ((hF1400.1 27 (by decide)).trans ((hF1368.1 27 (by decide)).trans ((hb1361.1 27 (by decide)).trans ((hb1358.1 27 (by decide)).trans ((hF1324.1 27 (by decide)).trans ((hb1317.1 27 (by decide)).trans ((hb1311.1 27 (by decide)).trans ((hF1274.1 27 (by decide)).trans (hF33.1 27 (by decide))))))))))))
          have hS1 := hS.1
          have hq1419 : fld w1407 27 9 = f27_7 := fld_of (hF1410.get (by decide) (hF1400.get (by decide) (hF1368.get (by decide) (hb1361.get (by decide) (hb1358.get (by decide) (hF1324.get (by decide) (hb1317.get (by decide) (hb1311.get (by decide) (hF1274.get (by decide) (hF33.get (by decide) h27_11))))))))))
          have n1420 : rwv w1407 39 0 = f42_1293 := (rwv_of ((((hr1357.but hb1361 (by decide)).fr hF1368 (by decide)).fr hF1400 (by decide)).fr hF1410 (by decide)) (by decide)).trans ((if_neg (by decide)).trans (if_pos rfl))
          have n1421 : rwv w1407 39 1 = f42_1343 := (rwv_of ((((hr1357.but hb1361 (by decide)).fr hF1368 (by decide)).fr hF1400 (by decide)).fr hF1410 (by decide)) (by decide)).trans (if_pos rfl)
          have n1422 : rwv w1407 40 0 = f42_1289 := (rwv_of (((hr1360.fr hF1368 (by decide)).fr hF1400 (by decide)).fr hF1410 (by decide)) (by decide)).trans ((if_neg (by decide)).trans (if_pos rfl))
          have n1423 : rwv w1407 40 1 = f42_1339 := (rwv_of (((hr1360.fr hF1368 (by decide)).fr hF1400 (by decide)).fr hF1410 (by decide)) (by decide)).trans (if_pos rfl)
          have vp1424 : vlp B nn p0 0 = p_1276 := hp1277.symm
          have vp1425 : vlp B nn p0 1 = p_1326 := by show tf B nn (vlp B nn p0 0) = p_1326; rw [vp1424, hp1327]
          have vl1426 : vln B nn (lnP B nn k) 0 = f42_1293 := by
            rw [← hp0]
            show (if (0 : Nat) = 3 then _ else tnu B nn (vlp B nn p0 0)) = _
            rw [if_neg (by decide), vp1424]
            exact hv1304.symm
          have vl1427 : vln B nn (lnP B nn k) 1 = f42_1343 := by
            rw [← hp0]
            show (if (1 : Nat) = 3 then _ else tnu B nn (vlp B nn p0 1)) = _
            rw [if_neg (by decide), vp1425]
            exact hv1354.symm
          refine xg_t (xg_aload (va := (2, 27)) rfl rfl) ?_
          refine xg_t (xg_getf (va := (0, f27_7)) (hF1410.get (by decide) (hF1400.get (by decide) (hF1368.get (by decide) (hb1361.get (by decide) (hb1358.get (by decide) (hF1324.get (by decide) (hb1317.get (by decide) (hb1311.get (by decide) (hF1274.get (by decide) (hF33.get (by decide) h27_11)))))))))) rfl) ?_
          by_cases hc1428 : f27_7 = 0
          · refine xg_t (xg_ifF (u := f27_7) rfl xnm0 (xj_neF hc1428)) ?_
            refine xg_t (xg_aload (va := (2, 27)) rfl rfl) ?_
            refine xg_t (xg_iload (va := (0, 5)) rfl rfl) ?_
            refine xg_t (xg_iload (va := (0, f42_16)) rfl rfl) ?_
            refine xg_cVi mX2_isFine (vs := [(0, 5), (0, f42_16)]) (rest := []) (cn1 := 0) (sl1 := 0) rfl (ftFineX5 (hI1409) (by omega)) rfl (hF1410.get (by decide) (hF1400.get (by decide) (hF1368.get (by decide) (hb1361.get (by decide) (hb1358.get (by decide) (hF1324.get (by decide) (hb1317.get (by decide) (hb1311.get (by decide) (hF1274.get (by decide) (hF33.get (by decide) h27_11)))))))))) rfl rfl rfl rfl rfl rfl (fun n1433 w1429 hq1430 => ?_)
            obtain ⟨hn1434, hI1431, hF1432⟩ := hq1430
            have h0_ : (flA B nn k).1 = 0 := by omega
            rcases hn1434 with ⟨rfl, hm1435, hi1436, hi1437, hw1440⟩ | ⟨rfl, hm1435, e91438, e101439⟩ | ⟨rfl, hm1435, hi1436, e91438, e101439⟩ | ⟨rfl, hm1435, hi1436, hi1437, e91438, e101439⟩
            · obtain ⟨mf1, mf2⟩ := manyF5 hS h0_ hsk ((((((((((hF33.up (T := [27, 39, 40, 42]) (by decide)).tr (hF1274.up (T := [27, 39, 40, 42]) (by decide))).tr (xFr.of (S := [27, 39, 40, 42]) hb1311 (by decide))).tr (xFr.of (S := [27, 39, 40, 42]) hb1317 (by decide))).tr (hF1324.up (T := [27, 39, 40, 42]) (by decide))).tr (xFr.of (S := [27, 39, 40, 42]) hb1358 (by decide))).tr (xFr.of (S := [27, 39, 40, 42]) hb1361 (by decide))).tr (hF1368.up (T := [27, 39, 40, 42]) (by decide))).tr (hF1400.up (T := [27, 39, 40, 42]) (by decide))).tr (hF1410.up (T := [27, 39, 40, 42]) (by decide))) d1415 d1416 hm1435
              refine xg_t (xg_ifF (u := 1) rfl xnm0 (by decide)) ?_
              refine xg_t (xg_aload (va := (2, 27)) rfl rfl) ?_
              refine xg_t (xg_iload (va := (0, 5)) rfl rfl) ?_
              refine xg_t (xg_iload (va := (0, f42_16)) rfl rfl) ?_
              refine xoC27 (xqc27 hI1431 : cp27 (wget w1429 27)) (fun f27_1441 f27_1443 f27_1445 f27_1447 f27_1449 h27_1451 hb1442 hb1444 hb1446 hb1448 hb1450 => ?_)
              refine xg_cVv mX2_take (vs := [(0, 5), (0, f42_16)]) (rest := []) (cn1 := 0) (sl1 := 0) rfl (ftTakeX5 (hI1431) (by omega) (by rw [rwv_eq (hw1440.1 39 List.not_mem_nil)]; exact hi1436.2) (by rw [rwv_eq (hw1440.1 39 List.not_mem_nil)]; exact hi1437.2)) rfl h27_1451 rfl rfl rfl rfl rfl rfl (fun w1452 hq1453 => ?_)
              obtain ⟨hI1454, hF1455, hx1456⟩ := hq1453
              refine xg_t (xg_blq rfl) ?_
              refine xg_t (xg_const) ?_
              have l91457 : fld w1452 28 9 = fld w 28 9 := hx1456.2.2.1.trans (fld_eq (j := 9) ((hF1432.1 28 (by decide)).trans ((hF1410.1 28 (by decide)).trans ((hF1400.1 28 (by decide)).trans ((hF1368.1 28 (by decide)).trans ((hb1361.1 28 (by decide)).trans ((hb1358.1 28 (by decide)).trans ((hF1324.1 28 (by decide)).trans ((hb1317.1 28 (by decide)).trans ((hb1311.1 28 (by decide)).trans ((hF1274.1 28 (by decide)).trans (hF33.1 28 (by decide)))))))))))))
              have he1458 : lnP B nn (k + 1) = p_1412 := by
                show (lnR B nn (lnP B nn k)).2 = _
                rw [← hp0, ln1414]
              have hfl := flt_ok hsk mf1 mf2 (show lst0 5 ≤ vln B nn (lnP B nn k) 0 ∧ vln B nn (lnP B nn k) 0 ≤ grt0 5 from (show 1 ≤ vln B nn (lnP B nn k) 0 ∧ vln B nn (lnP B nn k) 0 ≤ 10 by omega)) (show lst1 5 ≤ vln B nn (lnP B nn k) 1 ∧ vln B nn (lnP B nn k) 1 ≤ grt1 5 from (show 1 ≤ vln B nn (lnP B nn k) 1 ∧ vln B nn (lnP B nn k) 1 ≤ 10 by omega)) (fun z => absurd z (by decide))
              have e1_ : ∀ c j, fld w1429 c j = fld w1407 c j := fun c j => fld_eq (hw1440.1 c List.not_mem_nil)
              have e2_ : ∀ c, rwv w1429 c = rwv w1407 c := fun c => rwf_eq (hw1440.1 c List.not_mem_nil)
              simp only [e1_, e2_] at hx1456
              have hF1460 := (hw1440.up (fun _ h => absurd h List.not_mem_nil)).tr hF1455
              have nv1461 : ∀ t, t < 2 → rwv w1407 39 t = vln B nn (lnP B nn k) t := fun t ht => by
                rcases (show t = 0 ∨ t = 1 by omega) with rfl | rfl
                · exact n1420.trans vl1426.symm
                · exact n1421.trans vl1427.symm
              obtain ⟨t21462, t31463, t91464, t41465, t51466, t61467, t71468⟩ := hx1456
              have hC1459 := CSTok5 hS h0_ hsk ((((((((((hF33.up (T := [27, 39, 40, 42]) (by decide)).tr (hF1274.up (T := [27, 39, 40, 42]) (by decide))).tr (xFr.of (S := [27, 39, 40, 42]) hb1311 (by decide))).tr (xFr.of (S := [27, 39, 40, 42]) hb1317 (by decide))).tr (hF1324.up (T := [27, 39, 40, 42]) (by decide))).tr (xFr.of (S := [27, 39, 40, 42]) hb1358 (by decide))).tr (xFr.of (S := [27, 39, 40, 42]) hb1361 (by decide))).tr (hF1368.up (T := [27, 39, 40, 42]) (by decide))).tr (hF1400.up (T := [27, 39, 40, 42]) (by decide))).tr (hF1410.up (T := [27, 39, 40, 42]) (by decide))) d1415 d1416 d1417 hfl hF1460 hm1435 (fun t ht => (t21462 t ht).trans (nv1461 t ht)) t31463 t41465 t51466 t61467
              exact xg_e ⟨1, w1452, ⟨rfl, rfl⟩, ⟨Or.inl ⟨rfl, by rw [ln1414], by rw [he1458]; exact (hx1411.fr ((hF1455.1 42 (by decide)).trans (hF1432.1 42 (by decide)))), hC1459⟩, l91457⟩, hI1454, ((((((((((hF33.up (by decide)).tr (hF1274.up (by decide))).tr ((xFr.of (S := [27, 28, 29, 30, 31, 32, 33, 34, 35, 36, 37, 38, 39, 40, 41, 42]) hb1311 (by decide)).tr (xFr.of (S := [27, 28, 29, 30, 31, 32, 33, 34, 35, 36, 37, 38, 39, 40, 41, 42]) hb1317 (by decide)))).tr (hF1324.up (by decide))).tr ((xFr.of (S := [27, 28, 29, 30, 31, 32, 33, 34, 35, 36, 37, 38, 39, 40, 41, 42]) hb1358 (by decide)).tr (xFr.of (S := [27, 28, 29, 30, 31, 32, 33, 34, 35, 36, 37, 38, 39, 40, 41, 42]) hb1361 (by decide)))).tr (hF1368.up (by decide))).tr (hF1400.up (by decide))).tr (hF1410.up (by decide))).tr (hF1432.up (by decide))).tr (hF1455.up (by decide)))⟩
            · have hfl := manyT5 hS h0_ hsk ((((((((((hF33.up (T := [27, 39, 40, 42]) (by decide)).tr (hF1274.up (T := [27, 39, 40, 42]) (by decide))).tr (xFr.of (S := [27, 39, 40, 42]) hb1311 (by decide))).tr (xFr.of (S := [27, 39, 40, 42]) hb1317 (by decide))).tr (hF1324.up (T := [27, 39, 40, 42]) (by decide))).tr (xFr.of (S := [27, 39, 40, 42]) hb1358 (by decide))).tr (xFr.of (S := [27, 39, 40, 42]) hb1361 (by decide))).tr (hF1368.up (T := [27, 39, 40, 42]) (by decide))).tr (hF1400.up (T := [27, 39, 40, 42]) (by decide))).tr (hF1410.up (T := [27, 39, 40, 42]) (by decide))) d1415 d1416 hm1435
              refine xg_t (xg_ifT (u := 0) rfl xnm0 (by decide)) ?_
              refine xg_t (xg_blq rfl) ?_
              refine xg_t (xg_const) ?_
              have l91469 : fld w1429 28 9 = fld w 28 9 := fld_eq (j := 9) ((hF1432.1 28 (by decide)).trans ((hF1410.1 28 (by decide)).trans ((hF1400.1 28 (by decide)).trans ((hF1368.1 28 (by decide)).trans ((hb1361.1 28 (by decide)).trans ((hb1358.1 28 (by decide)).trans ((hF1324.1 28 (by decide)).trans ((hb1317.1 28 (by decide)).trans ((hb1311.1 28 (by decide)).trans ((hF1274.1 28 (by decide)).trans (hF33.1 28 (by decide))))))))))))
              have he1470 : lnP B nn (k + 1) = p_1412 := by
                show (lnR B nn (lnP B nn k)).2 = _
                rw [← hp0, ln1414]
              have hC1471 := CST.bad h0_ hfl (by decide) e91438 (e101439.trans (by rw [← hp0]; omega))
              exact xg_e ⟨1, w1429, ⟨rfl, rfl⟩, ⟨Or.inl ⟨rfl, by rw [ln1414], by rw [he1470]; exact (hx1411.fr (hF1432.1 42 (by decide))), hC1471⟩, l91469⟩, hI1431, (((((((((hF33.up (by decide)).tr (hF1274.up (by decide))).tr ((xFr.of (S := [27, 28, 29, 30, 31, 32, 33, 34, 35, 36, 37, 38, 39, 40, 41, 42]) hb1311 (by decide)).tr (xFr.of (S := [27, 28, 29, 30, 31, 32, 33, 34, 35, 36, 37, 38, 39, 40, 41, 42]) hb1317 (by decide)))).tr (hF1324.up (by decide))).tr ((xFr.of (S := [27, 28, 29, 30, 31, 32, 33, 34, 35, 36, 37, 38, 39, 40, 41, 42]) hb1358 (by decide)).tr (xFr.of (S := [27, 28, 29, 30, 31, 32, 33, 34, 35, 36, 37, 38, 39, 40, 41, 42]) hb1361 (by decide)))).tr (hF1368.up (by decide))).tr (hF1400.up (by decide))).tr (hF1410.up (by decide))).tr (hF1432.up (by decide)))⟩
            · obtain ⟨mf1, mf2⟩ := manyF5 hS h0_ hsk ((((((((((hF33.up (T := [27, 39, 40, 42]) (by decide)).tr (hF1274.up (T := [27, 39, 40, 42]) (by decide))).tr (xFr.of (S := [27, 39, 40, 42]) hb1311 (by decide))).tr (xFr.of (S := [27, 39, 40, 42]) hb1317 (by decide))).tr (hF1324.up (T := [27, 39, 40, 42]) (by decide))).tr (xFr.of (S := [27, 39, 40, 42]) hb1358 (by decide))).tr (xFr.of (S := [27, 39, 40, 42]) hb1361 (by decide))).tr (hF1368.up (T := [27, 39, 40, 42]) (by decide))).tr (hF1400.up (T := [27, 39, 40, 42]) (by decide))).tr (hF1410.up (T := [27, 39, 40, 42]) (by decide))) d1415 d1416 hm1435
              have hfl := flt_0 hsk mf1 mf2 (show ¬ _ from fun z => hi1436 (by have z : 1 ≤ _ ∧ _ ≤ 10 := z; omega))
              refine xg_t (xg_ifT (u := 0) rfl xnm0 (by decide)) ?_
              refine xg_t (xg_blq rfl) ?_
              refine xg_t (xg_const) ?_
              have l91472 : fld w1429 28 9 = fld w 28 9 := fld_eq (j := 9) ((hF1432.1 28 (by decide)).trans ((hF1410.1 28 (by decide)).trans ((hF1400.1 28 (by decide)).trans ((hF1368.1 28 (by decide)).trans ((hb1361.1 28 (by decide)).trans ((hb1358.1 28 (by decide)).trans ((hF1324.1 28 (by decide)).trans ((hb1317.1 28 (by decide)).trans ((hb1311.1 28 (by decide)).trans ((hF1274.1 28 (by decide)).trans (hF33.1 28 (by decide))))))))))))
              have he1473 : lnP B nn (k + 1) = p_1412 := by
                show (lnR B nn (lnP B nn k)).2 = _
                rw [← hp0, ln1414]
              have hC1474 := CST.bad h0_ hfl (by decide) e91438 (e101439.trans (n1422.trans (by rw [← hp0, vp1424]; exact hw1305)))
              exact xg_e ⟨1, w1429, ⟨rfl, rfl⟩, ⟨Or.inl ⟨rfl, by rw [ln1414], by rw [he1473]; exact (hx1411.fr (hF1432.1 42 (by decide))), hC1474⟩, l91472⟩, hI1431, (((((((((hF33.up (by decide)).tr (hF1274.up (by decide))).tr ((xFr.of (S := [27, 28, 29, 30, 31, 32, 33, 34, 35, 36, 37, 38, 39, 40, 41, 42]) hb1311 (by decide)).tr (xFr.of (S := [27, 28, 29, 30, 31, 32, 33, 34, 35, 36, 37, 38, 39, 40, 41, 42]) hb1317 (by decide)))).tr (hF1324.up (by decide))).tr ((xFr.of (S := [27, 28, 29, 30, 31, 32, 33, 34, 35, 36, 37, 38, 39, 40, 41, 42]) hb1358 (by decide)).tr (xFr.of (S := [27, 28, 29, 30, 31, 32, 33, 34, 35, 36, 37, 38, 39, 40, 41, 42]) hb1361 (by decide)))).tr (hF1368.up (by decide))).tr (hF1400.up (by decide))).tr (hF1410.up (by decide))).tr (hF1432.up (by decide)))⟩
            · obtain ⟨mf1, mf2⟩ := manyF5 hS h0_ hsk ((((((((((hF33.up (T := [27, 39, 40, 42]) (by decide)).tr (hF1274.up (T := [27, 39, 40, 42]) (by decide))).tr (xFr.of (S := [27, 39, 40, 42]) hb1311 (by decide))).tr (xFr.of (S := [27, 39, 40, 42]) hb1317 (by decide))).tr (hF1324.up (T := [27, 39, 40, 42]) (by decide))).tr (xFr.of (S := [27, 39, 40, 42]) hb1358 (by decide))).tr (xFr.of (S := [27, 39, 40, 42]) hb1361 (by decide))).tr (hF1368.up (T := [27, 39, 40, 42]) (by decide))).tr (hF1400.up (T := [27, 39, 40, 42]) (by decide))).tr (hF1410.up (T := [27, 39, 40, 42]) (by decide))) d1415 d1416 hm1435
              have hfl := flt_1 hsk mf1 mf2 (show lst0 5 ≤ vln B nn (lnP B nn k) 0 ∧ vln B nn (lnP B nn k) 0 ≤ grt0 5 from (show 1 ≤ vln B nn (lnP B nn k) 0 ∧ vln B nn (lnP B nn k) 0 ≤ 10 by omega)) (show ¬ _ from fun z => hi1437 (by have z : 1 ≤ _ ∧ _ ≤ 10 := z; omega))
              refine xg_t (xg_ifT (u := 0) rfl xnm0 (by decide)) ?_
              refine xg_t (xg_blq rfl) ?_
              refine xg_t (xg_const) ?_
              have l91475 : fld w1429 28 9 = fld w 28 9 := fld_eq (j := 9) ((hF1432.1 28 (by decide)).trans ((hF1410.1 28 (by decide)).trans ((hF1400.1 28 (by decide)).trans ((hF1368.1 28 (by decide)).trans ((hb1361.1 28 (by decide)).trans ((hb1358.1 28 (by decide)).trans ((hF1324.1 28 (by decide)).trans ((hb1317.1 28 (by decide)).trans ((hb1311.1 28 (by decide)).trans ((hF1274.1 28 (by decide)).trans (hF33.1 28 (by decide))))))))))))
              have he1476 : lnP B nn (k + 1) = p_1412 := by
                show (lnR B nn (lnP B nn k)).2 = _
                rw [← hp0, ln1414]
              have hC1477 := CST.bad h0_ hfl (by decide) e91438 (e101439.trans (n1423.trans (by rw [← hp0, vp1425]; exact hw1355)))
              exact xg_e ⟨1, w1429, ⟨rfl, rfl⟩, ⟨Or.inl ⟨rfl, by rw [ln1414], by rw [he1476]; exact (hx1411.fr (hF1432.1 42 (by decide))), hC1477⟩, l91475⟩, hI1431, (((((((((hF33.up (by decide)).tr (hF1274.up (by decide))).tr ((xFr.of (S := [27, 28, 29, 30, 31, 32, 33, 34, 35, 36, 37, 38, 39, 40, 41, 42]) hb1311 (by decide)).tr (xFr.of (S := [27, 28, 29, 30, 31, 32, 33, 34, 35, 36, 37, 38, 39, 40, 41, 42]) hb1317 (by decide)))).tr (hF1324.up (by decide))).tr ((xFr.of (S := [27, 28, 29, 30, 31, 32, 33, 34, 35, 36, 37, 38, 39, 40, 41, 42]) hb1358 (by decide)).tr (xFr.of (S := [27, 28, 29, 30, 31, 32, 33, 34, 35, 36, 37, 38, 39, 40, 41, 42]) hb1361 (by decide)))).tr (hF1368.up (by decide))).tr (hF1400.up (by decide))).tr (hF1410.up (by decide))).tr (hF1432.up (by decide)))⟩
          · refine xg_t (xg_ifT (u := f27_7) rfl xnm0 (xj_neT hc1428)) ?_
            refine xg_t (xg_blq rfl) ?_
            refine xg_t (xg_const) ?_
            have l91478 : fld w1407 28 9 = fld w 28 9 := fld_eq (j := 9) ((hF1410.1 28 (by decide)).trans ((hF1400.1 28 (by decide)).trans ((hF1368.1 28 (by decide)).trans ((hb1361.1 28 (by decide)).trans ((hb1358.1 28 (by decide)).trans ((hF1324.1 28 (by decide)).trans ((hb1317.1 28 (by decide)).trans ((hb1311.1 28 (by decide)).trans ((hF1274.1 28 (by decide)).trans (hF33.1 28 (by decide)))))))))))
            have he1479 : lnP B nn (k + 1) = p_1412 := by
              show (lnR B nn (lnP B nn k)).2 = _
              rw [← hp0, ln1414]
            have hC1480 := hS.st (by omega) d1417 d1418
            exact xg_e ⟨1, w1407, ⟨rfl, rfl⟩, ⟨Or.inl ⟨rfl, by rw [ln1414], by rw [he1479]; exact hx1411, hC1480⟩, l91478⟩, hI1409, ((((((((hF33.up (by decide)).tr (hF1274.up (by decide))).tr ((xFr.of (S := [27, 28, 29, 30, 31, 32, 33, 34, 35, 36, 37, 38, 39, 40, 41, 42]) hb1311 (by decide)).tr (xFr.of (S := [27, 28, 29, 30, 31, 32, 33, 34, 35, 36, 37, 38, 39, 40, 41, 42]) hb1317 (by decide)))).tr (hF1324.up (by decide))).tr ((xFr.of (S := [27, 28, 29, 30, 31, 32, 33, 34, 35, 36, 37, 38, 39, 40, 41, 42]) hb1358 (by decide)).tr (xFr.of (S := [27, 28, 29, 30, 31, 32, 33, 34, 35, 36, 37, 38, 39, 40, 41, 42]) hb1361 (by decide)))).tr (hF1368.up (by decide))).tr (hF1400.up (by decide))).tr (hF1410.up (by decide)))⟩
        · have lf1481 : lnR B nn p0 = (false, p_1370) := ln1396.trans (lnS_n hsg1403)
          refine xg_t (xg_ifF (u := 0) rfl xnm0 (by decide)) ?_
          refine xg_t (xg_const) ?_
          have l91482 : fld w1397 28 9 = fld w 28 9 := fld_eq (j := 9) ((hF1400.1 28 (by decide)).trans ((hF1368.1 28 (by decide)).trans ((hb1361.1 28 (by decide)).trans ((hb1358.1 28 (by decide)).trans ((hF1324.1 28 (by decide)).trans ((hb1317.1 28 (by decide)).trans ((hb1311.1 28 (by decide)).trans ((hF1274.1 28 (by decide)).trans (hF33.1 28 (by decide))))))))))
          exact xg_e ⟨0, w1397, ⟨rfl, rfl⟩, ⟨Or.inr ⟨rfl, by rw [lf1481]; exact Bool.false_ne_true, by rw [lf1481]; exact (hx1369.fr (hF1400.1 42 (by decide))).1.2.2.1⟩, l91482⟩, hI1399, (((((((hF33.up (by decide)).tr (hF1274.up (by decide))).tr ((xFr.of (S := [27, 28, 29, 30, 31, 32, 33, 34, 35, 36, 37, 38, 39, 40, 41, 42]) hb1311 (by decide)).tr (xFr.of (S := [27, 28, 29, 30, 31, 32, 33, 34, 35, 36, 37, 38, 39, 40, 41, 42]) hb1317 (by decide)))).tr (hF1324.up (by decide))).tr ((xFr.of (S := [27, 28, 29, 30, 31, 32, 33, 34, 35, 36, 37, 38, 39, 40, 41, 42]) hb1358 (by decide)).tr (xFr.of (S := [27, 28, 29, 30, 31, 32, 33, 34, 35, 36, 37, 38, 39, 40, 41, 42]) hb1361 (by decide)))).tr (hF1368.up (by decide))).tr (hF1400.up (by decide)))⟩
      · refine xg_t (xg_icF (u := f42_1337) (v := 2) rfl xnm0 xnm0 (xj_eqF hc1352)) ?_
        have lf1483 : lnR B nn p0 = (false, p_1326) := ln1328.trans (lnN_n (k := 0) (by omega))
        refine xg_t (xg_const) ?_
        have l91484 : fld w1321 28 9 = fld w 28 9 := fld_eq (j := 9) ((hF1324.1 28 (by decide)).trans ((hb1317.1 28 (by decide)).trans ((hb1311.1 28 (by decide)).trans ((hF1274.1 28 (by decide)).trans (hF33.1 28 (by decide))))))
        exact xg_e ⟨0, w1321, ⟨rfl, rfl⟩, ⟨Or.inr ⟨rfl, by rw [lf1483]; exact Bool.false_ne_true, by rw [lf1483]; exact hx1325.1.2.2.1⟩, l91484⟩, hI1323, ((((hF33.up (by decide)).tr (hF1274.up (by decide))).tr ((xFr.of (S := [27, 28, 29, 30, 31, 32, 33, 34, 35, 36, 37, 38, 39, 40, 41, 42]) hb1311 (by decide)).tr (xFr.of (S := [27, 28, 29, 30, 31, 32, 33, 34, 35, 36, 37, 38, 39, 40, 41, 42]) hb1317 (by decide)))).tr (hF1324.up (by decide)))⟩
    · refine xg_t (xg_icF (u := f42_1287) (v := 2) rfl xnm0 xnm0 (xj_eqF hc1302)) ?_
      have lf1485 : lnR B nn p0 = (false, p_1276) := ln1278.trans (lnN_n (k := 1) (by omega))
      refine xg_t (xg_const) ?_
      have l91486 : fld w1271 28 9 = fld w 28 9 := fld_eq (j := 9) ((hF1274.1 28 (by decide)).trans (hF33.1 28 (by decide)))
      exact xg_e ⟨0, w1271, ⟨rfl, rfl⟩, ⟨Or.inr ⟨rfl, by rw [lf1485]; exact Bool.false_ne_true, by rw [lf1485]; exact hx1275.1.2.2.1⟩, l91486⟩, hI1273, ((hF33.up (by decide)).tr (hF1274.up (by decide)))⟩
  · have hsk : slt B nn (lnP B nn k) = 6 := by rw [← hp0]; exact hs
    refine xg_t (xg_istore (l1 := [(0, (2, 27))]) rfl rfl rfl) ?_
    refine xg_t (xg_aload (va := (2, 27)) rfl rfl) ?_
    refine xg_t (xg_getf (va := (2, 42)) (hF33.get (by decide) h27_11) rfl) ?_
    refine xg_t (xg_getf (va := (0, f42_16)) (hF33.get (by decide) h42_22) rfl) ?_
    refine xg_t (xg_istore (l1 := [(1, (0, 6)), (0, (2, 27))]) rfl rfl rfl) ?_
    refine xg_t (xg_iload (va := (0, 6)) rfl rfl) ?_
    refine xg_t (xg_const) ?_
    refine xg_t (xg_icT (u := 6) (v := 4294967295) rfl xnm0 xnm0 (by decide)) ?_
    refine xg_t (xg_blq rfl) ?_
    refine xg_t (xg_aload (va := (2, 27)) rfl rfl) ?_
    refine xg_t (xg_getf (va := (2, 42)) (hF33.get (by decide) h27_11) rfl) ?_
    obtain ⟨⟨ht1487, -, -, ht1488, ht1489⟩, -⟩ := id (hT.fr (hF33.1 42 (by decide)))
    refine xg_cVv mX8_advance (vs := []) (rest := []) (cn1 := 0) (sl1 := 0) rfl (tkAdvX42 (hI32) (hB.fr (hF33.1 2 (by decide))) ht1487 (by rw [ht1488]; exact tf_le ht1489)) rfl (hF33.get (by decide) h42_22) rfl rfl rfl rfl rfl rfl (fun w1490 hq1491 => ?_)
    obtain ⟨hI1492, hF1493, hx1494⟩ := hq1491
    rw [ht1488] at hx1494
    clear ht1487 ht1488 ht1489
    obtain ⟨p_1495, hp1496⟩ : ∃ x, x = tf B nn p0 := ⟨_, rfl⟩
    rw [← hp1496] at hx1494
    have ln1497 : lnR B nn p0 = lnN B nn 6 2 p_1495 := by rw [hp1496]; exact lnR_go hs (by decide)
    obtain ⟨⟨ht1498, ht1499, ht1500, ht1501, ht1502⟩, ht1503⟩ := id hx1494
    refine xoC42 (xqc42 hI1492 : cp42 (wget w1490 42)) (fun f42_1504 f42_1506 f42_1508 f42_1510 f42_1512 h42_1514 hb1505 hb1507 hb1509 hb1511 hb1513 hb1515 => ?_)
    have hq1516 : fld w1490 42 1 = f42_1504 := fld_of h42_1514
    have hq1517 : fld w1490 42 2 = f42_1506 := fld_of h42_1514
    have hq1518 : fld w1490 42 3 = f42_1508 := fld_of h42_1514
    have hq1519 : fld w1490 42 4 = f42_1510 := fld_of h42_1514
    have hq1520 : fld w1490 42 5 = f42_1512 := fld_of h42_1514
    refine xg_t (xg_const) ?_
    refine xg_t (xg_istore (l1 := [(2, (0, f42_16)), (1, (0, 6)), (0, (2, 27))]) rfl rfl rfl) ?_
    refine xg_t (xg_blq rfl) ?_
    refine xg_t (xg_iload (va := (0, 0)) rfl rfl) ?_
    refine xg_t (xg_gets) ?_
    refine xg_t (xg_iload (va := (0, 6)) rfl rfl) ?_
    refine xg_t (xg_ald8L (n := 6) (u := 2) xnm0 rfl rfl) ?_
    refine xg_t (xg_icF (u := 0) (v := 2) rfl xnm0 xnm0 (by decide)) ?_
    refine xg_t (xg_iload (va := (0, 0)) rfl rfl) ?_
    refine xg_t (xg_const) ?_
    refine xg_t (xg_icF (u := 0) (v := 3) rfl xnm0 xnm0 (by decide)) ?_
    refine xg_t (xg_aload (va := (2, 27)) rfl rfl) ?_
    refine xg_t (xg_getf (va := (2, 42)) (hF1493.get (by decide) (hF33.get (by decide) h27_11)) rfl) ?_
    refine xg_t (xg_getf (va := (0, f42_1506)) h42_1514 rfl) ?_
    refine xg_t (xg_const) ?_
    by_cases hc1521 : f42_1506 = 2
    · refine xg_t (xg_icT (u := f42_1506) (v := 2) rfl xnm0 xnm0 (xj_eqT hc1521)) ?_
      refine xg_t (xg_blq rfl) ?_
      have hk1522 : tkd B nn p_1495 = 2 := by omega
      have hv1523 : f42_1512 = tnu B nn p_1495 := hq1520.symm.trans (ht1503 hk1522)
      have hw1524 : f42_1508 = tq B nn p_1495 := by omega
      refine xg_t (xg_aload (va := (2, 27)) rfl rfl) ?_
      refine xg_t (xg_getf (va := (2, 39)) (hF1493.get (by decide) (hF33.get (by decide) h27_11)) rfl) ?_
      refine xg_t (xg_iload (va := (0, 0)) rfl rfl) ?_
      refine xg_t (xg_aload (va := (2, 27)) rfl rfl) ?_
      refine xg_t (xg_getf (va := (2, 42)) (hF1493.get (by decide) (hF33.get (by decide) h27_11)) rfl) ?_
      refine xg_t (xg_getf (va := (0, f42_1512)) h42_1514 rfl) ?_
      refine xoI (xqc39 hI1492 : cpI 3 18 4294967295 (wget w1490 39)) (fun g39_1525 h39_1526 hb1527 => ?_)
      refine xg_iastK (n := 0) (u := f42_1512) h39_1526 xnm0 xnm0 rfl (by first | decide | omega) (fun w1528 hr1529 hb1530 => ?_)
      refine xg_t (xg_aload (va := (2, 27)) rfl rfl) ?_
      refine xg_t (xg_getf (va := (2, 40)) (hb1530.get (by decide) (hF1493.get (by decide) (hF33.get (by decide) h27_11))) rfl) ?_
      refine xg_t (xg_iload (va := (0, 0)) rfl rfl) ?_
      refine xg_t (xg_aload (va := (2, 27)) rfl rfl) ?_
      refine xg_t (xg_getf (va := (2, 42)) (hb1530.get (by decide) (hF1493.get (by decide) (hF33.get (by decide) h27_11))) rfl) ?_
      refine xg_t (xg_getf (va := (0, f42_1508)) (hb1530.get (by decide) h42_1514) rfl) ?_
      refine xoI (xqc40 hI1492 : cpI 3 19 4294967295 (wget w1490 40)) (fun g40_1531 h40_1532 hb1533 => ?_)
      refine xg_iastK (n := 0) (u := f42_1508) (h40_1532.but hb1530 (by decide)) xnm0 xnm0 rfl (by first | decide | omega) (fun w1534 hr1535 hb1536 => ?_)
      refine xg_t (xg_aload (va := (2, 27)) rfl rfl) ?_
      refine xg_t (xg_getf (va := (2, 42)) (hb1536.get (by decide) (hb1530.get (by decide) (hF1493.get (by decide) (hF33.get (by decide) h27_11)))) rfl) ?_
      clear ht1498 ht1499 ht1500 ht1501 ht1502 ht1503 hq1516 hq1517 hq1518 hq1519 hq1520
      obtain ⟨⟨ht1537, -, -, ht1538, ht1539⟩, -⟩ := id (hx1494.fr ((hb1536.1 42 (by decide)).trans (hb1530.1 42 (by decide))))
      refine xg_cVv mX8_advance (vs := []) (rest := []) (cn1 := 0) (sl1 := 0) rfl (tkAdvX42 (xInv.up (S := [39, 40]) hI1492 ((xFr.of (S := [39, 40]) hb1530 (by decide)).tr (xFr.of (S := [39, 40]) hb1536 (by decide))) (List.forall_mem_cons.mpr ⟨xqu39 (show cpI 3 18 4294967295 (wget w1534 39) from ⟨_, (hr1529.but hb1536 (by decide)), xrb (by omega) (hb1527)⟩), List.forall_mem_cons.mpr ⟨xqu40 (show cpI 3 19 4294967295 (wget w1534 40) from ⟨_, hr1535, xrb (by omega) (hb1533)⟩), fun _ h => absurd h List.not_mem_nil⟩⟩)) (hB.fr ((hb1536.1 2 (by decide)).trans ((hb1530.1 2 (by decide)).trans ((hF1493.1 2 (by decide)).trans (hF33.1 2 (by decide)))))) ht1537 (by rw [ht1538]; exact tf_le ht1539)) rfl (hb1536.get (by decide) (hb1530.get (by decide) h42_1514)) rfl rfl rfl rfl rfl rfl (fun w1540 hq1541 => ?_)
      obtain ⟨hI1542, hF1543, hx1544⟩ := hq1541
      rw [ht1538] at hx1544
      clear ht1537 ht1538 ht1539
      obtain ⟨p_1545, hp1546⟩ : ∃ x, x = tf B nn p_1495 := ⟨_, rfl⟩
      rw [← hp1546] at hx1544
      have ln1547 : lnR B nn p0 = lnN B nn 6 1 p_1545 := by rw [hp1546]; exact ln1497.trans (lnN_y (k := 1) hk1522)
      obtain ⟨⟨ht1548, ht1549, ht1550, ht1551, ht1552⟩, ht1553⟩ := id hx1544
      refine xoC42 (xqc42 hI1542 : cp42 (wget w1540 42)) (fun f42_1554 f42_1556 f42_1558 f42_1560 f42_1562 h42_1564 hb1555 hb1557 hb1559 hb1561 hb1563 hb1565 => ?_)
      have hq1566 : fld w1540 42 1 = f42_1554 := fld_of h42_1564
      have hq1567 : fld w1540 42 2 = f42_1556 := fld_of h42_1564
      have hq1568 : fld w1540 42 3 = f42_1558 := fld_of h42_1564
      have hq1569 : fld w1540 42 4 = f42_1560 := fld_of h42_1564
      have hq1570 : fld w1540 42 5 = f42_1562 := fld_of h42_1564
      refine xg_t (xg_iinc (u := 0) (z := 1) (l1 := [(2, (0, f42_16)), (1, (0, 6)), (0, (2, 27))]) rfl rfl (by decide) rfl) ?_
      refine xg_t (xg_goto) ?_
      refine xg_t (xg_blq rfl) ?_
      refine xg_t (xg_iload (va := (0, 1)) rfl rfl) ?_
      refine xg_t (xg_gets) ?_
      refine xg_t (xg_iload (va := (0, 6)) rfl rfl) ?_
      refine xg_t (xg_ald8L (n := 6) (u := 2) xnm0 rfl rfl) ?_
      refine xg_t (xg_icF (u := 1) (v := 2) rfl xnm0 xnm0 (by decide)) ?_
      refine xg_t (xg_iload (va := (0, 1)) rfl rfl) ?_
      refine xg_t (xg_const) ?_
      refine xg_t (xg_icF (u := 1) (v := 3) rfl xnm0 xnm0 (by decide)) ?_
      refine xg_t (xg_aload (va := (2, 27)) rfl rfl) ?_
      refine xg_t (xg_getf (va := (2, 42)) (hF1543.get (by decide) (hb1536.get (by decide) (hb1530.get (by decide) (hF1493.get (by decide) (hF33.get (by decide) h27_11))))) rfl) ?_
      refine xg_t (xg_getf (va := (0, f42_1556)) h42_1564 rfl) ?_
      refine xg_t (xg_const) ?_
      by_cases hc1571 : f42_1556 = 2
      · refine xg_t (xg_icT (u := f42_1556) (v := 2) rfl xnm0 xnm0 (xj_eqT hc1571)) ?_
        refine xg_t (xg_blq rfl) ?_
        have hk1572 : tkd B nn p_1545 = 2 := by omega
        have hv1573 : f42_1562 = tnu B nn p_1545 := hq1570.symm.trans (ht1553 hk1572)
        have hw1574 : f42_1558 = tq B nn p_1545 := by omega
        refine xg_t (xg_aload (va := (2, 27)) rfl rfl) ?_
        refine xg_t (xg_getf (va := (2, 39)) (hF1543.get (by decide) (hb1536.get (by decide) (hb1530.get (by decide) (hF1493.get (by decide) (hF33.get (by decide) h27_11))))) rfl) ?_
        refine xg_t (xg_iload (va := (0, 1)) rfl rfl) ?_
        refine xg_t (xg_aload (va := (2, 27)) rfl rfl) ?_
        refine xg_t (xg_getf (va := (2, 42)) (hF1543.get (by decide) (hb1536.get (by decide) (hb1530.get (by decide) (hF1493.get (by decide) (hF33.get (by decide) h27_11))))) rfl) ?_
        refine xg_t (xg_getf (va := (0, f42_1562)) h42_1564 rfl) ?_
        refine xg_iastK (n := 1) (u := f42_1562) ((hr1529.but hb1536 (by decide)).fr hF1543 (by decide)) xnm0 xnm0 rfl (by first | decide | omega) (fun w1575 hr1576 hb1577 => ?_)
        refine xg_t (xg_aload (va := (2, 27)) rfl rfl) ?_
        refine xg_t (xg_getf (va := (2, 40)) (hb1577.get (by decide) (hF1543.get (by decide) (hb1536.get (by decide) (hb1530.get (by decide) (hF1493.get (by decide) (hF33.get (by decide) h27_11)))))) rfl) ?_
        refine xg_t (xg_iload (va := (0, 1)) rfl rfl) ?_
        refine xg_t (xg_aload (va := (2, 27)) rfl rfl) ?_
        refine xg_t (xg_getf (va := (2, 42)) (hb1577.get (by decide) (hF1543.get (by decide) (hb1536.get (by decide) (hb1530.get (by decide) (hF1493.get (by decide) (hF33.get (by decide) h27_11)))))) rfl) ?_
        refine xg_t (xg_getf (va := (0, f42_1558)) (hb1577.get (by decide) h42_1564) rfl) ?_
        refine xg_iastK (n := 1) (u := f42_1558) ((hr1535.fr hF1543 (by decide)).but hb1577 (by decide)) xnm0 xnm0 rfl (by first | decide | omega) (fun w1578 hr1579 hb1580 => ?_)
        refine xg_t (xg_aload (va := (2, 27)) rfl rfl) ?_
        refine xg_t (xg_getf (va := (2, 42)) (hb1580.get (by decide) (hb1577.get (by decide) (hF1543.get (by decide) (hb1536.get (by decide) (hb1530.get (by decide) (hF1493.get (by decide) (hF33.get (by decide) h27_11))))))) rfl) ?_
        clear ht1548 ht1549 ht1550 ht1551 ht1552 ht1553 hq1566 hq1567 hq1568 hq1569 hq1570
        obtain ⟨⟨ht1581, -, -, ht1582, ht1583⟩, -⟩ := id (hx1544.fr ((hb1580.1 42 (by decide)).trans (hb1577.1 42 (by decide))))
        refine xg_cVv mX8_advance (vs := []) (rest := []) (cn1 := 0) (sl1 := 0) rfl (tkAdvX42 (xInv.up (S := [39, 40]) hI1542 ((xFr.of (S := [39, 40]) hb1577 (by decide)).tr (xFr.of (S := [39, 40]) hb1580 (by decide))) (List.forall_mem_cons.mpr ⟨xqu39 (show cpI 3 18 4294967295 (wget w1578 39) from ⟨_, (hr1576.but hb1580 (by decide)), xrb (by omega) (xrb (by omega) (hb1527))⟩), List.forall_mem_cons.mpr ⟨xqu40 (show cpI 3 19 4294967295 (wget w1578 40) from ⟨_, hr1579, xrb (by omega) (xrb (by omega) (hb1533))⟩), fun _ h => absurd h List.not_mem_nil⟩⟩)) (hB.fr ((hb1580.1 2 (by decide)).trans ((hb1577.1 2 (by decide)).trans ((hF1543.1 2 (by decide)).trans ((hb1536.1 2 (by decide)).trans ((hb1530.1 2 (by decide)).trans ((hF1493.1 2 (by decide)).trans (hF33.1 2 (by decide))))))))) ht1581 (by rw [ht1582]; exact tf_le ht1583)) rfl (hb1580.get (by decide) (hb1577.get (by decide) h42_1564)) rfl rfl rfl rfl rfl rfl (fun w1584 hq1585 => ?_)
        obtain ⟨hI1586, hF1587, hx1588⟩ := hq1585
        rw [ht1582] at hx1588
        clear ht1581 ht1582 ht1583
        obtain ⟨p_1589, hp1590⟩ : ∃ x, x = tf B nn p_1545 := ⟨_, rfl⟩
        rw [← hp1590] at hx1588
        have ln1591 : lnR B nn p0 = lnN B nn 6 0 p_1589 := by rw [hp1590]; exact ln1547.trans (lnN_y (k := 0) hk1572)
        obtain ⟨⟨ht1592, ht1593, ht1594, ht1595, ht1596⟩, ht1597⟩ := id hx1588
        refine xoC42 (xqc42 hI1586 : cp42 (wget w1584 42)) (fun f42_1598 f42_1600 f42_1602 f42_1604 f42_1606 h42_1608 hb1599 hb1601 hb1603 hb1605 hb1607 hb1609 => ?_)
        have hq1610 : fld w1584 42 1 = f42_1598 := fld_of h42_1608
        have hq1611 : fld w1584 42 2 = f42_1600 := fld_of h42_1608
        have hq1612 : fld w1584 42 3 = f42_1602 := fld_of h42_1608
        have hq1613 : fld w1584 42 4 = f42_1604 := fld_of h42_1608
        have hq1614 : fld w1584 42 5 = f42_1606 := fld_of h42_1608
        refine xg_t (xg_iinc (u := 1) (z := 2) (l1 := [(2, (0, f42_16)), (1, (0, 6)), (0, (2, 27))]) rfl rfl (by decide) rfl) ?_
        refine xg_t (xg_goto) ?_
        refine xg_t (xg_blq rfl) ?_
        refine xg_t (xg_iload (va := (0, 2)) rfl rfl) ?_
        refine xg_t (xg_gets) ?_
        refine xg_t (xg_iload (va := (0, 6)) rfl rfl) ?_
        refine xg_t (xg_ald8L (n := 6) (u := 2) xnm0 rfl rfl) ?_
        refine xg_t (xg_icT (u := 2) (v := 2) rfl xnm0 xnm0 (by decide)) ?_
        refine xg_t (xg_blq rfl) ?_
        refine xg_t (xg_iload (va := (0, 6)) rfl rfl) ?_
        refine xg_t (xg_ifT (u := 6) rfl xnm0 (by decide)) ?_
        refine xg_t (xg_blq rfl) ?_
        have ln1615 : lnR B nn p0 = lnS B nn p_1589 := ln1591.trans (lnN_0 (by decide))
        refine xg_t (xg_aload (va := (2, 27)) rfl rfl) ?_
        refine xg_t (xg_getf (va := (2, 42)) (hF1587.get (by decide) (hb1580.get (by decide) (hb1577.get (by decide) (hF1543.get (by decide) (hb1536.get (by decide) (hb1530.get (by decide) (hF1493.get (by decide) (hF33.get (by decide) h27_11)))))))) rfl) ?_
        refine xg_t (xg_bip) ?_
        refine xg_cVi mX8_isSign (vs := [(0, 59)]) (rest := []) (cn1 := 0) (sl1 := 0) rfl (tkSigX42 (hI1586) (by omega) (hB.fr ((hF1587.1 2 (by decide)).trans ((hb1580.1 2 (by decide)).trans ((hb1577.1 2 (by decide)).trans ((hF1543.1 2 (by decide)).trans ((hb1536.1 2 (by decide)).trans ((hb1530.1 2 (by decide)).trans ((hF1493.1 2 (by decide)).trans (hF33.1 2 (by decide)))))))))) hx1588) rfl h42_1608 rfl rfl rfl rfl rfl rfl (fun n1620 w1616 hq1617 => ?_)
        obtain ⟨hn1621, hI1618, hF1619⟩ := hq1617
        rcases hn1621 with ⟨rfl, hsg1622⟩ | ⟨rfl, hsg1622⟩
        · refine xg_t (xg_ifT (u := 1) rfl xnm0 (by decide)) ?_
          refine xg_t (xg_blq rfl) ?_
          refine xg_t (xg_aload (va := (2, 27)) rfl rfl) ?_
          refine xg_t (xg_getf (va := (2, 42)) (hF1619.get (by decide) (hF1587.get (by decide) (hb1580.get (by decide) (hb1577.get (by decide) (hF1543.get (by decide) (hb1536.get (by decide) (hb1530.get (by decide) (hF1493.get (by decide) (hF33.get (by decide) h27_11))))))))) rfl) ?_
          clear ht1592 ht1593 ht1594 ht1595 ht1596 ht1597 hq1610 hq1611 hq1612 hq1613 hq1614
          obtain ⟨⟨ht1623, -, -, ht1624, ht1625⟩, -⟩ := id (hx1588.fr (hF1619.1 42 (by decide)))
          refine xg_cVv mX8_advance (vs := []) (rest := []) (cn1 := 0) (sl1 := 0) rfl (tkAdvX42 (hI1618) (hB.fr ((hF1619.1 2 (by decide)).trans ((hF1587.1 2 (by decide)).trans ((hb1580.1 2 (by decide)).trans ((hb1577.1 2 (by decide)).trans ((hF1543.1 2 (by decide)).trans ((hb1536.1 2 (by decide)).trans ((hb1530.1 2 (by decide)).trans ((hF1493.1 2 (by decide)).trans (hF33.1 2 (by decide))))))))))) ht1623 (by rw [ht1624]; exact tf_le ht1625)) rfl (hF1619.get (by decide) h42_1608) rfl rfl rfl rfl rfl rfl (fun w1626 hq1627 => ?_)
          obtain ⟨hI1628, hF1629, hx1630⟩ := hq1627
          rw [ht1624] at hx1630
          clear ht1623 ht1624 ht1625
          obtain ⟨p_1631, hp1632⟩ : ∃ x, x = tf B nn p_1589 := ⟨_, rfl⟩
          rw [← hp1632] at hx1630
          have ln1633 : lnR B nn p0 = (true, p_1631) := by rw [hp1632]; exact ln1615.trans (lnS_y hsg1622)
          have d1634 : fld w1626 27 7 = fld w 27 7 := (fld_eq (j := 7) ((hF1629.1 27 (by decide)).trans ((hF1619.1 27 (by decide)).trans ((hF1587.1 27 (by decide)).trans ((hb1580.1 27 (by decide)).trans ((hb1577.1 27 (by decide)).trans ((hF1543.1 27 (by decide)).trans ((hb1536.1 27 (by decide)).trans ((hb1530.1 27 (by decide)).trans ((hF1493.1 27 (by decide)).trans (hF33.1 27 (by decide))))))))))))
          have d1635 : fld w1626 27 8 = fld w 27 8 := (fld_eq (j := 8) ((hF1629.1 27 (by decide)).trans ((hF1619.1 27 (by decide)).trans ((hF1587.1 27 (by decide)).trans ((hb1580.1 27 (by decide)).trans ((hb1577.1 27 (by decide)).trans ((hF1543.1 27 (by decide)).trans ((hb1536.1 27 (by decide)).trans ((hb1530.1 27 (by decide)).trans ((hF1493.1 27 (by decide)).trans (hF33.1 27 (by decide))))))))))))
          have d1636 : fld w1626 27 9 = fld w 27 9 := (fld_eq (j := 9) ((hF1629.1 27 (by decide)).trans ((hF1619.1 27 (by decide)).trans ((hF1587.1 27 (by decide)).trans ((hb1580.1 27 (by decide)).trans ((hb1577.1 27 (by decide)).trans ((hF1543.1 27 (by decide)).trans ((hb1536.1 27 (by decide)).trans ((hb1530.1 27 (by decide)).trans ((hF1493.1 27 (by decide)).trans (hF33.1 27 (by decide))))))))))))
          have d1637 : fld w1626 27 10 = fld w 27 10 := (fld_eq (j := 10) ((hF1629.1 27 (by decide)).trans ((hF1619.1 27 (by decide)).trans ((hF1587.1 27 (by decide)).trans ((hb1580.1 27 (by decide)).trans ((hb1577.1 27 (by decide)).trans ((hF1543.1 27 (by decide)).trans ((hb1536.1 27 (by decide)).trans ((hb1530.1 27 (by decide)).trans ((hF1493.1 27 (by decide)).trans (hF33.1 27 (by decide))))))))))))
          have hS1 := hS.1
          have hq1638 : fld w1626 27 9 = f27_7 := fld_of (hF1629.get (by decide) (hF1619.get (by decide) (hF1587.get (by decide) (hb1580.get (by decide) (hb1577.get (by decide) (hF1543.get (by decide) (hb1536.get (by decide) (hb1530.get (by decide) (hF1493.get (by decide) (hF33.get (by decide) h27_11))))))))))
          have n1639 : rwv w1626 39 0 = f42_1512 := (rwv_of ((((hr1576.but hb1580 (by decide)).fr hF1587 (by decide)).fr hF1619 (by decide)).fr hF1629 (by decide)) (by decide)).trans ((if_neg (by decide)).trans (if_pos rfl))
          have n1640 : rwv w1626 39 1 = f42_1562 := (rwv_of ((((hr1576.but hb1580 (by decide)).fr hF1587 (by decide)).fr hF1619 (by decide)).fr hF1629 (by decide)) (by decide)).trans (if_pos rfl)
          have n1641 : rwv w1626 40 0 = f42_1508 := (rwv_of (((hr1579.fr hF1587 (by decide)).fr hF1619 (by decide)).fr hF1629 (by decide)) (by decide)).trans ((if_neg (by decide)).trans (if_pos rfl))
          have n1642 : rwv w1626 40 1 = f42_1558 := (rwv_of (((hr1579.fr hF1587 (by decide)).fr hF1619 (by decide)).fr hF1629 (by decide)) (by decide)).trans (if_pos rfl)
          have vp1643 : vlp B nn p0 0 = p_1495 := hp1496.symm
          have vp1644 : vlp B nn p0 1 = p_1545 := by show tf B nn (vlp B nn p0 0) = p_1545; rw [vp1643, hp1546]
          have vl1645 : vln B nn (lnP B nn k) 0 = f42_1512 := by
            rw [← hp0]
            show (if (0 : Nat) = 3 then _ else tnu B nn (vlp B nn p0 0)) = _
            rw [if_neg (by decide), vp1643]
            exact hv1523.symm
          have vl1646 : vln B nn (lnP B nn k) 1 = f42_1562 := by
            rw [← hp0]
            show (if (1 : Nat) = 3 then _ else tnu B nn (vlp B nn p0 1)) = _
            rw [if_neg (by decide), vp1644]
            exact hv1573.symm
          refine xg_t (xg_aload (va := (2, 27)) rfl rfl) ?_
          refine xg_t (xg_getf (va := (0, f27_7)) (hF1629.get (by decide) (hF1619.get (by decide) (hF1587.get (by decide) (hb1580.get (by decide) (hb1577.get (by decide) (hF1543.get (by decide) (hb1536.get (by decide) (hb1530.get (by decide) (hF1493.get (by decide) (hF33.get (by decide) h27_11)))))))))) rfl) ?_
          by_cases hc1647 : f27_7 = 0
          · refine xg_t (xg_ifF (u := f27_7) rfl xnm0 (xj_neF hc1647)) ?_
            refine xg_t (xg_aload (va := (2, 27)) rfl rfl) ?_
            refine xg_t (xg_iload (va := (0, 6)) rfl rfl) ?_
            refine xg_t (xg_iload (va := (0, f42_16)) rfl rfl) ?_
            refine xg_cVi mX2_isFine (vs := [(0, 6), (0, f42_16)]) (rest := []) (cn1 := 0) (sl1 := 0) rfl (ftFineX6 (hI1628) (by omega)) rfl (hF1629.get (by decide) (hF1619.get (by decide) (hF1587.get (by decide) (hb1580.get (by decide) (hb1577.get (by decide) (hF1543.get (by decide) (hb1536.get (by decide) (hb1530.get (by decide) (hF1493.get (by decide) (hF33.get (by decide) h27_11)))))))))) rfl rfl rfl rfl rfl rfl (fun n1652 w1648 hq1649 => ?_)
            obtain ⟨hn1653, hI1650, hF1651⟩ := hq1649
            have h0_ : (flA B nn k).1 = 0 := by omega
            rcases hn1653 with ⟨rfl, hm1654, hi1655, hi1656, hw1659⟩ | ⟨rfl, hm1654, e91657, e101658⟩ | ⟨rfl, hm1654, hi1655, e91657, e101658⟩ | ⟨rfl, hm1654, hi1655, hi1656, e91657, e101658⟩
            · obtain ⟨mf1, mf2⟩ := manyF6 hS h0_ hsk ((((((((((hF33.up (T := [27, 39, 40, 42]) (by decide)).tr (hF1493.up (T := [27, 39, 40, 42]) (by decide))).tr (xFr.of (S := [27, 39, 40, 42]) hb1530 (by decide))).tr (xFr.of (S := [27, 39, 40, 42]) hb1536 (by decide))).tr (hF1543.up (T := [27, 39, 40, 42]) (by decide))).tr (xFr.of (S := [27, 39, 40, 42]) hb1577 (by decide))).tr (xFr.of (S := [27, 39, 40, 42]) hb1580 (by decide))).tr (hF1587.up (T := [27, 39, 40, 42]) (by decide))).tr (hF1619.up (T := [27, 39, 40, 42]) (by decide))).tr (hF1629.up (T := [27, 39, 40, 42]) (by decide))) d1634 d1635 hm1654
              refine xg_t (xg_ifF (u := 1) rfl xnm0 (by decide)) ?_
              refine xg_t (xg_aload (va := (2, 27)) rfl rfl) ?_
              refine xg_t (xg_iload (va := (0, 6)) rfl rfl) ?_
              refine xg_t (xg_iload (va := (0, f42_16)) rfl rfl) ?_
              refine xoC27 (xqc27 hI1650 : cp27 (wget w1648 27)) (fun f27_1660 f27_1662 f27_1664 f27_1666 f27_1668 h27_1670 hb1661 hb1663 hb1665 hb1667 hb1669 => ?_)
              refine xg_cVv mX2_take (vs := [(0, 6), (0, f42_16)]) (rest := []) (cn1 := 0) (sl1 := 0) rfl (ftTakeX6 (hI1650) (by omega) (by rw [rwv_eq (hw1659.1 39 List.not_mem_nil)]; exact hi1655.2) (by rw [rwv_eq (hw1659.1 39 List.not_mem_nil)]; exact hi1656.2)) rfl h27_1670 rfl rfl rfl rfl rfl rfl (fun w1671 hq1672 => ?_)
              obtain ⟨hI1673, hF1674, hx1675⟩ := hq1672
              refine xg_t (xg_blq rfl) ?_
              refine xg_t (xg_const) ?_
              have l91676 : fld w1671 28 9 = fld w 28 9 := hx1675.2.2.1.trans (fld_eq (j := 9) ((hF1651.1 28 (by decide)).trans ((hF1629.1 28 (by decide)).trans ((hF1619.1 28 (by decide)).trans ((hF1587.1 28 (by decide)).trans ((hb1580.1 28 (by decide)).trans ((hb1577.1 28 (by decide)).trans ((hF1543.1 28 (by decide)).trans ((hb1536.1 28 (by decide)).trans ((hb1530.1 28 (by decide)).trans ((hF1493.1 28 (by decide)).trans (hF33.1 28 (by decide)))))))))))))
              have he1677 : lnP B nn (k + 1) = p_1631 := by
                show (lnR B nn (lnP B nn k)).2 = _
                rw [← hp0, ln1633]
              have hfl := flt_ok hsk mf1 mf2 (show lst0 6 ≤ vln B nn (lnP B nn k) 0 ∧ vln B nn (lnP B nn k) 0 ≤ grt0 6 from (show 1 ≤ vln B nn (lnP B nn k) 0 ∧ vln B nn (lnP B nn k) 0 ≤ 6 by omega)) (show lst1 6 ≤ vln B nn (lnP B nn k) 1 ∧ vln B nn (lnP B nn k) 1 ≤ grt1 6 from (show 1 ≤ vln B nn (lnP B nn k) 1 ∧ vln B nn (lnP B nn k) 1 ≤ 6 by omega)) (fun z => absurd z (by decide))
              have e1_ : ∀ c j, fld w1648 c j = fld w1626 c j := fun c j => fld_eq (hw1659.1 c List.not_mem_nil)
              have e2_ : ∀ c, rwv w1648 c = rwv w1626 c := fun c => rwf_eq (hw1659.1 c List.not_mem_nil)
              simp only [e1_, e2_] at hx1675
              have hF1679 := (hw1659.up (fun _ h => absurd h List.not_mem_nil)).tr hF1674
              have nv1680 : ∀ t, t < 2 → rwv w1626 39 t = vln B nn (lnP B nn k) t := fun t ht => by
                rcases (show t = 0 ∨ t = 1 by omega) with rfl | rfl
                · exact n1639.trans vl1645.symm
                · exact n1640.trans vl1646.symm
              obtain ⟨t21681, t31682, t91683, t41684, t51685, t61686, t71687⟩ := hx1675
              have hC1678 := CSTok6 hS h0_ hsk ((((((((((hF33.up (T := [27, 39, 40, 42]) (by decide)).tr (hF1493.up (T := [27, 39, 40, 42]) (by decide))).tr (xFr.of (S := [27, 39, 40, 42]) hb1530 (by decide))).tr (xFr.of (S := [27, 39, 40, 42]) hb1536 (by decide))).tr (hF1543.up (T := [27, 39, 40, 42]) (by decide))).tr (xFr.of (S := [27, 39, 40, 42]) hb1577 (by decide))).tr (xFr.of (S := [27, 39, 40, 42]) hb1580 (by decide))).tr (hF1587.up (T := [27, 39, 40, 42]) (by decide))).tr (hF1619.up (T := [27, 39, 40, 42]) (by decide))).tr (hF1629.up (T := [27, 39, 40, 42]) (by decide))) d1634 d1635 d1636 hfl hF1679 hm1654 (fun t ht => (t21681 t ht).trans (nv1680 t ht)) t31682 t41684 t51685 t61686
              exact xg_e ⟨1, w1671, ⟨rfl, rfl⟩, ⟨Or.inl ⟨rfl, by rw [ln1633], by rw [he1677]; exact (hx1630.fr ((hF1674.1 42 (by decide)).trans (hF1651.1 42 (by decide)))), hC1678⟩, l91676⟩, hI1673, ((((((((((hF33.up (by decide)).tr (hF1493.up (by decide))).tr ((xFr.of (S := [27, 28, 29, 30, 31, 32, 33, 34, 35, 36, 37, 38, 39, 40, 41, 42]) hb1530 (by decide)).tr (xFr.of (S := [27, 28, 29, 30, 31, 32, 33, 34, 35, 36, 37, 38, 39, 40, 41, 42]) hb1536 (by decide)))).tr (hF1543.up (by decide))).tr ((xFr.of (S := [27, 28, 29, 30, 31, 32, 33, 34, 35, 36, 37, 38, 39, 40, 41, 42]) hb1577 (by decide)).tr (xFr.of (S := [27, 28, 29, 30, 31, 32, 33, 34, 35, 36, 37, 38, 39, 40, 41, 42]) hb1580 (by decide)))).tr (hF1587.up (by decide))).tr (hF1619.up (by decide))).tr (hF1629.up (by decide))).tr (hF1651.up (by decide))).tr (hF1674.up (by decide)))⟩
            · have hfl := manyT6 hS h0_ hsk ((((((((((hF33.up (T := [27, 39, 40, 42]) (by decide)).tr (hF1493.up (T := [27, 39, 40, 42]) (by decide))).tr (xFr.of (S := [27, 39, 40, 42]) hb1530 (by decide))).tr (xFr.of (S := [27, 39, 40, 42]) hb1536 (by decide))).tr (hF1543.up (T := [27, 39, 40, 42]) (by decide))).tr (xFr.of (S := [27, 39, 40, 42]) hb1577 (by decide))).tr (xFr.of (S := [27, 39, 40, 42]) hb1580 (by decide))).tr (hF1587.up (T := [27, 39, 40, 42]) (by decide))).tr (hF1619.up (T := [27, 39, 40, 42]) (by decide))).tr (hF1629.up (T := [27, 39, 40, 42]) (by decide))) d1634 d1635 hm1654
              refine xg_t (xg_ifT (u := 0) rfl xnm0 (by decide)) ?_
              refine xg_t (xg_blq rfl) ?_
              refine xg_t (xg_const) ?_
              have l91688 : fld w1648 28 9 = fld w 28 9 := fld_eq (j := 9) ((hF1651.1 28 (by decide)).trans ((hF1629.1 28 (by decide)).trans ((hF1619.1 28 (by decide)).trans ((hF1587.1 28 (by decide)).trans ((hb1580.1 28 (by decide)).trans ((hb1577.1 28 (by decide)).trans ((hF1543.1 28 (by decide)).trans ((hb1536.1 28 (by decide)).trans ((hb1530.1 28 (by decide)).trans ((hF1493.1 28 (by decide)).trans (hF33.1 28 (by decide))))))))))))
              have he1689 : lnP B nn (k + 1) = p_1631 := by
                show (lnR B nn (lnP B nn k)).2 = _
                rw [← hp0, ln1633]
              have hC1690 := CST.bad h0_ hfl (by decide) e91657 (e101658.trans (by rw [← hp0]; omega))
              exact xg_e ⟨1, w1648, ⟨rfl, rfl⟩, ⟨Or.inl ⟨rfl, by rw [ln1633], by rw [he1689]; exact (hx1630.fr (hF1651.1 42 (by decide))), hC1690⟩, l91688⟩, hI1650, (((((((((hF33.up (by decide)).tr (hF1493.up (by decide))).tr ((xFr.of (S := [27, 28, 29, 30, 31, 32, 33, 34, 35, 36, 37, 38, 39, 40, 41, 42]) hb1530 (by decide)).tr (xFr.of (S := [27, 28, 29, 30, 31, 32, 33, 34, 35, 36, 37, 38, 39, 40, 41, 42]) hb1536 (by decide)))).tr (hF1543.up (by decide))).tr ((xFr.of (S := [27, 28, 29, 30, 31, 32, 33, 34, 35, 36, 37, 38, 39, 40, 41, 42]) hb1577 (by decide)).tr (xFr.of (S := [27, 28, 29, 30, 31, 32, 33, 34, 35, 36, 37, 38, 39, 40, 41, 42]) hb1580 (by decide)))).tr (hF1587.up (by decide))).tr (hF1619.up (by decide))).tr (hF1629.up (by decide))).tr (hF1651.up (by decide)))⟩
            · obtain ⟨mf1, mf2⟩ := manyF6 hS h0_ hsk ((((((((((hF33.up (T := [27, 39, 40, 42]) (by decide)).tr (hF1493.up (T := [27, 39, 40, 42]) (by decide))).tr (xFr.of (S := [27, 39, 40, 42]) hb1530 (by decide))).tr (xFr.of (S := [27, 39, 40, 42]) hb1536 (by decide))).tr (hF1543.up (T := [27, 39, 40, 42]) (by decide))).tr (xFr.of (S := [27, 39, 40, 42]) hb1577 (by decide))).tr (xFr.of (S := [27, 39, 40, 42]) hb1580 (by decide))).tr (hF1587.up (T := [27, 39, 40, 42]) (by decide))).tr (hF1619.up (T := [27, 39, 40, 42]) (by decide))).tr (hF1629.up (T := [27, 39, 40, 42]) (by decide))) d1634 d1635 hm1654
              have hfl := flt_0 hsk mf1 mf2 (show ¬ _ from fun z => hi1655 (by have z : 1 ≤ _ ∧ _ ≤ 6 := z; omega))
              refine xg_t (xg_ifT (u := 0) rfl xnm0 (by decide)) ?_
              refine xg_t (xg_blq rfl) ?_
              refine xg_t (xg_const) ?_
              have l91691 : fld w1648 28 9 = fld w 28 9 := fld_eq (j := 9) ((hF1651.1 28 (by decide)).trans ((hF1629.1 28 (by decide)).trans ((hF1619.1 28 (by decide)).trans ((hF1587.1 28 (by decide)).trans ((hb1580.1 28 (by decide)).trans ((hb1577.1 28 (by decide)).trans ((hF1543.1 28 (by decide)).trans ((hb1536.1 28 (by decide)).trans ((hb1530.1 28 (by decide)).trans ((hF1493.1 28 (by decide)).trans (hF33.1 28 (by decide))))))))))))
              have he1692 : lnP B nn (k + 1) = p_1631 := by
                show (lnR B nn (lnP B nn k)).2 = _
                rw [← hp0, ln1633]
              have hC1693 := CST.bad h0_ hfl (by decide) e91657 (e101658.trans (n1641.trans (by rw [← hp0, vp1643]; exact hw1524)))
              exact xg_e ⟨1, w1648, ⟨rfl, rfl⟩, ⟨Or.inl ⟨rfl, by rw [ln1633], by rw [he1692]; exact (hx1630.fr (hF1651.1 42 (by decide))), hC1693⟩, l91691⟩, hI1650, (((((((((hF33.up (by decide)).tr (hF1493.up (by decide))).tr ((xFr.of (S := [27, 28, 29, 30, 31, 32, 33, 34, 35, 36, 37, 38, 39, 40, 41, 42]) hb1530 (by decide)).tr (xFr.of (S := [27, 28, 29, 30, 31, 32, 33, 34, 35, 36, 37, 38, 39, 40, 41, 42]) hb1536 (by decide)))).tr (hF1543.up (by decide))).tr ((xFr.of (S := [27, 28, 29, 30, 31, 32, 33, 34, 35, 36, 37, 38, 39, 40, 41, 42]) hb1577 (by decide)).tr (xFr.of (S := [27, 28, 29, 30, 31, 32, 33, 34, 35, 36, 37, 38, 39, 40, 41, 42]) hb1580 (by decide)))).tr (hF1587.up (by decide))).tr (hF1619.up (by decide))).tr (hF1629.up (by decide))).tr (hF1651.up (by decide)))⟩
            · obtain ⟨mf1, mf2⟩ := manyF6 hS h0_ hsk ((((((((((hF33.up (T := [27, 39, 40, 42]) (by decide)).tr (hF1493.up (T := [27, 39, 40, 42]) (by decide))).tr (xFr.of (S := [27, 39, 40, 42]) hb1530 (by decide))).tr (xFr.of (S := [27, 39, 40, 42]) hb1536 (by decide))).tr (hF1543.up (T := [27, 39, 40, 42]) (by decide))).tr (xFr.of (S := [27, 39, 40, 42]) hb1577 (by decide))).tr (xFr.of (S := [27, 39, 40, 42]) hb1580 (by decide))).tr (hF1587.up (T := [27, 39, 40, 42]) (by decide))).tr (hF1619.up (T := [27, 39, 40, 42]) (by decide))).tr (hF1629.up (T := [27, 39, 40, 42]) (by decide))) d1634 d1635 hm1654
              have hfl := flt_1 hsk mf1 mf2 (show lst0 6 ≤ vln B nn (lnP B nn k) 0 ∧ vln B nn (lnP B nn k) 0 ≤ grt0 6 from (show 1 ≤ vln B nn (lnP B nn k) 0 ∧ vln B nn (lnP B nn k) 0 ≤ 6 by omega)) (show ¬ _ from fun z => hi1656 (by have z : 1 ≤ _ ∧ _ ≤ 6 := z; omega))
              refine xg_t (xg_ifT (u := 0) rfl xnm0 (by decide)) ?_
              refine xg_t (xg_blq rfl) ?_
              refine xg_t (xg_const) ?_
              have l91694 : fld w1648 28 9 = fld w 28 9 := fld_eq (j := 9) ((hF1651.1 28 (by decide)).trans ((hF1629.1 28 (by decide)).trans ((hF1619.1 28 (by decide)).trans ((hF1587.1 28 (by decide)).trans ((hb1580.1 28 (by decide)).trans ((hb1577.1 28 (by decide)).trans ((hF1543.1 28 (by decide)).trans ((hb1536.1 28 (by decide)).trans ((hb1530.1 28 (by decide)).trans ((hF1493.1 28 (by decide)).trans (hF33.1 28 (by decide))))))))))))
              have he1695 : lnP B nn (k + 1) = p_1631 := by
                show (lnR B nn (lnP B nn k)).2 = _
                rw [← hp0, ln1633]
              have hC1696 := CST.bad h0_ hfl (by decide) e91657 (e101658.trans (n1642.trans (by rw [← hp0, vp1644]; exact hw1574)))
              exact xg_e ⟨1, w1648, ⟨rfl, rfl⟩, ⟨Or.inl ⟨rfl, by rw [ln1633], by rw [he1695]; exact (hx1630.fr (hF1651.1 42 (by decide))), hC1696⟩, l91694⟩, hI1650, (((((((((hF33.up (by decide)).tr (hF1493.up (by decide))).tr ((xFr.of (S := [27, 28, 29, 30, 31, 32, 33, 34, 35, 36, 37, 38, 39, 40, 41, 42]) hb1530 (by decide)).tr (xFr.of (S := [27, 28, 29, 30, 31, 32, 33, 34, 35, 36, 37, 38, 39, 40, 41, 42]) hb1536 (by decide)))).tr (hF1543.up (by decide))).tr ((xFr.of (S := [27, 28, 29, 30, 31, 32, 33, 34, 35, 36, 37, 38, 39, 40, 41, 42]) hb1577 (by decide)).tr (xFr.of (S := [27, 28, 29, 30, 31, 32, 33, 34, 35, 36, 37, 38, 39, 40, 41, 42]) hb1580 (by decide)))).tr (hF1587.up (by decide))).tr (hF1619.up (by decide))).tr (hF1629.up (by decide))).tr (hF1651.up (by decide)))⟩
          · refine xg_t (xg_ifT (u := f27_7) rfl xnm0 (xj_neT hc1647)) ?_
            refine xg_t (xg_blq rfl) ?_
            refine xg_t (xg_const) ?_
            have l91697 : fld w1626 28 9 = fld w 28 9 := fld_eq (j := 9) ((hF1629.1 28 (by decide)).trans ((hF1619.1 28 (by decide)).trans ((hF1587.1 28 (by decide)).trans ((hb1580.1 28 (by decide)).trans ((hb1577.1 28 (by decide)).trans ((hF1543.1 28 (by decide)).trans ((hb1536.1 28 (by decide)).trans ((hb1530.1 28 (by decide)).trans ((hF1493.1 28 (by decide)).trans (hF33.1 28 (by decide)))))))))))
            have he1698 : lnP B nn (k + 1) = p_1631 := by
              show (lnR B nn (lnP B nn k)).2 = _
              rw [← hp0, ln1633]
            have hC1699 := hS.st (by omega) d1636 d1637
            exact xg_e ⟨1, w1626, ⟨rfl, rfl⟩, ⟨Or.inl ⟨rfl, by rw [ln1633], by rw [he1698]; exact hx1630, hC1699⟩, l91697⟩, hI1628, ((((((((hF33.up (by decide)).tr (hF1493.up (by decide))).tr ((xFr.of (S := [27, 28, 29, 30, 31, 32, 33, 34, 35, 36, 37, 38, 39, 40, 41, 42]) hb1530 (by decide)).tr (xFr.of (S := [27, 28, 29, 30, 31, 32, 33, 34, 35, 36, 37, 38, 39, 40, 41, 42]) hb1536 (by decide)))).tr (hF1543.up (by decide))).tr ((xFr.of (S := [27, 28, 29, 30, 31, 32, 33, 34, 35, 36, 37, 38, 39, 40, 41, 42]) hb1577 (by decide)).tr (xFr.of (S := [27, 28, 29, 30, 31, 32, 33, 34, 35, 36, 37, 38, 39, 40, 41, 42]) hb1580 (by decide)))).tr (hF1587.up (by decide))).tr (hF1619.up (by decide))).tr (hF1629.up (by decide)))⟩
        · have lf1700 : lnR B nn p0 = (false, p_1589) := ln1615.trans (lnS_n hsg1622)
          refine xg_t (xg_ifF (u := 0) rfl xnm0 (by decide)) ?_
          refine xg_t (xg_const) ?_
          have l91701 : fld w1616 28 9 = fld w 28 9 := fld_eq (j := 9) ((hF1619.1 28 (by decide)).trans ((hF1587.1 28 (by decide)).trans ((hb1580.1 28 (by decide)).trans ((hb1577.1 28 (by decide)).trans ((hF1543.1 28 (by decide)).trans ((hb1536.1 28 (by decide)).trans ((hb1530.1 28 (by decide)).trans ((hF1493.1 28 (by decide)).trans (hF33.1 28 (by decide))))))))))
          exact xg_e ⟨0, w1616, ⟨rfl, rfl⟩, ⟨Or.inr ⟨rfl, by rw [lf1700]; exact Bool.false_ne_true, by rw [lf1700]; exact (hx1588.fr (hF1619.1 42 (by decide))).1.2.2.1⟩, l91701⟩, hI1618, (((((((hF33.up (by decide)).tr (hF1493.up (by decide))).tr ((xFr.of (S := [27, 28, 29, 30, 31, 32, 33, 34, 35, 36, 37, 38, 39, 40, 41, 42]) hb1530 (by decide)).tr (xFr.of (S := [27, 28, 29, 30, 31, 32, 33, 34, 35, 36, 37, 38, 39, 40, 41, 42]) hb1536 (by decide)))).tr (hF1543.up (by decide))).tr ((xFr.of (S := [27, 28, 29, 30, 31, 32, 33, 34, 35, 36, 37, 38, 39, 40, 41, 42]) hb1577 (by decide)).tr (xFr.of (S := [27, 28, 29, 30, 31, 32, 33, 34, 35, 36, 37, 38, 39, 40, 41, 42]) hb1580 (by decide)))).tr (hF1587.up (by decide))).tr (hF1619.up (by decide)))⟩
      · refine xg_t (xg_icF (u := f42_1556) (v := 2) rfl xnm0 xnm0 (xj_eqF hc1571)) ?_
        have lf1702 : lnR B nn p0 = (false, p_1545) := ln1547.trans (lnN_n (k := 0) (by omega))
        refine xg_t (xg_const) ?_
        have l91703 : fld w1540 28 9 = fld w 28 9 := fld_eq (j := 9) ((hF1543.1 28 (by decide)).trans ((hb1536.1 28 (by decide)).trans ((hb1530.1 28 (by decide)).trans ((hF1493.1 28 (by decide)).trans (hF33.1 28 (by decide))))))
        exact xg_e ⟨0, w1540, ⟨rfl, rfl⟩, ⟨Or.inr ⟨rfl, by rw [lf1702]; exact Bool.false_ne_true, by rw [lf1702]; exact hx1544.1.2.2.1⟩, l91703⟩, hI1542, ((((hF33.up (by decide)).tr (hF1493.up (by decide))).tr ((xFr.of (S := [27, 28, 29, 30, 31, 32, 33, 34, 35, 36, 37, 38, 39, 40, 41, 42]) hb1530 (by decide)).tr (xFr.of (S := [27, 28, 29, 30, 31, 32, 33, 34, 35, 36, 37, 38, 39, 40, 41, 42]) hb1536 (by decide)))).tr (hF1543.up (by decide)))⟩
    · refine xg_t (xg_icF (u := f42_1506) (v := 2) rfl xnm0 xnm0 (xj_eqF hc1521)) ?_
      have lf1704 : lnR B nn p0 = (false, p_1495) := ln1497.trans (lnN_n (k := 1) (by omega))
      refine xg_t (xg_const) ?_
      have l91705 : fld w1490 28 9 = fld w 28 9 := fld_eq (j := 9) ((hF1493.1 28 (by decide)).trans (hF33.1 28 (by decide)))
      exact xg_e ⟨0, w1490, ⟨rfl, rfl⟩, ⟨Or.inr ⟨rfl, by rw [lf1704]; exact Bool.false_ne_true, by rw [lf1704]; exact hx1494.1.2.2.1⟩, l91705⟩, hI1492, ((hF33.up (by decide)).tr (hF1493.up (by decide)))⟩
  · have hsk : slt B nn (lnP B nn k) = 7 := by rw [← hp0]; exact hs
    refine xg_t (xg_istore (l1 := [(0, (2, 27))]) rfl rfl rfl) ?_
    refine xg_t (xg_aload (va := (2, 27)) rfl rfl) ?_
    refine xg_t (xg_getf (va := (2, 42)) (hF33.get (by decide) h27_11) rfl) ?_
    refine xg_t (xg_getf (va := (0, f42_16)) (hF33.get (by decide) h42_22) rfl) ?_
    refine xg_t (xg_istore (l1 := [(1, (0, 4294967295)), (0, (2, 27))]) rfl rfl rfl) ?_
    refine xg_t (xg_iload (va := (0, 4294967295)) rfl rfl) ?_
    refine xg_t (xg_const) ?_
    refine xg_t (xg_icF (u := 4294967295) (v := 4294967295) rfl xnm0 xnm0 (by decide)) ?_
    refine xg_t (xg_const) ?_
    have l91706 : fld w30 28 9 = fld w 28 9 := fld_eq (j := 9) (hF33.1 28 (by decide))
    exact xg_e ⟨0, w30, ⟨rfl, rfl⟩, ⟨Or.inr ⟨rfl, by rw [lnR_7 hs]; exact Bool.false_ne_true, by rw [lnR_7 hs]; exact (hT.fr (hF33.1 42 (by decide))).1.2.2.1⟩, l91706⟩, hI32, (hF33.up (by decide))⟩
end XFCD
