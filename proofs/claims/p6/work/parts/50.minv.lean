section
/-! what holds of the cells of the model between calls -/
/-- a fact kept out of sight -/
def xHid (p : Prop) : Prop := p
theorem xHid.of {p : Prop} (h : p) : xHid p := h
def okB (f : Nat → Nat) (b : Nat) : Prop := f b ≤ 6 ∧ f (b + 1) ≤ 4 ∧ f (b + 2) ≤ 6 ∧ f (b + 3) ≤ 4 ∧ f (b + 4) ≤ 20 ∧ f (b + 5) ≤ 6 ∧ f (b + 6) ≤ 6 ∧ f (b + 7) ≤ 10 ∧ f (b + 8) ≤ 10 ∧ f (b + 9) ≤ 40 ∧ f (b + 10) ≤ 12 ∧ f (b + 13) ≤ 200 ∧ f (b + 15) ≤ 500 ∧ f (b + 900) ≤ 4 ∧ f (b + 901) ≤ 12 ∧ f (b + 902) ≤ 16 ∧ (f (b + 5) = 0 ∨ 1 ≤ f (b + 6)) ∧ (∀ k i, k < f b → i < 3 → 1 ≤ f (b + 20 + 4 * k + i) ∧ f (b + 20 + 4 * k + i) ≤ 99) ∧ (∀ k, k < f (b + 1) → 1 ≤ f (b + 51 + 2 * k) ∧ f (b + 51 + 2 * k) ≤ 999) ∧ (∀ p i, p < f (b + 10) → i < 4 → f (b + 300 + 6 * p + i) ≤ 5) ∧ (∀ l, l < f (b + 902) → f (b + 1020 + 20 * l) ≤ 4)
def okA (f : Nat → Nat) : Prop := okB f 0 ∧ okB f 1340 ∧ okB f 2680 ∧ okB f 4020
theorem okB_congr {f g : Nat → Nat} {b : Nat} (e : ∀ t, t < 1340 → g (b + t) = f (b + t)) (h : okB f b) : okB g b := by
  obtain ⟨h0, h1, h2, h3, h4, h5, h6, h7, h8, h9, h10, h11, h12, h13, h14, h15, hc, hl, hv, hp, hr⟩ := h
  have e0 : g b = f b := e 0 (by decide)
  have e1 := e 1 (by decide)
  have e2 := e 2 (by decide)
  have e3 := e 3 (by decide)
  have e4 := e 4 (by decide)
  have e5 := e 5 (by decide)
  have e6 := e 6 (by decide)
  have e7 := e 7 (by decide)
  have e8 := e 8 (by decide)
  have e9 := e 9 (by decide)
  have e10 := e 10 (by decide)
  have e13 := e 13 (by decide)
  have e15 := e 15 (by decide)
  have e900 := e 900 (by decide)
  have e901 := e 901 (by decide)
  have e902 := e 902 (by decide)
  refine ⟨by rw [e0]; exact h0, by rw [e1]; exact h1, by rw [e2]; exact h2, by rw [e3]; exact h3, by rw [e4]; exact h4, by rw [e5]; exact h5, by rw [e6]; exact h6, by rw [e7]; exact h7, by rw [e8]; exact h8, by rw [e9]; exact h9, by rw [e10]; exact h10, by rw [e13]; exact h11, by rw [e15]; exact h12, by rw [e900]; exact h13, by rw [e901]; exact h14, by rw [e902]; exact h15, ?_, ?_, ?_, ?_, ?_⟩
  · rw [e5, e6]; exact hc
  · intro k i hk hi
    rw [e0] at hk
    have q := e (20 + 4 * k + i) (by omega)
    have q2 : g (b + 20 + 4 * k + i) = f (b + 20 + 4 * k + i) := by
      have z : b + 20 + 4 * k + i = b + (20 + 4 * k + i) := by omega
      rw [z]; exact q
    rw [q2]; exact hl k i hk hi
  · intro k hk
    rw [e1] at hk
    have q := e (51 + 2 * k) (by omega)
    have q2 : g (b + 51 + 2 * k) = f (b + 51 + 2 * k) := by
      have z : b + 51 + 2 * k = b + (51 + 2 * k) := by omega
      rw [z]; exact q
    rw [q2]; exact hv k hk
  · intro p i hk hi
    rw [e10] at hk
    have q := e (300 + 6 * p + i) (by omega)
    have q2 : g (b + 300 + 6 * p + i) = f (b + 300 + 6 * p + i) := by
      have z : b + 300 + 6 * p + i = b + (300 + 6 * p + i) := by omega
      rw [z]; exact q
    rw [q2]; exact hp p i hk hi
  · intro l hk
    rw [e902] at hk
    have q := e (1020 + 20 * l) (by omega)
    have q2 : g (b + 1020 + 20 * l) = f (b + 1020 + 20 * l) := by
      have z : b + 1020 + 20 * l = b + (1020 + 20 * l) := by omega
      rw [z]; exact q
    rw [q2]; exact hr l hk
theorem okA.lits {f : Nat → Nat} (h : okA f) : f 0 ≤ 6 ∧ f 1 ≤ 4 ∧ f 2 ≤ 6 ∧ f 3 ≤ 4 ∧ f 4 ≤ 20 ∧ f 5 ≤ 6 ∧ f 6 ≤ 6 ∧ f 7 ≤ 10 ∧ f 8 ≤ 10 ∧ f 9 ≤ 40 ∧ f 10 ≤ 12 ∧ f 13 ≤ 200 ∧ f 15 ≤ 500 ∧ f 900 ≤ 4 ∧ f 901 ≤ 12 ∧ f 902 ≤ 16 ∧ (f 5 = 0 ∨ 1 ≤ f 6) := by
  obtain ⟨⟨h0, h1, h2, h3, h4, h5, h6, h7, h8, h9, h10, h11, h12, h13, h14, h15, hc, hl, hv, hp, hr⟩, -⟩ := h
  simp only [Nat.zero_add] at h1 h2 h3 h4 h5 h6 h7 h8 h9 h10 h11 h12 h13 h14 h15 hc
  exact ⟨h0, h1, h2, h3, h4, h5, h6, h7, h8, h9, h10, h11, h12, h13, h14, h15, hc⟩
theorem okA.lay {f : Nat → Nat} (h : okA f) {k i : Nat} (hk : k < f 0) (hi : i < 3) : 1 ≤ f (20 + 4 * k + i) ∧ f (20 + 4 * k + i) ≤ 99 := by
  have q := h.1.2.2.2.2.2.2.2.2.2.2.2.2.2.2.2.2.2.1 k i hk hi
  simp only [Nat.zero_add] at q
  exact q
theorem okA.lif {f : Nat → Nat} (h : okA f) {k : Nat} (hk : k < f 1) : 1 ≤ f (51 + 2 * k) ∧ f (51 + 2 * k) ≤ 999 := by
  have q := h.1.2.2.2.2.2.2.2.2.2.2.2.2.2.2.2.2.2.2.1 k hk
  simp only [Nat.zero_add] at q
  exact q
theorem okA.pic {f : Nat → Nat} (h : okA f) {p i : Nat} (hk : p < f 10) (hi : i < 4) : f (300 + 6 * p + i) ≤ 5 := by
  have q := h.1.2.2.2.2.2.2.2.2.2.2.2.2.2.2.2.2.2.2.2.1 p i hk hi
  simp only [Nat.zero_add] at q
  exact q
theorem okA.rul {f : Nat → Nat} (h : okA f) {l : Nat} (hk : l < f 902) : f (1020 + 20 * l) ≤ 4 := by
  have q := h.1.2.2.2.2.2.2.2.2.2.2.2.2.2.2.2.2.2.2.2.2 l hk
  simp only [Nat.zero_add] at q
  exact q
theorem okA.mk0 {f g : Nat → Nat} (h : okA f) (e : ∀ j, 1340 ≤ j → g j = f j) (q : okB g 0) : okA g :=
  ⟨q, okB_congr (fun t _ => e _ (by omega)) h.2.1, okB_congr (fun t _ => e _ (by omega)) h.2.2.1, okB_congr (fun t _ => e _ (by omega)) h.2.2.2⟩
theorem okB.of0 {f : Nat → Nat} (hlit : f 0 ≤ 6 ∧ f 1 ≤ 4 ∧ f 2 ≤ 6 ∧ f 3 ≤ 4 ∧ f 4 ≤ 20 ∧ f 5 ≤ 6 ∧ f 6 ≤ 6 ∧ f 7 ≤ 10 ∧ f 8 ≤ 10 ∧ f 9 ≤ 40 ∧ f 10 ≤ 12 ∧ f 13 ≤ 200 ∧ f 15 ≤ 500 ∧ f 900 ≤ 4 ∧ f 901 ≤ 12 ∧ f 902 ≤ 16 ∧ (f 5 = 0 ∨ 1 ≤ f 6)) (hl : ∀ k i, k < f 0 → i < 3 → 1 ≤ f (20 + 4 * k + i) ∧ f (20 + 4 * k + i) ≤ 99) (hv : ∀ k, k < f 1 → 1 ≤ f (51 + 2 * k) ∧ f (51 + 2 * k) ≤ 999) (hp : ∀ p i, p < f 10 → i < 4 → f (300 + 6 * p + i) ≤ 5) (hr : ∀ l, l < f 902 → f (1020 + 20 * l) ≤ 4) : okB f 0 := by
  obtain ⟨h0, h1, h2, h3, h4, h5, h6, h7, h8, h9, h10, h11, h12, h13, h14, h15, hc⟩ := hlit
  unfold okB
  simp only [Nat.zero_add]
  exact ⟨h0, h1, h2, h3, h4, h5, h6, h7, h8, h9, h10, h11, h12, h13, h14, h15, hc, hl, hv, hp, hr⟩
theorem okA.upd {f : Nat → Nat} {i v : Nat} (h : okA f) (hi : i < 1020) (h9 : 9 ≤ i) (h20 : ¬ (20 ≤ i ∧ i < 140)) (c9 : i = 9 → v ≤ 40) (c10 : i ≠ 10) (c13 : i = 13 → v ≤ 200) (c15 : i = 15 → v ≤ 500) (c900 : i = 900 → v ≤ 4) (c901 : i = 901 → v ≤ 12) (c902 : i ≠ 902) (c300 : 300 ≤ i → i < 372 → 300 + 6 * f 10 ≤ i) : okA (fun j => if j = i then v else f j) := by
  have hh := h
  obtain ⟨h0, h1, h2, h3, h4, h5, h6, h7, h8, h9, h10, h11, h12, h13, h14, h15, hc⟩ := h.lits
  generalize hg : (fun j => if j = i then v else f j) = g
  have e : ∀ j, j ≠ i → g j = f j := fun j hj => by rw [← hg]; exact if_neg hj
  have ei : g i = v := by rw [← hg]; exact if_pos rfl
  have ie : ∀ j, j = i → g j = v := fun j hj => by rw [hj]; exact ei
  have e0 : g 0 = f 0 := e 0 (by omega)
  have e1 : g 1 = f 1 := e 1 (by omega)
  have e2 : g 2 = f 2 := e 2 (by omega)
  have e3 : g 3 = f 3 := e 3 (by omega)
  have e4 : g 4 = f 4 := e 4 (by omega)
  have e5 : g 5 = f 5 := e 5 (by omega)
  have e6 : g 6 = f 6 := e 6 (by omega)
  have e7 : g 7 = f 7 := e 7 (by omega)
  have e8 : g 8 = f 8 := e 8 (by omega)
  have e9 : g 9 = f 9 ∨ (9 = i ∧ g 9 = v) := by
    by_cases z : 9 = i
    · exact Or.inr ⟨z, ie _ z⟩
    · exact Or.inl (e 9 z)
  have e10 : g 10 = f 10 := e 10 (by omega)
  have e13 : g 13 = f 13 ∨ (13 = i ∧ g 13 = v) := by
    by_cases z : 13 = i
    · exact Or.inr ⟨z, ie _ z⟩
    · exact Or.inl (e 13 z)
  have e15 : g 15 = f 15 ∨ (15 = i ∧ g 15 = v) := by
    by_cases z : 15 = i
    · exact Or.inr ⟨z, ie _ z⟩
    · exact Or.inl (e 15 z)
  have e900 : g 900 = f 900 ∨ (900 = i ∧ g 900 = v) := by
    by_cases z : 900 = i
    · exact Or.inr ⟨z, ie _ z⟩
    · exact Or.inl (e 900 z)
  have e901 : g 901 = f 901 ∨ (901 = i ∧ g 901 = v) := by
    by_cases z : 901 = i
    · exact Or.inr ⟨z, ie _ z⟩
    · exact Or.inl (e 901 z)
  have e902 : g 902 = f 902 := e 902 (by omega)
  refine h.mk0 (fun j hj => e j (by omega)) (okB.of0 ⟨by omega, by omega, by omega, by omega, by omega, by omega, by omega, by omega, by omega, by omega, by omega, by omega, by omega, by omega, by omega, by omega, by omega⟩ ?_ ?_ ?_ ?_)
  · intro k t hk ht
    rw [e _ (by omega)]
    exact hh.lay (by omega) ht
  · intro k hk
    rw [e _ (by omega)]
    exact hh.lif (by omega)
  · intro p t hk ht
    rw [e _ (by omega)]
    exact hh.pic (by omega) ht
  · intro l hk
    rw [e _ (by omega)]
    exact hh.rul (by omega)
theorem okA.updP {f : Nat → Nat} {v : Nat} (h : okA f) (hv : v ≤ 12) (hp : ∀ p t, p < v → t < 4 → f (300 + 6 * p + t) ≤ 5) : okA (fun j => if j = 10 then v else f j) := by
  have hh := h
  obtain ⟨h0, h1, h2, h3, h4, h5, h6, h7, h8, h9, h10, h11, h12, h13, h14, h15, hc⟩ := h.lits
  generalize hg : (fun j => if j = 10 then v else f j) = g
  have e : ∀ j, j ≠ 10 → g j = f j := fun j hj => by rw [← hg]; exact if_neg hj
  have ei : g 10 = v := by rw [← hg]; exact if_pos rfl
  have e0 : g 0 = f 0 := e 0 (by decide)
  have e1 : g 1 = f 1 := e 1 (by decide)
  have e2 : g 2 = f 2 := e 2 (by decide)
  have e3 : g 3 = f 3 := e 3 (by decide)
  have e4 : g 4 = f 4 := e 4 (by decide)
  have e5 : g 5 = f 5 := e 5 (by decide)
  have e6 : g 6 = f 6 := e 6 (by decide)
  have e7 : g 7 = f 7 := e 7 (by decide)
  have e8 : g 8 = f 8 := e 8 (by decide)
  have e9 : g 9 = f 9 := e 9 (by decide)
  have e13 : g 13 = f 13 := e 13 (by decide)
  have e15 : g 15 = f 15 := e 15 (by decide)
  have e900 : g 900 = f 900 := e 900 (by decide)
  have e901 : g 901 = f 901 := e 901 (by decide)
  have e902 : g 902 = f 902 := e 902 (by decide)
  refine h.mk0 (fun j hj => e j (by omega)) (okB.of0 ⟨by omega, by omega, by omega, by omega, by omega, by omega, by omega, by omega, by omega, by omega, by omega, by omega, by omega, by omega, by omega, by omega, by omega⟩ ?_ ?_ ?_ ?_)
  · intro k t hk ht
    rw [e _ (by omega)]
    exact hh.lay (by omega) ht
  · intro k hk
    rw [e _ (by omega)]
    exact hh.lif (by omega)
  · intro p t hk ht
    rw [e _ (by omega)]
    exact hp p t (by omega) ht
  · intro l hk
    rw [e _ (by omega)]
    exact hh.rul (by omega)
/-- lines and rails that are there -/
def okL (f : Nat → Nat) : Prop := ∀ j, f j = 1 → j % 6 ≤ 4
def okD (f : Nat → Nat) : Prop := ∀ j, f j = 1 → j < 30
theorem okL.upd {f : Nat → Nat} {i v : Nat} (h : okL f) (hv : v = 1 → i % 6 ≤ 4) : okL (fun j => if j = i then v else f j) := by
  intro j hj
  have hj : (if j = i then v else f j) = 1 := hj
  by_cases z : j = i
  · subst z
    rw [if_pos rfl] at hj
    exact hv hj
  · rw [if_neg z] at hj
    exact h j hj
theorem okD.upd {f : Nat → Nat} {i v : Nat} (h : okD f) (hv : v = 1 → i < 30) : okD (fun j => if j = i then v else f j) := by
  intro j hj
  have hj : (if j = i then v else f j) = 1 := hj
  by_cases z : j = i
  · subst z
    rw [if_pos rfl] at hj
    exact hv hj
  · rw [if_neg z] at hj
    exact h j hj
/-- a piece of the sheet, by its number -/
def okP (v : Nat) : Prop := v < 14641 ∧ v / 1331 + v / 11 % 11 ≤ 10 ∧ v / 121 % 11 + v % 11 ≤ 10
def okS (f : Nat → Nat) : Prop := ∀ j, okP (f j)
theorem okS.upd {f : Nat → Nat} {i v : Nat} (h : okS f) (hv : okP v) : okS (fun j => if j = i then v else f j) := by
  intro j
  show okP (if j = i then v else f j)
  by_cases z : j = i
  · rw [if_pos z]; exact hv
  · rw [if_neg z]; exact h j
/-- whence a place was met: the way back comes to an end -/
def okN (f : Nat → Nat) : Prop := ∀ j, f j = 4294967295 ∨ f j < 36
theorem okN.upd {f : Nat → Nat} {i v : Nat} (h : okN f) (hv : v = 4294967295 ∨ v < 36) : okN (fun j => if j = i then v else f j) := by
  intro j
  show (if j = i then v else f j) = 4294967295 ∨ (if j = i then v else f j) < 36
  by_cases z : j = i
  · rw [if_pos z]; exact hv
  · rw [if_neg z]; exact h j
def okF (f : Nat → Nat) : Prop := ∃ rk : Nat → Nat, ∀ p, p < 36 → f p = 4294967295 ∨ (f p < 36 ∧ f (f p) ≠ 4294967295 ∧ (f p = p ∨ rk (f p) < rk p))
theorem okF.upd {f : Nat → Nat} {p b : Nat} (h : okF f) (hp : p < 36) (hn : f p = 4294967295) (hb : b < 36) (hc : b = p ∨ f b ≠ 4294967295) : okF (fun j => if j = p then b else f j) := by
  obtain ⟨rk, hr⟩ := h
  refine ⟨fun j => if j = p then rk b + 1 else rk j, fun q hq => ?_⟩
  by_cases z : q = p
  · subst z
    refine Or.inr ?_
    simp only [if_true]
    refine ⟨hb, ?_, ?_⟩
    · by_cases y : b = q
      · rw [if_pos y]; omega
      · rw [if_neg y]
        rcases hc with hc | hc
        · exact absurd hc y
        · exact hc
    · by_cases y : b = q
      · exact Or.inl y
      · rw [if_neg y]
        exact Or.inr (by omega)
  · simp only [if_neg z]
    rcases hr q hq with h1 | ⟨h1, h2, h3⟩
    · exact Or.inl h1
    · have y : f q ≠ p := fun y => h2 (by rw [y]; exact hn)
      simp only [if_neg y]
      exact Or.inr ⟨h1, h2, h3⟩
theorem okF.none : okF (fun _ => 4294967295) := ⟨fun _ => 0, fun _ _ => Or.inl rfl⟩
def cp82 (q : Option xE) : Prop := ∃ a2 a3 a4 a5 a6 a7 a8 a9 a10 a14 a22 a23 a24 a33 a41 a42 : Nat, q = some (.inl (12, [(2, 83), (2, 84), (0, a2), (0, a3), (0, a4), (0, a5), (0, a6), (0, a7), (0, a8), (0, a9), (0, a10), (2, 85), (2, 86), (2, 87), (0, a14), (2, 88), (2, 89), (2, 90), (2, 91), (2, 92), (2, 93), (2, 94), (4, a22), (4, a23), (0, a24), (2, 95), (2, 96), (2, 97), (2, 98), (2, 99), (2, 100), (2, 101), (2, 102), (0, a33), (2, 103), (2, 104), (2, 105), (2, 106), (2, 107), (2, 108), (2, 109), (0, a41), (0, a42), (2, 110), (2, 111), (2, 112), (2, 113)])) ∧ a2 ≤ 1 ∧ a3 ≤ 4294967295 ∧ a4 ≤ 500 ∧ a5 ≤ 500 ∧ a6 ≤ 4294967295 ∧ a7 ≤ 4 ∧ a8 ≤ 4294967295 ∧ a9 ≤ 4294967295 ∧ a10 ≤ 1 ∧ a14 ≤ 4294967295 ∧ a24 ≤ 4294967295 ∧ a33 ≤ 36 ∧ a41 ≤ 100 ∧ a42 ≤ 200 ∧ (a5 ≤ a4)
def cpx83 (q : Option xE) : Prop := ∃ f : Nat → Nat, (∃ us, q = some (.inr (0, 5360, 50, us)) ∧ ∀ j, j < 5360 → xat 0 us j = (0, f j)) ∧ (∀ j, f j ≤ 4294967295) ∧ okA f
def cpx99 (q : Option xE) : Prop := ∃ f : Nat → Nat, (∃ us, q = some (.inr (2, 36, 66, us)) ∧ ∀ j, j < 36 → xat 2 us j = (0, f j)) ∧ (∀ j, f j ≤ 1) ∧ okL f
def cpx100 (q : Option xE) : Prop := ∃ f : Nat → Nat, (∃ us, q = some (.inr (2, 36, 67, us)) ∧ ∀ j, j < 36 → xat 2 us j = (0, f j)) ∧ (∀ j, f j ≤ 1) ∧ okD f
def cpx102 (q : Option xE) : Prop := ∃ f : Nat → Nat, (∃ us, q = some (.inr (0, 36, 69, us)) ∧ ∀ j, j < 36 → xat 0 us j = (0, f j)) ∧ (∀ j, f j ≤ 4294967295) ∧ okN f
def cpx108 (q : Option xE) : Prop := ∃ f : Nat → Nat, (∃ us, q = some (.inr (0, 200, 75, us)) ∧ ∀ j, j < 200 → xat 0 us j = (0, f j)) ∧ (∀ j, f j ≤ 4294967295) ∧ okS f
def mps : List (Option xE → Prop) := [cp82, cpx83, cpK 2 0 3 51 1, cpI 7 52 4294967295, cpI 140 53 4294967295, cpI 20 54 4294967295, cpI 6 55 5, cpI 6 56 4294967295, cpI 6 57 4294967295, cpI 6 58 5, cpJ 6 59, cpJ 6 60, cpJ 6 61, cpI 36 62 4294967295, cpI 36 63 4294967295, cpI 6 64 4294967295, cpI 6 65 4294967295, cpx99, cpx100, cpI 36 68 35, cpx102, cpI 36 70 4294967295, cpI 36 71 4294967295, cpI 36 72 4294967295, cpI 14641 73 4294967295, cpK 2 0 14641 74 1, cpx108, cpI 300 76 4294967295, cpI 36 77 4294967295, cpI 240 78 4294967295, cpI 320 79 4294967295, cpI 4 80 4294967295]
def mpk (k : Nat) : Option xE → Prop := mps.getD (k - 82) (fun _ => True)
def xMnv (w : List (List xE)) : Prop := ∀ k, k < 114 → 82 ≤ k → mpk k (wget w k)
theorem xoX83 {P : Prop} {w : List (List xE)} (h : cpx83 (wget w 83)) (K : ∀ f : Nat → Nat, xRow w 83 5360 50 f → (∀ j, f j ≤ 4294967295) → okA f → P) : P := by
  obtain ⟨f, a, b, c⟩ := h
  exact K f a b c
theorem xmC82 {q : Option xE} (a2 a3 a4 a5 a6 a7 a8 a9 a10 a14 a22 a23 a24 a33 a41 a42 : Nat) (e : q = some (.inl (12, [(2, 83), (2, 84), (0, a2), (0, a3), (0, a4), (0, a5), (0, a6), (0, a7), (0, a8), (0, a9), (0, a10), (2, 85), (2, 86), (2, 87), (0, a14), (2, 88), (2, 89), (2, 90), (2, 91), (2, 92), (2, 93), (2, 94), (4, a22), (4, a23), (0, a24), (2, 95), (2, 96), (2, 97), (2, 98), (2, 99), (2, 100), (2, 101), (2, 102), (0, a33), (2, 103), (2, 104), (2, 105), (2, 106), (2, 107), (2, 108), (2, 109), (0, a41), (0, a42), (2, 110), (2, 111), (2, 112), (2, 113)]))) (z0 : a2 ≤ 1) (z1 : a3 ≤ 4294967295) (z2 : a4 ≤ 500) (z3 : a5 ≤ 500) (z4 : a6 ≤ 4294967295) (z5 : a7 ≤ 4) (z6 : a8 ≤ 4294967295) (z7 : a9 ≤ 4294967295) (z8 : a10 ≤ 1) (z9 : a14 ≤ 4294967295) (z10 : a24 ≤ 4294967295) (z11 : a33 ≤ 36) (z12 : a41 ≤ 100) (z13 : a42 ≤ 200) (z14 : a5 ≤ a4) : cp82 q := ⟨a2, a3, a4, a5, a6, a7, a8, a9, a10, a14, a22, a23, a24, a33, a41, a42, e, z0, z1, z2, z3, z4, z5, z6, z7, z8, z9, z10, z11, z12, z13, z14⟩
theorem xoCh82 {P : Prop} {q : Option xE} (h : cp82 q) (k : ∀ a2 a3 a4 a5 a6 a7 a8 a9 a10 a14 a22 a23 a24 a33 a41 a42 : Nat, q = some (.inl (12, [(2, 83), (2, 84), (0, a2), (0, a3), (0, a4), (0, a5), (0, a6), (0, a7), (0, a8), (0, a9), (0, a10), (2, 85), (2, 86), (2, 87), (0, a14), (2, 88), (2, 89), (2, 90), (2, 91), (2, 92), (2, 93), (2, 94), (4, a22), (4, a23), (0, a24), (2, 95), (2, 96), (2, 97), (2, 98), (2, 99), (2, 100), (2, 101), (2, 102), (0, a33), (2, 103), (2, 104), (2, 105), (2, 106), (2, 107), (2, 108), (2, 109), (0, a41), (0, a42), (2, 110), (2, 111), (2, 112), (2, 113)])) → (a2 ≤ 1) → xHid (a3 ≤ 4294967295) → (a4 ≤ 500) → (a5 ≤ 500) → xHid (a6 ≤ 4294967295) → (a7 ≤ 4) → xHid (a8 ≤ 4294967295) → xHid (a9 ≤ 4294967295) → (a10 ≤ 1) → xHid (a14 ≤ 4294967295) → xHid (a24 ≤ 4294967295) → xHid (a33 ≤ 36) → xHid (a41 ≤ 100) → xHid (a42 ≤ 200) → (a5 ≤ a4) → P) : P := by
  obtain ⟨a2, a3, a4, a5, a6, a7, a8, a9, a10, a14, a22, a23, a24, a33, a41, a42, e, z0, z1, z2, z3, z4, z5, z6, z7, z8, z9, z10, z11, z12, z13, z14⟩ := h
  exact k a2 a3 a4 a5 a6 a7 a8 a9 a10 a14 a22 a23 a24 a33 a41 a42 e z0 z1 z2 z3 z4 z5 z6 z7 z8 z9 z10 z11 z12 z13 z14
theorem xqc82 {w : List (List xE)} (h : xMnv w) : cp82 (wget w 82) := h 82 (by decide) (by decide)
theorem xqu82 {q : Option xE} (h : cp82 q) : mpk 82 q := h
theorem xqc83 {w : List (List xE)} (h : xMnv w) : cpx83 (wget w 83) := h 83 (by decide) (by decide)
theorem xqu83 {q : Option xE} (h : cpx83 q) : mpk 83 q := h
theorem xqc84 {w : List (List xE)} (h : xMnv w) : cpK 2 0 3 51 1 (wget w 84) := h 84 (by decide) (by decide)
theorem xqu84 {q : Option xE} (h : cpK 2 0 3 51 1 q) : mpk 84 q := h
theorem xqc85 {w : List (List xE)} (h : xMnv w) : cpI 7 52 4294967295 (wget w 85) := h 85 (by decide) (by decide)
theorem xqu85 {q : Option xE} (h : cpI 7 52 4294967295 q) : mpk 85 q := h
theorem xqc86 {w : List (List xE)} (h : xMnv w) : cpI 140 53 4294967295 (wget w 86) := h 86 (by decide) (by decide)
theorem xqu86 {q : Option xE} (h : cpI 140 53 4294967295 q) : mpk 86 q := h
theorem xqc87 {w : List (List xE)} (h : xMnv w) : cpI 20 54 4294967295 (wget w 87) := h 87 (by decide) (by decide)
theorem xqu87 {q : Option xE} (h : cpI 20 54 4294967295 q) : mpk 87 q := h
theorem xqc88 {w : List (List xE)} (h : xMnv w) : cpI 6 55 5 (wget w 88) := h 88 (by decide) (by decide)
theorem xqu88 {q : Option xE} (h : cpI 6 55 5 q) : mpk 88 q := h
theorem xqc89 {w : List (List xE)} (h : xMnv w) : cpI 6 56 4294967295 (wget w 89) := h 89 (by decide) (by decide)
theorem xqu89 {q : Option xE} (h : cpI 6 56 4294967295 q) : mpk 89 q := h
theorem xqc90 {w : List (List xE)} (h : xMnv w) : cpI 6 57 4294967295 (wget w 90) := h 90 (by decide) (by decide)
theorem xqu90 {q : Option xE} (h : cpI 6 57 4294967295 q) : mpk 90 q := h
theorem xqc91 {w : List (List xE)} (h : xMnv w) : cpI 6 58 5 (wget w 91) := h 91 (by decide) (by decide)
theorem xqu91 {q : Option xE} (h : cpI 6 58 5 q) : mpk 91 q := h
theorem xqc92 {w : List (List xE)} (h : xMnv w) : cpJ 6 59 (wget w 92) := h 92 (by decide) (by decide)
theorem xqu92 {q : Option xE} (h : cpJ 6 59 q) : mpk 92 q := h
theorem xqc93 {w : List (List xE)} (h : xMnv w) : cpJ 6 60 (wget w 93) := h 93 (by decide) (by decide)
theorem xqu93 {q : Option xE} (h : cpJ 6 60 q) : mpk 93 q := h
theorem xqc94 {w : List (List xE)} (h : xMnv w) : cpJ 6 61 (wget w 94) := h 94 (by decide) (by decide)
theorem xqu94 {q : Option xE} (h : cpJ 6 61 q) : mpk 94 q := h
theorem xqc95 {w : List (List xE)} (h : xMnv w) : cpI 36 62 4294967295 (wget w 95) := h 95 (by decide) (by decide)
theorem xqu95 {q : Option xE} (h : cpI 36 62 4294967295 q) : mpk 95 q := h
theorem xqc96 {w : List (List xE)} (h : xMnv w) : cpI 36 63 4294967295 (wget w 96) := h 96 (by decide) (by decide)
theorem xqu96 {q : Option xE} (h : cpI 36 63 4294967295 q) : mpk 96 q := h
theorem xqc97 {w : List (List xE)} (h : xMnv w) : cpI 6 64 4294967295 (wget w 97) := h 97 (by decide) (by decide)
theorem xqu97 {q : Option xE} (h : cpI 6 64 4294967295 q) : mpk 97 q := h
theorem xqc98 {w : List (List xE)} (h : xMnv w) : cpI 6 65 4294967295 (wget w 98) := h 98 (by decide) (by decide)
theorem xqu98 {q : Option xE} (h : cpI 6 65 4294967295 q) : mpk 98 q := h
theorem xqc99 {w : List (List xE)} (h : xMnv w) : cpx99 (wget w 99) := h 99 (by decide) (by decide)
theorem xqu99 {q : Option xE} (h : cpx99 q) : mpk 99 q := h
theorem xqc100 {w : List (List xE)} (h : xMnv w) : cpx100 (wget w 100) := h 100 (by decide) (by decide)
theorem xqu100 {q : Option xE} (h : cpx100 q) : mpk 100 q := h
theorem xqc101 {w : List (List xE)} (h : xMnv w) : cpI 36 68 35 (wget w 101) := h 101 (by decide) (by decide)
theorem xqu101 {q : Option xE} (h : cpI 36 68 35 q) : mpk 101 q := h
theorem xqc102 {w : List (List xE)} (h : xMnv w) : cpx102 (wget w 102) := h 102 (by decide) (by decide)
theorem xqu102 {q : Option xE} (h : cpx102 q) : mpk 102 q := h
theorem xqc103 {w : List (List xE)} (h : xMnv w) : cpI 36 70 4294967295 (wget w 103) := h 103 (by decide) (by decide)
theorem xqu103 {q : Option xE} (h : cpI 36 70 4294967295 q) : mpk 103 q := h
theorem xqc104 {w : List (List xE)} (h : xMnv w) : cpI 36 71 4294967295 (wget w 104) := h 104 (by decide) (by decide)
theorem xqu104 {q : Option xE} (h : cpI 36 71 4294967295 q) : mpk 104 q := h
theorem xqc105 {w : List (List xE)} (h : xMnv w) : cpI 36 72 4294967295 (wget w 105) := h 105 (by decide) (by decide)
theorem xqu105 {q : Option xE} (h : cpI 36 72 4294967295 q) : mpk 105 q := h
theorem xqc106 {w : List (List xE)} (h : xMnv w) : cpI 14641 73 4294967295 (wget w 106) := h 106 (by decide) (by decide)
theorem xqu106 {q : Option xE} (h : cpI 14641 73 4294967295 q) : mpk 106 q := h
theorem xqc107 {w : List (List xE)} (h : xMnv w) : cpK 2 0 14641 74 1 (wget w 107) := h 107 (by decide) (by decide)
theorem xqu107 {q : Option xE} (h : cpK 2 0 14641 74 1 q) : mpk 107 q := h
theorem xqc108 {w : List (List xE)} (h : xMnv w) : cpx108 (wget w 108) := h 108 (by decide) (by decide)
theorem xqu108 {q : Option xE} (h : cpx108 q) : mpk 108 q := h
theorem xqc109 {w : List (List xE)} (h : xMnv w) : cpI 300 76 4294967295 (wget w 109) := h 109 (by decide) (by decide)
theorem xqu109 {q : Option xE} (h : cpI 300 76 4294967295 q) : mpk 109 q := h
theorem xqc110 {w : List (List xE)} (h : xMnv w) : cpI 36 77 4294967295 (wget w 110) := h 110 (by decide) (by decide)
theorem xqu110 {q : Option xE} (h : cpI 36 77 4294967295 q) : mpk 110 q := h
theorem xqc111 {w : List (List xE)} (h : xMnv w) : cpI 240 78 4294967295 (wget w 111) := h 111 (by decide) (by decide)
theorem xqu111 {q : Option xE} (h : cpI 240 78 4294967295 q) : mpk 111 q := h
theorem xqc112 {w : List (List xE)} (h : xMnv w) : cpI 320 79 4294967295 (wget w 112) := h 112 (by decide) (by decide)
theorem xqu112 {q : Option xE} (h : cpI 320 79 4294967295 q) : mpk 112 q := h
theorem xqc113 {w : List (List xE)} (h : xMnv w) : cpI 4 80 4294967295 (wget w 113) := h 113 (by decide) (by decide)
theorem xqu113 {q : Option xE} (h : cpI 4 80 4294967295 q) : mpk 113 q := h
theorem xMnv.up {w w' : List (List xE)} {S : List Nat} (h : xMnv w) (hf : xFr S w w') (hs : ∀ k ∈ S, mpk k (wget w' k)) : xMnv w' := by
  intro k hk h8
  by_cases hc : k ∈ S
  · exact hs k hc
  · rw [hf.1 k hc]
    exact h k hk h8
end
section
/-! the model: its small methods -/
theorem xRow.det {w : List (List xE)} {k L t : Nat} {f g : Nat → Nat} (h : xRow w k L t f) (h' : xRow w k L t g) (j : Nat) (hj : j < L) : f j = g j := by
  obtain ⟨us, h1, h2⟩ := h
  obtain ⟨vs, h3, h4⟩ := h'
  rw [h1] at h3
  cases h3
  have e := (h2 j hj).symm.trans (h4 j hj)
  exact congrArg Prod.snd e
theorem okA.l0 {f : Nat → Nat} (h : okA f) : f 0 ≤ 6 := h.lits.1
theorem okA.l1 {f : Nat → Nat} (h : okA f) : f 1 ≤ 4 := h.lits.2.1
theorem okA.l2 {f : Nat → Nat} (h : okA f) : f 2 ≤ 6 := h.lits.2.2.1
theorem okA.l3 {f : Nat → Nat} (h : okA f) : f 3 ≤ 4 := h.lits.2.2.2.1
theorem okA.l4 {f : Nat → Nat} (h : okA f) : f 4 ≤ 20 := h.lits.2.2.2.2.1
theorem okA.l5 {f : Nat → Nat} (h : okA f) : f 5 ≤ 6 := h.lits.2.2.2.2.2.1
theorem okA.l6 {f : Nat → Nat} (h : okA f) : f 6 ≤ 6 := h.lits.2.2.2.2.2.2.1
theorem okA.l7 {f : Nat → Nat} (h : okA f) : f 7 ≤ 10 := h.lits.2.2.2.2.2.2.2.1
theorem okA.l8 {f : Nat → Nat} (h : okA f) : f 8 ≤ 10 := h.lits.2.2.2.2.2.2.2.2.1
theorem okA.l9 {f : Nat → Nat} (h : okA f) : f 9 ≤ 40 := h.lits.2.2.2.2.2.2.2.2.2.1
theorem okA.l10 {f : Nat → Nat} (h : okA f) : f 10 ≤ 12 := h.lits.2.2.2.2.2.2.2.2.2.2.1
theorem okA.l13 {f : Nat → Nat} (h : okA f) : f 13 ≤ 200 := h.lits.2.2.2.2.2.2.2.2.2.2.2.1
theorem okA.l15 {f : Nat → Nat} (h : okA f) : f 15 ≤ 500 := h.lits.2.2.2.2.2.2.2.2.2.2.2.2.1
theorem okA.l900 {f : Nat → Nat} (h : okA f) : f 900 ≤ 4 := h.lits.2.2.2.2.2.2.2.2.2.2.2.2.2.1
theorem okA.l901 {f : Nat → Nat} (h : okA f) : f 901 ≤ 12 := h.lits.2.2.2.2.2.2.2.2.2.2.2.2.2.2.1
theorem okA.l902 {f : Nat → Nat} (h : okA f) : f 902 ≤ 16 := h.lits.2.2.2.2.2.2.2.2.2.2.2.2.2.2.2.1
theorem okA.l56 {f : Nat → Nat} (h : okA f) : f 5 = 0 ∨ 1 ≤ f 6 := h.lits.2.2.2.2.2.2.2.2.2.2.2.2.2.2.2.2
section XM1
variable {d : Nat} {w : List (List xE)} {bd : List (Nat × Nat)} {fc : List (Nat × Nat × Bool)} {rr : Nat × Nat}
theorem mIsIn {a b c : Nat} (ha : a ≤ 4294967295) (hb : b ≤ 2147483647) (hc : c ≤ 2147483647) : xPr d mX12_isIn [(0, a), (0, b), (0, c)] w bd fc rr [(0, if b ≤ a ∧ a ≤ c then 1 else 0)] w := by
  refine xPr.of ?_
  show xTo d mX12_isIn (0, [], [(0, (0, a)), (1, (0, b)), (2, (0, c))], [], (w, bd, fc, 0, 0, rr)) (xEnd 4 [(0, if b ≤ a ∧ a ≤ c then 1 else 0)] (w, bd, fc, 0, 0, rr))
  refine xg_t (xg_blq rfl) ?_
  refine xg_t (xg_iload (va := (0, a)) rfl rfl) ?_
  refine xg_t (xg_iload (va := (0, b)) rfl rfl) ?_
  by_cases hc1 : xbs a < xbs b
  · have hc1u := hc1
    unfold xbs at hc1u
    have hn2 : b ≤ 2147483647 := by omega
    refine xg_t (xg_icT (u := a) (v := b) rfl xnm0 xnm0 (xjs_ltT hc1)) ?_
    refine xg_t (xg_blq rfl) ?_
    refine xg_t (xg_const) ?_
    refine xg_t (xg_blq rfl) ?_
    rw [if_neg (show ¬ (b ≤ a ∧ a ≤ c) by omega)]
    exact xg_e ⟨rfl, rfl⟩
  · have hc1u := hc1
    unfold xbs at hc1u
    have hn3 : a ≤ 2147483647 := by omega
    have hn4 : b ≤ 2147483647 := by omega
    refine xg_t (xg_icF (u := a) (v := b) rfl xnm0 xnm0 (xjs_ltF hc1)) ?_
    refine xg_t (xg_iload (va := (0, a)) rfl rfl) ?_
    refine xg_t (xg_iload (va := (0, c)) rfl rfl) ?_
    by_cases hc5 : c < a
    · refine xg_t (xg_icT (u := a) (v := c) rfl xnm0 xnm0 (xj_gtT hc5 (by omega))) ?_
      refine xg_t (xg_blq rfl) ?_
      refine xg_t (xg_const) ?_
      refine xg_t (xg_blq rfl) ?_
      rw [if_neg (show ¬ (b ≤ a ∧ a ≤ c) by omega)]
      exact xg_e ⟨rfl, rfl⟩
    · refine xg_t (xg_icF (u := a) (v := c) rfl xnm0 xnm0 (xj_gtF (by omega) (by omega))) ?_
      refine xg_t (xg_const) ?_
      refine xg_t (xg_goto) ?_
      refine xg_t (xg_blq rfl) ?_
      rw [if_pos (show b ≤ a ∧ a ≤ c by omega)]
      exact xg_e ⟨rfl, rfl⟩
theorem mIsInN {a b c : Nat} (ha : a ≤ 4294967295) (hb : b ≤ 2147483647) (hc : 2147483648 ≤ c) (hc' : c ≤ 4294967295) : xPr d mX12_isIn [(0, a), (0, b), (0, c)] w bd fc rr [(0, 0)] w := by
  refine xPr.of ?_
  show xTo d mX12_isIn (0, [], [(0, (0, a)), (1, (0, b)), (2, (0, c))], [], (w, bd, fc, 0, 0, rr)) (xEnd 4 [(0, 0)] (w, bd, fc, 0, 0, rr))
  refine xg_t (xg_blq rfl) ?_
  refine xg_t (xg_iload (va := (0, a)) rfl rfl) ?_
  refine xg_t (xg_iload (va := (0, b)) rfl rfl) ?_
  by_cases hc1 : xbs a < xbs b
  · have hc1u := hc1
    unfold xbs at hc1u
    have hn2 : b ≤ 2147483647 := by omega
    refine xg_t (xg_icT (u := a) (v := b) rfl xnm0 xnm0 (xjs_ltT hc1)) ?_
    refine xg_t (xg_blq rfl) ?_
    refine xg_t (xg_const) ?_
    refine xg_t (xg_blq rfl) ?_
    exact xg_e ⟨rfl, rfl⟩
  · have hc1u := hc1
    unfold xbs at hc1u
    have hn3 : a ≤ 2147483647 := by omega
    have hn4 : b ≤ 2147483647 := by omega
    refine xg_t (xg_icF (u := a) (v := b) rfl xnm0 xnm0 (xjs_ltF hc1)) ?_
    refine xg_t (xg_iload (va := (0, a)) rfl rfl) ?_
    refine xg_t (xg_iload (va := (0, c)) rfl rfl) ?_
    refine xg_t (xg_icT (u := a) (v := c) rfl xnm0 xnm0 (xjs_gtT (by unfold xbs; omega))) ?_
    refine xg_t (xg_blq rfl) ?_
    refine xg_t (xg_const) ?_
    refine xg_t (xg_blq rfl) ?_
    exact xg_e ⟨rfl, rfl⟩
theorem mOf0 {g0 : Nat → Nat} {ka : Nat} (hI : xMnv w) (hka : ka ≤ 4294967295) (hr83 : xRow w 83 5360 50 g0) (hgb : ∀ j, g0 j ≤ 4294967295) (hok : okA g0) : xPi (d + 1) mX12_isOf [(2, 82), (0, ka), (0, 0)] w bd fc rr (fun n w' => (n ≤ 1 ∧ (n = 1 → ka < g0 0)) ∧ xMnv w' ∧ xFr [] w w') := by
  refine xPi.of ?_
  show xTo (d + 1) mX12_isOf (0, [], [(0, (2, 82)), (1, (0, ka)), (2, (0, 0))], [], (w, bd, fc, 0, 0, rr)) (fun φ => ∃ n w', xEnd 4 [(0, n)] (w', bd, fc, 0, 0, rr) φ ∧ (n ≤ 1 ∧ (n = 1 → ka < g0 0)) ∧ xMnv w' ∧ xFr [] w w')
  refine xoCh82 (xqc82 hI : cp82 (wget w 82)) (fun f82_1 f82_3 f82_5 f82_7 f82_9 f82_11 f82_13 f82_15 f82_17 f82_19 f82_21 f82_22 f82_23 f82_25 f82_27 f82_29 h82_31 hb2 hb4 hb6 hb8 hb10 hb12 hb14 hb16 hb18 hb20 hb24 hb26 hb28 hb30 hb32 => ?_)
  refine xg_t (xg_blq rfl) ?_
  refine xg_t (xg_iload (va := (0, ka)) rfl rfl) ?_
  refine xg_t (xg_const) ?_
  refine xg_t (xg_aload (va := (2, 82)) rfl rfl) ?_
  refine xg_t (xg_getf (va := (2, 83)) h82_31 rfl) ?_
  refine xg_t (xg_iload (va := (0, 0)) rfl rfl) ?_
  refine xg_ialdB (n := 0) (B := 4294967295) hr83 (hgb) xnm0 (by first | decide | omega) (fun u33 hu34 he35 => ?_)
  have hl36 : u33 ≤ 6 := by rw [← he35]; exact hok.l0
  refine xg_t (xg_const) ?_
  by_cases hc37 : 1 ≤ u33
  · refine xg_t (xg_isub (u := u33) (v := 1) (z := u33 - 1) xnm0 xnm0 (by omega)) ?_
    refine xg_t (xg_cSr mX12_isIn (vs := [(0, ka), (0, 0), (0, u33 - 1)]) (rest := []) (rs := [(0, if 0 ≤ ka ∧ ka ≤ u33 - 1 then 1 else 0)]) (cn1 := 0) (sl1 := 0) rfl (mIsIn (by omega) (by omega) (by omega)) rfl rfl rfl rfl rfl rfl rfl rfl) ?_
    by_cases hc38 : 0 ≤ ka ∧ ka ≤ u33 - 1
    · rw [if_pos hc38]
      exact xg_e ⟨1, w, ⟨rfl, rfl⟩, by first | decide | omega, hI, xFr.rf⟩
    · rw [if_neg hc38]
      exact xg_e ⟨0, w, ⟨rfl, rfl⟩, by first | decide | omega, hI, xFr.rf⟩
  · have hz41 : 4294967295 ≤ (u33 + (4294967296 - 1)) % 4294967296 := by omega
    refine xg_t (xg_isub (u := u33) (v := 1) (z := (u33 + (4294967296 - 1)) % 4294967296) xnm0 xnm0 rfl) ?_
    have hz40 : (u33 + (4294967296 - 1)) % 4294967296 < 4294967296 := Nat.mod_lt _ (by decide)
    generalize (u33 + (4294967296 - 1)) % 4294967296 = z39 at hz41 hz40 ⊢
    refine xg_t (xg_cSr mX12_isIn (vs := [(0, ka), (0, 0), (0, z39)]) (rest := []) (rs := [(0, 0)]) (cn1 := 0) (sl1 := 0) rfl (mIsInN (by omega) (by omega) (by omega) (by omega)) rfl rfl rfl rfl rfl rfl rfl rfl) ?_
    exact xg_e ⟨0, w, ⟨rfl, rfl⟩, by first | decide | omega, hI, xFr.rf⟩
theorem mOf5 {g0 : Nat → Nat} {ka : Nat} (hI : xMnv w) (hka : ka ≤ 4294967295) (hr83 : xRow w 83 5360 50 g0) (hgb : ∀ j, g0 j ≤ 4294967295) (hok : okA g0) : xPi (d + 1) mX12_isOf [(2, 82), (0, ka), (0, 5)] w bd fc rr (fun n w' => (n ≤ 1 ∧ (n = 1 → ka < g0 5)) ∧ xMnv w' ∧ xFr [] w w') := by
  refine xPi.of ?_
  show xTo (d + 1) mX12_isOf (0, [], [(0, (2, 82)), (1, (0, ka)), (2, (0, 5))], [], (w, bd, fc, 0, 0, rr)) (fun φ => ∃ n w', xEnd 4 [(0, n)] (w', bd, fc, 0, 0, rr) φ ∧ (n ≤ 1 ∧ (n = 1 → ka < g0 5)) ∧ xMnv w' ∧ xFr [] w w')
  refine xoCh82 (xqc82 hI : cp82 (wget w 82)) (fun f82_1 f82_3 f82_5 f82_7 f82_9 f82_11 f82_13 f82_15 f82_17 f82_19 f82_21 f82_22 f82_23 f82_25 f82_27 f82_29 h82_31 hb2 hb4 hb6 hb8 hb10 hb12 hb14 hb16 hb18 hb20 hb24 hb26 hb28 hb30 hb32 => ?_)
  refine xg_t (xg_blq rfl) ?_
  refine xg_t (xg_iload (va := (0, ka)) rfl rfl) ?_
  refine xg_t (xg_const) ?_
  refine xg_t (xg_aload (va := (2, 82)) rfl rfl) ?_
  refine xg_t (xg_getf (va := (2, 83)) h82_31 rfl) ?_
  refine xg_t (xg_iload (va := (0, 5)) rfl rfl) ?_
  refine xg_ialdB (n := 5) (B := 4294967295) hr83 (hgb) xnm0 (by first | decide | omega) (fun u33 hu34 he35 => ?_)
  have hl36 : u33 ≤ 6 := by rw [← he35]; exact hok.l5
  refine xg_t (xg_const) ?_
  by_cases hc37 : 1 ≤ u33
  · refine xg_t (xg_isub (u := u33) (v := 1) (z := u33 - 1) xnm0 xnm0 (by omega)) ?_
    refine xg_t (xg_cSr mX12_isIn (vs := [(0, ka), (0, 0), (0, u33 - 1)]) (rest := []) (rs := [(0, if 0 ≤ ka ∧ ka ≤ u33 - 1 then 1 else 0)]) (cn1 := 0) (sl1 := 0) rfl (mIsIn (by omega) (by omega) (by omega)) rfl rfl rfl rfl rfl rfl rfl rfl) ?_
    by_cases hc38 : 0 ≤ ka ∧ ka ≤ u33 - 1
    · rw [if_pos hc38]
      exact xg_e ⟨1, w, ⟨rfl, rfl⟩, by first | decide | omega, hI, xFr.rf⟩
    · rw [if_neg hc38]
      exact xg_e ⟨0, w, ⟨rfl, rfl⟩, by first | decide | omega, hI, xFr.rf⟩
  · have hz41 : 4294967295 ≤ (u33 + (4294967296 - 1)) % 4294967296 := by omega
    refine xg_t (xg_isub (u := u33) (v := 1) (z := (u33 + (4294967296 - 1)) % 4294967296) xnm0 xnm0 rfl) ?_
    have hz40 : (u33 + (4294967296 - 1)) % 4294967296 < 4294967296 := Nat.mod_lt _ (by decide)
    generalize (u33 + (4294967296 - 1)) % 4294967296 = z39 at hz41 hz40 ⊢
    refine xg_t (xg_cSr mX12_isIn (vs := [(0, ka), (0, 0), (0, z39)]) (rest := []) (rs := [(0, 0)]) (cn1 := 0) (sl1 := 0) rfl (mIsInN (by omega) (by omega) (by omega) (by omega)) rfl rfl rfl rfl rfl rfl rfl rfl) ?_
    exact xg_e ⟨0, w, ⟨rfl, rfl⟩, by first | decide | omega, hI, xFr.rf⟩
theorem mOf9 {g0 : Nat → Nat} {ka : Nat} (hI : xMnv w) (hka : ka ≤ 4294967295) (hr83 : xRow w 83 5360 50 g0) (hgb : ∀ j, g0 j ≤ 4294967295) (hok : okA g0) : xPi (d + 1) mX12_isOf [(2, 82), (0, ka), (0, 9)] w bd fc rr (fun n w' => (n ≤ 1 ∧ (n = 1 → ka < g0 9)) ∧ xMnv w' ∧ xFr [] w w') := by
  refine xPi.of ?_
  show xTo (d + 1) mX12_isOf (0, [], [(0, (2, 82)), (1, (0, ka)), (2, (0, 9))], [], (w, bd, fc, 0, 0, rr)) (fun φ => ∃ n w', xEnd 4 [(0, n)] (w', bd, fc, 0, 0, rr) φ ∧ (n ≤ 1 ∧ (n = 1 → ka < g0 9)) ∧ xMnv w' ∧ xFr [] w w')
  refine xoCh82 (xqc82 hI : cp82 (wget w 82)) (fun f82_1 f82_3 f82_5 f82_7 f82_9 f82_11 f82_13 f82_15 f82_17 f82_19 f82_21 f82_22 f82_23 f82_25 f82_27 f82_29 h82_31 hb2 hb4 hb6 hb8 hb10 hb12 hb14 hb16 hb18 hb20 hb24 hb26 hb28 hb30 hb32 => ?_)
  refine xg_t (xg_blq rfl) ?_
  refine xg_t (xg_iload (va := (0, ka)) rfl rfl) ?_
  refine xg_t (xg_const) ?_
  refine xg_t (xg_aload (va := (2, 82)) rfl rfl) ?_
  refine xg_t (xg_getf (va := (2, 83)) h82_31 rfl) ?_
  refine xg_t (xg_iload (va := (0, 9)) rfl rfl) ?_
  refine xg_ialdB (n := 9) (B := 4294967295) hr83 (hgb) xnm0 (by first | decide | omega) (fun u33 hu34 he35 => ?_)
  have hl36 : u33 ≤ 40 := by rw [← he35]; exact hok.l9
  refine xg_t (xg_const) ?_
  by_cases hc37 : 1 ≤ u33
  · refine xg_t (xg_isub (u := u33) (v := 1) (z := u33 - 1) xnm0 xnm0 (by omega)) ?_
    refine xg_t (xg_cSr mX12_isIn (vs := [(0, ka), (0, 0), (0, u33 - 1)]) (rest := []) (rs := [(0, if 0 ≤ ka ∧ ka ≤ u33 - 1 then 1 else 0)]) (cn1 := 0) (sl1 := 0) rfl (mIsIn (by omega) (by omega) (by omega)) rfl rfl rfl rfl rfl rfl rfl rfl) ?_
    by_cases hc38 : 0 ≤ ka ∧ ka ≤ u33 - 1
    · rw [if_pos hc38]
      exact xg_e ⟨1, w, ⟨rfl, rfl⟩, by first | decide | omega, hI, xFr.rf⟩
    · rw [if_neg hc38]
      exact xg_e ⟨0, w, ⟨rfl, rfl⟩, by first | decide | omega, hI, xFr.rf⟩
  · have hz41 : 4294967295 ≤ (u33 + (4294967296 - 1)) % 4294967296 := by omega
    refine xg_t (xg_isub (u := u33) (v := 1) (z := (u33 + (4294967296 - 1)) % 4294967296) xnm0 xnm0 rfl) ?_
    have hz40 : (u33 + (4294967296 - 1)) % 4294967296 < 4294967296 := Nat.mod_lt _ (by decide)
    generalize (u33 + (4294967296 - 1)) % 4294967296 = z39 at hz41 hz40 ⊢
    refine xg_t (xg_cSr mX12_isIn (vs := [(0, ka), (0, 0), (0, z39)]) (rest := []) (rs := [(0, 0)]) (cn1 := 0) (sl1 := 0) rfl (mIsInN (by omega) (by omega) (by omega) (by omega)) rfl rfl rfl rfl rfl rfl rfl rfl) ?_
    exact xg_e ⟨0, w, ⟨rfl, rfl⟩, by first | decide | omega, hI, xFr.rf⟩
theorem mOf900 {g0 : Nat → Nat} {ka : Nat} (hI : xMnv w) (hka : ka ≤ 4294967295) (hr83 : xRow w 83 5360 50 g0) (hgb : ∀ j, g0 j ≤ 4294967295) (hok : okA g0) : xPi (d + 1) mX12_isOf [(2, 82), (0, ka), (0, 900)] w bd fc rr (fun n w' => (n ≤ 1 ∧ (n = 1 → ka < g0 900)) ∧ xMnv w' ∧ xFr [] w w') := by
  refine xPi.of ?_
  show xTo (d + 1) mX12_isOf (0, [], [(0, (2, 82)), (1, (0, ka)), (2, (0, 900))], [], (w, bd, fc, 0, 0, rr)) (fun φ => ∃ n w', xEnd 4 [(0, n)] (w', bd, fc, 0, 0, rr) φ ∧ (n ≤ 1 ∧ (n = 1 → ka < g0 900)) ∧ xMnv w' ∧ xFr [] w w')
  refine xoCh82 (xqc82 hI : cp82 (wget w 82)) (fun f82_1 f82_3 f82_5 f82_7 f82_9 f82_11 f82_13 f82_15 f82_17 f82_19 f82_21 f82_22 f82_23 f82_25 f82_27 f82_29 h82_31 hb2 hb4 hb6 hb8 hb10 hb12 hb14 hb16 hb18 hb20 hb24 hb26 hb28 hb30 hb32 => ?_)
  refine xg_t (xg_blq rfl) ?_
  refine xg_t (xg_iload (va := (0, ka)) rfl rfl) ?_
  refine xg_t (xg_const) ?_
  refine xg_t (xg_aload (va := (2, 82)) rfl rfl) ?_
  refine xg_t (xg_getf (va := (2, 83)) h82_31 rfl) ?_
  refine xg_t (xg_iload (va := (0, 900)) rfl rfl) ?_
  refine xg_ialdB (n := 900) (B := 4294967295) hr83 (hgb) xnm0 (by first | decide | omega) (fun u33 hu34 he35 => ?_)
  have hl36 : u33 ≤ 4 := by rw [← he35]; exact hok.l900
  refine xg_t (xg_const) ?_
  by_cases hc37 : 1 ≤ u33
  · refine xg_t (xg_isub (u := u33) (v := 1) (z := u33 - 1) xnm0 xnm0 (by omega)) ?_
    refine xg_t (xg_cSr mX12_isIn (vs := [(0, ka), (0, 0), (0, u33 - 1)]) (rest := []) (rs := [(0, if 0 ≤ ka ∧ ka ≤ u33 - 1 then 1 else 0)]) (cn1 := 0) (sl1 := 0) rfl (mIsIn (by omega) (by omega) (by omega)) rfl rfl rfl rfl rfl rfl rfl rfl) ?_
    by_cases hc38 : 0 ≤ ka ∧ ka ≤ u33 - 1
    · rw [if_pos hc38]
      exact xg_e ⟨1, w, ⟨rfl, rfl⟩, by first | decide | omega, hI, xFr.rf⟩
    · rw [if_neg hc38]
      exact xg_e ⟨0, w, ⟨rfl, rfl⟩, by first | decide | omega, hI, xFr.rf⟩
  · have hz41 : 4294967295 ≤ (u33 + (4294967296 - 1)) % 4294967296 := by omega
    refine xg_t (xg_isub (u := u33) (v := 1) (z := (u33 + (4294967296 - 1)) % 4294967296) xnm0 xnm0 rfl) ?_
    have hz40 : (u33 + (4294967296 - 1)) % 4294967296 < 4294967296 := Nat.mod_lt _ (by decide)
    generalize (u33 + (4294967296 - 1)) % 4294967296 = z39 at hz41 hz40 ⊢
    refine xg_t (xg_cSr mX12_isIn (vs := [(0, ka), (0, 0), (0, z39)]) (rest := []) (rs := [(0, 0)]) (cn1 := 0) (sl1 := 0) rfl (mIsInN (by omega) (by omega) (by omega) (by omega)) rfl rfl rfl rfl rfl rfl rfl rfl) ?_
    exact xg_e ⟨0, w, ⟨rfl, rfl⟩, by first | decide | omega, hI, xFr.rf⟩
theorem mRound {ro : Nat} (hI : xMnv w) (hro : ro ≤ 4294967295) : xPi (d + 1) mX12_isRound [(2, 82), (0, ro)] w bd fc rr (fun n w' => (n ≤ 1 ∧ (n = 1 → 1 ≤ ro ∧ ro ≤ 9999)) ∧ xMnv w' ∧ xFr [] w w') := by
  refine xPi.of ?_
  show xTo (d + 1) mX12_isRound (0, [], [(0, (2, 82)), (1, (0, ro))], [], (w, bd, fc, 0, 0, rr)) (fun φ => ∃ n w', xEnd 4 [(0, n)] (w', bd, fc, 0, 0, rr) φ ∧ (n ≤ 1 ∧ (n = 1 → 1 ≤ ro ∧ ro ≤ 9999)) ∧ xMnv w' ∧ xFr [] w w')
  refine xg_t (xg_blq rfl) ?_
  refine xg_t (xg_iload (va := (0, ro)) rfl rfl) ?_
  refine xg_t (xg_const) ?_
  refine xg_t (xg_sip) ?_
  refine xg_t (xg_cSr mX12_isIn (vs := [(0, ro), (0, 1), (0, 9999)]) (rest := []) (rs := [(0, if 1 ≤ ro ∧ ro ≤ 9999 then 1 else 0)]) (cn1 := 0) (sl1 := 0) rfl (mIsIn (by omega) (by omega) (by omega)) rfl rfl rfl rfl rfl rfl rfl rfl) ?_
  by_cases hc1 : 1 ≤ ro ∧ ro ≤ 9999
  · rw [if_pos hc1]
    exact xg_e ⟨1, w, ⟨rfl, rfl⟩, by first | decide | omega, hI, xFr.rf⟩
  · rw [if_neg hc1]
    exact xg_e ⟨0, w, ⟨rfl, rfl⟩, by first | decide | omega, hI, xFr.rf⟩
theorem mPoint {g0 : Nat → Nat} {ra ca : Nat} (hI : xMnv w) (hra : ra ≤ 4294967295) (hca : ca ≤ 4294967295) (hr83 : xRow w 83 5360 50 g0) (hgb : ∀ j, g0 j ≤ 4294967295) (hok : okA g0) : xPi (d + 1) mX12_isPoint [(2, 82), (0, ra), (0, ca)] w bd fc rr (fun n w' => (n ≤ 1 ∧ (n = 1 → ra < g0 5 ∧ ca < g0 6)) ∧ xMnv w' ∧ xFr [] w w') := by
  refine xPi.of ?_
  show xTo (d + 1) mX12_isPoint (0, [], [(0, (2, 82)), (1, (0, ra)), (2, (0, ca))], [], (w, bd, fc, 0, 0, rr)) (fun φ => ∃ n w', xEnd 4 [(0, n)] (w', bd, fc, 0, 0, rr) φ ∧ (n ≤ 1 ∧ (n = 1 → ra < g0 5 ∧ ca < g0 6)) ∧ xMnv w' ∧ xFr [] w w')
  refine xoCh82 (xqc82 hI : cp82 (wget w 82)) (fun f82_1 f82_3 f82_5 f82_7 f82_9 f82_11 f82_13 f82_15 f82_17 f82_19 f82_21 f82_22 f82_23 f82_25 f82_27 f82_29 h82_31 hb2 hb4 hb6 hb8 hb10 hb12 hb14 hb16 hb18 hb20 hb24 hb26 hb28 hb30 hb32 => ?_)
  refine xg_t (xg_blq rfl) ?_
  refine xg_t (xg_iload (va := (0, ra)) rfl rfl) ?_
  refine xg_t (xg_const) ?_
  refine xg_t (xg_aload (va := (2, 82)) rfl rfl) ?_
  refine xg_t (xg_getf (va := (2, 83)) h82_31 rfl) ?_
  refine xg_t (xg_const) ?_
  refine xg_ialdB (n := 5) (B := 4294967295) hr83 (hgb) xnm0 (by first | decide | omega) (fun u33 hu34 he35 => ?_)
  have hl36 : u33 ≤ 6 := by rw [← he35]; exact hok.l5
  refine xg_t (xg_const) ?_
  by_cases hc37 : 1 ≤ u33
  · refine xg_t (xg_isub (u := u33) (v := 1) (z := u33 - 1) xnm0 xnm0 (by omega)) ?_
    refine xg_t (xg_cSr mX12_isIn (vs := [(0, ra), (0, 0), (0, u33 - 1)]) (rest := []) (rs := [(0, if 0 ≤ ra ∧ ra ≤ u33 - 1 then 1 else 0)]) (cn1 := 0) (sl1 := 0) rfl (mIsIn (by omega) (by omega) (by omega)) rfl rfl rfl rfl rfl rfl rfl rfl) ?_
    by_cases hc38 : 0 ≤ ra ∧ ra ≤ u33 - 1
    · refine xg_t (xg_ifF (u := (if 0 ≤ ra ∧ ra ≤ u33 - 1 then 1 else 0)) rfl xnm0 (xj_eqF (xite1 hc38))) ?_
      refine xg_t (xg_iload (va := (0, ca)) rfl rfl) ?_
      refine xg_t (xg_const) ?_
      refine xg_t (xg_aload (va := (2, 82)) rfl rfl) ?_
      refine xg_t (xg_getf (va := (2, 83)) h82_31 rfl) ?_
      refine xg_t (xg_bip) ?_
      refine xg_ialdB (n := 6) (B := 4294967295) hr83 (hgb) xnm0 (by first | decide | omega) (fun u39 hu40 he41 => ?_)
      have hl42 : u39 ≤ 6 := by rw [← he41]; exact hok.l6
      refine xg_t (xg_const) ?_
      by_cases hc43 : 1 ≤ u39
      · refine xg_t (xg_isub (u := u39) (v := 1) (z := u39 - 1) xnm0 xnm0 (by omega)) ?_
        refine xg_t (xg_cSr mX12_isIn (vs := [(0, ca), (0, 0), (0, u39 - 1)]) (rest := []) (rs := [(0, if 0 ≤ ca ∧ ca ≤ u39 - 1 then 1 else 0)]) (cn1 := 0) (sl1 := 0) rfl (mIsIn (by omega) (by omega) (by omega)) rfl rfl rfl rfl rfl rfl rfl rfl) ?_
        by_cases hc44 : 0 ≤ ca ∧ ca ≤ u39 - 1
        · refine xg_t (xg_ifF (u := (if 0 ≤ ca ∧ ca ≤ u39 - 1 then 1 else 0)) rfl xnm0 (xj_eqF (xite1 hc44))) ?_
          refine xg_t (xg_const) ?_
          refine xg_t (xg_goto) ?_
          refine xg_t (xg_blq rfl) ?_
          exact xg_e ⟨1, w, ⟨rfl, rfl⟩, by first | decide | omega, hI, xFr.rf⟩
        · refine xg_t (xg_ifT (u := (if 0 ≤ ca ∧ ca ≤ u39 - 1 then 1 else 0)) rfl xnm0 (xj_eqT (xite0 hc44))) ?_
          refine xg_t (xg_blq rfl) ?_
          refine xg_t (xg_const) ?_
          refine xg_t (xg_blq rfl) ?_
          exact xg_e ⟨0, w, ⟨rfl, rfl⟩, by first | decide | omega, hI, xFr.rf⟩
      · have hz47 : 4294967295 ≤ (u39 + (4294967296 - 1)) % 4294967296 := by omega
        refine xg_t (xg_isub (u := u39) (v := 1) (z := (u39 + (4294967296 - 1)) % 4294967296) xnm0 xnm0 rfl) ?_
        have hz46 : (u39 + (4294967296 - 1)) % 4294967296 < 4294967296 := Nat.mod_lt _ (by decide)
        generalize (u39 + (4294967296 - 1)) % 4294967296 = z45 at hz47 hz46 ⊢
        refine xg_t (xg_cSr mX12_isIn (vs := [(0, ca), (0, 0), (0, z45)]) (rest := []) (rs := [(0, 0)]) (cn1 := 0) (sl1 := 0) rfl (mIsInN (by omega) (by omega) (by omega) (by omega)) rfl rfl rfl rfl rfl rfl rfl rfl) ?_
        refine xg_t (xg_ifT (u := 0) rfl xnm0 (by decide)) ?_
        refine xg_t (xg_blq rfl) ?_
        refine xg_t (xg_const) ?_
        refine xg_t (xg_blq rfl) ?_
        exact xg_e ⟨0, w, ⟨rfl, rfl⟩, by first | decide | omega, hI, xFr.rf⟩
    · refine xg_t (xg_ifT (u := (if 0 ≤ ra ∧ ra ≤ u33 - 1 then 1 else 0)) rfl xnm0 (xj_eqT (xite0 hc38))) ?_
      refine xg_t (xg_blq rfl) ?_
      refine xg_t (xg_const) ?_
      refine xg_t (xg_blq rfl) ?_
      exact xg_e ⟨0, w, ⟨rfl, rfl⟩, by first | decide | omega, hI, xFr.rf⟩
  · have hz50 : 4294967295 ≤ (u33 + (4294967296 - 1)) % 4294967296 := by omega
    refine xg_t (xg_isub (u := u33) (v := 1) (z := (u33 + (4294967296 - 1)) % 4294967296) xnm0 xnm0 rfl) ?_
    have hz49 : (u33 + (4294967296 - 1)) % 4294967296 < 4294967296 := Nat.mod_lt _ (by decide)
    generalize (u33 + (4294967296 - 1)) % 4294967296 = z48 at hz50 hz49 ⊢
    refine xg_t (xg_cSr mX12_isIn (vs := [(0, ra), (0, 0), (0, z48)]) (rest := []) (rs := [(0, 0)]) (cn1 := 0) (sl1 := 0) rfl (mIsInN (by omega) (by omega) (by omega) (by omega)) rfl rfl rfl rfl rfl rfl rfl rfl) ?_
    refine xg_t (xg_ifT (u := 0) rfl xnm0 (by decide)) ?_
    refine xg_t (xg_blq rfl) ?_
    refine xg_t (xg_const) ?_
    refine xg_t (xg_blq rfl) ?_
    exact xg_e ⟨0, w, ⟨rfl, rfl⟩, by first | decide | omega, hI, xFr.rf⟩
theorem mThere {g0 : Nat → Nat} {la ra ca : Nat} (hI : xMnv w) (hla : la ≤ 1) (hra : ra ≤ 4294967295) (hca : ca ≤ 4294967295) (hr83 : xRow w 83 5360 50 g0) (hgb : ∀ j, g0 j ≤ 4294967295) (hok : okA g0) : xPi (d + 1) mX12_isThere [(2, 82), (0, la), (0, ra), (0, ca)] w bd fc rr (fun n w' => (n ≤ 1 ∧ (n = 1 → ra ≤ 5 ∧ ca ≤ 5 ∧ (la = 0 → ca ≤ 4) ∧ (la = 1 → ra ≤ 4))) ∧ xMnv w' ∧ xFr [] w w') := by
  refine xPi.of ?_
  show xTo (d + 1) mX12_isThere (0, [], [(0, (2, 82)), (1, (0, la)), (2, (0, ra)), (3, (0, ca))], [], (w, bd, fc, 0, 0, rr)) (fun φ => ∃ n w', xEnd 4 [(0, n)] (w', bd, fc, 0, 0, rr) φ ∧ (n ≤ 1 ∧ (n = 1 → ra ≤ 5 ∧ ca ≤ 5 ∧ (la = 0 → ca ≤ 4) ∧ (la = 1 → ra ≤ 4))) ∧ xMnv w' ∧ xFr [] w w')
  refine xoCh82 (xqc82 hI : cp82 (wget w 82)) (fun f82_1 f82_3 f82_5 f82_7 f82_9 f82_11 f82_13 f82_15 f82_17 f82_19 f82_21 f82_22 f82_23 f82_25 f82_27 f82_29 h82_31 hb2 hb4 hb6 hb8 hb10 hb12 hb14 hb16 hb18 hb20 hb24 hb26 hb28 hb30 hb32 => ?_)
  refine xg_t (xg_blq rfl) ?_
  refine xg_t (xg_iload (va := (0, ra)) rfl rfl) ?_
  refine xg_t (xg_const) ?_
  refine xg_t (xg_aload (va := (2, 82)) rfl rfl) ?_
  refine xg_t (xg_getf (va := (2, 83)) h82_31 rfl) ?_
  refine xg_t (xg_const) ?_
  refine xg_ialdB (n := 5) (B := 4294967295) hr83 (hgb) xnm0 (by first | decide | omega) (fun u33 hu34 he35 => ?_)
  have hl36 : u33 ≤ 6 := by rw [← he35]; exact hok.l5
  refine xg_t (xg_iload (va := (0, la)) rfl rfl) ?_
  by_cases hc37 : la = 0
  · refine xg_t (xg_ifT (u := la) rfl xnm0 (xj_eqT hc37)) ?_
    refine xg_t (xg_blq rfl) ?_
    refine xg_t (xg_const) ?_
    refine xg_t (xg_blq rfl) ?_
    by_cases hc38 : 1 ≤ u33
    · refine xg_t (xg_isub (u := u33) (v := 1) (z := u33 - 1) xnm0 xnm0 (by omega)) ?_
      refine xg_t (xg_cSr mX12_isIn (vs := [(0, ra), (0, 0), (0, u33 - 1)]) (rest := []) (rs := [(0, if 0 ≤ ra ∧ ra ≤ u33 - 1 then 1 else 0)]) (cn1 := 0) (sl1 := 0) rfl (mIsIn (by omega) (by omega) (by omega)) rfl rfl rfl rfl rfl rfl rfl rfl) ?_
      by_cases hc39 : 0 ≤ ra ∧ ra ≤ u33 - 1
      · refine xg_t (xg_ifF (u := (if 0 ≤ ra ∧ ra ≤ u33 - 1 then 1 else 0)) rfl xnm0 (xj_eqF (xite1 hc39))) ?_
        refine xg_t (xg_iload (va := (0, ca)) rfl rfl) ?_
        refine xg_t (xg_const) ?_
        refine xg_t (xg_aload (va := (2, 82)) rfl rfl) ?_
        refine xg_t (xg_getf (va := (2, 83)) h82_31 rfl) ?_
        refine xg_t (xg_bip) ?_
        refine xg_ialdB (n := 6) (B := 4294967295) hr83 (hgb) xnm0 (by first | decide | omega) (fun u40 hu41 he42 => ?_)
        have hl43 : u40 ≤ 6 := by rw [← he42]; exact hok.l6
        refine xg_t (xg_iload (va := (0, la)) rfl rfl) ?_
        by_cases hc44 : la = 0
        · refine xg_t (xg_ifT (u := la) rfl xnm0 (xj_eqT hc44)) ?_
          refine xg_t (xg_blq rfl) ?_
          refine xg_t (xg_const) ?_
          refine xg_t (xg_blq rfl) ?_
          by_cases hc45 : 2 ≤ u40
          · refine xg_t (xg_isub (u := u40) (v := 2) (z := u40 - 2) xnm0 xnm0 (by omega)) ?_
            refine xg_t (xg_cSr mX12_isIn (vs := [(0, ca), (0, 0), (0, u40 - 2)]) (rest := []) (rs := [(0, if 0 ≤ ca ∧ ca ≤ u40 - 2 then 1 else 0)]) (cn1 := 0) (sl1 := 0) rfl (mIsIn (by omega) (by omega) (by omega)) rfl rfl rfl rfl rfl rfl rfl rfl) ?_
            by_cases hc46 : 0 ≤ ca ∧ ca ≤ u40 - 2
            · refine xg_t (xg_ifF (u := (if 0 ≤ ca ∧ ca ≤ u40 - 2 then 1 else 0)) rfl xnm0 (xj_eqF (xite1 hc46))) ?_
              refine xg_t (xg_const) ?_
              refine xg_t (xg_goto) ?_
              refine xg_t (xg_blq rfl) ?_
              exact xg_e ⟨1, w, ⟨rfl, rfl⟩, by first | decide | omega, hI, xFr.rf⟩
            · refine xg_t (xg_ifT (u := (if 0 ≤ ca ∧ ca ≤ u40 - 2 then 1 else 0)) rfl xnm0 (xj_eqT (xite0 hc46))) ?_
              refine xg_t (xg_blq rfl) ?_
              refine xg_t (xg_const) ?_
              refine xg_t (xg_blq rfl) ?_
              exact xg_e ⟨0, w, ⟨rfl, rfl⟩, by first | decide | omega, hI, xFr.rf⟩
          · have hz49 : 4294967294 ≤ (u40 + (4294967296 - 2)) % 4294967296 := by omega
            refine xg_t (xg_isub (u := u40) (v := 2) (z := (u40 + (4294967296 - 2)) % 4294967296) xnm0 xnm0 rfl) ?_
            have hz48 : (u40 + (4294967296 - 2)) % 4294967296 < 4294967296 := Nat.mod_lt _ (by decide)
            generalize (u40 + (4294967296 - 2)) % 4294967296 = z47 at hz49 hz48 ⊢
            refine xg_t (xg_cSr mX12_isIn (vs := [(0, ca), (0, 0), (0, z47)]) (rest := []) (rs := [(0, 0)]) (cn1 := 0) (sl1 := 0) rfl (mIsInN (by omega) (by omega) (by omega) (by omega)) rfl rfl rfl rfl rfl rfl rfl rfl) ?_
            refine xg_t (xg_ifT (u := 0) rfl xnm0 (by decide)) ?_
            refine xg_t (xg_blq rfl) ?_
            refine xg_t (xg_const) ?_
            refine xg_t (xg_blq rfl) ?_
            exact xg_e ⟨0, w, ⟨rfl, rfl⟩, by first | decide | omega, hI, xFr.rf⟩
        · refine xg_t (xg_ifF (u := la) rfl xnm0 (xj_eqF hc44)) ?_
          refine xg_t (xg_const) ?_
          refine xg_t (xg_goto) ?_
          refine xg_t (xg_blq rfl) ?_
          by_cases hc50 : 1 ≤ u40
          · refine xg_t (xg_isub (u := u40) (v := 1) (z := u40 - 1) xnm0 xnm0 (by omega)) ?_
            refine xg_t (xg_cSr mX12_isIn (vs := [(0, ca), (0, 0), (0, u40 - 1)]) (rest := []) (rs := [(0, if 0 ≤ ca ∧ ca ≤ u40 - 1 then 1 else 0)]) (cn1 := 0) (sl1 := 0) rfl (mIsIn (by omega) (by omega) (by omega)) rfl rfl rfl rfl rfl rfl rfl rfl) ?_
            by_cases hc51 : 0 ≤ ca ∧ ca ≤ u40 - 1
            · refine xg_t (xg_ifF (u := (if 0 ≤ ca ∧ ca ≤ u40 - 1 then 1 else 0)) rfl xnm0 (xj_eqF (xite1 hc51))) ?_
              refine xg_t (xg_const) ?_
              refine xg_t (xg_goto) ?_
              refine xg_t (xg_blq rfl) ?_
              exact xg_e ⟨1, w, ⟨rfl, rfl⟩, by first | decide | omega, hI, xFr.rf⟩
            · refine xg_t (xg_ifT (u := (if 0 ≤ ca ∧ ca ≤ u40 - 1 then 1 else 0)) rfl xnm0 (xj_eqT (xite0 hc51))) ?_
              refine xg_t (xg_blq rfl) ?_
              refine xg_t (xg_const) ?_
              refine xg_t (xg_blq rfl) ?_
              exact xg_e ⟨0, w, ⟨rfl, rfl⟩, by first | decide | omega, hI, xFr.rf⟩
          · have hz54 : 4294967295 ≤ (u40 + (4294967296 - 1)) % 4294967296 := by omega
            refine xg_t (xg_isub (u := u40) (v := 1) (z := (u40 + (4294967296 - 1)) % 4294967296) xnm0 xnm0 rfl) ?_
            have hz53 : (u40 + (4294967296 - 1)) % 4294967296 < 4294967296 := Nat.mod_lt _ (by decide)
            generalize (u40 + (4294967296 - 1)) % 4294967296 = z52 at hz54 hz53 ⊢
            refine xg_t (xg_cSr mX12_isIn (vs := [(0, ca), (0, 0), (0, z52)]) (rest := []) (rs := [(0, 0)]) (cn1 := 0) (sl1 := 0) rfl (mIsInN (by omega) (by omega) (by omega) (by omega)) rfl rfl rfl rfl rfl rfl rfl rfl) ?_
            refine xg_t (xg_ifT (u := 0) rfl xnm0 (by decide)) ?_
            refine xg_t (xg_blq rfl) ?_
            refine xg_t (xg_const) ?_
            refine xg_t (xg_blq rfl) ?_
            exact xg_e ⟨0, w, ⟨rfl, rfl⟩, by first | decide | omega, hI, xFr.rf⟩
      · refine xg_t (xg_ifT (u := (if 0 ≤ ra ∧ ra ≤ u33 - 1 then 1 else 0)) rfl xnm0 (xj_eqT (xite0 hc39))) ?_
        refine xg_t (xg_blq rfl) ?_
        refine xg_t (xg_const) ?_
        refine xg_t (xg_blq rfl) ?_
        exact xg_e ⟨0, w, ⟨rfl, rfl⟩, by first | decide | omega, hI, xFr.rf⟩
    · have hz57 : 4294967295 ≤ (u33 + (4294967296 - 1)) % 4294967296 := by omega
      refine xg_t (xg_isub (u := u33) (v := 1) (z := (u33 + (4294967296 - 1)) % 4294967296) xnm0 xnm0 rfl) ?_
      have hz56 : (u33 + (4294967296 - 1)) % 4294967296 < 4294967296 := Nat.mod_lt _ (by decide)
      generalize (u33 + (4294967296 - 1)) % 4294967296 = z55 at hz57 hz56 ⊢
      refine xg_t (xg_cSr mX12_isIn (vs := [(0, ra), (0, 0), (0, z55)]) (rest := []) (rs := [(0, 0)]) (cn1 := 0) (sl1 := 0) rfl (mIsInN (by omega) (by omega) (by omega) (by omega)) rfl rfl rfl rfl rfl rfl rfl rfl) ?_
      refine xg_t (xg_ifT (u := 0) rfl xnm0 (by decide)) ?_
      refine xg_t (xg_blq rfl) ?_
      refine xg_t (xg_const) ?_
      refine xg_t (xg_blq rfl) ?_
      exact xg_e ⟨0, w, ⟨rfl, rfl⟩, by first | decide | omega, hI, xFr.rf⟩
  · refine xg_t (xg_ifF (u := la) rfl xnm0 (xj_eqF hc37)) ?_
    refine xg_t (xg_const) ?_
    refine xg_t (xg_goto) ?_
    refine xg_t (xg_blq rfl) ?_
    by_cases hc58 : 2 ≤ u33
    · refine xg_t (xg_isub (u := u33) (v := 2) (z := u33 - 2) xnm0 xnm0 (by omega)) ?_
      refine xg_t (xg_cSr mX12_isIn (vs := [(0, ra), (0, 0), (0, u33 - 2)]) (rest := []) (rs := [(0, if 0 ≤ ra ∧ ra ≤ u33 - 2 then 1 else 0)]) (cn1 := 0) (sl1 := 0) rfl (mIsIn (by omega) (by omega) (by omega)) rfl rfl rfl rfl rfl rfl rfl rfl) ?_
      by_cases hc59 : 0 ≤ ra ∧ ra ≤ u33 - 2
      · refine xg_t (xg_ifF (u := (if 0 ≤ ra ∧ ra ≤ u33 - 2 then 1 else 0)) rfl xnm0 (xj_eqF (xite1 hc59))) ?_
        refine xg_t (xg_iload (va := (0, ca)) rfl rfl) ?_
        refine xg_t (xg_const) ?_
        refine xg_t (xg_aload (va := (2, 82)) rfl rfl) ?_
        refine xg_t (xg_getf (va := (2, 83)) h82_31 rfl) ?_
        refine xg_t (xg_bip) ?_
        refine xg_ialdB (n := 6) (B := 4294967295) hr83 (hgb) xnm0 (by first | decide | omega) (fun u60 hu61 he62 => ?_)
        have hl63 : u60 ≤ 6 := by rw [← he62]; exact hok.l6
        refine xg_t (xg_iload (va := (0, la)) rfl rfl) ?_
        refine xg_t (xg_ifF (u := la) rfl xnm0 (xj_eqF (by omega))) ?_
        refine xg_t (xg_const) ?_
        refine xg_t (xg_goto) ?_
        refine xg_t (xg_blq rfl) ?_
        by_cases hc64 : 1 ≤ u60
        · refine xg_t (xg_isub (u := u60) (v := 1) (z := u60 - 1) xnm0 xnm0 (by omega)) ?_
          refine xg_t (xg_cSr mX12_isIn (vs := [(0, ca), (0, 0), (0, u60 - 1)]) (rest := []) (rs := [(0, if 0 ≤ ca ∧ ca ≤ u60 - 1 then 1 else 0)]) (cn1 := 0) (sl1 := 0) rfl (mIsIn (by omega) (by omega) (by omega)) rfl rfl rfl rfl rfl rfl rfl rfl) ?_
          by_cases hc65 : 0 ≤ ca ∧ ca ≤ u60 - 1
          · refine xg_t (xg_ifF (u := (if 0 ≤ ca ∧ ca ≤ u60 - 1 then 1 else 0)) rfl xnm0 (xj_eqF (xite1 hc65))) ?_
            refine xg_t (xg_const) ?_
            refine xg_t (xg_goto) ?_
            refine xg_t (xg_blq rfl) ?_
            exact xg_e ⟨1, w, ⟨rfl, rfl⟩, by first | decide | omega, hI, xFr.rf⟩
          · refine xg_t (xg_ifT (u := (if 0 ≤ ca ∧ ca ≤ u60 - 1 then 1 else 0)) rfl xnm0 (xj_eqT (xite0 hc65))) ?_
            refine xg_t (xg_blq rfl) ?_
            refine xg_t (xg_const) ?_
            refine xg_t (xg_blq rfl) ?_
            exact xg_e ⟨0, w, ⟨rfl, rfl⟩, by first | decide | omega, hI, xFr.rf⟩
        · have hz68 : 4294967295 ≤ (u60 + (4294967296 - 1)) % 4294967296 := by omega
          refine xg_t (xg_isub (u := u60) (v := 1) (z := (u60 + (4294967296 - 1)) % 4294967296) xnm0 xnm0 rfl) ?_
          have hz67 : (u60 + (4294967296 - 1)) % 4294967296 < 4294967296 := Nat.mod_lt _ (by decide)
          generalize (u60 + (4294967296 - 1)) % 4294967296 = z66 at hz68 hz67 ⊢
          refine xg_t (xg_cSr mX12_isIn (vs := [(0, ca), (0, 0), (0, z66)]) (rest := []) (rs := [(0, 0)]) (cn1 := 0) (sl1 := 0) rfl (mIsInN (by omega) (by omega) (by omega) (by omega)) rfl rfl rfl rfl rfl rfl rfl rfl) ?_
          refine xg_t (xg_ifT (u := 0) rfl xnm0 (by decide)) ?_
          refine xg_t (xg_blq rfl) ?_
          refine xg_t (xg_const) ?_
          refine xg_t (xg_blq rfl) ?_
          exact xg_e ⟨0, w, ⟨rfl, rfl⟩, by first | decide | omega, hI, xFr.rf⟩
      · refine xg_t (xg_ifT (u := (if 0 ≤ ra ∧ ra ≤ u33 - 2 then 1 else 0)) rfl xnm0 (xj_eqT (xite0 hc59))) ?_
        refine xg_t (xg_blq rfl) ?_
        refine xg_t (xg_const) ?_
        refine xg_t (xg_blq rfl) ?_
        exact xg_e ⟨0, w, ⟨rfl, rfl⟩, by first | decide | omega, hI, xFr.rf⟩
    · have hz71 : 4294967294 ≤ (u33 + (4294967296 - 2)) % 4294967296 := by omega
      refine xg_t (xg_isub (u := u33) (v := 2) (z := (u33 + (4294967296 - 2)) % 4294967296) xnm0 xnm0 rfl) ?_
      have hz70 : (u33 + (4294967296 - 2)) % 4294967296 < 4294967296 := Nat.mod_lt _ (by decide)
      generalize (u33 + (4294967296 - 2)) % 4294967296 = z69 at hz71 hz70 ⊢
      refine xg_t (xg_cSr mX12_isIn (vs := [(0, ra), (0, 0), (0, z69)]) (rest := []) (rs := [(0, 0)]) (cn1 := 0) (sl1 := 0) rfl (mIsInN (by omega) (by omega) (by omega) (by omega)) rfl rfl rfl rfl rfl rfl rfl rfl) ?_
      refine xg_t (xg_ifT (u := 0) rfl xnm0 (by decide)) ?_
      refine xg_t (xg_blq rfl) ?_
      refine xg_t (xg_const) ?_
      refine xg_t (xg_blq rfl) ?_
      exact xg_e ⟨0, w, ⟨rfl, rfl⟩, by first | decide | omega, hI, xFr.rf⟩
theorem mCracked {la ra ca un : Nat} (hI : xMnv w) (hla : la ≤ 1) (hra : ra ≤ 4294967295) (hca : ca ≤ 4294967295) (hun : un ≤ 4294967295) : xPi d mX12_isCracked [(2, 82), (0, la), (0, ra), (0, ca), (0, un)] w bd fc rr (fun n w' => (n ≤ 1) ∧ xMnv w' ∧ xFr [] w w') := by
  refine xPi.of ?_
  show xTo d mX12_isCracked (0, [], [(0, (2, 82)), (1, (0, la)), (2, (0, ra)), (3, (0, ca)), (4, (0, un))], [], (w, bd, fc, 0, 0, rr)) (fun φ => ∃ n w', xEnd 4 [(0, n)] (w', bd, fc, 0, 0, rr) φ ∧ (n ≤ 1) ∧ xMnv w' ∧ xFr [] w w')
  refine xoCh82 (xqc82 hI : cp82 (wget w 82)) (fun f82_1 f82_3 f82_5 f82_7 f82_9 f82_11 f82_13 f82_15 f82_17 f82_19 f82_21 f82_22 f82_23 f82_25 f82_27 f82_29 h82_31 hb2 hb4 hb6 hb8 hb10 hb12 hb14 hb16 hb18 hb20 hb24 hb26 hb28 hb30 hb32 => ?_)
  refine xoX83 (xqc83 hI : cpx83 (wget w 83)) (fun g83_33 h83_34 hb35 hx36 => ?_)
  refine xg_t (xg_blq rfl) ?_
  refine xg_t (xg_const) ?_
  refine xg_t (xg_istore (l1 := [(0, (2, 82)), (1, (0, la)), (2, (0, ra)), (3, (0, ca)), (4, (0, un))]) rfl rfl rfl) ?_
  refine xg_t (xg_const) ?_
  refine xg_t (xg_istore (l1 := [(5, (0, 0)), (0, (2, 82)), (1, (0, la)), (2, (0, ra)), (3, (0, ca)), (4, (0, un))]) rfl rfl rfl) ?_
  refine xg_t (xg_drop (l1 := [(0, (2, 82)), (1, (0, la)), (2, (0, ra)), (3, (0, ca)), (4, (0, un)), (5, (0, 0)), (6, (0, 0))]) (List.forall_mem_cons.mpr ⟨List.mem_cons_of_mem _ (List.mem_cons_of_mem _ (List.mem_cons_self)), List.forall_mem_cons.mpr ⟨List.mem_cons_of_mem _ (List.mem_cons_of_mem _ (List.mem_cons_of_mem _ (List.mem_cons_self))), List.forall_mem_cons.mpr ⟨List.mem_cons_of_mem _ (List.mem_cons_of_mem _ (List.mem_cons_of_mem _ (List.mem_cons_of_mem _ (List.mem_cons_self)))), List.forall_mem_cons.mpr ⟨List.mem_cons_of_mem _ (List.mem_cons_of_mem _ (List.mem_cons_of_mem _ (List.mem_cons_of_mem _ (List.mem_cons_of_mem _ (List.mem_cons_self))))), List.forall_mem_cons.mpr ⟨List.mem_cons_of_mem _ (List.mem_cons_of_mem _ (List.mem_cons_of_mem _ (List.mem_cons_of_mem _ (List.mem_cons_of_mem _ (List.mem_cons_of_mem _ (List.mem_cons_self)))))), List.forall_mem_cons.mpr ⟨List.mem_cons_of_mem _ (List.mem_cons_self), List.forall_mem_cons.mpr ⟨List.mem_cons_self, fun _ h => absurd h List.not_mem_nil⟩⟩⟩⟩⟩⟩⟩)) ?_
  have key37 : ∀ (m39 : Nat) (is_ ki : Nat) (w40 : List (List xE)), 40 - ki < m39 → is_ ≤ 1 → ki ≤ 40 → xMnv w40 → xFr [] w w40 → xTo d mX12_isCracked (6, [], [(0, (2, 82)), (1, (0, la)), (2, (0, ra)), (3, (0, ca)), (4, (0, un)), (5, (0, is_)), (6, (0, ki))], [], (w40, bd, fc, 0, 0, rr)) (fun φ => ∃ n w', xEnd 4 [(0, n)] (w', bd, fc, 0, 0, rr) φ ∧ (n ≤ 1) ∧ xMnv w' ∧ xFr [] w w') := by
    intro m39
    induction m39 with
    | zero => intro is_ ki w40 hz; exact absurd hz (Nat.not_lt_zero _)
    | succ m39 ih38 =>
      intro is_ ki w40 hm45 hn43 hn44 hI41 hF42
      refine xg_t (xg_blq rfl) ?_
      refine xg_t (xg_iload (va := (0, ki)) rfl rfl) ?_
      refine xg_t (xg_aload (va := (2, 82)) rfl rfl) ?_
      refine xg_t (xg_getf (va := (2, 83)) (hF42.get (by decide) h82_31) rfl) ?_
      refine xg_t (xg_bip) ?_
      refine xg_ialdB (n := 9) (B := 4294967295) (h83_34.fr hF42 (by decide)) (hb35) xnm0 (by first | decide | omega) (fun u46 hu47 he48 => ?_)
      have hl49 : u46 ≤ 40 := by rw [← he48]; exact hx36.l9
      by_cases hc50 : ki < u46
      · refine xg_t (xg_icF (u := ki) (v := u46) rfl xnm0 xnm0 (xj_geF hc50 (by omega))) ?_
        refine xg_t (xg_iload (va := (0, is_)) rfl rfl) ?_
        by_cases hc51 : is_ = 0
        · refine xg_t (xg_ifF (u := is_) rfl xnm0 (xj_neF hc51)) ?_
          refine xg_t (xg_sip) ?_
          refine xg_t (xg_const) ?_
          refine xg_t (xg_iload (va := (0, ki)) rfl rfl) ?_
          refine xg_t (xg_imul (u := 4) (v := ki) (z := 4 * ki) xnm0 xnm0 (by omega)) ?_
          refine xg_t (xg_iadd (u := 140) (v := 4 * ki) (z := 140 + (4 * ki)) xnm0 xnm0 (by omega)) ?_
          refine xg_t (xg_istore (l1 := [(0, (2, 82)), (1, (0, la)), (2, (0, ra)), (3, (0, ca)), (4, (0, un)), (5, (0, is_)), (6, (0, ki))]) rfl rfl rfl) ?_
          refine xg_t (xg_iload (va := (0, ki)) rfl rfl) ?_
          refine xg_t (xg_bip) ?_
          by_cases hc52 : ki < 10
          · refine xg_t (xg_icF (u := ki) (v := 10) rfl xnm0 xnm0 (xj_geF hc52 (by omega))) ?_
            refine xg_t (xg_aload (va := (2, 82)) rfl rfl) ?_
            refine xg_t (xg_getf (va := (0, f82_23)) (hF42.get (by decide) h82_31) rfl) ?_
            have hn53 : f82_23 ≤ 4294967295 := hb24
            refine xg_t (xg_iload (va := (0, ki)) rfl rfl) ?_
            refine xg_k (xg_ishrG (u := f82_23) (v := ki) xnm0 xnm0) (xpt_lt _) (fun z54 hz55 => ?_)
            refine xg_t (xg_const) ?_
            refine xg_k (xg_iand (z := Nat.land z54 1) (u := z54) (v := 1) xnm0 xnm0 rfl) (xland_lt (by omega)) (fun z56 hz57 => ?_)
            refine xg_t (xg_const) ?_
            by_cases hc58 : z56 = 1
            · refine xg_t (xg_icF (u := z56) (v := 1) rfl xnm0 xnm0 (xj_neF hc58)) ?_
              refine xg_t (xg_goto) ?_
              refine xg_t (xg_blq rfl) ?_
              refine xg_t (xg_iinc (u := ki) (z := ki + 1) (l1 := [(7, (0, 140 + (4 * ki))), (0, (2, 82)), (1, (0, la)), (2, (0, ra)), (3, (0, ca)), (4, (0, un)), (5, (0, is_))]) rfl rfl (by omega) rfl) ?_
              refine xg_t (xg_goto) ?_
              refine xg_t (xg_drop (l1 := [(0, (2, 82)), (1, (0, la)), (2, (0, ra)), (3, (0, ca)), (4, (0, un)), (5, (0, is_)), (6, (0, ki + 1))]) (List.forall_mem_cons.mpr ⟨List.mem_cons_of_mem _ (List.mem_cons_of_mem _ (List.mem_cons_self)), List.forall_mem_cons.mpr ⟨List.mem_cons_of_mem _ (List.mem_cons_of_mem _ (List.mem_cons_of_mem _ (List.mem_cons_self))), List.forall_mem_cons.mpr ⟨List.mem_cons_of_mem _ (List.mem_cons_of_mem _ (List.mem_cons_of_mem _ (List.mem_cons_of_mem _ (List.mem_cons_self)))), List.forall_mem_cons.mpr ⟨List.mem_cons_of_mem _ (List.mem_cons_of_mem _ (List.mem_cons_of_mem _ (List.mem_cons_of_mem _ (List.mem_cons_of_mem _ (List.mem_cons_self))))), List.forall_mem_cons.mpr ⟨List.mem_cons_of_mem _ (List.mem_cons_of_mem _ (List.mem_cons_of_mem _ (List.mem_cons_of_mem _ (List.mem_cons_of_mem _ (List.mem_cons_of_mem _ (List.mem_cons_self)))))), List.forall_mem_cons.mpr ⟨List.mem_cons_of_mem _ (List.mem_cons_of_mem _ (List.mem_cons_of_mem _ (List.mem_cons_of_mem _ (List.mem_cons_of_mem _ (List.mem_cons_of_mem _ (List.mem_cons_of_mem _ (List.mem_cons_self))))))), List.forall_mem_cons.mpr ⟨List.mem_cons_self, fun _ h => absurd h List.not_mem_nil⟩⟩⟩⟩⟩⟩⟩)) ?_
              exact ih38 is_ (ki + 1) w40 (by omega) (by omega) (by omega) (hI41) (hF42)
            · refine xg_t (xg_icT (u := z56) (v := 1) rfl xnm0 xnm0 (xj_neT hc58)) ?_
              refine xg_t (xg_blq rfl) ?_
              refine xg_t (xg_aload (va := (2, 82)) rfl rfl) ?_
              refine xg_t (xg_getf (va := (2, 83)) (hF42.get (by decide) h82_31) rfl) ?_
              refine xg_t (xg_iload (va := (0, 140 + (4 * ki))) rfl rfl) ?_
              refine xg_ialdB (n := 140 + (4 * ki)) (B := 4294967295) (h83_34.fr hF42 (by decide)) (hb35) xnm0 (by omega) (fun u59 hu60 he61 => ?_)
              refine xg_t (xg_iload (va := (0, la)) rfl rfl) ?_
              by_cases hc62 : la = 0
              · refine xg_t (xg_ifT (u := la) rfl xnm0 (xj_eqT hc62)) ?_
                refine xg_t (xg_blq rfl) ?_
                refine xg_t (xg_const) ?_
                refine xg_t (xg_blq rfl) ?_
                by_cases hc63 : u59 = 0
                · refine xg_t (xg_icF (u := u59) (v := 0) rfl xnm0 xnm0 (xj_neF hc63)) ?_
                  refine xg_t (xg_aload (va := (2, 82)) rfl rfl) ?_
                  refine xg_t (xg_getf (va := (2, 83)) (hF42.get (by decide) h82_31) rfl) ?_
                  refine xg_t (xg_iload (va := (0, 140 + (4 * ki))) rfl rfl) ?_
                  refine xg_t (xg_const) ?_
                  refine xg_t (xg_iadd (u := 140 + (4 * ki)) (v := 1) (z := (140 + (4 * ki)) + 1) xnm0 xnm0 (by omega)) ?_
                  refine xg_ialdB (n := (140 + (4 * ki)) + 1) (B := 4294967295) (h83_34.fr hF42 (by decide)) (hb35) xnm0 (by omega) (fun u64 hu65 he66 => ?_)
                  refine xg_t (xg_iload (va := (0, ra)) rfl rfl) ?_
                  by_cases hc67 : u64 = ra
                  · refine xg_t (xg_icF (u := u64) (v := ra) rfl xnm0 xnm0 (xj_neF hc67)) ?_
                    refine xg_t (xg_aload (va := (2, 82)) rfl rfl) ?_
                    refine xg_t (xg_getf (va := (2, 83)) (hF42.get (by decide) h82_31) rfl) ?_
                    refine xg_t (xg_iload (va := (0, 140 + (4 * ki))) rfl rfl) ?_
                    refine xg_t (xg_const) ?_
                    refine xg_t (xg_iadd (u := 140 + (4 * ki)) (v := 2) (z := (140 + (4 * ki)) + 2) xnm0 xnm0 (by omega)) ?_
                    refine xg_ialdB (n := (140 + (4 * ki)) + 2) (B := 4294967295) (h83_34.fr hF42 (by decide)) (hb35) xnm0 (by omega) (fun u68 hu69 he70 => ?_)
                    refine xg_t (xg_iload (va := (0, ca)) rfl rfl) ?_
                    by_cases hc71 : u68 = ca
                    · refine xg_t (xg_icF (u := u68) (v := ca) rfl xnm0 xnm0 (xj_neF hc71)) ?_
                      refine xg_t (xg_iload (va := (0, un)) rfl rfl) ?_
                      refine xg_t (xg_const) ?_
                      by_cases hc72 : un = 4294967295
                      · refine xg_t (xg_icT (u := un) (v := 4294967295) rfl xnm0 xnm0 (xj_eqT hc72)) ?_
                        refine xg_t (xg_blq rfl) ?_
                        refine xg_t (xg_const) ?_
                        refine xg_t (xg_goto) ?_
                        refine xg_t (xg_blq rfl) ?_
                        refine xg_t (xg_istore (l1 := [(7, (0, 140 + (4 * ki))), (0, (2, 82)), (1, (0, la)), (2, (0, ra)), (3, (0, ca)), (4, (0, un)), (6, (0, ki))]) rfl rfl rfl) ?_
                        refine xg_t (xg_blq rfl) ?_
                        refine xg_t (xg_iinc (u := ki) (z := ki + 1) (l1 := [(5, (0, 1)), (7, (0, 140 + (4 * ki))), (0, (2, 82)), (1, (0, la)), (2, (0, ra)), (3, (0, ca)), (4, (0, un))]) rfl rfl (by omega) rfl) ?_
                        refine xg_t (xg_goto) ?_
                        refine xg_t (xg_drop (l1 := [(0, (2, 82)), (1, (0, la)), (2, (0, ra)), (3, (0, ca)), (4, (0, un)), (5, (0, 1)), (6, (0, ki + 1))]) (List.forall_mem_cons.mpr ⟨List.mem_cons_of_mem _ (List.mem_cons_of_mem _ (List.mem_cons_of_mem _ (List.mem_cons_self))), List.forall_mem_cons.mpr ⟨List.mem_cons_of_mem _ (List.mem_cons_of_mem _ (List.mem_cons_of_mem _ (List.mem_cons_of_mem _ (List.mem_cons_self)))), List.forall_mem_cons.mpr ⟨List.mem_cons_of_mem _ (List.mem_cons_of_mem _ (List.mem_cons_of_mem _ (List.mem_cons_of_mem _ (List.mem_cons_of_mem _ (List.mem_cons_self))))), List.forall_mem_cons.mpr ⟨List.mem_cons_of_mem _ (List.mem_cons_of_mem _ (List.mem_cons_of_mem _ (List.mem_cons_of_mem _ (List.mem_cons_of_mem _ (List.mem_cons_of_mem _ (List.mem_cons_self)))))), List.forall_mem_cons.mpr ⟨List.mem_cons_of_mem _ (List.mem_cons_of_mem _ (List.mem_cons_of_mem _ (List.mem_cons_of_mem _ (List.mem_cons_of_mem _ (List.mem_cons_of_mem _ (List.mem_cons_of_mem _ (List.mem_cons_self))))))), List.forall_mem_cons.mpr ⟨List.mem_cons_of_mem _ (List.mem_cons_self), List.forall_mem_cons.mpr ⟨List.mem_cons_self, fun _ h => absurd h List.not_mem_nil⟩⟩⟩⟩⟩⟩⟩)) ?_
                        exact ih38 1 (ki + 1) w40 (by omega) (by omega) (by omega) (hI41) (hF42)
                      · refine xg_t (xg_icF (u := un) (v := 4294967295) rfl xnm0 xnm0 (xj_eqF hc72)) ?_
                        refine xg_t (xg_aload (va := (2, 82)) rfl rfl) ?_
                        refine xg_t (xg_getf (va := (2, 83)) (hF42.get (by decide) h82_31) rfl) ?_
                        refine xg_t (xg_iload (va := (0, 140 + (4 * ki))) rfl rfl) ?_
                        refine xg_t (xg_const) ?_
                        refine xg_t (xg_iadd (u := 140 + (4 * ki)) (v := 3) (z := (140 + (4 * ki)) + 3) xnm0 xnm0 (by omega)) ?_
                        refine xg_ialdB (n := (140 + (4 * ki)) + 3) (B := 4294967295) (h83_34.fr hF42 (by decide)) (hb35) xnm0 (by omega) (fun u73 hu74 he75 => ?_)
                        refine xg_t (xg_iload (va := (0, un)) rfl rfl) ?_
                        by_cases hc76 : xbs un < xbs u73
                        · have hc76u := hc76
                          unfold xbs at hc76u
                          refine xg_t (xg_icT (u := u73) (v := un) rfl xnm0 xnm0 (xjs_gtT hc76)) ?_
                          refine xg_t (xg_blq rfl) ?_
                          refine xg_t (xg_const) ?_
                          refine xg_t (xg_blq rfl) ?_
                          refine xg_t (xg_istore (l1 := [(7, (0, 140 + (4 * ki))), (0, (2, 82)), (1, (0, la)), (2, (0, ra)), (3, (0, ca)), (4, (0, un)), (6, (0, ki))]) rfl rfl rfl) ?_
                          refine xg_t (xg_blq rfl) ?_
                          refine xg_t (xg_iinc (u := ki) (z := ki + 1) (l1 := [(5, (0, 0)), (7, (0, 140 + (4 * ki))), (0, (2, 82)), (1, (0, la)), (2, (0, ra)), (3, (0, ca)), (4, (0, un))]) rfl rfl (by omega) rfl) ?_
                          refine xg_t (xg_goto) ?_
                          refine xg_t (xg_drop (l1 := [(0, (2, 82)), (1, (0, la)), (2, (0, ra)), (3, (0, ca)), (4, (0, un)), (5, (0, 0)), (6, (0, ki + 1))]) (List.forall_mem_cons.mpr ⟨List.mem_cons_of_mem _ (List.mem_cons_of_mem _ (List.mem_cons_of_mem _ (List.mem_cons_self))), List.forall_mem_cons.mpr ⟨List.mem_cons_of_mem _ (List.mem_cons_of_mem _ (List.mem_cons_of_mem _ (List.mem_cons_of_mem _ (List.mem_cons_self)))), List.forall_mem_cons.mpr ⟨List.mem_cons_of_mem _ (List.mem_cons_of_mem _ (List.mem_cons_of_mem _ (List.mem_cons_of_mem _ (List.mem_cons_of_mem _ (List.mem_cons_self))))), List.forall_mem_cons.mpr ⟨List.mem_cons_of_mem _ (List.mem_cons_of_mem _ (List.mem_cons_of_mem _ (List.mem_cons_of_mem _ (List.mem_cons_of_mem _ (List.mem_cons_of_mem _ (List.mem_cons_self)))))), List.forall_mem_cons.mpr ⟨List.mem_cons_of_mem _ (List.mem_cons_of_mem _ (List.mem_cons_of_mem _ (List.mem_cons_of_mem _ (List.mem_cons_of_mem _ (List.mem_cons_of_mem _ (List.mem_cons_of_mem _ (List.mem_cons_self))))))), List.forall_mem_cons.mpr ⟨List.mem_cons_of_mem _ (List.mem_cons_self), List.forall_mem_cons.mpr ⟨List.mem_cons_self, fun _ h => absurd h List.not_mem_nil⟩⟩⟩⟩⟩⟩⟩)) ?_
                          exact ih38 0 (ki + 1) w40 (by omega) (by omega) (by omega) (hI41) (hF42)
                        · have hc76u := hc76
                          unfold xbs at hc76u
                          refine xg_t (xg_icF (u := u73) (v := un) rfl xnm0 xnm0 (xjs_gtF hc76)) ?_
                          refine xg_t (xg_blq rfl) ?_
                          refine xg_t (xg_const) ?_
                          refine xg_t (xg_goto) ?_
                          refine xg_t (xg_blq rfl) ?_
                          refine xg_t (xg_istore (l1 := [(7, (0, 140 + (4 * ki))), (0, (2, 82)), (1, (0, la)), (2, (0, ra)), (3, (0, ca)), (4, (0, un)), (6, (0, ki))]) rfl rfl rfl) ?_
                          refine xg_t (xg_blq rfl) ?_
                          refine xg_t (xg_iinc (u := ki) (z := ki + 1) (l1 := [(5, (0, 1)), (7, (0, 140 + (4 * ki))), (0, (2, 82)), (1, (0, la)), (2, (0, ra)), (3, (0, ca)), (4, (0, un))]) rfl rfl (by omega) rfl) ?_
                          refine xg_t (xg_goto) ?_
                          refine xg_t (xg_drop (l1 := [(0, (2, 82)), (1, (0, la)), (2, (0, ra)), (3, (0, ca)), (4, (0, un)), (5, (0, 1)), (6, (0, ki + 1))]) (List.forall_mem_cons.mpr ⟨List.mem_cons_of_mem _ (List.mem_cons_of_mem _ (List.mem_cons_of_mem _ (List.mem_cons_self))), List.forall_mem_cons.mpr ⟨List.mem_cons_of_mem _ (List.mem_cons_of_mem _ (List.mem_cons_of_mem _ (List.mem_cons_of_mem _ (List.mem_cons_self)))), List.forall_mem_cons.mpr ⟨List.mem_cons_of_mem _ (List.mem_cons_of_mem _ (List.mem_cons_of_mem _ (List.mem_cons_of_mem _ (List.mem_cons_of_mem _ (List.mem_cons_self))))), List.forall_mem_cons.mpr ⟨List.mem_cons_of_mem _ (List.mem_cons_of_mem _ (List.mem_cons_of_mem _ (List.mem_cons_of_mem _ (List.mem_cons_of_mem _ (List.mem_cons_of_mem _ (List.mem_cons_self)))))), List.forall_mem_cons.mpr ⟨List.mem_cons_of_mem _ (List.mem_cons_of_mem _ (List.mem_cons_of_mem _ (List.mem_cons_of_mem _ (List.mem_cons_of_mem _ (List.mem_cons_of_mem _ (List.mem_cons_of_mem _ (List.mem_cons_self))))))), List.forall_mem_cons.mpr ⟨List.mem_cons_of_mem _ (List.mem_cons_self), List.forall_mem_cons.mpr ⟨List.mem_cons_self, fun _ h => absurd h List.not_mem_nil⟩⟩⟩⟩⟩⟩⟩)) ?_
                          exact ih38 1 (ki + 1) w40 (by omega) (by omega) (by omega) (hI41) (hF42)
                    · refine xg_t (xg_icT (u := u68) (v := ca) rfl xnm0 xnm0 (xj_neT hc71)) ?_
                      refine xg_t (xg_blq rfl) ?_
                      refine xg_t (xg_const) ?_
                      refine xg_t (xg_blq rfl) ?_
                      refine xg_t (xg_istore (l1 := [(7, (0, 140 + (4 * ki))), (0, (2, 82)), (1, (0, la)), (2, (0, ra)), (3, (0, ca)), (4, (0, un)), (6, (0, ki))]) rfl rfl rfl) ?_
                      refine xg_t (xg_blq rfl) ?_
                      refine xg_t (xg_iinc (u := ki) (z := ki + 1) (l1 := [(5, (0, 0)), (7, (0, 140 + (4 * ki))), (0, (2, 82)), (1, (0, la)), (2, (0, ra)), (3, (0, ca)), (4, (0, un))]) rfl rfl (by omega) rfl) ?_
                      refine xg_t (xg_goto) ?_
                      refine xg_t (xg_drop (l1 := [(0, (2, 82)), (1, (0, la)), (2, (0, ra)), (3, (0, ca)), (4, (0, un)), (5, (0, 0)), (6, (0, ki + 1))]) (List.forall_mem_cons.mpr ⟨List.mem_cons_of_mem _ (List.mem_cons_of_mem _ (List.mem_cons_of_mem _ (List.mem_cons_self))), List.forall_mem_cons.mpr ⟨List.mem_cons_of_mem _ (List.mem_cons_of_mem _ (List.mem_cons_of_mem _ (List.mem_cons_of_mem _ (List.mem_cons_self)))), List.forall_mem_cons.mpr ⟨List.mem_cons_of_mem _ (List.mem_cons_of_mem _ (List.mem_cons_of_mem _ (List.mem_cons_of_mem _ (List.mem_cons_of_mem _ (List.mem_cons_self))))), List.forall_mem_cons.mpr ⟨List.mem_cons_of_mem _ (List.mem_cons_of_mem _ (List.mem_cons_of_mem _ (List.mem_cons_of_mem _ (List.mem_cons_of_mem _ (List.mem_cons_of_mem _ (List.mem_cons_self)))))), List.forall_mem_cons.mpr ⟨List.mem_cons_of_mem _ (List.mem_cons_of_mem _ (List.mem_cons_of_mem _ (List.mem_cons_of_mem _ (List.mem_cons_of_mem _ (List.mem_cons_of_mem _ (List.mem_cons_of_mem _ (List.mem_cons_self))))))), List.forall_mem_cons.mpr ⟨List.mem_cons_of_mem _ (List.mem_cons_self), List.forall_mem_cons.mpr ⟨List.mem_cons_self, fun _ h => absurd h List.not_mem_nil⟩⟩⟩⟩⟩⟩⟩)) ?_
                      exact ih38 0 (ki + 1) w40 (by omega) (by omega) (by omega) (hI41) (hF42)
                  · refine xg_t (xg_icT (u := u64) (v := ra) rfl xnm0 xnm0 (xj_neT hc67)) ?_
                    refine xg_t (xg_blq rfl) ?_
                    refine xg_t (xg_const) ?_
                    refine xg_t (xg_blq rfl) ?_
                    refine xg_t (xg_istore (l1 := [(7, (0, 140 + (4 * ki))), (0, (2, 82)), (1, (0, la)), (2, (0, ra)), (3, (0, ca)), (4, (0, un)), (6, (0, ki))]) rfl rfl rfl) ?_
                    refine xg_t (xg_blq rfl) ?_
                    refine xg_t (xg_iinc (u := ki) (z := ki + 1) (l1 := [(5, (0, 0)), (7, (0, 140 + (4 * ki))), (0, (2, 82)), (1, (0, la)), (2, (0, ra)), (3, (0, ca)), (4, (0, un))]) rfl rfl (by omega) rfl) ?_
                    refine xg_t (xg_goto) ?_
                    refine xg_t (xg_drop (l1 := [(0, (2, 82)), (1, (0, la)), (2, (0, ra)), (3, (0, ca)), (4, (0, un)), (5, (0, 0)), (6, (0, ki + 1))]) (List.forall_mem_cons.mpr ⟨List.mem_cons_of_mem _ (List.mem_cons_of_mem _ (List.mem_cons_of_mem _ (List.mem_cons_self))), List.forall_mem_cons.mpr ⟨List.mem_cons_of_mem _ (List.mem_cons_of_mem _ (List.mem_cons_of_mem _ (List.mem_cons_of_mem _ (List.mem_cons_self)))), List.forall_mem_cons.mpr ⟨List.mem_cons_of_mem _ (List.mem_cons_of_mem _ (List.mem_cons_of_mem _ (List.mem_cons_of_mem _ (List.mem_cons_of_mem _ (List.mem_cons_self))))), List.forall_mem_cons.mpr ⟨List.mem_cons_of_mem _ (List.mem_cons_of_mem _ (List.mem_cons_of_mem _ (List.mem_cons_of_mem _ (List.mem_cons_of_mem _ (List.mem_cons_of_mem _ (List.mem_cons_self)))))), List.forall_mem_cons.mpr ⟨List.mem_cons_of_mem _ (List.mem_cons_of_mem _ (List.mem_cons_of_mem _ (List.mem_cons_of_mem _ (List.mem_cons_of_mem _ (List.mem_cons_of_mem _ (List.mem_cons_of_mem _ (List.mem_cons_self))))))), List.forall_mem_cons.mpr ⟨List.mem_cons_of_mem _ (List.mem_cons_self), List.forall_mem_cons.mpr ⟨List.mem_cons_self, fun _ h => absurd h List.not_mem_nil⟩⟩⟩⟩⟩⟩⟩)) ?_
                    exact ih38 0 (ki + 1) w40 (by omega) (by omega) (by omega) (hI41) (hF42)
                · refine xg_t (xg_icT (u := u59) (v := 0) rfl xnm0 xnm0 (xj_neT hc63)) ?_
                  refine xg_t (xg_blq rfl) ?_
                  refine xg_t (xg_const) ?_
                  refine xg_t (xg_blq rfl) ?_
                  refine xg_t (xg_istore (l1 := [(7, (0, 140 + (4 * ki))), (0, (2, 82)), (1, (0, la)), (2, (0, ra)), (3, (0, ca)), (4, (0, un)), (6, (0, ki))]) rfl rfl rfl) ?_
                  refine xg_t (xg_blq rfl) ?_
                  refine xg_t (xg_iinc (u := ki) (z := ki + 1) (l1 := [(5, (0, 0)), (7, (0, 140 + (4 * ki))), (0, (2, 82)), (1, (0, la)), (2, (0, ra)), (3, (0, ca)), (4, (0, un))]) rfl rfl (by omega) rfl) ?_
                  refine xg_t (xg_goto) ?_
                  refine xg_t (xg_drop (l1 := [(0, (2, 82)), (1, (0, la)), (2, (0, ra)), (3, (0, ca)), (4, (0, un)), (5, (0, 0)), (6, (0, ki + 1))]) (List.forall_mem_cons.mpr ⟨List.mem_cons_of_mem _ (List.mem_cons_of_mem _ (List.mem_cons_of_mem _ (List.mem_cons_self))), List.forall_mem_cons.mpr ⟨List.mem_cons_of_mem _ (List.mem_cons_of_mem _ (List.mem_cons_of_mem _ (List.mem_cons_of_mem _ (List.mem_cons_self)))), List.forall_mem_cons.mpr ⟨List.mem_cons_of_mem _ (List.mem_cons_of_mem _ (List.mem_cons_of_mem _ (List.mem_cons_of_mem _ (List.mem_cons_of_mem _ (List.mem_cons_self))))), List.forall_mem_cons.mpr ⟨List.mem_cons_of_mem _ (List.mem_cons_of_mem _ (List.mem_cons_of_mem _ (List.mem_cons_of_mem _ (List.mem_cons_of_mem _ (List.mem_cons_of_mem _ (List.mem_cons_self)))))), List.forall_mem_cons.mpr ⟨List.mem_cons_of_mem _ (List.mem_cons_of_mem _ (List.mem_cons_of_mem _ (List.mem_cons_of_mem _ (List.mem_cons_of_mem _ (List.mem_cons_of_mem _ (List.mem_cons_of_mem _ (List.mem_cons_self))))))), List.forall_mem_cons.mpr ⟨List.mem_cons_of_mem _ (List.mem_cons_self), List.forall_mem_cons.mpr ⟨List.mem_cons_self, fun _ h => absurd h List.not_mem_nil⟩⟩⟩⟩⟩⟩⟩)) ?_
                  exact ih38 0 (ki + 1) w40 (by omega) (by omega) (by omega) (hI41) (hF42)
              · refine xg_t (xg_ifF (u := la) rfl xnm0 (xj_eqF hc62)) ?_
                refine xg_t (xg_const) ?_
                refine xg_t (xg_goto) ?_
                refine xg_t (xg_blq rfl) ?_
                by_cases hc77 : u59 = 1
                · refine xg_t (xg_icF (u := u59) (v := 1) rfl xnm0 xnm0 (xj_neF hc77)) ?_
                  refine xg_t (xg_aload (va := (2, 82)) rfl rfl) ?_
                  refine xg_t (xg_getf (va := (2, 83)) (hF42.get (by decide) h82_31) rfl) ?_
                  refine xg_t (xg_iload (va := (0, 140 + (4 * ki))) rfl rfl) ?_
                  refine xg_t (xg_const) ?_
                  refine xg_t (xg_iadd (u := 140 + (4 * ki)) (v := 1) (z := (140 + (4 * ki)) + 1) xnm0 xnm0 (by omega)) ?_
                  refine xg_ialdB (n := (140 + (4 * ki)) + 1) (B := 4294967295) (h83_34.fr hF42 (by decide)) (hb35) xnm0 (by omega) (fun u78 hu79 he80 => ?_)
                  refine xg_t (xg_iload (va := (0, ra)) rfl rfl) ?_
                  by_cases hc81 : u78 = ra
                  · refine xg_t (xg_icF (u := u78) (v := ra) rfl xnm0 xnm0 (xj_neF hc81)) ?_
                    refine xg_t (xg_aload (va := (2, 82)) rfl rfl) ?_
                    refine xg_t (xg_getf (va := (2, 83)) (hF42.get (by decide) h82_31) rfl) ?_
                    refine xg_t (xg_iload (va := (0, 140 + (4 * ki))) rfl rfl) ?_
                    refine xg_t (xg_const) ?_
                    refine xg_t (xg_iadd (u := 140 + (4 * ki)) (v := 2) (z := (140 + (4 * ki)) + 2) xnm0 xnm0 (by omega)) ?_
                    refine xg_ialdB (n := (140 + (4 * ki)) + 2) (B := 4294967295) (h83_34.fr hF42 (by decide)) (hb35) xnm0 (by omega) (fun u82 hu83 he84 => ?_)
                    refine xg_t (xg_iload (va := (0, ca)) rfl rfl) ?_
                    by_cases hc85 : u82 = ca
                    · refine xg_t (xg_icF (u := u82) (v := ca) rfl xnm0 xnm0 (xj_neF hc85)) ?_
                      refine xg_t (xg_iload (va := (0, un)) rfl rfl) ?_
                      refine xg_t (xg_const) ?_
                      by_cases hc86 : un = 4294967295
                      · refine xg_t (xg_icT (u := un) (v := 4294967295) rfl xnm0 xnm0 (xj_eqT hc86)) ?_
                        refine xg_t (xg_blq rfl) ?_
                        refine xg_t (xg_const) ?_
                        refine xg_t (xg_goto) ?_
                        refine xg_t (xg_blq rfl) ?_
                        refine xg_t (xg_istore (l1 := [(7, (0, 140 + (4 * ki))), (0, (2, 82)), (1, (0, la)), (2, (0, ra)), (3, (0, ca)), (4, (0, un)), (6, (0, ki))]) rfl rfl rfl) ?_
                        refine xg_t (xg_blq rfl) ?_
                        refine xg_t (xg_iinc (u := ki) (z := ki + 1) (l1 := [(5, (0, 1)), (7, (0, 140 + (4 * ki))), (0, (2, 82)), (1, (0, la)), (2, (0, ra)), (3, (0, ca)), (4, (0, un))]) rfl rfl (by omega) rfl) ?_
                        refine xg_t (xg_goto) ?_
                        refine xg_t (xg_drop (l1 := [(0, (2, 82)), (1, (0, la)), (2, (0, ra)), (3, (0, ca)), (4, (0, un)), (5, (0, 1)), (6, (0, ki + 1))]) (List.forall_mem_cons.mpr ⟨List.mem_cons_of_mem _ (List.mem_cons_of_mem _ (List.mem_cons_of_mem _ (List.mem_cons_self))), List.forall_mem_cons.mpr ⟨List.mem_cons_of_mem _ (List.mem_cons_of_mem _ (List.mem_cons_of_mem _ (List.mem_cons_of_mem _ (List.mem_cons_self)))), List.forall_mem_cons.mpr ⟨List.mem_cons_of_mem _ (List.mem_cons_of_mem _ (List.mem_cons_of_mem _ (List.mem_cons_of_mem _ (List.mem_cons_of_mem _ (List.mem_cons_self))))), List.forall_mem_cons.mpr ⟨List.mem_cons_of_mem _ (List.mem_cons_of_mem _ (List.mem_cons_of_mem _ (List.mem_cons_of_mem _ (List.mem_cons_of_mem _ (List.mem_cons_of_mem _ (List.mem_cons_self)))))), List.forall_mem_cons.mpr ⟨List.mem_cons_of_mem _ (List.mem_cons_of_mem _ (List.mem_cons_of_mem _ (List.mem_cons_of_mem _ (List.mem_cons_of_mem _ (List.mem_cons_of_mem _ (List.mem_cons_of_mem _ (List.mem_cons_self))))))), List.forall_mem_cons.mpr ⟨List.mem_cons_of_mem _ (List.mem_cons_self), List.forall_mem_cons.mpr ⟨List.mem_cons_self, fun _ h => absurd h List.not_mem_nil⟩⟩⟩⟩⟩⟩⟩)) ?_
                        exact ih38 1 (ki + 1) w40 (by omega) (by omega) (by omega) (hI41) (hF42)
                      · refine xg_t (xg_icF (u := un) (v := 4294967295) rfl xnm0 xnm0 (xj_eqF hc86)) ?_
                        refine xg_t (xg_aload (va := (2, 82)) rfl rfl) ?_
                        refine xg_t (xg_getf (va := (2, 83)) (hF42.get (by decide) h82_31) rfl) ?_
                        refine xg_t (xg_iload (va := (0, 140 + (4 * ki))) rfl rfl) ?_
                        refine xg_t (xg_const) ?_
                        refine xg_t (xg_iadd (u := 140 + (4 * ki)) (v := 3) (z := (140 + (4 * ki)) + 3) xnm0 xnm0 (by omega)) ?_
                        refine xg_ialdB (n := (140 + (4 * ki)) + 3) (B := 4294967295) (h83_34.fr hF42 (by decide)) (hb35) xnm0 (by omega) (fun u87 hu88 he89 => ?_)
                        refine xg_t (xg_iload (va := (0, un)) rfl rfl) ?_
                        by_cases hc90 : xbs un < xbs u87
                        · have hc90u := hc90
                          unfold xbs at hc90u
                          refine xg_t (xg_icT (u := u87) (v := un) rfl xnm0 xnm0 (xjs_gtT hc90)) ?_
                          refine xg_t (xg_blq rfl) ?_
                          refine xg_t (xg_const) ?_
                          refine xg_t (xg_blq rfl) ?_
                          refine xg_t (xg_istore (l1 := [(7, (0, 140 + (4 * ki))), (0, (2, 82)), (1, (0, la)), (2, (0, ra)), (3, (0, ca)), (4, (0, un)), (6, (0, ki))]) rfl rfl rfl) ?_
                          refine xg_t (xg_blq rfl) ?_
                          refine xg_t (xg_iinc (u := ki) (z := ki + 1) (l1 := [(5, (0, 0)), (7, (0, 140 + (4 * ki))), (0, (2, 82)), (1, (0, la)), (2, (0, ra)), (3, (0, ca)), (4, (0, un))]) rfl rfl (by omega) rfl) ?_
                          refine xg_t (xg_goto) ?_
                          refine xg_t (xg_drop (l1 := [(0, (2, 82)), (1, (0, la)), (2, (0, ra)), (3, (0, ca)), (4, (0, un)), (5, (0, 0)), (6, (0, ki + 1))]) (List.forall_mem_cons.mpr ⟨List.mem_cons_of_mem _ (List.mem_cons_of_mem _ (List.mem_cons_of_mem _ (List.mem_cons_self))), List.forall_mem_cons.mpr ⟨List.mem_cons_of_mem _ (List.mem_cons_of_mem _ (List.mem_cons_of_mem _ (List.mem_cons_of_mem _ (List.mem_cons_self)))), List.forall_mem_cons.mpr ⟨List.mem_cons_of_mem _ (List.mem_cons_of_mem _ (List.mem_cons_of_mem _ (List.mem_cons_of_mem _ (List.mem_cons_of_mem _ (List.mem_cons_self))))), List.forall_mem_cons.mpr ⟨List.mem_cons_of_mem _ (List.mem_cons_of_mem _ (List.mem_cons_of_mem _ (List.mem_cons_of_mem _ (List.mem_cons_of_mem _ (List.mem_cons_of_mem _ (List.mem_cons_self)))))), List.forall_mem_cons.mpr ⟨List.mem_cons_of_mem _ (List.mem_cons_of_mem _ (List.mem_cons_of_mem _ (List.mem_cons_of_mem _ (List.mem_cons_of_mem _ (List.mem_cons_of_mem _ (List.mem_cons_of_mem _ (List.mem_cons_self))))))), List.forall_mem_cons.mpr ⟨List.mem_cons_of_mem _ (List.mem_cons_self), List.forall_mem_cons.mpr ⟨List.mem_cons_self, fun _ h => absurd h List.not_mem_nil⟩⟩⟩⟩⟩⟩⟩)) ?_
                          exact ih38 0 (ki + 1) w40 (by omega) (by omega) (by omega) (hI41) (hF42)
                        · have hc90u := hc90
                          unfold xbs at hc90u
                          refine xg_t (xg_icF (u := u87) (v := un) rfl xnm0 xnm0 (xjs_gtF hc90)) ?_
                          refine xg_t (xg_blq rfl) ?_
                          refine xg_t (xg_const) ?_
                          refine xg_t (xg_goto) ?_
                          refine xg_t (xg_blq rfl) ?_
                          refine xg_t (xg_istore (l1 := [(7, (0, 140 + (4 * ki))), (0, (2, 82)), (1, (0, la)), (2, (0, ra)), (3, (0, ca)), (4, (0, un)), (6, (0, ki))]) rfl rfl rfl) ?_
                          refine xg_t (xg_blq rfl) ?_
                          refine xg_t (xg_iinc (u := ki) (z := ki + 1) (l1 := [(5, (0, 1)), (7, (0, 140 + (4 * ki))), (0, (2, 82)), (1, (0, la)), (2, (0, ra)), (3, (0, ca)), (4, (0, un))]) rfl rfl (by omega) rfl) ?_
                          refine xg_t (xg_goto) ?_
                          refine xg_t (xg_drop (l1 := [(0, (2, 82)), (1, (0, la)), (2, (0, ra)), (3, (0, ca)), (4, (0, un)), (5, (0, 1)), (6, (0, ki + 1))]) (List.forall_mem_cons.mpr ⟨List.mem_cons_of_mem _ (List.mem_cons_of_mem _ (List.mem_cons_of_mem _ (List.mem_cons_self))), List.forall_mem_cons.mpr ⟨List.mem_cons_of_mem _ (List.mem_cons_of_mem _ (List.mem_cons_of_mem _ (List.mem_cons_of_mem _ (List.mem_cons_self)))), List.forall_mem_cons.mpr ⟨List.mem_cons_of_mem _ (List.mem_cons_of_mem _ (List.mem_cons_of_mem _ (List.mem_cons_of_mem _ (List.mem_cons_of_mem _ (List.mem_cons_self))))), List.forall_mem_cons.mpr ⟨List.mem_cons_of_mem _ (List.mem_cons_of_mem _ (List.mem_cons_of_mem _ (List.mem_cons_of_mem _ (List.mem_cons_of_mem _ (List.mem_cons_of_mem _ (List.mem_cons_self)))))), List.forall_mem_cons.mpr ⟨List.mem_cons_of_mem _ (List.mem_cons_of_mem _ (List.mem_cons_of_mem _ (List.mem_cons_of_mem _ (List.mem_cons_of_mem _ (List.mem_cons_of_mem _ (List.mem_cons_of_mem _ (List.mem_cons_self))))))), List.forall_mem_cons.mpr ⟨List.mem_cons_of_mem _ (List.mem_cons_self), List.forall_mem_cons.mpr ⟨List.mem_cons_self, fun _ h => absurd h List.not_mem_nil⟩⟩⟩⟩⟩⟩⟩)) ?_
                          exact ih38 1 (ki + 1) w40 (by omega) (by omega) (by omega) (hI41) (hF42)
                    · refine xg_t (xg_icT (u := u82) (v := ca) rfl xnm0 xnm0 (xj_neT hc85)) ?_
                      refine xg_t (xg_blq rfl) ?_
                      refine xg_t (xg_const) ?_
                      refine xg_t (xg_blq rfl) ?_
                      refine xg_t (xg_istore (l1 := [(7, (0, 140 + (4 * ki))), (0, (2, 82)), (1, (0, la)), (2, (0, ra)), (3, (0, ca)), (4, (0, un)), (6, (0, ki))]) rfl rfl rfl) ?_
                      refine xg_t (xg_blq rfl) ?_
                      refine xg_t (xg_iinc (u := ki) (z := ki + 1) (l1 := [(5, (0, 0)), (7, (0, 140 + (4 * ki))), (0, (2, 82)), (1, (0, la)), (2, (0, ra)), (3, (0, ca)), (4, (0, un))]) rfl rfl (by omega) rfl) ?_
                      refine xg_t (xg_goto) ?_
                      refine xg_t (xg_drop (l1 := [(0, (2, 82)), (1, (0, la)), (2, (0, ra)), (3, (0, ca)), (4, (0, un)), (5, (0, 0)), (6, (0, ki + 1))]) (List.forall_mem_cons.mpr ⟨List.mem_cons_of_mem _ (List.mem_cons_of_mem _ (List.mem_cons_of_mem _ (List.mem_cons_self))), List.forall_mem_cons.mpr ⟨List.mem_cons_of_mem _ (List.mem_cons_of_mem _ (List.mem_cons_of_mem _ (List.mem_cons_of_mem _ (List.mem_cons_self)))), List.forall_mem_cons.mpr ⟨List.mem_cons_of_mem _ (List.mem_cons_of_mem _ (List.mem_cons_of_mem _ (List.mem_cons_of_mem _ (List.mem_cons_of_mem _ (List.mem_cons_self))))), List.forall_mem_cons.mpr ⟨List.mem_cons_of_mem _ (List.mem_cons_of_mem _ (List.mem_cons_of_mem _ (List.mem_cons_of_mem _ (List.mem_cons_of_mem _ (List.mem_cons_of_mem _ (List.mem_cons_self)))))), List.forall_mem_cons.mpr ⟨List.mem_cons_of_mem _ (List.mem_cons_of_mem _ (List.mem_cons_of_mem _ (List.mem_cons_of_mem _ (List.mem_cons_of_mem _ (List.mem_cons_of_mem _ (List.mem_cons_of_mem _ (List.mem_cons_self))))))), List.forall_mem_cons.mpr ⟨List.mem_cons_of_mem _ (List.mem_cons_self), List.forall_mem_cons.mpr ⟨List.mem_cons_self, fun _ h => absurd h List.not_mem_nil⟩⟩⟩⟩⟩⟩⟩)) ?_
                      exact ih38 0 (ki + 1) w40 (by omega) (by omega) (by omega) (hI41) (hF42)
                  · refine xg_t (xg_icT (u := u78) (v := ra) rfl xnm0 xnm0 (xj_neT hc81)) ?_
                    refine xg_t (xg_blq rfl) ?_
                    refine xg_t (xg_const) ?_
                    refine xg_t (xg_blq rfl) ?_
                    refine xg_t (xg_istore (l1 := [(7, (0, 140 + (4 * ki))), (0, (2, 82)), (1, (0, la)), (2, (0, ra)), (3, (0, ca)), (4, (0, un)), (6, (0, ki))]) rfl rfl rfl) ?_
                    refine xg_t (xg_blq rfl) ?_
                    refine xg_t (xg_iinc (u := ki) (z := ki + 1) (l1 := [(5, (0, 0)), (7, (0, 140 + (4 * ki))), (0, (2, 82)), (1, (0, la)), (2, (0, ra)), (3, (0, ca)), (4, (0, un))]) rfl rfl (by omega) rfl) ?_
                    refine xg_t (xg_goto) ?_
                    refine xg_t (xg_drop (l1 := [(0, (2, 82)), (1, (0, la)), (2, (0, ra)), (3, (0, ca)), (4, (0, un)), (5, (0, 0)), (6, (0, ki + 1))]) (List.forall_mem_cons.mpr ⟨List.mem_cons_of_mem _ (List.mem_cons_of_mem _ (List.mem_cons_of_mem _ (List.mem_cons_self))), List.forall_mem_cons.mpr ⟨List.mem_cons_of_mem _ (List.mem_cons_of_mem _ (List.mem_cons_of_mem _ (List.mem_cons_of_mem _ (List.mem_cons_self)))), List.forall_mem_cons.mpr ⟨List.mem_cons_of_mem _ (List.mem_cons_of_mem _ (List.mem_cons_of_mem _ (List.mem_cons_of_mem _ (List.mem_cons_of_mem _ (List.mem_cons_self))))), List.forall_mem_cons.mpr ⟨List.mem_cons_of_mem _ (List.mem_cons_of_mem _ (List.mem_cons_of_mem _ (List.mem_cons_of_mem _ (List.mem_cons_of_mem _ (List.mem_cons_of_mem _ (List.mem_cons_self)))))), List.forall_mem_cons.mpr ⟨List.mem_cons_of_mem _ (List.mem_cons_of_mem _ (List.mem_cons_of_mem _ (List.mem_cons_of_mem _ (List.mem_cons_of_mem _ (List.mem_cons_of_mem _ (List.mem_cons_of_mem _ (List.mem_cons_self))))))), List.forall_mem_cons.mpr ⟨List.mem_cons_of_mem _ (List.mem_cons_self), List.forall_mem_cons.mpr ⟨List.mem_cons_self, fun _ h => absurd h List.not_mem_nil⟩⟩⟩⟩⟩⟩⟩)) ?_
                    exact ih38 0 (ki + 1) w40 (by omega) (by omega) (by omega) (hI41) (hF42)
                · refine xg_t (xg_icT (u := u59) (v := 1) rfl xnm0 xnm0 (xj_neT hc77)) ?_
                  refine xg_t (xg_blq rfl) ?_
                  refine xg_t (xg_const) ?_
                  refine xg_t (xg_blq rfl) ?_
                  refine xg_t (xg_istore (l1 := [(7, (0, 140 + (4 * ki))), (0, (2, 82)), (1, (0, la)), (2, (0, ra)), (3, (0, ca)), (4, (0, un)), (6, (0, ki))]) rfl rfl rfl) ?_
                  refine xg_t (xg_blq rfl) ?_
                  refine xg_t (xg_iinc (u := ki) (z := ki + 1) (l1 := [(5, (0, 0)), (7, (0, 140 + (4 * ki))), (0, (2, 82)), (1, (0, la)), (2, (0, ra)), (3, (0, ca)), (4, (0, un))]) rfl rfl (by omega) rfl) ?_
                  refine xg_t (xg_goto) ?_
                  refine xg_t (xg_drop (l1 := [(0, (2, 82)), (1, (0, la)), (2, (0, ra)), (3, (0, ca)), (4, (0, un)), (5, (0, 0)), (6, (0, ki + 1))]) (List.forall_mem_cons.mpr ⟨List.mem_cons_of_mem _ (List.mem_cons_of_mem _ (List.mem_cons_of_mem _ (List.mem_cons_self))), List.forall_mem_cons.mpr ⟨List.mem_cons_of_mem _ (List.mem_cons_of_mem _ (List.mem_cons_of_mem _ (List.mem_cons_of_mem _ (List.mem_cons_self)))), List.forall_mem_cons.mpr ⟨List.mem_cons_of_mem _ (List.mem_cons_of_mem _ (List.mem_cons_of_mem _ (List.mem_cons_of_mem _ (List.mem_cons_of_mem _ (List.mem_cons_self))))), List.forall_mem_cons.mpr ⟨List.mem_cons_of_mem _ (List.mem_cons_of_mem _ (List.mem_cons_of_mem _ (List.mem_cons_of_mem _ (List.mem_cons_of_mem _ (List.mem_cons_of_mem _ (List.mem_cons_self)))))), List.forall_mem_cons.mpr ⟨List.mem_cons_of_mem _ (List.mem_cons_of_mem _ (List.mem_cons_of_mem _ (List.mem_cons_of_mem _ (List.mem_cons_of_mem _ (List.mem_cons_of_mem _ (List.mem_cons_of_mem _ (List.mem_cons_self))))))), List.forall_mem_cons.mpr ⟨List.mem_cons_of_mem _ (List.mem_cons_self), List.forall_mem_cons.mpr ⟨List.mem_cons_self, fun _ h => absurd h List.not_mem_nil⟩⟩⟩⟩⟩⟩⟩)) ?_
                  exact ih38 0 (ki + 1) w40 (by omega) (by omega) (by omega) (hI41) (hF42)
          · refine xg_t (xg_icT (u := ki) (v := 10) rfl xnm0 xnm0 (xj_geT (by omega) (by omega))) ?_
            refine xg_t (xg_blq rfl) ?_
            refine xg_t (xg_aload (va := (2, 82)) rfl rfl) ?_
            refine xg_t (xg_getf (va := (2, 83)) (hF42.get (by decide) h82_31) rfl) ?_
            refine xg_t (xg_iload (va := (0, 140 + (4 * ki))) rfl rfl) ?_
            refine xg_ialdB (n := 140 + (4 * ki)) (B := 4294967295) (h83_34.fr hF42 (by decide)) (hb35) xnm0 (by omega) (fun u91 hu92 he93 => ?_)
            refine xg_t (xg_iload (va := (0, la)) rfl rfl) ?_
            by_cases hc94 : la = 0
            · refine xg_t (xg_ifT (u := la) rfl xnm0 (xj_eqT hc94)) ?_
              refine xg_t (xg_blq rfl) ?_
              refine xg_t (xg_const) ?_
              refine xg_t (xg_blq rfl) ?_
              by_cases hc95 : u91 = 0
              · refine xg_t (xg_icF (u := u91) (v := 0) rfl xnm0 xnm0 (xj_neF hc95)) ?_
                refine xg_t (xg_aload (va := (2, 82)) rfl rfl) ?_
                refine xg_t (xg_getf (va := (2, 83)) (hF42.get (by decide) h82_31) rfl) ?_
                refine xg_t (xg_iload (va := (0, 140 + (4 * ki))) rfl rfl) ?_
                refine xg_t (xg_const) ?_
                refine xg_t (xg_iadd (u := 140 + (4 * ki)) (v := 1) (z := (140 + (4 * ki)) + 1) xnm0 xnm0 (by omega)) ?_
                refine xg_ialdB (n := (140 + (4 * ki)) + 1) (B := 4294967295) (h83_34.fr hF42 (by decide)) (hb35) xnm0 (by omega) (fun u96 hu97 he98 => ?_)
                refine xg_t (xg_iload (va := (0, ra)) rfl rfl) ?_
                by_cases hc99 : u96 = ra
                · refine xg_t (xg_icF (u := u96) (v := ra) rfl xnm0 xnm0 (xj_neF hc99)) ?_
                  refine xg_t (xg_aload (va := (2, 82)) rfl rfl) ?_
                  refine xg_t (xg_getf (va := (2, 83)) (hF42.get (by decide) h82_31) rfl) ?_
                  refine xg_t (xg_iload (va := (0, 140 + (4 * ki))) rfl rfl) ?_
                  refine xg_t (xg_const) ?_
                  refine xg_t (xg_iadd (u := 140 + (4 * ki)) (v := 2) (z := (140 + (4 * ki)) + 2) xnm0 xnm0 (by omega)) ?_
                  refine xg_ialdB (n := (140 + (4 * ki)) + 2) (B := 4294967295) (h83_34.fr hF42 (by decide)) (hb35) xnm0 (by omega) (fun u100 hu101 he102 => ?_)
                  refine xg_t (xg_iload (va := (0, ca)) rfl rfl) ?_
                  by_cases hc103 : u100 = ca
                  · refine xg_t (xg_icF (u := u100) (v := ca) rfl xnm0 xnm0 (xj_neF hc103)) ?_
                    refine xg_t (xg_iload (va := (0, un)) rfl rfl) ?_
                    refine xg_t (xg_const) ?_
                    by_cases hc104 : un = 4294967295
                    · refine xg_t (xg_icT (u := un) (v := 4294967295) rfl xnm0 xnm0 (xj_eqT hc104)) ?_
                      refine xg_t (xg_blq rfl) ?_
                      refine xg_t (xg_const) ?_
                      refine xg_t (xg_goto) ?_
                      refine xg_t (xg_blq rfl) ?_
                      refine xg_t (xg_istore (l1 := [(7, (0, 140 + (4 * ki))), (0, (2, 82)), (1, (0, la)), (2, (0, ra)), (3, (0, ca)), (4, (0, un)), (6, (0, ki))]) rfl rfl rfl) ?_
                      refine xg_t (xg_blq rfl) ?_
                      refine xg_t (xg_iinc (u := ki) (z := ki + 1) (l1 := [(5, (0, 1)), (7, (0, 140 + (4 * ki))), (0, (2, 82)), (1, (0, la)), (2, (0, ra)), (3, (0, ca)), (4, (0, un))]) rfl rfl (by omega) rfl) ?_
                      refine xg_t (xg_goto) ?_
                      refine xg_t (xg_drop (l1 := [(0, (2, 82)), (1, (0, la)), (2, (0, ra)), (3, (0, ca)), (4, (0, un)), (5, (0, 1)), (6, (0, ki + 1))]) (List.forall_mem_cons.mpr ⟨List.mem_cons_of_mem _ (List.mem_cons_of_mem _ (List.mem_cons_of_mem _ (List.mem_cons_self))), List.forall_mem_cons.mpr ⟨List.mem_cons_of_mem _ (List.mem_cons_of_mem _ (List.mem_cons_of_mem _ (List.mem_cons_of_mem _ (List.mem_cons_self)))), List.forall_mem_cons.mpr ⟨List.mem_cons_of_mem _ (List.mem_cons_of_mem _ (List.mem_cons_of_mem _ (List.mem_cons_of_mem _ (List.mem_cons_of_mem _ (List.mem_cons_self))))), List.forall_mem_cons.mpr ⟨List.mem_cons_of_mem _ (List.mem_cons_of_mem _ (List.mem_cons_of_mem _ (List.mem_cons_of_mem _ (List.mem_cons_of_mem _ (List.mem_cons_of_mem _ (List.mem_cons_self)))))), List.forall_mem_cons.mpr ⟨List.mem_cons_of_mem _ (List.mem_cons_of_mem _ (List.mem_cons_of_mem _ (List.mem_cons_of_mem _ (List.mem_cons_of_mem _ (List.mem_cons_of_mem _ (List.mem_cons_of_mem _ (List.mem_cons_self))))))), List.forall_mem_cons.mpr ⟨List.mem_cons_of_mem _ (List.mem_cons_self), List.forall_mem_cons.mpr ⟨List.mem_cons_self, fun _ h => absurd h List.not_mem_nil⟩⟩⟩⟩⟩⟩⟩)) ?_
                      exact ih38 1 (ki + 1) w40 (by omega) (by omega) (by omega) (hI41) (hF42)
                    · refine xg_t (xg_icF (u := un) (v := 4294967295) rfl xnm0 xnm0 (xj_eqF hc104)) ?_
                      refine xg_t (xg_aload (va := (2, 82)) rfl rfl) ?_
                      refine xg_t (xg_getf (va := (2, 83)) (hF42.get (by decide) h82_31) rfl) ?_
                      refine xg_t (xg_iload (va := (0, 140 + (4 * ki))) rfl rfl) ?_
                      refine xg_t (xg_const) ?_
                      refine xg_t (xg_iadd (u := 140 + (4 * ki)) (v := 3) (z := (140 + (4 * ki)) + 3) xnm0 xnm0 (by omega)) ?_
                      refine xg_ialdB (n := (140 + (4 * ki)) + 3) (B := 4294967295) (h83_34.fr hF42 (by decide)) (hb35) xnm0 (by omega) (fun u105 hu106 he107 => ?_)
                      refine xg_t (xg_iload (va := (0, un)) rfl rfl) ?_
                      by_cases hc108 : xbs un < xbs u105
                      · have hc108u := hc108
                        unfold xbs at hc108u
                        refine xg_t (xg_icT (u := u105) (v := un) rfl xnm0 xnm0 (xjs_gtT hc108)) ?_
                        refine xg_t (xg_blq rfl) ?_
                        refine xg_t (xg_const) ?_
                        refine xg_t (xg_blq rfl) ?_
                        refine xg_t (xg_istore (l1 := [(7, (0, 140 + (4 * ki))), (0, (2, 82)), (1, (0, la)), (2, (0, ra)), (3, (0, ca)), (4, (0, un)), (6, (0, ki))]) rfl rfl rfl) ?_
                        refine xg_t (xg_blq rfl) ?_
                        refine xg_t (xg_iinc (u := ki) (z := ki + 1) (l1 := [(5, (0, 0)), (7, (0, 140 + (4 * ki))), (0, (2, 82)), (1, (0, la)), (2, (0, ra)), (3, (0, ca)), (4, (0, un))]) rfl rfl (by omega) rfl) ?_
                        refine xg_t (xg_goto) ?_
                        refine xg_t (xg_drop (l1 := [(0, (2, 82)), (1, (0, la)), (2, (0, ra)), (3, (0, ca)), (4, (0, un)), (5, (0, 0)), (6, (0, ki + 1))]) (List.forall_mem_cons.mpr ⟨List.mem_cons_of_mem _ (List.mem_cons_of_mem _ (List.mem_cons_of_mem _ (List.mem_cons_self))), List.forall_mem_cons.mpr ⟨List.mem_cons_of_mem _ (List.mem_cons_of_mem _ (List.mem_cons_of_mem _ (List.mem_cons_of_mem _ (List.mem_cons_self)))), List.forall_mem_cons.mpr ⟨List.mem_cons_of_mem _ (List.mem_cons_of_mem _ (List.mem_cons_of_mem _ (List.mem_cons_of_mem _ (List.mem_cons_of_mem _ (List.mem_cons_self))))), List.forall_mem_cons.mpr ⟨List.mem_cons_of_mem _ (List.mem_cons_of_mem _ (List.mem_cons_of_mem _ (List.mem_cons_of_mem _ (List.mem_cons_of_mem _ (List.mem_cons_of_mem _ (List.mem_cons_self)))))), List.forall_mem_cons.mpr ⟨List.mem_cons_of_mem _ (List.mem_cons_of_mem _ (List.mem_cons_of_mem _ (List.mem_cons_of_mem _ (List.mem_cons_of_mem _ (List.mem_cons_of_mem _ (List.mem_cons_of_mem _ (List.mem_cons_self))))))), List.forall_mem_cons.mpr ⟨List.mem_cons_of_mem _ (List.mem_cons_self), List.forall_mem_cons.mpr ⟨List.mem_cons_self, fun _ h => absurd h List.not_mem_nil⟩⟩⟩⟩⟩⟩⟩)) ?_
                        exact ih38 0 (ki + 1) w40 (by omega) (by omega) (by omega) (hI41) (hF42)
                      · have hc108u := hc108
                        unfold xbs at hc108u
                        refine xg_t (xg_icF (u := u105) (v := un) rfl xnm0 xnm0 (xjs_gtF hc108)) ?_
                        refine xg_t (xg_blq rfl) ?_
                        refine xg_t (xg_const) ?_
                        refine xg_t (xg_goto) ?_
                        refine xg_t (xg_blq rfl) ?_
                        refine xg_t (xg_istore (l1 := [(7, (0, 140 + (4 * ki))), (0, (2, 82)), (1, (0, la)), (2, (0, ra)), (3, (0, ca)), (4, (0, un)), (6, (0, ki))]) rfl rfl rfl) ?_
                        refine xg_t (xg_blq rfl) ?_
                        refine xg_t (xg_iinc (u := ki) (z := ki + 1) (l1 := [(5, (0, 1)), (7, (0, 140 + (4 * ki))), (0, (2, 82)), (1, (0, la)), (2, (0, ra)), (3, (0, ca)), (4, (0, un))]) rfl rfl (by omega) rfl) ?_
                        refine xg_t (xg_goto) ?_
                        refine xg_t (xg_drop (l1 := [(0, (2, 82)), (1, (0, la)), (2, (0, ra)), (3, (0, ca)), (4, (0, un)), (5, (0, 1)), (6, (0, ki + 1))]) (List.forall_mem_cons.mpr ⟨List.mem_cons_of_mem _ (List.mem_cons_of_mem _ (List.mem_cons_of_mem _ (List.mem_cons_self))), List.forall_mem_cons.mpr ⟨List.mem_cons_of_mem _ (List.mem_cons_of_mem _ (List.mem_cons_of_mem _ (List.mem_cons_of_mem _ (List.mem_cons_self)))), List.forall_mem_cons.mpr ⟨List.mem_cons_of_mem _ (List.mem_cons_of_mem _ (List.mem_cons_of_mem _ (List.mem_cons_of_mem _ (List.mem_cons_of_mem _ (List.mem_cons_self))))), List.forall_mem_cons.mpr ⟨List.mem_cons_of_mem _ (List.mem_cons_of_mem _ (List.mem_cons_of_mem _ (List.mem_cons_of_mem _ (List.mem_cons_of_mem _ (List.mem_cons_of_mem _ (List.mem_cons_self)))))), List.forall_mem_cons.mpr ⟨List.mem_cons_of_mem _ (List.mem_cons_of_mem _ (List.mem_cons_of_mem _ (List.mem_cons_of_mem _ (List.mem_cons_of_mem _ (List.mem_cons_of_mem _ (List.mem_cons_of_mem _ (List.mem_cons_self))))))), List.forall_mem_cons.mpr ⟨List.mem_cons_of_mem _ (List.mem_cons_self), List.forall_mem_cons.mpr ⟨List.mem_cons_self, fun _ h => absurd h List.not_mem_nil⟩⟩⟩⟩⟩⟩⟩)) ?_
                        exact ih38 1 (ki + 1) w40 (by omega) (by omega) (by omega) (hI41) (hF42)
                  · refine xg_t (xg_icT (u := u100) (v := ca) rfl xnm0 xnm0 (xj_neT hc103)) ?_
                    refine xg_t (xg_blq rfl) ?_
                    refine xg_t (xg_const) ?_
                    refine xg_t (xg_blq rfl) ?_
                    refine xg_t (xg_istore (l1 := [(7, (0, 140 + (4 * ki))), (0, (2, 82)), (1, (0, la)), (2, (0, ra)), (3, (0, ca)), (4, (0, un)), (6, (0, ki))]) rfl rfl rfl) ?_
                    refine xg_t (xg_blq rfl) ?_
                    refine xg_t (xg_iinc (u := ki) (z := ki + 1) (l1 := [(5, (0, 0)), (7, (0, 140 + (4 * ki))), (0, (2, 82)), (1, (0, la)), (2, (0, ra)), (3, (0, ca)), (4, (0, un))]) rfl rfl (by omega) rfl) ?_
                    refine xg_t (xg_goto) ?_
                    refine xg_t (xg_drop (l1 := [(0, (2, 82)), (1, (0, la)), (2, (0, ra)), (3, (0, ca)), (4, (0, un)), (5, (0, 0)), (6, (0, ki + 1))]) (List.forall_mem_cons.mpr ⟨List.mem_cons_of_mem _ (List.mem_cons_of_mem _ (List.mem_cons_of_mem _ (List.mem_cons_self))), List.forall_mem_cons.mpr ⟨List.mem_cons_of_mem _ (List.mem_cons_of_mem _ (List.mem_cons_of_mem _ (List.mem_cons_of_mem _ (List.mem_cons_self)))), List.forall_mem_cons.mpr ⟨List.mem_cons_of_mem _ (List.mem_cons_of_mem _ (List.mem_cons_of_mem _ (List.mem_cons_of_mem _ (List.mem_cons_of_mem _ (List.mem_cons_self))))), List.forall_mem_cons.mpr ⟨List.mem_cons_of_mem _ (List.mem_cons_of_mem _ (List.mem_cons_of_mem _ (List.mem_cons_of_mem _ (List.mem_cons_of_mem _ (List.mem_cons_of_mem _ (List.mem_cons_self)))))), List.forall_mem_cons.mpr ⟨List.mem_cons_of_mem _ (List.mem_cons_of_mem _ (List.mem_cons_of_mem _ (List.mem_cons_of_mem _ (List.mem_cons_of_mem _ (List.mem_cons_of_mem _ (List.mem_cons_of_mem _ (List.mem_cons_self))))))), List.forall_mem_cons.mpr ⟨List.mem_cons_of_mem _ (List.mem_cons_self), List.forall_mem_cons.mpr ⟨List.mem_cons_self, fun _ h => absurd h List.not_mem_nil⟩⟩⟩⟩⟩⟩⟩)) ?_
                    exact ih38 0 (ki + 1) w40 (by omega) (by omega) (by omega) (hI41) (hF42)
                · refine xg_t (xg_icT (u := u96) (v := ra) rfl xnm0 xnm0 (xj_neT hc99)) ?_
                  refine xg_t (xg_blq rfl) ?_
                  refine xg_t (xg_const) ?_
                  refine xg_t (xg_blq rfl) ?_
                  refine xg_t (xg_istore (l1 := [(7, (0, 140 + (4 * ki))), (0, (2, 82)), (1, (0, la)), (2, (0, ra)), (3, (0, ca)), (4, (0, un)), (6, (0, ki))]) rfl rfl rfl) ?_
                  refine xg_t (xg_blq rfl) ?_
                  refine xg_t (xg_iinc (u := ki) (z := ki + 1) (l1 := [(5, (0, 0)), (7, (0, 140 + (4 * ki))), (0, (2, 82)), (1, (0, la)), (2, (0, ra)), (3, (0, ca)), (4, (0, un))]) rfl rfl (by omega) rfl) ?_
                  refine xg_t (xg_goto) ?_
                  refine xg_t (xg_drop (l1 := [(0, (2, 82)), (1, (0, la)), (2, (0, ra)), (3, (0, ca)), (4, (0, un)), (5, (0, 0)), (6, (0, ki + 1))]) (List.forall_mem_cons.mpr ⟨List.mem_cons_of_mem _ (List.mem_cons_of_mem _ (List.mem_cons_of_mem _ (List.mem_cons_self))), List.forall_mem_cons.mpr ⟨List.mem_cons_of_mem _ (List.mem_cons_of_mem _ (List.mem_cons_of_mem _ (List.mem_cons_of_mem _ (List.mem_cons_self)))), List.forall_mem_cons.mpr ⟨List.mem_cons_of_mem _ (List.mem_cons_of_mem _ (List.mem_cons_of_mem _ (List.mem_cons_of_mem _ (List.mem_cons_of_mem _ (List.mem_cons_self))))), List.forall_mem_cons.mpr ⟨List.mem_cons_of_mem _ (List.mem_cons_of_mem _ (List.mem_cons_of_mem _ (List.mem_cons_of_mem _ (List.mem_cons_of_mem _ (List.mem_cons_of_mem _ (List.mem_cons_self)))))), List.forall_mem_cons.mpr ⟨List.mem_cons_of_mem _ (List.mem_cons_of_mem _ (List.mem_cons_of_mem _ (List.mem_cons_of_mem _ (List.mem_cons_of_mem _ (List.mem_cons_of_mem _ (List.mem_cons_of_mem _ (List.mem_cons_self))))))), List.forall_mem_cons.mpr ⟨List.mem_cons_of_mem _ (List.mem_cons_self), List.forall_mem_cons.mpr ⟨List.mem_cons_self, fun _ h => absurd h List.not_mem_nil⟩⟩⟩⟩⟩⟩⟩)) ?_
                  exact ih38 0 (ki + 1) w40 (by omega) (by omega) (by omega) (hI41) (hF42)
              · refine xg_t (xg_icT (u := u91) (v := 0) rfl xnm0 xnm0 (xj_neT hc95)) ?_
                refine xg_t (xg_blq rfl) ?_
                refine xg_t (xg_const) ?_
                refine xg_t (xg_blq rfl) ?_
                refine xg_t (xg_istore (l1 := [(7, (0, 140 + (4 * ki))), (0, (2, 82)), (1, (0, la)), (2, (0, ra)), (3, (0, ca)), (4, (0, un)), (6, (0, ki))]) rfl rfl rfl) ?_
                refine xg_t (xg_blq rfl) ?_
                refine xg_t (xg_iinc (u := ki) (z := ki + 1) (l1 := [(5, (0, 0)), (7, (0, 140 + (4 * ki))), (0, (2, 82)), (1, (0, la)), (2, (0, ra)), (3, (0, ca)), (4, (0, un))]) rfl rfl (by omega) rfl) ?_
                refine xg_t (xg_goto) ?_
                refine xg_t (xg_drop (l1 := [(0, (2, 82)), (1, (0, la)), (2, (0, ra)), (3, (0, ca)), (4, (0, un)), (5, (0, 0)), (6, (0, ki + 1))]) (List.forall_mem_cons.mpr ⟨List.mem_cons_of_mem _ (List.mem_cons_of_mem _ (List.mem_cons_of_mem _ (List.mem_cons_self))), List.forall_mem_cons.mpr ⟨List.mem_cons_of_mem _ (List.mem_cons_of_mem _ (List.mem_cons_of_mem _ (List.mem_cons_of_mem _ (List.mem_cons_self)))), List.forall_mem_cons.mpr ⟨List.mem_cons_of_mem _ (List.mem_cons_of_mem _ (List.mem_cons_of_mem _ (List.mem_cons_of_mem _ (List.mem_cons_of_mem _ (List.mem_cons_self))))), List.forall_mem_cons.mpr ⟨List.mem_cons_of_mem _ (List.mem_cons_of_mem _ (List.mem_cons_of_mem _ (List.mem_cons_of_mem _ (List.mem_cons_of_mem _ (List.mem_cons_of_mem _ (List.mem_cons_self)))))), List.forall_mem_cons.mpr ⟨List.mem_cons_of_mem _ (List.mem_cons_of_mem _ (List.mem_cons_of_mem _ (List.mem_cons_of_mem _ (List.mem_cons_of_mem _ (List.mem_cons_of_mem _ (List.mem_cons_of_mem _ (List.mem_cons_self))))))), List.forall_mem_cons.mpr ⟨List.mem_cons_of_mem _ (List.mem_cons_self), List.forall_mem_cons.mpr ⟨List.mem_cons_self, fun _ h => absurd h List.not_mem_nil⟩⟩⟩⟩⟩⟩⟩)) ?_
                exact ih38 0 (ki + 1) w40 (by omega) (by omega) (by omega) (hI41) (hF42)
            · refine xg_t (xg_ifF (u := la) rfl xnm0 (xj_eqF hc94)) ?_
              refine xg_t (xg_const) ?_
              refine xg_t (xg_goto) ?_
              refine xg_t (xg_blq rfl) ?_
              by_cases hc109 : u91 = 1
              · refine xg_t (xg_icF (u := u91) (v := 1) rfl xnm0 xnm0 (xj_neF hc109)) ?_
                refine xg_t (xg_aload (va := (2, 82)) rfl rfl) ?_
                refine xg_t (xg_getf (va := (2, 83)) (hF42.get (by decide) h82_31) rfl) ?_
                refine xg_t (xg_iload (va := (0, 140 + (4 * ki))) rfl rfl) ?_
                refine xg_t (xg_const) ?_
                refine xg_t (xg_iadd (u := 140 + (4 * ki)) (v := 1) (z := (140 + (4 * ki)) + 1) xnm0 xnm0 (by omega)) ?_
                refine xg_ialdB (n := (140 + (4 * ki)) + 1) (B := 4294967295) (h83_34.fr hF42 (by decide)) (hb35) xnm0 (by omega) (fun u110 hu111 he112 => ?_)
                refine xg_t (xg_iload (va := (0, ra)) rfl rfl) ?_
                by_cases hc113 : u110 = ra
                · refine xg_t (xg_icF (u := u110) (v := ra) rfl xnm0 xnm0 (xj_neF hc113)) ?_
                  refine xg_t (xg_aload (va := (2, 82)) rfl rfl) ?_
                  refine xg_t (xg_getf (va := (2, 83)) (hF42.get (by decide) h82_31) rfl) ?_
                  refine xg_t (xg_iload (va := (0, 140 + (4 * ki))) rfl rfl) ?_
                  refine xg_t (xg_const) ?_
                  refine xg_t (xg_iadd (u := 140 + (4 * ki)) (v := 2) (z := (140 + (4 * ki)) + 2) xnm0 xnm0 (by omega)) ?_
                  refine xg_ialdB (n := (140 + (4 * ki)) + 2) (B := 4294967295) (h83_34.fr hF42 (by decide)) (hb35) xnm0 (by omega) (fun u114 hu115 he116 => ?_)
                  refine xg_t (xg_iload (va := (0, ca)) rfl rfl) ?_
                  by_cases hc117 : u114 = ca
                  · refine xg_t (xg_icF (u := u114) (v := ca) rfl xnm0 xnm0 (xj_neF hc117)) ?_
                    refine xg_t (xg_iload (va := (0, un)) rfl rfl) ?_
                    refine xg_t (xg_const) ?_
                    by_cases hc118 : un = 4294967295
                    · refine xg_t (xg_icT (u := un) (v := 4294967295) rfl xnm0 xnm0 (xj_eqT hc118)) ?_
                      refine xg_t (xg_blq rfl) ?_
                      refine xg_t (xg_const) ?_
                      refine xg_t (xg_goto) ?_
                      refine xg_t (xg_blq rfl) ?_
                      refine xg_t (xg_istore (l1 := [(7, (0, 140 + (4 * ki))), (0, (2, 82)), (1, (0, la)), (2, (0, ra)), (3, (0, ca)), (4, (0, un)), (6, (0, ki))]) rfl rfl rfl) ?_
                      refine xg_t (xg_blq rfl) ?_
                      refine xg_t (xg_iinc (u := ki) (z := ki + 1) (l1 := [(5, (0, 1)), (7, (0, 140 + (4 * ki))), (0, (2, 82)), (1, (0, la)), (2, (0, ra)), (3, (0, ca)), (4, (0, un))]) rfl rfl (by omega) rfl) ?_
                      refine xg_t (xg_goto) ?_
                      refine xg_t (xg_drop (l1 := [(0, (2, 82)), (1, (0, la)), (2, (0, ra)), (3, (0, ca)), (4, (0, un)), (5, (0, 1)), (6, (0, ki + 1))]) (List.forall_mem_cons.mpr ⟨List.mem_cons_of_mem _ (List.mem_cons_of_mem _ (List.mem_cons_of_mem _ (List.mem_cons_self))), List.forall_mem_cons.mpr ⟨List.mem_cons_of_mem _ (List.mem_cons_of_mem _ (List.mem_cons_of_mem _ (List.mem_cons_of_mem _ (List.mem_cons_self)))), List.forall_mem_cons.mpr ⟨List.mem_cons_of_mem _ (List.mem_cons_of_mem _ (List.mem_cons_of_mem _ (List.mem_cons_of_mem _ (List.mem_cons_of_mem _ (List.mem_cons_self))))), List.forall_mem_cons.mpr ⟨List.mem_cons_of_mem _ (List.mem_cons_of_mem _ (List.mem_cons_of_mem _ (List.mem_cons_of_mem _ (List.mem_cons_of_mem _ (List.mem_cons_of_mem _ (List.mem_cons_self)))))), List.forall_mem_cons.mpr ⟨List.mem_cons_of_mem _ (List.mem_cons_of_mem _ (List.mem_cons_of_mem _ (List.mem_cons_of_mem _ (List.mem_cons_of_mem _ (List.mem_cons_of_mem _ (List.mem_cons_of_mem _ (List.mem_cons_self))))))), List.forall_mem_cons.mpr ⟨List.mem_cons_of_mem _ (List.mem_cons_self), List.forall_mem_cons.mpr ⟨List.mem_cons_self, fun _ h => absurd h List.not_mem_nil⟩⟩⟩⟩⟩⟩⟩)) ?_
                      exact ih38 1 (ki + 1) w40 (by omega) (by omega) (by omega) (hI41) (hF42)
                    · refine xg_t (xg_icF (u := un) (v := 4294967295) rfl xnm0 xnm0 (xj_eqF hc118)) ?_
                      refine xg_t (xg_aload (va := (2, 82)) rfl rfl) ?_
                      refine xg_t (xg_getf (va := (2, 83)) (hF42.get (by decide) h82_31) rfl) ?_
                      refine xg_t (xg_iload (va := (0, 140 + (4 * ki))) rfl rfl) ?_
                      refine xg_t (xg_const) ?_
                      refine xg_t (xg_iadd (u := 140 + (4 * ki)) (v := 3) (z := (140 + (4 * ki)) + 3) xnm0 xnm0 (by omega)) ?_
                      refine xg_ialdB (n := (140 + (4 * ki)) + 3) (B := 4294967295) (h83_34.fr hF42 (by decide)) (hb35) xnm0 (by omega) (fun u119 hu120 he121 => ?_)
                      refine xg_t (xg_iload (va := (0, un)) rfl rfl) ?_
                      by_cases hc122 : xbs un < xbs u119
                      · have hc122u := hc122
                        unfold xbs at hc122u
                        refine xg_t (xg_icT (u := u119) (v := un) rfl xnm0 xnm0 (xjs_gtT hc122)) ?_
                        refine xg_t (xg_blq rfl) ?_
                        refine xg_t (xg_const) ?_
                        refine xg_t (xg_blq rfl) ?_
                        refine xg_t (xg_istore (l1 := [(7, (0, 140 + (4 * ki))), (0, (2, 82)), (1, (0, la)), (2, (0, ra)), (3, (0, ca)), (4, (0, un)), (6, (0, ki))]) rfl rfl rfl) ?_
                        refine xg_t (xg_blq rfl) ?_
                        refine xg_t (xg_iinc (u := ki) (z := ki + 1) (l1 := [(5, (0, 0)), (7, (0, 140 + (4 * ki))), (0, (2, 82)), (1, (0, la)), (2, (0, ra)), (3, (0, ca)), (4, (0, un))]) rfl rfl (by omega) rfl) ?_
                        refine xg_t (xg_goto) ?_
                        refine xg_t (xg_drop (l1 := [(0, (2, 82)), (1, (0, la)), (2, (0, ra)), (3, (0, ca)), (4, (0, un)), (5, (0, 0)), (6, (0, ki + 1))]) (List.forall_mem_cons.mpr ⟨List.mem_cons_of_mem _ (List.mem_cons_of_mem _ (List.mem_cons_of_mem _ (List.mem_cons_self))), List.forall_mem_cons.mpr ⟨List.mem_cons_of_mem _ (List.mem_cons_of_mem _ (List.mem_cons_of_mem _ (List.mem_cons_of_mem _ (List.mem_cons_self)))), List.forall_mem_cons.mpr ⟨List.mem_cons_of_mem _ (List.mem_cons_of_mem _ (List.mem_cons_of_mem _ (List.mem_cons_of_mem _ (List.mem_cons_of_mem _ (List.mem_cons_self))))), List.forall_mem_cons.mpr ⟨List.mem_cons_of_mem _ (List.mem_cons_of_mem _ (List.mem_cons_of_mem _ (List.mem_cons_of_mem _ (List.mem_cons_of_mem _ (List.mem_cons_of_mem _ (List.mem_cons_self)))))), List.forall_mem_cons.mpr ⟨List.mem_cons_of_mem _ (List.mem_cons_of_mem _ (List.mem_cons_of_mem _ (List.mem_cons_of_mem _ (List.mem_cons_of_mem _ (List.mem_cons_of_mem _ (List.mem_cons_of_mem _ (List.mem_cons_self))))))), List.forall_mem_cons.mpr ⟨List.mem_cons_of_mem _ (List.mem_cons_self), List.forall_mem_cons.mpr ⟨List.mem_cons_self, fun _ h => absurd h List.not_mem_nil⟩⟩⟩⟩⟩⟩⟩)) ?_
                        exact ih38 0 (ki + 1) w40 (by omega) (by omega) (by omega) (hI41) (hF42)
                      · have hc122u := hc122
                        unfold xbs at hc122u
                        refine xg_t (xg_icF (u := u119) (v := un) rfl xnm0 xnm0 (xjs_gtF hc122)) ?_
                        refine xg_t (xg_blq rfl) ?_
                        refine xg_t (xg_const) ?_
                        refine xg_t (xg_goto) ?_
                        refine xg_t (xg_blq rfl) ?_
                        refine xg_t (xg_istore (l1 := [(7, (0, 140 + (4 * ki))), (0, (2, 82)), (1, (0, la)), (2, (0, ra)), (3, (0, ca)), (4, (0, un)), (6, (0, ki))]) rfl rfl rfl) ?_
                        refine xg_t (xg_blq rfl) ?_
                        refine xg_t (xg_iinc (u := ki) (z := ki + 1) (l1 := [(5, (0, 1)), (7, (0, 140 + (4 * ki))), (0, (2, 82)), (1, (0, la)), (2, (0, ra)), (3, (0, ca)), (4, (0, un))]) rfl rfl (by omega) rfl) ?_
                        refine xg_t (xg_goto) ?_
                        refine xg_t (xg_drop (l1 := [(0, (2, 82)), (1, (0, la)), (2, (0, ra)), (3, (0, ca)), (4, (0, un)), (5, (0, 1)), (6, (0, ki + 1))]) (List.forall_mem_cons.mpr ⟨List.mem_cons_of_mem _ (List.mem_cons_of_mem _ (List.mem_cons_of_mem _ (List.mem_cons_self))), List.forall_mem_cons.mpr ⟨List.mem_cons_of_mem _ (List.mem_cons_of_mem _ (List.mem_cons_of_mem _ (List.mem_cons_of_mem _ (List.mem_cons_self)))), List.forall_mem_cons.mpr ⟨List.mem_cons_of_mem _ (List.mem_cons_of_mem _ (List.mem_cons_of_mem _ (List.mem_cons_of_mem _ (List.mem_cons_of_mem _ (List.mem_cons_self))))), List.forall_mem_cons.mpr ⟨List.mem_cons_of_mem _ (List.mem_cons_of_mem _ (List.mem_cons_of_mem _ (List.mem_cons_of_mem _ (List.mem_cons_of_mem _ (List.mem_cons_of_mem _ (List.mem_cons_self)))))), List.forall_mem_cons.mpr ⟨List.mem_cons_of_mem _ (List.mem_cons_of_mem _ (List.mem_cons_of_mem _ (List.mem_cons_of_mem _ (List.mem_cons_of_mem _ (List.mem_cons_of_mem _ (List.mem_cons_of_mem _ (List.mem_cons_self))))))), List.forall_mem_cons.mpr ⟨List.mem_cons_of_mem _ (List.mem_cons_self), List.forall_mem_cons.mpr ⟨List.mem_cons_self, fun _ h => absurd h List.not_mem_nil⟩⟩⟩⟩⟩⟩⟩)) ?_
                        exact ih38 1 (ki + 1) w40 (by omega) (by omega) (by omega) (hI41) (hF42)
                  · refine xg_t (xg_icT (u := u114) (v := ca) rfl xnm0 xnm0 (xj_neT hc117)) ?_
                    refine xg_t (xg_blq rfl) ?_
                    refine xg_t (xg_const) ?_
                    refine xg_t (xg_blq rfl) ?_
                    refine xg_t (xg_istore (l1 := [(7, (0, 140 + (4 * ki))), (0, (2, 82)), (1, (0, la)), (2, (0, ra)), (3, (0, ca)), (4, (0, un)), (6, (0, ki))]) rfl rfl rfl) ?_
                    refine xg_t (xg_blq rfl) ?_
                    refine xg_t (xg_iinc (u := ki) (z := ki + 1) (l1 := [(5, (0, 0)), (7, (0, 140 + (4 * ki))), (0, (2, 82)), (1, (0, la)), (2, (0, ra)), (3, (0, ca)), (4, (0, un))]) rfl rfl (by omega) rfl) ?_
                    refine xg_t (xg_goto) ?_
                    refine xg_t (xg_drop (l1 := [(0, (2, 82)), (1, (0, la)), (2, (0, ra)), (3, (0, ca)), (4, (0, un)), (5, (0, 0)), (6, (0, ki + 1))]) (List.forall_mem_cons.mpr ⟨List.mem_cons_of_mem _ (List.mem_cons_of_mem _ (List.mem_cons_of_mem _ (List.mem_cons_self))), List.forall_mem_cons.mpr ⟨List.mem_cons_of_mem _ (List.mem_cons_of_mem _ (List.mem_cons_of_mem _ (List.mem_cons_of_mem _ (List.mem_cons_self)))), List.forall_mem_cons.mpr ⟨List.mem_cons_of_mem _ (List.mem_cons_of_mem _ (List.mem_cons_of_mem _ (List.mem_cons_of_mem _ (List.mem_cons_of_mem _ (List.mem_cons_self))))), List.forall_mem_cons.mpr ⟨List.mem_cons_of_mem _ (List.mem_cons_of_mem _ (List.mem_cons_of_mem _ (List.mem_cons_of_mem _ (List.mem_cons_of_mem _ (List.mem_cons_of_mem _ (List.mem_cons_self)))))), List.forall_mem_cons.mpr ⟨List.mem_cons_of_mem _ (List.mem_cons_of_mem _ (List.mem_cons_of_mem _ (List.mem_cons_of_mem _ (List.mem_cons_of_mem _ (List.mem_cons_of_mem _ (List.mem_cons_of_mem _ (List.mem_cons_self))))))), List.forall_mem_cons.mpr ⟨List.mem_cons_of_mem _ (List.mem_cons_self), List.forall_mem_cons.mpr ⟨List.mem_cons_self, fun _ h => absurd h List.not_mem_nil⟩⟩⟩⟩⟩⟩⟩)) ?_
                    exact ih38 0 (ki + 1) w40 (by omega) (by omega) (by omega) (hI41) (hF42)
                · refine xg_t (xg_icT (u := u110) (v := ra) rfl xnm0 xnm0 (xj_neT hc113)) ?_
                  refine xg_t (xg_blq rfl) ?_
                  refine xg_t (xg_const) ?_
                  refine xg_t (xg_blq rfl) ?_
                  refine xg_t (xg_istore (l1 := [(7, (0, 140 + (4 * ki))), (0, (2, 82)), (1, (0, la)), (2, (0, ra)), (3, (0, ca)), (4, (0, un)), (6, (0, ki))]) rfl rfl rfl) ?_
                  refine xg_t (xg_blq rfl) ?_
                  refine xg_t (xg_iinc (u := ki) (z := ki + 1) (l1 := [(5, (0, 0)), (7, (0, 140 + (4 * ki))), (0, (2, 82)), (1, (0, la)), (2, (0, ra)), (3, (0, ca)), (4, (0, un))]) rfl rfl (by omega) rfl) ?_
                  refine xg_t (xg_goto) ?_
                  refine xg_t (xg_drop (l1 := [(0, (2, 82)), (1, (0, la)), (2, (0, ra)), (3, (0, ca)), (4, (0, un)), (5, (0, 0)), (6, (0, ki + 1))]) (List.forall_mem_cons.mpr ⟨List.mem_cons_of_mem _ (List.mem_cons_of_mem _ (List.mem_cons_of_mem _ (List.mem_cons_self))), List.forall_mem_cons.mpr ⟨List.mem_cons_of_mem _ (List.mem_cons_of_mem _ (List.mem_cons_of_mem _ (List.mem_cons_of_mem _ (List.mem_cons_self)))), List.forall_mem_cons.mpr ⟨List.mem_cons_of_mem _ (List.mem_cons_of_mem _ (List.mem_cons_of_mem _ (List.mem_cons_of_mem _ (List.mem_cons_of_mem _ (List.mem_cons_self))))), List.forall_mem_cons.mpr ⟨List.mem_cons_of_mem _ (List.mem_cons_of_mem _ (List.mem_cons_of_mem _ (List.mem_cons_of_mem _ (List.mem_cons_of_mem _ (List.mem_cons_of_mem _ (List.mem_cons_self)))))), List.forall_mem_cons.mpr ⟨List.mem_cons_of_mem _ (List.mem_cons_of_mem _ (List.mem_cons_of_mem _ (List.mem_cons_of_mem _ (List.mem_cons_of_mem _ (List.mem_cons_of_mem _ (List.mem_cons_of_mem _ (List.mem_cons_self))))))), List.forall_mem_cons.mpr ⟨List.mem_cons_of_mem _ (List.mem_cons_self), List.forall_mem_cons.mpr ⟨List.mem_cons_self, fun _ h => absurd h List.not_mem_nil⟩⟩⟩⟩⟩⟩⟩)) ?_
                  exact ih38 0 (ki + 1) w40 (by omega) (by omega) (by omega) (hI41) (hF42)
              · refine xg_t (xg_icT (u := u91) (v := 1) rfl xnm0 xnm0 (xj_neT hc109)) ?_
                refine xg_t (xg_blq rfl) ?_
                refine xg_t (xg_const) ?_
                refine xg_t (xg_blq rfl) ?_
                refine xg_t (xg_istore (l1 := [(7, (0, 140 + (4 * ki))), (0, (2, 82)), (1, (0, la)), (2, (0, ra)), (3, (0, ca)), (4, (0, un)), (6, (0, ki))]) rfl rfl rfl) ?_
                refine xg_t (xg_blq rfl) ?_
                refine xg_t (xg_iinc (u := ki) (z := ki + 1) (l1 := [(5, (0, 0)), (7, (0, 140 + (4 * ki))), (0, (2, 82)), (1, (0, la)), (2, (0, ra)), (3, (0, ca)), (4, (0, un))]) rfl rfl (by omega) rfl) ?_
                refine xg_t (xg_goto) ?_
                refine xg_t (xg_drop (l1 := [(0, (2, 82)), (1, (0, la)), (2, (0, ra)), (3, (0, ca)), (4, (0, un)), (5, (0, 0)), (6, (0, ki + 1))]) (List.forall_mem_cons.mpr ⟨List.mem_cons_of_mem _ (List.mem_cons_of_mem _ (List.mem_cons_of_mem _ (List.mem_cons_self))), List.forall_mem_cons.mpr ⟨List.mem_cons_of_mem _ (List.mem_cons_of_mem _ (List.mem_cons_of_mem _ (List.mem_cons_of_mem _ (List.mem_cons_self)))), List.forall_mem_cons.mpr ⟨List.mem_cons_of_mem _ (List.mem_cons_of_mem _ (List.mem_cons_of_mem _ (List.mem_cons_of_mem _ (List.mem_cons_of_mem _ (List.mem_cons_self))))), List.forall_mem_cons.mpr ⟨List.mem_cons_of_mem _ (List.mem_cons_of_mem _ (List.mem_cons_of_mem _ (List.mem_cons_of_mem _ (List.mem_cons_of_mem _ (List.mem_cons_of_mem _ (List.mem_cons_self)))))), List.forall_mem_cons.mpr ⟨List.mem_cons_of_mem _ (List.mem_cons_of_mem _ (List.mem_cons_of_mem _ (List.mem_cons_of_mem _ (List.mem_cons_of_mem _ (List.mem_cons_of_mem _ (List.mem_cons_of_mem _ (List.mem_cons_self))))))), List.forall_mem_cons.mpr ⟨List.mem_cons_of_mem _ (List.mem_cons_self), List.forall_mem_cons.mpr ⟨List.mem_cons_self, fun _ h => absurd h List.not_mem_nil⟩⟩⟩⟩⟩⟩⟩)) ?_
                exact ih38 0 (ki + 1) w40 (by omega) (by omega) (by omega) (hI41) (hF42)
        · refine xg_t (xg_ifT (u := is_) rfl xnm0 (xj_neT hc51)) ?_
          refine xg_t (xg_blq rfl) ?_
          refine xg_t (xg_iload (va := (0, is_)) rfl rfl) ?_
          exact xg_e ⟨is_, w40, ⟨xret_b (by omega), rfl⟩, by omega, hI41, hF42⟩
      · refine xg_t (xg_icT (u := ki) (v := u46) rfl xnm0 xnm0 (xj_geT (by omega) (by omega))) ?_
        refine xg_t (xg_blq rfl) ?_
        refine xg_t (xg_iload (va := (0, is_)) rfl rfl) ?_
        exact xg_e ⟨is_, w40, ⟨xret_b (by omega), rfl⟩, by omega, hI41, hF42⟩
  exact key37 _ 0 0 w (Nat.lt_succ_self _) (by omega) (by omega) (hI) (xFr.rf)
theorem mLed {la ra ca : Nat} (hI : xMnv w) (hla : la ≤ 1) (hra : ra ≤ 4294967295) (hca : ca ≤ 4294967295) : xPi (d + 2) mX12_isLed [(2, 82), (0, la), (0, ra), (0, ca)] w bd fc rr (fun n w' => (n ≤ 1 ∧ (n = 1 → (la = 0 → ca ≤ 4) ∧ (la = 1 → ra ≤ 4))) ∧ xMnv w' ∧ xFr [] w w') := by
  refine xPi.of ?_
  show xTo (d + 2) mX12_isLed (0, [], [(0, (2, 82)), (1, (0, la)), (2, (0, ra)), (3, (0, ca))], [], (w, bd, fc, 0, 0, rr)) (fun φ => ∃ n w', xEnd 4 [(0, n)] (w', bd, fc, 0, 0, rr) φ ∧ (n ≤ 1 ∧ (n = 1 → (la = 0 → ca ≤ 4) ∧ (la = 1 → ra ≤ 4))) ∧ xMnv w' ∧ xFr [] w w')
  refine xoCh82 (xqc82 hI : cp82 (wget w 82)) (fun f82_1 f82_3 f82_5 f82_7 f82_9 f82_11 f82_13 f82_15 f82_17 f82_19 f82_21 f82_22 f82_23 f82_25 f82_27 f82_29 h82_31 hb2 hb4 hb6 hb8 hb10 hb12 hb14 hb16 hb18 hb20 hb24 hb26 hb28 hb30 hb32 => ?_)
  refine xoX83 (xqc83 hI : cpx83 (wget w 83)) (fun g83_33 h83_34 hb35 hx36 => ?_)
  refine xg_t (xg_blq rfl) ?_
  refine xg_t (xg_aload (va := (2, 82)) rfl rfl) ?_
  refine xg_t (xg_iload (va := (0, la)) rfl rfl) ?_
  refine xg_t (xg_iload (va := (0, ra)) rfl rfl) ?_
  refine xg_t (xg_iload (va := (0, ca)) rfl rfl) ?_
  refine xg_cVi mX12_isThere (vs := [(0, la), (0, ra), (0, ca)]) (rest := []) (cn1 := 0) (sl1 := 0) rfl (mThere (hI) (by omega) (by omega) (by omega) h83_34 hb35 hx36) rfl h82_31 rfl rfl rfl rfl rfl rfl (fun n41 w37 hq38 => ?_)
  obtain ⟨hn42, hI39, hF40⟩ := hq38
  by_cases hc43 : n41 = 0
  · refine xg_t (xg_ifT (u := n41) rfl xnm0 (xj_eqT hc43)) ?_
    refine xg_t (xg_blq rfl) ?_
    refine xg_t (xg_const) ?_
    refine xg_t (xg_blq rfl) ?_
    exact xg_e ⟨0, w37, ⟨rfl, rfl⟩, by first | decide | omega, hI39, (hF40.up (by decide))⟩
  · refine xg_t (xg_ifF (u := n41) rfl xnm0 (xj_eqF hc43)) ?_
    refine xg_t (xg_aload (va := (2, 82)) rfl rfl) ?_
    refine xg_t (xg_iload (va := (0, la)) rfl rfl) ?_
    refine xg_t (xg_iload (va := (0, ra)) rfl rfl) ?_
    refine xg_t (xg_iload (va := (0, ca)) rfl rfl) ?_
    refine xg_t (xg_aload (va := (2, 82)) rfl rfl) ?_
    refine xg_t (xg_getf (va := (2, 83)) (hF40.get (by decide) h82_31) rfl) ?_
    refine xg_t (xg_bip) ?_
    refine xg_ialdB (n := 12) (B := 4294967295) (h83_34.fr hF40 (by decide)) (hb35) xnm0 (by first | decide | omega) (fun u44 hu45 he46 => ?_)
    refine xg_cVi mX12_isCracked (vs := [(0, la), (0, ra), (0, ca), (0, u44)]) (rest := []) (cn1 := 0) (sl1 := 0) rfl (mCracked (hI39) (by omega) (by omega) (by omega) (by omega)) rfl (hF40.get (by decide) h82_31) rfl rfl rfl rfl rfl rfl (fun n51 w47 hq48 => ?_)
    obtain ⟨hn52, hI49, hF50⟩ := hq48
    by_cases hc53 : n51 = 0
    · refine xg_t (xg_ifF (u := n51) rfl xnm0 (xj_neF hc53)) ?_
      refine xg_t (xg_const) ?_
      refine xg_t (xg_goto) ?_
      refine xg_t (xg_blq rfl) ?_
      exact xg_e ⟨1, w47, ⟨rfl, rfl⟩, by first | decide | omega, hI49, ((hF40.up (by decide)).tr (hF50.up (by decide)))⟩
    · refine xg_t (xg_ifT (u := n51) rfl xnm0 (xj_neT hc53)) ?_
      refine xg_t (xg_blq rfl) ?_
      refine xg_t (xg_const) ?_
      refine xg_t (xg_blq rfl) ?_
      exact xg_e ⟨0, w47, ⟨rfl, rfl⟩, by first | decide | omega, hI49, ((hF40.up (by decide)).tr (hF50.up (by decide)))⟩
theorem mLeads {la ra ca : Nat} (hI : xMnv w) (hla : la ≤ 1) (hra : ra ≤ 4294967295) (hca : ca ≤ 4294967295) : xPi (d + 3) mX12_leads [(2, 82), (0, la), (0, ra), (0, ca)] w bd fc rr (fun n w' => (n ≤ 1) ∧ xMnv w' ∧ xFr [] w w') := by
  refine xPi.of ?_
  show xTo (d + 3) mX12_leads (0, [], [(0, (2, 82)), (1, (0, la)), (2, (0, ra)), (3, (0, ca))], [], (w, bd, fc, 0, 0, rr)) (fun φ => ∃ n w', xEnd 4 [(0, n)] (w', bd, fc, 0, 0, rr) φ ∧ (n ≤ 1) ∧ xMnv w' ∧ xFr [] w w')
  refine xg_t (xg_blq rfl) ?_
  refine xg_t (xg_aload (va := (2, 82)) rfl rfl) ?_
  refine xg_t (xg_iload (va := (0, la)) rfl rfl) ?_
  refine xg_t (xg_iload (va := (0, ra)) rfl rfl) ?_
  refine xg_t (xg_iload (va := (0, ca)) rfl rfl) ?_
  refine xoCh82 (xqc82 hI : cp82 (wget w 82)) (fun f82_1 f82_3 f82_5 f82_7 f82_9 f82_11 f82_13 f82_15 f82_17 f82_19 f82_21 f82_22 f82_23 f82_25 f82_27 f82_29 h82_31 hb2 hb4 hb6 hb8 hb10 hb12 hb14 hb16 hb18 hb20 hb24 hb26 hb28 hb30 hb32 => ?_)
  refine xg_cVi mX12_isLed (vs := [(0, la), (0, ra), (0, ca)]) (rest := []) (cn1 := 0) (sl1 := 0) rfl (mLed (hI) (by omega) (by omega) (by omega)) rfl h82_31 rfl rfl rfl rfl rfl rfl (fun n37 w33 hq34 => ?_)
  obtain ⟨hn38, hI35, hF36⟩ := hq34
  exact xg_e ⟨n37, w33, ⟨xret_b (by omega), rfl⟩, by omega, hI35, (hF36.up (by decide))⟩
theorem mFault {wh : Nat} (hI : xMnv w) (hwh : wh ≤ 4294967295) : xPi d mX12_fault [(2, 82), (0, wh)] w bd fc rr (fun n w' => (n ≤ 4294967295) ∧ xMnv w' ∧ xFr [] w w') := by
  refine xPi.of ?_
  show xTo d mX12_fault (0, [], [(0, (2, 82)), (1, (0, wh))], [], (w, bd, fc, 0, 0, rr)) (fun φ => ∃ n w', xEnd 1 [(0, n)] (w', bd, fc, 0, 0, rr) φ ∧ (n ≤ 4294967295) ∧ xMnv w' ∧ xFr [] w w')
  refine xoCh82 (xqc82 hI : cp82 (wget w 82)) (fun f82_1 f82_3 f82_5 f82_7 f82_9 f82_11 f82_13 f82_15 f82_17 f82_19 f82_21 f82_22 f82_23 f82_25 f82_27 f82_29 h82_31 hb2 hb4 hb6 hb8 hb10 hb12 hb14 hb16 hb18 hb20 hb24 hb26 hb28 hb30 hb32 => ?_)
  refine xoX83 (xqc83 hI : cpx83 (wget w 83)) (fun g83_33 h83_34 hb35 hx36 => ?_)
  refine xg_t (xg_blq rfl) ?_
  refine xg_t (xg_iload (va := (0, wh)) rfl rfl) ?_
  by_cases hc37 : wh = 0
  · refine xg_t (xg_ifF (u := wh) rfl xnm0 (xj_neF hc37)) ?_
    refine xg_t (xg_aload (va := (2, 82)) rfl rfl) ?_
    refine xg_t (xg_getf (va := (2, 83)) h82_31 rfl) ?_
    refine xg_t (xg_bip) ?_
    refine xg_ialdB (n := 16) (B := 4294967295) h83_34 (hb35) xnm0 (by first | decide | omega) (fun u38 hu39 he40 => ?_)
    refine xg_t (xg_goto) ?_
    refine xg_t (xg_blq rfl) ?_
    exact xg_e ⟨u38, w, ⟨rfl, rfl⟩, by omega, hI, xFr.rf⟩
  · refine xg_t (xg_ifT (u := wh) rfl xnm0 (xj_neT hc37)) ?_
    refine xg_t (xg_blq rfl) ?_
    refine xg_t (xg_iload (va := (0, wh)) rfl rfl) ?_
    refine xg_t (xg_const) ?_
    by_cases hc41 : wh = 1
    · refine xg_t (xg_icF (u := wh) (v := 1) rfl xnm0 xnm0 (xj_neF hc41)) ?_
      refine xg_t (xg_aload (va := (2, 82)) rfl rfl) ?_
      refine xg_t (xg_getf (va := (2, 83)) h82_31 rfl) ?_
      refine xg_t (xg_bip) ?_
      refine xg_ialdB (n := 17) (B := 4294967295) h83_34 (hb35) xnm0 (by first | decide | omega) (fun u42 hu43 he44 => ?_)
      refine xg_t (xg_goto) ?_
      refine xg_t (xg_blq rfl) ?_
      exact xg_e ⟨u42, w, ⟨rfl, rfl⟩, by omega, hI, xFr.rf⟩
    · refine xg_t (xg_icT (u := wh) (v := 1) rfl xnm0 xnm0 (xj_neT hc41)) ?_
      refine xg_t (xg_blq rfl) ?_
      refine xg_t (xg_const) ?_
      refine xg_t (xg_blq rfl) ?_
      exact xg_e ⟨4294967295, w, ⟨rfl, rfl⟩, by first | decide | omega, hI, xFr.rf⟩
theorem mSeen (hI : xMnv w)  : xPi d mX12_cracksSeen [(2, 82)] w bd fc rr (fun n w' => (n ≤ 4294967295) ∧ xMnv w' ∧ xFr [] w w') := by
  refine xPi.of ?_
  show xTo d mX12_cracksSeen (0, [], [(0, (2, 82))], [], (w, bd, fc, 0, 0, rr)) (fun φ => ∃ n w', xEnd 1 [(0, n)] (w', bd, fc, 0, 0, rr) φ ∧ (n ≤ 4294967295) ∧ xMnv w' ∧ xFr [] w w')
  refine xoCh82 (xqc82 hI : cp82 (wget w 82)) (fun f82_1 f82_3 f82_5 f82_7 f82_9 f82_11 f82_13 f82_15 f82_17 f82_19 f82_21 f82_22 f82_23 f82_25 f82_27 f82_29 h82_31 hb2 hb4 hb6 hb8 hb10 hb12 hb14 hb16 hb18 hb20 hb24 hb26 hb28 hb30 hb32 => ?_)
  refine xoX83 (xqc83 hI : cpx83 (wget w 83)) (fun g83_33 h83_34 hb35 hx36 => ?_)
  refine xg_t (xg_blq rfl) ?_
  refine xg_t (xg_const) ?_
  refine xg_t (xg_istore (l1 := [(0, (2, 82))]) rfl rfl rfl) ?_
  refine xg_t (xg_const) ?_
  refine xg_t (xg_istore (l1 := [(1, (0, 0)), (0, (2, 82))]) rfl rfl rfl) ?_
  refine xg_t (xg_drop (l1 := [(0, (2, 82)), (1, (0, 0)), (2, (0, 0))]) (List.forall_mem_cons.mpr ⟨List.mem_cons_of_mem _ (List.mem_cons_of_mem _ (List.mem_cons_self)), List.forall_mem_cons.mpr ⟨List.mem_cons_of_mem _ (List.mem_cons_self), List.forall_mem_cons.mpr ⟨List.mem_cons_self, fun _ h => absurd h List.not_mem_nil⟩⟩⟩)) ?_
  have key37 : ∀ (m39 : Nat) (nn ki : Nat) (w40 : List (List xE)), 40 - ki < m39 → nn ≤ 4294967295 → ki ≤ 40 → xMnv w40 → xFr [] w w40 → xTo d mX12_cracksSeen (4, [], [(0, (2, 82)), (1, (0, nn)), (2, (0, ki))], [], (w40, bd, fc, 0, 0, rr)) (fun φ => ∃ n w', xEnd 1 [(0, n)] (w', bd, fc, 0, 0, rr) φ ∧ (n ≤ 4294967295) ∧ xMnv w' ∧ xFr [] w w') := by
    intro m39
    induction m39 with
    | zero => intro nn ki w40 hz; exact absurd hz (Nat.not_lt_zero _)
    | succ m39 ih38 =>
      intro nn ki w40 hm45 hn43 hn44 hI41 hF42
      refine xg_t (xg_blq rfl) ?_
      refine xg_t (xg_iload (va := (0, ki)) rfl rfl) ?_
      refine xg_t (xg_aload (va := (2, 82)) rfl rfl) ?_
      refine xg_t (xg_getf (va := (2, 83)) (hF42.get (by decide) h82_31) rfl) ?_
      refine xg_t (xg_bip) ?_
      refine xg_ialdB (n := 9) (B := 4294967295) (h83_34.fr hF42 (by decide)) (hb35) xnm0 (by first | decide | omega) (fun u46 hu47 he48 => ?_)
      have hl49 : u46 ≤ 40 := by rw [← he48]; exact hx36.l9
      by_cases hc50 : ki < u46
      · refine xg_t (xg_icF (u := ki) (v := u46) rfl xnm0 xnm0 (xj_geF hc50 (by omega))) ?_
        refine xg_t (xg_iload (va := (0, nn)) rfl rfl) ?_
        refine xg_t (xg_aload (va := (2, 82)) rfl rfl) ?_
        refine xg_t (xg_getf (va := (2, 83)) (hF42.get (by decide) h82_31) rfl) ?_
        refine xg_t (xg_bip) ?_
        refine xg_ialdB (n := 12) (B := 4294967295) (h83_34.fr hF42 (by decide)) (hb35) xnm0 (by first | decide | omega) (fun u51 hu52 he53 => ?_)
        refine xg_t (xg_const) ?_
        by_cases hc54 : u51 = 4294967295
        · refine xg_t (xg_icT (u := u51) (v := 4294967295) rfl xnm0 xnm0 (xj_eqT hc54)) ?_
          refine xg_t (xg_blq rfl) ?_
          refine xg_t (xg_const) ?_
          refine xg_t (xg_goto) ?_
          refine xg_t (xg_blq rfl) ?_
          refine xg_k (xg_iadd (u := nn) (v := 1) (z := (nn + 1) % 4294967296) xnm0 xnm0 rfl) (Nat.mod_lt _ (by decide)) (fun z55 hz56 => ?_)
          refine xg_t (xg_istore (l1 := [(0, (2, 82)), (2, (0, ki))]) rfl rfl rfl) ?_
          refine xg_t (xg_iinc (u := ki) (z := ki + 1) (l1 := [(1, (0, z55)), (0, (2, 82))]) rfl rfl (by omega) rfl) ?_
          refine xg_t (xg_goto) ?_
          refine xg_t (xg_drop (l1 := [(0, (2, 82)), (1, (0, z55)), (2, (0, ki + 1))]) (List.forall_mem_cons.mpr ⟨List.mem_cons_of_mem _ (List.mem_cons_of_mem _ (List.mem_cons_self)), List.forall_mem_cons.mpr ⟨List.mem_cons_of_mem _ (List.mem_cons_self), List.forall_mem_cons.mpr ⟨List.mem_cons_self, fun _ h => absurd h List.not_mem_nil⟩⟩⟩)) ?_
          exact ih38 z55 (ki + 1) w40 (by omega) (by omega) (by omega) (hI41) (hF42)
        · refine xg_t (xg_icF (u := u51) (v := 4294967295) rfl xnm0 xnm0 (xj_eqF hc54)) ?_
          refine xg_t (xg_aload (va := (2, 82)) rfl rfl) ?_
          refine xg_t (xg_getf (va := (2, 83)) (hF42.get (by decide) h82_31) rfl) ?_
          refine xg_t (xg_sip) ?_
          refine xg_t (xg_const) ?_
          refine xg_t (xg_iload (va := (0, ki)) rfl rfl) ?_
          refine xg_t (xg_imul (u := 4) (v := ki) (z := 4 * ki) xnm0 xnm0 (by omega)) ?_
          refine xg_t (xg_iadd (u := 140) (v := 4 * ki) (z := 140 + (4 * ki)) xnm0 xnm0 (by omega)) ?_
          refine xg_t (xg_const) ?_
          refine xg_t (xg_iadd (u := 140 + (4 * ki)) (v := 3) (z := (140 + (4 * ki)) + 3) xnm0 xnm0 (by omega)) ?_
          refine xg_ialdB (n := (140 + (4 * ki)) + 3) (B := 4294967295) (h83_34.fr hF42 (by decide)) (hb35) xnm0 (by omega) (fun u57 hu58 he59 => ?_)
          refine xg_t (xg_aload (va := (2, 82)) rfl rfl) ?_
          refine xg_t (xg_getf (va := (2, 83)) (hF42.get (by decide) h82_31) rfl) ?_
          refine xg_t (xg_bip) ?_
          refine xg_ialdB (n := 12) (B := 4294967295) (h83_34.fr hF42 (by decide)) (hb35) xnm0 (by first | decide | omega) (fun u60 hu61 he62 => ?_)
          by_cases hc63 : xbs u60 < xbs u57
          · have hc63u := hc63
            unfold xbs at hc63u
            refine xg_t (xg_icT (u := u57) (v := u60) rfl xnm0 xnm0 (xjs_gtT hc63)) ?_
            refine xg_t (xg_blq rfl) ?_
            refine xg_t (xg_const) ?_
            refine xg_t (xg_blq rfl) ?_
            refine xg_k (xg_iadd (u := nn) (v := 0) (z := (nn + 0) % 4294967296) xnm0 xnm0 rfl) (Nat.mod_lt _ (by decide)) (fun z64 hz65 => ?_)
            refine xg_t (xg_istore (l1 := [(0, (2, 82)), (2, (0, ki))]) rfl rfl rfl) ?_
            refine xg_t (xg_iinc (u := ki) (z := ki + 1) (l1 := [(1, (0, z64)), (0, (2, 82))]) rfl rfl (by omega) rfl) ?_
            refine xg_t (xg_goto) ?_
            refine xg_t (xg_drop (l1 := [(0, (2, 82)), (1, (0, z64)), (2, (0, ki + 1))]) (List.forall_mem_cons.mpr ⟨List.mem_cons_of_mem _ (List.mem_cons_of_mem _ (List.mem_cons_self)), List.forall_mem_cons.mpr ⟨List.mem_cons_of_mem _ (List.mem_cons_self), List.forall_mem_cons.mpr ⟨List.mem_cons_self, fun _ h => absurd h List.not_mem_nil⟩⟩⟩)) ?_
            exact ih38 z64 (ki + 1) w40 (by omega) (by omega) (by omega) (hI41) (hF42)
          · have hc63u := hc63
            unfold xbs at hc63u
            refine xg_t (xg_icF (u := u57) (v := u60) rfl xnm0 xnm0 (xjs_gtF hc63)) ?_
            refine xg_t (xg_blq rfl) ?_
            refine xg_t (xg_const) ?_
            refine xg_t (xg_goto) ?_
            refine xg_t (xg_blq rfl) ?_
            refine xg_k (xg_iadd (u := nn) (v := 1) (z := (nn + 1) % 4294967296) xnm0 xnm0 rfl) (Nat.mod_lt _ (by decide)) (fun z66 hz67 => ?_)
            refine xg_t (xg_istore (l1 := [(0, (2, 82)), (2, (0, ki))]) rfl rfl rfl) ?_
            refine xg_t (xg_iinc (u := ki) (z := ki + 1) (l1 := [(1, (0, z66)), (0, (2, 82))]) rfl rfl (by omega) rfl) ?_
            refine xg_t (xg_goto) ?_
            refine xg_t (xg_drop (l1 := [(0, (2, 82)), (1, (0, z66)), (2, (0, ki + 1))]) (List.forall_mem_cons.mpr ⟨List.mem_cons_of_mem _ (List.mem_cons_of_mem _ (List.mem_cons_self)), List.forall_mem_cons.mpr ⟨List.mem_cons_of_mem _ (List.mem_cons_self), List.forall_mem_cons.mpr ⟨List.mem_cons_self, fun _ h => absurd h List.not_mem_nil⟩⟩⟩)) ?_
            exact ih38 z66 (ki + 1) w40 (by omega) (by omega) (by omega) (hI41) (hF42)
      · refine xg_t (xg_icT (u := ki) (v := u46) rfl xnm0 xnm0 (xj_geT (by omega) (by omega))) ?_
        refine xg_t (xg_blq rfl) ?_
        refine xg_t (xg_iload (va := (0, nn)) rfl rfl) ?_
        exact xg_e ⟨nn, w40, ⟨rfl, rfl⟩, by omega, hI41, hF42⟩
  exact key37 _ 0 0 w (Nat.lt_succ_self _) (by omega) (by omega) (hI) (xFr.rf)
theorem mLooks (hI : xMnv w)  : xPq (d + 3) mX12_looks [(2, 82)] w bd fc rr [] (fun w' => xMnv w' ∧ xFr [99, 100] w w') := by
  refine xPq.of ?_
  show xTo (d + 3) mX12_looks (0, [], [(0, (2, 82))], [], (w, bd, fc, 0, 0, rr)) (fun φ => ∃ w', xEnd 0 [] (w', bd, fc, 0, 0, rr) φ ∧ xMnv w' ∧ xFr [99, 100] w w')
  refine xoCh82 (xqc82 hI : cp82 (wget w 82)) (fun f82_1 f82_3 f82_5 f82_7 f82_9 f82_11 f82_13 f82_15 f82_17 f82_19 f82_21 f82_22 f82_23 f82_25 f82_27 f82_29 h82_31 hb2 hb4 hb6 hb8 hb10 hb12 hb14 hb16 hb18 hb20 hb24 hb26 hb28 hb30 hb32 => ?_)
  refine xoX83 (xqc83 hI : cpx83 (wget w 83)) (fun g83_33 h83_34 hb35 hx36 => ?_)
  refine xg_t (xg_blq rfl) ?_
  refine xg_t (xg_const) ?_
  refine xg_t (xg_istore (l1 := [(0, (2, 82))]) rfl rfl rfl) ?_
  refine xg_t (xg_drop (l1 := [(0, (2, 82)), (1, (0, 0))]) (List.forall_mem_cons.mpr ⟨List.mem_cons_of_mem _ (List.mem_cons_self), List.forall_mem_cons.mpr ⟨List.mem_cons_self, fun _ h => absurd h List.not_mem_nil⟩⟩)) ?_
  have key37 : ∀ (m39 : Nat) (ki : Nat) (w40 : List (List xE)), 36 - ki < m39 → ki ≤ 36 → xMnv w40 → xFr [99, 100] w w40 → xTo (d + 3) mX12_looks (2, [], [(0, (2, 82)), (1, (0, ki))], [], (w40, bd, fc, 0, 0, rr)) (fun φ => ∃ w', xEnd 0 [] (w', bd, fc, 0, 0, rr) φ ∧ xMnv w' ∧ xFr [99, 100] w w') := by
    intro m39
    induction m39 with
    | zero => intro ki w40 hz; exact absurd hz (Nat.not_lt_zero _)
    | succ m39 ih38 =>
      intro ki w40 hm44 hn43 hI41 hF42
      refine xg_t (xg_blq rfl) ?_
      refine xg_t (xg_iload (va := (0, ki)) rfl rfl) ?_
      refine xg_t (xg_bip) ?_
      by_cases hc45 : ki < 36
      · refine xg_t (xg_icF (u := ki) (v := 36) rfl xnm0 xnm0 (xj_geF hc45 (by omega))) ?_
        refine xg_t (xg_aload (va := (2, 82)) rfl rfl) ?_
        refine xg_t (xg_getf (va := (2, 99)) (hF42.get (by decide) h82_31) rfl) ?_
        refine xg_t (xg_iload (va := (0, ki)) rfl rfl) ?_
        refine xg_t (xg_aload (va := (2, 82)) rfl rfl) ?_
        refine xg_t (xg_const) ?_
        refine xg_t (xg_iload (va := (0, ki)) rfl rfl) ?_
        refine xg_t (xg_bip) ?_
        refine xg_t (xg_idiv (u := ki) (v := 6) (z := ki / 6) xnm0 xnm0 (by omega) (by decide) (by decide) (rfl)) ?_
        refine xg_t (xg_iload (va := (0, ki)) rfl rfl) ?_
        refine xg_t (xg_bip) ?_
        refine xg_t (xg_irem (u := ki) (v := 6) (z := ki % 6) xnm0 xnm0 (by omega) (by decide) (by decide) (rfl)) ?_
        refine xg_cVi mX12_isLed (vs := [(0, 0), (0, ki / 6), (0, ki % 6)]) (rest := [(0, ki), (2, 99)]) (cn1 := 0) (sl1 := 0) rfl (mLed (hI41) (by omega) (by omega) (by omega)) rfl (hF42.get (by decide) h82_31) rfl rfl rfl rfl rfl rfl (fun n50 w46 hq47 => ?_)
        obtain ⟨hn51, hI48, hF49⟩ := hq47
        obtain ⟨g99_52, h99_53, hb54, hx55⟩ := (xqc99 hI48 : cpx99 (wget w46 99))
        have h99_53 : xRk 2 0 w46 99 36 66 g99_52 := h99_53
        refine xg_bastZ (n := ki) (u := n50) h99_53 xnm0 xnm0 rfl (by omega) (by omega) (fun w56 hr57 hb58 => ?_)
        refine xg_t (xg_aload (va := (2, 82)) rfl rfl) ?_
        refine xg_t (xg_getf (va := (2, 100)) (hb58.get (by decide) (hF49.get (by decide) (hF42.get (by decide) h82_31))) rfl) ?_
        refine xg_t (xg_iload (va := (0, ki)) rfl rfl) ?_
        refine xg_t (xg_aload (va := (2, 82)) rfl rfl) ?_
        refine xg_t (xg_const) ?_
        refine xg_t (xg_iload (va := (0, ki)) rfl rfl) ?_
        refine xg_t (xg_bip) ?_
        refine xg_t (xg_idiv (u := ki) (v := 6) (z := ki / 6) xnm0 xnm0 (by omega) (by decide) (by decide) (rfl)) ?_
        refine xg_t (xg_iload (va := (0, ki)) rfl rfl) ?_
        refine xg_t (xg_bip) ?_
        refine xg_t (xg_irem (u := ki) (v := 6) (z := ki % 6) xnm0 xnm0 (by omega) (by decide) (by decide) (rfl)) ?_
        refine xg_cVi mX12_isLed (vs := [(0, 1), (0, ki / 6), (0, ki % 6)]) (rest := [(0, ki), (2, 100)]) (cn1 := 0) (sl1 := 0) rfl (mLed (xMnv.up (S := [99]) hI48 (xFr.of (S := [99]) hb58 (by decide)) (List.forall_mem_cons.mpr ⟨xqu99 (show cpx99 (wget w56 99) from ⟨_, hr57, xrb (by omega) (hb54), (hx55.upd (by omega))⟩), fun _ h => absurd h List.not_mem_nil⟩)) (by omega) (by omega) (by omega)) rfl (hb58.get (by decide) (hF49.get (by decide) (hF42.get (by decide) h82_31))) rfl rfl rfl rfl rfl rfl (fun n63 w59 hq60 => ?_)
        obtain ⟨hn64, hI61, hF62⟩ := hq60
        obtain ⟨g100_65, h100_66, hb67, hx68⟩ := (xqc100 hI61 : cpx100 (wget w59 100))
        have h100_66 : xRk 2 0 w59 100 36 67 g100_65 := h100_66
        refine xg_bastZ (n := ki) (u := n63) h100_66 xnm0 xnm0 rfl (by omega) (by omega) (fun w69 hr70 hb71 => ?_)
        refine xg_t (xg_iinc (u := ki) (z := ki + 1) (l1 := [(0, (2, 82))]) rfl rfl (by omega) rfl) ?_
        refine xg_t (xg_goto) ?_
        refine xg_t (xg_drop (l1 := [(0, (2, 82)), (1, (0, ki + 1))]) (List.forall_mem_cons.mpr ⟨List.mem_cons_of_mem _ (List.mem_cons_self), List.forall_mem_cons.mpr ⟨List.mem_cons_self, fun _ h => absurd h List.not_mem_nil⟩⟩)) ?_
        exact ih38 (ki + 1) w69 (by omega) (by omega) (xMnv.up (S := [100]) hI61 (xFr.of (S := [100]) hb71 (by decide)) (List.forall_mem_cons.mpr ⟨xqu100 (show cpx100 (wget w69 100) from ⟨_, hr70, xrb (by omega) (hb67), (hx68.upd (by omega))⟩), fun _ h => absurd h List.not_mem_nil⟩)) (((((hF42.tr (hF49.up (by decide))).tr (xFr.of (S := [99, 100]) hb58 (by decide))).tr (hF62.up (by decide))).tr (xFr.of (S := [99, 100]) hb71 (by decide))))
      · refine xg_t (xg_icT (u := ki) (v := 36) rfl xnm0 xnm0 (xj_geT (by omega) (by omega))) ?_
        refine xg_t (xg_blq rfl) ?_
        exact xg_e ⟨w40, ⟨rfl, rfl⟩, hI41, hF42⟩
  exact key37 _ 0 w (Nat.lt_succ_self _) (by omega) (hI) (xFr.rf)
end XM1
end
