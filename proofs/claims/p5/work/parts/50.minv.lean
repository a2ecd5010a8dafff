/-! what holds of the cells of the model between calls -/
/-- a fact kept out of sight -/
def xHid (p : Prop) : Prop := p
theorem xHid.of {p : Prop} (h : p) : xHid p := h
def okB (f : Nat → Nat) (b : Nat) : Prop := f b ≤ 6 ∧ f (b + 1) ≤ 4 ∧ f (b + 2) ≤ 6 ∧ f (b + 3) ≤ 4 ∧ f (b + 4) ≤ 20 ∧ f (b + 5) ≤ 6 ∧ f (b + 6) ≤ 6 ∧ f (b + 7) ≤ 10 ∧ f (b + 8) ≤ 10 ∧ f (b + 9) ≤ 40 ∧ f (b + 10) ≤ 12 ∧ f (b + 13) ≤ 200 ∧ f (b + 15) ≤ 500 ∧ f (b + 900) ≤ 4 ∧ f (b + 901) ≤ 12 ∧ f (b + 902) ≤ 16 ∧ (f (b + 5) = 0 ∨ 1 ≤ f (b + 6)) ∧ (∀ k i, k < f b → i < 3 → 1 ≤ f (b + 20 + 4 * k + i) ∧ f (b + 20 + 4 * k + i) ≤ 99) ∧ (∀ k, k < f (b + 1) → 1 ≤ f (b + 51 + 2 * k) ∧ f (b + 51 + 2 * k) ≤ 999) ∧ (∀ p i, p < f (b + 10) → i < 4 → f (b + 300 + 6 * p + i) ≤ 5) ∧ (∀ l, l < f (b + 902) → f (b + 1020 + 20 * l) ≤ 4)
def okA (f : Nat → Nat) : Prop := okB f 0 ∧ okB f 1340 ∧ okB f 2680 ∧ okB f 4020
theorem okB_congr {f g : Nat → Nat} {b : Nat} (e : ∀ t, t < 1340 → g (b + t) = f (b + t)) (h : okB f b) : okB g b := by
  obtain ⟨h0, h1, h2, h3, h4, h5, h6, h7, h8, h9, h10, h11, h12, h13, h14, h15, hc, hl, hv, hp, hr⟩ := h
  have e0 : g b = f b := e 0 (by decide)
  have e1 := e 1 (by decide)
  have e2 := e 2 (by decide)
  have e3 := e 3 (by decide)
  have e4 := e 4 (by decide)
  have e5 := e 5 (by decide)
  have e6 := e 6 (by decide)
  have e7 := e 7 (by decide)
  have e8 := e 8 (by decide)
  have e9 := e 9 (by decide)
  have e10 := e 10 (by decide)
  have e13 := e 13 (by decide)
  have e15 := e 15 (by decide)
  have e900 := e 900 (by decide)
  have e901 := e 901 (by decide)
  have e902 := e 902 (by decide)
  refine ⟨by rw [e0]; exact h0, by rw [e1]; exact h1, by rw [e2]; exact h2, by rw [e3]; exact h3, by rw [e4]; exact h4, by rw [e5]; exact h5, by rw [e6]; exact h6, by rw [e7]; exact h7, by rw [e8]; exact h8, by rw [e9]; exact h9, by rw [e10]; exact h10, by rw [e13]; exact h11, by rw [e15]; exact h12, by rw [e900]; exact h13, by rw [e901]; exact h14, by rw [e902]; exact h15, ?_, ?_, ?_, ?_, ?_⟩
  · rw [e5, e6]; exact hc
  · intro k i hk hi
    rw [e0] at hk
    have q := e (20 + 4 * k + i) (by omega)
    have q2 : g (b + 20 + 4 * k + i) = f (b + 20 + 4 * k + i) := by
      have z : b + 20 + 4 * k + i = b + (20 + 4 * k + i) := by omega
      rw [z]; exact q
    rw [q2]; exact hl k i hk hi
  · intro k hk
    rw [e1] at hk
    have q := e (51 + 2 * k) (by omega)
    have q2 : g (b + 51 + 2 * k) = f (b + 51 + 2 * k) := by
      have z : b + 51 + 2 * k = b + (51 + 2 * k) := by omega
      rw [z]; exact q
    rw [q2]; exact hv k hk
  · intro p i hk hi
    rw [e10] at hk
    have q := e (300 + 6 * p + i) (by omega)
    have q2 : g (b + 300 + 6 * p + i) = f (b + 300 + 6 * p + i) := by
      have z : b + 300 + 6 * p + i = b + (300 + 6 * p + i) := by omega
      rw [z]; exact q
    rw [q2]; exact hp p i hk hi
  · intro l hk
    rw [e902] at hk
    have q := e (1020 + 20 * l) (by omega)
    have q2 : g (b + 1020 + 20 * l) = f (b + 1020 + 20 * l) := by
      have z : b + 1020 + 20 * l = b + (1020 + 20 * l) := by omega
      rw [z]; exact q
    rw [q2]; exact hr l hk
theorem okA.lits {f : Nat → Nat} (h : okA f) : f 0 ≤ 6 ∧ f 1 ≤ 4 ∧ f 2 ≤ 6 ∧ f 3 ≤ 4 ∧ f 4 ≤ 20 ∧ f 5 ≤ 6 ∧ f 6 ≤ 6 ∧ f 7 ≤ 10 ∧ f 8 ≤ 10 ∧ f 9 ≤ 40 ∧ f 10 ≤ 12 ∧ f 13 ≤ 200 ∧ f 15 ≤ 500 ∧ f 900 ≤ 4 ∧ f 901 ≤ 12 ∧ f 902 ≤ 16 ∧ (f 5 = 0 ∨ 1 ≤ f 6) := by
  obtain ⟨⟨h0, h1, h2, h3, h4, h5, h6, h7, h8, h9, h10, h11, h12, h13, h14, h15, hc, hl, hv, hp, hr⟩, -⟩ := h
  simp only [Nat.zero_add] at h1 h2 h3 h4 h5 h6 h7 h8 h9 h10 h11 h12 h13 h14 h15 hc
  exact ⟨h0, h1, h2, h3, h4, h5, h6, h7, h8, h9, h10, h11, h12, h13, h14, h15, hc⟩
theorem okA.lay {f : Nat → Nat} (h : okA f) {k i : Nat} (hk : k < f 0) (hi : i < 3) : 1 ≤ f (20 + 4 * k + i) ∧ f (20 + 4 * k + i) ≤ 99 := by
  have q := h.1.2.2.2.2.2.2.2.2.2.2.2.2.2.2.2.2.2.1 k i hk hi
  simp only [Nat.zero_add] at q
  exact q
theorem okA.lif {f : Nat → Nat} (h : okA f) {k : Nat} (hk : k < f 1) : 1 ≤ f (51 + 2 * k) ∧ f (51 + 2 * k) ≤ 999 := by
  have q := h.1.2.2.2.2.2.2.2.2.2.2.2.2.2.2.2.2.2.2.1 k hk
  simp only [Nat.zero_add] at q
  exact q
theorem okA.pic {f : Nat → Nat} (h : okA f) {p i : Nat} (hk : p < f 10) (hi : i < 4) : f (300 + 6 * p + i) ≤ 5 := by
  have q := h.1.2.2.2.2.2.2.2.2.2.2.2.2.2.2.2.2.2.2.2.1 p i hk hi
  simp only [Nat.zero_add] at q
  exact q
theorem okA.rul {f : Nat → Nat} (h : okA f) {l : Nat} (hk : l < f 902) : f (1020 + 20 * l) ≤ 4 := by
  have q := h.1.2.2.2.2.2.2.2.2.2.2.2.2.2.2.2.2.2.2.2.2 l hk
  simp only [Nat.zero_add] at q
  exact q
theorem okA.mk0 {f g : Nat → Nat} (h : okA f) (e : ∀ j, 1340 ≤ j → g j = f j) (q : okB g 0) : okA g :=
  ⟨q, okB_congr (fun t _ => e _ (by omega)) h.2.1, okB_congr (fun t _ => e _ (by omega)) h.2.2.1, okB_congr (fun t _ => e _ (by omega)) h.2.2.2⟩
theorem okB.of0 {f : Nat → Nat} (hlit : f 0 ≤ 6 ∧ f 1 ≤ 4 ∧ f 2 ≤ 6 ∧ f 3 ≤ 4 ∧ f 4 ≤ 20 ∧ f 5 ≤ 6 ∧ f 6 ≤ 6 ∧ f 7 ≤ 10 ∧ f 8 ≤ 10 ∧ f 9 ≤ 40 ∧ f 10 ≤ 12 ∧ f 13 ≤ 200 ∧ f 15 ≤ 500 ∧ f 900 ≤ 4 ∧ f 901 ≤ 12 ∧ f 902 ≤ 16 ∧ (f 5 = 0 ∨ 1 ≤ f 6)) (hl : ∀ k i, k < f 0 → i < 3 → 1 ≤ f (20 + 4 * k + i) ∧ f (20 + 4 * k + i) ≤ 99) (hv : ∀ k, k < f 1 → 1 ≤ f (51 + 2 * k) ∧ f (51 + 2 * k) ≤ 999) (hp : ∀ p i, p < f 10 → i < 4 → f (300 + 6 * p + i) ≤ 5) (hr : ∀ l, l < f 902 → f (1020 + 20 * l) ≤ 4) : okB f 0 := by
  obtain ⟨h0, h1, h2, h3, h4, h5, h6, h7, h8, h9, h10, h11, h12, h13, h14, h15, hc⟩ := hlit
  unfold okB
  simp only [Nat.zero_add]
  exact ⟨h0, h1, h2, h3, h4, h5, h6, h7, h8, h9, h10, h11, h12, h13, h14, h15, hc, hl, hv, hp, hr⟩
theorem okA.upd {f : Nat → Nat} {i v : Nat} (h : okA f) (hi : i < 1020) (h9 : 9 ≤ i) (h20 : ¬ (20 ≤ i ∧ i < 140)) (c9 : i = 9 → v ≤ 40) (c10 : i ≠ 10) (c13 : i = 13 → v ≤ 200) (c15 : i = 15 → v ≤ 500) (c900 : i = 900 → v ≤ 4) (c901 : i = 901 → v ≤ 12) (c902 : i ≠ 902) (c300 : 300 ≤ i → i < 372 → 300 + 6 * f 10 ≤ i) : okA (fun j => if j = i then v else f j) := by
  have hh := h
  obtain ⟨h0, h1, h2, h3, h4, h5, h6, h7, h8, h9, h10, h11, h12, h13, h14, h15, hc⟩ := h.lits
  generalize hg : (fun j => if j = i then v else f j) = g
  have e : ∀ j, j ≠ i → g j = f j := fun j hj => by rw [← hg]; exact if_neg hj
  have ei : g i = v := by rw [← hg]; exact if_pos rfl
  have ie : ∀ j, j = i → g j = v := fun j hj => by rw [hj]; exact ei
  have e0 : g 0 = f 0 := e 0 (by omega)
  have e1 : g 1 = f 1 := e 1 (by omega)
  have e2 : g 2 = f 2 := e 2 (by omega)
  have e3 : g 3 = f 3 := e 3 (by omega)
  have e4 : g 4 = f 4 := e 4 (by omega)
  have e5 : g 5 = f 5 := e 5 (by omega)
  have e6 : g 6 = f 6 := e 6 (by omega)
  have e7 : g 7 = f 7 := e 7 (by omega)
  have e8 : g 8 = f 8 := e 8 (by omega)
  have e9 : g 9 = f 9 ∨ (9 = i ∧ g 9 = v) := by
    by_cases z : 9 = i
    · exact Or.inr ⟨z, ie _ z⟩
    · exact Or.inl (e 9 z)
  have e10 : g 10 = f 10 := e 10 (by omega)
  have e13 : g 13 = f 13 ∨ (13 = i ∧ g 13 = v) := by
    by_cases z : 13 = i
    · exact Or.inr ⟨z, ie _ z⟩
    · exact Or.inl (e 13 z)
  have e15 : g 15 = f 15 ∨ (15 = i ∧ g 15 = v) := by
    by_cases z : 15 = i
    · exact Or.inr ⟨z, ie _ z⟩
    · exact Or.inl (e 15 z)
  have e900 : g 900 = f 900 ∨ (900 = i ∧ g 900 = v) := by
    by_cases z : 900 = i
    · exact Or.inr ⟨z, ie _ z⟩
    · exact Or.inl (e 900 z)
  have e901 : g 901 = f 901 ∨ (901 = i ∧ g 901 = v) := by
    by_cases z : 901 = i
    · exact Or.inr ⟨z, ie _ z⟩
    · exact Or.inl (e 901 z)
  have e902 : g 902 = f 902 := e 902 (by omega)
  refine h.mk0 (fun j hj => e j (by omega)) (okB.of0 ⟨by omega, by omega, by omega, by omega, by omega, by omega, by omega, by omega, by omega, by omega, by omega, by omega, by omega, by omega, by omega, by omega, by omega⟩ ?_ ?_ ?_ ?_)
  · intro k t hk ht
    rw [e _ (by omega)]
    exact hh.lay (by omega) ht
  · intro k hk
    rw [e _ (by omega)]
    exact hh.lif (by omega)
  · intro p t hk ht
    rw [e _ (by omega)]
    exact hh.pic (by omega) ht
  · intro l hk
    rw [e _ (by omega)]
    exact hh.rul (by omega)
theorem okA.updP {f : Nat → Nat} {v : Nat} (h : okA f) (hv : v ≤ 12) (hp : ∀ p t, p < v → t < 4 → f (300 + 6 * p + t) ≤ 5) : okA (fun j => if j = 10 then v else f j) := by
  have hh := h
  obtain ⟨h0, h1, h2, h3, h4, h5, h6, h7, h8, h9, h10, h11, h12, h13, h14, h15, hc⟩ := h.lits
  generalize hg : (fun j => if j = 10 then v else f j) = g
  have e : ∀ j, j ≠ 10 → g j = f j := fun j hj => by rw [← hg]; exact if_neg hj
  have ei : g 10 = v := by rw [← hg]; exact if_pos rfl
  have e0 : g 0 = f 0 := e 0 (by decide)
  have e1 : g 1 = f 1 := e 1 (by decide)
  have e2 : g 2 = f 2 := e 2 (by decide)
  have e3 : g 3 = f 3 := e 3 (by decide)
  have e4 : g 4 = f 4 := e 4 (by decide)
  have e5 : g 5 = f 5 := e 5 (by decide)
  have e6 : g 6 = f 6 := e 6 (by decide)
  have e7 : g 7 = f 7 := e 7 (by decide)
  have e8 : g 8 = f 8 := e 8 (by decide)
  have e9 : g 9 = f 9 := e 9 (by decide)
  have e13 : g 13 = f 13 := e 13 (by decide)
  have e15 : g 15 = f 15 := e 15 (by decide)
  have e900 : g 900 = f 900 := e 900 (by decide)
  have e901 : g 901 = f 901 := e 901 (by decide)
  have e902 : g 902 = f 902 := e 902 (by decide)
  refine h.mk0 (fun j hj => e j (by omega)) (okB.of0 ⟨by omega, by omega, by omega, by omega, by omega, by omega, by omega, by omega, by omega, by omega, by omega, by omega, by omega, by omega, by omega, by omega, by omega⟩ ?_ ?_ ?_ ?_)
  · intro k t hk ht
    rw [e _ (by omega)]
    exact hh.lay (by omega) ht
  · intro k hk
    rw [e _ (by omega)]
    exact hh.lif (by omega)
  · intro p t hk ht
    rw [e _ (by omega)]
    exact hp p t (by omega) ht
  · intro l hk
    rw [e _ (by omega)]
    exact hh.rul (by omega)
/-- lines and rails that are there -/
def okL (f : Nat → Nat) : Prop := ∀ j, f j = 1 → j % 6 ≤ 4
def okD (f : Nat → Nat) : Prop := ∀ j, f j = 1 → j < 30
theorem okL.upd {f : Nat → Nat} {i v : Nat} (h : okL f) (hv : v = 1 → i % 6 ≤ 4) : okL (fun j => if j = i then v else f j) := by
  intro j hj
  have hj : (if j = i then v else f j) = 1 := hj
  by_cases z : j = i
  · subst z
    rw [if_pos rfl] at hj
    exact hv hj
  · rw [if_neg z] at hj
    exact h j hj
theorem okD.upd {f : Nat → Nat} {i v : Nat} (h : okD f) (hv : v = 1 → i < 30) : okD (fun j => if j = i then v else f j) := by
  intro j hj
  have hj : (if j = i then v else f j) = 1 := hj
  by_cases z : j = i
  · subst z
    rw [if_pos rfl] at hj
    exact hv hj
  · rw [if_neg z] at hj
    exact h j hj
/-- a piece of the sheet, by its number -/
def okP (v : Nat) : Prop := v < 14641 ∧ v / 1331 + v / 11 % 11 ≤ 10 ∧ v / 121 % 11 + v % 11 ≤ 10
def okS (f : Nat → Nat) : Prop := ∀ j, okP (f j)
theorem okS.upd {f : Nat → Nat} {i v : Nat} (h : okS f) (hv : okP v) : okS (fun j => if j = i then v else f j) := by
  intro j
  show okP (if j = i then v else f j)
  by_cases z : j = i
  · rw [if_pos z]; exact hv
  · rw [if_neg z]; exact h j
/-- whence a place was met: the way back comes to an end -/
def okN (f : Nat → Nat) : Prop := ∀ j, f j = 4294967295 ∨ f j < 36
theorem okN.upd {f : Nat → Nat} {i v : Nat} (h : okN f) (hv : v = 4294967295 ∨ v < 36) : okN (fun j => if j = i then v else f j) := by
  intro j
  show (if j = i then v else f j) = 4294967295 ∨ (if j = i then v else f j) < 36
  by_cases z : j = i
  · rw [if_pos z]; exact hv
  · rw [if_neg z]; exact h j
def okF (f : Nat → Nat) : Prop := ∃ rk : Nat → Nat, ∀ p, p < 36 → f p = 4294967295 ∨ (f p < 36 ∧ f (f p) ≠ 4294967295 ∧ (f p = p ∨ rk (f p) < rk p))
theorem okF.upd {f : Nat → Nat} {p b : Nat} (h : okF f) (hp : p < 36) (hn : f p = 4294967295) (hb : b < 36) (hc : b = p ∨ f b ≠ 4294967295) : okF (fun j => if j = p then b else f j) := by
  obtain ⟨rk, hr⟩ := h
  refine ⟨fun j => if j = p then rk b + 1 else rk j, fun q hq => ?_⟩
  by_cases z : q = p
  · subst z
    refine Or.inr ?_
    simp only [if_true]
    refine ⟨hb, ?_, ?_⟩
    · by_cases y : b = q
      · rw [if_pos y]; omega
      · rw [if_neg y]
        rcases hc with hc | hc
        · exact absurd hc y
        · exact hc
    · by_cases y : b = q
      · exact Or.inl y
      · rw [if_neg y]
        exact Or.inr (by omega)
  · simp only [if_neg z]
    rcases hr q hq with h1 | ⟨h1, h2, h3⟩
    · exact Or.inl h1
    · have y : f q ≠ p := fun y => h2 (by rw [y]; exact hn)
      simp only [if_neg y]
      exact Or.inr ⟨h1, h2, h3⟩
theorem okF.none : okF (fun _ => 4294967295) := ⟨fun _ => 0, fun _ _ => Or.inl rfl⟩
def cp82 (q : Option xE) : Prop := ∃ a2 a3 a4 a5 a6 a7 a8 a9 a10 a14 a22 a23 a24 a33 a41 a42 : Nat, q = some (.inl (12, [(2, 83), (2, 84), (0, a2), (0, a3), (0, a4), (0, a5), (0, a6), (0, a7), (0, a8), (0, a9), (0, a10), (2, 85), (2, 86), (2, 87), (0, a14), (2, 88), (2, 89), (2, 90), (2, 91), (2, 92), (2, 93), (2, 94), (4, a22), (4, a23), (0, a24), (2, 95), (2, 96), (2, 97), (2, 98), (2, 99), (2, 100), (2, 101), (2, 102), (0, a33), (2, 103), (2, 104), (2, 105), (2, 106), (2, 107), (2, 108), (2, 109), (0, a41), (0, a42), (2, 110), (2, 111), (2, 112), (2, 113)])) ∧ a2 ≤ 1 ∧ a3 ≤ 4294967295 ∧ a4 ≤ 500 ∧ a5 ≤ 500 ∧ a6 ≤ 4294967295 ∧ a7 ≤ 4 ∧ a8 ≤ 4294967295 ∧ a9 ≤ 4294967295 ∧ a10 ≤ 1 ∧ a14 ≤ 4294967295 ∧ a24 ≤ 4294967295 ∧ a33 ≤ 36 ∧ a41 ≤ 100 ∧ a42 ≤ 200 ∧ (a5 ≤ a4)
def cpx83 (q : Option xE) : Prop := ∃ f : Nat → Nat, (∃ us, q = some (.inr (0, 5360, 50, us)) ∧ ∀ j, j < 5360 → xat 0 us j = (0, f j)) ∧ (∀ j, f j ≤ 4294967295) ∧ okA f
def cpx99 (q : Option xE) : Prop := ∃ f : Nat → Nat, (∃ us, q = some (.inr (2, 36, 66, us)) ∧ ∀ j, j < 36 → xat 2 us j = (0, f j)) ∧ (∀ j, f j ≤ 1) ∧ okL f
def cpx100 (q : Option xE) : Prop := ∃ f : Nat → Nat, (∃ us, q = some (.inr (2, 36, 67, us)) ∧ ∀ j, j < 36 → xat 2 us j = (0, f j)) ∧ (∀ j, f j ≤ 1) ∧ okD f
def cpx102 (q : Option xE) : Prop := ∃ f : Nat → Nat, (∃ us, q = some (.inr (0, 36, 69, us)) ∧ ∀ j, j < 36 → xat 0 us j = (0, f j)) ∧ (∀ j, f j ≤ 4294967295) ∧ okN f
def cpx108 (q : Option xE) : Prop := ∃ f : Nat → Nat, (∃ us, q = some (.inr (0, 200, 75, us)) ∧ ∀ j, j < 200 → xat 0 us j = (0, f j)) ∧ (∀ j, f j ≤ 4294967295) ∧ okS f
def mps : List (Option xE → Prop) := [cp82, cpx83, cpK 2 0 3 51 1, cpI 7 52 4294967295, cpI 140 53 4294967295, cpI 20 54 4294967295, cpI 6 55 5, cpI 6 56 4294967295, cpI 6 57 4294967295, cpI 6 58 5, cpJ 6 59, cpJ 6 60, cpJ 6 61, cpI 36 62 4294967295, cpI 36 63 4294967295, cpI 6 64 4294967295, cpI 6 65 4294967295, cpx99, cpx100, cpI 36 68 35, cpx102, cpI 36 70 4294967295, cpI 36 71 4294967295, cpI 36 72 4294967295, cpI 14641 73 4294967295, cpK 2 0 14641 74 1, cpx108, cpI 300 76 4294967295, cpI 36 77 4294967295, cpI 240 78 4294967295, cpI 320 79 4294967295, cpI 4 80 4294967295]
def mpk (k : Nat) : Option xE → Prop := mps.getD (k - 82) (fun _ => True)
def xMnv (w : List (List xE)) : Prop := ∀ k, k < 114 → 82 ≤ k → mpk k (wget w k)
theorem xMnv.up {w w' : List (List xE)} {S : List Nat} (h : xMnv w) (hf : xFr S w w') (hs : ∀ k ∈ S, mpk k (wget w' k)) : xMnv w' := by
  intro k hk h8
  by_cases hc : k ∈ S
  · exact hs k hc
  · rw [hf.1 k hc]
    exact h k hk h8
