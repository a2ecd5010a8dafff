/-! what numbers of the film and of hands can be; layers that tire, alike -/
def vF (R : Nat → Nat) : Prop := (R 0 ≤ 6 ∧ R 1 ≤ 4 ∧ R 2 ≤ 6 ∧ R 3 ≤ 4 ∧ R 4 ≤ 20) ∧ ((1 ≤ R 5 ∧ R 5 ≤ 6) ∧ (1 ≤ R 6 ∧ R 6 ≤ 6) ∧ (1 ≤ R 7 ∧ R 7 ≤ 10) ∧ (1 ≤ R 8 ∧ R 8 ≤ 10)) ∧ (∀ k, k < R 0 → R (20 + (4 * k + 3)) ≤ 1) ∧ (∀ k, k < R 1 → R (50 + 2 * k) ≤ 99 ∧ 1 ≤ R (50 + (2 * k + 1)) ∧ R (50 + (2 * k + 1)) ≤ 999) ∧ (∀ i, i < R 2 → (1 ≤ R (60 + (2 * i + 1)) ∧ R (60 + (2 * i + 1)) ≤ 9999) ∧ 1 ≤ R (60 + 2 * i) ∧ R (60 + 2 * i) ≤ 9999) ∧ (∀ k, k < R 3 → (1 ≤ R (80 + 3 * k) ∧ R (80 + 3 * k) ≤ 10) ∧ (1 ≤ R (80 + (3 * k + 1)) ∧ R (80 + (3 * k + 1)) ≤ 10) ∧ 1 ≤ R (80 + (3 * k + 2)) ∧ R (80 + (3 * k + 2)) ≤ 999) ∧ ∀ k, k < R 4 → R (100 + 2 * k) ≤ 9 ∧ R (100 + (2 * k + 1)) ≤ 9
def vH (R : Nat → Nat) : Prop := R 900 ≤ 4 ∧ ∀ h, h < R 900 → (1 ≤ R (950 + 3 * h) ∧ R (950 + 3 * h) ≤ 999) ∧ (1 ≤ R (950 + (3 * h + 1)) ∧ R (950 + (3 * h + 1)) ≤ 999) ∧ 1 ≤ R (950 + (3 * h + 2)) ∧ R (950 + (3 * h + 2)) ≤ 9999
theorem vF.cg {R R' : Nat → Nat} (h : vF R) (e : ∀ j, (j < 9 ∨ (20 ≤ j ∧ j < 140)) → R' j = R j) : vF R' := by
  obtain ⟨⟨a0, a1, a2, a3, a4⟩, hb, c, d, f, g, i⟩ := h
  have e0 := e 0 (by omega)
  have e1 := e 1 (by omega)
  have e2 := e 2 (by omega)
  have e3 := e 3 (by omega)
  have e4 := e 4 (by omega)
  refine ⟨⟨by omega, by omega, by omega, by omega, by omega⟩, ?_, fun k hk => ?_, fun k hk => ?_, fun k hk => ?_, fun k hk => ?_, fun k hk => ?_⟩
  · rw [e 5 (by omega), e 6 (by omega), e 7 (by omega), e 8 (by omega)]
    exact hb
  · rw [e _ (by omega)]
    exact c k (by omega)
  · rw [e (50 + 2 * k) (by omega), e (50 + (2 * k + 1)) (by omega)]
    exact d k (by omega)
  · rw [e (60 + 2 * k) (by omega), e (60 + (2 * k + 1)) (by omega)]
    exact f k (by omega)
  · rw [e (80 + 3 * k) (by omega), e (80 + (3 * k + 1)) (by omega), e (80 + (3 * k + 2)) (by omega)]
    exact g k (by omega)
  · rw [e (100 + 2 * k) (by omega), e (100 + (2 * k + 1)) (by omega)]
    exact i k (by omega)
theorem vH.cg {R R' : Nat → Nat} (h : vH R) (e : ∀ j, (j = 900 ∨ (950 ≤ j ∧ j < 962)) → R' j = R j) : vH R' := by
  obtain ⟨a, b⟩ := h
  have e0 := e 900 (by omega)
  refine ⟨by omega, fun k hk => ?_⟩
  rw [e (950 + 3 * k) (by omega), e (950 + (3 * k + 1)) (by omega), e (950 + (3 * k + 2)) (by omega)]
  exact b k (by omega)
/-- a film told: its numbers can be -/
theorem FLA.gF {B : Nat → Nat} {nn n : Nat} {w : List (List xE)} (h : FLA B nn w n) : vF (rwv w 83) := by
  obtain ⟨⟨g0, g1, g2, g3, g4, -, gz⟩, gR⟩ := h
  have l0 : lnC B nn 0 n ≤ 6 := lnC_lim (s := 0) gz (by decide)
  have l1 : lnC B nn 1 n ≤ 4 := lnC_lim (s := 1) gz (by decide)
  have l2 : lnC B nn 2 n ≤ 6 := lnC_lim (s := 2) gz (by decide)
  have l3 : lnC B nn 3 n ≤ 4 := lnC_lim (s := 3) gz (by decide)
  have l4 : lnC B nn 4 n ≤ 20 := lnC_lim (s := 4) gz (by decide)
  have hit : ∀ s m, m < lnC B nn s n → ∃ i, (∀ t, t < wds s → XA w s m t = vln B nn (lnP B nn i) t) ∧ (lst0 s ≤ vln B nn (lnP B nn i) 0 ∧ vln B nn (lnP B nn i) 0 ≤ grt0 s) ∧ (lst1 s ≤ vln B nn (lnP B nn i) 1 ∧ vln B nn (lnP B nn i) 1 ≤ grt1 s) ∧ (nnm s = 3 → 1 ≤ vln B nn (lnP B nn i) 2 ∧ vln B nn (lnP B nn i) 2 ≤ grt2 s) := by
    intro s m hm
    obtain ⟨i, h1, h2, h3⟩ := lnC_hit n hm
    have a := flt_v h2 (flA_all gz i h1)
    refine ⟨i, fun t ht => ?_, a.2.1, a.2.2.1, a.2.2.2⟩
    have b := gR.1 i h1 t (by rw [h2]; exact ht)
    rw [h2, h3] at b
    exact b
  have s5 : (1 ≤ rwv w 83 7 ∧ rwv w 83 7 ≤ 10) ∧ (1 ≤ rwv w 83 8 ∧ rwv w 83 8 ≤ 10) := by
    by_cases z : lnC B nn 5 n = 0
    · obtain ⟨a, b⟩ := gR.2 5 (Or.inl rfl) z
      have a : rwv w 83 7 = 1 := a
      have b : rwv w 83 8 = 1 := b
      omega
    · obtain ⟨i, a, b, c, -⟩ := hit 5 0 (by omega)
      have a0 : rwv w 83 7 = _ := a 0 (by decide)
      have a1 : rwv w 83 8 = _ := a 1 (by decide)
      rw [a0, a1]
      exact ⟨b, c⟩
  have s6 : (1 ≤ rwv w 83 5 ∧ rwv w 83 5 ≤ 6) ∧ (1 ≤ rwv w 83 6 ∧ rwv w 83 6 ≤ 6) := by
    by_cases z : lnC B nn 6 n = 0
    · obtain ⟨a, b⟩ := gR.2 6 (Or.inr rfl) z
      have a : rwv w 83 5 = 1 := a
      have b : rwv w 83 6 = 1 := b
      omega
    · obtain ⟨i, a, b, c, -⟩ := hit 6 0 (by omega)
      have a0 : rwv w 83 5 = _ := a 0 (by decide)
      have a1 : rwv w 83 6 = _ := a 1 (by decide)
      rw [a0, a1]
      exact ⟨b, c⟩
  refine ⟨⟨by omega, by omega, by omega, by omega, by omega⟩, ⟨s6.1, s6.2, s5.1, s5.2⟩, fun k hk => ?_, fun k hk => ?_, fun k hk => ?_, fun k hk => ?_, fun k hk => ?_⟩
  · obtain ⟨i, a, -⟩ := hit 0 k (by omega)
    have a3 : rwv w 83 (20 + 4 * k + 3) = vln B nn (lnP B nn i) 3 := a 3 (by decide)
    have e : vln B nn (lnP B nn i) 3 ≤ 1 := by
      show (if twk B nn (vlp B nn (lnP B nn i) 3) = 20325509 then 1 else 0) ≤ 1
      split <;> decide
    rw [← Nat.add_assoc, a3]
    exact e
  · obtain ⟨i, a, b, c, -⟩ := hit 1 k (by omega)
    have a0 : rwv w 83 (50 + 2 * k) = _ := a 0 (by decide)
    have a1 : rwv w 83 (50 + 2 * k + 1) = _ := a 1 (by decide)
    rw [← Nat.add_assoc, a0, a1]
    exact ⟨b.2, c⟩
  · obtain ⟨i, a, b, c, -⟩ := hit 2 k (by omega)
    have a0 : rwv w 83 (60 + 2 * k) = _ := a 0 (by decide)
    have a1 : rwv w 83 (60 + 2 * k + 1) = _ := a 1 (by decide)
    rw [← Nat.add_assoc, a0, a1]
    exact ⟨c, b⟩
  · obtain ⟨i, a, b, c, d⟩ := hit 3 k (by omega)
    have a0 : rwv w 83 (80 + 3 * k) = _ := a 0 (by decide)
    have a1 : rwv w 83 (80 + 3 * k + 1) = _ := a 1 (by decide)
    have a2 : rwv w 83 (80 + 3 * k + 2) = _ := a 2 (by decide)
    rw [← Nat.add_assoc, ← Nat.add_assoc, a0, a1, a2]
    exact ⟨b, c, d (by decide)⟩
  · obtain ⟨i, a, b, c, -⟩ := hit 4 k (by omega)
    have a0 : rwv w 83 (100 + 2 * k) = _ := a 0 (by decide)
    have a1 : rwv w 83 (100 + 2 * k + 1) = _ := a 1 (by decide)
    rw [← Nat.add_assoc, a0, a1]
    exact ⟨b.2, c.2⟩
/-- a hand told -/
theorem vH.hand {w1 w2 : List (List xE)} {n2 fi fo ro : Nat} (h : vH (rwv w1 83)) (hG : ((n2 = rwv w1 83 900 ∧ rwv w1 83 900 < 4 ∧ ((1 ≤ fi ∧ fi ≤ 999) ∧ (1 ≤ fo ∧ fo ≤ 999) ∧ (1 ≤ ro ∧ ro ≤ 9999)) ∧ rwv w2 83 900 = rwv w1 83 900 + 1) ∨ (n2 = 4294967295 ∧ ¬ (rwv w1 83 900 < 4 ∧ ((1 ≤ fi ∧ fi ≤ 999) ∧ (1 ≤ fo ∧ fo ≤ 999) ∧ (1 ≤ ro ∧ ro ≤ 9999))) ∧ rwv w2 83 900 = rwv w1 83 900)) ∧ (n2 ≠ 4294967295 → rwv w2 83 (950 + 3 * rwv w1 83 900) = fi ∧ rwv w2 83 (950 + 3 * rwv w1 83 900 + 1) = fo ∧ rwv w2 83 (950 + 3 * rwv w1 83 900 + 2) = ro) ∧ (∀ j, (j ≠ 900 ∧ (j < 950 + 3 * rwv w1 83 900 ∨ 953 + 3 * rwv w1 83 900 ≤ j)) → j < 5360 → rwv w2 83 j = rwv w1 83 j)) : vH (rwv w2 83) := by
  obtain ⟨g1, g2, g3⟩ := hG
  obtain ⟨a, b⟩ := h
  rcases g1 with ⟨z1, z2, z3, z4⟩ | ⟨z1, -, z3⟩
  · obtain ⟨v0, v1, v2⟩ := g2 (by omega)
    refine ⟨by omega, fun k hk => ?_⟩
    by_cases e : k = rwv w1 83 900
    · rw [e, v0, ← Nat.add_assoc, ← Nat.add_assoc, v1, v2]
      exact ⟨z3.1, z3.2.1, z3.2.2⟩
    · rw [g3 (950 + 3 * k) (by omega) (by omega), g3 (950 + (3 * k + 1)) (by omega) (by omega), g3 (950 + (3 * k + 2)) (by omega) (by omega)]
      exact b k (by omega)
  · refine ⟨by omega, fun k hk => ?_⟩
    rw [g3 (950 + 3 * k) (by omega) (by omega), g3 (950 + (3 * k + 1)) (by omega) (by omega), g3 (950 + (3 * k + 2)) (by omega) (by omega)]
    exact b k (by omega)
/-- alike, and the numbers can be -/
def a6 (w : List (List xE)) (b k : Nat) : Prop := al w b k ∧ vF (fun j => rwv w 83 (1340 * k + j)) ∧ vH (fun j => rwv w 83 (1340 * k + j))
theorem a6.cp {w w' : List (List xE)} {D S k k' : Nat} (h : a6 w S k) (e : tdE w' D w S) (r : ∀ j, j < 1340 → rwv w' 83 (1340 * k' + j) = rwv w 83 (1340 * k + j)) : a6 w' D k' := ⟨h.1.cp e r, h.2.1.cg (fun j hj => r j (by omega)), h.2.2.cg (fun j hj => r j (by omega))⟩
theorem a6.kp {w w' : List (List xE)} {b k : Nat} (h : a6 w b k) (hc : ∀ o, o < 25 → wget w' (b + o) = wget w (b + o)) (hr : ∀ j, 1340 * k ≤ j → j < 1340 * k + 1340 → rwv w' 83 j = rwv w 83 j) : a6 w' b k := h.cp (tdE.rf.tr0 hc (fun _ _ => rfl)) (fun j hj => hr _ (by omega) (by omega))
theorem blk0 {w : List (List xE)} : (fun j => rwv w 83 (1340 * 0 + j)) = rwv w 83 := by
  funext j
  rw [Nat.mul_zero, Nat.zero_add]
theorem a6.gF {w : List (List xE)} (h : a6 w 1 0) : vF (rwv w 83) := by
  have q := h.2.1
  rw [blk0] at q
  exact q
theorem a6.gH {w : List (List xE)} (h : a6 w 1 0) : vH (rwv w 83) := by
  have q := h.2.2
  rw [blk0] at q
  exact q
theorem a6.mk {w : List (List xE)} (h : al w 1 0) (hF : vF (rwv w 83)) (hH : vH (rwv w 83)) : a6 w 1 0 := by
  refine ⟨h, ?_, ?_⟩
  · rw [blk0]
    exact hF
  · rw [blk0]
    exact hH
/-! lives and folds, in both -/
theorem a6.s6 {w : List (List xE)} (h : a6 w 1 0) : fld w 6 3 = rwv w 83 1 := h.1.2.2.1.2.2.1.sz
theorem a6.s8 {w : List (List xE)} (h : a6 w 1 0) : fld w 8 3 = rwv w 83 2 := h.1.2.2.1.2.2.2.1.sz
theorem a6.g7 {w : List (List xE)} {j : Nat} (h : a6 w 1 0) (hj : j < 2 * fld w 6 3) : rwv w 7 j = rwv w 83 (50 + j) := h.1.2.2.1.2.2.1.get (show j < fld w 6 3 * 2 by omega)
theorem a6.g9 {w : List (List xE)} {j : Nat} (h : a6 w 1 0) (hj : j < 2 * fld w 8 3) : rwv w 9 j = rwv w 83 (60 + j) := h.1.2.2.1.2.2.2.1.get (show j < fld w 8 3 * 2 by omega)
theorem a6.hS {w : List (List xE)} (h : a6 w 1 0) : ∀ k, k < fld w 6 3 → rwv w 7 (2 * k) ≤ 99 := fun k hk => by
  have s := h.s6
  rw [h.g7 (by omega)]
  exact (h.gF.2.2.2.1 k (by omega)).1
theorem a6.hv {w : List (List xE)} (h : a6 w 1 0) : ∀ k, k < fld w 6 3 → 1 ≤ rwv w 7 (2 * k + 1) ∧ rwv w 7 (2 * k + 1) ≤ 999 := fun k hk => by
  have s := h.s6
  rw [h.g7 (by omega)]
  exact (h.gF.2.2.2.1 k (by omega)).2
theorem a6.hR {w : List (List xE)} (h : a6 w 1 0) : ∀ i, i < fld w 8 3 → (1 ≤ rwv w 9 (2 * i + 1) ∧ rwv w 9 (2 * i + 1) ≤ 9999) ∧ rwv w 9 (2 * i) ≤ 9999 := fun k hk => by
  have s := h.s8
  rw [h.g9 (by omega), h.g9 (by omega)]
  have q := h.gF.2.2.2.2.1 k (by omega)
  exact ⟨q.1, q.2.2⟩
theorem a6.s18 {w : List (List xE)} (h : a6 w 1 0) : fld w 18 3 = rwv w 83 900 := h.1.2.2.2.2.1.sz
theorem a6.g19 {w : List (List xE)} {j : Nat} (h : a6 w 1 0) (hj : j < 3 * fld w 18 3) : rwv w 19 j = rwv w 83 (950 + j) := h.1.2.2.2.2.1.get (show j < fld w 18 3 * 3 by omega)
theorem a6.mH {w : List (List xE)} (h : a6 w 1 0) : ∀ k, k < rwv w 83 900 → (1 ≤ rwv w 83 (950 + 3 * k) ∧ rwv w 83 (950 + 3 * k) ≤ 999) ∧ (1 ≤ rwv w 83 (950 + (3 * k + 1)) ∧ rwv w 83 (950 + (3 * k + 1)) ≤ 999) ∧ 1 ≤ rwv w 83 (950 + (3 * k + 2)) ∧ rwv w 83 (950 + (3 * k + 2)) ≤ 9999 := h.gH.2
theorem a6.hH {w : List (List xE)} (h : a6 w 1 0) : ∀ k, k < fld w 18 3 → (1 ≤ rwv w 19 (3 * k) ∧ rwv w 19 (3 * k) ≤ 999) ∧ (1 ≤ rwv w 19 (3 * k + 1) ∧ rwv w 19 (3 * k + 1) ≤ 999) ∧ 1 ≤ rwv w 19 (3 * k + 2) ∧ rwv w 19 (3 * k + 2) ≤ 9999 := fun k hk => by
  have s := h.s18
  rw [h.g19 (j := 3 * k) (by omega), h.g19 (j := 3 * k + 1) (by omega), h.g19 (j := 3 * k + 2) (by omega)]
  exact h.mH k (by omega)