section
/-! the model: lines of films -/
section XFMC
variable {B : Nat → Nat} {n k : Nat} {w w' : List (List xE)}
/-- what was read, by sort, line and place -/
noncomputable def XM (w : List (List xE)) : Nat → Nat → Nat → Nat := fun s m t => if s = 0 then rwv w 86 (20 + 4 * m + t) else if s = 1 then rwv w 86 (50 + 2 * m + t) else if s = 2 then rwv w 86 (60 + 2 * m + t) else if s = 3 then rwv w 86 (80 + 3 * m + t) else if s = 4 then rwv w 86 (100 + 2 * m + t) else if s = 5 then rwv w 86 (7 + t) else if s = 6 then rwv w 86 (5 + t) else 0
theorem FP.cg {w : List (List xE)} {a b : Nat × Nat} (h : FP w a) (e1 : a.1 = b.1) (e2 : b.1 ≠ 0 → a.2 = b.2) : FP w b := by
  obtain ⟨h1, h2, h3, h4⟩ := h
  refine ⟨h1.trans e1, fun z => ?_, by omega, fun z => h4 (by omega)⟩
  obtain ⟨q1, q2⟩ := h2 (by omega)
  have := e2 z
  omega
/-- the reading behind k lines -/
def MST (B : Nat → Nat) (n : Nat) (w : List (List xE)) (k : Nat) : Prop := (fld w 82 10 = 0 ∧ fld w 82 14 = k ∧ FP w (flA B n k) ∧ ((flA B n k).1 ≠ 0 → (flA B n k).2 < tq B n (lnP B n k))) ∧ (∀ s, s < 7 → rwv w 85 s = lnC B n s k) ∧ ((flA B n k).1 = 0 → RCN B n k (XM w) ∧ ∀ i, i < k → slt B n (lnP B n i) = 4 → rwv w 87 (lnC B n 4 i) = tq B n (lnP B n i))
/-- the places of a line go on -/
def ORD (B : Nat → Nat) (n k s q : Nat) : Prop := tq B n (lnP B n k) < tq B n (vlp B n (lnP B n k) 0) ∧ tq B n (vlp B n (lnP B n k) 0) < tq B n (vlp B n (lnP B n k) 1) ∧ (nnm s = 3 → tq B n (vlp B n (lnP B n k) 1) < tq B n (vlp B n (lnP B n k) 2)) ∧ tq B n (vlp B n (lnP B n k) 1) < q ∧ (nnm s = 3 → tq B n (vlp B n (lnP B n k) 2) < q)
theorem MSTok0 (hS : MST B n w k) (hs : slt B n (lnP B n k) = 0) (h10 : fld w' 82 10 = 0) (h14 : fld w' 82 14 = k + 1) (hF : FP w' (mfl B n k 0 (flA B n k))) (hO : ORD B n k 0 (tq B n (lnP B n (k + 1)))) (m1 : rwv w' 85 0 = lnC B n 0 k + 1) (m2 : ∀ s, s < 7 → s ≠ 0 → rwv w' 85 s = rwv w 85 s) (r1 : lnC B n 0 k < 6 → ∀ t, t < 4 → XM w' 0 (lnC B n 0 k) t = vln B n (lnP B n k) t) (r2 : ∀ j, (j < 20 + 4 * lnC B n 0 k ∨ 20 + 4 * (lnC B n 0 k + 1) ≤ j) → j < 140 → rwv w' 86 j = rwv w 86 j) (a1 : ∀ j, j < 20 → rwv w' 87 j = rwv w 87 j) : MST B n w' (k + 1) := by
  obtain ⟨⟨z10, z14, zF, zp⟩, hm, hR⟩ := hS
  obtain ⟨o1, o2, o3, o4, o5⟩ := hO
  obtain ⟨e1, e2⟩ := mfl_A hs zp o1 o2 o3
  refine ⟨⟨h10, h14, hF.cg e1 e2, flA_pl zp o1 o2 (by rw [hs]; exact o3) o4 (by rw [hs]; exact o5)⟩, fun s h7 => ?_, fun h0 => ?_⟩
  · by_cases e : s = 0
    · subst e
      rw [lnC_y hs]
      exact m1
    · rw [lnC_n (fun z => e (z.symm.trans hs)), m2 s h7 e]
      exact hm s h7
  · by_cases f0 : (flA B n k).1 = 0
    · obtain ⟨hR1, hR2⟩ := hR f0
      have hf : (flt B n k).1 = 0 := by rw [← flA_y f0]; exact h0
      have hlm : lnC B n 0 k < 6 := Nat.lt_of_not_le (flt_v hs hf).1
      have hl : ∀ s, 1 ≤ lim s → lnC B n s k ≤ lim s := fun s h => lnC_lim f0 h
      have l0 : lnC B n 0 k ≤ 6 := hl 0 (by decide)
      have l1 : lnC B n 1 k ≤ 4 := hl 1 (by decide)
      have l2 : lnC B n 2 k ≤ 6 := hl 2 (by decide)
      have l3 : lnC B n 3 k ≤ 4 := hl 3 (by decide)
      have l4 : lnC B n 4 k ≤ 20 := hl 4 (by decide)
      have l5 : lnC B n 5 k ≤ 1 := hl 5 (by decide)
      have l6 : lnC B n 6 k ≤ 1 := hl 6 (by decide)
      refine ⟨hR1.up hs (fun s' m t hm' ht => ?_) (r1 hlm) (fun s' h56 hne hc => ?_), fun i hi hsi => ?_⟩
      · unfold XM
        by_cases x0 : s' = 0
        · subst x0
          rw [if_pos rfl, if_pos rfl]
          have ht : t < 4 := ht
          exact r2 _ (by omega) (by omega)
        by_cases x1 : s' = 1
        · subst x1
          rw [if_neg (show ¬ 1 = 0 by decide), if_neg (show ¬ 1 = 0 by decide), if_pos rfl, if_pos rfl]
          have ht : t < 2 := ht
          exact r2 _ (by omega) (by omega)
        by_cases x2 : s' = 2
        · subst x2
          rw [if_neg (show ¬ 2 = 0 by decide), if_neg (show ¬ 2 = 0 by decide), if_neg (show ¬ 2 = 1 by decide), if_neg (show ¬ 2 = 1 by decide), if_pos rfl, if_pos rfl]
          have ht : t < 2 := ht
          exact r2 _ (by omega) (by omega)
        by_cases x3 : s' = 3
        · subst x3
          rw [if_neg (show ¬ 3 = 0 by decide), if_neg (show ¬ 3 = 0 by decide), if_neg (show ¬ 3 = 1 by decide), if_neg (show ¬ 3 = 1 by decide), if_neg (show ¬ 3 = 2 by decide), if_neg (show ¬ 3 = 2 by decide), if_pos rfl, if_pos rfl]
          have ht : t < 3 := ht
          exact r2 _ (by omega) (by omega)
        by_cases x4 : s' = 4
        · subst x4
          rw [if_neg (show ¬ 4 = 0 by decide), if_neg (show ¬ 4 = 0 by decide), if_neg (show ¬ 4 = 1 by decide), if_neg (show ¬ 4 = 1 by decide), if_neg (show ¬ 4 = 2 by decide), if_neg (show ¬ 4 = 2 by decide), if_neg (show ¬ 4 = 3 by decide), if_neg (show ¬ 4 = 3 by decide), if_pos rfl, if_pos rfl]
          have ht : t < 2 := ht
          exact r2 _ (by omega) (by omega)
        by_cases x5 : s' = 5
        · subst x5
          rw [if_neg (show ¬ 5 = 0 by decide), if_neg (show ¬ 5 = 0 by decide), if_neg (show ¬ 5 = 1 by decide), if_neg (show ¬ 5 = 1 by decide), if_neg (show ¬ 5 = 2 by decide), if_neg (show ¬ 5 = 2 by decide), if_neg (show ¬ 5 = 3 by decide), if_neg (show ¬ 5 = 3 by decide), if_neg (show ¬ 5 = 4 by decide), if_neg (show ¬ 5 = 4 by decide), if_pos rfl, if_pos rfl]
          have ht : t < 2 := ht
          exact r2 _ (by omega) (by omega)
        by_cases x6 : s' = 6
        · subst x6
          rw [if_neg (show ¬ 6 = 0 by decide), if_neg (show ¬ 6 = 0 by decide), if_neg (show ¬ 6 = 1 by decide), if_neg (show ¬ 6 = 1 by decide), if_neg (show ¬ 6 = 2 by decide), if_neg (show ¬ 6 = 2 by decide), if_neg (show ¬ 6 = 3 by decide), if_neg (show ¬ 6 = 3 by decide), if_neg (show ¬ 6 = 4 by decide), if_neg (show ¬ 6 = 4 by decide), if_neg (show ¬ 6 = 5 by decide), if_neg (show ¬ 6 = 5 by decide), if_pos rfl, if_pos rfl]
          have ht : t < 2 := ht
          exact r2 _ (by omega) (by omega)
        · rw [if_neg x0, if_neg x0, if_neg x1, if_neg x1, if_neg x2, if_neg x2, if_neg x3, if_neg x3, if_neg x4, if_neg x4, if_neg x5, if_neg x5, if_neg x6, if_neg x6]
      · unfold XM
        rcases h56 with rfl | rfl
        · rw [if_neg (show ¬ 5 = 0 by decide), if_neg (show ¬ 5 = 1 by decide), if_neg (show ¬ 5 = 2 by decide), if_neg (show ¬ 5 = 3 by decide), if_neg (show ¬ 5 = 4 by decide), if_pos rfl, if_neg (show ¬ 5 = 0 by decide), if_neg (show ¬ 5 = 1 by decide), if_neg (show ¬ 5 = 2 by decide), if_neg (show ¬ 5 = 3 by decide), if_neg (show ¬ 5 = 4 by decide), if_pos rfl, if_neg (show ¬ 5 = 0 by decide), if_neg (show ¬ 5 = 1 by decide), if_neg (show ¬ 5 = 2 by decide), if_neg (show ¬ 5 = 3 by decide), if_neg (show ¬ 5 = 4 by decide), if_pos rfl, if_neg (show ¬ 5 = 0 by decide), if_neg (show ¬ 5 = 1 by decide), if_neg (show ¬ 5 = 2 by decide), if_neg (show ¬ 5 = 3 by decide), if_neg (show ¬ 5 = 4 by decide), if_pos rfl]
          exact ⟨r2 _ (by omega) (by decide), r2 _ (by omega) (by decide)⟩
        · rw [if_neg (show ¬ 6 = 0 by decide), if_neg (show ¬ 6 = 1 by decide), if_neg (show ¬ 6 = 2 by decide), if_neg (show ¬ 6 = 3 by decide), if_neg (show ¬ 6 = 4 by decide), if_neg (show ¬ 6 = 5 by decide), if_pos rfl, if_neg (show ¬ 6 = 0 by decide), if_neg (show ¬ 6 = 1 by decide), if_neg (show ¬ 6 = 2 by decide), if_neg (show ¬ 6 = 3 by decide), if_neg (show ¬ 6 = 4 by decide), if_neg (show ¬ 6 = 5 by decide), if_pos rfl, if_neg (show ¬ 6 = 0 by decide), if_neg (show ¬ 6 = 1 by decide), if_neg (show ¬ 6 = 2 by decide), if_neg (show ¬ 6 = 3 by decide), if_neg (show ¬ 6 = 4 by decide), if_neg (show ¬ 6 = 5 by decide), if_pos rfl, if_neg (show ¬ 6 = 0 by decide), if_neg (show ¬ 6 = 1 by decide), if_neg (show ¬ 6 = 2 by decide), if_neg (show ¬ 6 = 3 by decide), if_neg (show ¬ 6 = 4 by decide), if_neg (show ¬ 6 = 5 by decide), if_pos rfl]
          exact ⟨r2 _ (by omega) (by decide), r2 _ (by omega) (by decide)⟩
      · by_cases e : i = k
        · subst e
          rw [hs] at hsi
          exact absurd hsi (by decide)
        · have q := lnC_lt (B := B) (n := n) (show i < k by omega) hsi
          rw [a1 _ (by omega)]
          exact hR2 i (by omega) hsi
    · rw [flA_n f0] at h0
      exact absurd h0 f0
theorem MSTok1 (hS : MST B n w k) (hs : slt B n (lnP B n k) = 1) (h10 : fld w' 82 10 = 0) (h14 : fld w' 82 14 = k + 1) (hF : FP w' (mfl B n k 1 (flA B n k))) (hO : ORD B n k 1 (tq B n (lnP B n (k + 1)))) (m1 : rwv w' 85 1 = lnC B n 1 k + 1) (m2 : ∀ s, s < 7 → s ≠ 1 → rwv w' 85 s = rwv w 85 s) (r1 : lnC B n 1 k < 4 → ∀ t, t < 2 → XM w' 1 (lnC B n 1 k) t = vln B n (lnP B n k) t) (r2 : ∀ j, (j < 50 + 2 * lnC B n 1 k ∨ 50 + 2 * (lnC B n 1 k + 1) ≤ j) → j < 140 → rwv w' 86 j = rwv w 86 j) (a1 : ∀ j, j < 20 → rwv w' 87 j = rwv w 87 j) : MST B n w' (k + 1) := by
  obtain ⟨⟨z10, z14, zF, zp⟩, hm, hR⟩ := hS
  obtain ⟨o1, o2, o3, o4, o5⟩ := hO
  obtain ⟨e1, e2⟩ := mfl_A hs zp o1 o2 o3
  refine ⟨⟨h10, h14, hF.cg e1 e2, flA_pl zp o1 o2 (by rw [hs]; exact o3) o4 (by rw [hs]; exact o5)⟩, fun s h7 => ?_, fun h0 => ?_⟩
  · by_cases e : s = 1
    · subst e
      rw [lnC_y hs]
      exact m1
    · rw [lnC_n (fun z => e (z.symm.trans hs)), m2 s h7 e]
      exact hm s h7
  · by_cases f0 : (flA B n k).1 = 0
    · obtain ⟨hR1, hR2⟩ := hR f0
      have hf : (flt B n k).1 = 0 := by rw [← flA_y f0]; exact h0
      have hlm : lnC B n 1 k < 4 := Nat.lt_of_not_le (flt_v hs hf).1
      have hl : ∀ s, 1 ≤ lim s → lnC B n s k ≤ lim s := fun s h => lnC_lim f0 h
      have l0 : lnC B n 0 k ≤ 6 := hl 0 (by decide)
      have l1 : lnC B n 1 k ≤ 4 := hl 1 (by decide)
      have l2 : lnC B n 2 k ≤ 6 := hl 2 (by decide)
      have l3 : lnC B n 3 k ≤ 4 := hl 3 (by decide)
      have l4 : lnC B n 4 k ≤ 20 := hl 4 (by decide)
      have l5 : lnC B n 5 k ≤ 1 := hl 5 (by decide)
      have l6 : lnC B n 6 k ≤ 1 := hl 6 (by decide)
      refine ⟨hR1.up hs (fun s' m t hm' ht => ?_) (r1 hlm) (fun s' h56 hne hc => ?_), fun i hi hsi => ?_⟩
      · unfold XM
        by_cases x0 : s' = 0
        · subst x0
          rw [if_pos rfl, if_pos rfl]
          have ht : t < 4 := ht
          exact r2 _ (by omega) (by omega)
        by_cases x1 : s' = 1
        · subst x1
          rw [if_neg (show ¬ 1 = 0 by decide), if_neg (show ¬ 1 = 0 by decide), if_pos rfl, if_pos rfl]
          have ht : t < 2 := ht
          exact r2 _ (by omega) (by omega)
        by_cases x2 : s' = 2
        · subst x2
          rw [if_neg (show ¬ 2 = 0 by decide), if_neg (show ¬ 2 = 0 by decide), if_neg (show ¬ 2 = 1 by decide), if_neg (show ¬ 2 = 1 by decide), if_pos rfl, if_pos rfl]
          have ht : t < 2 := ht
          exact r2 _ (by omega) (by omega)
        by_cases x3 : s' = 3
        · subst x3
          rw [if_neg (show ¬ 3 = 0 by decide), if_neg (show ¬ 3 = 0 by decide), if_neg (show ¬ 3 = 1 by decide), if_neg (show ¬ 3 = 1 by decide), if_neg (show ¬ 3 = 2 by decide), if_neg (show ¬ 3 = 2 by decide), if_pos rfl, if_pos rfl]
          have ht : t < 3 := ht
          exact r2 _ (by omega) (by omega)
        by_cases x4 : s' = 4
        · subst x4
          rw [if_neg (show ¬ 4 = 0 by decide), if_neg (show ¬ 4 = 0 by decide), if_neg (show ¬ 4 = 1 by decide), if_neg (show ¬ 4 = 1 by decide), if_neg (show ¬ 4 = 2 by decide), if_neg (show ¬ 4 = 2 by decide), if_neg (show ¬ 4 = 3 by decide), if_neg (show ¬ 4 = 3 by decide), if_pos rfl, if_pos rfl]
          have ht : t < 2 := ht
          exact r2 _ (by omega) (by omega)
        by_cases x5 : s' = 5
        · subst x5
          rw [if_neg (show ¬ 5 = 0 by decide), if_neg (show ¬ 5 = 0 by decide), if_neg (show ¬ 5 = 1 by decide), if_neg (show ¬ 5 = 1 by decide), if_neg (show ¬ 5 = 2 by decide), if_neg (show ¬ 5 = 2 by decide), if_neg (show ¬ 5 = 3 by decide), if_neg (show ¬ 5 = 3 by decide), if_neg (show ¬ 5 = 4 by decide), if_neg (show ¬ 5 = 4 by decide), if_pos rfl, if_pos rfl]
          have ht : t < 2 := ht
          exact r2 _ (by omega) (by omega)
        by_cases x6 : s' = 6
        · subst x6
          rw [if_neg (show ¬ 6 = 0 by decide), if_neg (show ¬ 6 = 0 by decide), if_neg (show ¬ 6 = 1 by decide), if_neg (show ¬ 6 = 1 by decide), if_neg (show ¬ 6 = 2 by decide), if_neg (show ¬ 6 = 2 by decide), if_neg (show ¬ 6 = 3 by decide), if_neg (show ¬ 6 = 3 by decide), if_neg (show ¬ 6 = 4 by decide), if_neg (show ¬ 6 = 4 by decide), if_neg (show ¬ 6 = 5 by decide), if_neg (show ¬ 6 = 5 by decide), if_pos rfl, if_pos rfl]
          have ht : t < 2 := ht
          exact r2 _ (by omega) (by omega)
        · rw [if_neg x0, if_neg x0, if_neg x1, if_neg x1, if_neg x2, if_neg x2, if_neg x3, if_neg x3, if_neg x4, if_neg x4, if_neg x5, if_neg x5, if_neg x6, if_neg x6]
      · unfold XM
        rcases h56 with rfl | rfl
        · rw [if_neg (show ¬ 5 = 0 by decide), if_neg (show ¬ 5 = 1 by decide), if_neg (show ¬ 5 = 2 by decide), if_neg (show ¬ 5 = 3 by decide), if_neg (show ¬ 5 = 4 by decide), if_pos rfl, if_neg (show ¬ 5 = 0 by decide), if_neg (show ¬ 5 = 1 by decide), if_neg (show ¬ 5 = 2 by decide), if_neg (show ¬ 5 = 3 by decide), if_neg (show ¬ 5 = 4 by decide), if_pos rfl, if_neg (show ¬ 5 = 0 by decide), if_neg (show ¬ 5 = 1 by decide), if_neg (show ¬ 5 = 2 by decide), if_neg (show ¬ 5 = 3 by decide), if_neg (show ¬ 5 = 4 by decide), if_pos rfl, if_neg (show ¬ 5 = 0 by decide), if_neg (show ¬ 5 = 1 by decide), if_neg (show ¬ 5 = 2 by decide), if_neg (show ¬ 5 = 3 by decide), if_neg (show ¬ 5 = 4 by decide), if_pos rfl]
          exact ⟨r2 _ (by omega) (by decide), r2 _ (by omega) (by decide)⟩
        · rw [if_neg (show ¬ 6 = 0 by decide), if_neg (show ¬ 6 = 1 by decide), if_neg (show ¬ 6 = 2 by decide), if_neg (show ¬ 6 = 3 by decide), if_neg (show ¬ 6 = 4 by decide), if_neg (show ¬ 6 = 5 by decide), if_pos rfl, if_neg (show ¬ 6 = 0 by decide), if_neg (show ¬ 6 = 1 by decide), if_neg (show ¬ 6 = 2 by decide), if_neg (show ¬ 6 = 3 by decide), if_neg (show ¬ 6 = 4 by decide), if_neg (show ¬ 6 = 5 by decide), if_pos rfl, if_neg (show ¬ 6 = 0 by decide), if_neg (show ¬ 6 = 1 by decide), if_neg (show ¬ 6 = 2 by decide), if_neg (show ¬ 6 = 3 by decide), if_neg (show ¬ 6 = 4 by decide), if_neg (show ¬ 6 = 5 by decide), if_pos rfl, if_neg (show ¬ 6 = 0 by decide), if_neg (show ¬ 6 = 1 by decide), if_neg (show ¬ 6 = 2 by decide), if_neg (show ¬ 6 = 3 by decide), if_neg (show ¬ 6 = 4 by decide), if_neg (show ¬ 6 = 5 by decide), if_pos rfl]
          exact ⟨r2 _ (by omega) (by decide), r2 _ (by omega) (by decide)⟩
      · by_cases e : i = k
        · subst e
          rw [hs] at hsi
          exact absurd hsi (by decide)
        · have q := lnC_lt (B := B) (n := n) (show i < k by omega) hsi
          rw [a1 _ (by omega)]
          exact hR2 i (by omega) hsi
    · rw [flA_n f0] at h0
      exact absurd h0 f0
theorem MSTok2 (hS : MST B n w k) (hs : slt B n (lnP B n k) = 2) (h10 : fld w' 82 10 = 0) (h14 : fld w' 82 14 = k + 1) (hF : FP w' (mfl B n k 2 (flA B n k))) (hO : ORD B n k 2 (tq B n (lnP B n (k + 1)))) (m1 : rwv w' 85 2 = lnC B n 2 k + 1) (m2 : ∀ s, s < 7 → s ≠ 2 → rwv w' 85 s = rwv w 85 s) (r1 : lnC B n 2 k < 6 → ∀ t, t < 2 → XM w' 2 (lnC B n 2 k) t = vln B n (lnP B n k) t) (r2 : ∀ j, (j < 60 + 2 * lnC B n 2 k ∨ 60 + 2 * (lnC B n 2 k + 1) ≤ j) → j < 140 → rwv w' 86 j = rwv w 86 j) (a1 : ∀ j, j < 20 → rwv w' 87 j = rwv w 87 j) : MST B n w' (k + 1) := by
  obtain ⟨⟨z10, z14, zF, zp⟩, hm, hR⟩ := hS
  obtain ⟨o1, o2, o3, o4, o5⟩ := hO
  obtain ⟨e1, e2⟩ := mfl_A hs zp o1 o2 o3
  refine ⟨⟨h10, h14, hF.cg e1 e2, flA_pl zp o1 o2 (by rw [hs]; exact o3) o4 (by rw [hs]; exact o5)⟩, fun s h7 => ?_, fun h0 => ?_⟩
  · by_cases e : s = 2
    · subst e
      rw [lnC_y hs]
      exact m1
    · rw [lnC_n (fun z => e (z.symm.trans hs)), m2 s h7 e]
      exact hm s h7
  · by_cases f0 : (flA B n k).1 = 0
    · obtain ⟨hR1, hR2⟩ := hR f0
      have hf : (flt B n k).1 = 0 := by rw [← flA_y f0]; exact h0
      have hlm : lnC B n 2 k < 6 := Nat.lt_of_not_le (flt_v hs hf).1
      have hl : ∀ s, 1 ≤ lim s → lnC B n s k ≤ lim s := fun s h => lnC_lim f0 h
      have l0 : lnC B n 0 k ≤ 6 := hl 0 (by decide)
      have l1 : lnC B n 1 k ≤ 4 := hl 1 (by decide)
      have l2 : lnC B n 2 k ≤ 6 := hl 2 (by decide)
      have l3 : lnC B n 3 k ≤ 4 := hl 3 (by decide)
      have l4 : lnC B n 4 k ≤ 20 := hl 4 (by decide)
      have l5 : lnC B n 5 k ≤ 1 := hl 5 (by decide)
      have l6 : lnC B n 6 k ≤ 1 := hl 6 (by decide)
      refine ⟨hR1.up hs (fun s' m t hm' ht => ?_) (r1 hlm) (fun s' h56 hne hc => ?_), fun i hi hsi => ?_⟩
      · unfold XM
        by_cases x0 : s' = 0
        · subst x0
          rw [if_pos rfl, if_pos rfl]
          have ht : t < 4 := ht
          exact r2 _ (by omega) (by omega)
        by_cases x1 : s' = 1
        · subst x1
          rw [if_neg (show ¬ 1 = 0 by decide), if_neg (show ¬ 1 = 0 by decide), if_pos rfl, if_pos rfl]
          have ht : t < 2 := ht
          exact r2 _ (by omega) (by omega)
        by_cases x2 : s' = 2
        · subst x2
          rw [if_neg (show ¬ 2 = 0 by decide), if_neg (show ¬ 2 = 0 by decide), if_neg (show ¬ 2 = 1 by decide), if_neg (show ¬ 2 = 1 by decide), if_pos rfl, if_pos rfl]
          have ht : t < 2 := ht
          exact r2 _ (by omega) (by omega)
        by_cases x3 : s' = 3
        · subst x3
          rw [if_neg (show ¬ 3 = 0 by decide), if_neg (show ¬ 3 = 0 by decide), if_neg (show ¬ 3 = 1 by decide), if_neg (show ¬ 3 = 1 by decide), if_neg (show ¬ 3 = 2 by decide), if_neg (show ¬ 3 = 2 by decide), if_pos rfl, if_pos rfl]
          have ht : t < 3 := ht
          exact r2 _ (by omega) (by omega)
        by_cases x4 : s' = 4
        · subst x4
          rw [if_neg (show ¬ 4 = 0 by decide), if_neg (show ¬ 4 = 0 by decide), if_neg (show ¬ 4 = 1 by decide), if_neg (show ¬ 4 = 1 by decide), if_neg (show ¬ 4 = 2 by decide), if_neg (show ¬ 4 = 2 by decide), if_neg (show ¬ 4 = 3 by decide), if_neg (show ¬ 4 = 3 by decide), if_pos rfl, if_pos rfl]
          have ht : t < 2 := ht
          exact r2 _ (by omega) (by omega)
        by_cases x5 : s' = 5
        · subst x5
          rw [if_neg (show ¬ 5 = 0 by decide), if_neg (show ¬ 5 = 0 by decide), if_neg (show ¬ 5 = 1 by decide), if_neg (show ¬ 5 = 1 by decide), if_neg (show ¬ 5 = 2 by decide), if_neg (show ¬ 5 = 2 by decide), if_neg (show ¬ 5 = 3 by decide), if_neg (show ¬ 5 = 3 by decide), if_neg (show ¬ 5 = 4 by decide), if_neg (show ¬ 5 = 4 by decide), if_pos rfl, if_pos rfl]
          have ht : t < 2 := ht
          exact r2 _ (by omega) (by omega)
        by_cases x6 : s' = 6
        · subst x6
          rw [if_neg (show ¬ 6 = 0 by decide), if_neg (show ¬ 6 = 0 by decide), if_neg (show ¬ 6 = 1 by decide), if_neg (show ¬ 6 = 1 by decide), if_neg (show ¬ 6 = 2 by decide), if_neg (show ¬ 6 = 2 by decide), if_neg (show ¬ 6 = 3 by decide), if_neg (show ¬ 6 = 3 by decide), if_neg (show ¬ 6 = 4 by decide), if_neg (show ¬ 6 = 4 by decide), if_neg (show ¬ 6 = 5 by decide), if_neg (show ¬ 6 = 5 by decide), if_pos rfl, if_pos rfl]
          have ht : t < 2 := ht
          exact r2 _ (by omega) (by omega)
        · rw [if_neg x0, if_neg x0, if_neg x1, if_neg x1, if_neg x2, if_neg x2, if_neg x3, if_neg x3, if_neg x4, if_neg x4, if_neg x5, if_neg x5, if_neg x6, if_neg x6]
      · unfold XM
        rcases h56 with rfl | rfl
        · rw [if_neg (show ¬ 5 = 0 by decide), if_neg (show ¬ 5 = 1 by decide), if_neg (show ¬ 5 = 2 by decide), if_neg (show ¬ 5 = 3 by decide), if_neg (show ¬ 5 = 4 by decide), if_pos rfl, if_neg (show ¬ 5 = 0 by decide), if_neg (show ¬ 5 = 1 by decide), if_neg (show ¬ 5 = 2 by decide), if_neg (show ¬ 5 = 3 by decide), if_neg (show ¬ 5 = 4 by decide), if_pos rfl, if_neg (show ¬ 5 = 0 by decide), if_neg (show ¬ 5 = 1 by decide), if_neg (show ¬ 5 = 2 by decide), if_neg (show ¬ 5 = 3 by decide), if_neg (show ¬ 5 = 4 by decide), if_pos rfl, if_neg (show ¬ 5 = 0 by decide), if_neg (show ¬ 5 = 1 by decide), if_neg (show ¬ 5 = 2 by decide), if_neg (show ¬ 5 = 3 by decide), if_neg (show ¬ 5 = 4 by decide), if_pos rfl]
          exact ⟨r2 _ (by omega) (by decide), r2 _ (by omega) (by decide)⟩
        · rw [if_neg (show ¬ 6 = 0 by decide), if_neg (show ¬ 6 = 1 by decide), if_neg (show ¬ 6 = 2 by decide), if_neg (show ¬ 6 = 3 by decide), if_neg (show ¬ 6 = 4 by decide), if_neg (show ¬ 6 = 5 by decide), if_pos rfl, if_neg (show ¬ 6 = 0 by decide), if_neg (show ¬ 6 = 1 by decide), if_neg (show ¬ 6 = 2 by decide), if_neg (show ¬ 6 = 3 by decide), if_neg (show ¬ 6 = 4 by decide), if_neg (show ¬ 6 = 5 by decide), if_pos rfl, if_neg (show ¬ 6 = 0 by decide), if_neg (show ¬ 6 = 1 by decide), if_neg (show ¬ 6 = 2 by decide), if_neg (show ¬ 6 = 3 by decide), if_neg (show ¬ 6 = 4 by decide), if_neg (show ¬ 6 = 5 by decide), if_pos rfl, if_neg (show ¬ 6 = 0 by decide), if_neg (show ¬ 6 = 1 by decide), if_neg (show ¬ 6 = 2 by decide), if_neg (show ¬ 6 = 3 by decide), if_neg (show ¬ 6 = 4 by decide), if_neg (show ¬ 6 = 5 by decide), if_pos rfl]
          exact ⟨r2 _ (by omega) (by decide), r2 _ (by omega) (by decide)⟩
      · by_cases e : i = k
        · subst e
          rw [hs] at hsi
          exact absurd hsi (by decide)
        · have q := lnC_lt (B := B) (n := n) (show i < k by omega) hsi
          rw [a1 _ (by omega)]
          exact hR2 i (by omega) hsi
    · rw [flA_n f0] at h0
      exact absurd h0 f0
theorem MSTok3 (hS : MST B n w k) (hs : slt B n (lnP B n k) = 3) (h10 : fld w' 82 10 = 0) (h14 : fld w' 82 14 = k + 1) (hF : FP w' (mfl B n k 3 (flA B n k))) (hO : ORD B n k 3 (tq B n (lnP B n (k + 1)))) (m1 : rwv w' 85 3 = lnC B n 3 k + 1) (m2 : ∀ s, s < 7 → s ≠ 3 → rwv w' 85 s = rwv w 85 s) (r1 : lnC B n 3 k < 4 → ∀ t, t < 3 → XM w' 3 (lnC B n 3 k) t = vln B n (lnP B n k) t) (r2 : ∀ j, (j < 80 + 3 * lnC B n 3 k ∨ 80 + 3 * (lnC B n 3 k + 1) ≤ j) → j < 140 → rwv w' 86 j = rwv w 86 j) (a1 : ∀ j, j < 20 → rwv w' 87 j = rwv w 87 j) : MST B n w' (k + 1) := by
  obtain ⟨⟨z10, z14, zF, zp⟩, hm, hR⟩ := hS
  obtain ⟨o1, o2, o3, o4, o5⟩ := hO
  obtain ⟨e1, e2⟩ := mfl_A hs zp o1 o2 o3
  refine ⟨⟨h10, h14, hF.cg e1 e2, flA_pl zp o1 o2 (by rw [hs]; exact o3) o4 (by rw [hs]; exact o5)⟩, fun s h7 => ?_, fun h0 => ?_⟩
  · by_cases e : s = 3
    · subst e
      rw [lnC_y hs]
      exact m1
    · rw [lnC_n (fun z => e (z.symm.trans hs)), m2 s h7 e]
      exact hm s h7
  · by_cases f0 : (flA B n k).1 = 0
    · obtain ⟨hR1, hR2⟩ := hR f0
      have hf : (flt B n k).1 = 0 := by rw [← flA_y f0]; exact h0
      have hlm : lnC B n 3 k < 4 := Nat.lt_of_not_le (flt_v hs hf).1
      have hl : ∀ s, 1 ≤ lim s → lnC B n s k ≤ lim s := fun s h => lnC_lim f0 h
      have l0 : lnC B n 0 k ≤ 6 := hl 0 (by decide)
      have l1 : lnC B n 1 k ≤ 4 := hl 1 (by decide)
      have l2 : lnC B n 2 k ≤ 6 := hl 2 (by decide)
      have l3 : lnC B n 3 k ≤ 4 := hl 3 (by decide)
      have l4 : lnC B n 4 k ≤ 20 := hl 4 (by decide)
      have l5 : lnC B n 5 k ≤ 1 := hl 5 (by decide)
      have l6 : lnC B n 6 k ≤ 1 := hl 6 (by decide)
      refine ⟨hR1.up hs (fun s' m t hm' ht => ?_) (r1 hlm) (fun s' h56 hne hc => ?_), fun i hi hsi => ?_⟩
      · unfold XM
        by_cases x0 : s' = 0
        · subst x0
          rw [if_pos rfl, if_pos rfl]
          have ht : t < 4 := ht
          exact r2 _ (by omega) (by omega)
        by_cases x1 : s' = 1
        · subst x1
          rw [if_neg (show ¬ 1 = 0 by decide), if_neg (show ¬ 1 = 0 by decide), if_pos rfl, if_pos rfl]
          have ht : t < 2 := ht
          exact r2 _ (by omega) (by omega)
        by_cases x2 : s' = 2
        · subst x2
          rw [if_neg (show ¬ 2 = 0 by decide), if_neg (show ¬ 2 = 0 by decide), if_neg (show ¬ 2 = 1 by decide), if_neg (show ¬ 2 = 1 by decide), if_pos rfl, if_pos rfl]
          have ht : t < 2 := ht
          exact r2 _ (by omega) (by omega)
        by_cases x3 : s' = 3
        · subst x3
          rw [if_neg (show ¬ 3 = 0 by decide), if_neg (show ¬ 3 = 0 by decide), if_neg (show ¬ 3 = 1 by decide), if_neg (show ¬ 3 = 1 by decide), if_neg (show ¬ 3 = 2 by decide), if_neg (show ¬ 3 = 2 by decide), if_pos rfl, if_pos rfl]
          have ht : t < 3 := ht
          exact r2 _ (by omega) (by omega)
        by_cases x4 : s' = 4
        · subst x4
          rw [if_neg (show ¬ 4 = 0 by decide), if_neg (show ¬ 4 = 0 by decide), if_neg (show ¬ 4 = 1 by decide), if_neg (show ¬ 4 = 1 by decide), if_neg (show ¬ 4 = 2 by decide), if_neg (show ¬ 4 = 2 by decide), if_neg (show ¬ 4 = 3 by decide), if_neg (show ¬ 4 = 3 by decide), if_pos rfl, if_pos rfl]
          have ht : t < 2 := ht
          exact r2 _ (by omega) (by omega)
        by_cases x5 : s' = 5
        · subst x5
          rw [if_neg (show ¬ 5 = 0 by decide), if_neg (show ¬ 5 = 0 by decide), if_neg (show ¬ 5 = 1 by decide), if_neg (show ¬ 5 = 1 by decide), if_neg (show ¬ 5 = 2 by decide), if_neg (show ¬ 5 = 2 by decide), if_neg (show ¬ 5 = 3 by decide), if_neg (show ¬ 5 = 3 by decide), if_neg (show ¬ 5 = 4 by decide), if_neg (show ¬ 5 = 4 by decide), if_pos rfl, if_pos rfl]
          have ht : t < 2 := ht
          exact r2 _ (by omega) (by omega)
        by_cases x6 : s' = 6
        · subst x6
          rw [if_neg (show ¬ 6 = 0 by decide), if_neg (show ¬ 6 = 0 by decide), if_neg (show ¬ 6 = 1 by decide), if_neg (show ¬ 6 = 1 by decide), if_neg (show ¬ 6 = 2 by decide), if_neg (show ¬ 6 = 2 by decide), if_neg (show ¬ 6 = 3 by decide), if_neg (show ¬ 6 = 3 by decide), if_neg (show ¬ 6 = 4 by decide), if_neg (show ¬ 6 = 4 by decide), if_neg (show ¬ 6 = 5 by decide), if_neg (show ¬ 6 = 5 by decide), if_pos rfl, if_pos rfl]
          have ht : t < 2 := ht
          exact r2 _ (by omega) (by omega)
        · rw [if_neg x0, if_neg x0, if_neg x1, if_neg x1, if_neg x2, if_neg x2, if_neg x3, if_neg x3, if_neg x4, if_neg x4, if_neg x5, if_neg x5, if_neg x6, if_neg x6]
      · unfold XM
        rcases h56 with rfl | rfl
        · rw [if_neg (show ¬ 5 = 0 by decide), if_neg (show ¬ 5 = 1 by decide), if_neg (show ¬ 5 = 2 by decide), if_neg (show ¬ 5 = 3 by decide), if_neg (show ¬ 5 = 4 by decide), if_pos rfl, if_neg (show ¬ 5 = 0 by decide), if_neg (show ¬ 5 = 1 by decide), if_neg (show ¬ 5 = 2 by decide), if_neg (show ¬ 5 = 3 by decide), if_neg (show ¬ 5 = 4 by decide), if_pos rfl, if_neg (show ¬ 5 = 0 by decide), if_neg (show ¬ 5 = 1 by decide), if_neg (show ¬ 5 = 2 by decide), if_neg (show ¬ 5 = 3 by decide), if_neg (show ¬ 5 = 4 by decide), if_pos rfl, if_neg (show ¬ 5 = 0 by decide), if_neg (show ¬ 5 = 1 by decide), if_neg (show ¬ 5 = 2 by decide), if_neg (show ¬ 5 = 3 by decide), if_neg (show ¬ 5 = 4 by decide), if_pos rfl]
          exact ⟨r2 _ (by omega) (by decide), r2 _ (by omega) (by decide)⟩
        · rw [if_neg (show ¬ 6 = 0 by decide), if_neg (show ¬ 6 = 1 by decide), if_neg (show ¬ 6 = 2 by decide), if_neg (show ¬ 6 = 3 by decide), if_neg (show ¬ 6 = 4 by decide), if_neg (show ¬ 6 = 5 by decide), if_pos rfl, if_neg (show ¬ 6 = 0 by decide), if_neg (show ¬ 6 = 1 by decide), if_neg (show ¬ 6 = 2 by decide), if_neg (show ¬ 6 = 3 by decide), if_neg (show ¬ 6 = 4 by decide), if_neg (show ¬ 6 = 5 by decide), if_pos rfl, if_neg (show ¬ 6 = 0 by decide), if_neg (show ¬ 6 = 1 by decide), if_neg (show ¬ 6 = 2 by decide), if_neg (show ¬ 6 = 3 by decide), if_neg (show ¬ 6 = 4 by decide), if_neg (show ¬ 6 = 5 by decide), if_pos rfl, if_neg (show ¬ 6 = 0 by decide), if_neg (show ¬ 6 = 1 by decide), if_neg (show ¬ 6 = 2 by decide), if_neg (show ¬ 6 = 3 by decide), if_neg (show ¬ 6 = 4 by decide), if_neg (show ¬ 6 = 5 by decide), if_pos rfl]
          exact ⟨r2 _ (by omega) (by decide), r2 _ (by omega) (by decide)⟩
      · by_cases e : i = k
        · subst e
          rw [hs] at hsi
          exact absurd hsi (by decide)
        · have q := lnC_lt (B := B) (n := n) (show i < k by omega) hsi
          rw [a1 _ (by omega)]
          exact hR2 i (by omega) hsi
    · rw [flA_n f0] at h0
      exact absurd h0 f0
theorem MSTok4 (hS : MST B n w k) (hs : slt B n (lnP B n k) = 4) (h10 : fld w' 82 10 = 0) (h14 : fld w' 82 14 = k + 1) (hF : FP w' (mfl B n k 4 (flA B n k))) (hO : ORD B n k 4 (tq B n (lnP B n (k + 1)))) (m1 : rwv w' 85 4 = lnC B n 4 k + 1) (m2 : ∀ s, s < 7 → s ≠ 4 → rwv w' 85 s = rwv w 85 s) (r1 : lnC B n 4 k < 20 → ∀ t, t < 2 → XM w' 4 (lnC B n 4 k) t = vln B n (lnP B n k) t) (r2 : ∀ j, (j < 100 + 2 * lnC B n 4 k ∨ 100 + 2 * (lnC B n 4 k + 1) ≤ j) → j < 140 → rwv w' 86 j = rwv w 86 j) (a1 : (lnC B n 4 k < 20 → rwv w' 87 (lnC B n 4 k) = tq B n (lnP B n k)) ∧ ∀ j, j ≠ lnC B n 4 k → j < 20 → rwv w' 87 j = rwv w 87 j) : MST B n w' (k + 1) := by
  obtain ⟨⟨z10, z14, zF, zp⟩, hm, hR⟩ := hS
  obtain ⟨o1, o2, o3, o4, o5⟩ := hO
  obtain ⟨e1, e2⟩ := mfl_A hs zp o1 o2 o3
  refine ⟨⟨h10, h14, hF.cg e1 e2, flA_pl zp o1 o2 (by rw [hs]; exact o3) o4 (by rw [hs]; exact o5)⟩, fun s h7 => ?_, fun h0 => ?_⟩
  · by_cases e : s = 4
    · subst e
      rw [lnC_y hs]
      exact m1
    · rw [lnC_n (fun z => e (z.symm.trans hs)), m2 s h7 e]
      exact hm s h7
  · by_cases f0 : (flA B n k).1 = 0
    · obtain ⟨hR1, hR2⟩ := hR f0
      have hf : (flt B n k).1 = 0 := by rw [← flA_y f0]; exact h0
      have hlm : lnC B n 4 k < 20 := Nat.lt_of_not_le (flt_v hs hf).1
      have hl : ∀ s, 1 ≤ lim s → lnC B n s k ≤ lim s := fun s h => lnC_lim f0 h
      have l0 : lnC B n 0 k ≤ 6 := hl 0 (by decide)
      have l1 : lnC B n 1 k ≤ 4 := hl 1 (by decide)
      have l2 : lnC B n 2 k ≤ 6 := hl 2 (by decide)
      have l3 : lnC B n 3 k ≤ 4 := hl 3 (by decide)
      have l4 : lnC B n 4 k ≤ 20 := hl 4 (by decide)
      have l5 : lnC B n 5 k ≤ 1 := hl 5 (by decide)
      have l6 : lnC B n 6 k ≤ 1 := hl 6 (by decide)
      refine ⟨hR1.up hs (fun s' m t hm' ht => ?_) (r1 hlm) (fun s' h56 hne hc => ?_), fun i hi hsi => ?_⟩
      · unfold XM
        by_cases x0 : s' = 0
        · subst x0
          rw [if_pos rfl, if_pos rfl]
          have ht : t < 4 := ht
          exact r2 _ (by omega) (by omega)
        by_cases x1 : s' = 1
        · subst x1
          rw [if_neg (show ¬ 1 = 0 by decide), if_neg (show ¬ 1 = 0 by decide), if_pos rfl, if_pos rfl]
          have ht : t < 2 := ht
          exact r2 _ (by omega) (by omega)
        by_cases x2 : s' = 2
        · subst x2
          rw [if_neg (show ¬ 2 = 0 by decide), if_neg (show ¬ 2 = 0 by decide), if_neg (show ¬ 2 = 1 by decide), if_neg (show ¬ 2 = 1 by decide), if_pos rfl, if_pos rfl]
          have ht : t < 2 := ht
          exact r2 _ (by omega) (by omega)
        by_cases x3 : s' = 3
        · subst x3
          rw [if_neg (show ¬ 3 = 0 by decide), if_neg (show ¬ 3 = 0 by decide), if_neg (show ¬ 3 = 1 by decide), if_neg (show ¬ 3 = 1 by decide), if_neg (show ¬ 3 = 2 by decide), if_neg (show ¬ 3 = 2 by decide), if_pos rfl, if_pos rfl]
          have ht : t < 3 := ht
          exact r2 _ (by omega) (by omega)
        by_cases x4 : s' = 4
        · subst x4
          rw [if_neg (show ¬ 4 = 0 by decide), if_neg (show ¬ 4 = 0 by decide), if_neg (show ¬ 4 = 1 by decide), if_neg (show ¬ 4 = 1 by decide), if_neg (show ¬ 4 = 2 by decide), if_neg (show ¬ 4 = 2 by decide), if_neg (show ¬ 4 = 3 by decide), if_neg (show ¬ 4 = 3 by decide), if_pos rfl, if_pos rfl]
          have ht : t < 2 := ht
          exact r2 _ (by omega) (by omega)
        by_cases x5 : s' = 5
        · subst x5
          rw [if_neg (show ¬ 5 = 0 by decide), if_neg (show ¬ 5 = 0 by decide), if_neg (show ¬ 5 = 1 by decide), if_neg (show ¬ 5 = 1 by decide), if_neg (show ¬ 5 = 2 by decide), if_neg (show ¬ 5 = 2 by decide), if_neg (show ¬ 5 = 3 by decide), if_neg (show ¬ 5 = 3 by decide), if_neg (show ¬ 5 = 4 by decide), if_neg (show ¬ 5 = 4 by decide), if_pos rfl, if_pos rfl]
          have ht : t < 2 := ht
          exact r2 _ (by omega) (by omega)
        by_cases x6 : s' = 6
        · subst x6
          rw [if_neg (show ¬ 6 = 0 by decide), if_neg (show ¬ 6 = 0 by decide), if_neg (show ¬ 6 = 1 by decide), if_neg (show ¬ 6 = 1 by decide), if_neg (show ¬ 6 = 2 by decide), if_neg (show ¬ 6 = 2 by decide), if_neg (show ¬ 6 = 3 by decide), if_neg (show ¬ 6 = 3 by decide), if_neg (show ¬ 6 = 4 by decide), if_neg (show ¬ 6 = 4 by decide), if_neg (show ¬ 6 = 5 by decide), if_neg (show ¬ 6 = 5 by decide), if_pos rfl, if_pos rfl]
          have ht : t < 2 := ht
          exact r2 _ (by omega) (by omega)
        · rw [if_neg x0, if_neg x0, if_neg x1, if_neg x1, if_neg x2, if_neg x2, if_neg x3, if_neg x3, if_neg x4, if_neg x4, if_neg x5, if_neg x5, if_neg x6, if_neg x6]
      · unfold XM
        rcases h56 with rfl | rfl
        · rw [if_neg (show ¬ 5 = 0 by decide), if_neg (show ¬ 5 = 1 by decide), if_neg (show ¬ 5 = 2 by decide), if_neg (show ¬ 5 = 3 by decide), if_neg (show ¬ 5 = 4 by decide), if_pos rfl, if_neg (show ¬ 5 = 0 by decide), if_neg (show ¬ 5 = 1 by decide), if_neg (show ¬ 5 = 2 by decide), if_neg (show ¬ 5 = 3 by decide), if_neg (show ¬ 5 = 4 by decide), if_pos rfl, if_neg (show ¬ 5 = 0 by decide), if_neg (show ¬ 5 = 1 by decide), if_neg (show ¬ 5 = 2 by decide), if_neg (show ¬ 5 = 3 by decide), if_neg (show ¬ 5 = 4 by decide), if_pos rfl, if_neg (show ¬ 5 = 0 by decide), if_neg (show ¬ 5 = 1 by decide), if_neg (show ¬ 5 = 2 by decide), if_neg (show ¬ 5 = 3 by decide), if_neg (show ¬ 5 = 4 by decide), if_pos rfl]
          exact ⟨r2 _ (by omega) (by decide), r2 _ (by omega) (by decide)⟩
        · rw [if_neg (show ¬ 6 = 0 by decide), if_neg (show ¬ 6 = 1 by decide), if_neg (show ¬ 6 = 2 by decide), if_neg (show ¬ 6 = 3 by decide), if_neg (show ¬ 6 = 4 by decide), if_neg (show ¬ 6 = 5 by decide), if_pos rfl, if_neg (show ¬ 6 = 0 by decide), if_neg (show ¬ 6 = 1 by decide), if_neg (show ¬ 6 = 2 by decide), if_neg (show ¬ 6 = 3 by decide), if_neg (show ¬ 6 = 4 by decide), if_neg (show ¬ 6 = 5 by decide), if_pos rfl, if_neg (show ¬ 6 = 0 by decide), if_neg (show ¬ 6 = 1 by decide), if_neg (show ¬ 6 = 2 by decide), if_neg (show ¬ 6 = 3 by decide), if_neg (show ¬ 6 = 4 by decide), if_neg (show ¬ 6 = 5 by decide), if_pos rfl, if_neg (show ¬ 6 = 0 by decide), if_neg (show ¬ 6 = 1 by decide), if_neg (show ¬ 6 = 2 by decide), if_neg (show ¬ 6 = 3 by decide), if_neg (show ¬ 6 = 4 by decide), if_neg (show ¬ 6 = 5 by decide), if_pos rfl]
          exact ⟨r2 _ (by omega) (by decide), r2 _ (by omega) (by decide)⟩
      · by_cases e : i = k
        · subst e
          exact a1.1 hlm
        · have q := lnC_lt (B := B) (n := n) (show i < k by omega) hsi
          rw [a1.2 _ (by omega) (by omega)]
          exact hR2 i (by omega) hsi
    · rw [flA_n f0] at h0
      exact absurd h0 f0
theorem MSTok5 (hS : MST B n w k) (hs : slt B n (lnP B n k) = 5) (h10 : fld w' 82 10 = 0) (h14 : fld w' 82 14 = k + 1) (hF : FP w' (mfl B n k 5 (flA B n k))) (hO : ORD B n k 5 (tq B n (lnP B n (k + 1)))) (m1 : rwv w' 85 5 = lnC B n 5 k + 1) (m2 : ∀ s, s < 7 → s ≠ 5 → rwv w' 85 s = rwv w 85 s) (r1 : lnC B n 5 k < 1 → ∀ t, t < 2 → XM w' 5 (lnC B n 5 k) t = vln B n (lnP B n k) t) (r2 : ∀ j, (j < 7 ∨ 9 ≤ j) → j < 140 → rwv w' 86 j = rwv w 86 j) (a1 : ∀ j, j < 20 → rwv w' 87 j = rwv w 87 j) : MST B n w' (k + 1) := by
  obtain ⟨⟨z10, z14, zF, zp⟩, hm, hR⟩ := hS
  obtain ⟨o1, o2, o3, o4, o5⟩ := hO
  obtain ⟨e1, e2⟩ := mfl_A hs zp o1 o2 o3
  refine ⟨⟨h10, h14, hF.cg e1 e2, flA_pl zp o1 o2 (by rw [hs]; exact o3) o4 (by rw [hs]; exact o5)⟩, fun s h7 => ?_, fun h0 => ?_⟩
  · by_cases e : s = 5
    · subst e
      rw [lnC_y hs]
      exact m1
    · rw [lnC_n (fun z => e (z.symm.trans hs)), m2 s h7 e]
      exact hm s h7
  · by_cases f0 : (flA B n k).1 = 0
    · obtain ⟨hR1, hR2⟩ := hR f0
      have hf : (flt B n k).1 = 0 := by rw [← flA_y f0]; exact h0
      have hlm : lnC B n 5 k < 1 := Nat.lt_of_not_le (flt_v hs hf).1
      have hl : ∀ s, 1 ≤ lim s → lnC B n s k ≤ lim s := fun s h => lnC_lim f0 h
      have l0 : lnC B n 0 k ≤ 6 := hl 0 (by decide)
      have l1 : lnC B n 1 k ≤ 4 := hl 1 (by decide)
      have l2 : lnC B n 2 k ≤ 6 := hl 2 (by decide)
      have l3 : lnC B n 3 k ≤ 4 := hl 3 (by decide)
      have l4 : lnC B n 4 k ≤ 20 := hl 4 (by decide)
      have l5 : lnC B n 5 k ≤ 1 := hl 5 (by decide)
      have l6 : lnC B n 6 k ≤ 1 := hl 6 (by decide)
      refine ⟨hR1.up hs (fun s' m t hm' ht => ?_) (r1 hlm) (fun s' h56 hne hc => ?_), fun i hi hsi => ?_⟩
      · unfold XM
        by_cases x0 : s' = 0
        · subst x0
          rw [if_pos rfl, if_pos rfl]
          have ht : t < 4 := ht
          exact r2 _ (by omega) (by omega)
        by_cases x1 : s' = 1
        · subst x1
          rw [if_neg (show ¬ 1 = 0 by decide), if_neg (show ¬ 1 = 0 by decide), if_pos rfl, if_pos rfl]
          have ht : t < 2 := ht
          exact r2 _ (by omega) (by omega)
        by_cases x2 : s' = 2
        · subst x2
          rw [if_neg (show ¬ 2 = 0 by decide), if_neg (show ¬ 2 = 0 by decide), if_neg (show ¬ 2 = 1 by decide), if_neg (show ¬ 2 = 1 by decide), if_pos rfl, if_pos rfl]
          have ht : t < 2 := ht
          exact r2 _ (by omega) (by omega)
        by_cases x3 : s' = 3
        · subst x3
          rw [if_neg (show ¬ 3 = 0 by decide), if_neg (show ¬ 3 = 0 by decide), if_neg (show ¬ 3 = 1 by decide), if_neg (show ¬ 3 = 1 by decide), if_neg (show ¬ 3 = 2 by decide), if_neg (show ¬ 3 = 2 by decide), if_pos rfl, if_pos rfl]
          have ht : t < 3 := ht
          exact r2 _ (by omega) (by omega)
        by_cases x4 : s' = 4
        · subst x4
          rw [if_neg (show ¬ 4 = 0 by decide), if_neg (show ¬ 4 = 0 by decide), if_neg (show ¬ 4 = 1 by decide), if_neg (show ¬ 4 = 1 by decide), if_neg (show ¬ 4 = 2 by decide), if_neg (show ¬ 4 = 2 by decide), if_neg (show ¬ 4 = 3 by decide), if_neg (show ¬ 4 = 3 by decide), if_pos rfl, if_pos rfl]
          have ht : t < 2 := ht
          exact r2 _ (by omega) (by omega)
        by_cases x5 : s' = 5
        · subst x5
          rw [if_neg (show ¬ 5 = 0 by decide), if_neg (show ¬ 5 = 0 by decide), if_neg (show ¬ 5 = 1 by decide), if_neg (show ¬ 5 = 1 by decide), if_neg (show ¬ 5 = 2 by decide), if_neg (show ¬ 5 = 2 by decide), if_neg (show ¬ 5 = 3 by decide), if_neg (show ¬ 5 = 3 by decide), if_neg (show ¬ 5 = 4 by decide), if_neg (show ¬ 5 = 4 by decide), if_pos rfl, if_pos rfl]
          have ht : t < 2 := ht
          exact r2 _ (by omega) (by omega)
        by_cases x6 : s' = 6
        · subst x6
          rw [if_neg (show ¬ 6 = 0 by decide), if_neg (show ¬ 6 = 0 by decide), if_neg (show ¬ 6 = 1 by decide), if_neg (show ¬ 6 = 1 by decide), if_neg (show ¬ 6 = 2 by decide), if_neg (show ¬ 6 = 2 by decide), if_neg (show ¬ 6 = 3 by decide), if_neg (show ¬ 6 = 3 by decide), if_neg (show ¬ 6 = 4 by decide), if_neg (show ¬ 6 = 4 by decide), if_neg (show ¬ 6 = 5 by decide), if_neg (show ¬ 6 = 5 by decide), if_pos rfl, if_pos rfl]
          have ht : t < 2 := ht
          exact r2 _ (by omega) (by omega)
        · rw [if_neg x0, if_neg x0, if_neg x1, if_neg x1, if_neg x2, if_neg x2, if_neg x3, if_neg x3, if_neg x4, if_neg x4, if_neg x5, if_neg x5, if_neg x6, if_neg x6]
      · unfold XM
        rcases h56 with rfl | rfl
        · exact absurd rfl hne
        · rw [if_neg (show ¬ 6 = 0 by decide), if_neg (show ¬ 6 = 1 by decide), if_neg (show ¬ 6 = 2 by decide), if_neg (show ¬ 6 = 3 by decide), if_neg (show ¬ 6 = 4 by decide), if_neg (show ¬ 6 = 5 by decide), if_pos rfl, if_neg (show ¬ 6 = 0 by decide), if_neg (show ¬ 6 = 1 by decide), if_neg (show ¬ 6 = 2 by decide), if_neg (show ¬ 6 = 3 by decide), if_neg (show ¬ 6 = 4 by decide), if_neg (show ¬ 6 = 5 by decide), if_pos rfl, if_neg (show ¬ 6 = 0 by decide), if_neg (show ¬ 6 = 1 by decide), if_neg (show ¬ 6 = 2 by decide), if_neg (show ¬ 6 = 3 by decide), if_neg (show ¬ 6 = 4 by decide), if_neg (show ¬ 6 = 5 by decide), if_pos rfl, if_neg (show ¬ 6 = 0 by decide), if_neg (show ¬ 6 = 1 by decide), if_neg (show ¬ 6 = 2 by decide), if_neg (show ¬ 6 = 3 by decide), if_neg (show ¬ 6 = 4 by decide), if_neg (show ¬ 6 = 5 by decide), if_pos rfl]
          exact ⟨r2 _ (by omega) (by decide), r2 _ (by omega) (by decide)⟩
      · by_cases e : i = k
        · subst e
          rw [hs] at hsi
          exact absurd hsi (by decide)
        · have q := lnC_lt (B := B) (n := n) (show i < k by omega) hsi
          rw [a1 _ (by omega)]
          exact hR2 i (by omega) hsi
    · rw [flA_n f0] at h0
      exact absurd h0 f0
theorem MSTok6 (hS : MST B n w k) (hs : slt B n (lnP B n k) = 6) (h10 : fld w' 82 10 = 0) (h14 : fld w' 82 14 = k + 1) (hF : FP w' (mfl B n k 6 (flA B n k))) (hO : ORD B n k 6 (tq B n (lnP B n (k + 1)))) (m1 : rwv w' 85 6 = lnC B n 6 k + 1) (m2 : ∀ s, s < 7 → s ≠ 6 → rwv w' 85 s = rwv w 85 s) (r1 : lnC B n 6 k < 1 → ∀ t, t < 2 → XM w' 6 (lnC B n 6 k) t = vln B n (lnP B n k) t) (r2 : ∀ j, (j < 5 ∨ 7 ≤ j) → j < 140 → rwv w' 86 j = rwv w 86 j) (a1 : ∀ j, j < 20 → rwv w' 87 j = rwv w 87 j) : MST B n w' (k + 1) := by
  obtain ⟨⟨z10, z14, zF, zp⟩, hm, hR⟩ := hS
  obtain ⟨o1, o2, o3, o4, o5⟩ := hO
  obtain ⟨e1, e2⟩ := mfl_A hs zp o1 o2 o3
  refine ⟨⟨h10, h14, hF.cg e1 e2, flA_pl zp o1 o2 (by rw [hs]; exact o3) o4 (by rw [hs]; exact o5)⟩, fun s h7 => ?_, fun h0 => ?_⟩
  · by_cases e : s = 6
    · subst e
      rw [lnC_y hs]
      exact m1
    · rw [lnC_n (fun z => e (z.symm.trans hs)), m2 s h7 e]
      exact hm s h7
  · by_cases f0 : (flA B n k).1 = 0
    · obtain ⟨hR1, hR2⟩ := hR f0
      have hf : (flt B n k).1 = 0 := by rw [← flA_y f0]; exact h0
      have hlm : lnC B n 6 k < 1 := Nat.lt_of_not_le (flt_v hs hf).1
      have hl : ∀ s, 1 ≤ lim s → lnC B n s k ≤ lim s := fun s h => lnC_lim f0 h
      have l0 : lnC B n 0 k ≤ 6 := hl 0 (by decide)
      have l1 : lnC B n 1 k ≤ 4 := hl 1 (by decide)
      have l2 : lnC B n 2 k ≤ 6 := hl 2 (by decide)
      have l3 : lnC B n 3 k ≤ 4 := hl 3 (by decide)
      have l4 : lnC B n 4 k ≤ 20 := hl 4 (by decide)
      have l5 : lnC B n 5 k ≤ 1 := hl 5 (by decide)
      have l6 : lnC B n 6 k ≤ 1 := hl 6 (by decide)
      refine ⟨hR1.up hs (fun s' m t hm' ht => ?_) (r1 hlm) (fun s' h56 hne hc => ?_), fun i hi hsi => ?_⟩
      · unfold XM
        by_cases x0 : s' = 0
        · subst x0
          rw [if_pos rfl, if_pos rfl]
          have ht : t < 4 := ht
          exact r2 _ (by omega) (by omega)
        by_cases x1 : s' = 1
        · subst x1
          rw [if_neg (show ¬ 1 = 0 by decide), if_neg (show ¬ 1 = 0 by decide), if_pos rfl, if_pos rfl]
          have ht : t < 2 := ht
          exact r2 _ (by omega) (by omega)
        by_cases x2 : s' = 2
        · subst x2
          rw [if_neg (show ¬ 2 = 0 by decide), if_neg (show ¬ 2 = 0 by decide), if_neg (show ¬ 2 = 1 by decide), if_neg (show ¬ 2 = 1 by decide), if_pos rfl, if_pos rfl]
          have ht : t < 2 := ht
          exact r2 _ (by omega) (by omega)
        by_cases x3 : s' = 3
        · subst x3
          rw [if_neg (show ¬ 3 = 0 by decide), if_neg (show ¬ 3 = 0 by decide), if_neg (show ¬ 3 = 1 by decide), if_neg (show ¬ 3 = 1 by decide), if_neg (show ¬ 3 = 2 by decide), if_neg (show ¬ 3 = 2 by decide), if_pos rfl, if_pos rfl]
          have ht : t < 3 := ht
          exact r2 _ (by omega) (by omega)
        by_cases x4 : s' = 4
        · subst x4
          rw [if_neg (show ¬ 4 = 0 by decide), if_neg (show ¬ 4 = 0 by decide), if_neg (show ¬ 4 = 1 by decide), if_neg (show ¬ 4 = 1 by decide), if_neg (show ¬ 4 = 2 by decide), if_neg (show ¬ 4 = 2 by decide), if_neg (show ¬ 4 = 3 by decide), if_neg (show ¬ 4 = 3 by decide), if_pos rfl, if_pos rfl]
          have ht : t < 2 := ht
          exact r2 _ (by omega) (by omega)
        by_cases x5 : s' = 5
        · subst x5
          rw [if_neg (show ¬ 5 = 0 by decide), if_neg (show ¬ 5 = 0 by decide), if_neg (show ¬ 5 = 1 by decide), if_neg (show ¬ 5 = 1 by decide), if_neg (show ¬ 5 = 2 by decide), if_neg (show ¬ 5 = 2 by decide), if_neg (show ¬ 5 = 3 by decide), if_neg (show ¬ 5 = 3 by decide), if_neg (show ¬ 5 = 4 by decide), if_neg (show ¬ 5 = 4 by decide), if_pos rfl, if_pos rfl]
          have ht : t < 2 := ht
          exact r2 _ (by omega) (by omega)
        by_cases x6 : s' = 6
        · subst x6
          rw [if_neg (show ¬ 6 = 0 by decide), if_neg (show ¬ 6 = 0 by decide), if_neg (show ¬ 6 = 1 by decide), if_neg (show ¬ 6 = 1 by decide), if_neg (show ¬ 6 = 2 by decide), if_neg (show ¬ 6 = 2 by decide), if_neg (show ¬ 6 = 3 by decide), if_neg (show ¬ 6 = 3 by decide), if_neg (show ¬ 6 = 4 by decide), if_neg (show ¬ 6 = 4 by decide), if_neg (show ¬ 6 = 5 by decide), if_neg (show ¬ 6 = 5 by decide), if_pos rfl, if_pos rfl]
          have ht : t < 2 := ht
          exact r2 _ (by omega) (by omega)
        · rw [if_neg x0, if_neg x0, if_neg x1, if_neg x1, if_neg x2, if_neg x2, if_neg x3, if_neg x3, if_neg x4, if_neg x4, if_neg x5, if_neg x5, if_neg x6, if_neg x6]
      · unfold XM
        rcases h56 with rfl | rfl
        · rw [if_neg (show ¬ 5 = 0 by decide), if_neg (show ¬ 5 = 1 by decide), if_neg (show ¬ 5 = 2 by decide), if_neg (show ¬ 5 = 3 by decide), if_neg (show ¬ 5 = 4 by decide), if_pos rfl, if_neg (show ¬ 5 = 0 by decide), if_neg (show ¬ 5 = 1 by decide), if_neg (show ¬ 5 = 2 by decide), if_neg (show ¬ 5 = 3 by decide), if_neg (show ¬ 5 = 4 by decide), if_pos rfl, if_neg (show ¬ 5 = 0 by decide), if_neg (show ¬ 5 = 1 by decide), if_neg (show ¬ 5 = 2 by decide), if_neg (show ¬ 5 = 3 by decide), if_neg (show ¬ 5 = 4 by decide), if_pos rfl, if_neg (show ¬ 5 = 0 by decide), if_neg (show ¬ 5 = 1 by decide), if_neg (show ¬ 5 = 2 by decide), if_neg (show ¬ 5 = 3 by decide), if_neg (show ¬ 5 = 4 by decide), if_pos rfl]
          exact ⟨r2 _ (by omega) (by decide), r2 _ (by omega) (by decide)⟩
        · exact absurd rfl hne
      · by_cases e : i = k
        · subst e
          rw [hs] at hsi
          exact absurd hsi (by decide)
        · have q := lnC_lt (B := B) (n := n) (show i < k by omega) hsi
          rw [a1 _ (by omega)]
          exact hR2 i (by omega) hsi
    · rw [flA_n f0] at h0
      exact absurd h0 f0
theorem mlf_iff {K v : Nat} (h : RCN B n k (XM w)) (hK : K = lnC B n 1 k) (h4 : K ≤ 4) : (∃ m, m < K ∧ m < 4 ∧ rwv w 86 (50 + 2 * m) = v) ↔ lfB B n v k = true := by
  subst hK
  refine ⟨fun z => ?_, fun z => ?_⟩
  · obtain ⟨m, h1, -, h2⟩ := z
    obtain ⟨i, i1, i2, i3⟩ := lnC_hit (B := B) (n := n) (s := 1) k h1
    have q := h.1 i i1 0 (by rw [i2]; decide)
    rw [i2, i3] at q
    have q : rwv w 86 (50 + 2 * m + 0) = vln B n (lnP B n i) 0 := q
    exact lfB_t i1 i2 (q.symm.trans h2)
  · by_cases e : ∃ m, m < lnC B n 1 k ∧ m < 4 ∧ rwv w 86 (50 + 2 * m) = v
    · exact e
    · exfalso
      have f := lfB_f (B := B) (n := n) (v := v) k (fun i hi hs hv => e ⟨lnC B n 1 i, lnC_lt hi hs, by have := lnC_lt (B := B) (n := n) hi hs; omega, by
        have q := h.1 i hi 0 (by rw [hs]; decide)
        rw [hs] at q
        have q : rwv w 86 (50 + 2 * lnC B n 1 i + 0) = vln B n (lnP B n i) 0 := q
        exact q.trans hv⟩)
      rw [f] at z
      exact Bool.false_ne_true z
end XFMC
section XFMD
variable {d : Nat} {w : List (List xE)} {bd : List (Nat × Nat)} {fc : List (Nat × Nat × Bool)} {rr : Nat × Nat}
set_option maxHeartbeats 60000000 in
theorem mALayX {fp : Nat × Nat} {B : Nat → Nat} {nn p : Nat} {kk : Nat} (hI : xMnv w) (hkk : kk ≤ 1001) (hB : bsm w B nn) (h10 : fld w 82 10 = 0) (hT : TKM 0 B nn w p) (hf : FP w fp) : xPq (d + 6) mX12_aLayer [(2, 82), (0, kk)] w bd fc rr [] (fun w' => xMnv w' ∧ xFr [82, 83, 86] w w' ∧ (((∃ q, lnN B nn 0 3 p = (false, q) ∧ WRG w' (tq B nn q)) ∨ (∃ p2 p3 p4 q, p2 = tf B nn p ∧ p3 = tf B nn p2 ∧ p4 = tf B nn p3 ∧ q = tf B nn p4 ∧ tkd B nn p = 2 ∧ tkd B nn p2 = 2 ∧ tkd B nn p3 = 2 ∧ tkd B nn p4 = 1 ∧ lnN B nn 0 3 p = lnS B nn q ∧ fld w' 82 10 = 0 ∧ TKM 0 B nn w' q ∧ FP w' (chk (chk (chk fp 1 99 (tnu B nn p) (tq B nn p)) 1 99 (tnu B nn p2) (tq B nn p2)) 1 99 (tnu B nn p3) (tq B nn p3)) ∧ (kk < 6 → rwv w' 86 (20 + 4 * kk + 0) = tnu B nn p ∧ rwv w' 86 (20 + 4 * kk + 1) = tnu B nn p2 ∧ rwv w' 86 (20 + 4 * kk + 2) = tnu B nn p3 ∧ rwv w' 86 (20 + 4 * kk + 3) = (if twk B nn p4 = 20325509 then 1 else 0)))) ∧ fld w' 82 14 = fld w 82 14 ∧ K83 w w' ∧ (∀ j, (j < 20 + 4 * kk ∨ 24 + 4 * kk ≤ j) → j < 140 → rwv w' 86 j = rwv w 86 j))) := by
  refine xPq.of ?_
  show xTo (d + 6) mX12_aLayer (0, [], [(0, (2, 82)), (1, (0, kk))], [], (w, bd, fc, 0, 0, rr)) (fun φ => ∃ w', xEnd 0 [] (w', bd, fc, 0, 0, rr) φ ∧ xMnv w' ∧ xFr [82, 83, 86] w w' ∧ (((∃ q, lnN B nn 0 3 p = (false, q) ∧ WRG w' (tq B nn q)) ∨ (∃ p2 p3 p4 q, p2 = tf B nn p ∧ p3 = tf B nn p2 ∧ p4 = tf B nn p3 ∧ q = tf B nn p4 ∧ tkd B nn p = 2 ∧ tkd B nn p2 = 2 ∧ tkd B nn p3 = 2 ∧ tkd B nn p4 = 1 ∧ lnN B nn 0 3 p = lnS B nn q ∧ fld w' 82 10 = 0 ∧ TKM 0 B nn w' q ∧ FP w' (chk (chk (chk fp 1 99 (tnu B nn p) (tq B nn p)) 1 99 (tnu B nn p2) (tq B nn p2)) 1 99 (tnu B nn p3) (tq B nn p3)) ∧ (kk < 6 → rwv w' 86 (20 + 4 * kk + 0) = tnu B nn p ∧ rwv w' 86 (20 + 4 * kk + 1) = tnu B nn p2 ∧ rwv w' 86 (20 + 4 * kk + 2) = tnu B nn p3 ∧ rwv w' 86 (20 + 4 * kk + 3) = (if twk B nn p4 = 20325509 then 1 else 0)))) ∧ fld w' 82 14 = fld w 82 14 ∧ K83 w w' ∧ (∀ j, (j < 20 + 4 * kk ∨ 24 + 4 * kk ≤ j) → j < 140 → rwv w' 86 j = rwv w 86 j)))
  refine xoCh82 (xqc82 hI : cp82 (wget w 82)) (fun f82_1 f82_3 f82_5 f82_7 f82_9 f82_11 f82_13 f82_15 f82_17 f82_19 f82_21 f82_22 f82_23 f82_25 f82_27 f82_29 h82_31 hb2 hb4 hb6 hb8 hb10 hb12 hb14 hb16 hb18 hb20 hb24 hb26 hb28 hb30 hb32 => ?_)
  refine xoI (xqc86 hI : cpI 140 53 4294967295 (wget w 86)) (fun g86_33 h86_34 hb35 => ?_)
  refine xg_t (xg_blq rfl) ?_
  refine xg_t (xg_const) ?_
  refine xg_t (xg_istore (l1 := [(0, (2, 82)), (1, (0, kk))]) rfl rfl rfl) ?_
  refine xg_t (xg_blq rfl) ?_
  refine xg_t (xg_iload (va := (0, 0)) rfl rfl) ?_
  refine xg_t (xg_const) ?_
  refine xg_t (xg_icF (u := 0) (v := 3) rfl xnm0 xnm0 (by decide)) ?_
  refine xg_t (xg_aload (va := (2, 82)) rfl rfl) ?_
  refine xg_t (xg_const) ?_
  refine xg_t (xg_iload (va := (0, kk)) rfl rfl) ?_
  refine xg_t (xg_bip) ?_
  refine xg_t (xg_const) ?_
  refine xg_t (xg_iload (va := (0, kk)) rfl rfl) ?_
  refine xg_t (xg_imul (u := 4) (v := kk) (z := 4 * kk) xnm0 xnm0 (by omega)) ?_
  refine xg_t (xg_iadd (u := 20) (v := 4 * kk) (z := 20 + (4 * kk)) xnm0 xnm0 (by omega)) ?_
  refine xg_t (xg_iload (va := (0, 0)) rfl rfl) ?_
  refine xg_t (xg_iadd (u := 20 + (4 * kk)) (v := 0) (z := (20 + (4 * kk)) + 0) xnm0 xnm0 (by omega)) ?_
  refine xg_t (xg_aload (va := (2, 82)) rfl rfl) ?_
  refine xg_t (xg_const) ?_
  refine xg_t (xg_bip) ?_
  have hk36 := (rfl : fld w 82 14 = fld w 82 14)
  refine xg_cVi mX12_numbered (vs := [(0, 1), (0, 99)]) (rest := [(0, (20 + (4 * kk)) + 0), (0, kk), (0, 0), (2, 82)]) (cn1 := 0) (sl1 := 0) rfl (mNumX (ir := 0) (hI) (by omega) (by omega) hB h10 hT hf) rfl h82_31 rfl rfl rfl rfl rfl rfl (fun n41 w37 hq38 => ?_)
  obtain ⟨hn42, hI39, hF40⟩ := hq38
  obtain ⟨hx45, h14_43, k8_44⟩ := hn42
  have k14_46 := h14_43.trans hk36
  rcases hx45 with ⟨rfl, hk47, hW48⟩ | ⟨hv49, h9_50, hk47, k10_51, hT_52, hF_53⟩
  · have lf54 : lnN B nn 0 3 p = (false, p) := (lnN_n (k := 2) hk47)
    refine xoCh82 (xqc82 hI39 : cp82 (wget w37 82)) (fun f82_55 f82_57 f82_59 f82_61 f82_63 f82_65 f82_67 f82_69 f82_71 f82_73 f82_75 f82_76 f82_77 f82_79 f82_81 f82_83 h82_85 hb56 hb58 hb60 hb62 hb64 hb66 hb68 hb70 hb72 hb74 hb78 hb80 hb82 hb84 hb86 => ?_)
    refine xg_cVv mX12_puts (vs := [(0, 0), (0, kk), (0, (20 + (4 * kk)) + 0), (0, 0)]) (rest := []) (cn1 := 0) (sl1 := 0) rfl (mPuts0 (hI39) (by omega) (by omega) (by omega) (fun _ => by omega)) rfl h82_85 rfl rfl rfl rfl rfl rfl (fun w87 hq88 => ?_)
    obtain ⟨hI89, hF90, hx91⟩ := hq88
    obtain ⟨hp92, hp93⟩ := hx91
    refine xg_t (xg_iinc (u := 0) (z := 1) (l1 := [(0, (2, 82)), (1, (0, kk))]) rfl rfl (by decide) rfl) ?_
    refine xg_t (xg_goto) ?_
    refine xg_t (xg_blq rfl) ?_
    refine xg_t (xg_iload (va := (0, 1)) rfl rfl) ?_
    refine xg_t (xg_const) ?_
    refine xg_t (xg_icF (u := 1) (v := 3) rfl xnm0 xnm0 (by decide)) ?_
    refine xg_t (xg_aload (va := (2, 82)) rfl rfl) ?_
    refine xg_t (xg_const) ?_
    refine xg_t (xg_iload (va := (0, kk)) rfl rfl) ?_
    refine xg_t (xg_bip) ?_
    refine xg_t (xg_const) ?_
    refine xg_t (xg_iload (va := (0, kk)) rfl rfl) ?_
    refine xg_t (xg_imul (u := 4) (v := kk) (z := 4 * kk) xnm0 xnm0 (by omega)) ?_
    refine xg_t (xg_iadd (u := 20) (v := 4 * kk) (z := 20 + (4 * kk)) xnm0 xnm0 (by omega)) ?_
    refine xg_t (xg_iload (va := (0, 1)) rfl rfl) ?_
    refine xg_t (xg_iadd (u := 20 + (4 * kk)) (v := 1) (z := (20 + (4 * kk)) + 1) xnm0 xnm0 (by omega)) ?_
    refine xg_t (xg_aload (va := (2, 82)) rfl rfl) ?_
    refine xg_t (xg_const) ?_
    refine xg_t (xg_bip) ?_
    refine xg_cVi mX12_numbered (vs := [(0, 1), (0, 99)]) (rest := [(0, (20 + (4 * kk)) + 1), (0, kk), (0, 0), (2, 82)]) (cn1 := 0) (sl1 := 0) rfl (mNumW (hI89) (by omega) (by omega) (by have q := hW48.1; have q2 := fld_eq (j := 10) (hF90.1 82 (by decide)); omega)) rfl (hF90.get (by decide) h82_85) rfl rfl rfl rfl rfl rfl (fun n98 w94 hq95 => ?_)
    obtain ⟨hn99, hI96, hF97⟩ := hq95
    obtain rfl := hn99
    refine xg_cVv mX12_puts (vs := [(0, 0), (0, kk), (0, (20 + (4 * kk)) + 1), (0, 0)]) (rest := []) (cn1 := 0) (sl1 := 0) rfl (mPuts0 (hI96) (by omega) (by omega) (by omega) (fun _ => by omega)) rfl (hF97.get (by decide) (hF90.get (by decide) h82_85)) rfl rfl rfl rfl rfl rfl (fun w100 hq101 => ?_)
    obtain ⟨hI102, hF103, hx104⟩ := hq101
    obtain ⟨hp105, hp106⟩ := hx104
    refine xg_t (xg_iinc (u := 1) (z := 2) (l1 := [(0, (2, 82)), (1, (0, kk))]) rfl rfl (by decide) rfl) ?_
    refine xg_t (xg_goto) ?_
    refine xg_t (xg_blq rfl) ?_
    refine xg_t (xg_iload (va := (0, 2)) rfl rfl) ?_
    refine xg_t (xg_const) ?_
    refine xg_t (xg_icF (u := 2) (v := 3) rfl xnm0 xnm0 (by decide)) ?_
    refine xg_t (xg_aload (va := (2, 82)) rfl rfl) ?_
    refine xg_t (xg_const) ?_
    refine xg_t (xg_iload (va := (0, kk)) rfl rfl) ?_
    refine xg_t (xg_bip) ?_
    refine xg_t (xg_const) ?_
    refine xg_t (xg_iload (va := (0, kk)) rfl rfl) ?_
    refine xg_t (xg_imul (u := 4) (v := kk) (z := 4 * kk) xnm0 xnm0 (by omega)) ?_
    refine xg_t (xg_iadd (u := 20) (v := 4 * kk) (z := 20 + (4 * kk)) xnm0 xnm0 (by omega)) ?_
    refine xg_t (xg_iload (va := (0, 2)) rfl rfl) ?_
    refine xg_t (xg_iadd (u := 20 + (4 * kk)) (v := 2) (z := (20 + (4 * kk)) + 2) xnm0 xnm0 (by omega)) ?_
    refine xg_t (xg_aload (va := (2, 82)) rfl rfl) ?_
    refine xg_t (xg_const) ?_
    refine xg_t (xg_bip) ?_
    refine xg_cVi mX12_numbered (vs := [(0, 1), (0, 99)]) (rest := [(0, (20 + (4 * kk)) + 2), (0, kk), (0, 0), (2, 82)]) (cn1 := 0) (sl1 := 0) rfl (mNumW (hI102) (by omega) (by omega) (by have q := hW48.1; have q2 := fld_eq (j := 10) ((hF103.1 82 (by decide)).trans ((hF97.1 82 (by decide)).trans (hF90.1 82 (by decide)))); omega)) rfl (hF103.get (by decide) (hF97.get (by decide) (hF90.get (by decide) h82_85))) rfl rfl rfl rfl rfl rfl (fun n111 w107 hq108 => ?_)
    obtain ⟨hn112, hI109, hF110⟩ := hq108
    obtain rfl := hn112
    refine xg_cVv mX12_puts (vs := [(0, 0), (0, kk), (0, (20 + (4 * kk)) + 2), (0, 0)]) (rest := []) (cn1 := 0) (sl1 := 0) rfl (mPuts0 (hI109) (by omega) (by omega) (by omega) (fun _ => by omega)) rfl (hF110.get (by decide) (hF103.get (by decide) (hF97.get (by decide) (hF90.get (by decide) h82_85)))) rfl rfl rfl rfl rfl rfl (fun w113 hq114 => ?_)
    obtain ⟨hI115, hF116, hx117⟩ := hq114
    obtain ⟨hp118, hp119⟩ := hx117
    refine xg_t (xg_iinc (u := 2) (z := 3) (l1 := [(0, (2, 82)), (1, (0, kk))]) rfl rfl (by decide) rfl) ?_
    refine xg_t (xg_goto) ?_
    refine xg_t (xg_blq rfl) ?_
    refine xg_t (xg_iload (va := (0, 3)) rfl rfl) ?_
    refine xg_t (xg_const) ?_
    refine xg_t (xg_icT (u := 3) (v := 3) rfl xnm0 xnm0 (by decide)) ?_
    refine xg_t (xg_blq rfl) ?_
    refine xg_t (xg_aload (va := (2, 82)) rfl rfl) ?_
    refine xg_t (xg_getf (va := (0, f82_71)) (hF116.get (by decide) (hF110.get (by decide) (hF103.get (by decide) (hF97.get (by decide) (hF90.get (by decide) h82_85))))) rfl) ?_
    have hf120 : fld w113 82 10 = f82_71 := fld_of (hF116.get (by decide) (hF110.get (by decide) (hF103.get (by decide) (hF97.get (by decide) (hF90.get (by decide) h82_85)))))
    have hk121 : fld w113 82 10 ≠ 0 := (by have q := hW48.1; have q2 := fld_eq (j := 10) ((hF116.1 82 (by decide)).trans ((hF110.1 82 (by decide)).trans ((hF103.1 82 (by decide)).trans ((hF97.1 82 (by decide)).trans (hF90.1 82 (by decide)))))); omega)
    refine xg_t (xg_ifT (u := f82_71) rfl xnm0 (xj_neT (by omega))) ?_
    refine xg_t (xg_blq rfl) ?_
    refine xg_t (xg_aload (va := (2, 82)) rfl rfl) ?_
    refine xg_cVv mX12_ends (vs := []) (rest := []) (cn1 := 0) (sl1 := 0) rfl (mEndsW (hI115) (by have q := hW48.1; have q2 := fld_eq (j := 10) ((hF116.1 82 (by decide)).trans ((hF110.1 82 (by decide)).trans ((hF103.1 82 (by decide)).trans ((hF97.1 82 (by decide)).trans (hF90.1 82 (by decide)))))); omega)) rfl (hF116.get (by decide) (hF110.get (by decide) (hF103.get (by decide) (hF97.get (by decide) (hF90.get (by decide) h82_85))))) rfl rfl rfl rfl rfl rfl (fun w122 hq123 => ?_)
    obtain ⟨hI124, hF125⟩ := hq123
    exact xg_e ⟨w122, ⟨rfl, rfl⟩, hI124, (((((((hF40.up (by decide)).tr (hF90.up (by decide))).tr (hF97.up (by decide))).tr (hF103.up (by decide))).tr (hF110.up (by decide))).tr (hF116.up (by decide))).tr (hF125.up (by decide))), ⟨Or.inl ⟨p, lf54, ⟨(fld_eq (j := 10) ((hF125.1 82 (by decide)).trans ((hF116.1 82 (by decide)).trans ((hF110.1 82 (by decide)).trans ((hF103.1 82 (by decide)).trans ((hF97.1 82 (by decide)).trans (hF90.1 82 (by decide)))))))).trans hW48.1, (rwv_eq (j := 16) ((hF125.1 83 (by decide)).trans ((hF116.1 83 (by decide)).trans ((hF110.1 83 (by decide)).trans ((hF103.1 83 (by decide)).trans ((hF97.1 83 (by decide)).trans (hF90.1 83 (by decide)))))))).trans hW48.2.1, (rwv_eq (j := 17) ((hF125.1 83 (by decide)).trans ((hF116.1 83 (by decide)).trans ((hF110.1 83 (by decide)).trans ((hF103.1 83 (by decide)).trans ((hF97.1 83 (by decide)).trans (hF90.1 83 (by decide)))))))).trans hW48.2.2⟩⟩, ((fld_eq (j := 14) ((hF125.1 82 (by decide)).trans ((hF116.1 82 (by decide)).trans ((hF110.1 82 (by decide)).trans ((hF103.1 82 (by decide)).trans ((hF97.1 82 (by decide)).trans (hF90.1 82 (by decide)))))))).trans k14_46), ((((((k8_44.tr (K83.fr hF90 (by decide))).tr (K83.fr hF97 (by decide))).tr (K83.fr hF103 (by decide))).tr (K83.fr hF110 (by decide))).tr (K83.fr hF116 (by decide))).tr (K83.fr hF125 (by decide))), (fun j hj hl => ((rwv_eq (hF125.1 86 (by decide))).trans ((hp119 j (by omega) hl).trans ((rwv_eq (hF110.1 86 (by decide))).trans ((hp106 j (by omega) hl).trans ((rwv_eq (hF97.1 86 (by decide))).trans ((hp93 j (by omega) hl).trans (rwv_eq (hF40.1 86 (by decide))))))))))⟩⟩
  · obtain ⟨p_126, hp127⟩ : ∃ x, x = tf B nn p := ⟨_, rfl⟩
    rw [← hp127] at hT_52
    have ln128 : lnN B nn 0 3 p = lnN B nn 0 2 p_126 := by rw [hp127]; exact (lnN_y (k := 2) hk47)
    refine xoCh82 (xqc82 hI39 : cp82 (wget w37 82)) (fun f82_129 f82_131 f82_133 f82_135 f82_137 f82_139 f82_141 f82_143 f82_145 f82_147 f82_149 f82_150 f82_151 f82_153 f82_155 f82_157 h82_159 hb130 hb132 hb134 hb136 hb138 hb140 hb142 hb144 hb146 hb148 hb152 hb154 hb156 hb158 hb160 => ?_)
    refine xg_cVv mX12_puts (vs := [(0, 0), (0, kk), (0, (20 + (4 * kk)) + 0), (0, n41)]) (rest := []) (cn1 := 0) (sl1 := 0) rfl (mPuts0 (hI39) (by omega) (by omega) (by omega) (fun _ => by omega)) rfl h82_159 rfl rfl rfl rfl rfl rfl (fun w161 hq162 => ?_)
    obtain ⟨hI163, hF164, hx165⟩ := hq162
    obtain ⟨hp166, hp167⟩ := hx165
    refine xg_t (xg_iinc (u := 0) (z := 1) (l1 := [(0, (2, 82)), (1, (0, kk))]) rfl rfl (by decide) rfl) ?_
    refine xg_t (xg_goto) ?_
    refine xg_t (xg_blq rfl) ?_
    refine xg_t (xg_iload (va := (0, 1)) rfl rfl) ?_
    refine xg_t (xg_const) ?_
    refine xg_t (xg_icF (u := 1) (v := 3) rfl xnm0 xnm0 (by decide)) ?_
    refine xg_t (xg_aload (va := (2, 82)) rfl rfl) ?_
    refine xg_t (xg_const) ?_
    refine xg_t (xg_iload (va := (0, kk)) rfl rfl) ?_
    refine xg_t (xg_bip) ?_
    refine xg_t (xg_const) ?_
    refine xg_t (xg_iload (va := (0, kk)) rfl rfl) ?_
    refine xg_t (xg_imul (u := 4) (v := kk) (z := 4 * kk) xnm0 xnm0 (by omega)) ?_
    refine xg_t (xg_iadd (u := 20) (v := 4 * kk) (z := 20 + (4 * kk)) xnm0 xnm0 (by omega)) ?_
    refine xg_t (xg_iload (va := (0, 1)) rfl rfl) ?_
    refine xg_t (xg_iadd (u := 20 + (4 * kk)) (v := 1) (z := (20 + (4 * kk)) + 1) xnm0 xnm0 (by omega)) ?_
    refine xg_t (xg_aload (va := (2, 82)) rfl rfl) ?_
    refine xg_t (xg_const) ?_
    refine xg_t (xg_bip) ?_
    have hk168 := ((fld_eq (j := 14) (hF164.1 82 (by decide))).trans k14_46)
    refine xg_cVi mX12_numbered (vs := [(0, 1), (0, 99)]) (rest := [(0, (20 + (4 * kk)) + 1), (0, kk), (0, 0), (2, 82)]) (cn1 := 0) (sl1 := 0) rfl (mNumX (ir := 0) (hI163) (by omega) (by omega) (hB.fr (fun j h4 h9 => (k8_44.tr (K83.fr hF164 (by decide))) j (by omega) (by omega) (by omega))) ((fld_eq (j := 10) (hF164.1 82 (by decide))).trans k10_51) (hT_52.fr (hF164.1 82 (by decide))) (hF_53.k83 (rwv_eq (hF164.1 83 (by decide))) (rwv_eq (hF164.1 83 (by decide))))) rfl (hF164.get (by decide) h82_159) rfl rfl rfl rfl rfl rfl (fun n173 w169 hq170 => ?_)
    obtain ⟨hn174, hI171, hF172⟩ := hq170
    obtain ⟨hx177, h14_175, k8_176⟩ := hn174
    have k14_178 := h14_175.trans hk168
    rcases hx177 with ⟨rfl, hk179, hW180⟩ | ⟨hv181, h9_182, hk179, k10_183, hT_184, hF_185⟩
    · have lf186 : lnN B nn 0 3 p = (false, p_126) := ln128.trans (lnN_n (k := 1) hk179)
      refine xoCh82 (xqc82 hI171 : cp82 (wget w169 82)) (fun f82_187 f82_189 f82_191 f82_193 f82_195 f82_197 f82_199 f82_201 f82_203 f82_205 f82_207 f82_208 f82_209 f82_211 f82_213 f82_215 h82_217 hb188 hb190 hb192 hb194 hb196 hb198 hb200 hb202 hb204 hb206 hb210 hb212 hb214 hb216 hb218 => ?_)
      refine xg_cVv mX12_puts (vs := [(0, 0), (0, kk), (0, (20 + (4 * kk)) + 1), (0, 0)]) (rest := []) (cn1 := 0) (sl1 := 0) rfl (mPuts0 (hI171) (by omega) (by omega) (by omega) (fun _ => by omega)) rfl h82_217 rfl rfl rfl rfl rfl rfl (fun w219 hq220 => ?_)
      obtain ⟨hI221, hF222, hx223⟩ := hq220
      obtain ⟨hp224, hp225⟩ := hx223
      refine xg_t (xg_iinc (u := 1) (z := 2) (l1 := [(0, (2, 82)), (1, (0, kk))]) rfl rfl (by decide) rfl) ?_
      refine xg_t (xg_goto) ?_
      refine xg_t (xg_blq rfl) ?_
      refine xg_t (xg_iload (va := (0, 2)) rfl rfl) ?_
      refine xg_t (xg_const) ?_
      refine xg_t (xg_icF (u := 2) (v := 3) rfl xnm0 xnm0 (by decide)) ?_
      refine xg_t (xg_aload (va := (2, 82)) rfl rfl) ?_
      refine xg_t (xg_const) ?_
      refine xg_t (xg_iload (va := (0, kk)) rfl rfl) ?_
      refine xg_t (xg_bip) ?_
      refine xg_t (xg_const) ?_
      refine xg_t (xg_iload (va := (0, kk)) rfl rfl) ?_
      refine xg_t (xg_imul (u := 4) (v := kk) (z := 4 * kk) xnm0 xnm0 (by omega)) ?_
      refine xg_t (xg_iadd (u := 20) (v := 4 * kk) (z := 20 + (4 * kk)) xnm0 xnm0 (by omega)) ?_
      refine xg_t (xg_iload (va := (0, 2)) rfl rfl) ?_
      refine xg_t (xg_iadd (u := 20 + (4 * kk)) (v := 2) (z := (20 + (4 * kk)) + 2) xnm0 xnm0 (by omega)) ?_
      refine xg_t (xg_aload (va := (2, 82)) rfl rfl) ?_
      refine xg_t (xg_const) ?_
      refine xg_t (xg_bip) ?_
      refine xg_cVi mX12_numbered (vs := [(0, 1), (0, 99)]) (rest := [(0, (20 + (4 * kk)) + 2), (0, kk), (0, 0), (2, 82)]) (cn1 := 0) (sl1 := 0) rfl (mNumW (hI221) (by omega) (by omega) (by have q := hW180.1; have q2 := fld_eq (j := 10) (hF222.1 82 (by decide)); omega)) rfl (hF222.get (by decide) h82_217) rfl rfl rfl rfl rfl rfl (fun n230 w226 hq227 => ?_)
      obtain ⟨hn231, hI228, hF229⟩ := hq227
      obtain rfl := hn231
      refine xg_cVv mX12_puts (vs := [(0, 0), (0, kk), (0, (20 + (4 * kk)) + 2), (0, 0)]) (rest := []) (cn1 := 0) (sl1 := 0) rfl (mPuts0 (hI228) (by omega) (by omega) (by omega) (fun _ => by omega)) rfl (hF229.get (by decide) (hF222.get (by decide) h82_217)) rfl rfl rfl rfl rfl rfl (fun w232 hq233 => ?_)
      obtain ⟨hI234, hF235, hx236⟩ := hq233
      obtain ⟨hp237, hp238⟩ := hx236
      refine xg_t (xg_iinc (u := 2) (z := 3) (l1 := [(0, (2, 82)), (1, (0, kk))]) rfl rfl (by decide) rfl) ?_
      refine xg_t (xg_goto) ?_
      refine xg_t (xg_blq rfl) ?_
      refine xg_t (xg_iload (va := (0, 3)) rfl rfl) ?_
      refine xg_t (xg_const) ?_
      refine xg_t (xg_icT (u := 3) (v := 3) rfl xnm0 xnm0 (by decide)) ?_
      refine xg_t (xg_blq rfl) ?_
      refine xg_t (xg_aload (va := (2, 82)) rfl rfl) ?_
      refine xg_t (xg_getf (va := (0, f82_203)) (hF235.get (by decide) (hF229.get (by decide) (hF222.get (by decide) h82_217))) rfl) ?_
      have hf239 : fld w232 82 10 = f82_203 := fld_of (hF235.get (by decide) (hF229.get (by decide) (hF222.get (by decide) h82_217)))
      have hk240 : fld w232 82 10 ≠ 0 := (by have q := hW180.1; have q2 := fld_eq (j := 10) ((hF235.1 82 (by decide)).trans ((hF229.1 82 (by decide)).trans (hF222.1 82 (by decide)))); omega)
      refine xg_t (xg_ifT (u := f82_203) rfl xnm0 (xj_neT (by omega))) ?_
      refine xg_t (xg_blq rfl) ?_
      refine xg_t (xg_aload (va := (2, 82)) rfl rfl) ?_
      refine xg_cVv mX12_ends (vs := []) (rest := []) (cn1 := 0) (sl1 := 0) rfl (mEndsW (hI234) (by have q := hW180.1; have q2 := fld_eq (j := 10) ((hF235.1 82 (by decide)).trans ((hF229.1 82 (by decide)).trans (hF222.1 82 (by decide)))); omega)) rfl (hF235.get (by decide) (hF229.get (by decide) (hF222.get (by decide) h82_217))) rfl rfl rfl rfl rfl rfl (fun w241 hq242 => ?_)
      obtain ⟨hI243, hF244⟩ := hq242
      exact xg_e ⟨w241, ⟨rfl, rfl⟩, hI243, (((((((hF40.up (by decide)).tr (hF164.up (by decide))).tr (hF172.up (by decide))).tr (hF222.up (by decide))).tr (hF229.up (by decide))).tr (hF235.up (by decide))).tr (hF244.up (by decide))), ⟨Or.inl ⟨p_126, lf186, ⟨(fld_eq (j := 10) ((hF244.1 82 (by decide)).trans ((hF235.1 82 (by decide)).trans ((hF229.1 82 (by decide)).trans (hF222.1 82 (by decide)))))).trans hW180.1, (rwv_eq (j := 16) ((hF244.1 83 (by decide)).trans ((hF235.1 83 (by decide)).trans ((hF229.1 83 (by decide)).trans (hF222.1 83 (by decide)))))).trans hW180.2.1, (rwv_eq (j := 17) ((hF244.1 83 (by decide)).trans ((hF235.1 83 (by decide)).trans ((hF229.1 83 (by decide)).trans (hF222.1 83 (by decide)))))).trans hW180.2.2⟩⟩, ((fld_eq (j := 14) ((hF244.1 82 (by decide)).trans ((hF235.1 82 (by decide)).trans ((hF229.1 82 (by decide)).trans (hF222.1 82 (by decide)))))).trans k14_178), ((((((k8_44.tr (K83.fr hF164 (by decide))).tr k8_176).tr (K83.fr hF222 (by decide))).tr (K83.fr hF229 (by decide))).tr (K83.fr hF235 (by decide))).tr (K83.fr hF244 (by decide))), (fun j hj hl => ((rwv_eq (hF244.1 86 (by decide))).trans ((hp238 j (by omega) hl).trans ((rwv_eq (hF229.1 86 (by decide))).trans ((hp225 j (by omega) hl).trans ((rwv_eq (hF172.1 86 (by decide))).trans ((hp167 j (by omega) hl).trans (rwv_eq (hF40.1 86 (by decide))))))))))⟩⟩
    · obtain ⟨p_245, hp246⟩ : ∃ x, x = tf B nn p_126 := ⟨_, rfl⟩
      rw [← hp246] at hT_184
      have ln247 : lnN B nn 0 3 p = lnN B nn 0 1 p_245 := by rw [hp246]; exact ln128.trans (lnN_y (k := 1) hk179)
      refine xoCh82 (xqc82 hI171 : cp82 (wget w169 82)) (fun f82_248 f82_250 f82_252 f82_254 f82_256 f82_258 f82_260 f82_262 f82_264 f82_266 f82_268 f82_269 f82_270 f82_272 f82_274 f82_276 h82_278 hb249 hb251 hb253 hb255 hb257 hb259 hb261 hb263 hb265 hb267 hb271 hb273 hb275 hb277 hb279 => ?_)
      refine xg_cVv mX12_puts (vs := [(0, 0), (0, kk), (0, (20 + (4 * kk)) + 1), (0, n173)]) (rest := []) (cn1 := 0) (sl1 := 0) rfl (mPuts0 (hI171) (by omega) (by omega) (by omega) (fun _ => by omega)) rfl h82_278 rfl rfl rfl rfl rfl rfl (fun w280 hq281 => ?_)
      obtain ⟨hI282, hF283, hx284⟩ := hq281
      obtain ⟨hp285, hp286⟩ := hx284
      refine xg_t (xg_iinc (u := 1) (z := 2) (l1 := [(0, (2, 82)), (1, (0, kk))]) rfl rfl (by decide) rfl) ?_
      refine xg_t (xg_goto) ?_
      refine xg_t (xg_blq rfl) ?_
      refine xg_t (xg_iload (va := (0, 2)) rfl rfl) ?_
      refine xg_t (xg_const) ?_
      refine xg_t (xg_icF (u := 2) (v := 3) rfl xnm0 xnm0 (by decide)) ?_
      refine xg_t (xg_aload (va := (2, 82)) rfl rfl) ?_
      refine xg_t (xg_const) ?_
      refine xg_t (xg_iload (va := (0, kk)) rfl rfl) ?_
      refine xg_t (xg_bip) ?_
      refine xg_t (xg_const) ?_
      refine xg_t (xg_iload (va := (0, kk)) rfl rfl) ?_
      refine xg_t (xg_imul (u := 4) (v := kk) (z := 4 * kk) xnm0 xnm0 (by omega)) ?_
      refine xg_t (xg_iadd (u := 20) (v := 4 * kk) (z := 20 + (4 * kk)) xnm0 xnm0 (by omega)) ?_
      refine xg_t (xg_iload (va := (0, 2)) rfl rfl) ?_
      refine xg_t (xg_iadd (u := 20 + (4 * kk)) (v := 2) (z := (20 + (4 * kk)) + 2) xnm0 xnm0 (by omega)) ?_
      refine xg_t (xg_aload (va := (2, 82)) rfl rfl) ?_
      refine xg_t (xg_const) ?_
      refine xg_t (xg_bip) ?_
      have hk287 := ((fld_eq (j := 14) (hF283.1 82 (by decide))).trans k14_178)
      refine xg_cVi mX12_numbered (vs := [(0, 1), (0, 99)]) (rest := [(0, (20 + (4 * kk)) + 2), (0, kk), (0, 0), (2, 82)]) (cn1 := 0) (sl1 := 0) rfl (mNumX (ir := 0) (hI282) (by omega) (by omega) (hB.fr (fun j h4 h9 => (((k8_44.tr (K83.fr hF164 (by decide))).tr k8_176).tr (K83.fr hF283 (by decide))) j (by omega) (by omega) (by omega))) ((fld_eq (j := 10) (hF283.1 82 (by decide))).trans k10_183) (hT_184.fr (hF283.1 82 (by decide))) (hF_185.k83 (rwv_eq (hF283.1 83 (by decide))) (rwv_eq (hF283.1 83 (by decide))))) rfl (hF283.get (by decide) h82_278) rfl rfl rfl rfl rfl rfl (fun n292 w288 hq289 => ?_)
      obtain ⟨hn293, hI290, hF291⟩ := hq289
      obtain ⟨hx296, h14_294, k8_295⟩ := hn293
      have k14_297 := h14_294.trans hk287
      rcases hx296 with ⟨rfl, hk298, hW299⟩ | ⟨hv300, h9_301, hk298, k10_302, hT_303, hF_304⟩
      · have lf305 : lnN B nn 0 3 p = (false, p_245) := ln247.trans (lnN_n (k := 0) hk298)
        refine xoCh82 (xqc82 hI290 : cp82 (wget w288 82)) (fun f82_306 f82_308 f82_310 f82_312 f82_314 f82_316 f82_318 f82_320 f82_322 f82_324 f82_326 f82_327 f82_328 f82_330 f82_332 f82_334 h82_336 hb307 hb309 hb311 hb313 hb315 hb317 hb319 hb321 hb323 hb325 hb329 hb331 hb333 hb335 hb337 => ?_)
        refine xg_cVv mX12_puts (vs := [(0, 0), (0, kk), (0, (20 + (4 * kk)) + 2), (0, 0)]) (rest := []) (cn1 := 0) (sl1 := 0) rfl (mPuts0 (hI290) (by omega) (by omega) (by omega) (fun _ => by omega)) rfl h82_336 rfl rfl rfl rfl rfl rfl (fun w338 hq339 => ?_)
        obtain ⟨hI340, hF341, hx342⟩ := hq339
        obtain ⟨hp343, hp344⟩ := hx342
        refine xg_t (xg_iinc (u := 2) (z := 3) (l1 := [(0, (2, 82)), (1, (0, kk))]) rfl rfl (by decide) rfl) ?_
        refine xg_t (xg_goto) ?_
        refine xg_t (xg_blq rfl) ?_
        refine xg_t (xg_iload (va := (0, 3)) rfl rfl) ?_
        refine xg_t (xg_const) ?_
        refine xg_t (xg_icT (u := 3) (v := 3) rfl xnm0 xnm0 (by decide)) ?_
        refine xg_t (xg_blq rfl) ?_
        refine xg_t (xg_aload (va := (2, 82)) rfl rfl) ?_
        refine xg_t (xg_getf (va := (0, f82_322)) (hF341.get (by decide) h82_336) rfl) ?_
        have hf345 : fld w338 82 10 = f82_322 := fld_of (hF341.get (by decide) h82_336)
        have hk346 : fld w338 82 10 ≠ 0 := (by have q := hW299.1; have q2 := fld_eq (j := 10) (hF341.1 82 (by decide)); omega)
        refine xg_t (xg_ifT (u := f82_322) rfl xnm0 (xj_neT (by omega))) ?_
        refine xg_t (xg_blq rfl) ?_
        refine xg_t (xg_aload (va := (2, 82)) rfl rfl) ?_
        refine xg_cVv mX12_ends (vs := []) (rest := []) (cn1 := 0) (sl1 := 0) rfl (mEndsW (hI340) (by have q := hW299.1; have q2 := fld_eq (j := 10) (hF341.1 82 (by decide)); omega)) rfl (hF341.get (by decide) h82_336) rfl rfl rfl rfl rfl rfl (fun w347 hq348 => ?_)
        obtain ⟨hI349, hF350⟩ := hq348
        exact xg_e ⟨w347, ⟨rfl, rfl⟩, hI349, (((((((hF40.up (by decide)).tr (hF164.up (by decide))).tr (hF172.up (by decide))).tr (hF283.up (by decide))).tr (hF291.up (by decide))).tr (hF341.up (by decide))).tr (hF350.up (by decide))), ⟨Or.inl ⟨p_245, lf305, ⟨(fld_eq (j := 10) ((hF350.1 82 (by decide)).trans (hF341.1 82 (by decide)))).trans hW299.1, (rwv_eq (j := 16) ((hF350.1 83 (by decide)).trans (hF341.1 83 (by decide)))).trans hW299.2.1, (rwv_eq (j := 17) ((hF350.1 83 (by decide)).trans (hF341.1 83 (by decide)))).trans hW299.2.2⟩⟩, ((fld_eq (j := 14) ((hF350.1 82 (by decide)).trans (hF341.1 82 (by decide)))).trans k14_297), ((((((k8_44.tr (K83.fr hF164 (by decide))).tr k8_176).tr (K83.fr hF283 (by decide))).tr k8_295).tr (K83.fr hF341 (by decide))).tr (K83.fr hF350 (by decide))), (fun j hj hl => ((rwv_eq (hF350.1 86 (by decide))).trans ((hp344 j (by omega) hl).trans ((rwv_eq (hF291.1 86 (by decide))).trans ((hp286 j (by omega) hl).trans ((rwv_eq (hF172.1 86 (by decide))).trans ((hp167 j (by omega) hl).trans (rwv_eq (hF40.1 86 (by decide))))))))))⟩⟩
      · obtain ⟨p_351, hp352⟩ : ∃ x, x = tf B nn p_245 := ⟨_, rfl⟩
        rw [← hp352] at hT_303
        have ln353 : lnN B nn 0 3 p = lnN B nn 0 0 p_351 := by rw [hp352]; exact ln247.trans (lnN_y (k := 0) hk298)
        refine xoCh82 (xqc82 hI290 : cp82 (wget w288 82)) (fun f82_354 f82_356 f82_358 f82_360 f82_362 f82_364 f82_366 f82_368 f82_370 f82_372 f82_374 f82_375 f82_376 f82_378 f82_380 f82_382 h82_384 hb355 hb357 hb359 hb361 hb363 hb365 hb367 hb369 hb371 hb373 hb377 hb379 hb381 hb383 hb385 => ?_)
        refine xg_cVv mX12_puts (vs := [(0, 0), (0, kk), (0, (20 + (4 * kk)) + 2), (0, n292)]) (rest := []) (cn1 := 0) (sl1 := 0) rfl (mPuts0 (hI290) (by omega) (by omega) (by omega) (fun _ => by omega)) rfl h82_384 rfl rfl rfl rfl rfl rfl (fun w386 hq387 => ?_)
        obtain ⟨hI388, hF389, hx390⟩ := hq387
        obtain ⟨hp391, hp392⟩ := hx390
        refine xg_t (xg_iinc (u := 2) (z := 3) (l1 := [(0, (2, 82)), (1, (0, kk))]) rfl rfl (by decide) rfl) ?_
        refine xg_t (xg_goto) ?_
        refine xg_t (xg_blq rfl) ?_
        refine xg_t (xg_iload (va := (0, 3)) rfl rfl) ?_
        refine xg_t (xg_const) ?_
        refine xg_t (xg_icT (u := 3) (v := 3) rfl xnm0 xnm0 (by decide)) ?_
        refine xg_t (xg_blq rfl) ?_
        refine xg_t (xg_aload (va := (2, 82)) rfl rfl) ?_
        refine xg_t (xg_getf (va := (0, f82_370)) (hF389.get (by decide) h82_384) rfl) ?_
        have hf393 : fld w386 82 10 = f82_370 := fld_of (hF389.get (by decide) h82_384)
        have hk394 : fld w386 82 10 = 0 := ((fld_eq (j := 10) (hF389.1 82 (by decide))).trans k10_302)
        refine xg_t (xg_ifF (u := f82_370) rfl xnm0 (xj_neF (by omega))) ?_
        obtain ⟨⟨ht395, ht396, ht397, ht398, ht399, ht400⟩, ht401, ht402, ht403⟩ := id (hT_303.fr (hF389.1 82 (by decide)))
        have hf404 : fld w386 82 6 = f82_362 := fld_of (hF389.get (by decide) h82_384)
        have hf405 : fld w386 82 7 = f82_364 := fld_of (hF389.get (by decide) h82_384)
        have hf406 : fld w386 82 8 = f82_366 := fld_of (hF389.get (by decide) h82_384)
        have hf407 : fld w386 82 9 = f82_368 := fld_of (hF389.get (by decide) h82_384)
        have hf408 : fld w386 82 3 = f82_356 := fld_of (hF389.get (by decide) h82_384)
        have hmk409 := mkd_of (ir := 0) (B := B) (n := nn) (p := p_351)
        have hg410 := glw (B := B) (n := nn) (p := p_351)
        refine xg_t (xg_aload (va := (2, 82)) rfl rfl) ?_
        refine xg_t (xg_getf (va := (0, f82_364)) (hF389.get (by decide) h82_384) rfl) ?_
        refine xg_t (xg_const) ?_
        by_cases hc411 : f82_364 = 3
        · refine xg_t (xg_icF (u := f82_364) (v := 3) rfl xnm0 xnm0 (xj_neF hc411)) ?_
          refine xg_t (xg_aload (va := (2, 82)) rfl rfl) ?_
          refine xg_t (xg_getf (va := (0, f82_368)) (hF389.get (by decide) h82_384) rfl) ?_
          have hn412 : f82_368 ≤ 4294967295 := hb369
          refine xg_t (xg_bip) ?_
          by_cases hc413 : f82_368 = 7
          · refine xg_t (xg_icT (u := f82_368) (v := 7) rfl xnm0 xnm0 (xj_eqT hc413)) ?_
            refine xg_t (xg_blq rfl) ?_
            have hg4141 : tkd B nn p_351 = 1 := by omega
            have hg4142 := ht402 hg4141
            have hg414 : twk B nn p_351 = 277892 ∨ twk B nn p_351 = 20325509 := by omega
            refine xg_t (xg_aload (va := (2, 82)) rfl rfl) ?_
            refine xg_t (xg_const) ?_
            refine xg_t (xg_iload (va := (0, kk)) rfl rfl) ?_
            refine xg_t (xg_bip) ?_
            refine xg_t (xg_const) ?_
            refine xg_t (xg_iload (va := (0, kk)) rfl rfl) ?_
            refine xg_t (xg_imul (u := 4) (v := kk) (z := 4 * kk) xnm0 xnm0 (by omega)) ?_
            refine xg_t (xg_iadd (u := 20) (v := 4 * kk) (z := 20 + (4 * kk)) xnm0 xnm0 (by omega)) ?_
            refine xg_t (xg_const) ?_
            refine xg_t (xg_iadd (u := 20 + (4 * kk)) (v := 3) (z := (20 + (4 * kk)) + 3) xnm0 xnm0 (by omega)) ?_
            refine xg_t (xg_aload (va := (2, 82)) rfl rfl) ?_
            refine xg_t (xg_getf (va := (0, f82_368)) (hF389.get (by decide) h82_384) rfl) ?_
            refine xg_t (xg_bip) ?_
            refine xg_t (xg_icT (u := f82_368) (v := 8) rfl xnm0 xnm0 (xj_neT (by omega))) ?_
            refine xg_t (xg_blq rfl) ?_
            refine xg_t (xg_const) ?_
            refine xg_t (xg_blq rfl) ?_
            refine xg_cVv mX12_puts (vs := [(0, 0), (0, kk), (0, (20 + (4 * kk)) + 3), (0, 0)]) (rest := []) (cn1 := 0) (sl1 := 0) rfl (mPuts0 (hI388) (by omega) (by omega) (by omega) (fun _ => by omega)) rfl (hF389.get (by decide) h82_384) rfl rfl rfl rfl rfl rfl (fun w415 hq416 => ?_)
            obtain ⟨hI417, hF418, hx419⟩ := hq416
            obtain ⟨hp420, hp421⟩ := hx419
            refine xg_t (xg_aload (va := (2, 82)) rfl rfl) ?_
            have sl422 : (if twk B nn p_351 = 20325509 then 1 else 0) = 0 := by
              by_cases y : twk B nn p_351 = 20325509
              · rw [if_pos y] <;> omega
              · rw [if_neg y] <;> omega
            clear ht395 ht396 ht397 ht398 ht399 ht400 ht401 ht402 ht403 hf404 hf405 hf406 hf407 hf408 hmk409 hg410
            obtain ⟨⟨ht423, ht424, ht425, ht426, ht427, ht428⟩, -⟩ := id (hT_303.fr ((hF418.1 82 (by decide)).trans (hF389.1 82 (by decide))))
            have hk429 := ((fld_eq (j := 10) ((hF418.1 82 (by decide)).trans (hF389.1 82 (by decide)))).trans k10_302)
            have hk430 := ((fld_eq (j := 14) ((hF418.1 82 (by decide)).trans (hF389.1 82 (by decide)))).trans k14_297)
            refine xg_cVv mX12_advance (vs := []) (rest := []) (cn1 := 0) (sl1 := 0) rfl (mAdvX (hI417) (hB.fr (fun j h4 h9 => ((((((k8_44.tr (K83.fr hF164 (by decide))).tr k8_176).tr (K83.fr hF283 (by decide))).tr k8_295).tr (K83.fr hF389 (by decide))).tr (K83.fr hF418 (by decide))) j (by omega) (by omega) (by omega))) ht423 ht424 (by rw [ht425]; exact tf_le ht428)) rfl (hF418.get (by decide) (hF389.get (by decide) h82_384)) rfl rfl rfl rfl rfl rfl (fun w431 hq432 => ?_)
            obtain ⟨hI433, hF434, hx435⟩ := hq432
            obtain ⟨hz436, hz437, hz438⟩ := hx435
            rw [ht425] at hz436
            clear ht423 ht424 ht425 ht426 ht427 ht428
            obtain ⟨p_439, hp440⟩ : ∃ x, x = tf B nn p_351 := ⟨_, rfl⟩
            rw [← hp440] at hz436
            have k10_441 := hz437.trans hk429
            have k14_442 := hz438.trans hk430
            clear hz437 hz438 hk429 hk430
            have ln443 : lnN B nn 0 3 p = lnS B nn p_439 := by rw [hp440]; exact ln353.trans (lnN_g hg414)
            have hr444 : kk < 6 → rwv w431 86 (20 + 4 * kk + 0) = tnu B nn p := fun hlt => by
              rw [show 20 + 4 * kk + 0 = (20 + (4 * kk)) + 0 by omega]
              exact ((rwv_eq (hF434.1 86 (by decide))).trans ((hp421 ((20 + (4 * kk)) + 0) (by omega) (by omega)).trans ((hp392 ((20 + (4 * kk)) + 0) (by omega) (by omega)).trans ((rwv_eq (hF291.1 86 (by decide))).trans ((hp286 ((20 + (4 * kk)) + 0) (by omega) (by omega)).trans (rwv_eq (hF172.1 86 (by decide)))))))).trans ((hp166 hlt).trans hv49)
            have hr445 : kk < 6 → rwv w431 86 (20 + 4 * kk + 1) = tnu B nn p_126 := fun hlt => by
              rw [show 20 + 4 * kk + 1 = (20 + (4 * kk)) + 1 by omega]
              exact ((rwv_eq (hF434.1 86 (by decide))).trans ((hp421 ((20 + (4 * kk)) + 1) (by omega) (by omega)).trans ((hp392 ((20 + (4 * kk)) + 1) (by omega) (by omega)).trans (rwv_eq (hF291.1 86 (by decide)))))).trans ((hp285 hlt).trans hv181)
            have hr446 : kk < 6 → rwv w431 86 (20 + 4 * kk + 2) = tnu B nn p_245 := fun hlt => by
              rw [show 20 + 4 * kk + 2 = (20 + (4 * kk)) + 2 by omega]
              exact ((rwv_eq (hF434.1 86 (by decide))).trans (hp421 ((20 + (4 * kk)) + 2) (by omega) (by omega))).trans ((hp391 hlt).trans hv300)
            have hr447 : kk < 6 → rwv w431 86 (20 + 4 * kk + 3) = (if twk B nn p_351 = 20325509 then 1 else 0) := fun hlt => by
              rw [show 20 + 4 * kk + 3 = (20 + (4 * kk)) + 3 by omega]
              exact (rwv_eq (hF434.1 86 (by decide))).trans ((hp420 hlt).trans sl422.symm)
            exact xg_e ⟨w431, ⟨rfl, rfl⟩, hI433, ((((((((hF40.up (by decide)).tr (hF164.up (by decide))).tr (hF172.up (by decide))).tr (hF283.up (by decide))).tr (hF291.up (by decide))).tr (hF389.up (by decide))).tr (hF418.up (by decide))).tr (hF434.up (by decide))), ⟨Or.inr ⟨p_126, p_245, p_351, p_439, hp127, hp246, hp352, hp440, hk47, hk179, hk298, hg4141, ln443, k10_441, hz436, (hF_304.k83 (rwv_eq ((hF434.1 83 (by decide)).trans ((hF418.1 83 (by decide)).trans (hF389.1 83 (by decide))))) (rwv_eq ((hF434.1 83 (by decide)).trans ((hF418.1 83 (by decide)).trans (hF389.1 83 (by decide)))))), fun hlt => ⟨hr444 hlt, hr445 hlt, hr446 hlt, hr447 hlt⟩⟩, k14_442, (((((((k8_44.tr (K83.fr hF164 (by decide))).tr k8_176).tr (K83.fr hF283 (by decide))).tr k8_295).tr (K83.fr hF389 (by decide))).tr (K83.fr hF418 (by decide))).tr (K83.fr hF434 (by decide))), (fun j hj hl => ((rwv_eq (hF434.1 86 (by decide))).trans ((hp421 j (by omega) hl).trans ((hp392 j (by omega) hl).trans ((rwv_eq (hF291.1 86 (by decide))).trans ((hp286 j (by omega) hl).trans ((rwv_eq (hF172.1 86 (by decide))).trans ((hp167 j (by omega) hl).trans (rwv_eq (hF40.1 86 (by decide)))))))))))⟩⟩
          · refine xg_t (xg_icF (u := f82_368) (v := 7) rfl xnm0 xnm0 (xj_eqF hc413)) ?_
            refine xg_t (xg_aload (va := (2, 82)) rfl rfl) ?_
            refine xg_t (xg_getf (va := (0, f82_368)) (hF389.get (by decide) h82_384) rfl) ?_
            refine xg_t (xg_bip) ?_
            by_cases hc448 : f82_368 = 8
            · refine xg_t (xg_icT (u := f82_368) (v := 8) rfl xnm0 xnm0 (xj_eqT hc448)) ?_
              refine xg_t (xg_blq rfl) ?_
              have hg4491 : tkd B nn p_351 = 1 := by omega
              have hg4492 := ht402 hg4491
              have hg449 : twk B nn p_351 = 277892 ∨ twk B nn p_351 = 20325509 := by omega
              refine xg_t (xg_aload (va := (2, 82)) rfl rfl) ?_
              refine xg_t (xg_const) ?_
              refine xg_t (xg_iload (va := (0, kk)) rfl rfl) ?_
              refine xg_t (xg_bip) ?_
              refine xg_t (xg_const) ?_
              refine xg_t (xg_iload (va := (0, kk)) rfl rfl) ?_
              refine xg_t (xg_imul (u := 4) (v := kk) (z := 4 * kk) xnm0 xnm0 (by omega)) ?_
              refine xg_t (xg_iadd (u := 20) (v := 4 * kk) (z := 20 + (4 * kk)) xnm0 xnm0 (by omega)) ?_
              refine xg_t (xg_const) ?_
              refine xg_t (xg_iadd (u := 20 + (4 * kk)) (v := 3) (z := (20 + (4 * kk)) + 3) xnm0 xnm0 (by omega)) ?_
              refine xg_t (xg_aload (va := (2, 82)) rfl rfl) ?_
              refine xg_t (xg_getf (va := (0, f82_368)) (hF389.get (by decide) h82_384) rfl) ?_
              refine xg_t (xg_bip) ?_
              by_cases hc450 : f82_368 = 8
              · refine xg_t (xg_icF (u := f82_368) (v := 8) rfl xnm0 xnm0 (xj_neF hc450)) ?_
                refine xg_t (xg_const) ?_
                refine xg_t (xg_goto) ?_
                refine xg_t (xg_blq rfl) ?_
                refine xg_cVv mX12_puts (vs := [(0, 0), (0, kk), (0, (20 + (4 * kk)) + 3), (0, 1)]) (rest := []) (cn1 := 0) (sl1 := 0) rfl (mPuts0 (hI388) (by omega) (by omega) (by omega) (fun _ => by omega)) rfl (hF389.get (by decide) h82_384) rfl rfl rfl rfl rfl rfl (fun w451 hq452 => ?_)
                obtain ⟨hI453, hF454, hx455⟩ := hq452
                obtain ⟨hp456, hp457⟩ := hx455
                refine xg_t (xg_aload (va := (2, 82)) rfl rfl) ?_
                have sl458 : (if twk B nn p_351 = 20325509 then 1 else 0) = 1 := by
                  by_cases y : twk B nn p_351 = 20325509
                  · rw [if_pos y] <;> omega
                  · rw [if_neg y] <;> omega
                clear ht395 ht396 ht397 ht398 ht399 ht400 ht401 ht402 ht403 hf404 hf405 hf406 hf407 hf408 hmk409 hg410
                obtain ⟨⟨ht459, ht460, ht461, ht462, ht463, ht464⟩, -⟩ := id (hT_303.fr ((hF454.1 82 (by decide)).trans (hF389.1 82 (by decide))))
                have hk465 := ((fld_eq (j := 10) ((hF454.1 82 (by decide)).trans (hF389.1 82 (by decide)))).trans k10_302)
                have hk466 := ((fld_eq (j := 14) ((hF454.1 82 (by decide)).trans (hF389.1 82 (by decide)))).trans k14_297)
                refine xg_cVv mX12_advance (vs := []) (rest := []) (cn1 := 0) (sl1 := 0) rfl (mAdvX (hI453) (hB.fr (fun j h4 h9 => ((((((k8_44.tr (K83.fr hF164 (by decide))).tr k8_176).tr (K83.fr hF283 (by decide))).tr k8_295).tr (K83.fr hF389 (by decide))).tr (K83.fr hF454 (by decide))) j (by omega) (by omega) (by omega))) ht459 ht460 (by rw [ht461]; exact tf_le ht464)) rfl (hF454.get (by decide) (hF389.get (by decide) h82_384)) rfl rfl rfl rfl rfl rfl (fun w467 hq468 => ?_)
                obtain ⟨hI469, hF470, hx471⟩ := hq468
                obtain ⟨hz472, hz473, hz474⟩ := hx471
                rw [ht461] at hz472
                clear ht459 ht460 ht461 ht462 ht463 ht464
                obtain ⟨p_475, hp476⟩ : ∃ x, x = tf B nn p_351 := ⟨_, rfl⟩
                rw [← hp476] at hz472
                have k10_477 := hz473.trans hk465
                have k14_478 := hz474.trans hk466
                clear hz473 hz474 hk465 hk466
                have ln479 : lnN B nn 0 3 p = lnS B nn p_475 := by rw [hp476]; exact ln353.trans (lnN_g hg449)
                have hr480 : kk < 6 → rwv w467 86 (20 + 4 * kk + 0) = tnu B nn p := fun hlt => by
                  rw [show 20 + 4 * kk + 0 = (20 + (4 * kk)) + 0 by omega]
                  exact ((rwv_eq (hF470.1 86 (by decide))).trans ((hp457 ((20 + (4 * kk)) + 0) (by omega) (by omega)).trans ((hp392 ((20 + (4 * kk)) + 0) (by omega) (by omega)).trans ((rwv_eq (hF291.1 86 (by decide))).trans ((hp286 ((20 + (4 * kk)) + 0) (by omega) (by omega)).trans (rwv_eq (hF172.1 86 (by decide)))))))).trans ((hp166 hlt).trans hv49)
                have hr481 : kk < 6 → rwv w467 86 (20 + 4 * kk + 1) = tnu B nn p_126 := fun hlt => by
                  rw [show 20 + 4 * kk + 1 = (20 + (4 * kk)) + 1 by omega]
                  exact ((rwv_eq (hF470.1 86 (by decide))).trans ((hp457 ((20 + (4 * kk)) + 1) (by omega) (by omega)).trans ((hp392 ((20 + (4 * kk)) + 1) (by omega) (by omega)).trans (rwv_eq (hF291.1 86 (by decide)))))).trans ((hp285 hlt).trans hv181)
                have hr482 : kk < 6 → rwv w467 86 (20 + 4 * kk + 2) = tnu B nn p_245 := fun hlt => by
                  rw [show 20 + 4 * kk + 2 = (20 + (4 * kk)) + 2 by omega]
                  exact ((rwv_eq (hF470.1 86 (by decide))).trans (hp457 ((20 + (4 * kk)) + 2) (by omega) (by omega))).trans ((hp391 hlt).trans hv300)
                have hr483 : kk < 6 → rwv w467 86 (20 + 4 * kk + 3) = (if twk B nn p_351 = 20325509 then 1 else 0) := fun hlt => by
                  rw [show 20 + 4 * kk + 3 = (20 + (4 * kk)) + 3 by omega]
                  exact (rwv_eq (hF470.1 86 (by decide))).trans ((hp456 hlt).trans sl458.symm)
                exact xg_e ⟨w467, ⟨rfl, rfl⟩, hI469, ((((((((hF40.up (by decide)).tr (hF164.up (by decide))).tr (hF172.up (by decide))).tr (hF283.up (by decide))).tr (hF291.up (by decide))).tr (hF389.up (by decide))).tr (hF454.up (by decide))).tr (hF470.up (by decide))), ⟨Or.inr ⟨p_126, p_245, p_351, p_475, hp127, hp246, hp352, hp476, hk47, hk179, hk298, hg4491, ln479, k10_477, hz472, (hF_304.k83 (rwv_eq ((hF470.1 83 (by decide)).trans ((hF454.1 83 (by decide)).trans (hF389.1 83 (by decide))))) (rwv_eq ((hF470.1 83 (by decide)).trans ((hF454.1 83 (by decide)).trans (hF389.1 83 (by decide)))))), fun hlt => ⟨hr480 hlt, hr481 hlt, hr482 hlt, hr483 hlt⟩⟩, k14_478, (((((((k8_44.tr (K83.fr hF164 (by decide))).tr k8_176).tr (K83.fr hF283 (by decide))).tr k8_295).tr (K83.fr hF389 (by decide))).tr (K83.fr hF454 (by decide))).tr (K83.fr hF470 (by decide))), (fun j hj hl => ((rwv_eq (hF470.1 86 (by decide))).trans ((hp457 j (by omega) hl).trans ((hp392 j (by omega) hl).trans ((rwv_eq (hF291.1 86 (by decide))).trans ((hp286 j (by omega) hl).trans ((rwv_eq (hF172.1 86 (by decide))).trans ((hp167 j (by omega) hl).trans (rwv_eq (hF40.1 86 (by decide)))))))))))⟩⟩
              · refine xg_t (xg_icT (u := f82_368) (v := 8) rfl xnm0 xnm0 (xj_neT hc450)) ?_
                refine xg_t (xg_blq rfl) ?_
                refine xg_t (xg_const) ?_
                refine xg_t (xg_blq rfl) ?_
                refine xg_cVv mX12_puts (vs := [(0, 0), (0, kk), (0, (20 + (4 * kk)) + 3), (0, 0)]) (rest := []) (cn1 := 0) (sl1 := 0) rfl (mPuts0 (hI388) (by omega) (by omega) (by omega) (fun _ => by omega)) rfl (hF389.get (by decide) h82_384) rfl rfl rfl rfl rfl rfl (fun w484 hq485 => ?_)
                obtain ⟨hI486, hF487, hx488⟩ := hq485
                obtain ⟨hp489, hp490⟩ := hx488
                refine xg_t (xg_aload (va := (2, 82)) rfl rfl) ?_
                have sl491 : (if twk B nn p_351 = 20325509 then 1 else 0) = 0 := by
                  by_cases y : twk B nn p_351 = 20325509
                  · rw [if_pos y] <;> omega
                  · rw [if_neg y] <;> omega
                clear ht395 ht396 ht397 ht398 ht399 ht400 ht401 ht402 ht403 hf404 hf405 hf406 hf407 hf408 hmk409 hg410
                obtain ⟨⟨ht492, ht493, ht494, ht495, ht496, ht497⟩, -⟩ := id (hT_303.fr ((hF487.1 82 (by decide)).trans (hF389.1 82 (by decide))))
                have hk498 := ((fld_eq (j := 10) ((hF487.1 82 (by decide)).trans (hF389.1 82 (by decide)))).trans k10_302)
                have hk499 := ((fld_eq (j := 14) ((hF487.1 82 (by decide)).trans (hF389.1 82 (by decide)))).trans k14_297)
                refine xg_cVv mX12_advance (vs := []) (rest := []) (cn1 := 0) (sl1 := 0) rfl (mAdvX (hI486) (hB.fr (fun j h4 h9 => ((((((k8_44.tr (K83.fr hF164 (by decide))).tr k8_176).tr (K83.fr hF283 (by decide))).tr k8_295).tr (K83.fr hF389 (by decide))).tr (K83.fr hF487 (by decide))) j (by omega) (by omega) (by omega))) ht492 ht493 (by rw [ht494]; exact tf_le ht497)) rfl (hF487.get (by decide) (hF389.get (by decide) h82_384)) rfl rfl rfl rfl rfl rfl (fun w500 hq501 => ?_)
                obtain ⟨hI502, hF503, hx504⟩ := hq501
                obtain ⟨hz505, hz506, hz507⟩ := hx504
                rw [ht494] at hz505
                clear ht492 ht493 ht494 ht495 ht496 ht497
                obtain ⟨p_508, hp509⟩ : ∃ x, x = tf B nn p_351 := ⟨_, rfl⟩
                rw [← hp509] at hz505
                have k10_510 := hz506.trans hk498
                have k14_511 := hz507.trans hk499
                clear hz506 hz507 hk498 hk499
                have ln512 : lnN B nn 0 3 p = lnS B nn p_508 := by rw [hp509]; exact ln353.trans (lnN_g hg449)
                have hr513 : kk < 6 → rwv w500 86 (20 + 4 * kk + 0) = tnu B nn p := fun hlt => by
                  rw [show 20 + 4 * kk + 0 = (20 + (4 * kk)) + 0 by omega]
                  exact ((rwv_eq (hF503.1 86 (by decide))).trans ((hp490 ((20 + (4 * kk)) + 0) (by omega) (by omega)).trans ((hp392 ((20 + (4 * kk)) + 0) (by omega) (by omega)).trans ((rwv_eq (hF291.1 86 (by decide))).trans ((hp286 ((20 + (4 * kk)) + 0) (by omega) (by omega)).trans (rwv_eq (hF172.1 86 (by decide)))))))).trans ((hp166 hlt).trans hv49)
                have hr514 : kk < 6 → rwv w500 86 (20 + 4 * kk + 1) = tnu B nn p_126 := fun hlt => by
                  rw [show 20 + 4 * kk + 1 = (20 + (4 * kk)) + 1 by omega]
                  exact ((rwv_eq (hF503.1 86 (by decide))).trans ((hp490 ((20 + (4 * kk)) + 1) (by omega) (by omega)).trans ((hp392 ((20 + (4 * kk)) + 1) (by omega) (by omega)).trans (rwv_eq (hF291.1 86 (by decide)))))).trans ((hp285 hlt).trans hv181)
                have hr515 : kk < 6 → rwv w500 86 (20 + 4 * kk + 2) = tnu B nn p_245 := fun hlt => by
                  rw [show 20 + 4 * kk + 2 = (20 + (4 * kk)) + 2 by omega]
                  exact ((rwv_eq (hF503.1 86 (by decide))).trans (hp490 ((20 + (4 * kk)) + 2) (by omega) (by omega))).trans ((hp391 hlt).trans hv300)
                have hr516 : kk < 6 → rwv w500 86 (20 + 4 * kk + 3) = (if twk B nn p_351 = 20325509 then 1 else 0) := fun hlt => by
                  rw [show 20 + 4 * kk + 3 = (20 + (4 * kk)) + 3 by omega]
                  exact (rwv_eq (hF503.1 86 (by decide))).trans ((hp489 hlt).trans sl491.symm)
                exact xg_e ⟨w500, ⟨rfl, rfl⟩, hI502, ((((((((hF40.up (by decide)).tr (hF164.up (by decide))).tr (hF172.up (by decide))).tr (hF283.up (by decide))).tr (hF291.up (by decide))).tr (hF389.up (by decide))).tr (hF487.up (by decide))).tr (hF503.up (by decide))), ⟨Or.inr ⟨p_126, p_245, p_351, p_508, hp127, hp246, hp352, hp509, hk47, hk179, hk298, hg4491, ln512, k10_510, hz505, (hF_304.k83 (rwv_eq ((hF503.1 83 (by decide)).trans ((hF487.1 83 (by decide)).trans (hF389.1 83 (by decide))))) (rwv_eq ((hF503.1 83 (by decide)).trans ((hF487.1 83 (by decide)).trans (hF389.1 83 (by decide)))))), fun hlt => ⟨hr513 hlt, hr514 hlt, hr515 hlt, hr516 hlt⟩⟩, k14_511, (((((((k8_44.tr (K83.fr hF164 (by decide))).tr k8_176).tr (K83.fr hF283 (by decide))).tr k8_295).tr (K83.fr hF389 (by decide))).tr (K83.fr hF487 (by decide))).tr (K83.fr hF503 (by decide))), (fun j hj hl => ((rwv_eq (hF503.1 86 (by decide))).trans ((hp490 j (by omega) hl).trans ((hp392 j (by omega) hl).trans ((rwv_eq (hF291.1 86 (by decide))).trans ((hp286 j (by omega) hl).trans ((rwv_eq (hF172.1 86 (by decide))).trans ((hp167 j (by omega) hl).trans (rwv_eq (hF40.1 86 (by decide)))))))))))⟩⟩
            · refine xg_t (xg_icF (u := f82_368) (v := 8) rfl xnm0 xnm0 (xj_eqF hc448)) ?_
              refine xg_t (xg_blq rfl) ?_
              have lf517n : ¬ (twk B nn p_351 = 277892 ∨ twk B nn p_351 = 20325509) := fun z => by
                by_cases y : tkd B nn p_351 = 1
                · have y2 := ht402 y
                  omega
                · omega
              have lf517 : lnN B nn 0 3 p = (false, p_351) := ln353.trans (lnN_gn lf517n)
              refine xg_t (xg_aload (va := (2, 82)) rfl rfl) ?_
              have hk518 := ((fld_eq (j := 14) (hF389.1 82 (by decide))).trans k14_297)
              have hk519 := (hT_303.fr (hF389.1 82 (by decide))).1.2.2.2.1
              clear ht395 ht396 ht397 ht398 ht399 ht400 ht401 ht402 ht403 hf404 hf405 hf406 hf407 hf408 hmk409 hg410
              refine xg_cVv mX12_ends (vs := []) (rest := []) (cn1 := 0) (sl1 := 0) rfl (mEndsX (hI388) ((fld_eq (j := 10) (hF389.1 82 (by decide))).trans k10_302)) rfl (hF389.get (by decide) h82_384) rfl rfl rfl rfl rfl rfl (fun w520 hq521 => ?_)
              obtain ⟨hI522, hF523, hx524⟩ := hq521
              obtain ⟨hv525, hv526, hv527, hv528, hv529⟩ := hx524
              have hW530 : WRG w520 (tq B nn p_351) := ⟨hv525, hv526, hv527.trans hk519⟩
              have k14_531 := hv528.trans hk518
              exact xg_e ⟨w520, ⟨rfl, rfl⟩, hI522, (((((((hF40.up (by decide)).tr (hF164.up (by decide))).tr (hF172.up (by decide))).tr (hF283.up (by decide))).tr (hF291.up (by decide))).tr (hF389.up (by decide))).tr (hF523.up (by decide))), ⟨Or.inl ⟨p_351, lf517, hW530⟩, k14_531, ((((((k8_44.tr (K83.fr hF164 (by decide))).tr k8_176).tr (K83.fr hF283 (by decide))).tr k8_295).tr (K83.fr hF389 (by decide))).tr hv529), (fun j hj hl => ((rwv_eq (hF523.1 86 (by decide))).trans ((hp392 j (by omega) hl).trans ((rwv_eq (hF291.1 86 (by decide))).trans ((hp286 j (by omega) hl).trans ((rwv_eq (hF172.1 86 (by decide))).trans ((hp167 j (by omega) hl).trans (rwv_eq (hF40.1 86 (by decide))))))))))⟩⟩
        · refine xg_t (xg_icT (u := f82_364) (v := 3) rfl xnm0 xnm0 (xj_neT hc411)) ?_
          refine xg_t (xg_blq rfl) ?_
          have lf532n : ¬ (twk B nn p_351 = 277892 ∨ twk B nn p_351 = 20325509) := fun z => by
            by_cases y : tkd B nn p_351 = 1
            · have y2 := ht402 y
              omega
            · omega
          have lf532 : lnN B nn 0 3 p = (false, p_351) := ln353.trans (lnN_gn lf532n)
          refine xg_t (xg_aload (va := (2, 82)) rfl rfl) ?_
          have hk533 := ((fld_eq (j := 14) (hF389.1 82 (by decide))).trans k14_297)
          have hk534 := (hT_303.fr (hF389.1 82 (by decide))).1.2.2.2.1
          clear ht395 ht396 ht397 ht398 ht399 ht400 ht401 ht402 ht403 hf404 hf405 hf406 hf407 hf408 hmk409 hg410
          refine xg_cVv mX12_ends (vs := []) (rest := []) (cn1 := 0) (sl1 := 0) rfl (mEndsX (hI388) ((fld_eq (j := 10) (hF389.1 82 (by decide))).trans k10_302)) rfl (hF389.get (by decide) h82_384) rfl rfl rfl rfl rfl rfl (fun w535 hq536 => ?_)
          obtain ⟨hI537, hF538, hx539⟩ := hq536
          obtain ⟨hv540, hv541, hv542, hv543, hv544⟩ := hx539
          have hW545 : WRG w535 (tq B nn p_351) := ⟨hv540, hv541, hv542.trans hk534⟩
          have k14_546 := hv543.trans hk533
          exact xg_e ⟨w535, ⟨rfl, rfl⟩, hI537, (((((((hF40.up (by decide)).tr (hF164.up (by decide))).tr (hF172.up (by decide))).tr (hF283.up (by decide))).tr (hF291.up (by decide))).tr (hF389.up (by decide))).tr (hF538.up (by decide))), ⟨Or.inl ⟨p_351, lf532, hW545⟩, k14_546, ((((((k8_44.tr (K83.fr hF164 (by decide))).tr k8_176).tr (K83.fr hF283 (by decide))).tr k8_295).tr (K83.fr hF389 (by decide))).tr hv544), (fun j hj hl => ((rwv_eq (hF538.1 86 (by decide))).trans ((hp392 j (by omega) hl).trans ((rwv_eq (hF291.1 86 (by decide))).trans ((hp286 j (by omega) hl).trans ((rwv_eq (hF172.1 86 (by decide))).trans ((hp167 j (by omega) hl).trans (rwv_eq (hF40.1 86 (by decide))))))))))⟩⟩
end XFMD
end
section
/-! the model: a line of each sort -/
theorem TKM.w14 {ir : Nat} {B : Nat → Nat} {nn p : Nat} {w w' : List (List xE)} (h : TKM ir B nn w p) (e2 : fld w' 82 2 = fld w 82 2) (e3 : fld w' 82 3 = fld w 82 3) (e4 : fld w' 82 4 = fld w 82 4) (e5 : fld w' 82 5 = fld w 82 5) (e6 : fld w' 82 6 = fld w 82 6) (e7 : fld w' 82 7 = fld w 82 7) (e8 : fld w' 82 8 = fld w 82 8) (e9 : fld w' 82 9 = fld w 82 9) : TKM ir B nn w' p := by
  unfold TKM
  rw [e2, e3, e4, e5, e6, e7, e8, e9]
  exact h
section XFME
variable {d : Nat} {w : List (List xE)} {bd : List (Nat × Nat)} {fc : List (Nat × Nat × Bool)} {rr : Nat × Nat}
set_option maxHeartbeats 60000000 in
theorem mALnX0 {B : Nat → Nat} {nn k p0 : Nat} {at_ : Nat} (hI : xMnv w) (hB : bsm w B nn) (hp0 : p0 = lnP B nn k) (hT : TKM 0 B nn w p0) (hS : MST B nn w k) (hk5 : k ≤ 500) (hs : slt B nn (lnP B nn k) = 0) (hat : at_ = tq B nn p0) : xTo (d + 7) mX12_aLine (43, [], [(2, (0, at_)), (1, (0, 0)), (0, (2, 82))], [], (w, bd, fc, 0, 0, rr)) (fun φ => ∃ w', xEnd 0 [] (w', bd, fc, 0, 0, rr) φ ∧ xMnv w' ∧ xFr [82, 83, 85, 86, 87] w w' ∧ (((∃ q, lnR B nn p0 = (false, q) ∧ WRG w' (tq B nn q)) ∨ ((lnR B nn p0).1 = true ∧ TKM 0 B nn w' (lnP B nn (k + 1)) ∧ MST B nn w' (k + 1))) ∧ K83 w w' ∧ fld w 82 14 ≤ fld w' 82 14)) := by
  refine xoCh82 (xqc82 hI : cp82 (wget w 82)) (fun f82_1 f82_3 f82_5 f82_7 f82_9 f82_11 f82_13 f82_15 f82_17 f82_19 f82_21 f82_22 f82_23 f82_25 f82_27 f82_29 h82_31 hb2 hb4 hb6 hb8 hb10 hb12 hb14 hb16 hb18 hb20 hb24 hb26 hb28 hb30 hb32 => ?_)
  refine xoI (xqc85 hI : cpI 7 52 4294967295 (wget w 85)) (fun g85_33 h85_34 hb35 => ?_)
  refine xoI (xqc86 hI : cpI 140 53 4294967295 (wget w 86)) (fun g86_36 h86_37 hb38 => ?_)
  refine xoI (xqc87 hI : cpI 20 54 4294967295 (wget w 87)) (fun g87_39 h87_40 hb41 => ?_)
  obtain ⟨⟨z10, z14, zF, zp⟩, hm, hR⟩ := id hS
  have hkc := lnC_k (B := B) (n := nn) (s := 0) (k := k)
  have hq0 : at_ ≤ 500 := by
    have z1 := tf_gt (B := B) (n := nn) (p := p0) (by rw [slt_kd (by rw [hp0, hs]; decide)]; decide)
    have z2 := hB.1
    omega
  refine xg_t (xg_blq rfl) ?_
  refine xg_t (xg_aload (va := (2, 82)) rfl rfl) ?_
  refine xg_t (xg_getf (va := (2, 85)) h82_31 rfl) ?_
  refine xg_t (xg_iload (va := (0, 0)) rfl rfl) ?_
  refine xg_ialdB (n := 0) (B := 4294967295) h85_34 (hb35) xnm0 (by first | decide | omega) (fun u42 hu43 he44 => ?_)
  have hK45 : u42 = lnC B nn 0 k := (((rwv_of h85_34 (by decide)).trans he44).symm).trans (hm 0 (by decide))
  have hl46 : u42 ≤ 500 := by omega
  refine xg_t (xg_istore (l1 := [(2, (0, at_)), (1, (0, 0)), (0, (2, 82))]) rfl rfl rfl) ?_
  have jn47 : ∀ (w48 : List (List xE)), xMnv w48 → xFr [82, 83, 85, 86, 87] w w48 → (FP w48 (mf1 B nn k 0 (flA B nn k)) ∧ fld w48 82 10 = 0 ∧ TKM 0 B nn w48 p0 ∧ fld w48 82 14 = k ∧ K83 w w48 ∧ wget w48 85 = wget w 85 ∧ wget w48 86 = wget w 86 ∧ wget w48 87 = wget w 87) → xTo (d + 7) mX12_aLine (64, [], [(0, (2, 82)), (1, (0, 0)), (2, (0, at_)), (3, (0, u42))], [], (w48, bd, fc, 0, 0, rr)) (fun φ => ∃ w', xEnd 0 [] (w', bd, fc, 0, 0, rr) φ ∧ xMnv w' ∧ xFr [82, 83, 85, 86, 87] w w' ∧ (((∃ q, lnR B nn p0 = (false, q) ∧ WRG w' (tq B nn q)) ∨ ((lnR B nn p0).1 = true ∧ TKM 0 B nn w' (lnP B nn (k + 1)) ∧ MST B nn w' (k + 1))) ∧ K83 w w' ∧ fld w 82 14 ≤ fld w' 82 14)) := by
    intro w48 hI49 hF50 he51
    obtain ⟨hj52, hj53, hj54, hj55, hj56, hj57, hj58, hj59⟩ := he51
    refine xg_t (xg_blq rfl) ?_
    refine xg_t (xg_aload (va := (2, 82)) rfl rfl) ?_
    obtain ⟨⟨ht60, ht61, ht62, ht63, ht64, ht65⟩, -⟩ := id hj54
    have hk66 := hj53
    have hk67 := hj55
    refine xoCh82 (xqc82 hI49 : cp82 (wget w48 82)) (fun f82_68 f82_70 f82_72 f82_74 f82_76 f82_78 f82_80 f82_82 f82_84 f82_86 f82_88 f82_89 f82_90 f82_92 f82_94 f82_96 h82_98 hb69 hb71 hb73 hb75 hb77 hb79 hb81 hb83 hb85 hb87 hb91 hb93 hb95 hb97 hb99 => ?_)
    refine xg_cVv mX12_advance (vs := []) (rest := []) (cn1 := 0) (sl1 := 0) rfl (mAdvX (hI49) (hB.fr (fun j h4 h9 => hj56 j (by omega) (by omega) (by omega))) ht60 ht61 (by rw [ht62]; exact tf_le ht65)) rfl h82_98 rfl rfl rfl rfl rfl rfl (fun w100 hq101 => ?_)
    obtain ⟨hI102, hF103, hx104⟩ := hq101
    obtain ⟨hz105, hz106, hz107⟩ := hx104
    rw [ht62] at hz105
    clear ht60 ht61 ht62 ht63 ht64 ht65
    obtain ⟨p_108, hp109⟩ : ∃ x, x = tf B nn p0 := ⟨_, rfl⟩
    rw [← hp109] at hz105
    have k10_110 := hz106.trans hk66
    have k14_111 := hz107.trans hk67
    clear hz106 hz107 hk66 hk67
    have ln112 : lnR B nn p0 = lnN B nn 0 3 p_108 := by rw [hp109]; exact lnR_go (by rw [hp0]; exact hs) (by decide)
    refine xg_t (xg_iload (va := (0, 0)) rfl rfl) ?_
    refine xg_t (xg_swt (ks := [(0, 108), (1, 116), (2, 180), (3, 221), (4, 273), (5, 326)]) (u := 0) (z := 108) rfl rfl rfl xnm0 (xsw_y rfl)) ?_
    refine xg_t (xg_blq rfl) ?_
    refine xg_t (xg_aload (va := (2, 82)) rfl rfl) ?_
    refine xg_t (xg_iload (va := (0, u42)) rfl rfl) ?_
    have hk113 := k14_111
    refine xoCh82 (xqc82 hI102 : cp82 (wget w100 82)) (fun f82_114 f82_116 f82_118 f82_120 f82_122 f82_124 f82_126 f82_128 f82_130 f82_132 f82_134 f82_135 f82_136 f82_138 f82_140 f82_142 h82_144 hb115 hb117 hb119 hb121 hb123 hb125 hb127 hb129 hb131 hb133 hb137 hb139 hb141 hb143 hb145 => ?_)
    refine xg_cVv mX12_aLayer (vs := [(0, u42)]) (rest := []) (cn1 := 0) (sl1 := 0) rfl (mALayX (hI102) (by omega) (hB.fr (fun j h4 h9 => (hj56.tr (K83.fr hF103 (by decide))) j (by omega) (by omega) (by omega))) k10_110 hz105 (hj52.k83 (rwv_eq (hF103.1 83 (by decide))) (rwv_eq (hF103.1 83 (by decide))))) rfl h82_144 rfl rfl rfl rfl rfl rfl (fun w146 hq147 => ?_)
    obtain ⟨hI148, hF149, hx150⟩ := hq147
    obtain ⟨hx151, h14_152, k8_153, os_154⟩ := hx150
    have k14_155 := h14_152.trans hk113
    rcases hx151 with ⟨q_156, lf157, hW158⟩ | ⟨p_159, p_160, p_161, p_162, hp163, hp164, hp165, hp166, hk167, hk168, hk169, hk170, ln171, k10_172, hT_173, hF_174, hc_175⟩
    · have lf176 : lnR B nn p0 = (false, q_156) := ln112.trans lf157
      refine xg_t (xg_goto) ?_
      refine xg_t (xg_blq rfl) ?_
      refine xg_t (xg_aload (va := (2, 82)) rfl rfl) ?_
      refine xoCh82 (xqc82 hI148 : cp82 (wget w146 82)) (fun f82_177 f82_179 f82_181 f82_183 f82_185 f82_187 f82_189 f82_191 f82_193 f82_195 f82_197 f82_198 f82_199 f82_201 f82_203 f82_205 h82_207 hb178 hb180 hb182 hb184 hb186 hb188 hb190 hb192 hb194 hb196 hb200 hb202 hb204 hb206 hb208 => ?_)
      refine xg_t (xg_getf (va := (0, f82_193)) h82_207 rfl) ?_
      have hf209 : fld w146 82 10 = f82_193 := fld_of h82_207
      have hk210 : fld w146 82 10 ≠ 0 := (by have q := hW158.1; omega)
      refine xg_t (xg_ifT (u := f82_193) rfl xnm0 (xj_neT (by omega))) ?_
      refine xg_t (xg_blq rfl) ?_
      refine xg_t (xg_aload (va := (2, 82)) rfl rfl) ?_
      refine xg_cVv mX12_ends (vs := []) (rest := []) (cn1 := 0) (sl1 := 0) rfl (mEndsW (hI148) (by have q := hW158.1; omega)) rfl h82_207 rfl rfl rfl rfl rfl rfl (fun w211 hq212 => ?_)
      obtain ⟨hI213, hF214⟩ := hq212
      refine xg_t (xg_blq rfl) ?_
      have hf215 : fld w211 82 10 = f82_193 := fld_of (hF214.get (by decide) h82_207)
      have hf216 : fld w211 82 14 = f82_195 := fld_of (hF214.get (by decide) h82_207)
      have hk217 := ((fld_eq (j := 14) (hF214.1 82 (by decide))).trans k14_155)
      have hl218 : f82_195 ≤ 500 := by omega
      have hk219 : WRG w211 (tq B nn q_156) := ⟨(fld_eq (j := 10) (hF214.1 82 (by decide))).trans hW158.1, (rwv_eq (j := 16) (hF214.1 83 (by decide))).trans hW158.2.1, (rwv_eq (j := 17) (hF214.1 83 (by decide))).trans hW158.2.2⟩
      refine xg_t (xg_aload (va := (2, 82)) rfl rfl) ?_
      refine xg_t (xg_getf (va := (2, 85)) (hF214.get (by decide) h82_207) rfl) ?_
      refine xg_t (xg_iload (va := (0, 0)) rfl rfl) ?_
      refine xg_t (xg_dup2 rfl) ?_
      refine xoI (xqc85 hI213 : cpI 7 52 4294967295 (wget w211 85)) (fun g85_220 h85_221 hb222 => ?_)
      refine xg_ialdB (n := 0) (B := 4294967295) h85_221 (hb222) xnm0 (by first | decide | omega) (fun u223 hu224 he225 => ?_)
      have hK226 : u223 = u42 := (((rwv_of h85_221 (by decide)).trans he225).symm.trans (rwv_eq ((hF214.1 85 (by decide)).trans ((hF149.1 85 (by decide)).trans ((hF103.1 85 (by decide)).trans hj57))))).trans ((hm 0 (by decide)).trans hK45.symm)
      have hl227 : u223 ≤ 500 := by omega
      refine xg_t (xg_const) ?_
      refine xg_t (xg_iadd (u := u223) (v := 1) (z := u223 + 1) xnm0 xnm0 (by omega)) ?_
      refine xg_iastK (n := 0) (u := u223 + 1) h85_221 xnm0 xnm0 rfl (by first | decide | omega) (fun w228 hr229 hb230 => ?_)
      refine xg_t (xg_aload (va := (2, 82)) rfl rfl) ?_
      refine xg_t (xg_dup rfl) ?_
      refine xg_t (xg_getf (va := (0, f82_195)) (hb230.get (by decide) (hF214.get (by decide) h82_207)) rfl) ?_
      have hn231 := id hb196
      unfold xHid at hn231
      refine xg_t (xg_const) ?_
      refine xg_t (xg_iadd (u := f82_195) (v := 1) (z := f82_195 + 1) xnm0 xnm0 (by omega)) ?_
      refine xg_putI (fl1 := [(2, 83), (2, 84), (0, f82_177), (0, f82_179), (0, f82_181), (0, f82_183), (0, f82_185), (0, f82_187), (0, f82_189), (0, f82_191), (0, f82_193), (2, 85), (2, 86), (2, 87), (0, f82_195 + 1), (2, 88), (2, 89), (2, 90), (2, 91), (2, 92), (2, 93), (2, 94), (4, f82_197), (4, f82_198), (0, f82_199), (2, 95), (2, 96), (2, 97), (2, 98), (2, 99), (2, 100), (2, 101), (2, 102), (0, f82_201), (2, 103), (2, 104), (2, 105), (2, 106), (2, 107), (2, 108), (2, 109), (0, f82_203), (0, f82_205), (2, 110), (2, 111), (2, 112), (2, 113)]) (hb230.get (by decide) (hF214.get (by decide) h82_207)) rfl rfl rfl (fun w232 hk233 hb234 => ?_)
      have hf235 : fld w232 82 10 = f82_193 := fld_of hk233
      have hf236 : fld w232 82 14 = f82_195 + 1 := fld_of hk233
      exact xg_e ⟨w232, ⟨rfl, rfl⟩, xMnv.up (S := [85, 82]) hI213 ((xFr.of (S := [85, 82]) hb230 (by decide)).tr (xFr.of (S := [85, 82]) hb234 (by decide))) (List.forall_mem_cons.mpr ⟨xqu85 (show cpI 7 52 4294967295 (wget w232 85) from ⟨_, (hr229.but hb234 (by decide)), xrb (by omega) (hb222)⟩), List.forall_mem_cons.mpr ⟨xqu82 (show cp82 (wget w232 82) from xmC82 f82_177 f82_179 f82_181 f82_183 f82_185 f82_187 f82_189 f82_191 f82_193 (f82_195 + 1) f82_197 f82_198 f82_199 f82_201 f82_203 f82_205 hk233 hb178 hb180 hb182 hb184 hb186 hb188 hb190 hb192 hb194 (by omega) hb200 hb202 hb204 hb206 (by omega)), fun _ h => absurd h List.not_mem_nil⟩⟩), ((((hF50.tr (hF103.up (by decide))).tr (hF149.up (by decide))).tr (hF214.up (by decide))).tr ((xFr.of (S := [82, 83, 85, 86, 87]) hb230 (by decide)).tr (xFr.of (S := [82, 83, 85, 86, 87]) hb234 (by decide)))), ⟨Or.inl ⟨q_156, lf176, ⟨by have z := hk219.1; omega, (rwv_eq (j := 16) ((hb234.1 83 (by decide)).trans (hb230.1 83 (by decide)))).trans hk219.2.1, (rwv_eq (j := 17) ((hb234.1 83 (by decide)).trans (hb230.1 83 (by decide)))).trans hk219.2.2⟩⟩, (((((hj56.tr (K83.fr hF103 (by decide))).tr k8_153).tr (K83.fr hF214 (by decide))).tr (K83.but hb230 (by decide))).tr (K83.but hb234 (by decide))), by omega⟩⟩
    · have ln237 : lnR B nn p0 = lnS B nn p_162 := by exact ln112.trans ln171
      have vp238 : vlp B nn (lnP B nn k) 0 = p_108 := by rw [← hp0]; exact hp109.symm
      have vl239 : vln B nn (lnP B nn k) 0 = tnu B nn p_108 := by
        show (if (0 : Nat) = 3 then _ else tnu B nn (vlp B nn (lnP B nn k) 0)) = _
        rw [if_neg (by decide), vp238]
      have vp240 : vlp B nn (lnP B nn k) 1 = p_159 := by show tf B nn (vlp B nn (lnP B nn k) 0) = p_159; rw [vp238]; exact hp163.symm
      have vl241 : vln B nn (lnP B nn k) 1 = tnu B nn p_159 := by
        show (if (1 : Nat) = 3 then _ else tnu B nn (vlp B nn (lnP B nn k) 1)) = _
        rw [if_neg (by decide), vp240]
      have vp242 : vlp B nn (lnP B nn k) 2 = p_160 := by show tf B nn (vlp B nn (lnP B nn k) 1) = p_160; rw [vp240]; exact hp164.symm
      have vl243 : vln B nn (lnP B nn k) 2 = tnu B nn p_160 := by
        show (if (2 : Nat) = 3 then _ else tnu B nn (vlp B nn (lnP B nn k) 2)) = _
        rw [if_neg (by decide), vp242]
      have vp244 : vlp B nn (lnP B nn k) 3 = p_161 := by show tf B nn (vlp B nn (lnP B nn k) 2) = p_161; rw [vp242]; exact hp165.symm
      have vl245 : vln B nn (lnP B nn k) 3 = (if twk B nn p_161 = 20325509 then 1 else 0) := by
        show (if (3 : Nat) = 3 then (if twk B nn (vlp B nn (lnP B nn k) 3) = 20325509 then 1 else 0) else _) = _
        rw [if_pos rfl, vp244]
      have he246 : (chk (chk (chk (mf1 B nn k 0 (flA B nn k)) 1 99 (tnu B nn p_108) (tq B nn p_108)) 1 99 (tnu B nn p_159) (tq B nn p_159)) 1 99 (tnu B nn p_160) (tq B nn p_160)) = mfl B nn k 0 (flA B nn k) := by
        show _ = chk (chk (chk (mf1 B nn k 0 (flA B nn k)) 1 99 (vln B nn (lnP B nn k) 0) (tq B nn (vlp B nn (lnP B nn k) 0))) 1 99 (vln B nn (lnP B nn k) 1) (tq B nn (vlp B nn (lnP B nn k) 1))) 1 99 (vln B nn (lnP B nn k) 2) (tq B nn (vlp B nn (lnP B nn k) 2))
        rw [vl239, vl241, vl243, vp238, vp240, vp242]
      rw [he246] at hF_174
      refine xg_t (xg_goto) ?_
      refine xg_t (xg_blq rfl) ?_
      refine xg_t (xg_aload (va := (2, 82)) rfl rfl) ?_
      refine xoCh82 (xqc82 hI148 : cp82 (wget w146 82)) (fun f82_247 f82_249 f82_251 f82_253 f82_255 f82_257 f82_259 f82_261 f82_263 f82_265 f82_267 f82_268 f82_269 f82_271 f82_273 f82_275 h82_277 hb248 hb250 hb252 hb254 hb256 hb258 hb260 hb262 hb264 hb266 hb270 hb272 hb274 hb276 hb278 => ?_)
      refine xg_t (xg_getf (va := (0, f82_263)) h82_277 rfl) ?_
      have hf279 : fld w146 82 10 = f82_263 := fld_of h82_277
      have hk280 : fld w146 82 10 = 0 := k10_172
      refine xg_t (xg_ifF (u := f82_263) rfl xnm0 (xj_neF (by omega))) ?_
      obtain ⟨⟨ht281, ht282, ht283, ht284, ht285, ht286⟩, ht287, ht288, ht289⟩ := id hT_173
      have hf290 : fld w146 82 6 = f82_255 := fld_of h82_277
      have hf291 : fld w146 82 7 = f82_257 := fld_of h82_277
      have hf292 : fld w146 82 8 = f82_259 := fld_of h82_277
      have hf293 : fld w146 82 9 = f82_261 := fld_of h82_277
      have hf294 : fld w146 82 3 = f82_249 := fld_of h82_277
      have hmk295 := mkd_of (ir := 0) (B := B) (n := nn) (p := p_162)
      refine xg_t (xg_aload (va := (2, 82)) rfl rfl) ?_
      refine xg_t (xg_getf (va := (0, f82_257)) h82_277 rfl) ?_
      refine xg_t (xg_const) ?_
      by_cases hc296 : f82_257 = 2
      · refine xg_t (xg_icF (u := f82_257) (v := 2) rfl xnm0 xnm0 (xj_neF hc296)) ?_
        have sg2971 : tkd B nn p_162 = 3 := by omega
        have sg2972 : B (tq B nn p_162) = 59 := by omega
        refine xg_t (xg_aload (va := (2, 82)) rfl rfl) ?_
        clear ht281 ht282 ht283 ht284 ht285 ht286 ht287 ht288 ht289 hf290 hf291 hf292 hf293 hf294 hmk295
        obtain ⟨⟨ht298, ht299, ht300, ht301, ht302, ht303⟩, -⟩ := id hT_173
        have hk304 := k10_172
        have hk305 := k14_155
        refine xg_cVv mX12_advance (vs := []) (rest := []) (cn1 := 0) (sl1 := 0) rfl (mAdvX (hI148) (hB.fr (fun j h4 h9 => ((hj56.tr (K83.fr hF103 (by decide))).tr k8_153) j (by omega) (by omega) (by omega))) ht298 ht299 (by rw [ht300]; exact tf_le ht303)) rfl h82_277 rfl rfl rfl rfl rfl rfl (fun w306 hq307 => ?_)
        obtain ⟨hI308, hF309, hx310⟩ := hq307
        obtain ⟨hz311, hz312, hz313⟩ := hx310
        rw [ht300] at hz311
        clear ht298 ht299 ht300 ht301 ht302 ht303
        obtain ⟨p_314, hp315⟩ : ∃ x, x = tf B nn p_162 := ⟨_, rfl⟩
        rw [← hp315] at hz311
        have k10_316 := hz312.trans hk304
        have k14_317 := hz313.trans hk305
        clear hz312 hz313 hk304 hk305
        have ln318 : lnR B nn p0 = (true, p_314) := by rw [hp315]; exact ln237.trans (lnS_y ⟨sg2971, sg2972⟩)
        refine xg_t (xg_goto) ?_
        refine xg_t (xg_blq rfl) ?_
        refine xoCh82 (xqc82 hI308 : cp82 (wget w306 82)) (fun f82_319 f82_321 f82_323 f82_325 f82_327 f82_329 f82_331 f82_333 f82_335 f82_337 f82_339 f82_340 f82_341 f82_343 f82_345 f82_347 h82_349 hb320 hb322 hb324 hb326 hb328 hb330 hb332 hb334 hb336 hb338 hb342 hb344 hb346 hb348 hb350 => ?_)
        have hf351 : fld w306 82 10 = f82_335 := fld_of h82_349
        have hf352 : fld w306 82 14 = f82_337 := fld_of h82_349
        have hk353 := k14_317
        have hl354 : f82_337 ≤ 500 := by omega
        have hk355 := hz311
        have hk356 := (hF_174.k83 (rwv_eq (hF309.1 83 (by decide))) (rwv_eq (hF309.1 83 (by decide))))
        have hk357 := k10_316
        refine xg_t (xg_aload (va := (2, 82)) rfl rfl) ?_
        refine xg_t (xg_getf (va := (2, 85)) h82_349 rfl) ?_
        refine xg_t (xg_iload (va := (0, 0)) rfl rfl) ?_
        refine xg_t (xg_dup2 rfl) ?_
        refine xoI (xqc85 hI308 : cpI 7 52 4294967295 (wget w306 85)) (fun g85_358 h85_359 hb360 => ?_)
        refine xg_ialdB (n := 0) (B := 4294967295) h85_359 (hb360) xnm0 (by first | decide | omega) (fun u361 hu362 he363 => ?_)
        have hK364 : u361 = u42 := (((rwv_of h85_359 (by decide)).trans he363).symm.trans (rwv_eq ((hF309.1 85 (by decide)).trans ((hF149.1 85 (by decide)).trans ((hF103.1 85 (by decide)).trans hj57))))).trans ((hm 0 (by decide)).trans hK45.symm)
        have hl365 : u361 ≤ 500 := by omega
        refine xg_t (xg_const) ?_
        refine xg_t (xg_iadd (u := u361) (v := 1) (z := u361 + 1) xnm0 xnm0 (by omega)) ?_
        refine xg_iastK (n := 0) (u := u361 + 1) h85_359 xnm0 xnm0 rfl (by first | decide | omega) (fun w366 hr367 hb368 => ?_)
        refine xg_t (xg_aload (va := (2, 82)) rfl rfl) ?_
        refine xg_t (xg_dup rfl) ?_
        refine xg_t (xg_getf (va := (0, f82_337)) (hb368.get (by decide) h82_349) rfl) ?_
        have hn369 := id hb338
        unfold xHid at hn369
        refine xg_t (xg_const) ?_
        refine xg_t (xg_iadd (u := f82_337) (v := 1) (z := f82_337 + 1) xnm0 xnm0 (by omega)) ?_
        refine xg_putI (fl1 := [(2, 83), (2, 84), (0, f82_319), (0, f82_321), (0, f82_323), (0, f82_325), (0, f82_327), (0, f82_329), (0, f82_331), (0, f82_333), (0, f82_335), (2, 85), (2, 86), (2, 87), (0, f82_337 + 1), (2, 88), (2, 89), (2, 90), (2, 91), (2, 92), (2, 93), (2, 94), (4, f82_339), (4, f82_340), (0, f82_341), (2, 95), (2, 96), (2, 97), (2, 98), (2, 99), (2, 100), (2, 101), (2, 102), (0, f82_343), (2, 103), (2, 104), (2, 105), (2, 106), (2, 107), (2, 108), (2, 109), (0, f82_345), (0, f82_347), (2, 110), (2, 111), (2, 112), (2, 113)]) (hb368.get (by decide) h82_349) rfl rfl rfl (fun w370 hk371 hb372 => ?_)
        have hf373 : fld w370 82 10 = f82_335 := fld_of hk371
        have hf374 : fld w370 82 14 = f82_337 + 1 := fld_of hk371
        have he375 : lnP B nn (k + 1) = p_314 := by
          show (lnR B nn (lnP B nn k)).2 = _
          rw [← hp0, ln318]
        have hT376 : TKM 0 B nn w370 p_314 := hk355.w14 ((show fld w370 82 2 = f82_319 from fld_of hk371).trans (show fld w306 82 2 = f82_319 from fld_of h82_349).symm) ((show fld w370 82 3 = f82_321 from fld_of hk371).trans (show fld w306 82 3 = f82_321 from fld_of h82_349).symm) ((show fld w370 82 4 = f82_323 from fld_of hk371).trans (show fld w306 82 4 = f82_323 from fld_of h82_349).symm) ((show fld w370 82 5 = f82_325 from fld_of hk371).trans (show fld w306 82 5 = f82_325 from fld_of h82_349).symm) ((show fld w370 82 6 = f82_327 from fld_of hk371).trans (show fld w306 82 6 = f82_327 from fld_of h82_349).symm) ((show fld w370 82 7 = f82_329 from fld_of hk371).trans (show fld w306 82 7 = f82_329 from fld_of h82_349).symm) ((show fld w370 82 8 = f82_331 from fld_of hk371).trans (show fld w306 82 8 = f82_331 from fld_of h82_349).symm) ((show fld w370 82 9 = f82_333 from fld_of hk371).trans (show fld w306 82 9 = f82_333 from fld_of h82_349).symm)
        have hF377 : FP w370 (mfl B nn k 0 (flA B nn k)) := hk356.k83 (rwv_eq ((hb372.1 83 (by decide)).trans (hb368.1 83 (by decide)))) (rwv_eq ((hb372.1 83 (by decide)).trans (hb368.1 83 (by decide))))
        have hg379 := (tf_gt (B := B) (n := nn) (p := p_108) (by omega)).2
        have hg380 := tq_ge (B := B) (n := nn) (p := p_108)
        have hg381 := (tf_gt (B := B) (n := nn) (p := p_159) (by omega)).2
        have hg382 := tq_ge (B := B) (n := nn) (p := p_159)
        have hg383 := (tf_gt (B := B) (n := nn) (p := p_160) (by omega)).2
        have hg384 := tq_ge (B := B) (n := nn) (p := p_160)
        have hg385 := (tf_gt (B := B) (n := nn) (p := p0) (by rw [slt_kd (by rw [hp0, hs]; decide)]; decide)).2
        have hg386 := (tf_gt (B := B) (n := nn) (p := p_161) (by omega)).2
        have hg387 := tq_ge (B := B) (n := nn) (p := p_161)
        have hg388 := (tf_gt (B := B) (n := nn) (p := p_162) (by omega)).2
        have hg389 := tq_ge (B := B) (n := nn) (p := p_162)
        have hg390 := tq_ge (B := B) (n := nn) (p := p_314)
        have hp1x := hp109
        have hO378 : ORD B nn k 0 (tq B nn (lnP B nn (k + 1))) := by
          unfold ORD
          rw [he375, vp238, vp240, ← hp0]
          have v2 := congrArg (tq B nn) vp242
          have v3 : tq B nn (vlp B nn p0 2) = tq B nn p_160 := by rw [hp0]; exact v2
          exact ⟨by omega, by omega, fun _ => by omega, by omega, fun _ => by omega⟩
        have hM391 : rwv w370 85 0 = lnC B nn 0 k + 1 := (rwv_of (hr367.but hb372 (by decide)) (by decide)).trans ((if_pos rfl).trans (by omega))
        have hM392 : ∀ s, s < 7 → s ≠ 0 → rwv w370 85 s = rwv w 85 s := fun s hs hn => (rwv_of (hr367.but hb372 (by decide)) hs).trans ((if_neg hn).trans ((rwv_of h85_359 hs).symm.trans (rwv_eq ((hF309.1 85 (by decide)).trans ((hF149.1 85 (by decide)).trans ((hF103.1 85 (by decide)).trans hj57))))))
        have hr393 : lnC B nn 0 k < 6 → ∀ t, t < 4 → XM w370 0 (lnC B nn 0 k) t = vln B nn (lnP B nn k) t := fun hlt t ht => by
          rcases (show t = 0 ∨ t = 1 ∨ t = 2 ∨ t = 3 by omega) with rfl | rfl | rfl | rfl
          · show rwv w370 86 (20 + 4 * lnC B nn 0 k + 0) = _
            rw [show 20 + 4 * lnC B nn 0 k + 0 = 20 + 4 * u42 + 0 by omega]
            exact ((rwv_eq (hb372.1 86 (by decide))).trans ((rwv_eq (hb368.1 86 (by decide))).trans (rwv_eq (hF309.1 86 (by decide))))).trans (((hc_175 (by omega)).1).trans vl239.symm)
          · show rwv w370 86 (20 + 4 * lnC B nn 0 k + 1) = _
            rw [show 20 + 4 * lnC B nn 0 k + 1 = 20 + 4 * u42 + 1 by omega]
            exact ((rwv_eq (hb372.1 86 (by decide))).trans ((rwv_eq (hb368.1 86 (by decide))).trans (rwv_eq (hF309.1 86 (by decide))))).trans (((hc_175 (by omega)).2.1).trans vl241.symm)
          · show rwv w370 86 (20 + 4 * lnC B nn 0 k + 2) = _
            rw [show 20 + 4 * lnC B nn 0 k + 2 = 20 + 4 * u42 + 2 by omega]
            exact ((rwv_eq (hb372.1 86 (by decide))).trans ((rwv_eq (hb368.1 86 (by decide))).trans (rwv_eq (hF309.1 86 (by decide))))).trans (((hc_175 (by omega)).2.2.1).trans vl243.symm)
          · show rwv w370 86 (20 + 4 * lnC B nn 0 k + 3) = _
            rw [show 20 + 4 * lnC B nn 0 k + 3 = 20 + 4 * u42 + 3 by omega]
            exact ((rwv_eq (hb372.1 86 (by decide))).trans ((rwv_eq (hb368.1 86 (by decide))).trans (rwv_eq (hF309.1 86 (by decide))))).trans (((hc_175 (by omega)).2.2.2).trans vl245.symm)
        have ho394 : ∀ j, (j < 20 + 4 * lnC B nn 0 k ∨ 20 + 4 * (lnC B nn 0 k + 1) ≤ j) → j < 140 → rwv w370 86 j = rwv w 86 j := fun j hj hl => ((rwv_eq (hb372.1 86 (by decide))).trans ((rwv_eq (hb368.1 86 (by decide))).trans ((rwv_eq (hF309.1 86 (by decide))).trans ((os_154 j (by omega) hl).trans ((rwv_eq (hF103.1 86 (by decide))).trans (rwv_eq hj58))))))
        have ha395 : ∀ j, j < 20 → rwv w370 87 j = rwv w 87 j := fun j _ => rwv_eq ((hb372.1 87 (by decide)).trans ((hb368.1 87 (by decide)).trans ((hF309.1 87 (by decide)).trans ((hF149.1 87 (by decide)).trans ((hF103.1 87 (by decide)).trans hj59)))))
        have hM396 := MSTok0 hS hs (by have z := hk357; omega) (by omega) hF377 hO378 hM391 hM392 hr393 ho394 ha395
        exact xg_e ⟨w370, ⟨rfl, rfl⟩, xMnv.up (S := [85, 82]) hI308 ((xFr.of (S := [85, 82]) hb368 (by decide)).tr (xFr.of (S := [85, 82]) hb372 (by decide))) (List.forall_mem_cons.mpr ⟨xqu85 (show cpI 7 52 4294967295 (wget w370 85) from ⟨_, (hr367.but hb372 (by decide)), xrb (by omega) (hb360)⟩), List.forall_mem_cons.mpr ⟨xqu82 (show cp82 (wget w370 82) from xmC82 f82_319 f82_321 f82_323 f82_325 f82_327 f82_329 f82_331 f82_333 f82_335 (f82_337 + 1) f82_339 f82_340 f82_341 f82_343 f82_345 f82_347 hk371 hb320 hb322 hb324 hb326 hb328 hb330 hb332 hb334 hb336 (by omega) hb342 hb344 hb346 hb348 (by omega)), fun _ h => absurd h List.not_mem_nil⟩⟩), ((((hF50.tr (hF103.up (by decide))).tr (hF149.up (by decide))).tr (hF309.up (by decide))).tr ((xFr.of (S := [82, 83, 85, 86, 87]) hb368 (by decide)).tr (xFr.of (S := [82, 83, 85, 86, 87]) hb372 (by decide)))), ⟨Or.inr ⟨by rw [ln318], by rw [he375]; exact hT376, hM396⟩, (((((hj56.tr (K83.fr hF103 (by decide))).tr k8_153).tr (K83.fr hF309 (by decide))).tr (K83.but hb368 (by decide))).tr (K83.but hb372 (by decide))), by omega⟩⟩
      · refine xg_t (xg_icT (u := f82_257) (v := 2) rfl xnm0 xnm0 (xj_neT hc296)) ?_
        refine xg_t (xg_blq rfl) ?_
        have lf397n : ¬ (tkd B nn p_162 = 3 ∧ B (tq B nn p_162) = 59) := by omega
        have lf397 : lnR B nn p0 = (false, p_162) := ln237.trans (lnS_n lf397n)
        refine xg_t (xg_aload (va := (2, 82)) rfl rfl) ?_
        have hk398 := k14_155
        have hk399 := hT_173.1.2.2.2.1
        clear ht281 ht282 ht283 ht284 ht285 ht286 ht287 ht288 ht289 hf290 hf291 hf292 hf293 hf294 hmk295
        refine xg_cVv mX12_ends (vs := []) (rest := []) (cn1 := 0) (sl1 := 0) rfl (mEndsX (hI148) k10_172) rfl h82_277 rfl rfl rfl rfl rfl rfl (fun w400 hq401 => ?_)
        obtain ⟨hI402, hF403, hx404⟩ := hq401
        obtain ⟨hv405, hv406, hv407, hv408, hv409⟩ := hx404
        have hW410 : WRG w400 (tq B nn p_162) := ⟨hv405, hv406, hv407.trans hk399⟩
        have k14_411 := hv408.trans hk398
        refine xg_t (xg_blq rfl) ?_
        refine xoCh82 (xqc82 hI402 : cp82 (wget w400 82)) (fun f82_412 f82_414 f82_416 f82_418 f82_420 f82_422 f82_424 f82_426 f82_428 f82_430 f82_432 f82_433 f82_434 f82_436 f82_438 f82_440 h82_442 hb413 hb415 hb417 hb419 hb421 hb423 hb425 hb427 hb429 hb431 hb435 hb437 hb439 hb441 hb443 => ?_)
        have hf444 : fld w400 82 10 = f82_428 := fld_of h82_442
        have hf445 : fld w400 82 14 = f82_430 := fld_of h82_442
        have hk446 := k14_411
        have hl447 : f82_430 ≤ 500 := by omega
        have hk448 : WRG w400 (tq B nn p_162) := hW410
        refine xg_t (xg_aload (va := (2, 82)) rfl rfl) ?_
        refine xg_t (xg_getf (va := (2, 85)) h82_442 rfl) ?_
        refine xg_t (xg_iload (va := (0, 0)) rfl rfl) ?_
        refine xg_t (xg_dup2 rfl) ?_
        refine xoI (xqc85 hI402 : cpI 7 52 4294967295 (wget w400 85)) (fun g85_449 h85_450 hb451 => ?_)
        refine xg_ialdB (n := 0) (B := 4294967295) h85_450 (hb451) xnm0 (by first | decide | omega) (fun u452 hu453 he454 => ?_)
        have hK455 : u452 = u42 := (((rwv_of h85_450 (by decide)).trans he454).symm.trans (rwv_eq ((hF403.1 85 (by decide)).trans ((hF149.1 85 (by decide)).trans ((hF103.1 85 (by decide)).trans hj57))))).trans ((hm 0 (by decide)).trans hK45.symm)
        have hl456 : u452 ≤ 500 := by omega
        refine xg_t (xg_const) ?_
        refine xg_t (xg_iadd (u := u452) (v := 1) (z := u452 + 1) xnm0 xnm0 (by omega)) ?_
        refine xg_iastK (n := 0) (u := u452 + 1) h85_450 xnm0 xnm0 rfl (by first | decide | omega) (fun w457 hr458 hb459 => ?_)
        refine xg_t (xg_aload (va := (2, 82)) rfl rfl) ?_
        refine xg_t (xg_dup rfl) ?_
        refine xg_t (xg_getf (va := (0, f82_430)) (hb459.get (by decide) h82_442) rfl) ?_
        have hn460 := id hb431
        unfold xHid at hn460
        refine xg_t (xg_const) ?_
        refine xg_t (xg_iadd (u := f82_430) (v := 1) (z := f82_430 + 1) xnm0 xnm0 (by omega)) ?_
        refine xg_putI (fl1 := [(2, 83), (2, 84), (0, f82_412), (0, f82_414), (0, f82_416), (0, f82_418), (0, f82_420), (0, f82_422), (0, f82_424), (0, f82_426), (0, f82_428), (2, 85), (2, 86), (2, 87), (0, f82_430 + 1), (2, 88), (2, 89), (2, 90), (2, 91), (2, 92), (2, 93), (2, 94), (4, f82_432), (4, f82_433), (0, f82_434), (2, 95), (2, 96), (2, 97), (2, 98), (2, 99), (2, 100), (2, 101), (2, 102), (0, f82_436), (2, 103), (2, 104), (2, 105), (2, 106), (2, 107), (2, 108), (2, 109), (0, f82_438), (0, f82_440), (2, 110), (2, 111), (2, 112), (2, 113)]) (hb459.get (by decide) h82_442) rfl rfl rfl (fun w461 hk462 hb463 => ?_)
        have hf464 : fld w461 82 10 = f82_428 := fld_of hk462
        have hf465 : fld w461 82 14 = f82_430 + 1 := fld_of hk462
        exact xg_e ⟨w461, ⟨rfl, rfl⟩, xMnv.up (S := [85, 82]) hI402 ((xFr.of (S := [85, 82]) hb459 (by decide)).tr (xFr.of (S := [85, 82]) hb463 (by decide))) (List.forall_mem_cons.mpr ⟨xqu85 (show cpI 7 52 4294967295 (wget w461 85) from ⟨_, (hr458.but hb463 (by decide)), xrb (by omega) (hb451)⟩), List.forall_mem_cons.mpr ⟨xqu82 (show cp82 (wget w461 82) from xmC82 f82_412 f82_414 f82_416 f82_418 f82_420 f82_422 f82_424 f82_426 f82_428 (f82_430 + 1) f82_432 f82_433 f82_434 f82_436 f82_438 f82_440 hk462 hb413 hb415 hb417 hb419 hb421 hb423 hb425 hb427 hb429 (by omega) hb435 hb437 hb439 hb441 (by omega)), fun _ h => absurd h List.not_mem_nil⟩⟩), ((((hF50.tr (hF103.up (by decide))).tr (hF149.up (by decide))).tr (hF403.up (by decide))).tr ((xFr.of (S := [82, 83, 85, 86, 87]) hb459 (by decide)).tr (xFr.of (S := [82, 83, 85, 86, 87]) hb463 (by decide)))), ⟨Or.inl ⟨p_162, lf397, ⟨by have z := hk448.1; omega, (rwv_eq (j := 16) ((hb463.1 83 (by decide)).trans (hb459.1 83 (by decide)))).trans hk448.2.1, (rwv_eq (j := 17) ((hb463.1 83 (by decide)).trans (hb459.1 83 (by decide)))).trans hk448.2.2⟩⟩, (((((hj56.tr (K83.fr hF103 (by decide))).tr k8_153).tr hv409).tr (K83.but hb459 (by decide))).tr (K83.but hb463 (by decide))), by omega⟩⟩
  refine xg_t (xg_iload (va := (0, u42)) rfl rfl) ?_
  refine xg_t (xg_iload (va := (0, 0)) rfl rfl) ?_
  refine xg_t (xg_cSr mX12_mostOf (vs := [(0, 0)]) (rest := [(0, u42)]) (rs := [(0, 6), (0, u42)]) (cn1 := 0) (sl1 := 0) rfl (mMostR0) rfl rfl rfl rfl rfl rfl rfl rfl) ?_
  by_cases hc466 : u42 < 6
  · refine xg_t (xg_icT (u := u42) (v := 6) rfl xnm0 xnm0 (xj_ltT hc466 (by omega))) ?_
    refine xg_t (xg_drop (l1 := [(0, (2, 82)), (1, (0, 0)), (2, (0, at_)), (3, (0, u42))]) (List.forall_mem_cons.mpr ⟨List.mem_cons_of_mem _ (List.mem_cons_of_mem _ (List.mem_cons_of_mem _ (List.mem_cons_self))), List.forall_mem_cons.mpr ⟨List.mem_cons_of_mem _ (List.mem_cons_of_mem _ (List.mem_cons_self)), List.forall_mem_cons.mpr ⟨List.mem_cons_of_mem _ (List.mem_cons_self), List.forall_mem_cons.mpr ⟨List.mem_cons_self, fun _ h => absurd h List.not_mem_nil⟩⟩⟩⟩)) ?_
    have he467 : flA B nn k = mf1 B nn k 0 (flA B nn k) := by unfold mf1; rw [decide_eq_false (show ¬ lim 0 ≤ lnC B nn 0 k from (show ¬ 6 ≤ lnC B nn 0 k by omega))]; rfl
    exact jn47 w (hI) (xFr.rf) (⟨by rw [← he467]; exact zF, z10, hT, z14, K83.rf, rfl, rfl, rfl⟩)
  · refine xg_t (xg_icF (u := u42) (v := 6) rfl xnm0 xnm0 (xj_ltF (by omega) (by omega))) ?_
    refine xg_t (xg_aload (va := (2, 82)) rfl rfl) ?_
    refine xg_t (xg_const) ?_
    refine xg_t (xg_iload (va := (0, at_)) rfl rfl) ?_
    refine xg_cVv mX12_also (vs := [(0, 3), (0, at_)]) (rest := []) (cn1 := 0) (sl1 := 0) rfl (mAlsoX (hI) (by omega) (by omega) (by omega) z10 zF) rfl h82_31 rfl rfl rfl rfl rfl rfl (fun w468 hq469 => ?_)
    obtain ⟨hI470, hF471, hx472⟩ := hq469
    obtain ⟨hv473, hv474⟩ := hx472
    refine xg_t (xg_drop (l1 := [(0, (2, 82)), (1, (0, 0)), (2, (0, at_)), (3, (0, u42))]) (List.forall_mem_cons.mpr ⟨List.mem_cons_of_mem _ (List.mem_cons_of_mem _ (List.mem_cons_of_mem _ (List.mem_cons_self))), List.forall_mem_cons.mpr ⟨List.mem_cons_of_mem _ (List.mem_cons_of_mem _ (List.mem_cons_self)), List.forall_mem_cons.mpr ⟨List.mem_cons_of_mem _ (List.mem_cons_self), List.forall_mem_cons.mpr ⟨List.mem_cons_self, fun _ h => absurd h List.not_mem_nil⟩⟩⟩⟩)) ?_
    have he475 : alo (flA B nn k) 3 at_ = mf1 B nn k 0 (flA B nn k) := by unfold mf1; rw [decide_eq_true (show lim 0 ≤ lnC B nn 0 k from (show 6 ≤ lnC B nn 0 k by omega)), hat, hp0]; rfl
    exact jn47 w468 (hI470) ((hF471.up (by decide))) (⟨by rw [← he475]; exact hv473, ((fld_eq (j := 10) (hF471.1 82 (by decide))).trans z10), (hT.fr (hF471.1 82 (by decide))), ((fld_eq (j := 14) (hF471.1 82 (by decide))).trans z14), hv474, (hF471.1 85 (by decide)), (hF471.1 86 (by decide)), (hF471.1 87 (by decide))⟩)
set_option maxHeartbeats 60000000 in
theorem mALnX1 {B : Nat → Nat} {nn k p0 : Nat} {at_ : Nat} (hI : xMnv w) (hB : bsm w B nn) (hp0 : p0 = lnP B nn k) (hT : TKM 0 B nn w p0) (hS : MST B nn w k) (hk5 : k ≤ 500) (hs : slt B nn (lnP B nn k) = 1) (hat : at_ = tq B nn p0) : xTo (d + 7) mX12_aLine (43, [], [(2, (0, at_)), (1, (0, 1)), (0, (2, 82))], [], (w, bd, fc, 0, 0, rr)) (fun φ => ∃ w', xEnd 0 [] (w', bd, fc, 0, 0, rr) φ ∧ xMnv w' ∧ xFr [82, 83, 85, 86, 87] w w' ∧ (((∃ q, lnR B nn p0 = (false, q) ∧ WRG w' (tq B nn q)) ∨ ((lnR B nn p0).1 = true ∧ TKM 0 B nn w' (lnP B nn (k + 1)) ∧ MST B nn w' (k + 1))) ∧ K83 w w' ∧ fld w 82 14 ≤ fld w' 82 14)) := by
  refine xoCh82 (xqc82 hI : cp82 (wget w 82)) (fun f82_1 f82_3 f82_5 f82_7 f82_9 f82_11 f82_13 f82_15 f82_17 f82_19 f82_21 f82_22 f82_23 f82_25 f82_27 f82_29 h82_31 hb2 hb4 hb6 hb8 hb10 hb12 hb14 hb16 hb18 hb20 hb24 hb26 hb28 hb30 hb32 => ?_)
  refine xoI (xqc85 hI : cpI 7 52 4294967295 (wget w 85)) (fun g85_33 h85_34 hb35 => ?_)
  refine xoI (xqc86 hI : cpI 140 53 4294967295 (wget w 86)) (fun g86_36 h86_37 hb38 => ?_)
  refine xoI (xqc87 hI : cpI 20 54 4294967295 (wget w 87)) (fun g87_39 h87_40 hb41 => ?_)
  obtain ⟨⟨z10, z14, zF, zp⟩, hm, hR⟩ := id hS
  have hkc := lnC_k (B := B) (n := nn) (s := 1) (k := k)
  have hq0 : at_ ≤ 500 := by
    have z1 := tf_gt (B := B) (n := nn) (p := p0) (by rw [slt_kd (by rw [hp0, hs]; decide)]; decide)
    have z2 := hB.1
    omega
  refine xg_t (xg_blq rfl) ?_
  refine xg_t (xg_aload (va := (2, 82)) rfl rfl) ?_
  refine xg_t (xg_getf (va := (2, 85)) h82_31 rfl) ?_
  refine xg_t (xg_iload (va := (0, 1)) rfl rfl) ?_
  refine xg_ialdB (n := 1) (B := 4294967295) h85_34 (hb35) xnm0 (by first | decide | omega) (fun u42 hu43 he44 => ?_)
  have hK45 : u42 = lnC B nn 1 k := (((rwv_of h85_34 (by decide)).trans he44).symm).trans (hm 1 (by decide))
  have hl46 : u42 ≤ 500 := by omega
  refine xg_t (xg_istore (l1 := [(2, (0, at_)), (1, (0, 1)), (0, (2, 82))]) rfl rfl rfl) ?_
  have jn47 : ∀ (w48 : List (List xE)), xMnv w48 → xFr [82, 83, 85, 86, 87] w w48 → (FP w48 (mf1 B nn k 1 (flA B nn k)) ∧ fld w48 82 10 = 0 ∧ TKM 0 B nn w48 p0 ∧ fld w48 82 14 = k ∧ K83 w w48 ∧ wget w48 85 = wget w 85 ∧ wget w48 86 = wget w 86 ∧ wget w48 87 = wget w 87) → xTo (d + 7) mX12_aLine (64, [], [(0, (2, 82)), (1, (0, 1)), (2, (0, at_)), (3, (0, u42))], [], (w48, bd, fc, 0, 0, rr)) (fun φ => ∃ w', xEnd 0 [] (w', bd, fc, 0, 0, rr) φ ∧ xMnv w' ∧ xFr [82, 83, 85, 86, 87] w w' ∧ (((∃ q, lnR B nn p0 = (false, q) ∧ WRG w' (tq B nn q)) ∨ ((lnR B nn p0).1 = true ∧ TKM 0 B nn w' (lnP B nn (k + 1)) ∧ MST B nn w' (k + 1))) ∧ K83 w w' ∧ fld w 82 14 ≤ fld w' 82 14)) := by
    intro w48 hI49 hF50 he51
    obtain ⟨hj52, hj53, hj54, hj55, hj56, hj57, hj58, hj59⟩ := he51
    refine xg_t (xg_blq rfl) ?_
    refine xg_t (xg_aload (va := (2, 82)) rfl rfl) ?_
    obtain ⟨⟨ht60, ht61, ht62, ht63, ht64, ht65⟩, -⟩ := id hj54
    have hk66 := hj53
    have hk67 := hj55
    refine xoCh82 (xqc82 hI49 : cp82 (wget w48 82)) (fun f82_68 f82_70 f82_72 f82_74 f82_76 f82_78 f82_80 f82_82 f82_84 f82_86 f82_88 f82_89 f82_90 f82_92 f82_94 f82_96 h82_98 hb69 hb71 hb73 hb75 hb77 hb79 hb81 hb83 hb85 hb87 hb91 hb93 hb95 hb97 hb99 => ?_)
    refine xg_cVv mX12_advance (vs := []) (rest := []) (cn1 := 0) (sl1 := 0) rfl (mAdvX (hI49) (hB.fr (fun j h4 h9 => hj56 j (by omega) (by omega) (by omega))) ht60 ht61 (by rw [ht62]; exact tf_le ht65)) rfl h82_98 rfl rfl rfl rfl rfl rfl (fun w100 hq101 => ?_)
    obtain ⟨hI102, hF103, hx104⟩ := hq101
    obtain ⟨hz105, hz106, hz107⟩ := hx104
    rw [ht62] at hz105
    clear ht60 ht61 ht62 ht63 ht64 ht65
    obtain ⟨p_108, hp109⟩ : ∃ x, x = tf B nn p0 := ⟨_, rfl⟩
    rw [← hp109] at hz105
    have k10_110 := hz106.trans hk66
    have k14_111 := hz107.trans hk67
    clear hz106 hz107 hk66 hk67
    have ln112 : lnR B nn p0 = lnN B nn 1 2 p_108 := by rw [hp109]; exact lnR_go (by rw [hp0]; exact hs) (by decide)
    refine xg_t (xg_iload (va := (0, 1)) rfl rfl) ?_
    refine xg_t (xg_swt (ks := [(0, 108), (1, 116), (2, 180), (3, 221), (4, 273), (5, 326)]) (u := 1) (z := 116) rfl rfl rfl xnm0 (xsw_n (by omega) (xsw_y rfl))) ?_
    refine xg_t (xg_blq rfl) ?_
    refine xg_t (xg_aload (va := (2, 82)) rfl rfl) ?_
    refine xg_t (xg_const) ?_
    refine xg_t (xg_bip) ?_
    have hk113 := k14_111
    refine xoCh82 (xqc82 hI102 : cp82 (wget w100 82)) (fun f82_114 f82_116 f82_118 f82_120 f82_122 f82_124 f82_126 f82_128 f82_130 f82_132 f82_134 f82_135 f82_136 f82_138 f82_140 f82_142 h82_144 hb115 hb117 hb119 hb121 hb123 hb125 hb127 hb129 hb131 hb133 hb137 hb139 hb141 hb143 hb145 => ?_)
    refine xg_cVi mX12_numbered (vs := [(0, 0), (0, 99)]) (rest := []) (cn1 := 0) (sl1 := 0) rfl (mNumX (ir := 0) (hI102) (by omega) (by omega) (hB.fr (fun j h4 h9 => (hj56.tr (K83.fr hF103 (by decide))) j (by omega) (by omega) (by omega))) k10_110 hz105 (hj52.k83 (rwv_eq (hF103.1 83 (by decide))) (rwv_eq (hF103.1 83 (by decide))))) rfl h82_144 rfl rfl rfl rfl rfl rfl (fun n150 w146 hq147 => ?_)
    obtain ⟨hn151, hI148, hF149⟩ := hq147
    obtain ⟨hx154, h14_152, k8_153⟩ := hn151
    have k14_155 := h14_152.trans hk113
    rcases hx154 with ⟨rfl, hk156, hW157⟩ | ⟨hv158, h9_159, hk156, k10_160, hT_161, hF_162⟩
    · have lf163 : lnR B nn p0 = (false, p_108) := ln112.trans (lnN_n (k := 1) hk156)
      refine xg_t (xg_istore (l1 := [(0, (2, 82)), (1, (0, 1)), (2, (0, at_)), (3, (0, u42))]) rfl rfl rfl) ?_
      refine xg_t (xg_aload (va := (2, 82)) rfl rfl) ?_
      refine xg_t (xg_iload (va := (0, 0)) rfl rfl) ?_
      refine xg_t (xg_iload (va := (0, u42)) rfl rfl) ?_
      refine xoCh82 (xqc82 hI148 : cp82 (wget w146 82)) (fun f82_164 f82_166 f82_168 f82_170 f82_172 f82_174 f82_176 f82_178 f82_180 f82_182 f82_184 f82_185 f82_186 f82_188 f82_190 f82_192 h82_194 hb165 hb167 hb169 hb171 hb173 hb175 hb177 hb179 hb181 hb183 hb187 hb189 hb191 hb193 hb195 => ?_)
      refine xg_cVi mX12_isLifeTold (vs := [(0, 0), (0, u42)]) (rest := []) (cn1 := 0) (sl1 := 0) rfl (mLifeX (hI148) (by omega) (by omega)) rfl h82_194 rfl rfl rfl rfl rfl rfl (fun n200 w196 hq197 => ?_)
      obtain ⟨hn201, hI198, hF199⟩ := hq197
      rcases hn201 with ⟨rfl, -⟩ | ⟨rfl, -⟩
      · refine xg_t (xg_ifF (u := 1) rfl xnm0 (by decide)) ?_
        refine xg_t (xg_aload (va := (2, 82)) rfl rfl) ?_
        refine xg_t (xg_const) ?_
        refine xg_t (xg_iload (va := (0, at_)) rfl rfl) ?_
        refine xg_cVv mX12_also (vs := [(0, 3), (0, at_)]) (rest := []) (cn1 := 0) (sl1 := 0) rfl (mAlsoW (hI198) (by omega) (by omega) (by have q := hW157.1; have q2 := fld_eq (j := 10) (hF199.1 82 (by decide)); omega)) rfl (hF199.get (by decide) h82_194) rfl rfl rfl rfl rfl rfl (fun w203 hq204 => ?_)
        obtain ⟨hI205, hF206⟩ := hq204
        refine xg_t (xg_blq rfl) ?_
        refine xg_t (xg_aload (va := (2, 82)) rfl rfl) ?_
        refine xg_t (xg_iload (va := (0, 1)) rfl rfl) ?_
        refine xg_t (xg_iload (va := (0, u42)) rfl rfl) ?_
        refine xg_t (xg_bip) ?_
        refine xg_t (xg_const) ?_
        refine xg_t (xg_iload (va := (0, u42)) rfl rfl) ?_
        refine xg_t (xg_imul (u := 2) (v := u42) (z := 2 * u42) xnm0 xnm0 (by omega)) ?_
        refine xg_t (xg_iadd (u := 50) (v := 2 * u42) (z := 50 + (2 * u42)) xnm0 xnm0 (by omega)) ?_
        refine xg_t (xg_iload (va := (0, 0)) rfl rfl) ?_
        refine xg_cVv mX12_puts (vs := [(0, 1), (0, u42), (0, 50 + (2 * u42)), (0, 0)]) (rest := []) (cn1 := 0) (sl1 := 0) rfl (mPuts1 (hI205) (by omega) (by omega) (by omega) (fun _ => by omega)) rfl (hF206.get (by decide) (hF199.get (by decide) h82_194)) rfl rfl rfl rfl rfl rfl (fun w207 hq208 => ?_)
        obtain ⟨hI209, hF210, hx211⟩ := hq208
        obtain ⟨hp212, hp213⟩ := hx211
        refine xg_t (xg_aload (va := (2, 82)) rfl rfl) ?_
        refine xg_t (xg_iload (va := (0, 1)) rfl rfl) ?_
        refine xg_t (xg_iload (va := (0, u42)) rfl rfl) ?_
        refine xg_t (xg_bip) ?_
        refine xg_t (xg_const) ?_
        refine xg_t (xg_iload (va := (0, u42)) rfl rfl) ?_
        refine xg_t (xg_imul (u := 2) (v := u42) (z := 2 * u42) xnm0 xnm0 (by omega)) ?_
        refine xg_t (xg_iadd (u := 50) (v := 2 * u42) (z := 50 + (2 * u42)) xnm0 xnm0 (by omega)) ?_
        refine xg_t (xg_const) ?_
        refine xg_t (xg_iadd (u := 50 + (2 * u42)) (v := 1) (z := (50 + (2 * u42)) + 1) xnm0 xnm0 (by omega)) ?_
        refine xg_t (xg_aload (va := (2, 82)) rfl rfl) ?_
        refine xg_t (xg_const) ?_
        refine xg_t (xg_sip) ?_
        refine xg_cVi mX12_numbered (vs := [(0, 1), (0, 999)]) (rest := [(0, (50 + (2 * u42)) + 1), (0, u42), (0, 1), (2, 82)]) (cn1 := 0) (sl1 := 0) rfl (mNumW (hI209) (by omega) (by omega) (by have q := hW157.1; have q2 := fld_eq (j := 10) ((hF210.1 82 (by decide)).trans ((hF206.1 82 (by decide)).trans (hF199.1 82 (by decide)))); omega)) rfl (hF210.get (by decide) (hF206.get (by decide) (hF199.get (by decide) h82_194))) rfl rfl rfl rfl rfl rfl (fun n218 w214 hq215 => ?_)
        obtain ⟨hn219, hI216, hF217⟩ := hq215
        obtain rfl := hn219
        refine xg_cVv mX12_puts (vs := [(0, 1), (0, u42), (0, (50 + (2 * u42)) + 1), (0, 0)]) (rest := []) (cn1 := 0) (sl1 := 0) rfl (mPuts1 (hI216) (by omega) (by omega) (by omega) (fun _ => by omega)) rfl (hF217.get (by decide) (hF210.get (by decide) (hF206.get (by decide) (hF199.get (by decide) h82_194)))) rfl rfl rfl rfl rfl rfl (fun w220 hq221 => ?_)
        obtain ⟨hI222, hF223, hx224⟩ := hq221
        obtain ⟨hp225, hp226⟩ := hx224
        refine xg_t (xg_goto) ?_
        refine xg_t (xg_blq rfl) ?_
        refine xg_t (xg_aload (va := (2, 82)) rfl rfl) ?_
        refine xg_t (xg_getf (va := (0, f82_180)) (hF223.get (by decide) (hF217.get (by decide) (hF210.get (by decide) (hF206.get (by decide) (hF199.get (by decide) h82_194))))) rfl) ?_
        have hf227 : fld w220 82 10 = f82_180 := fld_of (hF223.get (by decide) (hF217.get (by decide) (hF210.get (by decide) (hF206.get (by decide) (hF199.get (by decide) h82_194)))))
        have hk228 : fld w220 82 10 ≠ 0 := (by have q := hW157.1; have q2 := fld_eq (j := 10) ((hF223.1 82 (by decide)).trans ((hF217.1 82 (by decide)).trans ((hF210.1 82 (by decide)).trans ((hF206.1 82 (by decide)).trans (hF199.1 82 (by decide)))))); omega)
        refine xg_t (xg_ifT (u := f82_180) rfl xnm0 (xj_neT (by omega))) ?_
        refine xg_t (xg_blq rfl) ?_
        refine xg_t (xg_aload (va := (2, 82)) rfl rfl) ?_
        refine xg_cVv mX12_ends (vs := []) (rest := []) (cn1 := 0) (sl1 := 0) rfl (mEndsW (hI222) (by have q := hW157.1; have q2 := fld_eq (j := 10) ((hF223.1 82 (by decide)).trans ((hF217.1 82 (by decide)).trans ((hF210.1 82 (by decide)).trans ((hF206.1 82 (by decide)).trans (hF199.1 82 (by decide)))))); omega)) rfl (hF223.get (by decide) (hF217.get (by decide) (hF210.get (by decide) (hF206.get (by decide) (hF199.get (by decide) h82_194))))) rfl rfl rfl rfl rfl rfl (fun w229 hq230 => ?_)
        obtain ⟨hI231, hF232⟩ := hq230
        refine xg_t (xg_blq rfl) ?_
        have hf233 : fld w229 82 10 = f82_180 := fld_of (hF232.get (by decide) (hF223.get (by decide) (hF217.get (by decide) (hF210.get (by decide) (hF206.get (by decide) (hF199.get (by decide) h82_194))))))
        have hf234 : fld w229 82 14 = f82_182 := fld_of (hF232.get (by decide) (hF223.get (by decide) (hF217.get (by decide) (hF210.get (by decide) (hF206.get (by decide) (hF199.get (by decide) h82_194))))))
        have hk235 := ((fld_eq (j := 14) ((hF232.1 82 (by decide)).trans ((hF223.1 82 (by decide)).trans ((hF217.1 82 (by decide)).trans ((hF210.1 82 (by decide)).trans ((hF206.1 82 (by decide)).trans (hF199.1 82 (by decide)))))))).trans k14_155)
        have hl236 : f82_182 ≤ 500 := by omega
        have hk237 : WRG w229 (tq B nn p_108) := ⟨(fld_eq (j := 10) ((hF232.1 82 (by decide)).trans ((hF223.1 82 (by decide)).trans ((hF217.1 82 (by decide)).trans ((hF210.1 82 (by decide)).trans ((hF206.1 82 (by decide)).trans (hF199.1 82 (by decide)))))))).trans hW157.1, (rwv_eq (j := 16) ((hF232.1 83 (by decide)).trans ((hF223.1 83 (by decide)).trans ((hF217.1 83 (by decide)).trans ((hF210.1 83 (by decide)).trans ((hF206.1 83 (by decide)).trans (hF199.1 83 (by decide)))))))).trans hW157.2.1, (rwv_eq (j := 17) ((hF232.1 83 (by decide)).trans ((hF223.1 83 (by decide)).trans ((hF217.1 83 (by decide)).trans ((hF210.1 83 (by decide)).trans ((hF206.1 83 (by decide)).trans (hF199.1 83 (by decide)))))))).trans hW157.2.2⟩
        refine xg_t (xg_aload (va := (2, 82)) rfl rfl) ?_
        refine xg_t (xg_getf (va := (2, 85)) (hF232.get (by decide) (hF223.get (by decide) (hF217.get (by decide) (hF210.get (by decide) (hF206.get (by decide) (hF199.get (by decide) h82_194)))))) rfl) ?_
        refine xg_t (xg_iload (va := (0, 1)) rfl rfl) ?_
        refine xg_t (xg_dup2 rfl) ?_
        refine xoI (xqc85 hI231 : cpI 7 52 4294967295 (wget w229 85)) (fun g85_238 h85_239 hb240 => ?_)
        refine xg_ialdB (n := 1) (B := 4294967295) h85_239 (hb240) xnm0 (by first | decide | omega) (fun u241 hu242 he243 => ?_)
        have hK244 : u241 = u42 := (((rwv_of h85_239 (by decide)).trans he243).symm.trans (rwv_eq ((hF232.1 85 (by decide)).trans ((hF223.1 85 (by decide)).trans ((hF217.1 85 (by decide)).trans ((hF210.1 85 (by decide)).trans ((hF206.1 85 (by decide)).trans ((hF199.1 85 (by decide)).trans ((hF149.1 85 (by decide)).trans ((hF103.1 85 (by decide)).trans hj57)))))))))).trans ((hm 1 (by decide)).trans hK45.symm)
        have hl245 : u241 ≤ 500 := by omega
        refine xg_t (xg_const) ?_
        refine xg_t (xg_iadd (u := u241) (v := 1) (z := u241 + 1) xnm0 xnm0 (by omega)) ?_
        refine xg_iastK (n := 1) (u := u241 + 1) h85_239 xnm0 xnm0 rfl (by first | decide | omega) (fun w246 hr247 hb248 => ?_)
        refine xg_t (xg_aload (va := (2, 82)) rfl rfl) ?_
        refine xg_t (xg_dup rfl) ?_
        refine xg_t (xg_getf (va := (0, f82_182)) (hb248.get (by decide) (hF232.get (by decide) (hF223.get (by decide) (hF217.get (by decide) (hF210.get (by decide) (hF206.get (by decide) (hF199.get (by decide) h82_194))))))) rfl) ?_
        have hn249 := id hb183
        unfold xHid at hn249
        refine xg_t (xg_const) ?_
        refine xg_t (xg_iadd (u := f82_182) (v := 1) (z := f82_182 + 1) xnm0 xnm0 (by omega)) ?_
        refine xg_putI (fl1 := [(2, 83), (2, 84), (0, f82_164), (0, f82_166), (0, f82_168), (0, f82_170), (0, f82_172), (0, f82_174), (0, f82_176), (0, f82_178), (0, f82_180), (2, 85), (2, 86), (2, 87), (0, f82_182 + 1), (2, 88), (2, 89), (2, 90), (2, 91), (2, 92), (2, 93), (2, 94), (4, f82_184), (4, f82_185), (0, f82_186), (2, 95), (2, 96), (2, 97), (2, 98), (2, 99), (2, 100), (2, 101), (2, 102), (0, f82_188), (2, 103), (2, 104), (2, 105), (2, 106), (2, 107), (2, 108), (2, 109), (0, f82_190), (0, f82_192), (2, 110), (2, 111), (2, 112), (2, 113)]) (hb248.get (by decide) (hF232.get (by decide) (hF223.get (by decide) (hF217.get (by decide) (hF210.get (by decide) (hF206.get (by decide) (hF199.get (by decide) h82_194))))))) rfl rfl rfl (fun w250 hk251 hb252 => ?_)
        have hf253 : fld w250 82 10 = f82_180 := fld_of hk251
        have hf254 : fld w250 82 14 = f82_182 + 1 := fld_of hk251
        exact xg_e ⟨w250, ⟨rfl, rfl⟩, xMnv.up (S := [85, 82]) hI231 ((xFr.of (S := [85, 82]) hb248 (by decide)).tr (xFr.of (S := [85, 82]) hb252 (by decide))) (List.forall_mem_cons.mpr ⟨xqu85 (show cpI 7 52 4294967295 (wget w250 85) from ⟨_, (hr247.but hb252 (by decide)), xrb (by omega) (hb240)⟩), List.forall_mem_cons.mpr ⟨xqu82 (show cp82 (wget w250 82) from xmC82 f82_164 f82_166 f82_168 f82_170 f82_172 f82_174 f82_176 f82_178 f82_180 (f82_182 + 1) f82_184 f82_185 f82_186 f82_188 f82_190 f82_192 hk251 hb165 hb167 hb169 hb171 hb173 hb175 hb177 hb179 hb181 (by omega) hb187 hb189 hb191 hb193 (by omega)), fun _ h => absurd h List.not_mem_nil⟩⟩), (((((((((hF50.tr (hF103.up (by decide))).tr (hF149.up (by decide))).tr (hF199.up (by decide))).tr (hF206.up (by decide))).tr (hF210.up (by decide))).tr (hF217.up (by decide))).tr (hF223.up (by decide))).tr (hF232.up (by decide))).tr ((xFr.of (S := [82, 83, 85, 86, 87]) hb248 (by decide)).tr (xFr.of (S := [82, 83, 85, 86, 87]) hb252 (by decide)))), ⟨Or.inl ⟨p_108, lf163, ⟨by have z := hk237.1; omega, (rwv_eq (j := 16) ((hb252.1 83 (by decide)).trans (hb248.1 83 (by decide)))).trans hk237.2.1, (rwv_eq (j := 17) ((hb252.1 83 (by decide)).trans (hb248.1 83 (by decide)))).trans hk237.2.2⟩⟩, ((((((((((hj56.tr (K83.fr hF103 (by decide))).tr k8_153).tr (K83.fr hF199 (by decide))).tr (K83.fr hF206 (by decide))).tr (K83.fr hF210 (by decide))).tr (K83.fr hF217 (by decide))).tr (K83.fr hF223 (by decide))).tr (K83.fr hF232 (by decide))).tr (K83.but hb248 (by decide))).tr (K83.but hb252 (by decide))), by omega⟩⟩
      · refine xg_t (xg_ifT (u := 0) rfl xnm0 (by decide)) ?_
        refine xg_t (xg_blq rfl) ?_
        refine xg_t (xg_aload (va := (2, 82)) rfl rfl) ?_
        refine xg_t (xg_iload (va := (0, 1)) rfl rfl) ?_
        refine xg_t (xg_iload (va := (0, u42)) rfl rfl) ?_
        refine xg_t (xg_bip) ?_
        refine xg_t (xg_const) ?_
        refine xg_t (xg_iload (va := (0, u42)) rfl rfl) ?_
        refine xg_t (xg_imul (u := 2) (v := u42) (z := 2 * u42) xnm0 xnm0 (by omega)) ?_
        refine xg_t (xg_iadd (u := 50) (v := 2 * u42) (z := 50 + (2 * u42)) xnm0 xnm0 (by omega)) ?_
        refine xg_t (xg_iload (va := (0, 0)) rfl rfl) ?_
        refine xg_cVv mX12_puts (vs := [(0, 1), (0, u42), (0, 50 + (2 * u42)), (0, 0)]) (rest := []) (cn1 := 0) (sl1 := 0) rfl (mPuts1 (hI198) (by omega) (by omega) (by omega) (fun _ => by omega)) rfl (hF199.get (by decide) h82_194) rfl rfl rfl rfl rfl rfl (fun w255 hq256 => ?_)
        obtain ⟨hI257, hF258, hx259⟩ := hq256
        obtain ⟨hp260, hp261⟩ := hx259
        refine xg_t (xg_aload (va := (2, 82)) rfl rfl) ?_
        refine xg_t (xg_iload (va := (0, 1)) rfl rfl) ?_
        refine xg_t (xg_iload (va := (0, u42)) rfl rfl) ?_
        refine xg_t (xg_bip) ?_
        refine xg_t (xg_const) ?_
        refine xg_t (xg_iload (va := (0, u42)) rfl rfl) ?_
        refine xg_t (xg_imul (u := 2) (v := u42) (z := 2 * u42) xnm0 xnm0 (by omega)) ?_
        refine xg_t (xg_iadd (u := 50) (v := 2 * u42) (z := 50 + (2 * u42)) xnm0 xnm0 (by omega)) ?_
        refine xg_t (xg_const) ?_
        refine xg_t (xg_iadd (u := 50 + (2 * u42)) (v := 1) (z := (50 + (2 * u42)) + 1) xnm0 xnm0 (by omega)) ?_
        refine xg_t (xg_aload (va := (2, 82)) rfl rfl) ?_
        refine xg_t (xg_const) ?_
        refine xg_t (xg_sip) ?_
        refine xg_cVi mX12_numbered (vs := [(0, 1), (0, 999)]) (rest := [(0, (50 + (2 * u42)) + 1), (0, u42), (0, 1), (2, 82)]) (cn1 := 0) (sl1 := 0) rfl (mNumW (hI257) (by omega) (by omega) (by have q := hW157.1; have q2 := fld_eq (j := 10) ((hF258.1 82 (by decide)).trans (hF199.1 82 (by decide))); omega)) rfl (hF258.get (by decide) (hF199.get (by decide) h82_194)) rfl rfl rfl rfl rfl rfl (fun n266 w262 hq263 => ?_)
        obtain ⟨hn267, hI264, hF265⟩ := hq263
        obtain rfl := hn267
        refine xg_cVv mX12_puts (vs := [(0, 1), (0, u42), (0, (50 + (2 * u42)) + 1), (0, 0)]) (rest := []) (cn1 := 0) (sl1 := 0) rfl (mPuts1 (hI264) (by omega) (by omega) (by omega) (fun _ => by omega)) rfl (hF265.get (by decide) (hF258.get (by decide) (hF199.get (by decide) h82_194))) rfl rfl rfl rfl rfl rfl (fun w268 hq269 => ?_)
        obtain ⟨hI270, hF271, hx272⟩ := hq269
        obtain ⟨hp273, hp274⟩ := hx272
        refine xg_t (xg_goto) ?_
        refine xg_t (xg_blq rfl) ?_
        refine xg_t (xg_aload (va := (2, 82)) rfl rfl) ?_
        refine xg_t (xg_getf (va := (0, f82_180)) (hF271.get (by decide) (hF265.get (by decide) (hF258.get (by decide) (hF199.get (by decide) h82_194)))) rfl) ?_
        have hf275 : fld w268 82 10 = f82_180 := fld_of (hF271.get (by decide) (hF265.get (by decide) (hF258.get (by decide) (hF199.get (by decide) h82_194))))
        have hk276 : fld w268 82 10 ≠ 0 := (by have q := hW157.1; have q2 := fld_eq (j := 10) ((hF271.1 82 (by decide)).trans ((hF265.1 82 (by decide)).trans ((hF258.1 82 (by decide)).trans (hF199.1 82 (by decide))))); omega)
        refine xg_t (xg_ifT (u := f82_180) rfl xnm0 (xj_neT (by omega))) ?_
        refine xg_t (xg_blq rfl) ?_
        refine xg_t (xg_aload (va := (2, 82)) rfl rfl) ?_
        refine xg_cVv mX12_ends (vs := []) (rest := []) (cn1 := 0) (sl1 := 0) rfl (mEndsW (hI270) (by have q := hW157.1; have q2 := fld_eq (j := 10) ((hF271.1 82 (by decide)).trans ((hF265.1 82 (by decide)).trans ((hF258.1 82 (by decide)).trans (hF199.1 82 (by decide))))); omega)) rfl (hF271.get (by decide) (hF265.get (by decide) (hF258.get (by decide) (hF199.get (by decide) h82_194)))) rfl rfl rfl rfl rfl rfl (fun w277 hq278 => ?_)
        obtain ⟨hI279, hF280⟩ := hq278
        refine xg_t (xg_blq rfl) ?_
        have hf281 : fld w277 82 10 = f82_180 := fld_of (hF280.get (by decide) (hF271.get (by decide) (hF265.get (by decide) (hF258.get (by decide) (hF199.get (by decide) h82_194)))))
        have hf282 : fld w277 82 14 = f82_182 := fld_of (hF280.get (by decide) (hF271.get (by decide) (hF265.get (by decide) (hF258.get (by decide) (hF199.get (by decide) h82_194)))))
        have hk283 := ((fld_eq (j := 14) ((hF280.1 82 (by decide)).trans ((hF271.1 82 (by decide)).trans ((hF265.1 82 (by decide)).trans ((hF258.1 82 (by decide)).trans (hF199.1 82 (by decide))))))).trans k14_155)
        have hl284 : f82_182 ≤ 500 := by omega
        have hk285 : WRG w277 (tq B nn p_108) := ⟨(fld_eq (j := 10) ((hF280.1 82 (by decide)).trans ((hF271.1 82 (by decide)).trans ((hF265.1 82 (by decide)).trans ((hF258.1 82 (by decide)).trans (hF199.1 82 (by decide))))))).trans hW157.1, (rwv_eq (j := 16) ((hF280.1 83 (by decide)).trans ((hF271.1 83 (by decide)).trans ((hF265.1 83 (by decide)).trans ((hF258.1 83 (by decide)).trans (hF199.1 83 (by decide))))))).trans hW157.2.1, (rwv_eq (j := 17) ((hF280.1 83 (by decide)).trans ((hF271.1 83 (by decide)).trans ((hF265.1 83 (by decide)).trans ((hF258.1 83 (by decide)).trans (hF199.1 83 (by decide))))))).trans hW157.2.2⟩
        refine xg_t (xg_aload (va := (2, 82)) rfl rfl) ?_
        refine xg_t (xg_getf (va := (2, 85)) (hF280.get (by decide) (hF271.get (by decide) (hF265.get (by decide) (hF258.get (by decide) (hF199.get (by decide) h82_194))))) rfl) ?_
        refine xg_t (xg_iload (va := (0, 1)) rfl rfl) ?_
        refine xg_t (xg_dup2 rfl) ?_
        refine xoI (xqc85 hI279 : cpI 7 52 4294967295 (wget w277 85)) (fun g85_286 h85_287 hb288 => ?_)
        refine xg_ialdB (n := 1) (B := 4294967295) h85_287 (hb288) xnm0 (by first | decide | omega) (fun u289 hu290 he291 => ?_)
        have hK292 : u289 = u42 := (((rwv_of h85_287 (by decide)).trans he291).symm.trans (rwv_eq ((hF280.1 85 (by decide)).trans ((hF271.1 85 (by decide)).trans ((hF265.1 85 (by decide)).trans ((hF258.1 85 (by decide)).trans ((hF199.1 85 (by decide)).trans ((hF149.1 85 (by decide)).trans ((hF103.1 85 (by decide)).trans hj57))))))))).trans ((hm 1 (by decide)).trans hK45.symm)
        have hl293 : u289 ≤ 500 := by omega
        refine xg_t (xg_const) ?_
        refine xg_t (xg_iadd (u := u289) (v := 1) (z := u289 + 1) xnm0 xnm0 (by omega)) ?_
        refine xg_iastK (n := 1) (u := u289 + 1) h85_287 xnm0 xnm0 rfl (by first | decide | omega) (fun w294 hr295 hb296 => ?_)
        refine xg_t (xg_aload (va := (2, 82)) rfl rfl) ?_
        refine xg_t (xg_dup rfl) ?_
        refine xg_t (xg_getf (va := (0, f82_182)) (hb296.get (by decide) (hF280.get (by decide) (hF271.get (by decide) (hF265.get (by decide) (hF258.get (by decide) (hF199.get (by decide) h82_194)))))) rfl) ?_
        have hn297 := id hb183
        unfold xHid at hn297
        refine xg_t (xg_const) ?_
        refine xg_t (xg_iadd (u := f82_182) (v := 1) (z := f82_182 + 1) xnm0 xnm0 (by omega)) ?_
        refine xg_putI (fl1 := [(2, 83), (2, 84), (0, f82_164), (0, f82_166), (0, f82_168), (0, f82_170), (0, f82_172), (0, f82_174), (0, f82_176), (0, f82_178), (0, f82_180), (2, 85), (2, 86), (2, 87), (0, f82_182 + 1), (2, 88), (2, 89), (2, 90), (2, 91), (2, 92), (2, 93), (2, 94), (4, f82_184), (4, f82_185), (0, f82_186), (2, 95), (2, 96), (2, 97), (2, 98), (2, 99), (2, 100), (2, 101), (2, 102), (0, f82_188), (2, 103), (2, 104), (2, 105), (2, 106), (2, 107), (2, 108), (2, 109), (0, f82_190), (0, f82_192), (2, 110), (2, 111), (2, 112), (2, 113)]) (hb296.get (by decide) (hF280.get (by decide) (hF271.get (by decide) (hF265.get (by decide) (hF258.get (by decide) (hF199.get (by decide) h82_194)))))) rfl rfl rfl (fun w298 hk299 hb300 => ?_)
        have hf301 : fld w298 82 10 = f82_180 := fld_of hk299
        have hf302 : fld w298 82 14 = f82_182 + 1 := fld_of hk299
        exact xg_e ⟨w298, ⟨rfl, rfl⟩, xMnv.up (S := [85, 82]) hI279 ((xFr.of (S := [85, 82]) hb296 (by decide)).tr (xFr.of (S := [85, 82]) hb300 (by decide))) (List.forall_mem_cons.mpr ⟨xqu85 (show cpI 7 52 4294967295 (wget w298 85) from ⟨_, (hr295.but hb300 (by decide)), xrb (by omega) (hb288)⟩), List.forall_mem_cons.mpr ⟨xqu82 (show cp82 (wget w298 82) from xmC82 f82_164 f82_166 f82_168 f82_170 f82_172 f82_174 f82_176 f82_178 f82_180 (f82_182 + 1) f82_184 f82_185 f82_186 f82_188 f82_190 f82_192 hk299 hb165 hb167 hb169 hb171 hb173 hb175 hb177 hb179 hb181 (by omega) hb187 hb189 hb191 hb193 (by omega)), fun _ h => absurd h List.not_mem_nil⟩⟩), ((((((((hF50.tr (hF103.up (by decide))).tr (hF149.up (by decide))).tr (hF199.up (by decide))).tr (hF258.up (by decide))).tr (hF265.up (by decide))).tr (hF271.up (by decide))).tr (hF280.up (by decide))).tr ((xFr.of (S := [82, 83, 85, 86, 87]) hb296 (by decide)).tr (xFr.of (S := [82, 83, 85, 86, 87]) hb300 (by decide)))), ⟨Or.inl ⟨p_108, lf163, ⟨by have z := hk285.1; omega, (rwv_eq (j := 16) ((hb300.1 83 (by decide)).trans (hb296.1 83 (by decide)))).trans hk285.2.1, (rwv_eq (j := 17) ((hb300.1 83 (by decide)).trans (hb296.1 83 (by decide)))).trans hk285.2.2⟩⟩, (((((((((hj56.tr (K83.fr hF103 (by decide))).tr k8_153).tr (K83.fr hF199 (by decide))).tr (K83.fr hF258 (by decide))).tr (K83.fr hF265 (by decide))).tr (K83.fr hF271 (by decide))).tr (K83.fr hF280 (by decide))).tr (K83.but hb296 (by decide))).tr (K83.but hb300 (by decide))), by omega⟩⟩
    · obtain ⟨p_303, hp304⟩ : ∃ x, x = tf B nn p_108 := ⟨_, rfl⟩
      rw [← hp304] at hT_161
      have ln305 : lnR B nn p0 = lnN B nn 1 1 p_303 := by rw [hp304]; exact ln112.trans (lnN_y (k := 1) hk156)
      have vp306 : vlp B nn (lnP B nn k) 0 = p_108 := by rw [← hp0]; exact hp109.symm
      have vl307 : vln B nn (lnP B nn k) 0 = tnu B nn p_108 := by
        show (if (0 : Nat) = 3 then _ else tnu B nn (vlp B nn (lnP B nn k) 0)) = _
        rw [if_neg (by decide), vp306]
      have he309 : (chk (mf1 B nn k 1 (flA B nn k)) 0 99 (tnu B nn p_108) (tq B nn p_108)) = (mf2 B nn k 1 (flA B nn k)) := by show _ = chk (mf1 B nn k 1 (flA B nn k)) 0 99 (vln B nn (lnP B nn k) 0) (tq B nn (vlp B nn (lnP B nn k) 0)); rw [vl307, vp306]
      have hF_308 := hF_162
      rw [he309] at hF_308
      refine xg_t (xg_istore (l1 := [(0, (2, 82)), (1, (0, 1)), (2, (0, at_)), (3, (0, u42))]) rfl rfl rfl) ?_
      refine xg_t (xg_aload (va := (2, 82)) rfl rfl) ?_
      refine xg_t (xg_iload (va := (0, n150)) rfl rfl) ?_
      refine xg_t (xg_iload (va := (0, u42)) rfl rfl) ?_
      refine xoCh82 (xqc82 hI148 : cp82 (wget w146 82)) (fun f82_310 f82_312 f82_314 f82_316 f82_318 f82_320 f82_322 f82_324 f82_326 f82_328 f82_330 f82_331 f82_332 f82_334 f82_336 f82_338 h82_340 hb311 hb313 hb315 hb317 hb319 hb321 hb323 hb325 hb327 hb329 hb333 hb335 hb337 hb339 hb341 => ?_)
      refine xg_cVi mX12_isLifeTold (vs := [(0, n150), (0, u42)]) (rest := []) (cn1 := 0) (sl1 := 0) rfl (mLifeX (hI148) (by omega) (by omega)) rfl h82_340 rfl rfl rfl rfl rfl rfl (fun n346 w342 hq343 => ?_)
      obtain ⟨hn347, hI344, hF345⟩ := hq343
      rcases hn347 with ⟨rfl, hk348⟩ | ⟨rfl, hk348⟩
      · have hz349 : ∃ m, m < u42 ∧ m < 4 ∧ rwv w 86 (50 + 2 * m) = vln B nn (lnP B nn k) 0 := by
          obtain ⟨m, m1, m2, m3⟩ := hk348
          exact ⟨m, m1, m2, by rw [vl307, ← hv158, ← m3]; exact (rwv_eq ((hF149.1 86 (by decide)).trans ((hF103.1 86 (by decide)).trans hj58))).symm⟩
        refine xg_t (xg_ifF (u := 1) rfl xnm0 (by decide)) ?_
        refine xg_t (xg_aload (va := (2, 82)) rfl rfl) ?_
        refine xg_t (xg_const) ?_
        refine xg_t (xg_iload (va := (0, at_)) rfl rfl) ?_
        refine xg_cVv mX12_also (vs := [(0, 3), (0, at_)]) (rest := []) (cn1 := 0) (sl1 := 0) rfl (mAlsoX (hI344) (by omega) (by omega) (by omega) ((fld_eq (j := 10) (hF345.1 82 (by decide))).trans k10_160) (hF_308.k83 (rwv_eq (hF345.1 83 (by decide))) (rwv_eq (hF345.1 83 (by decide))))) rfl (hF345.get (by decide) h82_340) rfl rfl rfl rfl rfl rfl (fun w350 hq351 => ?_)
        obtain ⟨hI352, hF353, hx354⟩ := hq351
        obtain ⟨hv355, hv356⟩ := hx354
        refine xg_t (xg_blq rfl) ?_
        have ho358 : tq B nn (lnP B nn k) < tq B nn (vlp B nn (lnP B nn k) 0) := by
          rw [vp306, ← hp0]
          have z1 := (tf_gt (B := B) (n := nn) (p := p0) (by rw [slt_kd (by rw [hp0, hs]; decide)]; decide)).2
          have z2 := tq_ge (B := B) (n := nn) (p := p_108)
          omega
        have he357 : alo (mf2 B nn k 1 (flA B nn k)) 3 at_ = mf3 B nn k 1 (flA B nn k) := by
          unfold mf3
          rw [decide_eq_true rfl, Bool.true_and, hat, hp0]
          by_cases y : (flA B nn k).1 ≠ 0 ∨ lim 1 ≤ lnC B nn 1 k
          · have y2 := mf3_b y zp ho358
            rw [y2]
            cases lfB B nn (vln B nn (lnP B nn k) 0) k <;> rfl
          · have y1 : (flA B nn k).1 = 0 := by omega
            have y3 : ¬ 4 ≤ lnC B nn 1 k := fun x => y (Or.inr x)
            rw [(mlf_iff (hR y1).1 hK45 (by omega)).mp hz349]
            rfl
        have hF_359 := hv355
        rw [he357] at hF_359
        refine xg_t (xg_aload (va := (2, 82)) rfl rfl) ?_
        refine xg_t (xg_iload (va := (0, 1)) rfl rfl) ?_
        refine xg_t (xg_iload (va := (0, u42)) rfl rfl) ?_
        refine xg_t (xg_bip) ?_
        refine xg_t (xg_const) ?_
        refine xg_t (xg_iload (va := (0, u42)) rfl rfl) ?_
        refine xg_t (xg_imul (u := 2) (v := u42) (z := 2 * u42) xnm0 xnm0 (by omega)) ?_
        refine xg_t (xg_iadd (u := 50) (v := 2 * u42) (z := 50 + (2 * u42)) xnm0 xnm0 (by omega)) ?_
        refine xg_t (xg_iload (va := (0, n150)) rfl rfl) ?_
        refine xg_cVv mX12_puts (vs := [(0, 1), (0, u42), (0, 50 + (2 * u42)), (0, n150)]) (rest := []) (cn1 := 0) (sl1 := 0) rfl (mPuts1 (hI352) (by omega) (by omega) (by omega) (fun _ => by omega)) rfl (hF353.get (by decide) (hF345.get (by decide) h82_340)) rfl rfl rfl rfl rfl rfl (fun w360 hq361 => ?_)
        obtain ⟨hI362, hF363, hx364⟩ := hq361
        obtain ⟨hp365, hp366⟩ := hx364
        refine xg_t (xg_aload (va := (2, 82)) rfl rfl) ?_
        refine xg_t (xg_iload (va := (0, 1)) rfl rfl) ?_
        refine xg_t (xg_iload (va := (0, u42)) rfl rfl) ?_
        refine xg_t (xg_bip) ?_
        refine xg_t (xg_const) ?_
        refine xg_t (xg_iload (va := (0, u42)) rfl rfl) ?_
        refine xg_t (xg_imul (u := 2) (v := u42) (z := 2 * u42) xnm0 xnm0 (by omega)) ?_
        refine xg_t (xg_iadd (u := 50) (v := 2 * u42) (z := 50 + (2 * u42)) xnm0 xnm0 (by omega)) ?_
        refine xg_t (xg_const) ?_
        refine xg_t (xg_iadd (u := 50 + (2 * u42)) (v := 1) (z := (50 + (2 * u42)) + 1) xnm0 xnm0 (by omega)) ?_
        refine xg_t (xg_aload (va := (2, 82)) rfl rfl) ?_
        refine xg_t (xg_const) ?_
        refine xg_t (xg_sip) ?_
        have hk367 := ((fld_eq (j := 14) ((hF363.1 82 (by decide)).trans ((hF353.1 82 (by decide)).trans (hF345.1 82 (by decide))))).trans k14_155)
        refine xg_cVi mX12_numbered (vs := [(0, 1), (0, 999)]) (rest := [(0, (50 + (2 * u42)) + 1), (0, u42), (0, 1), (2, 82)]) (cn1 := 0) (sl1 := 0) rfl (mNumX (ir := 0) (hI362) (by omega) (by omega) (hB.fr (fun j h4 h9 => (((((hj56.tr (K83.fr hF103 (by decide))).tr k8_153).tr (K83.fr hF345 (by decide))).tr hv356).tr (K83.fr hF363 (by decide))) j (by omega) (by omega) (by omega))) ((fld_eq (j := 10) ((hF363.1 82 (by decide)).trans ((hF353.1 82 (by decide)).trans (hF345.1 82 (by decide))))).trans k10_160) (hT_161.fr ((hF363.1 82 (by decide)).trans ((hF353.1 82 (by decide)).trans (hF345.1 82 (by decide))))) (hF_359.k83 (rwv_eq (hF363.1 83 (by decide))) (rwv_eq (hF363.1 83 (by decide))))) rfl (hF363.get (by decide) (hF353.get (by decide) (hF345.get (by decide) h82_340))) rfl rfl rfl rfl rfl rfl (fun n372 w368 hq369 => ?_)
        obtain ⟨hn373, hI370, hF371⟩ := hq369
        obtain ⟨hx376, h14_374, k8_375⟩ := hn373
        have k14_377 := h14_374.trans hk367
        rcases hx376 with ⟨rfl, hk378, hW379⟩ | ⟨hv380, h9_381, hk378, k10_382, hT_383, hF_384⟩
        · have lf385 : lnR B nn p0 = (false, p_303) := ln305.trans (lnN_n (k := 0) hk378)
          refine xoCh82 (xqc82 hI370 : cp82 (wget w368 82)) (fun f82_386 f82_388 f82_390 f82_392 f82_394 f82_396 f82_398 f82_400 f82_402 f82_404 f82_406 f82_407 f82_408 f82_410 f82_412 f82_414 h82_416 hb387 hb389 hb391 hb393 hb395 hb397 hb399 hb401 hb403 hb405 hb409 hb411 hb413 hb415 hb417 => ?_)
          refine xg_cVv mX12_puts (vs := [(0, 1), (0, u42), (0, (50 + (2 * u42)) + 1), (0, 0)]) (rest := []) (cn1 := 0) (sl1 := 0) rfl (mPuts1 (hI370) (by omega) (by omega) (by omega) (fun _ => by omega)) rfl h82_416 rfl rfl rfl rfl rfl rfl (fun w418 hq419 => ?_)
          obtain ⟨hI420, hF421, hx422⟩ := hq419
          obtain ⟨hp423, hp424⟩ := hx422
          refine xg_t (xg_goto) ?_
          refine xg_t (xg_blq rfl) ?_
          refine xg_t (xg_aload (va := (2, 82)) rfl rfl) ?_
          refine xg_t (xg_getf (va := (0, f82_402)) (hF421.get (by decide) h82_416) rfl) ?_
          have hf425 : fld w418 82 10 = f82_402 := fld_of (hF421.get (by decide) h82_416)
          have hk426 : fld w418 82 10 ≠ 0 := (by have q := hW379.1; have q2 := fld_eq (j := 10) (hF421.1 82 (by decide)); omega)
          refine xg_t (xg_ifT (u := f82_402) rfl xnm0 (xj_neT (by omega))) ?_
          refine xg_t (xg_blq rfl) ?_
          refine xg_t (xg_aload (va := (2, 82)) rfl rfl) ?_
          refine xg_cVv mX12_ends (vs := []) (rest := []) (cn1 := 0) (sl1 := 0) rfl (mEndsW (hI420) (by have q := hW379.1; have q2 := fld_eq (j := 10) (hF421.1 82 (by decide)); omega)) rfl (hF421.get (by decide) h82_416) rfl rfl rfl rfl rfl rfl (fun w427 hq428 => ?_)
          obtain ⟨hI429, hF430⟩ := hq428
          refine xg_t (xg_blq rfl) ?_
          have hf431 : fld w427 82 10 = f82_402 := fld_of (hF430.get (by decide) (hF421.get (by decide) h82_416))
          have hf432 : fld w427 82 14 = f82_404 := fld_of (hF430.get (by decide) (hF421.get (by decide) h82_416))
          have hk433 := ((fld_eq (j := 14) ((hF430.1 82 (by decide)).trans (hF421.1 82 (by decide)))).trans k14_377)
          have hl434 : f82_404 ≤ 500 := by omega
          have hk435 : WRG w427 (tq B nn p_303) := ⟨(fld_eq (j := 10) ((hF430.1 82 (by decide)).trans (hF421.1 82 (by decide)))).trans hW379.1, (rwv_eq (j := 16) ((hF430.1 83 (by decide)).trans (hF421.1 83 (by decide)))).trans hW379.2.1, (rwv_eq (j := 17) ((hF430.1 83 (by decide)).trans (hF421.1 83 (by decide)))).trans hW379.2.2⟩
          refine xg_t (xg_aload (va := (2, 82)) rfl rfl) ?_
          refine xg_t (xg_getf (va := (2, 85)) (hF430.get (by decide) (hF421.get (by decide) h82_416)) rfl) ?_
          refine xg_t (xg_iload (va := (0, 1)) rfl rfl) ?_
          refine xg_t (xg_dup2 rfl) ?_
          refine xoI (xqc85 hI429 : cpI 7 52 4294967295 (wget w427 85)) (fun g85_436 h85_437 hb438 => ?_)
          refine xg_ialdB (n := 1) (B := 4294967295) h85_437 (hb438) xnm0 (by first | decide | omega) (fun u439 hu440 he441 => ?_)
          have hK442 : u439 = u42 := (((rwv_of h85_437 (by decide)).trans he441).symm.trans (rwv_eq ((hF430.1 85 (by decide)).trans ((hF421.1 85 (by decide)).trans ((hF371.1 85 (by decide)).trans ((hF363.1 85 (by decide)).trans ((hF353.1 85 (by decide)).trans ((hF345.1 85 (by decide)).trans ((hF149.1 85 (by decide)).trans ((hF103.1 85 (by decide)).trans hj57)))))))))).trans ((hm 1 (by decide)).trans hK45.symm)
          have hl443 : u439 ≤ 500 := by omega
          refine xg_t (xg_const) ?_
          refine xg_t (xg_iadd (u := u439) (v := 1) (z := u439 + 1) xnm0 xnm0 (by omega)) ?_
          refine xg_iastK (n := 1) (u := u439 + 1) h85_437 xnm0 xnm0 rfl (by first | decide | omega) (fun w444 hr445 hb446 => ?_)
          refine xg_t (xg_aload (va := (2, 82)) rfl rfl) ?_
          refine xg_t (xg_dup rfl) ?_
          refine xg_t (xg_getf (va := (0, f82_404)) (hb446.get (by decide) (hF430.get (by decide) (hF421.get (by decide) h82_416))) rfl) ?_
          have hn447 := id hb405
          unfold xHid at hn447
          refine xg_t (xg_const) ?_
          refine xg_t (xg_iadd (u := f82_404) (v := 1) (z := f82_404 + 1) xnm0 xnm0 (by omega)) ?_
          refine xg_putI (fl1 := [(2, 83), (2, 84), (0, f82_386), (0, f82_388), (0, f82_390), (0, f82_392), (0, f82_394), (0, f82_396), (0, f82_398), (0, f82_400), (0, f82_402), (2, 85), (2, 86), (2, 87), (0, f82_404 + 1), (2, 88), (2, 89), (2, 90), (2, 91), (2, 92), (2, 93), (2, 94), (4, f82_406), (4, f82_407), (0, f82_408), (2, 95), (2, 96), (2, 97), (2, 98), (2, 99), (2, 100), (2, 101), (2, 102), (0, f82_410), (2, 103), (2, 104), (2, 105), (2, 106), (2, 107), (2, 108), (2, 109), (0, f82_412), (0, f82_414), (2, 110), (2, 111), (2, 112), (2, 113)]) (hb446.get (by decide) (hF430.get (by decide) (hF421.get (by decide) h82_416))) rfl rfl rfl (fun w448 hk449 hb450 => ?_)
          have hf451 : fld w448 82 10 = f82_402 := fld_of hk449
          have hf452 : fld w448 82 14 = f82_404 + 1 := fld_of hk449
          exact xg_e ⟨w448, ⟨rfl, rfl⟩, xMnv.up (S := [85, 82]) hI429 ((xFr.of (S := [85, 82]) hb446 (by decide)).tr (xFr.of (S := [85, 82]) hb450 (by decide))) (List.forall_mem_cons.mpr ⟨xqu85 (show cpI 7 52 4294967295 (wget w448 85) from ⟨_, (hr445.but hb450 (by decide)), xrb (by omega) (hb438)⟩), List.forall_mem_cons.mpr ⟨xqu82 (show cp82 (wget w448 82) from xmC82 f82_386 f82_388 f82_390 f82_392 f82_394 f82_396 f82_398 f82_400 f82_402 (f82_404 + 1) f82_406 f82_407 f82_408 f82_410 f82_412 f82_414 hk449 hb387 hb389 hb391 hb393 hb395 hb397 hb399 hb401 hb403 (by omega) hb409 hb411 hb413 hb415 (by omega)), fun _ h => absurd h List.not_mem_nil⟩⟩), (((((((((hF50.tr (hF103.up (by decide))).tr (hF149.up (by decide))).tr (hF345.up (by decide))).tr (hF353.up (by decide))).tr (hF363.up (by decide))).tr (hF371.up (by decide))).tr (hF421.up (by decide))).tr (hF430.up (by decide))).tr ((xFr.of (S := [82, 83, 85, 86, 87]) hb446 (by decide)).tr (xFr.of (S := [82, 83, 85, 86, 87]) hb450 (by decide)))), ⟨Or.inl ⟨p_303, lf385, ⟨by have z := hk435.1; omega, (rwv_eq (j := 16) ((hb450.1 83 (by decide)).trans (hb446.1 83 (by decide)))).trans hk435.2.1, (rwv_eq (j := 17) ((hb450.1 83 (by decide)).trans (hb446.1 83 (by decide)))).trans hk435.2.2⟩⟩, ((((((((((hj56.tr (K83.fr hF103 (by decide))).tr k8_153).tr (K83.fr hF345 (by decide))).tr hv356).tr (K83.fr hF363 (by decide))).tr k8_375).tr (K83.fr hF421 (by decide))).tr (K83.fr hF430 (by decide))).tr (K83.but hb446 (by decide))).tr (K83.but hb450 (by decide))), by omega⟩⟩
        · obtain ⟨p_453, hp454⟩ : ∃ x, x = tf B nn p_303 := ⟨_, rfl⟩
          rw [← hp454] at hT_383
          have ln455 : lnR B nn p0 = lnN B nn 1 0 p_453 := by rw [hp454]; exact ln305.trans (lnN_y (k := 0) hk378)
          have vp456 : vlp B nn (lnP B nn k) 1 = p_303 := by show tf B nn (vlp B nn (lnP B nn k) 0) = p_303; rw [vp306]; exact hp304.symm
          have vl457 : vln B nn (lnP B nn k) 1 = tnu B nn p_303 := by
            show (if (1 : Nat) = 3 then _ else tnu B nn (vlp B nn (lnP B nn k) 1)) = _
            rw [if_neg (by decide), vp456]
          have he459 : (chk (mf3 B nn k 1 (flA B nn k)) 1 999 (tnu B nn p_303) (tq B nn p_303)) = (mf4 B nn k 1 (flA B nn k)) := by show _ = chk (mf3 B nn k 1 (flA B nn k)) 1 999 (vln B nn (lnP B nn k) 1) (tq B nn (vlp B nn (lnP B nn k) 1)); rw [vl457, vp456]
          have hF_458 := hF_384
          rw [he459] at hF_458
          have he461 : (mf4 B nn k 1 (flA B nn k)) = (mfl B nn k 1 (flA B nn k)) := rfl
          have hF_460 := hF_458
          rw [he461] at hF_460
          refine xoCh82 (xqc82 hI370 : cp82 (wget w368 82)) (fun f82_462 f82_464 f82_466 f82_468 f82_470 f82_472 f82_474 f82_476 f82_478 f82_480 f82_482 f82_483 f82_484 f82_486 f82_488 f82_490 h82_492 hb463 hb465 hb467 hb469 hb471 hb473 hb475 hb477 hb479 hb481 hb485 hb487 hb489 hb491 hb493 => ?_)
          refine xg_cVv mX12_puts (vs := [(0, 1), (0, u42), (0, (50 + (2 * u42)) + 1), (0, n372)]) (rest := []) (cn1 := 0) (sl1 := 0) rfl (mPuts1 (hI370) (by omega) (by omega) (by omega) (fun _ => by omega)) rfl h82_492 rfl rfl rfl rfl rfl rfl (fun w494 hq495 => ?_)
          obtain ⟨hI496, hF497, hx498⟩ := hq495
          obtain ⟨hp499, hp500⟩ := hx498
          refine xg_t (xg_goto) ?_
          refine xg_t (xg_blq rfl) ?_
          have ln501 : lnR B nn p0 = lnS B nn p_453 := by exact ln455.trans (lnN_0 (by decide))
          refine xg_t (xg_aload (va := (2, 82)) rfl rfl) ?_
          refine xg_t (xg_getf (va := (0, f82_478)) (hF497.get (by decide) h82_492) rfl) ?_
          have hf502 : fld w494 82 10 = f82_478 := fld_of (hF497.get (by decide) h82_492)
          have hk503 : fld w494 82 10 = 0 := ((fld_eq (j := 10) (hF497.1 82 (by decide))).trans k10_382)
          refine xg_t (xg_ifF (u := f82_478) rfl xnm0 (xj_neF (by omega))) ?_
          obtain ⟨⟨ht504, ht505, ht506, ht507, ht508, ht509⟩, ht510, ht511, ht512⟩ := id (hT_383.fr (hF497.1 82 (by decide)))
          have hf513 : fld w494 82 6 = f82_470 := fld_of (hF497.get (by decide) h82_492)
          have hf514 : fld w494 82 7 = f82_472 := fld_of (hF497.get (by decide) h82_492)
          have hf515 : fld w494 82 8 = f82_474 := fld_of (hF497.get (by decide) h82_492)
          have hf516 : fld w494 82 9 = f82_476 := fld_of (hF497.get (by decide) h82_492)
          have hf517 : fld w494 82 3 = f82_464 := fld_of (hF497.get (by decide) h82_492)
          have hmk518 := mkd_of (ir := 0) (B := B) (n := nn) (p := p_453)
          refine xg_t (xg_aload (va := (2, 82)) rfl rfl) ?_
          refine xg_t (xg_getf (va := (0, f82_472)) (hF497.get (by decide) h82_492) rfl) ?_
          refine xg_t (xg_const) ?_
          by_cases hc519 : f82_472 = 2
          · refine xg_t (xg_icF (u := f82_472) (v := 2) rfl xnm0 xnm0 (xj_neF hc519)) ?_
            have sg5201 : tkd B nn p_453 = 3 := by omega
            have sg5202 : B (tq B nn p_453) = 59 := by omega
            refine xg_t (xg_aload (va := (2, 82)) rfl rfl) ?_
            clear ht504 ht505 ht506 ht507 ht508 ht509 ht510 ht511 ht512 hf513 hf514 hf515 hf516 hf517 hmk518
            obtain ⟨⟨ht521, ht522, ht523, ht524, ht525, ht526⟩, -⟩ := id (hT_383.fr (hF497.1 82 (by decide)))
            have hk527 := ((fld_eq (j := 10) (hF497.1 82 (by decide))).trans k10_382)
            have hk528 := ((fld_eq (j := 14) (hF497.1 82 (by decide))).trans k14_377)
            refine xg_cVv mX12_advance (vs := []) (rest := []) (cn1 := 0) (sl1 := 0) rfl (mAdvX (hI496) (hB.fr (fun j h4 h9 => (((((((hj56.tr (K83.fr hF103 (by decide))).tr k8_153).tr (K83.fr hF345 (by decide))).tr hv356).tr (K83.fr hF363 (by decide))).tr k8_375).tr (K83.fr hF497 (by decide))) j (by omega) (by omega) (by omega))) ht521 ht522 (by rw [ht523]; exact tf_le ht526)) rfl (hF497.get (by decide) h82_492) rfl rfl rfl rfl rfl rfl (fun w529 hq530 => ?_)
            obtain ⟨hI531, hF532, hx533⟩ := hq530
            obtain ⟨hz534, hz535, hz536⟩ := hx533
            rw [ht523] at hz534
            clear ht521 ht522 ht523 ht524 ht525 ht526
            obtain ⟨p_537, hp538⟩ : ∃ x, x = tf B nn p_453 := ⟨_, rfl⟩
            rw [← hp538] at hz534
            have k10_539 := hz535.trans hk527
            have k14_540 := hz536.trans hk528
            clear hz535 hz536 hk527 hk528
            have ln541 : lnR B nn p0 = (true, p_537) := by rw [hp538]; exact ln501.trans (lnS_y ⟨sg5201, sg5202⟩)
            refine xg_t (xg_goto) ?_
            refine xg_t (xg_blq rfl) ?_
            refine xoCh82 (xqc82 hI531 : cp82 (wget w529 82)) (fun f82_542 f82_544 f82_546 f82_548 f82_550 f82_552 f82_554 f82_556 f82_558 f82_560 f82_562 f82_563 f82_564 f82_566 f82_568 f82_570 h82_572 hb543 hb545 hb547 hb549 hb551 hb553 hb555 hb557 hb559 hb561 hb565 hb567 hb569 hb571 hb573 => ?_)
            have hf574 : fld w529 82 10 = f82_558 := fld_of h82_572
            have hf575 : fld w529 82 14 = f82_560 := fld_of h82_572
            have hk576 := k14_540
            have hl577 : f82_560 ≤ 500 := by omega
            have hk578 := hz534
            have hk579 := (hF_460.k83 (rwv_eq ((hF532.1 83 (by decide)).trans (hF497.1 83 (by decide)))) (rwv_eq ((hF532.1 83 (by decide)).trans (hF497.1 83 (by decide)))))
            have hk580 := k10_539
            refine xg_t (xg_aload (va := (2, 82)) rfl rfl) ?_
            refine xg_t (xg_getf (va := (2, 85)) h82_572 rfl) ?_
            refine xg_t (xg_iload (va := (0, 1)) rfl rfl) ?_
            refine xg_t (xg_dup2 rfl) ?_
            refine xoI (xqc85 hI531 : cpI 7 52 4294967295 (wget w529 85)) (fun g85_581 h85_582 hb583 => ?_)
            refine xg_ialdB (n := 1) (B := 4294967295) h85_582 (hb583) xnm0 (by first | decide | omega) (fun u584 hu585 he586 => ?_)
            have hK587 : u584 = u42 := (((rwv_of h85_582 (by decide)).trans he586).symm.trans (rwv_eq ((hF532.1 85 (by decide)).trans ((hF497.1 85 (by decide)).trans ((hF371.1 85 (by decide)).trans ((hF363.1 85 (by decide)).trans ((hF353.1 85 (by decide)).trans ((hF345.1 85 (by decide)).trans ((hF149.1 85 (by decide)).trans ((hF103.1 85 (by decide)).trans hj57)))))))))).trans ((hm 1 (by decide)).trans hK45.symm)
            have hl588 : u584 ≤ 500 := by omega
            refine xg_t (xg_const) ?_
            refine xg_t (xg_iadd (u := u584) (v := 1) (z := u584 + 1) xnm0 xnm0 (by omega)) ?_
            refine xg_iastK (n := 1) (u := u584 + 1) h85_582 xnm0 xnm0 rfl (by first | decide | omega) (fun w589 hr590 hb591 => ?_)
            refine xg_t (xg_aload (va := (2, 82)) rfl rfl) ?_
            refine xg_t (xg_dup rfl) ?_
            refine xg_t (xg_getf (va := (0, f82_560)) (hb591.get (by decide) h82_572) rfl) ?_
            have hn592 := id hb561
            unfold xHid at hn592
            refine xg_t (xg_const) ?_
            refine xg_t (xg_iadd (u := f82_560) (v := 1) (z := f82_560 + 1) xnm0 xnm0 (by omega)) ?_
            refine xg_putI (fl1 := [(2, 83), (2, 84), (0, f82_542), (0, f82_544), (0, f82_546), (0, f82_548), (0, f82_550), (0, f82_552), (0, f82_554), (0, f82_556), (0, f82_558), (2, 85), (2, 86), (2, 87), (0, f82_560 + 1), (2, 88), (2, 89), (2, 90), (2, 91), (2, 92), (2, 93), (2, 94), (4, f82_562), (4, f82_563), (0, f82_564), (2, 95), (2, 96), (2, 97), (2, 98), (2, 99), (2, 100), (2, 101), (2, 102), (0, f82_566), (2, 103), (2, 104), (2, 105), (2, 106), (2, 107), (2, 108), (2, 109), (0, f82_568), (0, f82_570), (2, 110), (2, 111), (2, 112), (2, 113)]) (hb591.get (by decide) h82_572) rfl rfl rfl (fun w593 hk594 hb595 => ?_)
            have hf596 : fld w593 82 10 = f82_558 := fld_of hk594
            have hf597 : fld w593 82 14 = f82_560 + 1 := fld_of hk594
            have he598 : lnP B nn (k + 1) = p_537 := by
              show (lnR B nn (lnP B nn k)).2 = _
              rw [← hp0, ln541]
            have hT599 : TKM 0 B nn w593 p_537 := hk578.w14 ((show fld w593 82 2 = f82_542 from fld_of hk594).trans (show fld w529 82 2 = f82_542 from fld_of h82_572).symm) ((show fld w593 82 3 = f82_544 from fld_of hk594).trans (show fld w529 82 3 = f82_544 from fld_of h82_572).symm) ((show fld w593 82 4 = f82_546 from fld_of hk594).trans (show fld w529 82 4 = f82_546 from fld_of h82_572).symm) ((show fld w593 82 5 = f82_548 from fld_of hk594).trans (show fld w529 82 5 = f82_548 from fld_of h82_572).symm) ((show fld w593 82 6 = f82_550 from fld_of hk594).trans (show fld w529 82 6 = f82_550 from fld_of h82_572).symm) ((show fld w593 82 7 = f82_552 from fld_of hk594).trans (show fld w529 82 7 = f82_552 from fld_of h82_572).symm) ((show fld w593 82 8 = f82_554 from fld_of hk594).trans (show fld w529 82 8 = f82_554 from fld_of h82_572).symm) ((show fld w593 82 9 = f82_556 from fld_of hk594).trans (show fld w529 82 9 = f82_556 from fld_of h82_572).symm)
            have hF600 : FP w593 (mfl B nn k 1 (flA B nn k)) := hk579.k83 (rwv_eq ((hb595.1 83 (by decide)).trans (hb591.1 83 (by decide)))) (rwv_eq ((hb595.1 83 (by decide)).trans (hb591.1 83 (by decide))))
            have hg602 := (tf_gt (B := B) (n := nn) (p := p_108) (by omega)).2
            have hg603 := tq_ge (B := B) (n := nn) (p := p_108)
            have hg604 := (tf_gt (B := B) (n := nn) (p := p_303) (by omega)).2
            have hg605 := tq_ge (B := B) (n := nn) (p := p_303)
            have hg606 := (tf_gt (B := B) (n := nn) (p := p0) (by rw [slt_kd (by rw [hp0, hs]; decide)]; decide)).2
            have hg607 := (tf_gt (B := B) (n := nn) (p := p_453) (by omega)).2
            have hg608 := tq_ge (B := B) (n := nn) (p := p_453)
            have hg609 := tq_ge (B := B) (n := nn) (p := p_537)
            have hp1x := hp109
            have hO601 : ORD B nn k 1 (tq B nn (lnP B nn (k + 1))) := by
              unfold ORD
              rw [he598, vp306, vp456, ← hp0]
              exact ⟨by omega, by omega, fun z => absurd z (by decide), by omega, fun z => absurd z (by decide)⟩
            have hM610 : rwv w593 85 1 = lnC B nn 1 k + 1 := (rwv_of (hr590.but hb595 (by decide)) (by decide)).trans ((if_pos rfl).trans (by omega))
            have hM611 : ∀ s, s < 7 → s ≠ 1 → rwv w593 85 s = rwv w 85 s := fun s hs hn => (rwv_of (hr590.but hb595 (by decide)) hs).trans ((if_neg hn).trans ((rwv_of h85_582 hs).symm.trans (rwv_eq ((hF532.1 85 (by decide)).trans ((hF497.1 85 (by decide)).trans ((hF371.1 85 (by decide)).trans ((hF363.1 85 (by decide)).trans ((hF353.1 85 (by decide)).trans ((hF345.1 85 (by decide)).trans ((hF149.1 85 (by decide)).trans ((hF103.1 85 (by decide)).trans hj57)))))))))))
            have hr612 : lnC B nn 1 k < 4 → ∀ t, t < 2 → XM w593 1 (lnC B nn 1 k) t = vln B nn (lnP B nn k) t := fun hlt t ht => by
              rcases (show t = 0 ∨ t = 1 by omega) with rfl | rfl
              · show rwv w593 86 (50 + 2 * lnC B nn 1 k + 0) = _
                rw [show 50 + 2 * lnC B nn 1 k + 0 = 50 + (2 * u42) by omega]
                exact ((rwv_eq (hb595.1 86 (by decide))).trans ((rwv_eq (hb591.1 86 (by decide))).trans ((rwv_eq (hF532.1 86 (by decide))).trans ((hp500 (50 + (2 * u42)) (by omega) (by omega)).trans (rwv_eq (hF371.1 86 (by decide))))))).trans ((hp365 (by omega)).trans (hv158.trans vl307.symm))
              · show rwv w593 86 (50 + 2 * lnC B nn 1 k + 1) = _
                rw [show 50 + 2 * lnC B nn 1 k + 1 = (50 + (2 * u42)) + 1 by omega]
                exact ((rwv_eq (hb595.1 86 (by decide))).trans ((rwv_eq (hb591.1 86 (by decide))).trans (rwv_eq (hF532.1 86 (by decide))))).trans ((hp499 (by omega)).trans (hv380.trans vl457.symm))
            have ho613 : ∀ j, (j < 50 + 2 * lnC B nn 1 k ∨ 50 + 2 * (lnC B nn 1 k + 1) ≤ j) → j < 140 → rwv w593 86 j = rwv w 86 j := fun j hj hl => ((rwv_eq (hb595.1 86 (by decide))).trans ((rwv_eq (hb591.1 86 (by decide))).trans ((rwv_eq (hF532.1 86 (by decide))).trans ((hp500 j (by omega) hl).trans ((rwv_eq (hF371.1 86 (by decide))).trans ((hp366 j (by omega) hl).trans ((rwv_eq (hF353.1 86 (by decide))).trans ((rwv_eq (hF345.1 86 (by decide))).trans ((rwv_eq (hF149.1 86 (by decide))).trans ((rwv_eq (hF103.1 86 (by decide))).trans (rwv_eq hj58)))))))))))
            have ha614 : ∀ j, j < 20 → rwv w593 87 j = rwv w 87 j := fun j _ => rwv_eq ((hb595.1 87 (by decide)).trans ((hb591.1 87 (by decide)).trans ((hF532.1 87 (by decide)).trans ((hF497.1 87 (by decide)).trans ((hF371.1 87 (by decide)).trans ((hF363.1 87 (by decide)).trans ((hF353.1 87 (by decide)).trans ((hF345.1 87 (by decide)).trans ((hF149.1 87 (by decide)).trans ((hF103.1 87 (by decide)).trans hj59))))))))))
            have hM615 := MSTok1 hS hs (by have z := hk580; omega) (by omega) hF600 hO601 hM610 hM611 hr612 ho613 ha614
            exact xg_e ⟨w593, ⟨rfl, rfl⟩, xMnv.up (S := [85, 82]) hI531 ((xFr.of (S := [85, 82]) hb591 (by decide)).tr (xFr.of (S := [85, 82]) hb595 (by decide))) (List.forall_mem_cons.mpr ⟨xqu85 (show cpI 7 52 4294967295 (wget w593 85) from ⟨_, (hr590.but hb595 (by decide)), xrb (by omega) (hb583)⟩), List.forall_mem_cons.mpr ⟨xqu82 (show cp82 (wget w593 82) from xmC82 f82_542 f82_544 f82_546 f82_548 f82_550 f82_552 f82_554 f82_556 f82_558 (f82_560 + 1) f82_562 f82_563 f82_564 f82_566 f82_568 f82_570 hk594 hb543 hb545 hb547 hb549 hb551 hb553 hb555 hb557 hb559 (by omega) hb565 hb567 hb569 hb571 (by omega)), fun _ h => absurd h List.not_mem_nil⟩⟩), (((((((((hF50.tr (hF103.up (by decide))).tr (hF149.up (by decide))).tr (hF345.up (by decide))).tr (hF353.up (by decide))).tr (hF363.up (by decide))).tr (hF371.up (by decide))).tr (hF497.up (by decide))).tr (hF532.up (by decide))).tr ((xFr.of (S := [82, 83, 85, 86, 87]) hb591 (by decide)).tr (xFr.of (S := [82, 83, 85, 86, 87]) hb595 (by decide)))), ⟨Or.inr ⟨by rw [ln541], by rw [he598]; exact hT599, hM615⟩, ((((((((((hj56.tr (K83.fr hF103 (by decide))).tr k8_153).tr (K83.fr hF345 (by decide))).tr hv356).tr (K83.fr hF363 (by decide))).tr k8_375).tr (K83.fr hF497 (by decide))).tr (K83.fr hF532 (by decide))).tr (K83.but hb591 (by decide))).tr (K83.but hb595 (by decide))), by omega⟩⟩
          · refine xg_t (xg_icT (u := f82_472) (v := 2) rfl xnm0 xnm0 (xj_neT hc519)) ?_
            refine xg_t (xg_blq rfl) ?_
            have lf616n : ¬ (tkd B nn p_453 = 3 ∧ B (tq B nn p_453) = 59) := by omega
            have lf616 : lnR B nn p0 = (false, p_453) := ln501.trans (lnS_n lf616n)
            refine xg_t (xg_aload (va := (2, 82)) rfl rfl) ?_
            have hk617 := ((fld_eq (j := 14) (hF497.1 82 (by decide))).trans k14_377)
            have hk618 := (hT_383.fr (hF497.1 82 (by decide))).1.2.2.2.1
            clear ht504 ht505 ht506 ht507 ht508 ht509 ht510 ht511 ht512 hf513 hf514 hf515 hf516 hf517 hmk518
            refine xg_cVv mX12_ends (vs := []) (rest := []) (cn1 := 0) (sl1 := 0) rfl (mEndsX (hI496) ((fld_eq (j := 10) (hF497.1 82 (by decide))).trans k10_382)) rfl (hF497.get (by decide) h82_492) rfl rfl rfl rfl rfl rfl (fun w619 hq620 => ?_)
            obtain ⟨hI621, hF622, hx623⟩ := hq620
            obtain ⟨hv624, hv625, hv626, hv627, hv628⟩ := hx623
            have hW629 : WRG w619 (tq B nn p_453) := ⟨hv624, hv625, hv626.trans hk618⟩
            have k14_630 := hv627.trans hk617
            refine xg_t (xg_blq rfl) ?_
            refine xoCh82 (xqc82 hI621 : cp82 (wget w619 82)) (fun f82_631 f82_633 f82_635 f82_637 f82_639 f82_641 f82_643 f82_645 f82_647 f82_649 f82_651 f82_652 f82_653 f82_655 f82_657 f82_659 h82_661 hb632 hb634 hb636 hb638 hb640 hb642 hb644 hb646 hb648 hb650 hb654 hb656 hb658 hb660 hb662 => ?_)
            have hf663 : fld w619 82 10 = f82_647 := fld_of h82_661
            have hf664 : fld w619 82 14 = f82_649 := fld_of h82_661
            have hk665 := k14_630
            have hl666 : f82_649 ≤ 500 := by omega
            have hk667 : WRG w619 (tq B nn p_453) := hW629
            refine xg_t (xg_aload (va := (2, 82)) rfl rfl) ?_
            refine xg_t (xg_getf (va := (2, 85)) h82_661 rfl) ?_
            refine xg_t (xg_iload (va := (0, 1)) rfl rfl) ?_
            refine xg_t (xg_dup2 rfl) ?_
            refine xoI (xqc85 hI621 : cpI 7 52 4294967295 (wget w619 85)) (fun g85_668 h85_669 hb670 => ?_)
            refine xg_ialdB (n := 1) (B := 4294967295) h85_669 (hb670) xnm0 (by first | decide | omega) (fun u671 hu672 he673 => ?_)
            have hK674 : u671 = u42 := (((rwv_of h85_669 (by decide)).trans he673).symm.trans (rwv_eq ((hF622.1 85 (by decide)).trans ((hF497.1 85 (by decide)).trans ((hF371.1 85 (by decide)).trans ((hF363.1 85 (by decide)).trans ((hF353.1 85 (by decide)).trans ((hF345.1 85 (by decide)).trans ((hF149.1 85 (by decide)).trans ((hF103.1 85 (by decide)).trans hj57)))))))))).trans ((hm 1 (by decide)).trans hK45.symm)
            have hl675 : u671 ≤ 500 := by omega
            refine xg_t (xg_const) ?_
            refine xg_t (xg_iadd (u := u671) (v := 1) (z := u671 + 1) xnm0 xnm0 (by omega)) ?_
            refine xg_iastK (n := 1) (u := u671 + 1) h85_669 xnm0 xnm0 rfl (by first | decide | omega) (fun w676 hr677 hb678 => ?_)
            refine xg_t (xg_aload (va := (2, 82)) rfl rfl) ?_
            refine xg_t (xg_dup rfl) ?_
            refine xg_t (xg_getf (va := (0, f82_649)) (hb678.get (by decide) h82_661) rfl) ?_
            have hn679 := id hb650
            unfold xHid at hn679
            refine xg_t (xg_const) ?_
            refine xg_t (xg_iadd (u := f82_649) (v := 1) (z := f82_649 + 1) xnm0 xnm0 (by omega)) ?_
            refine xg_putI (fl1 := [(2, 83), (2, 84), (0, f82_631), (0, f82_633), (0, f82_635), (0, f82_637), (0, f82_639), (0, f82_641), (0, f82_643), (0, f82_645), (0, f82_647), (2, 85), (2, 86), (2, 87), (0, f82_649 + 1), (2, 88), (2, 89), (2, 90), (2, 91), (2, 92), (2, 93), (2, 94), (4, f82_651), (4, f82_652), (0, f82_653), (2, 95), (2, 96), (2, 97), (2, 98), (2, 99), (2, 100), (2, 101), (2, 102), (0, f82_655), (2, 103), (2, 104), (2, 105), (2, 106), (2, 107), (2, 108), (2, 109), (0, f82_657), (0, f82_659), (2, 110), (2, 111), (2, 112), (2, 113)]) (hb678.get (by decide) h82_661) rfl rfl rfl (fun w680 hk681 hb682 => ?_)
            have hf683 : fld w680 82 10 = f82_647 := fld_of hk681
            have hf684 : fld w680 82 14 = f82_649 + 1 := fld_of hk681
            exact xg_e ⟨w680, ⟨rfl, rfl⟩, xMnv.up (S := [85, 82]) hI621 ((xFr.of (S := [85, 82]) hb678 (by decide)).tr (xFr.of (S := [85, 82]) hb682 (by decide))) (List.forall_mem_cons.mpr ⟨xqu85 (show cpI 7 52 4294967295 (wget w680 85) from ⟨_, (hr677.but hb682 (by decide)), xrb (by omega) (hb670)⟩), List.forall_mem_cons.mpr ⟨xqu82 (show cp82 (wget w680 82) from xmC82 f82_631 f82_633 f82_635 f82_637 f82_639 f82_641 f82_643 f82_645 f82_647 (f82_649 + 1) f82_651 f82_652 f82_653 f82_655 f82_657 f82_659 hk681 hb632 hb634 hb636 hb638 hb640 hb642 hb644 hb646 hb648 (by omega) hb654 hb656 hb658 hb660 (by omega)), fun _ h => absurd h List.not_mem_nil⟩⟩), (((((((((hF50.tr (hF103.up (by decide))).tr (hF149.up (by decide))).tr (hF345.up (by decide))).tr (hF353.up (by decide))).tr (hF363.up (by decide))).tr (hF371.up (by decide))).tr (hF497.up (by decide))).tr (hF622.up (by decide))).tr ((xFr.of (S := [82, 83, 85, 86, 87]) hb678 (by decide)).tr (xFr.of (S := [82, 83, 85, 86, 87]) hb682 (by decide)))), ⟨Or.inl ⟨p_453, lf616, ⟨by have z := hk667.1; omega, (rwv_eq (j := 16) ((hb682.1 83 (by decide)).trans (hb678.1 83 (by decide)))).trans hk667.2.1, (rwv_eq (j := 17) ((hb682.1 83 (by decide)).trans (hb678.1 83 (by decide)))).trans hk667.2.2⟩⟩, ((((((((((hj56.tr (K83.fr hF103 (by decide))).tr k8_153).tr (K83.fr hF345 (by decide))).tr hv356).tr (K83.fr hF363 (by decide))).tr k8_375).tr (K83.fr hF497 (by decide))).tr hv628).tr (K83.but hb678 (by decide))).tr (K83.but hb682 (by decide))), by omega⟩⟩
      · have hz685 : ¬ (∃ m, m < u42 ∧ m < 4 ∧ rwv w 86 (50 + 2 * m) = vln B nn (lnP B nn k) 0) := fun z => by
          obtain ⟨m, m1, m2, m3⟩ := z
          exact hk348 m m1 m2 (by rw [hv158, ← vl307, ← m3]; exact rwv_eq ((hF149.1 86 (by decide)).trans ((hF103.1 86 (by decide)).trans hj58)))
        refine xg_t (xg_ifT (u := 0) rfl xnm0 (by decide)) ?_
        refine xg_t (xg_blq rfl) ?_
        have ho687 : tq B nn (lnP B nn k) < tq B nn (vlp B nn (lnP B nn k) 0) := by
          rw [vp306, ← hp0]
          have z1 := (tf_gt (B := B) (n := nn) (p := p0) (by rw [slt_kd (by rw [hp0, hs]; decide)]; decide)).2
          have z2 := tq_ge (B := B) (n := nn) (p := p_108)
          omega
        have he686 : mf2 B nn k 1 (flA B nn k) = mf3 B nn k 1 (flA B nn k) := by
          unfold mf3
          rw [decide_eq_true rfl, Bool.true_and]
          by_cases y : (flA B nn k).1 ≠ 0 ∨ lim 1 ≤ lnC B nn 1 k
          · have y2 := mf3_b y zp ho687
            rw [y2]
            cases lfB B nn (vln B nn (lnP B nn k) 0) k <;> rfl
          · have y1 : (flA B nn k).1 = 0 := by omega
            have y3 : ¬ 4 ≤ lnC B nn 1 k := fun x => y (Or.inr x)
            have y4 : lfB B nn (vln B nn (lnP B nn k) 0) k = false := by
              cases x : lfB B nn (vln B nn (lnP B nn k) 0) k with
              | false => rfl
              | true => exact absurd ((mlf_iff (hR y1).1 hK45 (by omega)).mpr x) hz685
            rw [y4]
            rfl
        have hF_688 := (hF_308.k83 (rwv_eq (hF345.1 83 (by decide))) (rwv_eq (hF345.1 83 (by decide))))
        rw [he686] at hF_688
        refine xg_t (xg_aload (va := (2, 82)) rfl rfl) ?_
        refine xg_t (xg_iload (va := (0, 1)) rfl rfl) ?_
        refine xg_t (xg_iload (va := (0, u42)) rfl rfl) ?_
        refine xg_t (xg_bip) ?_
        refine xg_t (xg_const) ?_
        refine xg_t (xg_iload (va := (0, u42)) rfl rfl) ?_
        refine xg_t (xg_imul (u := 2) (v := u42) (z := 2 * u42) xnm0 xnm0 (by omega)) ?_
        refine xg_t (xg_iadd (u := 50) (v := 2 * u42) (z := 50 + (2 * u42)) xnm0 xnm0 (by omega)) ?_
        refine xg_t (xg_iload (va := (0, n150)) rfl rfl) ?_
        refine xg_cVv mX12_puts (vs := [(0, 1), (0, u42), (0, 50 + (2 * u42)), (0, n150)]) (rest := []) (cn1 := 0) (sl1 := 0) rfl (mPuts1 (hI344) (by omega) (by omega) (by omega) (fun _ => by omega)) rfl (hF345.get (by decide) h82_340) rfl rfl rfl rfl rfl rfl (fun w689 hq690 => ?_)
        obtain ⟨hI691, hF692, hx693⟩ := hq690
        obtain ⟨hp694, hp695⟩ := hx693
        refine xg_t (xg_aload (va := (2, 82)) rfl rfl) ?_
        refine xg_t (xg_iload (va := (0, 1)) rfl rfl) ?_
        refine xg_t (xg_iload (va := (0, u42)) rfl rfl) ?_
        refine xg_t (xg_bip) ?_
        refine xg_t (xg_const) ?_
        refine xg_t (xg_iload (va := (0, u42)) rfl rfl) ?_
        refine xg_t (xg_imul (u := 2) (v := u42) (z := 2 * u42) xnm0 xnm0 (by omega)) ?_
        refine xg_t (xg_iadd (u := 50) (v := 2 * u42) (z := 50 + (2 * u42)) xnm0 xnm0 (by omega)) ?_
        refine xg_t (xg_const) ?_
        refine xg_t (xg_iadd (u := 50 + (2 * u42)) (v := 1) (z := (50 + (2 * u42)) + 1) xnm0 xnm0 (by omega)) ?_
        refine xg_t (xg_aload (va := (2, 82)) rfl rfl) ?_
        refine xg_t (xg_const) ?_
        refine xg_t (xg_sip) ?_
        have hk696 := ((fld_eq (j := 14) ((hF692.1 82 (by decide)).trans (hF345.1 82 (by decide)))).trans k14_155)
        refine xg_cVi mX12_numbered (vs := [(0, 1), (0, 999)]) (rest := [(0, (50 + (2 * u42)) + 1), (0, u42), (0, 1), (2, 82)]) (cn1 := 0) (sl1 := 0) rfl (mNumX (ir := 0) (hI691) (by omega) (by omega) (hB.fr (fun j h4 h9 => ((((hj56.tr (K83.fr hF103 (by decide))).tr k8_153).tr (K83.fr hF345 (by decide))).tr (K83.fr hF692 (by decide))) j (by omega) (by omega) (by omega))) ((fld_eq (j := 10) ((hF692.1 82 (by decide)).trans (hF345.1 82 (by decide)))).trans k10_160) (hT_161.fr ((hF692.1 82 (by decide)).trans (hF345.1 82 (by decide)))) (hF_688.k83 (rwv_eq (hF692.1 83 (by decide))) (rwv_eq (hF692.1 83 (by decide))))) rfl (hF692.get (by decide) (hF345.get (by decide) h82_340)) rfl rfl rfl rfl rfl rfl (fun n701 w697 hq698 => ?_)
        obtain ⟨hn702, hI699, hF700⟩ := hq698
        obtain ⟨hx705, h14_703, k8_704⟩ := hn702
        have k14_706 := h14_703.trans hk696
        rcases hx705 with ⟨rfl, hk707, hW708⟩ | ⟨hv709, h9_710, hk707, k10_711, hT_712, hF_713⟩
        · have lf714 : lnR B nn p0 = (false, p_303) := ln305.trans (lnN_n (k := 0) hk707)
          refine xoCh82 (xqc82 hI699 : cp82 (wget w697 82)) (fun f82_715 f82_717 f82_719 f82_721 f82_723 f82_725 f82_727 f82_729 f82_731 f82_733 f82_735 f82_736 f82_737 f82_739 f82_741 f82_743 h82_745 hb716 hb718 hb720 hb722 hb724 hb726 hb728 hb730 hb732 hb734 hb738 hb740 hb742 hb744 hb746 => ?_)
          refine xg_cVv mX12_puts (vs := [(0, 1), (0, u42), (0, (50 + (2 * u42)) + 1), (0, 0)]) (rest := []) (cn1 := 0) (sl1 := 0) rfl (mPuts1 (hI699) (by omega) (by omega) (by omega) (fun _ => by omega)) rfl h82_745 rfl rfl rfl rfl rfl rfl (fun w747 hq748 => ?_)
          obtain ⟨hI749, hF750, hx751⟩ := hq748
          obtain ⟨hp752, hp753⟩ := hx751
          refine xg_t (xg_goto) ?_
          refine xg_t (xg_blq rfl) ?_
          refine xg_t (xg_aload (va := (2, 82)) rfl rfl) ?_
          refine xg_t (xg_getf (va := (0, f82_731)) (hF750.get (by decide) h82_745) rfl) ?_
          have hf754 : fld w747 82 10 = f82_731 := fld_of (hF750.get (by decide) h82_745)
          have hk755 : fld w747 82 10 ≠ 0 := (by have q := hW708.1; have q2 := fld_eq (j := 10) (hF750.1 82 (by decide)); omega)
          refine xg_t (xg_ifT (u := f82_731) rfl xnm0 (xj_neT (by omega))) ?_
          refine xg_t (xg_blq rfl) ?_
          refine xg_t (xg_aload (va := (2, 82)) rfl rfl) ?_
          refine xg_cVv mX12_ends (vs := []) (rest := []) (cn1 := 0) (sl1 := 0) rfl (mEndsW (hI749) (by have q := hW708.1; have q2 := fld_eq (j := 10) (hF750.1 82 (by decide)); omega)) rfl (hF750.get (by decide) h82_745) rfl rfl rfl rfl rfl rfl (fun w756 hq757 => ?_)
          obtain ⟨hI758, hF759⟩ := hq757
          refine xg_t (xg_blq rfl) ?_
          have hf760 : fld w756 82 10 = f82_731 := fld_of (hF759.get (by decide) (hF750.get (by decide) h82_745))
          have hf761 : fld w756 82 14 = f82_733 := fld_of (hF759.get (by decide) (hF750.get (by decide) h82_745))
          have hk762 := ((fld_eq (j := 14) ((hF759.1 82 (by decide)).trans (hF750.1 82 (by decide)))).trans k14_706)
          have hl763 : f82_733 ≤ 500 := by omega
          have hk764 : WRG w756 (tq B nn p_303) := ⟨(fld_eq (j := 10) ((hF759.1 82 (by decide)).trans (hF750.1 82 (by decide)))).trans hW708.1, (rwv_eq (j := 16) ((hF759.1 83 (by decide)).trans (hF750.1 83 (by decide)))).trans hW708.2.1, (rwv_eq (j := 17) ((hF759.1 83 (by decide)).trans (hF750.1 83 (by decide)))).trans hW708.2.2⟩
          refine xg_t (xg_aload (va := (2, 82)) rfl rfl) ?_
          refine xg_t (xg_getf (va := (2, 85)) (hF759.get (by decide) (hF750.get (by decide) h82_745)) rfl) ?_
          refine xg_t (xg_iload (va := (0, 1)) rfl rfl) ?_
          refine xg_t (xg_dup2 rfl) ?_
          refine xoI (xqc85 hI758 : cpI 7 52 4294967295 (wget w756 85)) (fun g85_765 h85_766 hb767 => ?_)
          refine xg_ialdB (n := 1) (B := 4294967295) h85_766 (hb767) xnm0 (by first | decide | omega) (fun u768 hu769 he770 => ?_)
          have hK771 : u768 = u42 := (((rwv_of h85_766 (by decide)).trans he770).symm.trans (rwv_eq ((hF759.1 85 (by decide)).trans ((hF750.1 85 (by decide)).trans ((hF700.1 85 (by decide)).trans ((hF692.1 85 (by decide)).trans ((hF345.1 85 (by decide)).trans ((hF149.1 85 (by decide)).trans ((hF103.1 85 (by decide)).trans hj57))))))))).trans ((hm 1 (by decide)).trans hK45.symm)
          have hl772 : u768 ≤ 500 := by omega
          refine xg_t (xg_const) ?_
          refine xg_t (xg_iadd (u := u768) (v := 1) (z := u768 + 1) xnm0 xnm0 (by omega)) ?_
          refine xg_iastK (n := 1) (u := u768 + 1) h85_766 xnm0 xnm0 rfl (by first | decide | omega) (fun w773 hr774 hb775 => ?_)
          refine xg_t (xg_aload (va := (2, 82)) rfl rfl) ?_
          refine xg_t (xg_dup rfl) ?_
          refine xg_t (xg_getf (va := (0, f82_733)) (hb775.get (by decide) (hF759.get (by decide) (hF750.get (by decide) h82_745))) rfl) ?_
          have hn776 := id hb734
          unfold xHid at hn776
          refine xg_t (xg_const) ?_
          refine xg_t (xg_iadd (u := f82_733) (v := 1) (z := f82_733 + 1) xnm0 xnm0 (by omega)) ?_
          refine xg_putI (fl1 := [(2, 83), (2, 84), (0, f82_715), (0, f82_717), (0, f82_719), (0, f82_721), (0, f82_723), (0, f82_725), (0, f82_727), (0, f82_729), (0, f82_731), (2, 85), (2, 86), (2, 87), (0, f82_733 + 1), (2, 88), (2, 89), (2, 90), (2, 91), (2, 92), (2, 93), (2, 94), (4, f82_735), (4, f82_736), (0, f82_737), (2, 95), (2, 96), (2, 97), (2, 98), (2, 99), (2, 100), (2, 101), (2, 102), (0, f82_739), (2, 103), (2, 104), (2, 105), (2, 106), (2, 107), (2, 108), (2, 109), (0, f82_741), (0, f82_743), (2, 110), (2, 111), (2, 112), (2, 113)]) (hb775.get (by decide) (hF759.get (by decide) (hF750.get (by decide) h82_745))) rfl rfl rfl (fun w777 hk778 hb779 => ?_)
          have hf780 : fld w777 82 10 = f82_731 := fld_of hk778
          have hf781 : fld w777 82 14 = f82_733 + 1 := fld_of hk778
          exact xg_e ⟨w777, ⟨rfl, rfl⟩, xMnv.up (S := [85, 82]) hI758 ((xFr.of (S := [85, 82]) hb775 (by decide)).tr (xFr.of (S := [85, 82]) hb779 (by decide))) (List.forall_mem_cons.mpr ⟨xqu85 (show cpI 7 52 4294967295 (wget w777 85) from ⟨_, (hr774.but hb779 (by decide)), xrb (by omega) (hb767)⟩), List.forall_mem_cons.mpr ⟨xqu82 (show cp82 (wget w777 82) from xmC82 f82_715 f82_717 f82_719 f82_721 f82_723 f82_725 f82_727 f82_729 f82_731 (f82_733 + 1) f82_735 f82_736 f82_737 f82_739 f82_741 f82_743 hk778 hb716 hb718 hb720 hb722 hb724 hb726 hb728 hb730 hb732 (by omega) hb738 hb740 hb742 hb744 (by omega)), fun _ h => absurd h List.not_mem_nil⟩⟩), ((((((((hF50.tr (hF103.up (by decide))).tr (hF149.up (by decide))).tr (hF345.up (by decide))).tr (hF692.up (by decide))).tr (hF700.up (by decide))).tr (hF750.up (by decide))).tr (hF759.up (by decide))).tr ((xFr.of (S := [82, 83, 85, 86, 87]) hb775 (by decide)).tr (xFr.of (S := [82, 83, 85, 86, 87]) hb779 (by decide)))), ⟨Or.inl ⟨p_303, lf714, ⟨by have z := hk764.1; omega, (rwv_eq (j := 16) ((hb779.1 83 (by decide)).trans (hb775.1 83 (by decide)))).trans hk764.2.1, (rwv_eq (j := 17) ((hb779.1 83 (by decide)).trans (hb775.1 83 (by decide)))).trans hk764.2.2⟩⟩, (((((((((hj56.tr (K83.fr hF103 (by decide))).tr k8_153).tr (K83.fr hF345 (by decide))).tr (K83.fr hF692 (by decide))).tr k8_704).tr (K83.fr hF750 (by decide))).tr (K83.fr hF759 (by decide))).tr (K83.but hb775 (by decide))).tr (K83.but hb779 (by decide))), by omega⟩⟩
        · obtain ⟨p_782, hp783⟩ : ∃ x, x = tf B nn p_303 := ⟨_, rfl⟩
          rw [← hp783] at hT_712
          have ln784 : lnR B nn p0 = lnN B nn 1 0 p_782 := by rw [hp783]; exact ln305.trans (lnN_y (k := 0) hk707)
          have vp785 : vlp B nn (lnP B nn k) 1 = p_303 := by show tf B nn (vlp B nn (lnP B nn k) 0) = p_303; rw [vp306]; exact hp304.symm
          have vl786 : vln B nn (lnP B nn k) 1 = tnu B nn p_303 := by
            show (if (1 : Nat) = 3 then _ else tnu B nn (vlp B nn (lnP B nn k) 1)) = _
            rw [if_neg (by decide), vp785]
          have he788 : (chk (mf3 B nn k 1 (flA B nn k)) 1 999 (tnu B nn p_303) (tq B nn p_303)) = (mf4 B nn k 1 (flA B nn k)) := by show _ = chk (mf3 B nn k 1 (flA B nn k)) 1 999 (vln B nn (lnP B nn k) 1) (tq B nn (vlp B nn (lnP B nn k) 1)); rw [vl786, vp785]
          have hF_787 := hF_713
          rw [he788] at hF_787
          have he790 : (mf4 B nn k 1 (flA B nn k)) = (mfl B nn k 1 (flA B nn k)) := rfl
          have hF_789 := hF_787
          rw [he790] at hF_789
          refine xoCh82 (xqc82 hI699 : cp82 (wget w697 82)) (fun f82_791 f82_793 f82_795 f82_797 f82_799 f82_801 f82_803 f82_805 f82_807 f82_809 f82_811 f82_812 f82_813 f82_815 f82_817 f82_819 h82_821 hb792 hb794 hb796 hb798 hb800 hb802 hb804 hb806 hb808 hb810 hb814 hb816 hb818 hb820 hb822 => ?_)
          refine xg_cVv mX12_puts (vs := [(0, 1), (0, u42), (0, (50 + (2 * u42)) + 1), (0, n701)]) (rest := []) (cn1 := 0) (sl1 := 0) rfl (mPuts1 (hI699) (by omega) (by omega) (by omega) (fun _ => by omega)) rfl h82_821 rfl rfl rfl rfl rfl rfl (fun w823 hq824 => ?_)
          obtain ⟨hI825, hF826, hx827⟩ := hq824
          obtain ⟨hp828, hp829⟩ := hx827
          refine xg_t (xg_goto) ?_
          refine xg_t (xg_blq rfl) ?_
          have ln830 : lnR B nn p0 = lnS B nn p_782 := by exact ln784.trans (lnN_0 (by decide))
          refine xg_t (xg_aload (va := (2, 82)) rfl rfl) ?_
          refine xg_t (xg_getf (va := (0, f82_807)) (hF826.get (by decide) h82_821) rfl) ?_
          have hf831 : fld w823 82 10 = f82_807 := fld_of (hF826.get (by decide) h82_821)
          have hk832 : fld w823 82 10 = 0 := ((fld_eq (j := 10) (hF826.1 82 (by decide))).trans k10_711)
          refine xg_t (xg_ifF (u := f82_807) rfl xnm0 (xj_neF (by omega))) ?_
          obtain ⟨⟨ht833, ht834, ht835, ht836, ht837, ht838⟩, ht839, ht840, ht841⟩ := id (hT_712.fr (hF826.1 82 (by decide)))
          have hf842 : fld w823 82 6 = f82_799 := fld_of (hF826.get (by decide) h82_821)
          have hf843 : fld w823 82 7 = f82_801 := fld_of (hF826.get (by decide) h82_821)
          have hf844 : fld w823 82 8 = f82_803 := fld_of (hF826.get (by decide) h82_821)
          have hf845 : fld w823 82 9 = f82_805 := fld_of (hF826.get (by decide) h82_821)
          have hf846 : fld w823 82 3 = f82_793 := fld_of (hF826.get (by decide) h82_821)
          have hmk847 := mkd_of (ir := 0) (B := B) (n := nn) (p := p_782)
          refine xg_t (xg_aload (va := (2, 82)) rfl rfl) ?_
          refine xg_t (xg_getf (va := (0, f82_801)) (hF826.get (by decide) h82_821) rfl) ?_
          refine xg_t (xg_const) ?_
          by_cases hc848 : f82_801 = 2
          · refine xg_t (xg_icF (u := f82_801) (v := 2) rfl xnm0 xnm0 (xj_neF hc848)) ?_
            have sg8491 : tkd B nn p_782 = 3 := by omega
            have sg8492 : B (tq B nn p_782) = 59 := by omega
            refine xg_t (xg_aload (va := (2, 82)) rfl rfl) ?_
            clear ht833 ht834 ht835 ht836 ht837 ht838 ht839 ht840 ht841 hf842 hf843 hf844 hf845 hf846 hmk847
            obtain ⟨⟨ht850, ht851, ht852, ht853, ht854, ht855⟩, -⟩ := id (hT_712.fr (hF826.1 82 (by decide)))
            have hk856 := ((fld_eq (j := 10) (hF826.1 82 (by decide))).trans k10_711)
            have hk857 := ((fld_eq (j := 14) (hF826.1 82 (by decide))).trans k14_706)
            refine xg_cVv mX12_advance (vs := []) (rest := []) (cn1 := 0) (sl1 := 0) rfl (mAdvX (hI825) (hB.fr (fun j h4 h9 => ((((((hj56.tr (K83.fr hF103 (by decide))).tr k8_153).tr (K83.fr hF345 (by decide))).tr (K83.fr hF692 (by decide))).tr k8_704).tr (K83.fr hF826 (by decide))) j (by omega) (by omega) (by omega))) ht850 ht851 (by rw [ht852]; exact tf_le ht855)) rfl (hF826.get (by decide) h82_821) rfl rfl rfl rfl rfl rfl (fun w858 hq859 => ?_)
            obtain ⟨hI860, hF861, hx862⟩ := hq859
            obtain ⟨hz863, hz864, hz865⟩ := hx862
            rw [ht852] at hz863
            clear ht850 ht851 ht852 ht853 ht854 ht855
            obtain ⟨p_866, hp867⟩ : ∃ x, x = tf B nn p_782 := ⟨_, rfl⟩
            rw [← hp867] at hz863
            have k10_868 := hz864.trans hk856
            have k14_869 := hz865.trans hk857
            clear hz864 hz865 hk856 hk857
            have ln870 : lnR B nn p0 = (true, p_866) := by rw [hp867]; exact ln830.trans (lnS_y ⟨sg8491, sg8492⟩)
            refine xg_t (xg_goto) ?_
            refine xg_t (xg_blq rfl) ?_
            refine xoCh82 (xqc82 hI860 : cp82 (wget w858 82)) (fun f82_871 f82_873 f82_875 f82_877 f82_879 f82_881 f82_883 f82_885 f82_887 f82_889 f82_891 f82_892 f82_893 f82_895 f82_897 f82_899 h82_901 hb872 hb874 hb876 hb878 hb880 hb882 hb884 hb886 hb888 hb890 hb894 hb896 hb898 hb900 hb902 => ?_)
            have hf903 : fld w858 82 10 = f82_887 := fld_of h82_901
            have hf904 : fld w858 82 14 = f82_889 := fld_of h82_901
            have hk905 := k14_869
            have hl906 : f82_889 ≤ 500 := by omega
            have hk907 := hz863
            have hk908 := (hF_789.k83 (rwv_eq ((hF861.1 83 (by decide)).trans (hF826.1 83 (by decide)))) (rwv_eq ((hF861.1 83 (by decide)).trans (hF826.1 83 (by decide)))))
            have hk909 := k10_868
            refine xg_t (xg_aload (va := (2, 82)) rfl rfl) ?_
            refine xg_t (xg_getf (va := (2, 85)) h82_901 rfl) ?_
            refine xg_t (xg_iload (va := (0, 1)) rfl rfl) ?_
            refine xg_t (xg_dup2 rfl) ?_
            refine xoI (xqc85 hI860 : cpI 7 52 4294967295 (wget w858 85)) (fun g85_910 h85_911 hb912 => ?_)
            refine xg_ialdB (n := 1) (B := 4294967295) h85_911 (hb912) xnm0 (by first | decide | omega) (fun u913 hu914 he915 => ?_)
            have hK916 : u913 = u42 := (((rwv_of h85_911 (by decide)).trans he915).symm.trans (rwv_eq ((hF861.1 85 (by decide)).trans ((hF826.1 85 (by decide)).trans ((hF700.1 85 (by decide)).trans ((hF692.1 85 (by decide)).trans ((hF345.1 85 (by decide)).trans ((hF149.1 85 (by decide)).trans ((hF103.1 85 (by decide)).trans hj57))))))))).trans ((hm 1 (by decide)).trans hK45.symm)
            have hl917 : u913 ≤ 500 := by omega
            refine xg_t (xg_const) ?_
            refine xg_t (xg_iadd (u := u913) (v := 1) (z := u913 + 1) xnm0 xnm0 (by omega)) ?_
            refine xg_iastK (n := 1) (u := u913 + 1) h85_911 xnm0 xnm0 rfl (by first | decide | omega) (fun w918 hr919 hb920 => ?_)
            refine xg_t (xg_aload (va := (2, 82)) rfl rfl) ?_
            refine xg_t (xg_dup rfl) ?_
            refine xg_t (xg_getf (va := (0, f82_889)) (hb920.get (by decide) h82_901) rfl) ?_
            have hn921 := id hb890
            unfold xHid at hn921
            refine xg_t (xg_const) ?_
            refine xg_t (xg_iadd (u := f82_889) (v := 1) (z := f82_889 + 1) xnm0 xnm0 (by omega)) ?_
            refine xg_putI (fl1 := [(2, 83), (2, 84), (0, f82_871), (0, f82_873), (0, f82_875), (0, f82_877), (0, f82_879), (0, f82_881), (0, f82_883), (0, f82_885), (0, f82_887), (2, 85), (2, 86), (2, 87), (0, f82_889 + 1), (2, 88), (2, 89), (2, 90), (2, 91), (2, 92), (2, 93), (2, 94), (4, f82_891), (4, f82_892), (0, f82_893), (2, 95), (2, 96), (2, 97), (2, 98), (2, 99), (2, 100), (2, 101), (2, 102), (0, f82_895), (2, 103), (2, 104), (2, 105), (2, 106), (2, 107), (2, 108), (2, 109), (0, f82_897), (0, f82_899), (2, 110), (2, 111), (2, 112), (2, 113)]) (hb920.get (by decide) h82_901) rfl rfl rfl (fun w922 hk923 hb924 => ?_)
            have hf925 : fld w922 82 10 = f82_887 := fld_of hk923
            have hf926 : fld w922 82 14 = f82_889 + 1 := fld_of hk923
            have he927 : lnP B nn (k + 1) = p_866 := by
              show (lnR B nn (lnP B nn k)).2 = _
              rw [← hp0, ln870]
            have hT928 : TKM 0 B nn w922 p_866 := hk907.w14 ((show fld w922 82 2 = f82_871 from fld_of hk923).trans (show fld w858 82 2 = f82_871 from fld_of h82_901).symm) ((show fld w922 82 3 = f82_873 from fld_of hk923).trans (show fld w858 82 3 = f82_873 from fld_of h82_901).symm) ((show fld w922 82 4 = f82_875 from fld_of hk923).trans (show fld w858 82 4 = f82_875 from fld_of h82_901).symm) ((show fld w922 82 5 = f82_877 from fld_of hk923).trans (show fld w858 82 5 = f82_877 from fld_of h82_901).symm) ((show fld w922 82 6 = f82_879 from fld_of hk923).trans (show fld w858 82 6 = f82_879 from fld_of h82_901).symm) ((show fld w922 82 7 = f82_881 from fld_of hk923).trans (show fld w858 82 7 = f82_881 from fld_of h82_901).symm) ((show fld w922 82 8 = f82_883 from fld_of hk923).trans (show fld w858 82 8 = f82_883 from fld_of h82_901).symm) ((show fld w922 82 9 = f82_885 from fld_of hk923).trans (show fld w858 82 9 = f82_885 from fld_of h82_901).symm)
            have hF929 : FP w922 (mfl B nn k 1 (flA B nn k)) := hk908.k83 (rwv_eq ((hb924.1 83 (by decide)).trans (hb920.1 83 (by decide)))) (rwv_eq ((hb924.1 83 (by decide)).trans (hb920.1 83 (by decide))))
            have hg931 := (tf_gt (B := B) (n := nn) (p := p_108) (by omega)).2
            have hg932 := tq_ge (B := B) (n := nn) (p := p_108)
            have hg933 := (tf_gt (B := B) (n := nn) (p := p_303) (by omega)).2
            have hg934 := tq_ge (B := B) (n := nn) (p := p_303)
            have hg935 := (tf_gt (B := B) (n := nn) (p := p0) (by rw [slt_kd (by rw [hp0, hs]; decide)]; decide)).2
            have hg936 := (tf_gt (B := B) (n := nn) (p := p_782) (by omega)).2
            have hg937 := tq_ge (B := B) (n := nn) (p := p_782)
            have hg938 := tq_ge (B := B) (n := nn) (p := p_866)
            have hp1x := hp109
            have hO930 : ORD B nn k 1 (tq B nn (lnP B nn (k + 1))) := by
              unfold ORD
              rw [he927, vp306, vp785, ← hp0]
              exact ⟨by omega, by omega, fun z => absurd z (by decide), by omega, fun z => absurd z (by decide)⟩
            have hM939 : rwv w922 85 1 = lnC B nn 1 k + 1 := (rwv_of (hr919.but hb924 (by decide)) (by decide)).trans ((if_pos rfl).trans (by omega))
            have hM940 : ∀ s, s < 7 → s ≠ 1 → rwv w922 85 s = rwv w 85 s := fun s hs hn => (rwv_of (hr919.but hb924 (by decide)) hs).trans ((if_neg hn).trans ((rwv_of h85_911 hs).symm.trans (rwv_eq ((hF861.1 85 (by decide)).trans ((hF826.1 85 (by decide)).trans ((hF700.1 85 (by decide)).trans ((hF692.1 85 (by decide)).trans ((hF345.1 85 (by decide)).trans ((hF149.1 85 (by decide)).trans ((hF103.1 85 (by decide)).trans hj57))))))))))
            have hr941 : lnC B nn 1 k < 4 → ∀ t, t < 2 → XM w922 1 (lnC B nn 1 k) t = vln B nn (lnP B nn k) t := fun hlt t ht => by
              rcases (show t = 0 ∨ t = 1 by omega) with rfl | rfl
              · show rwv w922 86 (50 + 2 * lnC B nn 1 k + 0) = _
                rw [show 50 + 2 * lnC B nn 1 k + 0 = 50 + (2 * u42) by omega]
                exact ((rwv_eq (hb924.1 86 (by decide))).trans ((rwv_eq (hb920.1 86 (by decide))).trans ((rwv_eq (hF861.1 86 (by decide))).trans ((hp829 (50 + (2 * u42)) (by omega) (by omega)).trans (rwv_eq (hF700.1 86 (by decide))))))).trans ((hp694 (by omega)).trans (hv158.trans vl307.symm))
              · show rwv w922 86 (50 + 2 * lnC B nn 1 k + 1) = _
                rw [show 50 + 2 * lnC B nn 1 k + 1 = (50 + (2 * u42)) + 1 by omega]
                exact ((rwv_eq (hb924.1 86 (by decide))).trans ((rwv_eq (hb920.1 86 (by decide))).trans (rwv_eq (hF861.1 86 (by decide))))).trans ((hp828 (by omega)).trans (hv709.trans vl786.symm))
            have ho942 : ∀ j, (j < 50 + 2 * lnC B nn 1 k ∨ 50 + 2 * (lnC B nn 1 k + 1) ≤ j) → j < 140 → rwv w922 86 j = rwv w 86 j := fun j hj hl => ((rwv_eq (hb924.1 86 (by decide))).trans ((rwv_eq (hb920.1 86 (by decide))).trans ((rwv_eq (hF861.1 86 (by decide))).trans ((hp829 j (by omega) hl).trans ((rwv_eq (hF700.1 86 (by decide))).trans ((hp695 j (by omega) hl).trans ((rwv_eq (hF345.1 86 (by decide))).trans ((rwv_eq (hF149.1 86 (by decide))).trans ((rwv_eq (hF103.1 86 (by decide))).trans (rwv_eq hj58))))))))))
            have ha943 : ∀ j, j < 20 → rwv w922 87 j = rwv w 87 j := fun j _ => rwv_eq ((hb924.1 87 (by decide)).trans ((hb920.1 87 (by decide)).trans ((hF861.1 87 (by decide)).trans ((hF826.1 87 (by decide)).trans ((hF700.1 87 (by decide)).trans ((hF692.1 87 (by decide)).trans ((hF345.1 87 (by decide)).trans ((hF149.1 87 (by decide)).trans ((hF103.1 87 (by decide)).trans hj59)))))))))
            have hM944 := MSTok1 hS hs (by have z := hk909; omega) (by omega) hF929 hO930 hM939 hM940 hr941 ho942 ha943
            exact xg_e ⟨w922, ⟨rfl, rfl⟩, xMnv.up (S := [85, 82]) hI860 ((xFr.of (S := [85, 82]) hb920 (by decide)).tr (xFr.of (S := [85, 82]) hb924 (by decide))) (List.forall_mem_cons.mpr ⟨xqu85 (show cpI 7 52 4294967295 (wget w922 85) from ⟨_, (hr919.but hb924 (by decide)), xrb (by omega) (hb912)⟩), List.forall_mem_cons.mpr ⟨xqu82 (show cp82 (wget w922 82) from xmC82 f82_871 f82_873 f82_875 f82_877 f82_879 f82_881 f82_883 f82_885 f82_887 (f82_889 + 1) f82_891 f82_892 f82_893 f82_895 f82_897 f82_899 hk923 hb872 hb874 hb876 hb878 hb880 hb882 hb884 hb886 hb888 (by omega) hb894 hb896 hb898 hb900 (by omega)), fun _ h => absurd h List.not_mem_nil⟩⟩), ((((((((hF50.tr (hF103.up (by decide))).tr (hF149.up (by decide))).tr (hF345.up (by decide))).tr (hF692.up (by decide))).tr (hF700.up (by decide))).tr (hF826.up (by decide))).tr (hF861.up (by decide))).tr ((xFr.of (S := [82, 83, 85, 86, 87]) hb920 (by decide)).tr (xFr.of (S := [82, 83, 85, 86, 87]) hb924 (by decide)))), ⟨Or.inr ⟨by rw [ln870], by rw [he927]; exact hT928, hM944⟩, (((((((((hj56.tr (K83.fr hF103 (by decide))).tr k8_153).tr (K83.fr hF345 (by decide))).tr (K83.fr hF692 (by decide))).tr k8_704).tr (K83.fr hF826 (by decide))).tr (K83.fr hF861 (by decide))).tr (K83.but hb920 (by decide))).tr (K83.but hb924 (by decide))), by omega⟩⟩
          · refine xg_t (xg_icT (u := f82_801) (v := 2) rfl xnm0 xnm0 (xj_neT hc848)) ?_
            refine xg_t (xg_blq rfl) ?_
            have lf945n : ¬ (tkd B nn p_782 = 3 ∧ B (tq B nn p_782) = 59) := by omega
            have lf945 : lnR B nn p0 = (false, p_782) := ln830.trans (lnS_n lf945n)
            refine xg_t (xg_aload (va := (2, 82)) rfl rfl) ?_
            have hk946 := ((fld_eq (j := 14) (hF826.1 82 (by decide))).trans k14_706)
            have hk947 := (hT_712.fr (hF826.1 82 (by decide))).1.2.2.2.1
            clear ht833 ht834 ht835 ht836 ht837 ht838 ht839 ht840 ht841 hf842 hf843 hf844 hf845 hf846 hmk847
            refine xg_cVv mX12_ends (vs := []) (rest := []) (cn1 := 0) (sl1 := 0) rfl (mEndsX (hI825) ((fld_eq (j := 10) (hF826.1 82 (by decide))).trans k10_711)) rfl (hF826.get (by decide) h82_821) rfl rfl rfl rfl rfl rfl (fun w948 hq949 => ?_)
            obtain ⟨hI950, hF951, hx952⟩ := hq949
            obtain ⟨hv953, hv954, hv955, hv956, hv957⟩ := hx952
            have hW958 : WRG w948 (tq B nn p_782) := ⟨hv953, hv954, hv955.trans hk947⟩
            have k14_959 := hv956.trans hk946
            refine xg_t (xg_blq rfl) ?_
            refine xoCh82 (xqc82 hI950 : cp82 (wget w948 82)) (fun f82_960 f82_962 f82_964 f82_966 f82_968 f82_970 f82_972 f82_974 f82_976 f82_978 f82_980 f82_981 f82_982 f82_984 f82_986 f82_988 h82_990 hb961 hb963 hb965 hb967 hb969 hb971 hb973 hb975 hb977 hb979 hb983 hb985 hb987 hb989 hb991 => ?_)
            have hf992 : fld w948 82 10 = f82_976 := fld_of h82_990
            have hf993 : fld w948 82 14 = f82_978 := fld_of h82_990
            have hk994 := k14_959
            have hl995 : f82_978 ≤ 500 := by omega
            have hk996 : WRG w948 (tq B nn p_782) := hW958
            refine xg_t (xg_aload (va := (2, 82)) rfl rfl) ?_
            refine xg_t (xg_getf (va := (2, 85)) h82_990 rfl) ?_
            refine xg_t (xg_iload (va := (0, 1)) rfl rfl) ?_
            refine xg_t (xg_dup2 rfl) ?_
            refine xoI (xqc85 hI950 : cpI 7 52 4294967295 (wget w948 85)) (fun g85_997 h85_998 hb999 => ?_)
            refine xg_ialdB (n := 1) (B := 4294967295) h85_998 (hb999) xnm0 (by first | decide | omega) (fun u1000 hu1001 he1002 => ?_)
            have hK1003 : u1000 = u42 := (((rwv_of h85_998 (by decide)).trans he1002).symm.trans (rwv_eq ((hF951.1 85 (by decide)).trans ((hF826.1 85 (by decide)).trans ((hF700.1 85 (by decide)).trans ((hF692.1 85 (by decide)).trans ((hF345.1 85 (by decide)).trans ((hF149.1 85 (by decide)).trans ((hF103.1 85 (by decide)).trans hj57))))))))).trans ((hm 1 (by decide)).trans hK45.symm)
            have hl1004 : u1000 ≤ 500 := by omega
            refine xg_t (xg_const) ?_
            refine xg_t (xg_iadd (u := u1000) (v := 1) (z := u1000 + 1) xnm0 xnm0 (by omega)) ?_
            refine xg_iastK (n := 1) (u := u1000 + 1) h85_998 xnm0 xnm0 rfl (by first | decide | omega) (fun w1005 hr1006 hb1007 => ?_)
            refine xg_t (xg_aload (va := (2, 82)) rfl rfl) ?_
            refine xg_t (xg_dup rfl) ?_
            refine xg_t (xg_getf (va := (0, f82_978)) (hb1007.get (by decide) h82_990) rfl) ?_
            have hn1008 := id hb979
            unfold xHid at hn1008
            refine xg_t (xg_const) ?_
            refine xg_t (xg_iadd (u := f82_978) (v := 1) (z := f82_978 + 1) xnm0 xnm0 (by omega)) ?_
            refine xg_putI (fl1 := [(2, 83), (2, 84), (0, f82_960), (0, f82_962), (0, f82_964), (0, f82_966), (0, f82_968), (0, f82_970), (0, f82_972), (0, f82_974), (0, f82_976), (2, 85), (2, 86), (2, 87), (0, f82_978 + 1), (2, 88), (2, 89), (2, 90), (2, 91), (2, 92), (2, 93), (2, 94), (4, f82_980), (4, f82_981), (0, f82_982), (2, 95), (2, 96), (2, 97), (2, 98), (2, 99), (2, 100), (2, 101), (2, 102), (0, f82_984), (2, 103), (2, 104), (2, 105), (2, 106), (2, 107), (2, 108), (2, 109), (0, f82_986), (0, f82_988), (2, 110), (2, 111), (2, 112), (2, 113)]) (hb1007.get (by decide) h82_990) rfl rfl rfl (fun w1009 hk1010 hb1011 => ?_)
            have hf1012 : fld w1009 82 10 = f82_976 := fld_of hk1010
            have hf1013 : fld w1009 82 14 = f82_978 + 1 := fld_of hk1010
            exact xg_e ⟨w1009, ⟨rfl, rfl⟩, xMnv.up (S := [85, 82]) hI950 ((xFr.of (S := [85, 82]) hb1007 (by decide)).tr (xFr.of (S := [85, 82]) hb1011 (by decide))) (List.forall_mem_cons.mpr ⟨xqu85 (show cpI 7 52 4294967295 (wget w1009 85) from ⟨_, (hr1006.but hb1011 (by decide)), xrb (by omega) (hb999)⟩), List.forall_mem_cons.mpr ⟨xqu82 (show cp82 (wget w1009 82) from xmC82 f82_960 f82_962 f82_964 f82_966 f82_968 f82_970 f82_972 f82_974 f82_976 (f82_978 + 1) f82_980 f82_981 f82_982 f82_984 f82_986 f82_988 hk1010 hb961 hb963 hb965 hb967 hb969 hb971 hb973 hb975 hb977 (by omega) hb983 hb985 hb987 hb989 (by omega)), fun _ h => absurd h List.not_mem_nil⟩⟩), ((((((((hF50.tr (hF103.up (by decide))).tr (hF149.up (by decide))).tr (hF345.up (by decide))).tr (hF692.up (by decide))).tr (hF700.up (by decide))).tr (hF826.up (by decide))).tr (hF951.up (by decide))).tr ((xFr.of (S := [82, 83, 85, 86, 87]) hb1007 (by decide)).tr (xFr.of (S := [82, 83, 85, 86, 87]) hb1011 (by decide)))), ⟨Or.inl ⟨p_782, lf945, ⟨by have z := hk996.1; omega, (rwv_eq (j := 16) ((hb1011.1 83 (by decide)).trans (hb1007.1 83 (by decide)))).trans hk996.2.1, (rwv_eq (j := 17) ((hb1011.1 83 (by decide)).trans (hb1007.1 83 (by decide)))).trans hk996.2.2⟩⟩, (((((((((hj56.tr (K83.fr hF103 (by decide))).tr k8_153).tr (K83.fr hF345 (by decide))).tr (K83.fr hF692 (by decide))).tr k8_704).tr (K83.fr hF826 (by decide))).tr hv957).tr (K83.but hb1007 (by decide))).tr (K83.but hb1011 (by decide))), by omega⟩⟩
  refine xg_t (xg_iload (va := (0, u42)) rfl rfl) ?_
  refine xg_t (xg_iload (va := (0, 1)) rfl rfl) ?_
  refine xg_t (xg_cSr mX12_mostOf (vs := [(0, 1)]) (rest := [(0, u42)]) (rs := [(0, 4), (0, u42)]) (cn1 := 0) (sl1 := 0) rfl (mMostR1) rfl rfl rfl rfl rfl rfl rfl rfl) ?_
  by_cases hc1014 : u42 < 4
  · refine xg_t (xg_icT (u := u42) (v := 4) rfl xnm0 xnm0 (xj_ltT hc1014 (by omega))) ?_
    refine xg_t (xg_drop (l1 := [(0, (2, 82)), (1, (0, 1)), (2, (0, at_)), (3, (0, u42))]) (List.forall_mem_cons.mpr ⟨List.mem_cons_of_mem _ (List.mem_cons_of_mem _ (List.mem_cons_of_mem _ (List.mem_cons_self))), List.forall_mem_cons.mpr ⟨List.mem_cons_of_mem _ (List.mem_cons_of_mem _ (List.mem_cons_self)), List.forall_mem_cons.mpr ⟨List.mem_cons_of_mem _ (List.mem_cons_self), List.forall_mem_cons.mpr ⟨List.mem_cons_self, fun _ h => absurd h List.not_mem_nil⟩⟩⟩⟩)) ?_
    have he1015 : flA B nn k = mf1 B nn k 1 (flA B nn k) := by unfold mf1; rw [decide_eq_false (show ¬ lim 1 ≤ lnC B nn 1 k from (show ¬ 4 ≤ lnC B nn 1 k by omega))]; rfl
    exact jn47 w (hI) (xFr.rf) (⟨by rw [← he1015]; exact zF, z10, hT, z14, K83.rf, rfl, rfl, rfl⟩)
  · refine xg_t (xg_icF (u := u42) (v := 4) rfl xnm0 xnm0 (xj_ltF (by omega) (by omega))) ?_
    refine xg_t (xg_aload (va := (2, 82)) rfl rfl) ?_
    refine xg_t (xg_const) ?_
    refine xg_t (xg_iload (va := (0, at_)) rfl rfl) ?_
    refine xg_cVv mX12_also (vs := [(0, 3), (0, at_)]) (rest := []) (cn1 := 0) (sl1 := 0) rfl (mAlsoX (hI) (by omega) (by omega) (by omega) z10 zF) rfl h82_31 rfl rfl rfl rfl rfl rfl (fun w1016 hq1017 => ?_)
    obtain ⟨hI1018, hF1019, hx1020⟩ := hq1017
    obtain ⟨hv1021, hv1022⟩ := hx1020
    refine xg_t (xg_drop (l1 := [(0, (2, 82)), (1, (0, 1)), (2, (0, at_)), (3, (0, u42))]) (List.forall_mem_cons.mpr ⟨List.mem_cons_of_mem _ (List.mem_cons_of_mem _ (List.mem_cons_of_mem _ (List.mem_cons_self))), List.forall_mem_cons.mpr ⟨List.mem_cons_of_mem _ (List.mem_cons_of_mem _ (List.mem_cons_self)), List.forall_mem_cons.mpr ⟨List.mem_cons_of_mem _ (List.mem_cons_self), List.forall_mem_cons.mpr ⟨List.mem_cons_self, fun _ h => absurd h List.not_mem_nil⟩⟩⟩⟩)) ?_
    have he1023 : alo (flA B nn k) 3 at_ = mf1 B nn k 1 (flA B nn k) := by unfold mf1; rw [decide_eq_true (show lim 1 ≤ lnC B nn 1 k from (show 4 ≤ lnC B nn 1 k by omega)), hat, hp0]; rfl
    exact jn47 w1016 (hI1018) ((hF1019.up (by decide))) (⟨by rw [← he1023]; exact hv1021, ((fld_eq (j := 10) (hF1019.1 82 (by decide))).trans z10), (hT.fr (hF1019.1 82 (by decide))), ((fld_eq (j := 14) (hF1019.1 82 (by decide))).trans z14), hv1022, (hF1019.1 85 (by decide)), (hF1019.1 86 (by decide)), (hF1019.1 87 (by decide))⟩)
end XFME
end
