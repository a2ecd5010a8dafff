/-! rules as a text: numbers alone -/
section XPRU
variable {B : Nat → Nat} {n p q k : Nat} {fp : Nat × Nat}
theorem wixR_40 {v : Nat} : wixR v = 40 ↔ v = 2098 := by
  refine ⟨fun h => ?_, fun h => by rw [h]; rfl⟩
  by_cases e20 : v = 650416307
  · rw [e20] at h
    exact absurd h (by decide)
  by_cases e21 : v = 24395141
  · rw [e21] at h
    exact absurd h (by decide)
  by_cases e22 : v = 404526675
  · rw [e22] at h
    exact absurd h (by decide)
  by_cases e23 : v = 12748404
  · rw [e23] at h
    exact absurd h (by decide)
  by_cases e24 : v = 605939
  · rw [e24] at h
    exact absurd h (by decide)
  by_cases e25 : v = 6308
  · rw [e25] at h
    exact absurd h (by decide)
  by_cases e26 : v = 4245875
  · rw [e26] at h
    exact absurd h (by decide)
  by_cases e27 : v = 24627848
  · rw [e27] at h
    exact absurd h (by decide)
  by_cases e28 : v = 119573875
  · rw [e28] at h
    exact absurd h (by decide)
  by_cases e29 : v = 366100
  · rw [e29] at h
    exact absurd h (by decide)
  by_cases e30 : v = 4153
  · rw [e30] at h
    exact absurd h (by decide)
  by_cases e40 : v = 2098
  · exact e40
  by_cases e41 : v = 17376357
  · rw [e41] at h
    exact absurd h (by decide)
  by_cases e42 : v = 398963
  · rw [e42] at h
    exact absurd h (by decide)
  by_cases e50 : v = 294
  · rw [e50] at h
    exact absurd h (by decide)
  by_cases e51 : v = 1476
  · rw [e51] at h
    exact absurd h (by decide)
  by_cases e52 : v = 14836
  · rw [e52] at h
    exact absurd h (by decide)
  unfold wixR at h
  rw [if_neg e20, if_neg e21, if_neg e22, if_neg e23, if_neg e24, if_neg e25, if_neg e26, if_neg e27, if_neg e28, if_neg e29, if_neg e30, if_neg e40, if_neg e41, if_neg e42, if_neg e50, if_neg e51, if_neg e52] at h
  exact absurd h (by decide)
theorem wixR_41 {v : Nat} : wixR v = 41 ↔ v = 17376357 := by
  refine ⟨fun h => ?_, fun h => by rw [h]; rfl⟩
  by_cases e20 : v = 650416307
  · rw [e20] at h
    exact absurd h (by decide)
  by_cases e21 : v = 24395141
  · rw [e21] at h
    exact absurd h (by decide)
  by_cases e22 : v = 404526675
  · rw [e22] at h
    exact absurd h (by decide)
  by_cases e23 : v = 12748404
  · rw [e23] at h
    exact absurd h (by decide)
  by_cases e24 : v = 605939
  · rw [e24] at h
    exact absurd h (by decide)
  by_cases e25 : v = 6308
  · rw [e25] at h
    exact absurd h (by decide)
  by_cases e26 : v = 4245875
  · rw [e26] at h
    exact absurd h (by decide)
  by_cases e27 : v = 24627848
  · rw [e27] at h
    exact absurd h (by decide)
  by_cases e28 : v = 119573875
  · rw [e28] at h
    exact absurd h (by decide)
  by_cases e29 : v = 366100
  · rw [e29] at h
    exact absurd h (by decide)
  by_cases e30 : v = 4153
  · rw [e30] at h
    exact absurd h (by decide)
  by_cases e40 : v = 2098
  · rw [e40] at h
    exact absurd h (by decide)
  by_cases e41 : v = 17376357
  · exact e41
  by_cases e42 : v = 398963
  · rw [e42] at h
    exact absurd h (by decide)
  by_cases e50 : v = 294
  · rw [e50] at h
    exact absurd h (by decide)
  by_cases e51 : v = 1476
  · rw [e51] at h
    exact absurd h (by decide)
  by_cases e52 : v = 14836
  · rw [e52] at h
    exact absurd h (by decide)
  unfold wixR at h
  rw [if_neg e20, if_neg e21, if_neg e22, if_neg e23, if_neg e24, if_neg e25, if_neg e26, if_neg e27, if_neg e28, if_neg e29, if_neg e30, if_neg e40, if_neg e41, if_neg e42, if_neg e50, if_neg e51, if_neg e52] at h
  exact absurd h (by decide)
theorem wixR_42 {v : Nat} : wixR v = 42 ↔ v = 398963 := by
  refine ⟨fun h => ?_, fun h => by rw [h]; rfl⟩
  by_cases e20 : v = 650416307
  · rw [e20] at h
    exact absurd h (by decide)
  by_cases e21 : v = 24395141
  · rw [e21] at h
    exact absurd h (by decide)
  by_cases e22 : v = 404526675
  · rw [e22] at h
    exact absurd h (by decide)
  by_cases e23 : v = 12748404
  · rw [e23] at h
    exact absurd h (by decide)
  by_cases e24 : v = 605939
  · rw [e24] at h
    exact absurd h (by decide)
  by_cases e25 : v = 6308
  · rw [e25] at h
    exact absurd h (by decide)
  by_cases e26 : v = 4245875
  · rw [e26] at h
    exact absurd h (by decide)
  by_cases e27 : v = 24627848
  · rw [e27] at h
    exact absurd h (by decide)
  by_cases e28 : v = 119573875
  · rw [e28] at h
    exact absurd h (by decide)
  by_cases e29 : v = 366100
  · rw [e29] at h
    exact absurd h (by decide)
  by_cases e30 : v = 4153
  · rw [e30] at h
    exact absurd h (by decide)
  by_cases e40 : v = 2098
  · rw [e40] at h
    exact absurd h (by decide)
  by_cases e41 : v = 17376357
  · rw [e41] at h
    exact absurd h (by decide)
  by_cases e42 : v = 398963
  · exact e42
  by_cases e50 : v = 294
  · rw [e50] at h
    exact absurd h (by decide)
  by_cases e51 : v = 1476
  · rw [e51] at h
    exact absurd h (by decide)
  by_cases e52 : v = 14836
  · rw [e52] at h
    exact absurd h (by decide)
  unfold wixR at h
  rw [if_neg e20, if_neg e21, if_neg e22, if_neg e23, if_neg e24, if_neg e25, if_neg e26, if_neg e27, if_neg e28, if_neg e29, if_neg e30, if_neg e40, if_neg e41, if_neg e42, if_neg e50, if_neg e51, if_neg e52] at h
  exact absurd h (by decide)
theorem wixR_50 {v : Nat} : wixR v = 50 ↔ v = 294 := by
  refine ⟨fun h => ?_, fun h => by rw [h]; rfl⟩
  by_cases e20 : v = 650416307
  · rw [e20] at h
    exact absurd h (by decide)
  by_cases e21 : v = 24395141
  · rw [e21] at h
    exact absurd h (by decide)
  by_cases e22 : v = 404526675
  · rw [e22] at h
    exact absurd h (by decide)
  by_cases e23 : v = 12748404
  · rw [e23] at h
    exact absurd h (by decide)
  by_cases e24 : v = 605939
  · rw [e24] at h
    exact absurd h (by decide)
  by_cases e25 : v = 6308
  · rw [e25] at h
    exact absurd h (by decide)
  by_cases e26 : v = 4245875
  · rw [e26] at h
    exact absurd h (by decide)
  by_cases e27 : v = 24627848
  · rw [e27] at h
    exact absurd h (by decide)
  by_cases e28 : v = 119573875
  · rw [e28] at h
    exact absurd h (by decide)
  by_cases e29 : v = 366100
  · rw [e29] at h
    exact absurd h (by decide)
  by_cases e30 : v = 4153
  · rw [e30] at h
    exact absurd h (by decide)
  by_cases e40 : v = 2098
  · rw [e40] at h
    exact absurd h (by decide)
  by_cases e41 : v = 17376357
  · rw [e41] at h
    exact absurd h (by decide)
  by_cases e42 : v = 398963
  · rw [e42] at h
    exact absurd h (by decide)
  by_cases e50 : v = 294
  · exact e50
  by_cases e51 : v = 1476
  · rw [e51] at h
    exact absurd h (by decide)
  by_cases e52 : v = 14836
  · rw [e52] at h
    exact absurd h (by decide)
  unfold wixR at h
  rw [if_neg e20, if_neg e21, if_neg e22, if_neg e23, if_neg e24, if_neg e25, if_neg e26, if_neg e27, if_neg e28, if_neg e29, if_neg e30, if_neg e40, if_neg e41, if_neg e42, if_neg e50, if_neg e51, if_neg e52] at h
  exact absurd h (by decide)
theorem wixR_51 {v : Nat} : wixR v = 51 ↔ v = 1476 := by
  refine ⟨fun h => ?_, fun h => by rw [h]; rfl⟩
  by_cases e20 : v = 650416307
  · rw [e20] at h
    exact absurd h (by decide)
  by_cases e21 : v = 24395141
  · rw [e21] at h
    exact absurd h (by decide)
  by_cases e22 : v = 404526675
  · rw [e22] at h
    exact absurd h (by decide)
  by_cases e23 : v = 12748404
  · rw [e23] at h
    exact absurd h (by decide)
  by_cases e24 : v = 605939
  · rw [e24] at h
    exact absurd h (by decide)
  by_cases e25 : v = 6308
  · rw [e25] at h
    exact absurd h (by decide)
  by_cases e26 : v = 4245875
  · rw [e26] at h
    exact absurd h (by decide)
  by_cases e27 : v = 24627848
  · rw [e27] at h
    exact absurd h (by decide)
  by_cases e28 : v = 119573875
  · rw [e28] at h
    exact absurd h (by decide)
  by_cases e29 : v = 366100
  · rw [e29] at h
    exact absurd h (by decide)
  by_cases e30 : v = 4153
  · rw [e30] at h
    exact absurd h (by decide)
  by_cases e40 : v = 2098
  · rw [e40] at h
    exact absurd h (by decide)
  by_cases e41 : v = 17376357
  · rw [e41] at h
    exact absurd h (by decide)
  by_cases e42 : v = 398963
  · rw [e42] at h
    exact absurd h (by decide)
  by_cases e50 : v = 294
  · rw [e50] at h
    exact absurd h (by decide)
  by_cases e51 : v = 1476
  · exact e51
  by_cases e52 : v = 14836
  · rw [e52] at h
    exact absurd h (by decide)
  unfold wixR at h
  rw [if_neg e20, if_neg e21, if_neg e22, if_neg e23, if_neg e24, if_neg e25, if_neg e26, if_neg e27, if_neg e28, if_neg e29, if_neg e30, if_neg e40, if_neg e41, if_neg e42, if_neg e50, if_neg e51, if_neg e52] at h
  exact absurd h (by decide)
theorem wixR_52 {v : Nat} : wixR v = 52 ↔ v = 14836 := by
  refine ⟨fun h => ?_, fun h => by rw [h]; rfl⟩
  by_cases e20 : v = 650416307
  · rw [e20] at h
    exact absurd h (by decide)
  by_cases e21 : v = 24395141
  · rw [e21] at h
    exact absurd h (by decide)
  by_cases e22 : v = 404526675
  · rw [e22] at h
    exact absurd h (by decide)
  by_cases e23 : v = 12748404
  · rw [e23] at h
    exact absurd h (by decide)
  by_cases e24 : v = 605939
  · rw [e24] at h
    exact absurd h (by decide)
  by_cases e25 : v = 6308
  · rw [e25] at h
    exact absurd h (by decide)
  by_cases e26 : v = 4245875
  · rw [e26] at h
    exact absurd h (by decide)
  by_cases e27 : v = 24627848
  · rw [e27] at h
    exact absurd h (by decide)
  by_cases e28 : v = 119573875
  · rw [e28] at h
    exact absurd h (by decide)
  by_cases e29 : v = 366100
  · rw [e29] at h
    exact absurd h (by decide)
  by_cases e30 : v = 4153
  · rw [e30] at h
    exact absurd h (by decide)
  by_cases e40 : v = 2098
  · rw [e40] at h
    exact absurd h (by decide)
  by_cases e41 : v = 17376357
  · rw [e41] at h
    exact absurd h (by decide)
  by_cases e42 : v = 398963
  · rw [e42] at h
    exact absurd h (by decide)
  by_cases e50 : v = 294
  · rw [e50] at h
    exact absurd h (by decide)
  by_cases e51 : v = 1476
  · rw [e51] at h
    exact absurd h (by decide)
  by_cases e52 : v = 14836
  · exact e52
  unfold wixR at h
  rw [if_neg e20, if_neg e21, if_neg e22, if_neg e23, if_neg e24, if_neg e25, if_neg e26, if_neg e27, if_neg e28, if_neg e29, if_neg e30, if_neg e40, if_neg e41, if_neg e42, if_neg e50, if_neg e51, if_neg e52] at h
  exact absurd h (by decide)
theorem wixR_ms {v : Nat} (h20 : v ≠ 650416307) (h21 : v ≠ 24395141) (h22 : v ≠ 404526675) (h23 : v ≠ 12748404) (h24 : v ≠ 605939) (h25 : v ≠ 6308) (h26 : v ≠ 4245875) (h27 : v ≠ 24627848) (h28 : v ≠ 119573875) (h29 : v ≠ 366100) (h30 : v ≠ 4153) : ¬ (20 ≤ wixR v ∧ wixR v ≤ 30) := by
  unfold wixR
  rw [if_neg h20, if_neg h21, if_neg h22, if_neg h23, if_neg h24, if_neg h25, if_neg h26, if_neg h27, if_neg h28, if_neg h29, if_neg h30]
  repeat' split
  all_goals omega
/-- a word of rules, by its number -/
def rwx (B : Nat → Nat) (n p : Nat) : Nat := wixR (twk B n p)
theorem rwx_0 (h : tkd B n p ≠ 1) : rwx B n p = 99 := by
  unfold rwx
  rw [twk_0 h]
  rfl
theorem rwx_1 (h : rwx B n p ≠ 99) : tkd B n p = 1 := by
  by_cases e : tkd B n p = 1
  · exact e
  · exact absurd (rwx_0 e) h
theorem tfp : p ≤ tf B n p := Nat.le_trans tq_ge tf_ge
theorem tfp_gt (h : tkd B n p ≠ 0) : p < tf B n p := Nat.lt_of_le_of_lt tq_ge (tf_gt h).2
theorem tk3_of (h : tkd B n p = 3) : B (tq B n p) = 59 ∨ B (tq B n p) = 58 ∨ B (tq B n p) = 60 ∨ B (tq B n p) = 62 ∨ B (tq B n p) = 61 := by
  have h1 := (tf_gt (B := B) (n := n) (p := p) (by omega)).1
  cases hl : cL (B (tq B n p)) with
  | true =>
    have := (tk_word h1 hl).1
    omega
  | false =>
    cases hd : cD (B (tq B n p)) with
    | true =>
      have z := (tk_num h1 hl hd).1
      rw [h] at z
      split at z <;> omega
    | false =>
      have z := (tk_sign h1 hl hd).1
      rw [h] at z
      cases hs : cS (B (tq B n p)) with
      | true => exact of_decide_eq_true hs
      | false =>
        rw [hs, if_neg Bool.false_ne_true] at z
        omega
/-- one too many -/
def rnt (fp : Nat × Nat) (a : Nat) : Nat × Nat := if fp.1 = 0 then (3, a) else fp
theorem rnt_0 {a : Nat} (h : fp.1 = 0) : rnt fp a = (3, a) := if_pos h
theorem rnt_1 {a : Nat} (h : fp.1 ≠ 0) : rnt fp a = fp := if_neg h
def fpi (fp : Nat × Nat) (p : Nat) : Prop := fp.1 ≠ 0 → fp.1 = 3 ∧ fp.2 ≤ p
theorem fpi.up (h : fpi fp p) (e : p ≤ q) : fpi fp q := fun z => ⟨(h z).1, Nat.le_trans (h z).2 e⟩
theorem fpi.nt {a : Nat} (h : fpi fp p) (e : p ≤ q) (ha : a ≤ q) : fpi (rnt fp a) q := by
  by_cases z : fp.1 = 0
  · rw [rnt_0 z]
    exact fun _ => ⟨rfl, ha⟩
  · rw [rnt_1 z]
    exact h.up e
theorem fpi.aloi {a : Nat} (h : fpi fp p) (e : p ≤ a) : alo fp 3 a = rnt fp a := by
  by_cases z : fp.1 = 0
  · rw [rnt_0 z]
    exact alo_n (fun y => y.1 z)
  · obtain ⟨h1, h2⟩ := h z
    rw [rnt_1 z]
    exact alo_y ⟨z, by omega⟩
/-- a test from its measure on: does it go on, and where is the token behind it (or with which no text goes on) -/
def rt2 (B : Nat → Nat) (n p : Nat) : Bool × Nat := if 20 ≤ rwx B n p ∧ rwx B n p ≤ 30 then (if rwx B n p ≤ 21 then (true, tf B n p) else (if tkd B n (tf B n p) = 3 ∧ B (tq B n (tf B n p)) ≠ 58 ∧ B (tq B n (tf B n p)) ≠ 59 then (if tkd B n (tf B n (tf B n p)) = 2 then (true, tf B n (tf B n (tf B n p))) else (false, tf B n (tf B n p))) else (false, tf B n p))) else (false, p)
theorem rt2_0 (h : ¬ (20 ≤ rwx B n p ∧ rwx B n p ≤ 30)) : rt2 B n p = (false, p) := if_neg h
theorem rt2_1 (h1 : 20 ≤ rwx B n p) (h2 : rwx B n p ≤ 21) : rt2 B n p = (true, tf B n p) := by
  unfold rt2
  rw [if_pos ⟨h1, by omega⟩, if_pos h2]
theorem rt2_2 (h1 : 22 ≤ rwx B n p) (h2 : rwx B n p ≤ 30) (h3 : ¬ (tkd B n (tf B n p) = 3 ∧ B (tq B n (tf B n p)) ≠ 58 ∧ B (tq B n (tf B n p)) ≠ 59)) : rt2 B n p = (false, tf B n p) := by
  unfold rt2
  rw [if_pos ⟨by omega, h2⟩, if_neg (by omega), if_neg h3]
theorem rt2_3 (h1 : 22 ≤ rwx B n p) (h2 : rwx B n p ≤ 30) (h3 : tkd B n (tf B n p) = 3 ∧ B (tq B n (tf B n p)) ≠ 58 ∧ B (tq B n (tf B n p)) ≠ 59) (h4 : tkd B n (tf B n (tf B n p)) ≠ 2) : rt2 B n p = (false, tf B n (tf B n p)) := by
  unfold rt2
  rw [if_pos ⟨by omega, h2⟩, if_neg (by omega), if_pos h3, if_neg h4]
theorem rt2_4 (h1 : 22 ≤ rwx B n p) (h2 : rwx B n p ≤ 30) (h3 : tkd B n (tf B n p) = 3 ∧ B (tq B n (tf B n p)) ≠ 58 ∧ B (tq B n (tf B n p)) ≠ 59) (h4 : tkd B n (tf B n (tf B n p)) = 2) : rt2 B n p = (true, tf B n (tf B n (tf B n p))) := by
  unfold rt2
  rw [if_pos ⟨by omega, h2⟩, if_neg (by omega), if_pos h3, if_pos h4]
theorem rt2_b (h : p ≤ n) : p ≤ (rt2 B n p).2 ∧ (rt2 B n p).2 ≤ n := by
  have a1 := tfp (B := B) (n := n) (p := p)
  have b1 := tf_le (B := B) h
  have a2 := tfp (B := B) (n := n) (p := tf B n p)
  have b2 := tf_le (B := B) b1
  have a3 := tfp (B := B) (n := n) (p := tf B n (tf B n p))
  have b3 := tf_le (B := B) b2
  unfold rt2
  repeat' split
  · exact ⟨a1, b1⟩
  · exact ⟨Nat.le_trans a1 (Nat.le_trans a2 a3), b3⟩
  · exact ⟨Nat.le_trans a1 a2, b2⟩
  · exact ⟨a1, b1⟩
  · exact ⟨Nat.le_refl _, h⟩
def rt1 (B : Nat → Nat) (n p : Nat) : Nat := if rwx B n p = 52 then tf B n p else p
theorem rt1_y (h : rwx B n p = 52) : rt1 B n p = tf B n p := if_pos h
theorem rt1_n (h : rwx B n p ≠ 52) : rt1 B n p = p := if_neg h
/-- a test -/
def rtR (B : Nat → Nat) (n p : Nat) : Bool × Nat := rt2 B n (rt1 B n p)
theorem rtR_b (h : p ≤ n) : p ≤ (rtR B n p).2 ∧ (rtR B n p).2 ≤ n := by
  unfold rtR
  by_cases e : rwx B n p = 52
  · rw [rt1_y e]
    have a := tfp (B := B) (n := n) (p := p)
    obtain ⟨b, c⟩ := rt2_b (B := B) (tf_le (B := B) h)
    exact ⟨Nat.le_trans a b, c⟩
  · rw [rt1_n e]
    exact rt2_b h
theorem rtR_and (h : p ≤ n) (h2 : rwx B n (rtR B n p).2 = 51) : p < tf B n (rtR B n p).2 ∧ tf B n (rtR B n p).2 ≤ n := by
  obtain ⟨a, b⟩ := rtR_b (B := B) h
  have c := tfp_gt (B := B) (n := n) (p := (rtR B n p).2) (by rw [rwx_1 (by rw [h2]; decide)]; decide)
  exact ⟨Nat.lt_of_le_of_lt a c, tf_le b⟩
def rg (B : Nat → Nat) (n k p : Nat) (fp : Nat × Nat) : Nat × Nat := if 4 ≤ k then rnt fp (tq B n p) else fp
theorem rg_y (h : 4 ≤ k) : rg B n k p fp = rnt fp (tq B n p) := if_pos h
theorem rg_n (h : ¬ 4 ≤ k) : rg B n k p fp = fp := if_neg h
theorem fpi.rgi {a : Nat} (h : fpi fp a) (e : a ≤ q) (hq : tq B n p ≤ q) : fpi (rg B n k p fp) q := by
  by_cases z : 4 ≤ k
  · rw [rg_y z]
    exact h.nt e hq
  · rw [rg_n z]
    exact h.up e
/-- the tests of a line, from the k-th on at p -/
def rsU (B : Nat → Nat) (n : Nat) : Nat → Nat → Nat → Nat × Nat → Bool × Nat × (Nat × Nat)
  | 0, _, p, fp => (false, p, fp)
  | f + 1, k, p, fp => if (rtR B n p).1 = true then (if rwx B n (rtR B n p).2 = 51 then rsU B n f (k + 1) (tf B n (rtR B n p).2) (rg B n k p fp) else (if tkd B n (rtR B n p).2 = 3 ∧ B (tq B n (rtR B n p).2) = 58 then (true, tf B n (rtR B n p).2, rg B n k p fp) else (false, (rtR B n p).2, rg B n k p fp))) else (false, (rtR B n p).2, rg B n k p fp)
theorem rsU_s {f : Nat} : rsU B n (f + 1) k p fp = (if (rtR B n p).1 = true then (if rwx B n (rtR B n p).2 = 51 then rsU B n f (k + 1) (tf B n (rtR B n p).2) (rg B n k p fp) else (if tkd B n (rtR B n p).2 = 3 ∧ B (tq B n (rtR B n p).2) = 58 then (true, tf B n (rtR B n p).2, rg B n k p fp) else (false, (rtR B n p).2, rg B n k p fp))) else (false, (rtR B n p).2, rg B n k p fp)) := rfl
theorem rsU_f : ∀ f g k p (fp : Nat × Nat), p ≤ n → n - p < f → n - p < g → rsU B n f k p fp = rsU B n g k p fp
  | 0, _, _, _, _, _, h, _ => absurd h (Nat.not_lt_zero _)
  | _ + 1, 0, _, _, _, _, _, h => absurd h (Nat.not_lt_zero _)
  | f + 1, g + 1, k, p, fp, hp, h1, h2 => by
    rw [rsU_s, rsU_s]
    by_cases e : rwx B n (rtR B n p).2 = 51
    · obtain ⟨a, b⟩ := rtR_and (B := B) hp e
      rw [rsU_f f g (k + 1) (tf B n (rtR B n p).2) (rg B n k p fp) b (by omega) (by omega)]
    · rw [if_neg e, if_neg e]
def rs (B : Nat → Nat) (n k p : Nat) (fp : Nat × Nat) : Bool × Nat × (Nat × Nat) := rsU B n (n - p + 1) k p fp
theorem rs_and (hp : p ≤ n) (h1 : (rtR B n p).1 = true) (h2 : rwx B n (rtR B n p).2 = 51) : rs B n k p fp = rs B n (k + 1) (tf B n (rtR B n p).2) (rg B n k p fp) := by
  obtain ⟨a, b⟩ := rtR_and (B := B) hp h2
  unfold rs
  rw [rsU_s, if_pos h1, if_pos h2]
  exact rsU_f _ _ _ _ _ b (by omega) (by omega)
theorem rs_col (h1 : (rtR B n p).1 = true) (h2 : tkd B n (rtR B n p).2 = 3 ∧ B (tq B n (rtR B n p).2) = 58) : rs B n k p fp = (true, tf B n (rtR B n p).2, rg B n k p fp) := by
  have h3 : rwx B n (rtR B n p).2 ≠ 51 := by
    rw [rwx_0 (by rw [h2.1]; decide)]
    decide
  unfold rs
  rw [rsU_s, if_pos h1, if_neg h3, if_pos h2]
theorem rs_bad (h1 : (rtR B n p).1 = true) (h2 : rwx B n (rtR B n p).2 ≠ 51) (h3 : ¬ (tkd B n (rtR B n p).2 = 3 ∧ B (tq B n (rtR B n p).2) = 58)) : rs B n k p fp = (false, (rtR B n p).2, rg B n k p fp) := by
  unfold rs
  rw [rsU_s, if_pos h1, if_neg h2, if_neg h3]
theorem rs_no (h1 : (rtR B n p).1 = false) : rs B n k p fp = (false, (rtR B n p).2, rg B n k p fp) := by
  unfold rs
  rw [rsU_s, if_neg (by rw [h1]; exact Bool.false_ne_true)]
theorem rsU_b : ∀ f k p (fp : Nat × Nat), p ≤ n → p ≤ (rsU B n f k p fp).2.1 ∧ (rsU B n f k p fp).2.1 ≤ n
  | 0, _, _, _, h => ⟨Nat.le_refl _, h⟩
  | f + 1, k, p, fp, h => by
    obtain ⟨a, b⟩ := rtR_b (B := B) h
    have c := tfp (B := B) (n := n) (p := (rtR B n p).2)
    have c2 := tf_le (B := B) b
    obtain ⟨d, e⟩ := rsU_b f (k + 1) (tf B n (rtR B n p).2) (rg B n k p fp) c2
    rw [rsU_s]
    repeat' split
    · exact ⟨Nat.le_trans a (Nat.le_trans c d), e⟩
    · exact ⟨Nat.le_trans a c, c2⟩
    · exact ⟨a, b⟩
    · exact ⟨a, b⟩
theorem rs_b (h : p ≤ n) : p ≤ (rs B n k p fp).2.1 ∧ (rs B n k p fp).2.1 ≤ n := rsU_b _ _ _ _ h
/-- what stands behind the tests -/
def rvS (B : Nat → Nat) (n p : Nat) (fp : Nat × Nat) : Bool × Nat × (Nat × Nat) := if tkd B n p = 3 ∧ B (tq B n p) = 59 then (true, tf B n p, fp) else (false, p, fp)
theorem rvS_y (h : tkd B n p = 3 ∧ B (tq B n p) = 59) : rvS B n p fp = (true, tf B n p, fp) := if_pos h
theorem rvS_n (h : ¬ (tkd B n p = 3 ∧ B (tq B n p) = 59)) : rvS B n p fp = (false, p, fp) := if_neg h
theorem rvS_b (h : p ≤ n) : p ≤ (rvS B n p fp).2.1 ∧ (rvS B n p fp).2.1 ≤ n := by
  unfold rvS
  split
  · exact ⟨tfp, tf_le h⟩
  · exact ⟨Nat.le_refl _, h⟩
def rvR (B : Nat → Nat) (n p : Nat) (fp : Nat × Nat) : Bool × Nat × (Nat × Nat) := if 40 ≤ rwx B n p ∧ rwx B n p ≤ 42 then (if rwx B n p = 40 then rvS B n (tf B n p) fp else (if tkd B n (tf B n p) = 2 then rvS B n (tf B n (tf B n p)) fp else (false, tf B n p, fp))) else (false, p, fp)
theorem rvR_0 (h : ¬ (40 ≤ rwx B n p ∧ rwx B n p ≤ 42)) : rvR B n p fp = (false, p, fp) := if_neg h
theorem rvR_1 (h : rwx B n p = 40) : rvR B n p fp = rvS B n (tf B n p) fp := by
  unfold rvR
  rw [if_pos (by omega), if_pos h]
theorem rvR_2 (h1 : 41 ≤ rwx B n p) (h2 : rwx B n p ≤ 42) (h3 : tkd B n (tf B n p) = 2) : rvR B n p fp = rvS B n (tf B n (tf B n p)) fp := by
  unfold rvR
  rw [if_pos (by omega), if_neg (by omega), if_pos h3]
theorem rvR_3 (h1 : 41 ≤ rwx B n p) (h2 : rwx B n p ≤ 42) (h3 : tkd B n (tf B n p) ≠ 2) : rvR B n p fp = (false, tf B n p, fp) := by
  unfold rvR
  rw [if_pos (by omega), if_neg (by omega), if_neg h3]
theorem rvR_b (h : p ≤ n) : p ≤ (rvR B n p fp).2.1 ∧ (rvR B n p fp).2.1 ≤ n ∧ ((rvR B n p fp).1 = true → tf B n p ≤ (rvR B n p fp).2.1 ∧ p < (rvR B n p fp).2.1) := by
  have a1 := tfp (B := B) (n := n) (p := p)
  have b1 := tf_le (B := B) h
  have a2 := tfp (B := B) (n := n) (p := tf B n p)
  have b2 := tf_le (B := B) b1
  by_cases e : 40 ≤ rwx B n p ∧ rwx B n p ≤ 42
  · have g := tfp_gt (B := B) (n := n) (p := p) (by rw [rwx_1 (by omega)]; decide)
    by_cases e0 : rwx B n p = 40
    · rw [rvR_1 e0]
      obtain ⟨c, d⟩ := rvS_b (B := B) (fp := fp) b1
      exact ⟨by omega, d, fun _ => ⟨by omega, by omega⟩⟩
    · by_cases e2 : tkd B n (tf B n p) = 2
      · rw [rvR_2 (by omega) (by omega) e2]
        obtain ⟨c, d⟩ := rvS_b (B := B) (fp := fp) b2
        exact ⟨by omega, d, fun _ => ⟨by omega, by omega⟩⟩
      · rw [rvR_3 (by omega) (by omega) e2]
        exact ⟨a1, b1, fun z => absurd z Bool.false_ne_true⟩
  · rw [rvR_0 e]
    exact ⟨Nat.le_refl _, h, fun z => absurd z Bool.false_ne_true⟩
def rlg (B : Nat → Nat) (n k p : Nat) (fp : Nat × Nat) : Nat × Nat := if 16 ≤ k then rnt fp (tq B n p) else fp
theorem rlg_y (h : 16 ≤ k) : rlg B n k p fp = rnt fp (tq B n p) := if_pos h
theorem rlg_n (h : ¬ 16 ≤ k) : rlg B n k p fp = fp := if_neg h
theorem fpi.rlgi {a : Nat} (h : fpi fp a) (e : a ≤ q) (hq : tq B n p ≤ q) : fpi (rlg B n k p fp) q := by
  by_cases z : 16 ≤ k
  · rw [rlg_y z]
    exact h.nt e hq
  · rw [rlg_n z]
    exact h.up e
/-- a line -/
def rlR (B : Nat → Nat) (n k p : Nat) (fp : Nat × Nat) : Bool × Nat × (Nat × Nat) := if rwx B n p = 50 then (if (rs B n 0 (tf B n p) (rlg B n k p fp)).1 = true then rvR B n (rs B n 0 (tf B n p) (rlg B n k p fp)).2.1 (rs B n 0 (tf B n p) (rlg B n k p fp)).2.2 else rs B n 0 (tf B n p) (rlg B n k p fp)) else rvR B n p (rlg B n k p fp)
theorem rlR_0 (h : rwx B n p ≠ 50) : rlR B n k p fp = rvR B n p (rlg B n k p fp) := if_neg h
theorem rlR_1 (h : rwx B n p = 50) (h1 : (rs B n 0 (tf B n p) (rlg B n k p fp)).1 = true) : rlR B n k p fp = rvR B n (rs B n 0 (tf B n p) (rlg B n k p fp)).2.1 (rs B n 0 (tf B n p) (rlg B n k p fp)).2.2 := by
  unfold rlR
  rw [if_pos h, if_pos h1]
theorem rlR_2 (h : rwx B n p = 50) (h1 : (rs B n 0 (tf B n p) (rlg B n k p fp)).1 = false) : rlR B n k p fp = rs B n 0 (tf B n p) (rlg B n k p fp) := by
  unfold rlR
  rw [if_pos h, if_neg (by rw [h1]; exact Bool.false_ne_true)]
theorem rlR_b (h : p ≤ n) : p ≤ (rlR B n k p fp).2.1 ∧ (rlR B n k p fp).2.1 ≤ n ∧ ((rlR B n k p fp).1 = true → p < (rlR B n k p fp).2.1) := by
  by_cases e : rwx B n p = 50
  · have g := tfp_gt (B := B) (n := n) (p := p) (by rw [rwx_1 (by omega)]; decide)
    obtain ⟨a, b⟩ := rs_b (B := B) (k := 0) (fp := rlg B n k p fp) (tf_le (B := B) h)
    cases h1 : (rs B n 0 (tf B n p) (rlg B n k p fp)).1 with
    | true =>
      rw [rlR_1 e h1]
      obtain ⟨c, d, -⟩ := rvR_b (B := B) (fp := (rs B n 0 (tf B n p) (rlg B n k p fp)).2.2) b
      exact ⟨by omega, d, fun _ => by omega⟩
    | false =>
      rw [rlR_2 e h1]
      exact ⟨by omega, b, fun _ => by omega⟩
  · rw [rlR_0 e]
    obtain ⟨a, b, c⟩ := rvR_b (B := B) (fp := rlg B n k p fp) h
    exact ⟨a, b, fun z => (c z).2⟩
theorem rt2_q (h : p ≤ n) : (rt2 B n p).2 = p ∨ tf B n p ≤ (rt2 B n p).2 := by
  have b1 := tf_le (B := B) h
  have a2 := tfp (B := B) (n := n) (p := tf B n p)
  have a3 := tfp (B := B) (n := n) (p := tf B n (tf B n p))
  unfold rt2
  repeat' split
  · exact Or.inr (Nat.le_refl _)
  · exact Or.inr (Nat.le_trans a2 a3)
  · exact Or.inr a2
  · exact Or.inr (Nat.le_refl _)
  · exact Or.inl rfl
theorem rtR_q (h : p ≤ n) : tq B n p ≤ tf B n (rtR B n p).2 := by
  have c := tfp (B := B) (n := n) (p := (rtR B n p).2)
  have t := tf_ge (B := B) (n := n) (p := p)
  unfold rtR at c ⊢
  by_cases e : rwx B n p = 52
  · rw [rt1_y e] at c ⊢
    obtain ⟨b, -⟩ := rt2_b (B := B) (tf_le (B := B) h)
    exact Nat.le_trans t (Nat.le_trans b c)
  · rw [rt1_n e] at c ⊢
    rcases rt2_q (B := B) h with y | y
    · rw [y]
      exact t
    · exact Nat.le_trans t (Nat.le_trans y c)
theorem rnt_nz {a : Nat} : (rnt fp a).1 ≠ 0 := by
  by_cases z : fp.1 = 0
  · rw [rnt_0 z]
    exact (by decide : (3 : Nat) ≠ 0)
  · rw [rnt_1 z]
    exact z
theorem rg_nz (h : fp.1 ≠ 0) : (rg B n k p fp).1 ≠ 0 := by
  by_cases z : 4 ≤ k
  · rw [rg_y z]
    exact rnt_nz
  · rw [rg_n z]
    exact h
theorem rsU_nz : ∀ f k p (fp : Nat × Nat), fp.1 ≠ 0 → (rsU B n f k p fp).2.2.1 ≠ 0
  | 0, _, _, _, h => h
  | f + 1, k, p, fp, h => by
    have g := rg_nz (B := B) (n := n) (k := k) (p := p) h
    have i := rsU_nz f (k + 1) (tf B n (rtR B n p).2) (rg B n k p fp) g
    rw [rsU_s]
    repeat' split
    · exact i
    · exact g
    · exact g
    · exact g
theorem rvS_f : (rvS B n p fp).2.2 = fp := by
  unfold rvS
  split <;> rfl
theorem rvR_f : (rvR B n p fp).2.2 = fp := by
  unfold rvR
  repeat' split
  · exact rvS_f
  · exact rvS_f
  · rfl
  · rfl
theorem rlR_nz (h : 16 ≤ k) : (rlR B n k p fp).2.2.1 ≠ 0 := by
  have g : (rlg B n k p fp).1 ≠ 0 := by
    rw [rlg_y h]
    exact rnt_nz
  have i := rsU_nz (B := B) (n := n) (n - tf B n p + 1) 0 (tf B n p) (rlg B n k p fp) g
  by_cases e : rwx B n p = 50
  · cases h1 : (rs B n 0 (tf B n p) (rlg B n k p fp)).1 with
    | true =>
      rw [rlR_1 e h1, rvR_f]
      exact i
    | false =>
      rw [rlR_2 e h1]
      exact i
  · rw [rlR_0 e, rvR_f]
    exact g
theorem rlg_nz (h : fp.1 ≠ 0) : (rlg B n k p fp).1 ≠ 0 := by
  by_cases z : 16 ≤ k
  · rw [rlg_y z]
    exact rnt_nz
  · rw [rlg_n z]
    exact h
theorem rlR_nz2 (h : fp.1 ≠ 0) : (rlR B n k p fp).2.2.1 ≠ 0 := by
  have g := rlg_nz (B := B) (n := n) (k := k) (p := p) h
  have i := rsU_nz (B := B) (n := n) (n - tf B n p + 1) 0 (tf B n p) (rlg B n k p fp) g
  by_cases e : rwx B n p = 50
  · cases h1 : (rs B n 0 (tf B n p) (rlg B n k p fp)).1 with
    | true =>
      rw [rlR_1 e h1, rvR_f]
      exact i
    | false =>
      rw [rlR_2 e h1]
      exact i
  · rw [rlR_0 e, rvR_f]
    exact g
theorem rsU_i : ∀ f k p (fp : Nat × Nat), p ≤ n → fpi fp p → (rsU B n f k p fp).1 = true → fpi (rsU B n f k p fp).2.2 (rsU B n f k p fp).2.1
  | 0, _, _, _, _, _, z => absurd z Bool.false_ne_true
  | f + 1, k, p, fp, h, hi, z => by
    obtain ⟨a, b⟩ := rtR_b (B := B) h
    have c := tfp (B := B) (n := n) (p := (rtR B n p).2)
    have c2 := tf_le (B := B) b
    have g : fpi (rg B n k p fp) (tf B n (rtR B n p).2) := hi.rgi (Nat.le_trans a c) (rtR_q h)
    have i := rsU_i f (k + 1) (tf B n (rtR B n p).2) (rg B n k p fp) c2 g
    rw [rsU_s] at z ⊢
    by_cases e1 : (rtR B n p).1 = true
    · rw [if_pos e1] at z ⊢
      by_cases e2 : rwx B n (rtR B n p).2 = 51
      · rw [if_pos e2] at z ⊢
        exact i z
      · rw [if_neg e2] at z ⊢
        by_cases e3 : tkd B n (rtR B n p).2 = 3 ∧ B (tq B n (rtR B n p).2) = 58
        · rw [if_pos e3]
          exact g
        · rw [if_neg e3] at z
          exact absurd z Bool.false_ne_true
    · rw [if_neg e1] at z
      exact absurd z Bool.false_ne_true
theorem rlR_i (h : p ≤ n) (hi : fpi fp p) (z : (rlR B n k p fp).1 = true) : fpi (rlR B n k p fp).2.2 (rlR B n k p fp).2.1 := by
  have a := tfp (B := B) (n := n) (p := p)
  have t := tf_ge (B := B) (n := n) (p := p)
  have g : fpi (rlg B n k p fp) (tf B n p) := hi.rlgi a t
  by_cases e : rwx B n p = 50
  · have b1 := tf_le (B := B) h
    cases h1 : (rs B n 0 (tf B n p) (rlg B n k p fp)).1 with
    | true =>
      have i := rsU_i _ _ _ _ b1 g h1
      obtain ⟨c, d⟩ := rs_b (B := B) (k := 0) (fp := rlg B n k p fp) b1
      obtain ⟨c2, d2, -⟩ := rvR_b (B := B) (fp := (rs B n 0 (tf B n p) (rlg B n k p fp)).2.2) d
      rw [rlR_1 e h1, rvR_f]
      exact i.up c2
    | false =>
      rw [rlR_2 e h1, h1] at z
      exact absurd z Bool.false_ne_true
  · rw [rlR_0 e] at z ⊢
    rw [rvR_f]
    obtain ⟨-, -, c⟩ := rvR_b (B := B) (fp := rlg B n k p fp) h
    exact g.up (c z).1
/-- rules, from the k-th line on at p: how many lines (or none), the fault, its place -/
def rxU (B : Nat → Nat) (n : Nat) : Nat → Nat → Nat → Nat × Nat → Nat × Nat × Nat
  | 0, _, _, _ => (0, 0, 0)
  | f + 1, k, p, fp => if tkd B n p = 0 then (if fp.1 = 0 then (k, 0, 4294967295) else (4294967295, fp.1, fp.2)) else (if (rlR B n k p fp).1 = true then rxU B n f (k + 1) (rlR B n k p fp).2.1 (rlR B n k p fp).2.2 else (4294967295, 1, tq B n (rlR B n k p fp).2.1))
theorem rxU_s {f : Nat} : rxU B n (f + 1) k p fp = (if tkd B n p = 0 then (if fp.1 = 0 then (k, 0, 4294967295) else (4294967295, fp.1, fp.2)) else (if (rlR B n k p fp).1 = true then rxU B n f (k + 1) (rlR B n k p fp).2.1 (rlR B n k p fp).2.2 else (4294967295, 1, tq B n (rlR B n k p fp).2.1))) := rfl
theorem rxU_f : ∀ f g k p (fp : Nat × Nat), p ≤ n → n - p < f → n - p < g → rxU B n f k p fp = rxU B n g k p fp
  | 0, _, _, _, _, _, h, _ => absurd h (Nat.not_lt_zero _)
  | _ + 1, 0, _, _, _, _, _, h => absurd h (Nat.not_lt_zero _)
  | f + 1, g + 1, k, p, fp, hp, h1, h2 => by
    rw [rxU_s, rxU_s]
    by_cases e : (rlR B n k p fp).1 = true
    · obtain ⟨a, b, c⟩ := rlR_b (B := B) (k := k) (fp := fp) hp
      have c := c e
      rw [rxU_f f g (k + 1) (rlR B n k p fp).2.1 (rlR B n k p fp).2.2 b (by omega) (by omega)]
    · rw [if_neg e, if_neg e]
def rx (B : Nat → Nat) (n k p : Nat) (fp : Nat × Nat) : Nat × Nat × Nat := rxU B n (n - p + 1) k p fp
theorem rx_0 (h : tkd B n p = 0) (h0 : fp.1 = 0) : rx B n k p fp = (k, 0, 4294967295) := by
  unfold rx
  rw [rxU_s, if_pos h, if_pos h0]
theorem rx_1 (h : tkd B n p = 0) (h0 : fp.1 ≠ 0) : rx B n k p fp = (4294967295, fp.1, fp.2) := by
  unfold rx
  rw [rxU_s, if_pos h, if_neg h0]
theorem rx_y (hp : p ≤ n) (h : tkd B n p ≠ 0) (h1 : (rlR B n k p fp).1 = true) : rx B n k p fp = rx B n (k + 1) (rlR B n k p fp).2.1 (rlR B n k p fp).2.2 := by
  obtain ⟨a, b, c⟩ := rlR_b (B := B) (k := k) (fp := fp) hp
  have c := c h1
  unfold rx
  rw [rxU_s, if_neg h, if_pos h1]
  exact rxU_f _ _ _ _ _ b (by omega) (by omega)
theorem rx_n (h : tkd B n p ≠ 0) (h1 : (rlR B n k p fp).1 = false) : rx B n k p fp = (4294967295, 1, tq B n (rlR B n k p fp).2.1) := by
  unfold rx
  rw [rxU_s, if_neg h, if_neg (by rw [h1]; exact Bool.false_ne_true)]
/-- what rules() says of the tape -/
def RU (B : Nat → Nat) (n : Nat) : Nat × Nat × Nat := rx B n 0 0 (0, 0)
end XPRU
