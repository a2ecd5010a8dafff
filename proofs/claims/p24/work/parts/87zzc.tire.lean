/-- the life that folds of a round take from: 0 none, else its number and 1 -/
def wli (v : Nat → Nat) (U : Nat) (F : Int64) (ro : Nat) : Nat → Nat
  | 0 => 0
  | k + 1 => if ¬ lN 1000 * iab F < lN (v (2 * k) * ro * U) ∧ (wli v U F ro k = 0 ∨ v (2 * (wli v U F ro k - 1)) < v (2 * k)) then k + 1 else wli v U F ro k
section XWE
variable {v v' f f' g g' li t : Nat → Nat} {U U' ro n m k C : Nat} {F F' : Int64}
theorem wli_le : wli v U F ro k ≤ k := by
  induction k with
  | zero => exact Nat.le_refl _
  | succ k ih =>
    show (if ¬ lN 1000 * iab F < lN (v (2 * k) * ro * U) ∧ (wli v U F ro k = 0 ∨ v (2 * (wli v U F ro k - 1)) < v (2 * k)) then k + 1 else wli v U F ro k) ≤ k + 1
    split <;> omega
theorem wli_cg (h : ∀ j, j < 2 * n → v' j = v j) (hk : k ≤ n) : wli v' U F ro k = wli v U F ro k := by
  induction k with
  | zero => rfl
  | succ k ih =>
    have l := @wli_le v U ro k F
    show (if ¬ lN 1000 * iab F < lN (v' (2 * k) * ro * U) ∧ (wli v' U F ro k = 0 ∨ v' (2 * (wli v' U F ro k - 1)) < v' (2 * k)) then k + 1 else wli v' U F ro k) = (if ¬ lN 1000 * iab F < lN (v (2 * k) * ro * U) ∧ (wli v U F ro k = 0 ∨ v (2 * (wli v U F ro k - 1)) < v (2 * k)) then k + 1 else wli v U F ro k)
    rw [ih (by omega), h (2 * k) (by omega)]
    by_cases z : wli v U F ro k = 0
    · rw [z]
      simp only [eq_self, true_or]
    · rw [h (2 * (wli v U F ro k - 1)) (by omega)]
/-- sums -/
def sg (g : Nat → Nat) : Nat → Nat
  | 0 => 0
  | n + 1 => sg g n + g n
theorem sg_cg (h : ∀ k, k < n → g' k = g k) : sg g' n = sg g n := by
  induction n with
  | zero => rfl
  | succ n ih =>
    show sg g' n + g' n = sg g n + g n
    rw [ih (fun k hk => h k (by omega)), h n (by omega)]
theorem sg_add : sg (fun k => g k + g' k) n = sg g n + sg g' n := by
  induction n with
  | zero => rfl
  | succ n ih =>
    show sg (fun k => g k + g' k) n + (g n + g' n) = (sg g n + g n) + (sg g' n + g' n)
    omega
theorem sg_mul : sg (fun k => C * g k) n = C * sg g n := by
  induction n with
  | zero => rfl
  | succ n ih =>
    show sg (fun k => C * g k) n + C * g n = C * (sg g n + g n)
    rw [ih, Nat.mul_add]
theorem sg_le {B : Nat} (h : ∀ k, k < n → g k ≤ B) : sg g n ≤ B * n := by
  induction n with
  | zero => exact Nat.le_refl _
  | succ n ih =>
    have a := ih (fun k hk => h k (by omega))
    have b := h n (by omega)
    show sg g n + g n ≤ B * (n + 1)
    rw [Nat.mul_succ]
    omega
theorem sg_0 (h : ∀ k, k < n → g k = 0) : sg g n = 0 := by
  induction n with
  | zero => rfl
  | succ n ih =>
    show sg g n + g n = 0
    rw [ih (fun k hk => h k (by omega)), h n (by omega)]
theorem sg_one {j x : Nat} (hj : j ≤ n) : sg (fun k => g k * (if j = k + 1 then x else 0)) n = (if j = 0 then 0 else g (j - 1) * x) := by
  induction n with
  | zero =>
    rw [if_pos (by omega)]
    rfl
  | succ n ih =>
    show sg (fun k => g k * (if j = k + 1 then x else 0)) n + g n * (if j = n + 1 then x else 0) = _
    by_cases e : j = n + 1
    · rw [if_pos e, if_neg (by omega), sg_0 (fun k hk => by rw [if_neg (by omega), Nat.mul_zero]), e, Nat.add_sub_cancel, Nat.zero_add]
    · rw [if_neg e, Nat.mul_zero, Nat.add_zero]
      exact ih (by omega)
/-- the common life -/
def pr (v : Nat → Nat) : Nat → Nat
  | 0 => 1
  | k + 1 => pr v k * v (2 * k + 1)
theorem pr_rg (h : ∀ k, k < n → 1 ≤ v (2 * k + 1) ∧ v (2 * k + 1) ≤ 999) : 1 ≤ pr v n ∧ pr v n ≤ 999 ^ n := by
  induction n with
  | zero => exact ⟨Nat.le_refl _, Nat.le_refl _⟩
  | succ n ih =>
    obtain ⟨a, b⟩ := ih (fun k hk => h k (by omega))
    obtain ⟨c, d⟩ := h n (by omega)
    exact ⟨Nat.mul_le_mul a c, Nat.mul_le_mul b d⟩
theorem pr_le (h : ∀ k, k < n → 1 ≤ v (2 * k + 1) ∧ v (2 * k + 1) ≤ 999) (hn : n ≤ 4) : 1 ≤ pr v n ∧ pr v n ≤ 996005996001 := by
  obtain ⟨a, b⟩ := pr_rg h
  have c : 999 ^ n ≤ 999 ^ 4 := Nat.pow_le_pow_right (by decide) hn
  exact ⟨a, Nat.le_trans b c⟩
theorem pr_dvd (hk : k < n) : v (2 * k + 1) ∣ pr v n := by
  induction n with
  | zero => omega
  | succ n ih =>
    by_cases e : k = n
    · rw [e]
      exact Nat.dvd_mul_left _ _
    · exact Nat.dvd_trans (ih (by omega)) (Nat.dvd_mul_right _ _)
theorem pr_cg (h : ∀ j, j < 2 * n → v' j = v j) : pr v' n = pr v n := by
  induction n with
  | zero => rfl
  | succ n ih =>
    show pr v' n * v' (2 * n + 1) = pr v n * v (2 * n + 1)
    rw [ih (fun j hj => h j (by omega)), h _ (by omega)]
/-- folds by life -/
def wfd (li t : Nat → Nat) (m k : Nat) : Nat := sg (fun i => if li i = k + 1 then t i else 0) m
def wwh (v f : Nat → Nat) (n : Nat) : Nat := sg (fun k => f k / v (2 * k + 1)) n
def wpt (v f : Nat → Nat) (C n : Nat) : Nat := sg (fun k => (f k - f k / v (2 * k + 1) * v (2 * k + 1)) * (C / v (2 * k + 1))) n
def wml (v li t : Nat → Nat) (C m : Nat) : Nat := sg (fun i => if li i = 0 then 0 else C / v (2 * (li i - 1) + 1) * t i) m
theorem wml_eq (hl : ∀ i, i < m → li i ≤ n) : wml v li t C m = sg (fun k => C / v (2 * k + 1) * wfd li t m k) n := by
  induction m with
  | zero =>
    exact (sg_0 (fun k _ => Nat.mul_zero _)).symm
  | succ m ih =>
    show wml v li t C m + (if li m = 0 then 0 else C / v (2 * (li m - 1) + 1) * t m) = _
    rw [ih (fun i hi => hl i (by omega)), ← sg_one (g := fun k => C / v (2 * k + 1)) (x := t m) (hl m (by omega)), ← sg_add]
    exact sg_cg (fun k _ => by
      show _ = C / v (2 * k + 1) * (wfd li t m k + (if li m = k + 1 then t m else 0))
      rw [Nat.mul_add])
theorem wsum (h : ∀ k, k < n → 1 ≤ v (2 * k + 1) ∧ v (2 * k + 1) ∣ C) : sg (fun k => C / v (2 * k + 1) * f k) n = C * wwh v f n + wpt v f C n := by
  unfold wwh wpt
  rw [← sg_mul, ← sg_add]
  refine sg_cg (fun k hk => ?_)
  obtain ⟨h1, c, hc⟩ := h k hk
  show C / v (2 * k + 1) * f k = C * (f k / v (2 * k + 1)) + (f k - f k / v (2 * k + 1) * v (2 * k + 1)) * (C / v (2 * k + 1))
  clear h
  generalize v (2 * k + 1) = L at h1 hc ⊢
  generalize f k = x
  subst hc
  rw [Nat.mul_div_cancel_left c h1]
  have a : x / L * L ≤ x := Nat.div_mul_le_self x L
  have b : L * c * (x / L) = x / L * L * c := by rw [Nat.mul_comm (L * c), Nat.mul_assoc]
  rw [b, ← Nat.add_mul, Nat.add_sub_cancel' a, Nat.mul_comm]
/-- worn out: by whole lives, or by parts -/
theorem wout_eq {W P : Nat} (hC : 1 ≤ C) : (0 < W ∨ C ≤ P) ↔ C ≤ C * W + P := by
  constructor
  · rintro (h | h)
    · have a : C * 1 ≤ C * W := Nat.mul_le_mul_left C h
      omega
    · omega
  · intro h
    by_cases z : 0 < W
    · exact Or.inl z
    · have e : W = 0 := by omega
      rw [e, Nat.mul_zero] at h
      exact Or.inr (by omega)
theorem wfd_cg {li' t' : Nat → Nat} (h : ∀ i, i < m → li' i = li i ∧ t' i = t i) : wfd li' t' m k = wfd li t m k := sg_cg (fun i hi => by
  show (if li' i = k + 1 then t' i else 0) = (if li i = k + 1 then t i else 0)
  rw [(h i hi).1, (h i hi).2])
end XWE
/-! a row of longs filled, to the last -/
section XFJE
variable {d k v L t : Nat} {w : List (List xE)} {bd : List (Nat × Nat)} {fc : List (Nat × Nat × Bool)} {rr : Nat × Nat} {f : Nat → Nat}
end XFJE
