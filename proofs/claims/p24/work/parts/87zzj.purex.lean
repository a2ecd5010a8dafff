/-! ages of lamps: numbers alone -/
def agp (P : Nat → Nat) (p k : Nat) : Nat := if P (5 * p) ≤ k / 6 ∧ k / 6 ≤ P (5 * p + 1) ∧ P (5 * p + 2) ≤ k % 6 ∧ k % 6 ≤ P (5 * p + 3) then P (5 * p + 4) else 0
def ag (P : Nat → Nat) (n k : Nat) : Nat := sg (fun p => agp P p k) n
theorem agp_le {P : Nat → Nat} {p k B : Nat} (h : P (5 * p + 4) ≤ B) : agp P p k ≤ B := by
  unfold agp
  split <;> omega
theorem ag_le {P : Nat → Nat} {n k B : Nat} (h : ∀ p, p < n → P (5 * p + 4) ≤ B) : ag P n k ≤ B * n := sg_le (fun p hp => agp_le (h p hp))
theorem ag_cg {P P' : Nat → Nat} {n k : Nat} (h : ∀ p, p < n → (∀ t, t < 4 → P' (5 * p + t) = P (5 * p + t)) ∧ P' (5 * p + 4) = P (5 * p + 4)) : ag P' n k = ag P n k := sg_cg (fun p hp => by
  obtain ⟨a, b⟩ := h p hp
  have a0 : P' (5 * p) = P (5 * p) := a 0 (by decide)
  have a1 := a 1 (by decide)
  have a2 := a 2 (by decide)
  have a3 := a 3 (by decide)
  show agp P' p k = agp P p k
  unfold agp
  rw [a0, a1, a2, a3, b])
/-- what holds of a lamp while a picture is added: rows A .. before ro, and of row ro columns C .. before co -/
def agc (A C D ro co k : Nat) : Prop := (A ≤ k / 6 ∧ k / 6 < ro ∧ C ≤ k % 6 ∧ k % 6 ≤ D) ∨ (k / 6 = ro ∧ C ≤ k % 6 ∧ k % 6 < co)
def agi (f g : Nat → Nat) (A C D G ro co : Nat) : Prop := ∀ k, k < 36 → (agc A C D ro co k ∧ g k = f k + G) ∨ (¬ agc A C D ro co k ∧ g k = f k)
theorem agi_0 {f : Nat → Nat} {A C D G : Nat} : agi f f A C D G A C := fun k hk => Or.inr ⟨fun z => by
  unfold agc at z
  omega, rfl⟩
theorem agi_s {f g g' : Nat → Nat} {A C D G ro co : Nat} (h : agi f g A C D G ro co) (hro : ro ≤ 5) (hco : co ≤ 5) (hC : C ≤ co) (e1 : g' (6 * ro + co) = g (6 * ro + co) + G) (e2 : ∀ k, k < 36 → k ≠ 6 * ro + co → g' k = g k) : agi f g' A C D G ro (co + 1) := by
  intro k hk
  have a := h k hk
  unfold agc at a ⊢
  by_cases e : k = 6 * ro + co
  · subst e
    rw [e1]
    omega
  · rw [e2 k hk e]
    omega
theorem agi_r {f g : Nat → Nat} {A C D G ro co : Nat} (h : agi f g A C D G ro co) (hA : A ≤ ro) (hco : co = D + 1 ∨ (D < C ∧ co = C)) : agi f g A C D G (ro + 1) C := by
  intro k hk
  have a := h k hk
  unfold agc at a ⊢
  omega
theorem agi_e {f g P : Nat → Nat} {p ro : Nat} (h : agi f g (P (5 * p)) (P (5 * p + 2)) (P (5 * p + 3)) (P (5 * p + 4)) ro (P (5 * p + 2))) (hro : ro = P (5 * p + 1) + 1 ∨ (P (5 * p + 1) < P (5 * p) ∧ ro = P (5 * p))) : ∀ k, k < 36 → g k = f k + agp P p k := by
  intro k hk
  have a := h k hk
  unfold agc at a
  unfold agp
  split <;> omega
/-- the least and the greatest that is left -/
def ulo (A : Nat → Nat) (R C : Nat) : Nat → Nat
  | 0 => 1000
  | k + 1 => if k / 6 < R ∧ k % 6 < C then min (ulo A R C k) (1000 - A k / 10) else ulo A R C k
def uhi (A : Nat → Nat) (R C : Nat) : Nat → Nat
  | 0 => 0
  | k + 1 => if k / 6 < R ∧ k % 6 < C then max (uhi A R C k) (1000 - A k / 10) else uhi A R C k
theorem ulo_cg {A A' : Nat → Nat} {R C n : Nat} (h : ∀ k, k < n → A' k = A k) : ulo A' R C n = ulo A R C n := by
  induction n with
  | zero => rfl
  | succ n ih =>
    show (if n / 6 < R ∧ n % 6 < C then min (ulo A' R C n) (1000 - A' n / 10) else ulo A' R C n) = (if n / 6 < R ∧ n % 6 < C then min (ulo A R C n) (1000 - A n / 10) else ulo A R C n)
    rw [ih (fun k hk => h k (by omega)), h n (by omega)]
theorem uhi_cg {A A' : Nat → Nat} {R C n : Nat} (h : ∀ k, k < n → A' k = A k) : uhi A' R C n = uhi A R C n := by
  induction n with
  | zero => rfl
  | succ n ih =>
    show (if n / 6 < R ∧ n % 6 < C then max (uhi A' R C n) (1000 - A' n / 10) else uhi A' R C n) = (if n / 6 < R ∧ n % 6 < C then max (uhi A R C n) (1000 - A n / 10) else uhi A R C n)
    rw [ih (fun k hk => h k (by omega)), h n (by omega)]
theorem ulo_y {A : Nat → Nat} {R C k : Nat} (h : k / 6 < R ∧ k % 6 < C) : ulo A R C (k + 1) = min (ulo A R C k) (1000 - A k / 10) := if_pos h
theorem ulo_n {A : Nat → Nat} {R C k : Nat} (h : ¬ (k / 6 < R ∧ k % 6 < C)) : ulo A R C (k + 1) = ulo A R C k := if_neg h
theorem uhi_y {A : Nat → Nat} {R C k : Nat} (h : k / 6 < R ∧ k % 6 < C) : uhi A R C (k + 1) = max (uhi A R C k) (1000 - A k / 10) := if_pos h
theorem uhi_n {A : Nat → Nat} {R C k : Nat} (h : ¬ (k / 6 < R ∧ k % 6 < C)) : uhi A R C (k + 1) = uhi A R C k := if_neg h
theorem u_skip {A : Nat → Nat} {R C a : Nat} : ∀ n, (∀ k, a ≤ k → k < a + n → ¬ (k / 6 < R ∧ k % 6 < C)) → ulo A R C (a + n) = ulo A R C a ∧ uhi A R C (a + n) = uhi A R C a
  | 0, _ => ⟨rfl, rfl⟩
  | n + 1, h => by
    obtain ⟨p, q⟩ := u_skip n (fun k h1 h2 => h k h1 (by omega))
    rw [← Nat.add_assoc, ulo_n (h _ (by omega) (by omega)), uhi_n (h _ (by omega) (by omega))]
    exact ⟨p, q⟩