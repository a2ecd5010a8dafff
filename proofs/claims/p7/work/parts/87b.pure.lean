/-! laws of folds and the tests told of them: numbers alone -/
theorem tbeq_f {a b : Nat} (h : a ≠ b) : Nat.beq a b = false := by
  cases z : Nat.beq a b with
  | true => exact absurd (Nat.eq_of_beq_eq_true z) h
  | false => rfl
def tU (la sp : Nat) : Nat := (la % 60 + 1) * (10 - sp) ^ (la / 60)
theorem tU_le {la sp : Nat} (hl : la ≤ 239) (h1 : 1 ≤ sp) (h9 : sp ≤ 9) : 1 ≤ tU la sp ∧ tU la sp ≤ 43740 := by
  unfold tU
  have a1 : 1 ≤ (10 - sp) ^ (la / 60) := Nat.pow_pos (by omega)
  have a2 : (10 - sp) ^ (la / 60) ≤ 9 ^ (la / 60) := Nat.pow_le_pow_left (by omega) _
  have a3 : 9 ^ (la / 60) ≤ 9 ^ 3 := Nat.pow_le_pow_right (by decide) (by omega)
  have a4 : (10 - sp) ^ (la / 60) ≤ 729 := Nat.le_trans a2 a3
  generalize (10 - sp) ^ (la / 60) = x at a1 a4
  refine ⟨Nat.mul_pos (by omega) a1, ?_⟩
  exact Nat.mul_le_mul (show la % 60 + 1 ≤ 60 by omega) a4
theorem tU_step {un x bb T : Nat} (h : un * x ^ bb = T) (hb : 0 < bb) (hx : 1 ≤ x) : un * x * x ^ (bb - 1) = T ∧ un * x ≤ T := by
  have e : x ^ bb = x * x ^ (bb - 1) := by
    obtain ⟨c, rfl⟩ : ∃ c, bb = c + 1 := ⟨bb - 1, by omega⟩
    rw [Nat.pow_succ, Nat.mul_comm, Nat.add_sub_cancel]
  have q : un * x * x ^ (bb - 1) = T := by rw [Nat.mul_assoc, ← e]; exact h
  refine ⟨q, ?_⟩
  have p : 1 ≤ x ^ (bb - 1) := Nat.pow_pos hx
  calc un * x = un * x * 1 := (Nat.mul_one _).symm
    _ ≤ un * x * x ^ (bb - 1) := Nat.mul_le_mul_left _ p
    _ = T := q
theorem tU_end {un x bb T : Nat} (h : un * x ^ bb = T) (hb : bb = 0) : un = T := by
  subst hb
  rw [Nat.pow_zero, Nat.mul_one] at h
  exact h
theorem tU_up {vv x k : Nat} {b : Nat} (h : vv = b * x ^ k) : vv * x = b * x ^ (k + 1) := by
  rw [h, Nat.pow_succ, Nat.mul_assoc]
/-- the k-th test bars the law -/
def tB (t : Nat → Nat) (k la : Nat) : Bool := decide ((t (4 * k + 3) ≠ 0 ∧ t (4 * k + 1) < 8 * tU la (t (4 * k))) ∨ (t (4 * k + 3) ≠ t (4 * k + 2) ∧ 12 * tU la (t (4 * k)) ≤ t (4 * k + 1)))
theorem tB_t {t : Nat → Nat} {k la s f n c : Nat} (e0 : t (4 * k) = s) (e1 : t (4 * k + 1) = f) (e2 : t (4 * k + 2) = n) (e3 : t (4 * k + 3) = c) (h : (c ≠ 0 ∧ f < 8 * tU la s) ∨ (c ≠ n ∧ 12 * tU la s ≤ f)) : tB t k la = true := by
  unfold tB
  rw [e0, e1, e2, e3]
  exact decide_eq_true h
theorem tB_f {t : Nat → Nat} {k la s f n c : Nat} (e0 : t (4 * k) = s) (e1 : t (4 * k + 1) = f) (e2 : t (4 * k + 2) = n) (e3 : t (4 * k + 3) = c) (h : ¬ ((c ≠ 0 ∧ f < 8 * tU la s) ∨ (c ≠ n ∧ 12 * tU la s ≤ f))) : tB t k la = false := by
  unfold tB
  rw [e0, e1, e2, e3]
  exact decide_eq_false h
def tA (t : Nat → Nat) (la : Nat) : Nat → Nat
  | 0 => 0
  | k + 1 => tA t la k + cond (tB t k la) (2 ^ (11 - k)) 0
def tM (t : Nat → Nat) (la : Nat) : Nat → Nat
  | 0 => 0
  | k + 1 => tM t la k + cond (tB t k la) 0 (2 ^ k)
def tG (t : Nat → Nat) (la : Nat) : Nat → Bool
  | 0 => true
  | k + 1 => tG t la k && !tB t k la
def tK (t : Nat → Nat) (n : Nat) : Nat → Nat
  | 0 => 0
  | m + 1 => tK t n m + cond (tG t m n) 1 0
theorem tA_y {t : Nat → Nat} {la k : Nat} (h : tB t k la = true) : tA t la (k + 1) = tA t la k + 2 ^ (11 - k) := by
  show tA t la k + cond (tB t k la) (2 ^ (11 - k)) 0 = _
  rw [h]
  rfl
theorem tA_n {t : Nat → Nat} {la k : Nat} (h : tB t k la = false) : tA t la (k + 1) = tA t la k := by
  show tA t la k + cond (tB t k la) (2 ^ (11 - k)) 0 = _
  rw [h]
  rfl
theorem tM_y {t : Nat → Nat} {la k : Nat} (h : tB t k la = false) : tM t la (k + 1) = tM t la k + 2 ^ k := by
  show tM t la k + cond (tB t k la) 0 (2 ^ k) = _
  rw [h]
  rfl
theorem tM_n {t : Nat → Nat} {la k : Nat} (h : tB t k la = true) : tM t la (k + 1) = tM t la k := by
  show tM t la k + cond (tB t k la) 0 (2 ^ k) = _
  rw [h]
  rfl
theorem tA_mul {t : Nat → Nat} {la : Nat} : ∀ k, k ≤ 12 → ∃ c, tA t la k = 2 ^ (12 - k) * c ∧ tA t la k + 2 ^ (12 - k) ≤ 4096
  | 0, _ => ⟨0, rfl, Nat.le_refl _⟩
  | k + 1, h => by
    obtain ⟨c, h1, h2⟩ := tA_mul (t := t) (la := la) k (by omega)
    have e : 2 ^ (12 - k) = 2 ^ (12 - (k + 1)) * 2 := by rw [← Nat.pow_succ]; congr 1; omega
    have e2 : 11 - k = 12 - (k + 1) := by omega
    cases hb : tB t k la with
    | true =>
      rw [tA_y hb, e2]
      refine ⟨2 * c + 1, ?_, ?_⟩
      · rw [h1, e, Nat.mul_add, Nat.mul_one, Nat.mul_assoc]
      · omega
    | false =>
      rw [tA_n hb]
      refine ⟨2 * c, ?_, ?_⟩
      · rw [h1, e, Nat.mul_assoc]
      · omega
theorem tA_lt {t : Nat → Nat} {la k : Nat} (h : k ≤ 12) : tA t la k ≤ 4095 := by
  obtain ⟨c, -, h2⟩ := tA_mul (t := t) (la := la) k h
  have : 1 ≤ 2 ^ (12 - k) := Nat.one_le_two_pow
  omega
theorem tA_or {t : Nat → Nat} {la k : Nat} (h : k < 12) : Nat.lor (tA t la k) (2 ^ (11 - k)) = tA t la k + 2 ^ (11 - k) := by
  obtain ⟨c, h1, -⟩ := tA_mul (t := t) (la := la) k (by omega)
  rw [h1]
  exact (Nat.two_pow_add_eq_or_of_lt (Nat.pow_lt_pow_right (by decide) (by omega)) c).symm
theorem tA_zero {t : Nat → Nat} {la : Nat} : ∀ k, tA t la k = 0 ↔ tG t la k = true
  | 0 => ⟨fun _ => rfl, fun _ => rfl⟩
  | k + 1 => by
    have ih := tA_zero (t := t) (la := la) k
    have p : 1 ≤ 2 ^ (11 - k) := Nat.one_le_two_pow
    show _ ↔ (tG t la k && !tB t k la) = true
    cases hb : tB t k la with
    | true =>
      rw [tA_y hb]
      refine ⟨fun h => absurd h (by omega), fun h => ?_⟩
      exact absurd h (by rw [Bool.not_true, Bool.and_false]; exact Bool.false_ne_true)
    | false =>
      rw [tA_n hb, ih]
      cases tG t la k <;> decide
theorem tM_lt {t : Nat → Nat} {la : Nat} : ∀ k, tM t la k + 1 ≤ 2 ^ k
  | 0 => Nat.le_refl _
  | k + 1 => by
    have ih := tM_lt (t := t) (la := la) k
    have e : 2 ^ (k + 1) = 2 ^ k * 2 := Nat.pow_succ ..
    cases hb : tB t k la with
    | true => rw [tM_n hb]; omega
    | false => rw [tM_y hb]; omega
theorem tM_or {t : Nat → Nat} {la k : Nat} : Nat.lor (tM t la k) (2 ^ k) = tM t la k + 2 ^ k := by
  have h := tM_lt (t := t) (la := la) k
  have q := Nat.two_pow_add_eq_or_of_lt (i := k) (b := tM t la k) (by omega) 1
  rw [Nat.mul_one] at q
  show tM t la k ||| 2 ^ k = _
  rw [Nat.or_comm, ← q, Nat.add_comm]
theorem tM_all {t : Nat → Nat} {la : Nat} : ∀ k, tM t la k = 2 ^ k - 1 ↔ tG t la k = true
  | 0 => ⟨fun _ => rfl, fun _ => rfl⟩
  | k + 1 => by
    have ih := tM_all (t := t) (la := la) k
    have l := tM_lt (t := t) (la := la) k
    have e : 2 ^ (k + 1) = 2 ^ k * 2 := Nat.pow_succ ..
    have p : 1 ≤ 2 ^ k := Nat.one_le_two_pow
    show _ ↔ (tG t la k && !tB t k la) = true
    cases hb : tB t k la with
    | true =>
      rw [tM_n hb]
      refine ⟨fun h => absurd h (by omega), fun h => ?_⟩
      exact absurd h (by rw [Bool.not_true, Bool.and_false]; exact Bool.false_ne_true)
    | false =>
      rw [tM_y hb]
      have : tM t la k + 2 ^ k = 2 ^ (k + 1) - 1 ↔ tM t la k = 2 ^ k - 1 := by omega
      rw [this, ih]
      cases tG t la k <;> decide
theorem tB_cg {t t' : Nat → Nat} {n k la : Nat} (e : ∀ j, j < n * 4 → t' j = t j) (hk : k < n) : tB t' k la = tB t k la := by
  unfold tB
  rw [e (4 * k) (by omega), e (4 * k + 1) (by omega), e (4 * k + 2) (by omega), e (4 * k + 3) (by omega)]
theorem tA_cg {t t' : Nat → Nat} {n la : Nat} (e : ∀ j, j < n * 4 → t' j = t j) : ∀ k, k ≤ n → tA t' la k = tA t la k
  | 0, _ => rfl
  | k + 1, h => by
    show tA t' la k + cond (tB t' k la) (2 ^ (11 - k)) 0 = tA t la k + cond (tB t k la) (2 ^ (11 - k)) 0
    rw [tA_cg e k (by omega), tB_cg e (by omega)]
theorem tG_cg {t t' : Nat → Nat} {n la : Nat} (e : ∀ j, j < n * 4 → t' j = t j) : ∀ k, k ≤ n → tG t' la k = tG t la k
  | 0, _ => rfl
  | k + 1, h => by
    show (tG t' la k && !tB t' k la) = (tG t la k && !tB t k la)
    rw [tG_cg e k (by omega), tB_cg e (by omega)]
theorem tK_cg {t t' : Nat → Nat} {n : Nat} (e : ∀ j, j < n * 4 → t' j = t j) : ∀ m, tK t' n m = tK t n m
  | 0 => rfl
  | m + 1 => by
    show tK t' n m + cond (tG t' m n) 1 0 = tK t n m + cond (tG t m n) 1 0
    rw [tK_cg e m, tG_cg e n (Nat.le_refl _)]
theorem tK_y {t : Nat → Nat} {n m : Nat} (h : tG t m n = true) : tK t n (m + 1) = tK t n m + 1 := by
  show tK t n m + cond (tG t m n) 1 0 = _
  rw [h]
  rfl
theorem tK_n {t : Nat → Nat} {n m : Nat} (h : ¬ tG t m n = true) : tK t n (m + 1) = tK t n m := by
  have h : tG t m n = false := by cases z : tG t m n with
    | true => exact absurd z h
    | false => rfl
  show tK t n m + cond (tG t m n) 1 0 = _
  rw [h]
  rfl
theorem tK_le {t : Nat → Nat} {n : Nat} : ∀ m, tK t n m ≤ m
  | 0 => Nat.le_refl _
  | m + 1 => by
    have := tK_le (t := t) (n := n) m
    by_cases h : tG t m n = true
    · rw [tK_y h]; omega
    · rw [tK_n h]; omega
/-- the k-th law that is kept, gone through from one on -/
def tL (t : Nat → Nat) (n k : Nat) : Nat → Nat → Nat → Nat
  | 0, _, _ => 4294967295
  | f + 1, la, p => cond (tG t la n) (cond (Nat.beq p k) (100 * (la / 60) + la % 60 + 1) (tL t n k f (la + 1) (p + 1))) (tL t n k f (la + 1) p)
theorem tL_n {t : Nat → Nat} {n k la p : Nat} (h : ¬ tG t la n = true) (hl : la < 240) : tL t n k (240 - la) la p = tL t n k (240 - (la + 1)) (la + 1) p := by
  have h : tG t la n = false := by cases z : tG t la n with
    | true => exact absurd z h
    | false => rfl
  obtain ⟨f, hf⟩ : ∃ f, 240 - la = f + 1 := ⟨239 - la, by omega⟩
  rw [hf, show 240 - (la + 1) = f by omega]
  show cond (tG t la n) _ _ = _
  rw [h]
  rfl
theorem tL_y {t : Nat → Nat} {n k la p : Nat} (h : tG t la n = true) (hl : la < 240) (hp : p ≠ k) : tL t n k (240 - la) la p = tL t n k (240 - (la + 1)) (la + 1) (p + 1) := by
  obtain ⟨f, hf⟩ : ∃ f, 240 - la = f + 1 := ⟨239 - la, by omega⟩
  rw [hf, show 240 - (la + 1) = f by omega]
  show cond (tG t la n) (cond (Nat.beq p k) _ _) _ = _
  rw [h, show Nat.beq p k = false from tbeq_f hp]
  rfl
theorem tL_k {t : Nat → Nat} {n k la p : Nat} (h : tG t la n = true) (hl : la < 240) (hp : p = k) : tL t n k (240 - la) la p = 100 * (la / 60) + la % 60 + 1 := by
  obtain ⟨f, hf⟩ : ∃ f, 240 - la = f + 1 := ⟨239 - la, by omega⟩
  rw [hf]
  show cond (tG t la n) (cond (Nat.beq p k) _ _) _ = _
  rw [h, show Nat.beq p k = true by rw [hp]; exact Nat.beq_refl _]
  rfl
theorem tL_e {t : Nat → Nat} {n k la p : Nat} (hl : 240 ≤ la) : tL t n k (240 - la) la p = 4294967295 := by
  rw [show 240 - la = 0 by omega]
  rfl
theorem tL_none {t : Nat → Nat} {n k : Nat} : ∀ f la p, p + tK t n (la + f) ≤ k + tK t n la → tL t n k f la p = 4294967295
  | 0, _, _, _ => rfl
  | f + 1, la, p, h => by
    show cond (tG t la n) (cond (Nat.beq p k) _ (tL t n k f (la + 1) (p + 1))) (tL t n k f (la + 1) p) = _
    have e : la + (f + 1) = la + 1 + f := by omega
    rw [e] at h
    have mono : ∀ a b, tK t n a ≤ tK t n (a + b) := by
      intro a b
      induction b with
      | zero => exact Nat.le_refl _
      | succ b ih =>
        refine Nat.le_trans ih ?_
        show tK t n (a + b) ≤ tK t n (a + b) + cond (tG t (a + b) n) 1 0
        omega
    have m := mono (la + 1) f
    cases hg : tG t la n with
    | true =>
      have hy := tK_y hg
      rw [show Nat.beq p k = false from tbeq_f (by omega)]
      exact tL_none f (la + 1) (p + 1) (by omega)
    | false =>
      have hy := tK_n (t := t) (n := n) (m := la) (by rw [hg]; decide)
      exact tL_none f (la + 1) p (by omega)
theorem tL_cg {t t' : Nat → Nat} {n k : Nat} (e : ∀ j, j < n * 4 → t' j = t j) : ∀ f la p, tL t' n k f la p = tL t n k f la p
  | 0, _, _ => rfl
  | f + 1, la, p => by
    show cond (tG t' la n) (cond (Nat.beq p k) _ (tL t' n k f (la + 1) (p + 1))) (tL t' n k f (la + 1) p) = cond (tG t la n) (cond (Nat.beq p k) _ (tL t n k f (la + 1) (p + 1))) (tL t n k f (la + 1) p)
    rw [tG_cg e n (Nat.le_refl _), tL_cg e f (la + 1) (p + 1), tL_cg e f (la + 1) p]
/-- the span at a speed, over the first m laws -/
def tMn (t : Nat → Nat) (n sp : Nat) : Nat → Nat
  | 0 => 2147483647
  | m + 1 => cond (tG t m n) (min (tMn t n sp m) (8 * tU m sp)) (tMn t n sp m)
def tMx (t : Nat → Nat) (n sp : Nat) : Nat → Nat
  | 0 => 0
  | m + 1 => cond (tG t m n) (max (tMx t n sp m) (12 * tU m sp)) (tMx t n sp m)
theorem tMn_y {t : Nat → Nat} {n sp m : Nat} (h : tG t m n = true) : tMn t n sp (m + 1) = min (tMn t n sp m) (8 * tU m sp) := by
  show cond (tG t m n) _ _ = _
  rw [h]
  rfl
theorem tMx_y {t : Nat → Nat} {n sp m : Nat} (h : tG t m n = true) : tMx t n sp (m + 1) = max (tMx t n sp m) (12 * tU m sp) := by
  show cond (tG t m n) _ _ = _
  rw [h]
  rfl
theorem tG_nf {t : Nat → Nat} {n m : Nat} (h : ¬ tG t m n = true) : tG t m n = false := by
  cases z : tG t m n with
  | true => exact absurd z h
  | false => rfl
theorem tMn_n {t : Nat → Nat} {n sp m : Nat} (h : ¬ tG t m n = true) : tMn t n sp (m + 1) = tMn t n sp m := by
  show cond (tG t m n) _ _ = _
  rw [tG_nf h]
  rfl
theorem tMx_n {t : Nat → Nat} {n sp m : Nat} (h : ¬ tG t m n = true) : tMx t n sp (m + 1) = tMx t n sp m := by
  show cond (tG t m n) _ _ = _
  rw [tG_nf h]
  rfl
theorem tMn_0 {t : Nat → Nat} {n sp : Nat} : ∀ m, tK t n m = 0 → tMn t n sp m = 2147483647 ∧ tMx t n sp m = 0
  | 0, _ => ⟨rfl, rfl⟩
  | m + 1, h => by
    by_cases g : tG t m n = true
    · rw [tK_y g] at h
      omega
    · rw [tK_n g] at h
      rw [tMn_n g, tMx_n g]
      exact tMn_0 m h
theorem tMn_cg {t t' : Nat → Nat} {n sp : Nat} (e : ∀ j, j < n * 4 → t' j = t j) : ∀ m, tMn t' n sp m = tMn t n sp m ∧ tMx t' n sp m = tMx t n sp m
  | 0 => ⟨rfl, rfl⟩
  | m + 1 => by
    obtain ⟨h1, h2⟩ := tMn_cg (sp := sp) e m
    have g := tG_cg (la := m) e n (Nat.le_refl _)
    refine ⟨?_, ?_⟩
    · show cond (tG t' m n) (min (tMn t' n sp m) _) (tMn t' n sp m) = cond (tG t m n) (min (tMn t n sp m) _) (tMn t n sp m)
      rw [g, h1]
    · show cond (tG t' m n) (max (tMx t' n sp m) _) (tMx t' n sp m) = cond (tG t m n) (max (tMx t n sp m) _) (tMx t n sp m)
      rw [g, h2]
theorem tMn_le {t : Nat → Nat} {n sp : Nat} (h1 : 1 ≤ sp) (h9 : sp ≤ 9) : ∀ m, m ≤ 240 → tMn t n sp m ≤ 2147483647 ∧ tMx t n sp m ≤ 524880
  | 0, _ => ⟨Nat.le_refl _, Nat.zero_le _⟩
  | m + 1, h => by
    obtain ⟨a, b⟩ := tMn_le (t := t) (n := n) h1 h9 m (by omega)
    have u := tU_le (la := m) (by omega) h1 h9
    by_cases g : tG t m n = true
    · rw [tMn_y g, tMx_y g]
      omega
    · rw [tMn_n g, tMx_n g]
      exact ⟨a, b⟩
/-- laws that would be kept, at a speed and folds, if it has cracked, if not -/
def tY (t : Nat → Nat) (n v r : Nat) : Nat → Nat
  | 0 => 0
  | m + 1 => tY t n v r m + cond (tG t m n && Nat.ble (8 * tU m v) r) 1 0
def tN (t : Nat → Nat) (n v r : Nat) : Nat → Nat
  | 0 => 0
  | m + 1 => tN t n v r m + cond (tG t m n && Nat.blt r (12 * tU m v)) 1 0
theorem tY_g {t : Nat → Nat} {n v r m : Nat} (h : tG t m n = true) : tY t n v r (m + 1) = tY t n v r m + (if 8 * tU m v ≤ r then 1 else 0) := by
  show tY t n v r m + cond (tG t m n && Nat.ble (8 * tU m v) r) 1 0 = _
  rw [h]
  by_cases z : 8 * tU m v ≤ r
  · rw [if_pos z, Nat.ble_eq_true_of_le z]; rfl
  · rw [if_neg z, show Nat.ble (8 * tU m v) r = false from Bool.eq_false_iff.mpr (fun q => z (Nat.le_of_ble_eq_true q))]; rfl
theorem tN_g {t : Nat → Nat} {n v r m : Nat} (h : tG t m n = true) : tN t n v r (m + 1) = tN t n v r m + (if r < 12 * tU m v then 1 else 0) := by
  show tN t n v r m + cond (tG t m n && Nat.blt r (12 * tU m v)) 1 0 = _
  rw [h]
  by_cases z : r < 12 * tU m v
  · rw [if_pos z, show Nat.blt r (12 * tU m v) = true from Nat.ble_eq_true_of_le z]; rfl
  · rw [if_neg z, show Nat.blt r (12 * tU m v) = false from Bool.eq_false_iff.mpr (fun q => z (Nat.le_of_ble_eq_true q))]; rfl
theorem tY_n {t : Nat → Nat} {n v r m : Nat} (h : ¬ tG t m n = true) : tY t n v r (m + 1) = tY t n v r m := by
  show tY t n v r m + cond (tG t m n && Nat.ble (8 * tU m v) r) 1 0 = _
  rw [tG_nf h]
  rfl
theorem tN_n {t : Nat → Nat} {n v r m : Nat} (h : ¬ tG t m n = true) : tN t n v r (m + 1) = tN t n v r m := by
  show tN t n v r m + cond (tG t m n && Nat.blt r (12 * tU m v)) 1 0 = _
  rw [tG_nf h]
  rfl
theorem tY_le {t : Nat → Nat} {n v r : Nat} : ∀ m, tY t n v r m ≤ m ∧ tN t n v r m ≤ m
  | 0 => ⟨Nat.le_refl _, Nat.le_refl _⟩
  | m + 1 => by
    obtain ⟨a, b⟩ := tY_le (t := t) (n := n) (v := v) (r := r) m
    by_cases g : tG t m n = true
    · rw [tY_g g, tN_g g]
      constructor
      · split <;> omega
      · split <;> omega
    · rw [tY_n g, tN_n g]
      omega
theorem tY_cg {t t' : Nat → Nat} {n v r : Nat} (e : ∀ j, j < n * 4 → t' j = t j) : ∀ m, tY t' n v r m = tY t n v r m ∧ tN t' n v r m = tN t n v r m
  | 0 => ⟨rfl, rfl⟩
  | m + 1 => by
    obtain ⟨h1, h2⟩ := tY_cg (v := v) (r := r) e m
    have g := tG_cg (la := m) e n (Nat.le_refl _)
    refine ⟨?_, ?_⟩
    · show tY t' n v r m + cond (tG t' m n && _) 1 0 = tY t n v r m + cond (tG t m n && _) 1 0
      rw [g, h1]
    · show tN t' n v r m + cond (tG t' m n && _) 1 0 = tN t n v r m + cond (tG t m n && _) 1 0
      rw [g, h2]
def tW (t : Nat → Nat) (n k : Nat) : Nat := max (tY t n (k / 15 + 1) (10 * 2 ^ (k % 15)) 240) (tN t n (k / 15 + 1) (10 * 2 ^ (k % 15)) 240)
/-- the next test, over the first k tries: number, speed, folds -/
def tX (t : Nat → Nat) (n : Nat) : Nat → Nat × Nat × Nat
  | 0 => (241, 0, 0)
  | k + 1 => cond (Nat.blt (tW t n k) (tX t n k).1) (tW t n k, k / 15 + 1, 10 * 2 ^ (k % 15)) (tX t n k)
theorem tX_y {t : Nat → Nat} {n k : Nat} (h : tW t n k < (tX t n k).1) : tX t n (k + 1) = (tW t n k, k / 15 + 1, 10 * 2 ^ (k % 15)) := by
  show cond (Nat.blt (tW t n k) (tX t n k).1) _ _ = _
  rw [show Nat.blt (tW t n k) (tX t n k).1 = true from Nat.ble_eq_true_of_le h]
  rfl
theorem tX_n {t : Nat → Nat} {n k : Nat} (h : ¬ tW t n k < (tX t n k).1) : tX t n (k + 1) = tX t n k := by
  show cond (Nat.blt (tW t n k) (tX t n k).1) _ _ = _
  rw [show Nat.blt (tW t n k) (tX t n k).1 = false from Bool.eq_false_iff.mpr (fun q => h (Nat.le_of_ble_eq_true q))]
  rfl
theorem tW_le {t : Nat → Nat} {n k : Nat} : tW t n k ≤ 240 := by
  unfold tW
  have := tY_le (t := t) (n := n) (v := k / 15 + 1) (r := 10 * 2 ^ (k % 15)) 240
  omega
theorem tX_cg {t t' : Nat → Nat} {n : Nat} (e : ∀ j, j < n * 4 → t' j = t j) : ∀ k, tX t' n k = tX t n k
  | 0 => rfl
  | k + 1 => by
    have w : tW t' n k = tW t n k := by
      unfold tW
      rw [(tY_cg e 240).1, (tY_cg e 240).2]
    show cond (Nat.blt (tW t' n k) (tX t' n k).1) (tW t' n k, _, _) (tX t' n k) = cond (Nat.blt (tW t n k) (tX t n k).1) (tW t n k, _, _) (tX t n k)
    rw [w, tX_cg e k]
/-- numbers of the tests that were told -/
def tsV (t : Nat → Nat) (n : Nat) : Prop := n ≤ 12 ∧ ∀ i, i < n → (1 ≤ t (4 * i) ∧ t (4 * i) ≤ 9) ∧ t (4 * i + 1) ≤ 999999 ∧ t (4 * i + 2) ≤ 99 ∧ t (4 * i + 3) ≤ 99
theorem tsV.cg {t t' : Nat → Nat} {n : Nat} (h : tsV t n) (e : ∀ j, j < n * 4 → t' j = t j) : tsV t' n := by
  obtain ⟨h1, h2⟩ := h
  refine ⟨h1, fun i hi => ?_⟩
  rw [e (4 * i) (by omega), e (4 * i + 1) (by omega), e (4 * i + 2) (by omega), e (4 * i + 3) (by omega)]
  exact h2 i hi
theorem tX_le {t : Nat → Nat} {n : Nat} : ∀ k, (tX t n k).1 ≤ 241 ∧ (tX t n k).2.1 ≤ k / 15 + 1 ∧ (tX t n k).2.2 ≤ 163840
  | 0 => ⟨Nat.le_refl _, Nat.zero_le _, Nat.zero_le _⟩
  | k + 1 => by
    obtain ⟨a, b, c⟩ := tX_le (t := t) (n := n) k
    by_cases h : tW t n k < (tX t n k).1
    · rw [tX_y h]
      refine ⟨Nat.le_trans tW_le (by decide), Nat.add_le_add_right (Nat.div_le_div_right (Nat.le_succ k)) 1, ?_⟩
      show 10 * 2 ^ (k % 15) ≤ 163840
      have q : ∀ j, j < 15 → 10 * 2 ^ j ≤ 163840 := by decide
      exact q _ (Nat.mod_lt _ (by decide))
    · rw [tX_n h]
      exact ⟨a, Nat.le_trans b (Nat.add_le_add_right (Nat.div_le_div_right (Nat.le_succ k)) 1), c⟩
theorem tW_eq {t : Nat → Nat} {n k v j a b z : Nat} (hv : k / 15 + 1 = v) (hj : k % 15 = j) (ha : a = tY t n v (10 * 2 ^ j) 240) (hb : b = tN t n v (10 * 2 ^ j) 240) (hz : (b ≤ a ∧ z = a) ∨ (a ≤ b ∧ z = b)) : z = tW t n k := by
  unfold tW
  rw [hv, hj, ← ha, ← hb]
  omega
