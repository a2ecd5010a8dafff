/-! texts: numbers alone -/
section XPF
variable {c : Nat → Bool} {B f g : Nat → Nat} {n p q a b v : Nat}
def pru (c : Nat → Bool) (B : Nat → Nat) (n : Nat) : Nat → Nat → Nat
  | 0, p => p
  | k + 1, p => cond (decide (p < n) && c (B p)) (pru c B n k (p + 1)) p
/-- behind what is of one kind -/
def prn (c : Nat → Bool) (B : Nat → Nat) (n p : Nat) : Nat := pru c B n (n - p) p
theorem prn_y (h : p < n) (hc : c (B p) = true) : prn c B n p = prn c B n (p + 1) := by
  unfold prn
  obtain ⟨k, hk⟩ : ∃ k, n - p = k + 1 := ⟨n - p - 1, by omega⟩
  rw [hk, show n - (p + 1) = k by omega]
  show cond (decide (p < n) && c (B p)) (pru c B n k (p + 1)) p = _
  rw [hc, decide_eq_true h]
  rfl
theorem prn_e (h : n ≤ p) : prn c B n p = p := by
  unfold prn
  rw [show n - p = 0 by omega]
  rfl
theorem prn_n (hc : c (B p) = false) : prn c B n p = p := by
  unfold prn
  cases n - p with
  | zero => rfl
  | succ k =>
    show cond (decide (p < n) && c (B p)) (pru c B n k (p + 1)) p = p
    rw [hc, Bool.and_false]
    rfl
theorem pru_b (c : Nat → Bool) (B : Nat → Nat) (n : Nat) : ∀ k p, p ≤ pru c B n k p ∧ pru c B n k p ≤ p + k ∧ ∀ j, p ≤ j → j < pru c B n k p → j < n ∧ c (B j) = true
  | 0, p => ⟨Nat.le_refl _, Nat.le_refl _, fun j h1 h2 => absurd (show j < p from h2) (by omega)⟩
  | k + 1, p => by
    obtain ⟨h1, h2, h3⟩ := pru_b c B n k (p + 1)
    by_cases e : p < n ∧ c (B p) = true
    · have z : pru c B n (k + 1) p = pru c B n k (p + 1) := by
        show cond (decide (p < n) && c (B p)) (pru c B n k (p + 1)) p = _
        rw [e.2, decide_eq_true e.1]
        rfl
      rw [z]
      refine ⟨by omega, by omega, fun j a1 a2 => ?_⟩
      by_cases y : j = p
      · rw [y]
        exact e
      · exact h3 j (by omega) a2
    · have z : pru c B n (k + 1) p = p := by
        show cond (decide (p < n) && c (B p)) (pru c B n k (p + 1)) p = p
        cases y : c (B p) with
        | false => rw [Bool.and_false]; rfl
        | true => rw [decide_eq_false (fun w => e ⟨w, y⟩)]; rfl
      rw [z]
      exact ⟨Nat.le_refl _, by omega, fun j a1 a2 => absurd a1 (by omega)⟩
theorem prn_ge : p ≤ prn c B n p := (pru_b c B n _ _).1
theorem prn_le (h : p ≤ n) : prn c B n p ≤ n := by
  have := (pru_b c B n (n - p) p).2.1
  unfold prn
  omega
theorem prn_all {j : Nat} (h1 : p ≤ j) (h2 : j < prn c B n p) : j < n ∧ c (B j) = true := (pru_b c B n (n - p) p).2.2 j h1 h2
def cB (b : Nat) : Bool := decide (b = 10 ∨ b = 32)
def cL (b : Nat) : Bool := decide (97 ≤ b ∧ b ≤ 122)
def cD (b : Nat) : Bool := decide (48 ≤ b ∧ b ≤ 57)
def cS (b : Nat) : Bool := decide (b = 59 ∨ b = 58 ∨ b = 60 ∨ b = 62 ∨ b = 61)
theorem cB_t (h : b = 10 ∨ b = 32) : cB b = true := decide_eq_true h
theorem cB_f (h : ¬ (b = 10 ∨ b = 32)) : cB b = false := decide_eq_false h
theorem cL_t (h : 97 ≤ b ∧ b ≤ 122) : cL b = true := decide_eq_true h
theorem cL_f (h : ¬ (97 ≤ b ∧ b ≤ 122)) : cL b = false := decide_eq_false h
theorem cD_t (h : 48 ≤ b ∧ b ≤ 57) : cD b = true := decide_eq_true h
theorem cD_f (h : ¬ (48 ≤ b ∧ b ≤ 57)) : cD b = false := decide_eq_false h
theorem cS_t (h : b = 59 ∨ b = 58 ∨ b = 60 ∨ b = 62 ∨ b = 61) : cS b = true := decide_eq_true h
theorem cS_f (h : ¬ (b = 59 ∨ b = 58 ∨ b = 60 ∨ b = 62 ∨ b = 61)) : cS b = false := decide_eq_false h
theorem cL_of (h : cL b = true) : 97 ≤ b ∧ b ≤ 122 := of_decide_eq_true h
theorem cD_of (h : cD b = true) : 48 ≤ b ∧ b ≤ 57 := of_decide_eq_true h
/-- where the token at hand begins, and where it ends -/
def tq (B : Nat → Nat) (n p : Nat) : Nat := prn cB B n p
def tf (B : Nat → Nat) (n p : Nat) : Nat := if n ≤ tq B n p then tq B n p else if cL (B (tq B n p)) = true then prn cL B n (tq B n p) else if cD (B (tq B n p)) = true then prn cD B n (tq B n p) else tq B n p + 1
/-- 0 the end, 1 a word, 2 a number, 3 a sign, 4 something else -/
def tkd (B : Nat → Nat) (n p : Nat) : Nat := if n ≤ tq B n p then 0 else if cL (B (tq B n p)) = true then 1 else if cD (B (tq B n p)) = true then (if 4 < tf B n p - tq B n p then 4 else 2) else if cS (B (tq B n p)) = true then 3 else 4
def dgv (B : Nat → Nat) (q : Nat) : Nat → Nat
  | 0 => 0
  | k + 1 => 10 * dgv B q k + (B (q + k) - 48)
def tnu (B : Nat → Nat) (n p : Nat) : Nat := dgv B (tq B n p) (min 4 (tf B n p - tq B n p))
def wvv (B : Nat → Nat) (q : Nat) : Nat → Nat
  | 0 => 0
  | k + 1 => 32 * wvv B q k + (B (q + k) - 96)
/-- a word of six letters or less, as a number; 0: none -/
def twk (B : Nat → Nat) (n p : Nat) : Nat := if tkd B n p = 1 ∧ tf B n p - tq B n p ≤ 6 then wvv B (tq B n p) (tf B n p - tq B n p) else 0
def qcd (L : List Nat) : Nat := wvv (fun j => L.getD j 0) 0 L.length
theorem tq_ge : p ≤ tq B n p := prn_ge
theorem tq_le (h : p ≤ n) : tq B n p ≤ n := prn_le h
theorem tk_end (h : n ≤ tq B n p) : tkd B n p = 0 ∧ tf B n p = tq B n p := by
  unfold tkd tf
  rw [if_pos h, if_pos h]
  exact ⟨rfl, rfl⟩
theorem tk_word (h : tq B n p < n) (hc : cL (B (tq B n p)) = true) : tkd B n p = 1 ∧ tf B n p = prn cL B n (tq B n p) := by
  unfold tkd tf
  rw [if_neg (by omega), if_pos hc, if_neg (by omega), if_pos hc]
  exact ⟨rfl, rfl⟩
theorem tk_num (h : tq B n p < n) (hl : cL (B (tq B n p)) = false) (hc : cD (B (tq B n p)) = true) : tkd B n p = (if 4 < tf B n p - tq B n p then 4 else 2) ∧ tf B n p = prn cD B n (tq B n p) := by
  refine ⟨?_, ?_⟩
  · unfold tkd
    rw [if_neg (by omega), hl, if_neg Bool.false_ne_true, if_pos hc]
  · unfold tf
    rw [if_neg (by omega), hl, if_neg Bool.false_ne_true, if_pos hc]
theorem tk_sign (h : tq B n p < n) (hl : cL (B (tq B n p)) = false) (hd : cD (B (tq B n p)) = false) : tkd B n p = (if cS (B (tq B n p)) = true then 3 else 4) ∧ tf B n p = tq B n p + 1 := by
  refine ⟨?_, ?_⟩
  · unfold tkd
    rw [if_neg (by omega), hl, if_neg Bool.false_ne_true, hd, if_neg Bool.false_ne_true]
  · unfold tf
    rw [if_neg (by omega), hl, if_neg Bool.false_ne_true, hd, if_neg Bool.false_ne_true]
theorem tf_ge : tq B n p ≤ tf B n p := by
  unfold tf
  split
  · exact Nat.le_refl _
  · split
    · exact prn_ge
    · split
      · exact prn_ge
      · omega
theorem tf_le (h : p ≤ n) : tf B n p ≤ n := by
  have hq : tq B n p ≤ n := tq_le h
  unfold tf
  split
  · exact hq
  · split
    · exact prn_le hq
    · split
      · exact prn_le hq
      · omega
/-- a token takes one byte or more -/
theorem tf_gt (h : tkd B n p ≠ 0) : tq B n p < n ∧ tq B n p < tf B n p := by
  by_cases e : n ≤ tq B n p
  · exact absurd (tk_end e).1 h
  · have e : tq B n p < n := by omega
    refine ⟨e, ?_⟩
    cases hl : cL (B (tq B n p)) with
    | true =>
      rw [(tk_word e hl).2, prn_y e hl]
      exact prn_ge
    | false =>
      cases hd : cD (B (tq B n p)) with
      | true =>
        rw [(tk_num e hl hd).2, prn_y e hd]
        exact prn_ge
      | false =>
        rw [(tk_sign e hl hd).2]
        omega
theorem tk_le4 : tkd B n p ≤ 4 := by
  unfold tkd
  repeat' split
  all_goals omega
theorem tk_kinds : tkd B n p = 0 ∨ tkd B n p = 1 ∨ tkd B n p = 2 ∨ tkd B n p = 3 ∨ tkd B n p = 4 := by
  have := tk_le4 (B := B) (n := n) (p := p)
  omega
/-- what a kind says -/
theorem tk1_of (h : tkd B n p = 1) : tq B n p < n ∧ cL (B (tq B n p)) = true ∧ tf B n p = prn cL B n (tq B n p) := by
  by_cases e : n ≤ tq B n p
  · have := (tk_end e).1
    omega
  · have e : tq B n p < n := by omega
    cases hl : cL (B (tq B n p)) with
    | true => exact ⟨e, rfl, (tk_word e hl).2⟩
    | false =>
      exfalso
      cases hd : cD (B (tq B n p)) with
      | true =>
        have k := (tk_num e hl hd).1
        rw [h] at k
        split at k <;> omega
      | false =>
        have k := (tk_sign e hl hd).1
        rw [h] at k
        split at k <;> omega
theorem tk_let {j : Nat} (h : tkd B n p = 1) (h1 : tq B n p ≤ j) (h2 : j < tf B n p) : 97 ≤ B j ∧ B j ≤ 122 := by
  rw [(tk1_of h).2.2] at h2
  exact cL_of (prn_all h1 h2).2
theorem dgv_y (h : p ≤ a) (h4 : a - p < 4) : dgv B p (min 4 (a + 1 - p)) = 10 * dgv B p (min 4 (a - p)) + (B a - 48) := by
  rw [show min 4 (a + 1 - p) = (a - p) + 1 by omega, show min 4 (a - p) = a - p by omega]
  show 10 * dgv B p (a - p) + (B (p + (a - p)) - 48) = _
  rw [show p + (a - p) = a by omega]
theorem dgv_n (h4 : 4 ≤ a - p) : dgv B p (min 4 (a + 1 - p)) = dgv B p (min 4 (a - p)) := by
  rw [show min 4 (a + 1 - p) = min 4 (a - p) by omega]
theorem dgv_0 : dgv B p (min 4 (p - p)) = 0 := by
  rw [Nat.sub_self]
  rfl
theorem dgv_le : ∀ k, (∀ j, j < k → B (q + j) ≤ 57) → k ≤ 4 → dgv B q k ≤ 9999 ∧ (k ≤ 3 → dgv B q k ≤ 999) ∧ (k ≤ 2 → dgv B q k ≤ 99) ∧ (k ≤ 1 → dgv B q k ≤ 9)
  | 0, _, _ => ⟨Nat.zero_le _, fun _ => Nat.zero_le _, fun _ => Nat.zero_le _, fun _ => Nat.zero_le _⟩
  | k + 1, h, h4 => by
    obtain ⟨h1, h2, h3, h5⟩ := dgv_le k (fun j hj => h j (by omega)) (by omega)
    have hb := h k (by omega)
    show 10 * dgv B q k + (B (q + k) - 48) ≤ 9999 ∧ (k + 1 ≤ 3 → 10 * dgv B q k + (B (q + k) - 48) ≤ 999) ∧ (k + 1 ≤ 2 → 10 * dgv B q k + (B (q + k) - 48) ≤ 99) ∧ (k + 1 ≤ 1 → 10 * dgv B q k + (B (q + k) - 48) ≤ 9)
    have z : k + 1 ≤ 1 → dgv B q k = 0 := fun e => by
      have : k = 0 := by omega
      subst this
      rfl
    refine ⟨?_, fun e => ?_, fun e => ?_, fun e => ?_⟩
    · have := h2 (by omega)
      omega
    · have := h3 (by omega)
      omega
    · have := h5 (by omega)
      omega
    · have := z e
      omega
theorem wvv_1 (h : ∀ j, j < n + 1 → 97 ≤ f (a + j)) : 1 ≤ wvv f a (n + 1) := by
  have := h n (by omega)
  show 1 ≤ 32 * wvv f a n + (f (a + n) - 96)
  omega
theorem wvv_inj : ∀ l m, (∀ j, j < l → 97 ≤ f (a + j) ∧ f (a + j) ≤ 122) → (∀ j, j < m → 97 ≤ g (b + j) ∧ g (b + j) ≤ 122) → (wvv f a l = wvv g b m ↔ l = m ∧ ∀ j, j < l → f (a + j) = g (b + j))
  | 0, 0, _, _ => ⟨fun _ => ⟨rfl, fun j hj => absurd hj (by omega)⟩, fun _ => rfl⟩
  | 0, m + 1, _, h2 => by
    have := wvv_1 (f := g) (a := b) (n := m) (fun j hj => (h2 j hj).1)
    refine ⟨fun e => ?_, fun e => absurd e.1 (by omega)⟩
    have e : 0 = wvv g b (m + 1) := e
    omega
  | l + 1, 0, h1, _ => by
    have := wvv_1 (f := f) (a := a) (n := l) (fun j hj => (h1 j hj).1)
    refine ⟨fun e => ?_, fun e => absurd e.1 (by omega)⟩
    have e : wvv f a (l + 1) = 0 := e
    omega
  | l + 1, m + 1, h1, h2 => by
    have ih := wvv_inj l m (fun j hj => h1 j (by omega)) (fun j hj => h2 j (by omega))
    have a1 := h1 l (by omega)
    have a2 := h2 m (by omega)
    show 32 * wvv f a l + (f (a + l) - 96) = 32 * wvv g b m + (g (b + m) - 96) ↔ _
    refine ⟨fun e => ?_, fun e => ?_⟩
    · have e1 : wvv f a l = wvv g b m := by omega
      have e2 : f (a + l) = g (b + m) := by omega
      obtain ⟨z1, z2⟩ := ih.mp e1
      refine ⟨by omega, fun j hj => ?_⟩
      by_cases y : j = l
      · rw [y, e2, z1]
      · exact z2 j (by omega)
    · obtain ⟨z1, z2⟩ := e
      have z1 : l = m := by omega
      have k := ih.mpr ⟨z1, fun j hj => z2 j (by omega)⟩
      have k2 := z2 l (by omega)
      rw [k, k2, z1]
/-- a word is what it is by its bytes -/
theorem twk_y {L : List Nat} (hL : ∀ j, j < L.length → 97 ≤ L.getD j 0 ∧ L.getD j 0 ≤ 122) (h6 : L.length ≤ 6) (h : tkd B n p = 1) (hl : tf B n p - tq B n p = L.length) (he : ∀ j, j < L.length → B (tq B n p + j) = L.getD j 0) : twk B n p = qcd L := by
  have hf := tf_ge (B := B) (n := n) (p := p)
  unfold twk qcd
  rw [if_pos ⟨h, by omega⟩]
  refine (wvv_inj (g := fun j => L.getD j 0) (b := 0) _ _ (fun j hj => tk_let h (by omega) (by omega)) (fun j hj => ?_)).mpr ⟨hl, fun j hj => ?_⟩
  · rw [Nat.zero_add]
    exact hL j hj
  · rw [Nat.zero_add]
    exact he j (by omega)
theorem twk_n {L : List Nat} (hL : ∀ j, j < L.length → 97 ≤ L.getD j 0 ∧ L.getD j 0 ≤ 122) (h1 : 1 ≤ L.length) (h : ¬ (tkd B n p = 1 ∧ tf B n p - tq B n p = L.length ∧ ∀ j, j < L.length → B (tq B n p + j) = L.getD j 0)) : twk B n p ≠ qcd L := by
  intro e
  unfold twk qcd at e
  have hf := tf_ge (B := B) (n := n) (p := p)
  have w1 : 1 ≤ wvv (fun j => L.getD j 0) 0 L.length := by
    obtain ⟨m, hm⟩ : ∃ m, L.length = m + 1 := ⟨L.length - 1, by omega⟩
    rw [hm]
    exact wvv_1 (fun j hj => by rw [Nat.zero_add]; exact (hL j (by omega)).1)
  split at e
  · rename_i z
    obtain ⟨z1, z2⟩ := (wvv_inj (g := fun j => L.getD j 0) (b := 0) _ _ (fun j hj => tk_let z.1 (by omega) (by omega)) (fun j hj => by rw [Nat.zero_add]; exact hL j hj)).mp e
    exact h ⟨z.1, z1, fun j hj => by have := z2 j (by omega); rw [Nat.zero_add] at this; exact this⟩
  · omega
theorem twk_0 (h : tkd B n p ≠ 1) : twk B n p = 0 := if_neg (fun z => h z.1)
/-- lines of a film: 0 layer, 1 life, 2 folds, 3 panel, 4 flaw, 5 sheet, 6 net, 7 none -/
def srt (v : Nat) : Nat := if v = 12641458 then 0 else if v = 402629 then 1 else if v = 6795411 then 2 else if v = 16824492 then 3 else if v = 208951 then 4 else if v = 20190388 then 5 else if v = 14516 then 6 else 7
def slt (B : Nat → Nat) (n p : Nat) : Nat := srt (twk B n p)
def semi (B : Nat → Nat) (n p : Nat) : Bool := decide (tkd B n p = 3 ∧ B (tq B n p) = 59)
def glue (B : Nat → Nat) (n p : Nat) : Bool := decide (twk B n p = 277892 ∨ twk B n p = 20325509)
/-- a line: does it go on to its end, and where is the token behind it (or with which no text goes on) -/
def lnS (B : Nat → Nat) (n p : Nat) : Bool × Nat := cond (semi B n p) (true, tf B n p) (false, p)
def lnG (B : Nat → Nat) (n p : Nat) : Bool × Nat := cond (glue B n p) (lnS B n (tf B n p)) (false, p)
def lnT (B : Nat → Nat) (n s p : Nat) : Bool × Nat := if s = 0 then lnG B n p else lnS B n p
def lnN (B : Nat → Nat) (n s : Nat) : Nat → Nat → Bool × Nat
  | 0, p => lnT B n s p
  | k + 1, p => if tkd B n p = 2 then lnN B n s k (tf B n p) else (false, p)
def nnm (s : Nat) : Nat := if s = 0 ∨ s = 3 then 3 else 2
def lnR (B : Nat → Nat) (n p : Nat) : Bool × Nat := if slt B n p = 7 then (false, p) else lnN B n (slt B n p) (nnm (slt B n p)) (tf B n p)
/-- the numbers of a line, and their places -/
def vlp (B : Nat → Nat) (n p : Nat) : Nat → Nat
  | 0 => tf B n p
  | t + 1 => tf B n (vlp B n p t)
def vln (B : Nat → Nat) (n p t : Nat) : Nat := if t = 3 then (if twk B n (vlp B n p 3) = 20325509 then 1 else 0) else tnu B n (vlp B n p t)
/-- the lines of a film, one after another -/
def lnP (B : Nat → Nat) (n : Nat) : Nat → Nat
  | 0 => 0
  | k + 1 => (lnR B n (lnP B n k)).2
def lnC (B : Nat → Nat) (n s : Nat) : Nat → Nat
  | 0 => 0
  | k + 1 => lnC B n s k + (if slt B n (lnP B n k) = s then 1 else 0)
def lim (s : Nat) : Nat := if s = 0 ∨ s = 2 then 6 else if s = 1 ∨ s = 3 then 4 else if s = 4 then 20 else 1
def lst0 (s : Nat) : Nat := if s = 1 ∨ s = 4 then 0 else 1
def grt0 (s : Nat) : Nat := if s = 0 ∨ s = 1 then 99 else if s = 2 then 9999 else if s = 4 then 9 else if s = 6 then 6 else 10
def lst1 (s : Nat) : Nat := if s = 4 then 0 else 1
def grt1 (s : Nat) : Nat := if s = 0 then 99 else if s = 1 then 999 else if s = 2 then 9999 else if s = 4 then 9 else if s = 6 then 6 else 10
def grt2 (s : Nat) : Nat := if s = 0 then 99 else 999
/-- a life from the same stretch was told before -/
def lfB (B : Nat → Nat) (n v : Nat) : Nat → Bool
  | 0 => false
  | k + 1 => lfB B n v k || (decide (slt B n (lnP B n k) = 1) && decide (vln B n (lnP B n k) 0 = v))
def inb (a b v : Nat) : Bool := decide (a ≤ v ∧ v ≤ b)
/-- the fault of a line, none being there before it: kind, place -/
def flt (B : Nat → Nat) (n k : Nat) : Nat × Nat :=
  cond (decide (lim (slt B n (lnP B n k)) ≤ lnC B n (slt B n (lnP B n k)) k) || (decide (slt B n (lnP B n k) = 1) && lfB B n (vln B n (lnP B n k) 0) k)) (3, tq B n (lnP B n k))
    (cond (inb (lst0 (slt B n (lnP B n k))) (grt0 (slt B n (lnP B n k))) (vln B n (lnP B n k) 0))
      (cond (inb (lst1 (slt B n (lnP B n k))) (grt1 (slt B n (lnP B n k))) (vln B n (lnP B n k) 1))
        (cond (decide (nnm (slt B n (lnP B n k)) = 3) && !inb 1 (grt2 (slt B n (lnP B n k))) (vln B n (lnP B n k) 2)) (2, tq B n (vlp B n (lnP B n k) 2)) (0, 0))
        (2, tq B n (vlp B n (lnP B n k) 1)))
      (2, tq B n (vlp B n (lnP B n k) 0)))
def flA (B : Nat → Nat) (n : Nat) : Nat → Nat × Nat
  | 0 => (0, 0)
  | k + 1 => if (flA B n k).1 = 0 then flt B n k else flA B n k
def wds (s : Nat) : Nat := if s = 0 then 4 else if s = 3 then 3 else 2
/-- what X holds of the lines told, is what they tell -/
def RCN (B : Nat → Nat) (n k : Nat) (X : Nat → Nat → Nat → Nat) : Prop := (∀ i, i < k → ∀ t, t < wds (slt B n (lnP B n i)) → X (slt B n (lnP B n i)) (lnC B n (slt B n (lnP B n i)) i) t = vln B n (lnP B n i) t) ∧ (∀ s, s = 5 ∨ s = 6 → lnC B n s k = 0 → X s 0 0 = 1 ∧ X s 0 1 = 1)
theorem lnC_le {s i k : Nat} (h : i ≤ k) : lnC B n s i ≤ lnC B n s k := by
  induction k with
  | zero => rw [show i = 0 by omega]; exact Nat.le_refl _
  | succ k ih =>
    by_cases e : i = k + 1
    · rw [e]
      exact Nat.le_refl _
    · have := ih (by omega)
      show _ ≤ lnC B n s k + _
      omega
theorem lnC_lt {s i k : Nat} (h : i < k) (hs : slt B n (lnP B n i) = s) : lnC B n s i < lnC B n s k := by
  have h1 : lnC B n s (i + 1) = lnC B n s i + 1 := by
    show lnC B n s i + (if slt B n (lnP B n i) = s then 1 else 0) = _
    rw [if_pos hs]
  have h2 := lnC_le (B := B) (n := n) (s := s) (show i + 1 ≤ k from h)
  omega
theorem lnC_hit {s m : Nat} : ∀ k, m < lnC B n s k → ∃ i, i < k ∧ slt B n (lnP B n i) = s ∧ lnC B n s i = m
  | 0, h => absurd (show m < 0 from h) (Nat.not_lt_zero _)
  | k + 1, h => by
    have h : m < lnC B n s k + (if slt B n (lnP B n k) = s then 1 else 0) := h
    by_cases e : m < lnC B n s k
    · obtain ⟨i, h1, h2, h3⟩ := lnC_hit k e
      exact ⟨i, by omega, h2, h3⟩
    · by_cases y : slt B n (lnP B n k) = s
      · rw [if_pos y] at h
        exact ⟨k, by omega, y, by omega⟩
      · rw [if_neg y] at h
        omega
theorem lnC_y {s k : Nat} (h : slt B n (lnP B n k) = s) : lnC B n s (k + 1) = lnC B n s k + 1 := by
  show lnC B n s k + (if slt B n (lnP B n k) = s then 1 else 0) = _
  rw [if_pos h]
theorem lnC_n {s k : Nat} (h : slt B n (lnP B n k) ≠ s) : lnC B n s (k + 1) = lnC B n s k := by
  show lnC B n s k + (if slt B n (lnP B n k) = s then 1 else 0) = _
  rw [if_neg h]
  rfl
theorem lfB_t {k i v : Nat} (h : i < k) (hs : slt B n (lnP B n i) = 1) (hv : vln B n (lnP B n i) 0 = v) : lfB B n v k = true := by
  induction k with
  | zero => omega
  | succ k ih =>
    show (lfB B n v k || (decide (slt B n (lnP B n k) = 1) && decide (vln B n (lnP B n k) 0 = v))) = true
    by_cases e : i = k
    · rw [← e, decide_eq_true hs, decide_eq_true hv, Bool.and_true, Bool.or_true]
    · rw [ih (by omega), Bool.true_or]
theorem lfB_f {v : Nat} : ∀ k, (∀ i, i < k → slt B n (lnP B n i) = 1 → vln B n (lnP B n i) 0 ≠ v) → lfB B n v k = false
  | 0, _ => rfl
  | k + 1, h => by
    show (lfB B n v k || (decide (slt B n (lnP B n k) = 1) && decide (vln B n (lnP B n k) 0 = v))) = false
    rw [lfB_f k (fun i hi => h i (by omega)), Bool.false_or]
    by_cases e : slt B n (lnP B n k) = 1
    · rw [decide_eq_false (h k (by omega) e), Bool.and_false]
    · rw [decide_eq_false e, Bool.false_and]
/-- X goes on over a line -/
theorem RCN.up {k s : Nat} {X Y : Nat → Nat → Nat → Nat} (h : RCN B n k X) (hs : slt B n (lnP B n k) = s) (hk : ∀ s' m t, m < lnC B n s' k → t < wds s' → Y s' m t = X s' m t) (hn : ∀ t, t < wds s → Y s (lnC B n s k) t = vln B n (lnP B n k) t) (h5 : ∀ s', s' = 5 ∨ s' = 6 → s' ≠ s → lnC B n s' k = 0 → Y s' 0 0 = X s' 0 0 ∧ Y s' 0 1 = X s' 0 1) : RCN B n (k + 1) Y := by
  refine ⟨fun i hi t ht => ?_, fun s' h56 hc => ?_⟩
  · by_cases e : i = k
    · subst e
      rw [hs] at ht ⊢
      exact hn t ht
    · rw [hk _ _ _ (lnC_lt (show i < k by omega) rfl) ht]
      exact h.1 i (by omega) t ht
  · by_cases e : s' = s
    · have := lnC_y (B := B) (n := n) (k := k) (hs.trans e.symm)
      omega
    · have z := lnC_n (B := B) (n := n) (k := k) (s := s') (fun y => e (y.symm.trans hs))
      have c0 : lnC B n s' k = 0 := by omega
      obtain ⟨a1, a2⟩ := h5 s' h56 e c0
      rw [a1, a2]
      exact h.2 s' h56 c0
/-- two that hold the same lines are alike -/
theorem RCN.eq {k s m t : Nat} {X Y : Nat → Nat → Nat → Nat} (h : RCN B n k X) (h' : RCN B n k Y) (hm : m < lnC B n s k) (ht : t < wds s) : X s m t = Y s m t := by
  obtain ⟨i, h1, h2, h3⟩ := lnC_hit k hm
  have a := h.1 i h1 t (by rw [h2]; exact ht)
  have b := h'.1 i h1 t (by rw [h2]; exact ht)
  rw [h2, h3] at a b
  exact a.trans b.symm
theorem RCN.eq5 {k s t : Nat} {X Y : Nat → Nat → Nat → Nat} (h : RCN B n k X) (h' : RCN B n k Y) (h5 : s = 5 ∨ s = 6) (hl : lnC B n s k ≤ 1) (ht : t < 2) : X s 0 t = Y s 0 t := by
  by_cases e : lnC B n s k = 0
  · obtain ⟨a0, a1⟩ := h.2 s h5 e
    obtain ⟨b0, b1⟩ := h'.2 s h5 e
    rcases (show t = 0 ∨ t = 1 by omega) with rfl | rfl
    · exact a0.trans b0.symm
    · exact a1.trans b1.symm
  · refine h.eq h' (by omega) ?_
    rcases h5 with rfl | rfl <;> exact ht
theorem flA_y {k : Nat} (h : (flA B n k).1 = 0) : flA B n (k + 1) = flt B n k := by
  show (if (flA B n k).1 = 0 then flt B n k else flA B n k) = _
  rw [if_pos h]
theorem flA_n {k : Nat} (h : (flA B n k).1 ≠ 0) : flA B n (k + 1) = flA B n k := by
  show (if (flA B n k).1 = 0 then flt B n k else flA B n k) = _
  rw [if_neg h]
theorem inb_t {a b v : Nat} (h : a ≤ v ∧ v ≤ b) : inb a b v = true := decide_eq_true h
theorem inb_f {a b v : Nat} (h : ¬ (a ≤ v ∧ v ≤ b)) : inb a b v = false := decide_eq_false h
/-- the five ways of a line's faults -/
theorem flt_3a {k s : Nat} (hs : slt B n (lnP B n k) = s) (h : lim s ≤ lnC B n s k) : flt B n k = (3, tq B n (lnP B n k)) := by
  unfold flt
  rw [hs, decide_eq_true h, Bool.true_or]
  rfl
theorem flt_3b {k : Nat} (hs : slt B n (lnP B n k) = 1) (h : lfB B n (vln B n (lnP B n k) 0) k = true) : flt B n k = (3, tq B n (lnP B n k)) := by
  unfold flt
  rw [hs, h, decide_eq_true rfl, Bool.and_true, Bool.or_true]
  rfl
theorem flt_go {k s : Nat} (hs : slt B n (lnP B n k) = s) (h : ¬ lim s ≤ lnC B n s k) (hl : s = 1 → lfB B n (vln B n (lnP B n k) 0) k = false) : flt B n k = cond (inb (lst0 s) (grt0 s) (vln B n (lnP B n k) 0)) (cond (inb (lst1 s) (grt1 s) (vln B n (lnP B n k) 1)) (cond (decide (nnm s = 3) && !inb 1 (grt2 s) (vln B n (lnP B n k) 2)) (2, tq B n (vlp B n (lnP B n k) 2)) (0, 0)) (2, tq B n (vlp B n (lnP B n k) 1))) (2, tq B n (vlp B n (lnP B n k) 0)) := by
  unfold flt
  rw [hs, decide_eq_false h, Bool.false_or]
  by_cases e : s = 1
  · rw [hl e, Bool.and_false]
    rfl
  · rw [decide_eq_false e, Bool.false_and]
    rfl
theorem flt_0 {k s : Nat} (hs : slt B n (lnP B n k) = s) (h : ¬ lim s ≤ lnC B n s k) (hl : s = 1 → lfB B n (vln B n (lnP B n k) 0) k = false) (b : ¬ (lst0 s ≤ vln B n (lnP B n k) 0 ∧ vln B n (lnP B n k) 0 ≤ grt0 s)) : flt B n k = (2, tq B n (vlp B n (lnP B n k) 0)) := by
  rw [flt_go hs h hl, inb_f b]
  rfl
theorem flt_1 {k s : Nat} (hs : slt B n (lnP B n k) = s) (h : ¬ lim s ≤ lnC B n s k) (hl : s = 1 → lfB B n (vln B n (lnP B n k) 0) k = false) (a : lst0 s ≤ vln B n (lnP B n k) 0 ∧ vln B n (lnP B n k) 0 ≤ grt0 s) (b : ¬ (lst1 s ≤ vln B n (lnP B n k) 1 ∧ vln B n (lnP B n k) 1 ≤ grt1 s)) : flt B n k = (2, tq B n (vlp B n (lnP B n k) 1)) := by
  rw [flt_go hs h hl, inb_t a, inb_f b]
  rfl
theorem flt_2 {k s : Nat} (hs : slt B n (lnP B n k) = s) (h : ¬ lim s ≤ lnC B n s k) (hl : s = 1 → lfB B n (vln B n (lnP B n k) 0) k = false) (a : lst0 s ≤ vln B n (lnP B n k) 0 ∧ vln B n (lnP B n k) 0 ≤ grt0 s) (b : lst1 s ≤ vln B n (lnP B n k) 1 ∧ vln B n (lnP B n k) 1 ≤ grt1 s) (c3 : nnm s = 3) (d : ¬ (1 ≤ vln B n (lnP B n k) 2 ∧ vln B n (lnP B n k) 2 ≤ grt2 s)) : flt B n k = (2, tq B n (vlp B n (lnP B n k) 2)) := by
  rw [flt_go hs h hl, inb_t a, inb_t b, inb_f d, decide_eq_true c3]
  rfl
theorem flt_ok {k s : Nat} (hs : slt B n (lnP B n k) = s) (h : ¬ lim s ≤ lnC B n s k) (hl : s = 1 → lfB B n (vln B n (lnP B n k) 0) k = false) (a : lst0 s ≤ vln B n (lnP B n k) 0 ∧ vln B n (lnP B n k) 0 ≤ grt0 s) (b : lst1 s ≤ vln B n (lnP B n k) 1 ∧ vln B n (lnP B n k) 1 ≤ grt1 s) (d : nnm s = 3 → 1 ≤ vln B n (lnP B n k) 2 ∧ vln B n (lnP B n k) 2 ≤ grt2 s) : flt B n k = (0, 0) := by
  rw [flt_go hs h hl, inb_t a, inb_t b]
  by_cases e : nnm s = 3
  · rw [inb_t (d e), decide_eq_true e]
    rfl
  · rw [decide_eq_false e]
    rfl
/-- lines, step by step -/
theorem lnR_7 (h : slt B n p = 7) : lnR B n p = (false, p) := by
  unfold lnR
  rw [if_pos h]
theorem lnR_go {s : Nat} (h : slt B n p = s) (h7 : s ≠ 7) : lnR B n p = lnN B n s (nnm s) (tf B n p) := by
  unfold lnR
  rw [if_neg (by omega), h]
theorem lnN_y {s k : Nat} (h : tkd B n p = 2) : lnN B n s (k + 1) p = lnN B n s k (tf B n p) := by
  show (if tkd B n p = 2 then lnN B n s k (tf B n p) else (false, p)) = _
  rw [if_pos h]
theorem lnN_n {s k : Nat} (h : tkd B n p ≠ 2) : lnN B n s (k + 1) p = (false, p) := by
  show (if tkd B n p = 2 then lnN B n s k (tf B n p) else (false, p)) = _
  rw [if_neg h]
theorem lnN_0 {s : Nat} (h : s ≠ 0) : lnN B n s 0 p = lnS B n p := by
  show lnT B n s p = _
  unfold lnT
  rw [if_neg h]
theorem lnN_g (h : twk B n p = 277892 ∨ twk B n p = 20325509) : lnN B n 0 0 p = lnS B n (tf B n p) := by
  show lnG B n p = _
  unfold lnG glue
  rw [decide_eq_true h]
  rfl
theorem lnN_gn (h : ¬ (twk B n p = 277892 ∨ twk B n p = 20325509)) : lnN B n 0 0 p = (false, p) := by
  show lnG B n p = _
  unfold lnG glue
  rw [decide_eq_false h]
  rfl
theorem lnS_y (h : tkd B n p = 3 ∧ B (tq B n p) = 59) : lnS B n p = (true, tf B n p) := by
  unfold lnS semi
  rw [decide_eq_true h]
  rfl
theorem lnS_n (h : ¬ (tkd B n p = 3 ∧ B (tq B n p) = 59)) : lnS B n p = (false, p) := by
  unfold lnS semi
  rw [decide_eq_false h]
  rfl
/-- positions go on -/
theorem lnN_le {s : Nat} : ∀ k p, p ≤ n → (lnN B n s k p).2 ≤ n ∧ p ≤ (lnN B n s k p).2
  | 0, p, h => by
    have a1 := tf_le (B := B) h
    have a2 := tf_ge (B := B) (n := n) (p := p)
    have a3 := tq_ge (B := B) (n := n) (p := p)
    have key : ∀ q, q ≤ n → (lnS B n q).2 ≤ n ∧ q ≤ (lnS B n q).2 := by
      intro q hq
      have b1 := tf_le (B := B) hq
      have b2 := tf_ge (B := B) (n := n) (p := q)
      have b3 := tq_ge (B := B) (n := n) (p := q)
      unfold lnS
      cases semi B n q with
      | true => exact ⟨b1, by show q ≤ tf B n q; omega⟩
      | false => exact ⟨hq, Nat.le_refl _⟩
    show (lnT B n s p).2 ≤ n ∧ p ≤ (lnT B n s p).2
    unfold lnT
    split
    · unfold lnG
      cases glue B n p with
      | true =>
        obtain ⟨c1, c2⟩ := key (tf B n p) a1
        exact ⟨c1, by show p ≤ (lnS B n (tf B n p)).2; omega⟩
      | false => exact ⟨h, Nat.le_refl _⟩
    · exact key p h
  | k + 1, p, h => by
    have a1 := tf_le (B := B) h
    have a2 := tf_ge (B := B) (n := n) (p := p)
    have a3 := tq_ge (B := B) (n := n) (p := p)
    by_cases e : tkd B n p = 2
    · rw [lnN_y e]
      obtain ⟨c1, c2⟩ := lnN_le (s := s) k (tf B n p) a1
      exact ⟨c1, by omega⟩
    · rw [lnN_n e]
      exact ⟨h, Nat.le_refl _⟩
theorem lnR_le (h : p ≤ n) : (lnR B n p).2 ≤ n := by
  unfold lnR
  split
  · exact h
  · exact (lnN_le _ _ (tf_le h)).1
theorem lnP_le {k : Nat} : lnP B n k ≤ n := by
  induction k with
  | zero => exact Nat.zero_le _
  | succ k ih => exact lnR_le ih
theorem slt_kd (h : slt B n p ≠ 7) : tkd B n p = 1 := by
  by_cases e : tkd B n p = 1
  · exact e
  · exfalso
    apply h
    unfold slt
    rw [twk_0 e]
    rfl
theorem lnR_gt (h : (lnR B n p).1 = true) (hp : p ≤ n) : p < (lnR B n p).2 ∧ slt B n p ≠ 7 := by
  by_cases e : slt B n p = 7
  · rw [lnR_7 e] at h
    exact absurd h Bool.false_ne_true
  · refine ⟨?_, e⟩
    have a := tf_gt (B := B) (n := n) (p := p) (by rw [slt_kd e]; decide)
    have b := (lnN_le (B := B) (n := n) (s := slt B n p) (nnm (slt B n p)) (tf B n p) (tf_le hp)).2
    have c := tq_ge (B := B) (n := n) (p := p)
    rw [lnR_go rfl e]
    omega
/-- lines that go on take bytes -/
theorem lnP_ge {k : Nat} (h : ∀ i, i < k → (lnR B n (lnP B n i)).1 = true) : k ≤ lnP B n k := by
  induction k with
  | zero => exact Nat.zero_le _
  | succ k ih =>
    have a := ih (fun i hi => h i (by omega))
    have b := (lnR_gt (h k (by omega)) lnP_le).1
    show k + 1 ≤ (lnR B n (lnP B n k)).2
    omega
/-- the text of a film ends but once -/
theorem lnE_eq {k k' : Nat} (h : ∀ i, i < k → (lnR B n (lnP B n i)).1 = true) (h' : ∀ i, i < k' → (lnR B n (lnP B n i)).1 = true) (e : ¬ (lnR B n (lnP B n k)).1 = true) (e' : ¬ (lnR B n (lnP B n k')).1 = true) : k = k' := by
  by_cases a : k < k'
  · exact absurd (h' k a) e
  · by_cases b : k' < k
    · exact absurd (h k' b) e'
    · omega
theorem lnR_0 (h : tkd B n p = 0) : lnR B n p = (false, p) := by
  refine lnR_7 ?_
  unfold slt
  rw [twk_0 (by omega)]
  rfl
theorem RCN.cg {k : Nat} {X Y : Nat → Nat → Nat → Nat} (h : RCN B n k X) (hk : ∀ s m t, m < lnC B n s k → t < wds s → Y s m t = X s m t) (h5 : ∀ s, s = 5 ∨ s = 6 → Y s 0 0 = X s 0 0 ∧ Y s 0 1 = X s 0 1) : RCN B n k Y := by
  refine ⟨fun i hi t ht => ?_, fun s hs hc => ?_⟩
  · rw [hk _ _ _ (lnC_lt hi rfl) ht]
    exact h.1 i hi t ht
  · obtain ⟨a1, a2⟩ := h5 s hs
    rw [a1, a2]
    exact h.2 s hs hc
theorem RCN.zero {X : Nat → Nat → Nat → Nat} (h : ∀ s, s = 5 ∨ s = 6 → X s 0 0 = 1 ∧ X s 0 1 = 1) : RCN B n 0 X := ⟨fun i hi => absurd hi (Nat.not_lt_zero _), fun s hs _ => h s hs⟩
theorem flA_all {k : Nat} (h : (flA B n k).1 = 0) : ∀ i, i < k → (flt B n i).1 = 0 := by
  induction k with
  | zero => exact fun i hi => absurd hi (Nat.not_lt_zero _)
  | succ k ih =>
    by_cases e : (flA B n k).1 = 0
    · rw [flA_y e] at h
      intro i hi
      by_cases z : i = k
      · rw [z]
        exact h
      · exact ih e i (by omega)
    · rw [flA_n e] at h
      exact absurd h e
/-- a line without a fault -/
theorem flt_v {k s : Nat} (hs : slt B n (lnP B n k) = s) (h : (flt B n k).1 = 0) : ¬ lim s ≤ lnC B n s k ∧ (lst0 s ≤ vln B n (lnP B n k) 0 ∧ vln B n (lnP B n k) 0 ≤ grt0 s) ∧ (lst1 s ≤ vln B n (lnP B n k) 1 ∧ vln B n (lnP B n k) 1 ≤ grt1 s) ∧ (nnm s = 3 → 1 ≤ vln B n (lnP B n k) 2 ∧ vln B n (lnP B n k) 2 ≤ grt2 s) := by
  by_cases e : lim s ≤ lnC B n s k
  · rw [flt_3a hs e] at h
    exact absurd h (Nat.succ_ne_zero 2)
  · by_cases l : s = 1 ∧ lfB B n (vln B n (lnP B n k) 0) k = true
    · rw [flt_3b (hs.trans l.1) l.2] at h
      exact absurd h (Nat.succ_ne_zero 2)
    · have l' : s = 1 → lfB B n (vln B n (lnP B n k) 0) k = false := fun z => by
        cases y : lfB B n (vln B n (lnP B n k) 0) k with
        | false => rfl
        | true => exact absurd ⟨z, y⟩ l
      by_cases a : lst0 s ≤ vln B n (lnP B n k) 0 ∧ vln B n (lnP B n k) 0 ≤ grt0 s
      · by_cases b : lst1 s ≤ vln B n (lnP B n k) 1 ∧ vln B n (lnP B n k) 1 ≤ grt1 s
        · refine ⟨e, a, b, fun c3 => ?_⟩
          by_cases d : 1 ≤ vln B n (lnP B n k) 2 ∧ vln B n (lnP B n k) 2 ≤ grt2 s
          · exact d
          · rw [flt_2 hs e l' a b c3 d] at h
            exact absurd h (Nat.succ_ne_zero 1)
        · rw [flt_1 hs e l' a b] at h
          exact absurd h (Nat.succ_ne_zero 1)
      · rw [flt_0 hs e l' a] at h
        exact absurd h (Nat.succ_ne_zero 1)
theorem lnC_lim {k s : Nat} (h : (flA B n k).1 = 0) (hs : 1 ≤ lim s) : lnC B n s k ≤ lim s := by
  induction k with
  | zero => exact Nat.zero_le _
  | succ k ih =>
    by_cases e : (flA B n k).1 = 0
    · by_cases y : slt B n (lnP B n k) = s
      · rw [flA_y e] at h
        have q := (flt_v y h).1
        rw [lnC_y y]
        omega
      · rw [lnC_n y]
        exact ih e
    · rw [flA_n e] at h
      exact absurd h e
/-- a flaw beside the sheet -/
def bsX (X : Nat → Nat → Nat → Nat) (m : Nat) : Prop := X 5 0 0 ≤ X 4 m 0 ∨ X 5 0 1 ≤ X 4 m 1
/-- what came of a film's text: answer, fault, its place -/
def FRes (B : Nat → Nat) (n r f pl : Nat) : Prop := ∃ k, (∀ i, i < k → (lnR B n (lnP B n i)).1 = true) ∧ ¬ (lnR B n (lnP B n k)).1 = true ∧ ((tkd B n (lnP B n k) ≠ 0 ∧ r = 4294967295 ∧ f = 1 ∧ pl = tq B n (lnR B n (lnP B n k)).2) ∨ (tkd B n (lnP B n k) = 0 ∧ (flA B n k).1 ≠ 0 ∧ r = 4294967295 ∧ f = (flA B n k).1 ∧ pl = (flA B n k).2) ∨ (tkd B n (lnP B n k) = 0 ∧ (flA B n k).1 = 0 ∧ ∃ (X : Nat → Nat → Nat → Nat) (A : Nat → Nat), RCN B n k X ∧ (∀ i, i < k → slt B n (lnP B n i) = 4 → A (lnC B n 4 i) = tq B n (lnP B n i)) ∧ ((r = 4294967295 ∧ f = 4 ∧ ∃ m, m < lnC B n 4 k ∧ bsX X m ∧ (∀ j, j < m → ¬ bsX X j) ∧ pl = A m) ∨ (r = k ∧ f = 0 ∧ pl = 4294967295 ∧ k ≤ 500 ∧ ∀ j, j < lnC B n 4 k → ¬ bsX X j))))
theorem bsX_eq {k m : Nat} {X Y : Nat → Nat → Nat → Nat} (h : RCN B n k X) (h' : RCN B n k Y) (h0 : (flA B n k).1 = 0) (hm : m < lnC B n 4 k) : bsX X m ↔ bsX Y m := by
  have l5 := lnC_lim (s := 5) h0 (by decide)
  unfold bsX
  rw [h.eq h' hm (show 0 < wds 4 by decide), h.eq h' hm (show 1 < wds 4 by decide), h.eq5 h' (Or.inl rfl) l5 (show 0 < 2 by decide), h.eq5 h' (Or.inl rfl) l5 (show 1 < 2 by decide)]
theorem FRes.eq {r r' g g' x x' : Nat} (h : FRes B n r g x) (h' : FRes B n r' g' x') : r = r' ∧ g = g' ∧ x = x' := by
  obtain ⟨k, a1, a2, a3⟩ := h
  obtain ⟨k', b1, b2, b3⟩ := h'
  have e := lnE_eq a1 b1 a2 b2
  subst e
  rcases a3 with ⟨c1, c2, c3, c4⟩ | ⟨c1, c2, c3, c4, c5⟩ | ⟨c1, c2, X, A, c3, c4, c5⟩
  · rcases b3 with ⟨d1, d2, d3, d4⟩ | ⟨d1, -⟩ | ⟨d1, -⟩
    · exact ⟨c2.trans d2.symm, c3.trans d3.symm, c4.trans d4.symm⟩
    · exact absurd d1 c1
    · exact absurd d1 c1
  · rcases b3 with ⟨d1, -⟩ | ⟨d1, d2, d3, d4, d5⟩ | ⟨d1, d2, -⟩
    · exact absurd c1 d1
    · exact ⟨c3.trans d3.symm, c4.trans d4.symm, c5.trans d5.symm⟩
    · exact absurd d2 c2
  · rcases b3 with ⟨d1, -⟩ | ⟨d1, d2, -⟩ | ⟨d1, d2, Y, A', d3, d4, d5⟩
    · exact absurd c1 d1
    · exact absurd c2 d2
    · rcases c5 with ⟨e1, e2, m, e3, e4, e5, e6⟩ | ⟨e1, e2, e3, e4, e5⟩
      · rcases d5 with ⟨f1, f2, m', f3, f4, f5, f6⟩ | ⟨f1, f2, f3, f4, f5⟩
        · have hm : m = m' := by
            by_cases z : m < m'
            · exact absurd ((bsX_eq c3 d3 c2 e3).mp e4) (f5 m z)
            · by_cases y : m' < m
              · exact absurd ((bsX_eq c3 d3 c2 f3).mpr f4) (e5 m' y)
              · omega
          subst hm
          obtain ⟨i, i1, i2, i3⟩ := lnC_hit k e3
          refine ⟨e1.trans f1.symm, e2.trans f2.symm, ?_⟩
          rw [e6, f6, ← i3, c4 i i1 i2, d4 i i1 i2]
        · exact absurd ((bsX_eq c3 d3 c2 e3).mp e4) (f5 m e3)
      · rcases d5 with ⟨f1, f2, m', f3, f4, f5, f6⟩ | ⟨f1, f2, f3, f4, f5⟩
        · exact absurd ((bsX_eq c3 d3 c2 f3).mpr f4) (e5 m' f3)
        · exact ⟨e1.trans f1.symm, e2.trans f2.symm, e3.trans f3.symm⟩
/-- words as the model numbers them -/
def wixF (v : Nat) : Nat := if v = 12641458 then 0 else if v = 402629 then 1 else if v = 6795411 then 2 else if v = 16824492 then 3 else if v = 208951 then 4 else if v = 20190388 then 5 else if v = 14516 then 6 else if v = 277892 then 7 else if v = 20325509 then 8 else 99
def wixR (v : Nat) : Nat := if v = 650416307 then 20 else if v = 24395141 then 21 else if v = 404526675 then 22 else if v = 12748404 then 23 else if v = 605939 then 24 else if v = 6308 then 25 else if v = 4245875 then 26 else if v = 24627848 then 27 else if v = 119573875 then 28 else if v = 366100 then 29 else if v = 4153 then 30 else if v = 2098 then 40 else if v = 17376357 then 41 else if v = 398963 then 42 else if v = 294 then 50 else if v = 1476 then 51 else if v = 14836 then 52 else 99
def wix (ir v : Nat) : Nat := if ir = 0 then wixF v else wixR v
def mkd (ir : Nat) (B : Nat → Nat) (n p : Nat) : Nat := if tkd B n p = 0 then 0 else if tkd B n p = 2 then 1 else if tkd B n p = 3 then (if ir ≠ 0 ∨ B (tq B n p) = 59 then 2 else 4) else if tkd B n p = 1 then (if wix ir (twk B n p) = 99 then 4 else 3) else 4
theorem mkd_0 {ir : Nat} (h : tkd B n p = 0) : mkd ir B n p = 0 := if_pos h
theorem mkd_1 {ir : Nat} (h : tkd B n p = 2) : mkd ir B n p = 1 := by
  unfold mkd
  rw [h, if_neg (by decide), if_pos rfl]
theorem mkd_2 {ir : Nat} (h : tkd B n p = 3) (h2 : ir ≠ 0 ∨ B (tq B n p) = 59) : mkd ir B n p = 2 := by
  unfold mkd
  rw [h, if_neg (by decide), if_neg (by decide), if_pos rfl, if_pos h2]
theorem mkd_2n {ir : Nat} (h : tkd B n p = 3) (h2 : ¬ (ir ≠ 0 ∨ B (tq B n p) = 59)) : mkd ir B n p = 4 := by
  unfold mkd
  rw [h, if_neg (by decide), if_neg (by decide), if_pos rfl, if_neg h2]
theorem mkd_3 {ir : Nat} (h : tkd B n p = 1) (h2 : wix ir (twk B n p) ≠ 99) : mkd ir B n p = 3 := by
  unfold mkd
  rw [h, if_neg (by decide), if_neg (by decide), if_neg (by decide), if_pos rfl, if_neg h2]
theorem mkd_3n {ir : Nat} (h : tkd B n p = 1) (h2 : wix ir (twk B n p) = 99) : mkd ir B n p = 4 := by
  unfold mkd
  rw [h, if_neg (by decide), if_neg (by decide), if_neg (by decide), if_pos rfl, if_pos h2]
theorem mkd_4 {ir : Nat} (h : tkd B n p = 4) : mkd ir B n p = 4 := by
  unfold mkd
  rw [h, if_neg (by decide), if_neg (by decide), if_neg (by decide), if_neg (by decide)]
/-- what the model's kinds say -/
theorem mkd_of {ir : Nat} : (mkd ir B n p = 0 ↔ tkd B n p = 0) ∧ (mkd ir B n p = 1 ↔ tkd B n p = 2) ∧ (mkd ir B n p = 2 ↔ tkd B n p = 3 ∧ (ir ≠ 0 ∨ B (tq B n p) = 59)) ∧ (mkd ir B n p = 3 ↔ tkd B n p = 1 ∧ wix ir (twk B n p) ≠ 99) := by
  rcases tk_kinds (B := B) (n := n) (p := p) with h | h | h | h | h
  · rw [mkd_0 h, h]; omega
  · by_cases e : wix ir (twk B n p) = 99
    · rw [mkd_3n h e, h]; omega
    · rw [mkd_3 h e, h]; omega
  · rw [mkd_1 h, h]; omega
  · by_cases e : ir ≠ 0 ∨ B (tq B n p) = 59
    · rw [mkd_2 h e, h]
      exact ⟨by omega, by omega, ⟨fun _ => ⟨rfl, e⟩, fun _ => rfl⟩, by omega⟩
    · rw [mkd_2n h e, h]
      exact ⟨by omega, by omega, ⟨fun z => absurd z (by decide), fun z => absurd z.2 e⟩, by omega⟩
  · rw [mkd_4 h, h]; omega
theorem wvv_lt {q : Nat} : ∀ k, (∀ j, j < k → B (q + j) ≤ 122) → k ≤ 7 → wvv B q k < 34359738368 ∧ (k ≤ 6 → wvv B q k < 1073741824) ∧ (k ≤ 5 → wvv B q k < 33554432) ∧ (k ≤ 4 → wvv B q k < 1048576) ∧ (k ≤ 3 → wvv B q k < 32768) ∧ (k ≤ 2 → wvv B q k < 1024) ∧ (k ≤ 1 → wvv B q k < 32)
  | 0, _, _ => ⟨Nat.zero_lt_succ _, fun _ => Nat.zero_lt_succ _, fun _ => Nat.zero_lt_succ _, fun _ => Nat.zero_lt_succ _, fun _ => Nat.zero_lt_succ _, fun _ => Nat.zero_lt_succ _, fun _ => Nat.zero_lt_succ _⟩
  | k + 1, h, h7 => by
    obtain ⟨a0, a1, a2, a3, a4, a5, a6⟩ := wvv_lt k (fun j hj => h j (by omega)) (by omega)
    have hb := h k (by omega)
    have z : k = 0 → wvv B q k = 0 := fun e => by
      subst e
      rfl
    show 32 * wvv B q k + (B (q + k) - 96) < _ ∧ (k + 1 ≤ 6 → 32 * wvv B q k + (B (q + k) - 96) < _) ∧ (k + 1 ≤ 5 → 32 * wvv B q k + (B (q + k) - 96) < _) ∧ (k + 1 ≤ 4 → 32 * wvv B q k + (B (q + k) - 96) < _) ∧ (k + 1 ≤ 3 → 32 * wvv B q k + (B (q + k) - 96) < _) ∧ (k + 1 ≤ 2 → 32 * wvv B q k + (B (q + k) - 96) < _) ∧ (k + 1 ≤ 1 → 32 * wvv B q k + (B (q + k) - 96) < _)
    refine ⟨?_, fun e => ?_, fun e => ?_, fun e => ?_, fun e => ?_, fun e => ?_, fun e => ?_⟩
    · have := a1 (by omega)
      omega
    · have := a2 (by omega)
      omega
    · have := a3 (by omega)
      omega
    · have := a4 (by omega)
      omega
    · have := a5 (by omega)
      omega
    · have := a6 (by omega)
      omega
    · have := z (by omega)
      omega
theorem wvv_y (h : p ≤ a) (h7 : a - p < 7) : wvv B p (min 7 (a + 1 - p)) = 32 * wvv B p (min 7 (a - p)) + (B a - 96) := by
  rw [show min 7 (a + 1 - p) = (a - p) + 1 by omega, show min 7 (a - p) = a - p by omega]
  show 32 * wvv B p (a - p) + (B (p + (a - p)) - 96) = _
  rw [show p + (a - p) = a by omega]
theorem wvv_n (h7 : 7 ≤ a - p) : wvv B p (min 7 (a + 1 - p)) = wvv B p (min 7 (a - p)) := by
  rw [show min 7 (a + 1 - p) = min 7 (a - p) by omega]
/-- the model's fault: of two the one that stands first -/
def alo (fp : Nat × Nat) (k at_ : Nat) : Nat × Nat := cond (decide (fp.1 ≠ 0 ∧ (fp.2 < at_ ∨ (fp.2 = at_ ∧ fp.1 ≤ k)))) fp (k, at_)
def chk (fp : Nat × Nat) (lo hi v at_ : Nat) : Nat × Nat := cond (inb lo hi v) fp (alo fp 2 at_)
theorem alo_y {fp : Nat × Nat} {k at_ : Nat} (h : fp.1 ≠ 0 ∧ (fp.2 < at_ ∨ (fp.2 = at_ ∧ fp.1 ≤ k))) : alo fp k at_ = fp := by
  unfold alo
  rw [decide_eq_true h]
  rfl
theorem alo_n {fp : Nat × Nat} {k at_ : Nat} (h : ¬ (fp.1 ≠ 0 ∧ (fp.2 < at_ ∨ (fp.2 = at_ ∧ fp.1 ≤ k)))) : alo fp k at_ = (k, at_) := by
  unfold alo
  rw [decide_eq_false h]
  rfl
theorem chk_y {fp : Nat × Nat} {lo hi v at_ : Nat} (h : lo ≤ v ∧ v ≤ hi) : chk fp lo hi v at_ = fp := by
  unfold chk
  rw [inb_t h]
  rfl
theorem chk_n {fp : Nat × Nat} {lo hi v at_ : Nat} (h : ¬ (lo ≤ v ∧ v ≤ hi)) : chk fp lo hi v at_ = alo fp 2 at_ := by
  unfold chk
  rw [inb_f h]
  rfl
theorem chk_k {fp : Nat × Nat} {lo hi v at_ : Nat} (h1 : fp.1 ≠ 0) (h2 : fp.2 < at_) : chk fp lo hi v at_ = fp := by
  by_cases e : lo ≤ v ∧ v ≤ hi
  · exact chk_y e
  · rw [chk_n e]
    exact alo_y ⟨h1, Or.inl h2⟩
/-- a line's faults in the model's order, too -/
def mf1 (B : Nat → Nat) (n k s : Nat) (fp : Nat × Nat) : Nat × Nat := cond (decide (lim s ≤ lnC B n s k)) (alo fp 3 (tq B n (lnP B n k))) fp
def mf2 (B : Nat → Nat) (n k s : Nat) (fp : Nat × Nat) : Nat × Nat := chk (mf1 B n k s fp) (lst0 s) (grt0 s) (vln B n (lnP B n k) 0) (tq B n (vlp B n (lnP B n k) 0))
def mf3 (B : Nat → Nat) (n k s : Nat) (fp : Nat × Nat) : Nat × Nat := cond (decide (s = 1) && lfB B n (vln B n (lnP B n k) 0) k) (alo (mf2 B n k s fp) 3 (tq B n (lnP B n k))) (mf2 B n k s fp)
def mf4 (B : Nat → Nat) (n k s : Nat) (fp : Nat × Nat) : Nat × Nat := chk (mf3 B n k s fp) (lst1 s) (grt1 s) (vln B n (lnP B n k) 1) (tq B n (vlp B n (lnP B n k) 1))
def mfl (B : Nat → Nat) (n k s : Nat) (fp : Nat × Nat) : Nat × Nat := cond (decide (nnm s = 3)) (chk (mf4 B n k s fp) 1 (grt2 s) (vln B n (lnP B n k) 2) (tq B n (vlp B n (lnP B n k) 2))) (mf4 B n k s fp)
theorem mfl_4 {k s : Nat} {fp x : Nat × Nat} (h : mf4 B n k s fp = x) (hx : x.1 ≠ 0) (h3 : nnm s = 3 → x.2 < tq B n (vlp B n (lnP B n k) 2)) : mfl B n k s fp = x := by
  unfold mfl
  rw [h]
  by_cases e : nnm s = 3
  · rw [decide_eq_true e]
    exact chk_k hx (h3 e)
  · rw [decide_eq_false e]
    rfl
theorem mfl_3 {k s : Nat} {fp x : Nat × Nat} (h : mf3 B n k s fp = x) (hx : x.1 ≠ 0) (h2 : x.2 < tq B n (vlp B n (lnP B n k) 1)) (h3 : nnm s = 3 → x.2 < tq B n (vlp B n (lnP B n k) 2)) : mfl B n k s fp = x := by
  refine mfl_4 ?_ hx h3
  unfold mf4
  rw [h]
  exact chk_k hx h2
theorem mfl_k {k s : Nat} {fp : Nat × Nat} (h : fp.1 ≠ 0) (h0 : fp.2 < tq B n (lnP B n k)) (h1 : tq B n (lnP B n k) < tq B n (vlp B n (lnP B n k) 0)) (h2 : tq B n (vlp B n (lnP B n k) 0) < tq B n (vlp B n (lnP B n k) 1)) (h3 : nnm s = 3 → tq B n (vlp B n (lnP B n k) 1) < tq B n (vlp B n (lnP B n k) 2)) : mfl B n k s fp = fp := by
  have a : ∀ {kk : Nat}, alo fp kk (tq B n (lnP B n k)) = fp := fun {kk} => alo_y ⟨h, Or.inl h0⟩
  have e1 : mf1 B n k s fp = fp := by
    unfold mf1
    rw [a]
    cases decide (lim s ≤ lnC B n s k) <;> rfl
  have e2 : mf2 B n k s fp = fp := by
    unfold mf2
    rw [e1]
    exact chk_k h (by omega)
  have e3 : mf3 B n k s fp = fp := by
    unfold mf3
    rw [e2, a]
    cases (decide (s = 1) && lfB B n (vln B n (lnP B n k) 0) k) <;> rfl
  exact mfl_3 e3 h (by omega) (fun e => by have := h3 e; omega)
theorem mfl_0 {k s : Nat} {fp : Nat × Nat} (hs : slt B n (lnP B n k) = s) (h : fp.1 = 0) (h1 : tq B n (lnP B n k) < tq B n (vlp B n (lnP B n k) 0)) (h2 : tq B n (vlp B n (lnP B n k) 0) < tq B n (vlp B n (lnP B n k) 1)) (h3 : nnm s = 3 → tq B n (vlp B n (lnP B n k) 1) < tq B n (vlp B n (lnP B n k) 2)) : (mfl B n k s fp).1 = (flt B n k).1 ∧ ((flt B n k).1 ≠ 0 → (mfl B n k s fp).2 = (flt B n k).2) := by
  have fin : ∀ x, mfl B n k s fp = x → flt B n k = x → (mfl B n k s fp).1 = (flt B n k).1 ∧ ((flt B n k).1 ≠ 0 → (mfl B n k s fp).2 = (flt B n k).2) := fun x e q => by
    rw [e, q]
    exact ⟨rfl, fun _ => rfl⟩
  have n0 : ∀ {kk at_ : Nat}, alo fp kk at_ = (kk, at_) := fun {kk at_} => alo_n (fun z => z.1 h)
  by_cases e : lim s ≤ lnC B n s k
  · have m1 : mf1 B n k s fp = (3, tq B n (lnP B n k)) := by
      unfold mf1
      rw [decide_eq_true e]
      exact n0
    have m2 : mf2 B n k s fp = (3, tq B n (lnP B n k)) := by
      unfold mf2
      rw [m1]
      exact chk_k (by show (3 : Nat) ≠ 0; decide) h1
    have m3 : mf3 B n k s fp = (3, tq B n (lnP B n k)) := by
      unfold mf3
      rw [m2, alo_y (fp := (3, tq B n (lnP B n k))) ⟨by show (3 : Nat) ≠ 0; decide, Or.inr ⟨rfl, Nat.le_refl _⟩⟩]
      cases (decide (s = 1) && lfB B n (vln B n (lnP B n k) 0) k) <;> rfl
    exact fin _ (mfl_3 m3 (by show (3 : Nat) ≠ 0; decide) (by show tq B n (lnP B n k) < _; omega) (fun z => by have := h3 z; show tq B n (lnP B n k) < _; omega)) (flt_3a hs e)
  · have m1 : mf1 B n k s fp = fp := by
      unfold mf1
      rw [decide_eq_false e]
      rfl
    by_cases l : s = 1 ∧ lfB B n (vln B n (lnP B n k) 0) k = true
    · have m3 : mf3 B n k s fp = (3, tq B n (lnP B n k)) := by
        unfold mf3 mf2
        rw [m1, decide_eq_true l.1, l.2]
        show alo (chk fp (lst0 s) (grt0 s) (vln B n (lnP B n k) 0) (tq B n (vlp B n (lnP B n k) 0))) 3 (tq B n (lnP B n k)) = _
        by_cases a : lst0 s ≤ vln B n (lnP B n k) 0 ∧ vln B n (lnP B n k) 0 ≤ grt0 s
        · rw [chk_y a]
          exact n0
        · rw [chk_n a, n0]
          refine alo_n (fun z => ?_)
          have z := z.2
          have z : tq B n (vlp B n (lnP B n k) 0) < tq B n (lnP B n k) ∨ (tq B n (vlp B n (lnP B n k) 0) = tq B n (lnP B n k) ∧ 2 ≤ 3) := z
          omega
      exact fin _ (mfl_3 m3 (by show (3 : Nat) ≠ 0; decide) (by show tq B n (lnP B n k) < _; omega) (fun z => by have := h3 z; show tq B n (lnP B n k) < _; omega)) (flt_3b (hs.trans l.1) l.2)
    · have l' : s = 1 → lfB B n (vln B n (lnP B n k) 0) k = false := fun z => by
        cases y : lfB B n (vln B n (lnP B n k) 0) k with
        | false => rfl
        | true => exact absurd ⟨z, y⟩ l
      have lb : (decide (s = 1) && lfB B n (vln B n (lnP B n k) 0) k) = false := by
        by_cases z : s = 1
        · rw [l' z, Bool.and_false]
        · rw [decide_eq_false z, Bool.false_and]
      have m3 : mf3 B n k s fp = mf2 B n k s fp := by
        unfold mf3
        rw [lb]
        rfl
      by_cases a : lst0 s ≤ vln B n (lnP B n k) 0 ∧ vln B n (lnP B n k) 0 ≤ grt0 s
      · have m2 : mf2 B n k s fp = fp := by
          unfold mf2
          rw [m1]
          exact chk_y a
        by_cases b : lst1 s ≤ vln B n (lnP B n k) 1 ∧ vln B n (lnP B n k) 1 ≤ grt1 s
        · have m4 : mf4 B n k s fp = fp := by
            unfold mf4
            rw [m3, m2]
            exact chk_y b
          by_cases c3 : nnm s = 3
          · by_cases d : 1 ≤ vln B n (lnP B n k) 2 ∧ vln B n (lnP B n k) 2 ≤ grt2 s
            · have m5 : mfl B n k s fp = fp := by
                unfold mfl
                rw [m4, decide_eq_true c3]
                exact chk_y d
              rw [m5, flt_ok hs e l' a b (fun _ => d)]
              exact ⟨h, fun z => absurd rfl z⟩
            · refine fin (2, tq B n (vlp B n (lnP B n k) 2)) ?_ (flt_2 hs e l' a b c3 d)
              unfold mfl
              rw [m4, decide_eq_true c3]
              show chk fp 1 (grt2 s) (vln B n (lnP B n k) 2) (tq B n (vlp B n (lnP B n k) 2)) = _
              rw [chk_n d]
              exact n0
          · have m5 : mfl B n k s fp = fp := by
              unfold mfl
              rw [m4, decide_eq_false c3]
              rfl
            rw [m5, flt_ok hs e l' a b (fun z => absurd z c3)]
            exact ⟨h, fun z => absurd rfl z⟩
        · refine fin (2, tq B n (vlp B n (lnP B n k) 1)) (mfl_4 ?_ (by show (2 : Nat) ≠ 0; decide) h3) (flt_1 hs e l' a b)
          unfold mf4
          rw [m3, m2, chk_n b]
          exact n0
      · have m2 : mf2 B n k s fp = (2, tq B n (vlp B n (lnP B n k) 0)) := by
          unfold mf2
          rw [m1, chk_n a]
          exact n0
        exact fin _ (mfl_3 (m3.trans m2) (by show (2 : Nat) ≠ 0; decide) h2 (fun z => by have := h3 z; show tq B n (vlp B n (lnP B n k) 0) < _; omega)) (flt_0 hs e l' a)
theorem tk2_of (h : tkd B n p = 2) : tq B n p < n ∧ tf B n p = prn cD B n (tq B n p) ∧ tf B n p - tq B n p ≤ 4 := by
  by_cases e : n ≤ tq B n p
  · have := (tk_end e).1
    omega
  · have e : tq B n p < n := by omega
    cases hl : cL (B (tq B n p)) with
    | true =>
      have := (tk_word e hl).1
      omega
    | false =>
      cases hd : cD (B (tq B n p)) with
      | true =>
        obtain ⟨k1, k2⟩ := tk_num e hl hd
        refine ⟨e, k2, ?_⟩
        rw [h] at k1
        split at k1 <;> omega
      | false =>
        have k := (tk_sign e hl hd).1
        rw [h] at k
        split at k <;> omega
theorem tnu_le (h : tkd B n p = 2) : tnu B n p ≤ 9999 := by
  obtain ⟨h1, h2, h3⟩ := tk2_of h
  unfold tnu
  refine (dgv_le _ (fun j hj => ?_) (by omega)).1
  exact (cD_of (prn_all (c := cD) (B := B) (n := n) (p := tq B n p) (j := tq B n p + j) (by omega) (by omega)).2).2
theorem srt_wix {v : Nat} : srt v = if wixF v ≤ 6 then wixF v else 7 := by
  unfold srt wixF
  repeat' split
  all_goals omega
theorem flt_in {k : Nat} (h : (flt B n k).1 ≠ 0) : (flt B n k).2 = tq B n (lnP B n k) ∨ (flt B n k).2 = tq B n (vlp B n (lnP B n k) 0) ∨ (flt B n k).2 = tq B n (vlp B n (lnP B n k) 1) ∨ (nnm (slt B n (lnP B n k)) = 3 ∧ (flt B n k).2 = tq B n (vlp B n (lnP B n k) 2)) := by
  unfold flt at h ⊢
  generalize (decide (lim (slt B n (lnP B n k)) ≤ lnC B n (slt B n (lnP B n k)) k) || (decide (slt B n (lnP B n k) = 1) && lfB B n (vln B n (lnP B n k) 0) k)) = b1 at h ⊢
  generalize inb (lst0 (slt B n (lnP B n k))) (grt0 (slt B n (lnP B n k))) (vln B n (lnP B n k) 0) = b2 at h ⊢
  generalize inb (lst1 (slt B n (lnP B n k))) (grt1 (slt B n (lnP B n k))) (vln B n (lnP B n k) 1) = b3 at h ⊢
  cases b1 with
  | true => exact Or.inl rfl
  | false =>
    cases b2 with
    | false => exact Or.inr (Or.inl rfl)
    | true =>
      cases b3 with
      | false => exact Or.inr (Or.inr (Or.inl rfl))
      | true =>
        by_cases e : nnm (slt B n (lnP B n k)) = 3
        · rw [decide_eq_true e] at h ⊢
          cases y : inb 1 (grt2 (slt B n (lnP B n k))) (vln B n (lnP B n k) 2) with
          | false => exact Or.inr (Or.inr (Or.inr ⟨e, rfl⟩))
          | true =>
            rw [y] at h
            exact absurd rfl h
        · rw [decide_eq_false e] at h
          exact absurd rfl h
/-- a fault stands ahead of what is still to be read -/
theorem flA_pl {k q : Nat} (h0 : (flA B n k).1 ≠ 0 → (flA B n k).2 < tq B n (lnP B n k)) (h1 : tq B n (lnP B n k) < tq B n (vlp B n (lnP B n k) 0)) (h2 : tq B n (vlp B n (lnP B n k) 0) < tq B n (vlp B n (lnP B n k) 1)) (h3 : nnm (slt B n (lnP B n k)) = 3 → tq B n (vlp B n (lnP B n k) 1) < tq B n (vlp B n (lnP B n k) 2)) (hq : tq B n (vlp B n (lnP B n k) 1) < q) (hq3 : nnm (slt B n (lnP B n k)) = 3 → tq B n (vlp B n (lnP B n k) 2) < q) : (flA B n (k + 1)).1 ≠ 0 → (flA B n (k + 1)).2 < q := by
  intro h
  by_cases e : (flA B n k).1 = 0
  · rw [flA_y e] at h ⊢
    rcases flt_in h with z | z | z | ⟨y, z⟩
    · omega
    · omega
    · omega
    · have := hq3 y
      omega
  · rw [flA_n e]
    have := h0 e
    omega
/-- the model's order of faults comes to the same -/
theorem mfl_A {k s : Nat} (hs : slt B n (lnP B n k) = s) (h0 : (flA B n k).1 ≠ 0 → (flA B n k).2 < tq B n (lnP B n k)) (h1 : tq B n (lnP B n k) < tq B n (vlp B n (lnP B n k) 0)) (h2 : tq B n (vlp B n (lnP B n k) 0) < tq B n (vlp B n (lnP B n k) 1)) (h3 : nnm s = 3 → tq B n (vlp B n (lnP B n k) 1) < tq B n (vlp B n (lnP B n k) 2)) : (mfl B n k s (flA B n k)).1 = (flA B n (k + 1)).1 ∧ ((flA B n (k + 1)).1 ≠ 0 → (mfl B n k s (flA B n k)).2 = (flA B n (k + 1)).2) := by
  by_cases e : (flA B n k).1 = 0
  · rw [flA_y e]
    exact mfl_0 hs e h1 h2 h3
  · rw [flA_n e, mfl_k e (h0 e) h1 h2 h3]
    exact ⟨rfl, fun _ => rfl⟩
theorem wixF_7 {v : Nat} : wixF v = 7 ↔ v = 277892 := by
  refine ⟨fun h => ?_, fun h => by rw [h]; rfl⟩
  unfold wixF at h
  repeat' split at h
  all_goals omega
theorem wixF_8 {v : Nat} : wixF v = 8 ↔ v = 20325509 := by
  refine ⟨fun h => ?_, fun h => by rw [h]; rfl⟩
  unfold wixF at h
  repeat' split at h
  all_goals omega
theorem glw : (twk B n p = 277892 ↔ tkd B n p = 1 ∧ wix 0 (twk B n p) = 7) ∧ (twk B n p = 20325509 ↔ tkd B n p = 1 ∧ wix 0 (twk B n p) = 8) := by
  have k : ∀ {c : Nat}, c ≠ 0 → twk B n p = c → tkd B n p = 1 := fun {c} hc h => by
    by_cases e : tkd B n p = 1
    · exact e
    · rw [twk_0 e] at h
      exact absurd h.symm hc
  exact ⟨⟨fun h => ⟨k (by decide) h, wixF_7.mpr h⟩, fun h => wixF_7.mp h.2⟩, ⟨fun h => ⟨k (by decide) h, wixF_8.mpr h⟩, fun h => wixF_8.mp h.2⟩⟩
theorem lnC_k {s k : Nat} : lnC B n s k ≤ k := by
  induction k with
  | zero => exact Nat.le_refl _
  | succ k ih =>
    show lnC B n s k + (if slt B n (lnP B n k) = s then 1 else 0) ≤ k + 1
    split <;> omega
/-- where there is a fault already, a life told before changes nothing -/
theorem mf3_b {k s : Nat} (h : (flA B n k).1 ≠ 0 ∨ lim s ≤ lnC B n s k) (zp : (flA B n k).1 ≠ 0 → (flA B n k).2 < tq B n (lnP B n k)) (o1 : tq B n (lnP B n k) < tq B n (vlp B n (lnP B n k) 0)) : alo (mf2 B n k s (flA B n k)) 3 (tq B n (lnP B n k)) = mf2 B n k s (flA B n k) := by
  by_cases f0 : (flA B n k).1 = 0
  · have hm : lim s ≤ lnC B n s k := h.resolve_left (fun z => z f0)
    have m1 : mf1 B n k s (flA B n k) = (3, tq B n (lnP B n k)) := by
      unfold mf1
      rw [decide_eq_true hm]
      exact alo_n (fun z => z.1 f0)
    have m2 : mf2 B n k s (flA B n k) = (3, tq B n (lnP B n k)) := by
      unfold mf2
      rw [m1]
      exact chk_k (by show (3 : Nat) ≠ 0; decide) o1
    rw [m2]
    exact alo_y ⟨by show (3 : Nat) ≠ 0; decide, Or.inr ⟨rfl, Nat.le_refl _⟩⟩
  · have zp := zp f0
    have a : alo (flA B n k) 3 (tq B n (lnP B n k)) = flA B n k := alo_y ⟨f0, Or.inl zp⟩
    have m1 : mf1 B n k s (flA B n k) = flA B n k := by
      unfold mf1
      rw [a]
      cases decide (lim s ≤ lnC B n s k) <;> rfl
    have m2 : mf2 B n k s (flA B n k) = flA B n k := by
      unfold mf2
      rw [m1]
      exact chk_k f0 (by omega)
    rw [m2]
    exact a
end XPF
