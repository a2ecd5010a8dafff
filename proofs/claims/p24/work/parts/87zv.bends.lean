/-- without sign -/
def iab (x : Int64) : Int64 := if 0 < x then x else -x
section XBD
variable {r o r' o' : Nat → Nat} {n p q : Nat}
def bT (r o : Nat → Nat) (p : Nat) : Nat := r (4 * o p)
def bS (r o : Nat → Nat) (p : Nat) : Nat := r (4 * o p + 1)
def bM (r o : Nat → Nat) (p : Nat) : Nat := r (4 * o p + 2)
/-- the first layer of the block -/
def bfs (r : Nat → Nat) : Nat → Nat
  | 0 => 0
  | p + 1 => if r (4 * p + 3) = 1 then p + 1 else bfs r p
/-- heights -/
def bhg (r o : Nat → Nat) : Nat → Nat
  | 0 => 0
  | p + 1 => bhg r o p + bT r o p
def bt1 (r o : Nat → Nat) (p : Nat) : Nat := bT r o p * bS r o p * (2 * bhg r o p + bT r o p)
def bt2 (r o : Nat → Nat) (p : Nat) : Nat := 2 * (bT r o p * bS r o p)
/-- the sums of a block, up to a layer -/
def bsm' (r : Nat → Nat) (f : Nat → Nat) : Nat → Nat
  | 0 => 0 + f 0
  | p + 1 => (if r (4 * p + 3) = 1 then 0 else bsm' r f p) + f (p + 1)
/-- the rows of sums behind p layers -/
def bA (r : Nat → Nat) (f : Nat → Nat) : Nat → Nat → Nat
  | 0, _ => 0
  | p + 1, s => if s = bfs r p then bsm' r f p else bA r f p s
def bO (r o : Nat → Nat) (n p : Nat) : Nat := bA r (bt1 r o) n (bfs r p)
def bU (r o : Nat → Nat) (n p : Nat) : Nat := bA r (bt2 r o) n (bfs r p)
def blo (r o : Nat → Nat) (n p : Nat) : Int64 := lN (bhg r o p * bU r o n p) - lN (bO r o n p)
def bhi (r o : Nat → Nat) (n p : Nat) : Int64 := blo r o n p + lN (bT r o p * bU r o n p)
/-- how far the further face is -/
def bfr (r o : Nat → Nat) (n p : Nat) : Int64 := if iab (bhi r o n p) < iab (blo r o n p) then blo r o n p else bhi r o n p
/-! the same layers in the same order: the same sums -/
def bEq (r o r' o' : Nat → Nat) (n : Nat) : Prop := (∀ j, j < 4 * n → r' j = r j) ∧ ∀ q, q < n → o' q = o q ∧ o q < n
theorem bT_cg (h : bEq r o r' o' n) (hp : p < n) : bT r' o' p = bT r o p ∧ bS r' o' p = bS r o p ∧ bM r' o' p = bM r o p := by
  obtain ⟨h1, h2⟩ := h
  obtain ⟨a, b⟩ := h2 p hp
  unfold bT bS bM
  rw [a]
  exact ⟨h1 _ (by omega), h1 _ (by omega), h1 _ (by omega)⟩
theorem bfs_cg (h : bEq r o r' o' n) (hp : p < n) : bfs r' p = bfs r p := by
  induction p with
  | zero => rfl
  | succ p ih =>
    show (if r' (4 * p + 3) = 1 then p + 1 else bfs r' p) = (if r (4 * p + 3) = 1 then p + 1 else bfs r p)
    rw [h.1 _ (by omega), ih (by omega)]
theorem bhg_cg (h : bEq r o r' o' n) (hp : p ≤ n) : bhg r' o' p = bhg r o p := by
  induction p with
  | zero => rfl
  | succ p ih =>
    show bhg r' o' p + bT r' o' p = bhg r o p + bT r o p
    rw [ih (by omega), (bT_cg h (by omega)).1]
theorem bt_cg (h : bEq r o r' o' n) (hp : p < n) : bt1 r' o' p = bt1 r o p ∧ bt2 r' o' p = bt2 r o p := by
  obtain ⟨a, b, -⟩ := bT_cg h hp
  unfold bt1 bt2
  rw [a, b, bhg_cg h (by omega)]
  exact ⟨rfl, rfl⟩
theorem bsm_cg {f f' : Nat → Nat} (h : bEq r o r' o' n) (hf : ∀ q, q < n → f' q = f q) (hp : p < n) : bsm' r' f' p = bsm' r f p := by
  induction p with
  | zero =>
    show 0 + f' 0 = 0 + f 0
    rw [hf 0 hp]
  | succ p ih =>
    show (if r' (4 * p + 3) = 1 then 0 else bsm' r' f' p) + f' (p + 1) = (if r (4 * p + 3) = 1 then 0 else bsm' r f p) + f (p + 1)
    rw [h.1 _ (by omega), ih (by omega), hf _ hp]
theorem bA_cg {f f' : Nat → Nat} {k s : Nat} (h : bEq r o r' o' n) (hf : ∀ q, q < n → f' q = f q) (hk : k ≤ n) : bA r' f' k s = bA r f k s := by
  induction k with
  | zero => rfl
  | succ k ih =>
    show (if s = bfs r' k then bsm' r' f' k else bA r' f' k s) = (if s = bfs r k then bsm' r f k else bA r f k s)
    rw [bfs_cg h (by omega), bsm_cg h hf (by omega), ih (by omega)]
theorem bOU_cg (h : bEq r o r' o' n) (hp : p < n) : bO r' o' n p = bO r o n p ∧ bU r' o' n p = bU r o n p := by
  unfold bO bU
  rw [bfs_cg h hp]
  exact ⟨bA_cg h (fun q hq => (bt_cg h hq).1) (Nat.le_refl _), bA_cg h (fun q hq => (bt_cg h hq).2) (Nat.le_refl _)⟩
theorem bfr_cg (h : bEq r o r' o' n) (hp : p < n) : bfr r' o' n p = bfr r o n p := by
  have a : blo r' o' n p = blo r o n p := by
    unfold blo
    rw [bhg_cg h (by omega), (bOU_cg h hp).1, (bOU_cg h hp).2]
  have b : bhi r' o' n p = bhi r o n p := by
    unfold bhi
    rw [a, (bT_cg h hp).1, (bOU_cg h hp).2]
  unfold bfr
  rw [a, b]
end XBD
/-! what is asked of the bend -/
def bdw (w : List (List xE)) (r o : Nat → Nat) (n : Nat) : Prop := ∀ q, q < n → rwv w 52 q = bfs r q ∧ rwv w 51 q = bhg r o q ∧ rwk w 53 (bfs r q) = bO r o n q ∧ rwk w 54 (bfs r q) = bU r o n q ∧ lN (rwk w 55 q) = bfr r o n q
def bdm (w : List (List xE)) (r o : Nat → Nat) (n : Nat) : Prop := ∀ q, q < n → rwv w 91 q = bfs r q ∧ rwv w 90 q = bhg r o q ∧ rwk w 92 q = bO r o n q ∧ rwk w 93 q = bU r o n q ∧ lN (rwk w 94 q) = bfr r o n q
section XBQ
variable {M U M' U' : Nat → Nat} {F F' : Nat → Int64} {n p : Nat}
end XBQ
theorem bdw.kp {w w' : List (List xE)} {r o : Nat → Nat} {n : Nat} (h : bdw w r o n) (e : ∀ c, 50 ≤ c → c < 56 → wget w' c = wget w c) : bdw w' r o n := by
  intro q hq
  obtain ⟨a1, a2, a3, a4, a5⟩ := h q hq
  exact ⟨(rwv_eq (e 52 (by decide) (by decide))).trans a1, (rwv_eq (e 51 (by decide) (by decide))).trans a2, (rwk_eq (e 53 (by decide) (by decide))).trans a3, (rwk_eq (e 54 (by decide) (by decide))).trans a4, by rw [rwk_eq (e 55 (by decide) (by decide))]; exact a5⟩
theorem bdm.kp {w w' : List (List xE)} {r o : Nat → Nat} {n : Nat} (h : bdm w r o n) (e : ∀ c, 88 ≤ c → c < 95 → wget w' c = wget w c) : bdm w' r o n := by
  intro q hq
  obtain ⟨a1, a2, a3, a4, a5⟩ := h q hq
  exact ⟨(rwv_eq (e 91 (by decide) (by decide))).trans a1, (rwv_eq (e 90 (by decide) (by decide))).trans a2, (rwk_eq (e 92 (by decide) (by decide))).trans a3, (rwk_eq (e 93 (by decide) (by decide))).trans a4, by rw [rwk_eq (e 94 (by decide) (by decide))]; exact a5⟩