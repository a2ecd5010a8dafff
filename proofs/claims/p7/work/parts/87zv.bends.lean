/-! the bend: layers laid in an order, numbers alone -/
theorem xpt_one : xpt 1 = 1 := by
  have h : nI (xpt 1) = nI 1 := xpt_eq 1
  exact (xeq_iff (xpt_lt 1) (by decide)).mp h
theorem xpt_neg1 : xpt (-1) = 4294967295 := by
  have h : nI (xpt (-1)) = nI 4294967295 := (xpt_eq (-1)).trans (by decide)
  exact (xeq_iff (xpt_lt (-1)) (by decide)).mp h
theorem xlq_gt {u v : Nat} (h : lN v < lN u) : xpt (lg_cmp (lN u) (lN v)) = 1 := by
  have e : lg_cmp (lN u) (lN v) = 1 := if_pos h
  rw [e]
  exact xpt_one
theorem xlq_eq {u v : Nat} (h : lN u = lN v) : xpt (lg_cmp (lN u) (lN v)) = 0 := by
  have e : lg_cmp (lN u) (lN v) = 0 := by
    unfold lg_cmp
    rw [h, if_neg Int64.lt_irrefl, if_pos rfl]
  rw [e]
  exact xpt_zero
theorem xlq_lt {u v : Nat} (h : lN u < lN v) : xpt (lg_cmp (lN u) (lN v)) = 4294967295 := by
  have e : lg_cmp (lN u) (lN v) = -1 := by
    unfold lg_cmp
    rw [if_neg (Int64.lt_asymm h), if_neg (fun z => by rw [z] at h; exact Int64.lt_irrefl h)]
  rw [e]
  exact xpt_neg1
theorem xlc_tri (u v : Nat) : lN u < lN v ∨ lN u = lN v ∨ lN v < lN u := by
  have a := @Int64.lt_iff_toInt_lt (lN u) (lN v)
  have b := @Int64.lt_iff_toInt_lt (lN v) (lN u)
  have c := @Int64.toInt_inj (lN u) (lN v)
  rw [a, b, ← c]
  omega
theorem xlj_ltT {u v : Nat} (h : lN u < lN v) : xjmp 2 (xpt (lg_cmp (lN u) (lN v))) 0 = true := by rw [xlq_lt h]; decide
theorem xlj_geF {u v : Nat} (h : lN u < lN v) : xjmp 3 (xpt (lg_cmp (lN u) (lN v))) 0 = false := by rw [xlq_lt h]; decide
theorem xlj_ltF {u v : Nat} (h : ¬ lN u < lN v) : xjmp 2 (xpt (lg_cmp (lN u) (lN v))) 0 = false := by
  rcases xlc_tri u v with z | z | z
  · exact absurd z h
  · rw [xlq_eq z]; decide
  · rw [xlq_gt z]; decide
theorem xlj_geT {u v : Nat} (h : ¬ lN u < lN v) : xjmp 3 (xpt (lg_cmp (lN u) (lN v))) 0 = true := by
  rcases xlc_tri u v with z | z | z
  · exact absurd z h
  · rw [xlq_eq z]; decide
  · rw [xlq_gt z]; decide
theorem xlj_gtT {u v : Nat} (h : lN v < lN u) : xjmp 4 (xpt (lg_cmp (lN u) (lN v))) 0 = true := by rw [xlq_gt h]; decide
theorem xlj_leF {u v : Nat} (h : lN v < lN u) : xjmp 5 (xpt (lg_cmp (lN u) (lN v))) 0 = false := by rw [xlq_gt h]; decide
theorem xlj_gtF {u v : Nat} (h : ¬ lN v < lN u) : xjmp 4 (xpt (lg_cmp (lN u) (lN v))) 0 = false := by
  rcases xlc_tri u v with z | z | z
  · rw [xlq_lt z]; decide
  · rw [xlq_eq z]; decide
  · exact absurd z h
theorem xlj_leT {u v : Nat} (h : ¬ lN v < lN u) : xjmp 5 (xpt (lg_cmp (lN u) (lN v))) 0 = true := by
  rcases xlc_tri u v with z | z | z
  · rw [xlq_lt z]; decide
  · rw [xlq_eq z]; decide
  · exact absurd z h
theorem xlj_eqT {u v : Nat} (h : lN u = lN v) : xjmp 0 (xpt (lg_cmp (lN u) (lN v))) 0 = true := by rw [xlq_eq h]; decide
theorem xlj_neF {u v : Nat} (h : lN u = lN v) : xjmp 1 (xpt (lg_cmp (lN u) (lN v))) 0 = false := by rw [xlq_eq h]; decide
theorem xlj_eqF {u v : Nat} (h : ¬ lN u = lN v) : xjmp 0 (xpt (lg_cmp (lN u) (lN v))) 0 = false := by
  rcases xlc_tri u v with z | z | z
  · rw [xlq_lt z]; decide
  · exact absurd z h
  · rw [xlq_gt z]; decide
theorem xlj_neT {u v : Nat} (h : ¬ lN u = lN v) : xjmp 1 (xpt (lg_cmp (lN u) (lN v))) 0 = true := by
  rcases xlc_tri u v with z | z | z
  · rw [xlq_lt z]; decide
  · exact absurd z h
  · rw [xlq_gt z]; decide
theorem xg_klE {d p0 p1 : Nat} {M : xM} {cs cs1 : List xI} {lo l1 : xLo} {st st1 : List xV} {hp : xH} {P : xS → Prop} {v : Int64} (h : xLd d M (p0, cs, lo, st, hp) [(p1, cs1, l1, (4, xlp v) :: st1, hp)]) (K : ∀ z, lN z = v → xTo d M (p1, cs1, l1, (4, z) :: st1, hp) P) : xTo d M (p0, cs, lo, st, hp) P := xg_t h (K _ (xlp_eq v))
/-- without sign -/
def iab (x : Int64) : Int64 := if 0 < x then x else -x
theorem iab_neg {x : Int64} (h : x < 0) : iab x = -x := if_neg (Int64.lt_asymm h)
theorem iab_nn {x : Int64} (h : ¬ x < 0) : iab x = x := by
  unfold iab
  by_cases z : 0 < x
  · rw [if_pos z]
  · have e : x = 0 := by
      rw [← Int64.toInt_inj]
      rw [Int64.lt_iff_toInt_lt] at h z
      omega
    rw [if_neg z, e, Int64.neg_zero]
section XBD
variable {r o r' o' : Nat → Nat} {n p q : Nat}
def bT (r o : Nat → Nat) (p : Nat) : Nat := r (4 * o p)
def bS (r o : Nat → Nat) (p : Nat) : Nat := r (4 * o p + 1)
def bM (r o : Nat → Nat) (p : Nat) : Nat := r (4 * o p + 2)
/-- the first layer of the block -/
def bfs (r : Nat → Nat) : Nat → Nat
  | 0 => 0
  | p + 1 => if r (4 * p + 3) = 1 then p + 1 else bfs r p
/-- heights -/
def bhg (r o : Nat → Nat) : Nat → Nat
  | 0 => 0
  | p + 1 => bhg r o p + bT r o p
def bt1 (r o : Nat → Nat) (p : Nat) : Nat := bT r o p * bS r o p * (2 * bhg r o p + bT r o p)
def bt2 (r o : Nat → Nat) (p : Nat) : Nat := 2 * (bT r o p * bS r o p)
/-- the sums of a block, up to a layer -/
def bsm' (r : Nat → Nat) (f : Nat → Nat) : Nat → Nat
  | 0 => 0 + f 0
  | p + 1 => (if r (4 * p + 3) = 1 then 0 else bsm' r f p) + f (p + 1)
/-- the rows of sums behind p layers -/
def bA (r : Nat → Nat) (f : Nat → Nat) : Nat → Nat → Nat
  | 0, _ => 0
  | p + 1, s => if s = bfs r p then bsm' r f p else bA r f p s
def bO (r o : Nat → Nat) (n p : Nat) : Nat := bA r (bt1 r o) n (bfs r p)
def bU (r o : Nat → Nat) (n p : Nat) : Nat := bA r (bt2 r o) n (bfs r p)
def blo (r o : Nat → Nat) (n p : Nat) : Int64 := lN (bhg r o p * bU r o n p) - lN (bO r o n p)
def bhi (r o : Nat → Nat) (n p : Nat) : Int64 := blo r o n p + lN (bT r o p * bU r o n p)
/-- how far the further face is -/
def bfr (r o : Nat → Nat) (n p : Nat) : Int64 := if iab (bhi r o n p) < iab (blo r o n p) then blo r o n p else bhi r o n p
theorem bhi_eq : lN ((bhg r o p + bT r o p) * bU r o n p) - lN (bO r o n p) = bhi r o n p := by
  unfold bhi blo
  rw [Nat.add_mul, ← lN_add, Int64.sub_eq_add_neg, Int64.sub_eq_add_neg, Int64.add_assoc, Int64.add_assoc, Int64.add_comm (lN (bT r o p * bU r o n p))]
theorem bhg_le (h : ∀ q, q < p → bT r o q ≤ 99) : bhg r o p ≤ 99 * p := by
  induction p with
  | zero => exact Nat.le_refl _
  | succ p ih =>
    have a := ih (fun q hq => h q (by omega))
    have b := h p (by omega)
    show bhg r o p + bT r o p ≤ 99 * (p + 1)
    omega
theorem bfs_le : bfs r p ≤ p := by
  induction p with
  | zero => exact Nat.le_refl _
  | succ p ih =>
    show (if r (4 * p + 3) = 1 then p + 1 else bfs r p) ≤ p + 1
    split
    · exact Nat.le_refl _
    · omega
theorem bfs_y (h : r (4 * p + 3) = 1) : bfs r (p + 1) = p + 1 := if_pos h
theorem bfs_n (h : ¬ r (4 * p + 3) = 1) : bfs r (p + 1) = bfs r p := if_neg h
theorem bA_p {f : Nat → Nat} : bA r f (p + 1) (bfs r p) = bsm' r f p := if_pos rfl
/-- a layer more: what holds of the rows of first layers, heights, sums -/
theorem bd_step {F H O U F' H' O' U' : Nat → Nat} (h : ∀ q, q < p → F q = bfs r q ∧ H q = bhg r o q ∧ O (bfs r q) = bA r (bt1 r o) p (bfs r q) ∧ U (bfs r q) = bA r (bt2 r o) p (bfs r q)) (f1 : F' p = bfs r p) (f2 : ∀ q, q < p → F' q = F q) (h1 : H' p = bhg r o p) (h2 : ∀ q, q < p → H' q = H q) (o1 : O' (bfs r p) = bsm' r (bt1 r o) p) (o2 : ∀ s, s < p → s ≠ bfs r p → O' s = O s) (u1 : U' (bfs r p) = bsm' r (bt2 r o) p) (u2 : ∀ s, s < p → s ≠ bfs r p → U' s = U s) : ∀ q, q < p + 1 → F' q = bfs r q ∧ H' q = bhg r o q ∧ O' (bfs r q) = bA r (bt1 r o) (p + 1) (bfs r q) ∧ U' (bfs r q) = bA r (bt2 r o) (p + 1) (bfs r q) := by
  intro q hq
  by_cases e : q = p
  · subst e
    exact ⟨f1, h1, o1.trans bA_p.symm, u1.trans bA_p.symm⟩
  · obtain ⟨a1, a2, a3, a4⟩ := h q (by omega)
    refine ⟨(f2 q (by omega)).trans a1, (h2 q (by omega)).trans a2, ?_, ?_⟩
    · by_cases y : bfs r q = bfs r p
      · rw [y]
        exact o1.trans bA_p.symm
      · have hl := bfs_le (r := r) (p := q)
        rw [o2 _ (by omega) y, a3]
        exact (if_neg y).symm
    · by_cases y : bfs r q = bfs r p
      · rw [y]
        exact u1.trans bA_p.symm
      · have hl := bfs_le (r := r) (p := q)
        rw [u2 _ (by omega) y, a4]
        exact (if_neg y).symm
/-- the sum where a block begins, and where it goes on -/
theorem bs_0 {f : Nat → Nat} {z t : Nat} (hp : p = 0) (hz : z = 0) (ht : t = f p) : z + t = bsm' r f p := by
  subst hp hz ht
  rfl
theorem bs_y {f : Nat → Nat} {z t : Nat} (hp : ¬ p = 0) (h : r (4 * (p - 1) + 3) = 1) (hz : z = 0) (ht : t = f p) : z + t = bsm' r f p ∧ bfs r p = p := by
  obtain ⟨k, rfl⟩ : ∃ k, p = k + 1 := ⟨p - 1, by omega⟩
  rw [Nat.add_sub_cancel] at h
  subst hz ht
  refine ⟨?_, bfs_y h⟩
  show _ = (if r (4 * k + 3) = 1 then 0 else bsm' r f k) + f (k + 1)
  rw [if_pos h]
theorem bs_n {f : Nat → Nat} {z t : Nat} (hp : ¬ p = 0) (h : ¬ r (4 * (p - 1) + 3) = 1) (hz : z = bA r f p (bfs r (p - 1))) (ht : t = f p) : z + t = bsm' r f p ∧ bfs r p = bfs r (p - 1) := by
  obtain ⟨k, rfl⟩ : ∃ k, p = k + 1 := ⟨p - 1, by omega⟩
  rw [Nat.add_sub_cancel] at h hz ⊢
  subst hz ht
  refine ⟨?_, bfs_n h⟩
  show _ = (if r (4 * k + 3) = 1 then 0 else bsm' r f k) + f (k + 1)
  rw [if_neg h, bA_p]
theorem bfs_idem : bfs r (bfs r p) = bfs r p := by
  induction p with
  | zero => rfl
  | succ p ih =>
    by_cases h : r (4 * p + 3) = 1
    · rw [bfs_y h, bfs_y h]
    · rw [bfs_n h]
      exact ih
theorem bd_copy {f : Nat → Nat} {A A' : Nat → Nat} (h : ∀ q, q < n → A (bfs r q) = bA r f n (bfs r q)) (hp : p < n) (e1 : A' p = A (bfs r p)) (e2 : ∀ s, s < n → s ≠ p → A' s = A s) : ∀ q, q < n → A' (bfs r q) = bA r f n (bfs r q) := by
  intro q hq
  by_cases y : bfs r q = p
  · have z : bfs r p = p := by
      rw [← y]
      exact bfs_idem
    rw [y, e1, h p hp, z]
  · have hl := bfs_le (r := r) (p := q)
    rw [e2 _ (by omega) y]
    exact h q hq
theorem bsm_rg {f : Nat → Nat} {c : Nat} (h : ∀ q, q < n → 1 ≤ f q ∧ f q ≤ c) (hp : p < n) : 1 ≤ bsm' r f p ∧ bsm' r f p ≤ c * (p + 1) := by
  induction p with
  | zero =>
    have a := h 0 hp
    show 1 ≤ 0 + f 0 ∧ 0 + f 0 ≤ c * (0 + 1)
    omega
  | succ p ih =>
    have a := h (p + 1) hp
    have b := ih (by omega)
    show 1 ≤ (if r (4 * p + 3) = 1 then 0 else bsm' r f p) + f (p + 1) ∧ (if r (4 * p + 3) = 1 then 0 else bsm' r f p) + f (p + 1) ≤ c * (p + 1 + 1)
    have e : c * (p + 1 + 1) = c * (p + 1) + c := Nat.mul_succ c (p + 1)
    have g : c * (p + 1) = c * p + c := Nat.mul_succ c p
    split <;> omega
theorem bA_rg {f : Nat → Nat} {c k : Nat} (h : ∀ q, q < n → 1 ≤ f q ∧ f q ≤ c) (hk : k ≤ n) (hp : p < k) : 1 ≤ bA r f k (bfs r p) ∧ bA r f k (bfs r p) ≤ c * n := by
  induction k with
  | zero => omega
  | succ k ih =>
    show 1 ≤ (if bfs r p = bfs r k then bsm' r f k else bA r f k (bfs r p)) ∧ (if bfs r p = bfs r k then bsm' r f k else bA r f k (bfs r p)) ≤ c * n
    by_cases y : bfs r p = bfs r k
    · rw [if_pos y]
      have a := bsm_rg (r := r) h (p := k) (by omega)
      have b : c * (k + 1) ≤ c * n := Nat.mul_le_mul_left c hk
      omega
    · rw [if_neg y]
      have z : p ≠ k := fun e => y (by rw [e])
      exact ih (by omega) (by omega)
theorem bU_rg (h : ∀ q, q < n → (1 ≤ bT r o q ∧ bT r o q ≤ 99) ∧ (1 ≤ bS r o q ∧ bS r o q ≤ 99)) (hp : p < n) (hn : n ≤ 6) : 1 ≤ bU r o n p ∧ bU r o n p ≤ 117612 := by
  have k : ∀ q, q < n → 1 ≤ bt2 r o q ∧ bt2 r o q ≤ 19602 := fun q hq => by
    obtain ⟨⟨a1, a2⟩, b1, b2⟩ := h q hq
    have c1 : 1 * 1 ≤ bT r o q * bS r o q := Nat.mul_le_mul a1 b1
    have c2 : bT r o q * bS r o q ≤ 99 * 99 := Nat.mul_le_mul a2 b2
    unfold bt2
    omega
  have a := bA_rg (r := r) k (Nat.le_refl n) hp
  unfold bU
  omega
/-! the same layers in the same order: the same sums -/
def bEq (r o r' o' : Nat → Nat) (n : Nat) : Prop := (∀ j, j < 4 * n → r' j = r j) ∧ ∀ q, q < n → o' q = o q ∧ o q < n
theorem bT_cg (h : bEq r o r' o' n) (hp : p < n) : bT r' o' p = bT r o p ∧ bS r' o' p = bS r o p ∧ bM r' o' p = bM r o p := by
  obtain ⟨h1, h2⟩ := h
  obtain ⟨a, b⟩ := h2 p hp
  unfold bT bS bM
  rw [a]
  exact ⟨h1 _ (by omega), h1 _ (by omega), h1 _ (by omega)⟩
theorem bfs_cg (h : bEq r o r' o' n) (hp : p < n) : bfs r' p = bfs r p := by
  induction p with
  | zero => rfl
  | succ p ih =>
    show (if r' (4 * p + 3) = 1 then p + 1 else bfs r' p) = (if r (4 * p + 3) = 1 then p + 1 else bfs r p)
    rw [h.1 _ (by omega), ih (by omega)]
theorem bhg_cg (h : bEq r o r' o' n) (hp : p ≤ n) : bhg r' o' p = bhg r o p := by
  induction p with
  | zero => rfl
  | succ p ih =>
    show bhg r' o' p + bT r' o' p = bhg r o p + bT r o p
    rw [ih (by omega), (bT_cg h (by omega)).1]
theorem bt_cg (h : bEq r o r' o' n) (hp : p < n) : bt1 r' o' p = bt1 r o p ∧ bt2 r' o' p = bt2 r o p := by
  obtain ⟨a, b, -⟩ := bT_cg h hp
  unfold bt1 bt2
  rw [a, b, bhg_cg h (by omega)]
  exact ⟨rfl, rfl⟩
theorem bsm_cg {f f' : Nat → Nat} (h : bEq r o r' o' n) (hf : ∀ q, q < n → f' q = f q) (hp : p < n) : bsm' r' f' p = bsm' r f p := by
  induction p with
  | zero =>
    show 0 + f' 0 = 0 + f 0
    rw [hf 0 hp]
  | succ p ih =>
    show (if r' (4 * p + 3) = 1 then 0 else bsm' r' f' p) + f' (p + 1) = (if r (4 * p + 3) = 1 then 0 else bsm' r f p) + f (p + 1)
    rw [h.1 _ (by omega), ih (by omega), hf _ hp]
theorem bA_cg {f f' : Nat → Nat} {k s : Nat} (h : bEq r o r' o' n) (hf : ∀ q, q < n → f' q = f q) (hk : k ≤ n) : bA r' f' k s = bA r f k s := by
  induction k with
  | zero => rfl
  | succ k ih =>
    show (if s = bfs r' k then bsm' r' f' k else bA r' f' k s) = (if s = bfs r k then bsm' r f k else bA r f k s)
    rw [bfs_cg h (by omega), bsm_cg h hf (by omega), ih (by omega)]
theorem bOU_cg (h : bEq r o r' o' n) (hp : p < n) : bO r' o' n p = bO r o n p ∧ bU r' o' n p = bU r o n p := by
  unfold bO bU
  rw [bfs_cg h hp]
  exact ⟨bA_cg h (fun q hq => (bt_cg h hq).1) (Nat.le_refl _), bA_cg h (fun q hq => (bt_cg h hq).2) (Nat.le_refl _)⟩
theorem bfr_cg (h : bEq r o r' o' n) (hp : p < n) : bfr r' o' n p = bfr r o n p := by
  have a : blo r' o' n p = blo r o n p := by
    unfold blo
    rw [bhg_cg h (by omega), (bOU_cg h hp).1, (bOU_cg h hp).2]
  have b : bhi r' o' n p = bhi r o n p := by
    unfold bhi
    rw [a, (bT_cg h hp).1, (bOU_cg h hp).2]
  unfold bfr
  rw [a, b]
end XBD
/-! what is asked of the bend -/
def bdw (w : List (List xE)) (r o : Nat → Nat) (n : Nat) : Prop := ∀ q, q < n → rwv w 52 q = bfs r q ∧ rwv w 51 q = bhg r o q ∧ rwk w 53 (bfs r q) = bO r o n q ∧ rwk w 54 (bfs r q) = bU r o n q ∧ lN (rwk w 55 q) = bfr r o n q
def bdm (w : List (List xE)) (r o : Nat → Nat) (n : Nat) : Prop := ∀ q, q < n → rwv w 91 q = bfs r q ∧ rwv w 90 q = bhg r o q ∧ rwk w 92 q = bO r o n q ∧ rwk w 93 q = bU r o n q ∧ lN (rwk w 94 q) = bfr r o n q
/-- divided; by 0 it is 0 -/
def dvl (a b : Int64) : Int64 := if b = 0 then 0 else a / b
theorem dvl_n {a b : Int64} (h : ¬ b = 0) : a / b = dvl a b := (if_neg h).symm
theorem xpt_nI {k : Nat} (h : k < 4294967296) : xpt (nI k) = k := by
  have e : nI (xpt (nI k)) = nI k := xpt_eq _
  exact (xeq_iff (xpt_lt _) h).mp e
theorem xpt_l2i {k : Nat} (h : k < 2147483648) : xpt (lN k).toInt32 = k := by
  rw [← nI_l h, Int32.toInt32_toInt64]
  exact xpt_nI (by omega)
theorem lN_of {x : Int64} (h0 : 0 ≤ x.toInt) (h1 : x.toInt < 2147483648) : lN (xpt x.toInt32) = x := by
  have e : x = lN x.toInt.toNat := by
    rw [← Int64.toInt_inj, lN_toInt (by omega)]
    omega
  have q := xpt_l2i (k := x.toInt.toNat) (by omega)
  rw [← e] at q
  rw [q]
  exact e.symm
section XBQ
variable {M U M' U' : Nat → Nat} {F F' : Nat → Int64} {n p : Nat}
/-- the least round that a layer bears -/
def brn (M U : Nat → Nat) (F : Nat → Int64) (p : Nat) : Int64 := dvl (lN 1000 * iab (F p) + lN (M p * U p) - lN 1) (lN (M p * U p))
def bcl (M U : Nat → Nat) (F : Nat → Int64) : Nat → Int64
  | 0 => lN 1
  | p + 1 => if brn M U F p < bcl M U F p then bcl M U F p else brn M U F p
noncomputable def bce (M U : Nat → Nat) (F : Nat → Int64) (n : Nat) : Nat := xpt (if lN 10000 < bcl M U F n then lN 10000 else bcl M U F n).toInt32
noncomputable def bml (M U : Nat → Nat) (F : Nat → Int64) : Nat → Nat
  | 0 => 1
  | p + 1 => if lN (bml M U F p) < brn M U F p then (if lN 9999 < brn M U F p then 10000 else xpt (brn M U F p).toInt32) else bml M U F p
theorem bml_ok : (1 ≤ bml M U F n ∧ bml M U F n ≤ 10000) ∧ lN (bml M U F n) = (if lN 10000 < bcl M U F n then lN 10000 else bcl M U F n) := by
  have e1 : (lN 1).toInt = 1 := lN_toInt (by decide)
  have e9 : (lN 9999).toInt = 9999 := lN_toInt (by decide)
  have e0 : (lN 10000).toInt = 10000 := lN_toInt (by decide)
  induction n with
  | zero =>
    refine ⟨⟨Nat.le_refl 1, (show 1 ≤ 10000 by decide)⟩, ?_⟩
    show lN 1 = if lN 10000 < lN 1 then lN 10000 else lN 1
    rw [if_neg (by rw [Int64.lt_iff_toInt_lt, e1, e0]; decide)]
  | succ p ih =>
    obtain ⟨⟨h1, h2⟩, h3⟩ := ih
    show (1 ≤ (if lN (bml M U F p) < brn M U F p then (if lN 9999 < brn M U F p then 10000 else xpt (brn M U F p).toInt32) else bml M U F p) ∧ (if lN (bml M U F p) < brn M U F p then (if lN 9999 < brn M U F p then 10000 else xpt (brn M U F p).toInt32) else bml M U F p) ≤ 10000) ∧ lN (if lN (bml M U F p) < brn M U F p then (if lN 9999 < brn M U F p then 10000 else xpt (brn M U F p).toInt32) else bml M U F p) = (if lN 10000 < (if brn M U F p < bcl M U F p then bcl M U F p else brn M U F p) then lN 10000 else (if brn M U F p < bcl M U F p then bcl M U F p else brn M U F p))
    generalize brn M U F p = r at h3 ⊢
    generalize bcl M U F p = c at h3 ⊢
    generalize bml M U F p = m at h1 h2 h3 ⊢
    have em : (lN m).toInt = m := lN_toInt (by omega)
    have hm : ((10000 : Int) < c.toInt ∧ (m : Int) = 10000) ∨ (¬ (10000 : Int) < c.toInt ∧ (m : Int) = c.toInt) := by
      by_cases y : lN 10000 < c
      · rw [if_pos y] at h3
        have z := congrArg Int64.toInt h3
        rw [em, e0] at z
        rw [Int64.lt_iff_toInt_lt, e0] at y
        exact Or.inl ⟨y, z⟩
      · rw [if_neg y] at h3
        have z := congrArg Int64.toInt h3
        rw [em] at z
        rw [Int64.lt_iff_toInt_lt, e0] at y
        exact Or.inr ⟨y, z⟩
    by_cases a : lN m < r
    · rw [if_pos a]
      have a' := a
      rw [Int64.lt_iff_toInt_lt, em] at a'
      by_cases b : lN 9999 < r
      · rw [if_pos b]
        rw [Int64.lt_iff_toInt_lt, e9] at b
        refine ⟨by decide, ?_⟩
        rw [← Int64.toInt_inj, e0]
        by_cases k : r < c
        · rw [if_pos k]
          have k' := k
          rw [Int64.lt_iff_toInt_lt] at k'
          rw [if_pos (by rw [Int64.lt_iff_toInt_lt, e0]; omega), e0]
        · rw [if_neg k]
          have k' := k
          rw [Int64.lt_iff_toInt_lt] at k'
          by_cases j : lN 10000 < r
          · rw [if_pos j, e0]
          · rw [if_neg j]
            rw [Int64.lt_iff_toInt_lt, e0] at j
            omega
      · rw [if_neg b]
        rw [Int64.lt_iff_toInt_lt, e9] at b
        have q := lN_of (x := r) (by omega) (by omega)
        have q2 := congrArg Int64.toInt q
        have q3 : xpt r.toInt32 ≤ 9999 := by
          have l := xpt_lt r.toInt32
          have s : (lN r.toInt.toNat).toInt = (r.toInt.toNat : Int) := lN_toInt (by omega)
          have t : r = lN r.toInt.toNat := by
            rw [← Int64.toInt_inj, s]
            omega
          have u := xpt_l2i (k := r.toInt.toNat) (by omega)
          rw [← t] at u
          omega
        rw [lN_toInt (by omega)] at q2
        have k : ¬ r < c := by
          rw [Int64.lt_iff_toInt_lt]
          omega
        refine ⟨by omega, ?_⟩
        rw [if_neg k, if_neg (by rw [Int64.lt_iff_toInt_lt, e0]; omega)]
        exact q
    · rw [if_neg a]
      rw [Int64.lt_iff_toInt_lt, em] at a
      refine ⟨⟨h1, h2⟩, ?_⟩
      by_cases k : r < c
      · rw [if_pos k]
        exact h3
      · rw [if_neg k]
        have k' := k
        rw [Int64.lt_iff_toInt_lt] at k'
        have e : r = c := by
          rw [← Int64.toInt_inj]
          omega
        rw [e]
        exact h3
theorem bml_eq : bml M U F n = bce M U F n := by
  obtain ⟨⟨h1, h2⟩, h3⟩ := @bml_ok M U F n
  unfold bce
  rw [← h3]
  exact (xpt_l2i (by omega)).symm
theorem brn_cg (h : ∀ q, q < n → M' q = M q ∧ U' q = U q ∧ F' q = F q) (hp : p < n) : brn M' U' F' p = brn M U F p := by
  obtain ⟨a, b, c⟩ := h p hp
  unfold brn
  rw [a, b, c]
theorem bcl_cg (h : ∀ q, q < n → M' q = M q ∧ U' q = U q ∧ F' q = F q) (hp : p ≤ n) : bcl M' U' F' p = bcl M U F p := by
  induction p with
  | zero => rfl
  | succ p ih =>
    show (if brn M' U' F' p < bcl M' U' F' p then bcl M' U' F' p else brn M' U' F' p) = (if brn M U F p < bcl M U F p then bcl M U F p else brn M U F p)
    rw [ih (by omega), brn_cg h (by omega)]
theorem bce_cg (h : ∀ q, q < n → M' q = M q ∧ U' q = U q ∧ F' q = F q) : bce M' U' F' n = bce M U F n := by
  unfold bce
  rw [bcl_cg h (Nat.le_refl n)]
/-- the worst of the first p + 1 layers -/
def bwo (M U : Nat → Nat) (F : Nat → Int64) : Nat → Nat
  | 0 => 0
  | p + 1 => if iab (F (bwo M U F p)) * lN (M (p + 1) * U (p + 1)) < iab (F (p + 1)) * lN (M (bwo M U F p) * U (bwo M U F p)) then p + 1 else bwo M U F p
theorem bwo_le : bwo M U F p ≤ p := by
  induction p with
  | zero => exact Nat.le_refl _
  | succ p ih =>
    show (if iab (F (bwo M U F p)) * lN (M (p + 1) * U (p + 1)) < iab (F (p + 1)) * lN (M (bwo M U F p) * U (bwo M U F p)) then p + 1 else bwo M U F p) ≤ p + 1
    split <;> omega
theorem bwo_cg (h : ∀ q, q < n → M' q = M q ∧ U' q = U q ∧ F' q = F q) (hp : p < n) : bwo M' U' F' p = bwo M U F p := by
  induction p with
  | zero => rfl
  | succ p ih =>
    show (if iab (F' (bwo M' U' F' p)) * lN (M' (p + 1) * U' (p + 1)) < iab (F' (p + 1)) * lN (M' (bwo M' U' F' p) * U' (bwo M' U' F' p)) then p + 1 else bwo M' U' F' p) = (if iab (F (bwo M U F p)) * lN (M (p + 1) * U (p + 1)) < iab (F (p + 1)) * lN (M (bwo M U F p) * U (bwo M U F p)) then p + 1 else bwo M U F p)
    have l := @bwo_le M U F p
    obtain ⟨a1, a2, a3⟩ := h (p + 1) hp
    obtain ⟨b1, b2, b3⟩ := h (bwo M U F p) (by omega)
    rw [ih (by omega), a1, a2, a3, b1, b2, b3]
theorem bwo_y (h : iab (F (bwo M U F p)) * lN (M (p + 1) * U (p + 1)) < iab (F (p + 1)) * lN (M (bwo M U F p) * U (bwo M U F p))) : bwo M U F (p + 1) = p + 1 := if_pos h
theorem bwo_n (h : ¬ iab (F (bwo M U F p)) * lN (M (p + 1) * U (p + 1)) < iab (F (p + 1)) * lN (M (bwo M U F p) * U (bwo M U F p))) : bwo M U F (p + 1) = bwo M U F p := if_neg h
end XBQ
/-- the laid layers of two that are alike -/
theorem bqs_cg {r o r' o' : Nat → Nat} {n : Nat} (h : bEq r o r' o' n) : ∀ q, q < n → bM r' o' q = bM r o q ∧ bU r' o' n q = bU r o n q ∧ bfr r' o' n q = bfr r o n q := fun _ hq => ⟨(bT_cg h hq).2.2, (bOU_cg h hq).2, bfr_cg h hq⟩
theorem bdw.kp {w w' : List (List xE)} {r o : Nat → Nat} {n : Nat} (h : bdw w r o n) (e : ∀ c, 50 ≤ c → c < 56 → wget w' c = wget w c) : bdw w' r o n := by
  intro q hq
  obtain ⟨a1, a2, a3, a4, a5⟩ := h q hq
  exact ⟨(rwv_eq (e 52 (by decide) (by decide))).trans a1, (rwv_eq (e 51 (by decide) (by decide))).trans a2, (rwk_eq (e 53 (by decide) (by decide))).trans a3, (rwk_eq (e 54 (by decide) (by decide))).trans a4, by rw [rwk_eq (e 55 (by decide) (by decide))]; exact a5⟩
theorem bdm.kp {w w' : List (List xE)} {r o : Nat → Nat} {n : Nat} (h : bdm w r o n) (e : ∀ c, 88 ≤ c → c < 95 → wget w' c = wget w c) : bdm w' r o n := by
  intro q hq
  obtain ⟨a1, a2, a3, a4, a5⟩ := h q hq
  exact ⟨(rwv_eq (e 91 (by decide) (by decide))).trans a1, (rwv_eq (e 90 (by decide) (by decide))).trans a2, (rwk_eq (e 92 (by decide) (by decide))).trans a3, (rwk_eq (e 93 (by decide) (by decide))).trans a4, by rw [rwk_eq (e 94 (by decide) (by decide))]; exact a5⟩
theorem i64_amu {a : Int64} {m u : Nat} : a * lN u * lN m = a * lN (m * u) := by
  rw [Int64.mul_assoc, lN_mul, Nat.mul_comm]
