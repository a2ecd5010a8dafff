/-! lists and numbers that the kernel can run -/
noncomputable def xget {α : Type} (l : List α) : Nat → Option α := List.rec (fun _ => none) (fun x _ ih n => Nat.rec (some x) (fun m _ => ih m) n) l
noncomputable def xset {α : Type} (v : α) (l : List α) : Nat → List α := List.rec (fun _ => []) (fun x t ih n => Nat.rec (v :: t) (fun m _ => x :: ih m) n) l
/-- the number is run to its end before f gets it -/
noncomputable def xN {R : Type} (n : Nat) (f : Nat → R) : R := Nat.rec (f 0) (fun m _ => f (Nat.succ m)) n
theorem xN_eq {R : Type} (n : Nat) (f : Nat → R) : xN n f = f n := by cases n <;> rfl
theorem xget_eq {α : Type} : ∀ (l : List α) (n : Nat), xget l n = l[n]?
  | [], n => by simp [xget]
  | a :: l, 0 => rfl
  | a :: l, n + 1 => by
    rw [List.getElem?_cons_succ]
    exact xget_eq l n
theorem xset_eq {α : Type} (v : α) : ∀ (l : List α) (n : Nat), xset v l n = l.set n v
  | [], n => by simp [xset]
  | a :: l, 0 => rfl
  | a :: l, n + 1 => by
    rw [List.set_cons_succ]
    exact congrArg (a :: ·) (xset_eq v l n)
/-- two lists, place by place -/
def xrel {α β : Type} (R : α → β → Prop) : List α → List β → Prop
  | [], [] => True
  | a :: l, b :: l' => R a b ∧ xrel R l l'
  | _, _ => False
theorem xrel_get {α β : Type} {R : α → β → Prop} : ∀ {l : List α} {l' : List β}, xrel R l l' → ∀ {i : Nat} {a : α}, xget l i = some a → ∃ b, xget l' i = some b ∧ R a b
  | [], [], _, i, a, h => by simp [xget] at h
  | x :: l, y :: l', hr, 0, a, h => by
    cases h
    exact ⟨y, rfl, hr.1⟩
  | x :: l, y :: l', hr, i + 1, a, h => xrel_get (l := l) (l' := l') hr.2 (i := i) h
  | [], _ :: _, hr, _, _, _ => hr.elim
  | _ :: _, [], hr, _, _, _ => hr.elim
theorem xrel_set {α β : Type} {R : α → β → Prop} {a : α} {b : β} (hab : R a b) : ∀ {l : List α} {l' : List β}, xrel R l l' → ∀ (i : Nat), xrel R (xset a l i) (xset b l' i)
  | [], [], _, _ => trivial
  | x :: l, y :: l', hr, 0 => ⟨hab, hr.2⟩
  | x :: l, y :: l', hr, i + 1 => ⟨hr.1, xrel_set hab (l := l) (l' := l') hr.2 i⟩
  | [], _ :: _, hr, _ => hr.elim
  | _ :: _, [], hr, _ => hr.elim
theorem xrel_imp {α β : Type} {R R' : α → β → Prop} (h : ∀ a b, R a b → R' a b) : ∀ {l : List α} {l' : List β}, xrel R l l' → xrel R' l l'
  | [], [], _ => trivial
  | _ :: _, _ :: _, hr => ⟨h _ _ hr.1, xrel_imp h hr.2⟩
  | [], _ :: _, hr => hr.elim
  | _ :: _, [], hr => hr.elim
theorem xrel_app {α β : Type} {R : α → β → Prop} {m : List α} {m' : List β} (hm : xrel R m m') : ∀ {l : List α} {l' : List β}, xrel R l l' → xrel R (l ++ m) (l' ++ m')
  | [], [], _ => hm
  | _ :: _, _ :: _, hr => ⟨hr.1, xrel_app hm hr.2⟩
  | [], _ :: _, hr => hr.elim
  | _ :: _, [], hr => hr.elim
theorem xrel_len {α β : Type} {R : α → β → Prop} : ∀ {l : List α} {l' : List β}, xrel R l l' → l.length = l'.length
  | [], [], _ => rfl
  | _ :: _, _ :: _, hr => congrArg (· + 1) (xrel_len hr.2)
  | [], _ :: _, hr => hr.elim
  | _ :: _, [], hr => hr.elim
theorem xrel_cons {α β : Type} {R : α → β → Prop} {a : α} {l : List α} {l' : List β} (h : xrel R (a :: l) l') : ∃ b m, l' = b :: m ∧ R a b ∧ xrel R l m := by
  cases l' with
  | nil => exact h.elim
  | cons b m => exact ⟨b, m, rfl, h.1, h.2⟩
theorem xrel_nil {α β : Type} {R : α → β → Prop} {l' : List β} (h : xrel R ([] : List α) l') : l' = [] := by
  cases l' with
  | nil => rfl
  | cons b m => exact h.elim
theorem xrel_rev {α β : Type} {R : α → β → Prop} : ∀ {l : List α} {l' : List β}, xrel R l l' → xrel R l.reverse l'.reverse
  | [], [], _ => trivial
  | a :: l, b :: l', hr => by
    rw [List.reverse_cons, List.reverse_cons]
    exact xrel_app (m := [a]) (m' := [b]) ⟨hr.1, trivial⟩ (xrel_rev hr.2)
  | [], _ :: _, hr => hr.elim
  | _ :: _, [], hr => hr.elim
theorem xrel_take {α β : Type} {R : α → β → Prop} : ∀ {l : List α} {l' : List β}, xrel R l l' → ∀ n, xrel R (l.take n) (l'.take n)
  | [], [], _, n => by cases n <;> trivial
  | _ :: _, _ :: _, hr, 0 => trivial
  | _ :: _, _ :: _, hr, n + 1 => ⟨hr.1, xrel_take hr.2 n⟩
  | [], _ :: _, hr, _ => hr.elim
  | _ :: _, [], hr, _ => hr.elim
theorem xrel_drop {α β : Type} {R : α → β → Prop} : ∀ {l : List α} {l' : List β}, xrel R l l' → ∀ n, xrel R (l.drop n) (l'.drop n)
  | [], [], _, n => by cases n <;> trivial
  | _ :: _, _ :: _, hr, 0 => hr
  | _ :: _, _ :: _, hr, n + 1 => xrel_drop hr.2 n
  | [], _ :: _, hr, _ => hr.elim
  | _ :: _, [], hr, _ => hr.elim
theorem xget_set_ne {α : Type} {v : α} {l : List α} {i j : Nat} (h : i ≠ j) : xget (xset v l i) j = xget l j := by
  rw [xget_eq, xget_eq, xset_eq, List.getElem?_set_ne h]
theorem xget_set_self {α : Type} {v w : α} {l : List α} {i : Nat} (h : xget l i = some w) : xget (xset v l i) i = some v := by
  rw [xget_eq] at h
  rw [xget_eq, xset_eq, List.getElem?_set_self (List.getElem?_eq_some_iff.mp h).1]
/-- by a key -/
noncomputable def xfind {α : Type} (l : List (Nat × α)) (k : Nat) : Option α := List.rec none (fun x _ ih => cond (Nat.beq x.1 k) (some x.2) ih) l
theorem xfind_mem {α : Type} : ∀ {l : List (Nat × α)} {k : Nat} {a : α}, xfind l k = some a → (k, a) ∈ l
  | [], k, a, h => by cases h
  | x :: l, k, a, h => by
    have h' : cond (Nat.beq x.1 k) (some x.2) (xfind l k) = some a := h
    cases hc : Nat.beq x.1 k with
    | true =>
      rw [hc] at h'
      have e : x.1 = k := Nat.eq_of_beq_eq_true hc
      cases h'
      subst e
      exact List.mem_cons_self
    | false =>
      rw [hc] at h'
      exact List.mem_cons_of_mem _ (xfind_mem h')
/-! two levels: place k of ten by ten -/
noncomputable def wget {α : Type} (w : List (List α)) (k : Nat) : Option α := Option.rec none (fun c => xget c (k % 10)) (xget w (k / 10))
noncomputable def wset {α : Type} (v : α) (w : List (List α)) (k : Nat) : List (List α) := Option.rec w (fun c => xset (xset v c (k % 10)) w (k / 10)) (xget w (k / 10))
theorem wget_some {α : Type} {w : List (List α)} {k : Nat} {a : α} (h : wget w k = some a) : ∃ c, xget w (k / 10) = some c ∧ xget c (k % 10) = some a := by
  unfold wget at h
  cases hc : xget w (k / 10) with
  | none => rw [hc] at h; cases h
  | some c => rw [hc] at h; exact ⟨c, rfl, h⟩
theorem wget_of {α : Type} {w : List (List α)} {k : Nat} {c : List α} (hc : xget w (k / 10) = some c) : wget w k = xget c (k % 10) := by
  unfold wget
  rw [hc]
theorem wset_of {α : Type} {v : α} {w : List (List α)} {k : Nat} {c : List α} (hc : xget w (k / 10) = some c) : wset v w k = xset (xset v c (k % 10)) w (k / 10) := by
  unfold wset
  rw [hc]
theorem wget_set_self {α : Type} {v a : α} {w : List (List α)} {k : Nat} (h : wget w k = some a) : wget (wset v w k) k = some v := by
  obtain ⟨c, h1, h2⟩ := wget_some h
  rw [wset_of h1, wget_of (xget_set_self h1)]
  exact xget_set_self h2
theorem wget_set_ne {α : Type} {v a : α} {w : List (List α)} {k j : Nat} (h : wget w k = some a) (hne : j ≠ k) : wget (wset v w k) j = wget w j := by
  obtain ⟨c, h1, h2⟩ := wget_some h
  rw [wset_of h1]
  by_cases hd : k / 10 = j / 10
  · have hm : k % 10 ≠ j % 10 := by omega
    rw [wget_of (k := j) (c := xset v c (k % 10)) (by rw [← hd]; exact xget_set_self h1), wget_of (k := j) (c := c) (by rw [← hd]; exact h1), xget_set_ne hm]
  · unfold wget
    rw [xget_set_ne hd]
theorem xfl_get {α : Type} : ∀ {w : List (List α)} {i j : Nat} {c : List α} {a : α}, xget w i = some c → xget c j = some a → ∃ n : Nat, w.flatten[n]? = some a ∧ ∀ v : α, w.flatten.set n v = (xset (xset v c j) w i).flatten
  | [], i, j, c, a, h, _ => by cases h
  | x :: w, 0, j, c, a, h, h2 => by
    cases h
    rw [xget_eq] at h2
    have hl := (List.getElem?_eq_some_iff.mp h2).1
    refine ⟨j, ?_, fun v => ?_⟩
    · rw [List.flatten_cons, List.getElem?_append_left hl, h2]
    · show (x :: w).flatten.set j v = (xset v x j :: w).flatten
      rw [List.flatten_cons, List.flatten_cons, xset_eq, List.set_append_left _ _ hl]
  | x :: w, i + 1, j, c, a, h, h2 => by
    obtain ⟨n, e1, e2⟩ := xfl_get (w := w) (i := i) h h2
    refine ⟨x.length + n, ?_, fun v => ?_⟩
    · rw [List.flatten_cons, List.getElem?_append_right (by omega), Nat.add_sub_cancel_left, e1]
    · show (x :: w).flatten.set (x.length + n) v = (x :: xset (xset v c j) w i).flatten
      rw [List.flatten_cons, List.flatten_cons, List.set_append_right _ _ (by omega), Nat.add_sub_cancel_left, e2]
theorem wfl_get {α : Type} {w : List (List α)} {k : Nat} {a : α} (h : wget w k = some a) : ∃ n : Nat, w.flatten[n]? = some a ∧ ∀ v : α, w.flatten.set n v = (wset v w k).flatten := by
  obtain ⟨c, h1, h2⟩ := wget_some h
  obtain ⟨n, e1, e2⟩ := xfl_get h1 h2
  exact ⟨n, e1, fun v => by rw [wset_of h1]; exact e2 v⟩
/-- one more at the end: at place j of row i, which must be the last one's end, or a new row's beginning -/
noncomputable def xpush {α : Type} (v : α) (w : List (List α)) : Nat → Nat → Option (List (List α)) := List.rec (fun i j => cond (Nat.beq i 0) (cond (Nat.beq j 0) (some [[v]]) none) none) (fun c t ih i j => Nat.rec (List.rec (cond (Nat.beq c.length j) (some [c ++ [v]]) none) (fun _ _ _ => none) t) (fun m _ => Option.rec none (fun r => some (c :: r)) (ih m j)) i) w
theorem xpush_nil {α : Type} {v : α} {i j : Nat} {r : List (List α)} (h : xpush v [] i j = some r) : i = 0 ∧ j = 0 ∧ r = [[v]] := by
  have h' : cond (Nat.beq i 0) (cond (Nat.beq j 0) (some [[v]]) none) none = some r := h
  cases h1 : Nat.beq i 0 with
  | false => rw [h1] at h'; cases h'
  | true =>
    cases h2 : Nat.beq j 0 with
    | false => rw [h1, h2] at h'; cases h'
    | true => rw [h1, h2] at h'; cases h'; exact ⟨Nat.eq_of_beq_eq_true h1, Nat.eq_of_beq_eq_true h2, rfl⟩
theorem xpush_zero {α : Type} {v : α} {c : List α} {t : List (List α)} {j : Nat} {r : List (List α)} (h : xpush v (c :: t) 0 j = some r) : t = [] ∧ c.length = j ∧ r = [c ++ [v]] := by
  cases t with
  | cons x y => cases h
  | nil =>
    have h' : cond (Nat.beq c.length j) (some [c ++ [v]]) none = some r := h
    cases h2 : Nat.beq c.length j with
    | false => rw [h2] at h'; cases h'
    | true => rw [h2] at h'; cases h'; exact ⟨rfl, Nat.eq_of_beq_eq_true h2, rfl⟩
theorem xpush_succ {α : Type} {v : α} {c : List α} {t : List (List α)} {i j : Nat} {r : List (List α)} (h : xpush v (c :: t) (i + 1) j = some r) : ∃ r', xpush v t i j = some r' ∧ r = c :: r' := by
  have h' : Option.rec (motive := fun _ => Option (List (List α))) none (fun r => some (c :: r)) (xpush v t i j) = some r := h
  cases h2 : xpush v t i j with
  | none => rw [h2] at h'; cases h'
  | some r' => rw [h2] at h'; cases h'; exact ⟨r', rfl, rfl⟩
theorem xpush_fl {α : Type} {v : α} : ∀ {w : List (List α)} {i j : Nat} {r : List (List α)}, xpush v w i j = some r → r.flatten = w.flatten ++ [v]
  | [], i, j, r, h => by obtain ⟨-, -, rfl⟩ := xpush_nil h; rfl
  | c :: t, 0, j, r, h => by obtain ⟨rfl, -, rfl⟩ := xpush_zero h; simp
  | c :: t, i + 1, j, r, h => by
    obtain ⟨r', h1, rfl⟩ := xpush_succ h
    rw [List.flatten_cons, List.flatten_cons, xpush_fl h1, List.append_assoc]
theorem xpush_new {α : Type} {v : α} : ∀ {w : List (List α)} {i j : Nat} {r : List (List α)}, xpush v w i j = some r → ∃ c, xget r i = some c ∧ xget c j = some v
  | [], i, j, r, h => by obtain ⟨rfl, rfl, rfl⟩ := xpush_nil h; exact ⟨[v], rfl, rfl⟩
  | c :: t, 0, j, r, h => by
    obtain ⟨rfl, rfl, rfl⟩ := xpush_zero h
    exact ⟨c ++ [v], rfl, by rw [xget_eq]; simp⟩
  | c :: t, i + 1, j, r, h => by
    obtain ⟨r', h1, rfl⟩ := xpush_succ h
    obtain ⟨c', e1, e2⟩ := xpush_new h1
    exact ⟨c', e1, e2⟩
theorem xpush_old {α : Type} {v : α} : ∀ {w : List (List α)} {i j : Nat} {r : List (List α)}, xpush v w i j = some r → ∀ {a b : Nat} {c : List α} {x : α}, xget w a = some c → xget c b = some x → ∃ c', xget r a = some c' ∧ xget c' b = some x
  | [], i, j, r, h, a, b, c, x, h1, h2 => by cases h1
  | y :: t, 0, j, r, h, a, b, c, x, h1, h2 => by
    obtain ⟨rfl, -, rfl⟩ := xpush_zero h
    cases a with
    | zero =>
      cases h1
      refine ⟨y ++ [v], rfl, ?_⟩
      rw [xget_eq] at h2 ⊢
      rw [List.getElem?_append_left (List.getElem?_eq_some_iff.mp h2).1, h2]
    | succ a => cases h1
  | y :: t, i + 1, j, r, h, a, b, c, x, h1, h2 => by
    obtain ⟨r', e1, rfl⟩ := xpush_succ h
    cases a with
    | zero => exact ⟨c, h1, h2⟩
    | succ a => exact xpush_old (w := t) e1 (a := a) h1 h2
theorem xpush_rel {α β : Type} {R : α → β → Prop} {v : α} {u : β} (hv : R v u) : ∀ {w : List (List α)} {w' : List (List β)}, xrel (xrel R) w w' → ∀ {i j : Nat} {r : List (List α)}, xpush v w i j = some r → ∃ r', xpush u w' i j = some r' ∧ xrel (xrel R) r r'
  | [], [], _, i, j, r, h => by
    obtain ⟨rfl, rfl, rfl⟩ := xpush_nil h
    exact ⟨[[u]], rfl, ⟨hv, trivial⟩, trivial⟩
  | c :: t, c' :: t', hr, 0, j, r, h => by
    obtain ⟨rfl, hl, rfl⟩ := xpush_zero h
    have ht : t' = [] := xrel_nil hr.2
    subst ht
    refine ⟨[c' ++ [u]], ?_, xrel_app (m := [v]) (m' := [u]) ⟨hv, trivial⟩ hr.1, trivial⟩
    show cond (Nat.beq c'.length j) (some [c' ++ [u]]) none = _
    rw [← xrel_len hr.1, hl, Nat.beq_refl]
    rfl
  | c :: t, c' :: t', hr, i + 1, j, r, h => by
    obtain ⟨r', h1, rfl⟩ := xpush_succ h
    obtain ⟨r2, h2, h3⟩ := xpush_rel hv (w := t) (w' := t') hr.2 h1
    refine ⟨c' :: r2, ?_, hr.1, h3⟩
    show Option.rec (motive := fun _ => Option (List (List β))) none (fun r => some (c' :: r)) (xpush u t' i j) = _
    rw [h2]
  | [], _ :: _, hr, _, _, _, _ => hr.elim
  | _ :: _, [], hr, _, _, _, _ => hr.elim
/-! whole numbers of 32 places, by their patterns -/
/-- the pattern moved so that its order is that of the signed number -/
def xbs (u : Nat) : Nat := (u + 2147483648) % 4294967296
theorem xbs_lt (u : Nat) : xbs u < 4294967296 := Nat.mod_lt _ (by decide)
theorem xbs_inv {u : Nat} (h : u < 4294967296) : (xbs u + 2147483648) % 4294967296 = u := by unfold xbs; omega
theorem xnI_toInt {u : Nat} (h : u < 4294967296) : (nI u).toInt = (xbs u : Int) - 2147483648 := by
  have h1 : (nI u).toBitVec.toNat = u := pk_tn h
  show (nI u).toBitVec.toInt = _
  rw [BitVec.toInt_eq_toNat_cond, h1]
  unfold xbs
  split <;> omega
theorem xlt_iff {u v : Nat} (hu : u < 4294967296) (hv : v < 4294967296) : nI u < nI v ↔ xbs u < xbs v := by
  rw [Int32.lt_iff_toInt_lt, xnI_toInt hu, xnI_toInt hv]; omega
theorem xle_iff {u v : Nat} (hu : u < 4294967296) (hv : v < 4294967296) : nI u ≤ nI v ↔ xbs u ≤ xbs v := by
  rw [Int32.le_iff_toInt_le, xnI_toInt hu, xnI_toInt hv]; omega
theorem xeq_iff {u v : Nat} (hu : u < 4294967296) (hv : v < 4294967296) : nI u = nI v ↔ u = v := by
  constructor
  · intro h
    have h1 := congrArg Int32.toInt h
    rw [xnI_toInt hu, xnI_toInt hv] at h1
    have := xbs_inv hu
    have := xbs_inv hv
    have h2 : xbs u = xbs v := by omega
    rw [h2] at *
    omega
  · intro h; rw [h]
theorem xnI_mod (u : Nat) : nI (u % 4294967296) = nI u := by
  apply Int32.toBitVec_inj.mp
  apply BitVec.eq_of_toNat_eq
  show (BitVec.ofNat 32 _).toNat = (BitVec.ofNat 32 _).toNat
  rw [BitVec.toNat_ofNat, BitVec.toNat_ofNat]
  omega
/-- every int has its pattern -/
theorem xnI_of (x : Int32) : ∃ u, u < 4294967296 ∧ x = nI u := by
  refine ⟨x.toBitVec.toNat, x.toBitVec.isLt, ?_⟩
  apply Int32.toBitVec_inj.mp
  apply BitVec.eq_of_toNat_eq
  rw [pk_tn x.toBitVec.isLt]
theorem xnI_add (u v : Nat) : nI u + nI v = nI ((u + v) % 4294967296) := by rw [xnI_mod]; exact nI_add u v
theorem xnI_mul (u v : Nat) : nI u * nI v = nI ((u * v) % 4294967296) := by rw [xnI_mod]; exact pk_mul u v
theorem xnI_sub {u v : Nat} (hv : v ≤ 4294967296) : nI u - nI v = nI ((u + (4294967296 - v)) % 4294967296) := by
  have h1 : nI (u + (4294967296 - v)) = nI u + nI (4294967296 - v) := (nI_add _ _).symm
  have h2 : nI (4294967296 - v) = 0 - nI v := by
    have h3 := pk_sub (a := 4294967296) (b := v) hv
    rw [← h3]
    rfl
  rw [xnI_mod, h1, h2, Int32.sub_eq_add_neg, Int32.sub_eq_add_neg 0]
  have : (0 : Int32) + -nI v = -nI v := Int32.zero_add _
  rw [this]
theorem xnI_and {u v : Nat} (hu : u < 4294967296) (hv : v < 4294967296) : nI u &&& nI v = nI (u &&& v) := by
  have h : u &&& v < 2 ^ 32 := Nat.and_lt_two_pow u hv
  apply Int32.toBitVec_inj.mp
  apply BitVec.eq_of_toNat_eq
  rw [Int32.toBitVec_and, BitVec.toNat_and, pk_tn hu, pk_tn hv, pk_tn h]
theorem xnI_or {u v : Nat} (hu : u < 4294967296) (hv : v < 4294967296) : nI u ||| nI v = nI (u ||| v) := by
  have h : u ||| v < 2 ^ 32 := Nat.or_lt_two_pow hu hv
  apply Int32.toBitVec_inj.mp
  apply BitVec.eq_of_toNat_eq
  rw [Int32.toBitVec_or, BitVec.toNat_or, pk_tn hu, pk_tn hv, pk_tn h]
