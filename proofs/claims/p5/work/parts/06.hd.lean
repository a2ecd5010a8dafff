/-! the instructions of the kernel's machine -/
noncomputable def xhd {R : Type} (st : List xV) (f : xV → List xV → Option R) : Option R := List.rec none (fun r s' _ => f r s') st
noncomputable def xobj {R : Type} (q : xE) (f : Nat × List xV → Option R) : Option R := Sum.rec f (fun _ => none) q
noncomputable def xarr {R : Type} (q : xE) (f : Nat × Nat × Nat × List (Nat × xV) → Option R) : Option R := Sum.rec (fun _ => none) f q
noncomputable def xspl {R : Type} (a b : Option (List R)) : Option (List R) := xob a fun x => xob b fun y => some (x ++ y)
theorem xhd_some {R : Type} {st : List xV} {f : xV → List xV → Option R} {r : R} (h : xhd st f = some r) : ∃ v s', st = v :: s' ∧ f v s' = some r := by
  cases st with
  | nil => cases h
  | cons v s' => exact ⟨v, s', rfl, h⟩
theorem xobj_some {R : Type} {q : xE} {f : Nat × List xV → Option R} {r : R} (h : xobj q f = some r) : ∃ o, q = .inl o ∧ f o = some r := by
  cases q with
  | inl o => exact ⟨o, rfl, h⟩
  | inr o => cases h
theorem xarr_some {R : Type} {q : xE} {f : Nat × Nat × Nat × List (Nat × xV) → Option R} {r : R} (h : xarr q f = some r) : ∃ o, q = .inr o ∧ f o = some r := by
  cases q with
  | inr o => exact ⟨o, rfl, h⟩
  | inl o => cases h
theorem xspl_some {R : Type} {a b : Option (List R)} {r : List R} (h : xspl a b = some r) : ∃ x y, a = some x ∧ b = some y ∧ r = x ++ y := by
  obtain ⟨x, h1, h2⟩ := xob_some h
  obtain ⟨y, h3, h4⟩ := xob_some h2
  cases h4
  exact ⟨x, y, h1, h3, rfl⟩
-- locals
noncomputable def xh_aload : xF := fun ih d M e tl lo st hp => xob (xfind lo e.2.2.2.1) fun v => xif (xisr v) (ih d M (e.1 + e.2.1, tl, lo, v :: st, hp))
noncomputable def xh_iload : xF := fun ih d M e tl lo st hp => xob (xfind lo e.2.2.2.1) fun v => xif (xisi v) (ih d M (e.1 + e.2.1, tl, lo, v :: st, hp))
noncomputable def xh_lload : xF := fun ih d M e tl lo st hp => xob (xfind lo e.2.2.2.1) fun v => xif (Nat.beq v.1 4) (ih d M (e.1 + e.2.1, tl, lo, v :: st, hp))
/-- what stays in the locals beside a new value of one place, of two places -/
def xkp (i : Nat) (q : Nat × xV) : Bool := !(Nat.beq q.1 i) && !(Nat.beq (q.1 + 1) i && Nat.beq q.2.1 4)
def xkp2 (i : Nat) (q : Nat × xV) : Bool := !(Nat.beq q.1 i) && (!(Nat.beq q.1 (i + 1)) && !(Nat.beq (q.1 + 1) i && Nat.beq q.2.1 4))
noncomputable def xflt {R : Type} (f : Nat × xV → Bool) (lo : xLo) : (xLo → R) → R := List.rec (fun k => k []) (fun q _ r k => cond (f q) (r fun l => k (q :: l)) (r k)) lo
theorem xflt_eq {R : Type} (f : Nat × xV → Bool) : ∀ (lo : xLo) (k : xLo → R), xflt f lo k = k (lo.filter f)
  | [], k => rfl
  | q :: lo, k => by
    show cond (f q) (xflt f lo fun l => k (q :: l)) (xflt f lo k) = _
    rw [xflt_eq f lo, xflt_eq f lo, List.filter_cons]
    cases f q <;> rfl
noncomputable def xh_istore : xF := fun ih d M e tl lo st hp => xhd st fun v s1 => xif (xisi v) (xif (Nat.blt e.2.2.2.1 M.2.2.1) (xflt (xkp e.2.2.2.1) lo fun l => ih d M (e.1 + e.2.1, tl, (e.2.2.2.1, v) :: l, s1, hp)))
noncomputable def xh_astore : xF := fun ih d M e tl lo st hp => xhd st fun v s1 => xif (xisr v) (xif (Nat.blt e.2.2.2.1 M.2.2.1) (xflt (xkp e.2.2.2.1) lo fun l => ih d M (e.1 + e.2.1, tl, (e.2.2.2.1, v) :: l, s1, hp)))
noncomputable def xh_lstore : xF := fun ih d M e tl lo st hp => xhd st fun v s1 => xif (Nat.beq v.1 4) (xif (Nat.blt (e.2.2.2.1 + 1) M.2.2.1) (xflt (xkp2 e.2.2.2.1) lo fun l => ih d M (e.1 + e.2.1, tl, (e.2.2.2.1, v) :: l, s1, hp)))
noncomputable def xh_iinc : xF := fun ih d M e tl lo st hp => xob (xfind lo e.2.2.2.1) fun v => xif (Nat.beq v.1 0) (xif (Nat.blt e.2.2.2.1 M.2.2.1) (xN ((v.2 + e.2.2.2.2.1) % 4294967296) fun z => xflt (xkp e.2.2.2.1) lo fun l => ih d M (e.1 + e.2.1, tl, (e.2.2.2.1, (0, z)) :: l, st, hp)))
-- constants
noncomputable def xh_const : xF := fun ih d M e tl lo st hp => ih d M (e.1 + e.2.1, tl, lo, (0, e.2.2.2.1) :: st, hp)
noncomputable def xh_lconst : xF := fun ih d M e tl lo st hp => ih d M (e.1 + e.2.1, tl, lo, (4, e.2.2.2.1) :: st, hp)
noncomputable def xh_null : xF := fun ih d M e tl lo st hp => ih d M (e.1 + e.2.1, tl, lo, (3, 0) :: st, hp)
noncomputable def xh_gets : xF := fun ih d M e tl lo st hp => ih d M (e.1 + e.2.1, tl, lo, (8, e.2.2.2.1) :: st, hp)
-- two ints
noncomputable def xfresh (b : Nat × Nat) (k : xV → xH → Option (List xS)) (hp : xH) : Option (List xS) := xN hp.2.1.length fun n => k (1, n) (hp.1, hp.2.1 ++ [b], hp.2.2)
noncomputable def xbin2 (F : Nat → Nat → Nat) (chk : Nat → Nat → Bool) (al : Bool) (bo : xV → Nat × Nat) (ih : xK) (d : Nat) (M : xM) (e : xI) (tl : List xI) (lo : xLo) (st : List xV) (hp : xH) (a b : xV) : Option (List xS) := cond (Nat.beq (a.1 + b.1) 0) (xif (chk a.2 b.2) (xN (F a.2 b.2) fun z => ih d M (e.1 + e.2.1, tl, lo, (0, z) :: st, hp))) (xif (al && (xisi a && xisi b)) (xfresh (bo b) (fun v hp' => ih d M (e.1 + e.2.1, tl, lo, v :: st, hp')) hp))
noncomputable def xbin (F : Nat → Nat → Nat) (chk : Nat → Nat → Bool) (al : Bool) (bo : xV → Nat × Nat) : xF := fun ih d M e tl lo st hp => xhd st fun b s1 => xhd s1 fun a s2 => xbin2 F chk al bo ih d M e tl lo s2 hp (xnm hp.2.1 a) (xnm hp.2.1 b)
def xany (_ : xV) : Nat × Nat := (0, 4294967295)
def xmask (b : xV) : Nat × Nat := cond (Nat.beq b.1 0 && Nat.blt b.2 2147483648) (2147483648, 2147483648 + b.2) (0, 4294967295)
def xyes (_ _ : Nat) : Bool := true
noncomputable def xh_iadd : xF := xbin (fun a b => (a + b) % 4294967296) xyes true xany
noncomputable def xh_isub : xF := xbin (fun a b => (a + (4294967296 - b)) % 4294967296) xyes true xany
noncomputable def xh_imul : xF := xbin (fun a b => (a * b) % 4294967296) xyes true xany
noncomputable def xh_iand : xF := xbin (fun a b => Nat.land a b) xyes true xmask
noncomputable def xh_ior : xF := xbin (fun a b => Nat.lor a b) xyes true xany
noncomputable def xh_idiv : xF := xbin (fun a b => a / b) (fun a b => Nat.blt a 2147483648 && (Nat.blt 0 b && Nat.blt b 2147483648)) false xany
noncomputable def xh_irem : xF := xbin (fun a b => a % b) (fun a b => Nat.blt a 2147483648 && (Nat.blt 0 b && Nat.blt b 2147483648)) false xany
noncomputable def xh_ishl : xF := xbin (fun a b => (a * 2 ^ b) % 4294967296) (fun _ b => Nat.blt b 32) false xany
noncomputable def xh_ishr : xF := xbin (fun a b => a / 2 ^ b) (fun a b => Nat.blt a 2147483648 && Nat.blt b 32) true xany
noncomputable def xh_iushr : xF := xbin (fun a b => a / 2 ^ b) (fun _ b => Nat.blt b 32) false xany
-- one int
noncomputable def xh_i2b : xF := fun ih d M e tl lo st hp => xhd st fun a s1 => xif (xisi a) (xfresh (2147483520, 2147483775) (fun v hp' => ih d M (e.1 + e.2.1, tl, lo, v :: s1, hp')) hp)
noncomputable def xh_i2l : xF := fun ih d M e tl lo st hp => xhd st fun a s1 => (fun b : xV => xif (Nat.beq b.1 0 && Nat.blt b.2 2147483648) (ih d M (e.1 + e.2.1, tl, lo, (4, b.2) :: s1, hp))) (xnm hp.2.1 a)
noncomputable def xh_l2i : xF := fun ih d M e tl lo st hp => xhd st fun a s1 => xif (Nat.beq a.1 4) (xN (a.2 % 4294967296) fun z => ih d M (e.1 + e.2.1, tl, lo, (0, z) :: s1, hp))
-- longs
noncomputable def xh_lmul : xF := fun ih d M e tl lo st hp => xhd st fun b s1 => xhd s1 fun a s2 => xif (Nat.beq a.1 4 && Nat.beq b.1 4) (xN (a.2 * b.2) fun z => ih d M (e.1 + e.2.1, tl, lo, (4, z) :: s2, hp))
noncomputable def xh_ladd : xF := fun ih d M e tl lo st hp => xhd st fun b s1 => xhd s1 fun a s2 => xif (Nat.beq a.1 4 && Nat.beq b.1 4) (xN (a.2 + b.2) fun z => ih d M (e.1 + e.2.1, tl, lo, (4, z) :: s2, hp))
noncomputable def xh_lcmp : xF := fun ih d M e tl lo st hp => xhd st fun b s1 => xhd s1 fun a s2 => xif ((Nat.beq a.1 4 && Nat.beq b.1 4) && (Nat.blt a.2 9223372036854775808 && Nat.blt b.2 9223372036854775808)) (ih d M (e.1 + e.2.1, tl, lo, (0, cond (Nat.blt a.2 b.2) 4294967295 (cond (Nat.beq a.2 b.2) 0 1)) :: s2, hp))
-- the stack
noncomputable def xh_dup : xF := fun ih d M e tl lo st hp => xhd st fun a s1 => xif (xisi a || xisr a) (ih d M (e.1 + e.2.1, tl, lo, a :: a :: s1, hp))
noncomputable def xh_dup2 : xF := fun ih d M e tl lo st hp => xhd st fun a s1 => xhd s1 fun b s2 => xif ((xisi a || xisr a) && (xisi b || xisr b)) (ih d M (e.1 + e.2.1, tl, lo, a :: b :: a :: b :: s2, hp))
noncomputable def xh_pop : xF := fun ih d M e tl lo st hp => xhd st fun a s1 => xif (xisi a || xisr a) (ih d M (e.1 + e.2.1, tl, lo, s1, hp))
-- branches
noncomputable def xh_goto : xF := fun ih d M e _ lo st hp => ih d M (e.2.2.2.1, [], lo, st, hp)
noncomputable def xh_ifnull : xF := fun ih d M e tl lo st hp => xhd st fun a s1 => cond (Nat.beq a.1 3) (ih d M (e.2.2.2.1, [], lo, s1, hp)) (xif (Nat.beq a.1 2) (ih d M (e.1 + e.2.1, tl, lo, s1, hp)))
noncomputable def xh_ifnonnull : xF := fun ih d M e tl lo st hp => xhd st fun a s1 => cond (Nat.beq a.1 3) (ih d M (e.1 + e.2.1, tl, lo, s1, hp)) (xif (Nat.beq a.1 2) (ih d M (e.2.2.2.1, [], lo, s1, hp)))
/-- a question's end: 0 no, 1 yes, 2 by a split of a named int, 3 by a new fact, 4 unknown -/
abbrev xQ := Nat × Nat × Nat
noncomputable def xltn (a b : xV) (fc : List (Nat × Nat × Bool)) : xQ := List.rec (3, b.2, a.2) (fun q _ r => cond (Nat.beq q.1 b.2 && Nat.beq q.2.1 a.2) (cond q.2.2 (0, 0, 0) (1, 0, 0)) r) fc
noncomputable def xltA (A B : Nat) : xQ := cond (Nat.blt A B) (1, 0, 0) (0, 0, 0)
noncomputable def xltB (A n : Nat) (q : Nat × Nat) : xQ := cond (Nat.blt A q.1) (1, 0, 0) (cond (Nat.ble q.2 A) (0, 0, 0) (2, n, A + 1))
noncomputable def xltC (B n : Nat) (q : Nat × Nat) : xQ := cond (Nat.blt q.2 B) (1, 0, 0) (cond (Nat.ble B q.1) (0, 0, 0) (2, n, B))
noncomputable def xoq (o : Option (Nat × Nat)) (f : Nat × Nat → xQ) : xQ := Option.rec (4, 0, 0) f o
noncomputable def xlt0 (bd : List (Nat × Nat)) (a b : xV) : xQ := cond (Nat.beq b.1 0) (xltA (xbs a.2) (xbs b.2)) (cond (Nat.beq b.1 1) (xoq (xget bd b.2) (xltB (xbs a.2) b.2)) (4, 0, 0))
/-- two named ints: by their bounds, else by what is known of them -/
noncomputable def xltD (a b : xV) (fc : List (Nat × Nat × Bool)) (qa qb : Option (Nat × Nat)) : xQ := xoq qa fun u => xoq qb fun v => cond (Nat.blt u.2 v.1) (1, 0, 0) (cond (Nat.ble v.2 u.1) (0, 0, 0) (xltn a b fc))
noncomputable def xlt1 (bd : List (Nat × Nat)) (fc : List (Nat × Nat × Bool)) (a b : xV) : xQ := cond (Nat.beq b.1 0) (xoq (xget bd a.2) (xltC (xbs b.2) a.2)) (cond (Nat.beq b.1 1) (xltD a b fc (xget bd a.2) (xget bd b.2)) (4, 0, 0))
noncomputable def xlt (bd : List (Nat × Nat)) (fc : List (Nat × Nat × Bool)) (a b : xV) : xQ := cond (Nat.beq a.1 0) (xlt0 bd a b) (cond (Nat.beq a.1 1) (xlt1 bd fc a b) (4, 0, 0))
noncomputable def xeqC (c n : Nat) (q : Nat × Nat) : xQ := cond (Nat.blt c q.1 || Nat.blt q.2 c) (0, 0, 0) (cond (Nat.blt q.1 c) (2, n, c) (2, n, c + 1))
noncomputable def xeq0 (bd : List (Nat × Nat)) (a b : xV) : xQ := cond (Nat.beq b.1 0) (cond (Nat.beq a.2 b.2) (1, 0, 0) (0, 0, 0)) (cond (Nat.beq b.1 1) (xoq (xget bd b.2) (xeqC (xbs a.2) b.2)) (4, 0, 0))
noncomputable def xeq1 (bd : List (Nat × Nat)) (a b : xV) : xQ := cond (Nat.beq b.1 0) (xoq (xget bd a.2) (xeqC (xbs b.2) a.2)) (cond (Nat.beq b.1 1 && Nat.beq a.2 b.2) (1, 0, 0) (4, 0, 0))
noncomputable def xeq (bd : List (Nat × Nat)) (a b : xV) : xQ := cond (Nat.beq a.1 0) (xeq0 bd a b) (cond (Nat.beq a.1 1) (xeq1 bd a b) (4, 0, 0))
/-- cond codes: 0 eq, 1 ne, 2 lt, 3 ge, 4 gt, 5 le -/
noncomputable def xask (bd : List (Nat × Nat)) (fc : List (Nat × Nat × Bool)) (y : Nat) (a b : xV) : xQ := cond (Nat.ble y 1) (xeq bd a b) (cond (Nat.ble y 3) (xlt bd fc a b) (xlt bd fc b a))
/-- the bounds of a named int, below c, from c on -/
noncomputable def xlow (hp : xH) (n c : Nat) : Option xH := xob (xget hp.2.1 n) fun q => some (hp.1, xset (q.1, c - 1) hp.2.1 n, hp.2.2)
noncomputable def xhigh (hp : xH) (n c : Nat) : Option xH := xob (xget hp.2.1 n) fun q => some (hp.1, xset (c, q.2) hp.2.1 n, hp.2.2)
noncomputable def xfct (hp : xH) (n c : Nat) (t : Bool) : xH := (hp.1, hp.2.1, (n, c, t) :: hp.2.2.1, hp.2.2.2)
/-- go on by an answer: k gets it; a split goes through 'again' twice -/
noncomputable def xans (q : xQ) (hp : xH) (k : Bool → Option (List xS)) (again : xH → Option (List xS)) : Option (List xS) := cond (Nat.beq q.1 0) (k false) (cond (Nat.beq q.1 1) (k true) (cond (Nat.beq q.1 2) (xif (Nat.blt 0 q.2.2) (xspl (xob (xlow hp q.2.1 q.2.2) again) (xob (xhigh hp q.2.1 q.2.2) again))) (xif (Nat.beq q.1 3) (xspl (again (xfct hp q.2.1 q.2.2 true)) (again (xfct hp q.2.1 q.2.2 false))))))
noncomputable def xbr (ih : xK) (d : Nat) (M : xM) (e : xI) (tl : List xI) (lo : xLo) (st s2 : List xV) (hp : xH) (a b : xV) : Option (List xS) := xans (xask hp.2.1 hp.2.2.1 e.2.2.2.2.1 a b) hp (fun t => cond (Nat.beq (e.2.2.2.2.1 % 2) 0) (cond t (ih d M (e.2.2.2.1, [], lo, s2, hp)) (ih d M (e.1 + e.2.1, tl, lo, s2, hp))) (cond t (ih d M (e.1 + e.2.1, tl, lo, s2, hp)) (ih d M (e.2.2.2.1, [], lo, s2, hp)))) (fun hp' => ih d M (e.1, e :: tl, lo, st, hp'))
noncomputable def xh_icmp : xF := fun ih d M e tl lo st hp => xhd st fun b s1 => xhd s1 fun a s2 => xif (xisi a && xisi b) (xbr ih d M e tl lo st s2 hp (xnm hp.2.1 a) (xnm hp.2.1 b))
noncomputable def xh_if : xF := fun ih d M e tl lo st hp => xhd st fun a s1 => xif (xisi a) (xbr ih d M e tl lo st s1 hp (xnm hp.2.1 a) (0, 0))
