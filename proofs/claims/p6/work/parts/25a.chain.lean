section
/-! chains: one instruction after the other, with numbers that are not known -/
noncomputable def xidk : xK := fun _ _ σ => some [σ]
theorem xidk_ok : xIHok xidk := by
  intro d M σ fs h hM hpos p l e R s m args below meth c D A g cw0 tys0 io0 Q C hQ
  cases h
  exact hQ σ List.mem_cons_self hpos
def xLd (d : Nat) (M : xM) (σ : xS) (fs : List xS) : Prop := xMb M → xpos M σ → ∀ (p : Program) (l : Launch) (e : Env) (R : Room) (s : State) (m : MethodId) (args : Array Value) (below : List Frame) (meth : Method) (c : Code) (D : va_G) (A : Nat → Prop) (g : xG) (cw0 : xWc) (tys0 : xTy) (io0 : List Nat) (Q : State → Prop), xCx p R s m args meth c A g io0 d M → (∀ φ ∈ fs, xpos M φ → xOk p l e R s m args below meth c D A M.2.2.1 g cw0 tys0 io0 Q φ) → xOk p l e R s m args below meth c D A M.2.2.1 g cw0 tys0 io0 Q σ
section XCH
variable {d d0 p0 pc ln op x y ix u v z k c n t L : Nat} {M M' : xM} {σ τ : xS} {fs : List xS} {tl b : List xI} {lo l1 : xLo} {st rest vs : List xV} {hp : xH} {va vb vc : xV} {w w' : List (List xE)} {bd : List (Nat × Nat)} {fc : List (Nat × Nat × Bool)} {cn sl : Nat} {rr : Nat × Nat} {fl : List xV} {us : List (Nat × xV)} {r : List xV}
theorem xLd.rf : xLd d M σ [σ] := fun _ hpos _ _ _ _ _ _ _ _ _ _ _ _ _ _ _ _ _ _ hQ => hQ σ List.mem_cons_self hpos
theorem xthen (h1 : xLd d M σ [τ]) (h2 : xLd d M τ fs) : xLd d M σ fs := fun hM hpos p l e R s m args below meth c D A g cw0 tys0 io0 Q C hQ => h1 hM hpos p l e R s m args below meth c D A g cw0 tys0 io0 Q C (fun φ hφ hp => by
  have e1 := List.mem_singleton.mp hφ
  subst e1
  exact h2 hM hp p l e R s m args below meth c D A g cw0 tys0 io0 Q C hQ)
theorem xLd.step (h : xstep xidk d M σ = some fs) : xLd d M σ fs := fun hM hpos => xstep_ok xmall xidk_ok d M σ fs h hM hpos
theorem xg_blk (h : xfind M.2.2.2.2.2.2.2.2 pc = some b) : xLd d M (pc, [], lo, st, hp) [(pc, b, lo, st, hp)] := by
  refine xLd.step ?_
  show xseek xidk d M (pc, [], lo, st, hp) (xfind M.2.2.2.2.2.2.2.2 pc) = _
  rw [h]
  rfl
noncomputable def xbk (l : List (Nat × List xI)) (k : Nat) : List xI := List.rec [] (fun x _ ih => cond (Nat.beq x.1 k) x.2 ih) l
theorem xfind_bk : ∀ {l : List (Nat × List xI)} {k : Nat}, (xfind l k).isSome = true → xfind l k = some (xbk l k)
  | [], k, h => by
    have h' : false = true := h
    cases h'
  | x :: l, k, h => by
    have h' : (cond (Nat.beq x.1 k) (some x.2) (xfind l k)).isSome = true := h
    show cond (Nat.beq x.1 k) (some x.2) (xfind l k) = some (cond (Nat.beq x.1 k) x.2 (xbk l k))
    cases hc : Nat.beq x.1 k with
    | true => rfl
    | false =>
      rw [hc] at h'
      exact xfind_bk (l := l) h'
theorem xg_blq (h : (xfind M.2.2.2.2.2.2.2.2 pc).isSome = true) : xLd d M (pc, [], lo, st, hp) [(pc, xbk M.2.2.2.2.2.2.2.2 pc, lo, st, hp)] := xg_blk (xfind_bk h)
theorem xg_op {f : xF} (ho : xget xoph op = some f) (h : f xidk d M (pc, ln, op, x, y, ix) tl lo st hp = some fs) : xLd d M (p0, (pc, ln, op, x, y, ix) :: tl, lo, st, hp) fs := by
  refine xLd.step ?_
  show xob (xget xoph op) (fun f => f xidk d M (pc, ln, op, x, y, ix) tl lo st hp) = _
  rw [ho]
  exact h
theorem xg_aload (h : xfind lo x = some va) (hi : xisr va = true) : xLd d M (p0, (pc, ln, 0, x, y, ix) :: tl, lo, st, hp) [(pc + ln, tl, lo, va :: st, hp)] := by
  refine xg_op (f := xh_aload) rfl ?_
  show xob (xfind lo x) (fun v => xif (xisr v) (xidk d M (pc + ln, tl, lo, v :: st, hp))) = _
  rw [h]
  show xif (xisr va) _ = _
  rw [hi]
  rfl
theorem xg_iload (h : xfind lo x = some va) (hi : xisi va = true) : xLd d M (p0, (pc, ln, 2, x, y, ix) :: tl, lo, st, hp) [(pc + ln, tl, lo, va :: st, hp)] := by
  refine xg_op (f := xh_iload) rfl ?_
  show xob (xfind lo x) (fun v => xif (xisi v) (xidk d M (pc + ln, tl, lo, v :: st, hp))) = _
  rw [h]
  show xif (xisi va) _ = _
  rw [hi]
  rfl
theorem xg_const : xLd d M (p0, (pc, ln, 3, x, y, ix) :: tl, lo, st, hp) [(pc + ln, tl, lo, (0, x) :: st, hp)] := xg_op (f := xh_const) rfl rfl
theorem xg_bip : xLd d M (p0, (pc, ln, 4, x, y, ix) :: tl, lo, st, hp) [(pc + ln, tl, lo, (0, x) :: st, hp)] := xg_op (f := xh_const) rfl rfl
theorem xg_sip : xLd d M (p0, (pc, ln, 5, x, y, ix) :: tl, lo, st, hp) [(pc + ln, tl, lo, (0, x) :: st, hp)] := xg_op (f := xh_const) rfl rfl
theorem xg_goto : xLd d M (p0, (pc, ln, 8, x, y, ix) :: tl, lo, st, hp) [(x, [], lo, st, hp)] := xg_op (f := xh_goto) rfl rfl
theorem xg_dup (h : (xisi va || xisr va) = true) : xLd d M (p0, (pc, ln, 19, x, y, ix) :: tl, lo, va :: st, hp) [(pc + ln, tl, lo, va :: va :: st, hp)] := by
  refine xg_op (f := xh_dup) rfl ?_
  show xif (xisi va || xisr va) (xidk d M (pc + ln, tl, lo, va :: va :: st, hp)) = _
  rw [h]
  rfl
theorem xg_dup2 (h : ((xisi va || xisr va) && (xisi vb || xisr vb)) = true) : xLd d M (p0, (pc, ln, 39, x, y, ix) :: tl, lo, va :: vb :: st, hp) [(pc + ln, tl, lo, va :: vb :: va :: vb :: st, hp)] := by
  refine xg_op (f := xh_dup2) rfl ?_
  show xif ((xisi va || xisr va) && (xisi vb || xisr vb)) (xidk d M (pc + ln, tl, lo, va :: vb :: va :: vb :: st, hp)) = _
  rw [h]
  rfl
theorem xg_istore (hi : xisi va = true) (hm : Nat.blt x M.2.2.1 = true) (hl : lo.filter (xkp x) = l1) : xLd d M (p0, (pc, ln, 15, x, y, ix) :: tl, lo, va :: st, hp) [(pc + ln, tl, (x, va) :: l1, st, hp)] := by
  refine xg_op (f := xh_istore) rfl ?_
  show xif (xisi va) (xif (Nat.blt x M.2.2.1) (xflt (xkp x) lo fun l => xidk d M (pc + ln, tl, (x, va) :: l, st, hp))) = _
  rw [hi, hm, xflt_eq, hl]
  rfl
theorem xg_iinc (h : xfind lo x = some (0, u)) (hm : Nat.blt x M.2.2.1 = true) (hz : (u + y) % 4294967296 = z) (hl : lo.filter (xkp x) = l1) : xLd d M (p0, (pc, ln, 9, x, y, ix) :: tl, lo, st, hp) [(pc + ln, tl, (x, (0, z)) :: l1, st, hp)] := by
  refine xg_op (f := xh_iinc) rfl ?_
  show xob (xfind lo x) (fun v => xif (Nat.beq v.1 0) (xif (Nat.blt x M.2.2.1) (xN ((v.2 + y) % 4294967296) fun z => xflt (xkp x) lo fun l => xidk d M (pc + ln, tl, (x, (0, z)) :: l, st, hp)))) = _
  rw [h]
  show xif (Nat.blt x M.2.2.1) (xN ((u + y) % 4294967296) fun z => xflt (xkp x) lo fun l => xidk d M (pc + ln, tl, (x, (0, z)) :: l, st, hp)) = _
  rw [hm, xN_eq, hz, xflt_eq, hl]
  rfl
theorem xg_bin {F : Nat → Nat → Nat} {chk : Nat → Nat → Bool} {al : Bool} {bo : xV → Nat × Nat} (ho : xget xoph op = some (xbin F chk al bo)) (ha : xnm hp.2.1 va = (0, u)) (hb : xnm hp.2.1 vb = (0, v)) (hk : chk u v = true) (hz : F u v = z) : xLd d M (p0, (pc, ln, op, x, y, ix) :: tl, lo, vb :: va :: st, hp) [(pc + ln, tl, lo, (0, z) :: st, hp)] := by
  refine xg_op ho ?_
  show xbin2 F chk al bo xidk d M (pc, ln, op, x, y, ix) tl lo st hp (xnm hp.2.1 va) (xnm hp.2.1 vb) = _
  rw [ha, hb]
  show xif (chk u v) (xN (F u v) fun z => xidk d M (pc + ln, tl, lo, (0, z) :: st, hp)) = _
  rw [hk, xN_eq, hz]
  rfl
theorem xg_iadd (ha : xnm hp.2.1 va = (0, u)) (hb : xnm hp.2.1 vb = (0, v)) (hz : (u + v) % 4294967296 = z) : xLd d M (p0, (pc, ln, 11, x, y, ix) :: tl, lo, vb :: va :: st, hp) [(pc + ln, tl, lo, (0, z) :: st, hp)] := xg_bin (F := fun a b => (a + b) % 4294967296) (chk := xyes) (al := true) (bo := xany) rfl ha hb rfl hz
theorem xg_isub (ha : xnm hp.2.1 va = (0, u)) (hb : xnm hp.2.1 vb = (0, v)) (hz : (u + (4294967296 - v)) % 4294967296 = z) : xLd d M (p0, (pc, ln, 18, x, y, ix) :: tl, lo, vb :: va :: st, hp) [(pc + ln, tl, lo, (0, z) :: st, hp)] := xg_bin (F := fun a b => (a + (4294967296 - b)) % 4294967296) (chk := xyes) (al := true) (bo := xany) rfl ha hb rfl hz
theorem xg_imul (ha : xnm hp.2.1 va = (0, u)) (hb : xnm hp.2.1 vb = (0, v)) (hz : (u * v) % 4294967296 = z) : xLd d M (p0, (pc, ln, 16, x, y, ix) :: tl, lo, vb :: va :: st, hp) [(pc + ln, tl, lo, (0, z) :: st, hp)] := xg_bin (F := fun a b => (a * b) % 4294967296) (chk := xyes) (al := true) (bo := xany) rfl ha hb rfl hz
theorem xchk_ok (hu : u < 2147483648) (h0 : 0 < v) (hv : v < 2147483648) : (Nat.blt u 2147483648 && (Nat.blt 0 v && Nat.blt v 2147483648)) = true := by
  rw [show Nat.blt u 2147483648 = true from Nat.ble_eq_true_of_le hu, show Nat.blt 0 v = true from Nat.ble_eq_true_of_le h0, show Nat.blt v 2147483648 = true from Nat.ble_eq_true_of_le hv]
  rfl
theorem xg_idiv (ha : xnm hp.2.1 va = (0, u)) (hb : xnm hp.2.1 vb = (0, v)) (hu : u < 2147483648) (h0 : 0 < v) (hv : v < 2147483648) (hz : u / v = z) : xLd d M (p0, (pc, ln, 20, x, y, ix) :: tl, lo, vb :: va :: st, hp) [(pc + ln, tl, lo, (0, z) :: st, hp)] := xg_bin (F := fun a b => a / b) (chk := fun a b => Nat.blt a 2147483648 && (Nat.blt 0 b && Nat.blt b 2147483648)) (al := false) (bo := xany) rfl ha hb (xchk_ok hu h0 hv) hz
theorem xg_irem (ha : xnm hp.2.1 va = (0, u)) (hb : xnm hp.2.1 vb = (0, v)) (hu : u < 2147483648) (h0 : 0 < v) (hv : v < 2147483648) (hz : u % v = z) : xLd d M (p0, (pc, ln, 21, x, y, ix) :: tl, lo, vb :: va :: st, hp) [(pc + ln, tl, lo, (0, z) :: st, hp)] := xg_bin (F := fun a b => a % b) (chk := fun a b => Nat.blt a 2147483648 && (Nat.blt 0 b && Nat.blt b 2147483648)) (al := false) (bo := xany) rfl ha hb (xchk_ok hu h0 hv) hz
theorem xg_ishl (ha : xnm hp.2.1 va = (0, u)) (hb : xnm hp.2.1 vb = (0, v)) (hv : v < 32) (hz : (u * 2 ^ v) % 4294967296 = z) : xLd d M (p0, (pc, ln, 26, x, y, ix) :: tl, lo, vb :: va :: st, hp) [(pc + ln, tl, lo, (0, z) :: st, hp)] := xg_bin (F := fun a b => (a * 2 ^ b) % 4294967296) (chk := fun _ b => Nat.blt b 32) (al := false) (bo := xany) rfl ha hb (Nat.ble_eq_true_of_le hv) hz
-- branches
def xcr0 (y : Nat) (e l g : Bool) : Bool := cond (Nat.ble y 1) e (cond (Nat.ble y 3) l g)
def xcq (y u v : Nat) : Bool := xcr0 y (Nat.beq u v) (Nat.blt (xbs u) (xbs v)) (Nat.blt (xbs v) (xbs u))
def xjm1 (y : Nat) (b : Bool) : Bool := cond (Nat.beq (y % 2) 0) b (!b)
def xjmp (y u v : Nat) : Bool := xjm1 y (xcq y u v)
theorem xlt_of {a b : xV} (ha : Nat.beq a.1 0 = true) (hb : Nat.beq b.1 0 = true) : xlt bd fc a b = cond (Nat.blt (xbs a.2) (xbs b.2)) (1, 0, 0) (0, 0, 0) := by
  unfold xlt
  rw [ha, cond_true]
  unfold xlt0
  rw [hb, cond_true]
  unfold xltA
  rfl
theorem xeq_of {a b : xV} (ha : Nat.beq a.1 0 = true) (hb : Nat.beq b.1 0 = true) : xeq bd a b = cond (Nat.beq a.2 b.2) (1, 0, 0) (0, 0, 0) := by
  unfold xeq
  rw [ha, cond_true]
  unfold xeq0
  rw [hb, cond_true]
theorem xask_of {a b : xV} (ha : Nat.beq a.1 0 = true) (hb : Nat.beq b.1 0 = true) : xask bd fc y a b = cond (xcq y a.2 b.2) (1, 0, 0) (0, 0, 0) := by
  unfold xask xcq xcr0
  cases Nat.ble y 1 with
  | true =>
    rw [cond_true, cond_true]
    exact xeq_of ha hb
  | false =>
    rw [cond_false, cond_false]
    cases Nat.ble y 3 with
    | true =>
      rw [cond_true, cond_true]
      exact xlt_of ha hb
    | false =>
      rw [cond_false, cond_false]
      exact xlt_of hb ha
theorem xask00 : xask bd fc y (0, u) (0, v) = cond (xcq y u v) (1, 0, 0) (0, 0, 0) := xask_of (a := (0, u)) (b := (0, v)) rfl rfl
theorem xbr_ok (ha : va = (0, u)) (hb : vb = (0, v)) {s0 : List xV} : xbr xidk d M (pc, ln, op, x, y, ix) tl lo s0 st hp va vb = some [cond (xjmp y u v) (x, [], lo, st, hp) (pc + ln, tl, lo, st, hp)] := by
  subst ha
  subst hb
  unfold xbr
  show xans (xask hp.2.1 hp.2.2.1 y (0, u) (0, v)) hp (fun t => cond (Nat.beq (y % 2) 0) (cond t (xidk d M (x, [], lo, st, hp)) (xidk d M (pc + ln, tl, lo, st, hp))) (cond t (xidk d M (pc + ln, tl, lo, st, hp)) (xidk d M (x, [], lo, st, hp)))) _ = _
  rw [xask00]
  unfold xjmp xjm1
  cases xcq y u v with
  | true =>
    show cond (Nat.beq (y % 2) 0) (xidk d M (x, [], lo, st, hp)) (xidk d M (pc + ln, tl, lo, st, hp)) = _
    cases Nat.beq (y % 2) 0 <;> rfl
  | false =>
    show cond (Nat.beq (y % 2) 0) (xidk d M (pc + ln, tl, lo, st, hp)) (xidk d M (x, [], lo, st, hp)) = _
    cases Nat.beq (y % 2) 0 <;> rfl
theorem xg_ic (ia : (xisi va && xisi vb) = true) (ha : xnm hp.2.1 va = (0, u)) (hb : xnm hp.2.1 vb = (0, v)) : xLd d M (p0, (pc, ln, 6, x, y, ix) :: tl, lo, vb :: va :: st, hp) [cond (xjmp y u v) (x, [], lo, st, hp) (pc + ln, tl, lo, st, hp)] := by
  refine xg_op (f := xh_icmp) rfl ?_
  show xif (xisi va && xisi vb) (xbr xidk d M (pc, ln, 6, x, y, ix) tl lo (vb :: va :: st) st hp (xnm hp.2.1 va) (xnm hp.2.1 vb)) = _
  rw [ia]
  exact xbr_ok ha hb
theorem xg_if (ia : xisi va = true) (ha : xnm hp.2.1 va = (0, u)) : xLd d M (p0, (pc, ln, 7, x, y, ix) :: tl, lo, va :: st, hp) [cond (xjmp y u 0) (x, [], lo, st, hp) (pc + ln, tl, lo, st, hp)] := by
  refine xg_op (f := xh_if) rfl ?_
  show xif (xisi va) (xbr xidk d M (pc, ln, 7, x, y, ix) tl lo (va :: st) st hp (xnm hp.2.1 va) (0, 0)) = _
  rw [ia]
  exact xbr_ok ha rfl
theorem xg_icT (ia : (xisi va && xisi vb) = true) (ha : xnm hp.2.1 va = (0, u)) (hb : xnm hp.2.1 vb = (0, v)) (h : xjmp y u v = true) : xLd d M (p0, (pc, ln, 6, x, y, ix) :: tl, lo, vb :: va :: st, hp) [(x, [], lo, st, hp)] := by
  have k := xg_ic (d := d) (M := M) (p0 := p0) (pc := pc) (ln := ln) (x := x) (y := y) (ix := ix) (tl := tl) (lo := lo) (st := st) (hp := hp) ia ha hb
  rw [h] at k
  exact k
theorem xg_icF (ia : (xisi va && xisi vb) = true) (ha : xnm hp.2.1 va = (0, u)) (hb : xnm hp.2.1 vb = (0, v)) (h : xjmp y u v = false) : xLd d M (p0, (pc, ln, 6, x, y, ix) :: tl, lo, vb :: va :: st, hp) [(pc + ln, tl, lo, st, hp)] := by
  have k := xg_ic (d := d) (M := M) (p0 := p0) (pc := pc) (ln := ln) (x := x) (y := y) (ix := ix) (tl := tl) (lo := lo) (st := st) (hp := hp) ia ha hb
  rw [h] at k
  exact k
theorem xg_ifT (ia : xisi va = true) (ha : xnm hp.2.1 va = (0, u)) (h : xjmp y u 0 = true) : xLd d M (p0, (pc, ln, 7, x, y, ix) :: tl, lo, va :: st, hp) [(x, [], lo, st, hp)] := by
  have k := xg_if (d := d) (M := M) (p0 := p0) (pc := pc) (ln := ln) (x := x) (y := y) (ix := ix) (tl := tl) (lo := lo) (st := st) (hp := hp) ia ha
  rw [h] at k
  exact k
theorem xg_ifF (ia : xisi va = true) (ha : xnm hp.2.1 va = (0, u)) (h : xjmp y u 0 = false) : xLd d M (p0, (pc, ln, 7, x, y, ix) :: tl, lo, va :: st, hp) [(pc + ln, tl, lo, st, hp)] := by
  have k := xg_if (d := d) (M := M) (p0 := p0) (pc := pc) (ln := ln) (x := x) (y := y) (ix := ix) (tl := tl) (lo := lo) (st := st) (hp := hp) ia ha
  rw [h] at k
  exact k
theorem xblt_t (h : u < v) : Nat.blt u v = true := Nat.ble_eq_true_of_le h
theorem xblt_f (h : v ≤ u) : Nat.blt u v = false := by
  cases e : Nat.blt u v with
  | false => rfl
  | true => have := xblt e; omega
theorem xbeq_f (h : u ≠ v) : Nat.beq u v = false := by
  cases e : Nat.beq u v with
  | false => rfl
  | true => exact absurd (xbeq e) h
theorem xbs_small (h : u < 2147483648) : xbs u = u + 2147483648 := by
  unfold xbs
  omega
theorem xjm_2 {e l g : Bool} : xjm1 2 (xcr0 2 e l g) = l := rfl
theorem xjm_3 {e l g : Bool} : xjm1 3 (xcr0 3 e l g) = !l := rfl
theorem xjm_4 {e l g : Bool} : xjm1 4 (xcr0 4 e l g) = g := rfl
theorem xjm_5 {e l g : Bool} : xjm1 5 (xcr0 5 e l g) = !g := rfl
theorem xjm_0 {e l g : Bool} : xjm1 0 (xcr0 0 e l g) = e := rfl
theorem xjm_1 {e l g : Bool} : xjm1 1 (xcr0 1 e l g) = !e := rfl
theorem xj2 : xjmp 2 u v = Nat.blt (xbs u) (xbs v) := by
  unfold xjmp xcq
  exact xjm_2
theorem xj3 : xjmp 3 u v = !(Nat.blt (xbs u) (xbs v)) := by
  unfold xjmp xcq
  exact xjm_3
theorem xj4 : xjmp 4 u v = Nat.blt (xbs v) (xbs u) := by
  unfold xjmp xcq
  exact xjm_4
theorem xj5 : xjmp 5 u v = !(Nat.blt (xbs v) (xbs u)) := by
  unfold xjmp xcq
  exact xjm_5
theorem xj0 : xjmp 0 u v = Nat.beq u v := by
  unfold xjmp xcq
  exact xjm_0
theorem xj1 : xjmp 1 u v = !(Nat.beq u v) := by
  unfold xjmp xcq
  exact xjm_1
theorem xj_eqT (h : u = v) : xjmp 0 u v = true := by rw [xj0, h, Nat.beq_refl]
theorem xj_eqF (h : u ≠ v) : xjmp 0 u v = false := by rw [xj0, xbeq_f h]
theorem xj_neT (h : u ≠ v) : xjmp 1 u v = true := by rw [xj1, xbeq_f h]; rfl
theorem xj_neF (h : u = v) : xjmp 1 u v = false := by rw [xj1, h, Nat.beq_refl]; rfl
theorem xbl_t (h : u < v) (hv : v < 2147483648) : Nat.blt (xbs u) (xbs v) = true := by
  rw [xbs_small hv, xbs_small (Nat.lt_trans h hv)]
  exact xblt_t (by omega)
theorem xbl_f (h : v ≤ u) (hu : u < 2147483648) : Nat.blt (xbs u) (xbs v) = false := by
  rw [xbs_small hu, xbs_small (Nat.lt_of_le_of_lt h hu)]
  exact xblt_f (by omega)
theorem xj_ltT (h : u < v) (hv : v < 2147483648) : xjmp 2 u v = true := by rw [xj2]; exact xbl_t h hv
theorem xj_ltF (h : v ≤ u) (hu : u < 2147483648) : xjmp 2 u v = false := by rw [xj2]; exact xbl_f h hu
theorem xj_geT (h : v ≤ u) (hu : u < 2147483648) : xjmp 3 u v = true := by rw [xj3, xbl_f h hu]; rfl
theorem xj_geF (h : u < v) (hv : v < 2147483648) : xjmp 3 u v = false := by rw [xj3, xbl_t h hv]; rfl
theorem xj_gtT (h : v < u) (hu : u < 2147483648) : xjmp 4 u v = true := by rw [xj4]; exact xbl_t h hu
theorem xj_gtF (h : u ≤ v) (hv : v < 2147483648) : xjmp 4 u v = false := by rw [xj4]; exact xbl_f h hv
theorem xj_leT (h : u ≤ v) (hv : v < 2147483648) : xjmp 5 u v = true := by rw [xj5, xbl_f h hv]; rfl
theorem xj_leF (h : v < u) (hu : u < 2147483648) : xjmp 5 u v = false := by rw [xj5, xbl_t h hu]; rfl
-- cells
theorem xg_getf (h : wget hp.1 k = some (.inl (x, fl))) (hv : xget fl y = some va) : xLd d M (p0, (pc, ln, 1, x, y, ix) :: tl, lo, (2, k) :: st, hp) [(pc + ln, tl, lo, va :: st, hp)] := by
  refine xg_op (f := xh_getfield) rfl ?_
  show xob (wget hp.1 k) (fun q => xobj q (xgf1 xidk d M (pc, ln, 1, x, y, ix) tl lo st hp)) = _
  rw [h]
  show xif (Nat.beq x x) (xob (xget fl y) fun v => xidk d M (pc + ln, tl, lo, v :: st, hp)) = _
  rw [Nat.beq_refl, hv]
  rfl
theorem xg_put {f : xV → Bool} (ho : xget xoph op = some (xput f)) (h : wget hp.1 k = some (.inl (x, fl))) (hv : xget fl y = some vb) (hi : f va = true) : xLd d M (p0, (pc, ln, op, x, y, ix) :: tl, lo, va :: (2, k) :: st, hp) [(pc + ln, tl, lo, st, (wset (.inl (x, xset va fl y)) hp.1 k, hp.2))] := by
  refine xg_op ho ?_
  show xif (f va && Nat.beq 2 2) (xob (wget hp.1 k) fun q => xobj q (xpf1 xidk d M (pc, ln, op, x, y, ix) tl lo st hp va k)) = _
  rw [hi, h]
  show xif (Nat.beq x x) (xob (xget fl y) fun _ => xidk d M (pc + ln, tl, lo, st, xwr hp k (.inl (x, xset va fl y)))) = _
  rw [Nat.beq_refl, hv]
  rfl
theorem xg_iald (h : wget hp.1 k = some (.inr (0, L, t, us))) (hi : xnm hp.2.1 va = (0, n)) (hn : n < L) (hv : xat 0 us n = vb) : xLd d M (p0, (pc, ln, 10, x, y, ix) :: tl, lo, va :: (2, k) :: st, hp) [(pc + ln, tl, lo, vb :: st, hp)] := by
  refine xg_op (f := xh_iaload) rfl ?_
  show xob (wget hp.1 k) (fun q => xarr q (xald1 (fun k => Nat.beq k 0) xidk d M (pc, ln, 10, x, y, ix) tl lo st hp (xnm hp.2.1 va))) = _
  rw [h, hi]
  show xif (true && (true && Nat.blt n L)) (xidk d M (pc + ln, tl, lo, xat 0 us n :: st, hp)) = _
  rw [xblt_t hn, hv]
  rfl
theorem xg_alen (h : wget hp.1 k = some (.inr (c, L, t, us))) : xLd d M (p0, (pc, ln, 31, x, y, ix) :: tl, lo, (2, k) :: st, hp) [(pc + ln, tl, lo, (0, L) :: st, hp)] := by
  refine xg_op (f := xh_alen) rfl ?_
  show xob (wget hp.1 k) (fun q => xarr q fun a => xidk d M (pc + ln, tl, lo, (0, a.2.1) :: st, hp)) = _
  rw [h]
  rfl
theorem xg_iast0 (h : wget hp.1 k = some (.inr (0, L, t, us))) (hi : xnm hp.2.1 va = (0, n)) (hv : xnm hp.2.1 vb = (0, u)) (ib : xisi vb = true) (hn : n < L) : xLd d M (p0, (pc, ln, 17, x, y, ix) :: tl, lo, vb :: va :: (2, k) :: st, hp) [cond (xsame (0, u) (xat 0 us n)) (pc + ln, tl, lo, st, hp) (pc + ln, tl, lo, st, (wset (.inr (0, L, t, (n, (0, u)) :: us)) hp.1 k, hp.2))] := by
  refine xg_op (f := xh_iastore) rfl ?_
  show xif (Nat.beq 2 2 && xisi vb) (xob (wget hp.1 k) fun q => xarr q fun a => xif (Nat.beq a.1 0) (xast1 xidk d M (pc, ln, 17, x, y, ix) tl lo st hp k (xnm hp.2.1 vb) (xnm hp.2.1 va) a)) = _
  rw [ib, h, hi, hv]
  show xif (true && Nat.blt n L) (cond (xsame (0, u) (xat 0 us n)) (xidk d M (pc + ln, tl, lo, st, hp)) (xidk d M (pc + ln, tl, lo, st, xwr hp k (.inr (0, L, t, (n, (0, u)) :: us))))) = _
  rw [xblt_t hn]
  cases xsame (0, u) (xat 0 us n) <;> rfl
theorem xsame_t (h : xsame va vb = true) : va = vb := by
  obtain ⟨h1, h2⟩ := Bool.and_eq_true_iff.mp h
  exact Prod.ext (xbeq h1) (xbeq h2)
/-- a row of numbers -/
def xRow (w : List (List xE)) (k L t : Nat) (f : Nat → Nat) : Prop := ∃ us, wget w k = some (.inr (0, L, t, us)) ∧ ∀ j, j < L → xat 0 us j = (0, f j)
theorem wset_shp {α : Type} {v a : α} {w : List (List α)} {k : Nat} (h : wget w k = some a) : (wset v w k).map List.length = w.map List.length := by
  obtain ⟨c, h1, h2⟩ := wget_some h
  rw [wset_of h1, xset_eq, xset_eq, List.map_set, List.length_set]
  rw [xget_eq] at h1
  obtain ⟨h3, h4⟩ := List.getElem?_eq_some_iff.mp h1
  have h5 : k / 10 < (w.map List.length).length := by rw [List.length_map]; exact h3
  have e : c.length = (w.map List.length)[k / 10]'h5 := by rw [List.getElem_map, h4]
  rw [e]
  exact List.set_getElem_self _
def xBut (k : Nat) (w w' : List (List xE)) : Prop := (∀ j, j ≠ k → wget w' j = wget w j) ∧ w'.map List.length = w.map List.length
theorem xBut.rf : xBut k w w := ⟨fun _ _ => rfl, rfl⟩
theorem xBut.set {q0 q : xE} (h : wget w k = some q0) : xBut k w (wset q w k) := ⟨fun _ hj => wget_set_ne h hj, wset_shp h⟩
theorem xBut.tr {w1 w2 w3 : List (List xE)} (h : xBut k w1 w2) (h' : xBut k w2 w3) : xBut k w1 w3 := ⟨fun j hj => (h'.1 j hj).trans (h.1 j hj), h'.2.trans h.2⟩
theorem xat_cons {q : xV} : xat 0 ((n, q) :: us) u = cond (Nat.beq n u) q (xat 0 us u) := by
  show Option.rec (motive := fun _ => xV) (cond (Nat.beq 0 4) (3, 0) (cond (Nat.beq 0 3) (4, 0) (0, 0))) (fun v => v) (cond (Nat.beq n u) (some q) (xfind us u)) = _
  cases Nat.beq n u <;> rfl
theorem xRow.get {f : Nat → Nat} {w : List (List xE)} (h : xRow w k L t f) : ∃ us, wget w k = some (.inr (0, L, t, us)) ∧ ∀ j, j < L → xat 0 us j = (0, f j) := h
theorem xg_iast {f : Nat → Nat} (h : xRow hp.1 k L t f) (hi : xnm hp.2.1 va = (0, n)) (hv : xnm hp.2.1 vb = (0, u)) (ib : xisi vb = true) (hn : n < L) : ∃ w', xLd d M (p0, (pc, ln, 17, x, y, ix) :: tl, lo, vb :: va :: (2, k) :: st, hp) [(pc + ln, tl, lo, st, (w', hp.2))] ∧ xRow w' k L t (fun j => if j = n then u else f j) ∧ xBut k hp.1 w' := by
  obtain ⟨us, h1, h2⟩ := h
  have q := xg_iast0 (d := d) (M := M) (p0 := p0) (pc := pc) (ln := ln) (x := x) (y := y) (ix := ix) (tl := tl) (lo := lo) (st := st) h1 hi hv ib hn
  cases hs : xsame (0, u) (xat 0 us n) with
  | true =>
    rw [hs] at q
    have e := xsame_t hs
    refine ⟨hp.1, q, ⟨us, h1, fun j hj => ?_⟩, xBut.rf⟩
    show xat 0 us j = (0, if j = n then u else f j)
    by_cases hj' : j = n
    · subst hj'
      rw [if_pos rfl]
      exact e.symm
    · rw [if_neg hj']
      exact h2 j hj
  | false =>
    rw [hs] at q
    refine ⟨_, q, ⟨(n, (0, u)) :: us, wget_set_self h1, fun j hj => ?_⟩, xBut.set h1⟩
    rw [xat_cons]
    show cond (Nat.beq n j) (0, u) (xat 0 us j) = (0, if j = n then u else f j)
    by_cases hj' : j = n
    · subst hj'
      rw [if_pos rfl, Nat.beq_refl]
      rfl
    · rw [if_neg hj', xbeq_f (fun z => hj' z.symm)]
      exact h2 j hj
noncomputable def xihc (d0 : Nat) (M0 : xM) (σ0 φ : xS) : xK := fun d M σ => @ite _ (d = d0 ∧ M = M0 ∧ σ = σ0) (Classical.propDecidable _) (some [φ]) (some [σ])
theorem xihc_at {φ : xS} : xihc d M σ φ d M σ = some [φ] := if_pos ⟨rfl, rfl, rfl⟩
theorem xihc_ne {M0 : xM} {σ0 φ : xS} (h : d ≠ d0) : xihc d0 M0 σ0 φ d M σ = some [σ] := if_neg (fun z => h z.1)
theorem xihc_ok {φ : xS} (h : xLd d M σ [φ]) : xIHok (xihc d M σ φ) := by
  intro d1 M1 σ1 fs1 h1 hM hpos
  by_cases hc : d1 = d ∧ M1 = M ∧ σ1 = σ
  · obtain ⟨rfl, rfl, rfl⟩ := hc
    rw [xihc_at] at h1
    cases h1
    exact h hM hpos
  · have e : xihc d M σ φ d1 M1 σ1 = some [σ1] := if_neg hc
    rw [e] at h1
    cases h1
    exact xLd.rf hM hpos
/-- what a method does: the world goes from w to w', its answer is r -/
def xPr (d : Nat) (M : xM) (vs : List xV) (w : List (List xE)) (bd : List (Nat × Nat)) (fc : List (Nat × Nat × Bool)) (rr : Nat × Nat) (r : List xV) (w' : List (List xE)) : Prop := ∃ φ : xS, xLd d M (0, [], xarg vs 0, [], (w, bd, fc, 0, 0, rr)) [φ] ∧ xret M.2.2.2.2.2.1 φ = some r ∧ φ.2.2.2.2 = (w', bd, fc, 0, 0, rr)
theorem xble0 : Nat.ble 0 n = true := Nat.ble_eq_true_of_le (Nat.zero_le n)
theorem xc2_ok {φ : xS} {e : xI} (hr : xret M'.2.2.2.2.2.1 φ = some r) (hφ : φ.2.2.2.2 = (w', bd, fc, 0, 0, rr)) (hb : ((Nat.ble (cn + M'.2.2.2.2.2.2.1) M.2.2.2.2.2.2.1 && Nat.ble (xwds vs) M'.2.2.1) && (Nat.ble (sl + M'.2.2.2.2.2.2.2.1) M.2.2.2.2.2.2.2.1 && Nat.ble (xwds rest) 8)) = true) : xcall2 (xihc d M' (0, [], xarg vs 0, [], (w, bd, fc, 0, 0, rr)) φ) (d + 1) M e tl lo (w, bd, fc, cn, sl, rr) M' d vs rest = some [(e.1 + e.2.1, tl, lo, r ++ rest, (w', bd, fc, cn + M'.2.2.2.2.2.2.1, sl + M'.2.2.2.2.2.2.2.1, rr))] := by
  unfold xcall2
  show xif ((Nat.ble (cn + M'.2.2.2.2.2.2.1) M.2.2.2.2.2.2.1 && Nat.ble (xwds vs) M'.2.2.1) && (Nat.ble (sl + M'.2.2.2.2.2.2.2.1) M.2.2.2.2.2.2.2.1 && Nat.ble (xwds rest) 8)) (xob (xihc d M' (0, [], xarg vs 0, [], (w, bd, fc, 0, 0, rr)) φ d M' (0, [], xarg vs 0, [], (w, bd, fc, 0, 0, rr))) fun fs => xall (xihc d M' (0, [], xarg vs 0, [], (w, bd, fc, 0, 0, rr)) φ (d + 1) M) (xback M' e tl lo rest (w, bd, fc, cn, sl, rr)) fs) = _
  rw [hb, xihc_at]
  show xob (xback M' e tl lo rest (w, bd, fc, cn, sl, rr) φ) (xihc d M' (0, [], xarg vs 0, [], (w, bd, fc, 0, 0, rr)) φ (d + 1) M) = _
  have e1 : xback M' e tl lo rest (w, bd, fc, cn, sl, rr) φ = some (e.1 + e.2.1, tl, lo, r ++ rest, (w', bd, fc, cn + M'.2.2.2.2.2.2.1, sl + M'.2.2.2.2.2.2.2.1, rr)) := by
    unfold xback
    rw [hr, hφ]
    show xif (Nat.ble 0 M'.2.2.2.2.2.2.1 && Nat.ble 0 M'.2.2.2.2.2.2.2.1) (xN (cn + M'.2.2.2.2.2.2.1) fun cn => xN (sl + M'.2.2.2.2.2.2.2.1) fun sl => some (e.1 + e.2.1, tl, lo, r ++ rest, (w', bd, fc, cn, sl, rr))) = _
    rw [xble0, xble0, xN_eq, xN_eq]
    rfl
  rw [e1]
  exact xihc_ne (by omega)
theorem xg_callS (hk : mget x = some M') (hP : xPr d M' vs w bd fc rr r w') (hy : y % 8 = 2) (hn : Nat.beq (st.take M'.2.2.2.2.1).length M'.2.2.2.2.1 = true) (hv : (st.take M'.2.2.2.2.1).reverse = vs) (hr : st.drop M'.2.2.2.2.1 = rest) (hb : ((Nat.ble (cn + M'.2.2.2.2.2.2.1) M.2.2.2.2.2.2.1 && Nat.ble (xwds vs) M'.2.2.1) && (Nat.ble (sl + M'.2.2.2.2.2.2.2.1) M.2.2.2.2.2.2.2.1 && Nat.ble (xwds rest) 8)) = true) : xLd (d + 1) M (p0, (pc, ln, 13, x, y, ix) :: tl, lo, st, (w, bd, fc, cn, sl, rr)) [(pc + ln, tl, lo, r ++ rest, (w', bd, fc, cn + M'.2.2.2.2.2.2.1, sl + M'.2.2.2.2.2.2.2.1, rr))] := by
  obtain ⟨φ, h1, h2, h3⟩ := hP
  intro hM hpos
  refine xstep_ok xmall (xihc_ok h1) (d + 1) M _ _ ?_ hM hpos
  show xob (mget x) (fun M' => xcall1 (xihc d _ (0, [], xarg vs 0, [], (w, bd, fc, 0, 0, rr)) φ) (d + 1) M (pc, ln, 13, x, y, ix) tl lo st (w, bd, fc, cn, sl, rr) M' d) = _
  rw [hk]
  show xcall1 (xihc d M' (0, [], xarg vs 0, [], (w, bd, fc, 0, 0, rr)) φ) (d + 1) M (pc, ln, 13, x, y, ix) tl lo st (w, bd, fc, cn, sl, rr) M' d = _
  unfold xcall1
  rw [hn, hv, hr]
  show cond (Nat.ble (y % 8) 1) _ (cond (Nat.ble (y % 8) 3) (xcall2 (xihc d M' (0, [], xarg vs 0, [], (w, bd, fc, 0, 0, rr)) φ) (d + 1) M (pc, ln, 13, x, y, ix) tl lo (w, bd, fc, cn, sl, rr) M' d vs rest) _) = _
  rw [hy]
  exact xc2_ok h2 h3 hb
theorem xg_callV {j : Nat} (hk : mget x = some M') (hP : xPr d M' ((2, j) :: vs) w bd fc rr r w') (hy : y % 8 = 0) (ho : wget w j = some (.inl (y / 8, fl))) (hn : Nat.beq (st.take M'.2.2.2.2.1).length M'.2.2.2.2.1 = true) (hv : (st.take M'.2.2.2.2.1).reverse = vs) (hr : st.drop M'.2.2.2.2.1 = (2, j) :: rest) (hb : ((Nat.ble (cn + M'.2.2.2.2.2.2.1) M.2.2.2.2.2.2.1 && Nat.ble (xwds ((2, j) :: vs)) M'.2.2.1) && (Nat.ble (sl + M'.2.2.2.2.2.2.2.1) M.2.2.2.2.2.2.2.1 && Nat.ble (xwds rest) 8)) = true) : xLd (d + 1) M (p0, (pc, ln, 13, x, y, ix) :: tl, lo, st, (w, bd, fc, cn, sl, rr)) [(pc + ln, tl, lo, r ++ rest, (w', bd, fc, cn + M'.2.2.2.2.2.2.1, sl + M'.2.2.2.2.2.2.2.1, rr))] := by
  obtain ⟨φ, h1, h2, h3⟩ := hP
  intro hM hpos
  refine xstep_ok xmall (xihc_ok h1) (d + 1) M _ _ ?_ hM hpos
  show xob (mget x) (fun M' => xcall1 (xihc d _ (0, [], xarg ((2, j) :: vs) 0, [], (w, bd, fc, 0, 0, rr)) φ) (d + 1) M (pc, ln, 13, x, y, ix) tl lo st (w, bd, fc, cn, sl, rr) M' d) = _
  rw [hk]
  show xcall1 (xihc d M' (0, [], xarg ((2, j) :: vs) 0, [], (w, bd, fc, 0, 0, rr)) φ) (d + 1) M (pc, ln, 13, x, y, ix) tl lo st (w, bd, fc, cn, sl, rr) M' d = _
  unfold xcall1
  rw [hn, hv, hr]
  show cond (Nat.ble (y % 8) 1) (xob (wget w j) fun q => xobj q fun o => xif (Nat.beq o.1 (y / 8)) (xcall2 (xihc d M' (0, [], xarg ((2, j) :: vs) 0, [], (w, bd, fc, 0, 0, rr)) φ) (d + 1) M (pc, ln, 13, x, y, ix) tl lo (w, bd, fc, cn, sl, rr) M' d ((2, j) :: vs) rest)) _ = _
  rw [hy, ho]
  show xif (Nat.beq (y / 8) (y / 8)) _ = _
  rw [Nat.beq_refl]
  exact xc2_ok h2 h3 hb
end XCH
/-- to one end, of which something is known -/
def xTo (d : Nat) (M : xM) (σ : xS) (P : xS → Prop) : Prop := ∃ τ, xLd d M σ [τ] ∧ P τ
def xEnd (rk : Nat) (r : List xV) (hp : xH) (φ : xS) : Prop := xret rk φ = some r ∧ φ.2.2.2.2 = hp
abbrev xHr := List (Nat × Nat) × List (Nat × Nat × Bool) × Nat × Nat × Nat × Nat
section XTO
variable {d p0 pc ln op x y ix u v z k c n t L j : Nat} {M M' : xM} {σ τ : xS} {P P' : xS → Prop} {tl b cs : List xI} {lo l1 : xLo} {st rest vs rs : List xV} {hp : xH} {hr : xHr} {va vb : xV} {w w' : List (List xE)} {bd : List (Nat × Nat)} {fc : List (Nat × Nat × Bool)} {cn sl cn1 sl1 : Nat} {rr : Nat × Nat} {fl fl1 : List xV} {us : List (Nat × xV)} {r : List xV} {Q : List (List xE) → Prop} {f : Nat → Nat}
theorem xg_t (h1 : xLd d M σ [τ]) (h2 : xTo d M τ P) : xTo d M σ P := by
  obtain ⟨φ, h3, h4⟩ := h2
  exact ⟨φ, xthen h1 h3, h4⟩
theorem xg_e (h : P σ) : xTo d M σ P := ⟨σ, xLd.rf, h⟩
theorem xTo.bind (h1 : xTo d M σ P) (h2 : ∀ τ, P τ → xTo d M τ P') : xTo d M σ P' := by
  obtain ⟨φ, h3, h4⟩ := h1
  exact xg_t h3 (h2 φ h4)
theorem xTo.imp (h1 : xTo d M σ P) (h2 : ∀ τ, P τ → P' τ) : xTo d M σ P' := by
  obtain ⟨φ, h3, h4⟩ := h1
  exact ⟨φ, h3, h2 φ h4⟩
theorem xnm0 : xnm bd (0, u) = (0, u) := rfl
theorem xrel_sub {α β : Type} {R : α → β → Prop} {l : List α} {l' : List β} (h : xrel R l l') : ∀ {m : List α}, (∀ q ∈ m, q ∈ l) → ∃ m', xrel R m m' ∧ ∀ y ∈ m', y ∈ l'
  | [], _ => ⟨[], trivial, fun _ h => absurd h List.not_mem_nil⟩
  | a :: m, hs => by
    obtain ⟨m', h1, h2⟩ := xrel_sub h (m := m) (fun q hq => hs q (List.mem_cons_of_mem _ hq))
    have h3 := hs a List.mem_cons_self
    obtain ⟨i, hi⟩ := List.mem_iff_getElem?.mp h3
    rw [← xget_eq] at hi
    obtain ⟨b, h4, h5⟩ := xrel_get h hi
    rw [xget_eq] at h4
    refine ⟨b :: m', ⟨h5, h1⟩, fun y hy => ?_⟩
    rcases List.mem_cons.mp hy with rfl | hy
    · exact List.mem_of_getElem? h4
    · exact h2 y hy
/-- some locals are forgotten, the others put in order -/
theorem xg_drop (hs : ∀ q ∈ l1, q ∈ lo) : xLd d M (pc, cs, lo, st, hp) [(pc, cs, l1, st, hp)] := by
  intro hM hpos p l e R s m args below meth cc D A g cw0 tys0 io0 Q C hQ cw tys io H locs ls lv sv hE hK hP hD hS hlv hlo hst hh
  obtain ⟨lv', h1, h2⟩ := xrel_sub hlo hs
  exact hQ _ List.mem_cons_self hpos cw tys io H locs ls lv' sv hE hK hP hD hS ⟨hlv.1, hlv.2.1, fun q hq => hlv.2.2 q (h2 q hq)⟩ h1 hst hh
theorem xg_putK {g : xV → Bool} (ho : xget xoph op = some (xput g)) (h : wget w k = some (.inl (x, fl))) (hv : xget fl y = some vb) (hi : g va = true) (hx : xset va fl y = fl1) (K : ∀ w', wget w' k = some (.inl (x, fl1)) → xBut k w w' → xTo d M (pc + ln, tl, lo, st, (w', hr)) P) : xTo d M (p0, (pc, ln, op, x, y, ix) :: tl, lo, va :: (2, k) :: st, (w, hr)) P := by
  subst hx
  exact xg_t (xg_put (hp := (w, hr)) ho h hv hi) (K _ (wget_set_self h) (xBut.set h))
theorem xg_putI (h : wget w k = some (.inl (x, fl))) (hv : xget fl y = some vb) (hi : xisi va = true) (hx : xset va fl y = fl1) (K : ∀ w', wget w' k = some (.inl (x, fl1)) → xBut k w w' → xTo d M (pc + ln, tl, lo, st, (w', hr)) P) : xTo d M (p0, (pc, ln, 14, x, y, ix) :: tl, lo, va :: (2, k) :: st, (w, hr)) P := xg_putK (g := xisi) rfl h hv hi hx K
theorem xg_putZ (h : wget w k = some (.inl (x, fl))) (hv : xget fl y = some vb) (hi : xis01 va = true) (hx : xset va fl y = fl1) (K : ∀ w', wget w' k = some (.inl (x, fl1)) → xBut k w w' → xTo d M (pc + ln, tl, lo, st, (w', hr)) P) : xTo d M (p0, (pc, ln, 59, x, y, ix) :: tl, lo, va :: (2, k) :: st, (w, hr)) P := xg_putK (g := xis01) rfl h hv hi hx K
theorem xg_iastK (h : xRow w k L t f) (hi : xnm hr.1 va = (0, n)) (hv : xnm hr.1 vb = (0, u)) (ib : xisi vb = true) (hn : n < L) (K : ∀ w', xRow w' k L t (fun j => if j = n then u else f j) → xBut k w w' → xTo d M (pc + ln, tl, lo, st, (w', hr)) P) : xTo d M (p0, (pc, ln, 17, x, y, ix) :: tl, lo, vb :: va :: (2, k) :: st, (w, hr)) P := by
  obtain ⟨w', h1, h2, h3⟩ := xg_iast (d := d) (M := M) (p0 := p0) (pc := pc) (ln := ln) (x := x) (y := y) (ix := ix) (tl := tl) (lo := lo) (st := st) (hp := (w, hr)) h hi hv ib hn
  exact xg_t h1 (K w' h2 h3)
theorem xg_ialdR (h : xRow w k L t f) (hi : xnm hr.1 va = (0, n)) (hn : n < L) (hv : f n = u) : xLd d M (p0, (pc, ln, 10, x, y, ix) :: tl, lo, va :: (2, k) :: st, (w, hr)) [(pc + ln, tl, lo, (0, u) :: st, (w, hr))] := by
  obtain ⟨us, h1, h2⟩ := h
  subst hv
  exact xg_iald (hp := (w, hr)) h1 hi hn (h2 n hn)
def xPq (d : Nat) (M : xM) (vs : List xV) (w : List (List xE)) (bd : List (Nat × Nat)) (fc : List (Nat × Nat × Bool)) (rr : Nat × Nat) (r : List xV) (Q : List (List xE) → Prop) : Prop := ∃ w', Q w' ∧ xPr d M vs w bd fc rr r w'
theorem xPr.of (h : xTo d M (0, [], xarg vs 0, [], (w, bd, fc, 0, 0, rr)) (xEnd M.2.2.2.2.2.1 r (w', bd, fc, 0, 0, rr))) : xPr d M vs w bd fc rr r w' := by
  obtain ⟨φ, h1, h2, h3⟩ := h
  exact ⟨φ, h1, h2, h3⟩
theorem xPq.of (h : xTo d M (0, [], xarg vs 0, [], (w, bd, fc, 0, 0, rr)) (fun φ => ∃ w', xEnd M.2.2.2.2.2.1 r (w', bd, fc, 0, 0, rr) φ ∧ Q w')) : xPq d M vs w bd fc rr r Q := by
  obtain ⟨φ, h1, w', ⟨h2, h3⟩, h4⟩ := h
  exact ⟨w', h4, φ, h1, h2, h3⟩
theorem xPq.pr (h : xPr d M vs w bd fc rr r w') : xPq d M vs w bd fc rr r (· = w') := ⟨w', rfl, h⟩
theorem xg_cV (M' : xM) (hk : mget x = some M') (hP : xPq d M' ((2, j) :: vs) w bd fc rr r Q) (hy : y % 8 = 0) (ho : wget w j = some (.inl (y / 8, fl))) (hn : Nat.beq (st.take M'.2.2.2.2.1).length M'.2.2.2.2.1 = true) (hv : (st.take M'.2.2.2.2.1).reverse = vs) (hr : st.drop M'.2.2.2.2.1 = (2, j) :: rest) (hb : ((Nat.ble (cn + M'.2.2.2.2.2.2.1) M.2.2.2.2.2.2.1 && Nat.ble (xwds ((2, j) :: vs)) M'.2.2.1) && (Nat.ble (sl + M'.2.2.2.2.2.2.2.1) M.2.2.2.2.2.2.2.1 && Nat.ble (xwds rest) 8)) = true) (hs : r ++ rest = rs) (h1 : cn + M'.2.2.2.2.2.2.1 = cn1) (h2 : sl + M'.2.2.2.2.2.2.2.1 = sl1) (K : ∀ w', Q w' → xTo (d + 1) M (pc + ln, tl, lo, rs, (w', bd, fc, cn1, sl1, rr)) P) : xTo (d + 1) M (p0, (pc, ln, 13, x, y, ix) :: tl, lo, st, (w, bd, fc, cn, sl, rr)) P := by
  obtain ⟨w', h3, h4⟩ := hP
  subst h1
  subst h2
  subst hs
  exact xg_t (xg_callV hk h4 hy ho hn hv hr hb) (K w' h3)
theorem xg_cS (M' : xM) (hk : mget x = some M') (hP : xPq d M' vs w bd fc rr r Q) (hy : y % 8 = 2) (hn : Nat.beq (st.take M'.2.2.2.2.1).length M'.2.2.2.2.1 = true) (hv : (st.take M'.2.2.2.2.1).reverse = vs) (hr : st.drop M'.2.2.2.2.1 = rest) (hb : ((Nat.ble (cn + M'.2.2.2.2.2.2.1) M.2.2.2.2.2.2.1 && Nat.ble (xwds vs) M'.2.2.1) && (Nat.ble (sl + M'.2.2.2.2.2.2.2.1) M.2.2.2.2.2.2.2.1 && Nat.ble (xwds rest) 8)) = true) (hs : r ++ rest = rs) (h1 : cn + M'.2.2.2.2.2.2.1 = cn1) (h2 : sl + M'.2.2.2.2.2.2.2.1 = sl1) (K : ∀ w', Q w' → xTo (d + 1) M (pc + ln, tl, lo, rs, (w', bd, fc, cn1, sl1, rr)) P) : xTo (d + 1) M (p0, (pc, ln, 13, x, y, ix) :: tl, lo, st, (w, bd, fc, cn, sl, rr)) P := by
  obtain ⟨w', h3, h4⟩ := hP
  subst h1
  subst h2
  subst hs
  exact xg_t (xg_callS hk h4 hy hn hv hr hb) (K w' h3)
/-- the same, the world as it was -/
theorem xg_cVr (M' : xM) (hk : mget x = some M') (hP : xPr d M' ((2, j) :: vs) w bd fc rr r w) (hy : y % 8 = 0) (ho : wget w j = some (.inl (y / 8, fl))) (hn : Nat.beq (st.take M'.2.2.2.2.1).length M'.2.2.2.2.1 = true) (hv : (st.take M'.2.2.2.2.1).reverse = vs) (hr : st.drop M'.2.2.2.2.1 = (2, j) :: rest) (hb : ((Nat.ble (cn + M'.2.2.2.2.2.2.1) M.2.2.2.2.2.2.1 && Nat.ble (xwds ((2, j) :: vs)) M'.2.2.1) && (Nat.ble (sl + M'.2.2.2.2.2.2.2.1) M.2.2.2.2.2.2.2.1 && Nat.ble (xwds rest) 8)) = true) (hs : r ++ rest = rs) (h1 : cn + M'.2.2.2.2.2.2.1 = cn1) (h2 : sl + M'.2.2.2.2.2.2.2.1 = sl1) : xLd (d + 1) M (p0, (pc, ln, 13, x, y, ix) :: tl, lo, st, (w, bd, fc, cn, sl, rr)) [(pc + ln, tl, lo, rs, (w, bd, fc, cn1, sl1, rr))] := by
  subst h1
  subst h2
  subst hs
  exact xg_callV hk hP hy ho hn hv hr hb
theorem xg_cSr (M' : xM) (hk : mget x = some M') (hP : xPr d M' vs w bd fc rr r w) (hy : y % 8 = 2) (hn : Nat.beq (st.take M'.2.2.2.2.1).length M'.2.2.2.2.1 = true) (hv : (st.take M'.2.2.2.2.1).reverse = vs) (hr : st.drop M'.2.2.2.2.1 = rest) (hb : ((Nat.ble (cn + M'.2.2.2.2.2.2.1) M.2.2.2.2.2.2.1 && Nat.ble (xwds vs) M'.2.2.1) && (Nat.ble (sl + M'.2.2.2.2.2.2.2.1) M.2.2.2.2.2.2.2.1 && Nat.ble (xwds rest) 8)) = true) (hs : r ++ rest = rs) (h1 : cn + M'.2.2.2.2.2.2.1 = cn1) (h2 : sl + M'.2.2.2.2.2.2.2.1 = sl1) : xLd (d + 1) M (p0, (pc, ln, 13, x, y, ix) :: tl, lo, st, (w, bd, fc, cn, sl, rr)) [(pc + ln, tl, lo, rs, (w, bd, fc, cn1, sl1, rr))] := by
  subst h1
  subst h2
  subst hs
  exact xg_callS hk hP hy hn hv hr hb
theorem xRow.to {g : Nat → Nat} (h : xRow w k L t f) (e : ∀ j, j < L → f j = g j) : xRow w k L t g := by
  obtain ⟨us, h1, h2⟩ := h
  exact ⟨us, h1, fun j hj => by rw [h2 j hj, e j hj]⟩
theorem xRow.but (h : xRow w k L t f) (hb : xBut c w w') (hk : k ≠ c) : xRow w' k L t f := by
  obtain ⟨us, h1, h2⟩ := h
  exact ⟨us, (hb.1 k hk).trans h1, h2⟩
theorem xBut.get {q : xE} (hb : xBut c w w') (hk : k ≠ c) (h : wget w k = some q) : wget w' k = some q := (hb.1 k hk).trans h
end XTO
end
section
/-! more single instructions; signed questions -/
section XMO
variable {d p0 pc ln op x y ix u v z k c n t L : Nat} {M : xM} {tl : List xI} {lo l1 : xLo} {st : List xV} {hp : xH} {hr : xHr} {va vb : xV} {w w' : List (List xE)} {f : Nat → Nat}
theorem xite1 {p : Prop} {_ : Decidable p} (h : p) : (if p then 1 else 0) ≠ (0 : Nat) := by
  rw [if_pos h]
  decide
theorem xite0 {p : Prop} {_ : Decidable p} (h : ¬ p) : (if p then 1 else 0) = (0 : Nat) := if_neg h
theorem xjs_ltT (h : xbs u < xbs v) : xjmp 2 u v = true := by rw [xj2]; exact xblt_t h
theorem xjs_ltF (h : ¬ xbs u < xbs v) : xjmp 2 u v = false := by rw [xj2]; exact xblt_f (Nat.le_of_not_lt h)
theorem xjs_geT (h : ¬ xbs u < xbs v) : xjmp 3 u v = true := by rw [xj3, xblt_f (Nat.le_of_not_lt h)]; rfl
theorem xjs_geF (h : xbs u < xbs v) : xjmp 3 u v = false := by rw [xj3, xblt_t h]; rfl
theorem xjs_gtT (h : xbs v < xbs u) : xjmp 4 u v = true := by rw [xj4]; exact xblt_t h
theorem xjs_gtF (h : ¬ xbs v < xbs u) : xjmp 4 u v = false := by rw [xj4]; exact xblt_f (Nat.le_of_not_lt h)
theorem xjs_leT (h : ¬ xbs v < xbs u) : xjmp 5 u v = true := by rw [xj5, xblt_f (Nat.le_of_not_lt h)]; rfl
theorem xjs_leF (h : xbs v < xbs u) : xjmp 5 u v = false := by rw [xj5, xblt_t h]; rfl
theorem xbs_zero : xbs 0 = 2147483648 := by decide
theorem xbs_neg (h : 2147483648 ≤ u) (h2 : u < 4294967296) : xbs u = u - 2147483648 := by
  unfold xbs
  omega
theorem xjz_ltF (h : u < 2147483648) : xjmp 2 u 0 = false := by
  rw [xj2, xbs_small h, xbs_zero]
  exact xblt_f (by omega)
theorem xjz_ltT (h : 2147483648 ≤ u) (h2 : u < 4294967296) : xjmp 2 u 0 = true := by
  rw [xj2, xbs_neg h h2, xbs_zero]
  exact xblt_t (by omega)
theorem xjz_geT (h : u < 2147483648) : xjmp 3 u 0 = true := by
  rw [xj3, xbs_small h, xbs_zero, xblt_f (by omega)]
  rfl
theorem xjz_geF (h : 2147483648 ≤ u) (h2 : u < 4294967296) : xjmp 3 u 0 = false := by
  rw [xj3, xbs_neg h h2, xbs_zero, xblt_t (by omega)]
  rfl
theorem xg_ldc : xLd d M (p0, (pc, ln, 35, x, y, ix) :: tl, lo, st, hp) [(pc + ln, tl, lo, (0, x) :: st, hp)] := xg_op (f := xh_const) rfl rfl
theorem xg_ldcw : xLd d M (p0, (pc, ln, 36, x, y, ix) :: tl, lo, st, hp) [(pc + ln, tl, lo, (0, x) :: st, hp)] := xg_op (f := xh_const) rfl rfl
theorem xg_null : xLd d M (p0, (pc, ln, 45, x, y, ix) :: tl, lo, st, hp) [(pc + ln, tl, lo, (3, 0) :: st, hp)] := xg_op (f := xh_null) rfl rfl
theorem xg_gets : xLd d M (p0, (pc, ln, 37, x, y, ix) :: tl, lo, st, hp) [(pc + ln, tl, lo, (8, x) :: st, hp)] := xg_op (f := xh_gets) rfl rfl
theorem xg_pop (h : (xisi va || xisr va) = true) : xLd d M (p0, (pc, ln, 40, x, y, ix) :: tl, lo, va :: st, hp) [(pc + ln, tl, lo, st, hp)] := by
  refine xg_op (f := xh_pop) rfl ?_
  show xif (xisi va || xisr va) (xidk d M (pc + ln, tl, lo, st, hp)) = _
  rw [h]
  rfl
theorem xg_astore (hi : xisr va = true) (hm : Nat.blt x M.2.2.1 = true) (hl : lo.filter (xkp x) = l1) : xLd d M (p0, (pc, ln, 27, x, y, ix) :: tl, lo, va :: st, hp) [(pc + ln, tl, (x, va) :: l1, st, hp)] := by
  refine xg_op (f := xh_astore) rfl ?_
  show xif (xisr va) (xif (Nat.blt x M.2.2.1) (xflt (xkp x) lo fun l => xidk d M (pc + ln, tl, (x, va) :: l, st, hp))) = _
  rw [hi, hm, xflt_eq, hl]
  rfl
theorem xg_ifnullF : xLd d M (p0, (pc, ln, 43, x, y, ix) :: tl, lo, (2, k) :: st, hp) [(pc + ln, tl, lo, st, hp)] := xg_op (f := xh_ifnull) rfl rfl
theorem xg_ifnnF : xLd d M (p0, (pc, ln, 44, x, y, ix) :: tl, lo, (3, 0) :: st, hp) [(pc + ln, tl, lo, st, hp)] := xg_op (f := xh_ifnonnull) rfl rfl
theorem xg_ifnnT : xLd d M (p0, (pc, ln, 44, x, y, ix) :: tl, lo, (2, k) :: st, hp) [(x, [], lo, st, hp)] := xg_op (f := xh_ifnonnull) rfl rfl
/-- cells that may have changed -/
def xFr (S : List Nat) (w w' : List (List xE)) : Prop := (∀ j, j ∉ S → wget w' j = wget w j) ∧ w'.map List.length = w.map List.length
theorem xFr.rf {S : List Nat} : xFr S w w := ⟨fun _ _ => rfl, rfl⟩
theorem xFr.tr {S : List Nat} {w1 w2 w3 : List (List xE)} (h : xFr S w1 w2) (h' : xFr S w2 w3) : xFr S w1 w3 := ⟨fun j hj => (h'.1 j hj).trans (h.1 j hj), h'.2.trans h.2⟩
theorem xFr.of {S : List Nat} (h : xBut k w w') (hk : k ∈ S) : xFr S w w' := ⟨fun j hj => h.1 j (fun z => hj (z ▸ hk)), h.2⟩
theorem xFr.up {S T : List Nat} (h : xFr S w w') (hs : ∀ k, k ∈ S → k ∈ T) : xFr T w w' := ⟨fun j hj => h.1 j (fun z => hj (hs j z)), h.2⟩
theorem xFr.get {S : List Nat} {q : xE} (h : xFr S w w') (hk : k ∉ S) (hq : wget w k = some q) : wget w' k = some q := (h.1 k hk).trans hq
theorem xRow.fr {S : List Nat} (h : xRow w k L t f) (hb : xFr S w w') (hk : k ∉ S) : xRow w' k L t f := by
  obtain ⟨us, h1, h2⟩ := h
  exact ⟨us, (hb.1 k hk).trans h1, h2⟩
end XMO
end
section
/-! instructions whose numbers may be anything -/
noncomputable def xpt (v : Int32) : Nat := Classical.choose (xnI_of v)
theorem xpt_lt (v : Int32) : xpt v < 4294967296 := (Classical.choose_spec (xnI_of v)).1
theorem xpt_eq (v : Int32) : nI (xpt v) = v := (Classical.choose_spec (xnI_of v)).2.symm
theorem xlN_of (x : Int64) : ∃ u, x = lN u := by
  refine ⟨x.toBitVec.toNat, ?_⟩
  apply Int64.toBitVec_inj.mp
  apply BitVec.eq_of_toNat_eq
  show _ = (BitVec.ofNat 64 _).toNat
  rw [BitVec.toNat_ofNat]
  exact (Nat.mod_eq_of_lt x.toBitVec.isLt).symm
noncomputable def xlp (v : Int64) : Nat := Classical.choose (xlN_of v)
theorem xlp_eq (v : Int64) : lN (xlp v) = v := (Classical.choose_spec (xlN_of v)).symm
section XPU
variable {d p0 pc ln op x y ix u v z k n t L : Nat} {M : xM} {fs : List xS} {tl : List xI} {lo l1 : xLo} {st st1 : List xV} {hp : xH} {va vb : xV} {P : xS → Prop}
theorem xg_hok {a : xI → Instr} {b : String → xI → Prop} {f : xF} (ht : xHok (a, b, f)) (ho : xget xopi op = some (a, b)) (h : f xidk d M (pc, ln, op, x, y, ix) tl lo st hp = some fs) : xLd d M (p0, (pc, ln, op, x, y, ix) :: tl, lo, st, hp) fs := by
  intro hM hpos p l e R s m args below meth c D A g cw0 tys0 io0 Q C hQ
  obtain ⟨q1, q2, q3, q4⟩ := hpos
  have q1 : pc = p0 := q1
  subst q1
  have q2' := q2
  obtain ⟨t', h3, h4, h5⟩ := q2
  have h3 : xget xopi op = some t' := h3
  rw [ho] at h3
  cases h3
  exact ht xidk xidk_ok d M (pc, ln, op, x, y, ix) tl lo st hp fs h hM q2' h4 h5 q3 q4 p l e R s m args below meth c D A g cw0 tys0 io0 Q C hQ
/-- only the stack changes -/
theorem xg_pure {ins : xI → Instr} (ho : xget xopi op = some (ins, xPn 1)) (H : ∀ {p : Program} {l : Launch} {e : Env} {R : Room} {s : State} {m : MethodId} {args : Array Value} {below : List Frame} {meth : Method} {c : Code} {H : Heap} {locs : List Loc} {ls : Array Slot} {cells slots : Nat} {Q : State → Prop} (g : xG) (cw : xWc) (io : List Nat) (sv : List Value), p.tables.exec = Jvm.exec → c.code = M.2.1 → decode M.2.1 pc = .ok (ins (pc, ln, op, x, y, ix), 1) → xRb hp.2.1 io → xrel (xRv g cw io) st sv → ∃ sv', xrel (xRv g cw io) st1 sv' ∧ (W p l e R s m args below meth c H locs cells slots Q (F0 m (pc + 1) ls sv') → W p l e R s m args below meth c H locs cells slots Q (F0 m pc ls sv))) : xLd d M (p0, (pc, ln, op, x, y, ix) :: tl, lo, st, hp) [(pc + ln, tl, lo, st1, hp)] := by
  intro hM hpos p l e R s m args below meth c D A g cw0 tys0 io0 Q C hQ cw tys io Hh locs ls lv sv hE hK hP hD hS hl hlo hst hh
  obtain ⟨q1, q2, q3, q4⟩ := hpos
  have q1 : pc = p0 := q1
  subst q1
  obtain ⟨t', h3, h4, h5⟩ := q2
  have h3 : xget xopi op = some t' := h3
  rw [ho] at h3
  cases h3
  have h5 : ln = 1 := h5
  subst h5
  obtain ⟨sv', k1, k2⟩ := H g cw io sv C.1 C.2.1 h4 hh.2.1 hst
  refine k2 (hQ _ List.mem_cons_self ⟨?_, q4⟩ cw tys io Hh locs ls lv sv' hE hK hP hD hS hl hlo k1 hh)
  cases tl with
  | nil => trivial
  | cons a b => exact q3
/-- two longs -/
theorem xg_l2 {ins : Instr} {F : Int64 → Int64 → Int64} (ho : xget xopi op = some (fun _ => ins, xPn 1)) (hrow : ∀ {p : Program} {l : Launch} {e : Env} {R : Room} {s : State} {m : MethodId} {args : Array Value} {below : List Frame} {meth : Method} {c : Code} {H : Heap} {locs : List Loc} {cells slots : Nat} {Q : State → Prop} {cc : ByteArray} {pc : Nat} {ls : Array Slot} {rest : List Value}, p.tables.exec = Jvm.exec → c.code = cc → decode cc pc = .ok (ins, 1) → W p l e R s m args below meth c H locs cells slots Q (F0 m (pc + 1) ls (.long (F (lN u) (lN v)) :: rest)) → W p l e R s m args below meth c H locs cells slots Q (F0 m pc ls (.long (lN v) :: .long (lN u) :: rest))) : xLd d M (p0, (pc, ln, op, x, y, ix) :: tl, lo, (4, v) :: (4, u) :: st, hp) [(pc + ln, tl, lo, (4, xlp (F (lN u) (lN v))) :: st, hp)] := by
  refine xg_pure ho (fun g cw io sv hx hb hd _ hs => ?_)
  obtain ⟨wb, sv1, rfl, r1, hs1⟩ := xrel_cons hs
  obtain ⟨wa, sv2, rfl, r2, hs2⟩ := xrel_cons hs1
  have e1 : wa = .long (lN u) := r2
  subst e1
  have e1 : wb = .long (lN v) := r1
  subst e1
  refine ⟨.long (lN (xlp (F (lN u) (lN v)))) :: sv2, ⟨rfl, hs2⟩, fun k => ?_⟩
  rw [xlp_eq] at k
  exact hrow hx hb hd k
theorem xg_lsub : xLd d M (p0, (pc, ln, 66, x, y, ix) :: tl, lo, (4, v) :: (4, u) :: st, hp) [(pc + ln, tl, lo, (4, xlp (lN u - lN v)) :: st, hp)] := xg_l2 (F := fun a b => a - b) rfl (fun hx hb hd k => lv_lsub hx hb hd k)
theorem xg_ldiv (h : ¬ lN v = 0) : xLd d M (p0, (pc, ln, 67, x, y, ix) :: tl, lo, (4, v) :: (4, u) :: st, hp) [(pc + ln, tl, lo, (4, xlp (lN u / lN v)) :: st, hp)] := xg_l2 (F := fun a b => a / b) rfl (fun hx hb hd k => lv_ldiv hx hb hd h k)
theorem xg_ladd : xLd d M (p0, (pc, ln, 56, x, y, ix) :: tl, lo, (4, v) :: (4, u) :: st, hp) [(pc + ln, tl, lo, (4, xlp (lN u + lN v)) :: st, hp)] := xg_l2 (F := fun a b => a + b) rfl (fun hx hb hd k => lv_ladd hx hb hd k)
theorem xg_lmul : xLd d M (p0, (pc, ln, 55, x, y, ix) :: tl, lo, (4, v) :: (4, u) :: st, hp) [(pc + ln, tl, lo, (4, xlp (lN u * lN v)) :: st, hp)] := xg_l2 (F := fun a b => a * b) rfl (fun hx hb hd k => lv_lmul hx hb hd k)
theorem xg_lneg : xLd d M (p0, (pc, ln, 68, x, y, ix) :: tl, lo, (4, u) :: st, hp) [(pc + ln, tl, lo, (4, xlp (-(lN u))) :: st, hp)] := by
  refine xg_pure (ins := fun _ => .lneg) rfl (fun g cw io sv hx hb hd _ hs => ?_)
  obtain ⟨wa, sv2, rfl, r2, hs2⟩ := xrel_cons hs
  have e1 : wa = .long (lN u) := r2
  subst e1
  refine ⟨.long (lN (xlp (-(lN u)))) :: sv2, ⟨rfl, hs2⟩, fun k => ?_⟩
  rw [xlp_eq] at k
  exact lv_lneg hx hb hd k
theorem xg_lcmp : xLd d M (p0, (pc, ln, 57, x, y, ix) :: tl, lo, (4, v) :: (4, u) :: st, hp) [(pc + ln, tl, lo, (0, xpt (lg_cmp (lN u) (lN v))) :: st, hp)] := by
  refine xg_pure (ins := fun _ => .lcmp) rfl (fun g cw io sv hx hb hd _ hs => ?_)
  obtain ⟨wb, sv1, rfl, r1, hs1⟩ := xrel_cons hs
  obtain ⟨wa, sv2, rfl, r2, hs2⟩ := xrel_cons hs1
  have e1 : wa = .long (lN u) := r2
  subst e1
  have e1 : wb = .long (lN v) := r1
  subst e1
  refine ⟨.int (nI (xpt (lg_cmp (lN u) (lN v)))) :: sv2, ⟨⟨xpt_lt _, rfl⟩, hs2⟩, fun k => ?_⟩
  rw [xpt_eq] at k
  exact W.lcmp hx hb hd k
theorem xg_i2l (ha : xnm hp.2.1 va = (0, u)) : xLd d M (p0, (pc, ln, 49, x, y, ix) :: tl, lo, va :: st, hp) [(pc + ln, tl, lo, (4, xlp (nI u).toInt64) :: st, hp)] := by
  refine xg_pure (ins := fun _ => .i2l) rfl (fun g cw io sv hx hb hd hbd hs => ?_)
  obtain ⟨wa, sv2, rfl, r2, hs2⟩ := xrel_cons hs
  have q := xnm_ok hbd r2
  rw [ha] at q
  obtain ⟨-, rfl⟩ := q
  refine ⟨.long (lN (xlp (nI u).toInt64)) :: sv2, ⟨rfl, hs2⟩, fun k => ?_⟩
  rw [xlp_eq] at k
  exact lv_i2l hx hb hd rfl k
theorem xg_l2i : xLd d M (p0, (pc, ln, 50, x, y, ix) :: tl, lo, (4, u) :: st, hp) [(pc + ln, tl, lo, (0, xpt (lN u).toInt32) :: st, hp)] := by
  refine xg_pure (ins := fun _ => .l2i) rfl (fun g cw io sv hx hb hd _ hs => ?_)
  obtain ⟨wa, sv2, rfl, r2, hs2⟩ := xrel_cons hs
  have e1 : wa = .long (lN u) := r2
  subst e1
  refine ⟨.int (nI (xpt (lN u).toInt32)) :: sv2, ⟨⟨xpt_lt _, rfl⟩, hs2⟩, fun k => ?_⟩
  rw [xpt_eq] at k
  exact lv_l2i hx hb hd rfl k
/-- one int -/
theorem xg_i1 {ins : Instr} {F : Int32 → Int32} (ho : xget xopi op = some (fun _ => ins, xPn 1)) (hrow : ∀ {p : Program} {l : Launch} {e : Env} {R : Room} {s : State} {m : MethodId} {args : Array Value} {below : List Frame} {meth : Method} {c : Code} {H : Heap} {locs : List Loc} {cells slots : Nat} {Q : State → Prop} {cc : ByteArray} {pc : Nat} {ls : Array Slot} {rest : List Value}, p.tables.exec = Jvm.exec → c.code = cc → decode cc pc = .ok (ins, 1) → W p l e R s m args below meth c H locs cells slots Q (F0 m (pc + 1) ls (.int (F (nI u)) :: rest)) → W p l e R s m args below meth c H locs cells slots Q (F0 m pc ls (.int (nI u) :: rest))) (ha : xnm hp.2.1 va = (0, u)) : xLd d M (p0, (pc, ln, op, x, y, ix) :: tl, lo, va :: st, hp) [(pc + ln, tl, lo, (0, xpt (F (nI u))) :: st, hp)] := by
  refine xg_pure ho (fun g cw io sv hx hb hd hbd hs => ?_)
  obtain ⟨wa, sv2, rfl, r2, hs2⟩ := xrel_cons hs
  have q := xnm_ok hbd r2
  rw [ha] at q
  obtain ⟨-, rfl⟩ := q
  refine ⟨.int (nI (xpt (F (nI u)))) :: sv2, ⟨⟨xpt_lt _, rfl⟩, hs2⟩, fun k => ?_⟩
  rw [xpt_eq] at k
  exact hrow hx hb hd k
theorem xg_ineg (ha : xnm hp.2.1 va = (0, u)) : xLd d M (p0, (pc, ln, 69, x, y, ix) :: tl, lo, va :: st, hp) [(pc + ln, tl, lo, (0, xpt (-(nI u))) :: st, hp)] := xg_i1 (F := fun a => -a) rfl (fun hx hb hd k => lv_ineg hx hb hd k) ha
theorem xg_i2b (ha : xnm hp.2.1 va = (0, u)) : xLd d M (p0, (pc, ln, 41, x, y, ix) :: tl, lo, va :: st, hp) [(pc + ln, tl, lo, (0, xpt (nI u).toInt8.toInt32) :: st, hp)] := xg_i1 (F := fun a => a.toInt8.toInt32) rfl (fun hx hb hd k => lv_i2b hx hb hd rfl k) ha
/-- two ints -/
theorem xg_i2 {ins : Instr} {F : Int32 → Int32 → Int32} (ho : xget xopi op = some (fun _ => ins, xPn 1)) (hrow : ∀ {p : Program} {l : Launch} {e : Env} {R : Room} {s : State} {m : MethodId} {args : Array Value} {below : List Frame} {meth : Method} {c : Code} {H : Heap} {locs : List Loc} {cells slots : Nat} {Q : State → Prop} {cc : ByteArray} {pc : Nat} {ls : Array Slot} {rest : List Value}, p.tables.exec = Jvm.exec → c.code = cc → decode cc pc = .ok (ins, 1) → v < 4294967296 → W p l e R s m args below meth c H locs cells slots Q (F0 m (pc + 1) ls (.int (F (nI u) (nI v)) :: rest)) → W p l e R s m args below meth c H locs cells slots Q (F0 m pc ls (.int (nI v) :: .int (nI u) :: rest))) (ha : xnm hp.2.1 va = (0, u)) (hb' : xnm hp.2.1 vb = (0, v)) : xLd d M (p0, (pc, ln, op, x, y, ix) :: tl, lo, vb :: va :: st, hp) [(pc + ln, tl, lo, (0, xpt (F (nI u) (nI v))) :: st, hp)] := by
  refine xg_pure ho (fun g cw io sv hx hb hd hbd hs => ?_)
  obtain ⟨wb, sv1, rfl, r1, hs1⟩ := xrel_cons hs
  obtain ⟨wa, sv2, rfl, r2, hs2⟩ := xrel_cons hs1
  have q := xnm_ok hbd r2
  rw [ha] at q
  obtain ⟨-, rfl⟩ := q
  have q := xnm_ok hbd r1
  rw [hb'] at q
  obtain ⟨hv, rfl⟩ := q
  refine ⟨.int (nI (xpt (F (nI u) (nI v)))) :: sv2, ⟨⟨xpt_lt _, rfl⟩, hs2⟩, fun k => ?_⟩
  rw [xpt_eq] at k
  exact hrow hx hb hd hv k
theorem xg_ixor (ha : xnm hp.2.1 va = (0, u)) (hb : xnm hp.2.1 vb = (0, v)) : xLd d M (p0, (pc, ln, 70, x, y, ix) :: tl, lo, vb :: va :: st, hp) [(pc + ln, tl, lo, (0, xpt (nI u ^^^ nI v)) :: st, hp)] := xg_i2 (F := fun a b => a ^^^ b) rfl (fun hx hb hd _ k => lv_ixor hx hb hd k) ha hb
theorem xg_ishrG (ha : xnm hp.2.1 va = (0, u)) (hb : xnm hp.2.1 vb = (0, v)) : xLd d M (p0, (pc, ln, 29, x, y, ix) :: tl, lo, vb :: va :: st, hp) [(pc + ln, tl, lo, (0, xpt (nI u >>> (nI v &&& 31))) :: st, hp)] := xg_i2 (F := fun a b => a >>> (b &&& 31)) rfl (fun hx hb hd _ k => lv_ishr hx hb hd k) ha hb
theorem xg_ishlG (ha : xnm hp.2.1 va = (0, u)) (hb : xnm hp.2.1 vb = (0, v)) : xLd d M (p0, (pc, ln, 26, x, y, ix) :: tl, lo, vb :: va :: st, hp) [(pc + ln, tl, lo, (0, xpt (nI u <<< (nI v &&& 31))) :: st, hp)] := xg_i2 (F := fun a b => a <<< (b &&& 31)) rfl (fun hx hb hd _ k => lv_ishl hx hb hd k) ha hb
theorem xg_idivG (h0 : v ≠ 0) (ha : xnm hp.2.1 va = (0, u)) (hb : xnm hp.2.1 vb = (0, v)) : xLd d M (p0, (pc, ln, 20, x, y, ix) :: tl, lo, vb :: va :: st, hp) [(pc + ln, tl, lo, (0, xpt (nI u / nI v)) :: st, hp)] := xg_i2 (F := fun a b => a / b) rfl (fun hx hb hd hv k => lv_idiv hx hb hd (fun z => h0 ((xeq_iff hv (by decide)).mp z)) k) ha hb
theorem xg_iand (ha : xnm hp.2.1 va = (0, u)) (hb : xnm hp.2.1 vb = (0, v)) (hz : Nat.land u v = z) : xLd d M (p0, (pc, ln, 30, x, y, ix) :: tl, lo, vb :: va :: st, hp) [(pc + ln, tl, lo, (0, z) :: st, hp)] := xg_bin (F := fun a b => Nat.land a b) (chk := xyes) (al := true) (bo := xmask) rfl ha hb rfl hz
theorem xg_ior (ha : xnm hp.2.1 va = (0, u)) (hb : xnm hp.2.1 vb = (0, v)) (hz : Nat.lor u v = z) : xLd d M (p0, (pc, ln, 38, x, y, ix) :: tl, lo, vb :: va :: st, hp) [(pc + ln, tl, lo, (0, z) :: st, hp)] := xg_bin (F := fun a b => Nat.lor a b) (chk := xyes) (al := true) (bo := xany) rfl ha hb rfl hz
/-- an int of which nothing is known -/
theorem xg_k {Z : Nat} {p1 : Nat} {cs cs1 : List xI} (h : xLd d M (p0, cs, lo, st, hp) [(p1, cs1, l1, (0, Z) :: st1, hp)]) (hZ : Z < 4294967296) (K : ∀ z, z < 4294967296 → xTo d M (p1, cs1, l1, (0, z) :: st1, hp) P) : xTo d M (p0, cs, lo, st, hp) P := xg_t h (K Z hZ)
theorem xg_kl {Z : Nat} {p1 : Nat} {cs cs1 : List xI} (h : xLd d M (p0, cs, lo, st, hp) [(p1, cs1, l1, (4, Z) :: st1, hp)]) (K : ∀ z, xTo d M (p1, cs1, l1, (4, z) :: st1, hp) P) : xTo d M (p0, cs, lo, st, hp) P := xg_t h (K Z)
end XPU
end
section
/-! rows of longs, bytes and booleans; long fields; switches -/
theorem xtyJ_ok (g : xG) (cw : xWc) (io : List Nat) (ty : FieldType) (v : xV) (w : Value) (h : xtyJ ty) (hv : (Nat.beq v.1 4) = true) (hr : xRv g cw io v w) : narrow ty w = w ∧ fits ty w = true := by
  obtain ⟨t, n⟩ := v
  have z : t = 4 := xbeq hv
  subst z
  have e : w = .long (lN n) := hr
  subst e
  have h : ty = .long := h
  subst h
  exact ⟨rfl, rfl⟩
theorem xs_putJ : xHok (fun e => .putfield e.2.2.2.2.2, xPp false xtyJ, xput (fun v => Nat.beq v.1 4)) := fun ih hI d M i tl lo st hp fs h hM _ hd hl hn hc => xput_ok xtyJ_ok (Or.inl rfl) (fun _ _ _ _ _ _ _ _ => rfl) (fun _ _ _ _ => trivial) ih hI d M i tl lo st hp fs h hM hd hl (fun z => by cases z) hn hc
noncomputable def xh_laload : xF := xald (fun k => Nat.beq k 3)
theorem xs_laload : xHok (fun _ => .laload, xPn 1, xh_laload) := by
  intro ih hI d M i tl lo st hp fs h hM he hd hl hn hc p l e R s m args below meth c D A g cw0 tys0 io0 Q C hQ
  obtain ⟨iv, s1, rfl, h1⟩ := xhd_some h
  obtain ⟨r, s2, rfl, h2⟩ := xhd_some h1
  obtain ⟨h3, h4⟩ := xif_some h2
  obtain ⟨q, h7, h8⟩ := xob_some h4
  obtain ⟨tr, nr⟩ := r
  have z : tr = 2 := xbeq h3
  subst z
  refine xald_ok (ins := .laload) ?_ hI h7 h8 hM hd hl hn hc C hQ
  intro p l e R s m args below meth c H locs cells slots Q D ws tys cc pc ls rest ad q t u n kd cA f ty hx hb hK hP hw ht hk hkd hu hn2 hdg k
  obtain ⟨v1, v2⟩ := xnI_in hu hn2
  have z := xbeq hk
  subst z
  obtain ⟨rfl, f0, rfl⟩ := hkd
  refine va_lald hx hb hK hP q t hw ht v1 hdg ?_
  rw [v2]
  exact k
theorem xupd_bL (h : Nat → Int64) (u : Nat) (x : Int64) (j : Nat) : xbody (.inr (.inl (vp_updL h u x))) j = if j = u then .long x else xbody (.inr (.inl h)) j := by
  show Value.long (if j = u then x else h j) = _
  split <;> rfl
theorem xupd_sL {h : Nat → Int64} {u : Nat} {x : Int64} (e : Value.long x = xbody (.inr (.inl h)) u) : (.inr (.inl (vp_updL h u x)) : xB) = .inr (.inl h) := by
  have e : x = h u := Value.long.inj e
  congr 2
  funext j
  unfold vp_updL
  split
  · rename_i z; rw [z, e]
  · rfl
noncomputable def xh_lastore : xF := fun ih d M e tl lo st hp => xhd st fun v s1 => xhd s1 fun i s2 => xhd s2 fun r s3 => xif (Nat.beq r.1 2 && Nat.beq v.1 4) (xob (wget hp.1 r.2) fun q => xarr q fun a => xif (Nat.beq a.1 3) (xast1 ih d M e tl lo s3 hp r.2 v (xnm hp.2.1 i) a))
theorem xs_lastore : xHok (fun _ => .lastore, xPn 1, xh_lastore) := by
  intro ih hI d M i tl lo st hp fs h hM he hd hl hn hc p l e R s m args below meth c D A g cw0 tys0 io0 Q C hQ
  obtain ⟨v, s1, rfl, h1⟩ := xhd_some h
  obtain ⟨iv, s2, rfl, h2⟩ := xhd_some h1
  obtain ⟨r, s3, rfl, h3⟩ := xhd_some h2
  obtain ⟨h4, h5⟩ := xif_some h3
  obtain ⟨h6, h7⟩ := Bool.and_eq_true_iff.mp h4
  obtain ⟨q, h8, h9⟩ := xob_some h5
  obtain ⟨o, rfl, h10⟩ := xarr_some h9
  obtain ⟨h11, h12⟩ := xif_some h10
  obtain ⟨tr, nr⟩ := r
  have z : tr = 2 := xbeq h6
  subst z
  obtain ⟨tv, nv⟩ := v
  have z : tv = 4 := xbeq h7
  subst z
  have a1 : i.2.1 = 1 := hl
  have hd : decode M.2.1 i.1 = .ok (.lastore, i.2.1) := hd
  rw [a1] at hd
  intro cw tys io H locs ls lv sv hE hK hP hD hS hlv hlo hst hh
  obtain ⟨wv, sv1, rfl, r0, hs1⟩ := xrel_cons hst
  obtain ⟨wi, sv2, rfl, r1, hs2⟩ := xrel_cons hs1
  obtain ⟨wa, sv3, rfl, r2, hs3⟩ := xrel_cons hs2
  obtain ⟨a, e', g1, rfl⟩ := xRv2 r2
  obtain ⟨q', g2, g3⟩ := hh.1.get h8
  rw [g1] at g2
  cases g2
  obtain ⟨kd, n, t, us⟩ := o
  have z : kd = 3 := xbeq h11
  subst z
  obtain ⟨cA, f, ty, rfl, hn2, ht, ⟨rfl, f0, rfl⟩, hall⟩ := xarr_get g3
  obtain ⟨q, g8, g9⟩ := wfl_get g1
  have ev : wv = .long (lN nv) := r0
  subst ev
  obtain ⟨u, e1, hu, key⟩ := xast_ok hI h8 h12 hM a1 hn hc C hQ hE hK hlv hlo hs3 hh g1 hn2 ht hall g8 g9
  have q1 := xnm_ok hh.2.1 r1
  rw [e1] at q1
  obtain ⟨-, rfl⟩ := q1
  obtain ⟨v1, v2⟩ := xnI_in hu hn2
  have v2 : (nI (0, u).2).toNatClampNeg = u := v2
  refine va_last C.1 C.2.1 hK hP hD hS q t g8 ht v1 hd fun H1 locs1 hP1 hD1 hS1 => ?_
  rw [v2] at hP1 hD1
  exact key (.long (lN nv)) _ rfl (xupd_bL f0 u (lN nv)) xupd_sL ⟨rfl, _, rfl⟩ H1 locs1 hP1 hD1 hS1
/-- a row of a kind -/
def xRk (kd tg : Nat) (w : List (List xE)) (k L t : Nat) (f : Nat → Nat) : Prop := ∃ us, wget w k = some (.inr (kd, L, t, us)) ∧ ∀ j, j < L → xat kd us j = (tg, f j)
section XRK
variable {d p0 pc ln op x y ix u v z k c n t L kd tg : Nat} {M : xM} {tl : List xI} {lo l1 : xLo} {st : List xV} {hp : xH} {hr : xHr} {va vb : xV} {w w' : List (List xE)} {f f1 : Nat → Nat} {P : xS → Prop} {S : List Nat} {fl fl1 : List xV} {us : List (Nat × xV)}
theorem xRk.to (h : xRk kd tg w k L t f) (e : ∀ j, j < L → f j = f1 j) : xRk kd tg w k L t f1 := by
  obtain ⟨us, h1, h2⟩ := h
  exact ⟨us, h1, fun j hj => by rw [h2 j hj, e j hj]⟩
theorem xRk.but (h : xRk kd tg w k L t f) (hb : xBut c w w') (hk : k ≠ c) : xRk kd tg w' k L t f := by
  obtain ⟨us, h1, h2⟩ := h
  exact ⟨us, (hb.1 k hk).trans h1, h2⟩
theorem xRk.fr (h : xRk kd tg w k L t f) (hb : xFr S w w') (hk : k ∉ S) : xRk kd tg w' k L t f := by
  obtain ⟨us, h1, h2⟩ := h
  exact ⟨us, (hb.1 k hk).trans h1, h2⟩
theorem xatk_cons {q : xV} : xat kd ((n, q) :: us) u = cond (Nat.beq n u) q (xat kd us u) := by
  show Option.rec (motive := fun _ => xV) (cond (Nat.beq kd 4) (3, 0) (cond (Nat.beq kd 3) (4, 0) (0, 0))) (fun v => v) (cond (Nat.beq n u) (some q) (xfind us u)) = _
  cases Nat.beq n u <;> rfl
theorem xast_row (h : xRk kd tg hp.1 k L t f) (hn : n < L) : ∃ w', xRk kd tg w' k L t (fun j => if j = n then u else f j) ∧ xBut k hp.1 w' ∧ ∀ {i : xI}, ∃ us, wget hp.1 k = some (.inr (kd, L, t, us)) ∧ xast1 xidk d M i tl lo st hp k (tg, u) (0, n) (kd, L, t, us) = some [(i.1 + i.2.1, tl, lo, st, (w', hp.2))] := by
  obtain ⟨us, h1, h2⟩ := h
  cases hs : xsame (tg, u) (xat kd us n) with
  | true =>
    have e := xsame_t hs
    refine ⟨hp.1, ⟨us, h1, fun j hj => ?_⟩, xBut.rf, fun {i} => ⟨us, h1, ?_⟩⟩
    · show xat kd us j = (tg, if j = n then u else f j)
      by_cases hj' : j = n
      · subst hj'
        rw [if_pos rfl]
        exact e.symm
      · rw [if_neg hj']
        exact h2 j hj
    · show xif (true && Nat.blt n L) (cond (xsame (tg, u) (xat kd us n)) _ _) = _
      rw [xblt_t hn, hs]
      rfl
  | false =>
    refine ⟨wset (.inr (kd, L, t, (n, (tg, u)) :: us)) hp.1 k, ⟨(n, (tg, u)) :: us, wget_set_self h1, fun j hj => ?_⟩, xBut.set h1, fun {i} => ⟨us, h1, ?_⟩⟩
    · rw [xatk_cons]
      show cond (Nat.beq n j) (tg, u) (xat kd us j) = (tg, if j = n then u else f j)
      by_cases hj' : j = n
      · subst hj'
        rw [if_pos rfl, Nat.beq_refl]
        rfl
      · rw [if_neg hj', xbeq_f (fun z => hj' z.symm)]
        exact h2 j hj
    · show xif (true && Nat.blt n L) (cond (xsame (tg, u) (xat kd us n)) _ _) = _
      rw [xblt_t hn, hs]
      rfl
theorem xg_bald (h : xRk kd 0 w k L t f) (hk : (Nat.beq kd 1 || Nat.beq kd 2) = true) (hi : xnm hr.1 va = (0, n)) (hn : n < L) (hv : f n = u) : xLd d M (p0, (pc, ln, 32, x, y, ix) :: tl, lo, va :: (2, k) :: st, (w, hr)) [(pc + ln, tl, lo, (0, u) :: st, (w, hr))] := by
  obtain ⟨us, h1, h2⟩ := h
  refine xg_op (f := xh_baload) rfl ?_
  show xob (wget w k) (fun q => xarr q (xald1 (fun k => Nat.beq k 1 || Nat.beq k 2) xidk d M (pc, ln, 32, x, y, ix) tl lo st (w, hr) (xnm hr.1 va))) = _
  rw [h1, hi]
  show xif ((Nat.beq kd 1 || Nat.beq kd 2) && (true && Nat.blt n L)) (xidk d M (pc + ln, tl, lo, xat kd us n :: st, (w, hr))) = _
  rw [hk, xblt_t hn, h2 n hn, hv]
  rfl
theorem xg_lald (h : xRk 3 4 w k L t f) (hi : xnm hr.1 va = (0, n)) (hn : n < L) (hv : f n = u) : xLd d M (p0, (pc, ln, 64, x, y, ix) :: tl, lo, va :: (2, k) :: st, (w, hr)) [(pc + ln, tl, lo, (4, u) :: st, (w, hr))] := by
  obtain ⟨us, h1, h2⟩ := h
  refine xg_hok xs_laload rfl ?_
  show xob (wget w k) (fun q => xarr q (xald1 (fun k => Nat.beq k 3) xidk d M (pc, ln, 64, x, y, ix) tl lo st (w, hr) (xnm hr.1 va))) = _
  rw [h1, hi]
  show xif (true && (true && Nat.blt n L)) (xidk d M (pc + ln, tl, lo, xat 3 us n :: st, (w, hr))) = _
  rw [xblt_t hn, h2 n hn, hv]
  rfl
theorem xg_last (h : xRk 3 4 w k L t f) (hi : xnm hr.1 va = (0, n)) (hn : n < L) (K : ∀ w', xRk 3 4 w' k L t (fun j => if j = n then u else f j) → xBut k w w' → xTo d M (pc + ln, tl, lo, st, (w', hr)) P) : xTo d M (p0, (pc, ln, 65, x, y, ix) :: tl, lo, (4, u) :: va :: (2, k) :: st, (w, hr)) P := by
  obtain ⟨w', q1, q2, q3⟩ := xast_row (d := d) (M := M) (tl := tl) (lo := lo) (st := st) (u := u) (hp := (w, hr)) h hn
  obtain ⟨us, q4, q5⟩ := q3 (i := (pc, ln, 65, x, y, ix))
  refine xg_t (xg_hok (fs := [(pc + ln, tl, lo, st, (w', hr))]) xs_lastore rfl ?_) (K w' q1 q2)
  show xob (wget w k) (fun q => xarr q fun a => xif (Nat.beq a.1 3) (xast1 xidk d M (pc, ln, 65, x, y, ix) tl lo st (w, hr) k (4, u) (xnm hr.1 va) a)) = _
  rw [show wget w k = _ from q4, hi]
  exact q5
theorem xg_bastZ (h : xRk 2 0 w k L t f) (hi : xnm hr.1 va = (0, n)) (hv : xnm hr.1 vb = (0, u)) (ib : xisi vb = true) (hu : u ≤ 1) (hn : n < L) (K : ∀ w', xRk 2 0 w' k L t (fun j => if j = n then u else f j) → xBut k w w' → xTo d M (pc + ln, tl, lo, st, (w', hr)) P) : xTo d M (p0, (pc, ln, 28, x, y, ix) :: tl, lo, vb :: va :: (2, k) :: st, (w, hr)) P := by
  obtain ⟨w', q1, q2, q3⟩ := xast_row (d := d) (M := M) (tl := tl) (lo := lo) (st := st) (u := u) (hp := (w, hr)) h hn
  obtain ⟨us, q4, q5⟩ := q3 (i := (pc, ln, 28, x, y, ix))
  refine xg_t (xg_op (f := xh_bastore) (fs := [(pc + ln, tl, lo, st, (w', hr))]) rfl ?_) (K w' q1 q2)
  show xif (Nat.beq 2 2 && xisi vb) (xob (wget w k) fun q => xarr q (xbst1 xidk d M (pc, ln, 28, x, y, ix) tl lo st (w, hr) k (xnm hr.1 vb) (xnm hr.1 va))) = _
  rw [ib, show wget w k = _ from q4, hi, hv]
  show xif (true && Nat.ble u 1) (xast1 xidk d M (pc, ln, 28, x, y, ix) tl lo st (w, hr) k (0, u) (0, n) (2, L, t, us)) = _
  rw [Nat.ble_eq_true_of_le hu]
  exact q5
theorem xg_bastY (h : xRk 1 0 w k L t f) (hi : xnm hr.1 va = (0, n)) (hv : xnm hr.1 vb = (0, u)) (ib : xisi vb = true) (hn : n < L) (K : ∀ w', xRk 1 0 w' k L t (fun j => if j = n then xbyt u else f j) → xBut k w w' → xTo d M (pc + ln, tl, lo, st, (w', hr)) P) : xTo d M (p0, (pc, ln, 28, x, y, ix) :: tl, lo, vb :: va :: (2, k) :: st, (w, hr)) P := by
  obtain ⟨w', q1, q2, q3⟩ := xast_row (d := d) (M := M) (tl := tl) (lo := lo) (st := st) (u := xbyt u) (hp := (w, hr)) h hn
  obtain ⟨us, q4, q5⟩ := q3 (i := (pc, ln, 28, x, y, ix))
  refine xg_t (xg_op (f := xh_bastore) (fs := [(pc + ln, tl, lo, st, (w', hr))]) rfl ?_) (K w' q1 q2)
  show xif (Nat.beq 2 2 && xisi vb) (xob (wget w k) fun q => xarr q (xbst1 xidk d M (pc, ln, 28, x, y, ix) tl lo st (w, hr) k (xnm hr.1 vb) (xnm hr.1 va))) = _
  rw [ib, show wget w k = _ from q4, hi, hv]
  show xN (xbyt u) (fun z => xast1 xidk d M (pc, ln, 28, x, y, ix) tl lo st (w, hr) k (0, z) (0, n) (1, L, t, us)) = _
  rw [xN_eq]
  exact q5
theorem xg_putJ (h : wget w k = some (.inl (x, fl))) (hv : xget fl y = some vb) (hx : xset (4, u) fl y = fl1) (K : ∀ w', wget w' k = some (.inl (x, fl1)) → xBut k w w' → xTo d M (pc + ln, tl, lo, st, (w', hr)) P) : xTo d M (p0, (pc, ln, 71, x, y, ix) :: tl, lo, (4, u) :: (2, k) :: st, (w, hr)) P := by
  subst hx
  refine xg_t (xg_hok (fs := [(pc + ln, tl, lo, st, (wset (.inl (x, xset (4, u) fl y)) w k, hr))]) xs_putJ rfl ?_) (K _ (wget_set_self h) (xBut.set h))
  show xob (wget w k) (fun q => xobj q (xpf1 xidk d M (pc, ln, 71, x, y, ix) tl lo st (w, hr) (4, u) k)) = _
  rw [h]
  show xif (Nat.beq x x) (xob (xget fl y) fun _ => xidk d M (pc + ln, tl, lo, st, xwr (w, hr) k (.inl (x, xset (4, u) fl y)))) = _
  rw [Nat.beq_refl, hv]
  rfl
theorem xg_lload (h : xfind lo x = some (4, u)) : xLd d M (p0, (pc, ln, 53, x, y, ix) :: tl, lo, st, hp) [(pc + ln, tl, lo, (4, u) :: st, hp)] := by
  refine xg_op (f := xh_lload) rfl ?_
  show xob (xfind lo x) (fun v => xif (Nat.beq v.1 4) (xidk d M (pc + ln, tl, lo, v :: st, hp))) = _
  rw [h]
  rfl
theorem xg_lstore (hm : Nat.blt (x + 1) M.2.2.1 = true) (hl : lo.filter (xkp2 x) = l1) : xLd d M (p0, (pc, ln, 54, x, y, ix) :: tl, lo, (4, u) :: st, hp) [(pc + ln, tl, (x, (4, u)) :: l1, st, hp)] := by
  refine xg_op (f := xh_lstore) rfl ?_
  show xif (Nat.blt (x + 1) M.2.2.1) (xflt (xkp2 x) lo fun l => xidk d M (pc + ln, tl, (x, (4, u)) :: l, st, hp)) = _
  rw [hm, xflt_eq, hl]
  rfl
theorem xg_lconst : xLd d M (p0, (pc, ln, 51, x, y, ix) :: tl, lo, st, hp) [(pc + ln, tl, lo, (4, x) :: st, hp)] := xg_op (f := xh_lconst) rfl rfl
theorem xg_ldc2 : xLd d M (p0, (pc, ln, 52, x, y, ix) :: tl, lo, st, hp) [(pc + ln, tl, lo, (4, x) :: st, hp)] := xg_op (f := xh_lconst) rfl rfl
/-- a switch: where a known number goes -/
def xswt (df : Nat) (u : Nat) : List (Nat × Nat) → Nat
  | [] => df
  | q :: ks => if u = q.1 then q.2 else xswt df u ks
theorem xswgT {e : xI} {s0 : List xV} : ∀ (ks : List (Nat × Nat)), xswg xidk d M e tl lo s0 st hp (0, u) ks = some [(xswt e.2.2.2.1 u ks, [], lo, st, hp)]
  | [] => rfl
  | q :: ks => by
    have ih := xswgT (e := e) (s0 := s0) ks
    show xans (xeq hp.2.1 (0, u) (0, q.1)) hp (fun t => cond t (xidk d M (q.2, [], lo, st, hp)) (xswg xidk d M e tl lo s0 st hp (0, u) ks)) _ = _
    rw [xeq_of (a := (0, u)) (b := (0, q.1)) rfl rfl, ih]
    show xans (cond (Nat.beq u q.1) (1, 0, 0) (0, 0, 0)) hp _ _ = some [(if u = q.1 then q.2 else xswt e.2.2.2.1 u ks, [], lo, st, hp)]
    cases hc : Nat.beq u q.1 with
    | true =>
      rw [if_pos (xbeq hc)]
      rfl
    | false =>
      rw [if_neg (xnbeq hc)]
      rfl
theorem xg_swt {ks : List (Nat × Nat)} (ho : xget xoph op = some xh_switch) (hk : xget xsws ix = some ks) (ia : xisi va = true) (ha : xnm hp.2.1 va = (0, u)) (ht : xswt x u ks = z) : xLd d M (p0, (pc, ln, op, x, y, ix) :: tl, lo, va :: st, hp) [(z, [], lo, st, hp)] := by
  refine xg_op ho ?_
  show xif (xisi va) (xob (xget xsws ix) fun ks => xswg xidk d M (pc, ln, op, x, y, ix) tl lo (va :: st) st hp (xnm hp.2.1 va) ks) = _
  rw [ia, hk, ha, ← ht]
  exact xswgT ks
end XRK
/-! calls by what they keep: no answer, an int, a long -/
section XCK
variable {d x y ix p0 pc ln j : Nat} {M : xM} {P : xS → Prop} {tl : List xI} {lo : xLo} {st rest vs : List xV} {w : List (List xE)} {bd : List (Nat × Nat)} {fc : List (Nat × Nat × Bool)} {cn sl cn1 sl1 : Nat} {rr : Nat × Nat} {fl : List xV} {Q : List (List xE) → Prop} {Qi : Nat → List (List xE) → Prop}
def xPi (d : Nat) (M : xM) (vs : List xV) (w : List (List xE)) (bd : List (Nat × Nat)) (fc : List (Nat × Nat × Bool)) (rr : Nat × Nat) (Q : Nat → List (List xE) → Prop) : Prop := ∃ n w', Q n w' ∧ xPr d M vs w bd fc rr [(0, n)] w'
def xPj (d : Nat) (M : xM) (vs : List xV) (w : List (List xE)) (bd : List (Nat × Nat)) (fc : List (Nat × Nat × Bool)) (rr : Nat × Nat) (Q : Nat → List (List xE) → Prop) : Prop := ∃ n w', Q n w' ∧ xPr d M vs w bd fc rr [(4, n)] w'
theorem xPi.of (h : xTo d M (0, [], xarg vs 0, [], (w, bd, fc, 0, 0, rr)) (fun φ => ∃ n w', xEnd M.2.2.2.2.2.1 [(0, n)] (w', bd, fc, 0, 0, rr) φ ∧ Qi n w')) : xPi d M vs w bd fc rr Qi := by
  obtain ⟨φ, h1, n, w', ⟨h2, h3⟩, h4⟩ := h
  exact ⟨n, w', h4, φ, h1, h2, h3⟩
theorem xPj.of (h : xTo d M (0, [], xarg vs 0, [], (w, bd, fc, 0, 0, rr)) (fun φ => ∃ n w', xEnd M.2.2.2.2.2.1 [(4, n)] (w', bd, fc, 0, 0, rr) φ ∧ Qi n w')) : xPj d M vs w bd fc rr Qi := by
  obtain ⟨φ, h1, n, w', ⟨h2, h3⟩, h4⟩ := h
  exact ⟨n, w', h4, φ, h1, h2, h3⟩
theorem xg_cVv (M' : xM) (hk : mget x = some M') (hP : xPq d M' ((2, j) :: vs) w bd fc rr [] Q) (hy : y % 8 = 0) (ho : wget w j = some (.inl (y / 8, fl))) (hn : Nat.beq (st.take M'.2.2.2.2.1).length M'.2.2.2.2.1 = true) (hv : (st.take M'.2.2.2.2.1).reverse = vs) (hr : st.drop M'.2.2.2.2.1 = (2, j) :: rest) (hb : ((Nat.ble (cn + M'.2.2.2.2.2.2.1) M.2.2.2.2.2.2.1 && Nat.ble (xwds ((2, j) :: vs)) M'.2.2.1) && (Nat.ble (sl + M'.2.2.2.2.2.2.2.1) M.2.2.2.2.2.2.2.1 && Nat.ble (xwds rest) 8)) = true) (h1 : cn + M'.2.2.2.2.2.2.1 = cn1) (h2 : sl + M'.2.2.2.2.2.2.2.1 = sl1) (K : ∀ w', Q w' → xTo (d + 1) M (pc + ln, tl, lo, rest, (w', bd, fc, cn1, sl1, rr)) P) : xTo (d + 1) M (p0, (pc, ln, 13, x, y, ix) :: tl, lo, st, (w, bd, fc, cn, sl, rr)) P := xg_cV M' hk hP hy ho hn hv hr hb rfl h1 h2 K
theorem xg_cSv (M' : xM) (hk : mget x = some M') (hP : xPq d M' vs w bd fc rr [] Q) (hy : y % 8 = 2) (hn : Nat.beq (st.take M'.2.2.2.2.1).length M'.2.2.2.2.1 = true) (hv : (st.take M'.2.2.2.2.1).reverse = vs) (hr : st.drop M'.2.2.2.2.1 = rest) (hb : ((Nat.ble (cn + M'.2.2.2.2.2.2.1) M.2.2.2.2.2.2.1 && Nat.ble (xwds vs) M'.2.2.1) && (Nat.ble (sl + M'.2.2.2.2.2.2.2.1) M.2.2.2.2.2.2.2.1 && Nat.ble (xwds rest) 8)) = true) (h1 : cn + M'.2.2.2.2.2.2.1 = cn1) (h2 : sl + M'.2.2.2.2.2.2.2.1 = sl1) (K : ∀ w', Q w' → xTo (d + 1) M (pc + ln, tl, lo, rest, (w', bd, fc, cn1, sl1, rr)) P) : xTo (d + 1) M (p0, (pc, ln, 13, x, y, ix) :: tl, lo, st, (w, bd, fc, cn, sl, rr)) P := xg_cS M' hk hP hy hn hv hr hb rfl h1 h2 K
theorem xg_cVi (M' : xM) (hk : mget x = some M') (hP : xPi d M' ((2, j) :: vs) w bd fc rr Qi) (hy : y % 8 = 0) (ho : wget w j = some (.inl (y / 8, fl))) (hn : Nat.beq (st.take M'.2.2.2.2.1).length M'.2.2.2.2.1 = true) (hv : (st.take M'.2.2.2.2.1).reverse = vs) (hr : st.drop M'.2.2.2.2.1 = (2, j) :: rest) (hb : ((Nat.ble (cn + M'.2.2.2.2.2.2.1) M.2.2.2.2.2.2.1 && Nat.ble (xwds ((2, j) :: vs)) M'.2.2.1) && (Nat.ble (sl + M'.2.2.2.2.2.2.2.1) M.2.2.2.2.2.2.2.1 && Nat.ble (xwds rest) 8)) = true) (h1 : cn + M'.2.2.2.2.2.2.1 = cn1) (h2 : sl + M'.2.2.2.2.2.2.2.1 = sl1) (K : ∀ n w', Qi n w' → xTo (d + 1) M (pc + ln, tl, lo, (0, n) :: rest, (w', bd, fc, cn1, sl1, rr)) P) : xTo (d + 1) M (p0, (pc, ln, 13, x, y, ix) :: tl, lo, st, (w, bd, fc, cn, sl, rr)) P := by
  obtain ⟨n, w', q1, q2⟩ := hP
  exact xg_cV M' hk ⟨w', rfl, q2⟩ hy ho hn hv hr hb rfl h1 h2 (fun w2 e => by subst e; exact K n _ q1)
theorem xg_cSi (M' : xM) (hk : mget x = some M') (hP : xPi d M' vs w bd fc rr Qi) (hy : y % 8 = 2) (hn : Nat.beq (st.take M'.2.2.2.2.1).length M'.2.2.2.2.1 = true) (hv : (st.take M'.2.2.2.2.1).reverse = vs) (hr : st.drop M'.2.2.2.2.1 = rest) (hb : ((Nat.ble (cn + M'.2.2.2.2.2.2.1) M.2.2.2.2.2.2.1 && Nat.ble (xwds vs) M'.2.2.1) && (Nat.ble (sl + M'.2.2.2.2.2.2.2.1) M.2.2.2.2.2.2.2.1 && Nat.ble (xwds rest) 8)) = true) (h1 : cn + M'.2.2.2.2.2.2.1 = cn1) (h2 : sl + M'.2.2.2.2.2.2.2.1 = sl1) (K : ∀ n w', Qi n w' → xTo (d + 1) M (pc + ln, tl, lo, (0, n) :: rest, (w', bd, fc, cn1, sl1, rr)) P) : xTo (d + 1) M (p0, (pc, ln, 13, x, y, ix) :: tl, lo, st, (w, bd, fc, cn, sl, rr)) P := by
  obtain ⟨n, w', q1, q2⟩ := hP
  exact xg_cS M' hk ⟨w', rfl, q2⟩ hy hn hv hr hb rfl h1 h2 (fun w2 e => by subst e; exact K n _ q1)
end XCK
theorem xrb {f : Nat → Nat} {n v B : Nat} (hv : v ≤ B) (h : ∀ j, f j ≤ B) : ∀ j, (fun j => if j = n then v else f j) j ≤ B := by
  intro j
  show (if j = n then v else f j) ≤ B
  split
  · exact hv
  · exact h j
end
section
/-! the greater and the less of two ints; rows copied -/
section XMX
variable {d p0 pc ln op x y ix u v z k n t L : Nat} {M : xM} {tl : List xI} {lo : xLo} {st : List xV} {hp : xH} {va vb : xV} {P : xS → Prop}
theorem xmx_ok : ((Nat.blt 0 (d + 1) && true) && true) = true := by
  rw [xblt_t (Nat.succ_pos d)]
  rfl
theorem xg_mmK {F : Nat → Nat → Nat} (ho : xget xoph op = some (xmm F)) (ha : xnm hp.2.1 va = (0, u)) (hb : xnm hp.2.1 vb = (0, v)) (hk : ((Nat.blt 0 d && Nat.ble st.length 4) && (Nat.ble hp.2.2.2.1 M.2.2.2.2.2.2.1 && Nat.ble hp.2.2.2.2.1 M.2.2.2.2.2.2.2.1)) = true) (K : xTo d M (pc + ln, tl, lo, (0, F u v) :: st, hp) P) : xTo d M (p0, (pc, ln, op, x, y, ix) :: tl, lo, vb :: va :: st, hp) P := by
  refine xg_t (xg_op (fs := [(pc + ln, tl, lo, (0, F u v) :: st, hp)]) ho ?_) K
  show xmm1 F xidk d M (pc, ln, op, x, y, ix) tl lo st hp (xnm hp.2.1 va) (xnm hp.2.1 vb) = _
  rw [ha, hb]
  show xif (true && ((Nat.blt 0 d && Nat.ble st.length 4) && (Nat.ble hp.2.2.2.1 M.2.2.2.2.2.2.1 && Nat.ble hp.2.2.2.2.1 M.2.2.2.2.2.2.2.1))) (xN (F u v) fun z => xidk d M (pc + ln, tl, lo, (0, z) :: st, hp)) = _
  rw [hk, xN_eq]
  rfl
theorem xg_maxK (ha : xnm hp.2.1 va = (0, u)) (hb : xnm hp.2.1 vb = (0, v)) (hk : ((Nat.blt 0 d && Nat.ble st.length 4) && (Nat.ble hp.2.2.2.1 M.2.2.2.2.2.2.1 && Nat.ble hp.2.2.2.2.1 M.2.2.2.2.2.2.2.1)) = true) (hu : u < 4294967296) (hv : v < 4294967296) (K : ∀ z, z < 4294967296 → xbs u ≤ xbs z → xbs v ≤ xbs z → z = u ∨ z = v → xTo d M (pc + ln, tl, lo, (0, z) :: st, hp) P) : xTo d M (p0, (pc, ln, 62, x, y, ix) :: tl, lo, vb :: va :: st, hp) P := by
  refine xg_mmK (F := xmaxF) rfl ha hb hk ?_
  unfold xmaxF
  cases hc : Nat.blt (xbs u) (xbs v) with
  | true => exact K v hv (Nat.le_of_lt (xblt hc)) (Nat.le_refl _) (Or.inr rfl)
  | false => exact K u hu (Nat.le_refl _) (xnblt hc) (Or.inl rfl)
theorem xg_minK (ha : xnm hp.2.1 va = (0, u)) (hb : xnm hp.2.1 vb = (0, v)) (hk : ((Nat.blt 0 d && Nat.ble st.length 4) && (Nat.ble hp.2.2.2.1 M.2.2.2.2.2.2.1 && Nat.ble hp.2.2.2.2.1 M.2.2.2.2.2.2.2.1)) = true) (hu : u < 4294967296) (hv : v < 4294967296) (K : ∀ z, z < 4294967296 → xbs z ≤ xbs u → xbs z ≤ xbs v → z = u ∨ z = v → xTo d M (pc + ln, tl, lo, (0, z) :: st, hp) P) : xTo d M (p0, (pc, ln, 63, x, y, ix) :: tl, lo, vb :: va :: st, hp) P := by
  refine xg_mmK (F := xminF) rfl ha hb hk ?_
  unfold xminF
  cases hc : Nat.blt (xbs v) (xbs u) with
  | true => exact K v hv (Nat.le_of_lt (xblt hc)) (Nat.le_refl _) (Or.inr rfl)
  | false => exact K u hu (Nat.le_refl _) (xnblt hc) (Or.inl rfl)
end XMX
/-- the places 0 .. n - 1 of a row, written ahead of others -/
def xcpl (f : Nat → Nat) : Nat → List (Nat × xV) → List (Nat × xV)
  | 0, us => us
  | n + 1, us => (n, (0, f n)) :: xcpl f n us
theorem xcpl_find {f : Nat → Nat} {us : List (Nat × xV)} {j : Nat} : ∀ n, xfind (xcpl f n us) j = if j < n then some (0, f j) else xfind us j
  | 0 => by rw [if_neg (Nat.not_lt_zero j)]; rfl
  | n + 1 => by
    have ih := xcpl_find (f := f) (us := us) (j := j) n
    show cond (Nat.beq n j) (some (0, f n)) (xfind (xcpl f n us) j) = _
    rw [ih]
    cases hc : Nat.beq n j with
    | true =>
      have e := xbeq hc
      subst e
      rw [if_pos (Nat.lt_succ_self n)]
      rfl
    | false =>
      have e := xnbeq hc
      by_cases h : j < n
      · rw [if_pos h, if_pos (by omega)]
        rfl
      · rw [if_neg h, if_neg (by omega)]
        rfl
section XCP
variable {d p0 pc ln x y ix n k0 k1 L0 L1 t0 t1 : Nat} {M : xM} {tl : List xI} {lo : xLo} {st : List xV} {hr : xHr} {va : xV} {P : xS → Prop} {w : List (List xE)} {f g : Nat → Nat}
theorem xg_copyI (h0 : xRow w k0 L0 t0 f) (h1 : xRow w k1 L1 t1 g) (ha : xnm hr.1 va = (0, n)) (hn0 : n ≤ L0) (hn1 : n ≤ L1) (hst : st.length ≤ 4) (K : ∀ w', xRow w' k1 L1 t1 (fun j => if j < n then f j else g j) → xBut k1 w w' → xTo (d + 1) M (pc + ln, tl, lo, st, (w', hr)) P) : xTo (d + 1) M (p0, (pc, ln, 58, x, y, ix) :: tl, lo, va :: (0, 0) :: (2, k1) :: (0, 0) :: (2, k0) :: st, (w, hr)) P := by
  obtain ⟨us0, e0, f0⟩ := h0
  obtain ⟨us1, e1, f1⟩ := h1
  have hrow : xRow (wset (.inr (0, L1, t1, xcpl f n us1)) w k1) k1 L1 t1 (fun j => if j < n then f j else g j) := by
    refine ⟨_, wget_set_self e1, fun j hj => ?_⟩
    have hj1 := f1 j hj
    unfold xat at hj1 ⊢
    rw [xcpl_find]
    show _ = (0, if j < n then f j else g j)
    by_cases hc : j < n
    · rw [if_pos hc, if_pos hc]
    · rw [if_neg hc, if_neg hc]
      exact hj1
  refine xg_t (τ := (pc + ln, tl, lo, st, (wset (.inr (0, L1, t1, xcpl f n us1)) w k1, hr))) ?_ (K _ hrow (xBut.set e1))
  intro hM hpos p l e R s m args below meth c D A gg cw0 tys0 io0 Q C hQ cw tys io H locs ls lv sv hE hK hP hD hS hlv hlo hsv hh
  obtain ⟨q1, q2, q3, q4⟩ := hpos
  have q1 : pc = p0 := q1
  subst q1
  obtain ⟨t', z3, hdec, c0⟩ := q2
  have z4 : xget xopi 58 = some (fun e => .invokestatic e.2.2.2.2.2, xPcp) := rfl
  have z3 : xget xopi 58 = some t' := z3
  rw [z4] at z3
  cases z3
  obtain ⟨a1, c1⟩ := c0
  have a1 : ln = 3 := a1
  subst a1
  have hdec : decode M.2.1 pc = .ok (.invokestatic ix, 3) := hdec
  have c1 : Cond.methodLink M.1.cls ix arraycopyName ∈ lw_gt := c1
  obtain ⟨wn, sv1, rfl, r1, hs1⟩ := xrel_cons hsv
  obtain ⟨wd, sv2, rfl, r2, hs2⟩ := xrel_cons hs1
  obtain ⟨wr, sv3, rfl, r3, hs3⟩ := xrel_cons hs2
  obtain ⟨wp, sv4, rfl, r4, hs4⟩ := xrel_cons hs3
  obtain ⟨w0, sv5, rfl, r5, hs5⟩ := xrel_cons hs4
  obtain ⟨a, e', g1, rfl⟩ := xRv2 r3
  obtain ⟨a0, e0', j1, rfl⟩ := xRv2 r5
  obtain ⟨q', g2, g3⟩ := hh.1.get e1
  rw [g1] at g2
  cases g2
  obtain ⟨q0', j2, j3⟩ := hh.1.get e0
  rw [j1] at j2
  cases j2
  obtain ⟨cA, F1, ty, rfl, hl1, ht1, ⟨rfl, hf1, rfl⟩, hall⟩ := xarr_get g3
  obtain ⟨cA0, F0', ty0, rfl, hl0, ht0, ⟨rfl, hf0, rfl⟩, hall0⟩ := xarr_get j3
  obtain ⟨qf, g8, g9⟩ := wfl_get g1
  obtain ⟨qf0, j8, -⟩ := wfl_get j1
  have y1 := xnm_ok hh.2.1 r1
  have y1 : xRv gg cw io (xnm hr.1 va) wn := y1
  rw [ha] at y1
  obtain ⟨-, rfl⟩ := y1
  obtain ⟨-, rfl⟩ := r2
  obtain ⟨-, rfl⟩ := r4
  have hcn : (nI (0, n).2).toNatClampNeg = n := nI_clamp (by show n < 2147483648; omega)
  have hc0 : (nI (0, 0).2).toNatClampNeg = 0 := nI_clamp (by decide)
  have hlen := xrel_len hs5
  have hcs := xcats sv5
  have hcw := xcopyw
  obtain ⟨hx, hb, hml, hown, hts, hA, hR, -, -⟩ := id C
  refine va_copyi hx hb (by rw [hml, hlv.1]) hown (hts _ c1) (hts _ xt_cn) (hts _ xt_cs) (hts _ xt_sys) hK hP hD hS qf0 qf t0 t1 j8 g8 ht0 ht1 rfl (nI_pos (by decide)) (nI_pos (by decide)) (nI_pos (by show n < 2147483648; omega)) ?_ ?_ (fun _ _ => rfl) (by omega) (by omega) hdec fun H1 locs1 hP1 hD1 hS1 => ?_
  · rw [hcn, hc0]
    omega
  · rw [hcn, hc0]
    omega
  · rw [hcn, hc0] at hP1 hD1
    rw [g9] at hP1 hD1
    have E : xExt cw tys io (wset (a, .inl (cA, L1, .inl (va_cpy hf0 hf1 0 0 n))) cw k1) tys io := xExt.set g1
    have hnew : xRe gg cw tys io (.inr (0, L1, t1, xcpl f n us1)) (.inl (cA, L1, .inl (va_cpy hf0 hf1 0 0 n))) := by
      refine ⟨rfl, hl1, .int, ht1, ⟨rfl, _, rfl⟩, fun j => ?_⟩
      show xRa gg cw io 0 (xcpl f n us1) (.inl (va_cpy hf0 hf1 0 0 n)) j
      have hj := hall j
      unfold xRa at hj ⊢
      rw [xcpl_find]
      by_cases hc : j < n
      · rw [if_pos hc]
        have ev : va_cpy hf0 hf1 0 0 n j = hf0 j := by
          unfold va_cpy
          rw [if_pos ⟨Nat.zero_le j, by omega⟩, Nat.sub_zero, Nat.zero_add]
        show xRv gg cw io (0, f j) (.int (va_cpy hf0 hf1 0 0 n j))
        rw [ev, ← f0 j (by omega)]
        exact xat_ok (hall0 j)
      · rw [if_neg hc]
        have ev : va_cpy hf0 hf1 0 0 n j = hf1 j := by
          unfold va_cpy
          rw [if_neg (by omega)]
        show match xfind us1 j with
          | some v => xRv gg cw io v (.int (va_cpy hf0 hf1 0 0 n j))
          | none => Value.int (va_cpy hf0 hf1 0 0 n j) = xdef 0
        rw [ev]
        exact hj
    refine hQ _ List.mem_cons_self ⟨?_, q4⟩ _ tys io H1 locs1 ls lv sv5 (hE.tr E) hK hP1 hD1 hS1 hlv (xrel_imp (fun _ _ q => ⟨q.1, q.2.ext E⟩) hlo) (xrel_imp (fun _ _ q => q.ext E) hs5) ⟨hh.1.set e1 g1 hnew, hh.2⟩
    cases tl with
    | nil => trivial
    | cons a b => exact q3
end XCP
section XKB
variable {d p0 pc ln x y ix u v n k L t B : Nat} {M : xM} {tl : List xI} {lo : xLo} {st : List xV} {hp : xH} {hr : xHr} {va vb : xV} {P : xS → Prop} {w : List (List xE)} {f : Nat → Nat}
theorem xg_ialdB (h : xRow w k L t f) (hB : ∀ j, f j ≤ B) (hi : xnm hr.1 va = (0, n)) (hn : n < L) (K : ∀ u, u ≤ B → f n = u → xTo d M (pc + ln, tl, lo, (0, u) :: st, (w, hr)) P) : xTo d M (p0, (pc, ln, 10, x, y, ix) :: tl, lo, va :: (2, k) :: st, (w, hr)) P := xg_t (xg_ialdR h hi hn rfl) (K (f n) (hB n) rfl)
theorem xg_baldB {kd : Nat} (h : xRk kd 0 w k L t f) (hk : (Nat.beq kd 1 || Nat.beq kd 2) = true) (hB : ∀ j, f j ≤ B) (hi : xnm hr.1 va = (0, n)) (hn : n < L) (K : ∀ u, u ≤ B → f n = u → xTo d M (pc + ln, tl, lo, (0, u) :: st, (w, hr)) P) : xTo d M (p0, (pc, ln, 32, x, y, ix) :: tl, lo, va :: (2, k) :: st, (w, hr)) P := xg_t (xg_bald h hk hi hn rfl) (K (f n) (hB n) rfl)
theorem xlor_lt (hu : u < 4294967296) (hv : v < 4294967296) : Nat.lor u v < 4294967296 := Nat.or_lt_two_pow (n := 32) hu hv
theorem xland_lt (hv : v < 4294967296) : Nat.land u v < 4294967296 := Nat.and_lt_two_pow (n := 32) u hv
theorem xlor1 (hu : u ≤ 1) (hv : v ≤ 1) : Nat.lor u v ≤ 1 := Nat.le_of_lt_succ (Nat.or_lt_two_pow (n := 1) (by omega) (by omega))
theorem xg_ior1 (ha : xnm hp.2.1 va = (0, u)) (hb : xnm hp.2.1 vb = (0, v)) (hu : u ≤ 1) (hv : v ≤ 1) (K : ∀ z, z ≤ 1 → xTo d M (pc + ln, tl, lo, (0, z) :: st, hp) P) : xTo d M (p0, (pc, ln, 38, x, y, ix) :: tl, lo, vb :: va :: st, hp) P := xg_t (xg_ior ha hb rfl) (K _ (xlor1 hu hv))
theorem xret_b {pc' : Nat} (h : n ≤ 1) : xret 4 (pc', (pc, 1, 12, 0, 1, 0) :: tl, lo, [(0, n)], hp) = some [(0, n)] := by
  show xif (Nat.beq 0 0 && Nat.ble n 1) (some [(0, n)]) = _
  rw [Nat.ble_eq_true_of_le h]
  rfl
end XKB
theorem xcb2 {f g : Nat → Nat} {n B : Nat} (h : ∀ j, f j ≤ B) (h' : ∀ j, g j ≤ B) : ∀ j, (fun j => if j < n then f j else g j) j ≤ B := by
  intro j
  show (if j < n then f j else g j) ≤ B
  split
  · exact h j
  · exact h' j
theorem xiteb {f : Nat → Nat} {x : Nat} {c : Prop} {_ : Decidable c} (h : ∀ j, f j ≤ 4294967295) : (if c then f x else 4294967295) < 4294967296 := by
  have := h x
  split <;> omega
end
section
/-! a shift without a sign -/
section XUS
variable {d p0 pc ln x y ix u v z : Nat} {M : xM} {tl : List xI} {lo : xLo} {st : List xV} {hp : xH} {va vb : xV}
theorem xg_iushr (ha : xnm hp.2.1 va = (0, u)) (hb : xnm hp.2.1 vb = (0, v)) (hv : v < 32) (hz : u / 2 ^ v = z) : xLd d M (p0, (pc, ln, 42, x, y, ix) :: tl, lo, vb :: va :: st, hp) [(pc + ln, tl, lo, (0, z) :: st, hp)] := xg_bin (F := fun a b => a / 2 ^ b) (chk := fun _ b => Nat.blt b 32) (al := false) (bo := xany) rfl ha hb (Nat.ble_eq_true_of_le hv) hz
theorem xush_lt (hu : u < 4294967296) : u / 2 ^ v < 4294967296 := Nat.lt_of_le_of_lt (Nat.div_le_self _ _) hu
end XUS
theorem xqm {sx st m : Nat} (h1 : 0 < sx) (h2 : sx < 2147483648) (h3 : 0 < st) (h4 : st < 2147483648) (h : (sx + 2147483648) % 4294967296 - 2147483648 < m + 1) : ((sx + (4294967296 - st)) % 4294967296 + 2147483648) % 4294967296 - 2147483648 < m := by
  have e1 : (sx + 2147483648) % 4294967296 = sx + 2147483648 := Nat.mod_eq_of_lt (by omega)
  rw [e1, Nat.add_sub_cancel] at h
  rcases Nat.lt_or_ge sx st with hc | hc
  · have e2 : ((sx + (4294967296 - st)) % 4294967296 + 2147483648) % 4294967296 ≤ 2147483648 := by omega
    rw [Nat.sub_eq_zero_of_le e2]
    clear e1 e2
    omega
  · have e2 : ((sx + (4294967296 - st)) % 4294967296 + 2147483648) % 4294967296 = (sx - st) + 2147483648 := by omega
    rw [e2, Nat.add_sub_cancel]
    clear e1 e2
    omega
theorem xsw_y {df u : Nat} {q : Nat × Nat} {ks : List (Nat × Nat)} (h : u = q.1) : xswt df u (q :: ks) = q.2 := if_pos h
theorem xsw_n {df u z : Nat} {q : Nat × Nat} {ks : List (Nat × Nat)} (h : ¬ u = q.1) (e : xswt df u ks = z) : xswt df u (q :: ks) = z := (if_neg h).trans e
theorem xsw_d {df u : Nat} : xswt df u [] = df := rfl
/-! a static call of a nest mate -/
section XNS
variable {d p0 pc ln x y ix : Nat} {M M' : xM} {P : xS → Prop} {tl : List xI} {lo : xLo} {st rest vs rs : List xV} {w w' : List (List xE)} {bd : List (Nat × Nat)} {fc : List (Nat × Nat × Bool)} {cn sl cn1 sl1 : Nat} {rr : Nat × Nat} {r : List xV} {Q : List (List xE) → Prop} {Qi : Nat → List (List xE) → Prop}
theorem xg_callN (hk : mget x = some M') (hP : xPr d M' vs w bd fc rr r w') (hy : y % 8 = 3) (hn : Nat.beq (st.take M'.2.2.2.2.1).length M'.2.2.2.2.1 = true) (hv : (st.take M'.2.2.2.2.1).reverse = vs) (hr : st.drop M'.2.2.2.2.1 = rest) (hb : ((Nat.ble (cn + M'.2.2.2.2.2.2.1) M.2.2.2.2.2.2.1 && Nat.ble (xwds vs) M'.2.2.1) && (Nat.ble (sl + M'.2.2.2.2.2.2.2.1) M.2.2.2.2.2.2.2.1 && Nat.ble (xwds rest) 8)) = true) : xLd (d + 1) M (p0, (pc, ln, 13, x, y, ix) :: tl, lo, st, (w, bd, fc, cn, sl, rr)) [(pc + ln, tl, lo, r ++ rest, (w', bd, fc, cn + M'.2.2.2.2.2.2.1, sl + M'.2.2.2.2.2.2.2.1, rr))] := by
  obtain ⟨φ, h1, h2, h3⟩ := hP
  intro hM hpos
  refine xstep_ok xmall (xihc_ok h1) (d + 1) M _ _ ?_ hM hpos
  show xob (mget x) (fun M' => xcall1 (xihc d _ (0, [], xarg vs 0, [], (w, bd, fc, 0, 0, rr)) φ) (d + 1) M (pc, ln, 13, x, y, ix) tl lo st (w, bd, fc, cn, sl, rr) M' d) = _
  rw [hk]
  show xcall1 (xihc d M' (0, [], xarg vs 0, [], (w, bd, fc, 0, 0, rr)) φ) (d + 1) M (pc, ln, 13, x, y, ix) tl lo st (w, bd, fc, cn, sl, rr) M' d = _
  unfold xcall1
  rw [hn, hv, hr]
  show cond (Nat.ble (y % 8) 1) _ (cond (Nat.ble (y % 8) 3) (xcall2 (xihc d M' (0, [], xarg vs 0, [], (w, bd, fc, 0, 0, rr)) φ) (d + 1) M (pc, ln, 13, x, y, ix) tl lo (w, bd, fc, cn, sl, rr) M' d vs rest) _) = _
  rw [hy]
  exact xc2_ok h2 h3 hb
theorem xg_cN (M' : xM) (hk : mget x = some M') (hP : xPq d M' vs w bd fc rr r Q) (hy : y % 8 = 3) (hn : Nat.beq (st.take M'.2.2.2.2.1).length M'.2.2.2.2.1 = true) (hv : (st.take M'.2.2.2.2.1).reverse = vs) (hr : st.drop M'.2.2.2.2.1 = rest) (hb : ((Nat.ble (cn + M'.2.2.2.2.2.2.1) M.2.2.2.2.2.2.1 && Nat.ble (xwds vs) M'.2.2.1) && (Nat.ble (sl + M'.2.2.2.2.2.2.2.1) M.2.2.2.2.2.2.2.1 && Nat.ble (xwds rest) 8)) = true) (hs : r ++ rest = rs) (h1 : cn + M'.2.2.2.2.2.2.1 = cn1) (h2 : sl + M'.2.2.2.2.2.2.2.1 = sl1) (K : ∀ w', Q w' → xTo (d + 1) M (pc + ln, tl, lo, rs, (w', bd, fc, cn1, sl1, rr)) P) : xTo (d + 1) M (p0, (pc, ln, 13, x, y, ix) :: tl, lo, st, (w, bd, fc, cn, sl, rr)) P := by
  obtain ⟨w', h3, h4⟩ := hP
  subst h1
  subst h2
  subst hs
  exact xg_t (xg_callN hk h4 hy hn hv hr hb) (K w' h3)
theorem xg_cNr (M' : xM) (hk : mget x = some M') (hP : xPr d M' vs w bd fc rr r w) (hy : y % 8 = 3) (hn : Nat.beq (st.take M'.2.2.2.2.1).length M'.2.2.2.2.1 = true) (hv : (st.take M'.2.2.2.2.1).reverse = vs) (hr : st.drop M'.2.2.2.2.1 = rest) (hb : ((Nat.ble (cn + M'.2.2.2.2.2.2.1) M.2.2.2.2.2.2.1 && Nat.ble (xwds vs) M'.2.2.1) && (Nat.ble (sl + M'.2.2.2.2.2.2.2.1) M.2.2.2.2.2.2.2.1 && Nat.ble (xwds rest) 8)) = true) (hs : r ++ rest = rs) (h1 : cn + M'.2.2.2.2.2.2.1 = cn1) (h2 : sl + M'.2.2.2.2.2.2.2.1 = sl1) : xLd (d + 1) M (p0, (pc, ln, 13, x, y, ix) :: tl, lo, st, (w, bd, fc, cn, sl, rr)) [(pc + ln, tl, lo, rs, (w, bd, fc, cn1, sl1, rr))] := by
  subst h1
  subst h2
  subst hs
  exact xg_callN hk hP hy hn hv hr hb
end XNS
end
section
/-! the static row SHORTER -/
def shr (n : Nat) : Nat := [0, 0, 10, 19, 27, 34, 40, 45, 49, 52, 54].getD n 0
theorem sh_le {a x : Nat} (h1 : 1 ≤ a) (h : x + a ≤ 10) : shr a + x ≤ 54 := by
  have k : ∀ a, a ≤ 10 → ∀ x, x ≤ 10 → 1 ≤ a → x + a ≤ 10 → shr a + x ≤ 54 := by decide
  exact k a (by omega) x (by omega) h1 h
theorem shr_le {a : Nat} (h : a ≤ 10) : shr a ≤ 54 := by
  have k : ∀ a, a ≤ 10 → shr a ≤ 54 := by decide
  exact k a h
section XSH
variable {d p0 pc ln x y ix n : Nat} {M : xM} {tl : List xI} {lo : xLo} {st : List xV} {hp : xH} {va : xV}
theorem xg_ald8 (ha : xnm hp.2.1 va = (0, n)) (hn : n ≤ 10) : xLd d M (p0, (pc, ln, 10, x, y, ix) :: tl, lo, va :: (8, 0) :: st, hp) [(pc + ln, tl, lo, (0, shr n) :: st, hp)] := by
  refine xg_op (f := xh_iaload) rfl ?_
  show xald8 xidk d M (pc, ln, 10, x, y, ix) tl lo st hp (8, 0) (xnm hp.2.1 va) = _
  rw [ha]
  have k : ∀ n, n ≤ 10 → xget [0, 0, 10, 19, 27, 34, 40, 45, 49, 52, 54] n = some (shr n) := by decide +kernel
  show xob (xget [0, 0, 10, 19, 27, 34, 40, 45, 49, 52, 54] n) (fun u => xidk d M (pc + ln, tl, lo, (0, u) :: st, hp)) = _
  rw [k n hn]
  rfl
end XSH
section XSL
variable {d p0 pc ln x y ix n k u : Nat} {M : xM} {tl : List xI} {lo : xLo} {st : List xV} {hp : xH} {va : xV} {q : String × String × List Nat}
theorem xg_ald8L (ha : xnm hp.2.1 va = (0, n)) (hq : xget xst k = some q) (hu : xget q.2.2 n = some u) : xLd d M (p0, (pc, ln, 10, x, y, ix) :: tl, lo, va :: (8, k) :: st, hp) [(pc + ln, tl, lo, (0, u) :: st, hp)] := by
  refine xg_op (f := xh_iaload) rfl ?_
  show xald8 xidk d M (pc, ln, 10, x, y, ix) tl lo st hp (8, k) (xnm hp.2.1 va) = _
  rw [ha]
  show xob (xget xst k) (fun q => xob (xget q.2.2 n) (fun u => xidk d M (pc + ln, tl, lo, (0, u) :: st, hp))) = _
  rw [hq]
  show xob (xget q.2.2 n) (fun u => xidk d M (pc + ln, tl, lo, (0, u) :: st, hp)) = _
  rw [hu]
  rfl
end XSL
end
section
/-! longs: Math's, questions, calls -/
theorem xt_as : Cond.static Lib.MathLoose.abs_long.x ∈ lw_gt := xtb 898 (by decide +kernel) rfl
theorem xt_ac : Cond.code Lib.MathLoose.abs_long.x Lib.MathLoose.abs_long.code 2 (some .long) ∈ lw_gt := xtb 899 (by decide +kernel) rfl
theorem xt_ls : Cond.static Lib.MathLoose.max_long.x ∈ lw_gt := xtb 948 (by decide +kernel) rfl
theorem xt_lc : Cond.code Lib.MathLoose.max_long.x Lib.MathLoose.max_long.code 4 (some .long) ∈ lw_gt := xtb 949 (by decide +kernel) rfl
theorem xt_ms : Cond.static Lib.MathLoose.min_long.x ∈ lw_gt := xtb 952 (by decide +kernel) rfl
theorem xt_mc : Cond.code Lib.MathLoose.min_long.x Lib.MathLoose.min_long.code 4 (some .long) ∈ lw_gt := xtb 953 (by decide +kernel) rfl
section XLO
variable {d p0 pc ln x y ix u v : Nat} {M : xM} {tl : List xI} {lo : xLo} {st : List xV} {hp : xH}
theorem xg_labs (hc : hp.2.2.2.1 ≤ M.2.2.2.2.2.2.1) (hs : hp.2.2.2.2.1 ≤ M.2.2.2.2.2.2.2.1) (hst : st.length ≤ 4) : xLd (d + 1) M (p0, (pc, ln, 75, x, y, ix) :: tl, lo, (4, u) :: st, hp) [(pc + ln, tl, lo, (4, xlp (if 0 < lN u then lN u else -(lN u))) :: st, hp)] := by
  intro hM hpos p l e R s m args below meth c D A g cw0 tys0 io0 Q C hQ cw tys io H locs ls lv sv hE hK hP hD hS hlv hlo hsv hh
  obtain ⟨q1, q2, q3, q4⟩ := hpos
  have q1 : pc = p0 := q1
  subst q1
  obtain ⟨t', z3, hdec, c0⟩ := q2
  have z4 : xget xopi 75 = some (fun e => .invokestatic e.2.2.2.2.2, xPmm Lib.MathLoose.abs_long.x) := rfl
  have z3 : xget xopi 75 = some t' := z3
  rw [z4] at z3
  cases z3
  obtain ⟨a1, c1⟩ := c0
  have a1 : ln = 3 := a1
  subst a1
  have hdec : decode M.2.1 pc = .ok (.invokestatic ix, 3) := hdec
  have c1 : Cond.methodLink M.1.cls ix Lib.MathLoose.abs_long.x ∈ lw_gt := c1
  obtain ⟨wa, sv2, rfl, r2, hs2⟩ := xrel_cons hsv
  have e1 : wa = .long (lN u) := r2
  subst e1
  have hlen := xrel_len hs2
  have hcs := xcats sv2
  obtain ⟨hx, hb, hml, hown, hts, hA, hR, -, -⟩ := id C
  refine va_mabs_long hx hb (by rw [hml, hlv.1]) hown (hts _ c1) (hts _ xt_as) (hts _ xt_mi) (hts _ xt_ac) (by omega) (by omega) (Nat.le_trans hc hR.2.2.1) (Nat.le_trans hs hR.2.2.2) hdec ?_
  rw [← xlp_eq (if 0 < lN u then lN u else -(lN u))]
  refine hQ _ List.mem_cons_self ⟨?_, q4⟩ cw tys io H locs ls lv (.long _ :: sv2) hE hK hP hD hS hlv hlo ⟨rfl, hs2⟩ hh
  cases tl with
  | nil => trivial
  | cons a b => exact q3
theorem xg_lmax (hc : hp.2.2.2.1 ≤ M.2.2.2.2.2.2.1) (hs : hp.2.2.2.2.1 ≤ M.2.2.2.2.2.2.2.1) (hst : st.length ≤ 4) : xLd (d + 1) M (p0, (pc, ln, 76, x, y, ix) :: tl, lo, (4, v) :: (4, u) :: st, hp) [(pc + ln, tl, lo, (4, xlp (if lN v < lN u then lN u else lN v)) :: st, hp)] := by
  intro hM hpos p l e R s m args below meth c D A g cw0 tys0 io0 Q C hQ cw tys io H locs ls lv sv hE hK hP hD hS hlv hlo hsv hh
  obtain ⟨q1, q2, q3, q4⟩ := hpos
  have q1 : pc = p0 := q1
  subst q1
  obtain ⟨t', z3, hdec, c0⟩ := q2
  have z4 : xget xopi 76 = some (fun e => .invokestatic e.2.2.2.2.2, xPmm Lib.MathLoose.max_long.x) := rfl
  have z3 : xget xopi 76 = some t' := z3
  rw [z4] at z3
  cases z3
  obtain ⟨a1, c1⟩ := c0
  have a1 : ln = 3 := a1
  subst a1
  have hdec : decode M.2.1 pc = .ok (.invokestatic ix, 3) := hdec
  have c1 : Cond.methodLink M.1.cls ix Lib.MathLoose.max_long.x ∈ lw_gt := c1
  obtain ⟨wb, sv1, rfl, r1, hs1⟩ := xrel_cons hsv
  obtain ⟨wa, sv2, rfl, r2, hs2⟩ := xrel_cons hs1
  have e1 : wa = .long (lN u) := r2
  subst e1
  have e1 : wb = .long (lN v) := r1
  subst e1
  have hlen := xrel_len hs2
  have hcs := xcats sv2
  obtain ⟨hx, hb, hml, hown, hts, hA, hR, -, -⟩ := id C
  refine va_mmax_long hx hb (by rw [hml, hlv.1]) hown (hts _ c1) (hts _ xt_ls) (hts _ xt_mi) (hts _ xt_lc) (by omega) (by omega) (Nat.le_trans hc hR.2.2.1) (Nat.le_trans hs hR.2.2.2) hdec ?_
  rw [← xlp_eq (if lN v < lN u then lN u else lN v)]
  refine hQ _ List.mem_cons_self ⟨?_, q4⟩ cw tys io H locs ls lv (.long _ :: sv2) hE hK hP hD hS hlv hlo ⟨rfl, hs2⟩ hh
  cases tl with
  | nil => trivial
  | cons a b => exact q3
theorem xg_lmin (hc : hp.2.2.2.1 ≤ M.2.2.2.2.2.2.1) (hs : hp.2.2.2.2.1 ≤ M.2.2.2.2.2.2.2.1) (hst : st.length ≤ 4) : xLd (d + 1) M (p0, (pc, ln, 77, x, y, ix) :: tl, lo, (4, v) :: (4, u) :: st, hp) [(pc + ln, tl, lo, (4, xlp (if lN v < lN u then lN v else lN u)) :: st, hp)] := by
  intro hM hpos p l e R s m args below meth c D A g cw0 tys0 io0 Q C hQ cw tys io H locs ls lv sv hE hK hP hD hS hlv hlo hsv hh
  obtain ⟨q1, q2, q3, q4⟩ := hpos
  have q1 : pc = p0 := q1
  subst q1
  obtain ⟨t', z3, hdec, c0⟩ := q2
  have z4 : xget xopi 77 = some (fun e => .invokestatic e.2.2.2.2.2, xPmm Lib.MathLoose.min_long.x) := rfl
  have z3 : xget xopi 77 = some t' := z3
  rw [z4] at z3
  cases z3
  obtain ⟨a1, c1⟩ := c0
  have a1 : ln = 3 := a1
  subst a1
  have hdec : decode M.2.1 pc = .ok (.invokestatic ix, 3) := hdec
  have c1 : Cond.methodLink M.1.cls ix Lib.MathLoose.min_long.x ∈ lw_gt := c1
  obtain ⟨wb, sv1, rfl, r1, hs1⟩ := xrel_cons hsv
  obtain ⟨wa, sv2, rfl, r2, hs2⟩ := xrel_cons hs1
  have e1 : wa = .long (lN u) := r2
  subst e1
  have e1 : wb = .long (lN v) := r1
  subst e1
  have hlen := xrel_len hs2
  have hcs := xcats sv2
  obtain ⟨hx, hb, hml, hown, hts, hA, hR, -, -⟩ := id C
  refine va_mmin_long hx hb (by rw [hml, hlv.1]) hown (hts _ c1) (hts _ xt_ms) (hts _ xt_mi) (hts _ xt_mc) (by omega) (by omega) (Nat.le_trans hc hR.2.2.1) (Nat.le_trans hs hR.2.2.2) hdec ?_
  rw [← xlp_eq (if lN v < lN u then lN v else lN u)]
  refine hQ _ List.mem_cons_self ⟨?_, q4⟩ cw tys io H locs ls lv (.long _ :: sv2) hE hK hP hD hS hlv hlo ⟨rfl, hs2⟩ hh
  cases tl with
  | nil => trivial
  | cons a b => exact q3
end XLO
theorem xpt_zero : xpt 0 = 0 := by
  have h := xpt_eq 0
  have h2 : nI (xpt 0) = nI 0 := h
  exact (xeq_iff (xpt_lt 0) (by decide)).mp h2
theorem xlc_z {u : Nat} (h : lN u = lN 0) : xpt (lg_cmp (lN u) (lN 0)) = 0 := by
  have e : lg_cmp (lN u) (lN 0) = 0 := by
    rw [h]
    decide
  rw [e]
  exact xpt_zero
theorem xlc_nz {u : Nat} (h : ¬ lN u = lN 0) : xpt (lg_cmp (lN u) (lN 0)) ≠ 0 := by
  intro z
  have e := xpt_eq (lg_cmp (lN u) (lN 0))
  rw [z] at e
  unfold lg_cmp at e
  split at e
  · exact absurd e (by decide)
  · exact absurd e (by decide)
section XCJ
variable {d x y ix p0 pc ln j : Nat} {M : xM} {P : xS → Prop} {tl : List xI} {lo : xLo} {st rest vs : List xV} {w : List (List xE)} {bd : List (Nat × Nat)} {fc : List (Nat × Nat × Bool)} {cn sl cn1 sl1 : Nat} {rr : Nat × Nat} {fl : List xV} {Qi : Nat → List (List xE) → Prop}
theorem xg_cVj (M' : xM) (hk : mget x = some M') (hP : xPj d M' ((2, j) :: vs) w bd fc rr Qi) (hy : y % 8 = 0) (ho : wget w j = some (.inl (y / 8, fl))) (hn : Nat.beq (st.take M'.2.2.2.2.1).length M'.2.2.2.2.1 = true) (hv : (st.take M'.2.2.2.2.1).reverse = vs) (hr : st.drop M'.2.2.2.2.1 = (2, j) :: rest) (hb : ((Nat.ble (cn + M'.2.2.2.2.2.2.1) M.2.2.2.2.2.2.1 && Nat.ble (xwds ((2, j) :: vs)) M'.2.2.1) && (Nat.ble (sl + M'.2.2.2.2.2.2.2.1) M.2.2.2.2.2.2.2.1 && Nat.ble (xwds rest) 8)) = true) (h1 : cn + M'.2.2.2.2.2.2.1 = cn1) (h2 : sl + M'.2.2.2.2.2.2.2.1 = sl1) (K : ∀ n w', Qi n w' → xTo (d + 1) M (pc + ln, tl, lo, (4, n) :: rest, (w', bd, fc, cn1, sl1, rr)) P) : xTo (d + 1) M (p0, (pc, ln, 13, x, y, ix) :: tl, lo, st, (w, bd, fc, cn, sl, rr)) P := by
  obtain ⟨n, w', q1, q2⟩ := hP
  exact xg_cV M' hk ⟨w', rfl, q2⟩ hy ho hn hv hr hb rfl h1 h2 (fun w2 e => by subst e; exact K n _ q1)
theorem xg_cSj (M' : xM) (hk : mget x = some M') (hP : xPj d M' vs w bd fc rr Qi) (hy : y % 8 = 2) (hn : Nat.beq (st.take M'.2.2.2.2.1).length M'.2.2.2.2.1 = true) (hv : (st.take M'.2.2.2.2.1).reverse = vs) (hr : st.drop M'.2.2.2.2.1 = rest) (hb : ((Nat.ble (cn + M'.2.2.2.2.2.2.1) M.2.2.2.2.2.2.1 && Nat.ble (xwds vs) M'.2.2.1) && (Nat.ble (sl + M'.2.2.2.2.2.2.2.1) M.2.2.2.2.2.2.2.1 && Nat.ble (xwds rest) 8)) = true) (h1 : cn + M'.2.2.2.2.2.2.1 = cn1) (h2 : sl + M'.2.2.2.2.2.2.2.1 = sl1) (K : ∀ n w', Qi n w' → xTo (d + 1) M (pc + ln, tl, lo, (4, n) :: rest, (w', bd, fc, cn1, sl1, rr)) P) : xTo (d + 1) M (p0, (pc, ln, 13, x, y, ix) :: tl, lo, st, (w, bd, fc, cn, sl, rr)) P := by
  obtain ⟨n, w', q1, q2⟩ := hP
  exact xg_cS M' hk ⟨w', rfl, q2⟩ hy hn hv hr hb rfl h1 h2 (fun w2 e => by subst e; exact K n _ q1)
theorem xg_cNj (M' : xM) (hk : mget x = some M') (hP : xPj d M' vs w bd fc rr Qi) (hy : y % 8 = 3) (hn : Nat.beq (st.take M'.2.2.2.2.1).length M'.2.2.2.2.1 = true) (hv : (st.take M'.2.2.2.2.1).reverse = vs) (hr : st.drop M'.2.2.2.2.1 = rest) (hb : ((Nat.ble (cn + M'.2.2.2.2.2.2.1) M.2.2.2.2.2.2.1 && Nat.ble (xwds vs) M'.2.2.1) && (Nat.ble (sl + M'.2.2.2.2.2.2.2.1) M.2.2.2.2.2.2.2.1 && Nat.ble (xwds rest) 8)) = true) (h1 : cn + M'.2.2.2.2.2.2.1 = cn1) (h2 : sl + M'.2.2.2.2.2.2.2.1 = sl1) (K : ∀ n w', Qi n w' → xTo (d + 1) M (pc + ln, tl, lo, (4, n) :: rest, (w', bd, fc, cn1, sl1, rr)) P) : xTo (d + 1) M (p0, (pc, ln, 13, x, y, ix) :: tl, lo, st, (w, bd, fc, cn, sl, rr)) P := by
  obtain ⟨n, w', q1, q2⟩ := hP
  exact xg_cN M' hk ⟨w', rfl, q2⟩ hy hn hv hr hb rfl h1 h2 (fun w2 e => by subst e; exact K n _ q1)
end XCJ
end
section
/-! bytes by their patterns -/
def xby (n : Nat) : Prop := n ≤ 127 ∨ (4294967168 ≤ n ∧ n ≤ 4294967295)
theorem xby_byt (u : Nat) : xby (xbyt u) := by
  unfold xbyt
  have hm : u % 256 < 256 := Nat.mod_lt _ (by decide)
  cases hc : Nat.blt (u % 256) 128 with
  | true =>
    have := xblt hc
    rw [cond_true]
    exact Or.inl (by omega)
  | false =>
    have := xnblt hc
    rw [cond_false]
    exact Or.inr ⟨by omega, by omega⟩
theorem xrbY {f : Nat → Nat} {n v : Nat} (hv : xby v) (h : ∀ j, xby (f j)) : ∀ j, xby ((fun j => if j = n then v else f j) j) := by
  intro j
  show xby (if j = n then v else f j)
  split
  · exact hv
  · exact h j
section XBY
variable {d p0 pc ln x y ix n k L t : Nat} {M : xM} {tl : List xI} {lo : xLo} {st : List xV} {hr : xHr} {va : xV} {P : xS → Prop} {w : List (List xE)} {f : Nat → Nat}
theorem xg_baldY (h : xRk 1 0 w k L t f) (hB : ∀ j, xby (f j)) (hi : xnm hr.1 va = (0, n)) (hn : n < L) (K : ∀ u, (u ≤ 127 ∨ (4294967168 ≤ u ∧ u ≤ 4294967295)) → f n = u → xTo d M (pc + ln, tl, lo, (0, u) :: st, (w, hr)) P) : xTo d M (p0, (pc, ln, 32, x, y, ix) :: tl, lo, va :: (2, k) :: st, (w, hr)) P := xg_t (xg_bald h rfl hi hn rfl) (K (f n) (hB n) rfl)
end XBY
end
section
/-! texts: the JDK's own String.length and String.charAt over the class's constants -/
theorem xs_c7 : ∀ b, b < 128 → ((nI b &&& 255).toUInt32 % 65536).toInt32 = nI b ∧ narrow .char (.int (nI b)) = .int (nI b) := by decide +kernel
theorem xs_sh (x : Int32) : x >>> ((0 : Int32) &&& 31) = x := by
  have e : ((0 : Int32) &&& 31) = 0 := by decide
  rw [e]
  exact Int32.shiftRight_zero
abbrev xSb (sz : Nat) : Nat → Prop := fun z => sz ≤ z
def xSk (a b sz : Nat) (q : List Nat) (U : State) : Prop := U.heap.size = sz ∧ xSp a b q (xSb sz) U U.heap ∧ xSt (xSb sz) U U.heap
def xSv (b sz : Nat) (q : List Nat) (U : State) : Prop := U.heap.size = sz ∧ va_T .byte b q.length (fun j => .int (nI (q.getD j 0))) (xSb sz) U U.heap ∧ xSt (xSb sz) U U.heap
def xSw (sz : Nat) (U : State) : Prop := U.heap.size = sz ∧ xSt (xSb sz) U U.heap
theorem xSp.moved {a b : Nat} {q : List Nat} {A : Nat → Prop} {u U : State} {H : Heap} (hv : u.vm.Alike U.vm) (h : xSp a b q A u H) : xSp a b q A U H := ⟨va_O.moved hv h.1, va_OF.moved hv h.2.1, va_OF.moved hv h.2.2.1, va_T.moved hv h.2.2.2⟩
theorem xSp.kept {a b : Nat} {q : List Nat} {A : Nat → Prop} {U : State} {H H1 : Heap} (h : xSp a b q A U H) (hq : ∀ a : Nat, a < H.size → ¬ A a → H1[a]? = H[a]?) : xSp a b q A U H1 := ⟨h.1.kept hq, h.2.1.kept hq, h.2.2.1.kept hq, h.2.2.2.kept hq⟩
theorem xSp.narrow {a b : Nat} {q : List Nat} {A B : Nat → Prop} {U : State} {H : Heap} (h : xSp a b q A U H) (hAB : ∀ q, B q → A q) : xSp a b q B U H := ⟨h.1.narrow hAB, h.2.1.narrow hAB, h.2.2.1.narrow hAB, h.2.2.2.narrow hAB⟩
theorem xSt.moved {A : Nat → Prop} {u U : State} {H : Heap} (hv : u.vm.Alike U.vm) (h : xSt A u H) : xSt A U H := ⟨va_Z.moved hv h.1, va_Zq.moved hv h.2⟩
theorem xSt.kept {A : Nat → Prop} {U : State} {H H1 : Heap} (h : xSt A U H) (hq : ∀ a : Nat, a < H.size → ¬ A a → H1[a]? = H[a]?) : xSt A U H1 := ⟨h.1.kept hq, h.2.kept hq⟩
theorem xSt.narrow {A B : Nat → Prop} {U : State} {H : Heap} (h : xSt A U H) (hAB : ∀ q, B q → A q) : xSt B U H := ⟨h.1.narrow hAB, h.2.narrow hAB⟩
abbrev xrz (d : Nat) : Room := { frames := d, cells := 0, slots := 0, locals := 84 * d }
section XST
variable {l : Launch} {a b sz d k n : Nat} {q : List Nat}
theorem xSk_bl {av : List Value} : FrameBlind (va_Pc av (xSk a b sz q)) := by
  intro x U gk mk h
  have hal : U.vm.Alike (U.calling gk mk x).vm := Vm.Alike.refl U.vm
  exact ⟨h.1, h.2.1, xSp.moved hal h.2.2.1, xSt.moved hal h.2.2.2⟩
theorem xSv_bl {av : List Value} : FrameBlind (va_Pc av (xSv b sz q)) := by
  intro x U gk mk h
  have hal : U.vm.Alike (U.calling gk mk x).vm := Vm.Alike.refl U.vm
  exact ⟨h.1, h.2.1, va_T.moved hal h.2.2.1, xSt.moved hal h.2.2.2⟩
theorem xSw_bl {av : List Value} : FrameBlind (va_Pc av (xSw sz)) := by
  intro x U gk mk h
  have hal : U.vm.Alike (U.calling gk mk x).vm := Vm.Alike.refl U.vm
  exact ⟨h.1, h.2.1, xSt.moved hal h.2.2⟩
theorem dsJ0_coder_7d493_0 : decode cJ0_coder_7d493 0 = .ok (.getstatic 38, 3) := by decide +kernel
theorem dsJ0_coder_7d493_3 : decode cJ0_coder_7d493 3 = .ok (.ifCond .eq 10, 3) := by decide +kernel
theorem dsJ0_coder_7d493_6 : decode cJ0_coder_7d493 6 = .ok (.aload_n 0, 1) := by decide +kernel
theorem dsJ0_coder_7d493_7 : decode cJ0_coder_7d493 7 = .ok (.getfield 15, 3) := by decide +kernel
theorem dsJ0_coder_7d493_10 : decode cJ0_coder_7d493 10 = .ok (.goto 4, 3) := by decide +kernel
theorem dsJ0_coder_7d493_14 : decode cJ0_coder_7d493 14 = .ok (.ireturn, 1) := by decide +kernel
theorem mt_coder : Met l yJ0_coder_7d493 (Cond.code yJ0_coder_7d493 cJ0_coder_7d493 1 (some .byte) :: lw_gt) (xrz d) (va_Pc [.ref a] (xSk a b sz q)) (va_Qi (fun r (_ : Unit) => r = 0) (fun _ _ => True) (xSb sz)) 0 0 (xSb sz) := by
  refine Met.ofW (cc := cJ0_coder_7d493) (maxL := 1) (ret := (some .byte)) (by decide +kernel) rfl ?_
  intro p e s m args below meth c s₁ B hml hv
  obtain ⟨rfl, hsz, hp, hz⟩ := hv
  have hts0 := atoms_spec (ws := Cond.code yJ0_coder_7d493 cJ0_coder_7d493 1 (some .byte) :: lw_gt) B.pre
  have hts : ∀ w ∈ lw_gt, w.before ([.ref a] : List Value).toArray s = true := fun w hw => hts0 w (List.mem_cons_of_mem _ hw)
  have hown : s.vm.findClass "java/lang/String" = some m.cls := findClass_of_methodNamed B.named
  have hr := B.returns
  have hx := B.exec
  have hb := B.bytes
  have F : CallFix p m c cJ0_coder_7d493 1 s ([.ref a] : List Value).toArray lw_gt "java/lang/String" := ⟨hx, hb, hml, hown, hts⟩
  have hS : va_S (xSb sz) s.heap s.heap [] := va_S.rf
  have hl := lv_entry [.ref a] (n := 1) (Nat.le_of_ble_eq_true rfl)
  rw [lg_entry_eq]
  generalize (lg_sl [.ref a] ++ List.replicate (1 - (lg_sl [.ref a]).length) Slot.unset).toArray = ls at hl ⊢
  have hl : lv_has ls 1 [(0, .ref a)] := hl
  refine va_gets hx hb hz.1 hS hown (hts _ (xtb 727 (by decide +kernel) rfl)) (fun _ z => z) dsJ0_coder_7d493_0 ?_
  refine lv_if_eq (tgt := 13) hx hb dsJ0_coder_7d493_3 rfl (fun h => absurd h (by decide)) (fun _ => ?_)
  refine lv_aload_n hx hb dsJ0_coder_7d493_6 rfl (lv_at hl 0 rfl) ?_
  refine vk_getf hx hb hp.2.1 hS hown (hts _ (xtb 2214 (by decide +kernel) rfl)) (fun _ h => h) dsJ0_coder_7d493_7 ?_
  refine lv_goto (tgt := 14) hx hb dsJ0_coder_7d493_10 rfl ?_
  exact W.zret hx hb hr (by decide) (fun t ht hW => ⟨⟨0, (), rfl, rfl, trivial⟩, hS.F ht⟩) hS.2.2 dsJ0_coder_7d493_14
theorem dsJ0_isLatin1_aae02_0 : decode cJ0_isLatin1_aae02 0 = .ok (.getstatic 38, 3) := by decide +kernel
theorem dsJ0_isLatin1_aae02_3 : decode cJ0_isLatin1_aae02 3 = .ok (.ifCond .eq 14, 3) := by decide +kernel
theorem dsJ0_isLatin1_aae02_6 : decode cJ0_isLatin1_aae02 6 = .ok (.aload_n 0, 1) := by decide +kernel
theorem dsJ0_isLatin1_aae02_7 : decode cJ0_isLatin1_aae02 7 = .ok (.getfield 15, 3) := by decide +kernel
theorem dsJ0_isLatin1_aae02_10 : decode cJ0_isLatin1_aae02 10 = .ok (.ifCond .ne 7, 3) := by decide +kernel
theorem dsJ0_isLatin1_aae02_13 : decode cJ0_isLatin1_aae02 13 = .ok (.iconst 1, 1) := by decide +kernel
theorem dsJ0_isLatin1_aae02_14 : decode cJ0_isLatin1_aae02 14 = .ok (.goto 4, 3) := by decide +kernel
theorem dsJ0_isLatin1_aae02_18 : decode cJ0_isLatin1_aae02 18 = .ok (.ireturn, 1) := by decide +kernel
theorem mt_latin : Met l yJ0_isLatin1_aae02 (Cond.code yJ0_isLatin1_aae02 cJ0_isLatin1_aae02 1 (some .boolean) :: lw_gt) (xrz d) (va_Pc [.ref a] (xSk a b sz q)) (va_Qi (fun r (_ : Unit) => r = 1) (fun _ _ => True) (xSb sz)) 0 0 (xSb sz) := by
  refine Met.ofW (cc := cJ0_isLatin1_aae02) (maxL := 1) (ret := (some .boolean)) (by decide +kernel) rfl ?_
  intro p e s m args below meth c s₁ B hml hv
  obtain ⟨rfl, hsz, hp, hz⟩ := hv
  have hts0 := atoms_spec (ws := Cond.code yJ0_isLatin1_aae02 cJ0_isLatin1_aae02 1 (some .boolean) :: lw_gt) B.pre
  have hts : ∀ w ∈ lw_gt, w.before ([.ref a] : List Value).toArray s = true := fun w hw => hts0 w (List.mem_cons_of_mem _ hw)
  have hown : s.vm.findClass "java/lang/String" = some m.cls := findClass_of_methodNamed B.named
  have hr := B.returns
  have hx := B.exec
  have hb := B.bytes
  have F : CallFix p m c cJ0_isLatin1_aae02 1 s ([.ref a] : List Value).toArray lw_gt "java/lang/String" := ⟨hx, hb, hml, hown, hts⟩
  have hS : va_S (xSb sz) s.heap s.heap [] := va_S.rf
  have hl := lv_entry [.ref a] (n := 1) (Nat.le_of_ble_eq_true rfl)
  rw [lg_entry_eq]
  generalize (lg_sl [.ref a] ++ List.replicate (1 - (lg_sl [.ref a]).length) Slot.unset).toArray = ls at hl ⊢
  have hl : lv_has ls 1 [(0, .ref a)] := hl
  refine va_gets hx hb hz.1 hS hown (hts _ (xtb 727 (by decide +kernel) rfl)) (fun _ z => z) dsJ0_isLatin1_aae02_0 ?_
  refine lv_if_eq (tgt := 17) hx hb dsJ0_isLatin1_aae02_3 rfl (fun h => absurd h (by decide)) (fun _ => ?_)
  refine lv_aload_n hx hb dsJ0_isLatin1_aae02_6 rfl (lv_at hl 0 rfl) ?_
  refine vk_getf hx hb hp.2.1 hS hown (hts _ (xtb 2214 (by decide +kernel) rfl)) (fun _ h => h) dsJ0_isLatin1_aae02_7 ?_
  refine lv_if_ne (tgt := 17) hx hb dsJ0_isLatin1_aae02_10 rfl (fun h => absurd rfl h) (fun _ => ?_)
  refine lv_iconst (v := 1) hx hb dsJ0_isLatin1_aae02_13 rfl ?_
  refine lv_goto (tgt := 18) hx hb dsJ0_isLatin1_aae02_14 rfl ?_
  exact W.zret hx hb hr (by decide) (fun t ht hW => ⟨⟨1, (), rfl, rfl, trivial⟩, hS.F ht⟩) hS.2.2 dsJ0_isLatin1_aae02_18
theorem dsJ0_length_8abf5_0 : decode cJ0_length_8abf5 0 = .ok (.aload_n 0, 1) := by decide +kernel
theorem dsJ0_length_8abf5_1 : decode cJ0_length_8abf5 1 = .ok (.getfield 9, 3) := by decide +kernel
theorem dsJ0_length_8abf5_4 : decode cJ0_length_8abf5 4 = .ok (.arraylength, 1) := by decide +kernel
theorem dsJ0_length_8abf5_5 : decode cJ0_length_8abf5 5 = .ok (.aload_n 0, 1) := by decide +kernel
theorem dsJ0_length_8abf5_6 : decode cJ0_length_8abf5 6 = .ok (.invokevirtual 335, 3) := by decide +kernel
theorem dsJ0_length_8abf5_9 : decode cJ0_length_8abf5 9 = .ok (.ishr, 1) := by decide +kernel
theorem dsJ0_length_8abf5_10 : decode cJ0_length_8abf5 10 = .ok (.ireturn, 1) := by decide +kernel
theorem mt_len : Met l yJ0_length_8abf5 (Cond.code yJ0_length_8abf5 cJ0_length_8abf5 1 (some .int) :: lw_gt) (xrz (d + 1)) (va_Pc [.ref a] (xSk a b sz q)) (va_Qi (fun r (_ : Unit) => r = nI q.length) (fun _ _ => True) (xSb sz)) 0 0 (xSb sz) := by
  refine Met.ofW (cc := cJ0_length_8abf5) (maxL := 1) (ret := (some .int)) (by decide +kernel) rfl ?_
  intro p e s m args below meth c s₁ B hml hv
  obtain ⟨rfl, hsz, hp, hz⟩ := hv
  have hts0 := atoms_spec (ws := Cond.code yJ0_length_8abf5 cJ0_length_8abf5 1 (some .int) :: lw_gt) B.pre
  have hts : ∀ w ∈ lw_gt, w.before ([.ref a] : List Value).toArray s = true := fun w hw => hts0 w (List.mem_cons_of_mem _ hw)
  have hown : s.vm.findClass "java/lang/String" = some m.cls := findClass_of_methodNamed B.named
  have hr := B.returns
  have hx := B.exec
  have hb := B.bytes
  have F : CallFix p m c cJ0_length_8abf5 1 s ([.ref a] : List Value).toArray lw_gt "java/lang/String" := ⟨hx, hb, hml, hown, hts⟩
  have hS : va_S (xSb sz) s.heap s.heap [] := va_S.rf
  have hl := lv_entry [.ref a] (n := 1) (Nat.le_of_ble_eq_true rfl)
  rw [lg_entry_eq]
  generalize (lg_sl [.ref a] ++ List.replicate (1 - (lg_sl [.ref a]).length) Slot.unset).toArray = ls at hl ⊢
  have hl : lv_has ls 1 [(0, .ref a)] := hl
  refine lv_aload_n hx hb dsJ0_length_8abf5_0 rfl (lv_at hl 0 rfl) ?_
  refine vk_getf hx hb hp.2.2.1 hS hown (hts _ (xtb 2213 (by decide +kernel) rfl)) (fun _ h => h) dsJ0_length_8abf5_1 ?_
  refine va_tlen hx hb hp.2.2.2 hS rfl dsJ0_length_8abf5_4 ?_
  refine lv_aload_n hx hb dsJ0_length_8abf5_5 rfl (lv_at hl 0 rfl) ?_
  refine va_calli (va_runV (C := "java/lang/String") (As := []) F (mt_coder (l := l) (a := a) (b := b) (sz := sz) (q := q) (d := d)) ⟨(callB_of _ hts (lw_goodIn (xtb 726 (by decide +kernel) rfl)) rfl rfl rfl (hts _ (xtb 140 (by decide +kernel) rfl)) (hts _ (xtb 723 (by decide +kernel) rfl)) ⟨by decide +kernel, by decide +kernel, (by show Option.map _ _ = some 0; decide +kernel)⟩ ⟨Nat.le_refl _, (by show 8 + (1 + 11) + 84 * d ≤ 84 * (d + 1); omega)⟩), (hts _ (xtb 724 (by decide +kernel) rfl)), (hts _ (xtb 725 (by decide +kernel) rfl))⟩ ⟨xSk_bl, ?_, fun U hU hW => ⟨rfl, by rw [hU]; exact hsz, (by rw [hU]; exact xSp.moved hW.alike hp), (by rw [hU]; exact xSt.moved hW.alike hz)⟩⟩ rfl rfl hl.1 rfl (lv_room (by simp [Value.category])) dsJ0_length_8abf5_6 ⟨Nat.le_refl _, Nat.le_refl _⟩) hS (fun _ _ z => z) (fun _ z => z) (fun r u t H1 locs1 ht hal hpost _ hz1 hk1 hS1 => ?_)
  · obtain ⟨cell, h1, h2, h3, -⟩ := hp.1
    exact ⟨cell, h1, h2, h3⟩
  subst hpost
  refine lv_ishr hx hb dsJ0_length_8abf5_9 ?_
  rw [xs_sh]
  exact W.iret hx hb hr (fun t ht hW => ⟨⟨_, (), rfl, rfl, trivial⟩, hS1.F ht⟩) hS1.2.2 dsJ0_length_8abf5_10
theorem dsJ3_checkIndex_8e157_0 : decode cJ3_checkIndex_8e157 0 = .ok (.iload_n 0, 1) := by decide +kernel
theorem dsJ3_checkIndex_8e157_1 : decode cJ3_checkIndex_8e157 1 = .ok (.ifCond .lt 8, 3) := by decide +kernel
theorem dsJ3_checkIndex_8e157_4 : decode cJ3_checkIndex_8e157 4 = .ok (.iload_n 0, 1) := by decide +kernel
theorem dsJ3_checkIndex_8e157_5 : decode cJ3_checkIndex_8e157 5 = .ok (.iload_n 1, 1) := by decide +kernel
theorem dsJ3_checkIndex_8e157_6 : decode cJ3_checkIndex_8e157 6 = .ok (.if_icmp .lt 10, 3) := by decide +kernel
theorem dsJ3_checkIndex_8e157_16 : decode cJ3_checkIndex_8e157 16 = .ok (.iload_n 0, 1) := by decide +kernel
theorem dsJ3_checkIndex_8e157_17 : decode cJ3_checkIndex_8e157 17 = .ok (.ireturn, 1) := by decide +kernel
theorem mt_chk3n (hk : k < n) (hn : n < 2147483648) : Met l yJ3_checkIndex_8e157 (Cond.code yJ3_checkIndex_8e157 cJ3_checkIndex_8e157 3 (some .int) :: lw_gt) (xrz d) (va_Pc [.int (nI k), .int (nI n), .null] (fun U => U.heap.size = sz)) (va_Qi (fun r (_ : Unit) => True) (fun _ _ => True) (xSb sz)) 0 0 (xSb sz) := by
  refine Met.ofW (cc := cJ3_checkIndex_8e157) (maxL := 3) (ret := (some .int)) (by decide +kernel) rfl ?_
  intro p e s m args below meth c s₁ B hml hv
  obtain ⟨rfl, hsz⟩ := hv
  have hts0 := atoms_spec (ws := Cond.code yJ3_checkIndex_8e157 cJ3_checkIndex_8e157 3 (some .int) :: lw_gt) B.pre
  have hts : ∀ w ∈ lw_gt, w.before ([.int (nI k), .int (nI n), .null] : List Value).toArray s = true := fun w hw => hts0 w (List.mem_cons_of_mem _ hw)
  have hown : s.vm.findClass "jdk/internal/util/Preconditions" = some m.cls := findClass_of_methodNamed B.named
  have hr := B.returns
  have hx := B.exec
  have hb := B.bytes
  have F : CallFix p m c cJ3_checkIndex_8e157 3 s ([.int (nI k), .int (nI n), .null] : List Value).toArray lw_gt "jdk/internal/util/Preconditions" := ⟨hx, hb, hml, hown, hts⟩
  have hS : va_S (xSb sz) s.heap s.heap [] := va_S.rf
  have hl := lv_entry [.int (nI k), .int (nI n), .null] (n := 3) (Nat.le_of_ble_eq_true rfl)
  rw [lg_entry_eq]
  generalize (lg_sl [.int (nI k), .int (nI n), .null] ++ List.replicate (3 - (lg_sl [.int (nI k), .int (nI n), .null]).length) Slot.unset).toArray = ls at hl ⊢
  have hl : lv_has ls 3 [(0, .int (nI k)), (1, .int (nI n)), (2, .null)] := hl
  subst hsz
  refine lv_iload_n hx hb dsJ3_checkIndex_8e157_0 rfl (lv_at hl 0 rfl) ?_
  refine lv_if_lt (tgt := 9) hx hb dsJ3_checkIndex_8e157_1 rfl (fun h => absurd h (nI_pos (by omega))) (fun _ => ?_)
  refine lv_iload_n hx hb dsJ3_checkIndex_8e157_4 rfl (lv_at hl 0 rfl) ?_
  refine lv_iload_n hx hb dsJ3_checkIndex_8e157_5 rfl (lv_at hl 1 rfl) ?_
  refine lv_icmp_lt (tgt := 16) hx hb dsJ3_checkIndex_8e157_6 rfl (fun _ => ?_) (fun h => absurd (nI_lt hk (by omega)) h)
  refine lv_iload_n hx hb dsJ3_checkIndex_8e157_16 rfl (lv_at hl 0 rfl) ?_
  exact W.iret hx hb hr (fun t ht hW => ⟨⟨_, (), rfl, trivial, trivial⟩, hS.F ht⟩) hS.2.2 dsJ3_checkIndex_8e157_17
theorem mt_chk3r (hk : k < n) (hn : n < 2147483648) : Met l yJ3_checkIndex_8e157 (Cond.code yJ3_checkIndex_8e157 cJ3_checkIndex_8e157 3 (some .int) :: lw_gt) (xrz d) (va_Pc [.int (nI k), .int (nI n), (.ref b)] (fun U => U.heap.size = sz)) (va_Qi (fun r (_ : Unit) => True) (fun _ _ => True) (xSb sz)) 0 0 (xSb sz) := by
  refine Met.ofW (cc := cJ3_checkIndex_8e157) (maxL := 3) (ret := (some .int)) (by decide +kernel) rfl ?_
  intro p e s m args below meth c s₁ B hml hv
  obtain ⟨rfl, hsz⟩ := hv
  have hts0 := atoms_spec (ws := Cond.code yJ3_checkIndex_8e157 cJ3_checkIndex_8e157 3 (some .int) :: lw_gt) B.pre
  have hts : ∀ w ∈ lw_gt, w.before ([.int (nI k), .int (nI n), (.ref b)] : List Value).toArray s = true := fun w hw => hts0 w (List.mem_cons_of_mem _ hw)
  have hown : s.vm.findClass "jdk/internal/util/Preconditions" = some m.cls := findClass_of_methodNamed B.named
  have hr := B.returns
  have hx := B.exec
  have hb := B.bytes
  have F : CallFix p m c cJ3_checkIndex_8e157 3 s ([.int (nI k), .int (nI n), (.ref b)] : List Value).toArray lw_gt "jdk/internal/util/Preconditions" := ⟨hx, hb, hml, hown, hts⟩
  have hS : va_S (xSb sz) s.heap s.heap [] := va_S.rf
  have hl := lv_entry [.int (nI k), .int (nI n), (.ref b)] (n := 3) (Nat.le_of_ble_eq_true rfl)
  rw [lg_entry_eq]
  generalize (lg_sl [.int (nI k), .int (nI n), (.ref b)] ++ List.replicate (3 - (lg_sl [.int (nI k), .int (nI n), (.ref b)]).length) Slot.unset).toArray = ls at hl ⊢
  have hl : lv_has ls 3 [(0, .int (nI k)), (1, .int (nI n)), (2, (.ref b))] := hl
  subst hsz
  refine lv_iload_n hx hb dsJ3_checkIndex_8e157_0 rfl (lv_at hl 0 rfl) ?_
  refine lv_if_lt (tgt := 9) hx hb dsJ3_checkIndex_8e157_1 rfl (fun h => absurd h (nI_pos (by omega))) (fun _ => ?_)
  refine lv_iload_n hx hb dsJ3_checkIndex_8e157_4 rfl (lv_at hl 0 rfl) ?_
  refine lv_iload_n hx hb dsJ3_checkIndex_8e157_5 rfl (lv_at hl 1 rfl) ?_
  refine lv_icmp_lt (tgt := 16) hx hb dsJ3_checkIndex_8e157_6 rfl (fun _ => ?_) (fun h => absurd (nI_lt hk (by omega)) h)
  refine lv_iload_n hx hb dsJ3_checkIndex_8e157_16 rfl (lv_at hl 0 rfl) ?_
  exact W.iret hx hb hr (fun t ht hW => ⟨⟨_, (), rfl, trivial, trivial⟩, hS.F ht⟩) hS.2.2 dsJ3_checkIndex_8e157_17
theorem dsJ0_checkIndex_df160_0 : decode cJ0_checkIndex_df160 0 = .ok (.iload_n 0, 1) := by decide +kernel
theorem dsJ0_checkIndex_df160_1 : decode cJ0_checkIndex_df160 1 = .ok (.iload_n 1, 1) := by decide +kernel
theorem dsJ0_checkIndex_df160_2 : decode cJ0_checkIndex_df160 2 = .ok (.getstatic 1053, 3) := by decide +kernel
theorem dsJ0_checkIndex_df160_5 : decode cJ0_checkIndex_df160 5 = .ok (.invokestatic 1059, 3) := by decide +kernel
theorem dsJ0_checkIndex_df160_8 : decode cJ0_checkIndex_df160 8 = .ok (.pop, 1) := by decide +kernel
theorem dsJ0_checkIndex_df160_9 : decode cJ0_checkIndex_df160 9 = .ok (.return_, 1) := by decide +kernel
theorem mt_chk (hk : k < n) (hn : n < 2147483648) : Met l yJ0_checkIndex_df160 (Cond.code yJ0_checkIndex_df160 cJ0_checkIndex_df160 2 none :: lw_gt) (xrz (d + 1)) (va_Pc [.int (nI k), .int (nI n)] (xSw sz)) (va_Qv (fun (_ : Unit) => True) (fun _ _ => True) (xSb sz)) 0 0 (xSb sz) := by
  refine Met.ofW (cc := cJ0_checkIndex_df160) (maxL := 2) (ret := none) (by decide +kernel) rfl ?_
  intro p e s m args below meth c s₁ B hml hv
  obtain ⟨rfl, hsz, hz⟩ := hv
  have hts0 := atoms_spec (ws := Cond.code yJ0_checkIndex_df160 cJ0_checkIndex_df160 2 none :: lw_gt) B.pre
  have hts : ∀ w ∈ lw_gt, w.before ([.int (nI k), .int (nI n)] : List Value).toArray s = true := fun w hw => hts0 w (List.mem_cons_of_mem _ hw)
  have hown : s.vm.findClass "java/lang/String" = some m.cls := findClass_of_methodNamed B.named
  have hr := B.returns
  have hx := B.exec
  have hb := B.bytes
  have F : CallFix p m c cJ0_checkIndex_df160 2 s ([.int (nI k), .int (nI n)] : List Value).toArray lw_gt "java/lang/String" := ⟨hx, hb, hml, hown, hts⟩
  have hS : va_S (xSb sz) s.heap s.heap [] := va_S.rf
  have hl := lv_entry [.int (nI k), .int (nI n)] (n := 2) (Nat.le_of_ble_eq_true rfl)
  rw [lg_entry_eq]
  generalize (lg_sl [.int (nI k), .int (nI n)] ++ List.replicate (2 - (lg_sl [.int (nI k), .int (nI n)]).length) Slot.unset).toArray = ls at hl ⊢
  have hl : lv_has ls 2 [(0, .int (nI k)), (1, .int (nI n))] := hl
  refine lv_iload_n hx hb dsJ0_checkIndex_df160_0 rfl (lv_at hl 0 rfl) ?_
  refine lv_iload_n hx hb dsJ0_checkIndex_df160_1 rfl (lv_at hl 1 rfl) ?_
  rcases hz.2 with hz2 | ⟨t0, hz2⟩
  · refine va_gets hx hb hz2 hS hown (hts _ (xtb 743 (by decide +kernel) rfl)) (fun _ z => z) dsJ0_checkIndex_df160_2 ?_
    refine va_calli (va_runS (As := [.int (nI k), .int (nI n), .null]) F (mt_chk3n (l := l) (sz := sz) (d := d) hk hn) ⟨(callB_of _ hts (lw_goodIn (xtb 747 (by decide +kernel) rfl)) rfl rfl rfl (hts _ (xtb 142 (by decide +kernel) rfl)) (hts _ (xtb 745 (by decide +kernel) rfl)) ⟨by decide +kernel, by decide +kernel, (by show Option.map _ _ = some 3; decide +kernel)⟩ ⟨Nat.le_refl _, (by show 8 + (3 + 11) + 84 * d ≤ 84 * (d + 1); omega)⟩), (hts _ (xtb 746 (by decide +kernel) rfl))⟩ ⟨fun x U gk mk h => h, fun U hU hW => ⟨rfl, by show U.heap.size = sz; rw [hU]; exact hsz⟩⟩ rfl rfl hl.1 rfl (lv_room (Nat.zero_le _)) dsJ0_checkIndex_df160_5 ⟨Nat.le_refl _, Nat.le_refl _⟩) hS (fun _ _ z => z) (fun _ z => z) (fun r u t H1 locs1 ht hal hpost _ hz1 hk1 hS1 => ?_)
    refine lv_pop hx hb dsJ0_checkIndex_df160_8 rfl ?_
    exact W.vret hx hb hr (fun t ht hW => ⟨⟨(), rfl, trivial, trivial⟩, hS1.F ht⟩) hS1.2.2 dsJ0_checkIndex_df160_9
  · refine va_gets hx hb hz2 hS hown (hts _ (xtb 743 (by decide +kernel) rfl)) (fun _ z => z) dsJ0_checkIndex_df160_2 ?_
    refine va_calli (va_runS (As := [.int (nI k), .int (nI n), .ref t0]) F (mt_chk3r (l := l) (sz := sz) (d := d) hk hn) ⟨(callB_of _ hts (lw_goodIn (xtb 747 (by decide +kernel) rfl)) rfl rfl rfl (hts _ (xtb 142 (by decide +kernel) rfl)) (hts _ (xtb 745 (by decide +kernel) rfl)) ⟨by decide +kernel, by decide +kernel, (by show Option.map _ _ = some 3; decide +kernel)⟩ ⟨Nat.le_refl _, (by show 8 + (3 + 11) + 84 * d ≤ 84 * (d + 1); omega)⟩), (hts _ (xtb 746 (by decide +kernel) rfl))⟩ ⟨fun x U gk mk h => h, fun U hU hW => ⟨rfl, by show U.heap.size = sz; rw [hU]; exact hsz⟩⟩ rfl rfl hl.1 rfl (lv_room (Nat.zero_le _)) dsJ0_checkIndex_df160_5 ⟨Nat.le_refl _, Nat.le_refl _⟩) hS (fun _ _ z => z) (fun _ z => z) (fun r u t H1 locs1 ht hal hpost _ hz1 hk1 hS1 => ?_)
    refine lv_pop hx hb dsJ0_checkIndex_df160_8 rfl ?_
    exact W.vret hx hb hr (fun t ht hW => ⟨⟨(), rfl, trivial, trivial⟩, hS1.F ht⟩) hS1.2.2 dsJ0_checkIndex_df160_9
theorem dsJ1_charAt_3b067_0 : decode cJ1_charAt_3b067 0 = .ok (.iload_n 1, 1) := by decide +kernel
theorem dsJ1_charAt_3b067_1 : decode cJ1_charAt_3b067 1 = .ok (.aload_n 0, 1) := by decide +kernel
theorem dsJ1_charAt_3b067_2 : decode cJ1_charAt_3b067 2 = .ok (.arraylength, 1) := by decide +kernel
theorem dsJ1_charAt_3b067_3 : decode cJ1_charAt_3b067 3 = .ok (.invokestatic 9, 3) := by decide +kernel
theorem dsJ1_charAt_3b067_6 : decode cJ1_charAt_3b067 6 = .ok (.aload_n 0, 1) := by decide +kernel
theorem dsJ1_charAt_3b067_7 : decode cJ1_charAt_3b067 7 = .ok (.iload_n 1, 1) := by decide +kernel
theorem dsJ1_charAt_3b067_8 : decode cJ1_charAt_3b067 8 = .ok (.baload, 1) := by decide +kernel
theorem dsJ1_charAt_3b067_9 : decode cJ1_charAt_3b067 9 = .ok (.sipush 255, 3) := by decide +kernel
theorem dsJ1_charAt_3b067_12 : decode cJ1_charAt_3b067 12 = .ok (.iand, 1) := by decide +kernel
theorem dsJ1_charAt_3b067_13 : decode cJ1_charAt_3b067 13 = .ok (.i2c, 1) := by decide +kernel
theorem dsJ1_charAt_3b067_14 : decode cJ1_charAt_3b067 14 = .ok (.ireturn, 1) := by decide +kernel
theorem mt_chL (hk : k < q.length) (hn : q.length < 2147483648) (hq : q.getD k 0 < 128) : Met l yJ1_charAt_3b067 (Cond.code yJ1_charAt_3b067 cJ1_charAt_3b067 2 (some .char) :: lw_gt) (xrz (d + 2)) (va_Pc [.ref b, .int (nI k)] (xSv b sz q)) (va_Qi (fun r (_ : Unit) => r = nI (q.getD k 0)) (fun _ _ => True) (xSb sz)) 0 0 (xSb sz) := by
  refine Met.ofW (cc := cJ1_charAt_3b067) (maxL := 2) (ret := (some .char)) (by decide +kernel) rfl ?_
  intro p e s m args below meth c s₁ B hml hv
  obtain ⟨rfl, hsz, hT, hz⟩ := hv
  have hts0 := atoms_spec (ws := Cond.code yJ1_charAt_3b067 cJ1_charAt_3b067 2 (some .char) :: lw_gt) B.pre
  have hts : ∀ w ∈ lw_gt, w.before ([.ref b, .int (nI k)] : List Value).toArray s = true := fun w hw => hts0 w (List.mem_cons_of_mem _ hw)
  have hown : s.vm.findClass "java/lang/StringLatin1" = some m.cls := findClass_of_methodNamed B.named
  have hr := B.returns
  have hx := B.exec
  have hb := B.bytes
  have F : CallFix p m c cJ1_charAt_3b067 2 s ([.ref b, .int (nI k)] : List Value).toArray lw_gt "java/lang/StringLatin1" := ⟨hx, hb, hml, hown, hts⟩
  have hS : va_S (xSb sz) s.heap s.heap [] := va_S.rf
  have hl := lv_entry [.ref b, .int (nI k)] (n := 2) (Nat.le_of_ble_eq_true rfl)
  rw [lg_entry_eq]
  generalize (lg_sl [.ref b, .int (nI k)] ++ List.replicate (2 - (lg_sl [.ref b, .int (nI k)]).length) Slot.unset).toArray = ls at hl ⊢
  have hl : lv_has ls 2 [(0, .ref b), (1, .int (nI k))] := hl
  refine lv_iload_n hx hb dsJ1_charAt_3b067_0 rfl (lv_at hl 1 rfl) ?_
  refine lv_aload_n hx hb dsJ1_charAt_3b067_1 rfl (lv_at hl 0 rfl) ?_
  refine va_tlen hx hb hT hS rfl dsJ1_charAt_3b067_2 ?_
  refine va_callv (va_runS (As := [.int (nI k), .int (nI q.length)]) F (mt_chk (l := l) (sz := sz) (d := d) hk hn) ⟨(callB_of _ hts (lw_goodIn (xtb 742 (by decide +kernel) rfl)) rfl rfl rfl (hts _ (xtb 140 (by decide +kernel) rfl)) (hts _ (xtb 740 (by decide +kernel) rfl)) ⟨by decide +kernel, by decide +kernel, (by show Option.map _ _ = some 2; decide +kernel)⟩ ⟨Nat.le_refl _, (by show 8 + (2 + 11) + 84 * (d + 1) ≤ 84 * ((d + 1) + 1); omega)⟩), (hts _ (xtb 741 (by decide +kernel) rfl))⟩ ⟨xSw_bl, fun U hU hW => ⟨rfl, by rw [hU]; exact hsz, (by rw [hU]; exact xSt.moved hW.alike hz)⟩⟩ rfl rfl hl.1 rfl (lv_room (Nat.zero_le _)) dsJ1_charAt_3b067_3 ⟨Nat.le_refl _, Nat.le_refl _⟩) hS (fun _ _ z => z) (fun _ z => z) (fun u t H1 locs1 ht hal hpost _ hz1 hk1 hS1 => ?_)
  refine lv_aload_n hx hb dsJ1_charAt_3b067_6 rfl (lv_at hl 0 rfl) ?_
  refine lv_iload_n hx hb dsJ1_charAt_3b067_7 rfl (lv_at hl 1 rfl) ?_
  refine va_tb (v := .int (nI (q.getD k 0))) hx hb hT hS1 (vp_in_nI hk (by omega)) (by rw [nI_clamp (by omega)]) dsJ1_charAt_3b067_8 ?_
  refine lv_sipush (v := 255) hx hb dsJ1_charAt_3b067_9 rfl ?_
  refine lv_iand hx hb dsJ1_charAt_3b067_12 ?_
  refine lv_i2c (v := nI (q.getD k 0)) hx hb dsJ1_charAt_3b067_13 (xs_c7 _ hq).1 ?_
  exact W.zret hx hb hr (xs_c7 _ hq).2 (fun t ht hW => ⟨⟨_, (), rfl, rfl, trivial⟩, hS1.F ht⟩) hS1.2.2 dsJ1_charAt_3b067_14
theorem dsJ0_charAt_5068e_0 : decode cJ0_charAt_5068e 0 = .ok (.aload_n 0, 1) := by decide +kernel
theorem dsJ0_charAt_5068e_1 : decode cJ0_charAt_5068e 1 = .ok (.invokevirtual 492, 3) := by decide +kernel
theorem dsJ0_charAt_5068e_4 : decode cJ0_charAt_5068e 4 = .ok (.ifCond .eq 12, 3) := by decide +kernel
theorem dsJ0_charAt_5068e_7 : decode cJ0_charAt_5068e 7 = .ok (.aload_n 0, 1) := by decide +kernel
theorem dsJ0_charAt_5068e_8 : decode cJ0_charAt_5068e 8 = .ok (.getfield 9, 3) := by decide +kernel
theorem dsJ0_charAt_5068e_11 : decode cJ0_charAt_5068e 11 = .ok (.iload_n 1, 1) := by decide +kernel
theorem dsJ0_charAt_5068e_12 : decode cJ0_charAt_5068e 12 = .ok (.invokestatic 495, 3) := by decide +kernel
theorem dsJ0_charAt_5068e_15 : decode cJ0_charAt_5068e 15 = .ok (.ireturn, 1) := by decide +kernel
theorem mt_chr (hk : k < q.length) (hn : q.length < 2147483648) (hq : q.getD k 0 < 128) : Met l yJ0_charAt_5068e (Cond.code yJ0_charAt_5068e cJ0_charAt_5068e 2 (some .char) :: lw_gt) (xrz (d + 3)) (va_Pc [.ref a, .int (nI k)] (xSk a b sz q)) (va_Qi (fun r (_ : Unit) => r = nI (q.getD k 0)) (fun _ _ => True) (xSb sz)) 0 0 (xSb sz) := by
  refine Met.ofW (cc := cJ0_charAt_5068e) (maxL := 2) (ret := (some .char)) (by decide +kernel) rfl ?_
  intro p e s m args below meth c s₁ B hml hv
  obtain ⟨rfl, hsz, hp, hz⟩ := hv
  have hts0 := atoms_spec (ws := Cond.code yJ0_charAt_5068e cJ0_charAt_5068e 2 (some .char) :: lw_gt) B.pre
  have hts : ∀ w ∈ lw_gt, w.before ([.ref a, .int (nI k)] : List Value).toArray s = true := fun w hw => hts0 w (List.mem_cons_of_mem _ hw)
  have hown : s.vm.findClass "java/lang/String" = some m.cls := findClass_of_methodNamed B.named
  have hr := B.returns
  have hx := B.exec
  have hb := B.bytes
  have F : CallFix p m c cJ0_charAt_5068e 2 s ([.ref a, .int (nI k)] : List Value).toArray lw_gt "java/lang/String" := ⟨hx, hb, hml, hown, hts⟩
  have hS : va_S (xSb sz) s.heap s.heap [] := va_S.rf
  have hl := lv_entry [.ref a, .int (nI k)] (n := 2) (Nat.le_of_ble_eq_true rfl)
  rw [lg_entry_eq]
  generalize (lg_sl [.ref a, .int (nI k)] ++ List.replicate (2 - (lg_sl [.ref a, .int (nI k)]).length) Slot.unset).toArray = ls at hl ⊢
  have hl : lv_has ls 2 [(0, .ref a), (1, .int (nI k))] := hl
  refine lv_aload_n hx hb dsJ0_charAt_5068e_0 rfl (lv_at hl 0 rfl) ?_
  refine va_calli (va_runV (C := "java/lang/String") (As := []) F (mt_latin (l := l) (a := a) (b := b) (sz := sz) (q := q) (d := d + 2)) ⟨(callB_of _ hts (lw_goodIn (xtb 736 (by decide +kernel) rfl)) rfl rfl rfl (hts _ (xtb 140 (by decide +kernel) rfl)) (hts _ (xtb 733 (by decide +kernel) rfl)) ⟨by decide +kernel, by decide +kernel, (by show Option.map _ _ = some 0; decide +kernel)⟩ ⟨Nat.le_refl _, (by show 8 + (1 + 11) + 84 * (d + 2) ≤ 84 * ((d + 2) + 1); omega)⟩), (hts _ (xtb 734 (by decide +kernel) rfl)), (hts _ (xtb 735 (by decide +kernel) rfl))⟩ ⟨xSk_bl, ?_, fun U hU hW => ⟨rfl, by rw [hU]; exact hsz, (by rw [hU]; exact xSp.moved hW.alike hp), (by rw [hU]; exact xSt.moved hW.alike hz)⟩⟩ rfl rfl hl.1 rfl (lv_room (Nat.zero_le _)) dsJ0_charAt_5068e_1 ⟨Nat.le_refl _, Nat.le_refl _⟩) hS (fun _ _ z => z) (fun _ z => z) (fun r u t H1 locs1 ht hal hpost _ hz1 hk1 hS1 => ?_)
  · obtain ⟨cell, h1, h2, h3, -⟩ := hp.1
    exact ⟨cell, h1, h2, h3⟩
  subst hpost
  refine lv_if_eq (tgt := 16) hx hb dsJ0_charAt_5068e_4 rfl (fun h => absurd h (by decide)) (fun _ => ?_)
  refine lv_aload_n hx hb dsJ0_charAt_5068e_7 rfl (lv_at hl 0 rfl) ?_
  refine vk_getf hx hb hp.2.2.1 hS1 hown (hts _ (xtb 2213 (by decide +kernel) rfl)) (fun _ h => h) dsJ0_charAt_5068e_8 ?_
  refine lv_iload_n hx hb dsJ0_charAt_5068e_11 rfl (lv_at hl 1 rfl) ?_
  refine va_calli (va_runS (As := [.ref b, .int (nI k)]) F (mt_chL (l := l) (b := b) (sz := H1.size) (q := q) (d := d) hk hn hq) ⟨(callB_of _ hts (lw_goodIn (xtb 739 (by decide +kernel) rfl)) rfl rfl rfl (hts _ (xtb 141 (by decide +kernel) rfl)) (hts _ (xtb 737 (by decide +kernel) rfl)) ⟨by decide +kernel, by decide +kernel, (by show Option.map _ _ = some 2; decide +kernel)⟩ ⟨Nat.le_refl _, (by show 8 + (2 + 11) + 84 * (d + 2) ≤ 84 * ((d + 2) + 1); omega)⟩), (hts _ (xtb 738 (by decide +kernel) rfl))⟩ ⟨xSv_bl, fun U hU hW => ⟨rfl, by rw [hU], (by rw [hU]; exact va_T.moved hW.alike ((hp.2.2.2.kept hS1.2.1).narrow (fun _ z => Nat.le_trans (by rw [← hsz]; exact hS1.1) z))), (by rw [hU]; exact xSt.moved hW.alike ((hz.kept hS1.2.1).narrow (fun _ z => Nat.le_trans (by rw [← hsz]; exact hS1.1) z)))⟩⟩ rfl rfl hl.1 rfl (lv_room (Nat.zero_le _)) dsJ0_charAt_5068e_12 ⟨Nat.le_refl _, Nat.le_refl _⟩) hS1 (fun _ _ z => Nat.le_trans (by rw [← hsz]; exact hS1.1) z) (fun _ z => Nat.le_trans (by rw [← hsz]; exact hS1.1) z) (fun r u t H2 locs2 ht hal hpost _ hz1 hk1 hS2 => ?_)
  subst hpost
  exact W.zret hx hb hr (xs_c7 _ hq).2 (fun t ht hW => ⟨⟨_, (), rfl, rfl, trivial⟩, hS2.F ht⟩) hS2.2.2 dsJ0_charAt_5068e_15
end XST
section XSU
variable {d p0 pc ln x y ix n i : Nat} {M : xM} {tl : List xI} {lo : xLo} {st : List xV} {hp : xH} {va : xV} {qb : List Nat}
theorem xg_ldcS : xLd d M (p0, (pc, ln, 72, x, y, ix) :: tl, lo, st, hp) [(pc + ln, tl, lo, (8, 100 + x) :: st, hp)] := by
  intro hM hpos p l e R s m args below meth c D A g cw0 tys0 io0 Q C hQ cw tys io H locs ls lv sv hE hK hP hD hS hlv hlo hsv hh
  obtain ⟨q1, q2, q3, q4⟩ := hpos
  have q1 : pc = p0 := q1
  subst q1
  obtain ⟨t', z3, hdec, c0⟩ := q2
  have z4 : xget xopi 72 = some (fun e => .ldc e.2.2.2.2.2, xPst) := rfl
  have z3 : xget xopi 72 = some t' := z3
  rw [z4] at z3
  cases z3
  obtain ⟨a1, tx, c1, c2⟩ := c0
  have a1 : ln = 2 := a1
  subst a1
  have hdec : decode M.2.1 pc = .ok (.ldc ix, 2) := hdec
  obtain ⟨hx, hb, hml, hown, hts, hA, hR, -, hst, -⟩ := id C
  refine va_ldcS hx hb hown (hst.2.2.1 _ _ _ _ c2 c1) hdec ?_
  refine hQ _ List.mem_cons_self ⟨?_, q4⟩ cw tys io H locs ls lv (.ref _ :: sv) hE hK hP hD hS hlv hlo ⟨rfl, hsv⟩ hh
  cases tl with
  | nil => trivial
  | cons a b => exact q3
theorem xg_slen (hcn : hp.2.2.2.1 ≤ M.2.2.2.2.2.2.1) (hsl : hp.2.2.2.2.1 ≤ M.2.2.2.2.2.2.2.1) (hst0 : st.length ≤ 4) (hi : xget xsbt i = some qb) (hl : qb.length < 2147483648) : xLd (d + 2) M (p0, (pc, ln, 73, x, y, ix) :: tl, lo, (8, 100 + i) :: st, hp) [(pc + ln, tl, lo, (0, qb.length) :: st, hp)] := by
  intro hM hpos p l e R s m args below meth c D A g cw0 tys0 io0 Q C hQ cw tys io H locs ls lv sv hE hK hP hD hS hlv hlo hsv hh
  obtain ⟨q1, q2, q3, q4⟩ := hpos
  have q1 : pc = p0 := q1
  subst q1
  obtain ⟨t', z3, hdec, c0⟩ := q2
  have z4 : xget xopi 73 = some (fun e => .invokevirtual e.2.2.2.2.2, xPmm ⟨"java/lang/String", "length", "()I"⟩) := rfl
  have z3 : xget xopi 73 = some t' := z3
  rw [z4] at z3
  cases z3
  obtain ⟨a1, c1⟩ := c0
  have a1 : ln = 3 := a1
  subst a1
  have hdec : decode M.2.1 pc = .ok (.invokevirtual ix, 3) := hdec
  have c1 : Cond.methodLink M.1.cls ix yJ0_length_8abf5 ∈ lw_gt := c1
  obtain ⟨wb, sv2, rfl, r2, hs2⟩ := xrel_cons hsv
  have e2 : wb = .ref (g.2.2 (100 + i)) := r2
  subst e2
  have hlen := xrel_len hs2
  have hcs := xcats sv2
  obtain ⟨hx, hb, hml, hown, hts, hA, hR, -, hst, -⟩ := id C
  have F : CallFix p m c M.2.1 M.2.2.1 s args lw_gt M.1.cls := ⟨hx, hb, hml, hown, hts⟩
  have hp0 := hst.2.1 i qb hi
  have hz0 := hst.2.2.2
  have hF : ∀ z, xSb H.size z → A z := fun z h => hA z (Nat.le_trans hS.1 h)
  refine va_calli (va_runV (C := "java/lang/String") (As := []) F (mt_len (l := l) (a := g.2.2 (100 + i)) (b := g.2.2 (200 + i)) (sz := H.size) (q := qb) (d := d)) ⟨callB_of _ hts (lw_goodIn (xtb 722 (by decide +kernel) rfl)) rfl rfl rfl (hts _ (xtb 140 (by decide +kernel) rfl)) (hts _ c1) ⟨by decide +kernel, by decide +kernel, (by show Option.map _ _ = some 0; decide +kernel)⟩ ⟨hR.1, (by show 8 + (1 + 11) + 84 * (d + 1) ≤ _; omega)⟩, (hts _ (xtb 720 (by decide +kernel) rfl)), (hts _ (xtb 721 (by decide +kernel) rfl))⟩ ⟨xSk_bl, ?_, fun U hU hW => ⟨rfl, by rw [hU], (by rw [hU]; exact xSp.moved hW.alike ((hp0.kept hS.2.1).narrow hF)), (by rw [hU]; exact xSt.moved hW.alike ((hz0.kept hS.2.1).narrow hF))⟩⟩ rfl rfl hlv.1 rfl (lv_room (by omega)) hdec ⟨Nat.le_trans hcn hR.2.2.1, Nat.le_trans hsl hR.2.2.2⟩) hS (fun _ _ z => hF _ z) (fun _ z => hF _ z) (fun r u t H1 locs1 ht hal hpost _ hz1 hk1 hS1 => ?_)
  · obtain ⟨cell, h1, h2, h3, -⟩ := hp0.1.kept hS.2.1
    exact ⟨cell, h1, h2, h3⟩
  subst hpost
  have hP1 : va_P D vwCl cw.flatten H1 := fun j z hj => (hP j z hj).kept (hk1 _ (hP j z hj).lt (fun h => absurd (hP j z hj).lt (by have : H.size ≤ z.1 := h; omega)))
  refine hQ _ List.mem_cons_self ⟨?_, q4⟩ cw tys io H1 locs1 ls lv (.int _ :: sv2) hE hK hP1 hD hS1 hlv hlo ⟨⟨by omega, rfl⟩, hs2⟩ hh
  cases tl with
  | nil => trivial
  | cons a b => exact q3
theorem xg_char (hcn : hp.2.2.2.1 ≤ M.2.2.2.2.2.2.1) (hsl : hp.2.2.2.2.1 ≤ M.2.2.2.2.2.2.2.1) (hst0 : st.length ≤ 4) (hi : xget xsbt i = some qb) (hl : qb.length < 2147483648) (hn : xnm hp.2.1 va = (0, n)) (hk : n < qb.length) (hq : qb.getD n 0 < 128) : xLd (d + 4) M (p0, (pc, ln, 74, x, y, ix) :: tl, lo, va :: (8, 100 + i) :: st, hp) [(pc + ln, tl, lo, (0, qb.getD n 0) :: st, hp)] := by
  intro hM hpos p l e R s m args below meth c D A g cw0 tys0 io0 Q C hQ cw tys io H locs ls lv sv hE hK hP hD hS hlv hlo hsv hh
  obtain ⟨q1, q2, q3, q4⟩ := hpos
  have q1 : pc = p0 := q1
  subst q1
  obtain ⟨t', z3, hdec, c0⟩ := q2
  have z4 : xget xopi 74 = some (fun e => .invokevirtual e.2.2.2.2.2, xPmm ⟨"java/lang/String", "charAt", "(I)C"⟩) := rfl
  have z3 : xget xopi 74 = some t' := z3
  rw [z4] at z3
  cases z3
  obtain ⟨a1, c1⟩ := c0
  have a1 : ln = 3 := a1
  subst a1
  have hdec : decode M.2.1 pc = .ok (.invokevirtual ix, 3) := hdec
  have c1 : Cond.methodLink M.1.cls ix yJ0_charAt_5068e ∈ lw_gt := c1
  obtain ⟨wa, sv1, rfl, r1, hs1⟩ := xrel_cons hsv
  have e1 := xnm_ok hh.2.1 r1
  rw [hn] at e1
  obtain ⟨-, e1⟩ := e1
  subst e1
  obtain ⟨wb, sv2, rfl, r2, hs2⟩ := xrel_cons hs1
  have e2 : wb = .ref (g.2.2 (100 + i)) := r2
  subst e2
  have hlen := xrel_len hs2
  have hcs := xcats sv2
  obtain ⟨hx, hb, hml, hown, hts, hA, hR, -, hst, -⟩ := id C
  have F : CallFix p m c M.2.1 M.2.2.1 s args lw_gt M.1.cls := ⟨hx, hb, hml, hown, hts⟩
  have hp0 := hst.2.1 i qb hi
  have hz0 := hst.2.2.2
  have hF : ∀ z, xSb H.size z → A z := fun z h => hA z (Nat.le_trans hS.1 h)
  refine va_calli (va_runV (C := "java/lang/String") (As := [.int (nI n)]) F (mt_chr (l := l) (a := g.2.2 (100 + i)) (b := g.2.2 (200 + i)) (sz := H.size) (q := qb) (d := d) hk hl hq) ⟨callB_of _ hts (lw_goodIn (xtb 732 (by decide +kernel) rfl)) rfl rfl rfl (hts _ (xtb 140 (by decide +kernel) rfl)) (hts _ c1) ⟨by decide +kernel, by decide +kernel, (by show Option.map _ _ = some 1; decide +kernel)⟩ ⟨hR.1, (by show 8 + (2 + 11) + 84 * (d + 3) ≤ _; omega)⟩, (hts _ (xtb 730 (by decide +kernel) rfl)), (hts _ (xtb 731 (by decide +kernel) rfl))⟩ ⟨xSk_bl, ?_, fun U hU hW => ⟨rfl, by rw [hU], (by rw [hU]; exact xSp.moved hW.alike ((hp0.kept hS.2.1).narrow hF)), (by rw [hU]; exact xSt.moved hW.alike ((hz0.kept hS.2.1).narrow hF))⟩⟩ rfl rfl hlv.1 rfl (lv_room (by omega)) hdec ⟨Nat.le_trans hcn hR.2.2.1, Nat.le_trans hsl hR.2.2.2⟩) hS (fun _ _ z => hF _ z) (fun _ z => hF _ z) (fun r u t H1 locs1 ht hal hpost _ hz1 hk1 hS1 => ?_)
  · obtain ⟨cell, h1, h2, h3, -⟩ := hp0.1.kept hS.2.1
    exact ⟨cell, h1, h2, h3⟩
  subst hpost
  have hP1 : va_P D vwCl cw.flatten H1 := fun j z hj => (hP j z hj).kept (hk1 _ (hP j z hj).lt (fun h => absurd (hP j z hj).lt (by have : H.size ≤ z.1 := h; omega)))
  refine hQ _ List.mem_cons_self ⟨?_, q4⟩ cw tys io H1 locs1 ls lv (.int _ :: sv2) hE hK hP1 hD hS1 hlv hlo ⟨⟨by omega, rfl⟩, hs2⟩ hh
  cases tl with
  | nil => trivial
  | cons a b => exact q3
end XSU
theorem xsbt_ok {i : Nat} {q : List Nat} (h : xget xsbt i = some q) : q.length ≤ 6 ∧ ∀ j, q.getD j 0 < 128 := by
  have key : ∀ q ∈ xsbt, q.length ≤ 6 ∧ ∀ b ∈ q, b < 128 := by decide +kernel
  rw [xget_eq] at h
  obtain ⟨h1, h2⟩ := key q (List.mem_of_getElem? h)
  refine ⟨h1, fun j => ?_⟩
  rw [List.getD_eq_getElem?_getD]
  cases hj : q[j]? with
  | none => exact (by decide : (0 : Nat) < 128)
  | some b => exact h2 b (List.mem_of_getElem? hj)
end
section
/-! Rows: what its methods do -/
section XRO
variable {d r a lim wd sz t row what num r2 a2 sz2 t2 : Nat} {w : List (List xE)} {bd : List (Nat × Nat)} {fc : List (Nat × Nat × Bool)} {rr : Nat × Nat} {f f2 : Nat → Nat}
abbrev xRs (w : List (List xE)) (r a lim wd sz : Nat) : Prop := wget w r = some (.inl (5, [(0, lim), (0, wd), (2, a), (0, sz)]))
theorem rw_idx (h1 : row < sz) (h2 : sz ≤ lim) (h3 : what < wd) : row * wd + what < lim * wd := by
  have h : (row + 1) * wd ≤ lim * wd := Nat.mul_le_mul_right wd (by omega)
  rw [Nat.add_mul, Nat.one_mul] at h
  omega
theorem rfull_ok (h : xRs w r a lim wd sz) (hl : lim < 2147483648) (hsz : sz ≤ lim) : xPr d mX5_isFull [(2, r)] w bd fc rr [(0, if lim ≤ sz then 1 else 0)] w := by
  refine xPr.of ?_
  show xTo d mX5_isFull (0, [], [(0, (2, r))], [], (w, bd, fc, 0, 0, rr)) (xEnd 4 [(0, if lim ≤ sz then 1 else 0)] (w, bd, fc, 0, 0, rr))
  refine xg_t (xg_blq rfl) ?_
  refine xg_t (xg_aload (va := (2, r)) rfl rfl) ?_
  refine xg_t (xg_getf (va := (0, sz)) h rfl) ?_
  refine xg_t (xg_aload (va := (2, r)) rfl rfl) ?_
  refine xg_t (xg_getf (va := (0, lim)) h rfl) ?_
  by_cases hc1 : sz < lim
  · refine xg_t (xg_icT (u := sz) (v := lim) rfl xnm0 xnm0 (xj_ltT hc1 (by omega))) ?_
    refine xg_t (xg_blq rfl) ?_
    refine xg_t (xg_const) ?_
    refine xg_t (xg_blq rfl) ?_
    rw [if_neg (show ¬ lim ≤ sz by omega)]
    exact xg_e ⟨rfl, rfl⟩
  · refine xg_t (xg_icF (u := sz) (v := lim) rfl xnm0 xnm0 (xj_ltF (by omega) (by omega))) ?_
    refine xg_t (xg_const) ?_
    refine xg_t (xg_goto) ?_
    refine xg_t (xg_blq rfl) ?_
    rw [if_pos (show lim ≤ sz by omega)]
    exact xg_e ⟨rfl, rfl⟩
theorem rhas_ok (h : xRs w r a lim wd sz) (hl : lim < 2147483648) (hsz : sz ≤ lim) (h1 : row < 4294967296) : xPr d mX5_has [(2, r), (0, row)] w bd fc rr [(0, if row < sz then 1 else 0)] w := by
  refine xPr.of ?_
  show xTo d mX5_has (0, [], [(0, (2, r)), (1, (0, row))], [], (w, bd, fc, 0, 0, rr)) (xEnd 4 [(0, if row < sz then 1 else 0)] (w, bd, fc, 0, 0, rr))
  refine xg_t (xg_blq rfl) ?_
  refine xg_t (xg_iload (va := (0, row)) rfl rfl) ?_
  by_cases hc1 : row < 2147483648
  · refine xg_t (xg_ifF (u := row) rfl xnm0 (xjz_ltF hc1)) ?_
    refine xg_t (xg_iload (va := (0, row)) rfl rfl) ?_
    refine xg_t (xg_aload (va := (2, r)) rfl rfl) ?_
    refine xg_t (xg_getf (va := (0, sz)) h rfl) ?_
    by_cases hc2 : row < sz
    · refine xg_t (xg_icF (u := row) (v := sz) rfl xnm0 xnm0 (xj_geF hc2 (by omega))) ?_
      refine xg_t (xg_const) ?_
      refine xg_t (xg_goto) ?_
      refine xg_t (xg_blq rfl) ?_
      rw [if_pos (show row < sz by omega)]
      exact xg_e ⟨rfl, rfl⟩
    · refine xg_t (xg_icT (u := row) (v := sz) rfl xnm0 xnm0 (xj_geT (by omega) (by omega))) ?_
      refine xg_t (xg_blq rfl) ?_
      refine xg_t (xg_const) ?_
      refine xg_t (xg_blq rfl) ?_
      rw [if_neg (show ¬ row < sz by omega)]
      exact xg_e ⟨rfl, rfl⟩
  · refine xg_t (xg_ifT (u := row) rfl xnm0 (xjz_ltT (by omega) (by omega))) ?_
    refine xg_t (xg_blq rfl) ?_
    refine xg_t (xg_const) ?_
    refine xg_t (xg_blq rfl) ?_
    rw [if_neg (show ¬ row < sz by omega)]
    exact xg_e ⟨rfl, rfl⟩
theorem rget_ok (h : xRs w r a lim wd sz) (hf : xRow w a (lim * wd) t f) (hl : lim < 2147483648) (hsz : sz ≤ lim) (hw : wd < 2147483648) (hL : lim * wd < 2147483648) (h1 : row < 4294967296) (h2 : what < 4294967296) : xPr d mX5_get [(2, r), (0, row), (0, what)] w bd fc rr [(0, if row < sz ∧ what < wd then f (row * wd + what) else 4294967295)] w := by
  refine xPr.of ?_
  show xTo d mX5_get (0, [], [(0, (2, r)), (1, (0, row)), (2, (0, what))], [], (w, bd, fc, 0, 0, rr)) (xEnd 1 [(0, if row < sz ∧ what < wd then f (row * wd + what) else 4294967295)] (w, bd, fc, 0, 0, rr))
  refine xg_t (xg_blq rfl) ?_
  refine xg_t (xg_iload (va := (0, row)) rfl rfl) ?_
  by_cases hc1 : row < 2147483648
  · refine xg_t (xg_ifF (u := row) rfl xnm0 (xjz_ltF hc1)) ?_
    refine xg_t (xg_iload (va := (0, row)) rfl rfl) ?_
    refine xg_t (xg_aload (va := (2, r)) rfl rfl) ?_
    refine xg_t (xg_getf (va := (0, sz)) h rfl) ?_
    by_cases hc2 : row < sz
    · refine xg_t (xg_icF (u := row) (v := sz) rfl xnm0 xnm0 (xj_geF hc2 (by omega))) ?_
      refine xg_t (xg_iload (va := (0, what)) rfl rfl) ?_
      by_cases hc3 : what < 2147483648
      · refine xg_t (xg_ifF (u := what) rfl xnm0 (xjz_ltF hc3)) ?_
        refine xg_t (xg_iload (va := (0, what)) rfl rfl) ?_
        refine xg_t (xg_aload (va := (2, r)) rfl rfl) ?_
        refine xg_t (xg_getf (va := (0, wd)) h rfl) ?_
        by_cases hc4 : what < wd
        · refine xg_t (xg_icF (u := what) (v := wd) rfl xnm0 xnm0 (xj_geF hc4 (by omega))) ?_
          have hix : row * wd + what < lim * wd := rw_idx (by omega) hsz (by omega)
          refine xg_t (xg_aload (va := (2, r)) rfl rfl) ?_
          refine xg_t (xg_getf (va := (2, a)) h rfl) ?_
          refine xg_t (xg_iload (va := (0, row)) rfl rfl) ?_
          refine xg_t (xg_aload (va := (2, r)) rfl rfl) ?_
          refine xg_t (xg_getf (va := (0, wd)) h rfl) ?_
          refine xg_t (xg_imul (u := row) (v := wd) (z := row * wd) xnm0 xnm0 (Nat.mod_eq_of_lt (by omega))) ?_
          refine xg_t (xg_iload (va := (0, what)) rfl rfl) ?_
          refine xg_t (xg_iadd (u := row * wd) (v := what) (z := row * wd + what) xnm0 xnm0 (Nat.mod_eq_of_lt (by omega))) ?_
          refine xg_t (xg_ialdR (n := row * wd + what) (u := f (row * wd + what)) hf xnm0 (hix) rfl) ?_
          refine xg_t (xg_goto) ?_
          refine xg_t (xg_blq rfl) ?_
          rw [if_pos (show row < sz ∧ what < wd by omega)]
          exact xg_e ⟨rfl, rfl⟩
        · refine xg_t (xg_icT (u := what) (v := wd) rfl xnm0 xnm0 (xj_geT (by omega) (by omega))) ?_
          refine xg_t (xg_blq rfl) ?_
          refine xg_t (xg_const) ?_
          refine xg_t (xg_blq rfl) ?_
          rw [if_neg (show ¬ (row < sz ∧ what < wd) by omega)]
          exact xg_e ⟨rfl, rfl⟩
      · refine xg_t (xg_ifT (u := what) rfl xnm0 (xjz_ltT (by omega) (by omega))) ?_
        refine xg_t (xg_blq rfl) ?_
        refine xg_t (xg_const) ?_
        refine xg_t (xg_blq rfl) ?_
        rw [if_neg (show ¬ (row < sz ∧ what < wd) by omega)]
        exact xg_e ⟨rfl, rfl⟩
    · refine xg_t (xg_icT (u := row) (v := sz) rfl xnm0 xnm0 (xj_geT (by omega) (by omega))) ?_
      refine xg_t (xg_blq rfl) ?_
      refine xg_t (xg_const) ?_
      refine xg_t (xg_blq rfl) ?_
      rw [if_neg (show ¬ (row < sz ∧ what < wd) by omega)]
      exact xg_e ⟨rfl, rfl⟩
  · refine xg_t (xg_ifT (u := row) rfl xnm0 (xjz_ltT (by omega) (by omega))) ?_
    refine xg_t (xg_blq rfl) ?_
    refine xg_t (xg_const) ?_
    refine xg_t (xg_blq rfl) ?_
    rw [if_neg (show ¬ (row < sz ∧ what < wd) by omega)]
    exact xg_e ⟨rfl, rfl⟩
theorem rput_ok (h : xRs w r a lim wd sz) (hf : xRow w a (lim * wd) t f) (hl : lim < 2147483648) (hsz : sz ≤ lim) (hw : wd < 2147483648) (hL : lim * wd < 2147483648) (h1 : row < 4294967296) (h2 : what < 4294967296) : xPq (d + 1) mX5_put [(2, r), (0, row), (0, what), (0, num)] w bd fc rr [] (fun w' => xRow w' a (lim * wd) t (fun j => if (row < sz ∧ what < wd) ∧ j = row * wd + what then num else f j) ∧ xBut a w w') := by
  refine xPq.of ?_
  show xTo (d + 1) mX5_put (0, [], [(0, (2, r)), (1, (0, row)), (2, (0, what)), (3, (0, num))], [], (w, bd, fc, 0, 0, rr)) (fun φ => ∃ w', xEnd 0 [] (w', bd, fc, 0, 0, rr) φ ∧ xRow w' a (lim * wd) t (fun j => if (row < sz ∧ what < wd) ∧ j = row * wd + what then num else f j) ∧ xBut a w w')
  refine xg_t (xg_blq rfl) ?_
  refine xg_t (xg_aload (va := (2, r)) rfl rfl) ?_
  refine xg_t (xg_iload (va := (0, row)) rfl rfl) ?_
  refine xg_t (xg_cVr mX5_has (vs := [(0, row)]) (rest := []) (rs := [(0, if row < sz then 1 else 0)]) (cn1 := 0) (sl1 := 0) rfl (rhas_ok h hl hsz h1) rfl h rfl rfl rfl rfl rfl rfl rfl) ?_
  by_cases hc1 : row < sz
  · refine xg_t (xg_ifF (u := (if row < sz then 1 else 0)) rfl xnm0 (xj_eqF (xite1 hc1))) ?_
    refine xg_t (xg_iload (va := (0, what)) rfl rfl) ?_
    by_cases hc2 : what < 2147483648
    · refine xg_t (xg_ifF (u := what) rfl xnm0 (xjz_ltF hc2)) ?_
      refine xg_t (xg_iload (va := (0, what)) rfl rfl) ?_
      refine xg_t (xg_aload (va := (2, r)) rfl rfl) ?_
      refine xg_t (xg_getf (va := (0, wd)) h rfl) ?_
      by_cases hc3 : what < wd
      · refine xg_t (xg_icF (u := what) (v := wd) rfl xnm0 xnm0 (xj_geF hc3 (by omega))) ?_
        have hix : row * wd + what < lim * wd := rw_idx (by omega) hsz (by omega)
        refine xg_t (xg_aload (va := (2, r)) rfl rfl) ?_
        refine xg_t (xg_getf (va := (2, a)) h rfl) ?_
        refine xg_t (xg_iload (va := (0, row)) rfl rfl) ?_
        refine xg_t (xg_aload (va := (2, r)) rfl rfl) ?_
        refine xg_t (xg_getf (va := (0, wd)) h rfl) ?_
        refine xg_t (xg_imul (u := row) (v := wd) (z := row * wd) xnm0 xnm0 (Nat.mod_eq_of_lt (by omega))) ?_
        refine xg_t (xg_iload (va := (0, what)) rfl rfl) ?_
        refine xg_t (xg_iadd (u := row * wd) (v := what) (z := row * wd + what) xnm0 xnm0 (Nat.mod_eq_of_lt (by omega))) ?_
        refine xg_t (xg_iload (va := (0, num)) rfl rfl) ?_
        refine xg_iastK (n := row * wd + what) (u := num) hf xnm0 xnm0 rfl (hix) (fun w4 hr5 hb6 => ?_)
        refine xg_t (xg_blq rfl) ?_
        refine xg_e ⟨w4, ⟨rfl, rfl⟩, hr5.to (fun j _ => ?_), hb6⟩
        show (if j = row * wd + what then num else f j) = if (row < sz ∧ what < wd) ∧ j = row * wd + what then num else f j
        by_cases hj : j = row * wd + what
        · rw [if_pos hj, if_pos ⟨by omega, hj⟩]
        · rw [if_neg hj, if_neg (fun z => hj z.2)]
      · refine xg_t (xg_icT (u := what) (v := wd) rfl xnm0 xnm0 (xj_geT (by omega) (by omega))) ?_
        refine xg_t (xg_blq rfl) ?_
        refine xg_e ⟨w, ⟨rfl, rfl⟩, hf.to (fun j _ => ?_), xBut.rf⟩
        show f j = if (row < sz ∧ what < wd) ∧ j = row * wd + what then num else f j
        rw [if_neg (fun z => (show ¬ (row < sz ∧ what < wd) by omega) z.1)]
    · refine xg_t (xg_ifT (u := what) rfl xnm0 (xjz_ltT (by omega) (by omega))) ?_
      refine xg_t (xg_blq rfl) ?_
      refine xg_e ⟨w, ⟨rfl, rfl⟩, hf.to (fun j _ => ?_), xBut.rf⟩
      show f j = if (row < sz ∧ what < wd) ∧ j = row * wd + what then num else f j
      rw [if_neg (fun z => (show ¬ (row < sz ∧ what < wd) by omega) z.1)]
  · refine xg_t (xg_ifT (u := (if row < sz then 1 else 0)) rfl xnm0 (xj_eqT (xite0 hc1))) ?_
    refine xg_t (xg_blq rfl) ?_
    refine xg_e ⟨w, ⟨rfl, rfl⟩, hf.to (fun j _ => ?_), xBut.rf⟩
    show f j = if (row < sz ∧ what < wd) ∧ j = row * wd + what then num else f j
    rw [if_neg (fun z => (show ¬ (row < sz ∧ what < wd) by omega) z.1)]
theorem rgrow_ok (h : xRs w r a lim wd sz) (hl : lim < 2147483648) (hsz : sz ≤ lim) : xPq (d + 1) mX5_grow [(2, r)] w bd fc rr [(0, if sz < lim then sz else 4294967295)] (fun w' => xRs w' r a lim wd (if sz < lim then sz + 1 else sz) ∧ xBut r w w') := by
  refine xPq.of ?_
  show xTo (d + 1) mX5_grow (0, [], [(0, (2, r))], [], (w, bd, fc, 0, 0, rr)) (fun φ => ∃ w', xEnd 1 [(0, if sz < lim then sz else 4294967295)] (w', bd, fc, 0, 0, rr) φ ∧ xRs w' r a lim wd (if sz < lim then sz + 1 else sz) ∧ xBut r w w')
  refine xg_t (xg_blq rfl) ?_
  refine xg_t (xg_aload (va := (2, r)) rfl rfl) ?_
  refine xg_t (xg_cVr mX5_isFull (vs := []) (rest := []) (rs := [(0, if lim ≤ sz then 1 else 0)]) (cn1 := 0) (sl1 := 0) rfl (rfull_ok h hl hsz) rfl h rfl rfl rfl rfl rfl rfl rfl) ?_
  by_cases hc1 : lim ≤ sz
  · refine xg_t (xg_ifF (u := (if lim ≤ sz then 1 else 0)) rfl xnm0 (xj_eqF (xite1 hc1))) ?_
    refine xg_t (xg_const) ?_
    refine xg_e ⟨w, ⟨?_, rfl⟩, ?_, xBut.rf⟩
    · rw [if_neg (show ¬ sz < lim by omega)]
      rfl
    · rw [if_neg (show ¬ sz < lim by omega)]
      exact h
  · refine xg_t (xg_ifT (u := (if lim ≤ sz then 1 else 0)) rfl xnm0 (xj_eqT (xite0 hc1))) ?_
    refine xg_t (xg_blq rfl) ?_
    refine xg_t (xg_aload (va := (2, r)) rfl rfl) ?_
    refine xg_t (xg_dup rfl) ?_
    refine xg_t (xg_getf (va := (0, sz)) h rfl) ?_
    refine xg_t (xg_const) ?_
    refine xg_t (xg_iadd (u := sz) (v := 1) (z := sz + 1) xnm0 xnm0 (by omega)) ?_
    refine xg_putI (fl1 := [(0, lim), (0, wd), (2, a), (0, sz + 1)]) h rfl rfl rfl (fun w2 hk3 hb4 => ?_)
    refine xg_t (xg_aload (va := (2, r)) rfl rfl) ?_
    refine xg_t (xg_getf (va := (0, sz + 1)) hk3 rfl) ?_
    refine xg_t (xg_const) ?_
    refine xg_t (xg_isub (u := sz + 1) (v := 1) (z := (sz + 1) - 1) xnm0 xnm0 (by omega)) ?_
    refine xg_e ⟨w2, ⟨?_, rfl⟩, ?_, hb4⟩
    · rw [if_pos (show sz < lim by omega)]
      exact congrArg (fun q => some [(0, q)]) (show sz + 1 - 1 = sz by omega)
    · rw [if_pos (show sz < lim by omega)]
      exact hk3
theorem rclear_ok (h : xRs w r a lim wd sz) : xPq d mX5_clear [(2, r)] w bd fc rr [] (fun w' => xRs w' r a lim wd 0 ∧ xBut r w w') := by
  refine xPq.of ?_
  show xTo d mX5_clear (0, [], [(0, (2, r))], [], (w, bd, fc, 0, 0, rr)) (fun φ => ∃ w', xEnd 0 [] (w', bd, fc, 0, 0, rr) φ ∧ xRs w' r a lim wd 0 ∧ xBut r w w')
  refine xg_t (xg_blq rfl) ?_
  refine xg_t (xg_aload (va := (2, r)) rfl rfl) ?_
  refine xg_t (xg_const) ?_
  refine xg_putI (fl1 := [(0, lim), (0, wd), (2, a), (0, 0)]) h rfl rfl rfl (fun w1 hk2 hb3 => ?_)
  exact xg_e ⟨w1, ⟨rfl, rfl⟩, hk2, hb3⟩
end XRO
end
section
/-! a row filled -/
section XFI
variable {d k v L t : Nat} {w : List (List xE)} {bd : List (Nat × Nat)} {fc : List (Nat × Nat × Bool)} {rr : Nat × Nat} {f : Nat → Nat}
theorem fl_lp (hL : L < 2147483648) : ∀ (n i : Nat) (w : List (List xE)) (f : Nat → Nat), i + n = L → xRow w k L t f → (∀ j, j < i → f j = v) → xTo d mJ7_fill_53178 (5, [], [(0, (2, k)), (1, (0, v)), (2, (0, i)), (3, (0, L))], [], (w, bd, fc, 0, 0, rr)) (fun φ => ∃ w', xEnd 0 [] (w', bd, fc, 0, 0, rr) φ ∧ xRow w' k L t (fun _ => v) ∧ xBut k w w')
  | 0, i, w, f, hn, h, h0 => by
    refine xg_t (xg_blq rfl) ?_
    refine xg_t (xg_iload (va := (0, i)) rfl rfl) ?_
    refine xg_t (xg_iload (va := (0, L)) rfl rfl) ?_
    refine xg_t (xg_icT (u := i) (v := L) rfl xnm0 xnm0 (xj_geT (by omega) (by omega))) ?_
    refine xg_t (xg_blq rfl) ?_
    exact xg_e ⟨w, ⟨rfl, rfl⟩, h.to (fun j hj => h0 j (by omega)), xBut.rf⟩
  | n + 1, i, w, f, hn, h, h0 => by
    refine xg_t (xg_blq rfl) ?_
    refine xg_t (xg_iload (va := (0, i)) rfl rfl) ?_
    refine xg_t (xg_iload (va := (0, L)) rfl rfl) ?_
    refine xg_t (xg_icF (u := i) (v := L) rfl xnm0 xnm0 (xj_geF (by omega) (by omega))) ?_
    refine xg_t (xg_aload (va := (2, k)) rfl rfl) ?_
    refine xg_t (xg_iload (va := (0, i)) rfl rfl) ?_
    refine xg_t (xg_iload (va := (0, v)) rfl rfl) ?_
    refine xg_iastK (n := i) (u := v) h xnm0 xnm0 rfl (by omega) (fun w1 hr2 hb3 => ?_)
    refine xg_t (xg_iinc (u := i) (z := i + 1) (l1 := [(0, (2, k)), (1, (0, v)), (3, (0, L))]) rfl rfl (by omega) rfl) ?_
    refine xg_t (xg_goto) ?_
    refine xg_t (xg_drop (l1 := [(0, (2, k)), (1, (0, v)), (2, (0, i + 1)), (3, (0, L))]) (List.forall_mem_cons.mpr ⟨List.mem_cons_of_mem _ (List.mem_cons_self), List.forall_mem_cons.mpr ⟨List.mem_cons_of_mem _ (List.mem_cons_of_mem _ (List.mem_cons_self)), List.forall_mem_cons.mpr ⟨List.mem_cons_self, List.forall_mem_cons.mpr ⟨List.mem_cons_of_mem _ (List.mem_cons_of_mem _ (List.mem_cons_of_mem _ (List.mem_cons_self))), fun _ h => absurd h List.not_mem_nil⟩⟩⟩⟩)) ?_
    refine (fl_lp hL n (i + 1) w1 (fun j => if j = i then v else f j) (by omega) hr2 (fun j hj => ?_)).imp (fun φ h => ?_)
    · show (if j = i then v else f j) = v
      split
      · rfl
      · exact h0 j (by omega)
    · obtain ⟨w', e1, e2, e3⟩ := h
      exact ⟨w', e1, e2, hb3.tr e3⟩
theorem fillI (h : xRow w k L t f) (hL : L < 2147483648) : xPq d mJ7_fill_53178 [(2, k), (0, v)] w bd fc rr [] (fun w' => xRow w' k L t (fun _ => v) ∧ xBut k w w') := by
  obtain ⟨us, hus, -⟩ := id h
  refine xPq.of ?_
  show xTo d mJ7_fill_53178 (0, [], [(0, (2, k)), (1, (0, v))], [], (w, bd, fc, 0, 0, rr)) (fun φ => ∃ w', xEnd 0 [] (w', bd, fc, 0, 0, rr) φ ∧ xRow w' k L t (fun _ => v) ∧ xBut k w w')
  refine xg_t (xg_blq rfl) ?_
  refine xg_t (xg_const) ?_
  refine xg_t (xg_istore (l1 := [(0, (2, k)), (1, (0, v))]) rfl rfl rfl) ?_
  refine xg_t (xg_aload (va := (2, k)) rfl rfl) ?_
  refine xg_t (xg_alen hus) ?_
  refine xg_t (xg_istore (l1 := [(2, (0, 0)), (0, (2, k)), (1, (0, v))]) rfl rfl rfl) ?_
  refine xg_t (xg_drop (l1 := [(0, (2, k)), (1, (0, v)), (2, (0, 0)), (3, (0, L))]) (List.forall_mem_cons.mpr ⟨List.mem_cons_of_mem _ (List.mem_cons_of_mem _ (List.mem_cons_self)), List.forall_mem_cons.mpr ⟨List.mem_cons_of_mem _ (List.mem_cons_of_mem _ (List.mem_cons_of_mem _ (List.mem_cons_self))), List.forall_mem_cons.mpr ⟨List.mem_cons_of_mem _ (List.mem_cons_self), List.forall_mem_cons.mpr ⟨List.mem_cons_self, fun _ h => absurd h List.not_mem_nil⟩⟩⟩⟩)) ?_
  exact fl_lp hL L 0 w f (by omega) h (fun j hj => absurd hj (Nat.not_lt_zero j))
end XFI
end
section
/-! Rows: what callers need -/
section XRI
variable {d r a lim wd sz t row what num B : Nat} {w : List (List xE)} {bd : List (Nat × Nat)} {fc : List (Nat × Nat × Bool)} {rr : Nat × Nat} {f : Nat → Nat}
theorem rgrowI (h : xRs w r a lim wd sz) (hl : lim < 2147483648) (hsz : sz ≤ lim) : xPi (d + 1) mX5_grow [(2, r)] w bd fc rr (fun n w' => n ≤ 4294967295 ∧ ∃ s1, s1 ≤ lim ∧ xRs w' r a lim wd s1 ∧ xBut r w w') := by
  obtain ⟨w', ⟨q1, q2⟩, q3⟩ := rgrow_ok (d := d) (bd := bd) (fc := fc) (rr := rr) h hl hsz
  refine ⟨_, w', ⟨?_, _, ?_, q1, q2⟩, q3⟩
  · split <;> omega
  · split <;> omega
theorem rputI (h : xRs w r a lim wd sz) (hf : xRow w a (lim * wd) t f) (hB : ∀ j, f j ≤ B) (hl : lim < 2147483648) (hsz : sz ≤ lim) (hw : wd < 2147483648) (hL : lim * wd < 2147483648) (h1 : row < 4294967296) (h2 : what < 4294967296) (hn : num ≤ B) : xPq (d + 1) mX5_put [(2, r), (0, row), (0, what), (0, num)] w bd fc rr [] (fun w' => ∃ g, xRow w' a (lim * wd) t g ∧ (∀ j, g j ≤ B) ∧ xBut a w w') := by
  obtain ⟨w', ⟨q1, q2⟩, q3⟩ := rput_ok (d := d) (bd := bd) (fc := fc) (rr := rr) (num := num) h hf hl hsz hw hL h1 h2
  refine ⟨w', ⟨_, q1, fun j => ?_, q2⟩, q3⟩
  show (if (row < sz ∧ what < wd) ∧ j = row * wd + what then num else f j) ≤ B
  split
  · exact hn
  · exact hB j
end XRI
end
section
/-! a row of longs filled -/
section XFJ
variable {d k v L t : Nat} {w : List (List xE)} {bd : List (Nat × Nat)} {fc : List (Nat × Nat × Bool)} {rr : Nat × Nat} {f : Nat → Nat}
theorem fj_lp (hL : L < 2147483648) : ∀ (n i : Nat) (w : List (List xE)) (f : Nat → Nat), i + n = L → xRk 3 4 w k L t f → xTo d mJ7_fill_d0a16 (6, [], [(0, (2, k)), (1, (4, v)), (3, (0, i)), (4, (0, L))], [], (w, bd, fc, 0, 0, rr)) (fun φ => ∃ w', xEnd 0 [] (w', bd, fc, 0, 0, rr) φ ∧ ∃ g, xRk 3 4 w' k L t g ∧ xBut k w w')
  | 0, i, w, f, hn, h => by
    refine xg_t (xg_blq rfl) ?_
    refine xg_t (xg_iload (va := (0, i)) rfl rfl) ?_
    refine xg_t (xg_iload (va := (0, L)) rfl rfl) ?_
    refine xg_t (xg_icT (u := i) (v := L) rfl xnm0 xnm0 (xj_geT (by omega) (by omega))) ?_
    refine xg_t (xg_blq rfl) ?_
    exact xg_e ⟨w, ⟨rfl, rfl⟩, f, h, xBut.rf⟩
  | n + 1, i, w, f, hn, h => by
    refine xg_t (xg_blq rfl) ?_
    refine xg_t (xg_iload (va := (0, i)) rfl rfl) ?_
    refine xg_t (xg_iload (va := (0, L)) rfl rfl) ?_
    refine xg_t (xg_icF (u := i) (v := L) rfl xnm0 xnm0 (xj_geF (by omega) (by omega))) ?_
    refine xg_t (xg_aload (va := (2, k)) rfl rfl) ?_
    refine xg_t (xg_iload (va := (0, i)) rfl rfl) ?_
    refine xg_t (xg_lload (u := v) rfl) ?_
    refine xg_last (n := i) (u := v) h xnm0 (by omega) (fun w1 hr2 hb3 => ?_)
    refine xg_t (xg_iinc (u := i) (z := i + 1) (l1 := [(0, (2, k)), (1, (4, v)), (4, (0, L))]) rfl rfl (by omega) rfl) ?_
    refine xg_t (xg_goto) ?_
    refine xg_t (xg_drop (l1 := [(0, (2, k)), (1, (4, v)), (3, (0, i + 1)), (4, (0, L))]) (List.forall_mem_cons.mpr ⟨List.mem_cons_of_mem _ (List.mem_cons_self), List.forall_mem_cons.mpr ⟨List.mem_cons_of_mem _ (List.mem_cons_of_mem _ (List.mem_cons_self)), List.forall_mem_cons.mpr ⟨List.mem_cons_self, List.forall_mem_cons.mpr ⟨List.mem_cons_of_mem _ (List.mem_cons_of_mem _ (List.mem_cons_of_mem _ (List.mem_cons_self))), fun _ h => absurd h List.not_mem_nil⟩⟩⟩⟩)) ?_
    refine (fj_lp hL n (i + 1) w1 (fun j => if j = i then v else f j) (by omega) hr2).imp (fun φ h => ?_)
    obtain ⟨w', e1, g, e2, e3⟩ := h
    exact ⟨w', e1, g, e2, hb3.tr e3⟩
theorem fillJ (h : xRk 3 4 w k L t f) (hL : L < 2147483648) : xPq d mJ7_fill_d0a16 [(2, k), (4, v)] w bd fc rr [] (fun w' => ∃ g, xRk 3 4 w' k L t g ∧ xBut k w w') := by
  obtain ⟨us, hus, -⟩ := id h
  refine xPq.of ?_
  show xTo d mJ7_fill_d0a16 (0, [], [(0, (2, k)), (1, (4, v))], [], (w, bd, fc, 0, 0, rr)) (fun φ => ∃ w', xEnd 0 [] (w', bd, fc, 0, 0, rr) φ ∧ ∃ g, xRk 3 4 w' k L t g ∧ xBut k w w')
  refine xg_t (xg_blq rfl) ?_
  refine xg_t (xg_const) ?_
  refine xg_t (xg_istore (l1 := [(0, (2, k)), (1, (4, v))]) rfl rfl rfl) ?_
  refine xg_t (xg_aload (va := (2, k)) rfl rfl) ?_
  refine xg_t (xg_alen hus) ?_
  refine xg_t (xg_istore (l1 := [(3, (0, 0)), (0, (2, k)), (1, (4, v))]) rfl rfl rfl) ?_
  refine xg_t (xg_drop (l1 := [(0, (2, k)), (1, (4, v)), (3, (0, 0)), (4, (0, L))]) (List.forall_mem_cons.mpr ⟨List.mem_cons_of_mem _ (List.mem_cons_of_mem _ (List.mem_cons_self)), List.forall_mem_cons.mpr ⟨List.mem_cons_of_mem _ (List.mem_cons_of_mem _ (List.mem_cons_of_mem _ (List.mem_cons_self))), List.forall_mem_cons.mpr ⟨List.mem_cons_of_mem _ (List.mem_cons_self), List.forall_mem_cons.mpr ⟨List.mem_cons_self, fun _ h => absurd h List.not_mem_nil⟩⟩⟩⟩)) ?_
  exact fj_lp hL L 0 w f (by omega) h
end XFJ
end
section
/-! Rows copied -/
section XRC
variable {d r a r2 a2 lim wd sz sz2 t t2 B : Nat} {w : List (List xE)} {bd : List (Nat × Nat)} {fc : List (Nat × Nat × Bool)} {rr : Nat × Nat} {f f2 : Nat → Nat}
theorem rcopyI (h : xRs w r a lim wd sz) (h2 : xRs w r2 a2 lim wd sz2) (hf : xRow w a (lim * wd) t f) (hf2 : xRow w a2 (lim * wd) t2 f2) (hB : ∀ j, f j ≤ B) (hB2 : ∀ j, f2 j ≤ B) (hl : lim < 2147483648) (hsz : sz2 ≤ lim) (hw : wd < 2147483648) (hL : lim * wd < 2147483648) (n1 : r2 ≠ r) (n2 : a ≠ r) (n3 : a2 ≠ r) (n4 : r ≠ a) : xPq (d + 1) mX5_copy [(2, r), (2, r2)] w bd fc rr [] (fun w' => xRs w' r a lim wd sz2 ∧ ∃ g, xRow w' a (lim * wd) t g ∧ (∀ j, g j ≤ B) ∧ xFr [r, a] w w') := by
  refine xPq.of ?_
  show xTo (d + 1) mX5_copy (0, [], [(0, (2, r)), (1, (2, r2))], [], (w, bd, fc, 0, 0, rr)) (fun φ => ∃ w', xEnd 0 [] (w', bd, fc, 0, 0, rr) φ ∧ xRs w' r a lim wd sz2 ∧ ∃ g, xRow w' a (lim * wd) t g ∧ (∀ j, g j ≤ B) ∧ xFr [r, a] w w')
  refine xg_t (xg_blq rfl) ?_
  refine xg_t (xg_aload (va := (2, r2)) rfl rfl) ?_
  refine xg_t (xg_getf (va := (0, lim)) h2 rfl) ?_
  refine xg_t (xg_aload (va := (2, r)) rfl rfl) ?_
  refine xg_t (xg_getf (va := (0, lim)) h rfl) ?_
  refine xg_t (xg_icF (u := lim) (v := lim) rfl xnm0 xnm0 (xj_neF rfl)) ?_
  refine xg_t (xg_aload (va := (2, r2)) rfl rfl) ?_
  refine xg_t (xg_getf (va := (0, wd)) h2 rfl) ?_
  refine xg_t (xg_aload (va := (2, r)) rfl rfl) ?_
  refine xg_t (xg_getf (va := (0, wd)) h rfl) ?_
  refine xg_t (xg_icF (u := wd) (v := wd) rfl xnm0 xnm0 (xj_neF rfl)) ?_
  refine xg_t (xg_aload (va := (2, r)) rfl rfl) ?_
  refine xg_t (xg_aload (va := (2, r2)) rfl rfl) ?_
  refine xg_t (xg_getf (va := (0, sz2)) h2 rfl) ?_
  refine xg_putI (fl1 := [(0, lim), (0, wd), (2, a), (0, sz2)]) h rfl rfl rfl (fun w1 hk2 hb3 => ?_)
  refine xg_t (xg_aload (va := (2, r2)) rfl rfl) ?_
  refine xg_t (xg_getf (va := (2, a2)) (hb3.get (by omega) h2) rfl) ?_
  refine xg_t (xg_const) ?_
  refine xg_t (xg_aload (va := (2, r)) rfl rfl) ?_
  refine xg_t (xg_getf (va := (2, a)) hk2 rfl) ?_
  refine xg_t (xg_const) ?_
  refine xg_t (xg_aload (va := (2, r)) rfl rfl) ?_
  refine xg_t (xg_getf (va := (0, sz2)) hk2 rfl) ?_
  refine xg_t (xg_aload (va := (2, r)) rfl rfl) ?_
  refine xg_t (xg_getf (va := (0, wd)) hk2 rfl) ?_
  have hm9 : sz2 * wd ≤ lim * wd := Nat.mul_le_mul_right wd hsz
  refine xg_t (xg_imul (u := sz2) (v := wd) (z := sz2 * wd) xnm0 xnm0 (Nat.mod_eq_of_lt (by omega))) ?_
  refine xg_copyI (n := sz2 * wd) (hf2.but hb3 (by omega)) (hf.but hb3 (by omega)) xnm0 (by omega) (by omega) (Nat.le_of_ble_eq_true rfl) (fun w9 hr9 hb9 => ?_)
  refine xg_t (xg_blq rfl) ?_
  exact xg_e ⟨w9, ⟨rfl, rfl⟩, (hb9.get (by omega) hk2), _, hr9, xcb2 hB2 hB, (xFr.of (S := [r, a]) hb3 List.mem_cons_self).tr (xFr.of (S := [r, a]) hb9 (List.mem_cons_of_mem _ List.mem_cons_self))⟩
end XRC
end
section
/-! what holds of the cells between calls -/
def cpI (L t B : Nat) (q : Option xE) : Prop := ∃ f : Nat → Nat, (∃ us, q = some (.inr (0, L, t, us)) ∧ ∀ j, j < L → xat 0 us j = (0, f j)) ∧ ∀ j, f j ≤ B
def cpY (L t : Nat) (q : Option xE) : Prop := ∃ f : Nat → Nat, (∃ us, q = some (.inr (1, L, t, us)) ∧ ∀ j, j < L → xat 1 us j = (0, f j)) ∧ ∀ j, xby (f j)
def cpK (kd tg L t B : Nat) (q : Option xE) : Prop := ∃ f : Nat → Nat, (∃ us, q = some (.inr (kd, L, t, us)) ∧ ∀ j, j < L → xat kd us j = (tg, f j)) ∧ ∀ j, f j ≤ B
def cpJ (L t : Nat) (q : Option xE) : Prop := ∃ f : Nat → Nat, ∃ us, q = some (.inr (3, L, t, us)) ∧ ∀ j, j < L → xat 3 us j = (4, f j)
def cp0 (q : Option xE) : Prop := q = some (.inl (11, [(2, 1), (2, 26), (2, 27), (2, 43), (2, 49), (2, 58), (2, 68), (2, 72), (2, 76), (2, 80), (2, 81)]))
def cp1 (q : Option xE) : Prop := ∃ a1 a2 a3 a6 a7 a9 : Nat, q = some (.inl (9, [(2, 2), (0, a1), (0, a2), (0, a3), (2, 3), (2, 14), (0, a6), (0, a7), (2, 16), (0, a9), (2, 18), (2, 20), (2, 22), (2, 24)])) ∧ a1 ≤ 500 ∧ a2 ≤ 4294967295 ∧ a3 ≤ 4294967295 ∧ a6 ≤ 4294967295 ∧ a7 ≤ 4294967295 ∧ a9 ≤ 200
def cp3 (q : Option xE) : Prop := ∃ a5 a6 a7 a8 a9 : Nat, q = some (.inl (1, [(2, 4), (2, 6), (2, 8), (2, 10), (2, 12), (0, a5), (0, a6), (0, a7), (0, a8), (0, a9)])) ∧ a5 ≤ 10 ∧ a6 ≤ 10 ∧ a7 ≤ 6 ∧ a8 ≤ 6 ∧ a9 ≤ 500
def cp4 (q : Option xE) : Prop := ∃ a3 : Nat, q = some (.inl (5, [(0, 6), (0, 4), (2, 5), (0, a3)])) ∧ a3 ≤ 6
def cp6 (q : Option xE) : Prop := ∃ a3 : Nat, q = some (.inl (5, [(0, 4), (0, 2), (2, 7), (0, a3)])) ∧ a3 ≤ 4
def cp8 (q : Option xE) : Prop := ∃ a3 : Nat, q = some (.inl (5, [(0, 6), (0, 2), (2, 9), (0, a3)])) ∧ a3 ≤ 6
def cp10 (q : Option xE) : Prop := ∃ a3 : Nat, q = some (.inl (5, [(0, 4), (0, 3), (2, 11), (0, a3)])) ∧ a3 ≤ 4
def cp12 (q : Option xE) : Prop := ∃ a3 : Nat, q = some (.inl (5, [(0, 20), (0, 2), (2, 13), (0, a3)])) ∧ a3 ≤ 20
def cp14 (q : Option xE) : Prop := ∃ a3 : Nat, q = some (.inl (5, [(0, 40), (0, 5), (2, 15), (0, a3)])) ∧ a3 ≤ 40
def cp16 (q : Option xE) : Prop := ∃ a3 : Nat, q = some (.inl (5, [(0, 12), (0, 5), (2, 17), (0, a3)])) ∧ a3 ≤ 12
def cp18 (q : Option xE) : Prop := ∃ a3 : Nat, q = some (.inl (5, [(0, 4), (0, 3), (2, 19), (0, a3)])) ∧ a3 ≤ 4
def cp20 (q : Option xE) : Prop := ∃ a3 : Nat, q = some (.inl (5, [(0, 12), (0, 4), (2, 21), (0, a3)])) ∧ a3 ≤ 12
def cp22 (q : Option xE) : Prop := ∃ a3 : Nat, q = some (.inl (5, [(0, 16), (0, 2), (2, 23), (0, a3)])) ∧ a3 ≤ 16
def cp24 (q : Option xE) : Prop := ∃ a3 : Nat, q = some (.inl (5, [(0, 64), (0, 5), (2, 25), (0, a3)])) ∧ a3 ≤ 64
def cp27 (q : Option xE) : Prop := ∃ a6 a7 a8 a9 a10 : Nat, q = some (.inl (2, [(2, 1), (2, 42), (2, 28), (2, 39), (2, 40), (2, 41), (0, a6), (0, a7), (0, a8), (0, a9), (0, a10)])) ∧ a6 ≤ 1 ∧ a7 ≤ 1 ∧ a8 ≤ 1 ∧ a9 ≤ 4294967295 ∧ a10 ≤ 4294967295
def cp28 (q : Option xE) : Prop := ∃ a5 a6 a7 a8 a9 : Nat, q = some (.inl (1, [(2, 29), (2, 31), (2, 33), (2, 35), (2, 37), (0, a5), (0, a6), (0, a7), (0, a8), (0, a9)])) ∧ a5 ≤ 10 ∧ a6 ≤ 10 ∧ a7 ≤ 6 ∧ a8 ≤ 6 ∧ a9 ≤ 500
def cp29 (q : Option xE) : Prop := ∃ a3 : Nat, q = some (.inl (5, [(0, 6), (0, 4), (2, 30), (0, a3)])) ∧ a3 ≤ 6
def cp31 (q : Option xE) : Prop := ∃ a3 : Nat, q = some (.inl (5, [(0, 4), (0, 2), (2, 32), (0, a3)])) ∧ a3 ≤ 4
def cp33 (q : Option xE) : Prop := ∃ a3 : Nat, q = some (.inl (5, [(0, 6), (0, 2), (2, 34), (0, a3)])) ∧ a3 ≤ 6
def cp35 (q : Option xE) : Prop := ∃ a3 : Nat, q = some (.inl (5, [(0, 4), (0, 3), (2, 36), (0, a3)])) ∧ a3 ≤ 4
def cp37 (q : Option xE) : Prop := ∃ a3 : Nat, q = some (.inl (5, [(0, 20), (0, 2), (2, 38), (0, a3)])) ∧ a3 ≤ 20
def cp42 (q : Option xE) : Prop := ∃ a1 a2 a3 a4 a5 : Nat, q = some (.inl (8, [(2, 2), (0, a1), (0, a2), (0, a3), (0, a4), (0, a5)])) ∧ a1 ≤ 500 ∧ a2 ≤ 4294967295 ∧ a3 ≤ 500 ∧ a4 ≤ 500 ∧ a5 ≤ 4294967295 ∧ (a2 = 0 ∨ a3 ≤ 499)
def cp43 (q : Option xE) : Prop := ∃ a4 a5 : Nat, q = some (.inl (6, [(2, 1), (2, 48), (2, 44), (2, 46), (0, a4), (0, a5)])) ∧ a4 ≤ 4294967295 ∧ a5 ≤ 4294967295
def cp44 (q : Option xE) : Prop := ∃ a3 : Nat, q = some (.inl (5, [(0, 16), (0, 2), (2, 45), (0, a3)])) ∧ a3 ≤ 16
def cp46 (q : Option xE) : Prop := ∃ a3 : Nat, q = some (.inl (5, [(0, 64), (0, 5), (2, 47), (0, a3)])) ∧ a3 ≤ 64
def cp48 (q : Option xE) : Prop := ∃ a1 a2 a3 a4 a5 : Nat, q = some (.inl (8, [(2, 2), (0, a1), (0, a2), (0, a3), (0, a4), (0, a5)])) ∧ a1 ≤ 500 ∧ a2 ≤ 4294967295 ∧ a3 ≤ 500 ∧ a4 ≤ 500 ∧ a5 ≤ 4294967295 ∧ (a2 = 0 ∨ a3 ≤ 499)
def cp49 (q : Option xE) : Prop := ∃ a9 a10 : Nat, q = some (.inl (0, [(2, 3), (2, 50), (2, 51), (2, 52), (2, 53), (2, 54), (2, 55), (2, 56), (2, 57), (0, a9), (0, a10)])) ∧ a9 ≤ 4294967295 ∧ a10 ≤ 1
def cp58 (q : Option xE) : Prop := ∃ a10 a11 a12 : Nat, q = some (.inl (10, [(2, 1), (2, 59), (2, 60), (2, 61), (2, 62), (2, 63), (2, 64), (2, 65), (2, 66), (2, 67), (0, a10), (0, a11), (0, a12)])) ∧ a10 ≤ 36 ∧ a11 ≤ 4294967295 ∧ a12 ≤ 1
def cp68 (q : Option xE) : Prop := ∃ a4 a5 : Nat, q = some (.inl (3, [(2, 1), (2, 69), (2, 70), (2, 71), (0, a4), (0, a5)])) ∧ a4 ≤ 1 ∧ a5 ≤ 1
def cp72 (q : Option xE) : Prop := ∃ a3 a4 : Nat, q = some (.inl (7, [(2, 3), (2, 73), (2, 74), (0, a3), (0, a4)])) ∧ a3 ≤ 1 ∧ a4 ≤ 1
def cp74 (q : Option xE) : Prop := ∃ a3 : Nat, q = some (.inl (5, [(0, 100), (0, 3), (2, 75), (0, a3)])) ∧ a3 ≤ 100
def cp76 (q : Option xE) : Prop := ∃ a4 a5 a6 a7 a8 a9 a10 a11 : Nat, q = some (.inl (4, [(2, 20), (2, 77), (2, 78), (2, 79), (0, a4), (0, a5), (0, a6), (0, a7), (0, a8), (0, a9), (0, a10), (0, a11)])) ∧ a4 ≤ 4294967295 ∧ a5 ≤ 4294967295 ∧ a6 ≤ 4294967295 ∧ a7 ≤ 4294967295 ∧ a8 ≤ 4294967295 ∧ a9 ≤ 1 ∧ a10 ≤ 1 ∧ a11 ≤ 1
def cps : List (Option xE → Prop) := [cp0, cp1, cpY 500 0, cp3, cp4, cpI 24 1 4294967295, cp6, cpI 8 2 4294967295, cp8, cpI 12 3 4294967295, cp10, cpI 12 4 4294967295, cp12, cpI 40 5 4294967295, cp14, cpI 200 6 4294967295, cp16, cpI 60 7 4294967295, cp18, cpI 12 8 4294967295, cp20, cpI 48 9 4294967295, cp22, cpI 32 10 4294967295, cp24, cpI 320 11 4294967295, fun _ => True, cp27, cp28, cp29, cpI 24 13 4294967295, cp31, cpI 8 14 4294967295, cp33, cpI 12 15 4294967295, cp35, cpI 12 16 4294967295, cp37, cpI 40 17 4294967295, cpI 3 18 4294967295, cpI 3 19 4294967295, cpI 20 20 4294967295, cp42, cp43, cp44, cpI 32 21 4294967295, cp46, cpI 320 22 4294967295, cp48, cp49, cpI 6 23 4294967295, cpI 6 24 4294967295, cpI 6 25 5, cpJ 6 26, cpJ 6 27, cpJ 6 28, cpJ 4 29, cpI 6 30 4294967295, cp58, cpK 2 0 36 31 1, cpK 2 0 36 32 1, cpI 36 33 4294967295, cpI 36 34 4294967295, cpK 2 0 6 35 1, cpK 2 0 6 36 1, cpK 2 0 6 37 1, cpI 36 38 4294967295, cpI 36 39 35, cp68, cpI 36 40 4294967295, cpI 36 41 4294967295, cpI 36 42 4294967295, cp72, cpI 3025 43 4294967295, cp74, cpI 300 44 4294967295, cp76, cpI 240 45 4294967295, cpI 15 46 4294967295, cpI 15 47 4294967295, cpI 11 48 4294967295, cpK 2 0 16 49 1]
def xInv (w : List (List xE)) : Prop := ∀ k, k < 82 → cps.getD k (fun _ => True) (wget w k)
theorem xoI {P : Prop} {w : List (List xE)} {k L t B : Nat} (h : cpI L t B (wget w k)) (K : ∀ f : Nat → Nat, xRow w k L t f → (∀ j, f j ≤ B) → P) : P := by
  obtain ⟨f, a, b⟩ := h
  exact K f a b
theorem xmC1 {q : Option xE} (a1 a2 a3 a6 a7 a9 : Nat) (e : q = some (.inl (9, [(2, 2), (0, a1), (0, a2), (0, a3), (2, 3), (2, 14), (0, a6), (0, a7), (2, 16), (0, a9), (2, 18), (2, 20), (2, 22), (2, 24)]))) (z0 : a1 ≤ 500) (z1 : a2 ≤ 4294967295) (z2 : a3 ≤ 4294967295) (z3 : a6 ≤ 4294967295) (z4 : a7 ≤ 4294967295) (z5 : a9 ≤ 200) : cp1 q := ⟨a1, a2, a3, a6, a7, a9, e, z0, z1, z2, z3, z4, z5⟩
theorem xmC27 {q : Option xE} (a6 a7 a8 a9 a10 : Nat) (e : q = some (.inl (2, [(2, 1), (2, 42), (2, 28), (2, 39), (2, 40), (2, 41), (0, a6), (0, a7), (0, a8), (0, a9), (0, a10)]))) (z0 : a6 ≤ 1) (z1 : a7 ≤ 1) (z2 : a8 ≤ 1) (z3 : a9 ≤ 4294967295) (z4 : a10 ≤ 4294967295) : cp27 q := ⟨a6, a7, a8, a9, a10, e, z0, z1, z2, z3, z4⟩
theorem xmC28 {q : Option xE} (a5 a6 a7 a8 a9 : Nat) (e : q = some (.inl (1, [(2, 29), (2, 31), (2, 33), (2, 35), (2, 37), (0, a5), (0, a6), (0, a7), (0, a8), (0, a9)]))) (z0 : a5 ≤ 10) (z1 : a6 ≤ 10) (z2 : a7 ≤ 6) (z3 : a8 ≤ 6) (z4 : a9 ≤ 500) : cp28 q := ⟨a5, a6, a7, a8, a9, e, z0, z1, z2, z3, z4⟩
theorem xmC3 {q : Option xE} (a5 a6 a7 a8 a9 : Nat) (e : q = some (.inl (1, [(2, 4), (2, 6), (2, 8), (2, 10), (2, 12), (0, a5), (0, a6), (0, a7), (0, a8), (0, a9)]))) (z0 : a5 ≤ 10) (z1 : a6 ≤ 10) (z2 : a7 ≤ 6) (z3 : a8 ≤ 6) (z4 : a9 ≤ 500) : cp3 q := ⟨a5, a6, a7, a8, a9, e, z0, z1, z2, z3, z4⟩
theorem xmC42 {q : Option xE} (a1 a2 a3 a4 a5 : Nat) (e : q = some (.inl (8, [(2, 2), (0, a1), (0, a2), (0, a3), (0, a4), (0, a5)]))) (z0 : a1 ≤ 500) (z1 : a2 ≤ 4294967295) (z2 : a3 ≤ 500) (z3 : a4 ≤ 500) (z4 : a5 ≤ 4294967295) (z5 : a2 = 0 ∨ a3 ≤ 499) : cp42 q := ⟨a1, a2, a3, a4, a5, e, z0, z1, z2, z3, z4, z5⟩
theorem xmC48 {q : Option xE} (a1 a2 a3 a4 a5 : Nat) (e : q = some (.inl (8, [(2, 2), (0, a1), (0, a2), (0, a3), (0, a4), (0, a5)]))) (z0 : a1 ≤ 500) (z1 : a2 ≤ 4294967295) (z2 : a3 ≤ 500) (z3 : a4 ≤ 500) (z4 : a5 ≤ 4294967295) (z5 : a2 = 0 ∨ a3 ≤ 499) : cp48 q := ⟨a1, a2, a3, a4, a5, e, z0, z1, z2, z3, z4, z5⟩
theorem xmC58 {q : Option xE} (a10 a11 a12 : Nat) (e : q = some (.inl (10, [(2, 1), (2, 59), (2, 60), (2, 61), (2, 62), (2, 63), (2, 64), (2, 65), (2, 66), (2, 67), (0, a10), (0, a11), (0, a12)]))) (z0 : a10 ≤ 36) (z1 : a11 ≤ 4294967295) (z2 : a12 ≤ 1) : cp58 q := ⟨a10, a11, a12, e, z0, z1, z2⟩
theorem xmC76 {q : Option xE} (a4 a5 a6 a7 a8 a9 a10 a11 : Nat) (e : q = some (.inl (4, [(2, 20), (2, 77), (2, 78), (2, 79), (0, a4), (0, a5), (0, a6), (0, a7), (0, a8), (0, a9), (0, a10), (0, a11)]))) (z0 : a4 ≤ 4294967295) (z1 : a5 ≤ 4294967295) (z2 : a6 ≤ 4294967295) (z3 : a7 ≤ 4294967295) (z4 : a8 ≤ 4294967295) (z5 : a9 ≤ 1) (z6 : a10 ≤ 1) (z7 : a11 ≤ 1) : cp76 q := ⟨a4, a5, a6, a7, a8, a9, a10, a11, e, z0, z1, z2, z3, z4, z5, z6, z7⟩
theorem xoC1 {P : Prop} {q : Option xE} (h : cp1 q) (k : ∀ a1 a2 a3 a6 a7 a9 : Nat, q = some (.inl (9, [(2, 2), (0, a1), (0, a2), (0, a3), (2, 3), (2, 14), (0, a6), (0, a7), (2, 16), (0, a9), (2, 18), (2, 20), (2, 22), (2, 24)])) → (a1 ≤ 500) → (a2 ≤ 4294967295) → (a3 ≤ 4294967295) → (a6 ≤ 4294967295) → (a7 ≤ 4294967295) → (a9 ≤ 200) → P) : P := by
  obtain ⟨a1, a2, a3, a6, a7, a9, e, z0, z1, z2, z3, z4, z5⟩ := h
  exact k a1 a2 a3 a6 a7 a9 e z0 z1 z2 z3 z4 z5
theorem xoC27 {P : Prop} {q : Option xE} (h : cp27 q) (k : ∀ a6 a7 a8 a9 a10 : Nat, q = some (.inl (2, [(2, 1), (2, 42), (2, 28), (2, 39), (2, 40), (2, 41), (0, a6), (0, a7), (0, a8), (0, a9), (0, a10)])) → (a6 ≤ 1) → (a7 ≤ 1) → (a8 ≤ 1) → (a9 ≤ 4294967295) → (a10 ≤ 4294967295) → P) : P := by
  obtain ⟨a6, a7, a8, a9, a10, e, z0, z1, z2, z3, z4⟩ := h
  exact k a6 a7 a8 a9 a10 e z0 z1 z2 z3 z4
theorem xoC28 {P : Prop} {q : Option xE} (h : cp28 q) (k : ∀ a5 a6 a7 a8 a9 : Nat, q = some (.inl (1, [(2, 29), (2, 31), (2, 33), (2, 35), (2, 37), (0, a5), (0, a6), (0, a7), (0, a8), (0, a9)])) → (a5 ≤ 10) → (a6 ≤ 10) → (a7 ≤ 6) → (a8 ≤ 6) → (a9 ≤ 500) → P) : P := by
  obtain ⟨a5, a6, a7, a8, a9, e, z0, z1, z2, z3, z4⟩ := h
  exact k a5 a6 a7 a8 a9 e z0 z1 z2 z3 z4
theorem xoC3 {P : Prop} {q : Option xE} (h : cp3 q) (k : ∀ a5 a6 a7 a8 a9 : Nat, q = some (.inl (1, [(2, 4), (2, 6), (2, 8), (2, 10), (2, 12), (0, a5), (0, a6), (0, a7), (0, a8), (0, a9)])) → (a5 ≤ 10) → (a6 ≤ 10) → (a7 ≤ 6) → (a8 ≤ 6) → (a9 ≤ 500) → P) : P := by
  obtain ⟨a5, a6, a7, a8, a9, e, z0, z1, z2, z3, z4⟩ := h
  exact k a5 a6 a7 a8 a9 e z0 z1 z2 z3 z4
theorem xoC42 {P : Prop} {q : Option xE} (h : cp42 q) (k : ∀ a1 a2 a3 a4 a5 : Nat, q = some (.inl (8, [(2, 2), (0, a1), (0, a2), (0, a3), (0, a4), (0, a5)])) → (a1 ≤ 500) → (a2 ≤ 4294967295) → (a3 ≤ 500) → (a4 ≤ 500) → (a5 ≤ 4294967295) → (a2 = 0 ∨ a3 ≤ 499) → P) : P := by
  obtain ⟨a1, a2, a3, a4, a5, e, z0, z1, z2, z3, z4, z5⟩ := h
  exact k a1 a2 a3 a4 a5 e z0 z1 z2 z3 z4 z5
theorem xoC43 {P : Prop} {q : Option xE} (h : cp43 q) (k : ∀ a4 a5 : Nat, q = some (.inl (6, [(2, 1), (2, 48), (2, 44), (2, 46), (0, a4), (0, a5)])) → (a4 ≤ 4294967295) → (a5 ≤ 4294967295) → P) : P := by
  obtain ⟨a4, a5, e, z0, z1⟩ := h
  exact k a4 a5 e z0 z1
theorem xoC48 {P : Prop} {q : Option xE} (h : cp48 q) (k : ∀ a1 a2 a3 a4 a5 : Nat, q = some (.inl (8, [(2, 2), (0, a1), (0, a2), (0, a3), (0, a4), (0, a5)])) → (a1 ≤ 500) → (a2 ≤ 4294967295) → (a3 ≤ 500) → (a4 ≤ 500) → (a5 ≤ 4294967295) → (a2 = 0 ∨ a3 ≤ 499) → P) : P := by
  obtain ⟨a1, a2, a3, a4, a5, e, z0, z1, z2, z3, z4, z5⟩ := h
  exact k a1 a2 a3 a4 a5 e z0 z1 z2 z3 z4 z5
theorem xoC49 {P : Prop} {q : Option xE} (h : cp49 q) (k : ∀ a9 a10 : Nat, q = some (.inl (0, [(2, 3), (2, 50), (2, 51), (2, 52), (2, 53), (2, 54), (2, 55), (2, 56), (2, 57), (0, a9), (0, a10)])) → (a9 ≤ 4294967295) → (a10 ≤ 1) → P) : P := by
  obtain ⟨a9, a10, e, z0, z1⟩ := h
  exact k a9 a10 e z0 z1
theorem xoC58 {P : Prop} {q : Option xE} (h : cp58 q) (k : ∀ a10 a11 a12 : Nat, q = some (.inl (10, [(2, 1), (2, 59), (2, 60), (2, 61), (2, 62), (2, 63), (2, 64), (2, 65), (2, 66), (2, 67), (0, a10), (0, a11), (0, a12)])) → (a10 ≤ 36) → (a11 ≤ 4294967295) → (a12 ≤ 1) → P) : P := by
  obtain ⟨a10, a11, a12, e, z0, z1, z2⟩ := h
  exact k a10 a11 a12 e z0 z1 z2
theorem xoC68 {P : Prop} {q : Option xE} (h : cp68 q) (k : ∀ a4 a5 : Nat, q = some (.inl (3, [(2, 1), (2, 69), (2, 70), (2, 71), (0, a4), (0, a5)])) → (a4 ≤ 1) → (a5 ≤ 1) → P) : P := by
  obtain ⟨a4, a5, e, z0, z1⟩ := h
  exact k a4 a5 e z0 z1
theorem xoC72 {P : Prop} {q : Option xE} (h : cp72 q) (k : ∀ a3 a4 : Nat, q = some (.inl (7, [(2, 3), (2, 73), (2, 74), (0, a3), (0, a4)])) → (a3 ≤ 1) → (a4 ≤ 1) → P) : P := by
  obtain ⟨a3, a4, e, z0, z1⟩ := h
  exact k a3 a4 e z0 z1
theorem xoC76 {P : Prop} {q : Option xE} (h : cp76 q) (k : ∀ a4 a5 a6 a7 a8 a9 a10 a11 : Nat, q = some (.inl (4, [(2, 20), (2, 77), (2, 78), (2, 79), (0, a4), (0, a5), (0, a6), (0, a7), (0, a8), (0, a9), (0, a10), (0, a11)])) → (a4 ≤ 4294967295) → (a5 ≤ 4294967295) → (a6 ≤ 4294967295) → (a7 ≤ 4294967295) → (a8 ≤ 4294967295) → (a9 ≤ 1) → (a10 ≤ 1) → (a11 ≤ 1) → P) : P := by
  obtain ⟨a4, a5, a6, a7, a8, a9, a10, a11, e, z0, z1, z2, z3, z4, z5, z6, z7⟩ := h
  exact k a4 a5 a6 a7 a8 a9 a10 a11 e z0 z1 z2 z3 z4 z5 z6 z7
theorem xqc0 {w : List (List xE)} (h : xInv w) : cp0 (wget w 0) := h 0 (by decide)
theorem xqu0 {q : Option xE} (h : cp0 q) : cps.getD 0 (fun _ => True) q := h
theorem xqc1 {w : List (List xE)} (h : xInv w) : cp1 (wget w 1) := h 1 (by decide)
theorem xqu1 {q : Option xE} (h : cp1 q) : cps.getD 1 (fun _ => True) q := h
theorem xqc2 {w : List (List xE)} (h : xInv w) : cpY 500 0 (wget w 2) := h 2 (by decide)
theorem xqu2 {q : Option xE} (h : cpY 500 0 q) : cps.getD 2 (fun _ => True) q := h
theorem xqc3 {w : List (List xE)} (h : xInv w) : cp3 (wget w 3) := h 3 (by decide)
theorem xqu3 {q : Option xE} (h : cp3 q) : cps.getD 3 (fun _ => True) q := h
theorem xqc4 {w : List (List xE)} (h : xInv w) : cp4 (wget w 4) := h 4 (by decide)
theorem xqu4 {q : Option xE} (h : cp4 q) : cps.getD 4 (fun _ => True) q := h
theorem xqc5 {w : List (List xE)} (h : xInv w) : cpI 24 1 4294967295 (wget w 5) := h 5 (by decide)
theorem xqu5 {q : Option xE} (h : cpI 24 1 4294967295 q) : cps.getD 5 (fun _ => True) q := h
theorem xqc6 {w : List (List xE)} (h : xInv w) : cp6 (wget w 6) := h 6 (by decide)
theorem xqu6 {q : Option xE} (h : cp6 q) : cps.getD 6 (fun _ => True) q := h
theorem xqc7 {w : List (List xE)} (h : xInv w) : cpI 8 2 4294967295 (wget w 7) := h 7 (by decide)
theorem xqu7 {q : Option xE} (h : cpI 8 2 4294967295 q) : cps.getD 7 (fun _ => True) q := h
theorem xqc8 {w : List (List xE)} (h : xInv w) : cp8 (wget w 8) := h 8 (by decide)
theorem xqu8 {q : Option xE} (h : cp8 q) : cps.getD 8 (fun _ => True) q := h
theorem xqc9 {w : List (List xE)} (h : xInv w) : cpI 12 3 4294967295 (wget w 9) := h 9 (by decide)
theorem xqu9 {q : Option xE} (h : cpI 12 3 4294967295 q) : cps.getD 9 (fun _ => True) q := h
theorem xqc10 {w : List (List xE)} (h : xInv w) : cp10 (wget w 10) := h 10 (by decide)
theorem xqu10 {q : Option xE} (h : cp10 q) : cps.getD 10 (fun _ => True) q := h
theorem xqc11 {w : List (List xE)} (h : xInv w) : cpI 12 4 4294967295 (wget w 11) := h 11 (by decide)
theorem xqu11 {q : Option xE} (h : cpI 12 4 4294967295 q) : cps.getD 11 (fun _ => True) q := h
theorem xqc12 {w : List (List xE)} (h : xInv w) : cp12 (wget w 12) := h 12 (by decide)
theorem xqu12 {q : Option xE} (h : cp12 q) : cps.getD 12 (fun _ => True) q := h
theorem xqc13 {w : List (List xE)} (h : xInv w) : cpI 40 5 4294967295 (wget w 13) := h 13 (by decide)
theorem xqu13 {q : Option xE} (h : cpI 40 5 4294967295 q) : cps.getD 13 (fun _ => True) q := h
theorem xqc14 {w : List (List xE)} (h : xInv w) : cp14 (wget w 14) := h 14 (by decide)
theorem xqu14 {q : Option xE} (h : cp14 q) : cps.getD 14 (fun _ => True) q := h
theorem xqc15 {w : List (List xE)} (h : xInv w) : cpI 200 6 4294967295 (wget w 15) := h 15 (by decide)
theorem xqu15 {q : Option xE} (h : cpI 200 6 4294967295 q) : cps.getD 15 (fun _ => True) q := h
theorem xqc16 {w : List (List xE)} (h : xInv w) : cp16 (wget w 16) := h 16 (by decide)
theorem xqu16 {q : Option xE} (h : cp16 q) : cps.getD 16 (fun _ => True) q := h
theorem xqc17 {w : List (List xE)} (h : xInv w) : cpI 60 7 4294967295 (wget w 17) := h 17 (by decide)
theorem xqu17 {q : Option xE} (h : cpI 60 7 4294967295 q) : cps.getD 17 (fun _ => True) q := h
theorem xqc18 {w : List (List xE)} (h : xInv w) : cp18 (wget w 18) := h 18 (by decide)
theorem xqu18 {q : Option xE} (h : cp18 q) : cps.getD 18 (fun _ => True) q := h
theorem xqc19 {w : List (List xE)} (h : xInv w) : cpI 12 8 4294967295 (wget w 19) := h 19 (by decide)
theorem xqu19 {q : Option xE} (h : cpI 12 8 4294967295 q) : cps.getD 19 (fun _ => True) q := h
theorem xqc20 {w : List (List xE)} (h : xInv w) : cp20 (wget w 20) := h 20 (by decide)
theorem xqu20 {q : Option xE} (h : cp20 q) : cps.getD 20 (fun _ => True) q := h
theorem xqc21 {w : List (List xE)} (h : xInv w) : cpI 48 9 4294967295 (wget w 21) := h 21 (by decide)
theorem xqu21 {q : Option xE} (h : cpI 48 9 4294967295 q) : cps.getD 21 (fun _ => True) q := h
theorem xqc22 {w : List (List xE)} (h : xInv w) : cp22 (wget w 22) := h 22 (by decide)
theorem xqu22 {q : Option xE} (h : cp22 q) : cps.getD 22 (fun _ => True) q := h
theorem xqc23 {w : List (List xE)} (h : xInv w) : cpI 32 10 4294967295 (wget w 23) := h 23 (by decide)
theorem xqu23 {q : Option xE} (h : cpI 32 10 4294967295 q) : cps.getD 23 (fun _ => True) q := h
theorem xqc24 {w : List (List xE)} (h : xInv w) : cp24 (wget w 24) := h 24 (by decide)
theorem xqu24 {q : Option xE} (h : cp24 q) : cps.getD 24 (fun _ => True) q := h
theorem xqc25 {w : List (List xE)} (h : xInv w) : cpI 320 11 4294967295 (wget w 25) := h 25 (by decide)
theorem xqu25 {q : Option xE} (h : cpI 320 11 4294967295 q) : cps.getD 25 (fun _ => True) q := h
theorem xqc27 {w : List (List xE)} (h : xInv w) : cp27 (wget w 27) := h 27 (by decide)
theorem xqu27 {q : Option xE} (h : cp27 q) : cps.getD 27 (fun _ => True) q := h
theorem xqc28 {w : List (List xE)} (h : xInv w) : cp28 (wget w 28) := h 28 (by decide)
theorem xqu28 {q : Option xE} (h : cp28 q) : cps.getD 28 (fun _ => True) q := h
theorem xqc29 {w : List (List xE)} (h : xInv w) : cp29 (wget w 29) := h 29 (by decide)
theorem xqu29 {q : Option xE} (h : cp29 q) : cps.getD 29 (fun _ => True) q := h
theorem xqc30 {w : List (List xE)} (h : xInv w) : cpI 24 13 4294967295 (wget w 30) := h 30 (by decide)
theorem xqu30 {q : Option xE} (h : cpI 24 13 4294967295 q) : cps.getD 30 (fun _ => True) q := h
theorem xqc31 {w : List (List xE)} (h : xInv w) : cp31 (wget w 31) := h 31 (by decide)
theorem xqu31 {q : Option xE} (h : cp31 q) : cps.getD 31 (fun _ => True) q := h
theorem xqc32 {w : List (List xE)} (h : xInv w) : cpI 8 14 4294967295 (wget w 32) := h 32 (by decide)
theorem xqu32 {q : Option xE} (h : cpI 8 14 4294967295 q) : cps.getD 32 (fun _ => True) q := h
theorem xqc33 {w : List (List xE)} (h : xInv w) : cp33 (wget w 33) := h 33 (by decide)
theorem xqu33 {q : Option xE} (h : cp33 q) : cps.getD 33 (fun _ => True) q := h
theorem xqc34 {w : List (List xE)} (h : xInv w) : cpI 12 15 4294967295 (wget w 34) := h 34 (by decide)
theorem xqu34 {q : Option xE} (h : cpI 12 15 4294967295 q) : cps.getD 34 (fun _ => True) q := h
theorem xqc35 {w : List (List xE)} (h : xInv w) : cp35 (wget w 35) := h 35 (by decide)
theorem xqu35 {q : Option xE} (h : cp35 q) : cps.getD 35 (fun _ => True) q := h
theorem xqc36 {w : List (List xE)} (h : xInv w) : cpI 12 16 4294967295 (wget w 36) := h 36 (by decide)
theorem xqu36 {q : Option xE} (h : cpI 12 16 4294967295 q) : cps.getD 36 (fun _ => True) q := h
theorem xqc37 {w : List (List xE)} (h : xInv w) : cp37 (wget w 37) := h 37 (by decide)
theorem xqu37 {q : Option xE} (h : cp37 q) : cps.getD 37 (fun _ => True) q := h
theorem xqc38 {w : List (List xE)} (h : xInv w) : cpI 40 17 4294967295 (wget w 38) := h 38 (by decide)
theorem xqu38 {q : Option xE} (h : cpI 40 17 4294967295 q) : cps.getD 38 (fun _ => True) q := h
theorem xqc39 {w : List (List xE)} (h : xInv w) : cpI 3 18 4294967295 (wget w 39) := h 39 (by decide)
theorem xqu39 {q : Option xE} (h : cpI 3 18 4294967295 q) : cps.getD 39 (fun _ => True) q := h
theorem xqc40 {w : List (List xE)} (h : xInv w) : cpI 3 19 4294967295 (wget w 40) := h 40 (by decide)
theorem xqu40 {q : Option xE} (h : cpI 3 19 4294967295 q) : cps.getD 40 (fun _ => True) q := h
theorem xqc41 {w : List (List xE)} (h : xInv w) : cpI 20 20 4294967295 (wget w 41) := h 41 (by decide)
theorem xqu41 {q : Option xE} (h : cpI 20 20 4294967295 q) : cps.getD 41 (fun _ => True) q := h
theorem xqc42 {w : List (List xE)} (h : xInv w) : cp42 (wget w 42) := h 42 (by decide)
theorem xqu42 {q : Option xE} (h : cp42 q) : cps.getD 42 (fun _ => True) q := h
theorem xqc43 {w : List (List xE)} (h : xInv w) : cp43 (wget w 43) := h 43 (by decide)
theorem xqu43 {q : Option xE} (h : cp43 q) : cps.getD 43 (fun _ => True) q := h
theorem xqc44 {w : List (List xE)} (h : xInv w) : cp44 (wget w 44) := h 44 (by decide)
theorem xqu44 {q : Option xE} (h : cp44 q) : cps.getD 44 (fun _ => True) q := h
theorem xqc45 {w : List (List xE)} (h : xInv w) : cpI 32 21 4294967295 (wget w 45) := h 45 (by decide)
theorem xqu45 {q : Option xE} (h : cpI 32 21 4294967295 q) : cps.getD 45 (fun _ => True) q := h
theorem xqc46 {w : List (List xE)} (h : xInv w) : cp46 (wget w 46) := h 46 (by decide)
theorem xqu46 {q : Option xE} (h : cp46 q) : cps.getD 46 (fun _ => True) q := h
theorem xqc47 {w : List (List xE)} (h : xInv w) : cpI 320 22 4294967295 (wget w 47) := h 47 (by decide)
theorem xqu47 {q : Option xE} (h : cpI 320 22 4294967295 q) : cps.getD 47 (fun _ => True) q := h
theorem xqc48 {w : List (List xE)} (h : xInv w) : cp48 (wget w 48) := h 48 (by decide)
theorem xqu48 {q : Option xE} (h : cp48 q) : cps.getD 48 (fun _ => True) q := h
theorem xqc49 {w : List (List xE)} (h : xInv w) : cp49 (wget w 49) := h 49 (by decide)
theorem xqu49 {q : Option xE} (h : cp49 q) : cps.getD 49 (fun _ => True) q := h
theorem xqc50 {w : List (List xE)} (h : xInv w) : cpI 6 23 4294967295 (wget w 50) := h 50 (by decide)
theorem xqu50 {q : Option xE} (h : cpI 6 23 4294967295 q) : cps.getD 50 (fun _ => True) q := h
theorem xqc51 {w : List (List xE)} (h : xInv w) : cpI 6 24 4294967295 (wget w 51) := h 51 (by decide)
theorem xqu51 {q : Option xE} (h : cpI 6 24 4294967295 q) : cps.getD 51 (fun _ => True) q := h
theorem xqc52 {w : List (List xE)} (h : xInv w) : cpI 6 25 5 (wget w 52) := h 52 (by decide)
theorem xqu52 {q : Option xE} (h : cpI 6 25 5 q) : cps.getD 52 (fun _ => True) q := h
theorem xqc53 {w : List (List xE)} (h : xInv w) : cpJ 6 26 (wget w 53) := h 53 (by decide)
theorem xqu53 {q : Option xE} (h : cpJ 6 26 q) : cps.getD 53 (fun _ => True) q := h
theorem xqc54 {w : List (List xE)} (h : xInv w) : cpJ 6 27 (wget w 54) := h 54 (by decide)
theorem xqu54 {q : Option xE} (h : cpJ 6 27 q) : cps.getD 54 (fun _ => True) q := h
theorem xqc55 {w : List (List xE)} (h : xInv w) : cpJ 6 28 (wget w 55) := h 55 (by decide)
theorem xqu55 {q : Option xE} (h : cpJ 6 28 q) : cps.getD 55 (fun _ => True) q := h
theorem xqc56 {w : List (List xE)} (h : xInv w) : cpJ 4 29 (wget w 56) := h 56 (by decide)
theorem xqu56 {q : Option xE} (h : cpJ 4 29 q) : cps.getD 56 (fun _ => True) q := h
theorem xqc57 {w : List (List xE)} (h : xInv w) : cpI 6 30 4294967295 (wget w 57) := h 57 (by decide)
theorem xqu57 {q : Option xE} (h : cpI 6 30 4294967295 q) : cps.getD 57 (fun _ => True) q := h
theorem xqc58 {w : List (List xE)} (h : xInv w) : cp58 (wget w 58) := h 58 (by decide)
theorem xqu58 {q : Option xE} (h : cp58 q) : cps.getD 58 (fun _ => True) q := h
theorem xqc59 {w : List (List xE)} (h : xInv w) : cpK 2 0 36 31 1 (wget w 59) := h 59 (by decide)
theorem xqu59 {q : Option xE} (h : cpK 2 0 36 31 1 q) : cps.getD 59 (fun _ => True) q := h
theorem xqc60 {w : List (List xE)} (h : xInv w) : cpK 2 0 36 32 1 (wget w 60) := h 60 (by decide)
theorem xqu60 {q : Option xE} (h : cpK 2 0 36 32 1 q) : cps.getD 60 (fun _ => True) q := h
theorem xqc61 {w : List (List xE)} (h : xInv w) : cpI 36 33 4294967295 (wget w 61) := h 61 (by decide)
theorem xqu61 {q : Option xE} (h : cpI 36 33 4294967295 q) : cps.getD 61 (fun _ => True) q := h
theorem xqc62 {w : List (List xE)} (h : xInv w) : cpI 36 34 4294967295 (wget w 62) := h 62 (by decide)
theorem xqu62 {q : Option xE} (h : cpI 36 34 4294967295 q) : cps.getD 62 (fun _ => True) q := h
theorem xqc63 {w : List (List xE)} (h : xInv w) : cpK 2 0 6 35 1 (wget w 63) := h 63 (by decide)
theorem xqu63 {q : Option xE} (h : cpK 2 0 6 35 1 q) : cps.getD 63 (fun _ => True) q := h
theorem xqc64 {w : List (List xE)} (h : xInv w) : cpK 2 0 6 36 1 (wget w 64) := h 64 (by decide)
theorem xqu64 {q : Option xE} (h : cpK 2 0 6 36 1 q) : cps.getD 64 (fun _ => True) q := h
theorem xqc65 {w : List (List xE)} (h : xInv w) : cpK 2 0 6 37 1 (wget w 65) := h 65 (by decide)
theorem xqu65 {q : Option xE} (h : cpK 2 0 6 37 1 q) : cps.getD 65 (fun _ => True) q := h
theorem xqc66 {w : List (List xE)} (h : xInv w) : cpI 36 38 4294967295 (wget w 66) := h 66 (by decide)
theorem xqu66 {q : Option xE} (h : cpI 36 38 4294967295 q) : cps.getD 66 (fun _ => True) q := h
theorem xqc67 {w : List (List xE)} (h : xInv w) : cpI 36 39 35 (wget w 67) := h 67 (by decide)
theorem xqu67 {q : Option xE} (h : cpI 36 39 35 q) : cps.getD 67 (fun _ => True) q := h
theorem xqc68 {w : List (List xE)} (h : xInv w) : cp68 (wget w 68) := h 68 (by decide)
theorem xqu68 {q : Option xE} (h : cp68 q) : cps.getD 68 (fun _ => True) q := h
theorem xqc69 {w : List (List xE)} (h : xInv w) : cpI 36 40 4294967295 (wget w 69) := h 69 (by decide)
theorem xqu69 {q : Option xE} (h : cpI 36 40 4294967295 q) : cps.getD 69 (fun _ => True) q := h
theorem xqc70 {w : List (List xE)} (h : xInv w) : cpI 36 41 4294967295 (wget w 70) := h 70 (by decide)
theorem xqu70 {q : Option xE} (h : cpI 36 41 4294967295 q) : cps.getD 70 (fun _ => True) q := h
theorem xqc71 {w : List (List xE)} (h : xInv w) : cpI 36 42 4294967295 (wget w 71) := h 71 (by decide)
theorem xqu71 {q : Option xE} (h : cpI 36 42 4294967295 q) : cps.getD 71 (fun _ => True) q := h
theorem xqc72 {w : List (List xE)} (h : xInv w) : cp72 (wget w 72) := h 72 (by decide)
theorem xqu72 {q : Option xE} (h : cp72 q) : cps.getD 72 (fun _ => True) q := h
theorem xqc73 {w : List (List xE)} (h : xInv w) : cpI 3025 43 4294967295 (wget w 73) := h 73 (by decide)
theorem xqu73 {q : Option xE} (h : cpI 3025 43 4294967295 q) : cps.getD 73 (fun _ => True) q := h
theorem xqc74 {w : List (List xE)} (h : xInv w) : cp74 (wget w 74) := h 74 (by decide)
theorem xqu74 {q : Option xE} (h : cp74 q) : cps.getD 74 (fun _ => True) q := h
theorem xqc75 {w : List (List xE)} (h : xInv w) : cpI 300 44 4294967295 (wget w 75) := h 75 (by decide)
theorem xqu75 {q : Option xE} (h : cpI 300 44 4294967295 q) : cps.getD 75 (fun _ => True) q := h
theorem xqc76 {w : List (List xE)} (h : xInv w) : cp76 (wget w 76) := h 76 (by decide)
theorem xqu76 {q : Option xE} (h : cp76 q) : cps.getD 76 (fun _ => True) q := h
theorem xqc77 {w : List (List xE)} (h : xInv w) : cpI 240 45 4294967295 (wget w 77) := h 77 (by decide)
theorem xqu77 {q : Option xE} (h : cpI 240 45 4294967295 q) : cps.getD 77 (fun _ => True) q := h
theorem xqc78 {w : List (List xE)} (h : xInv w) : cpI 15 46 4294967295 (wget w 78) := h 78 (by decide)
theorem xqu78 {q : Option xE} (h : cpI 15 46 4294967295 q) : cps.getD 78 (fun _ => True) q := h
theorem xqc79 {w : List (List xE)} (h : xInv w) : cpI 15 47 4294967295 (wget w 79) := h 79 (by decide)
theorem xqu79 {q : Option xE} (h : cpI 15 47 4294967295 q) : cps.getD 79 (fun _ => True) q := h
theorem xqc80 {w : List (List xE)} (h : xInv w) : cpI 11 48 4294967295 (wget w 80) := h 80 (by decide)
theorem xqu80 {q : Option xE} (h : cpI 11 48 4294967295 q) : cps.getD 80 (fun _ => True) q := h
theorem xqc81 {w : List (List xE)} (h : xInv w) : cpK 2 0 16 49 1 (wget w 81) := h 81 (by decide)
theorem xqu81 {q : Option xE} (h : cpK 2 0 16 49 1 q) : cps.getD 81 (fun _ => True) q := h
theorem xInv.up {w w' : List (List xE)} {S : List Nat} (h : xInv w) (hf : xFr S w w') (hs : ∀ k ∈ S, cps.getD k (fun _ => True) (wget w' k)) : xInv w' := by
  intro k hk
  by_cases hc : k ∈ S
  · exact hs k hc
  · rw [hf.1 k hc]
    exact h k hk
end
