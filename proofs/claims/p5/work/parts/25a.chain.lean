/-! chains: one instruction after the other, with numbers that are not known -/
noncomputable def xidk : xK := fun _ _ σ => some [σ]
theorem xidk_ok : xIHok xidk := by
  intro d M σ fs h hM hpos p l e R s m args below meth c D A g cw0 tys0 io0 Q C hQ
  cases h
  exact hQ σ List.mem_cons_self hpos
def xLd (d : Nat) (M : xM) (σ : xS) (fs : List xS) : Prop := xMb M → xpos M σ → ∀ (p : Program) (l : Launch) (e : Env) (R : Room) (s : State) (m : MethodId) (args : Array Value) (below : List Frame) (meth : Method) (c : Code) (D : va_G) (A : Nat → Prop) (g : xG) (cw0 : xWc) (tys0 : xTy) (io0 : List Nat) (Q : State → Prop), xCx p R s m args meth c A g io0 d M → (∀ φ ∈ fs, xpos M φ → xOk p l e R s m args below meth c D A M.2.2.1 g cw0 tys0 io0 Q φ) → xOk p l e R s m args below meth c D A M.2.2.1 g cw0 tys0 io0 Q σ
section XCH
variable {d d0 p0 pc ln op x y ix u v z k c n t L : Nat} {M M' : xM} {σ τ : xS} {fs : List xS} {tl b : List xI} {lo l1 : xLo} {st rest vs : List xV} {hp : xH} {va vb vc : xV} {w w' : List (List xE)} {bd : List (Nat × Nat)} {fc : List (Nat × Nat × Bool)} {cn sl : Nat} {rr : Nat × Nat} {fl : List xV} {us : List (Nat × xV)} {r : List xV}
theorem xLd.rf : xLd d M σ [σ] := fun _ hpos _ _ _ _ _ _ _ _ _ _ _ _ _ _ _ _ _ _ hQ => hQ σ List.mem_cons_self hpos
theorem xthen (h1 : xLd d M σ [τ]) (h2 : xLd d M τ fs) : xLd d M σ fs := fun hM hpos p l e R s m args below meth c D A g cw0 tys0 io0 Q C hQ => h1 hM hpos p l e R s m args below meth c D A g cw0 tys0 io0 Q C (fun φ hφ hp => by
  have e1 := List.mem_singleton.mp hφ
  subst e1
  exact h2 hM hp p l e R s m args below meth c D A g cw0 tys0 io0 Q C hQ)
theorem xLd.step (h : xstep xidk d M σ = some fs) : xLd d M σ fs := fun hM hpos => xstep_ok xmall xidk_ok d M σ fs h hM hpos
theorem xg_blk (h : xfind M.2.2.2.2.2.2.2.2 pc = some b) : xLd d M (pc, [], lo, st, hp) [(pc, b, lo, st, hp)] := by
  refine xLd.step ?_
  show xseek xidk d M (pc, [], lo, st, hp) (xfind M.2.2.2.2.2.2.2.2 pc) = _
  rw [h]
  rfl
theorem xg_op {f : xF} (ho : xget xoph op = some f) (h : f xidk d M (pc, ln, op, x, y, ix) tl lo st hp = some fs) : xLd d M (p0, (pc, ln, op, x, y, ix) :: tl, lo, st, hp) fs := by
  refine xLd.step ?_
  show xob (xget xoph op) (fun f => f xidk d M (pc, ln, op, x, y, ix) tl lo st hp) = _
  rw [ho]
  exact h
theorem xg_aload (h : xfind lo x = some va) (hi : xisr va = true) : xLd d M (p0, (pc, ln, 0, x, y, ix) :: tl, lo, st, hp) [(pc + ln, tl, lo, va :: st, hp)] := by
  refine xg_op (f := xh_aload) rfl ?_
  show xob (xfind lo x) (fun v => xif (xisr v) (xidk d M (pc + ln, tl, lo, v :: st, hp))) = _
  rw [h]
  show xif (xisr va) _ = _
  rw [hi]
  rfl
theorem xg_iload (h : xfind lo x = some va) (hi : xisi va = true) : xLd d M (p0, (pc, ln, 2, x, y, ix) :: tl, lo, st, hp) [(pc + ln, tl, lo, va :: st, hp)] := by
  refine xg_op (f := xh_iload) rfl ?_
  show xob (xfind lo x) (fun v => xif (xisi v) (xidk d M (pc + ln, tl, lo, v :: st, hp))) = _
  rw [h]
  show xif (xisi va) _ = _
  rw [hi]
  rfl
theorem xg_const : xLd d M (p0, (pc, ln, 3, x, y, ix) :: tl, lo, st, hp) [(pc + ln, tl, lo, (0, x) :: st, hp)] := xg_op (f := xh_const) rfl rfl
theorem xg_bip : xLd d M (p0, (pc, ln, 4, x, y, ix) :: tl, lo, st, hp) [(pc + ln, tl, lo, (0, x) :: st, hp)] := xg_op (f := xh_const) rfl rfl
theorem xg_sip : xLd d M (p0, (pc, ln, 5, x, y, ix) :: tl, lo, st, hp) [(pc + ln, tl, lo, (0, x) :: st, hp)] := xg_op (f := xh_const) rfl rfl
theorem xg_goto : xLd d M (p0, (pc, ln, 8, x, y, ix) :: tl, lo, st, hp) [(x, [], lo, st, hp)] := xg_op (f := xh_goto) rfl rfl
theorem xg_dup (h : (xisi va || xisr va) = true) : xLd d M (p0, (pc, ln, 19, x, y, ix) :: tl, lo, va :: st, hp) [(pc + ln, tl, lo, va :: va :: st, hp)] := by
  refine xg_op (f := xh_dup) rfl ?_
  show xif (xisi va || xisr va) (xidk d M (pc + ln, tl, lo, va :: va :: st, hp)) = _
  rw [h]
  rfl
theorem xg_dup2 (h : ((xisi va || xisr va) && (xisi vb || xisr vb)) = true) : xLd d M (p0, (pc, ln, 39, x, y, ix) :: tl, lo, va :: vb :: st, hp) [(pc + ln, tl, lo, va :: vb :: va :: vb :: st, hp)] := by
  refine xg_op (f := xh_dup2) rfl ?_
  show xif ((xisi va || xisr va) && (xisi vb || xisr vb)) (xidk d M (pc + ln, tl, lo, va :: vb :: va :: vb :: st, hp)) = _
  rw [h]
  rfl
theorem xg_istore (hi : xisi va = true) (hm : Nat.blt x M.2.2.1 = true) (hl : lo.filter (xkp x) = l1) : xLd d M (p0, (pc, ln, 15, x, y, ix) :: tl, lo, va :: st, hp) [(pc + ln, tl, (x, va) :: l1, st, hp)] := by
  refine xg_op (f := xh_istore) rfl ?_
  show xif (xisi va) (xif (Nat.blt x M.2.2.1) (xflt (xkp x) lo fun l => xidk d M (pc + ln, tl, (x, va) :: l, st, hp))) = _
  rw [hi, hm, xflt_eq, hl]
  rfl
theorem xg_iinc (h : xfind lo x = some (0, u)) (hm : Nat.blt x M.2.2.1 = true) (hz : (u + y) % 4294967296 = z) (hl : lo.filter (xkp x) = l1) : xLd d M (p0, (pc, ln, 9, x, y, ix) :: tl, lo, st, hp) [(pc + ln, tl, (x, (0, z)) :: l1, st, hp)] := by
  refine xg_op (f := xh_iinc) rfl ?_
  show xob (xfind lo x) (fun v => xif (Nat.beq v.1 0) (xif (Nat.blt x M.2.2.1) (xN ((v.2 + y) % 4294967296) fun z => xflt (xkp x) lo fun l => xidk d M (pc + ln, tl, (x, (0, z)) :: l, st, hp)))) = _
  rw [h]
  show xif (Nat.blt x M.2.2.1) (xN ((u + y) % 4294967296) fun z => xflt (xkp x) lo fun l => xidk d M (pc + ln, tl, (x, (0, z)) :: l, st, hp)) = _
  rw [hm, xN_eq, hz, xflt_eq, hl]
  rfl
theorem xg_bin {F : Nat → Nat → Nat} {chk : Nat → Nat → Bool} {al : Bool} {bo : xV → Nat × Nat} (ho : xget xoph op = some (xbin F chk al bo)) (ha : xnm hp.2.1 va = (0, u)) (hb : xnm hp.2.1 vb = (0, v)) (hk : chk u v = true) (hz : F u v = z) : xLd d M (p0, (pc, ln, op, x, y, ix) :: tl, lo, vb :: va :: st, hp) [(pc + ln, tl, lo, (0, z) :: st, hp)] := by
  refine xg_op ho ?_
  show xbin2 F chk al bo xidk d M (pc, ln, op, x, y, ix) tl lo st hp (xnm hp.2.1 va) (xnm hp.2.1 vb) = _
  rw [ha, hb]
  show xif (chk u v) (xN (F u v) fun z => xidk d M (pc + ln, tl, lo, (0, z) :: st, hp)) = _
  rw [hk, xN_eq, hz]
  rfl
theorem xg_iadd (ha : xnm hp.2.1 va = (0, u)) (hb : xnm hp.2.1 vb = (0, v)) (hz : (u + v) % 4294967296 = z) : xLd d M (p0, (pc, ln, 11, x, y, ix) :: tl, lo, vb :: va :: st, hp) [(pc + ln, tl, lo, (0, z) :: st, hp)] := xg_bin (F := fun a b => (a + b) % 4294967296) (chk := xyes) (al := true) (bo := xany) rfl ha hb rfl hz
theorem xg_isub (ha : xnm hp.2.1 va = (0, u)) (hb : xnm hp.2.1 vb = (0, v)) (hz : (u + (4294967296 - v)) % 4294967296 = z) : xLd d M (p0, (pc, ln, 18, x, y, ix) :: tl, lo, vb :: va :: st, hp) [(pc + ln, tl, lo, (0, z) :: st, hp)] := xg_bin (F := fun a b => (a + (4294967296 - b)) % 4294967296) (chk := xyes) (al := true) (bo := xany) rfl ha hb rfl hz
theorem xg_imul (ha : xnm hp.2.1 va = (0, u)) (hb : xnm hp.2.1 vb = (0, v)) (hz : (u * v) % 4294967296 = z) : xLd d M (p0, (pc, ln, 16, x, y, ix) :: tl, lo, vb :: va :: st, hp) [(pc + ln, tl, lo, (0, z) :: st, hp)] := xg_bin (F := fun a b => (a * b) % 4294967296) (chk := xyes) (al := true) (bo := xany) rfl ha hb rfl hz
theorem xchk_ok (hu : u < 2147483648) (h0 : 0 < v) (hv : v < 2147483648) : (Nat.blt u 2147483648 && (Nat.blt 0 v && Nat.blt v 2147483648)) = true := by
  rw [show Nat.blt u 2147483648 = true from Nat.ble_eq_true_of_le hu, show Nat.blt 0 v = true from Nat.ble_eq_true_of_le h0, show Nat.blt v 2147483648 = true from Nat.ble_eq_true_of_le hv]
  rfl
theorem xg_idiv (ha : xnm hp.2.1 va = (0, u)) (hb : xnm hp.2.1 vb = (0, v)) (hu : u < 2147483648) (h0 : 0 < v) (hv : v < 2147483648) (hz : u / v = z) : xLd d M (p0, (pc, ln, 20, x, y, ix) :: tl, lo, vb :: va :: st, hp) [(pc + ln, tl, lo, (0, z) :: st, hp)] := xg_bin (F := fun a b => a / b) (chk := fun a b => Nat.blt a 2147483648 && (Nat.blt 0 b && Nat.blt b 2147483648)) (al := false) (bo := xany) rfl ha hb (xchk_ok hu h0 hv) hz
theorem xg_irem (ha : xnm hp.2.1 va = (0, u)) (hb : xnm hp.2.1 vb = (0, v)) (hu : u < 2147483648) (h0 : 0 < v) (hv : v < 2147483648) (hz : u % v = z) : xLd d M (p0, (pc, ln, 21, x, y, ix) :: tl, lo, vb :: va :: st, hp) [(pc + ln, tl, lo, (0, z) :: st, hp)] := xg_bin (F := fun a b => a % b) (chk := fun a b => Nat.blt a 2147483648 && (Nat.blt 0 b && Nat.blt b 2147483648)) (al := false) (bo := xany) rfl ha hb (xchk_ok hu h0 hv) hz
theorem xg_ishl (ha : xnm hp.2.1 va = (0, u)) (hb : xnm hp.2.1 vb = (0, v)) (hv : v < 32) (hz : (u * 2 ^ v) % 4294967296 = z) : xLd d M (p0, (pc, ln, 26, x, y, ix) :: tl, lo, vb :: va :: st, hp) [(pc + ln, tl, lo, (0, z) :: st, hp)] := xg_bin (F := fun a b => (a * 2 ^ b) % 4294967296) (chk := fun _ b => Nat.blt b 32) (al := false) (bo := xany) rfl ha hb (Nat.ble_eq_true_of_le hv) hz
-- branches
def xcr0 (y : Nat) (e l g : Bool) : Bool := cond (Nat.ble y 1) e (cond (Nat.ble y 3) l g)
def xcq (y u v : Nat) : Bool := xcr0 y (Nat.beq u v) (Nat.blt (xbs u) (xbs v)) (Nat.blt (xbs v) (xbs u))
def xjm1 (y : Nat) (b : Bool) : Bool := cond (Nat.beq (y % 2) 0) b (!b)
def xjmp (y u v : Nat) : Bool := xjm1 y (xcq y u v)
theorem xlt_of {a b : xV} (ha : Nat.beq a.1 0 = true) (hb : Nat.beq b.1 0 = true) : xlt bd fc a b = cond (Nat.blt (xbs a.2) (xbs b.2)) (1, 0, 0) (0, 0, 0) := by
  unfold xlt
  rw [ha, cond_true]
  unfold xlt0
  rw [hb, cond_true]
  unfold xltA
  rfl
theorem xeq_of {a b : xV} (ha : Nat.beq a.1 0 = true) (hb : Nat.beq b.1 0 = true) : xeq bd a b = cond (Nat.beq a.2 b.2) (1, 0, 0) (0, 0, 0) := by
  unfold xeq
  rw [ha, cond_true]
  unfold xeq0
  rw [hb, cond_true]
theorem xask_of {a b : xV} (ha : Nat.beq a.1 0 = true) (hb : Nat.beq b.1 0 = true) : xask bd fc y a b = cond (xcq y a.2 b.2) (1, 0, 0) (0, 0, 0) := by
  unfold xask xcq xcr0
  cases Nat.ble y 1 with
  | true =>
    rw [cond_true, cond_true]
    exact xeq_of ha hb
  | false =>
    rw [cond_false, cond_false]
    cases Nat.ble y 3 with
    | true =>
      rw [cond_true, cond_true]
      exact xlt_of ha hb
    | false =>
      rw [cond_false, cond_false]
      exact xlt_of hb ha
theorem xask00 : xask bd fc y (0, u) (0, v) = cond (xcq y u v) (1, 0, 0) (0, 0, 0) := xask_of (a := (0, u)) (b := (0, v)) rfl rfl
theorem xbr_ok (ha : va = (0, u)) (hb : vb = (0, v)) {s0 : List xV} : xbr xidk d M (pc, ln, op, x, y, ix) tl lo s0 st hp va vb = some [cond (xjmp y u v) (x, [], lo, st, hp) (pc + ln, tl, lo, st, hp)] := by
  subst ha
  subst hb
  unfold xbr
  show xans (xask hp.2.1 hp.2.2.1 y (0, u) (0, v)) hp (fun t => cond (Nat.beq (y % 2) 0) (cond t (xidk d M (x, [], lo, st, hp)) (xidk d M (pc + ln, tl, lo, st, hp))) (cond t (xidk d M (pc + ln, tl, lo, st, hp)) (xidk d M (x, [], lo, st, hp)))) _ = _
  rw [xask00]
  unfold xjmp xjm1
  cases xcq y u v with
  | true =>
    show cond (Nat.beq (y % 2) 0) (xidk d M (x, [], lo, st, hp)) (xidk d M (pc + ln, tl, lo, st, hp)) = _
    cases Nat.beq (y % 2) 0 <;> rfl
  | false =>
    show cond (Nat.beq (y % 2) 0) (xidk d M (pc + ln, tl, lo, st, hp)) (xidk d M (x, [], lo, st, hp)) = _
    cases Nat.beq (y % 2) 0 <;> rfl
theorem xg_ic (ia : (xisi va && xisi vb) = true) (ha : xnm hp.2.1 va = (0, u)) (hb : xnm hp.2.1 vb = (0, v)) : xLd d M (p0, (pc, ln, 6, x, y, ix) :: tl, lo, vb :: va :: st, hp) [cond (xjmp y u v) (x, [], lo, st, hp) (pc + ln, tl, lo, st, hp)] := by
  refine xg_op (f := xh_icmp) rfl ?_
  show xif (xisi va && xisi vb) (xbr xidk d M (pc, ln, 6, x, y, ix) tl lo (vb :: va :: st) st hp (xnm hp.2.1 va) (xnm hp.2.1 vb)) = _
  rw [ia]
  exact xbr_ok ha hb
theorem xg_if (ia : xisi va = true) (ha : xnm hp.2.1 va = (0, u)) : xLd d M (p0, (pc, ln, 7, x, y, ix) :: tl, lo, va :: st, hp) [cond (xjmp y u 0) (x, [], lo, st, hp) (pc + ln, tl, lo, st, hp)] := by
  refine xg_op (f := xh_if) rfl ?_
  show xif (xisi va) (xbr xidk d M (pc, ln, 7, x, y, ix) tl lo (va :: st) st hp (xnm hp.2.1 va) (0, 0)) = _
  rw [ia]
  exact xbr_ok ha rfl
theorem xg_icT (ia : (xisi va && xisi vb) = true) (ha : xnm hp.2.1 va = (0, u)) (hb : xnm hp.2.1 vb = (0, v)) (h : xjmp y u v = true) : xLd d M (p0, (pc, ln, 6, x, y, ix) :: tl, lo, vb :: va :: st, hp) [(x, [], lo, st, hp)] := by
  have k := xg_ic (d := d) (M := M) (p0 := p0) (pc := pc) (ln := ln) (x := x) (y := y) (ix := ix) (tl := tl) (lo := lo) (st := st) (hp := hp) ia ha hb
  rw [h] at k
  exact k
theorem xg_icF (ia : (xisi va && xisi vb) = true) (ha : xnm hp.2.1 va = (0, u)) (hb : xnm hp.2.1 vb = (0, v)) (h : xjmp y u v = false) : xLd d M (p0, (pc, ln, 6, x, y, ix) :: tl, lo, vb :: va :: st, hp) [(pc + ln, tl, lo, st, hp)] := by
  have k := xg_ic (d := d) (M := M) (p0 := p0) (pc := pc) (ln := ln) (x := x) (y := y) (ix := ix) (tl := tl) (lo := lo) (st := st) (hp := hp) ia ha hb
  rw [h] at k
  exact k
theorem xg_ifT (ia : xisi va = true) (ha : xnm hp.2.1 va = (0, u)) (h : xjmp y u 0 = true) : xLd d M (p0, (pc, ln, 7, x, y, ix) :: tl, lo, va :: st, hp) [(x, [], lo, st, hp)] := by
  have k := xg_if (d := d) (M := M) (p0 := p0) (pc := pc) (ln := ln) (x := x) (y := y) (ix := ix) (tl := tl) (lo := lo) (st := st) (hp := hp) ia ha
  rw [h] at k
  exact k
theorem xg_ifF (ia : xisi va = true) (ha : xnm hp.2.1 va = (0, u)) (h : xjmp y u 0 = false) : xLd d M (p0, (pc, ln, 7, x, y, ix) :: tl, lo, va :: st, hp) [(pc + ln, tl, lo, st, hp)] := by
  have k := xg_if (d := d) (M := M) (p0 := p0) (pc := pc) (ln := ln) (x := x) (y := y) (ix := ix) (tl := tl) (lo := lo) (st := st) (hp := hp) ia ha
  rw [h] at k
  exact k
theorem xblt_t (h : u < v) : Nat.blt u v = true := Nat.ble_eq_true_of_le h
theorem xblt_f (h : v ≤ u) : Nat.blt u v = false := by
  cases e : Nat.blt u v with
  | false => rfl
  | true => have := xblt e; omega
theorem xbeq_f (h : u ≠ v) : Nat.beq u v = false := by
  cases e : Nat.beq u v with
  | false => rfl
  | true => exact absurd (xbeq e) h
theorem xbs_small (h : u < 2147483648) : xbs u = u + 2147483648 := by
  unfold xbs
  omega
theorem xjm_2 {e l g : Bool} : xjm1 2 (xcr0 2 e l g) = l := rfl
theorem xjm_3 {e l g : Bool} : xjm1 3 (xcr0 3 e l g) = !l := rfl
theorem xjm_4 {e l g : Bool} : xjm1 4 (xcr0 4 e l g) = g := rfl
theorem xjm_5 {e l g : Bool} : xjm1 5 (xcr0 5 e l g) = !g := rfl
theorem xjm_0 {e l g : Bool} : xjm1 0 (xcr0 0 e l g) = e := rfl
theorem xjm_1 {e l g : Bool} : xjm1 1 (xcr0 1 e l g) = !e := rfl
theorem xj2 : xjmp 2 u v = Nat.blt (xbs u) (xbs v) := by
  unfold xjmp xcq
  exact xjm_2
theorem xj3 : xjmp 3 u v = !(Nat.blt (xbs u) (xbs v)) := by
  unfold xjmp xcq
  exact xjm_3
theorem xj4 : xjmp 4 u v = Nat.blt (xbs v) (xbs u) := by
  unfold xjmp xcq
  exact xjm_4
theorem xj5 : xjmp 5 u v = !(Nat.blt (xbs v) (xbs u)) := by
  unfold xjmp xcq
  exact xjm_5
theorem xj0 : xjmp 0 u v = Nat.beq u v := by
  unfold xjmp xcq
  exact xjm_0
theorem xj1 : xjmp 1 u v = !(Nat.beq u v) := by
  unfold xjmp xcq
  exact xjm_1
theorem xj_eqT (h : u = v) : xjmp 0 u v = true := by rw [xj0, h, Nat.beq_refl]
theorem xj_eqF (h : u ≠ v) : xjmp 0 u v = false := by rw [xj0, xbeq_f h]
theorem xj_neT (h : u ≠ v) : xjmp 1 u v = true := by rw [xj1, xbeq_f h]; rfl
theorem xj_neF (h : u = v) : xjmp 1 u v = false := by rw [xj1, h, Nat.beq_refl]; rfl
theorem xbl_t (h : u < v) (hv : v < 2147483648) : Nat.blt (xbs u) (xbs v) = true := by
  rw [xbs_small hv, xbs_small (Nat.lt_trans h hv)]
  exact xblt_t (by omega)
theorem xbl_f (h : v ≤ u) (hu : u < 2147483648) : Nat.blt (xbs u) (xbs v) = false := by
  rw [xbs_small hu, xbs_small (Nat.lt_of_le_of_lt h hu)]
  exact xblt_f (by omega)
theorem xj_ltT (h : u < v) (hv : v < 2147483648) : xjmp 2 u v = true := by rw [xj2]; exact xbl_t h hv
theorem xj_ltF (h : v ≤ u) (hu : u < 2147483648) : xjmp 2 u v = false := by rw [xj2]; exact xbl_f h hu
theorem xj_geT (h : v ≤ u) (hu : u < 2147483648) : xjmp 3 u v = true := by rw [xj3, xbl_f h hu]; rfl
theorem xj_geF (h : u < v) (hv : v < 2147483648) : xjmp 3 u v = false := by rw [xj3, xbl_t h hv]; rfl
theorem xj_gtT (h : v < u) (hu : u < 2147483648) : xjmp 4 u v = true := by rw [xj4]; exact xbl_t h hu
theorem xj_gtF (h : u ≤ v) (hv : v < 2147483648) : xjmp 4 u v = false := by rw [xj4]; exact xbl_f h hv
theorem xj_leT (h : u ≤ v) (hv : v < 2147483648) : xjmp 5 u v = true := by rw [xj5, xbl_f h hv]; rfl
theorem xj_leF (h : v < u) (hu : u < 2147483648) : xjmp 5 u v = false := by rw [xj5, xbl_t h hu]; rfl
-- cells
theorem xg_getf (h : wget hp.1 k = some (.inl (x, fl))) (hv : xget fl y = some va) : xLd d M (p0, (pc, ln, 1, x, y, ix) :: tl, lo, (2, k) :: st, hp) [(pc + ln, tl, lo, va :: st, hp)] := by
  refine xg_op (f := xh_getfield) rfl ?_
  show xob (wget hp.1 k) (fun q => xobj q (xgf1 xidk d M (pc, ln, 1, x, y, ix) tl lo st hp)) = _
  rw [h]
  show xif (Nat.beq x x) (xob (xget fl y) fun v => xidk d M (pc + ln, tl, lo, v :: st, hp)) = _
  rw [Nat.beq_refl, hv]
  rfl
theorem xg_put {f : xV → Bool} (ho : xget xoph op = some (xput f)) (h : wget hp.1 k = some (.inl (x, fl))) (hv : xget fl y = some vb) (hi : f va = true) : xLd d M (p0, (pc, ln, op, x, y, ix) :: tl, lo, va :: (2, k) :: st, hp) [(pc + ln, tl, lo, st, (wset (.inl (x, xset va fl y)) hp.1 k, hp.2))] := by
  refine xg_op ho ?_
  show xif (f va && Nat.beq 2 2) (xob (wget hp.1 k) fun q => xobj q (xpf1 xidk d M (pc, ln, op, x, y, ix) tl lo st hp va k)) = _
  rw [hi, h]
  show xif (Nat.beq x x) (xob (xget fl y) fun _ => xidk d M (pc + ln, tl, lo, st, xwr hp k (.inl (x, xset va fl y)))) = _
  rw [Nat.beq_refl, hv]
  rfl
theorem xg_iald (h : wget hp.1 k = some (.inr (0, L, t, us))) (hi : xnm hp.2.1 va = (0, n)) (hn : n < L) (hv : xat 0 us n = vb) : xLd d M (p0, (pc, ln, 10, x, y, ix) :: tl, lo, va :: (2, k) :: st, hp) [(pc + ln, tl, lo, vb :: st, hp)] := by
  refine xg_op (f := xh_iaload) rfl ?_
  show xob (wget hp.1 k) (fun q => xarr q (xald1 (fun k => Nat.beq k 0) xidk d M (pc, ln, 10, x, y, ix) tl lo st hp (xnm hp.2.1 va))) = _
  rw [h, hi]
  show xif (true && (true && Nat.blt n L)) (xidk d M (pc + ln, tl, lo, xat 0 us n :: st, hp)) = _
  rw [xblt_t hn, hv]
  rfl
theorem xg_alen (h : wget hp.1 k = some (.inr (c, L, t, us))) : xLd d M (p0, (pc, ln, 31, x, y, ix) :: tl, lo, (2, k) :: st, hp) [(pc + ln, tl, lo, (0, L) :: st, hp)] := by
  refine xg_op (f := xh_alen) rfl ?_
  show xob (wget hp.1 k) (fun q => xarr q fun a => xidk d M (pc + ln, tl, lo, (0, a.2.1) :: st, hp)) = _
  rw [h]
  rfl
theorem xg_iast0 (h : wget hp.1 k = some (.inr (0, L, t, us))) (hi : xnm hp.2.1 va = (0, n)) (hv : xnm hp.2.1 vb = (0, u)) (ib : xisi vb = true) (hn : n < L) : xLd d M (p0, (pc, ln, 17, x, y, ix) :: tl, lo, vb :: va :: (2, k) :: st, hp) [cond (xsame (0, u) (xat 0 us n)) (pc + ln, tl, lo, st, hp) (pc + ln, tl, lo, st, (wset (.inr (0, L, t, (n, (0, u)) :: us)) hp.1 k, hp.2))] := by
  refine xg_op (f := xh_iastore) rfl ?_
  show xif (Nat.beq 2 2 && xisi vb) (xob (wget hp.1 k) fun q => xarr q fun a => xif (Nat.beq a.1 0) (xast1 xidk d M (pc, ln, 17, x, y, ix) tl lo st hp k (xnm hp.2.1 vb) (xnm hp.2.1 va) a)) = _
  rw [ib, h, hi, hv]
  show xif (true && Nat.blt n L) (cond (xsame (0, u) (xat 0 us n)) (xidk d M (pc + ln, tl, lo, st, hp)) (xidk d M (pc + ln, tl, lo, st, xwr hp k (.inr (0, L, t, (n, (0, u)) :: us))))) = _
  rw [xblt_t hn]
  cases xsame (0, u) (xat 0 us n) <;> rfl
theorem xsame_t (h : xsame va vb = true) : va = vb := by
  obtain ⟨h1, h2⟩ := Bool.and_eq_true_iff.mp h
  exact Prod.ext (xbeq h1) (xbeq h2)
/-- a row of numbers -/
def xRow (w : List (List xE)) (k L t : Nat) (f : Nat → Nat) : Prop := ∃ us, wget w k = some (.inr (0, L, t, us)) ∧ ∀ j, j < L → xat 0 us j = (0, f j)
theorem wset_shp {α : Type} {v a : α} {w : List (List α)} {k : Nat} (h : wget w k = some a) : (wset v w k).map List.length = w.map List.length := by
  obtain ⟨c, h1, h2⟩ := wget_some h
  rw [wset_of h1, xset_eq, xset_eq, List.map_set, List.length_set]
  rw [xget_eq] at h1
  obtain ⟨h3, h4⟩ := List.getElem?_eq_some_iff.mp h1
  have h5 : k / 10 < (w.map List.length).length := by rw [List.length_map]; exact h3
  have e : c.length = (w.map List.length)[k / 10]'h5 := by rw [List.getElem_map, h4]
  rw [e]
  exact List.set_getElem_self _
def xBut (k : Nat) (w w' : List (List xE)) : Prop := (∀ j, j ≠ k → wget w' j = wget w j) ∧ w'.map List.length = w.map List.length
theorem xBut.rf : xBut k w w := ⟨fun _ _ => rfl, rfl⟩
theorem xBut.set {q0 q : xE} (h : wget w k = some q0) : xBut k w (wset q w k) := ⟨fun _ hj => wget_set_ne h hj, wset_shp h⟩
theorem xBut.tr {w1 w2 w3 : List (List xE)} (h : xBut k w1 w2) (h' : xBut k w2 w3) : xBut k w1 w3 := ⟨fun j hj => (h'.1 j hj).trans (h.1 j hj), h'.2.trans h.2⟩
theorem xat_cons {q : xV} : xat 0 ((n, q) :: us) u = cond (Nat.beq n u) q (xat 0 us u) := by
  show Option.rec (motive := fun _ => xV) (cond (Nat.beq 0 4) (3, 0) (cond (Nat.beq 0 3) (4, 0) (0, 0))) (fun v => v) (cond (Nat.beq n u) (some q) (xfind us u)) = _
  cases Nat.beq n u <;> rfl
theorem xRow.get {f : Nat → Nat} {w : List (List xE)} (h : xRow w k L t f) : ∃ us, wget w k = some (.inr (0, L, t, us)) ∧ ∀ j, j < L → xat 0 us j = (0, f j) := h
theorem xg_iast {f : Nat → Nat} (h : xRow hp.1 k L t f) (hi : xnm hp.2.1 va = (0, n)) (hv : xnm hp.2.1 vb = (0, u)) (ib : xisi vb = true) (hn : n < L) : ∃ w', xLd d M (p0, (pc, ln, 17, x, y, ix) :: tl, lo, vb :: va :: (2, k) :: st, hp) [(pc + ln, tl, lo, st, (w', hp.2))] ∧ xRow w' k L t (fun j => if j = n then u else f j) ∧ xBut k hp.1 w' := by
  obtain ⟨us, h1, h2⟩ := h
  have q := xg_iast0 (d := d) (M := M) (p0 := p0) (pc := pc) (ln := ln) (x := x) (y := y) (ix := ix) (tl := tl) (lo := lo) (st := st) h1 hi hv ib hn
  cases hs : xsame (0, u) (xat 0 us n) with
  | true =>
    rw [hs] at q
    have e := xsame_t hs
    refine ⟨hp.1, q, ⟨us, h1, fun j hj => ?_⟩, xBut.rf⟩
    show xat 0 us j = (0, if j = n then u else f j)
    by_cases hj' : j = n
    · subst hj'
      rw [if_pos rfl]
      exact e.symm
    · rw [if_neg hj']
      exact h2 j hj
  | false =>
    rw [hs] at q
    refine ⟨_, q, ⟨(n, (0, u)) :: us, wget_set_self h1, fun j hj => ?_⟩, xBut.set h1⟩
    rw [xat_cons]
    show cond (Nat.beq n j) (0, u) (xat 0 us j) = (0, if j = n then u else f j)
    by_cases hj' : j = n
    · subst hj'
      rw [if_pos rfl, Nat.beq_refl]
      rfl
    · rw [if_neg hj', xbeq_f (fun z => hj' z.symm)]
      exact h2 j hj
noncomputable def xihc (d0 : Nat) (M0 : xM) (σ0 φ : xS) : xK := fun d M σ => @ite _ (d = d0 ∧ M = M0 ∧ σ = σ0) (Classical.propDecidable _) (some [φ]) (some [σ])
theorem xihc_at {φ : xS} : xihc d M σ φ d M σ = some [φ] := if_pos ⟨rfl, rfl, rfl⟩
theorem xihc_ne {M0 : xM} {σ0 φ : xS} (h : d ≠ d0) : xihc d0 M0 σ0 φ d M σ = some [σ] := if_neg (fun z => h z.1)
theorem xihc_ok {φ : xS} (h : xLd d M σ [φ]) : xIHok (xihc d M σ φ) := by
  intro d1 M1 σ1 fs1 h1 hM hpos
  by_cases hc : d1 = d ∧ M1 = M ∧ σ1 = σ
  · obtain ⟨rfl, rfl, rfl⟩ := hc
    rw [xihc_at] at h1
    cases h1
    exact h hM hpos
  · have e : xihc d M σ φ d1 M1 σ1 = some [σ1] := if_neg hc
    rw [e] at h1
    cases h1
    exact xLd.rf hM hpos
/-- what a method does: the world goes from w to w', its answer is r -/
def xPr (d : Nat) (M : xM) (vs : List xV) (w : List (List xE)) (bd : List (Nat × Nat)) (fc : List (Nat × Nat × Bool)) (rr : Nat × Nat) (r : List xV) (w' : List (List xE)) : Prop := ∃ φ : xS, xLd d M (0, [], xarg vs 0, [], (w, bd, fc, 0, 0, rr)) [φ] ∧ xret M.2.2.2.2.2.1 φ = some r ∧ φ.2.2.2.2 = (w', bd, fc, 0, 0, rr)
theorem xble0 : Nat.ble 0 n = true := Nat.ble_eq_true_of_le (Nat.zero_le n)
theorem xc2_ok {φ : xS} {e : xI} (hr : xret M'.2.2.2.2.2.1 φ = some r) (hφ : φ.2.2.2.2 = (w', bd, fc, 0, 0, rr)) (hb : ((Nat.ble (cn + M'.2.2.2.2.2.2.1) M.2.2.2.2.2.2.1 && Nat.ble (xwds vs) M'.2.2.1) && (Nat.ble (sl + M'.2.2.2.2.2.2.2.1) M.2.2.2.2.2.2.2.1 && Nat.ble (xwds rest) 8)) = true) : xcall2 (xihc d M' (0, [], xarg vs 0, [], (w, bd, fc, 0, 0, rr)) φ) (d + 1) M e tl lo (w, bd, fc, cn, sl, rr) M' d vs rest = some [(e.1 + e.2.1, tl, lo, r ++ rest, (w', bd, fc, cn + M'.2.2.2.2.2.2.1, sl + M'.2.2.2.2.2.2.2.1, rr))] := by
  unfold xcall2
  show xif ((Nat.ble (cn + M'.2.2.2.2.2.2.1) M.2.2.2.2.2.2.1 && Nat.ble (xwds vs) M'.2.2.1) && (Nat.ble (sl + M'.2.2.2.2.2.2.2.1) M.2.2.2.2.2.2.2.1 && Nat.ble (xwds rest) 8)) (xob (xihc d M' (0, [], xarg vs 0, [], (w, bd, fc, 0, 0, rr)) φ d M' (0, [], xarg vs 0, [], (w, bd, fc, 0, 0, rr))) fun fs => xall (xihc d M' (0, [], xarg vs 0, [], (w, bd, fc, 0, 0, rr)) φ (d + 1) M) (xback M' e tl lo rest (w, bd, fc, cn, sl, rr)) fs) = _
  rw [hb, xihc_at]
  show xob (xback M' e tl lo rest (w, bd, fc, cn, sl, rr) φ) (xihc d M' (0, [], xarg vs 0, [], (w, bd, fc, 0, 0, rr)) φ (d + 1) M) = _
  have e1 : xback M' e tl lo rest (w, bd, fc, cn, sl, rr) φ = some (e.1 + e.2.1, tl, lo, r ++ rest, (w', bd, fc, cn + M'.2.2.2.2.2.2.1, sl + M'.2.2.2.2.2.2.2.1, rr)) := by
    unfold xback
    rw [hr, hφ]
    show xif (Nat.ble 0 M'.2.2.2.2.2.2.1 && Nat.ble 0 M'.2.2.2.2.2.2.2.1) (xN (cn + M'.2.2.2.2.2.2.1) fun cn => xN (sl + M'.2.2.2.2.2.2.2.1) fun sl => some (e.1 + e.2.1, tl, lo, r ++ rest, (w', bd, fc, cn, sl, rr))) = _
    rw [xble0, xble0, xN_eq, xN_eq]
    rfl
  rw [e1]
  exact xihc_ne (by omega)
theorem xg_callS (hk : mget x = some M') (hP : xPr d M' vs w bd fc rr r w') (hy : y % 8 = 2) (hn : Nat.beq (st.take M'.2.2.2.2.1).length M'.2.2.2.2.1 = true) (hv : (st.take M'.2.2.2.2.1).reverse = vs) (hr : st.drop M'.2.2.2.2.1 = rest) (hb : ((Nat.ble (cn + M'.2.2.2.2.2.2.1) M.2.2.2.2.2.2.1 && Nat.ble (xwds vs) M'.2.2.1) && (Nat.ble (sl + M'.2.2.2.2.2.2.2.1) M.2.2.2.2.2.2.2.1 && Nat.ble (xwds rest) 8)) = true) : xLd (d + 1) M (p0, (pc, ln, 13, x, y, ix) :: tl, lo, st, (w, bd, fc, cn, sl, rr)) [(pc + ln, tl, lo, r ++ rest, (w', bd, fc, cn + M'.2.2.2.2.2.2.1, sl + M'.2.2.2.2.2.2.2.1, rr))] := by
  obtain ⟨φ, h1, h2, h3⟩ := hP
  intro hM hpos
  refine xstep_ok xmall (xihc_ok h1) (d + 1) M _ _ ?_ hM hpos
  show xob (mget x) (fun M' => xcall1 (xihc d _ (0, [], xarg vs 0, [], (w, bd, fc, 0, 0, rr)) φ) (d + 1) M (pc, ln, 13, x, y, ix) tl lo st (w, bd, fc, cn, sl, rr) M' d) = _
  rw [hk]
  show xcall1 (xihc d M' (0, [], xarg vs 0, [], (w, bd, fc, 0, 0, rr)) φ) (d + 1) M (pc, ln, 13, x, y, ix) tl lo st (w, bd, fc, cn, sl, rr) M' d = _
  unfold xcall1
  rw [hn, hv, hr]
  show cond (Nat.ble (y % 8) 1) _ (cond (Nat.ble (y % 8) 3) (xcall2 (xihc d M' (0, [], xarg vs 0, [], (w, bd, fc, 0, 0, rr)) φ) (d + 1) M (pc, ln, 13, x, y, ix) tl lo (w, bd, fc, cn, sl, rr) M' d vs rest) _) = _
  rw [hy]
  exact xc2_ok h2 h3 hb
theorem xg_callV {j : Nat} (hk : mget x = some M') (hP : xPr d M' ((2, j) :: vs) w bd fc rr r w') (hy : y % 8 = 0) (ho : wget w j = some (.inl (y / 8, fl))) (hn : Nat.beq (st.take M'.2.2.2.2.1).length M'.2.2.2.2.1 = true) (hv : (st.take M'.2.2.2.2.1).reverse = vs) (hr : st.drop M'.2.2.2.2.1 = (2, j) :: rest) (hb : ((Nat.ble (cn + M'.2.2.2.2.2.2.1) M.2.2.2.2.2.2.1 && Nat.ble (xwds ((2, j) :: vs)) M'.2.2.1) && (Nat.ble (sl + M'.2.2.2.2.2.2.2.1) M.2.2.2.2.2.2.2.1 && Nat.ble (xwds rest) 8)) = true) : xLd (d + 1) M (p0, (pc, ln, 13, x, y, ix) :: tl, lo, st, (w, bd, fc, cn, sl, rr)) [(pc + ln, tl, lo, r ++ rest, (w', bd, fc, cn + M'.2.2.2.2.2.2.1, sl + M'.2.2.2.2.2.2.2.1, rr))] := by
  obtain ⟨φ, h1, h2, h3⟩ := hP
  intro hM hpos
  refine xstep_ok xmall (xihc_ok h1) (d + 1) M _ _ ?_ hM hpos
  show xob (mget x) (fun M' => xcall1 (xihc d _ (0, [], xarg ((2, j) :: vs) 0, [], (w, bd, fc, 0, 0, rr)) φ) (d + 1) M (pc, ln, 13, x, y, ix) tl lo st (w, bd, fc, cn, sl, rr) M' d) = _
  rw [hk]
  show xcall1 (xihc d M' (0, [], xarg ((2, j) :: vs) 0, [], (w, bd, fc, 0, 0, rr)) φ) (d + 1) M (pc, ln, 13, x, y, ix) tl lo st (w, bd, fc, cn, sl, rr) M' d = _
  unfold xcall1
  rw [hn, hv, hr]
  show cond (Nat.ble (y % 8) 1) (xob (wget w j) fun q => xobj q fun o => xif (Nat.beq o.1 (y / 8)) (xcall2 (xihc d M' (0, [], xarg ((2, j) :: vs) 0, [], (w, bd, fc, 0, 0, rr)) φ) (d + 1) M (pc, ln, 13, x, y, ix) tl lo (w, bd, fc, cn, sl, rr) M' d ((2, j) :: vs) rest)) _ = _
  rw [hy, ho]
  show xif (Nat.beq (y / 8) (y / 8)) _ = _
  rw [Nat.beq_refl]
  exact xc2_ok h2 h3 hb
end XCH
/-- to one end, of which something is known -/
def xTo (d : Nat) (M : xM) (σ : xS) (P : xS → Prop) : Prop := ∃ τ, xLd d M σ [τ] ∧ P τ
def xEnd (rk : Nat) (r : List xV) (hp : xH) (φ : xS) : Prop := xret rk φ = some r ∧ φ.2.2.2.2 = hp
abbrev xHr := List (Nat × Nat) × List (Nat × Nat × Bool) × Nat × Nat × Nat × Nat
section XTO
variable {d p0 pc ln op x y ix u v z k c n t L j : Nat} {M M' : xM} {σ τ : xS} {P P' : xS → Prop} {tl b cs : List xI} {lo l1 : xLo} {st rest vs rs : List xV} {hp : xH} {hr : xHr} {va vb : xV} {w w' : List (List xE)} {bd : List (Nat × Nat)} {fc : List (Nat × Nat × Bool)} {cn sl cn1 sl1 : Nat} {rr : Nat × Nat} {fl fl1 : List xV} {us : List (Nat × xV)} {r : List xV} {Q : List (List xE) → Prop} {f : Nat → Nat}
theorem xg_t (h1 : xLd d M σ [τ]) (h2 : xTo d M τ P) : xTo d M σ P := by
  obtain ⟨φ, h3, h4⟩ := h2
  exact ⟨φ, xthen h1 h3, h4⟩
theorem xg_e (h : P σ) : xTo d M σ P := ⟨σ, xLd.rf, h⟩
theorem xTo.bind (h1 : xTo d M σ P) (h2 : ∀ τ, P τ → xTo d M τ P') : xTo d M σ P' := by
  obtain ⟨φ, h3, h4⟩ := h1
  exact xg_t h3 (h2 φ h4)
theorem xTo.imp (h1 : xTo d M σ P) (h2 : ∀ τ, P τ → P' τ) : xTo d M σ P' := by
  obtain ⟨φ, h3, h4⟩ := h1
  exact ⟨φ, h3, h2 φ h4⟩
theorem xnm0 : xnm bd (0, u) = (0, u) := rfl
theorem xrel_sub {α β : Type} {R : α → β → Prop} {l : List α} {l' : List β} (h : xrel R l l') : ∀ {m : List α}, (∀ q ∈ m, q ∈ l) → ∃ m', xrel R m m' ∧ ∀ y ∈ m', y ∈ l'
  | [], _ => ⟨[], trivial, fun _ h => absurd h List.not_mem_nil⟩
  | a :: m, hs => by
    obtain ⟨m', h1, h2⟩ := xrel_sub h (m := m) (fun q hq => hs q (List.mem_cons_of_mem _ hq))
    have h3 := hs a List.mem_cons_self
    obtain ⟨i, hi⟩ := List.mem_iff_getElem?.mp h3
    rw [← xget_eq] at hi
    obtain ⟨b, h4, h5⟩ := xrel_get h hi
    rw [xget_eq] at h4
    refine ⟨b :: m', ⟨h5, h1⟩, fun y hy => ?_⟩
    rcases List.mem_cons.mp hy with rfl | hy
    · exact List.mem_of_getElem? h4
    · exact h2 y hy
/-- some locals are forgotten, the others put in order -/
theorem xg_drop (hs : ∀ q ∈ l1, q ∈ lo) : xLd d M (pc, cs, lo, st, hp) [(pc, cs, l1, st, hp)] := by
  intro hM hpos p l e R s m args below meth cc D A g cw0 tys0 io0 Q C hQ cw tys io H locs ls lv sv hE hK hP hD hS hlv hlo hst hh
  obtain ⟨lv', h1, h2⟩ := xrel_sub hlo hs
  exact hQ _ List.mem_cons_self hpos cw tys io H locs ls lv' sv hE hK hP hD hS ⟨hlv.1, hlv.2.1, fun q hq => hlv.2.2 q (h2 q hq)⟩ h1 hst hh
theorem xg_putK {g : xV → Bool} (ho : xget xoph op = some (xput g)) (h : wget w k = some (.inl (x, fl))) (hv : xget fl y = some vb) (hi : g va = true) (hx : xset va fl y = fl1) (K : ∀ w', wget w' k = some (.inl (x, fl1)) → xBut k w w' → xTo d M (pc + ln, tl, lo, st, (w', hr)) P) : xTo d M (p0, (pc, ln, op, x, y, ix) :: tl, lo, va :: (2, k) :: st, (w, hr)) P := by
  subst hx
  exact xg_t (xg_put (hp := (w, hr)) ho h hv hi) (K _ (wget_set_self h) (xBut.set h))
theorem xg_putI (h : wget w k = some (.inl (x, fl))) (hv : xget fl y = some vb) (hi : xisi va = true) (hx : xset va fl y = fl1) (K : ∀ w', wget w' k = some (.inl (x, fl1)) → xBut k w w' → xTo d M (pc + ln, tl, lo, st, (w', hr)) P) : xTo d M (p0, (pc, ln, 14, x, y, ix) :: tl, lo, va :: (2, k) :: st, (w, hr)) P := xg_putK (g := xisi) rfl h hv hi hx K
theorem xg_putZ (h : wget w k = some (.inl (x, fl))) (hv : xget fl y = some vb) (hi : xis01 va = true) (hx : xset va fl y = fl1) (K : ∀ w', wget w' k = some (.inl (x, fl1)) → xBut k w w' → xTo d M (pc + ln, tl, lo, st, (w', hr)) P) : xTo d M (p0, (pc, ln, 59, x, y, ix) :: tl, lo, va :: (2, k) :: st, (w, hr)) P := xg_putK (g := xis01) rfl h hv hi hx K
theorem xg_iastK (h : xRow w k L t f) (hi : xnm hr.1 va = (0, n)) (hv : xnm hr.1 vb = (0, u)) (ib : xisi vb = true) (hn : n < L) (K : ∀ w', xRow w' k L t (fun j => if j = n then u else f j) → xBut k w w' → xTo d M (pc + ln, tl, lo, st, (w', hr)) P) : xTo d M (p0, (pc, ln, 17, x, y, ix) :: tl, lo, vb :: va :: (2, k) :: st, (w, hr)) P := by
  obtain ⟨w', h1, h2, h3⟩ := xg_iast (d := d) (M := M) (p0 := p0) (pc := pc) (ln := ln) (x := x) (y := y) (ix := ix) (tl := tl) (lo := lo) (st := st) (hp := (w, hr)) h hi hv ib hn
  exact xg_t h1 (K w' h2 h3)
theorem xg_ialdR (h : xRow w k L t f) (hi : xnm hr.1 va = (0, n)) (hn : n < L) (hv : f n = u) : xLd d M (p0, (pc, ln, 10, x, y, ix) :: tl, lo, va :: (2, k) :: st, (w, hr)) [(pc + ln, tl, lo, (0, u) :: st, (w, hr))] := by
  obtain ⟨us, h1, h2⟩ := h
  subst hv
  exact xg_iald (hp := (w, hr)) h1 hi hn (h2 n hn)
def xPq (d : Nat) (M : xM) (vs : List xV) (w : List (List xE)) (bd : List (Nat × Nat)) (fc : List (Nat × Nat × Bool)) (rr : Nat × Nat) (r : List xV) (Q : List (List xE) → Prop) : Prop := ∃ w', Q w' ∧ xPr d M vs w bd fc rr r w'
theorem xPr.of (h : xTo d M (0, [], xarg vs 0, [], (w, bd, fc, 0, 0, rr)) (xEnd M.2.2.2.2.2.1 r (w', bd, fc, 0, 0, rr))) : xPr d M vs w bd fc rr r w' := by
  obtain ⟨φ, h1, h2, h3⟩ := h
  exact ⟨φ, h1, h2, h3⟩
theorem xPq.of (h : xTo d M (0, [], xarg vs 0, [], (w, bd, fc, 0, 0, rr)) (fun φ => ∃ w', xEnd M.2.2.2.2.2.1 r (w', bd, fc, 0, 0, rr) φ ∧ Q w')) : xPq d M vs w bd fc rr r Q := by
  obtain ⟨φ, h1, w', ⟨h2, h3⟩, h4⟩ := h
  exact ⟨w', h4, φ, h1, h2, h3⟩
theorem xPq.pr (h : xPr d M vs w bd fc rr r w') : xPq d M vs w bd fc rr r (· = w') := ⟨w', rfl, h⟩
theorem xg_cV (M' : xM) (hk : mget x = some M') (hP : xPq d M' ((2, j) :: vs) w bd fc rr r Q) (hy : y % 8 = 0) (ho : wget w j = some (.inl (y / 8, fl))) (hn : Nat.beq (st.take M'.2.2.2.2.1).length M'.2.2.2.2.1 = true) (hv : (st.take M'.2.2.2.2.1).reverse = vs) (hr : st.drop M'.2.2.2.2.1 = (2, j) :: rest) (hb : ((Nat.ble (cn + M'.2.2.2.2.2.2.1) M.2.2.2.2.2.2.1 && Nat.ble (xwds ((2, j) :: vs)) M'.2.2.1) && (Nat.ble (sl + M'.2.2.2.2.2.2.2.1) M.2.2.2.2.2.2.2.1 && Nat.ble (xwds rest) 8)) = true) (hs : r ++ rest = rs) (h1 : cn + M'.2.2.2.2.2.2.1 = cn1) (h2 : sl + M'.2.2.2.2.2.2.2.1 = sl1) (K : ∀ w', Q w' → xTo (d + 1) M (pc + ln, tl, lo, rs, (w', bd, fc, cn1, sl1, rr)) P) : xTo (d + 1) M (p0, (pc, ln, 13, x, y, ix) :: tl, lo, st, (w, bd, fc, cn, sl, rr)) P := by
  obtain ⟨w', h3, h4⟩ := hP
  subst h1
  subst h2
  subst hs
  exact xg_t (xg_callV hk h4 hy ho hn hv hr hb) (K w' h3)
theorem xg_cS (M' : xM) (hk : mget x = some M') (hP : xPq d M' vs w bd fc rr r Q) (hy : y % 8 = 2) (hn : Nat.beq (st.take M'.2.2.2.2.1).length M'.2.2.2.2.1 = true) (hv : (st.take M'.2.2.2.2.1).reverse = vs) (hr : st.drop M'.2.2.2.2.1 = rest) (hb : ((Nat.ble (cn + M'.2.2.2.2.2.2.1) M.2.2.2.2.2.2.1 && Nat.ble (xwds vs) M'.2.2.1) && (Nat.ble (sl + M'.2.2.2.2.2.2.2.1) M.2.2.2.2.2.2.2.1 && Nat.ble (xwds rest) 8)) = true) (hs : r ++ rest = rs) (h1 : cn + M'.2.2.2.2.2.2.1 = cn1) (h2 : sl + M'.2.2.2.2.2.2.2.1 = sl1) (K : ∀ w', Q w' → xTo (d + 1) M (pc + ln, tl, lo, rs, (w', bd, fc, cn1, sl1, rr)) P) : xTo (d + 1) M (p0, (pc, ln, 13, x, y, ix) :: tl, lo, st, (w, bd, fc, cn, sl, rr)) P := by
  obtain ⟨w', h3, h4⟩ := hP
  subst h1
  subst h2
  subst hs
  exact xg_t (xg_callS hk h4 hy hn hv hr hb) (K w' h3)
/-- the same, the world as it was -/
theorem xg_cVr (M' : xM) (hk : mget x = some M') (hP : xPr d M' ((2, j) :: vs) w bd fc rr r w) (hy : y % 8 = 0) (ho : wget w j = some (.inl (y / 8, fl))) (hn : Nat.beq (st.take M'.2.2.2.2.1).length M'.2.2.2.2.1 = true) (hv : (st.take M'.2.2.2.2.1).reverse = vs) (hr : st.drop M'.2.2.2.2.1 = (2, j) :: rest) (hb : ((Nat.ble (cn + M'.2.2.2.2.2.2.1) M.2.2.2.2.2.2.1 && Nat.ble (xwds ((2, j) :: vs)) M'.2.2.1) && (Nat.ble (sl + M'.2.2.2.2.2.2.2.1) M.2.2.2.2.2.2.2.1 && Nat.ble (xwds rest) 8)) = true) (hs : r ++ rest = rs) (h1 : cn + M'.2.2.2.2.2.2.1 = cn1) (h2 : sl + M'.2.2.2.2.2.2.2.1 = sl1) : xLd (d + 1) M (p0, (pc, ln, 13, x, y, ix) :: tl, lo, st, (w, bd, fc, cn, sl, rr)) [(pc + ln, tl, lo, rs, (w, bd, fc, cn1, sl1, rr))] := by
  subst h1
  subst h2
  subst hs
  exact xg_callV hk hP hy ho hn hv hr hb
theorem xg_cSr (M' : xM) (hk : mget x = some M') (hP : xPr d M' vs w bd fc rr r w) (hy : y % 8 = 2) (hn : Nat.beq (st.take M'.2.2.2.2.1).length M'.2.2.2.2.1 = true) (hv : (st.take M'.2.2.2.2.1).reverse = vs) (hr : st.drop M'.2.2.2.2.1 = rest) (hb : ((Nat.ble (cn + M'.2.2.2.2.2.2.1) M.2.2.2.2.2.2.1 && Nat.ble (xwds vs) M'.2.2.1) && (Nat.ble (sl + M'.2.2.2.2.2.2.2.1) M.2.2.2.2.2.2.2.1 && Nat.ble (xwds rest) 8)) = true) (hs : r ++ rest = rs) (h1 : cn + M'.2.2.2.2.2.2.1 = cn1) (h2 : sl + M'.2.2.2.2.2.2.2.1 = sl1) : xLd (d + 1) M (p0, (pc, ln, 13, x, y, ix) :: tl, lo, st, (w, bd, fc, cn, sl, rr)) [(pc + ln, tl, lo, rs, (w, bd, fc, cn1, sl1, rr))] := by
  subst h1
  subst h2
  subst hs
  exact xg_callS hk hP hy hn hv hr hb
theorem xRow.to {g : Nat → Nat} (h : xRow w k L t f) (e : ∀ j, j < L → f j = g j) : xRow w k L t g := by
  obtain ⟨us, h1, h2⟩ := h
  exact ⟨us, h1, fun j hj => by rw [h2 j hj, e j hj]⟩
theorem xRow.but (h : xRow w k L t f) (hb : xBut c w w') (hk : k ≠ c) : xRow w' k L t f := by
  obtain ⟨us, h1, h2⟩ := h
  exact ⟨us, (hb.1 k hk).trans h1, h2⟩
theorem xBut.get {q : xE} (hb : xBut c w w') (hk : k ≠ c) (h : wget w k = some q) : wget w' k = some q := (hb.1 k hk).trans h
end XTO
