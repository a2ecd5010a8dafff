/-! the machine that the kernel runs: what it holds, and what that means -/
/-- a value: 0 an int by its pattern, 1 an int by its name, 2 a cell of the world, 3 null, 4 a long by its pattern, 7 the script, 8 a static row -/
abbrev xV := Nat × Nat
/-- a cell: an object (its number in vwCl, its fields), or an array (kind, length, place in tys, what was written) -/
abbrev xE := (Nat × List xV) ⊕ (Nat × Nat × Nat × List (Nat × xV))
/-- an instruction: pc, length, op, x, y, index -/
abbrev xI := Nat × Nat × Nat × Nat × Nat × Nat
/-- a method: name, bytes, locals, answer, number of arguments, sort of its answer, cells, slots, blocks -/
abbrev xM := MethodName × ByteArray × Nat × Option FieldType × Nat × Nat × Nat × Nat × List (Nat × List xI)
/-- the heap: world, bounds of named ints, facts, cells, slots, arrays, cells of the world -/
abbrev xH := List (List xE) × List (Nat × Nat) × List (Nat × Nat × Bool) × Nat × Nat × Nat × Nat
abbrev xLo := List (Nat × xV)
abbrev xS := Nat × List xI × xLo × List xV × xH
abbrev xK := Nat → xM → xS → Option (List xS)
abbrev xF := xK → Nat → xM → xI → List xI → xLo → List xV → xH → Option (List xS)
abbrev xWc := List (List (Nat × va_E))
abbrev xTy := List (ClassId × FieldType)
abbrev xB := (Nat → Int32) ⊕ (Nat → Int64) ⊕ (Nat → UInt32) ⊕ (Nat → UInt64) ⊕ (Nat → Option Nat)
/-- is there a script, where, and where are the static rows -/
abbrev xG := Bool × Nat × (Nat → Nat)
def xRv (g : xG) (cw : xWc) (io : List Nat) (x : xV) (v : Value) : Prop := match x.1 with
  | 0 => x.2 < 4294967296 ∧ v = .int (nI x.2)
  | 1 => ∃ u, xget io x.2 = some u ∧ v = .int (nI u)
  | 2 => ∃ a e, wget cw x.2 = some (a, e) ∧ v = .ref a
  | 3 => v = .null
  | 4 => v = .long (lN x.2)
  | 7 => g.1 = true ∧ v = .ref g.2.1
  | 8 => v = .ref (g.2.2 x.2)
  | _ => False
def xbody (f : xB) (j : Nat) : Value := match f with
  | .inl f => .int (f j)
  | .inr (.inl f) => .long (f j)
  | .inr (.inr (.inl f)) => .float (f j)
  | .inr (.inr (.inr (.inl f))) => .double (f j)
  | .inr (.inr (.inr (.inr f))) => va_rf (f j)
def xkd (kd : Nat) (ty : FieldType) (f : xB) : Prop := match kd with
  | 0 => ty = .int ∧ ∃ h, f = .inl h
  | 1 => ty = .byte ∧ ∃ h, f = .inl h
  | 2 => ty = .boolean ∧ ∃ h, f = .inl h
  | 3 => ty = .long ∧ ∃ h, f = .inr (.inl h)
  | 4 => ty = .object "BentScreens$Told" ∧ ∃ h, f = .inr (.inr (.inr (.inr h)))
  | _ => False
def xdef (kd : Nat) : Value := match kd with
  | 3 => .long 0
  | 4 => .null
  | _ => .int 0
def xRa (g : xG) (cw : xWc) (io : List Nat) (kd : Nat) (us : List (Nat × xV)) (f : xB) (j : Nat) : Prop := match xfind us j with
  | some v => xRv g cw io v (xbody f j)
  | none => xbody f j = xdef kd
def xRe (g : xG) (cw : xWc) (tys : xTy) (io : List Nat) (x : xE) (e : va_E) : Prop := match x, e with
  | .inl o, .inr o' => o.1 = o'.1 ∧ xrel (xRv g cw io) o.2 o'.2
  | .inr a, .inl a' => a.2.1 = a'.2.1 ∧ a.2.1 < 2147483648 ∧ ∃ ty, tys[a.2.2.1]? = some (a'.1, ty) ∧ xkd a.1 ty a'.2.2 ∧ ∀ j, xRa g cw io a.1 a.2.2.2 a'.2.2 j
  | _, _ => False
def xRw (g : xG) (cw : xWc) (tys : xTy) (io : List Nat) (w : List (List xE)) (cv : xWc) : Prop := xrel (xrel (fun x (q : Nat × va_E) => xRe g cw tys io x q.2)) w cv
def xRb (bd : List (Nat × Nat)) (io : List Nat) : Prop := xrel (fun (q : Nat × Nat) u => u < 4294967296 ∧ q.1 ≤ xbs u ∧ xbs u ≤ q.2) bd io
def xRf (fc : List (Nat × Nat × Bool)) (io : List Nat) : Prop := ∀ q ∈ fc, ∃ u v, xget io q.1 = some u ∧ xget io q.2.1 = some v ∧ decide (xbs u ≤ xbs v) = q.2.2
def xRh (g : xG) (hp : xH) (cw : xWc) (tys : xTy) (io : List Nat) : Prop := xRw g cw tys io hp.1 cw ∧ xRb hp.2.1 io ∧ xRf hp.2.2.1 io ∧ tys.length = hp.2.2.2.2.2.1
def xExt (cw : xWc) (tys : xTy) (io : List Nat) (cw' : xWc) (tys' : xTy) (io' : List Nat) : Prop := (∀ k a e, wget cw k = some (a, e) → ∃ e', wget cw' k = some (a, e')) ∧ (∀ (t : Nat) (q : ClassId × FieldType), tys[t]? = some q → tys'[t]? = some q) ∧ ∀ n u, xget io n = some u → xget io' n = some u
theorem xExt.rf {cw : xWc} {tys : xTy} {io : List Nat} : xExt cw tys io cw tys io := ⟨fun _ _ e h => ⟨e, h⟩, fun _ _ h => h, fun _ _ h => h⟩
theorem xExt.tr {c1 c2 c3 : xWc} {t1 t2 t3 : xTy} {i1 i2 i3 : List Nat} (h : xExt c1 t1 i1 c2 t2 i2) (k : xExt c2 t2 i2 c3 t3 i3) : xExt c1 t1 i1 c3 t3 i3 := by
  refine ⟨fun x a e hx => ?_, fun t q hq => k.2.1 t q (h.2.1 t q hq), fun n u hn => k.2.2 n u (h.2.2 n u hn)⟩
  obtain ⟨e', h1⟩ := h.1 x a e hx
  exact k.1 x a e' h1
theorem xRv.ext {g : xG} {cw cw' : xWc} {tys tys' : xTy} {io io' : List Nat} (E : xExt cw tys io cw' tys' io') {x : xV} {v : Value} (h : xRv g cw io x v) : xRv g cw' io' x v := by
  obtain ⟨t, n⟩ := x
  unfold xRv at h ⊢
  split at h <;> rename_i ht <;> simp only at ht h ⊢
  · exact h
  · obtain ⟨u, h1, h2⟩ := h
    exact ⟨u, E.2.2 _ _ h1, h2⟩
  · obtain ⟨a, e, h1, h2⟩ := h
    obtain ⟨e', h3⟩ := E.1 _ _ _ h1
    exact ⟨a, e', h3, h2⟩
  · exact h
  · exact h
  · exact h
  · exact h
theorem xRa.ext {g : xG} {cw cw' : xWc} {tys tys' : xTy} {io io' : List Nat} (E : xExt cw tys io cw' tys' io') {kd : Nat} {us : List (Nat × xV)} {f : xB} {j : Nat} (h : xRa g cw io kd us f j) : xRa g cw' io' kd us f j := by
  unfold xRa at h ⊢
  split at h
  · exact h.ext E
  · exact h
theorem xRe.ext {g : xG} {cw cw' : xWc} {tys tys' : xTy} {io io' : List Nat} (E : xExt cw tys io cw' tys' io') {x : xE} {e : va_E} (h : xRe g cw tys io x e) : xRe g cw' tys' io' x e := by
  cases x with
  | inl o =>
    cases e with
    | inl a => exact h.elim
    | inr o' => exact ⟨h.1, xrel_imp (fun a b hab => hab.ext E) h.2⟩
  | inr a =>
    cases e with
    | inr o' => exact h.elim
    | inl a' =>
      obtain ⟨h1, h0, ty, h2, h3, h4⟩ := h
      exact ⟨h1, h0, ty, E.2.1 _ _ h2, h3, fun j => (h4 j).ext E⟩
theorem xRw.ext {g : xG} {cw cw' : xWc} {tys tys' : xTy} {io io' : List Nat} (E : xExt cw tys io cw' tys' io') {w : List (List xE)} {cv : xWc} (h : xRw g cw tys io w cv) : xRw g cw' tys' io' w cv :=
  xrel_imp (fun _ _ hab => xrel_imp (fun _ _ hcd => hcd.ext E) hab) h
theorem xRw.get {g : xG} {cw : xWc} {tys : xTy} {io : List Nat} {w : List (List xE)} {cv : xWc} (h : xRw g cw tys io w cv) {k : Nat} {x : xE} (hx : wget w k = some x) : ∃ q, wget cv k = some q ∧ xRe g cw tys io x q.2 := by
  obtain ⟨c, h1, h2⟩ := wget_some hx
  obtain ⟨c', h3, h4⟩ := xrel_get h h1
  obtain ⟨q, h5, h6⟩ := xrel_get h4 h2
  exact ⟨q, by rw [wget_of h3]; exact h5, h6⟩
/-- a cell is written: its address stays -/
theorem xExt.set {cw : xWc} {tys : xTy} {io : List Nat} {k a : Nat} {e e' : va_E} (h : wget cw k = some (a, e)) : xExt cw tys io (wset (a, e') cw k) tys io := by
  refine ⟨fun j b f hj => ?_, fun _ _ h => h, fun _ _ h => h⟩
  by_cases hjk : j = k
  · subst hjk
    rw [h] at hj
    cases hj
    exact ⟨e', wget_set_self h⟩
  · exact ⟨f, by rw [wget_set_ne h hjk]; exact hj⟩
theorem xRw.set {g : xG} {cw : xWc} {tys : xTy} {io : List Nat} {w : List (List xE)} (h : xRw g cw tys io w cw) {k a : Nat} {x : xE} {e e' : va_E} {x' : xE} (hx : wget w k = some x) (hc : wget cw k = some (a, e)) (hn : xRe g cw tys io x' e') : xRw g (wset (a, e') cw k) tys io (wset x' w k) (wset (a, e') cw k) := by
  refine xRw.ext (xExt.set hc) ?_
  obtain ⟨c, h1, h2⟩ := wget_some hx
  obtain ⟨c', h3, h4⟩ := xrel_get h h1
  rw [wset_of h1, wset_of h3]
  exact xrel_set (xrel_set (a := x') (b := (a, e')) hn h4 _) h _
theorem xExt.push {cw cw' : xWc} {tys tys' : xTy} {io : List Nat} {q : Nat × va_E} {i j : Nat} (h : xpush q cw i j = some cw') (ht : ∀ (t : Nat) (q : ClassId × FieldType), tys[t]? = some q → tys'[t]? = some q) : xExt cw tys io cw' tys' io := by
  refine ⟨fun k a e hk => ?_, ht, fun _ _ h => h⟩
  obtain ⟨c, h1, h2⟩ := wget_some hk
  obtain ⟨c', h3, h4⟩ := xpush_old h h1 h2
  exact ⟨e, by rw [wget_of h3]; exact h4⟩
/-- one named int more -/
theorem xExt.name {cw : xWc} {tys : xTy} {io : List Nat} (u : Nat) : xExt cw tys io cw tys (io ++ [u]) := by
  refine ⟨fun _ _ e h => ⟨e, h⟩, fun _ _ h => h, fun n v hn => ?_⟩
  rw [xget_eq] at hn ⊢
  rw [List.getElem?_append_left (List.getElem?_eq_some_iff.mp hn).1, hn]
theorem xRf.ext {fc : List (Nat × Nat × Bool)} {io io' : List Nat} (E : ∀ n u, xget io n = some u → xget io' n = some u) (h : xRf fc io) : xRf fc io' := by
  intro q hq
  obtain ⟨u, v, h1, h2, h3⟩ := h q hq
  exact ⟨u, v, E _ _ h1, E _ _ h2, h3⟩
theorem xRb.get {bd : List (Nat × Nat)} {io : List Nat} (h : xRb bd io) {n u : Nat} (hu : xget io n = some u) : ∃ q, xget bd n = some q ∧ u < 4294967296 ∧ q.1 ≤ xbs u ∧ xbs u ≤ q.2 := by
  have hl := xrel_len h
  rw [xget_eq] at hu
  have h1 := (List.getElem?_eq_some_iff.mp hu).1
  have h2 : xget bd n = some (bd[n]'(by omega)) := by rw [xget_eq]; exact List.getElem?_eq_getElem _
  obtain ⟨u', h3, h4⟩ := xrel_get h h2
  rw [xget_eq, hu] at h3
  cases h3
  exact ⟨_, h2, h4⟩
theorem xRb.app {bd : List (Nat × Nat)} {io : List Nat} (h : xRb bd io) {u lo hi : Nat} (hu : u < 4294967296) (h1 : lo ≤ xbs u) (h2 : xbs u ≤ hi) : xRb (bd ++ [(lo, hi)]) (io ++ [u]) := xrel_app (m := [(lo, hi)]) (m' := [u]) ⟨⟨hu, h1, h2⟩, trivial⟩ h
theorem xRb.new {bd : List (Nat × Nat)} {io : List Nat} (h : xRb bd io) (u : Nat) : xget (io ++ [u]) bd.length = some u := by
  rw [xget_eq, xrel_len h]
  simp
theorem xRb.set {bd : List (Nat × Nat)} {io : List Nat} (h : xRb bd io) {n u lo hi : Nat} (hu : xget io n = some u) (h1 : lo ≤ xbs u) (h2 : xbs u ≤ hi) : xRb (xset (lo, hi) bd n) io := by
  obtain ⟨q, -, h4, -, -⟩ := h.get hu
  have h5 := xrel_set (a := (lo, hi)) (b := u) (R := fun (q : Nat × Nat) u => u < 4294967296 ∧ q.1 ≤ xbs u ∧ xbs u ≤ q.2) ⟨h4, h1, h2⟩ h n
  have h6 : xset u io n = io := by
    rw [xget_eq] at hu
    rw [xset_eq]
    obtain ⟨h7, h8⟩ := List.getElem?_eq_some_iff.mp hu
    rw [← h8]
    exact List.set_getElem_self _
  rw [h6] at h5
  exact h5
