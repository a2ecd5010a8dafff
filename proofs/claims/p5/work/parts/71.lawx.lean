/-! the law's own steps: the script is a row of L ints that nobody changes -/
def xSX (L : Nat) (us : Nat → Nat) (g : xG) (A : Nat → Prop) (s : State) : Prop := ∃ xs : Nat → Int32, va_X (g.2.2 99) L xs s s.heap ∧ g.2.2 99 < s.heap.size ∧ ¬ A (g.2.2 99) ∧ ∀ j, j < L → xs j = nI (us j) ∧ us j < 4294967296
def xLdX (L : Nat) (us : Nat → Nat) (d : Nat) (M : xM) (σ : xS) (fs : List xS) : Prop := xMb M → xpos M σ → ∀ (p : Program) (l : Launch) (e : Env) (R : Room) (s : State) (m : MethodId) (args : Array Value) (below : List Frame) (meth : Method) (c : Code) (D : va_G) (A : Nat → Prop) (g : xG) (cw0 : xWc) (tys0 : xTy) (io0 : List Nat) (Q : State → Prop), xCx p R s m args meth c A g io0 d M → xSX L us g A s → (∀ φ ∈ fs, xpos M φ → xOk p l e R s m args below meth c D A M.2.2.1 g cw0 tys0 io0 Q φ) → xOk p l e R s m args below meth c D A M.2.2.1 g cw0 tys0 io0 Q σ
def xToX (L : Nat) (us : Nat → Nat) (d : Nat) (M : xM) (σ : xS) (P : xS → Prop) : Prop := ∃ τ, xLdX L us d M σ [τ] ∧ P τ
section XLX
variable {L d p0 pc ln x y ix n : Nat} {us : Nat → Nat} {M : xM} {σ τ : xS} {fs : List xS} {P P' : xS → Prop} {tl : List xI} {lo : xLo} {st : List xV} {hp : xH} {va : xV}
theorem xLd.toX (h : xLd d M σ fs) : xLdX L us d M σ fs := fun hM hpos p l e R s m args below meth c D A g cw0 tys0 io0 Q C _ hQ => h hM hpos p l e R s m args below meth c D A g cw0 tys0 io0 Q C hQ
theorem xthenX (h1 : xLdX L us d M σ [τ]) (h2 : xLdX L us d M τ fs) : xLdX L us d M σ fs := fun hM hpos p l e R s m args below meth c D A g cw0 tys0 io0 Q C X hQ => h1 hM hpos p l e R s m args below meth c D A g cw0 tys0 io0 Q C X (fun φ hφ hp => by
  have e1 := List.mem_singleton.mp hφ
  subst e1
  exact h2 hM hp p l e R s m args below meth c D A g cw0 tys0 io0 Q C X hQ)
theorem xTo.toX (h : xTo d M σ P) : xToX L us d M σ P := by
  obtain ⟨τ, h1, h2⟩ := h
  exact ⟨τ, h1.toX, h2⟩
theorem xg_tX (h1 : xLdX L us d M σ [τ]) (h2 : xToX L us d M τ P) : xToX L us d M σ P := by
  obtain ⟨φ, h3, h4⟩ := h2
  exact ⟨φ, xthenX h1 h3, h4⟩
theorem xToX.bind (h1 : xToX L us d M σ P) (h2 : ∀ τ, P τ → xToX L us d M τ P') : xToX L us d M σ P' := by
  obtain ⟨φ, h3, h4⟩ := h1
  exact xg_tX h3 (h2 φ h4)
theorem xg_sldX (hn : xnm hp.2.1 va = (0, n)) (h : n < L) (hL : L < 2147483648) : xLdX L us d M (p0, (pc, ln, 10, x, y, ix) :: tl, lo, va :: (8, 99) :: st, hp) [(pc + ln, tl, lo, (0, us n) :: st, hp)] := by
  intro hM hpos p l e R s m args below meth c D A g cw0 tys0 io0 Q C X hQ cw tys io H locs ls lv sv hE hK hP hD hS hlv hlo hsv hh
  obtain ⟨q1, q2, q3, q4⟩ := hpos
  have q1 : pc = p0 := q1
  subst q1
  obtain ⟨t', z3, hdec, c0⟩ := q2
  have z4 : xget xopi 10 = some (fun _ => .iaload, xPn 1) := rfl
  have z3 : xget xopi 10 = some t' := z3
  rw [z4] at z3
  cases z3
  have a1 : ln = 1 := c0
  subst a1
  have hdec : decode M.2.1 pc = .ok (.iaload, 1) := hdec
  obtain ⟨wa, sv1, rfl, r1, hs1⟩ := xrel_cons hsv
  have e1 := xnm_ok hh.2.1 r1
  rw [hn] at e1
  obtain ⟨-, e1⟩ := e1
  subst e1
  obtain ⟨wb, sv2, rfl, r2, hs2⟩ := xrel_cons hs1
  have e2 : wb = .ref (g.2.2 99) := r2
  subst e2
  obtain ⟨hx, hb, -⟩ := id C
  obtain ⟨xs, x1, x2, x3, x4⟩ := X
  obtain ⟨x5, x6⟩ := x4 n h
  refine va_sld (xs := xs) hx hb x1 x2 x3 hS (vp_in_nI h (by omega)) hdec ?_
  rw [nI_clamp (by omega), x5]
  refine hQ _ List.mem_cons_self ⟨?_, q4⟩ cw tys io H locs ls lv (.int _ :: sv2) hE hK hP hD hS hlv hlo ⟨⟨x6, rfl⟩, hs2⟩ hh
  cases tl with
  | nil => trivial
  | cons a b => exact q3
theorem xg_slnX (hL : L < 2147483648) : xLdX L us d M (p0, (pc, ln, 31, x, y, ix) :: tl, lo, (8, 99) :: st, hp) [(pc + ln, tl, lo, (0, L) :: st, hp)] := by
  intro hM hpos p l e R s m args below meth c D A g cw0 tys0 io0 Q C X hQ cw tys io H locs ls lv sv hE hK hP hD hS hlv hlo hsv hh
  obtain ⟨q1, q2, q3, q4⟩ := hpos
  have q1 : pc = p0 := q1
  subst q1
  obtain ⟨t', z3, hdec, c0⟩ := q2
  have z4 : xget xopi 31 = some (fun _ => .arraylength, xPn 1) := rfl
  have z3 : xget xopi 31 = some t' := z3
  rw [z4] at z3
  cases z3
  have a1 : ln = 1 := c0
  subst a1
  have hdec : decode M.2.1 pc = .ok (.arraylength, 1) := hdec
  obtain ⟨wb, sv2, rfl, r2, hs2⟩ := xrel_cons hsv
  have e2 : wb = .ref (g.2.2 99) := r2
  subst e2
  obtain ⟨hx, hb, -⟩ := id C
  obtain ⟨xs, x1, x2, x3, x4⟩ := X
  refine va_slen (xs := xs) hx hb x1 x2 x3 hS hdec ?_
  refine hQ _ List.mem_cons_self ⟨?_, q4⟩ cw tys io H locs ls lv (.int _ :: sv2) hE hK hP hD hS hlv hlo ⟨⟨by omega, rfl⟩, hs2⟩ hh
  cases tl with
  | nil => trivial
  | cons a b => exact q3
end XLX
