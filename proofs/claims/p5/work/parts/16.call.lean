/-! calls: a method's run is its contract -/
theorem lw_goodIn {w : Cond} (h : w ∈ lw_gt) : GoodIn lw_gt (w :: lw_gt) := by
  intro x hx
  rcases List.mem_cons.mp hx with rfl | hx
  · exact ⟨h, good_of_word (List.mem_filter.mp h).2⟩
  · exact ⟨hx, good_of_word (List.mem_filter.mp hx).2⟩
def xPre (D : va_G) (g : xG) (cw : xWc) (tys : xTy) (io : List Nat) (av : List Value) (sz : Nat) : Array Value → State → Prop := va_Pc av (fun U => U.heap.size = sz ∧ va_P D vwCl cw.flatten U.heap ∧ va_K D vwCl tys U ∧ va_D (fun _ => True) cw.flatten ∧ xStat g (va_A cw.flatten sz) U U.heap ∧ (g.1 = true → xScr g (va_A cw.flatten sz) U io) ∧ xNw U)
abbrev xU := xWc × xTy × List Nat × xS
def xBk (D : va_G) (g : xG) (A : Nat → Prop) (cw : xWc) (tys : xTy) (io : List Nat) (fs : List xS) (u : xU) (t : State) : Prop := u.2.2.2 ∈ fs ∧ xExt cw tys io u.1 u.2.1 u.2.2.1 ∧ va_P D vwCl u.1.flatten t.heap ∧ va_K D vwCl u.2.1 t ∧ va_D A u.1.flatten ∧ xRh g u.2.2.2.2.2.2.2 u.1 u.2.1 u.2.2.1
def xQc (D : va_G) (g : xG) (A : Nat → Prop) (cw : xWc) (tys : xTy) (io : List Nat) (fs : List xS) (rk : Nat) : Array Value → State → Outcome → State → Prop := match rk with
  | 0 => va_Qv (fun u : xU => xret 0 u.2.2.2 = some []) (xBk D g A cw tys io fs) A
  | 1 => va_Qi (fun r (u : xU) => ∃ v, xret 1 u.2.2.2 = some [v] ∧ xRv g u.1 u.2.2.1 v (.int r)) (xBk D g A cw tys io fs) A
  | 2 => va_Ql (fun r (u : xU) => ∃ v, xret 2 u.2.2.2 = some [v] ∧ xRv g u.1 u.2.2.1 v (.long r)) (xBk D g A cw tys io fs) A
  | 3 => va_Qq (fun r (u : xU) => ∃ v, xret 3 u.2.2.2 = some [v] ∧ xRv g u.1 u.2.2.1 v (va_rf r)) (xBk D g A cw tys io fs) A
  | _ => va_Qi (fun r (u : xU) => ∃ v, xret 4 u.2.2.2 = some [v] ∧ xRv g u.1 u.2.2.1 v (.int r)) (xBk D g A cw tys io fs) A
theorem xwds_ok {g : xG} {cw : xWc} {io : List Nat} : ∀ {vs : List xV} {av : List Value}, xrel (xRv g cw io) vs av → (lg_sl av).length = xwds vs
  | [], [], _ => rfl
  | v :: vs, a :: av, h => by
    have ih := xwds_ok h.2
    have hc := xcat4 h.1
    have e1 : lg_sl (a :: av) = (if a.category = 2 then [Slot.val a, .second] else [.val a]) ++ lg_sl av := rfl
    have e2 : xwds (v :: vs) = cond (Nat.beq v.1 4) (xwds vs + 2) (xwds vs + 1) := rfl
    rw [e1, e2, List.length_append, ih, ← hc]
    by_cases h2 : a.category = 2
    · rw [if_pos h2, h2]
      show 2 + _ = _ + 2
      omega
    · have h3 : (a.category == 2) = false := by simp [h2]
      rw [if_neg h2, h3]
      show 1 + _ = _ + 1
      omega
  | [], _ :: _, h => h.elim
  | _ :: _, [], h => h.elim
theorem xcsum {g : xG} {cw : xWc} {io : List Nat} : ∀ {vs : List xV} {av : List Value}, xrel (xRv g cw io) vs av → (av.map fun v => v.category).sum ≤ xwds vs
  | [], [], _ => Nat.le_refl _
  | v :: vs, a :: av, h => by
    have ih := xcsum h.2
    have hc := xcat4 h.1
    have e2 : xwds (v :: vs) = cond (Nat.beq v.1 4) (xwds vs + 2) (xwds vs + 1) := rfl
    rw [e2, List.map_cons, List.sum_cons, ← hc]
    by_cases h2 : a.category = 2
    · rw [h2]
      show 2 + _ ≤ _ + 2
      omega
    · have h3 : (a.category == 2) = false := by simp [h2]
      have h4 : a.category ≤ 1 := by
        have := xcatle a
        omega
      rw [h3]
      show _ ≤ _ + 1
      omega
  | [], _ :: _, h => h.elim
  | _ :: _, [], h => h.elim
theorem xarg_ok {g : xG} {cw : xWc} {io : List Nat} : ∀ {vs : List xV} {av : List Value}, xrel (xRv g cw io) vs av → ∀ i, xrel (fun (x : Nat × xV) (y : Nat × Value) => x.1 = y.1 ∧ xRv g cw io x.2 y.2) (xarg vs i) (lv_args i av)
  | [], [], _, _ => trivial
  | v :: vs, a :: av, h, i => by
    have hc := xcat4 h.1
    have e1 : lv_args i (a :: av) = (i, a) :: lv_args (if a.category = 2 then i + 2 else i + 1) av := rfl
    have e2 : xarg (v :: vs) i = (i, v) :: xarg vs (cond (Nat.beq v.1 4) (i + 2) (i + 1)) := rfl
    have e3 : cond (Nat.beq v.1 4) (i + 2) (i + 1) = (if a.category = 2 then i + 2 else i + 1) := by
      rw [← hc]
      by_cases h2 : a.category = 2
      · rw [if_pos h2, h2]; rfl
      · have h3 : (a.category == 2) = false := by simp [h2]
        rw [if_neg h2, h3]
        rfl
    rw [e1, e2, e3]
    exact ⟨⟨rfl, h.1⟩, xarg_ok h.2 _⟩
  | [], _ :: _, h, _ => h.elim
  | _ :: _, [], h, _ => h.elim
/-- what a return's state is -/
theorem xret_some {rk : Nat} {φ : xS} {r : List xV} (h : xret rk φ = some r) : ∃ (pc : Nat) (i : xI) (tl : List xI) (lo : xLo) (st : List xV) (hp : xH), φ = (pc, i :: tl, lo, st, hp) ∧ i.2.2.1 = 12 ∧ ((rk = 0 ∧ i.2.2.2.2.1 = 0 ∧ st = [] ∧ r = []) ∨ (rk ≠ 0 ∧ ∃ v, st = [v] ∧ ((rk = 1 ∧ i.2.2.2.2.1 = 1 ∧ xisi v = true ∧ r = [v]) ∨ (rk = 2 ∧ i.2.2.2.2.1 = 2 ∧ v.1 = 4 ∧ r = [v]) ∨ (rk = 3 ∧ i.2.2.2.2.1 = 3 ∧ xisr v = true ∧ r = [v]) ∨ (i.2.2.2.2.1 = 1 ∧ xis01 (xnm hp.2.1 v) = true ∧ r = [xnm hp.2.1 v] ∧ rk ≠ 1 ∧ rk ≠ 2 ∧ rk ≠ 3)))) := by
  obtain ⟨pc, cs, lo, st, hp⟩ := φ
  cases cs with
  | nil => cases h
  | cons i tl =>
    have h' : xif (Nat.beq i.2.2.1 12) (cond (Nat.beq rk 0) (xif (Nat.beq i.2.2.2.2.1 0 && Nat.beq st.length 0) (some [])) (xhd st fun v s1 => xif (Nat.beq s1.length 0) (cond (Nat.beq rk 1) (xif (Nat.beq i.2.2.2.2.1 1 && xisi v) (some [v])) (cond (Nat.beq rk 2) (xif (Nat.beq i.2.2.2.2.1 2 && Nat.beq v.1 4) (some [v])) (cond (Nat.beq rk 3) (xif (Nat.beq i.2.2.2.2.1 3 && xisr v) (some [v])) (xif (Nat.beq i.2.2.2.2.1 1) (xif (xis01 (xnm hp.2.1 v)) (some [xnm hp.2.1 v])))))))) = some r := h
    obtain ⟨h1, h2⟩ := xif_some h'
    refine ⟨pc, i, tl, lo, st, hp, rfl, xbeq h1, ?_⟩
    cases h0 : Nat.beq rk 0 with
    | true =>
      rw [h0, cond_true] at h2
      obtain ⟨h3, h4⟩ := xif_some h2
      obtain ⟨h5, h6⟩ := Bool.and_eq_true_iff.mp h3
      cases h4
      exact Or.inl ⟨xbeq h0, xbeq h5, List.length_eq_zero_iff.mp (xbeq h6), rfl⟩
    | false =>
      rw [h0, cond_false] at h2
      obtain ⟨v, s1, rfl, h3⟩ := xhd_some h2
      obtain ⟨h4, h5⟩ := xif_some h3
      have e : s1 = [] := List.length_eq_zero_iff.mp (xbeq h4)
      subst e
      refine Or.inr ⟨xnbeq h0, v, rfl, ?_⟩
      cases k1 : Nat.beq rk 1 with
      | true =>
        rw [k1, cond_true] at h5
        obtain ⟨h6, h7⟩ := xif_some h5
        obtain ⟨h8, h9⟩ := Bool.and_eq_true_iff.mp h6
        cases h7
        exact Or.inl ⟨xbeq k1, xbeq h8, h9, rfl⟩
      | false =>
        rw [k1, cond_false] at h5
        cases k2 : Nat.beq rk 2 with
        | true =>
          rw [k2, cond_true] at h5
          obtain ⟨h6, h7⟩ := xif_some h5
          obtain ⟨h8, h9⟩ := Bool.and_eq_true_iff.mp h6
          cases h7
          exact Or.inr (Or.inl ⟨xbeq k2, xbeq h8, xbeq h9, rfl⟩)
        | false =>
          rw [k2, cond_false] at h5
          cases k3 : Nat.beq rk 3 with
          | true =>
            rw [k3, cond_true] at h5
            obtain ⟨h6, h7⟩ := xif_some h5
            obtain ⟨h8, h9⟩ := Bool.and_eq_true_iff.mp h6
            cases h7
            exact Or.inr (Or.inr (Or.inl ⟨xbeq k3, xbeq h8, h9, rfl⟩))
          | false =>
            rw [k3, cond_false] at h5
            obtain ⟨h6, h7⟩ := xif_some h5
            obtain ⟨h8, h9⟩ := xif_some h7
            cases h9
            exact Or.inr (Or.inr (Or.inr ⟨xbeq h6, h8, rfl, xnbeq k1, xnbeq k2, xnbeq k3⟩))
theorem xret_dec {M : xM} {pc : Nat} {i : xI} {tl : List xI} {lo : xLo} {st : List xV} {hp : xH} (hpos : xpos M (pc, i :: tl, lo, st, hp)) (h : i.2.2.1 = 12) : decode M.2.1 pc = .ok (xretI i.2.2.2.2.1, 1) := by
  obtain ⟨h1, ⟨t, h2, h3, h4⟩, -⟩ := hpos
  have h1 : i.1 = pc := h1
  rw [h] at h2
  have e : xget xopi 12 = some (fun e => xretI e.2.2.2.2.1, fun o e => xPn 1 o e ∧ e.2.2.2.2.1 < 4) := rfl
  rw [e] at h2
  cases h2
  have h5 : i.2.1 = 1 := h4.1
  rw [← h1, ← h5]
  exact h3
theorem xmet {ih : xK} (hI : xIHok ih) {l : Launch} {d' : Nat} {M' : xM} {vs : List xV} {w : List (List xE)} {bd : List (Nat × Nat)} {fc : List (Nat × Nat × Bool)} {r : Nat × Nat} {fs : List xS} {D : va_G} {g : xG} {cw : xWc} {tys : xTy} {io : List Nat} {av : List Value} (sz : Nat) (h : ih d' M' (0, [], xarg vs 0, [], (w, bd, fc, 0, 0, r)) = some fs) (hM : xMok M') (hvs : xrel (xRv g cw io) vs av) (hwd : xwds vs ≤ M'.2.2.1) (hh : xRh g (w, bd, fc, 0, 0, r) cw tys io) (hfs : ∀ φ ∈ fs, (∃ r, xret M'.2.2.2.2.2.1 φ = some r) ∧ φ.2.2.2.2.2.2.2.1 ≤ M'.2.2.2.2.2.2.1 ∧ φ.2.2.2.2.2.2.2.2.1 ≤ M'.2.2.2.2.2.2.2.1) : Met l M'.1 (Cond.code M'.1 M'.2.1 M'.2.2.1 M'.2.2.2.1 :: lw_gt) { frames := d', cells := M'.2.2.2.2.2.2.1, slots := M'.2.2.2.2.2.2.2.1, locals := 84 * d' } (xPre D g cw tys io av sz) (xQc D g (va_A cw.flatten sz) cw tys io fs M'.2.2.2.2.2.1) M'.2.2.2.2.2.2.1 M'.2.2.2.2.2.2.2.1 (va_A cw.flatten sz) := by
  refine Met.ofW (cc := M'.2.1) (maxL := M'.2.2.1) (ret := M'.2.2.2.1) hM.1.1 rfl ?_
  intro p e s m args below meth c s₁ B hml hv
  obtain ⟨rfl, hsz, hP, hK, hD0, hst, hsc⟩ := hv
  have hts0 := atoms_spec (ws := Cond.code M'.1 M'.2.1 M'.2.2.1 M'.2.2.2.1 :: lw_gt) B.pre
  have hts : ∀ w ∈ lw_gt, w.before av.toArray s = true := fun w hw => hts0 w (List.mem_cons_of_mem _ hw)
  have hown : s.vm.findClass M'.1.cls = some m.cls := findClass_of_methodNamed B.named
  have hnm : meth.name = M'.1.name := (name_of_methodNamed B.named B.method).1
  have hr := B.returns
  have hlocks := B.notSynchronized
  have hx := B.exec
  have hb := B.bytes
  subst hsz
  have hD := hD0.self (sz := s.heap.size)
  have hA : ∀ q : Nat, s.heap.size ≤ q → va_A cw.flatten s.heap.size q := fun q h => Or.inr h
  have hl := lv_entry av (n := M'.2.2.1) (by rw [xwds_ok hvs]; exact hwd)
  rw [lg_entry_eq]
  have C : xCx p (headSpec (Cond.code M'.1 M'.2.1 M'.2.2.1 M'.2.2.2.1 :: lw_gt) { frames := d', cells := M'.2.2.2.2.2.2.1, slots := M'.2.2.2.2.2.2.2.1, locals := 84 * d' }).room s m av.toArray meth c (va_A cw.flatten s.heap.size) g io d' M' := ⟨hx, hb, hml, hown, hts, hA, ⟨Nat.le_refl _, Nat.le_refl _, Nat.le_refl _, Nat.le_refl _⟩, hnm, hst, hsc⟩
  refine hI d' M' _ fs h hM.2 ⟨trivial, trivial⟩ p l e _ s m av.toArray below meth c D (va_A cw.flatten s.heap.size) g cw tys io _ C ?_ cw tys io s.heap [] _ _ [] xExt.rf hK hP hD va_S.rf hl (xarg_ok hvs 0) trivial hh
  intro φ hφ hpos cw' tys' io' H locs ls lv sv hE hK' hP' hD' hS' hlv hlo hsv hh'
  obtain ⟨⟨rr, hret⟩, hcn, hsl⟩ := hfs φ hφ
  have hret0 := hret
  obtain ⟨pc, i, tl, lo, st, hp, rfl, hop, hcase⟩ := xret_some hret
  have hdec := xret_dec hpos hop
  refine W.widen (k := M'.2.2.2.2.2.2.1) (n := M'.2.2.2.2.2.2.2.1) hcn hsl ?_
  have hrk := hM.1.2.2.2.2.2.2
  have hBk : ∀ t : State, t.heap = H → s.WarmedH t.vm → xBk D g (va_A cw.flatten s.heap.size) cw tys io fs (cw', tys', io', (pc, i :: tl, lo, st, hp)) t := fun t ht hW => ⟨hφ, hE, by rw [ht]; exact hP', va_K.moved hW.alike hK', hD', hh'⟩
  generalize hrke : M'.2.2.2.2.2.1 = rk at *
  rcases hcase with ⟨z0, z1, z2, z3⟩ | ⟨z0, v, z2, hcase⟩
  · subst z0
    subst z2
    have e : sv = [] := xrel_nil hsv
    subst e
    have hrk : M'.2.2.2.1 = none := hrk
    rw [z1] at hdec
    rw [hrk] at hr
    exact W.vret hx hb hr (fun t ht hW => ⟨⟨_, rfl, hret0.trans (congrArg some z3), hBk t ht hW⟩, hS'.F ht⟩) hS'.2.2 hdec
  · subst z2
    obtain ⟨wv, sv1, rfl, q1, q2⟩ := xrel_cons hsv
    have e : sv1 = [] := xrel_nil q2
    subst e
    rcases hcase with ⟨z1, z3, z4, z5⟩ | ⟨z1, z3, z4, z5⟩ | ⟨z1, z3, z4, z5⟩ | ⟨z3, z4, z5, n1, n2, n3⟩
    · subst z1
      have hrk : M'.2.2.2.1 = some .int := hrk
      rw [z3] at hdec
      rw [hrk] at hr
      obtain ⟨u, rfl⟩ := xisi_ok z4 q1
      exact W.iret hx hb hr (fun t ht hW => ⟨⟨u, _, rfl, ⟨v, by rw [hret0, z5], q1⟩, hBk t ht hW⟩, hS'.F ht⟩) hS'.2.2 hdec
    · subst z1
      have hrk : M'.2.2.2.1 = some .long := hrk
      rw [z3] at hdec
      rw [hrk] at hr
      obtain ⟨tv, uv⟩ := v
      simp only at z4
      subst z4
      have q1' : wv = .long (lN uv) := q1
      subst q1'
      exact W.lret hx hb hr (fun t ht hW => ⟨⟨_, _, rfl, ⟨_, by rw [hret0, z5], q1⟩, hBk t ht hW⟩, hS'.F ht⟩) hS'.2.2 hdec
    · subst z1
      obtain ⟨ty, hrk, hty⟩ : ∃ t, M'.2.2.2.1 = some t ∧ xtyR t := hrk
      rw [z3] at hdec
      rw [hrk] at hr
      have hv := xisr_ok z4 q1
      have hrf : ∃ o : Option Nat, wv = va_rf o := by
        rcases hv with ⟨a, rfl⟩ | rfl
        · exact ⟨some a, rfl⟩
        · exact ⟨none, rfl⟩
      obtain ⟨o, rfl⟩ := hrf
      exact W.aret hx hb hr hty (hv.symm.imp id id) (fun t ht hW => ⟨⟨o, _, rfl, ⟨v, by rw [hret0, z5], q1⟩, hBk t ht hW⟩, hS'.F ht⟩) hS'.2.2 hdec
    · have hrk4 : rk = 4 := by
        unfold xrk at hrk
        split at hrk
        · exact absurd rfl z0
        · exact absurd rfl n1
        · exact absurd rfl n2
        · exact absurd rfl n3
        · rfl
        · exact hrk.elim
      subst hrk4
      have hrk : M'.2.2.2.1 = some .boolean := hrk
      rw [z3] at hdec
      rw [hrk] at hr
      have q3 := xnm_ok hh'.2.1 q1
      have q3' : xRv g cw' io' (xnm hp.2.1 v) wv := q3
      have h01 := x01_ok z4 q3'
      have hu : ∃ u : Int32, wv = .int u ∧ narrow .boolean (.int u) = .int u := by
        rcases h01 with rfl | rfl
        · exact ⟨0, rfl, by decide⟩
        · exact ⟨1, rfl, by decide⟩
      obtain ⟨u, rfl, hnar⟩ := hu
      exact W.zret hx hb hr hnar (fun t ht hW => ⟨⟨u, _, rfl, ⟨_, by rw [hret0, z5], q3'⟩, hBk t ht hW⟩, hS'.F ht⟩) hS'.2.2 hdec
theorem xall_some {f : xS → Option (List xS)} {g : xS → Option xS} : ∀ {fs r : List xS}, xall f g fs = some r → ∀ φ ∈ fs, ∃ τ r1, g φ = some τ ∧ f τ = some r1 ∧ ∀ x ∈ r1, x ∈ r
  | [], r, _, φ, h => absurd h List.not_mem_nil
  | [a], r, h, φ, hφ => by
    have e : φ = a := List.mem_singleton.mp hφ
    subst e
    obtain ⟨τ, h1, h2⟩ := xob_some (show xob (g φ) f = some r from h)
    exact ⟨τ, r, h1, h2, fun _ h => h⟩
  | a :: b :: t, r, h, φ, hφ => by
    obtain ⟨x, y, h1, h2, rfl⟩ := xspl_some (show xspl (xob (g a) f) (xall f g (b :: t)) = some r from h)
    rcases List.mem_cons.mp hφ with rfl | hφ
    · obtain ⟨τ, h3, h4⟩ := xob_some h1
      exact ⟨τ, x, h3, h4, fun z hz => List.mem_append_left _ hz⟩
    · obtain ⟨τ, r1, h3, h4, h5⟩ := xall_some h2 φ hφ
      exact ⟨τ, r1, h3, h4, fun z hz => List.mem_append_right _ (h5 z hz)⟩
theorem xback_some {M' : xM} {i : xI} {tl : List xI} {lo : xLo} {rest : List xV} {hp : xH} {φ τ : xS} (h : xback M' i tl lo rest hp φ = some τ) : ∃ r, xret M'.2.2.2.2.2.1 φ = some r ∧ φ.2.2.2.2.2.2.2.1 ≤ M'.2.2.2.2.2.2.1 ∧ φ.2.2.2.2.2.2.2.2.1 ≤ M'.2.2.2.2.2.2.2.1 ∧ τ = (i.1 + i.2.1, tl, lo, r ++ rest, (φ.2.2.2.2.1, φ.2.2.2.2.2.1, φ.2.2.2.2.2.2.1, hp.2.2.2.1 + M'.2.2.2.2.2.2.1, hp.2.2.2.2.1 + M'.2.2.2.2.2.2.2.1, φ.2.2.2.2.2.2.2.2.2.1, φ.2.2.2.2.2.2.2.2.2.2)) := by
  obtain ⟨r, h1, h2⟩ := xob_some h
  obtain ⟨h3, h4⟩ := xif_some h2
  obtain ⟨h5, h6⟩ := Bool.and_eq_true_iff.mp h3
  simp only [xN_eq] at h4
  cases h4
  exact ⟨r, h1, xble h5, xble h6, rfl⟩
