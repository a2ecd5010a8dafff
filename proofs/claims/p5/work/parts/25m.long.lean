/-! longs: Math's, questions, calls -/
theorem xt_as : Cond.static Lib.MathLoose.abs_long.x ∈ lw_gt := xtb 898 (by decide +kernel) rfl
theorem xt_ac : Cond.code Lib.MathLoose.abs_long.x Lib.MathLoose.abs_long.code 2 (some .long) ∈ lw_gt := xtb 899 (by decide +kernel) rfl
theorem xt_ls : Cond.static Lib.MathLoose.max_long.x ∈ lw_gt := xtb 948 (by decide +kernel) rfl
theorem xt_lc : Cond.code Lib.MathLoose.max_long.x Lib.MathLoose.max_long.code 4 (some .long) ∈ lw_gt := xtb 949 (by decide +kernel) rfl
theorem xt_ms : Cond.static Lib.MathLoose.min_long.x ∈ lw_gt := xtb 952 (by decide +kernel) rfl
theorem xt_mc : Cond.code Lib.MathLoose.min_long.x Lib.MathLoose.min_long.code 4 (some .long) ∈ lw_gt := xtb 953 (by decide +kernel) rfl
section XLO
variable {d p0 pc ln x y ix u v : Nat} {M : xM} {tl : List xI} {lo : xLo} {st : List xV} {hp : xH}
theorem xg_labs (hc : hp.2.2.2.1 ≤ M.2.2.2.2.2.2.1) (hs : hp.2.2.2.2.1 ≤ M.2.2.2.2.2.2.2.1) (hst : st.length ≤ 4) : xLd (d + 1) M (p0, (pc, ln, 75, x, y, ix) :: tl, lo, (4, u) :: st, hp) [(pc + ln, tl, lo, (4, xlp (if 0 < lN u then lN u else -(lN u))) :: st, hp)] := by
  intro hM hpos p l e R s m args below meth c D A g cw0 tys0 io0 Q C hQ cw tys io H locs ls lv sv hE hK hP hD hS hlv hlo hsv hh
  obtain ⟨q1, q2, q3, q4⟩ := hpos
  have q1 : pc = p0 := q1
  subst q1
  obtain ⟨t', z3, hdec, c0⟩ := q2
  have z4 : xget xopi 75 = some (fun e => .invokestatic e.2.2.2.2.2, xPmm Lib.MathLoose.abs_long.x) := rfl
  have z3 : xget xopi 75 = some t' := z3
  rw [z4] at z3
  cases z3
  obtain ⟨a1, c1⟩ := c0
  have a1 : ln = 3 := a1
  subst a1
  have hdec : decode M.2.1 pc = .ok (.invokestatic ix, 3) := hdec
  have c1 : Cond.methodLink M.1.cls ix Lib.MathLoose.abs_long.x ∈ lw_gt := c1
  obtain ⟨wa, sv2, rfl, r2, hs2⟩ := xrel_cons hsv
  have e1 : wa = .long (lN u) := r2
  subst e1
  have hlen := xrel_len hs2
  have hcs := xcats sv2
  obtain ⟨hx, hb, hml, hown, hts, hA, hR, -, -⟩ := id C
  refine va_mabs_long hx hb (by rw [hml, hlv.1]) hown (hts _ c1) (hts _ xt_as) (hts _ xt_mi) (hts _ xt_ac) (by omega) (by omega) (Nat.le_trans hc hR.2.2.1) (Nat.le_trans hs hR.2.2.2) hdec ?_
  rw [← xlp_eq (if 0 < lN u then lN u else -(lN u))]
  refine hQ _ List.mem_cons_self ⟨?_, q4⟩ cw tys io H locs ls lv (.long _ :: sv2) hE hK hP hD hS hlv hlo ⟨rfl, hs2⟩ hh
  cases tl with
  | nil => trivial
  | cons a b => exact q3
theorem xg_lmax (hc : hp.2.2.2.1 ≤ M.2.2.2.2.2.2.1) (hs : hp.2.2.2.2.1 ≤ M.2.2.2.2.2.2.2.1) (hst : st.length ≤ 4) : xLd (d + 1) M (p0, (pc, ln, 76, x, y, ix) :: tl, lo, (4, v) :: (4, u) :: st, hp) [(pc + ln, tl, lo, (4, xlp (if lN v < lN u then lN u else lN v)) :: st, hp)] := by
  intro hM hpos p l e R s m args below meth c D A g cw0 tys0 io0 Q C hQ cw tys io H locs ls lv sv hE hK hP hD hS hlv hlo hsv hh
  obtain ⟨q1, q2, q3, q4⟩ := hpos
  have q1 : pc = p0 := q1
  subst q1
  obtain ⟨t', z3, hdec, c0⟩ := q2
  have z4 : xget xopi 76 = some (fun e => .invokestatic e.2.2.2.2.2, xPmm Lib.MathLoose.max_long.x) := rfl
  have z3 : xget xopi 76 = some t' := z3
  rw [z4] at z3
  cases z3
  obtain ⟨a1, c1⟩ := c0
  have a1 : ln = 3 := a1
  subst a1
  have hdec : decode M.2.1 pc = .ok (.invokestatic ix, 3) := hdec
  have c1 : Cond.methodLink M.1.cls ix Lib.MathLoose.max_long.x ∈ lw_gt := c1
  obtain ⟨wb, sv1, rfl, r1, hs1⟩ := xrel_cons hsv
  obtain ⟨wa, sv2, rfl, r2, hs2⟩ := xrel_cons hs1
  have e1 : wa = .long (lN u) := r2
  subst e1
  have e1 : wb = .long (lN v) := r1
  subst e1
  have hlen := xrel_len hs2
  have hcs := xcats sv2
  obtain ⟨hx, hb, hml, hown, hts, hA, hR, -, -⟩ := id C
  refine va_mmax_long hx hb (by rw [hml, hlv.1]) hown (hts _ c1) (hts _ xt_ls) (hts _ xt_mi) (hts _ xt_lc) (by omega) (by omega) (Nat.le_trans hc hR.2.2.1) (Nat.le_trans hs hR.2.2.2) hdec ?_
  rw [← xlp_eq (if lN v < lN u then lN u else lN v)]
  refine hQ _ List.mem_cons_self ⟨?_, q4⟩ cw tys io H locs ls lv (.long _ :: sv2) hE hK hP hD hS hlv hlo ⟨rfl, hs2⟩ hh
  cases tl with
  | nil => trivial
  | cons a b => exact q3
theorem xg_lmin (hc : hp.2.2.2.1 ≤ M.2.2.2.2.2.2.1) (hs : hp.2.2.2.2.1 ≤ M.2.2.2.2.2.2.2.1) (hst : st.length ≤ 4) : xLd (d + 1) M (p0, (pc, ln, 77, x, y, ix) :: tl, lo, (4, v) :: (4, u) :: st, hp) [(pc + ln, tl, lo, (4, xlp (if lN v < lN u then lN v else lN u)) :: st, hp)] := by
  intro hM hpos p l e R s m args below meth c D A g cw0 tys0 io0 Q C hQ cw tys io H locs ls lv sv hE hK hP hD hS hlv hlo hsv hh
  obtain ⟨q1, q2, q3, q4⟩ := hpos
  have q1 : pc = p0 := q1
  subst q1
  obtain ⟨t', z3, hdec, c0⟩ := q2
  have z4 : xget xopi 77 = some (fun e => .invokestatic e.2.2.2.2.2, xPmm Lib.MathLoose.min_long.x) := rfl
  have z3 : xget xopi 77 = some t' := z3
  rw [z4] at z3
  cases z3
  obtain ⟨a1, c1⟩ := c0
  have a1 : ln = 3 := a1
  subst a1
  have hdec : decode M.2.1 pc = .ok (.invokestatic ix, 3) := hdec
  have c1 : Cond.methodLink M.1.cls ix Lib.MathLoose.min_long.x ∈ lw_gt := c1
  obtain ⟨wb, sv1, rfl, r1, hs1⟩ := xrel_cons hsv
  obtain ⟨wa, sv2, rfl, r2, hs2⟩ := xrel_cons hs1
  have e1 : wa = .long (lN u) := r2
  subst e1
  have e1 : wb = .long (lN v) := r1
  subst e1
  have hlen := xrel_len hs2
  have hcs := xcats sv2
  obtain ⟨hx, hb, hml, hown, hts, hA, hR, -, -⟩ := id C
  refine va_mmin_long hx hb (by rw [hml, hlv.1]) hown (hts _ c1) (hts _ xt_ms) (hts _ xt_mi) (hts _ xt_mc) (by omega) (by omega) (Nat.le_trans hc hR.2.2.1) (Nat.le_trans hs hR.2.2.2) hdec ?_
  rw [← xlp_eq (if lN v < lN u then lN v else lN u)]
  refine hQ _ List.mem_cons_self ⟨?_, q4⟩ cw tys io H locs ls lv (.long _ :: sv2) hE hK hP hD hS hlv hlo ⟨rfl, hs2⟩ hh
  cases tl with
  | nil => trivial
  | cons a b => exact q3
end XLO
theorem xpt_zero : xpt 0 = 0 := by
  have h := xpt_eq 0
  have h2 : nI (xpt 0) = nI 0 := h
  exact (xeq_iff (xpt_lt 0) (by decide)).mp h2
theorem xlc_z {u : Nat} (h : lN u = lN 0) : xpt (lg_cmp (lN u) (lN 0)) = 0 := by
  have e : lg_cmp (lN u) (lN 0) = 0 := by
    rw [h]
    decide
  rw [e]
  exact xpt_zero
theorem xlc_nz {u : Nat} (h : ¬ lN u = lN 0) : xpt (lg_cmp (lN u) (lN 0)) ≠ 0 := by
  intro z
  have e := xpt_eq (lg_cmp (lN u) (lN 0))
  rw [z] at e
  unfold lg_cmp at e
  split at e
  · exact absurd e (by decide)
  · exact absurd e (by decide)
section XCJ
variable {d x y ix p0 pc ln j : Nat} {M : xM} {P : xS → Prop} {tl : List xI} {lo : xLo} {st rest vs : List xV} {w : List (List xE)} {bd : List (Nat × Nat)} {fc : List (Nat × Nat × Bool)} {cn sl cn1 sl1 : Nat} {rr : Nat × Nat} {fl : List xV} {Qi : Nat → List (List xE) → Prop}
theorem xg_cVj (M' : xM) (hk : mget x = some M') (hP : xPj d M' ((2, j) :: vs) w bd fc rr Qi) (hy : y % 8 = 0) (ho : wget w j = some (.inl (y / 8, fl))) (hn : Nat.beq (st.take M'.2.2.2.2.1).length M'.2.2.2.2.1 = true) (hv : (st.take M'.2.2.2.2.1).reverse = vs) (hr : st.drop M'.2.2.2.2.1 = (2, j) :: rest) (hb : ((Nat.ble (cn + M'.2.2.2.2.2.2.1) M.2.2.2.2.2.2.1 && Nat.ble (xwds ((2, j) :: vs)) M'.2.2.1) && (Nat.ble (sl + M'.2.2.2.2.2.2.2.1) M.2.2.2.2.2.2.2.1 && Nat.ble (xwds rest) 8)) = true) (h1 : cn + M'.2.2.2.2.2.2.1 = cn1) (h2 : sl + M'.2.2.2.2.2.2.2.1 = sl1) (K : ∀ n w', Qi n w' → xTo (d + 1) M (pc + ln, tl, lo, (4, n) :: rest, (w', bd, fc, cn1, sl1, rr)) P) : xTo (d + 1) M (p0, (pc, ln, 13, x, y, ix) :: tl, lo, st, (w, bd, fc, cn, sl, rr)) P := by
  obtain ⟨n, w', q1, q2⟩ := hP
  exact xg_cV M' hk ⟨w', rfl, q2⟩ hy ho hn hv hr hb rfl h1 h2 (fun w2 e => by subst e; exact K n _ q1)
theorem xg_cSj (M' : xM) (hk : mget x = some M') (hP : xPj d M' vs w bd fc rr Qi) (hy : y % 8 = 2) (hn : Nat.beq (st.take M'.2.2.2.2.1).length M'.2.2.2.2.1 = true) (hv : (st.take M'.2.2.2.2.1).reverse = vs) (hr : st.drop M'.2.2.2.2.1 = rest) (hb : ((Nat.ble (cn + M'.2.2.2.2.2.2.1) M.2.2.2.2.2.2.1 && Nat.ble (xwds vs) M'.2.2.1) && (Nat.ble (sl + M'.2.2.2.2.2.2.2.1) M.2.2.2.2.2.2.2.1 && Nat.ble (xwds rest) 8)) = true) (h1 : cn + M'.2.2.2.2.2.2.1 = cn1) (h2 : sl + M'.2.2.2.2.2.2.2.1 = sl1) (K : ∀ n w', Qi n w' → xTo (d + 1) M (pc + ln, tl, lo, (4, n) :: rest, (w', bd, fc, cn1, sl1, rr)) P) : xTo (d + 1) M (p0, (pc, ln, 13, x, y, ix) :: tl, lo, st, (w, bd, fc, cn, sl, rr)) P := by
  obtain ⟨n, w', q1, q2⟩ := hP
  exact xg_cS M' hk ⟨w', rfl, q2⟩ hy hn hv hr hb rfl h1 h2 (fun w2 e => by subst e; exact K n _ q1)
theorem xg_cNj (M' : xM) (hk : mget x = some M') (hP : xPj d M' vs w bd fc rr Qi) (hy : y % 8 = 3) (hn : Nat.beq (st.take M'.2.2.2.2.1).length M'.2.2.2.2.1 = true) (hv : (st.take M'.2.2.2.2.1).reverse = vs) (hr : st.drop M'.2.2.2.2.1 = rest) (hb : ((Nat.ble (cn + M'.2.2.2.2.2.2.1) M.2.2.2.2.2.2.1 && Nat.ble (xwds vs) M'.2.2.1) && (Nat.ble (sl + M'.2.2.2.2.2.2.2.1) M.2.2.2.2.2.2.2.1 && Nat.ble (xwds rest) 8)) = true) (h1 : cn + M'.2.2.2.2.2.2.1 = cn1) (h2 : sl + M'.2.2.2.2.2.2.2.1 = sl1) (K : ∀ n w', Qi n w' → xTo (d + 1) M (pc + ln, tl, lo, (4, n) :: rest, (w', bd, fc, cn1, sl1, rr)) P) : xTo (d + 1) M (p0, (pc, ln, 13, x, y, ix) :: tl, lo, st, (w, bd, fc, cn, sl, rr)) P := by
  obtain ⟨n, w', q1, q2⟩ := hP
  exact xg_cN M' hk ⟨w', rfl, q2⟩ hy hn hv hr hb rfl h1 h2 (fun w2 e => by subst e; exact K n _ q1)
end XCJ
