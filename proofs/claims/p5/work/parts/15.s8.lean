/-! new cells, the two calls that are no calls -/
theorem xt_int : Cond.arrayClass .int ∈ lw_gt := xtb 196 (by decide +kernel) rfl
theorem xt_byte : Cond.arrayClass .byte ∈ lw_gt := xtb 195 (by decide +kernel) rfl
theorem xt_bool : Cond.arrayClass .boolean ∈ lw_gt := xtb 521 (by decide +kernel) rfl
theorem xt_long : Cond.arrayClass .long ∈ lw_gt := xtb 472 (by decide +kernel) rfl
theorem xt_sys : Cond.initialized "java/lang/System" ∈ lw_gt := xtb 144 (by decide +kernel) rfl
theorem xt_oi : Cond.instanceMethod Lib.objectInit ∈ lw_gt := xtb 153 (by decide +kernel) rfl
theorem xt_oc : Cond.code Lib.objectInit ⟨#[0xb1]⟩ 1 none ∈ lw_gt := xtb 154 (by decide +kernel) rfl
theorem xt_cs : Cond.static arraycopyName ∈ lw_gt := xtb 851 (by decide +kernel) rfl
theorem xt_cn : Cond.native arraycopyName ∈ lw_gt := xtb 852 (by decide +kernel) rfl
theorem xmk_some {M : xM} {hp : xH} {x : xE} {n nt : Nat} {k : xV → xH → Option (List xS)} {fs : List xS} (h : xmk M hp x n nt k = some fs) : hp.2.2.2.1 + 1 ≤ M.2.2.2.2.2.2.1 ∧ hp.2.2.2.2.1 + n ≤ M.2.2.2.2.2.2.2.1 ∧ ∃ w, xpush x hp.1 (hp.2.2.2.2.2.2 / 10) (hp.2.2.2.2.2.2 % 10) = some w ∧ k (2, hp.2.2.2.2.2.2) (w, hp.2.1, hp.2.2.1, hp.2.2.2.1 + 1, hp.2.2.2.2.1 + n, hp.2.2.2.2.2.1 + nt, hp.2.2.2.2.2.2 + 1) = some fs := by
  obtain ⟨h1, h2⟩ := xif_some h
  obtain ⟨h3, h4⟩ := Bool.and_eq_true_iff.mp h1
  obtain ⟨w, h5, h6⟩ := xob_some h2
  simp only [xN_eq] at h6
  exact ⟨xblt h3, xble h4, w, h5, h6⟩
/-- the world with a new cell at its end -/
theorem xnew_ok {g : xG} {cw : xWc} {tys tys' : xTy} {io : List Nat} {hp : xH} {x : xE} {w : List (List xE)} {ad : Nat} {e' : va_E} {cn sl nt : Nat} (hh : xRh g hp cw tys io) (hw : xpush x hp.1 (hp.2.2.2.2.2.2 / 10) (hp.2.2.2.2.2.2 % 10) = some w) (ht : ∀ (t : Nat) (q : ClassId × FieldType), tys[t]? = some q → tys'[t]? = some q) (hl : tys'.length = nt) (hr : xRe g cw tys' io x e') : ∃ cw', cw'.flatten = cw.flatten ++ [(ad, e')] ∧ xExt cw tys io cw' tys' io ∧ xRv g cw' io (2, hp.2.2.2.2.2.2) (.ref ad) ∧ xRh g (w, hp.2.1, hp.2.2.1, cn, sl, nt, hp.2.2.2.2.2.2 + 1) cw' tys' io := by
  obtain ⟨cw', h1, -⟩ := xpush_rel (R := fun (_ : xE) (_ : Nat × va_E) => True) (u := (ad, e')) trivial (xrel_imp (fun _ _ q => xrel_imp (fun _ _ _ => trivial) q) hh.1) hw
  have E : xExt cw tys io cw' tys' io := xExt.push h1 ht
  have E2 : xExt cw tys' io cw' tys' io := xExt.push h1 (fun _ _ h => h)
  obtain ⟨cw2, h2, h3⟩ := xpush_rel (R := fun (x : xE) (q : Nat × va_E) => xRe g cw' tys' io x q.2) (u := (ad, e')) (hr.ext E2) (hh.1.ext E) hw
  rw [h1] at h2
  cases h2
  obtain ⟨c, c1, c2⟩ := xpush_new h1
  exact ⟨cw', xpush_fl h1, E, ⟨ad, e', by rw [wget_of c1]; exact c2, rfl⟩, h3, hh.2.1, hh.2.2.1, hl⟩
theorem xdfl_ok {g : xG} {cw : xWc} {io : List Nat} : ∀ (fs : List xV), (∀ v ∈ fs, v = (0, 0) ∨ v = (3, 0) ∨ v = (4, 0)) → xrel (xRv g cw io) fs (fs.map xdv)
  | [], _ => trivial
  | v :: fs, h => by
    refine ⟨?_, xdfl_ok fs (fun x hx => h x (List.mem_cons_of_mem _ hx))⟩
    rcases h v List.mem_cons_self with rfl | rfl | rfl
    · exact ⟨by decide, rfl⟩
    · exact rfl
    · exact rfl
theorem xdfl_all : ∀ fs ∈ xdfl, ∀ v ∈ fs, v = (0, 0) ∨ v = (3, 0) ∨ v = (4, 0) := by decide +kernel
theorem xs_new : xHok (fun e => .new e.2.2.2.2.2, xPnew, xh_new) := by
  intro ih hI d M i tl lo st hp fs h hM he hd hl hn hc p l e R s m args below meth c D A g cw0 tys0 io0 Q C hQ
  obtain ⟨df, h1, h2⟩ := xob_some h
  obtain ⟨h3, h4, w, h5, h6⟩ := xmk_some h2
  have K := xgo hI h6 hM hn hc C hQ
  obtain ⟨hx, hb, -, hown, hts, hA, hR, -, -⟩ := C
  obtain ⟨a1, qc, c1, c2, c3, c4⟩ := hl
  have hd : decode M.2.1 i.1 = .ok (.new i.2.2.2.2.2, i.2.1) := hd
  rw [a1] at hd
  obtain ⟨Cn, T, N⟩ := qc
  obtain ⟨df', f0, f1, f2, f3, ty0, f4, f5⟩ := xcls_ok c1
  rw [xget_eq, f0] at h1
  cases h1
  have f3 : df.length = N := f3
  intro cw tys io H locs ls lv sv hE hK hP hD hS hlv hlo hst hh
  have rm1 : hp.2.2.2.1 + 1 ≤ R.cells := by omega
  have rm2 : hp.2.2.2.2.1 + N ≤ R.slots := by omega
  refine va_new (own := M.1.cls) (C := Cn) (T := T) (N := N) (ci := i.2.2.2.1) (fs := df.map xdv) hx hb hts f1 ty0 f4 hown (hts _ c2) (hts _ c3) (hts _ c4) hK hP hD hS hA c1 (fun j hj => ?_) rm1 rm2 hd fun q H1 hP1 hD1 hS1 => ?_
  · rw [f5 j hj]
    unfold vp_V
    rw [List.getD_eq_getElem?_getD, List.getD_eq_getElem?_getD, List.getElem?_map, List.getElem?_eq_getElem (by omega)]
    rfl
  · have hr : xRe g cw tys io (.inl (i.2.2.2.1, df)) (.inr (i.2.2.2.1, df.map xdv)) := ⟨rfl, xdfl_ok df (xdfl_all df (List.mem_of_getElem? f0))⟩
    obtain ⟨cw', e1, E, e2, e3⟩ := xnew_ok (ad := q) (cn := hp.2.2.2.1 + 1) (sl := hp.2.2.2.2.1 + df.length) (nt := hp.2.2.2.2.2.1 + 0) hh h5 (fun _ _ h => h) hh.2.2.2 hr
    rw [← e1] at hP1 hD1
    have k := K cw' tys io H1 locs ls lv (.ref q :: sv) (hE.tr E) hK hP1 hD1 hS1 hlv (xrel_imp (fun _ _ q => ⟨q.1, q.2.ext E⟩) hlo) ⟨e2, xrel_imp (fun _ _ q => q.ext E) hst⟩ e3
    simp only [a1, f3] at k
    exact k
theorem xzero (kd : Nat) (hk : kd ≤ 3) : ∃ (ty : FieldType) (f : xB), newarray.typeOf (xatp kd) = ty ∧ xkd kd ty f ∧ (∀ (N : Nat) (cA : ClassId), vp_cell cA (N, f) = arrV cA N (fun _ => defaultValue ty)) ∧ (∀ j, xbody f j = xdef kd) ∧ componentBytes ty ≤ 8 ∧ Cond.arrayClass (newarray.typeOf (xatp kd)) ∈ lw_gt := by
  rcases (show kd = 0 ∨ kd = 1 ∨ kd = 2 ∨ kd = 3 by omega) with rfl | rfl | rfl | rfl
  · exact ⟨.int, .inl (fun _ => 0), rfl, ⟨rfl, _, rfl⟩, fun _ _ => rfl, fun _ => rfl, by decide, xt_int⟩
  · exact ⟨.byte, .inl (fun _ => 0), rfl, ⟨rfl, _, rfl⟩, fun _ _ => rfl, fun _ => rfl, by decide, xt_byte⟩
  · exact ⟨.boolean, .inl (fun _ => 0), rfl, ⟨rfl, _, rfl⟩, fun _ _ => rfl, fun _ => rfl, by decide, xt_bool⟩
  · exact ⟨.long, .inr (.inl (fun _ => 0)), rfl, ⟨rfl, _, rfl⟩, fun _ _ => rfl, fun _ => rfl, by decide, xt_long⟩
theorem xtys_app {tys : xTy} {x : ClassId × FieldType} (t : Nat) (q : ClassId × FieldType) (h : tys[t]? = some q) : (tys ++ [x])[t]? = some q := by
  rw [List.getElem?_append_left (List.getElem?_eq_some_iff.mp h).1, h]
theorem xs_newarray : xHok (fun e => .newarray (xatp e.2.2.2.2.1), xPn 2, xh_newarray) := by
  intro ih hI d M i tl lo st hp fs h hM he hd hl hn hc p l e R s m args below meth c D A g cw0 tys0 io0 Q C hQ
  obtain ⟨nv, s1, rfl, h1⟩ := xhd_some h
  obtain ⟨h2, h3⟩ := xif_some h1
  obtain ⟨h4, h5⟩ := xif_some h3
  obtain ⟨h6, h7⟩ := Bool.and_eq_true_iff.mp h4
  obtain ⟨h8, h9, w, h10, h11⟩ := xmk_some h5
  have K := xgo hI h11 hM hn hc C hQ
  obtain ⟨hx, hb, -, hown, hts, hA, hR, -, -⟩ := C
  have a1 : i.2.1 = 2 := hl
  have hd : decode M.2.1 i.1 = .ok (.newarray (xatp i.2.2.2.2.1), i.2.1) := hd
  rw [a1] at hd
  obtain ⟨ty, f, t1, t2, t3, t4, t5, t6⟩ := xzero i.2.2.2.2.1 (xble h2)
  intro cw tys io H locs ls lv sv hE hK hP hD hS hlv hlo hst hh
  obtain ⟨wn, sv1, rfl, r1, hs1⟩ := xrel_cons hst
  have q1 := xnm_ok hh.2.1 r1
  have z := xbeq h6
  have y := xble h7
  generalize xnm hp.2.1 nv = nv' at *
  obtain ⟨tn, un⟩ := nv'
  simp only at z y
  subst z
  obtain ⟨-, rfl⟩ := q1
  simp only at h8 h9 h10 h11
  have rm1 : hp.2.2.2.1 + 1 ≤ R.cells := by omega
  have rm2 : hp.2.2.2.2.1 + un ≤ R.slots := by omega
  refine va_newa (ty := ty) (N' := un) (a0 := (un, f)) hx hb (hts _ t6) t1 hK hP hD hS hA (t3 un) (nI_pos (by omega)) (nI_clamp (by omega)) ?_ rm1 rm2 hd fun q cA H1 hK1 hP1 hD1 hS1 => ?_
  · calc un * componentBytes ty ≤ 1000000 * 8 := Nat.mul_le_mul y t5
      _ ≤ 536870912 := by decide
  · have hr : xRe g cw (tys ++ [(cA, ty)]) io (.inr (i.2.2.2.2.1, un, hp.2.2.2.2.2.1, [])) (.inl (cA, un, f)) := ⟨rfl, by show un < 2147483648; omega, ty, by rw [← hh.2.2.2]; simp, t2, fun j => t4 j⟩
    obtain ⟨cw', e1, E, e2, e3⟩ := xnew_ok (ad := q) (cn := hp.2.2.2.1 + 1) (sl := hp.2.2.2.2.1 + un) (nt := hp.2.2.2.2.2.1 + 1) hh h10 xtys_app (by rw [List.length_append, hh.2.2.2]; rfl) hr
    rw [← e1] at hP1 hD1
    have k := K cw' _ io H1 locs ls lv (.ref q :: sv1) (hE.tr E) hK1 hP1 hD1 hS1 hlv (xrel_imp (fun _ _ q => ⟨q.1, q.2.ext E⟩) hlo) ⟨e2, xrel_imp (fun _ _ q => q.ext E) hs1⟩ e3
    simp only [a1] at k
    exact k
theorem xs_anewarray : xHok (fun e => .anewarray e.2.2.2.2.2, xPan, xh_anewarray) := by
  intro ih hI d M i tl lo st hp fs h hM he hd hl hn hc p l e R s m args below meth c D A g cw0 tys0 io0 Q C hQ
  obtain ⟨nv, s1, rfl, h1⟩ := xhd_some h
  obtain ⟨h4, h5⟩ := xif_some h1
  obtain ⟨h6, h7⟩ := Bool.and_eq_true_iff.mp h4
  obtain ⟨h8, h9, w, h10, h11⟩ := xmk_some h5
  have K := xgo hI h11 hM hn hc C hQ
  obtain ⟨hx, hb, -, hown, hts, hA, hR, -, -, -, hnw⟩ := C
  obtain ⟨a1, c1⟩ := hl
  have hd : decode M.2.1 i.1 = .ok (.anewarray i.2.2.2.2.2, i.2.1) := hd
  rw [a1] at hd
  intro cw tys io H locs ls lv sv hE hK hP hD hS hlv hlo hst hh
  obtain ⟨wn, sv1, rfl, r1, hs1⟩ := xrel_cons hst
  have q1 := xnm_ok hh.2.1 r1
  have z := xbeq h6
  have y := xble h7
  generalize xnm hp.2.1 nv = nv' at *
  obtain ⟨tn, un⟩ := nv'
  simp only at z y
  subst z
  obtain ⟨-, rfl⟩ := q1
  simp only at h8 h9 h10 h11
  have rm1 : hp.2.2.2.1 + 1 ≤ R.cells := by omega
  have rm2 : hp.2.2.2.2.1 + un ≤ R.slots := by omega
  refine va_newq (own := M.1.cls) (C := "BentScreens$Told") (N' := un) hx hb hown (hts _ c1) hnw.2 hK hP hD hS hA (nI_pos (by omega)) (nI_clamp (by omega)) (by omega) rm1 rm2 hd fun q cA H1 hK1 hP1 hD1 hS1 => ?_
  have hr : xRe g cw (tys ++ [(cA, .object "BentScreens$Told")]) io (.inr (4, un, hp.2.2.2.2.2.1, [])) (.inl (cA, un, .inr (.inr (.inr (.inr (fun _ => none)))))) := ⟨rfl, by show un < 2147483648; omega, .object "BentScreens$Told", by rw [← hh.2.2.2]; simp, ⟨rfl, _, rfl⟩, fun j => rfl⟩
  obtain ⟨cw', e1, E, e2, e3⟩ := xnew_ok (ad := q) (cn := hp.2.2.2.1 + 1) (sl := hp.2.2.2.2.1 + un) (nt := hp.2.2.2.2.2.1 + 1) hh h10 xtys_app (by rw [List.length_append, hh.2.2.2]; rfl) hr
  rw [← e1] at hP1 hD1
  have k := K cw' _ io H1 locs ls lv (.ref q :: sv1) (hE.tr E) hK1 hP1 hD1 hS1 hlv (xrel_imp (fun _ _ q => ⟨q.1, q.2.ext E⟩) hlo) ⟨e2, xrel_imp (fun _ _ q => q.ext E) hs1⟩ e3
  simp only [a1] at k
  exact k
theorem xcatle (v : Value) : v.category ≤ 2 := by rcases lv_cat v with h | h <;> omega
theorem xcats : ∀ (l : List Value), (l.map fun v => v.category).sum ≤ 2 * l.length
  | [] => Nat.le_refl 0
  | v :: l => by
    have := xcats l
    have := xcatle v
    rw [List.map_cons, List.sum_cons, List.length_cons]
    omega
theorem xs_objinit : xHok (fun e => .invokespecial e.2.2.2.2.2, xPob, xh_objinit) := by
  intro ih hI d M i tl lo st hp fs h hM he hd hl hn hc p l e R s m args below meth c D A g cw0 tys0 io0 Q C hQ
  obtain ⟨r, s1, rfl, h1⟩ := xhd_some h
  obtain ⟨h2, h3⟩ := xif_some h1
  obtain ⟨h4, h5⟩ := Bool.and_eq_true_iff.mp h2
  obtain ⟨h6, h7⟩ := Bool.and_eq_true_iff.mp h5
  have K := xgo hI h3 hM hn hc C hQ
  obtain ⟨hx, hb, hml, hown, hts, hA, hR, -, -⟩ := C
  obtain ⟨a1, c1⟩ := hl
  have hd : decode M.2.1 i.1 = .ok (.invokespecial i.2.2.2.2.2, i.2.1) := hd
  rw [a1] at hd
  have h6 := xblt h6
  have h7 := xble h7
  intro cw tys io H locs ls lv sv hE hK hP hD hS hlv hlo hst hh
  obtain ⟨wa, sv1, rfl, r1, hs1⟩ := xrel_cons hst
  obtain ⟨tr, nr⟩ := r
  have z : tr = 2 := xbeq h4
  subst z
  obtain ⟨a, e', g1, rfl⟩ := xRv2 r1
  have k := K cw tys io H locs ls lv sv1 hE hK hP hD hS hlv hlo hs1 hh
  simp only [a1] at k
  have hlen := xrel_len hs1
  have hcs := xcats sv1
  refine W.objInit hx hb hown (hts _ c1) (hts _ xt_oi) (hts _ xt_oc) rfl (by show ls.size = _; rw [hlv.1, hml]) rfl hd (by omega) ?_ k
  show 2 * 0 + _ + 12 ≤ _
  omega
theorem xcopyw : nativeFrameWords "java/lang/System" "arraycopy" 5 ≤ 60 := by decide +kernel
theorem xs_copy : xHok (fun e => .invokestatic e.2.2.2.2.2, xPcp, xh_copy) := by
  intro ih hI d M i tl lo st hp fs h hM he hd hl hn hc p l e R s m args below meth c D A g cw0 tys0 io0 Q C hQ
  obtain ⟨nv, s1, rfl, h1⟩ := xhd_some h
  obtain ⟨dv, s2, rfl, h2⟩ := xhd_some h1
  obtain ⟨r, s3, rfl, h3⟩ := xhd_some h2
  obtain ⟨pv, s4, rfl, h4⟩ := xhd_some h3
  obtain ⟨r0, s5, rfl, h5⟩ := xhd_some h4
  obtain ⟨h6, h7⟩ := xif_some h5
  obtain ⟨h8, h9⟩ := Bool.and_eq_true_iff.mp h6
  obtain ⟨h10, h11⟩ := Bool.and_eq_true_iff.mp h8
  obtain ⟨h12, h13⟩ := Bool.and_eq_true_iff.mp h9
  obtain ⟨q0, h14, h15⟩ := xob_some h7
  obtain ⟨oa, rfl, h16⟩ := xarr_some h15
  obtain ⟨q, h17, h18⟩ := xob_some h16
  obtain ⟨ob, rfl, h19⟩ := xarr_some h18
  obtain ⟨h20, h21⟩ := xif_some h19
  obtain ⟨h22, h23⟩ := xif_some h21
  have K := xgo hI h23 hM hn hc C hQ
  obtain ⟨hx, hb, hml, hown, hts, hA, hR, -, -⟩ := C
  obtain ⟨a1, c1⟩ := hl
  have hd : decode M.2.1 i.1 = .ok (.invokestatic i.2.2.2.2.2, i.2.1) := hd
  rw [a1] at hd
  have h12 := xblt h12
  have h13 := xble h13
  intro cw tys io H locs ls lv sv hE hK hP hD hS hlv hlo hst hh
  obtain ⟨wn, sv1, rfl, r1, hs1⟩ := xrel_cons hst
  obtain ⟨wd, sv2, rfl, r2, hs2⟩ := xrel_cons hs1
  obtain ⟨wr, sv3, rfl, r3, hs3⟩ := xrel_cons hs2
  obtain ⟨wp, sv4, rfl, r4, hs4⟩ := xrel_cons hs3
  obtain ⟨w0, sv5, rfl, r5, hs5⟩ := xrel_cons hs4
  obtain ⟨tr, nr⟩ := r
  have z : tr = 2 := xbeq h10
  subst z
  obtain ⟨tr0, nr0⟩ := r0
  have z : tr0 = 2 := xbeq h11
  subst z
  obtain ⟨a, e', g1, rfl⟩ := xRv2 r3
  obtain ⟨a0, e0, j1, rfl⟩ := xRv2 r5
  obtain ⟨q', g2, g3⟩ := hh.1.get h17
  rw [g1] at g2
  cases g2
  obtain ⟨q0', j2, j3⟩ := hh.1.get h14
  rw [j1] at j2
  cases j2
  obtain ⟨kd, n1, t1, us⟩ := ob
  obtain ⟨kd0, n0, t0, us0⟩ := oa
  obtain ⟨b1, b2⟩ := Bool.and_eq_true_iff.mp h20
  obtain ⟨b3, b4⟩ := Bool.and_eq_true_iff.mp b1
  obtain ⟨b5, b6⟩ := Bool.and_eq_true_iff.mp b2
  obtain ⟨b7, b8⟩ := Bool.and_eq_true_iff.mp b5
  obtain ⟨b9, b10⟩ := Bool.and_eq_true_iff.mp b6
  obtain ⟨b11, b12⟩ := Bool.and_eq_true_iff.mp b10
  obtain ⟨d1, d2⟩ := Bool.and_eq_true_iff.mp h22
  obtain ⟨d3, d4⟩ := Bool.and_eq_true_iff.mp d1
  obtain ⟨d5, d6⟩ := Bool.and_eq_true_iff.mp d2
  have z : kd0 = kd := xbeq b3
  subst z
  have hk1 : kd0 ≤ 1 := xble b4
  have hu0 : us0 = [] := List.length_eq_zero_iff.mp (xbeq d5)
  have hu1 : us = [] := List.length_eq_zero_iff.mp (xbeq d6)
  subst hu0
  subst hu1
  obtain ⟨cA, f, ty, rfl, hn1, ht1, hkd, hall⟩ := xarr_get g3
  obtain ⟨cA0, f0, ty0, rfl, hn0, ht0, hkd0, hall0⟩ := xarr_get j3
  obtain ⟨qf, g8, -⟩ := wfl_get g1
  obtain ⟨qf0, j8, -⟩ := wfl_get j1
  have y1 := xnm_ok hh.2.1 r1
  have y2 := xnm_ok hh.2.1 r2
  have y4 := xnm_ok hh.2.1 r4
  have z1 := xbeq b7
  have z2 := xbeq b8
  have z3 := xbeq b9
  have z4 := xbeq b11
  have z5 := xbeq b12
  have z6 := xble d3
  have z7 := xble d4
  generalize xnm hp.2.1 nv = nv' at *
  generalize xnm hp.2.1 dv = dv' at *
  generalize xnm hp.2.1 pv = pv' at *
  obtain ⟨tn, un⟩ := nv'
  obtain ⟨td, ud⟩ := dv'
  obtain ⟨tp, up⟩ := pv'
  simp only at z1 z2 z3 z4 z5 z6 z7
  subst z1
  subst z2
  subst z3
  subst z4
  subst z5
  obtain ⟨-, rfl⟩ := y1
  obtain ⟨-, rfl⟩ := y2
  obtain ⟨-, rfl⟩ := y4
  have k := K cw tys io
  have hzero : ∃ (h h0 : Nat → Int32), f = .inl h ∧ f0 = .inl h0 ∧ ty = ty0 ∧ refKind ty = false ∧ (∀ j, h j = 0) ∧ (∀ j, h0 j = 0) ∧ fits ty (.int 0) = true := by
    rcases (show kd0 = 0 ∨ kd0 = 1 by omega) with rfl | rfl
    · obtain ⟨rfl, h, rfl⟩ := hkd
      obtain ⟨rfl, h0, rfl⟩ := hkd0
      exact ⟨h, h0, rfl, rfl, rfl, rfl, fun j => Value.int.inj (hall j), fun j => Value.int.inj (hall0 j), by decide⟩
    · obtain ⟨rfl, h, rfl⟩ := hkd
      obtain ⟨rfl, h0, rfl⟩ := hkd0
      exact ⟨h, h0, rfl, rfl, rfl, rfl, fun j => Value.int.inj (hall j), fun j => Value.int.inj (hall0 j), by decide⟩
  obtain ⟨hf, hf0, rfl, rfl, rfl, hprim, hz, hz0, hfit⟩ := hzero
  have hcn : (nI (0, un).2).toNatClampNeg = un := nI_clamp (by show un < 2147483648; omega)
  have hc0 : (nI 0).toNatClampNeg = 0 := nI_clamp (by decide)
  have hlen := xrel_len hs5
  have hcs := xcats sv5
  have hcw := xcopyw
  refine va_copyi hx hb (by rw [hml, hlv.1]) hown (hts _ c1) (hts _ xt_cn) (hts _ xt_cs) (hts _ xt_sys) hK hP hD hS qf0 qf t0 t1 j8 g8 ht0 ht1 hprim (nI_pos (by decide)) (nI_pos (by decide)) (nI_pos (by show un < 2147483648; omega)) ?_ ?_ ?_ (by omega) (by omega) hd fun H1 locs1 hP1 hD1 hS1 => ?_
  · rw [hcn]
    show (nI 0).toNatClampNeg + un ≤ n0
    rw [hc0]
    omega
  · rw [hcn]
    show (nI 0).toNatClampNeg + un ≤ n1
    rw [hc0]
    omega
  · intro j _
    rw [hz0]
    exact hfit
  · have efn : va_cpy hf0 hf (nI (0, 0).2).toNatClampNeg (nI (0, 0).2).toNatClampNeg (nI (0, un).2).toNatClampNeg = hf := by
      funext j
      unfold va_cpy
      split
      · rw [hz0, hz]
      · rfl
    rw [efn, xset_self g8] at hP1 hD1
    have k2 := k H1 locs1 ls lv sv5 hE hK hP1 hD1 hS1 hlv hlo hs5 hh
    simp only [a1] at k2
    exact k2
theorem xt_mi : Cond.initialized "java/lang/Math" ∈ lw_gt := xtb 139 (by decide +kernel) rfl
theorem xt_xs : Cond.static Lib.Math.max.name ∈ lw_gt := xtb 1164 (by decide +kernel) rfl
theorem xt_xc : Cond.code Lib.Math.max.name Lib.Math.max.code 2 (some .int) ∈ lw_gt := xtb 1165 (by decide +kernel) rfl
theorem xt_ns : Cond.static Lib.Math.min.name ∈ lw_gt := xtb 687 (by decide +kernel) rfl
theorem xt_nc : Cond.code Lib.Math.min.name Lib.Math.min.code 2 (some .int) ∈ lw_gt := xtb 688 (by decide +kernel) rfl
theorem xmm_ok {F : Nat → Nat → Nat} {y : MethodName} (hF : ∀ u v, u < 4294967296 → v < 4294967296 → F u v < 4294967296) (hrow : ∀ {p : Program} {l : Launch} {e : Env} {R : Room} {s : State} {m : MethodId} {args : Array Value} {below : List Frame} {meth : Method} {c : Code} {H : Heap} {locs : List Loc} {cells slots : Nat} {Q : State → Prop} {cc : ByteArray} {pc : Nat} {ls : Array Slot} {rest : List Value} {u v ix : Nat} {own : String}, p.tables.exec = Jvm.exec → c.code = cc → c.maxLocals = ls.size → s.vm.findClass own = some m.cls → (Cond.methodLink own ix y).before args s = true → (∀ w ∈ lw_gt, w.before args s = true) → 1 ≤ R.frames → (rest.map fun v => v.category).sum + 13 ≤ R.locals → cells ≤ R.cells → slots ≤ R.slots → u < 4294967296 → v < 4294967296 → decode cc pc = .ok (.invokestatic ix, 3) → W p l e R s m args below meth c H locs cells slots Q (F0 m (pc + 3) ls (.int (nI (F u v)) :: rest)) → W p l e R s m args below meth c H locs cells slots Q (F0 m pc ls (.int (nI v) :: .int (nI u) :: rest))) : xHok (fun e => .invokestatic e.2.2.2.2.2, xPmm y, xmm F) := by
  intro ih hI d M i tl lo st hp fs h hM he hd hl hn hc p l e R s m args below meth c D A g cw0 tys0 io0 Q C hQ
  obtain ⟨b, s1, rfl, h1⟩ := xhd_some h
  obtain ⟨a, s2, rfl, h2⟩ := xhd_some h1
  obtain ⟨h3, h4⟩ := xif_some h2
  rw [xN_eq] at h4
  obtain ⟨h5, h6⟩ := Bool.and_eq_true_iff.mp h3
  obtain ⟨h7, h8⟩ := Bool.and_eq_true_iff.mp h5
  obtain ⟨h9, h10⟩ := Bool.and_eq_true_iff.mp h6
  obtain ⟨h11, h12⟩ := Bool.and_eq_true_iff.mp h9
  obtain ⟨h13, h14⟩ := Bool.and_eq_true_iff.mp h10
  have K := xgo hI h4 hM hn hc C hQ
  obtain ⟨hx, hb, hml, hown, hts, hA, hR, -, -⟩ := C
  obtain ⟨a1, c1⟩ := hl
  have hd : decode M.2.1 i.1 = .ok (.invokestatic i.2.2.2.2.2, i.2.1) := hd
  rw [a1] at hd
  have h11 := xblt h11
  have h12 := xble h12
  have h13 := xble h13
  have h14 := xble h14
  intro cw tys io H locs ls lv sv hE hK hP hD hS hlv hlo hst hh
  obtain ⟨wb, sv1, rfl, r1, hs1⟩ := xrel_cons hst
  obtain ⟨wa, sv2, rfl, r2, hs2⟩ := xrel_cons hs1
  have q1 := xnm_ok hh.2.1 r1
  have q2 := xnm_ok hh.2.1 r2
  have z1 := xbeq h7
  have z2 := xbeq h8
  generalize xnm hp.2.1 b = b' at *
  generalize xnm hp.2.1 a = a' at *
  obtain ⟨tb, ub⟩ := b'
  obtain ⟨ta, ua⟩ := a'
  simp only at z1 z2
  subst z1
  subst z2
  obtain ⟨l1, rfl⟩ := q1
  obtain ⟨l2, rfl⟩ := q2
  have k := K cw tys io H locs ls lv (.int (nI (F ua ub)) :: sv2) hE hK hP hD hS hlv hlo ⟨⟨hF ua ub l2 l1, rfl⟩, hs2⟩ hh
  simp only [a1] at k
  have hlen := xrel_len hs2
  have hcs := xcats sv2
  have rm1 : hp.2.2.2.1 ≤ R.cells := by omega
  have rm2 : hp.2.2.2.2.1 ≤ R.slots := by omega
  exact hrow hx hb (by rw [hml, hlv.1]) hown (hts _ c1) hts (by omega) (by omega) rm1 rm2 l2 l1 hd k
theorem xs_max : xHok (fun e => .invokestatic e.2.2.2.2.2, xPmm Lib.Math.max.name, xh_max) := xmm_ok (fun u v hu hv => by
    unfold xmaxF
    cases Nat.blt (xbs u) (xbs v)
    · exact hu
    · exact hv) (fun {p l e R s m args below meth c H locs cells slots Q cc pc ls rest u v ix own} hx hb hml hown hlk hts h1 h2 h3 h4 hu hv hd k => by
    refine va_mmax hx hb hml hown hlk (hts _ xt_xs) (hts _ xt_mi) (hts _ xt_xc) h1 h2 h3 h4 hd ?_
    have e9 : (if nI u < nI v then nI v else nI u) = nI (xmaxF u v) := by
      unfold xmaxF
      cases hc : Nat.blt (xbs u) (xbs v) with
      | true => rw [if_pos ((xlt_iff hu hv).mpr (xblt hc)), cond_true]
      | false => rw [if_neg (fun z => by have := (xlt_iff hu hv).mp z; have := xnblt hc; omega), cond_false]
    rw [e9]
    exact k)
theorem xs_min : xHok (fun e => .invokestatic e.2.2.2.2.2, xPmm Lib.Math.min.name, xh_min) := xmm_ok (fun u v hu hv => by
    unfold xminF
    cases Nat.blt (xbs v) (xbs u)
    · exact hu
    · exact hv) (fun {p l e R s m args below meth c H locs cells slots Q cc pc ls rest u v ix own} hx hb hml hown hlk hts h1 h2 h3 h4 hu hv hd k => by
    refine va_mmin hx hb hml hown hlk (hts _ xt_ns) (hts _ xt_mi) (hts _ xt_nc) h1 h2 h3 h4 hd ?_
    have e9 : (if nI v < nI u then nI v else nI u) = nI (xminF u v) := by
      unfold xminF
      cases hc : Nat.blt (xbs v) (xbs u) with
      | true => rw [if_pos ((xlt_iff hv hu).mpr (xblt hc)), cond_true]
      | false => rw [if_neg (fun z => by have := (xlt_iff hv hu).mp z; have := xnblt hc; omega), cond_false]
    rw [e9]
    exact k)
theorem xs_ret : xHok (fun e => xretI e.2.2.2.2.1, fun o e => xPn 1 o e ∧ e.2.2.2.2.1 < 4, xh_ret) := by
  intro ih hI d M i tl lo st hp fs h hM he hd hl hn hc p l e R s m args below meth c D A g cw0 tys0 io0 Q C hQ
  have h : some [(i.1, i :: tl, lo, st, hp)] = some fs := h
  cases h
  exact hQ _ List.mem_cons_self ⟨rfl, he, hn, hc⟩
