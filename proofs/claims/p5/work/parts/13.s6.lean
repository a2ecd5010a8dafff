/-! cells: fields written, arrays -/
theorem xput_ok {f : xV → Bool} {kt : FieldType → Prop} {fin : Bool} {hh0 : xF} (hfk : ∀ (g : xG) (cw : xWc) (io : List Nat) (ty : FieldType) (v : xV) (w : Value), kt ty → f v = true → xRv g cw io v w → narrow ty w = w ∧ fits ty w = true) (hfin : fin = false ∨ ∀ M : xM, True) (heq : ∀ ih d M i tl lo st hp, hh0 ih d M i tl lo st hp = xput f ih d M i tl lo st hp) (hini : fin = true → ∀ (M : xM) (i : xI) (st : List xV), True) : ∀ (ih : xK), xIHok ih → ∀ (d : Nat) (M : xM) (i : xI) (tl : List xI) (lo : xLo) (st : List xV) (hp : xH) (fs : List xS), hh0 ih d M i tl lo st hp = some fs → xMb M → decode M.2.1 i.1 = .ok (.putfield i.2.2.2.2.2, i.2.1) → xPp fin kt M.1.cls i → (fin = true → M.1.name = "<init>") → xnx i tl → xcok M.1.cls M.2.1 tl → ∀ (p : Program) (l : Launch) (e : Env) (R : Room) (s : State) (m : MethodId) (args : Array Value) (below : List Frame) (meth : Method) (c : Code) (D : va_G) (A : Nat → Prop) (g : xG) (cw0 : xWc) (tys0 : xTy) (io0 : List Nat) (Q : State → Prop), xCx p R s m args meth c A g io0 d M → (∀ φ ∈ fs, xpos M φ → xOk p l e R s m args below meth c D A M.2.2.1 g cw0 tys0 io0 Q φ) → xOk p l e R s m args below meth c D A M.2.2.1 g cw0 tys0 io0 Q (i.1, i :: tl, lo, st, hp) := by
  intro ih hI d M i tl lo st hp fs h hM hd hl hname hn hc p l e R s m args below meth c D A g cw0 tys0 io0 Q C hQ
  rw [heq] at h
  obtain ⟨v, s1, rfl, h1⟩ := xhd_some h
  obtain ⟨r, s2, rfl, h2⟩ := xhd_some h1
  obtain ⟨h3, h4⟩ := xif_some h2
  obtain ⟨h5, h6⟩ := Bool.and_eq_true_iff.mp h3
  obtain ⟨q, h7, h8⟩ := xob_some h4
  obtain ⟨o, rfl, h9⟩ := xobj_some h8
  obtain ⟨h10, h11⟩ := xif_some h9
  obtain ⟨v0, h12, h13⟩ := xob_some h11
  have K := xgo hI h13 hM hn hc C hQ
  obtain ⟨hx, hb, -, hown, hts, -, -, hnm, -⟩ := C
  obtain ⟨a1, qc, ty, c1, c2, c3, c4, c5, c6, c7⟩ := hl
  rw [a1] at hd
  intro cw tys io H locs ls lv sv hE hK hP hD hS hlv hlo hst hh
  obtain ⟨wv, sv1, rfl, r1, hs1⟩ := xrel_cons hst
  obtain ⟨wa, sv2, rfl, r2, hs2⟩ := xrel_cons hs1
  obtain ⟨tr, nr⟩ := r
  have z : tr = 2 := xbeq h6
  subst z
  obtain ⟨a, e', g1, rfl⟩ := xRv2 r2
  obtain ⟨q', g2, g3⟩ := hh.1.get h7
  rw [g1] at g2
  cases g2
  obtain ⟨ci, fl⟩ := o
  cases e' with
  | inl y => exact g3.elim
  | inr o' =>
    obtain ⟨ci', fl'⟩ := o'
    obtain ⟨g4, g5⟩ := g3
    have g4 : ci = ci' := g4
    subst g4
    have z : ci = i.2.2.2.1 := xbeq h10
    subst z
    obtain ⟨w, g6, g7⟩ := xrel_get g5 h12
    obtain ⟨n, g8, g9⟩ := wfl_get g1
    rw [xget_eq] at g6
    obtain ⟨Cn, T, N⟩ := qc
    obtain ⟨fs0, -, f1, f2, -, ty0, f3, -⟩ := xcls_ok c1
    obtain ⟨n1, n2⟩ := hfk g cw io ty v wv c7 h5 r1
    have hlen : i.2.2.2.2.1 < fl'.length := (List.getElem?_eq_some_iff.mp g6).1
    have hnew : xRe g cw tys io (.inl (i.2.2.2.1, xset v fl i.2.2.2.2.1)) (.inr (i.2.2.2.1, fl'.set i.2.2.2.2.1 wv)) := ⟨rfl, by
      have := xrel_set (a := v) (b := wv) r1 g5 i.2.2.2.2.1
      rw [xset_eq wv] at this
      exact this⟩
    have fin_ : ∀ (H1 : Heap) (locs1 : List Loc), va_P D vwCl (cw.flatten.set n (a, .inr (i.2.2.2.1, fl'.set i.2.2.2.2.1 wv))) H1 → va_D A (cw.flatten.set n (a, .inr (i.2.2.2.1, fl'.set i.2.2.2.2.1 wv))) → va_S A s.heap H1 locs1 → W p l e R s m args below meth c H1 locs1 hp.2.2.2.1 hp.2.2.2.2.1 Q (F0 m (i.1 + 3) ls sv2) := by
      intro H1 locs1 hP1 hD1 hS1
      rw [g9] at hP1 hD1
      have E : xExt cw tys io (wset (a, .inr (i.2.2.2.1, fl'.set i.2.2.2.2.1 wv)) cw nr) tys io := xExt.set g1
      have k := K _ tys io H1 locs1 ls lv sv2 (hE.tr E) hK hP1 hD1 hS1 hlv (xrel_imp (fun _ _ q => ⟨q.1, q.2.ext E⟩) hlo) (xrel_imp (fun _ _ q => q.ext E) hs2) ⟨hh.1.set h7 g1 hnew, hh.2⟩
      simp only [a1] at k
      exact k
    cases fin with
    | false => exact va_put (own := M.1.cls) (C := Cn) (T := T) (N := N) hx hb hts f1 ty0 f3 f2 hown hK hP hD hS n g8 c1 i.2.2.2.2.1 c2 (hts _ c3) (fun _ z => z) c4 c6 n1 n2 hlen hd fin_
    | true => exact va_putF (own := M.1.cls) (C := Cn) (T := T) (N := N) hx hb hts f1 ty0 f3 f2 hown hK hP hD hS n g8 c1 i.2.2.2.2.1 c2 (hts _ c3) (fun _ z => z) c4 (by rw [hnm]; exact hname rfl) (c5 rfl) c6 n1 n2 hlen hd fin_
theorem xtyI_ok (g : xG) (cw : xWc) (io : List Nat) (ty : FieldType) (v : xV) (w : Value) (h : xtyI ty) (hv : xisi v = true) (hr : xRv g cw io v w) : narrow ty w = w ∧ fits ty w = true := by
  have h : ty = .int := h
  subst h
  obtain ⟨u, rfl⟩ := xisi_ok hv hr
  exact ⟨rfl, rfl⟩
theorem xtyR_ok (g : xG) (cw : xWc) (io : List Nat) (ty : FieldType) (v : xV) (w : Value) (h : xtyR ty) (hv : xisr v = true) (hr : xRv g cw io v w) : narrow ty w = w ∧ fits ty w = true := by
  rcases h with ⟨n, rfl⟩ | ⟨n, rfl⟩ <;> rcases xisr_ok hv hr with ⟨a, rfl⟩ | rfl <;> exact ⟨rfl, rfl⟩
theorem x01_ok {g : xG} {cw : xWc} {io : List Nat} {v : xV} {w : Value} (hv : xis01 v = true) (hr : xRv g cw io v w) : w = .int 0 ∨ w = .int 1 := by
  obtain ⟨t, n⟩ := v
  obtain ⟨h1, h2⟩ := Bool.and_eq_true_iff.mp hv
  have z : t = 0 := xbeq h1
  subst z
  have h2 : n ≤ 1 := xble h2
  obtain ⟨-, rfl⟩ := hr
  rcases (show n = 0 ∨ n = 1 by omega) with rfl | rfl
  · exact Or.inl rfl
  · exact Or.inr rfl
theorem xtyZ_ok (g : xG) (cw : xWc) (io : List Nat) (ty : FieldType) (v : xV) (w : Value) (h : xtyZ ty) (hv : xis01 v = true) (hr : xRv g cw io v w) : narrow ty w = w ∧ fits ty w = true := by
  have h : ty = .boolean := h
  subst h
  rcases x01_ok hv hr with rfl | rfl
  · exact ⟨by decide, by decide⟩
  · exact ⟨by decide, by decide⟩
theorem xs_putI : xHok (fun e => .putfield e.2.2.2.2.2, xPp false xtyI, xh_putI) := fun ih hI d M i tl lo st hp fs h hM _ hd hl hn hc => xput_ok xtyI_ok (Or.inl rfl) (fun _ _ _ _ _ _ _ _ => rfl) (fun _ _ _ _ => trivial) ih hI d M i tl lo st hp fs h hM hd hl (fun z => by cases z) hn hc
theorem xs_putZ : xHok (fun e => .putfield e.2.2.2.2.2, xPp false xtyZ, xh_putZ) := fun ih hI d M i tl lo st hp fs h hM _ hd hl hn hc => xput_ok xtyZ_ok (Or.inl rfl) (fun _ _ _ _ _ _ _ _ => rfl) (fun _ _ _ _ => trivial) ih hI d M i tl lo st hp fs h hM hd hl (fun z => by cases z) hn hc
theorem xs_putR : xHok (fun e => .putfield e.2.2.2.2.2, xPp false xtyR, xh_putR) := fun ih hI d M i tl lo st hp fs h hM _ hd hl hn hc => xput_ok xtyR_ok (Or.inl rfl) (fun _ _ _ _ _ _ _ _ => rfl) (fun _ _ _ _ => trivial) ih hI d M i tl lo st hp fs h hM hd hl (fun z => by cases z) hn hc
theorem xs_putFI : xHok (fun e => .putfield e.2.2.2.2.2, xPp true xtyI, xh_putFI) := fun ih hI d M i tl lo st hp fs h hM _ hd hl hn hc => by
  obtain ⟨h1, h2⟩ := xif_some h
  exact xput_ok (hh0 := xput xisi) xtyI_ok (Or.inr fun _ => trivial) (fun _ _ _ _ _ _ _ _ => rfl) (fun _ _ _ _ => trivial) ih hI d M i tl lo st hp fs h2 hM hd hl (fun _ => of_decide_eq_true h1) hn hc
theorem xs_putFR : xHok (fun e => .putfield e.2.2.2.2.2, xPp true xtyR, xh_putFR) := fun ih hI d M i tl lo st hp fs h hM _ hd hl hn hc => by
  obtain ⟨h1, h2⟩ := xif_some h
  exact xput_ok (hh0 := xput xisr) xtyR_ok (Or.inr fun _ => trivial) (fun _ _ _ _ _ _ _ _ => rfl) (fun _ _ _ _ => trivial) ih hI d M i tl lo st hp fs h2 hM hd hl (fun _ => of_decide_eq_true h1) hn hc
theorem xs_gets : xHok (fun e => .getstatic e.2.2.2.2.2, xPg, xh_gets) := by
  intro ih hI d M i tl lo st hp fs h hM he hd hl hn hc p l e R s m args below meth c D A g cw0 tys0 io0 Q C hQ
  have K := xgo hI h hM hn hc C hQ
  obtain ⟨hx, hb, -, hown, hts, -, -, -, hst0, -⟩ := C
  obtain ⟨a1, q, h2, h3⟩ := hl
  have hd : decode M.2.1 i.1 = .ok (.getstatic i.2.2.2.2.2, i.2.1) := hd
  rw [a1] at hd
  intro cw tys io H locs ls lv sv hE hK hP hD hS hlv hlo hst hh
  have k := K cw tys io H locs ls lv (.ref (g.2.2 i.2.2.2.1) :: sv) hE hK hP hD hS hlv hlo ⟨rfl, hst⟩ hh
  simp only [a1] at k
  exact va_gets hx hb (hst0.1 _ _ h2).1 hS hown (hts _ h3) (fun _ z => z) hd k
theorem xarr_get {g : xG} {cw : xWc} {tys : xTy} {io : List Nat} {kd n t : Nat} {us : List (Nat × xV)} {e' : va_E} (h : xRe g cw tys io (.inr (kd, n, t, us)) e') : ∃ (cA : ClassId) (f : xB) (ty : FieldType), e' = .inl (cA, n, f) ∧ n < 2147483648 ∧ tys[t]? = some (cA, ty) ∧ xkd kd ty f ∧ ∀ j, xRa g cw io kd us f j := by
  cases e' with
  | inr o => exact h.elim
  | inl a =>
    obtain ⟨cA, n', f⟩ := a
    obtain ⟨h1, h0, ty, h2, h3, h4⟩ := h
    have h1 : n = n' := h1
    subst h1
    exact ⟨cA, f, ty, rfl, h0, h2, h3, h4⟩
theorem xat_ok {g : xG} {cw : xWc} {io : List Nat} {kd : Nat} {us : List (Nat × xV)} {f : xB} {j : Nat} (h : xRa g cw io kd us f j) : xRv g cw io (xat kd us j) (xbody f j) := by
  unfold xRa at h
  unfold xat
  cases hf : xfind us j with
  | some v => rw [hf] at h; exact h
  | none =>
    rw [hf] at h
    have h : xbody f j = xdef kd := h
    rw [h]
    show xRv g cw io (cond (Nat.beq kd 4) (3, 0) (cond (Nat.beq kd 3) (4, 0) (0, 0))) (xdef kd)
    cases h4 : Nat.beq kd 4 with
    | true =>
      have z := xbeq h4
      subst z
      exact rfl
    | false =>
      cases h3 : Nat.beq kd 3 with
      | true =>
        have z := xbeq h3
        subst z
        exact rfl
      | false =>
        have n4 := xnbeq h4
        have n3 := xnbeq h3
        have e : xdef kd = .int 0 := by
          unfold xdef
          split
          · exact absurd rfl n3
          · exact absurd rfl n4
          · rfl
        rw [e]
        exact ⟨by decide, rfl⟩
theorem xnI_in {u n : Nat} (h : u < n) (hn : n < 2147483648) : vp_in (nI u) n ∧ (nI u).toNatClampNeg = u := ⟨vp_in_nI h hn, nI_clamp (by omega)⟩
/-- an array's place, of a known kind -/
theorem xald_ok {kt : Nat → Bool} {ins : Instr} (hrow : ∀ {p : Program} {l : Launch} {e : Env} {R : Room} {s : State} {m : MethodId} {args : Array Value} {below : List Frame} {meth : Method} {c : Code} {H : Heap} {locs : List Loc} {cells slots : Nat} {Q : State → Prop} {D : va_G} {ws : va_W} {tys : xTy} {cc : ByteArray} {pc : Nat} {ls : Array Slot} {rest : List Value} {ad q t u n kd : Nat} {cA : ClassId} {f : xB} {ty : FieldType}, p.tables.exec = Jvm.exec → c.code = cc → va_K D vwCl tys s → va_P D vwCl ws H → ws[q]? = some (ad, .inl (cA, n, f)) → tys[t]? = some (cA, ty) → kt kd = true → xkd kd ty f → u < n → n < 2147483648 → decode cc pc = .ok (ins, 1) → W p l e R s m args below meth c H locs cells slots Q (F0 m (pc + 1) ls (xbody f u :: rest)) → W p l e R s m args below meth c H locs cells slots Q (F0 m pc ls (.int (nI u) :: .ref ad :: rest)))
    {ih : xK} (hI : xIHok ih) {d : Nat} {M : xM} {i : xI} {tl : List xI} {lo : xLo} {s2 : List xV} {iv : xV} {nr : Nat} {hp : xH} {fs : List xS} {q0 : xE} (h0 : wget hp.1 nr = some q0) (h : xarr q0 (xald1 kt ih d M i tl lo s2 hp (xnm hp.2.1 iv)) = some fs) (hM : xMb M) (hd : decode M.2.1 i.1 = .ok (ins, i.2.1)) (a1 : i.2.1 = 1) (hn : xnx i tl) (hc : xcok M.1.cls M.2.1 tl) {p : Program} {l : Launch} {e : Env} {R : Room} {s : State} {m : MethodId} {args : Array Value} {below : List Frame} {meth : Method} {c : Code} {D : va_G} {A : Nat → Prop} {g : xG} {cw0 : xWc} {tys0 : xTy} {io0 : List Nat} {Q : State → Prop} (C : xCx p R s m args meth c A g io0 d M) (hQ : ∀ φ ∈ fs, xpos M φ → xOk p l e R s m args below meth c D A M.2.2.1 g cw0 tys0 io0 Q φ) : xOk p l e R s m args below meth c D A M.2.2.1 g cw0 tys0 io0 Q (i.1, i :: tl, lo, iv :: (2, nr) :: s2, hp) := by
  obtain ⟨o, rfl, h9⟩ := xarr_some h
  obtain ⟨h3, h4⟩ := xif_some h9
  obtain ⟨h5, h6⟩ := Bool.and_eq_true_iff.mp h3
  obtain ⟨h7, h8⟩ := Bool.and_eq_true_iff.mp h6
  have K := xgo hI h4 hM hn hc C hQ
  rw [a1] at hd
  intro cw tys io H locs ls lv sv hE hK hP hD hS hlv hlo hst hh
  obtain ⟨wi, sv1, rfl, r1, hs1⟩ := xrel_cons hst
  obtain ⟨wa, sv2, rfl, r2, hs2⟩ := xrel_cons hs1
  obtain ⟨a, e', g1, rfl⟩ := xRv2 r2
  obtain ⟨q', g2, g3⟩ := hh.1.get h0
  rw [g1] at g2
  cases g2
  obtain ⟨kd, n, t, us⟩ := o
  obtain ⟨cA, f, ty, rfl, hn2, ht, hkd, hall⟩ := xarr_get g3
  obtain ⟨q, g8, -⟩ := wfl_get g1
  have q1 := xnm_ok hh.2.1 r1
  have y := xblt h8
  have z := xbeq h7
  generalize xnm hp.2.1 iv = iv' at *
  obtain ⟨ti, ui⟩ := iv'
  simp only at z y
  subst z
  obtain ⟨-, rfl⟩ := q1
  have k := K cw tys io H locs ls lv (xbody f ui :: sv2) hE hK hP hD hS hlv hlo ⟨xat_ok (hall ui), hs2⟩ hh
  simp only [a1] at k
  exact hrow C.1 C.2.1 hK hP g8 ht h5 hkd y hn2 hd k
theorem xs_baload : xHok (fun _ => .baload, xPn 1, xh_baload) := by
  intro ih hI d M i tl lo st hp fs h hM he hd hl hn hc p l e R s m args below meth c D A g cw0 tys0 io0 Q C hQ
  obtain ⟨iv, s1, rfl, h1⟩ := xhd_some h
  obtain ⟨r, s2, rfl, h2⟩ := xhd_some h1
  obtain ⟨h3, h4⟩ := xif_some h2
  obtain ⟨q, h7, h8⟩ := xob_some h4
  obtain ⟨tr, nr⟩ := r
  have z : tr = 2 := xbeq h3
  subst z
  refine xald_ok (ins := .baload) ?_ hI h7 h8 hM hd hl hn hc C hQ
  intro p l e R s m args below meth c H locs cells slots Q D ws tys cc pc ls rest ad q t u n kd cA f ty hx hb hK hP hw ht hk hkd hu hn2 hdg k
  obtain ⟨v1, v2⟩ := xnI_in hu hn2
  rcases Bool.or_eq_true_iff.mp hk with hk | hk
  · have z := xbeq hk
    subst z
    obtain ⟨rfl, f0, rfl⟩ := hkd
    refine va_bald hx hb hK hP q t hw ht v1 hdg ?_
    rw [v2]
    exact k
  · have z := xbeq hk
    subst z
    obtain ⟨rfl, f0, rfl⟩ := hkd
    refine va_zald hx hb hK hP q t hw ht v1 hdg ?_
    rw [v2]
    exact k
theorem xs_aaload : xHok (fun _ => .aaload, xPn 1, xh_aaload) := by
  intro ih hI d M i tl lo st hp fs h hM he hd hl hn hc p l e R s m args below meth c D A g cw0 tys0 io0 Q C hQ
  obtain ⟨iv, s1, rfl, h1⟩ := xhd_some h
  obtain ⟨r, s2, rfl, h2⟩ := xhd_some h1
  obtain ⟨h3, h4⟩ := xif_some h2
  obtain ⟨q, h7, h8⟩ := xob_some h4
  obtain ⟨tr, nr⟩ := r
  have z : tr = 2 := xbeq h3
  subst z
  refine xald_ok (ins := .aaload) ?_ hI h7 h8 hM hd hl hn hc C hQ
  intro p l e R s m args below meth c H locs cells slots Q D ws tys cc pc ls rest ad q t u n kd cA f ty hx hb hK hP hw ht hk hkd hu hn2 hdg k
  obtain ⟨v1, v2⟩ := xnI_in hu hn2
  have z := xbeq hk
  subst z
  obtain ⟨rfl, f0, rfl⟩ := hkd
  refine va_aldq hx hb hK hP q t hw ht v1 hdg ?_
  rw [v2]
  exact k
theorem xs_iaload : xHok (fun _ => .iaload, xPn 1, xh_iaload) := by
  intro ih hI d M i tl lo st hp fs h hM he hd hl hn hc p l e R s m args below meth c D A g cw0 tys0 io0 Q C hQ
  obtain ⟨iv, s1, rfl, h1⟩ := xhd_some h
  obtain ⟨r, s2, rfl, h2⟩ := xhd_some h1
  obtain ⟨tr, nr⟩ := r
  have a1 : i.2.1 = 1 := hl
  cases h3 : Nat.beq tr 2 with
  | true =>
    simp only [h3, cond_true] at h2
    have z : tr = 2 := xbeq h3
    subst z
    obtain ⟨q, h7, h8⟩ := xob_some h2
    refine xald_ok (ins := .iaload) ?_ hI h7 h8 hM hd hl hn hc C hQ
    intro p l e R s m args below meth c H locs cells slots Q D ws tys cc pc ls rest ad q t u n kd cA f ty hx hb hK hP hw ht hk hkd hu hn2 hdg k
    obtain ⟨v1, v2⟩ := xnI_in hu hn2
    have z := xbeq hk
    subst z
    obtain ⟨rfl, f0, rfl⟩ := hkd
    refine va_iald hx hb hK hP q t hw ht v1 hdg ?_
    rw [v2]
    exact k
  | false =>
    simp only [h3, cond_false] at h2
    obtain ⟨h4, h5⟩ := xif_some h2
    have hd : decode M.2.1 i.1 = .ok (.iaload, i.2.1) := hd
    rw [a1] at hd
    cases h6 : Nat.beq tr 8 with
    | true =>
      simp only [h6, cond_true] at h5
      have z : tr = 8 := xbeq h6
      subst z
      obtain ⟨q, h7, h8⟩ := xob_some h5
      obtain ⟨u, h9, h10⟩ := xob_some h8
      have K := xgo hI h10 hM hn hc C hQ
      obtain ⟨hx, hb, -, -, -, -, -, -, hst0, -⟩ := C
      intro cw tys io H locs ls lv sv hE hK hP hD hS hlv hlo hst hh
      obtain ⟨wi, sv1, rfl, r1, hs1⟩ := xrel_cons hst
      obtain ⟨wa, sv2, rfl, r2, hs2⟩ := xrel_cons hs1
      have e2 : wa = .ref (g.2.2 nr) := r2
      subst e2
      have q1 := xnm_ok hh.2.1 r1
      have z := xbeq h4
      generalize xnm hp.2.1 iv = iv' at *
      obtain ⟨ti, ui⟩ := iv'
      simp only at z h9
      subst z
      obtain ⟨-, rfl⟩ := q1
      obtain ⟨cell, t1, t2, t3, t4, t5, t6, t7⟩ := (hst0.1 nr q h7).2
      rw [xget_eq] at h9
      have hul : ui < q.2.2.length := (List.getElem?_eq_some_iff.mp h9).1
      have hu32 : u < 4294967296 := by
        have key : ∀ q ∈ xst, ∀ u ∈ q.2.2, u < 4294967296 := by decide +kernel
        rw [xget_eq] at h7
        exact key q (List.mem_of_getElem? h7) u (List.mem_of_getElem? h9)
      have hlen : q.2.2.length < 2147483648 := by
        have key : ∀ q ∈ xst, q.2.2.length < 2147483648 := by decide +kernel
        rw [xget_eq] at h7
        exact key q (List.mem_of_getElem? h7)
      have k := K cw tys io H locs ls lv (.int (nI u) :: sv2) hE hK hP hD hS hlv hlo ⟨⟨hu32, rfl⟩, hs2⟩ hh
      simp only [a1] at k
      have hgd : q.2.2.getD ui 0 = u := by rw [List.getD_eq_getElem?_getD, h9]; rfl
      have hcl : (nI ui).toNatClampNeg = ui := nI_clamp (by omega)
      refine W.iald (v := .int (nI u)) hx hb (by rw [hS.2.1 _ (Array.getElem?_eq_some_iff.mp t1).1 t7]; exact t1) t2 t3 ?_ ?_ rfl rfl hd k
      · rw [hcl]
        rintro (z | z)
        · exact nI_pos (by omega) z
        · omega
      · rw [hcl, t6 ui hul]
        show some (Value.int (nI (q.2.2.getD ui 0))) = _
        rw [hgd]
    | false =>
      simp only [h6, cond_false] at h5
      cases h5
theorem xs_alen : xHok (fun _ => .arraylength, xPn 1, xh_alen) := by
  intro ih hI d M i tl lo st hp fs h hM he hd hl hn hc p l e R s m args below meth c D A g cw0 tys0 io0 Q C hQ
  obtain ⟨r, s1, rfl, h1⟩ := xhd_some h
  obtain ⟨tr, nr⟩ := r
  have a1 : i.2.1 = 1 := hl
  have hd : decode M.2.1 i.1 = .ok (.arraylength, i.2.1) := hd
  rw [a1] at hd
  cases h3 : Nat.beq tr 2 with
  | true =>
    simp only [h3, cond_true] at h1
    have z : tr = 2 := xbeq h3
    subst z
    obtain ⟨q, h7, h8⟩ := xob_some h1
    obtain ⟨o, rfl, h9⟩ := xarr_some h8
    have K := xgo hI h9 hM hn hc C hQ
    obtain ⟨hx, hb, -⟩ := C
    intro cw tys io H locs ls lv sv hE hK hP hD hS hlv hlo hst hh
    obtain ⟨wa, sv2, rfl, r2, hs2⟩ := xrel_cons hst
    obtain ⟨a, e', g1, rfl⟩ := xRv2 r2
    obtain ⟨q', g2, g3⟩ := hh.1.get h7
    rw [g1] at g2
    cases g2
    obtain ⟨kd, n, t, us⟩ := o
    obtain ⟨cA, f, ty, rfl, hn2, ht, hkd, hall⟩ := xarr_get g3
    obtain ⟨q, g8, -⟩ := wfl_get g1
    have k := K cw tys io H locs ls lv (.int (nI n) :: sv2) hE hK hP hD hS hlv hlo ⟨⟨by show n < 4294967296; omega, rfl⟩, hs2⟩ hh
    simp only [a1] at k
    exact va_alen hx hb hK hP q t g8 ht rfl hd k
  | false =>
    simp only [h3, cond_false] at h1
    cases h1
