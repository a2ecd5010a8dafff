/-! each instruction is sound: locals, constants, ints -/
theorem xsg_ofInt {u : Nat} (h : u < 4294967296) : Int32.ofInt (xsg u) = nI u := by
  apply Int32.toInt_inj.mp
  have hr : -2147483648 ≤ xsg u ∧ xsg u < 2147483648 ∧ xsg u = (xbs u : Int) - 2147483648 := by
    unfold xsg xbs
    cases hb : Nat.blt u 2147483648 with
    | true =>
      have := xblt hb
      simp only [cond]
      omega
    | false =>
      have := xnblt hb
      simp only [cond]
      omega
  rw [xnI_toInt h, Int32.toInt_ofInt_of_le (by omega) (by omega)]
  exact hr.2.2
theorem xsg8 {u : Nat} (h : u < 4294967296) (h2 : u < 128 ∨ 4294967168 ≤ u) : (Int8.ofInt (xsg u)).toInt32 = nI u := by
  apply Int32.toInt_inj.mp
  have hr : -128 ≤ xsg u ∧ xsg u < 128 ∧ xsg u = (xbs u : Int) - 2147483648 := by
    unfold xsg xbs
    cases hb : Nat.blt u 2147483648 with
    | true =>
      have := xblt hb
      simp only [cond]
      omega
    | false =>
      have := xnblt hb
      simp only [cond]
      omega
  rw [xnI_toInt h, Int8.toInt_toInt32, Int8.toInt_ofInt_of_le (by omega) (by omega)]
  exact hr.2.2
theorem xsg16 {u : Nat} (h : u < 4294967296) (h2 : u < 32768 ∨ 4294934528 ≤ u) : (Int16.ofInt (xsg u)).toInt32 = nI u := by
  apply Int32.toInt_inj.mp
  have hr : -32768 ≤ xsg u ∧ xsg u < 32768 ∧ xsg u = (xbs u : Int) - 2147483648 := by
    unfold xsg xbs
    cases hb : Nat.blt u 2147483648 with
    | true =>
      have := xblt hb
      simp only [cond]
      omega
    | false =>
      have := xnblt hb
      simp only [cond]
      omega
  rw [xnI_toInt h, Int16.toInt_toInt32, Int16.toInt_ofInt_of_le (by omega) (by omega)]
  exact hr.2.2
section XGO
variable {p : Program} {l : Launch} {e : Env} {R : Room} {s : State} {m : MethodId} {args : Array Value} {below : List Frame} {meth : Method} {c : Code} {D : va_G} {A : Nat → Prop} {g : xG} {cw0 : xWc} {tys0 : xTy} {io0 : List Nat} {Q : State → Prop} {ih : xK} {d : Nat} {M : xM} {i : xI} {tl : List xI} {lo : xLo} {st : List xV} {hp : xH} {fs : List xS}
theorem xgo (hI : xIHok ih) (h : ih d M (i.1 + i.2.1, tl, lo, st, hp) = some fs) (hM : xMb M) (hn : xnx i tl) (hc : xcok M.1.cls M.2.1 tl) (C : xCx p R s m args meth c A g io0 d M) (hQ : ∀ φ ∈ fs, xpos M φ → xOk p l e R s m args below meth c D A M.2.2.1 g cw0 tys0 io0 Q φ) : xOk p l e R s m args below meth c D A M.2.2.1 g cw0 tys0 io0 Q (i.1 + i.2.1, tl, lo, st, hp) := by
  refine hI d M _ fs h hM ⟨?_, hc⟩ p l e R s m args below meth c D A g cw0 tys0 io0 Q C hQ
  cases tl with
  | nil => trivial
  | cons a b => exact hn
theorem xgoj {t : Nat} (hI : xIHok ih) (h : ih d M (t, [], lo, st, hp) = some fs) (hM : xMb M) (C : xCx p R s m args meth c A g io0 d M) (hQ : ∀ φ ∈ fs, xpos M φ → xOk p l e R s m args below meth c D A M.2.2.1 g cw0 tys0 io0 Q φ) : xOk p l e R s m args below meth c D A M.2.2.1 g cw0 tys0 io0 Q (t, [], lo, st, hp) :=
  hI d M _ fs h hM ⟨trivial, trivial⟩ p l e R s m args below meth c D A g cw0 tys0 io0 Q C hQ
theorem xgoi (hI : xIHok ih) (h : ih d M (i.1, i :: tl, lo, st, hp) = some fs) (hM : xMb M) (he : xeok M.1.cls M.2.1 i) (hn : xnx i tl) (hc : xcok M.1.cls M.2.1 tl) (C : xCx p R s m args meth c A g io0 d M) (hQ : ∀ φ ∈ fs, xpos M φ → xOk p l e R s m args below meth c D A M.2.2.1 g cw0 tys0 io0 Q φ) : xOk p l e R s m args below meth c D A M.2.2.1 g cw0 tys0 io0 Q (i.1, i :: tl, lo, st, hp) :=
  hI d M _ fs h hM ⟨rfl, he, hn, hc⟩ p l e R s m args below meth c D A g cw0 tys0 io0 Q C hQ
end XGO
theorem xlo_find {g : xG} {cw : xWc} {io : List Nat} : ∀ {lo : xLo} {lv : List (Nat × Value)}, xrel (fun (x : Nat × xV) (y : Nat × Value) => x.1 = y.1 ∧ xRv g cw io x.2 y.2) lo lv → ∀ {k : Nat} {v : xV}, xfind lo k = some v → ∃ (n : Nat) (w : Value), lv[n]? = some (k, w) ∧ xRv g cw io v w
  | [], [], _, k, v, h => by cases h
  | x :: lo, y :: lv, hr, k, v, h => by
    have h' : cond (Nat.beq x.1 k) (some x.2) (xfind lo k) = some v := h
    cases hc : Nat.beq x.1 k with
    | true =>
      rw [hc] at h'
      cases h'
      have e := xbeq hc
      refine ⟨0, y.2, ?_, hr.1.2⟩
      rw [List.getElem?_cons_zero, ← e, hr.1.1]
    | false =>
      rw [hc] at h'
      obtain ⟨n, w, h1, h2⟩ := xlo_find hr.2 h'
      exact ⟨n + 1, w, by rw [List.getElem?_cons_succ]; exact h1, h2⟩
  | [], _ :: _, hr, _, _, _ => hr.elim
  | _ :: _, [], hr, _, _, _ => hr.elim
theorem xcat4 {g : xG} {cw : xWc} {io : List Nat} {v : xV} {w : Value} (h : xRv g cw io v w) : (w.category == 2) = Nat.beq v.1 4 := by
  obtain ⟨t, n⟩ := v
  unfold xRv at h
  split at h <;> rename_i ht <;> simp only at ht h <;> subst ht
  · rw [h.2]; rfl
  · obtain ⟨u, -, h2⟩ := h
    rw [h2]; rfl
  · obtain ⟨a, e, -, h2⟩ := h
    rw [h2]; rfl
  · rw [h]; rfl
  · rw [h]; rfl
  · rw [h.2]; rfl
  · rw [h]; rfl
theorem xlo_flt {g : xG} {cw : xWc} {io : List Nat} {f : Nat × xV → Bool} {f' : Nat × Value → Bool} (hf : ∀ (x : Nat × xV) (y : Nat × Value), x.1 = y.1 → xRv g cw io x.2 y.2 → f x = f' y) : ∀ {lo : xLo} {lv : List (Nat × Value)}, xrel (fun (x : Nat × xV) (y : Nat × Value) => x.1 = y.1 ∧ xRv g cw io x.2 y.2) lo lv → xrel (fun (x : Nat × xV) (y : Nat × Value) => x.1 = y.1 ∧ xRv g cw io x.2 y.2) (lo.filter f) (lv.filter f')
  | [], [], _ => trivial
  | x :: lo, y :: lv, hr => by
    rw [List.filter_cons, List.filter_cons, hf x y hr.1.1 hr.1.2]
    cases f' y with
    | true => exact ⟨hr.1, xlo_flt hf hr.2⟩
    | false => exact xlo_flt hf hr.2
  | [], _ :: _, hr => hr.elim
  | _ :: _, [], hr => hr.elim
theorem xbq (a b : Nat) : Nat.beq a b = (a == b) := by
  cases h : Nat.beq a b with
  | true => rw [xbeq h]; simp
  | false =>
    have := xnbeq h
    simp [this]
theorem xkp_eq {g : xG} {cw : xWc} {io : List Nat} (k : Nat) (x : Nat × xV) (y : Nat × Value) (h1 : x.1 = y.1) (h2 : xRv g cw io x.2 y.2) : xkp k x = (fun q : Nat × Value => !(q.1 == k) && !(q.1 + 1 == k && q.2.category == 2)) y := by
  show (!(Nat.beq x.1 k) && !(Nat.beq (x.1 + 1) k && Nat.beq x.2.1 4)) = (!(y.1 == k) && !(y.1 + 1 == k && y.2.category == 2))
  rw [xcat4 h2, h1]
  simp only [xbq]
theorem xkp2_eq {g : xG} {cw : xWc} {io : List Nat} (k : Nat) (x : Nat × xV) (y : Nat × Value) (h1 : x.1 = y.1) (h2 : xRv g cw io x.2 y.2) : xkp2 k x = (fun q : Nat × Value => !(q.1 == k) && (!(q.1 == k + 1) && !(q.1 + 1 == k && q.2.category == 2))) y := by
  show (!(Nat.beq x.1 k) && (!(Nat.beq x.1 (k + 1)) && !(Nat.beq (x.1 + 1) k && Nat.beq x.2.1 4))) = (!(y.1 == k) && (!(y.1 == k + 1) && !(y.1 + 1 == k && y.2.category == 2)))
  rw [xcat4 h2, h1]
  simp only [xbq]
theorem xf4_eq {n : Nat} (h : n < 4) : (xf4 n : Nat) = n := Nat.mod_eq_of_lt h
/-- 1: xh_iload and its like -/
theorem xs_iload : xHok (fun e => cond (Nat.beq e.2.1 1) (.iload_n (xf4 e.2.2.2.1)) (.iload e.2.2.2.1), xPl, xh_iload) := by
  intro ih hI d M i tl lo st hp fs h hM he hd hl hn hc p l e R s m args below meth c D A g cw0 tys0 io0 Q C hQ
  obtain ⟨v, h1, h2⟩ := xob_some h
  obtain ⟨h3, h4⟩ := xif_some h2
  have K := xgo hI h4 hM hn hc C hQ
  obtain ⟨hx, hb, -⟩ := C
  intro cw tys io H locs ls lv sv hE hK hP hD hS hlv hlo hst hh
  obtain ⟨n, w, h5, h6⟩ := xlo_find hlo h1
  obtain ⟨u, rfl⟩ := xisi_ok h3 h6
  have h7 := lv_at hlv n h5
  have k := K cw tys io H locs ls lv (.int u :: sv) hE hK hP hD hS hlv hlo ⟨h6, hst⟩ hh
  have hd : decode M.2.1 i.1 = .ok (cond (Nat.beq i.2.1 1) (.iload_n (xf4 i.2.2.2.1)) (.iload i.2.2.2.1), i.2.1) := hd
  rcases hl with ⟨a1, a2⟩ | a1
  · rw [a1] at hd
    simp only [a1] at k
    exact lv_iload_n hx hb hd (xf4_eq a2) h7 k
  · rw [a1] at hd
    simp only [a1] at k
    exact lv_iload hx hb hd h7 k
theorem xs_lload : xHok (fun e => cond (Nat.beq e.2.1 1) (.lload_n (xf4 e.2.2.2.1)) (.lload e.2.2.2.1), xPl, xh_lload) := by
  intro ih hI d M i tl lo st hp fs h hM he hd hl hn hc p l e R s m args below meth c D A g cw0 tys0 io0 Q C hQ
  obtain ⟨v, h1, h2⟩ := xob_some h
  obtain ⟨h3, h4⟩ := xif_some h2
  have K := xgo hI h4 hM hn hc C hQ
  obtain ⟨hx, hb, -⟩ := C
  intro cw tys io H locs ls lv sv hE hK hP hD hS hlv hlo hst hh
  obtain ⟨n, w, h5, h6⟩ := xlo_find hlo h1
  obtain ⟨t, u⟩ := v
  have e4 : t = 4 := xbeq h3
  subst e4
  have e5 : w = .long (lN u) := h6
  subst e5
  have h7 := lv_at hlv n h5
  have k := K cw tys io H locs ls lv (.long (lN u) :: sv) hE hK hP hD hS hlv hlo ⟨h6, hst⟩ hh
  have hd : decode M.2.1 i.1 = .ok (cond (Nat.beq i.2.1 1) (.lload_n (xf4 i.2.2.2.1)) (.lload i.2.2.2.1), i.2.1) := hd
  rcases hl with ⟨a1, a2⟩ | a1
  · rw [a1] at hd
    simp only [a1] at k
    exact lv_lload_n hx hb hd (xf4_eq a2) h7 k
  · rw [a1] at hd
    simp only [a1] at k
    exact lv_lload hx hb hd h7 k
theorem xs_aload : xHok (fun e => cond (Nat.beq e.2.1 1) (.aload_n (xf4 e.2.2.2.1)) (.aload e.2.2.2.1), xPl, xh_aload) := by
  intro ih hI d M i tl lo st hp fs h hM he hd hl hn hc p l e R s m args below meth c D A g cw0 tys0 io0 Q C hQ
  obtain ⟨v, h1, h2⟩ := xob_some h
  obtain ⟨h3, h4⟩ := xif_some h2
  have K := xgo hI h4 hM hn hc C hQ
  obtain ⟨hx, hb, -⟩ := C
  intro cw tys io H locs ls lv sv hE hK hP hD hS hlv hlo hst hh
  obtain ⟨n, w, h5, h6⟩ := xlo_find hlo h1
  have h7 := lv_at hlv n h5
  have k := K cw tys io H locs ls lv (w :: sv) hE hK hP hD hS hlv hlo ⟨h6, hst⟩ hh
  have hd : decode M.2.1 i.1 = .ok (cond (Nat.beq i.2.1 1) (.aload_n (xf4 i.2.2.2.1)) (.aload i.2.2.2.1), i.2.1) := hd
  rcases hl with ⟨a1, a2⟩ | a1
  · rw [a1] at hd
    simp only [a1] at k
    rcases xisr_ok h3 h6 with ⟨a, rfl⟩ | rfl
    · exact lv_aload_n hx hb hd (xf4_eq a2) h7 k
    · exact lv_aload_nN hx hb hd (xf4_eq a2) h7 k
  · rw [a1] at hd
    simp only [a1] at k
    rcases xisr_ok h3 h6 with ⟨a, rfl⟩ | rfl
    · exact lv_aload hx hb hd h7 k
    · exact lv_aloadN hx hb hd h7 k
theorem xs_istore : xHok (fun e => cond (Nat.beq e.2.1 1) (.istore_n (xf4 e.2.2.2.1)) (.istore e.2.2.2.1), xPl, xh_istore) := by
  intro ih hI d M i tl lo st hp fs h hM he hd hl hn hc p l e R s m args below meth c D A g cw0 tys0 io0 Q C hQ
  obtain ⟨v, s1, rfl, h2⟩ := xhd_some h
  obtain ⟨h3, h4⟩ := xif_some h2
  obtain ⟨h5, h6⟩ := xif_some h4
  rw [xflt_eq] at h6
  have K := xgo hI h6 hM hn hc C hQ
  obtain ⟨hx, hb, -⟩ := C
  intro cw tys io H locs ls lv sv hE hK hP hD hS hlv hlo hst hh
  obtain ⟨w, sv, rfl, h7, h8⟩ := xrel_cons hst
  obtain ⟨u, rfl⟩ := xisi_ok h3 h7
  have hf := xlo_flt (xkp_eq i.2.2.2.1) hlo
  have hd : decode M.2.1 i.1 = .ok (cond (Nat.beq i.2.1 1) (.istore_n (xf4 i.2.2.2.1)) (.istore i.2.2.2.1), i.2.1) := hd
  rcases hl with ⟨a1, a2⟩ | a1
  · rw [a1] at hd
    refine lv_istore_n hx hb hd (xf4_eq a2) hlv (xblt h5) rfl fun ls' hl' => ?_
    have k := K cw tys io H locs ls' _ sv hE hK hP hD hS hl' ⟨⟨rfl, h7⟩, hf⟩ h8 hh
    simp only [a1] at k
    exact k
  · rw [a1] at hd
    refine lv_istore hx hb hd hlv (xblt h5) rfl fun ls' hl' => ?_
    have k := K cw tys io H locs ls' _ sv hE hK hP hD hS hl' ⟨⟨rfl, h7⟩, hf⟩ h8 hh
    simp only [a1] at k
    exact k
theorem xs_astore : xHok (fun e => cond (Nat.beq e.2.1 1) (.astore_n (xf4 e.2.2.2.1)) (.astore e.2.2.2.1), xPl, xh_astore) := by
  intro ih hI d M i tl lo st hp fs h hM he hd hl hn hc p l e R s m args below meth c D A g cw0 tys0 io0 Q C hQ
  obtain ⟨v, s1, rfl, h2⟩ := xhd_some h
  obtain ⟨h3, h4⟩ := xif_some h2
  obtain ⟨h5, h6⟩ := xif_some h4
  rw [xflt_eq] at h6
  have K := xgo hI h6 hM hn hc C hQ
  obtain ⟨hx, hb, -⟩ := C
  intro cw tys io H locs ls lv sv hE hK hP hD hS hlv hlo hst hh
  obtain ⟨w, sv, rfl, h7, h8⟩ := xrel_cons hst
  have hf := xlo_flt (xkp_eq i.2.2.2.1) hlo
  have hd : decode M.2.1 i.1 = .ok (cond (Nat.beq i.2.1 1) (.astore_n (xf4 i.2.2.2.1)) (.astore i.2.2.2.1), i.2.1) := hd
  rcases xisr_ok h3 h7 with ⟨a, rfl⟩ | rfl
  · rcases hl with ⟨a1, a2⟩ | a1
    · rw [a1] at hd
      refine lv_astore_n hx hb hd (xf4_eq a2) hlv (xblt h5) rfl fun ls' hl' => ?_
      have k := K cw tys io H locs ls' _ sv hE hK hP hD hS hl' ⟨⟨rfl, h7⟩, hf⟩ h8 hh
      simp only [a1] at k
      exact k
    · rw [a1] at hd
      refine lv_astore hx hb hd hlv (xblt h5) rfl fun ls' hl' => ?_
      have k := K cw tys io H locs ls' _ sv hE hK hP hD hS hl' ⟨⟨rfl, h7⟩, hf⟩ h8 hh
      simp only [a1] at k
      exact k
  · rcases hl with ⟨a1, a2⟩ | a1
    · rw [a1] at hd
      refine lv_astore_nN hx hb hd (xf4_eq a2) hlv (xblt h5) rfl fun ls' hl' => ?_
      have k := K cw tys io H locs ls' _ sv hE hK hP hD hS hl' ⟨⟨rfl, h7⟩, hf⟩ h8 hh
      simp only [a1] at k
      exact k
    · rw [a1] at hd
      refine lv_astoreN hx hb hd hlv (xblt h5) rfl fun ls' hl' => ?_
      have k := K cw tys io H locs ls' _ sv hE hK hP hD hS hl' ⟨⟨rfl, h7⟩, hf⟩ h8 hh
      simp only [a1] at k
      exact k
theorem xs_lstore : xHok (fun e => cond (Nat.beq e.2.1 1) (.lstore_n (xf4 e.2.2.2.1)) (.lstore e.2.2.2.1), xPl, xh_lstore) := by
  intro ih hI d M i tl lo st hp fs h hM he hd hl hn hc p l e R s m args below meth c D A g cw0 tys0 io0 Q C hQ
  obtain ⟨v, s1, rfl, h2⟩ := xhd_some h
  obtain ⟨h3, h4⟩ := xif_some h2
  obtain ⟨h5, h6⟩ := xif_some h4
  rw [xflt_eq] at h6
  have K := xgo hI h6 hM hn hc C hQ
  obtain ⟨hx, hb, -⟩ := C
  intro cw tys io H locs ls lv sv hE hK hP hD hS hlv hlo hst hh
  obtain ⟨w, sv, rfl, h7, h8⟩ := xrel_cons hst
  obtain ⟨t, u⟩ := v
  have e4 : t = 4 := xbeq h3
  subst e4
  have e5 : w = .long (lN u) := h7
  subst e5
  have hf := xlo_flt (xkp2_eq i.2.2.2.1) hlo
  have hd : decode M.2.1 i.1 = .ok (cond (Nat.beq i.2.1 1) (.lstore_n (xf4 i.2.2.2.1)) (.lstore i.2.2.2.1), i.2.1) := hd
  rcases hl with ⟨a1, a2⟩ | a1
  · rw [a1] at hd
    refine lv_lstore_n hx hb hd (xf4_eq a2) hlv (xblt h5) rfl fun ls' hl' => ?_
    have k := K cw tys io H locs ls' _ sv hE hK hP hD hS hl' ⟨⟨rfl, h7⟩, hf⟩ h8 hh
    simp only [a1] at k
    exact k
  · rw [a1] at hd
    refine lv_lstore hx hb hd hlv (xblt h5) rfl fun ls' hl' => ?_
    have k := K cw tys io H locs ls' _ sv hE hK hP hD hS hl' ⟨⟨rfl, h7⟩, hf⟩ h8 hh
    simp only [a1] at k
    exact k
theorem xs_iinc : xHok (fun e => .iinc e.2.2.2.1 (xsg e.2.2.2.2.1), fun o e => xPn 3 o e ∧ e.2.2.2.2.1 < 4294967296, xh_iinc) := by
  intro ih hI d M i tl lo st hp fs h hM he hd hl hn hc p l e R s m args below meth c D A g cw0 tys0 io0 Q C hQ
  obtain ⟨v, h1, h2⟩ := xob_some h
  obtain ⟨h3, h4⟩ := xif_some h2
  obtain ⟨h5, h6⟩ := xif_some h4
  rw [xN_eq, xflt_eq] at h6
  have K := xgo hI h6 hM hn hc C hQ
  obtain ⟨hx, hb, -⟩ := C
  intro cw tys io H locs ls lv sv hE hK hP hD hS hlv hlo hst hh
  obtain ⟨n, w, h7, h8⟩ := xlo_find hlo h1
  obtain ⟨t, u⟩ := v
  have e4 : t = 0 := xbeq h3
  subst e4
  obtain ⟨h9, e5⟩ := h8
  subst e5
  have hf := xlo_flt (xkp_eq i.2.2.2.1) hlo
  have a1 : i.2.1 = 3 := hl.1
  have hd : decode M.2.1 i.1 = .ok (.iinc i.2.2.2.1 (xsg i.2.2.2.2.1), i.2.1) := hd
  rw [a1] at hd
  refine lv_iinc hx hb hd hlv h7 (v := nI ((u + i.2.2.2.2.1) % 4294967296)) (by rw [xsg_ofInt hl.2]; exact xnI_add _ _) (xblt h5) rfl fun ls' hl' => ?_
  have k := K cw tys io H locs ls' _ sv hE hK hP hD hS hl' ⟨⟨rfl, ⟨Nat.mod_lt _ (by decide), rfl⟩⟩, hf⟩ hst hh
  simp only [a1] at k
  exact k
theorem xs_iconst : xHok (fun e => .iconst (xsg e.2.2.2.1), xPc 1, xh_const) := by
  intro ih hI d M i tl lo st hp fs h hM he hd hl hn hc p l e R s m args below meth c D A g cw0 tys0 io0 Q C hQ
  have K := xgo hI h hM hn hc C hQ
  obtain ⟨hx, hb, -⟩ := C
  obtain ⟨h2, h3⟩ := hl
  have hd : decode M.2.1 i.1 = .ok (.iconst (xsg i.2.2.2.1), i.2.1) := hd
  rw [h2] at hd
  simp only [h2] at K
  exact xok_stk K fun cw io sv hs _ _ => ⟨.int (nI i.2.2.2.1) :: sv, ⟨⟨h3, rfl⟩, hs⟩, fun H locs ls cells slots k => lv_iconst hx hb hd (xsg_ofInt h3) k⟩
theorem xs_bipush : xHok (fun e => .bipush (xsg e.2.2.2.1), fun o e => xPc 2 o e ∧ (e.2.2.2.1 < 128 ∨ 4294967168 ≤ e.2.2.2.1), xh_const) := by
  intro ih hI d M i tl lo st hp fs h hM he hd hl hn hc p l e R s m args below meth c D A g cw0 tys0 io0 Q C hQ
  have K := xgo hI h hM hn hc C hQ
  obtain ⟨hx, hb, -⟩ := C
  obtain ⟨⟨h2, h3⟩, h4⟩ := hl
  have hd : decode M.2.1 i.1 = .ok (.bipush (xsg i.2.2.2.1), i.2.1) := hd
  rw [h2] at hd
  simp only [h2] at K
  exact xok_stk K fun cw io sv hs _ _ => ⟨.int (nI i.2.2.2.1) :: sv, ⟨⟨h3, rfl⟩, hs⟩, fun H locs ls cells slots k => lv_bipush hx hb hd (xsg8 h3 h4) k⟩
theorem xs_sipush : xHok (fun e => .sipush (xsg e.2.2.2.1), fun o e => xPc 3 o e ∧ (e.2.2.2.1 < 32768 ∨ 4294934528 ≤ e.2.2.2.1), xh_const) := by
  intro ih hI d M i tl lo st hp fs h hM he hd hl hn hc p l e R s m args below meth c D A g cw0 tys0 io0 Q C hQ
  have K := xgo hI h hM hn hc C hQ
  obtain ⟨hx, hb, -⟩ := C
  obtain ⟨⟨h2, h3⟩, h4⟩ := hl
  have hd : decode M.2.1 i.1 = .ok (.sipush (xsg i.2.2.2.1), i.2.1) := hd
  rw [h2] at hd
  simp only [h2] at K
  exact xok_stk K fun cw io sv hs _ _ => ⟨.int (nI i.2.2.2.1) :: sv, ⟨⟨h3, rfl⟩, hs⟩, fun H locs ls cells slots k => lv_sipush hx hb hd (xsg16 h3 h4) k⟩
theorem xs_ldc : xHok (fun e => .ldc e.2.2.2.2.2, xPld 2, xh_const) := by
  intro ih hI d M i tl lo st hp fs h hM he hd hl hn hc p l e R s m args below meth c D A g cw0 tys0 io0 Q C hQ
  have K := xgo hI h hM hn hc C hQ
  obtain ⟨hx, hb, -, hown, hts, -⟩ := C
  obtain ⟨h2, h3, h4⟩ := hl
  have hd : decode M.2.1 i.1 = .ok (.ldc i.2.2.2.2.2, i.2.1) := hd
  rw [h2] at hd
  simp only [h2] at K
  exact xok_stk K fun cw io sv hs _ _ => ⟨.int (nI i.2.2.2.1) :: sv, ⟨⟨h3, rfl⟩, hs⟩, fun H locs ls cells slots k => lv_ldc hx hb hown (hts _ h4) hd k⟩
theorem xs_ldcw : xHok (fun e => .ldc_w e.2.2.2.2.2, xPld 3, xh_const) := by
  intro ih hI d M i tl lo st hp fs h hM he hd hl hn hc p l e R s m args below meth c D A g cw0 tys0 io0 Q C hQ
  have K := xgo hI h hM hn hc C hQ
  obtain ⟨hx, hb, -, hown, hts, -⟩ := C
  obtain ⟨h2, h3, h4⟩ := hl
  have hd : decode M.2.1 i.1 = .ok (.ldc_w i.2.2.2.2.2, i.2.1) := hd
  rw [h2] at hd
  simp only [h2] at K
  exact xok_stk K fun cw io sv hs _ _ => ⟨.int (nI i.2.2.2.1) :: sv, ⟨⟨h3, rfl⟩, hs⟩, fun H locs ls cells slots k => lv_ldcw hx hb hown (hts _ h4) hd k⟩
theorem xs_lconst : xHok (fun e => .lconst (⟨e.2.2.2.1 % 2, Nat.mod_lt _ (by decide)⟩ : Fin 2), fun o e => xPn 1 o e ∧ e.2.2.2.1 < 2, xh_lconst) := by
  intro ih hI d M i tl lo st hp fs h hM he hd hl hn hc p l e R s m args below meth c D A g cw0 tys0 io0 Q C hQ
  have K := xgo hI h hM hn hc C hQ
  obtain ⟨hx, hb, -⟩ := C
  obtain ⟨h2, h3⟩ := hl
  have h2 : i.2.1 = 1 := h2
  have hd : decode M.2.1 i.1 = .ok (.lconst (⟨i.2.2.2.1 % 2, Nat.mod_lt _ (by decide)⟩ : Fin 2), i.2.1) := hd
  rw [h2] at hd
  simp only [h2] at K
  exact xok_stk K fun cw io sv hs _ _ => ⟨.long (lN i.2.2.2.1) :: sv, ⟨rfl, hs⟩, fun H locs ls cells slots k => lv_lconst hx hb hd (by show Int64.ofNat (i.2.2.2.1 % 2) = lN _; rw [Nat.mod_eq_of_lt h3]; rfl) k⟩
theorem xs_ldc2 : xHok (fun e => .ldc2_w e.2.2.2.2.2, xPl2, xh_lconst) := by
  intro ih hI d M i tl lo st hp fs h hM he hd hl hn hc p l e R s m args below meth c D A g cw0 tys0 io0 Q C hQ
  have K := xgo hI h hM hn hc C hQ
  obtain ⟨hx, hb, -, hown, hts, -⟩ := C
  obtain ⟨h2, h4⟩ := hl
  have hd : decode M.2.1 i.1 = .ok (.ldc2_w i.2.2.2.2.2, i.2.1) := hd
  rw [h2] at hd
  simp only [h2] at K
  exact xok_stk K fun cw io sv hs _ _ => ⟨.long (lN i.2.2.2.1) :: sv, ⟨rfl, hs⟩, fun H locs ls cells slots k => lv_ldc2 hx hb hown (hts _ h4) hd k⟩
theorem xs_null : xHok (fun _ => .aconst_null, xPn 1, xh_null) := by
  intro ih hI d M i tl lo st hp fs h hM he hd hl hn hc p l e R s m args below meth c D A g cw0 tys0 io0 Q C hQ
  have K := xgo hI h hM hn hc C hQ
  obtain ⟨hx, hb, -⟩ := C
  have h2 : i.2.1 = 1 := hl
  have hd : decode M.2.1 i.1 = .ok (.aconst_null, i.2.1) := hd
  rw [h2] at hd
  simp only [h2] at K
  exact xok_stk K fun cw io sv hs _ _ => ⟨.null :: sv, ⟨rfl, hs⟩, fun H locs ls cells slots k => lv_null hx hb hd k⟩
