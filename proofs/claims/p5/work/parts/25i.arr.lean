/-! rows of longs, bytes and booleans; long fields; switches -/
theorem xtyJ_ok (g : xG) (cw : xWc) (io : List Nat) (ty : FieldType) (v : xV) (w : Value) (h : xtyJ ty) (hv : (Nat.beq v.1 4) = true) (hr : xRv g cw io v w) : narrow ty w = w ∧ fits ty w = true := by
  obtain ⟨t, n⟩ := v
  have z : t = 4 := xbeq hv
  subst z
  have e : w = .long (lN n) := hr
  subst e
  have h : ty = .long := h
  subst h
  exact ⟨rfl, rfl⟩
theorem xs_putJ : xHok (fun e => .putfield e.2.2.2.2.2, xPp false xtyJ, xput (fun v => Nat.beq v.1 4)) := fun ih hI d M i tl lo st hp fs h hM _ hd hl hn hc => xput_ok xtyJ_ok (Or.inl rfl) (fun _ _ _ _ _ _ _ _ => rfl) (fun _ _ _ _ => trivial) ih hI d M i tl lo st hp fs h hM hd hl (fun z => by cases z) hn hc
noncomputable def xh_laload : xF := xald (fun k => Nat.beq k 3)
theorem xs_laload : xHok (fun _ => .laload, xPn 1, xh_laload) := by
  intro ih hI d M i tl lo st hp fs h hM he hd hl hn hc p l e R s m args below meth c D A g cw0 tys0 io0 Q C hQ
  obtain ⟨iv, s1, rfl, h1⟩ := xhd_some h
  obtain ⟨r, s2, rfl, h2⟩ := xhd_some h1
  obtain ⟨h3, h4⟩ := xif_some h2
  obtain ⟨q, h7, h8⟩ := xob_some h4
  obtain ⟨tr, nr⟩ := r
  have z : tr = 2 := xbeq h3
  subst z
  refine xald_ok (ins := .laload) ?_ hI h7 h8 hM hd hl hn hc C hQ
  intro p l e R s m args below meth c H locs cells slots Q D ws tys cc pc ls rest ad q t u n kd cA f ty hx hb hK hP hw ht hk hkd hu hn2 hdg k
  obtain ⟨v1, v2⟩ := xnI_in hu hn2
  have z := xbeq hk
  subst z
  obtain ⟨rfl, f0, rfl⟩ := hkd
  refine va_lald hx hb hK hP q t hw ht v1 hdg ?_
  rw [v2]
  exact k
theorem xupd_bL (h : Nat → Int64) (u : Nat) (x : Int64) (j : Nat) : xbody (.inr (.inl (vp_updL h u x))) j = if j = u then .long x else xbody (.inr (.inl h)) j := by
  show Value.long (if j = u then x else h j) = _
  split <;> rfl
theorem xupd_sL {h : Nat → Int64} {u : Nat} {x : Int64} (e : Value.long x = xbody (.inr (.inl h)) u) : (.inr (.inl (vp_updL h u x)) : xB) = .inr (.inl h) := by
  have e : x = h u := Value.long.inj e
  congr 2
  funext j
  unfold vp_updL
  split
  · rename_i z; rw [z, e]
  · rfl
noncomputable def xh_lastore : xF := fun ih d M e tl lo st hp => xhd st fun v s1 => xhd s1 fun i s2 => xhd s2 fun r s3 => xif (Nat.beq r.1 2 && Nat.beq v.1 4) (xob (wget hp.1 r.2) fun q => xarr q fun a => xif (Nat.beq a.1 3) (xast1 ih d M e tl lo s3 hp r.2 v (xnm hp.2.1 i) a))
theorem xs_lastore : xHok (fun _ => .lastore, xPn 1, xh_lastore) := by
  intro ih hI d M i tl lo st hp fs h hM he hd hl hn hc p l e R s m args below meth c D A g cw0 tys0 io0 Q C hQ
  obtain ⟨v, s1, rfl, h1⟩ := xhd_some h
  obtain ⟨iv, s2, rfl, h2⟩ := xhd_some h1
  obtain ⟨r, s3, rfl, h3⟩ := xhd_some h2
  obtain ⟨h4, h5⟩ := xif_some h3
  obtain ⟨h6, h7⟩ := Bool.and_eq_true_iff.mp h4
  obtain ⟨q, h8, h9⟩ := xob_some h5
  obtain ⟨o, rfl, h10⟩ := xarr_some h9
  obtain ⟨h11, h12⟩ := xif_some h10
  obtain ⟨tr, nr⟩ := r
  have z : tr = 2 := xbeq h6
  subst z
  obtain ⟨tv, nv⟩ := v
  have z : tv = 4 := xbeq h7
  subst z
  have a1 : i.2.1 = 1 := hl
  have hd : decode M.2.1 i.1 = .ok (.lastore, i.2.1) := hd
  rw [a1] at hd
  intro cw tys io H locs ls lv sv hE hK hP hD hS hlv hlo hst hh
  obtain ⟨wv, sv1, rfl, r0, hs1⟩ := xrel_cons hst
  obtain ⟨wi, sv2, rfl, r1, hs2⟩ := xrel_cons hs1
  obtain ⟨wa, sv3, rfl, r2, hs3⟩ := xrel_cons hs2
  obtain ⟨a, e', g1, rfl⟩ := xRv2 r2
  obtain ⟨q', g2, g3⟩ := hh.1.get h8
  rw [g1] at g2
  cases g2
  obtain ⟨kd, n, t, us⟩ := o
  have z : kd = 3 := xbeq h11
  subst z
  obtain ⟨cA, f, ty, rfl, hn2, ht, ⟨rfl, f0, rfl⟩, hall⟩ := xarr_get g3
  obtain ⟨q, g8, g9⟩ := wfl_get g1
  have ev : wv = .long (lN nv) := r0
  subst ev
  obtain ⟨u, e1, hu, key⟩ := xast_ok hI h8 h12 hM a1 hn hc C hQ hE hK hlv hlo hs3 hh g1 hn2 ht hall g8 g9
  have q1 := xnm_ok hh.2.1 r1
  rw [e1] at q1
  obtain ⟨-, rfl⟩ := q1
  obtain ⟨v1, v2⟩ := xnI_in hu hn2
  have v2 : (nI (0, u).2).toNatClampNeg = u := v2
  refine va_last C.1 C.2.1 hK hP hD hS q t g8 ht v1 hd fun H1 locs1 hP1 hD1 hS1 => ?_
  rw [v2] at hP1 hD1
  exact key (.long (lN nv)) _ rfl (xupd_bL f0 u (lN nv)) xupd_sL ⟨rfl, _, rfl⟩ H1 locs1 hP1 hD1 hS1
/-- a row of a kind -/
def xRk (kd tg : Nat) (w : List (List xE)) (k L t : Nat) (f : Nat → Nat) : Prop := ∃ us, wget w k = some (.inr (kd, L, t, us)) ∧ ∀ j, j < L → xat kd us j = (tg, f j)
section XRK
variable {d p0 pc ln op x y ix u v z k c n t L kd tg : Nat} {M : xM} {tl : List xI} {lo l1 : xLo} {st : List xV} {hp : xH} {hr : xHr} {va vb : xV} {w w' : List (List xE)} {f f1 : Nat → Nat} {P : xS → Prop} {S : List Nat} {fl fl1 : List xV} {us : List (Nat × xV)}
theorem xRk.to (h : xRk kd tg w k L t f) (e : ∀ j, j < L → f j = f1 j) : xRk kd tg w k L t f1 := by
  obtain ⟨us, h1, h2⟩ := h
  exact ⟨us, h1, fun j hj => by rw [h2 j hj, e j hj]⟩
theorem xRk.but (h : xRk kd tg w k L t f) (hb : xBut c w w') (hk : k ≠ c) : xRk kd tg w' k L t f := by
  obtain ⟨us, h1, h2⟩ := h
  exact ⟨us, (hb.1 k hk).trans h1, h2⟩
theorem xRk.fr (h : xRk kd tg w k L t f) (hb : xFr S w w') (hk : k ∉ S) : xRk kd tg w' k L t f := by
  obtain ⟨us, h1, h2⟩ := h
  exact ⟨us, (hb.1 k hk).trans h1, h2⟩
theorem xatk_cons {q : xV} : xat kd ((n, q) :: us) u = cond (Nat.beq n u) q (xat kd us u) := by
  show Option.rec (motive := fun _ => xV) (cond (Nat.beq kd 4) (3, 0) (cond (Nat.beq kd 3) (4, 0) (0, 0))) (fun v => v) (cond (Nat.beq n u) (some q) (xfind us u)) = _
  cases Nat.beq n u <;> rfl
theorem xast_row (h : xRk kd tg hp.1 k L t f) (hn : n < L) : ∃ w', xRk kd tg w' k L t (fun j => if j = n then u else f j) ∧ xBut k hp.1 w' ∧ ∀ {i : xI}, ∃ us, wget hp.1 k = some (.inr (kd, L, t, us)) ∧ xast1 xidk d M i tl lo st hp k (tg, u) (0, n) (kd, L, t, us) = some [(i.1 + i.2.1, tl, lo, st, (w', hp.2))] := by
  obtain ⟨us, h1, h2⟩ := h
  cases hs : xsame (tg, u) (xat kd us n) with
  | true =>
    have e := xsame_t hs
    refine ⟨hp.1, ⟨us, h1, fun j hj => ?_⟩, xBut.rf, fun {i} => ⟨us, h1, ?_⟩⟩
    · show xat kd us j = (tg, if j = n then u else f j)
      by_cases hj' : j = n
      · subst hj'
        rw [if_pos rfl]
        exact e.symm
      · rw [if_neg hj']
        exact h2 j hj
    · show xif (true && Nat.blt n L) (cond (xsame (tg, u) (xat kd us n)) _ _) = _
      rw [xblt_t hn, hs]
      rfl
  | false =>
    refine ⟨wset (.inr (kd, L, t, (n, (tg, u)) :: us)) hp.1 k, ⟨(n, (tg, u)) :: us, wget_set_self h1, fun j hj => ?_⟩, xBut.set h1, fun {i} => ⟨us, h1, ?_⟩⟩
    · rw [xatk_cons]
      show cond (Nat.beq n j) (tg, u) (xat kd us j) = (tg, if j = n then u else f j)
      by_cases hj' : j = n
      · subst hj'
        rw [if_pos rfl, Nat.beq_refl]
        rfl
      · rw [if_neg hj', xbeq_f (fun z => hj' z.symm)]
        exact h2 j hj
    · show xif (true && Nat.blt n L) (cond (xsame (tg, u) (xat kd us n)) _ _) = _
      rw [xblt_t hn, hs]
      rfl
theorem xg_bald (h : xRk kd 0 w k L t f) (hk : (Nat.beq kd 1 || Nat.beq kd 2) = true) (hi : xnm hr.1 va = (0, n)) (hn : n < L) (hv : f n = u) : xLd d M (p0, (pc, ln, 32, x, y, ix) :: tl, lo, va :: (2, k) :: st, (w, hr)) [(pc + ln, tl, lo, (0, u) :: st, (w, hr))] := by
  obtain ⟨us, h1, h2⟩ := h
  refine xg_op (f := xh_baload) rfl ?_
  show xob (wget w k) (fun q => xarr q (xald1 (fun k => Nat.beq k 1 || Nat.beq k 2) xidk d M (pc, ln, 32, x, y, ix) tl lo st (w, hr) (xnm hr.1 va))) = _
  rw [h1, hi]
  show xif ((Nat.beq kd 1 || Nat.beq kd 2) && (true && Nat.blt n L)) (xidk d M (pc + ln, tl, lo, xat kd us n :: st, (w, hr))) = _
  rw [hk, xblt_t hn, h2 n hn, hv]
  rfl
theorem xg_lald (h : xRk 3 4 w k L t f) (hi : xnm hr.1 va = (0, n)) (hn : n < L) (hv : f n = u) : xLd d M (p0, (pc, ln, 64, x, y, ix) :: tl, lo, va :: (2, k) :: st, (w, hr)) [(pc + ln, tl, lo, (4, u) :: st, (w, hr))] := by
  obtain ⟨us, h1, h2⟩ := h
  refine xg_hok xs_laload rfl ?_
  show xob (wget w k) (fun q => xarr q (xald1 (fun k => Nat.beq k 3) xidk d M (pc, ln, 64, x, y, ix) tl lo st (w, hr) (xnm hr.1 va))) = _
  rw [h1, hi]
  show xif (true && (true && Nat.blt n L)) (xidk d M (pc + ln, tl, lo, xat 3 us n :: st, (w, hr))) = _
  rw [xblt_t hn, h2 n hn, hv]
  rfl
theorem xg_last (h : xRk 3 4 w k L t f) (hi : xnm hr.1 va = (0, n)) (hn : n < L) (K : ∀ w', xRk 3 4 w' k L t (fun j => if j = n then u else f j) → xBut k w w' → xTo d M (pc + ln, tl, lo, st, (w', hr)) P) : xTo d M (p0, (pc, ln, 65, x, y, ix) :: tl, lo, (4, u) :: va :: (2, k) :: st, (w, hr)) P := by
  obtain ⟨w', q1, q2, q3⟩ := xast_row (d := d) (M := M) (tl := tl) (lo := lo) (st := st) (u := u) (hp := (w, hr)) h hn
  obtain ⟨us, q4, q5⟩ := q3 (i := (pc, ln, 65, x, y, ix))
  refine xg_t (xg_hok (fs := [(pc + ln, tl, lo, st, (w', hr))]) xs_lastore rfl ?_) (K w' q1 q2)
  show xob (wget w k) (fun q => xarr q fun a => xif (Nat.beq a.1 3) (xast1 xidk d M (pc, ln, 65, x, y, ix) tl lo st (w, hr) k (4, u) (xnm hr.1 va) a)) = _
  rw [show wget w k = _ from q4, hi]
  exact q5
theorem xg_bastZ (h : xRk 2 0 w k L t f) (hi : xnm hr.1 va = (0, n)) (hv : xnm hr.1 vb = (0, u)) (ib : xisi vb = true) (hu : u ≤ 1) (hn : n < L) (K : ∀ w', xRk 2 0 w' k L t (fun j => if j = n then u else f j) → xBut k w w' → xTo d M (pc + ln, tl, lo, st, (w', hr)) P) : xTo d M (p0, (pc, ln, 28, x, y, ix) :: tl, lo, vb :: va :: (2, k) :: st, (w, hr)) P := by
  obtain ⟨w', q1, q2, q3⟩ := xast_row (d := d) (M := M) (tl := tl) (lo := lo) (st := st) (u := u) (hp := (w, hr)) h hn
  obtain ⟨us, q4, q5⟩ := q3 (i := (pc, ln, 28, x, y, ix))
  refine xg_t (xg_op (f := xh_bastore) (fs := [(pc + ln, tl, lo, st, (w', hr))]) rfl ?_) (K w' q1 q2)
  show xif (Nat.beq 2 2 && xisi vb) (xob (wget w k) fun q => xarr q (xbst1 xidk d M (pc, ln, 28, x, y, ix) tl lo st (w, hr) k (xnm hr.1 vb) (xnm hr.1 va))) = _
  rw [ib, show wget w k = _ from q4, hi, hv]
  show xif (true && Nat.ble u 1) (xast1 xidk d M (pc, ln, 28, x, y, ix) tl lo st (w, hr) k (0, u) (0, n) (2, L, t, us)) = _
  rw [Nat.ble_eq_true_of_le hu]
  exact q5
theorem xg_bastY (h : xRk 1 0 w k L t f) (hi : xnm hr.1 va = (0, n)) (hv : xnm hr.1 vb = (0, u)) (ib : xisi vb = true) (hn : n < L) (K : ∀ w', xRk 1 0 w' k L t (fun j => if j = n then xbyt u else f j) → xBut k w w' → xTo d M (pc + ln, tl, lo, st, (w', hr)) P) : xTo d M (p0, (pc, ln, 28, x, y, ix) :: tl, lo, vb :: va :: (2, k) :: st, (w, hr)) P := by
  obtain ⟨w', q1, q2, q3⟩ := xast_row (d := d) (M := M) (tl := tl) (lo := lo) (st := st) (u := xbyt u) (hp := (w, hr)) h hn
  obtain ⟨us, q4, q5⟩ := q3 (i := (pc, ln, 28, x, y, ix))
  refine xg_t (xg_op (f := xh_bastore) (fs := [(pc + ln, tl, lo, st, (w', hr))]) rfl ?_) (K w' q1 q2)
  show xif (Nat.beq 2 2 && xisi vb) (xob (wget w k) fun q => xarr q (xbst1 xidk d M (pc, ln, 28, x, y, ix) tl lo st (w, hr) k (xnm hr.1 vb) (xnm hr.1 va))) = _
  rw [ib, show wget w k = _ from q4, hi, hv]
  show xN (xbyt u) (fun z => xast1 xidk d M (pc, ln, 28, x, y, ix) tl lo st (w, hr) k (0, z) (0, n) (1, L, t, us)) = _
  rw [xN_eq]
  exact q5
theorem xg_putJ (h : wget w k = some (.inl (x, fl))) (hv : xget fl y = some vb) (hx : xset (4, u) fl y = fl1) (K : ∀ w', wget w' k = some (.inl (x, fl1)) → xBut k w w' → xTo d M (pc + ln, tl, lo, st, (w', hr)) P) : xTo d M (p0, (pc, ln, 71, x, y, ix) :: tl, lo, (4, u) :: (2, k) :: st, (w, hr)) P := by
  subst hx
  refine xg_t (xg_hok (fs := [(pc + ln, tl, lo, st, (wset (.inl (x, xset (4, u) fl y)) w k, hr))]) xs_putJ rfl ?_) (K _ (wget_set_self h) (xBut.set h))
  show xob (wget w k) (fun q => xobj q (xpf1 xidk d M (pc, ln, 71, x, y, ix) tl lo st (w, hr) (4, u) k)) = _
  rw [h]
  show xif (Nat.beq x x) (xob (xget fl y) fun _ => xidk d M (pc + ln, tl, lo, st, xwr (w, hr) k (.inl (x, xset (4, u) fl y)))) = _
  rw [Nat.beq_refl, hv]
  rfl
theorem xg_lload (h : xfind lo x = some (4, u)) : xLd d M (p0, (pc, ln, 53, x, y, ix) :: tl, lo, st, hp) [(pc + ln, tl, lo, (4, u) :: st, hp)] := by
  refine xg_op (f := xh_lload) rfl ?_
  show xob (xfind lo x) (fun v => xif (Nat.beq v.1 4) (xidk d M (pc + ln, tl, lo, v :: st, hp))) = _
  rw [h]
  rfl
theorem xg_lstore (hm : Nat.blt (x + 1) M.2.2.1 = true) (hl : lo.filter (xkp2 x) = l1) : xLd d M (p0, (pc, ln, 54, x, y, ix) :: tl, lo, (4, u) :: st, hp) [(pc + ln, tl, (x, (4, u)) :: l1, st, hp)] := by
  refine xg_op (f := xh_lstore) rfl ?_
  show xif (Nat.blt (x + 1) M.2.2.1) (xflt (xkp2 x) lo fun l => xidk d M (pc + ln, tl, (x, (4, u)) :: l, st, hp)) = _
  rw [hm, xflt_eq, hl]
  rfl
theorem xg_lconst : xLd d M (p0, (pc, ln, 51, x, y, ix) :: tl, lo, st, hp) [(pc + ln, tl, lo, (4, x) :: st, hp)] := xg_op (f := xh_lconst) rfl rfl
theorem xg_ldc2 : xLd d M (p0, (pc, ln, 52, x, y, ix) :: tl, lo, st, hp) [(pc + ln, tl, lo, (4, x) :: st, hp)] := xg_op (f := xh_lconst) rfl rfl
/-- a switch: where a known number goes -/
def xswt (df : Nat) (u : Nat) : List (Nat × Nat) → Nat
  | [] => df
  | q :: ks => if u = q.1 then q.2 else xswt df u ks
theorem xswgT {e : xI} {s0 : List xV} : ∀ (ks : List (Nat × Nat)), xswg xidk d M e tl lo s0 st hp (0, u) ks = some [(xswt e.2.2.2.1 u ks, [], lo, st, hp)]
  | [] => rfl
  | q :: ks => by
    have ih := xswgT (e := e) (s0 := s0) ks
    show xans (xeq hp.2.1 (0, u) (0, q.1)) hp (fun t => cond t (xidk d M (q.2, [], lo, st, hp)) (xswg xidk d M e tl lo s0 st hp (0, u) ks)) _ = _
    rw [xeq_of (a := (0, u)) (b := (0, q.1)) rfl rfl, ih]
    show xans (cond (Nat.beq u q.1) (1, 0, 0) (0, 0, 0)) hp _ _ = some [(if u = q.1 then q.2 else xswt e.2.2.2.1 u ks, [], lo, st, hp)]
    cases hc : Nat.beq u q.1 with
    | true =>
      rw [if_pos (xbeq hc)]
      rfl
    | false =>
      rw [if_neg (xnbeq hc)]
      rfl
theorem xg_swt {ks : List (Nat × Nat)} (ho : xget xoph op = some xh_switch) (hk : xget xsws ix = some ks) (ia : xisi va = true) (ha : xnm hp.2.1 va = (0, u)) (ht : xswt x u ks = z) : xLd d M (p0, (pc, ln, op, x, y, ix) :: tl, lo, va :: st, hp) [(z, [], lo, st, hp)] := by
  refine xg_op ho ?_
  show xif (xisi va) (xob (xget xsws ix) fun ks => xswg xidk d M (pc, ln, op, x, y, ix) tl lo (va :: st) st hp (xnm hp.2.1 va) ks) = _
  rw [ia, hk, ha, ← ht]
  exact xswgT ks
end XRK
/-! calls by what they keep: no answer, an int, a long -/
section XCK
variable {d x y ix p0 pc ln j : Nat} {M : xM} {P : xS → Prop} {tl : List xI} {lo : xLo} {st rest vs : List xV} {w : List (List xE)} {bd : List (Nat × Nat)} {fc : List (Nat × Nat × Bool)} {cn sl cn1 sl1 : Nat} {rr : Nat × Nat} {fl : List xV} {Q : List (List xE) → Prop} {Qi : Nat → List (List xE) → Prop}
def xPi (d : Nat) (M : xM) (vs : List xV) (w : List (List xE)) (bd : List (Nat × Nat)) (fc : List (Nat × Nat × Bool)) (rr : Nat × Nat) (Q : Nat → List (List xE) → Prop) : Prop := ∃ n w', Q n w' ∧ xPr d M vs w bd fc rr [(0, n)] w'
def xPj (d : Nat) (M : xM) (vs : List xV) (w : List (List xE)) (bd : List (Nat × Nat)) (fc : List (Nat × Nat × Bool)) (rr : Nat × Nat) (Q : Nat → List (List xE) → Prop) : Prop := ∃ n w', Q n w' ∧ xPr d M vs w bd fc rr [(4, n)] w'
theorem xPi.of (h : xTo d M (0, [], xarg vs 0, [], (w, bd, fc, 0, 0, rr)) (fun φ => ∃ n w', xEnd M.2.2.2.2.2.1 [(0, n)] (w', bd, fc, 0, 0, rr) φ ∧ Qi n w')) : xPi d M vs w bd fc rr Qi := by
  obtain ⟨φ, h1, n, w', ⟨h2, h3⟩, h4⟩ := h
  exact ⟨n, w', h4, φ, h1, h2, h3⟩
theorem xPj.of (h : xTo d M (0, [], xarg vs 0, [], (w, bd, fc, 0, 0, rr)) (fun φ => ∃ n w', xEnd M.2.2.2.2.2.1 [(4, n)] (w', bd, fc, 0, 0, rr) φ ∧ Qi n w')) : xPj d M vs w bd fc rr Qi := by
  obtain ⟨φ, h1, n, w', ⟨h2, h3⟩, h4⟩ := h
  exact ⟨n, w', h4, φ, h1, h2, h3⟩
theorem xg_cVv (M' : xM) (hk : mget x = some M') (hP : xPq d M' ((2, j) :: vs) w bd fc rr [] Q) (hy : y % 8 = 0) (ho : wget w j = some (.inl (y / 8, fl))) (hn : Nat.beq (st.take M'.2.2.2.2.1).length M'.2.2.2.2.1 = true) (hv : (st.take M'.2.2.2.2.1).reverse = vs) (hr : st.drop M'.2.2.2.2.1 = (2, j) :: rest) (hb : ((Nat.ble (cn + M'.2.2.2.2.2.2.1) M.2.2.2.2.2.2.1 && Nat.ble (xwds ((2, j) :: vs)) M'.2.2.1) && (Nat.ble (sl + M'.2.2.2.2.2.2.2.1) M.2.2.2.2.2.2.2.1 && Nat.ble (xwds rest) 8)) = true) (h1 : cn + M'.2.2.2.2.2.2.1 = cn1) (h2 : sl + M'.2.2.2.2.2.2.2.1 = sl1) (K : ∀ w', Q w' → xTo (d + 1) M (pc + ln, tl, lo, rest, (w', bd, fc, cn1, sl1, rr)) P) : xTo (d + 1) M (p0, (pc, ln, 13, x, y, ix) :: tl, lo, st, (w, bd, fc, cn, sl, rr)) P := xg_cV M' hk hP hy ho hn hv hr hb rfl h1 h2 K
theorem xg_cSv (M' : xM) (hk : mget x = some M') (hP : xPq d M' vs w bd fc rr [] Q) (hy : y % 8 = 2) (hn : Nat.beq (st.take M'.2.2.2.2.1).length M'.2.2.2.2.1 = true) (hv : (st.take M'.2.2.2.2.1).reverse = vs) (hr : st.drop M'.2.2.2.2.1 = rest) (hb : ((Nat.ble (cn + M'.2.2.2.2.2.2.1) M.2.2.2.2.2.2.1 && Nat.ble (xwds vs) M'.2.2.1) && (Nat.ble (sl + M'.2.2.2.2.2.2.2.1) M.2.2.2.2.2.2.2.1 && Nat.ble (xwds rest) 8)) = true) (h1 : cn + M'.2.2.2.2.2.2.1 = cn1) (h2 : sl + M'.2.2.2.2.2.2.2.1 = sl1) (K : ∀ w', Q w' → xTo (d + 1) M (pc + ln, tl, lo, rest, (w', bd, fc, cn1, sl1, rr)) P) : xTo (d + 1) M (p0, (pc, ln, 13, x, y, ix) :: tl, lo, st, (w, bd, fc, cn, sl, rr)) P := xg_cS M' hk hP hy hn hv hr hb rfl h1 h2 K
theorem xg_cVi (M' : xM) (hk : mget x = some M') (hP : xPi d M' ((2, j) :: vs) w bd fc rr Qi) (hy : y % 8 = 0) (ho : wget w j = some (.inl (y / 8, fl))) (hn : Nat.beq (st.take M'.2.2.2.2.1).length M'.2.2.2.2.1 = true) (hv : (st.take M'.2.2.2.2.1).reverse = vs) (hr : st.drop M'.2.2.2.2.1 = (2, j) :: rest) (hb : ((Nat.ble (cn + M'.2.2.2.2.2.2.1) M.2.2.2.2.2.2.1 && Nat.ble (xwds ((2, j) :: vs)) M'.2.2.1) && (Nat.ble (sl + M'.2.2.2.2.2.2.2.1) M.2.2.2.2.2.2.2.1 && Nat.ble (xwds rest) 8)) = true) (h1 : cn + M'.2.2.2.2.2.2.1 = cn1) (h2 : sl + M'.2.2.2.2.2.2.2.1 = sl1) (K : ∀ n w', Qi n w' → xTo (d + 1) M (pc + ln, tl, lo, (0, n) :: rest, (w', bd, fc, cn1, sl1, rr)) P) : xTo (d + 1) M (p0, (pc, ln, 13, x, y, ix) :: tl, lo, st, (w, bd, fc, cn, sl, rr)) P := by
  obtain ⟨n, w', q1, q2⟩ := hP
  exact xg_cV M' hk ⟨w', rfl, q2⟩ hy ho hn hv hr hb rfl h1 h2 (fun w2 e => by subst e; exact K n _ q1)
theorem xg_cSi (M' : xM) (hk : mget x = some M') (hP : xPi d M' vs w bd fc rr Qi) (hy : y % 8 = 2) (hn : Nat.beq (st.take M'.2.2.2.2.1).length M'.2.2.2.2.1 = true) (hv : (st.take M'.2.2.2.2.1).reverse = vs) (hr : st.drop M'.2.2.2.2.1 = rest) (hb : ((Nat.ble (cn + M'.2.2.2.2.2.2.1) M.2.2.2.2.2.2.1 && Nat.ble (xwds vs) M'.2.2.1) && (Nat.ble (sl + M'.2.2.2.2.2.2.2.1) M.2.2.2.2.2.2.2.1 && Nat.ble (xwds rest) 8)) = true) (h1 : cn + M'.2.2.2.2.2.2.1 = cn1) (h2 : sl + M'.2.2.2.2.2.2.2.1 = sl1) (K : ∀ n w', Qi n w' → xTo (d + 1) M (pc + ln, tl, lo, (0, n) :: rest, (w', bd, fc, cn1, sl1, rr)) P) : xTo (d + 1) M (p0, (pc, ln, 13, x, y, ix) :: tl, lo, st, (w, bd, fc, cn, sl, rr)) P := by
  obtain ⟨n, w', q1, q2⟩ := hP
  exact xg_cS M' hk ⟨w', rfl, q2⟩ hy hn hv hr hb rfl h1 h2 (fun w2 e => by subst e; exact K n _ q1)
end XCK
theorem xrb {f : Nat → Nat} {n v B : Nat} (hv : v ≤ B) (h : ∀ j, f j ≤ B) : ∀ j, (fun j => if j = n then v else f j) j ≤ B := by
  intro j
  show (if j = n then v else f j) ≤ B
  split
  · exact hv
  · exact h j
