/-! arrays written, new cells -/
theorem xRv.det {g : xG} {cw : xWc} {io : List Nat} {v : xV} {a b : Value} (ha : xRv g cw io v a) (hb : xRv g cw io v b) : a = b := by
  obtain ⟨t, n⟩ := v
  unfold xRv at ha hb
  split at ha <;> rename_i ht <;> simp only at ht ha hb <;> subst ht <;> simp only at hb
  · rw [ha.2, hb.2]
  · obtain ⟨u, h1, h2⟩ := ha
    obtain ⟨u', h3, h4⟩ := hb
    rw [h1] at h3
    cases h3
    rw [h2, h4]
  · obtain ⟨x, y, h1, h2⟩ := ha
    obtain ⟨x', y', h3, h4⟩ := hb
    rw [h1] at h3
    cases h3
    rw [h2, h4]
  · rw [ha, hb]
  · rw [ha, hb]
  · rw [ha.2, hb.2]
  · rw [ha, hb]
theorem xsame_ok {a b : xV} (h : xsame a b = true) : a = b := by
  obtain ⟨h1, h2⟩ := Bool.and_eq_true_iff.mp h
  obtain ⟨a1, a2⟩ := a
  obtain ⟨b1, b2⟩ := b
  have e1 : a1 = b1 := xbeq h1
  have e2 : a2 = b2 := xbeq h2
  rw [e1, e2]
theorem xset_self {α : Type} {l : List α} {n : Nat} {q : α} (h : l[n]? = some q) : l.set n q = l := by
  obtain ⟨h1, h2⟩ := List.getElem?_eq_some_iff.mp h
  rw [← h2]
  exact List.set_getElem_self _
theorem xast_ok {ih : xK} (hI : xIHok ih) {d : Nat} {M : xM} {i : xI} {tl : List xI} {lo : xLo} {s3 : List xV} {v iv : xV} {nr kd n t : Nat} {us : List (Nat × xV)} {hp : xH} {fs : List xS} (h0 : wget hp.1 nr = some (.inr (kd, n, t, us))) (h : xast1 ih d M i tl lo s3 hp nr v iv (kd, n, t, us) = some fs) (hM : xMb M) (a1 : i.2.1 = 1) (hn : xnx i tl) (hc : xcok M.1.cls M.2.1 tl) {p : Program} {l : Launch} {e : Env} {R : Room} {s : State} {m : MethodId} {args : Array Value} {below : List Frame} {meth : Method} {c : Code} {D : va_G} {A : Nat → Prop} {g : xG} {cw0 : xWc} {tys0 : xTy} {io0 : List Nat} {Q : State → Prop} (C : xCx p R s m args meth c A g io0 d M) (hQ : ∀ φ ∈ fs, xpos M φ → xOk p l e R s m args below meth c D A M.2.2.1 g cw0 tys0 io0 Q φ)
    {cw : xWc} {tys : xTy} {io : List Nat} {ls : Array Slot} {lv : List (Nat × Value)} {sv3 : List Value} (hE : xExt cw0 tys0 io0 cw tys io) (hK : va_K D vwCl tys s) (hlv : lv_has ls M.2.2.1 lv) (hlo : xrel (fun (x : Nat × xV) (y : Nat × Value) => x.1 = y.1 ∧ xRv g cw io x.2 y.2) lo lv) (hs3 : xrel (xRv g cw io) s3 sv3) (hh : xRh g hp cw tys io) {ad q : Nat} {cA : ClassId} {f : xB} {ty : FieldType} (g1 : wget cw nr = some (ad, .inl (cA, n, f))) (hn2 : n < 2147483648) (ht : tys[t]? = some (cA, ty)) (hall : ∀ j, xRa g cw io kd us f j) (hq1 : cw.flatten[q]? = some (ad, .inl (cA, n, f))) (hq2 : ∀ v, cw.flatten.set q v = (wset v cw nr).flatten) : ∃ u, iv = (0, u) ∧ u < n ∧ ∀ (w : Value) (f' : xB), xRv g cw io v w → (∀ j, xbody f' j = if j = u then w else xbody f j) → (w = xbody f u → f' = f) → xkd kd ty f' → ∀ (H1 : Heap) (locs1 : List Loc), va_P D vwCl (cw.flatten.set q (ad, .inl (cA, n, f'))) H1 → va_D A (cw.flatten.set q (ad, .inl (cA, n, f'))) → va_S A s.heap H1 locs1 → W p l e R s m args below meth c H1 locs1 hp.2.2.2.1 hp.2.2.2.2.1 Q (F0 m (i.1 + 1) ls sv3) := by
  obtain ⟨h3, h4⟩ := xif_some h
  obtain ⟨h5, h6⟩ := Bool.and_eq_true_iff.mp h3
  obtain ⟨ti, ui⟩ := iv
  have z : ti = 0 := xbeq h5
  subst z
  have hu : ui < n := xblt h6
  refine ⟨ui, rfl, hu, fun w f' hw hf' hsame hkd' H1 locs1 hP1 hD1 hS1 => ?_⟩
  cases hsm : xsame v (xat kd us ui) with
  | true =>
    have h4 : cond (xsame v (xat kd us ui)) (ih d M (i.1 + i.2.1, tl, lo, s3, hp)) (ih d M (i.1 + i.2.1, tl, lo, s3, xwr hp nr (.inr (kd, n, t, (ui, v) :: us)))) = some fs := h4
    rw [hsm] at h4
    have K := xgo hI h4 hM hn hc C hQ
    have e1 := xsame_ok hsm
    rw [e1] at hw
    have e2 := hsame (xRv.det hw (xat_ok (hall ui)))
    subst e2
    rw [xset_self hq1] at hP1 hD1
    have k := K cw tys io H1 locs1 ls lv sv3 hE hK hP1 hD1 hS1 hlv hlo hs3 hh
    simp only [a1] at k
    exact k
  | false =>
    have h4 : cond (xsame v (xat kd us ui)) (ih d M (i.1 + i.2.1, tl, lo, s3, hp)) (ih d M (i.1 + i.2.1, tl, lo, s3, xwr hp nr (.inr (kd, n, t, (ui, v) :: us)))) = some fs := h4
    rw [hsm] at h4
    have K := xgo hI h4 hM hn hc C hQ
    rw [hq2] at hP1 hD1
    have E : xExt cw tys io (wset (ad, .inl (cA, n, f')) cw nr) tys io := xExt.set g1
    have hnew : xRe g cw tys io (.inr (kd, n, t, (ui, v) :: us)) (.inl (cA, n, f')) := by
      refine ⟨rfl, hn2, ty, ht, hkd', fun j => ?_⟩
      show xRa g cw io kd ((ui, v) :: us) f' j
      have hj := hall j
      unfold xRa at hj ⊢
      have e : xfind ((ui, v) :: us) j = cond (Nat.beq ui j) (some v) (xfind us j) := rfl
      rw [e, hf' j]
      cases hc2 : Nat.beq ui j with
      | true =>
        have z := xbeq hc2
        subst z
        rw [if_pos rfl]
        exact hw
      | false =>
        have z := xnbeq hc2
        rw [if_neg (fun y => z y.symm)]
        exact hj
    have k := K _ tys io H1 locs1 ls lv sv3 (hE.tr E) hK hP1 hD1 hS1 hlv (xrel_imp (fun _ _ q => ⟨q.1, q.2.ext E⟩) hlo) (xrel_imp (fun _ _ q => q.ext E) hs3) ⟨hh.1.set h0 g1 hnew, hh.2⟩
    simp only [a1] at k
    exact k
theorem xupd_b (h : Nat → Int32) (u : Nat) (x : Int32) (j : Nat) : xbody (.inl (upd h u x)) j = if j = u then .int x else xbody (.inl h) j := by
  show Value.int (if j = u then x else h j) = _
  split <;> rfl
theorem xupd_s {h : Nat → Int32} {u : Nat} {x : Int32} (e : Value.int x = xbody (.inl h) u) : (.inl (upd h u x) : xB) = .inl h := by
  have e : x = h u := Value.int.inj e
  congr 1
  funext j
  unfold upd
  split
  · rename_i z; rw [z, e]
  · rfl
theorem xs_iastore : xHok (fun _ => .iastore, xPn 1, xh_iastore) := by
  intro ih hI d M i tl lo st hp fs h hM he hd hl hn hc p l e R s m args below meth c D A g cw0 tys0 io0 Q C hQ
  obtain ⟨v, s1, rfl, h1⟩ := xhd_some h
  obtain ⟨iv, s2, rfl, h2⟩ := xhd_some h1
  obtain ⟨r, s3, rfl, h3⟩ := xhd_some h2
  obtain ⟨h4, h5⟩ := xif_some h3
  obtain ⟨h6, h7⟩ := Bool.and_eq_true_iff.mp h4
  obtain ⟨q, h8, h9⟩ := xob_some h5
  obtain ⟨o, rfl, h10⟩ := xarr_some h9
  obtain ⟨h11, h12⟩ := xif_some h10
  obtain ⟨tr, nr⟩ := r
  have z : tr = 2 := xbeq h6
  subst z
  have a1 : i.2.1 = 1 := hl
  have hd : decode M.2.1 i.1 = .ok (.iastore, i.2.1) := hd
  rw [a1] at hd
  intro cw tys io H locs ls lv sv hE hK hP hD hS hlv hlo hst hh
  obtain ⟨wv, sv1, rfl, r0, hs1⟩ := xrel_cons hst
  obtain ⟨wi, sv2, rfl, r1, hs2⟩ := xrel_cons hs1
  obtain ⟨wa, sv3, rfl, r2, hs3⟩ := xrel_cons hs2
  obtain ⟨a, e', g1, rfl⟩ := xRv2 r2
  obtain ⟨q', g2, g3⟩ := hh.1.get h8
  rw [g1] at g2
  cases g2
  obtain ⟨kd, n, t, us⟩ := o
  have z : kd = 0 := xbeq h11
  subst z
  obtain ⟨cA, f, ty, rfl, hn2, ht, ⟨rfl, f0, rfl⟩, hall⟩ := xarr_get g3
  obtain ⟨q, g8, g9⟩ := wfl_get g1
  obtain ⟨x, rfl⟩ := xisi_ok h7 r0
  obtain ⟨u, e1, hu, key⟩ := xast_ok hI h8 h12 hM a1 hn hc C hQ hE hK hlv hlo hs3 hh g1 hn2 ht hall g8 g9
  have q1 := xnm_ok hh.2.1 r1
  rw [e1] at q1
  obtain ⟨-, rfl⟩ := q1
  obtain ⟨v1, v2⟩ := xnI_in hu hn2
  have v2 : (nI (0, u).2).toNatClampNeg = u := v2
  refine va_iast C.1 C.2.1 hK hP hD hS q t g8 ht v1 hd fun H1 locs1 hP1 hD1 hS1 => ?_
  rw [v2] at hP1 hD1
  exact key (.int x) _ (xnm_ok hh.2.1 r0) (xupd_b f0 u x) xupd_s ⟨rfl, _, rfl⟩ H1 locs1 hP1 hD1 hS1
theorem xnarZ {x : Int32} (h : Value.int x = .int 0 ∨ Value.int x = .int 1) : vp_nar .boolean x = x := by
  rcases h with h | h <;> cases h <;> decide
theorem xbyt_ok {u : Nat} (h : u < 4294967296) : vp_nar .byte (nI u) = nI (xbyt u) ∧ xbyt u < 4294967296 := by
  have hb : xbyt u < 4294967296 ∧ (xbyt u = u % 256 ∧ u % 256 < 128 ∨ xbyt u = u % 256 + 4294967040 ∧ 128 ≤ u % 256) := by
    unfold xbyt
    have hm : u % 256 < 256 := Nat.mod_lt _ (by decide)
    cases hc : Nat.blt (u % 256) 128 with
    | true =>
      have := xblt hc
      rw [cond_true]
      omega
    | false =>
      have := xnblt hc
      rw [cond_false]
      omega
  refine ⟨?_, hb.1⟩
  rw [vp_nar_byte]
  apply Int32.toInt_inj.mp
  rw [xnI_toInt hb.1, Int8.toInt_toInt32, Int32.toInt_toInt8, xnI_toInt h]
  have e1 : xbs u = (u + 2147483648) % 4294967296 := rfl
  have e2 : xbs (xbyt u) = (xbyt u + 2147483648) % 4294967296 := rfl
  rw [Int.bmod_def]
  split <;> omega
theorem xs_bastore : xHok (fun _ => .bastore, xPn 1, xh_bastore) := by
  intro ih hI d M i tl lo st hp fs h hM he hd hl hn hc p l e R s m args below meth c D A g cw0 tys0 io0 Q C hQ
  obtain ⟨v, s1, rfl, h1⟩ := xhd_some h
  obtain ⟨iv, s2, rfl, h2⟩ := xhd_some h1
  obtain ⟨r, s3, rfl, h3⟩ := xhd_some h2
  obtain ⟨h4, h5⟩ := xif_some h3
  obtain ⟨h6, h7⟩ := Bool.and_eq_true_iff.mp h4
  obtain ⟨q, h8, h9⟩ := xob_some h5
  obtain ⟨o, rfl, h10⟩ := xarr_some h9
  obtain ⟨tr, nr⟩ := r
  have z : tr = 2 := xbeq h6
  subst z
  have a1 : i.2.1 = 1 := hl
  have hd : decode M.2.1 i.1 = .ok (.bastore, i.2.1) := hd
  rw [a1] at hd
  intro cw tys io H locs ls lv sv hE hK hP hD hS hlv hlo hst hh
  obtain ⟨wv, sv1, rfl, r0, hs1⟩ := xrel_cons hst
  obtain ⟨wi, sv2, rfl, r1, hs2⟩ := xrel_cons hs1
  obtain ⟨wa, sv3, rfl, r2, hs3⟩ := xrel_cons hs2
  obtain ⟨a, e', g1, rfl⟩ := xRv2 r2
  obtain ⟨q', g2, g3⟩ := hh.1.get h8
  rw [g1] at g2
  cases g2
  obtain ⟨kd, n, t, us⟩ := o
  obtain ⟨x, rfl⟩ := xisi_ok h7 r0
  have q0 := xnm_ok hh.2.1 r0
  have q1 := xnm_ok hh.2.1 r1
  have h10 : cond (Nat.beq kd 2) (xif (xis01 (xnm hp.2.1 v)) (xast1 ih d M i tl lo s3 hp nr (xnm hp.2.1 v) (xnm hp.2.1 iv) (kd, n, t, us))) (xif (Nat.beq kd 1) (cond (Nat.beq (xnm hp.2.1 v).1 0) (xN (xbyt (xnm hp.2.1 v).2) fun z => xast1 ih d M i tl lo s3 hp nr (0, z) (xnm hp.2.1 iv) (kd, n, t, us)) (xfresh (2147483520, 2147483775) (fun w hp' => xast1 ih d M i tl lo s3 hp' nr w (xnm hp.2.1 iv) (kd, n, t, us)) hp))) = some fs := h10
  cases hk2 : Nat.beq kd 2 with
  | true =>
    rw [hk2, cond_true] at h10
    have z : kd = 2 := xbeq hk2
    subst z
    obtain ⟨h11, h12⟩ := xif_some h10
    obtain ⟨cA, f, ty, rfl, hn2, ht, ⟨rfl, f0, rfl⟩, hall⟩ := xarr_get g3
    obtain ⟨q, g8, g9⟩ := wfl_get g1
    obtain ⟨u, e1, hu, key⟩ := xast_ok hI h8 h12 hM a1 hn hc C hQ hE hK hlv hlo hs3 hh g1 hn2 ht hall g8 g9
    rw [e1] at q1
    obtain ⟨-, rfl⟩ := q1
    obtain ⟨v1, v2⟩ := xnI_in hu hn2
    have v2 : (nI (0, u).2).toNatClampNeg = u := v2
    refine va_zast C.1 C.2.1 hK hP hD hS q t g8 ht v1 hd fun H1 locs1 hP1 hD1 hS1 => ?_
    rw [v2, xnarZ (x01_ok h11 q0)] at hP1 hD1
    exact key (.int x) _ q0 (xupd_b f0 u x) xupd_s ⟨rfl, _, rfl⟩ H1 locs1 hP1 hD1 hS1
  | false =>
    rw [hk2, cond_false] at h10
    obtain ⟨h11, h12⟩ := xif_some h10
    have z : kd = 1 := xbeq h11
    subst z
    obtain ⟨cA, f, ty, rfl, hn2, ht, ⟨rfl, f0, rfl⟩, hall⟩ := xarr_get g3
    obtain ⟨q, g8, g9⟩ := wfl_get g1
    cases hk0 : Nat.beq (xnm hp.2.1 v).1 0 with
    | true =>
      rw [hk0] at h12
      have h12 : xN (xbyt (xnm hp.2.1 v).2) (fun z => xast1 ih d M i tl lo s3 hp nr (0, z) (xnm hp.2.1 iv) (1, n, t, us)) = some fs := h12
      rw [xN_eq] at h12
      obtain ⟨u, e1, hu, key⟩ := xast_ok hI h8 h12 hM a1 hn hc C hQ hE hK hlv hlo hs3 hh g1 hn2 ht hall g8 g9
      rw [e1] at q1
      obtain ⟨-, rfl⟩ := q1
      obtain ⟨v1, v2⟩ := xnI_in hu hn2
      have v2 : (nI (0, u).2).toNatClampNeg = u := v2
      refine va_bast C.1 C.2.1 hK hP hD hS q t g8 ht v1 hd fun H1 locs1 hP1 hD1 hS1 => ?_
      have z := xbeq hk0
      generalize xnm hp.2.1 v = v' at *
      obtain ⟨tv, uv⟩ := v'
      simp only at z
      subst z
      obtain ⟨l1, e2⟩ := q0
      cases e2
      obtain ⟨b1, b2⟩ := xbyt_ok l1
      rw [v2, b1] at hP1 hD1
      exact key (.int (nI (xbyt uv))) _ ⟨b2, rfl⟩ (xupd_b f0 u _) xupd_s ⟨rfl, _, rfl⟩ H1 locs1 hP1 hD1 hS1
    | false =>
      rw [hk0] at h12
      have h12 : xN hp.2.1.length (fun k => xast1 ih d M i tl lo s3 (hp.1, hp.2.1 ++ [(2147483520, 2147483775)], hp.2.2) nr (1, k) (xnm hp.2.1 iv) (1, n, t, us)) = some fs := h12
      rw [xN_eq] at h12
      obtain ⟨u8, hu8, e8⟩ := xnI_of (vp_nar .byte x)
      have h8' : (x.toInt8.toInt32).toInt = (xbs u8 : Int) - 2147483648 := by
        rw [← vp_nar_byte, e8]
        exact xnI_toInt hu8
      have h9' : -128 ≤ (x.toInt8.toInt32).toInt ∧ (x.toInt8.toInt32).toInt < 128 := by
        rw [Int8.toInt_toInt32]
        exact ⟨Int8.le_toInt _, Int8.toInt_lt _⟩
      have E : xExt cw tys io cw tys (io ++ [u8]) := xExt.name u8
      have hh' : xRh g (hp.1, hp.2.1 ++ [(2147483520, 2147483775)], hp.2.2) cw tys (io ++ [u8]) := ⟨hh.1.ext E, hh.2.1.app hu8 (by omega) (by omega), hh.2.2.1.ext E.2.2, hh.2.2.2⟩
      obtain ⟨u, e1, hu, key⟩ := xast_ok (hp := (hp.1, hp.2.1 ++ [(2147483520, 2147483775)], hp.2.2)) hI h8 h12 hM a1 hn hc C hQ (hE.tr E) hK hlv (xrel_imp (fun _ _ q => ⟨q.1, q.2.ext E⟩) hlo) (xrel_imp (fun _ _ q => q.ext E) hs3) hh' g1 hn2 ht (fun j => (hall j).ext E) g8 g9
      rw [e1] at q1
      obtain ⟨-, rfl⟩ := q1
      obtain ⟨v1, v2⟩ := xnI_in hu hn2
      have v2 : (nI (0, u).2).toNatClampNeg = u := v2
      refine va_bast C.1 C.2.1 hK hP hD hS q t g8 ht v1 hd fun H1 locs1 hP1 hD1 hS1 => ?_
      rw [v2, e8] at hP1 hD1
      exact key (.int (nI u8)) _ ⟨u8, hh.2.1.new u8, rfl⟩ (xupd_b f0 u _) xupd_s ⟨rfl, _, rfl⟩ H1 locs1 hP1 hD1 hS1
theorem xs_aastore : xHok (fun _ => .aastore, xPn 1, xh_aastore) := by
  intro ih hI d M i tl lo st hp fs h hM he hd hl hn hc p l e R s m args below meth c D A g cw0 tys0 io0 Q C hQ
  obtain ⟨v, s1, rfl, h1⟩ := xhd_some h
  obtain ⟨iv, s2, rfl, h2⟩ := xhd_some h1
  obtain ⟨r, s3, rfl, h3⟩ := xhd_some h2
  obtain ⟨h4, h5⟩ := xif_some h3
  obtain ⟨h6, h7⟩ := Bool.and_eq_true_iff.mp h4
  obtain ⟨qv, k1, k2⟩ := xob_some h5
  obtain ⟨ov, rfl, k3⟩ := xobj_some k2
  obtain ⟨k4, k5⟩ := xif_some k3
  obtain ⟨q, h8, h9⟩ := xob_some k5
  obtain ⟨o, rfl, h10⟩ := xarr_some h9
  obtain ⟨h11, h12⟩ := xif_some h10
  obtain ⟨tr, nr⟩ := r
  have z : tr = 2 := xbeq h6
  subst z
  obtain ⟨tv, nv⟩ := v
  have z : tv = 2 := xbeq h7
  subst z
  have a1 : i.2.1 = 1 := hl
  have hd : decode M.2.1 i.1 = .ok (.aastore, i.2.1) := hd
  rw [a1] at hd
  intro cw tys io H locs ls lv sv hE hK hP hD hS hlv hlo hst hh
  obtain ⟨wv, sv1, rfl, r0, hs1⟩ := xrel_cons hst
  obtain ⟨wi, sv2, rfl, r1, hs2⟩ := xrel_cons hs1
  obtain ⟨wa, sv3, rfl, r2, hs3⟩ := xrel_cons hs2
  obtain ⟨a, e', g1, rfl⟩ := xRv2 r2
  obtain ⟨q', g2, g3⟩ := hh.1.get h8
  rw [g1] at g2
  cases g2
  obtain ⟨av, ev, j1, rfl⟩ := xRv2 r0
  obtain ⟨qv', j2, j3⟩ := hh.1.get k1
  rw [j1] at j2
  cases j2
  obtain ⟨ci, fl⟩ := ov
  have z : ci = 9 := xbeq k4
  subst z
  cases ev with
  | inl y => exact j3.elim
  | inr o' =>
    obtain ⟨ci', fl'⟩ := o'
    obtain ⟨j4, -⟩ := j3
    have j4 : 9 = ci' := j4
    subst j4
    obtain ⟨qq, j5, -⟩ := wfl_get j1
    obtain ⟨kd, n, t, us⟩ := o
    have z : kd = 4 := xbeq h11
    subst z
    obtain ⟨cA, f, ty, rfl, hn2, ht, ⟨rfl, f0, rfl⟩, hall⟩ := xarr_get g3
    obtain ⟨q, g8, g9⟩ := wfl_get g1
    obtain ⟨u, e1, hu, key⟩ := xast_ok hI h8 h12 hM a1 hn hc C hQ hE hK hlv hlo hs3 hh g1 hn2 ht hall g8 g9
    have q1 := xnm_ok hh.2.1 r1
    rw [e1] at q1
    obtain ⟨-, rfl⟩ := q1
    obtain ⟨v1, v2⟩ := xnI_in hu hn2
    have v2 : (nI (0, u).2).toNatClampNeg = u := v2
    refine va_astq (r := (RX9, TX9, 14)) C.1 C.2.1 hK hP hD hS q t qq 9 g8 ht j5 rfl v1 hd fun H1 locs1 hP1 hD1 hS1 => ?_
    rw [v2] at hP1 hD1
    refine key (.ref av) _ r0 (fun j => ?_) (fun z => ?_) ⟨rfl, _, rfl⟩ H1 locs1 hP1 hD1 hS1
    · show va_rf (if j = u then some av else f0 j) = _
      split <;> rfl
    · have e9 : va_rf (some av) = va_rf (f0 u) := z
      have e10 : some av = f0 u := by
        cases hf : f0 u with
        | none => rw [hf] at e9; cases e9
        | some y => rw [hf] at e9; cases e9; rfl
      congr 4
      funext j
      unfold va_up
      split
      · rename_i z; rw [z, e10]
      · rfl
