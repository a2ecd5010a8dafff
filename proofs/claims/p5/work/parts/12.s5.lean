/-! switches; cells: fields -/
theorem xs_tswitch : xHok (fun e => (xswi[e.2.2.2.2.2]?).getD .nop, xPts, xh_switch) := by
  intro ih hI d M i tl lo st hp fs h hM he hd hl hn hc p l e R s m args below meth c D A g cw0 tys0 io0 Q C hQ
  obtain ⟨v, s1, rfl, h1⟩ := xhd_some h
  obtain ⟨h0, h2⟩ := xif_some h1
  obtain ⟨ks, h3, h4⟩ := xob_some h2
  obtain ⟨dflt, lw, hi, offs, ks', e1, e2, e3, e4, e5, e6, e7, e8⟩ := hl
  rw [h3] at e2
  cases e2
  have hd : decode M.2.1 i.1 = .ok ((xswi[i.2.2.2.2.2]?).getD .nop, i.2.1) := hd
  rw [e1] at hd
  have hd : decode M.2.1 i.1 = .ok (.tableswitch dflt lw hi offs, i.2.1) := hd
  intro cw tys io H locs ls lv sv hE hK hP hD hS hlv hlo hst hh
  obtain ⟨wa, sv2, rfl, r2, hs2⟩ := xrel_cons hst
  obtain ⟨x, rfl⟩ := xisi_ok h0 r2
  have q2 := xnm_ok hh.2.1 r2
  have hget : ∀ j, j < ks.length → ks[j]? = some (ks.getD j (0, 0)) := fun j hj => by
    rw [List.getD_eq_getElem?_getD, List.getElem?_eq_getElem hj]
    rfl
  have hlt : ∀ q ∈ ks, q.1 < 2147483648 := fun q hq => by
    obtain ⟨j, hj⟩ := List.getElem?_of_mem hq
    have hjl := (List.getElem?_eq_some_iff.mp hj).1
    have z := (e8 j hjl).1
    rw [hget j hjl] at hj
    cases hj
    omega
  refine xswg_ok hI hM he hn hc C hE hK hP hD hS hlv hlo hst hs2 hh q2 ks fs h4 hQ (fun q hq => by have := hlt q hq; omega) (fun q hq hx k => ?_) (fun hno k => ?_)
  · obtain ⟨j, hj⟩ := List.getElem?_of_mem hq
    have hjl := (List.getElem?_eq_some_iff.mp hj).1
    have z := e8 j hjl
    rw [hget j hjl] at hj
    cases hj
    have ti : x.toInt = ((ks.getD j (0, 0)).1 : Int) := by rw [hx]; exact nI_toInt (hlt _ hq)
    refine lv_tableIn C.1 C.2.1 hd (off := offs.getD j 0) (by omega) (by omega) ?_ z.2 k
    rw [show (x.toInt - lw).toNat = j by omega, Array.getD_eq_getD_getElem?, Array.getElem?_eq_getElem (by omega)]
    rfl
  · refine lv_tableOut C.1 C.2.1 hd ?_ e3 k
    rcases Decidable.em (x.toInt < lw ∨ hi < x.toInt) with z | z
    · exact z
    · exfalso
      have hjl : (x.toInt - lw).toNat < ks.length := by omega
      have y := (e8 _ hjl).1
      have hm := List.mem_of_getElem? (hget _ hjl)
      refine hno _ hm ?_
      apply Int32.toInt_inj.mp
      rw [nI_toInt (hlt _ hm)]
      omega
theorem xsg_toInt {u : Nat} (h : u < 4294967296) : (nI u).toInt = xsg u := by
  rw [xnI_toInt h]
  unfold xsg xbs
  cases hb : Nat.blt u 2147483648 with
  | true =>
    have := xblt hb
    simp only [cond_true]
    omega
  | false =>
    have := xnblt hb
    simp only [cond_false]
    omega
theorem xloff {x : Int32} {pc : Nat} {dflt : Int} : ∀ (ks : List (Nat × Nat)), (∀ q ∈ ks, q.1 < 4294967296) → ((∃ q ∈ ks, x = nI q.1 ∧ Op.lookupswitch.offset (ks.map (fun q => (xsg q.1, (q.2 : Int) - (pc : Int)))) dflt x.toInt = (q.2 : Int) - (pc : Int)) ∨ ((∀ q ∈ ks, x ≠ nI q.1) ∧ Op.lookupswitch.offset (ks.map (fun q => (xsg q.1, (q.2 : Int) - (pc : Int)))) dflt x.toInt = dflt))
  | [], _ => Or.inr ⟨fun _ h => absurd h List.not_mem_nil, rfl⟩
  | q :: ks, hlt => by
    by_cases hx : x = nI q.1
    · refine Or.inl ⟨q, List.mem_cons_self, hx, ?_⟩
      rw [List.map_cons, Op.lookupswitch.offset_cons, if_pos]
      rw [hx, xsg_toInt (hlt q List.mem_cons_self)]
    · have e : Op.lookupswitch.offset ((q :: ks).map (fun q => (xsg q.1, (q.2 : Int) - (pc : Int)))) dflt x.toInt = Op.lookupswitch.offset (ks.map (fun q => (xsg q.1, (q.2 : Int) - (pc : Int)))) dflt x.toInt := by
        rw [List.map_cons]
        exact lv_osw hx (xsg_toInt (hlt q List.mem_cons_self))
      rcases xloff (x := x) (pc := pc) (dflt := dflt) ks (fun r hr => hlt r (List.mem_cons_of_mem _ hr)) with ⟨r, hr, h1, h2⟩ | ⟨h1, h2⟩
      · exact Or.inl ⟨r, List.mem_cons_of_mem _ hr, h1, by rw [e]; exact h2⟩
      · exact Or.inr ⟨fun r hr => (List.mem_cons.mp hr).elim (fun z => by rw [z]; exact hx) (fun z => h1 r z), by rw [e]; exact h2⟩
theorem xlof1 {x : Int32} {pc : Nat} {dflt : Int} : ∀ {ks : List (Nat × Nat)}, (∀ q ∈ ks, q.1 < 4294967296) → (ks.map (fun q => xsg q.1)).Nodup → ∀ q ∈ ks, x = nI q.1 → Op.lookupswitch.offset (ks.map (fun q => (xsg q.1, (q.2 : Int) - (pc : Int)))) dflt x.toInt = (q.2 : Int) - (pc : Int)
  | [], _, _, q, hq, _ => absurd hq List.not_mem_nil
  | r :: ks, hlt, hnd, q, hq, hx => by
    rw [List.map_cons, List.nodup_cons] at hnd
    by_cases hr : x = nI r.1
    · rcases List.mem_cons.mp hq with rfl | hq'
      · rw [List.map_cons, Op.lookupswitch.offset_cons, if_pos]
        rw [hr, xsg_toInt (hlt _ List.mem_cons_self)]
      · exfalso
        apply hnd.1
        refine List.mem_map.mpr ⟨q, hq', ?_⟩
        rw [← xsg_toInt (hlt q hq), ← xsg_toInt (hlt r List.mem_cons_self), ← hx, hr]
    · rcases List.mem_cons.mp hq with rfl | hq'
      · exact absurd hx hr
      · rw [List.map_cons, lv_osw hr (xsg_toInt (hlt r List.mem_cons_self))]
        exact xlof1 (fun z hz => hlt z (List.mem_cons_of_mem _ hz)) hnd.2 q hq' hx
theorem xs_lswitch : xHok (fun e => (xswi[e.2.2.2.2.2]?).getD .nop, xPls, xh_switch) := by
  intro ih hI d M i tl lo st hp fs h hM he hd hl hn hc p l e R s m args below meth c D A g cw0 tys0 io0 Q C hQ
  obtain ⟨v, s1, rfl, h1⟩ := xhd_some h
  obtain ⟨h0, h2⟩ := xif_some h1
  obtain ⟨ks, h3, h4⟩ := xob_some h2
  obtain ⟨dflt, ps, ks', e1, e2, e3, e4, e5, e6, e7⟩ := hl
  rw [h3] at e2
  cases e2
  have hd : decode M.2.1 i.1 = .ok ((xswi[i.2.2.2.2.2]?).getD .nop, i.2.1) := hd
  rw [e1] at hd
  have hd : decode M.2.1 i.1 = .ok (.lookupswitch dflt ps, i.2.1) := hd
  intro cw tys io H locs ls lv sv hE hK hP hD hS hlv hlo hst hh
  obtain ⟨wa, sv2, rfl, r2, hs2⟩ := xrel_cons hst
  obtain ⟨x, rfl⟩ := xisi_ok h0 r2
  have q2 := xnm_ok hh.2.1 r2
  refine xswg_ok hI hM he hn hc C hE hK hP hD hS hlv hlo hst hs2 hh q2 ks fs h4 hQ e6 (fun q hq hx k => ?_) (fun hno k => ?_)
  · refine lv_lookup C.1 C.2.1 hd e3 (off := (q.2 : Int) - (i.1 : Int)) (by rw [e5]; exact xlof1 e6 e7 q hq hx) ?_ k
    omega
  · refine lv_lookup C.1 C.2.1 hd e3 (off := dflt) ?_ e4 k
    rw [e5]
    rcases xloff (x := x) (pc := i.1) (dflt := dflt) ks e6 with ⟨r, hr, z1, z2⟩ | ⟨z1, z2⟩
    · exact absurd z1 (hno r hr)
    · exact z2
/-- a cell of the world by its value -/
theorem xRv2 {g : xG} {cw : xWc} {io : List Nat} {n : Nat} {v : Value} (h : xRv g cw io (2, n) v) : ∃ a e, wget cw n = some (a, e) ∧ v = .ref a := h
theorem xs_getfield : xHok (fun e => .getfield e.2.2.2.2.2, xPf, xh_getfield) := by
  intro ih hI d M i tl lo st hp fs h hM he hd hl hn hc p l e R s m args below meth c D A g cw0 tys0 io0 Q C hQ
  obtain ⟨r, s1, rfl, h1⟩ := xhd_some h
  obtain ⟨h2, h3⟩ := xif_some h1
  obtain ⟨q, h4, h5⟩ := xob_some h3
  obtain ⟨o, rfl, h6⟩ := xobj_some h5
  obtain ⟨h7, h8⟩ := xif_some h6
  obtain ⟨v, h9, h10⟩ := xob_some h8
  have K := xgo hI h10 hM hn hc C hQ
  obtain ⟨hx, hb, -, hown, hts, -⟩ := C
  obtain ⟨a1, qc, c1, c2, c3⟩ := hl
  have hd : decode M.2.1 i.1 = .ok (.getfield i.2.2.2.2.2, i.2.1) := hd
  rw [a1] at hd
  intro cw tys io H locs ls lv sv hE hK hP hD hS hlv hlo hst hh
  obtain ⟨wa, sv2, rfl, r2, hs2⟩ := xrel_cons hst
  obtain ⟨tr, nr⟩ := r
  have z : tr = 2 := xbeq h2
  subst z
  obtain ⟨a, e', g1, rfl⟩ := xRv2 r2
  obtain ⟨q', g2, g3⟩ := hh.1.get h4
  rw [g1] at g2
  cases g2
  obtain ⟨ci, fl⟩ := o
  cases e' with
  | inl y => exact g3.elim
  | inr o' =>
    obtain ⟨ci', fl'⟩ := o'
    obtain ⟨g4, g5⟩ := g3
    have g4 : ci = ci' := g4
    subst g4
    have z : ci = i.2.2.2.1 := xbeq h7
    subst z
    obtain ⟨w, g6, g7⟩ := xrel_get g5 h9
    obtain ⟨n, g8, -⟩ := wfl_get g1
    rw [xget_eq] at g6
    obtain ⟨Cn, T, N⟩ := qc
    have k := K cw tys io H locs ls lv (w :: sv2) hE hK hP hD hS hlv hlo ⟨g7, hs2⟩ hh
    simp only [a1] at k
    exact va_get (own := M.1.cls) (C := Cn) (T := T) (N := N) hx hb hts (xcls_in c1) hown hK hP n g8 c1 i.2.2.2.2.1 c2 (hts _ c3) (fun _ z => z) g6 hd k
