/-! the stack, questions, branches -/
theorem xs_lcmp : xHok (fun _ => .lcmp, xPn 1, xh_lcmp) := by
  intro ih hI d M i tl lo st hp fs h hM he hd hl hn hc p l e R s m args below meth c D A g cw0 tys0 io0 Q C hQ
  obtain ⟨b, s1, rfl, h1⟩ := xhd_some h
  obtain ⟨a, s2, rfl, h2⟩ := xhd_some h1
  obtain ⟨h3, h4⟩ := xif_some h2
  have K := xgo hI h4 hM hn hc C hQ
  obtain ⟨hx, hb, -⟩ := C
  have a1 : i.2.1 = 1 := hl
  have hd : decode M.2.1 i.1 = .ok (.lcmp, i.2.1) := hd
  rw [a1] at hd
  obtain ⟨h3, h7⟩ := Bool.and_eq_true_iff.mp h3
  obtain ⟨h5, h6⟩ := Bool.and_eq_true_iff.mp h3
  obtain ⟨h8, h9⟩ := Bool.and_eq_true_iff.mp h7
  have h8 := xblt h8
  have h9 := xblt h9
  refine xok_stk K fun cw io sv hs hbd _ => ?_
  obtain ⟨wb, sv1, rfl, r1, hs1⟩ := xrel_cons hs
  obtain ⟨wa, sv2, rfl, r2, hs2⟩ := xrel_cons hs1
  obtain ⟨ta, ua⟩ := a
  obtain ⟨tb, ub⟩ := b
  have z : ta = 4 := xbeq h5
  subst z
  have z : tb = 4 := xbeq h6
  subst z
  have e1 : wa = .long (lN ua) := r2
  subst e1
  have e1 : wb = .long (lN ub) := r1
  subst e1
  simp only at h8 h9
  have key : lg_cmp (lN ua) (lN ub) = nI (cond (Nat.blt ua ub) 4294967295 (cond (Nat.beq ua ub) 0 1)) := by
    unfold lg_cmp
    have g1 : (lN ua > lN ub) ↔ ub < ua := pk_lLT h9 h8
    have g2 : (lN ua = lN ub) ↔ ua = ub := pk_lEQ h8 h9
    cases hc1 : Nat.blt ua ub with
    | true =>
      have := xblt hc1
      rw [if_neg (by rw [g1]; omega), if_neg (by rw [g2]; omega)]
      rfl
    | false =>
      have := xnblt hc1
      cases hc2 : Nat.beq ua ub with
      | true =>
        have := xbeq hc2
        rw [if_neg (by rw [g1]; omega), if_pos (by rw [g2]; omega)]
        rfl
      | false =>
        have := xnbeq hc2
        rw [if_pos (by rw [g1]; omega)]
        rfl
  refine ⟨.int (nI (cond (Nat.blt ua ub) 4294967295 (cond (Nat.beq ua ub) 0 1))) :: sv2, ⟨⟨?_, rfl⟩, hs2⟩, fun H locs ls cells slots k => ?_⟩
  · show cond (Nat.blt ua ub) 4294967295 (cond (Nat.beq ua ub) 0 1) < 4294967296
    cases Nat.blt ua ub <;> cases Nat.beq ua ub <;> decide
  · rw [a1, ← key] at k
    exact W.lcmp hx hb hd k
theorem xs_dup : xHok (fun _ => .dup, xPn 1, xh_dup) := by
  intro ih hI d M i tl lo st hp fs h hM he hd hl hn hc p l e R s m args below meth c D A g cw0 tys0 io0 Q C hQ
  obtain ⟨a, s1, rfl, h1⟩ := xhd_some h
  obtain ⟨h3, h4⟩ := xif_some h1
  have K := xgo hI h4 hM hn hc C hQ
  obtain ⟨hx, hb, -⟩ := C
  have a1 : i.2.1 = 1 := hl
  have hd : decode M.2.1 i.1 = .ok (.dup, i.2.1) := hd
  rw [a1] at hd
  refine xok_stk K fun cw io sv hs hbd _ => ?_
  obtain ⟨wa, sv2, rfl, r2, hs2⟩ := xrel_cons hs
  refine ⟨wa :: wa :: sv2, ⟨r2, r2, hs2⟩, fun H locs ls cells slots k => ?_⟩
  rw [a1] at k
  exact lv_dup hx hb hd (xcat1 h3 r2) k
theorem xs_pop : xHok (fun _ => .pop, xPn 1, xh_pop) := by
  intro ih hI d M i tl lo st hp fs h hM he hd hl hn hc p l e R s m args below meth c D A g cw0 tys0 io0 Q C hQ
  obtain ⟨a, s1, rfl, h1⟩ := xhd_some h
  obtain ⟨h3, h4⟩ := xif_some h1
  have K := xgo hI h4 hM hn hc C hQ
  obtain ⟨hx, hb, -⟩ := C
  have a1 : i.2.1 = 1 := hl
  have hd : decode M.2.1 i.1 = .ok (.pop, i.2.1) := hd
  rw [a1] at hd
  refine xok_stk K fun cw io sv hs hbd _ => ?_
  obtain ⟨wa, sv2, rfl, r2, hs2⟩ := xrel_cons hs
  refine ⟨sv2, hs2, fun H locs ls cells slots k => ?_⟩
  rw [a1] at k
  exact lv_pop hx hb hd (xcat1 h3 r2) k
theorem xs_dup2 : xHok (fun _ => .dup2, xPn 1, xh_dup2) := by
  intro ih hI d M i tl lo st hp fs h hM he hd hl hn hc p l e R s m args below meth c D A g cw0 tys0 io0 Q C hQ
  obtain ⟨a, s1, rfl, h1⟩ := xhd_some h
  obtain ⟨b, s2, rfl, h2⟩ := xhd_some h1
  obtain ⟨h3, h4⟩ := xif_some h2
  obtain ⟨h5, h6⟩ := Bool.and_eq_true_iff.mp h3
  have K := xgo hI h4 hM hn hc C hQ
  obtain ⟨hx, hb, -⟩ := C
  have a1 : i.2.1 = 1 := hl
  have hd : decode M.2.1 i.1 = .ok (.dup2, i.2.1) := hd
  rw [a1] at hd
  refine xok_stk K fun cw io sv hs hbd _ => ?_
  obtain ⟨wa, sv1, rfl, r1, hs1⟩ := xrel_cons hs
  obtain ⟨wb, sv2, rfl, r2, hs2⟩ := xrel_cons hs1
  refine ⟨wa :: wb :: wa :: wb :: sv2, ⟨r1, r2, r1, r2, hs2⟩, fun H locs ls cells slots k => ?_⟩
  rw [a1] at k
  exact lv_dup2_11 hx hb hd (xcat1 h5 r1) (xcat1 h6 r2) k
theorem xoff_ok (i : xI) : (i.1 : Int) + xoff i = (i.2.2.2.1 : Int) := by unfold xoff; omega
theorem xs_goto : xHok (fun e => .goto (xoff e), xPn 3, xh_goto) := by
  intro ih hI d M i tl lo st hp fs h hM he hd hl hn hc p l e R s m args below meth c D A g cw0 tys0 io0 Q C hQ
  have K := xgoj hI h hM C hQ
  obtain ⟨hx, hb, -⟩ := C
  have a1 : i.2.1 = 3 := hl
  have hd : decode M.2.1 i.1 = .ok (.goto (xoff i), i.2.1) := hd
  rw [a1] at hd
  exact xok_stk K fun cw io sv hs hbd _ => ⟨sv, hs, fun H locs ls cells slots k => lv_goto hx hb hd (xoff_ok i) k⟩
theorem xs_ifnull : xHok (fun e => .ifnull (xoff e), xPn 3, xh_ifnull) := by
  intro ih hI d M i tl lo st hp fs h hM he hd hl hn hc p l e R s m args below meth c D A g cw0 tys0 io0 Q C hQ
  obtain ⟨a, s1, rfl, h1⟩ := xhd_some h
  have hx := C.1
  have hb := C.2.1
  have a1 : i.2.1 = 3 := hl
  have hd : decode M.2.1 i.1 = .ok (.ifnull (xoff i), i.2.1) := hd
  rw [a1] at hd
  obtain ⟨ta, ua⟩ := a
  cases h3 : Nat.beq ta 3 with
  | true =>
    simp only [h3, cond] at h1
    have K := xgoj hI h1 hM C hQ
    have z := xbeq h3
    subst z
    refine xok_stk K fun cw io sv hs hbd _ => ?_
    obtain ⟨wa, sv2, rfl, r2, hs2⟩ := xrel_cons hs
    have r2 : wa = .null := r2
    subst r2
    exact ⟨sv2, hs2, fun H locs ls cells slots k => lv_ifnullN hx hb hd (xoff_ok i) k⟩
  | false =>
    simp only [h3, cond] at h1
    obtain ⟨h4, h5⟩ := xif_some h1
    have K := xgo hI h5 hM hn hc C hQ
    have z := xbeq h4
    subst z
    refine xok_stk K fun cw io sv hs hbd _ => ?_
    obtain ⟨wa, sv2, rfl, r2, hs2⟩ := xrel_cons hs
    obtain ⟨aa, ee, -, r2⟩ := r2
    subst r2
    refine ⟨sv2, hs2, fun H locs ls cells slots k => ?_⟩
    rw [a1] at k
    exact lv_ifnull hx hb hd k
theorem xs_ifnonnull : xHok (fun e => .ifnonnull (xoff e), xPn 3, xh_ifnonnull) := by
  intro ih hI d M i tl lo st hp fs h hM he hd hl hn hc p l e R s m args below meth c D A g cw0 tys0 io0 Q C hQ
  obtain ⟨a, s1, rfl, h1⟩ := xhd_some h
  have hx := C.1
  have hb := C.2.1
  have a1 : i.2.1 = 3 := hl
  have hd : decode M.2.1 i.1 = .ok (.ifnonnull (xoff i), i.2.1) := hd
  rw [a1] at hd
  obtain ⟨ta, ua⟩ := a
  cases h3 : Nat.beq ta 3 with
  | true =>
    simp only [h3, cond] at h1
    have K := xgo hI h1 hM hn hc C hQ
    have z := xbeq h3
    subst z
    refine xok_stk K fun cw io sv hs hbd _ => ?_
    obtain ⟨wa, sv2, rfl, r2, hs2⟩ := xrel_cons hs
    have r2 : wa = .null := r2
    subst r2
    refine ⟨sv2, hs2, fun H locs ls cells slots k => ?_⟩
    rw [a1] at k
    exact lv_ifnonnullN hx hb hd k
  | false =>
    simp only [h3, cond] at h1
    obtain ⟨h4, h5⟩ := xif_some h1
    have K := xgoj hI h5 hM C hQ
    have z := xbeq h4
    subst z
    refine xok_stk K fun cw io sv hs hbd _ => ?_
    obtain ⟨wa, sv2, rfl, r2, hs2⟩ := xrel_cons hs
    obtain ⟨aa, ee, -, r2⟩ := r2
    subst r2
    exact ⟨sv2, hs2, fun H locs ls cells slots k => lv_ifnonnull hx hb hd (xoff_ok i) k⟩
/-- an answer to a question that is P -/
def xQok (P : Prop) (io : List Nat) (q : xQ) : Prop := (q.1 = 0 → ¬ P) ∧ (q.1 = 1 → P) ∧ (q.1 = 3 → ∃ u v, xget io q.2.1 = some u ∧ xget io q.2.2 = some v)
theorem xQ_no {P : Prop} {io : List Nat} (h : ¬ P) : xQok P io (0, 0, 0) := ⟨fun _ => h, fun h => (by cases h), fun h => (by cases h)⟩
theorem xQ_yes {P : Prop} {io : List Nat} (h : P) : xQok P io (1, 0, 0) := ⟨fun h => (by cases h), fun _ => h, fun h => (by cases h)⟩
theorem xQ_spl {P : Prop} {io : List Nat} (n c : Nat) : xQok P io (2, n, c) := ⟨fun h => (by cases h), fun h => (by cases h), fun h => (by cases h)⟩
theorem xQ_unk {P : Prop} {io : List Nat} : xQok P io (4, 0, 0) := ⟨fun h => (by cases h), fun h => (by cases h), fun h => (by cases h)⟩
theorem xltn_ok {io : List Nat} {a b : xV} {u v : Nat} (hu : xget io a.2 = some u) (hv : xget io b.2 = some v) : ∀ {fc : List (Nat × Nat × Bool)}, xRf fc io → xQok (xbs u < xbs v) io (xltn a b fc)
  | [], _ => ⟨fun h => (by cases h), fun h => (by cases h), fun _ => ⟨v, u, hv, hu⟩⟩
  | q :: fc, hf => by
    show xQok (xbs u < xbs v) io (cond (Nat.beq q.1 b.2 && Nat.beq q.2.1 a.2) (cond q.2.2 (0, 0, 0) (1, 0, 0)) (xltn a b fc))
    cases hc : (Nat.beq q.1 b.2 && Nat.beq q.2.1 a.2) with
    | false => exact xltn_ok hu hv (fun q hq => hf q (List.mem_cons_of_mem _ hq))
    | true =>
      obtain ⟨h1, h2⟩ := Bool.and_eq_true_iff.mp hc
      obtain ⟨u', v', h3, h4, h5⟩ := hf q List.mem_cons_self
      rw [xbeq h1, hv] at h3
      rw [xbeq h2, hu] at h4
      cases h3
      cases h4
      cases hq : q.2.2 with
      | true =>
        rw [hq] at h5
        have := of_decide_eq_true h5
        exact xQ_no (by omega)
      | false =>
        rw [hq] at h5
        have := of_decide_eq_false h5
        exact xQ_yes (by omega)
theorem xltA_ok {P : Prop} {io : List Nat} {A B : Nat} (h : P ↔ A < B) : xQok P io (xltA A B) := by
  unfold xltA
  cases h3 : Nat.blt A B with
  | true => exact xQ_yes (h.mpr (xblt h3))
  | false => exact xQ_no (fun z => by have := h.mp z; have := xnblt h3; omega)
theorem xltB_ok {P : Prop} {io : List Nat} {A B n : Nat} {q : Nat × Nat} (h : P ↔ A < B) (h1 : q.1 ≤ B) (h2 : B ≤ q.2) : xQok P io (xltB A n q) := by
  unfold xltB
  cases h8 : Nat.blt A q.1 with
  | true => exact xQ_yes (h.mpr (by have := xblt h8; omega))
  | false =>
    cases h9 : Nat.ble q.2 A with
    | true => exact xQ_no (fun z => by have := h.mp z; have := xble h9; omega)
    | false => exact xQ_spl _ _
theorem xltC_ok {P : Prop} {io : List Nat} {A B n : Nat} {q : Nat × Nat} (h : P ↔ A < B) (h1 : q.1 ≤ A) (h2 : A ≤ q.2) : xQok P io (xltC B n q) := by
  unfold xltC
  cases h8 : Nat.blt q.2 B with
  | true => exact xQ_yes (h.mpr (by have := xblt h8; omega))
  | false =>
    cases h9 : Nat.ble B q.1 with
    | true => exact xQ_no (fun z => by have := h.mp z; have := xble h9; omega)
    | false => exact xQ_spl _ _
theorem xeqC_ok {P : Prop} {io : List Nat} {A B n : Nat} {q : Nat × Nat} (h : P → A = B) (h1 : q.1 ≤ A) (h2 : A ≤ q.2) : xQok P io (xeqC B n q) := by
  unfold xeqC
  cases h8 : (Nat.blt B q.1 || Nat.blt q.2 B) with
  | true =>
    refine xQ_no (fun z => ?_)
    have e := h z
    rcases Bool.or_eq_true_iff.mp h8 with h | h
    · have := xblt h; omega
    · have := xblt h; omega
  | false =>
    cases Nat.blt q.1 B with
    | true => exact xQ_spl _ _
    | false => exact xQ_spl _ _
theorem xRv0 {g : xG} {cw : xWc} {io : List Nat} {n : Nat} {x : Int32} (h : xRv g cw io (0, n) (.int x)) : n < 4294967296 ∧ x = nI n := ⟨h.1, Value.int.inj h.2⟩
theorem xRv1 {g : xG} {cw : xWc} {io : List Nat} {n : Nat} {x : Int32} (h : xRv g cw io (1, n) (.int x)) : ∃ u, xget io n = some u ∧ x = nI u := by
  obtain ⟨u, h1, h2⟩ := h
  exact ⟨u, h1, Value.int.inj h2⟩
theorem xoq_some {bd : List (Nat × Nat)} {n : Nat} {q : Nat × Nat} (h : xget bd n = some q) (f : Nat × Nat → xQ) : xoq (xget bd n) f = f q := by rw [h]; rfl
theorem xlt0_ok {g : xG} {cw : xWc} {bd : List (Nat × Nat)} {io : List Nat} {ua : Nat} {b : xV} {y : Int32} (hb : xRb bd io) (la : ua < 4294967296) (hbv : xRv g cw io b (.int y)) : xQok (nI ua < y) io (xlt0 bd (0, ua) b) := by
  obtain ⟨tb, ub⟩ := b
  unfold xlt0
  dsimp only
  cases h2 : Nat.beq tb 0 with
  | true =>
    have z := xbeq h2
    subst z
    obtain ⟨lb, rfl⟩ := xRv0 hbv
    rw [cond_true]
    exact xltA_ok (xlt_iff la lb)
  | false =>
    rw [cond_false]
    cases h3 : Nat.beq tb 1 with
    | false => exact xQ_unk
    | true =>
      have z := xbeq h3
      subst z
      obtain ⟨v, hv, rfl⟩ := xRv1 hbv
      obtain ⟨q, h4, h5, h6, h7⟩ := hb.get hv
      rw [cond_true, xoq_some h4]
      exact xltB_ok (xlt_iff la h5) h6 h7
theorem xltD_ok {P : Prop} {io : List Nat} {A B : Nat} {a b : xV} {fc : List (Nat × Nat × Bool)} {q r : Nat × Nat} (h : P ↔ A < B) (h1 : q.1 ≤ A) (h2 : A ≤ q.2) (h3 : r.1 ≤ B) (h4 : B ≤ r.2) (hn : xQok (A < B) io (xltn a b fc)) : xQok P io (xltD a b fc (some q) (some r)) := by
  show xQok P io (cond (Nat.blt q.2 r.1) (1, 0, 0) (cond (Nat.ble r.2 q.1) (0, 0, 0) (xltn a b fc)))
  cases h8 : Nat.blt q.2 r.1 with
  | true => exact xQ_yes (h.mpr (by have := xblt h8; omega))
  | false =>
    rw [cond_false]
    cases h9 : Nat.ble r.2 q.1 with
    | true => exact xQ_no (fun z => by have := h.mp z; have := xble h9; omega)
    | false => exact ⟨fun z h' => hn.1 z (h.mp h'), fun z => h.mpr (hn.2.1 z), hn.2.2⟩
theorem xlt1_ok {g : xG} {cw : xWc} {bd : List (Nat × Nat)} {fc : List (Nat × Nat × Bool)} {io : List Nat} {n u : Nat} {b : xV} {y : Int32} (hb : xRb bd io) (hf : xRf fc io) (hu : xget io n = some u) (hbv : xRv g cw io b (.int y)) : xQok (nI u < y) io (xlt1 bd fc (1, n) b) := by
  obtain ⟨tb, ub⟩ := b
  obtain ⟨q, h4, h5, h6, h7⟩ := hb.get hu
  unfold xlt1
  dsimp only
  cases h2 : Nat.beq tb 0 with
  | true =>
    have z := xbeq h2
    subst z
    obtain ⟨lb, rfl⟩ := xRv0 hbv
    rw [cond_true, xoq_some h4]
    exact xltC_ok (xlt_iff h5 lb) h6 h7
  | false =>
    rw [cond_false]
    cases h3 : Nat.beq tb 1 with
    | false => exact xQ_unk
    | true =>
      have z := xbeq h3
      subst z
      obtain ⟨v, hv, rfl⟩ := xRv1 hbv
      obtain ⟨qv, h8, h10, h11, h12⟩ := hb.get hv
      have k := xltn_ok (a := (1, n)) (b := (1, ub)) hu hv hf
      rw [cond_true, h4, h8]
      exact xltD_ok (xlt_iff h5 h10) h6 h7 h11 h12 k
theorem xlt_ok {g : xG} {cw : xWc} {bd : List (Nat × Nat)} {fc : List (Nat × Nat × Bool)} {io : List Nat} {a b : xV} {x y : Int32} (hb : xRb bd io) (hf : xRf fc io) (ha : xRv g cw io a (.int x)) (hbv : xRv g cw io b (.int y)) : xQok (x < y) io (xlt bd fc a b) := by
  obtain ⟨ta, ua⟩ := a
  unfold xlt
  dsimp only
  cases h1 : Nat.beq ta 0 with
  | true =>
    have z := xbeq h1
    subst z
    obtain ⟨la, rfl⟩ := xRv0 ha
    rw [cond_true]
    exact xlt0_ok hb la hbv
  | false =>
    rw [cond_false]
    cases h2 : Nat.beq ta 1 with
    | false => exact xQ_unk
    | true =>
      have z := xbeq h2
      subst z
      obtain ⟨u, hu, rfl⟩ := xRv1 ha
      rw [cond_true]
      exact xlt1_ok hb hf hu hbv
theorem xeq0_ok {g : xG} {cw : xWc} {bd : List (Nat × Nat)} {io : List Nat} {ua : Nat} {b : xV} {y : Int32} (hb : xRb bd io) (la : ua < 4294967296) (hbv : xRv g cw io b (.int y)) : xQok (nI ua = y) io (xeq0 bd (0, ua) b) := by
  obtain ⟨tb, ub⟩ := b
  unfold xeq0
  dsimp only
  cases h2 : Nat.beq tb 0 with
  | true =>
    have z := xbeq h2
    subst z
    obtain ⟨lb, rfl⟩ := xRv0 hbv
    rw [cond_true]
    cases h3 : Nat.beq ua ub with
    | true => exact xQ_yes (by rw [xbeq h3])
    | false => exact xQ_no (fun h => xnbeq h3 ((xeq_iff la lb).mp h))
  | false =>
    rw [cond_false]
    cases h3 : Nat.beq tb 1 with
    | false => exact xQ_unk
    | true =>
      have z := xbeq h3
      subst z
      obtain ⟨v, hv, rfl⟩ := xRv1 hbv
      obtain ⟨q, h4, h5, h6, h7⟩ := hb.get hv
      rw [cond_true, xoq_some h4]
      exact xeqC_ok (fun h => by rw [(xeq_iff la h5).mp h]) h6 h7
theorem xeq1_ok {g : xG} {cw : xWc} {bd : List (Nat × Nat)} {io : List Nat} {n u : Nat} {b : xV} {y : Int32} (hb : xRb bd io) (hu : xget io n = some u) (hbv : xRv g cw io b (.int y)) : xQok (nI u = y) io (xeq1 bd (1, n) b) := by
  obtain ⟨tb, ub⟩ := b
  obtain ⟨q, h4, h5, h6, h7⟩ := hb.get hu
  unfold xeq1
  dsimp only
  cases h2 : Nat.beq tb 0 with
  | true =>
    have z := xbeq h2
    subst z
    obtain ⟨lb, rfl⟩ := xRv0 hbv
    rw [cond_true, xoq_some h4]
    exact xeqC_ok (fun h => by rw [(xeq_iff h5 lb).mp h]) h6 h7
  | false =>
    rw [cond_false]
    cases h8 : (Nat.beq tb 1 && Nat.beq n ub) with
    | false => exact xQ_unk
    | true =>
      obtain ⟨h9, h10⟩ := Bool.and_eq_true_iff.mp h8
      have z := xbeq h9
      subst z
      obtain ⟨v, hv, rfl⟩ := xRv1 hbv
      have e := xbeq h10
      subst e
      rw [hu] at hv
      cases hv
      exact xQ_yes rfl
theorem xeq_ok {g : xG} {cw : xWc} {bd : List (Nat × Nat)} {io : List Nat} {a b : xV} {x y : Int32} (hb : xRb bd io) (ha : xRv g cw io a (.int x)) (hbv : xRv g cw io b (.int y)) : xQok (x = y) io (xeq bd a b) := by
  obtain ⟨ta, ua⟩ := a
  unfold xeq
  dsimp only
  cases h1 : Nat.beq ta 0 with
  | true =>
    have z := xbeq h1
    subst z
    obtain ⟨la, rfl⟩ := xRv0 ha
    rw [cond_true]
    exact xeq0_ok hb la hbv
  | false =>
    rw [cond_false]
    cases h2 : Nat.beq ta 1 with
    | false => exact xQ_unk
    | true =>
      have z := xbeq h2
      subst z
      obtain ⟨u, hu, rfl⟩ := xRv1 ha
      rw [cond_true]
      exact xeq1_ok hb hu hbv
/-- whatever the answer is, it goes on -/
theorem xans_ok {P G : Prop} {g : xG} {cw : xWc} {tys : xTy} {io : List Nat} {q : xQ} {hp : xH} {k : Bool → Option (List xS)} {again : xH → Option (List xS)} {fs : List xS} (h : xans q hp k again = some fs) (hq : xQok P io q) (hh : xRh g hp cw tys io)
    (hk : ∀ (t : Bool) (f1 : List xS), k t = some f1 → (∀ φ ∈ f1, φ ∈ fs) → (t = true → P) → (t = false → ¬ P) → G)
    (ha : ∀ (hp' : xH) (f1 : List xS), again hp' = some f1 → (∀ φ ∈ f1, φ ∈ fs) → xRh g hp' cw tys io → hp'.2.2.2 = hp.2.2.2 → G) : G := by
  unfold xans at h
  cases h0 : Nat.beq q.1 0 with
  | true =>
    rw [h0] at h
    exact hk false fs h (fun _ h => h) (fun h => by cases h) (fun _ => hq.1 (xbeq h0))
  | false =>
    cases h1 : Nat.beq q.1 1 with
    | true =>
      rw [h0, h1] at h
      exact hk true fs h (fun _ h => h) (fun _ => hq.2.1 (xbeq h1)) (fun h => by cases h)
    | false =>
      cases h2 : Nat.beq q.1 2 with
      | true =>
        rw [h0, h1, h2] at h
        obtain ⟨h3, h4⟩ := xif_some h
        obtain ⟨f1, f2, h5, h6, rfl⟩ := xspl_some h4
        obtain ⟨hp1, h7, h8⟩ := xob_some h5
        obtain ⟨hp2, h9, h10⟩ := xob_some h6
        obtain ⟨q1, h11, h12⟩ := xob_some h7
        obtain ⟨q2, h13, h14⟩ := xob_some h9
        rw [h11] at h13
        cases h13
        cases h12
        cases h14
        obtain ⟨u, hu, hlt, hb1, hb2⟩ := xrel_get hh.2.1 h11
        have hc0 := xblt h3
        rcases Nat.lt_or_ge (xbs u) q.2.2 with hc | hc
        · exact ha _ f1 h8 (fun φ hφ => List.mem_append_left _ hφ) ⟨hh.1, hh.2.1.set hu hb1 (by omega), hh.2.2.1, hh.2.2.2⟩ rfl
        · exact ha _ f2 h10 (fun φ hφ => List.mem_append_right _ hφ) ⟨hh.1, hh.2.1.set hu hc hb2, hh.2.2.1, hh.2.2.2⟩ rfl
      | false =>
        rw [h0, h1, h2] at h
        obtain ⟨h3, h4⟩ := xif_some h
        obtain ⟨f1, f2, h5, h6, rfl⟩ := xspl_some h4
        obtain ⟨u, v, hu, hv⟩ := hq.2.2 (xbeq h3)
        have hF : ∀ t, decide (xbs u ≤ xbs v) = t → xRf ((q.2.1, q.2.2, t) :: hp.2.2.1) io := by
          intro t ht x hx
          rcases List.mem_cons.mp hx with rfl | hx
          · exact ⟨u, v, hu, hv, ht⟩
          · exact hh.2.2.1 x hx
        cases hd : decide (xbs u ≤ xbs v) with
        | true => exact ha _ f1 h5 (fun φ hφ => List.mem_append_left _ hφ) ⟨hh.1, hh.2.1, hF true hd, hh.2.2.2⟩ rfl
        | false => exact ha _ f2 h6 (fun φ hφ => List.mem_append_right _ hφ) ⟨hh.1, hh.2.1, hF false hd, hh.2.2.2⟩ rfl
def xP (y : Nat) (x z : Int32) : Prop := match y with
  | 0 => x = z
  | 1 => x = z
  | 2 => x < z
  | 3 => x < z
  | _ => z < x
def xnext (y : Nat) (t : Bool) (tgt nx : Nat) : Nat := cond (Nat.beq (y % 2) 0) (cond t tgt nx) (cond t nx tgt)
theorem xask_ok {g : xG} {cw : xWc} {bd : List (Nat × Nat)} {fc : List (Nat × Nat × Bool)} {io : List Nat} {a b : xV} {x z : Int32} {y : Nat} (hy : y < 6) (hb : xRb bd io) (hf : xRf fc io) (ha : xRv g cw io a (.int x)) (hbv : xRv g cw io b (.int z)) : xQok (xP y x z) io (xask bd fc y a b) := by
  rcases (show y = 0 ∨ y = 1 ∨ y = 2 ∨ y = 3 ∨ y = 4 ∨ y = 5 by omega) with rfl | rfl | rfl | rfl | rfl | rfl
  · exact xeq_ok hb ha hbv
  · exact xeq_ok hb ha hbv
  · exact xlt_ok hb hf ha hbv
  · exact xlt_ok hb hf ha hbv
  · exact xlt_ok hb hf hbv ha
  · exact xlt_ok hb hf hbv ha
section XBR
variable {p : Program} {l : Launch} {e : Env} {R : Room} {s : State} {m : MethodId} {args : Array Value} {below : List Frame} {meth : Method} {c : Code} {H : Heap} {locs : List Loc} {cells slots : Nat} {Q : State → Prop} {cc : ByteArray} {pc : Nat} {ls : Array Slot} {rest : List Value}
theorem xrow_icmp {y tgt : Nat} {off : Int} {x z : Int32} {t : Bool} (hy : y < 6) (hx : p.tables.exec = Jvm.exec) (hb : c.code = cc) (hd : decode cc pc = .ok (.if_icmp (xcnd y) off, 3)) (ht : (pc : Int) + off = (tgt : Int)) (h1 : t = true → xP y x z) (h2 : t = false → ¬ xP y x z) (k : W p l e R s m args below meth c H locs cells slots Q (F0 m (xnext y t tgt (pc + 3)) ls rest)) : W p l e R s m args below meth c H locs cells slots Q (F0 m pc ls (.int z :: .int x :: rest)) := by
  rcases (show y = 0 ∨ y = 1 ∨ y = 2 ∨ y = 3 ∨ y = 4 ∨ y = 5 by omega) with rfl | rfl | rfl | rfl | rfl | rfl <;> cases t
  · exact lv_icmp_eq hx hb hd ht (fun h => absurd h (h2 rfl)) (fun _ => k)
  · exact lv_icmp_eq hx hb hd ht (fun _ => k) (fun h => absurd (h1 rfl) h)
  · exact lv_icmp_ne hx hb hd ht (fun _ => k) (fun h => absurd h (h2 rfl))
  · exact lv_icmp_ne hx hb hd ht (fun h => absurd (h1 rfl) h) (fun _ => k)
  · exact lv_icmp_lt hx hb hd ht (fun h => absurd h (h2 rfl)) (fun _ => k)
  · exact lv_icmp_lt hx hb hd ht (fun _ => k) (fun h => absurd (h1 rfl) h)
  · exact lv_icmp_ge hx hb hd ht (fun _ => k) (fun h => absurd (Int32.not_lt.mp (h2 rfl)) h)
  · exact lv_icmp_ge hx hb hd ht (fun h => absurd (h1 rfl) (Int32.not_lt.mpr h)) (fun _ => k)
  · exact lv_icmp_gt hx hb hd ht (fun h => absurd h (h2 rfl)) (fun _ => k)
  · exact lv_icmp_gt hx hb hd ht (fun _ => k) (fun h => absurd (h1 rfl) h)
  · exact lv_icmp_le hx hb hd ht (fun _ => k) (fun h => absurd (Int32.not_lt.mp (h2 rfl)) h)
  · exact lv_icmp_le hx hb hd ht (fun h => absurd (h1 rfl) (Int32.not_lt.mpr h)) (fun _ => k)
theorem xrow_if {y tgt : Nat} {off : Int} {x : Int32} {t : Bool} (hy : y < 6) (hx : p.tables.exec = Jvm.exec) (hb : c.code = cc) (hd : decode cc pc = .ok (.ifCond (xcnd y) off, 3)) (ht : (pc : Int) + off = (tgt : Int)) (h1 : t = true → xP y x 0) (h2 : t = false → ¬ xP y x 0) (k : W p l e R s m args below meth c H locs cells slots Q (F0 m (xnext y t tgt (pc + 3)) ls rest)) : W p l e R s m args below meth c H locs cells slots Q (F0 m pc ls (.int x :: rest)) := by
  rcases (show y = 0 ∨ y = 1 ∨ y = 2 ∨ y = 3 ∨ y = 4 ∨ y = 5 by omega) with rfl | rfl | rfl | rfl | rfl | rfl <;> cases t
  · exact lv_if_eq hx hb hd ht (fun h => absurd h (h2 rfl)) (fun _ => k)
  · exact lv_if_eq hx hb hd ht (fun _ => k) (fun h => absurd (h1 rfl) h)
  · exact lv_if_ne hx hb hd ht (fun _ => k) (fun h => absurd h (h2 rfl))
  · exact lv_if_ne hx hb hd ht (fun h => absurd (h1 rfl) h) (fun _ => k)
  · exact lv_if_lt hx hb hd ht (fun h => absurd h (h2 rfl)) (fun _ => k)
  · exact lv_if_lt hx hb hd ht (fun _ => k) (fun h => absurd (h1 rfl) h)
  · exact lv_if_ge hx hb hd ht (fun _ => k) (fun h => absurd (Int32.not_lt.mp (h2 rfl)) h)
  · exact lv_if_ge hx hb hd ht (fun h => absurd (h1 rfl) (Int32.not_lt.mpr h)) (fun _ => k)
  · exact lv_if_gt hx hb hd ht (fun h => absurd h (h2 rfl)) (fun _ => k)
  · exact lv_if_gt hx hb hd ht (fun _ => k) (fun h => absurd (h1 rfl) h)
  · exact lv_if_le hx hb hd ht (fun _ => k) (fun h => absurd (Int32.not_lt.mp (h2 rfl)) h)
  · exact lv_if_le hx hb hd ht (fun h => absurd (h1 rfl) (Int32.not_lt.mpr h)) (fun _ => k)
end XBR
