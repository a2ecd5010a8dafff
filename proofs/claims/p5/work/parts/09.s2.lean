/-! sums, questions, branches -/
theorem xbin_ok {ins : Instr} {F : Nat → Nat → Nat} {chk : Nat → Nat → Bool} {al : Bool} {bo : xV → Nat × Nat} {op : Int32 → Int32 → Int32} {sd : Int32 → Int32 → Prop}
    (hrow : ∀ {p : Program} {l : Launch} {e : Env} {R : Room} {s : State} {m : MethodId} {args : Array Value} {below : List Frame} {meth : Method} {c : Code} {H : Heap} {locs : List Loc} {cells slots : Nat} {Q : State → Prop} {cc : ByteArray} {pc : Nat} {ls : Array Slot} {rest : List Value} {x y : Int32}, p.tables.exec = Jvm.exec → c.code = cc → decode cc pc = .ok (ins, 1) → sd x y → W p l e R s m args below meth c H locs cells slots Q (F0 m (pc + 1) ls (.int (op x y) :: rest)) → W p l e R s m args below meth c H locs cells slots Q (F0 m pc ls (.int y :: .int x :: rest)))
    (hF : ∀ u v, u < 4294967296 → v < 4294967296 → chk u v = true → sd (nI u) (nI v) ∧ op (nI u) (nI v) = nI (F u v) ∧ F u v < 4294967296)
    (hA : al = true → ∀ x y, sd x y) (hB : ∀ (b : xV) (x y : Int32) (u : Nat), (b.1 = 0 → b.2 < 4294967296 ∧ y = nI b.2) → u < 4294967296 → op x y = nI u → (bo b).1 ≤ xbs u ∧ xbs u ≤ (bo b).2) : xHok (fun _ => ins, xPn 1, xbin F chk al bo) := by
  intro ih hI d M i tl lo st hp fs h hM he hd hl hn hc p l e R s m args below meth c D A g cw0 tys0 io0 Q C hQ
  obtain ⟨b, s1, rfl, h1⟩ := xhd_some h
  obtain ⟨a, s2, rfl, h2⟩ := xhd_some h1
  have h2 : cond (Nat.beq ((xnm hp.2.1 a).1 + (xnm hp.2.1 b).1) 0) (xif (chk (xnm hp.2.1 a).2 (xnm hp.2.1 b).2) (xN (F (xnm hp.2.1 a).2 (xnm hp.2.1 b).2) fun z => ih d M (i.1 + i.2.1, tl, lo, (0, z) :: s2, hp))) (xif (al && (xisi (xnm hp.2.1 a) && xisi (xnm hp.2.1 b))) (xfresh (bo (xnm hp.2.1 b)) (fun v hp' => ih d M (i.1 + i.2.1, tl, lo, v :: s2, hp')) hp)) = some fs := h2
  have hx := C.1
  have hb := C.2.1
  have a1 : i.2.1 = 1 := hl
  have hd : decode M.2.1 i.1 = .ok (ins, i.2.1) := hd
  rw [a1] at hd
  cases hc0 : Nat.beq ((xnm hp.2.1 a).1 + (xnm hp.2.1 b).1) 0 with
  | true =>
    rw [hc0] at h2
    obtain ⟨h3, h4⟩ := xif_some h2
    rw [xN_eq] at h4
    have K := xgo hI h4 hM hn hc C hQ
    have z := xbeq hc0
    have za : (xnm hp.2.1 a).1 = 0 := by omega
    have zb : (xnm hp.2.1 b).1 = 0 := by omega
    refine xok_stk K fun cw io sv hs hbd _ => ?_
    obtain ⟨wb, sv1, rfl, r1, hs1⟩ := xrel_cons hs
    obtain ⟨wa, sv2, rfl, r2, hs2⟩ := xrel_cons hs1
    have q1 := xnm_ok hbd r1
    have q2 := xnm_ok hbd r2
    generalize hbb : xnm hp.2.1 b = b' at *
    generalize haa : xnm hp.2.1 a = a' at *
    obtain ⟨tb, ub⟩ := b'
    obtain ⟨ta, ua⟩ := a'
    simp only at za zb
    subst za
    subst zb
    obtain ⟨l1, e1⟩ := q1
    obtain ⟨l2, e2⟩ := q2
    subst e1
    subst e2
    obtain ⟨f1, f2, f3⟩ := hF ua ub l2 l1 h3
    refine ⟨.int (nI (F ua ub)) :: sv2, ⟨⟨f3, rfl⟩, hs2⟩, fun H locs ls cells slots k => ?_⟩
    rw [a1, ← f2] at k
    exact hrow hx hb hd f1 k
  | false =>
    rw [hc0] at h2
    obtain ⟨h3, h4⟩ := xif_some h2
    obtain ⟨al1, h5⟩ := Bool.and_eq_true_iff.mp h3
    obtain ⟨ia, ib⟩ := Bool.and_eq_true_iff.mp h5
    have h4 : xN hp.2.1.length (fun n => ih d M (i.1 + i.2.1, tl, lo, (1, n) :: s2, (hp.1, hp.2.1 ++ [bo (xnm hp.2.1 b)], hp.2.2))) = some fs := h4
    rw [xN_eq] at h4
    have K := xgo hI h4 hM hn hc C hQ
    refine xok_new (w := hp.1) (bd := hp.2.1) (fc := hp.2.2.1) (r := hp.2.2.2) K fun cw io sv hs hbd _ => ?_
    obtain ⟨wb, sv1, rfl, r1, hs1⟩ := xrel_cons hs
    obtain ⟨wa, sv2, rfl, r2, hs2⟩ := xrel_cons hs1
    have q1 := xnm_ok hbd r1
    have q2 := xnm_ok hbd r2
    obtain ⟨ub, rfl⟩ := xisi_ok ib q1
    obtain ⟨ua, rfl⟩ := xisi_ok ia q2
    obtain ⟨u, hu, e1⟩ := xnI_of (op ua ub)
    have hbo := hB (xnm hp.2.1 b) ua ub u (fun z => by
      generalize xnm hp.2.1 b = b' at *
      obtain ⟨tb, vb⟩ := b'
      simp only at z
      subst z
      exact ⟨q1.1, Value.int.inj q1.2⟩) hu e1
    refine ⟨u, sv2, hu, hbo.1, hbo.2, hs2, fun H locs ls cells slots k => ?_⟩
    rw [a1, ← e1] at k
    exact hrow hx hb hd (hA al1 _ _) k
theorem xany_ok (b : xV) (u : Nat) : (xany b).1 ≤ xbs u ∧ xbs u ≤ (xany b).2 := ⟨Nat.zero_le _, by have := xbs_lt u; show _ ≤ 4294967295; omega⟩
theorem xs_iadd : xHok (fun _ => .iadd, xPn 1, xh_iadd) := xbin_ok (op := (· + ·)) (sd := fun _ _ => True) (fun hx hb hd _ k => lv_iadd hx hb hd k) (fun u v _ _ _ => ⟨trivial, xnI_add u v, Nat.mod_lt _ (by decide)⟩) (fun _ _ _ => trivial) (fun b _ _ u _ _ _ => xany_ok b u)
theorem xs_isub : xHok (fun _ => .isub, xPn 1, xh_isub) := xbin_ok (op := (· - ·)) (sd := fun _ _ => True) (fun hx hb hd _ k => lv_isub hx hb hd k) (fun u v _ hv _ => ⟨trivial, xnI_sub (Nat.le_of_lt hv), Nat.mod_lt _ (by decide)⟩) (fun _ _ _ => trivial) (fun b _ _ u _ _ _ => xany_ok b u)
theorem xs_imul : xHok (fun _ => .imul, xPn 1, xh_imul) := xbin_ok (op := (· * ·)) (sd := fun _ _ => True) (fun hx hb hd _ k => lv_imul hx hb hd k) (fun u v _ _ _ => ⟨trivial, xnI_mul u v, Nat.mod_lt _ (by decide)⟩) (fun _ _ _ => trivial) (fun b _ _ u _ _ _ => xany_ok b u)
theorem xs_ior : xHok (fun _ => .ior, xPn 1, xh_ior) := xbin_ok (op := (· ||| ·)) (sd := fun _ _ => True) (fun hx hb hd _ k => lv_ior hx hb hd k) (fun u v hu hv _ => ⟨trivial, xnI_or hu hv, Nat.or_lt_two_pow (n := 32) hu hv⟩) (fun _ _ _ => trivial) (fun b _ _ u _ _ _ => xany_ok b u)
theorem xmask_ok (b : xV) (x y : Int32) (u : Nat) (h : b.1 = 0 → b.2 < 4294967296 ∧ y = nI b.2) (hu : u < 4294967296) (he : x &&& y = nI u) : (xmask b).1 ≤ xbs u ∧ xbs u ≤ (xmask b).2 := by
  unfold xmask
  cases hc : (Nat.beq b.1 0 && Nat.blt b.2 2147483648) with
  | false => exact ⟨Nat.zero_le _, by have := xbs_lt u; show _ ≤ 4294967295; omega⟩
  | true =>
    obtain ⟨h1, h2⟩ := Bool.and_eq_true_iff.mp hc
    have h3 := xblt h2
    obtain ⟨h4, rfl⟩ := h (xbeq h1)
    obtain ⟨v, hv, rfl⟩ := xnI_of x
    rw [xnI_and hv h4] at he
    have h5 : v &&& b.2 ≤ b.2 := Nat.and_le_right
    have h6 : v &&& b.2 = u := (xeq_iff (by omega) hu).mp he
    show 2147483648 ≤ xbs u ∧ xbs u ≤ 2147483648 + b.2
    unfold xbs
    omega
theorem xs_iand : xHok (fun _ => .iand, xPn 1, xh_iand) := xbin_ok (op := (· &&& ·)) (sd := fun _ _ => True) (fun hx hb hd _ k => lv_iand hx hb hd k) (fun u v hu hv _ => ⟨trivial, xnI_and hu hv, Nat.and_lt_two_pow (n := 32) u hv⟩) (fun _ _ _ => trivial) (fun b x y u h hu he => xmask_ok b x y u h hu he)
theorem xs_idiv : xHok (fun _ => .idiv, xPn 1, xh_idiv) := xbin_ok (op := (· / ·)) (sd := fun _ y => ¬ y = 0) (fun hx hb hd h k => lv_idiv hx hb hd h k) (fun u v _ _ h => by
    obtain ⟨h1, h2⟩ := Bool.and_eq_true_iff.mp h
    obtain ⟨h3, h4⟩ := Bool.and_eq_true_iff.mp h2
    have h1 := xblt h1
    have h3 := xblt h3
    have h4 := xblt h4
    have h5 : u / v ≤ u := Nat.div_le_self _ _
    exact ⟨nI_ne0 h3 h4, pk_div h1 h3 h4, by omega⟩) (fun h => by cases h) (fun b _ _ u _ _ _ => xany_ok b u)
theorem xs_irem : xHok (fun _ => .irem, xPn 1, xh_irem) := xbin_ok (op := fun x y => x - x / y * y) (sd := fun _ y => ¬ y = 0) (fun hx hb hd h k => lv_irem hx hb hd h k) (fun u v _ _ h => by
    obtain ⟨h1, h2⟩ := Bool.and_eq_true_iff.mp h
    obtain ⟨h3, h4⟩ := Bool.and_eq_true_iff.mp h2
    have h1 := xblt h1
    have h3 := xblt h3
    have h4 := xblt h4
    have h5 : u % v < v := Nat.mod_lt _ h3
    exact ⟨nI_ne0 h3 h4, pk_rem h1 h3 h4, by omega⟩) (fun h => by cases h) (fun b _ _ u _ _ _ => xany_ok b u)
theorem xsh5 {v : Nat} (h : v < 32) : (((nI v) &&& 31).toBitVec.smod 32).toNat = v := by
  have e : ∀ k, k < 32 → (((nI k) &&& 31).toBitVec.smod 32).toNat = k := by decide +kernel
  exact e v h
theorem xush5 {v : Nat} (h : v < 32) : (((nI v).toUInt32 &&& Int32.toUInt32 31).toBitVec % 32).toNat = v := by
  have e : ∀ k, k < 32 → (((nI k).toUInt32 &&& Int32.toUInt32 31).toBitVec % 32).toNat = k := by decide +kernel
  exact e v h
theorem xs_ishl : xHok (fun _ => .ishl, xPn 1, xh_ishl) := xbin_ok (op := fun x y => x <<< (y &&& 31)) (sd := fun _ _ => True) (fun hx hb hd _ k => lv_ishl hx hb hd k) (fun u v hu _ h => by
    refine ⟨trivial, ?_, Nat.mod_lt _ (by decide)⟩
    apply Int32.toBitVec_inj.mp
    apply BitVec.eq_of_toNat_eq
    rw [pk_shl _ _ v (xsh5 (xblt h)), pk_tn hu, pk_tn (Nat.mod_lt _ (by decide))]) (fun _ _ _ => trivial) (fun b _ _ u _ _ _ => xany_ok b u)
theorem xs_ishr : xHok (fun _ => .ishr, xPn 1, xh_ishr) := xbin_ok (op := fun x y => x >>> (y &&& 31)) (sd := fun _ _ => True) (fun hx hb hd _ k => lv_ishr hx hb hd k) (fun u v hu _ h => by
    obtain ⟨h1, h2⟩ := Bool.and_eq_true_iff.mp h
    have h5 : u / 2 ^ v ≤ u := Nat.div_le_self _ _
    exact ⟨trivial, pk_shrN (xblt h1) _ v (xsh5 (xblt h2)), by omega⟩) (fun _ _ _ => trivial) (fun b _ _ u _ _ _ => xany_ok b u)
theorem xs_iushr : xHok (fun _ => .iushr, xPn 1, xh_iushr) := xbin_ok (op := fun x y => (x.toUInt32 >>> (y.toUInt32 &&& Int32.toUInt32 31)).toInt32) (sd := fun _ _ => True) (fun hx hb hd _ k => lv_iushr hx hb hd rfl k) (fun u v hu _ h => by
    have h5 : u / 2 ^ v ≤ u := Nat.div_le_self _ _
    exact ⟨trivial, pk_ushrN hu _ v (xush5 (xblt h)), by omega⟩) (fun _ _ _ => trivial) (fun b _ _ u _ _ _ => xany_ok b u)
theorem xs_i2b : xHok (fun _ => .i2b, xPn 1, xh_i2b) := by
  intro ih hI d M i tl lo st hp fs h hM he hd hl hn hc p l e R s m args below meth c D A g cw0 tys0 io0 Q C hQ
  obtain ⟨a, s1, rfl, h1⟩ := xhd_some h
  obtain ⟨h2, h3⟩ := xif_some h1
  have h4 : xN hp.2.1.length (fun n => ih d M (i.1 + i.2.1, tl, lo, (1, n) :: s1, (hp.1, hp.2.1 ++ [(2147483520, 2147483775)], hp.2.2))) = some fs := h3
  rw [xN_eq] at h4
  have K := xgo hI h4 hM hn hc C hQ
  obtain ⟨hx, hb, -⟩ := C
  have a1 : i.2.1 = 1 := hl
  have hd : decode M.2.1 i.1 = .ok (.i2b, i.2.1) := hd
  rw [a1] at hd
  refine xok_new (w := hp.1) (bd := hp.2.1) (fc := hp.2.2.1) (r := hp.2.2.2) K fun cw io sv hs hbd _ => ?_
  obtain ⟨wa, sv2, rfl, r2, hs2⟩ := xrel_cons hs
  obtain ⟨ua, rfl⟩ := xisi_ok h2 r2
  obtain ⟨u, hu, e1⟩ := xnI_of (ua.toInt8.toInt32)
  have h8 : (ua.toInt8.toInt32).toInt = (xbs u : Int) - 2147483648 := by rw [e1]; exact xnI_toInt hu
  have h9 : -128 ≤ (ua.toInt8.toInt32).toInt ∧ (ua.toInt8.toInt32).toInt < 128 := by
    rw [Int8.toInt_toInt32]
    exact ⟨Int8.le_toInt _, Int8.toInt_lt _⟩
  refine ⟨u, sv2, hu, by omega, by omega, hs2, fun H locs ls cells slots k => ?_⟩
  rw [a1, ← e1] at k
  exact lv_i2b hx hb hd rfl k
theorem xs_i2l : xHok (fun _ => .i2l, xPn 1, xh_i2l) := by
  intro ih hI d M i tl lo st hp fs h hM he hd hl hn hc p l e R s m args below meth c D A g cw0 tys0 io0 Q C hQ
  obtain ⟨a, s1, rfl, h1⟩ := xhd_some h
  obtain ⟨h2, h3⟩ := xif_some h1
  obtain ⟨h4, h5⟩ := Bool.and_eq_true_iff.mp h2
  have K := xgo hI h3 hM hn hc C hQ
  obtain ⟨hx, hb, -⟩ := C
  have a1 : i.2.1 = 1 := hl
  have hd : decode M.2.1 i.1 = .ok (.i2l, i.2.1) := hd
  rw [a1] at hd
  refine xok_stk K fun cw io sv hs hbd _ => ?_
  obtain ⟨wa, sv2, rfl, r2, hs2⟩ := xrel_cons hs
  have q2 := xnm_ok hbd r2
  have z := xbeq h4
  have y := xblt h5
  generalize xnm hp.2.1 a = a' at *
  obtain ⟨ta, ua⟩ := a'
  simp only at z y
  subst z
  obtain ⟨-, rfl⟩ := q2
  refine ⟨.long (lN ua) :: sv2, ⟨rfl, hs2⟩, fun H locs ls cells slots k => ?_⟩
  rw [a1] at k
  exact lv_i2l hx hb hd (nI_l y) k
theorem xs_l2i : xHok (fun _ => .l2i, xPn 1, xh_l2i) := by
  intro ih hI d M i tl lo st hp fs h hM he hd hl hn hc p l e R s m args below meth c D A g cw0 tys0 io0 Q C hQ
  obtain ⟨a, s1, rfl, h1⟩ := xhd_some h
  obtain ⟨h2, h3⟩ := xif_some h1
  rw [xN_eq] at h3
  have K := xgo hI h3 hM hn hc C hQ
  obtain ⟨hx, hb, -⟩ := C
  have a1 : i.2.1 = 1 := hl
  have hd : decode M.2.1 i.1 = .ok (.l2i, i.2.1) := hd
  rw [a1] at hd
  refine xok_stk K fun cw io sv hs hbd _ => ?_
  obtain ⟨wa, sv2, rfl, r2, hs2⟩ := xrel_cons hs
  obtain ⟨ta, ua⟩ := a
  have z : ta = 4 := xbeq h2
  subst z
  have e1 : wa = .long (lN ua) := r2
  subst e1
  refine ⟨.int (nI (ua % 4294967296)) :: sv2, ⟨⟨Nat.mod_lt _ (by decide), rfl⟩, hs2⟩, fun H locs ls cells slots k => ?_⟩
  rw [a1] at k
  exact lv_l2i hx hb hd (by rw [xnI_mod]; exact lN_i ua) k
theorem xs_lmul : xHok (fun _ => .lmul, xPn 1, xh_lmul) := by
  intro ih hI d M i tl lo st hp fs h hM he hd hl hn hc p l e R s m args below meth c D A g cw0 tys0 io0 Q C hQ
  obtain ⟨b, s1, rfl, h1⟩ := xhd_some h
  obtain ⟨a, s2, rfl, h2⟩ := xhd_some h1
  obtain ⟨h3, h4⟩ := xif_some h2
  rw [xN_eq] at h4
  have K := xgo hI h4 hM hn hc C hQ
  obtain ⟨hx, hb, -⟩ := C
  have a1 : i.2.1 = 1 := hl
  have hd : decode M.2.1 i.1 = .ok (.lmul, i.2.1) := hd
  rw [a1] at hd
  obtain ⟨h5, h6⟩ := Bool.and_eq_true_iff.mp h3
  refine xok_stk K fun cw io sv hs hbd _ => ?_
  obtain ⟨wb, sv1, rfl, r1, hs1⟩ := xrel_cons hs
  obtain ⟨wa, sv2, rfl, r2, hs2⟩ := xrel_cons hs1
  obtain ⟨ta, ua⟩ := a
  obtain ⟨tb, ub⟩ := b
  have z : ta = 4 := xbeq h5
  subst z
  have z : tb = 4 := xbeq h6
  subst z
  have e1 : wa = .long (lN ua) := r2
  subst e1
  have e1 : wb = .long (lN ub) := r1
  subst e1
  refine ⟨.long (lN (ua * ub)) :: sv2, ⟨rfl, hs2⟩, fun H locs ls cells slots k => ?_⟩
  rw [a1, ← lN_mul] at k
  exact lv_lmul hx hb hd k
theorem xs_ladd : xHok (fun _ => .ladd, xPn 1, xh_ladd) := by
  intro ih hI d M i tl lo st hp fs h hM he hd hl hn hc p l e R s m args below meth c D A g cw0 tys0 io0 Q C hQ
  obtain ⟨b, s1, rfl, h1⟩ := xhd_some h
  obtain ⟨a, s2, rfl, h2⟩ := xhd_some h1
  obtain ⟨h3, h4⟩ := xif_some h2
  rw [xN_eq] at h4
  have K := xgo hI h4 hM hn hc C hQ
  obtain ⟨hx, hb, -⟩ := C
  have a1 : i.2.1 = 1 := hl
  have hd : decode M.2.1 i.1 = .ok (.ladd, i.2.1) := hd
  rw [a1] at hd
  obtain ⟨h5, h6⟩ := Bool.and_eq_true_iff.mp h3
  refine xok_stk K fun cw io sv hs hbd _ => ?_
  obtain ⟨wb, sv1, rfl, r1, hs1⟩ := xrel_cons hs
  obtain ⟨wa, sv2, rfl, r2, hs2⟩ := xrel_cons hs1
  obtain ⟨ta, ua⟩ := a
  obtain ⟨tb, ub⟩ := b
  have z : ta = 4 := xbeq h5
  subst z
  have z : tb = 4 := xbeq h6
  subst z
  have e1 : wa = .long (lN ua) := r2
  subst e1
  have e1 : wb = .long (lN ub) := r1
  subst e1
  refine ⟨.long (lN (ua + ub)) :: sv2, ⟨rfl, hs2⟩, fun H locs ls cells slots k => ?_⟩
  rw [a1, ← lN_add] at k
  exact lv_ladd hx hb hd k
