/-! instructions whose numbers may be anything -/
noncomputable def xpt (v : Int32) : Nat := Classical.choose (xnI_of v)
theorem xpt_lt (v : Int32) : xpt v < 4294967296 := (Classical.choose_spec (xnI_of v)).1
theorem xpt_eq (v : Int32) : nI (xpt v) = v := (Classical.choose_spec (xnI_of v)).2.symm
theorem xlN_of (x : Int64) : ∃ u, x = lN u := by
  refine ⟨x.toBitVec.toNat, ?_⟩
  apply Int64.toBitVec_inj.mp
  apply BitVec.eq_of_toNat_eq
  show _ = (BitVec.ofNat 64 _).toNat
  rw [BitVec.toNat_ofNat]
  exact (Nat.mod_eq_of_lt x.toBitVec.isLt).symm
noncomputable def xlp (v : Int64) : Nat := Classical.choose (xlN_of v)
theorem xlp_eq (v : Int64) : lN (xlp v) = v := (Classical.choose_spec (xlN_of v)).symm
section XPU
variable {d p0 pc ln op x y ix u v z k n t L : Nat} {M : xM} {fs : List xS} {tl : List xI} {lo l1 : xLo} {st st1 : List xV} {hp : xH} {va vb : xV} {P : xS → Prop}
theorem xg_hok {a : xI → Instr} {b : String → xI → Prop} {f : xF} (ht : xHok (a, b, f)) (ho : xget xopi op = some (a, b)) (h : f xidk d M (pc, ln, op, x, y, ix) tl lo st hp = some fs) : xLd d M (p0, (pc, ln, op, x, y, ix) :: tl, lo, st, hp) fs := by
  intro hM hpos p l e R s m args below meth c D A g cw0 tys0 io0 Q C hQ
  obtain ⟨q1, q2, q3, q4⟩ := hpos
  have q1 : pc = p0 := q1
  subst q1
  have q2' := q2
  obtain ⟨t', h3, h4, h5⟩ := q2
  have h3 : xget xopi op = some t' := h3
  rw [ho] at h3
  cases h3
  exact ht xidk xidk_ok d M (pc, ln, op, x, y, ix) tl lo st hp fs h hM q2' h4 h5 q3 q4 p l e R s m args below meth c D A g cw0 tys0 io0 Q C hQ
/-- only the stack changes -/
theorem xg_pure {ins : xI → Instr} (ho : xget xopi op = some (ins, xPn 1)) (H : ∀ {p : Program} {l : Launch} {e : Env} {R : Room} {s : State} {m : MethodId} {args : Array Value} {below : List Frame} {meth : Method} {c : Code} {H : Heap} {locs : List Loc} {ls : Array Slot} {cells slots : Nat} {Q : State → Prop} (g : xG) (cw : xWc) (io : List Nat) (sv : List Value), p.tables.exec = Jvm.exec → c.code = M.2.1 → decode M.2.1 pc = .ok (ins (pc, ln, op, x, y, ix), 1) → xRb hp.2.1 io → xrel (xRv g cw io) st sv → ∃ sv', xrel (xRv g cw io) st1 sv' ∧ (W p l e R s m args below meth c H locs cells slots Q (F0 m (pc + 1) ls sv') → W p l e R s m args below meth c H locs cells slots Q (F0 m pc ls sv))) : xLd d M (p0, (pc, ln, op, x, y, ix) :: tl, lo, st, hp) [(pc + ln, tl, lo, st1, hp)] := by
  intro hM hpos p l e R s m args below meth c D A g cw0 tys0 io0 Q C hQ cw tys io Hh locs ls lv sv hE hK hP hD hS hl hlo hst hh
  obtain ⟨q1, q2, q3, q4⟩ := hpos
  have q1 : pc = p0 := q1
  subst q1
  obtain ⟨t', h3, h4, h5⟩ := q2
  have h3 : xget xopi op = some t' := h3
  rw [ho] at h3
  cases h3
  have h5 : ln = 1 := h5
  subst h5
  obtain ⟨sv', k1, k2⟩ := H g cw io sv C.1 C.2.1 h4 hh.2.1 hst
  refine k2 (hQ _ List.mem_cons_self ⟨?_, q4⟩ cw tys io Hh locs ls lv sv' hE hK hP hD hS hl hlo k1 hh)
  cases tl with
  | nil => trivial
  | cons a b => exact q3
/-- two longs -/
theorem xg_l2 {ins : Instr} {F : Int64 → Int64 → Int64} (ho : xget xopi op = some (fun _ => ins, xPn 1)) (hrow : ∀ {p : Program} {l : Launch} {e : Env} {R : Room} {s : State} {m : MethodId} {args : Array Value} {below : List Frame} {meth : Method} {c : Code} {H : Heap} {locs : List Loc} {cells slots : Nat} {Q : State → Prop} {cc : ByteArray} {pc : Nat} {ls : Array Slot} {rest : List Value}, p.tables.exec = Jvm.exec → c.code = cc → decode cc pc = .ok (ins, 1) → W p l e R s m args below meth c H locs cells slots Q (F0 m (pc + 1) ls (.long (F (lN u) (lN v)) :: rest)) → W p l e R s m args below meth c H locs cells slots Q (F0 m pc ls (.long (lN v) :: .long (lN u) :: rest))) : xLd d M (p0, (pc, ln, op, x, y, ix) :: tl, lo, (4, v) :: (4, u) :: st, hp) [(pc + ln, tl, lo, (4, xlp (F (lN u) (lN v))) :: st, hp)] := by
  refine xg_pure ho (fun g cw io sv hx hb hd _ hs => ?_)
  obtain ⟨wb, sv1, rfl, r1, hs1⟩ := xrel_cons hs
  obtain ⟨wa, sv2, rfl, r2, hs2⟩ := xrel_cons hs1
  have e1 : wa = .long (lN u) := r2
  subst e1
  have e1 : wb = .long (lN v) := r1
  subst e1
  refine ⟨.long (lN (xlp (F (lN u) (lN v)))) :: sv2, ⟨rfl, hs2⟩, fun k => ?_⟩
  rw [xlp_eq] at k
  exact hrow hx hb hd k
theorem xg_lsub : xLd d M (p0, (pc, ln, 66, x, y, ix) :: tl, lo, (4, v) :: (4, u) :: st, hp) [(pc + ln, tl, lo, (4, xlp (lN u - lN v)) :: st, hp)] := xg_l2 (F := fun a b => a - b) rfl (fun hx hb hd k => lv_lsub hx hb hd k)
theorem xg_ldiv (h : ¬ lN v = 0) : xLd d M (p0, (pc, ln, 67, x, y, ix) :: tl, lo, (4, v) :: (4, u) :: st, hp) [(pc + ln, tl, lo, (4, xlp (lN u / lN v)) :: st, hp)] := xg_l2 (F := fun a b => a / b) rfl (fun hx hb hd k => lv_ldiv hx hb hd h k)
theorem xg_ladd : xLd d M (p0, (pc, ln, 56, x, y, ix) :: tl, lo, (4, v) :: (4, u) :: st, hp) [(pc + ln, tl, lo, (4, xlp (lN u + lN v)) :: st, hp)] := xg_l2 (F := fun a b => a + b) rfl (fun hx hb hd k => lv_ladd hx hb hd k)
theorem xg_lmul : xLd d M (p0, (pc, ln, 55, x, y, ix) :: tl, lo, (4, v) :: (4, u) :: st, hp) [(pc + ln, tl, lo, (4, xlp (lN u * lN v)) :: st, hp)] := xg_l2 (F := fun a b => a * b) rfl (fun hx hb hd k => lv_lmul hx hb hd k)
theorem xg_lneg : xLd d M (p0, (pc, ln, 68, x, y, ix) :: tl, lo, (4, u) :: st, hp) [(pc + ln, tl, lo, (4, xlp (-(lN u))) :: st, hp)] := by
  refine xg_pure (ins := fun _ => .lneg) rfl (fun g cw io sv hx hb hd _ hs => ?_)
  obtain ⟨wa, sv2, rfl, r2, hs2⟩ := xrel_cons hs
  have e1 : wa = .long (lN u) := r2
  subst e1
  refine ⟨.long (lN (xlp (-(lN u)))) :: sv2, ⟨rfl, hs2⟩, fun k => ?_⟩
  rw [xlp_eq] at k
  exact lv_lneg hx hb hd k
theorem xg_lcmp : xLd d M (p0, (pc, ln, 57, x, y, ix) :: tl, lo, (4, v) :: (4, u) :: st, hp) [(pc + ln, tl, lo, (0, xpt (lg_cmp (lN u) (lN v))) :: st, hp)] := by
  refine xg_pure (ins := fun _ => .lcmp) rfl (fun g cw io sv hx hb hd _ hs => ?_)
  obtain ⟨wb, sv1, rfl, r1, hs1⟩ := xrel_cons hs
  obtain ⟨wa, sv2, rfl, r2, hs2⟩ := xrel_cons hs1
  have e1 : wa = .long (lN u) := r2
  subst e1
  have e1 : wb = .long (lN v) := r1
  subst e1
  refine ⟨.int (nI (xpt (lg_cmp (lN u) (lN v)))) :: sv2, ⟨⟨xpt_lt _, rfl⟩, hs2⟩, fun k => ?_⟩
  rw [xpt_eq] at k
  exact W.lcmp hx hb hd k
theorem xg_i2l (ha : xnm hp.2.1 va = (0, u)) : xLd d M (p0, (pc, ln, 49, x, y, ix) :: tl, lo, va :: st, hp) [(pc + ln, tl, lo, (4, xlp (nI u).toInt64) :: st, hp)] := by
  refine xg_pure (ins := fun _ => .i2l) rfl (fun g cw io sv hx hb hd hbd hs => ?_)
  obtain ⟨wa, sv2, rfl, r2, hs2⟩ := xrel_cons hs
  have q := xnm_ok hbd r2
  rw [ha] at q
  obtain ⟨-, rfl⟩ := q
  refine ⟨.long (lN (xlp (nI u).toInt64)) :: sv2, ⟨rfl, hs2⟩, fun k => ?_⟩
  rw [xlp_eq] at k
  exact lv_i2l hx hb hd rfl k
theorem xg_l2i : xLd d M (p0, (pc, ln, 50, x, y, ix) :: tl, lo, (4, u) :: st, hp) [(pc + ln, tl, lo, (0, xpt (lN u).toInt32) :: st, hp)] := by
  refine xg_pure (ins := fun _ => .l2i) rfl (fun g cw io sv hx hb hd _ hs => ?_)
  obtain ⟨wa, sv2, rfl, r2, hs2⟩ := xrel_cons hs
  have e1 : wa = .long (lN u) := r2
  subst e1
  refine ⟨.int (nI (xpt (lN u).toInt32)) :: sv2, ⟨⟨xpt_lt _, rfl⟩, hs2⟩, fun k => ?_⟩
  rw [xpt_eq] at k
  exact lv_l2i hx hb hd rfl k
/-- one int -/
theorem xg_i1 {ins : Instr} {F : Int32 → Int32} (ho : xget xopi op = some (fun _ => ins, xPn 1)) (hrow : ∀ {p : Program} {l : Launch} {e : Env} {R : Room} {s : State} {m : MethodId} {args : Array Value} {below : List Frame} {meth : Method} {c : Code} {H : Heap} {locs : List Loc} {cells slots : Nat} {Q : State → Prop} {cc : ByteArray} {pc : Nat} {ls : Array Slot} {rest : List Value}, p.tables.exec = Jvm.exec → c.code = cc → decode cc pc = .ok (ins, 1) → W p l e R s m args below meth c H locs cells slots Q (F0 m (pc + 1) ls (.int (F (nI u)) :: rest)) → W p l e R s m args below meth c H locs cells slots Q (F0 m pc ls (.int (nI u) :: rest))) (ha : xnm hp.2.1 va = (0, u)) : xLd d M (p0, (pc, ln, op, x, y, ix) :: tl, lo, va :: st, hp) [(pc + ln, tl, lo, (0, xpt (F (nI u))) :: st, hp)] := by
  refine xg_pure ho (fun g cw io sv hx hb hd hbd hs => ?_)
  obtain ⟨wa, sv2, rfl, r2, hs2⟩ := xrel_cons hs
  have q := xnm_ok hbd r2
  rw [ha] at q
  obtain ⟨-, rfl⟩ := q
  refine ⟨.int (nI (xpt (F (nI u)))) :: sv2, ⟨⟨xpt_lt _, rfl⟩, hs2⟩, fun k => ?_⟩
  rw [xpt_eq] at k
  exact hrow hx hb hd k
theorem xg_ineg (ha : xnm hp.2.1 va = (0, u)) : xLd d M (p0, (pc, ln, 69, x, y, ix) :: tl, lo, va :: st, hp) [(pc + ln, tl, lo, (0, xpt (-(nI u))) :: st, hp)] := xg_i1 (F := fun a => -a) rfl (fun hx hb hd k => lv_ineg hx hb hd k) ha
theorem xg_i2b (ha : xnm hp.2.1 va = (0, u)) : xLd d M (p0, (pc, ln, 41, x, y, ix) :: tl, lo, va :: st, hp) [(pc + ln, tl, lo, (0, xpt (nI u).toInt8.toInt32) :: st, hp)] := xg_i1 (F := fun a => a.toInt8.toInt32) rfl (fun hx hb hd k => lv_i2b hx hb hd rfl k) ha
/-- two ints -/
theorem xg_i2 {ins : Instr} {F : Int32 → Int32 → Int32} (ho : xget xopi op = some (fun _ => ins, xPn 1)) (hrow : ∀ {p : Program} {l : Launch} {e : Env} {R : Room} {s : State} {m : MethodId} {args : Array Value} {below : List Frame} {meth : Method} {c : Code} {H : Heap} {locs : List Loc} {cells slots : Nat} {Q : State → Prop} {cc : ByteArray} {pc : Nat} {ls : Array Slot} {rest : List Value}, p.tables.exec = Jvm.exec → c.code = cc → decode cc pc = .ok (ins, 1) → v < 4294967296 → W p l e R s m args below meth c H locs cells slots Q (F0 m (pc + 1) ls (.int (F (nI u) (nI v)) :: rest)) → W p l e R s m args below meth c H locs cells slots Q (F0 m pc ls (.int (nI v) :: .int (nI u) :: rest))) (ha : xnm hp.2.1 va = (0, u)) (hb' : xnm hp.2.1 vb = (0, v)) : xLd d M (p0, (pc, ln, op, x, y, ix) :: tl, lo, vb :: va :: st, hp) [(pc + ln, tl, lo, (0, xpt (F (nI u) (nI v))) :: st, hp)] := by
  refine xg_pure ho (fun g cw io sv hx hb hd hbd hs => ?_)
  obtain ⟨wb, sv1, rfl, r1, hs1⟩ := xrel_cons hs
  obtain ⟨wa, sv2, rfl, r2, hs2⟩ := xrel_cons hs1
  have q := xnm_ok hbd r2
  rw [ha] at q
  obtain ⟨-, rfl⟩ := q
  have q := xnm_ok hbd r1
  rw [hb'] at q
  obtain ⟨hv, rfl⟩ := q
  refine ⟨.int (nI (xpt (F (nI u) (nI v)))) :: sv2, ⟨⟨xpt_lt _, rfl⟩, hs2⟩, fun k => ?_⟩
  rw [xpt_eq] at k
  exact hrow hx hb hd hv k
theorem xg_ixor (ha : xnm hp.2.1 va = (0, u)) (hb : xnm hp.2.1 vb = (0, v)) : xLd d M (p0, (pc, ln, 70, x, y, ix) :: tl, lo, vb :: va :: st, hp) [(pc + ln, tl, lo, (0, xpt (nI u ^^^ nI v)) :: st, hp)] := xg_i2 (F := fun a b => a ^^^ b) rfl (fun hx hb hd _ k => lv_ixor hx hb hd k) ha hb
theorem xg_ishrG (ha : xnm hp.2.1 va = (0, u)) (hb : xnm hp.2.1 vb = (0, v)) : xLd d M (p0, (pc, ln, 29, x, y, ix) :: tl, lo, vb :: va :: st, hp) [(pc + ln, tl, lo, (0, xpt (nI u >>> (nI v &&& 31))) :: st, hp)] := xg_i2 (F := fun a b => a >>> (b &&& 31)) rfl (fun hx hb hd _ k => lv_ishr hx hb hd k) ha hb
theorem xg_ishlG (ha : xnm hp.2.1 va = (0, u)) (hb : xnm hp.2.1 vb = (0, v)) : xLd d M (p0, (pc, ln, 26, x, y, ix) :: tl, lo, vb :: va :: st, hp) [(pc + ln, tl, lo, (0, xpt (nI u <<< (nI v &&& 31))) :: st, hp)] := xg_i2 (F := fun a b => a <<< (b &&& 31)) rfl (fun hx hb hd _ k => lv_ishl hx hb hd k) ha hb
theorem xg_idivG (h0 : v ≠ 0) (ha : xnm hp.2.1 va = (0, u)) (hb : xnm hp.2.1 vb = (0, v)) : xLd d M (p0, (pc, ln, 20, x, y, ix) :: tl, lo, vb :: va :: st, hp) [(pc + ln, tl, lo, (0, xpt (nI u / nI v)) :: st, hp)] := xg_i2 (F := fun a b => a / b) rfl (fun hx hb hd hv k => lv_idiv hx hb hd (fun z => h0 ((xeq_iff hv (by decide)).mp z)) k) ha hb
theorem xg_iand (ha : xnm hp.2.1 va = (0, u)) (hb : xnm hp.2.1 vb = (0, v)) (hz : Nat.land u v = z) : xLd d M (p0, (pc, ln, 30, x, y, ix) :: tl, lo, vb :: va :: st, hp) [(pc + ln, tl, lo, (0, z) :: st, hp)] := xg_bin (F := fun a b => Nat.land a b) (chk := xyes) (al := true) (bo := xmask) rfl ha hb rfl hz
theorem xg_ior (ha : xnm hp.2.1 va = (0, u)) (hb : xnm hp.2.1 vb = (0, v)) (hz : Nat.lor u v = z) : xLd d M (p0, (pc, ln, 38, x, y, ix) :: tl, lo, vb :: va :: st, hp) [(pc + ln, tl, lo, (0, z) :: st, hp)] := xg_bin (F := fun a b => Nat.lor a b) (chk := xyes) (al := true) (bo := xany) rfl ha hb rfl hz
/-- an int of which nothing is known -/
theorem xg_k {Z : Nat} {p1 : Nat} {cs cs1 : List xI} (h : xLd d M (p0, cs, lo, st, hp) [(p1, cs1, l1, (0, Z) :: st1, hp)]) (hZ : Z < 4294967296) (K : ∀ z, z < 4294967296 → xTo d M (p1, cs1, l1, (0, z) :: st1, hp) P) : xTo d M (p0, cs, lo, st, hp) P := xg_t h (K Z hZ)
theorem xg_kl {Z : Nat} {p1 : Nat} {cs cs1 : List xI} (h : xLd d M (p0, cs, lo, st, hp) [(p1, cs1, l1, (4, Z) :: st1, hp)]) (K : ∀ z, xTo d M (p1, cs1, l1, (4, z) :: st1, hp) P) : xTo d M (p0, cs, lo, st, hp) P := xg_t h (K Z)
end XPU
