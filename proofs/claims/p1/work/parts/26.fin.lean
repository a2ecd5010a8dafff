/-! THE CLAIM OUT OF ONE WALK OF THE LAW'S BODY. Your part is whole_start (and what it stands on); all else here is the same for every law, but numbers. -/
def R_law : String := "BentScreensLaw"
def lw_P (b : Addr) (xs : List Int32) (args : Array Value) (s : State) : Prop := args = #[.ref b] ∧ s.IntsAt b xs ∧ xs.length ≤ 7 ∧ (Jvm.Cond.and given_1 narrow_1).before args s = true
def lw_Q (_ : Array Value) (s : State) (o : Outcome) (t : State) : Prop := o = .returned (some (.int 1)) ∧ Framed s o t [] 600000 7302250
def lw_Z (below : List Frame) (a : Array Value) (s : State) : State → Prop := fun t => ∃ o, t.status = .running ∧ Ended t below o ∧ lw_Q a s o t
/-- the law's own end, with 1 on the stack, nothing written that was there before, its room as the claim has it -/
theorem lw_ret {p : Program} {l : Launch} {e : Env} {s : State} {m : MethodId} {below : List Frame} {meth : Method} {c : Code} {b : Nat} (hx : p.tables.exec = Jvm.exec) (hb : c.code = code) (hr : meth.sig.returnType = ret) (hlocks : meth.locks = false) {pc : Nat} {H : Heap} {ls : Array Slot} (hdg : decode code pc = .ok (.ireturn, 1)) : W p l e room_1 s m #[Value.ref b] below meth c H [] 600000 7302250 (lw_Z below #[Value.ref b] s) (F0 m pc ls [.int 1]) := by
  intro T hT X
  obtain ⟨fs, hret, hrun, hended, hW, hframe⟩ := X.leave (v := some (.int 1)) (hlocks := hlocks) (fun h => by rw [hr] at h; cases h)
  have hmeth' : T.vm.method? m = some meth := X.method'
  refine ⟨T.setFrames fs, ?_, .returned (some (.int 1)), hrun, hended, rfl, ⟨_, rfl⟩, hW, hframe⟩
  jvm_step X.here [X.here.top, hx, hb, hdg, hmeth', hr, ret, narrow_b1]
  (try refine ⟨rfl, ?_⟩); (try refine ⟨rfl, ?_⟩)
  first | (intro acts; rw [hret _ acts rfl rfl rfl]) | rw [hret _ _ rfl rfl rfl]
  exact Steps.refl _
/-- what holds at the law's entry: the machine, the code, the tables' words (any of lw_tbl by 'hts w (by decide +kernel)'), the script of L ints xs at the cell b, what the Statement gives of the start (any of its parts by flat_of_before) -/
def lw_At (p : Program) (s : State) (m : MethodId) (meth : Method) (c : Code) (b L : Nat) (xs : Nat → Int32) : Prop :=
  p.tables.exec = Jvm.exec ∧ c.code = code ∧ meth.sig.returnType = ret ∧ c.maxLocals = 4 ∧ s.vm.findClass R_law = some m.cls ∧ (∀ w ∈ lw_tbl, w.before #[Value.ref b] s = true) ∧ va_X b L xs s s.heap ∧ b < s.heap.size ∧ meth.locks = false ∧ (Jvm.Cond.and given_1 narrow_1).before #[Value.ref b] s = true ∧ meth.name = "law"
def xtg : List Nat := [252, 315, 338, 351, 374, 407, 430, 463, 496, 509, 532, 555, 588, 611, 634, 657, 716, 775, 788, 811, 834, 877, 952, 985, 998, 1021, 1054, 1087, 1100, 1153, 1166, 1199, 1232, 1255, 1298, 1331, 1354, 1377, 1400, 1413, 1466, 1479, 1502, 1551, 1574, 1597, 1610, 1623, 1636, 1659, 1682]
section XLW
variable {p : Program} {l : Launch} {e : Env} {s : State} {m : MethodId} {below : List Frame} {meth : Method} {c : Code} {D : va_G} {g : xG} {cw0 : xWc} {tys0 : xTy} {io0 : List Nat} {b : Nat}
theorem xgood_ok {n pc : Nat} {lo : xLo} {hp : xH} (h : xgood (xrun n 1000 mLa (pc, [], lo, [], hp)) = true) (C : xCx p room_1 s m #[Value.ref b] meth c (fun q : Nat => s.heap.size ≤ q) g io0 1000 mLa) (hr : meth.sig.returnType = ret) (hlocks : meth.locks = false) : xOk p l e room_1 s m #[Value.ref b] below meth c D (fun q : Nat => s.heap.size ≤ q) 4 g cw0 tys0 io0 (lw_Z below #[Value.ref b] s) (pc, [], lo, [], hp) := by
  cases hf : xrun n 1000 mLa (pc, [], lo, [], hp) with
  | none => rw [hf] at h; cases h
  | some fs =>
    rw [hf] at h
    have h : fs.all xgoodF = true := h
    refine xrun_ok xmall n 1000 mLa _ fs hf bL_a_ok ⟨trivial, trivial⟩ p l e room_1 s m #[Value.ref b] below meth c D _ g cw0 tys0 io0 _ C (fun φ hφ hpos => ?_)
    obtain ⟨h1, h2⟩ := Bool.and_eq_true_iff.mp (List.all_eq_true.mp h φ hφ)
    obtain ⟨h3, h4⟩ := Bool.and_eq_true_iff.mp h2
    have h1 := of_decide_eq_true h1
    have h3 := xble h3
    have h4 := xble h4
    obtain ⟨pc', i, tl, lo', st, hp', rfl, hop, hcase⟩ := xret_some h1
    have hdec := xret_dec hpos hop
    intro cw tys io H locs ls lv sv hE hK hP hD hS hlv hlo hst hh
    rcases hcase with ⟨z, -⟩ | ⟨-, v, rfl, hcase⟩
    · cases z
    · rcases hcase with ⟨z, -⟩ | ⟨z, -⟩ | ⟨z, -⟩ | ⟨z3, z4, z5, -⟩
      · cases z
      · cases z
      · cases z
      · obtain ⟨wv, sv1, rfl, q1, q2⟩ := xrel_cons hst
        have e1 : sv1 = [] := xrel_nil q2
        subst e1
        have q3 := xnm_ok hh.2.1 q1
        have z5 : [(0, 1)] = [xnm hp'.2.1 v] := z5
        have z6 : xnm hp'.2.1 v = (0, 1) := (List.cons.inj z5).1.symm
        rw [z6] at q3
        obtain ⟨-, rfl⟩ := q3
        rw [z3] at hdec
        refine W.widen (k := 600000) (n := 7302250) h3 h4 ?_
        refine va_forget (fun q hq => hS.2.2 q hq) ?_
        exact lw_ret C.1 C.2.1 hr hlocks hdec
theorem xgoodT_ok {pc : Nat} {lo : xLo} {hp : xH} (h : xTo 1000 mLa (pc, [], lo, [], hp) xFin) (C : xCx p room_1 s m #[Value.ref b] meth c (fun q : Nat => s.heap.size ≤ q) g io0 1000 mLa) (hr : meth.sig.returnType = ret) (hlocks : meth.locks = false) : xOk p l e room_1 s m #[Value.ref b] below meth c D (fun q : Nat => s.heap.size ≤ q) 4 g cw0 tys0 io0 (lw_Z below #[Value.ref b] s) (pc, [], lo, [], hp) := by
  obtain ⟨φ0, hL, h1, h3, h4⟩ := h
  refine hL bL_a_ok ⟨trivial, trivial⟩ p l e room_1 s m #[Value.ref b] below meth c D _ g cw0 tys0 io0 _ C (fun φ hφ hpos => ?_)
  have e0 := List.mem_singleton.mp hφ
  subst e0
  have h3 := xble h3
  have h4 := xble h4
  obtain ⟨pc', i, tl, lo', st, hp', rfl, hop, hcase⟩ := xret_some h1
  have hdec := xret_dec hpos hop
  intro cw tys io H locs ls lv sv hE hK hP hD hS hlv hlo hst hh
  rcases hcase with ⟨z, -⟩ | ⟨-, v, rfl, hcase⟩
  · cases z
  · rcases hcase with ⟨z, -⟩ | ⟨z, -⟩ | ⟨z, -⟩ | ⟨z3, z4, z5, -⟩
    · cases z
    · cases z
    · cases z
    · obtain ⟨wv, sv1, rfl, q1, q2⟩ := xrel_cons hst
      have e1 : sv1 = [] := xrel_nil q2
      subst e1
      have q3 := xnm_ok hh.2.1 q1
      have z5 : [(0, 1)] = [xnm hp'.2.1 v] := z5
      have z6 : xnm hp'.2.1 v = (0, 1) := (List.cons.inj z5).1.symm
      rw [z6] at q3
      obtain ⟨-, rfl⟩ := q3
      rw [z3] at hdec
      refine W.widen (k := 600000) (n := 7302250) h3 h4 ?_
      refine va_forget (fun q hq => hS.2.2 q hq) ?_
      exact lw_ret C.1 C.2.1 hr hlocks hdec
theorem xcase_41 (C : xCx p room_1 s m #[Value.ref b] meth c (fun q : Nat => s.heap.size ≤ q) g io0 1000 mLa) (hr : meth.sig.returnType = ret) (hlocks : meth.locks = false) : xOk p l e room_1 s m #[Value.ref b] below meth c D (fun q : Nat => s.heap.size ≤ q) 4 g cw0 tys0 io0 (lw_Z below #[Value.ref b] s) (1479, [], xlo0 (7, 0), [], xhp1) := by
  refine xok_split 1 2147483648 rfl (by decide) (xgood_ok cs_41_0 C hr hlocks) (xok_split 1 2147483888 rfl (by decide) (xok_each 1 rfl (fun k h1 h2 => ?_)) (xgood_ok cs_41_2 C hr hlocks))
  exact xgoodT_ok (law_at h1 h2) C hr hlocks
theorem xcase_44 (C : xCx p room_1 s m #[Value.ref b] meth c (fun q : Nat => s.heap.size ≤ q) g io0 1000 mLa) (hr : meth.sig.returnType = ret) (hlocks : meth.locks = false) : xOk p l e room_1 s m #[Value.ref b] below meth c D (fun q : Nat => s.heap.size ≤ q) 4 g cw0 tys0 io0 (lw_Z below #[Value.ref b] s) (1574, [], xlo0 (7, 0), [], xhp1) := xok_split 1 2147483648 rfl (by decide) (xgoodT_ok nx_b0 C hr hlocks) (xok_split 1 2147483649 rfl (by decide) (xgoodT_ok nx_b1 C hr hlocks) (xok_split 1 2147483650 rfl (by decide) (xgoodT_ok nx_b2 C hr hlocks) (xok_split 1 2147483651 rfl (by decide) (xgoodT_ok nx_b3 C hr hlocks) (xgoodT_ok nx_b4 C hr hlocks))))
theorem xtg_ok (C : xCx p room_1 s m #[Value.ref b] meth c (fun q : Nat => s.heap.size ≤ q) g io0 1000 mLa) (hr : meth.sig.returnType = ret) (hlocks : meth.locks = false) : ∀ q ∈ xtg, xOk p l e room_1 s m #[Value.ref b] below meth c D (fun q : Nat => s.heap.size ≤ q) 4 g cw0 tys0 io0 (lw_Z below #[Value.ref b] s) (q, [], xlo0 (7, 0), [], xhp1) := by
  unfold xtg
  simp only [List.forall_mem_cons]
  refine ⟨xgood_ok cs_0 C hr hlocks, xgood_ok cs_1 C hr hlocks, xgood_ok cs_2 C hr hlocks, xgood_ok cs_3 C hr hlocks, xgood_ok cs_4 C hr hlocks, xgood_ok cs_5 C hr hlocks, xgood_ok cs_6 C hr hlocks, xgood_ok cs_7 C hr hlocks, xgood_ok cs_8 C hr hlocks, xgood_ok cs_9 C hr hlocks, xgood_ok cs_10 C hr hlocks, xgood_ok cs_11 C hr hlocks, xgood_ok cs_12 C hr hlocks, xgood_ok cs_13 C hr hlocks, xgood_ok cs_14 C hr hlocks, xgood_ok cs_15 C hr hlocks, xgood_ok cs_16 C hr hlocks, xgood_ok cs_17 C hr hlocks, xgood_ok cs_18 C hr hlocks, xok_split 1 2147483648 rfl (by decide) (xgood_ok cs_19_0 C hr hlocks) (xok_split 1 2147483649 rfl (by decide) (xgood_ok cs_19_1 C hr hlocks) (xok_split 1 2147483650 rfl (by decide) (xgood_ok cs_19_2 C hr hlocks) (xok_split 1 2147483651 rfl (by decide) (xgood_ok cs_19_3 C hr hlocks) (xok_split 1 2147483652 rfl (by decide) (xgood_ok cs_19_4 C hr hlocks) (xok_split 1 2147483653 rfl (by decide) (xgood_ok cs_19_5 C hr hlocks) (xgood_ok cs_19_6 C hr hlocks)))))), xgood_ok cs_20 C hr hlocks, xbox_ok (fun hp h => xgood_ok h C hr hlocks) _ _ cs_21, xgood_ok cs_22 C hr hlocks, xgood_ok cs_23 C hr hlocks, xgood_ok cs_24 C hr hlocks, xgood_ok cs_25 C hr hlocks, xgood_ok cs_26 C hr hlocks, xgood_ok cs_27 C hr hlocks, xgood_ok cs_28 C hr hlocks, xgood_ok cs_29 C hr hlocks, xgood_ok cs_30 C hr hlocks, xgood_ok cs_31 C hr hlocks, xgood_ok cs_32 C hr hlocks, xgood_ok cs_33 C hr hlocks, xgood_ok cs_34 C hr hlocks, xgood_ok cs_35 C hr hlocks, xgood_ok cs_36 C hr hlocks, xgood_ok cs_37 C hr hlocks, xgood_ok cs_38 C hr hlocks, xgood_ok cs_39 C hr hlocks, xgood_ok cs_40 C hr hlocks, xcase_41 C hr hlocks, xok_split 1 2147483649 rfl (by decide) (xgood_ok cs_42_0 C hr hlocks) (xok_split 1 2147483650 rfl (by decide) (xok_split 2 2147483648 rfl (by decide) (xgood_ok cs_42_1_0 C hr hlocks) (xok_split 2 2147483649 rfl (by decide) (xgood_ok cs_42_1_1 C hr hlocks) (xgood_ok cs_42_1_2 C hr hlocks))) (xok_split 1 2147483651 rfl (by decide) (xok_split 2 2147483648 rfl (by decide) (xgood_ok cs_42_2_0 C hr hlocks) (xok_split 2 2147483649 rfl (by decide) (xgood_ok cs_42_2_1 C hr hlocks) (xgood_ok cs_42_2_2 C hr hlocks))) (xok_split 1 2147483652 rfl (by decide) (xok_split 2 2147483648 rfl (by decide) (xgood_ok cs_42_3_0 C hr hlocks) (xok_split 2 2147483649 rfl (by decide) (xgood_ok cs_42_3_1 C hr hlocks) (xgood_ok cs_42_3_2 C hr hlocks))) (xok_split 1 2147483653 rfl (by decide) (xok_split 2 2147483648 rfl (by decide) (xgood_ok cs_42_4_0 C hr hlocks) (xok_split 2 2147483649 rfl (by decide) (xgood_ok cs_42_4_1 C hr hlocks) (xgood_ok cs_42_4_2 C hr hlocks))) (xok_split 1 2147483654 rfl (by decide) (xok_split 2 2147483648 rfl (by decide) (xgood_ok cs_42_5_0 C hr hlocks) (xok_split 2 2147483649 rfl (by decide) (xgood_ok cs_42_5_1 C hr hlocks) (xgood_ok cs_42_5_2 C hr hlocks))) (xok_split 1 2147483655 rfl (by decide) (xok_split 2 2147483648 rfl (by decide) (xgood_ok cs_42_6_0 C hr hlocks) (xok_split 2 2147483649 rfl (by decide) (xgood_ok cs_42_6_1 C hr hlocks) (xgood_ok cs_42_6_2 C hr hlocks))) (xok_split 1 2147483656 rfl (by decide) (xok_split 2 2147483648 rfl (by decide) (xgood_ok cs_42_7_0 C hr hlocks) (xok_split 2 2147483649 rfl (by decide) (xgood_ok cs_42_7_1 C hr hlocks) (xgood_ok cs_42_7_2 C hr hlocks))) (xok_split 1 2147483657 rfl (by decide) (xok_split 2 2147483648 rfl (by decide) (xgood_ok cs_42_8_0 C hr hlocks) (xok_split 2 2147483649 rfl (by decide) (xgood_ok cs_42_8_1 C hr hlocks) (xgood_ok cs_42_8_2 C hr hlocks))) (xok_split 1 2147483658 rfl (by decide) (xok_split 2 2147483648 rfl (by decide) (xgood_ok cs_42_9_0 C hr hlocks) (xok_split 2 2147483649 rfl (by decide) (xgood_ok cs_42_9_1 C hr hlocks) (xgood_ok cs_42_9_2 C hr hlocks))) (xgood_ok cs_42_10 C hr hlocks)))))))))), xgood_ok cs_43 C hr hlocks, xcase_44 C hr hlocks, xgood_ok cs_45 C hr hlocks, xgood_ok cs_46 C hr hlocks, xgood_ok cs_47 C hr hlocks, xgood_ok cs_48 C hr hlocks, xbox_ok (fun hp h => xgood_ok h C hr hlocks) _ _ cs_49, xbox_ok (fun hp h => xgood_ok h C hr hlocks) _ _ cs_50, fun _ h => absurd h List.not_mem_nil⟩
end XLW
theorem xts : decode code 33 = .ok (.tableswitch 1672 0 50 #[219, 282, 305, 318, 341, 374, 397, 430, 463, 476, 499, 522, 555, 578, 601, 624, 683, 742, 755, 778, 801, 844, 919, 952, 965, 988, 1021, 1054, 1067, 1120, 1133, 1166, 1199, 1222, 1265, 1298, 1321, 1344, 1367, 1380, 1433, 1446, 1469, 1518, 1541, 1564, 1577, 1590, 1603, 1626, 1649], 219) := by decide +kernel
def xofs : Array Int := #[219, 282, 305, 318, 341, 374, 397, 430, 463, 476, 499, 522, 555, 578, 601, 624, 683, 742, 755, 778, 801, 844, 919, 952, 965, 988, 1021, 1054, 1067, 1120, 1133, 1166, 1199, 1222, 1265, 1298, 1321, 1344, 1367, 1380, 1433, 1446, 1469, 1518, 1541, 1564, 1577, 1590, 1603, 1626, 1649]
theorem xts_in : ∀ u, u ≤ 50 → ∃ (off : Int) (t : Nat), xofs[u]? = some off ∧ xtg[u]? = some t ∧ (33 : Int) + off = (t : Int) := by
  intro u hu
  have key : ∀ u, u ≤ 50 → (match xofs[u]?, (xtg[u]? : Option Nat) with
    | some o, some t => decide ((33 : Int) + o = Int.ofNat t)
    | _, _ => false) = true := by decide +kernel
  have k := key u hu
  cases h1 : xofs[u]? with
  | none => rw [h1] at k; cases k
  | some o =>
    cases h2 : xtg[u]? with
    | none => rw [h1, h2] at k; cases k
    | some t =>
      rw [h1, h2] at k
      exact ⟨o, t, rfl, rfl, of_decide_eq_true k⟩
set_option maxHeartbeats 4000000 in
/-- THE LAW, from its entry -/
theorem whole_start {p : Program} {e : Env} {s : State} {m : MethodId} {below : List Frame} {meth : Method} {c : Code} (l : Launch) {b L : Nat} {xs : Nat → Int32} (hL : L ≤ 7) (C0 : lw_At p s m meth c b L xs) : W p l e room_1 s m #[Value.ref b] below meth c s.heap [] 0 0 (lw_Z below #[Value.ref b] s) (entryFrame m ([Value.ref b] : List Value).toArray 4) := by
  obtain ⟨hx, hb, hr, hml, hown, hts, hX, hbl, hlocks, hgv, hnm⟩ := id C0
  have hA : ∀ q : Nat, s.heap.size ≤ q → (fun q : Nat => s.heap.size ≤ q) q := fun _ h => h
  have hAn : ∀ a : Nat, a < s.heap.size → ¬ (fun q : Nat => s.heap.size ≤ q) a := fun _ h => Nat.not_le.mpr h
  have hbA := hAn b hbl
  obtain ⟨st, hst99, hst⟩ := xstat_at (A := fun q : Nat => s.heap.size ≤ q) hgv hts hAn b
  obtain ⟨D, hK⟩ := xknown hts
  obtain ⟨htg, hnw⟩ := xhts hts
  have hP : va_P D vwCl ([] : va_W) s.heap := fun k q h => by simp at h
  have hD : va_D (fun q : Nat => s.heap.size ≤ q) ([] : va_W) := ⟨fun i j p q h => by simp at h, fun k q h => by simp at h⟩
  have hl := lv_entry ([.ref b]) (n := 4) (Nat.le_of_ble_eq_true rfl)
  rw [lg_entry_eq]
  generalize (lg_sl ([.ref b]) ++ List.replicate (4 - (lg_sl ([.ref b])).length) Slot.unset).toArray = ls at hl ⊢
  have hl : lv_has ls 4 [(0, .ref b)] := hl
  obtain ⟨u0, l0, e0⟩ := xnI_of (xs 0)
  obtain ⟨u1, l1, e1⟩ := xnI_of (xs 1)
  obtain ⟨u2, l2, e2⟩ := xnI_of (xs 2)
  obtain ⟨u3, l3, e3⟩ := xnI_of (xs 3)
  obtain ⟨u4, l4, e4⟩ := xnI_of (xs 4)
  obtain ⟨u5, l5, e5⟩ := xnI_of (xs 5)
  obtain ⟨u6, l6, e6⟩ := xnI_of (xs 6)
  have hbd : xRb xbd0 [u0, u1, u2, u3, u4, u5, u6] := by
    have k : ∀ u, (0, 4294967295).1 ≤ xbs u ∧ xbs u ≤ (0, 4294967295).2 := fun u => ⟨Nat.zero_le _, by have := xbs_lt u; show _ ≤ 4294967295; omega⟩
    exact ⟨⟨l0, k _⟩, ⟨l1, k _⟩, ⟨l2, k _⟩, ⟨l3, k _⟩, ⟨l4, k _⟩, ⟨l5, k _⟩, ⟨l6, k _⟩, trivial⟩
  have hrm : 1000 ≤ room_1.frames ∧ 84 * 1000 ≤ room_1.locals ∧ 600000 ≤ room_1.cells ∧ 7302250 ≤ room_1.slots := by decide
  by_cases h7 : L = 7
  · subst h7
    have hsc : xScr (true, b, st) (fun q : Nat => s.heap.size ≤ q) s [u0, u1, u2, u3, u4, u5, u6] := by
      refine ⟨xs, hX, hbl, hbA, fun j hj => ?_⟩
      rcases (show j = 0 ∨ j = 1 ∨ j = 2 ∨ j = 3 ∨ j = 4 ∨ j = 5 ∨ j = 6 by omega) with rfl | rfl | rfl | rfl | rfl | rfl | rfl
      · exact ⟨u0, rfl, e0⟩
      · exact ⟨u1, rfl, e1⟩
      · exact ⟨u2, rfl, e2⟩
      · exact ⟨u3, rfl, e3⟩
      · exact ⟨u4, rfl, e4⟩
      · exact ⟨u5, rfl, e5⟩
      · exact ⟨u6, rfl, e6⟩
    have Cp : xCx p room_1 s m #[Value.ref b] meth c (fun q : Nat => s.heap.size ≤ q) (true, b, st) [u0, u1, u2, u3, u4, u5, u6] 1000 mLp := ⟨hx, hb, hml, hown, htg, hA, hrm, hnm, hst true, fun _ => hsc, hnw⟩
    have Ca : xCx p room_1 s m #[Value.ref b] meth c (fun q : Nat => s.heap.size ≤ q) (true, b, st) [u0, u1, u2, u3, u4, u5, u6] 1000 mLa := ⟨hx, hb, hml, hown, htg, hA, hrm, hnm, hst true, fun _ => hsc, hnw⟩
    have K2 : xOk p l e room_1 s m #[Value.ref b] below meth c D (fun q : Nat => s.heap.size ≤ q) 4 (true, b, st) [] [] [u0, u1, u2, u3, u4, u5, u6] (lw_Z below #[Value.ref b] s) (33, [], xlo0 (7, 0), [(1, 7)], xhp1) := by
      intro cw tys io H locs ls lv sv hE hK hP hD hS hlv hlo hst hh
      obtain ⟨wv, sv1, rfl, q1, q2⟩ := xrel_cons hst
      have e9 : sv1 = [] := xrel_nil q2
      subst e9
      obtain ⟨u, hu, rfl⟩ := q1
      obtain ⟨q, h4, h5, h6, h7⟩ := hh.2.1.get hu
      have h4 : some (2147483648, 2147483711) = some q := h4
      cases h4
      have hu63 : u ≤ 63 := by
        have e8 : xbs u = (u + 2147483648) % 4294967296 := rfl
        have h6 : 2147483648 ≤ xbs u := h6
        have h7 : xbs u ≤ 2147483711 := h7
        omega
      have hti : (nI u).toInt = (u : Int) := nI_toInt (by omega)
      by_cases hu50 : u ≤ 50
      · obtain ⟨off, t, k1, k2, k3⟩ := xts_in u hu50
        have k := xtg_ok (l := l) (e := e) (below := below) (D := D) (cw0 := []) (tys0 := []) Ca hr hlocks t (List.mem_of_getElem? k2) cw tys io H locs ls lv [] hE hK hP hD hS hlv hlo trivial hh
        refine lv_tableIn hx hb xts (off := off) (by rw [hti]; omega) (by rw [hti]; omega) ?_ k3 k
        rw [hti, show ((u : Int) - 0).toNat = u by omega]
        exact k1
      · have k := xgood_ok (l := l) (e := e) (below := below) (D := D) (cw0 := []) (tys0 := []) cs_d Ca hr hlocks cw tys io H locs ls lv [] hE hK hP hD hS hlv hlo trivial hh
        exact lv_tableOut hx hb xts (by rw [hti]; omega) (by decide) k
    have K1 := xrun_ok xmall 100 1000 mLa _ _ xrunS bL_a_ok ⟨trivial, trivial⟩ p l e room_1 s m #[Value.ref b] below meth c D _ (true, b, st) [] [] _ (lw_Z below #[Value.ref b] s) Ca (fun φ hφ _ => by rw [List.mem_singleton.mp hφ]; exact K2)
    have K0 := xrun_ok xmall 2000 1000 mLp _ _ xrunP7 bL_p_ok ⟨trivial, trivial⟩ p l e room_1 s m #[Value.ref b] below meth c D _ (true, b, st) [] [] _ (lw_Z below #[Value.ref b] s) Cp (fun φ hφ _ => by rw [List.mem_singleton.mp hφ]; exact K1)
    exact K0 [] [] [u0, u1, u2, u3, u4, u5, u6] s.heap [] ls [(0, .ref b)] [] xExt.rf hK hP hD va_S.rf hl ⟨⟨rfl, rfl, rfl⟩, trivial⟩ trivial ⟨trivial, hbd, fun _ h => absurd h List.not_mem_nil, rfl⟩
  · have Cp : xCx p room_1 s m #[Value.ref b] meth c (fun q : Nat => s.heap.size ≤ q) (false, b, st) [u0, u1, u2, u3, u4, u5, u6] 1000 mLp := ⟨hx, hb, hml, hown, htg, hA, hrm, hnm, hst false, fun h => (by cases h), hnw⟩
    have K1 : xOk p l e room_1 s m #[Value.ref b] below meth c D (fun q : Nat => s.heap.size ≤ q) 4 (false, b, st) [] [] [u0, u1, u2, u3, u4, u5, u6] (lw_Z below #[Value.ref b] s) (18, [], xlo0 (8, 99), [], xhp0) := by
      intro cw tys io H locs ls lv sv hE hK hP hD hS hlv hlo hst hh
      have e9 : sv = [] := xrel_nil hst
      subst e9
      obtain ⟨n3, w3, k3, r3⟩ := xlo_find (k := 3) (v := (0, 0)) hlo rfl
      obtain ⟨n0, w0, k0, r0⟩ := xlo_find (k := 0) (v := (8, 99)) hlo rfl
      obtain ⟨-, rfl⟩ := r3
      have r0 : w0 = .ref (st 99) := r0
      rw [hst99] at r0
      subst r0
      refine lv_iload_n (k := 3) hx hb (show decode code 18 = .ok (.iload_n 3, 1) by decide +kernel) rfl (lv_at hlv n3 k3) ?_
      refine lv_aload_n (k := 0) hx hb (show decode code 19 = .ok (.aload_n 0, 1) by decide +kernel) rfl (lv_at hlv n0 k0) ?_
      refine va_slen hx hb hX hbl hbA hS (show decode code 20 = .ok (.arraylength, 1) by decide +kernel) ?_
      refine lv_bipush (v := 7) hx hb (show decode code 21 = .ok (.bipush 7, 2) by decide +kernel) (by decide) ?_
      refine lv_isub hx hb (show decode code 23 = .ok (.isub, 1) by decide +kernel) ?_
      refine lv_icmp_gt (tgt := 1711) hx hb (show decode code 24 = .ok (.if_icmp .gt 1687, 3) by decide +kernel) (by decide) (fun _ => ?_) (fun z => ?_)
      · refine lv_iconst (v := 1) hx hb (show decode code 1711 = .ok (.iconst 1, 1) by decide +kernel) (by decide) ?_
        refine W.widen (k := 600000) (n := 7302250) (by decide) (by decide) ?_
        refine va_forget (fun q hq => hS.2.2 q hq) ?_
        exact lw_ret hx hb hr hlocks (show decode code 1712 = .ok (.ireturn, 1) by decide +kernel)
      · exfalso
        apply z
        have hs := pk_sneg (a := L) (b := 7) (by decide) (by omega)
        exact hs
    have K0 := xrun_ok xmall 2000 1000 mLp _ _ xrunP8 bL_p_ok ⟨trivial, trivial⟩ p l e room_1 s m #[Value.ref b] below meth c D _ (false, b, st) [] [] _ (lw_Z below #[Value.ref b] s) Cp (fun φ hφ _ => by rw [List.mem_singleton.mp hφ]; exact K1)
    exact K0 [] [] [u0, u1, u2, u3, u4, u5, u6] s.heap [] ls [(0, .ref b)] [] xExt.rf hK hP hD va_S.rf hl ⟨⟨rfl, by show Value.ref b = .ref (st 99); rw [hst99]⟩, trivial⟩ trivial ⟨trivial, hbd, fun _ h => absurd h List.not_mem_nil, rfl⟩
set_option maxHeartbeats 4000000 in
theorem lw_walk (l : Launch) (b : Addr) (xs : List Int32) : MetFree l x (headSpec (Jvm.Cond.code x code maxLocals ret :: tables_1) room_1) (lw_P b xs) (fun _ _ _ _ _ => True) lw_Q := by
  refine MetFree.of_bodyS (code := code) (maxLocals := maxLocals) (ret := ret) (by decide) ?_ ?_
  · intro args s m h hn
    obtain ⟨meth, c, h1, h2, h3, h4, h5, h6, -, -⟩ := Cond.code_spec hn (atoms_spec (ws := Jvm.Cond.code x code maxLocals ret :: tables_1) h _ List.mem_cons_self)
    exact ⟨meth, c, h1, h2, h3, h4, h5, h6⟩
  · intro p e s m args below meth c s₁ B hml0 hP _
    obtain ⟨rfl, hx, hbd, hgv⟩ := hP
    obtain ⟨scr, harrAt, hlist, hof, hsmall⟩ := hx
    obtain ⟨hcb, hkn, -, -⟩ := State.arrayAt?_spec harrAt
    have hown : s.vm.findClass R_law = some m.cls := findClass_of_methodNamed B.named
    have hts0 : ∀ c ∈ (Jvm.Cond.code x code maxLocals ret :: tables_1), c.before #[Value.ref b] s = true := atoms_spec (ws := Jvm.Cond.code x code maxLocals ret :: tables_1) B.pre
    have hts : ∀ w ∈ lw_tbl, w.before #[Value.ref b] s = true := k2_hts_sels lw_privs (fun w hw => hts0 w (List.mem_cons_of_mem _ hw)) lw_privs_ok
    have hml : c.maxLocals = 4 := B.maxLocals_eq (hts0 _ List.mem_cons_self)
    have X₀ : Stand p l e room_1 s m #[Value.ref b] below meth c s₁ [] 0 0 := Stand.of_body B
    have hh0 : s₁.heap = s.heap := by rw [B.state]; rfl
    have hsz : scr.slots.size = xs.length := by rw [← Array.length_toList, hlist, List.length_map]
    have hval : ∀ j : Nat, j < xs.length → scr.slots[j]? = some (.int (xs.getD j 0)) := fun j hj => by
      rw [← Array.getElem?_toList, hlist]
      simp [hj]
    have hbl : b < s.heap.size := (Array.getElem?_eq_some_iff.mp hcb).1
    have hX : va_X b xs.length (fun j => xs.getD j 0) s s.heap := ⟨scr, hcb, hof, hkn, hsz, hval⟩
    have K : W p l e room_1 s m #[Value.ref b] below meth c s₁.heap [] 0 0 (lw_Z below #[Value.ref b] s) (entryFrame m ([Value.ref b] : List Value).toArray 4) := by
      rw [hh0]
      exact whole_start l hbd ⟨B.exec, B.bytes, B.returns, hml, hown, hts, hX, hbl, B.notSynchronized, hgv, (name_of_methodNamed B.named B.method).1⟩
    obtain ⟨t, a1, o, b1, b2, b3⟩ := K s₁ rfl X₀
    exact ⟨t, o, a1, b1, b2, b3⟩
theorem lw_pre_spec {args : Array Value} {s : State} (h : (Jvm.Cond.and given_1 narrow_1).before args s = true) (hr : rest_1_c.before args s = true) : ∃ (b : Addr) (xs : List Int32), lw_P b xs args s := by
  have hs := flat_of_before _ h
  have hq := flat_of_before _ hr
  have hc : (Cond.count 1).before args s = true := hs _ (by decide +kernel)
  have harr : (Cond.arrayOf (.arg 0) .int).before args s = true := hs _ (by decide +kernel)
  have hle : (Cond.le (.length (.arg 0)) (.int 7)).before args s = true := hs _ (by decide +kernel)
  have hlen : (Cond.isInt (.length (.arg 0))).before args s = true := hq _ (by decide +kernel)
  have hall : (Cond.all (.arg 0) (.isInt (.elem (.arg 0) (.index 0)))).before args s = true := hq _ (by decide +kernel)
  obtain ⟨b, xs, hb, hx⟩ := State.ints_of_pre rfl harr hlen hall
  have hsm : xs.length < 2 ^ 31 := hx.choose_spec.2.2.2
  have hev : (Term.length (.arg 0)).eval args s none [] s = some (.int xs.length.toInt32) := hx.length_eval hb
  have hv := Cond.le_ints hev (show (Term.int 7).eval args s none [] s = some (.int 7) from rfl)
  have hd : xs.length.toInt32 ≤ 7 := by
    simpa [Cond.before, Cond.holds, hv] using hle
  have hN : xs.length ≤ 7 := (Int32.ofNat_le_ofNat hsm (by decide)).mp (show Int32.ofNat xs.length ≤ Int32.ofNat 7 from hd)
  exact ⟨b, xs, Cond.one_arg hc (show args[0]? = some (.ref b) from hb), hx, hN, h⟩
theorem lw_comes (l : Launch) : Comes l x (Jvm.Cond.code x code maxLocals ret :: tables_1) room_1 (fun tb e args s => Calls_1 tb e args s ∧ rest_1 tb e args s ∧ Pre_1 tb e args s)
    (fun _ _ args s o t => lw_Q args s o t) := by
  intro p e ha hc hk s m args below hf hfit hheap happ hpre
  obtain ⟨b, xs, hP⟩ := lw_pre_spec hpre.2.2 hpre.2.1
  obtain ⟨k, o, h1, h2, h3, hQ⟩ := lw_walk l b xs p e ha hc hk s m args below hf ((Spec.applies_iff_loose hf).mp happ).1 hP trivial
  exact ⟨k, o, h1, h2, h3, hQ⟩
theorem lw_frame {s t : State} {o : Outcome} {args : Array Value} (h : Framed s o t [] 600000 7302250) :
    Framed s o t (fieldLocs frame_1_writes args s ++ arrayLocs frame_1_arrays args s ++ staticLocs frame_1_statics s) 600000 7302250 := h
theorem lw_limb (L : Cond) (hL : ∀ (args : Array Value) (s t : State), L.after args s (.returned (some (.int 1))) t = true) :
    ArmFor flags0 classFile x code maxLocals ret World_1 tables_1 room_1 Calls_1 rest_1 Pre_1
      (fun tb e a s o t => postC L tb e a s o t ∧ Framed s o t (fieldLocs frame_1_writes a s ++ arrayLocs frame_1_arrays a s ++ staticLocs frame_1_statics s) 600000 7302250) := by
  intro l _ _ _ p e ha hc hk s m args below hf hfit hheap happ hpre
  obtain ⟨k, o, h1, h2, h3, rfl, hF⟩ := lw_comes l p e ha hc hk s m args below hf hfit hheap happ hpre
  exact ⟨k, _, h1, h2, h3, hL args s _, lw_frame hF⟩
theorem i_vc : Claimed_1_1 ∧ Claimed_1_2 := ⟨lw_limb limb_1_1 (fun args s t => by simp [limb_1_1, Cond.after, Cond.holds, Cond.value]), lw_limb limb_1_2 (fun args s t => Cond.after_iff.mpr (by
  first | (rw [show limb_1_2 = Cond.eq .result (.int 1) from rfl, Cond.eq_ints (x := 1) (y := 1) rfl rfl]; simp; done) | (simp [limb_1_2, Cond.value, Term.eval]; done)))⟩
