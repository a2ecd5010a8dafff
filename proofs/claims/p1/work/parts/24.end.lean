/-! the static rows at the law's start; what a good run gives; boxes -/
theorem xarr_at {args : Array Value} {s : State} {A : Nat → Prop} {C n : String} {L : List Nat} (hN : L.length < 2 ^ 31) (harr : (Cond.arrayOf (.static C n "[I") .int).before args s = true) (hlen : (Cond.eq (.length (.static C n "[I")) (.int (Int32.ofNat L.length))).before args s = true) (hel : ∀ j : Nat, j < L.length → (Cond.eq (.elem (.static C n "[I") (.int (Int32.ofNat j))) (.int (nI (L.getD j 0)))).before args s = true) (hl : (Cond.laysStatic C n "[I").before args s = true) (hini : (Cond.initialized C).before args s = true) (hA : ∀ a : Nat, a < s.heap.size → ¬ A a) : ∃ t : Nat, va_Z C n "[I" (.ref t) A s s.heap ∧ va_T .int t L.length (fun j => .int (nI (L.getD j 0))) A s s.heap := by
  obtain ⟨t, h1, h2⟩ := va_Tof (A := A) (f := fun j => .int (nI (L.getD j 0))) hN harr (va_eqt hlen) (fun j hj => va_eqt (hel j hj)) hA
  exact ⟨t, va_Zref hl hini h1 hA, h2⟩
def xstw (q : String × String × List Nat) : List Cond := [Cond.arrayOf (.static q.1 q.2.1 "[I") .int, Cond.eq (.length (.static q.1 q.2.1 "[I")) (.int (Int32.ofNat q.2.2.length))] ++ (List.range q.2.2.length).map (fun j => Cond.eq (.elem (.static q.1 q.2.1 "[I") (.int (Int32.ofNat j))) (.int (nI (q.2.2.getD j 0))))
theorem xstw_in : ∀ q ∈ xst, ∀ w ∈ xstw q, w ∈ flatC (Jvm.Cond.and given_1 narrow_1) := by decide +kernel
theorem xstw_t : ∀ q ∈ xst, Cond.laysStatic q.1 q.2.1 "[I" ∈ lw_tbl ∧ Cond.initialized q.1 ∈ lw_tbl ∧ q.2.2.length < 2 ^ 31 := by decide +kernel
theorem xstat_at {args : Array Value} {s : State} {A : Nat → Prop} (hgv : (Jvm.Cond.and given_1 narrow_1).before args s = true) (hts : ∀ w ∈ lw_tbl, w.before args s = true) (hA : ∀ a : Nat, a < s.heap.size → ¬ A a) (b : Nat) : ∃ st : Nat → Nat, st 99 = b ∧ ∀ sc, xStat (sc, b, st) A s s.heap := by
  have hs := flat_of_before _ hgv
  have key : ∀ i : Nat, ∃ t : Nat, ∀ q, xget xst i = some q → va_Z q.1 q.2.1 "[I" (.ref t) A s s.heap ∧ va_T .int t q.2.2.length (fun j => .int (nI (q.2.2.getD j 0))) A s s.heap := by
    intro i
    cases h : xget xst i with
    | none => exact ⟨0, fun q hq => by cases hq⟩
    | some q =>
      have hm : q ∈ xst := by rw [xget_eq] at h; exact List.mem_of_getElem? h
      have hw := xstw_in q hm
      obtain ⟨t1, t2, t3⟩ := xstw_t q hm
      obtain ⟨t, h1, h2⟩ := xarr_at (A := A) t3 (hs _ (hw _ (List.mem_append_left _ List.mem_cons_self))) (hs _ (hw _ (List.mem_append_left _ (List.mem_cons_of_mem _ List.mem_cons_self)))) (fun j hj => hs _ (hw _ (List.mem_append_right _ (List.mem_map.mpr ⟨j, List.mem_range.mpr hj, rfl⟩)))) (hts _ t1) (hts _ t2) hA
      exact ⟨t, fun q' hq => by cases hq; exact ⟨h1, h2⟩⟩
  refine ⟨fun i => if i = 99 then b else Classical.choose (key i), if_pos rfl, fun sc i q hq => ?_⟩
  have hi : i ≠ 99 := fun z => by rw [z] at hq; cases hq
  show va_Z q.1 q.2.1 "[I" (.ref (if i = 99 then b else Classical.choose (key i))) A s s.heap ∧ va_T .int (if i = 99 then b else Classical.choose (key i)) _ _ A s s.heap
  rw [if_neg hi]
  exact Classical.choose_spec (key i) q hq
theorem xinst_all : ∀ q ∈ vwCl, Cond.instantiable q.1 q.2.2 ∈ lw_tbl := by decide +kernel
theorem xknown {args : Array Value} {s : State} (hts : ∀ w ∈ lw_tbl, w.before args s = true) : ∃ D : va_G, va_K D vwCl [] s := by
  have key : ∀ k : Nat, ∃ (cC : ClassId) (iS : Nat → Nat), ∀ q : vw_C, vwCl[k]? = some q → u_Kn s q.1 q.2.1 q.2.2 cC iS := by
    intro k
    cases h : vwCl[k]? with
    | none => exact ⟨0, fun _ => 0, fun q hq => by cases hq⟩
    | some q =>
      obtain ⟨cC, iS, h1⟩ := u_known (C := q.1) (T := q.2.1) (N := q.2.2) (n := q.2.2) hts (fun w hw => (List.mem_filter.mp (xcls_in h w hw)).1) (hts _ (xinst_all q (List.mem_of_getElem? h)))
      exact ⟨cC, iS, fun q' hq => by cases hq; exact h1⟩
  refine ⟨(fun k => Classical.choose (key k), fun k => Classical.choose (Classical.choose_spec (key k))), fun c q hq => Classical.choose_spec (Classical.choose_spec (key c)) q hq, fun k q h => by simp at h⟩
theorem xhts {args : Array Value} {s : State} (hts : ∀ w ∈ lw_tbl, w.before args s = true) : (∀ w ∈ lw_gt, w.before args s = true) ∧ xNw s := ⟨fun w h => hts w (List.mem_filter.mp h).1, fun own ix y host h => va_Nw.of rfl (hts _ h), va_AO.of (hts _ (List.mem_of_getElem? (i := 325) (by decide +kernel)))⟩
section XSP
variable {p : Program} {l : Launch} {e : Env} {R : Room} {s : State} {m : MethodId} {args : Array Value} {below : List Frame} {meth : Method} {c : Code} {D : va_G} {A : Nat → Prop} {nL : Nat} {g : xG} {cw0 : xWc} {tys0 : xTy} {io0 : List Nat} {Q : State → Prop}
/-- two boxes make one -/
theorem xok_split {pc : Nat} {cs : List xI} {lo : xLo} {st : List xV} {w : List (List xE)} {bd : List (Nat × Nat)} {r : List (Nat × Nat × Bool) × Nat × Nat × Nat × Nat} {q : Nat × Nat} (n k : Nat) (hq : xget bd n = some q) (hk : 0 < k) (h1 : xOk p l e R s m args below meth c D A nL g cw0 tys0 io0 Q (pc, cs, lo, st, (w, xset (q.1, k - 1) bd n, r))) (h2 : xOk p l e R s m args below meth c D A nL g cw0 tys0 io0 Q (pc, cs, lo, st, (w, xset (k, q.2) bd n, r))) : xOk p l e R s m args below meth c D A nL g cw0 tys0 io0 Q (pc, cs, lo, st, (w, bd, r)) := by
  intro cw tys io H locs ls lv sv hE hK hP hD hS hlv hlo hst hh
  obtain ⟨u, hu, hlt, hb1, hb2⟩ := xrel_get hh.2.1 hq
  rcases Nat.lt_or_ge (xbs u) k with hc | hc
  · exact h1 cw tys io H locs ls lv sv hE hK hP hD hS hlv hlo hst ⟨hh.1, hh.2.1.set hu hb1 (by omega), hh.2.2⟩
  · exact h2 cw tys io H locs ls lv sv hE hK hP hD hS hlv hlo hst ⟨hh.1, hh.2.1.set hu hc hb2, hh.2.2⟩
theorem xbox_ok {pc : Nat} {lo : xLo} {f : xH → Bool} (hf : ∀ hp, f hp = true → xOk p l e R s m args below meth c D A nL g cw0 tys0 io0 Q (pc, [], lo, [], hp)) : ∀ (ks : List (Nat × Nat)) (hp : xH), xbox f ks hp = true → xOk p l e R s m args below meth c D A nL g cw0 tys0 io0 Q (pc, [], lo, [], hp)
  | [], hp, h => hf hp h
  | k :: ks, hp, h => by
    have h' : Option.rec (motive := fun _ => Bool) (f hp) (fun q => cond (Nat.blt q.1 k.2 && Nat.ble k.2 q.2) (xbox f ks (hp.1, xset (q.1, k.2 - 1) hp.2.1 k.1, hp.2.2) && xbox f ks (hp.1, xset (k.2, q.2) hp.2.1 k.1, hp.2.2)) (xbox f ks hp)) (xget hp.2.1 k.1) = true := h
    cases hq : xget hp.2.1 k.1 with
    | none =>
      rw [hq] at h'
      exact hf hp h'
    | some q =>
      rw [hq] at h'
      have h' : cond (Nat.blt q.1 k.2 && Nat.ble k.2 q.2) (xbox f ks (hp.1, xset (q.1, k.2 - 1) hp.2.1 k.1, hp.2.2) && xbox f ks (hp.1, xset (k.2, q.2) hp.2.1 k.1, hp.2.2)) (xbox f ks hp) = true := h'
      cases hc : (Nat.blt q.1 k.2 && Nat.ble k.2 q.2) with
      | false =>
        rw [hc] at h'
        exact xbox_ok hf ks hp h'
      | true =>
        rw [hc] at h'
        obtain ⟨h1, h2⟩ := Bool.and_eq_true_iff.mp h'
        have hk := xblt (Bool.and_eq_true_iff.mp hc).1
        exact xok_split (w := hp.1) (bd := hp.2.1) (r := hp.2.2) k.1 k.2 hq (by omega) (xbox_ok hf ks _ h1) (xbox_ok hf ks _ h2)
end XSP
