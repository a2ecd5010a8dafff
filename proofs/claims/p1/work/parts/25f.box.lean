/-! law and next: the boxes -/
theorem cs_41_0 : xgood (xrun 100000 1000 mLa (1479, [], xlo0 (7, 0), [], (xW0, [(0, 4294967295), (0, 2147483647), (0, 4294967295), (0, 4294967295), (0, 4294967295), (0, 4294967295), (0, 4294967295), (2147483648, 2147483711)], [], 114, 46853, 81, 114))) = true := by decide +kernel
theorem cs_41_2 : xgood (xrun 100000 1000 mLa (1479, [], xlo0 (7, 0), [], (xW0, [(0, 4294967295), (2147483888, 4294967295), (0, 4294967295), (0, 4294967295), (0, 4294967295), (0, 4294967295), (0, 4294967295), (2147483648, 2147483711)], [], 114, 46853, 81, 114))) = true := by decide +kernel
theorem xnm_at {bd : List (Nat × Nat)} {q u : Nat} (h : xget bd 1 = some (q, q)) (hz : (q + 2147483648) % 4294967296 = u) : xnm bd (1, 1) = (0, u) := by
  show Option.rec (motive := fun _ => xV) (1, 1) (fun q => cond (Nat.beq q.1 q.2) (0, (q.1 + 2147483648) % 4294967296) (1, 1)) (xget bd 1) = _
  rw [h]
  show cond (Nat.beq q q) (0, (q + 2147483648) % 4294967296) (1, 1) = _
  rw [Nat.beq_refl, cond_true, hz]
section XSQ
variable {p : Program} {l : Launch} {e : Env} {R : Room} {s : State} {m : MethodId} {args : Array Value} {below : List Frame} {meth : Method} {c : Code} {D : va_G} {A : Nat → Prop} {nL : Nat} {g : xG} {cw0 : xWc} {tys0 : xTy} {io0 : List Nat} {Q : State → Prop}
/-- a box, number by number -/
theorem xok_each {pc : Nat} {cs : List xI} {lo : xLo} {st : List xV} {w : List (List xE)} {bd : List (Nat × Nat)} {r : List (Nat × Nat × Bool) × Nat × Nat × Nat × Nat} {q : Nat × Nat} (n : Nat) (hq : xget bd n = some q) (h : ∀ k, q.1 ≤ k → k ≤ q.2 → xOk p l e R s m args below meth c D A nL g cw0 tys0 io0 Q (pc, cs, lo, st, (w, xset (k, k) bd n, r))) : xOk p l e R s m args below meth c D A nL g cw0 tys0 io0 Q (pc, cs, lo, st, (w, bd, r)) := by
  intro cw tys io H locs ls lv sv hE hK hP hD hS hlv hlo hst hh
  obtain ⟨u, hu, hlt, hb1, hb2⟩ := xrel_get hh.2.1 hq
  exact h (xbs u) hb1 hb2 cw tys io H locs ls lv sv hE hK hP hD hS hlv hlo hst ⟨hh.1, hh.2.1.set hu (Nat.le_refl _) (Nat.le_refl _), hh.2.2⟩
end XSQ
theorem xb_eq : xbest 241 135 = xbest 1000 135 := xbest_eq 134
theorem xnv_0 : xnv 40 = (xbest 1000 135).2.1 := by
  unfold xnv
  rw [if_pos rfl, xb_eq]
theorem xnv_1 : xnv 48 = (xbest 1000 135).2.2 := by
  unfold xnv
  rw [if_neg (by decide), if_pos rfl, xb_eq]
theorem xnv_2 : xnv 56 = (xbest 1000 135).1 := by
  unfold xnv
  rw [if_neg (by decide), if_neg (by decide), if_pos rfl, xb_eq]
theorem xnv_3 : xnv 64 = 4294967295 := by
  unfold xnv
  rw [if_neg (by decide), if_neg (by decide), if_neg (by decide)]
theorem law_at {k : Nat} (h1 : 2147483648 ≤ k) (h2 : k ≤ 2147483887) : xTo 1000 mLa (1479, [], xlo0 (7, 0), [], (xW0, [(0, 4294967295), (k, k), (0, 4294967295), (0, 4294967295), (0, 4294967295), (0, 4294967295), (0, 4294967295), (2147483648, 2147483711)], [], 114, 46853, 81, 114)) xFin := main_law (u := k - 2147483648) (xnm_at (q := k) rfl (by omega)) (by omega)
theorem nx_b0 : xTo 1000 mLa (1574, [], xlo0 (7, 0), [], (xW0, [(0, 4294967295), (0, 2147483647), (0, 4294967295), (0, 4294967295), (0, 4294967295), (0, 4294967295), (0, 4294967295), (2147483648, 2147483711)], [], 114, 46853, 81, 114)) xFin := main_next 64 4294967295 (o0 := 0) (o1 := 0) (o2 := 0) (by decide +kernel) (by decide +kernel) (by decide +kernel) (Or.inr (Or.inr (Or.inr ⟨rfl, rfl, rfl, rfl⟩))) (fun w rr _ => next12_f (d := 997) (Or.inl (by decide +kernel))) xnv_3
theorem nx_b1 : xTo 1000 mLa (1574, [], xlo0 (7, 0), [], (xW0, [(0, 4294967295), (2147483648, 2147483648), (0, 4294967295), (0, 4294967295), (0, 4294967295), (0, 4294967295), (0, 4294967295), (2147483648, 2147483711)], [], 114, 46853, 81, 114)) xFin := main_next 40 (xbest 1000 135).2.1 (o0 := 1) (o1 := 0) (o2 := 0) (by decide +kernel) (by decide +kernel) (by decide +kernel) (Or.inl ⟨rfl, rfl⟩) (fun w rr hm => next12_t (d := 997) (u := 0) (by decide +kernel) (by decide) hm (Or.inl ⟨rfl, rfl⟩)) xnv_0
theorem nx_b2 : xTo 1000 mLa (1574, [], xlo0 (7, 0), [], (xW0, [(0, 4294967295), (2147483649, 2147483649), (0, 4294967295), (0, 4294967295), (0, 4294967295), (0, 4294967295), (0, 4294967295), (2147483648, 2147483711)], [], 114, 46853, 81, 114)) xFin := main_next 48 (xbest 1000 135).2.2 (o0 := 0) (o1 := 1) (o2 := 0) (by decide +kernel) (by decide +kernel) (by decide +kernel) (Or.inr (Or.inl ⟨rfl, rfl, rfl⟩)) (fun w rr hm => next12_t (d := 997) (u := 1) (by decide +kernel) (by decide) hm (Or.inr (Or.inl ⟨rfl, rfl⟩))) xnv_1
theorem nx_b3 : xTo 1000 mLa (1574, [], xlo0 (7, 0), [], (xW0, [(0, 4294967295), (2147483650, 2147483650), (0, 4294967295), (0, 4294967295), (0, 4294967295), (0, 4294967295), (0, 4294967295), (2147483648, 2147483711)], [], 114, 46853, 81, 114)) xFin := main_next 56 (xbest 1000 135).1 (o0 := 0) (o1 := 0) (o2 := 1) (by decide +kernel) (by decide +kernel) (by decide +kernel) (Or.inr (Or.inr (Or.inl ⟨rfl, rfl, rfl, rfl⟩))) (fun w rr hm => next12_t (d := 997) (u := 2) (by decide +kernel) (by decide) hm (Or.inr (Or.inr ⟨rfl, rfl⟩))) xnv_2
theorem nx_b4 : xTo 1000 mLa (1574, [], xlo0 (7, 0), [], (xW0, [(0, 4294967295), (2147483651, 4294967295), (0, 4294967295), (0, 4294967295), (0, 4294967295), (0, 4294967295), (0, 4294967295), (2147483648, 2147483711)], [], 114, 46853, 81, 114)) xFin := main_next 64 4294967295 (o0 := 0) (o1 := 0) (o2 := 0) (by decide +kernel) (by decide +kernel) (by decide +kernel) (Or.inr (Or.inr (Or.inr ⟨rfl, rfl, rfl, rfl⟩))) (fun w rr _ => next12_f (d := 997) (Or.inr ⟨(by decide +kernel), (by decide +kernel)⟩)) xnv_3
