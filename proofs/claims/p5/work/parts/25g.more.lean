/-! more single instructions; signed questions -/
section XMO
variable {d p0 pc ln op x y ix u v z k c n t L : Nat} {M : xM} {tl : List xI} {lo l1 : xLo} {st : List xV} {hp : xH} {hr : xHr} {va vb : xV} {w w' : List (List xE)} {f : Nat → Nat}
theorem xite1 {p : Prop} {_ : Decidable p} (h : p) : (if p then 1 else 0) ≠ (0 : Nat) := by
  rw [if_pos h]
  decide
theorem xite0 {p : Prop} {_ : Decidable p} (h : ¬ p) : (if p then 1 else 0) = (0 : Nat) := if_neg h
theorem xjs_ltT (h : xbs u < xbs v) : xjmp 2 u v = true := by rw [xj2]; exact xblt_t h
theorem xjs_ltF (h : ¬ xbs u < xbs v) : xjmp 2 u v = false := by rw [xj2]; exact xblt_f (Nat.le_of_not_lt h)
theorem xjs_geT (h : ¬ xbs u < xbs v) : xjmp 3 u v = true := by rw [xj3, xblt_f (Nat.le_of_not_lt h)]; rfl
theorem xjs_geF (h : xbs u < xbs v) : xjmp 3 u v = false := by rw [xj3, xblt_t h]; rfl
theorem xjs_gtT (h : xbs v < xbs u) : xjmp 4 u v = true := by rw [xj4]; exact xblt_t h
theorem xjs_gtF (h : ¬ xbs v < xbs u) : xjmp 4 u v = false := by rw [xj4]; exact xblt_f (Nat.le_of_not_lt h)
theorem xjs_leT (h : ¬ xbs v < xbs u) : xjmp 5 u v = true := by rw [xj5, xblt_f (Nat.le_of_not_lt h)]; rfl
theorem xjs_leF (h : xbs v < xbs u) : xjmp 5 u v = false := by rw [xj5, xblt_t h]; rfl
theorem xbs_zero : xbs 0 = 2147483648 := by decide
theorem xbs_neg (h : 2147483648 ≤ u) (h2 : u < 4294967296) : xbs u = u - 2147483648 := by
  unfold xbs
  omega
theorem xjz_ltF (h : u < 2147483648) : xjmp 2 u 0 = false := by
  rw [xj2, xbs_small h, xbs_zero]
  exact xblt_f (by omega)
theorem xjz_ltT (h : 2147483648 ≤ u) (h2 : u < 4294967296) : xjmp 2 u 0 = true := by
  rw [xj2, xbs_neg h h2, xbs_zero]
  exact xblt_t (by omega)
theorem xjz_geT (h : u < 2147483648) : xjmp 3 u 0 = true := by
  rw [xj3, xbs_small h, xbs_zero, xblt_f (by omega)]
  rfl
theorem xjz_geF (h : 2147483648 ≤ u) (h2 : u < 4294967296) : xjmp 3 u 0 = false := by
  rw [xj3, xbs_neg h h2, xbs_zero, xblt_t (by omega)]
  rfl
theorem xg_ldc : xLd d M (p0, (pc, ln, 35, x, y, ix) :: tl, lo, st, hp) [(pc + ln, tl, lo, (0, x) :: st, hp)] := xg_op (f := xh_const) rfl rfl
theorem xg_ldcw : xLd d M (p0, (pc, ln, 36, x, y, ix) :: tl, lo, st, hp) [(pc + ln, tl, lo, (0, x) :: st, hp)] := xg_op (f := xh_const) rfl rfl
theorem xg_null : xLd d M (p0, (pc, ln, 45, x, y, ix) :: tl, lo, st, hp) [(pc + ln, tl, lo, (3, 0) :: st, hp)] := xg_op (f := xh_null) rfl rfl
theorem xg_gets : xLd d M (p0, (pc, ln, 37, x, y, ix) :: tl, lo, st, hp) [(pc + ln, tl, lo, (8, x) :: st, hp)] := xg_op (f := xh_gets) rfl rfl
theorem xg_pop (h : (xisi va || xisr va) = true) : xLd d M (p0, (pc, ln, 40, x, y, ix) :: tl, lo, va :: st, hp) [(pc + ln, tl, lo, st, hp)] := by
  refine xg_op (f := xh_pop) rfl ?_
  show xif (xisi va || xisr va) (xidk d M (pc + ln, tl, lo, st, hp)) = _
  rw [h]
  rfl
theorem xg_astore (hi : xisr va = true) (hm : Nat.blt x M.2.2.1 = true) (hl : lo.filter (xkp x) = l1) : xLd d M (p0, (pc, ln, 27, x, y, ix) :: tl, lo, va :: st, hp) [(pc + ln, tl, (x, va) :: l1, st, hp)] := by
  refine xg_op (f := xh_astore) rfl ?_
  show xif (xisr va) (xif (Nat.blt x M.2.2.1) (xflt (xkp x) lo fun l => xidk d M (pc + ln, tl, (x, va) :: l, st, hp))) = _
  rw [hi, hm, xflt_eq, hl]
  rfl
theorem xg_ifnullF : xLd d M (p0, (pc, ln, 43, x, y, ix) :: tl, lo, (2, k) :: st, hp) [(pc + ln, tl, lo, st, hp)] := xg_op (f := xh_ifnull) rfl rfl
theorem xg_ifnnF : xLd d M (p0, (pc, ln, 44, x, y, ix) :: tl, lo, (3, 0) :: st, hp) [(pc + ln, tl, lo, st, hp)] := xg_op (f := xh_ifnonnull) rfl rfl
theorem xg_ifnnT : xLd d M (p0, (pc, ln, 44, x, y, ix) :: tl, lo, (2, k) :: st, hp) [(x, [], lo, st, hp)] := xg_op (f := xh_ifnonnull) rfl rfl
/-- cells that may have changed -/
def xFr (S : List Nat) (w w' : List (List xE)) : Prop := (∀ j, j ∉ S → wget w' j = wget w j) ∧ w'.map List.length = w.map List.length
theorem xFr.rf {S : List Nat} : xFr S w w := ⟨fun _ _ => rfl, rfl⟩
theorem xFr.tr {S : List Nat} {w1 w2 w3 : List (List xE)} (h : xFr S w1 w2) (h' : xFr S w2 w3) : xFr S w1 w3 := ⟨fun j hj => (h'.1 j hj).trans (h.1 j hj), h'.2.trans h.2⟩
theorem xFr.of {S : List Nat} (h : xBut k w w') (hk : k ∈ S) : xFr S w w' := ⟨fun j hj => h.1 j (fun z => hj (z ▸ hk)), h.2⟩
theorem xFr.up {S T : List Nat} (h : xFr S w w') (hs : ∀ k, k ∈ S → k ∈ T) : xFr T w w' := ⟨fun j hj => h.1 j (fun z => hj (hs j z)), h.2⟩
theorem xFr.get {S : List Nat} {q : xE} (h : xFr S w w') (hk : k ∉ S) (hq : wget w k = some q) : wget w' k = some q := (h.1 k hk).trans hq
theorem xRow.fr {S : List Nat} (h : xRow w k L t f) (hb : xFr S w w') (hk : k ∉ S) : xRow w' k L t f := by
  obtain ⟨us, h1, h2⟩ := h
  exact ⟨us, (hb.1 k hk).trans h1, h2⟩
end XMO
