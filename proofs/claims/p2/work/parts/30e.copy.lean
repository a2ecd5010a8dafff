/-! Rows copied -/
section XRC
variable {d r a r2 a2 lim wd sz sz2 t t2 B : Nat} {w : List (List xE)} {bd : List (Nat × Nat)} {fc : List (Nat × Nat × Bool)} {rr : Nat × Nat} {f f2 : Nat → Nat}
theorem rcopyI (h : xRs w r a lim wd sz) (h2 : xRs w r2 a2 lim wd sz2) (hf : xRow w a (lim * wd) t f) (hf2 : xRow w a2 (lim * wd) t2 f2) (hB : ∀ j, f j ≤ B) (hB2 : ∀ j, f2 j ≤ B) (hl : lim < 2147483648) (hsz : sz2 ≤ lim) (hw : wd < 2147483648) (hL : lim * wd < 2147483648) (n1 : r2 ≠ r) (n2 : a ≠ r) (n3 : a2 ≠ r) (n4 : r ≠ a) : xPq (d + 1) mX5_copy [(2, r), (2, r2)] w bd fc rr [] (fun w' => xRs w' r a lim wd sz2 ∧ ∃ g, xRow w' a (lim * wd) t g ∧ (∀ j, g j ≤ B) ∧ xFr [r, a] w w') := by
  refine xPq.of ?_
  show xTo (d + 1) mX5_copy (0, [], [(0, (2, r)), (1, (2, r2))], [], (w, bd, fc, 0, 0, rr)) (fun φ => ∃ w', xEnd 0 [] (w', bd, fc, 0, 0, rr) φ ∧ xRs w' r a lim wd sz2 ∧ ∃ g, xRow w' a (lim * wd) t g ∧ (∀ j, g j ≤ B) ∧ xFr [r, a] w w')
  refine xg_t (xg_blk (b := [(0, 1, 0, 1, 0, 0), (1, 3, 1, 5, 0, 9), (4, 1, 0, 0, 0, 0), (5, 3, 1, 5, 0, 9), (8, 3, 6, 52, 1, 0), (11, 1, 0, 1, 0, 0), (12, 3, 1, 5, 1, 15), (15, 1, 0, 0, 0, 0), (16, 3, 1, 5, 1, 15), (19, 3, 6, 52, 1, 0), (22, 1, 0, 0, 0, 0), (23, 1, 0, 1, 0, 0), (24, 3, 1, 5, 3, 22), (27, 3, 14, 5, 3, 22), (30, 1, 0, 1, 0, 0), (31, 3, 1, 5, 2, 18), (34, 1, 3, 0, 0, 0), (35, 1, 0, 0, 0, 0), (36, 3, 1, 5, 2, 18), (39, 1, 3, 0, 0, 0), (40, 1, 0, 0, 0, 0), (41, 3, 1, 5, 3, 22), (44, 1, 0, 0, 0, 0), (45, 3, 1, 5, 1, 15), (48, 1, 16, 0, 0, 0), (49, 3, 58, 0, 0, 33)]) rfl) ?_
  refine xg_t (xg_aload (va := (2, r2)) rfl rfl) ?_
  refine xg_t (xg_getf (va := (0, lim)) h2 rfl) ?_
  refine xg_t (xg_aload (va := (2, r)) rfl rfl) ?_
  refine xg_t (xg_getf (va := (0, lim)) h rfl) ?_
  refine xg_t (xg_icF (u := lim) (v := lim) rfl xnm0 xnm0 (xj_neF rfl)) ?_
  refine xg_t (xg_aload (va := (2, r2)) rfl rfl) ?_
  refine xg_t (xg_getf (va := (0, wd)) h2 rfl) ?_
  refine xg_t (xg_aload (va := (2, r)) rfl rfl) ?_
  refine xg_t (xg_getf (va := (0, wd)) h rfl) ?_
  refine xg_t (xg_icF (u := wd) (v := wd) rfl xnm0 xnm0 (xj_neF rfl)) ?_
  refine xg_t (xg_aload (va := (2, r)) rfl rfl) ?_
  refine xg_t (xg_aload (va := (2, r2)) rfl rfl) ?_
  refine xg_t (xg_getf (va := (0, sz2)) h2 rfl) ?_
  refine xg_putI (fl1 := [(0, lim), (0, wd), (2, a), (0, sz2)]) h rfl rfl rfl (fun w1 hk2 hb3 => ?_)
  refine xg_t (xg_aload (va := (2, r2)) rfl rfl) ?_
  refine xg_t (xg_getf (va := (2, a2)) (hb3.get (by omega) h2) rfl) ?_
  refine xg_t (xg_const) ?_
  refine xg_t (xg_aload (va := (2, r)) rfl rfl) ?_
  refine xg_t (xg_getf (va := (2, a)) hk2 rfl) ?_
  refine xg_t (xg_const) ?_
  refine xg_t (xg_aload (va := (2, r)) rfl rfl) ?_
  refine xg_t (xg_getf (va := (0, sz2)) hk2 rfl) ?_
  refine xg_t (xg_aload (va := (2, r)) rfl rfl) ?_
  refine xg_t (xg_getf (va := (0, wd)) hk2 rfl) ?_
  have hm9 : sz2 * wd ≤ lim * wd := Nat.mul_le_mul_right wd hsz
  refine xg_t (xg_imul (u := sz2) (v := wd) (z := sz2 * wd) xnm0 xnm0 (Nat.mod_eq_of_lt (by omega))) ?_
  refine xg_copyI (n := sz2 * wd) (hf2.but hb3 (by omega)) (hf.but hb3 (by omega)) xnm0 (by omega) (by omega) (Nat.le_of_ble_eq_true rfl) (fun w9 hr9 hb9 => ?_)
  refine xg_t (xg_blk (b := [(52, 1, 12, 0, 0, 0)]) rfl) ?_
  exact xg_e ⟨w9, ⟨rfl, rfl⟩, (hb9.get (by omega) hk2), _, hr9, xcb2 hB2 hB, (xFr.of (S := [r, a]) hb3 List.mem_cons_self).tr (xFr.of (S := [r, a]) hb9 (List.mem_cons_of_mem _ List.mem_cons_self))⟩
end XRC
