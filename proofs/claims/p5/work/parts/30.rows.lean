/-! Rows: what its methods do -/
section XRO
variable {d r a lim wd sz t row what num r2 a2 sz2 t2 : Nat} {w : List (List xE)} {bd : List (Nat × Nat)} {fc : List (Nat × Nat × Bool)} {rr : Nat × Nat} {f f2 : Nat → Nat}
abbrev xRs (w : List (List xE)) (r a lim wd sz : Nat) : Prop := wget w r = some (.inl (5, [(0, lim), (0, wd), (2, a), (0, sz)]))
theorem rw_idx (h1 : row < sz) (h2 : sz ≤ lim) (h3 : what < wd) : row * wd + what < lim * wd := by
  have h : (row + 1) * wd ≤ lim * wd := Nat.mul_le_mul_right wd (by omega)
  rw [Nat.add_mul, Nat.one_mul] at h
  omega
theorem rfull_ok (h : xRs w r a lim wd sz) (hl : lim < 2147483648) (hsz : sz ≤ lim) : xPr d mX5_isFull [(2, r)] w bd fc rr [(0, if lim ≤ sz then 1 else 0)] w := by
  refine xPr.of ?_
  show xTo d mX5_isFull (0, [], [(0, (2, r))], [], (w, bd, fc, 0, 0, rr)) (xEnd 4 [(0, if lim ≤ sz then 1 else 0)] (w, bd, fc, 0, 0, rr))
  refine xg_t (xg_blk (b := [(0, 1, 0, 0, 0, 0), (1, 3, 1, 5, 3, 22), (4, 1, 0, 0, 0, 0), (5, 3, 1, 5, 0, 9), (8, 3, 6, 15, 2, 0), (11, 1, 3, 1, 0, 0), (12, 3, 8, 16, 0, 0)]) rfl) ?_
  refine xg_t (xg_aload (va := (2, r)) rfl rfl) ?_
  refine xg_t (xg_getf (va := (0, sz)) h rfl) ?_
  refine xg_t (xg_aload (va := (2, r)) rfl rfl) ?_
  refine xg_t (xg_getf (va := (0, lim)) h rfl) ?_
  by_cases hc1 : sz < lim
  · refine xg_t (xg_icT (u := sz) (v := lim) rfl xnm0 xnm0 (xj_ltT hc1 (by omega))) ?_
    refine xg_t (xg_blk (b := [(15, 1, 3, 0, 0, 0)]) rfl) ?_
    refine xg_t (xg_const) ?_
    refine xg_t (xg_blk (b := [(16, 1, 12, 0, 1, 0)]) rfl) ?_
    rw [if_neg (show ¬ lim ≤ sz by omega)]
    exact xg_e ⟨rfl, rfl⟩
  · refine xg_t (xg_icF (u := sz) (v := lim) rfl xnm0 xnm0 (xj_ltF (by omega) (by omega))) ?_
    refine xg_t (xg_const) ?_
    refine xg_t (xg_goto) ?_
    refine xg_t (xg_blk (b := [(16, 1, 12, 0, 1, 0)]) rfl) ?_
    rw [if_pos (show lim ≤ sz by omega)]
    exact xg_e ⟨rfl, rfl⟩
theorem rhas_ok (h : xRs w r a lim wd sz) (hl : lim < 2147483648) (hsz : sz ≤ lim) (h1 : row < 4294967296) : xPr d mX5_has [(2, r), (0, row)] w bd fc rr [(0, if row < sz then 1 else 0)] w := by
  refine xPr.of ?_
  show xTo d mX5_has (0, [], [(0, (2, r)), (1, (0, row))], [], (w, bd, fc, 0, 0, rr)) (xEnd 4 [(0, if row < sz then 1 else 0)] (w, bd, fc, 0, 0, rr))
  refine xg_t (xg_blk (b := [(0, 1, 2, 1, 0, 0), (1, 3, 7, 16, 2, 0), (4, 1, 2, 1, 0, 0), (5, 1, 0, 0, 0, 0), (6, 3, 1, 5, 3, 22), (9, 3, 6, 16, 3, 0), (12, 1, 3, 1, 0, 0), (13, 3, 8, 17, 0, 0)]) rfl) ?_
  refine xg_t (xg_iload (va := (0, row)) rfl rfl) ?_
  by_cases hc1 : row < 2147483648
  · refine xg_t (xg_ifF (u := row) rfl xnm0 (xjz_ltF hc1)) ?_
    refine xg_t (xg_iload (va := (0, row)) rfl rfl) ?_
    refine xg_t (xg_aload (va := (2, r)) rfl rfl) ?_
    refine xg_t (xg_getf (va := (0, sz)) h rfl) ?_
    by_cases hc2 : row < sz
    · refine xg_t (xg_icF (u := row) (v := sz) rfl xnm0 xnm0 (xj_geF hc2 (by omega))) ?_
      refine xg_t (xg_const) ?_
      refine xg_t (xg_goto) ?_
      refine xg_t (xg_blk (b := [(17, 1, 12, 0, 1, 0)]) rfl) ?_
      rw [if_pos (show row < sz by omega)]
      exact xg_e ⟨rfl, rfl⟩
    · refine xg_t (xg_icT (u := row) (v := sz) rfl xnm0 xnm0 (xj_geT (by omega) (by omega))) ?_
      refine xg_t (xg_blk (b := [(16, 1, 3, 0, 0, 0)]) rfl) ?_
      refine xg_t (xg_const) ?_
      refine xg_t (xg_blk (b := [(17, 1, 12, 0, 1, 0)]) rfl) ?_
      rw [if_neg (show ¬ row < sz by omega)]
      exact xg_e ⟨rfl, rfl⟩
  · refine xg_t (xg_ifT (u := row) rfl xnm0 (xjz_ltT (by omega) (by omega))) ?_
    refine xg_t (xg_blk (b := [(16, 1, 3, 0, 0, 0)]) rfl) ?_
    refine xg_t (xg_const) ?_
    refine xg_t (xg_blk (b := [(17, 1, 12, 0, 1, 0)]) rfl) ?_
    rw [if_neg (show ¬ row < sz by omega)]
    exact xg_e ⟨rfl, rfl⟩
theorem rget_ok (h : xRs w r a lim wd sz) (hf : xRow w a (lim * wd) t f) (hl : lim < 2147483648) (hsz : sz ≤ lim) (hw : wd < 2147483648) (hL : lim * wd < 2147483648) (h1 : row < 4294967296) (h2 : what < 4294967296) : xPr d mX5_get [(2, r), (0, row), (0, what)] w bd fc rr [(0, if row < sz ∧ what < wd then f (row * wd + what) else 4294967295)] w := by
  refine xPr.of ?_
  show xTo d mX5_get (0, [], [(0, (2, r)), (1, (0, row)), (2, (0, what))], [], (w, bd, fc, 0, 0, rr)) (xEnd 1 [(0, if row < sz ∧ what < wd then f (row * wd + what) else 4294967295)] (w, bd, fc, 0, 0, rr))
  refine xg_t (xg_blk (b := [(0, 1, 2, 1, 0, 0), (1, 3, 7, 40, 2, 0), (4, 1, 2, 1, 0, 0), (5, 1, 0, 0, 0, 0), (6, 3, 1, 5, 3, 22), (9, 3, 6, 40, 3, 0), (12, 1, 2, 2, 0, 0), (13, 3, 7, 40, 2, 0), (16, 1, 2, 2, 0, 0), (17, 1, 0, 0, 0, 0), (18, 3, 1, 5, 1, 15), (21, 3, 6, 40, 3, 0), (24, 1, 0, 0, 0, 0), (25, 3, 1, 5, 2, 18), (28, 1, 2, 1, 0, 0), (29, 1, 0, 0, 0, 0), (30, 3, 1, 5, 1, 15), (33, 1, 16, 0, 0, 0), (34, 1, 2, 2, 0, 0), (35, 1, 11, 0, 0, 0), (36, 1, 10, 0, 0, 0), (37, 3, 8, 41, 0, 0)]) rfl) ?_
  refine xg_t (xg_iload (va := (0, row)) rfl rfl) ?_
  by_cases hc1 : row < 2147483648
  · refine xg_t (xg_ifF (u := row) rfl xnm0 (xjz_ltF hc1)) ?_
    refine xg_t (xg_iload (va := (0, row)) rfl rfl) ?_
    refine xg_t (xg_aload (va := (2, r)) rfl rfl) ?_
    refine xg_t (xg_getf (va := (0, sz)) h rfl) ?_
    by_cases hc2 : row < sz
    · refine xg_t (xg_icF (u := row) (v := sz) rfl xnm0 xnm0 (xj_geF hc2 (by omega))) ?_
      refine xg_t (xg_iload (va := (0, what)) rfl rfl) ?_
      by_cases hc3 : what < 2147483648
      · refine xg_t (xg_ifF (u := what) rfl xnm0 (xjz_ltF hc3)) ?_
        refine xg_t (xg_iload (va := (0, what)) rfl rfl) ?_
        refine xg_t (xg_aload (va := (2, r)) rfl rfl) ?_
        refine xg_t (xg_getf (va := (0, wd)) h rfl) ?_
        by_cases hc4 : what < wd
        · refine xg_t (xg_icF (u := what) (v := wd) rfl xnm0 xnm0 (xj_geF hc4 (by omega))) ?_
          have hix : row * wd + what < lim * wd := rw_idx (by omega) hsz (by omega)
          refine xg_t (xg_aload (va := (2, r)) rfl rfl) ?_
          refine xg_t (xg_getf (va := (2, a)) h rfl) ?_
          refine xg_t (xg_iload (va := (0, row)) rfl rfl) ?_
          refine xg_t (xg_aload (va := (2, r)) rfl rfl) ?_
          refine xg_t (xg_getf (va := (0, wd)) h rfl) ?_
          refine xg_t (xg_imul (u := row) (v := wd) (z := row * wd) xnm0 xnm0 (Nat.mod_eq_of_lt (by omega))) ?_
          refine xg_t (xg_iload (va := (0, what)) rfl rfl) ?_
          refine xg_t (xg_iadd (u := row * wd) (v := what) (z := row * wd + what) xnm0 xnm0 (Nat.mod_eq_of_lt (by omega))) ?_
          refine xg_t (xg_ialdR (n := row * wd + what) (u := f (row * wd + what)) hf xnm0 (hix) rfl) ?_
          refine xg_t (xg_goto) ?_
          refine xg_t (xg_blk (b := [(41, 1, 12, 0, 1, 0)]) rfl) ?_
          rw [if_pos (show row < sz ∧ what < wd by omega)]
          exact xg_e ⟨rfl, rfl⟩
        · refine xg_t (xg_icT (u := what) (v := wd) rfl xnm0 xnm0 (xj_geT (by omega) (by omega))) ?_
          refine xg_t (xg_blk (b := [(40, 1, 3, 4294967295, 0, 0)]) rfl) ?_
          refine xg_t (xg_const) ?_
          refine xg_t (xg_blk (b := [(41, 1, 12, 0, 1, 0)]) rfl) ?_
          rw [if_neg (show ¬ (row < sz ∧ what < wd) by omega)]
          exact xg_e ⟨rfl, rfl⟩
      · refine xg_t (xg_ifT (u := what) rfl xnm0 (xjz_ltT (by omega) (by omega))) ?_
        refine xg_t (xg_blk (b := [(40, 1, 3, 4294967295, 0, 0)]) rfl) ?_
        refine xg_t (xg_const) ?_
        refine xg_t (xg_blk (b := [(41, 1, 12, 0, 1, 0)]) rfl) ?_
        rw [if_neg (show ¬ (row < sz ∧ what < wd) by omega)]
        exact xg_e ⟨rfl, rfl⟩
    · refine xg_t (xg_icT (u := row) (v := sz) rfl xnm0 xnm0 (xj_geT (by omega) (by omega))) ?_
      refine xg_t (xg_blk (b := [(40, 1, 3, 4294967295, 0, 0)]) rfl) ?_
      refine xg_t (xg_const) ?_
      refine xg_t (xg_blk (b := [(41, 1, 12, 0, 1, 0)]) rfl) ?_
      rw [if_neg (show ¬ (row < sz ∧ what < wd) by omega)]
      exact xg_e ⟨rfl, rfl⟩
  · refine xg_t (xg_ifT (u := row) rfl xnm0 (xjz_ltT (by omega) (by omega))) ?_
    refine xg_t (xg_blk (b := [(40, 1, 3, 4294967295, 0, 0)]) rfl) ?_
    refine xg_t (xg_const) ?_
    refine xg_t (xg_blk (b := [(41, 1, 12, 0, 1, 0)]) rfl) ?_
    rw [if_neg (show ¬ (row < sz ∧ what < wd) by omega)]
    exact xg_e ⟨rfl, rfl⟩
theorem rput_ok (h : xRs w r a lim wd sz) (hf : xRow w a (lim * wd) t f) (hl : lim < 2147483648) (hsz : sz ≤ lim) (hw : wd < 2147483648) (hL : lim * wd < 2147483648) (h1 : row < 4294967296) (h2 : what < 4294967296) : xPq (d + 1) mX5_put [(2, r), (0, row), (0, what), (0, num)] w bd fc rr [] (fun w' => xRow w' a (lim * wd) t (fun j => if (row < sz ∧ what < wd) ∧ j = row * wd + what then num else f j) ∧ xBut a w w') := by
  refine xPq.of ?_
  show xTo (d + 1) mX5_put (0, [], [(0, (2, r)), (1, (0, row)), (2, (0, what)), (3, (0, num))], [], (w, bd, fc, 0, 0, rr)) (fun φ => ∃ w', xEnd 0 [] (w', bd, fc, 0, 0, rr) φ ∧ xRow w' a (lim * wd) t (fun j => if (row < sz ∧ what < wd) ∧ j = row * wd + what then num else f j) ∧ xBut a w w')
  refine xg_t (xg_blk (b := [(0, 1, 0, 0, 0, 0), (1, 1, 2, 1, 0, 0), (2, 3, 13, 287, 40, 25), (5, 3, 7, 34, 0, 0), (8, 1, 2, 2, 0, 0), (9, 3, 7, 34, 2, 0), (12, 1, 2, 2, 0, 0), (13, 1, 0, 0, 0, 0), (14, 3, 1, 5, 1, 15), (17, 3, 6, 34, 3, 0), (20, 1, 0, 0, 0, 0), (21, 3, 1, 5, 2, 18), (24, 1, 2, 1, 0, 0), (25, 1, 0, 0, 0, 0), (26, 3, 1, 5, 1, 15), (29, 1, 16, 0, 0, 0), (30, 1, 2, 2, 0, 0), (31, 1, 11, 0, 0, 0), (32, 1, 2, 3, 0, 0), (33, 1, 17, 0, 0, 0)]) rfl) ?_
  refine xg_t (xg_aload (va := (2, r)) rfl rfl) ?_
  refine xg_t (xg_iload (va := (0, row)) rfl rfl) ?_
  refine xg_t (xg_cVr mX5_has (vs := [(0, row)]) (rest := []) (rs := [(0, if row < sz then 1 else 0)]) (cn1 := 0) (sl1 := 0) rfl (rhas_ok h hl hsz h1) rfl h rfl rfl rfl rfl rfl rfl rfl) ?_
  by_cases hc1 : row < sz
  · refine xg_t (xg_ifF (u := (if row < sz then 1 else 0)) rfl xnm0 (xj_eqF (xite1 hc1))) ?_
    refine xg_t (xg_iload (va := (0, what)) rfl rfl) ?_
    by_cases hc2 : what < 2147483648
    · refine xg_t (xg_ifF (u := what) rfl xnm0 (xjz_ltF hc2)) ?_
      refine xg_t (xg_iload (va := (0, what)) rfl rfl) ?_
      refine xg_t (xg_aload (va := (2, r)) rfl rfl) ?_
      refine xg_t (xg_getf (va := (0, wd)) h rfl) ?_
      by_cases hc3 : what < wd
      · refine xg_t (xg_icF (u := what) (v := wd) rfl xnm0 xnm0 (xj_geF hc3 (by omega))) ?_
        have hix : row * wd + what < lim * wd := rw_idx (by omega) hsz (by omega)
        refine xg_t (xg_aload (va := (2, r)) rfl rfl) ?_
        refine xg_t (xg_getf (va := (2, a)) h rfl) ?_
        refine xg_t (xg_iload (va := (0, row)) rfl rfl) ?_
        refine xg_t (xg_aload (va := (2, r)) rfl rfl) ?_
        refine xg_t (xg_getf (va := (0, wd)) h rfl) ?_
        refine xg_t (xg_imul (u := row) (v := wd) (z := row * wd) xnm0 xnm0 (Nat.mod_eq_of_lt (by omega))) ?_
        refine xg_t (xg_iload (va := (0, what)) rfl rfl) ?_
        refine xg_t (xg_iadd (u := row * wd) (v := what) (z := row * wd + what) xnm0 xnm0 (Nat.mod_eq_of_lt (by omega))) ?_
        refine xg_t (xg_iload (va := (0, num)) rfl rfl) ?_
        refine xg_iastK (n := row * wd + what) (u := num) hf xnm0 xnm0 rfl (hix) (fun w4 hr5 hb6 => ?_)
        refine xg_t (xg_blk (b := [(34, 1, 12, 0, 0, 0)]) rfl) ?_
        refine xg_e ⟨w4, ⟨rfl, rfl⟩, hr5.to (fun j _ => ?_), hb6⟩
        show (if j = row * wd + what then num else f j) = if (row < sz ∧ what < wd) ∧ j = row * wd + what then num else f j
        by_cases hj : j = row * wd + what
        · rw [if_pos hj, if_pos ⟨by omega, hj⟩]
        · rw [if_neg hj, if_neg (fun z => hj z.2)]
      · refine xg_t (xg_icT (u := what) (v := wd) rfl xnm0 xnm0 (xj_geT (by omega) (by omega))) ?_
        refine xg_t (xg_blk (b := [(34, 1, 12, 0, 0, 0)]) rfl) ?_
        refine xg_e ⟨w, ⟨rfl, rfl⟩, hf.to (fun j _ => ?_), xBut.rf⟩
        show f j = if (row < sz ∧ what < wd) ∧ j = row * wd + what then num else f j
        rw [if_neg (fun z => (show ¬ (row < sz ∧ what < wd) by omega) z.1)]
    · refine xg_t (xg_ifT (u := what) rfl xnm0 (xjz_ltT (by omega) (by omega))) ?_
      refine xg_t (xg_blk (b := [(34, 1, 12, 0, 0, 0)]) rfl) ?_
      refine xg_e ⟨w, ⟨rfl, rfl⟩, hf.to (fun j _ => ?_), xBut.rf⟩
      show f j = if (row < sz ∧ what < wd) ∧ j = row * wd + what then num else f j
      rw [if_neg (fun z => (show ¬ (row < sz ∧ what < wd) by omega) z.1)]
  · refine xg_t (xg_ifT (u := (if row < sz then 1 else 0)) rfl xnm0 (xj_eqT (xite0 hc1))) ?_
    refine xg_t (xg_blk (b := [(34, 1, 12, 0, 0, 0)]) rfl) ?_
    refine xg_e ⟨w, ⟨rfl, rfl⟩, hf.to (fun j _ => ?_), xBut.rf⟩
    show f j = if (row < sz ∧ what < wd) ∧ j = row * wd + what then num else f j
    rw [if_neg (fun z => (show ¬ (row < sz ∧ what < wd) by omega) z.1)]
theorem rgrow_ok (h : xRs w r a lim wd sz) (hl : lim < 2147483648) (hsz : sz ≤ lim) : xPq (d + 1) mX5_grow [(2, r)] w bd fc rr [(0, if sz < lim then sz else 4294967295)] (fun w' => xRs w' r a lim wd (if sz < lim then sz + 1 else sz) ∧ xBut r w w') := by
  refine xPq.of ?_
  show xTo (d + 1) mX5_grow (0, [], [(0, (2, r))], [], (w, bd, fc, 0, 0, rr)) (fun φ => ∃ w', xEnd 1 [(0, if sz < lim then sz else 4294967295)] (w', bd, fc, 0, 0, rr) φ ∧ xRs w' r a lim wd (if sz < lim then sz + 1 else sz) ∧ xBut r w w')
  refine xg_t (xg_blk (b := [(0, 1, 0, 0, 0, 0), (1, 3, 13, 289, 40, 29), (4, 3, 7, 9, 0, 0), (7, 1, 3, 4294967295, 0, 0), (8, 1, 12, 0, 1, 0)]) rfl) ?_
  refine xg_t (xg_aload (va := (2, r)) rfl rfl) ?_
  refine xg_t (xg_cVr mX5_isFull (vs := []) (rest := []) (rs := [(0, if lim ≤ sz then 1 else 0)]) (cn1 := 0) (sl1 := 0) rfl (rfull_ok h hl hsz) rfl h rfl rfl rfl rfl rfl rfl rfl) ?_
  by_cases hc1 : lim ≤ sz
  · refine xg_t (xg_ifF (u := (if lim ≤ sz then 1 else 0)) rfl xnm0 (xj_eqF (xite1 hc1))) ?_
    refine xg_t (xg_const) ?_
    refine xg_e ⟨w, ⟨?_, rfl⟩, ?_, xBut.rf⟩
    · rw [if_neg (show ¬ sz < lim by omega)]
      rfl
    · rw [if_neg (show ¬ sz < lim by omega)]
      exact h
  · refine xg_t (xg_ifT (u := (if lim ≤ sz then 1 else 0)) rfl xnm0 (xj_eqT (xite0 hc1))) ?_
    refine xg_t (xg_blk (b := [(9, 1, 0, 0, 0, 0), (10, 1, 19, 0, 0, 0), (11, 3, 1, 5, 3, 22), (14, 1, 3, 1, 0, 0), (15, 1, 11, 0, 0, 0), (16, 3, 14, 5, 3, 22), (19, 1, 0, 0, 0, 0), (20, 3, 1, 5, 3, 22), (23, 1, 3, 1, 0, 0), (24, 1, 18, 0, 0, 0), (25, 1, 12, 0, 1, 0)]) rfl) ?_
    refine xg_t (xg_aload (va := (2, r)) rfl rfl) ?_
    refine xg_t (xg_dup rfl) ?_
    refine xg_t (xg_getf (va := (0, sz)) h rfl) ?_
    refine xg_t (xg_const) ?_
    refine xg_t (xg_iadd (u := sz) (v := 1) (z := sz + 1) xnm0 xnm0 (by omega)) ?_
    refine xg_putI (fl1 := [(0, lim), (0, wd), (2, a), (0, sz + 1)]) h rfl rfl rfl (fun w2 hk3 hb4 => ?_)
    refine xg_t (xg_aload (va := (2, r)) rfl rfl) ?_
    refine xg_t (xg_getf (va := (0, sz + 1)) hk3 rfl) ?_
    refine xg_t (xg_const) ?_
    refine xg_t (xg_isub (u := sz + 1) (v := 1) (z := (sz + 1) - 1) xnm0 xnm0 (by omega)) ?_
    refine xg_e ⟨w2, ⟨?_, rfl⟩, ?_, hb4⟩
    · rw [if_pos (show sz < lim by omega)]
      exact congrArg (fun q => some [(0, q)]) (show sz + 1 - 1 = sz by omega)
    · rw [if_pos (show sz < lim by omega)]
      exact hk3
theorem rclear_ok (h : xRs w r a lim wd sz) : xPq d mX5_clear [(2, r)] w bd fc rr [] (fun w' => xRs w' r a lim wd 0 ∧ xBut r w w') := by
  refine xPq.of ?_
  show xTo d mX5_clear (0, [], [(0, (2, r))], [], (w, bd, fc, 0, 0, rr)) (fun φ => ∃ w', xEnd 0 [] (w', bd, fc, 0, 0, rr) φ ∧ xRs w' r a lim wd 0 ∧ xBut r w w')
  refine xg_t (xg_blk (b := [(0, 1, 0, 0, 0, 0), (1, 1, 3, 0, 0, 0), (2, 3, 14, 5, 3, 22), (5, 1, 12, 0, 0, 0)]) rfl) ?_
  refine xg_t (xg_aload (va := (2, r)) rfl rfl) ?_
  refine xg_t (xg_const) ?_
  refine xg_putI (fl1 := [(0, lim), (0, wd), (2, a), (0, 0)]) h rfl rfl rfl (fun w1 hk2 hb3 => ?_)
  exact xg_e ⟨w1, ⟨rfl, rfl⟩, hk2, hb3⟩
end XRO
