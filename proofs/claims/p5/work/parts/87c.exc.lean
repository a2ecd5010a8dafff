/-! the class: what the calls do to tape, day, hands, tests -/
section XCE
variable {d : Nat} {w : List (List xE)} {bd : List (Nat × Nat)} {fc : List (Nat × Nat × Bool)} {rr : Nat × Nat}
theorem rgrowX {r a lim wd sz : Nat} (h : xRs w r a lim wd sz) (hl : lim < 2147483648) (hsz : sz < lim) : xPq (d + 1) mX5_grow [(2, r)] w bd fc rr [(0, sz)] (fun w' => xRs w' r a lim wd (sz + 1) ∧ xBut r w w') := by
  have k := rgrow_ok (d := d) (bd := bd) (fc := fc) (rr := rr) h hl (Nat.le_of_lt hsz)
  rw [if_pos hsz, if_pos hsz] at k
  exact k
theorem rputX {r a lim wd sz t B row what num : Nat} {f : Nat → Nat} (h : xRs w r a lim wd sz) (hf : xRow w a (lim * wd) t f) (hB : ∀ j, f j ≤ B) (hl : lim < 2147483648) (hsz : sz ≤ lim) (hw : wd < 2147483648) (hL : lim * wd < 2147483648) (h1 : row < sz) (h2 : what < wd) (hn : num ≤ B) : xPq (d + 1) mX5_put [(2, r), (0, row), (0, what), (0, num)] w bd fc rr [] (fun w' => ∃ g, xRow w' a (lim * wd) t g ∧ (∀ j, g j ≤ B) ∧ g (row * wd + what) = num ∧ (∀ j, j ≠ row * wd + what → g j = f j) ∧ xBut a w w') := by
  obtain ⟨w', ⟨q1, q2⟩, q3⟩ := rput_ok (d := d) (bd := bd) (fc := fc) (rr := rr) (row := row) (what := what) (num := num) h hf hl hsz hw hL (by omega) (by omega)
  refine ⟨w', ⟨_, q1, fun j => ?_, if_pos ⟨⟨h1, h2⟩, rfl⟩, fun j hj => if_neg (fun z => hj z.2), q2⟩, q3⟩
  show (if (row < sz ∧ what < wd) ∧ j = row * wd + what then num else f j) ≤ B
  split
  · exact hn
  · exact hB j
theorem scDayX {dy : Nat} (hI : xInv w) (hdy : dy ≤ 4294967295) : xPi (d + 1) mX11_day [(2, 0), (0, dy)] w bd fc rr (fun n w' => (((n = 1 ∧ ¬ xbs dy < xbs (fld w 1 6) ∧ ¬ xbs 999 < xbs dy ∧ fld w' 1 6 = dy) ∨ (n = 0 ∧ (xbs dy < xbs (fld w 1 6) ∨ xbs 999 < xbs dy) ∧ fld w' 1 6 = fld w 1 6)) ∧ fld w' 1 1 = fld w 1 1 ∧ fld w' 1 2 = fld w 1 2 ∧ fld w' 1 3 = fld w 1 3 ∧ fld w' 1 7 = fld w 1 7 ∧ fld w' 1 9 = fld w 1 9) ∧ xInv w' ∧ xFr [1] w w') := by
  refine xPi.of ?_
  show xTo (d + 1) mX11_day (0, [], [(0, (2, 0)), (1, (0, dy))], [], (w, bd, fc, 0, 0, rr)) (fun φ => ∃ n w', xEnd 4 [(0, n)] (w', bd, fc, 0, 0, rr) φ ∧ (((n = 1 ∧ ¬ xbs dy < xbs (fld w 1 6) ∧ ¬ xbs 999 < xbs dy ∧ fld w' 1 6 = dy) ∨ (n = 0 ∧ (xbs dy < xbs (fld w 1 6) ∨ xbs 999 < xbs dy) ∧ fld w' 1 6 = fld w 1 6)) ∧ fld w' 1 1 = fld w 1 1 ∧ fld w' 1 2 = fld w 1 2 ∧ fld w' 1 3 = fld w 1 3 ∧ fld w' 1 7 = fld w 1 7 ∧ fld w' 1 9 = fld w 1 9) ∧ xInv w' ∧ xFr [1] w w')
  have h0_1 := (hI 0 (by decide) : cp0 (wget w 0))
  obtain ⟨f1_2, f1_4, f1_6, f1_8, f1_10, f1_12, h1_14, hb3, hb5, hb7, hb9, hb11, hb13⟩ := (hI 1 (by decide) : cp1 (wget w 1))
  refine xg_t (xg_blk (b := [(0, 1, 2, 1, 0, 0), (1, 1, 0, 0, 0, 0), (2, 3, 1, 11, 0, 10), (5, 3, 1, 9, 6, 186), (8, 3, 6, 18, 2, 0), (11, 1, 2, 1, 0, 0), (12, 3, 5, 999, 0, 0), (15, 3, 6, 20, 5, 0)]) rfl) ?_
  refine xg_t (xg_iload (va := (0, dy)) rfl rfl) ?_
  refine xg_t (xg_aload (va := (2, 0)) rfl rfl) ?_
  refine xg_t (xg_getf (va := (2, 1)) h0_1 rfl) ?_
  refine xg_t (xg_getf (va := (0, f1_8)) h1_14 rfl) ?_
  by_cases hc15 : xbs dy < xbs f1_8
  · have hc15u := hc15
    unfold xbs at hc15u
    refine xg_t (xg_icT (u := dy) (v := f1_8) rfl xnm0 xnm0 (xjs_ltT hc15)) ?_
    refine xg_t (xg_blk (b := [(18, 1, 3, 0, 0, 0), (19, 1, 12, 0, 1, 0)]) rfl) ?_
    refine xg_t (xg_const) ?_
    have hq16 : fld w 1 1 = f1_2 := fld_of h1_14
    have hq17 : fld w 1 2 = f1_4 := fld_of h1_14
    have hq18 : fld w 1 3 = f1_6 := fld_of h1_14
    have hq19 : fld w 1 6 = f1_8 := fld_of h1_14
    have hq20 : xbs (fld w 1 6) = xbs f1_8 := congrArg xbs hq19
    have hq21 : fld w 1 7 = f1_10 := fld_of h1_14
    have hq22 : fld w 1 9 = f1_12 := fld_of h1_14
    exact xg_e ⟨0, w, ⟨rfl, rfl⟩, ⟨by omega, by omega, by omega, by omega, by omega, by omega⟩, hI, xFr.rf⟩
  · have hc15u := hc15
    unfold xbs at hc15u
    refine xg_t (xg_icF (u := dy) (v := f1_8) rfl xnm0 xnm0 (xjs_ltF hc15)) ?_
    refine xg_t (xg_iload (va := (0, dy)) rfl rfl) ?_
    refine xg_t (xg_sip) ?_
    by_cases hc23 : xbs 999 < xbs dy
    · have hc23u := hc23
      unfold xbs at hc23u
      have hn24 : dy ≤ 2147483647 := by omega
      refine xg_t (xg_icF (u := dy) (v := 999) rfl xnm0 xnm0 (xjs_leF hc23)) ?_
      refine xg_t (xg_blk (b := [(18, 1, 3, 0, 0, 0), (19, 1, 12, 0, 1, 0)]) rfl) ?_
      refine xg_t (xg_const) ?_
      have hq25 : fld w 1 1 = f1_2 := fld_of h1_14
      have hq26 : fld w 1 2 = f1_4 := fld_of h1_14
      have hq27 : fld w 1 3 = f1_6 := fld_of h1_14
      have hq28 : fld w 1 6 = f1_8 := fld_of h1_14
      have hq29 : xbs (fld w 1 6) = xbs f1_8 := congrArg xbs hq28
      have hq30 : fld w 1 7 = f1_10 := fld_of h1_14
      have hq31 : fld w 1 9 = f1_12 := fld_of h1_14
      exact xg_e ⟨0, w, ⟨rfl, rfl⟩, ⟨by omega, by omega, by omega, by omega, by omega, by omega⟩, hI, xFr.rf⟩
    · have hc23u := hc23
      unfold xbs at hc23u
      refine xg_t (xg_icT (u := dy) (v := 999) rfl xnm0 xnm0 (xjs_leT hc23)) ?_
      refine xg_t (xg_blk (b := [(20, 1, 0, 0, 0, 0), (21, 3, 1, 11, 0, 10), (24, 1, 2, 1, 0, 0), (25, 3, 14, 9, 6, 186), (28, 1, 3, 1, 0, 0), (29, 1, 12, 0, 1, 0)]) rfl) ?_
      refine xg_t (xg_aload (va := (2, 0)) rfl rfl) ?_
      refine xg_t (xg_getf (va := (2, 1)) h0_1 rfl) ?_
      refine xg_t (xg_iload (va := (0, dy)) rfl rfl) ?_
      refine xg_putI (fl1 := [(2, 2), (0, f1_2), (0, f1_4), (0, f1_6), (2, 3), (2, 14), (0, dy), (0, f1_10), (2, 16), (0, f1_12), (2, 18), (2, 20), (2, 22), (2, 24)]) h1_14 rfl rfl rfl (fun w32 hk33 hb34 => ?_)
      refine xg_t (xg_const) ?_
      have hq35 : fld w 1 1 = f1_2 := fld_of h1_14
      have hq36 : fld w32 1 1 = f1_2 := fld_of hk33
      have hq37 : fld w 1 2 = f1_4 := fld_of h1_14
      have hq38 : fld w32 1 2 = f1_4 := fld_of hk33
      have hq39 : fld w 1 3 = f1_6 := fld_of h1_14
      have hq40 : fld w32 1 3 = f1_6 := fld_of hk33
      have hq41 : fld w 1 6 = f1_8 := fld_of h1_14
      have hq42 : xbs (fld w 1 6) = xbs f1_8 := congrArg xbs hq41
      have hq43 : fld w32 1 6 = dy := fld_of hk33
      have hq44 : fld w 1 7 = f1_10 := fld_of h1_14
      have hq45 : fld w32 1 7 = f1_10 := fld_of hk33
      have hq46 : fld w 1 9 = f1_12 := fld_of h1_14
      have hq47 : fld w32 1 9 = f1_12 := fld_of hk33
      exact xg_e ⟨1, w32, ⟨rfl, rfl⟩, ⟨by omega, by omega, by omega, by omega, by omega, by omega⟩, xInv.up (S := [1]) hI (xFr.of (S := [1]) hb34 (by decide)) (List.forall_mem_cons.mpr ⟨(show cp1 (wget w32 1) from ⟨f1_2, f1_4, f1_6, dy, f1_10, f1_12, hk33, by omega, by omega, by omega, by omega, by omega, by omega⟩), fun _ h => absurd h List.not_mem_nil⟩), (xFr.of (S := [1]) hb34 (by decide))⟩
theorem scViewX {dy : Nat} (hI : xInv w) (hdy : dy ≤ 4294967295) : xPi (d + 1) mX11_view [(2, 0), (0, dy)] w bd fc rr (fun n w' => (((n = 1 ∧ ¬ xbs dy < xbs 4294967295 ∧ ¬ xbs (fld w 1 6) < xbs dy ∧ fld w' 1 7 = dy) ∨ (n = 0 ∧ (xbs dy < xbs 4294967295 ∨ xbs (fld w 1 6) < xbs dy) ∧ fld w' 1 7 = fld w 1 7)) ∧ fld w' 1 1 = fld w 1 1 ∧ fld w' 1 2 = fld w 1 2 ∧ fld w' 1 3 = fld w 1 3 ∧ fld w' 1 6 = fld w 1 6 ∧ fld w' 1 9 = fld w 1 9) ∧ xInv w' ∧ xFr [1, 58] w w') := by
  refine xPi.of ?_
  show xTo (d + 1) mX11_view (0, [], [(0, (2, 0)), (1, (0, dy))], [], (w, bd, fc, 0, 0, rr)) (fun φ => ∃ n w', xEnd 4 [(0, n)] (w', bd, fc, 0, 0, rr) φ ∧ (((n = 1 ∧ ¬ xbs dy < xbs 4294967295 ∧ ¬ xbs (fld w 1 6) < xbs dy ∧ fld w' 1 7 = dy) ∨ (n = 0 ∧ (xbs dy < xbs 4294967295 ∨ xbs (fld w 1 6) < xbs dy) ∧ fld w' 1 7 = fld w 1 7)) ∧ fld w' 1 1 = fld w 1 1 ∧ fld w' 1 2 = fld w 1 2 ∧ fld w' 1 3 = fld w 1 3 ∧ fld w' 1 6 = fld w 1 6 ∧ fld w' 1 9 = fld w 1 9) ∧ xInv w' ∧ xFr [1, 58] w w')
  have h0_1 := (hI 0 (by decide) : cp0 (wget w 0))
  obtain ⟨f1_2, f1_4, f1_6, f1_8, f1_10, f1_12, h1_14, hb3, hb5, hb7, hb9, hb11, hb13⟩ := (hI 1 (by decide) : cp1 (wget w 1))
  refine xg_t (xg_blk (b := [(0, 1, 2, 1, 0, 0), (1, 1, 3, 4294967295, 0, 0), (2, 3, 6, 16, 2, 0), (5, 1, 2, 1, 0, 0), (6, 1, 0, 0, 0, 0), (7, 3, 1, 11, 0, 10), (10, 3, 1, 9, 6, 186), (13, 3, 6, 18, 5, 0)]) rfl) ?_
  refine xg_t (xg_iload (va := (0, dy)) rfl rfl) ?_
  refine xg_t (xg_const) ?_
  by_cases hc15 : xbs dy < xbs 4294967295
  · have hc15u := hc15
    unfold xbs at hc15u
    refine xg_t (xg_icT (u := dy) (v := 4294967295) rfl xnm0 xnm0 (xjs_ltT hc15)) ?_
    refine xg_t (xg_blk (b := [(16, 1, 3, 0, 0, 0), (17, 1, 12, 0, 1, 0)]) rfl) ?_
    refine xg_t (xg_const) ?_
    have hq16 : fld w 1 1 = f1_2 := fld_of h1_14
    have hq17 : fld w 1 2 = f1_4 := fld_of h1_14
    have hq18 : fld w 1 3 = f1_6 := fld_of h1_14
    have hq19 : fld w 1 6 = f1_8 := fld_of h1_14
    have hq20 : xbs (fld w 1 6) = xbs f1_8 := congrArg xbs hq19
    have hq21 : fld w 1 7 = f1_10 := fld_of h1_14
    have hq22 : fld w 1 9 = f1_12 := fld_of h1_14
    exact xg_e ⟨0, w, ⟨rfl, rfl⟩, ⟨by omega, by omega, by omega, by omega, by omega, by omega⟩, hI, xFr.rf⟩
  · have hc15u := hc15
    unfold xbs at hc15u
    refine xg_t (xg_icF (u := dy) (v := 4294967295) rfl xnm0 xnm0 (xjs_ltF hc15)) ?_
    refine xg_t (xg_iload (va := (0, dy)) rfl rfl) ?_
    refine xg_t (xg_aload (va := (2, 0)) rfl rfl) ?_
    refine xg_t (xg_getf (va := (2, 1)) h0_1 rfl) ?_
    refine xg_t (xg_getf (va := (0, f1_8)) h1_14 rfl) ?_
    by_cases hc23 : xbs f1_8 < xbs dy
    · have hc23u := hc23
      unfold xbs at hc23u
      refine xg_t (xg_icF (u := dy) (v := f1_8) rfl xnm0 xnm0 (xjs_leF hc23)) ?_
      refine xg_t (xg_blk (b := [(16, 1, 3, 0, 0, 0), (17, 1, 12, 0, 1, 0)]) rfl) ?_
      refine xg_t (xg_const) ?_
      have hq24 : fld w 1 1 = f1_2 := fld_of h1_14
      have hq25 : fld w 1 2 = f1_4 := fld_of h1_14
      have hq26 : fld w 1 3 = f1_6 := fld_of h1_14
      have hq27 : fld w 1 6 = f1_8 := fld_of h1_14
      have hq28 : xbs (fld w 1 6) = xbs f1_8 := congrArg xbs hq27
      have hq29 : fld w 1 7 = f1_10 := fld_of h1_14
      have hq30 : fld w 1 9 = f1_12 := fld_of h1_14
      exact xg_e ⟨0, w, ⟨rfl, rfl⟩, ⟨by omega, by omega, by omega, by omega, by omega, by omega⟩, hI, xFr.rf⟩
    · have hc23u := hc23
      unfold xbs at hc23u
      refine xg_t (xg_icT (u := dy) (v := f1_8) rfl xnm0 xnm0 (xjs_leT hc23)) ?_
      refine xg_t (xg_blk (b := [(18, 1, 0, 0, 0, 0), (19, 3, 1, 11, 0, 10), (22, 1, 2, 1, 0, 0), (23, 3, 14, 9, 7, 189), (26, 1, 0, 0, 0, 0), (27, 3, 1, 11, 5, 52), (30, 3, 13, 30, 80, 192), (33, 1, 3, 1, 0, 0), (34, 1, 12, 0, 1, 0)]) rfl) ?_
      refine xg_t (xg_aload (va := (2, 0)) rfl rfl) ?_
      refine xg_t (xg_getf (va := (2, 1)) h0_1 rfl) ?_
      refine xg_t (xg_iload (va := (0, dy)) rfl rfl) ?_
      refine xg_putI (fl1 := [(2, 2), (0, f1_2), (0, f1_4), (0, f1_6), (2, 3), (2, 14), (0, f1_8), (0, dy), (2, 16), (0, f1_12), (2, 18), (2, 20), (2, 22), (2, 24)]) h1_14 rfl rfl rfl (fun w31 hk32 hb33 => ?_)
      refine xg_t (xg_aload (va := (2, 0)) rfl rfl) ?_
      refine xg_t (xg_getf (va := (2, 58)) (hb33.get (by decide) h0_1) rfl) ?_
      obtain ⟨f58_34, f58_36, f58_38, h58_40, hb35, hb37, hb39⟩ := (hI 58 (by decide) : cp58 (wget w 58))
      refine xg_cVv mX10_forget (vs := []) (rest := []) (cn1 := 0) (sl1 := 0) rfl (wyForgetE (xInv.up (S := [1]) hI (xFr.of (S := [1]) hb33 (by decide)) (List.forall_mem_cons.mpr ⟨(show cp1 (wget w31 1) from ⟨f1_2, f1_4, f1_6, f1_8, dy, f1_12, hk32, by omega, by omega, by omega, by omega, by omega, by omega⟩), fun _ h => absurd h List.not_mem_nil⟩))) rfl (hb33.get (by decide) h58_40) rfl rfl rfl rfl rfl rfl (fun w41 hq42 => ?_)
      obtain ⟨hI43, hF44, hx45⟩ := hq42
      refine xg_t (xg_const) ?_
      have hq46 : fld w 1 1 = f1_2 := fld_of h1_14
      have hq47 : fld w41 1 1 = f1_2 := fld_of (hF44.get (by decide) hk32)
      have hq48 : fld w 1 2 = f1_4 := fld_of h1_14
      have hq49 : fld w41 1 2 = f1_4 := fld_of (hF44.get (by decide) hk32)
      have hq50 : fld w 1 3 = f1_6 := fld_of h1_14
      have hq51 : fld w41 1 3 = f1_6 := fld_of (hF44.get (by decide) hk32)
      have hq52 : fld w 1 6 = f1_8 := fld_of h1_14
      have hq53 : xbs (fld w 1 6) = xbs f1_8 := congrArg xbs hq52
      have hq54 : fld w41 1 6 = f1_8 := fld_of (hF44.get (by decide) hk32)
      have hq55 : fld w 1 7 = f1_10 := fld_of h1_14
      have hq56 : fld w41 1 7 = dy := fld_of (hF44.get (by decide) hk32)
      have hq57 : fld w 1 9 = f1_12 := fld_of h1_14
      have hq58 : fld w41 1 9 = f1_12 := fld_of (hF44.get (by decide) hk32)
      exact xg_e ⟨1, w41, ⟨rfl, rfl⟩, ⟨by omega, by omega, by omega, by omega, by omega, by omega⟩, hI43, ((xFr.of (S := [1, 58]) hb33 (by decide)).tr (hF44.up (by decide)))⟩
theorem scEndX {ne : Nat} (hI : xInv w) (hne : ne ≤ 4294967295) : xPi (d + 1) mX11_end [(2, 0), (0, ne)] w bd fc rr (fun n w' => (((n = ne ∧ ne ≤ fld w 1 1 ∧ fld w' 1 1 = ne) ∨ (n = 4294967295 ∧ ¬ ne ≤ fld w 1 1 ∧ fld w' 1 1 = fld w 1 1)) ∧ fld w' 1 2 = fld w 1 2 ∧ fld w' 1 3 = fld w 1 3 ∧ fld w' 1 6 = fld w 1 6 ∧ fld w' 1 7 = fld w 1 7 ∧ fld w' 1 9 = fld w 1 9) ∧ xInv w' ∧ xFr [1] w w') := by
  refine xPi.of ?_
  show xTo (d + 1) mX11_end (0, [], [(0, (2, 0)), (1, (0, ne))], [], (w, bd, fc, 0, 0, rr)) (fun φ => ∃ n w', xEnd 1 [(0, n)] (w', bd, fc, 0, 0, rr) φ ∧ (((n = ne ∧ ne ≤ fld w 1 1 ∧ fld w' 1 1 = ne) ∨ (n = 4294967295 ∧ ¬ ne ≤ fld w 1 1 ∧ fld w' 1 1 = fld w 1 1)) ∧ fld w' 1 2 = fld w 1 2 ∧ fld w' 1 3 = fld w 1 3 ∧ fld w' 1 6 = fld w 1 6 ∧ fld w' 1 7 = fld w 1 7 ∧ fld w' 1 9 = fld w 1 9) ∧ xInv w' ∧ xFr [1] w w')
  have h0_1 := (hI 0 (by decide) : cp0 (wget w 0))
  obtain ⟨f1_2, f1_4, f1_6, f1_8, f1_10, f1_12, h1_14, hb3, hb5, hb7, hb9, hb11, hb13⟩ := (hI 1 (by decide) : cp1 (wget w 1))
  refine xg_t (xg_blk (b := [(0, 1, 2, 1, 0, 0), (1, 3, 7, 15, 2, 0), (4, 1, 2, 1, 0, 0), (5, 1, 0, 0, 0, 0), (6, 3, 1, 11, 0, 10), (9, 3, 1, 9, 1, 91), (12, 3, 6, 17, 5, 0)]) rfl) ?_
  refine xg_t (xg_iload (va := (0, ne)) rfl rfl) ?_
  by_cases hc15 : ne < 2147483648
  · refine xg_t (xg_ifF (u := ne) rfl xnm0 (xjz_ltF hc15)) ?_
    refine xg_t (xg_iload (va := (0, ne)) rfl rfl) ?_
    refine xg_t (xg_aload (va := (2, 0)) rfl rfl) ?_
    refine xg_t (xg_getf (va := (2, 1)) h0_1 rfl) ?_
    refine xg_t (xg_getf (va := (0, f1_2)) h1_14 rfl) ?_
    by_cases hc16 : f1_2 < ne
    · refine xg_t (xg_icF (u := ne) (v := f1_2) rfl xnm0 xnm0 (xj_leF hc16 (by omega))) ?_
      refine xg_t (xg_blk (b := [(15, 1, 3, 4294967295, 0, 0), (16, 1, 12, 0, 1, 0)]) rfl) ?_
      refine xg_t (xg_const) ?_
      have hq17 : fld w 1 1 = f1_2 := fld_of h1_14
      have hq18 : fld w 1 2 = f1_4 := fld_of h1_14
      have hq19 : fld w 1 3 = f1_6 := fld_of h1_14
      have hq20 : fld w 1 6 = f1_8 := fld_of h1_14
      have hq21 : fld w 1 7 = f1_10 := fld_of h1_14
      have hq22 : fld w 1 9 = f1_12 := fld_of h1_14
      exact xg_e ⟨4294967295, w, ⟨rfl, rfl⟩, ⟨by omega, by omega, by omega, by omega, by omega, by omega⟩, hI, xFr.rf⟩
    · refine xg_t (xg_icT (u := ne) (v := f1_2) rfl xnm0 xnm0 (xj_leT (by omega) (by omega))) ?_
      refine xg_t (xg_blk (b := [(17, 1, 0, 0, 0, 0), (18, 3, 1, 11, 0, 10), (21, 1, 2, 1, 0, 0), (22, 3, 14, 9, 1, 91), (25, 1, 2, 1, 0, 0), (26, 1, 12, 0, 1, 0)]) rfl) ?_
      refine xg_t (xg_aload (va := (2, 0)) rfl rfl) ?_
      refine xg_t (xg_getf (va := (2, 1)) h0_1 rfl) ?_
      refine xg_t (xg_iload (va := (0, ne)) rfl rfl) ?_
      refine xg_putI (fl1 := [(2, 2), (0, ne), (0, f1_4), (0, f1_6), (2, 3), (2, 14), (0, f1_8), (0, f1_10), (2, 16), (0, f1_12), (2, 18), (2, 20), (2, 22), (2, 24)]) h1_14 rfl rfl rfl (fun w23 hk24 hb25 => ?_)
      refine xg_t (xg_iload (va := (0, ne)) rfl rfl) ?_
      have hq26 : fld w 1 1 = f1_2 := fld_of h1_14
      have hq27 : fld w23 1 1 = ne := fld_of hk24
      have hq28 : fld w 1 2 = f1_4 := fld_of h1_14
      have hq29 : fld w23 1 2 = f1_4 := fld_of hk24
      have hq30 : fld w 1 3 = f1_6 := fld_of h1_14
      have hq31 : fld w23 1 3 = f1_6 := fld_of hk24
      have hq32 : fld w 1 6 = f1_8 := fld_of h1_14
      have hq33 : fld w23 1 6 = f1_8 := fld_of hk24
      have hq34 : fld w 1 7 = f1_10 := fld_of h1_14
      have hq35 : fld w23 1 7 = f1_10 := fld_of hk24
      have hq36 : fld w 1 9 = f1_12 := fld_of h1_14
      have hq37 : fld w23 1 9 = f1_12 := fld_of hk24
      exact xg_e ⟨ne, w23, ⟨rfl, rfl⟩, ⟨by omega, by omega, by omega, by omega, by omega, by omega⟩, xInv.up (S := [1]) hI (xFr.of (S := [1]) hb25 (by decide)) (List.forall_mem_cons.mpr ⟨(show cp1 (wget w23 1) from ⟨ne, f1_4, f1_6, f1_8, f1_10, f1_12, hk24, by omega, by omega, by omega, by omega, by omega, by omega⟩), fun _ h => absurd h List.not_mem_nil⟩), (xFr.of (S := [1]) hb25 (by decide))⟩
  · refine xg_t (xg_ifT (u := ne) rfl xnm0 (xjz_ltT (by omega) (by omega))) ?_
    refine xg_t (xg_blk (b := [(15, 1, 3, 4294967295, 0, 0), (16, 1, 12, 0, 1, 0)]) rfl) ?_
    refine xg_t (xg_const) ?_
    have hq38 : fld w 1 1 = f1_2 := fld_of h1_14
    have hq39 : fld w 1 2 = f1_4 := fld_of h1_14
    have hq40 : fld w 1 3 = f1_6 := fld_of h1_14
    have hq41 : fld w 1 6 = f1_8 := fld_of h1_14
    have hq42 : fld w 1 7 = f1_10 := fld_of h1_14
    have hq43 : fld w 1 9 = f1_12 := fld_of h1_14
    exact xg_e ⟨4294967295, w, ⟨rfl, rfl⟩, ⟨by omega, by omega, by omega, by omega, by omega, by omega⟩, hI, xFr.rf⟩
theorem scWetK {dy : Nat} (hI : xInv w) (hdy : dy ≤ 4294967295) : xPi (d + 1) mX11_wet [(2, 0), (0, dy)] w bd fc rr (fun n w' => (((dy ≤ 200 ∧ n = 1 ∧ fld w' 1 9 = dy) ∨ (¬ dy ≤ 200 ∧ n = 0 ∧ fld w' 1 9 = fld w 1 9)) ∧ fld w' 1 1 = fld w 1 1 ∧ fld w' 1 2 = fld w 1 2 ∧ fld w' 1 3 = fld w 1 3 ∧ fld w' 1 6 = fld w 1 6 ∧ fld w' 1 7 = fld w 1 7) ∧ xInv w' ∧ xFr [1, 68] w w') := by
  refine xPi.of ?_
  show xTo (d + 1) mX11_wet (0, [], [(0, (2, 0)), (1, (0, dy))], [], (w, bd, fc, 0, 0, rr)) (fun φ => ∃ n w', xEnd 4 [(0, n)] (w', bd, fc, 0, 0, rr) φ ∧ (((dy ≤ 200 ∧ n = 1 ∧ fld w' 1 9 = dy) ∨ (¬ dy ≤ 200 ∧ n = 0 ∧ fld w' 1 9 = fld w 1 9)) ∧ fld w' 1 1 = fld w 1 1 ∧ fld w' 1 2 = fld w 1 2 ∧ fld w' 1 3 = fld w 1 3 ∧ fld w' 1 6 = fld w 1 6 ∧ fld w' 1 7 = fld w 1 7) ∧ xInv w' ∧ xFr [1, 68] w w')
  have h0_1 := (hI 0 (by decide) : cp0 (wget w 0))
  obtain ⟨f1_2, f1_4, f1_6, f1_8, f1_10, f1_12, h1_14, hb3, hb5, hb7, hb9, hb11, hb13⟩ := (hI 1 (by decide) : cp1 (wget w 1))
  refine xg_t (xg_blk (b := [(0, 1, 2, 1, 0, 0), (1, 1, 3, 0, 0, 0), (2, 3, 5, 200, 0, 0), (5, 3, 13, 70, 90, 238), (8, 3, 7, 13, 1, 0), (11, 1, 3, 0, 0, 0), (12, 1, 12, 0, 1, 0)]) rfl) ?_
  refine xg_t (xg_iload (va := (0, dy)) rfl rfl) ?_
  refine xg_t (xg_const) ?_
  refine xg_t (xg_sip) ?_
  refine xg_t (xg_cSr mX11_isIn (vs := [(0, dy), (0, 0), (0, 200)]) (rest := []) (rs := [(0, if 0 ≤ dy ∧ dy ≤ 200 then 1 else 0)]) (cn1 := 0) (sl1 := 0) rfl (isIn_ok (by omega) (by omega) (by omega)) rfl rfl rfl rfl rfl rfl rfl rfl) ?_
  by_cases hc15 : 0 ≤ dy ∧ dy ≤ 200
  · refine xg_t (xg_ifT (u := (if 0 ≤ dy ∧ dy ≤ 200 then 1 else 0)) rfl xnm0 (xj_neT (xite1 hc15))) ?_
    refine xg_t (xg_blk (b := [(13, 1, 0, 0, 0, 0), (14, 3, 1, 11, 0, 10), (17, 1, 2, 1, 0, 0), (18, 3, 14, 9, 9, 273), (21, 1, 0, 0, 0, 0), (22, 3, 1, 11, 6, 59), (25, 3, 13, 260, 24, 276), (28, 1, 3, 1, 0, 0), (29, 1, 12, 0, 1, 0)]) rfl) ?_
    refine xg_t (xg_aload (va := (2, 0)) rfl rfl) ?_
    refine xg_t (xg_getf (va := (2, 1)) h0_1 rfl) ?_
    refine xg_t (xg_iload (va := (0, dy)) rfl rfl) ?_
    refine xg_putI (fl1 := [(2, 2), (0, f1_2), (0, f1_4), (0, f1_6), (2, 3), (2, 14), (0, f1_8), (0, f1_10), (2, 16), (0, dy), (2, 18), (2, 20), (2, 22), (2, 24)]) h1_14 rfl rfl rfl (fun w16 hk17 hb18 => ?_)
    refine xg_t (xg_aload (va := (2, 0)) rfl rfl) ?_
    refine xg_t (xg_getf (va := (2, 68)) (hb18.get (by decide) h0_1) rfl) ?_
    obtain ⟨f68_19, f68_21, h68_23, hb20, hb22⟩ := (hI 68 (by decide) : cp68 (wget w 68))
    refine xg_cVv mX3_forgetDamp (vs := []) (rest := []) (cn1 := 0) (sl1 := 0) rfl (lmForgetDE (xInv.up (S := [1]) hI (xFr.of (S := [1]) hb18 (by decide)) (List.forall_mem_cons.mpr ⟨(show cp1 (wget w16 1) from ⟨f1_2, f1_4, f1_6, f1_8, f1_10, dy, hk17, by omega, by omega, by omega, by omega, by omega, by omega⟩), fun _ h => absurd h List.not_mem_nil⟩))) rfl (hb18.get (by decide) h68_23) rfl rfl rfl rfl rfl rfl (fun w24 hq25 => ?_)
    obtain ⟨hI26, hF27, hx28⟩ := hq25
    refine xg_t (xg_const) ?_
    have hq29 : fld w 1 1 = f1_2 := fld_of h1_14
    have hq30 : fld w24 1 1 = f1_2 := fld_of (hF27.get (by decide) hk17)
    have hq31 : fld w 1 2 = f1_4 := fld_of h1_14
    have hq32 : fld w24 1 2 = f1_4 := fld_of (hF27.get (by decide) hk17)
    have hq33 : fld w 1 3 = f1_6 := fld_of h1_14
    have hq34 : fld w24 1 3 = f1_6 := fld_of (hF27.get (by decide) hk17)
    have hq35 : fld w 1 6 = f1_8 := fld_of h1_14
    have hq36 : fld w24 1 6 = f1_8 := fld_of (hF27.get (by decide) hk17)
    have hq37 : fld w 1 7 = f1_10 := fld_of h1_14
    have hq38 : fld w24 1 7 = f1_10 := fld_of (hF27.get (by decide) hk17)
    have hq39 : fld w 1 9 = f1_12 := fld_of h1_14
    have hq40 : fld w24 1 9 = dy := fld_of (hF27.get (by decide) hk17)
    exact xg_e ⟨1, w24, ⟨rfl, rfl⟩, ⟨by omega, by omega, by omega, by omega, by omega, by omega⟩, hI26, ((xFr.of (S := [1, 68]) hb18 (by decide)).tr (hF27.up (by decide)))⟩
  · refine xg_t (xg_ifF (u := (if 0 ≤ dy ∧ dy ≤ 200 then 1 else 0)) rfl xnm0 (xj_neF (xite0 hc15))) ?_
    refine xg_t (xg_const) ?_
    have hq41 : fld w 1 1 = f1_2 := fld_of h1_14
    have hq42 : fld w 1 2 = f1_4 := fld_of h1_14
    have hq43 : fld w 1 3 = f1_6 := fld_of h1_14
    have hq44 : fld w 1 6 = f1_8 := fld_of h1_14
    have hq45 : fld w 1 7 = f1_10 := fld_of h1_14
    have hq46 : fld w 1 9 = f1_12 := fld_of h1_14
    exact xg_e ⟨0, w, ⟨rfl, rfl⟩, ⟨by omega, by omega, by omega, by omega, by omega, by omega⟩, hI, xFr.rf⟩
theorem scHandX {fi fo ro : Nat} (hI : xInv w) (hfi : fi ≤ 4294967295) (hfo : fo ≤ 4294967295) (hro : ro ≤ 4294967295) : xPi (d + 2) mX11_hand [(2, 0), (0, fi), (0, fo), (0, ro)] w bd fc rr (fun n w' => (((n = fld w 18 3 ∧ fld w 18 3 < 4 ∧ ((1 ≤ fi ∧ fi ≤ 999) ∧ (1 ≤ fo ∧ fo ≤ 999) ∧ (1 ≤ ro ∧ ro ≤ 9999)) ∧ fld w' 18 3 = fld w 18 3 + 1) ∨ (n = 4294967295 ∧ ¬ (fld w 18 3 < 4 ∧ ((1 ≤ fi ∧ fi ≤ 999) ∧ (1 ≤ fo ∧ fo ≤ 999) ∧ (1 ≤ ro ∧ ro ≤ 9999))) ∧ w' = w)) ∧ (n ≠ 4294967295 → rwv w' 19 (3 * fld w 18 3) = fi ∧ rwv w' 19 (3 * fld w 18 3 + 1) = fo ∧ rwv w' 19 (3 * fld w 18 3 + 2) = ro) ∧ (∀ j, (j < 3 * fld w 18 3 ∨ 3 * fld w 18 3 + 3 ≤ j) → j < 12 → rwv w' 19 j = rwv w 19 j)) ∧ xInv w' ∧ xFr [18, 19] w w') := by
  refine xPi.of ?_
  show xTo (d + 2) mX11_hand (0, [], [(0, (2, 0)), (1, (0, fi)), (2, (0, fo)), (3, (0, ro))], [], (w, bd, fc, 0, 0, rr)) (fun φ => ∃ n w', xEnd 1 [(0, n)] (w', bd, fc, 0, 0, rr) φ ∧ (((n = fld w 18 3 ∧ fld w 18 3 < 4 ∧ ((1 ≤ fi ∧ fi ≤ 999) ∧ (1 ≤ fo ∧ fo ≤ 999) ∧ (1 ≤ ro ∧ ro ≤ 9999)) ∧ fld w' 18 3 = fld w 18 3 + 1) ∨ (n = 4294967295 ∧ ¬ (fld w 18 3 < 4 ∧ ((1 ≤ fi ∧ fi ≤ 999) ∧ (1 ≤ fo ∧ fo ≤ 999) ∧ (1 ≤ ro ∧ ro ≤ 9999))) ∧ w' = w)) ∧ (n ≠ 4294967295 → rwv w' 19 (3 * fld w 18 3) = fi ∧ rwv w' 19 (3 * fld w 18 3 + 1) = fo ∧ rwv w' 19 (3 * fld w 18 3 + 2) = ro) ∧ (∀ j, (j < 3 * fld w 18 3 ∨ 3 * fld w 18 3 + 3 ≤ j) → j < 12 → rwv w' 19 j = rwv w 19 j)) ∧ xInv w' ∧ xFr [18, 19] w w')
  have h0_1 := (hI 0 (by decide) : cp0 (wget w 0))
  obtain ⟨f1_2, f1_4, f1_6, f1_8, f1_10, f1_12, h1_14, hb3, hb5, hb7, hb9, hb11, hb13⟩ := (hI 1 (by decide) : cp1 (wget w 1))
  obtain ⟨f18_15, h18_17, hb16⟩ := (hI 18 (by decide) : cp18 (wget w 18))
  obtain ⟨g19_18, h19_19, hb20⟩ := (hI 19 (by decide) : cpI 12 8 4294967295 (wget w 19))
  have h19_19 : xRow w 19 12 8 g19_18 := h19_19
  refine xg_t (xg_blk (b := [(0, 1, 0, 0, 0, 0), (1, 3, 1, 11, 0, 10), (4, 3, 1, 9, 10, 316), (7, 2, 27, 4, 0, 0), (9, 2, 0, 4, 0, 0), (11, 3, 13, 289, 40, 198), (14, 3, 7, 46, 1, 0), (17, 1, 2, 1, 0, 0), (18, 1, 3, 1, 0, 0), (19, 3, 5, 999, 0, 0), (22, 3, 13, 70, 90, 238), (25, 3, 7, 46, 0, 0), (28, 1, 2, 2, 0, 0), (29, 1, 3, 1, 0, 0), (30, 3, 5, 999, 0, 0), (33, 3, 13, 70, 90, 238), (36, 3, 7, 46, 0, 0), (39, 1, 2, 3, 0, 0), (40, 3, 13, 71, 90, 140), (43, 3, 7, 48, 1, 0)]) rfl) ?_
  refine xg_t (xg_aload (va := (2, 0)) rfl rfl) ?_
  refine xg_t (xg_getf (va := (2, 1)) h0_1 rfl) ?_
  refine xg_t (xg_getf (va := (2, 18)) h1_14 rfl) ?_
  refine xg_t (xg_astore (l1 := [(0, (2, 0)), (1, (0, fi)), (2, (0, fo)), (3, (0, ro))]) rfl rfl rfl) ?_
  refine xg_t (xg_aload (va := (2, 18)) rfl rfl) ?_
  refine xg_t (xg_cVr mX5_isFull (vs := []) (rest := []) (rs := [(0, if 4 ≤ f18_15 then 1 else 0)]) (cn1 := 0) (sl1 := 0) rfl (rfull_ok h18_17 (by decide) (by omega)) rfl h18_17 rfl rfl rfl rfl rfl rfl rfl) ?_
  by_cases hc21 : 4 ≤ f18_15
  · refine xg_t (xg_ifT (u := (if 4 ≤ f18_15 then 1 else 0)) rfl xnm0 (xj_neT (xite1 hc21))) ?_
    refine xg_t (xg_blk (b := [(46, 1, 3, 4294967295, 0, 0), (47, 1, 12, 0, 1, 0)]) rfl) ?_
    refine xg_t (xg_const) ?_
    have hq22 : fld w 18 3 = f18_15 := fld_of h18_17
    exact xg_e ⟨4294967295, w, ⟨rfl, rfl⟩, ⟨Or.inr ⟨by omega, by omega, rfl⟩, fun h => absurd h (by omega), fun j _ _ => rfl⟩, hI, xFr.rf⟩
  · refine xg_t (xg_ifF (u := (if 4 ≤ f18_15 then 1 else 0)) rfl xnm0 (xj_neF (xite0 hc21))) ?_
    refine xg_t (xg_iload (va := (0, fi)) rfl rfl) ?_
    refine xg_t (xg_const) ?_
    refine xg_t (xg_sip) ?_
    refine xg_t (xg_cSr mX11_isIn (vs := [(0, fi), (0, 1), (0, 999)]) (rest := []) (rs := [(0, if 1 ≤ fi ∧ fi ≤ 999 then 1 else 0)]) (cn1 := 0) (sl1 := 0) rfl (isIn_ok (by omega) (by omega) (by omega)) rfl rfl rfl rfl rfl rfl rfl rfl) ?_
    by_cases hc23 : 1 ≤ fi ∧ fi ≤ 999
    · refine xg_t (xg_ifF (u := (if 1 ≤ fi ∧ fi ≤ 999 then 1 else 0)) rfl xnm0 (xj_eqF (xite1 hc23))) ?_
      refine xg_t (xg_iload (va := (0, fo)) rfl rfl) ?_
      refine xg_t (xg_const) ?_
      refine xg_t (xg_sip) ?_
      refine xg_t (xg_cSr mX11_isIn (vs := [(0, fo), (0, 1), (0, 999)]) (rest := []) (rs := [(0, if 1 ≤ fo ∧ fo ≤ 999 then 1 else 0)]) (cn1 := 0) (sl1 := 0) rfl (isIn_ok (by omega) (by omega) (by omega)) rfl rfl rfl rfl rfl rfl rfl rfl) ?_
      by_cases hc24 : 1 ≤ fo ∧ fo ≤ 999
      · refine xg_t (xg_ifF (u := (if 1 ≤ fo ∧ fo ≤ 999 then 1 else 0)) rfl xnm0 (xj_eqF (xite1 hc24))) ?_
        refine xg_t (xg_iload (va := (0, ro)) rfl rfl) ?_
        refine xg_t (xg_cSr mX11_isRound (vs := [(0, ro)]) (rest := []) (rs := [(0, if 1 ≤ ro ∧ ro ≤ 9999 then 1 else 0)]) (cn1 := 0) (sl1 := 0) rfl (isRound_ok (by omega)) rfl rfl rfl rfl rfl rfl rfl rfl) ?_
        by_cases hc25 : 1 ≤ ro ∧ ro ≤ 9999
        · refine xg_t (xg_ifT (u := (if 1 ≤ ro ∧ ro ≤ 9999 then 1 else 0)) rfl xnm0 (xj_neT (xite1 hc25))) ?_
          refine xg_t (xg_blk (b := [(48, 2, 0, 4, 0, 0), (50, 3, 13, 286, 40, 209), (53, 2, 15, 5, 0, 0), (55, 2, 0, 4, 0, 0), (57, 2, 2, 5, 0, 0), (59, 1, 3, 0, 0, 0), (60, 1, 2, 1, 0, 0), (61, 3, 13, 290, 40, 212), (64, 2, 0, 4, 0, 0), (66, 2, 2, 5, 0, 0), (68, 1, 3, 1, 0, 0), (69, 1, 2, 2, 0, 0), (70, 3, 13, 290, 40, 212), (73, 2, 0, 4, 0, 0), (75, 2, 2, 5, 0, 0), (77, 1, 3, 2, 0, 0), (78, 1, 2, 3, 0, 0), (79, 3, 13, 290, 40, 212), (82, 2, 2, 5, 0, 0), (84, 1, 12, 0, 1, 0)]) rfl) ?_
          refine xg_t (xg_aload (va := (2, 18)) rfl rfl) ?_
          refine xg_cV mX5_grow (vs := []) (rest := []) (rs := [(0, f18_15)]) (cn1 := 0) (sl1 := 0) rfl (rgrowX h18_17 (by decide) (by omega)) rfl h18_17 rfl rfl rfl rfl rfl rfl rfl (fun w26 hq27 => ?_)
          refine xg_t (xg_istore (l1 := [(4, (2, 18)), (0, (2, 0)), (1, (0, fi)), (2, (0, fo)), (3, (0, ro))]) rfl rfl rfl) ?_
          refine xg_t (xg_aload (va := (2, 18)) rfl rfl) ?_
          refine xg_t (xg_iload (va := (0, f18_15)) rfl rfl) ?_
          refine xg_t (xg_const) ?_
          refine xg_t (xg_iload (va := (0, fi)) rfl rfl) ?_
          refine xg_cVv mX5_put (vs := [(0, f18_15), (0, 0), (0, fi)]) (rest := []) (cn1 := 0) (sl1 := 0) rfl (rputX (lim := 4) (wd := 3) (B := 4294967295) hq27.1 (h19_19.but hq27.2 (by decide)) (hb20) (by decide) (by omega) (by decide) (by decide) (by omega) (by decide) (by omega)) rfl hq27.1 rfl rfl rfl rfl rfl rfl (fun w28 hq29 => ?_)
          obtain ⟨g30, hr31, hb32, he34, hk35, hb33⟩ := hq29
          refine xg_t (xg_aload (va := (2, 18)) rfl rfl) ?_
          refine xg_t (xg_iload (va := (0, f18_15)) rfl rfl) ?_
          refine xg_t (xg_const) ?_
          refine xg_t (xg_iload (va := (0, fo)) rfl rfl) ?_
          refine xg_cVv mX5_put (vs := [(0, f18_15), (0, 1), (0, fo)]) (rest := []) (cn1 := 0) (sl1 := 0) rfl (rputX (lim := 4) (wd := 3) (B := 4294967295) (hb33.get (by decide) hq27.1) hr31 (hb32) (by decide) (by omega) (by decide) (by decide) (by omega) (by decide) (by omega)) rfl (hb33.get (by decide) hq27.1) rfl rfl rfl rfl rfl rfl (fun w36 hq37 => ?_)
          obtain ⟨g38, hr39, hb40, he42, hk43, hb41⟩ := hq37
          refine xg_t (xg_aload (va := (2, 18)) rfl rfl) ?_
          refine xg_t (xg_iload (va := (0, f18_15)) rfl rfl) ?_
          refine xg_t (xg_const) ?_
          refine xg_t (xg_iload (va := (0, ro)) rfl rfl) ?_
          refine xg_cVv mX5_put (vs := [(0, f18_15), (0, 2), (0, ro)]) (rest := []) (cn1 := 0) (sl1 := 0) rfl (rputX (lim := 4) (wd := 3) (B := 4294967295) (hb41.get (by decide) (hb33.get (by decide) hq27.1)) hr39 (hb40) (by decide) (by omega) (by decide) (by decide) (by omega) (by decide) (by omega)) rfl (hb41.get (by decide) (hb33.get (by decide) hq27.1)) rfl rfl rfl rfl rfl rfl (fun w44 hq45 => ?_)
          obtain ⟨g46, hr47, hb48, he50, hk51, hb49⟩ := hq45
          refine xg_t (xg_iload (va := (0, f18_15)) rfl rfl) ?_
          have hq52 : fld w 18 3 = f18_15 := fld_of h18_17
          have hq53 : fld w44 18 3 = (f18_15 + 1) := fld_of (hb49.get (by decide) (hb41.get (by decide) (hb33.get (by decide) hq27.1)))
          have hq55 : 3 * fld w 18 3 = f18_15 * 3 + 0 := by omega
          have hq54 : rwv w44 19 (3 * fld w 18 3) = fi := by
            rw [hq55, rwv_of hr47 (by omega), hk51 _ (by omega), hk43 _ (by omega), he34]
          have hq57 : 3 * fld w 18 3 + 1 = f18_15 * 3 + 1 := by omega
          have hq56 : rwv w44 19 (3 * fld w 18 3 + 1) = fo := by
            rw [hq57, rwv_of hr47 (by omega), hk51 _ (by omega), he42]
          have hq59 : 3 * fld w 18 3 + 2 = f18_15 * 3 + 2 := by omega
          have hq58 : rwv w44 19 (3 * fld w 18 3 + 2) = ro := by
            rw [hq59, rwv_of hr47 (by omega), he50]
          exact xg_e ⟨f18_15, w44, ⟨rfl, rfl⟩, ⟨Or.inl ⟨by omega, by omega, by omega, by omega⟩, fun _ => ⟨hq54, hq56, hq58⟩, fun j hj h => (rwv_of hr47 h).trans (Eq.trans (by rw [hk51 j (by omega), hk43 j (by omega), hk35 j (by omega)]) (rwv_of h19_19 h).symm)⟩, xInv.up (S := [18, 19]) hI ((((xFr.of (S := [18, 19]) hq27.2 (by decide)).tr (xFr.of (S := [18, 19]) hb33 (by decide))).tr (xFr.of (S := [18, 19]) hb41 (by decide))).tr (xFr.of (S := [18, 19]) hb49 (by decide))) (List.forall_mem_cons.mpr ⟨(show cp18 (wget w44 18) from ⟨(f18_15 + 1), (hb49.get (by decide) (hb41.get (by decide) (hb33.get (by decide) hq27.1))), by omega⟩), List.forall_mem_cons.mpr ⟨(show cpI 12 8 4294967295 (wget w44 19) from ⟨_, hr47, hb48⟩), fun _ h => absurd h List.not_mem_nil⟩⟩), ((((xFr.of (S := [18, 19]) hq27.2 (by decide)).tr (xFr.of (S := [18, 19]) hb33 (by decide))).tr (xFr.of (S := [18, 19]) hb41 (by decide))).tr (xFr.of (S := [18, 19]) hb49 (by decide)))⟩
        · refine xg_t (xg_ifF (u := (if 1 ≤ ro ∧ ro ≤ 9999 then 1 else 0)) rfl xnm0 (xj_neF (xite0 hc25))) ?_
          refine xg_t (xg_blk (b := [(46, 1, 3, 4294967295, 0, 0), (47, 1, 12, 0, 1, 0)]) rfl) ?_
          refine xg_t (xg_const) ?_
          have hq60 : fld w 18 3 = f18_15 := fld_of h18_17
          exact xg_e ⟨4294967295, w, ⟨rfl, rfl⟩, ⟨Or.inr ⟨by omega, by omega, rfl⟩, fun h => absurd h (by omega), fun j _ _ => rfl⟩, hI, xFr.rf⟩
      · refine xg_t (xg_ifT (u := (if 1 ≤ fo ∧ fo ≤ 999 then 1 else 0)) rfl xnm0 (xj_eqT (xite0 hc24))) ?_
        refine xg_t (xg_blk (b := [(46, 1, 3, 4294967295, 0, 0), (47, 1, 12, 0, 1, 0)]) rfl) ?_
        refine xg_t (xg_const) ?_
        have hq61 : fld w 18 3 = f18_15 := fld_of h18_17
        exact xg_e ⟨4294967295, w, ⟨rfl, rfl⟩, ⟨Or.inr ⟨by omega, by omega, rfl⟩, fun h => absurd h (by omega), fun j _ _ => rfl⟩, hI, xFr.rf⟩
    · refine xg_t (xg_ifT (u := (if 1 ≤ fi ∧ fi ≤ 999 then 1 else 0)) rfl xnm0 (xj_eqT (xite0 hc23))) ?_
      refine xg_t (xg_blk (b := [(46, 1, 3, 4294967295, 0, 0), (47, 1, 12, 0, 1, 0)]) rfl) ?_
      refine xg_t (xg_const) ?_
      have hq62 : fld w 18 3 = f18_15 := fld_of h18_17
      exact xg_e ⟨4294967295, w, ⟨rfl, rfl⟩, ⟨Or.inr ⟨by omega, by omega, rfl⟩, fun h => absurd h (by omega), fun j _ _ => rfl⟩, hI, xFr.rf⟩
theorem scTestX {sp fo fi cr : Nat} (hI : xInv w) (hsp : sp ≤ 4294967295) (hfo : fo ≤ 4294967295) (hfi : fi ≤ 4294967295) (hcr : cr ≤ 4294967295) : xPi (d + 2) mX11_test [(2, 0), (0, sp), (0, fo), (0, fi), (0, cr)] w bd fc rr (fun n w' => (((n = fld w 20 3 ∧ fld w 20 3 < 12 ∧ ((1 ≤ sp ∧ sp ≤ 9) ∧ (1 ≤ fo ∧ fo ≤ 999999) ∧ (1 ≤ fi ∧ fi ≤ 99) ∧ cr ≤ fi) ∧ fld w' 20 3 = fld w 20 3 + 1 ∧ fld w' 76 9 = 0 ∧ fld w' 76 10 = 0 ∧ fld w' 76 11 = 0) ∨ (n = 4294967295 ∧ ¬ (fld w 20 3 < 12 ∧ ((1 ≤ sp ∧ sp ≤ 9) ∧ (1 ≤ fo ∧ fo ≤ 999999) ∧ (1 ≤ fi ∧ fi ≤ 99) ∧ cr ≤ fi)) ∧ w' = w)) ∧ (n ≠ 4294967295 → rwv w' 21 (4 * fld w 20 3) = sp ∧ rwv w' 21 (4 * fld w 20 3 + 1) = fo ∧ rwv w' 21 (4 * fld w 20 3 + 2) = fi ∧ rwv w' 21 (4 * fld w 20 3 + 3) = cr) ∧ (∀ j, (j < 4 * fld w 20 3 ∨ 4 * fld w 20 3 + 4 ≤ j) → j < 48 → rwv w' 21 j = rwv w 21 j)) ∧ xInv w' ∧ xFr [20, 21, 76] w w') := by
  refine xPi.of ?_
  show xTo (d + 2) mX11_test (0, [], [(0, (2, 0)), (1, (0, sp)), (2, (0, fo)), (3, (0, fi)), (4, (0, cr))], [], (w, bd, fc, 0, 0, rr)) (fun φ => ∃ n w', xEnd 1 [(0, n)] (w', bd, fc, 0, 0, rr) φ ∧ (((n = fld w 20 3 ∧ fld w 20 3 < 12 ∧ ((1 ≤ sp ∧ sp ≤ 9) ∧ (1 ≤ fo ∧ fo ≤ 999999) ∧ (1 ≤ fi ∧ fi ≤ 99) ∧ cr ≤ fi) ∧ fld w' 20 3 = fld w 20 3 + 1 ∧ fld w' 76 9 = 0 ∧ fld w' 76 10 = 0 ∧ fld w' 76 11 = 0) ∨ (n = 4294967295 ∧ ¬ (fld w 20 3 < 12 ∧ ((1 ≤ sp ∧ sp ≤ 9) ∧ (1 ≤ fo ∧ fo ≤ 999999) ∧ (1 ≤ fi ∧ fi ≤ 99) ∧ cr ≤ fi)) ∧ w' = w)) ∧ (n ≠ 4294967295 → rwv w' 21 (4 * fld w 20 3) = sp ∧ rwv w' 21 (4 * fld w 20 3 + 1) = fo ∧ rwv w' 21 (4 * fld w 20 3 + 2) = fi ∧ rwv w' 21 (4 * fld w 20 3 + 3) = cr) ∧ (∀ j, (j < 4 * fld w 20 3 ∨ 4 * fld w 20 3 + 4 ≤ j) → j < 48 → rwv w' 21 j = rwv w 21 j)) ∧ xInv w' ∧ xFr [20, 21, 76] w w')
  have h0_1 := (hI 0 (by decide) : cp0 (wget w 0))
  obtain ⟨f1_2, f1_4, f1_6, f1_8, f1_10, f1_12, h1_14, hb3, hb5, hb7, hb9, hb11, hb13⟩ := (hI 1 (by decide) : cp1 (wget w 1))
  obtain ⟨f20_15, h20_17, hb16⟩ := (hI 20 (by decide) : cp20 (wget w 20))
  obtain ⟨g21_18, h21_19, hb20⟩ := (hI 21 (by decide) : cpI 48 9 4294967295 (wget w 21))
  have h21_19 : xRow w 21 48 9 g21_18 := h21_19
  refine xg_t (xg_blk (b := [(0, 1, 0, 0, 0, 0), (1, 3, 1, 11, 0, 10), (4, 3, 1, 9, 11, 72), (7, 2, 27, 5, 0, 0), (9, 1, 2, 1, 0, 0), (10, 1, 3, 1, 0, 0), (11, 2, 4, 9, 0, 0), (13, 3, 13, 70, 90, 238), (16, 3, 7, 54, 0, 0), (19, 1, 2, 2, 0, 0), (20, 1, 3, 1, 0, 0), (21, 3, 36, 999999, 0, 325), (24, 3, 13, 70, 90, 238), (27, 3, 7, 54, 0, 0), (30, 1, 2, 3, 0, 0), (31, 1, 3, 1, 0, 0), (32, 2, 4, 99, 0, 0), (34, 3, 13, 70, 90, 238), (37, 3, 7, 54, 0, 0), (40, 2, 2, 4, 0, 0), (42, 1, 3, 0, 0, 0), (43, 1, 2, 3, 0, 0), (44, 3, 13, 70, 90, 238), (47, 3, 7, 54, 0, 0), (50, 1, 3, 1, 0, 0), (51, 3, 8, 55, 0, 0)]) rfl) ?_
  refine xg_t (xg_aload (va := (2, 0)) rfl rfl) ?_
  refine xg_t (xg_getf (va := (2, 1)) h0_1 rfl) ?_
  refine xg_t (xg_getf (va := (2, 20)) h1_14 rfl) ?_
  refine xg_t (xg_astore (l1 := [(0, (2, 0)), (1, (0, sp)), (2, (0, fo)), (3, (0, fi)), (4, (0, cr))]) rfl rfl rfl) ?_
  refine xg_t (xg_iload (va := (0, sp)) rfl rfl) ?_
  refine xg_t (xg_const) ?_
  refine xg_t (xg_bip) ?_
  refine xg_t (xg_cSr mX11_isIn (vs := [(0, sp), (0, 1), (0, 9)]) (rest := []) (rs := [(0, if 1 ≤ sp ∧ sp ≤ 9 then 1 else 0)]) (cn1 := 0) (sl1 := 0) rfl (isIn_ok (by omega) (by omega) (by omega)) rfl rfl rfl rfl rfl rfl rfl rfl) ?_
  by_cases hc21 : 1 ≤ sp ∧ sp ≤ 9
  · refine xg_t (xg_ifF (u := (if 1 ≤ sp ∧ sp ≤ 9 then 1 else 0)) rfl xnm0 (xj_eqF (xite1 hc21))) ?_
    refine xg_t (xg_iload (va := (0, fo)) rfl rfl) ?_
    refine xg_t (xg_const) ?_
    refine xg_t (xg_ldcw) ?_
    refine xg_t (xg_cSr mX11_isIn (vs := [(0, fo), (0, 1), (0, 999999)]) (rest := []) (rs := [(0, if 1 ≤ fo ∧ fo ≤ 999999 then 1 else 0)]) (cn1 := 0) (sl1 := 0) rfl (isIn_ok (by omega) (by omega) (by omega)) rfl rfl rfl rfl rfl rfl rfl rfl) ?_
    by_cases hc22 : 1 ≤ fo ∧ fo ≤ 999999
    · refine xg_t (xg_ifF (u := (if 1 ≤ fo ∧ fo ≤ 999999 then 1 else 0)) rfl xnm0 (xj_eqF (xite1 hc22))) ?_
      refine xg_t (xg_iload (va := (0, fi)) rfl rfl) ?_
      refine xg_t (xg_const) ?_
      refine xg_t (xg_bip) ?_
      refine xg_t (xg_cSr mX11_isIn (vs := [(0, fi), (0, 1), (0, 99)]) (rest := []) (rs := [(0, if 1 ≤ fi ∧ fi ≤ 99 then 1 else 0)]) (cn1 := 0) (sl1 := 0) rfl (isIn_ok (by omega) (by omega) (by omega)) rfl rfl rfl rfl rfl rfl rfl rfl) ?_
      by_cases hc23 : 1 ≤ fi ∧ fi ≤ 99
      · refine xg_t (xg_ifF (u := (if 1 ≤ fi ∧ fi ≤ 99 then 1 else 0)) rfl xnm0 (xj_eqF (xite1 hc23))) ?_
        refine xg_t (xg_iload (va := (0, cr)) rfl rfl) ?_
        refine xg_t (xg_const) ?_
        refine xg_t (xg_iload (va := (0, fi)) rfl rfl) ?_
        refine xg_t (xg_cSr mX11_isIn (vs := [(0, cr), (0, 0), (0, fi)]) (rest := []) (rs := [(0, if 0 ≤ cr ∧ cr ≤ fi then 1 else 0)]) (cn1 := 0) (sl1 := 0) rfl (isIn_ok (by omega) (by omega) (by omega)) rfl rfl rfl rfl rfl rfl rfl rfl) ?_
        by_cases hc24 : 0 ≤ cr ∧ cr ≤ fi
        · refine xg_t (xg_ifF (u := (if 0 ≤ cr ∧ cr ≤ fi then 1 else 0)) rfl xnm0 (xj_eqF (xite1 hc24))) ?_
          refine xg_t (xg_const) ?_
          refine xg_t (xg_goto) ?_
          refine xg_t (xg_blk (b := [(55, 2, 15, 6, 0, 0), (57, 2, 0, 5, 0, 0), (59, 3, 13, 289, 40, 198), (62, 3, 7, 70, 1, 0), (65, 2, 2, 6, 0, 0), (67, 3, 7, 72, 1, 0)]) rfl) ?_
          refine xg_t (xg_istore (l1 := [(5, (2, 20)), (0, (2, 0)), (1, (0, sp)), (2, (0, fo)), (3, (0, fi)), (4, (0, cr))]) rfl rfl rfl) ?_
          refine xg_t (xg_aload (va := (2, 20)) rfl rfl) ?_
          refine xg_t (xg_cVr mX5_isFull (vs := []) (rest := []) (rs := [(0, if 12 ≤ f20_15 then 1 else 0)]) (cn1 := 0) (sl1 := 0) rfl (rfull_ok h20_17 (by decide) (by omega)) rfl h20_17 rfl rfl rfl rfl rfl rfl rfl) ?_
          by_cases hc25 : 12 ≤ f20_15
          · refine xg_t (xg_ifT (u := (if 12 ≤ f20_15 then 1 else 0)) rfl xnm0 (xj_neT (xite1 hc25))) ?_
            refine xg_t (xg_blk (b := [(70, 1, 3, 4294967295, 0, 0), (71, 1, 12, 0, 1, 0)]) rfl) ?_
            refine xg_t (xg_const) ?_
            have hq26 : fld w 20 3 = f20_15 := fld_of h20_17
            exact xg_e ⟨4294967295, w, ⟨rfl, rfl⟩, ⟨Or.inr ⟨by omega, by omega, rfl⟩, fun h => absurd h (by omega), fun j _ _ => rfl⟩, hI, xFr.rf⟩
          · refine xg_t (xg_ifF (u := (if 12 ≤ f20_15 then 1 else 0)) rfl xnm0 (xj_neF (xite0 hc25))) ?_
            refine xg_t (xg_iload (va := (0, 1)) rfl rfl) ?_
            refine xg_t (xg_ifT (u := 1) rfl xnm0 (by decide)) ?_
            refine xg_t (xg_blk (b := [(72, 2, 0, 5, 0, 0), (74, 3, 13, 286, 40, 209), (77, 2, 15, 7, 0, 0), (79, 2, 0, 5, 0, 0), (81, 2, 2, 7, 0, 0), (83, 1, 3, 0, 0, 0), (84, 1, 2, 1, 0, 0), (85, 3, 13, 290, 40, 212), (88, 2, 0, 5, 0, 0), (90, 2, 2, 7, 0, 0), (92, 1, 3, 1, 0, 0), (93, 1, 2, 2, 0, 0), (94, 3, 13, 290, 40, 212), (97, 2, 0, 5, 0, 0), (99, 2, 2, 7, 0, 0), (101, 1, 3, 2, 0, 0), (102, 1, 2, 3, 0, 0), (103, 3, 13, 290, 40, 212), (106, 2, 0, 5, 0, 0), (108, 2, 2, 7, 0, 0), (110, 1, 3, 3, 0, 0), (111, 2, 2, 4, 0, 0), (113, 3, 13, 290, 40, 212), (116, 1, 0, 0, 0, 0), (117, 3, 1, 11, 8, 79), (120, 3, 13, 272, 32, 326), (123, 2, 2, 7, 0, 0), (125, 1, 12, 0, 1, 0)]) rfl) ?_
            refine xg_t (xg_aload (va := (2, 20)) rfl rfl) ?_
            refine xg_cV mX5_grow (vs := []) (rest := []) (rs := [(0, f20_15)]) (cn1 := 0) (sl1 := 0) rfl (rgrowX h20_17 (by decide) (by omega)) rfl h20_17 rfl rfl rfl rfl rfl rfl rfl (fun w27 hq28 => ?_)
            refine xg_t (xg_istore (l1 := [(6, (0, 1)), (5, (2, 20)), (0, (2, 0)), (1, (0, sp)), (2, (0, fo)), (3, (0, fi)), (4, (0, cr))]) rfl rfl rfl) ?_
            refine xg_t (xg_aload (va := (2, 20)) rfl rfl) ?_
            refine xg_t (xg_iload (va := (0, f20_15)) rfl rfl) ?_
            refine xg_t (xg_const) ?_
            refine xg_t (xg_iload (va := (0, sp)) rfl rfl) ?_
            refine xg_cVv mX5_put (vs := [(0, f20_15), (0, 0), (0, sp)]) (rest := []) (cn1 := 0) (sl1 := 0) rfl (rputX (lim := 12) (wd := 4) (B := 4294967295) hq28.1 (h21_19.but hq28.2 (by decide)) (hb20) (by decide) (by omega) (by decide) (by decide) (by omega) (by decide) (by omega)) rfl hq28.1 rfl rfl rfl rfl rfl rfl (fun w29 hq30 => ?_)
            obtain ⟨g31, hr32, hb33, he35, hk36, hb34⟩ := hq30
            refine xg_t (xg_aload (va := (2, 20)) rfl rfl) ?_
            refine xg_t (xg_iload (va := (0, f20_15)) rfl rfl) ?_
            refine xg_t (xg_const) ?_
            refine xg_t (xg_iload (va := (0, fo)) rfl rfl) ?_
            refine xg_cVv mX5_put (vs := [(0, f20_15), (0, 1), (0, fo)]) (rest := []) (cn1 := 0) (sl1 := 0) rfl (rputX (lim := 12) (wd := 4) (B := 4294967295) (hb34.get (by decide) hq28.1) hr32 (hb33) (by decide) (by omega) (by decide) (by decide) (by omega) (by decide) (by omega)) rfl (hb34.get (by decide) hq28.1) rfl rfl rfl rfl rfl rfl (fun w37 hq38 => ?_)
            obtain ⟨g39, hr40, hb41, he43, hk44, hb42⟩ := hq38
            refine xg_t (xg_aload (va := (2, 20)) rfl rfl) ?_
            refine xg_t (xg_iload (va := (0, f20_15)) rfl rfl) ?_
            refine xg_t (xg_const) ?_
            refine xg_t (xg_iload (va := (0, fi)) rfl rfl) ?_
            refine xg_cVv mX5_put (vs := [(0, f20_15), (0, 2), (0, fi)]) (rest := []) (cn1 := 0) (sl1 := 0) rfl (rputX (lim := 12) (wd := 4) (B := 4294967295) (hb42.get (by decide) (hb34.get (by decide) hq28.1)) hr40 (hb41) (by decide) (by omega) (by decide) (by decide) (by omega) (by decide) (by omega)) rfl (hb42.get (by decide) (hb34.get (by decide) hq28.1)) rfl rfl rfl rfl rfl rfl (fun w45 hq46 => ?_)
            obtain ⟨g47, hr48, hb49, he51, hk52, hb50⟩ := hq46
            refine xg_t (xg_aload (va := (2, 20)) rfl rfl) ?_
            refine xg_t (xg_iload (va := (0, f20_15)) rfl rfl) ?_
            refine xg_t (xg_const) ?_
            refine xg_t (xg_iload (va := (0, cr)) rfl rfl) ?_
            refine xg_cVv mX5_put (vs := [(0, f20_15), (0, 3), (0, cr)]) (rest := []) (cn1 := 0) (sl1 := 0) rfl (rputX (lim := 12) (wd := 4) (B := 4294967295) (hb50.get (by decide) (hb42.get (by decide) (hb34.get (by decide) hq28.1))) hr48 (hb49) (by decide) (by omega) (by decide) (by decide) (by omega) (by decide) (by omega)) rfl (hb50.get (by decide) (hb42.get (by decide) (hb34.get (by decide) hq28.1))) rfl rfl rfl rfl rfl rfl (fun w53 hq54 => ?_)
            obtain ⟨g55, hr56, hb57, he59, hk60, hb58⟩ := hq54
            refine xg_t (xg_aload (va := (2, 0)) rfl rfl) ?_
            refine xg_t (xg_getf (va := (2, 76)) (hb58.get (by decide) (hb50.get (by decide) (hb42.get (by decide) (hb34.get (by decide) (hq28.2.get (by decide) h0_1))))) rfl) ?_
            obtain ⟨f76_61, f76_63, f76_65, f76_67, f76_69, f76_71, f76_73, f76_75, h76_77, hb62, hb64, hb66, hb68, hb70, hb72, hb74, hb76⟩ := (hI 76 (by decide) : cp76 (wget w 76))
            refine xg_cVv mX4_forget (vs := []) (rest := []) (cn1 := 0) (sl1 := 0) rfl (lwForgetE (xInv.up (S := [20, 21]) hI (((((xFr.of (S := [20, 21]) hq28.2 (by decide)).tr (xFr.of (S := [20, 21]) hb34 (by decide))).tr (xFr.of (S := [20, 21]) hb42 (by decide))).tr (xFr.of (S := [20, 21]) hb50 (by decide))).tr (xFr.of (S := [20, 21]) hb58 (by decide))) (List.forall_mem_cons.mpr ⟨(show cp20 (wget w53 20) from ⟨(f20_15 + 1), (hb58.get (by decide) (hb50.get (by decide) (hb42.get (by decide) (hb34.get (by decide) hq28.1)))), by omega⟩), List.forall_mem_cons.mpr ⟨(show cpI 48 9 4294967295 (wget w53 21) from ⟨_, hr56, hb57⟩), fun _ h => absurd h List.not_mem_nil⟩⟩))) rfl (hb58.get (by decide) (hb50.get (by decide) (hb42.get (by decide) (hb34.get (by decide) (hq28.2.get (by decide) h76_77))))) rfl rfl rfl rfl rfl rfl (fun w78 hq79 => ?_)
            obtain ⟨hI80, hF81, hx82⟩ := hq79
            obtain ⟨hg83, hg84, hg85⟩ := hx82
            refine xg_t (xg_iload (va := (0, f20_15)) rfl rfl) ?_
            have hq86 : fld w 20 3 = f20_15 := fld_of h20_17
            have hq87 : fld w78 20 3 = (f20_15 + 1) := fld_of (hF81.get (by decide) (hb58.get (by decide) (hb50.get (by decide) (hb42.get (by decide) (hb34.get (by decide) hq28.1)))))
            have hq89 : 4 * fld w 20 3 = f20_15 * 4 + 0 := by omega
            have hq88 : rwv w78 21 (4 * fld w 20 3) = sp := by
              rw [hq89, rwv_of (hr56.fr hF81 (by decide)) (by omega), hk60 _ (by omega), hk52 _ (by omega), hk44 _ (by omega), he35]
            have hq91 : 4 * fld w 20 3 + 1 = f20_15 * 4 + 1 := by omega
            have hq90 : rwv w78 21 (4 * fld w 20 3 + 1) = fo := by
              rw [hq91, rwv_of (hr56.fr hF81 (by decide)) (by omega), hk60 _ (by omega), hk52 _ (by omega), he43]
            have hq93 : 4 * fld w 20 3 + 2 = f20_15 * 4 + 2 := by omega
            have hq92 : rwv w78 21 (4 * fld w 20 3 + 2) = fi := by
              rw [hq93, rwv_of (hr56.fr hF81 (by decide)) (by omega), hk60 _ (by omega), he51]
            have hq95 : 4 * fld w 20 3 + 3 = f20_15 * 4 + 3 := by omega
            have hq94 : rwv w78 21 (4 * fld w 20 3 + 3) = cr := by
              rw [hq95, rwv_of (hr56.fr hF81 (by decide)) (by omega), he59]
            exact xg_e ⟨f20_15, w78, ⟨rfl, rfl⟩, ⟨Or.inl ⟨by omega, by omega, by omega, by omega, hg83, hg84, hg85⟩, fun _ => ⟨hq88, hq90, hq92, hq94⟩, fun j hj h => (rwv_of (hr56.fr hF81 (by decide)) h).trans (Eq.trans (by rw [hk60 j (by omega), hk52 j (by omega), hk44 j (by omega), hk36 j (by omega)]) (rwv_of h21_19 h).symm)⟩, hI80, ((((((xFr.of (S := [20, 21, 76]) hq28.2 (by decide)).tr (xFr.of (S := [20, 21, 76]) hb34 (by decide))).tr (xFr.of (S := [20, 21, 76]) hb42 (by decide))).tr (xFr.of (S := [20, 21, 76]) hb50 (by decide))).tr (xFr.of (S := [20, 21, 76]) hb58 (by decide))).tr (hF81.up (by decide)))⟩
        · refine xg_t (xg_ifT (u := (if 0 ≤ cr ∧ cr ≤ fi then 1 else 0)) rfl xnm0 (xj_eqT (xite0 hc24))) ?_
          refine xg_t (xg_blk (b := [(54, 1, 3, 0, 0, 0)]) rfl) ?_
          refine xg_t (xg_const) ?_
          refine xg_t (xg_blk (b := [(55, 2, 15, 6, 0, 0), (57, 2, 0, 5, 0, 0), (59, 3, 13, 289, 40, 198), (62, 3, 7, 70, 1, 0), (65, 2, 2, 6, 0, 0), (67, 3, 7, 72, 1, 0)]) rfl) ?_
          refine xg_t (xg_istore (l1 := [(5, (2, 20)), (0, (2, 0)), (1, (0, sp)), (2, (0, fo)), (3, (0, fi)), (4, (0, cr))]) rfl rfl rfl) ?_
          refine xg_t (xg_aload (va := (2, 20)) rfl rfl) ?_
          refine xg_t (xg_cVr mX5_isFull (vs := []) (rest := []) (rs := [(0, if 12 ≤ f20_15 then 1 else 0)]) (cn1 := 0) (sl1 := 0) rfl (rfull_ok h20_17 (by decide) (by omega)) rfl h20_17 rfl rfl rfl rfl rfl rfl rfl) ?_
          by_cases hc96 : 12 ≤ f20_15
          · refine xg_t (xg_ifT (u := (if 12 ≤ f20_15 then 1 else 0)) rfl xnm0 (xj_neT (xite1 hc96))) ?_
            refine xg_t (xg_blk (b := [(70, 1, 3, 4294967295, 0, 0), (71, 1, 12, 0, 1, 0)]) rfl) ?_
            refine xg_t (xg_const) ?_
            have hq97 : fld w 20 3 = f20_15 := fld_of h20_17
            exact xg_e ⟨4294967295, w, ⟨rfl, rfl⟩, ⟨Or.inr ⟨by omega, by omega, rfl⟩, fun h => absurd h (by omega), fun j _ _ => rfl⟩, hI, xFr.rf⟩
          · refine xg_t (xg_ifF (u := (if 12 ≤ f20_15 then 1 else 0)) rfl xnm0 (xj_neF (xite0 hc96))) ?_
            refine xg_t (xg_iload (va := (0, 0)) rfl rfl) ?_
            refine xg_t (xg_ifF (u := 0) rfl xnm0 (by decide)) ?_
            refine xg_t (xg_blk (b := [(70, 1, 3, 4294967295, 0, 0), (71, 1, 12, 0, 1, 0)]) rfl) ?_
            refine xg_t (xg_const) ?_
            have hq98 : fld w 20 3 = f20_15 := fld_of h20_17
            exact xg_e ⟨4294967295, w, ⟨rfl, rfl⟩, ⟨Or.inr ⟨by omega, by omega, rfl⟩, fun h => absurd h (by omega), fun j _ _ => rfl⟩, hI, xFr.rf⟩
      · refine xg_t (xg_ifT (u := (if 1 ≤ fi ∧ fi ≤ 99 then 1 else 0)) rfl xnm0 (xj_eqT (xite0 hc23))) ?_
        refine xg_t (xg_blk (b := [(54, 1, 3, 0, 0, 0)]) rfl) ?_
        refine xg_t (xg_const) ?_
        refine xg_t (xg_blk (b := [(55, 2, 15, 6, 0, 0), (57, 2, 0, 5, 0, 0), (59, 3, 13, 289, 40, 198), (62, 3, 7, 70, 1, 0), (65, 2, 2, 6, 0, 0), (67, 3, 7, 72, 1, 0)]) rfl) ?_
        refine xg_t (xg_istore (l1 := [(5, (2, 20)), (0, (2, 0)), (1, (0, sp)), (2, (0, fo)), (3, (0, fi)), (4, (0, cr))]) rfl rfl rfl) ?_
        refine xg_t (xg_aload (va := (2, 20)) rfl rfl) ?_
        refine xg_t (xg_cVr mX5_isFull (vs := []) (rest := []) (rs := [(0, if 12 ≤ f20_15 then 1 else 0)]) (cn1 := 0) (sl1 := 0) rfl (rfull_ok h20_17 (by decide) (by omega)) rfl h20_17 rfl rfl rfl rfl rfl rfl rfl) ?_
        by_cases hc99 : 12 ≤ f20_15
        · refine xg_t (xg_ifT (u := (if 12 ≤ f20_15 then 1 else 0)) rfl xnm0 (xj_neT (xite1 hc99))) ?_
          refine xg_t (xg_blk (b := [(70, 1, 3, 4294967295, 0, 0), (71, 1, 12, 0, 1, 0)]) rfl) ?_
          refine xg_t (xg_const) ?_
          have hq100 : fld w 20 3 = f20_15 := fld_of h20_17
          exact xg_e ⟨4294967295, w, ⟨rfl, rfl⟩, ⟨Or.inr ⟨by omega, by omega, rfl⟩, fun h => absurd h (by omega), fun j _ _ => rfl⟩, hI, xFr.rf⟩
        · refine xg_t (xg_ifF (u := (if 12 ≤ f20_15 then 1 else 0)) rfl xnm0 (xj_neF (xite0 hc99))) ?_
          refine xg_t (xg_iload (va := (0, 0)) rfl rfl) ?_
          refine xg_t (xg_ifF (u := 0) rfl xnm0 (by decide)) ?_
          refine xg_t (xg_blk (b := [(70, 1, 3, 4294967295, 0, 0), (71, 1, 12, 0, 1, 0)]) rfl) ?_
          refine xg_t (xg_const) ?_
          have hq101 : fld w 20 3 = f20_15 := fld_of h20_17
          exact xg_e ⟨4294967295, w, ⟨rfl, rfl⟩, ⟨Or.inr ⟨by omega, by omega, rfl⟩, fun h => absurd h (by omega), fun j _ _ => rfl⟩, hI, xFr.rf⟩
    · refine xg_t (xg_ifT (u := (if 1 ≤ fo ∧ fo ≤ 999999 then 1 else 0)) rfl xnm0 (xj_eqT (xite0 hc22))) ?_
      refine xg_t (xg_blk (b := [(54, 1, 3, 0, 0, 0)]) rfl) ?_
      refine xg_t (xg_const) ?_
      refine xg_t (xg_blk (b := [(55, 2, 15, 6, 0, 0), (57, 2, 0, 5, 0, 0), (59, 3, 13, 289, 40, 198), (62, 3, 7, 70, 1, 0), (65, 2, 2, 6, 0, 0), (67, 3, 7, 72, 1, 0)]) rfl) ?_
      refine xg_t (xg_istore (l1 := [(5, (2, 20)), (0, (2, 0)), (1, (0, sp)), (2, (0, fo)), (3, (0, fi)), (4, (0, cr))]) rfl rfl rfl) ?_
      refine xg_t (xg_aload (va := (2, 20)) rfl rfl) ?_
      refine xg_t (xg_cVr mX5_isFull (vs := []) (rest := []) (rs := [(0, if 12 ≤ f20_15 then 1 else 0)]) (cn1 := 0) (sl1 := 0) rfl (rfull_ok h20_17 (by decide) (by omega)) rfl h20_17 rfl rfl rfl rfl rfl rfl rfl) ?_
      by_cases hc102 : 12 ≤ f20_15
      · refine xg_t (xg_ifT (u := (if 12 ≤ f20_15 then 1 else 0)) rfl xnm0 (xj_neT (xite1 hc102))) ?_
        refine xg_t (xg_blk (b := [(70, 1, 3, 4294967295, 0, 0), (71, 1, 12, 0, 1, 0)]) rfl) ?_
        refine xg_t (xg_const) ?_
        have hq103 : fld w 20 3 = f20_15 := fld_of h20_17
        exact xg_e ⟨4294967295, w, ⟨rfl, rfl⟩, ⟨Or.inr ⟨by omega, by omega, rfl⟩, fun h => absurd h (by omega), fun j _ _ => rfl⟩, hI, xFr.rf⟩
      · refine xg_t (xg_ifF (u := (if 12 ≤ f20_15 then 1 else 0)) rfl xnm0 (xj_neF (xite0 hc102))) ?_
        refine xg_t (xg_iload (va := (0, 0)) rfl rfl) ?_
        refine xg_t (xg_ifF (u := 0) rfl xnm0 (by decide)) ?_
        refine xg_t (xg_blk (b := [(70, 1, 3, 4294967295, 0, 0), (71, 1, 12, 0, 1, 0)]) rfl) ?_
        refine xg_t (xg_const) ?_
        have hq104 : fld w 20 3 = f20_15 := fld_of h20_17
        exact xg_e ⟨4294967295, w, ⟨rfl, rfl⟩, ⟨Or.inr ⟨by omega, by omega, rfl⟩, fun h => absurd h (by omega), fun j _ _ => rfl⟩, hI, xFr.rf⟩
  · refine xg_t (xg_ifT (u := (if 1 ≤ sp ∧ sp ≤ 9 then 1 else 0)) rfl xnm0 (xj_eqT (xite0 hc21))) ?_
    refine xg_t (xg_blk (b := [(54, 1, 3, 0, 0, 0)]) rfl) ?_
    refine xg_t (xg_const) ?_
    refine xg_t (xg_blk (b := [(55, 2, 15, 6, 0, 0), (57, 2, 0, 5, 0, 0), (59, 3, 13, 289, 40, 198), (62, 3, 7, 70, 1, 0), (65, 2, 2, 6, 0, 0), (67, 3, 7, 72, 1, 0)]) rfl) ?_
    refine xg_t (xg_istore (l1 := [(5, (2, 20)), (0, (2, 0)), (1, (0, sp)), (2, (0, fo)), (3, (0, fi)), (4, (0, cr))]) rfl rfl rfl) ?_
    refine xg_t (xg_aload (va := (2, 20)) rfl rfl) ?_
    refine xg_t (xg_cVr mX5_isFull (vs := []) (rest := []) (rs := [(0, if 12 ≤ f20_15 then 1 else 0)]) (cn1 := 0) (sl1 := 0) rfl (rfull_ok h20_17 (by decide) (by omega)) rfl h20_17 rfl rfl rfl rfl rfl rfl rfl) ?_
    by_cases hc105 : 12 ≤ f20_15
    · refine xg_t (xg_ifT (u := (if 12 ≤ f20_15 then 1 else 0)) rfl xnm0 (xj_neT (xite1 hc105))) ?_
      refine xg_t (xg_blk (b := [(70, 1, 3, 4294967295, 0, 0), (71, 1, 12, 0, 1, 0)]) rfl) ?_
      refine xg_t (xg_const) ?_
      have hq106 : fld w 20 3 = f20_15 := fld_of h20_17
      exact xg_e ⟨4294967295, w, ⟨rfl, rfl⟩, ⟨Or.inr ⟨by omega, by omega, rfl⟩, fun h => absurd h (by omega), fun j _ _ => rfl⟩, hI, xFr.rf⟩
    · refine xg_t (xg_ifF (u := (if 12 ≤ f20_15 then 1 else 0)) rfl xnm0 (xj_neF (xite0 hc105))) ?_
      refine xg_t (xg_iload (va := (0, 0)) rfl rfl) ?_
      refine xg_t (xg_ifF (u := 0) rfl xnm0 (by decide)) ?_
      refine xg_t (xg_blk (b := [(70, 1, 3, 4294967295, 0, 0), (71, 1, 12, 0, 1, 0)]) rfl) ?_
      refine xg_t (xg_const) ?_
      have hq107 : fld w 20 3 = f20_15 := fld_of h20_17
      exact xg_e ⟨4294967295, w, ⟨rfl, rfl⟩, ⟨Or.inr ⟨by omega, by omega, rfl⟩, fun h => absurd h (by omega), fun j _ _ => rfl⟩, hI, xFr.rf⟩
end XCE
