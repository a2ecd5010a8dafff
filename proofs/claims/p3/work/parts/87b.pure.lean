section
/-- numbers of the tests that were told -/
def tsV (t : Nat → Nat) (n : Nat) : Prop := n ≤ 12 ∧ ∀ i, i < n → (1 ≤ t (4 * i) ∧ t (4 * i) ≤ 9) ∧ t (4 * i + 1) ≤ 999999 ∧ t (4 * i + 2) ≤ 99 ∧ t (4 * i + 3) ≤ 99
theorem tsV.cg {t t' : Nat → Nat} {n : Nat} (h : tsV t n) (e : ∀ j, j < n * 4 → t' j = t j) : tsV t' n := by
  obtain ⟨h1, h2⟩ := h
  refine ⟨h1, fun i hi => ?_⟩
  rw [e (4 * i) (by omega), e (4 * i + 1) (by omega), e (4 * i + 2) (by omega), e (4 * i + 3) (by omega)]
  exact h2 i hi
end
section
/-! the class: what the calls do to tape, day, hands, tests -/
section XCE
variable {d : Nat} {w : List (List xE)} {bd : List (Nat × Nat)} {fc : List (Nat × Nat × Bool)} {rr : Nat × Nat}
theorem rgrowX {r a lim wd sz : Nat} (h : xRs w r a lim wd sz) (hl : lim < 2147483648) (hsz : sz < lim) : xPq (d + 1) mX5_grow [(2, r)] w bd fc rr [(0, sz)] (fun w' => xRs w' r a lim wd (sz + 1) ∧ xBut r w w') := by
  have k := rgrow_ok (d := d) (bd := bd) (fc := fc) (rr := rr) h hl (Nat.le_of_lt hsz)
  rw [if_pos hsz, if_pos hsz] at k
  exact k
theorem rputX {r a lim wd sz t B row what num : Nat} {f : Nat → Nat} (h : xRs w r a lim wd sz) (hf : xRow w a (lim * wd) t f) (hB : ∀ j, f j ≤ B) (hl : lim < 2147483648) (hsz : sz ≤ lim) (hw : wd < 2147483648) (hL : lim * wd < 2147483648) (h1 : row < sz) (h2 : what < wd) (hn : num ≤ B) : xPq (d + 1) mX5_put [(2, r), (0, row), (0, what), (0, num)] w bd fc rr [] (fun w' => ∃ g, xRow w' a (lim * wd) t g ∧ (∀ j, g j ≤ B) ∧ g (row * wd + what) = num ∧ (∀ j, j ≠ row * wd + what → g j = f j) ∧ xBut a w w') := by
  obtain ⟨w', ⟨q1, q2⟩, q3⟩ := rput_ok (d := d) (bd := bd) (fc := fc) (rr := rr) (row := row) (what := what) (num := num) h hf hl hsz hw hL (by omega) (by omega)
  refine ⟨w', ⟨_, q1, fun j => ?_, if_pos ⟨⟨h1, h2⟩, rfl⟩, fun j hj => if_neg (fun z => hj z.2), q2⟩, q3⟩
  show (if (row < sz ∧ what < wd) ∧ j = row * wd + what then num else f j) ≤ B
  split
  · exact hn
  · exact hB j
theorem scDayX {dy : Nat} (hI : xInv w) (hdy : dy ≤ 4294967295) : xPi (d + 1) mX11_day [(2, 0), (0, dy)] w bd fc rr (fun n w' => (((n = 1 ∧ ¬ xbs dy < xbs (fld w 1 6) ∧ ¬ xbs 999 < xbs dy ∧ fld w' 1 6 = dy) ∨ (n = 0 ∧ (xbs dy < xbs (fld w 1 6) ∨ xbs 999 < xbs dy) ∧ fld w' 1 6 = fld w 1 6)) ∧ fld w' 1 1 = fld w 1 1 ∧ fld w' 1 2 = fld w 1 2 ∧ fld w' 1 3 = fld w 1 3 ∧ fld w' 1 7 = fld w 1 7 ∧ fld w' 1 9 = fld w 1 9) ∧ xInv w' ∧ xFr [1] w w') := by
  refine xPi.of ?_
  show xTo (d + 1) mX11_day (0, [], [(0, (2, 0)), (1, (0, dy))], [], (w, bd, fc, 0, 0, rr)) (fun φ => ∃ n w', xEnd 4 [(0, n)] (w', bd, fc, 0, 0, rr) φ ∧ (((n = 1 ∧ ¬ xbs dy < xbs (fld w 1 6) ∧ ¬ xbs 999 < xbs dy ∧ fld w' 1 6 = dy) ∨ (n = 0 ∧ (xbs dy < xbs (fld w 1 6) ∨ xbs 999 < xbs dy) ∧ fld w' 1 6 = fld w 1 6)) ∧ fld w' 1 1 = fld w 1 1 ∧ fld w' 1 2 = fld w 1 2 ∧ fld w' 1 3 = fld w 1 3 ∧ fld w' 1 7 = fld w 1 7 ∧ fld w' 1 9 = fld w 1 9) ∧ xInv w' ∧ xFr [1] w w')
  have h0_1 := (xqc0 hI : cp0 (wget w 0))
  refine xoC1 (xqc1 hI : cp1 (wget w 1)) (fun f1_2 f1_4 f1_6 f1_8 f1_10 f1_12 h1_14 hb3 hb5 hb7 hb9 hb11 hb13 => ?_)
  refine xg_t (xg_blq rfl) ?_
  refine xg_t (xg_iload (va := (0, dy)) rfl rfl) ?_
  refine xg_t (xg_aload (va := (2, 0)) rfl rfl) ?_
  refine xg_t (xg_getf (va := (2, 1)) h0_1 rfl) ?_
  refine xg_t (xg_getf (va := (0, f1_8)) h1_14 rfl) ?_
  by_cases hc15 : xbs dy < xbs f1_8
  · have hc15u := hc15
    unfold xbs at hc15u
    refine xg_t (xg_icT (u := dy) (v := f1_8) rfl xnm0 xnm0 (xjs_ltT hc15)) ?_
    refine xg_t (xg_blq rfl) ?_
    refine xg_t (xg_const) ?_
    have hq16 : fld w 1 1 = f1_2 := fld_of h1_14
    have hq17 : fld w 1 2 = f1_4 := fld_of h1_14
    have hq18 : fld w 1 3 = f1_6 := fld_of h1_14
    have hq19 : fld w 1 6 = f1_8 := fld_of h1_14
    have hq20 : xbs (fld w 1 6) = xbs f1_8 := congrArg xbs hq19
    have hq21 : fld w 1 7 = f1_10 := fld_of h1_14
    have hq22 : fld w 1 9 = f1_12 := fld_of h1_14
    exact xg_e ⟨0, w, ⟨rfl, rfl⟩, ⟨by omega, by omega, by omega, by omega, by omega, by omega⟩, hI, xFr.rf⟩
  · have hc15u := hc15
    unfold xbs at hc15u
    refine xg_t (xg_icF (u := dy) (v := f1_8) rfl xnm0 xnm0 (xjs_ltF hc15)) ?_
    refine xg_t (xg_iload (va := (0, dy)) rfl rfl) ?_
    refine xg_t (xg_sip) ?_
    by_cases hc23 : xbs 999 < xbs dy
    · have hc23u := hc23
      unfold xbs at hc23u
      have hn24 : dy ≤ 2147483647 := by omega
      refine xg_t (xg_icF (u := dy) (v := 999) rfl xnm0 xnm0 (xjs_leF hc23)) ?_
      refine xg_t (xg_blq rfl) ?_
      refine xg_t (xg_const) ?_
      have hq25 : fld w 1 1 = f1_2 := fld_of h1_14
      have hq26 : fld w 1 2 = f1_4 := fld_of h1_14
      have hq27 : fld w 1 3 = f1_6 := fld_of h1_14
      have hq28 : fld w 1 6 = f1_8 := fld_of h1_14
      have hq29 : xbs (fld w 1 6) = xbs f1_8 := congrArg xbs hq28
      have hq30 : fld w 1 7 = f1_10 := fld_of h1_14
      have hq31 : fld w 1 9 = f1_12 := fld_of h1_14
      exact xg_e ⟨0, w, ⟨rfl, rfl⟩, ⟨by omega, by omega, by omega, by omega, by omega, by omega⟩, hI, xFr.rf⟩
    · have hc23u := hc23
      unfold xbs at hc23u
      refine xg_t (xg_icT (u := dy) (v := 999) rfl xnm0 xnm0 (xjs_leT hc23)) ?_
      refine xg_t (xg_blq rfl) ?_
      refine xg_t (xg_aload (va := (2, 0)) rfl rfl) ?_
      refine xg_t (xg_getf (va := (2, 1)) h0_1 rfl) ?_
      refine xg_t (xg_iload (va := (0, dy)) rfl rfl) ?_
      refine xg_putI (fl1 := [(2, 2), (0, f1_2), (0, f1_4), (0, f1_6), (2, 3), (2, 14), (0, dy), (0, f1_10), (2, 16), (0, f1_12), (2, 18), (2, 20), (2, 22), (2, 24)]) h1_14 rfl rfl rfl (fun w32 hk33 hb34 => ?_)
      refine xg_t (xg_const) ?_
      have hq35 : fld w 1 1 = f1_2 := fld_of h1_14
      have hq36 : fld w32 1 1 = f1_2 := fld_of hk33
      have hq37 : fld w 1 2 = f1_4 := fld_of h1_14
      have hq38 : fld w32 1 2 = f1_4 := fld_of hk33
      have hq39 : fld w 1 3 = f1_6 := fld_of h1_14
      have hq40 : fld w32 1 3 = f1_6 := fld_of hk33
      have hq41 : fld w 1 6 = f1_8 := fld_of h1_14
      have hq42 : xbs (fld w 1 6) = xbs f1_8 := congrArg xbs hq41
      have hq43 : fld w32 1 6 = dy := fld_of hk33
      have hq44 : fld w 1 7 = f1_10 := fld_of h1_14
      have hq45 : fld w32 1 7 = f1_10 := fld_of hk33
      have hq46 : fld w 1 9 = f1_12 := fld_of h1_14
      have hq47 : fld w32 1 9 = f1_12 := fld_of hk33
      exact xg_e ⟨1, w32, ⟨rfl, rfl⟩, ⟨by omega, by omega, by omega, by omega, by omega, by omega⟩, xInv.up (S := [1]) hI (xFr.of (S := [1]) hb34 (by decide)) (List.forall_mem_cons.mpr ⟨xqu1 (show cp1 (wget w32 1) from xmC1 f1_2 f1_4 f1_6 dy f1_10 f1_12 hk33 hb3 hb5 hb7 (by omega) hb11 hb13), fun _ h => absurd h List.not_mem_nil⟩), (xFr.of (S := [1]) hb34 (by decide))⟩
theorem scViewX {dy : Nat} (hI : xInv w) (hdy : dy ≤ 4294967295) : xPi (d + 1) mX11_view [(2, 0), (0, dy)] w bd fc rr (fun n w' => (((n = 1 ∧ ¬ xbs dy < xbs 4294967295 ∧ ¬ xbs (fld w 1 6) < xbs dy ∧ fld w' 1 7 = dy) ∨ (n = 0 ∧ (xbs dy < xbs 4294967295 ∨ xbs (fld w 1 6) < xbs dy) ∧ fld w' 1 7 = fld w 1 7)) ∧ fld w' 1 1 = fld w 1 1 ∧ fld w' 1 2 = fld w 1 2 ∧ fld w' 1 3 = fld w 1 3 ∧ fld w' 1 6 = fld w 1 6 ∧ fld w' 1 9 = fld w 1 9) ∧ xInv w' ∧ xFr [1, 58] w w') := by
  refine xPi.of ?_
  show xTo (d + 1) mX11_view (0, [], [(0, (2, 0)), (1, (0, dy))], [], (w, bd, fc, 0, 0, rr)) (fun φ => ∃ n w', xEnd 4 [(0, n)] (w', bd, fc, 0, 0, rr) φ ∧ (((n = 1 ∧ ¬ xbs dy < xbs 4294967295 ∧ ¬ xbs (fld w 1 6) < xbs dy ∧ fld w' 1 7 = dy) ∨ (n = 0 ∧ (xbs dy < xbs 4294967295 ∨ xbs (fld w 1 6) < xbs dy) ∧ fld w' 1 7 = fld w 1 7)) ∧ fld w' 1 1 = fld w 1 1 ∧ fld w' 1 2 = fld w 1 2 ∧ fld w' 1 3 = fld w 1 3 ∧ fld w' 1 6 = fld w 1 6 ∧ fld w' 1 9 = fld w 1 9) ∧ xInv w' ∧ xFr [1, 58] w w')
  have h0_1 := (xqc0 hI : cp0 (wget w 0))
  refine xoC1 (xqc1 hI : cp1 (wget w 1)) (fun f1_2 f1_4 f1_6 f1_8 f1_10 f1_12 h1_14 hb3 hb5 hb7 hb9 hb11 hb13 => ?_)
  refine xg_t (xg_blq rfl) ?_
  refine xg_t (xg_iload (va := (0, dy)) rfl rfl) ?_
  refine xg_t (xg_const) ?_
  by_cases hc15 : xbs dy < xbs 4294967295
  · have hc15u := hc15
    unfold xbs at hc15u
    refine xg_t (xg_icT (u := dy) (v := 4294967295) rfl xnm0 xnm0 (xjs_ltT hc15)) ?_
    refine xg_t (xg_blq rfl) ?_
    refine xg_t (xg_const) ?_
    have hq16 : fld w 1 1 = f1_2 := fld_of h1_14
    have hq17 : fld w 1 2 = f1_4 := fld_of h1_14
    have hq18 : fld w 1 3 = f1_6 := fld_of h1_14
    have hq19 : fld w 1 6 = f1_8 := fld_of h1_14
    have hq20 : xbs (fld w 1 6) = xbs f1_8 := congrArg xbs hq19
    have hq21 : fld w 1 7 = f1_10 := fld_of h1_14
    have hq22 : fld w 1 9 = f1_12 := fld_of h1_14
    exact xg_e ⟨0, w, ⟨rfl, rfl⟩, ⟨by omega, by omega, by omega, by omega, by omega, by omega⟩, hI, xFr.rf⟩
  · have hc15u := hc15
    unfold xbs at hc15u
    refine xg_t (xg_icF (u := dy) (v := 4294967295) rfl xnm0 xnm0 (xjs_ltF hc15)) ?_
    refine xg_t (xg_iload (va := (0, dy)) rfl rfl) ?_
    refine xg_t (xg_aload (va := (2, 0)) rfl rfl) ?_
    refine xg_t (xg_getf (va := (2, 1)) h0_1 rfl) ?_
    refine xg_t (xg_getf (va := (0, f1_8)) h1_14 rfl) ?_
    by_cases hc23 : xbs f1_8 < xbs dy
    · have hc23u := hc23
      unfold xbs at hc23u
      refine xg_t (xg_icF (u := dy) (v := f1_8) rfl xnm0 xnm0 (xjs_leF hc23)) ?_
      refine xg_t (xg_blq rfl) ?_
      refine xg_t (xg_const) ?_
      have hq24 : fld w 1 1 = f1_2 := fld_of h1_14
      have hq25 : fld w 1 2 = f1_4 := fld_of h1_14
      have hq26 : fld w 1 3 = f1_6 := fld_of h1_14
      have hq27 : fld w 1 6 = f1_8 := fld_of h1_14
      have hq28 : xbs (fld w 1 6) = xbs f1_8 := congrArg xbs hq27
      have hq29 : fld w 1 7 = f1_10 := fld_of h1_14
      have hq30 : fld w 1 9 = f1_12 := fld_of h1_14
      exact xg_e ⟨0, w, ⟨rfl, rfl⟩, ⟨by omega, by omega, by omega, by omega, by omega, by omega⟩, hI, xFr.rf⟩
    · have hc23u := hc23
      unfold xbs at hc23u
      refine xg_t (xg_icT (u := dy) (v := f1_8) rfl xnm0 xnm0 (xjs_leT hc23)) ?_
      refine xg_t (xg_blq rfl) ?_
      refine xg_t (xg_aload (va := (2, 0)) rfl rfl) ?_
      refine xg_t (xg_getf (va := (2, 1)) h0_1 rfl) ?_
      refine xg_t (xg_iload (va := (0, dy)) rfl rfl) ?_
      refine xg_putI (fl1 := [(2, 2), (0, f1_2), (0, f1_4), (0, f1_6), (2, 3), (2, 14), (0, f1_8), (0, dy), (2, 16), (0, f1_12), (2, 18), (2, 20), (2, 22), (2, 24)]) h1_14 rfl rfl rfl (fun w31 hk32 hb33 => ?_)
      refine xg_t (xg_aload (va := (2, 0)) rfl rfl) ?_
      refine xg_t (xg_getf (va := (2, 58)) (hb33.get (by decide) h0_1) rfl) ?_
      refine xoC58 (xqc58 hI : cp58 (wget w 58)) (fun f58_34 f58_36 f58_38 h58_40 hb35 hb37 hb39 => ?_)
      refine xg_cVv mX10_forget (vs := []) (rest := []) (cn1 := 0) (sl1 := 0) rfl (wyForgetE (xInv.up (S := [1]) hI (xFr.of (S := [1]) hb33 (by decide)) (List.forall_mem_cons.mpr ⟨xqu1 (show cp1 (wget w31 1) from xmC1 f1_2 f1_4 f1_6 f1_8 dy f1_12 hk32 hb3 hb5 hb7 hb9 (by omega) hb13), fun _ h => absurd h List.not_mem_nil⟩))) rfl (hb33.get (by decide) h58_40) rfl rfl rfl rfl rfl rfl (fun w41 hq42 => ?_)
      obtain ⟨hI43, hF44, hx45⟩ := hq42
      refine xg_t (xg_const) ?_
      have hq46 : fld w 1 1 = f1_2 := fld_of h1_14
      have hq47 : fld w41 1 1 = f1_2 := fld_of (hF44.get (by decide) hk32)
      have hq48 : fld w 1 2 = f1_4 := fld_of h1_14
      have hq49 : fld w41 1 2 = f1_4 := fld_of (hF44.get (by decide) hk32)
      have hq50 : fld w 1 3 = f1_6 := fld_of h1_14
      have hq51 : fld w41 1 3 = f1_6 := fld_of (hF44.get (by decide) hk32)
      have hq52 : fld w 1 6 = f1_8 := fld_of h1_14
      have hq53 : xbs (fld w 1 6) = xbs f1_8 := congrArg xbs hq52
      have hq54 : fld w41 1 6 = f1_8 := fld_of (hF44.get (by decide) hk32)
      have hq55 : fld w 1 7 = f1_10 := fld_of h1_14
      have hq56 : fld w41 1 7 = dy := fld_of (hF44.get (by decide) hk32)
      have hq57 : fld w 1 9 = f1_12 := fld_of h1_14
      have hq58 : fld w41 1 9 = f1_12 := fld_of (hF44.get (by decide) hk32)
      exact xg_e ⟨1, w41, ⟨rfl, rfl⟩, ⟨by omega, by omega, by omega, by omega, by omega, by omega⟩, hI43, ((xFr.of (S := [1, 58]) hb33 (by decide)).tr (hF44.up (by decide)))⟩
theorem scEndX {ne : Nat} (hI : xInv w) (hne : ne ≤ 4294967295) : xPi (d + 1) mX11_end [(2, 0), (0, ne)] w bd fc rr (fun n w' => (((n = ne ∧ ne ≤ fld w 1 1 ∧ fld w' 1 1 = ne) ∨ (n = 4294967295 ∧ ¬ ne ≤ fld w 1 1 ∧ fld w' 1 1 = fld w 1 1)) ∧ fld w' 1 2 = fld w 1 2 ∧ fld w' 1 3 = fld w 1 3 ∧ fld w' 1 6 = fld w 1 6 ∧ fld w' 1 7 = fld w 1 7 ∧ fld w' 1 9 = fld w 1 9) ∧ xInv w' ∧ xFr [1] w w') := by
  refine xPi.of ?_
  show xTo (d + 1) mX11_end (0, [], [(0, (2, 0)), (1, (0, ne))], [], (w, bd, fc, 0, 0, rr)) (fun φ => ∃ n w', xEnd 1 [(0, n)] (w', bd, fc, 0, 0, rr) φ ∧ (((n = ne ∧ ne ≤ fld w 1 1 ∧ fld w' 1 1 = ne) ∨ (n = 4294967295 ∧ ¬ ne ≤ fld w 1 1 ∧ fld w' 1 1 = fld w 1 1)) ∧ fld w' 1 2 = fld w 1 2 ∧ fld w' 1 3 = fld w 1 3 ∧ fld w' 1 6 = fld w 1 6 ∧ fld w' 1 7 = fld w 1 7 ∧ fld w' 1 9 = fld w 1 9) ∧ xInv w' ∧ xFr [1] w w')
  have h0_1 := (xqc0 hI : cp0 (wget w 0))
  refine xoC1 (xqc1 hI : cp1 (wget w 1)) (fun f1_2 f1_4 f1_6 f1_8 f1_10 f1_12 h1_14 hb3 hb5 hb7 hb9 hb11 hb13 => ?_)
  refine xg_t (xg_blq rfl) ?_
  refine xg_t (xg_iload (va := (0, ne)) rfl rfl) ?_
  by_cases hc15 : ne < 2147483648
  · refine xg_t (xg_ifF (u := ne) rfl xnm0 (xjz_ltF hc15)) ?_
    refine xg_t (xg_iload (va := (0, ne)) rfl rfl) ?_
    refine xg_t (xg_aload (va := (2, 0)) rfl rfl) ?_
    refine xg_t (xg_getf (va := (2, 1)) h0_1 rfl) ?_
    refine xg_t (xg_getf (va := (0, f1_2)) h1_14 rfl) ?_
    by_cases hc16 : f1_2 < ne
    · refine xg_t (xg_icF (u := ne) (v := f1_2) rfl xnm0 xnm0 (xj_leF hc16 (by omega))) ?_
      refine xg_t (xg_blq rfl) ?_
      refine xg_t (xg_const) ?_
      have hq17 : fld w 1 1 = f1_2 := fld_of h1_14
      have hq18 : fld w 1 2 = f1_4 := fld_of h1_14
      have hq19 : fld w 1 3 = f1_6 := fld_of h1_14
      have hq20 : fld w 1 6 = f1_8 := fld_of h1_14
      have hq21 : fld w 1 7 = f1_10 := fld_of h1_14
      have hq22 : fld w 1 9 = f1_12 := fld_of h1_14
      exact xg_e ⟨4294967295, w, ⟨rfl, rfl⟩, ⟨by omega, by omega, by omega, by omega, by omega, by omega⟩, hI, xFr.rf⟩
    · refine xg_t (xg_icT (u := ne) (v := f1_2) rfl xnm0 xnm0 (xj_leT (by omega) (by omega))) ?_
      refine xg_t (xg_blq rfl) ?_
      refine xg_t (xg_aload (va := (2, 0)) rfl rfl) ?_
      refine xg_t (xg_getf (va := (2, 1)) h0_1 rfl) ?_
      refine xg_t (xg_iload (va := (0, ne)) rfl rfl) ?_
      refine xg_putI (fl1 := [(2, 2), (0, ne), (0, f1_4), (0, f1_6), (2, 3), (2, 14), (0, f1_8), (0, f1_10), (2, 16), (0, f1_12), (2, 18), (2, 20), (2, 22), (2, 24)]) h1_14 rfl rfl rfl (fun w23 hk24 hb25 => ?_)
      refine xg_t (xg_iload (va := (0, ne)) rfl rfl) ?_
      have hq26 : fld w 1 1 = f1_2 := fld_of h1_14
      have hq27 : fld w23 1 1 = ne := fld_of hk24
      have hq28 : fld w 1 2 = f1_4 := fld_of h1_14
      have hq29 : fld w23 1 2 = f1_4 := fld_of hk24
      have hq30 : fld w 1 3 = f1_6 := fld_of h1_14
      have hq31 : fld w23 1 3 = f1_6 := fld_of hk24
      have hq32 : fld w 1 6 = f1_8 := fld_of h1_14
      have hq33 : fld w23 1 6 = f1_8 := fld_of hk24
      have hq34 : fld w 1 7 = f1_10 := fld_of h1_14
      have hq35 : fld w23 1 7 = f1_10 := fld_of hk24
      have hq36 : fld w 1 9 = f1_12 := fld_of h1_14
      have hq37 : fld w23 1 9 = f1_12 := fld_of hk24
      exact xg_e ⟨ne, w23, ⟨rfl, rfl⟩, ⟨by omega, by omega, by omega, by omega, by omega, by omega⟩, xInv.up (S := [1]) hI (xFr.of (S := [1]) hb25 (by decide)) (List.forall_mem_cons.mpr ⟨xqu1 (show cp1 (wget w23 1) from xmC1 ne f1_4 f1_6 f1_8 f1_10 f1_12 hk24 (by omega) hb5 hb7 hb9 hb11 hb13), fun _ h => absurd h List.not_mem_nil⟩), (xFr.of (S := [1]) hb25 (by decide))⟩
  · refine xg_t (xg_ifT (u := ne) rfl xnm0 (xjz_ltT (by omega) (by omega))) ?_
    refine xg_t (xg_blq rfl) ?_
    refine xg_t (xg_const) ?_
    have hq38 : fld w 1 1 = f1_2 := fld_of h1_14
    have hq39 : fld w 1 2 = f1_4 := fld_of h1_14
    have hq40 : fld w 1 3 = f1_6 := fld_of h1_14
    have hq41 : fld w 1 6 = f1_8 := fld_of h1_14
    have hq42 : fld w 1 7 = f1_10 := fld_of h1_14
    have hq43 : fld w 1 9 = f1_12 := fld_of h1_14
    exact xg_e ⟨4294967295, w, ⟨rfl, rfl⟩, ⟨by omega, by omega, by omega, by omega, by omega, by omega⟩, hI, xFr.rf⟩
theorem scWetK {dy : Nat} (hI : xInv w) (hdy : dy ≤ 4294967295) : xPi (d + 1) mX11_wet [(2, 0), (0, dy)] w bd fc rr (fun n w' => (((dy ≤ 200 ∧ n = 1 ∧ fld w' 1 9 = dy) ∨ (¬ dy ≤ 200 ∧ n = 0 ∧ fld w' 1 9 = fld w 1 9)) ∧ fld w' 1 1 = fld w 1 1 ∧ fld w' 1 2 = fld w 1 2 ∧ fld w' 1 3 = fld w 1 3 ∧ fld w' 1 6 = fld w 1 6 ∧ fld w' 1 7 = fld w 1 7) ∧ xInv w' ∧ xFr [1, 68] w w') := by
  refine xPi.of ?_
  show xTo (d + 1) mX11_wet (0, [], [(0, (2, 0)), (1, (0, dy))], [], (w, bd, fc, 0, 0, rr)) (fun φ => ∃ n w', xEnd 4 [(0, n)] (w', bd, fc, 0, 0, rr) φ ∧ (((dy ≤ 200 ∧ n = 1 ∧ fld w' 1 9 = dy) ∨ (¬ dy ≤ 200 ∧ n = 0 ∧ fld w' 1 9 = fld w 1 9)) ∧ fld w' 1 1 = fld w 1 1 ∧ fld w' 1 2 = fld w 1 2 ∧ fld w' 1 3 = fld w 1 3 ∧ fld w' 1 6 = fld w 1 6 ∧ fld w' 1 7 = fld w 1 7) ∧ xInv w' ∧ xFr [1, 68] w w')
  have h0_1 := (xqc0 hI : cp0 (wget w 0))
  refine xoC1 (xqc1 hI : cp1 (wget w 1)) (fun f1_2 f1_4 f1_6 f1_8 f1_10 f1_12 h1_14 hb3 hb5 hb7 hb9 hb11 hb13 => ?_)
  refine xg_t (xg_blq rfl) ?_
  refine xg_t (xg_iload (va := (0, dy)) rfl rfl) ?_
  refine xg_t (xg_const) ?_
  refine xg_t (xg_sip) ?_
  refine xg_t (xg_cSr mX11_isIn (vs := [(0, dy), (0, 0), (0, 200)]) (rest := []) (rs := [(0, if 0 ≤ dy ∧ dy ≤ 200 then 1 else 0)]) (cn1 := 0) (sl1 := 0) rfl (isIn_ok (by omega) (by omega) (by omega)) rfl rfl rfl rfl rfl rfl rfl rfl) ?_
  by_cases hc15 : 0 ≤ dy ∧ dy ≤ 200
  · refine xg_t (xg_ifT (u := (if 0 ≤ dy ∧ dy ≤ 200 then 1 else 0)) rfl xnm0 (xj_neT (xite1 hc15))) ?_
    refine xg_t (xg_blq rfl) ?_
    refine xg_t (xg_aload (va := (2, 0)) rfl rfl) ?_
    refine xg_t (xg_getf (va := (2, 1)) h0_1 rfl) ?_
    refine xg_t (xg_iload (va := (0, dy)) rfl rfl) ?_
    refine xg_putI (fl1 := [(2, 2), (0, f1_2), (0, f1_4), (0, f1_6), (2, 3), (2, 14), (0, f1_8), (0, f1_10), (2, 16), (0, dy), (2, 18), (2, 20), (2, 22), (2, 24)]) h1_14 rfl rfl rfl (fun w16 hk17 hb18 => ?_)
    refine xg_t (xg_aload (va := (2, 0)) rfl rfl) ?_
    refine xg_t (xg_getf (va := (2, 68)) (hb18.get (by decide) h0_1) rfl) ?_
    refine xoC68 (xqc68 hI : cp68 (wget w 68)) (fun f68_19 f68_21 h68_23 hb20 hb22 => ?_)
    refine xg_cVv mX3_forgetDamp (vs := []) (rest := []) (cn1 := 0) (sl1 := 0) rfl (lmForgetDE (xInv.up (S := [1]) hI (xFr.of (S := [1]) hb18 (by decide)) (List.forall_mem_cons.mpr ⟨xqu1 (show cp1 (wget w16 1) from xmC1 f1_2 f1_4 f1_6 f1_8 f1_10 dy hk17 hb3 hb5 hb7 hb9 hb11 (by omega)), fun _ h => absurd h List.not_mem_nil⟩))) rfl (hb18.get (by decide) h68_23) rfl rfl rfl rfl rfl rfl (fun w24 hq25 => ?_)
    obtain ⟨hI26, hF27, hx28⟩ := hq25
    refine xg_t (xg_const) ?_
    have hq29 : fld w 1 1 = f1_2 := fld_of h1_14
    have hq30 : fld w24 1 1 = f1_2 := fld_of (hF27.get (by decide) hk17)
    have hq31 : fld w 1 2 = f1_4 := fld_of h1_14
    have hq32 : fld w24 1 2 = f1_4 := fld_of (hF27.get (by decide) hk17)
    have hq33 : fld w 1 3 = f1_6 := fld_of h1_14
    have hq34 : fld w24 1 3 = f1_6 := fld_of (hF27.get (by decide) hk17)
    have hq35 : fld w 1 6 = f1_8 := fld_of h1_14
    have hq36 : fld w24 1 6 = f1_8 := fld_of (hF27.get (by decide) hk17)
    have hq37 : fld w 1 7 = f1_10 := fld_of h1_14
    have hq38 : fld w24 1 7 = f1_10 := fld_of (hF27.get (by decide) hk17)
    have hq39 : fld w 1 9 = f1_12 := fld_of h1_14
    have hq40 : fld w24 1 9 = dy := fld_of (hF27.get (by decide) hk17)
    exact xg_e ⟨1, w24, ⟨rfl, rfl⟩, ⟨by omega, by omega, by omega, by omega, by omega, by omega⟩, hI26, ((xFr.of (S := [1, 68]) hb18 (by decide)).tr (hF27.up (by decide)))⟩
  · refine xg_t (xg_ifF (u := (if 0 ≤ dy ∧ dy ≤ 200 then 1 else 0)) rfl xnm0 (xj_neF (xite0 hc15))) ?_
    refine xg_t (xg_const) ?_
    have hq41 : fld w 1 1 = f1_2 := fld_of h1_14
    have hq42 : fld w 1 2 = f1_4 := fld_of h1_14
    have hq43 : fld w 1 3 = f1_6 := fld_of h1_14
    have hq44 : fld w 1 6 = f1_8 := fld_of h1_14
    have hq45 : fld w 1 7 = f1_10 := fld_of h1_14
    have hq46 : fld w 1 9 = f1_12 := fld_of h1_14
    exact xg_e ⟨0, w, ⟨rfl, rfl⟩, ⟨by omega, by omega, by omega, by omega, by omega, by omega⟩, hI, xFr.rf⟩
theorem scHandX {fi fo ro : Nat} (hI : xInv w) (hfi : fi ≤ 4294967295) (hfo : fo ≤ 4294967295) (hro : ro ≤ 4294967295) : xPi (d + 2) mX11_hand [(2, 0), (0, fi), (0, fo), (0, ro)] w bd fc rr (fun n w' => (((n = fld w 18 3 ∧ fld w 18 3 < 4 ∧ ((1 ≤ fi ∧ fi ≤ 999) ∧ (1 ≤ fo ∧ fo ≤ 999) ∧ (1 ≤ ro ∧ ro ≤ 9999)) ∧ fld w' 18 3 = fld w 18 3 + 1) ∨ (n = 4294967295 ∧ ¬ (fld w 18 3 < 4 ∧ ((1 ≤ fi ∧ fi ≤ 999) ∧ (1 ≤ fo ∧ fo ≤ 999) ∧ (1 ≤ ro ∧ ro ≤ 9999))) ∧ w' = w)) ∧ (n ≠ 4294967295 → rwv w' 19 (3 * fld w 18 3) = fi ∧ rwv w' 19 (3 * fld w 18 3 + 1) = fo ∧ rwv w' 19 (3 * fld w 18 3 + 2) = ro) ∧ (∀ j, (j < 3 * fld w 18 3 ∨ 3 * fld w 18 3 + 3 ≤ j) → j < 12 → rwv w' 19 j = rwv w 19 j)) ∧ xInv w' ∧ xFr [18, 19] w w') := by
  refine xPi.of ?_
  show xTo (d + 2) mX11_hand (0, [], [(0, (2, 0)), (1, (0, fi)), (2, (0, fo)), (3, (0, ro))], [], (w, bd, fc, 0, 0, rr)) (fun φ => ∃ n w', xEnd 1 [(0, n)] (w', bd, fc, 0, 0, rr) φ ∧ (((n = fld w 18 3 ∧ fld w 18 3 < 4 ∧ ((1 ≤ fi ∧ fi ≤ 999) ∧ (1 ≤ fo ∧ fo ≤ 999) ∧ (1 ≤ ro ∧ ro ≤ 9999)) ∧ fld w' 18 3 = fld w 18 3 + 1) ∨ (n = 4294967295 ∧ ¬ (fld w 18 3 < 4 ∧ ((1 ≤ fi ∧ fi ≤ 999) ∧ (1 ≤ fo ∧ fo ≤ 999) ∧ (1 ≤ ro ∧ ro ≤ 9999))) ∧ w' = w)) ∧ (n ≠ 4294967295 → rwv w' 19 (3 * fld w 18 3) = fi ∧ rwv w' 19 (3 * fld w 18 3 + 1) = fo ∧ rwv w' 19 (3 * fld w 18 3 + 2) = ro) ∧ (∀ j, (j < 3 * fld w 18 3 ∨ 3 * fld w 18 3 + 3 ≤ j) → j < 12 → rwv w' 19 j = rwv w 19 j)) ∧ xInv w' ∧ xFr [18, 19] w w')
  have h0_1 := (xqc0 hI : cp0 (wget w 0))
  refine xoC1 (xqc1 hI : cp1 (wget w 1)) (fun f1_2 f1_4 f1_6 f1_8 f1_10 f1_12 h1_14 hb3 hb5 hb7 hb9 hb11 hb13 => ?_)
  obtain ⟨f18_15, h18_17, hb16⟩ := (xqc18 hI : cp18 (wget w 18))
  refine xoI (xqc19 hI : cpI 12 8 4294967295 (wget w 19)) (fun g19_18 h19_19 hb20 => ?_)
  refine xg_t (xg_blq rfl) ?_
  refine xg_t (xg_aload (va := (2, 0)) rfl rfl) ?_
  refine xg_t (xg_getf (va := (2, 1)) h0_1 rfl) ?_
  refine xg_t (xg_getf (va := (2, 18)) h1_14 rfl) ?_
  refine xg_t (xg_astore (l1 := [(0, (2, 0)), (1, (0, fi)), (2, (0, fo)), (3, (0, ro))]) rfl rfl rfl) ?_
  refine xg_t (xg_aload (va := (2, 18)) rfl rfl) ?_
  refine xg_t (xg_cVr mX5_isFull (vs := []) (rest := []) (rs := [(0, if 4 ≤ f18_15 then 1 else 0)]) (cn1 := 0) (sl1 := 0) rfl (rfull_ok h18_17 (by decide) (by omega)) rfl h18_17 rfl rfl rfl rfl rfl rfl rfl) ?_
  by_cases hc21 : 4 ≤ f18_15
  · refine xg_t (xg_ifT (u := (if 4 ≤ f18_15 then 1 else 0)) rfl xnm0 (xj_neT (xite1 hc21))) ?_
    refine xg_t (xg_blq rfl) ?_
    refine xg_t (xg_const) ?_
    have hq22 : fld w 18 3 = f18_15 := fld_of h18_17
    exact xg_e ⟨4294967295, w, ⟨rfl, rfl⟩, ⟨Or.inr ⟨by omega, by omega, rfl⟩, fun h => absurd h (by omega), fun j _ _ => rfl⟩, hI, xFr.rf⟩
  · refine xg_t (xg_ifF (u := (if 4 ≤ f18_15 then 1 else 0)) rfl xnm0 (xj_neF (xite0 hc21))) ?_
    refine xg_t (xg_iload (va := (0, fi)) rfl rfl) ?_
    refine xg_t (xg_const) ?_
    refine xg_t (xg_sip) ?_
    refine xg_t (xg_cSr mX11_isIn (vs := [(0, fi), (0, 1), (0, 999)]) (rest := []) (rs := [(0, if 1 ≤ fi ∧ fi ≤ 999 then 1 else 0)]) (cn1 := 0) (sl1 := 0) rfl (isIn_ok (by omega) (by omega) (by omega)) rfl rfl rfl rfl rfl rfl rfl rfl) ?_
    by_cases hc23 : 1 ≤ fi ∧ fi ≤ 999
    · refine xg_t (xg_ifF (u := (if 1 ≤ fi ∧ fi ≤ 999 then 1 else 0)) rfl xnm0 (xj_eqF (xite1 hc23))) ?_
      refine xg_t (xg_iload (va := (0, fo)) rfl rfl) ?_
      refine xg_t (xg_const) ?_
      refine xg_t (xg_sip) ?_
      refine xg_t (xg_cSr mX11_isIn (vs := [(0, fo), (0, 1), (0, 999)]) (rest := []) (rs := [(0, if 1 ≤ fo ∧ fo ≤ 999 then 1 else 0)]) (cn1 := 0) (sl1 := 0) rfl (isIn_ok (by omega) (by omega) (by omega)) rfl rfl rfl rfl rfl rfl rfl rfl) ?_
      by_cases hc24 : 1 ≤ fo ∧ fo ≤ 999
      · refine xg_t (xg_ifF (u := (if 1 ≤ fo ∧ fo ≤ 999 then 1 else 0)) rfl xnm0 (xj_eqF (xite1 hc24))) ?_
        refine xg_t (xg_iload (va := (0, ro)) rfl rfl) ?_
        refine xg_t (xg_cSr mX11_isRound (vs := [(0, ro)]) (rest := []) (rs := [(0, if 1 ≤ ro ∧ ro ≤ 9999 then 1 else 0)]) (cn1 := 0) (sl1 := 0) rfl (isRound_ok (by omega)) rfl rfl rfl rfl rfl rfl rfl rfl) ?_
        by_cases hc25 : 1 ≤ ro ∧ ro ≤ 9999
        · refine xg_t (xg_ifT (u := (if 1 ≤ ro ∧ ro ≤ 9999 then 1 else 0)) rfl xnm0 (xj_neT (xite1 hc25))) ?_
          refine xg_t (xg_blq rfl) ?_
          refine xg_t (xg_aload (va := (2, 18)) rfl rfl) ?_
          refine xg_cV mX5_grow (vs := []) (rest := []) (rs := [(0, f18_15)]) (cn1 := 0) (sl1 := 0) rfl (rgrowX h18_17 (by decide) (by omega)) rfl h18_17 rfl rfl rfl rfl rfl rfl rfl (fun w26 hq27 => ?_)
          refine xg_t (xg_istore (l1 := [(4, (2, 18)), (0, (2, 0)), (1, (0, fi)), (2, (0, fo)), (3, (0, ro))]) rfl rfl rfl) ?_
          refine xg_t (xg_aload (va := (2, 18)) rfl rfl) ?_
          refine xg_t (xg_iload (va := (0, f18_15)) rfl rfl) ?_
          refine xg_t (xg_const) ?_
          refine xg_t (xg_iload (va := (0, fi)) rfl rfl) ?_
          refine xg_cVv mX5_put (vs := [(0, f18_15), (0, 0), (0, fi)]) (rest := []) (cn1 := 0) (sl1 := 0) rfl (rputX (lim := 4) (wd := 3) (B := 4294967295) hq27.1 (h19_19.but hq27.2 (by decide)) (hb20) (by decide) (by omega) (by decide) (by decide) (by omega) (by decide) (by omega)) rfl hq27.1 rfl rfl rfl rfl rfl rfl (fun w28 hq29 => ?_)
          obtain ⟨g30, hr31, hb32, he34, hk35, hb33⟩ := hq29
          refine xg_t (xg_aload (va := (2, 18)) rfl rfl) ?_
          refine xg_t (xg_iload (va := (0, f18_15)) rfl rfl) ?_
          refine xg_t (xg_const) ?_
          refine xg_t (xg_iload (va := (0, fo)) rfl rfl) ?_
          refine xg_cVv mX5_put (vs := [(0, f18_15), (0, 1), (0, fo)]) (rest := []) (cn1 := 0) (sl1 := 0) rfl (rputX (lim := 4) (wd := 3) (B := 4294967295) (hb33.get (by decide) hq27.1) hr31 (hb32) (by decide) (by omega) (by decide) (by decide) (by omega) (by decide) (by omega)) rfl (hb33.get (by decide) hq27.1) rfl rfl rfl rfl rfl rfl (fun w36 hq37 => ?_)
          obtain ⟨g38, hr39, hb40, he42, hk43, hb41⟩ := hq37
          refine xg_t (xg_aload (va := (2, 18)) rfl rfl) ?_
          refine xg_t (xg_iload (va := (0, f18_15)) rfl rfl) ?_
          refine xg_t (xg_const) ?_
          refine xg_t (xg_iload (va := (0, ro)) rfl rfl) ?_
          refine xg_cVv mX5_put (vs := [(0, f18_15), (0, 2), (0, ro)]) (rest := []) (cn1 := 0) (sl1 := 0) rfl (rputX (lim := 4) (wd := 3) (B := 4294967295) (hb41.get (by decide) (hb33.get (by decide) hq27.1)) hr39 (hb40) (by decide) (by omega) (by decide) (by decide) (by omega) (by decide) (by omega)) rfl (hb41.get (by decide) (hb33.get (by decide) hq27.1)) rfl rfl rfl rfl rfl rfl (fun w44 hq45 => ?_)
          obtain ⟨g46, hr47, hb48, he50, hk51, hb49⟩ := hq45
          refine xg_t (xg_iload (va := (0, f18_15)) rfl rfl) ?_
          have hq52 : fld w 18 3 = f18_15 := fld_of h18_17
          have hq53 : fld w44 18 3 = (f18_15 + 1) := fld_of (hb49.get (by decide) (hb41.get (by decide) (hb33.get (by decide) hq27.1)))
          have hq55 : 3 * fld w 18 3 = f18_15 * 3 + 0 := by omega
          have hq54 : rwv w44 19 (3 * fld w 18 3) = fi := by
            rw [hq55, rwv_of hr47 (by omega), hk51 _ (by omega), hk43 _ (by omega), he34]
          have hq57 : 3 * fld w 18 3 + 1 = f18_15 * 3 + 1 := by omega
          have hq56 : rwv w44 19 (3 * fld w 18 3 + 1) = fo := by
            rw [hq57, rwv_of hr47 (by omega), hk51 _ (by omega), he42]
          have hq59 : 3 * fld w 18 3 + 2 = f18_15 * 3 + 2 := by omega
          have hq58 : rwv w44 19 (3 * fld w 18 3 + 2) = ro := by
            rw [hq59, rwv_of hr47 (by omega), he50]
          exact xg_e ⟨f18_15, w44, ⟨rfl, rfl⟩, ⟨Or.inl ⟨by omega, by omega, by omega, by omega⟩, fun _ => ⟨hq54, hq56, hq58⟩, fun j hj h => (rwv_of hr47 h).trans (Eq.trans (by rw [hk51 j (by omega), hk43 j (by omega), hk35 j (by omega)]) (rwv_of h19_19 h).symm)⟩, xInv.up (S := [18, 19]) hI ((((xFr.of (S := [18, 19]) hq27.2 (by decide)).tr (xFr.of (S := [18, 19]) hb33 (by decide))).tr (xFr.of (S := [18, 19]) hb41 (by decide))).tr (xFr.of (S := [18, 19]) hb49 (by decide))) (List.forall_mem_cons.mpr ⟨xqu18 (show cp18 (wget w44 18) from ⟨(f18_15 + 1), (hb49.get (by decide) (hb41.get (by decide) (hb33.get (by decide) hq27.1))), by omega⟩), List.forall_mem_cons.mpr ⟨xqu19 (show cpI 12 8 4294967295 (wget w44 19) from ⟨_, hr47, hb48⟩), fun _ h => absurd h List.not_mem_nil⟩⟩), ((((xFr.of (S := [18, 19]) hq27.2 (by decide)).tr (xFr.of (S := [18, 19]) hb33 (by decide))).tr (xFr.of (S := [18, 19]) hb41 (by decide))).tr (xFr.of (S := [18, 19]) hb49 (by decide)))⟩
        · refine xg_t (xg_ifF (u := (if 1 ≤ ro ∧ ro ≤ 9999 then 1 else 0)) rfl xnm0 (xj_neF (xite0 hc25))) ?_
          refine xg_t (xg_blq rfl) ?_
          refine xg_t (xg_const) ?_
          have hq60 : fld w 18 3 = f18_15 := fld_of h18_17
          exact xg_e ⟨4294967295, w, ⟨rfl, rfl⟩, ⟨Or.inr ⟨by omega, by omega, rfl⟩, fun h => absurd h (by omega), fun j _ _ => rfl⟩, hI, xFr.rf⟩
      · refine xg_t (xg_ifT (u := (if 1 ≤ fo ∧ fo ≤ 999 then 1 else 0)) rfl xnm0 (xj_eqT (xite0 hc24))) ?_
        refine xg_t (xg_blq rfl) ?_
        refine xg_t (xg_const) ?_
        have hq61 : fld w 18 3 = f18_15 := fld_of h18_17
        exact xg_e ⟨4294967295, w, ⟨rfl, rfl⟩, ⟨Or.inr ⟨by omega, by omega, rfl⟩, fun h => absurd h (by omega), fun j _ _ => rfl⟩, hI, xFr.rf⟩
    · refine xg_t (xg_ifT (u := (if 1 ≤ fi ∧ fi ≤ 999 then 1 else 0)) rfl xnm0 (xj_eqT (xite0 hc23))) ?_
      refine xg_t (xg_blq rfl) ?_
      refine xg_t (xg_const) ?_
      have hq62 : fld w 18 3 = f18_15 := fld_of h18_17
      exact xg_e ⟨4294967295, w, ⟨rfl, rfl⟩, ⟨Or.inr ⟨by omega, by omega, rfl⟩, fun h => absurd h (by omega), fun j _ _ => rfl⟩, hI, xFr.rf⟩
theorem scTestX {sp fo fi cr : Nat} (hI : xInv w) (hsp : sp ≤ 4294967295) (hfo : fo ≤ 4294967295) (hfi : fi ≤ 4294967295) (hcr : cr ≤ 4294967295) : xPi (d + 2) mX11_test [(2, 0), (0, sp), (0, fo), (0, fi), (0, cr)] w bd fc rr (fun n w' => (((n = fld w 20 3 ∧ fld w 20 3 < 12 ∧ ((1 ≤ sp ∧ sp ≤ 9) ∧ (1 ≤ fo ∧ fo ≤ 999999) ∧ (1 ≤ fi ∧ fi ≤ 99) ∧ cr ≤ fi) ∧ fld w' 20 3 = fld w 20 3 + 1 ∧ fld w' 76 9 = 0 ∧ fld w' 76 10 = 0 ∧ fld w' 76 11 = 0) ∨ (n = 4294967295 ∧ ¬ (fld w 20 3 < 12 ∧ ((1 ≤ sp ∧ sp ≤ 9) ∧ (1 ≤ fo ∧ fo ≤ 999999) ∧ (1 ≤ fi ∧ fi ≤ 99) ∧ cr ≤ fi)) ∧ w' = w)) ∧ (n ≠ 4294967295 → rwv w' 21 (4 * fld w 20 3) = sp ∧ rwv w' 21 (4 * fld w 20 3 + 1) = fo ∧ rwv w' 21 (4 * fld w 20 3 + 2) = fi ∧ rwv w' 21 (4 * fld w 20 3 + 3) = cr) ∧ (∀ j, (j < 4 * fld w 20 3 ∨ 4 * fld w 20 3 + 4 ≤ j) → j < 48 → rwv w' 21 j = rwv w 21 j)) ∧ xInv w' ∧ xFr [20, 21, 76] w w') := by
  refine xPi.of ?_
  show xTo (d + 2) mX11_test (0, [], [(0, (2, 0)), (1, (0, sp)), (2, (0, fo)), (3, (0, fi)), (4, (0, cr))], [], (w, bd, fc, 0, 0, rr)) (fun φ => ∃ n w', xEnd 1 [(0, n)] (w', bd, fc, 0, 0, rr) φ ∧ (((n = fld w 20 3 ∧ fld w 20 3 < 12 ∧ ((1 ≤ sp ∧ sp ≤ 9) ∧ (1 ≤ fo ∧ fo ≤ 999999) ∧ (1 ≤ fi ∧ fi ≤ 99) ∧ cr ≤ fi) ∧ fld w' 20 3 = fld w 20 3 + 1 ∧ fld w' 76 9 = 0 ∧ fld w' 76 10 = 0 ∧ fld w' 76 11 = 0) ∨ (n = 4294967295 ∧ ¬ (fld w 20 3 < 12 ∧ ((1 ≤ sp ∧ sp ≤ 9) ∧ (1 ≤ fo ∧ fo ≤ 999999) ∧ (1 ≤ fi ∧ fi ≤ 99) ∧ cr ≤ fi)) ∧ w' = w)) ∧ (n ≠ 4294967295 → rwv w' 21 (4 * fld w 20 3) = sp ∧ rwv w' 21 (4 * fld w 20 3 + 1) = fo ∧ rwv w' 21 (4 * fld w 20 3 + 2) = fi ∧ rwv w' 21 (4 * fld w 20 3 + 3) = cr) ∧ (∀ j, (j < 4 * fld w 20 3 ∨ 4 * fld w 20 3 + 4 ≤ j) → j < 48 → rwv w' 21 j = rwv w 21 j)) ∧ xInv w' ∧ xFr [20, 21, 76] w w')
  have h0_1 := (xqc0 hI : cp0 (wget w 0))
  refine xoC1 (xqc1 hI : cp1 (wget w 1)) (fun f1_2 f1_4 f1_6 f1_8 f1_10 f1_12 h1_14 hb3 hb5 hb7 hb9 hb11 hb13 => ?_)
  obtain ⟨f20_15, h20_17, hb16⟩ := (xqc20 hI : cp20 (wget w 20))
  refine xoI (xqc21 hI : cpI 48 9 4294967295 (wget w 21)) (fun g21_18 h21_19 hb20 => ?_)
  refine xg_t (xg_blq rfl) ?_
  refine xg_t (xg_aload (va := (2, 0)) rfl rfl) ?_
  refine xg_t (xg_getf (va := (2, 1)) h0_1 rfl) ?_
  refine xg_t (xg_getf (va := (2, 20)) h1_14 rfl) ?_
  refine xg_t (xg_astore (l1 := [(0, (2, 0)), (1, (0, sp)), (2, (0, fo)), (3, (0, fi)), (4, (0, cr))]) rfl rfl rfl) ?_
  refine xg_t (xg_iload (va := (0, sp)) rfl rfl) ?_
  refine xg_t (xg_const) ?_
  refine xg_t (xg_bip) ?_
  refine xg_t (xg_cSr mX11_isIn (vs := [(0, sp), (0, 1), (0, 9)]) (rest := []) (rs := [(0, if 1 ≤ sp ∧ sp ≤ 9 then 1 else 0)]) (cn1 := 0) (sl1 := 0) rfl (isIn_ok (by omega) (by omega) (by omega)) rfl rfl rfl rfl rfl rfl rfl rfl) ?_
  by_cases hc21 : 1 ≤ sp ∧ sp ≤ 9
  · refine xg_t (xg_ifF (u := (if 1 ≤ sp ∧ sp ≤ 9 then 1 else 0)) rfl xnm0 (xj_eqF (xite1 hc21))) ?_
    refine xg_t (xg_iload (va := (0, fo)) rfl rfl) ?_
    refine xg_t (xg_const) ?_
    refine xg_t (xg_ldcw) ?_
    refine xg_t (xg_cSr mX11_isIn (vs := [(0, fo), (0, 1), (0, 999999)]) (rest := []) (rs := [(0, if 1 ≤ fo ∧ fo ≤ 999999 then 1 else 0)]) (cn1 := 0) (sl1 := 0) rfl (isIn_ok (by omega) (by omega) (by omega)) rfl rfl rfl rfl rfl rfl rfl rfl) ?_
    by_cases hc22 : 1 ≤ fo ∧ fo ≤ 999999
    · refine xg_t (xg_ifF (u := (if 1 ≤ fo ∧ fo ≤ 999999 then 1 else 0)) rfl xnm0 (xj_eqF (xite1 hc22))) ?_
      refine xg_t (xg_iload (va := (0, fi)) rfl rfl) ?_
      refine xg_t (xg_const) ?_
      refine xg_t (xg_bip) ?_
      refine xg_t (xg_cSr mX11_isIn (vs := [(0, fi), (0, 1), (0, 99)]) (rest := []) (rs := [(0, if 1 ≤ fi ∧ fi ≤ 99 then 1 else 0)]) (cn1 := 0) (sl1 := 0) rfl (isIn_ok (by omega) (by omega) (by omega)) rfl rfl rfl rfl rfl rfl rfl rfl) ?_
      by_cases hc23 : 1 ≤ fi ∧ fi ≤ 99
      · refine xg_t (xg_ifF (u := (if 1 ≤ fi ∧ fi ≤ 99 then 1 else 0)) rfl xnm0 (xj_eqF (xite1 hc23))) ?_
        refine xg_t (xg_iload (va := (0, cr)) rfl rfl) ?_
        refine xg_t (xg_const) ?_
        refine xg_t (xg_iload (va := (0, fi)) rfl rfl) ?_
        refine xg_t (xg_cSr mX11_isIn (vs := [(0, cr), (0, 0), (0, fi)]) (rest := []) (rs := [(0, if 0 ≤ cr ∧ cr ≤ fi then 1 else 0)]) (cn1 := 0) (sl1 := 0) rfl (isIn_ok (by omega) (by omega) (by omega)) rfl rfl rfl rfl rfl rfl rfl rfl) ?_
        by_cases hc24 : 0 ≤ cr ∧ cr ≤ fi
        · refine xg_t (xg_ifF (u := (if 0 ≤ cr ∧ cr ≤ fi then 1 else 0)) rfl xnm0 (xj_eqF (xite1 hc24))) ?_
          refine xg_t (xg_const) ?_
          refine xg_t (xg_goto) ?_
          refine xg_t (xg_blq rfl) ?_
          refine xg_t (xg_istore (l1 := [(5, (2, 20)), (0, (2, 0)), (1, (0, sp)), (2, (0, fo)), (3, (0, fi)), (4, (0, cr))]) rfl rfl rfl) ?_
          refine xg_t (xg_aload (va := (2, 20)) rfl rfl) ?_
          refine xg_t (xg_cVr mX5_isFull (vs := []) (rest := []) (rs := [(0, if 12 ≤ f20_15 then 1 else 0)]) (cn1 := 0) (sl1 := 0) rfl (rfull_ok h20_17 (by decide) (by omega)) rfl h20_17 rfl rfl rfl rfl rfl rfl rfl) ?_
          by_cases hc25 : 12 ≤ f20_15
          · refine xg_t (xg_ifT (u := (if 12 ≤ f20_15 then 1 else 0)) rfl xnm0 (xj_neT (xite1 hc25))) ?_
            refine xg_t (xg_blq rfl) ?_
            refine xg_t (xg_const) ?_
            have hq26 : fld w 20 3 = f20_15 := fld_of h20_17
            exact xg_e ⟨4294967295, w, ⟨rfl, rfl⟩, ⟨Or.inr ⟨by omega, by omega, rfl⟩, fun h => absurd h (by omega), fun j _ _ => rfl⟩, hI, xFr.rf⟩
          · refine xg_t (xg_ifF (u := (if 12 ≤ f20_15 then 1 else 0)) rfl xnm0 (xj_neF (xite0 hc25))) ?_
            refine xg_t (xg_iload (va := (0, 1)) rfl rfl) ?_
            refine xg_t (xg_ifT (u := 1) rfl xnm0 (by decide)) ?_
            refine xg_t (xg_blq rfl) ?_
            refine xg_t (xg_aload (va := (2, 20)) rfl rfl) ?_
            refine xg_cV mX5_grow (vs := []) (rest := []) (rs := [(0, f20_15)]) (cn1 := 0) (sl1 := 0) rfl (rgrowX h20_17 (by decide) (by omega)) rfl h20_17 rfl rfl rfl rfl rfl rfl rfl (fun w27 hq28 => ?_)
            refine xg_t (xg_istore (l1 := [(6, (0, 1)), (5, (2, 20)), (0, (2, 0)), (1, (0, sp)), (2, (0, fo)), (3, (0, fi)), (4, (0, cr))]) rfl rfl rfl) ?_
            refine xg_t (xg_aload (va := (2, 20)) rfl rfl) ?_
            refine xg_t (xg_iload (va := (0, f20_15)) rfl rfl) ?_
            refine xg_t (xg_const) ?_
            refine xg_t (xg_iload (va := (0, sp)) rfl rfl) ?_
            refine xg_cVv mX5_put (vs := [(0, f20_15), (0, 0), (0, sp)]) (rest := []) (cn1 := 0) (sl1 := 0) rfl (rputX (lim := 12) (wd := 4) (B := 4294967295) hq28.1 (h21_19.but hq28.2 (by decide)) (hb20) (by decide) (by omega) (by decide) (by decide) (by omega) (by decide) (by omega)) rfl hq28.1 rfl rfl rfl rfl rfl rfl (fun w29 hq30 => ?_)
            obtain ⟨g31, hr32, hb33, he35, hk36, hb34⟩ := hq30
            refine xg_t (xg_aload (va := (2, 20)) rfl rfl) ?_
            refine xg_t (xg_iload (va := (0, f20_15)) rfl rfl) ?_
            refine xg_t (xg_const) ?_
            refine xg_t (xg_iload (va := (0, fo)) rfl rfl) ?_
            refine xg_cVv mX5_put (vs := [(0, f20_15), (0, 1), (0, fo)]) (rest := []) (cn1 := 0) (sl1 := 0) rfl (rputX (lim := 12) (wd := 4) (B := 4294967295) (hb34.get (by decide) hq28.1) hr32 (hb33) (by decide) (by omega) (by decide) (by decide) (by omega) (by decide) (by omega)) rfl (hb34.get (by decide) hq28.1) rfl rfl rfl rfl rfl rfl (fun w37 hq38 => ?_)
            obtain ⟨g39, hr40, hb41, he43, hk44, hb42⟩ := hq38
            refine xg_t (xg_aload (va := (2, 20)) rfl rfl) ?_
            refine xg_t (xg_iload (va := (0, f20_15)) rfl rfl) ?_
            refine xg_t (xg_const) ?_
            refine xg_t (xg_iload (va := (0, fi)) rfl rfl) ?_
            refine xg_cVv mX5_put (vs := [(0, f20_15), (0, 2), (0, fi)]) (rest := []) (cn1 := 0) (sl1 := 0) rfl (rputX (lim := 12) (wd := 4) (B := 4294967295) (hb42.get (by decide) (hb34.get (by decide) hq28.1)) hr40 (hb41) (by decide) (by omega) (by decide) (by decide) (by omega) (by decide) (by omega)) rfl (hb42.get (by decide) (hb34.get (by decide) hq28.1)) rfl rfl rfl rfl rfl rfl (fun w45 hq46 => ?_)
            obtain ⟨g47, hr48, hb49, he51, hk52, hb50⟩ := hq46
            refine xg_t (xg_aload (va := (2, 20)) rfl rfl) ?_
            refine xg_t (xg_iload (va := (0, f20_15)) rfl rfl) ?_
            refine xg_t (xg_const) ?_
            refine xg_t (xg_iload (va := (0, cr)) rfl rfl) ?_
            refine xg_cVv mX5_put (vs := [(0, f20_15), (0, 3), (0, cr)]) (rest := []) (cn1 := 0) (sl1 := 0) rfl (rputX (lim := 12) (wd := 4) (B := 4294967295) (hb50.get (by decide) (hb42.get (by decide) (hb34.get (by decide) hq28.1))) hr48 (hb49) (by decide) (by omega) (by decide) (by decide) (by omega) (by decide) (by omega)) rfl (hb50.get (by decide) (hb42.get (by decide) (hb34.get (by decide) hq28.1))) rfl rfl rfl rfl rfl rfl (fun w53 hq54 => ?_)
            obtain ⟨g55, hr56, hb57, he59, hk60, hb58⟩ := hq54
            refine xg_t (xg_aload (va := (2, 0)) rfl rfl) ?_
            refine xg_t (xg_getf (va := (2, 76)) (hb58.get (by decide) (hb50.get (by decide) (hb42.get (by decide) (hb34.get (by decide) (hq28.2.get (by decide) h0_1))))) rfl) ?_
            refine xoC76 (xqc76 hI : cp76 (wget w 76)) (fun f76_61 f76_63 f76_65 f76_67 f76_69 f76_71 f76_73 f76_75 h76_77 hb62 hb64 hb66 hb68 hb70 hb72 hb74 hb76 => ?_)
            refine xg_cVv mX4_forget (vs := []) (rest := []) (cn1 := 0) (sl1 := 0) rfl (lwForgetE (xInv.up (S := [20, 21]) hI (((((xFr.of (S := [20, 21]) hq28.2 (by decide)).tr (xFr.of (S := [20, 21]) hb34 (by decide))).tr (xFr.of (S := [20, 21]) hb42 (by decide))).tr (xFr.of (S := [20, 21]) hb50 (by decide))).tr (xFr.of (S := [20, 21]) hb58 (by decide))) (List.forall_mem_cons.mpr ⟨xqu20 (show cp20 (wget w53 20) from ⟨(f20_15 + 1), (hb58.get (by decide) (hb50.get (by decide) (hb42.get (by decide) (hb34.get (by decide) hq28.1)))), by omega⟩), List.forall_mem_cons.mpr ⟨xqu21 (show cpI 48 9 4294967295 (wget w53 21) from ⟨_, hr56, hb57⟩), fun _ h => absurd h List.not_mem_nil⟩⟩))) rfl (hb58.get (by decide) (hb50.get (by decide) (hb42.get (by decide) (hb34.get (by decide) (hq28.2.get (by decide) h76_77))))) rfl rfl rfl rfl rfl rfl (fun w78 hq79 => ?_)
            obtain ⟨hI80, hF81, hx82⟩ := hq79
            obtain ⟨hg83, hg84, hg85⟩ := hx82
            refine xg_t (xg_iload (va := (0, f20_15)) rfl rfl) ?_
            have hq86 : fld w 20 3 = f20_15 := fld_of h20_17
            have hq87 : fld w78 20 3 = (f20_15 + 1) := fld_of (hF81.get (by decide) (hb58.get (by decide) (hb50.get (by decide) (hb42.get (by decide) (hb34.get (by decide) hq28.1)))))
            have hq89 : 4 * fld w 20 3 = f20_15 * 4 + 0 := by omega
            have hq88 : rwv w78 21 (4 * fld w 20 3) = sp := by
              rw [hq89, rwv_of (hr56.fr hF81 (by decide)) (by omega), hk60 _ (by omega), hk52 _ (by omega), hk44 _ (by omega), he35]
            have hq91 : 4 * fld w 20 3 + 1 = f20_15 * 4 + 1 := by omega
            have hq90 : rwv w78 21 (4 * fld w 20 3 + 1) = fo := by
              rw [hq91, rwv_of (hr56.fr hF81 (by decide)) (by omega), hk60 _ (by omega), hk52 _ (by omega), he43]
            have hq93 : 4 * fld w 20 3 + 2 = f20_15 * 4 + 2 := by omega
            have hq92 : rwv w78 21 (4 * fld w 20 3 + 2) = fi := by
              rw [hq93, rwv_of (hr56.fr hF81 (by decide)) (by omega), hk60 _ (by omega), he51]
            have hq95 : 4 * fld w 20 3 + 3 = f20_15 * 4 + 3 := by omega
            have hq94 : rwv w78 21 (4 * fld w 20 3 + 3) = cr := by
              rw [hq95, rwv_of (hr56.fr hF81 (by decide)) (by omega), he59]
            exact xg_e ⟨f20_15, w78, ⟨rfl, rfl⟩, ⟨Or.inl ⟨by omega, by omega, by omega, by omega, hg83, hg84, hg85⟩, fun _ => ⟨hq88, hq90, hq92, hq94⟩, fun j hj h => (rwv_of (hr56.fr hF81 (by decide)) h).trans (Eq.trans (by rw [hk60 j (by omega), hk52 j (by omega), hk44 j (by omega), hk36 j (by omega)]) (rwv_of h21_19 h).symm)⟩, hI80, ((((((xFr.of (S := [20, 21, 76]) hq28.2 (by decide)).tr (xFr.of (S := [20, 21, 76]) hb34 (by decide))).tr (xFr.of (S := [20, 21, 76]) hb42 (by decide))).tr (xFr.of (S := [20, 21, 76]) hb50 (by decide))).tr (xFr.of (S := [20, 21, 76]) hb58 (by decide))).tr (hF81.up (by decide)))⟩
        · refine xg_t (xg_ifT (u := (if 0 ≤ cr ∧ cr ≤ fi then 1 else 0)) rfl xnm0 (xj_eqT (xite0 hc24))) ?_
          refine xg_t (xg_blq rfl) ?_
          refine xg_t (xg_const) ?_
          refine xg_t (xg_blq rfl) ?_
          refine xg_t (xg_istore (l1 := [(5, (2, 20)), (0, (2, 0)), (1, (0, sp)), (2, (0, fo)), (3, (0, fi)), (4, (0, cr))]) rfl rfl rfl) ?_
          refine xg_t (xg_aload (va := (2, 20)) rfl rfl) ?_
          refine xg_t (xg_cVr mX5_isFull (vs := []) (rest := []) (rs := [(0, if 12 ≤ f20_15 then 1 else 0)]) (cn1 := 0) (sl1 := 0) rfl (rfull_ok h20_17 (by decide) (by omega)) rfl h20_17 rfl rfl rfl rfl rfl rfl rfl) ?_
          by_cases hc96 : 12 ≤ f20_15
          · refine xg_t (xg_ifT (u := (if 12 ≤ f20_15 then 1 else 0)) rfl xnm0 (xj_neT (xite1 hc96))) ?_
            refine xg_t (xg_blq rfl) ?_
            refine xg_t (xg_const) ?_
            have hq97 : fld w 20 3 = f20_15 := fld_of h20_17
            exact xg_e ⟨4294967295, w, ⟨rfl, rfl⟩, ⟨Or.inr ⟨by omega, by omega, rfl⟩, fun h => absurd h (by omega), fun j _ _ => rfl⟩, hI, xFr.rf⟩
          · refine xg_t (xg_ifF (u := (if 12 ≤ f20_15 then 1 else 0)) rfl xnm0 (xj_neF (xite0 hc96))) ?_
            refine xg_t (xg_iload (va := (0, 0)) rfl rfl) ?_
            refine xg_t (xg_ifF (u := 0) rfl xnm0 (by decide)) ?_
            refine xg_t (xg_blq rfl) ?_
            refine xg_t (xg_const) ?_
            have hq98 : fld w 20 3 = f20_15 := fld_of h20_17
            exact xg_e ⟨4294967295, w, ⟨rfl, rfl⟩, ⟨Or.inr ⟨by omega, by omega, rfl⟩, fun h => absurd h (by omega), fun j _ _ => rfl⟩, hI, xFr.rf⟩
      · refine xg_t (xg_ifT (u := (if 1 ≤ fi ∧ fi ≤ 99 then 1 else 0)) rfl xnm0 (xj_eqT (xite0 hc23))) ?_
        refine xg_t (xg_blq rfl) ?_
        refine xg_t (xg_const) ?_
        refine xg_t (xg_blq rfl) ?_
        refine xg_t (xg_istore (l1 := [(5, (2, 20)), (0, (2, 0)), (1, (0, sp)), (2, (0, fo)), (3, (0, fi)), (4, (0, cr))]) rfl rfl rfl) ?_
        refine xg_t (xg_aload (va := (2, 20)) rfl rfl) ?_
        refine xg_t (xg_cVr mX5_isFull (vs := []) (rest := []) (rs := [(0, if 12 ≤ f20_15 then 1 else 0)]) (cn1 := 0) (sl1 := 0) rfl (rfull_ok h20_17 (by decide) (by omega)) rfl h20_17 rfl rfl rfl rfl rfl rfl rfl) ?_
        by_cases hc99 : 12 ≤ f20_15
        · refine xg_t (xg_ifT (u := (if 12 ≤ f20_15 then 1 else 0)) rfl xnm0 (xj_neT (xite1 hc99))) ?_
          refine xg_t (xg_blq rfl) ?_
          refine xg_t (xg_const) ?_
          have hq100 : fld w 20 3 = f20_15 := fld_of h20_17
          exact xg_e ⟨4294967295, w, ⟨rfl, rfl⟩, ⟨Or.inr ⟨by omega, by omega, rfl⟩, fun h => absurd h (by omega), fun j _ _ => rfl⟩, hI, xFr.rf⟩
        · refine xg_t (xg_ifF (u := (if 12 ≤ f20_15 then 1 else 0)) rfl xnm0 (xj_neF (xite0 hc99))) ?_
          refine xg_t (xg_iload (va := (0, 0)) rfl rfl) ?_
          refine xg_t (xg_ifF (u := 0) rfl xnm0 (by decide)) ?_
          refine xg_t (xg_blq rfl) ?_
          refine xg_t (xg_const) ?_
          have hq101 : fld w 20 3 = f20_15 := fld_of h20_17
          exact xg_e ⟨4294967295, w, ⟨rfl, rfl⟩, ⟨Or.inr ⟨by omega, by omega, rfl⟩, fun h => absurd h (by omega), fun j _ _ => rfl⟩, hI, xFr.rf⟩
    · refine xg_t (xg_ifT (u := (if 1 ≤ fo ∧ fo ≤ 999999 then 1 else 0)) rfl xnm0 (xj_eqT (xite0 hc22))) ?_
      refine xg_t (xg_blq rfl) ?_
      refine xg_t (xg_const) ?_
      refine xg_t (xg_blq rfl) ?_
      refine xg_t (xg_istore (l1 := [(5, (2, 20)), (0, (2, 0)), (1, (0, sp)), (2, (0, fo)), (3, (0, fi)), (4, (0, cr))]) rfl rfl rfl) ?_
      refine xg_t (xg_aload (va := (2, 20)) rfl rfl) ?_
      refine xg_t (xg_cVr mX5_isFull (vs := []) (rest := []) (rs := [(0, if 12 ≤ f20_15 then 1 else 0)]) (cn1 := 0) (sl1 := 0) rfl (rfull_ok h20_17 (by decide) (by omega)) rfl h20_17 rfl rfl rfl rfl rfl rfl rfl) ?_
      by_cases hc102 : 12 ≤ f20_15
      · refine xg_t (xg_ifT (u := (if 12 ≤ f20_15 then 1 else 0)) rfl xnm0 (xj_neT (xite1 hc102))) ?_
        refine xg_t (xg_blq rfl) ?_
        refine xg_t (xg_const) ?_
        have hq103 : fld w 20 3 = f20_15 := fld_of h20_17
        exact xg_e ⟨4294967295, w, ⟨rfl, rfl⟩, ⟨Or.inr ⟨by omega, by omega, rfl⟩, fun h => absurd h (by omega), fun j _ _ => rfl⟩, hI, xFr.rf⟩
      · refine xg_t (xg_ifF (u := (if 12 ≤ f20_15 then 1 else 0)) rfl xnm0 (xj_neF (xite0 hc102))) ?_
        refine xg_t (xg_iload (va := (0, 0)) rfl rfl) ?_
        refine xg_t (xg_ifF (u := 0) rfl xnm0 (by decide)) ?_
        refine xg_t (xg_blq rfl) ?_
        refine xg_t (xg_const) ?_
        have hq104 : fld w 20 3 = f20_15 := fld_of h20_17
        exact xg_e ⟨4294967295, w, ⟨rfl, rfl⟩, ⟨Or.inr ⟨by omega, by omega, rfl⟩, fun h => absurd h (by omega), fun j _ _ => rfl⟩, hI, xFr.rf⟩
  · refine xg_t (xg_ifT (u := (if 1 ≤ sp ∧ sp ≤ 9 then 1 else 0)) rfl xnm0 (xj_eqT (xite0 hc21))) ?_
    refine xg_t (xg_blq rfl) ?_
    refine xg_t (xg_const) ?_
    refine xg_t (xg_blq rfl) ?_
    refine xg_t (xg_istore (l1 := [(5, (2, 20)), (0, (2, 0)), (1, (0, sp)), (2, (0, fo)), (3, (0, fi)), (4, (0, cr))]) rfl rfl rfl) ?_
    refine xg_t (xg_aload (va := (2, 20)) rfl rfl) ?_
    refine xg_t (xg_cVr mX5_isFull (vs := []) (rest := []) (rs := [(0, if 12 ≤ f20_15 then 1 else 0)]) (cn1 := 0) (sl1 := 0) rfl (rfull_ok h20_17 (by decide) (by omega)) rfl h20_17 rfl rfl rfl rfl rfl rfl rfl) ?_
    by_cases hc105 : 12 ≤ f20_15
    · refine xg_t (xg_ifT (u := (if 12 ≤ f20_15 then 1 else 0)) rfl xnm0 (xj_neT (xite1 hc105))) ?_
      refine xg_t (xg_blq rfl) ?_
      refine xg_t (xg_const) ?_
      have hq106 : fld w 20 3 = f20_15 := fld_of h20_17
      exact xg_e ⟨4294967295, w, ⟨rfl, rfl⟩, ⟨Or.inr ⟨by omega, by omega, rfl⟩, fun h => absurd h (by omega), fun j _ _ => rfl⟩, hI, xFr.rf⟩
    · refine xg_t (xg_ifF (u := (if 12 ≤ f20_15 then 1 else 0)) rfl xnm0 (xj_neF (xite0 hc105))) ?_
      refine xg_t (xg_iload (va := (0, 0)) rfl rfl) ?_
      refine xg_t (xg_ifF (u := 0) rfl xnm0 (by decide)) ?_
      refine xg_t (xg_blq rfl) ?_
      refine xg_t (xg_const) ?_
      have hq107 : fld w 20 3 = f20_15 := fld_of h20_17
      exact xg_e ⟨4294967295, w, ⟨rfl, rfl⟩, ⟨Or.inr ⟨by omega, by omega, rfl⟩, fun h => absurd h (by omega), fun j _ _ => rfl⟩, hI, xFr.rf⟩
theorem tdTakeX {fa pl : Nat} (hI : xInv w) (h1 : fa ≤ 4294967295) (h2 : pl ≤ 4294967295) : xPq d mX9_take [(2, 1), (0, fa), (0, pl)] w bd fc rr [] (fun w' => xInv w' ∧ xFr [1] w w' ∧ (fld w' 1 1 = 0 ∧ fld w' 1 6 = fld w 1 6)) := by
  refine xPq.of ?_
  show xTo d mX9_take (0, [], [(0, (2, 1)), (1, (0, fa)), (2, (0, pl))], [], (w, bd, fc, 0, 0, rr)) (fun φ => ∃ w', xEnd 0 [] (w', bd, fc, 0, 0, rr) φ ∧ xInv w' ∧ xFr [1] w w' ∧ (fld w' 1 1 = 0 ∧ fld w' 1 6 = fld w 1 6))
  refine xoC1 (xqc1 hI : cp1 (wget w 1)) (fun f1_1 f1_3 f1_5 f1_7 f1_9 f1_11 h1_13 hb2 hb4 hb6 hb8 hb10 hb12 => ?_)
  refine xg_t (xg_blq rfl) ?_
  refine xg_t (xg_aload (va := (2, 1)) rfl rfl) ?_
  refine xg_t (xg_const) ?_
  refine xg_putI (fl1 := [(2, 2), (0, 0), (0, f1_3), (0, f1_5), (2, 3), (2, 14), (0, f1_7), (0, f1_9), (2, 16), (0, f1_11), (2, 18), (2, 20), (2, 22), (2, 24)]) h1_13 rfl rfl rfl (fun w14 hk15 hb16 => ?_)
  refine xg_t (xg_aload (va := (2, 1)) rfl rfl) ?_
  refine xg_t (xg_iload (va := (0, fa)) rfl rfl) ?_
  refine xg_putI (fl1 := [(2, 2), (0, 0), (0, fa), (0, f1_5), (2, 3), (2, 14), (0, f1_7), (0, f1_9), (2, 16), (0, f1_11), (2, 18), (2, 20), (2, 22), (2, 24)]) hk15 rfl rfl rfl (fun w17 hk18 hb19 => ?_)
  refine xg_t (xg_aload (va := (2, 1)) rfl rfl) ?_
  refine xg_t (xg_iload (va := (0, fa)) rfl rfl) ?_
  by_cases hc20 : fa = 0
  · refine xg_t (xg_ifF (u := fa) rfl xnm0 (xj_neF hc20)) ?_
    refine xg_t (xg_const) ?_
    refine xg_t (xg_goto) ?_
    refine xg_t (xg_blq rfl) ?_
    refine xg_putI (fl1 := [(2, 2), (0, 0), (0, fa), (0, 4294967295), (2, 3), (2, 14), (0, f1_7), (0, f1_9), (2, 16), (0, f1_11), (2, 18), (2, 20), (2, 22), (2, 24)]) hk18 rfl rfl rfl (fun w21 hk22 hb23 => ?_)
    have hq24 : fld w 1 1 = f1_1 := fld_of h1_13
    have hq25 : fld w21 1 1 = 0 := fld_of hk22
    have hq26 : fld w 1 6 = f1_7 := fld_of h1_13
    have hq27 : fld w21 1 6 = f1_7 := fld_of hk22
    exact xg_e ⟨w21, ⟨rfl, rfl⟩, xInv.up (S := [1]) hI (((xFr.of (S := [1]) hb16 (by decide)).tr (xFr.of (S := [1]) hb19 (by decide))).tr (xFr.of (S := [1]) hb23 (by decide))) (List.forall_mem_cons.mpr ⟨xqu1 (show cp1 (wget w21 1) from xmC1 0 fa 4294967295 f1_7 f1_9 f1_11 hk22 (by decide) (by omega) (by decide) hb8 hb10 hb12), fun _ h => absurd h List.not_mem_nil⟩), (((xFr.of (S := [1]) hb16 (by decide)).tr (xFr.of (S := [1]) hb19 (by decide))).tr (xFr.of (S := [1]) hb23 (by decide))), ⟨by omega, by omega⟩⟩
  · refine xg_t (xg_ifT (u := fa) rfl xnm0 (xj_neT hc20)) ?_
    refine xg_t (xg_blq rfl) ?_
    refine xg_t (xg_iload (va := (0, pl)) rfl rfl) ?_
    refine xg_t (xg_blq rfl) ?_
    refine xg_putI (fl1 := [(2, 2), (0, 0), (0, fa), (0, pl), (2, 3), (2, 14), (0, f1_7), (0, f1_9), (2, 16), (0, f1_11), (2, 18), (2, 20), (2, 22), (2, 24)]) hk18 rfl rfl rfl (fun w28 hk29 hb30 => ?_)
    have hq31 : fld w 1 1 = f1_1 := fld_of h1_13
    have hq32 : fld w28 1 1 = 0 := fld_of hk29
    have hq33 : fld w 1 6 = f1_7 := fld_of h1_13
    have hq34 : fld w28 1 6 = f1_7 := fld_of hk29
    exact xg_e ⟨w28, ⟨rfl, rfl⟩, xInv.up (S := [1]) hI (((xFr.of (S := [1]) hb16 (by decide)).tr (xFr.of (S := [1]) hb19 (by decide))).tr (xFr.of (S := [1]) hb30 (by decide))) (List.forall_mem_cons.mpr ⟨xqu1 (show cp1 (wget w28 1) from xmC1 0 fa pl f1_7 f1_9 f1_11 hk29 (by decide) (by omega) (by omega) hb8 hb10 hb12), fun _ h => absurd h List.not_mem_nil⟩), (((xFr.of (S := [1]) hb16 (by decide)).tr (xFr.of (S := [1]) hb19 (by decide))).tr (xFr.of (S := [1]) hb30 (by decide))), ⟨by omega, by omega⟩⟩
theorem tdAppendX {nu : Nat} (hI : xInv w) (h1 : nu ≤ 4294967295) : xPq d mX9_append [(2, 1), (0, nu)] w bd fc rr [] (fun w' => xInv w' ∧ xFr [1, 2] w w' ∧ ((fld w 1 1 ≤ 496 → fld w' 1 1 = fld w 1 1 + 4) ∧ fld w' 1 6 = fld w 1 6)) := by
  refine xPq.of ?_
  show xTo d mX9_append (0, [], [(0, (2, 1)), (1, (0, nu))], [], (w, bd, fc, 0, 0, rr)) (fun φ => ∃ w', xEnd 0 [] (w', bd, fc, 0, 0, rr) φ ∧ xInv w' ∧ xFr [1, 2] w w' ∧ ((fld w 1 1 ≤ 496 → fld w' 1 1 = fld w 1 1 + 4) ∧ fld w' 1 6 = fld w 1 6))
  refine xoC1 (xqc1 hI : cp1 (wget w 1)) (fun f1_1 f1_3 f1_5 f1_7 f1_9 f1_11 h1_13 hb2 hb4 hb6 hb8 hb10 hb12 => ?_)
  refine xg_t (xg_blq rfl) ?_
  refine xg_t (xg_bip) ?_
  refine xg_t (xg_istore (l1 := [(0, (2, 1)), (1, (0, nu))]) rfl rfl rfl) ?_
  refine xg_t (xg_drop (l1 := [(0, (2, 1)), (1, (0, nu)), (2, (0, 24))]) (List.forall_mem_cons.mpr ⟨List.mem_cons_of_mem _ (List.mem_cons_self), List.forall_mem_cons.mpr ⟨List.mem_cons_of_mem _ (List.mem_cons_of_mem _ (List.mem_cons_self)), List.forall_mem_cons.mpr ⟨List.mem_cons_self, fun _ h => absurd h List.not_mem_nil⟩⟩⟩)) ?_
  have key14 : ∀ (m16 : Nat) (sh : Nat) (w17 : List (List xE)), (sh + 8) % 4294967296 < m16 → sh ≤ 4294967295 → xInv w17 → xFr [1, 2] w w17 → sh % 8 = 0 ∧ (sh ≤ 24 ∨ sh = 4294967288) → ((fld w 1 1 ≤ 496 → (sh ≤ 24 → fld w17 1 1 = fld w 1 1 + (24 - sh) / 8) ∧ (sh = 4294967288 → fld w17 1 1 = fld w 1 1 + 4)) ∧ fld w17 1 6 = fld w 1 6) → xTo d mX9_append (3, [], [(0, (2, 1)), (1, (0, nu)), (2, (0, sh))], [], (w17, bd, fc, 0, 0, rr)) (fun φ => ∃ w', xEnd 0 [] (w', bd, fc, 0, 0, rr) φ ∧ xInv w' ∧ xFr [1, 2] w w' ∧ ((fld w 1 1 ≤ 496 → fld w' 1 1 = fld w 1 1 + 4) ∧ fld w' 1 6 = fld w 1 6)) := by
    intro m16
    induction m16 with
    | zero => intro sh w17 hz; exact absurd hz (Nat.not_lt_zero _)
    | succ m16 ih15 =>
      intro sh w17 hm23 hn20 hI18 hF19 he21 he22
      obtain ⟨he24, he25⟩ := he22
      refine xoC1 (xqc1 hI18 : cp1 (wget w17 1)) (fun f1_26 f1_28 f1_30 f1_32 f1_34 f1_36 h1_38 hb27 hb29 hb31 hb33 hb35 hb37 => ?_)
      have hq39 : fld w17 1 1 = f1_26 := fld_of h1_38
      have hq40 : fld w17 1 6 = f1_32 := fld_of h1_38
      refine xg_t (xg_blq rfl) ?_
      refine xg_t (xg_iload (va := (0, sh)) rfl rfl) ?_
      by_cases hc41 : sh < 2147483648
      · refine xg_t (xg_ifF (u := sh) rfl xnm0 (xjz_ltF hc41)) ?_
        refine xg_t (xg_aload (va := (2, 1)) rfl rfl) ?_
        refine xg_t (xg_getf (va := (0, f1_26)) h1_38 rfl) ?_
        refine xg_t (xg_sip) ?_
        by_cases hc42 : f1_26 < 500
        · refine xg_t (xg_icF (u := f1_26) (v := 500) rfl xnm0 xnm0 (xj_geF hc42 (by omega))) ?_
          refine xg_t (xg_aload (va := (2, 1)) rfl rfl) ?_
          refine xg_t (xg_getf (va := (2, 2)) h1_38 rfl) ?_
          refine xg_t (xg_aload (va := (2, 1)) rfl rfl) ?_
          refine xg_t (xg_getf (va := (0, f1_26)) h1_38 rfl) ?_
          refine xg_t (xg_iload (va := (0, nu)) rfl rfl) ?_
          refine xg_t (xg_iload (va := (0, sh)) rfl rfl) ?_
          refine xg_k (xg_ishrG (u := nu) (v := sh) xnm0 xnm0) (xpt_lt _) (fun z43 hz44 => ?_)
          refine xg_k (xg_i2b (u := z43) xnm0) (xpt_lt _) (fun z45 hz46 => ?_)
          obtain ⟨g2_47, h2_48, hb49⟩ := (xqc2 hI18 : cpY 500 0 (wget w17 2))
          have h2_48 : xRk 1 0 w17 2 500 0 g2_47 := h2_48
          refine xg_bastY (n := f1_26) (u := z45) h2_48 xnm0 xnm0 rfl (by omega) (fun w50 hr51 hb52 => ?_)
          refine xg_t (xg_aload (va := (2, 1)) rfl rfl) ?_
          refine xg_t (xg_dup rfl) ?_
          refine xg_t (xg_getf (va := (0, f1_26)) (hb52.get (by decide) h1_38) rfl) ?_
          refine xg_t (xg_const) ?_
          refine xg_t (xg_iadd (u := f1_26) (v := 1) (z := f1_26 + 1) xnm0 xnm0 (by omega)) ?_
          refine xg_putI (fl1 := [(2, 2), (0, f1_26 + 1), (0, f1_28), (0, f1_30), (2, 3), (2, 14), (0, f1_32), (0, f1_34), (2, 16), (0, f1_36), (2, 18), (2, 20), (2, 22), (2, 24)]) (hb52.get (by decide) h1_38) rfl rfl rfl (fun w53 hk54 hb55 => ?_)
          refine xg_t (xg_iinc (u := sh) (z := (sh + 4294967288) % 4294967296) (l1 := [(0, (2, 1)), (1, (0, nu))]) rfl rfl (rfl) rfl) ?_
          refine xg_t (xg_goto) ?_
          refine xg_t (xg_drop (l1 := [(0, (2, 1)), (1, (0, nu)), (2, (0, (sh + 4294967288) % 4294967296))]) (List.forall_mem_cons.mpr ⟨List.mem_cons_of_mem _ (List.mem_cons_self), List.forall_mem_cons.mpr ⟨List.mem_cons_of_mem _ (List.mem_cons_of_mem _ (List.mem_cons_self)), List.forall_mem_cons.mpr ⟨List.mem_cons_self, fun _ h => absurd h List.not_mem_nil⟩⟩⟩)) ?_
          have hq56 : fld w53 1 1 = f1_26 + 1 := fld_of hk54
          have hq57 : fld w53 1 6 = f1_32 := fld_of hk54
          exact ih15 ((sh + 4294967288) % 4294967296) w53 (by omega) (by omega) (xInv.up (S := [2, 1]) hI18 ((xFr.of (S := [2, 1]) hb52 (by decide)).tr (xFr.of (S := [2, 1]) hb55 (by decide))) (List.forall_mem_cons.mpr ⟨xqu2 (show cpY 500 0 (wget w53 2) from ⟨_, (hr51.but hb55 (by decide)), xrbY (xby_byt _) (hb49)⟩), List.forall_mem_cons.mpr ⟨xqu1 (show cp1 (wget w53 1) from xmC1 (f1_26 + 1) f1_28 f1_30 f1_32 f1_34 f1_36 hk54 (by omega) hb29 hb31 hb33 hb35 hb37), fun _ h => absurd h List.not_mem_nil⟩⟩)) ((hF19.tr ((xFr.of (S := [1, 2]) hb52 (by decide)).tr (xFr.of (S := [1, 2]) hb55 (by decide))))) (by omega) (⟨fun _ => ⟨fun _ => by omega, fun _ => by omega⟩, by omega⟩)
        · refine xg_t (xg_icT (u := f1_26) (v := 500) rfl xnm0 xnm0 (xj_geT (by omega) (by omega))) ?_
          refine xg_t (xg_blq rfl) ?_
          exact xg_e ⟨w17, ⟨rfl, rfl⟩, hI18, hF19, ⟨fun _ => by omega, by omega⟩⟩
      · refine xg_t (xg_ifT (u := sh) rfl xnm0 (xjz_ltT (by omega) (by omega))) ?_
        refine xg_t (xg_blq rfl) ?_
        exact xg_e ⟨w17, ⟨rfl, rfl⟩, hI18, hF19, ⟨fun _ => by omega, by omega⟩⟩
  exact key14 _ 24 w (Nat.lt_succ_self _) (by omega) (hI) (xFr.rf) (by omega) (⟨fun _ => ⟨fun _ => by omega, fun _ => by omega⟩, rfl⟩)
theorem scFeedX {fa fb fc_ fd fe : Nat} (hI : xInv w) (hfa : fa ≤ 4294967295) (hfb : fb ≤ 4294967295) (hfc_ : fc_ ≤ 4294967295) (hfd : fd ≤ 4294967295) (hfe : fe ≤ 4294967295) : xPi (d + 1) mX11_feed [(2, 0), (0, fa), (0, fb), (0, fc_), (0, fd), (0, fe)] w bd fc rr (fun n w' => (((n = fld w 1 1 + 20 ∧ fld w 1 1 ≤ 480 ∧ fld w' 1 1 = fld w 1 1 + 20) ∨ (n = 4294967295 ∧ ¬ fld w 1 1 ≤ 480 ∧ fld w' 1 1 = fld w 1 1)) ∧ fld w' 1 6 = fld w 1 6) ∧ xInv w' ∧ xFr [1, 2] w w') := by
  refine xPi.of ?_
  show xTo (d + 1) mX11_feed (0, [], [(0, (2, 0)), (1, (0, fa)), (2, (0, fb)), (3, (0, fc_)), (4, (0, fd)), (5, (0, fe))], [], (w, bd, fc, 0, 0, rr)) (fun φ => ∃ n w', xEnd 1 [(0, n)] (w', bd, fc, 0, 0, rr) φ ∧ (((n = fld w 1 1 + 20 ∧ fld w 1 1 ≤ 480 ∧ fld w' 1 1 = fld w 1 1 + 20) ∨ (n = 4294967295 ∧ ¬ fld w 1 1 ≤ 480 ∧ fld w' 1 1 = fld w 1 1)) ∧ fld w' 1 6 = fld w 1 6) ∧ xInv w' ∧ xFr [1, 2] w w')
  have h0_1 := (xqc0 hI : cp0 (wget w 0))
  refine xoC1 (xqc1 hI : cp1 (wget w 1)) (fun f1_2 f1_4 f1_6 f1_8 f1_10 f1_12 h1_14 hb3 hb5 hb7 hb9 hb11 hb13 => ?_)
  refine xg_t (xg_blq rfl) ?_
  refine xg_t (xg_aload (va := (2, 0)) rfl rfl) ?_
  refine xg_t (xg_getf (va := (2, 1)) h0_1 rfl) ?_
  refine xg_t (xg_getf (va := (0, f1_2)) h1_14 rfl) ?_
  refine xg_t (xg_sip) ?_
  by_cases hc15 : 480 < f1_2
  · refine xg_t (xg_icF (u := f1_2) (v := 480) rfl xnm0 xnm0 (xj_leF hc15 (by omega))) ?_
    refine xg_t (xg_const) ?_
    have hq16 : fld w 1 1 = f1_2 := fld_of h1_14
    have hq17 : fld w 1 6 = f1_8 := fld_of h1_14
    exact xg_e ⟨4294967295, w, ⟨rfl, rfl⟩, by first | decide | omega, hI, xFr.rf⟩
  · refine xg_t (xg_icT (u := f1_2) (v := 480) rfl xnm0 xnm0 (xj_leT (by omega) (by omega))) ?_
    refine xg_t (xg_blq rfl) ?_
    refine xg_t (xg_aload (va := (2, 0)) rfl rfl) ?_
    refine xg_t (xg_getf (va := (2, 1)) h0_1 rfl) ?_
    refine xg_t (xg_iload (va := (0, fa)) rfl rfl) ?_
    refine xg_cVv mX9_append (vs := [(0, fa)]) (rest := []) (cn1 := 0) (sl1 := 0) rfl (tdAppendX (hI) (by omega)) rfl h1_14 rfl rfl rfl rfl rfl rfl (fun w18 hq19 => ?_)
    obtain ⟨hI20, hF21, hx22⟩ := hq19
    obtain ⟨ht23, ht24⟩ := hx22
    refine xg_t (xg_aload (va := (2, 0)) rfl rfl) ?_
    refine xg_t (xg_getf (va := (2, 1)) (hF21.get (by decide) h0_1) rfl) ?_
    refine xg_t (xg_iload (va := (0, fb)) rfl rfl) ?_
    refine xoC1 (xqc1 hI20 : cp1 (wget w18 1)) (fun f1_25 f1_27 f1_29 f1_31 f1_33 f1_35 h1_37 hb26 hb28 hb30 hb32 hb34 hb36 => ?_)
    refine xg_cVv mX9_append (vs := [(0, fb)]) (rest := []) (cn1 := 0) (sl1 := 0) rfl (tdAppendX (hI20) (by omega)) rfl h1_37 rfl rfl rfl rfl rfl rfl (fun w38 hq39 => ?_)
    obtain ⟨hI40, hF41, hx42⟩ := hq39
    obtain ⟨ht43, ht44⟩ := hx42
    refine xg_t (xg_aload (va := (2, 0)) rfl rfl) ?_
    refine xg_t (xg_getf (va := (2, 1)) (hF41.get (by decide) (hF21.get (by decide) h0_1)) rfl) ?_
    refine xg_t (xg_iload (va := (0, fc_)) rfl rfl) ?_
    refine xoC1 (xqc1 hI40 : cp1 (wget w38 1)) (fun f1_45 f1_47 f1_49 f1_51 f1_53 f1_55 h1_57 hb46 hb48 hb50 hb52 hb54 hb56 => ?_)
    refine xg_cVv mX9_append (vs := [(0, fc_)]) (rest := []) (cn1 := 0) (sl1 := 0) rfl (tdAppendX (hI40) (by omega)) rfl h1_57 rfl rfl rfl rfl rfl rfl (fun w58 hq59 => ?_)
    obtain ⟨hI60, hF61, hx62⟩ := hq59
    obtain ⟨ht63, ht64⟩ := hx62
    refine xg_t (xg_aload (va := (2, 0)) rfl rfl) ?_
    refine xg_t (xg_getf (va := (2, 1)) (hF61.get (by decide) (hF41.get (by decide) (hF21.get (by decide) h0_1))) rfl) ?_
    refine xg_t (xg_iload (va := (0, fd)) rfl rfl) ?_
    refine xoC1 (xqc1 hI60 : cp1 (wget w58 1)) (fun f1_65 f1_67 f1_69 f1_71 f1_73 f1_75 h1_77 hb66 hb68 hb70 hb72 hb74 hb76 => ?_)
    refine xg_cVv mX9_append (vs := [(0, fd)]) (rest := []) (cn1 := 0) (sl1 := 0) rfl (tdAppendX (hI60) (by omega)) rfl h1_77 rfl rfl rfl rfl rfl rfl (fun w78 hq79 => ?_)
    obtain ⟨hI80, hF81, hx82⟩ := hq79
    obtain ⟨ht83, ht84⟩ := hx82
    refine xg_t (xg_aload (va := (2, 0)) rfl rfl) ?_
    refine xg_t (xg_getf (va := (2, 1)) (hF81.get (by decide) (hF61.get (by decide) (hF41.get (by decide) (hF21.get (by decide) h0_1)))) rfl) ?_
    refine xg_t (xg_iload (va := (0, fe)) rfl rfl) ?_
    refine xoC1 (xqc1 hI80 : cp1 (wget w78 1)) (fun f1_85 f1_87 f1_89 f1_91 f1_93 f1_95 h1_97 hb86 hb88 hb90 hb92 hb94 hb96 => ?_)
    refine xg_cVv mX9_append (vs := [(0, fe)]) (rest := []) (cn1 := 0) (sl1 := 0) rfl (tdAppendX (hI80) (by omega)) rfl h1_97 rfl rfl rfl rfl rfl rfl (fun w98 hq99 => ?_)
    obtain ⟨hI100, hF101, hx102⟩ := hq99
    obtain ⟨ht103, ht104⟩ := hx102
    refine xg_t (xg_aload (va := (2, 0)) rfl rfl) ?_
    refine xg_t (xg_getf (va := (2, 1)) (hF101.get (by decide) (hF81.get (by decide) (hF61.get (by decide) (hF41.get (by decide) (hF21.get (by decide) h0_1))))) rfl) ?_
    refine xoC1 (xqc1 hI100 : cp1 (wget w98 1)) (fun f1_105 f1_107 f1_109 f1_111 f1_113 f1_115 h1_117 hb106 hb108 hb110 hb112 hb114 hb116 => ?_)
    refine xg_t (xg_getf (va := (0, f1_105)) h1_117 rfl) ?_
    have hq118 : fld w 1 1 = f1_2 := fld_of h1_14
    have hq119 : fld w98 1 1 = f1_105 := fld_of h1_117
    have hq120 : fld w 1 6 = f1_8 := fld_of h1_14
    have hq121 : fld w98 1 6 = f1_111 := fld_of h1_117
    exact xg_e ⟨f1_105, w98, ⟨rfl, rfl⟩, by omega, hI100, (((((hF21.up (by decide)).tr (hF41.up (by decide))).tr (hF61.up (by decide))).tr (hF81.up (by decide))).tr (hF101.up (by decide)))⟩
theorem ftReadX (hI : xInv w)  : xPi (d + 7) mX2_readFilm [(2, 27)] w bd fc rr (fun n w' => (n ≤ 4294967295 ∧ fld w' 1 1 = 0 ∧ fld w' 1 6 = fld w 1 6) ∧ xInv w' ∧ xFr [1, 3, 4, 5, 6, 7, 8, 9, 10, 11, 12, 13, 14, 15, 16, 17, 27, 28, 29, 30, 31, 32, 33, 34, 35, 36, 37, 38, 39, 40, 41, 42] w w') := by
  refine xPi.of ?_
  show xTo (d + 7) mX2_readFilm (0, [], [(0, (2, 27))], [], (w, bd, fc, 0, 0, rr)) (fun φ => ∃ n w', xEnd 1 [(0, n)] (w', bd, fc, 0, 0, rr) φ ∧ (n ≤ 4294967295 ∧ fld w' 1 1 = 0 ∧ fld w' 1 6 = fld w 1 6) ∧ xInv w' ∧ xFr [1, 3, 4, 5, 6, 7, 8, 9, 10, 11, 12, 13, 14, 15, 16, 17, 27, 28, 29, 30, 31, 32, 33, 34, 35, 36, 37, 38, 39, 40, 41, 42] w w')
  refine xoC27 (xqc27 hI : cp27 (wget w 27)) (fun f27_1 f27_3 f27_5 f27_7 f27_9 h27_11 hb2 hb4 hb6 hb8 hb10 => ?_)
  refine xoC1 (xqc1 hI : cp1 (wget w 1)) (fun f1_12 f1_14 f1_16 f1_18 f1_20 f1_22 h1_24 hb13 hb15 hb17 hb19 hb21 hb23 => ?_)
  refine xg_t (xg_blq rfl) ?_
  refine xg_t (xg_aload (va := (2, 27)) rfl rfl) ?_
  refine xg_t (xg_getf (va := (2, 28)) h27_11 rfl) ?_
  refine xoC28 (xqc28 hI : cp28 (wget w 28)) (fun f28_25 f28_27 f28_29 f28_31 f28_33 h28_35 hb26 hb28 hb30 hb32 hb34 => ?_)
  refine xg_cVv mX1_clear (vs := []) (rest := []) (cn1 := 0) (sl1 := 0) rfl (fmDraftClear (hI)) rfl h28_35 rfl rfl rfl rfl rfl rfl (fun w36 hq37 => ?_)
  obtain ⟨hI38, hF39⟩ := hq37
  refine xg_t (xg_aload (va := (2, 27)) rfl rfl) ?_
  refine xg_t (xg_const) ?_
  refine xg_putZ (fl1 := [(2, 1), (2, 42), (2, 28), (2, 39), (2, 40), (2, 41), (0, f27_1), (0, 0), (0, f27_5), (0, f27_7), (0, f27_9)]) (hF39.get (by decide) h27_11) rfl rfl rfl (fun w40 hk41 hb42 => ?_)
  refine xg_t (xg_aload (va := (2, 27)) rfl rfl) ?_
  refine xg_t (xg_const) ?_
  refine xg_putZ (fl1 := [(2, 1), (2, 42), (2, 28), (2, 39), (2, 40), (2, 41), (0, f27_1), (0, 0), (0, 0), (0, f27_7), (0, f27_9)]) hk41 rfl rfl rfl (fun w43 hk44 hb45 => ?_)
  refine xg_t (xg_aload (va := (2, 27)) rfl rfl) ?_
  refine xg_t (xg_const) ?_
  refine xg_putI (fl1 := [(2, 1), (2, 42), (2, 28), (2, 39), (2, 40), (2, 41), (0, f27_1), (0, 0), (0, 0), (0, 0), (0, f27_9)]) hk44 rfl rfl rfl (fun w46 hk47 hb48 => ?_)
  refine xg_t (xg_aload (va := (2, 27)) rfl rfl) ?_
  refine xg_t (xg_getf (va := (2, 42)) hk47 rfl) ?_
  refine xg_t (xg_aload (va := (2, 27)) rfl rfl) ?_
  refine xg_t (xg_getf (va := (2, 1)) hk47 rfl) ?_
  refine xg_t (xg_getf (va := (0, f1_12)) (hb48.get (by decide) (hb45.get (by decide) (hb42.get (by decide) (hF39.get (by decide) h1_24)))) rfl) ?_
  refine xoC42 (xqc42 hI38 : cp42 (wget w36 42)) (fun f42_49 f42_51 f42_53 f42_55 f42_57 h42_59 hb50 hb52 hb54 hb56 hb58 hb60 => ?_)
  refine xg_cVv mX8_start (vs := [(0, f1_12)]) (rest := []) (cn1 := 0) (sl1 := 0) rfl (tkStart42 (xInv.up (S := [27]) hI38 (((xFr.of (S := [27]) hb42 (by decide)).tr (xFr.of (S := [27]) hb45 (by decide))).tr (xFr.of (S := [27]) hb48 (by decide))) (List.forall_mem_cons.mpr ⟨xqu27 (show cp27 (wget w46 27) from xmC27 f27_1 0 0 0 f27_9 hk47 hb2 (by decide) (by decide) (by decide) hb10), fun _ h => absurd h List.not_mem_nil⟩)) (by omega)) rfl (hb48.get (by decide) (hb45.get (by decide) (hb42.get (by decide) h42_59))) rfl rfl rfl rfl rfl rfl (fun w61 hq62 => ?_)
  obtain ⟨hI63, hF64⟩ := hq62
  refine xoC28 (xqc28 hI63 : cp28 (wget w61 28)) (fun f28_65 f28_67 f28_69 f28_71 f28_73 h28_75 hb66 hb68 hb70 hb72 hb74 => ?_)
  have key76 : ∀ (m78 : Nat) (p5 p6 p7 p8 lf : Nat) (w79 : List (List xE)), 500 - lf < m78 → p5 ≤ 10 → p6 ≤ 10 → p7 ≤ 6 → p8 ≤ 6 → lf ≤ 500 → wget w79 28 = some (.inl (1, [(2, 29), (2, 31), (2, 33), (2, 35), (2, 37), (0, p5), (0, p6), (0, p7), (0, p8), (0, lf)])) → xInv w79 → xFr [1, 3, 4, 5, 6, 7, 8, 9, 10, 11, 12, 13, 14, 15, 16, 17, 27, 28, 29, 30, 31, 32, 33, 34, 35, 36, 37, 38, 39, 40, 41, 42] w w79 → fld w79 1 6 = fld w 1 6 → xTo (d + 7) mX2_readFilm (36, [], [(0, (2, 27))], [], (w79, bd, fc, 0, 0, rr)) (fun φ => ∃ n w', xEnd 1 [(0, n)] (w', bd, fc, 0, 0, rr) φ ∧ (n ≤ 4294967295 ∧ fld w' 1 1 = 0 ∧ fld w' 1 6 = fld w 1 6) ∧ xInv w' ∧ xFr [1, 3, 4, 5, 6, 7, 8, 9, 10, 11, 12, 13, 14, 15, 16, 17, 27, 28, 29, 30, 31, 32, 33, 34, 35, 36, 37, 38, 39, 40, 41, 42] w w') := by
    intro m78
    induction m78 with
    | zero => intro p5 p6 p7 p8 lf w79 hz; exact absurd hz (Nat.not_lt_zero _)
    | succ m78 ih77 =>
      intro p5 p6 p7 p8 lf w79 hm89 hn82 hn83 hn84 hn85 hn86 hcl87 hI80 hF81 he88
      refine xg_t (xg_blq rfl) ?_
      refine xg_t (xg_aload (va := (2, 27)) rfl rfl) ?_
      refine xoC27 (xqc27 hI80 : cp27 (wget w79 27)) (fun f27_90 f27_92 f27_94 f27_96 f27_98 h27_100 hb91 hb93 hb95 hb97 hb99 => ?_)
      refine xg_t (xg_getf (va := (2, 28)) h27_100 rfl) ?_
      refine xg_t (xg_getf (va := (0, lf)) hcl87 rfl) ?_
      refine xg_t (xg_sip) ?_
      by_cases hc101 : lf < 500
      · refine xg_t (xg_icF (u := lf) (v := 500) rfl xnm0 xnm0 (xj_geF hc101 (by omega))) ?_
        refine xg_t (xg_aload (va := (2, 27)) rfl rfl) ?_
        refine xg_t (xg_getf (va := (2, 42)) h27_100 rfl) ?_
        refine xoC42 (xqc42 hI80 : cp42 (wget w79 42)) (fun f42_102 f42_104 f42_106 f42_108 f42_110 h42_112 hb103 hb105 hb107 hb109 hb111 hb113 => ?_)
        refine xg_t (xg_getf (va := (0, f42_104)) h42_112 rfl) ?_
        by_cases hc114 : f42_104 = 0
        · refine xg_t (xg_ifT (u := f42_104) rfl xnm0 (xj_eqT hc114)) ?_
          refine xg_t (xg_blq rfl) ?_
          refine xg_t (xg_aload (va := (2, 27)) rfl rfl) ?_
          refine xg_cVv mX2_findFlawBeside (vs := []) (rest := []) (cn1 := 0) (sl1 := 0) rfl (ftBeside (hI80)) rfl h27_100 rfl rfl rfl rfl rfl rfl (fun w115 hq116 => ?_)
          obtain ⟨hI117, hF118⟩ := hq116
          refine xg_t (xg_aload (va := (2, 27)) rfl rfl) ?_
          refine xoC27 (xqc27 hI117 : cp27 (wget w115 27)) (fun f27_119 f27_121 f27_123 f27_125 f27_127 h27_129 hb120 hb122 hb124 hb126 hb128 => ?_)
          refine xg_t (xg_getf (va := (2, 1)) h27_129 rfl) ?_
          refine xg_t (xg_aload (va := (2, 27)) rfl rfl) ?_
          refine xg_t (xg_getf (va := (0, f27_125)) h27_129 rfl) ?_
          refine xg_t (xg_aload (va := (2, 27)) rfl rfl) ?_
          refine xg_t (xg_getf (va := (0, f27_127)) h27_129 rfl) ?_
          have hq130 : fld w115 1 6 = fld w 1 6 := (fld_fr hF118 (by decide)).trans he88
          refine xoC1 (xqc1 hI117 : cp1 (wget w115 1)) (fun f1_131 f1_133 f1_135 f1_137 f1_139 f1_141 h1_143 hb132 hb134 hb136 hb138 hb140 hb142 => ?_)
          refine xg_cVv mX9_take (vs := [(0, f27_125), (0, f27_127)]) (rest := []) (cn1 := 0) (sl1 := 0) rfl (tdTakeX (hI117) (by omega) (by omega)) rfl h1_143 rfl rfl rfl rfl rfl rfl (fun w144 hq145 => ?_)
          obtain ⟨hI146, hF147, hx148⟩ := hq145
          obtain ⟨ht149, ht150⟩ := hx148
          refine xg_t (xg_aload (va := (2, 27)) rfl rfl) ?_
          refine xg_t (xg_getf (va := (0, f27_125)) (hF147.get (by decide) h27_129) rfl) ?_
          by_cases hc151 : f27_125 = 0
          · refine xg_t (xg_ifT (u := f27_125) rfl xnm0 (xj_eqT hc151)) ?_
            refine xg_t (xg_blq rfl) ?_
            refine xg_t (xg_aload (va := (2, 27)) rfl rfl) ?_
            refine xg_t (xg_getf (va := (2, 1)) (hF147.get (by decide) h27_129) rfl) ?_
            refine xoC1 (xqc1 hI146 : cp1 (wget w144 1)) (fun f1_152 f1_154 f1_156 f1_158 f1_160 f1_162 h1_164 hb153 hb155 hb157 hb159 hb161 hb163 => ?_)
            refine xg_t (xg_getf (va := (2, 3)) h1_164 rfl) ?_
            refine xg_t (xg_aload (va := (2, 27)) rfl rfl) ?_
            refine xg_t (xg_getf (va := (2, 28)) (hF147.get (by decide) h27_129) rfl) ?_
            refine xoC3 (xqc3 hI146 : cp3 (wget w144 3)) (fun f3_165 f3_167 f3_169 f3_171 f3_173 h3_175 hb166 hb168 hb170 hb172 hb174 => ?_)
            refine xg_cVv mX1_copy (vs := [(2, 28)]) (rest := []) (cn1 := 0) (sl1 := 0) rfl (fmCopy (hI146)) rfl h3_175 rfl rfl rfl rfl rfl rfl (fun w176 hq177 => ?_)
            obtain ⟨hI178, hF179⟩ := hq177
            refine xg_t (xg_aload (va := (2, 27)) rfl rfl) ?_
            refine xg_t (xg_getf (va := (2, 1)) (hF179.get (by decide) (hF147.get (by decide) h27_129)) rfl) ?_
            refine xg_t (xg_getf (va := (2, 14)) (hF179.get (by decide) h1_164) rfl) ?_
            obtain ⟨f14_180, h14_182, hb181⟩ := (xqc14 hI178 : cp14 (wget w176 14))
            refine xg_cV mX5_clear (vs := []) (rest := []) (rs := []) (cn1 := 0) (sl1 := 0) rfl (rclear_ok h14_182) rfl h14_182 rfl rfl rfl rfl rfl rfl rfl (fun w183 hq184 => ?_)
            refine xg_t (xg_aload (va := (2, 27)) rfl rfl) ?_
            refine xg_t (xg_getf (va := (2, 1)) (hq184.2.get (by decide) (hF179.get (by decide) (hF147.get (by decide) h27_129))) rfl) ?_
            refine xg_t (xg_getf (va := (2, 16)) (hq184.2.get (by decide) (hF179.get (by decide) h1_164)) rfl) ?_
            obtain ⟨f16_185, h16_187, hb186⟩ := (xqc16 hI178 : cp16 (wget w176 16))
            refine xg_cV mX5_clear (vs := []) (rest := []) (rs := []) (cn1 := 0) (sl1 := 0) rfl (rclear_ok (hq184.2.get (by decide) h16_187)) rfl (hq184.2.get (by decide) h16_187) rfl rfl rfl rfl rfl rfl rfl (fun w188 hq189 => ?_)
            refine xg_t (xg_aload (va := (2, 27)) rfl rfl) ?_
            refine xg_t (xg_getf (va := (2, 28)) (hq189.2.get (by decide) (hq184.2.get (by decide) (hF179.get (by decide) (hF147.get (by decide) h27_129)))) rfl) ?_
            refine xg_t (xg_getf (va := (0, lf)) (hq189.2.get (by decide) (hq184.2.get (by decide) (hF179.get (by decide) (hF147.get (by decide) (hF118.get (by decide) hcl87))))) rfl) ?_
            exact xg_e ⟨lf, w188, ⟨rfl, rfl⟩, ⟨by omega, (((fld_but hq189.2 (by decide)).trans ((fld_but hq184.2 (by decide)).trans (fld_fr hF179 (by decide)))).trans ht149), (((fld_but hq189.2 (by decide)).trans ((fld_but hq184.2 (by decide)).trans (fld_fr hF179 (by decide)))).trans ht150).trans hq130⟩, xInv.up (S := [14, 16]) hI178 ((xFr.of (S := [14, 16]) hq184.2 (by decide)).tr (xFr.of (S := [14, 16]) hq189.2 (by decide))) (List.forall_mem_cons.mpr ⟨xqu14 (show cp14 (wget w188 14) from ⟨0, (hq189.2.get (by decide) hq184.1), by decide⟩), List.forall_mem_cons.mpr ⟨xqu16 (show cp16 (wget w188 16) from ⟨0, hq189.1, by decide⟩), fun _ h => absurd h List.not_mem_nil⟩⟩), ((((hF81.tr (hF118.up (by decide))).tr (hF147.up (by decide))).tr (hF179.up (by decide))).tr ((xFr.of (S := [1, 3, 4, 5, 6, 7, 8, 9, 10, 11, 12, 13, 14, 15, 16, 17, 27, 28, 29, 30, 31, 32, 33, 34, 35, 36, 37, 38, 39, 40, 41, 42]) hq184.2 (by decide)).tr (xFr.of (S := [1, 3, 4, 5, 6, 7, 8, 9, 10, 11, 12, 13, 14, 15, 16, 17, 27, 28, 29, 30, 31, 32, 33, 34, 35, 36, 37, 38, 39, 40, 41, 42]) hq189.2 (by decide))))⟩
          · refine xg_t (xg_ifF (u := f27_125) rfl xnm0 (xj_eqF hc151)) ?_
            refine xg_t (xg_const) ?_
            exact xg_e ⟨4294967295, w144, ⟨rfl, rfl⟩, ⟨by omega, ht149, ht150.trans hq130⟩, hI146, ((hF81.tr (hF118.up (by decide))).tr (hF147.up (by decide)))⟩
        · refine xg_t (xg_ifF (u := f42_104) rfl xnm0 (xj_eqF hc114)) ?_
          refine xg_t (xg_aload (va := (2, 27)) rfl rfl) ?_
          refine xg_cVi mX2_readLine (vs := []) (rest := []) (cn1 := 0) (sl1 := 0) rfl (ftLine (hI80) hcl87 (by omega) (by omega) (by omega) (by omega) (by omega)) rfl h27_100 rfl rfl rfl rfl rfl rfl (fun n194 w190 hq191 => ?_)
          obtain ⟨hn195, hI192, hF193⟩ := hq191
          obtain ⟨hn196, a197, a198, a199, a200, hc201⟩ := hn195
          refine xoC28 (xqc28 hI192 : cp28 (wget w190 28)) (fun f28_203 f28_204 f28_205 f28_206 f28_207 h28_202 hb208 hb209 hb210 hb211 hb212 => ?_)
          rw [hc201] at h28_202
          simp only [Option.some.injEq, Sum.inl.injEq, Prod.mk.injEq, List.cons.injEq, true_and, and_true] at h28_202
          obtain ⟨he214, he215, he216, he217, he218⟩ := h28_202
          subst he214
          subst he215
          subst he216
          subst he217
          subst he218
          by_cases hc219 : n194 = 0
          · refine xg_t (xg_ifF (u := n194) rfl xnm0 (xj_neF hc219)) ?_
            refine xg_t (xg_aload (va := (2, 27)) rfl rfl) ?_
            refine xoC27 (xqc27 hI192 : cp27 (wget w190 27)) (fun f27_220 f27_222 f27_224 f27_226 f27_228 h27_230 hb221 hb223 hb225 hb227 hb229 => ?_)
            refine xg_t (xg_getf (va := (2, 1)) h27_230 rfl) ?_
            refine xg_t (xg_const) ?_
            refine xg_t (xg_aload (va := (2, 27)) rfl rfl) ?_
            refine xg_t (xg_getf (va := (2, 42)) h27_230 rfl) ?_
            refine xoC42 (xqc42 hI192 : cp42 (wget w190 42)) (fun f42_231 f42_233 f42_235 f42_237 f42_239 h42_241 hb232 hb234 hb236 hb238 hb240 hb242 => ?_)
            refine xg_t (xg_getf (va := (0, f42_235)) h42_241 rfl) ?_
            have hq243 : fld w190 1 6 = fld w 1 6 := (fld_fr hF193 (by decide)).trans he88
            refine xoC1 (xqc1 hI192 : cp1 (wget w190 1)) (fun f1_244 f1_246 f1_248 f1_250 f1_252 f1_254 h1_256 hb245 hb247 hb249 hb251 hb253 hb255 => ?_)
            refine xg_cVv mX9_take (vs := [(0, 1), (0, f42_235)]) (rest := []) (cn1 := 0) (sl1 := 0) rfl (tdTakeX (hI192) (by omega) (by omega)) rfl h1_256 rfl rfl rfl rfl rfl rfl (fun w257 hq258 => ?_)
            obtain ⟨hI259, hF260, hx261⟩ := hq258
            obtain ⟨ht262, ht263⟩ := hx261
            refine xg_t (xg_const) ?_
            exact xg_e ⟨4294967295, w257, ⟨rfl, rfl⟩, ⟨by omega, ht262, ht263.trans hq243⟩, hI259, ((hF81.tr (hF193.up (by decide))).tr (hF260.up (by decide)))⟩
          · refine xg_t (xg_ifT (u := n194) rfl xnm0 (xj_neT hc219)) ?_
            refine xg_t (xg_blq rfl) ?_
            refine xg_t (xg_aload (va := (2, 27)) rfl rfl) ?_
            refine xoC27 (xqc27 hI192 : cp27 (wget w190 27)) (fun f27_264 f27_266 f27_268 f27_270 f27_272 h27_274 hb265 hb267 hb269 hb271 hb273 => ?_)
            refine xg_t (xg_getf (va := (2, 28)) h27_274 rfl) ?_
            refine xg_t (xg_dup rfl) ?_
            refine xg_t (xg_getf (va := (0, lf)) hc201 rfl) ?_
            refine xg_t (xg_const) ?_
            refine xg_t (xg_iadd (u := lf) (v := 1) (z := lf + 1) xnm0 xnm0 (by omega)) ?_
            refine xg_putI (fl1 := [(2, 29), (2, 31), (2, 33), (2, 35), (2, 37), (0, a197), (0, a198), (0, a199), (0, a200), (0, lf + 1)]) hc201 rfl rfl rfl (fun w275 hk276 hb277 => ?_)
            refine xg_t (xg_goto) ?_
            exact ih77 a197 a198 a199 a200 (lf + 1) w275 (by omega) (by omega) (by omega) (by omega) (by omega) (by omega) hk276 (xInv.up (S := [28]) hI192 (xFr.of (S := [28]) hb277 (by decide)) (List.forall_mem_cons.mpr ⟨xqu28 (show cp28 (wget w275 28) from xmC28 a197 a198 a199 a200 (lf + 1) hk276 (by omega) (by omega) (by omega) (by omega) (by omega)), fun _ h => absurd h List.not_mem_nil⟩)) (((hF81.tr (hF193.up (by decide))).tr (xFr.of (S := [1, 3, 4, 5, 6, 7, 8, 9, 10, 11, 12, 13, 14, 15, 16, 17, 27, 28, 29, 30, 31, 32, 33, 34, 35, 36, 37, 38, 39, 40, 41, 42]) hb277 (by decide)))) (((fld_but hb277 (by decide)).trans (fld_fr hF193 (by decide))).trans he88)
      · refine xg_t (xg_icT (u := lf) (v := 500) rfl xnm0 xnm0 (xj_geT (by omega) (by omega))) ?_
        refine xg_t (xg_blq rfl) ?_
        refine xg_t (xg_aload (va := (2, 27)) rfl rfl) ?_
        refine xg_cVv mX2_findFlawBeside (vs := []) (rest := []) (cn1 := 0) (sl1 := 0) rfl (ftBeside (hI80)) rfl h27_100 rfl rfl rfl rfl rfl rfl (fun w278 hq279 => ?_)
        obtain ⟨hI280, hF281⟩ := hq279
        refine xg_t (xg_aload (va := (2, 27)) rfl rfl) ?_
        refine xoC27 (xqc27 hI280 : cp27 (wget w278 27)) (fun f27_282 f27_284 f27_286 f27_288 f27_290 h27_292 hb283 hb285 hb287 hb289 hb291 => ?_)
        refine xg_t (xg_getf (va := (2, 1)) h27_292 rfl) ?_
        refine xg_t (xg_aload (va := (2, 27)) rfl rfl) ?_
        refine xg_t (xg_getf (va := (0, f27_288)) h27_292 rfl) ?_
        refine xg_t (xg_aload (va := (2, 27)) rfl rfl) ?_
        refine xg_t (xg_getf (va := (0, f27_290)) h27_292 rfl) ?_
        have hq293 : fld w278 1 6 = fld w 1 6 := (fld_fr hF281 (by decide)).trans he88
        refine xoC1 (xqc1 hI280 : cp1 (wget w278 1)) (fun f1_294 f1_296 f1_298 f1_300 f1_302 f1_304 h1_306 hb295 hb297 hb299 hb301 hb303 hb305 => ?_)
        refine xg_cVv mX9_take (vs := [(0, f27_288), (0, f27_290)]) (rest := []) (cn1 := 0) (sl1 := 0) rfl (tdTakeX (hI280) (by omega) (by omega)) rfl h1_306 rfl rfl rfl rfl rfl rfl (fun w307 hq308 => ?_)
        obtain ⟨hI309, hF310, hx311⟩ := hq308
        obtain ⟨ht312, ht313⟩ := hx311
        refine xg_t (xg_aload (va := (2, 27)) rfl rfl) ?_
        refine xg_t (xg_getf (va := (0, f27_288)) (hF310.get (by decide) h27_292) rfl) ?_
        by_cases hc314 : f27_288 = 0
        · refine xg_t (xg_ifT (u := f27_288) rfl xnm0 (xj_eqT hc314)) ?_
          refine xg_t (xg_blq rfl) ?_
          refine xg_t (xg_aload (va := (2, 27)) rfl rfl) ?_
          refine xg_t (xg_getf (va := (2, 1)) (hF310.get (by decide) h27_292) rfl) ?_
          refine xoC1 (xqc1 hI309 : cp1 (wget w307 1)) (fun f1_315 f1_317 f1_319 f1_321 f1_323 f1_325 h1_327 hb316 hb318 hb320 hb322 hb324 hb326 => ?_)
          refine xg_t (xg_getf (va := (2, 3)) h1_327 rfl) ?_
          refine xg_t (xg_aload (va := (2, 27)) rfl rfl) ?_
          refine xg_t (xg_getf (va := (2, 28)) (hF310.get (by decide) h27_292) rfl) ?_
          refine xoC3 (xqc3 hI309 : cp3 (wget w307 3)) (fun f3_328 f3_330 f3_332 f3_334 f3_336 h3_338 hb329 hb331 hb333 hb335 hb337 => ?_)
          refine xg_cVv mX1_copy (vs := [(2, 28)]) (rest := []) (cn1 := 0) (sl1 := 0) rfl (fmCopy (hI309)) rfl h3_338 rfl rfl rfl rfl rfl rfl (fun w339 hq340 => ?_)
          obtain ⟨hI341, hF342⟩ := hq340
          refine xg_t (xg_aload (va := (2, 27)) rfl rfl) ?_
          refine xg_t (xg_getf (va := (2, 1)) (hF342.get (by decide) (hF310.get (by decide) h27_292)) rfl) ?_
          refine xg_t (xg_getf (va := (2, 14)) (hF342.get (by decide) h1_327) rfl) ?_
          obtain ⟨f14_343, h14_345, hb344⟩ := (xqc14 hI341 : cp14 (wget w339 14))
          refine xg_cV mX5_clear (vs := []) (rest := []) (rs := []) (cn1 := 0) (sl1 := 0) rfl (rclear_ok h14_345) rfl h14_345 rfl rfl rfl rfl rfl rfl rfl (fun w346 hq347 => ?_)
          refine xg_t (xg_aload (va := (2, 27)) rfl rfl) ?_
          refine xg_t (xg_getf (va := (2, 1)) (hq347.2.get (by decide) (hF342.get (by decide) (hF310.get (by decide) h27_292))) rfl) ?_
          refine xg_t (xg_getf (va := (2, 16)) (hq347.2.get (by decide) (hF342.get (by decide) h1_327)) rfl) ?_
          obtain ⟨f16_348, h16_350, hb349⟩ := (xqc16 hI341 : cp16 (wget w339 16))
          refine xg_cV mX5_clear (vs := []) (rest := []) (rs := []) (cn1 := 0) (sl1 := 0) rfl (rclear_ok (hq347.2.get (by decide) h16_350)) rfl (hq347.2.get (by decide) h16_350) rfl rfl rfl rfl rfl rfl rfl (fun w351 hq352 => ?_)
          refine xg_t (xg_aload (va := (2, 27)) rfl rfl) ?_
          refine xg_t (xg_getf (va := (2, 28)) (hq352.2.get (by decide) (hq347.2.get (by decide) (hF342.get (by decide) (hF310.get (by decide) h27_292)))) rfl) ?_
          refine xg_t (xg_getf (va := (0, lf)) (hq352.2.get (by decide) (hq347.2.get (by decide) (hF342.get (by decide) (hF310.get (by decide) (hF281.get (by decide) hcl87))))) rfl) ?_
          exact xg_e ⟨lf, w351, ⟨rfl, rfl⟩, ⟨by omega, (((fld_but hq352.2 (by decide)).trans ((fld_but hq347.2 (by decide)).trans (fld_fr hF342 (by decide)))).trans ht312), (((fld_but hq352.2 (by decide)).trans ((fld_but hq347.2 (by decide)).trans (fld_fr hF342 (by decide)))).trans ht313).trans hq293⟩, xInv.up (S := [14, 16]) hI341 ((xFr.of (S := [14, 16]) hq347.2 (by decide)).tr (xFr.of (S := [14, 16]) hq352.2 (by decide))) (List.forall_mem_cons.mpr ⟨xqu14 (show cp14 (wget w351 14) from ⟨0, (hq352.2.get (by decide) hq347.1), by decide⟩), List.forall_mem_cons.mpr ⟨xqu16 (show cp16 (wget w351 16) from ⟨0, hq352.1, by decide⟩), fun _ h => absurd h List.not_mem_nil⟩⟩), ((((hF81.tr (hF281.up (by decide))).tr (hF310.up (by decide))).tr (hF342.up (by decide))).tr ((xFr.of (S := [1, 3, 4, 5, 6, 7, 8, 9, 10, 11, 12, 13, 14, 15, 16, 17, 27, 28, 29, 30, 31, 32, 33, 34, 35, 36, 37, 38, 39, 40, 41, 42]) hq347.2 (by decide)).tr (xFr.of (S := [1, 3, 4, 5, 6, 7, 8, 9, 10, 11, 12, 13, 14, 15, 16, 17, 27, 28, 29, 30, 31, 32, 33, 34, 35, 36, 37, 38, 39, 40, 41, 42]) hq352.2 (by decide))))⟩
        · refine xg_t (xg_ifF (u := f27_288) rfl xnm0 (xj_eqF hc314)) ?_
          refine xg_t (xg_const) ?_
          exact xg_e ⟨4294967295, w307, ⟨rfl, rfl⟩, ⟨by omega, ht312, ht313.trans hq293⟩, hI309, ((hF81.tr (hF281.up (by decide))).tr (hF310.up (by decide)))⟩
  exact key76 _ f28_65 f28_67 f28_69 f28_71 f28_73 w61 (Nat.lt_succ_self _) (hb66) (hb68) (hb70) (hb72) (hb74) h28_75 (hI63) ((((hF39.up (by decide)).tr (((xFr.of (S := [1, 3, 4, 5, 6, 7, 8, 9, 10, 11, 12, 13, 14, 15, 16, 17, 27, 28, 29, 30, 31, 32, 33, 34, 35, 36, 37, 38, 39, 40, 41, 42]) hb42 (by decide)).tr (xFr.of (S := [1, 3, 4, 5, 6, 7, 8, 9, 10, 11, 12, 13, 14, 15, 16, 17, 27, 28, 29, 30, 31, 32, 33, 34, 35, 36, 37, 38, 39, 40, 41, 42]) hb45 (by decide))).tr (xFr.of (S := [1, 3, 4, 5, 6, 7, 8, 9, 10, 11, 12, 13, 14, 15, 16, 17, 27, 28, 29, 30, 31, 32, 33, 34, 35, 36, 37, 38, 39, 40, 41, 42]) hb48 (by decide)))).tr (hF64.up (by decide)))) (((fld_fr hF64 (by decide)).trans ((fld_but hb48 (by decide)).trans ((fld_but hb45 (by decide)).trans ((fld_but hb42 (by decide)).trans (fld_fr hF39 (by decide)))))))
theorem rtReadX (hI : xInv w)  : xPi (d + 9) mX6_readRules [(2, 43)] w bd fc rr (fun n w' => (n ≤ 4294967295 ∧ fld w' 1 1 = 0 ∧ fld w' 1 6 = fld w 1 6) ∧ xInv w' ∧ xFr [1, 22, 23, 24, 25, 43, 44, 45, 46, 47, 48] w w') := by
  refine xPi.of ?_
  show xTo (d + 9) mX6_readRules (0, [], [(0, (2, 43))], [], (w, bd, fc, 0, 0, rr)) (fun φ => ∃ n w', xEnd 1 [(0, n)] (w', bd, fc, 0, 0, rr) φ ∧ (n ≤ 4294967295 ∧ fld w' 1 1 = 0 ∧ fld w' 1 6 = fld w 1 6) ∧ xInv w' ∧ xFr [1, 22, 23, 24, 25, 43, 44, 45, 46, 47, 48] w w')
  refine xoC43 (xqc43 hI : cp43 (wget w 43)) (fun f43_1 f43_3 h43_5 hb2 hb4 => ?_)
  refine xoC1 (xqc1 hI : cp1 (wget w 1)) (fun f1_6 f1_8 f1_10 f1_12 f1_14 f1_16 h1_18 hb7 hb9 hb11 hb13 hb15 hb17 => ?_)
  obtain ⟨f22_19, h22_21, hb20⟩ := (xqc22 hI : cp22 (wget w 22))
  refine xoI (xqc23 hI : cpI 32 10 4294967295 (wget w 23)) (fun g23_22 h23_23 hb24 => ?_)
  obtain ⟨f24_25, h24_27, hb26⟩ := (xqc24 hI : cp24 (wget w 24))
  refine xoI (xqc25 hI : cpI 320 11 4294967295 (wget w 25)) (fun g25_28 h25_29 hb30 => ?_)
  obtain ⟨f44_31, h44_33, hb32⟩ := (xqc44 hI : cp44 (wget w 44))
  refine xoI (xqc45 hI : cpI 32 21 4294967295 (wget w 45)) (fun g45_34 h45_35 hb36 => ?_)
  obtain ⟨f46_37, h46_39, hb38⟩ := (xqc46 hI : cp46 (wget w 46))
  refine xoI (xqc47 hI : cpI 320 22 4294967295 (wget w 47)) (fun g47_40 h47_41 hb42 => ?_)
  refine xg_t (xg_blq rfl) ?_
  refine xg_t (xg_aload (va := (2, 43)) rfl rfl) ?_
  refine xg_t (xg_getf (va := (2, 44)) h43_5 rfl) ?_
  refine xg_cV mX5_clear (vs := []) (rest := []) (rs := []) (cn1 := 0) (sl1 := 0) rfl (rclear_ok h44_33) rfl h44_33 rfl rfl rfl rfl rfl rfl rfl (fun w43 hq44 => ?_)
  refine xg_t (xg_aload (va := (2, 43)) rfl rfl) ?_
  refine xg_t (xg_getf (va := (2, 46)) (hq44.2.get (by decide) h43_5) rfl) ?_
  refine xg_cV mX5_clear (vs := []) (rest := []) (rs := []) (cn1 := 0) (sl1 := 0) rfl (rclear_ok (hq44.2.get (by decide) h46_39)) rfl (hq44.2.get (by decide) h46_39) rfl rfl rfl rfl rfl rfl rfl (fun w45 hq46 => ?_)
  refine xg_t (xg_aload (va := (2, 43)) rfl rfl) ?_
  refine xg_t (xg_const) ?_
  refine xg_putI (fl1 := [(2, 1), (2, 48), (2, 44), (2, 46), (0, 0), (0, f43_3)]) (hq46.2.get (by decide) (hq44.2.get (by decide) h43_5)) rfl rfl rfl (fun w47 hk48 hb49 => ?_)
  refine xg_t (xg_aload (va := (2, 43)) rfl rfl) ?_
  refine xg_t (xg_getf (va := (2, 48)) hk48 rfl) ?_
  refine xg_t (xg_aload (va := (2, 43)) rfl rfl) ?_
  refine xg_t (xg_getf (va := (2, 1)) hk48 rfl) ?_
  refine xg_t (xg_getf (va := (0, f1_6)) (hb49.get (by decide) (hq46.2.get (by decide) (hq44.2.get (by decide) h1_18))) rfl) ?_
  refine xoC48 (xqc48 hI : cp48 (wget w 48)) (fun f48_50 f48_52 f48_54 f48_56 f48_58 h48_60 hb51 hb53 hb55 hb57 hb59 hb61 => ?_)
  refine xg_cVv mX8_start (vs := [(0, f1_6)]) (rest := []) (cn1 := 0) (sl1 := 0) rfl (tkStart48 (xInv.up (S := [44, 46, 43]) hI (((xFr.of (S := [44, 46, 43]) hq44.2 (by decide)).tr (xFr.of (S := [44, 46, 43]) hq46.2 (by decide))).tr (xFr.of (S := [44, 46, 43]) hb49 (by decide))) (List.forall_mem_cons.mpr ⟨xqu44 (show cp44 (wget w47 44) from ⟨0, (hb49.get (by decide) (hq46.2.get (by decide) hq44.1)), by decide⟩), List.forall_mem_cons.mpr ⟨xqu46 (show cp46 (wget w47 46) from ⟨0, (hb49.get (by decide) hq46.1), by decide⟩), List.forall_mem_cons.mpr ⟨xqu43 (show cp43 (wget w47 43) from ⟨0, f43_3, hk48, by decide, hb4⟩), fun _ h => absurd h List.not_mem_nil⟩⟩⟩)) (by omega)) rfl (hb49.get (by decide) (hq46.2.get (by decide) (hq44.2.get (by decide) h48_60))) rfl rfl rfl rfl rfl rfl (fun w62 hq63 => ?_)
  obtain ⟨hI64, hF65⟩ := hq63
  refine xg_t (xg_const) ?_
  refine xg_t (xg_istore (l1 := [(0, (2, 43))]) rfl rfl rfl) ?_
  refine xg_t (xg_drop (l1 := [(0, (2, 43)), (1, (0, 0))]) (List.forall_mem_cons.mpr ⟨List.mem_cons_of_mem _ (List.mem_cons_self), List.forall_mem_cons.mpr ⟨List.mem_cons_self, fun _ h => absurd h List.not_mem_nil⟩⟩)) ?_
  have key66 : ∀ (m68 : Nat) (ki : Nat) (w69 : List (List xE)), 501 - ki < m68 → ki ≤ 501 → xInv w69 → xFr [1, 22, 23, 24, 25, 43, 44, 45, 46, 47, 48] w w69 → fld w69 1 6 = fld w 1 6 → xTo (d + 9) mX6_readRules (35, [], [(0, (2, 43)), (1, (0, ki))], [], (w69, bd, fc, 0, 0, rr)) (fun φ => ∃ n w', xEnd 1 [(0, n)] (w', bd, fc, 0, 0, rr) φ ∧ (n ≤ 4294967295 ∧ fld w' 1 1 = 0 ∧ fld w' 1 6 = fld w 1 6) ∧ xInv w' ∧ xFr [1, 22, 23, 24, 25, 43, 44, 45, 46, 47, 48] w w') := by
    intro m68
    induction m68 with
    | zero => intro ki w69 hz; exact absurd hz (Nat.not_lt_zero _)
    | succ m68 ih67 =>
      intro ki w69 hm74 hn72 hI70 hF71 he73
      refine xg_t (xg_blq rfl) ?_
      refine xg_t (xg_iload (va := (0, ki)) rfl rfl) ?_
      refine xg_t (xg_sip) ?_
      by_cases hc75 : 500 < ki
      · refine xg_t (xg_icT (u := ki) (v := 500) rfl xnm0 xnm0 (xj_gtT hc75 (by omega))) ?_
        refine xg_t (xg_blq rfl) ?_
        refine xg_t (xg_aload (va := (2, 43)) rfl rfl) ?_
        refine xoC43 (xqc43 hI70 : cp43 (wget w69 43)) (fun f43_76 f43_78 h43_80 hb77 hb79 => ?_)
        refine xg_t (xg_getf (va := (2, 1)) h43_80 rfl) ?_
        refine xg_t (xg_aload (va := (2, 43)) rfl rfl) ?_
        refine xg_t (xg_getf (va := (0, f43_76)) h43_80 rfl) ?_
        refine xg_t (xg_aload (va := (2, 43)) rfl rfl) ?_
        refine xg_t (xg_getf (va := (0, f43_78)) h43_80 rfl) ?_
        have hq81 : fld w69 1 6 = fld w 1 6 := he73
        refine xoC1 (xqc1 hI70 : cp1 (wget w69 1)) (fun f1_82 f1_84 f1_86 f1_88 f1_90 f1_92 h1_94 hb83 hb85 hb87 hb89 hb91 hb93 => ?_)
        refine xg_cVv mX9_take (vs := [(0, f43_76), (0, f43_78)]) (rest := []) (cn1 := 0) (sl1 := 0) rfl (tdTakeX (hI70) (by omega) (by omega)) rfl h1_94 rfl rfl rfl rfl rfl rfl (fun w95 hq96 => ?_)
        obtain ⟨hI97, hF98, hx99⟩ := hq96
        obtain ⟨ht100, ht101⟩ := hx99
        refine xg_t (xg_aload (va := (2, 43)) rfl rfl) ?_
        refine xg_t (xg_getf (va := (0, f43_76)) (hF98.get (by decide) h43_80) rfl) ?_
        by_cases hc102 : f43_76 = 0
        · refine xg_t (xg_ifT (u := f43_76) rfl xnm0 (xj_eqT hc102)) ?_
          refine xg_t (xg_blq rfl) ?_
          refine xg_t (xg_aload (va := (2, 43)) rfl rfl) ?_
          refine xg_t (xg_getf (va := (2, 1)) (hF98.get (by decide) h43_80) rfl) ?_
          refine xoC1 (xqc1 hI97 : cp1 (wget w95 1)) (fun f1_103 f1_105 f1_107 f1_109 f1_111 f1_113 h1_115 hb104 hb106 hb108 hb110 hb112 hb114 => ?_)
          refine xg_t (xg_getf (va := (2, 22)) h1_115 rfl) ?_
          refine xg_t (xg_aload (va := (2, 43)) rfl rfl) ?_
          refine xg_t (xg_getf (va := (2, 44)) (hF98.get (by decide) h43_80) rfl) ?_
          obtain ⟨f22_116, h22_118, hb117⟩ := (xqc22 hI97 : cp22 (wget w95 22))
          obtain ⟨f44_119, h44_121, hb120⟩ := (xqc44 hI97 : cp44 (wget w95 44))
          refine xoI (xqc23 hI97 : cpI 32 10 4294967295 (wget w95 23)) (fun g23_122 h23_123 hb124 => ?_)
          refine xoI (xqc45 hI97 : cpI 32 21 4294967295 (wget w95 45)) (fun g45_125 h45_126 hb127 => ?_)
          refine xg_cVv mX5_copy (vs := [(2, 44)]) (rest := []) (cn1 := 0) (sl1 := 0) rfl (rcopyI (lim := 16) (wd := 2) (B := 4294967295) h22_118 h44_121 h23_123 h45_126 (hb124) (hb127) (by decide) (by omega) (by decide) (by decide) (by decide) (by decide) (by decide) (by decide)) rfl h22_118 rfl rfl rfl rfl rfl rfl (fun w128 hq129 => ?_)
          obtain ⟨hk130, g131, hr132, hb133, hF134⟩ := hq129
          refine xg_t (xg_aload (va := (2, 43)) rfl rfl) ?_
          refine xg_t (xg_getf (va := (2, 1)) (hF134.get (by decide) (hF98.get (by decide) h43_80)) rfl) ?_
          refine xg_t (xg_getf (va := (2, 24)) (hF134.get (by decide) h1_115) rfl) ?_
          refine xg_t (xg_aload (va := (2, 43)) rfl rfl) ?_
          refine xg_t (xg_getf (va := (2, 46)) (hF134.get (by decide) (hF98.get (by decide) h43_80)) rfl) ?_
          obtain ⟨f24_135, h24_137, hb136⟩ := (xqc24 hI97 : cp24 (wget w95 24))
          obtain ⟨f46_138, h46_140, hb139⟩ := (xqc46 hI97 : cp46 (wget w95 46))
          refine xoI (xqc25 hI97 : cpI 320 11 4294967295 (wget w95 25)) (fun g25_141 h25_142 hb143 => ?_)
          refine xoI (xqc47 hI97 : cpI 320 22 4294967295 (wget w95 47)) (fun g47_144 h47_145 hb146 => ?_)
          refine xg_cVv mX5_copy (vs := [(2, 46)]) (rest := []) (cn1 := 0) (sl1 := 0) rfl (rcopyI (lim := 64) (wd := 5) (B := 4294967295) (hF134.get (by decide) h24_137) (hF134.get (by decide) h46_140) (h25_142.fr hF134 (by decide)) (h47_145.fr hF134 (by decide)) (hb143) (hb146) (by decide) (by omega) (by decide) (by decide) (by decide) (by decide) (by decide) (by decide)) rfl (hF134.get (by decide) h24_137) rfl rfl rfl rfl rfl rfl (fun w147 hq148 => ?_)
          obtain ⟨hk149, g150, hr151, hb152, hF153⟩ := hq148
          refine xg_t (xg_aload (va := (2, 43)) rfl rfl) ?_
          refine xg_t (xg_getf (va := (2, 44)) (hF153.get (by decide) (hF134.get (by decide) (hF98.get (by decide) h43_80))) rfl) ?_
          refine xg_t (xg_getf (va := (0, f44_119)) (hF153.get (by decide) (hF134.get (by decide) h44_121)) rfl) ?_
          exact xg_e ⟨f44_119, w147, ⟨rfl, rfl⟩, ⟨by omega, (((fld_fr hF153 (by decide)).trans (fld_fr hF134 (by decide))).trans ht100), (((fld_fr hF153 (by decide)).trans (fld_fr hF134 (by decide))).trans ht101).trans hq81⟩, xInv.up (S := [22, 23, 24, 25]) hI97 ((hF134.up (T := [22, 23, 24, 25]) (by decide)).tr (hF153.up (T := [22, 23, 24, 25]) (by decide))) (List.forall_mem_cons.mpr ⟨xqu22 (show cp22 (wget w147 22) from ⟨f44_119, (hF153.get (by decide) hk130), hb120⟩), List.forall_mem_cons.mpr ⟨xqu23 (show cpI 32 10 4294967295 (wget w147 23) from ⟨_, (hr132.fr hF153 (by decide)), hb133⟩), List.forall_mem_cons.mpr ⟨xqu24 (show cp24 (wget w147 24) from ⟨f46_138, hk149, hb139⟩), List.forall_mem_cons.mpr ⟨xqu25 (show cpI 320 11 4294967295 (wget w147 25) from ⟨_, hr151, hb152⟩), fun _ h => absurd h List.not_mem_nil⟩⟩⟩⟩), ((hF71.tr (hF98.up (by decide))).tr ((hF134.up (T := [1, 22, 23, 24, 25, 43, 44, 45, 46, 47, 48]) (by decide)).tr (hF153.up (T := [1, 22, 23, 24, 25, 43, 44, 45, 46, 47, 48]) (by decide))))⟩
        · refine xg_t (xg_ifF (u := f43_76) rfl xnm0 (xj_eqF hc102)) ?_
          refine xg_t (xg_const) ?_
          exact xg_e ⟨4294967295, w95, ⟨rfl, rfl⟩, ⟨by omega, ht100, ht101.trans hq81⟩, hI97, (hF71.tr (hF98.up (by decide)))⟩
      · refine xg_t (xg_icF (u := ki) (v := 500) rfl xnm0 xnm0 (xj_gtF (by omega) (by omega))) ?_
        refine xg_t (xg_aload (va := (2, 43)) rfl rfl) ?_
        refine xoC43 (xqc43 hI70 : cp43 (wget w69 43)) (fun f43_154 f43_156 h43_158 hb155 hb157 => ?_)
        refine xg_t (xg_getf (va := (2, 48)) h43_158 rfl) ?_
        refine xoC48 (xqc48 hI70 : cp48 (wget w69 48)) (fun f48_159 f48_161 f48_163 f48_165 f48_167 h48_169 hb160 hb162 hb164 hb166 hb168 hb170 => ?_)
        refine xg_t (xg_getf (va := (0, f48_161)) h48_169 rfl) ?_
        by_cases hc171 : f48_161 = 0
        · refine xg_t (xg_ifT (u := f48_161) rfl xnm0 (xj_eqT hc171)) ?_
          refine xg_t (xg_blq rfl) ?_
          refine xg_t (xg_aload (va := (2, 43)) rfl rfl) ?_
          refine xg_t (xg_getf (va := (2, 1)) h43_158 rfl) ?_
          refine xg_t (xg_aload (va := (2, 43)) rfl rfl) ?_
          refine xg_t (xg_getf (va := (0, f43_154)) h43_158 rfl) ?_
          refine xg_t (xg_aload (va := (2, 43)) rfl rfl) ?_
          refine xg_t (xg_getf (va := (0, f43_156)) h43_158 rfl) ?_
          have hq172 : fld w69 1 6 = fld w 1 6 := he73
          refine xoC1 (xqc1 hI70 : cp1 (wget w69 1)) (fun f1_173 f1_175 f1_177 f1_179 f1_181 f1_183 h1_185 hb174 hb176 hb178 hb180 hb182 hb184 => ?_)
          refine xg_cVv mX9_take (vs := [(0, f43_154), (0, f43_156)]) (rest := []) (cn1 := 0) (sl1 := 0) rfl (tdTakeX (hI70) (by omega) (by omega)) rfl h1_185 rfl rfl rfl rfl rfl rfl (fun w186 hq187 => ?_)
          obtain ⟨hI188, hF189, hx190⟩ := hq187
          obtain ⟨ht191, ht192⟩ := hx190
          refine xg_t (xg_aload (va := (2, 43)) rfl rfl) ?_
          refine xg_t (xg_getf (va := (0, f43_154)) (hF189.get (by decide) h43_158) rfl) ?_
          by_cases hc193 : f43_154 = 0
          · refine xg_t (xg_ifT (u := f43_154) rfl xnm0 (xj_eqT hc193)) ?_
            refine xg_t (xg_blq rfl) ?_
            refine xg_t (xg_aload (va := (2, 43)) rfl rfl) ?_
            refine xg_t (xg_getf (va := (2, 1)) (hF189.get (by decide) h43_158) rfl) ?_
            refine xoC1 (xqc1 hI188 : cp1 (wget w186 1)) (fun f1_194 f1_196 f1_198 f1_200 f1_202 f1_204 h1_206 hb195 hb197 hb199 hb201 hb203 hb205 => ?_)
            refine xg_t (xg_getf (va := (2, 22)) h1_206 rfl) ?_
            refine xg_t (xg_aload (va := (2, 43)) rfl rfl) ?_
            refine xg_t (xg_getf (va := (2, 44)) (hF189.get (by decide) h43_158) rfl) ?_
            obtain ⟨f22_207, h22_209, hb208⟩ := (xqc22 hI188 : cp22 (wget w186 22))
            obtain ⟨f44_210, h44_212, hb211⟩ := (xqc44 hI188 : cp44 (wget w186 44))
            refine xoI (xqc23 hI188 : cpI 32 10 4294967295 (wget w186 23)) (fun g23_213 h23_214 hb215 => ?_)
            refine xoI (xqc45 hI188 : cpI 32 21 4294967295 (wget w186 45)) (fun g45_216 h45_217 hb218 => ?_)
            refine xg_cVv mX5_copy (vs := [(2, 44)]) (rest := []) (cn1 := 0) (sl1 := 0) rfl (rcopyI (lim := 16) (wd := 2) (B := 4294967295) h22_209 h44_212 h23_214 h45_217 (hb215) (hb218) (by decide) (by omega) (by decide) (by decide) (by decide) (by decide) (by decide) (by decide)) rfl h22_209 rfl rfl rfl rfl rfl rfl (fun w219 hq220 => ?_)
            obtain ⟨hk221, g222, hr223, hb224, hF225⟩ := hq220
            refine xg_t (xg_aload (va := (2, 43)) rfl rfl) ?_
            refine xg_t (xg_getf (va := (2, 1)) (hF225.get (by decide) (hF189.get (by decide) h43_158)) rfl) ?_
            refine xg_t (xg_getf (va := (2, 24)) (hF225.get (by decide) h1_206) rfl) ?_
            refine xg_t (xg_aload (va := (2, 43)) rfl rfl) ?_
            refine xg_t (xg_getf (va := (2, 46)) (hF225.get (by decide) (hF189.get (by decide) h43_158)) rfl) ?_
            obtain ⟨f24_226, h24_228, hb227⟩ := (xqc24 hI188 : cp24 (wget w186 24))
            obtain ⟨f46_229, h46_231, hb230⟩ := (xqc46 hI188 : cp46 (wget w186 46))
            refine xoI (xqc25 hI188 : cpI 320 11 4294967295 (wget w186 25)) (fun g25_232 h25_233 hb234 => ?_)
            refine xoI (xqc47 hI188 : cpI 320 22 4294967295 (wget w186 47)) (fun g47_235 h47_236 hb237 => ?_)
            refine xg_cVv mX5_copy (vs := [(2, 46)]) (rest := []) (cn1 := 0) (sl1 := 0) rfl (rcopyI (lim := 64) (wd := 5) (B := 4294967295) (hF225.get (by decide) h24_228) (hF225.get (by decide) h46_231) (h25_233.fr hF225 (by decide)) (h47_236.fr hF225 (by decide)) (hb234) (hb237) (by decide) (by omega) (by decide) (by decide) (by decide) (by decide) (by decide) (by decide)) rfl (hF225.get (by decide) h24_228) rfl rfl rfl rfl rfl rfl (fun w238 hq239 => ?_)
            obtain ⟨hk240, g241, hr242, hb243, hF244⟩ := hq239
            refine xg_t (xg_aload (va := (2, 43)) rfl rfl) ?_
            refine xg_t (xg_getf (va := (2, 44)) (hF244.get (by decide) (hF225.get (by decide) (hF189.get (by decide) h43_158))) rfl) ?_
            refine xg_t (xg_getf (va := (0, f44_210)) (hF244.get (by decide) (hF225.get (by decide) h44_212)) rfl) ?_
            exact xg_e ⟨f44_210, w238, ⟨rfl, rfl⟩, ⟨by omega, (((fld_fr hF244 (by decide)).trans (fld_fr hF225 (by decide))).trans ht191), (((fld_fr hF244 (by decide)).trans (fld_fr hF225 (by decide))).trans ht192).trans hq172⟩, xInv.up (S := [22, 23, 24, 25]) hI188 ((hF225.up (T := [22, 23, 24, 25]) (by decide)).tr (hF244.up (T := [22, 23, 24, 25]) (by decide))) (List.forall_mem_cons.mpr ⟨xqu22 (show cp22 (wget w238 22) from ⟨f44_210, (hF244.get (by decide) hk221), hb211⟩), List.forall_mem_cons.mpr ⟨xqu23 (show cpI 32 10 4294967295 (wget w238 23) from ⟨_, (hr223.fr hF244 (by decide)), hb224⟩), List.forall_mem_cons.mpr ⟨xqu24 (show cp24 (wget w238 24) from ⟨f46_229, hk240, hb230⟩), List.forall_mem_cons.mpr ⟨xqu25 (show cpI 320 11 4294967295 (wget w238 25) from ⟨_, hr242, hb243⟩), fun _ h => absurd h List.not_mem_nil⟩⟩⟩⟩), ((hF71.tr (hF189.up (by decide))).tr ((hF225.up (T := [1, 22, 23, 24, 25, 43, 44, 45, 46, 47, 48]) (by decide)).tr (hF244.up (T := [1, 22, 23, 24, 25, 43, 44, 45, 46, 47, 48]) (by decide))))⟩
          · refine xg_t (xg_ifF (u := f43_154) rfl xnm0 (xj_eqF hc193)) ?_
            refine xg_t (xg_const) ?_
            exact xg_e ⟨4294967295, w186, ⟨rfl, rfl⟩, ⟨by omega, ht191, ht192.trans hq172⟩, hI188, (hF71.tr (hF189.up (by decide)))⟩
        · refine xg_t (xg_ifF (u := f48_161) rfl xnm0 (xj_eqF hc171)) ?_
          refine xg_t (xg_aload (va := (2, 43)) rfl rfl) ?_
          refine xg_cVi mX6_readLine (vs := []) (rest := []) (cn1 := 0) (sl1 := 0) rfl (rtLine (hI70)) rfl h43_158 rfl rfl rfl rfl rfl rfl (fun n249 w245 hq246 => ?_)
          obtain ⟨hn250, hI247, hF248⟩ := hq246
          by_cases hc251 : n249 = 0
          · refine xg_t (xg_ifF (u := n249) rfl xnm0 (xj_neF hc251)) ?_
            refine xg_t (xg_aload (va := (2, 43)) rfl rfl) ?_
            refine xoC43 (xqc43 hI247 : cp43 (wget w245 43)) (fun f43_252 f43_254 h43_256 hb253 hb255 => ?_)
            refine xg_t (xg_getf (va := (2, 1)) h43_256 rfl) ?_
            refine xg_t (xg_const) ?_
            refine xg_t (xg_aload (va := (2, 43)) rfl rfl) ?_
            refine xg_t (xg_getf (va := (2, 48)) h43_256 rfl) ?_
            refine xoC48 (xqc48 hI247 : cp48 (wget w245 48)) (fun f48_257 f48_259 f48_261 f48_263 f48_265 h48_267 hb258 hb260 hb262 hb264 hb266 hb268 => ?_)
            refine xg_t (xg_getf (va := (0, f48_261)) h48_267 rfl) ?_
            have hq269 : fld w245 1 6 = fld w 1 6 := (fld_fr hF248 (by decide)).trans he73
            refine xoC1 (xqc1 hI247 : cp1 (wget w245 1)) (fun f1_270 f1_272 f1_274 f1_276 f1_278 f1_280 h1_282 hb271 hb273 hb275 hb277 hb279 hb281 => ?_)
            refine xg_cVv mX9_take (vs := [(0, 1), (0, f48_261)]) (rest := []) (cn1 := 0) (sl1 := 0) rfl (tdTakeX (hI247) (by omega) (by omega)) rfl h1_282 rfl rfl rfl rfl rfl rfl (fun w283 hq284 => ?_)
            obtain ⟨hI285, hF286, hx287⟩ := hq284
            obtain ⟨ht288, ht289⟩ := hx287
            refine xg_t (xg_const) ?_
            exact xg_e ⟨4294967295, w283, ⟨rfl, rfl⟩, ⟨by omega, ht288, ht289.trans hq269⟩, hI285, ((hF71.tr (hF248.up (by decide))).tr (hF286.up (by decide)))⟩
          · refine xg_t (xg_ifT (u := n249) rfl xnm0 (xj_neT hc251)) ?_
            refine xg_t (xg_blq rfl) ?_
            refine xg_t (xg_iinc (u := ki) (z := ki + 1) (l1 := [(0, (2, 43))]) rfl rfl (by omega) rfl) ?_
            refine xg_t (xg_goto) ?_
            refine xg_t (xg_drop (l1 := [(0, (2, 43)), (1, (0, ki + 1))]) (List.forall_mem_cons.mpr ⟨List.mem_cons_of_mem _ (List.mem_cons_self), List.forall_mem_cons.mpr ⟨List.mem_cons_self, fun _ h => absurd h List.not_mem_nil⟩⟩)) ?_
            exact ih67 (ki + 1) w245 (by omega) (by omega) (hI247) ((hF71.tr (hF248.up (by decide)))) ((fld_fr hF248 (by decide)).trans he73)
  exact key66 _ 0 w62 (Nat.lt_succ_self _) (by omega) (hI64) (((((xFr.of (S := [1, 22, 23, 24, 25, 43, 44, 45, 46, 47, 48]) hq44.2 (by decide)).tr (xFr.of (S := [1, 22, 23, 24, 25, 43, 44, 45, 46, 47, 48]) hq46.2 (by decide))).tr (xFr.of (S := [1, 22, 23, 24, 25, 43, 44, 45, 46, 47, 48]) hb49 (by decide))).tr (hF65.up (by decide)))) (((fld_fr hF65 (by decide)).trans ((fld_but hb49 (by decide)).trans ((fld_but hq46.2 (by decide)).trans (fld_but hq44.2 (by decide))))))
theorem bsFilmX (hI : xInv w)  : xPi (d + 8) mX11_film [(2, 0)] w bd fc rr (fun n w' => (n ≤ 4294967295 ∧ fld w' 1 1 = 0 ∧ fld w' 1 6 = fld w 1 6) ∧ xInv w' ∧ xFr [1, 3, 4, 5, 6, 7, 8, 9, 10, 11, 12, 13, 14, 15, 16, 17, 27, 28, 29, 30, 31, 32, 33, 34, 35, 36, 37, 38, 39, 40, 41, 42, 49, 58, 68, 72] w w') := by
  refine xPi.of ?_
  show xTo (d + 8) mX11_film (0, [], [(0, (2, 0))], [], (w, bd, fc, 0, 0, rr)) (fun φ => ∃ n w', xEnd 1 [(0, n)] (w', bd, fc, 0, 0, rr) φ ∧ (n ≤ 4294967295 ∧ fld w' 1 1 = 0 ∧ fld w' 1 6 = fld w 1 6) ∧ xInv w' ∧ xFr [1, 3, 4, 5, 6, 7, 8, 9, 10, 11, 12, 13, 14, 15, 16, 17, 27, 28, 29, 30, 31, 32, 33, 34, 35, 36, 37, 38, 39, 40, 41, 42, 49, 58, 68, 72] w w')
  have h0_1 := (xqc0 hI : cp0 (wget w 0))
  refine xg_t (xg_blq rfl) ?_
  refine xg_t (xg_aload (va := (2, 0)) rfl rfl) ?_
  refine xg_t (xg_getf (va := (2, 27)) h0_1 rfl) ?_
  refine xoC27 (xqc27 hI : cp27 (wget w 27)) (fun f27_2 f27_4 f27_6 f27_8 f27_10 h27_12 hb3 hb5 hb7 hb9 hb11 => ?_)
  refine xg_cVi mX2_readFilm (vs := []) (rest := []) (cn1 := 0) (sl1 := 0) rfl (ftReadX (hI)) rfl h27_12 rfl rfl rfl rfl rfl rfl (fun n17 w13 hq14 => ?_)
  obtain ⟨hn18, hI15, hF16⟩ := hq14
  obtain ⟨ht19, ht20, ht21⟩ := hn18
  refine xg_t (xg_istore (l1 := [(0, (2, 0))]) rfl rfl rfl) ?_
  refine xg_t (xg_iload (va := (0, n17)) rfl rfl) ?_
  refine xg_t (xg_const) ?_
  by_cases hc22 : n17 = 4294967295
  · refine xg_t (xg_icT (u := n17) (v := 4294967295) rfl xnm0 xnm0 (xj_eqT hc22)) ?_
    refine xg_t (xg_blq rfl) ?_
    refine xg_t (xg_iload (va := (0, n17)) rfl rfl) ?_
    exact xg_e ⟨n17, w13, ⟨rfl, rfl⟩, ⟨by omega, ht20, ht21⟩, hI15, (hF16.up (by decide))⟩
  · refine xg_t (xg_icF (u := n17) (v := 4294967295) rfl xnm0 xnm0 (xj_eqF hc22)) ?_
    refine xg_t (xg_aload (va := (2, 0)) rfl rfl) ?_
    refine xg_cVv mX11_forgetFilm (vs := []) (rest := []) (cn1 := 0) (sl1 := 0) rfl (scForgetFilmE (hI15)) rfl (hF16.get (by decide) h0_1) rfl rfl rfl rfl rfl rfl (fun w23 hq24 => ?_)
    obtain ⟨hI25, hF26, hx27⟩ := hq24
    refine xg_t (xg_blq rfl) ?_
    refine xg_t (xg_iload (va := (0, n17)) rfl rfl) ?_
    exact xg_e ⟨n17, w23, ⟨rfl, rfl⟩, ⟨by omega, (fld_fr hF26 (by decide)).trans ht20, (fld_fr hF26 (by decide)).trans ht21⟩, hI25, ((hF16.up (by decide)).tr (hF26.up (by decide)))⟩
theorem bsRulesX (hI : xInv w)  : xPi (d + 10) mX11_rules [(2, 0)] w bd fc rr (fun n w' => (n ≤ 4294967295 ∧ fld w' 1 1 = 0 ∧ fld w' 1 6 = fld w 1 6) ∧ xInv w' ∧ xFr [1, 22, 23, 24, 25, 43, 44, 45, 46, 47, 48] w w') := by
  refine xPi.of ?_
  show xTo (d + 10) mX11_rules (0, [], [(0, (2, 0))], [], (w, bd, fc, 0, 0, rr)) (fun φ => ∃ n w', xEnd 1 [(0, n)] (w', bd, fc, 0, 0, rr) φ ∧ (n ≤ 4294967295 ∧ fld w' 1 1 = 0 ∧ fld w' 1 6 = fld w 1 6) ∧ xInv w' ∧ xFr [1, 22, 23, 24, 25, 43, 44, 45, 46, 47, 48] w w')
  have h0_1 := (xqc0 hI : cp0 (wget w 0))
  refine xg_t (xg_blq rfl) ?_
  refine xg_t (xg_aload (va := (2, 0)) rfl rfl) ?_
  refine xg_t (xg_getf (va := (2, 43)) h0_1 rfl) ?_
  refine xoC43 (xqc43 hI : cp43 (wget w 43)) (fun f43_2 f43_4 h43_6 hb3 hb5 => ?_)
  refine xg_cVi mX6_readRules (vs := []) (rest := []) (cn1 := 0) (sl1 := 0) rfl (rtReadX (hI)) rfl h43_6 rfl rfl rfl rfl rfl rfl (fun n11 w7 hq8 => ?_)
  obtain ⟨hn12, hI9, hF10⟩ := hq8
  obtain ⟨ht13, ht14, ht15⟩ := hn12
  exact xg_e ⟨n11, w7, ⟨rfl, rfl⟩, ⟨by omega, ht14, ht15⟩, hI9, (hF10.up (by decide))⟩
end XCE
end
