section
/-- numbers of the tests that were told -/
def tsV (t : Nat → Nat) (n : Nat) : Prop := n ≤ 12 ∧ ∀ i, i < n → (1 ≤ t (4 * i) ∧ t (4 * i) ≤ 9) ∧ t (4 * i + 1) ≤ 999999 ∧ t (4 * i + 2) ≤ 99 ∧ t (4 * i + 3) ≤ 99
theorem tsV.cg {t t' : Nat → Nat} {n : Nat} (h : tsV t n) (e : ∀ j, j < n * 4 → t' j = t j) : tsV t' n := by
  obtain ⟨h1, h2⟩ := h
  refine ⟨h1, fun i hi => ?_⟩
  rw [e (4 * i) (by omega), e (4 * i + 1) (by omega), e (4 * i + 2) (by omega), e (4 * i + 3) (by omega)]
  exact h2 i hi
end
section
/-! the class: what the calls do to tape, day, hands, tests -/
section XCE
variable {d : Nat} {w : List (List xE)} {bd : List (Nat × Nat)} {fc : List (Nat × Nat × Bool)} {rr : Nat × Nat}
theorem rgrowX {r a lim wd sz : Nat} (h : xRs w r a lim wd sz) (hl : lim < 2147483648) (hsz : sz < lim) : xPq (d + 1) mX5_grow [(2, r)] w bd fc rr [(0, sz)] (fun w' => xRs w' r a lim wd (sz + 1) ∧ xBut r w w') := by
  have k := rgrow_ok (d := d) (bd := bd) (fc := fc) (rr := rr) h hl (Nat.le_of_lt hsz)
  rw [if_pos hsz, if_pos hsz] at k
  exact k
theorem rputX {r a lim wd sz t B row what num : Nat} {f : Nat → Nat} (h : xRs w r a lim wd sz) (hf : xRow w a (lim * wd) t f) (hB : ∀ j, f j ≤ B) (hl : lim < 2147483648) (hsz : sz ≤ lim) (hw : wd < 2147483648) (hL : lim * wd < 2147483648) (h1 : row < sz) (h2 : what < wd) (hn : num ≤ B) : xPq (d + 1) mX5_put [(2, r), (0, row), (0, what), (0, num)] w bd fc rr [] (fun w' => ∃ g, xRow w' a (lim * wd) t g ∧ (∀ j, g j ≤ B) ∧ g (row * wd + what) = num ∧ (∀ j, j ≠ row * wd + what → g j = f j) ∧ xBut a w w') := by
  obtain ⟨w', ⟨q1, q2⟩, q3⟩ := rput_ok (d := d) (bd := bd) (fc := fc) (rr := rr) (row := row) (what := what) (num := num) h hf hl hsz hw hL (by omega) (by omega)
  refine ⟨w', ⟨_, q1, fun j => ?_, if_pos ⟨⟨h1, h2⟩, rfl⟩, fun j hj => if_neg (fun z => hj z.2), q2⟩, q3⟩
  show (if (row < sz ∧ what < wd) ∧ j = row * wd + what then num else f j) ≤ B
  split
  · exact hn
  · exact hB j
theorem scDayX {dy : Nat} (hI : xInv w) (hdy : dy ≤ 4294967295) : xPi (d + 1) mX11_day [(2, 0), (0, dy)] w bd fc rr (fun n w' => (((n = 1 ∧ ¬ xbs dy < xbs (fld w 1 6) ∧ ¬ xbs 999 < xbs dy ∧ fld w' 1 6 = dy) ∨ (n = 0 ∧ (xbs dy < xbs (fld w 1 6) ∨ xbs 999 < xbs dy) ∧ fld w' 1 6 = fld w 1 6)) ∧ fld w' 1 1 = fld w 1 1 ∧ fld w' 1 2 = fld w 1 2 ∧ fld w' 1 3 = fld w 1 3 ∧ fld w' 1 7 = fld w 1 7 ∧ fld w' 1 9 = fld w 1 9) ∧ xInv w' ∧ xFr [1] w w') := by
  refine xPi.of ?_
  show xTo (d + 1) mX11_day (0, [], [(0, (2, 0)), (1, (0, dy))], [], (w, bd, fc, 0, 0, rr)) (fun φ => ∃ n w', xEnd 4 [(0, n)] (w', bd, fc, 0, 0, rr) φ ∧ (((n = 1 ∧ ¬ xbs dy < xbs (fld w 1 6) ∧ ¬ xbs 999 < xbs dy ∧ fld w' 1 6 = dy) ∨ (n = 0 ∧ (xbs dy < xbs (fld w 1 6) ∨ xbs 999 < xbs dy) ∧ fld w' 1 6 = fld w 1 6)) ∧ fld w' 1 1 = fld w 1 1 ∧ fld w' 1 2 = fld w 1 2 ∧ fld w' 1 3 = fld w 1 3 ∧ fld w' 1 7 = fld w 1 7 ∧ fld w' 1 9 = fld w 1 9) ∧ xInv w' ∧ xFr [1] w w')
  have h0_1 := (xqc0 hI : cp0 (wget w 0))
  refine xoC1 (xqc1 hI : cp1 (wget w 1)) (fun f1_2 f1_4 f1_6 f1_8 f1_10 f1_12 h1_14 hb3 hb5 hb7 hb9 hb11 hb13 => ?_)
  refine xg_t (xg_blq rfl) ?_
  refine xg_t (xg_iload (va := (0, dy)) rfl rfl) ?_
  refine xg_t (xg_aload (va := (2, 0)) rfl rfl) ?_
  refine xg_t (xg_getf (va := (2, 1)) h0_1 rfl) ?_
  refine xg_t (xg_getf (va := (0, f1_8)) h1_14 rfl) ?_
  by_cases hc15 : xbs dy < xbs f1_8
  · have hc15u := hc15
    unfold xbs at hc15u
    refine xg_t (xg_icT (u := dy) (v := f1_8) rfl xnm0 xnm0 (xjs_ltT hc15)) ?_
    refine xg_t (xg_blq rfl) ?_
    refine xg_t (xg_const) ?_
    have hq16 : fld w 1 1 = f1_2 := fld_of h1_14
    have hq17 : fld w 1 2 = f1_4 := fld_of h1_14
    have hq18 : fld w 1 3 = f1_6 := fld_of h1_14
    have hq19 : fld w 1 6 = f1_8 := fld_of h1_14
    have hq20 : xbs (fld w 1 6) = xbs f1_8 := congrArg xbs hq19
    have hq21 : fld w 1 7 = f1_10 := fld_of h1_14
    have hq22 : fld w 1 9 = f1_12 := fld_of h1_14
    exact xg_e ⟨0, w, ⟨rfl, rfl⟩, ⟨by omega, by omega, by omega, by omega, by omega, by omega⟩, hI, xFr.rf⟩
  · have hc15u := hc15
    unfold xbs at hc15u
    refine xg_t (xg_icF (u := dy) (v := f1_8) rfl xnm0 xnm0 (xjs_ltF hc15)) ?_
    refine xg_t (xg_iload (va := (0, dy)) rfl rfl) ?_
    refine xg_t (xg_sip) ?_
    by_cases hc23 : xbs 999 < xbs dy
    · have hc23u := hc23
      unfold xbs at hc23u
      have hn24 : dy ≤ 2147483647 := by omega
      refine xg_t (xg_icF (u := dy) (v := 999) rfl xnm0 xnm0 (xjs_leF hc23)) ?_
      refine xg_t (xg_blq rfl) ?_
      refine xg_t (xg_const) ?_
      have hq25 : fld w 1 1 = f1_2 := fld_of h1_14
      have hq26 : fld w 1 2 = f1_4 := fld_of h1_14
      have hq27 : fld w 1 3 = f1_6 := fld_of h1_14
      have hq28 : fld w 1 6 = f1_8 := fld_of h1_14
      have hq29 : xbs (fld w 1 6) = xbs f1_8 := congrArg xbs hq28
      have hq30 : fld w 1 7 = f1_10 := fld_of h1_14
      have hq31 : fld w 1 9 = f1_12 := fld_of h1_14
      exact xg_e ⟨0, w, ⟨rfl, rfl⟩, ⟨by omega, by omega, by omega, by omega, by omega, by omega⟩, hI, xFr.rf⟩
    · have hc23u := hc23
      unfold xbs at hc23u
      refine xg_t (xg_icT (u := dy) (v := 999) rfl xnm0 xnm0 (xjs_leT hc23)) ?_
      refine xg_t (xg_blq rfl) ?_
      refine xg_t (xg_aload (va := (2, 0)) rfl rfl) ?_
      refine xg_t (xg_getf (va := (2, 1)) h0_1 rfl) ?_
      refine xg_t (xg_iload (va := (0, dy)) rfl rfl) ?_
      refine xg_putI (fl1 := [(2, 2), (0, f1_2), (0, f1_4), (0, f1_6), (2, 3), (2, 14), (0, dy), (0, f1_10), (2, 16), (0, f1_12), (2, 18), (2, 20), (2, 22), (2, 24)]) h1_14 rfl rfl rfl (fun w32 hk33 hb34 => ?_)
      refine xg_t (xg_const) ?_
      have hq35 : fld w 1 1 = f1_2 := fld_of h1_14
      have hq36 : fld w32 1 1 = f1_2 := fld_of hk33
      have hq37 : fld w 1 2 = f1_4 := fld_of h1_14
      have hq38 : fld w32 1 2 = f1_4 := fld_of hk33
      have hq39 : fld w 1 3 = f1_6 := fld_of h1_14
      have hq40 : fld w32 1 3 = f1_6 := fld_of hk33
      have hq41 : fld w 1 6 = f1_8 := fld_of h1_14
      have hq42 : xbs (fld w 1 6) = xbs f1_8 := congrArg xbs hq41
      have hq43 : fld w32 1 6 = dy := fld_of hk33
      have hq44 : fld w 1 7 = f1_10 := fld_of h1_14
      have hq45 : fld w32 1 7 = f1_10 := fld_of hk33
      have hq46 : fld w 1 9 = f1_12 := fld_of h1_14
      have hq47 : fld w32 1 9 = f1_12 := fld_of hk33
      exact xg_e ⟨1, w32, ⟨rfl, rfl⟩, ⟨by omega, by omega, by omega, by omega, by omega, by omega⟩, xInv.up (S := [1]) hI (xFr.of (S := [1]) hb34 (by decide)) (List.forall_mem_cons.mpr ⟨xqu1 (show cp1 (wget w32 1) from xmC1 f1_2 f1_4 f1_6 dy f1_10 f1_12 hk33 hb3 hb5 hb7 (by omega) hb11 hb13), fun _ h => absurd h List.not_mem_nil⟩), (xFr.of (S := [1]) hb34 (by decide))⟩
theorem scViewX {dy : Nat} (hI : xInv w) (hdy : dy ≤ 4294967295) : xPi (d + 1) mX11_view [(2, 0), (0, dy)] w bd fc rr (fun n w' => (((n = 1 ∧ ¬ xbs dy < xbs 4294967295 ∧ ¬ xbs (fld w 1 6) < xbs dy ∧ fld w' 1 7 = dy) ∨ (n = 0 ∧ (xbs dy < xbs 4294967295 ∨ xbs (fld w 1 6) < xbs dy) ∧ fld w' 1 7 = fld w 1 7)) ∧ fld w' 1 1 = fld w 1 1 ∧ fld w' 1 2 = fld w 1 2 ∧ fld w' 1 3 = fld w 1 3 ∧ fld w' 1 6 = fld w 1 6 ∧ fld w' 1 9 = fld w 1 9) ∧ xInv w' ∧ xFr [1, 58] w w') := by
  refine xPi.of ?_
  show xTo (d + 1) mX11_view (0, [], [(0, (2, 0)), (1, (0, dy))], [], (w, bd, fc, 0, 0, rr)) (fun φ => ∃ n w', xEnd 4 [(0, n)] (w', bd, fc, 0, 0, rr) φ ∧ (((n = 1 ∧ ¬ xbs dy < xbs 4294967295 ∧ ¬ xbs (fld w 1 6) < xbs dy ∧ fld w' 1 7 = dy) ∨ (n = 0 ∧ (xbs dy < xbs 4294967295 ∨ xbs (fld w 1 6) < xbs dy) ∧ fld w' 1 7 = fld w 1 7)) ∧ fld w' 1 1 = fld w 1 1 ∧ fld w' 1 2 = fld w 1 2 ∧ fld w' 1 3 = fld w 1 3 ∧ fld w' 1 6 = fld w 1 6 ∧ fld w' 1 9 = fld w 1 9) ∧ xInv w' ∧ xFr [1, 58] w w')
  have h0_1 := (xqc0 hI : cp0 (wget w 0))
  refine xoC1 (xqc1 hI : cp1 (wget w 1)) (fun f1_2 f1_4 f1_6 f1_8 f1_10 f1_12 h1_14 hb3 hb5 hb7 hb9 hb11 hb13 => ?_)
  refine xg_t (xg_blq rfl) ?_
  refine xg_t (xg_iload (va := (0, dy)) rfl rfl) ?_
  refine xg_t (xg_const) ?_
  by_cases hc15 : xbs dy < xbs 4294967295
  · have hc15u := hc15
    unfold xbs at hc15u
    refine xg_t (xg_icT (u := dy) (v := 4294967295) rfl xnm0 xnm0 (xjs_ltT hc15)) ?_
    refine xg_t (xg_blq rfl) ?_
    refine xg_t (xg_const) ?_
    have hq16 : fld w 1 1 = f1_2 := fld_of h1_14
    have hq17 : fld w 1 2 = f1_4 := fld_of h1_14
    have hq18 : fld w 1 3 = f1_6 := fld_of h1_14
    have hq19 : fld w 1 6 = f1_8 := fld_of h1_14
    have hq20 : xbs (fld w 1 6) = xbs f1_8 := congrArg xbs hq19
    have hq21 : fld w 1 7 = f1_10 := fld_of h1_14
    have hq22 : fld w 1 9 = f1_12 := fld_of h1_14
    exact xg_e ⟨0, w, ⟨rfl, rfl⟩, ⟨by omega, by omega, by omega, by omega, by omega, by omega⟩, hI, xFr.rf⟩
  · have hc15u := hc15
    unfold xbs at hc15u
    refine xg_t (xg_icF (u := dy) (v := 4294967295) rfl xnm0 xnm0 (xjs_ltF hc15)) ?_
    refine xg_t (xg_iload (va := (0, dy)) rfl rfl) ?_
    refine xg_t (xg_aload (va := (2, 0)) rfl rfl) ?_
    refine xg_t (xg_getf (va := (2, 1)) h0_1 rfl) ?_
    refine xg_t (xg_getf (va := (0, f1_8)) h1_14 rfl) ?_
    by_cases hc23 : xbs f1_8 < xbs dy
    · have hc23u := hc23
      unfold xbs at hc23u
      refine xg_t (xg_icF (u := dy) (v := f1_8) rfl xnm0 xnm0 (xjs_leF hc23)) ?_
      refine xg_t (xg_blq rfl) ?_
      refine xg_t (xg_const) ?_
      have hq24 : fld w 1 1 = f1_2 := fld_of h1_14
      have hq25 : fld w 1 2 = f1_4 := fld_of h1_14
      have hq26 : fld w 1 3 = f1_6 := fld_of h1_14
      have hq27 : fld w 1 6 = f1_8 := fld_of h1_14
      have hq28 : xbs (fld w 1 6) = xbs f1_8 := congrArg xbs hq27
      have hq29 : fld w 1 7 = f1_10 := fld_of h1_14
      have hq30 : fld w 1 9 = f1_12 := fld_of h1_14
      exact xg_e ⟨0, w, ⟨rfl, rfl⟩, ⟨by omega, by omega, by omega, by omega, by omega, by omega⟩, hI, xFr.rf⟩
    · have hc23u := hc23
      unfold xbs at hc23u
      refine xg_t (xg_icT (u := dy) (v := f1_8) rfl xnm0 xnm0 (xjs_leT hc23)) ?_
      refine xg_t (xg_blq rfl) ?_
      refine xg_t (xg_aload (va := (2, 0)) rfl rfl) ?_
      refine xg_t (xg_getf (va := (2, 1)) h0_1 rfl) ?_
      refine xg_t (xg_iload (va := (0, dy)) rfl rfl) ?_
      refine xg_putI (fl1 := [(2, 2), (0, f1_2), (0, f1_4), (0, f1_6), (2, 3), (2, 14), (0, f1_8), (0, dy), (2, 16), (0, f1_12), (2, 18), (2, 20), (2, 22), (2, 24)]) h1_14 rfl rfl rfl (fun w31 hk32 hb33 => ?_)
      refine xg_t (xg_aload (va := (2, 0)) rfl rfl) ?_
      refine xg_t (xg_getf (va := (2, 58)) (hb33.get (by decide) h0_1) rfl) ?_
      refine xoC58 (xqc58 hI : cp58 (wget w 58)) (fun f58_34 f58_36 f58_38 h58_40 hb35 hb37 hb39 => ?_)
      refine xg_cVv mX10_forget (vs := []) (rest := []) (cn1 := 0) (sl1 := 0) rfl (wyForgetE (xInv.up (S := [1]) hI (xFr.of (S := [1]) hb33 (by decide)) (List.forall_mem_cons.mpr ⟨xqu1 (show cp1 (wget w31 1) from xmC1 f1_2 f1_4 f1_6 f1_8 dy f1_12 hk32 hb3 hb5 hb7 hb9 (by omega) hb13), fun _ h => absurd h List.not_mem_nil⟩))) rfl (hb33.get (by decide) h58_40) rfl rfl rfl rfl rfl rfl (fun w41 hq42 => ?_)
      obtain ⟨hI43, hF44, hx45⟩ := hq42
      refine xg_t (xg_const) ?_
      have hq46 : fld w 1 1 = f1_2 := fld_of h1_14
      have hq47 : fld w41 1 1 = f1_2 := fld_of (hF44.get (by decide) hk32)
      have hq48 : fld w 1 2 = f1_4 := fld_of h1_14
      have hq49 : fld w41 1 2 = f1_4 := fld_of (hF44.get (by decide) hk32)
      have hq50 : fld w 1 3 = f1_6 := fld_of h1_14
      have hq51 : fld w41 1 3 = f1_6 := fld_of (hF44.get (by decide) hk32)
      have hq52 : fld w 1 6 = f1_8 := fld_of h1_14
      have hq53 : xbs (fld w 1 6) = xbs f1_8 := congrArg xbs hq52
      have hq54 : fld w41 1 6 = f1_8 := fld_of (hF44.get (by decide) hk32)
      have hq55 : fld w 1 7 = f1_10 := fld_of h1_14
      have hq56 : fld w41 1 7 = dy := fld_of (hF44.get (by decide) hk32)
      have hq57 : fld w 1 9 = f1_12 := fld_of h1_14
      have hq58 : fld w41 1 9 = f1_12 := fld_of (hF44.get (by decide) hk32)
      exact xg_e ⟨1, w41, ⟨rfl, rfl⟩, ⟨by omega, by omega, by omega, by omega, by omega, by omega⟩, hI43, ((xFr.of (S := [1, 58]) hb33 (by decide)).tr (hF44.up (by decide)))⟩
theorem scEndX {ne : Nat} (hI : xInv w) (hne : ne ≤ 4294967295) : xPi (d + 1) mX11_end [(2, 0), (0, ne)] w bd fc rr (fun n w' => (((n = ne ∧ ne ≤ fld w 1 1 ∧ fld w' 1 1 = ne) ∨ (n = 4294967295 ∧ ¬ ne ≤ fld w 1 1 ∧ fld w' 1 1 = fld w 1 1)) ∧ fld w' 1 2 = fld w 1 2 ∧ fld w' 1 3 = fld w 1 3 ∧ fld w' 1 6 = fld w 1 6 ∧ fld w' 1 7 = fld w 1 7 ∧ fld w' 1 9 = fld w 1 9) ∧ xInv w' ∧ xFr [1] w w') := by
  refine xPi.of ?_
  show xTo (d + 1) mX11_end (0, [], [(0, (2, 0)), (1, (0, ne))], [], (w, bd, fc, 0, 0, rr)) (fun φ => ∃ n w', xEnd 1 [(0, n)] (w', bd, fc, 0, 0, rr) φ ∧ (((n = ne ∧ ne ≤ fld w 1 1 ∧ fld w' 1 1 = ne) ∨ (n = 4294967295 ∧ ¬ ne ≤ fld w 1 1 ∧ fld w' 1 1 = fld w 1 1)) ∧ fld w' 1 2 = fld w 1 2 ∧ fld w' 1 3 = fld w 1 3 ∧ fld w' 1 6 = fld w 1 6 ∧ fld w' 1 7 = fld w 1 7 ∧ fld w' 1 9 = fld w 1 9) ∧ xInv w' ∧ xFr [1] w w')
  have h0_1 := (xqc0 hI : cp0 (wget w 0))
  refine xoC1 (xqc1 hI : cp1 (wget w 1)) (fun f1_2 f1_4 f1_6 f1_8 f1_10 f1_12 h1_14 hb3 hb5 hb7 hb9 hb11 hb13 => ?_)
  refine xg_t (xg_blq rfl) ?_
  refine xg_t (xg_iload (va := (0, ne)) rfl rfl) ?_
  by_cases hc15 : ne < 2147483648
  · refine xg_t (xg_ifF (u := ne) rfl xnm0 (xjz_ltF hc15)) ?_
    refine xg_t (xg_iload (va := (0, ne)) rfl rfl) ?_
    refine xg_t (xg_aload (va := (2, 0)) rfl rfl) ?_
    refine xg_t (xg_getf (va := (2, 1)) h0_1 rfl) ?_
    refine xg_t (xg_getf (va := (0, f1_2)) h1_14 rfl) ?_
    by_cases hc16 : f1_2 < ne
    · refine xg_t (xg_icF (u := ne) (v := f1_2) rfl xnm0 xnm0 (xj_leF hc16 (by omega))) ?_
      refine xg_t (xg_blq rfl) ?_
      refine xg_t (xg_const) ?_
      have hq17 : fld w 1 1 = f1_2 := fld_of h1_14
      have hq18 : fld w 1 2 = f1_4 := fld_of h1_14
      have hq19 : fld w 1 3 = f1_6 := fld_of h1_14
      have hq20 : fld w 1 6 = f1_8 := fld_of h1_14
      have hq21 : fld w 1 7 = f1_10 := fld_of h1_14
      have hq22 : fld w 1 9 = f1_12 := fld_of h1_14
      exact xg_e ⟨4294967295, w, ⟨rfl, rfl⟩, ⟨by omega, by omega, by omega, by omega, by omega, by omega⟩, hI, xFr.rf⟩
    · refine xg_t (xg_icT (u := ne) (v := f1_2) rfl xnm0 xnm0 (xj_leT (by omega) (by omega))) ?_
      refine xg_t (xg_blq rfl) ?_
      refine xg_t (xg_aload (va := (2, 0)) rfl rfl) ?_
      refine xg_t (xg_getf (va := (2, 1)) h0_1 rfl) ?_
      refine xg_t (xg_iload (va := (0, ne)) rfl rfl) ?_
      refine xg_putI (fl1 := [(2, 2), (0, ne), (0, f1_4), (0, f1_6), (2, 3), (2, 14), (0, f1_8), (0, f1_10), (2, 16), (0, f1_12), (2, 18), (2, 20), (2, 22), (2, 24)]) h1_14 rfl rfl rfl (fun w23 hk24 hb25 => ?_)
      refine xg_t (xg_iload (va := (0, ne)) rfl rfl) ?_
      have hq26 : fld w 1 1 = f1_2 := fld_of h1_14
      have hq27 : fld w23 1 1 = ne := fld_of hk24
      have hq28 : fld w 1 2 = f1_4 := fld_of h1_14
      have hq29 : fld w23 1 2 = f1_4 := fld_of hk24
      have hq30 : fld w 1 3 = f1_6 := fld_of h1_14
      have hq31 : fld w23 1 3 = f1_6 := fld_of hk24
      have hq32 : fld w 1 6 = f1_8 := fld_of h1_14
      have hq33 : fld w23 1 6 = f1_8 := fld_of hk24
      have hq34 : fld w 1 7 = f1_10 := fld_of h1_14
      have hq35 : fld w23 1 7 = f1_10 := fld_of hk24
      have hq36 : fld w 1 9 = f1_12 := fld_of h1_14
      have hq37 : fld w23 1 9 = f1_12 := fld_of hk24
      exact xg_e ⟨ne, w23, ⟨rfl, rfl⟩, ⟨by omega, by omega, by omega, by omega, by omega, by omega⟩, xInv.up (S := [1]) hI (xFr.of (S := [1]) hb25 (by decide)) (List.forall_mem_cons.mpr ⟨xqu1 (show cp1 (wget w23 1) from xmC1 ne f1_4 f1_6 f1_8 f1_10 f1_12 hk24 (by omega) hb5 hb7 hb9 hb11 hb13), fun _ h => absurd h List.not_mem_nil⟩), (xFr.of (S := [1]) hb25 (by decide))⟩
  · refine xg_t (xg_ifT (u := ne) rfl xnm0 (xjz_ltT (by omega) (by omega))) ?_
    refine xg_t (xg_blq rfl) ?_
    refine xg_t (xg_const) ?_
    have hq38 : fld w 1 1 = f1_2 := fld_of h1_14
    have hq39 : fld w 1 2 = f1_4 := fld_of h1_14
    have hq40 : fld w 1 3 = f1_6 := fld_of h1_14
    have hq41 : fld w 1 6 = f1_8 := fld_of h1_14
    have hq42 : fld w 1 7 = f1_10 := fld_of h1_14
    have hq43 : fld w 1 9 = f1_12 := fld_of h1_14
    exact xg_e ⟨4294967295, w, ⟨rfl, rfl⟩, ⟨by omega, by omega, by omega, by omega, by omega, by omega⟩, hI, xFr.rf⟩
theorem scWetK {dy : Nat} (hI : xInv w) (hdy : dy ≤ 4294967295) : xPi (d + 1) mX11_wet [(2, 0), (0, dy)] w bd fc rr (fun n w' => (((dy ≤ 200 ∧ n = 1 ∧ fld w' 1 9 = dy) ∨ (¬ dy ≤ 200 ∧ n = 0 ∧ fld w' 1 9 = fld w 1 9)) ∧ fld w' 1 1 = fld w 1 1 ∧ fld w' 1 2 = fld w 1 2 ∧ fld w' 1 3 = fld w 1 3 ∧ fld w' 1 6 = fld w 1 6 ∧ fld w' 1 7 = fld w 1 7) ∧ xInv w' ∧ xFr [1, 68] w w') := by
  refine xPi.of ?_
  show xTo (d + 1) mX11_wet (0, [], [(0, (2, 0)), (1, (0, dy))], [], (w, bd, fc, 0, 0, rr)) (fun φ => ∃ n w', xEnd 4 [(0, n)] (w', bd, fc, 0, 0, rr) φ ∧ (((dy ≤ 200 ∧ n = 1 ∧ fld w' 1 9 = dy) ∨ (¬ dy ≤ 200 ∧ n = 0 ∧ fld w' 1 9 = fld w 1 9)) ∧ fld w' 1 1 = fld w 1 1 ∧ fld w' 1 2 = fld w 1 2 ∧ fld w' 1 3 = fld w 1 3 ∧ fld w' 1 6 = fld w 1 6 ∧ fld w' 1 7 = fld w 1 7) ∧ xInv w' ∧ xFr [1, 68] w w')
  have h0_1 := (xqc0 hI : cp0 (wget w 0))
  refine xoC1 (xqc1 hI : cp1 (wget w 1)) (fun f1_2 f1_4 f1_6 f1_8 f1_10 f1_12 h1_14 hb3 hb5 hb7 hb9 hb11 hb13 => ?_)
  refine xg_t (xg_blq rfl) ?_
  refine xg_t (xg_iload (va := (0, dy)) rfl rfl) ?_
  refine xg_t (xg_const) ?_
  refine xg_t (xg_sip) ?_
  refine xg_t (xg_cSr mX11_isIn (vs := [(0, dy), (0, 0), (0, 200)]) (rest := []) (rs := [(0, if 0 ≤ dy ∧ dy ≤ 200 then 1 else 0)]) (cn1 := 0) (sl1 := 0) rfl (isIn_ok (by omega) (by omega) (by omega)) rfl rfl rfl rfl rfl rfl rfl rfl) ?_
  by_cases hc15 : 0 ≤ dy ∧ dy ≤ 200
  · refine xg_t (xg_ifT (u := (if 0 ≤ dy ∧ dy ≤ 200 then 1 else 0)) rfl xnm0 (xj_neT (xite1 hc15))) ?_
    refine xg_t (xg_blq rfl) ?_
    refine xg_t (xg_aload (va := (2, 0)) rfl rfl) ?_
    refine xg_t (xg_getf (va := (2, 1)) h0_1 rfl) ?_
    refine xg_t (xg_iload (va := (0, dy)) rfl rfl) ?_
    refine xg_putI (fl1 := [(2, 2), (0, f1_2), (0, f1_4), (0, f1_6), (2, 3), (2, 14), (0, f1_8), (0, f1_10), (2, 16), (0, dy), (2, 18), (2, 20), (2, 22), (2, 24)]) h1_14 rfl rfl rfl (fun w16 hk17 hb18 => ?_)
    refine xg_t (xg_aload (va := (2, 0)) rfl rfl) ?_
    refine xg_t (xg_getf (va := (2, 68)) (hb18.get (by decide) h0_1) rfl) ?_
    refine xoC68 (xqc68 hI : cp68 (wget w 68)) (fun f68_19 f68_21 h68_23 hb20 hb22 => ?_)
    refine xg_cVv mX3_forgetDamp (vs := []) (rest := []) (cn1 := 0) (sl1 := 0) rfl (lmForgetDE (xInv.up (S := [1]) hI (xFr.of (S := [1]) hb18 (by decide)) (List.forall_mem_cons.mpr ⟨xqu1 (show cp1 (wget w16 1) from xmC1 f1_2 f1_4 f1_6 f1_8 f1_10 dy hk17 hb3 hb5 hb7 hb9 hb11 (by omega)), fun _ h => absurd h List.not_mem_nil⟩))) rfl (hb18.get (by decide) h68_23) rfl rfl rfl rfl rfl rfl (fun w24 hq25 => ?_)
    obtain ⟨hI26, hF27, hx28⟩ := hq25
    refine xg_t (xg_const) ?_
    have hq29 : fld w 1 1 = f1_2 := fld_of h1_14
    have hq30 : fld w24 1 1 = f1_2 := fld_of (hF27.get (by decide) hk17)
    have hq31 : fld w 1 2 = f1_4 := fld_of h1_14
    have hq32 : fld w24 1 2 = f1_4 := fld_of (hF27.get (by decide) hk17)
    have hq33 : fld w 1 3 = f1_6 := fld_of h1_14
    have hq34 : fld w24 1 3 = f1_6 := fld_of (hF27.get (by decide) hk17)
    have hq35 : fld w 1 6 = f1_8 := fld_of h1_14
    have hq36 : fld w24 1 6 = f1_8 := fld_of (hF27.get (by decide) hk17)
    have hq37 : fld w 1 7 = f1_10 := fld_of h1_14
    have hq38 : fld w24 1 7 = f1_10 := fld_of (hF27.get (by decide) hk17)
    have hq39 : fld w 1 9 = f1_12 := fld_of h1_14
    have hq40 : fld w24 1 9 = dy := fld_of (hF27.get (by decide) hk17)
    exact xg_e ⟨1, w24, ⟨rfl, rfl⟩, ⟨by omega, by omega, by omega, by omega, by omega, by omega⟩, hI26, ((xFr.of (S := [1, 68]) hb18 (by decide)).tr (hF27.up (by decide)))⟩
  · refine xg_t (xg_ifF (u := (if 0 ≤ dy ∧ dy ≤ 200 then 1 else 0)) rfl xnm0 (xj_neF (xite0 hc15))) ?_
    refine xg_t (xg_const) ?_
    have hq41 : fld w 1 1 = f1_2 := fld_of h1_14
    have hq42 : fld w 1 2 = f1_4 := fld_of h1_14
    have hq43 : fld w 1 3 = f1_6 := fld_of h1_14
    have hq44 : fld w 1 6 = f1_8 := fld_of h1_14
    have hq45 : fld w 1 7 = f1_10 := fld_of h1_14
    have hq46 : fld w 1 9 = f1_12 := fld_of h1_14
    exact xg_e ⟨0, w, ⟨rfl, rfl⟩, ⟨by omega, by omega, by omega, by omega, by omega, by omega⟩, hI, xFr.rf⟩
theorem scHandX {fi fo ro : Nat} (hI : xInv w) (hfi : fi ≤ 4294967295) (hfo : fo ≤ 4294967295) (hro : ro ≤ 4294967295) : xPi (d + 2) mX11_hand [(2, 0), (0, fi), (0, fo), (0, ro)] w bd fc rr (fun n w' => (((n = fld w 18 3 ∧ fld w 18 3 < 4 ∧ ((1 ≤ fi ∧ fi ≤ 999) ∧ (1 ≤ fo ∧ fo ≤ 999) ∧ (1 ≤ ro ∧ ro ≤ 9999)) ∧ fld w' 18 3 = fld w 18 3 + 1) ∨ (n = 4294967295 ∧ ¬ (fld w 18 3 < 4 ∧ ((1 ≤ fi ∧ fi ≤ 999) ∧ (1 ≤ fo ∧ fo ≤ 999) ∧ (1 ≤ ro ∧ ro ≤ 9999))) ∧ w' = w)) ∧ (n ≠ 4294967295 → rwv w' 19 (3 * fld w 18 3) = fi ∧ rwv w' 19 (3 * fld w 18 3 + 1) = fo ∧ rwv w' 19 (3 * fld w 18 3 + 2) = ro) ∧ (∀ j, (j < 3 * fld w 18 3 ∨ 3 * fld w 18 3 + 3 ≤ j) → j < 12 → rwv w' 19 j = rwv w 19 j)) ∧ xInv w' ∧ xFr [18, 19] w w') := by
  refine xPi.of ?_
  show xTo (d + 2) mX11_hand (0, [], [(0, (2, 0)), (1, (0, fi)), (2, (0, fo)), (3, (0, ro))], [], (w, bd, fc, 0, 0, rr)) (fun φ => ∃ n w', xEnd 1 [(0, n)] (w', bd, fc, 0, 0, rr) φ ∧ (((n = fld w 18 3 ∧ fld w 18 3 < 4 ∧ ((1 ≤ fi ∧ fi ≤ 999) ∧ (1 ≤ fo ∧ fo ≤ 999) ∧ (1 ≤ ro ∧ ro ≤ 9999)) ∧ fld w' 18 3 = fld w 18 3 + 1) ∨ (n = 4294967295 ∧ ¬ (fld w 18 3 < 4 ∧ ((1 ≤ fi ∧ fi ≤ 999) ∧ (1 ≤ fo ∧ fo ≤ 999) ∧ (1 ≤ ro ∧ ro ≤ 9999))) ∧ w' = w)) ∧ (n ≠ 4294967295 → rwv w' 19 (3 * fld w 18 3) = fi ∧ rwv w' 19 (3 * fld w 18 3 + 1) = fo ∧ rwv w' 19 (3 * fld w 18 3 + 2) = ro) ∧ (∀ j, (j < 3 * fld w 18 3 ∨ 3 * fld w 18 3 + 3 ≤ j) → j < 12 → rwv w' 19 j = rwv w 19 j)) ∧ xInv w' ∧ xFr [18, 19] w w')
  have h0_1 := (xqc0 hI : cp0 (wget w 0))
  refine xoC1 (xqc1 hI : cp1 (wget w 1)) (fun f1_2 f1_4 f1_6 f1_8 f1_10 f1_12 h1_14 hb3 hb5 hb7 hb9 hb11 hb13 => ?_)
  obtain ⟨f18_15, h18_17, hb16⟩ := (xqc18 hI : cp18 (wget w 18))
  refine xoI (xqc19 hI : cpI 12 8 4294967295 (wget w 19)) (fun g19_18 h19_19 hb20 => ?_)
  refine xg_t (xg_blq rfl) ?_
  refine xg_t (xg_aload (va := (2, 0)) rfl rfl) ?_
  refine xg_t (xg_getf (va := (2, 1)) h0_1 rfl) ?_
  refine xg_t (xg_getf (va := (2, 18)) h1_14 rfl) ?_
  refine xg_t (xg_astore (l1 := [(0, (2, 0)), (1, (0, fi)), (2, (0, fo)), (3, (0, ro))]) rfl rfl rfl) ?_
  refine xg_t (xg_aload (va := (2, 18)) rfl rfl) ?_
  refine xg_t (xg_cVr mX5_isFull (vs := []) (rest := []) (rs := [(0, if 4 ≤ f18_15 then 1 else 0)]) (cn1 := 0) (sl1 := 0) rfl (rfull_ok h18_17 (by decide) (by omega)) rfl h18_17 rfl rfl rfl rfl rfl rfl rfl) ?_
  by_cases hc21 : 4 ≤ f18_15
  · refine xg_t (xg_ifT (u := (if 4 ≤ f18_15 then 1 else 0)) rfl xnm0 (xj_neT (xite1 hc21))) ?_
    refine xg_t (xg_blq rfl) ?_
    refine xg_t (xg_const) ?_
    have hq22 : fld w 18 3 = f18_15 := fld_of h18_17
    exact xg_e ⟨4294967295, w, ⟨rfl, rfl⟩, ⟨Or.inr ⟨by omega, by omega, rfl⟩, fun h => absurd h (by omega), fun j _ _ => rfl⟩, hI, xFr.rf⟩
  · refine xg_t (xg_ifF (u := (if 4 ≤ f18_15 then 1 else 0)) rfl xnm0 (xj_neF (xite0 hc21))) ?_
    refine xg_t (xg_iload (va := (0, fi)) rfl rfl) ?_
    refine xg_t (xg_const) ?_
    refine xg_t (xg_sip) ?_
    refine xg_t (xg_cSr mX11_isIn (vs := [(0, fi), (0, 1), (0, 999)]) (rest := []) (rs := [(0, if 1 ≤ fi ∧ fi ≤ 999 then 1 else 0)]) (cn1 := 0) (sl1 := 0) rfl (isIn_ok (by omega) (by omega) (by omega)) rfl rfl rfl rfl rfl rfl rfl rfl) ?_
    by_cases hc23 : 1 ≤ fi ∧ fi ≤ 999
    · refine xg_t (xg_ifF (u := (if 1 ≤ fi ∧ fi ≤ 999 then 1 else 0)) rfl xnm0 (xj_eqF (xite1 hc23))) ?_
      refine xg_t (xg_iload (va := (0, fo)) rfl rfl) ?_
      refine xg_t (xg_const) ?_
      refine xg_t (xg_sip) ?_
      refine xg_t (xg_cSr mX11_isIn (vs := [(0, fo), (0, 1), (0, 999)]) (rest := []) (rs := [(0, if 1 ≤ fo ∧ fo ≤ 999 then 1 else 0)]) (cn1 := 0) (sl1 := 0) rfl (isIn_ok (by omega) (by omega) (by omega)) rfl rfl rfl rfl rfl rfl rfl rfl) ?_
      by_cases hc24 : 1 ≤ fo ∧ fo ≤ 999
      · refine xg_t (xg_ifF (u := (if 1 ≤ fo ∧ fo ≤ 999 then 1 else 0)) rfl xnm0 (xj_eqF (xite1 hc24))) ?_
        refine xg_t (xg_iload (va := (0, ro)) rfl rfl) ?_
        refine xg_t (xg_cSr mX11_isRound (vs := [(0, ro)]) (rest := []) (rs := [(0, if 1 ≤ ro ∧ ro ≤ 9999 then 1 else 0)]) (cn1 := 0) (sl1 := 0) rfl (isRound_ok (by omega)) rfl rfl rfl rfl rfl rfl rfl rfl) ?_
        by_cases hc25 : 1 ≤ ro ∧ ro ≤ 9999
        · refine xg_t (xg_ifT (u := (if 1 ≤ ro ∧ ro ≤ 9999 then 1 else 0)) rfl xnm0 (xj_neT (xite1 hc25))) ?_
          refine xg_t (xg_blq rfl) ?_
          refine xg_t (xg_aload (va := (2, 18)) rfl rfl) ?_
          refine xg_cV mX5_grow (vs := []) (rest := []) (rs := [(0, f18_15)]) (cn1 := 0) (sl1 := 0) rfl (rgrowX h18_17 (by decide) (by omega)) rfl h18_17 rfl rfl rfl rfl rfl rfl rfl (fun w26 hq27 => ?_)
          refine xg_t (xg_istore (l1 := [(4, (2, 18)), (0, (2, 0)), (1, (0, fi)), (2, (0, fo)), (3, (0, ro))]) rfl rfl rfl) ?_
          refine xg_t (xg_aload (va := (2, 18)) rfl rfl) ?_
          refine xg_t (xg_iload (va := (0, f18_15)) rfl rfl) ?_
          refine xg_t (xg_const) ?_
          refine xg_t (xg_iload (va := (0, fi)) rfl rfl) ?_
          refine xg_cVv mX5_put (vs := [(0, f18_15), (0, 0), (0, fi)]) (rest := []) (cn1 := 0) (sl1 := 0) rfl (rputX (lim := 4) (wd := 3) (B := 4294967295) hq27.1 (h19_19.but hq27.2 (by decide)) (hb20) (by decide) (by omega) (by decide) (by decide) (by omega) (by decide) (by omega)) rfl hq27.1 rfl rfl rfl rfl rfl rfl (fun w28 hq29 => ?_)
          obtain ⟨g30, hr31, hb32, he34, hk35, hb33⟩ := hq29
          refine xg_t (xg_aload (va := (2, 18)) rfl rfl) ?_
          refine xg_t (xg_iload (va := (0, f18_15)) rfl rfl) ?_
          refine xg_t (xg_const) ?_
          refine xg_t (xg_iload (va := (0, fo)) rfl rfl) ?_
          refine xg_cVv mX5_put (vs := [(0, f18_15), (0, 1), (0, fo)]) (rest := []) (cn1 := 0) (sl1 := 0) rfl (rputX (lim := 4) (wd := 3) (B := 4294967295) (hb33.get (by decide) hq27.1) hr31 (hb32) (by decide) (by omega) (by decide) (by decide) (by omega) (by decide) (by omega)) rfl (hb33.get (by decide) hq27.1) rfl rfl rfl rfl rfl rfl (fun w36 hq37 => ?_)
          obtain ⟨g38, hr39, hb40, he42, hk43, hb41⟩ := hq37
          refine xg_t (xg_aload (va := (2, 18)) rfl rfl) ?_
          refine xg_t (xg_iload (va := (0, f18_15)) rfl rfl) ?_
          refine xg_t (xg_const) ?_
          refine xg_t (xg_iload (va := (0, ro)) rfl rfl) ?_
          refine xg_cVv mX5_put (vs := [(0, f18_15), (0, 2), (0, ro)]) (rest := []) (cn1 := 0) (sl1 := 0) rfl (rputX (lim := 4) (wd := 3) (B := 4294967295) (hb41.get (by decide) (hb33.get (by decide) hq27.1)) hr39 (hb40) (by decide) (by omega) (by decide) (by decide) (by omega) (by decide) (by omega)) rfl (hb41.get (by decide) (hb33.get (by decide) hq27.1)) rfl rfl rfl rfl rfl rfl (fun w44 hq45 => ?_)
          obtain ⟨g46, hr47, hb48, he50, hk51, hb49⟩ := hq45
          refine xg_t (xg_iload (va := (0, f18_15)) rfl rfl) ?_
          have hq52 : fld w 18 3 = f18_15 := fld_of h18_17
          have hq53 : fld w44 18 3 = (f18_15 + 1) := fld_of (hb49.get (by decide) (hb41.get (by decide) (hb33.get (by decide) hq27.1)))
          have hq55 : 3 * fld w 18 3 = f18_15 * 3 + 0 := by omega
          have hq54 : rwv w44 19 (3 * fld w 18 3) = fi := by
            rw [hq55, rwv_of hr47 (by omega), hk51 _ (by omega), hk43 _ (by omega), he34]
          have hq57 : 3 * fld w 18 3 + 1 = f18_15 * 3 + 1 := by omega
          have hq56 : rwv w44 19 (3 * fld w 18 3 + 1) = fo := by
            rw [hq57, rwv_of hr47 (by omega), hk51 _ (by omega), he42]
          have hq59 : 3 * fld w 18 3 + 2 = f18_15 * 3 + 2 := by omega
          have hq58 : rwv w44 19 (3 * fld w 18 3 + 2) = ro := by
            rw [hq59, rwv_of hr47 (by omega), he50]
          exact xg_e ⟨f18_15, w44, ⟨rfl, rfl⟩, ⟨Or.inl ⟨by omega, by omega, by omega, by omega⟩, fun _ => ⟨hq54, hq56, hq58⟩, fun j hj h => (rwv_of hr47 h).trans (Eq.trans (by rw [hk51 j (by omega), hk43 j (by omega), hk35 j (by omega)]) (rwv_of h19_19 h).symm)⟩, xInv.up (S := [18, 19]) hI ((((xFr.of (S := [18, 19]) hq27.2 (by decide)).tr (xFr.of (S := [18, 19]) hb33 (by decide))).tr (xFr.of (S := [18, 19]) hb41 (by decide))).tr (xFr.of (S := [18, 19]) hb49 (by decide))) (List.forall_mem_cons.mpr ⟨xqu18 (show cp18 (wget w44 18) from ⟨(f18_15 + 1), (hb49.get (by decide) (hb41.get (by decide) (hb33.get (by decide) hq27.1))), by omega⟩), List.forall_mem_cons.mpr ⟨xqu19 (show cpI 12 8 4294967295 (wget w44 19) from ⟨_, hr47, hb48⟩), fun _ h => absurd h List.not_mem_nil⟩⟩), ((((xFr.of (S := [18, 19]) hq27.2 (by decide)).tr (xFr.of (S := [18, 19]) hb33 (by decide))).tr (xFr.of (S := [18, 19]) hb41 (by decide))).tr (xFr.of (S := [18, 19]) hb49 (by decide)))⟩
        · refine xg_t (xg_ifF (u := (if 1 ≤ ro ∧ ro ≤ 9999 then 1 else 0)) rfl xnm0 (xj_neF (xite0 hc25))) ?_
          refine xg_t (xg_blq rfl) ?_
          refine xg_t (xg_const) ?_
          have hq60 : fld w 18 3 = f18_15 := fld_of h18_17
          exact xg_e ⟨4294967295, w, ⟨rfl, rfl⟩, ⟨Or.inr ⟨by omega, by omega, rfl⟩, fun h => absurd h (by omega), fun j _ _ => rfl⟩, hI, xFr.rf⟩
      · refine xg_t (xg_ifT (u := (if 1 ≤ fo ∧ fo ≤ 999 then 1 else 0)) rfl xnm0 (xj_eqT (xite0 hc24))) ?_
        refine xg_t (xg_blq rfl) ?_
        refine xg_t (xg_const) ?_
        have hq61 : fld w 18 3 = f18_15 := fld_of h18_17
        exact xg_e ⟨4294967295, w, ⟨rfl, rfl⟩, ⟨Or.inr ⟨by omega, by omega, rfl⟩, fun h => absurd h (by omega), fun j _ _ => rfl⟩, hI, xFr.rf⟩
    · refine xg_t (xg_ifT (u := (if 1 ≤ fi ∧ fi ≤ 999 then 1 else 0)) rfl xnm0 (xj_eqT (xite0 hc23))) ?_
      refine xg_t (xg_blq rfl) ?_
      refine xg_t (xg_const) ?_
      have hq62 : fld w 18 3 = f18_15 := fld_of h18_17
      exact xg_e ⟨4294967295, w, ⟨rfl, rfl⟩, ⟨Or.inr ⟨by omega, by omega, rfl⟩, fun h => absurd h (by omega), fun j _ _ => rfl⟩, hI, xFr.rf⟩
theorem scTestX {sp fo fi cr : Nat} (hI : xInv w) (hsp : sp ≤ 4294967295) (hfo : fo ≤ 4294967295) (hfi : fi ≤ 4294967295) (hcr : cr ≤ 4294967295) : xPi (d + 2) mX11_test [(2, 0), (0, sp), (0, fo), (0, fi), (0, cr)] w bd fc rr (fun n w' => (((n = fld w 20 3 ∧ fld w 20 3 < 12 ∧ ((1 ≤ sp ∧ sp ≤ 9) ∧ (1 ≤ fo ∧ fo ≤ 999999) ∧ (1 ≤ fi ∧ fi ≤ 99) ∧ cr ≤ fi) ∧ fld w' 20 3 = fld w 20 3 + 1 ∧ fld w' 76 9 = 0 ∧ fld w' 76 10 = 0 ∧ fld w' 76 11 = 0) ∨ (n = 4294967295 ∧ ¬ (fld w 20 3 < 12 ∧ ((1 ≤ sp ∧ sp ≤ 9) ∧ (1 ≤ fo ∧ fo ≤ 999999) ∧ (1 ≤ fi ∧ fi ≤ 99) ∧ cr ≤ fi)) ∧ w' = w)) ∧ (n ≠ 4294967295 → rwv w' 21 (4 * fld w 20 3) = sp ∧ rwv w' 21 (4 * fld w 20 3 + 1) = fo ∧ rwv w' 21 (4 * fld w 20 3 + 2) = fi ∧ rwv w' 21 (4 * fld w 20 3 + 3) = cr) ∧ (∀ j, (j < 4 * fld w 20 3 ∨ 4 * fld w 20 3 + 4 ≤ j) → j < 48 → rwv w' 21 j = rwv w 21 j)) ∧ xInv w' ∧ xFr [20, 21, 76] w w') := by
  refine xPi.of ?_
  show xTo (d + 2) mX11_test (0, [], [(0, (2, 0)), (1, (0, sp)), (2, (0, fo)), (3, (0, fi)), (4, (0, cr))], [], (w, bd, fc, 0, 0, rr)) (fun φ => ∃ n w', xEnd 1 [(0, n)] (w', bd, fc, 0, 0, rr) φ ∧ (((n = fld w 20 3 ∧ fld w 20 3 < 12 ∧ ((1 ≤ sp ∧ sp ≤ 9) ∧ (1 ≤ fo ∧ fo ≤ 999999) ∧ (1 ≤ fi ∧ fi ≤ 99) ∧ cr ≤ fi) ∧ fld w' 20 3 = fld w 20 3 + 1 ∧ fld w' 76 9 = 0 ∧ fld w' 76 10 = 0 ∧ fld w' 76 11 = 0) ∨ (n = 4294967295 ∧ ¬ (fld w 20 3 < 12 ∧ ((1 ≤ sp ∧ sp ≤ 9) ∧ (1 ≤ fo ∧ fo ≤ 999999) ∧ (1 ≤ fi ∧ fi ≤ 99) ∧ cr ≤ fi)) ∧ w' = w)) ∧ (n ≠ 4294967295 → rwv w' 21 (4 * fld w 20 3) = sp ∧ rwv w' 21 (4 * fld w 20 3 + 1) = fo ∧ rwv w' 21 (4 * fld w 20 3 + 2) = fi ∧ rwv w' 21 (4 * fld w 20 3 + 3) = cr) ∧ (∀ j, (j < 4 * fld w 20 3 ∨ 4 * fld w 20 3 + 4 ≤ j) → j < 48 → rwv w' 21 j = rwv w 21 j)) ∧ xInv w' ∧ xFr [20, 21, 76] w w')
  have h0_1 := (xqc0 hI : cp0 (wget w 0))
  refine xoC1 (xqc1 hI : cp1 (wget w 1)) (fun f1_2 f1_4 f1_6 f1_8 f1_10 f1_12 h1_14 hb3 hb5 hb7 hb9 hb11 hb13 => ?_)
  obtain ⟨f20_15, h20_17, hb16⟩ := (xqc20 hI : cp20 (wget w 20))
  refine xoI (xqc21 hI : cpI 48 9 4294967295 (wget w 21)) (fun g21_18 h21_19 hb20 => ?_)
  refine xg_t (xg_blq rfl) ?_
  refine xg_t (xg_aload (va := (2, 0)) rfl rfl) ?_
  refine xg_t (xg_getf (va := (2, 1)) h0_1 rfl) ?_
  refine xg_t (xg_getf (va := (2, 20)) h1_14 rfl) ?_
  refine xg_t (xg_astore (l1 := [(0, (2, 0)), (1, (0, sp)), (2, (0, fo)), (3, (0, fi)), (4, (0, cr))]) rfl rfl rfl) ?_
  refine xg_t (xg_iload (va := (0, sp)) rfl rfl) ?_
  refine xg_t (xg_const) ?_
  refine xg_t (xg_bip) ?_
  refine xg_t (xg_cSr mX11_isIn (vs := [(0, sp), (0, 1), (0, 9)]) (rest := []) (rs := [(0, if 1 ≤ sp ∧ sp ≤ 9 then 1 else 0)]) (cn1 := 0) (sl1 := 0) rfl (isIn_ok (by omega) (by omega) (by omega)) rfl rfl rfl rfl rfl rfl rfl rfl) ?_
  by_cases hc21 : 1 ≤ sp ∧ sp ≤ 9
  · refine xg_t (xg_ifF (u := (if 1 ≤ sp ∧ sp ≤ 9 then 1 else 0)) rfl xnm0 (xj_eqF (xite1 hc21))) ?_
    refine xg_t (xg_iload (va := (0, fo)) rfl rfl) ?_
    refine xg_t (xg_const) ?_
    refine xg_t (xg_ldcw) ?_
    refine xg_t (xg_cSr mX11_isIn (vs := [(0, fo), (0, 1), (0, 999999)]) (rest := []) (rs := [(0, if 1 ≤ fo ∧ fo ≤ 999999 then 1 else 0)]) (cn1 := 0) (sl1 := 0) rfl (isIn_ok (by omega) (by omega) (by omega)) rfl rfl rfl rfl rfl rfl rfl rfl) ?_
    by_cases hc22 : 1 ≤ fo ∧ fo ≤ 999999
    · refine xg_t (xg_ifF (u := (if 1 ≤ fo ∧ fo ≤ 999999 then 1 else 0)) rfl xnm0 (xj_eqF (xite1 hc22))) ?_
      refine xg_t (xg_iload (va := (0, fi)) rfl rfl) ?_
      refine xg_t (xg_const) ?_
      refine xg_t (xg_bip) ?_
      refine xg_t (xg_cSr mX11_isIn (vs := [(0, fi), (0, 1), (0, 99)]) (rest := []) (rs := [(0, if 1 ≤ fi ∧ fi ≤ 99 then 1 else 0)]) (cn1 := 0) (sl1 := 0) rfl (isIn_ok (by omega) (by omega) (by omega)) rfl rfl rfl rfl rfl rfl rfl rfl) ?_
      by_cases hc23 : 1 ≤ fi ∧ fi ≤ 99
      · refine xg_t (xg_ifF (u := (if 1 ≤ fi ∧ fi ≤ 99 then 1 else 0)) rfl xnm0 (xj_eqF (xite1 hc23))) ?_
        refine xg_t (xg_iload (va := (0, cr)) rfl rfl) ?_
        refine xg_t (xg_const) ?_
        refine xg_t (xg_iload (va := (0, fi)) rfl rfl) ?_
        refine xg_t (xg_cSr mX11_isIn (vs := [(0, cr), (0, 0), (0, fi)]) (rest := []) (rs := [(0, if 0 ≤ cr ∧ cr ≤ fi then 1 else 0)]) (cn1 := 0) (sl1 := 0) rfl (isIn_ok (by omega) (by omega) (by omega)) rfl rfl rfl rfl rfl rfl rfl rfl) ?_
        by_cases hc24 : 0 ≤ cr ∧ cr ≤ fi
        · refine xg_t (xg_ifF (u := (if 0 ≤ cr ∧ cr ≤ fi then 1 else 0)) rfl xnm0 (xj_eqF (xite1 hc24))) ?_
          refine xg_t (xg_const) ?_
          refine xg_t (xg_goto) ?_
          refine xg_t (xg_blq rfl) ?_
          refine xg_t (xg_istore (l1 := [(5, (2, 20)), (0, (2, 0)), (1, (0, sp)), (2, (0, fo)), (3, (0, fi)), (4, (0, cr))]) rfl rfl rfl) ?_
          refine xg_t (xg_aload (va := (2, 20)) rfl rfl) ?_
          refine xg_t (xg_cVr mX5_isFull (vs := []) (rest := []) (rs := [(0, if 12 ≤ f20_15 then 1 else 0)]) (cn1 := 0) (sl1 := 0) rfl (rfull_ok h20_17 (by decide) (by omega)) rfl h20_17 rfl rfl rfl rfl rfl rfl rfl) ?_
          by_cases hc25 : 12 ≤ f20_15
          · refine xg_t (xg_ifT (u := (if 12 ≤ f20_15 then 1 else 0)) rfl xnm0 (xj_neT (xite1 hc25))) ?_
            refine xg_t (xg_blq rfl) ?_
            refine xg_t (xg_const) ?_
            have hq26 : fld w 20 3 = f20_15 := fld_of h20_17
            exact xg_e ⟨4294967295, w, ⟨rfl, rfl⟩, ⟨Or.inr ⟨by omega, by omega, rfl⟩, fun h => absurd h (by omega), fun j _ _ => rfl⟩, hI, xFr.rf⟩
          · refine xg_t (xg_ifF (u := (if 12 ≤ f20_15 then 1 else 0)) rfl xnm0 (xj_neF (xite0 hc25))) ?_
            refine xg_t (xg_iload (va := (0, 1)) rfl rfl) ?_
            refine xg_t (xg_ifT (u := 1) rfl xnm0 (by decide)) ?_
            refine xg_t (xg_blq rfl) ?_
            refine xg_t (xg_aload (va := (2, 20)) rfl rfl) ?_
            refine xg_cV mX5_grow (vs := []) (rest := []) (rs := [(0, f20_15)]) (cn1 := 0) (sl1 := 0) rfl (rgrowX h20_17 (by decide) (by omega)) rfl h20_17 rfl rfl rfl rfl rfl rfl rfl (fun w27 hq28 => ?_)
            refine xg_t (xg_istore (l1 := [(6, (0, 1)), (5, (2, 20)), (0, (2, 0)), (1, (0, sp)), (2, (0, fo)), (3, (0, fi)), (4, (0, cr))]) rfl rfl rfl) ?_
            refine xg_t (xg_aload (va := (2, 20)) rfl rfl) ?_
            refine xg_t (xg_iload (va := (0, f20_15)) rfl rfl) ?_
            refine xg_t (xg_const) ?_
            refine xg_t (xg_iload (va := (0, sp)) rfl rfl) ?_
            refine xg_cVv mX5_put (vs := [(0, f20_15), (0, 0), (0, sp)]) (rest := []) (cn1 := 0) (sl1 := 0) rfl (rputX (lim := 12) (wd := 4) (B := 4294967295) hq28.1 (h21_19.but hq28.2 (by decide)) (hb20) (by decide) (by omega) (by decide) (by decide) (by omega) (by decide) (by omega)) rfl hq28.1 rfl rfl rfl rfl rfl rfl (fun w29 hq30 => ?_)
            obtain ⟨g31, hr32, hb33, he35, hk36, hb34⟩ := hq30
            refine xg_t (xg_aload (va := (2, 20)) rfl rfl) ?_
            refine xg_t (xg_iload (va := (0, f20_15)) rfl rfl) ?_
            refine xg_t (xg_const) ?_
            refine xg_t (xg_iload (va := (0, fo)) rfl rfl) ?_
            refine xg_cVv mX5_put (vs := [(0, f20_15), (0, 1), (0, fo)]) (rest := []) (cn1 := 0) (sl1 := 0) rfl (rputX (lim := 12) (wd := 4) (B := 4294967295) (hb34.get (by decide) hq28.1) hr32 (hb33) (by decide) (by omega) (by decide) (by decide) (by omega) (by decide) (by omega)) rfl (hb34.get (by decide) hq28.1) rfl rfl rfl rfl rfl rfl (fun w37 hq38 => ?_)
            obtain ⟨g39, hr40, hb41, he43, hk44, hb42⟩ := hq38
            refine xg_t (xg_aload (va := (2, 20)) rfl rfl) ?_
            refine xg_t (xg_iload (va := (0, f20_15)) rfl rfl) ?_
            refine xg_t (xg_const) ?_
            refine xg_t (xg_iload (va := (0, fi)) rfl rfl) ?_
            refine xg_cVv mX5_put (vs := [(0, f20_15), (0, 2), (0, fi)]) (rest := []) (cn1 := 0) (sl1 := 0) rfl (rputX (lim := 12) (wd := 4) (B := 4294967295) (hb42.get (by decide) (hb34.get (by decide) hq28.1)) hr40 (hb41) (by decide) (by omega) (by decide) (by decide) (by omega) (by decide) (by omega)) rfl (hb42.get (by decide) (hb34.get (by decide) hq28.1)) rfl rfl rfl rfl rfl rfl (fun w45 hq46 => ?_)
            obtain ⟨g47, hr48, hb49, he51, hk52, hb50⟩ := hq46
            refine xg_t (xg_aload (va := (2, 20)) rfl rfl) ?_
            refine xg_t (xg_iload (va := (0, f20_15)) rfl rfl) ?_
            refine xg_t (xg_const) ?_
            refine xg_t (xg_iload (va := (0, cr)) rfl rfl) ?_
            refine xg_cVv mX5_put (vs := [(0, f20_15), (0, 3), (0, cr)]) (rest := []) (cn1 := 0) (sl1 := 0) rfl (rputX (lim := 12) (wd := 4) (B := 4294967295) (hb50.get (by decide) (hb42.get (by decide) (hb34.get (by decide) hq28.1))) hr48 (hb49) (by decide) (by omega) (by decide) (by decide) (by omega) (by decide) (by omega)) rfl (hb50.get (by decide) (hb42.get (by decide) (hb34.get (by decide) hq28.1))) rfl rfl rfl rfl rfl rfl (fun w53 hq54 => ?_)
            obtain ⟨g55, hr56, hb57, he59, hk60, hb58⟩ := hq54
            refine xg_t (xg_aload (va := (2, 0)) rfl rfl) ?_
            refine xg_t (xg_getf (va := (2, 76)) (hb58.get (by decide) (hb50.get (by decide) (hb42.get (by decide) (hb34.get (by decide) (hq28.2.get (by decide) h0_1))))) rfl) ?_
            refine xoC76 (xqc76 hI : cp76 (wget w 76)) (fun f76_61 f76_63 f76_65 f76_67 f76_69 f76_71 f76_73 f76_75 h76_77 hb62 hb64 hb66 hb68 hb70 hb72 hb74 hb76 => ?_)
            refine xg_cVv mX4_forget (vs := []) (rest := []) (cn1 := 0) (sl1 := 0) rfl (lwForgetE (xInv.up (S := [20, 21]) hI (((((xFr.of (S := [20, 21]) hq28.2 (by decide)).tr (xFr.of (S := [20, 21]) hb34 (by decide))).tr (xFr.of (S := [20, 21]) hb42 (by decide))).tr (xFr.of (S := [20, 21]) hb50 (by decide))).tr (xFr.of (S := [20, 21]) hb58 (by decide))) (List.forall_mem_cons.mpr ⟨xqu20 (show cp20 (wget w53 20) from ⟨(f20_15 + 1), (hb58.get (by decide) (hb50.get (by decide) (hb42.get (by decide) (hb34.get (by decide) hq28.1)))), by omega⟩), List.forall_mem_cons.mpr ⟨xqu21 (show cpI 48 9 4294967295 (wget w53 21) from ⟨_, hr56, hb57⟩), fun _ h => absurd h List.not_mem_nil⟩⟩))) rfl (hb58.get (by decide) (hb50.get (by decide) (hb42.get (by decide) (hb34.get (by decide) (hq28.2.get (by decide) h76_77))))) rfl rfl rfl rfl rfl rfl (fun w78 hq79 => ?_)
            obtain ⟨hI80, hF81, hx82⟩ := hq79
            obtain ⟨hg83, hg84, hg85⟩ := hx82
            refine xg_t (xg_iload (va := (0, f20_15)) rfl rfl) ?_
            have hq86 : fld w 20 3 = f20_15 := fld_of h20_17
            have hq87 : fld w78 20 3 = (f20_15 + 1) := fld_of (hF81.get (by decide) (hb58.get (by decide) (hb50.get (by decide) (hb42.get (by decide) (hb34.get (by decide) hq28.1)))))
            have hq89 : 4 * fld w 20 3 = f20_15 * 4 + 0 := by omega
            have hq88 : rwv w78 21 (4 * fld w 20 3) = sp := by
              rw [hq89, rwv_of (hr56.fr hF81 (by decide)) (by omega), hk60 _ (by omega), hk52 _ (by omega), hk44 _ (by omega), he35]
            have hq91 : 4 * fld w 20 3 + 1 = f20_15 * 4 + 1 := by omega
            have hq90 : rwv w78 21 (4 * fld w 20 3 + 1) = fo := by
              rw [hq91, rwv_of (hr56.fr hF81 (by decide)) (by omega), hk60 _ (by omega), hk52 _ (by omega), he43]
            have hq93 : 4 * fld w 20 3 + 2 = f20_15 * 4 + 2 := by omega
            have hq92 : rwv w78 21 (4 * fld w 20 3 + 2) = fi := by
              rw [hq93, rwv_of (hr56.fr hF81 (by decide)) (by omega), hk60 _ (by omega), he51]
            have hq95 : 4 * fld w 20 3 + 3 = f20_15 * 4 + 3 := by omega
            have hq94 : rwv w78 21 (4 * fld w 20 3 + 3) = cr := by
              rw [hq95, rwv_of (hr56.fr hF81 (by decide)) (by omega), he59]
            exact xg_e ⟨f20_15, w78, ⟨rfl, rfl⟩, ⟨Or.inl ⟨by omega, by omega, by omega, by omega, hg83, hg84, hg85⟩, fun _ => ⟨hq88, hq90, hq92, hq94⟩, fun j hj h => (rwv_of (hr56.fr hF81 (by decide)) h).trans (Eq.trans (by rw [hk60 j (by omega), hk52 j (by omega), hk44 j (by omega), hk36 j (by omega)]) (rwv_of h21_19 h).symm)⟩, hI80, ((((((xFr.of (S := [20, 21, 76]) hq28.2 (by decide)).tr (xFr.of (S := [20, 21, 76]) hb34 (by decide))).tr (xFr.of (S := [20, 21, 76]) hb42 (by decide))).tr (xFr.of (S := [20, 21, 76]) hb50 (by decide))).tr (xFr.of (S := [20, 21, 76]) hb58 (by decide))).tr (hF81.up (by decide)))⟩
        · refine xg_t (xg_ifT (u := (if 0 ≤ cr ∧ cr ≤ fi then 1 else 0)) rfl xnm0 (xj_eqT (xite0 hc24))) ?_
          refine xg_t (xg_blq rfl) ?_
          refine xg_t (xg_const) ?_
          refine xg_t (xg_blq rfl) ?_
          refine xg_t (xg_istore (l1 := [(5, (2, 20)), (0, (2, 0)), (1, (0, sp)), (2, (0, fo)), (3, (0, fi)), (4, (0, cr))]) rfl rfl rfl) ?_
          refine xg_t (xg_aload (va := (2, 20)) rfl rfl) ?_
          refine xg_t (xg_cVr mX5_isFull (vs := []) (rest := []) (rs := [(0, if 12 ≤ f20_15 then 1 else 0)]) (cn1 := 0) (sl1 := 0) rfl (rfull_ok h20_17 (by decide) (by omega)) rfl h20_17 rfl rfl rfl rfl rfl rfl rfl) ?_
          by_cases hc96 : 12 ≤ f20_15
          · refine xg_t (xg_ifT (u := (if 12 ≤ f20_15 then 1 else 0)) rfl xnm0 (xj_neT (xite1 hc96))) ?_
            refine xg_t (xg_blq rfl) ?_
            refine xg_t (xg_const) ?_
            have hq97 : fld w 20 3 = f20_15 := fld_of h20_17
            exact xg_e ⟨4294967295, w, ⟨rfl, rfl⟩, ⟨Or.inr ⟨by omega, by omega, rfl⟩, fun h => absurd h (by omega), fun j _ _ => rfl⟩, hI, xFr.rf⟩
          · refine xg_t (xg_ifF (u := (if 12 ≤ f20_15 then 1 else 0)) rfl xnm0 (xj_neF (xite0 hc96))) ?_
            refine xg_t (xg_iload (va := (0, 0)) rfl rfl) ?_
            refine xg_t (xg_ifF (u := 0) rfl xnm0 (by decide)) ?_
            refine xg_t (xg_blq rfl) ?_
            refine xg_t (xg_const) ?_
            have hq98 : fld w 20 3 = f20_15 := fld_of h20_17
            exact xg_e ⟨4294967295, w, ⟨rfl, rfl⟩, ⟨Or.inr ⟨by omega, by omega, rfl⟩, fun h => absurd h (by omega), fun j _ _ => rfl⟩, hI, xFr.rf⟩
      · refine xg_t (xg_ifT (u := (if 1 ≤ fi ∧ fi ≤ 99 then 1 else 0)) rfl xnm0 (xj_eqT (xite0 hc23))) ?_
        refine xg_t (xg_blq rfl) ?_
        refine xg_t (xg_const) ?_
        refine xg_t (xg_blq rfl) ?_
        refine xg_t (xg_istore (l1 := [(5, (2, 20)), (0, (2, 0)), (1, (0, sp)), (2, (0, fo)), (3, (0, fi)), (4, (0, cr))]) rfl rfl rfl) ?_
        refine xg_t (xg_aload (va := (2, 20)) rfl rfl) ?_
        refine xg_t (xg_cVr mX5_isFull (vs := []) (rest := []) (rs := [(0, if 12 ≤ f20_15 then 1 else 0)]) (cn1 := 0) (sl1 := 0) rfl (rfull_ok h20_17 (by decide) (by omega)) rfl h20_17 rfl rfl rfl rfl rfl rfl rfl) ?_
        by_cases hc99 : 12 ≤ f20_15
        · refine xg_t (xg_ifT (u := (if 12 ≤ f20_15 then 1 else 0)) rfl xnm0 (xj_neT (xite1 hc99))) ?_
          refine xg_t (xg_blq rfl) ?_
          refine xg_t (xg_const) ?_
          have hq100 : fld w 20 3 = f20_15 := fld_of h20_17
          exact xg_e ⟨4294967295, w, ⟨rfl, rfl⟩, ⟨Or.inr ⟨by omega, by omega, rfl⟩, fun h => absurd h (by omega), fun j _ _ => rfl⟩, hI, xFr.rf⟩
        · refine xg_t (xg_ifF (u := (if 12 ≤ f20_15 then 1 else 0)) rfl xnm0 (xj_neF (xite0 hc99))) ?_
          refine xg_t (xg_iload (va := (0, 0)) rfl rfl) ?_
          refine xg_t (xg_ifF (u := 0) rfl xnm0 (by decide)) ?_
          refine xg_t (xg_blq rfl) ?_
          refine xg_t (xg_const) ?_
          have hq101 : fld w 20 3 = f20_15 := fld_of h20_17
          exact xg_e ⟨4294967295, w, ⟨rfl, rfl⟩, ⟨Or.inr ⟨by omega, by omega, rfl⟩, fun h => absurd h (by omega), fun j _ _ => rfl⟩, hI, xFr.rf⟩
    · refine xg_t (xg_ifT (u := (if 1 ≤ fo ∧ fo ≤ 999999 then 1 else 0)) rfl xnm0 (xj_eqT (xite0 hc22))) ?_
      refine xg_t (xg_blq rfl) ?_
      refine xg_t (xg_const) ?_
      refine xg_t (xg_blq rfl) ?_
      refine xg_t (xg_istore (l1 := [(5, (2, 20)), (0, (2, 0)), (1, (0, sp)), (2, (0, fo)), (3, (0, fi)), (4, (0, cr))]) rfl rfl rfl) ?_
      refine xg_t (xg_aload (va := (2, 20)) rfl rfl) ?_
      refine xg_t (xg_cVr mX5_isFull (vs := []) (rest := []) (rs := [(0, if 12 ≤ f20_15 then 1 else 0)]) (cn1 := 0) (sl1 := 0) rfl (rfull_ok h20_17 (by decide) (by omega)) rfl h20_17 rfl rfl rfl rfl rfl rfl rfl) ?_
      by_cases hc102 : 12 ≤ f20_15
      · refine xg_t (xg_ifT (u := (if 12 ≤ f20_15 then 1 else 0)) rfl xnm0 (xj_neT (xite1 hc102))) ?_
        refine xg_t (xg_blq rfl) ?_
        refine xg_t (xg_const) ?_
        have hq103 : fld w 20 3 = f20_15 := fld_of h20_17
        exact xg_e ⟨4294967295, w, ⟨rfl, rfl⟩, ⟨Or.inr ⟨by omega, by omega, rfl⟩, fun h => absurd h (by omega), fun j _ _ => rfl⟩, hI, xFr.rf⟩
      · refine xg_t (xg_ifF (u := (if 12 ≤ f20_15 then 1 else 0)) rfl xnm0 (xj_neF (xite0 hc102))) ?_
        refine xg_t (xg_iload (va := (0, 0)) rfl rfl) ?_
        refine xg_t (xg_ifF (u := 0) rfl xnm0 (by decide)) ?_
        refine xg_t (xg_blq rfl) ?_
        refine xg_t (xg_const) ?_
        have hq104 : fld w 20 3 = f20_15 := fld_of h20_17
        exact xg_e ⟨4294967295, w, ⟨rfl, rfl⟩, ⟨Or.inr ⟨by omega, by omega, rfl⟩, fun h => absurd h (by omega), fun j _ _ => rfl⟩, hI, xFr.rf⟩
  · refine xg_t (xg_ifT (u := (if 1 ≤ sp ∧ sp ≤ 9 then 1 else 0)) rfl xnm0 (xj_eqT (xite0 hc21))) ?_
    refine xg_t (xg_blq rfl) ?_
    refine xg_t (xg_const) ?_
    refine xg_t (xg_blq rfl) ?_
    refine xg_t (xg_istore (l1 := [(5, (2, 20)), (0, (2, 0)), (1, (0, sp)), (2, (0, fo)), (3, (0, fi)), (4, (0, cr))]) rfl rfl rfl) ?_
    refine xg_t (xg_aload (va := (2, 20)) rfl rfl) ?_
    refine xg_t (xg_cVr mX5_isFull (vs := []) (rest := []) (rs := [(0, if 12 ≤ f20_15 then 1 else 0)]) (cn1 := 0) (sl1 := 0) rfl (rfull_ok h20_17 (by decide) (by omega)) rfl h20_17 rfl rfl rfl rfl rfl rfl rfl) ?_
    by_cases hc105 : 12 ≤ f20_15
    · refine xg_t (xg_ifT (u := (if 12 ≤ f20_15 then 1 else 0)) rfl xnm0 (xj_neT (xite1 hc105))) ?_
      refine xg_t (xg_blq rfl) ?_
      refine xg_t (xg_const) ?_
      have hq106 : fld w 20 3 = f20_15 := fld_of h20_17
      exact xg_e ⟨4294967295, w, ⟨rfl, rfl⟩, ⟨Or.inr ⟨by omega, by omega, rfl⟩, fun h => absurd h (by omega), fun j _ _ => rfl⟩, hI, xFr.rf⟩
    · refine xg_t (xg_ifF (u := (if 12 ≤ f20_15 then 1 else 0)) rfl xnm0 (xj_neF (xite0 hc105))) ?_
      refine xg_t (xg_iload (va := (0, 0)) rfl rfl) ?_
      refine xg_t (xg_ifF (u := 0) rfl xnm0 (by decide)) ?_
      refine xg_t (xg_blq rfl) ?_
      refine xg_t (xg_const) ?_
      have hq107 : fld w 20 3 = f20_15 := fld_of h20_17
      exact xg_e ⟨4294967295, w, ⟨rfl, rfl⟩, ⟨Or.inr ⟨by omega, by omega, rfl⟩, fun h => absurd h (by omega), fun j _ _ => rfl⟩, hI, xFr.rf⟩
end XCE
end
section
/-! the model: what the calls do to tape, day, hands, tests -/
section XME2
variable {d : Nat} {w : List (List xE)} {bd : List (Nat × Nat)} {fc : List (Nat × Nat × Bool)} {rr : Nat × Nat}
theorem mIsInX {a b c : Nat} (hI : xMnv w) (ha : a ≤ 4294967295) (hb : b ≤ 4294967295) (hc : c ≤ 4294967295) : xPi d mX12_isIn [(0, a), (0, b), (0, c)] w bd fc rr (fun n w' => ((n = 1 ∧ ¬ xbs a < xbs b ∧ ¬ xbs c < xbs a) ∨ (n = 0 ∧ (xbs a < xbs b ∨ xbs c < xbs a))) ∧ xMnv w' ∧ xFr [] w w') := by
  refine xPi.of ?_
  show xTo d mX12_isIn (0, [], [(0, (0, a)), (1, (0, b)), (2, (0, c))], [], (w, bd, fc, 0, 0, rr)) (fun φ => ∃ n w', xEnd 4 [(0, n)] (w', bd, fc, 0, 0, rr) φ ∧ ((n = 1 ∧ ¬ xbs a < xbs b ∧ ¬ xbs c < xbs a) ∨ (n = 0 ∧ (xbs a < xbs b ∨ xbs c < xbs a))) ∧ xMnv w' ∧ xFr [] w w')
  refine xg_t (xg_blq rfl) ?_
  refine xg_t (xg_iload (va := (0, a)) rfl rfl) ?_
  refine xg_t (xg_iload (va := (0, b)) rfl rfl) ?_
  by_cases hc1 : xbs a < xbs b
  · have hc1u := hc1
    unfold xbs at hc1u
    refine xg_t (xg_icT (u := a) (v := b) rfl xnm0 xnm0 (xjs_ltT hc1)) ?_
    refine xg_t (xg_blq rfl) ?_
    refine xg_t (xg_const) ?_
    refine xg_t (xg_blq rfl) ?_
    exact xg_e ⟨0, w, ⟨rfl, rfl⟩, by first | decide | omega, hI, xFr.rf⟩
  · have hc1u := hc1
    unfold xbs at hc1u
    refine xg_t (xg_icF (u := a) (v := b) rfl xnm0 xnm0 (xjs_ltF hc1)) ?_
    refine xg_t (xg_iload (va := (0, a)) rfl rfl) ?_
    refine xg_t (xg_iload (va := (0, c)) rfl rfl) ?_
    by_cases hc2 : xbs c < xbs a
    · have hc2u := hc2
      unfold xbs at hc2u
      refine xg_t (xg_icT (u := a) (v := c) rfl xnm0 xnm0 (xjs_gtT hc2)) ?_
      refine xg_t (xg_blq rfl) ?_
      refine xg_t (xg_const) ?_
      refine xg_t (xg_blq rfl) ?_
      exact xg_e ⟨0, w, ⟨rfl, rfl⟩, by first | decide | omega, hI, xFr.rf⟩
    · have hc2u := hc2
      unfold xbs at hc2u
      refine xg_t (xg_icF (u := a) (v := c) rfl xnm0 xnm0 (xjs_gtF hc2)) ?_
      refine xg_t (xg_const) ?_
      refine xg_t (xg_goto) ?_
      refine xg_t (xg_blq rfl) ?_
      exact xg_e ⟨1, w, ⟨rfl, rfl⟩, by first | decide | omega, hI, xFr.rf⟩
theorem mIsRoundX {ra : Nat} (hI : xMnv w) (hra : ra ≤ 4294967295) : xPi (d + 1) mX12_isRound [(2, 82), (0, ra)] w bd fc rr (fun n w' => ((n = 1 ∧ 1 ≤ ra ∧ ra ≤ 9999) ∨ (n = 0 ∧ ¬ (1 ≤ ra ∧ ra ≤ 9999))) ∧ xMnv w' ∧ xFr [] w w') := by
  refine xPi.of ?_
  show xTo (d + 1) mX12_isRound (0, [], [(0, (2, 82)), (1, (0, ra))], [], (w, bd, fc, 0, 0, rr)) (fun φ => ∃ n w', xEnd 4 [(0, n)] (w', bd, fc, 0, 0, rr) φ ∧ ((n = 1 ∧ 1 ≤ ra ∧ ra ≤ 9999) ∨ (n = 0 ∧ ¬ (1 ≤ ra ∧ ra ≤ 9999))) ∧ xMnv w' ∧ xFr [] w w')
  refine xg_t (xg_blq rfl) ?_
  refine xg_t (xg_iload (va := (0, ra)) rfl rfl) ?_
  refine xg_t (xg_const) ?_
  refine xg_t (xg_sip) ?_
  refine xg_t (xg_cSr mX12_isIn (vs := [(0, ra), (0, 1), (0, 9999)]) (rest := []) (rs := [(0, if 1 ≤ ra ∧ ra ≤ 9999 then 1 else 0)]) (cn1 := 0) (sl1 := 0) rfl (mIsIn (by omega) (by omega) (by omega)) rfl rfl rfl rfl rfl rfl rfl rfl) ?_
  by_cases hc1 : 1 ≤ ra ∧ ra ≤ 9999
  · rw [if_pos hc1]
    exact xg_e ⟨1, w, ⟨rfl, rfl⟩, by first | decide | omega, hI, xFr.rf⟩
  · rw [if_neg hc1]
    exact xg_e ⟨0, w, ⟨rfl, rfl⟩, by first | decide | omega, hI, xFr.rf⟩
theorem mDayX {da : Nat} (hI : xMnv w) (hda : da ≤ 4294967295) : xPi (d + 1) mX12_day [(2, 82), (0, da)] w bd fc rr (fun n w' => (((n = 1 ∧ ¬ xbs da < xbs (rwv w 83 11) ∧ ¬ xbs 999 < xbs da ∧ rwv w' 83 11 = da) ∨ (n = 0 ∧ (xbs da < xbs (rwv w 83 11) ∨ xbs 999 < xbs da) ∧ rwv w' 83 11 = rwv w 83 11)) ∧ (∀ j, (j ≠ 11) → j < 5360 → rwv w' 83 j = rwv w 83 j)) ∧ xMnv w' ∧ xFr [83] w w') := by
  refine xPi.of ?_
  show xTo (d + 1) mX12_day (0, [], [(0, (2, 82)), (1, (0, da))], [], (w, bd, fc, 0, 0, rr)) (fun φ => ∃ n w', xEnd 4 [(0, n)] (w', bd, fc, 0, 0, rr) φ ∧ (((n = 1 ∧ ¬ xbs da < xbs (rwv w 83 11) ∧ ¬ xbs 999 < xbs da ∧ rwv w' 83 11 = da) ∨ (n = 0 ∧ (xbs da < xbs (rwv w 83 11) ∨ xbs 999 < xbs da) ∧ rwv w' 83 11 = rwv w 83 11)) ∧ (∀ j, (j ≠ 11) → j < 5360 → rwv w' 83 j = rwv w 83 j)) ∧ xMnv w' ∧ xFr [83] w w')
  refine xoCh82 (xqc82 hI : cp82 (wget w 82)) (fun f82_1 f82_3 f82_5 f82_7 f82_9 f82_11 f82_13 f82_15 f82_17 f82_19 f82_21 f82_22 f82_23 f82_25 f82_27 f82_29 h82_31 hb2 hb4 hb6 hb8 hb10 hb12 hb14 hb16 hb18 hb20 hb24 hb26 hb28 hb30 hb32 => ?_)
  refine xoX83 (xqc83 hI : cpx83 (wget w 83)) (fun g83_33 h83_34 hb35 hx36 => ?_)
  refine xg_t (xg_blq rfl) ?_
  refine xg_t (xg_iload (va := (0, da)) rfl rfl) ?_
  refine xg_t (xg_aload (va := (2, 82)) rfl rfl) ?_
  refine xg_t (xg_getf (va := (2, 83)) h82_31 rfl) ?_
  refine xg_t (xg_bip) ?_
  refine xg_ialdB (n := 11) (B := 4294967295) h83_34 (hb35) xnm0 (by first | decide | omega) (fun u37 hu38 he39 => ?_)
  refine xg_t (xg_sip) ?_
  refine xg_cSi mX12_isIn (vs := [(0, da), (0, u37), (0, 999)]) (rest := []) (cn1 := 0) (sl1 := 0) rfl (mIsInX (hI) (by omega) (by omega) (by omega)) rfl rfl rfl rfl rfl rfl rfl (fun n44 w40 hq41 => ?_)
  obtain ⟨hn45, hI42, hF43⟩ := hq41
  by_cases hc46 : n44 = 0
  · refine xg_t (xg_ifF (u := n44) rfl xnm0 (xj_neF hc46)) ?_
    refine xg_t (xg_const) ?_
    have hq47 : rwv w 83 11 = g83_33 11 := rwv_of h83_34 (by decide)
    have hq48 : xbs (rwv w 83 11) = xbs u37 := congrArg xbs (hq47.trans he39)
    have hq49 : rwv w40 83 11 = g83_33 11 := rwv_of (h83_34.fr hF43 (by decide)) (by decide)
    exact xg_e ⟨0, w40, ⟨rfl, rfl⟩, ⟨by omega, fun j _ h => (rwv_of (h83_34.fr hF43 (by decide)) h).trans (rwv_of h83_34 h).symm⟩, hI42, (hF43.up (by decide))⟩
  · refine xg_t (xg_ifT (u := n44) rfl xnm0 (xj_neT hc46)) ?_
    refine xg_t (xg_blq rfl) ?_
    refine xg_t (xg_aload (va := (2, 82)) rfl rfl) ?_
    refine xg_t (xg_getf (va := (2, 83)) (hF43.get (by decide) h82_31) rfl) ?_
    refine xg_t (xg_bip) ?_
    refine xg_t (xg_iload (va := (0, da)) rfl rfl) ?_
    refine xg_iastK (n := 11) (u := da) (h83_34.fr hF43 (by decide)) xnm0 xnm0 rfl (by first | decide | omega) (fun w50 hr51 hb52 => ?_)
    have hx53 : okA (fun j => if j = 11 then da else g83_33 j) := hx36.upd (by omega) (by omega) (by omega) (fun _ => by omega) (by omega) (fun _ => by omega) (fun _ => by omega) (fun _ => by omega) (fun _ => by omega) (by omega) (fun _ _ => by omega)
    have hb54 : ∀ j, (fun j => if j = 11 then da else g83_33 j) j ≤ 4294967295 := xrb (by omega) (hb35)
    obtain ⟨g55, hg56⟩ : ∃ g : Nat → Nat, g = (fun j => if j = 11 then da else g83_33 j) := ⟨_, rfl⟩
    rw [← hg56] at hr51
    have he57 : g55 11 = da := by rw [hg56]; exact if_pos rfl
    have hk58 : ∀ j, j ≠ 11 → g55 j = g83_33 j := fun j hj => by rw [hg56]; exact if_neg hj
    rw [← hg56] at hx53
    rw [← hg56] at hb54
    refine xg_t (xg_const) ?_
    have hq59 : rwv w 83 11 = g83_33 11 := rwv_of h83_34 (by decide)
    have hq60 : xbs (rwv w 83 11) = xbs u37 := congrArg xbs (hq59.trans he39)
    have hq61 : g55 11 = da := he57
    have hq62 : rwv w50 83 11 = g55 11 := rwv_of hr51 (by decide)
    exact xg_e ⟨1, w50, ⟨rfl, rfl⟩, ⟨by omega, fun j hj h => (rwv_of hr51 h).trans (Eq.trans (by rw [hk58 j (by omega)]) (rwv_of h83_34 h).symm)⟩, xMnv.up (S := [83]) hI42 (xFr.of (S := [83]) hb52 (by decide)) (List.forall_mem_cons.mpr ⟨xqu83 (show cpx83 (wget w50 83) from ⟨_, hr51, hb54, hx53⟩), fun _ h => absurd h List.not_mem_nil⟩), ((hF43.up (by decide)).tr (xFr.of (S := [83]) hb52 (by decide)))⟩
theorem mViewX {da : Nat} (hI : xMnv w) (hda : da ≤ 4294967295) : xPi (d + 1) mX12_view [(2, 82), (0, da)] w bd fc rr (fun n w' => (((n = 1 ∧ (da = 4294967295 ∨ (¬ xbs da < xbs 0 ∧ ¬ xbs (rwv w 83 11) < xbs da)) ∧ rwv w' 83 12 = da) ∨ (n = 0 ∧ ¬ da = 4294967295 ∧ (xbs da < xbs 0 ∨ xbs (rwv w 83 11) < xbs da) ∧ rwv w' 83 12 = rwv w 83 12)) ∧ (∀ j, (j ≠ 12) → j < 5360 → rwv w' 83 j = rwv w 83 j)) ∧ xMnv w' ∧ xFr [83] w w') := by
  refine xPi.of ?_
  show xTo (d + 1) mX12_view (0, [], [(0, (2, 82)), (1, (0, da))], [], (w, bd, fc, 0, 0, rr)) (fun φ => ∃ n w', xEnd 4 [(0, n)] (w', bd, fc, 0, 0, rr) φ ∧ (((n = 1 ∧ (da = 4294967295 ∨ (¬ xbs da < xbs 0 ∧ ¬ xbs (rwv w 83 11) < xbs da)) ∧ rwv w' 83 12 = da) ∨ (n = 0 ∧ ¬ da = 4294967295 ∧ (xbs da < xbs 0 ∨ xbs (rwv w 83 11) < xbs da) ∧ rwv w' 83 12 = rwv w 83 12)) ∧ (∀ j, (j ≠ 12) → j < 5360 → rwv w' 83 j = rwv w 83 j)) ∧ xMnv w' ∧ xFr [83] w w')
  refine xoCh82 (xqc82 hI : cp82 (wget w 82)) (fun f82_1 f82_3 f82_5 f82_7 f82_9 f82_11 f82_13 f82_15 f82_17 f82_19 f82_21 f82_22 f82_23 f82_25 f82_27 f82_29 h82_31 hb2 hb4 hb6 hb8 hb10 hb12 hb14 hb16 hb18 hb20 hb24 hb26 hb28 hb30 hb32 => ?_)
  refine xoX83 (xqc83 hI : cpx83 (wget w 83)) (fun g83_33 h83_34 hb35 hx36 => ?_)
  refine xg_t (xg_blq rfl) ?_
  refine xg_t (xg_iload (va := (0, da)) rfl rfl) ?_
  refine xg_t (xg_const) ?_
  by_cases hc37 : da = 4294967295
  · refine xg_t (xg_icT (u := da) (v := 4294967295) rfl xnm0 xnm0 (xj_eqT hc37)) ?_
    refine xg_t (xg_blq rfl) ?_
    refine xg_t (xg_aload (va := (2, 82)) rfl rfl) ?_
    refine xg_t (xg_getf (va := (2, 83)) h82_31 rfl) ?_
    refine xg_t (xg_bip) ?_
    refine xg_t (xg_iload (va := (0, da)) rfl rfl) ?_
    refine xg_iastK (n := 12) (u := da) h83_34 xnm0 xnm0 rfl (by first | decide | omega) (fun w38 hr39 hb40 => ?_)
    have hx41 : okA (fun j => if j = 12 then da else g83_33 j) := hx36.upd (by omega) (by omega) (by omega) (fun _ => by omega) (by omega) (fun _ => by omega) (fun _ => by omega) (fun _ => by omega) (fun _ => by omega) (by omega) (fun _ _ => by omega)
    have hb42 : ∀ j, (fun j => if j = 12 then da else g83_33 j) j ≤ 4294967295 := xrb (by omega) (hb35)
    obtain ⟨g43, hg44⟩ : ∃ g : Nat → Nat, g = (fun j => if j = 12 then da else g83_33 j) := ⟨_, rfl⟩
    rw [← hg44] at hr39
    have he45 : g43 12 = da := by rw [hg44]; exact if_pos rfl
    have hk46 : ∀ j, j ≠ 12 → g43 j = g83_33 j := fun j hj => by rw [hg44]; exact if_neg hj
    rw [← hg44] at hx41
    rw [← hg44] at hb42
    refine xg_t (xg_const) ?_
    have hq47 : rwv w 83 11 = g83_33 11 := rwv_of h83_34 (by decide)
    have hq48 : g43 11 = g83_33 11 := hk46 11 (by omega)
    have hq49 : rwv w38 83 11 = g43 11 := rwv_of hr39 (by decide)
    have hq50 : rwv w 83 12 = g83_33 12 := rwv_of h83_34 (by decide)
    have hq51 : g43 12 = da := he45
    have hq52 : rwv w38 83 12 = g43 12 := rwv_of hr39 (by decide)
    exact xg_e ⟨1, w38, ⟨rfl, rfl⟩, ⟨by omega, fun j hj h => (rwv_of hr39 h).trans (Eq.trans (by rw [hk46 j (by omega)]) (rwv_of h83_34 h).symm)⟩, xMnv.up (S := [83]) hI (xFr.of (S := [83]) hb40 (by decide)) (List.forall_mem_cons.mpr ⟨xqu83 (show cpx83 (wget w38 83) from ⟨_, hr39, hb42, hx41⟩), fun _ h => absurd h List.not_mem_nil⟩), (xFr.of (S := [83]) hb40 (by decide))⟩
  · refine xg_t (xg_icF (u := da) (v := 4294967295) rfl xnm0 xnm0 (xj_eqF hc37)) ?_
    refine xg_t (xg_iload (va := (0, da)) rfl rfl) ?_
    refine xg_t (xg_const) ?_
    refine xg_t (xg_aload (va := (2, 82)) rfl rfl) ?_
    refine xg_t (xg_getf (va := (2, 83)) h82_31 rfl) ?_
    refine xg_t (xg_bip) ?_
    refine xg_ialdB (n := 11) (B := 4294967295) h83_34 (hb35) xnm0 (by first | decide | omega) (fun u53 hu54 he55 => ?_)
    refine xg_cSi mX12_isIn (vs := [(0, da), (0, 0), (0, u53)]) (rest := []) (cn1 := 0) (sl1 := 0) rfl (mIsInX (hI) (by omega) (by omega) (by omega)) rfl rfl rfl rfl rfl rfl rfl (fun n60 w56 hq57 => ?_)
    obtain ⟨hn61, hI58, hF59⟩ := hq57
    by_cases hc62 : n60 = 0
    · refine xg_t (xg_ifF (u := n60) rfl xnm0 (xj_neF hc62)) ?_
      refine xg_t (xg_const) ?_
      have hq63 : rwv w 83 11 = g83_33 11 := rwv_of h83_34 (by decide)
      have hq64 : xbs (rwv w 83 11) = xbs u53 := congrArg xbs (hq63.trans he55)
      have hq65 : rwv w56 83 11 = g83_33 11 := rwv_of (h83_34.fr hF59 (by decide)) (by decide)
      have hq66 : rwv w 83 12 = g83_33 12 := rwv_of h83_34 (by decide)
      have hq67 : rwv w56 83 12 = g83_33 12 := rwv_of (h83_34.fr hF59 (by decide)) (by decide)
      exact xg_e ⟨0, w56, ⟨rfl, rfl⟩, ⟨by omega, fun j _ h => (rwv_of (h83_34.fr hF59 (by decide)) h).trans (rwv_of h83_34 h).symm⟩, hI58, (hF59.up (by decide))⟩
    · refine xg_t (xg_ifT (u := n60) rfl xnm0 (xj_neT hc62)) ?_
      refine xg_t (xg_blq rfl) ?_
      refine xg_t (xg_aload (va := (2, 82)) rfl rfl) ?_
      refine xg_t (xg_getf (va := (2, 83)) (hF59.get (by decide) h82_31) rfl) ?_
      refine xg_t (xg_bip) ?_
      refine xg_t (xg_iload (va := (0, da)) rfl rfl) ?_
      refine xg_iastK (n := 12) (u := da) (h83_34.fr hF59 (by decide)) xnm0 xnm0 rfl (by first | decide | omega) (fun w68 hr69 hb70 => ?_)
      have hx71 : okA (fun j => if j = 12 then da else g83_33 j) := hx36.upd (by omega) (by omega) (by omega) (fun _ => by omega) (by omega) (fun _ => by omega) (fun _ => by omega) (fun _ => by omega) (fun _ => by omega) (by omega) (fun _ _ => by omega)
      have hb72 : ∀ j, (fun j => if j = 12 then da else g83_33 j) j ≤ 4294967295 := xrb (by omega) (hb35)
      obtain ⟨g73, hg74⟩ : ∃ g : Nat → Nat, g = (fun j => if j = 12 then da else g83_33 j) := ⟨_, rfl⟩
      rw [← hg74] at hr69
      have he75 : g73 12 = da := by rw [hg74]; exact if_pos rfl
      have hk76 : ∀ j, j ≠ 12 → g73 j = g83_33 j := fun j hj => by rw [hg74]; exact if_neg hj
      rw [← hg74] at hx71
      rw [← hg74] at hb72
      refine xg_t (xg_const) ?_
      have hq77 : rwv w 83 11 = g83_33 11 := rwv_of h83_34 (by decide)
      have hq78 : xbs (rwv w 83 11) = xbs u53 := congrArg xbs (hq77.trans he55)
      have hq79 : g73 11 = g83_33 11 := hk76 11 (by omega)
      have hq80 : rwv w68 83 11 = g73 11 := rwv_of hr69 (by decide)
      have hq81 : rwv w 83 12 = g83_33 12 := rwv_of h83_34 (by decide)
      have hq82 : g73 12 = da := he75
      have hq83 : rwv w68 83 12 = g73 12 := rwv_of hr69 (by decide)
      exact xg_e ⟨1, w68, ⟨rfl, rfl⟩, ⟨by omega, fun j hj h => (rwv_of hr69 h).trans (Eq.trans (by rw [hk76 j (by omega)]) (rwv_of h83_34 h).symm)⟩, xMnv.up (S := [83]) hI58 (xFr.of (S := [83]) hb70 (by decide)) (List.forall_mem_cons.mpr ⟨xqu83 (show cpx83 (wget w68 83) from ⟨_, hr69, hb72, hx71⟩), fun _ h => absurd h List.not_mem_nil⟩), ((hF59.up (by decide)).tr (xFr.of (S := [83]) hb70 (by decide)))⟩
theorem mEndX {nn : Nat} (hI : xMnv w) (hnn : nn ≤ 4294967295) : xPi d mX12_end [(2, 82), (0, nn)] w bd fc rr (fun n w' => (((n = nn ∧ nn ≤ rwv w 83 15 ∧ rwv w' 83 15 = nn) ∨ (n = 4294967295 ∧ ¬ nn ≤ rwv w 83 15 ∧ rwv w' 83 15 = rwv w 83 15)) ∧ (∀ j, (j ≠ 15) → j < 5360 → rwv w' 83 j = rwv w 83 j)) ∧ xMnv w' ∧ xFr [83] w w') := by
  refine xPi.of ?_
  show xTo d mX12_end (0, [], [(0, (2, 82)), (1, (0, nn))], [], (w, bd, fc, 0, 0, rr)) (fun φ => ∃ n w', xEnd 1 [(0, n)] (w', bd, fc, 0, 0, rr) φ ∧ (((n = nn ∧ nn ≤ rwv w 83 15 ∧ rwv w' 83 15 = nn) ∨ (n = 4294967295 ∧ ¬ nn ≤ rwv w 83 15 ∧ rwv w' 83 15 = rwv w 83 15)) ∧ (∀ j, (j ≠ 15) → j < 5360 → rwv w' 83 j = rwv w 83 j)) ∧ xMnv w' ∧ xFr [83] w w')
  refine xoCh82 (xqc82 hI : cp82 (wget w 82)) (fun f82_1 f82_3 f82_5 f82_7 f82_9 f82_11 f82_13 f82_15 f82_17 f82_19 f82_21 f82_22 f82_23 f82_25 f82_27 f82_29 h82_31 hb2 hb4 hb6 hb8 hb10 hb12 hb14 hb16 hb18 hb20 hb24 hb26 hb28 hb30 hb32 => ?_)
  refine xoX83 (xqc83 hI : cpx83 (wget w 83)) (fun g83_33 h83_34 hb35 hx36 => ?_)
  refine xg_t (xg_blq rfl) ?_
  refine xg_t (xg_iload (va := (0, nn)) rfl rfl) ?_
  by_cases hc37 : nn < 2147483648
  · refine xg_t (xg_ifF (u := nn) rfl xnm0 (xjz_ltF hc37)) ?_
    refine xg_t (xg_iload (va := (0, nn)) rfl rfl) ?_
    refine xg_t (xg_aload (va := (2, 82)) rfl rfl) ?_
    refine xg_t (xg_getf (va := (2, 83)) h82_31 rfl) ?_
    refine xg_t (xg_bip) ?_
    refine xg_ialdB (n := 15) (B := 4294967295) h83_34 (hb35) xnm0 (by first | decide | omega) (fun u38 hu39 he40 => ?_)
    have hl41 : u38 ≤ 500 := by rw [← he40]; exact hx36.l15
    by_cases hc42 : u38 < nn
    · refine xg_t (xg_icF (u := nn) (v := u38) rfl xnm0 xnm0 (xj_leF hc42 (by omega))) ?_
      refine xg_t (xg_blq rfl) ?_
      refine xg_t (xg_const) ?_
      have hq43 : rwv w 83 15 = g83_33 15 := rwv_of h83_34 (by decide)
      have hq44 : g83_33 15 ≤ 500 := hx36.l15
      have hq45 : rwv w 83 15 = g83_33 15 := rwv_of h83_34 (by decide)
      exact xg_e ⟨4294967295, w, ⟨rfl, rfl⟩, ⟨by omega, fun j _ h => (rwv_of h83_34 h).trans (rwv_of h83_34 h).symm⟩, hI, xFr.rf⟩
    · refine xg_t (xg_icT (u := nn) (v := u38) rfl xnm0 xnm0 (xj_leT (by omega) (by omega))) ?_
      refine xg_t (xg_blq rfl) ?_
      refine xg_t (xg_aload (va := (2, 82)) rfl rfl) ?_
      refine xg_t (xg_getf (va := (2, 83)) h82_31 rfl) ?_
      refine xg_t (xg_bip) ?_
      refine xg_t (xg_iload (va := (0, nn)) rfl rfl) ?_
      refine xg_iastK (n := 15) (u := nn) h83_34 xnm0 xnm0 rfl (by first | decide | omega) (fun w46 hr47 hb48 => ?_)
      have hx49 : okA (fun j => if j = 15 then nn else g83_33 j) := hx36.upd (by omega) (by omega) (by omega) (fun _ => by omega) (by omega) (fun _ => by omega) (fun _ => by omega) (fun _ => by omega) (fun _ => by omega) (by omega) (fun _ _ => by omega)
      have hb50 : ∀ j, (fun j => if j = 15 then nn else g83_33 j) j ≤ 4294967295 := xrb (by omega) (hb35)
      obtain ⟨g51, hg52⟩ : ∃ g : Nat → Nat, g = (fun j => if j = 15 then nn else g83_33 j) := ⟨_, rfl⟩
      rw [← hg52] at hr47
      have he53 : g51 15 = nn := by rw [hg52]; exact if_pos rfl
      have hk54 : ∀ j, j ≠ 15 → g51 j = g83_33 j := fun j hj => by rw [hg52]; exact if_neg hj
      rw [← hg52] at hx49
      rw [← hg52] at hb50
      refine xg_t (xg_iload (va := (0, nn)) rfl rfl) ?_
      have hq55 : rwv w 83 15 = g83_33 15 := rwv_of h83_34 (by decide)
      have hq56 : g83_33 15 ≤ 500 := hx36.l15
      have hq57 : g51 15 = nn := he53
      have hq58 : rwv w46 83 15 = g51 15 := rwv_of hr47 (by decide)
      exact xg_e ⟨nn, w46, ⟨rfl, rfl⟩, ⟨by omega, fun j hj h => (rwv_of hr47 h).trans (Eq.trans (by rw [hk54 j (by omega)]) (rwv_of h83_34 h).symm)⟩, xMnv.up (S := [83]) hI (xFr.of (S := [83]) hb48 (by decide)) (List.forall_mem_cons.mpr ⟨xqu83 (show cpx83 (wget w46 83) from ⟨_, hr47, hb50, hx49⟩), fun _ h => absurd h List.not_mem_nil⟩), (xFr.of (S := [83]) hb48 (by decide))⟩
  · refine xg_t (xg_ifT (u := nn) rfl xnm0 (xjz_ltT (by omega) (by omega))) ?_
    refine xg_t (xg_blq rfl) ?_
    refine xg_t (xg_const) ?_
    have hq59 : rwv w 83 15 = g83_33 15 := rwv_of h83_34 (by decide)
    have hq60 : g83_33 15 ≤ 500 := hx36.l15
    have hq61 : rwv w 83 15 = g83_33 15 := rwv_of h83_34 (by decide)
    exact xg_e ⟨4294967295, w, ⟨rfl, rfl⟩, ⟨by omega, fun j _ h => (rwv_of h83_34 h).trans (rwv_of h83_34 h).symm⟩, hI, xFr.rf⟩
theorem mTestX {sp fo fi ck : Nat} (hI : xMnv w) (hsp : sp ≤ 4294967295) (hfo : fo ≤ 4294967295) (hfi : fi ≤ 4294967295) (hck : ck ≤ 4294967295) : xPi (d + 1) mX12_test [(2, 82), (0, sp), (0, fo), (0, fi), (0, ck)] w bd fc rr (fun n w' => (((n = rwv w 83 901 ∧ rwv w 83 901 < 12 ∧ ((1 ≤ sp ∧ sp ≤ 9) ∧ (1 ≤ fo ∧ fo ≤ 999999) ∧ (1 ≤ fi ∧ fi ≤ 99) ∧ ck ≤ fi) ∧ rwv w' 83 901 = rwv w 83 901 + 1) ∨ (n = 4294967295 ∧ ¬ (rwv w 83 901 < 12 ∧ ((1 ≤ sp ∧ sp ≤ 9) ∧ (1 ≤ fo ∧ fo ≤ 999999) ∧ (1 ≤ fi ∧ fi ≤ 99) ∧ ck ≤ fi)) ∧ rwv w' 83 901 = rwv w 83 901)) ∧ (n ≠ 4294967295 → rwv w' 83 (970 + 4 * rwv w 83 901) = sp ∧ rwv w' 83 (970 + 4 * rwv w 83 901 + 1) = fo ∧ rwv w' 83 (970 + 4 * rwv w 83 901 + 2) = fi ∧ rwv w' 83 (970 + 4 * rwv w 83 901 + 3) = ck) ∧ (∀ j, (j ≠ 901 ∧ (j < 970 + 4 * rwv w 83 901 ∨ 974 + 4 * rwv w 83 901 ≤ j)) → j < 5360 → rwv w' 83 j = rwv w 83 j)) ∧ xMnv w' ∧ xFr [83] w w') := by
  refine xPi.of ?_
  show xTo (d + 1) mX12_test (0, [], [(0, (2, 82)), (1, (0, sp)), (2, (0, fo)), (3, (0, fi)), (4, (0, ck))], [], (w, bd, fc, 0, 0, rr)) (fun φ => ∃ n w', xEnd 1 [(0, n)] (w', bd, fc, 0, 0, rr) φ ∧ (((n = rwv w 83 901 ∧ rwv w 83 901 < 12 ∧ ((1 ≤ sp ∧ sp ≤ 9) ∧ (1 ≤ fo ∧ fo ≤ 999999) ∧ (1 ≤ fi ∧ fi ≤ 99) ∧ ck ≤ fi) ∧ rwv w' 83 901 = rwv w 83 901 + 1) ∨ (n = 4294967295 ∧ ¬ (rwv w 83 901 < 12 ∧ ((1 ≤ sp ∧ sp ≤ 9) ∧ (1 ≤ fo ∧ fo ≤ 999999) ∧ (1 ≤ fi ∧ fi ≤ 99) ∧ ck ≤ fi)) ∧ rwv w' 83 901 = rwv w 83 901)) ∧ (n ≠ 4294967295 → rwv w' 83 (970 + 4 * rwv w 83 901) = sp ∧ rwv w' 83 (970 + 4 * rwv w 83 901 + 1) = fo ∧ rwv w' 83 (970 + 4 * rwv w 83 901 + 2) = fi ∧ rwv w' 83 (970 + 4 * rwv w 83 901 + 3) = ck) ∧ (∀ j, (j ≠ 901 ∧ (j < 970 + 4 * rwv w 83 901 ∨ 974 + 4 * rwv w 83 901 ≤ j)) → j < 5360 → rwv w' 83 j = rwv w 83 j)) ∧ xMnv w' ∧ xFr [83] w w')
  refine xoCh82 (xqc82 hI : cp82 (wget w 82)) (fun f82_1 f82_3 f82_5 f82_7 f82_9 f82_11 f82_13 f82_15 f82_17 f82_19 f82_21 f82_22 f82_23 f82_25 f82_27 f82_29 h82_31 hb2 hb4 hb6 hb8 hb10 hb12 hb14 hb16 hb18 hb20 hb24 hb26 hb28 hb30 hb32 => ?_)
  refine xoX83 (xqc83 hI : cpx83 (wget w 83)) (fun g83_33 h83_34 hb35 hx36 => ?_)
  refine xg_t (xg_blq rfl) ?_
  refine xg_t (xg_aload (va := (2, 82)) rfl rfl) ?_
  refine xg_t (xg_getf (va := (2, 83)) h82_31 rfl) ?_
  refine xg_t (xg_sip) ?_
  refine xg_ialdB (n := 901) (B := 4294967295) h83_34 (hb35) xnm0 (by first | decide | omega) (fun u37 hu38 he39 => ?_)
  have hl40 : u37 ≤ 12 := by rw [← he39]; exact hx36.l901
  refine xg_t (xg_bip) ?_
  by_cases hc41 : u37 = 12
  · refine xg_t (xg_icT (u := u37) (v := 12) rfl xnm0 xnm0 (xj_eqT hc41)) ?_
    refine xg_t (xg_blq rfl) ?_
    refine xg_t (xg_const) ?_
    have hq42 : rwv w 83 901 = g83_33 901 := rwv_of h83_34 (by decide)
    have hq43 : g83_33 901 ≤ 12 := hx36.l901
    have hq44 : rwv w 83 901 = g83_33 901 := rwv_of h83_34 (by decide)
    exact xg_e ⟨4294967295, w, ⟨rfl, rfl⟩, ⟨by omega, fun h => absurd h (by omega), fun j _ h => (rwv_of h83_34 h).trans (rwv_of h83_34 h).symm⟩, hI, xFr.rf⟩
  · refine xg_t (xg_icF (u := u37) (v := 12) rfl xnm0 xnm0 (xj_eqF hc41)) ?_
    refine xg_t (xg_iload (va := (0, sp)) rfl rfl) ?_
    refine xg_t (xg_const) ?_
    refine xg_t (xg_bip) ?_
    refine xg_t (xg_cSr mX12_isIn (vs := [(0, sp), (0, 1), (0, 9)]) (rest := []) (rs := [(0, if 1 ≤ sp ∧ sp ≤ 9 then 1 else 0)]) (cn1 := 0) (sl1 := 0) rfl (mIsIn (by omega) (by omega) (by omega)) rfl rfl rfl rfl rfl rfl rfl rfl) ?_
    by_cases hc45 : 1 ≤ sp ∧ sp ≤ 9
    · refine xg_t (xg_ifF (u := (if 1 ≤ sp ∧ sp ≤ 9 then 1 else 0)) rfl xnm0 (xj_eqF (xite1 hc45))) ?_
      refine xg_t (xg_iload (va := (0, fo)) rfl rfl) ?_
      refine xg_t (xg_const) ?_
      refine xg_t (xg_ldcw) ?_
      refine xg_t (xg_cSr mX12_isIn (vs := [(0, fo), (0, 1), (0, 999999)]) (rest := []) (rs := [(0, if 1 ≤ fo ∧ fo ≤ 999999 then 1 else 0)]) (cn1 := 0) (sl1 := 0) rfl (mIsIn (by omega) (by omega) (by omega)) rfl rfl rfl rfl rfl rfl rfl rfl) ?_
      by_cases hc46 : 1 ≤ fo ∧ fo ≤ 999999
      · refine xg_t (xg_ifF (u := (if 1 ≤ fo ∧ fo ≤ 999999 then 1 else 0)) rfl xnm0 (xj_eqF (xite1 hc46))) ?_
        refine xg_t (xg_iload (va := (0, fi)) rfl rfl) ?_
        refine xg_t (xg_const) ?_
        refine xg_t (xg_bip) ?_
        refine xg_t (xg_cSr mX12_isIn (vs := [(0, fi), (0, 1), (0, 99)]) (rest := []) (rs := [(0, if 1 ≤ fi ∧ fi ≤ 99 then 1 else 0)]) (cn1 := 0) (sl1 := 0) rfl (mIsIn (by omega) (by omega) (by omega)) rfl rfl rfl rfl rfl rfl rfl rfl) ?_
        by_cases hc47 : 1 ≤ fi ∧ fi ≤ 99
        · refine xg_t (xg_ifF (u := (if 1 ≤ fi ∧ fi ≤ 99 then 1 else 0)) rfl xnm0 (xj_eqF (xite1 hc47))) ?_
          refine xg_t (xg_iload (va := (0, ck)) rfl rfl) ?_
          refine xg_t (xg_const) ?_
          refine xg_t (xg_iload (va := (0, fi)) rfl rfl) ?_
          refine xg_t (xg_cSr mX12_isIn (vs := [(0, ck), (0, 0), (0, fi)]) (rest := []) (rs := [(0, if 0 ≤ ck ∧ ck ≤ fi then 1 else 0)]) (cn1 := 0) (sl1 := 0) rfl (mIsIn (by omega) (by omega) (by omega)) rfl rfl rfl rfl rfl rfl rfl rfl) ?_
          by_cases hc48 : 0 ≤ ck ∧ ck ≤ fi
          · refine xg_t (xg_ifT (u := (if 0 ≤ ck ∧ ck ≤ fi then 1 else 0)) rfl xnm0 (xj_neT (xite1 hc48))) ?_
            refine xg_t (xg_blq rfl) ?_
            refine xg_t (xg_sip) ?_
            refine xg_t (xg_const) ?_
            refine xg_t (xg_aload (va := (2, 82)) rfl rfl) ?_
            refine xg_t (xg_getf (va := (2, 83)) h82_31 rfl) ?_
            refine xg_t (xg_sip) ?_
            refine xg_ialdB (n := 901) (B := 4294967295) h83_34 (hb35) xnm0 (by first | decide | omega) (fun u49 hu50 he51 => ?_)
            have hl52 : u49 ≤ 12 := by rw [← he51]; exact hx36.l901
            refine xg_t (xg_imul (u := 4) (v := u49) (z := 4 * u49) xnm0 xnm0 (by omega)) ?_
            refine xg_t (xg_iadd (u := 970) (v := 4 * u49) (z := 970 + (4 * u49)) xnm0 xnm0 (by omega)) ?_
            refine xg_t (xg_istore (l1 := [(0, (2, 82)), (1, (0, sp)), (2, (0, fo)), (3, (0, fi)), (4, (0, ck))]) rfl rfl rfl) ?_
            refine xg_t (xg_aload (va := (2, 82)) rfl rfl) ?_
            refine xg_t (xg_getf (va := (2, 83)) h82_31 rfl) ?_
            refine xg_t (xg_iload (va := (0, 970 + (4 * u49))) rfl rfl) ?_
            refine xg_t (xg_iload (va := (0, sp)) rfl rfl) ?_
            refine xg_iastK (n := 970 + (4 * u49)) (u := sp) h83_34 xnm0 xnm0 rfl (by omega) (fun w53 hr54 hb55 => ?_)
            have hx56 : okA (fun j => if j = 970 + (4 * u49) then sp else g83_33 j) := hx36.upd (by omega) (by omega) (by omega) (fun _ => by omega) (by omega) (fun _ => by omega) (fun _ => by omega) (fun _ => by omega) (fun _ => by omega) (by omega) (fun _ _ => by omega)
            have hb57 : ∀ j, (fun j => if j = 970 + (4 * u49) then sp else g83_33 j) j ≤ 4294967295 := xrb (by omega) (hb35)
            obtain ⟨g58, hg59⟩ : ∃ g : Nat → Nat, g = (fun j => if j = 970 + (4 * u49) then sp else g83_33 j) := ⟨_, rfl⟩
            rw [← hg59] at hr54
            have he60 : g58 (970 + (4 * u49)) = sp := by rw [hg59]; exact if_pos rfl
            have hk61 : ∀ j, j ≠ 970 + (4 * u49) → g58 j = g83_33 j := fun j hj => by rw [hg59]; exact if_neg hj
            rw [← hg59] at hx56
            rw [← hg59] at hb57
            have hk62 : g58 901 = g83_33 901 := hk61 901 (by omega)
            refine xg_t (xg_aload (va := (2, 82)) rfl rfl) ?_
            refine xg_t (xg_getf (va := (2, 83)) (hb55.get (by decide) h82_31) rfl) ?_
            refine xg_t (xg_iload (va := (0, 970 + (4 * u49))) rfl rfl) ?_
            refine xg_t (xg_const) ?_
            refine xg_t (xg_iadd (u := 970 + (4 * u49)) (v := 1) (z := (970 + (4 * u49)) + 1) xnm0 xnm0 (by omega)) ?_
            refine xg_t (xg_iload (va := (0, fo)) rfl rfl) ?_
            refine xg_iastK (n := (970 + (4 * u49)) + 1) (u := fo) hr54 xnm0 xnm0 rfl (by omega) (fun w63 hr64 hb65 => ?_)
            have hx66 : okA (fun j => if j = (970 + (4 * u49)) + 1 then fo else g58 j) := hx56.upd (by omega) (by omega) (by omega) (fun _ => by omega) (by omega) (fun _ => by omega) (fun _ => by omega) (fun _ => by omega) (fun _ => by omega) (by omega) (fun _ _ => by omega)
            have hb67 : ∀ j, (fun j => if j = (970 + (4 * u49)) + 1 then fo else g58 j) j ≤ 4294967295 := xrb (by omega) (hb57)
            obtain ⟨g68, hg69⟩ : ∃ g : Nat → Nat, g = (fun j => if j = (970 + (4 * u49)) + 1 then fo else g58 j) := ⟨_, rfl⟩
            rw [← hg69] at hr64
            have he70 : g68 ((970 + (4 * u49)) + 1) = fo := by rw [hg69]; exact if_pos rfl
            have hk71 : ∀ j, j ≠ (970 + (4 * u49)) + 1 → g68 j = g58 j := fun j hj => by rw [hg69]; exact if_neg hj
            rw [← hg69] at hx66
            rw [← hg69] at hb67
            have hk72 : g68 901 = g58 901 := hk71 901 (by omega)
            refine xg_t (xg_aload (va := (2, 82)) rfl rfl) ?_
            refine xg_t (xg_getf (va := (2, 83)) (hb65.get (by decide) (hb55.get (by decide) h82_31)) rfl) ?_
            refine xg_t (xg_iload (va := (0, 970 + (4 * u49))) rfl rfl) ?_
            refine xg_t (xg_const) ?_
            refine xg_t (xg_iadd (u := 970 + (4 * u49)) (v := 2) (z := (970 + (4 * u49)) + 2) xnm0 xnm0 (by omega)) ?_
            refine xg_t (xg_iload (va := (0, fi)) rfl rfl) ?_
            refine xg_iastK (n := (970 + (4 * u49)) + 2) (u := fi) hr64 xnm0 xnm0 rfl (by omega) (fun w73 hr74 hb75 => ?_)
            have hx76 : okA (fun j => if j = (970 + (4 * u49)) + 2 then fi else g68 j) := hx66.upd (by omega) (by omega) (by omega) (fun _ => by omega) (by omega) (fun _ => by omega) (fun _ => by omega) (fun _ => by omega) (fun _ => by omega) (by omega) (fun _ _ => by omega)
            have hb77 : ∀ j, (fun j => if j = (970 + (4 * u49)) + 2 then fi else g68 j) j ≤ 4294967295 := xrb (by omega) (hb67)
            obtain ⟨g78, hg79⟩ : ∃ g : Nat → Nat, g = (fun j => if j = (970 + (4 * u49)) + 2 then fi else g68 j) := ⟨_, rfl⟩
            rw [← hg79] at hr74
            have he80 : g78 ((970 + (4 * u49)) + 2) = fi := by rw [hg79]; exact if_pos rfl
            have hk81 : ∀ j, j ≠ (970 + (4 * u49)) + 2 → g78 j = g68 j := fun j hj => by rw [hg79]; exact if_neg hj
            rw [← hg79] at hx76
            rw [← hg79] at hb77
            have hk82 : g78 901 = g68 901 := hk81 901 (by omega)
            refine xg_t (xg_aload (va := (2, 82)) rfl rfl) ?_
            refine xg_t (xg_getf (va := (2, 83)) (hb75.get (by decide) (hb65.get (by decide) (hb55.get (by decide) h82_31))) rfl) ?_
            refine xg_t (xg_iload (va := (0, 970 + (4 * u49))) rfl rfl) ?_
            refine xg_t (xg_const) ?_
            refine xg_t (xg_iadd (u := 970 + (4 * u49)) (v := 3) (z := (970 + (4 * u49)) + 3) xnm0 xnm0 (by omega)) ?_
            refine xg_t (xg_iload (va := (0, ck)) rfl rfl) ?_
            refine xg_iastK (n := (970 + (4 * u49)) + 3) (u := ck) hr74 xnm0 xnm0 rfl (by omega) (fun w83 hr84 hb85 => ?_)
            have hx86 : okA (fun j => if j = (970 + (4 * u49)) + 3 then ck else g78 j) := hx76.upd (by omega) (by omega) (by omega) (fun _ => by omega) (by omega) (fun _ => by omega) (fun _ => by omega) (fun _ => by omega) (fun _ => by omega) (by omega) (fun _ _ => by omega)
            have hb87 : ∀ j, (fun j => if j = (970 + (4 * u49)) + 3 then ck else g78 j) j ≤ 4294967295 := xrb (by omega) (hb77)
            obtain ⟨g88, hg89⟩ : ∃ g : Nat → Nat, g = (fun j => if j = (970 + (4 * u49)) + 3 then ck else g78 j) := ⟨_, rfl⟩
            rw [← hg89] at hr84
            have he90 : g88 ((970 + (4 * u49)) + 3) = ck := by rw [hg89]; exact if_pos rfl
            have hk91 : ∀ j, j ≠ (970 + (4 * u49)) + 3 → g88 j = g78 j := fun j hj => by rw [hg89]; exact if_neg hj
            rw [← hg89] at hx86
            rw [← hg89] at hb87
            have hk92 : g88 901 = g78 901 := hk91 901 (by omega)
            refine xg_t (xg_aload (va := (2, 82)) rfl rfl) ?_
            refine xg_t (xg_getf (va := (2, 83)) (hb85.get (by decide) (hb75.get (by decide) (hb65.get (by decide) (hb55.get (by decide) h82_31)))) rfl) ?_
            refine xg_t (xg_sip) ?_
            refine xg_t (xg_dup2 rfl) ?_
            refine xg_ialdB (n := 901) (B := 4294967295) hr84 (hb87) xnm0 (by first | decide | omega) (fun u93 hu94 he95 => ?_)
            have hl96 : u93 ≤ 12 := by rw [← he95]; exact hx86.l901
            refine xg_t (xg_const) ?_
            refine xg_t (xg_iadd (u := u93) (v := 1) (z := u93 + 1) xnm0 xnm0 (by omega)) ?_
            refine xg_iastK (n := 901) (u := u93 + 1) hr84 xnm0 xnm0 rfl (by first | decide | omega) (fun w97 hr98 hb99 => ?_)
            have hx100 : okA (fun j => if j = 901 then u93 + 1 else g88 j) := hx86.upd (by omega) (by omega) (by omega) (fun _ => by omega) (by omega) (fun _ => by omega) (fun _ => by omega) (fun _ => by omega) (fun _ => by omega) (by omega) (fun _ _ => by omega)
            have hb101 : ∀ j, (fun j => if j = 901 then u93 + 1 else g88 j) j ≤ 4294967295 := xrb (by omega) (hb87)
            obtain ⟨g102, hg103⟩ : ∃ g : Nat → Nat, g = (fun j => if j = 901 then u93 + 1 else g88 j) := ⟨_, rfl⟩
            rw [← hg103] at hr98
            have he104 : g102 901 = u93 + 1 := by rw [hg103]; exact if_pos rfl
            have hk105 : ∀ j, j ≠ 901 → g102 j = g88 j := fun j hj => by rw [hg103]; exact if_neg hj
            rw [← hg103] at hx100
            rw [← hg103] at hb101
            refine xg_t (xg_aload (va := (2, 82)) rfl rfl) ?_
            refine xg_t (xg_getf (va := (2, 83)) (hb99.get (by decide) (hb85.get (by decide) (hb75.get (by decide) (hb65.get (by decide) (hb55.get (by decide) h82_31))))) rfl) ?_
            refine xg_t (xg_sip) ?_
            refine xg_ialdB (n := 901) (B := 4294967295) hr98 (hb101) xnm0 (by first | decide | omega) (fun u106 hu107 he108 => ?_)
            have hl109 : u106 ≤ 12 := by rw [← he108]; exact hx100.l901
            refine xg_t (xg_const) ?_
            by_cases hc110 : 1 ≤ u106
            · refine xg_t (xg_isub (u := u106) (v := 1) (z := u106 - 1) xnm0 xnm0 (by omega)) ?_
              have hq111 : rwv w 83 901 = g83_33 901 := rwv_of h83_34 (by decide)
              have hq112 : g83_33 901 ≤ 12 := hx36.l901
              have hq113 : g58 901 = g83_33 901 := hk61 901 (by omega)
              have hq114 : g68 901 = g58 901 := hk71 901 (by omega)
              have hq115 : g78 901 = g68 901 := hk81 901 (by omega)
              have hq116 : g88 901 = g78 901 := hk91 901 (by omega)
              have hq117 : g102 901 = u93 + 1 := he104
              have hq118 : rwv w97 83 901 = g102 901 := rwv_of hr98 (by decide)
              have hq120 : 970 + 4 * rwv w 83 901 = 970 + (4 * u49) := by omega
              have hq119 : rwv w97 83 (970 + 4 * rwv w 83 901) = sp := by
                rw [hq120, rwv_of hr98 (by omega), hk105 _ (by omega), hk91 _ (by omega), hk81 _ (by omega), hk71 _ (by omega), he60]
              have hq122 : 970 + 4 * rwv w 83 901 + 1 = (970 + (4 * u49)) + 1 := by omega
              have hq121 : rwv w97 83 (970 + 4 * rwv w 83 901 + 1) = fo := by
                rw [hq122, rwv_of hr98 (by omega), hk105 _ (by omega), hk91 _ (by omega), hk81 _ (by omega), he70]
              have hq124 : 970 + 4 * rwv w 83 901 + 2 = (970 + (4 * u49)) + 2 := by omega
              have hq123 : rwv w97 83 (970 + 4 * rwv w 83 901 + 2) = fi := by
                rw [hq124, rwv_of hr98 (by omega), hk105 _ (by omega), hk91 _ (by omega), he80]
              have hq126 : 970 + 4 * rwv w 83 901 + 3 = (970 + (4 * u49)) + 3 := by omega
              have hq125 : rwv w97 83 (970 + 4 * rwv w 83 901 + 3) = ck := by
                rw [hq126, rwv_of hr98 (by omega), hk105 _ (by omega), he90]
              exact xg_e ⟨u106 - 1, w97, ⟨rfl, rfl⟩, ⟨by omega, fun _ => ⟨hq119, hq121, hq123, hq125⟩, fun j hj h => (rwv_of hr98 h).trans (Eq.trans (by rw [hk105 j (by omega), hk91 j (by omega), hk81 j (by omega), hk71 j (by omega), hk61 j (by omega)]) (rwv_of h83_34 h).symm)⟩, xMnv.up (S := [83]) hI (((((xFr.of (S := [83]) hb55 (by decide)).tr (xFr.of (S := [83]) hb65 (by decide))).tr (xFr.of (S := [83]) hb75 (by decide))).tr (xFr.of (S := [83]) hb85 (by decide))).tr (xFr.of (S := [83]) hb99 (by decide))) (List.forall_mem_cons.mpr ⟨xqu83 (show cpx83 (wget w97 83) from ⟨_, hr98, hb101, hx100⟩), fun _ h => absurd h List.not_mem_nil⟩), (((((xFr.of (S := [83]) hb55 (by decide)).tr (xFr.of (S := [83]) hb65 (by decide))).tr (xFr.of (S := [83]) hb75 (by decide))).tr (xFr.of (S := [83]) hb85 (by decide))).tr (xFr.of (S := [83]) hb99 (by decide)))⟩
            · have hz129 : 4294967295 ≤ (u106 + (4294967296 - 1)) % 4294967296 := by omega
              refine xg_t (xg_isub (u := u106) (v := 1) (z := (u106 + (4294967296 - 1)) % 4294967296) xnm0 xnm0 rfl) ?_
              have hz128 : (u106 + (4294967296 - 1)) % 4294967296 < 4294967296 := Nat.mod_lt _ (by decide)
              generalize (u106 + (4294967296 - 1)) % 4294967296 = z127 at hz129 hz128 ⊢
              have hq130 : rwv w 83 901 = g83_33 901 := rwv_of h83_34 (by decide)
              have hq131 : g83_33 901 ≤ 12 := hx36.l901
              have hq132 : g58 901 = g83_33 901 := hk61 901 (by omega)
              have hq133 : g68 901 = g58 901 := hk71 901 (by omega)
              have hq134 : g78 901 = g68 901 := hk81 901 (by omega)
              have hq135 : g88 901 = g78 901 := hk91 901 (by omega)
              have hq136 : g102 901 = u93 + 1 := he104
              have hq137 : rwv w97 83 901 = g102 901 := rwv_of hr98 (by decide)
              have hq139 : 970 + 4 * rwv w 83 901 = 970 + (4 * u49) := by omega
              have hq138 : rwv w97 83 (970 + 4 * rwv w 83 901) = sp := by
                rw [hq139, rwv_of hr98 (by omega), hk105 _ (by omega), hk91 _ (by omega), hk81 _ (by omega), hk71 _ (by omega), he60]
              have hq141 : 970 + 4 * rwv w 83 901 + 1 = (970 + (4 * u49)) + 1 := by omega
              have hq140 : rwv w97 83 (970 + 4 * rwv w 83 901 + 1) = fo := by
                rw [hq141, rwv_of hr98 (by omega), hk105 _ (by omega), hk91 _ (by omega), hk81 _ (by omega), he70]
              have hq143 : 970 + 4 * rwv w 83 901 + 2 = (970 + (4 * u49)) + 2 := by omega
              have hq142 : rwv w97 83 (970 + 4 * rwv w 83 901 + 2) = fi := by
                rw [hq143, rwv_of hr98 (by omega), hk105 _ (by omega), hk91 _ (by omega), he80]
              have hq145 : 970 + 4 * rwv w 83 901 + 3 = (970 + (4 * u49)) + 3 := by omega
              have hq144 : rwv w97 83 (970 + 4 * rwv w 83 901 + 3) = ck := by
                rw [hq145, rwv_of hr98 (by omega), hk105 _ (by omega), he90]
              exact xg_e ⟨z127, w97, ⟨rfl, rfl⟩, ⟨by omega, fun _ => ⟨hq138, hq140, hq142, hq144⟩, fun j hj h => (rwv_of hr98 h).trans (Eq.trans (by rw [hk105 j (by omega), hk91 j (by omega), hk81 j (by omega), hk71 j (by omega), hk61 j (by omega)]) (rwv_of h83_34 h).symm)⟩, xMnv.up (S := [83]) hI (((((xFr.of (S := [83]) hb55 (by decide)).tr (xFr.of (S := [83]) hb65 (by decide))).tr (xFr.of (S := [83]) hb75 (by decide))).tr (xFr.of (S := [83]) hb85 (by decide))).tr (xFr.of (S := [83]) hb99 (by decide))) (List.forall_mem_cons.mpr ⟨xqu83 (show cpx83 (wget w97 83) from ⟨_, hr98, hb101, hx100⟩), fun _ h => absurd h List.not_mem_nil⟩), (((((xFr.of (S := [83]) hb55 (by decide)).tr (xFr.of (S := [83]) hb65 (by decide))).tr (xFr.of (S := [83]) hb75 (by decide))).tr (xFr.of (S := [83]) hb85 (by decide))).tr (xFr.of (S := [83]) hb99 (by decide)))⟩
          · refine xg_t (xg_ifF (u := (if 0 ≤ ck ∧ ck ≤ fi then 1 else 0)) rfl xnm0 (xj_neF (xite0 hc48))) ?_
            refine xg_t (xg_blq rfl) ?_
            refine xg_t (xg_const) ?_
            have hq146 : rwv w 83 901 = g83_33 901 := rwv_of h83_34 (by decide)
            have hq147 : g83_33 901 ≤ 12 := hx36.l901
            have hq148 : rwv w 83 901 = g83_33 901 := rwv_of h83_34 (by decide)
            exact xg_e ⟨4294967295, w, ⟨rfl, rfl⟩, ⟨by omega, fun h => absurd h (by omega), fun j _ h => (rwv_of h83_34 h).trans (rwv_of h83_34 h).symm⟩, hI, xFr.rf⟩
        · refine xg_t (xg_ifT (u := (if 1 ≤ fi ∧ fi ≤ 99 then 1 else 0)) rfl xnm0 (xj_eqT (xite0 hc47))) ?_
          refine xg_t (xg_blq rfl) ?_
          refine xg_t (xg_const) ?_
          have hq149 : rwv w 83 901 = g83_33 901 := rwv_of h83_34 (by decide)
          have hq150 : g83_33 901 ≤ 12 := hx36.l901
          have hq151 : rwv w 83 901 = g83_33 901 := rwv_of h83_34 (by decide)
          exact xg_e ⟨4294967295, w, ⟨rfl, rfl⟩, ⟨by omega, fun h => absurd h (by omega), fun j _ h => (rwv_of h83_34 h).trans (rwv_of h83_34 h).symm⟩, hI, xFr.rf⟩
      · refine xg_t (xg_ifT (u := (if 1 ≤ fo ∧ fo ≤ 999999 then 1 else 0)) rfl xnm0 (xj_eqT (xite0 hc46))) ?_
        refine xg_t (xg_blq rfl) ?_
        refine xg_t (xg_const) ?_
        have hq152 : rwv w 83 901 = g83_33 901 := rwv_of h83_34 (by decide)
        have hq153 : g83_33 901 ≤ 12 := hx36.l901
        have hq154 : rwv w 83 901 = g83_33 901 := rwv_of h83_34 (by decide)
        exact xg_e ⟨4294967295, w, ⟨rfl, rfl⟩, ⟨by omega, fun h => absurd h (by omega), fun j _ h => (rwv_of h83_34 h).trans (rwv_of h83_34 h).symm⟩, hI, xFr.rf⟩
    · refine xg_t (xg_ifT (u := (if 1 ≤ sp ∧ sp ≤ 9 then 1 else 0)) rfl xnm0 (xj_eqT (xite0 hc45))) ?_
      refine xg_t (xg_blq rfl) ?_
      refine xg_t (xg_const) ?_
      have hq155 : rwv w 83 901 = g83_33 901 := rwv_of h83_34 (by decide)
      have hq156 : g83_33 901 ≤ 12 := hx36.l901
      have hq157 : rwv w 83 901 = g83_33 901 := rwv_of h83_34 (by decide)
      exact xg_e ⟨4294967295, w, ⟨rfl, rfl⟩, ⟨by omega, fun h => absurd h (by omega), fun j _ h => (rwv_of h83_34 h).trans (rwv_of h83_34 h).symm⟩, hI, xFr.rf⟩
theorem mWetK {dy : Nat} (hI : xMnv w) (hdy : dy ≤ 4294967295) : xPi (d + 1) mX12_wet [(2, 82), (0, dy)] w bd fc rr (fun n w' => (((dy ≤ 200 ∧ n = 1 ∧ rwv w' 83 13 = dy) ∨ (¬ dy ≤ 200 ∧ n = 0 ∧ rwv w' 83 13 = rwv w 83 13)) ∧ (∀ j, (j ≠ 13) → j < 5360 → rwv w' 83 j = rwv w 83 j)) ∧ xMnv w' ∧ xFr [83] w w') := by
  refine xPi.of ?_
  show xTo (d + 1) mX12_wet (0, [], [(0, (2, 82)), (1, (0, dy))], [], (w, bd, fc, 0, 0, rr)) (fun φ => ∃ n w', xEnd 4 [(0, n)] (w', bd, fc, 0, 0, rr) φ ∧ (((dy ≤ 200 ∧ n = 1 ∧ rwv w' 83 13 = dy) ∨ (¬ dy ≤ 200 ∧ n = 0 ∧ rwv w' 83 13 = rwv w 83 13)) ∧ (∀ j, (j ≠ 13) → j < 5360 → rwv w' 83 j = rwv w 83 j)) ∧ xMnv w' ∧ xFr [83] w w')
  refine xoCh82 (xqc82 hI : cp82 (wget w 82)) (fun f82_1 f82_3 f82_5 f82_7 f82_9 f82_11 f82_13 f82_15 f82_17 f82_19 f82_21 f82_22 f82_23 f82_25 f82_27 f82_29 h82_31 hb2 hb4 hb6 hb8 hb10 hb12 hb14 hb16 hb18 hb20 hb24 hb26 hb28 hb30 hb32 => ?_)
  refine xoX83 (xqc83 hI : cpx83 (wget w 83)) (fun g83_33 h83_34 hb35 hx36 => ?_)
  refine xg_t (xg_blq rfl) ?_
  refine xg_t (xg_iload (va := (0, dy)) rfl rfl) ?_
  refine xg_t (xg_const) ?_
  refine xg_t (xg_sip) ?_
  refine xg_t (xg_cSr mX12_isIn (vs := [(0, dy), (0, 0), (0, 200)]) (rest := []) (rs := [(0, if 0 ≤ dy ∧ dy ≤ 200 then 1 else 0)]) (cn1 := 0) (sl1 := 0) rfl (mIsIn (by omega) (by omega) (by omega)) rfl rfl rfl rfl rfl rfl rfl rfl) ?_
  by_cases hc37 : 0 ≤ dy ∧ dy ≤ 200
  · refine xg_t (xg_ifT (u := (if 0 ≤ dy ∧ dy ≤ 200 then 1 else 0)) rfl xnm0 (xj_neT (xite1 hc37))) ?_
    refine xg_t (xg_blq rfl) ?_
    refine xg_t (xg_aload (va := (2, 82)) rfl rfl) ?_
    refine xg_t (xg_getf (va := (2, 83)) h82_31 rfl) ?_
    refine xg_t (xg_bip) ?_
    refine xg_t (xg_iload (va := (0, dy)) rfl rfl) ?_
    refine xg_iastK (n := 13) (u := dy) h83_34 xnm0 xnm0 rfl (by first | decide | omega) (fun w38 hr39 hb40 => ?_)
    have hx41 : okA (fun j => if j = 13 then dy else g83_33 j) := hx36.upd (by omega) (by omega) (by omega) (fun _ => by omega) (by omega) (fun _ => by omega) (fun _ => by omega) (fun _ => by omega) (fun _ => by omega) (by omega) (fun _ _ => by omega)
    have hb42 : ∀ j, (fun j => if j = 13 then dy else g83_33 j) j ≤ 4294967295 := xrb (by omega) (hb35)
    obtain ⟨g43, hg44⟩ : ∃ g : Nat → Nat, g = (fun j => if j = 13 then dy else g83_33 j) := ⟨_, rfl⟩
    rw [← hg44] at hr39
    have he45 : g43 13 = dy := by rw [hg44]; exact if_pos rfl
    have hk46 : ∀ j, j ≠ 13 → g43 j = g83_33 j := fun j hj => by rw [hg44]; exact if_neg hj
    rw [← hg44] at hx41
    rw [← hg44] at hb42
    refine xg_t (xg_const) ?_
    have hq47 : rwv w 83 13 = g83_33 13 := rwv_of h83_34 (by decide)
    have hq48 : g83_33 13 ≤ 200 := hx36.l13
    have hq49 : g43 13 = dy := he45
    have hq50 : rwv w38 83 13 = g43 13 := rwv_of hr39 (by decide)
    exact xg_e ⟨1, w38, ⟨rfl, rfl⟩, ⟨by omega, fun j hj h => (rwv_of hr39 h).trans (Eq.trans (by rw [hk46 j (by omega)]) (rwv_of h83_34 h).symm)⟩, xMnv.up (S := [83]) hI (xFr.of (S := [83]) hb40 (by decide)) (List.forall_mem_cons.mpr ⟨xqu83 (show cpx83 (wget w38 83) from ⟨_, hr39, hb42, hx41⟩), fun _ h => absurd h List.not_mem_nil⟩), (xFr.of (S := [83]) hb40 (by decide))⟩
  · refine xg_t (xg_ifF (u := (if 0 ≤ dy ∧ dy ≤ 200 then 1 else 0)) rfl xnm0 (xj_neF (xite0 hc37))) ?_
    refine xg_t (xg_const) ?_
    have hq51 : rwv w 83 13 = g83_33 13 := rwv_of h83_34 (by decide)
    have hq52 : g83_33 13 ≤ 200 := hx36.l13
    have hq53 : rwv w 83 13 = g83_33 13 := rwv_of h83_34 (by decide)
    exact xg_e ⟨0, w, ⟨rfl, rfl⟩, ⟨by omega, fun j _ h => (rwv_of h83_34 h).trans (rwv_of h83_34 h).symm⟩, hI, xFr.rf⟩
theorem mCostK {ck co : Nat} (hI : xMnv w) (hck : ck ≤ 4294967295) (hco : co ≤ 4294967295) : xPi (d + 2) mX12_cost [(2, 82), (0, ck), (0, co)] w bd fc rr (fun n w' => (n ≤ 1 ∧ (∀ j, ((j < 910 ∨ 950 ≤ j)) → j < 5360 → rwv w' 83 j = rwv w 83 j)) ∧ xMnv w' ∧ xFr [83] w w') := by
  refine xPi.of ?_
  show xTo (d + 2) mX12_cost (0, [], [(0, (2, 82)), (1, (0, ck)), (2, (0, co))], [], (w, bd, fc, 0, 0, rr)) (fun φ => ∃ n w', xEnd 4 [(0, n)] (w', bd, fc, 0, 0, rr) φ ∧ (n ≤ 1 ∧ (∀ j, ((j < 910 ∨ 950 ≤ j)) → j < 5360 → rwv w' 83 j = rwv w 83 j)) ∧ xMnv w' ∧ xFr [83] w w')
  refine xoCh82 (xqc82 hI : cp82 (wget w 82)) (fun f82_1 f82_3 f82_5 f82_7 f82_9 f82_11 f82_13 f82_15 f82_17 f82_19 f82_21 f82_22 f82_23 f82_25 f82_27 f82_29 h82_31 hb2 hb4 hb6 hb8 hb10 hb12 hb14 hb16 hb18 hb20 hb24 hb26 hb28 hb30 hb32 => ?_)
  refine xoX83 (xqc83 hI : cpx83 (wget w 83)) (fun g83_33 h83_34 hb35 hx36 => ?_)
  refine xg_t (xg_blq rfl) ?_
  refine xg_t (xg_aload (va := (2, 82)) rfl rfl) ?_
  refine xg_t (xg_iload (va := (0, ck)) rfl rfl) ?_
  refine xg_t (xg_bip) ?_
  have hl37 := hx36.l9
  refine xg_cVi mX12_isOf (vs := [(0, ck), (0, 9)]) (rest := []) (cn1 := 0) (sl1 := 0) rfl (mOf9 (hI) (by omega) h83_34 hb35 hx36) rfl h82_31 rfl rfl rfl rfl rfl rfl (fun n42 w38 hq39 => ?_)
  obtain ⟨hn43, hI40, hF41⟩ := hq39
  by_cases hc44 : n42 = 0
  · refine xg_t (xg_ifT (u := n42) rfl xnm0 (xj_eqT hc44)) ?_
    refine xg_t (xg_blq rfl) ?_
    refine xg_t (xg_const) ?_
    exact xg_e ⟨0, w38, ⟨rfl, rfl⟩, ⟨by omega, fun j _ h => (rwv_of (h83_34.fr hF41 (by decide)) h).trans (rwv_of h83_34 h).symm⟩, hI40, (hF41.up (by decide))⟩
  · refine xg_t (xg_ifF (u := n42) rfl xnm0 (xj_eqF hc44)) ?_
    refine xg_t (xg_iload (va := (0, co)) rfl rfl) ?_
    refine xg_t (xg_const) ?_
    refine xg_t (xg_bip) ?_
    refine xg_t (xg_cSr mX12_isIn (vs := [(0, co), (0, 1), (0, 99)]) (rest := []) (rs := [(0, if 1 ≤ co ∧ co ≤ 99 then 1 else 0)]) (cn1 := 0) (sl1 := 0) rfl (mIsIn (by omega) (by omega) (by omega)) rfl rfl rfl rfl rfl rfl rfl rfl) ?_
    by_cases hc45 : 1 ≤ co ∧ co ≤ 99
    · refine xg_t (xg_ifT (u := (if 1 ≤ co ∧ co ≤ 99 then 1 else 0)) rfl xnm0 (xj_neT (xite1 hc45))) ?_
      refine xg_t (xg_blq rfl) ?_
      refine xg_t (xg_aload (va := (2, 82)) rfl rfl) ?_
      refine xg_t (xg_getf (va := (2, 83)) (hF41.get (by decide) h82_31) rfl) ?_
      refine xg_t (xg_sip) ?_
      refine xg_t (xg_iload (va := (0, ck)) rfl rfl) ?_
      refine xg_t (xg_iadd (u := 910) (v := ck) (z := 910 + ck) xnm0 xnm0 (by omega)) ?_
      refine xg_t (xg_iload (va := (0, co)) rfl rfl) ?_
      refine xg_iastK (n := 910 + ck) (u := co) (h83_34.fr hF41 (by decide)) xnm0 xnm0 rfl (by omega) (fun w46 hr47 hb48 => ?_)
      have hx49 : okA (fun j => if j = 910 + ck then co else g83_33 j) := hx36.upd (by omega) (by omega) (by omega) (fun _ => by omega) (by omega) (fun _ => by omega) (fun _ => by omega) (fun _ => by omega) (fun _ => by omega) (by omega) (fun _ _ => by omega)
      have hb50 : ∀ j, (fun j => if j = 910 + ck then co else g83_33 j) j ≤ 4294967295 := xrb (by omega) (hb35)
      obtain ⟨g51, hg52⟩ : ∃ g : Nat → Nat, g = (fun j => if j = 910 + ck then co else g83_33 j) := ⟨_, rfl⟩
      rw [← hg52] at hr47
      have he53 : g51 (910 + ck) = co := by rw [hg52]; exact if_pos rfl
      have hk54 : ∀ j, j ≠ 910 + ck → g51 j = g83_33 j := fun j hj => by rw [hg52]; exact if_neg hj
      rw [← hg52] at hx49
      rw [← hg52] at hb50
      refine xg_t (xg_const) ?_
      exact xg_e ⟨1, w46, ⟨rfl, rfl⟩, ⟨by omega, fun j hj h => (rwv_of hr47 h).trans (Eq.trans (by rw [hk54 j (by omega)]) (rwv_of h83_34 h).symm)⟩, xMnv.up (S := [83]) hI40 (xFr.of (S := [83]) hb48 (by decide)) (List.forall_mem_cons.mpr ⟨xqu83 (show cpx83 (wget w46 83) from ⟨_, hr47, hb50, hx49⟩), fun _ h => absurd h List.not_mem_nil⟩), ((hF41.up (by decide)).tr (xFr.of (S := [83]) hb48 (by decide)))⟩
    · refine xg_t (xg_ifF (u := (if 1 ≤ co ∧ co ≤ 99 then 1 else 0)) rfl xnm0 (xj_neF (xite0 hc45))) ?_
      refine xg_t (xg_blq rfl) ?_
      refine xg_t (xg_const) ?_
      exact xg_e ⟨0, w38, ⟨rfl, rfl⟩, ⟨by omega, fun j _ h => (rwv_of (h83_34.fr hF41 (by decide)) h).trans (rwv_of h83_34 h).symm⟩, hI40, (hF41.up (by decide))⟩
theorem mCrackK {la ra ca : Nat} (hI : xMnv w) (hla : la ≤ 1) (hra : ra ≤ 4294967295) (hca : ca ≤ 4294967295) : xPi (d + 2) mX12_crack [(2, 82), (0, la), (0, ra), (0, ca)] w bd fc rr (fun n w' => (n ≤ 1 ∧ (∀ j, (j ≠ 9 ∧ (j < 140 ∨ 300 ≤ j) ∧ (j < 910 ∨ 950 ≤ j)) → j < 5360 → rwv w' 83 j = rwv w 83 j)) ∧ xMnv w' ∧ xFr [83] w w') := by
  refine xPi.of ?_
  show xTo (d + 2) mX12_crack (0, [], [(0, (2, 82)), (1, (0, la)), (2, (0, ra)), (3, (0, ca))], [], (w, bd, fc, 0, 0, rr)) (fun φ => ∃ n w', xEnd 4 [(0, n)] (w', bd, fc, 0, 0, rr) φ ∧ (n ≤ 1 ∧ (∀ j, (j ≠ 9 ∧ (j < 140 ∨ 300 ≤ j) ∧ (j < 910 ∨ 950 ≤ j)) → j < 5360 → rwv w' 83 j = rwv w 83 j)) ∧ xMnv w' ∧ xFr [83] w w')
  refine xoCh82 (xqc82 hI : cp82 (wget w 82)) (fun f82_1 f82_3 f82_5 f82_7 f82_9 f82_11 f82_13 f82_15 f82_17 f82_19 f82_21 f82_22 f82_23 f82_25 f82_27 f82_29 h82_31 hb2 hb4 hb6 hb8 hb10 hb12 hb14 hb16 hb18 hb20 hb24 hb26 hb28 hb30 hb32 => ?_)
  refine xoX83 (xqc83 hI : cpx83 (wget w 83)) (fun g83_33 h83_34 hb35 hx36 => ?_)
  refine xg_t (xg_blq rfl) ?_
  refine xg_t (xg_aload (va := (2, 82)) rfl rfl) ?_
  refine xg_t (xg_getf (va := (2, 83)) h82_31 rfl) ?_
  refine xg_t (xg_bip) ?_
  refine xg_ialdB (n := 9) (B := 4294967295) h83_34 (hb35) xnm0 (by first | decide | omega) (fun u37 hu38 he39 => ?_)
  have hl40 : u37 ≤ 40 := by rw [← he39]; exact hx36.l9
  refine xg_t (xg_bip) ?_
  by_cases hc41 : u37 = 40
  · refine xg_t (xg_icT (u := u37) (v := 40) rfl xnm0 xnm0 (xj_eqT hc41)) ?_
    refine xg_t (xg_blq rfl) ?_
    refine xg_t (xg_const) ?_
    exact xg_e ⟨0, w, ⟨rfl, rfl⟩, ⟨by omega, fun j _ h => (rwv_of h83_34 h).trans (rwv_of h83_34 h).symm⟩, hI, xFr.rf⟩
  · refine xg_t (xg_icF (u := u37) (v := 40) rfl xnm0 xnm0 (xj_eqF hc41)) ?_
    refine xg_t (xg_aload (va := (2, 82)) rfl rfl) ?_
    refine xg_t (xg_iload (va := (0, la)) rfl rfl) ?_
    refine xg_t (xg_iload (va := (0, ra)) rfl rfl) ?_
    refine xg_t (xg_iload (va := (0, ca)) rfl rfl) ?_
    refine xg_cVi mX12_isThere (vs := [(0, la), (0, ra), (0, ca)]) (rest := []) (cn1 := 0) (sl1 := 0) rfl (mThere (hI) (by omega) (by omega) (by omega) h83_34 hb35 hx36) rfl h82_31 rfl rfl rfl rfl rfl rfl (fun n46 w42 hq43 => ?_)
    obtain ⟨hn47, hI44, hF45⟩ := hq43
    by_cases hc48 : n46 = 0
    · refine xg_t (xg_ifT (u := n46) rfl xnm0 (xj_eqT hc48)) ?_
      refine xg_t (xg_blq rfl) ?_
      refine xg_t (xg_const) ?_
      exact xg_e ⟨0, w42, ⟨rfl, rfl⟩, ⟨by omega, fun j _ h => (rwv_of (h83_34.fr hF45 (by decide)) h).trans (rwv_of h83_34 h).symm⟩, hI44, (hF45.up (by decide))⟩
    · refine xg_t (xg_ifF (u := n46) rfl xnm0 (xj_eqF hc48)) ?_
      refine xg_t (xg_aload (va := (2, 82)) rfl rfl) ?_
      refine xg_t (xg_iload (va := (0, la)) rfl rfl) ?_
      refine xg_t (xg_iload (va := (0, ra)) rfl rfl) ?_
      refine xg_t (xg_iload (va := (0, ca)) rfl rfl) ?_
      refine xg_t (xg_const) ?_
      refine xg_cVi mX12_isCracked (vs := [(0, la), (0, ra), (0, ca), (0, 4294967295)]) (rest := []) (cn1 := 0) (sl1 := 0) rfl (mCracked (hI44) (by omega) (by omega) (by omega) (by omega)) rfl (hF45.get (by decide) h82_31) rfl rfl rfl rfl rfl rfl (fun n53 w49 hq50 => ?_)
      obtain ⟨hn54, hI51, hF52⟩ := hq50
      by_cases hc55 : n53 = 0
      · refine xg_t (xg_ifT (u := n53) rfl xnm0 (xj_eqT hc55)) ?_
        refine xg_t (xg_blq rfl) ?_
        refine xg_t (xg_sip) ?_
        refine xg_t (xg_const) ?_
        refine xg_t (xg_aload (va := (2, 82)) rfl rfl) ?_
        refine xg_t (xg_getf (va := (2, 83)) (hF52.get (by decide) (hF45.get (by decide) h82_31)) rfl) ?_
        refine xg_t (xg_bip) ?_
        refine xg_ialdB (n := 9) (B := 4294967295) ((h83_34.fr hF45 (by decide)).fr hF52 (by decide)) (hb35) xnm0 (by first | decide | omega) (fun u56 hu57 he58 => ?_)
        have hl59 : u56 ≤ 40 := by rw [← he58]; exact hx36.l9
        refine xg_t (xg_imul (u := 4) (v := u56) (z := 4 * u56) xnm0 xnm0 (by omega)) ?_
        refine xg_t (xg_iadd (u := 140) (v := 4 * u56) (z := 140 + (4 * u56)) xnm0 xnm0 (by omega)) ?_
        refine xg_t (xg_istore (l1 := [(0, (2, 82)), (1, (0, la)), (2, (0, ra)), (3, (0, ca))]) rfl rfl rfl) ?_
        refine xg_t (xg_aload (va := (2, 82)) rfl rfl) ?_
        refine xg_t (xg_getf (va := (2, 83)) (hF52.get (by decide) (hF45.get (by decide) h82_31)) rfl) ?_
        refine xg_t (xg_iload (va := (0, 140 + (4 * u56))) rfl rfl) ?_
        refine xg_t (xg_iload (va := (0, la)) rfl rfl) ?_
        by_cases hc60 : la = 0
        · refine xg_t (xg_ifT (u := la) rfl xnm0 (xj_eqT hc60)) ?_
          refine xg_t (xg_blq rfl) ?_
          refine xg_t (xg_const) ?_
          refine xg_t (xg_blq rfl) ?_
          refine xg_iastK (n := 140 + (4 * u56)) (u := 0) ((h83_34.fr hF45 (by decide)).fr hF52 (by decide)) xnm0 xnm0 rfl (by omega) (fun w61 hr62 hb63 => ?_)
          have hx64 : okA (fun j => if j = 140 + (4 * u56) then 0 else g83_33 j) := hx36.upd (by omega) (by omega) (by omega) (fun _ => by omega) (by omega) (fun _ => by omega) (fun _ => by omega) (fun _ => by omega) (fun _ => by omega) (by omega) (fun _ _ => by omega)
          have hb65 : ∀ j, (fun j => if j = 140 + (4 * u56) then 0 else g83_33 j) j ≤ 4294967295 := xrb (by omega) (hb35)
          obtain ⟨g66, hg67⟩ : ∃ g : Nat → Nat, g = (fun j => if j = 140 + (4 * u56) then 0 else g83_33 j) := ⟨_, rfl⟩
          rw [← hg67] at hr62
          have he68 : g66 (140 + (4 * u56)) = 0 := by rw [hg67]; exact if_pos rfl
          have hk69 : ∀ j, j ≠ 140 + (4 * u56) → g66 j = g83_33 j := fun j hj => by rw [hg67]; exact if_neg hj
          rw [← hg67] at hx64
          rw [← hg67] at hb65
          have hk70 : g66 9 = g83_33 9 := hk69 9 (by omega)
          refine xg_t (xg_aload (va := (2, 82)) rfl rfl) ?_
          refine xg_t (xg_getf (va := (2, 83)) (hb63.get (by decide) (hF52.get (by decide) (hF45.get (by decide) h82_31))) rfl) ?_
          refine xg_t (xg_iload (va := (0, 140 + (4 * u56))) rfl rfl) ?_
          refine xg_t (xg_const) ?_
          refine xg_t (xg_iadd (u := 140 + (4 * u56)) (v := 1) (z := (140 + (4 * u56)) + 1) xnm0 xnm0 (by omega)) ?_
          refine xg_t (xg_iload (va := (0, ra)) rfl rfl) ?_
          refine xg_iastK (n := (140 + (4 * u56)) + 1) (u := ra) hr62 xnm0 xnm0 rfl (by omega) (fun w71 hr72 hb73 => ?_)
          have hx74 : okA (fun j => if j = (140 + (4 * u56)) + 1 then ra else g66 j) := hx64.upd (by omega) (by omega) (by omega) (fun _ => by omega) (by omega) (fun _ => by omega) (fun _ => by omega) (fun _ => by omega) (fun _ => by omega) (by omega) (fun _ _ => by omega)
          have hb75 : ∀ j, (fun j => if j = (140 + (4 * u56)) + 1 then ra else g66 j) j ≤ 4294967295 := xrb (by omega) (hb65)
          obtain ⟨g76, hg77⟩ : ∃ g : Nat → Nat, g = (fun j => if j = (140 + (4 * u56)) + 1 then ra else g66 j) := ⟨_, rfl⟩
          rw [← hg77] at hr72
          have he78 : g76 ((140 + (4 * u56)) + 1) = ra := by rw [hg77]; exact if_pos rfl
          have hk79 : ∀ j, j ≠ (140 + (4 * u56)) + 1 → g76 j = g66 j := fun j hj => by rw [hg77]; exact if_neg hj
          rw [← hg77] at hx74
          rw [← hg77] at hb75
          have hk80 : g76 9 = g66 9 := hk79 9 (by omega)
          refine xg_t (xg_aload (va := (2, 82)) rfl rfl) ?_
          refine xg_t (xg_getf (va := (2, 83)) (hb73.get (by decide) (hb63.get (by decide) (hF52.get (by decide) (hF45.get (by decide) h82_31)))) rfl) ?_
          refine xg_t (xg_iload (va := (0, 140 + (4 * u56))) rfl rfl) ?_
          refine xg_t (xg_const) ?_
          refine xg_t (xg_iadd (u := 140 + (4 * u56)) (v := 2) (z := (140 + (4 * u56)) + 2) xnm0 xnm0 (by omega)) ?_
          refine xg_t (xg_iload (va := (0, ca)) rfl rfl) ?_
          refine xg_iastK (n := (140 + (4 * u56)) + 2) (u := ca) hr72 xnm0 xnm0 rfl (by omega) (fun w81 hr82 hb83 => ?_)
          have hx84 : okA (fun j => if j = (140 + (4 * u56)) + 2 then ca else g76 j) := hx74.upd (by omega) (by omega) (by omega) (fun _ => by omega) (by omega) (fun _ => by omega) (fun _ => by omega) (fun _ => by omega) (fun _ => by omega) (by omega) (fun _ _ => by omega)
          have hb85 : ∀ j, (fun j => if j = (140 + (4 * u56)) + 2 then ca else g76 j) j ≤ 4294967295 := xrb (by omega) (hb75)
          obtain ⟨g86, hg87⟩ : ∃ g : Nat → Nat, g = (fun j => if j = (140 + (4 * u56)) + 2 then ca else g76 j) := ⟨_, rfl⟩
          rw [← hg87] at hr82
          have he88 : g86 ((140 + (4 * u56)) + 2) = ca := by rw [hg87]; exact if_pos rfl
          have hk89 : ∀ j, j ≠ (140 + (4 * u56)) + 2 → g86 j = g76 j := fun j hj => by rw [hg87]; exact if_neg hj
          rw [← hg87] at hx84
          rw [← hg87] at hb85
          have hk90 : g86 9 = g76 9 := hk89 9 (by omega)
          refine xg_t (xg_aload (va := (2, 82)) rfl rfl) ?_
          refine xg_t (xg_getf (va := (2, 83)) (hb83.get (by decide) (hb73.get (by decide) (hb63.get (by decide) (hF52.get (by decide) (hF45.get (by decide) h82_31))))) rfl) ?_
          refine xg_t (xg_iload (va := (0, 140 + (4 * u56))) rfl rfl) ?_
          refine xg_t (xg_const) ?_
          refine xg_t (xg_iadd (u := 140 + (4 * u56)) (v := 3) (z := (140 + (4 * u56)) + 3) xnm0 xnm0 (by omega)) ?_
          refine xg_t (xg_aload (va := (2, 82)) rfl rfl) ?_
          refine xg_t (xg_getf (va := (2, 83)) (hb83.get (by decide) (hb73.get (by decide) (hb63.get (by decide) (hF52.get (by decide) (hF45.get (by decide) h82_31))))) rfl) ?_
          refine xg_t (xg_bip) ?_
          refine xg_ialdB (n := 11) (B := 4294967295) hr82 (hb85) xnm0 (by first | decide | omega) (fun u91 hu92 he93 => ?_)
          refine xg_iastK (n := (140 + (4 * u56)) + 3) (u := u91) hr82 xnm0 xnm0 rfl (by omega) (fun w94 hr95 hb96 => ?_)
          have hx97 : okA (fun j => if j = (140 + (4 * u56)) + 3 then u91 else g86 j) := hx84.upd (by omega) (by omega) (by omega) (fun _ => by omega) (by omega) (fun _ => by omega) (fun _ => by omega) (fun _ => by omega) (fun _ => by omega) (by omega) (fun _ _ => by omega)
          have hb98 : ∀ j, (fun j => if j = (140 + (4 * u56)) + 3 then u91 else g86 j) j ≤ 4294967295 := xrb (by omega) (hb85)
          obtain ⟨g99, hg100⟩ : ∃ g : Nat → Nat, g = (fun j => if j = (140 + (4 * u56)) + 3 then u91 else g86 j) := ⟨_, rfl⟩
          rw [← hg100] at hr95
          have he101 : g99 ((140 + (4 * u56)) + 3) = u91 := by rw [hg100]; exact if_pos rfl
          have hk102 : ∀ j, j ≠ (140 + (4 * u56)) + 3 → g99 j = g86 j := fun j hj => by rw [hg100]; exact if_neg hj
          rw [← hg100] at hx97
          rw [← hg100] at hb98
          have hk103 : g99 9 = g86 9 := hk102 9 (by omega)
          refine xg_t (xg_aload (va := (2, 82)) rfl rfl) ?_
          refine xg_t (xg_getf (va := (2, 83)) (hb96.get (by decide) (hb83.get (by decide) (hb73.get (by decide) (hb63.get (by decide) (hF52.get (by decide) (hF45.get (by decide) h82_31)))))) rfl) ?_
          refine xg_t (xg_sip) ?_
          refine xg_t (xg_aload (va := (2, 82)) rfl rfl) ?_
          refine xg_t (xg_getf (va := (2, 83)) (hb96.get (by decide) (hb83.get (by decide) (hb73.get (by decide) (hb63.get (by decide) (hF52.get (by decide) (hF45.get (by decide) h82_31)))))) rfl) ?_
          refine xg_t (xg_bip) ?_
          refine xg_ialdB (n := 9) (B := 4294967295) hr95 (hb98) xnm0 (by first | decide | omega) (fun u104 hu105 he106 => ?_)
          have hl107 : u104 ≤ 40 := by rw [← he106]; exact hx97.l9
          refine xg_t (xg_iadd (u := 910) (v := u104) (z := 910 + u104) xnm0 xnm0 (by omega)) ?_
          refine xg_t (xg_const) ?_
          refine xg_iastK (n := 910 + u104) (u := 1) hr95 xnm0 xnm0 rfl (by omega) (fun w108 hr109 hb110 => ?_)
          have hx111 : okA (fun j => if j = 910 + u104 then 1 else g99 j) := hx97.upd (by omega) (by omega) (by omega) (fun _ => by omega) (by omega) (fun _ => by omega) (fun _ => by omega) (fun _ => by omega) (fun _ => by omega) (by omega) (fun _ _ => by omega)
          have hb112 : ∀ j, (fun j => if j = 910 + u104 then 1 else g99 j) j ≤ 4294967295 := xrb (by omega) (hb98)
          obtain ⟨g113, hg114⟩ : ∃ g : Nat → Nat, g = (fun j => if j = 910 + u104 then 1 else g99 j) := ⟨_, rfl⟩
          rw [← hg114] at hr109
          have he115 : g113 (910 + u104) = 1 := by rw [hg114]; exact if_pos rfl
          have hk116 : ∀ j, j ≠ 910 + u104 → g113 j = g99 j := fun j hj => by rw [hg114]; exact if_neg hj
          rw [← hg114] at hx111
          rw [← hg114] at hb112
          have hk117 : g113 9 = g99 9 := hk116 9 (by omega)
          refine xg_t (xg_aload (va := (2, 82)) rfl rfl) ?_
          refine xg_t (xg_getf (va := (2, 83)) (hb110.get (by decide) (hb96.get (by decide) (hb83.get (by decide) (hb73.get (by decide) (hb63.get (by decide) (hF52.get (by decide) (hF45.get (by decide) h82_31))))))) rfl) ?_
          refine xg_t (xg_bip) ?_
          refine xg_t (xg_dup2 rfl) ?_
          refine xg_ialdB (n := 9) (B := 4294967295) hr109 (hb112) xnm0 (by first | decide | omega) (fun u118 hu119 he120 => ?_)
          have hl121 : u118 ≤ 40 := by rw [← he120]; exact hx111.l9
          refine xg_t (xg_const) ?_
          refine xg_t (xg_iadd (u := u118) (v := 1) (z := u118 + 1) xnm0 xnm0 (by omega)) ?_
          refine xg_iastK (n := 9) (u := u118 + 1) hr109 xnm0 xnm0 rfl (by first | decide | omega) (fun w122 hr123 hb124 => ?_)
          have hx125 : okA (fun j => if j = 9 then u118 + 1 else g113 j) := hx111.upd (by omega) (by omega) (by omega) (fun _ => by omega) (by omega) (fun _ => by omega) (fun _ => by omega) (fun _ => by omega) (fun _ => by omega) (by omega) (fun _ _ => by omega)
          have hb126 : ∀ j, (fun j => if j = 9 then u118 + 1 else g113 j) j ≤ 4294967295 := xrb (by omega) (hb112)
          obtain ⟨g127, hg128⟩ : ∃ g : Nat → Nat, g = (fun j => if j = 9 then u118 + 1 else g113 j) := ⟨_, rfl⟩
          rw [← hg128] at hr123
          have he129 : g127 9 = u118 + 1 := by rw [hg128]; exact if_pos rfl
          have hk130 : ∀ j, j ≠ 9 → g127 j = g113 j := fun j hj => by rw [hg128]; exact if_neg hj
          rw [← hg128] at hx125
          rw [← hg128] at hb126
          refine xg_t (xg_const) ?_
          exact xg_e ⟨1, w122, ⟨rfl, rfl⟩, ⟨by omega, fun j hj h => (rwv_of hr123 h).trans (Eq.trans (by rw [hk130 j (by omega), hk116 j (by omega), hk102 j (by omega), hk89 j (by omega), hk79 j (by omega), hk69 j (by omega)]) (rwv_of h83_34 h).symm)⟩, xMnv.up (S := [83]) hI51 ((((((xFr.of (S := [83]) hb63 (by decide)).tr (xFr.of (S := [83]) hb73 (by decide))).tr (xFr.of (S := [83]) hb83 (by decide))).tr (xFr.of (S := [83]) hb96 (by decide))).tr (xFr.of (S := [83]) hb110 (by decide))).tr (xFr.of (S := [83]) hb124 (by decide))) (List.forall_mem_cons.mpr ⟨xqu83 (show cpx83 (wget w122 83) from ⟨_, hr123, hb126, hx125⟩), fun _ h => absurd h List.not_mem_nil⟩), (((hF45.up (by decide)).tr (hF52.up (by decide))).tr ((((((xFr.of (S := [83]) hb63 (by decide)).tr (xFr.of (S := [83]) hb73 (by decide))).tr (xFr.of (S := [83]) hb83 (by decide))).tr (xFr.of (S := [83]) hb96 (by decide))).tr (xFr.of (S := [83]) hb110 (by decide))).tr (xFr.of (S := [83]) hb124 (by decide))))⟩
        · refine xg_t (xg_ifF (u := la) rfl xnm0 (xj_eqF hc60)) ?_
          refine xg_t (xg_const) ?_
          refine xg_t (xg_goto) ?_
          refine xg_t (xg_blq rfl) ?_
          refine xg_iastK (n := 140 + (4 * u56)) (u := 1) ((h83_34.fr hF45 (by decide)).fr hF52 (by decide)) xnm0 xnm0 rfl (by omega) (fun w131 hr132 hb133 => ?_)
          have hx134 : okA (fun j => if j = 140 + (4 * u56) then 1 else g83_33 j) := hx36.upd (by omega) (by omega) (by omega) (fun _ => by omega) (by omega) (fun _ => by omega) (fun _ => by omega) (fun _ => by omega) (fun _ => by omega) (by omega) (fun _ _ => by omega)
          have hb135 : ∀ j, (fun j => if j = 140 + (4 * u56) then 1 else g83_33 j) j ≤ 4294967295 := xrb (by omega) (hb35)
          obtain ⟨g136, hg137⟩ : ∃ g : Nat → Nat, g = (fun j => if j = 140 + (4 * u56) then 1 else g83_33 j) := ⟨_, rfl⟩
          rw [← hg137] at hr132
          have he138 : g136 (140 + (4 * u56)) = 1 := by rw [hg137]; exact if_pos rfl
          have hk139 : ∀ j, j ≠ 140 + (4 * u56) → g136 j = g83_33 j := fun j hj => by rw [hg137]; exact if_neg hj
          rw [← hg137] at hx134
          rw [← hg137] at hb135
          have hk140 : g136 9 = g83_33 9 := hk139 9 (by omega)
          refine xg_t (xg_aload (va := (2, 82)) rfl rfl) ?_
          refine xg_t (xg_getf (va := (2, 83)) (hb133.get (by decide) (hF52.get (by decide) (hF45.get (by decide) h82_31))) rfl) ?_
          refine xg_t (xg_iload (va := (0, 140 + (4 * u56))) rfl rfl) ?_
          refine xg_t (xg_const) ?_
          refine xg_t (xg_iadd (u := 140 + (4 * u56)) (v := 1) (z := (140 + (4 * u56)) + 1) xnm0 xnm0 (by omega)) ?_
          refine xg_t (xg_iload (va := (0, ra)) rfl rfl) ?_
          refine xg_iastK (n := (140 + (4 * u56)) + 1) (u := ra) hr132 xnm0 xnm0 rfl (by omega) (fun w141 hr142 hb143 => ?_)
          have hx144 : okA (fun j => if j = (140 + (4 * u56)) + 1 then ra else g136 j) := hx134.upd (by omega) (by omega) (by omega) (fun _ => by omega) (by omega) (fun _ => by omega) (fun _ => by omega) (fun _ => by omega) (fun _ => by omega) (by omega) (fun _ _ => by omega)
          have hb145 : ∀ j, (fun j => if j = (140 + (4 * u56)) + 1 then ra else g136 j) j ≤ 4294967295 := xrb (by omega) (hb135)
          obtain ⟨g146, hg147⟩ : ∃ g : Nat → Nat, g = (fun j => if j = (140 + (4 * u56)) + 1 then ra else g136 j) := ⟨_, rfl⟩
          rw [← hg147] at hr142
          have he148 : g146 ((140 + (4 * u56)) + 1) = ra := by rw [hg147]; exact if_pos rfl
          have hk149 : ∀ j, j ≠ (140 + (4 * u56)) + 1 → g146 j = g136 j := fun j hj => by rw [hg147]; exact if_neg hj
          rw [← hg147] at hx144
          rw [← hg147] at hb145
          have hk150 : g146 9 = g136 9 := hk149 9 (by omega)
          refine xg_t (xg_aload (va := (2, 82)) rfl rfl) ?_
          refine xg_t (xg_getf (va := (2, 83)) (hb143.get (by decide) (hb133.get (by decide) (hF52.get (by decide) (hF45.get (by decide) h82_31)))) rfl) ?_
          refine xg_t (xg_iload (va := (0, 140 + (4 * u56))) rfl rfl) ?_
          refine xg_t (xg_const) ?_
          refine xg_t (xg_iadd (u := 140 + (4 * u56)) (v := 2) (z := (140 + (4 * u56)) + 2) xnm0 xnm0 (by omega)) ?_
          refine xg_t (xg_iload (va := (0, ca)) rfl rfl) ?_
          refine xg_iastK (n := (140 + (4 * u56)) + 2) (u := ca) hr142 xnm0 xnm0 rfl (by omega) (fun w151 hr152 hb153 => ?_)
          have hx154 : okA (fun j => if j = (140 + (4 * u56)) + 2 then ca else g146 j) := hx144.upd (by omega) (by omega) (by omega) (fun _ => by omega) (by omega) (fun _ => by omega) (fun _ => by omega) (fun _ => by omega) (fun _ => by omega) (by omega) (fun _ _ => by omega)
          have hb155 : ∀ j, (fun j => if j = (140 + (4 * u56)) + 2 then ca else g146 j) j ≤ 4294967295 := xrb (by omega) (hb145)
          obtain ⟨g156, hg157⟩ : ∃ g : Nat → Nat, g = (fun j => if j = (140 + (4 * u56)) + 2 then ca else g146 j) := ⟨_, rfl⟩
          rw [← hg157] at hr152
          have he158 : g156 ((140 + (4 * u56)) + 2) = ca := by rw [hg157]; exact if_pos rfl
          have hk159 : ∀ j, j ≠ (140 + (4 * u56)) + 2 → g156 j = g146 j := fun j hj => by rw [hg157]; exact if_neg hj
          rw [← hg157] at hx154
          rw [← hg157] at hb155
          have hk160 : g156 9 = g146 9 := hk159 9 (by omega)
          refine xg_t (xg_aload (va := (2, 82)) rfl rfl) ?_
          refine xg_t (xg_getf (va := (2, 83)) (hb153.get (by decide) (hb143.get (by decide) (hb133.get (by decide) (hF52.get (by decide) (hF45.get (by decide) h82_31))))) rfl) ?_
          refine xg_t (xg_iload (va := (0, 140 + (4 * u56))) rfl rfl) ?_
          refine xg_t (xg_const) ?_
          refine xg_t (xg_iadd (u := 140 + (4 * u56)) (v := 3) (z := (140 + (4 * u56)) + 3) xnm0 xnm0 (by omega)) ?_
          refine xg_t (xg_aload (va := (2, 82)) rfl rfl) ?_
          refine xg_t (xg_getf (va := (2, 83)) (hb153.get (by decide) (hb143.get (by decide) (hb133.get (by decide) (hF52.get (by decide) (hF45.get (by decide) h82_31))))) rfl) ?_
          refine xg_t (xg_bip) ?_
          refine xg_ialdB (n := 11) (B := 4294967295) hr152 (hb155) xnm0 (by first | decide | omega) (fun u161 hu162 he163 => ?_)
          refine xg_iastK (n := (140 + (4 * u56)) + 3) (u := u161) hr152 xnm0 xnm0 rfl (by omega) (fun w164 hr165 hb166 => ?_)
          have hx167 : okA (fun j => if j = (140 + (4 * u56)) + 3 then u161 else g156 j) := hx154.upd (by omega) (by omega) (by omega) (fun _ => by omega) (by omega) (fun _ => by omega) (fun _ => by omega) (fun _ => by omega) (fun _ => by omega) (by omega) (fun _ _ => by omega)
          have hb168 : ∀ j, (fun j => if j = (140 + (4 * u56)) + 3 then u161 else g156 j) j ≤ 4294967295 := xrb (by omega) (hb155)
          obtain ⟨g169, hg170⟩ : ∃ g : Nat → Nat, g = (fun j => if j = (140 + (4 * u56)) + 3 then u161 else g156 j) := ⟨_, rfl⟩
          rw [← hg170] at hr165
          have he171 : g169 ((140 + (4 * u56)) + 3) = u161 := by rw [hg170]; exact if_pos rfl
          have hk172 : ∀ j, j ≠ (140 + (4 * u56)) + 3 → g169 j = g156 j := fun j hj => by rw [hg170]; exact if_neg hj
          rw [← hg170] at hx167
          rw [← hg170] at hb168
          have hk173 : g169 9 = g156 9 := hk172 9 (by omega)
          refine xg_t (xg_aload (va := (2, 82)) rfl rfl) ?_
          refine xg_t (xg_getf (va := (2, 83)) (hb166.get (by decide) (hb153.get (by decide) (hb143.get (by decide) (hb133.get (by decide) (hF52.get (by decide) (hF45.get (by decide) h82_31)))))) rfl) ?_
          refine xg_t (xg_sip) ?_
          refine xg_t (xg_aload (va := (2, 82)) rfl rfl) ?_
          refine xg_t (xg_getf (va := (2, 83)) (hb166.get (by decide) (hb153.get (by decide) (hb143.get (by decide) (hb133.get (by decide) (hF52.get (by decide) (hF45.get (by decide) h82_31)))))) rfl) ?_
          refine xg_t (xg_bip) ?_
          refine xg_ialdB (n := 9) (B := 4294967295) hr165 (hb168) xnm0 (by first | decide | omega) (fun u174 hu175 he176 => ?_)
          have hl177 : u174 ≤ 40 := by rw [← he176]; exact hx167.l9
          refine xg_t (xg_iadd (u := 910) (v := u174) (z := 910 + u174) xnm0 xnm0 (by omega)) ?_
          refine xg_t (xg_const) ?_
          refine xg_iastK (n := 910 + u174) (u := 1) hr165 xnm0 xnm0 rfl (by omega) (fun w178 hr179 hb180 => ?_)
          have hx181 : okA (fun j => if j = 910 + u174 then 1 else g169 j) := hx167.upd (by omega) (by omega) (by omega) (fun _ => by omega) (by omega) (fun _ => by omega) (fun _ => by omega) (fun _ => by omega) (fun _ => by omega) (by omega) (fun _ _ => by omega)
          have hb182 : ∀ j, (fun j => if j = 910 + u174 then 1 else g169 j) j ≤ 4294967295 := xrb (by omega) (hb168)
          obtain ⟨g183, hg184⟩ : ∃ g : Nat → Nat, g = (fun j => if j = 910 + u174 then 1 else g169 j) := ⟨_, rfl⟩
          rw [← hg184] at hr179
          have he185 : g183 (910 + u174) = 1 := by rw [hg184]; exact if_pos rfl
          have hk186 : ∀ j, j ≠ 910 + u174 → g183 j = g169 j := fun j hj => by rw [hg184]; exact if_neg hj
          rw [← hg184] at hx181
          rw [← hg184] at hb182
          have hk187 : g183 9 = g169 9 := hk186 9 (by omega)
          refine xg_t (xg_aload (va := (2, 82)) rfl rfl) ?_
          refine xg_t (xg_getf (va := (2, 83)) (hb180.get (by decide) (hb166.get (by decide) (hb153.get (by decide) (hb143.get (by decide) (hb133.get (by decide) (hF52.get (by decide) (hF45.get (by decide) h82_31))))))) rfl) ?_
          refine xg_t (xg_bip) ?_
          refine xg_t (xg_dup2 rfl) ?_
          refine xg_ialdB (n := 9) (B := 4294967295) hr179 (hb182) xnm0 (by first | decide | omega) (fun u188 hu189 he190 => ?_)
          have hl191 : u188 ≤ 40 := by rw [← he190]; exact hx181.l9
          refine xg_t (xg_const) ?_
          refine xg_t (xg_iadd (u := u188) (v := 1) (z := u188 + 1) xnm0 xnm0 (by omega)) ?_
          refine xg_iastK (n := 9) (u := u188 + 1) hr179 xnm0 xnm0 rfl (by first | decide | omega) (fun w192 hr193 hb194 => ?_)
          have hx195 : okA (fun j => if j = 9 then u188 + 1 else g183 j) := hx181.upd (by omega) (by omega) (by omega) (fun _ => by omega) (by omega) (fun _ => by omega) (fun _ => by omega) (fun _ => by omega) (fun _ => by omega) (by omega) (fun _ _ => by omega)
          have hb196 : ∀ j, (fun j => if j = 9 then u188 + 1 else g183 j) j ≤ 4294967295 := xrb (by omega) (hb182)
          obtain ⟨g197, hg198⟩ : ∃ g : Nat → Nat, g = (fun j => if j = 9 then u188 + 1 else g183 j) := ⟨_, rfl⟩
          rw [← hg198] at hr193
          have he199 : g197 9 = u188 + 1 := by rw [hg198]; exact if_pos rfl
          have hk200 : ∀ j, j ≠ 9 → g197 j = g183 j := fun j hj => by rw [hg198]; exact if_neg hj
          rw [← hg198] at hx195
          rw [← hg198] at hb196
          refine xg_t (xg_const) ?_
          exact xg_e ⟨1, w192, ⟨rfl, rfl⟩, ⟨by omega, fun j hj h => (rwv_of hr193 h).trans (Eq.trans (by rw [hk200 j (by omega), hk186 j (by omega), hk172 j (by omega), hk159 j (by omega), hk149 j (by omega), hk139 j (by omega)]) (rwv_of h83_34 h).symm)⟩, xMnv.up (S := [83]) hI51 ((((((xFr.of (S := [83]) hb133 (by decide)).tr (xFr.of (S := [83]) hb143 (by decide))).tr (xFr.of (S := [83]) hb153 (by decide))).tr (xFr.of (S := [83]) hb166 (by decide))).tr (xFr.of (S := [83]) hb180 (by decide))).tr (xFr.of (S := [83]) hb194 (by decide))) (List.forall_mem_cons.mpr ⟨xqu83 (show cpx83 (wget w192 83) from ⟨_, hr193, hb196, hx195⟩), fun _ h => absurd h List.not_mem_nil⟩), (((hF45.up (by decide)).tr (hF52.up (by decide))).tr ((((((xFr.of (S := [83]) hb133 (by decide)).tr (xFr.of (S := [83]) hb143 (by decide))).tr (xFr.of (S := [83]) hb153 (by decide))).tr (xFr.of (S := [83]) hb166 (by decide))).tr (xFr.of (S := [83]) hb180 (by decide))).tr (xFr.of (S := [83]) hb194 (by decide))))⟩
      · refine xg_t (xg_ifF (u := n53) rfl xnm0 (xj_eqF hc55)) ?_
        refine xg_t (xg_blq rfl) ?_
        refine xg_t (xg_const) ?_
        exact xg_e ⟨0, w49, ⟨rfl, rfl⟩, ⟨by omega, fun j _ h => (rwv_of ((h83_34.fr hF45 (by decide)).fr hF52 (by decide)) h).trans (rwv_of h83_34 h).symm⟩, hI51, ((hF45.up (by decide)).tr (hF52.up (by decide)))⟩
theorem mImageX {kk : Nat} (hI : xMnv w) (hkk : kk ≤ 4294967295) : xPi (d + 1) mX12_image [(2, 82), (0, kk)] w bd fc rr (fun n w' => (((kk ≤ 2 ∧ n = 1) ∨ (¬ kk ≤ 2 ∧ n = 0)) ∧ (∀ j, j < 3 → rwk w' 84 j = if j = kk then 1 else rwk w 84 j) ∧ (∀ i, i < 1340 → kk ≤ 2 → rwv w' 83 (1340 * (kk + 1) + i) = rwv w 83 i) ∧ (∀ j, j < 5360 → (j < 1340 * (kk + 1) ∨ 1340 * (kk + 2) ≤ j) → rwv w' 83 j = rwv w 83 j)) ∧ xMnv w' ∧ xFr [83, 84] w w') := by
  refine xPi.of ?_
  show xTo (d + 1) mX12_image (0, [], [(0, (2, 82)), (1, (0, kk))], [], (w, bd, fc, 0, 0, rr)) (fun φ => ∃ n w', xEnd 4 [(0, n)] (w', bd, fc, 0, 0, rr) φ ∧ (((kk ≤ 2 ∧ n = 1) ∨ (¬ kk ≤ 2 ∧ n = 0)) ∧ (∀ j, j < 3 → rwk w' 84 j = if j = kk then 1 else rwk w 84 j) ∧ (∀ i, i < 1340 → kk ≤ 2 → rwv w' 83 (1340 * (kk + 1) + i) = rwv w 83 i) ∧ (∀ j, j < 5360 → (j < 1340 * (kk + 1) ∨ 1340 * (kk + 2) ≤ j) → rwv w' 83 j = rwv w 83 j)) ∧ xMnv w' ∧ xFr [83, 84] w w')
  refine xoCh82 (xqc82 hI : cp82 (wget w 82)) (fun f82_1 f82_3 f82_5 f82_7 f82_9 f82_11 f82_13 f82_15 f82_17 f82_19 f82_21 f82_22 f82_23 f82_25 f82_27 f82_29 h82_31 hb2 hb4 hb6 hb8 hb10 hb12 hb14 hb16 hb18 hb20 hb24 hb26 hb28 hb30 hb32 => ?_)
  refine xoX83 (xqc83 hI : cpx83 (wget w 83)) (fun g83_33 h83_34 hb35 hx36 => ?_)
  refine xg_t (xg_blq rfl) ?_
  refine xg_t (xg_iload (va := (0, kk)) rfl rfl) ?_
  refine xg_t (xg_const) ?_
  refine xg_t (xg_const) ?_
  refine xg_t (xg_cSr mX12_isIn (vs := [(0, kk), (0, 0), (0, 2)]) (rest := []) (rs := [(0, if 0 ≤ kk ∧ kk ≤ 2 then 1 else 0)]) (cn1 := 0) (sl1 := 0) rfl (mIsIn (by omega) (by omega) (by omega)) rfl rfl rfl rfl rfl rfl rfl rfl) ?_
  by_cases hc37 : 0 ≤ kk ∧ kk ≤ 2
  · refine xg_t (xg_ifT (u := (if 0 ≤ kk ∧ kk ≤ 2 then 1 else 0)) rfl xnm0 (xj_neT (xite1 hc37))) ?_
    refine xg_t (xg_blq rfl) ?_
    rcases (show kk = 0 ∨ kk = 1 ∨ kk = 2 by omega) with rfl | rfl | rfl
    · refine xg_t (xg_aload (va := (2, 82)) rfl rfl) ?_
      refine xg_t (xg_getf (va := (2, 84)) h82_31 rfl) ?_
      refine xg_t (xg_iload (va := (0, 0)) rfl rfl) ?_
      refine xg_t (xg_const) ?_
      obtain ⟨g84_38, h84_39, hb40⟩ := (xqc84 hI : cpK 2 0 3 51 1 (wget w 84))
      have h84_39 : xRk 2 0 w 84 3 51 g84_38 := h84_39
      refine xg_bastZ (n := 0) (u := 1) h84_39 xnm0 xnm0 rfl (by omega) (by omega) (fun w41 hr42 hb43 => ?_)
      refine xg_t (xg_const) ?_
      refine xg_t (xg_istore (l1 := [(0, (2, 82)), (1, (0, 0))]) rfl rfl rfl) ?_
      refine xg_t (xg_drop (l1 := [(0, (2, 82)), (1, (0, 0)), (2, (0, 0))]) (List.forall_mem_cons.mpr ⟨List.mem_cons_of_mem _ (List.mem_cons_self), List.forall_mem_cons.mpr ⟨List.mem_cons_of_mem _ (List.mem_cons_of_mem _ (List.mem_cons_self)), List.forall_mem_cons.mpr ⟨List.mem_cons_self, fun _ h => absurd h List.not_mem_nil⟩⟩⟩)) ?_
      refine cpImg0 1340 0 w41 g83_33 (by decide) (h83_34.but hb43 (by decide)) hb35 (hb43.get (by decide) h82_31) (fun w44 g45 hc46 hc47 hc48 hc49 hc50 => ?_)
      have hx51 : okA g45 := okA.copy hx36 (B := 1340) (by decide) hc49 hc50
      refine xg_t (xg_blq rfl) ?_
      refine xg_t (xg_const) ?_
      exact xg_e ⟨1, w44, ⟨rfl, rfl⟩, ⟨by omega, fun j hj => (rwk_of (hr42.but hc48 (by decide)) hj).trans (by show (if j = 0 then 1 else g84_38 j) = _; rw [rwk_of h84_39 hj]), fun i h _ => (rwv_of hc46 (by omega)).trans ((hc49 i (Nat.zero_le _) h).trans (rwv_of h83_34 (by omega)).symm), fun j h hj => (rwv_of hc46 h).trans ((hc50 j (by omega)).trans (rwv_of h83_34 h).symm)⟩, xMnv.up (S := [84, 83]) hI ((xFr.of (S := [84, 83]) hb43 (by decide)).tr (xFr.of (S := [84, 83]) hc48 (by decide))) (List.forall_mem_cons.mpr ⟨xqu84 (show cpK 2 0 3 51 1 (wget w44 84) from ⟨_, (hr42.but hc48 (by decide)), xrb (by omega) (hb40)⟩), List.forall_mem_cons.mpr ⟨xqu83 (show cpx83 (wget w44 83) from ⟨_, hc46, hc47, hx51⟩), fun _ h => absurd h List.not_mem_nil⟩⟩), ((xFr.of (S := [83, 84]) hb43 (by decide)).tr (xFr.of (S := [83, 84]) hc48 (by decide)))⟩
    · refine xg_t (xg_aload (va := (2, 82)) rfl rfl) ?_
      refine xg_t (xg_getf (va := (2, 84)) h82_31 rfl) ?_
      refine xg_t (xg_iload (va := (0, 1)) rfl rfl) ?_
      refine xg_t (xg_const) ?_
      obtain ⟨g84_52, h84_53, hb54⟩ := (xqc84 hI : cpK 2 0 3 51 1 (wget w 84))
      have h84_53 : xRk 2 0 w 84 3 51 g84_52 := h84_53
      refine xg_bastZ (n := 1) (u := 1) h84_53 xnm0 xnm0 rfl (by omega) (by omega) (fun w55 hr56 hb57 => ?_)
      refine xg_t (xg_const) ?_
      refine xg_t (xg_istore (l1 := [(0, (2, 82)), (1, (0, 1))]) rfl rfl rfl) ?_
      refine xg_t (xg_drop (l1 := [(0, (2, 82)), (1, (0, 1)), (2, (0, 0))]) (List.forall_mem_cons.mpr ⟨List.mem_cons_of_mem _ (List.mem_cons_self), List.forall_mem_cons.mpr ⟨List.mem_cons_of_mem _ (List.mem_cons_of_mem _ (List.mem_cons_self)), List.forall_mem_cons.mpr ⟨List.mem_cons_self, fun _ h => absurd h List.not_mem_nil⟩⟩⟩)) ?_
      refine cpImg1 1340 0 w55 g83_33 (by decide) (h83_34.but hb57 (by decide)) hb35 (hb57.get (by decide) h82_31) (fun w58 g59 hc60 hc61 hc62 hc63 hc64 => ?_)
      have hx65 : okA g59 := okA.copy hx36 (B := 2680) (by decide) hc63 hc64
      refine xg_t (xg_blq rfl) ?_
      refine xg_t (xg_const) ?_
      exact xg_e ⟨1, w58, ⟨rfl, rfl⟩, ⟨by omega, fun j hj => (rwk_of (hr56.but hc62 (by decide)) hj).trans (by show (if j = 1 then 1 else g84_52 j) = _; rw [rwk_of h84_53 hj]), fun i h _ => (rwv_of hc60 (by omega)).trans ((hc63 i (Nat.zero_le _) h).trans (rwv_of h83_34 (by omega)).symm), fun j h hj => (rwv_of hc60 h).trans ((hc64 j (by omega)).trans (rwv_of h83_34 h).symm)⟩, xMnv.up (S := [84, 83]) hI ((xFr.of (S := [84, 83]) hb57 (by decide)).tr (xFr.of (S := [84, 83]) hc62 (by decide))) (List.forall_mem_cons.mpr ⟨xqu84 (show cpK 2 0 3 51 1 (wget w58 84) from ⟨_, (hr56.but hc62 (by decide)), xrb (by omega) (hb54)⟩), List.forall_mem_cons.mpr ⟨xqu83 (show cpx83 (wget w58 83) from ⟨_, hc60, hc61, hx65⟩), fun _ h => absurd h List.not_mem_nil⟩⟩), ((xFr.of (S := [83, 84]) hb57 (by decide)).tr (xFr.of (S := [83, 84]) hc62 (by decide)))⟩
    · refine xg_t (xg_aload (va := (2, 82)) rfl rfl) ?_
      refine xg_t (xg_getf (va := (2, 84)) h82_31 rfl) ?_
      refine xg_t (xg_iload (va := (0, 2)) rfl rfl) ?_
      refine xg_t (xg_const) ?_
      obtain ⟨g84_66, h84_67, hb68⟩ := (xqc84 hI : cpK 2 0 3 51 1 (wget w 84))
      have h84_67 : xRk 2 0 w 84 3 51 g84_66 := h84_67
      refine xg_bastZ (n := 2) (u := 1) h84_67 xnm0 xnm0 rfl (by omega) (by omega) (fun w69 hr70 hb71 => ?_)
      refine xg_t (xg_const) ?_
      refine xg_t (xg_istore (l1 := [(0, (2, 82)), (1, (0, 2))]) rfl rfl rfl) ?_
      refine xg_t (xg_drop (l1 := [(0, (2, 82)), (1, (0, 2)), (2, (0, 0))]) (List.forall_mem_cons.mpr ⟨List.mem_cons_of_mem _ (List.mem_cons_self), List.forall_mem_cons.mpr ⟨List.mem_cons_of_mem _ (List.mem_cons_of_mem _ (List.mem_cons_self)), List.forall_mem_cons.mpr ⟨List.mem_cons_self, fun _ h => absurd h List.not_mem_nil⟩⟩⟩)) ?_
      refine cpImg2 1340 0 w69 g83_33 (by decide) (h83_34.but hb71 (by decide)) hb35 (hb71.get (by decide) h82_31) (fun w72 g73 hc74 hc75 hc76 hc77 hc78 => ?_)
      have hx79 : okA g73 := okA.copy hx36 (B := 4020) (by decide) hc77 hc78
      refine xg_t (xg_blq rfl) ?_
      refine xg_t (xg_const) ?_
      exact xg_e ⟨1, w72, ⟨rfl, rfl⟩, ⟨by omega, fun j hj => (rwk_of (hr70.but hc76 (by decide)) hj).trans (by show (if j = 2 then 1 else g84_66 j) = _; rw [rwk_of h84_67 hj]), fun i h _ => (rwv_of hc74 (by omega)).trans ((hc77 i (Nat.zero_le _) h).trans (rwv_of h83_34 (by omega)).symm), fun j h hj => (rwv_of hc74 h).trans ((hc78 j (by omega)).trans (rwv_of h83_34 h).symm)⟩, xMnv.up (S := [84, 83]) hI ((xFr.of (S := [84, 83]) hb71 (by decide)).tr (xFr.of (S := [84, 83]) hc76 (by decide))) (List.forall_mem_cons.mpr ⟨xqu84 (show cpK 2 0 3 51 1 (wget w72 84) from ⟨_, (hr70.but hc76 (by decide)), xrb (by omega) (hb68)⟩), List.forall_mem_cons.mpr ⟨xqu83 (show cpx83 (wget w72 83) from ⟨_, hc74, hc75, hx79⟩), fun _ h => absurd h List.not_mem_nil⟩⟩), ((xFr.of (S := [83, 84]) hb71 (by decide)).tr (xFr.of (S := [83, 84]) hc76 (by decide)))⟩
  · refine xg_t (xg_ifF (u := (if 0 ≤ kk ∧ kk ≤ 2 then 1 else 0)) rfl xnm0 (xj_neF (xite0 hc37))) ?_
    refine xg_t (xg_const) ?_
    exact xg_e ⟨0, w, ⟨rfl, rfl⟩, ⟨by omega, fun j hj => by rw [if_neg (by omega)], fun i _ h => absurd h (by omega), fun j _ _ => rfl⟩, hI, xFr.rf⟩
theorem mAgainX {kk : Nat} (hI : xMnv w) (hkk : kk ≤ 4294967295) : xPi (d + 1) mX12_again [(2, 82), (0, kk)] w bd fc rr (fun n w' => (((n = 1 ∧ kk ≤ 2 ∧ rwk w 84 kk ≠ 0) ∨ (n = 0 ∧ ¬ (kk ≤ 2 ∧ rwk w 84 kk ≠ 0))) ∧ (n = 1 → ∀ i, i < 1340 → rwv w' 83 i = rwv w 83 (1340 * (kk + 1) + i)) ∧ (∀ j, 1340 ≤ j → j < 5360 → rwv w' 83 j = rwv w 83 j) ∧ (n = 0 → w' = w)) ∧ xMnv w' ∧ xFr [83] w w') := by
  refine xPi.of ?_
  show xTo (d + 1) mX12_again (0, [], [(0, (2, 82)), (1, (0, kk))], [], (w, bd, fc, 0, 0, rr)) (fun φ => ∃ n w', xEnd 4 [(0, n)] (w', bd, fc, 0, 0, rr) φ ∧ (((n = 1 ∧ kk ≤ 2 ∧ rwk w 84 kk ≠ 0) ∨ (n = 0 ∧ ¬ (kk ≤ 2 ∧ rwk w 84 kk ≠ 0))) ∧ (n = 1 → ∀ i, i < 1340 → rwv w' 83 i = rwv w 83 (1340 * (kk + 1) + i)) ∧ (∀ j, 1340 ≤ j → j < 5360 → rwv w' 83 j = rwv w 83 j) ∧ (n = 0 → w' = w)) ∧ xMnv w' ∧ xFr [83] w w')
  refine xoCh82 (xqc82 hI : cp82 (wget w 82)) (fun f82_1 f82_3 f82_5 f82_7 f82_9 f82_11 f82_13 f82_15 f82_17 f82_19 f82_21 f82_22 f82_23 f82_25 f82_27 f82_29 h82_31 hb2 hb4 hb6 hb8 hb10 hb12 hb14 hb16 hb18 hb20 hb24 hb26 hb28 hb30 hb32 => ?_)
  refine xoX83 (xqc83 hI : cpx83 (wget w 83)) (fun g83_33 h83_34 hb35 hx36 => ?_)
  refine xg_t (xg_blq rfl) ?_
  refine xg_t (xg_iload (va := (0, kk)) rfl rfl) ?_
  refine xg_t (xg_const) ?_
  refine xg_t (xg_const) ?_
  refine xg_t (xg_cSr mX12_isIn (vs := [(0, kk), (0, 0), (0, 2)]) (rest := []) (rs := [(0, if 0 ≤ kk ∧ kk ≤ 2 then 1 else 0)]) (cn1 := 0) (sl1 := 0) rfl (mIsIn (by omega) (by omega) (by omega)) rfl rfl rfl rfl rfl rfl rfl rfl) ?_
  by_cases hc37 : 0 ≤ kk ∧ kk ≤ 2
  · refine xg_t (xg_ifF (u := (if 0 ≤ kk ∧ kk ≤ 2 then 1 else 0)) rfl xnm0 (xj_eqF (xite1 hc37))) ?_
    rcases (show kk = 0 ∨ kk = 1 ∨ kk = 2 by omega) with rfl | rfl | rfl
    · refine xg_t (xg_aload (va := (2, 82)) rfl rfl) ?_
      refine xg_t (xg_getf (va := (2, 84)) h82_31 rfl) ?_
      refine xg_t (xg_iload (va := (0, 0)) rfl rfl) ?_
      obtain ⟨g84_38, h84_39, hb40⟩ := (xqc84 hI : cpK 2 0 3 51 1 (wget w 84))
      have h84_39 : xRk 2 0 w 84 3 51 g84_38 := h84_39
      refine xg_baldB (n := 0) (B := 1) h84_39 rfl (hb40) xnm0 (by omega) (fun u41 hu42 he43 => ?_)
      by_cases hc44 : u41 = 0
      · refine xg_t (xg_ifF (u := u41) rfl xnm0 (xj_neF hc44)) ?_
        refine xg_t (xg_blq rfl) ?_
        refine xg_t (xg_const) ?_
        have hq45 := rwk_of h84_39 (show 0 < 3 by decide)
        exact xg_e ⟨0, w, ⟨rfl, rfl⟩, ⟨by omega, fun h => by omega, fun j _ _ => rfl, fun _ => rfl⟩, hI, xFr.rf⟩
      · refine xg_t (xg_ifT (u := u41) rfl xnm0 (xj_neT hc44)) ?_
        refine xg_t (xg_blq rfl) ?_
        refine xg_t (xg_const) ?_
        refine xg_t (xg_istore (l1 := [(0, (2, 82)), (1, (0, 0))]) rfl rfl rfl) ?_
        refine xg_t (xg_drop (l1 := [(0, (2, 82)), (1, (0, 0)), (2, (0, 0))]) (List.forall_mem_cons.mpr ⟨List.mem_cons_of_mem _ (List.mem_cons_self), List.forall_mem_cons.mpr ⟨List.mem_cons_of_mem _ (List.mem_cons_of_mem _ (List.mem_cons_self)), List.forall_mem_cons.mpr ⟨List.mem_cons_self, fun _ h => absurd h List.not_mem_nil⟩⟩⟩)) ?_
        refine cpAgn0 1340 0 w g83_33 (by decide) h83_34 hb35 h82_31 (fun w46 g47 hc48 hc49 hc50 hc51 hc52 => ?_)
        have hx53 : okA g47 := okA.back hx36 (B := 1340) (by decide) hc51 hc52
        refine xg_t (xg_blq rfl) ?_
        refine xg_t (xg_const) ?_
        have hq54 := rwk_of h84_39 (show 0 < 3 by decide)
        exact xg_e ⟨1, w46, ⟨rfl, rfl⟩, ⟨by omega, fun _ i h => (rwv_of hc48 (by omega)).trans ((hc51 i (Nat.zero_le _) h).trans (rwv_of h83_34 (by omega)).symm), fun j h hj => (rwv_of hc48 hj).trans ((hc52 j (by omega)).trans (rwv_of h83_34 hj).symm), fun h => by omega⟩, xMnv.up (S := [83]) hI (xFr.of (S := [83]) hc50 (by decide)) (List.forall_mem_cons.mpr ⟨xqu83 (show cpx83 (wget w46 83) from ⟨_, hc48, hc49, hx53⟩), fun _ h => absurd h List.not_mem_nil⟩), (xFr.of (S := [83]) hc50 (by decide))⟩
    · refine xg_t (xg_aload (va := (2, 82)) rfl rfl) ?_
      refine xg_t (xg_getf (va := (2, 84)) h82_31 rfl) ?_
      refine xg_t (xg_iload (va := (0, 1)) rfl rfl) ?_
      obtain ⟨g84_55, h84_56, hb57⟩ := (xqc84 hI : cpK 2 0 3 51 1 (wget w 84))
      have h84_56 : xRk 2 0 w 84 3 51 g84_55 := h84_56
      refine xg_baldB (n := 1) (B := 1) h84_56 rfl (hb57) xnm0 (by omega) (fun u58 hu59 he60 => ?_)
      by_cases hc61 : u58 = 0
      · refine xg_t (xg_ifF (u := u58) rfl xnm0 (xj_neF hc61)) ?_
        refine xg_t (xg_blq rfl) ?_
        refine xg_t (xg_const) ?_
        have hq62 := rwk_of h84_56 (show 1 < 3 by decide)
        exact xg_e ⟨0, w, ⟨rfl, rfl⟩, ⟨by omega, fun h => by omega, fun j _ _ => rfl, fun _ => rfl⟩, hI, xFr.rf⟩
      · refine xg_t (xg_ifT (u := u58) rfl xnm0 (xj_neT hc61)) ?_
        refine xg_t (xg_blq rfl) ?_
        refine xg_t (xg_const) ?_
        refine xg_t (xg_istore (l1 := [(0, (2, 82)), (1, (0, 1))]) rfl rfl rfl) ?_
        refine xg_t (xg_drop (l1 := [(0, (2, 82)), (1, (0, 1)), (2, (0, 0))]) (List.forall_mem_cons.mpr ⟨List.mem_cons_of_mem _ (List.mem_cons_self), List.forall_mem_cons.mpr ⟨List.mem_cons_of_mem _ (List.mem_cons_of_mem _ (List.mem_cons_self)), List.forall_mem_cons.mpr ⟨List.mem_cons_self, fun _ h => absurd h List.not_mem_nil⟩⟩⟩)) ?_
        refine cpAgn1 1340 0 w g83_33 (by decide) h83_34 hb35 h82_31 (fun w63 g64 hc65 hc66 hc67 hc68 hc69 => ?_)
        have hx70 : okA g64 := okA.back hx36 (B := 2680) (by decide) hc68 hc69
        refine xg_t (xg_blq rfl) ?_
        refine xg_t (xg_const) ?_
        have hq71 := rwk_of h84_56 (show 1 < 3 by decide)
        exact xg_e ⟨1, w63, ⟨rfl, rfl⟩, ⟨by omega, fun _ i h => (rwv_of hc65 (by omega)).trans ((hc68 i (Nat.zero_le _) h).trans (rwv_of h83_34 (by omega)).symm), fun j h hj => (rwv_of hc65 hj).trans ((hc69 j (by omega)).trans (rwv_of h83_34 hj).symm), fun h => by omega⟩, xMnv.up (S := [83]) hI (xFr.of (S := [83]) hc67 (by decide)) (List.forall_mem_cons.mpr ⟨xqu83 (show cpx83 (wget w63 83) from ⟨_, hc65, hc66, hx70⟩), fun _ h => absurd h List.not_mem_nil⟩), (xFr.of (S := [83]) hc67 (by decide))⟩
    · refine xg_t (xg_aload (va := (2, 82)) rfl rfl) ?_
      refine xg_t (xg_getf (va := (2, 84)) h82_31 rfl) ?_
      refine xg_t (xg_iload (va := (0, 2)) rfl rfl) ?_
      obtain ⟨g84_72, h84_73, hb74⟩ := (xqc84 hI : cpK 2 0 3 51 1 (wget w 84))
      have h84_73 : xRk 2 0 w 84 3 51 g84_72 := h84_73
      refine xg_baldB (n := 2) (B := 1) h84_73 rfl (hb74) xnm0 (by omega) (fun u75 hu76 he77 => ?_)
      by_cases hc78 : u75 = 0
      · refine xg_t (xg_ifF (u := u75) rfl xnm0 (xj_neF hc78)) ?_
        refine xg_t (xg_blq rfl) ?_
        refine xg_t (xg_const) ?_
        have hq79 := rwk_of h84_73 (show 2 < 3 by decide)
        exact xg_e ⟨0, w, ⟨rfl, rfl⟩, ⟨by omega, fun h => by omega, fun j _ _ => rfl, fun _ => rfl⟩, hI, xFr.rf⟩
      · refine xg_t (xg_ifT (u := u75) rfl xnm0 (xj_neT hc78)) ?_
        refine xg_t (xg_blq rfl) ?_
        refine xg_t (xg_const) ?_
        refine xg_t (xg_istore (l1 := [(0, (2, 82)), (1, (0, 2))]) rfl rfl rfl) ?_
        refine xg_t (xg_drop (l1 := [(0, (2, 82)), (1, (0, 2)), (2, (0, 0))]) (List.forall_mem_cons.mpr ⟨List.mem_cons_of_mem _ (List.mem_cons_self), List.forall_mem_cons.mpr ⟨List.mem_cons_of_mem _ (List.mem_cons_of_mem _ (List.mem_cons_self)), List.forall_mem_cons.mpr ⟨List.mem_cons_self, fun _ h => absurd h List.not_mem_nil⟩⟩⟩)) ?_
        refine cpAgn2 1340 0 w g83_33 (by decide) h83_34 hb35 h82_31 (fun w80 g81 hc82 hc83 hc84 hc85 hc86 => ?_)
        have hx87 : okA g81 := okA.back hx36 (B := 4020) (by decide) hc85 hc86
        refine xg_t (xg_blq rfl) ?_
        refine xg_t (xg_const) ?_
        have hq88 := rwk_of h84_73 (show 2 < 3 by decide)
        exact xg_e ⟨1, w80, ⟨rfl, rfl⟩, ⟨by omega, fun _ i h => (rwv_of hc82 (by omega)).trans ((hc85 i (Nat.zero_le _) h).trans (rwv_of h83_34 (by omega)).symm), fun j h hj => (rwv_of hc82 hj).trans ((hc86 j (by omega)).trans (rwv_of h83_34 hj).symm), fun h => by omega⟩, xMnv.up (S := [83]) hI (xFr.of (S := [83]) hc84 (by decide)) (List.forall_mem_cons.mpr ⟨xqu83 (show cpx83 (wget w80 83) from ⟨_, hc82, hc83, hx87⟩), fun _ h => absurd h List.not_mem_nil⟩), (xFr.of (S := [83]) hc84 (by decide))⟩
  · refine xg_t (xg_ifT (u := (if 0 ≤ kk ∧ kk ≤ 2 then 1 else 0)) rfl xnm0 (xj_eqT (xite0 hc37))) ?_
    refine xg_t (xg_blq rfl) ?_
    refine xg_t (xg_const) ?_
    exact xg_e ⟨0, w, ⟨rfl, rfl⟩, ⟨by omega, fun h => by omega, fun j _ _ => rfl, fun _ => rfl⟩, hI, xFr.rf⟩
end XME2
end
section
/-! the class: what get answers -/
theorem rwf_eq {w w' : List (List xE)} {c c' : Nat} (h : wget w' c' = wget w c) : rwv w' c' = rwv w c := funext fun _ => rwv_eq h
section XGT
variable {d : Nat} {w : List (List xE)} {bd : List (Nat × Nat)} {fc : List (Nat × Nat × Bool)} {rr : Nat × Nat}
theorem xg_kE {Z : Nat} {p0 p1 : Nat} {M : xM} {cs cs1 : List xI} {lo l1 : xLo} {st st1 : List xV} {hp : xH} {P : xS → Prop} (h : xLd d M (p0, cs, lo, st, hp) [(p1, cs1, l1, (0, Z) :: st1, hp)]) (hZ : Z < 4294967296) (K : ∀ z, z < 4294967296 → Z = z → xTo d M (p1, cs1, l1, (0, z) :: st1, hp) P) : xTo d M (p0, cs, lo, st, hp) P := xg_t h (K Z hZ rfl)
theorem rgetX {r a lim wd sz t row what : Nat} {f : Nat → Nat} (h : xRs w r a lim wd sz) (hf : xRow w a (lim * wd) t f) (hl : lim < 2147483648) (hsz : sz ≤ lim) (hw : wd < 2147483648) (hL : lim * wd < 2147483648) (h1 : row < sz) (h2 : what < wd) : xPr d mX5_get [(2, r), (0, row), (0, what)] w bd fc rr [(0, f (row * wd + what))] w := by
  have k := rget_ok (d := d) (bd := bd) (fc := fc) (rr := rr) (row := row) (what := what) h hf hl hsz hw hL (by omega) (by omega)
  rw [if_pos ⟨h1, h2⟩] at k
  exact k
end XGT
end
section
/-! the class: the bytes that feed writes -/
theorem tb_mod8 {z i : Nat} : (z % 256).testBit i = (decide (i < 8) && z.testBit i) := by
  rw [show (256 : Nat) = 2 ^ 8 by decide]
  exact Nat.testBit_mod_two_pow z 8 i
theorem xland255 {z : Nat} : Nat.land z 255 = z % 256 := Nat.and_two_pow_sub_one_eq_mod z 8
theorem nI_bit {u i : Nat} (hi : i < 32) : (nI u).toBitVec.getLsbD i = u.testBit i := by
  show (BitVec.ofNat 32 u).getLsbD i = _
  rw [BitVec.getLsbD_ofNat, decide_eq_true hi, Bool.true_and]
theorem nI_shr {u s : Nat} (hs : s = 0 ∨ s = 8 ∨ s = 16 ∨ s = 24) : (nI u >>> (nI s &&& 31)).toBitVec = (nI u).toBitVec.sshiftRight s := by
  rcases hs with rfl | rfl | rfl | rfl <;> rfl
theorem xpt_shr {u s : Nat} (hs : s = 0 ∨ s = 8 ∨ s = 16 ∨ s = 24) : xpt (nI u >>> (nI s &&& 31)) % 256 = u / 2 ^ s % 256 := by
  apply Nat.eq_of_testBit_eq
  intro i
  rw [tb_mod8, tb_mod8]
  by_cases hi : i < 8
  · rw [← nI_bit (u := xpt (nI u >>> (nI s &&& 31))) (show i < 32 by omega), xpt_eq, nI_shr hs, BitVec.getLsbD_sshiftRight, Nat.testBit_div_two_pow, decide_eq_false (show ¬ 32 ≤ i by omega), if_pos (show s + i < 32 by omega), nI_bit (by omega), Nat.add_comm i s]
    rfl
  · rw [decide_eq_false hi, Bool.false_and, Bool.false_and]
theorem xpt_i2b {u : Nat} : xpt (nI u).toInt8.toInt32 % 256 = u % 256 := by
  apply Nat.eq_of_testBit_eq
  intro i
  rw [tb_mod8, tb_mod8]
  by_cases hi : i < 8
  · rw [← nI_bit (u := xpt (nI u).toInt8.toInt32) (show i < 32 by omega), xpt_eq]
    have e : (nI u).toInt8.toInt32.toBitVec = ((nI u).toBitVec.signExtend 8).signExtend 32 := by rw [Int8.toBitVec_toInt32, Int32.toBitVec_toInt8]
    rw [e, BitVec.getLsbD_signExtend, decide_eq_true (show i < 32 by omega), if_pos hi, BitVec.getLsbD_signExtend, decide_eq_true hi, if_pos (show i < 32 by omega), nI_bit (by omega)]
    rfl
  · rw [decide_eq_false hi, Bool.false_and, Bool.false_and]
theorem xbyt_mod {u : Nat} : xbyt u % 256 = u % 256 := by
  unfold xbyt
  cases (u % 256).blt 128 with
  | true => exact Nat.mod_mod u 256
  | false =>
    show (u % 256 + 4294967040) % 256 = u % 256
    omega
section XFD
variable {d : Nat} {w : List (List xE)} {bd : List (Nat × Nat)} {fc : List (Nat × Nat × Bool)} {rr : Nat × Nat}
theorem tdAppendB {nu : Nat} (hI : xInv w) (h1 : nu ≤ 4294967295) (hl : fld w 1 1 ≤ 496) : xPq d mX9_append [(2, 1), (0, nu)] w bd fc rr [] (fun w' => xInv w' ∧ xFr [1, 2] w w' ∧ (fld w' 1 1 = fld w 1 1 + 4 ∧ (∀ t, t < 4 → rwk w' 2 (fld w 1 1 + t) % 256 = nu / 2 ^ (24 - 8 * t) % 256) ∧ (∀ j, j < fld w 1 1 → rwk w' 2 j = rwk w 2 j) ∧ fld w' 1 2 = fld w 1 2 ∧ fld w' 1 3 = fld w 1 3 ∧ fld w' 1 6 = fld w 1 6 ∧ fld w' 1 7 = fld w 1 7 ∧ fld w' 1 9 = fld w 1 9)) := by
  refine xPq.of ?_
  show xTo d mX9_append (0, [], [(0, (2, 1)), (1, (0, nu))], [], (w, bd, fc, 0, 0, rr)) (fun φ => ∃ w', xEnd 0 [] (w', bd, fc, 0, 0, rr) φ ∧ xInv w' ∧ xFr [1, 2] w w' ∧ (fld w' 1 1 = fld w 1 1 + 4 ∧ (∀ t, t < 4 → rwk w' 2 (fld w 1 1 + t) % 256 = nu / 2 ^ (24 - 8 * t) % 256) ∧ (∀ j, j < fld w 1 1 → rwk w' 2 j = rwk w 2 j) ∧ fld w' 1 2 = fld w 1 2 ∧ fld w' 1 3 = fld w 1 3 ∧ fld w' 1 6 = fld w 1 6 ∧ fld w' 1 7 = fld w 1 7 ∧ fld w' 1 9 = fld w 1 9))
  refine xoC1 (xqc1 hI : cp1 (wget w 1)) (fun f1_1 f1_3 f1_5 f1_7 f1_9 f1_11 h1_13 hb2 hb4 hb6 hb8 hb10 hb12 => ?_)
  have hq14 : fld w 1 1 = f1_1 := fld_of h1_13
  have hq15 : fld w 1 2 = f1_3 := fld_of h1_13
  have hq16 : fld w 1 3 = f1_5 := fld_of h1_13
  have hq17 : fld w 1 6 = f1_7 := fld_of h1_13
  have hq18 : fld w 1 7 = f1_9 := fld_of h1_13
  have hq19 : fld w 1 9 = f1_11 := fld_of h1_13
  refine xg_t (xg_blq rfl) ?_
  refine xg_t (xg_bip) ?_
  refine xg_t (xg_istore (l1 := [(0, (2, 1)), (1, (0, nu))]) rfl rfl rfl) ?_
  refine xg_t (xg_drop (l1 := [(0, (2, 1)), (1, (0, nu)), (2, (0, 24))]) (List.forall_mem_cons.mpr ⟨List.mem_cons_of_mem _ (List.mem_cons_self), List.forall_mem_cons.mpr ⟨List.mem_cons_of_mem _ (List.mem_cons_of_mem _ (List.mem_cons_self)), List.forall_mem_cons.mpr ⟨List.mem_cons_self, fun _ h => absurd h List.not_mem_nil⟩⟩⟩)) ?_
  have key20 : ∀ (m22 : Nat) (sh : Nat) (w23 : List (List xE)), (sh + 8) % 4294967296 < m22 → sh ≤ 4294967295 → xInv w23 → xFr [1, 2] w w23 → ((sh = 24 ∧ fld w23 1 1 = fld w 1 1 + 0 ∨ sh = 16 ∧ fld w23 1 1 = fld w 1 1 + 1 ∨ sh = 8 ∧ fld w23 1 1 = fld w 1 1 + 2 ∨ sh = 0 ∧ fld w23 1 1 = fld w 1 1 + 3 ∨ sh = 4294967288 ∧ fld w23 1 1 = fld w 1 1 + 4) ∧ (∀ t, t < fld w23 1 1 - fld w 1 1 → rwk w23 2 (fld w 1 1 + t) % 256 = nu / 2 ^ (24 - 8 * t) % 256) ∧ (∀ j, j < fld w 1 1 → rwk w23 2 j = rwk w 2 j) ∧ fld w23 1 2 = fld w 1 2 ∧ fld w23 1 3 = fld w 1 3 ∧ fld w23 1 6 = fld w 1 6 ∧ fld w23 1 7 = fld w 1 7 ∧ fld w23 1 9 = fld w 1 9) → xTo d mX9_append (3, [], [(0, (2, 1)), (1, (0, nu)), (2, (0, sh))], [], (w23, bd, fc, 0, 0, rr)) (fun φ => ∃ w', xEnd 0 [] (w', bd, fc, 0, 0, rr) φ ∧ xInv w' ∧ xFr [1, 2] w w' ∧ (fld w' 1 1 = fld w 1 1 + 4 ∧ (∀ t, t < 4 → rwk w' 2 (fld w 1 1 + t) % 256 = nu / 2 ^ (24 - 8 * t) % 256) ∧ (∀ j, j < fld w 1 1 → rwk w' 2 j = rwk w 2 j) ∧ fld w' 1 2 = fld w 1 2 ∧ fld w' 1 3 = fld w 1 3 ∧ fld w' 1 6 = fld w 1 6 ∧ fld w' 1 7 = fld w 1 7 ∧ fld w' 1 9 = fld w 1 9)) := by
    intro m22
    induction m22 with
    | zero => intro sh w23 hz; exact absurd hz (Nat.not_lt_zero _)
    | succ m22 ih21 =>
      intro sh w23 hm28 hn26 hI24 hF25 he27
      obtain ⟨he29, he30, he31, he32, he33, he34, he35, he36⟩ := he27
      refine xoC1 (xqc1 hI24 : cp1 (wget w23 1)) (fun f1_37 f1_39 f1_41 f1_43 f1_45 f1_47 h1_49 hb38 hb40 hb42 hb44 hb46 hb48 => ?_)
      have hq50 : fld w23 1 1 = f1_37 := fld_of h1_49
      have hq51 : fld w23 1 2 = f1_39 := fld_of h1_49
      have hq52 : fld w23 1 3 = f1_41 := fld_of h1_49
      have hq53 : fld w23 1 6 = f1_43 := fld_of h1_49
      have hq54 : fld w23 1 7 = f1_45 := fld_of h1_49
      have hq55 : fld w23 1 9 = f1_47 := fld_of h1_49
      obtain ⟨g2_56, h2_57, hb58⟩ := (xqc2 hI24 : cpY 500 0 (wget w23 2))
      have h2_57 : xRk 1 0 w23 2 500 0 g2_56 := h2_57
      refine xg_t (xg_blq rfl) ?_
      refine xg_t (xg_iload (va := (0, sh)) rfl rfl) ?_
      by_cases hc59 : sh < 2147483648
      · refine xg_t (xg_ifF (u := sh) rfl xnm0 (xjz_ltF hc59)) ?_
        refine xg_t (xg_aload (va := (2, 1)) rfl rfl) ?_
        refine xg_t (xg_getf (va := (0, f1_37)) h1_49 rfl) ?_
        refine xg_t (xg_sip) ?_
        by_cases hc60 : f1_37 < 500
        · refine xg_t (xg_icF (u := f1_37) (v := 500) rfl xnm0 xnm0 (xj_geF hc60 (by omega))) ?_
          refine xg_t (xg_aload (va := (2, 1)) rfl rfl) ?_
          refine xg_t (xg_getf (va := (2, 2)) h1_49 rfl) ?_
          refine xg_t (xg_aload (va := (2, 1)) rfl rfl) ?_
          refine xg_t (xg_getf (va := (0, f1_37)) h1_49 rfl) ?_
          refine xg_t (xg_iload (va := (0, nu)) rfl rfl) ?_
          refine xg_t (xg_iload (va := (0, sh)) rfl rfl) ?_
          refine xg_kE (xg_ishrG (u := nu) (v := sh) xnm0 xnm0) (xpt_lt _) (fun z61 hz62 hE63 => ?_)
          refine xg_kE (xg_i2b (u := z61) xnm0) (xpt_lt _) (fun z64 hz65 hE66 => ?_)
          refine xg_bastY (n := f1_37) (u := z64) h2_57 xnm0 xnm0 rfl (by omega) (fun w67 hr68 hb69 => ?_)
          refine xg_t (xg_aload (va := (2, 1)) rfl rfl) ?_
          refine xg_t (xg_dup rfl) ?_
          refine xg_t (xg_getf (va := (0, f1_37)) (hb69.get (by decide) h1_49) rfl) ?_
          refine xg_t (xg_const) ?_
          refine xg_t (xg_iadd (u := f1_37) (v := 1) (z := f1_37 + 1) xnm0 xnm0 (by omega)) ?_
          refine xg_putI (fl1 := [(2, 2), (0, f1_37 + 1), (0, f1_39), (0, f1_41), (2, 3), (2, 14), (0, f1_43), (0, f1_45), (2, 16), (0, f1_47), (2, 18), (2, 20), (2, 22), (2, 24)]) (hb69.get (by decide) h1_49) rfl rfl rfl (fun w70 hk71 hb72 => ?_)
          refine xg_t (xg_iinc (u := sh) (z := (sh + 4294967288) % 4294967296) (l1 := [(0, (2, 1)), (1, (0, nu))]) rfl rfl (rfl) rfl) ?_
          refine xg_t (xg_goto) ?_
          refine xg_t (xg_drop (l1 := [(0, (2, 1)), (1, (0, nu)), (2, (0, (sh + 4294967288) % 4294967296))]) (List.forall_mem_cons.mpr ⟨List.mem_cons_of_mem _ (List.mem_cons_self), List.forall_mem_cons.mpr ⟨List.mem_cons_of_mem _ (List.mem_cons_of_mem _ (List.mem_cons_self)), List.forall_mem_cons.mpr ⟨List.mem_cons_self, fun _ h => absurd h List.not_mem_nil⟩⟩⟩)) ?_
          have hq73 : fld w70 1 1 = f1_37 + 1 := fld_of hk71
          have hq74 : fld w70 1 2 = f1_39 := fld_of hk71
          have hq75 : fld w70 1 3 = f1_41 := fld_of hk71
          have hq76 : fld w70 1 6 = f1_43 := fld_of hk71
          have hq77 : fld w70 1 7 = f1_45 := fld_of hk71
          have hq78 : fld w70 1 9 = f1_47 := fld_of hk71
          have hn79 : ∀ t, t < fld w70 1 1 - fld w 1 1 → rwk w70 2 (fld w 1 1 + t) % 256 = nu / 2 ^ (24 - 8 * t) % 256 := fun t ht => by
            rw [rwk_of (hr68.but hb72 (by decide)) (by omega)]
            show (if fld w 1 1 + t = f1_37 then xbyt z64 else g2_56 (fld w 1 1 + t)) % 256 = _
            by_cases e : fld w 1 1 + t = f1_37
            · rw [if_pos e, xbyt_mod, ← hE66, xpt_i2b, ← hE63, xpt_shr (by omega)]
              rw [show sh = 24 - 8 * t by omega]
            · rw [if_neg e, ← rwk_of h2_57 (by omega)]
              exact he30 t (by omega)
          have ho80 : ∀ j, j < fld w 1 1 → rwk w70 2 j = rwk w 2 j := fun j hj => by
            rw [rwk_of (hr68.but hb72 (by decide)) (by omega)]
            show (if j = f1_37 then xbyt z64 else g2_56 j) = _
            rw [if_neg (by omega), ← rwk_of h2_57 (by omega)]
            exact he31 j hj
          exact ih21 ((sh + 4294967288) % 4294967296) w70 (by omega) (by omega) (xInv.up (S := [2, 1]) hI24 ((xFr.of (S := [2, 1]) hb69 (by decide)).tr (xFr.of (S := [2, 1]) hb72 (by decide))) (List.forall_mem_cons.mpr ⟨xqu2 (show cpY 500 0 (wget w70 2) from ⟨_, (hr68.but hb72 (by decide)), xrbY (xby_byt _) (hb58)⟩), List.forall_mem_cons.mpr ⟨xqu1 (show cp1 (wget w70 1) from xmC1 (f1_37 + 1) f1_39 f1_41 f1_43 f1_45 f1_47 hk71 (by omega) hb40 hb42 hb44 hb46 hb48), fun _ h => absurd h List.not_mem_nil⟩⟩)) ((hF25.tr ((xFr.of (S := [1, 2]) hb69 (by decide)).tr (xFr.of (S := [1, 2]) hb72 (by decide))))) (⟨by omega, hn79, ho80, by omega, by omega, by omega, by omega, by omega⟩)
        · refine xg_t (xg_icT (u := f1_37) (v := 500) rfl xnm0 xnm0 (xj_geT (by omega) (by omega))) ?_
          refine xg_t (xg_blq rfl) ?_
          exact xg_e ⟨w23, ⟨rfl, rfl⟩, hI24, hF25, ⟨by omega, fun t ht => he30 t (by omega), he31, by omega, by omega, by omega, by omega, by omega⟩⟩
      · refine xg_t (xg_ifT (u := sh) rfl xnm0 (xjz_ltT (by omega) (by omega))) ?_
        refine xg_t (xg_blq rfl) ?_
        exact xg_e ⟨w23, ⟨rfl, rfl⟩, hI24, hF25, ⟨by omega, fun t ht => he30 t (by omega), he31, by omega, by omega, by omega, by omega, by omega⟩⟩
  exact key20 _ 24 w (Nat.lt_succ_self _) (by omega) (hI) (xFr.rf) (⟨by omega, fun t ht => absurd ht (by omega), fun j _ => rfl, rfl, rfl, rfl, rfl, rfl⟩)
def fdB (a b c d e i : Nat) : Nat := (if i < 4 then a else if i < 8 then b else if i < 12 then c else if i < 16 then d else e) / 2 ^ (24 - 8 * (i % 4)) % 256
theorem fdB_all {a b c d e L : Nat} {r0 r1 r2 r3 r4 r5 : Nat → Nat} (a1 : ∀ t, t < 4 → r1 (L + t) % 256 = a / 2 ^ (24 - 8 * t) % 256) (b1 : ∀ j, j < L → r1 j = r0 j) (a2 : ∀ t, t < 4 → r2 (L + 4 + t) % 256 = b / 2 ^ (24 - 8 * t) % 256) (b2 : ∀ j, j < L + 4 → r2 j = r1 j) (a3 : ∀ t, t < 4 → r3 (L + 8 + t) % 256 = c / 2 ^ (24 - 8 * t) % 256) (b3 : ∀ j, j < L + 8 → r3 j = r2 j) (a4 : ∀ t, t < 4 → r4 (L + 12 + t) % 256 = d / 2 ^ (24 - 8 * t) % 256) (b4 : ∀ j, j < L + 12 → r4 j = r3 j) (a5 : ∀ t, t < 4 → r5 (L + 16 + t) % 256 = e / 2 ^ (24 - 8 * t) % 256) (b5 : ∀ j, j < L + 16 → r5 j = r4 j) : (∀ i, i < 20 → r5 (L + i) % 256 = fdB a b c d e i) ∧ ∀ j, j < L → r5 j = r0 j := by
  refine ⟨fun i hi => ?_, fun j hj => by rw [b5 j (by omega), b4 j (by omega), b3 j (by omega), b2 j (by omega), b1 j hj]⟩
  unfold fdB
  by_cases h1 : i < 4
  · rw [if_pos h1, b5 _ (by omega), b4 _ (by omega), b3 _ (by omega), b2 _ (by omega), a1 i h1, Nat.mod_eq_of_lt h1]
  · rw [if_neg h1]
    by_cases h2 : i < 8
    · rw [if_pos h2, b5 _ (by omega), b4 _ (by omega), b3 _ (by omega), show L + i = L + 4 + i % 4 by omega, a2 (i % 4) (by omega)]
    · rw [if_neg h2]
      by_cases h3 : i < 12
      · rw [if_pos h3, b5 _ (by omega), b4 _ (by omega), show L + i = L + 8 + i % 4 by omega, a3 (i % 4) (by omega)]
      · rw [if_neg h3]
        by_cases h4 : i < 16
        · rw [if_pos h4, b5 _ (by omega), show L + i = L + 12 + i % 4 by omega, a4 (i % 4) (by omega)]
        · rw [if_neg h4, show L + i = L + 16 + i % 4 by omega, a5 (i % 4) (by omega)]
theorem scFeedB {fa fb fc_ fd fe : Nat} (hI : xInv w) (hfa : fa ≤ 4294967295) (hfb : fb ≤ 4294967295) (hfc_ : fc_ ≤ 4294967295) (hfd : fd ≤ 4294967295) (hfe : fe ≤ 4294967295) : xPi (d + 1) mX11_feed [(2, 0), (0, fa), (0, fb), (0, fc_), (0, fd), (0, fe)] w bd fc rr (fun n w' => (((n = fld w 1 1 + 20 ∧ fld w 1 1 ≤ 480 ∧ fld w' 1 1 = fld w 1 1 + 20 ∧ (∀ i, i < 20 → rwk w' 2 (fld w 1 1 + i) % 256 = fdB fa fb fc_ fd fe i) ∧ (∀ j, j < fld w 1 1 → rwk w' 2 j = rwk w 2 j)) ∨ (n = 4294967295 ∧ ¬ fld w 1 1 ≤ 480 ∧ w' = w)) ∧ fld w' 1 2 = fld w 1 2 ∧ fld w' 1 3 = fld w 1 3 ∧ fld w' 1 6 = fld w 1 6 ∧ fld w' 1 7 = fld w 1 7 ∧ fld w' 1 9 = fld w 1 9) ∧ xInv w' ∧ xFr [1, 2] w w') := by
  refine xPi.of ?_
  show xTo (d + 1) mX11_feed (0, [], [(0, (2, 0)), (1, (0, fa)), (2, (0, fb)), (3, (0, fc_)), (4, (0, fd)), (5, (0, fe))], [], (w, bd, fc, 0, 0, rr)) (fun φ => ∃ n w', xEnd 1 [(0, n)] (w', bd, fc, 0, 0, rr) φ ∧ (((n = fld w 1 1 + 20 ∧ fld w 1 1 ≤ 480 ∧ fld w' 1 1 = fld w 1 1 + 20 ∧ (∀ i, i < 20 → rwk w' 2 (fld w 1 1 + i) % 256 = fdB fa fb fc_ fd fe i) ∧ (∀ j, j < fld w 1 1 → rwk w' 2 j = rwk w 2 j)) ∨ (n = 4294967295 ∧ ¬ fld w 1 1 ≤ 480 ∧ w' = w)) ∧ fld w' 1 2 = fld w 1 2 ∧ fld w' 1 3 = fld w 1 3 ∧ fld w' 1 6 = fld w 1 6 ∧ fld w' 1 7 = fld w 1 7 ∧ fld w' 1 9 = fld w 1 9) ∧ xInv w' ∧ xFr [1, 2] w w')
  have h0_1 := (xqc0 hI : cp0 (wget w 0))
  refine xoC1 (xqc1 hI : cp1 (wget w 1)) (fun f1_2 f1_4 f1_6 f1_8 f1_10 f1_12 h1_14 hb3 hb5 hb7 hb9 hb11 hb13 => ?_)
  have hq15 : fld w 1 1 = f1_2 := fld_of h1_14
  have hq16 : fld w 1 2 = f1_4 := fld_of h1_14
  have hq17 : fld w 1 3 = f1_6 := fld_of h1_14
  have hq18 : fld w 1 6 = f1_8 := fld_of h1_14
  have hq19 : fld w 1 7 = f1_10 := fld_of h1_14
  have hq20 : fld w 1 9 = f1_12 := fld_of h1_14
  refine xg_t (xg_blq rfl) ?_
  refine xg_t (xg_aload (va := (2, 0)) rfl rfl) ?_
  refine xg_t (xg_getf (va := (2, 1)) h0_1 rfl) ?_
  refine xg_t (xg_getf (va := (0, f1_2)) h1_14 rfl) ?_
  refine xg_t (xg_sip) ?_
  by_cases hc21 : 480 < f1_2
  · refine xg_t (xg_icF (u := f1_2) (v := 480) rfl xnm0 xnm0 (xj_leF hc21 (by omega))) ?_
    refine xg_t (xg_const) ?_
    have hq22 : fld w 1 1 = f1_2 := fld_of h1_14
    have hq23 : fld w 1 2 = f1_4 := fld_of h1_14
    have hq24 : fld w 1 3 = f1_6 := fld_of h1_14
    have hq25 : fld w 1 6 = f1_8 := fld_of h1_14
    have hq26 : fld w 1 7 = f1_10 := fld_of h1_14
    have hq27 : fld w 1 9 = f1_12 := fld_of h1_14
    exact xg_e ⟨4294967295, w, ⟨rfl, rfl⟩, ⟨Or.inr ⟨rfl, by omega, rfl⟩, by omega, by omega, by omega, by omega, by omega⟩, hI, xFr.rf⟩
  · refine xg_t (xg_icT (u := f1_2) (v := 480) rfl xnm0 xnm0 (xj_leT (by omega) (by omega))) ?_
    refine xg_t (xg_blq rfl) ?_
    refine xg_t (xg_aload (va := (2, 0)) rfl rfl) ?_
    refine xg_t (xg_getf (va := (2, 1)) h0_1 rfl) ?_
    refine xg_t (xg_iload (va := (0, fa)) rfl rfl) ?_
    refine xg_cVv mX9_append (vs := [(0, fa)]) (rest := []) (cn1 := 0) (sl1 := 0) rfl (tdAppendB (hI) (by omega) (by omega)) rfl h1_14 rfl rfl rfl rfl rfl rfl (fun w28 hq29 => ?_)
    obtain ⟨hI30, hF31, hx32⟩ := hq29
    obtain ⟨ht33, ht34, ht35, ht36, ht37, ht38, ht39, ht40⟩ := hx32
    refine xg_t (xg_aload (va := (2, 0)) rfl rfl) ?_
    refine xg_t (xg_getf (va := (2, 1)) (hF31.get (by decide) h0_1) rfl) ?_
    refine xg_t (xg_iload (va := (0, fb)) rfl rfl) ?_
    refine xoC1 (xqc1 hI30 : cp1 (wget w28 1)) (fun f1_41 f1_43 f1_45 f1_47 f1_49 f1_51 h1_53 hb42 hb44 hb46 hb48 hb50 hb52 => ?_)
    refine xg_cVv mX9_append (vs := [(0, fb)]) (rest := []) (cn1 := 0) (sl1 := 0) rfl (tdAppendB (hI30) (by omega) (by omega)) rfl h1_53 rfl rfl rfl rfl rfl rfl (fun w54 hq55 => ?_)
    obtain ⟨hI56, hF57, hx58⟩ := hq55
    obtain ⟨ht59, ht60, ht61, ht62, ht63, ht64, ht65, ht66⟩ := hx58
    refine xg_t (xg_aload (va := (2, 0)) rfl rfl) ?_
    refine xg_t (xg_getf (va := (2, 1)) (hF57.get (by decide) (hF31.get (by decide) h0_1)) rfl) ?_
    refine xg_t (xg_iload (va := (0, fc_)) rfl rfl) ?_
    refine xoC1 (xqc1 hI56 : cp1 (wget w54 1)) (fun f1_67 f1_69 f1_71 f1_73 f1_75 f1_77 h1_79 hb68 hb70 hb72 hb74 hb76 hb78 => ?_)
    refine xg_cVv mX9_append (vs := [(0, fc_)]) (rest := []) (cn1 := 0) (sl1 := 0) rfl (tdAppendB (hI56) (by omega) (by omega)) rfl h1_79 rfl rfl rfl rfl rfl rfl (fun w80 hq81 => ?_)
    obtain ⟨hI82, hF83, hx84⟩ := hq81
    obtain ⟨ht85, ht86, ht87, ht88, ht89, ht90, ht91, ht92⟩ := hx84
    refine xg_t (xg_aload (va := (2, 0)) rfl rfl) ?_
    refine xg_t (xg_getf (va := (2, 1)) (hF83.get (by decide) (hF57.get (by decide) (hF31.get (by decide) h0_1))) rfl) ?_
    refine xg_t (xg_iload (va := (0, fd)) rfl rfl) ?_
    refine xoC1 (xqc1 hI82 : cp1 (wget w80 1)) (fun f1_93 f1_95 f1_97 f1_99 f1_101 f1_103 h1_105 hb94 hb96 hb98 hb100 hb102 hb104 => ?_)
    refine xg_cVv mX9_append (vs := [(0, fd)]) (rest := []) (cn1 := 0) (sl1 := 0) rfl (tdAppendB (hI82) (by omega) (by omega)) rfl h1_105 rfl rfl rfl rfl rfl rfl (fun w106 hq107 => ?_)
    obtain ⟨hI108, hF109, hx110⟩ := hq107
    obtain ⟨ht111, ht112, ht113, ht114, ht115, ht116, ht117, ht118⟩ := hx110
    refine xg_t (xg_aload (va := (2, 0)) rfl rfl) ?_
    refine xg_t (xg_getf (va := (2, 1)) (hF109.get (by decide) (hF83.get (by decide) (hF57.get (by decide) (hF31.get (by decide) h0_1)))) rfl) ?_
    refine xg_t (xg_iload (va := (0, fe)) rfl rfl) ?_
    refine xoC1 (xqc1 hI108 : cp1 (wget w106 1)) (fun f1_119 f1_121 f1_123 f1_125 f1_127 f1_129 h1_131 hb120 hb122 hb124 hb126 hb128 hb130 => ?_)
    refine xg_cVv mX9_append (vs := [(0, fe)]) (rest := []) (cn1 := 0) (sl1 := 0) rfl (tdAppendB (hI108) (by omega) (by omega)) rfl h1_131 rfl rfl rfl rfl rfl rfl (fun w132 hq133 => ?_)
    obtain ⟨hI134, hF135, hx136⟩ := hq133
    obtain ⟨ht137, ht138, ht139, ht140, ht141, ht142, ht143, ht144⟩ := hx136
    refine xg_t (xg_aload (va := (2, 0)) rfl rfl) ?_
    refine xg_t (xg_getf (va := (2, 1)) (hF135.get (by decide) (hF109.get (by decide) (hF83.get (by decide) (hF57.get (by decide) (hF31.get (by decide) h0_1))))) rfl) ?_
    refine xoC1 (xqc1 hI134 : cp1 (wget w132 1)) (fun f1_145 f1_147 f1_149 f1_151 f1_153 f1_155 h1_157 hb146 hb148 hb150 hb152 hb154 hb156 => ?_)
    refine xg_t (xg_getf (va := (0, f1_145)) h1_157 rfl) ?_
    have hq158 : fld w 1 1 = f1_2 := fld_of h1_14
    have hq159 : fld w132 1 1 = f1_145 := fld_of h1_157
    have hq160 : fld w 1 2 = f1_4 := fld_of h1_14
    have hq161 : fld w132 1 2 = f1_147 := fld_of h1_157
    have hq162 : fld w 1 3 = f1_6 := fld_of h1_14
    have hq163 : fld w132 1 3 = f1_149 := fld_of h1_157
    have hq164 : fld w 1 6 = f1_8 := fld_of h1_14
    have hq165 : fld w132 1 6 = f1_151 := fld_of h1_157
    have hq166 : fld w 1 7 = f1_10 := fld_of h1_14
    have hq167 : fld w132 1 7 = f1_153 := fld_of h1_157
    have hq168 : fld w 1 9 = f1_12 := fld_of h1_14
    have hq169 : fld w132 1 9 = f1_155 := fld_of h1_157
    have ha171 := fun t ht => (show _ from ht60 t ht)
    rw [show fld w28 1 1 = fld w 1 1 + 4 by omega] at ha171
    have hb172 := ht61
    rw [show fld w28 1 1 = fld w 1 1 + 4 by omega] at hb172
    have ha173 := fun t ht => (show _ from ht86 t ht)
    rw [show fld w54 1 1 = fld w 1 1 + 8 by omega] at ha173
    have hb174 := ht87
    rw [show fld w54 1 1 = fld w 1 1 + 8 by omega] at hb174
    have ha175 := fun t ht => (show _ from ht112 t ht)
    rw [show fld w80 1 1 = fld w 1 1 + 12 by omega] at ha175
    have hb176 := ht113
    rw [show fld w80 1 1 = fld w 1 1 + 12 by omega] at hb176
    have ha177 := fun t ht => (show _ from ht138 t ht)
    rw [show fld w106 1 1 = fld w 1 1 + 16 by omega] at ha177
    have hb178 := ht139
    rw [show fld w106 1 1 = fld w 1 1 + 16 by omega] at hb178
    have hz170 := fdB_all (a := fa) (b := fb) (c := fc_) (d := fd) (e := fe) (r0 := rwk w 2) ht34 ht35 ha171 hb172 ha173 hb174 ha175 hb176 ha177 hb178
    exact xg_e ⟨f1_145, w132, ⟨rfl, rfl⟩, ⟨Or.inl ⟨by omega, by omega, by omega, hz170.1, hz170.2⟩, by omega, by omega, by omega, by omega, by omega⟩, hI134, (((((hF31.up (by decide)).tr (hF57.up (by decide))).tr (hF83.up (by decide))).tr (hF109.up (by decide))).tr (hF135.up (by decide)))⟩
end XFD
end
section
/-! texts: numbers alone -/
section XPF
variable {c : Nat → Bool} {B f g : Nat → Nat} {n p q a b v : Nat}
def pru (c : Nat → Bool) (B : Nat → Nat) (n : Nat) : Nat → Nat → Nat
  | 0, p => p
  | k + 1, p => cond (decide (p < n) && c (B p)) (pru c B n k (p + 1)) p
/-- behind what is of one kind -/
def prn (c : Nat → Bool) (B : Nat → Nat) (n p : Nat) : Nat := pru c B n (n - p) p
theorem prn_y (h : p < n) (hc : c (B p) = true) : prn c B n p = prn c B n (p + 1) := by
  unfold prn
  obtain ⟨k, hk⟩ : ∃ k, n - p = k + 1 := ⟨n - p - 1, by omega⟩
  rw [hk, show n - (p + 1) = k by omega]
  show cond (decide (p < n) && c (B p)) (pru c B n k (p + 1)) p = _
  rw [hc, decide_eq_true h]
  rfl
theorem prn_e (h : n ≤ p) : prn c B n p = p := by
  unfold prn
  rw [show n - p = 0 by omega]
  rfl
theorem prn_n (hc : c (B p) = false) : prn c B n p = p := by
  unfold prn
  cases n - p with
  | zero => rfl
  | succ k =>
    show cond (decide (p < n) && c (B p)) (pru c B n k (p + 1)) p = p
    rw [hc, Bool.and_false]
    rfl
theorem pru_b (c : Nat → Bool) (B : Nat → Nat) (n : Nat) : ∀ k p, p ≤ pru c B n k p ∧ pru c B n k p ≤ p + k ∧ ∀ j, p ≤ j → j < pru c B n k p → j < n ∧ c (B j) = true
  | 0, p => ⟨Nat.le_refl _, Nat.le_refl _, fun j h1 h2 => absurd (show j < p from h2) (by omega)⟩
  | k + 1, p => by
    obtain ⟨h1, h2, h3⟩ := pru_b c B n k (p + 1)
    by_cases e : p < n ∧ c (B p) = true
    · have z : pru c B n (k + 1) p = pru c B n k (p + 1) := by
        show cond (decide (p < n) && c (B p)) (pru c B n k (p + 1)) p = _
        rw [e.2, decide_eq_true e.1]
        rfl
      rw [z]
      refine ⟨by omega, by omega, fun j a1 a2 => ?_⟩
      by_cases y : j = p
      · rw [y]
        exact e
      · exact h3 j (by omega) a2
    · have z : pru c B n (k + 1) p = p := by
        show cond (decide (p < n) && c (B p)) (pru c B n k (p + 1)) p = p
        cases y : c (B p) with
        | false => rw [Bool.and_false]; rfl
        | true => rw [decide_eq_false (fun w => e ⟨w, y⟩)]; rfl
      rw [z]
      exact ⟨Nat.le_refl _, by omega, fun j a1 a2 => absurd a1 (by omega)⟩
theorem prn_ge : p ≤ prn c B n p := (pru_b c B n _ _).1
theorem prn_le (h : p ≤ n) : prn c B n p ≤ n := by
  have := (pru_b c B n (n - p) p).2.1
  unfold prn
  omega
theorem prn_all {j : Nat} (h1 : p ≤ j) (h2 : j < prn c B n p) : j < n ∧ c (B j) = true := (pru_b c B n (n - p) p).2.2 j h1 h2
def cB (b : Nat) : Bool := decide (b = 10 ∨ b = 32)
def cL (b : Nat) : Bool := decide (97 ≤ b ∧ b ≤ 122)
def cD (b : Nat) : Bool := decide (48 ≤ b ∧ b ≤ 57)
def cS (b : Nat) : Bool := decide (b = 59 ∨ b = 58 ∨ b = 60 ∨ b = 62 ∨ b = 61)
theorem cB_t (h : b = 10 ∨ b = 32) : cB b = true := decide_eq_true h
theorem cB_f (h : ¬ (b = 10 ∨ b = 32)) : cB b = false := decide_eq_false h
theorem cL_t (h : 97 ≤ b ∧ b ≤ 122) : cL b = true := decide_eq_true h
theorem cL_f (h : ¬ (97 ≤ b ∧ b ≤ 122)) : cL b = false := decide_eq_false h
theorem cD_t (h : 48 ≤ b ∧ b ≤ 57) : cD b = true := decide_eq_true h
theorem cD_f (h : ¬ (48 ≤ b ∧ b ≤ 57)) : cD b = false := decide_eq_false h
theorem cS_t (h : b = 59 ∨ b = 58 ∨ b = 60 ∨ b = 62 ∨ b = 61) : cS b = true := decide_eq_true h
theorem cS_f (h : ¬ (b = 59 ∨ b = 58 ∨ b = 60 ∨ b = 62 ∨ b = 61)) : cS b = false := decide_eq_false h
theorem cL_of (h : cL b = true) : 97 ≤ b ∧ b ≤ 122 := of_decide_eq_true h
theorem cD_of (h : cD b = true) : 48 ≤ b ∧ b ≤ 57 := of_decide_eq_true h
/-- where the token at hand begins, and where it ends -/
def tq (B : Nat → Nat) (n p : Nat) : Nat := prn cB B n p
def tf (B : Nat → Nat) (n p : Nat) : Nat := if n ≤ tq B n p then tq B n p else if cL (B (tq B n p)) = true then prn cL B n (tq B n p) else if cD (B (tq B n p)) = true then prn cD B n (tq B n p) else tq B n p + 1
/-- 0 the end, 1 a word, 2 a number, 3 a sign, 4 something else -/
def tkd (B : Nat → Nat) (n p : Nat) : Nat := if n ≤ tq B n p then 0 else if cL (B (tq B n p)) = true then 1 else if cD (B (tq B n p)) = true then (if 4 < tf B n p - tq B n p then 4 else 2) else if cS (B (tq B n p)) = true then 3 else 4
def dgv (B : Nat → Nat) (q : Nat) : Nat → Nat
  | 0 => 0
  | k + 1 => 10 * dgv B q k + (B (q + k) - 48)
def tnu (B : Nat → Nat) (n p : Nat) : Nat := dgv B (tq B n p) (min 4 (tf B n p - tq B n p))
def wvv (B : Nat → Nat) (q : Nat) : Nat → Nat
  | 0 => 0
  | k + 1 => 32 * wvv B q k + (B (q + k) - 96)
/-- a word of six letters or less, as a number; 0: none -/
def twk (B : Nat → Nat) (n p : Nat) : Nat := if tkd B n p = 1 ∧ tf B n p - tq B n p ≤ 6 then wvv B (tq B n p) (tf B n p - tq B n p) else 0
def qcd (L : List Nat) : Nat := wvv (fun j => L.getD j 0) 0 L.length
theorem tq_ge : p ≤ tq B n p := prn_ge
theorem tq_le (h : p ≤ n) : tq B n p ≤ n := prn_le h
theorem tk_end (h : n ≤ tq B n p) : tkd B n p = 0 ∧ tf B n p = tq B n p := by
  unfold tkd tf
  rw [if_pos h, if_pos h]
  exact ⟨rfl, rfl⟩
theorem tk_word (h : tq B n p < n) (hc : cL (B (tq B n p)) = true) : tkd B n p = 1 ∧ tf B n p = prn cL B n (tq B n p) := by
  unfold tkd tf
  rw [if_neg (by omega), if_pos hc, if_neg (by omega), if_pos hc]
  exact ⟨rfl, rfl⟩
theorem tk_num (h : tq B n p < n) (hl : cL (B (tq B n p)) = false) (hc : cD (B (tq B n p)) = true) : tkd B n p = (if 4 < tf B n p - tq B n p then 4 else 2) ∧ tf B n p = prn cD B n (tq B n p) := by
  refine ⟨?_, ?_⟩
  · unfold tkd
    rw [if_neg (by omega), hl, if_neg Bool.false_ne_true, if_pos hc]
  · unfold tf
    rw [if_neg (by omega), hl, if_neg Bool.false_ne_true, if_pos hc]
theorem tk_sign (h : tq B n p < n) (hl : cL (B (tq B n p)) = false) (hd : cD (B (tq B n p)) = false) : tkd B n p = (if cS (B (tq B n p)) = true then 3 else 4) ∧ tf B n p = tq B n p + 1 := by
  refine ⟨?_, ?_⟩
  · unfold tkd
    rw [if_neg (by omega), hl, if_neg Bool.false_ne_true, hd, if_neg Bool.false_ne_true]
  · unfold tf
    rw [if_neg (by omega), hl, if_neg Bool.false_ne_true, hd, if_neg Bool.false_ne_true]
theorem tf_ge : tq B n p ≤ tf B n p := by
  unfold tf
  split
  · exact Nat.le_refl _
  · split
    · exact prn_ge
    · split
      · exact prn_ge
      · omega
theorem tf_le (h : p ≤ n) : tf B n p ≤ n := by
  have hq : tq B n p ≤ n := tq_le h
  unfold tf
  split
  · exact hq
  · split
    · exact prn_le hq
    · split
      · exact prn_le hq
      · omega
/-- a token takes one byte or more -/
theorem tf_gt (h : tkd B n p ≠ 0) : tq B n p < n ∧ tq B n p < tf B n p := by
  by_cases e : n ≤ tq B n p
  · exact absurd (tk_end e).1 h
  · have e : tq B n p < n := by omega
    refine ⟨e, ?_⟩
    cases hl : cL (B (tq B n p)) with
    | true =>
      rw [(tk_word e hl).2, prn_y e hl]
      exact prn_ge
    | false =>
      cases hd : cD (B (tq B n p)) with
      | true =>
        rw [(tk_num e hl hd).2, prn_y e hd]
        exact prn_ge
      | false =>
        rw [(tk_sign e hl hd).2]
        omega
theorem tk_le4 : tkd B n p ≤ 4 := by
  unfold tkd
  repeat' split
  all_goals omega
theorem tk_kinds : tkd B n p = 0 ∨ tkd B n p = 1 ∨ tkd B n p = 2 ∨ tkd B n p = 3 ∨ tkd B n p = 4 := by
  have := tk_le4 (B := B) (n := n) (p := p)
  omega
/-- what a kind says -/
theorem tk1_of (h : tkd B n p = 1) : tq B n p < n ∧ cL (B (tq B n p)) = true ∧ tf B n p = prn cL B n (tq B n p) := by
  by_cases e : n ≤ tq B n p
  · have := (tk_end e).1
    omega
  · have e : tq B n p < n := by omega
    cases hl : cL (B (tq B n p)) with
    | true => exact ⟨e, rfl, (tk_word e hl).2⟩
    | false =>
      exfalso
      cases hd : cD (B (tq B n p)) with
      | true =>
        have k := (tk_num e hl hd).1
        rw [h] at k
        split at k <;> omega
      | false =>
        have k := (tk_sign e hl hd).1
        rw [h] at k
        split at k <;> omega
theorem tk_let {j : Nat} (h : tkd B n p = 1) (h1 : tq B n p ≤ j) (h2 : j < tf B n p) : 97 ≤ B j ∧ B j ≤ 122 := by
  rw [(tk1_of h).2.2] at h2
  exact cL_of (prn_all h1 h2).2
theorem dgv_y (h : p ≤ a) (h4 : a - p < 4) : dgv B p (min 4 (a + 1 - p)) = 10 * dgv B p (min 4 (a - p)) + (B a - 48) := by
  rw [show min 4 (a + 1 - p) = (a - p) + 1 by omega, show min 4 (a - p) = a - p by omega]
  show 10 * dgv B p (a - p) + (B (p + (a - p)) - 48) = _
  rw [show p + (a - p) = a by omega]
theorem dgv_n (h4 : 4 ≤ a - p) : dgv B p (min 4 (a + 1 - p)) = dgv B p (min 4 (a - p)) := by
  rw [show min 4 (a + 1 - p) = min 4 (a - p) by omega]
theorem dgv_0 : dgv B p (min 4 (p - p)) = 0 := by
  rw [Nat.sub_self]
  rfl
theorem dgv_le : ∀ k, (∀ j, j < k → B (q + j) ≤ 57) → k ≤ 4 → dgv B q k ≤ 9999 ∧ (k ≤ 3 → dgv B q k ≤ 999) ∧ (k ≤ 2 → dgv B q k ≤ 99) ∧ (k ≤ 1 → dgv B q k ≤ 9)
  | 0, _, _ => ⟨Nat.zero_le _, fun _ => Nat.zero_le _, fun _ => Nat.zero_le _, fun _ => Nat.zero_le _⟩
  | k + 1, h, h4 => by
    obtain ⟨h1, h2, h3, h5⟩ := dgv_le k (fun j hj => h j (by omega)) (by omega)
    have hb := h k (by omega)
    show 10 * dgv B q k + (B (q + k) - 48) ≤ 9999 ∧ (k + 1 ≤ 3 → 10 * dgv B q k + (B (q + k) - 48) ≤ 999) ∧ (k + 1 ≤ 2 → 10 * dgv B q k + (B (q + k) - 48) ≤ 99) ∧ (k + 1 ≤ 1 → 10 * dgv B q k + (B (q + k) - 48) ≤ 9)
    have z : k + 1 ≤ 1 → dgv B q k = 0 := fun e => by
      have : k = 0 := by omega
      subst this
      rfl
    refine ⟨?_, fun e => ?_, fun e => ?_, fun e => ?_⟩
    · have := h2 (by omega)
      omega
    · have := h3 (by omega)
      omega
    · have := h5 (by omega)
      omega
    · have := z e
      omega
theorem wvv_1 (h : ∀ j, j < n + 1 → 97 ≤ f (a + j)) : 1 ≤ wvv f a (n + 1) := by
  have := h n (by omega)
  show 1 ≤ 32 * wvv f a n + (f (a + n) - 96)
  omega
theorem wvv_inj : ∀ l m, (∀ j, j < l → 97 ≤ f (a + j) ∧ f (a + j) ≤ 122) → (∀ j, j < m → 97 ≤ g (b + j) ∧ g (b + j) ≤ 122) → (wvv f a l = wvv g b m ↔ l = m ∧ ∀ j, j < l → f (a + j) = g (b + j))
  | 0, 0, _, _ => ⟨fun _ => ⟨rfl, fun j hj => absurd hj (by omega)⟩, fun _ => rfl⟩
  | 0, m + 1, _, h2 => by
    have := wvv_1 (f := g) (a := b) (n := m) (fun j hj => (h2 j hj).1)
    refine ⟨fun e => ?_, fun e => absurd e.1 (by omega)⟩
    have e : 0 = wvv g b (m + 1) := e
    omega
  | l + 1, 0, h1, _ => by
    have := wvv_1 (f := f) (a := a) (n := l) (fun j hj => (h1 j hj).1)
    refine ⟨fun e => ?_, fun e => absurd e.1 (by omega)⟩
    have e : wvv f a (l + 1) = 0 := e
    omega
  | l + 1, m + 1, h1, h2 => by
    have ih := wvv_inj l m (fun j hj => h1 j (by omega)) (fun j hj => h2 j (by omega))
    have a1 := h1 l (by omega)
    have a2 := h2 m (by omega)
    show 32 * wvv f a l + (f (a + l) - 96) = 32 * wvv g b m + (g (b + m) - 96) ↔ _
    refine ⟨fun e => ?_, fun e => ?_⟩
    · have e1 : wvv f a l = wvv g b m := by omega
      have e2 : f (a + l) = g (b + m) := by omega
      obtain ⟨z1, z2⟩ := ih.mp e1
      refine ⟨by omega, fun j hj => ?_⟩
      by_cases y : j = l
      · rw [y, e2, z1]
      · exact z2 j (by omega)
    · obtain ⟨z1, z2⟩ := e
      have z1 : l = m := by omega
      have k := ih.mpr ⟨z1, fun j hj => z2 j (by omega)⟩
      have k2 := z2 l (by omega)
      rw [k, k2, z1]
/-- a word is what it is by its bytes -/
theorem twk_y {L : List Nat} (hL : ∀ j, j < L.length → 97 ≤ L.getD j 0 ∧ L.getD j 0 ≤ 122) (h6 : L.length ≤ 6) (h : tkd B n p = 1) (hl : tf B n p - tq B n p = L.length) (he : ∀ j, j < L.length → B (tq B n p + j) = L.getD j 0) : twk B n p = qcd L := by
  have hf := tf_ge (B := B) (n := n) (p := p)
  unfold twk qcd
  rw [if_pos ⟨h, by omega⟩]
  refine (wvv_inj (g := fun j => L.getD j 0) (b := 0) _ _ (fun j hj => tk_let h (by omega) (by omega)) (fun j hj => ?_)).mpr ⟨hl, fun j hj => ?_⟩
  · rw [Nat.zero_add]
    exact hL j hj
  · rw [Nat.zero_add]
    exact he j (by omega)
theorem twk_n {L : List Nat} (hL : ∀ j, j < L.length → 97 ≤ L.getD j 0 ∧ L.getD j 0 ≤ 122) (h1 : 1 ≤ L.length) (h : ¬ (tkd B n p = 1 ∧ tf B n p - tq B n p = L.length ∧ ∀ j, j < L.length → B (tq B n p + j) = L.getD j 0)) : twk B n p ≠ qcd L := by
  intro e
  unfold twk qcd at e
  have hf := tf_ge (B := B) (n := n) (p := p)
  have w1 : 1 ≤ wvv (fun j => L.getD j 0) 0 L.length := by
    obtain ⟨m, hm⟩ : ∃ m, L.length = m + 1 := ⟨L.length - 1, by omega⟩
    rw [hm]
    exact wvv_1 (fun j hj => by rw [Nat.zero_add]; exact (hL j (by omega)).1)
  split at e
  · rename_i z
    obtain ⟨z1, z2⟩ := (wvv_inj (g := fun j => L.getD j 0) (b := 0) _ _ (fun j hj => tk_let z.1 (by omega) (by omega)) (fun j hj => by rw [Nat.zero_add]; exact hL j hj)).mp e
    exact h ⟨z.1, z1, fun j hj => by have := z2 j (by omega); rw [Nat.zero_add] at this; exact this⟩
  · omega
theorem twk_0 (h : tkd B n p ≠ 1) : twk B n p = 0 := if_neg (fun z => h z.1)
/-- lines of a film: 0 layer, 1 life, 2 folds, 3 panel, 4 flaw, 5 sheet, 6 net, 7 none -/
def srt (v : Nat) : Nat := if v = 12641458 then 0 else if v = 402629 then 1 else if v = 6795411 then 2 else if v = 16824492 then 3 else if v = 208951 then 4 else if v = 20190388 then 5 else if v = 14516 then 6 else 7
def slt (B : Nat → Nat) (n p : Nat) : Nat := srt (twk B n p)
def semi (B : Nat → Nat) (n p : Nat) : Bool := decide (tkd B n p = 3 ∧ B (tq B n p) = 59)
def glue (B : Nat → Nat) (n p : Nat) : Bool := decide (twk B n p = 277892 ∨ twk B n p = 20325509)
/-- a line: does it go on to its end, and where is the token behind it (or with which no text goes on) -/
def lnS (B : Nat → Nat) (n p : Nat) : Bool × Nat := cond (semi B n p) (true, tf B n p) (false, p)
def lnG (B : Nat → Nat) (n p : Nat) : Bool × Nat := cond (glue B n p) (lnS B n (tf B n p)) (false, p)
def lnT (B : Nat → Nat) (n s p : Nat) : Bool × Nat := if s = 0 then lnG B n p else lnS B n p
def lnN (B : Nat → Nat) (n s : Nat) : Nat → Nat → Bool × Nat
  | 0, p => lnT B n s p
  | k + 1, p => if tkd B n p = 2 then lnN B n s k (tf B n p) else (false, p)
def nnm (s : Nat) : Nat := if s = 0 ∨ s = 3 then 3 else 2
def lnR (B : Nat → Nat) (n p : Nat) : Bool × Nat := if slt B n p = 7 then (false, p) else lnN B n (slt B n p) (nnm (slt B n p)) (tf B n p)
/-- the numbers of a line, and their places -/
def vlp (B : Nat → Nat) (n p : Nat) : Nat → Nat
  | 0 => tf B n p
  | t + 1 => tf B n (vlp B n p t)
def vln (B : Nat → Nat) (n p t : Nat) : Nat := if t = 3 then (if twk B n (vlp B n p 3) = 20325509 then 1 else 0) else tnu B n (vlp B n p t)
/-- the lines of a film, one after another -/
def lnP (B : Nat → Nat) (n : Nat) : Nat → Nat
  | 0 => 0
  | k + 1 => (lnR B n (lnP B n k)).2
def lnC (B : Nat → Nat) (n s : Nat) : Nat → Nat
  | 0 => 0
  | k + 1 => lnC B n s k + (if slt B n (lnP B n k) = s then 1 else 0)
def lim (s : Nat) : Nat := if s = 0 ∨ s = 2 then 6 else if s = 1 ∨ s = 3 then 4 else if s = 4 then 20 else 1
def lst0 (s : Nat) : Nat := if s = 1 ∨ s = 4 then 0 else 1
def grt0 (s : Nat) : Nat := if s = 0 ∨ s = 1 then 99 else if s = 2 then 9999 else if s = 4 then 9 else if s = 6 then 6 else 10
def lst1 (s : Nat) : Nat := if s = 4 then 0 else 1
def grt1 (s : Nat) : Nat := if s = 0 then 99 else if s = 1 then 999 else if s = 2 then 9999 else if s = 4 then 9 else if s = 6 then 6 else 10
def grt2 (s : Nat) : Nat := if s = 0 then 99 else 999
/-- a life from the same stretch was told before -/
def lfB (B : Nat → Nat) (n v : Nat) : Nat → Bool
  | 0 => false
  | k + 1 => lfB B n v k || (decide (slt B n (lnP B n k) = 1) && decide (vln B n (lnP B n k) 0 = v))
def inb (a b v : Nat) : Bool := decide (a ≤ v ∧ v ≤ b)
/-- the fault of a line, none being there before it: kind, place -/
def flt (B : Nat → Nat) (n k : Nat) : Nat × Nat :=
  cond (decide (lim (slt B n (lnP B n k)) ≤ lnC B n (slt B n (lnP B n k)) k) || (decide (slt B n (lnP B n k) = 1) && lfB B n (vln B n (lnP B n k) 0) k)) (3, tq B n (lnP B n k))
    (cond (inb (lst0 (slt B n (lnP B n k))) (grt0 (slt B n (lnP B n k))) (vln B n (lnP B n k) 0))
      (cond (inb (lst1 (slt B n (lnP B n k))) (grt1 (slt B n (lnP B n k))) (vln B n (lnP B n k) 1))
        (cond (decide (nnm (slt B n (lnP B n k)) = 3) && !inb 1 (grt2 (slt B n (lnP B n k))) (vln B n (lnP B n k) 2)) (2, tq B n (vlp B n (lnP B n k) 2)) (0, 0))
        (2, tq B n (vlp B n (lnP B n k) 1)))
      (2, tq B n (vlp B n (lnP B n k) 0)))
def flA (B : Nat → Nat) (n : Nat) : Nat → Nat × Nat
  | 0 => (0, 0)
  | k + 1 => if (flA B n k).1 = 0 then flt B n k else flA B n k
def wds (s : Nat) : Nat := if s = 0 then 4 else if s = 3 then 3 else 2
/-- what X holds of the lines told, is what they tell -/
def RCN (B : Nat → Nat) (n k : Nat) (X : Nat → Nat → Nat → Nat) : Prop := (∀ i, i < k → ∀ t, t < wds (slt B n (lnP B n i)) → X (slt B n (lnP B n i)) (lnC B n (slt B n (lnP B n i)) i) t = vln B n (lnP B n i) t) ∧ (∀ s, s = 5 ∨ s = 6 → lnC B n s k = 0 → X s 0 0 = 1 ∧ X s 0 1 = 1)
theorem lnC_le {s i k : Nat} (h : i ≤ k) : lnC B n s i ≤ lnC B n s k := by
  induction k with
  | zero => rw [show i = 0 by omega]; exact Nat.le_refl _
  | succ k ih =>
    by_cases e : i = k + 1
    · rw [e]
      exact Nat.le_refl _
    · have := ih (by omega)
      show _ ≤ lnC B n s k + _
      omega
theorem lnC_lt {s i k : Nat} (h : i < k) (hs : slt B n (lnP B n i) = s) : lnC B n s i < lnC B n s k := by
  have h1 : lnC B n s (i + 1) = lnC B n s i + 1 := by
    show lnC B n s i + (if slt B n (lnP B n i) = s then 1 else 0) = _
    rw [if_pos hs]
  have h2 := lnC_le (B := B) (n := n) (s := s) (show i + 1 ≤ k from h)
  omega
theorem lnC_hit {s m : Nat} : ∀ k, m < lnC B n s k → ∃ i, i < k ∧ slt B n (lnP B n i) = s ∧ lnC B n s i = m
  | 0, h => absurd (show m < 0 from h) (Nat.not_lt_zero _)
  | k + 1, h => by
    have h : m < lnC B n s k + (if slt B n (lnP B n k) = s then 1 else 0) := h
    by_cases e : m < lnC B n s k
    · obtain ⟨i, h1, h2, h3⟩ := lnC_hit k e
      exact ⟨i, by omega, h2, h3⟩
    · by_cases y : slt B n (lnP B n k) = s
      · rw [if_pos y] at h
        exact ⟨k, by omega, y, by omega⟩
      · rw [if_neg y] at h
        omega
theorem lnC_y {s k : Nat} (h : slt B n (lnP B n k) = s) : lnC B n s (k + 1) = lnC B n s k + 1 := by
  show lnC B n s k + (if slt B n (lnP B n k) = s then 1 else 0) = _
  rw [if_pos h]
theorem lnC_n {s k : Nat} (h : slt B n (lnP B n k) ≠ s) : lnC B n s (k + 1) = lnC B n s k := by
  show lnC B n s k + (if slt B n (lnP B n k) = s then 1 else 0) = _
  rw [if_neg h]
  rfl
theorem lfB_t {k i v : Nat} (h : i < k) (hs : slt B n (lnP B n i) = 1) (hv : vln B n (lnP B n i) 0 = v) : lfB B n v k = true := by
  induction k with
  | zero => omega
  | succ k ih =>
    show (lfB B n v k || (decide (slt B n (lnP B n k) = 1) && decide (vln B n (lnP B n k) 0 = v))) = true
    by_cases e : i = k
    · rw [← e, decide_eq_true hs, decide_eq_true hv, Bool.and_true, Bool.or_true]
    · rw [ih (by omega), Bool.true_or]
theorem lfB_f {v : Nat} : ∀ k, (∀ i, i < k → slt B n (lnP B n i) = 1 → vln B n (lnP B n i) 0 ≠ v) → lfB B n v k = false
  | 0, _ => rfl
  | k + 1, h => by
    show (lfB B n v k || (decide (slt B n (lnP B n k) = 1) && decide (vln B n (lnP B n k) 0 = v))) = false
    rw [lfB_f k (fun i hi => h i (by omega)), Bool.false_or]
    by_cases e : slt B n (lnP B n k) = 1
    · rw [decide_eq_false (h k (by omega) e), Bool.and_false]
    · rw [decide_eq_false e, Bool.false_and]
/-- X goes on over a line -/
theorem RCN.up {k s : Nat} {X Y : Nat → Nat → Nat → Nat} (h : RCN B n k X) (hs : slt B n (lnP B n k) = s) (hk : ∀ s' m t, m < lnC B n s' k → t < wds s' → Y s' m t = X s' m t) (hn : ∀ t, t < wds s → Y s (lnC B n s k) t = vln B n (lnP B n k) t) (h5 : ∀ s', s' = 5 ∨ s' = 6 → s' ≠ s → lnC B n s' k = 0 → Y s' 0 0 = X s' 0 0 ∧ Y s' 0 1 = X s' 0 1) : RCN B n (k + 1) Y := by
  refine ⟨fun i hi t ht => ?_, fun s' h56 hc => ?_⟩
  · by_cases e : i = k
    · subst e
      rw [hs] at ht ⊢
      exact hn t ht
    · rw [hk _ _ _ (lnC_lt (show i < k by omega) rfl) ht]
      exact h.1 i (by omega) t ht
  · by_cases e : s' = s
    · have := lnC_y (B := B) (n := n) (k := k) (hs.trans e.symm)
      omega
    · have z := lnC_n (B := B) (n := n) (k := k) (s := s') (fun y => e (y.symm.trans hs))
      have c0 : lnC B n s' k = 0 := by omega
      obtain ⟨a1, a2⟩ := h5 s' h56 e c0
      rw [a1, a2]
      exact h.2 s' h56 c0
/-- two that hold the same lines are alike -/
theorem RCN.eq {k s m t : Nat} {X Y : Nat → Nat → Nat → Nat} (h : RCN B n k X) (h' : RCN B n k Y) (hm : m < lnC B n s k) (ht : t < wds s) : X s m t = Y s m t := by
  obtain ⟨i, h1, h2, h3⟩ := lnC_hit k hm
  have a := h.1 i h1 t (by rw [h2]; exact ht)
  have b := h'.1 i h1 t (by rw [h2]; exact ht)
  rw [h2, h3] at a b
  exact a.trans b.symm
theorem RCN.eq5 {k s t : Nat} {X Y : Nat → Nat → Nat → Nat} (h : RCN B n k X) (h' : RCN B n k Y) (h5 : s = 5 ∨ s = 6) (hl : lnC B n s k ≤ 1) (ht : t < 2) : X s 0 t = Y s 0 t := by
  by_cases e : lnC B n s k = 0
  · obtain ⟨a0, a1⟩ := h.2 s h5 e
    obtain ⟨b0, b1⟩ := h'.2 s h5 e
    rcases (show t = 0 ∨ t = 1 by omega) with rfl | rfl
    · exact a0.trans b0.symm
    · exact a1.trans b1.symm
  · refine h.eq h' (by omega) ?_
    rcases h5 with rfl | rfl <;> exact ht
theorem flA_y {k : Nat} (h : (flA B n k).1 = 0) : flA B n (k + 1) = flt B n k := by
  show (if (flA B n k).1 = 0 then flt B n k else flA B n k) = _
  rw [if_pos h]
theorem flA_n {k : Nat} (h : (flA B n k).1 ≠ 0) : flA B n (k + 1) = flA B n k := by
  show (if (flA B n k).1 = 0 then flt B n k else flA B n k) = _
  rw [if_neg h]
theorem inb_t {a b v : Nat} (h : a ≤ v ∧ v ≤ b) : inb a b v = true := decide_eq_true h
theorem inb_f {a b v : Nat} (h : ¬ (a ≤ v ∧ v ≤ b)) : inb a b v = false := decide_eq_false h
/-- the five ways of a line's faults -/
theorem flt_3a {k s : Nat} (hs : slt B n (lnP B n k) = s) (h : lim s ≤ lnC B n s k) : flt B n k = (3, tq B n (lnP B n k)) := by
  unfold flt
  rw [hs, decide_eq_true h, Bool.true_or]
  rfl
theorem flt_3b {k : Nat} (hs : slt B n (lnP B n k) = 1) (h : lfB B n (vln B n (lnP B n k) 0) k = true) : flt B n k = (3, tq B n (lnP B n k)) := by
  unfold flt
  rw [hs, h, decide_eq_true rfl, Bool.and_true, Bool.or_true]
  rfl
theorem flt_go {k s : Nat} (hs : slt B n (lnP B n k) = s) (h : ¬ lim s ≤ lnC B n s k) (hl : s = 1 → lfB B n (vln B n (lnP B n k) 0) k = false) : flt B n k = cond (inb (lst0 s) (grt0 s) (vln B n (lnP B n k) 0)) (cond (inb (lst1 s) (grt1 s) (vln B n (lnP B n k) 1)) (cond (decide (nnm s = 3) && !inb 1 (grt2 s) (vln B n (lnP B n k) 2)) (2, tq B n (vlp B n (lnP B n k) 2)) (0, 0)) (2, tq B n (vlp B n (lnP B n k) 1))) (2, tq B n (vlp B n (lnP B n k) 0)) := by
  unfold flt
  rw [hs, decide_eq_false h, Bool.false_or]
  by_cases e : s = 1
  · rw [hl e, Bool.and_false]
    rfl
  · rw [decide_eq_false e, Bool.false_and]
    rfl
theorem flt_0 {k s : Nat} (hs : slt B n (lnP B n k) = s) (h : ¬ lim s ≤ lnC B n s k) (hl : s = 1 → lfB B n (vln B n (lnP B n k) 0) k = false) (b : ¬ (lst0 s ≤ vln B n (lnP B n k) 0 ∧ vln B n (lnP B n k) 0 ≤ grt0 s)) : flt B n k = (2, tq B n (vlp B n (lnP B n k) 0)) := by
  rw [flt_go hs h hl, inb_f b]
  rfl
theorem flt_1 {k s : Nat} (hs : slt B n (lnP B n k) = s) (h : ¬ lim s ≤ lnC B n s k) (hl : s = 1 → lfB B n (vln B n (lnP B n k) 0) k = false) (a : lst0 s ≤ vln B n (lnP B n k) 0 ∧ vln B n (lnP B n k) 0 ≤ grt0 s) (b : ¬ (lst1 s ≤ vln B n (lnP B n k) 1 ∧ vln B n (lnP B n k) 1 ≤ grt1 s)) : flt B n k = (2, tq B n (vlp B n (lnP B n k) 1)) := by
  rw [flt_go hs h hl, inb_t a, inb_f b]
  rfl
theorem flt_2 {k s : Nat} (hs : slt B n (lnP B n k) = s) (h : ¬ lim s ≤ lnC B n s k) (hl : s = 1 → lfB B n (vln B n (lnP B n k) 0) k = false) (a : lst0 s ≤ vln B n (lnP B n k) 0 ∧ vln B n (lnP B n k) 0 ≤ grt0 s) (b : lst1 s ≤ vln B n (lnP B n k) 1 ∧ vln B n (lnP B n k) 1 ≤ grt1 s) (c3 : nnm s = 3) (d : ¬ (1 ≤ vln B n (lnP B n k) 2 ∧ vln B n (lnP B n k) 2 ≤ grt2 s)) : flt B n k = (2, tq B n (vlp B n (lnP B n k) 2)) := by
  rw [flt_go hs h hl, inb_t a, inb_t b, inb_f d, decide_eq_true c3]
  rfl
theorem flt_ok {k s : Nat} (hs : slt B n (lnP B n k) = s) (h : ¬ lim s ≤ lnC B n s k) (hl : s = 1 → lfB B n (vln B n (lnP B n k) 0) k = false) (a : lst0 s ≤ vln B n (lnP B n k) 0 ∧ vln B n (lnP B n k) 0 ≤ grt0 s) (b : lst1 s ≤ vln B n (lnP B n k) 1 ∧ vln B n (lnP B n k) 1 ≤ grt1 s) (d : nnm s = 3 → 1 ≤ vln B n (lnP B n k) 2 ∧ vln B n (lnP B n k) 2 ≤ grt2 s) : flt B n k = (0, 0) := by
  rw [flt_go hs h hl, inb_t a, inb_t b]
  by_cases e : nnm s = 3
  · rw [inb_t (d e), decide_eq_true e]
    rfl
  · rw [decide_eq_false e]
    rfl
/-- lines, step by step -/
theorem lnR_7 (h : slt B n p = 7) : lnR B n p = (false, p) := by
  unfold lnR
  rw [if_pos h]
theorem lnR_go {s : Nat} (h : slt B n p = s) (h7 : s ≠ 7) : lnR B n p = lnN B n s (nnm s) (tf B n p) := by
  unfold lnR
  rw [if_neg (by omega), h]
theorem lnN_y {s k : Nat} (h : tkd B n p = 2) : lnN B n s (k + 1) p = lnN B n s k (tf B n p) := by
  show (if tkd B n p = 2 then lnN B n s k (tf B n p) else (false, p)) = _
  rw [if_pos h]
theorem lnN_n {s k : Nat} (h : tkd B n p ≠ 2) : lnN B n s (k + 1) p = (false, p) := by
  show (if tkd B n p = 2 then lnN B n s k (tf B n p) else (false, p)) = _
  rw [if_neg h]
theorem lnN_0 {s : Nat} (h : s ≠ 0) : lnN B n s 0 p = lnS B n p := by
  show lnT B n s p = _
  unfold lnT
  rw [if_neg h]
theorem lnN_g (h : twk B n p = 277892 ∨ twk B n p = 20325509) : lnN B n 0 0 p = lnS B n (tf B n p) := by
  show lnG B n p = _
  unfold lnG glue
  rw [decide_eq_true h]
  rfl
theorem lnN_gn (h : ¬ (twk B n p = 277892 ∨ twk B n p = 20325509)) : lnN B n 0 0 p = (false, p) := by
  show lnG B n p = _
  unfold lnG glue
  rw [decide_eq_false h]
  rfl
theorem lnS_y (h : tkd B n p = 3 ∧ B (tq B n p) = 59) : lnS B n p = (true, tf B n p) := by
  unfold lnS semi
  rw [decide_eq_true h]
  rfl
theorem lnS_n (h : ¬ (tkd B n p = 3 ∧ B (tq B n p) = 59)) : lnS B n p = (false, p) := by
  unfold lnS semi
  rw [decide_eq_false h]
  rfl
/-- positions go on -/
theorem lnN_le {s : Nat} : ∀ k p, p ≤ n → (lnN B n s k p).2 ≤ n ∧ p ≤ (lnN B n s k p).2
  | 0, p, h => by
    have a1 := tf_le (B := B) h
    have a2 := tf_ge (B := B) (n := n) (p := p)
    have a3 := tq_ge (B := B) (n := n) (p := p)
    have key : ∀ q, q ≤ n → (lnS B n q).2 ≤ n ∧ q ≤ (lnS B n q).2 := by
      intro q hq
      have b1 := tf_le (B := B) hq
      have b2 := tf_ge (B := B) (n := n) (p := q)
      have b3 := tq_ge (B := B) (n := n) (p := q)
      unfold lnS
      cases semi B n q with
      | true => exact ⟨b1, by show q ≤ tf B n q; omega⟩
      | false => exact ⟨hq, Nat.le_refl _⟩
    show (lnT B n s p).2 ≤ n ∧ p ≤ (lnT B n s p).2
    unfold lnT
    split
    · unfold lnG
      cases glue B n p with
      | true =>
        obtain ⟨c1, c2⟩ := key (tf B n p) a1
        exact ⟨c1, by show p ≤ (lnS B n (tf B n p)).2; omega⟩
      | false => exact ⟨h, Nat.le_refl _⟩
    · exact key p h
  | k + 1, p, h => by
    have a1 := tf_le (B := B) h
    have a2 := tf_ge (B := B) (n := n) (p := p)
    have a3 := tq_ge (B := B) (n := n) (p := p)
    by_cases e : tkd B n p = 2
    · rw [lnN_y e]
      obtain ⟨c1, c2⟩ := lnN_le (s := s) k (tf B n p) a1
      exact ⟨c1, by omega⟩
    · rw [lnN_n e]
      exact ⟨h, Nat.le_refl _⟩
theorem lnR_le (h : p ≤ n) : (lnR B n p).2 ≤ n := by
  unfold lnR
  split
  · exact h
  · exact (lnN_le _ _ (tf_le h)).1
theorem lnP_le {k : Nat} : lnP B n k ≤ n := by
  induction k with
  | zero => exact Nat.zero_le _
  | succ k ih => exact lnR_le ih
theorem slt_kd (h : slt B n p ≠ 7) : tkd B n p = 1 := by
  by_cases e : tkd B n p = 1
  · exact e
  · exfalso
    apply h
    unfold slt
    rw [twk_0 e]
    rfl
theorem lnR_gt (h : (lnR B n p).1 = true) (hp : p ≤ n) : p < (lnR B n p).2 ∧ slt B n p ≠ 7 := by
  by_cases e : slt B n p = 7
  · rw [lnR_7 e] at h
    exact absurd h Bool.false_ne_true
  · refine ⟨?_, e⟩
    have a := tf_gt (B := B) (n := n) (p := p) (by rw [slt_kd e]; decide)
    have b := (lnN_le (B := B) (n := n) (s := slt B n p) (nnm (slt B n p)) (tf B n p) (tf_le hp)).2
    have c := tq_ge (B := B) (n := n) (p := p)
    rw [lnR_go rfl e]
    omega
/-- lines that go on take bytes -/
theorem lnP_ge {k : Nat} (h : ∀ i, i < k → (lnR B n (lnP B n i)).1 = true) : k ≤ lnP B n k := by
  induction k with
  | zero => exact Nat.zero_le _
  | succ k ih =>
    have a := ih (fun i hi => h i (by omega))
    have b := (lnR_gt (h k (by omega)) lnP_le).1
    show k + 1 ≤ (lnR B n (lnP B n k)).2
    omega
/-- the text of a film ends but once -/
theorem lnE_eq {k k' : Nat} (h : ∀ i, i < k → (lnR B n (lnP B n i)).1 = true) (h' : ∀ i, i < k' → (lnR B n (lnP B n i)).1 = true) (e : ¬ (lnR B n (lnP B n k)).1 = true) (e' : ¬ (lnR B n (lnP B n k')).1 = true) : k = k' := by
  by_cases a : k < k'
  · exact absurd (h' k a) e
  · by_cases b : k' < k
    · exact absurd (h k' b) e'
    · omega
theorem lnR_0 (h : tkd B n p = 0) : lnR B n p = (false, p) := by
  refine lnR_7 ?_
  unfold slt
  rw [twk_0 (by omega)]
  rfl
theorem RCN.cg {k : Nat} {X Y : Nat → Nat → Nat → Nat} (h : RCN B n k X) (hk : ∀ s m t, m < lnC B n s k → t < wds s → Y s m t = X s m t) (h5 : ∀ s, s = 5 ∨ s = 6 → Y s 0 0 = X s 0 0 ∧ Y s 0 1 = X s 0 1) : RCN B n k Y := by
  refine ⟨fun i hi t ht => ?_, fun s hs hc => ?_⟩
  · rw [hk _ _ _ (lnC_lt hi rfl) ht]
    exact h.1 i hi t ht
  · obtain ⟨a1, a2⟩ := h5 s hs
    rw [a1, a2]
    exact h.2 s hs hc
theorem RCN.zero {X : Nat → Nat → Nat → Nat} (h : ∀ s, s = 5 ∨ s = 6 → X s 0 0 = 1 ∧ X s 0 1 = 1) : RCN B n 0 X := ⟨fun i hi => absurd hi (Nat.not_lt_zero _), fun s hs _ => h s hs⟩
theorem flA_all {k : Nat} (h : (flA B n k).1 = 0) : ∀ i, i < k → (flt B n i).1 = 0 := by
  induction k with
  | zero => exact fun i hi => absurd hi (Nat.not_lt_zero _)
  | succ k ih =>
    by_cases e : (flA B n k).1 = 0
    · rw [flA_y e] at h
      intro i hi
      by_cases z : i = k
      · rw [z]
        exact h
      · exact ih e i (by omega)
    · rw [flA_n e] at h
      exact absurd h e
/-- a line without a fault -/
theorem flt_v {k s : Nat} (hs : slt B n (lnP B n k) = s) (h : (flt B n k).1 = 0) : ¬ lim s ≤ lnC B n s k ∧ (lst0 s ≤ vln B n (lnP B n k) 0 ∧ vln B n (lnP B n k) 0 ≤ grt0 s) ∧ (lst1 s ≤ vln B n (lnP B n k) 1 ∧ vln B n (lnP B n k) 1 ≤ grt1 s) ∧ (nnm s = 3 → 1 ≤ vln B n (lnP B n k) 2 ∧ vln B n (lnP B n k) 2 ≤ grt2 s) := by
  by_cases e : lim s ≤ lnC B n s k
  · rw [flt_3a hs e] at h
    exact absurd h (Nat.succ_ne_zero 2)
  · by_cases l : s = 1 ∧ lfB B n (vln B n (lnP B n k) 0) k = true
    · rw [flt_3b (hs.trans l.1) l.2] at h
      exact absurd h (Nat.succ_ne_zero 2)
    · have l' : s = 1 → lfB B n (vln B n (lnP B n k) 0) k = false := fun z => by
        cases y : lfB B n (vln B n (lnP B n k) 0) k with
        | false => rfl
        | true => exact absurd ⟨z, y⟩ l
      by_cases a : lst0 s ≤ vln B n (lnP B n k) 0 ∧ vln B n (lnP B n k) 0 ≤ grt0 s
      · by_cases b : lst1 s ≤ vln B n (lnP B n k) 1 ∧ vln B n (lnP B n k) 1 ≤ grt1 s
        · refine ⟨e, a, b, fun c3 => ?_⟩
          by_cases d : 1 ≤ vln B n (lnP B n k) 2 ∧ vln B n (lnP B n k) 2 ≤ grt2 s
          · exact d
          · rw [flt_2 hs e l' a b c3 d] at h
            exact absurd h (Nat.succ_ne_zero 1)
        · rw [flt_1 hs e l' a b] at h
          exact absurd h (Nat.succ_ne_zero 1)
      · rw [flt_0 hs e l' a] at h
        exact absurd h (Nat.succ_ne_zero 1)
theorem lnC_lim {k s : Nat} (h : (flA B n k).1 = 0) (hs : 1 ≤ lim s) : lnC B n s k ≤ lim s := by
  induction k with
  | zero => exact Nat.zero_le _
  | succ k ih =>
    by_cases e : (flA B n k).1 = 0
    · by_cases y : slt B n (lnP B n k) = s
      · rw [flA_y e] at h
        have q := (flt_v y h).1
        rw [lnC_y y]
        omega
      · rw [lnC_n y]
        exact ih e
    · rw [flA_n e] at h
      exact absurd h e
/-- a flaw beside the sheet -/
def bsX (X : Nat → Nat → Nat → Nat) (m : Nat) : Prop := X 5 0 0 ≤ X 4 m 0 ∨ X 5 0 1 ≤ X 4 m 1
/-- what came of a film's text: answer, fault, its place -/
def FRes (B : Nat → Nat) (n r f pl : Nat) : Prop := ∃ k, (∀ i, i < k → (lnR B n (lnP B n i)).1 = true) ∧ ¬ (lnR B n (lnP B n k)).1 = true ∧ ((tkd B n (lnP B n k) ≠ 0 ∧ r = 4294967295 ∧ f = 1 ∧ pl = tq B n (lnR B n (lnP B n k)).2) ∨ (tkd B n (lnP B n k) = 0 ∧ (flA B n k).1 ≠ 0 ∧ r = 4294967295 ∧ f = (flA B n k).1 ∧ pl = (flA B n k).2) ∨ (tkd B n (lnP B n k) = 0 ∧ (flA B n k).1 = 0 ∧ ∃ (X : Nat → Nat → Nat → Nat) (A : Nat → Nat), RCN B n k X ∧ (∀ i, i < k → slt B n (lnP B n i) = 4 → A (lnC B n 4 i) = tq B n (lnP B n i)) ∧ ((r = 4294967295 ∧ f = 4 ∧ ∃ m, m < lnC B n 4 k ∧ bsX X m ∧ (∀ j, j < m → ¬ bsX X j) ∧ pl = A m) ∨ (r = k ∧ f = 0 ∧ pl = 4294967295 ∧ k ≤ 500 ∧ ∀ j, j < lnC B n 4 k → ¬ bsX X j))))
theorem bsX_eq {k m : Nat} {X Y : Nat → Nat → Nat → Nat} (h : RCN B n k X) (h' : RCN B n k Y) (h0 : (flA B n k).1 = 0) (hm : m < lnC B n 4 k) : bsX X m ↔ bsX Y m := by
  have l5 := lnC_lim (s := 5) h0 (by decide)
  unfold bsX
  rw [h.eq h' hm (show 0 < wds 4 by decide), h.eq h' hm (show 1 < wds 4 by decide), h.eq5 h' (Or.inl rfl) l5 (show 0 < 2 by decide), h.eq5 h' (Or.inl rfl) l5 (show 1 < 2 by decide)]
theorem FRes.eq {r r' g g' x x' : Nat} (h : FRes B n r g x) (h' : FRes B n r' g' x') : r = r' ∧ g = g' ∧ x = x' := by
  obtain ⟨k, a1, a2, a3⟩ := h
  obtain ⟨k', b1, b2, b3⟩ := h'
  have e := lnE_eq a1 b1 a2 b2
  subst e
  rcases a3 with ⟨c1, c2, c3, c4⟩ | ⟨c1, c2, c3, c4, c5⟩ | ⟨c1, c2, X, A, c3, c4, c5⟩
  · rcases b3 with ⟨d1, d2, d3, d4⟩ | ⟨d1, -⟩ | ⟨d1, -⟩
    · exact ⟨c2.trans d2.symm, c3.trans d3.symm, c4.trans d4.symm⟩
    · exact absurd d1 c1
    · exact absurd d1 c1
  · rcases b3 with ⟨d1, -⟩ | ⟨d1, d2, d3, d4, d5⟩ | ⟨d1, d2, -⟩
    · exact absurd c1 d1
    · exact ⟨c3.trans d3.symm, c4.trans d4.symm, c5.trans d5.symm⟩
    · exact absurd d2 c2
  · rcases b3 with ⟨d1, -⟩ | ⟨d1, d2, -⟩ | ⟨d1, d2, Y, A', d3, d4, d5⟩
    · exact absurd c1 d1
    · exact absurd c2 d2
    · rcases c5 with ⟨e1, e2, m, e3, e4, e5, e6⟩ | ⟨e1, e2, e3, e4, e5⟩
      · rcases d5 with ⟨f1, f2, m', f3, f4, f5, f6⟩ | ⟨f1, f2, f3, f4, f5⟩
        · have hm : m = m' := by
            by_cases z : m < m'
            · exact absurd ((bsX_eq c3 d3 c2 e3).mp e4) (f5 m z)
            · by_cases y : m' < m
              · exact absurd ((bsX_eq c3 d3 c2 f3).mpr f4) (e5 m' y)
              · omega
          subst hm
          obtain ⟨i, i1, i2, i3⟩ := lnC_hit k e3
          refine ⟨e1.trans f1.symm, e2.trans f2.symm, ?_⟩
          rw [e6, f6, ← i3, c4 i i1 i2, d4 i i1 i2]
        · exact absurd ((bsX_eq c3 d3 c2 e3).mp e4) (f5 m e3)
      · rcases d5 with ⟨f1, f2, m', f3, f4, f5, f6⟩ | ⟨f1, f2, f3, f4, f5⟩
        · exact absurd ((bsX_eq c3 d3 c2 f3).mpr f4) (e5 m' f3)
        · exact ⟨e1.trans f1.symm, e2.trans f2.symm, e3.trans f3.symm⟩
/-- words as the model numbers them -/
def wixF (v : Nat) : Nat := if v = 12641458 then 0 else if v = 402629 then 1 else if v = 6795411 then 2 else if v = 16824492 then 3 else if v = 208951 then 4 else if v = 20190388 then 5 else if v = 14516 then 6 else if v = 277892 then 7 else if v = 20325509 then 8 else 99
def wixR (v : Nat) : Nat := if v = 650416307 then 20 else if v = 24395141 then 21 else if v = 404526675 then 22 else if v = 12748404 then 23 else if v = 605939 then 24 else if v = 6308 then 25 else if v = 4245875 then 26 else if v = 24627848 then 27 else if v = 119573875 then 28 else if v = 366100 then 29 else if v = 4153 then 30 else if v = 2098 then 40 else if v = 17376357 then 41 else if v = 398963 then 42 else if v = 294 then 50 else if v = 1476 then 51 else if v = 14836 then 52 else 99
def wix (ir v : Nat) : Nat := if ir = 0 then wixF v else wixR v
def mkd (ir : Nat) (B : Nat → Nat) (n p : Nat) : Nat := if tkd B n p = 0 then 0 else if tkd B n p = 2 then 1 else if tkd B n p = 3 then (if ir ≠ 0 ∨ B (tq B n p) = 59 then 2 else 4) else if tkd B n p = 1 then (if wix ir (twk B n p) = 99 then 4 else 3) else 4
theorem mkd_0 {ir : Nat} (h : tkd B n p = 0) : mkd ir B n p = 0 := if_pos h
theorem mkd_1 {ir : Nat} (h : tkd B n p = 2) : mkd ir B n p = 1 := by
  unfold mkd
  rw [h, if_neg (by decide), if_pos rfl]
theorem mkd_2 {ir : Nat} (h : tkd B n p = 3) (h2 : ir ≠ 0 ∨ B (tq B n p) = 59) : mkd ir B n p = 2 := by
  unfold mkd
  rw [h, if_neg (by decide), if_neg (by decide), if_pos rfl, if_pos h2]
theorem mkd_2n {ir : Nat} (h : tkd B n p = 3) (h2 : ¬ (ir ≠ 0 ∨ B (tq B n p) = 59)) : mkd ir B n p = 4 := by
  unfold mkd
  rw [h, if_neg (by decide), if_neg (by decide), if_pos rfl, if_neg h2]
theorem mkd_3 {ir : Nat} (h : tkd B n p = 1) (h2 : wix ir (twk B n p) ≠ 99) : mkd ir B n p = 3 := by
  unfold mkd
  rw [h, if_neg (by decide), if_neg (by decide), if_neg (by decide), if_pos rfl, if_neg h2]
theorem mkd_3n {ir : Nat} (h : tkd B n p = 1) (h2 : wix ir (twk B n p) = 99) : mkd ir B n p = 4 := by
  unfold mkd
  rw [h, if_neg (by decide), if_neg (by decide), if_neg (by decide), if_pos rfl, if_pos h2]
theorem mkd_4 {ir : Nat} (h : tkd B n p = 4) : mkd ir B n p = 4 := by
  unfold mkd
  rw [h, if_neg (by decide), if_neg (by decide), if_neg (by decide), if_neg (by decide)]
/-- what the model's kinds say -/
theorem mkd_of {ir : Nat} : (mkd ir B n p = 0 ↔ tkd B n p = 0) ∧ (mkd ir B n p = 1 ↔ tkd B n p = 2) ∧ (mkd ir B n p = 2 ↔ tkd B n p = 3 ∧ (ir ≠ 0 ∨ B (tq B n p) = 59)) ∧ (mkd ir B n p = 3 ↔ tkd B n p = 1 ∧ wix ir (twk B n p) ≠ 99) := by
  rcases tk_kinds (B := B) (n := n) (p := p) with h | h | h | h | h
  · rw [mkd_0 h, h]; omega
  · by_cases e : wix ir (twk B n p) = 99
    · rw [mkd_3n h e, h]; omega
    · rw [mkd_3 h e, h]; omega
  · rw [mkd_1 h, h]; omega
  · by_cases e : ir ≠ 0 ∨ B (tq B n p) = 59
    · rw [mkd_2 h e, h]
      exact ⟨by omega, by omega, ⟨fun _ => ⟨rfl, e⟩, fun _ => rfl⟩, by omega⟩
    · rw [mkd_2n h e, h]
      exact ⟨by omega, by omega, ⟨fun z => absurd z (by decide), fun z => absurd z.2 e⟩, by omega⟩
  · rw [mkd_4 h, h]; omega
theorem wvv_lt {q : Nat} : ∀ k, (∀ j, j < k → B (q + j) ≤ 122) → k ≤ 7 → wvv B q k < 34359738368 ∧ (k ≤ 6 → wvv B q k < 1073741824) ∧ (k ≤ 5 → wvv B q k < 33554432) ∧ (k ≤ 4 → wvv B q k < 1048576) ∧ (k ≤ 3 → wvv B q k < 32768) ∧ (k ≤ 2 → wvv B q k < 1024) ∧ (k ≤ 1 → wvv B q k < 32)
  | 0, _, _ => ⟨Nat.zero_lt_succ _, fun _ => Nat.zero_lt_succ _, fun _ => Nat.zero_lt_succ _, fun _ => Nat.zero_lt_succ _, fun _ => Nat.zero_lt_succ _, fun _ => Nat.zero_lt_succ _, fun _ => Nat.zero_lt_succ _⟩
  | k + 1, h, h7 => by
    obtain ⟨a0, a1, a2, a3, a4, a5, a6⟩ := wvv_lt k (fun j hj => h j (by omega)) (by omega)
    have hb := h k (by omega)
    have z : k = 0 → wvv B q k = 0 := fun e => by
      subst e
      rfl
    show 32 * wvv B q k + (B (q + k) - 96) < _ ∧ (k + 1 ≤ 6 → 32 * wvv B q k + (B (q + k) - 96) < _) ∧ (k + 1 ≤ 5 → 32 * wvv B q k + (B (q + k) - 96) < _) ∧ (k + 1 ≤ 4 → 32 * wvv B q k + (B (q + k) - 96) < _) ∧ (k + 1 ≤ 3 → 32 * wvv B q k + (B (q + k) - 96) < _) ∧ (k + 1 ≤ 2 → 32 * wvv B q k + (B (q + k) - 96) < _) ∧ (k + 1 ≤ 1 → 32 * wvv B q k + (B (q + k) - 96) < _)
    refine ⟨?_, fun e => ?_, fun e => ?_, fun e => ?_, fun e => ?_, fun e => ?_, fun e => ?_⟩
    · have := a1 (by omega)
      omega
    · have := a2 (by omega)
      omega
    · have := a3 (by omega)
      omega
    · have := a4 (by omega)
      omega
    · have := a5 (by omega)
      omega
    · have := a6 (by omega)
      omega
    · have := z (by omega)
      omega
theorem wvv_y (h : p ≤ a) (h7 : a - p < 7) : wvv B p (min 7 (a + 1 - p)) = 32 * wvv B p (min 7 (a - p)) + (B a - 96) := by
  rw [show min 7 (a + 1 - p) = (a - p) + 1 by omega, show min 7 (a - p) = a - p by omega]
  show 32 * wvv B p (a - p) + (B (p + (a - p)) - 96) = _
  rw [show p + (a - p) = a by omega]
theorem wvv_n (h7 : 7 ≤ a - p) : wvv B p (min 7 (a + 1 - p)) = wvv B p (min 7 (a - p)) := by
  rw [show min 7 (a + 1 - p) = min 7 (a - p) by omega]
/-- the model's fault: of two the one that stands first -/
def alo (fp : Nat × Nat) (k at_ : Nat) : Nat × Nat := cond (decide (fp.1 ≠ 0 ∧ (fp.2 < at_ ∨ (fp.2 = at_ ∧ fp.1 ≤ k)))) fp (k, at_)
def chk (fp : Nat × Nat) (lo hi v at_ : Nat) : Nat × Nat := cond (inb lo hi v) fp (alo fp 2 at_)
theorem alo_y {fp : Nat × Nat} {k at_ : Nat} (h : fp.1 ≠ 0 ∧ (fp.2 < at_ ∨ (fp.2 = at_ ∧ fp.1 ≤ k))) : alo fp k at_ = fp := by
  unfold alo
  rw [decide_eq_true h]
  rfl
theorem alo_n {fp : Nat × Nat} {k at_ : Nat} (h : ¬ (fp.1 ≠ 0 ∧ (fp.2 < at_ ∨ (fp.2 = at_ ∧ fp.1 ≤ k)))) : alo fp k at_ = (k, at_) := by
  unfold alo
  rw [decide_eq_false h]
  rfl
theorem chk_y {fp : Nat × Nat} {lo hi v at_ : Nat} (h : lo ≤ v ∧ v ≤ hi) : chk fp lo hi v at_ = fp := by
  unfold chk
  rw [inb_t h]
  rfl
theorem chk_n {fp : Nat × Nat} {lo hi v at_ : Nat} (h : ¬ (lo ≤ v ∧ v ≤ hi)) : chk fp lo hi v at_ = alo fp 2 at_ := by
  unfold chk
  rw [inb_f h]
  rfl
theorem chk_k {fp : Nat × Nat} {lo hi v at_ : Nat} (h1 : fp.1 ≠ 0) (h2 : fp.2 < at_) : chk fp lo hi v at_ = fp := by
  by_cases e : lo ≤ v ∧ v ≤ hi
  · exact chk_y e
  · rw [chk_n e]
    exact alo_y ⟨h1, Or.inl h2⟩
/-- a line's faults in the model's order, too -/
def mf1 (B : Nat → Nat) (n k s : Nat) (fp : Nat × Nat) : Nat × Nat := cond (decide (lim s ≤ lnC B n s k)) (alo fp 3 (tq B n (lnP B n k))) fp
def mf2 (B : Nat → Nat) (n k s : Nat) (fp : Nat × Nat) : Nat × Nat := chk (mf1 B n k s fp) (lst0 s) (grt0 s) (vln B n (lnP B n k) 0) (tq B n (vlp B n (lnP B n k) 0))
def mf3 (B : Nat → Nat) (n k s : Nat) (fp : Nat × Nat) : Nat × Nat := cond (decide (s = 1) && lfB B n (vln B n (lnP B n k) 0) k) (alo (mf2 B n k s fp) 3 (tq B n (lnP B n k))) (mf2 B n k s fp)
def mf4 (B : Nat → Nat) (n k s : Nat) (fp : Nat × Nat) : Nat × Nat := chk (mf3 B n k s fp) (lst1 s) (grt1 s) (vln B n (lnP B n k) 1) (tq B n (vlp B n (lnP B n k) 1))
def mfl (B : Nat → Nat) (n k s : Nat) (fp : Nat × Nat) : Nat × Nat := cond (decide (nnm s = 3)) (chk (mf4 B n k s fp) 1 (grt2 s) (vln B n (lnP B n k) 2) (tq B n (vlp B n (lnP B n k) 2))) (mf4 B n k s fp)
theorem mfl_4 {k s : Nat} {fp x : Nat × Nat} (h : mf4 B n k s fp = x) (hx : x.1 ≠ 0) (h3 : nnm s = 3 → x.2 < tq B n (vlp B n (lnP B n k) 2)) : mfl B n k s fp = x := by
  unfold mfl
  rw [h]
  by_cases e : nnm s = 3
  · rw [decide_eq_true e]
    exact chk_k hx (h3 e)
  · rw [decide_eq_false e]
    rfl
theorem mfl_3 {k s : Nat} {fp x : Nat × Nat} (h : mf3 B n k s fp = x) (hx : x.1 ≠ 0) (h2 : x.2 < tq B n (vlp B n (lnP B n k) 1)) (h3 : nnm s = 3 → x.2 < tq B n (vlp B n (lnP B n k) 2)) : mfl B n k s fp = x := by
  refine mfl_4 ?_ hx h3
  unfold mf4
  rw [h]
  exact chk_k hx h2
theorem mfl_k {k s : Nat} {fp : Nat × Nat} (h : fp.1 ≠ 0) (h0 : fp.2 < tq B n (lnP B n k)) (h1 : tq B n (lnP B n k) < tq B n (vlp B n (lnP B n k) 0)) (h2 : tq B n (vlp B n (lnP B n k) 0) < tq B n (vlp B n (lnP B n k) 1)) (h3 : nnm s = 3 → tq B n (vlp B n (lnP B n k) 1) < tq B n (vlp B n (lnP B n k) 2)) : mfl B n k s fp = fp := by
  have a : ∀ {kk : Nat}, alo fp kk (tq B n (lnP B n k)) = fp := fun {kk} => alo_y ⟨h, Or.inl h0⟩
  have e1 : mf1 B n k s fp = fp := by
    unfold mf1
    rw [a]
    cases decide (lim s ≤ lnC B n s k) <;> rfl
  have e2 : mf2 B n k s fp = fp := by
    unfold mf2
    rw [e1]
    exact chk_k h (by omega)
  have e3 : mf3 B n k s fp = fp := by
    unfold mf3
    rw [e2, a]
    cases (decide (s = 1) && lfB B n (vln B n (lnP B n k) 0) k) <;> rfl
  exact mfl_3 e3 h (by omega) (fun e => by have := h3 e; omega)
theorem mfl_0 {k s : Nat} {fp : Nat × Nat} (hs : slt B n (lnP B n k) = s) (h : fp.1 = 0) (h1 : tq B n (lnP B n k) < tq B n (vlp B n (lnP B n k) 0)) (h2 : tq B n (vlp B n (lnP B n k) 0) < tq B n (vlp B n (lnP B n k) 1)) (h3 : nnm s = 3 → tq B n (vlp B n (lnP B n k) 1) < tq B n (vlp B n (lnP B n k) 2)) : (mfl B n k s fp).1 = (flt B n k).1 ∧ ((flt B n k).1 ≠ 0 → (mfl B n k s fp).2 = (flt B n k).2) := by
  have fin : ∀ x, mfl B n k s fp = x → flt B n k = x → (mfl B n k s fp).1 = (flt B n k).1 ∧ ((flt B n k).1 ≠ 0 → (mfl B n k s fp).2 = (flt B n k).2) := fun x e q => by
    rw [e, q]
    exact ⟨rfl, fun _ => rfl⟩
  have n0 : ∀ {kk at_ : Nat}, alo fp kk at_ = (kk, at_) := fun {kk at_} => alo_n (fun z => z.1 h)
  by_cases e : lim s ≤ lnC B n s k
  · have m1 : mf1 B n k s fp = (3, tq B n (lnP B n k)) := by
      unfold mf1
      rw [decide_eq_true e]
      exact n0
    have m2 : mf2 B n k s fp = (3, tq B n (lnP B n k)) := by
      unfold mf2
      rw [m1]
      exact chk_k (by show (3 : Nat) ≠ 0; decide) h1
    have m3 : mf3 B n k s fp = (3, tq B n (lnP B n k)) := by
      unfold mf3
      rw [m2, alo_y (fp := (3, tq B n (lnP B n k))) ⟨by show (3 : Nat) ≠ 0; decide, Or.inr ⟨rfl, Nat.le_refl _⟩⟩]
      cases (decide (s = 1) && lfB B n (vln B n (lnP B n k) 0) k) <;> rfl
    exact fin _ (mfl_3 m3 (by show (3 : Nat) ≠ 0; decide) (by show tq B n (lnP B n k) < _; omega) (fun z => by have := h3 z; show tq B n (lnP B n k) < _; omega)) (flt_3a hs e)
  · have m1 : mf1 B n k s fp = fp := by
      unfold mf1
      rw [decide_eq_false e]
      rfl
    by_cases l : s = 1 ∧ lfB B n (vln B n (lnP B n k) 0) k = true
    · have m3 : mf3 B n k s fp = (3, tq B n (lnP B n k)) := by
        unfold mf3 mf2
        rw [m1, decide_eq_true l.1, l.2]
        show alo (chk fp (lst0 s) (grt0 s) (vln B n (lnP B n k) 0) (tq B n (vlp B n (lnP B n k) 0))) 3 (tq B n (lnP B n k)) = _
        by_cases a : lst0 s ≤ vln B n (lnP B n k) 0 ∧ vln B n (lnP B n k) 0 ≤ grt0 s
        · rw [chk_y a]
          exact n0
        · rw [chk_n a, n0]
          refine alo_n (fun z => ?_)
          have z := z.2
          have z : tq B n (vlp B n (lnP B n k) 0) < tq B n (lnP B n k) ∨ (tq B n (vlp B n (lnP B n k) 0) = tq B n (lnP B n k) ∧ 2 ≤ 3) := z
          omega
      exact fin _ (mfl_3 m3 (by show (3 : Nat) ≠ 0; decide) (by show tq B n (lnP B n k) < _; omega) (fun z => by have := h3 z; show tq B n (lnP B n k) < _; omega)) (flt_3b (hs.trans l.1) l.2)
    · have l' : s = 1 → lfB B n (vln B n (lnP B n k) 0) k = false := fun z => by
        cases y : lfB B n (vln B n (lnP B n k) 0) k with
        | false => rfl
        | true => exact absurd ⟨z, y⟩ l
      have lb : (decide (s = 1) && lfB B n (vln B n (lnP B n k) 0) k) = false := by
        by_cases z : s = 1
        · rw [l' z, Bool.and_false]
        · rw [decide_eq_false z, Bool.false_and]
      have m3 : mf3 B n k s fp = mf2 B n k s fp := by
        unfold mf3
        rw [lb]
        rfl
      by_cases a : lst0 s ≤ vln B n (lnP B n k) 0 ∧ vln B n (lnP B n k) 0 ≤ grt0 s
      · have m2 : mf2 B n k s fp = fp := by
          unfold mf2
          rw [m1]
          exact chk_y a
        by_cases b : lst1 s ≤ vln B n (lnP B n k) 1 ∧ vln B n (lnP B n k) 1 ≤ grt1 s
        · have m4 : mf4 B n k s fp = fp := by
            unfold mf4
            rw [m3, m2]
            exact chk_y b
          by_cases c3 : nnm s = 3
          · by_cases d : 1 ≤ vln B n (lnP B n k) 2 ∧ vln B n (lnP B n k) 2 ≤ grt2 s
            · have m5 : mfl B n k s fp = fp := by
                unfold mfl
                rw [m4, decide_eq_true c3]
                exact chk_y d
              rw [m5, flt_ok hs e l' a b (fun _ => d)]
              exact ⟨h, fun z => absurd rfl z⟩
            · refine fin (2, tq B n (vlp B n (lnP B n k) 2)) ?_ (flt_2 hs e l' a b c3 d)
              unfold mfl
              rw [m4, decide_eq_true c3]
              show chk fp 1 (grt2 s) (vln B n (lnP B n k) 2) (tq B n (vlp B n (lnP B n k) 2)) = _
              rw [chk_n d]
              exact n0
          · have m5 : mfl B n k s fp = fp := by
              unfold mfl
              rw [m4, decide_eq_false c3]
              rfl
            rw [m5, flt_ok hs e l' a b (fun z => absurd z c3)]
            exact ⟨h, fun z => absurd rfl z⟩
        · refine fin (2, tq B n (vlp B n (lnP B n k) 1)) (mfl_4 ?_ (by show (2 : Nat) ≠ 0; decide) h3) (flt_1 hs e l' a b)
          unfold mf4
          rw [m3, m2, chk_n b]
          exact n0
      · have m2 : mf2 B n k s fp = (2, tq B n (vlp B n (lnP B n k) 0)) := by
          unfold mf2
          rw [m1, chk_n a]
          exact n0
        exact fin _ (mfl_3 (m3.trans m2) (by show (2 : Nat) ≠ 0; decide) h2 (fun z => by have := h3 z; show tq B n (vlp B n (lnP B n k) 0) < _; omega)) (flt_0 hs e l' a)
theorem tk2_of (h : tkd B n p = 2) : tq B n p < n ∧ tf B n p = prn cD B n (tq B n p) ∧ tf B n p - tq B n p ≤ 4 := by
  by_cases e : n ≤ tq B n p
  · have := (tk_end e).1
    omega
  · have e : tq B n p < n := by omega
    cases hl : cL (B (tq B n p)) with
    | true =>
      have := (tk_word e hl).1
      omega
    | false =>
      cases hd : cD (B (tq B n p)) with
      | true =>
        obtain ⟨k1, k2⟩ := tk_num e hl hd
        refine ⟨e, k2, ?_⟩
        rw [h] at k1
        split at k1 <;> omega
      | false =>
        have k := (tk_sign e hl hd).1
        rw [h] at k
        split at k <;> omega
theorem tnu_le (h : tkd B n p = 2) : tnu B n p ≤ 9999 := by
  obtain ⟨h1, h2, h3⟩ := tk2_of h
  unfold tnu
  refine (dgv_le _ (fun j hj => ?_) (by omega)).1
  exact (cD_of (prn_all (c := cD) (B := B) (n := n) (p := tq B n p) (j := tq B n p + j) (by omega) (by omega)).2).2
theorem srt_wix {v : Nat} : srt v = if wixF v ≤ 6 then wixF v else 7 := by
  unfold srt wixF
  repeat' split
  all_goals omega
theorem flt_in {k : Nat} (h : (flt B n k).1 ≠ 0) : (flt B n k).2 = tq B n (lnP B n k) ∨ (flt B n k).2 = tq B n (vlp B n (lnP B n k) 0) ∨ (flt B n k).2 = tq B n (vlp B n (lnP B n k) 1) ∨ (nnm (slt B n (lnP B n k)) = 3 ∧ (flt B n k).2 = tq B n (vlp B n (lnP B n k) 2)) := by
  unfold flt at h ⊢
  generalize (decide (lim (slt B n (lnP B n k)) ≤ lnC B n (slt B n (lnP B n k)) k) || (decide (slt B n (lnP B n k) = 1) && lfB B n (vln B n (lnP B n k) 0) k)) = b1 at h ⊢
  generalize inb (lst0 (slt B n (lnP B n k))) (grt0 (slt B n (lnP B n k))) (vln B n (lnP B n k) 0) = b2 at h ⊢
  generalize inb (lst1 (slt B n (lnP B n k))) (grt1 (slt B n (lnP B n k))) (vln B n (lnP B n k) 1) = b3 at h ⊢
  cases b1 with
  | true => exact Or.inl rfl
  | false =>
    cases b2 with
    | false => exact Or.inr (Or.inl rfl)
    | true =>
      cases b3 with
      | false => exact Or.inr (Or.inr (Or.inl rfl))
      | true =>
        by_cases e : nnm (slt B n (lnP B n k)) = 3
        · rw [decide_eq_true e] at h ⊢
          cases y : inb 1 (grt2 (slt B n (lnP B n k))) (vln B n (lnP B n k) 2) with
          | false => exact Or.inr (Or.inr (Or.inr ⟨e, rfl⟩))
          | true =>
            rw [y] at h
            exact absurd rfl h
        · rw [decide_eq_false e] at h
          exact absurd rfl h
/-- a fault stands ahead of what is still to be read -/
theorem flA_pl {k q : Nat} (h0 : (flA B n k).1 ≠ 0 → (flA B n k).2 < tq B n (lnP B n k)) (h1 : tq B n (lnP B n k) < tq B n (vlp B n (lnP B n k) 0)) (h2 : tq B n (vlp B n (lnP B n k) 0) < tq B n (vlp B n (lnP B n k) 1)) (h3 : nnm (slt B n (lnP B n k)) = 3 → tq B n (vlp B n (lnP B n k) 1) < tq B n (vlp B n (lnP B n k) 2)) (hq : tq B n (vlp B n (lnP B n k) 1) < q) (hq3 : nnm (slt B n (lnP B n k)) = 3 → tq B n (vlp B n (lnP B n k) 2) < q) : (flA B n (k + 1)).1 ≠ 0 → (flA B n (k + 1)).2 < q := by
  intro h
  by_cases e : (flA B n k).1 = 0
  · rw [flA_y e] at h ⊢
    rcases flt_in h with z | z | z | ⟨y, z⟩
    · omega
    · omega
    · omega
    · have := hq3 y
      omega
  · rw [flA_n e]
    have := h0 e
    omega
/-- the model's order of faults comes to the same -/
theorem mfl_A {k s : Nat} (hs : slt B n (lnP B n k) = s) (h0 : (flA B n k).1 ≠ 0 → (flA B n k).2 < tq B n (lnP B n k)) (h1 : tq B n (lnP B n k) < tq B n (vlp B n (lnP B n k) 0)) (h2 : tq B n (vlp B n (lnP B n k) 0) < tq B n (vlp B n (lnP B n k) 1)) (h3 : nnm s = 3 → tq B n (vlp B n (lnP B n k) 1) < tq B n (vlp B n (lnP B n k) 2)) : (mfl B n k s (flA B n k)).1 = (flA B n (k + 1)).1 ∧ ((flA B n (k + 1)).1 ≠ 0 → (mfl B n k s (flA B n k)).2 = (flA B n (k + 1)).2) := by
  by_cases e : (flA B n k).1 = 0
  · rw [flA_y e]
    exact mfl_0 hs e h1 h2 h3
  · rw [flA_n e, mfl_k e (h0 e) h1 h2 h3]
    exact ⟨rfl, fun _ => rfl⟩
theorem wixF_7 {v : Nat} : wixF v = 7 ↔ v = 277892 := by
  refine ⟨fun h => ?_, fun h => by rw [h]; rfl⟩
  unfold wixF at h
  repeat' split at h
  all_goals omega
theorem wixF_8 {v : Nat} : wixF v = 8 ↔ v = 20325509 := by
  refine ⟨fun h => ?_, fun h => by rw [h]; rfl⟩
  unfold wixF at h
  repeat' split at h
  all_goals omega
theorem glw : (twk B n p = 277892 ↔ tkd B n p = 1 ∧ wix 0 (twk B n p) = 7) ∧ (twk B n p = 20325509 ↔ tkd B n p = 1 ∧ wix 0 (twk B n p) = 8) := by
  have k : ∀ {c : Nat}, c ≠ 0 → twk B n p = c → tkd B n p = 1 := fun {c} hc h => by
    by_cases e : tkd B n p = 1
    · exact e
    · rw [twk_0 e] at h
      exact absurd h.symm hc
  exact ⟨⟨fun h => ⟨k (by decide) h, wixF_7.mpr h⟩, fun h => wixF_7.mp h.2⟩, ⟨fun h => ⟨k (by decide) h, wixF_8.mpr h⟩, fun h => wixF_8.mp h.2⟩⟩
theorem lnC_k {s k : Nat} : lnC B n s k ≤ k := by
  induction k with
  | zero => exact Nat.le_refl _
  | succ k ih =>
    show lnC B n s k + (if slt B n (lnP B n k) = s then 1 else 0) ≤ k + 1
    split <;> omega
/-- where there is a fault already, a life told before changes nothing -/
theorem mf3_b {k s : Nat} (h : (flA B n k).1 ≠ 0 ∨ lim s ≤ lnC B n s k) (zp : (flA B n k).1 ≠ 0 → (flA B n k).2 < tq B n (lnP B n k)) (o1 : tq B n (lnP B n k) < tq B n (vlp B n (lnP B n k) 0)) : alo (mf2 B n k s (flA B n k)) 3 (tq B n (lnP B n k)) = mf2 B n k s (flA B n k) := by
  by_cases f0 : (flA B n k).1 = 0
  · have hm : lim s ≤ lnC B n s k := h.resolve_left (fun z => z f0)
    have m1 : mf1 B n k s (flA B n k) = (3, tq B n (lnP B n k)) := by
      unfold mf1
      rw [decide_eq_true hm]
      exact alo_n (fun z => z.1 f0)
    have m2 : mf2 B n k s (flA B n k) = (3, tq B n (lnP B n k)) := by
      unfold mf2
      rw [m1]
      exact chk_k (by show (3 : Nat) ≠ 0; decide) o1
    rw [m2]
    exact alo_y ⟨by show (3 : Nat) ≠ 0; decide, Or.inr ⟨rfl, Nat.le_refl _⟩⟩
  · have zp := zp f0
    have a : alo (flA B n k) 3 (tq B n (lnP B n k)) = flA B n k := alo_y ⟨f0, Or.inl zp⟩
    have m1 : mf1 B n k s (flA B n k) = flA B n k := by
      unfold mf1
      rw [a]
      cases decide (lim s ≤ lnC B n s k) <;> rfl
    have m2 : mf2 B n k s (flA B n k) = flA B n k := by
      unfold mf2
      rw [m1]
      exact chk_k f0 (by omega)
    rw [m2]
    exact a
end XPF
end
