section
/-! Sheet: every method ends and keeps what holds of the cells -/
section XST
variable {d : Nat} {w : List (List xE)} {bd : List (Nat × Nat)} {fc : List (Nat × Nat × Bool)} {rr : Nat × Nat}
theorem shPieceOf {xx yy wi hi : Nat} (hI : xInv w) (h1 : xx ≤ 4294967295) (h2 : yy ≤ 4294967295) (h3 : wi ≤ 4294967295) (h4 : hi ≤ 4294967295) : xPi d mX7_pieceOf [(0, xx), (0, yy), (0, wi), (0, hi)] w bd fc rr (fun n w' => (n ≤ 3024) ∧ xInv w' ∧ xFr [] w w') := by
  refine xPi.of ?_
  show xTo d mX7_pieceOf (0, [], [(0, (0, xx)), (1, (0, yy)), (2, (0, wi)), (3, (0, hi))], [], (w, bd, fc, 0, 0, rr)) (fun φ => ∃ n w', xEnd 1 [(0, n)] (w', bd, fc, 0, 0, rr) φ ∧ (n ≤ 3024) ∧ xInv w' ∧ xFr [] w w')
  refine xg_t (xg_blq rfl) ?_
  refine xg_t (xg_iload (va := (0, xx)) rfl rfl) ?_
  by_cases hc1 : xx < 2147483648
  · refine xg_t (xg_ifF (u := xx) rfl xnm0 (xjz_ltF hc1)) ?_
    refine xg_t (xg_iload (va := (0, wi)) rfl rfl) ?_
    refine xg_t (xg_const) ?_
    by_cases hc2 : xbs wi < xbs 1
    · have hc2u := hc2
      unfold xbs at hc2u
      refine xg_t (xg_icT (u := wi) (v := 1) rfl xnm0 xnm0 (xjs_ltT hc2)) ?_
      refine xg_t (xg_blq rfl) ?_
      refine xg_t (xg_const) ?_
      refine xg_t (xg_blq rfl) ?_
      refine xg_t (xg_istore (l1 := [(0, (0, xx)), (1, (0, yy)), (2, (0, wi)), (3, (0, hi))]) rfl rfl rfl) ?_
      refine xg_t (xg_iload (va := (0, yy)) rfl rfl) ?_
      by_cases hc3 : yy < 2147483648
      · refine xg_t (xg_ifF (u := yy) rfl xnm0 (xjz_ltF hc3)) ?_
        refine xg_t (xg_iload (va := (0, hi)) rfl rfl) ?_
        refine xg_t (xg_const) ?_
        by_cases hc4 : xbs hi < xbs 1
        · have hc4u := hc4
          unfold xbs at hc4u
          refine xg_t (xg_icT (u := hi) (v := 1) rfl xnm0 xnm0 (xjs_ltT hc4)) ?_
          refine xg_t (xg_blq rfl) ?_
          refine xg_t (xg_const) ?_
          refine xg_t (xg_blq rfl) ?_
          refine xg_t (xg_istore (l1 := [(4, (0, 0)), (0, (0, xx)), (1, (0, yy)), (2, (0, wi)), (3, (0, hi))]) rfl rfl rfl) ?_
          refine xg_t (xg_iload (va := (0, 0)) rfl rfl) ?_
          refine xg_t (xg_ifT (u := 0) rfl xnm0 (by decide)) ?_
          refine xg_t (xg_blq rfl) ?_
          refine xg_t (xg_const) ?_
          refine xg_t (xg_blq rfl) ?_
          exact xg_e ⟨0, w, ⟨rfl, rfl⟩, by first | decide | omega, hI, xFr.rf⟩
        · have hc4u := hc4
          unfold xbs at hc4u
          have hn5 : hi ≤ 2147483647 := by omega
          refine xg_t (xg_icF (u := hi) (v := 1) rfl xnm0 xnm0 (xjs_ltF hc4)) ?_
          refine xg_t (xg_iload (va := (0, hi)) rfl rfl) ?_
          refine xg_t (xg_bip) ?_
          refine xg_t (xg_iload (va := (0, yy)) rfl rfl) ?_
          by_cases hc6 : yy ≤ 10
          · refine xg_t (xg_isub (u := 10) (v := yy) (z := 10 - yy) xnm0 xnm0 (by omega)) ?_
            by_cases hc7 : (10 - yy) < hi
            · refine xg_t (xg_icT (u := hi) (v := 10 - yy) rfl xnm0 xnm0 (xj_gtT hc7 (by omega))) ?_
              refine xg_t (xg_blq rfl) ?_
              refine xg_t (xg_const) ?_
              refine xg_t (xg_blq rfl) ?_
              refine xg_t (xg_istore (l1 := [(4, (0, 0)), (0, (0, xx)), (1, (0, yy)), (2, (0, wi)), (3, (0, hi))]) rfl rfl rfl) ?_
              refine xg_t (xg_iload (va := (0, 0)) rfl rfl) ?_
              refine xg_t (xg_ifT (u := 0) rfl xnm0 (by decide)) ?_
              refine xg_t (xg_blq rfl) ?_
              refine xg_t (xg_const) ?_
              refine xg_t (xg_blq rfl) ?_
              exact xg_e ⟨0, w, ⟨rfl, rfl⟩, by first | decide | omega, hI, xFr.rf⟩
            · refine xg_t (xg_icF (u := hi) (v := 10 - yy) rfl xnm0 xnm0 (xj_gtF (by omega) (by omega))) ?_
              refine xg_t (xg_const) ?_
              refine xg_t (xg_goto) ?_
              refine xg_t (xg_blq rfl) ?_
              refine xg_t (xg_istore (l1 := [(4, (0, 0)), (0, (0, xx)), (1, (0, yy)), (2, (0, wi)), (3, (0, hi))]) rfl rfl rfl) ?_
              refine xg_t (xg_iload (va := (0, 0)) rfl rfl) ?_
              refine xg_t (xg_ifT (u := 0) rfl xnm0 (by decide)) ?_
              refine xg_t (xg_blq rfl) ?_
              refine xg_t (xg_const) ?_
              refine xg_t (xg_blq rfl) ?_
              exact xg_e ⟨0, w, ⟨rfl, rfl⟩, by first | decide | omega, hI, xFr.rf⟩
          · have hz10 : 2147483659 ≤ (10 + (4294967296 - yy)) % 4294967296 := by omega
            refine xg_t (xg_isub (u := 10) (v := yy) (z := (10 + (4294967296 - yy)) % 4294967296) xnm0 xnm0 rfl) ?_
            have hz9 : (10 + (4294967296 - yy)) % 4294967296 < 4294967296 := Nat.mod_lt _ (by decide)
            generalize (10 + (4294967296 - yy)) % 4294967296 = z8 at hz10 hz9 ⊢
            refine xg_t (xg_icT (u := hi) (v := z8) rfl xnm0 xnm0 (xjs_gtT (by unfold xbs; omega))) ?_
            refine xg_t (xg_blq rfl) ?_
            refine xg_t (xg_const) ?_
            refine xg_t (xg_blq rfl) ?_
            refine xg_t (xg_istore (l1 := [(4, (0, 0)), (0, (0, xx)), (1, (0, yy)), (2, (0, wi)), (3, (0, hi))]) rfl rfl rfl) ?_
            refine xg_t (xg_iload (va := (0, 0)) rfl rfl) ?_
            refine xg_t (xg_ifT (u := 0) rfl xnm0 (by decide)) ?_
            refine xg_t (xg_blq rfl) ?_
            refine xg_t (xg_const) ?_
            refine xg_t (xg_blq rfl) ?_
            exact xg_e ⟨0, w, ⟨rfl, rfl⟩, by first | decide | omega, hI, xFr.rf⟩
      · refine xg_t (xg_ifT (u := yy) rfl xnm0 (xjz_ltT (by omega) (by omega))) ?_
        refine xg_t (xg_blq rfl) ?_
        refine xg_t (xg_const) ?_
        refine xg_t (xg_blq rfl) ?_
        refine xg_t (xg_istore (l1 := [(4, (0, 0)), (0, (0, xx)), (1, (0, yy)), (2, (0, wi)), (3, (0, hi))]) rfl rfl rfl) ?_
        refine xg_t (xg_iload (va := (0, 0)) rfl rfl) ?_
        refine xg_t (xg_ifT (u := 0) rfl xnm0 (by decide)) ?_
        refine xg_t (xg_blq rfl) ?_
        refine xg_t (xg_const) ?_
        refine xg_t (xg_blq rfl) ?_
        exact xg_e ⟨0, w, ⟨rfl, rfl⟩, by first | decide | omega, hI, xFr.rf⟩
    · have hc2u := hc2
      unfold xbs at hc2u
      have hn11 : wi ≤ 2147483647 := by omega
      refine xg_t (xg_icF (u := wi) (v := 1) rfl xnm0 xnm0 (xjs_ltF hc2)) ?_
      refine xg_t (xg_iload (va := (0, wi)) rfl rfl) ?_
      refine xg_t (xg_bip) ?_
      refine xg_t (xg_iload (va := (0, xx)) rfl rfl) ?_
      by_cases hc12 : xx ≤ 10
      · refine xg_t (xg_isub (u := 10) (v := xx) (z := 10 - xx) xnm0 xnm0 (by omega)) ?_
        by_cases hc13 : (10 - xx) < wi
        · refine xg_t (xg_icT (u := wi) (v := 10 - xx) rfl xnm0 xnm0 (xj_gtT hc13 (by omega))) ?_
          refine xg_t (xg_blq rfl) ?_
          refine xg_t (xg_const) ?_
          refine xg_t (xg_blq rfl) ?_
          refine xg_t (xg_istore (l1 := [(0, (0, xx)), (1, (0, yy)), (2, (0, wi)), (3, (0, hi))]) rfl rfl rfl) ?_
          refine xg_t (xg_iload (va := (0, yy)) rfl rfl) ?_
          by_cases hc14 : yy < 2147483648
          · refine xg_t (xg_ifF (u := yy) rfl xnm0 (xjz_ltF hc14)) ?_
            refine xg_t (xg_iload (va := (0, hi)) rfl rfl) ?_
            refine xg_t (xg_const) ?_
            by_cases hc15 : xbs hi < xbs 1
            · have hc15u := hc15
              unfold xbs at hc15u
              refine xg_t (xg_icT (u := hi) (v := 1) rfl xnm0 xnm0 (xjs_ltT hc15)) ?_
              refine xg_t (xg_blq rfl) ?_
              refine xg_t (xg_const) ?_
              refine xg_t (xg_blq rfl) ?_
              refine xg_t (xg_istore (l1 := [(4, (0, 0)), (0, (0, xx)), (1, (0, yy)), (2, (0, wi)), (3, (0, hi))]) rfl rfl rfl) ?_
              refine xg_t (xg_iload (va := (0, 0)) rfl rfl) ?_
              refine xg_t (xg_ifT (u := 0) rfl xnm0 (by decide)) ?_
              refine xg_t (xg_blq rfl) ?_
              refine xg_t (xg_const) ?_
              refine xg_t (xg_blq rfl) ?_
              exact xg_e ⟨0, w, ⟨rfl, rfl⟩, by first | decide | omega, hI, xFr.rf⟩
            · have hc15u := hc15
              unfold xbs at hc15u
              have hn16 : hi ≤ 2147483647 := by omega
              refine xg_t (xg_icF (u := hi) (v := 1) rfl xnm0 xnm0 (xjs_ltF hc15)) ?_
              refine xg_t (xg_iload (va := (0, hi)) rfl rfl) ?_
              refine xg_t (xg_bip) ?_
              refine xg_t (xg_iload (va := (0, yy)) rfl rfl) ?_
              by_cases hc17 : yy ≤ 10
              · refine xg_t (xg_isub (u := 10) (v := yy) (z := 10 - yy) xnm0 xnm0 (by omega)) ?_
                by_cases hc18 : (10 - yy) < hi
                · refine xg_t (xg_icT (u := hi) (v := 10 - yy) rfl xnm0 xnm0 (xj_gtT hc18 (by omega))) ?_
                  refine xg_t (xg_blq rfl) ?_
                  refine xg_t (xg_const) ?_
                  refine xg_t (xg_blq rfl) ?_
                  refine xg_t (xg_istore (l1 := [(4, (0, 0)), (0, (0, xx)), (1, (0, yy)), (2, (0, wi)), (3, (0, hi))]) rfl rfl rfl) ?_
                  refine xg_t (xg_iload (va := (0, 0)) rfl rfl) ?_
                  refine xg_t (xg_ifT (u := 0) rfl xnm0 (by decide)) ?_
                  refine xg_t (xg_blq rfl) ?_
                  refine xg_t (xg_const) ?_
                  refine xg_t (xg_blq rfl) ?_
                  exact xg_e ⟨0, w, ⟨rfl, rfl⟩, by first | decide | omega, hI, xFr.rf⟩
                · refine xg_t (xg_icF (u := hi) (v := 10 - yy) rfl xnm0 xnm0 (xj_gtF (by omega) (by omega))) ?_
                  refine xg_t (xg_const) ?_
                  refine xg_t (xg_goto) ?_
                  refine xg_t (xg_blq rfl) ?_
                  refine xg_t (xg_istore (l1 := [(4, (0, 0)), (0, (0, xx)), (1, (0, yy)), (2, (0, wi)), (3, (0, hi))]) rfl rfl rfl) ?_
                  refine xg_t (xg_iload (va := (0, 0)) rfl rfl) ?_
                  refine xg_t (xg_ifT (u := 0) rfl xnm0 (by decide)) ?_
                  refine xg_t (xg_blq rfl) ?_
                  refine xg_t (xg_const) ?_
                  refine xg_t (xg_blq rfl) ?_
                  exact xg_e ⟨0, w, ⟨rfl, rfl⟩, by first | decide | omega, hI, xFr.rf⟩
              · have hz21 : 2147483659 ≤ (10 + (4294967296 - yy)) % 4294967296 := by omega
                refine xg_t (xg_isub (u := 10) (v := yy) (z := (10 + (4294967296 - yy)) % 4294967296) xnm0 xnm0 rfl) ?_
                have hz20 : (10 + (4294967296 - yy)) % 4294967296 < 4294967296 := Nat.mod_lt _ (by decide)
                generalize (10 + (4294967296 - yy)) % 4294967296 = z19 at hz21 hz20 ⊢
                refine xg_t (xg_icT (u := hi) (v := z19) rfl xnm0 xnm0 (xjs_gtT (by unfold xbs; omega))) ?_
                refine xg_t (xg_blq rfl) ?_
                refine xg_t (xg_const) ?_
                refine xg_t (xg_blq rfl) ?_
                refine xg_t (xg_istore (l1 := [(4, (0, 0)), (0, (0, xx)), (1, (0, yy)), (2, (0, wi)), (3, (0, hi))]) rfl rfl rfl) ?_
                refine xg_t (xg_iload (va := (0, 0)) rfl rfl) ?_
                refine xg_t (xg_ifT (u := 0) rfl xnm0 (by decide)) ?_
                refine xg_t (xg_blq rfl) ?_
                refine xg_t (xg_const) ?_
                refine xg_t (xg_blq rfl) ?_
                exact xg_e ⟨0, w, ⟨rfl, rfl⟩, by first | decide | omega, hI, xFr.rf⟩
          · refine xg_t (xg_ifT (u := yy) rfl xnm0 (xjz_ltT (by omega) (by omega))) ?_
            refine xg_t (xg_blq rfl) ?_
            refine xg_t (xg_const) ?_
            refine xg_t (xg_blq rfl) ?_
            refine xg_t (xg_istore (l1 := [(4, (0, 0)), (0, (0, xx)), (1, (0, yy)), (2, (0, wi)), (3, (0, hi))]) rfl rfl rfl) ?_
            refine xg_t (xg_iload (va := (0, 0)) rfl rfl) ?_
            refine xg_t (xg_ifT (u := 0) rfl xnm0 (by decide)) ?_
            refine xg_t (xg_blq rfl) ?_
            refine xg_t (xg_const) ?_
            refine xg_t (xg_blq rfl) ?_
            exact xg_e ⟨0, w, ⟨rfl, rfl⟩, by first | decide | omega, hI, xFr.rf⟩
        · refine xg_t (xg_icF (u := wi) (v := 10 - xx) rfl xnm0 xnm0 (xj_gtF (by omega) (by omega))) ?_
          refine xg_t (xg_const) ?_
          refine xg_t (xg_goto) ?_
          refine xg_t (xg_blq rfl) ?_
          refine xg_t (xg_istore (l1 := [(0, (0, xx)), (1, (0, yy)), (2, (0, wi)), (3, (0, hi))]) rfl rfl rfl) ?_
          refine xg_t (xg_iload (va := (0, yy)) rfl rfl) ?_
          by_cases hc22 : yy < 2147483648
          · refine xg_t (xg_ifF (u := yy) rfl xnm0 (xjz_ltF hc22)) ?_
            refine xg_t (xg_iload (va := (0, hi)) rfl rfl) ?_
            refine xg_t (xg_const) ?_
            by_cases hc23 : xbs hi < xbs 1
            · have hc23u := hc23
              unfold xbs at hc23u
              refine xg_t (xg_icT (u := hi) (v := 1) rfl xnm0 xnm0 (xjs_ltT hc23)) ?_
              refine xg_t (xg_blq rfl) ?_
              refine xg_t (xg_const) ?_
              refine xg_t (xg_blq rfl) ?_
              refine xg_t (xg_istore (l1 := [(4, (0, 1)), (0, (0, xx)), (1, (0, yy)), (2, (0, wi)), (3, (0, hi))]) rfl rfl rfl) ?_
              refine xg_t (xg_iload (va := (0, 1)) rfl rfl) ?_
              refine xg_t (xg_ifF (u := 1) rfl xnm0 (by decide)) ?_
              refine xg_t (xg_iload (va := (0, 0)) rfl rfl) ?_
              refine xg_t (xg_ifT (u := 0) rfl xnm0 (by decide)) ?_
              refine xg_t (xg_blq rfl) ?_
              refine xg_t (xg_const) ?_
              refine xg_t (xg_blq rfl) ?_
              exact xg_e ⟨0, w, ⟨rfl, rfl⟩, by first | decide | omega, hI, xFr.rf⟩
            · have hc23u := hc23
              unfold xbs at hc23u
              have hn24 : hi ≤ 2147483647 := by omega
              refine xg_t (xg_icF (u := hi) (v := 1) rfl xnm0 xnm0 (xjs_ltF hc23)) ?_
              refine xg_t (xg_iload (va := (0, hi)) rfl rfl) ?_
              refine xg_t (xg_bip) ?_
              refine xg_t (xg_iload (va := (0, yy)) rfl rfl) ?_
              by_cases hc25 : yy ≤ 10
              · refine xg_t (xg_isub (u := 10) (v := yy) (z := 10 - yy) xnm0 xnm0 (by omega)) ?_
                by_cases hc26 : (10 - yy) < hi
                · refine xg_t (xg_icT (u := hi) (v := 10 - yy) rfl xnm0 xnm0 (xj_gtT hc26 (by omega))) ?_
                  refine xg_t (xg_blq rfl) ?_
                  refine xg_t (xg_const) ?_
                  refine xg_t (xg_blq rfl) ?_
                  refine xg_t (xg_istore (l1 := [(4, (0, 1)), (0, (0, xx)), (1, (0, yy)), (2, (0, wi)), (3, (0, hi))]) rfl rfl rfl) ?_
                  refine xg_t (xg_iload (va := (0, 1)) rfl rfl) ?_
                  refine xg_t (xg_ifF (u := 1) rfl xnm0 (by decide)) ?_
                  refine xg_t (xg_iload (va := (0, 0)) rfl rfl) ?_
                  refine xg_t (xg_ifT (u := 0) rfl xnm0 (by decide)) ?_
                  refine xg_t (xg_blq rfl) ?_
                  refine xg_t (xg_const) ?_
                  refine xg_t (xg_blq rfl) ?_
                  exact xg_e ⟨0, w, ⟨rfl, rfl⟩, by first | decide | omega, hI, xFr.rf⟩
                · refine xg_t (xg_icF (u := hi) (v := 10 - yy) rfl xnm0 xnm0 (xj_gtF (by omega) (by omega))) ?_
                  refine xg_t (xg_const) ?_
                  refine xg_t (xg_goto) ?_
                  refine xg_t (xg_blq rfl) ?_
                  refine xg_t (xg_istore (l1 := [(4, (0, 1)), (0, (0, xx)), (1, (0, yy)), (2, (0, wi)), (3, (0, hi))]) rfl rfl rfl) ?_
                  refine xg_t (xg_iload (va := (0, 1)) rfl rfl) ?_
                  refine xg_t (xg_ifF (u := 1) rfl xnm0 (by decide)) ?_
                  refine xg_t (xg_iload (va := (0, 1)) rfl rfl) ?_
                  refine xg_t (xg_ifF (u := 1) rfl xnm0 (by decide)) ?_
                  have hs27 := sh_le (a := wi) (x := xx) (by omega) (by omega)
                  have hs28 := sh_le (a := hi) (x := yy) (by omega) (by omega)
                  refine xg_t (xg_gets) ?_
                  refine xg_t (xg_iload (va := (0, wi)) rfl rfl) ?_
                  refine xg_t (xg_ald8 (n := wi) xnm0 (by omega)) ?_
                  have hs29 := shr_le (a := wi) (by omega)
                  refine xg_t (xg_iload (va := (0, xx)) rfl rfl) ?_
                  refine xg_t (xg_iadd (u := shr wi) (v := xx) (z := (shr wi) + xx) xnm0 xnm0 (by omega)) ?_
                  refine xg_t (xg_bip) ?_
                  refine xg_t (xg_imul (u := (shr wi) + xx) (v := 55) (z := ((shr wi) + xx) * 55) xnm0 xnm0 (by omega)) ?_
                  refine xg_t (xg_gets) ?_
                  refine xg_t (xg_iload (va := (0, hi)) rfl rfl) ?_
                  refine xg_t (xg_ald8 (n := hi) xnm0 (by omega)) ?_
                  have hs30 := shr_le (a := hi) (by omega)
                  refine xg_t (xg_iadd (u := ((shr wi) + xx) * 55) (v := shr hi) (z := (((shr wi) + xx) * 55) + (shr hi)) xnm0 xnm0 (by omega)) ?_
                  refine xg_t (xg_iload (va := (0, yy)) rfl rfl) ?_
                  refine xg_t (xg_iadd (u := (((shr wi) + xx) * 55) + (shr hi)) (v := yy) (z := ((((shr wi) + xx) * 55) + (shr hi)) + yy) xnm0 xnm0 (by omega)) ?_
                  refine xg_t (xg_goto) ?_
                  refine xg_t (xg_blq rfl) ?_
                  exact xg_e ⟨((((shr wi) + xx) * 55) + (shr hi)) + yy, w, ⟨rfl, rfl⟩, by omega, hI, xFr.rf⟩
              · have hz33 : 2147483659 ≤ (10 + (4294967296 - yy)) % 4294967296 := by omega
                refine xg_t (xg_isub (u := 10) (v := yy) (z := (10 + (4294967296 - yy)) % 4294967296) xnm0 xnm0 rfl) ?_
                have hz32 : (10 + (4294967296 - yy)) % 4294967296 < 4294967296 := Nat.mod_lt _ (by decide)
                generalize (10 + (4294967296 - yy)) % 4294967296 = z31 at hz33 hz32 ⊢
                refine xg_t (xg_icT (u := hi) (v := z31) rfl xnm0 xnm0 (xjs_gtT (by unfold xbs; omega))) ?_
                refine xg_t (xg_blq rfl) ?_
                refine xg_t (xg_const) ?_
                refine xg_t (xg_blq rfl) ?_
                refine xg_t (xg_istore (l1 := [(4, (0, 1)), (0, (0, xx)), (1, (0, yy)), (2, (0, wi)), (3, (0, hi))]) rfl rfl rfl) ?_
                refine xg_t (xg_iload (va := (0, 1)) rfl rfl) ?_
                refine xg_t (xg_ifF (u := 1) rfl xnm0 (by decide)) ?_
                refine xg_t (xg_iload (va := (0, 0)) rfl rfl) ?_
                refine xg_t (xg_ifT (u := 0) rfl xnm0 (by decide)) ?_
                refine xg_t (xg_blq rfl) ?_
                refine xg_t (xg_const) ?_
                refine xg_t (xg_blq rfl) ?_
                exact xg_e ⟨0, w, ⟨rfl, rfl⟩, by first | decide | omega, hI, xFr.rf⟩
          · refine xg_t (xg_ifT (u := yy) rfl xnm0 (xjz_ltT (by omega) (by omega))) ?_
            refine xg_t (xg_blq rfl) ?_
            refine xg_t (xg_const) ?_
            refine xg_t (xg_blq rfl) ?_
            refine xg_t (xg_istore (l1 := [(4, (0, 1)), (0, (0, xx)), (1, (0, yy)), (2, (0, wi)), (3, (0, hi))]) rfl rfl rfl) ?_
            refine xg_t (xg_iload (va := (0, 1)) rfl rfl) ?_
            refine xg_t (xg_ifF (u := 1) rfl xnm0 (by decide)) ?_
            refine xg_t (xg_iload (va := (0, 0)) rfl rfl) ?_
            refine xg_t (xg_ifT (u := 0) rfl xnm0 (by decide)) ?_
            refine xg_t (xg_blq rfl) ?_
            refine xg_t (xg_const) ?_
            refine xg_t (xg_blq rfl) ?_
            exact xg_e ⟨0, w, ⟨rfl, rfl⟩, by first | decide | omega, hI, xFr.rf⟩
      · have hz36 : 2147483659 ≤ (10 + (4294967296 - xx)) % 4294967296 := by omega
        refine xg_t (xg_isub (u := 10) (v := xx) (z := (10 + (4294967296 - xx)) % 4294967296) xnm0 xnm0 rfl) ?_
        have hz35 : (10 + (4294967296 - xx)) % 4294967296 < 4294967296 := Nat.mod_lt _ (by decide)
        generalize (10 + (4294967296 - xx)) % 4294967296 = z34 at hz36 hz35 ⊢
        refine xg_t (xg_icT (u := wi) (v := z34) rfl xnm0 xnm0 (xjs_gtT (by unfold xbs; omega))) ?_
        refine xg_t (xg_blq rfl) ?_
        refine xg_t (xg_const) ?_
        refine xg_t (xg_blq rfl) ?_
        refine xg_t (xg_istore (l1 := [(0, (0, xx)), (1, (0, yy)), (2, (0, wi)), (3, (0, hi))]) rfl rfl rfl) ?_
        refine xg_t (xg_iload (va := (0, yy)) rfl rfl) ?_
        by_cases hc37 : yy < 2147483648
        · refine xg_t (xg_ifF (u := yy) rfl xnm0 (xjz_ltF hc37)) ?_
          refine xg_t (xg_iload (va := (0, hi)) rfl rfl) ?_
          refine xg_t (xg_const) ?_
          by_cases hc38 : xbs hi < xbs 1
          · have hc38u := hc38
            unfold xbs at hc38u
            refine xg_t (xg_icT (u := hi) (v := 1) rfl xnm0 xnm0 (xjs_ltT hc38)) ?_
            refine xg_t (xg_blq rfl) ?_
            refine xg_t (xg_const) ?_
            refine xg_t (xg_blq rfl) ?_
            refine xg_t (xg_istore (l1 := [(4, (0, 0)), (0, (0, xx)), (1, (0, yy)), (2, (0, wi)), (3, (0, hi))]) rfl rfl rfl) ?_
            refine xg_t (xg_iload (va := (0, 0)) rfl rfl) ?_
            refine xg_t (xg_ifT (u := 0) rfl xnm0 (by decide)) ?_
            refine xg_t (xg_blq rfl) ?_
            refine xg_t (xg_const) ?_
            refine xg_t (xg_blq rfl) ?_
            exact xg_e ⟨0, w, ⟨rfl, rfl⟩, by first | decide | omega, hI, xFr.rf⟩
          · have hc38u := hc38
            unfold xbs at hc38u
            have hn39 : hi ≤ 2147483647 := by omega
            refine xg_t (xg_icF (u := hi) (v := 1) rfl xnm0 xnm0 (xjs_ltF hc38)) ?_
            refine xg_t (xg_iload (va := (0, hi)) rfl rfl) ?_
            refine xg_t (xg_bip) ?_
            refine xg_t (xg_iload (va := (0, yy)) rfl rfl) ?_
            by_cases hc40 : yy ≤ 10
            · refine xg_t (xg_isub (u := 10) (v := yy) (z := 10 - yy) xnm0 xnm0 (by omega)) ?_
              by_cases hc41 : (10 - yy) < hi
              · refine xg_t (xg_icT (u := hi) (v := 10 - yy) rfl xnm0 xnm0 (xj_gtT hc41 (by omega))) ?_
                refine xg_t (xg_blq rfl) ?_
                refine xg_t (xg_const) ?_
                refine xg_t (xg_blq rfl) ?_
                refine xg_t (xg_istore (l1 := [(4, (0, 0)), (0, (0, xx)), (1, (0, yy)), (2, (0, wi)), (3, (0, hi))]) rfl rfl rfl) ?_
                refine xg_t (xg_iload (va := (0, 0)) rfl rfl) ?_
                refine xg_t (xg_ifT (u := 0) rfl xnm0 (by decide)) ?_
                refine xg_t (xg_blq rfl) ?_
                refine xg_t (xg_const) ?_
                refine xg_t (xg_blq rfl) ?_
                exact xg_e ⟨0, w, ⟨rfl, rfl⟩, by first | decide | omega, hI, xFr.rf⟩
              · refine xg_t (xg_icF (u := hi) (v := 10 - yy) rfl xnm0 xnm0 (xj_gtF (by omega) (by omega))) ?_
                refine xg_t (xg_const) ?_
                refine xg_t (xg_goto) ?_
                refine xg_t (xg_blq rfl) ?_
                refine xg_t (xg_istore (l1 := [(4, (0, 0)), (0, (0, xx)), (1, (0, yy)), (2, (0, wi)), (3, (0, hi))]) rfl rfl rfl) ?_
                refine xg_t (xg_iload (va := (0, 0)) rfl rfl) ?_
                refine xg_t (xg_ifT (u := 0) rfl xnm0 (by decide)) ?_
                refine xg_t (xg_blq rfl) ?_
                refine xg_t (xg_const) ?_
                refine xg_t (xg_blq rfl) ?_
                exact xg_e ⟨0, w, ⟨rfl, rfl⟩, by first | decide | omega, hI, xFr.rf⟩
            · have hz44 : 2147483659 ≤ (10 + (4294967296 - yy)) % 4294967296 := by omega
              refine xg_t (xg_isub (u := 10) (v := yy) (z := (10 + (4294967296 - yy)) % 4294967296) xnm0 xnm0 rfl) ?_
              have hz43 : (10 + (4294967296 - yy)) % 4294967296 < 4294967296 := Nat.mod_lt _ (by decide)
              generalize (10 + (4294967296 - yy)) % 4294967296 = z42 at hz44 hz43 ⊢
              refine xg_t (xg_icT (u := hi) (v := z42) rfl xnm0 xnm0 (xjs_gtT (by unfold xbs; omega))) ?_
              refine xg_t (xg_blq rfl) ?_
              refine xg_t (xg_const) ?_
              refine xg_t (xg_blq rfl) ?_
              refine xg_t (xg_istore (l1 := [(4, (0, 0)), (0, (0, xx)), (1, (0, yy)), (2, (0, wi)), (3, (0, hi))]) rfl rfl rfl) ?_
              refine xg_t (xg_iload (va := (0, 0)) rfl rfl) ?_
              refine xg_t (xg_ifT (u := 0) rfl xnm0 (by decide)) ?_
              refine xg_t (xg_blq rfl) ?_
              refine xg_t (xg_const) ?_
              refine xg_t (xg_blq rfl) ?_
              exact xg_e ⟨0, w, ⟨rfl, rfl⟩, by first | decide | omega, hI, xFr.rf⟩
        · refine xg_t (xg_ifT (u := yy) rfl xnm0 (xjz_ltT (by omega) (by omega))) ?_
          refine xg_t (xg_blq rfl) ?_
          refine xg_t (xg_const) ?_
          refine xg_t (xg_blq rfl) ?_
          refine xg_t (xg_istore (l1 := [(4, (0, 0)), (0, (0, xx)), (1, (0, yy)), (2, (0, wi)), (3, (0, hi))]) rfl rfl rfl) ?_
          refine xg_t (xg_iload (va := (0, 0)) rfl rfl) ?_
          refine xg_t (xg_ifT (u := 0) rfl xnm0 (by decide)) ?_
          refine xg_t (xg_blq rfl) ?_
          refine xg_t (xg_const) ?_
          refine xg_t (xg_blq rfl) ?_
          exact xg_e ⟨0, w, ⟨rfl, rfl⟩, by first | decide | omega, hI, xFr.rf⟩
  · refine xg_t (xg_ifT (u := xx) rfl xnm0 (xjz_ltT (by omega) (by omega))) ?_
    refine xg_t (xg_blq rfl) ?_
    refine xg_t (xg_const) ?_
    refine xg_t (xg_blq rfl) ?_
    refine xg_t (xg_istore (l1 := [(0, (0, xx)), (1, (0, yy)), (2, (0, wi)), (3, (0, hi))]) rfl rfl rfl) ?_
    refine xg_t (xg_iload (va := (0, yy)) rfl rfl) ?_
    by_cases hc45 : yy < 2147483648
    · refine xg_t (xg_ifF (u := yy) rfl xnm0 (xjz_ltF hc45)) ?_
      refine xg_t (xg_iload (va := (0, hi)) rfl rfl) ?_
      refine xg_t (xg_const) ?_
      by_cases hc46 : xbs hi < xbs 1
      · have hc46u := hc46
        unfold xbs at hc46u
        refine xg_t (xg_icT (u := hi) (v := 1) rfl xnm0 xnm0 (xjs_ltT hc46)) ?_
        refine xg_t (xg_blq rfl) ?_
        refine xg_t (xg_const) ?_
        refine xg_t (xg_blq rfl) ?_
        refine xg_t (xg_istore (l1 := [(4, (0, 0)), (0, (0, xx)), (1, (0, yy)), (2, (0, wi)), (3, (0, hi))]) rfl rfl rfl) ?_
        refine xg_t (xg_iload (va := (0, 0)) rfl rfl) ?_
        refine xg_t (xg_ifT (u := 0) rfl xnm0 (by decide)) ?_
        refine xg_t (xg_blq rfl) ?_
        refine xg_t (xg_const) ?_
        refine xg_t (xg_blq rfl) ?_
        exact xg_e ⟨0, w, ⟨rfl, rfl⟩, by first | decide | omega, hI, xFr.rf⟩
      · have hc46u := hc46
        unfold xbs at hc46u
        have hn47 : hi ≤ 2147483647 := by omega
        refine xg_t (xg_icF (u := hi) (v := 1) rfl xnm0 xnm0 (xjs_ltF hc46)) ?_
        refine xg_t (xg_iload (va := (0, hi)) rfl rfl) ?_
        refine xg_t (xg_bip) ?_
        refine xg_t (xg_iload (va := (0, yy)) rfl rfl) ?_
        by_cases hc48 : yy ≤ 10
        · refine xg_t (xg_isub (u := 10) (v := yy) (z := 10 - yy) xnm0 xnm0 (by omega)) ?_
          by_cases hc49 : (10 - yy) < hi
          · refine xg_t (xg_icT (u := hi) (v := 10 - yy) rfl xnm0 xnm0 (xj_gtT hc49 (by omega))) ?_
            refine xg_t (xg_blq rfl) ?_
            refine xg_t (xg_const) ?_
            refine xg_t (xg_blq rfl) ?_
            refine xg_t (xg_istore (l1 := [(4, (0, 0)), (0, (0, xx)), (1, (0, yy)), (2, (0, wi)), (3, (0, hi))]) rfl rfl rfl) ?_
            refine xg_t (xg_iload (va := (0, 0)) rfl rfl) ?_
            refine xg_t (xg_ifT (u := 0) rfl xnm0 (by decide)) ?_
            refine xg_t (xg_blq rfl) ?_
            refine xg_t (xg_const) ?_
            refine xg_t (xg_blq rfl) ?_
            exact xg_e ⟨0, w, ⟨rfl, rfl⟩, by first | decide | omega, hI, xFr.rf⟩
          · refine xg_t (xg_icF (u := hi) (v := 10 - yy) rfl xnm0 xnm0 (xj_gtF (by omega) (by omega))) ?_
            refine xg_t (xg_const) ?_
            refine xg_t (xg_goto) ?_
            refine xg_t (xg_blq rfl) ?_
            refine xg_t (xg_istore (l1 := [(4, (0, 0)), (0, (0, xx)), (1, (0, yy)), (2, (0, wi)), (3, (0, hi))]) rfl rfl rfl) ?_
            refine xg_t (xg_iload (va := (0, 0)) rfl rfl) ?_
            refine xg_t (xg_ifT (u := 0) rfl xnm0 (by decide)) ?_
            refine xg_t (xg_blq rfl) ?_
            refine xg_t (xg_const) ?_
            refine xg_t (xg_blq rfl) ?_
            exact xg_e ⟨0, w, ⟨rfl, rfl⟩, by first | decide | omega, hI, xFr.rf⟩
        · have hz52 : 2147483659 ≤ (10 + (4294967296 - yy)) % 4294967296 := by omega
          refine xg_t (xg_isub (u := 10) (v := yy) (z := (10 + (4294967296 - yy)) % 4294967296) xnm0 xnm0 rfl) ?_
          have hz51 : (10 + (4294967296 - yy)) % 4294967296 < 4294967296 := Nat.mod_lt _ (by decide)
          generalize (10 + (4294967296 - yy)) % 4294967296 = z50 at hz52 hz51 ⊢
          refine xg_t (xg_icT (u := hi) (v := z50) rfl xnm0 xnm0 (xjs_gtT (by unfold xbs; omega))) ?_
          refine xg_t (xg_blq rfl) ?_
          refine xg_t (xg_const) ?_
          refine xg_t (xg_blq rfl) ?_
          refine xg_t (xg_istore (l1 := [(4, (0, 0)), (0, (0, xx)), (1, (0, yy)), (2, (0, wi)), (3, (0, hi))]) rfl rfl rfl) ?_
          refine xg_t (xg_iload (va := (0, 0)) rfl rfl) ?_
          refine xg_t (xg_ifT (u := 0) rfl xnm0 (by decide)) ?_
          refine xg_t (xg_blq rfl) ?_
          refine xg_t (xg_const) ?_
          refine xg_t (xg_blq rfl) ?_
          exact xg_e ⟨0, w, ⟨rfl, rfl⟩, by first | decide | omega, hI, xFr.rf⟩
    · refine xg_t (xg_ifT (u := yy) rfl xnm0 (xjz_ltT (by omega) (by omega))) ?_
      refine xg_t (xg_blq rfl) ?_
      refine xg_t (xg_const) ?_
      refine xg_t (xg_blq rfl) ?_
      refine xg_t (xg_istore (l1 := [(4, (0, 0)), (0, (0, xx)), (1, (0, yy)), (2, (0, wi)), (3, (0, hi))]) rfl rfl rfl) ?_
      refine xg_t (xg_iload (va := (0, 0)) rfl rfl) ?_
      refine xg_t (xg_ifT (u := 0) rfl xnm0 (by decide)) ?_
      refine xg_t (xg_blq rfl) ?_
      refine xg_t (xg_const) ?_
      refine xg_t (xg_blq rfl) ?_
      exact xg_e ⟨0, w, ⟨rfl, rfl⟩, by first | decide | omega, hI, xFr.rf⟩
theorem shWorthOf {xx yy wi hi : Nat} (hI : xInv w) (h1 : xx ≤ 4294967295) (h2 : yy ≤ 4294967295) (h3 : wi ≤ 4294967295) (h4 : hi ≤ 4294967295) : xPi (d + 1) mX7_worthOf [(2, 72), (0, xx), (0, yy), (0, wi), (0, hi)] w bd fc rr (fun n w' => (n ≤ 4294967295) ∧ xInv w' ∧ xFr [] w w') := by
  refine xPi.of ?_
  show xTo (d + 1) mX7_worthOf (0, [], [(0, (2, 72)), (1, (0, xx)), (2, (0, yy)), (3, (0, wi)), (4, (0, hi))], [], (w, bd, fc, 0, 0, rr)) (fun φ => ∃ n w', xEnd 1 [(0, n)] (w', bd, fc, 0, 0, rr) φ ∧ (n ≤ 4294967295) ∧ xInv w' ∧ xFr [] w w')
  refine xg_t (xg_blq rfl) ?_
  refine xg_t (xg_aload (va := (2, 72)) rfl rfl) ?_
  refine xoC72 (xqc72 hI : cp72 (wget w 72)) (fun f72_1 f72_3 h72_5 hb2 hb4 => ?_)
  refine xg_t (xg_getf (va := (2, 73)) h72_5 rfl) ?_
  refine xg_t (xg_iload (va := (0, xx)) rfl rfl) ?_
  refine xg_t (xg_iload (va := (0, yy)) rfl rfl) ?_
  refine xg_t (xg_iload (va := (0, wi)) rfl rfl) ?_
  refine xg_t (xg_iload (va := (0, hi)) rfl rfl) ?_
  refine xg_cSi mX7_pieceOf (vs := [(0, xx), (0, yy), (0, wi), (0, hi)]) (rest := [(2, 73)]) (cn1 := 0) (sl1 := 0) rfl (shPieceOf (hI) (by omega) (by omega) (by omega) (by omega)) rfl rfl rfl rfl rfl rfl rfl (fun n10 w6 hq7 => ?_)
  obtain ⟨hn11, hI8, hF9⟩ := hq7
  refine xoI (xqc73 hI8 : cpI 3025 43 4294967295 (wget w6 73)) (fun g73_12 h73_13 hb14 => ?_)
  refine xg_ialdB (n := n10) (B := 4294967295) h73_13 (hb14) xnm0 (by omega) (fun u15 hu16 he17 => ?_)
  exact xg_e ⟨u15, w6, ⟨rfl, rfl⟩, by omega, hI8, (hF9.up (by decide))⟩
theorem shHasFlaw {xx yy wi hi : Nat} (hI : xInv w) (h1 : xx ≤ 4294967295) (h2 : yy ≤ 4294967295) (h3 : wi ≤ 4294967295) (h4 : hi ≤ 4294967295) : xPi (d + 1) mX7_hasFlaw [(2, 72), (0, xx), (0, yy), (0, wi), (0, hi)] w bd fc rr (fun n w' => (n ≤ 1) ∧ xInv w' ∧ xFr [] w w') := by
  refine xPi.of ?_
  show xTo (d + 1) mX7_hasFlaw (0, [], [(0, (2, 72)), (1, (0, xx)), (2, (0, yy)), (3, (0, wi)), (4, (0, hi))], [], (w, bd, fc, 0, 0, rr)) (fun φ => ∃ n w', xEnd 4 [(0, n)] (w', bd, fc, 0, 0, rr) φ ∧ (n ≤ 1) ∧ xInv w' ∧ xFr [] w w')
  refine xoC72 (xqc72 hI : cp72 (wget w 72)) (fun f72_1 f72_3 h72_5 hb2 hb4 => ?_)
  refine xoC3 (xqc3 hI : cp3 (wget w 3)) (fun f3_6 f3_8 f3_10 f3_12 f3_14 h3_16 hb7 hb9 hb11 hb13 hb15 => ?_)
  obtain ⟨f12_17, h12_19, hb18⟩ := (xqc12 hI : cp12 (wget w 12))
  refine xoI (xqc13 hI : cpI 40 5 4294967295 (wget w 13)) (fun g13_20 h13_21 hb22 => ?_)
  refine xg_t (xg_blq rfl) ?_
  refine xg_t (xg_const) ?_
  refine xg_t (xg_istore (l1 := [(0, (2, 72)), (1, (0, xx)), (2, (0, yy)), (3, (0, wi)), (4, (0, hi))]) rfl rfl rfl) ?_
  refine xg_t (xg_drop (l1 := [(0, (2, 72)), (1, (0, xx)), (2, (0, yy)), (3, (0, wi)), (4, (0, hi)), (5, (0, 0))]) (List.forall_mem_cons.mpr ⟨List.mem_cons_of_mem _ (List.mem_cons_self), List.forall_mem_cons.mpr ⟨List.mem_cons_of_mem _ (List.mem_cons_of_mem _ (List.mem_cons_self)), List.forall_mem_cons.mpr ⟨List.mem_cons_of_mem _ (List.mem_cons_of_mem _ (List.mem_cons_of_mem _ (List.mem_cons_self))), List.forall_mem_cons.mpr ⟨List.mem_cons_of_mem _ (List.mem_cons_of_mem _ (List.mem_cons_of_mem _ (List.mem_cons_of_mem _ (List.mem_cons_self)))), List.forall_mem_cons.mpr ⟨List.mem_cons_of_mem _ (List.mem_cons_of_mem _ (List.mem_cons_of_mem _ (List.mem_cons_of_mem _ (List.mem_cons_of_mem _ (List.mem_cons_self))))), List.forall_mem_cons.mpr ⟨List.mem_cons_self, fun _ h => absurd h List.not_mem_nil⟩⟩⟩⟩⟩⟩)) ?_
  have key23 : ∀ (m25 : Nat) (ki : Nat) (w26 : List (List xE)), 20 - ki < m25 → ki ≤ 20 → xInv w26 → xFr [] w w26 → xTo (d + 1) mX7_hasFlaw (3, [], [(0, (2, 72)), (1, (0, xx)), (2, (0, yy)), (3, (0, wi)), (4, (0, hi)), (5, (0, ki))], [], (w26, bd, fc, 0, 0, rr)) (fun φ => ∃ n w', xEnd 4 [(0, n)] (w', bd, fc, 0, 0, rr) φ ∧ (n ≤ 1) ∧ xInv w' ∧ xFr [] w w') := by
    intro m25
    induction m25 with
    | zero => intro ki w26 hz; exact absurd hz (Nat.not_lt_zero _)
    | succ m25 ih24 =>
      intro ki w26 hm30 hn29 hI27 hF28
      refine xg_t (xg_blq rfl) ?_
      refine xg_t (xg_iload (va := (0, ki)) rfl rfl) ?_
      refine xg_t (xg_aload (va := (2, 72)) rfl rfl) ?_
      refine xg_t (xg_getf (va := (2, 3)) (hF28.get (by decide) h72_5) rfl) ?_
      refine xg_t (xg_getf (va := (2, 12)) (hF28.get (by decide) h3_16) rfl) ?_
      refine xg_t (xg_getf (va := (0, f12_17)) (hF28.get (by decide) h12_19) rfl) ?_
      by_cases hc31 : ki < f12_17
      · refine xg_t (xg_icF (u := ki) (v := f12_17) rfl xnm0 xnm0 (xj_geF hc31 (by omega))) ?_
        refine xg_t (xg_aload (va := (2, 72)) rfl rfl) ?_
        refine xg_t (xg_getf (va := (2, 3)) (hF28.get (by decide) h72_5) rfl) ?_
        refine xg_t (xg_getf (va := (2, 12)) (hF28.get (by decide) h3_16) rfl) ?_
        refine xg_t (xg_iload (va := (0, ki)) rfl rfl) ?_
        refine xg_t (xg_const) ?_
        refine xg_k (xg_cVr mX5_get (vs := [(0, ki), (0, 0)]) (rest := []) (rs := [(0, if ki < f12_17 ∧ 0 < 2 then g13_20 (ki * 2 + 0) else 4294967295)]) (cn1 := 0) (sl1 := 0) rfl (rget_ok (lim := 20) (wd := 2) (sz := f12_17) (hF28.get (by decide) h12_19) (h13_21.fr hF28 (by decide)) (by decide) (by omega) (by decide) (by decide) (by omega) (by omega)) rfl (hF28.get (by decide) h12_19) rfl rfl rfl rfl rfl rfl rfl) (xiteb (hb22)) (fun z32 hz33 => ?_)
        refine xg_t (xg_iload (va := (0, xx)) rfl rfl) ?_
        refine xg_k (xg_isub (u := z32) (v := xx) (z := (z32 + (4294967296 - xx)) % 4294967296) xnm0 xnm0 rfl) (Nat.mod_lt _ (by decide)) (fun z34 hz35 => ?_)
        refine xg_t (xg_istore (l1 := [(0, (2, 72)), (1, (0, xx)), (2, (0, yy)), (3, (0, wi)), (4, (0, hi)), (5, (0, ki))]) rfl rfl rfl) ?_
        refine xg_t (xg_aload (va := (2, 72)) rfl rfl) ?_
        refine xg_t (xg_getf (va := (2, 3)) (hF28.get (by decide) h72_5) rfl) ?_
        refine xg_t (xg_getf (va := (2, 12)) (hF28.get (by decide) h3_16) rfl) ?_
        refine xg_t (xg_iload (va := (0, ki)) rfl rfl) ?_
        refine xg_t (xg_const) ?_
        refine xg_k (xg_cVr mX5_get (vs := [(0, ki), (0, 1)]) (rest := []) (rs := [(0, if ki < f12_17 ∧ 1 < 2 then g13_20 (ki * 2 + 1) else 4294967295)]) (cn1 := 0) (sl1 := 0) rfl (rget_ok (lim := 20) (wd := 2) (sz := f12_17) (hF28.get (by decide) h12_19) (h13_21.fr hF28 (by decide)) (by decide) (by omega) (by decide) (by decide) (by omega) (by omega)) rfl (hF28.get (by decide) h12_19) rfl rfl rfl rfl rfl rfl rfl) (xiteb (hb22)) (fun z36 hz37 => ?_)
        refine xg_t (xg_iload (va := (0, yy)) rfl rfl) ?_
        refine xg_k (xg_isub (u := z36) (v := yy) (z := (z36 + (4294967296 - yy)) % 4294967296) xnm0 xnm0 rfl) (Nat.mod_lt _ (by decide)) (fun z38 hz39 => ?_)
        refine xg_t (xg_istore (l1 := [(6, (0, z34)), (0, (2, 72)), (1, (0, xx)), (2, (0, yy)), (3, (0, wi)), (4, (0, hi)), (5, (0, ki))]) rfl rfl rfl) ?_
        refine xg_t (xg_iload (va := (0, z34)) rfl rfl) ?_
        by_cases hc40 : z34 < 2147483648
        · refine xg_t (xg_ifF (u := z34) rfl xnm0 (xjz_ltF hc40)) ?_
          refine xg_t (xg_iload (va := (0, z34)) rfl rfl) ?_
          refine xg_t (xg_iload (va := (0, wi)) rfl rfl) ?_
          by_cases hc41 : xbs z34 < xbs wi
          · have hc41u := hc41
            unfold xbs at hc41u
            have hn42 : z34 ≤ 2147483646 := by omega
            have hn43 : wi ≤ 2147483647 := by omega
            refine xg_t (xg_icF (u := z34) (v := wi) rfl xnm0 xnm0 (xjs_geF hc41)) ?_
            refine xg_t (xg_iload (va := (0, z38)) rfl rfl) ?_
            by_cases hc44 : z38 < 2147483648
            · refine xg_t (xg_ifF (u := z38) rfl xnm0 (xjz_ltF hc44)) ?_
              refine xg_t (xg_iload (va := (0, z38)) rfl rfl) ?_
              refine xg_t (xg_iload (va := (0, hi)) rfl rfl) ?_
              by_cases hc45 : xbs z38 < xbs hi
              · have hc45u := hc45
                unfold xbs at hc45u
                have hn46 : z38 ≤ 2147483646 := by omega
                have hn47 : hi ≤ 2147483647 := by omega
                refine xg_t (xg_icF (u := z38) (v := hi) rfl xnm0 xnm0 (xjs_geF hc45)) ?_
                refine xg_t (xg_const) ?_
                exact xg_e ⟨1, w26, ⟨rfl, rfl⟩, by first | decide | omega, hI27, hF28⟩
              · have hc45u := hc45
                unfold xbs at hc45u
                have hn48 : z38 ≤ 2147483647 := by omega
                refine xg_t (xg_icT (u := z38) (v := hi) rfl xnm0 xnm0 (xjs_geT hc45)) ?_
                refine xg_t (xg_blq rfl) ?_
                refine xg_t (xg_iinc (u := ki) (z := ki + 1) (l1 := [(7, (0, z38)), (6, (0, z34)), (0, (2, 72)), (1, (0, xx)), (2, (0, yy)), (3, (0, wi)), (4, (0, hi))]) rfl rfl (by omega) rfl) ?_
                refine xg_t (xg_goto) ?_
                refine xg_t (xg_drop (l1 := [(0, (2, 72)), (1, (0, xx)), (2, (0, yy)), (3, (0, wi)), (4, (0, hi)), (5, (0, ki + 1))]) (List.forall_mem_cons.mpr ⟨List.mem_cons_of_mem _ (List.mem_cons_of_mem _ (List.mem_cons_of_mem _ (List.mem_cons_self))), List.forall_mem_cons.mpr ⟨List.mem_cons_of_mem _ (List.mem_cons_of_mem _ (List.mem_cons_of_mem _ (List.mem_cons_of_mem _ (List.mem_cons_self)))), List.forall_mem_cons.mpr ⟨List.mem_cons_of_mem _ (List.mem_cons_of_mem _ (List.mem_cons_of_mem _ (List.mem_cons_of_mem _ (List.mem_cons_of_mem _ (List.mem_cons_self))))), List.forall_mem_cons.mpr ⟨List.mem_cons_of_mem _ (List.mem_cons_of_mem _ (List.mem_cons_of_mem _ (List.mem_cons_of_mem _ (List.mem_cons_of_mem _ (List.mem_cons_of_mem _ (List.mem_cons_self)))))), List.forall_mem_cons.mpr ⟨List.mem_cons_of_mem _ (List.mem_cons_of_mem _ (List.mem_cons_of_mem _ (List.mem_cons_of_mem _ (List.mem_cons_of_mem _ (List.mem_cons_of_mem _ (List.mem_cons_of_mem _ (List.mem_cons_self))))))), List.forall_mem_cons.mpr ⟨List.mem_cons_self, fun _ h => absurd h List.not_mem_nil⟩⟩⟩⟩⟩⟩)) ?_
                exact ih24 (ki + 1) w26 (by omega) (by omega) (hI27) (hF28)
            · refine xg_t (xg_ifT (u := z38) rfl xnm0 (xjz_ltT (by omega) (by omega))) ?_
              refine xg_t (xg_blq rfl) ?_
              refine xg_t (xg_iinc (u := ki) (z := ki + 1) (l1 := [(7, (0, z38)), (6, (0, z34)), (0, (2, 72)), (1, (0, xx)), (2, (0, yy)), (3, (0, wi)), (4, (0, hi))]) rfl rfl (by omega) rfl) ?_
              refine xg_t (xg_goto) ?_
              refine xg_t (xg_drop (l1 := [(0, (2, 72)), (1, (0, xx)), (2, (0, yy)), (3, (0, wi)), (4, (0, hi)), (5, (0, ki + 1))]) (List.forall_mem_cons.mpr ⟨List.mem_cons_of_mem _ (List.mem_cons_of_mem _ (List.mem_cons_of_mem _ (List.mem_cons_self))), List.forall_mem_cons.mpr ⟨List.mem_cons_of_mem _ (List.mem_cons_of_mem _ (List.mem_cons_of_mem _ (List.mem_cons_of_mem _ (List.mem_cons_self)))), List.forall_mem_cons.mpr ⟨List.mem_cons_of_mem _ (List.mem_cons_of_mem _ (List.mem_cons_of_mem _ (List.mem_cons_of_mem _ (List.mem_cons_of_mem _ (List.mem_cons_self))))), List.forall_mem_cons.mpr ⟨List.mem_cons_of_mem _ (List.mem_cons_of_mem _ (List.mem_cons_of_mem _ (List.mem_cons_of_mem _ (List.mem_cons_of_mem _ (List.mem_cons_of_mem _ (List.mem_cons_self)))))), List.forall_mem_cons.mpr ⟨List.mem_cons_of_mem _ (List.mem_cons_of_mem _ (List.mem_cons_of_mem _ (List.mem_cons_of_mem _ (List.mem_cons_of_mem _ (List.mem_cons_of_mem _ (List.mem_cons_of_mem _ (List.mem_cons_self))))))), List.forall_mem_cons.mpr ⟨List.mem_cons_self, fun _ h => absurd h List.not_mem_nil⟩⟩⟩⟩⟩⟩)) ?_
              exact ih24 (ki + 1) w26 (by omega) (by omega) (hI27) (hF28)
          · have hc41u := hc41
            unfold xbs at hc41u
            have hn49 : z34 ≤ 2147483647 := by omega
            refine xg_t (xg_icT (u := z34) (v := wi) rfl xnm0 xnm0 (xjs_geT hc41)) ?_
            refine xg_t (xg_blq rfl) ?_
            refine xg_t (xg_iinc (u := ki) (z := ki + 1) (l1 := [(7, (0, z38)), (6, (0, z34)), (0, (2, 72)), (1, (0, xx)), (2, (0, yy)), (3, (0, wi)), (4, (0, hi))]) rfl rfl (by omega) rfl) ?_
            refine xg_t (xg_goto) ?_
            refine xg_t (xg_drop (l1 := [(0, (2, 72)), (1, (0, xx)), (2, (0, yy)), (3, (0, wi)), (4, (0, hi)), (5, (0, ki + 1))]) (List.forall_mem_cons.mpr ⟨List.mem_cons_of_mem _ (List.mem_cons_of_mem _ (List.mem_cons_of_mem _ (List.mem_cons_self))), List.forall_mem_cons.mpr ⟨List.mem_cons_of_mem _ (List.mem_cons_of_mem _ (List.mem_cons_of_mem _ (List.mem_cons_of_mem _ (List.mem_cons_self)))), List.forall_mem_cons.mpr ⟨List.mem_cons_of_mem _ (List.mem_cons_of_mem _ (List.mem_cons_of_mem _ (List.mem_cons_of_mem _ (List.mem_cons_of_mem _ (List.mem_cons_self))))), List.forall_mem_cons.mpr ⟨List.mem_cons_of_mem _ (List.mem_cons_of_mem _ (List.mem_cons_of_mem _ (List.mem_cons_of_mem _ (List.mem_cons_of_mem _ (List.mem_cons_of_mem _ (List.mem_cons_self)))))), List.forall_mem_cons.mpr ⟨List.mem_cons_of_mem _ (List.mem_cons_of_mem _ (List.mem_cons_of_mem _ (List.mem_cons_of_mem _ (List.mem_cons_of_mem _ (List.mem_cons_of_mem _ (List.mem_cons_of_mem _ (List.mem_cons_self))))))), List.forall_mem_cons.mpr ⟨List.mem_cons_self, fun _ h => absurd h List.not_mem_nil⟩⟩⟩⟩⟩⟩)) ?_
            exact ih24 (ki + 1) w26 (by omega) (by omega) (hI27) (hF28)
        · refine xg_t (xg_ifT (u := z34) rfl xnm0 (xjz_ltT (by omega) (by omega))) ?_
          refine xg_t (xg_blq rfl) ?_
          refine xg_t (xg_iinc (u := ki) (z := ki + 1) (l1 := [(7, (0, z38)), (6, (0, z34)), (0, (2, 72)), (1, (0, xx)), (2, (0, yy)), (3, (0, wi)), (4, (0, hi))]) rfl rfl (by omega) rfl) ?_
          refine xg_t (xg_goto) ?_
          refine xg_t (xg_drop (l1 := [(0, (2, 72)), (1, (0, xx)), (2, (0, yy)), (3, (0, wi)), (4, (0, hi)), (5, (0, ki + 1))]) (List.forall_mem_cons.mpr ⟨List.mem_cons_of_mem _ (List.mem_cons_of_mem _ (List.mem_cons_of_mem _ (List.mem_cons_self))), List.forall_mem_cons.mpr ⟨List.mem_cons_of_mem _ (List.mem_cons_of_mem _ (List.mem_cons_of_mem _ (List.mem_cons_of_mem _ (List.mem_cons_self)))), List.forall_mem_cons.mpr ⟨List.mem_cons_of_mem _ (List.mem_cons_of_mem _ (List.mem_cons_of_mem _ (List.mem_cons_of_mem _ (List.mem_cons_of_mem _ (List.mem_cons_self))))), List.forall_mem_cons.mpr ⟨List.mem_cons_of_mem _ (List.mem_cons_of_mem _ (List.mem_cons_of_mem _ (List.mem_cons_of_mem _ (List.mem_cons_of_mem _ (List.mem_cons_of_mem _ (List.mem_cons_self)))))), List.forall_mem_cons.mpr ⟨List.mem_cons_of_mem _ (List.mem_cons_of_mem _ (List.mem_cons_of_mem _ (List.mem_cons_of_mem _ (List.mem_cons_of_mem _ (List.mem_cons_of_mem _ (List.mem_cons_of_mem _ (List.mem_cons_self))))))), List.forall_mem_cons.mpr ⟨List.mem_cons_self, fun _ h => absurd h List.not_mem_nil⟩⟩⟩⟩⟩⟩)) ?_
          exact ih24 (ki + 1) w26 (by omega) (by omega) (hI27) (hF28)
      · refine xg_t (xg_icT (u := ki) (v := f12_17) rfl xnm0 xnm0 (xj_geT (by omega) (by omega))) ?_
        refine xg_t (xg_blq rfl) ?_
        refine xg_t (xg_const) ?_
        exact xg_e ⟨0, w26, ⟨rfl, rfl⟩, by first | decide | omega, hI27, hF28⟩
  exact key23 _ 0 w (Nat.lt_succ_self _) (by omega) (hI) (xFr.rf)
theorem shIsAsLarge {kd wi hi : Nat} (hI : xInv w) (h1 : kd ≤ 4294967295) (h3 : wi ≤ 4294967295) (h4 : hi ≤ 4294967295) : xPi (d + 1) mX7_isAsLarge [(2, 72), (0, kd), (0, wi), (0, hi)] w bd fc rr (fun n w' => (n ≤ 1) ∧ xInv w' ∧ xFr [] w w') := by
  refine xPi.of ?_
  show xTo (d + 1) mX7_isAsLarge (0, [], [(0, (2, 72)), (1, (0, kd)), (2, (0, wi)), (3, (0, hi))], [], (w, bd, fc, 0, 0, rr)) (fun φ => ∃ n w', xEnd 4 [(0, n)] (w', bd, fc, 0, 0, rr) φ ∧ (n ≤ 1) ∧ xInv w' ∧ xFr [] w w')
  refine xoC72 (xqc72 hI : cp72 (wget w 72)) (fun f72_1 f72_3 h72_5 hb2 hb4 => ?_)
  refine xoC3 (xqc3 hI : cp3 (wget w 3)) (fun f3_6 f3_8 f3_10 f3_12 f3_14 h3_16 hb7 hb9 hb11 hb13 hb15 => ?_)
  obtain ⟨f10_17, h10_19, hb18⟩ := (xqc10 hI : cp10 (wget w 10))
  refine xoI (xqc11 hI : cpI 12 4 4294967295 (wget w 11)) (fun g11_20 h11_21 hb22 => ?_)
  refine xg_t (xg_blq rfl) ?_
  refine xg_t (xg_aload (va := (2, 72)) rfl rfl) ?_
  refine xg_t (xg_getf (va := (2, 3)) h72_5 rfl) ?_
  refine xg_t (xg_getf (va := (2, 10)) h3_16 rfl) ?_
  refine xg_t (xg_iload (va := (0, kd)) rfl rfl) ?_
  refine xg_t (xg_const) ?_
  refine xg_k (xg_cVr mX5_get (vs := [(0, kd), (0, 0)]) (rest := []) (rs := [(0, if kd < f10_17 ∧ 0 < 3 then g11_20 (kd * 3 + 0) else 4294967295)]) (cn1 := 0) (sl1 := 0) rfl (rget_ok (lim := 4) (wd := 3) (sz := f10_17) h10_19 h11_21 (by decide) (by omega) (by decide) (by decide) (by omega) (by omega)) rfl h10_19 rfl rfl rfl rfl rfl rfl rfl) (xiteb (hb22)) (fun z23 hz24 => ?_)
  refine xg_t (xg_iload (va := (0, wi)) rfl rfl) ?_
  by_cases hc25 : z23 = wi
  · refine xg_t (xg_icF (u := z23) (v := wi) rfl xnm0 xnm0 (xj_neF hc25)) ?_
    refine xg_t (xg_aload (va := (2, 72)) rfl rfl) ?_
    refine xg_t (xg_getf (va := (2, 3)) h72_5 rfl) ?_
    refine xg_t (xg_getf (va := (2, 10)) h3_16 rfl) ?_
    refine xg_t (xg_iload (va := (0, kd)) rfl rfl) ?_
    refine xg_t (xg_const) ?_
    refine xg_k (xg_cVr mX5_get (vs := [(0, kd), (0, 1)]) (rest := []) (rs := [(0, if kd < f10_17 ∧ 1 < 3 then g11_20 (kd * 3 + 1) else 4294967295)]) (cn1 := 0) (sl1 := 0) rfl (rget_ok (lim := 4) (wd := 3) (sz := f10_17) h10_19 h11_21 (by decide) (by omega) (by decide) (by decide) (by omega) (by omega)) rfl h10_19 rfl rfl rfl rfl rfl rfl rfl) (xiteb (hb22)) (fun z26 hz27 => ?_)
    refine xg_t (xg_iload (va := (0, hi)) rfl rfl) ?_
    by_cases hc28 : z26 = hi
    · refine xg_t (xg_icF (u := z26) (v := hi) rfl xnm0 xnm0 (xj_neF hc28)) ?_
      refine xg_t (xg_const) ?_
      refine xg_t (xg_goto) ?_
      refine xg_t (xg_blq rfl) ?_
      exact xg_e ⟨1, w, ⟨rfl, rfl⟩, by first | decide | omega, hI, xFr.rf⟩
    · refine xg_t (xg_icT (u := z26) (v := hi) rfl xnm0 xnm0 (xj_neT hc28)) ?_
      refine xg_t (xg_blq rfl) ?_
      refine xg_t (xg_const) ?_
      refine xg_t (xg_blq rfl) ?_
      exact xg_e ⟨0, w, ⟨rfl, rfl⟩, by first | decide | omega, hI, xFr.rf⟩
  · refine xg_t (xg_icT (u := z23) (v := wi) rfl xnm0 xnm0 (xj_neT hc25)) ?_
    refine xg_t (xg_blq rfl) ?_
    refine xg_t (xg_const) ?_
    refine xg_t (xg_blq rfl) ?_
    exact xg_e ⟨0, w, ⟨rfl, rfl⟩, by first | decide | omega, hI, xFr.rf⟩
theorem shWorthOfSize {wi hi : Nat} (hI : xInv w) (h3 : wi ≤ 4294967295) (h4 : hi ≤ 4294967295) : xPi (d + 2) mX7_worthOfSize [(2, 72), (0, wi), (0, hi)] w bd fc rr (fun n w' => (n ≤ 4294967295) ∧ xInv w' ∧ xFr [] w w') := by
  refine xPi.of ?_
  show xTo (d + 2) mX7_worthOfSize (0, [], [(0, (2, 72)), (1, (0, wi)), (2, (0, hi))], [], (w, bd, fc, 0, 0, rr)) (fun φ => ∃ n w', xEnd 1 [(0, n)] (w', bd, fc, 0, 0, rr) φ ∧ (n ≤ 4294967295) ∧ xInv w' ∧ xFr [] w w')
  refine xoC72 (xqc72 hI : cp72 (wget w 72)) (fun f72_1 f72_3 h72_5 hb2 hb4 => ?_)
  refine xoC3 (xqc3 hI : cp3 (wget w 3)) (fun f3_6 f3_8 f3_10 f3_12 f3_14 h3_16 hb7 hb9 hb11 hb13 hb15 => ?_)
  obtain ⟨f10_17, h10_19, hb18⟩ := (xqc10 hI : cp10 (wget w 10))
  refine xoI (xqc11 hI : cpI 12 4 4294967295 (wget w 11)) (fun g11_20 h11_21 hb22 => ?_)
  refine xg_t (xg_blq rfl) ?_
  refine xg_t (xg_const) ?_
  refine xg_t (xg_istore (l1 := [(0, (2, 72)), (1, (0, wi)), (2, (0, hi))]) rfl rfl rfl) ?_
  refine xg_t (xg_const) ?_
  refine xg_t (xg_istore (l1 := [(3, (0, 0)), (0, (2, 72)), (1, (0, wi)), (2, (0, hi))]) rfl rfl rfl) ?_
  refine xg_t (xg_drop (l1 := [(0, (2, 72)), (1, (0, wi)), (2, (0, hi)), (3, (0, 0)), (4, (0, 0))]) (List.forall_mem_cons.mpr ⟨List.mem_cons_of_mem _ (List.mem_cons_of_mem _ (List.mem_cons_self)), List.forall_mem_cons.mpr ⟨List.mem_cons_of_mem _ (List.mem_cons_of_mem _ (List.mem_cons_of_mem _ (List.mem_cons_self))), List.forall_mem_cons.mpr ⟨List.mem_cons_of_mem _ (List.mem_cons_of_mem _ (List.mem_cons_of_mem _ (List.mem_cons_of_mem _ (List.mem_cons_self)))), List.forall_mem_cons.mpr ⟨List.mem_cons_of_mem _ (List.mem_cons_self), List.forall_mem_cons.mpr ⟨List.mem_cons_self, fun _ h => absurd h List.not_mem_nil⟩⟩⟩⟩⟩)) ?_
  have key23 : ∀ (m25 : Nat) (be kd : Nat) (w26 : List (List xE)), 4 - kd < m25 → be ≤ 4294967295 → kd ≤ 4 → xInv w26 → xFr [] w w26 → xTo (d + 2) mX7_worthOfSize (5, [], [(0, (2, 72)), (1, (0, wi)), (2, (0, hi)), (3, (0, be)), (4, (0, kd))], [], (w26, bd, fc, 0, 0, rr)) (fun φ => ∃ n w', xEnd 1 [(0, n)] (w', bd, fc, 0, 0, rr) φ ∧ (n ≤ 4294967295) ∧ xInv w' ∧ xFr [] w w') := by
    intro m25
    induction m25 with
    | zero => intro be kd w26 hz; exact absurd hz (Nat.not_lt_zero _)
    | succ m25 ih24 =>
      intro be kd w26 hm31 hn29 hn30 hI27 hF28
      refine xg_t (xg_blq rfl) ?_
      refine xg_t (xg_iload (va := (0, kd)) rfl rfl) ?_
      refine xg_t (xg_aload (va := (2, 72)) rfl rfl) ?_
      refine xg_t (xg_getf (va := (2, 3)) (hF28.get (by decide) h72_5) rfl) ?_
      refine xg_t (xg_getf (va := (2, 10)) (hF28.get (by decide) h3_16) rfl) ?_
      refine xg_t (xg_getf (va := (0, f10_17)) (hF28.get (by decide) h10_19) rfl) ?_
      by_cases hc32 : kd < f10_17
      · refine xg_t (xg_icF (u := kd) (v := f10_17) rfl xnm0 xnm0 (xj_geF hc32 (by omega))) ?_
        refine xg_t (xg_aload (va := (2, 72)) rfl rfl) ?_
        refine xg_t (xg_iload (va := (0, kd)) rfl rfl) ?_
        refine xg_t (xg_iload (va := (0, wi)) rfl rfl) ?_
        refine xg_t (xg_iload (va := (0, hi)) rfl rfl) ?_
        refine xg_cVi mX7_isAsLarge (vs := [(0, kd), (0, wi), (0, hi)]) (rest := []) (cn1 := 0) (sl1 := 0) rfl (shIsAsLarge (hI27) (by omega) (by omega) (by omega)) rfl (hF28.get (by decide) h72_5) rfl rfl rfl rfl rfl rfl (fun n37 w33 hq34 => ?_)
        obtain ⟨hn38, hI35, hF36⟩ := hq34
        by_cases hc39 : n37 = 0
        · refine xg_t (xg_ifT (u := n37) rfl xnm0 (xj_eqT hc39)) ?_
          refine xg_t (xg_blq rfl) ?_
          refine xg_t (xg_iinc (u := kd) (z := kd + 1) (l1 := [(0, (2, 72)), (1, (0, wi)), (2, (0, hi)), (3, (0, be))]) rfl rfl (by omega) rfl) ?_
          refine xg_t (xg_goto) ?_
          refine xg_t (xg_drop (l1 := [(0, (2, 72)), (1, (0, wi)), (2, (0, hi)), (3, (0, be)), (4, (0, kd + 1))]) (List.forall_mem_cons.mpr ⟨List.mem_cons_of_mem _ (List.mem_cons_self), List.forall_mem_cons.mpr ⟨List.mem_cons_of_mem _ (List.mem_cons_of_mem _ (List.mem_cons_self)), List.forall_mem_cons.mpr ⟨List.mem_cons_of_mem _ (List.mem_cons_of_mem _ (List.mem_cons_of_mem _ (List.mem_cons_self))), List.forall_mem_cons.mpr ⟨List.mem_cons_of_mem _ (List.mem_cons_of_mem _ (List.mem_cons_of_mem _ (List.mem_cons_of_mem _ (List.mem_cons_self)))), List.forall_mem_cons.mpr ⟨List.mem_cons_self, fun _ h => absurd h List.not_mem_nil⟩⟩⟩⟩⟩)) ?_
          exact ih24 be (kd + 1) w33 (by omega) (by omega) (by omega) (hI35) ((hF28.tr (hF36.up (by decide))))
        · refine xg_t (xg_ifF (u := n37) rfl xnm0 (xj_eqF hc39)) ?_
          refine xg_t (xg_iload (va := (0, be)) rfl rfl) ?_
          refine xg_t (xg_aload (va := (2, 72)) rfl rfl) ?_
          refine xg_t (xg_getf (va := (2, 3)) (hF36.get (by decide) (hF28.get (by decide) h72_5)) rfl) ?_
          refine xg_t (xg_getf (va := (2, 10)) (hF36.get (by decide) (hF28.get (by decide) h3_16)) rfl) ?_
          refine xg_t (xg_iload (va := (0, kd)) rfl rfl) ?_
          refine xg_t (xg_const) ?_
          refine xg_k (xg_cVr mX5_get (vs := [(0, kd), (0, 2)]) (rest := [(0, be)]) (rs := [(0, if kd < f10_17 ∧ 2 < 3 then g11_20 (kd * 3 + 2) else 4294967295), (0, be)]) (cn1 := 0) (sl1 := 0) rfl (rget_ok (lim := 4) (wd := 3) (sz := f10_17) (hF36.get (by decide) (hF28.get (by decide) h10_19)) ((h11_21.fr hF28 (by decide)).fr hF36 (by decide)) (by decide) (by omega) (by decide) (by decide) (by omega) (by omega)) rfl (hF36.get (by decide) (hF28.get (by decide) h10_19)) rfl rfl rfl rfl rfl rfl rfl) (xiteb (hb22)) (fun z40 hz41 => ?_)
          refine xg_maxK (u := be) (v := z40) xnm0 xnm0 xmx_ok (by omega) (by omega) (fun z42 hz43 hz44 hz45 hz46 => ?_)
          unfold xbs at hz44 hz45
          refine xg_t (xg_istore (l1 := [(0, (2, 72)), (1, (0, wi)), (2, (0, hi)), (4, (0, kd))]) rfl rfl rfl) ?_
          refine xg_t (xg_blq rfl) ?_
          refine xg_t (xg_iinc (u := kd) (z := kd + 1) (l1 := [(3, (0, z42)), (0, (2, 72)), (1, (0, wi)), (2, (0, hi))]) rfl rfl (by omega) rfl) ?_
          refine xg_t (xg_goto) ?_
          refine xg_t (xg_drop (l1 := [(0, (2, 72)), (1, (0, wi)), (2, (0, hi)), (3, (0, z42)), (4, (0, kd + 1))]) (List.forall_mem_cons.mpr ⟨List.mem_cons_of_mem _ (List.mem_cons_of_mem _ (List.mem_cons_self)), List.forall_mem_cons.mpr ⟨List.mem_cons_of_mem _ (List.mem_cons_of_mem _ (List.mem_cons_of_mem _ (List.mem_cons_self))), List.forall_mem_cons.mpr ⟨List.mem_cons_of_mem _ (List.mem_cons_of_mem _ (List.mem_cons_of_mem _ (List.mem_cons_of_mem _ (List.mem_cons_self)))), List.forall_mem_cons.mpr ⟨List.mem_cons_of_mem _ (List.mem_cons_self), List.forall_mem_cons.mpr ⟨List.mem_cons_self, fun _ h => absurd h List.not_mem_nil⟩⟩⟩⟩⟩)) ?_
          exact ih24 z42 (kd + 1) w33 (by omega) (by omega) (by omega) (hI35) ((hF28.tr (hF36.up (by decide))))
      · refine xg_t (xg_icT (u := kd) (v := f10_17) rfl xnm0 xnm0 (xj_geT (by omega) (by omega))) ?_
        refine xg_t (xg_blq rfl) ?_
        refine xg_t (xg_iload (va := (0, be)) rfl rfl) ?_
        exact xg_e ⟨be, w26, ⟨rfl, rfl⟩, by omega, hI27, hF28⟩
  exact key23 _ 0 0 w (Nat.lt_succ_self _) (by omega) (by omega) (hI) (xFr.rf)
theorem shWorthCut {xx yy wi hi : Nat} (hI : xInv w) (h1 : xx + wi ≤ 10) (h2 : yy + hi ≤ 10) (h3 : 1 ≤ wi) (h4 : 1 ≤ hi) : xPi (d + 1) mX7_worthCut [(2, 72), (0, xx), (0, yy), (0, wi), (0, hi)] w bd fc rr (fun n w' => (n ≤ 4294967295) ∧ xInv w' ∧ xFr [] w w') := by
  refine xPi.of ?_
  show xTo (d + 1) mX7_worthCut (0, [], [(0, (2, 72)), (1, (0, xx)), (2, (0, yy)), (3, (0, wi)), (4, (0, hi))], [], (w, bd, fc, 0, 0, rr)) (fun φ => ∃ n w', xEnd 1 [(0, n)] (w', bd, fc, 0, 0, rr) φ ∧ (n ≤ 4294967295) ∧ xInv w' ∧ xFr [] w w')
  refine xg_t (xg_blq rfl) ?_
  refine xg_t (xg_const) ?_
  refine xg_t (xg_istore (l1 := [(0, (2, 72)), (1, (0, xx)), (2, (0, yy)), (3, (0, wi)), (4, (0, hi))]) rfl rfl rfl) ?_
  have hs1 := sh_le (a := hi) (x := yy) (by omega) (by omega)
  have hs2 := sh_le (a := wi) (x := xx) (by omega) (by omega)
  refine xg_t (xg_gets) ?_
  refine xg_t (xg_iload (va := (0, hi)) rfl rfl) ?_
  refine xg_t (xg_ald8 (n := hi) xnm0 (by omega)) ?_
  have hs3 := shr_le (a := hi) (by omega)
  refine xg_t (xg_iload (va := (0, yy)) rfl rfl) ?_
  refine xg_t (xg_iadd (u := shr hi) (v := yy) (z := (shr hi) + yy) xnm0 xnm0 (by omega)) ?_
  refine xg_t (xg_istore (l1 := [(5, (0, 0)), (0, (2, 72)), (1, (0, xx)), (2, (0, yy)), (3, (0, wi)), (4, (0, hi))]) rfl rfl rfl) ?_
  refine xg_t (xg_const) ?_
  refine xg_t (xg_istore (l1 := [(6, (0, (shr hi) + yy)), (5, (0, 0)), (0, (2, 72)), (1, (0, xx)), (2, (0, yy)), (3, (0, wi)), (4, (0, hi))]) rfl rfl rfl) ?_
  refine xg_t (xg_drop (l1 := [(0, (2, 72)), (1, (0, xx)), (2, (0, yy)), (3, (0, wi)), (4, (0, hi)), (5, (0, 0)), (6, (0, (shr hi) + yy)), (7, (0, 1))]) (List.forall_mem_cons.mpr ⟨List.mem_cons_of_mem _ (List.mem_cons_of_mem _ (List.mem_cons_of_mem _ (List.mem_cons_self))), List.forall_mem_cons.mpr ⟨List.mem_cons_of_mem _ (List.mem_cons_of_mem _ (List.mem_cons_of_mem _ (List.mem_cons_of_mem _ (List.mem_cons_self)))), List.forall_mem_cons.mpr ⟨List.mem_cons_of_mem _ (List.mem_cons_of_mem _ (List.mem_cons_of_mem _ (List.mem_cons_of_mem _ (List.mem_cons_of_mem _ (List.mem_cons_self))))), List.forall_mem_cons.mpr ⟨List.mem_cons_of_mem _ (List.mem_cons_of_mem _ (List.mem_cons_of_mem _ (List.mem_cons_of_mem _ (List.mem_cons_of_mem _ (List.mem_cons_of_mem _ (List.mem_cons_self)))))), List.forall_mem_cons.mpr ⟨List.mem_cons_of_mem _ (List.mem_cons_of_mem _ (List.mem_cons_of_mem _ (List.mem_cons_of_mem _ (List.mem_cons_of_mem _ (List.mem_cons_of_mem _ (List.mem_cons_of_mem _ (List.mem_cons_self))))))), List.forall_mem_cons.mpr ⟨List.mem_cons_of_mem _ (List.mem_cons_of_mem _ (List.mem_cons_self)), List.forall_mem_cons.mpr ⟨List.mem_cons_of_mem _ (List.mem_cons_self), List.forall_mem_cons.mpr ⟨List.mem_cons_self, fun _ h => absurd h List.not_mem_nil⟩⟩⟩⟩⟩⟩⟩⟩)) ?_
  have key4 : ∀ (m6 : Nat) (be at1 : Nat) (w7 : List (List xE)), 10 - at1 < m6 → be ≤ 4294967295 → at1 ≤ 10 → xInv w7 → xFr [] w w7 → 1 ≤ at1 → xTo (d + 1) mX7_worthCut (16, [], [(0, (2, 72)), (1, (0, xx)), (2, (0, yy)), (3, (0, wi)), (4, (0, hi)), (5, (0, be)), (6, (0, (shr hi) + yy)), (7, (0, at1))], [], (w7, bd, fc, 0, 0, rr)) (fun φ => ∃ n w', xEnd 1 [(0, n)] (w', bd, fc, 0, 0, rr) φ ∧ (n ≤ 4294967295) ∧ xInv w' ∧ xFr [] w w') := by
    intro m6
    induction m6 with
    | zero => intro be at1 w7 hz; exact absurd hz (Nat.not_lt_zero _)
    | succ m6 ih5 =>
      intro be at1 w7 hm13 hn10 hn11 hI8 hF9 he12
      refine xg_t (xg_blq rfl) ?_
      refine xg_t (xg_iload (va := (0, at1)) rfl rfl) ?_
      refine xg_t (xg_iload (va := (0, wi)) rfl rfl) ?_
      by_cases hc14 : at1 < wi
      · refine xg_t (xg_icF (u := at1) (v := wi) rfl xnm0 xnm0 (xj_geF hc14 (by omega))) ?_
        have hs15 := sh_le (a := at1) (x := xx) (by omega) (by omega)
        have hs16 := sh_le (a := (wi - at1)) (x := (xx + at1)) (by omega) (by omega)
        refine xg_t (xg_gets) ?_
        refine xg_t (xg_iload (va := (0, at1)) rfl rfl) ?_
        refine xg_t (xg_ald8 (n := at1) xnm0 (by omega)) ?_
        have hs17 := shr_le (a := at1) (by omega)
        refine xg_t (xg_iload (va := (0, xx)) rfl rfl) ?_
        refine xg_t (xg_iadd (u := shr at1) (v := xx) (z := (shr at1) + xx) xnm0 xnm0 (by omega)) ?_
        refine xg_t (xg_bip) ?_
        refine xg_t (xg_imul (u := (shr at1) + xx) (v := 55) (z := ((shr at1) + xx) * 55) xnm0 xnm0 (by omega)) ?_
        refine xg_t (xg_iload (va := (0, (shr hi) + yy)) rfl rfl) ?_
        refine xg_t (xg_iadd (u := ((shr at1) + xx) * 55) (v := (shr hi) + yy) (z := (((shr at1) + xx) * 55) + ((shr hi) + yy)) xnm0 xnm0 (by omega)) ?_
        refine xg_t (xg_istore (l1 := [(0, (2, 72)), (1, (0, xx)), (2, (0, yy)), (3, (0, wi)), (4, (0, hi)), (5, (0, be)), (6, (0, (shr hi) + yy)), (7, (0, at1))]) rfl rfl rfl) ?_
        refine xg_t (xg_gets) ?_
        refine xg_t (xg_iload (va := (0, wi)) rfl rfl) ?_
        refine xg_t (xg_iload (va := (0, at1)) rfl rfl) ?_
        refine xg_t (xg_isub (u := wi) (v := at1) (z := wi - at1) xnm0 xnm0 (by omega)) ?_
        refine xg_t (xg_ald8 (n := wi - at1) xnm0 (by omega)) ?_
        have hs18 := shr_le (a := wi - at1) (by omega)
        refine xg_t (xg_iload (va := (0, xx)) rfl rfl) ?_
        refine xg_t (xg_iadd (u := shr (wi - at1)) (v := xx) (z := (shr (wi - at1)) + xx) xnm0 xnm0 (by omega)) ?_
        refine xg_t (xg_iload (va := (0, at1)) rfl rfl) ?_
        refine xg_t (xg_iadd (u := (shr (wi - at1)) + xx) (v := at1) (z := ((shr (wi - at1)) + xx) + at1) xnm0 xnm0 (by omega)) ?_
        refine xg_t (xg_bip) ?_
        refine xg_t (xg_imul (u := ((shr (wi - at1)) + xx) + at1) (v := 55) (z := (((shr (wi - at1)) + xx) + at1) * 55) xnm0 xnm0 (by omega)) ?_
        refine xg_t (xg_iload (va := (0, (shr hi) + yy)) rfl rfl) ?_
        refine xg_t (xg_iadd (u := (((shr (wi - at1)) + xx) + at1) * 55) (v := (shr hi) + yy) (z := ((((shr (wi - at1)) + xx) + at1) * 55) + ((shr hi) + yy)) xnm0 xnm0 (by omega)) ?_
        refine xg_t (xg_istore (l1 := [(8, (0, (((shr at1) + xx) * 55) + ((shr hi) + yy))), (0, (2, 72)), (1, (0, xx)), (2, (0, yy)), (3, (0, wi)), (4, (0, hi)), (5, (0, be)), (6, (0, (shr hi) + yy)), (7, (0, at1))]) rfl rfl rfl) ?_
        refine xg_t (xg_iload (va := (0, be)) rfl rfl) ?_
        refine xg_t (xg_aload (va := (2, 72)) rfl rfl) ?_
        refine xoC72 (xqc72 hI8 : cp72 (wget w7 72)) (fun f72_19 f72_21 h72_23 hb20 hb22 => ?_)
        refine xg_t (xg_getf (va := (2, 73)) h72_23 rfl) ?_
        refine xg_t (xg_iload (va := (0, (((shr at1) + xx) * 55) + ((shr hi) + yy))) rfl rfl) ?_
        refine xoI (xqc73 hI8 : cpI 3025 43 4294967295 (wget w7 73)) (fun g73_24 h73_25 hb26 => ?_)
        refine xg_ialdB (n := (((shr at1) + xx) * 55) + ((shr hi) + yy)) (B := 4294967295) h73_25 (hb26) xnm0 (by omega) (fun u27 hu28 he29 => ?_)
        refine xg_t (xg_aload (va := (2, 72)) rfl rfl) ?_
        refine xg_t (xg_getf (va := (2, 73)) h72_23 rfl) ?_
        refine xg_t (xg_iload (va := (0, ((((shr (wi - at1)) + xx) + at1) * 55) + ((shr hi) + yy))) rfl rfl) ?_
        refine xg_ialdB (n := ((((shr (wi - at1)) + xx) + at1) * 55) + ((shr hi) + yy)) (B := 4294967295) h73_25 (hb26) xnm0 (by omega) (fun u30 hu31 he32 => ?_)
        refine xg_k (xg_iadd (u := u27) (v := u30) (z := (u27 + u30) % 4294967296) xnm0 xnm0 rfl) (Nat.mod_lt _ (by decide)) (fun z33 hz34 => ?_)
        refine xg_maxK (u := be) (v := z33) xnm0 xnm0 xmx_ok (by omega) (by omega) (fun z35 hz36 hz37 hz38 hz39 => ?_)
        unfold xbs at hz37 hz38
        refine xg_t (xg_istore (l1 := [(9, (0, ((((shr (wi - at1)) + xx) + at1) * 55) + ((shr hi) + yy))), (8, (0, (((shr at1) + xx) * 55) + ((shr hi) + yy))), (0, (2, 72)), (1, (0, xx)), (2, (0, yy)), (3, (0, wi)), (4, (0, hi)), (6, (0, (shr hi) + yy)), (7, (0, at1))]) rfl rfl rfl) ?_
        refine xg_t (xg_iinc (u := at1) (z := at1 + 1) (l1 := [(5, (0, z35)), (9, (0, ((((shr (wi - at1)) + xx) + at1) * 55) + ((shr hi) + yy))), (8, (0, (((shr at1) + xx) * 55) + ((shr hi) + yy))), (0, (2, 72)), (1, (0, xx)), (2, (0, yy)), (3, (0, wi)), (4, (0, hi)), (6, (0, (shr hi) + yy))]) rfl rfl (by omega) rfl) ?_
        refine xg_t (xg_goto) ?_
        refine xg_t (xg_drop (l1 := [(0, (2, 72)), (1, (0, xx)), (2, (0, yy)), (3, (0, wi)), (4, (0, hi)), (5, (0, z35)), (6, (0, (shr hi) + yy)), (7, (0, at1 + 1))]) (List.forall_mem_cons.mpr ⟨List.mem_cons_of_mem _ (List.mem_cons_of_mem _ (List.mem_cons_of_mem _ (List.mem_cons_of_mem _ (List.mem_cons_self)))), List.forall_mem_cons.mpr ⟨List.mem_cons_of_mem _ (List.mem_cons_of_mem _ (List.mem_cons_of_mem _ (List.mem_cons_of_mem _ (List.mem_cons_of_mem _ (List.mem_cons_self))))), List.forall_mem_cons.mpr ⟨List.mem_cons_of_mem _ (List.mem_cons_of_mem _ (List.mem_cons_of_mem _ (List.mem_cons_of_mem _ (List.mem_cons_of_mem _ (List.mem_cons_of_mem _ (List.mem_cons_self)))))), List.forall_mem_cons.mpr ⟨List.mem_cons_of_mem _ (List.mem_cons_of_mem _ (List.mem_cons_of_mem _ (List.mem_cons_of_mem _ (List.mem_cons_of_mem _ (List.mem_cons_of_mem _ (List.mem_cons_of_mem _ (List.mem_cons_self))))))), List.forall_mem_cons.mpr ⟨List.mem_cons_of_mem _ (List.mem_cons_of_mem _ (List.mem_cons_of_mem _ (List.mem_cons_of_mem _ (List.mem_cons_of_mem _ (List.mem_cons_of_mem _ (List.mem_cons_of_mem _ (List.mem_cons_of_mem _ (List.mem_cons_self)))))))), List.forall_mem_cons.mpr ⟨List.mem_cons_of_mem _ (List.mem_cons_self), List.forall_mem_cons.mpr ⟨List.mem_cons_of_mem _ (List.mem_cons_of_mem _ (List.mem_cons_of_mem _ (List.mem_cons_of_mem _ (List.mem_cons_of_mem _ (List.mem_cons_of_mem _ (List.mem_cons_of_mem _ (List.mem_cons_of_mem _ (List.mem_cons_of_mem _ (List.mem_cons_self))))))))), List.forall_mem_cons.mpr ⟨List.mem_cons_self, fun _ h => absurd h List.not_mem_nil⟩⟩⟩⟩⟩⟩⟩⟩)) ?_
        exact ih5 z35 (at1 + 1) w7 (by omega) (by omega) (by omega) (hI8) (hF9) (by omega)
      · refine xg_t (xg_icT (u := at1) (v := wi) rfl xnm0 xnm0 (xj_geT (by omega) (by omega))) ?_
        refine xg_t (xg_blq rfl) ?_
        refine xg_t (xg_gets) ?_
        refine xg_t (xg_iload (va := (0, wi)) rfl rfl) ?_
        refine xg_t (xg_ald8 (n := wi) xnm0 (by omega)) ?_
        have hs40 := shr_le (a := wi) (by omega)
        refine xg_t (xg_iload (va := (0, xx)) rfl rfl) ?_
        refine xg_t (xg_iadd (u := shr wi) (v := xx) (z := (shr wi) + xx) xnm0 xnm0 (by omega)) ?_
        refine xg_t (xg_bip) ?_
        refine xg_t (xg_imul (u := (shr wi) + xx) (v := 55) (z := ((shr wi) + xx) * 55) xnm0 xnm0 (by omega)) ?_
        refine xg_t (xg_istore (l1 := [(0, (2, 72)), (1, (0, xx)), (2, (0, yy)), (3, (0, wi)), (4, (0, hi)), (5, (0, be)), (6, (0, (shr hi) + yy))]) rfl rfl rfl) ?_
        refine xg_t (xg_const) ?_
        refine xg_t (xg_istore (l1 := [(7, (0, ((shr wi) + xx) * 55)), (0, (2, 72)), (1, (0, xx)), (2, (0, yy)), (3, (0, wi)), (4, (0, hi)), (5, (0, be)), (6, (0, (shr hi) + yy))]) rfl rfl rfl) ?_
        refine xg_t (xg_drop (l1 := [(0, (2, 72)), (1, (0, xx)), (2, (0, yy)), (3, (0, wi)), (4, (0, hi)), (5, (0, be)), (6, (0, (shr hi) + yy)), (7, (0, ((shr wi) + xx) * 55)), (8, (0, 1))]) (List.forall_mem_cons.mpr ⟨List.mem_cons_of_mem _ (List.mem_cons_of_mem _ (List.mem_cons_self)), List.forall_mem_cons.mpr ⟨List.mem_cons_of_mem _ (List.mem_cons_of_mem _ (List.mem_cons_of_mem _ (List.mem_cons_self))), List.forall_mem_cons.mpr ⟨List.mem_cons_of_mem _ (List.mem_cons_of_mem _ (List.mem_cons_of_mem _ (List.mem_cons_of_mem _ (List.mem_cons_self)))), List.forall_mem_cons.mpr ⟨List.mem_cons_of_mem _ (List.mem_cons_of_mem _ (List.mem_cons_of_mem _ (List.mem_cons_of_mem _ (List.mem_cons_of_mem _ (List.mem_cons_self))))), List.forall_mem_cons.mpr ⟨List.mem_cons_of_mem _ (List.mem_cons_of_mem _ (List.mem_cons_of_mem _ (List.mem_cons_of_mem _ (List.mem_cons_of_mem _ (List.mem_cons_of_mem _ (List.mem_cons_self)))))), List.forall_mem_cons.mpr ⟨List.mem_cons_of_mem _ (List.mem_cons_of_mem _ (List.mem_cons_of_mem _ (List.mem_cons_of_mem _ (List.mem_cons_of_mem _ (List.mem_cons_of_mem _ (List.mem_cons_of_mem _ (List.mem_cons_self))))))), List.forall_mem_cons.mpr ⟨List.mem_cons_of_mem _ (List.mem_cons_of_mem _ (List.mem_cons_of_mem _ (List.mem_cons_of_mem _ (List.mem_cons_of_mem _ (List.mem_cons_of_mem _ (List.mem_cons_of_mem _ (List.mem_cons_of_mem _ (List.mem_cons_self)))))))), List.forall_mem_cons.mpr ⟨List.mem_cons_of_mem _ (List.mem_cons_self), List.forall_mem_cons.mpr ⟨List.mem_cons_self, fun _ h => absurd h List.not_mem_nil⟩⟩⟩⟩⟩⟩⟩⟩⟩)) ?_
        have key41 : ∀ (m43 : Nat) (bf at2 : Nat) (w44 : List (List xE)), 10 - at2 < m43 → bf ≤ 4294967295 → at2 ≤ 10 → xInv w44 → xFr [] w w44 → 1 ≤ at2 → xTo (d + 1) mX7_worthCut (102, [], [(0, (2, 72)), (1, (0, xx)), (2, (0, yy)), (3, (0, wi)), (4, (0, hi)), (5, (0, bf)), (6, (0, (shr hi) + yy)), (7, (0, ((shr wi) + xx) * 55)), (8, (0, at2))], [], (w44, bd, fc, 0, 0, rr)) (fun φ => ∃ n w', xEnd 1 [(0, n)] (w', bd, fc, 0, 0, rr) φ ∧ (n ≤ 4294967295) ∧ xInv w' ∧ xFr [] w w') := by
          intro m43
          induction m43 with
          | zero => intro bf at2 w44 hz; exact absurd hz (Nat.not_lt_zero _)
          | succ m43 ih42 =>
            intro bf at2 w44 hm50 hn47 hn48 hI45 hF46 he49
            refine xg_t (xg_blq rfl) ?_
            refine xg_t (xg_iload (va := (0, at2)) rfl rfl) ?_
            refine xg_t (xg_iload (va := (0, hi)) rfl rfl) ?_
            by_cases hc51 : at2 < hi
            · refine xg_t (xg_icF (u := at2) (v := hi) rfl xnm0 xnm0 (xj_geF hc51 (by omega))) ?_
              refine xg_t (xg_iload (va := (0, ((shr wi) + xx) * 55)) rfl rfl) ?_
              have hs52 := sh_le (a := at2) (x := yy) (by omega) (by omega)
              have hs53 := sh_le (a := (hi - at2)) (x := (yy + at2)) (by omega) (by omega)
              refine xg_t (xg_gets) ?_
              refine xg_t (xg_iload (va := (0, at2)) rfl rfl) ?_
              refine xg_t (xg_ald8 (n := at2) xnm0 (by omega)) ?_
              have hs54 := shr_le (a := at2) (by omega)
              refine xg_t (xg_iadd (u := ((shr wi) + xx) * 55) (v := shr at2) (z := (((shr wi) + xx) * 55) + (shr at2)) xnm0 xnm0 (by omega)) ?_
              refine xg_t (xg_iload (va := (0, yy)) rfl rfl) ?_
              refine xg_t (xg_iadd (u := (((shr wi) + xx) * 55) + (shr at2)) (v := yy) (z := ((((shr wi) + xx) * 55) + (shr at2)) + yy) xnm0 xnm0 (by omega)) ?_
              refine xg_t (xg_istore (l1 := [(0, (2, 72)), (1, (0, xx)), (2, (0, yy)), (3, (0, wi)), (4, (0, hi)), (5, (0, bf)), (6, (0, (shr hi) + yy)), (7, (0, ((shr wi) + xx) * 55)), (8, (0, at2))]) rfl rfl rfl) ?_
              refine xg_t (xg_iload (va := (0, ((shr wi) + xx) * 55)) rfl rfl) ?_
              refine xg_t (xg_gets) ?_
              refine xg_t (xg_iload (va := (0, hi)) rfl rfl) ?_
              refine xg_t (xg_iload (va := (0, at2)) rfl rfl) ?_
              refine xg_t (xg_isub (u := hi) (v := at2) (z := hi - at2) xnm0 xnm0 (by omega)) ?_
              refine xg_t (xg_ald8 (n := hi - at2) xnm0 (by omega)) ?_
              have hs55 := shr_le (a := hi - at2) (by omega)
              refine xg_t (xg_iadd (u := ((shr wi) + xx) * 55) (v := shr (hi - at2)) (z := (((shr wi) + xx) * 55) + (shr (hi - at2))) xnm0 xnm0 (by omega)) ?_
              refine xg_t (xg_iload (va := (0, yy)) rfl rfl) ?_
              refine xg_t (xg_iadd (u := (((shr wi) + xx) * 55) + (shr (hi - at2))) (v := yy) (z := ((((shr wi) + xx) * 55) + (shr (hi - at2))) + yy) xnm0 xnm0 (by omega)) ?_
              refine xg_t (xg_iload (va := (0, at2)) rfl rfl) ?_
              refine xg_t (xg_iadd (u := ((((shr wi) + xx) * 55) + (shr (hi - at2))) + yy) (v := at2) (z := (((((shr wi) + xx) * 55) + (shr (hi - at2))) + yy) + at2) xnm0 xnm0 (by omega)) ?_
              refine xg_t (xg_istore (l1 := [(9, (0, ((((shr wi) + xx) * 55) + (shr at2)) + yy)), (0, (2, 72)), (1, (0, xx)), (2, (0, yy)), (3, (0, wi)), (4, (0, hi)), (5, (0, bf)), (6, (0, (shr hi) + yy)), (7, (0, ((shr wi) + xx) * 55)), (8, (0, at2))]) rfl rfl rfl) ?_
              refine xg_t (xg_iload (va := (0, bf)) rfl rfl) ?_
              refine xg_t (xg_aload (va := (2, 72)) rfl rfl) ?_
              refine xoC72 (xqc72 hI45 : cp72 (wget w44 72)) (fun f72_56 f72_58 h72_60 hb57 hb59 => ?_)
              refine xg_t (xg_getf (va := (2, 73)) h72_60 rfl) ?_
              refine xg_t (xg_iload (va := (0, ((((shr wi) + xx) * 55) + (shr at2)) + yy)) rfl rfl) ?_
              refine xoI (xqc73 hI45 : cpI 3025 43 4294967295 (wget w44 73)) (fun g73_61 h73_62 hb63 => ?_)
              refine xg_ialdB (n := ((((shr wi) + xx) * 55) + (shr at2)) + yy) (B := 4294967295) h73_62 (hb63) xnm0 (by omega) (fun u64 hu65 he66 => ?_)
              refine xg_t (xg_aload (va := (2, 72)) rfl rfl) ?_
              refine xg_t (xg_getf (va := (2, 73)) h72_60 rfl) ?_
              refine xg_t (xg_iload (va := (0, (((((shr wi) + xx) * 55) + (shr (hi - at2))) + yy) + at2)) rfl rfl) ?_
              refine xg_ialdB (n := (((((shr wi) + xx) * 55) + (shr (hi - at2))) + yy) + at2) (B := 4294967295) h73_62 (hb63) xnm0 (by omega) (fun u67 hu68 he69 => ?_)
              refine xg_k (xg_iadd (u := u64) (v := u67) (z := (u64 + u67) % 4294967296) xnm0 xnm0 rfl) (Nat.mod_lt _ (by decide)) (fun z70 hz71 => ?_)
              refine xg_maxK (u := bf) (v := z70) xnm0 xnm0 xmx_ok (by omega) (by omega) (fun z72 hz73 hz74 hz75 hz76 => ?_)
              unfold xbs at hz74 hz75
              refine xg_t (xg_istore (l1 := [(10, (0, (((((shr wi) + xx) * 55) + (shr (hi - at2))) + yy) + at2)), (9, (0, ((((shr wi) + xx) * 55) + (shr at2)) + yy)), (0, (2, 72)), (1, (0, xx)), (2, (0, yy)), (3, (0, wi)), (4, (0, hi)), (6, (0, (shr hi) + yy)), (7, (0, ((shr wi) + xx) * 55)), (8, (0, at2))]) rfl rfl rfl) ?_
              refine xg_t (xg_iinc (u := at2) (z := at2 + 1) (l1 := [(5, (0, z72)), (10, (0, (((((shr wi) + xx) * 55) + (shr (hi - at2))) + yy) + at2)), (9, (0, ((((shr wi) + xx) * 55) + (shr at2)) + yy)), (0, (2, 72)), (1, (0, xx)), (2, (0, yy)), (3, (0, wi)), (4, (0, hi)), (6, (0, (shr hi) + yy)), (7, (0, ((shr wi) + xx) * 55))]) rfl rfl (by omega) rfl) ?_
              refine xg_t (xg_goto) ?_
              refine xg_t (xg_drop (l1 := [(0, (2, 72)), (1, (0, xx)), (2, (0, yy)), (3, (0, wi)), (4, (0, hi)), (5, (0, z72)), (6, (0, (shr hi) + yy)), (7, (0, ((shr wi) + xx) * 55)), (8, (0, at2 + 1))]) (List.forall_mem_cons.mpr ⟨List.mem_cons_of_mem _ (List.mem_cons_of_mem _ (List.mem_cons_of_mem _ (List.mem_cons_of_mem _ (List.mem_cons_self)))), List.forall_mem_cons.mpr ⟨List.mem_cons_of_mem _ (List.mem_cons_of_mem _ (List.mem_cons_of_mem _ (List.mem_cons_of_mem _ (List.mem_cons_of_mem _ (List.mem_cons_self))))), List.forall_mem_cons.mpr ⟨List.mem_cons_of_mem _ (List.mem_cons_of_mem _ (List.mem_cons_of_mem _ (List.mem_cons_of_mem _ (List.mem_cons_of_mem _ (List.mem_cons_of_mem _ (List.mem_cons_self)))))), List.forall_mem_cons.mpr ⟨List.mem_cons_of_mem _ (List.mem_cons_of_mem _ (List.mem_cons_of_mem _ (List.mem_cons_of_mem _ (List.mem_cons_of_mem _ (List.mem_cons_of_mem _ (List.mem_cons_of_mem _ (List.mem_cons_self))))))), List.forall_mem_cons.mpr ⟨List.mem_cons_of_mem _ (List.mem_cons_of_mem _ (List.mem_cons_of_mem _ (List.mem_cons_of_mem _ (List.mem_cons_of_mem _ (List.mem_cons_of_mem _ (List.mem_cons_of_mem _ (List.mem_cons_of_mem _ (List.mem_cons_self)))))))), List.forall_mem_cons.mpr ⟨List.mem_cons_of_mem _ (List.mem_cons_self), List.forall_mem_cons.mpr ⟨List.mem_cons_of_mem _ (List.mem_cons_of_mem _ (List.mem_cons_of_mem _ (List.mem_cons_of_mem _ (List.mem_cons_of_mem _ (List.mem_cons_of_mem _ (List.mem_cons_of_mem _ (List.mem_cons_of_mem _ (List.mem_cons_of_mem _ (List.mem_cons_self))))))))), List.forall_mem_cons.mpr ⟨List.mem_cons_of_mem _ (List.mem_cons_of_mem _ (List.mem_cons_of_mem _ (List.mem_cons_of_mem _ (List.mem_cons_of_mem _ (List.mem_cons_of_mem _ (List.mem_cons_of_mem _ (List.mem_cons_of_mem _ (List.mem_cons_of_mem _ (List.mem_cons_of_mem _ (List.mem_cons_self)))))))))), List.forall_mem_cons.mpr ⟨List.mem_cons_self, fun _ h => absurd h List.not_mem_nil⟩⟩⟩⟩⟩⟩⟩⟩⟩)) ?_
              exact ih42 z72 (at2 + 1) w44 (by omega) (by omega) (by omega) (hI45) (hF46) (by omega)
            · refine xg_t (xg_icT (u := at2) (v := hi) rfl xnm0 xnm0 (xj_geT (by omega) (by omega))) ?_
              refine xg_t (xg_blq rfl) ?_
              refine xg_t (xg_iload (va := (0, bf)) rfl rfl) ?_
              exact xg_e ⟨bf, w44, ⟨rfl, rfl⟩, by omega, hI45, hF46⟩
        exact key41 _ be 1 w7 (Nat.lt_succ_self _) (by omega) (by omega) (hI8) (hF9) (by omega)
  exact key4 _ 0 1 w (Nat.lt_succ_self _) (by omega) (by omega) (hI) (xFr.rf) (by omega)
theorem shFillWorths {wi hi pa : Nat} (hI : xInv w) (h1 : 1 ≤ wi) (h2 : wi ≤ 10) (h3 : 1 ≤ hi) (h4 : hi ≤ 10) (h5 : pa ≤ 4294967295) : xPq (d + 2) mX7_fillWorths [(2, 72), (0, wi), (0, hi), (0, pa)] w bd fc rr [] (fun w' => xInv w' ∧ xFr [73] w w') := by
  refine xPq.of ?_
  show xTo (d + 2) mX7_fillWorths (0, [], [(0, (2, 72)), (1, (0, wi)), (2, (0, hi)), (3, (0, pa))], [], (w, bd, fc, 0, 0, rr)) (fun φ => ∃ w', xEnd 0 [] (w', bd, fc, 0, 0, rr) φ ∧ xInv w' ∧ xFr [73] w w')
  refine xoC72 (xqc72 hI : cp72 (wget w 72)) (fun f72_1 f72_3 h72_5 hb2 hb4 => ?_)
  refine xoC3 (xqc3 hI : cp3 (wget w 3)) (fun f3_6 f3_8 f3_10 f3_12 f3_14 h3_16 hb7 hb9 hb11 hb13 hb15 => ?_)
  refine xg_t (xg_blq rfl) ?_
  refine xg_t (xg_const) ?_
  refine xg_t (xg_istore (l1 := [(0, (2, 72)), (1, (0, wi)), (2, (0, hi)), (3, (0, pa))]) rfl rfl rfl) ?_
  refine xg_t (xg_drop (l1 := [(0, (2, 72)), (1, (0, wi)), (2, (0, hi)), (3, (0, pa)), (4, (0, 0))]) (List.forall_mem_cons.mpr ⟨List.mem_cons_of_mem _ (List.mem_cons_self), List.forall_mem_cons.mpr ⟨List.mem_cons_of_mem _ (List.mem_cons_of_mem _ (List.mem_cons_self)), List.forall_mem_cons.mpr ⟨List.mem_cons_of_mem _ (List.mem_cons_of_mem _ (List.mem_cons_of_mem _ (List.mem_cons_self))), List.forall_mem_cons.mpr ⟨List.mem_cons_of_mem _ (List.mem_cons_of_mem _ (List.mem_cons_of_mem _ (List.mem_cons_of_mem _ (List.mem_cons_self)))), List.forall_mem_cons.mpr ⟨List.mem_cons_self, fun _ h => absurd h List.not_mem_nil⟩⟩⟩⟩⟩)) ?_
  have key17 : ∀ (m19 : Nat) (xx : Nat) (w20 : List (List xE)), 10 - xx < m19 → xx ≤ 10 → xInv w20 → xFr [73] w w20 → xTo (d + 2) mX7_fillWorths (3, [], [(0, (2, 72)), (1, (0, wi)), (2, (0, hi)), (3, (0, pa)), (4, (0, xx))], [], (w20, bd, fc, 0, 0, rr)) (fun φ => ∃ w', xEnd 0 [] (w', bd, fc, 0, 0, rr) φ ∧ xInv w' ∧ xFr [73] w w') := by
    intro m19
    induction m19 with
    | zero => intro xx w20 hz; exact absurd hz (Nat.not_lt_zero _)
    | succ m19 ih18 =>
      intro xx w20 hm24 hn23 hI21 hF22
      refine xg_t (xg_blq rfl) ?_
      refine xg_t (xg_iload (va := (0, xx)) rfl rfl) ?_
      refine xg_t (xg_aload (va := (2, 72)) rfl rfl) ?_
      refine xg_t (xg_getf (va := (2, 3)) (hF22.get (by decide) h72_5) rfl) ?_
      refine xg_t (xg_getf (va := (0, f3_6)) (hF22.get (by decide) h3_16) rfl) ?_
      refine xg_t (xg_iload (va := (0, wi)) rfl rfl) ?_
      by_cases hc25 : wi ≤ f3_6
      · refine xg_t (xg_isub (u := f3_6) (v := wi) (z := f3_6 - wi) xnm0 xnm0 (by omega)) ?_
        by_cases hc26 : (f3_6 - wi) < xx
        · refine xg_t (xg_icT (u := xx) (v := f3_6 - wi) rfl xnm0 xnm0 (xj_gtT hc26 (by omega))) ?_
          refine xg_t (xg_blq rfl) ?_
          exact xg_e ⟨w20, ⟨rfl, rfl⟩, hI21, hF22⟩
        · refine xg_t (xg_icF (u := xx) (v := f3_6 - wi) rfl xnm0 xnm0 (xj_gtF (by omega) (by omega))) ?_
          refine xg_t (xg_const) ?_
          refine xg_t (xg_istore (l1 := [(0, (2, 72)), (1, (0, wi)), (2, (0, hi)), (3, (0, pa)), (4, (0, xx))]) rfl rfl rfl) ?_
          refine xg_t (xg_drop (l1 := [(0, (2, 72)), (1, (0, wi)), (2, (0, hi)), (3, (0, pa)), (4, (0, xx)), (5, (0, 0))]) (List.forall_mem_cons.mpr ⟨List.mem_cons_of_mem _ (List.mem_cons_self), List.forall_mem_cons.mpr ⟨List.mem_cons_of_mem _ (List.mem_cons_of_mem _ (List.mem_cons_self)), List.forall_mem_cons.mpr ⟨List.mem_cons_of_mem _ (List.mem_cons_of_mem _ (List.mem_cons_of_mem _ (List.mem_cons_self))), List.forall_mem_cons.mpr ⟨List.mem_cons_of_mem _ (List.mem_cons_of_mem _ (List.mem_cons_of_mem _ (List.mem_cons_of_mem _ (List.mem_cons_self)))), List.forall_mem_cons.mpr ⟨List.mem_cons_of_mem _ (List.mem_cons_of_mem _ (List.mem_cons_of_mem _ (List.mem_cons_of_mem _ (List.mem_cons_of_mem _ (List.mem_cons_self))))), List.forall_mem_cons.mpr ⟨List.mem_cons_self, fun _ h => absurd h List.not_mem_nil⟩⟩⟩⟩⟩⟩)) ?_
          have key27 : ∀ (m29 : Nat) (yy : Nat) (w30 : List (List xE)), 10 - yy < m29 → yy ≤ 10 → xInv w30 → xFr [73] w w30 → xTo (d + 2) mX7_fillWorths (20, [], [(0, (2, 72)), (1, (0, wi)), (2, (0, hi)), (3, (0, pa)), (4, (0, xx)), (5, (0, yy))], [], (w30, bd, fc, 0, 0, rr)) (fun φ => ∃ w', xEnd 0 [] (w', bd, fc, 0, 0, rr) φ ∧ xInv w' ∧ xFr [73] w w') := by
            intro m29
            induction m29 with
            | zero => intro yy w30 hz; exact absurd hz (Nat.not_lt_zero _)
            | succ m29 ih28 =>
              intro yy w30 hm34 hn33 hI31 hF32
              refine xg_t (xg_blq rfl) ?_
              refine xg_t (xg_iload (va := (0, yy)) rfl rfl) ?_
              refine xg_t (xg_aload (va := (2, 72)) rfl rfl) ?_
              refine xg_t (xg_getf (va := (2, 3)) (hF32.get (by decide) h72_5) rfl) ?_
              refine xg_t (xg_getf (va := (0, f3_8)) (hF32.get (by decide) h3_16) rfl) ?_
              refine xg_t (xg_iload (va := (0, hi)) rfl rfl) ?_
              by_cases hc35 : hi ≤ f3_8
              · refine xg_t (xg_isub (u := f3_8) (v := hi) (z := f3_8 - hi) xnm0 xnm0 (by omega)) ?_
                by_cases hc36 : (f3_8 - hi) < yy
                · refine xg_t (xg_icT (u := yy) (v := f3_8 - hi) rfl xnm0 xnm0 (xj_gtT hc36 (by omega))) ?_
                  refine xg_t (xg_blq rfl) ?_
                  refine xg_t (xg_iinc (u := xx) (z := xx + 1) (l1 := [(0, (2, 72)), (1, (0, wi)), (2, (0, hi)), (3, (0, pa)), (5, (0, yy))]) rfl rfl (by omega) rfl) ?_
                  refine xg_t (xg_goto) ?_
                  refine xg_t (xg_drop (l1 := [(0, (2, 72)), (1, (0, wi)), (2, (0, hi)), (3, (0, pa)), (4, (0, xx + 1))]) (List.forall_mem_cons.mpr ⟨List.mem_cons_of_mem _ (List.mem_cons_self), List.forall_mem_cons.mpr ⟨List.mem_cons_of_mem _ (List.mem_cons_of_mem _ (List.mem_cons_self)), List.forall_mem_cons.mpr ⟨List.mem_cons_of_mem _ (List.mem_cons_of_mem _ (List.mem_cons_of_mem _ (List.mem_cons_self))), List.forall_mem_cons.mpr ⟨List.mem_cons_of_mem _ (List.mem_cons_of_mem _ (List.mem_cons_of_mem _ (List.mem_cons_of_mem _ (List.mem_cons_self)))), List.forall_mem_cons.mpr ⟨List.mem_cons_self, fun _ h => absurd h List.not_mem_nil⟩⟩⟩⟩⟩)) ?_
                  exact ih18 (xx + 1) w30 (by omega) (by omega) (hI31) (hF32)
                · refine xg_t (xg_icF (u := yy) (v := f3_8 - hi) rfl xnm0 xnm0 (xj_gtF (by omega) (by omega))) ?_
                  refine xg_t (xg_iload (va := (0, pa)) rfl rfl) ?_
                  by_cases hc37 : xbs 0 < xbs pa
                  · have hc37u := hc37
                    unfold xbs at hc37u
                    have hn38 : pa ≤ 2147483647 := by omega
                    refine xg_t (xg_ifF (u := pa) rfl xnm0 (xjs_leF hc37)) ?_
                    refine xg_t (xg_aload (va := (2, 72)) rfl rfl) ?_
                    refine xg_t (xg_iload (va := (0, xx)) rfl rfl) ?_
                    refine xg_t (xg_iload (va := (0, yy)) rfl rfl) ?_
                    refine xg_t (xg_iload (va := (0, wi)) rfl rfl) ?_
                    refine xg_t (xg_iload (va := (0, hi)) rfl rfl) ?_
                    refine xg_cVi mX7_hasFlaw (vs := [(0, xx), (0, yy), (0, wi), (0, hi)]) (rest := []) (cn1 := 0) (sl1 := 0) rfl (shHasFlaw (hI31) (by omega) (by omega) (by omega) (by omega)) rfl (hF32.get (by decide) h72_5) rfl rfl rfl rfl rfl rfl (fun n43 w39 hq40 => ?_)
                    obtain ⟨hn44, hI41, hF42⟩ := hq40
                    by_cases hc45 : n43 = 0
                    · refine xg_t (xg_ifF (u := n43) rfl xnm0 (xj_neF hc45)) ?_
                      refine xg_t (xg_iload (va := (0, pa)) rfl rfl) ?_
                      refine xg_t (xg_goto) ?_
                      refine xg_t (xg_blq rfl) ?_
                      refine xg_t (xg_istore (l1 := [(0, (2, 72)), (1, (0, wi)), (2, (0, hi)), (3, (0, pa)), (4, (0, xx)), (5, (0, yy))]) rfl rfl rfl) ?_
                      refine xg_t (xg_aload (va := (2, 72)) rfl rfl) ?_
                      refine xg_t (xg_getf (va := (2, 73)) (hF42.get (by decide) (hF32.get (by decide) h72_5)) rfl) ?_
                      refine xg_t (xg_iload (va := (0, xx)) rfl rfl) ?_
                      refine xg_t (xg_iload (va := (0, yy)) rfl rfl) ?_
                      refine xg_t (xg_iload (va := (0, wi)) rfl rfl) ?_
                      refine xg_t (xg_iload (va := (0, hi)) rfl rfl) ?_
                      refine xg_cSi mX7_pieceOf (vs := [(0, xx), (0, yy), (0, wi), (0, hi)]) (rest := [(2, 73)]) (cn1 := 0) (sl1 := 0) rfl (shPieceOf (hI41) (by omega) (by omega) (by omega) (by omega)) rfl rfl rfl rfl rfl rfl rfl (fun n50 w46 hq47 => ?_)
                      obtain ⟨hn51, hI48, hF49⟩ := hq47
                      refine xg_t (xg_iload (va := (0, pa)) rfl rfl) ?_
                      refine xg_t (xg_aload (va := (2, 72)) rfl rfl) ?_
                      refine xg_t (xg_iload (va := (0, xx)) rfl rfl) ?_
                      refine xg_t (xg_iload (va := (0, yy)) rfl rfl) ?_
                      refine xg_t (xg_iload (va := (0, wi)) rfl rfl) ?_
                      refine xg_t (xg_iload (va := (0, hi)) rfl rfl) ?_
                      refine xg_cVi mX7_worthCut (vs := [(0, xx), (0, yy), (0, wi), (0, hi)]) (rest := [(0, pa), (0, n50), (2, 73)]) (cn1 := 0) (sl1 := 0) rfl (shWorthCut (hI48) (by omega) (by omega) (by omega) (by omega)) rfl (hF49.get (by decide) (hF42.get (by decide) (hF32.get (by decide) h72_5))) rfl rfl rfl rfl rfl rfl (fun n56 w52 hq53 => ?_)
                      obtain ⟨hn57, hI54, hF55⟩ := hq53
                      refine xg_maxK (u := pa) (v := n56) xnm0 xnm0 xmx_ok (by omega) (by omega) (fun z58 hz59 hz60 hz61 hz62 => ?_)
                      unfold xbs at hz60 hz61
                      refine xoI (xqc73 hI54 : cpI 3025 43 4294967295 (wget w52 73)) (fun g73_63 h73_64 hb65 => ?_)
                      refine xg_iastK (n := n50) (u := z58) h73_64 xnm0 xnm0 rfl (by omega) (fun w66 hr67 hb68 => ?_)
                      refine xg_t (xg_iinc (u := yy) (z := yy + 1) (l1 := [(6, (0, pa)), (0, (2, 72)), (1, (0, wi)), (2, (0, hi)), (3, (0, pa)), (4, (0, xx))]) rfl rfl (by omega) rfl) ?_
                      refine xg_t (xg_goto) ?_
                      refine xg_t (xg_drop (l1 := [(0, (2, 72)), (1, (0, wi)), (2, (0, hi)), (3, (0, pa)), (4, (0, xx)), (5, (0, yy + 1))]) (List.forall_mem_cons.mpr ⟨List.mem_cons_of_mem _ (List.mem_cons_of_mem _ (List.mem_cons_self)), List.forall_mem_cons.mpr ⟨List.mem_cons_of_mem _ (List.mem_cons_of_mem _ (List.mem_cons_of_mem _ (List.mem_cons_self))), List.forall_mem_cons.mpr ⟨List.mem_cons_of_mem _ (List.mem_cons_of_mem _ (List.mem_cons_of_mem _ (List.mem_cons_of_mem _ (List.mem_cons_self)))), List.forall_mem_cons.mpr ⟨List.mem_cons_of_mem _ (List.mem_cons_of_mem _ (List.mem_cons_of_mem _ (List.mem_cons_of_mem _ (List.mem_cons_of_mem _ (List.mem_cons_self))))), List.forall_mem_cons.mpr ⟨List.mem_cons_of_mem _ (List.mem_cons_of_mem _ (List.mem_cons_of_mem _ (List.mem_cons_of_mem _ (List.mem_cons_of_mem _ (List.mem_cons_of_mem _ (List.mem_cons_self)))))), List.forall_mem_cons.mpr ⟨List.mem_cons_self, fun _ h => absurd h List.not_mem_nil⟩⟩⟩⟩⟩⟩)) ?_
                      exact ih28 (yy + 1) w66 (by omega) (by omega) (xInv.up (S := [73]) hI54 (xFr.of (S := [73]) hb68 (by decide)) (List.forall_mem_cons.mpr ⟨xqu73 (show cpI 3025 43 4294967295 (wget w66 73) from ⟨_, hr67, xrb (by omega) (hb65)⟩), fun _ h => absurd h List.not_mem_nil⟩)) (((((hF32.tr (hF42.up (by decide))).tr (hF49.up (by decide))).tr (hF55.up (by decide))).tr (xFr.of (S := [73]) hb68 (by decide))))
                    · refine xg_t (xg_ifT (u := n43) rfl xnm0 (xj_neT hc45)) ?_
                      refine xg_t (xg_blq rfl) ?_
                      refine xg_t (xg_const) ?_
                      refine xg_t (xg_blq rfl) ?_
                      refine xg_t (xg_istore (l1 := [(0, (2, 72)), (1, (0, wi)), (2, (0, hi)), (3, (0, pa)), (4, (0, xx)), (5, (0, yy))]) rfl rfl rfl) ?_
                      refine xg_t (xg_aload (va := (2, 72)) rfl rfl) ?_
                      refine xg_t (xg_getf (va := (2, 73)) (hF42.get (by decide) (hF32.get (by decide) h72_5)) rfl) ?_
                      refine xg_t (xg_iload (va := (0, xx)) rfl rfl) ?_
                      refine xg_t (xg_iload (va := (0, yy)) rfl rfl) ?_
                      refine xg_t (xg_iload (va := (0, wi)) rfl rfl) ?_
                      refine xg_t (xg_iload (va := (0, hi)) rfl rfl) ?_
                      refine xg_cSi mX7_pieceOf (vs := [(0, xx), (0, yy), (0, wi), (0, hi)]) (rest := [(2, 73)]) (cn1 := 0) (sl1 := 0) rfl (shPieceOf (hI41) (by omega) (by omega) (by omega) (by omega)) rfl rfl rfl rfl rfl rfl rfl (fun n73 w69 hq70 => ?_)
                      obtain ⟨hn74, hI71, hF72⟩ := hq70
                      refine xg_t (xg_iload (va := (0, 0)) rfl rfl) ?_
                      refine xg_t (xg_aload (va := (2, 72)) rfl rfl) ?_
                      refine xg_t (xg_iload (va := (0, xx)) rfl rfl) ?_
                      refine xg_t (xg_iload (va := (0, yy)) rfl rfl) ?_
                      refine xg_t (xg_iload (va := (0, wi)) rfl rfl) ?_
                      refine xg_t (xg_iload (va := (0, hi)) rfl rfl) ?_
                      refine xg_cVi mX7_worthCut (vs := [(0, xx), (0, yy), (0, wi), (0, hi)]) (rest := [(0, 0), (0, n73), (2, 73)]) (cn1 := 0) (sl1 := 0) rfl (shWorthCut (hI71) (by omega) (by omega) (by omega) (by omega)) rfl (hF72.get (by decide) (hF42.get (by decide) (hF32.get (by decide) h72_5))) rfl rfl rfl rfl rfl rfl (fun n79 w75 hq76 => ?_)
                      obtain ⟨hn80, hI77, hF78⟩ := hq76
                      refine xg_maxK (u := 0) (v := n79) xnm0 xnm0 xmx_ok (by omega) (by omega) (fun z81 hz82 hz83 hz84 hz85 => ?_)
                      unfold xbs at hz83 hz84
                      refine xoI (xqc73 hI77 : cpI 3025 43 4294967295 (wget w75 73)) (fun g73_86 h73_87 hb88 => ?_)
                      refine xg_iastK (n := n73) (u := z81) h73_87 xnm0 xnm0 rfl (by omega) (fun w89 hr90 hb91 => ?_)
                      refine xg_t (xg_iinc (u := yy) (z := yy + 1) (l1 := [(6, (0, 0)), (0, (2, 72)), (1, (0, wi)), (2, (0, hi)), (3, (0, pa)), (4, (0, xx))]) rfl rfl (by omega) rfl) ?_
                      refine xg_t (xg_goto) ?_
                      refine xg_t (xg_drop (l1 := [(0, (2, 72)), (1, (0, wi)), (2, (0, hi)), (3, (0, pa)), (4, (0, xx)), (5, (0, yy + 1))]) (List.forall_mem_cons.mpr ⟨List.mem_cons_of_mem _ (List.mem_cons_of_mem _ (List.mem_cons_self)), List.forall_mem_cons.mpr ⟨List.mem_cons_of_mem _ (List.mem_cons_of_mem _ (List.mem_cons_of_mem _ (List.mem_cons_self))), List.forall_mem_cons.mpr ⟨List.mem_cons_of_mem _ (List.mem_cons_of_mem _ (List.mem_cons_of_mem _ (List.mem_cons_of_mem _ (List.mem_cons_self)))), List.forall_mem_cons.mpr ⟨List.mem_cons_of_mem _ (List.mem_cons_of_mem _ (List.mem_cons_of_mem _ (List.mem_cons_of_mem _ (List.mem_cons_of_mem _ (List.mem_cons_self))))), List.forall_mem_cons.mpr ⟨List.mem_cons_of_mem _ (List.mem_cons_of_mem _ (List.mem_cons_of_mem _ (List.mem_cons_of_mem _ (List.mem_cons_of_mem _ (List.mem_cons_of_mem _ (List.mem_cons_self)))))), List.forall_mem_cons.mpr ⟨List.mem_cons_self, fun _ h => absurd h List.not_mem_nil⟩⟩⟩⟩⟩⟩)) ?_
                      exact ih28 (yy + 1) w89 (by omega) (by omega) (xInv.up (S := [73]) hI77 (xFr.of (S := [73]) hb91 (by decide)) (List.forall_mem_cons.mpr ⟨xqu73 (show cpI 3025 43 4294967295 (wget w89 73) from ⟨_, hr90, xrb (by omega) (hb88)⟩), fun _ h => absurd h List.not_mem_nil⟩)) (((((hF32.tr (hF42.up (by decide))).tr (hF72.up (by decide))).tr (hF78.up (by decide))).tr (xFr.of (S := [73]) hb91 (by decide))))
                  · have hc37u := hc37
                    unfold xbs at hc37u
                    refine xg_t (xg_ifT (u := pa) rfl xnm0 (xjs_leT hc37)) ?_
                    refine xg_t (xg_blq rfl) ?_
                    refine xg_t (xg_const) ?_
                    refine xg_t (xg_blq rfl) ?_
                    refine xg_t (xg_istore (l1 := [(0, (2, 72)), (1, (0, wi)), (2, (0, hi)), (3, (0, pa)), (4, (0, xx)), (5, (0, yy))]) rfl rfl rfl) ?_
                    refine xg_t (xg_aload (va := (2, 72)) rfl rfl) ?_
                    refine xg_t (xg_getf (va := (2, 73)) (hF32.get (by decide) h72_5) rfl) ?_
                    refine xg_t (xg_iload (va := (0, xx)) rfl rfl) ?_
                    refine xg_t (xg_iload (va := (0, yy)) rfl rfl) ?_
                    refine xg_t (xg_iload (va := (0, wi)) rfl rfl) ?_
                    refine xg_t (xg_iload (va := (0, hi)) rfl rfl) ?_
                    refine xg_cSi mX7_pieceOf (vs := [(0, xx), (0, yy), (0, wi), (0, hi)]) (rest := [(2, 73)]) (cn1 := 0) (sl1 := 0) rfl (shPieceOf (hI31) (by omega) (by omega) (by omega) (by omega)) rfl rfl rfl rfl rfl rfl rfl (fun n96 w92 hq93 => ?_)
                    obtain ⟨hn97, hI94, hF95⟩ := hq93
                    refine xg_t (xg_iload (va := (0, 0)) rfl rfl) ?_
                    refine xg_t (xg_aload (va := (2, 72)) rfl rfl) ?_
                    refine xg_t (xg_iload (va := (0, xx)) rfl rfl) ?_
                    refine xg_t (xg_iload (va := (0, yy)) rfl rfl) ?_
                    refine xg_t (xg_iload (va := (0, wi)) rfl rfl) ?_
                    refine xg_t (xg_iload (va := (0, hi)) rfl rfl) ?_
                    refine xg_cVi mX7_worthCut (vs := [(0, xx), (0, yy), (0, wi), (0, hi)]) (rest := [(0, 0), (0, n96), (2, 73)]) (cn1 := 0) (sl1 := 0) rfl (shWorthCut (hI94) (by omega) (by omega) (by omega) (by omega)) rfl (hF95.get (by decide) (hF32.get (by decide) h72_5)) rfl rfl rfl rfl rfl rfl (fun n102 w98 hq99 => ?_)
                    obtain ⟨hn103, hI100, hF101⟩ := hq99
                    refine xg_maxK (u := 0) (v := n102) xnm0 xnm0 xmx_ok (by omega) (by omega) (fun z104 hz105 hz106 hz107 hz108 => ?_)
                    unfold xbs at hz106 hz107
                    refine xoI (xqc73 hI100 : cpI 3025 43 4294967295 (wget w98 73)) (fun g73_109 h73_110 hb111 => ?_)
                    refine xg_iastK (n := n96) (u := z104) h73_110 xnm0 xnm0 rfl (by omega) (fun w112 hr113 hb114 => ?_)
                    refine xg_t (xg_iinc (u := yy) (z := yy + 1) (l1 := [(6, (0, 0)), (0, (2, 72)), (1, (0, wi)), (2, (0, hi)), (3, (0, pa)), (4, (0, xx))]) rfl rfl (by omega) rfl) ?_
                    refine xg_t (xg_goto) ?_
                    refine xg_t (xg_drop (l1 := [(0, (2, 72)), (1, (0, wi)), (2, (0, hi)), (3, (0, pa)), (4, (0, xx)), (5, (0, yy + 1))]) (List.forall_mem_cons.mpr ⟨List.mem_cons_of_mem _ (List.mem_cons_of_mem _ (List.mem_cons_self)), List.forall_mem_cons.mpr ⟨List.mem_cons_of_mem _ (List.mem_cons_of_mem _ (List.mem_cons_of_mem _ (List.mem_cons_self))), List.forall_mem_cons.mpr ⟨List.mem_cons_of_mem _ (List.mem_cons_of_mem _ (List.mem_cons_of_mem _ (List.mem_cons_of_mem _ (List.mem_cons_self)))), List.forall_mem_cons.mpr ⟨List.mem_cons_of_mem _ (List.mem_cons_of_mem _ (List.mem_cons_of_mem _ (List.mem_cons_of_mem _ (List.mem_cons_of_mem _ (List.mem_cons_self))))), List.forall_mem_cons.mpr ⟨List.mem_cons_of_mem _ (List.mem_cons_of_mem _ (List.mem_cons_of_mem _ (List.mem_cons_of_mem _ (List.mem_cons_of_mem _ (List.mem_cons_of_mem _ (List.mem_cons_self)))))), List.forall_mem_cons.mpr ⟨List.mem_cons_self, fun _ h => absurd h List.not_mem_nil⟩⟩⟩⟩⟩⟩)) ?_
                    exact ih28 (yy + 1) w112 (by omega) (by omega) (xInv.up (S := [73]) hI100 (xFr.of (S := [73]) hb114 (by decide)) (List.forall_mem_cons.mpr ⟨xqu73 (show cpI 3025 43 4294967295 (wget w112 73) from ⟨_, hr113, xrb (by omega) (hb111)⟩), fun _ h => absurd h List.not_mem_nil⟩)) ((((hF32.tr (hF95.up (by decide))).tr (hF101.up (by decide))).tr (xFr.of (S := [73]) hb114 (by decide))))
              · have hz117 : 4294967286 ≤ (f3_8 + (4294967296 - hi)) % 4294967296 := by omega
                refine xg_t (xg_isub (u := f3_8) (v := hi) (z := (f3_8 + (4294967296 - hi)) % 4294967296) xnm0 xnm0 rfl) ?_
                have hz116 : (f3_8 + (4294967296 - hi)) % 4294967296 < 4294967296 := Nat.mod_lt _ (by decide)
                generalize (f3_8 + (4294967296 - hi)) % 4294967296 = z115 at hz117 hz116 ⊢
                refine xg_t (xg_icT (u := yy) (v := z115) rfl xnm0 xnm0 (xjs_gtT (by unfold xbs; omega))) ?_
                refine xg_t (xg_blq rfl) ?_
                refine xg_t (xg_iinc (u := xx) (z := xx + 1) (l1 := [(0, (2, 72)), (1, (0, wi)), (2, (0, hi)), (3, (0, pa)), (5, (0, yy))]) rfl rfl (by omega) rfl) ?_
                refine xg_t (xg_goto) ?_
                refine xg_t (xg_drop (l1 := [(0, (2, 72)), (1, (0, wi)), (2, (0, hi)), (3, (0, pa)), (4, (0, xx + 1))]) (List.forall_mem_cons.mpr ⟨List.mem_cons_of_mem _ (List.mem_cons_self), List.forall_mem_cons.mpr ⟨List.mem_cons_of_mem _ (List.mem_cons_of_mem _ (List.mem_cons_self)), List.forall_mem_cons.mpr ⟨List.mem_cons_of_mem _ (List.mem_cons_of_mem _ (List.mem_cons_of_mem _ (List.mem_cons_self))), List.forall_mem_cons.mpr ⟨List.mem_cons_of_mem _ (List.mem_cons_of_mem _ (List.mem_cons_of_mem _ (List.mem_cons_of_mem _ (List.mem_cons_self)))), List.forall_mem_cons.mpr ⟨List.mem_cons_self, fun _ h => absurd h List.not_mem_nil⟩⟩⟩⟩⟩)) ?_
                exact ih18 (xx + 1) w30 (by omega) (by omega) (hI31) (hF32)
          exact key27 _ 0 w20 (Nat.lt_succ_self _) (by omega) (hI21) (hF22)
      · have hz120 : 4294967286 ≤ (f3_6 + (4294967296 - wi)) % 4294967296 := by omega
        refine xg_t (xg_isub (u := f3_6) (v := wi) (z := (f3_6 + (4294967296 - wi)) % 4294967296) xnm0 xnm0 rfl) ?_
        have hz119 : (f3_6 + (4294967296 - wi)) % 4294967296 < 4294967296 := Nat.mod_lt _ (by decide)
        generalize (f3_6 + (4294967296 - wi)) % 4294967296 = z118 at hz120 hz119 ⊢
        refine xg_t (xg_icT (u := xx) (v := z118) rfl xnm0 xnm0 (xjs_gtT (by unfold xbs; omega))) ?_
        refine xg_t (xg_blq rfl) ?_
        exact xg_e ⟨w20, ⟨rfl, rfl⟩, hI21, hF22⟩
  exact key17 _ 0 w (Nat.lt_succ_self _) (by omega) (hI) (xFr.rf)
theorem shRefreshWorth (hI : xInv w)  : xPq (d + 3) mX7_refreshWorth [(2, 72)] w bd fc rr [] (fun w' => xInv w' ∧ xFr [72, 73] w w') := by
  refine xPq.of ?_
  show xTo (d + 3) mX7_refreshWorth (0, [], [(0, (2, 72))], [], (w, bd, fc, 0, 0, rr)) (fun φ => ∃ w', xEnd 0 [] (w', bd, fc, 0, 0, rr) φ ∧ xInv w' ∧ xFr [72, 73] w w')
  refine xoC3 (xqc3 hI : cp3 (wget w 3)) (fun f3_1 f3_3 f3_5 f3_7 f3_9 h3_11 hb2 hb4 hb6 hb8 hb10 => ?_)
  refine xg_t (xg_blq rfl) ?_
  refine xg_t (xg_aload (va := (2, 72)) rfl rfl) ?_
  refine xoC72 (xqc72 hI : cp72 (wget w 72)) (fun f72_12 f72_14 h72_16 hb13 hb15 => ?_)
  refine xg_t (xg_getf (va := (0, f72_12)) h72_16 rfl) ?_
  by_cases hc17 : f72_12 = 0
  · refine xg_t (xg_ifT (u := f72_12) rfl xnm0 (xj_eqT hc17)) ?_
    refine xg_t (xg_blq rfl) ?_
    refine xg_t (xg_const) ?_
    refine xg_t (xg_istore (l1 := [(0, (2, 72))]) rfl rfl rfl) ?_
    refine xg_t (xg_drop (l1 := [(0, (2, 72)), (1, (0, 1))]) (List.forall_mem_cons.mpr ⟨List.mem_cons_of_mem _ (List.mem_cons_self), List.forall_mem_cons.mpr ⟨List.mem_cons_self, fun _ h => absurd h List.not_mem_nil⟩⟩)) ?_
    have key18 : ∀ (m20 : Nat) (wi : Nat) (w21 : List (List xE)), 11 - wi < m20 → wi ≤ 11 → xInv w21 → xFr [72, 73] w w21 → 1 ≤ wi → xTo (d + 3) mX7_refreshWorth (10, [], [(0, (2, 72)), (1, (0, wi))], [], (w21, bd, fc, 0, 0, rr)) (fun φ => ∃ w', xEnd 0 [] (w', bd, fc, 0, 0, rr) φ ∧ xInv w' ∧ xFr [72, 73] w w') := by
      intro m20
      induction m20 with
      | zero => intro wi w21 hz; exact absurd hz (Nat.not_lt_zero _)
      | succ m20 ih19 =>
        intro wi w21 hm26 hn24 hI22 hF23 he25
        refine xg_t (xg_blq rfl) ?_
        refine xg_t (xg_iload (va := (0, wi)) rfl rfl) ?_
        refine xg_t (xg_aload (va := (2, 72)) rfl rfl) ?_
        refine xoC72 (xqc72 hI22 : cp72 (wget w21 72)) (fun f72_27 f72_29 h72_31 hb28 hb30 => ?_)
        refine xg_t (xg_getf (va := (2, 3)) h72_31 rfl) ?_
        refine xg_t (xg_getf (va := (0, f3_1)) (hF23.get (by decide) h3_11) rfl) ?_
        by_cases hc32 : f3_1 < wi
        · refine xg_t (xg_icT (u := wi) (v := f3_1) rfl xnm0 xnm0 (xj_gtT hc32 (by omega))) ?_
          refine xg_t (xg_blq rfl) ?_
          refine xg_t (xg_aload (va := (2, 72)) rfl rfl) ?_
          refine xg_t (xg_const) ?_
          refine xg_putZ (fl1 := [(2, 3), (2, 73), (2, 74), (0, 1), (0, f72_29)]) h72_31 rfl rfl rfl (fun w33 hk34 hb35 => ?_)
          exact xg_e ⟨w33, ⟨rfl, rfl⟩, xInv.up (S := [72]) hI22 (xFr.of (S := [72]) hb35 (by decide)) (List.forall_mem_cons.mpr ⟨xqu72 (show cp72 (wget w33 72) from ⟨1, f72_29, hk34, by decide, hb30⟩), fun _ h => absurd h List.not_mem_nil⟩), (hF23.tr (xFr.of (S := [72, 73]) hb35 (by decide)))⟩
        · refine xg_t (xg_icF (u := wi) (v := f3_1) rfl xnm0 xnm0 (xj_gtF (by omega) (by omega))) ?_
          refine xg_t (xg_const) ?_
          refine xg_t (xg_istore (l1 := [(0, (2, 72)), (1, (0, wi))]) rfl rfl rfl) ?_
          refine xg_t (xg_drop (l1 := [(0, (2, 72)), (1, (0, wi)), (2, (0, 1))]) (List.forall_mem_cons.mpr ⟨List.mem_cons_of_mem _ (List.mem_cons_self), List.forall_mem_cons.mpr ⟨List.mem_cons_of_mem _ (List.mem_cons_of_mem _ (List.mem_cons_self)), List.forall_mem_cons.mpr ⟨List.mem_cons_self, fun _ h => absurd h List.not_mem_nil⟩⟩⟩)) ?_
          have key36 : ∀ (m38 : Nat) (hi : Nat) (w39 : List (List xE)), 11 - hi < m38 → hi ≤ 11 → xInv w39 → xFr [72, 73] w w39 → 1 ≤ hi → xTo (d + 3) mX7_refreshWorth (23, [], [(0, (2, 72)), (1, (0, wi)), (2, (0, hi))], [], (w39, bd, fc, 0, 0, rr)) (fun φ => ∃ w', xEnd 0 [] (w', bd, fc, 0, 0, rr) φ ∧ xInv w' ∧ xFr [72, 73] w w') := by
            intro m38
            induction m38 with
            | zero => intro hi w39 hz; exact absurd hz (Nat.not_lt_zero _)
            | succ m38 ih37 =>
              intro hi w39 hm44 hn42 hI40 hF41 he43
              refine xg_t (xg_blq rfl) ?_
              refine xg_t (xg_iload (va := (0, hi)) rfl rfl) ?_
              refine xg_t (xg_aload (va := (2, 72)) rfl rfl) ?_
              refine xoC72 (xqc72 hI40 : cp72 (wget w39 72)) (fun f72_45 f72_47 h72_49 hb46 hb48 => ?_)
              refine xg_t (xg_getf (va := (2, 3)) h72_49 rfl) ?_
              refine xg_t (xg_getf (va := (0, f3_3)) (hF41.get (by decide) h3_11) rfl) ?_
              by_cases hc50 : f3_3 < hi
              · refine xg_t (xg_icT (u := hi) (v := f3_3) rfl xnm0 xnm0 (xj_gtT hc50 (by omega))) ?_
                refine xg_t (xg_blq rfl) ?_
                refine xg_t (xg_iinc (u := wi) (z := wi + 1) (l1 := [(0, (2, 72)), (2, (0, hi))]) rfl rfl (by omega) rfl) ?_
                refine xg_t (xg_goto) ?_
                refine xg_t (xg_drop (l1 := [(0, (2, 72)), (1, (0, wi + 1))]) (List.forall_mem_cons.mpr ⟨List.mem_cons_of_mem _ (List.mem_cons_self), List.forall_mem_cons.mpr ⟨List.mem_cons_self, fun _ h => absurd h List.not_mem_nil⟩⟩)) ?_
                exact ih19 (wi + 1) w39 (by omega) (by omega) (hI40) (hF41) (by omega)
              · refine xg_t (xg_icF (u := hi) (v := f3_3) rfl xnm0 xnm0 (xj_gtF (by omega) (by omega))) ?_
                refine xg_t (xg_aload (va := (2, 72)) rfl rfl) ?_
                refine xg_t (xg_iload (va := (0, wi)) rfl rfl) ?_
                refine xg_t (xg_iload (va := (0, hi)) rfl rfl) ?_
                refine xg_t (xg_aload (va := (2, 72)) rfl rfl) ?_
                refine xg_t (xg_iload (va := (0, wi)) rfl rfl) ?_
                refine xg_t (xg_iload (va := (0, hi)) rfl rfl) ?_
                refine xg_cVi mX7_worthOfSize (vs := [(0, wi), (0, hi)]) (rest := [(0, hi), (0, wi), (2, 72)]) (cn1 := 0) (sl1 := 0) rfl (shWorthOfSize (hI40) (by omega) (by omega)) rfl h72_49 rfl rfl rfl rfl rfl rfl (fun n55 w51 hq52 => ?_)
                obtain ⟨hn56, hI53, hF54⟩ := hq52
                refine xg_cVv mX7_fillWorths (vs := [(0, wi), (0, hi), (0, n55)]) (rest := []) (cn1 := 0) (sl1 := 0) rfl (shFillWorths (hI53) (by omega) (by omega) (by omega) (by omega) (by omega)) rfl (hF54.get (by decide) h72_49) rfl rfl rfl rfl rfl rfl (fun w57 hq58 => ?_)
                obtain ⟨hI59, hF60⟩ := hq58
                refine xg_t (xg_iinc (u := hi) (z := hi + 1) (l1 := [(0, (2, 72)), (1, (0, wi))]) rfl rfl (by omega) rfl) ?_
                refine xg_t (xg_goto) ?_
                refine xg_t (xg_drop (l1 := [(0, (2, 72)), (1, (0, wi)), (2, (0, hi + 1))]) (List.forall_mem_cons.mpr ⟨List.mem_cons_of_mem _ (List.mem_cons_self), List.forall_mem_cons.mpr ⟨List.mem_cons_of_mem _ (List.mem_cons_of_mem _ (List.mem_cons_self)), List.forall_mem_cons.mpr ⟨List.mem_cons_self, fun _ h => absurd h List.not_mem_nil⟩⟩⟩)) ?_
                exact ih37 (hi + 1) w57 (by omega) (by omega) (hI59) (((hF41.tr (hF54.up (by decide))).tr (hF60.up (by decide)))) (by omega)
          exact key36 _ 1 w21 (Nat.lt_succ_self _) (by omega) (hI22) (hF23) (by omega)
    exact key18 _ 1 w (Nat.lt_succ_self _) (by omega) (hI) (xFr.rf) (by omega)
  · refine xg_t (xg_ifF (u := f72_12) rfl xnm0 (xj_eqF hc17)) ?_
    exact xg_e ⟨w, ⟨rfl, rfl⟩, hI, xFr.rf⟩
theorem shPlanPanel {xx yy wi hi wo : Nat} (hI : xInv w) (h1 : xx ≤ 4294967295) (h2 : yy ≤ 4294967295) (h3 : wi ≤ 4294967295) (h4 : hi ≤ 4294967295) (h5 : wo ≤ 4294967295) : xPq (d + 2) mX7_planPanel [(2, 72), (0, xx), (0, yy), (0, wi), (0, hi), (0, wo)] w bd fc rr [] (fun w' => xInv w' ∧ xFr [74, 75] w w') := by
  refine xPq.of ?_
  show xTo (d + 2) mX7_planPanel (0, [], [(0, (2, 72)), (1, (0, xx)), (2, (0, yy)), (3, (0, wi)), (4, (0, hi)), (5, (0, wo))], [], (w, bd, fc, 0, 0, rr)) (fun φ => ∃ w', xEnd 0 [] (w', bd, fc, 0, 0, rr) φ ∧ xInv w' ∧ xFr [74, 75] w w')
  refine xoC72 (xqc72 hI : cp72 (wget w 72)) (fun f72_1 f72_3 h72_5 hb2 hb4 => ?_)
  refine xoC3 (xqc3 hI : cp3 (wget w 3)) (fun f3_6 f3_8 f3_10 f3_12 f3_14 h3_16 hb7 hb9 hb11 hb13 hb15 => ?_)
  obtain ⟨f10_17, h10_19, hb18⟩ := (xqc10 hI : cp10 (wget w 10))
  refine xoI (xqc11 hI : cpI 12 4 4294967295 (wget w 11)) (fun g11_20 h11_21 hb22 => ?_)
  refine xg_t (xg_blq rfl) ?_
  refine xg_t (xg_const) ?_
  refine xg_t (xg_istore (l1 := [(0, (2, 72)), (1, (0, xx)), (2, (0, yy)), (3, (0, wi)), (4, (0, hi)), (5, (0, wo))]) rfl rfl rfl) ?_
  refine xg_t (xg_drop (l1 := [(0, (2, 72)), (1, (0, xx)), (2, (0, yy)), (3, (0, wi)), (4, (0, hi)), (5, (0, wo)), (6, (0, 0))]) (List.forall_mem_cons.mpr ⟨List.mem_cons_of_mem _ (List.mem_cons_self), List.forall_mem_cons.mpr ⟨List.mem_cons_of_mem _ (List.mem_cons_of_mem _ (List.mem_cons_self)), List.forall_mem_cons.mpr ⟨List.mem_cons_of_mem _ (List.mem_cons_of_mem _ (List.mem_cons_of_mem _ (List.mem_cons_self))), List.forall_mem_cons.mpr ⟨List.mem_cons_of_mem _ (List.mem_cons_of_mem _ (List.mem_cons_of_mem _ (List.mem_cons_of_mem _ (List.mem_cons_self)))), List.forall_mem_cons.mpr ⟨List.mem_cons_of_mem _ (List.mem_cons_of_mem _ (List.mem_cons_of_mem _ (List.mem_cons_of_mem _ (List.mem_cons_of_mem _ (List.mem_cons_self))))), List.forall_mem_cons.mpr ⟨List.mem_cons_of_mem _ (List.mem_cons_of_mem _ (List.mem_cons_of_mem _ (List.mem_cons_of_mem _ (List.mem_cons_of_mem _ (List.mem_cons_of_mem _ (List.mem_cons_self)))))), List.forall_mem_cons.mpr ⟨List.mem_cons_self, fun _ h => absurd h List.not_mem_nil⟩⟩⟩⟩⟩⟩⟩)) ?_
  have key23 : ∀ (m25 : Nat) (kd : Nat) (w26 : List (List xE)), 4 - kd < m25 → kd ≤ 4 → xInv w26 → xFr [74, 75] w w26 → xTo (d + 2) mX7_planPanel (3, [], [(0, (2, 72)), (1, (0, xx)), (2, (0, yy)), (3, (0, wi)), (4, (0, hi)), (5, (0, wo)), (6, (0, kd))], [], (w26, bd, fc, 0, 0, rr)) (fun φ => ∃ w', xEnd 0 [] (w', bd, fc, 0, 0, rr) φ ∧ xInv w' ∧ xFr [74, 75] w w') := by
    intro m25
    induction m25 with
    | zero => intro kd w26 hz; exact absurd hz (Nat.not_lt_zero _)
    | succ m25 ih24 =>
      intro kd w26 hm30 hn29 hI27 hF28
      refine xg_t (xg_blq rfl) ?_
      refine xg_t (xg_iload (va := (0, kd)) rfl rfl) ?_
      refine xg_t (xg_aload (va := (2, 72)) rfl rfl) ?_
      refine xg_t (xg_getf (va := (2, 3)) (hF28.get (by decide) h72_5) rfl) ?_
      refine xg_t (xg_getf (va := (2, 10)) (hF28.get (by decide) h3_16) rfl) ?_
      refine xg_t (xg_getf (va := (0, f10_17)) (hF28.get (by decide) h10_19) rfl) ?_
      by_cases hc31 : kd < f10_17
      · refine xg_t (xg_icF (u := kd) (v := f10_17) rfl xnm0 xnm0 (xj_geF hc31 (by omega))) ?_
        refine xg_t (xg_aload (va := (2, 72)) rfl rfl) ?_
        refine xg_t (xg_iload (va := (0, kd)) rfl rfl) ?_
        refine xg_t (xg_iload (va := (0, wi)) rfl rfl) ?_
        refine xg_t (xg_iload (va := (0, hi)) rfl rfl) ?_
        refine xg_cVi mX7_isAsLarge (vs := [(0, kd), (0, wi), (0, hi)]) (rest := []) (cn1 := 0) (sl1 := 0) rfl (shIsAsLarge (hI27) (by omega) (by omega) (by omega)) rfl (hF28.get (by decide) h72_5) rfl rfl rfl rfl rfl rfl (fun n36 w32 hq33 => ?_)
        obtain ⟨hn37, hI34, hF35⟩ := hq33
        by_cases hc38 : n36 = 0
        · refine xg_t (xg_ifT (u := n36) rfl xnm0 (xj_eqT hc38)) ?_
          refine xg_t (xg_blq rfl) ?_
          refine xg_t (xg_iinc (u := kd) (z := kd + 1) (l1 := [(0, (2, 72)), (1, (0, xx)), (2, (0, yy)), (3, (0, wi)), (4, (0, hi)), (5, (0, wo))]) rfl rfl (by omega) rfl) ?_
          refine xg_t (xg_goto) ?_
          refine xg_t (xg_drop (l1 := [(0, (2, 72)), (1, (0, xx)), (2, (0, yy)), (3, (0, wi)), (4, (0, hi)), (5, (0, wo)), (6, (0, kd + 1))]) (List.forall_mem_cons.mpr ⟨List.mem_cons_of_mem _ (List.mem_cons_self), List.forall_mem_cons.mpr ⟨List.mem_cons_of_mem _ (List.mem_cons_of_mem _ (List.mem_cons_self)), List.forall_mem_cons.mpr ⟨List.mem_cons_of_mem _ (List.mem_cons_of_mem _ (List.mem_cons_of_mem _ (List.mem_cons_self))), List.forall_mem_cons.mpr ⟨List.mem_cons_of_mem _ (List.mem_cons_of_mem _ (List.mem_cons_of_mem _ (List.mem_cons_of_mem _ (List.mem_cons_self)))), List.forall_mem_cons.mpr ⟨List.mem_cons_of_mem _ (List.mem_cons_of_mem _ (List.mem_cons_of_mem _ (List.mem_cons_of_mem _ (List.mem_cons_of_mem _ (List.mem_cons_self))))), List.forall_mem_cons.mpr ⟨List.mem_cons_of_mem _ (List.mem_cons_of_mem _ (List.mem_cons_of_mem _ (List.mem_cons_of_mem _ (List.mem_cons_of_mem _ (List.mem_cons_of_mem _ (List.mem_cons_self)))))), List.forall_mem_cons.mpr ⟨List.mem_cons_self, fun _ h => absurd h List.not_mem_nil⟩⟩⟩⟩⟩⟩⟩)) ?_
          exact ih24 (kd + 1) w32 (by omega) (by omega) (hI34) ((hF28.tr (hF35.up (by decide))))
        · refine xg_t (xg_ifF (u := n36) rfl xnm0 (xj_eqF hc38)) ?_
          refine xg_t (xg_aload (va := (2, 72)) rfl rfl) ?_
          refine xg_t (xg_getf (va := (2, 3)) (hF35.get (by decide) (hF28.get (by decide) h72_5)) rfl) ?_
          refine xg_t (xg_getf (va := (2, 10)) (hF35.get (by decide) (hF28.get (by decide) h3_16)) rfl) ?_
          refine xg_t (xg_iload (va := (0, kd)) rfl rfl) ?_
          refine xg_t (xg_const) ?_
          refine xg_k (xg_cVr mX5_get (vs := [(0, kd), (0, 2)]) (rest := []) (rs := [(0, if kd < f10_17 ∧ 2 < 3 then g11_20 (kd * 3 + 2) else 4294967295)]) (cn1 := 0) (sl1 := 0) rfl (rget_ok (lim := 4) (wd := 3) (sz := f10_17) (hF35.get (by decide) (hF28.get (by decide) h10_19)) ((h11_21.fr hF28 (by decide)).fr hF35 (by decide)) (by decide) (by omega) (by decide) (by decide) (by omega) (by omega)) rfl (hF35.get (by decide) (hF28.get (by decide) h10_19)) rfl rfl rfl rfl rfl rfl rfl) (xiteb (hb22)) (fun z39 hz40 => ?_)
          refine xg_t (xg_iload (va := (0, wo)) rfl rfl) ?_
          by_cases hc41 : z39 = wo
          · refine xg_t (xg_icF (u := z39) (v := wo) rfl xnm0 xnm0 (xj_neF hc41)) ?_
            refine xg_t (xg_aload (va := (2, 72)) rfl rfl) ?_
            refine xg_t (xg_getf (va := (2, 74)) (hF35.get (by decide) (hF28.get (by decide) h72_5)) rfl) ?_
            obtain ⟨f74_42, h74_44, hb43⟩ := (xqc74 hI34 : cp74 (wget w32 74))
            refine xg_cVi mX5_grow (vs := []) (rest := []) (cn1 := 0) (sl1 := 0) rfl (rgrowI h74_44 (by decide) (by omega)) rfl h74_44 rfl rfl rfl rfl rfl rfl (fun n47 w45 hq46 => ?_)
            obtain ⟨hn48, s49, hs50, hk51, hb52⟩ := hq46
            refine xg_t (xg_istore (l1 := [(0, (2, 72)), (1, (0, xx)), (2, (0, yy)), (3, (0, wi)), (4, (0, hi)), (5, (0, wo)), (6, (0, kd))]) rfl rfl rfl) ?_
            refine xg_t (xg_aload (va := (2, 72)) rfl rfl) ?_
            refine xg_t (xg_getf (va := (2, 74)) (hb52.get (by decide) (hF35.get (by decide) (hF28.get (by decide) h72_5))) rfl) ?_
            refine xg_t (xg_iload (va := (0, n47)) rfl rfl) ?_
            refine xg_t (xg_const) ?_
            refine xg_t (xg_iload (va := (0, kd)) rfl rfl) ?_
            refine xoI (xqc75 hI34 : cpI 300 44 4294967295 (wget w32 75)) (fun g75_53 h75_54 hb55 => ?_)
            refine xg_cVv mX5_put (vs := [(0, n47), (0, 0), (0, kd)]) (rest := []) (cn1 := 0) (sl1 := 0) rfl (rputI (lim := 100) (wd := 3) (B := 4294967295) hk51 (h75_54.but hb52 (by decide)) (hb55) (by decide) (by omega) (by decide) (by decide) (by omega) (by omega) (by omega)) rfl hk51 rfl rfl rfl rfl rfl rfl (fun w56 hq57 => ?_)
            obtain ⟨g58, hr59, hb60, hb61⟩ := hq57
            refine xg_t (xg_aload (va := (2, 72)) rfl rfl) ?_
            refine xg_t (xg_getf (va := (2, 74)) (hb61.get (by decide) (hb52.get (by decide) (hF35.get (by decide) (hF28.get (by decide) h72_5)))) rfl) ?_
            refine xg_t (xg_iload (va := (0, n47)) rfl rfl) ?_
            refine xg_t (xg_const) ?_
            refine xg_t (xg_iload (va := (0, xx)) rfl rfl) ?_
            refine xg_cVv mX5_put (vs := [(0, n47), (0, 1), (0, xx)]) (rest := []) (cn1 := 0) (sl1 := 0) rfl (rputI (lim := 100) (wd := 3) (B := 4294967295) (hb61.get (by decide) hk51) hr59 (hb60) (by decide) (by omega) (by decide) (by decide) (by omega) (by omega) (by omega)) rfl (hb61.get (by decide) hk51) rfl rfl rfl rfl rfl rfl (fun w62 hq63 => ?_)
            obtain ⟨g64, hr65, hb66, hb67⟩ := hq63
            refine xg_t (xg_aload (va := (2, 72)) rfl rfl) ?_
            refine xg_t (xg_getf (va := (2, 74)) (hb67.get (by decide) (hb61.get (by decide) (hb52.get (by decide) (hF35.get (by decide) (hF28.get (by decide) h72_5))))) rfl) ?_
            refine xg_t (xg_iload (va := (0, n47)) rfl rfl) ?_
            refine xg_t (xg_const) ?_
            refine xg_t (xg_iload (va := (0, yy)) rfl rfl) ?_
            refine xg_cVv mX5_put (vs := [(0, n47), (0, 2), (0, yy)]) (rest := []) (cn1 := 0) (sl1 := 0) rfl (rputI (lim := 100) (wd := 3) (B := 4294967295) (hb67.get (by decide) (hb61.get (by decide) hk51)) hr65 (hb66) (by decide) (by omega) (by decide) (by decide) (by omega) (by omega) (by omega)) rfl (hb67.get (by decide) (hb61.get (by decide) hk51)) rfl rfl rfl rfl rfl rfl (fun w68 hq69 => ?_)
            obtain ⟨g70, hr71, hb72, hb73⟩ := hq69
            exact xg_e ⟨w68, ⟨rfl, rfl⟩, xInv.up (S := [74, 75]) hI34 ((((xFr.of (S := [74, 75]) hb52 (by decide)).tr (xFr.of (S := [74, 75]) hb61 (by decide))).tr (xFr.of (S := [74, 75]) hb67 (by decide))).tr (xFr.of (S := [74, 75]) hb73 (by decide))) (List.forall_mem_cons.mpr ⟨xqu74 (show cp74 (wget w68 74) from ⟨s49, (hb73.get (by decide) (hb67.get (by decide) (hb61.get (by decide) hk51))), by omega⟩), List.forall_mem_cons.mpr ⟨xqu75 (show cpI 300 44 4294967295 (wget w68 75) from ⟨_, hr71, hb72⟩), fun _ h => absurd h List.not_mem_nil⟩⟩), ((hF28.tr (hF35.up (by decide))).tr ((((xFr.of (S := [74, 75]) hb52 (by decide)).tr (xFr.of (S := [74, 75]) hb61 (by decide))).tr (xFr.of (S := [74, 75]) hb67 (by decide))).tr (xFr.of (S := [74, 75]) hb73 (by decide))))⟩
          · refine xg_t (xg_icT (u := z39) (v := wo) rfl xnm0 xnm0 (xj_neT hc41)) ?_
            refine xg_t (xg_blq rfl) ?_
            refine xg_t (xg_iinc (u := kd) (z := kd + 1) (l1 := [(0, (2, 72)), (1, (0, xx)), (2, (0, yy)), (3, (0, wi)), (4, (0, hi)), (5, (0, wo))]) rfl rfl (by omega) rfl) ?_
            refine xg_t (xg_goto) ?_
            refine xg_t (xg_drop (l1 := [(0, (2, 72)), (1, (0, xx)), (2, (0, yy)), (3, (0, wi)), (4, (0, hi)), (5, (0, wo)), (6, (0, kd + 1))]) (List.forall_mem_cons.mpr ⟨List.mem_cons_of_mem _ (List.mem_cons_self), List.forall_mem_cons.mpr ⟨List.mem_cons_of_mem _ (List.mem_cons_of_mem _ (List.mem_cons_self)), List.forall_mem_cons.mpr ⟨List.mem_cons_of_mem _ (List.mem_cons_of_mem _ (List.mem_cons_of_mem _ (List.mem_cons_self))), List.forall_mem_cons.mpr ⟨List.mem_cons_of_mem _ (List.mem_cons_of_mem _ (List.mem_cons_of_mem _ (List.mem_cons_of_mem _ (List.mem_cons_self)))), List.forall_mem_cons.mpr ⟨List.mem_cons_of_mem _ (List.mem_cons_of_mem _ (List.mem_cons_of_mem _ (List.mem_cons_of_mem _ (List.mem_cons_of_mem _ (List.mem_cons_self))))), List.forall_mem_cons.mpr ⟨List.mem_cons_of_mem _ (List.mem_cons_of_mem _ (List.mem_cons_of_mem _ (List.mem_cons_of_mem _ (List.mem_cons_of_mem _ (List.mem_cons_of_mem _ (List.mem_cons_self)))))), List.forall_mem_cons.mpr ⟨List.mem_cons_self, fun _ h => absurd h List.not_mem_nil⟩⟩⟩⟩⟩⟩⟩)) ?_
            exact ih24 (kd + 1) w32 (by omega) (by omega) (hI34) ((hF28.tr (hF35.up (by decide))))
      · refine xg_t (xg_icT (u := kd) (v := f10_17) rfl xnm0 xnm0 (xj_geT (by omega) (by omega))) ?_
        refine xg_t (xg_blq rfl) ?_
        exact xg_e ⟨w26, ⟨rfl, rfl⟩, hI27, hF28⟩
  exact key23 _ 0 w (Nat.lt_succ_self _) (by omega) (hI) (xFr.rf)
end XST
end
section
/-! the plan: a method that calls itself -/
section XPN
variable {d : Nat} {w : List (List xE)} {bd : List (Nat × Nat)} {fc : List (Nat × Nat × Bool)} {rr : Nat × Nat}
theorem shPlanPiece : ∀ (k : Nat) {w : List (List xE)} {xx yy wi hi dp : Nat}, xInv w → xx ≤ 4294967295 → yy ≤ 4294967295 → wi ≤ 4294967295 → hi ≤ 4294967295 → dp + k = 22 → xPq (d + k + 3) mX7_planPiece [(2, 72), (0, xx), (0, yy), (0, wi), (0, hi), (0, dp)] w bd fc rr [] (fun w' => xInv w' ∧ xFr [74, 75] w w') := by
  intro k
  induction k with
  | zero =>
    intro w xx yy wi hi dp hI h1 h2 h3 h4 h5
    refine xPq.of ?_
    show xTo (d + 0 + 3) mX7_planPiece (0, [], [(0, (2, 72)), (1, (0, xx)), (2, (0, yy)), (3, (0, wi)), (4, (0, hi)), (5, (0, dp))], [], (w, bd, fc, 0, 0, rr)) (fun φ => ∃ w', xEnd 0 [] (w', bd, fc, 0, 0, rr) φ ∧ xInv w' ∧ xFr [74, 75] w w')
    refine xg_t (xg_blq rfl) ?_
    refine xg_t (xg_aload (va := (2, 72)) rfl rfl) ?_
    refine xg_t (xg_iload (va := (0, xx)) rfl rfl) ?_
    refine xg_t (xg_iload (va := (0, yy)) rfl rfl) ?_
    refine xg_t (xg_iload (va := (0, wi)) rfl rfl) ?_
    refine xg_t (xg_iload (va := (0, hi)) rfl rfl) ?_
    refine xoC72 (xqc72 hI : cp72 (wget w 72)) (fun f72_1 f72_3 h72_5 hb2 hb4 => ?_)
    refine xg_cVi mX7_worthOf (vs := [(0, xx), (0, yy), (0, wi), (0, hi)]) (rest := []) (cn1 := 0) (sl1 := 0) rfl (shWorthOf (hI) (by omega) (by omega) (by omega) (by omega)) rfl h72_5 rfl rfl rfl rfl rfl rfl (fun n10 w6 hq7 => ?_)
    obtain ⟨hn11, hI8, hF9⟩ := hq7
    refine xg_t (xg_istore (l1 := [(0, (2, 72)), (1, (0, xx)), (2, (0, yy)), (3, (0, wi)), (4, (0, hi)), (5, (0, dp))]) rfl rfl rfl) ?_
    refine xg_t (xg_iload (va := (0, n10)) rfl rfl) ?_
    by_cases hc12 : n10 = 0
    · refine xg_t (xg_ifT (u := n10) rfl xnm0 (xj_eqT hc12)) ?_
      refine xg_t (xg_blq rfl) ?_
      exact xg_e ⟨w6, ⟨rfl, rfl⟩, hI8, (hF9.up (by decide))⟩
    · refine xg_t (xg_ifF (u := n10) rfl xnm0 (xj_eqF hc12)) ?_
      refine xg_t (xg_iload (va := (0, dp)) rfl rfl) ?_
      refine xg_t (xg_bip) ?_
      refine xg_t (xg_icF (u := dp) (v := 20) rfl xnm0 xnm0 (xj_leF (by omega) (by omega))) ?_
      refine xg_t (xg_blq rfl) ?_
      exact xg_e ⟨w6, ⟨rfl, rfl⟩, hI8, (hF9.up (by decide))⟩
  | succ k ih =>
    intro w xx yy wi hi dp hI h1 h2 h3 h4 h5
    refine xPq.of ?_
    show xTo (d + (k + 1) + 3) mX7_planPiece (0, [], [(0, (2, 72)), (1, (0, xx)), (2, (0, yy)), (3, (0, wi)), (4, (0, hi)), (5, (0, dp))], [], (w, bd, fc, 0, 0, rr)) (fun φ => ∃ w', xEnd 0 [] (w', bd, fc, 0, 0, rr) φ ∧ xInv w' ∧ xFr [74, 75] w w')
    refine xg_t (xg_blq rfl) ?_
    refine xg_t (xg_aload (va := (2, 72)) rfl rfl) ?_
    refine xg_t (xg_iload (va := (0, xx)) rfl rfl) ?_
    refine xg_t (xg_iload (va := (0, yy)) rfl rfl) ?_
    refine xg_t (xg_iload (va := (0, wi)) rfl rfl) ?_
    refine xg_t (xg_iload (va := (0, hi)) rfl rfl) ?_
    refine xoC72 (xqc72 hI : cp72 (wget w 72)) (fun f72_1 f72_3 h72_5 hb2 hb4 => ?_)
    refine xg_cVi mX7_worthOf (vs := [(0, xx), (0, yy), (0, wi), (0, hi)]) (rest := []) (cn1 := 0) (sl1 := 0) rfl (shWorthOf (hI) (by omega) (by omega) (by omega) (by omega)) rfl h72_5 rfl rfl rfl rfl rfl rfl (fun n10 w6 hq7 => ?_)
    obtain ⟨hn11, hI8, hF9⟩ := hq7
    refine xg_t (xg_istore (l1 := [(0, (2, 72)), (1, (0, xx)), (2, (0, yy)), (3, (0, wi)), (4, (0, hi)), (5, (0, dp))]) rfl rfl rfl) ?_
    refine xg_t (xg_iload (va := (0, n10)) rfl rfl) ?_
    by_cases hc12 : n10 = 0
    · refine xg_t (xg_ifT (u := n10) rfl xnm0 (xj_eqT hc12)) ?_
      refine xg_t (xg_blq rfl) ?_
      exact xg_e ⟨w6, ⟨rfl, rfl⟩, hI8, (hF9.up (by decide))⟩
    · refine xg_t (xg_ifF (u := n10) rfl xnm0 (xj_eqF hc12)) ?_
      refine xg_t (xg_iload (va := (0, dp)) rfl rfl) ?_
      refine xg_t (xg_bip) ?_
      by_cases hc13 : 20 < dp
      · refine xg_t (xg_icF (u := dp) (v := 20) rfl xnm0 xnm0 (xj_leF hc13 (by omega))) ?_
        refine xg_t (xg_blq rfl) ?_
        exact xg_e ⟨w6, ⟨rfl, rfl⟩, hI8, (hF9.up (by decide))⟩
      · refine xg_t (xg_icT (u := dp) (v := 20) rfl xnm0 xnm0 (xj_leT (by omega) (by omega))) ?_
        refine xg_t (xg_blq rfl) ?_
        refine xg_t (xg_aload (va := (2, 72)) rfl rfl) ?_
        refine xg_t (xg_iload (va := (0, wi)) rfl rfl) ?_
        refine xg_t (xg_iload (va := (0, hi)) rfl rfl) ?_
        refine xg_cVi mX7_worthOfSize (vs := [(0, wi), (0, hi)]) (rest := []) (cn1 := 0) (sl1 := 0) rfl (shWorthOfSize (hI8) (by omega) (by omega)) rfl (hF9.get (by decide) h72_5) rfl rfl rfl rfl rfl rfl (fun n18 w14 hq15 => ?_)
        obtain ⟨hn19, hI16, hF17⟩ := hq15
        refine xg_t (xg_iload (va := (0, n10)) rfl rfl) ?_
        by_cases hc20 : n18 = n10
        · refine xg_t (xg_icF (u := n18) (v := n10) rfl xnm0 xnm0 (xj_neF hc20)) ?_
          refine xg_t (xg_aload (va := (2, 72)) rfl rfl) ?_
          refine xg_t (xg_iload (va := (0, xx)) rfl rfl) ?_
          refine xg_t (xg_iload (va := (0, yy)) rfl rfl) ?_
          refine xg_t (xg_iload (va := (0, wi)) rfl rfl) ?_
          refine xg_t (xg_iload (va := (0, hi)) rfl rfl) ?_
          refine xg_cVi mX7_hasFlaw (vs := [(0, xx), (0, yy), (0, wi), (0, hi)]) (rest := []) (cn1 := 0) (sl1 := 0) rfl (shHasFlaw (hI16) (by omega) (by omega) (by omega) (by omega)) rfl (hF17.get (by decide) (hF9.get (by decide) h72_5)) rfl rfl rfl rfl rfl rfl (fun n25 w21 hq22 => ?_)
          obtain ⟨hn26, hI23, hF24⟩ := hq22
          by_cases hc27 : n25 = 0
          · refine xg_t (xg_ifF (u := n25) rfl xnm0 (xj_neF hc27)) ?_
            refine xg_t (xg_aload (va := (2, 72)) rfl rfl) ?_
            refine xg_t (xg_iload (va := (0, xx)) rfl rfl) ?_
            refine xg_t (xg_iload (va := (0, yy)) rfl rfl) ?_
            refine xg_t (xg_iload (va := (0, wi)) rfl rfl) ?_
            refine xg_t (xg_iload (va := (0, hi)) rfl rfl) ?_
            refine xg_t (xg_iload (va := (0, n10)) rfl rfl) ?_
            refine xg_cVv mX7_planPanel (vs := [(0, xx), (0, yy), (0, wi), (0, hi), (0, n10)]) (rest := []) (cn1 := 0) (sl1 := 0) rfl (shPlanPanel (hI23) (by omega) (by omega) (by omega) (by omega) (by omega)) rfl (hF24.get (by decide) (hF17.get (by decide) (hF9.get (by decide) h72_5))) rfl rfl rfl rfl rfl rfl (fun w28 hq29 => ?_)
            obtain ⟨hI30, hF31⟩ := hq29
            exact xg_e ⟨w28, ⟨rfl, rfl⟩, hI30, ((((hF9.up (by decide)).tr (hF17.up (by decide))).tr (hF24.up (by decide))).tr (hF31.up (by decide)))⟩
          · refine xg_t (xg_ifT (u := n25) rfl xnm0 (xj_neT hc27)) ?_
            refine xg_t (xg_blq rfl) ?_
            refine xg_t (xg_const) ?_
            refine xg_t (xg_istore (l1 := [(6, (0, n10)), (0, (2, 72)), (1, (0, xx)), (2, (0, yy)), (3, (0, wi)), (4, (0, hi)), (5, (0, dp))]) rfl rfl rfl) ?_
            refine xg_t (xg_drop (l1 := [(0, (2, 72)), (1, (0, xx)), (2, (0, yy)), (3, (0, wi)), (4, (0, hi)), (5, (0, dp)), (6, (0, n10)), (7, (0, 1))]) (List.forall_mem_cons.mpr ⟨List.mem_cons_of_mem _ (List.mem_cons_of_mem _ (List.mem_cons_self)), List.forall_mem_cons.mpr ⟨List.mem_cons_of_mem _ (List.mem_cons_of_mem _ (List.mem_cons_of_mem _ (List.mem_cons_self))), List.forall_mem_cons.mpr ⟨List.mem_cons_of_mem _ (List.mem_cons_of_mem _ (List.mem_cons_of_mem _ (List.mem_cons_of_mem _ (List.mem_cons_self)))), List.forall_mem_cons.mpr ⟨List.mem_cons_of_mem _ (List.mem_cons_of_mem _ (List.mem_cons_of_mem _ (List.mem_cons_of_mem _ (List.mem_cons_of_mem _ (List.mem_cons_self))))), List.forall_mem_cons.mpr ⟨List.mem_cons_of_mem _ (List.mem_cons_of_mem _ (List.mem_cons_of_mem _ (List.mem_cons_of_mem _ (List.mem_cons_of_mem _ (List.mem_cons_of_mem _ (List.mem_cons_self)))))), List.forall_mem_cons.mpr ⟨List.mem_cons_of_mem _ (List.mem_cons_of_mem _ (List.mem_cons_of_mem _ (List.mem_cons_of_mem _ (List.mem_cons_of_mem _ (List.mem_cons_of_mem _ (List.mem_cons_of_mem _ (List.mem_cons_self))))))), List.forall_mem_cons.mpr ⟨List.mem_cons_of_mem _ (List.mem_cons_self), List.forall_mem_cons.mpr ⟨List.mem_cons_self, fun _ h => absurd h List.not_mem_nil⟩⟩⟩⟩⟩⟩⟩⟩)) ?_
            have key32 : ∀ (m34 : Nat) (at1 : Nat) (w35 : List (List xE)), wi - at1 < m34 → at1 ≤ 2147483647 → xInv w35 → xFr [74, 75] w w35 → 1 ≤ at1 → xTo (d + (k + 1) + 3) mX7_planPiece (63, [], [(0, (2, 72)), (1, (0, xx)), (2, (0, yy)), (3, (0, wi)), (4, (0, hi)), (5, (0, dp)), (6, (0, n10)), (7, (0, at1))], [], (w35, bd, fc, 0, 0, rr)) (fun φ => ∃ w', xEnd 0 [] (w', bd, fc, 0, 0, rr) φ ∧ xInv w' ∧ xFr [74, 75] w w') := by
              intro m34
              induction m34 with
              | zero => intro at1 w35 hz; exact absurd hz (Nat.not_lt_zero _)
              | succ m34 ih33 =>
                intro at1 w35 hm40 hn38 hI36 hF37 he39
                refine xg_t (xg_blq rfl) ?_
                refine xg_t (xg_iload (va := (0, at1)) rfl rfl) ?_
                refine xg_t (xg_iload (va := (0, wi)) rfl rfl) ?_
                by_cases hc41 : xbs at1 < xbs wi
                · have hc41u := hc41
                  unfold xbs at hc41u
                  have hn42 : at1 ≤ 2147483646 := by omega
                  have hn43 : wi ≤ 2147483647 := by omega
                  refine xg_t (xg_icF (u := at1) (v := wi) rfl xnm0 xnm0 (xjs_geF hc41)) ?_
                  refine xg_t (xg_aload (va := (2, 72)) rfl rfl) ?_
                  refine xg_t (xg_iload (va := (0, xx)) rfl rfl) ?_
                  refine xg_t (xg_iload (va := (0, yy)) rfl rfl) ?_
                  refine xg_t (xg_iload (va := (0, at1)) rfl rfl) ?_
                  refine xg_t (xg_iload (va := (0, hi)) rfl rfl) ?_
                  refine xg_cVi mX7_worthOf (vs := [(0, xx), (0, yy), (0, at1), (0, hi)]) (rest := []) (cn1 := 0) (sl1 := 0) rfl (shWorthOf (hI36) (by omega) (by omega) (by omega) (by omega)) rfl (hF37.get (by decide) h72_5) rfl rfl rfl rfl rfl rfl (fun n48 w44 hq45 => ?_)
                  obtain ⟨hn49, hI46, hF47⟩ := hq45
                  refine xg_t (xg_aload (va := (2, 72)) rfl rfl) ?_
                  refine xg_t (xg_iload (va := (0, xx)) rfl rfl) ?_
                  refine xg_t (xg_iload (va := (0, at1)) rfl rfl) ?_
                  refine xg_k (xg_iadd (u := xx) (v := at1) (z := (xx + at1) % 4294967296) xnm0 xnm0 rfl) (Nat.mod_lt _ (by decide)) (fun z50 hz51 => ?_)
                  refine xg_t (xg_iload (va := (0, yy)) rfl rfl) ?_
                  refine xg_t (xg_iload (va := (0, wi)) rfl rfl) ?_
                  refine xg_t (xg_iload (va := (0, at1)) rfl rfl) ?_
                  refine xg_k (xg_isub (u := wi) (v := at1) (z := (wi + (4294967296 - at1)) % 4294967296) xnm0 xnm0 rfl) (Nat.mod_lt _ (by decide)) (fun z52 hz53 => ?_)
                  refine xg_t (xg_iload (va := (0, hi)) rfl rfl) ?_
                  refine xg_cVi mX7_worthOf (vs := [(0, z50), (0, yy), (0, z52), (0, hi)]) (rest := [(0, n48)]) (cn1 := 0) (sl1 := 0) rfl (shWorthOf (hI46) (by omega) (by omega) (by omega) (by omega)) rfl (hF47.get (by decide) (hF37.get (by decide) h72_5)) rfl rfl rfl rfl rfl rfl (fun n58 w54 hq55 => ?_)
                  obtain ⟨hn59, hI56, hF57⟩ := hq55
                  refine xg_k (xg_iadd (u := n48) (v := n58) (z := (n48 + n58) % 4294967296) xnm0 xnm0 rfl) (Nat.mod_lt _ (by decide)) (fun z60 hz61 => ?_)
                  refine xg_t (xg_iload (va := (0, n10)) rfl rfl) ?_
                  by_cases hc62 : z60 = n10
                  · refine xg_t (xg_icF (u := z60) (v := n10) rfl xnm0 xnm0 (xj_neF hc62)) ?_
                    refine xg_t (xg_aload (va := (2, 72)) rfl rfl) ?_
                    refine xg_t (xg_iload (va := (0, xx)) rfl rfl) ?_
                    refine xg_t (xg_iload (va := (0, yy)) rfl rfl) ?_
                    refine xg_t (xg_iload (va := (0, at1)) rfl rfl) ?_
                    refine xg_t (xg_iload (va := (0, hi)) rfl rfl) ?_
                    refine xg_t (xg_iload (va := (0, dp)) rfl rfl) ?_
                    refine xg_t (xg_const) ?_
                    refine xg_t (xg_iadd (u := dp) (v := 1) (z := dp + 1) xnm0 xnm0 (by omega)) ?_
                    refine xg_cSv mX7_planPiece (vs := [(2, 72), (0, xx), (0, yy), (0, at1), (0, hi), (0, dp + 1)]) (rest := []) (cn1 := 0) (sl1 := 0) rfl (ih (hI56) (by omega) (by omega) (by omega) (by omega) (by omega)) rfl rfl rfl rfl rfl rfl rfl (fun w63 hq64 => ?_)
                    obtain ⟨hI65, hF66⟩ := hq64
                    refine xg_t (xg_aload (va := (2, 72)) rfl rfl) ?_
                    refine xg_t (xg_iload (va := (0, xx)) rfl rfl) ?_
                    refine xg_t (xg_iload (va := (0, at1)) rfl rfl) ?_
                    refine xg_k (xg_iadd (u := xx) (v := at1) (z := (xx + at1) % 4294967296) xnm0 xnm0 rfl) (Nat.mod_lt _ (by decide)) (fun z67 hz68 => ?_)
                    refine xg_t (xg_iload (va := (0, yy)) rfl rfl) ?_
                    refine xg_t (xg_iload (va := (0, wi)) rfl rfl) ?_
                    refine xg_t (xg_iload (va := (0, at1)) rfl rfl) ?_
                    refine xg_k (xg_isub (u := wi) (v := at1) (z := (wi + (4294967296 - at1)) % 4294967296) xnm0 xnm0 rfl) (Nat.mod_lt _ (by decide)) (fun z69 hz70 => ?_)
                    refine xg_t (xg_iload (va := (0, hi)) rfl rfl) ?_
                    refine xg_t (xg_iload (va := (0, dp)) rfl rfl) ?_
                    refine xg_t (xg_const) ?_
                    refine xg_t (xg_iadd (u := dp) (v := 1) (z := dp + 1) xnm0 xnm0 (by omega)) ?_
                    refine xg_cSv mX7_planPiece (vs := [(2, 72), (0, z67), (0, yy), (0, z69), (0, hi), (0, dp + 1)]) (rest := []) (cn1 := 0) (sl1 := 0) rfl (ih (hI65) (by omega) (by omega) (by omega) (by omega) (by omega)) rfl rfl rfl rfl rfl rfl rfl (fun w71 hq72 => ?_)
                    obtain ⟨hI73, hF74⟩ := hq72
                    exact xg_e ⟨w71, ⟨rfl, rfl⟩, hI73, ((((hF37.tr (hF47.up (by decide))).tr (hF57.up (by decide))).tr (hF66.up (by decide))).tr (hF74.up (by decide)))⟩
                  · refine xg_t (xg_icT (u := z60) (v := n10) rfl xnm0 xnm0 (xj_neT hc62)) ?_
                    refine xg_t (xg_blq rfl) ?_
                    refine xg_t (xg_iinc (u := at1) (z := at1 + 1) (l1 := [(0, (2, 72)), (1, (0, xx)), (2, (0, yy)), (3, (0, wi)), (4, (0, hi)), (5, (0, dp)), (6, (0, n10))]) rfl rfl (by omega) rfl) ?_
                    refine xg_t (xg_goto) ?_
                    refine xg_t (xg_drop (l1 := [(0, (2, 72)), (1, (0, xx)), (2, (0, yy)), (3, (0, wi)), (4, (0, hi)), (5, (0, dp)), (6, (0, n10)), (7, (0, at1 + 1))]) (List.forall_mem_cons.mpr ⟨List.mem_cons_of_mem _ (List.mem_cons_self), List.forall_mem_cons.mpr ⟨List.mem_cons_of_mem _ (List.mem_cons_of_mem _ (List.mem_cons_self)), List.forall_mem_cons.mpr ⟨List.mem_cons_of_mem _ (List.mem_cons_of_mem _ (List.mem_cons_of_mem _ (List.mem_cons_self))), List.forall_mem_cons.mpr ⟨List.mem_cons_of_mem _ (List.mem_cons_of_mem _ (List.mem_cons_of_mem _ (List.mem_cons_of_mem _ (List.mem_cons_self)))), List.forall_mem_cons.mpr ⟨List.mem_cons_of_mem _ (List.mem_cons_of_mem _ (List.mem_cons_of_mem _ (List.mem_cons_of_mem _ (List.mem_cons_of_mem _ (List.mem_cons_self))))), List.forall_mem_cons.mpr ⟨List.mem_cons_of_mem _ (List.mem_cons_of_mem _ (List.mem_cons_of_mem _ (List.mem_cons_of_mem _ (List.mem_cons_of_mem _ (List.mem_cons_of_mem _ (List.mem_cons_self)))))), List.forall_mem_cons.mpr ⟨List.mem_cons_of_mem _ (List.mem_cons_of_mem _ (List.mem_cons_of_mem _ (List.mem_cons_of_mem _ (List.mem_cons_of_mem _ (List.mem_cons_of_mem _ (List.mem_cons_of_mem _ (List.mem_cons_self))))))), List.forall_mem_cons.mpr ⟨List.mem_cons_self, fun _ h => absurd h List.not_mem_nil⟩⟩⟩⟩⟩⟩⟩⟩)) ?_
                    exact ih33 (at1 + 1) w54 (by omega) (by omega) (hI56) (((hF37.tr (hF47.up (by decide))).tr (hF57.up (by decide)))) (by omega)
                · have hc41u := hc41
                  unfold xbs at hc41u
                  have hn75 : at1 ≤ 2147483647 := by omega
                  refine xg_t (xg_icT (u := at1) (v := wi) rfl xnm0 xnm0 (xjs_geT hc41)) ?_
                  refine xg_t (xg_blq rfl) ?_
                  refine xg_t (xg_const) ?_
                  refine xg_t (xg_istore (l1 := [(0, (2, 72)), (1, (0, xx)), (2, (0, yy)), (3, (0, wi)), (4, (0, hi)), (5, (0, dp)), (6, (0, n10))]) rfl rfl rfl) ?_
                  refine xg_t (xg_drop (l1 := [(0, (2, 72)), (1, (0, xx)), (2, (0, yy)), (3, (0, wi)), (4, (0, hi)), (5, (0, dp)), (6, (0, n10)), (7, (0, 1))]) (List.forall_mem_cons.mpr ⟨List.mem_cons_of_mem _ (List.mem_cons_self), List.forall_mem_cons.mpr ⟨List.mem_cons_of_mem _ (List.mem_cons_of_mem _ (List.mem_cons_self)), List.forall_mem_cons.mpr ⟨List.mem_cons_of_mem _ (List.mem_cons_of_mem _ (List.mem_cons_of_mem _ (List.mem_cons_self))), List.forall_mem_cons.mpr ⟨List.mem_cons_of_mem _ (List.mem_cons_of_mem _ (List.mem_cons_of_mem _ (List.mem_cons_of_mem _ (List.mem_cons_self)))), List.forall_mem_cons.mpr ⟨List.mem_cons_of_mem _ (List.mem_cons_of_mem _ (List.mem_cons_of_mem _ (List.mem_cons_of_mem _ (List.mem_cons_of_mem _ (List.mem_cons_self))))), List.forall_mem_cons.mpr ⟨List.mem_cons_of_mem _ (List.mem_cons_of_mem _ (List.mem_cons_of_mem _ (List.mem_cons_of_mem _ (List.mem_cons_of_mem _ (List.mem_cons_of_mem _ (List.mem_cons_self)))))), List.forall_mem_cons.mpr ⟨List.mem_cons_of_mem _ (List.mem_cons_of_mem _ (List.mem_cons_of_mem _ (List.mem_cons_of_mem _ (List.mem_cons_of_mem _ (List.mem_cons_of_mem _ (List.mem_cons_of_mem _ (List.mem_cons_self))))))), List.forall_mem_cons.mpr ⟨List.mem_cons_self, fun _ h => absurd h List.not_mem_nil⟩⟩⟩⟩⟩⟩⟩⟩)) ?_
                  have key76 : ∀ (m78 : Nat) (at2 : Nat) (w79 : List (List xE)), hi - at2 < m78 → at2 ≤ 2147483647 → xInv w79 → xFr [74, 75] w w79 → 1 ≤ at2 → xTo (d + (k + 1) + 3) mX7_planPiece (143, [], [(0, (2, 72)), (1, (0, xx)), (2, (0, yy)), (3, (0, wi)), (4, (0, hi)), (5, (0, dp)), (6, (0, n10)), (7, (0, at2))], [], (w79, bd, fc, 0, 0, rr)) (fun φ => ∃ w', xEnd 0 [] (w', bd, fc, 0, 0, rr) φ ∧ xInv w' ∧ xFr [74, 75] w w') := by
                    intro m78
                    induction m78 with
                    | zero => intro at2 w79 hz; exact absurd hz (Nat.not_lt_zero _)
                    | succ m78 ih77 =>
                      intro at2 w79 hm84 hn82 hI80 hF81 he83
                      refine xg_t (xg_blq rfl) ?_
                      refine xg_t (xg_iload (va := (0, at2)) rfl rfl) ?_
                      refine xg_t (xg_iload (va := (0, hi)) rfl rfl) ?_
                      by_cases hc85 : xbs at2 < xbs hi
                      · have hc85u := hc85
                        unfold xbs at hc85u
                        have hn86 : at2 ≤ 2147483646 := by omega
                        have hn87 : hi ≤ 2147483647 := by omega
                        refine xg_t (xg_icF (u := at2) (v := hi) rfl xnm0 xnm0 (xjs_geF hc85)) ?_
                        refine xg_t (xg_aload (va := (2, 72)) rfl rfl) ?_
                        refine xg_t (xg_iload (va := (0, xx)) rfl rfl) ?_
                        refine xg_t (xg_iload (va := (0, yy)) rfl rfl) ?_
                        refine xg_t (xg_iload (va := (0, wi)) rfl rfl) ?_
                        refine xg_t (xg_iload (va := (0, at2)) rfl rfl) ?_
                        refine xg_cVi mX7_worthOf (vs := [(0, xx), (0, yy), (0, wi), (0, at2)]) (rest := []) (cn1 := 0) (sl1 := 0) rfl (shWorthOf (hI80) (by omega) (by omega) (by omega) (by omega)) rfl (hF81.get (by decide) h72_5) rfl rfl rfl rfl rfl rfl (fun n92 w88 hq89 => ?_)
                        obtain ⟨hn93, hI90, hF91⟩ := hq89
                        refine xg_t (xg_aload (va := (2, 72)) rfl rfl) ?_
                        refine xg_t (xg_iload (va := (0, xx)) rfl rfl) ?_
                        refine xg_t (xg_iload (va := (0, yy)) rfl rfl) ?_
                        refine xg_t (xg_iload (va := (0, at2)) rfl rfl) ?_
                        refine xg_k (xg_iadd (u := yy) (v := at2) (z := (yy + at2) % 4294967296) xnm0 xnm0 rfl) (Nat.mod_lt _ (by decide)) (fun z94 hz95 => ?_)
                        refine xg_t (xg_iload (va := (0, wi)) rfl rfl) ?_
                        refine xg_t (xg_iload (va := (0, hi)) rfl rfl) ?_
                        refine xg_t (xg_iload (va := (0, at2)) rfl rfl) ?_
                        refine xg_k (xg_isub (u := hi) (v := at2) (z := (hi + (4294967296 - at2)) % 4294967296) xnm0 xnm0 rfl) (Nat.mod_lt _ (by decide)) (fun z96 hz97 => ?_)
                        refine xg_cVi mX7_worthOf (vs := [(0, xx), (0, z94), (0, wi), (0, z96)]) (rest := [(0, n92)]) (cn1 := 0) (sl1 := 0) rfl (shWorthOf (hI90) (by omega) (by omega) (by omega) (by omega)) rfl (hF91.get (by decide) (hF81.get (by decide) h72_5)) rfl rfl rfl rfl rfl rfl (fun n102 w98 hq99 => ?_)
                        obtain ⟨hn103, hI100, hF101⟩ := hq99
                        refine xg_k (xg_iadd (u := n92) (v := n102) (z := (n92 + n102) % 4294967296) xnm0 xnm0 rfl) (Nat.mod_lt _ (by decide)) (fun z104 hz105 => ?_)
                        refine xg_t (xg_iload (va := (0, n10)) rfl rfl) ?_
                        by_cases hc106 : z104 = n10
                        · refine xg_t (xg_icF (u := z104) (v := n10) rfl xnm0 xnm0 (xj_neF hc106)) ?_
                          refine xg_t (xg_aload (va := (2, 72)) rfl rfl) ?_
                          refine xg_t (xg_iload (va := (0, xx)) rfl rfl) ?_
                          refine xg_t (xg_iload (va := (0, yy)) rfl rfl) ?_
                          refine xg_t (xg_iload (va := (0, wi)) rfl rfl) ?_
                          refine xg_t (xg_iload (va := (0, at2)) rfl rfl) ?_
                          refine xg_t (xg_iload (va := (0, dp)) rfl rfl) ?_
                          refine xg_t (xg_const) ?_
                          refine xg_t (xg_iadd (u := dp) (v := 1) (z := dp + 1) xnm0 xnm0 (by omega)) ?_
                          refine xg_cSv mX7_planPiece (vs := [(2, 72), (0, xx), (0, yy), (0, wi), (0, at2), (0, dp + 1)]) (rest := []) (cn1 := 0) (sl1 := 0) rfl (ih (hI100) (by omega) (by omega) (by omega) (by omega) (by omega)) rfl rfl rfl rfl rfl rfl rfl (fun w107 hq108 => ?_)
                          obtain ⟨hI109, hF110⟩ := hq108
                          refine xg_t (xg_aload (va := (2, 72)) rfl rfl) ?_
                          refine xg_t (xg_iload (va := (0, xx)) rfl rfl) ?_
                          refine xg_t (xg_iload (va := (0, yy)) rfl rfl) ?_
                          refine xg_t (xg_iload (va := (0, at2)) rfl rfl) ?_
                          refine xg_k (xg_iadd (u := yy) (v := at2) (z := (yy + at2) % 4294967296) xnm0 xnm0 rfl) (Nat.mod_lt _ (by decide)) (fun z111 hz112 => ?_)
                          refine xg_t (xg_iload (va := (0, wi)) rfl rfl) ?_
                          refine xg_t (xg_iload (va := (0, hi)) rfl rfl) ?_
                          refine xg_t (xg_iload (va := (0, at2)) rfl rfl) ?_
                          refine xg_k (xg_isub (u := hi) (v := at2) (z := (hi + (4294967296 - at2)) % 4294967296) xnm0 xnm0 rfl) (Nat.mod_lt _ (by decide)) (fun z113 hz114 => ?_)
                          refine xg_t (xg_iload (va := (0, dp)) rfl rfl) ?_
                          refine xg_t (xg_const) ?_
                          refine xg_t (xg_iadd (u := dp) (v := 1) (z := dp + 1) xnm0 xnm0 (by omega)) ?_
                          refine xg_cSv mX7_planPiece (vs := [(2, 72), (0, xx), (0, z111), (0, wi), (0, z113), (0, dp + 1)]) (rest := []) (cn1 := 0) (sl1 := 0) rfl (ih (hI109) (by omega) (by omega) (by omega) (by omega) (by omega)) rfl rfl rfl rfl rfl rfl rfl (fun w115 hq116 => ?_)
                          obtain ⟨hI117, hF118⟩ := hq116
                          exact xg_e ⟨w115, ⟨rfl, rfl⟩, hI117, ((((hF81.tr (hF91.up (by decide))).tr (hF101.up (by decide))).tr (hF110.up (by decide))).tr (hF118.up (by decide)))⟩
                        · refine xg_t (xg_icT (u := z104) (v := n10) rfl xnm0 xnm0 (xj_neT hc106)) ?_
                          refine xg_t (xg_blq rfl) ?_
                          refine xg_t (xg_iinc (u := at2) (z := at2 + 1) (l1 := [(0, (2, 72)), (1, (0, xx)), (2, (0, yy)), (3, (0, wi)), (4, (0, hi)), (5, (0, dp)), (6, (0, n10))]) rfl rfl (by omega) rfl) ?_
                          refine xg_t (xg_goto) ?_
                          refine xg_t (xg_drop (l1 := [(0, (2, 72)), (1, (0, xx)), (2, (0, yy)), (3, (0, wi)), (4, (0, hi)), (5, (0, dp)), (6, (0, n10)), (7, (0, at2 + 1))]) (List.forall_mem_cons.mpr ⟨List.mem_cons_of_mem _ (List.mem_cons_self), List.forall_mem_cons.mpr ⟨List.mem_cons_of_mem _ (List.mem_cons_of_mem _ (List.mem_cons_self)), List.forall_mem_cons.mpr ⟨List.mem_cons_of_mem _ (List.mem_cons_of_mem _ (List.mem_cons_of_mem _ (List.mem_cons_self))), List.forall_mem_cons.mpr ⟨List.mem_cons_of_mem _ (List.mem_cons_of_mem _ (List.mem_cons_of_mem _ (List.mem_cons_of_mem _ (List.mem_cons_self)))), List.forall_mem_cons.mpr ⟨List.mem_cons_of_mem _ (List.mem_cons_of_mem _ (List.mem_cons_of_mem _ (List.mem_cons_of_mem _ (List.mem_cons_of_mem _ (List.mem_cons_self))))), List.forall_mem_cons.mpr ⟨List.mem_cons_of_mem _ (List.mem_cons_of_mem _ (List.mem_cons_of_mem _ (List.mem_cons_of_mem _ (List.mem_cons_of_mem _ (List.mem_cons_of_mem _ (List.mem_cons_self)))))), List.forall_mem_cons.mpr ⟨List.mem_cons_of_mem _ (List.mem_cons_of_mem _ (List.mem_cons_of_mem _ (List.mem_cons_of_mem _ (List.mem_cons_of_mem _ (List.mem_cons_of_mem _ (List.mem_cons_of_mem _ (List.mem_cons_self))))))), List.forall_mem_cons.mpr ⟨List.mem_cons_self, fun _ h => absurd h List.not_mem_nil⟩⟩⟩⟩⟩⟩⟩⟩)) ?_
                          exact ih77 (at2 + 1) w98 (by omega) (by omega) (hI100) (((hF81.tr (hF91.up (by decide))).tr (hF101.up (by decide)))) (by omega)
                      · have hc85u := hc85
                        unfold xbs at hc85u
                        have hn119 : at2 ≤ 2147483647 := by omega
                        refine xg_t (xg_icT (u := at2) (v := hi) rfl xnm0 xnm0 (xjs_geT hc85)) ?_
                        refine xg_t (xg_blq rfl) ?_
                        exact xg_e ⟨w79, ⟨rfl, rfl⟩, hI80, hF81⟩
                  exact key76 _ 1 w35 (Nat.lt_succ_self _) (by omega) (hI36) (hF37) (by omega)
            exact key32 _ 1 w21 (Nat.lt_succ_self _) (by omega) (hI23) ((((hF9.up (by decide)).tr (hF17.up (by decide))).tr (hF24.up (by decide)))) (by omega)
        · refine xg_t (xg_icT (u := n18) (v := n10) rfl xnm0 xnm0 (xj_neT hc20)) ?_
          refine xg_t (xg_blq rfl) ?_
          refine xg_t (xg_const) ?_
          refine xg_t (xg_istore (l1 := [(6, (0, n10)), (0, (2, 72)), (1, (0, xx)), (2, (0, yy)), (3, (0, wi)), (4, (0, hi)), (5, (0, dp))]) rfl rfl rfl) ?_
          refine xg_t (xg_drop (l1 := [(0, (2, 72)), (1, (0, xx)), (2, (0, yy)), (3, (0, wi)), (4, (0, hi)), (5, (0, dp)), (6, (0, n10)), (7, (0, 1))]) (List.forall_mem_cons.mpr ⟨List.mem_cons_of_mem _ (List.mem_cons_of_mem _ (List.mem_cons_self)), List.forall_mem_cons.mpr ⟨List.mem_cons_of_mem _ (List.mem_cons_of_mem _ (List.mem_cons_of_mem _ (List.mem_cons_self))), List.forall_mem_cons.mpr ⟨List.mem_cons_of_mem _ (List.mem_cons_of_mem _ (List.mem_cons_of_mem _ (List.mem_cons_of_mem _ (List.mem_cons_self)))), List.forall_mem_cons.mpr ⟨List.mem_cons_of_mem _ (List.mem_cons_of_mem _ (List.mem_cons_of_mem _ (List.mem_cons_of_mem _ (List.mem_cons_of_mem _ (List.mem_cons_self))))), List.forall_mem_cons.mpr ⟨List.mem_cons_of_mem _ (List.mem_cons_of_mem _ (List.mem_cons_of_mem _ (List.mem_cons_of_mem _ (List.mem_cons_of_mem _ (List.mem_cons_of_mem _ (List.mem_cons_self)))))), List.forall_mem_cons.mpr ⟨List.mem_cons_of_mem _ (List.mem_cons_of_mem _ (List.mem_cons_of_mem _ (List.mem_cons_of_mem _ (List.mem_cons_of_mem _ (List.mem_cons_of_mem _ (List.mem_cons_of_mem _ (List.mem_cons_self))))))), List.forall_mem_cons.mpr ⟨List.mem_cons_of_mem _ (List.mem_cons_self), List.forall_mem_cons.mpr ⟨List.mem_cons_self, fun _ h => absurd h List.not_mem_nil⟩⟩⟩⟩⟩⟩⟩⟩)) ?_
          have key120 : ∀ (m122 : Nat) (at1 : Nat) (w123 : List (List xE)), wi - at1 < m122 → at1 ≤ 2147483647 → xInv w123 → xFr [74, 75] w w123 → 1 ≤ at1 → xTo (d + (k + 1) + 3) mX7_planPiece (63, [], [(0, (2, 72)), (1, (0, xx)), (2, (0, yy)), (3, (0, wi)), (4, (0, hi)), (5, (0, dp)), (6, (0, n10)), (7, (0, at1))], [], (w123, bd, fc, 0, 0, rr)) (fun φ => ∃ w', xEnd 0 [] (w', bd, fc, 0, 0, rr) φ ∧ xInv w' ∧ xFr [74, 75] w w') := by
            intro m122
            induction m122 with
            | zero => intro at1 w123 hz; exact absurd hz (Nat.not_lt_zero _)
            | succ m122 ih121 =>
              intro at1 w123 hm128 hn126 hI124 hF125 he127
              refine xg_t (xg_blq rfl) ?_
              refine xg_t (xg_iload (va := (0, at1)) rfl rfl) ?_
              refine xg_t (xg_iload (va := (0, wi)) rfl rfl) ?_
              by_cases hc129 : xbs at1 < xbs wi
              · have hc129u := hc129
                unfold xbs at hc129u
                have hn130 : at1 ≤ 2147483646 := by omega
                have hn131 : wi ≤ 2147483647 := by omega
                refine xg_t (xg_icF (u := at1) (v := wi) rfl xnm0 xnm0 (xjs_geF hc129)) ?_
                refine xg_t (xg_aload (va := (2, 72)) rfl rfl) ?_
                refine xg_t (xg_iload (va := (0, xx)) rfl rfl) ?_
                refine xg_t (xg_iload (va := (0, yy)) rfl rfl) ?_
                refine xg_t (xg_iload (va := (0, at1)) rfl rfl) ?_
                refine xg_t (xg_iload (va := (0, hi)) rfl rfl) ?_
                refine xg_cVi mX7_worthOf (vs := [(0, xx), (0, yy), (0, at1), (0, hi)]) (rest := []) (cn1 := 0) (sl1 := 0) rfl (shWorthOf (hI124) (by omega) (by omega) (by omega) (by omega)) rfl (hF125.get (by decide) h72_5) rfl rfl rfl rfl rfl rfl (fun n136 w132 hq133 => ?_)
                obtain ⟨hn137, hI134, hF135⟩ := hq133
                refine xg_t (xg_aload (va := (2, 72)) rfl rfl) ?_
                refine xg_t (xg_iload (va := (0, xx)) rfl rfl) ?_
                refine xg_t (xg_iload (va := (0, at1)) rfl rfl) ?_
                refine xg_k (xg_iadd (u := xx) (v := at1) (z := (xx + at1) % 4294967296) xnm0 xnm0 rfl) (Nat.mod_lt _ (by decide)) (fun z138 hz139 => ?_)
                refine xg_t (xg_iload (va := (0, yy)) rfl rfl) ?_
                refine xg_t (xg_iload (va := (0, wi)) rfl rfl) ?_
                refine xg_t (xg_iload (va := (0, at1)) rfl rfl) ?_
                refine xg_k (xg_isub (u := wi) (v := at1) (z := (wi + (4294967296 - at1)) % 4294967296) xnm0 xnm0 rfl) (Nat.mod_lt _ (by decide)) (fun z140 hz141 => ?_)
                refine xg_t (xg_iload (va := (0, hi)) rfl rfl) ?_
                refine xg_cVi mX7_worthOf (vs := [(0, z138), (0, yy), (0, z140), (0, hi)]) (rest := [(0, n136)]) (cn1 := 0) (sl1 := 0) rfl (shWorthOf (hI134) (by omega) (by omega) (by omega) (by omega)) rfl (hF135.get (by decide) (hF125.get (by decide) h72_5)) rfl rfl rfl rfl rfl rfl (fun n146 w142 hq143 => ?_)
                obtain ⟨hn147, hI144, hF145⟩ := hq143
                refine xg_k (xg_iadd (u := n136) (v := n146) (z := (n136 + n146) % 4294967296) xnm0 xnm0 rfl) (Nat.mod_lt _ (by decide)) (fun z148 hz149 => ?_)
                refine xg_t (xg_iload (va := (0, n10)) rfl rfl) ?_
                by_cases hc150 : z148 = n10
                · refine xg_t (xg_icF (u := z148) (v := n10) rfl xnm0 xnm0 (xj_neF hc150)) ?_
                  refine xg_t (xg_aload (va := (2, 72)) rfl rfl) ?_
                  refine xg_t (xg_iload (va := (0, xx)) rfl rfl) ?_
                  refine xg_t (xg_iload (va := (0, yy)) rfl rfl) ?_
                  refine xg_t (xg_iload (va := (0, at1)) rfl rfl) ?_
                  refine xg_t (xg_iload (va := (0, hi)) rfl rfl) ?_
                  refine xg_t (xg_iload (va := (0, dp)) rfl rfl) ?_
                  refine xg_t (xg_const) ?_
                  refine xg_t (xg_iadd (u := dp) (v := 1) (z := dp + 1) xnm0 xnm0 (by omega)) ?_
                  refine xg_cSv mX7_planPiece (vs := [(2, 72), (0, xx), (0, yy), (0, at1), (0, hi), (0, dp + 1)]) (rest := []) (cn1 := 0) (sl1 := 0) rfl (ih (hI144) (by omega) (by omega) (by omega) (by omega) (by omega)) rfl rfl rfl rfl rfl rfl rfl (fun w151 hq152 => ?_)
                  obtain ⟨hI153, hF154⟩ := hq152
                  refine xg_t (xg_aload (va := (2, 72)) rfl rfl) ?_
                  refine xg_t (xg_iload (va := (0, xx)) rfl rfl) ?_
                  refine xg_t (xg_iload (va := (0, at1)) rfl rfl) ?_
                  refine xg_k (xg_iadd (u := xx) (v := at1) (z := (xx + at1) % 4294967296) xnm0 xnm0 rfl) (Nat.mod_lt _ (by decide)) (fun z155 hz156 => ?_)
                  refine xg_t (xg_iload (va := (0, yy)) rfl rfl) ?_
                  refine xg_t (xg_iload (va := (0, wi)) rfl rfl) ?_
                  refine xg_t (xg_iload (va := (0, at1)) rfl rfl) ?_
                  refine xg_k (xg_isub (u := wi) (v := at1) (z := (wi + (4294967296 - at1)) % 4294967296) xnm0 xnm0 rfl) (Nat.mod_lt _ (by decide)) (fun z157 hz158 => ?_)
                  refine xg_t (xg_iload (va := (0, hi)) rfl rfl) ?_
                  refine xg_t (xg_iload (va := (0, dp)) rfl rfl) ?_
                  refine xg_t (xg_const) ?_
                  refine xg_t (xg_iadd (u := dp) (v := 1) (z := dp + 1) xnm0 xnm0 (by omega)) ?_
                  refine xg_cSv mX7_planPiece (vs := [(2, 72), (0, z155), (0, yy), (0, z157), (0, hi), (0, dp + 1)]) (rest := []) (cn1 := 0) (sl1 := 0) rfl (ih (hI153) (by omega) (by omega) (by omega) (by omega) (by omega)) rfl rfl rfl rfl rfl rfl rfl (fun w159 hq160 => ?_)
                  obtain ⟨hI161, hF162⟩ := hq160
                  exact xg_e ⟨w159, ⟨rfl, rfl⟩, hI161, ((((hF125.tr (hF135.up (by decide))).tr (hF145.up (by decide))).tr (hF154.up (by decide))).tr (hF162.up (by decide)))⟩
                · refine xg_t (xg_icT (u := z148) (v := n10) rfl xnm0 xnm0 (xj_neT hc150)) ?_
                  refine xg_t (xg_blq rfl) ?_
                  refine xg_t (xg_iinc (u := at1) (z := at1 + 1) (l1 := [(0, (2, 72)), (1, (0, xx)), (2, (0, yy)), (3, (0, wi)), (4, (0, hi)), (5, (0, dp)), (6, (0, n10))]) rfl rfl (by omega) rfl) ?_
                  refine xg_t (xg_goto) ?_
                  refine xg_t (xg_drop (l1 := [(0, (2, 72)), (1, (0, xx)), (2, (0, yy)), (3, (0, wi)), (4, (0, hi)), (5, (0, dp)), (6, (0, n10)), (7, (0, at1 + 1))]) (List.forall_mem_cons.mpr ⟨List.mem_cons_of_mem _ (List.mem_cons_self), List.forall_mem_cons.mpr ⟨List.mem_cons_of_mem _ (List.mem_cons_of_mem _ (List.mem_cons_self)), List.forall_mem_cons.mpr ⟨List.mem_cons_of_mem _ (List.mem_cons_of_mem _ (List.mem_cons_of_mem _ (List.mem_cons_self))), List.forall_mem_cons.mpr ⟨List.mem_cons_of_mem _ (List.mem_cons_of_mem _ (List.mem_cons_of_mem _ (List.mem_cons_of_mem _ (List.mem_cons_self)))), List.forall_mem_cons.mpr ⟨List.mem_cons_of_mem _ (List.mem_cons_of_mem _ (List.mem_cons_of_mem _ (List.mem_cons_of_mem _ (List.mem_cons_of_mem _ (List.mem_cons_self))))), List.forall_mem_cons.mpr ⟨List.mem_cons_of_mem _ (List.mem_cons_of_mem _ (List.mem_cons_of_mem _ (List.mem_cons_of_mem _ (List.mem_cons_of_mem _ (List.mem_cons_of_mem _ (List.mem_cons_self)))))), List.forall_mem_cons.mpr ⟨List.mem_cons_of_mem _ (List.mem_cons_of_mem _ (List.mem_cons_of_mem _ (List.mem_cons_of_mem _ (List.mem_cons_of_mem _ (List.mem_cons_of_mem _ (List.mem_cons_of_mem _ (List.mem_cons_self))))))), List.forall_mem_cons.mpr ⟨List.mem_cons_self, fun _ h => absurd h List.not_mem_nil⟩⟩⟩⟩⟩⟩⟩⟩)) ?_
                  exact ih121 (at1 + 1) w142 (by omega) (by omega) (hI144) (((hF125.tr (hF135.up (by decide))).tr (hF145.up (by decide)))) (by omega)
              · have hc129u := hc129
                unfold xbs at hc129u
                have hn163 : at1 ≤ 2147483647 := by omega
                refine xg_t (xg_icT (u := at1) (v := wi) rfl xnm0 xnm0 (xjs_geT hc129)) ?_
                refine xg_t (xg_blq rfl) ?_
                refine xg_t (xg_const) ?_
                refine xg_t (xg_istore (l1 := [(0, (2, 72)), (1, (0, xx)), (2, (0, yy)), (3, (0, wi)), (4, (0, hi)), (5, (0, dp)), (6, (0, n10))]) rfl rfl rfl) ?_
                refine xg_t (xg_drop (l1 := [(0, (2, 72)), (1, (0, xx)), (2, (0, yy)), (3, (0, wi)), (4, (0, hi)), (5, (0, dp)), (6, (0, n10)), (7, (0, 1))]) (List.forall_mem_cons.mpr ⟨List.mem_cons_of_mem _ (List.mem_cons_self), List.forall_mem_cons.mpr ⟨List.mem_cons_of_mem _ (List.mem_cons_of_mem _ (List.mem_cons_self)), List.forall_mem_cons.mpr ⟨List.mem_cons_of_mem _ (List.mem_cons_of_mem _ (List.mem_cons_of_mem _ (List.mem_cons_self))), List.forall_mem_cons.mpr ⟨List.mem_cons_of_mem _ (List.mem_cons_of_mem _ (List.mem_cons_of_mem _ (List.mem_cons_of_mem _ (List.mem_cons_self)))), List.forall_mem_cons.mpr ⟨List.mem_cons_of_mem _ (List.mem_cons_of_mem _ (List.mem_cons_of_mem _ (List.mem_cons_of_mem _ (List.mem_cons_of_mem _ (List.mem_cons_self))))), List.forall_mem_cons.mpr ⟨List.mem_cons_of_mem _ (List.mem_cons_of_mem _ (List.mem_cons_of_mem _ (List.mem_cons_of_mem _ (List.mem_cons_of_mem _ (List.mem_cons_of_mem _ (List.mem_cons_self)))))), List.forall_mem_cons.mpr ⟨List.mem_cons_of_mem _ (List.mem_cons_of_mem _ (List.mem_cons_of_mem _ (List.mem_cons_of_mem _ (List.mem_cons_of_mem _ (List.mem_cons_of_mem _ (List.mem_cons_of_mem _ (List.mem_cons_self))))))), List.forall_mem_cons.mpr ⟨List.mem_cons_self, fun _ h => absurd h List.not_mem_nil⟩⟩⟩⟩⟩⟩⟩⟩)) ?_
                have key164 : ∀ (m166 : Nat) (at2 : Nat) (w167 : List (List xE)), hi - at2 < m166 → at2 ≤ 2147483647 → xInv w167 → xFr [74, 75] w w167 → 1 ≤ at2 → xTo (d + (k + 1) + 3) mX7_planPiece (143, [], [(0, (2, 72)), (1, (0, xx)), (2, (0, yy)), (3, (0, wi)), (4, (0, hi)), (5, (0, dp)), (6, (0, n10)), (7, (0, at2))], [], (w167, bd, fc, 0, 0, rr)) (fun φ => ∃ w', xEnd 0 [] (w', bd, fc, 0, 0, rr) φ ∧ xInv w' ∧ xFr [74, 75] w w') := by
                  intro m166
                  induction m166 with
                  | zero => intro at2 w167 hz; exact absurd hz (Nat.not_lt_zero _)
                  | succ m166 ih165 =>
                    intro at2 w167 hm172 hn170 hI168 hF169 he171
                    refine xg_t (xg_blq rfl) ?_
                    refine xg_t (xg_iload (va := (0, at2)) rfl rfl) ?_
                    refine xg_t (xg_iload (va := (0, hi)) rfl rfl) ?_
                    by_cases hc173 : xbs at2 < xbs hi
                    · have hc173u := hc173
                      unfold xbs at hc173u
                      have hn174 : at2 ≤ 2147483646 := by omega
                      have hn175 : hi ≤ 2147483647 := by omega
                      refine xg_t (xg_icF (u := at2) (v := hi) rfl xnm0 xnm0 (xjs_geF hc173)) ?_
                      refine xg_t (xg_aload (va := (2, 72)) rfl rfl) ?_
                      refine xg_t (xg_iload (va := (0, xx)) rfl rfl) ?_
                      refine xg_t (xg_iload (va := (0, yy)) rfl rfl) ?_
                      refine xg_t (xg_iload (va := (0, wi)) rfl rfl) ?_
                      refine xg_t (xg_iload (va := (0, at2)) rfl rfl) ?_
                      refine xg_cVi mX7_worthOf (vs := [(0, xx), (0, yy), (0, wi), (0, at2)]) (rest := []) (cn1 := 0) (sl1 := 0) rfl (shWorthOf (hI168) (by omega) (by omega) (by omega) (by omega)) rfl (hF169.get (by decide) h72_5) rfl rfl rfl rfl rfl rfl (fun n180 w176 hq177 => ?_)
                      obtain ⟨hn181, hI178, hF179⟩ := hq177
                      refine xg_t (xg_aload (va := (2, 72)) rfl rfl) ?_
                      refine xg_t (xg_iload (va := (0, xx)) rfl rfl) ?_
                      refine xg_t (xg_iload (va := (0, yy)) rfl rfl) ?_
                      refine xg_t (xg_iload (va := (0, at2)) rfl rfl) ?_
                      refine xg_k (xg_iadd (u := yy) (v := at2) (z := (yy + at2) % 4294967296) xnm0 xnm0 rfl) (Nat.mod_lt _ (by decide)) (fun z182 hz183 => ?_)
                      refine xg_t (xg_iload (va := (0, wi)) rfl rfl) ?_
                      refine xg_t (xg_iload (va := (0, hi)) rfl rfl) ?_
                      refine xg_t (xg_iload (va := (0, at2)) rfl rfl) ?_
                      refine xg_k (xg_isub (u := hi) (v := at2) (z := (hi + (4294967296 - at2)) % 4294967296) xnm0 xnm0 rfl) (Nat.mod_lt _ (by decide)) (fun z184 hz185 => ?_)
                      refine xg_cVi mX7_worthOf (vs := [(0, xx), (0, z182), (0, wi), (0, z184)]) (rest := [(0, n180)]) (cn1 := 0) (sl1 := 0) rfl (shWorthOf (hI178) (by omega) (by omega) (by omega) (by omega)) rfl (hF179.get (by decide) (hF169.get (by decide) h72_5)) rfl rfl rfl rfl rfl rfl (fun n190 w186 hq187 => ?_)
                      obtain ⟨hn191, hI188, hF189⟩ := hq187
                      refine xg_k (xg_iadd (u := n180) (v := n190) (z := (n180 + n190) % 4294967296) xnm0 xnm0 rfl) (Nat.mod_lt _ (by decide)) (fun z192 hz193 => ?_)
                      refine xg_t (xg_iload (va := (0, n10)) rfl rfl) ?_
                      by_cases hc194 : z192 = n10
                      · refine xg_t (xg_icF (u := z192) (v := n10) rfl xnm0 xnm0 (xj_neF hc194)) ?_
                        refine xg_t (xg_aload (va := (2, 72)) rfl rfl) ?_
                        refine xg_t (xg_iload (va := (0, xx)) rfl rfl) ?_
                        refine xg_t (xg_iload (va := (0, yy)) rfl rfl) ?_
                        refine xg_t (xg_iload (va := (0, wi)) rfl rfl) ?_
                        refine xg_t (xg_iload (va := (0, at2)) rfl rfl) ?_
                        refine xg_t (xg_iload (va := (0, dp)) rfl rfl) ?_
                        refine xg_t (xg_const) ?_
                        refine xg_t (xg_iadd (u := dp) (v := 1) (z := dp + 1) xnm0 xnm0 (by omega)) ?_
                        refine xg_cSv mX7_planPiece (vs := [(2, 72), (0, xx), (0, yy), (0, wi), (0, at2), (0, dp + 1)]) (rest := []) (cn1 := 0) (sl1 := 0) rfl (ih (hI188) (by omega) (by omega) (by omega) (by omega) (by omega)) rfl rfl rfl rfl rfl rfl rfl (fun w195 hq196 => ?_)
                        obtain ⟨hI197, hF198⟩ := hq196
                        refine xg_t (xg_aload (va := (2, 72)) rfl rfl) ?_
                        refine xg_t (xg_iload (va := (0, xx)) rfl rfl) ?_
                        refine xg_t (xg_iload (va := (0, yy)) rfl rfl) ?_
                        refine xg_t (xg_iload (va := (0, at2)) rfl rfl) ?_
                        refine xg_k (xg_iadd (u := yy) (v := at2) (z := (yy + at2) % 4294967296) xnm0 xnm0 rfl) (Nat.mod_lt _ (by decide)) (fun z199 hz200 => ?_)
                        refine xg_t (xg_iload (va := (0, wi)) rfl rfl) ?_
                        refine xg_t (xg_iload (va := (0, hi)) rfl rfl) ?_
                        refine xg_t (xg_iload (va := (0, at2)) rfl rfl) ?_
                        refine xg_k (xg_isub (u := hi) (v := at2) (z := (hi + (4294967296 - at2)) % 4294967296) xnm0 xnm0 rfl) (Nat.mod_lt _ (by decide)) (fun z201 hz202 => ?_)
                        refine xg_t (xg_iload (va := (0, dp)) rfl rfl) ?_
                        refine xg_t (xg_const) ?_
                        refine xg_t (xg_iadd (u := dp) (v := 1) (z := dp + 1) xnm0 xnm0 (by omega)) ?_
                        refine xg_cSv mX7_planPiece (vs := [(2, 72), (0, xx), (0, z199), (0, wi), (0, z201), (0, dp + 1)]) (rest := []) (cn1 := 0) (sl1 := 0) rfl (ih (hI197) (by omega) (by omega) (by omega) (by omega) (by omega)) rfl rfl rfl rfl rfl rfl rfl (fun w203 hq204 => ?_)
                        obtain ⟨hI205, hF206⟩ := hq204
                        exact xg_e ⟨w203, ⟨rfl, rfl⟩, hI205, ((((hF169.tr (hF179.up (by decide))).tr (hF189.up (by decide))).tr (hF198.up (by decide))).tr (hF206.up (by decide)))⟩
                      · refine xg_t (xg_icT (u := z192) (v := n10) rfl xnm0 xnm0 (xj_neT hc194)) ?_
                        refine xg_t (xg_blq rfl) ?_
                        refine xg_t (xg_iinc (u := at2) (z := at2 + 1) (l1 := [(0, (2, 72)), (1, (0, xx)), (2, (0, yy)), (3, (0, wi)), (4, (0, hi)), (5, (0, dp)), (6, (0, n10))]) rfl rfl (by omega) rfl) ?_
                        refine xg_t (xg_goto) ?_
                        refine xg_t (xg_drop (l1 := [(0, (2, 72)), (1, (0, xx)), (2, (0, yy)), (3, (0, wi)), (4, (0, hi)), (5, (0, dp)), (6, (0, n10)), (7, (0, at2 + 1))]) (List.forall_mem_cons.mpr ⟨List.mem_cons_of_mem _ (List.mem_cons_self), List.forall_mem_cons.mpr ⟨List.mem_cons_of_mem _ (List.mem_cons_of_mem _ (List.mem_cons_self)), List.forall_mem_cons.mpr ⟨List.mem_cons_of_mem _ (List.mem_cons_of_mem _ (List.mem_cons_of_mem _ (List.mem_cons_self))), List.forall_mem_cons.mpr ⟨List.mem_cons_of_mem _ (List.mem_cons_of_mem _ (List.mem_cons_of_mem _ (List.mem_cons_of_mem _ (List.mem_cons_self)))), List.forall_mem_cons.mpr ⟨List.mem_cons_of_mem _ (List.mem_cons_of_mem _ (List.mem_cons_of_mem _ (List.mem_cons_of_mem _ (List.mem_cons_of_mem _ (List.mem_cons_self))))), List.forall_mem_cons.mpr ⟨List.mem_cons_of_mem _ (List.mem_cons_of_mem _ (List.mem_cons_of_mem _ (List.mem_cons_of_mem _ (List.mem_cons_of_mem _ (List.mem_cons_of_mem _ (List.mem_cons_self)))))), List.forall_mem_cons.mpr ⟨List.mem_cons_of_mem _ (List.mem_cons_of_mem _ (List.mem_cons_of_mem _ (List.mem_cons_of_mem _ (List.mem_cons_of_mem _ (List.mem_cons_of_mem _ (List.mem_cons_of_mem _ (List.mem_cons_self))))))), List.forall_mem_cons.mpr ⟨List.mem_cons_self, fun _ h => absurd h List.not_mem_nil⟩⟩⟩⟩⟩⟩⟩⟩)) ?_
                        exact ih165 (at2 + 1) w186 (by omega) (by omega) (hI188) (((hF169.tr (hF179.up (by decide))).tr (hF189.up (by decide)))) (by omega)
                    · have hc173u := hc173
                      unfold xbs at hc173u
                      have hn207 : at2 ≤ 2147483647 := by omega
                      refine xg_t (xg_icT (u := at2) (v := hi) rfl xnm0 xnm0 (xjs_geT hc173)) ?_
                      refine xg_t (xg_blq rfl) ?_
                      exact xg_e ⟨w167, ⟨rfl, rfl⟩, hI168, hF169⟩
                exact key164 _ 1 w123 (Nat.lt_succ_self _) (by omega) (hI124) (hF125) (by omega)
          exact key120 _ 1 w14 (Nat.lt_succ_self _) (by omega) (hI16) (((hF9.up (by decide)).tr (hF17.up (by decide)))) (by omega)
theorem shRefreshPlan (hI : xInv w)  : xPq (d + 26) mX7_refreshPlan [(2, 72)] w bd fc rr [] (fun w' => xInv w' ∧ xFr [72, 73, 74, 75] w w') := by
  refine xPq.of ?_
  show xTo (d + 26) mX7_refreshPlan (0, [], [(0, (2, 72))], [], (w, bd, fc, 0, 0, rr)) (fun φ => ∃ w', xEnd 0 [] (w', bd, fc, 0, 0, rr) φ ∧ xInv w' ∧ xFr [72, 73, 74, 75] w w')
  refine xoC3 (xqc3 hI : cp3 (wget w 3)) (fun f3_1 f3_3 f3_5 f3_7 f3_9 h3_11 hb2 hb4 hb6 hb8 hb10 => ?_)
  refine xg_t (xg_blq rfl) ?_
  refine xg_t (xg_aload (va := (2, 72)) rfl rfl) ?_
  refine xoC72 (xqc72 hI : cp72 (wget w 72)) (fun f72_12 f72_14 h72_16 hb13 hb15 => ?_)
  refine xg_t (xg_getf (va := (0, f72_14)) h72_16 rfl) ?_
  by_cases hc17 : f72_14 = 0
  · refine xg_t (xg_ifT (u := f72_14) rfl xnm0 (xj_eqT hc17)) ?_
    refine xg_t (xg_blq rfl) ?_
    refine xg_t (xg_aload (va := (2, 72)) rfl rfl) ?_
    refine xg_cVv mX7_refreshWorth (vs := []) (rest := []) (cn1 := 0) (sl1 := 0) rfl (shRefreshWorth (hI)) rfl h72_16 rfl rfl rfl rfl rfl rfl (fun w18 hq19 => ?_)
    obtain ⟨hI20, hF21⟩ := hq19
    refine xg_t (xg_aload (va := (2, 72)) rfl rfl) ?_
    refine xoC72 (xqc72 hI20 : cp72 (wget w18 72)) (fun f72_22 f72_24 h72_26 hb23 hb25 => ?_)
    refine xg_t (xg_getf (va := (2, 74)) h72_26 rfl) ?_
    obtain ⟨f74_27, h74_29, hb28⟩ := (xqc74 hI20 : cp74 (wget w18 74))
    refine xg_cV mX5_clear (vs := []) (rest := []) (rs := []) (cn1 := 0) (sl1 := 0) rfl (rclear_ok h74_29) rfl h74_29 rfl rfl rfl rfl rfl rfl rfl (fun w30 hq31 => ?_)
    refine xg_t (xg_aload (va := (2, 72)) rfl rfl) ?_
    refine xg_t (xg_const) ?_
    refine xg_t (xg_const) ?_
    refine xg_t (xg_aload (va := (2, 72)) rfl rfl) ?_
    refine xg_t (xg_getf (va := (2, 3)) (hq31.2.get (by decide) h72_26) rfl) ?_
    refine xg_t (xg_getf (va := (0, f3_1)) (hq31.2.get (by decide) (hF21.get (by decide) h3_11)) rfl) ?_
    refine xg_t (xg_aload (va := (2, 72)) rfl rfl) ?_
    refine xg_t (xg_getf (va := (2, 3)) (hq31.2.get (by decide) h72_26) rfl) ?_
    refine xg_t (xg_getf (va := (0, f3_3)) (hq31.2.get (by decide) (hF21.get (by decide) h3_11)) rfl) ?_
    refine xg_t (xg_const) ?_
    refine xg_cSv mX7_planPiece (vs := [(2, 72), (0, 0), (0, 0), (0, f3_1), (0, f3_3), (0, 0)]) (rest := []) (cn1 := 0) (sl1 := 0) rfl (shPlanPiece (d := d) 22 (xInv.up (S := [74]) hI20 (xFr.of (S := [74]) hq31.2 (by decide)) (List.forall_mem_cons.mpr ⟨xqu74 (show cp74 (wget w30 74) from ⟨0, hq31.1, by decide⟩), fun _ h => absurd h List.not_mem_nil⟩)) (by omega) (by omega) (by omega) (by omega) rfl) rfl rfl rfl rfl rfl rfl rfl (fun w32 hq33 => ?_)
    obtain ⟨hI34, hF35⟩ := hq33
    refine xg_t (xg_aload (va := (2, 72)) rfl rfl) ?_
    refine xg_t (xg_const) ?_
    refine xg_putZ (fl1 := [(2, 3), (2, 73), (2, 74), (0, f72_22), (0, 1)]) (hF35.get (by decide) (hq31.2.get (by decide) h72_26)) rfl rfl rfl (fun w36 hk37 hb38 => ?_)
    exact xg_e ⟨w36, ⟨rfl, rfl⟩, xInv.up (S := [72]) hI34 (xFr.of (S := [72]) hb38 (by decide)) (List.forall_mem_cons.mpr ⟨xqu72 (show cp72 (wget w36 72) from ⟨f72_22, 1, hk37, hb23, by decide⟩), fun _ h => absurd h List.not_mem_nil⟩), ((((hF21.up (by decide)).tr (xFr.of (S := [72, 73, 74, 75]) hq31.2 (by decide))).tr (hF35.up (by decide))).tr (xFr.of (S := [72, 73, 74, 75]) hb38 (by decide)))⟩
  · refine xg_t (xg_ifF (u := f72_14) rfl xnm0 (xj_eqF hc17)) ?_
    exact xg_e ⟨w, ⟨rfl, rfl⟩, hI, xFr.rf⟩
end XPN
end
