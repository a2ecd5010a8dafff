section
/-! rowsOf, count -/
section XCO
variable {d : Nat} {w : List (List xE)} {bd : List (Nat × Nat)} {fc : List (Nat × Nat × Bool)} {rr : Nat × Nat}
theorem rowsOf3 {so : Nat} (hI : xInv w) (hs : so ≤ 4294967295) : ∃ v : xV, (v = (2, 4) ∨ v = (2, 6) ∨ v = (2, 8) ∨ v = (2, 10) ∨ v = (2, 12) ∨ v = (3, 0)) ∧ xPr d mX1_rowsOf [(2, 3), (0, so)] w bd fc rr [v] w := by
  suffices h : xTo d mX1_rowsOf (0, [], [(0, (2, 3)), (1, (0, so))], [], (w, bd, fc, 0, 0, rr)) (fun φ => ∃ v : xV, xEnd 3 [v] (w, bd, fc, 0, 0, rr) φ ∧ (v = (2, 4) ∨ v = (2, 6) ∨ v = (2, 8) ∨ v = (2, 10) ∨ v = (2, 12) ∨ v = (3, 0))) by
    obtain ⟨φ, q1, v, q2, q3⟩ := h
    exact ⟨v, q3, φ, q1, q2.1, q2.2⟩
  refine xg_t (xg_blq rfl) ?_
  refine xg_t (xg_iload (va := (0, so)) rfl rfl) ?_
  by_cases hc1 : so = 0
  · refine xg_t (xg_swt (ks := [(0, 36), (1, 41), (2, 46), (3, 51), (4, 56)]) (u := so) (z := 36) rfl rfl rfl xnm0 (xsw_y hc1)) ?_
    refine xg_t (xg_blq rfl) ?_
    refine xg_t (xg_aload (va := (2, 3)) rfl rfl) ?_
    refine xoC3 (xqc3 hI : cp3 (wget w 3)) (fun f3_2 f3_4 f3_6 f3_8 f3_10 h3_12 hb3 hb5 hb7 hb9 hb11 => ?_)
    refine xg_t (xg_getf (va := (2, 4)) h3_12 rfl) ?_
    exact xg_e ⟨(2, 4), ⟨rfl, rfl⟩, Or.inl rfl⟩
  · by_cases hc13 : so = 1
    · refine xg_t (xg_swt (ks := [(0, 36), (1, 41), (2, 46), (3, 51), (4, 56)]) (u := so) (z := 41) rfl rfl rfl xnm0 (xsw_n hc1 (xsw_y hc13))) ?_
      refine xg_t (xg_blq rfl) ?_
      refine xg_t (xg_aload (va := (2, 3)) rfl rfl) ?_
      refine xoC3 (xqc3 hI : cp3 (wget w 3)) (fun f3_14 f3_16 f3_18 f3_20 f3_22 h3_24 hb15 hb17 hb19 hb21 hb23 => ?_)
      refine xg_t (xg_getf (va := (2, 6)) h3_24 rfl) ?_
      exact xg_e ⟨(2, 6), ⟨rfl, rfl⟩, Or.inr (Or.inl rfl)⟩
    · by_cases hc25 : so = 2
      · refine xg_t (xg_swt (ks := [(0, 36), (1, 41), (2, 46), (3, 51), (4, 56)]) (u := so) (z := 46) rfl rfl rfl xnm0 (xsw_n hc1 (xsw_n hc13 (xsw_y hc25)))) ?_
        refine xg_t (xg_blq rfl) ?_
        refine xg_t (xg_aload (va := (2, 3)) rfl rfl) ?_
        refine xoC3 (xqc3 hI : cp3 (wget w 3)) (fun f3_26 f3_28 f3_30 f3_32 f3_34 h3_36 hb27 hb29 hb31 hb33 hb35 => ?_)
        refine xg_t (xg_getf (va := (2, 8)) h3_36 rfl) ?_
        exact xg_e ⟨(2, 8), ⟨rfl, rfl⟩, Or.inr (Or.inr (Or.inl rfl))⟩
      · by_cases hc37 : so = 3
        · refine xg_t (xg_swt (ks := [(0, 36), (1, 41), (2, 46), (3, 51), (4, 56)]) (u := so) (z := 51) rfl rfl rfl xnm0 (xsw_n hc1 (xsw_n hc13 (xsw_n hc25 (xsw_y hc37))))) ?_
          refine xg_t (xg_blq rfl) ?_
          refine xg_t (xg_aload (va := (2, 3)) rfl rfl) ?_
          refine xoC3 (xqc3 hI : cp3 (wget w 3)) (fun f3_38 f3_40 f3_42 f3_44 f3_46 h3_48 hb39 hb41 hb43 hb45 hb47 => ?_)
          refine xg_t (xg_getf (va := (2, 10)) h3_48 rfl) ?_
          exact xg_e ⟨(2, 10), ⟨rfl, rfl⟩, Or.inr (Or.inr (Or.inr (Or.inl rfl)))⟩
        · by_cases hc49 : so = 4
          · refine xg_t (xg_swt (ks := [(0, 36), (1, 41), (2, 46), (3, 51), (4, 56)]) (u := so) (z := 56) rfl rfl rfl xnm0 (xsw_n hc1 (xsw_n hc13 (xsw_n hc25 (xsw_n hc37 (xsw_y hc49)))))) ?_
            refine xg_t (xg_blq rfl) ?_
            refine xg_t (xg_aload (va := (2, 3)) rfl rfl) ?_
            refine xoC3 (xqc3 hI : cp3 (wget w 3)) (fun f3_50 f3_52 f3_54 f3_56 f3_58 h3_60 hb51 hb53 hb55 hb57 hb59 => ?_)
            refine xg_t (xg_getf (va := (2, 12)) h3_60 rfl) ?_
            exact xg_e ⟨(2, 12), ⟨rfl, rfl⟩, Or.inr (Or.inr (Or.inr (Or.inr (Or.inl rfl))))⟩
          · refine xg_t (xg_swt (ks := [(0, 36), (1, 41), (2, 46), (3, 51), (4, 56)]) (u := so) (z := 61) rfl rfl rfl xnm0 (xsw_n hc1 (xsw_n hc13 (xsw_n hc25 (xsw_n hc37 (xsw_n hc49 (xsw_d))))))) ?_
            refine xg_t (xg_blq rfl) ?_
            refine xg_t (xg_null) ?_
            exact xg_e ⟨(3, 0), ⟨rfl, rfl⟩, Or.inr (Or.inr (Or.inr (Or.inr (Or.inr (rfl)))))⟩
theorem rowsOf28 {so : Nat} (hI : xInv w) (hs : so ≤ 4294967295) : ∃ v : xV, (v = (2, 29) ∨ v = (2, 31) ∨ v = (2, 33) ∨ v = (2, 35) ∨ v = (2, 37) ∨ v = (3, 0)) ∧ xPr d mX1_rowsOf [(2, 28), (0, so)] w bd fc rr [v] w := by
  suffices h : xTo d mX1_rowsOf (0, [], [(0, (2, 28)), (1, (0, so))], [], (w, bd, fc, 0, 0, rr)) (fun φ => ∃ v : xV, xEnd 3 [v] (w, bd, fc, 0, 0, rr) φ ∧ (v = (2, 29) ∨ v = (2, 31) ∨ v = (2, 33) ∨ v = (2, 35) ∨ v = (2, 37) ∨ v = (3, 0))) by
    obtain ⟨φ, q1, v, q2, q3⟩ := h
    exact ⟨v, q3, φ, q1, q2.1, q2.2⟩
  refine xg_t (xg_blq rfl) ?_
  refine xg_t (xg_iload (va := (0, so)) rfl rfl) ?_
  by_cases hc1 : so = 0
  · refine xg_t (xg_swt (ks := [(0, 36), (1, 41), (2, 46), (3, 51), (4, 56)]) (u := so) (z := 36) rfl rfl rfl xnm0 (xsw_y hc1)) ?_
    refine xg_t (xg_blq rfl) ?_
    refine xg_t (xg_aload (va := (2, 28)) rfl rfl) ?_
    refine xoC28 (xqc28 hI : cp28 (wget w 28)) (fun f28_2 f28_4 f28_6 f28_8 f28_10 h28_12 hb3 hb5 hb7 hb9 hb11 => ?_)
    refine xg_t (xg_getf (va := (2, 29)) h28_12 rfl) ?_
    exact xg_e ⟨(2, 29), ⟨rfl, rfl⟩, Or.inl rfl⟩
  · by_cases hc13 : so = 1
    · refine xg_t (xg_swt (ks := [(0, 36), (1, 41), (2, 46), (3, 51), (4, 56)]) (u := so) (z := 41) rfl rfl rfl xnm0 (xsw_n hc1 (xsw_y hc13))) ?_
      refine xg_t (xg_blq rfl) ?_
      refine xg_t (xg_aload (va := (2, 28)) rfl rfl) ?_
      refine xoC28 (xqc28 hI : cp28 (wget w 28)) (fun f28_14 f28_16 f28_18 f28_20 f28_22 h28_24 hb15 hb17 hb19 hb21 hb23 => ?_)
      refine xg_t (xg_getf (va := (2, 31)) h28_24 rfl) ?_
      exact xg_e ⟨(2, 31), ⟨rfl, rfl⟩, Or.inr (Or.inl rfl)⟩
    · by_cases hc25 : so = 2
      · refine xg_t (xg_swt (ks := [(0, 36), (1, 41), (2, 46), (3, 51), (4, 56)]) (u := so) (z := 46) rfl rfl rfl xnm0 (xsw_n hc1 (xsw_n hc13 (xsw_y hc25)))) ?_
        refine xg_t (xg_blq rfl) ?_
        refine xg_t (xg_aload (va := (2, 28)) rfl rfl) ?_
        refine xoC28 (xqc28 hI : cp28 (wget w 28)) (fun f28_26 f28_28 f28_30 f28_32 f28_34 h28_36 hb27 hb29 hb31 hb33 hb35 => ?_)
        refine xg_t (xg_getf (va := (2, 33)) h28_36 rfl) ?_
        exact xg_e ⟨(2, 33), ⟨rfl, rfl⟩, Or.inr (Or.inr (Or.inl rfl))⟩
      · by_cases hc37 : so = 3
        · refine xg_t (xg_swt (ks := [(0, 36), (1, 41), (2, 46), (3, 51), (4, 56)]) (u := so) (z := 51) rfl rfl rfl xnm0 (xsw_n hc1 (xsw_n hc13 (xsw_n hc25 (xsw_y hc37))))) ?_
          refine xg_t (xg_blq rfl) ?_
          refine xg_t (xg_aload (va := (2, 28)) rfl rfl) ?_
          refine xoC28 (xqc28 hI : cp28 (wget w 28)) (fun f28_38 f28_40 f28_42 f28_44 f28_46 h28_48 hb39 hb41 hb43 hb45 hb47 => ?_)
          refine xg_t (xg_getf (va := (2, 35)) h28_48 rfl) ?_
          exact xg_e ⟨(2, 35), ⟨rfl, rfl⟩, Or.inr (Or.inr (Or.inr (Or.inl rfl)))⟩
        · by_cases hc49 : so = 4
          · refine xg_t (xg_swt (ks := [(0, 36), (1, 41), (2, 46), (3, 51), (4, 56)]) (u := so) (z := 56) rfl rfl rfl xnm0 (xsw_n hc1 (xsw_n hc13 (xsw_n hc25 (xsw_n hc37 (xsw_y hc49)))))) ?_
            refine xg_t (xg_blq rfl) ?_
            refine xg_t (xg_aload (va := (2, 28)) rfl rfl) ?_
            refine xoC28 (xqc28 hI : cp28 (wget w 28)) (fun f28_50 f28_52 f28_54 f28_56 f28_58 h28_60 hb51 hb53 hb55 hb57 hb59 => ?_)
            refine xg_t (xg_getf (va := (2, 37)) h28_60 rfl) ?_
            exact xg_e ⟨(2, 37), ⟨rfl, rfl⟩, Or.inr (Or.inr (Or.inr (Or.inr (Or.inl rfl))))⟩
          · refine xg_t (xg_swt (ks := [(0, 36), (1, 41), (2, 46), (3, 51), (4, 56)]) (u := so) (z := 61) rfl rfl rfl xnm0 (xsw_n hc1 (xsw_n hc13 (xsw_n hc25 (xsw_n hc37 (xsw_n hc49 (xsw_d))))))) ?_
            refine xg_t (xg_blq rfl) ?_
            refine xg_t (xg_null) ?_
            exact xg_e ⟨(3, 0), ⟨rfl, rfl⟩, Or.inr (Or.inr (Or.inr (Or.inr (Or.inr (rfl)))))⟩
theorem scCountOfFilm {wh : Nat} (hI : xInv w) (hwh : wh ≤ 4294967295) : xPi (d + 1) mX11_countOfFilm [(2, 0), (0, wh)] w bd fc rr (fun n w' => (n ≤ 4294967295) ∧ xInv w' ∧ xFr [] w w') := by
  refine xPi.of ?_
  show xTo (d + 1) mX11_countOfFilm (0, [], [(0, (2, 0)), (1, (0, wh))], [], (w, bd, fc, 0, 0, rr)) (fun φ => ∃ n w', xEnd 1 [(0, n)] (w', bd, fc, 0, 0, rr) φ ∧ (n ≤ 4294967295) ∧ xInv w' ∧ xFr [] w w')
  have h0_1 := (xqc0 hI : cp0 (wget w 0))
  refine xoC1 (xqc1 hI : cp1 (wget w 1)) (fun f1_2 f1_4 f1_6 f1_8 f1_10 f1_12 h1_14 hb3 hb5 hb7 hb9 hb11 hb13 => ?_)
  refine xoC3 (xqc3 hI : cp3 (wget w 3)) (fun f3_15 f3_17 f3_19 f3_21 f3_23 h3_25 hb16 hb18 hb20 hb22 hb24 => ?_)
  refine xg_t (xg_blq rfl) ?_
  refine xg_t (xg_aload (va := (2, 0)) rfl rfl) ?_
  refine xg_t (xg_getf (va := (2, 1)) h0_1 rfl) ?_
  refine xg_t (xg_getf (va := (2, 3)) h1_14 rfl) ?_
  refine xg_t (xg_astore (l1 := [(0, (2, 0)), (1, (0, wh))]) rfl rfl rfl) ?_
  refine xg_t (xg_iload (va := (0, wh)) rfl rfl) ?_
  by_cases hc26 : wh = 5
  · refine xg_t (xg_swt (ks := [(5, 64), (6, 69), (7, 74), (8, 79), (9, 89), (10, 89), (11, 89), (12, 89), (13, 89), (14, 84)]) (u := wh) (z := 64) rfl rfl rfl xnm0 (xsw_y hc26)) ?_
    refine xg_t (xg_blq rfl) ?_
    refine xg_t (xg_aload (va := (2, 3)) rfl rfl) ?_
    refine xg_t (xg_getf (va := (0, f3_19)) h3_25 rfl) ?_
    exact xg_e ⟨f3_19, w, ⟨rfl, rfl⟩, by omega, hI, xFr.rf⟩
  · by_cases hc27 : wh = 6
    · refine xg_t (xg_swt (ks := [(5, 64), (6, 69), (7, 74), (8, 79), (9, 89), (10, 89), (11, 89), (12, 89), (13, 89), (14, 84)]) (u := wh) (z := 69) rfl rfl rfl xnm0 (xsw_n hc26 (xsw_y hc27))) ?_
      refine xg_t (xg_blq rfl) ?_
      refine xg_t (xg_aload (va := (2, 3)) rfl rfl) ?_
      refine xg_t (xg_getf (va := (0, f3_21)) h3_25 rfl) ?_
      exact xg_e ⟨f3_21, w, ⟨rfl, rfl⟩, by omega, hI, xFr.rf⟩
    · by_cases hc28 : wh = 7
      · refine xg_t (xg_swt (ks := [(5, 64), (6, 69), (7, 74), (8, 79), (9, 89), (10, 89), (11, 89), (12, 89), (13, 89), (14, 84)]) (u := wh) (z := 74) rfl rfl rfl xnm0 (xsw_n hc26 (xsw_n hc27 (xsw_y hc28)))) ?_
        refine xg_t (xg_blq rfl) ?_
        refine xg_t (xg_aload (va := (2, 3)) rfl rfl) ?_
        refine xg_t (xg_getf (va := (0, f3_15)) h3_25 rfl) ?_
        exact xg_e ⟨f3_15, w, ⟨rfl, rfl⟩, by omega, hI, xFr.rf⟩
      · by_cases hc29 : wh = 8
        · refine xg_t (xg_swt (ks := [(5, 64), (6, 69), (7, 74), (8, 79), (9, 89), (10, 89), (11, 89), (12, 89), (13, 89), (14, 84)]) (u := wh) (z := 79) rfl rfl rfl xnm0 (xsw_n hc26 (xsw_n hc27 (xsw_n hc28 (xsw_y hc29))))) ?_
          refine xg_t (xg_blq rfl) ?_
          refine xg_t (xg_aload (va := (2, 3)) rfl rfl) ?_
          refine xg_t (xg_getf (va := (0, f3_17)) h3_25 rfl) ?_
          exact xg_e ⟨f3_17, w, ⟨rfl, rfl⟩, by omega, hI, xFr.rf⟩
        · by_cases hc30 : wh = 9
          · refine xg_t (xg_swt (ks := [(5, 64), (6, 69), (7, 74), (8, 79), (9, 89), (10, 89), (11, 89), (12, 89), (13, 89), (14, 84)]) (u := wh) (z := 89) rfl rfl rfl xnm0 (xsw_n hc26 (xsw_n hc27 (xsw_n hc28 (xsw_n hc29 (xsw_y hc30)))))) ?_
            refine xg_t (xg_blq rfl) ?_
            refine xg_t (xg_aload (va := (2, 3)) rfl rfl) ?_
            refine xg_t (xg_iload (va := (0, wh)) rfl rfl) ?_
            obtain ⟨v31, hv32, hp33⟩ := rowsOf3 (d := d + 0) (bd := bd) (fc := fc) (rr := rr) (so := wh) (hI) (by omega)
            rcases hv32 with rfl | rfl | rfl | rfl | rfl | rfl
            · refine xg_t (xg_cVr mX1_rowsOf (vs := [(0, wh)]) (rest := []) (rs := [(2, 4)]) (cn1 := 0) (sl1 := 0) rfl (hp33) rfl h3_25 rfl rfl rfl rfl rfl rfl rfl) ?_
              refine xg_t (xg_astore (l1 := [(2, (2, 3)), (0, (2, 0)), (1, (0, wh))]) rfl rfl rfl) ?_
              refine xg_t (xg_aload (va := (2, 4)) rfl rfl) ?_
              refine xg_t (xg_ifnnT) ?_
              refine xg_t (xg_blq rfl) ?_
              refine xg_t (xg_aload (va := (2, 4)) rfl rfl) ?_
              obtain ⟨f4_34, h4_36, hb35⟩ := (xqc4 hI : cp4 (wget w 4))
              refine xg_t (xg_getf (va := (0, f4_34)) h4_36 rfl) ?_
              refine xg_t (xg_blq rfl) ?_
              exact xg_e ⟨f4_34, w, ⟨rfl, rfl⟩, by omega, hI, xFr.rf⟩
            · refine xg_t (xg_cVr mX1_rowsOf (vs := [(0, wh)]) (rest := []) (rs := [(2, 6)]) (cn1 := 0) (sl1 := 0) rfl (hp33) rfl h3_25 rfl rfl rfl rfl rfl rfl rfl) ?_
              refine xg_t (xg_astore (l1 := [(2, (2, 3)), (0, (2, 0)), (1, (0, wh))]) rfl rfl rfl) ?_
              refine xg_t (xg_aload (va := (2, 6)) rfl rfl) ?_
              refine xg_t (xg_ifnnT) ?_
              refine xg_t (xg_blq rfl) ?_
              refine xg_t (xg_aload (va := (2, 6)) rfl rfl) ?_
              obtain ⟨f6_37, h6_39, hb38⟩ := (xqc6 hI : cp6 (wget w 6))
              refine xg_t (xg_getf (va := (0, f6_37)) h6_39 rfl) ?_
              refine xg_t (xg_blq rfl) ?_
              exact xg_e ⟨f6_37, w, ⟨rfl, rfl⟩, by omega, hI, xFr.rf⟩
            · refine xg_t (xg_cVr mX1_rowsOf (vs := [(0, wh)]) (rest := []) (rs := [(2, 8)]) (cn1 := 0) (sl1 := 0) rfl (hp33) rfl h3_25 rfl rfl rfl rfl rfl rfl rfl) ?_
              refine xg_t (xg_astore (l1 := [(2, (2, 3)), (0, (2, 0)), (1, (0, wh))]) rfl rfl rfl) ?_
              refine xg_t (xg_aload (va := (2, 8)) rfl rfl) ?_
              refine xg_t (xg_ifnnT) ?_
              refine xg_t (xg_blq rfl) ?_
              refine xg_t (xg_aload (va := (2, 8)) rfl rfl) ?_
              obtain ⟨f8_40, h8_42, hb41⟩ := (xqc8 hI : cp8 (wget w 8))
              refine xg_t (xg_getf (va := (0, f8_40)) h8_42 rfl) ?_
              refine xg_t (xg_blq rfl) ?_
              exact xg_e ⟨f8_40, w, ⟨rfl, rfl⟩, by omega, hI, xFr.rf⟩
            · refine xg_t (xg_cVr mX1_rowsOf (vs := [(0, wh)]) (rest := []) (rs := [(2, 10)]) (cn1 := 0) (sl1 := 0) rfl (hp33) rfl h3_25 rfl rfl rfl rfl rfl rfl rfl) ?_
              refine xg_t (xg_astore (l1 := [(2, (2, 3)), (0, (2, 0)), (1, (0, wh))]) rfl rfl rfl) ?_
              refine xg_t (xg_aload (va := (2, 10)) rfl rfl) ?_
              refine xg_t (xg_ifnnT) ?_
              refine xg_t (xg_blq rfl) ?_
              refine xg_t (xg_aload (va := (2, 10)) rfl rfl) ?_
              obtain ⟨f10_43, h10_45, hb44⟩ := (xqc10 hI : cp10 (wget w 10))
              refine xg_t (xg_getf (va := (0, f10_43)) h10_45 rfl) ?_
              refine xg_t (xg_blq rfl) ?_
              exact xg_e ⟨f10_43, w, ⟨rfl, rfl⟩, by omega, hI, xFr.rf⟩
            · refine xg_t (xg_cVr mX1_rowsOf (vs := [(0, wh)]) (rest := []) (rs := [(2, 12)]) (cn1 := 0) (sl1 := 0) rfl (hp33) rfl h3_25 rfl rfl rfl rfl rfl rfl rfl) ?_
              refine xg_t (xg_astore (l1 := [(2, (2, 3)), (0, (2, 0)), (1, (0, wh))]) rfl rfl rfl) ?_
              refine xg_t (xg_aload (va := (2, 12)) rfl rfl) ?_
              refine xg_t (xg_ifnnT) ?_
              refine xg_t (xg_blq rfl) ?_
              refine xg_t (xg_aload (va := (2, 12)) rfl rfl) ?_
              obtain ⟨f12_46, h12_48, hb47⟩ := (xqc12 hI : cp12 (wget w 12))
              refine xg_t (xg_getf (va := (0, f12_46)) h12_48 rfl) ?_
              refine xg_t (xg_blq rfl) ?_
              exact xg_e ⟨f12_46, w, ⟨rfl, rfl⟩, by omega, hI, xFr.rf⟩
            · refine xg_t (xg_cVr mX1_rowsOf (vs := [(0, wh)]) (rest := []) (rs := [(3, 0)]) (cn1 := 0) (sl1 := 0) rfl (hp33) rfl h3_25 rfl rfl rfl rfl rfl rfl rfl) ?_
              refine xg_t (xg_astore (l1 := [(2, (2, 3)), (0, (2, 0)), (1, (0, wh))]) rfl rfl rfl) ?_
              refine xg_t (xg_aload (va := (3, 0)) rfl rfl) ?_
              refine xg_t (xg_ifnnF) ?_
              refine xg_t (xg_bip) ?_
              refine xg_t (xg_goto) ?_
              refine xg_t (xg_blq rfl) ?_
              exact xg_e ⟨4294967294, w, ⟨rfl, rfl⟩, by first | decide | omega, hI, xFr.rf⟩
          · by_cases hc49 : wh = 10
            · refine xg_t (xg_swt (ks := [(5, 64), (6, 69), (7, 74), (8, 79), (9, 89), (10, 89), (11, 89), (12, 89), (13, 89), (14, 84)]) (u := wh) (z := 89) rfl rfl rfl xnm0 (xsw_n hc26 (xsw_n hc27 (xsw_n hc28 (xsw_n hc29 (xsw_n hc30 (xsw_y hc49))))))) ?_
              refine xg_t (xg_blq rfl) ?_
              refine xg_t (xg_aload (va := (2, 3)) rfl rfl) ?_
              refine xg_t (xg_iload (va := (0, wh)) rfl rfl) ?_
              obtain ⟨v50, hv51, hp52⟩ := rowsOf3 (d := d + 0) (bd := bd) (fc := fc) (rr := rr) (so := wh) (hI) (by omega)
              rcases hv51 with rfl | rfl | rfl | rfl | rfl | rfl
              · refine xg_t (xg_cVr mX1_rowsOf (vs := [(0, wh)]) (rest := []) (rs := [(2, 4)]) (cn1 := 0) (sl1 := 0) rfl (hp52) rfl h3_25 rfl rfl rfl rfl rfl rfl rfl) ?_
                refine xg_t (xg_astore (l1 := [(2, (2, 3)), (0, (2, 0)), (1, (0, wh))]) rfl rfl rfl) ?_
                refine xg_t (xg_aload (va := (2, 4)) rfl rfl) ?_
                refine xg_t (xg_ifnnT) ?_
                refine xg_t (xg_blq rfl) ?_
                refine xg_t (xg_aload (va := (2, 4)) rfl rfl) ?_
                obtain ⟨f4_53, h4_55, hb54⟩ := (xqc4 hI : cp4 (wget w 4))
                refine xg_t (xg_getf (va := (0, f4_53)) h4_55 rfl) ?_
                refine xg_t (xg_blq rfl) ?_
                exact xg_e ⟨f4_53, w, ⟨rfl, rfl⟩, by omega, hI, xFr.rf⟩
              · refine xg_t (xg_cVr mX1_rowsOf (vs := [(0, wh)]) (rest := []) (rs := [(2, 6)]) (cn1 := 0) (sl1 := 0) rfl (hp52) rfl h3_25 rfl rfl rfl rfl rfl rfl rfl) ?_
                refine xg_t (xg_astore (l1 := [(2, (2, 3)), (0, (2, 0)), (1, (0, wh))]) rfl rfl rfl) ?_
                refine xg_t (xg_aload (va := (2, 6)) rfl rfl) ?_
                refine xg_t (xg_ifnnT) ?_
                refine xg_t (xg_blq rfl) ?_
                refine xg_t (xg_aload (va := (2, 6)) rfl rfl) ?_
                obtain ⟨f6_56, h6_58, hb57⟩ := (xqc6 hI : cp6 (wget w 6))
                refine xg_t (xg_getf (va := (0, f6_56)) h6_58 rfl) ?_
                refine xg_t (xg_blq rfl) ?_
                exact xg_e ⟨f6_56, w, ⟨rfl, rfl⟩, by omega, hI, xFr.rf⟩
              · refine xg_t (xg_cVr mX1_rowsOf (vs := [(0, wh)]) (rest := []) (rs := [(2, 8)]) (cn1 := 0) (sl1 := 0) rfl (hp52) rfl h3_25 rfl rfl rfl rfl rfl rfl rfl) ?_
                refine xg_t (xg_astore (l1 := [(2, (2, 3)), (0, (2, 0)), (1, (0, wh))]) rfl rfl rfl) ?_
                refine xg_t (xg_aload (va := (2, 8)) rfl rfl) ?_
                refine xg_t (xg_ifnnT) ?_
                refine xg_t (xg_blq rfl) ?_
                refine xg_t (xg_aload (va := (2, 8)) rfl rfl) ?_
                obtain ⟨f8_59, h8_61, hb60⟩ := (xqc8 hI : cp8 (wget w 8))
                refine xg_t (xg_getf (va := (0, f8_59)) h8_61 rfl) ?_
                refine xg_t (xg_blq rfl) ?_
                exact xg_e ⟨f8_59, w, ⟨rfl, rfl⟩, by omega, hI, xFr.rf⟩
              · refine xg_t (xg_cVr mX1_rowsOf (vs := [(0, wh)]) (rest := []) (rs := [(2, 10)]) (cn1 := 0) (sl1 := 0) rfl (hp52) rfl h3_25 rfl rfl rfl rfl rfl rfl rfl) ?_
                refine xg_t (xg_astore (l1 := [(2, (2, 3)), (0, (2, 0)), (1, (0, wh))]) rfl rfl rfl) ?_
                refine xg_t (xg_aload (va := (2, 10)) rfl rfl) ?_
                refine xg_t (xg_ifnnT) ?_
                refine xg_t (xg_blq rfl) ?_
                refine xg_t (xg_aload (va := (2, 10)) rfl rfl) ?_
                obtain ⟨f10_62, h10_64, hb63⟩ := (xqc10 hI : cp10 (wget w 10))
                refine xg_t (xg_getf (va := (0, f10_62)) h10_64 rfl) ?_
                refine xg_t (xg_blq rfl) ?_
                exact xg_e ⟨f10_62, w, ⟨rfl, rfl⟩, by omega, hI, xFr.rf⟩
              · refine xg_t (xg_cVr mX1_rowsOf (vs := [(0, wh)]) (rest := []) (rs := [(2, 12)]) (cn1 := 0) (sl1 := 0) rfl (hp52) rfl h3_25 rfl rfl rfl rfl rfl rfl rfl) ?_
                refine xg_t (xg_astore (l1 := [(2, (2, 3)), (0, (2, 0)), (1, (0, wh))]) rfl rfl rfl) ?_
                refine xg_t (xg_aload (va := (2, 12)) rfl rfl) ?_
                refine xg_t (xg_ifnnT) ?_
                refine xg_t (xg_blq rfl) ?_
                refine xg_t (xg_aload (va := (2, 12)) rfl rfl) ?_
                obtain ⟨f12_65, h12_67, hb66⟩ := (xqc12 hI : cp12 (wget w 12))
                refine xg_t (xg_getf (va := (0, f12_65)) h12_67 rfl) ?_
                refine xg_t (xg_blq rfl) ?_
                exact xg_e ⟨f12_65, w, ⟨rfl, rfl⟩, by omega, hI, xFr.rf⟩
              · refine xg_t (xg_cVr mX1_rowsOf (vs := [(0, wh)]) (rest := []) (rs := [(3, 0)]) (cn1 := 0) (sl1 := 0) rfl (hp52) rfl h3_25 rfl rfl rfl rfl rfl rfl rfl) ?_
                refine xg_t (xg_astore (l1 := [(2, (2, 3)), (0, (2, 0)), (1, (0, wh))]) rfl rfl rfl) ?_
                refine xg_t (xg_aload (va := (3, 0)) rfl rfl) ?_
                refine xg_t (xg_ifnnF) ?_
                refine xg_t (xg_bip) ?_
                refine xg_t (xg_goto) ?_
                refine xg_t (xg_blq rfl) ?_
                exact xg_e ⟨4294967294, w, ⟨rfl, rfl⟩, by first | decide | omega, hI, xFr.rf⟩
            · by_cases hc68 : wh = 11
              · refine xg_t (xg_swt (ks := [(5, 64), (6, 69), (7, 74), (8, 79), (9, 89), (10, 89), (11, 89), (12, 89), (13, 89), (14, 84)]) (u := wh) (z := 89) rfl rfl rfl xnm0 (xsw_n hc26 (xsw_n hc27 (xsw_n hc28 (xsw_n hc29 (xsw_n hc30 (xsw_n hc49 (xsw_y hc68)))))))) ?_
                refine xg_t (xg_blq rfl) ?_
                refine xg_t (xg_aload (va := (2, 3)) rfl rfl) ?_
                refine xg_t (xg_iload (va := (0, wh)) rfl rfl) ?_
                obtain ⟨v69, hv70, hp71⟩ := rowsOf3 (d := d + 0) (bd := bd) (fc := fc) (rr := rr) (so := wh) (hI) (by omega)
                rcases hv70 with rfl | rfl | rfl | rfl | rfl | rfl
                · refine xg_t (xg_cVr mX1_rowsOf (vs := [(0, wh)]) (rest := []) (rs := [(2, 4)]) (cn1 := 0) (sl1 := 0) rfl (hp71) rfl h3_25 rfl rfl rfl rfl rfl rfl rfl) ?_
                  refine xg_t (xg_astore (l1 := [(2, (2, 3)), (0, (2, 0)), (1, (0, wh))]) rfl rfl rfl) ?_
                  refine xg_t (xg_aload (va := (2, 4)) rfl rfl) ?_
                  refine xg_t (xg_ifnnT) ?_
                  refine xg_t (xg_blq rfl) ?_
                  refine xg_t (xg_aload (va := (2, 4)) rfl rfl) ?_
                  obtain ⟨f4_72, h4_74, hb73⟩ := (xqc4 hI : cp4 (wget w 4))
                  refine xg_t (xg_getf (va := (0, f4_72)) h4_74 rfl) ?_
                  refine xg_t (xg_blq rfl) ?_
                  exact xg_e ⟨f4_72, w, ⟨rfl, rfl⟩, by omega, hI, xFr.rf⟩
                · refine xg_t (xg_cVr mX1_rowsOf (vs := [(0, wh)]) (rest := []) (rs := [(2, 6)]) (cn1 := 0) (sl1 := 0) rfl (hp71) rfl h3_25 rfl rfl rfl rfl rfl rfl rfl) ?_
                  refine xg_t (xg_astore (l1 := [(2, (2, 3)), (0, (2, 0)), (1, (0, wh))]) rfl rfl rfl) ?_
                  refine xg_t (xg_aload (va := (2, 6)) rfl rfl) ?_
                  refine xg_t (xg_ifnnT) ?_
                  refine xg_t (xg_blq rfl) ?_
                  refine xg_t (xg_aload (va := (2, 6)) rfl rfl) ?_
                  obtain ⟨f6_75, h6_77, hb76⟩ := (xqc6 hI : cp6 (wget w 6))
                  refine xg_t (xg_getf (va := (0, f6_75)) h6_77 rfl) ?_
                  refine xg_t (xg_blq rfl) ?_
                  exact xg_e ⟨f6_75, w, ⟨rfl, rfl⟩, by omega, hI, xFr.rf⟩
                · refine xg_t (xg_cVr mX1_rowsOf (vs := [(0, wh)]) (rest := []) (rs := [(2, 8)]) (cn1 := 0) (sl1 := 0) rfl (hp71) rfl h3_25 rfl rfl rfl rfl rfl rfl rfl) ?_
                  refine xg_t (xg_astore (l1 := [(2, (2, 3)), (0, (2, 0)), (1, (0, wh))]) rfl rfl rfl) ?_
                  refine xg_t (xg_aload (va := (2, 8)) rfl rfl) ?_
                  refine xg_t (xg_ifnnT) ?_
                  refine xg_t (xg_blq rfl) ?_
                  refine xg_t (xg_aload (va := (2, 8)) rfl rfl) ?_
                  obtain ⟨f8_78, h8_80, hb79⟩ := (xqc8 hI : cp8 (wget w 8))
                  refine xg_t (xg_getf (va := (0, f8_78)) h8_80 rfl) ?_
                  refine xg_t (xg_blq rfl) ?_
                  exact xg_e ⟨f8_78, w, ⟨rfl, rfl⟩, by omega, hI, xFr.rf⟩
                · refine xg_t (xg_cVr mX1_rowsOf (vs := [(0, wh)]) (rest := []) (rs := [(2, 10)]) (cn1 := 0) (sl1 := 0) rfl (hp71) rfl h3_25 rfl rfl rfl rfl rfl rfl rfl) ?_
                  refine xg_t (xg_astore (l1 := [(2, (2, 3)), (0, (2, 0)), (1, (0, wh))]) rfl rfl rfl) ?_
                  refine xg_t (xg_aload (va := (2, 10)) rfl rfl) ?_
                  refine xg_t (xg_ifnnT) ?_
                  refine xg_t (xg_blq rfl) ?_
                  refine xg_t (xg_aload (va := (2, 10)) rfl rfl) ?_
                  obtain ⟨f10_81, h10_83, hb82⟩ := (xqc10 hI : cp10 (wget w 10))
                  refine xg_t (xg_getf (va := (0, f10_81)) h10_83 rfl) ?_
                  refine xg_t (xg_blq rfl) ?_
                  exact xg_e ⟨f10_81, w, ⟨rfl, rfl⟩, by omega, hI, xFr.rf⟩
                · refine xg_t (xg_cVr mX1_rowsOf (vs := [(0, wh)]) (rest := []) (rs := [(2, 12)]) (cn1 := 0) (sl1 := 0) rfl (hp71) rfl h3_25 rfl rfl rfl rfl rfl rfl rfl) ?_
                  refine xg_t (xg_astore (l1 := [(2, (2, 3)), (0, (2, 0)), (1, (0, wh))]) rfl rfl rfl) ?_
                  refine xg_t (xg_aload (va := (2, 12)) rfl rfl) ?_
                  refine xg_t (xg_ifnnT) ?_
                  refine xg_t (xg_blq rfl) ?_
                  refine xg_t (xg_aload (va := (2, 12)) rfl rfl) ?_
                  obtain ⟨f12_84, h12_86, hb85⟩ := (xqc12 hI : cp12 (wget w 12))
                  refine xg_t (xg_getf (va := (0, f12_84)) h12_86 rfl) ?_
                  refine xg_t (xg_blq rfl) ?_
                  exact xg_e ⟨f12_84, w, ⟨rfl, rfl⟩, by omega, hI, xFr.rf⟩
                · refine xg_t (xg_cVr mX1_rowsOf (vs := [(0, wh)]) (rest := []) (rs := [(3, 0)]) (cn1 := 0) (sl1 := 0) rfl (hp71) rfl h3_25 rfl rfl rfl rfl rfl rfl rfl) ?_
                  refine xg_t (xg_astore (l1 := [(2, (2, 3)), (0, (2, 0)), (1, (0, wh))]) rfl rfl rfl) ?_
                  refine xg_t (xg_aload (va := (3, 0)) rfl rfl) ?_
                  refine xg_t (xg_ifnnF) ?_
                  refine xg_t (xg_bip) ?_
                  refine xg_t (xg_goto) ?_
                  refine xg_t (xg_blq rfl) ?_
                  exact xg_e ⟨4294967294, w, ⟨rfl, rfl⟩, by first | decide | omega, hI, xFr.rf⟩
              · by_cases hc87 : wh = 12
                · refine xg_t (xg_swt (ks := [(5, 64), (6, 69), (7, 74), (8, 79), (9, 89), (10, 89), (11, 89), (12, 89), (13, 89), (14, 84)]) (u := wh) (z := 89) rfl rfl rfl xnm0 (xsw_n hc26 (xsw_n hc27 (xsw_n hc28 (xsw_n hc29 (xsw_n hc30 (xsw_n hc49 (xsw_n hc68 (xsw_y hc87))))))))) ?_
                  refine xg_t (xg_blq rfl) ?_
                  refine xg_t (xg_aload (va := (2, 3)) rfl rfl) ?_
                  refine xg_t (xg_iload (va := (0, wh)) rfl rfl) ?_
                  obtain ⟨v88, hv89, hp90⟩ := rowsOf3 (d := d + 0) (bd := bd) (fc := fc) (rr := rr) (so := wh) (hI) (by omega)
                  rcases hv89 with rfl | rfl | rfl | rfl | rfl | rfl
                  · refine xg_t (xg_cVr mX1_rowsOf (vs := [(0, wh)]) (rest := []) (rs := [(2, 4)]) (cn1 := 0) (sl1 := 0) rfl (hp90) rfl h3_25 rfl rfl rfl rfl rfl rfl rfl) ?_
                    refine xg_t (xg_astore (l1 := [(2, (2, 3)), (0, (2, 0)), (1, (0, wh))]) rfl rfl rfl) ?_
                    refine xg_t (xg_aload (va := (2, 4)) rfl rfl) ?_
                    refine xg_t (xg_ifnnT) ?_
                    refine xg_t (xg_blq rfl) ?_
                    refine xg_t (xg_aload (va := (2, 4)) rfl rfl) ?_
                    obtain ⟨f4_91, h4_93, hb92⟩ := (xqc4 hI : cp4 (wget w 4))
                    refine xg_t (xg_getf (va := (0, f4_91)) h4_93 rfl) ?_
                    refine xg_t (xg_blq rfl) ?_
                    exact xg_e ⟨f4_91, w, ⟨rfl, rfl⟩, by omega, hI, xFr.rf⟩
                  · refine xg_t (xg_cVr mX1_rowsOf (vs := [(0, wh)]) (rest := []) (rs := [(2, 6)]) (cn1 := 0) (sl1 := 0) rfl (hp90) rfl h3_25 rfl rfl rfl rfl rfl rfl rfl) ?_
                    refine xg_t (xg_astore (l1 := [(2, (2, 3)), (0, (2, 0)), (1, (0, wh))]) rfl rfl rfl) ?_
                    refine xg_t (xg_aload (va := (2, 6)) rfl rfl) ?_
                    refine xg_t (xg_ifnnT) ?_
                    refine xg_t (xg_blq rfl) ?_
                    refine xg_t (xg_aload (va := (2, 6)) rfl rfl) ?_
                    obtain ⟨f6_94, h6_96, hb95⟩ := (xqc6 hI : cp6 (wget w 6))
                    refine xg_t (xg_getf (va := (0, f6_94)) h6_96 rfl) ?_
                    refine xg_t (xg_blq rfl) ?_
                    exact xg_e ⟨f6_94, w, ⟨rfl, rfl⟩, by omega, hI, xFr.rf⟩
                  · refine xg_t (xg_cVr mX1_rowsOf (vs := [(0, wh)]) (rest := []) (rs := [(2, 8)]) (cn1 := 0) (sl1 := 0) rfl (hp90) rfl h3_25 rfl rfl rfl rfl rfl rfl rfl) ?_
                    refine xg_t (xg_astore (l1 := [(2, (2, 3)), (0, (2, 0)), (1, (0, wh))]) rfl rfl rfl) ?_
                    refine xg_t (xg_aload (va := (2, 8)) rfl rfl) ?_
                    refine xg_t (xg_ifnnT) ?_
                    refine xg_t (xg_blq rfl) ?_
                    refine xg_t (xg_aload (va := (2, 8)) rfl rfl) ?_
                    obtain ⟨f8_97, h8_99, hb98⟩ := (xqc8 hI : cp8 (wget w 8))
                    refine xg_t (xg_getf (va := (0, f8_97)) h8_99 rfl) ?_
                    refine xg_t (xg_blq rfl) ?_
                    exact xg_e ⟨f8_97, w, ⟨rfl, rfl⟩, by omega, hI, xFr.rf⟩
                  · refine xg_t (xg_cVr mX1_rowsOf (vs := [(0, wh)]) (rest := []) (rs := [(2, 10)]) (cn1 := 0) (sl1 := 0) rfl (hp90) rfl h3_25 rfl rfl rfl rfl rfl rfl rfl) ?_
                    refine xg_t (xg_astore (l1 := [(2, (2, 3)), (0, (2, 0)), (1, (0, wh))]) rfl rfl rfl) ?_
                    refine xg_t (xg_aload (va := (2, 10)) rfl rfl) ?_
                    refine xg_t (xg_ifnnT) ?_
                    refine xg_t (xg_blq rfl) ?_
                    refine xg_t (xg_aload (va := (2, 10)) rfl rfl) ?_
                    obtain ⟨f10_100, h10_102, hb101⟩ := (xqc10 hI : cp10 (wget w 10))
                    refine xg_t (xg_getf (va := (0, f10_100)) h10_102 rfl) ?_
                    refine xg_t (xg_blq rfl) ?_
                    exact xg_e ⟨f10_100, w, ⟨rfl, rfl⟩, by omega, hI, xFr.rf⟩
                  · refine xg_t (xg_cVr mX1_rowsOf (vs := [(0, wh)]) (rest := []) (rs := [(2, 12)]) (cn1 := 0) (sl1 := 0) rfl (hp90) rfl h3_25 rfl rfl rfl rfl rfl rfl rfl) ?_
                    refine xg_t (xg_astore (l1 := [(2, (2, 3)), (0, (2, 0)), (1, (0, wh))]) rfl rfl rfl) ?_
                    refine xg_t (xg_aload (va := (2, 12)) rfl rfl) ?_
                    refine xg_t (xg_ifnnT) ?_
                    refine xg_t (xg_blq rfl) ?_
                    refine xg_t (xg_aload (va := (2, 12)) rfl rfl) ?_
                    obtain ⟨f12_103, h12_105, hb104⟩ := (xqc12 hI : cp12 (wget w 12))
                    refine xg_t (xg_getf (va := (0, f12_103)) h12_105 rfl) ?_
                    refine xg_t (xg_blq rfl) ?_
                    exact xg_e ⟨f12_103, w, ⟨rfl, rfl⟩, by omega, hI, xFr.rf⟩
                  · refine xg_t (xg_cVr mX1_rowsOf (vs := [(0, wh)]) (rest := []) (rs := [(3, 0)]) (cn1 := 0) (sl1 := 0) rfl (hp90) rfl h3_25 rfl rfl rfl rfl rfl rfl rfl) ?_
                    refine xg_t (xg_astore (l1 := [(2, (2, 3)), (0, (2, 0)), (1, (0, wh))]) rfl rfl rfl) ?_
                    refine xg_t (xg_aload (va := (3, 0)) rfl rfl) ?_
                    refine xg_t (xg_ifnnF) ?_
                    refine xg_t (xg_bip) ?_
                    refine xg_t (xg_goto) ?_
                    refine xg_t (xg_blq rfl) ?_
                    exact xg_e ⟨4294967294, w, ⟨rfl, rfl⟩, by first | decide | omega, hI, xFr.rf⟩
                · by_cases hc106 : wh = 13
                  · refine xg_t (xg_swt (ks := [(5, 64), (6, 69), (7, 74), (8, 79), (9, 89), (10, 89), (11, 89), (12, 89), (13, 89), (14, 84)]) (u := wh) (z := 89) rfl rfl rfl xnm0 (xsw_n hc26 (xsw_n hc27 (xsw_n hc28 (xsw_n hc29 (xsw_n hc30 (xsw_n hc49 (xsw_n hc68 (xsw_n hc87 (xsw_y hc106)))))))))) ?_
                    refine xg_t (xg_blq rfl) ?_
                    refine xg_t (xg_aload (va := (2, 3)) rfl rfl) ?_
                    refine xg_t (xg_iload (va := (0, wh)) rfl rfl) ?_
                    obtain ⟨v107, hv108, hp109⟩ := rowsOf3 (d := d + 0) (bd := bd) (fc := fc) (rr := rr) (so := wh) (hI) (by omega)
                    rcases hv108 with rfl | rfl | rfl | rfl | rfl | rfl
                    · refine xg_t (xg_cVr mX1_rowsOf (vs := [(0, wh)]) (rest := []) (rs := [(2, 4)]) (cn1 := 0) (sl1 := 0) rfl (hp109) rfl h3_25 rfl rfl rfl rfl rfl rfl rfl) ?_
                      refine xg_t (xg_astore (l1 := [(2, (2, 3)), (0, (2, 0)), (1, (0, wh))]) rfl rfl rfl) ?_
                      refine xg_t (xg_aload (va := (2, 4)) rfl rfl) ?_
                      refine xg_t (xg_ifnnT) ?_
                      refine xg_t (xg_blq rfl) ?_
                      refine xg_t (xg_aload (va := (2, 4)) rfl rfl) ?_
                      obtain ⟨f4_110, h4_112, hb111⟩ := (xqc4 hI : cp4 (wget w 4))
                      refine xg_t (xg_getf (va := (0, f4_110)) h4_112 rfl) ?_
                      refine xg_t (xg_blq rfl) ?_
                      exact xg_e ⟨f4_110, w, ⟨rfl, rfl⟩, by omega, hI, xFr.rf⟩
                    · refine xg_t (xg_cVr mX1_rowsOf (vs := [(0, wh)]) (rest := []) (rs := [(2, 6)]) (cn1 := 0) (sl1 := 0) rfl (hp109) rfl h3_25 rfl rfl rfl rfl rfl rfl rfl) ?_
                      refine xg_t (xg_astore (l1 := [(2, (2, 3)), (0, (2, 0)), (1, (0, wh))]) rfl rfl rfl) ?_
                      refine xg_t (xg_aload (va := (2, 6)) rfl rfl) ?_
                      refine xg_t (xg_ifnnT) ?_
                      refine xg_t (xg_blq rfl) ?_
                      refine xg_t (xg_aload (va := (2, 6)) rfl rfl) ?_
                      obtain ⟨f6_113, h6_115, hb114⟩ := (xqc6 hI : cp6 (wget w 6))
                      refine xg_t (xg_getf (va := (0, f6_113)) h6_115 rfl) ?_
                      refine xg_t (xg_blq rfl) ?_
                      exact xg_e ⟨f6_113, w, ⟨rfl, rfl⟩, by omega, hI, xFr.rf⟩
                    · refine xg_t (xg_cVr mX1_rowsOf (vs := [(0, wh)]) (rest := []) (rs := [(2, 8)]) (cn1 := 0) (sl1 := 0) rfl (hp109) rfl h3_25 rfl rfl rfl rfl rfl rfl rfl) ?_
                      refine xg_t (xg_astore (l1 := [(2, (2, 3)), (0, (2, 0)), (1, (0, wh))]) rfl rfl rfl) ?_
                      refine xg_t (xg_aload (va := (2, 8)) rfl rfl) ?_
                      refine xg_t (xg_ifnnT) ?_
                      refine xg_t (xg_blq rfl) ?_
                      refine xg_t (xg_aload (va := (2, 8)) rfl rfl) ?_
                      obtain ⟨f8_116, h8_118, hb117⟩ := (xqc8 hI : cp8 (wget w 8))
                      refine xg_t (xg_getf (va := (0, f8_116)) h8_118 rfl) ?_
                      refine xg_t (xg_blq rfl) ?_
                      exact xg_e ⟨f8_116, w, ⟨rfl, rfl⟩, by omega, hI, xFr.rf⟩
                    · refine xg_t (xg_cVr mX1_rowsOf (vs := [(0, wh)]) (rest := []) (rs := [(2, 10)]) (cn1 := 0) (sl1 := 0) rfl (hp109) rfl h3_25 rfl rfl rfl rfl rfl rfl rfl) ?_
                      refine xg_t (xg_astore (l1 := [(2, (2, 3)), (0, (2, 0)), (1, (0, wh))]) rfl rfl rfl) ?_
                      refine xg_t (xg_aload (va := (2, 10)) rfl rfl) ?_
                      refine xg_t (xg_ifnnT) ?_
                      refine xg_t (xg_blq rfl) ?_
                      refine xg_t (xg_aload (va := (2, 10)) rfl rfl) ?_
                      obtain ⟨f10_119, h10_121, hb120⟩ := (xqc10 hI : cp10 (wget w 10))
                      refine xg_t (xg_getf (va := (0, f10_119)) h10_121 rfl) ?_
                      refine xg_t (xg_blq rfl) ?_
                      exact xg_e ⟨f10_119, w, ⟨rfl, rfl⟩, by omega, hI, xFr.rf⟩
                    · refine xg_t (xg_cVr mX1_rowsOf (vs := [(0, wh)]) (rest := []) (rs := [(2, 12)]) (cn1 := 0) (sl1 := 0) rfl (hp109) rfl h3_25 rfl rfl rfl rfl rfl rfl rfl) ?_
                      refine xg_t (xg_astore (l1 := [(2, (2, 3)), (0, (2, 0)), (1, (0, wh))]) rfl rfl rfl) ?_
                      refine xg_t (xg_aload (va := (2, 12)) rfl rfl) ?_
                      refine xg_t (xg_ifnnT) ?_
                      refine xg_t (xg_blq rfl) ?_
                      refine xg_t (xg_aload (va := (2, 12)) rfl rfl) ?_
                      obtain ⟨f12_122, h12_124, hb123⟩ := (xqc12 hI : cp12 (wget w 12))
                      refine xg_t (xg_getf (va := (0, f12_122)) h12_124 rfl) ?_
                      refine xg_t (xg_blq rfl) ?_
                      exact xg_e ⟨f12_122, w, ⟨rfl, rfl⟩, by omega, hI, xFr.rf⟩
                    · refine xg_t (xg_cVr mX1_rowsOf (vs := [(0, wh)]) (rest := []) (rs := [(3, 0)]) (cn1 := 0) (sl1 := 0) rfl (hp109) rfl h3_25 rfl rfl rfl rfl rfl rfl rfl) ?_
                      refine xg_t (xg_astore (l1 := [(2, (2, 3)), (0, (2, 0)), (1, (0, wh))]) rfl rfl rfl) ?_
                      refine xg_t (xg_aload (va := (3, 0)) rfl rfl) ?_
                      refine xg_t (xg_ifnnF) ?_
                      refine xg_t (xg_bip) ?_
                      refine xg_t (xg_goto) ?_
                      refine xg_t (xg_blq rfl) ?_
                      exact xg_e ⟨4294967294, w, ⟨rfl, rfl⟩, by first | decide | omega, hI, xFr.rf⟩
                  · by_cases hc125 : wh = 14
                    · refine xg_t (xg_swt (ks := [(5, 64), (6, 69), (7, 74), (8, 79), (9, 89), (10, 89), (11, 89), (12, 89), (13, 89), (14, 84)]) (u := wh) (z := 84) rfl rfl rfl xnm0 (xsw_n hc26 (xsw_n hc27 (xsw_n hc28 (xsw_n hc29 (xsw_n hc30 (xsw_n hc49 (xsw_n hc68 (xsw_n hc87 (xsw_n hc106 (xsw_y hc125))))))))))) ?_
                      refine xg_t (xg_blq rfl) ?_
                      refine xg_t (xg_aload (va := (2, 3)) rfl rfl) ?_
                      refine xg_t (xg_getf (va := (0, f3_23)) h3_25 rfl) ?_
                      exact xg_e ⟨f3_23, w, ⟨rfl, rfl⟩, by omega, hI, xFr.rf⟩
                    · refine xg_t (xg_swt (ks := [(5, 64), (6, 69), (7, 74), (8, 79), (9, 89), (10, 89), (11, 89), (12, 89), (13, 89), (14, 84)]) (u := wh) (z := 89) rfl rfl rfl xnm0 (xsw_n hc26 (xsw_n hc27 (xsw_n hc28 (xsw_n hc29 (xsw_n hc30 (xsw_n hc49 (xsw_n hc68 (xsw_n hc87 (xsw_n hc106 (xsw_n hc125 (xsw_d)))))))))))) ?_
                      refine xg_t (xg_blq rfl) ?_
                      refine xg_t (xg_aload (va := (2, 3)) rfl rfl) ?_
                      refine xg_t (xg_iload (va := (0, wh)) rfl rfl) ?_
                      obtain ⟨v126, hv127, hp128⟩ := rowsOf3 (d := d + 0) (bd := bd) (fc := fc) (rr := rr) (so := wh) (hI) (by omega)
                      rcases hv127 with rfl | rfl | rfl | rfl | rfl | rfl
                      · refine xg_t (xg_cVr mX1_rowsOf (vs := [(0, wh)]) (rest := []) (rs := [(2, 4)]) (cn1 := 0) (sl1 := 0) rfl (hp128) rfl h3_25 rfl rfl rfl rfl rfl rfl rfl) ?_
                        refine xg_t (xg_astore (l1 := [(2, (2, 3)), (0, (2, 0)), (1, (0, wh))]) rfl rfl rfl) ?_
                        refine xg_t (xg_aload (va := (2, 4)) rfl rfl) ?_
                        refine xg_t (xg_ifnnT) ?_
                        refine xg_t (xg_blq rfl) ?_
                        refine xg_t (xg_aload (va := (2, 4)) rfl rfl) ?_
                        obtain ⟨f4_129, h4_131, hb130⟩ := (xqc4 hI : cp4 (wget w 4))
                        refine xg_t (xg_getf (va := (0, f4_129)) h4_131 rfl) ?_
                        refine xg_t (xg_blq rfl) ?_
                        exact xg_e ⟨f4_129, w, ⟨rfl, rfl⟩, by omega, hI, xFr.rf⟩
                      · refine xg_t (xg_cVr mX1_rowsOf (vs := [(0, wh)]) (rest := []) (rs := [(2, 6)]) (cn1 := 0) (sl1 := 0) rfl (hp128) rfl h3_25 rfl rfl rfl rfl rfl rfl rfl) ?_
                        refine xg_t (xg_astore (l1 := [(2, (2, 3)), (0, (2, 0)), (1, (0, wh))]) rfl rfl rfl) ?_
                        refine xg_t (xg_aload (va := (2, 6)) rfl rfl) ?_
                        refine xg_t (xg_ifnnT) ?_
                        refine xg_t (xg_blq rfl) ?_
                        refine xg_t (xg_aload (va := (2, 6)) rfl rfl) ?_
                        obtain ⟨f6_132, h6_134, hb133⟩ := (xqc6 hI : cp6 (wget w 6))
                        refine xg_t (xg_getf (va := (0, f6_132)) h6_134 rfl) ?_
                        refine xg_t (xg_blq rfl) ?_
                        exact xg_e ⟨f6_132, w, ⟨rfl, rfl⟩, by omega, hI, xFr.rf⟩
                      · refine xg_t (xg_cVr mX1_rowsOf (vs := [(0, wh)]) (rest := []) (rs := [(2, 8)]) (cn1 := 0) (sl1 := 0) rfl (hp128) rfl h3_25 rfl rfl rfl rfl rfl rfl rfl) ?_
                        refine xg_t (xg_astore (l1 := [(2, (2, 3)), (0, (2, 0)), (1, (0, wh))]) rfl rfl rfl) ?_
                        refine xg_t (xg_aload (va := (2, 8)) rfl rfl) ?_
                        refine xg_t (xg_ifnnT) ?_
                        refine xg_t (xg_blq rfl) ?_
                        refine xg_t (xg_aload (va := (2, 8)) rfl rfl) ?_
                        obtain ⟨f8_135, h8_137, hb136⟩ := (xqc8 hI : cp8 (wget w 8))
                        refine xg_t (xg_getf (va := (0, f8_135)) h8_137 rfl) ?_
                        refine xg_t (xg_blq rfl) ?_
                        exact xg_e ⟨f8_135, w, ⟨rfl, rfl⟩, by omega, hI, xFr.rf⟩
                      · refine xg_t (xg_cVr mX1_rowsOf (vs := [(0, wh)]) (rest := []) (rs := [(2, 10)]) (cn1 := 0) (sl1 := 0) rfl (hp128) rfl h3_25 rfl rfl rfl rfl rfl rfl rfl) ?_
                        refine xg_t (xg_astore (l1 := [(2, (2, 3)), (0, (2, 0)), (1, (0, wh))]) rfl rfl rfl) ?_
                        refine xg_t (xg_aload (va := (2, 10)) rfl rfl) ?_
                        refine xg_t (xg_ifnnT) ?_
                        refine xg_t (xg_blq rfl) ?_
                        refine xg_t (xg_aload (va := (2, 10)) rfl rfl) ?_
                        obtain ⟨f10_138, h10_140, hb139⟩ := (xqc10 hI : cp10 (wget w 10))
                        refine xg_t (xg_getf (va := (0, f10_138)) h10_140 rfl) ?_
                        refine xg_t (xg_blq rfl) ?_
                        exact xg_e ⟨f10_138, w, ⟨rfl, rfl⟩, by omega, hI, xFr.rf⟩
                      · refine xg_t (xg_cVr mX1_rowsOf (vs := [(0, wh)]) (rest := []) (rs := [(2, 12)]) (cn1 := 0) (sl1 := 0) rfl (hp128) rfl h3_25 rfl rfl rfl rfl rfl rfl rfl) ?_
                        refine xg_t (xg_astore (l1 := [(2, (2, 3)), (0, (2, 0)), (1, (0, wh))]) rfl rfl rfl) ?_
                        refine xg_t (xg_aload (va := (2, 12)) rfl rfl) ?_
                        refine xg_t (xg_ifnnT) ?_
                        refine xg_t (xg_blq rfl) ?_
                        refine xg_t (xg_aload (va := (2, 12)) rfl rfl) ?_
                        obtain ⟨f12_141, h12_143, hb142⟩ := (xqc12 hI : cp12 (wget w 12))
                        refine xg_t (xg_getf (va := (0, f12_141)) h12_143 rfl) ?_
                        refine xg_t (xg_blq rfl) ?_
                        exact xg_e ⟨f12_141, w, ⟨rfl, rfl⟩, by omega, hI, xFr.rf⟩
                      · refine xg_t (xg_cVr mX1_rowsOf (vs := [(0, wh)]) (rest := []) (rs := [(3, 0)]) (cn1 := 0) (sl1 := 0) rfl (hp128) rfl h3_25 rfl rfl rfl rfl rfl rfl rfl) ?_
                        refine xg_t (xg_astore (l1 := [(2, (2, 3)), (0, (2, 0)), (1, (0, wh))]) rfl rfl rfl) ?_
                        refine xg_t (xg_aload (va := (3, 0)) rfl rfl) ?_
                        refine xg_t (xg_ifnnF) ?_
                        refine xg_t (xg_bip) ?_
                        refine xg_t (xg_goto) ?_
                        refine xg_t (xg_blq rfl) ?_
                        exact xg_e ⟨4294967294, w, ⟨rfl, rfl⟩, by first | decide | omega, hI, xFr.rf⟩
theorem scCount {wh : Nat} (hI : xInv w) (hwh : wh ≤ 4294967295) : xPi (d + 2) mX11_count [(2, 0), (0, wh)] w bd fc rr (fun n w' => (n ≤ 4294967295) ∧ xInv w' ∧ xFr [] w w') := by
  refine xPi.of ?_
  show xTo (d + 2) mX11_count (0, [], [(0, (2, 0)), (1, (0, wh))], [], (w, bd, fc, 0, 0, rr)) (fun φ => ∃ n w', xEnd 1 [(0, n)] (w', bd, fc, 0, 0, rr) φ ∧ (n ≤ 4294967295) ∧ xInv w' ∧ xFr [] w w')
  refine xg_t (xg_blq rfl) ?_
  refine xg_t (xg_iload (va := (0, wh)) rfl rfl) ?_
  by_cases hc1 : wh = 9
  · refine xg_t (xg_swt (ks := [(9, 56), (10, 67), (11, 78), (12, 86), (13, 94), (14, 143), (15, 102), (16, 113), (17, 124), (18, 135)]) (u := wh) (z := 56) rfl rfl rfl xnm0 (xsw_y hc1)) ?_
    refine xg_t (xg_blq rfl) ?_
    refine xg_t (xg_aload (va := (2, 0)) rfl rfl) ?_
    have h0_2 := (xqc0 hI : cp0 (wget w 0))
    refine xg_t (xg_getf (va := (2, 1)) h0_2 rfl) ?_
    refine xoC1 (xqc1 hI : cp1 (wget w 1)) (fun f1_3 f1_5 f1_7 f1_9 f1_11 f1_13 h1_15 hb4 hb6 hb8 hb10 hb12 hb14 => ?_)
    refine xg_t (xg_getf (va := (2, 14)) h1_15 rfl) ?_
    obtain ⟨f14_16, h14_18, hb17⟩ := (xqc14 hI : cp14 (wget w 14))
    refine xg_t (xg_getf (va := (0, f14_16)) h14_18 rfl) ?_
    exact xg_e ⟨f14_16, w, ⟨rfl, rfl⟩, by omega, hI, xFr.rf⟩
  · by_cases hc19 : wh = 10
    · refine xg_t (xg_swt (ks := [(9, 56), (10, 67), (11, 78), (12, 86), (13, 94), (14, 143), (15, 102), (16, 113), (17, 124), (18, 135)]) (u := wh) (z := 67) rfl rfl rfl xnm0 (xsw_n hc1 (xsw_y hc19))) ?_
      refine xg_t (xg_blq rfl) ?_
      refine xg_t (xg_aload (va := (2, 0)) rfl rfl) ?_
      have h0_20 := (xqc0 hI : cp0 (wget w 0))
      refine xg_t (xg_getf (va := (2, 1)) h0_20 rfl) ?_
      refine xoC1 (xqc1 hI : cp1 (wget w 1)) (fun f1_21 f1_23 f1_25 f1_27 f1_29 f1_31 h1_33 hb22 hb24 hb26 hb28 hb30 hb32 => ?_)
      refine xg_t (xg_getf (va := (2, 16)) h1_33 rfl) ?_
      obtain ⟨f16_34, h16_36, hb35⟩ := (xqc16 hI : cp16 (wget w 16))
      refine xg_t (xg_getf (va := (0, f16_34)) h16_36 rfl) ?_
      exact xg_e ⟨f16_34, w, ⟨rfl, rfl⟩, by omega, hI, xFr.rf⟩
    · by_cases hc37 : wh = 11
      · refine xg_t (xg_swt (ks := [(9, 56), (10, 67), (11, 78), (12, 86), (13, 94), (14, 143), (15, 102), (16, 113), (17, 124), (18, 135)]) (u := wh) (z := 78) rfl rfl rfl xnm0 (xsw_n hc1 (xsw_n hc19 (xsw_y hc37)))) ?_
        refine xg_t (xg_blq rfl) ?_
        refine xg_t (xg_aload (va := (2, 0)) rfl rfl) ?_
        have h0_38 := (xqc0 hI : cp0 (wget w 0))
        refine xg_t (xg_getf (va := (2, 1)) h0_38 rfl) ?_
        refine xoC1 (xqc1 hI : cp1 (wget w 1)) (fun f1_39 f1_41 f1_43 f1_45 f1_47 f1_49 h1_51 hb40 hb42 hb44 hb46 hb48 hb50 => ?_)
        refine xg_t (xg_getf (va := (0, f1_45)) h1_51 rfl) ?_
        exact xg_e ⟨f1_45, w, ⟨rfl, rfl⟩, by omega, hI, xFr.rf⟩
      · by_cases hc52 : wh = 12
        · refine xg_t (xg_swt (ks := [(9, 56), (10, 67), (11, 78), (12, 86), (13, 94), (14, 143), (15, 102), (16, 113), (17, 124), (18, 135)]) (u := wh) (z := 86) rfl rfl rfl xnm0 (xsw_n hc1 (xsw_n hc19 (xsw_n hc37 (xsw_y hc52))))) ?_
          refine xg_t (xg_blq rfl) ?_
          refine xg_t (xg_aload (va := (2, 0)) rfl rfl) ?_
          have h0_53 := (xqc0 hI : cp0 (wget w 0))
          refine xg_t (xg_getf (va := (2, 1)) h0_53 rfl) ?_
          refine xoC1 (xqc1 hI : cp1 (wget w 1)) (fun f1_54 f1_56 f1_58 f1_60 f1_62 f1_64 h1_66 hb55 hb57 hb59 hb61 hb63 hb65 => ?_)
          refine xg_t (xg_getf (va := (0, f1_62)) h1_66 rfl) ?_
          exact xg_e ⟨f1_62, w, ⟨rfl, rfl⟩, by omega, hI, xFr.rf⟩
        · by_cases hc67 : wh = 13
          · refine xg_t (xg_swt (ks := [(9, 56), (10, 67), (11, 78), (12, 86), (13, 94), (14, 143), (15, 102), (16, 113), (17, 124), (18, 135)]) (u := wh) (z := 94) rfl rfl rfl xnm0 (xsw_n hc1 (xsw_n hc19 (xsw_n hc37 (xsw_n hc52 (xsw_y hc67)))))) ?_
            refine xg_t (xg_blq rfl) ?_
            refine xg_t (xg_aload (va := (2, 0)) rfl rfl) ?_
            have h0_68 := (xqc0 hI : cp0 (wget w 0))
            refine xg_t (xg_getf (va := (2, 1)) h0_68 rfl) ?_
            refine xoC1 (xqc1 hI : cp1 (wget w 1)) (fun f1_69 f1_71 f1_73 f1_75 f1_77 f1_79 h1_81 hb70 hb72 hb74 hb76 hb78 hb80 => ?_)
            refine xg_t (xg_getf (va := (0, f1_79)) h1_81 rfl) ?_
            exact xg_e ⟨f1_79, w, ⟨rfl, rfl⟩, by omega, hI, xFr.rf⟩
          · by_cases hc82 : wh = 14
            · refine xg_t (xg_swt (ks := [(9, 56), (10, 67), (11, 78), (12, 86), (13, 94), (14, 143), (15, 102), (16, 113), (17, 124), (18, 135)]) (u := wh) (z := 143) rfl rfl rfl xnm0 (xsw_n hc1 (xsw_n hc19 (xsw_n hc37 (xsw_n hc52 (xsw_n hc67 (xsw_y hc82))))))) ?_
              refine xg_t (xg_blq rfl) ?_
              refine xg_t (xg_aload (va := (2, 0)) rfl rfl) ?_
              refine xg_t (xg_iload (va := (0, wh)) rfl rfl) ?_
              have h0_83 := (xqc0 hI : cp0 (wget w 0))
              refine xg_cVi mX11_countOfFilm (vs := [(0, wh)]) (rest := []) (cn1 := 0) (sl1 := 0) rfl (scCountOfFilm (hI) (by omega)) rfl h0_83 rfl rfl rfl rfl rfl rfl (fun n88 w84 hq85 => ?_)
              obtain ⟨hn89, hI86, hF87⟩ := hq85
              exact xg_e ⟨n88, w84, ⟨rfl, rfl⟩, by omega, hI86, (hF87.up (by decide))⟩
            · by_cases hc90 : wh = 15
              · refine xg_t (xg_swt (ks := [(9, 56), (10, 67), (11, 78), (12, 86), (13, 94), (14, 143), (15, 102), (16, 113), (17, 124), (18, 135)]) (u := wh) (z := 102) rfl rfl rfl xnm0 (xsw_n hc1 (xsw_n hc19 (xsw_n hc37 (xsw_n hc52 (xsw_n hc67 (xsw_n hc82 (xsw_y hc90)))))))) ?_
                refine xg_t (xg_blq rfl) ?_
                refine xg_t (xg_aload (va := (2, 0)) rfl rfl) ?_
                have h0_91 := (xqc0 hI : cp0 (wget w 0))
                refine xg_t (xg_getf (va := (2, 1)) h0_91 rfl) ?_
                refine xoC1 (xqc1 hI : cp1 (wget w 1)) (fun f1_92 f1_94 f1_96 f1_98 f1_100 f1_102 h1_104 hb93 hb95 hb97 hb99 hb101 hb103 => ?_)
                refine xg_t (xg_getf (va := (2, 18)) h1_104 rfl) ?_
                obtain ⟨f18_105, h18_107, hb106⟩ := (xqc18 hI : cp18 (wget w 18))
                refine xg_t (xg_getf (va := (0, f18_105)) h18_107 rfl) ?_
                exact xg_e ⟨f18_105, w, ⟨rfl, rfl⟩, by omega, hI, xFr.rf⟩
              · by_cases hc108 : wh = 16
                · refine xg_t (xg_swt (ks := [(9, 56), (10, 67), (11, 78), (12, 86), (13, 94), (14, 143), (15, 102), (16, 113), (17, 124), (18, 135)]) (u := wh) (z := 113) rfl rfl rfl xnm0 (xsw_n hc1 (xsw_n hc19 (xsw_n hc37 (xsw_n hc52 (xsw_n hc67 (xsw_n hc82 (xsw_n hc90 (xsw_y hc108))))))))) ?_
                  refine xg_t (xg_blq rfl) ?_
                  refine xg_t (xg_aload (va := (2, 0)) rfl rfl) ?_
                  have h0_109 := (xqc0 hI : cp0 (wget w 0))
                  refine xg_t (xg_getf (va := (2, 1)) h0_109 rfl) ?_
                  refine xoC1 (xqc1 hI : cp1 (wget w 1)) (fun f1_110 f1_112 f1_114 f1_116 f1_118 f1_120 h1_122 hb111 hb113 hb115 hb117 hb119 hb121 => ?_)
                  refine xg_t (xg_getf (va := (2, 20)) h1_122 rfl) ?_
                  obtain ⟨f20_123, h20_125, hb124⟩ := (xqc20 hI : cp20 (wget w 20))
                  refine xg_t (xg_getf (va := (0, f20_123)) h20_125 rfl) ?_
                  exact xg_e ⟨f20_123, w, ⟨rfl, rfl⟩, by omega, hI, xFr.rf⟩
                · by_cases hc126 : wh = 17
                  · refine xg_t (xg_swt (ks := [(9, 56), (10, 67), (11, 78), (12, 86), (13, 94), (14, 143), (15, 102), (16, 113), (17, 124), (18, 135)]) (u := wh) (z := 124) rfl rfl rfl xnm0 (xsw_n hc1 (xsw_n hc19 (xsw_n hc37 (xsw_n hc52 (xsw_n hc67 (xsw_n hc82 (xsw_n hc90 (xsw_n hc108 (xsw_y hc126)))))))))) ?_
                    refine xg_t (xg_blq rfl) ?_
                    refine xg_t (xg_aload (va := (2, 0)) rfl rfl) ?_
                    have h0_127 := (xqc0 hI : cp0 (wget w 0))
                    refine xg_t (xg_getf (va := (2, 1)) h0_127 rfl) ?_
                    refine xoC1 (xqc1 hI : cp1 (wget w 1)) (fun f1_128 f1_130 f1_132 f1_134 f1_136 f1_138 h1_140 hb129 hb131 hb133 hb135 hb137 hb139 => ?_)
                    refine xg_t (xg_getf (va := (2, 22)) h1_140 rfl) ?_
                    obtain ⟨f22_141, h22_143, hb142⟩ := (xqc22 hI : cp22 (wget w 22))
                    refine xg_t (xg_getf (va := (0, f22_141)) h22_143 rfl) ?_
                    exact xg_e ⟨f22_141, w, ⟨rfl, rfl⟩, by omega, hI, xFr.rf⟩
                  · by_cases hc144 : wh = 18
                    · refine xg_t (xg_swt (ks := [(9, 56), (10, 67), (11, 78), (12, 86), (13, 94), (14, 143), (15, 102), (16, 113), (17, 124), (18, 135)]) (u := wh) (z := 135) rfl rfl rfl xnm0 (xsw_n hc1 (xsw_n hc19 (xsw_n hc37 (xsw_n hc52 (xsw_n hc67 (xsw_n hc82 (xsw_n hc90 (xsw_n hc108 (xsw_n hc126 (xsw_y hc144))))))))))) ?_
                      refine xg_t (xg_blq rfl) ?_
                      refine xg_t (xg_aload (va := (2, 0)) rfl rfl) ?_
                      have h0_145 := (xqc0 hI : cp0 (wget w 0))
                      refine xg_t (xg_getf (va := (2, 1)) h0_145 rfl) ?_
                      refine xoC1 (xqc1 hI : cp1 (wget w 1)) (fun f1_146 f1_148 f1_150 f1_152 f1_154 f1_156 h1_158 hb147 hb149 hb151 hb153 hb155 hb157 => ?_)
                      refine xg_cVi mX9_cracksInView (vs := []) (rest := []) (cn1 := 0) (sl1 := 0) rfl (tdCracksInView (hI)) rfl h1_158 rfl rfl rfl rfl rfl rfl (fun n163 w159 hq160 => ?_)
                      obtain ⟨hn164, hI161, hF162⟩ := hq160
                      exact xg_e ⟨n163, w159, ⟨rfl, rfl⟩, by omega, hI161, (hF162.up (by decide))⟩
                    · refine xg_t (xg_swt (ks := [(9, 56), (10, 67), (11, 78), (12, 86), (13, 94), (14, 143), (15, 102), (16, 113), (17, 124), (18, 135)]) (u := wh) (z := 143) rfl rfl rfl xnm0 (xsw_n hc1 (xsw_n hc19 (xsw_n hc37 (xsw_n hc52 (xsw_n hc67 (xsw_n hc82 (xsw_n hc90 (xsw_n hc108 (xsw_n hc126 (xsw_n hc144 (xsw_d)))))))))))) ?_
                      refine xg_t (xg_blq rfl) ?_
                      refine xg_t (xg_aload (va := (2, 0)) rfl rfl) ?_
                      refine xg_t (xg_iload (va := (0, wh)) rfl rfl) ?_
                      have h0_165 := (xqc0 hI : cp0 (wget w 0))
                      refine xg_cVi mX11_countOfFilm (vs := [(0, wh)]) (rest := []) (cn1 := 0) (sl1 := 0) rfl (scCountOfFilm (hI) (by omega)) rfl h0_165 rfl rfl rfl rfl rfl rfl (fun n170 w166 hq167 => ?_)
                      obtain ⟨hn171, hI168, hF169⟩ := hq167
                      exact xg_e ⟨n170, w166, ⟨rfl, rfl⟩, by omega, hI168, (hF169.up (by decide))⟩
end XCO
end
section
/-! Tokens: but for words -/
section XTK
variable {d : Nat} {w : List (List xE)} {bd : List (Nat × Nat)} {fc : List (Nat × Nat × Bool)} {rr : Nat × Nat}
theorem tkIsLetter {by_ : Nat} (hI : xInv w) (h1 : by_ ≤ 4294967295) : xPi d mX8_isLetter [(0, by_)] w bd fc rr (fun n w' => (n ≤ 1) ∧ xInv w' ∧ xFr [] w w') := by
  refine xPi.of ?_
  show xTo d mX8_isLetter (0, [], [(0, (0, by_))], [], (w, bd, fc, 0, 0, rr)) (fun φ => ∃ n w', xEnd 4 [(0, n)] (w', bd, fc, 0, 0, rr) φ ∧ (n ≤ 1) ∧ xInv w' ∧ xFr [] w w')
  refine xg_t (xg_blq rfl) ?_
  refine xg_t (xg_iload (va := (0, by_)) rfl rfl) ?_
  refine xg_t (xg_bip) ?_
  by_cases hc1 : xbs by_ < xbs 97
  · have hc1u := hc1
    unfold xbs at hc1u
    refine xg_t (xg_icT (u := by_) (v := 97) rfl xnm0 xnm0 (xjs_ltT hc1)) ?_
    refine xg_t (xg_blq rfl) ?_
    refine xg_t (xg_const) ?_
    refine xg_t (xg_blq rfl) ?_
    exact xg_e ⟨0, w, ⟨rfl, rfl⟩, by first | decide | omega, hI, xFr.rf⟩
  · have hc1u := hc1
    unfold xbs at hc1u
    have hn2 : by_ ≤ 2147483647 := by omega
    refine xg_t (xg_icF (u := by_) (v := 97) rfl xnm0 xnm0 (xjs_ltF hc1)) ?_
    refine xg_t (xg_iload (va := (0, by_)) rfl rfl) ?_
    refine xg_t (xg_bip) ?_
    by_cases hc3 : 122 < by_
    · refine xg_t (xg_icT (u := by_) (v := 122) rfl xnm0 xnm0 (xj_gtT hc3 (by omega))) ?_
      refine xg_t (xg_blq rfl) ?_
      refine xg_t (xg_const) ?_
      refine xg_t (xg_blq rfl) ?_
      exact xg_e ⟨0, w, ⟨rfl, rfl⟩, by first | decide | omega, hI, xFr.rf⟩
    · refine xg_t (xg_icF (u := by_) (v := 122) rfl xnm0 xnm0 (xj_gtF (by omega) (by omega))) ?_
      refine xg_t (xg_const) ?_
      refine xg_t (xg_goto) ?_
      refine xg_t (xg_blq rfl) ?_
      exact xg_e ⟨1, w, ⟨rfl, rfl⟩, by first | decide | omega, hI, xFr.rf⟩
theorem tkIsDigit {by_ : Nat} (hI : xInv w) (h1 : by_ ≤ 4294967295) : xPi d mX8_isDigit [(0, by_)] w bd fc rr (fun n w' => (n ≤ 1) ∧ xInv w' ∧ xFr [] w w') := by
  refine xPi.of ?_
  show xTo d mX8_isDigit (0, [], [(0, (0, by_))], [], (w, bd, fc, 0, 0, rr)) (fun φ => ∃ n w', xEnd 4 [(0, n)] (w', bd, fc, 0, 0, rr) φ ∧ (n ≤ 1) ∧ xInv w' ∧ xFr [] w w')
  refine xg_t (xg_blq rfl) ?_
  refine xg_t (xg_iload (va := (0, by_)) rfl rfl) ?_
  refine xg_t (xg_bip) ?_
  by_cases hc1 : xbs by_ < xbs 48
  · have hc1u := hc1
    unfold xbs at hc1u
    refine xg_t (xg_icT (u := by_) (v := 48) rfl xnm0 xnm0 (xjs_ltT hc1)) ?_
    refine xg_t (xg_blq rfl) ?_
    refine xg_t (xg_const) ?_
    refine xg_t (xg_blq rfl) ?_
    exact xg_e ⟨0, w, ⟨rfl, rfl⟩, by first | decide | omega, hI, xFr.rf⟩
  · have hc1u := hc1
    unfold xbs at hc1u
    have hn2 : by_ ≤ 2147483647 := by omega
    refine xg_t (xg_icF (u := by_) (v := 48) rfl xnm0 xnm0 (xjs_ltF hc1)) ?_
    refine xg_t (xg_iload (va := (0, by_)) rfl rfl) ?_
    refine xg_t (xg_bip) ?_
    by_cases hc3 : 57 < by_
    · refine xg_t (xg_icT (u := by_) (v := 57) rfl xnm0 xnm0 (xj_gtT hc3 (by omega))) ?_
      refine xg_t (xg_blq rfl) ?_
      refine xg_t (xg_const) ?_
      refine xg_t (xg_blq rfl) ?_
      exact xg_e ⟨0, w, ⟨rfl, rfl⟩, by first | decide | omega, hI, xFr.rf⟩
    · refine xg_t (xg_icF (u := by_) (v := 57) rfl xnm0 xnm0 (xj_gtF (by omega) (by omega))) ?_
      refine xg_t (xg_const) ?_
      refine xg_t (xg_goto) ?_
      refine xg_t (xg_blq rfl) ?_
      exact xg_e ⟨1, w, ⟨rfl, rfl⟩, by first | decide | omega, hI, xFr.rf⟩
theorem tkIsSignByte {by_ : Nat} (hI : xInv w) (h1 : by_ ≤ 4294967295) : xPi d mX8_isSignByte [(0, by_)] w bd fc rr (fun n w' => (n ≤ 1) ∧ xInv w' ∧ xFr [] w w') := by
  refine xPi.of ?_
  show xTo d mX8_isSignByte (0, [], [(0, (0, by_))], [], (w, bd, fc, 0, 0, rr)) (fun φ => ∃ n w', xEnd 4 [(0, n)] (w', bd, fc, 0, 0, rr) φ ∧ (n ≤ 1) ∧ xInv w' ∧ xFr [] w w')
  refine xg_t (xg_blq rfl) ?_
  refine xg_t (xg_iload (va := (0, by_)) rfl rfl) ?_
  refine xg_t (xg_bip) ?_
  by_cases hc1 : by_ = 59
  · refine xg_t (xg_icT (u := by_) (v := 59) rfl xnm0 xnm0 (xj_eqT hc1)) ?_
    refine xg_t (xg_blq rfl) ?_
    refine xg_t (xg_const) ?_
    refine xg_t (xg_goto) ?_
    refine xg_t (xg_blq rfl) ?_
    exact xg_e ⟨1, w, ⟨rfl, rfl⟩, by first | decide | omega, hI, xFr.rf⟩
  · refine xg_t (xg_icF (u := by_) (v := 59) rfl xnm0 xnm0 (xj_eqF hc1)) ?_
    refine xg_t (xg_iload (va := (0, by_)) rfl rfl) ?_
    refine xg_t (xg_bip) ?_
    by_cases hc2 : by_ = 58
    · refine xg_t (xg_icT (u := by_) (v := 58) rfl xnm0 xnm0 (xj_eqT hc2)) ?_
      refine xg_t (xg_blq rfl) ?_
      refine xg_t (xg_const) ?_
      refine xg_t (xg_goto) ?_
      refine xg_t (xg_blq rfl) ?_
      exact xg_e ⟨1, w, ⟨rfl, rfl⟩, by first | decide | omega, hI, xFr.rf⟩
    · refine xg_t (xg_icF (u := by_) (v := 58) rfl xnm0 xnm0 (xj_eqF hc2)) ?_
      refine xg_t (xg_iload (va := (0, by_)) rfl rfl) ?_
      refine xg_t (xg_bip) ?_
      by_cases hc3 : by_ = 60
      · refine xg_t (xg_icT (u := by_) (v := 60) rfl xnm0 xnm0 (xj_eqT hc3)) ?_
        refine xg_t (xg_blq rfl) ?_
        refine xg_t (xg_const) ?_
        refine xg_t (xg_goto) ?_
        refine xg_t (xg_blq rfl) ?_
        exact xg_e ⟨1, w, ⟨rfl, rfl⟩, by first | decide | omega, hI, xFr.rf⟩
      · refine xg_t (xg_icF (u := by_) (v := 60) rfl xnm0 xnm0 (xj_eqF hc3)) ?_
        refine xg_t (xg_iload (va := (0, by_)) rfl rfl) ?_
        refine xg_t (xg_bip) ?_
        by_cases hc4 : by_ = 62
        · refine xg_t (xg_icT (u := by_) (v := 62) rfl xnm0 xnm0 (xj_eqT hc4)) ?_
          refine xg_t (xg_blq rfl) ?_
          refine xg_t (xg_const) ?_
          refine xg_t (xg_goto) ?_
          refine xg_t (xg_blq rfl) ?_
          exact xg_e ⟨1, w, ⟨rfl, rfl⟩, by first | decide | omega, hI, xFr.rf⟩
        · refine xg_t (xg_icF (u := by_) (v := 62) rfl xnm0 xnm0 (xj_eqF hc4)) ?_
          refine xg_t (xg_iload (va := (0, by_)) rfl rfl) ?_
          refine xg_t (xg_bip) ?_
          by_cases hc5 : by_ = 61
          · refine xg_t (xg_icF (u := by_) (v := 61) rfl xnm0 xnm0 (xj_neF hc5)) ?_
            refine xg_t (xg_blq rfl) ?_
            refine xg_t (xg_const) ?_
            refine xg_t (xg_goto) ?_
            refine xg_t (xg_blq rfl) ?_
            exact xg_e ⟨1, w, ⟨rfl, rfl⟩, by first | decide | omega, hI, xFr.rf⟩
          · refine xg_t (xg_icT (u := by_) (v := 61) rfl xnm0 xnm0 (xj_neT hc5)) ?_
            refine xg_t (xg_blq rfl) ?_
            refine xg_t (xg_const) ?_
            refine xg_t (xg_blq rfl) ?_
            exact xg_e ⟨0, w, ⟨rfl, rfl⟩, by first | decide | omega, hI, xFr.rf⟩
theorem tkTakeDigits42 {le0 kd0 pl0 af0 nu0 : Nat} (hI : xInv w) (hc0 : wget w 42 = some (.inl (8, [(2, 2), (0, le0), (0, kd0), (0, pl0), (0, af0), (0, nu0)]))) (hl0 : le0 ≤ 500) (hk0 : kd0 ≤ 4294967295) (hp0 : pl0 ≤ 499) (ha0 : af0 ≤ 500) (hn0 : nu0 ≤ 4294967295) : xPq (d + 1) mX8_takeDigits [(2, 42)] w bd fc rr [] (fun w' => xInv w' ∧ xFr [42] w w') := by
  refine xPq.of ?_
  show xTo (d + 1) mX8_takeDigits (0, [], [(0, (2, 42))], [], (w, bd, fc, 0, 0, rr)) (fun φ => ∃ w', xEnd 0 [] (w', bd, fc, 0, 0, rr) φ ∧ xInv w' ∧ xFr [42] w w')
  obtain ⟨g2_1, h2_2, hb3⟩ := (xqc2 hI : cpY 500 0 (wget w 2))
  have h2_2 : xRk 1 0 w 2 500 0 g2_1 := h2_2
  refine xg_t (xg_blq rfl) ?_
  refine xg_t (xg_aload (va := (2, 42)) rfl rfl) ?_
  refine xg_t (xg_const) ?_
  refine xg_putI (fl1 := [(2, 2), (0, le0), (0, kd0), (0, pl0), (0, af0), (0, 0)]) hc0 rfl rfl rfl (fun w4 hk5 hb6 => ?_)
  have key7 : ∀ (m9 : Nat) (le1 kd1 pl1 af1 nu1 : Nat) (w10 : List (List xE)), 500 - af1 < m9 → le1 ≤ 500 → kd1 ≤ 4294967295 → pl1 ≤ 500 → af1 ≤ 500 → nu1 ≤ 4294967295 → wget w10 42 = some (.inl (8, [(2, 2), (0, le1), (0, kd1), (0, pl1), (0, af1), (0, nu1)])) → (kd1 = 0 ∨ pl1 ≤ 499) → xInv w10 → xFr [42] w w10 → pl1 ≤ 499 → xTo (d + 1) mX8_takeDigits (5, [], [(0, (2, 42))], [], (w10, bd, fc, 0, 0, rr)) (fun φ => ∃ w', xEnd 0 [] (w', bd, fc, 0, 0, rr) φ ∧ xInv w' ∧ xFr [42] w w') := by
    intro m9
    induction m9 with
    | zero => intro le1 kd1 pl1 af1 nu1 w10 hz; exact absurd hz (Nat.not_lt_zero _)
    | succ m9 ih8 =>
      intro le1 kd1 pl1 af1 nu1 w10 hm21 hn13 hn14 hn15 hn16 hn17 hcl18 hx19 hI11 hF12 he20
      refine xg_t (xg_blq rfl) ?_
      refine xg_t (xg_aload (va := (2, 42)) rfl rfl) ?_
      refine xg_t (xg_getf (va := (0, af1)) hcl18 rfl) ?_
      refine xg_t (xg_aload (va := (2, 42)) rfl rfl) ?_
      refine xg_t (xg_getf (va := (0, le1)) hcl18 rfl) ?_
      by_cases hc22 : af1 < le1
      · refine xg_t (xg_icF (u := af1) (v := le1) rfl xnm0 xnm0 (xj_geF hc22 (by omega))) ?_
        refine xg_t (xg_aload (va := (2, 42)) rfl rfl) ?_
        refine xg_t (xg_getf (va := (2, 2)) hcl18 rfl) ?_
        refine xg_t (xg_aload (va := (2, 42)) rfl rfl) ?_
        refine xg_t (xg_getf (va := (0, af1)) hcl18 rfl) ?_
        refine xg_baldY (n := af1) (h2_2.fr hF12 (by decide)) (hb3) xnm0 (by omega) (fun u23 hu24 he25 => ?_)
        refine xg_cSi mX8_isDigit (vs := [(0, u23)]) (rest := []) (cn1 := 0) (sl1 := 0) rfl (tkIsDigit (hI11) (by omega)) rfl rfl rfl rfl rfl rfl rfl (fun n30 w26 hq27 => ?_)
        obtain ⟨hn31, hI28, hF29⟩ := hq27
        by_cases hc32 : n30 = 0
        · refine xg_t (xg_ifT (u := n30) rfl xnm0 (xj_eqT hc32)) ?_
          refine xg_t (xg_blq rfl) ?_
          refine xg_t (xg_aload (va := (2, 42)) rfl rfl) ?_
          refine xg_t (xg_aload (va := (2, 42)) rfl rfl) ?_
          refine xg_t (xg_getf (va := (0, af1)) (hF29.get (by decide) hcl18) rfl) ?_
          refine xg_t (xg_aload (va := (2, 42)) rfl rfl) ?_
          refine xg_t (xg_getf (va := (0, pl1)) (hF29.get (by decide) hcl18) rfl) ?_
          refine xg_k (xg_isub (u := af1) (v := pl1) (z := (af1 + (4294967296 - pl1)) % 4294967296) xnm0 xnm0 rfl) (Nat.mod_lt _ (by decide)) (fun z33 hz34 => ?_)
          refine xg_t (xg_const) ?_
          by_cases hc35 : xbs 4 < xbs z33
          · have hc35u := hc35
            unfold xbs at hc35u
            have hn36 : z33 ≤ 2147483647 := by omega
            refine xg_t (xg_icF (u := z33) (v := 4) rfl xnm0 xnm0 (xjs_leF hc35)) ?_
            refine xg_t (xg_const) ?_
            refine xg_t (xg_goto) ?_
            refine xg_t (xg_blq rfl) ?_
            refine xg_putI (fl1 := [(2, 2), (0, le1), (0, 4), (0, pl1), (0, af1), (0, nu1)]) (hF29.get (by decide) hcl18) rfl rfl rfl (fun w37 hk38 hb39 => ?_)
            exact xg_e ⟨w37, ⟨rfl, rfl⟩, xInv.up (S := [42]) hI28 (xFr.of (S := [42]) hb39 (by decide)) (List.forall_mem_cons.mpr ⟨xqu42 (show cp42 (wget w37 42) from xmC42 le1 4 pl1 af1 nu1 hk38 hn13 (by decide) hn15 hn16 hn17 (by omega)), fun _ h => absurd h List.not_mem_nil⟩), ((hF12.tr (hF29.up (by decide))).tr (xFr.of (S := [42]) hb39 (by decide)))⟩
          · have hc35u := hc35
            unfold xbs at hc35u
            refine xg_t (xg_icT (u := z33) (v := 4) rfl xnm0 xnm0 (xjs_leT hc35)) ?_
            refine xg_t (xg_blq rfl) ?_
            refine xg_t (xg_const) ?_
            refine xg_t (xg_blq rfl) ?_
            refine xg_putI (fl1 := [(2, 2), (0, le1), (0, 2), (0, pl1), (0, af1), (0, nu1)]) (hF29.get (by decide) hcl18) rfl rfl rfl (fun w40 hk41 hb42 => ?_)
            exact xg_e ⟨w40, ⟨rfl, rfl⟩, xInv.up (S := [42]) hI28 (xFr.of (S := [42]) hb42 (by decide)) (List.forall_mem_cons.mpr ⟨xqu42 (show cp42 (wget w40 42) from xmC42 le1 2 pl1 af1 nu1 hk41 hn13 (by decide) hn15 hn16 hn17 (by omega)), fun _ h => absurd h List.not_mem_nil⟩), ((hF12.tr (hF29.up (by decide))).tr (xFr.of (S := [42]) hb42 (by decide)))⟩
        · refine xg_t (xg_ifF (u := n30) rfl xnm0 (xj_eqF hc32)) ?_
          refine xg_t (xg_aload (va := (2, 42)) rfl rfl) ?_
          refine xg_t (xg_getf (va := (0, af1)) (hF29.get (by decide) hcl18) rfl) ?_
          refine xg_t (xg_aload (va := (2, 42)) rfl rfl) ?_
          refine xg_t (xg_getf (va := (0, pl1)) (hF29.get (by decide) hcl18) rfl) ?_
          refine xg_k (xg_isub (u := af1) (v := pl1) (z := (af1 + (4294967296 - pl1)) % 4294967296) xnm0 xnm0 rfl) (Nat.mod_lt _ (by decide)) (fun z43 hz44 => ?_)
          refine xg_t (xg_const) ?_
          by_cases hc45 : xbs z43 < xbs 4
          · have hc45u := hc45
            unfold xbs at hc45u
            refine xg_t (xg_icF (u := z43) (v := 4) rfl xnm0 xnm0 (xjs_geF hc45)) ?_
            refine xg_t (xg_aload (va := (2, 42)) rfl rfl) ?_
            refine xg_t (xg_aload (va := (2, 42)) rfl rfl) ?_
            refine xg_t (xg_getf (va := (0, nu1)) (hF29.get (by decide) hcl18) rfl) ?_
            refine xg_t (xg_bip) ?_
            refine xg_k (xg_imul (u := nu1) (v := 10) (z := (nu1 * 10) % 4294967296) xnm0 xnm0 rfl) (Nat.mod_lt _ (by decide)) (fun z46 hz47 => ?_)
            refine xg_t (xg_aload (va := (2, 42)) rfl rfl) ?_
            refine xg_t (xg_getf (va := (2, 2)) (hF29.get (by decide) hcl18) rfl) ?_
            refine xg_t (xg_aload (va := (2, 42)) rfl rfl) ?_
            refine xg_t (xg_getf (va := (0, af1)) (hF29.get (by decide) hcl18) rfl) ?_
            refine xg_baldY (n := af1) ((h2_2.fr hF12 (by decide)).fr hF29 (by decide)) (hb3) xnm0 (by omega) (fun u48 hu49 he50 => ?_)
            refine xg_k (xg_iadd (u := z46) (v := u48) (z := (z46 + u48) % 4294967296) xnm0 xnm0 rfl) (Nat.mod_lt _ (by decide)) (fun z51 hz52 => ?_)
            refine xg_t (xg_bip) ?_
            refine xg_k (xg_isub (u := z51) (v := 48) (z := (z51 + (4294967296 - 48)) % 4294967296) xnm0 xnm0 rfl) (Nat.mod_lt _ (by decide)) (fun z53 hz54 => ?_)
            refine xg_putI (fl1 := [(2, 2), (0, le1), (0, kd1), (0, pl1), (0, af1), (0, z53)]) (hF29.get (by decide) hcl18) rfl rfl rfl (fun w55 hk56 hb57 => ?_)
            refine xg_t (xg_blq rfl) ?_
            refine xg_t (xg_aload (va := (2, 42)) rfl rfl) ?_
            refine xg_t (xg_dup rfl) ?_
            refine xg_t (xg_getf (va := (0, af1)) hk56 rfl) ?_
            refine xg_t (xg_const) ?_
            refine xg_t (xg_iadd (u := af1) (v := 1) (z := af1 + 1) xnm0 xnm0 (by omega)) ?_
            refine xg_putI (fl1 := [(2, 2), (0, le1), (0, kd1), (0, pl1), (0, af1 + 1), (0, z53)]) hk56 rfl rfl rfl (fun w58 hk59 hb60 => ?_)
            refine xg_t (xg_goto) ?_
            exact ih8 le1 kd1 pl1 (af1 + 1) z53 w58 (by omega) (hn13) (hn14) (hn15) (by omega) (by omega) hk59 (by omega) (xInv.up (S := [42]) hI28 ((xFr.of (S := [42]) hb57 (by decide)).tr (xFr.of (S := [42]) hb60 (by decide))) (List.forall_mem_cons.mpr ⟨xqu42 (show cp42 (wget w58 42) from xmC42 le1 kd1 pl1 (af1 + 1) z53 hk59 hn13 hn14 hn15 (by omega) (by omega) (by omega)), fun _ h => absurd h List.not_mem_nil⟩)) (((hF12.tr (hF29.up (by decide))).tr ((xFr.of (S := [42]) hb57 (by decide)).tr (xFr.of (S := [42]) hb60 (by decide))))) (by omega)
          · have hc45u := hc45
            unfold xbs at hc45u
            have hn61 : z43 ≤ 2147483647 := by omega
            refine xg_t (xg_icT (u := z43) (v := 4) rfl xnm0 xnm0 (xjs_geT hc45)) ?_
            refine xg_t (xg_blq rfl) ?_
            refine xg_t (xg_aload (va := (2, 42)) rfl rfl) ?_
            refine xg_t (xg_dup rfl) ?_
            refine xg_t (xg_getf (va := (0, af1)) (hF29.get (by decide) hcl18) rfl) ?_
            refine xg_t (xg_const) ?_
            refine xg_t (xg_iadd (u := af1) (v := 1) (z := af1 + 1) xnm0 xnm0 (by omega)) ?_
            refine xg_putI (fl1 := [(2, 2), (0, le1), (0, kd1), (0, pl1), (0, af1 + 1), (0, nu1)]) (hF29.get (by decide) hcl18) rfl rfl rfl (fun w62 hk63 hb64 => ?_)
            refine xg_t (xg_goto) ?_
            exact ih8 le1 kd1 pl1 (af1 + 1) nu1 w62 (by omega) (hn13) (hn14) (hn15) (by omega) (hn17) hk63 (by omega) (xInv.up (S := [42]) hI28 (xFr.of (S := [42]) hb64 (by decide)) (List.forall_mem_cons.mpr ⟨xqu42 (show cp42 (wget w62 42) from xmC42 le1 kd1 pl1 (af1 + 1) nu1 hk63 hn13 hn14 hn15 (by omega) hn17 (by omega)), fun _ h => absurd h List.not_mem_nil⟩)) (((hF12.tr (hF29.up (by decide))).tr (xFr.of (S := [42]) hb64 (by decide)))) (by omega)
      · refine xg_t (xg_icT (u := af1) (v := le1) rfl xnm0 xnm0 (xj_geT (by omega) (by omega))) ?_
        refine xg_t (xg_blq rfl) ?_
        refine xg_t (xg_aload (va := (2, 42)) rfl rfl) ?_
        refine xg_t (xg_aload (va := (2, 42)) rfl rfl) ?_
        refine xg_t (xg_getf (va := (0, af1)) hcl18 rfl) ?_
        refine xg_t (xg_aload (va := (2, 42)) rfl rfl) ?_
        refine xg_t (xg_getf (va := (0, pl1)) hcl18 rfl) ?_
        refine xg_k (xg_isub (u := af1) (v := pl1) (z := (af1 + (4294967296 - pl1)) % 4294967296) xnm0 xnm0 rfl) (Nat.mod_lt _ (by decide)) (fun z65 hz66 => ?_)
        refine xg_t (xg_const) ?_
        by_cases hc67 : xbs 4 < xbs z65
        · have hc67u := hc67
          unfold xbs at hc67u
          have hn68 : z65 ≤ 2147483647 := by omega
          refine xg_t (xg_icF (u := z65) (v := 4) rfl xnm0 xnm0 (xjs_leF hc67)) ?_
          refine xg_t (xg_const) ?_
          refine xg_t (xg_goto) ?_
          refine xg_t (xg_blq rfl) ?_
          refine xg_putI (fl1 := [(2, 2), (0, le1), (0, 4), (0, pl1), (0, af1), (0, nu1)]) hcl18 rfl rfl rfl (fun w69 hk70 hb71 => ?_)
          exact xg_e ⟨w69, ⟨rfl, rfl⟩, xInv.up (S := [42]) hI11 (xFr.of (S := [42]) hb71 (by decide)) (List.forall_mem_cons.mpr ⟨xqu42 (show cp42 (wget w69 42) from xmC42 le1 4 pl1 af1 nu1 hk70 hn13 (by decide) hn15 hn16 hn17 (by omega)), fun _ h => absurd h List.not_mem_nil⟩), (hF12.tr (xFr.of (S := [42]) hb71 (by decide)))⟩
        · have hc67u := hc67
          unfold xbs at hc67u
          refine xg_t (xg_icT (u := z65) (v := 4) rfl xnm0 xnm0 (xjs_leT hc67)) ?_
          refine xg_t (xg_blq rfl) ?_
          refine xg_t (xg_const) ?_
          refine xg_t (xg_blq rfl) ?_
          refine xg_putI (fl1 := [(2, 2), (0, le1), (0, 2), (0, pl1), (0, af1), (0, nu1)]) hcl18 rfl rfl rfl (fun w72 hk73 hb74 => ?_)
          exact xg_e ⟨w72, ⟨rfl, rfl⟩, xInv.up (S := [42]) hI11 (xFr.of (S := [42]) hb74 (by decide)) (List.forall_mem_cons.mpr ⟨xqu42 (show cp42 (wget w72 42) from xmC42 le1 2 pl1 af1 nu1 hk73 hn13 (by decide) hn15 hn16 hn17 (by omega)), fun _ h => absurd h List.not_mem_nil⟩), (hF12.tr (xFr.of (S := [42]) hb74 (by decide)))⟩
  exact key7 _ le0 kd0 pl0 af0 0 w4 (Nat.lt_succ_self _) (by omega) (by omega) (by omega) (by omega) (by decide) hk5 (by omega) (xInv.up (S := [42]) hI (xFr.of (S := [42]) hb6 (by decide)) (List.forall_mem_cons.mpr ⟨xqu42 (show cp42 (wget w4 42) from xmC42 le0 kd0 pl0 af0 0 hk5 (by omega) (by omega) (by omega) (by omega) (by decide) (by omega)), fun _ h => absurd h List.not_mem_nil⟩)) ((xFr.of (S := [42]) hb6 (by decide))) (by omega)
theorem tkAdvance42 (hI : xInv w)  : xPq (d + 2) mX8_advance [(2, 42)] w bd fc rr [] (fun w' => xInv w' ∧ xFr [42] w w') := by
  refine xPq.of ?_
  show xTo (d + 2) mX8_advance (0, [], [(0, (2, 42))], [], (w, bd, fc, 0, 0, rr)) (fun φ => ∃ w', xEnd 0 [] (w', bd, fc, 0, 0, rr) φ ∧ xInv w' ∧ xFr [42] w w')
  obtain ⟨g2_1, h2_2, hb3⟩ := (xqc2 hI : cpY 500 0 (wget w 2))
  have h2_2 : xRk 1 0 w 2 500 0 g2_1 := h2_2
  refine xoC42 (xqc42 hI : cp42 (wget w 42)) (fun f42_4 f42_6 f42_8 f42_10 f42_12 h42_14 hb5 hb7 hb9 hb11 hb13 hb15 => ?_)
  have key16 : ∀ (m18 : Nat) (le1 kd1 pl1 af1 nu1 : Nat) (w19 : List (List xE)), 500 - af1 < m18 → le1 ≤ 500 → kd1 ≤ 4294967295 → pl1 ≤ 500 → af1 ≤ 500 → nu1 ≤ 4294967295 → wget w19 42 = some (.inl (8, [(2, 2), (0, le1), (0, kd1), (0, pl1), (0, af1), (0, nu1)])) → (kd1 = 0 ∨ pl1 ≤ 499) → xInv w19 → xFr [42] w w19 → xTo (d + 2) mX8_advance (0, [], [(0, (2, 42))], [], (w19, bd, fc, 0, 0, rr)) (fun φ => ∃ w', xEnd 0 [] (w', bd, fc, 0, 0, rr) φ ∧ xInv w' ∧ xFr [42] w w') := by
    intro m18
    induction m18 with
    | zero => intro le1 kd1 pl1 af1 nu1 w19 hz; exact absurd hz (Nat.not_lt_zero _)
    | succ m18 ih17 =>
      intro le1 kd1 pl1 af1 nu1 w19 hm29 hn22 hn23 hn24 hn25 hn26 hcl27 hx28 hI20 hF21
      refine xg_t (xg_blq rfl) ?_
      refine xg_t (xg_aload (va := (2, 42)) rfl rfl) ?_
      refine xg_t (xg_getf (va := (0, af1)) hcl27 rfl) ?_
      refine xg_t (xg_aload (va := (2, 42)) rfl rfl) ?_
      refine xg_t (xg_getf (va := (0, le1)) hcl27 rfl) ?_
      by_cases hc30 : af1 < le1
      · refine xg_t (xg_icF (u := af1) (v := le1) rfl xnm0 xnm0 (xj_geF hc30 (by omega))) ?_
        refine xg_t (xg_aload (va := (2, 42)) rfl rfl) ?_
        refine xg_t (xg_getf (va := (2, 2)) hcl27 rfl) ?_
        refine xg_t (xg_aload (va := (2, 42)) rfl rfl) ?_
        refine xg_t (xg_getf (va := (0, af1)) hcl27 rfl) ?_
        refine xg_baldY (n := af1) (h2_2.fr hF21 (by decide)) (hb3) xnm0 (by omega) (fun u31 hu32 he33 => ?_)
        refine xg_t (xg_bip) ?_
        by_cases hc34 : u31 = 32
        · refine xg_t (xg_icT (u := u31) (v := 32) rfl xnm0 xnm0 (xj_eqT hc34)) ?_
          refine xg_t (xg_blq rfl) ?_
          refine xg_t (xg_aload (va := (2, 42)) rfl rfl) ?_
          refine xg_t (xg_dup rfl) ?_
          refine xg_t (xg_getf (va := (0, af1)) hcl27 rfl) ?_
          refine xg_t (xg_const) ?_
          refine xg_t (xg_iadd (u := af1) (v := 1) (z := af1 + 1) xnm0 xnm0 (by omega)) ?_
          refine xg_putI (fl1 := [(2, 2), (0, le1), (0, kd1), (0, pl1), (0, af1 + 1), (0, nu1)]) hcl27 rfl rfl rfl (fun w35 hk36 hb37 => ?_)
          refine xg_t (xg_goto) ?_
          exact ih17 le1 kd1 pl1 (af1 + 1) nu1 w35 (by omega) (hn22) (hn23) (hn24) (by omega) (hn26) hk36 (by omega) (xInv.up (S := [42]) hI20 (xFr.of (S := [42]) hb37 (by decide)) (List.forall_mem_cons.mpr ⟨xqu42 (show cp42 (wget w35 42) from xmC42 le1 kd1 pl1 (af1 + 1) nu1 hk36 hn22 hn23 hn24 (by omega) hn26 (by omega)), fun _ h => absurd h List.not_mem_nil⟩)) ((hF21.tr (xFr.of (S := [42]) hb37 (by decide))))
        · refine xg_t (xg_icF (u := u31) (v := 32) rfl xnm0 xnm0 (xj_eqF hc34)) ?_
          refine xg_t (xg_aload (va := (2, 42)) rfl rfl) ?_
          refine xg_t (xg_getf (va := (2, 2)) hcl27 rfl) ?_
          refine xg_t (xg_aload (va := (2, 42)) rfl rfl) ?_
          refine xg_t (xg_getf (va := (0, af1)) hcl27 rfl) ?_
          refine xg_baldY (n := af1) (h2_2.fr hF21 (by decide)) (hb3) xnm0 (by omega) (fun u38 hu39 he40 => ?_)
          refine xg_t (xg_bip) ?_
          by_cases hc41 : u38 = 10
          · refine xg_t (xg_icF (u := u38) (v := 10) rfl xnm0 xnm0 (xj_neF hc41)) ?_
            refine xg_t (xg_blq rfl) ?_
            refine xg_t (xg_aload (va := (2, 42)) rfl rfl) ?_
            refine xg_t (xg_dup rfl) ?_
            refine xg_t (xg_getf (va := (0, af1)) hcl27 rfl) ?_
            refine xg_t (xg_const) ?_
            refine xg_t (xg_iadd (u := af1) (v := 1) (z := af1 + 1) xnm0 xnm0 (by omega)) ?_
            refine xg_putI (fl1 := [(2, 2), (0, le1), (0, kd1), (0, pl1), (0, af1 + 1), (0, nu1)]) hcl27 rfl rfl rfl (fun w42 hk43 hb44 => ?_)
            refine xg_t (xg_goto) ?_
            exact ih17 le1 kd1 pl1 (af1 + 1) nu1 w42 (by omega) (hn22) (hn23) (hn24) (by omega) (hn26) hk43 (by omega) (xInv.up (S := [42]) hI20 (xFr.of (S := [42]) hb44 (by decide)) (List.forall_mem_cons.mpr ⟨xqu42 (show cp42 (wget w42 42) from xmC42 le1 kd1 pl1 (af1 + 1) nu1 hk43 hn22 hn23 hn24 (by omega) hn26 (by omega)), fun _ h => absurd h List.not_mem_nil⟩)) ((hF21.tr (xFr.of (S := [42]) hb44 (by decide))))
          · refine xg_t (xg_icT (u := u38) (v := 10) rfl xnm0 xnm0 (xj_neT hc41)) ?_
            refine xg_t (xg_blq rfl) ?_
            refine xg_t (xg_aload (va := (2, 42)) rfl rfl) ?_
            refine xg_t (xg_aload (va := (2, 42)) rfl rfl) ?_
            refine xg_t (xg_getf (va := (0, af1)) hcl27 rfl) ?_
            refine xg_putI (fl1 := [(2, 2), (0, le1), (0, kd1), (0, af1), (0, af1), (0, nu1)]) hcl27 rfl rfl rfl (fun w45 hk46 hb47 => ?_)
            refine xg_t (xg_aload (va := (2, 42)) rfl rfl) ?_
            refine xg_t (xg_getf (va := (0, af1)) hk46 rfl) ?_
            refine xg_t (xg_aload (va := (2, 42)) rfl rfl) ?_
            refine xg_t (xg_getf (va := (0, le1)) hk46 rfl) ?_
            by_cases hc48 : af1 < le1
            · refine xg_t (xg_icT (u := af1) (v := le1) rfl xnm0 xnm0 (xj_ltT hc48 (by omega))) ?_
              refine xg_t (xg_blq rfl) ?_
              refine xg_t (xg_aload (va := (2, 42)) rfl rfl) ?_
              refine xg_t (xg_getf (va := (2, 2)) hk46 rfl) ?_
              refine xg_t (xg_aload (va := (2, 42)) rfl rfl) ?_
              refine xg_t (xg_getf (va := (0, af1)) hk46 rfl) ?_
              refine xg_baldY (n := af1) ((h2_2.fr hF21 (by decide)).but hb47 (by decide)) (hb3) xnm0 (by omega) (fun u49 hu50 he51 => ?_)
              refine xg_cSi mX8_isLetter (vs := [(0, u49)]) (rest := []) (cn1 := 0) (sl1 := 0) rfl (tkIsLetter (xInv.up (S := [42]) hI20 (xFr.of (S := [42]) hb47 (by decide)) (List.forall_mem_cons.mpr ⟨xqu42 (show cp42 (wget w45 42) from xmC42 le1 kd1 af1 af1 nu1 hk46 hn22 hn23 hn25 hn25 hn26 (by omega)), fun _ h => absurd h List.not_mem_nil⟩)) (by omega)) rfl rfl rfl rfl rfl rfl rfl (fun n56 w52 hq53 => ?_)
              obtain ⟨hn57, hI54, hF55⟩ := hq53
              by_cases hc58 : n56 = 0
              · refine xg_t (xg_ifT (u := n56) rfl xnm0 (xj_eqT hc58)) ?_
                refine xg_t (xg_blq rfl) ?_
                refine xg_t (xg_aload (va := (2, 42)) rfl rfl) ?_
                refine xg_t (xg_getf (va := (2, 2)) (hF55.get (by decide) hk46) rfl) ?_
                refine xg_t (xg_aload (va := (2, 42)) rfl rfl) ?_
                refine xg_t (xg_getf (va := (0, af1)) (hF55.get (by decide) hk46) rfl) ?_
                refine xg_baldY (n := af1) (((h2_2.fr hF21 (by decide)).but hb47 (by decide)).fr hF55 (by decide)) (hb3) xnm0 (by omega) (fun u59 hu60 he61 => ?_)
                refine xg_cSi mX8_isDigit (vs := [(0, u59)]) (rest := []) (cn1 := 0) (sl1 := 0) rfl (tkIsDigit (hI54) (by omega)) rfl rfl rfl rfl rfl rfl rfl (fun n66 w62 hq63 => ?_)
                obtain ⟨hn67, hI64, hF65⟩ := hq63
                by_cases hc68 : n66 = 0
                · refine xg_t (xg_ifT (u := n66) rfl xnm0 (xj_eqT hc68)) ?_
                  refine xg_t (xg_blq rfl) ?_
                  refine xg_t (xg_aload (va := (2, 42)) rfl rfl) ?_
                  refine xg_t (xg_aload (va := (2, 42)) rfl rfl) ?_
                  refine xg_t (xg_getf (va := (2, 2)) (hF65.get (by decide) (hF55.get (by decide) hk46)) rfl) ?_
                  refine xg_t (xg_aload (va := (2, 42)) rfl rfl) ?_
                  refine xg_t (xg_getf (va := (0, af1)) (hF65.get (by decide) (hF55.get (by decide) hk46)) rfl) ?_
                  refine xg_baldY (n := af1) ((((h2_2.fr hF21 (by decide)).but hb47 (by decide)).fr hF55 (by decide)).fr hF65 (by decide)) (hb3) xnm0 (by omega) (fun u69 hu70 he71 => ?_)
                  refine xg_cSi mX8_isSignByte (vs := [(0, u69)]) (rest := [(2, 42)]) (cn1 := 0) (sl1 := 0) rfl (tkIsSignByte (hI64) (by omega)) rfl rfl rfl rfl rfl rfl rfl (fun n76 w72 hq73 => ?_)
                  obtain ⟨hn77, hI74, hF75⟩ := hq73
                  by_cases hc78 : n76 = 0
                  · refine xg_t (xg_ifT (u := n76) rfl xnm0 (xj_eqT hc78)) ?_
                    refine xg_t (xg_blq rfl) ?_
                    refine xg_t (xg_const) ?_
                    refine xg_t (xg_blq rfl) ?_
                    refine xg_putI (fl1 := [(2, 2), (0, le1), (0, 4), (0, af1), (0, af1), (0, nu1)]) (hF75.get (by decide) (hF65.get (by decide) (hF55.get (by decide) hk46))) rfl rfl rfl (fun w79 hk80 hb81 => ?_)
                    refine xg_t (xg_aload (va := (2, 42)) rfl rfl) ?_
                    refine xg_t (xg_dup rfl) ?_
                    refine xg_t (xg_getf (va := (0, af1)) hk80 rfl) ?_
                    refine xg_t (xg_const) ?_
                    refine xg_t (xg_iadd (u := af1) (v := 1) (z := af1 + 1) xnm0 xnm0 (by omega)) ?_
                    refine xg_putI (fl1 := [(2, 2), (0, le1), (0, 4), (0, af1), (0, af1 + 1), (0, nu1)]) hk80 rfl rfl rfl (fun w82 hk83 hb84 => ?_)
                    refine xg_t (xg_blq rfl) ?_
                    exact xg_e ⟨w82, ⟨rfl, rfl⟩, xInv.up (S := [42]) hI74 ((xFr.of (S := [42]) hb81 (by decide)).tr (xFr.of (S := [42]) hb84 (by decide))) (List.forall_mem_cons.mpr ⟨xqu42 (show cp42 (wget w82 42) from xmC42 le1 4 af1 (af1 + 1) nu1 hk83 hn22 (by decide) hn25 (by omega) hn26 (by omega)), fun _ h => absurd h List.not_mem_nil⟩), (((((hF21.tr (xFr.of (S := [42]) hb47 (by decide))).tr (hF55.up (by decide))).tr (hF65.up (by decide))).tr (hF75.up (by decide))).tr ((xFr.of (S := [42]) hb81 (by decide)).tr (xFr.of (S := [42]) hb84 (by decide))))⟩
                  · refine xg_t (xg_ifF (u := n76) rfl xnm0 (xj_eqF hc78)) ?_
                    refine xg_t (xg_const) ?_
                    refine xg_t (xg_goto) ?_
                    refine xg_t (xg_blq rfl) ?_
                    refine xg_putI (fl1 := [(2, 2), (0, le1), (0, 3), (0, af1), (0, af1), (0, nu1)]) (hF75.get (by decide) (hF65.get (by decide) (hF55.get (by decide) hk46))) rfl rfl rfl (fun w85 hk86 hb87 => ?_)
                    refine xg_t (xg_aload (va := (2, 42)) rfl rfl) ?_
                    refine xg_t (xg_dup rfl) ?_
                    refine xg_t (xg_getf (va := (0, af1)) hk86 rfl) ?_
                    refine xg_t (xg_const) ?_
                    refine xg_t (xg_iadd (u := af1) (v := 1) (z := af1 + 1) xnm0 xnm0 (by omega)) ?_
                    refine xg_putI (fl1 := [(2, 2), (0, le1), (0, 3), (0, af1), (0, af1 + 1), (0, nu1)]) hk86 rfl rfl rfl (fun w88 hk89 hb90 => ?_)
                    refine xg_t (xg_blq rfl) ?_
                    exact xg_e ⟨w88, ⟨rfl, rfl⟩, xInv.up (S := [42]) hI74 ((xFr.of (S := [42]) hb87 (by decide)).tr (xFr.of (S := [42]) hb90 (by decide))) (List.forall_mem_cons.mpr ⟨xqu42 (show cp42 (wget w88 42) from xmC42 le1 3 af1 (af1 + 1) nu1 hk89 hn22 (by decide) hn25 (by omega) hn26 (by omega)), fun _ h => absurd h List.not_mem_nil⟩), (((((hF21.tr (xFr.of (S := [42]) hb47 (by decide))).tr (hF55.up (by decide))).tr (hF65.up (by decide))).tr (hF75.up (by decide))).tr ((xFr.of (S := [42]) hb87 (by decide)).tr (xFr.of (S := [42]) hb90 (by decide))))⟩
                · refine xg_t (xg_ifF (u := n66) rfl xnm0 (xj_eqF hc68)) ?_
                  refine xg_t (xg_aload (va := (2, 42)) rfl rfl) ?_
                  refine xg_cVv mX8_takeDigits (vs := []) (rest := []) (cn1 := 0) (sl1 := 0) rfl (tkTakeDigits42 (hI64) (hF65.get (by decide) (hF55.get (by decide) hk46)) (by omega) (by omega) (by omega) (by omega) (by omega)) rfl (hF65.get (by decide) (hF55.get (by decide) hk46)) rfl rfl rfl rfl rfl rfl (fun w91 hq92 => ?_)
                  obtain ⟨hI93, hF94⟩ := hq92
                  refine xg_t (xg_goto) ?_
                  refine xg_t (xg_blq rfl) ?_
                  exact xg_e ⟨w91, ⟨rfl, rfl⟩, hI93, ((((hF21.tr (xFr.of (S := [42]) hb47 (by decide))).tr (hF55.up (by decide))).tr (hF65.up (by decide))).tr (hF94.up (by decide)))⟩
              · refine xg_t (xg_ifF (u := n56) rfl xnm0 (xj_eqF hc58)) ?_
                refine xg_t (xg_aload (va := (2, 42)) rfl rfl) ?_
                refine xg_t (xg_const) ?_
                refine xg_putI (fl1 := [(2, 2), (0, le1), (0, 1), (0, af1), (0, af1), (0, nu1)]) (hF55.get (by decide) hk46) rfl rfl rfl (fun w95 hk96 hb97 => ?_)
                have key98 : ∀ (m100 : Nat) (le2 kd2 pl2 af2 nu2 : Nat) (w101 : List (List xE)), 500 - af2 < m100 → le2 ≤ 500 → kd2 ≤ 4294967295 → pl2 ≤ 500 → af2 ≤ 500 → nu2 ≤ 4294967295 → wget w101 42 = some (.inl (8, [(2, 2), (0, le2), (0, kd2), (0, pl2), (0, af2), (0, nu2)])) → (kd2 = 0 ∨ pl2 ≤ 499) → xInv w101 → xFr [42] w w101 → xTo (d + 2) mX8_advance (99, [], [(0, (2, 42))], [], (w101, bd, fc, 0, 0, rr)) (fun φ => ∃ w', xEnd 0 [] (w', bd, fc, 0, 0, rr) φ ∧ xInv w' ∧ xFr [42] w w') := by
                  intro m100
                  induction m100 with
                  | zero => intro le2 kd2 pl2 af2 nu2 w101 hz; exact absurd hz (Nat.not_lt_zero _)
                  | succ m100 ih99 =>
                    intro le2 kd2 pl2 af2 nu2 w101 hm111 hn104 hn105 hn106 hn107 hn108 hcl109 hx110 hI102 hF103
                    refine xg_t (xg_blq rfl) ?_
                    refine xg_t (xg_aload (va := (2, 42)) rfl rfl) ?_
                    refine xg_t (xg_getf (va := (0, af2)) hcl109 rfl) ?_
                    refine xg_t (xg_aload (va := (2, 42)) rfl rfl) ?_
                    refine xg_t (xg_getf (va := (0, le2)) hcl109 rfl) ?_
                    by_cases hc112 : af2 < le2
                    · refine xg_t (xg_icF (u := af2) (v := le2) rfl xnm0 xnm0 (xj_geF hc112 (by omega))) ?_
                      refine xg_t (xg_aload (va := (2, 42)) rfl rfl) ?_
                      refine xg_t (xg_getf (va := (2, 2)) hcl109 rfl) ?_
                      refine xg_t (xg_aload (va := (2, 42)) rfl rfl) ?_
                      refine xg_t (xg_getf (va := (0, af2)) hcl109 rfl) ?_
                      refine xg_baldY (n := af2) (h2_2.fr hF103 (by decide)) (hb3) xnm0 (by omega) (fun u113 hu114 he115 => ?_)
                      refine xg_cSi mX8_isLetter (vs := [(0, u113)]) (rest := []) (cn1 := 0) (sl1 := 0) rfl (tkIsLetter (hI102) (by omega)) rfl rfl rfl rfl rfl rfl rfl (fun n120 w116 hq117 => ?_)
                      obtain ⟨hn121, hI118, hF119⟩ := hq117
                      by_cases hc122 : n120 = 0
                      · refine xg_t (xg_ifT (u := n120) rfl xnm0 (xj_eqT hc122)) ?_
                        refine xg_t (xg_blq rfl) ?_
                        exact xg_e ⟨w116, ⟨rfl, rfl⟩, hI118, (hF103.tr (hF119.up (by decide)))⟩
                      · refine xg_t (xg_ifF (u := n120) rfl xnm0 (xj_eqF hc122)) ?_
                        refine xg_t (xg_aload (va := (2, 42)) rfl rfl) ?_
                        refine xg_t (xg_dup rfl) ?_
                        refine xg_t (xg_getf (va := (0, af2)) (hF119.get (by decide) hcl109) rfl) ?_
                        refine xg_t (xg_const) ?_
                        refine xg_t (xg_iadd (u := af2) (v := 1) (z := af2 + 1) xnm0 xnm0 (by omega)) ?_
                        refine xg_putI (fl1 := [(2, 2), (0, le2), (0, kd2), (0, pl2), (0, af2 + 1), (0, nu2)]) (hF119.get (by decide) hcl109) rfl rfl rfl (fun w123 hk124 hb125 => ?_)
                        refine xg_t (xg_goto) ?_
                        exact ih99 le2 kd2 pl2 (af2 + 1) nu2 w123 (by omega) (hn104) (hn105) (hn106) (by omega) (hn108) hk124 (by omega) (xInv.up (S := [42]) hI118 (xFr.of (S := [42]) hb125 (by decide)) (List.forall_mem_cons.mpr ⟨xqu42 (show cp42 (wget w123 42) from xmC42 le2 kd2 pl2 (af2 + 1) nu2 hk124 hn104 hn105 hn106 (by omega) hn108 (by omega)), fun _ h => absurd h List.not_mem_nil⟩)) (((hF103.tr (hF119.up (by decide))).tr (xFr.of (S := [42]) hb125 (by decide))))
                    · refine xg_t (xg_icT (u := af2) (v := le2) rfl xnm0 xnm0 (xj_geT (by omega) (by omega))) ?_
                      refine xg_t (xg_blq rfl) ?_
                      exact xg_e ⟨w101, ⟨rfl, rfl⟩, hI102, hF103⟩
                exact key98 _ le1 1 af1 af1 nu1 w95 (Nat.lt_succ_self _) (hn22) (by decide) (hn25) (hn25) (hn26) hk96 (by omega) (xInv.up (S := [42]) hI54 (xFr.of (S := [42]) hb97 (by decide)) (List.forall_mem_cons.mpr ⟨xqu42 (show cp42 (wget w95 42) from xmC42 le1 1 af1 af1 nu1 hk96 hn22 (by decide) hn25 hn25 hn26 (by omega)), fun _ h => absurd h List.not_mem_nil⟩)) ((((hF21.tr (xFr.of (S := [42]) hb47 (by decide))).tr (hF55.up (by decide))).tr (xFr.of (S := [42]) hb97 (by decide))))
            · refine xg_t (xg_icF (u := af1) (v := le1) rfl xnm0 xnm0 (xj_ltF (by omega) (by omega))) ?_
              refine xg_t (xg_aload (va := (2, 42)) rfl rfl) ?_
              refine xg_t (xg_const) ?_
              refine xg_putI (fl1 := [(2, 2), (0, le1), (0, 0), (0, af1), (0, af1), (0, nu1)]) hk46 rfl rfl rfl (fun w126 hk127 hb128 => ?_)
              refine xg_t (xg_goto) ?_
              refine xg_t (xg_blq rfl) ?_
              exact xg_e ⟨w126, ⟨rfl, rfl⟩, xInv.up (S := [42]) hI20 ((xFr.of (S := [42]) hb47 (by decide)).tr (xFr.of (S := [42]) hb128 (by decide))) (List.forall_mem_cons.mpr ⟨xqu42 (show cp42 (wget w126 42) from xmC42 le1 0 af1 af1 nu1 hk127 hn22 (by decide) hn25 hn25 hn26 (by omega)), fun _ h => absurd h List.not_mem_nil⟩), (hF21.tr ((xFr.of (S := [42]) hb47 (by decide)).tr (xFr.of (S := [42]) hb128 (by decide))))⟩
      · refine xg_t (xg_icT (u := af1) (v := le1) rfl xnm0 xnm0 (xj_geT (by omega) (by omega))) ?_
        refine xg_t (xg_blq rfl) ?_
        refine xg_t (xg_aload (va := (2, 42)) rfl rfl) ?_
        refine xg_t (xg_aload (va := (2, 42)) rfl rfl) ?_
        refine xg_t (xg_getf (va := (0, af1)) hcl27 rfl) ?_
        refine xg_putI (fl1 := [(2, 2), (0, le1), (0, kd1), (0, af1), (0, af1), (0, nu1)]) hcl27 rfl rfl rfl (fun w129 hk130 hb131 => ?_)
        refine xg_t (xg_aload (va := (2, 42)) rfl rfl) ?_
        refine xg_t (xg_getf (va := (0, af1)) hk130 rfl) ?_
        refine xg_t (xg_aload (va := (2, 42)) rfl rfl) ?_
        refine xg_t (xg_getf (va := (0, le1)) hk130 rfl) ?_
        by_cases hc132 : af1 < le1
        · refine xg_t (xg_icT (u := af1) (v := le1) rfl xnm0 xnm0 (xj_ltT hc132 (by omega))) ?_
          refine xg_t (xg_blq rfl) ?_
          refine xg_t (xg_aload (va := (2, 42)) rfl rfl) ?_
          refine xg_t (xg_getf (va := (2, 2)) hk130 rfl) ?_
          refine xg_t (xg_aload (va := (2, 42)) rfl rfl) ?_
          refine xg_t (xg_getf (va := (0, af1)) hk130 rfl) ?_
          refine xg_baldY (n := af1) ((h2_2.fr hF21 (by decide)).but hb131 (by decide)) (hb3) xnm0 (by omega) (fun u133 hu134 he135 => ?_)
          refine xg_cSi mX8_isLetter (vs := [(0, u133)]) (rest := []) (cn1 := 0) (sl1 := 0) rfl (tkIsLetter (xInv.up (S := [42]) hI20 (xFr.of (S := [42]) hb131 (by decide)) (List.forall_mem_cons.mpr ⟨xqu42 (show cp42 (wget w129 42) from xmC42 le1 kd1 af1 af1 nu1 hk130 hn22 hn23 hn25 hn25 hn26 (by omega)), fun _ h => absurd h List.not_mem_nil⟩)) (by omega)) rfl rfl rfl rfl rfl rfl rfl (fun n140 w136 hq137 => ?_)
          obtain ⟨hn141, hI138, hF139⟩ := hq137
          by_cases hc142 : n140 = 0
          · refine xg_t (xg_ifT (u := n140) rfl xnm0 (xj_eqT hc142)) ?_
            refine xg_t (xg_blq rfl) ?_
            refine xg_t (xg_aload (va := (2, 42)) rfl rfl) ?_
            refine xg_t (xg_getf (va := (2, 2)) (hF139.get (by decide) hk130) rfl) ?_
            refine xg_t (xg_aload (va := (2, 42)) rfl rfl) ?_
            refine xg_t (xg_getf (va := (0, af1)) (hF139.get (by decide) hk130) rfl) ?_
            refine xg_baldY (n := af1) (((h2_2.fr hF21 (by decide)).but hb131 (by decide)).fr hF139 (by decide)) (hb3) xnm0 (by omega) (fun u143 hu144 he145 => ?_)
            refine xg_cSi mX8_isDigit (vs := [(0, u143)]) (rest := []) (cn1 := 0) (sl1 := 0) rfl (tkIsDigit (hI138) (by omega)) rfl rfl rfl rfl rfl rfl rfl (fun n150 w146 hq147 => ?_)
            obtain ⟨hn151, hI148, hF149⟩ := hq147
            by_cases hc152 : n150 = 0
            · refine xg_t (xg_ifT (u := n150) rfl xnm0 (xj_eqT hc152)) ?_
              refine xg_t (xg_blq rfl) ?_
              refine xg_t (xg_aload (va := (2, 42)) rfl rfl) ?_
              refine xg_t (xg_aload (va := (2, 42)) rfl rfl) ?_
              refine xg_t (xg_getf (va := (2, 2)) (hF149.get (by decide) (hF139.get (by decide) hk130)) rfl) ?_
              refine xg_t (xg_aload (va := (2, 42)) rfl rfl) ?_
              refine xg_t (xg_getf (va := (0, af1)) (hF149.get (by decide) (hF139.get (by decide) hk130)) rfl) ?_
              refine xg_baldY (n := af1) ((((h2_2.fr hF21 (by decide)).but hb131 (by decide)).fr hF139 (by decide)).fr hF149 (by decide)) (hb3) xnm0 (by omega) (fun u153 hu154 he155 => ?_)
              refine xg_cSi mX8_isSignByte (vs := [(0, u153)]) (rest := [(2, 42)]) (cn1 := 0) (sl1 := 0) rfl (tkIsSignByte (hI148) (by omega)) rfl rfl rfl rfl rfl rfl rfl (fun n160 w156 hq157 => ?_)
              obtain ⟨hn161, hI158, hF159⟩ := hq157
              by_cases hc162 : n160 = 0
              · refine xg_t (xg_ifT (u := n160) rfl xnm0 (xj_eqT hc162)) ?_
                refine xg_t (xg_blq rfl) ?_
                refine xg_t (xg_const) ?_
                refine xg_t (xg_blq rfl) ?_
                refine xg_putI (fl1 := [(2, 2), (0, le1), (0, 4), (0, af1), (0, af1), (0, nu1)]) (hF159.get (by decide) (hF149.get (by decide) (hF139.get (by decide) hk130))) rfl rfl rfl (fun w163 hk164 hb165 => ?_)
                refine xg_t (xg_aload (va := (2, 42)) rfl rfl) ?_
                refine xg_t (xg_dup rfl) ?_
                refine xg_t (xg_getf (va := (0, af1)) hk164 rfl) ?_
                refine xg_t (xg_const) ?_
                refine xg_t (xg_iadd (u := af1) (v := 1) (z := af1 + 1) xnm0 xnm0 (by omega)) ?_
                refine xg_putI (fl1 := [(2, 2), (0, le1), (0, 4), (0, af1), (0, af1 + 1), (0, nu1)]) hk164 rfl rfl rfl (fun w166 hk167 hb168 => ?_)
                refine xg_t (xg_blq rfl) ?_
                exact xg_e ⟨w166, ⟨rfl, rfl⟩, xInv.up (S := [42]) hI158 ((xFr.of (S := [42]) hb165 (by decide)).tr (xFr.of (S := [42]) hb168 (by decide))) (List.forall_mem_cons.mpr ⟨xqu42 (show cp42 (wget w166 42) from xmC42 le1 4 af1 (af1 + 1) nu1 hk167 hn22 (by decide) hn25 (by omega) hn26 (by omega)), fun _ h => absurd h List.not_mem_nil⟩), (((((hF21.tr (xFr.of (S := [42]) hb131 (by decide))).tr (hF139.up (by decide))).tr (hF149.up (by decide))).tr (hF159.up (by decide))).tr ((xFr.of (S := [42]) hb165 (by decide)).tr (xFr.of (S := [42]) hb168 (by decide))))⟩
              · refine xg_t (xg_ifF (u := n160) rfl xnm0 (xj_eqF hc162)) ?_
                refine xg_t (xg_const) ?_
                refine xg_t (xg_goto) ?_
                refine xg_t (xg_blq rfl) ?_
                refine xg_putI (fl1 := [(2, 2), (0, le1), (0, 3), (0, af1), (0, af1), (0, nu1)]) (hF159.get (by decide) (hF149.get (by decide) (hF139.get (by decide) hk130))) rfl rfl rfl (fun w169 hk170 hb171 => ?_)
                refine xg_t (xg_aload (va := (2, 42)) rfl rfl) ?_
                refine xg_t (xg_dup rfl) ?_
                refine xg_t (xg_getf (va := (0, af1)) hk170 rfl) ?_
                refine xg_t (xg_const) ?_
                refine xg_t (xg_iadd (u := af1) (v := 1) (z := af1 + 1) xnm0 xnm0 (by omega)) ?_
                refine xg_putI (fl1 := [(2, 2), (0, le1), (0, 3), (0, af1), (0, af1 + 1), (0, nu1)]) hk170 rfl rfl rfl (fun w172 hk173 hb174 => ?_)
                refine xg_t (xg_blq rfl) ?_
                exact xg_e ⟨w172, ⟨rfl, rfl⟩, xInv.up (S := [42]) hI158 ((xFr.of (S := [42]) hb171 (by decide)).tr (xFr.of (S := [42]) hb174 (by decide))) (List.forall_mem_cons.mpr ⟨xqu42 (show cp42 (wget w172 42) from xmC42 le1 3 af1 (af1 + 1) nu1 hk173 hn22 (by decide) hn25 (by omega) hn26 (by omega)), fun _ h => absurd h List.not_mem_nil⟩), (((((hF21.tr (xFr.of (S := [42]) hb131 (by decide))).tr (hF139.up (by decide))).tr (hF149.up (by decide))).tr (hF159.up (by decide))).tr ((xFr.of (S := [42]) hb171 (by decide)).tr (xFr.of (S := [42]) hb174 (by decide))))⟩
            · refine xg_t (xg_ifF (u := n150) rfl xnm0 (xj_eqF hc152)) ?_
              refine xg_t (xg_aload (va := (2, 42)) rfl rfl) ?_
              refine xg_cVv mX8_takeDigits (vs := []) (rest := []) (cn1 := 0) (sl1 := 0) rfl (tkTakeDigits42 (hI148) (hF149.get (by decide) (hF139.get (by decide) hk130)) (by omega) (by omega) (by omega) (by omega) (by omega)) rfl (hF149.get (by decide) (hF139.get (by decide) hk130)) rfl rfl rfl rfl rfl rfl (fun w175 hq176 => ?_)
              obtain ⟨hI177, hF178⟩ := hq176
              refine xg_t (xg_goto) ?_
              refine xg_t (xg_blq rfl) ?_
              exact xg_e ⟨w175, ⟨rfl, rfl⟩, hI177, ((((hF21.tr (xFr.of (S := [42]) hb131 (by decide))).tr (hF139.up (by decide))).tr (hF149.up (by decide))).tr (hF178.up (by decide)))⟩
          · refine xg_t (xg_ifF (u := n140) rfl xnm0 (xj_eqF hc142)) ?_
            refine xg_t (xg_aload (va := (2, 42)) rfl rfl) ?_
            refine xg_t (xg_const) ?_
            refine xg_putI (fl1 := [(2, 2), (0, le1), (0, 1), (0, af1), (0, af1), (0, nu1)]) (hF139.get (by decide) hk130) rfl rfl rfl (fun w179 hk180 hb181 => ?_)
            have key182 : ∀ (m184 : Nat) (le2 kd2 pl2 af2 nu2 : Nat) (w185 : List (List xE)), 500 - af2 < m184 → le2 ≤ 500 → kd2 ≤ 4294967295 → pl2 ≤ 500 → af2 ≤ 500 → nu2 ≤ 4294967295 → wget w185 42 = some (.inl (8, [(2, 2), (0, le2), (0, kd2), (0, pl2), (0, af2), (0, nu2)])) → (kd2 = 0 ∨ pl2 ≤ 499) → xInv w185 → xFr [42] w w185 → xTo (d + 2) mX8_advance (99, [], [(0, (2, 42))], [], (w185, bd, fc, 0, 0, rr)) (fun φ => ∃ w', xEnd 0 [] (w', bd, fc, 0, 0, rr) φ ∧ xInv w' ∧ xFr [42] w w') := by
              intro m184
              induction m184 with
              | zero => intro le2 kd2 pl2 af2 nu2 w185 hz; exact absurd hz (Nat.not_lt_zero _)
              | succ m184 ih183 =>
                intro le2 kd2 pl2 af2 nu2 w185 hm195 hn188 hn189 hn190 hn191 hn192 hcl193 hx194 hI186 hF187
                refine xg_t (xg_blq rfl) ?_
                refine xg_t (xg_aload (va := (2, 42)) rfl rfl) ?_
                refine xg_t (xg_getf (va := (0, af2)) hcl193 rfl) ?_
                refine xg_t (xg_aload (va := (2, 42)) rfl rfl) ?_
                refine xg_t (xg_getf (va := (0, le2)) hcl193 rfl) ?_
                by_cases hc196 : af2 < le2
                · refine xg_t (xg_icF (u := af2) (v := le2) rfl xnm0 xnm0 (xj_geF hc196 (by omega))) ?_
                  refine xg_t (xg_aload (va := (2, 42)) rfl rfl) ?_
                  refine xg_t (xg_getf (va := (2, 2)) hcl193 rfl) ?_
                  refine xg_t (xg_aload (va := (2, 42)) rfl rfl) ?_
                  refine xg_t (xg_getf (va := (0, af2)) hcl193 rfl) ?_
                  refine xg_baldY (n := af2) (h2_2.fr hF187 (by decide)) (hb3) xnm0 (by omega) (fun u197 hu198 he199 => ?_)
                  refine xg_cSi mX8_isLetter (vs := [(0, u197)]) (rest := []) (cn1 := 0) (sl1 := 0) rfl (tkIsLetter (hI186) (by omega)) rfl rfl rfl rfl rfl rfl rfl (fun n204 w200 hq201 => ?_)
                  obtain ⟨hn205, hI202, hF203⟩ := hq201
                  by_cases hc206 : n204 = 0
                  · refine xg_t (xg_ifT (u := n204) rfl xnm0 (xj_eqT hc206)) ?_
                    refine xg_t (xg_blq rfl) ?_
                    exact xg_e ⟨w200, ⟨rfl, rfl⟩, hI202, (hF187.tr (hF203.up (by decide)))⟩
                  · refine xg_t (xg_ifF (u := n204) rfl xnm0 (xj_eqF hc206)) ?_
                    refine xg_t (xg_aload (va := (2, 42)) rfl rfl) ?_
                    refine xg_t (xg_dup rfl) ?_
                    refine xg_t (xg_getf (va := (0, af2)) (hF203.get (by decide) hcl193) rfl) ?_
                    refine xg_t (xg_const) ?_
                    refine xg_t (xg_iadd (u := af2) (v := 1) (z := af2 + 1) xnm0 xnm0 (by omega)) ?_
                    refine xg_putI (fl1 := [(2, 2), (0, le2), (0, kd2), (0, pl2), (0, af2 + 1), (0, nu2)]) (hF203.get (by decide) hcl193) rfl rfl rfl (fun w207 hk208 hb209 => ?_)
                    refine xg_t (xg_goto) ?_
                    exact ih183 le2 kd2 pl2 (af2 + 1) nu2 w207 (by omega) (hn188) (hn189) (hn190) (by omega) (hn192) hk208 (by omega) (xInv.up (S := [42]) hI202 (xFr.of (S := [42]) hb209 (by decide)) (List.forall_mem_cons.mpr ⟨xqu42 (show cp42 (wget w207 42) from xmC42 le2 kd2 pl2 (af2 + 1) nu2 hk208 hn188 hn189 hn190 (by omega) hn192 (by omega)), fun _ h => absurd h List.not_mem_nil⟩)) (((hF187.tr (hF203.up (by decide))).tr (xFr.of (S := [42]) hb209 (by decide))))
                · refine xg_t (xg_icT (u := af2) (v := le2) rfl xnm0 xnm0 (xj_geT (by omega) (by omega))) ?_
                  refine xg_t (xg_blq rfl) ?_
                  exact xg_e ⟨w185, ⟨rfl, rfl⟩, hI186, hF187⟩
            exact key182 _ le1 1 af1 af1 nu1 w179 (Nat.lt_succ_self _) (hn22) (by decide) (hn25) (hn25) (hn26) hk180 (by omega) (xInv.up (S := [42]) hI138 (xFr.of (S := [42]) hb181 (by decide)) (List.forall_mem_cons.mpr ⟨xqu42 (show cp42 (wget w179 42) from xmC42 le1 1 af1 af1 nu1 hk180 hn22 (by decide) hn25 hn25 hn26 (by omega)), fun _ h => absurd h List.not_mem_nil⟩)) ((((hF21.tr (xFr.of (S := [42]) hb131 (by decide))).tr (hF139.up (by decide))).tr (xFr.of (S := [42]) hb181 (by decide))))
        · refine xg_t (xg_icF (u := af1) (v := le1) rfl xnm0 xnm0 (xj_ltF (by omega) (by omega))) ?_
          refine xg_t (xg_aload (va := (2, 42)) rfl rfl) ?_
          refine xg_t (xg_const) ?_
          refine xg_putI (fl1 := [(2, 2), (0, le1), (0, 0), (0, af1), (0, af1), (0, nu1)]) hk130 rfl rfl rfl (fun w210 hk211 hb212 => ?_)
          refine xg_t (xg_goto) ?_
          refine xg_t (xg_blq rfl) ?_
          exact xg_e ⟨w210, ⟨rfl, rfl⟩, xInv.up (S := [42]) hI20 ((xFr.of (S := [42]) hb131 (by decide)).tr (xFr.of (S := [42]) hb212 (by decide))) (List.forall_mem_cons.mpr ⟨xqu42 (show cp42 (wget w210 42) from xmC42 le1 0 af1 af1 nu1 hk211 hn22 (by decide) hn25 hn25 hn26 (by omega)), fun _ h => absurd h List.not_mem_nil⟩), (hF21.tr ((xFr.of (S := [42]) hb131 (by decide)).tr (xFr.of (S := [42]) hb212 (by decide))))⟩
  exact key16 _ f42_4 f42_6 f42_8 f42_10 f42_12 w (Nat.lt_succ_self _) (hb5) (hb7) (hb9) (hb11) (hb13) h42_14 (by omega) (hI) (xFr.rf)
theorem tkStart42 {nl : Nat} (hI : xInv w) (h1 : nl ≤ 500) : xPq (d + 3) mX8_start [(2, 42), (0, nl)] w bd fc rr [] (fun w' => xInv w' ∧ xFr [42] w w') := by
  refine xPq.of ?_
  show xTo (d + 3) mX8_start (0, [], [(0, (2, 42)), (1, (0, nl))], [], (w, bd, fc, 0, 0, rr)) (fun φ => ∃ w', xEnd 0 [] (w', bd, fc, 0, 0, rr) φ ∧ xInv w' ∧ xFr [42] w w')
  refine xg_t (xg_blq rfl) ?_
  refine xg_t (xg_aload (va := (2, 42)) rfl rfl) ?_
  refine xg_t (xg_iload (va := (0, nl)) rfl rfl) ?_
  refine xg_t (xg_aload (va := (2, 42)) rfl rfl) ?_
  refine xoC42 (xqc42 hI : cp42 (wget w 42)) (fun f42_1 f42_3 f42_5 f42_7 f42_9 h42_11 hb2 hb4 hb6 hb8 hb10 hb12 => ?_)
  refine xg_t (xg_getf (va := (2, 2)) h42_11 rfl) ?_
  obtain ⟨g2_13, h2_14, hb15⟩ := (xqc2 hI : cpY 500 0 (wget w 2))
  have h2_14 : xRk 1 0 w 2 500 0 g2_13 := h2_14
  obtain ⟨us16, ha17, ha18⟩ := id h2_14
  refine xg_t (xg_alen ha17) ?_
  refine xg_minK (u := nl) (v := 500) xnm0 xnm0 xmx_ok (by omega) (by omega) (fun z19 hz20 hz21 hz22 hz23 => ?_)
  unfold xbs at hz21 hz22
  refine xg_putI (fl1 := [(2, 2), (0, z19), (0, f42_3), (0, f42_5), (0, f42_7), (0, f42_9)]) h42_11 rfl rfl rfl (fun w24 hk25 hb26 => ?_)
  refine xg_t (xg_aload (va := (2, 42)) rfl rfl) ?_
  refine xg_t (xg_const) ?_
  refine xg_putI (fl1 := [(2, 2), (0, z19), (0, f42_3), (0, f42_5), (0, 0), (0, f42_9)]) hk25 rfl rfl rfl (fun w27 hk28 hb29 => ?_)
  refine xg_t (xg_aload (va := (2, 42)) rfl rfl) ?_
  refine xg_cVv mX8_advance (vs := []) (rest := []) (cn1 := 0) (sl1 := 0) rfl (tkAdvance42 (xInv.up (S := [42]) hI ((xFr.of (S := [42]) hb26 (by decide)).tr (xFr.of (S := [42]) hb29 (by decide))) (List.forall_mem_cons.mpr ⟨xqu42 (show cp42 (wget w27 42) from xmC42 z19 f42_3 f42_5 0 f42_9 hk28 (by omega) hb4 hb6 (by decide) hb10 (by omega)), fun _ h => absurd h List.not_mem_nil⟩))) rfl hk28 rfl rfl rfl rfl rfl rfl (fun w30 hq31 => ?_)
  obtain ⟨hI32, hF33⟩ := hq31
  exact xg_e ⟨w30, ⟨rfl, rfl⟩, hI32, (((xFr.of (S := [42]) hb26 (by decide)).tr (xFr.of (S := [42]) hb29 (by decide))).tr (hF33.up (by decide)))⟩
theorem tkIsSign42 {si : Nat} (hI : xInv w) (h1 : si ≤ 4294967295) : xPi d mX8_isSign [(2, 42), (0, si)] w bd fc rr (fun n w' => (n ≤ 1) ∧ xInv w' ∧ xFr [] w w') := by
  refine xPi.of ?_
  show xTo d mX8_isSign (0, [], [(0, (2, 42)), (1, (0, si))], [], (w, bd, fc, 0, 0, rr)) (fun φ => ∃ n w', xEnd 4 [(0, n)] (w', bd, fc, 0, 0, rr) φ ∧ (n ≤ 1) ∧ xInv w' ∧ xFr [] w w')
  refine xg_t (xg_blq rfl) ?_
  refine xg_t (xg_aload (va := (2, 42)) rfl rfl) ?_
  refine xoC42 (xqc42 hI : cp42 (wget w 42)) (fun f42_1 f42_3 f42_5 f42_7 f42_9 h42_11 hb2 hb4 hb6 hb8 hb10 hb12 => ?_)
  refine xg_t (xg_getf (va := (0, f42_3)) h42_11 rfl) ?_
  refine xg_t (xg_const) ?_
  by_cases hc13 : f42_3 = 3
  · refine xg_t (xg_icF (u := f42_3) (v := 3) rfl xnm0 xnm0 (xj_neF hc13)) ?_
    refine xg_t (xg_aload (va := (2, 42)) rfl rfl) ?_
    refine xg_t (xg_getf (va := (2, 2)) h42_11 rfl) ?_
    refine xg_t (xg_aload (va := (2, 42)) rfl rfl) ?_
    refine xg_t (xg_getf (va := (0, f42_5)) h42_11 rfl) ?_
    obtain ⟨g2_14, h2_15, hb16⟩ := (xqc2 hI : cpY 500 0 (wget w 2))
    have h2_15 : xRk 1 0 w 2 500 0 g2_14 := h2_15
    refine xg_baldY (n := f42_5) h2_15 (hb16) xnm0 (by omega) (fun u17 hu18 he19 => ?_)
    refine xg_t (xg_iload (va := (0, si)) rfl rfl) ?_
    by_cases hc20 : u17 = si
    · refine xg_t (xg_icF (u := u17) (v := si) rfl xnm0 xnm0 (xj_neF hc20)) ?_
      refine xg_t (xg_const) ?_
      refine xg_t (xg_goto) ?_
      refine xg_t (xg_blq rfl) ?_
      exact xg_e ⟨1, w, ⟨rfl, rfl⟩, by first | decide | omega, hI, xFr.rf⟩
    · refine xg_t (xg_icT (u := u17) (v := si) rfl xnm0 xnm0 (xj_neT hc20)) ?_
      refine xg_t (xg_blq rfl) ?_
      refine xg_t (xg_const) ?_
      refine xg_t (xg_blq rfl) ?_
      exact xg_e ⟨0, w, ⟨rfl, rfl⟩, by first | decide | omega, hI, xFr.rf⟩
  · refine xg_t (xg_icT (u := f42_3) (v := 3) rfl xnm0 xnm0 (xj_neT hc13)) ?_
    refine xg_t (xg_blq rfl) ?_
    refine xg_t (xg_const) ?_
    refine xg_t (xg_blq rfl) ?_
    exact xg_e ⟨0, w, ⟨rfl, rfl⟩, by first | decide | omega, hI, xFr.rf⟩
theorem tkTakeDigits48 {le0 kd0 pl0 af0 nu0 : Nat} (hI : xInv w) (hc0 : wget w 48 = some (.inl (8, [(2, 2), (0, le0), (0, kd0), (0, pl0), (0, af0), (0, nu0)]))) (hl0 : le0 ≤ 500) (hk0 : kd0 ≤ 4294967295) (hp0 : pl0 ≤ 499) (ha0 : af0 ≤ 500) (hn0 : nu0 ≤ 4294967295) : xPq (d + 1) mX8_takeDigits [(2, 48)] w bd fc rr [] (fun w' => xInv w' ∧ xFr [48] w w') := by
  refine xPq.of ?_
  show xTo (d + 1) mX8_takeDigits (0, [], [(0, (2, 48))], [], (w, bd, fc, 0, 0, rr)) (fun φ => ∃ w', xEnd 0 [] (w', bd, fc, 0, 0, rr) φ ∧ xInv w' ∧ xFr [48] w w')
  obtain ⟨g2_1, h2_2, hb3⟩ := (xqc2 hI : cpY 500 0 (wget w 2))
  have h2_2 : xRk 1 0 w 2 500 0 g2_1 := h2_2
  refine xg_t (xg_blq rfl) ?_
  refine xg_t (xg_aload (va := (2, 48)) rfl rfl) ?_
  refine xg_t (xg_const) ?_
  refine xg_putI (fl1 := [(2, 2), (0, le0), (0, kd0), (0, pl0), (0, af0), (0, 0)]) hc0 rfl rfl rfl (fun w4 hk5 hb6 => ?_)
  have key7 : ∀ (m9 : Nat) (le1 kd1 pl1 af1 nu1 : Nat) (w10 : List (List xE)), 500 - af1 < m9 → le1 ≤ 500 → kd1 ≤ 4294967295 → pl1 ≤ 500 → af1 ≤ 500 → nu1 ≤ 4294967295 → wget w10 48 = some (.inl (8, [(2, 2), (0, le1), (0, kd1), (0, pl1), (0, af1), (0, nu1)])) → (kd1 = 0 ∨ pl1 ≤ 499) → xInv w10 → xFr [48] w w10 → pl1 ≤ 499 → xTo (d + 1) mX8_takeDigits (5, [], [(0, (2, 48))], [], (w10, bd, fc, 0, 0, rr)) (fun φ => ∃ w', xEnd 0 [] (w', bd, fc, 0, 0, rr) φ ∧ xInv w' ∧ xFr [48] w w') := by
    intro m9
    induction m9 with
    | zero => intro le1 kd1 pl1 af1 nu1 w10 hz; exact absurd hz (Nat.not_lt_zero _)
    | succ m9 ih8 =>
      intro le1 kd1 pl1 af1 nu1 w10 hm21 hn13 hn14 hn15 hn16 hn17 hcl18 hx19 hI11 hF12 he20
      refine xg_t (xg_blq rfl) ?_
      refine xg_t (xg_aload (va := (2, 48)) rfl rfl) ?_
      refine xg_t (xg_getf (va := (0, af1)) hcl18 rfl) ?_
      refine xg_t (xg_aload (va := (2, 48)) rfl rfl) ?_
      refine xg_t (xg_getf (va := (0, le1)) hcl18 rfl) ?_
      by_cases hc22 : af1 < le1
      · refine xg_t (xg_icF (u := af1) (v := le1) rfl xnm0 xnm0 (xj_geF hc22 (by omega))) ?_
        refine xg_t (xg_aload (va := (2, 48)) rfl rfl) ?_
        refine xg_t (xg_getf (va := (2, 2)) hcl18 rfl) ?_
        refine xg_t (xg_aload (va := (2, 48)) rfl rfl) ?_
        refine xg_t (xg_getf (va := (0, af1)) hcl18 rfl) ?_
        refine xg_baldY (n := af1) (h2_2.fr hF12 (by decide)) (hb3) xnm0 (by omega) (fun u23 hu24 he25 => ?_)
        refine xg_cSi mX8_isDigit (vs := [(0, u23)]) (rest := []) (cn1 := 0) (sl1 := 0) rfl (tkIsDigit (hI11) (by omega)) rfl rfl rfl rfl rfl rfl rfl (fun n30 w26 hq27 => ?_)
        obtain ⟨hn31, hI28, hF29⟩ := hq27
        by_cases hc32 : n30 = 0
        · refine xg_t (xg_ifT (u := n30) rfl xnm0 (xj_eqT hc32)) ?_
          refine xg_t (xg_blq rfl) ?_
          refine xg_t (xg_aload (va := (2, 48)) rfl rfl) ?_
          refine xg_t (xg_aload (va := (2, 48)) rfl rfl) ?_
          refine xg_t (xg_getf (va := (0, af1)) (hF29.get (by decide) hcl18) rfl) ?_
          refine xg_t (xg_aload (va := (2, 48)) rfl rfl) ?_
          refine xg_t (xg_getf (va := (0, pl1)) (hF29.get (by decide) hcl18) rfl) ?_
          refine xg_k (xg_isub (u := af1) (v := pl1) (z := (af1 + (4294967296 - pl1)) % 4294967296) xnm0 xnm0 rfl) (Nat.mod_lt _ (by decide)) (fun z33 hz34 => ?_)
          refine xg_t (xg_const) ?_
          by_cases hc35 : xbs 4 < xbs z33
          · have hc35u := hc35
            unfold xbs at hc35u
            have hn36 : z33 ≤ 2147483647 := by omega
            refine xg_t (xg_icF (u := z33) (v := 4) rfl xnm0 xnm0 (xjs_leF hc35)) ?_
            refine xg_t (xg_const) ?_
            refine xg_t (xg_goto) ?_
            refine xg_t (xg_blq rfl) ?_
            refine xg_putI (fl1 := [(2, 2), (0, le1), (0, 4), (0, pl1), (0, af1), (0, nu1)]) (hF29.get (by decide) hcl18) rfl rfl rfl (fun w37 hk38 hb39 => ?_)
            exact xg_e ⟨w37, ⟨rfl, rfl⟩, xInv.up (S := [48]) hI28 (xFr.of (S := [48]) hb39 (by decide)) (List.forall_mem_cons.mpr ⟨xqu48 (show cp48 (wget w37 48) from xmC48 le1 4 pl1 af1 nu1 hk38 hn13 (by decide) hn15 hn16 hn17 (by omega)), fun _ h => absurd h List.not_mem_nil⟩), ((hF12.tr (hF29.up (by decide))).tr (xFr.of (S := [48]) hb39 (by decide)))⟩
          · have hc35u := hc35
            unfold xbs at hc35u
            refine xg_t (xg_icT (u := z33) (v := 4) rfl xnm0 xnm0 (xjs_leT hc35)) ?_
            refine xg_t (xg_blq rfl) ?_
            refine xg_t (xg_const) ?_
            refine xg_t (xg_blq rfl) ?_
            refine xg_putI (fl1 := [(2, 2), (0, le1), (0, 2), (0, pl1), (0, af1), (0, nu1)]) (hF29.get (by decide) hcl18) rfl rfl rfl (fun w40 hk41 hb42 => ?_)
            exact xg_e ⟨w40, ⟨rfl, rfl⟩, xInv.up (S := [48]) hI28 (xFr.of (S := [48]) hb42 (by decide)) (List.forall_mem_cons.mpr ⟨xqu48 (show cp48 (wget w40 48) from xmC48 le1 2 pl1 af1 nu1 hk41 hn13 (by decide) hn15 hn16 hn17 (by omega)), fun _ h => absurd h List.not_mem_nil⟩), ((hF12.tr (hF29.up (by decide))).tr (xFr.of (S := [48]) hb42 (by decide)))⟩
        · refine xg_t (xg_ifF (u := n30) rfl xnm0 (xj_eqF hc32)) ?_
          refine xg_t (xg_aload (va := (2, 48)) rfl rfl) ?_
          refine xg_t (xg_getf (va := (0, af1)) (hF29.get (by decide) hcl18) rfl) ?_
          refine xg_t (xg_aload (va := (2, 48)) rfl rfl) ?_
          refine xg_t (xg_getf (va := (0, pl1)) (hF29.get (by decide) hcl18) rfl) ?_
          refine xg_k (xg_isub (u := af1) (v := pl1) (z := (af1 + (4294967296 - pl1)) % 4294967296) xnm0 xnm0 rfl) (Nat.mod_lt _ (by decide)) (fun z43 hz44 => ?_)
          refine xg_t (xg_const) ?_
          by_cases hc45 : xbs z43 < xbs 4
          · have hc45u := hc45
            unfold xbs at hc45u
            refine xg_t (xg_icF (u := z43) (v := 4) rfl xnm0 xnm0 (xjs_geF hc45)) ?_
            refine xg_t (xg_aload (va := (2, 48)) rfl rfl) ?_
            refine xg_t (xg_aload (va := (2, 48)) rfl rfl) ?_
            refine xg_t (xg_getf (va := (0, nu1)) (hF29.get (by decide) hcl18) rfl) ?_
            refine xg_t (xg_bip) ?_
            refine xg_k (xg_imul (u := nu1) (v := 10) (z := (nu1 * 10) % 4294967296) xnm0 xnm0 rfl) (Nat.mod_lt _ (by decide)) (fun z46 hz47 => ?_)
            refine xg_t (xg_aload (va := (2, 48)) rfl rfl) ?_
            refine xg_t (xg_getf (va := (2, 2)) (hF29.get (by decide) hcl18) rfl) ?_
            refine xg_t (xg_aload (va := (2, 48)) rfl rfl) ?_
            refine xg_t (xg_getf (va := (0, af1)) (hF29.get (by decide) hcl18) rfl) ?_
            refine xg_baldY (n := af1) ((h2_2.fr hF12 (by decide)).fr hF29 (by decide)) (hb3) xnm0 (by omega) (fun u48 hu49 he50 => ?_)
            refine xg_k (xg_iadd (u := z46) (v := u48) (z := (z46 + u48) % 4294967296) xnm0 xnm0 rfl) (Nat.mod_lt _ (by decide)) (fun z51 hz52 => ?_)
            refine xg_t (xg_bip) ?_
            refine xg_k (xg_isub (u := z51) (v := 48) (z := (z51 + (4294967296 - 48)) % 4294967296) xnm0 xnm0 rfl) (Nat.mod_lt _ (by decide)) (fun z53 hz54 => ?_)
            refine xg_putI (fl1 := [(2, 2), (0, le1), (0, kd1), (0, pl1), (0, af1), (0, z53)]) (hF29.get (by decide) hcl18) rfl rfl rfl (fun w55 hk56 hb57 => ?_)
            refine xg_t (xg_blq rfl) ?_
            refine xg_t (xg_aload (va := (2, 48)) rfl rfl) ?_
            refine xg_t (xg_dup rfl) ?_
            refine xg_t (xg_getf (va := (0, af1)) hk56 rfl) ?_
            refine xg_t (xg_const) ?_
            refine xg_t (xg_iadd (u := af1) (v := 1) (z := af1 + 1) xnm0 xnm0 (by omega)) ?_
            refine xg_putI (fl1 := [(2, 2), (0, le1), (0, kd1), (0, pl1), (0, af1 + 1), (0, z53)]) hk56 rfl rfl rfl (fun w58 hk59 hb60 => ?_)
            refine xg_t (xg_goto) ?_
            exact ih8 le1 kd1 pl1 (af1 + 1) z53 w58 (by omega) (hn13) (hn14) (hn15) (by omega) (by omega) hk59 (by omega) (xInv.up (S := [48]) hI28 ((xFr.of (S := [48]) hb57 (by decide)).tr (xFr.of (S := [48]) hb60 (by decide))) (List.forall_mem_cons.mpr ⟨xqu48 (show cp48 (wget w58 48) from xmC48 le1 kd1 pl1 (af1 + 1) z53 hk59 hn13 hn14 hn15 (by omega) (by omega) (by omega)), fun _ h => absurd h List.not_mem_nil⟩)) (((hF12.tr (hF29.up (by decide))).tr ((xFr.of (S := [48]) hb57 (by decide)).tr (xFr.of (S := [48]) hb60 (by decide))))) (by omega)
          · have hc45u := hc45
            unfold xbs at hc45u
            have hn61 : z43 ≤ 2147483647 := by omega
            refine xg_t (xg_icT (u := z43) (v := 4) rfl xnm0 xnm0 (xjs_geT hc45)) ?_
            refine xg_t (xg_blq rfl) ?_
            refine xg_t (xg_aload (va := (2, 48)) rfl rfl) ?_
            refine xg_t (xg_dup rfl) ?_
            refine xg_t (xg_getf (va := (0, af1)) (hF29.get (by decide) hcl18) rfl) ?_
            refine xg_t (xg_const) ?_
            refine xg_t (xg_iadd (u := af1) (v := 1) (z := af1 + 1) xnm0 xnm0 (by omega)) ?_
            refine xg_putI (fl1 := [(2, 2), (0, le1), (0, kd1), (0, pl1), (0, af1 + 1), (0, nu1)]) (hF29.get (by decide) hcl18) rfl rfl rfl (fun w62 hk63 hb64 => ?_)
            refine xg_t (xg_goto) ?_
            exact ih8 le1 kd1 pl1 (af1 + 1) nu1 w62 (by omega) (hn13) (hn14) (hn15) (by omega) (hn17) hk63 (by omega) (xInv.up (S := [48]) hI28 (xFr.of (S := [48]) hb64 (by decide)) (List.forall_mem_cons.mpr ⟨xqu48 (show cp48 (wget w62 48) from xmC48 le1 kd1 pl1 (af1 + 1) nu1 hk63 hn13 hn14 hn15 (by omega) hn17 (by omega)), fun _ h => absurd h List.not_mem_nil⟩)) (((hF12.tr (hF29.up (by decide))).tr (xFr.of (S := [48]) hb64 (by decide)))) (by omega)
      · refine xg_t (xg_icT (u := af1) (v := le1) rfl xnm0 xnm0 (xj_geT (by omega) (by omega))) ?_
        refine xg_t (xg_blq rfl) ?_
        refine xg_t (xg_aload (va := (2, 48)) rfl rfl) ?_
        refine xg_t (xg_aload (va := (2, 48)) rfl rfl) ?_
        refine xg_t (xg_getf (va := (0, af1)) hcl18 rfl) ?_
        refine xg_t (xg_aload (va := (2, 48)) rfl rfl) ?_
        refine xg_t (xg_getf (va := (0, pl1)) hcl18 rfl) ?_
        refine xg_k (xg_isub (u := af1) (v := pl1) (z := (af1 + (4294967296 - pl1)) % 4294967296) xnm0 xnm0 rfl) (Nat.mod_lt _ (by decide)) (fun z65 hz66 => ?_)
        refine xg_t (xg_const) ?_
        by_cases hc67 : xbs 4 < xbs z65
        · have hc67u := hc67
          unfold xbs at hc67u
          have hn68 : z65 ≤ 2147483647 := by omega
          refine xg_t (xg_icF (u := z65) (v := 4) rfl xnm0 xnm0 (xjs_leF hc67)) ?_
          refine xg_t (xg_const) ?_
          refine xg_t (xg_goto) ?_
          refine xg_t (xg_blq rfl) ?_
          refine xg_putI (fl1 := [(2, 2), (0, le1), (0, 4), (0, pl1), (0, af1), (0, nu1)]) hcl18 rfl rfl rfl (fun w69 hk70 hb71 => ?_)
          exact xg_e ⟨w69, ⟨rfl, rfl⟩, xInv.up (S := [48]) hI11 (xFr.of (S := [48]) hb71 (by decide)) (List.forall_mem_cons.mpr ⟨xqu48 (show cp48 (wget w69 48) from xmC48 le1 4 pl1 af1 nu1 hk70 hn13 (by decide) hn15 hn16 hn17 (by omega)), fun _ h => absurd h List.not_mem_nil⟩), (hF12.tr (xFr.of (S := [48]) hb71 (by decide)))⟩
        · have hc67u := hc67
          unfold xbs at hc67u
          refine xg_t (xg_icT (u := z65) (v := 4) rfl xnm0 xnm0 (xjs_leT hc67)) ?_
          refine xg_t (xg_blq rfl) ?_
          refine xg_t (xg_const) ?_
          refine xg_t (xg_blq rfl) ?_
          refine xg_putI (fl1 := [(2, 2), (0, le1), (0, 2), (0, pl1), (0, af1), (0, nu1)]) hcl18 rfl rfl rfl (fun w72 hk73 hb74 => ?_)
          exact xg_e ⟨w72, ⟨rfl, rfl⟩, xInv.up (S := [48]) hI11 (xFr.of (S := [48]) hb74 (by decide)) (List.forall_mem_cons.mpr ⟨xqu48 (show cp48 (wget w72 48) from xmC48 le1 2 pl1 af1 nu1 hk73 hn13 (by decide) hn15 hn16 hn17 (by omega)), fun _ h => absurd h List.not_mem_nil⟩), (hF12.tr (xFr.of (S := [48]) hb74 (by decide)))⟩
  exact key7 _ le0 kd0 pl0 af0 0 w4 (Nat.lt_succ_self _) (by omega) (by omega) (by omega) (by omega) (by decide) hk5 (by omega) (xInv.up (S := [48]) hI (xFr.of (S := [48]) hb6 (by decide)) (List.forall_mem_cons.mpr ⟨xqu48 (show cp48 (wget w4 48) from xmC48 le0 kd0 pl0 af0 0 hk5 (by omega) (by omega) (by omega) (by omega) (by decide) (by omega)), fun _ h => absurd h List.not_mem_nil⟩)) ((xFr.of (S := [48]) hb6 (by decide))) (by omega)
theorem tkAdvance48 (hI : xInv w)  : xPq (d + 2) mX8_advance [(2, 48)] w bd fc rr [] (fun w' => xInv w' ∧ xFr [48] w w') := by
  refine xPq.of ?_
  show xTo (d + 2) mX8_advance (0, [], [(0, (2, 48))], [], (w, bd, fc, 0, 0, rr)) (fun φ => ∃ w', xEnd 0 [] (w', bd, fc, 0, 0, rr) φ ∧ xInv w' ∧ xFr [48] w w')
  obtain ⟨g2_1, h2_2, hb3⟩ := (xqc2 hI : cpY 500 0 (wget w 2))
  have h2_2 : xRk 1 0 w 2 500 0 g2_1 := h2_2
  refine xoC48 (xqc48 hI : cp48 (wget w 48)) (fun f48_4 f48_6 f48_8 f48_10 f48_12 h48_14 hb5 hb7 hb9 hb11 hb13 hb15 => ?_)
  have key16 : ∀ (m18 : Nat) (le1 kd1 pl1 af1 nu1 : Nat) (w19 : List (List xE)), 500 - af1 < m18 → le1 ≤ 500 → kd1 ≤ 4294967295 → pl1 ≤ 500 → af1 ≤ 500 → nu1 ≤ 4294967295 → wget w19 48 = some (.inl (8, [(2, 2), (0, le1), (0, kd1), (0, pl1), (0, af1), (0, nu1)])) → (kd1 = 0 ∨ pl1 ≤ 499) → xInv w19 → xFr [48] w w19 → xTo (d + 2) mX8_advance (0, [], [(0, (2, 48))], [], (w19, bd, fc, 0, 0, rr)) (fun φ => ∃ w', xEnd 0 [] (w', bd, fc, 0, 0, rr) φ ∧ xInv w' ∧ xFr [48] w w') := by
    intro m18
    induction m18 with
    | zero => intro le1 kd1 pl1 af1 nu1 w19 hz; exact absurd hz (Nat.not_lt_zero _)
    | succ m18 ih17 =>
      intro le1 kd1 pl1 af1 nu1 w19 hm29 hn22 hn23 hn24 hn25 hn26 hcl27 hx28 hI20 hF21
      refine xg_t (xg_blq rfl) ?_
      refine xg_t (xg_aload (va := (2, 48)) rfl rfl) ?_
      refine xg_t (xg_getf (va := (0, af1)) hcl27 rfl) ?_
      refine xg_t (xg_aload (va := (2, 48)) rfl rfl) ?_
      refine xg_t (xg_getf (va := (0, le1)) hcl27 rfl) ?_
      by_cases hc30 : af1 < le1
      · refine xg_t (xg_icF (u := af1) (v := le1) rfl xnm0 xnm0 (xj_geF hc30 (by omega))) ?_
        refine xg_t (xg_aload (va := (2, 48)) rfl rfl) ?_
        refine xg_t (xg_getf (va := (2, 2)) hcl27 rfl) ?_
        refine xg_t (xg_aload (va := (2, 48)) rfl rfl) ?_
        refine xg_t (xg_getf (va := (0, af1)) hcl27 rfl) ?_
        refine xg_baldY (n := af1) (h2_2.fr hF21 (by decide)) (hb3) xnm0 (by omega) (fun u31 hu32 he33 => ?_)
        refine xg_t (xg_bip) ?_
        by_cases hc34 : u31 = 32
        · refine xg_t (xg_icT (u := u31) (v := 32) rfl xnm0 xnm0 (xj_eqT hc34)) ?_
          refine xg_t (xg_blq rfl) ?_
          refine xg_t (xg_aload (va := (2, 48)) rfl rfl) ?_
          refine xg_t (xg_dup rfl) ?_
          refine xg_t (xg_getf (va := (0, af1)) hcl27 rfl) ?_
          refine xg_t (xg_const) ?_
          refine xg_t (xg_iadd (u := af1) (v := 1) (z := af1 + 1) xnm0 xnm0 (by omega)) ?_
          refine xg_putI (fl1 := [(2, 2), (0, le1), (0, kd1), (0, pl1), (0, af1 + 1), (0, nu1)]) hcl27 rfl rfl rfl (fun w35 hk36 hb37 => ?_)
          refine xg_t (xg_goto) ?_
          exact ih17 le1 kd1 pl1 (af1 + 1) nu1 w35 (by omega) (hn22) (hn23) (hn24) (by omega) (hn26) hk36 (by omega) (xInv.up (S := [48]) hI20 (xFr.of (S := [48]) hb37 (by decide)) (List.forall_mem_cons.mpr ⟨xqu48 (show cp48 (wget w35 48) from xmC48 le1 kd1 pl1 (af1 + 1) nu1 hk36 hn22 hn23 hn24 (by omega) hn26 (by omega)), fun _ h => absurd h List.not_mem_nil⟩)) ((hF21.tr (xFr.of (S := [48]) hb37 (by decide))))
        · refine xg_t (xg_icF (u := u31) (v := 32) rfl xnm0 xnm0 (xj_eqF hc34)) ?_
          refine xg_t (xg_aload (va := (2, 48)) rfl rfl) ?_
          refine xg_t (xg_getf (va := (2, 2)) hcl27 rfl) ?_
          refine xg_t (xg_aload (va := (2, 48)) rfl rfl) ?_
          refine xg_t (xg_getf (va := (0, af1)) hcl27 rfl) ?_
          refine xg_baldY (n := af1) (h2_2.fr hF21 (by decide)) (hb3) xnm0 (by omega) (fun u38 hu39 he40 => ?_)
          refine xg_t (xg_bip) ?_
          by_cases hc41 : u38 = 10
          · refine xg_t (xg_icF (u := u38) (v := 10) rfl xnm0 xnm0 (xj_neF hc41)) ?_
            refine xg_t (xg_blq rfl) ?_
            refine xg_t (xg_aload (va := (2, 48)) rfl rfl) ?_
            refine xg_t (xg_dup rfl) ?_
            refine xg_t (xg_getf (va := (0, af1)) hcl27 rfl) ?_
            refine xg_t (xg_const) ?_
            refine xg_t (xg_iadd (u := af1) (v := 1) (z := af1 + 1) xnm0 xnm0 (by omega)) ?_
            refine xg_putI (fl1 := [(2, 2), (0, le1), (0, kd1), (0, pl1), (0, af1 + 1), (0, nu1)]) hcl27 rfl rfl rfl (fun w42 hk43 hb44 => ?_)
            refine xg_t (xg_goto) ?_
            exact ih17 le1 kd1 pl1 (af1 + 1) nu1 w42 (by omega) (hn22) (hn23) (hn24) (by omega) (hn26) hk43 (by omega) (xInv.up (S := [48]) hI20 (xFr.of (S := [48]) hb44 (by decide)) (List.forall_mem_cons.mpr ⟨xqu48 (show cp48 (wget w42 48) from xmC48 le1 kd1 pl1 (af1 + 1) nu1 hk43 hn22 hn23 hn24 (by omega) hn26 (by omega)), fun _ h => absurd h List.not_mem_nil⟩)) ((hF21.tr (xFr.of (S := [48]) hb44 (by decide))))
          · refine xg_t (xg_icT (u := u38) (v := 10) rfl xnm0 xnm0 (xj_neT hc41)) ?_
            refine xg_t (xg_blq rfl) ?_
            refine xg_t (xg_aload (va := (2, 48)) rfl rfl) ?_
            refine xg_t (xg_aload (va := (2, 48)) rfl rfl) ?_
            refine xg_t (xg_getf (va := (0, af1)) hcl27 rfl) ?_
            refine xg_putI (fl1 := [(2, 2), (0, le1), (0, kd1), (0, af1), (0, af1), (0, nu1)]) hcl27 rfl rfl rfl (fun w45 hk46 hb47 => ?_)
            refine xg_t (xg_aload (va := (2, 48)) rfl rfl) ?_
            refine xg_t (xg_getf (va := (0, af1)) hk46 rfl) ?_
            refine xg_t (xg_aload (va := (2, 48)) rfl rfl) ?_
            refine xg_t (xg_getf (va := (0, le1)) hk46 rfl) ?_
            by_cases hc48 : af1 < le1
            · refine xg_t (xg_icT (u := af1) (v := le1) rfl xnm0 xnm0 (xj_ltT hc48 (by omega))) ?_
              refine xg_t (xg_blq rfl) ?_
              refine xg_t (xg_aload (va := (2, 48)) rfl rfl) ?_
              refine xg_t (xg_getf (va := (2, 2)) hk46 rfl) ?_
              refine xg_t (xg_aload (va := (2, 48)) rfl rfl) ?_
              refine xg_t (xg_getf (va := (0, af1)) hk46 rfl) ?_
              refine xg_baldY (n := af1) ((h2_2.fr hF21 (by decide)).but hb47 (by decide)) (hb3) xnm0 (by omega) (fun u49 hu50 he51 => ?_)
              refine xg_cSi mX8_isLetter (vs := [(0, u49)]) (rest := []) (cn1 := 0) (sl1 := 0) rfl (tkIsLetter (xInv.up (S := [48]) hI20 (xFr.of (S := [48]) hb47 (by decide)) (List.forall_mem_cons.mpr ⟨xqu48 (show cp48 (wget w45 48) from xmC48 le1 kd1 af1 af1 nu1 hk46 hn22 hn23 hn25 hn25 hn26 (by omega)), fun _ h => absurd h List.not_mem_nil⟩)) (by omega)) rfl rfl rfl rfl rfl rfl rfl (fun n56 w52 hq53 => ?_)
              obtain ⟨hn57, hI54, hF55⟩ := hq53
              by_cases hc58 : n56 = 0
              · refine xg_t (xg_ifT (u := n56) rfl xnm0 (xj_eqT hc58)) ?_
                refine xg_t (xg_blq rfl) ?_
                refine xg_t (xg_aload (va := (2, 48)) rfl rfl) ?_
                refine xg_t (xg_getf (va := (2, 2)) (hF55.get (by decide) hk46) rfl) ?_
                refine xg_t (xg_aload (va := (2, 48)) rfl rfl) ?_
                refine xg_t (xg_getf (va := (0, af1)) (hF55.get (by decide) hk46) rfl) ?_
                refine xg_baldY (n := af1) (((h2_2.fr hF21 (by decide)).but hb47 (by decide)).fr hF55 (by decide)) (hb3) xnm0 (by omega) (fun u59 hu60 he61 => ?_)
                refine xg_cSi mX8_isDigit (vs := [(0, u59)]) (rest := []) (cn1 := 0) (sl1 := 0) rfl (tkIsDigit (hI54) (by omega)) rfl rfl rfl rfl rfl rfl rfl (fun n66 w62 hq63 => ?_)
                obtain ⟨hn67, hI64, hF65⟩ := hq63
                by_cases hc68 : n66 = 0
                · refine xg_t (xg_ifT (u := n66) rfl xnm0 (xj_eqT hc68)) ?_
                  refine xg_t (xg_blq rfl) ?_
                  refine xg_t (xg_aload (va := (2, 48)) rfl rfl) ?_
                  refine xg_t (xg_aload (va := (2, 48)) rfl rfl) ?_
                  refine xg_t (xg_getf (va := (2, 2)) (hF65.get (by decide) (hF55.get (by decide) hk46)) rfl) ?_
                  refine xg_t (xg_aload (va := (2, 48)) rfl rfl) ?_
                  refine xg_t (xg_getf (va := (0, af1)) (hF65.get (by decide) (hF55.get (by decide) hk46)) rfl) ?_
                  refine xg_baldY (n := af1) ((((h2_2.fr hF21 (by decide)).but hb47 (by decide)).fr hF55 (by decide)).fr hF65 (by decide)) (hb3) xnm0 (by omega) (fun u69 hu70 he71 => ?_)
                  refine xg_cSi mX8_isSignByte (vs := [(0, u69)]) (rest := [(2, 48)]) (cn1 := 0) (sl1 := 0) rfl (tkIsSignByte (hI64) (by omega)) rfl rfl rfl rfl rfl rfl rfl (fun n76 w72 hq73 => ?_)
                  obtain ⟨hn77, hI74, hF75⟩ := hq73
                  by_cases hc78 : n76 = 0
                  · refine xg_t (xg_ifT (u := n76) rfl xnm0 (xj_eqT hc78)) ?_
                    refine xg_t (xg_blq rfl) ?_
                    refine xg_t (xg_const) ?_
                    refine xg_t (xg_blq rfl) ?_
                    refine xg_putI (fl1 := [(2, 2), (0, le1), (0, 4), (0, af1), (0, af1), (0, nu1)]) (hF75.get (by decide) (hF65.get (by decide) (hF55.get (by decide) hk46))) rfl rfl rfl (fun w79 hk80 hb81 => ?_)
                    refine xg_t (xg_aload (va := (2, 48)) rfl rfl) ?_
                    refine xg_t (xg_dup rfl) ?_
                    refine xg_t (xg_getf (va := (0, af1)) hk80 rfl) ?_
                    refine xg_t (xg_const) ?_
                    refine xg_t (xg_iadd (u := af1) (v := 1) (z := af1 + 1) xnm0 xnm0 (by omega)) ?_
                    refine xg_putI (fl1 := [(2, 2), (0, le1), (0, 4), (0, af1), (0, af1 + 1), (0, nu1)]) hk80 rfl rfl rfl (fun w82 hk83 hb84 => ?_)
                    refine xg_t (xg_blq rfl) ?_
                    exact xg_e ⟨w82, ⟨rfl, rfl⟩, xInv.up (S := [48]) hI74 ((xFr.of (S := [48]) hb81 (by decide)).tr (xFr.of (S := [48]) hb84 (by decide))) (List.forall_mem_cons.mpr ⟨xqu48 (show cp48 (wget w82 48) from xmC48 le1 4 af1 (af1 + 1) nu1 hk83 hn22 (by decide) hn25 (by omega) hn26 (by omega)), fun _ h => absurd h List.not_mem_nil⟩), (((((hF21.tr (xFr.of (S := [48]) hb47 (by decide))).tr (hF55.up (by decide))).tr (hF65.up (by decide))).tr (hF75.up (by decide))).tr ((xFr.of (S := [48]) hb81 (by decide)).tr (xFr.of (S := [48]) hb84 (by decide))))⟩
                  · refine xg_t (xg_ifF (u := n76) rfl xnm0 (xj_eqF hc78)) ?_
                    refine xg_t (xg_const) ?_
                    refine xg_t (xg_goto) ?_
                    refine xg_t (xg_blq rfl) ?_
                    refine xg_putI (fl1 := [(2, 2), (0, le1), (0, 3), (0, af1), (0, af1), (0, nu1)]) (hF75.get (by decide) (hF65.get (by decide) (hF55.get (by decide) hk46))) rfl rfl rfl (fun w85 hk86 hb87 => ?_)
                    refine xg_t (xg_aload (va := (2, 48)) rfl rfl) ?_
                    refine xg_t (xg_dup rfl) ?_
                    refine xg_t (xg_getf (va := (0, af1)) hk86 rfl) ?_
                    refine xg_t (xg_const) ?_
                    refine xg_t (xg_iadd (u := af1) (v := 1) (z := af1 + 1) xnm0 xnm0 (by omega)) ?_
                    refine xg_putI (fl1 := [(2, 2), (0, le1), (0, 3), (0, af1), (0, af1 + 1), (0, nu1)]) hk86 rfl rfl rfl (fun w88 hk89 hb90 => ?_)
                    refine xg_t (xg_blq rfl) ?_
                    exact xg_e ⟨w88, ⟨rfl, rfl⟩, xInv.up (S := [48]) hI74 ((xFr.of (S := [48]) hb87 (by decide)).tr (xFr.of (S := [48]) hb90 (by decide))) (List.forall_mem_cons.mpr ⟨xqu48 (show cp48 (wget w88 48) from xmC48 le1 3 af1 (af1 + 1) nu1 hk89 hn22 (by decide) hn25 (by omega) hn26 (by omega)), fun _ h => absurd h List.not_mem_nil⟩), (((((hF21.tr (xFr.of (S := [48]) hb47 (by decide))).tr (hF55.up (by decide))).tr (hF65.up (by decide))).tr (hF75.up (by decide))).tr ((xFr.of (S := [48]) hb87 (by decide)).tr (xFr.of (S := [48]) hb90 (by decide))))⟩
                · refine xg_t (xg_ifF (u := n66) rfl xnm0 (xj_eqF hc68)) ?_
                  refine xg_t (xg_aload (va := (2, 48)) rfl rfl) ?_
                  refine xg_cVv mX8_takeDigits (vs := []) (rest := []) (cn1 := 0) (sl1 := 0) rfl (tkTakeDigits48 (hI64) (hF65.get (by decide) (hF55.get (by decide) hk46)) (by omega) (by omega) (by omega) (by omega) (by omega)) rfl (hF65.get (by decide) (hF55.get (by decide) hk46)) rfl rfl rfl rfl rfl rfl (fun w91 hq92 => ?_)
                  obtain ⟨hI93, hF94⟩ := hq92
                  refine xg_t (xg_goto) ?_
                  refine xg_t (xg_blq rfl) ?_
                  exact xg_e ⟨w91, ⟨rfl, rfl⟩, hI93, ((((hF21.tr (xFr.of (S := [48]) hb47 (by decide))).tr (hF55.up (by decide))).tr (hF65.up (by decide))).tr (hF94.up (by decide)))⟩
              · refine xg_t (xg_ifF (u := n56) rfl xnm0 (xj_eqF hc58)) ?_
                refine xg_t (xg_aload (va := (2, 48)) rfl rfl) ?_
                refine xg_t (xg_const) ?_
                refine xg_putI (fl1 := [(2, 2), (0, le1), (0, 1), (0, af1), (0, af1), (0, nu1)]) (hF55.get (by decide) hk46) rfl rfl rfl (fun w95 hk96 hb97 => ?_)
                have key98 : ∀ (m100 : Nat) (le2 kd2 pl2 af2 nu2 : Nat) (w101 : List (List xE)), 500 - af2 < m100 → le2 ≤ 500 → kd2 ≤ 4294967295 → pl2 ≤ 500 → af2 ≤ 500 → nu2 ≤ 4294967295 → wget w101 48 = some (.inl (8, [(2, 2), (0, le2), (0, kd2), (0, pl2), (0, af2), (0, nu2)])) → (kd2 = 0 ∨ pl2 ≤ 499) → xInv w101 → xFr [48] w w101 → xTo (d + 2) mX8_advance (99, [], [(0, (2, 48))], [], (w101, bd, fc, 0, 0, rr)) (fun φ => ∃ w', xEnd 0 [] (w', bd, fc, 0, 0, rr) φ ∧ xInv w' ∧ xFr [48] w w') := by
                  intro m100
                  induction m100 with
                  | zero => intro le2 kd2 pl2 af2 nu2 w101 hz; exact absurd hz (Nat.not_lt_zero _)
                  | succ m100 ih99 =>
                    intro le2 kd2 pl2 af2 nu2 w101 hm111 hn104 hn105 hn106 hn107 hn108 hcl109 hx110 hI102 hF103
                    refine xg_t (xg_blq rfl) ?_
                    refine xg_t (xg_aload (va := (2, 48)) rfl rfl) ?_
                    refine xg_t (xg_getf (va := (0, af2)) hcl109 rfl) ?_
                    refine xg_t (xg_aload (va := (2, 48)) rfl rfl) ?_
                    refine xg_t (xg_getf (va := (0, le2)) hcl109 rfl) ?_
                    by_cases hc112 : af2 < le2
                    · refine xg_t (xg_icF (u := af2) (v := le2) rfl xnm0 xnm0 (xj_geF hc112 (by omega))) ?_
                      refine xg_t (xg_aload (va := (2, 48)) rfl rfl) ?_
                      refine xg_t (xg_getf (va := (2, 2)) hcl109 rfl) ?_
                      refine xg_t (xg_aload (va := (2, 48)) rfl rfl) ?_
                      refine xg_t (xg_getf (va := (0, af2)) hcl109 rfl) ?_
                      refine xg_baldY (n := af2) (h2_2.fr hF103 (by decide)) (hb3) xnm0 (by omega) (fun u113 hu114 he115 => ?_)
                      refine xg_cSi mX8_isLetter (vs := [(0, u113)]) (rest := []) (cn1 := 0) (sl1 := 0) rfl (tkIsLetter (hI102) (by omega)) rfl rfl rfl rfl rfl rfl rfl (fun n120 w116 hq117 => ?_)
                      obtain ⟨hn121, hI118, hF119⟩ := hq117
                      by_cases hc122 : n120 = 0
                      · refine xg_t (xg_ifT (u := n120) rfl xnm0 (xj_eqT hc122)) ?_
                        refine xg_t (xg_blq rfl) ?_
                        exact xg_e ⟨w116, ⟨rfl, rfl⟩, hI118, (hF103.tr (hF119.up (by decide)))⟩
                      · refine xg_t (xg_ifF (u := n120) rfl xnm0 (xj_eqF hc122)) ?_
                        refine xg_t (xg_aload (va := (2, 48)) rfl rfl) ?_
                        refine xg_t (xg_dup rfl) ?_
                        refine xg_t (xg_getf (va := (0, af2)) (hF119.get (by decide) hcl109) rfl) ?_
                        refine xg_t (xg_const) ?_
                        refine xg_t (xg_iadd (u := af2) (v := 1) (z := af2 + 1) xnm0 xnm0 (by omega)) ?_
                        refine xg_putI (fl1 := [(2, 2), (0, le2), (0, kd2), (0, pl2), (0, af2 + 1), (0, nu2)]) (hF119.get (by decide) hcl109) rfl rfl rfl (fun w123 hk124 hb125 => ?_)
                        refine xg_t (xg_goto) ?_
                        exact ih99 le2 kd2 pl2 (af2 + 1) nu2 w123 (by omega) (hn104) (hn105) (hn106) (by omega) (hn108) hk124 (by omega) (xInv.up (S := [48]) hI118 (xFr.of (S := [48]) hb125 (by decide)) (List.forall_mem_cons.mpr ⟨xqu48 (show cp48 (wget w123 48) from xmC48 le2 kd2 pl2 (af2 + 1) nu2 hk124 hn104 hn105 hn106 (by omega) hn108 (by omega)), fun _ h => absurd h List.not_mem_nil⟩)) (((hF103.tr (hF119.up (by decide))).tr (xFr.of (S := [48]) hb125 (by decide))))
                    · refine xg_t (xg_icT (u := af2) (v := le2) rfl xnm0 xnm0 (xj_geT (by omega) (by omega))) ?_
                      refine xg_t (xg_blq rfl) ?_
                      exact xg_e ⟨w101, ⟨rfl, rfl⟩, hI102, hF103⟩
                exact key98 _ le1 1 af1 af1 nu1 w95 (Nat.lt_succ_self _) (hn22) (by decide) (hn25) (hn25) (hn26) hk96 (by omega) (xInv.up (S := [48]) hI54 (xFr.of (S := [48]) hb97 (by decide)) (List.forall_mem_cons.mpr ⟨xqu48 (show cp48 (wget w95 48) from xmC48 le1 1 af1 af1 nu1 hk96 hn22 (by decide) hn25 hn25 hn26 (by omega)), fun _ h => absurd h List.not_mem_nil⟩)) ((((hF21.tr (xFr.of (S := [48]) hb47 (by decide))).tr (hF55.up (by decide))).tr (xFr.of (S := [48]) hb97 (by decide))))
            · refine xg_t (xg_icF (u := af1) (v := le1) rfl xnm0 xnm0 (xj_ltF (by omega) (by omega))) ?_
              refine xg_t (xg_aload (va := (2, 48)) rfl rfl) ?_
              refine xg_t (xg_const) ?_
              refine xg_putI (fl1 := [(2, 2), (0, le1), (0, 0), (0, af1), (0, af1), (0, nu1)]) hk46 rfl rfl rfl (fun w126 hk127 hb128 => ?_)
              refine xg_t (xg_goto) ?_
              refine xg_t (xg_blq rfl) ?_
              exact xg_e ⟨w126, ⟨rfl, rfl⟩, xInv.up (S := [48]) hI20 ((xFr.of (S := [48]) hb47 (by decide)).tr (xFr.of (S := [48]) hb128 (by decide))) (List.forall_mem_cons.mpr ⟨xqu48 (show cp48 (wget w126 48) from xmC48 le1 0 af1 af1 nu1 hk127 hn22 (by decide) hn25 hn25 hn26 (by omega)), fun _ h => absurd h List.not_mem_nil⟩), (hF21.tr ((xFr.of (S := [48]) hb47 (by decide)).tr (xFr.of (S := [48]) hb128 (by decide))))⟩
      · refine xg_t (xg_icT (u := af1) (v := le1) rfl xnm0 xnm0 (xj_geT (by omega) (by omega))) ?_
        refine xg_t (xg_blq rfl) ?_
        refine xg_t (xg_aload (va := (2, 48)) rfl rfl) ?_
        refine xg_t (xg_aload (va := (2, 48)) rfl rfl) ?_
        refine xg_t (xg_getf (va := (0, af1)) hcl27 rfl) ?_
        refine xg_putI (fl1 := [(2, 2), (0, le1), (0, kd1), (0, af1), (0, af1), (0, nu1)]) hcl27 rfl rfl rfl (fun w129 hk130 hb131 => ?_)
        refine xg_t (xg_aload (va := (2, 48)) rfl rfl) ?_
        refine xg_t (xg_getf (va := (0, af1)) hk130 rfl) ?_
        refine xg_t (xg_aload (va := (2, 48)) rfl rfl) ?_
        refine xg_t (xg_getf (va := (0, le1)) hk130 rfl) ?_
        by_cases hc132 : af1 < le1
        · refine xg_t (xg_icT (u := af1) (v := le1) rfl xnm0 xnm0 (xj_ltT hc132 (by omega))) ?_
          refine xg_t (xg_blq rfl) ?_
          refine xg_t (xg_aload (va := (2, 48)) rfl rfl) ?_
          refine xg_t (xg_getf (va := (2, 2)) hk130 rfl) ?_
          refine xg_t (xg_aload (va := (2, 48)) rfl rfl) ?_
          refine xg_t (xg_getf (va := (0, af1)) hk130 rfl) ?_
          refine xg_baldY (n := af1) ((h2_2.fr hF21 (by decide)).but hb131 (by decide)) (hb3) xnm0 (by omega) (fun u133 hu134 he135 => ?_)
          refine xg_cSi mX8_isLetter (vs := [(0, u133)]) (rest := []) (cn1 := 0) (sl1 := 0) rfl (tkIsLetter (xInv.up (S := [48]) hI20 (xFr.of (S := [48]) hb131 (by decide)) (List.forall_mem_cons.mpr ⟨xqu48 (show cp48 (wget w129 48) from xmC48 le1 kd1 af1 af1 nu1 hk130 hn22 hn23 hn25 hn25 hn26 (by omega)), fun _ h => absurd h List.not_mem_nil⟩)) (by omega)) rfl rfl rfl rfl rfl rfl rfl (fun n140 w136 hq137 => ?_)
          obtain ⟨hn141, hI138, hF139⟩ := hq137
          by_cases hc142 : n140 = 0
          · refine xg_t (xg_ifT (u := n140) rfl xnm0 (xj_eqT hc142)) ?_
            refine xg_t (xg_blq rfl) ?_
            refine xg_t (xg_aload (va := (2, 48)) rfl rfl) ?_
            refine xg_t (xg_getf (va := (2, 2)) (hF139.get (by decide) hk130) rfl) ?_
            refine xg_t (xg_aload (va := (2, 48)) rfl rfl) ?_
            refine xg_t (xg_getf (va := (0, af1)) (hF139.get (by decide) hk130) rfl) ?_
            refine xg_baldY (n := af1) (((h2_2.fr hF21 (by decide)).but hb131 (by decide)).fr hF139 (by decide)) (hb3) xnm0 (by omega) (fun u143 hu144 he145 => ?_)
            refine xg_cSi mX8_isDigit (vs := [(0, u143)]) (rest := []) (cn1 := 0) (sl1 := 0) rfl (tkIsDigit (hI138) (by omega)) rfl rfl rfl rfl rfl rfl rfl (fun n150 w146 hq147 => ?_)
            obtain ⟨hn151, hI148, hF149⟩ := hq147
            by_cases hc152 : n150 = 0
            · refine xg_t (xg_ifT (u := n150) rfl xnm0 (xj_eqT hc152)) ?_
              refine xg_t (xg_blq rfl) ?_
              refine xg_t (xg_aload (va := (2, 48)) rfl rfl) ?_
              refine xg_t (xg_aload (va := (2, 48)) rfl rfl) ?_
              refine xg_t (xg_getf (va := (2, 2)) (hF149.get (by decide) (hF139.get (by decide) hk130)) rfl) ?_
              refine xg_t (xg_aload (va := (2, 48)) rfl rfl) ?_
              refine xg_t (xg_getf (va := (0, af1)) (hF149.get (by decide) (hF139.get (by decide) hk130)) rfl) ?_
              refine xg_baldY (n := af1) ((((h2_2.fr hF21 (by decide)).but hb131 (by decide)).fr hF139 (by decide)).fr hF149 (by decide)) (hb3) xnm0 (by omega) (fun u153 hu154 he155 => ?_)
              refine xg_cSi mX8_isSignByte (vs := [(0, u153)]) (rest := [(2, 48)]) (cn1 := 0) (sl1 := 0) rfl (tkIsSignByte (hI148) (by omega)) rfl rfl rfl rfl rfl rfl rfl (fun n160 w156 hq157 => ?_)
              obtain ⟨hn161, hI158, hF159⟩ := hq157
              by_cases hc162 : n160 = 0
              · refine xg_t (xg_ifT (u := n160) rfl xnm0 (xj_eqT hc162)) ?_
                refine xg_t (xg_blq rfl) ?_
                refine xg_t (xg_const) ?_
                refine xg_t (xg_blq rfl) ?_
                refine xg_putI (fl1 := [(2, 2), (0, le1), (0, 4), (0, af1), (0, af1), (0, nu1)]) (hF159.get (by decide) (hF149.get (by decide) (hF139.get (by decide) hk130))) rfl rfl rfl (fun w163 hk164 hb165 => ?_)
                refine xg_t (xg_aload (va := (2, 48)) rfl rfl) ?_
                refine xg_t (xg_dup rfl) ?_
                refine xg_t (xg_getf (va := (0, af1)) hk164 rfl) ?_
                refine xg_t (xg_const) ?_
                refine xg_t (xg_iadd (u := af1) (v := 1) (z := af1 + 1) xnm0 xnm0 (by omega)) ?_
                refine xg_putI (fl1 := [(2, 2), (0, le1), (0, 4), (0, af1), (0, af1 + 1), (0, nu1)]) hk164 rfl rfl rfl (fun w166 hk167 hb168 => ?_)
                refine xg_t (xg_blq rfl) ?_
                exact xg_e ⟨w166, ⟨rfl, rfl⟩, xInv.up (S := [48]) hI158 ((xFr.of (S := [48]) hb165 (by decide)).tr (xFr.of (S := [48]) hb168 (by decide))) (List.forall_mem_cons.mpr ⟨xqu48 (show cp48 (wget w166 48) from xmC48 le1 4 af1 (af1 + 1) nu1 hk167 hn22 (by decide) hn25 (by omega) hn26 (by omega)), fun _ h => absurd h List.not_mem_nil⟩), (((((hF21.tr (xFr.of (S := [48]) hb131 (by decide))).tr (hF139.up (by decide))).tr (hF149.up (by decide))).tr (hF159.up (by decide))).tr ((xFr.of (S := [48]) hb165 (by decide)).tr (xFr.of (S := [48]) hb168 (by decide))))⟩
              · refine xg_t (xg_ifF (u := n160) rfl xnm0 (xj_eqF hc162)) ?_
                refine xg_t (xg_const) ?_
                refine xg_t (xg_goto) ?_
                refine xg_t (xg_blq rfl) ?_
                refine xg_putI (fl1 := [(2, 2), (0, le1), (0, 3), (0, af1), (0, af1), (0, nu1)]) (hF159.get (by decide) (hF149.get (by decide) (hF139.get (by decide) hk130))) rfl rfl rfl (fun w169 hk170 hb171 => ?_)
                refine xg_t (xg_aload (va := (2, 48)) rfl rfl) ?_
                refine xg_t (xg_dup rfl) ?_
                refine xg_t (xg_getf (va := (0, af1)) hk170 rfl) ?_
                refine xg_t (xg_const) ?_
                refine xg_t (xg_iadd (u := af1) (v := 1) (z := af1 + 1) xnm0 xnm0 (by omega)) ?_
                refine xg_putI (fl1 := [(2, 2), (0, le1), (0, 3), (0, af1), (0, af1 + 1), (0, nu1)]) hk170 rfl rfl rfl (fun w172 hk173 hb174 => ?_)
                refine xg_t (xg_blq rfl) ?_
                exact xg_e ⟨w172, ⟨rfl, rfl⟩, xInv.up (S := [48]) hI158 ((xFr.of (S := [48]) hb171 (by decide)).tr (xFr.of (S := [48]) hb174 (by decide))) (List.forall_mem_cons.mpr ⟨xqu48 (show cp48 (wget w172 48) from xmC48 le1 3 af1 (af1 + 1) nu1 hk173 hn22 (by decide) hn25 (by omega) hn26 (by omega)), fun _ h => absurd h List.not_mem_nil⟩), (((((hF21.tr (xFr.of (S := [48]) hb131 (by decide))).tr (hF139.up (by decide))).tr (hF149.up (by decide))).tr (hF159.up (by decide))).tr ((xFr.of (S := [48]) hb171 (by decide)).tr (xFr.of (S := [48]) hb174 (by decide))))⟩
            · refine xg_t (xg_ifF (u := n150) rfl xnm0 (xj_eqF hc152)) ?_
              refine xg_t (xg_aload (va := (2, 48)) rfl rfl) ?_
              refine xg_cVv mX8_takeDigits (vs := []) (rest := []) (cn1 := 0) (sl1 := 0) rfl (tkTakeDigits48 (hI148) (hF149.get (by decide) (hF139.get (by decide) hk130)) (by omega) (by omega) (by omega) (by omega) (by omega)) rfl (hF149.get (by decide) (hF139.get (by decide) hk130)) rfl rfl rfl rfl rfl rfl (fun w175 hq176 => ?_)
              obtain ⟨hI177, hF178⟩ := hq176
              refine xg_t (xg_goto) ?_
              refine xg_t (xg_blq rfl) ?_
              exact xg_e ⟨w175, ⟨rfl, rfl⟩, hI177, ((((hF21.tr (xFr.of (S := [48]) hb131 (by decide))).tr (hF139.up (by decide))).tr (hF149.up (by decide))).tr (hF178.up (by decide)))⟩
          · refine xg_t (xg_ifF (u := n140) rfl xnm0 (xj_eqF hc142)) ?_
            refine xg_t (xg_aload (va := (2, 48)) rfl rfl) ?_
            refine xg_t (xg_const) ?_
            refine xg_putI (fl1 := [(2, 2), (0, le1), (0, 1), (0, af1), (0, af1), (0, nu1)]) (hF139.get (by decide) hk130) rfl rfl rfl (fun w179 hk180 hb181 => ?_)
            have key182 : ∀ (m184 : Nat) (le2 kd2 pl2 af2 nu2 : Nat) (w185 : List (List xE)), 500 - af2 < m184 → le2 ≤ 500 → kd2 ≤ 4294967295 → pl2 ≤ 500 → af2 ≤ 500 → nu2 ≤ 4294967295 → wget w185 48 = some (.inl (8, [(2, 2), (0, le2), (0, kd2), (0, pl2), (0, af2), (0, nu2)])) → (kd2 = 0 ∨ pl2 ≤ 499) → xInv w185 → xFr [48] w w185 → xTo (d + 2) mX8_advance (99, [], [(0, (2, 48))], [], (w185, bd, fc, 0, 0, rr)) (fun φ => ∃ w', xEnd 0 [] (w', bd, fc, 0, 0, rr) φ ∧ xInv w' ∧ xFr [48] w w') := by
              intro m184
              induction m184 with
              | zero => intro le2 kd2 pl2 af2 nu2 w185 hz; exact absurd hz (Nat.not_lt_zero _)
              | succ m184 ih183 =>
                intro le2 kd2 pl2 af2 nu2 w185 hm195 hn188 hn189 hn190 hn191 hn192 hcl193 hx194 hI186 hF187
                refine xg_t (xg_blq rfl) ?_
                refine xg_t (xg_aload (va := (2, 48)) rfl rfl) ?_
                refine xg_t (xg_getf (va := (0, af2)) hcl193 rfl) ?_
                refine xg_t (xg_aload (va := (2, 48)) rfl rfl) ?_
                refine xg_t (xg_getf (va := (0, le2)) hcl193 rfl) ?_
                by_cases hc196 : af2 < le2
                · refine xg_t (xg_icF (u := af2) (v := le2) rfl xnm0 xnm0 (xj_geF hc196 (by omega))) ?_
                  refine xg_t (xg_aload (va := (2, 48)) rfl rfl) ?_
                  refine xg_t (xg_getf (va := (2, 2)) hcl193 rfl) ?_
                  refine xg_t (xg_aload (va := (2, 48)) rfl rfl) ?_
                  refine xg_t (xg_getf (va := (0, af2)) hcl193 rfl) ?_
                  refine xg_baldY (n := af2) (h2_2.fr hF187 (by decide)) (hb3) xnm0 (by omega) (fun u197 hu198 he199 => ?_)
                  refine xg_cSi mX8_isLetter (vs := [(0, u197)]) (rest := []) (cn1 := 0) (sl1 := 0) rfl (tkIsLetter (hI186) (by omega)) rfl rfl rfl rfl rfl rfl rfl (fun n204 w200 hq201 => ?_)
                  obtain ⟨hn205, hI202, hF203⟩ := hq201
                  by_cases hc206 : n204 = 0
                  · refine xg_t (xg_ifT (u := n204) rfl xnm0 (xj_eqT hc206)) ?_
                    refine xg_t (xg_blq rfl) ?_
                    exact xg_e ⟨w200, ⟨rfl, rfl⟩, hI202, (hF187.tr (hF203.up (by decide)))⟩
                  · refine xg_t (xg_ifF (u := n204) rfl xnm0 (xj_eqF hc206)) ?_
                    refine xg_t (xg_aload (va := (2, 48)) rfl rfl) ?_
                    refine xg_t (xg_dup rfl) ?_
                    refine xg_t (xg_getf (va := (0, af2)) (hF203.get (by decide) hcl193) rfl) ?_
                    refine xg_t (xg_const) ?_
                    refine xg_t (xg_iadd (u := af2) (v := 1) (z := af2 + 1) xnm0 xnm0 (by omega)) ?_
                    refine xg_putI (fl1 := [(2, 2), (0, le2), (0, kd2), (0, pl2), (0, af2 + 1), (0, nu2)]) (hF203.get (by decide) hcl193) rfl rfl rfl (fun w207 hk208 hb209 => ?_)
                    refine xg_t (xg_goto) ?_
                    exact ih183 le2 kd2 pl2 (af2 + 1) nu2 w207 (by omega) (hn188) (hn189) (hn190) (by omega) (hn192) hk208 (by omega) (xInv.up (S := [48]) hI202 (xFr.of (S := [48]) hb209 (by decide)) (List.forall_mem_cons.mpr ⟨xqu48 (show cp48 (wget w207 48) from xmC48 le2 kd2 pl2 (af2 + 1) nu2 hk208 hn188 hn189 hn190 (by omega) hn192 (by omega)), fun _ h => absurd h List.not_mem_nil⟩)) (((hF187.tr (hF203.up (by decide))).tr (xFr.of (S := [48]) hb209 (by decide))))
                · refine xg_t (xg_icT (u := af2) (v := le2) rfl xnm0 xnm0 (xj_geT (by omega) (by omega))) ?_
                  refine xg_t (xg_blq rfl) ?_
                  exact xg_e ⟨w185, ⟨rfl, rfl⟩, hI186, hF187⟩
            exact key182 _ le1 1 af1 af1 nu1 w179 (Nat.lt_succ_self _) (hn22) (by decide) (hn25) (hn25) (hn26) hk180 (by omega) (xInv.up (S := [48]) hI138 (xFr.of (S := [48]) hb181 (by decide)) (List.forall_mem_cons.mpr ⟨xqu48 (show cp48 (wget w179 48) from xmC48 le1 1 af1 af1 nu1 hk180 hn22 (by decide) hn25 hn25 hn26 (by omega)), fun _ h => absurd h List.not_mem_nil⟩)) ((((hF21.tr (xFr.of (S := [48]) hb131 (by decide))).tr (hF139.up (by decide))).tr (xFr.of (S := [48]) hb181 (by decide))))
        · refine xg_t (xg_icF (u := af1) (v := le1) rfl xnm0 xnm0 (xj_ltF (by omega) (by omega))) ?_
          refine xg_t (xg_aload (va := (2, 48)) rfl rfl) ?_
          refine xg_t (xg_const) ?_
          refine xg_putI (fl1 := [(2, 2), (0, le1), (0, 0), (0, af1), (0, af1), (0, nu1)]) hk130 rfl rfl rfl (fun w210 hk211 hb212 => ?_)
          refine xg_t (xg_goto) ?_
          refine xg_t (xg_blq rfl) ?_
          exact xg_e ⟨w210, ⟨rfl, rfl⟩, xInv.up (S := [48]) hI20 ((xFr.of (S := [48]) hb131 (by decide)).tr (xFr.of (S := [48]) hb212 (by decide))) (List.forall_mem_cons.mpr ⟨xqu48 (show cp48 (wget w210 48) from xmC48 le1 0 af1 af1 nu1 hk211 hn22 (by decide) hn25 hn25 hn26 (by omega)), fun _ h => absurd h List.not_mem_nil⟩), (hF21.tr ((xFr.of (S := [48]) hb131 (by decide)).tr (xFr.of (S := [48]) hb212 (by decide))))⟩
  exact key16 _ f48_4 f48_6 f48_8 f48_10 f48_12 w (Nat.lt_succ_self _) (hb5) (hb7) (hb9) (hb11) (hb13) h48_14 (by omega) (hI) (xFr.rf)
theorem tkStart48 {nl : Nat} (hI : xInv w) (h1 : nl ≤ 500) : xPq (d + 3) mX8_start [(2, 48), (0, nl)] w bd fc rr [] (fun w' => xInv w' ∧ xFr [48] w w') := by
  refine xPq.of ?_
  show xTo (d + 3) mX8_start (0, [], [(0, (2, 48)), (1, (0, nl))], [], (w, bd, fc, 0, 0, rr)) (fun φ => ∃ w', xEnd 0 [] (w', bd, fc, 0, 0, rr) φ ∧ xInv w' ∧ xFr [48] w w')
  refine xg_t (xg_blq rfl) ?_
  refine xg_t (xg_aload (va := (2, 48)) rfl rfl) ?_
  refine xg_t (xg_iload (va := (0, nl)) rfl rfl) ?_
  refine xg_t (xg_aload (va := (2, 48)) rfl rfl) ?_
  refine xoC48 (xqc48 hI : cp48 (wget w 48)) (fun f48_1 f48_3 f48_5 f48_7 f48_9 h48_11 hb2 hb4 hb6 hb8 hb10 hb12 => ?_)
  refine xg_t (xg_getf (va := (2, 2)) h48_11 rfl) ?_
  obtain ⟨g2_13, h2_14, hb15⟩ := (xqc2 hI : cpY 500 0 (wget w 2))
  have h2_14 : xRk 1 0 w 2 500 0 g2_13 := h2_14
  obtain ⟨us16, ha17, ha18⟩ := id h2_14
  refine xg_t (xg_alen ha17) ?_
  refine xg_minK (u := nl) (v := 500) xnm0 xnm0 xmx_ok (by omega) (by omega) (fun z19 hz20 hz21 hz22 hz23 => ?_)
  unfold xbs at hz21 hz22
  refine xg_putI (fl1 := [(2, 2), (0, z19), (0, f48_3), (0, f48_5), (0, f48_7), (0, f48_9)]) h48_11 rfl rfl rfl (fun w24 hk25 hb26 => ?_)
  refine xg_t (xg_aload (va := (2, 48)) rfl rfl) ?_
  refine xg_t (xg_const) ?_
  refine xg_putI (fl1 := [(2, 2), (0, z19), (0, f48_3), (0, f48_5), (0, 0), (0, f48_9)]) hk25 rfl rfl rfl (fun w27 hk28 hb29 => ?_)
  refine xg_t (xg_aload (va := (2, 48)) rfl rfl) ?_
  refine xg_cVv mX8_advance (vs := []) (rest := []) (cn1 := 0) (sl1 := 0) rfl (tkAdvance48 (xInv.up (S := [48]) hI ((xFr.of (S := [48]) hb26 (by decide)).tr (xFr.of (S := [48]) hb29 (by decide))) (List.forall_mem_cons.mpr ⟨xqu48 (show cp48 (wget w27 48) from xmC48 z19 f48_3 f48_5 0 f48_9 hk28 (by omega) hb4 hb6 (by decide) hb10 (by omega)), fun _ h => absurd h List.not_mem_nil⟩))) rfl hk28 rfl rfl rfl rfl rfl rfl (fun w30 hq31 => ?_)
  obtain ⟨hI32, hF33⟩ := hq31
  exact xg_e ⟨w30, ⟨rfl, rfl⟩, hI32, (((xFr.of (S := [48]) hb26 (by decide)).tr (xFr.of (S := [48]) hb29 (by decide))).tr (hF33.up (by decide)))⟩
theorem tkIsSign48 {si : Nat} (hI : xInv w) (h1 : si ≤ 4294967295) : xPi d mX8_isSign [(2, 48), (0, si)] w bd fc rr (fun n w' => (n ≤ 1) ∧ xInv w' ∧ xFr [] w w') := by
  refine xPi.of ?_
  show xTo d mX8_isSign (0, [], [(0, (2, 48)), (1, (0, si))], [], (w, bd, fc, 0, 0, rr)) (fun φ => ∃ n w', xEnd 4 [(0, n)] (w', bd, fc, 0, 0, rr) φ ∧ (n ≤ 1) ∧ xInv w' ∧ xFr [] w w')
  refine xg_t (xg_blq rfl) ?_
  refine xg_t (xg_aload (va := (2, 48)) rfl rfl) ?_
  refine xoC48 (xqc48 hI : cp48 (wget w 48)) (fun f48_1 f48_3 f48_5 f48_7 f48_9 h48_11 hb2 hb4 hb6 hb8 hb10 hb12 => ?_)
  refine xg_t (xg_getf (va := (0, f48_3)) h48_11 rfl) ?_
  refine xg_t (xg_const) ?_
  by_cases hc13 : f48_3 = 3
  · refine xg_t (xg_icF (u := f48_3) (v := 3) rfl xnm0 xnm0 (xj_neF hc13)) ?_
    refine xg_t (xg_aload (va := (2, 48)) rfl rfl) ?_
    refine xg_t (xg_getf (va := (2, 2)) h48_11 rfl) ?_
    refine xg_t (xg_aload (va := (2, 48)) rfl rfl) ?_
    refine xg_t (xg_getf (va := (0, f48_5)) h48_11 rfl) ?_
    obtain ⟨g2_14, h2_15, hb16⟩ := (xqc2 hI : cpY 500 0 (wget w 2))
    have h2_15 : xRk 1 0 w 2 500 0 g2_14 := h2_15
    refine xg_baldY (n := f48_5) h2_15 (hb16) xnm0 (by omega) (fun u17 hu18 he19 => ?_)
    refine xg_t (xg_iload (va := (0, si)) rfl rfl) ?_
    by_cases hc20 : u17 = si
    · refine xg_t (xg_icF (u := u17) (v := si) rfl xnm0 xnm0 (xj_neF hc20)) ?_
      refine xg_t (xg_const) ?_
      refine xg_t (xg_goto) ?_
      refine xg_t (xg_blq rfl) ?_
      exact xg_e ⟨1, w, ⟨rfl, rfl⟩, by first | decide | omega, hI, xFr.rf⟩
    · refine xg_t (xg_icT (u := u17) (v := si) rfl xnm0 xnm0 (xj_neT hc20)) ?_
      refine xg_t (xg_blq rfl) ?_
      refine xg_t (xg_const) ?_
      refine xg_t (xg_blq rfl) ?_
      exact xg_e ⟨0, w, ⟨rfl, rfl⟩, by first | decide | omega, hI, xFr.rf⟩
  · refine xg_t (xg_icT (u := f48_3) (v := 3) rfl xnm0 xnm0 (xj_neT hc13)) ?_
    refine xg_t (xg_blq rfl) ?_
    refine xg_t (xg_const) ?_
    refine xg_t (xg_blq rfl) ?_
    exact xg_e ⟨0, w, ⟨rfl, rfl⟩, by first | decide | omega, hI, xFr.rf⟩
end XTK
end
section
/-! FilmText: but for words -/
section XFT
variable {d : Nat} {w : List (List xE)} {bd : List (Nat × Nat)} {fc : List (Nat × Nat × Bool)} {rr : Nat × Nat}
theorem ftLifeTold {fr : Nat} (hI : xInv w) (h1 : fr ≤ 4294967295) : xPi (d + 1) mX2_isLifeTold [(2, 27), (0, fr)] w bd fc rr (fun n w' => (n ≤ 1) ∧ xInv w' ∧ xFr [] w w') := by
  refine xPi.of ?_
  show xTo (d + 1) mX2_isLifeTold (0, [], [(0, (2, 27)), (1, (0, fr))], [], (w, bd, fc, 0, 0, rr)) (fun φ => ∃ n w', xEnd 4 [(0, n)] (w', bd, fc, 0, 0, rr) φ ∧ (n ≤ 1) ∧ xInv w' ∧ xFr [] w w')
  refine xoC27 (xqc27 hI : cp27 (wget w 27)) (fun f27_1 f27_3 f27_5 f27_7 f27_9 h27_11 hb2 hb4 hb6 hb8 hb10 => ?_)
  refine xoC28 (xqc28 hI : cp28 (wget w 28)) (fun f28_12 f28_14 f28_16 f28_18 f28_20 h28_22 hb13 hb15 hb17 hb19 hb21 => ?_)
  obtain ⟨f31_23, h31_25, hb24⟩ := (xqc31 hI : cp31 (wget w 31))
  refine xoI (xqc32 hI : cpI 8 14 4294967295 (wget w 32)) (fun g32_26 h32_27 hb28 => ?_)
  refine xg_t (xg_blq rfl) ?_
  refine xg_t (xg_const) ?_
  refine xg_t (xg_istore (l1 := [(0, (2, 27)), (1, (0, fr))]) rfl rfl rfl) ?_
  refine xg_t (xg_drop (l1 := [(0, (2, 27)), (1, (0, fr)), (2, (0, 0))]) (List.forall_mem_cons.mpr ⟨List.mem_cons_of_mem _ (List.mem_cons_self), List.forall_mem_cons.mpr ⟨List.mem_cons_of_mem _ (List.mem_cons_of_mem _ (List.mem_cons_self)), List.forall_mem_cons.mpr ⟨List.mem_cons_self, fun _ h => absurd h List.not_mem_nil⟩⟩⟩)) ?_
  have key29 : ∀ (m31 : Nat) (ki : Nat) (w32 : List (List xE)), 4 - ki < m31 → ki ≤ 4 → xInv w32 → xFr [] w w32 → xTo (d + 1) mX2_isLifeTold (2, [], [(0, (2, 27)), (1, (0, fr)), (2, (0, ki))], [], (w32, bd, fc, 0, 0, rr)) (fun φ => ∃ n w', xEnd 4 [(0, n)] (w', bd, fc, 0, 0, rr) φ ∧ (n ≤ 1) ∧ xInv w' ∧ xFr [] w w') := by
    intro m31
    induction m31 with
    | zero => intro ki w32 hz; exact absurd hz (Nat.not_lt_zero _)
    | succ m31 ih30 =>
      intro ki w32 hm36 hn35 hI33 hF34
      refine xg_t (xg_blq rfl) ?_
      refine xg_t (xg_iload (va := (0, ki)) rfl rfl) ?_
      refine xg_t (xg_aload (va := (2, 27)) rfl rfl) ?_
      refine xg_t (xg_getf (va := (2, 28)) (hF34.get (by decide) h27_11) rfl) ?_
      refine xg_t (xg_getf (va := (2, 31)) (hF34.get (by decide) h28_22) rfl) ?_
      refine xg_t (xg_getf (va := (0, f31_23)) (hF34.get (by decide) h31_25) rfl) ?_
      by_cases hc37 : ki < f31_23
      · refine xg_t (xg_icF (u := ki) (v := f31_23) rfl xnm0 xnm0 (xj_geF hc37 (by omega))) ?_
        refine xg_t (xg_aload (va := (2, 27)) rfl rfl) ?_
        refine xg_t (xg_getf (va := (2, 28)) (hF34.get (by decide) h27_11) rfl) ?_
        refine xg_t (xg_getf (va := (2, 31)) (hF34.get (by decide) h28_22) rfl) ?_
        refine xg_t (xg_iload (va := (0, ki)) rfl rfl) ?_
        refine xg_t (xg_const) ?_
        refine xg_k (xg_cVr mX5_get (vs := [(0, ki), (0, 0)]) (rest := []) (rs := [(0, if ki < f31_23 ∧ 0 < 2 then g32_26 (ki * 2 + 0) else 4294967295)]) (cn1 := 0) (sl1 := 0) rfl (rget_ok (lim := 4) (wd := 2) (sz := f31_23) (hF34.get (by decide) h31_25) (h32_27.fr hF34 (by decide)) (by decide) (by omega) (by decide) (by decide) (by omega) (by omega)) rfl (hF34.get (by decide) h31_25) rfl rfl rfl rfl rfl rfl rfl) (xiteb (hb28)) (fun z38 hz39 => ?_)
        refine xg_t (xg_iload (va := (0, fr)) rfl rfl) ?_
        by_cases hc40 : z38 = fr
        · refine xg_t (xg_icF (u := z38) (v := fr) rfl xnm0 xnm0 (xj_neF hc40)) ?_
          refine xg_t (xg_const) ?_
          exact xg_e ⟨1, w32, ⟨rfl, rfl⟩, by first | decide | omega, hI33, hF34⟩
        · refine xg_t (xg_icT (u := z38) (v := fr) rfl xnm0 xnm0 (xj_neT hc40)) ?_
          refine xg_t (xg_blq rfl) ?_
          refine xg_t (xg_iinc (u := ki) (z := ki + 1) (l1 := [(0, (2, 27)), (1, (0, fr))]) rfl rfl (by omega) rfl) ?_
          refine xg_t (xg_goto) ?_
          refine xg_t (xg_drop (l1 := [(0, (2, 27)), (1, (0, fr)), (2, (0, ki + 1))]) (List.forall_mem_cons.mpr ⟨List.mem_cons_of_mem _ (List.mem_cons_self), List.forall_mem_cons.mpr ⟨List.mem_cons_of_mem _ (List.mem_cons_of_mem _ (List.mem_cons_self)), List.forall_mem_cons.mpr ⟨List.mem_cons_self, fun _ h => absurd h List.not_mem_nil⟩⟩⟩)) ?_
          exact ih30 (ki + 1) w32 (by omega) (by omega) (hI33) (hF34)
      · refine xg_t (xg_icT (u := ki) (v := f31_23) rfl xnm0 xnm0 (xj_geT (by omega) (by omega))) ?_
        refine xg_t (xg_blq rfl) ?_
        refine xg_t (xg_const) ?_
        exact xg_e ⟨0, w32, ⟨rfl, rfl⟩, by first | decide | omega, hI33, hF34⟩
  exact key29 _ 0 w (Nat.lt_succ_self _) (by omega) (hI) (xFr.rf)
theorem ftBeside (hI : xInv w)  : xPq (d + 1) mX2_findFlawBeside [(2, 27)] w bd fc rr [] (fun w' => xInv w' ∧ xFr [27] w w') := by
  refine xPq.of ?_
  show xTo (d + 1) mX2_findFlawBeside (0, [], [(0, (2, 27))], [], (w, bd, fc, 0, 0, rr)) (fun φ => ∃ w', xEnd 0 [] (w', bd, fc, 0, 0, rr) φ ∧ xInv w' ∧ xFr [27] w w')
  refine xoC28 (xqc28 hI : cp28 (wget w 28)) (fun f28_1 f28_3 f28_5 f28_7 f28_9 h28_11 hb2 hb4 hb6 hb8 hb10 => ?_)
  obtain ⟨f37_12, h37_14, hb13⟩ := (xqc37 hI : cp37 (wget w 37))
  refine xoI (xqc38 hI : cpI 40 17 4294967295 (wget w 38)) (fun g38_15 h38_16 hb17 => ?_)
  refine xg_t (xg_blq rfl) ?_
  refine xg_t (xg_const) ?_
  refine xg_t (xg_istore (l1 := [(0, (2, 27))]) rfl rfl rfl) ?_
  refine xg_t (xg_drop (l1 := [(0, (2, 27)), (1, (0, 0))]) (List.forall_mem_cons.mpr ⟨List.mem_cons_of_mem _ (List.mem_cons_self), List.forall_mem_cons.mpr ⟨List.mem_cons_self, fun _ h => absurd h List.not_mem_nil⟩⟩)) ?_
  have key18 : ∀ (m20 : Nat) (ki : Nat) (w21 : List (List xE)), 20 - ki < m20 → ki ≤ 20 → xInv w21 → xFr [27] w w21 → xTo (d + 1) mX2_findFlawBeside (2, [], [(0, (2, 27)), (1, (0, ki))], [], (w21, bd, fc, 0, 0, rr)) (fun φ => ∃ w', xEnd 0 [] (w', bd, fc, 0, 0, rr) φ ∧ xInv w' ∧ xFr [27] w w') := by
    intro m20
    induction m20 with
    | zero => intro ki w21 hz; exact absurd hz (Nat.not_lt_zero _)
    | succ m20 ih19 =>
      intro ki w21 hm25 hn24 hI22 hF23
      refine xg_t (xg_blq rfl) ?_
      refine xg_t (xg_aload (va := (2, 27)) rfl rfl) ?_
      refine xoC27 (xqc27 hI22 : cp27 (wget w21 27)) (fun f27_26 f27_28 f27_30 f27_32 f27_34 h27_36 hb27 hb29 hb31 hb33 hb35 => ?_)
      refine xg_t (xg_getf (va := (0, f27_32)) h27_36 rfl) ?_
      by_cases hc37 : f27_32 = 0
      · refine xg_t (xg_ifF (u := f27_32) rfl xnm0 (xj_neF hc37)) ?_
        refine xg_t (xg_iload (va := (0, ki)) rfl rfl) ?_
        refine xg_t (xg_aload (va := (2, 27)) rfl rfl) ?_
        refine xg_t (xg_getf (va := (2, 28)) h27_36 rfl) ?_
        refine xg_t (xg_getf (va := (2, 37)) (hF23.get (by decide) h28_11) rfl) ?_
        refine xg_t (xg_getf (va := (0, f37_12)) (hF23.get (by decide) h37_14) rfl) ?_
        by_cases hc38 : ki < f37_12
        · refine xg_t (xg_icF (u := ki) (v := f37_12) rfl xnm0 xnm0 (xj_geF hc38 (by omega))) ?_
          refine xg_t (xg_iload (va := (0, ki)) rfl rfl) ?_
          refine xg_t (xg_aload (va := (2, 27)) rfl rfl) ?_
          refine xg_t (xg_getf (va := (2, 41)) h27_36 rfl) ?_
          refine xoI (xqc41 hI22 : cpI 20 20 4294967295 (wget w21 41)) (fun g41_39 h41_40 hb41 => ?_)
          obtain ⟨us42, ha43, ha44⟩ := id h41_40
          refine xg_t (xg_alen ha43) ?_
          refine xg_t (xg_icF (u := ki) (v := 20) rfl xnm0 xnm0 (xj_geF (by omega) (by omega))) ?_
          refine xg_t (xg_aload (va := (2, 27)) rfl rfl) ?_
          refine xg_t (xg_getf (va := (2, 28)) h27_36 rfl) ?_
          refine xg_t (xg_getf (va := (2, 37)) (hF23.get (by decide) h28_11) rfl) ?_
          refine xg_t (xg_iload (va := (0, ki)) rfl rfl) ?_
          refine xg_t (xg_const) ?_
          refine xg_k (xg_cVr mX5_get (vs := [(0, ki), (0, 0)]) (rest := []) (rs := [(0, if ki < f37_12 ∧ 0 < 2 then g38_15 (ki * 2 + 0) else 4294967295)]) (cn1 := 0) (sl1 := 0) rfl (rget_ok (lim := 20) (wd := 2) (sz := f37_12) (hF23.get (by decide) h37_14) (h38_16.fr hF23 (by decide)) (by decide) (by omega) (by decide) (by decide) (by omega) (by omega)) rfl (hF23.get (by decide) h37_14) rfl rfl rfl rfl rfl rfl rfl) (xiteb (hb17)) (fun z45 hz46 => ?_)
          refine xg_t (xg_aload (va := (2, 27)) rfl rfl) ?_
          refine xg_t (xg_getf (va := (2, 28)) h27_36 rfl) ?_
          refine xg_t (xg_getf (va := (0, f28_1)) (hF23.get (by decide) h28_11) rfl) ?_
          by_cases hc47 : xbs z45 < xbs f28_1
          · have hc47u := hc47
            unfold xbs at hc47u
            have hn48 : f28_1 ≤ 10 := by omega
            refine xg_t (xg_icF (u := z45) (v := f28_1) rfl xnm0 xnm0 (xjs_geF hc47)) ?_
            refine xg_t (xg_aload (va := (2, 27)) rfl rfl) ?_
            refine xg_t (xg_getf (va := (2, 28)) h27_36 rfl) ?_
            refine xg_t (xg_getf (va := (2, 37)) (hF23.get (by decide) h28_11) rfl) ?_
            refine xg_t (xg_iload (va := (0, ki)) rfl rfl) ?_
            refine xg_t (xg_const) ?_
            refine xg_k (xg_cVr mX5_get (vs := [(0, ki), (0, 1)]) (rest := []) (rs := [(0, if ki < f37_12 ∧ 1 < 2 then g38_15 (ki * 2 + 1) else 4294967295)]) (cn1 := 0) (sl1 := 0) rfl (rget_ok (lim := 20) (wd := 2) (sz := f37_12) (hF23.get (by decide) h37_14) (h38_16.fr hF23 (by decide)) (by decide) (by omega) (by decide) (by decide) (by omega) (by omega)) rfl (hF23.get (by decide) h37_14) rfl rfl rfl rfl rfl rfl rfl) (xiteb (hb17)) (fun z49 hz50 => ?_)
            refine xg_t (xg_aload (va := (2, 27)) rfl rfl) ?_
            refine xg_t (xg_getf (va := (2, 28)) h27_36 rfl) ?_
            refine xg_t (xg_getf (va := (0, f28_3)) (hF23.get (by decide) h28_11) rfl) ?_
            by_cases hc51 : xbs z49 < xbs f28_3
            · have hc51u := hc51
              unfold xbs at hc51u
              have hn52 : f28_3 ≤ 10 := by omega
              refine xg_t (xg_icT (u := z49) (v := f28_3) rfl xnm0 xnm0 (xjs_ltT hc51)) ?_
              refine xg_t (xg_blq rfl) ?_
              refine xg_t (xg_iinc (u := ki) (z := ki + 1) (l1 := [(0, (2, 27))]) rfl rfl (by omega) rfl) ?_
              refine xg_t (xg_goto) ?_
              refine xg_t (xg_drop (l1 := [(0, (2, 27)), (1, (0, ki + 1))]) (List.forall_mem_cons.mpr ⟨List.mem_cons_of_mem _ (List.mem_cons_self), List.forall_mem_cons.mpr ⟨List.mem_cons_self, fun _ h => absurd h List.not_mem_nil⟩⟩)) ?_
              exact ih19 (ki + 1) w21 (by omega) (by omega) (hI22) (hF23)
            · have hc51u := hc51
              unfold xbs at hc51u
              have hn53 : z49 ≤ 2147483647 := by omega
              have hn54 : f28_3 ≤ 10 := by omega
              refine xg_t (xg_icF (u := z49) (v := f28_3) rfl xnm0 xnm0 (xjs_ltF hc51)) ?_
              refine xg_t (xg_blq rfl) ?_
              refine xg_t (xg_aload (va := (2, 27)) rfl rfl) ?_
              refine xg_t (xg_const) ?_
              refine xg_putI (fl1 := [(2, 1), (2, 42), (2, 28), (2, 39), (2, 40), (2, 41), (0, f27_26), (0, f27_28), (0, f27_30), (0, 4), (0, f27_34)]) h27_36 rfl rfl rfl (fun w55 hk56 hb57 => ?_)
              refine xg_t (xg_aload (va := (2, 27)) rfl rfl) ?_
              refine xg_t (xg_aload (va := (2, 27)) rfl rfl) ?_
              refine xg_t (xg_getf (va := (2, 41)) hk56 rfl) ?_
              refine xg_t (xg_iload (va := (0, ki)) rfl rfl) ?_
              refine xg_ialdB (n := ki) (B := 4294967295) (h41_40.but hb57 (by decide)) (hb41) xnm0 (by omega) (fun u58 hu59 he60 => ?_)
              refine xg_putI (fl1 := [(2, 1), (2, 42), (2, 28), (2, 39), (2, 40), (2, 41), (0, f27_26), (0, f27_28), (0, f27_30), (0, 4), (0, u58)]) hk56 rfl rfl rfl (fun w61 hk62 hb63 => ?_)
              refine xg_t (xg_blq rfl) ?_
              refine xg_t (xg_iinc (u := ki) (z := ki + 1) (l1 := [(0, (2, 27))]) rfl rfl (by omega) rfl) ?_
              refine xg_t (xg_goto) ?_
              refine xg_t (xg_drop (l1 := [(0, (2, 27)), (1, (0, ki + 1))]) (List.forall_mem_cons.mpr ⟨List.mem_cons_of_mem _ (List.mem_cons_self), List.forall_mem_cons.mpr ⟨List.mem_cons_self, fun _ h => absurd h List.not_mem_nil⟩⟩)) ?_
              exact ih19 (ki + 1) w61 (by omega) (by omega) (xInv.up (S := [27]) hI22 ((xFr.of (S := [27]) hb57 (by decide)).tr (xFr.of (S := [27]) hb63 (by decide))) (List.forall_mem_cons.mpr ⟨xqu27 (show cp27 (wget w61 27) from xmC27 f27_26 f27_28 f27_30 4 u58 hk62 hb27 hb29 hb31 (by decide) (by omega)), fun _ h => absurd h List.not_mem_nil⟩)) ((hF23.tr ((xFr.of (S := [27]) hb57 (by decide)).tr (xFr.of (S := [27]) hb63 (by decide)))))
          · have hc47u := hc47
            unfold xbs at hc47u
            have hn64 : z45 ≤ 2147483647 := by omega
            have hn65 : f28_1 ≤ 10 := by omega
            refine xg_t (xg_icT (u := z45) (v := f28_1) rfl xnm0 xnm0 (xjs_geT hc47)) ?_
            refine xg_t (xg_blq rfl) ?_
            refine xg_t (xg_aload (va := (2, 27)) rfl rfl) ?_
            refine xg_t (xg_const) ?_
            refine xg_putI (fl1 := [(2, 1), (2, 42), (2, 28), (2, 39), (2, 40), (2, 41), (0, f27_26), (0, f27_28), (0, f27_30), (0, 4), (0, f27_34)]) h27_36 rfl rfl rfl (fun w66 hk67 hb68 => ?_)
            refine xg_t (xg_aload (va := (2, 27)) rfl rfl) ?_
            refine xg_t (xg_aload (va := (2, 27)) rfl rfl) ?_
            refine xg_t (xg_getf (va := (2, 41)) hk67 rfl) ?_
            refine xg_t (xg_iload (va := (0, ki)) rfl rfl) ?_
            refine xg_ialdB (n := ki) (B := 4294967295) (h41_40.but hb68 (by decide)) (hb41) xnm0 (by omega) (fun u69 hu70 he71 => ?_)
            refine xg_putI (fl1 := [(2, 1), (2, 42), (2, 28), (2, 39), (2, 40), (2, 41), (0, f27_26), (0, f27_28), (0, f27_30), (0, 4), (0, u69)]) hk67 rfl rfl rfl (fun w72 hk73 hb74 => ?_)
            refine xg_t (xg_blq rfl) ?_
            refine xg_t (xg_iinc (u := ki) (z := ki + 1) (l1 := [(0, (2, 27))]) rfl rfl (by omega) rfl) ?_
            refine xg_t (xg_goto) ?_
            refine xg_t (xg_drop (l1 := [(0, (2, 27)), (1, (0, ki + 1))]) (List.forall_mem_cons.mpr ⟨List.mem_cons_of_mem _ (List.mem_cons_self), List.forall_mem_cons.mpr ⟨List.mem_cons_self, fun _ h => absurd h List.not_mem_nil⟩⟩)) ?_
            exact ih19 (ki + 1) w72 (by omega) (by omega) (xInv.up (S := [27]) hI22 ((xFr.of (S := [27]) hb68 (by decide)).tr (xFr.of (S := [27]) hb74 (by decide))) (List.forall_mem_cons.mpr ⟨xqu27 (show cp27 (wget w72 27) from xmC27 f27_26 f27_28 f27_30 4 u69 hk73 hb27 hb29 hb31 (by decide) (by omega)), fun _ h => absurd h List.not_mem_nil⟩)) ((hF23.tr ((xFr.of (S := [27]) hb68 (by decide)).tr (xFr.of (S := [27]) hb74 (by decide)))))
        · refine xg_t (xg_icT (u := ki) (v := f37_12) rfl xnm0 xnm0 (xj_geT (by omega) (by omega))) ?_
          refine xg_t (xg_blq rfl) ?_
          exact xg_e ⟨w21, ⟨rfl, rfl⟩, hI22, hF23⟩
      · refine xg_t (xg_ifT (u := f27_32) rfl xnm0 (xj_neT hc37)) ?_
        refine xg_t (xg_blq rfl) ?_
        exact xg_e ⟨w21, ⟨rfl, rfl⟩, hI22, hF23⟩
  exact key18 _ 0 w (Nat.lt_succ_self _) (by omega) (hI) (xFr.rf)
theorem ftTooMany {so : Nat} (hI : xInv w) (h1 : so ≤ 4294967295) : xPi (d + 2) mX2_isTooMany [(2, 27), (0, so)] w bd fc rr (fun n w' => (n ≤ 1) ∧ xInv w' ∧ xFr [] w w') := by
  refine xPi.of ?_
  show xTo (d + 2) mX2_isTooMany (0, [], [(0, (2, 27)), (1, (0, so))], [], (w, bd, fc, 0, 0, rr)) (fun φ => ∃ n w', xEnd 4 [(0, n)] (w', bd, fc, 0, 0, rr) φ ∧ (n ≤ 1) ∧ xInv w' ∧ xFr [] w w')
  refine xoC27 (xqc27 hI : cp27 (wget w 27)) (fun f27_1 f27_3 f27_5 f27_7 f27_9 h27_11 hb2 hb4 hb6 hb8 hb10 => ?_)
  refine xoI (xqc39 hI : cpI 3 18 4294967295 (wget w 39)) (fun g39_12 h39_13 hb14 => ?_)
  refine xg_t (xg_blq rfl) ?_
  refine xg_t (xg_iload (va := (0, so)) rfl rfl) ?_
  refine xg_t (xg_const) ?_
  by_cases hc15 : so = 5
  · refine xg_t (xg_icF (u := so) (v := 5) rfl xnm0 xnm0 (xj_neF hc15)) ?_
    refine xg_t (xg_aload (va := (2, 27)) rfl rfl) ?_
    refine xg_t (xg_getf (va := (0, f27_3)) h27_11 rfl) ?_
    exact xg_e ⟨f27_3, w, ⟨xret_b (by omega), rfl⟩, by omega, hI, xFr.rf⟩
  · refine xg_t (xg_icT (u := so) (v := 5) rfl xnm0 xnm0 (xj_neT hc15)) ?_
    refine xg_t (xg_blq rfl) ?_
    refine xg_t (xg_iload (va := (0, so)) rfl rfl) ?_
    refine xg_t (xg_bip) ?_
    by_cases hc16 : so = 6
    · refine xg_t (xg_icF (u := so) (v := 6) rfl xnm0 xnm0 (xj_neF hc16)) ?_
      refine xg_t (xg_aload (va := (2, 27)) rfl rfl) ?_
      refine xg_t (xg_getf (va := (0, f27_5)) h27_11 rfl) ?_
      exact xg_e ⟨f27_5, w, ⟨xret_b (by omega), rfl⟩, by omega, hI, xFr.rf⟩
    · refine xg_t (xg_icT (u := so) (v := 6) rfl xnm0 xnm0 (xj_neT hc16)) ?_
      refine xg_t (xg_blq rfl) ?_
      refine xg_t (xg_aload (va := (2, 27)) rfl rfl) ?_
      refine xg_t (xg_getf (va := (2, 28)) h27_11 rfl) ?_
      refine xg_t (xg_iload (va := (0, so)) rfl rfl) ?_
      obtain ⟨v17, hv18, hp19⟩ := rowsOf28 (d := d + 1) (bd := bd) (fc := fc) (rr := rr) (so := so) (hI) (by omega)
      rcases hv18 with rfl | rfl | rfl | rfl | rfl | rfl
      · refine xoC28 (xqc28 hI : cp28 (wget w 28)) (fun f28_20 f28_22 f28_24 f28_26 f28_28 h28_30 hb21 hb23 hb25 hb27 hb29 => ?_)
        refine xg_t (xg_cVr mX1_rowsOf (vs := [(0, so)]) (rest := []) (rs := [(2, 29)]) (cn1 := 0) (sl1 := 0) rfl (hp19) rfl h28_30 rfl rfl rfl rfl rfl rfl rfl) ?_
        refine xg_t (xg_astore (l1 := [(0, (2, 27)), (1, (0, so))]) rfl rfl rfl) ?_
        refine xg_t (xg_aload (va := (2, 29)) rfl rfl) ?_
        refine xg_t (xg_ifnullF) ?_
        refine xg_t (xg_aload (va := (2, 29)) rfl rfl) ?_
        obtain ⟨f29_31, h29_33, hb32⟩ := (xqc29 hI : cp29 (wget w 29))
        refine xg_t (xg_cVr mX5_isFull (vs := []) (rest := []) (rs := [(0, if 6 ≤ f29_31 then 1 else 0)]) (cn1 := 0) (sl1 := 0) rfl (rfull_ok h29_33 (by decide) (by omega)) rfl h29_33 rfl rfl rfl rfl rfl rfl rfl) ?_
        by_cases hc34 : 6 ≤ f29_31
        · refine xg_t (xg_ifT (u := (if 6 ≤ f29_31 then 1 else 0)) rfl xnm0 (xj_neT (xite1 hc34))) ?_
          refine xg_t (xg_blq rfl) ?_
          refine xg_t (xg_const) ?_
          refine xg_t (xg_goto) ?_
          refine xg_t (xg_blq rfl) ?_
          exact xg_e ⟨1, w, ⟨rfl, rfl⟩, by first | decide | omega, hI, xFr.rf⟩
        · refine xg_t (xg_ifF (u := (if 6 ≤ f29_31 then 1 else 0)) rfl xnm0 (xj_neF (xite0 hc34))) ?_
          refine xg_t (xg_iload (va := (0, so)) rfl rfl) ?_
          refine xg_t (xg_const) ?_
          by_cases hc35 : so = 1
          · refine xg_t (xg_icF (u := so) (v := 1) rfl xnm0 xnm0 (xj_neF hc35)) ?_
            refine xg_t (xg_aload (va := (2, 27)) rfl rfl) ?_
            refine xg_t (xg_aload (va := (2, 27)) rfl rfl) ?_
            refine xg_t (xg_getf (va := (2, 39)) h27_11 rfl) ?_
            refine xg_t (xg_const) ?_
            refine xg_ialdB (n := 0) (B := 4294967295) h39_13 (hb14) xnm0 (by first | decide | omega) (fun u36 hu37 he38 => ?_)
            refine xg_cVi mX2_isLifeTold (vs := [(0, u36)]) (rest := []) (cn1 := 0) (sl1 := 0) rfl (ftLifeTold (hI) (by omega)) rfl h27_11 rfl rfl rfl rfl rfl rfl (fun n43 w39 hq40 => ?_)
            obtain ⟨hn44, hI41, hF42⟩ := hq40
            by_cases hc45 : n43 = 0
            · refine xg_t (xg_ifT (u := n43) rfl xnm0 (xj_eqT hc45)) ?_
              refine xg_t (xg_blq rfl) ?_
              refine xg_t (xg_const) ?_
              refine xg_t (xg_blq rfl) ?_
              exact xg_e ⟨0, w39, ⟨rfl, rfl⟩, by first | decide | omega, hI41, (hF42.up (by decide))⟩
            · refine xg_t (xg_ifF (u := n43) rfl xnm0 (xj_eqF hc45)) ?_
              refine xg_t (xg_blq rfl) ?_
              refine xg_t (xg_const) ?_
              refine xg_t (xg_goto) ?_
              refine xg_t (xg_blq rfl) ?_
              exact xg_e ⟨1, w39, ⟨rfl, rfl⟩, by first | decide | omega, hI41, (hF42.up (by decide))⟩
          · refine xg_t (xg_icT (u := so) (v := 1) rfl xnm0 xnm0 (xj_neT hc35)) ?_
            refine xg_t (xg_blq rfl) ?_
            refine xg_t (xg_const) ?_
            refine xg_t (xg_blq rfl) ?_
            exact xg_e ⟨0, w, ⟨rfl, rfl⟩, by first | decide | omega, hI, xFr.rf⟩
      · refine xoC28 (xqc28 hI : cp28 (wget w 28)) (fun f28_46 f28_48 f28_50 f28_52 f28_54 h28_56 hb47 hb49 hb51 hb53 hb55 => ?_)
        refine xg_t (xg_cVr mX1_rowsOf (vs := [(0, so)]) (rest := []) (rs := [(2, 31)]) (cn1 := 0) (sl1 := 0) rfl (hp19) rfl h28_56 rfl rfl rfl rfl rfl rfl rfl) ?_
        refine xg_t (xg_astore (l1 := [(0, (2, 27)), (1, (0, so))]) rfl rfl rfl) ?_
        refine xg_t (xg_aload (va := (2, 31)) rfl rfl) ?_
        refine xg_t (xg_ifnullF) ?_
        refine xg_t (xg_aload (va := (2, 31)) rfl rfl) ?_
        obtain ⟨f31_57, h31_59, hb58⟩ := (xqc31 hI : cp31 (wget w 31))
        refine xg_t (xg_cVr mX5_isFull (vs := []) (rest := []) (rs := [(0, if 4 ≤ f31_57 then 1 else 0)]) (cn1 := 0) (sl1 := 0) rfl (rfull_ok h31_59 (by decide) (by omega)) rfl h31_59 rfl rfl rfl rfl rfl rfl rfl) ?_
        by_cases hc60 : 4 ≤ f31_57
        · refine xg_t (xg_ifT (u := (if 4 ≤ f31_57 then 1 else 0)) rfl xnm0 (xj_neT (xite1 hc60))) ?_
          refine xg_t (xg_blq rfl) ?_
          refine xg_t (xg_const) ?_
          refine xg_t (xg_goto) ?_
          refine xg_t (xg_blq rfl) ?_
          exact xg_e ⟨1, w, ⟨rfl, rfl⟩, by first | decide | omega, hI, xFr.rf⟩
        · refine xg_t (xg_ifF (u := (if 4 ≤ f31_57 then 1 else 0)) rfl xnm0 (xj_neF (xite0 hc60))) ?_
          refine xg_t (xg_iload (va := (0, so)) rfl rfl) ?_
          refine xg_t (xg_const) ?_
          by_cases hc61 : so = 1
          · refine xg_t (xg_icF (u := so) (v := 1) rfl xnm0 xnm0 (xj_neF hc61)) ?_
            refine xg_t (xg_aload (va := (2, 27)) rfl rfl) ?_
            refine xg_t (xg_aload (va := (2, 27)) rfl rfl) ?_
            refine xg_t (xg_getf (va := (2, 39)) h27_11 rfl) ?_
            refine xg_t (xg_const) ?_
            refine xg_ialdB (n := 0) (B := 4294967295) h39_13 (hb14) xnm0 (by first | decide | omega) (fun u62 hu63 he64 => ?_)
            refine xg_cVi mX2_isLifeTold (vs := [(0, u62)]) (rest := []) (cn1 := 0) (sl1 := 0) rfl (ftLifeTold (hI) (by omega)) rfl h27_11 rfl rfl rfl rfl rfl rfl (fun n69 w65 hq66 => ?_)
            obtain ⟨hn70, hI67, hF68⟩ := hq66
            by_cases hc71 : n69 = 0
            · refine xg_t (xg_ifT (u := n69) rfl xnm0 (xj_eqT hc71)) ?_
              refine xg_t (xg_blq rfl) ?_
              refine xg_t (xg_const) ?_
              refine xg_t (xg_blq rfl) ?_
              exact xg_e ⟨0, w65, ⟨rfl, rfl⟩, by first | decide | omega, hI67, (hF68.up (by decide))⟩
            · refine xg_t (xg_ifF (u := n69) rfl xnm0 (xj_eqF hc71)) ?_
              refine xg_t (xg_blq rfl) ?_
              refine xg_t (xg_const) ?_
              refine xg_t (xg_goto) ?_
              refine xg_t (xg_blq rfl) ?_
              exact xg_e ⟨1, w65, ⟨rfl, rfl⟩, by first | decide | omega, hI67, (hF68.up (by decide))⟩
          · refine xg_t (xg_icT (u := so) (v := 1) rfl xnm0 xnm0 (xj_neT hc61)) ?_
            refine xg_t (xg_blq rfl) ?_
            refine xg_t (xg_const) ?_
            refine xg_t (xg_blq rfl) ?_
            exact xg_e ⟨0, w, ⟨rfl, rfl⟩, by first | decide | omega, hI, xFr.rf⟩
      · refine xoC28 (xqc28 hI : cp28 (wget w 28)) (fun f28_72 f28_74 f28_76 f28_78 f28_80 h28_82 hb73 hb75 hb77 hb79 hb81 => ?_)
        refine xg_t (xg_cVr mX1_rowsOf (vs := [(0, so)]) (rest := []) (rs := [(2, 33)]) (cn1 := 0) (sl1 := 0) rfl (hp19) rfl h28_82 rfl rfl rfl rfl rfl rfl rfl) ?_
        refine xg_t (xg_astore (l1 := [(0, (2, 27)), (1, (0, so))]) rfl rfl rfl) ?_
        refine xg_t (xg_aload (va := (2, 33)) rfl rfl) ?_
        refine xg_t (xg_ifnullF) ?_
        refine xg_t (xg_aload (va := (2, 33)) rfl rfl) ?_
        obtain ⟨f33_83, h33_85, hb84⟩ := (xqc33 hI : cp33 (wget w 33))
        refine xg_t (xg_cVr mX5_isFull (vs := []) (rest := []) (rs := [(0, if 6 ≤ f33_83 then 1 else 0)]) (cn1 := 0) (sl1 := 0) rfl (rfull_ok h33_85 (by decide) (by omega)) rfl h33_85 rfl rfl rfl rfl rfl rfl rfl) ?_
        by_cases hc86 : 6 ≤ f33_83
        · refine xg_t (xg_ifT (u := (if 6 ≤ f33_83 then 1 else 0)) rfl xnm0 (xj_neT (xite1 hc86))) ?_
          refine xg_t (xg_blq rfl) ?_
          refine xg_t (xg_const) ?_
          refine xg_t (xg_goto) ?_
          refine xg_t (xg_blq rfl) ?_
          exact xg_e ⟨1, w, ⟨rfl, rfl⟩, by first | decide | omega, hI, xFr.rf⟩
        · refine xg_t (xg_ifF (u := (if 6 ≤ f33_83 then 1 else 0)) rfl xnm0 (xj_neF (xite0 hc86))) ?_
          refine xg_t (xg_iload (va := (0, so)) rfl rfl) ?_
          refine xg_t (xg_const) ?_
          by_cases hc87 : so = 1
          · refine xg_t (xg_icF (u := so) (v := 1) rfl xnm0 xnm0 (xj_neF hc87)) ?_
            refine xg_t (xg_aload (va := (2, 27)) rfl rfl) ?_
            refine xg_t (xg_aload (va := (2, 27)) rfl rfl) ?_
            refine xg_t (xg_getf (va := (2, 39)) h27_11 rfl) ?_
            refine xg_t (xg_const) ?_
            refine xg_ialdB (n := 0) (B := 4294967295) h39_13 (hb14) xnm0 (by first | decide | omega) (fun u88 hu89 he90 => ?_)
            refine xg_cVi mX2_isLifeTold (vs := [(0, u88)]) (rest := []) (cn1 := 0) (sl1 := 0) rfl (ftLifeTold (hI) (by omega)) rfl h27_11 rfl rfl rfl rfl rfl rfl (fun n95 w91 hq92 => ?_)
            obtain ⟨hn96, hI93, hF94⟩ := hq92
            by_cases hc97 : n95 = 0
            · refine xg_t (xg_ifT (u := n95) rfl xnm0 (xj_eqT hc97)) ?_
              refine xg_t (xg_blq rfl) ?_
              refine xg_t (xg_const) ?_
              refine xg_t (xg_blq rfl) ?_
              exact xg_e ⟨0, w91, ⟨rfl, rfl⟩, by first | decide | omega, hI93, (hF94.up (by decide))⟩
            · refine xg_t (xg_ifF (u := n95) rfl xnm0 (xj_eqF hc97)) ?_
              refine xg_t (xg_blq rfl) ?_
              refine xg_t (xg_const) ?_
              refine xg_t (xg_goto) ?_
              refine xg_t (xg_blq rfl) ?_
              exact xg_e ⟨1, w91, ⟨rfl, rfl⟩, by first | decide | omega, hI93, (hF94.up (by decide))⟩
          · refine xg_t (xg_icT (u := so) (v := 1) rfl xnm0 xnm0 (xj_neT hc87)) ?_
            refine xg_t (xg_blq rfl) ?_
            refine xg_t (xg_const) ?_
            refine xg_t (xg_blq rfl) ?_
            exact xg_e ⟨0, w, ⟨rfl, rfl⟩, by first | decide | omega, hI, xFr.rf⟩
      · refine xoC28 (xqc28 hI : cp28 (wget w 28)) (fun f28_98 f28_100 f28_102 f28_104 f28_106 h28_108 hb99 hb101 hb103 hb105 hb107 => ?_)
        refine xg_t (xg_cVr mX1_rowsOf (vs := [(0, so)]) (rest := []) (rs := [(2, 35)]) (cn1 := 0) (sl1 := 0) rfl (hp19) rfl h28_108 rfl rfl rfl rfl rfl rfl rfl) ?_
        refine xg_t (xg_astore (l1 := [(0, (2, 27)), (1, (0, so))]) rfl rfl rfl) ?_
        refine xg_t (xg_aload (va := (2, 35)) rfl rfl) ?_
        refine xg_t (xg_ifnullF) ?_
        refine xg_t (xg_aload (va := (2, 35)) rfl rfl) ?_
        obtain ⟨f35_109, h35_111, hb110⟩ := (xqc35 hI : cp35 (wget w 35))
        refine xg_t (xg_cVr mX5_isFull (vs := []) (rest := []) (rs := [(0, if 4 ≤ f35_109 then 1 else 0)]) (cn1 := 0) (sl1 := 0) rfl (rfull_ok h35_111 (by decide) (by omega)) rfl h35_111 rfl rfl rfl rfl rfl rfl rfl) ?_
        by_cases hc112 : 4 ≤ f35_109
        · refine xg_t (xg_ifT (u := (if 4 ≤ f35_109 then 1 else 0)) rfl xnm0 (xj_neT (xite1 hc112))) ?_
          refine xg_t (xg_blq rfl) ?_
          refine xg_t (xg_const) ?_
          refine xg_t (xg_goto) ?_
          refine xg_t (xg_blq rfl) ?_
          exact xg_e ⟨1, w, ⟨rfl, rfl⟩, by first | decide | omega, hI, xFr.rf⟩
        · refine xg_t (xg_ifF (u := (if 4 ≤ f35_109 then 1 else 0)) rfl xnm0 (xj_neF (xite0 hc112))) ?_
          refine xg_t (xg_iload (va := (0, so)) rfl rfl) ?_
          refine xg_t (xg_const) ?_
          by_cases hc113 : so = 1
          · refine xg_t (xg_icF (u := so) (v := 1) rfl xnm0 xnm0 (xj_neF hc113)) ?_
            refine xg_t (xg_aload (va := (2, 27)) rfl rfl) ?_
            refine xg_t (xg_aload (va := (2, 27)) rfl rfl) ?_
            refine xg_t (xg_getf (va := (2, 39)) h27_11 rfl) ?_
            refine xg_t (xg_const) ?_
            refine xg_ialdB (n := 0) (B := 4294967295) h39_13 (hb14) xnm0 (by first | decide | omega) (fun u114 hu115 he116 => ?_)
            refine xg_cVi mX2_isLifeTold (vs := [(0, u114)]) (rest := []) (cn1 := 0) (sl1 := 0) rfl (ftLifeTold (hI) (by omega)) rfl h27_11 rfl rfl rfl rfl rfl rfl (fun n121 w117 hq118 => ?_)
            obtain ⟨hn122, hI119, hF120⟩ := hq118
            by_cases hc123 : n121 = 0
            · refine xg_t (xg_ifT (u := n121) rfl xnm0 (xj_eqT hc123)) ?_
              refine xg_t (xg_blq rfl) ?_
              refine xg_t (xg_const) ?_
              refine xg_t (xg_blq rfl) ?_
              exact xg_e ⟨0, w117, ⟨rfl, rfl⟩, by first | decide | omega, hI119, (hF120.up (by decide))⟩
            · refine xg_t (xg_ifF (u := n121) rfl xnm0 (xj_eqF hc123)) ?_
              refine xg_t (xg_blq rfl) ?_
              refine xg_t (xg_const) ?_
              refine xg_t (xg_goto) ?_
              refine xg_t (xg_blq rfl) ?_
              exact xg_e ⟨1, w117, ⟨rfl, rfl⟩, by first | decide | omega, hI119, (hF120.up (by decide))⟩
          · refine xg_t (xg_icT (u := so) (v := 1) rfl xnm0 xnm0 (xj_neT hc113)) ?_
            refine xg_t (xg_blq rfl) ?_
            refine xg_t (xg_const) ?_
            refine xg_t (xg_blq rfl) ?_
            exact xg_e ⟨0, w, ⟨rfl, rfl⟩, by first | decide | omega, hI, xFr.rf⟩
      · refine xoC28 (xqc28 hI : cp28 (wget w 28)) (fun f28_124 f28_126 f28_128 f28_130 f28_132 h28_134 hb125 hb127 hb129 hb131 hb133 => ?_)
        refine xg_t (xg_cVr mX1_rowsOf (vs := [(0, so)]) (rest := []) (rs := [(2, 37)]) (cn1 := 0) (sl1 := 0) rfl (hp19) rfl h28_134 rfl rfl rfl rfl rfl rfl rfl) ?_
        refine xg_t (xg_astore (l1 := [(0, (2, 27)), (1, (0, so))]) rfl rfl rfl) ?_
        refine xg_t (xg_aload (va := (2, 37)) rfl rfl) ?_
        refine xg_t (xg_ifnullF) ?_
        refine xg_t (xg_aload (va := (2, 37)) rfl rfl) ?_
        obtain ⟨f37_135, h37_137, hb136⟩ := (xqc37 hI : cp37 (wget w 37))
        refine xg_t (xg_cVr mX5_isFull (vs := []) (rest := []) (rs := [(0, if 20 ≤ f37_135 then 1 else 0)]) (cn1 := 0) (sl1 := 0) rfl (rfull_ok h37_137 (by decide) (by omega)) rfl h37_137 rfl rfl rfl rfl rfl rfl rfl) ?_
        by_cases hc138 : 20 ≤ f37_135
        · refine xg_t (xg_ifT (u := (if 20 ≤ f37_135 then 1 else 0)) rfl xnm0 (xj_neT (xite1 hc138))) ?_
          refine xg_t (xg_blq rfl) ?_
          refine xg_t (xg_const) ?_
          refine xg_t (xg_goto) ?_
          refine xg_t (xg_blq rfl) ?_
          exact xg_e ⟨1, w, ⟨rfl, rfl⟩, by first | decide | omega, hI, xFr.rf⟩
        · refine xg_t (xg_ifF (u := (if 20 ≤ f37_135 then 1 else 0)) rfl xnm0 (xj_neF (xite0 hc138))) ?_
          refine xg_t (xg_iload (va := (0, so)) rfl rfl) ?_
          refine xg_t (xg_const) ?_
          by_cases hc139 : so = 1
          · refine xg_t (xg_icF (u := so) (v := 1) rfl xnm0 xnm0 (xj_neF hc139)) ?_
            refine xg_t (xg_aload (va := (2, 27)) rfl rfl) ?_
            refine xg_t (xg_aload (va := (2, 27)) rfl rfl) ?_
            refine xg_t (xg_getf (va := (2, 39)) h27_11 rfl) ?_
            refine xg_t (xg_const) ?_
            refine xg_ialdB (n := 0) (B := 4294967295) h39_13 (hb14) xnm0 (by first | decide | omega) (fun u140 hu141 he142 => ?_)
            refine xg_cVi mX2_isLifeTold (vs := [(0, u140)]) (rest := []) (cn1 := 0) (sl1 := 0) rfl (ftLifeTold (hI) (by omega)) rfl h27_11 rfl rfl rfl rfl rfl rfl (fun n147 w143 hq144 => ?_)
            obtain ⟨hn148, hI145, hF146⟩ := hq144
            by_cases hc149 : n147 = 0
            · refine xg_t (xg_ifT (u := n147) rfl xnm0 (xj_eqT hc149)) ?_
              refine xg_t (xg_blq rfl) ?_
              refine xg_t (xg_const) ?_
              refine xg_t (xg_blq rfl) ?_
              exact xg_e ⟨0, w143, ⟨rfl, rfl⟩, by first | decide | omega, hI145, (hF146.up (by decide))⟩
            · refine xg_t (xg_ifF (u := n147) rfl xnm0 (xj_eqF hc149)) ?_
              refine xg_t (xg_blq rfl) ?_
              refine xg_t (xg_const) ?_
              refine xg_t (xg_goto) ?_
              refine xg_t (xg_blq rfl) ?_
              exact xg_e ⟨1, w143, ⟨rfl, rfl⟩, by first | decide | omega, hI145, (hF146.up (by decide))⟩
          · refine xg_t (xg_icT (u := so) (v := 1) rfl xnm0 xnm0 (xj_neT hc139)) ?_
            refine xg_t (xg_blq rfl) ?_
            refine xg_t (xg_const) ?_
            refine xg_t (xg_blq rfl) ?_
            exact xg_e ⟨0, w, ⟨rfl, rfl⟩, by first | decide | omega, hI, xFr.rf⟩
      · refine xoC28 (xqc28 hI : cp28 (wget w 28)) (fun f28_150 f28_152 f28_154 f28_156 f28_158 h28_160 hb151 hb153 hb155 hb157 hb159 => ?_)
        refine xg_t (xg_cVr mX1_rowsOf (vs := [(0, so)]) (rest := []) (rs := [(3, 0)]) (cn1 := 0) (sl1 := 0) rfl (hp19) rfl h28_160 rfl rfl rfl rfl rfl rfl rfl) ?_
        refine xg_t (xg_astore (l1 := [(0, (2, 27)), (1, (0, so))]) rfl rfl rfl) ?_
        refine xg_t (xg_aload (va := (3, 0)) rfl rfl) ?_
        refine xg_t (xg_ifnullT) ?_
        refine xg_t (xg_blq rfl) ?_
        refine xg_t (xg_const) ?_
        refine xg_t (xg_goto) ?_
        refine xg_t (xg_blq rfl) ?_
        exact xg_e ⟨1, w, ⟨rfl, rfl⟩, by first | decide | omega, hI, xFr.rf⟩
end XFT
end
