section
/-! rowsOf, count -/
section XCO
variable {d : Nat} {w : List (List xE)} {bd : List (Nat × Nat)} {fc : List (Nat × Nat × Bool)} {rr : Nat × Nat}
theorem rowsOf3 {so : Nat} (hI : xInv w) (hs : so ≤ 4294967295) : ∃ v : xV, (v = (2, 4) ∨ v = (2, 6) ∨ v = (2, 8) ∨ v = (2, 10) ∨ v = (2, 12) ∨ v = (3, 0)) ∧ xPr d mX1_rowsOf [(2, 3), (0, so)] w bd fc rr [v] w := by
  suffices h : xTo d mX1_rowsOf (0, [], [(0, (2, 3)), (1, (0, so))], [], (w, bd, fc, 0, 0, rr)) (fun φ => ∃ v : xV, xEnd 3 [v] (w, bd, fc, 0, 0, rr) φ ∧ (v = (2, 4) ∨ v = (2, 6) ∨ v = (2, 8) ∨ v = (2, 10) ∨ v = (2, 12) ∨ v = (3, 0))) by
    obtain ⟨φ, q1, v, q2, q3⟩ := h
    exact ⟨v, q3, φ, q1, q2.1, q2.2⟩
  refine xg_t (xg_blq rfl) ?_
  refine xg_t (xg_iload (va := (0, so)) rfl rfl) ?_
  by_cases hc1 : so = 0
  · refine xg_t (xg_swt (ks := [(0, 36), (1, 41), (2, 46), (3, 51), (4, 56)]) (u := so) (z := 36) rfl rfl rfl xnm0 (xsw_y hc1)) ?_
    refine xg_t (xg_blq rfl) ?_
    refine xg_t (xg_aload (va := (2, 3)) rfl rfl) ?_
    refine xoC3 (xqc3 hI : cp3 (wget w 3)) (fun f3_2 f3_4 f3_6 f3_8 f3_10 h3_12 hb3 hb5 hb7 hb9 hb11 => ?_)
    refine xg_t (xg_getf (va := (2, 4)) h3_12 rfl) ?_
    exact xg_e ⟨(2, 4), ⟨rfl, rfl⟩, Or.inl rfl⟩
  · by_cases hc13 : so = 1
    · refine xg_t (xg_swt (ks := [(0, 36), (1, 41), (2, 46), (3, 51), (4, 56)]) (u := so) (z := 41) rfl rfl rfl xnm0 (xsw_n hc1 (xsw_y hc13))) ?_
      refine xg_t (xg_blq rfl) ?_
      refine xg_t (xg_aload (va := (2, 3)) rfl rfl) ?_
      refine xoC3 (xqc3 hI : cp3 (wget w 3)) (fun f3_14 f3_16 f3_18 f3_20 f3_22 h3_24 hb15 hb17 hb19 hb21 hb23 => ?_)
      refine xg_t (xg_getf (va := (2, 6)) h3_24 rfl) ?_
      exact xg_e ⟨(2, 6), ⟨rfl, rfl⟩, Or.inr (Or.inl rfl)⟩
    · by_cases hc25 : so = 2
      · refine xg_t (xg_swt (ks := [(0, 36), (1, 41), (2, 46), (3, 51), (4, 56)]) (u := so) (z := 46) rfl rfl rfl xnm0 (xsw_n hc1 (xsw_n hc13 (xsw_y hc25)))) ?_
        refine xg_t (xg_blq rfl) ?_
        refine xg_t (xg_aload (va := (2, 3)) rfl rfl) ?_
        refine xoC3 (xqc3 hI : cp3 (wget w 3)) (fun f3_26 f3_28 f3_30 f3_32 f3_34 h3_36 hb27 hb29 hb31 hb33 hb35 => ?_)
        refine xg_t (xg_getf (va := (2, 8)) h3_36 rfl) ?_
        exact xg_e ⟨(2, 8), ⟨rfl, rfl⟩, Or.inr (Or.inr (Or.inl rfl))⟩
      · by_cases hc37 : so = 3
        · refine xg_t (xg_swt (ks := [(0, 36), (1, 41), (2, 46), (3, 51), (4, 56)]) (u := so) (z := 51) rfl rfl rfl xnm0 (xsw_n hc1 (xsw_n hc13 (xsw_n hc25 (xsw_y hc37))))) ?_
          refine xg_t (xg_blq rfl) ?_
          refine xg_t (xg_aload (va := (2, 3)) rfl rfl) ?_
          refine xoC3 (xqc3 hI : cp3 (wget w 3)) (fun f3_38 f3_40 f3_42 f3_44 f3_46 h3_48 hb39 hb41 hb43 hb45 hb47 => ?_)
          refine xg_t (xg_getf (va := (2, 10)) h3_48 rfl) ?_
          exact xg_e ⟨(2, 10), ⟨rfl, rfl⟩, Or.inr (Or.inr (Or.inr (Or.inl rfl)))⟩
        · by_cases hc49 : so = 4
          · refine xg_t (xg_swt (ks := [(0, 36), (1, 41), (2, 46), (3, 51), (4, 56)]) (u := so) (z := 56) rfl rfl rfl xnm0 (xsw_n hc1 (xsw_n hc13 (xsw_n hc25 (xsw_n hc37 (xsw_y hc49)))))) ?_
            refine xg_t (xg_blq rfl) ?_
            refine xg_t (xg_aload (va := (2, 3)) rfl rfl) ?_
            refine xoC3 (xqc3 hI : cp3 (wget w 3)) (fun f3_50 f3_52 f3_54 f3_56 f3_58 h3_60 hb51 hb53 hb55 hb57 hb59 => ?_)
            refine xg_t (xg_getf (va := (2, 12)) h3_60 rfl) ?_
            exact xg_e ⟨(2, 12), ⟨rfl, rfl⟩, Or.inr (Or.inr (Or.inr (Or.inr (Or.inl rfl))))⟩
          · refine xg_t (xg_swt (ks := [(0, 36), (1, 41), (2, 46), (3, 51), (4, 56)]) (u := so) (z := 61) rfl rfl rfl xnm0 (xsw_n hc1 (xsw_n hc13 (xsw_n hc25 (xsw_n hc37 (xsw_n hc49 (xsw_d))))))) ?_
            refine xg_t (xg_blq rfl) ?_
            refine xg_t (xg_null) ?_
            exact xg_e ⟨(3, 0), ⟨rfl, rfl⟩, Or.inr (Or.inr (Or.inr (Or.inr (Or.inr (rfl)))))⟩
theorem scCountOfFilm {wh : Nat} (hI : xInv w) (hwh : wh ≤ 4294967295) : xPi (d + 1) mX11_countOfFilm [(2, 0), (0, wh)] w bd fc rr (fun n w' => (n ≤ 4294967295) ∧ xInv w' ∧ xFr [] w w') := by
  refine xPi.of ?_
  show xTo (d + 1) mX11_countOfFilm (0, [], [(0, (2, 0)), (1, (0, wh))], [], (w, bd, fc, 0, 0, rr)) (fun φ => ∃ n w', xEnd 1 [(0, n)] (w', bd, fc, 0, 0, rr) φ ∧ (n ≤ 4294967295) ∧ xInv w' ∧ xFr [] w w')
  have h0_1 := (xqc0 hI : cp0 (wget w 0))
  refine xoC1 (xqc1 hI : cp1 (wget w 1)) (fun f1_2 f1_4 f1_6 f1_8 f1_10 f1_12 h1_14 hb3 hb5 hb7 hb9 hb11 hb13 => ?_)
  refine xoC3 (xqc3 hI : cp3 (wget w 3)) (fun f3_15 f3_17 f3_19 f3_21 f3_23 h3_25 hb16 hb18 hb20 hb22 hb24 => ?_)
  refine xg_t (xg_blq rfl) ?_
  refine xg_t (xg_aload (va := (2, 0)) rfl rfl) ?_
  refine xg_t (xg_getf (va := (2, 1)) h0_1 rfl) ?_
  refine xg_t (xg_getf (va := (2, 3)) h1_14 rfl) ?_
  refine xg_t (xg_astore (l1 := [(0, (2, 0)), (1, (0, wh))]) rfl rfl rfl) ?_
  refine xg_t (xg_iload (va := (0, wh)) rfl rfl) ?_
  by_cases hc26 : wh = 5
  · refine xg_t (xg_swt (ks := [(5, 64), (6, 69), (7, 74), (8, 79), (9, 89), (10, 89), (11, 89), (12, 89), (13, 89), (14, 84)]) (u := wh) (z := 64) rfl rfl rfl xnm0 (xsw_y hc26)) ?_
    refine xg_t (xg_blq rfl) ?_
    refine xg_t (xg_aload (va := (2, 3)) rfl rfl) ?_
    refine xg_t (xg_getf (va := (0, f3_19)) h3_25 rfl) ?_
    exact xg_e ⟨f3_19, w, ⟨rfl, rfl⟩, by omega, hI, xFr.rf⟩
  · by_cases hc27 : wh = 6
    · refine xg_t (xg_swt (ks := [(5, 64), (6, 69), (7, 74), (8, 79), (9, 89), (10, 89), (11, 89), (12, 89), (13, 89), (14, 84)]) (u := wh) (z := 69) rfl rfl rfl xnm0 (xsw_n hc26 (xsw_y hc27))) ?_
      refine xg_t (xg_blq rfl) ?_
      refine xg_t (xg_aload (va := (2, 3)) rfl rfl) ?_
      refine xg_t (xg_getf (va := (0, f3_21)) h3_25 rfl) ?_
      exact xg_e ⟨f3_21, w, ⟨rfl, rfl⟩, by omega, hI, xFr.rf⟩
    · by_cases hc28 : wh = 7
      · refine xg_t (xg_swt (ks := [(5, 64), (6, 69), (7, 74), (8, 79), (9, 89), (10, 89), (11, 89), (12, 89), (13, 89), (14, 84)]) (u := wh) (z := 74) rfl rfl rfl xnm0 (xsw_n hc26 (xsw_n hc27 (xsw_y hc28)))) ?_
        refine xg_t (xg_blq rfl) ?_
        refine xg_t (xg_aload (va := (2, 3)) rfl rfl) ?_
        refine xg_t (xg_getf (va := (0, f3_15)) h3_25 rfl) ?_
        exact xg_e ⟨f3_15, w, ⟨rfl, rfl⟩, by omega, hI, xFr.rf⟩
      · by_cases hc29 : wh = 8
        · refine xg_t (xg_swt (ks := [(5, 64), (6, 69), (7, 74), (8, 79), (9, 89), (10, 89), (11, 89), (12, 89), (13, 89), (14, 84)]) (u := wh) (z := 79) rfl rfl rfl xnm0 (xsw_n hc26 (xsw_n hc27 (xsw_n hc28 (xsw_y hc29))))) ?_
          refine xg_t (xg_blq rfl) ?_
          refine xg_t (xg_aload (va := (2, 3)) rfl rfl) ?_
          refine xg_t (xg_getf (va := (0, f3_17)) h3_25 rfl) ?_
          exact xg_e ⟨f3_17, w, ⟨rfl, rfl⟩, by omega, hI, xFr.rf⟩
        · by_cases hc30 : wh = 9
          · refine xg_t (xg_swt (ks := [(5, 64), (6, 69), (7, 74), (8, 79), (9, 89), (10, 89), (11, 89), (12, 89), (13, 89), (14, 84)]) (u := wh) (z := 89) rfl rfl rfl xnm0 (xsw_n hc26 (xsw_n hc27 (xsw_n hc28 (xsw_n hc29 (xsw_y hc30)))))) ?_
            refine xg_t (xg_blq rfl) ?_
            refine xg_t (xg_aload (va := (2, 3)) rfl rfl) ?_
            refine xg_t (xg_iload (va := (0, wh)) rfl rfl) ?_
            obtain ⟨v31, hv32, hp33⟩ := rowsOf3 (d := d + 0) (bd := bd) (fc := fc) (rr := rr) (so := wh) (hI) (by omega)
            rcases hv32 with rfl | rfl | rfl | rfl | rfl | rfl
            · refine xg_t (xg_cVr mX1_rowsOf (vs := [(0, wh)]) (rest := []) (rs := [(2, 4)]) (cn1 := 0) (sl1 := 0) rfl (hp33) rfl h3_25 rfl rfl rfl rfl rfl rfl rfl) ?_
              refine xg_t (xg_astore (l1 := [(2, (2, 3)), (0, (2, 0)), (1, (0, wh))]) rfl rfl rfl) ?_
              refine xg_t (xg_aload (va := (2, 4)) rfl rfl) ?_
              refine xg_t (xg_ifnnT) ?_
              refine xg_t (xg_blq rfl) ?_
              refine xg_t (xg_aload (va := (2, 4)) rfl rfl) ?_
              obtain ⟨f4_34, h4_36, hb35⟩ := (xqc4 hI : cp4 (wget w 4))
              refine xg_t (xg_getf (va := (0, f4_34)) h4_36 rfl) ?_
              refine xg_t (xg_blq rfl) ?_
              exact xg_e ⟨f4_34, w, ⟨rfl, rfl⟩, by omega, hI, xFr.rf⟩
            · refine xg_t (xg_cVr mX1_rowsOf (vs := [(0, wh)]) (rest := []) (rs := [(2, 6)]) (cn1 := 0) (sl1 := 0) rfl (hp33) rfl h3_25 rfl rfl rfl rfl rfl rfl rfl) ?_
              refine xg_t (xg_astore (l1 := [(2, (2, 3)), (0, (2, 0)), (1, (0, wh))]) rfl rfl rfl) ?_
              refine xg_t (xg_aload (va := (2, 6)) rfl rfl) ?_
              refine xg_t (xg_ifnnT) ?_
              refine xg_t (xg_blq rfl) ?_
              refine xg_t (xg_aload (va := (2, 6)) rfl rfl) ?_
              obtain ⟨f6_37, h6_39, hb38⟩ := (xqc6 hI : cp6 (wget w 6))
              refine xg_t (xg_getf (va := (0, f6_37)) h6_39 rfl) ?_
              refine xg_t (xg_blq rfl) ?_
              exact xg_e ⟨f6_37, w, ⟨rfl, rfl⟩, by omega, hI, xFr.rf⟩
            · refine xg_t (xg_cVr mX1_rowsOf (vs := [(0, wh)]) (rest := []) (rs := [(2, 8)]) (cn1 := 0) (sl1 := 0) rfl (hp33) rfl h3_25 rfl rfl rfl rfl rfl rfl rfl) ?_
              refine xg_t (xg_astore (l1 := [(2, (2, 3)), (0, (2, 0)), (1, (0, wh))]) rfl rfl rfl) ?_
              refine xg_t (xg_aload (va := (2, 8)) rfl rfl) ?_
              refine xg_t (xg_ifnnT) ?_
              refine xg_t (xg_blq rfl) ?_
              refine xg_t (xg_aload (va := (2, 8)) rfl rfl) ?_
              obtain ⟨f8_40, h8_42, hb41⟩ := (xqc8 hI : cp8 (wget w 8))
              refine xg_t (xg_getf (va := (0, f8_40)) h8_42 rfl) ?_
              refine xg_t (xg_blq rfl) ?_
              exact xg_e ⟨f8_40, w, ⟨rfl, rfl⟩, by omega, hI, xFr.rf⟩
            · refine xg_t (xg_cVr mX1_rowsOf (vs := [(0, wh)]) (rest := []) (rs := [(2, 10)]) (cn1 := 0) (sl1 := 0) rfl (hp33) rfl h3_25 rfl rfl rfl rfl rfl rfl rfl) ?_
              refine xg_t (xg_astore (l1 := [(2, (2, 3)), (0, (2, 0)), (1, (0, wh))]) rfl rfl rfl) ?_
              refine xg_t (xg_aload (va := (2, 10)) rfl rfl) ?_
              refine xg_t (xg_ifnnT) ?_
              refine xg_t (xg_blq rfl) ?_
              refine xg_t (xg_aload (va := (2, 10)) rfl rfl) ?_
              obtain ⟨f10_43, h10_45, hb44⟩ := (xqc10 hI : cp10 (wget w 10))
              refine xg_t (xg_getf (va := (0, f10_43)) h10_45 rfl) ?_
              refine xg_t (xg_blq rfl) ?_
              exact xg_e ⟨f10_43, w, ⟨rfl, rfl⟩, by omega, hI, xFr.rf⟩
            · refine xg_t (xg_cVr mX1_rowsOf (vs := [(0, wh)]) (rest := []) (rs := [(2, 12)]) (cn1 := 0) (sl1 := 0) rfl (hp33) rfl h3_25 rfl rfl rfl rfl rfl rfl rfl) ?_
              refine xg_t (xg_astore (l1 := [(2, (2, 3)), (0, (2, 0)), (1, (0, wh))]) rfl rfl rfl) ?_
              refine xg_t (xg_aload (va := (2, 12)) rfl rfl) ?_
              refine xg_t (xg_ifnnT) ?_
              refine xg_t (xg_blq rfl) ?_
              refine xg_t (xg_aload (va := (2, 12)) rfl rfl) ?_
              obtain ⟨f12_46, h12_48, hb47⟩ := (xqc12 hI : cp12 (wget w 12))
              refine xg_t (xg_getf (va := (0, f12_46)) h12_48 rfl) ?_
              refine xg_t (xg_blq rfl) ?_
              exact xg_e ⟨f12_46, w, ⟨rfl, rfl⟩, by omega, hI, xFr.rf⟩
            · refine xg_t (xg_cVr mX1_rowsOf (vs := [(0, wh)]) (rest := []) (rs := [(3, 0)]) (cn1 := 0) (sl1 := 0) rfl (hp33) rfl h3_25 rfl rfl rfl rfl rfl rfl rfl) ?_
              refine xg_t (xg_astore (l1 := [(2, (2, 3)), (0, (2, 0)), (1, (0, wh))]) rfl rfl rfl) ?_
              refine xg_t (xg_aload (va := (3, 0)) rfl rfl) ?_
              refine xg_t (xg_ifnnF) ?_
              refine xg_t (xg_bip) ?_
              refine xg_t (xg_goto) ?_
              refine xg_t (xg_blq rfl) ?_
              exact xg_e ⟨4294967294, w, ⟨rfl, rfl⟩, by first | decide | omega, hI, xFr.rf⟩
          · by_cases hc49 : wh = 10
            · refine xg_t (xg_swt (ks := [(5, 64), (6, 69), (7, 74), (8, 79), (9, 89), (10, 89), (11, 89), (12, 89), (13, 89), (14, 84)]) (u := wh) (z := 89) rfl rfl rfl xnm0 (xsw_n hc26 (xsw_n hc27 (xsw_n hc28 (xsw_n hc29 (xsw_n hc30 (xsw_y hc49))))))) ?_
              refine xg_t (xg_blq rfl) ?_
              refine xg_t (xg_aload (va := (2, 3)) rfl rfl) ?_
              refine xg_t (xg_iload (va := (0, wh)) rfl rfl) ?_
              obtain ⟨v50, hv51, hp52⟩ := rowsOf3 (d := d + 0) (bd := bd) (fc := fc) (rr := rr) (so := wh) (hI) (by omega)
              rcases hv51 with rfl | rfl | rfl | rfl | rfl | rfl
              · refine xg_t (xg_cVr mX1_rowsOf (vs := [(0, wh)]) (rest := []) (rs := [(2, 4)]) (cn1 := 0) (sl1 := 0) rfl (hp52) rfl h3_25 rfl rfl rfl rfl rfl rfl rfl) ?_
                refine xg_t (xg_astore (l1 := [(2, (2, 3)), (0, (2, 0)), (1, (0, wh))]) rfl rfl rfl) ?_
                refine xg_t (xg_aload (va := (2, 4)) rfl rfl) ?_
                refine xg_t (xg_ifnnT) ?_
                refine xg_t (xg_blq rfl) ?_
                refine xg_t (xg_aload (va := (2, 4)) rfl rfl) ?_
                obtain ⟨f4_53, h4_55, hb54⟩ := (xqc4 hI : cp4 (wget w 4))
                refine xg_t (xg_getf (va := (0, f4_53)) h4_55 rfl) ?_
                refine xg_t (xg_blq rfl) ?_
                exact xg_e ⟨f4_53, w, ⟨rfl, rfl⟩, by omega, hI, xFr.rf⟩
              · refine xg_t (xg_cVr mX1_rowsOf (vs := [(0, wh)]) (rest := []) (rs := [(2, 6)]) (cn1 := 0) (sl1 := 0) rfl (hp52) rfl h3_25 rfl rfl rfl rfl rfl rfl rfl) ?_
                refine xg_t (xg_astore (l1 := [(2, (2, 3)), (0, (2, 0)), (1, (0, wh))]) rfl rfl rfl) ?_
                refine xg_t (xg_aload (va := (2, 6)) rfl rfl) ?_
                refine xg_t (xg_ifnnT) ?_
                refine xg_t (xg_blq rfl) ?_
                refine xg_t (xg_aload (va := (2, 6)) rfl rfl) ?_
                obtain ⟨f6_56, h6_58, hb57⟩ := (xqc6 hI : cp6 (wget w 6))
                refine xg_t (xg_getf (va := (0, f6_56)) h6_58 rfl) ?_
                refine xg_t (xg_blq rfl) ?_
                exact xg_e ⟨f6_56, w, ⟨rfl, rfl⟩, by omega, hI, xFr.rf⟩
              · refine xg_t (xg_cVr mX1_rowsOf (vs := [(0, wh)]) (rest := []) (rs := [(2, 8)]) (cn1 := 0) (sl1 := 0) rfl (hp52) rfl h3_25 rfl rfl rfl rfl rfl rfl rfl) ?_
                refine xg_t (xg_astore (l1 := [(2, (2, 3)), (0, (2, 0)), (1, (0, wh))]) rfl rfl rfl) ?_
                refine xg_t (xg_aload (va := (2, 8)) rfl rfl) ?_
                refine xg_t (xg_ifnnT) ?_
                refine xg_t (xg_blq rfl) ?_
                refine xg_t (xg_aload (va := (2, 8)) rfl rfl) ?_
                obtain ⟨f8_59, h8_61, hb60⟩ := (xqc8 hI : cp8 (wget w 8))
                refine xg_t (xg_getf (va := (0, f8_59)) h8_61 rfl) ?_
                refine xg_t (xg_blq rfl) ?_
                exact xg_e ⟨f8_59, w, ⟨rfl, rfl⟩, by omega, hI, xFr.rf⟩
              · refine xg_t (xg_cVr mX1_rowsOf (vs := [(0, wh)]) (rest := []) (rs := [(2, 10)]) (cn1 := 0) (sl1 := 0) rfl (hp52) rfl h3_25 rfl rfl rfl rfl rfl rfl rfl) ?_
                refine xg_t (xg_astore (l1 := [(2, (2, 3)), (0, (2, 0)), (1, (0, wh))]) rfl rfl rfl) ?_
                refine xg_t (xg_aload (va := (2, 10)) rfl rfl) ?_
                refine xg_t (xg_ifnnT) ?_
                refine xg_t (xg_blq rfl) ?_
                refine xg_t (xg_aload (va := (2, 10)) rfl rfl) ?_
                obtain ⟨f10_62, h10_64, hb63⟩ := (xqc10 hI : cp10 (wget w 10))
                refine xg_t (xg_getf (va := (0, f10_62)) h10_64 rfl) ?_
                refine xg_t (xg_blq rfl) ?_
                exact xg_e ⟨f10_62, w, ⟨rfl, rfl⟩, by omega, hI, xFr.rf⟩
              · refine xg_t (xg_cVr mX1_rowsOf (vs := [(0, wh)]) (rest := []) (rs := [(2, 12)]) (cn1 := 0) (sl1 := 0) rfl (hp52) rfl h3_25 rfl rfl rfl rfl rfl rfl rfl) ?_
                refine xg_t (xg_astore (l1 := [(2, (2, 3)), (0, (2, 0)), (1, (0, wh))]) rfl rfl rfl) ?_
                refine xg_t (xg_aload (va := (2, 12)) rfl rfl) ?_
                refine xg_t (xg_ifnnT) ?_
                refine xg_t (xg_blq rfl) ?_
                refine xg_t (xg_aload (va := (2, 12)) rfl rfl) ?_
                obtain ⟨f12_65, h12_67, hb66⟩ := (xqc12 hI : cp12 (wget w 12))
                refine xg_t (xg_getf (va := (0, f12_65)) h12_67 rfl) ?_
                refine xg_t (xg_blq rfl) ?_
                exact xg_e ⟨f12_65, w, ⟨rfl, rfl⟩, by omega, hI, xFr.rf⟩
              · refine xg_t (xg_cVr mX1_rowsOf (vs := [(0, wh)]) (rest := []) (rs := [(3, 0)]) (cn1 := 0) (sl1 := 0) rfl (hp52) rfl h3_25 rfl rfl rfl rfl rfl rfl rfl) ?_
                refine xg_t (xg_astore (l1 := [(2, (2, 3)), (0, (2, 0)), (1, (0, wh))]) rfl rfl rfl) ?_
                refine xg_t (xg_aload (va := (3, 0)) rfl rfl) ?_
                refine xg_t (xg_ifnnF) ?_
                refine xg_t (xg_bip) ?_
                refine xg_t (xg_goto) ?_
                refine xg_t (xg_blq rfl) ?_
                exact xg_e ⟨4294967294, w, ⟨rfl, rfl⟩, by first | decide | omega, hI, xFr.rf⟩
            · by_cases hc68 : wh = 11
              · refine xg_t (xg_swt (ks := [(5, 64), (6, 69), (7, 74), (8, 79), (9, 89), (10, 89), (11, 89), (12, 89), (13, 89), (14, 84)]) (u := wh) (z := 89) rfl rfl rfl xnm0 (xsw_n hc26 (xsw_n hc27 (xsw_n hc28 (xsw_n hc29 (xsw_n hc30 (xsw_n hc49 (xsw_y hc68)))))))) ?_
                refine xg_t (xg_blq rfl) ?_
                refine xg_t (xg_aload (va := (2, 3)) rfl rfl) ?_
                refine xg_t (xg_iload (va := (0, wh)) rfl rfl) ?_
                obtain ⟨v69, hv70, hp71⟩ := rowsOf3 (d := d + 0) (bd := bd) (fc := fc) (rr := rr) (so := wh) (hI) (by omega)
                rcases hv70 with rfl | rfl | rfl | rfl | rfl | rfl
                · refine xg_t (xg_cVr mX1_rowsOf (vs := [(0, wh)]) (rest := []) (rs := [(2, 4)]) (cn1 := 0) (sl1 := 0) rfl (hp71) rfl h3_25 rfl rfl rfl rfl rfl rfl rfl) ?_
                  refine xg_t (xg_astore (l1 := [(2, (2, 3)), (0, (2, 0)), (1, (0, wh))]) rfl rfl rfl) ?_
                  refine xg_t (xg_aload (va := (2, 4)) rfl rfl) ?_
                  refine xg_t (xg_ifnnT) ?_
                  refine xg_t (xg_blq rfl) ?_
                  refine xg_t (xg_aload (va := (2, 4)) rfl rfl) ?_
                  obtain ⟨f4_72, h4_74, hb73⟩ := (xqc4 hI : cp4 (wget w 4))
                  refine xg_t (xg_getf (va := (0, f4_72)) h4_74 rfl) ?_
                  refine xg_t (xg_blq rfl) ?_
                  exact xg_e ⟨f4_72, w, ⟨rfl, rfl⟩, by omega, hI, xFr.rf⟩
                · refine xg_t (xg_cVr mX1_rowsOf (vs := [(0, wh)]) (rest := []) (rs := [(2, 6)]) (cn1 := 0) (sl1 := 0) rfl (hp71) rfl h3_25 rfl rfl rfl rfl rfl rfl rfl) ?_
                  refine xg_t (xg_astore (l1 := [(2, (2, 3)), (0, (2, 0)), (1, (0, wh))]) rfl rfl rfl) ?_
                  refine xg_t (xg_aload (va := (2, 6)) rfl rfl) ?_
                  refine xg_t (xg_ifnnT) ?_
                  refine xg_t (xg_blq rfl) ?_
                  refine xg_t (xg_aload (va := (2, 6)) rfl rfl) ?_
                  obtain ⟨f6_75, h6_77, hb76⟩ := (xqc6 hI : cp6 (wget w 6))
                  refine xg_t (xg_getf (va := (0, f6_75)) h6_77 rfl) ?_
                  refine xg_t (xg_blq rfl) ?_
                  exact xg_e ⟨f6_75, w, ⟨rfl, rfl⟩, by omega, hI, xFr.rf⟩
                · refine xg_t (xg_cVr mX1_rowsOf (vs := [(0, wh)]) (rest := []) (rs := [(2, 8)]) (cn1 := 0) (sl1 := 0) rfl (hp71) rfl h3_25 rfl rfl rfl rfl rfl rfl rfl) ?_
                  refine xg_t (xg_astore (l1 := [(2, (2, 3)), (0, (2, 0)), (1, (0, wh))]) rfl rfl rfl) ?_
                  refine xg_t (xg_aload (va := (2, 8)) rfl rfl) ?_
                  refine xg_t (xg_ifnnT) ?_
                  refine xg_t (xg_blq rfl) ?_
                  refine xg_t (xg_aload (va := (2, 8)) rfl rfl) ?_
                  obtain ⟨f8_78, h8_80, hb79⟩ := (xqc8 hI : cp8 (wget w 8))
                  refine xg_t (xg_getf (va := (0, f8_78)) h8_80 rfl) ?_
                  refine xg_t (xg_blq rfl) ?_
                  exact xg_e ⟨f8_78, w, ⟨rfl, rfl⟩, by omega, hI, xFr.rf⟩
                · refine xg_t (xg_cVr mX1_rowsOf (vs := [(0, wh)]) (rest := []) (rs := [(2, 10)]) (cn1 := 0) (sl1 := 0) rfl (hp71) rfl h3_25 rfl rfl rfl rfl rfl rfl rfl) ?_
                  refine xg_t (xg_astore (l1 := [(2, (2, 3)), (0, (2, 0)), (1, (0, wh))]) rfl rfl rfl) ?_
                  refine xg_t (xg_aload (va := (2, 10)) rfl rfl) ?_
                  refine xg_t (xg_ifnnT) ?_
                  refine xg_t (xg_blq rfl) ?_
                  refine xg_t (xg_aload (va := (2, 10)) rfl rfl) ?_
                  obtain ⟨f10_81, h10_83, hb82⟩ := (xqc10 hI : cp10 (wget w 10))
                  refine xg_t (xg_getf (va := (0, f10_81)) h10_83 rfl) ?_
                  refine xg_t (xg_blq rfl) ?_
                  exact xg_e ⟨f10_81, w, ⟨rfl, rfl⟩, by omega, hI, xFr.rf⟩
                · refine xg_t (xg_cVr mX1_rowsOf (vs := [(0, wh)]) (rest := []) (rs := [(2, 12)]) (cn1 := 0) (sl1 := 0) rfl (hp71) rfl h3_25 rfl rfl rfl rfl rfl rfl rfl) ?_
                  refine xg_t (xg_astore (l1 := [(2, (2, 3)), (0, (2, 0)), (1, (0, wh))]) rfl rfl rfl) ?_
                  refine xg_t (xg_aload (va := (2, 12)) rfl rfl) ?_
                  refine xg_t (xg_ifnnT) ?_
                  refine xg_t (xg_blq rfl) ?_
                  refine xg_t (xg_aload (va := (2, 12)) rfl rfl) ?_
                  obtain ⟨f12_84, h12_86, hb85⟩ := (xqc12 hI : cp12 (wget w 12))
                  refine xg_t (xg_getf (va := (0, f12_84)) h12_86 rfl) ?_
                  refine xg_t (xg_blq rfl) ?_
                  exact xg_e ⟨f12_84, w, ⟨rfl, rfl⟩, by omega, hI, xFr.rf⟩
                · refine xg_t (xg_cVr mX1_rowsOf (vs := [(0, wh)]) (rest := []) (rs := [(3, 0)]) (cn1 := 0) (sl1 := 0) rfl (hp71) rfl h3_25 rfl rfl rfl rfl rfl rfl rfl) ?_
                  refine xg_t (xg_astore (l1 := [(2, (2, 3)), (0, (2, 0)), (1, (0, wh))]) rfl rfl rfl) ?_
                  refine xg_t (xg_aload (va := (3, 0)) rfl rfl) ?_
                  refine xg_t (xg_ifnnF) ?_
                  refine xg_t (xg_bip) ?_
                  refine xg_t (xg_goto) ?_
                  refine xg_t (xg_blq rfl) ?_
                  exact xg_e ⟨4294967294, w, ⟨rfl, rfl⟩, by first | decide | omega, hI, xFr.rf⟩
              · by_cases hc87 : wh = 12
                · refine xg_t (xg_swt (ks := [(5, 64), (6, 69), (7, 74), (8, 79), (9, 89), (10, 89), (11, 89), (12, 89), (13, 89), (14, 84)]) (u := wh) (z := 89) rfl rfl rfl xnm0 (xsw_n hc26 (xsw_n hc27 (xsw_n hc28 (xsw_n hc29 (xsw_n hc30 (xsw_n hc49 (xsw_n hc68 (xsw_y hc87))))))))) ?_
                  refine xg_t (xg_blq rfl) ?_
                  refine xg_t (xg_aload (va := (2, 3)) rfl rfl) ?_
                  refine xg_t (xg_iload (va := (0, wh)) rfl rfl) ?_
                  obtain ⟨v88, hv89, hp90⟩ := rowsOf3 (d := d + 0) (bd := bd) (fc := fc) (rr := rr) (so := wh) (hI) (by omega)
                  rcases hv89 with rfl | rfl | rfl | rfl | rfl | rfl
                  · refine xg_t (xg_cVr mX1_rowsOf (vs := [(0, wh)]) (rest := []) (rs := [(2, 4)]) (cn1 := 0) (sl1 := 0) rfl (hp90) rfl h3_25 rfl rfl rfl rfl rfl rfl rfl) ?_
                    refine xg_t (xg_astore (l1 := [(2, (2, 3)), (0, (2, 0)), (1, (0, wh))]) rfl rfl rfl) ?_
                    refine xg_t (xg_aload (va := (2, 4)) rfl rfl) ?_
                    refine xg_t (xg_ifnnT) ?_
                    refine xg_t (xg_blq rfl) ?_
                    refine xg_t (xg_aload (va := (2, 4)) rfl rfl) ?_
                    obtain ⟨f4_91, h4_93, hb92⟩ := (xqc4 hI : cp4 (wget w 4))
                    refine xg_t (xg_getf (va := (0, f4_91)) h4_93 rfl) ?_
                    refine xg_t (xg_blq rfl) ?_
                    exact xg_e ⟨f4_91, w, ⟨rfl, rfl⟩, by omega, hI, xFr.rf⟩
                  · refine xg_t (xg_cVr mX1_rowsOf (vs := [(0, wh)]) (rest := []) (rs := [(2, 6)]) (cn1 := 0) (sl1 := 0) rfl (hp90) rfl h3_25 rfl rfl rfl rfl rfl rfl rfl) ?_
                    refine xg_t (xg_astore (l1 := [(2, (2, 3)), (0, (2, 0)), (1, (0, wh))]) rfl rfl rfl) ?_
                    refine xg_t (xg_aload (va := (2, 6)) rfl rfl) ?_
                    refine xg_t (xg_ifnnT) ?_
                    refine xg_t (xg_blq rfl) ?_
                    refine xg_t (xg_aload (va := (2, 6)) rfl rfl) ?_
                    obtain ⟨f6_94, h6_96, hb95⟩ := (xqc6 hI : cp6 (wget w 6))
                    refine xg_t (xg_getf (va := (0, f6_94)) h6_96 rfl) ?_
                    refine xg_t (xg_blq rfl) ?_
                    exact xg_e ⟨f6_94, w, ⟨rfl, rfl⟩, by omega, hI, xFr.rf⟩
                  · refine xg_t (xg_cVr mX1_rowsOf (vs := [(0, wh)]) (rest := []) (rs := [(2, 8)]) (cn1 := 0) (sl1 := 0) rfl (hp90) rfl h3_25 rfl rfl rfl rfl rfl rfl rfl) ?_
                    refine xg_t (xg_astore (l1 := [(2, (2, 3)), (0, (2, 0)), (1, (0, wh))]) rfl rfl rfl) ?_
                    refine xg_t (xg_aload (va := (2, 8)) rfl rfl) ?_
                    refine xg_t (xg_ifnnT) ?_
                    refine xg_t (xg_blq rfl) ?_
                    refine xg_t (xg_aload (va := (2, 8)) rfl rfl) ?_
                    obtain ⟨f8_97, h8_99, hb98⟩ := (xqc8 hI : cp8 (wget w 8))
                    refine xg_t (xg_getf (va := (0, f8_97)) h8_99 rfl) ?_
                    refine xg_t (xg_blq rfl) ?_
                    exact xg_e ⟨f8_97, w, ⟨rfl, rfl⟩, by omega, hI, xFr.rf⟩
                  · refine xg_t (xg_cVr mX1_rowsOf (vs := [(0, wh)]) (rest := []) (rs := [(2, 10)]) (cn1 := 0) (sl1 := 0) rfl (hp90) rfl h3_25 rfl rfl rfl rfl rfl rfl rfl) ?_
                    refine xg_t (xg_astore (l1 := [(2, (2, 3)), (0, (2, 0)), (1, (0, wh))]) rfl rfl rfl) ?_
                    refine xg_t (xg_aload (va := (2, 10)) rfl rfl) ?_
                    refine xg_t (xg_ifnnT) ?_
                    refine xg_t (xg_blq rfl) ?_
                    refine xg_t (xg_aload (va := (2, 10)) rfl rfl) ?_
                    obtain ⟨f10_100, h10_102, hb101⟩ := (xqc10 hI : cp10 (wget w 10))
                    refine xg_t (xg_getf (va := (0, f10_100)) h10_102 rfl) ?_
                    refine xg_t (xg_blq rfl) ?_
                    exact xg_e ⟨f10_100, w, ⟨rfl, rfl⟩, by omega, hI, xFr.rf⟩
                  · refine xg_t (xg_cVr mX1_rowsOf (vs := [(0, wh)]) (rest := []) (rs := [(2, 12)]) (cn1 := 0) (sl1 := 0) rfl (hp90) rfl h3_25 rfl rfl rfl rfl rfl rfl rfl) ?_
                    refine xg_t (xg_astore (l1 := [(2, (2, 3)), (0, (2, 0)), (1, (0, wh))]) rfl rfl rfl) ?_
                    refine xg_t (xg_aload (va := (2, 12)) rfl rfl) ?_
                    refine xg_t (xg_ifnnT) ?_
                    refine xg_t (xg_blq rfl) ?_
                    refine xg_t (xg_aload (va := (2, 12)) rfl rfl) ?_
                    obtain ⟨f12_103, h12_105, hb104⟩ := (xqc12 hI : cp12 (wget w 12))
                    refine xg_t (xg_getf (va := (0, f12_103)) h12_105 rfl) ?_
                    refine xg_t (xg_blq rfl) ?_
                    exact xg_e ⟨f12_103, w, ⟨rfl, rfl⟩, by omega, hI, xFr.rf⟩
                  · refine xg_t (xg_cVr mX1_rowsOf (vs := [(0, wh)]) (rest := []) (rs := [(3, 0)]) (cn1 := 0) (sl1 := 0) rfl (hp90) rfl h3_25 rfl rfl rfl rfl rfl rfl rfl) ?_
                    refine xg_t (xg_astore (l1 := [(2, (2, 3)), (0, (2, 0)), (1, (0, wh))]) rfl rfl rfl) ?_
                    refine xg_t (xg_aload (va := (3, 0)) rfl rfl) ?_
                    refine xg_t (xg_ifnnF) ?_
                    refine xg_t (xg_bip) ?_
                    refine xg_t (xg_goto) ?_
                    refine xg_t (xg_blq rfl) ?_
                    exact xg_e ⟨4294967294, w, ⟨rfl, rfl⟩, by first | decide | omega, hI, xFr.rf⟩
                · by_cases hc106 : wh = 13
                  · refine xg_t (xg_swt (ks := [(5, 64), (6, 69), (7, 74), (8, 79), (9, 89), (10, 89), (11, 89), (12, 89), (13, 89), (14, 84)]) (u := wh) (z := 89) rfl rfl rfl xnm0 (xsw_n hc26 (xsw_n hc27 (xsw_n hc28 (xsw_n hc29 (xsw_n hc30 (xsw_n hc49 (xsw_n hc68 (xsw_n hc87 (xsw_y hc106)))))))))) ?_
                    refine xg_t (xg_blq rfl) ?_
                    refine xg_t (xg_aload (va := (2, 3)) rfl rfl) ?_
                    refine xg_t (xg_iload (va := (0, wh)) rfl rfl) ?_
                    obtain ⟨v107, hv108, hp109⟩ := rowsOf3 (d := d + 0) (bd := bd) (fc := fc) (rr := rr) (so := wh) (hI) (by omega)
                    rcases hv108 with rfl | rfl | rfl | rfl | rfl | rfl
                    · refine xg_t (xg_cVr mX1_rowsOf (vs := [(0, wh)]) (rest := []) (rs := [(2, 4)]) (cn1 := 0) (sl1 := 0) rfl (hp109) rfl h3_25 rfl rfl rfl rfl rfl rfl rfl) ?_
                      refine xg_t (xg_astore (l1 := [(2, (2, 3)), (0, (2, 0)), (1, (0, wh))]) rfl rfl rfl) ?_
                      refine xg_t (xg_aload (va := (2, 4)) rfl rfl) ?_
                      refine xg_t (xg_ifnnT) ?_
                      refine xg_t (xg_blq rfl) ?_
                      refine xg_t (xg_aload (va := (2, 4)) rfl rfl) ?_
                      obtain ⟨f4_110, h4_112, hb111⟩ := (xqc4 hI : cp4 (wget w 4))
                      refine xg_t (xg_getf (va := (0, f4_110)) h4_112 rfl) ?_
                      refine xg_t (xg_blq rfl) ?_
                      exact xg_e ⟨f4_110, w, ⟨rfl, rfl⟩, by omega, hI, xFr.rf⟩
                    · refine xg_t (xg_cVr mX1_rowsOf (vs := [(0, wh)]) (rest := []) (rs := [(2, 6)]) (cn1 := 0) (sl1 := 0) rfl (hp109) rfl h3_25 rfl rfl rfl rfl rfl rfl rfl) ?_
                      refine xg_t (xg_astore (l1 := [(2, (2, 3)), (0, (2, 0)), (1, (0, wh))]) rfl rfl rfl) ?_
                      refine xg_t (xg_aload (va := (2, 6)) rfl rfl) ?_
                      refine xg_t (xg_ifnnT) ?_
                      refine xg_t (xg_blq rfl) ?_
                      refine xg_t (xg_aload (va := (2, 6)) rfl rfl) ?_
                      obtain ⟨f6_113, h6_115, hb114⟩ := (xqc6 hI : cp6 (wget w 6))
                      refine xg_t (xg_getf (va := (0, f6_113)) h6_115 rfl) ?_
                      refine xg_t (xg_blq rfl) ?_
                      exact xg_e ⟨f6_113, w, ⟨rfl, rfl⟩, by omega, hI, xFr.rf⟩
                    · refine xg_t (xg_cVr mX1_rowsOf (vs := [(0, wh)]) (rest := []) (rs := [(2, 8)]) (cn1 := 0) (sl1 := 0) rfl (hp109) rfl h3_25 rfl rfl rfl rfl rfl rfl rfl) ?_
                      refine xg_t (xg_astore (l1 := [(2, (2, 3)), (0, (2, 0)), (1, (0, wh))]) rfl rfl rfl) ?_
                      refine xg_t (xg_aload (va := (2, 8)) rfl rfl) ?_
                      refine xg_t (xg_ifnnT) ?_
                      refine xg_t (xg_blq rfl) ?_
                      refine xg_t (xg_aload (va := (2, 8)) rfl rfl) ?_
                      obtain ⟨f8_116, h8_118, hb117⟩ := (xqc8 hI : cp8 (wget w 8))
                      refine xg_t (xg_getf (va := (0, f8_116)) h8_118 rfl) ?_
                      refine xg_t (xg_blq rfl) ?_
                      exact xg_e ⟨f8_116, w, ⟨rfl, rfl⟩, by omega, hI, xFr.rf⟩
                    · refine xg_t (xg_cVr mX1_rowsOf (vs := [(0, wh)]) (rest := []) (rs := [(2, 10)]) (cn1 := 0) (sl1 := 0) rfl (hp109) rfl h3_25 rfl rfl rfl rfl rfl rfl rfl) ?_
                      refine xg_t (xg_astore (l1 := [(2, (2, 3)), (0, (2, 0)), (1, (0, wh))]) rfl rfl rfl) ?_
                      refine xg_t (xg_aload (va := (2, 10)) rfl rfl) ?_
                      refine xg_t (xg_ifnnT) ?_
                      refine xg_t (xg_blq rfl) ?_
                      refine xg_t (xg_aload (va := (2, 10)) rfl rfl) ?_
                      obtain ⟨f10_119, h10_121, hb120⟩ := (xqc10 hI : cp10 (wget w 10))
                      refine xg_t (xg_getf (va := (0, f10_119)) h10_121 rfl) ?_
                      refine xg_t (xg_blq rfl) ?_
                      exact xg_e ⟨f10_119, w, ⟨rfl, rfl⟩, by omega, hI, xFr.rf⟩
                    · refine xg_t (xg_cVr mX1_rowsOf (vs := [(0, wh)]) (rest := []) (rs := [(2, 12)]) (cn1 := 0) (sl1 := 0) rfl (hp109) rfl h3_25 rfl rfl rfl rfl rfl rfl rfl) ?_
                      refine xg_t (xg_astore (l1 := [(2, (2, 3)), (0, (2, 0)), (1, (0, wh))]) rfl rfl rfl) ?_
                      refine xg_t (xg_aload (va := (2, 12)) rfl rfl) ?_
                      refine xg_t (xg_ifnnT) ?_
                      refine xg_t (xg_blq rfl) ?_
                      refine xg_t (xg_aload (va := (2, 12)) rfl rfl) ?_
                      obtain ⟨f12_122, h12_124, hb123⟩ := (xqc12 hI : cp12 (wget w 12))
                      refine xg_t (xg_getf (va := (0, f12_122)) h12_124 rfl) ?_
                      refine xg_t (xg_blq rfl) ?_
                      exact xg_e ⟨f12_122, w, ⟨rfl, rfl⟩, by omega, hI, xFr.rf⟩
                    · refine xg_t (xg_cVr mX1_rowsOf (vs := [(0, wh)]) (rest := []) (rs := [(3, 0)]) (cn1 := 0) (sl1 := 0) rfl (hp109) rfl h3_25 rfl rfl rfl rfl rfl rfl rfl) ?_
                      refine xg_t (xg_astore (l1 := [(2, (2, 3)), (0, (2, 0)), (1, (0, wh))]) rfl rfl rfl) ?_
                      refine xg_t (xg_aload (va := (3, 0)) rfl rfl) ?_
                      refine xg_t (xg_ifnnF) ?_
                      refine xg_t (xg_bip) ?_
                      refine xg_t (xg_goto) ?_
                      refine xg_t (xg_blq rfl) ?_
                      exact xg_e ⟨4294967294, w, ⟨rfl, rfl⟩, by first | decide | omega, hI, xFr.rf⟩
                  · by_cases hc125 : wh = 14
                    · refine xg_t (xg_swt (ks := [(5, 64), (6, 69), (7, 74), (8, 79), (9, 89), (10, 89), (11, 89), (12, 89), (13, 89), (14, 84)]) (u := wh) (z := 84) rfl rfl rfl xnm0 (xsw_n hc26 (xsw_n hc27 (xsw_n hc28 (xsw_n hc29 (xsw_n hc30 (xsw_n hc49 (xsw_n hc68 (xsw_n hc87 (xsw_n hc106 (xsw_y hc125))))))))))) ?_
                      refine xg_t (xg_blq rfl) ?_
                      refine xg_t (xg_aload (va := (2, 3)) rfl rfl) ?_
                      refine xg_t (xg_getf (va := (0, f3_23)) h3_25 rfl) ?_
                      exact xg_e ⟨f3_23, w, ⟨rfl, rfl⟩, by omega, hI, xFr.rf⟩
                    · refine xg_t (xg_swt (ks := [(5, 64), (6, 69), (7, 74), (8, 79), (9, 89), (10, 89), (11, 89), (12, 89), (13, 89), (14, 84)]) (u := wh) (z := 89) rfl rfl rfl xnm0 (xsw_n hc26 (xsw_n hc27 (xsw_n hc28 (xsw_n hc29 (xsw_n hc30 (xsw_n hc49 (xsw_n hc68 (xsw_n hc87 (xsw_n hc106 (xsw_n hc125 (xsw_d)))))))))))) ?_
                      refine xg_t (xg_blq rfl) ?_
                      refine xg_t (xg_aload (va := (2, 3)) rfl rfl) ?_
                      refine xg_t (xg_iload (va := (0, wh)) rfl rfl) ?_
                      obtain ⟨v126, hv127, hp128⟩ := rowsOf3 (d := d + 0) (bd := bd) (fc := fc) (rr := rr) (so := wh) (hI) (by omega)
                      rcases hv127 with rfl | rfl | rfl | rfl | rfl | rfl
                      · refine xg_t (xg_cVr mX1_rowsOf (vs := [(0, wh)]) (rest := []) (rs := [(2, 4)]) (cn1 := 0) (sl1 := 0) rfl (hp128) rfl h3_25 rfl rfl rfl rfl rfl rfl rfl) ?_
                        refine xg_t (xg_astore (l1 := [(2, (2, 3)), (0, (2, 0)), (1, (0, wh))]) rfl rfl rfl) ?_
                        refine xg_t (xg_aload (va := (2, 4)) rfl rfl) ?_
                        refine xg_t (xg_ifnnT) ?_
                        refine xg_t (xg_blq rfl) ?_
                        refine xg_t (xg_aload (va := (2, 4)) rfl rfl) ?_
                        obtain ⟨f4_129, h4_131, hb130⟩ := (xqc4 hI : cp4 (wget w 4))
                        refine xg_t (xg_getf (va := (0, f4_129)) h4_131 rfl) ?_
                        refine xg_t (xg_blq rfl) ?_
                        exact xg_e ⟨f4_129, w, ⟨rfl, rfl⟩, by omega, hI, xFr.rf⟩
                      · refine xg_t (xg_cVr mX1_rowsOf (vs := [(0, wh)]) (rest := []) (rs := [(2, 6)]) (cn1 := 0) (sl1 := 0) rfl (hp128) rfl h3_25 rfl rfl rfl rfl rfl rfl rfl) ?_
                        refine xg_t (xg_astore (l1 := [(2, (2, 3)), (0, (2, 0)), (1, (0, wh))]) rfl rfl rfl) ?_
                        refine xg_t (xg_aload (va := (2, 6)) rfl rfl) ?_
                        refine xg_t (xg_ifnnT) ?_
                        refine xg_t (xg_blq rfl) ?_
                        refine xg_t (xg_aload (va := (2, 6)) rfl rfl) ?_
                        obtain ⟨f6_132, h6_134, hb133⟩ := (xqc6 hI : cp6 (wget w 6))
                        refine xg_t (xg_getf (va := (0, f6_132)) h6_134 rfl) ?_
                        refine xg_t (xg_blq rfl) ?_
                        exact xg_e ⟨f6_132, w, ⟨rfl, rfl⟩, by omega, hI, xFr.rf⟩
                      · refine xg_t (xg_cVr mX1_rowsOf (vs := [(0, wh)]) (rest := []) (rs := [(2, 8)]) (cn1 := 0) (sl1 := 0) rfl (hp128) rfl h3_25 rfl rfl rfl rfl rfl rfl rfl) ?_
                        refine xg_t (xg_astore (l1 := [(2, (2, 3)), (0, (2, 0)), (1, (0, wh))]) rfl rfl rfl) ?_
                        refine xg_t (xg_aload (va := (2, 8)) rfl rfl) ?_
                        refine xg_t (xg_ifnnT) ?_
                        refine xg_t (xg_blq rfl) ?_
                        refine xg_t (xg_aload (va := (2, 8)) rfl rfl) ?_
                        obtain ⟨f8_135, h8_137, hb136⟩ := (xqc8 hI : cp8 (wget w 8))
                        refine xg_t (xg_getf (va := (0, f8_135)) h8_137 rfl) ?_
                        refine xg_t (xg_blq rfl) ?_
                        exact xg_e ⟨f8_135, w, ⟨rfl, rfl⟩, by omega, hI, xFr.rf⟩
                      · refine xg_t (xg_cVr mX1_rowsOf (vs := [(0, wh)]) (rest := []) (rs := [(2, 10)]) (cn1 := 0) (sl1 := 0) rfl (hp128) rfl h3_25 rfl rfl rfl rfl rfl rfl rfl) ?_
                        refine xg_t (xg_astore (l1 := [(2, (2, 3)), (0, (2, 0)), (1, (0, wh))]) rfl rfl rfl) ?_
                        refine xg_t (xg_aload (va := (2, 10)) rfl rfl) ?_
                        refine xg_t (xg_ifnnT) ?_
                        refine xg_t (xg_blq rfl) ?_
                        refine xg_t (xg_aload (va := (2, 10)) rfl rfl) ?_
                        obtain ⟨f10_138, h10_140, hb139⟩ := (xqc10 hI : cp10 (wget w 10))
                        refine xg_t (xg_getf (va := (0, f10_138)) h10_140 rfl) ?_
                        refine xg_t (xg_blq rfl) ?_
                        exact xg_e ⟨f10_138, w, ⟨rfl, rfl⟩, by omega, hI, xFr.rf⟩
                      · refine xg_t (xg_cVr mX1_rowsOf (vs := [(0, wh)]) (rest := []) (rs := [(2, 12)]) (cn1 := 0) (sl1 := 0) rfl (hp128) rfl h3_25 rfl rfl rfl rfl rfl rfl rfl) ?_
                        refine xg_t (xg_astore (l1 := [(2, (2, 3)), (0, (2, 0)), (1, (0, wh))]) rfl rfl rfl) ?_
                        refine xg_t (xg_aload (va := (2, 12)) rfl rfl) ?_
                        refine xg_t (xg_ifnnT) ?_
                        refine xg_t (xg_blq rfl) ?_
                        refine xg_t (xg_aload (va := (2, 12)) rfl rfl) ?_
                        obtain ⟨f12_141, h12_143, hb142⟩ := (xqc12 hI : cp12 (wget w 12))
                        refine xg_t (xg_getf (va := (0, f12_141)) h12_143 rfl) ?_
                        refine xg_t (xg_blq rfl) ?_
                        exact xg_e ⟨f12_141, w, ⟨rfl, rfl⟩, by omega, hI, xFr.rf⟩
                      · refine xg_t (xg_cVr mX1_rowsOf (vs := [(0, wh)]) (rest := []) (rs := [(3, 0)]) (cn1 := 0) (sl1 := 0) rfl (hp128) rfl h3_25 rfl rfl rfl rfl rfl rfl rfl) ?_
                        refine xg_t (xg_astore (l1 := [(2, (2, 3)), (0, (2, 0)), (1, (0, wh))]) rfl rfl rfl) ?_
                        refine xg_t (xg_aload (va := (3, 0)) rfl rfl) ?_
                        refine xg_t (xg_ifnnF) ?_
                        refine xg_t (xg_bip) ?_
                        refine xg_t (xg_goto) ?_
                        refine xg_t (xg_blq rfl) ?_
                        exact xg_e ⟨4294967294, w, ⟨rfl, rfl⟩, by first | decide | omega, hI, xFr.rf⟩
theorem scCount {wh : Nat} (hI : xInv w) (hwh : wh ≤ 4294967295) : xPi (d + 2) mX11_count [(2, 0), (0, wh)] w bd fc rr (fun n w' => (n ≤ 4294967295) ∧ xInv w' ∧ xFr [] w w') := by
  refine xPi.of ?_
  show xTo (d + 2) mX11_count (0, [], [(0, (2, 0)), (1, (0, wh))], [], (w, bd, fc, 0, 0, rr)) (fun φ => ∃ n w', xEnd 1 [(0, n)] (w', bd, fc, 0, 0, rr) φ ∧ (n ≤ 4294967295) ∧ xInv w' ∧ xFr [] w w')
  refine xg_t (xg_blq rfl) ?_
  refine xg_t (xg_iload (va := (0, wh)) rfl rfl) ?_
  by_cases hc1 : wh = 9
  · refine xg_t (xg_swt (ks := [(9, 56), (10, 67), (11, 78), (12, 86), (13, 94), (14, 143), (15, 102), (16, 113), (17, 124), (18, 135)]) (u := wh) (z := 56) rfl rfl rfl xnm0 (xsw_y hc1)) ?_
    refine xg_t (xg_blq rfl) ?_
    refine xg_t (xg_aload (va := (2, 0)) rfl rfl) ?_
    have h0_2 := (xqc0 hI : cp0 (wget w 0))
    refine xg_t (xg_getf (va := (2, 1)) h0_2 rfl) ?_
    refine xoC1 (xqc1 hI : cp1 (wget w 1)) (fun f1_3 f1_5 f1_7 f1_9 f1_11 f1_13 h1_15 hb4 hb6 hb8 hb10 hb12 hb14 => ?_)
    refine xg_t (xg_getf (va := (2, 14)) h1_15 rfl) ?_
    obtain ⟨f14_16, h14_18, hb17⟩ := (xqc14 hI : cp14 (wget w 14))
    refine xg_t (xg_getf (va := (0, f14_16)) h14_18 rfl) ?_
    exact xg_e ⟨f14_16, w, ⟨rfl, rfl⟩, by omega, hI, xFr.rf⟩
  · by_cases hc19 : wh = 10
    · refine xg_t (xg_swt (ks := [(9, 56), (10, 67), (11, 78), (12, 86), (13, 94), (14, 143), (15, 102), (16, 113), (17, 124), (18, 135)]) (u := wh) (z := 67) rfl rfl rfl xnm0 (xsw_n hc1 (xsw_y hc19))) ?_
      refine xg_t (xg_blq rfl) ?_
      refine xg_t (xg_aload (va := (2, 0)) rfl rfl) ?_
      have h0_20 := (xqc0 hI : cp0 (wget w 0))
      refine xg_t (xg_getf (va := (2, 1)) h0_20 rfl) ?_
      refine xoC1 (xqc1 hI : cp1 (wget w 1)) (fun f1_21 f1_23 f1_25 f1_27 f1_29 f1_31 h1_33 hb22 hb24 hb26 hb28 hb30 hb32 => ?_)
      refine xg_t (xg_getf (va := (2, 16)) h1_33 rfl) ?_
      obtain ⟨f16_34, h16_36, hb35⟩ := (xqc16 hI : cp16 (wget w 16))
      refine xg_t (xg_getf (va := (0, f16_34)) h16_36 rfl) ?_
      exact xg_e ⟨f16_34, w, ⟨rfl, rfl⟩, by omega, hI, xFr.rf⟩
    · by_cases hc37 : wh = 11
      · refine xg_t (xg_swt (ks := [(9, 56), (10, 67), (11, 78), (12, 86), (13, 94), (14, 143), (15, 102), (16, 113), (17, 124), (18, 135)]) (u := wh) (z := 78) rfl rfl rfl xnm0 (xsw_n hc1 (xsw_n hc19 (xsw_y hc37)))) ?_
        refine xg_t (xg_blq rfl) ?_
        refine xg_t (xg_aload (va := (2, 0)) rfl rfl) ?_
        have h0_38 := (xqc0 hI : cp0 (wget w 0))
        refine xg_t (xg_getf (va := (2, 1)) h0_38 rfl) ?_
        refine xoC1 (xqc1 hI : cp1 (wget w 1)) (fun f1_39 f1_41 f1_43 f1_45 f1_47 f1_49 h1_51 hb40 hb42 hb44 hb46 hb48 hb50 => ?_)
        refine xg_t (xg_getf (va := (0, f1_45)) h1_51 rfl) ?_
        exact xg_e ⟨f1_45, w, ⟨rfl, rfl⟩, by omega, hI, xFr.rf⟩
      · by_cases hc52 : wh = 12
        · refine xg_t (xg_swt (ks := [(9, 56), (10, 67), (11, 78), (12, 86), (13, 94), (14, 143), (15, 102), (16, 113), (17, 124), (18, 135)]) (u := wh) (z := 86) rfl rfl rfl xnm0 (xsw_n hc1 (xsw_n hc19 (xsw_n hc37 (xsw_y hc52))))) ?_
          refine xg_t (xg_blq rfl) ?_
          refine xg_t (xg_aload (va := (2, 0)) rfl rfl) ?_
          have h0_53 := (xqc0 hI : cp0 (wget w 0))
          refine xg_t (xg_getf (va := (2, 1)) h0_53 rfl) ?_
          refine xoC1 (xqc1 hI : cp1 (wget w 1)) (fun f1_54 f1_56 f1_58 f1_60 f1_62 f1_64 h1_66 hb55 hb57 hb59 hb61 hb63 hb65 => ?_)
          refine xg_t (xg_getf (va := (0, f1_62)) h1_66 rfl) ?_
          exact xg_e ⟨f1_62, w, ⟨rfl, rfl⟩, by omega, hI, xFr.rf⟩
        · by_cases hc67 : wh = 13
          · refine xg_t (xg_swt (ks := [(9, 56), (10, 67), (11, 78), (12, 86), (13, 94), (14, 143), (15, 102), (16, 113), (17, 124), (18, 135)]) (u := wh) (z := 94) rfl rfl rfl xnm0 (xsw_n hc1 (xsw_n hc19 (xsw_n hc37 (xsw_n hc52 (xsw_y hc67)))))) ?_
            refine xg_t (xg_blq rfl) ?_
            refine xg_t (xg_aload (va := (2, 0)) rfl rfl) ?_
            have h0_68 := (xqc0 hI : cp0 (wget w 0))
            refine xg_t (xg_getf (va := (2, 1)) h0_68 rfl) ?_
            refine xoC1 (xqc1 hI : cp1 (wget w 1)) (fun f1_69 f1_71 f1_73 f1_75 f1_77 f1_79 h1_81 hb70 hb72 hb74 hb76 hb78 hb80 => ?_)
            refine xg_t (xg_getf (va := (0, f1_79)) h1_81 rfl) ?_
            exact xg_e ⟨f1_79, w, ⟨rfl, rfl⟩, by omega, hI, xFr.rf⟩
          · by_cases hc82 : wh = 14
            · refine xg_t (xg_swt (ks := [(9, 56), (10, 67), (11, 78), (12, 86), (13, 94), (14, 143), (15, 102), (16, 113), (17, 124), (18, 135)]) (u := wh) (z := 143) rfl rfl rfl xnm0 (xsw_n hc1 (xsw_n hc19 (xsw_n hc37 (xsw_n hc52 (xsw_n hc67 (xsw_y hc82))))))) ?_
              refine xg_t (xg_blq rfl) ?_
              refine xg_t (xg_aload (va := (2, 0)) rfl rfl) ?_
              refine xg_t (xg_iload (va := (0, wh)) rfl rfl) ?_
              have h0_83 := (xqc0 hI : cp0 (wget w 0))
              refine xg_cVi mX11_countOfFilm (vs := [(0, wh)]) (rest := []) (cn1 := 0) (sl1 := 0) rfl (scCountOfFilm (hI) (by omega)) rfl h0_83 rfl rfl rfl rfl rfl rfl (fun n88 w84 hq85 => ?_)
              obtain ⟨hn89, hI86, hF87⟩ := hq85
              exact xg_e ⟨n88, w84, ⟨rfl, rfl⟩, by omega, hI86, (hF87.up (by decide))⟩
            · by_cases hc90 : wh = 15
              · refine xg_t (xg_swt (ks := [(9, 56), (10, 67), (11, 78), (12, 86), (13, 94), (14, 143), (15, 102), (16, 113), (17, 124), (18, 135)]) (u := wh) (z := 102) rfl rfl rfl xnm0 (xsw_n hc1 (xsw_n hc19 (xsw_n hc37 (xsw_n hc52 (xsw_n hc67 (xsw_n hc82 (xsw_y hc90)))))))) ?_
                refine xg_t (xg_blq rfl) ?_
                refine xg_t (xg_aload (va := (2, 0)) rfl rfl) ?_
                have h0_91 := (xqc0 hI : cp0 (wget w 0))
                refine xg_t (xg_getf (va := (2, 1)) h0_91 rfl) ?_
                refine xoC1 (xqc1 hI : cp1 (wget w 1)) (fun f1_92 f1_94 f1_96 f1_98 f1_100 f1_102 h1_104 hb93 hb95 hb97 hb99 hb101 hb103 => ?_)
                refine xg_t (xg_getf (va := (2, 18)) h1_104 rfl) ?_
                obtain ⟨f18_105, h18_107, hb106⟩ := (xqc18 hI : cp18 (wget w 18))
                refine xg_t (xg_getf (va := (0, f18_105)) h18_107 rfl) ?_
                exact xg_e ⟨f18_105, w, ⟨rfl, rfl⟩, by omega, hI, xFr.rf⟩
              · by_cases hc108 : wh = 16
                · refine xg_t (xg_swt (ks := [(9, 56), (10, 67), (11, 78), (12, 86), (13, 94), (14, 143), (15, 102), (16, 113), (17, 124), (18, 135)]) (u := wh) (z := 113) rfl rfl rfl xnm0 (xsw_n hc1 (xsw_n hc19 (xsw_n hc37 (xsw_n hc52 (xsw_n hc67 (xsw_n hc82 (xsw_n hc90 (xsw_y hc108))))))))) ?_
                  refine xg_t (xg_blq rfl) ?_
                  refine xg_t (xg_aload (va := (2, 0)) rfl rfl) ?_
                  have h0_109 := (xqc0 hI : cp0 (wget w 0))
                  refine xg_t (xg_getf (va := (2, 1)) h0_109 rfl) ?_
                  refine xoC1 (xqc1 hI : cp1 (wget w 1)) (fun f1_110 f1_112 f1_114 f1_116 f1_118 f1_120 h1_122 hb111 hb113 hb115 hb117 hb119 hb121 => ?_)
                  refine xg_t (xg_getf (va := (2, 20)) h1_122 rfl) ?_
                  obtain ⟨f20_123, h20_125, hb124⟩ := (xqc20 hI : cp20 (wget w 20))
                  refine xg_t (xg_getf (va := (0, f20_123)) h20_125 rfl) ?_
                  exact xg_e ⟨f20_123, w, ⟨rfl, rfl⟩, by omega, hI, xFr.rf⟩
                · by_cases hc126 : wh = 17
                  · refine xg_t (xg_swt (ks := [(9, 56), (10, 67), (11, 78), (12, 86), (13, 94), (14, 143), (15, 102), (16, 113), (17, 124), (18, 135)]) (u := wh) (z := 124) rfl rfl rfl xnm0 (xsw_n hc1 (xsw_n hc19 (xsw_n hc37 (xsw_n hc52 (xsw_n hc67 (xsw_n hc82 (xsw_n hc90 (xsw_n hc108 (xsw_y hc126)))))))))) ?_
                    refine xg_t (xg_blq rfl) ?_
                    refine xg_t (xg_aload (va := (2, 0)) rfl rfl) ?_
                    have h0_127 := (xqc0 hI : cp0 (wget w 0))
                    refine xg_t (xg_getf (va := (2, 1)) h0_127 rfl) ?_
                    refine xoC1 (xqc1 hI : cp1 (wget w 1)) (fun f1_128 f1_130 f1_132 f1_134 f1_136 f1_138 h1_140 hb129 hb131 hb133 hb135 hb137 hb139 => ?_)
                    refine xg_t (xg_getf (va := (2, 22)) h1_140 rfl) ?_
                    obtain ⟨f22_141, h22_143, hb142⟩ := (xqc22 hI : cp22 (wget w 22))
                    refine xg_t (xg_getf (va := (0, f22_141)) h22_143 rfl) ?_
                    exact xg_e ⟨f22_141, w, ⟨rfl, rfl⟩, by omega, hI, xFr.rf⟩
                  · by_cases hc144 : wh = 18
                    · refine xg_t (xg_swt (ks := [(9, 56), (10, 67), (11, 78), (12, 86), (13, 94), (14, 143), (15, 102), (16, 113), (17, 124), (18, 135)]) (u := wh) (z := 135) rfl rfl rfl xnm0 (xsw_n hc1 (xsw_n hc19 (xsw_n hc37 (xsw_n hc52 (xsw_n hc67 (xsw_n hc82 (xsw_n hc90 (xsw_n hc108 (xsw_n hc126 (xsw_y hc144))))))))))) ?_
                      refine xg_t (xg_blq rfl) ?_
                      refine xg_t (xg_aload (va := (2, 0)) rfl rfl) ?_
                      have h0_145 := (xqc0 hI : cp0 (wget w 0))
                      refine xg_t (xg_getf (va := (2, 1)) h0_145 rfl) ?_
                      refine xoC1 (xqc1 hI : cp1 (wget w 1)) (fun f1_146 f1_148 f1_150 f1_152 f1_154 f1_156 h1_158 hb147 hb149 hb151 hb153 hb155 hb157 => ?_)
                      refine xg_cVi mX9_cracksInView (vs := []) (rest := []) (cn1 := 0) (sl1 := 0) rfl (tdCracksInView (hI)) rfl h1_158 rfl rfl rfl rfl rfl rfl (fun n163 w159 hq160 => ?_)
                      obtain ⟨hn164, hI161, hF162⟩ := hq160
                      exact xg_e ⟨n163, w159, ⟨rfl, rfl⟩, by omega, hI161, (hF162.up (by decide))⟩
                    · refine xg_t (xg_swt (ks := [(9, 56), (10, 67), (11, 78), (12, 86), (13, 94), (14, 143), (15, 102), (16, 113), (17, 124), (18, 135)]) (u := wh) (z := 143) rfl rfl rfl xnm0 (xsw_n hc1 (xsw_n hc19 (xsw_n hc37 (xsw_n hc52 (xsw_n hc67 (xsw_n hc82 (xsw_n hc90 (xsw_n hc108 (xsw_n hc126 (xsw_n hc144 (xsw_d)))))))))))) ?_
                      refine xg_t (xg_blq rfl) ?_
                      refine xg_t (xg_aload (va := (2, 0)) rfl rfl) ?_
                      refine xg_t (xg_iload (va := (0, wh)) rfl rfl) ?_
                      have h0_165 := (xqc0 hI : cp0 (wget w 0))
                      refine xg_cVi mX11_countOfFilm (vs := [(0, wh)]) (rest := []) (cn1 := 0) (sl1 := 0) rfl (scCountOfFilm (hI) (by omega)) rfl h0_165 rfl rfl rfl rfl rfl rfl (fun n170 w166 hq167 => ?_)
                      obtain ⟨hn171, hI168, hF169⟩ := hq167
                      exact xg_e ⟨n170, w166, ⟨rfl, rfl⟩, by omega, hI168, (hF169.up (by decide))⟩
end XCO
end
section
/-! Tokens: but for words -/
section XTK
variable {d : Nat} {w : List (List xE)} {bd : List (Nat × Nat)} {fc : List (Nat × Nat × Bool)} {rr : Nat × Nat}
theorem tkIsLetter {by_ : Nat} (hI : xInv w) (h1 : by_ ≤ 4294967295) : xPi d mX8_isLetter [(0, by_)] w bd fc rr (fun n w' => (n ≤ 1) ∧ xInv w' ∧ xFr [] w w') := by
  refine xPi.of ?_
  show xTo d mX8_isLetter (0, [], [(0, (0, by_))], [], (w, bd, fc, 0, 0, rr)) (fun φ => ∃ n w', xEnd 4 [(0, n)] (w', bd, fc, 0, 0, rr) φ ∧ (n ≤ 1) ∧ xInv w' ∧ xFr [] w w')
  refine xg_t (xg_blq rfl) ?_
  refine xg_t (xg_iload (va := (0, by_)) rfl rfl) ?_
  refine xg_t (xg_bip) ?_
  by_cases hc1 : xbs by_ < xbs 97
  · have hc1u := hc1
    unfold xbs at hc1u
    refine xg_t (xg_icT (u := by_) (v := 97) rfl xnm0 xnm0 (xjs_ltT hc1)) ?_
    refine xg_t (xg_blq rfl) ?_
    refine xg_t (xg_const) ?_
    refine xg_t (xg_blq rfl) ?_
    exact xg_e ⟨0, w, ⟨rfl, rfl⟩, by first | decide | omega, hI, xFr.rf⟩
  · have hc1u := hc1
    unfold xbs at hc1u
    have hn2 : by_ ≤ 2147483647 := by omega
    refine xg_t (xg_icF (u := by_) (v := 97) rfl xnm0 xnm0 (xjs_ltF hc1)) ?_
    refine xg_t (xg_iload (va := (0, by_)) rfl rfl) ?_
    refine xg_t (xg_bip) ?_
    by_cases hc3 : 122 < by_
    · refine xg_t (xg_icT (u := by_) (v := 122) rfl xnm0 xnm0 (xj_gtT hc3 (by omega))) ?_
      refine xg_t (xg_blq rfl) ?_
      refine xg_t (xg_const) ?_
      refine xg_t (xg_blq rfl) ?_
      exact xg_e ⟨0, w, ⟨rfl, rfl⟩, by first | decide | omega, hI, xFr.rf⟩
    · refine xg_t (xg_icF (u := by_) (v := 122) rfl xnm0 xnm0 (xj_gtF (by omega) (by omega))) ?_
      refine xg_t (xg_const) ?_
      refine xg_t (xg_goto) ?_
      refine xg_t (xg_blq rfl) ?_
      exact xg_e ⟨1, w, ⟨rfl, rfl⟩, by first | decide | omega, hI, xFr.rf⟩
theorem tkIsDigit {by_ : Nat} (hI : xInv w) (h1 : by_ ≤ 4294967295) : xPi d mX8_isDigit [(0, by_)] w bd fc rr (fun n w' => (n ≤ 1) ∧ xInv w' ∧ xFr [] w w') := by
  refine xPi.of ?_
  show xTo d mX8_isDigit (0, [], [(0, (0, by_))], [], (w, bd, fc, 0, 0, rr)) (fun φ => ∃ n w', xEnd 4 [(0, n)] (w', bd, fc, 0, 0, rr) φ ∧ (n ≤ 1) ∧ xInv w' ∧ xFr [] w w')
  refine xg_t (xg_blq rfl) ?_
  refine xg_t (xg_iload (va := (0, by_)) rfl rfl) ?_
  refine xg_t (xg_bip) ?_
  by_cases hc1 : xbs by_ < xbs 48
  · have hc1u := hc1
    unfold xbs at hc1u
    refine xg_t (xg_icT (u := by_) (v := 48) rfl xnm0 xnm0 (xjs_ltT hc1)) ?_
    refine xg_t (xg_blq rfl) ?_
    refine xg_t (xg_const) ?_
    refine xg_t (xg_blq rfl) ?_
    exact xg_e ⟨0, w, ⟨rfl, rfl⟩, by first | decide | omega, hI, xFr.rf⟩
  · have hc1u := hc1
    unfold xbs at hc1u
    have hn2 : by_ ≤ 2147483647 := by omega
    refine xg_t (xg_icF (u := by_) (v := 48) rfl xnm0 xnm0 (xjs_ltF hc1)) ?_
    refine xg_t (xg_iload (va := (0, by_)) rfl rfl) ?_
    refine xg_t (xg_bip) ?_
    by_cases hc3 : 57 < by_
    · refine xg_t (xg_icT (u := by_) (v := 57) rfl xnm0 xnm0 (xj_gtT hc3 (by omega))) ?_
      refine xg_t (xg_blq rfl) ?_
      refine xg_t (xg_const) ?_
      refine xg_t (xg_blq rfl) ?_
      exact xg_e ⟨0, w, ⟨rfl, rfl⟩, by first | decide | omega, hI, xFr.rf⟩
    · refine xg_t (xg_icF (u := by_) (v := 57) rfl xnm0 xnm0 (xj_gtF (by omega) (by omega))) ?_
      refine xg_t (xg_const) ?_
      refine xg_t (xg_goto) ?_
      refine xg_t (xg_blq rfl) ?_
      exact xg_e ⟨1, w, ⟨rfl, rfl⟩, by first | decide | omega, hI, xFr.rf⟩
theorem tkIsSignByte {by_ : Nat} (hI : xInv w) (h1 : by_ ≤ 4294967295) : xPi d mX8_isSignByte [(0, by_)] w bd fc rr (fun n w' => (n ≤ 1) ∧ xInv w' ∧ xFr [] w w') := by
  refine xPi.of ?_
  show xTo d mX8_isSignByte (0, [], [(0, (0, by_))], [], (w, bd, fc, 0, 0, rr)) (fun φ => ∃ n w', xEnd 4 [(0, n)] (w', bd, fc, 0, 0, rr) φ ∧ (n ≤ 1) ∧ xInv w' ∧ xFr [] w w')
  refine xg_t (xg_blq rfl) ?_
  refine xg_t (xg_iload (va := (0, by_)) rfl rfl) ?_
  refine xg_t (xg_bip) ?_
  by_cases hc1 : by_ = 59
  · refine xg_t (xg_icT (u := by_) (v := 59) rfl xnm0 xnm0 (xj_eqT hc1)) ?_
    refine xg_t (xg_blq rfl) ?_
    refine xg_t (xg_const) ?_
    refine xg_t (xg_goto) ?_
    refine xg_t (xg_blq rfl) ?_
    exact xg_e ⟨1, w, ⟨rfl, rfl⟩, by first | decide | omega, hI, xFr.rf⟩
  · refine xg_t (xg_icF (u := by_) (v := 59) rfl xnm0 xnm0 (xj_eqF hc1)) ?_
    refine xg_t (xg_iload (va := (0, by_)) rfl rfl) ?_
    refine xg_t (xg_bip) ?_
    by_cases hc2 : by_ = 58
    · refine xg_t (xg_icT (u := by_) (v := 58) rfl xnm0 xnm0 (xj_eqT hc2)) ?_
      refine xg_t (xg_blq rfl) ?_
      refine xg_t (xg_const) ?_
      refine xg_t (xg_goto) ?_
      refine xg_t (xg_blq rfl) ?_
      exact xg_e ⟨1, w, ⟨rfl, rfl⟩, by first | decide | omega, hI, xFr.rf⟩
    · refine xg_t (xg_icF (u := by_) (v := 58) rfl xnm0 xnm0 (xj_eqF hc2)) ?_
      refine xg_t (xg_iload (va := (0, by_)) rfl rfl) ?_
      refine xg_t (xg_bip) ?_
      by_cases hc3 : by_ = 60
      · refine xg_t (xg_icT (u := by_) (v := 60) rfl xnm0 xnm0 (xj_eqT hc3)) ?_
        refine xg_t (xg_blq rfl) ?_
        refine xg_t (xg_const) ?_
        refine xg_t (xg_goto) ?_
        refine xg_t (xg_blq rfl) ?_
        exact xg_e ⟨1, w, ⟨rfl, rfl⟩, by first | decide | omega, hI, xFr.rf⟩
      · refine xg_t (xg_icF (u := by_) (v := 60) rfl xnm0 xnm0 (xj_eqF hc3)) ?_
        refine xg_t (xg_iload (va := (0, by_)) rfl rfl) ?_
        refine xg_t (xg_bip) ?_
        by_cases hc4 : by_ = 62
        · refine xg_t (xg_icT (u := by_) (v := 62) rfl xnm0 xnm0 (xj_eqT hc4)) ?_
          refine xg_t (xg_blq rfl) ?_
          refine xg_t (xg_const) ?_
          refine xg_t (xg_goto) ?_
          refine xg_t (xg_blq rfl) ?_
          exact xg_e ⟨1, w, ⟨rfl, rfl⟩, by first | decide | omega, hI, xFr.rf⟩
        · refine xg_t (xg_icF (u := by_) (v := 62) rfl xnm0 xnm0 (xj_eqF hc4)) ?_
          refine xg_t (xg_iload (va := (0, by_)) rfl rfl) ?_
          refine xg_t (xg_bip) ?_
          by_cases hc5 : by_ = 61
          · refine xg_t (xg_icF (u := by_) (v := 61) rfl xnm0 xnm0 (xj_neF hc5)) ?_
            refine xg_t (xg_blq rfl) ?_
            refine xg_t (xg_const) ?_
            refine xg_t (xg_goto) ?_
            refine xg_t (xg_blq rfl) ?_
            exact xg_e ⟨1, w, ⟨rfl, rfl⟩, by first | decide | omega, hI, xFr.rf⟩
          · refine xg_t (xg_icT (u := by_) (v := 61) rfl xnm0 xnm0 (xj_neT hc5)) ?_
            refine xg_t (xg_blq rfl) ?_
            refine xg_t (xg_const) ?_
            refine xg_t (xg_blq rfl) ?_
            exact xg_e ⟨0, w, ⟨rfl, rfl⟩, by first | decide | omega, hI, xFr.rf⟩
theorem tkTakeDigits48 {le0 kd0 pl0 af0 nu0 : Nat} (hI : xInv w) (hc0 : wget w 48 = some (.inl (8, [(2, 2), (0, le0), (0, kd0), (0, pl0), (0, af0), (0, nu0)]))) (hl0 : le0 ≤ 500) (hk0 : kd0 ≤ 4294967295) (hp0 : pl0 ≤ 499) (ha0 : af0 ≤ 500) (hn0 : nu0 ≤ 4294967295) : xPq (d + 1) mX8_takeDigits [(2, 48)] w bd fc rr [] (fun w' => xInv w' ∧ xFr [48] w w') := by
  refine xPq.of ?_
  show xTo (d + 1) mX8_takeDigits (0, [], [(0, (2, 48))], [], (w, bd, fc, 0, 0, rr)) (fun φ => ∃ w', xEnd 0 [] (w', bd, fc, 0, 0, rr) φ ∧ xInv w' ∧ xFr [48] w w')
  obtain ⟨g2_1, h2_2, hb3⟩ := (xqc2 hI : cpY 500 0 (wget w 2))
  have h2_2 : xRk 1 0 w 2 500 0 g2_1 := h2_2
  refine xg_t (xg_blq rfl) ?_
  refine xg_t (xg_aload (va := (2, 48)) rfl rfl) ?_
  refine xg_t (xg_const) ?_
  refine xg_putI (fl1 := [(2, 2), (0, le0), (0, kd0), (0, pl0), (0, af0), (0, 0)]) hc0 rfl rfl rfl (fun w4 hk5 hb6 => ?_)
  have key7 : ∀ (m9 : Nat) (le1 kd1 pl1 af1 nu1 : Nat) (w10 : List (List xE)), 500 - af1 < m9 → le1 ≤ 500 → kd1 ≤ 4294967295 → pl1 ≤ 500 → af1 ≤ 500 → nu1 ≤ 4294967295 → wget w10 48 = some (.inl (8, [(2, 2), (0, le1), (0, kd1), (0, pl1), (0, af1), (0, nu1)])) → (kd1 = 0 ∨ pl1 ≤ 499) → xInv w10 → xFr [48] w w10 → pl1 ≤ 499 → xTo (d + 1) mX8_takeDigits (5, [], [(0, (2, 48))], [], (w10, bd, fc, 0, 0, rr)) (fun φ => ∃ w', xEnd 0 [] (w', bd, fc, 0, 0, rr) φ ∧ xInv w' ∧ xFr [48] w w') := by
    intro m9
    induction m9 with
    | zero => intro le1 kd1 pl1 af1 nu1 w10 hz; exact absurd hz (Nat.not_lt_zero _)
    | succ m9 ih8 =>
      intro le1 kd1 pl1 af1 nu1 w10 hm21 hn13 hn14 hn15 hn16 hn17 hcl18 hx19 hI11 hF12 he20
      refine xg_t (xg_blq rfl) ?_
      refine xg_t (xg_aload (va := (2, 48)) rfl rfl) ?_
      refine xg_t (xg_getf (va := (0, af1)) hcl18 rfl) ?_
      refine xg_t (xg_aload (va := (2, 48)) rfl rfl) ?_
      refine xg_t (xg_getf (va := (0, le1)) hcl18 rfl) ?_
      by_cases hc22 : af1 < le1
      · refine xg_t (xg_icF (u := af1) (v := le1) rfl xnm0 xnm0 (xj_geF hc22 (by omega))) ?_
        refine xg_t (xg_aload (va := (2, 48)) rfl rfl) ?_
        refine xg_t (xg_getf (va := (2, 2)) hcl18 rfl) ?_
        refine xg_t (xg_aload (va := (2, 48)) rfl rfl) ?_
        refine xg_t (xg_getf (va := (0, af1)) hcl18 rfl) ?_
        refine xg_baldY (n := af1) (h2_2.fr hF12 (by decide)) (hb3) xnm0 (by omega) (fun u23 hu24 he25 => ?_)
        refine xg_cSi mX8_isDigit (vs := [(0, u23)]) (rest := []) (cn1 := 0) (sl1 := 0) rfl (tkIsDigit (hI11) (by omega)) rfl rfl rfl rfl rfl rfl rfl (fun n30 w26 hq27 => ?_)
        obtain ⟨hn31, hI28, hF29⟩ := hq27
        by_cases hc32 : n30 = 0
        · refine xg_t (xg_ifT (u := n30) rfl xnm0 (xj_eqT hc32)) ?_
          refine xg_t (xg_blq rfl) ?_
          refine xg_t (xg_aload (va := (2, 48)) rfl rfl) ?_
          refine xg_t (xg_aload (va := (2, 48)) rfl rfl) ?_
          refine xg_t (xg_getf (va := (0, af1)) (hF29.get (by decide) hcl18) rfl) ?_
          refine xg_t (xg_aload (va := (2, 48)) rfl rfl) ?_
          refine xg_t (xg_getf (va := (0, pl1)) (hF29.get (by decide) hcl18) rfl) ?_
          refine xg_k (xg_isub (u := af1) (v := pl1) (z := (af1 + (4294967296 - pl1)) % 4294967296) xnm0 xnm0 rfl) (Nat.mod_lt _ (by decide)) (fun z33 hz34 => ?_)
          refine xg_t (xg_const) ?_
          by_cases hc35 : xbs 4 < xbs z33
          · have hc35u := hc35
            unfold xbs at hc35u
            have hn36 : z33 ≤ 2147483647 := by omega
            refine xg_t (xg_icF (u := z33) (v := 4) rfl xnm0 xnm0 (xjs_leF hc35)) ?_
            refine xg_t (xg_const) ?_
            refine xg_t (xg_goto) ?_
            refine xg_t (xg_blq rfl) ?_
            refine xg_putI (fl1 := [(2, 2), (0, le1), (0, 4), (0, pl1), (0, af1), (0, nu1)]) (hF29.get (by decide) hcl18) rfl rfl rfl (fun w37 hk38 hb39 => ?_)
            exact xg_e ⟨w37, ⟨rfl, rfl⟩, xInv.up (S := [48]) hI28 (xFr.of (S := [48]) hb39 (by decide)) (List.forall_mem_cons.mpr ⟨xqu48 (show cp48 (wget w37 48) from xmC48 le1 4 pl1 af1 nu1 hk38 hn13 (by decide) hn15 hn16 hn17 (by omega)), fun _ h => absurd h List.not_mem_nil⟩), ((hF12.tr (hF29.up (by decide))).tr (xFr.of (S := [48]) hb39 (by decide)))⟩
          · have hc35u := hc35
            unfold xbs at hc35u
            refine xg_t (xg_icT (u := z33) (v := 4) rfl xnm0 xnm0 (xjs_leT hc35)) ?_
            refine xg_t (xg_blq rfl) ?_
            refine xg_t (xg_const) ?_
            refine xg_t (xg_blq rfl) ?_
            refine xg_putI (fl1 := [(2, 2), (0, le1), (0, 2), (0, pl1), (0, af1), (0, nu1)]) (hF29.get (by decide) hcl18) rfl rfl rfl (fun w40 hk41 hb42 => ?_)
            exact xg_e ⟨w40, ⟨rfl, rfl⟩, xInv.up (S := [48]) hI28 (xFr.of (S := [48]) hb42 (by decide)) (List.forall_mem_cons.mpr ⟨xqu48 (show cp48 (wget w40 48) from xmC48 le1 2 pl1 af1 nu1 hk41 hn13 (by decide) hn15 hn16 hn17 (by omega)), fun _ h => absurd h List.not_mem_nil⟩), ((hF12.tr (hF29.up (by decide))).tr (xFr.of (S := [48]) hb42 (by decide)))⟩
        · refine xg_t (xg_ifF (u := n30) rfl xnm0 (xj_eqF hc32)) ?_
          refine xg_t (xg_aload (va := (2, 48)) rfl rfl) ?_
          refine xg_t (xg_getf (va := (0, af1)) (hF29.get (by decide) hcl18) rfl) ?_
          refine xg_t (xg_aload (va := (2, 48)) rfl rfl) ?_
          refine xg_t (xg_getf (va := (0, pl1)) (hF29.get (by decide) hcl18) rfl) ?_
          refine xg_k (xg_isub (u := af1) (v := pl1) (z := (af1 + (4294967296 - pl1)) % 4294967296) xnm0 xnm0 rfl) (Nat.mod_lt _ (by decide)) (fun z43 hz44 => ?_)
          refine xg_t (xg_const) ?_
          by_cases hc45 : xbs z43 < xbs 4
          · have hc45u := hc45
            unfold xbs at hc45u
            refine xg_t (xg_icF (u := z43) (v := 4) rfl xnm0 xnm0 (xjs_geF hc45)) ?_
            refine xg_t (xg_aload (va := (2, 48)) rfl rfl) ?_
            refine xg_t (xg_aload (va := (2, 48)) rfl rfl) ?_
            refine xg_t (xg_getf (va := (0, nu1)) (hF29.get (by decide) hcl18) rfl) ?_
            refine xg_t (xg_bip) ?_
            refine xg_k (xg_imul (u := nu1) (v := 10) (z := (nu1 * 10) % 4294967296) xnm0 xnm0 rfl) (Nat.mod_lt _ (by decide)) (fun z46 hz47 => ?_)
            refine xg_t (xg_aload (va := (2, 48)) rfl rfl) ?_
            refine xg_t (xg_getf (va := (2, 2)) (hF29.get (by decide) hcl18) rfl) ?_
            refine xg_t (xg_aload (va := (2, 48)) rfl rfl) ?_
            refine xg_t (xg_getf (va := (0, af1)) (hF29.get (by decide) hcl18) rfl) ?_
            refine xg_baldY (n := af1) ((h2_2.fr hF12 (by decide)).fr hF29 (by decide)) (hb3) xnm0 (by omega) (fun u48 hu49 he50 => ?_)
            refine xg_k (xg_iadd (u := z46) (v := u48) (z := (z46 + u48) % 4294967296) xnm0 xnm0 rfl) (Nat.mod_lt _ (by decide)) (fun z51 hz52 => ?_)
            refine xg_t (xg_bip) ?_
            refine xg_k (xg_isub (u := z51) (v := 48) (z := (z51 + (4294967296 - 48)) % 4294967296) xnm0 xnm0 rfl) (Nat.mod_lt _ (by decide)) (fun z53 hz54 => ?_)
            refine xg_putI (fl1 := [(2, 2), (0, le1), (0, kd1), (0, pl1), (0, af1), (0, z53)]) (hF29.get (by decide) hcl18) rfl rfl rfl (fun w55 hk56 hb57 => ?_)
            refine xg_t (xg_blq rfl) ?_
            refine xg_t (xg_aload (va := (2, 48)) rfl rfl) ?_
            refine xg_t (xg_dup rfl) ?_
            refine xg_t (xg_getf (va := (0, af1)) hk56 rfl) ?_
            refine xg_t (xg_const) ?_
            refine xg_t (xg_iadd (u := af1) (v := 1) (z := af1 + 1) xnm0 xnm0 (by omega)) ?_
            refine xg_putI (fl1 := [(2, 2), (0, le1), (0, kd1), (0, pl1), (0, af1 + 1), (0, z53)]) hk56 rfl rfl rfl (fun w58 hk59 hb60 => ?_)
            refine xg_t (xg_goto) ?_
            exact ih8 le1 kd1 pl1 (af1 + 1) z53 w58 (by omega) (hn13) (hn14) (hn15) (by omega) (by omega) hk59 (by omega) (xInv.up (S := [48]) hI28 ((xFr.of (S := [48]) hb57 (by decide)).tr (xFr.of (S := [48]) hb60 (by decide))) (List.forall_mem_cons.mpr ⟨xqu48 (show cp48 (wget w58 48) from xmC48 le1 kd1 pl1 (af1 + 1) z53 hk59 hn13 hn14 hn15 (by omega) (by omega) (by omega)), fun _ h => absurd h List.not_mem_nil⟩)) (((hF12.tr (hF29.up (by decide))).tr ((xFr.of (S := [48]) hb57 (by decide)).tr (xFr.of (S := [48]) hb60 (by decide))))) (by omega)
          · have hc45u := hc45
            unfold xbs at hc45u
            have hn61 : z43 ≤ 2147483647 := by omega
            refine xg_t (xg_icT (u := z43) (v := 4) rfl xnm0 xnm0 (xjs_geT hc45)) ?_
            refine xg_t (xg_blq rfl) ?_
            refine xg_t (xg_aload (va := (2, 48)) rfl rfl) ?_
            refine xg_t (xg_dup rfl) ?_
            refine xg_t (xg_getf (va := (0, af1)) (hF29.get (by decide) hcl18) rfl) ?_
            refine xg_t (xg_const) ?_
            refine xg_t (xg_iadd (u := af1) (v := 1) (z := af1 + 1) xnm0 xnm0 (by omega)) ?_
            refine xg_putI (fl1 := [(2, 2), (0, le1), (0, kd1), (0, pl1), (0, af1 + 1), (0, nu1)]) (hF29.get (by decide) hcl18) rfl rfl rfl (fun w62 hk63 hb64 => ?_)
            refine xg_t (xg_goto) ?_
            exact ih8 le1 kd1 pl1 (af1 + 1) nu1 w62 (by omega) (hn13) (hn14) (hn15) (by omega) (hn17) hk63 (by omega) (xInv.up (S := [48]) hI28 (xFr.of (S := [48]) hb64 (by decide)) (List.forall_mem_cons.mpr ⟨xqu48 (show cp48 (wget w62 48) from xmC48 le1 kd1 pl1 (af1 + 1) nu1 hk63 hn13 hn14 hn15 (by omega) hn17 (by omega)), fun _ h => absurd h List.not_mem_nil⟩)) (((hF12.tr (hF29.up (by decide))).tr (xFr.of (S := [48]) hb64 (by decide)))) (by omega)
      · refine xg_t (xg_icT (u := af1) (v := le1) rfl xnm0 xnm0 (xj_geT (by omega) (by omega))) ?_
        refine xg_t (xg_blq rfl) ?_
        refine xg_t (xg_aload (va := (2, 48)) rfl rfl) ?_
        refine xg_t (xg_aload (va := (2, 48)) rfl rfl) ?_
        refine xg_t (xg_getf (va := (0, af1)) hcl18 rfl) ?_
        refine xg_t (xg_aload (va := (2, 48)) rfl rfl) ?_
        refine xg_t (xg_getf (va := (0, pl1)) hcl18 rfl) ?_
        refine xg_k (xg_isub (u := af1) (v := pl1) (z := (af1 + (4294967296 - pl1)) % 4294967296) xnm0 xnm0 rfl) (Nat.mod_lt _ (by decide)) (fun z65 hz66 => ?_)
        refine xg_t (xg_const) ?_
        by_cases hc67 : xbs 4 < xbs z65
        · have hc67u := hc67
          unfold xbs at hc67u
          have hn68 : z65 ≤ 2147483647 := by omega
          refine xg_t (xg_icF (u := z65) (v := 4) rfl xnm0 xnm0 (xjs_leF hc67)) ?_
          refine xg_t (xg_const) ?_
          refine xg_t (xg_goto) ?_
          refine xg_t (xg_blq rfl) ?_
          refine xg_putI (fl1 := [(2, 2), (0, le1), (0, 4), (0, pl1), (0, af1), (0, nu1)]) hcl18 rfl rfl rfl (fun w69 hk70 hb71 => ?_)
          exact xg_e ⟨w69, ⟨rfl, rfl⟩, xInv.up (S := [48]) hI11 (xFr.of (S := [48]) hb71 (by decide)) (List.forall_mem_cons.mpr ⟨xqu48 (show cp48 (wget w69 48) from xmC48 le1 4 pl1 af1 nu1 hk70 hn13 (by decide) hn15 hn16 hn17 (by omega)), fun _ h => absurd h List.not_mem_nil⟩), (hF12.tr (xFr.of (S := [48]) hb71 (by decide)))⟩
        · have hc67u := hc67
          unfold xbs at hc67u
          refine xg_t (xg_icT (u := z65) (v := 4) rfl xnm0 xnm0 (xjs_leT hc67)) ?_
          refine xg_t (xg_blq rfl) ?_
          refine xg_t (xg_const) ?_
          refine xg_t (xg_blq rfl) ?_
          refine xg_putI (fl1 := [(2, 2), (0, le1), (0, 2), (0, pl1), (0, af1), (0, nu1)]) hcl18 rfl rfl rfl (fun w72 hk73 hb74 => ?_)
          exact xg_e ⟨w72, ⟨rfl, rfl⟩, xInv.up (S := [48]) hI11 (xFr.of (S := [48]) hb74 (by decide)) (List.forall_mem_cons.mpr ⟨xqu48 (show cp48 (wget w72 48) from xmC48 le1 2 pl1 af1 nu1 hk73 hn13 (by decide) hn15 hn16 hn17 (by omega)), fun _ h => absurd h List.not_mem_nil⟩), (hF12.tr (xFr.of (S := [48]) hb74 (by decide)))⟩
  exact key7 _ le0 kd0 pl0 af0 0 w4 (Nat.lt_succ_self _) (by omega) (by omega) (by omega) (by omega) (by decide) hk5 (by omega) (xInv.up (S := [48]) hI (xFr.of (S := [48]) hb6 (by decide)) (List.forall_mem_cons.mpr ⟨xqu48 (show cp48 (wget w4 48) from xmC48 le0 kd0 pl0 af0 0 hk5 (by omega) (by omega) (by omega) (by omega) (by decide) (by omega)), fun _ h => absurd h List.not_mem_nil⟩)) ((xFr.of (S := [48]) hb6 (by decide))) (by omega)
theorem tkAdvance48 (hI : xInv w)  : xPq (d + 2) mX8_advance [(2, 48)] w bd fc rr [] (fun w' => xInv w' ∧ xFr [48] w w') := by
  refine xPq.of ?_
  show xTo (d + 2) mX8_advance (0, [], [(0, (2, 48))], [], (w, bd, fc, 0, 0, rr)) (fun φ => ∃ w', xEnd 0 [] (w', bd, fc, 0, 0, rr) φ ∧ xInv w' ∧ xFr [48] w w')
  obtain ⟨g2_1, h2_2, hb3⟩ := (xqc2 hI : cpY 500 0 (wget w 2))
  have h2_2 : xRk 1 0 w 2 500 0 g2_1 := h2_2
  refine xoC48 (xqc48 hI : cp48 (wget w 48)) (fun f48_4 f48_6 f48_8 f48_10 f48_12 h48_14 hb5 hb7 hb9 hb11 hb13 hb15 => ?_)
  have key16 : ∀ (m18 : Nat) (le1 kd1 pl1 af1 nu1 : Nat) (w19 : List (List xE)), 500 - af1 < m18 → le1 ≤ 500 → kd1 ≤ 4294967295 → pl1 ≤ 500 → af1 ≤ 500 → nu1 ≤ 4294967295 → wget w19 48 = some (.inl (8, [(2, 2), (0, le1), (0, kd1), (0, pl1), (0, af1), (0, nu1)])) → (kd1 = 0 ∨ pl1 ≤ 499) → xInv w19 → xFr [48] w w19 → xTo (d + 2) mX8_advance (0, [], [(0, (2, 48))], [], (w19, bd, fc, 0, 0, rr)) (fun φ => ∃ w', xEnd 0 [] (w', bd, fc, 0, 0, rr) φ ∧ xInv w' ∧ xFr [48] w w') := by
    intro m18
    induction m18 with
    | zero => intro le1 kd1 pl1 af1 nu1 w19 hz; exact absurd hz (Nat.not_lt_zero _)
    | succ m18 ih17 =>
      intro le1 kd1 pl1 af1 nu1 w19 hm29 hn22 hn23 hn24 hn25 hn26 hcl27 hx28 hI20 hF21
      refine xg_t (xg_blq rfl) ?_
      refine xg_t (xg_aload (va := (2, 48)) rfl rfl) ?_
      refine xg_t (xg_getf (va := (0, af1)) hcl27 rfl) ?_
      refine xg_t (xg_aload (va := (2, 48)) rfl rfl) ?_
      refine xg_t (xg_getf (va := (0, le1)) hcl27 rfl) ?_
      by_cases hc30 : af1 < le1
      · refine xg_t (xg_icF (u := af1) (v := le1) rfl xnm0 xnm0 (xj_geF hc30 (by omega))) ?_
        refine xg_t (xg_aload (va := (2, 48)) rfl rfl) ?_
        refine xg_t (xg_getf (va := (2, 2)) hcl27 rfl) ?_
        refine xg_t (xg_aload (va := (2, 48)) rfl rfl) ?_
        refine xg_t (xg_getf (va := (0, af1)) hcl27 rfl) ?_
        refine xg_baldY (n := af1) (h2_2.fr hF21 (by decide)) (hb3) xnm0 (by omega) (fun u31 hu32 he33 => ?_)
        refine xg_t (xg_bip) ?_
        by_cases hc34 : u31 = 32
        · refine xg_t (xg_icT (u := u31) (v := 32) rfl xnm0 xnm0 (xj_eqT hc34)) ?_
          refine xg_t (xg_blq rfl) ?_
          refine xg_t (xg_aload (va := (2, 48)) rfl rfl) ?_
          refine xg_t (xg_dup rfl) ?_
          refine xg_t (xg_getf (va := (0, af1)) hcl27 rfl) ?_
          refine xg_t (xg_const) ?_
          refine xg_t (xg_iadd (u := af1) (v := 1) (z := af1 + 1) xnm0 xnm0 (by omega)) ?_
          refine xg_putI (fl1 := [(2, 2), (0, le1), (0, kd1), (0, pl1), (0, af1 + 1), (0, nu1)]) hcl27 rfl rfl rfl (fun w35 hk36 hb37 => ?_)
          refine xg_t (xg_goto) ?_
          exact ih17 le1 kd1 pl1 (af1 + 1) nu1 w35 (by omega) (hn22) (hn23) (hn24) (by omega) (hn26) hk36 (by omega) (xInv.up (S := [48]) hI20 (xFr.of (S := [48]) hb37 (by decide)) (List.forall_mem_cons.mpr ⟨xqu48 (show cp48 (wget w35 48) from xmC48 le1 kd1 pl1 (af1 + 1) nu1 hk36 hn22 hn23 hn24 (by omega) hn26 (by omega)), fun _ h => absurd h List.not_mem_nil⟩)) ((hF21.tr (xFr.of (S := [48]) hb37 (by decide))))
        · refine xg_t (xg_icF (u := u31) (v := 32) rfl xnm0 xnm0 (xj_eqF hc34)) ?_
          refine xg_t (xg_aload (va := (2, 48)) rfl rfl) ?_
          refine xg_t (xg_getf (va := (2, 2)) hcl27 rfl) ?_
          refine xg_t (xg_aload (va := (2, 48)) rfl rfl) ?_
          refine xg_t (xg_getf (va := (0, af1)) hcl27 rfl) ?_
          refine xg_baldY (n := af1) (h2_2.fr hF21 (by decide)) (hb3) xnm0 (by omega) (fun u38 hu39 he40 => ?_)
          refine xg_t (xg_bip) ?_
          by_cases hc41 : u38 = 10
          · refine xg_t (xg_icF (u := u38) (v := 10) rfl xnm0 xnm0 (xj_neF hc41)) ?_
            refine xg_t (xg_blq rfl) ?_
            refine xg_t (xg_aload (va := (2, 48)) rfl rfl) ?_
            refine xg_t (xg_dup rfl) ?_
            refine xg_t (xg_getf (va := (0, af1)) hcl27 rfl) ?_
            refine xg_t (xg_const) ?_
            refine xg_t (xg_iadd (u := af1) (v := 1) (z := af1 + 1) xnm0 xnm0 (by omega)) ?_
            refine xg_putI (fl1 := [(2, 2), (0, le1), (0, kd1), (0, pl1), (0, af1 + 1), (0, nu1)]) hcl27 rfl rfl rfl (fun w42 hk43 hb44 => ?_)
            refine xg_t (xg_goto) ?_
            exact ih17 le1 kd1 pl1 (af1 + 1) nu1 w42 (by omega) (hn22) (hn23) (hn24) (by omega) (hn26) hk43 (by omega) (xInv.up (S := [48]) hI20 (xFr.of (S := [48]) hb44 (by decide)) (List.forall_mem_cons.mpr ⟨xqu48 (show cp48 (wget w42 48) from xmC48 le1 kd1 pl1 (af1 + 1) nu1 hk43 hn22 hn23 hn24 (by omega) hn26 (by omega)), fun _ h => absurd h List.not_mem_nil⟩)) ((hF21.tr (xFr.of (S := [48]) hb44 (by decide))))
          · refine xg_t (xg_icT (u := u38) (v := 10) rfl xnm0 xnm0 (xj_neT hc41)) ?_
            refine xg_t (xg_blq rfl) ?_
            refine xg_t (xg_aload (va := (2, 48)) rfl rfl) ?_
            refine xg_t (xg_aload (va := (2, 48)) rfl rfl) ?_
            refine xg_t (xg_getf (va := (0, af1)) hcl27 rfl) ?_
            refine xg_putI (fl1 := [(2, 2), (0, le1), (0, kd1), (0, af1), (0, af1), (0, nu1)]) hcl27 rfl rfl rfl (fun w45 hk46 hb47 => ?_)
            refine xg_t (xg_aload (va := (2, 48)) rfl rfl) ?_
            refine xg_t (xg_getf (va := (0, af1)) hk46 rfl) ?_
            refine xg_t (xg_aload (va := (2, 48)) rfl rfl) ?_
            refine xg_t (xg_getf (va := (0, le1)) hk46 rfl) ?_
            by_cases hc48 : af1 < le1
            · refine xg_t (xg_icT (u := af1) (v := le1) rfl xnm0 xnm0 (xj_ltT hc48 (by omega))) ?_
              refine xg_t (xg_blq rfl) ?_
              refine xg_t (xg_aload (va := (2, 48)) rfl rfl) ?_
              refine xg_t (xg_getf (va := (2, 2)) hk46 rfl) ?_
              refine xg_t (xg_aload (va := (2, 48)) rfl rfl) ?_
              refine xg_t (xg_getf (va := (0, af1)) hk46 rfl) ?_
              refine xg_baldY (n := af1) ((h2_2.fr hF21 (by decide)).but hb47 (by decide)) (hb3) xnm0 (by omega) (fun u49 hu50 he51 => ?_)
              refine xg_cSi mX8_isLetter (vs := [(0, u49)]) (rest := []) (cn1 := 0) (sl1 := 0) rfl (tkIsLetter (xInv.up (S := [48]) hI20 (xFr.of (S := [48]) hb47 (by decide)) (List.forall_mem_cons.mpr ⟨xqu48 (show cp48 (wget w45 48) from xmC48 le1 kd1 af1 af1 nu1 hk46 hn22 hn23 hn25 hn25 hn26 (by omega)), fun _ h => absurd h List.not_mem_nil⟩)) (by omega)) rfl rfl rfl rfl rfl rfl rfl (fun n56 w52 hq53 => ?_)
              obtain ⟨hn57, hI54, hF55⟩ := hq53
              by_cases hc58 : n56 = 0
              · refine xg_t (xg_ifT (u := n56) rfl xnm0 (xj_eqT hc58)) ?_
                refine xg_t (xg_blq rfl) ?_
                refine xg_t (xg_aload (va := (2, 48)) rfl rfl) ?_
                refine xg_t (xg_getf (va := (2, 2)) (hF55.get (by decide) hk46) rfl) ?_
                refine xg_t (xg_aload (va := (2, 48)) rfl rfl) ?_
                refine xg_t (xg_getf (va := (0, af1)) (hF55.get (by decide) hk46) rfl) ?_
                refine xg_baldY (n := af1) (((h2_2.fr hF21 (by decide)).but hb47 (by decide)).fr hF55 (by decide)) (hb3) xnm0 (by omega) (fun u59 hu60 he61 => ?_)
                refine xg_cSi mX8_isDigit (vs := [(0, u59)]) (rest := []) (cn1 := 0) (sl1 := 0) rfl (tkIsDigit (hI54) (by omega)) rfl rfl rfl rfl rfl rfl rfl (fun n66 w62 hq63 => ?_)
                obtain ⟨hn67, hI64, hF65⟩ := hq63
                by_cases hc68 : n66 = 0
                · refine xg_t (xg_ifT (u := n66) rfl xnm0 (xj_eqT hc68)) ?_
                  refine xg_t (xg_blq rfl) ?_
                  refine xg_t (xg_aload (va := (2, 48)) rfl rfl) ?_
                  refine xg_t (xg_aload (va := (2, 48)) rfl rfl) ?_
                  refine xg_t (xg_getf (va := (2, 2)) (hF65.get (by decide) (hF55.get (by decide) hk46)) rfl) ?_
                  refine xg_t (xg_aload (va := (2, 48)) rfl rfl) ?_
                  refine xg_t (xg_getf (va := (0, af1)) (hF65.get (by decide) (hF55.get (by decide) hk46)) rfl) ?_
                  refine xg_baldY (n := af1) ((((h2_2.fr hF21 (by decide)).but hb47 (by decide)).fr hF55 (by decide)).fr hF65 (by decide)) (hb3) xnm0 (by omega) (fun u69 hu70 he71 => ?_)
                  refine xg_cSi mX8_isSignByte (vs := [(0, u69)]) (rest := [(2, 48)]) (cn1 := 0) (sl1 := 0) rfl (tkIsSignByte (hI64) (by omega)) rfl rfl rfl rfl rfl rfl rfl (fun n76 w72 hq73 => ?_)
                  obtain ⟨hn77, hI74, hF75⟩ := hq73
                  by_cases hc78 : n76 = 0
                  · refine xg_t (xg_ifT (u := n76) rfl xnm0 (xj_eqT hc78)) ?_
                    refine xg_t (xg_blq rfl) ?_
                    refine xg_t (xg_const) ?_
                    refine xg_t (xg_blq rfl) ?_
                    refine xg_putI (fl1 := [(2, 2), (0, le1), (0, 4), (0, af1), (0, af1), (0, nu1)]) (hF75.get (by decide) (hF65.get (by decide) (hF55.get (by decide) hk46))) rfl rfl rfl (fun w79 hk80 hb81 => ?_)
                    refine xg_t (xg_aload (va := (2, 48)) rfl rfl) ?_
                    refine xg_t (xg_dup rfl) ?_
                    refine xg_t (xg_getf (va := (0, af1)) hk80 rfl) ?_
                    refine xg_t (xg_const) ?_
                    refine xg_t (xg_iadd (u := af1) (v := 1) (z := af1 + 1) xnm0 xnm0 (by omega)) ?_
                    refine xg_putI (fl1 := [(2, 2), (0, le1), (0, 4), (0, af1), (0, af1 + 1), (0, nu1)]) hk80 rfl rfl rfl (fun w82 hk83 hb84 => ?_)
                    refine xg_t (xg_blq rfl) ?_
                    exact xg_e ⟨w82, ⟨rfl, rfl⟩, xInv.up (S := [48]) hI74 ((xFr.of (S := [48]) hb81 (by decide)).tr (xFr.of (S := [48]) hb84 (by decide))) (List.forall_mem_cons.mpr ⟨xqu48 (show cp48 (wget w82 48) from xmC48 le1 4 af1 (af1 + 1) nu1 hk83 hn22 (by decide) hn25 (by omega) hn26 (by omega)), fun _ h => absurd h List.not_mem_nil⟩), (((((hF21.tr (xFr.of (S := [48]) hb47 (by decide))).tr (hF55.up (by decide))).tr (hF65.up (by decide))).tr (hF75.up (by decide))).tr ((xFr.of (S := [48]) hb81 (by decide)).tr (xFr.of (S := [48]) hb84 (by decide))))⟩
                  · refine xg_t (xg_ifF (u := n76) rfl xnm0 (xj_eqF hc78)) ?_
                    refine xg_t (xg_const) ?_
                    refine xg_t (xg_goto) ?_
                    refine xg_t (xg_blq rfl) ?_
                    refine xg_putI (fl1 := [(2, 2), (0, le1), (0, 3), (0, af1), (0, af1), (0, nu1)]) (hF75.get (by decide) (hF65.get (by decide) (hF55.get (by decide) hk46))) rfl rfl rfl (fun w85 hk86 hb87 => ?_)
                    refine xg_t (xg_aload (va := (2, 48)) rfl rfl) ?_
                    refine xg_t (xg_dup rfl) ?_
                    refine xg_t (xg_getf (va := (0, af1)) hk86 rfl) ?_
                    refine xg_t (xg_const) ?_
                    refine xg_t (xg_iadd (u := af1) (v := 1) (z := af1 + 1) xnm0 xnm0 (by omega)) ?_
                    refine xg_putI (fl1 := [(2, 2), (0, le1), (0, 3), (0, af1), (0, af1 + 1), (0, nu1)]) hk86 rfl rfl rfl (fun w88 hk89 hb90 => ?_)
                    refine xg_t (xg_blq rfl) ?_
                    exact xg_e ⟨w88, ⟨rfl, rfl⟩, xInv.up (S := [48]) hI74 ((xFr.of (S := [48]) hb87 (by decide)).tr (xFr.of (S := [48]) hb90 (by decide))) (List.forall_mem_cons.mpr ⟨xqu48 (show cp48 (wget w88 48) from xmC48 le1 3 af1 (af1 + 1) nu1 hk89 hn22 (by decide) hn25 (by omega) hn26 (by omega)), fun _ h => absurd h List.not_mem_nil⟩), (((((hF21.tr (xFr.of (S := [48]) hb47 (by decide))).tr (hF55.up (by decide))).tr (hF65.up (by decide))).tr (hF75.up (by decide))).tr ((xFr.of (S := [48]) hb87 (by decide)).tr (xFr.of (S := [48]) hb90 (by decide))))⟩
                · refine xg_t (xg_ifF (u := n66) rfl xnm0 (xj_eqF hc68)) ?_
                  refine xg_t (xg_aload (va := (2, 48)) rfl rfl) ?_
                  refine xg_cVv mX8_takeDigits (vs := []) (rest := []) (cn1 := 0) (sl1 := 0) rfl (tkTakeDigits48 (hI64) (hF65.get (by decide) (hF55.get (by decide) hk46)) (by omega) (by omega) (by omega) (by omega) (by omega)) rfl (hF65.get (by decide) (hF55.get (by decide) hk46)) rfl rfl rfl rfl rfl rfl (fun w91 hq92 => ?_)
                  obtain ⟨hI93, hF94⟩ := hq92
                  refine xg_t (xg_goto) ?_
                  refine xg_t (xg_blq rfl) ?_
                  exact xg_e ⟨w91, ⟨rfl, rfl⟩, hI93, ((((hF21.tr (xFr.of (S := [48]) hb47 (by decide))).tr (hF55.up (by decide))).tr (hF65.up (by decide))).tr (hF94.up (by decide)))⟩
              · refine xg_t (xg_ifF (u := n56) rfl xnm0 (xj_eqF hc58)) ?_
                refine xg_t (xg_aload (va := (2, 48)) rfl rfl) ?_
                refine xg_t (xg_const) ?_
                refine xg_putI (fl1 := [(2, 2), (0, le1), (0, 1), (0, af1), (0, af1), (0, nu1)]) (hF55.get (by decide) hk46) rfl rfl rfl (fun w95 hk96 hb97 => ?_)
                have key98 : ∀ (m100 : Nat) (le2 kd2 pl2 af2 nu2 : Nat) (w101 : List (List xE)), 500 - af2 < m100 → le2 ≤ 500 → kd2 ≤ 4294967295 → pl2 ≤ 500 → af2 ≤ 500 → nu2 ≤ 4294967295 → wget w101 48 = some (.inl (8, [(2, 2), (0, le2), (0, kd2), (0, pl2), (0, af2), (0, nu2)])) → (kd2 = 0 ∨ pl2 ≤ 499) → xInv w101 → xFr [48] w w101 → xTo (d + 2) mX8_advance (99, [], [(0, (2, 48))], [], (w101, bd, fc, 0, 0, rr)) (fun φ => ∃ w', xEnd 0 [] (w', bd, fc, 0, 0, rr) φ ∧ xInv w' ∧ xFr [48] w w') := by
                  intro m100
                  induction m100 with
                  | zero => intro le2 kd2 pl2 af2 nu2 w101 hz; exact absurd hz (Nat.not_lt_zero _)
                  | succ m100 ih99 =>
                    intro le2 kd2 pl2 af2 nu2 w101 hm111 hn104 hn105 hn106 hn107 hn108 hcl109 hx110 hI102 hF103
                    refine xg_t (xg_blq rfl) ?_
                    refine xg_t (xg_aload (va := (2, 48)) rfl rfl) ?_
                    refine xg_t (xg_getf (va := (0, af2)) hcl109 rfl) ?_
                    refine xg_t (xg_aload (va := (2, 48)) rfl rfl) ?_
                    refine xg_t (xg_getf (va := (0, le2)) hcl109 rfl) ?_
                    by_cases hc112 : af2 < le2
                    · refine xg_t (xg_icF (u := af2) (v := le2) rfl xnm0 xnm0 (xj_geF hc112 (by omega))) ?_
                      refine xg_t (xg_aload (va := (2, 48)) rfl rfl) ?_
                      refine xg_t (xg_getf (va := (2, 2)) hcl109 rfl) ?_
                      refine xg_t (xg_aload (va := (2, 48)) rfl rfl) ?_
                      refine xg_t (xg_getf (va := (0, af2)) hcl109 rfl) ?_
                      refine xg_baldY (n := af2) (h2_2.fr hF103 (by decide)) (hb3) xnm0 (by omega) (fun u113 hu114 he115 => ?_)
                      refine xg_cSi mX8_isLetter (vs := [(0, u113)]) (rest := []) (cn1 := 0) (sl1 := 0) rfl (tkIsLetter (hI102) (by omega)) rfl rfl rfl rfl rfl rfl rfl (fun n120 w116 hq117 => ?_)
                      obtain ⟨hn121, hI118, hF119⟩ := hq117
                      by_cases hc122 : n120 = 0
                      · refine xg_t (xg_ifT (u := n120) rfl xnm0 (xj_eqT hc122)) ?_
                        refine xg_t (xg_blq rfl) ?_
                        exact xg_e ⟨w116, ⟨rfl, rfl⟩, hI118, (hF103.tr (hF119.up (by decide)))⟩
                      · refine xg_t (xg_ifF (u := n120) rfl xnm0 (xj_eqF hc122)) ?_
                        refine xg_t (xg_aload (va := (2, 48)) rfl rfl) ?_
                        refine xg_t (xg_dup rfl) ?_
                        refine xg_t (xg_getf (va := (0, af2)) (hF119.get (by decide) hcl109) rfl) ?_
                        refine xg_t (xg_const) ?_
                        refine xg_t (xg_iadd (u := af2) (v := 1) (z := af2 + 1) xnm0 xnm0 (by omega)) ?_
                        refine xg_putI (fl1 := [(2, 2), (0, le2), (0, kd2), (0, pl2), (0, af2 + 1), (0, nu2)]) (hF119.get (by decide) hcl109) rfl rfl rfl (fun w123 hk124 hb125 => ?_)
                        refine xg_t (xg_goto) ?_
                        exact ih99 le2 kd2 pl2 (af2 + 1) nu2 w123 (by omega) (hn104) (hn105) (hn106) (by omega) (hn108) hk124 (by omega) (xInv.up (S := [48]) hI118 (xFr.of (S := [48]) hb125 (by decide)) (List.forall_mem_cons.mpr ⟨xqu48 (show cp48 (wget w123 48) from xmC48 le2 kd2 pl2 (af2 + 1) nu2 hk124 hn104 hn105 hn106 (by omega) hn108 (by omega)), fun _ h => absurd h List.not_mem_nil⟩)) (((hF103.tr (hF119.up (by decide))).tr (xFr.of (S := [48]) hb125 (by decide))))
                    · refine xg_t (xg_icT (u := af2) (v := le2) rfl xnm0 xnm0 (xj_geT (by omega) (by omega))) ?_
                      refine xg_t (xg_blq rfl) ?_
                      exact xg_e ⟨w101, ⟨rfl, rfl⟩, hI102, hF103⟩
                exact key98 _ le1 1 af1 af1 nu1 w95 (Nat.lt_succ_self _) (hn22) (by decide) (hn25) (hn25) (hn26) hk96 (by omega) (xInv.up (S := [48]) hI54 (xFr.of (S := [48]) hb97 (by decide)) (List.forall_mem_cons.mpr ⟨xqu48 (show cp48 (wget w95 48) from xmC48 le1 1 af1 af1 nu1 hk96 hn22 (by decide) hn25 hn25 hn26 (by omega)), fun _ h => absurd h List.not_mem_nil⟩)) ((((hF21.tr (xFr.of (S := [48]) hb47 (by decide))).tr (hF55.up (by decide))).tr (xFr.of (S := [48]) hb97 (by decide))))
            · refine xg_t (xg_icF (u := af1) (v := le1) rfl xnm0 xnm0 (xj_ltF (by omega) (by omega))) ?_
              refine xg_t (xg_aload (va := (2, 48)) rfl rfl) ?_
              refine xg_t (xg_const) ?_
              refine xg_putI (fl1 := [(2, 2), (0, le1), (0, 0), (0, af1), (0, af1), (0, nu1)]) hk46 rfl rfl rfl (fun w126 hk127 hb128 => ?_)
              refine xg_t (xg_goto) ?_
              refine xg_t (xg_blq rfl) ?_
              exact xg_e ⟨w126, ⟨rfl, rfl⟩, xInv.up (S := [48]) hI20 ((xFr.of (S := [48]) hb47 (by decide)).tr (xFr.of (S := [48]) hb128 (by decide))) (List.forall_mem_cons.mpr ⟨xqu48 (show cp48 (wget w126 48) from xmC48 le1 0 af1 af1 nu1 hk127 hn22 (by decide) hn25 hn25 hn26 (by omega)), fun _ h => absurd h List.not_mem_nil⟩), (hF21.tr ((xFr.of (S := [48]) hb47 (by decide)).tr (xFr.of (S := [48]) hb128 (by decide))))⟩
      · refine xg_t (xg_icT (u := af1) (v := le1) rfl xnm0 xnm0 (xj_geT (by omega) (by omega))) ?_
        refine xg_t (xg_blq rfl) ?_
        refine xg_t (xg_aload (va := (2, 48)) rfl rfl) ?_
        refine xg_t (xg_aload (va := (2, 48)) rfl rfl) ?_
        refine xg_t (xg_getf (va := (0, af1)) hcl27 rfl) ?_
        refine xg_putI (fl1 := [(2, 2), (0, le1), (0, kd1), (0, af1), (0, af1), (0, nu1)]) hcl27 rfl rfl rfl (fun w129 hk130 hb131 => ?_)
        refine xg_t (xg_aload (va := (2, 48)) rfl rfl) ?_
        refine xg_t (xg_getf (va := (0, af1)) hk130 rfl) ?_
        refine xg_t (xg_aload (va := (2, 48)) rfl rfl) ?_
        refine xg_t (xg_getf (va := (0, le1)) hk130 rfl) ?_
        by_cases hc132 : af1 < le1
        · refine xg_t (xg_icT (u := af1) (v := le1) rfl xnm0 xnm0 (xj_ltT hc132 (by omega))) ?_
          refine xg_t (xg_blq rfl) ?_
          refine xg_t (xg_aload (va := (2, 48)) rfl rfl) ?_
          refine xg_t (xg_getf (va := (2, 2)) hk130 rfl) ?_
          refine xg_t (xg_aload (va := (2, 48)) rfl rfl) ?_
          refine xg_t (xg_getf (va := (0, af1)) hk130 rfl) ?_
          refine xg_baldY (n := af1) ((h2_2.fr hF21 (by decide)).but hb131 (by decide)) (hb3) xnm0 (by omega) (fun u133 hu134 he135 => ?_)
          refine xg_cSi mX8_isLetter (vs := [(0, u133)]) (rest := []) (cn1 := 0) (sl1 := 0) rfl (tkIsLetter (xInv.up (S := [48]) hI20 (xFr.of (S := [48]) hb131 (by decide)) (List.forall_mem_cons.mpr ⟨xqu48 (show cp48 (wget w129 48) from xmC48 le1 kd1 af1 af1 nu1 hk130 hn22 hn23 hn25 hn25 hn26 (by omega)), fun _ h => absurd h List.not_mem_nil⟩)) (by omega)) rfl rfl rfl rfl rfl rfl rfl (fun n140 w136 hq137 => ?_)
          obtain ⟨hn141, hI138, hF139⟩ := hq137
          by_cases hc142 : n140 = 0
          · refine xg_t (xg_ifT (u := n140) rfl xnm0 (xj_eqT hc142)) ?_
            refine xg_t (xg_blq rfl) ?_
            refine xg_t (xg_aload (va := (2, 48)) rfl rfl) ?_
            refine xg_t (xg_getf (va := (2, 2)) (hF139.get (by decide) hk130) rfl) ?_
            refine xg_t (xg_aload (va := (2, 48)) rfl rfl) ?_
            refine xg_t (xg_getf (va := (0, af1)) (hF139.get (by decide) hk130) rfl) ?_
            refine xg_baldY (n := af1) (((h2_2.fr hF21 (by decide)).but hb131 (by decide)).fr hF139 (by decide)) (hb3) xnm0 (by omega) (fun u143 hu144 he145 => ?_)
            refine xg_cSi mX8_isDigit (vs := [(0, u143)]) (rest := []) (cn1 := 0) (sl1 := 0) rfl (tkIsDigit (hI138) (by omega)) rfl rfl rfl rfl rfl rfl rfl (fun n150 w146 hq147 => ?_)
            obtain ⟨hn151, hI148, hF149⟩ := hq147
            by_cases hc152 : n150 = 0
            · refine xg_t (xg_ifT (u := n150) rfl xnm0 (xj_eqT hc152)) ?_
              refine xg_t (xg_blq rfl) ?_
              refine xg_t (xg_aload (va := (2, 48)) rfl rfl) ?_
              refine xg_t (xg_aload (va := (2, 48)) rfl rfl) ?_
              refine xg_t (xg_getf (va := (2, 2)) (hF149.get (by decide) (hF139.get (by decide) hk130)) rfl) ?_
              refine xg_t (xg_aload (va := (2, 48)) rfl rfl) ?_
              refine xg_t (xg_getf (va := (0, af1)) (hF149.get (by decide) (hF139.get (by decide) hk130)) rfl) ?_
              refine xg_baldY (n := af1) ((((h2_2.fr hF21 (by decide)).but hb131 (by decide)).fr hF139 (by decide)).fr hF149 (by decide)) (hb3) xnm0 (by omega) (fun u153 hu154 he155 => ?_)
              refine xg_cSi mX8_isSignByte (vs := [(0, u153)]) (rest := [(2, 48)]) (cn1 := 0) (sl1 := 0) rfl (tkIsSignByte (hI148) (by omega)) rfl rfl rfl rfl rfl rfl rfl (fun n160 w156 hq157 => ?_)
              obtain ⟨hn161, hI158, hF159⟩ := hq157
              by_cases hc162 : n160 = 0
              · refine xg_t (xg_ifT (u := n160) rfl xnm0 (xj_eqT hc162)) ?_
                refine xg_t (xg_blq rfl) ?_
                refine xg_t (xg_const) ?_
                refine xg_t (xg_blq rfl) ?_
                refine xg_putI (fl1 := [(2, 2), (0, le1), (0, 4), (0, af1), (0, af1), (0, nu1)]) (hF159.get (by decide) (hF149.get (by decide) (hF139.get (by decide) hk130))) rfl rfl rfl (fun w163 hk164 hb165 => ?_)
                refine xg_t (xg_aload (va := (2, 48)) rfl rfl) ?_
                refine xg_t (xg_dup rfl) ?_
                refine xg_t (xg_getf (va := (0, af1)) hk164 rfl) ?_
                refine xg_t (xg_const) ?_
                refine xg_t (xg_iadd (u := af1) (v := 1) (z := af1 + 1) xnm0 xnm0 (by omega)) ?_
                refine xg_putI (fl1 := [(2, 2), (0, le1), (0, 4), (0, af1), (0, af1 + 1), (0, nu1)]) hk164 rfl rfl rfl (fun w166 hk167 hb168 => ?_)
                refine xg_t (xg_blq rfl) ?_
                exact xg_e ⟨w166, ⟨rfl, rfl⟩, xInv.up (S := [48]) hI158 ((xFr.of (S := [48]) hb165 (by decide)).tr (xFr.of (S := [48]) hb168 (by decide))) (List.forall_mem_cons.mpr ⟨xqu48 (show cp48 (wget w166 48) from xmC48 le1 4 af1 (af1 + 1) nu1 hk167 hn22 (by decide) hn25 (by omega) hn26 (by omega)), fun _ h => absurd h List.not_mem_nil⟩), (((((hF21.tr (xFr.of (S := [48]) hb131 (by decide))).tr (hF139.up (by decide))).tr (hF149.up (by decide))).tr (hF159.up (by decide))).tr ((xFr.of (S := [48]) hb165 (by decide)).tr (xFr.of (S := [48]) hb168 (by decide))))⟩
              · refine xg_t (xg_ifF (u := n160) rfl xnm0 (xj_eqF hc162)) ?_
                refine xg_t (xg_const) ?_
                refine xg_t (xg_goto) ?_
                refine xg_t (xg_blq rfl) ?_
                refine xg_putI (fl1 := [(2, 2), (0, le1), (0, 3), (0, af1), (0, af1), (0, nu1)]) (hF159.get (by decide) (hF149.get (by decide) (hF139.get (by decide) hk130))) rfl rfl rfl (fun w169 hk170 hb171 => ?_)
                refine xg_t (xg_aload (va := (2, 48)) rfl rfl) ?_
                refine xg_t (xg_dup rfl) ?_
                refine xg_t (xg_getf (va := (0, af1)) hk170 rfl) ?_
                refine xg_t (xg_const) ?_
                refine xg_t (xg_iadd (u := af1) (v := 1) (z := af1 + 1) xnm0 xnm0 (by omega)) ?_
                refine xg_putI (fl1 := [(2, 2), (0, le1), (0, 3), (0, af1), (0, af1 + 1), (0, nu1)]) hk170 rfl rfl rfl (fun w172 hk173 hb174 => ?_)
                refine xg_t (xg_blq rfl) ?_
                exact xg_e ⟨w172, ⟨rfl, rfl⟩, xInv.up (S := [48]) hI158 ((xFr.of (S := [48]) hb171 (by decide)).tr (xFr.of (S := [48]) hb174 (by decide))) (List.forall_mem_cons.mpr ⟨xqu48 (show cp48 (wget w172 48) from xmC48 le1 3 af1 (af1 + 1) nu1 hk173 hn22 (by decide) hn25 (by omega) hn26 (by omega)), fun _ h => absurd h List.not_mem_nil⟩), (((((hF21.tr (xFr.of (S := [48]) hb131 (by decide))).tr (hF139.up (by decide))).tr (hF149.up (by decide))).tr (hF159.up (by decide))).tr ((xFr.of (S := [48]) hb171 (by decide)).tr (xFr.of (S := [48]) hb174 (by decide))))⟩
            · refine xg_t (xg_ifF (u := n150) rfl xnm0 (xj_eqF hc152)) ?_
              refine xg_t (xg_aload (va := (2, 48)) rfl rfl) ?_
              refine xg_cVv mX8_takeDigits (vs := []) (rest := []) (cn1 := 0) (sl1 := 0) rfl (tkTakeDigits48 (hI148) (hF149.get (by decide) (hF139.get (by decide) hk130)) (by omega) (by omega) (by omega) (by omega) (by omega)) rfl (hF149.get (by decide) (hF139.get (by decide) hk130)) rfl rfl rfl rfl rfl rfl (fun w175 hq176 => ?_)
              obtain ⟨hI177, hF178⟩ := hq176
              refine xg_t (xg_goto) ?_
              refine xg_t (xg_blq rfl) ?_
              exact xg_e ⟨w175, ⟨rfl, rfl⟩, hI177, ((((hF21.tr (xFr.of (S := [48]) hb131 (by decide))).tr (hF139.up (by decide))).tr (hF149.up (by decide))).tr (hF178.up (by decide)))⟩
          · refine xg_t (xg_ifF (u := n140) rfl xnm0 (xj_eqF hc142)) ?_
            refine xg_t (xg_aload (va := (2, 48)) rfl rfl) ?_
            refine xg_t (xg_const) ?_
            refine xg_putI (fl1 := [(2, 2), (0, le1), (0, 1), (0, af1), (0, af1), (0, nu1)]) (hF139.get (by decide) hk130) rfl rfl rfl (fun w179 hk180 hb181 => ?_)
            have key182 : ∀ (m184 : Nat) (le2 kd2 pl2 af2 nu2 : Nat) (w185 : List (List xE)), 500 - af2 < m184 → le2 ≤ 500 → kd2 ≤ 4294967295 → pl2 ≤ 500 → af2 ≤ 500 → nu2 ≤ 4294967295 → wget w185 48 = some (.inl (8, [(2, 2), (0, le2), (0, kd2), (0, pl2), (0, af2), (0, nu2)])) → (kd2 = 0 ∨ pl2 ≤ 499) → xInv w185 → xFr [48] w w185 → xTo (d + 2) mX8_advance (99, [], [(0, (2, 48))], [], (w185, bd, fc, 0, 0, rr)) (fun φ => ∃ w', xEnd 0 [] (w', bd, fc, 0, 0, rr) φ ∧ xInv w' ∧ xFr [48] w w') := by
              intro m184
              induction m184 with
              | zero => intro le2 kd2 pl2 af2 nu2 w185 hz; exact absurd hz (Nat.not_lt_zero _)
              | succ m184 ih183 =>
                intro le2 kd2 pl2 af2 nu2 w185 hm195 hn188 hn189 hn190 hn191 hn192 hcl193 hx194 hI186 hF187
                refine xg_t (xg_blq rfl) ?_
                refine xg_t (xg_aload (va := (2, 48)) rfl rfl) ?_
                refine xg_t (xg_getf (va := (0, af2)) hcl193 rfl) ?_
                refine xg_t (xg_aload (va := (2, 48)) rfl rfl) ?_
                refine xg_t (xg_getf (va := (0, le2)) hcl193 rfl) ?_
                by_cases hc196 : af2 < le2
                · refine xg_t (xg_icF (u := af2) (v := le2) rfl xnm0 xnm0 (xj_geF hc196 (by omega))) ?_
                  refine xg_t (xg_aload (va := (2, 48)) rfl rfl) ?_
                  refine xg_t (xg_getf (va := (2, 2)) hcl193 rfl) ?_
                  refine xg_t (xg_aload (va := (2, 48)) rfl rfl) ?_
                  refine xg_t (xg_getf (va := (0, af2)) hcl193 rfl) ?_
                  refine xg_baldY (n := af2) (h2_2.fr hF187 (by decide)) (hb3) xnm0 (by omega) (fun u197 hu198 he199 => ?_)
                  refine xg_cSi mX8_isLetter (vs := [(0, u197)]) (rest := []) (cn1 := 0) (sl1 := 0) rfl (tkIsLetter (hI186) (by omega)) rfl rfl rfl rfl rfl rfl rfl (fun n204 w200 hq201 => ?_)
                  obtain ⟨hn205, hI202, hF203⟩ := hq201
                  by_cases hc206 : n204 = 0
                  · refine xg_t (xg_ifT (u := n204) rfl xnm0 (xj_eqT hc206)) ?_
                    refine xg_t (xg_blq rfl) ?_
                    exact xg_e ⟨w200, ⟨rfl, rfl⟩, hI202, (hF187.tr (hF203.up (by decide)))⟩
                  · refine xg_t (xg_ifF (u := n204) rfl xnm0 (xj_eqF hc206)) ?_
                    refine xg_t (xg_aload (va := (2, 48)) rfl rfl) ?_
                    refine xg_t (xg_dup rfl) ?_
                    refine xg_t (xg_getf (va := (0, af2)) (hF203.get (by decide) hcl193) rfl) ?_
                    refine xg_t (xg_const) ?_
                    refine xg_t (xg_iadd (u := af2) (v := 1) (z := af2 + 1) xnm0 xnm0 (by omega)) ?_
                    refine xg_putI (fl1 := [(2, 2), (0, le2), (0, kd2), (0, pl2), (0, af2 + 1), (0, nu2)]) (hF203.get (by decide) hcl193) rfl rfl rfl (fun w207 hk208 hb209 => ?_)
                    refine xg_t (xg_goto) ?_
                    exact ih183 le2 kd2 pl2 (af2 + 1) nu2 w207 (by omega) (hn188) (hn189) (hn190) (by omega) (hn192) hk208 (by omega) (xInv.up (S := [48]) hI202 (xFr.of (S := [48]) hb209 (by decide)) (List.forall_mem_cons.mpr ⟨xqu48 (show cp48 (wget w207 48) from xmC48 le2 kd2 pl2 (af2 + 1) nu2 hk208 hn188 hn189 hn190 (by omega) hn192 (by omega)), fun _ h => absurd h List.not_mem_nil⟩)) (((hF187.tr (hF203.up (by decide))).tr (xFr.of (S := [48]) hb209 (by decide))))
                · refine xg_t (xg_icT (u := af2) (v := le2) rfl xnm0 xnm0 (xj_geT (by omega) (by omega))) ?_
                  refine xg_t (xg_blq rfl) ?_
                  exact xg_e ⟨w185, ⟨rfl, rfl⟩, hI186, hF187⟩
            exact key182 _ le1 1 af1 af1 nu1 w179 (Nat.lt_succ_self _) (hn22) (by decide) (hn25) (hn25) (hn26) hk180 (by omega) (xInv.up (S := [48]) hI138 (xFr.of (S := [48]) hb181 (by decide)) (List.forall_mem_cons.mpr ⟨xqu48 (show cp48 (wget w179 48) from xmC48 le1 1 af1 af1 nu1 hk180 hn22 (by decide) hn25 hn25 hn26 (by omega)), fun _ h => absurd h List.not_mem_nil⟩)) ((((hF21.tr (xFr.of (S := [48]) hb131 (by decide))).tr (hF139.up (by decide))).tr (xFr.of (S := [48]) hb181 (by decide))))
        · refine xg_t (xg_icF (u := af1) (v := le1) rfl xnm0 xnm0 (xj_ltF (by omega) (by omega))) ?_
          refine xg_t (xg_aload (va := (2, 48)) rfl rfl) ?_
          refine xg_t (xg_const) ?_
          refine xg_putI (fl1 := [(2, 2), (0, le1), (0, 0), (0, af1), (0, af1), (0, nu1)]) hk130 rfl rfl rfl (fun w210 hk211 hb212 => ?_)
          refine xg_t (xg_goto) ?_
          refine xg_t (xg_blq rfl) ?_
          exact xg_e ⟨w210, ⟨rfl, rfl⟩, xInv.up (S := [48]) hI20 ((xFr.of (S := [48]) hb131 (by decide)).tr (xFr.of (S := [48]) hb212 (by decide))) (List.forall_mem_cons.mpr ⟨xqu48 (show cp48 (wget w210 48) from xmC48 le1 0 af1 af1 nu1 hk211 hn22 (by decide) hn25 hn25 hn26 (by omega)), fun _ h => absurd h List.not_mem_nil⟩), (hF21.tr ((xFr.of (S := [48]) hb131 (by decide)).tr (xFr.of (S := [48]) hb212 (by decide))))⟩
  exact key16 _ f48_4 f48_6 f48_8 f48_10 f48_12 w (Nat.lt_succ_self _) (hb5) (hb7) (hb9) (hb11) (hb13) h48_14 (by omega) (hI) (xFr.rf)
theorem tkStart48 {nl : Nat} (hI : xInv w) (h1 : nl ≤ 500) : xPq (d + 3) mX8_start [(2, 48), (0, nl)] w bd fc rr [] (fun w' => xInv w' ∧ xFr [48] w w') := by
  refine xPq.of ?_
  show xTo (d + 3) mX8_start (0, [], [(0, (2, 48)), (1, (0, nl))], [], (w, bd, fc, 0, 0, rr)) (fun φ => ∃ w', xEnd 0 [] (w', bd, fc, 0, 0, rr) φ ∧ xInv w' ∧ xFr [48] w w')
  refine xg_t (xg_blq rfl) ?_
  refine xg_t (xg_aload (va := (2, 48)) rfl rfl) ?_
  refine xg_t (xg_iload (va := (0, nl)) rfl rfl) ?_
  refine xg_t (xg_aload (va := (2, 48)) rfl rfl) ?_
  refine xoC48 (xqc48 hI : cp48 (wget w 48)) (fun f48_1 f48_3 f48_5 f48_7 f48_9 h48_11 hb2 hb4 hb6 hb8 hb10 hb12 => ?_)
  refine xg_t (xg_getf (va := (2, 2)) h48_11 rfl) ?_
  obtain ⟨g2_13, h2_14, hb15⟩ := (xqc2 hI : cpY 500 0 (wget w 2))
  have h2_14 : xRk 1 0 w 2 500 0 g2_13 := h2_14
  obtain ⟨us16, ha17, ha18⟩ := id h2_14
  refine xg_t (xg_alen ha17) ?_
  refine xg_minK (u := nl) (v := 500) xnm0 xnm0 xmx_ok (by omega) (by omega) (fun z19 hz20 hz21 hz22 hz23 => ?_)
  unfold xbs at hz21 hz22
  refine xg_putI (fl1 := [(2, 2), (0, z19), (0, f48_3), (0, f48_5), (0, f48_7), (0, f48_9)]) h48_11 rfl rfl rfl (fun w24 hk25 hb26 => ?_)
  refine xg_t (xg_aload (va := (2, 48)) rfl rfl) ?_
  refine xg_t (xg_const) ?_
  refine xg_putI (fl1 := [(2, 2), (0, z19), (0, f48_3), (0, f48_5), (0, 0), (0, f48_9)]) hk25 rfl rfl rfl (fun w27 hk28 hb29 => ?_)
  refine xg_t (xg_aload (va := (2, 48)) rfl rfl) ?_
  refine xg_cVv mX8_advance (vs := []) (rest := []) (cn1 := 0) (sl1 := 0) rfl (tkAdvance48 (xInv.up (S := [48]) hI ((xFr.of (S := [48]) hb26 (by decide)).tr (xFr.of (S := [48]) hb29 (by decide))) (List.forall_mem_cons.mpr ⟨xqu48 (show cp48 (wget w27 48) from xmC48 z19 f48_3 f48_5 0 f48_9 hk28 (by omega) hb4 hb6 (by decide) hb10 (by omega)), fun _ h => absurd h List.not_mem_nil⟩))) rfl hk28 rfl rfl rfl rfl rfl rfl (fun w30 hq31 => ?_)
  obtain ⟨hI32, hF33⟩ := hq31
  exact xg_e ⟨w30, ⟨rfl, rfl⟩, hI32, (((xFr.of (S := [48]) hb26 (by decide)).tr (xFr.of (S := [48]) hb29 (by decide))).tr (hF33.up (by decide)))⟩
theorem tkIsSign48 {si : Nat} (hI : xInv w) (h1 : si ≤ 4294967295) : xPi d mX8_isSign [(2, 48), (0, si)] w bd fc rr (fun n w' => (n ≤ 1) ∧ xInv w' ∧ xFr [] w w') := by
  refine xPi.of ?_
  show xTo d mX8_isSign (0, [], [(0, (2, 48)), (1, (0, si))], [], (w, bd, fc, 0, 0, rr)) (fun φ => ∃ n w', xEnd 4 [(0, n)] (w', bd, fc, 0, 0, rr) φ ∧ (n ≤ 1) ∧ xInv w' ∧ xFr [] w w')
  refine xg_t (xg_blq rfl) ?_
  refine xg_t (xg_aload (va := (2, 48)) rfl rfl) ?_
  refine xoC48 (xqc48 hI : cp48 (wget w 48)) (fun f48_1 f48_3 f48_5 f48_7 f48_9 h48_11 hb2 hb4 hb6 hb8 hb10 hb12 => ?_)
  refine xg_t (xg_getf (va := (0, f48_3)) h48_11 rfl) ?_
  refine xg_t (xg_const) ?_
  by_cases hc13 : f48_3 = 3
  · refine xg_t (xg_icF (u := f48_3) (v := 3) rfl xnm0 xnm0 (xj_neF hc13)) ?_
    refine xg_t (xg_aload (va := (2, 48)) rfl rfl) ?_
    refine xg_t (xg_getf (va := (2, 2)) h48_11 rfl) ?_
    refine xg_t (xg_aload (va := (2, 48)) rfl rfl) ?_
    refine xg_t (xg_getf (va := (0, f48_5)) h48_11 rfl) ?_
    obtain ⟨g2_14, h2_15, hb16⟩ := (xqc2 hI : cpY 500 0 (wget w 2))
    have h2_15 : xRk 1 0 w 2 500 0 g2_14 := h2_15
    refine xg_baldY (n := f48_5) h2_15 (hb16) xnm0 (by omega) (fun u17 hu18 he19 => ?_)
    refine xg_t (xg_iload (va := (0, si)) rfl rfl) ?_
    by_cases hc20 : u17 = si
    · refine xg_t (xg_icF (u := u17) (v := si) rfl xnm0 xnm0 (xj_neF hc20)) ?_
      refine xg_t (xg_const) ?_
      refine xg_t (xg_goto) ?_
      refine xg_t (xg_blq rfl) ?_
      exact xg_e ⟨1, w, ⟨rfl, rfl⟩, by first | decide | omega, hI, xFr.rf⟩
    · refine xg_t (xg_icT (u := u17) (v := si) rfl xnm0 xnm0 (xj_neT hc20)) ?_
      refine xg_t (xg_blq rfl) ?_
      refine xg_t (xg_const) ?_
      refine xg_t (xg_blq rfl) ?_
      exact xg_e ⟨0, w, ⟨rfl, rfl⟩, by first | decide | omega, hI, xFr.rf⟩
  · refine xg_t (xg_icT (u := f48_3) (v := 3) rfl xnm0 xnm0 (xj_neT hc13)) ?_
    refine xg_t (xg_blq rfl) ?_
    refine xg_t (xg_const) ?_
    refine xg_t (xg_blq rfl) ?_
    exact xg_e ⟨0, w, ⟨rfl, rfl⟩, by first | decide | omega, hI, xFr.rf⟩
end XTK
end
section
/-! words; the texts of films -/
section XWD
variable {d : Nat} {w : List (List xE)} {bd : List (Nat × Nat)} {fc : List (Nat × Nat × Bool)} {rr : Nat × Nat}
theorem tkIsWord48 {i : Nat} {qb : List Nat} (hI : xInv w) (hi : xget xsbt i = some qb) : xPi (d + 4) mX8_isWord [(2, 48), (8, 100 + i)] w bd fc rr (fun n w' => (n ≤ 1) ∧ xInv w' ∧ xFr [] w w') := by
  refine xPi.of ?_
  show xTo (d + 4) mX8_isWord (0, [], [(0, (2, 48)), (1, (8, 100 + i))], [], (w, bd, fc, 0, 0, rr)) (fun φ => ∃ n w', xEnd 4 [(0, n)] (w', bd, fc, 0, 0, rr) φ ∧ (n ≤ 1) ∧ xInv w' ∧ xFr [] w w')
  obtain ⟨hl6, hq7⟩ := xsbt_ok hi
  refine xoC48 (xqc48 hI : cp48 (wget w 48)) (fun f48_1 f48_3 f48_5 f48_7 f48_9 h48_11 hb2 hb4 hb6 hb8 hb10 hb12 => ?_)
  obtain ⟨g2_13, h2_14, hb15⟩ := (xqc2 hI : cpY 500 0 (wget w 2))
  have h2_14 : xRk 1 0 w 2 500 0 g2_13 := h2_14
  refine xg_t (xg_blq rfl) ?_
  refine xg_t (xg_aload (va := (2, 48)) rfl rfl) ?_
  refine xg_t (xg_getf (va := (0, f48_3)) h48_11 rfl) ?_
  refine xg_t (xg_const) ?_
  by_cases hc16 : f48_3 = 1
  · refine xg_t (xg_icF (u := f48_3) (v := 1) rfl xnm0 xnm0 (xj_neF hc16)) ?_
    refine xg_t (xg_aload (va := (2, 48)) rfl rfl) ?_
    refine xg_t (xg_getf (va := (0, f48_7)) h48_11 rfl) ?_
    refine xg_t (xg_aload (va := (2, 48)) rfl rfl) ?_
    refine xg_t (xg_getf (va := (0, f48_5)) h48_11 rfl) ?_
    by_cases hc17 : f48_5 ≤ f48_7
    · refine xg_t (xg_isub (u := f48_7) (v := f48_5) (z := f48_7 - f48_5) xnm0 xnm0 (by omega)) ?_
      refine xg_t (xg_aload (va := (8, 100 + i)) rfl rfl) ?_
      refine xg_t (xg_slen (i := i) (qb := qb) (Nat.zero_le _) (Nat.zero_le _) (Nat.le_of_ble_eq_true rfl) hi (by omega)) ?_
      by_cases hc18 : (f48_7 - f48_5) = qb.length
      · refine xg_t (xg_icT (u := f48_7 - f48_5) (v := qb.length) rfl xnm0 xnm0 (xj_eqT hc18)) ?_
        refine xg_t (xg_blq rfl) ?_
        refine xg_t (xg_const) ?_
        refine xg_t (xg_istore (l1 := [(0, (2, 48)), (1, (8, 100 + i))]) rfl rfl rfl) ?_
        refine xg_t (xg_drop (l1 := [(0, (2, 48)), (1, (8, 100 + i)), (2, (0, 0))]) (List.forall_mem_cons.mpr ⟨List.mem_cons_of_mem _ (List.mem_cons_self), List.forall_mem_cons.mpr ⟨List.mem_cons_of_mem _ (List.mem_cons_of_mem _ (List.mem_cons_self)), List.forall_mem_cons.mpr ⟨List.mem_cons_self, fun _ h => absurd h List.not_mem_nil⟩⟩⟩)) ?_
        have key19 : ∀ (m21 : Nat) (ki : Nat) (w22 : List (List xE)), qb.length - ki < m21 → ki ≤ 6 → xInv w22 → xFr [] w w22 → xTo (d + 4) mX8_isWord (28, [], [(0, (2, 48)), (1, (8, 100 + i)), (2, (0, ki))], [], (w22, bd, fc, 0, 0, rr)) (fun φ => ∃ n w', xEnd 4 [(0, n)] (w', bd, fc, 0, 0, rr) φ ∧ (n ≤ 1) ∧ xInv w' ∧ xFr [] w w') := by
          intro m21
          induction m21 with
          | zero => intro ki w22 hz; exact absurd hz (Nat.not_lt_zero _)
          | succ m21 ih20 =>
            intro ki w22 hm26 hn25 hI23 hF24
            refine xg_t (xg_blq rfl) ?_
            refine xg_t (xg_iload (va := (0, ki)) rfl rfl) ?_
            refine xg_t (xg_aload (va := (8, 100 + i)) rfl rfl) ?_
            refine xg_t (xg_slen (i := i) (qb := qb) (Nat.zero_le _) (Nat.zero_le _) (Nat.le_of_ble_eq_true rfl) hi (by omega)) ?_
            by_cases hc27 : ki < qb.length
            · refine xg_t (xg_icF (u := ki) (v := qb.length) rfl xnm0 xnm0 (xj_geF hc27 (by omega))) ?_
              refine xg_t (xg_aload (va := (2, 48)) rfl rfl) ?_
              refine xg_t (xg_getf (va := (2, 2)) (hF24.get (by decide) h48_11) rfl) ?_
              refine xg_t (xg_aload (va := (2, 48)) rfl rfl) ?_
              refine xg_t (xg_getf (va := (0, f48_5)) (hF24.get (by decide) h48_11) rfl) ?_
              refine xg_t (xg_iload (va := (0, ki)) rfl rfl) ?_
              refine xg_t (xg_iadd (u := f48_5) (v := ki) (z := f48_5 + ki) xnm0 xnm0 (by omega)) ?_
              refine xg_baldY (n := f48_5 + ki) (h2_14.fr hF24 (by decide)) (hb15) xnm0 (by omega) (fun u28 hu29 he30 => ?_)
              refine xg_t (xg_aload (va := (8, 100 + i)) rfl rfl) ?_
              refine xg_t (xg_iload (va := (0, ki)) rfl rfl) ?_
              refine xg_t (xg_char (i := i) (qb := qb) (n := ki) (Nat.zero_le _) (Nat.zero_le _) (Nat.le_of_ble_eq_true rfl) hi (by omega) xnm0 (by omega) (hq7 _)) ?_
              have hz32 := hq7 ki
              generalize qb.getD ki 0 = ch31 at hz32 ⊢
              by_cases hc33 : u28 = ch31
              · refine xg_t (xg_icT (u := u28) (v := ch31) rfl xnm0 xnm0 (xj_eqT hc33)) ?_
                refine xg_t (xg_blq rfl) ?_
                refine xg_t (xg_iinc (u := ki) (z := ki + 1) (l1 := [(0, (2, 48)), (1, (8, 100 + i))]) rfl rfl (by omega) rfl) ?_
                refine xg_t (xg_goto) ?_
                refine xg_t (xg_drop (l1 := [(0, (2, 48)), (1, (8, 100 + i)), (2, (0, ki + 1))]) (List.forall_mem_cons.mpr ⟨List.mem_cons_of_mem _ (List.mem_cons_self), List.forall_mem_cons.mpr ⟨List.mem_cons_of_mem _ (List.mem_cons_of_mem _ (List.mem_cons_self)), List.forall_mem_cons.mpr ⟨List.mem_cons_self, fun _ h => absurd h List.not_mem_nil⟩⟩⟩)) ?_
                exact ih20 (ki + 1) w22 (by omega) (by omega) (hI23) (hF24)
              · refine xg_t (xg_icF (u := u28) (v := ch31) rfl xnm0 xnm0 (xj_eqF hc33)) ?_
                refine xg_t (xg_const) ?_
                exact xg_e ⟨0, w22, ⟨rfl, rfl⟩, by first | decide | omega, hI23, hF24⟩
            · refine xg_t (xg_icT (u := ki) (v := qb.length) rfl xnm0 xnm0 (xj_geT (by omega) (by omega))) ?_
              refine xg_t (xg_blq rfl) ?_
              refine xg_t (xg_const) ?_
              exact xg_e ⟨1, w22, ⟨rfl, rfl⟩, by first | decide | omega, hI23, hF24⟩
        exact key19 _ 0 w (Nat.lt_succ_self _) (by omega) (hI) (xFr.rf)
      · refine xg_t (xg_icF (u := f48_7 - f48_5) (v := qb.length) rfl xnm0 xnm0 (xj_eqF hc18)) ?_
        refine xg_t (xg_blq rfl) ?_
        refine xg_t (xg_const) ?_
        exact xg_e ⟨0, w, ⟨rfl, rfl⟩, by first | decide | omega, hI, xFr.rf⟩
    · have hz36 : 4294966796 ≤ (f48_7 + (4294967296 - f48_5)) % 4294967296 := by omega
      refine xg_t (xg_isub (u := f48_7) (v := f48_5) (z := (f48_7 + (4294967296 - f48_5)) % 4294967296) xnm0 xnm0 rfl) ?_
      have hz35 : (f48_7 + (4294967296 - f48_5)) % 4294967296 < 4294967296 := Nat.mod_lt _ (by decide)
      generalize (f48_7 + (4294967296 - f48_5)) % 4294967296 = z34 at hz36 hz35 ⊢
      refine xg_t (xg_aload (va := (8, 100 + i)) rfl rfl) ?_
      refine xg_t (xg_slen (i := i) (qb := qb) (Nat.zero_le _) (Nat.zero_le _) (Nat.le_of_ble_eq_true rfl) hi (by omega)) ?_
      refine xg_t (xg_icF (u := z34) (v := qb.length) rfl xnm0 xnm0 (xj_eqF (by omega))) ?_
      refine xg_t (xg_blq rfl) ?_
      refine xg_t (xg_const) ?_
      exact xg_e ⟨0, w, ⟨rfl, rfl⟩, by first | decide | omega, hI, xFr.rf⟩
  · refine xg_t (xg_icT (u := f48_3) (v := 1) rfl xnm0 xnm0 (xj_neT hc16)) ?_
    refine xg_t (xg_blq rfl) ?_
    refine xg_t (xg_const) ?_
    exact xg_e ⟨0, w, ⟨rfl, rfl⟩, by first | decide | omega, hI, xFr.rf⟩
end XWD
end
section
/-! the texts of rules; film, rules -/
section XRT
variable {d : Nat} {w : List (List xE)} {bd : List (Nat × Nat)} {fc : List (Nat × Nat × Bool)} {rr : Nat × Nat}
theorem rtMany (hI : xInv w)  : xPq (d + 1) mX6_noteTooMany [(2, 43)] w bd fc rr [] (fun w' => xInv w' ∧ xFr [43] w w') := by
  refine xPq.of ?_
  show xTo (d + 1) mX6_noteTooMany (0, [], [(0, (2, 43))], [], (w, bd, fc, 0, 0, rr)) (fun φ => ∃ w', xEnd 0 [] (w', bd, fc, 0, 0, rr) φ ∧ xInv w' ∧ xFr [43] w w')
  refine xoC43 (xqc43 hI : cp43 (wget w 43)) (fun f43_1 f43_3 h43_5 hb2 hb4 => ?_)
  refine xoC48 (xqc48 hI : cp48 (wget w 48)) (fun f48_6 f48_8 f48_10 f48_12 f48_14 h48_16 hb7 hb9 hb11 hb13 hb15 hb17 => ?_)
  refine xg_t (xg_blq rfl) ?_
  refine xg_t (xg_aload (va := (2, 43)) rfl rfl) ?_
  refine xg_t (xg_getf (va := (0, f43_1)) h43_5 rfl) ?_
  by_cases hc18 : f43_1 = 0
  · refine xg_t (xg_ifF (u := f43_1) rfl xnm0 (xj_neF hc18)) ?_
    refine xg_t (xg_aload (va := (2, 43)) rfl rfl) ?_
    refine xg_t (xg_const) ?_
    refine xg_putI (fl1 := [(2, 1), (2, 48), (2, 44), (2, 46), (0, 3), (0, f43_3)]) h43_5 rfl rfl rfl (fun w19 hk20 hb21 => ?_)
    refine xg_t (xg_aload (va := (2, 43)) rfl rfl) ?_
    refine xg_t (xg_aload (va := (2, 43)) rfl rfl) ?_
    refine xg_t (xg_getf (va := (2, 48)) hk20 rfl) ?_
    refine xg_t (xg_getf (va := (0, f48_10)) (hb21.get (by decide) h48_16) rfl) ?_
    refine xg_putI (fl1 := [(2, 1), (2, 48), (2, 44), (2, 46), (0, 3), (0, f48_10)]) hk20 rfl rfl rfl (fun w22 hk23 hb24 => ?_)
    refine xg_t (xg_blq rfl) ?_
    exact xg_e ⟨w22, ⟨rfl, rfl⟩, xInv.up (S := [43]) hI ((xFr.of (S := [43]) hb21 (by decide)).tr (xFr.of (S := [43]) hb24 (by decide))) (List.forall_mem_cons.mpr ⟨xqu43 (show cp43 (wget w22 43) from ⟨3, f48_10, hk23, by decide, by omega⟩), fun _ h => absurd h List.not_mem_nil⟩), ((xFr.of (S := [43]) hb21 (by decide)).tr (xFr.of (S := [43]) hb24 (by decide)))⟩
  · refine xg_t (xg_ifT (u := f43_1) rfl xnm0 (xj_neT hc18)) ?_
    refine xg_t (xg_blq rfl) ?_
    exact xg_e ⟨w, ⟨rfl, rfl⟩, hI, xFr.rf⟩
theorem rtVerb (hI : xInv w)  : xPi (d + 5) mX6_verbOfWord [(2, 43)] w bd fc rr (fun n w' => (n ≤ 4294967295) ∧ xInv w' ∧ xFr [] w w') := by
  refine xPi.of ?_
  show xTo (d + 5) mX6_verbOfWord (0, [], [(0, (2, 43))], [], (w, bd, fc, 0, 0, rr)) (fun φ => ∃ n w', xEnd 1 [(0, n)] (w', bd, fc, 0, 0, rr) φ ∧ (n ≤ 4294967295) ∧ xInv w' ∧ xFr [] w w')
  refine xoC43 (xqc43 hI : cp43 (wget w 43)) (fun f43_1 f43_3 h43_5 hb2 hb4 => ?_)
  refine xg_t (xg_blq rfl) ?_
  refine xg_t (xg_aload (va := (2, 43)) rfl rfl) ?_
  refine xg_t (xg_getf (va := (2, 48)) h43_5 rfl) ?_
  refine xg_t (xg_ldcS) ?_
  refine xoC48 (xqc48 hI : cp48 (wget w 48)) (fun f48_6 f48_8 f48_10 f48_12 f48_14 h48_16 hb7 hb9 hb11 hb13 hb15 hb17 => ?_)
  refine xg_cVi mX8_isWord (vs := [(8, 123)]) (rest := []) (cn1 := 0) (sl1 := 0) rfl (tkIsWord48 (hI) (i := 23) rfl) rfl h48_16 rfl rfl rfl rfl rfl rfl (fun n22 w18 hq19 => ?_)
  obtain ⟨hn23, hI20, hF21⟩ := hq19
  by_cases hc24 : n22 = 0
  · refine xg_t (xg_ifT (u := n22) rfl xnm0 (xj_eqT hc24)) ?_
    refine xg_t (xg_blq rfl) ?_
    refine xg_t (xg_aload (va := (2, 43)) rfl rfl) ?_
    refine xg_t (xg_getf (va := (2, 48)) (hF21.get (by decide) h43_5) rfl) ?_
    refine xg_t (xg_ldcS) ?_
    refine xg_cVi mX8_isWord (vs := [(8, 124)]) (rest := []) (cn1 := 0) (sl1 := 0) rfl (tkIsWord48 (hI20) (i := 24) rfl) rfl (hF21.get (by decide) h48_16) rfl rfl rfl rfl rfl rfl (fun n29 w25 hq26 => ?_)
    obtain ⟨hn30, hI27, hF28⟩ := hq26
    by_cases hc31 : n29 = 0
    · refine xg_t (xg_ifT (u := n29) rfl xnm0 (xj_eqT hc31)) ?_
      refine xg_t (xg_blq rfl) ?_
      refine xg_t (xg_aload (va := (2, 43)) rfl rfl) ?_
      refine xg_t (xg_getf (va := (2, 48)) (hF28.get (by decide) (hF21.get (by decide) h43_5)) rfl) ?_
      refine xg_t (xg_ldcS) ?_
      refine xg_cVi mX8_isWord (vs := [(8, 125)]) (rest := []) (cn1 := 0) (sl1 := 0) rfl (tkIsWord48 (hI27) (i := 25) rfl) rfl (hF28.get (by decide) (hF21.get (by decide) h48_16)) rfl rfl rfl rfl rfl rfl (fun n36 w32 hq33 => ?_)
      obtain ⟨hn37, hI34, hF35⟩ := hq33
      by_cases hc38 : n36 = 0
      · refine xg_t (xg_ifT (u := n36) rfl xnm0 (xj_eqT hc38)) ?_
        refine xg_t (xg_blq rfl) ?_
        refine xg_t (xg_const) ?_
        refine xg_t (xg_blq rfl) ?_
        exact xg_e ⟨4294967295, w32, ⟨rfl, rfl⟩, by first | decide | omega, hI34, (((hF21.up (by decide)).tr (hF28.up (by decide))).tr (hF35.up (by decide)))⟩
      · refine xg_t (xg_ifF (u := n36) rfl xnm0 (xj_eqF hc38)) ?_
        refine xg_t (xg_const) ?_
        refine xg_t (xg_goto) ?_
        refine xg_t (xg_blq rfl) ?_
        exact xg_e ⟨2, w32, ⟨rfl, rfl⟩, by first | decide | omega, hI34, (((hF21.up (by decide)).tr (hF28.up (by decide))).tr (hF35.up (by decide)))⟩
    · refine xg_t (xg_ifF (u := n29) rfl xnm0 (xj_eqF hc31)) ?_
      refine xg_t (xg_const) ?_
      exact xg_e ⟨1, w25, ⟨rfl, rfl⟩, by first | decide | omega, hI27, ((hF21.up (by decide)).tr (hF28.up (by decide)))⟩
  · refine xg_t (xg_ifF (u := n22) rfl xnm0 (xj_eqF hc24)) ?_
    refine xg_t (xg_const) ?_
    exact xg_e ⟨0, w18, ⟨rfl, rfl⟩, by first | decide | omega, hI20, (hF21.up (by decide))⟩
theorem rtMeasure (hI : xInv w)  : xPi (d + 5) mX6_measureOfWord [(2, 43)] w bd fc rr (fun n w' => (n ≤ 4294967295) ∧ xInv w' ∧ xFr [] w w') := by
  refine xPi.of ?_
  show xTo (d + 5) mX6_measureOfWord (0, [], [(0, (2, 43))], [], (w, bd, fc, 0, 0, rr)) (fun φ => ∃ n w', xEnd 1 [(0, n)] (w', bd, fc, 0, 0, rr) φ ∧ (n ≤ 4294967295) ∧ xInv w' ∧ xFr [] w w')
  refine xoC43 (xqc43 hI : cp43 (wget w 43)) (fun f43_1 f43_3 h43_5 hb2 hb4 => ?_)
  refine xg_t (xg_blq rfl) ?_
  refine xg_t (xg_aload (va := (2, 43)) rfl rfl) ?_
  refine xg_t (xg_getf (va := (2, 48)) h43_5 rfl) ?_
  refine xg_t (xg_ldcS) ?_
  refine xoC48 (xqc48 hI : cp48 (wget w 48)) (fun f48_6 f48_8 f48_10 f48_12 f48_14 h48_16 hb7 hb9 hb11 hb13 hb15 hb17 => ?_)
  refine xg_cVi mX8_isWord (vs := [(8, 109)]) (rest := []) (cn1 := 0) (sl1 := 0) rfl (tkIsWord48 (hI) (i := 9) rfl) rfl h48_16 rfl rfl rfl rfl rfl rfl (fun n22 w18 hq19 => ?_)
  obtain ⟨hn23, hI20, hF21⟩ := hq19
  by_cases hc24 : n22 = 0
  · refine xg_t (xg_ifT (u := n22) rfl xnm0 (xj_eqT hc24)) ?_
    refine xg_t (xg_blq rfl) ?_
    refine xg_t (xg_aload (va := (2, 43)) rfl rfl) ?_
    refine xg_t (xg_getf (va := (2, 48)) (hF21.get (by decide) h43_5) rfl) ?_
    refine xg_t (xg_ldcS) ?_
    refine xg_cVi mX8_isWord (vs := [(8, 110)]) (rest := []) (cn1 := 0) (sl1 := 0) rfl (tkIsWord48 (hI20) (i := 10) rfl) rfl (hF21.get (by decide) h48_16) rfl rfl rfl rfl rfl rfl (fun n29 w25 hq26 => ?_)
    obtain ⟨hn30, hI27, hF28⟩ := hq26
    by_cases hc31 : n29 = 0
    · refine xg_t (xg_ifT (u := n29) rfl xnm0 (xj_eqT hc31)) ?_
      refine xg_t (xg_blq rfl) ?_
      refine xg_t (xg_aload (va := (2, 43)) rfl rfl) ?_
      refine xg_t (xg_getf (va := (2, 48)) (hF28.get (by decide) (hF21.get (by decide) h43_5)) rfl) ?_
      refine xg_t (xg_ldcS) ?_
      refine xg_cVi mX8_isWord (vs := [(8, 111)]) (rest := []) (cn1 := 0) (sl1 := 0) rfl (tkIsWord48 (hI27) (i := 11) rfl) rfl (hF28.get (by decide) (hF21.get (by decide) h48_16)) rfl rfl rfl rfl rfl rfl (fun n36 w32 hq33 => ?_)
      obtain ⟨hn37, hI34, hF35⟩ := hq33
      by_cases hc38 : n36 = 0
      · refine xg_t (xg_ifT (u := n36) rfl xnm0 (xj_eqT hc38)) ?_
        refine xg_t (xg_blq rfl) ?_
        refine xg_t (xg_aload (va := (2, 43)) rfl rfl) ?_
        refine xg_t (xg_getf (va := (2, 48)) (hF35.get (by decide) (hF28.get (by decide) (hF21.get (by decide) h43_5))) rfl) ?_
        refine xg_t (xg_ldcS) ?_
        refine xg_cVi mX8_isWord (vs := [(8, 112)]) (rest := []) (cn1 := 0) (sl1 := 0) rfl (tkIsWord48 (hI34) (i := 12) rfl) rfl (hF35.get (by decide) (hF28.get (by decide) (hF21.get (by decide) h48_16))) rfl rfl rfl rfl rfl rfl (fun n43 w39 hq40 => ?_)
        obtain ⟨hn44, hI41, hF42⟩ := hq40
        by_cases hc45 : n43 = 0
        · refine xg_t (xg_ifT (u := n43) rfl xnm0 (xj_eqT hc45)) ?_
          refine xg_t (xg_blq rfl) ?_
          refine xg_t (xg_aload (va := (2, 43)) rfl rfl) ?_
          refine xg_t (xg_getf (va := (2, 48)) (hF42.get (by decide) (hF35.get (by decide) (hF28.get (by decide) (hF21.get (by decide) h43_5)))) rfl) ?_
          refine xg_t (xg_ldcS) ?_
          refine xg_cVi mX8_isWord (vs := [(8, 113)]) (rest := []) (cn1 := 0) (sl1 := 0) rfl (tkIsWord48 (hI41) (i := 13) rfl) rfl (hF42.get (by decide) (hF35.get (by decide) (hF28.get (by decide) (hF21.get (by decide) h48_16)))) rfl rfl rfl rfl rfl rfl (fun n50 w46 hq47 => ?_)
          obtain ⟨hn51, hI48, hF49⟩ := hq47
          by_cases hc52 : n50 = 0
          · refine xg_t (xg_ifT (u := n50) rfl xnm0 (xj_eqT hc52)) ?_
            refine xg_t (xg_blq rfl) ?_
            refine xg_t (xg_aload (va := (2, 43)) rfl rfl) ?_
            refine xg_t (xg_getf (va := (2, 48)) (hF49.get (by decide) (hF42.get (by decide) (hF35.get (by decide) (hF28.get (by decide) (hF21.get (by decide) h43_5))))) rfl) ?_
            refine xg_t (xg_ldcS) ?_
            refine xg_cVi mX8_isWord (vs := [(8, 114)]) (rest := []) (cn1 := 0) (sl1 := 0) rfl (tkIsWord48 (hI48) (i := 14) rfl) rfl (hF49.get (by decide) (hF42.get (by decide) (hF35.get (by decide) (hF28.get (by decide) (hF21.get (by decide) h48_16))))) rfl rfl rfl rfl rfl rfl (fun n57 w53 hq54 => ?_)
            obtain ⟨hn58, hI55, hF56⟩ := hq54
            by_cases hc59 : n57 = 0
            · refine xg_t (xg_ifT (u := n57) rfl xnm0 (xj_eqT hc59)) ?_
              refine xg_t (xg_blq rfl) ?_
              refine xg_t (xg_aload (va := (2, 43)) rfl rfl) ?_
              refine xg_t (xg_getf (va := (2, 48)) (hF56.get (by decide) (hF49.get (by decide) (hF42.get (by decide) (hF35.get (by decide) (hF28.get (by decide) (hF21.get (by decide) h43_5)))))) rfl) ?_
              refine xg_t (xg_ldcS) ?_
              refine xg_cVi mX8_isWord (vs := [(8, 115)]) (rest := []) (cn1 := 0) (sl1 := 0) rfl (tkIsWord48 (hI55) (i := 15) rfl) rfl (hF56.get (by decide) (hF49.get (by decide) (hF42.get (by decide) (hF35.get (by decide) (hF28.get (by decide) (hF21.get (by decide) h48_16)))))) rfl rfl rfl rfl rfl rfl (fun n64 w60 hq61 => ?_)
              obtain ⟨hn65, hI62, hF63⟩ := hq61
              by_cases hc66 : n64 = 0
              · refine xg_t (xg_ifT (u := n64) rfl xnm0 (xj_eqT hc66)) ?_
                refine xg_t (xg_blq rfl) ?_
                refine xg_t (xg_aload (va := (2, 43)) rfl rfl) ?_
                refine xg_t (xg_getf (va := (2, 48)) (hF63.get (by decide) (hF56.get (by decide) (hF49.get (by decide) (hF42.get (by decide) (hF35.get (by decide) (hF28.get (by decide) (hF21.get (by decide) h43_5))))))) rfl) ?_
                refine xg_t (xg_ldcS) ?_
                refine xg_cVi mX8_isWord (vs := [(8, 116)]) (rest := []) (cn1 := 0) (sl1 := 0) rfl (tkIsWord48 (hI62) (i := 16) rfl) rfl (hF63.get (by decide) (hF56.get (by decide) (hF49.get (by decide) (hF42.get (by decide) (hF35.get (by decide) (hF28.get (by decide) (hF21.get (by decide) h48_16))))))) rfl rfl rfl rfl rfl rfl (fun n71 w67 hq68 => ?_)
                obtain ⟨hn72, hI69, hF70⟩ := hq68
                by_cases hc73 : n71 = 0
                · refine xg_t (xg_ifT (u := n71) rfl xnm0 (xj_eqT hc73)) ?_
                  refine xg_t (xg_blq rfl) ?_
                  refine xg_t (xg_aload (va := (2, 43)) rfl rfl) ?_
                  refine xg_t (xg_getf (va := (2, 48)) (hF70.get (by decide) (hF63.get (by decide) (hF56.get (by decide) (hF49.get (by decide) (hF42.get (by decide) (hF35.get (by decide) (hF28.get (by decide) (hF21.get (by decide) h43_5)))))))) rfl) ?_
                  refine xg_t (xg_ldcS) ?_
                  refine xg_cVi mX8_isWord (vs := [(8, 117)]) (rest := []) (cn1 := 0) (sl1 := 0) rfl (tkIsWord48 (hI69) (i := 17) rfl) rfl (hF70.get (by decide) (hF63.get (by decide) (hF56.get (by decide) (hF49.get (by decide) (hF42.get (by decide) (hF35.get (by decide) (hF28.get (by decide) (hF21.get (by decide) h48_16)))))))) rfl rfl rfl rfl rfl rfl (fun n78 w74 hq75 => ?_)
                  obtain ⟨hn79, hI76, hF77⟩ := hq75
                  by_cases hc80 : n78 = 0
                  · refine xg_t (xg_ifT (u := n78) rfl xnm0 (xj_eqT hc80)) ?_
                    refine xg_t (xg_blq rfl) ?_
                    refine xg_t (xg_aload (va := (2, 43)) rfl rfl) ?_
                    refine xg_t (xg_getf (va := (2, 48)) (hF77.get (by decide) (hF70.get (by decide) (hF63.get (by decide) (hF56.get (by decide) (hF49.get (by decide) (hF42.get (by decide) (hF35.get (by decide) (hF28.get (by decide) (hF21.get (by decide) h43_5))))))))) rfl) ?_
                    refine xg_t (xg_ldcS) ?_
                    refine xg_cVi mX8_isWord (vs := [(8, 118)]) (rest := []) (cn1 := 0) (sl1 := 0) rfl (tkIsWord48 (hI76) (i := 18) rfl) rfl (hF77.get (by decide) (hF70.get (by decide) (hF63.get (by decide) (hF56.get (by decide) (hF49.get (by decide) (hF42.get (by decide) (hF35.get (by decide) (hF28.get (by decide) (hF21.get (by decide) h48_16))))))))) rfl rfl rfl rfl rfl rfl (fun n85 w81 hq82 => ?_)
                    obtain ⟨hn86, hI83, hF84⟩ := hq82
                    by_cases hc87 : n85 = 0
                    · refine xg_t (xg_ifT (u := n85) rfl xnm0 (xj_eqT hc87)) ?_
                      refine xg_t (xg_blq rfl) ?_
                      refine xg_t (xg_aload (va := (2, 43)) rfl rfl) ?_
                      refine xg_t (xg_getf (va := (2, 48)) (hF84.get (by decide) (hF77.get (by decide) (hF70.get (by decide) (hF63.get (by decide) (hF56.get (by decide) (hF49.get (by decide) (hF42.get (by decide) (hF35.get (by decide) (hF28.get (by decide) (hF21.get (by decide) h43_5)))))))))) rfl) ?_
                      refine xg_t (xg_ldcS) ?_
                      refine xg_cVi mX8_isWord (vs := [(8, 119)]) (rest := []) (cn1 := 0) (sl1 := 0) rfl (tkIsWord48 (hI83) (i := 19) rfl) rfl (hF84.get (by decide) (hF77.get (by decide) (hF70.get (by decide) (hF63.get (by decide) (hF56.get (by decide) (hF49.get (by decide) (hF42.get (by decide) (hF35.get (by decide) (hF28.get (by decide) (hF21.get (by decide) h48_16)))))))))) rfl rfl rfl rfl rfl rfl (fun n92 w88 hq89 => ?_)
                      obtain ⟨hn93, hI90, hF91⟩ := hq89
                      by_cases hc94 : n92 = 0
                      · refine xg_t (xg_ifT (u := n92) rfl xnm0 (xj_eqT hc94)) ?_
                        refine xg_t (xg_blq rfl) ?_
                        refine xg_t (xg_const) ?_
                        refine xg_t (xg_blq rfl) ?_
                        exact xg_e ⟨4294967295, w88, ⟨rfl, rfl⟩, by first | decide | omega, hI90, (((((((((((hF21.up (by decide)).tr (hF28.up (by decide))).tr (hF35.up (by decide))).tr (hF42.up (by decide))).tr (hF49.up (by decide))).tr (hF56.up (by decide))).tr (hF63.up (by decide))).tr (hF70.up (by decide))).tr (hF77.up (by decide))).tr (hF84.up (by decide))).tr (hF91.up (by decide)))⟩
                      · refine xg_t (xg_ifF (u := n92) rfl xnm0 (xj_eqF hc94)) ?_
                        refine xg_t (xg_bip) ?_
                        refine xg_t (xg_goto) ?_
                        refine xg_t (xg_blq rfl) ?_
                        exact xg_e ⟨10, w88, ⟨rfl, rfl⟩, by first | decide | omega, hI90, (((((((((((hF21.up (by decide)).tr (hF28.up (by decide))).tr (hF35.up (by decide))).tr (hF42.up (by decide))).tr (hF49.up (by decide))).tr (hF56.up (by decide))).tr (hF63.up (by decide))).tr (hF70.up (by decide))).tr (hF77.up (by decide))).tr (hF84.up (by decide))).tr (hF91.up (by decide)))⟩
                    · refine xg_t (xg_ifF (u := n85) rfl xnm0 (xj_eqF hc87)) ?_
                      refine xg_t (xg_bip) ?_
                      exact xg_e ⟨9, w81, ⟨rfl, rfl⟩, by first | decide | omega, hI83, ((((((((((hF21.up (by decide)).tr (hF28.up (by decide))).tr (hF35.up (by decide))).tr (hF42.up (by decide))).tr (hF49.up (by decide))).tr (hF56.up (by decide))).tr (hF63.up (by decide))).tr (hF70.up (by decide))).tr (hF77.up (by decide))).tr (hF84.up (by decide)))⟩
                  · refine xg_t (xg_ifF (u := n78) rfl xnm0 (xj_eqF hc80)) ?_
                    refine xg_t (xg_bip) ?_
                    exact xg_e ⟨8, w74, ⟨rfl, rfl⟩, by first | decide | omega, hI76, (((((((((hF21.up (by decide)).tr (hF28.up (by decide))).tr (hF35.up (by decide))).tr (hF42.up (by decide))).tr (hF49.up (by decide))).tr (hF56.up (by decide))).tr (hF63.up (by decide))).tr (hF70.up (by decide))).tr (hF77.up (by decide)))⟩
                · refine xg_t (xg_ifF (u := n71) rfl xnm0 (xj_eqF hc73)) ?_
                  refine xg_t (xg_bip) ?_
                  exact xg_e ⟨7, w67, ⟨rfl, rfl⟩, by first | decide | omega, hI69, ((((((((hF21.up (by decide)).tr (hF28.up (by decide))).tr (hF35.up (by decide))).tr (hF42.up (by decide))).tr (hF49.up (by decide))).tr (hF56.up (by decide))).tr (hF63.up (by decide))).tr (hF70.up (by decide)))⟩
              · refine xg_t (xg_ifF (u := n64) rfl xnm0 (xj_eqF hc66)) ?_
                refine xg_t (xg_bip) ?_
                exact xg_e ⟨6, w60, ⟨rfl, rfl⟩, by first | decide | omega, hI62, (((((((hF21.up (by decide)).tr (hF28.up (by decide))).tr (hF35.up (by decide))).tr (hF42.up (by decide))).tr (hF49.up (by decide))).tr (hF56.up (by decide))).tr (hF63.up (by decide)))⟩
            · refine xg_t (xg_ifF (u := n57) rfl xnm0 (xj_eqF hc59)) ?_
              refine xg_t (xg_const) ?_
              exact xg_e ⟨5, w53, ⟨rfl, rfl⟩, by first | decide | omega, hI55, ((((((hF21.up (by decide)).tr (hF28.up (by decide))).tr (hF35.up (by decide))).tr (hF42.up (by decide))).tr (hF49.up (by decide))).tr (hF56.up (by decide)))⟩
          · refine xg_t (xg_ifF (u := n50) rfl xnm0 (xj_eqF hc52)) ?_
            refine xg_t (xg_const) ?_
            exact xg_e ⟨4, w46, ⟨rfl, rfl⟩, by first | decide | omega, hI48, (((((hF21.up (by decide)).tr (hF28.up (by decide))).tr (hF35.up (by decide))).tr (hF42.up (by decide))).tr (hF49.up (by decide)))⟩
        · refine xg_t (xg_ifF (u := n43) rfl xnm0 (xj_eqF hc45)) ?_
          refine xg_t (xg_const) ?_
          exact xg_e ⟨3, w39, ⟨rfl, rfl⟩, by first | decide | omega, hI41, ((((hF21.up (by decide)).tr (hF28.up (by decide))).tr (hF35.up (by decide))).tr (hF42.up (by decide)))⟩
      · refine xg_t (xg_ifF (u := n36) rfl xnm0 (xj_eqF hc38)) ?_
        refine xg_t (xg_const) ?_
        exact xg_e ⟨2, w32, ⟨rfl, rfl⟩, by first | decide | omega, hI34, (((hF21.up (by decide)).tr (hF28.up (by decide))).tr (hF35.up (by decide)))⟩
    · refine xg_t (xg_ifF (u := n29) rfl xnm0 (xj_eqF hc31)) ?_
      refine xg_t (xg_const) ?_
      exact xg_e ⟨1, w25, ⟨rfl, rfl⟩, by first | decide | omega, hI27, ((hF21.up (by decide)).tr (hF28.up (by decide)))⟩
  · refine xg_t (xg_ifF (u := n22) rfl xnm0 (xj_eqF hc24)) ?_
    refine xg_t (xg_const) ?_
    exact xg_e ⟨0, w18, ⟨rfl, rfl⟩, by first | decide | omega, hI20, (hF21.up (by decide))⟩
theorem rtTest {li : Nat} (hI : xInv w) (hli : li ≤ 4294967295) : xPi (d + 6) mX6_readTest [(2, 43), (0, li)] w bd fc rr (fun n w' => (n ≤ 1) ∧ xInv w' ∧ xFr [46, 47, 48] w w') := by
  refine xPi.of ?_
  show xTo (d + 6) mX6_readTest (0, [], [(0, (2, 43)), (1, (0, li))], [], (w, bd, fc, 0, 0, rr)) (fun φ => ∃ n w', xEnd 4 [(0, n)] (w', bd, fc, 0, 0, rr) φ ∧ (n ≤ 1) ∧ xInv w' ∧ xFr [46, 47, 48] w w')
  refine xoC43 (xqc43 hI : cp43 (wget w 43)) (fun f43_1 f43_3 h43_5 hb2 hb4 => ?_)
  obtain ⟨f46_6, h46_8, hb7⟩ := (xqc46 hI : cp46 (wget w 46))
  refine xoI (xqc47 hI : cpI 320 22 4294967295 (wget w 47)) (fun g47_9 h47_10 hb11 => ?_)
  refine xg_t (xg_blq rfl) ?_
  refine xg_t (xg_aload (va := (2, 43)) rfl rfl) ?_
  refine xg_t (xg_getf (va := (2, 48)) h43_5 rfl) ?_
  refine xg_t (xg_ldcS) ?_
  refine xoC48 (xqc48 hI : cp48 (wget w 48)) (fun f48_12 f48_14 f48_16 f48_18 f48_20 h48_22 hb13 hb15 hb17 hb19 hb21 hb23 => ?_)
  refine xg_cVi mX8_isWord (vs := [(8, 121)]) (rest := []) (cn1 := 0) (sl1 := 0) rfl (tkIsWord48 (hI) (i := 21) rfl) rfl h48_22 rfl rfl rfl rfl rfl rfl (fun n28 w24 hq25 => ?_)
  obtain ⟨hn29, hI26, hF27⟩ := hq25
  refine xg_t (xg_istore (l1 := [(0, (2, 43)), (1, (0, li))]) rfl rfl rfl) ?_
  refine xg_t (xg_iload (va := (0, n28)) rfl rfl) ?_
  have jn30 : ∀ (no : Nat) (w31 : List (List xE)), no ≤ 1 → xInv w31 → xFr [46, 47, 48] w w31 → xTo (d + 6) mX6_readTest (21, [], [(0, (2, 43)), (1, (0, li)), (2, (0, no))], [], (w31, bd, fc, 0, 0, rr)) (fun φ => ∃ n w', xEnd 4 [(0, n)] (w', bd, fc, 0, 0, rr) φ ∧ (n ≤ 1) ∧ xInv w' ∧ xFr [46, 47, 48] w w') := by
    intro no w31 hn34 hI32 hF33
    refine xg_t (xg_blq rfl) ?_
    refine xg_t (xg_aload (va := (2, 43)) rfl rfl) ?_
    refine xg_cVi mX6_measureOfWord (vs := []) (rest := []) (cn1 := 0) (sl1 := 0) rfl (rtMeasure (hI32)) rfl (hF33.get (by decide) h43_5) rfl rfl rfl rfl rfl rfl (fun n39 w35 hq36 => ?_)
    obtain ⟨hn40, hI37, hF38⟩ := hq36
    refine xg_t (xg_istore (l1 := [(0, (2, 43)), (1, (0, li)), (2, (0, no))]) rfl rfl rfl) ?_
    refine xg_t (xg_iload (va := (0, n39)) rfl rfl) ?_
    refine xg_t (xg_const) ?_
    by_cases hc41 : n39 = 4294967295
    · refine xg_t (xg_icF (u := n39) (v := 4294967295) rfl xnm0 xnm0 (xj_neF hc41)) ?_
      refine xg_t (xg_const) ?_
      exact xg_e ⟨0, w35, ⟨rfl, rfl⟩, by first | decide | omega, hI37, (hF33.tr (hF38.up (by decide)))⟩
    · refine xg_t (xg_icT (u := n39) (v := 4294967295) rfl xnm0 xnm0 (xj_neT hc41)) ?_
      refine xg_t (xg_blq rfl) ?_
      refine xg_t (xg_aload (va := (2, 43)) rfl rfl) ?_
      refine xg_t (xg_getf (va := (2, 48)) (hF38.get (by decide) (hF33.get (by decide) h43_5)) rfl) ?_
      refine xoC48 (xqc48 hI37 : cp48 (wget w35 48)) (fun f48_42 f48_44 f48_46 f48_48 f48_50 h48_52 hb43 hb45 hb47 hb49 hb51 hb53 => ?_)
      refine xg_cVv mX8_advance (vs := []) (rest := []) (cn1 := 0) (sl1 := 0) rfl (tkAdvance48 (hI37)) rfl h48_52 rfl rfl rfl rfl rfl rfl (fun w54 hq55 => ?_)
      obtain ⟨hI56, hF57⟩ := hq55
      refine xg_t (xg_bip) ?_
      have jn58 : ∀ (ms sg bo : Nat) (w59 : List (List xE)), ms ≤ 4294967295 → sg ≤ 4294967295 → bo ≤ 4294967295 → xInv w59 → xFr [46, 47, 48] w w59 → xTo (d + 6) mX6_readTest (144, [], [(0, (2, 43)), (1, (0, li)), (2, (0, no)), (3, (0, ms)), (4, (0, sg)), (5, (0, bo))], [], (w59, bd, fc, 0, 0, rr)) (fun φ => ∃ n w', xEnd 4 [(0, n)] (w', bd, fc, 0, 0, rr) φ ∧ (n ≤ 1) ∧ xInv w' ∧ xFr [46, 47, 48] w w') := by
        intro ms sg bo w59 hn62 hn63 hn64 hI60 hF61
        refine xg_t (xg_blq rfl) ?_
        refine xg_t (xg_aload (va := (2, 43)) rfl rfl) ?_
        refine xg_t (xg_getf (va := (0, f43_1)) (hF61.get (by decide) h43_5) rfl) ?_
        by_cases hc65 : f43_1 = 0
        · refine xg_t (xg_ifF (u := f43_1) rfl xnm0 (xj_neF hc65)) ?_
          refine xg_t (xg_aload (va := (2, 43)) rfl rfl) ?_
          refine xg_t (xg_getf (va := (2, 46)) (hF61.get (by decide) h43_5) rfl) ?_
          obtain ⟨f46_66, h46_68, hb67⟩ := (xqc46 hI60 : cp46 (wget w59 46))
          refine xg_cVi mX5_grow (vs := []) (rest := []) (cn1 := 0) (sl1 := 0) rfl (rgrowI h46_68 (by decide) (by omega)) rfl h46_68 rfl rfl rfl rfl rfl rfl (fun n71 w69 hq70 => ?_)
          obtain ⟨hn72, s73, hs74, hk75, hb76⟩ := hq70
          refine xg_t (xg_goto) ?_
          refine xg_t (xg_blq rfl) ?_
          refine xg_t (xg_istore (l1 := [(0, (2, 43)), (1, (0, li)), (2, (0, no)), (3, (0, ms)), (4, (0, sg)), (5, (0, bo))]) rfl rfl rfl) ?_
          refine xg_t (xg_aload (va := (2, 43)) rfl rfl) ?_
          refine xg_t (xg_getf (va := (2, 46)) (hb76.get (by decide) (hF61.get (by decide) h43_5)) rfl) ?_
          refine xg_t (xg_iload (va := (0, n71)) rfl rfl) ?_
          refine xg_t (xg_const) ?_
          refine xg_t (xg_iload (va := (0, li)) rfl rfl) ?_
          refine xoI (xqc47 hI60 : cpI 320 22 4294967295 (wget w59 47)) (fun g47_77 h47_78 hb79 => ?_)
          refine xg_cVv mX5_put (vs := [(0, n71), (0, 0), (0, li)]) (rest := []) (cn1 := 0) (sl1 := 0) rfl (rputI (lim := 64) (wd := 5) (B := 4294967295) hk75 (h47_78.but hb76 (by decide)) (hb79) (by decide) (by omega) (by decide) (by decide) (by omega) (by omega) (by omega)) rfl hk75 rfl rfl rfl rfl rfl rfl (fun w80 hq81 => ?_)
          obtain ⟨g82, hr83, hb84, hb85⟩ := hq81
          refine xg_t (xg_aload (va := (2, 43)) rfl rfl) ?_
          refine xg_t (xg_getf (va := (2, 46)) (hb85.get (by decide) (hb76.get (by decide) (hF61.get (by decide) h43_5))) rfl) ?_
          refine xg_t (xg_iload (va := (0, n71)) rfl rfl) ?_
          refine xg_t (xg_const) ?_
          refine xg_t (xg_iload (va := (0, no)) rfl rfl) ?_
          by_cases hc86 : no = 0
          · refine xg_t (xg_ifT (u := no) rfl xnm0 (xj_eqT hc86)) ?_
            refine xg_t (xg_blq rfl) ?_
            refine xg_t (xg_const) ?_
            refine xg_t (xg_blq rfl) ?_
            refine xg_cVv mX5_put (vs := [(0, n71), (0, 1), (0, 0)]) (rest := []) (cn1 := 0) (sl1 := 0) rfl (rputI (lim := 64) (wd := 5) (B := 4294967295) (hb85.get (by decide) hk75) hr83 (hb84) (by decide) (by omega) (by decide) (by decide) (by omega) (by omega) (by omega)) rfl (hb85.get (by decide) hk75) rfl rfl rfl rfl rfl rfl (fun w87 hq88 => ?_)
            obtain ⟨g89, hr90, hb91, hb92⟩ := hq88
            refine xg_t (xg_aload (va := (2, 43)) rfl rfl) ?_
            refine xg_t (xg_getf (va := (2, 46)) (hb92.get (by decide) (hb85.get (by decide) (hb76.get (by decide) (hF61.get (by decide) h43_5)))) rfl) ?_
            refine xg_t (xg_iload (va := (0, n71)) rfl rfl) ?_
            refine xg_t (xg_const) ?_
            refine xg_t (xg_iload (va := (0, ms)) rfl rfl) ?_
            refine xg_cVv mX5_put (vs := [(0, n71), (0, 2), (0, ms)]) (rest := []) (cn1 := 0) (sl1 := 0) rfl (rputI (lim := 64) (wd := 5) (B := 4294967295) (hb92.get (by decide) (hb85.get (by decide) hk75)) hr90 (hb91) (by decide) (by omega) (by decide) (by decide) (by omega) (by omega) (by omega)) rfl (hb92.get (by decide) (hb85.get (by decide) hk75)) rfl rfl rfl rfl rfl rfl (fun w93 hq94 => ?_)
            obtain ⟨g95, hr96, hb97, hb98⟩ := hq94
            refine xg_t (xg_aload (va := (2, 43)) rfl rfl) ?_
            refine xg_t (xg_getf (va := (2, 46)) (hb98.get (by decide) (hb92.get (by decide) (hb85.get (by decide) (hb76.get (by decide) (hF61.get (by decide) h43_5))))) rfl) ?_
            refine xg_t (xg_iload (va := (0, n71)) rfl rfl) ?_
            refine xg_t (xg_const) ?_
            refine xg_t (xg_iload (va := (0, sg)) rfl rfl) ?_
            refine xg_cVv mX5_put (vs := [(0, n71), (0, 3), (0, sg)]) (rest := []) (cn1 := 0) (sl1 := 0) rfl (rputI (lim := 64) (wd := 5) (B := 4294967295) (hb98.get (by decide) (hb92.get (by decide) (hb85.get (by decide) hk75))) hr96 (hb97) (by decide) (by omega) (by decide) (by decide) (by omega) (by omega) (by omega)) rfl (hb98.get (by decide) (hb92.get (by decide) (hb85.get (by decide) hk75))) rfl rfl rfl rfl rfl rfl (fun w99 hq100 => ?_)
            obtain ⟨g101, hr102, hb103, hb104⟩ := hq100
            refine xg_t (xg_aload (va := (2, 43)) rfl rfl) ?_
            refine xg_t (xg_getf (va := (2, 46)) (hb104.get (by decide) (hb98.get (by decide) (hb92.get (by decide) (hb85.get (by decide) (hb76.get (by decide) (hF61.get (by decide) h43_5)))))) rfl) ?_
            refine xg_t (xg_iload (va := (0, n71)) rfl rfl) ?_
            refine xg_t (xg_const) ?_
            refine xg_t (xg_iload (va := (0, bo)) rfl rfl) ?_
            refine xg_cVv mX5_put (vs := [(0, n71), (0, 4), (0, bo)]) (rest := []) (cn1 := 0) (sl1 := 0) rfl (rputI (lim := 64) (wd := 5) (B := 4294967295) (hb104.get (by decide) (hb98.get (by decide) (hb92.get (by decide) (hb85.get (by decide) hk75)))) hr102 (hb103) (by decide) (by omega) (by decide) (by decide) (by omega) (by omega) (by omega)) rfl (hb104.get (by decide) (hb98.get (by decide) (hb92.get (by decide) (hb85.get (by decide) hk75)))) rfl rfl rfl rfl rfl rfl (fun w105 hq106 => ?_)
            obtain ⟨g107, hr108, hb109, hb110⟩ := hq106
            refine xg_t (xg_const) ?_
            exact xg_e ⟨1, w105, ⟨rfl, rfl⟩, by first | decide | omega, xInv.up (S := [46, 47]) hI60 ((((((xFr.of (S := [46, 47]) hb76 (by decide)).tr (xFr.of (S := [46, 47]) hb85 (by decide))).tr (xFr.of (S := [46, 47]) hb92 (by decide))).tr (xFr.of (S := [46, 47]) hb98 (by decide))).tr (xFr.of (S := [46, 47]) hb104 (by decide))).tr (xFr.of (S := [46, 47]) hb110 (by decide))) (List.forall_mem_cons.mpr ⟨xqu46 (show cp46 (wget w105 46) from ⟨s73, (hb110.get (by decide) (hb104.get (by decide) (hb98.get (by decide) (hb92.get (by decide) (hb85.get (by decide) hk75))))), by omega⟩), List.forall_mem_cons.mpr ⟨xqu47 (show cpI 320 22 4294967295 (wget w105 47) from ⟨_, hr108, hb109⟩), fun _ h => absurd h List.not_mem_nil⟩⟩), (hF61.tr ((((((xFr.of (S := [46, 47, 48]) hb76 (by decide)).tr (xFr.of (S := [46, 47, 48]) hb85 (by decide))).tr (xFr.of (S := [46, 47, 48]) hb92 (by decide))).tr (xFr.of (S := [46, 47, 48]) hb98 (by decide))).tr (xFr.of (S := [46, 47, 48]) hb104 (by decide))).tr (xFr.of (S := [46, 47, 48]) hb110 (by decide))))⟩
          · refine xg_t (xg_ifF (u := no) rfl xnm0 (xj_eqF hc86)) ?_
            refine xg_t (xg_const) ?_
            refine xg_t (xg_goto) ?_
            refine xg_t (xg_blq rfl) ?_
            refine xg_cVv mX5_put (vs := [(0, n71), (0, 1), (0, 1)]) (rest := []) (cn1 := 0) (sl1 := 0) rfl (rputI (lim := 64) (wd := 5) (B := 4294967295) (hb85.get (by decide) hk75) hr83 (hb84) (by decide) (by omega) (by decide) (by decide) (by omega) (by omega) (by omega)) rfl (hb85.get (by decide) hk75) rfl rfl rfl rfl rfl rfl (fun w111 hq112 => ?_)
            obtain ⟨g113, hr114, hb115, hb116⟩ := hq112
            refine xg_t (xg_aload (va := (2, 43)) rfl rfl) ?_
            refine xg_t (xg_getf (va := (2, 46)) (hb116.get (by decide) (hb85.get (by decide) (hb76.get (by decide) (hF61.get (by decide) h43_5)))) rfl) ?_
            refine xg_t (xg_iload (va := (0, n71)) rfl rfl) ?_
            refine xg_t (xg_const) ?_
            refine xg_t (xg_iload (va := (0, ms)) rfl rfl) ?_
            refine xg_cVv mX5_put (vs := [(0, n71), (0, 2), (0, ms)]) (rest := []) (cn1 := 0) (sl1 := 0) rfl (rputI (lim := 64) (wd := 5) (B := 4294967295) (hb116.get (by decide) (hb85.get (by decide) hk75)) hr114 (hb115) (by decide) (by omega) (by decide) (by decide) (by omega) (by omega) (by omega)) rfl (hb116.get (by decide) (hb85.get (by decide) hk75)) rfl rfl rfl rfl rfl rfl (fun w117 hq118 => ?_)
            obtain ⟨g119, hr120, hb121, hb122⟩ := hq118
            refine xg_t (xg_aload (va := (2, 43)) rfl rfl) ?_
            refine xg_t (xg_getf (va := (2, 46)) (hb122.get (by decide) (hb116.get (by decide) (hb85.get (by decide) (hb76.get (by decide) (hF61.get (by decide) h43_5))))) rfl) ?_
            refine xg_t (xg_iload (va := (0, n71)) rfl rfl) ?_
            refine xg_t (xg_const) ?_
            refine xg_t (xg_iload (va := (0, sg)) rfl rfl) ?_
            refine xg_cVv mX5_put (vs := [(0, n71), (0, 3), (0, sg)]) (rest := []) (cn1 := 0) (sl1 := 0) rfl (rputI (lim := 64) (wd := 5) (B := 4294967295) (hb122.get (by decide) (hb116.get (by decide) (hb85.get (by decide) hk75))) hr120 (hb121) (by decide) (by omega) (by decide) (by decide) (by omega) (by omega) (by omega)) rfl (hb122.get (by decide) (hb116.get (by decide) (hb85.get (by decide) hk75))) rfl rfl rfl rfl rfl rfl (fun w123 hq124 => ?_)
            obtain ⟨g125, hr126, hb127, hb128⟩ := hq124
            refine xg_t (xg_aload (va := (2, 43)) rfl rfl) ?_
            refine xg_t (xg_getf (va := (2, 46)) (hb128.get (by decide) (hb122.get (by decide) (hb116.get (by decide) (hb85.get (by decide) (hb76.get (by decide) (hF61.get (by decide) h43_5)))))) rfl) ?_
            refine xg_t (xg_iload (va := (0, n71)) rfl rfl) ?_
            refine xg_t (xg_const) ?_
            refine xg_t (xg_iload (va := (0, bo)) rfl rfl) ?_
            refine xg_cVv mX5_put (vs := [(0, n71), (0, 4), (0, bo)]) (rest := []) (cn1 := 0) (sl1 := 0) rfl (rputI (lim := 64) (wd := 5) (B := 4294967295) (hb128.get (by decide) (hb122.get (by decide) (hb116.get (by decide) (hb85.get (by decide) hk75)))) hr126 (hb127) (by decide) (by omega) (by decide) (by decide) (by omega) (by omega) (by omega)) rfl (hb128.get (by decide) (hb122.get (by decide) (hb116.get (by decide) (hb85.get (by decide) hk75)))) rfl rfl rfl rfl rfl rfl (fun w129 hq130 => ?_)
            obtain ⟨g131, hr132, hb133, hb134⟩ := hq130
            refine xg_t (xg_const) ?_
            exact xg_e ⟨1, w129, ⟨rfl, rfl⟩, by first | decide | omega, xInv.up (S := [46, 47]) hI60 ((((((xFr.of (S := [46, 47]) hb76 (by decide)).tr (xFr.of (S := [46, 47]) hb85 (by decide))).tr (xFr.of (S := [46, 47]) hb116 (by decide))).tr (xFr.of (S := [46, 47]) hb122 (by decide))).tr (xFr.of (S := [46, 47]) hb128 (by decide))).tr (xFr.of (S := [46, 47]) hb134 (by decide))) (List.forall_mem_cons.mpr ⟨xqu46 (show cp46 (wget w129 46) from ⟨s73, (hb134.get (by decide) (hb128.get (by decide) (hb122.get (by decide) (hb116.get (by decide) (hb85.get (by decide) hk75))))), by omega⟩), List.forall_mem_cons.mpr ⟨xqu47 (show cpI 320 22 4294967295 (wget w129 47) from ⟨_, hr132, hb133⟩), fun _ h => absurd h List.not_mem_nil⟩⟩), (hF61.tr ((((((xFr.of (S := [46, 47, 48]) hb76 (by decide)).tr (xFr.of (S := [46, 47, 48]) hb85 (by decide))).tr (xFr.of (S := [46, 47, 48]) hb116 (by decide))).tr (xFr.of (S := [46, 47, 48]) hb122 (by decide))).tr (xFr.of (S := [46, 47, 48]) hb128 (by decide))).tr (xFr.of (S := [46, 47, 48]) hb134 (by decide))))⟩
        · refine xg_t (xg_ifT (u := f43_1) rfl xnm0 (xj_neT hc65)) ?_
          refine xg_t (xg_blq rfl) ?_
          refine xg_t (xg_const) ?_
          refine xg_t (xg_blq rfl) ?_
          refine xg_t (xg_istore (l1 := [(0, (2, 43)), (1, (0, li)), (2, (0, no)), (3, (0, ms)), (4, (0, sg)), (5, (0, bo))]) rfl rfl rfl) ?_
          refine xg_t (xg_aload (va := (2, 43)) rfl rfl) ?_
          refine xg_t (xg_getf (va := (2, 46)) (hF61.get (by decide) h43_5) rfl) ?_
          refine xg_t (xg_iload (va := (0, 4294967295)) rfl rfl) ?_
          refine xg_t (xg_const) ?_
          refine xg_t (xg_iload (va := (0, li)) rfl rfl) ?_
          obtain ⟨f46_135, h46_137, hb136⟩ := (xqc46 hI60 : cp46 (wget w59 46))
          refine xoI (xqc47 hI60 : cpI 320 22 4294967295 (wget w59 47)) (fun g47_138 h47_139 hb140 => ?_)
          refine xg_cVv mX5_put (vs := [(0, 4294967295), (0, 0), (0, li)]) (rest := []) (cn1 := 0) (sl1 := 0) rfl (rputI (lim := 64) (wd := 5) (B := 4294967295) h46_137 h47_139 (hb140) (by decide) (by omega) (by decide) (by decide) (by omega) (by omega) (by omega)) rfl h46_137 rfl rfl rfl rfl rfl rfl (fun w141 hq142 => ?_)
          obtain ⟨g143, hr144, hb145, hb146⟩ := hq142
          refine xg_t (xg_aload (va := (2, 43)) rfl rfl) ?_
          refine xg_t (xg_getf (va := (2, 46)) (hb146.get (by decide) (hF61.get (by decide) h43_5)) rfl) ?_
          refine xg_t (xg_iload (va := (0, 4294967295)) rfl rfl) ?_
          refine xg_t (xg_const) ?_
          refine xg_t (xg_iload (va := (0, no)) rfl rfl) ?_
          by_cases hc147 : no = 0
          · refine xg_t (xg_ifT (u := no) rfl xnm0 (xj_eqT hc147)) ?_
            refine xg_t (xg_blq rfl) ?_
            refine xg_t (xg_const) ?_
            refine xg_t (xg_blq rfl) ?_
            refine xg_cVv mX5_put (vs := [(0, 4294967295), (0, 1), (0, 0)]) (rest := []) (cn1 := 0) (sl1 := 0) rfl (rputI (lim := 64) (wd := 5) (B := 4294967295) (hb146.get (by decide) h46_137) hr144 (hb145) (by decide) (by omega) (by decide) (by decide) (by omega) (by omega) (by omega)) rfl (hb146.get (by decide) h46_137) rfl rfl rfl rfl rfl rfl (fun w148 hq149 => ?_)
            obtain ⟨g150, hr151, hb152, hb153⟩ := hq149
            refine xg_t (xg_aload (va := (2, 43)) rfl rfl) ?_
            refine xg_t (xg_getf (va := (2, 46)) (hb153.get (by decide) (hb146.get (by decide) (hF61.get (by decide) h43_5))) rfl) ?_
            refine xg_t (xg_iload (va := (0, 4294967295)) rfl rfl) ?_
            refine xg_t (xg_const) ?_
            refine xg_t (xg_iload (va := (0, ms)) rfl rfl) ?_
            refine xg_cVv mX5_put (vs := [(0, 4294967295), (0, 2), (0, ms)]) (rest := []) (cn1 := 0) (sl1 := 0) rfl (rputI (lim := 64) (wd := 5) (B := 4294967295) (hb153.get (by decide) (hb146.get (by decide) h46_137)) hr151 (hb152) (by decide) (by omega) (by decide) (by decide) (by omega) (by omega) (by omega)) rfl (hb153.get (by decide) (hb146.get (by decide) h46_137)) rfl rfl rfl rfl rfl rfl (fun w154 hq155 => ?_)
            obtain ⟨g156, hr157, hb158, hb159⟩ := hq155
            refine xg_t (xg_aload (va := (2, 43)) rfl rfl) ?_
            refine xg_t (xg_getf (va := (2, 46)) (hb159.get (by decide) (hb153.get (by decide) (hb146.get (by decide) (hF61.get (by decide) h43_5)))) rfl) ?_
            refine xg_t (xg_iload (va := (0, 4294967295)) rfl rfl) ?_
            refine xg_t (xg_const) ?_
            refine xg_t (xg_iload (va := (0, sg)) rfl rfl) ?_
            refine xg_cVv mX5_put (vs := [(0, 4294967295), (0, 3), (0, sg)]) (rest := []) (cn1 := 0) (sl1 := 0) rfl (rputI (lim := 64) (wd := 5) (B := 4294967295) (hb159.get (by decide) (hb153.get (by decide) (hb146.get (by decide) h46_137))) hr157 (hb158) (by decide) (by omega) (by decide) (by decide) (by omega) (by omega) (by omega)) rfl (hb159.get (by decide) (hb153.get (by decide) (hb146.get (by decide) h46_137))) rfl rfl rfl rfl rfl rfl (fun w160 hq161 => ?_)
            obtain ⟨g162, hr163, hb164, hb165⟩ := hq161
            refine xg_t (xg_aload (va := (2, 43)) rfl rfl) ?_
            refine xg_t (xg_getf (va := (2, 46)) (hb165.get (by decide) (hb159.get (by decide) (hb153.get (by decide) (hb146.get (by decide) (hF61.get (by decide) h43_5))))) rfl) ?_
            refine xg_t (xg_iload (va := (0, 4294967295)) rfl rfl) ?_
            refine xg_t (xg_const) ?_
            refine xg_t (xg_iload (va := (0, bo)) rfl rfl) ?_
            refine xg_cVv mX5_put (vs := [(0, 4294967295), (0, 4), (0, bo)]) (rest := []) (cn1 := 0) (sl1 := 0) rfl (rputI (lim := 64) (wd := 5) (B := 4294967295) (hb165.get (by decide) (hb159.get (by decide) (hb153.get (by decide) (hb146.get (by decide) h46_137)))) hr163 (hb164) (by decide) (by omega) (by decide) (by decide) (by omega) (by omega) (by omega)) rfl (hb165.get (by decide) (hb159.get (by decide) (hb153.get (by decide) (hb146.get (by decide) h46_137)))) rfl rfl rfl rfl rfl rfl (fun w166 hq167 => ?_)
            obtain ⟨g168, hr169, hb170, hb171⟩ := hq167
            refine xg_t (xg_const) ?_
            exact xg_e ⟨1, w166, ⟨rfl, rfl⟩, by first | decide | omega, xInv.up (S := [47]) hI60 (((((xFr.of (S := [47]) hb146 (by decide)).tr (xFr.of (S := [47]) hb153 (by decide))).tr (xFr.of (S := [47]) hb159 (by decide))).tr (xFr.of (S := [47]) hb165 (by decide))).tr (xFr.of (S := [47]) hb171 (by decide))) (List.forall_mem_cons.mpr ⟨xqu47 (show cpI 320 22 4294967295 (wget w166 47) from ⟨_, hr169, hb170⟩), fun _ h => absurd h List.not_mem_nil⟩), (hF61.tr (((((xFr.of (S := [46, 47, 48]) hb146 (by decide)).tr (xFr.of (S := [46, 47, 48]) hb153 (by decide))).tr (xFr.of (S := [46, 47, 48]) hb159 (by decide))).tr (xFr.of (S := [46, 47, 48]) hb165 (by decide))).tr (xFr.of (S := [46, 47, 48]) hb171 (by decide))))⟩
          · refine xg_t (xg_ifF (u := no) rfl xnm0 (xj_eqF hc147)) ?_
            refine xg_t (xg_const) ?_
            refine xg_t (xg_goto) ?_
            refine xg_t (xg_blq rfl) ?_
            refine xg_cVv mX5_put (vs := [(0, 4294967295), (0, 1), (0, 1)]) (rest := []) (cn1 := 0) (sl1 := 0) rfl (rputI (lim := 64) (wd := 5) (B := 4294967295) (hb146.get (by decide) h46_137) hr144 (hb145) (by decide) (by omega) (by decide) (by decide) (by omega) (by omega) (by omega)) rfl (hb146.get (by decide) h46_137) rfl rfl rfl rfl rfl rfl (fun w172 hq173 => ?_)
            obtain ⟨g174, hr175, hb176, hb177⟩ := hq173
            refine xg_t (xg_aload (va := (2, 43)) rfl rfl) ?_
            refine xg_t (xg_getf (va := (2, 46)) (hb177.get (by decide) (hb146.get (by decide) (hF61.get (by decide) h43_5))) rfl) ?_
            refine xg_t (xg_iload (va := (0, 4294967295)) rfl rfl) ?_
            refine xg_t (xg_const) ?_
            refine xg_t (xg_iload (va := (0, ms)) rfl rfl) ?_
            refine xg_cVv mX5_put (vs := [(0, 4294967295), (0, 2), (0, ms)]) (rest := []) (cn1 := 0) (sl1 := 0) rfl (rputI (lim := 64) (wd := 5) (B := 4294967295) (hb177.get (by decide) (hb146.get (by decide) h46_137)) hr175 (hb176) (by decide) (by omega) (by decide) (by decide) (by omega) (by omega) (by omega)) rfl (hb177.get (by decide) (hb146.get (by decide) h46_137)) rfl rfl rfl rfl rfl rfl (fun w178 hq179 => ?_)
            obtain ⟨g180, hr181, hb182, hb183⟩ := hq179
            refine xg_t (xg_aload (va := (2, 43)) rfl rfl) ?_
            refine xg_t (xg_getf (va := (2, 46)) (hb183.get (by decide) (hb177.get (by decide) (hb146.get (by decide) (hF61.get (by decide) h43_5)))) rfl) ?_
            refine xg_t (xg_iload (va := (0, 4294967295)) rfl rfl) ?_
            refine xg_t (xg_const) ?_
            refine xg_t (xg_iload (va := (0, sg)) rfl rfl) ?_
            refine xg_cVv mX5_put (vs := [(0, 4294967295), (0, 3), (0, sg)]) (rest := []) (cn1 := 0) (sl1 := 0) rfl (rputI (lim := 64) (wd := 5) (B := 4294967295) (hb183.get (by decide) (hb177.get (by decide) (hb146.get (by decide) h46_137))) hr181 (hb182) (by decide) (by omega) (by decide) (by decide) (by omega) (by omega) (by omega)) rfl (hb183.get (by decide) (hb177.get (by decide) (hb146.get (by decide) h46_137))) rfl rfl rfl rfl rfl rfl (fun w184 hq185 => ?_)
            obtain ⟨g186, hr187, hb188, hb189⟩ := hq185
            refine xg_t (xg_aload (va := (2, 43)) rfl rfl) ?_
            refine xg_t (xg_getf (va := (2, 46)) (hb189.get (by decide) (hb183.get (by decide) (hb177.get (by decide) (hb146.get (by decide) (hF61.get (by decide) h43_5))))) rfl) ?_
            refine xg_t (xg_iload (va := (0, 4294967295)) rfl rfl) ?_
            refine xg_t (xg_const) ?_
            refine xg_t (xg_iload (va := (0, bo)) rfl rfl) ?_
            refine xg_cVv mX5_put (vs := [(0, 4294967295), (0, 4), (0, bo)]) (rest := []) (cn1 := 0) (sl1 := 0) rfl (rputI (lim := 64) (wd := 5) (B := 4294967295) (hb189.get (by decide) (hb183.get (by decide) (hb177.get (by decide) (hb146.get (by decide) h46_137)))) hr187 (hb188) (by decide) (by omega) (by decide) (by decide) (by omega) (by omega) (by omega)) rfl (hb189.get (by decide) (hb183.get (by decide) (hb177.get (by decide) (hb146.get (by decide) h46_137)))) rfl rfl rfl rfl rfl rfl (fun w190 hq191 => ?_)
            obtain ⟨g192, hr193, hb194, hb195⟩ := hq191
            refine xg_t (xg_const) ?_
            exact xg_e ⟨1, w190, ⟨rfl, rfl⟩, by first | decide | omega, xInv.up (S := [47]) hI60 (((((xFr.of (S := [47]) hb146 (by decide)).tr (xFr.of (S := [47]) hb177 (by decide))).tr (xFr.of (S := [47]) hb183 (by decide))).tr (xFr.of (S := [47]) hb189 (by decide))).tr (xFr.of (S := [47]) hb195 (by decide))) (List.forall_mem_cons.mpr ⟨xqu47 (show cpI 320 22 4294967295 (wget w190 47) from ⟨_, hr193, hb194⟩), fun _ h => absurd h List.not_mem_nil⟩), (hF61.tr (((((xFr.of (S := [46, 47, 48]) hb146 (by decide)).tr (xFr.of (S := [46, 47, 48]) hb177 (by decide))).tr (xFr.of (S := [46, 47, 48]) hb183 (by decide))).tr (xFr.of (S := [46, 47, 48]) hb189 (by decide))).tr (xFr.of (S := [46, 47, 48]) hb195 (by decide))))⟩
      refine xg_t (xg_istore (l1 := [(3, (0, n39)), (0, (2, 43)), (1, (0, li)), (2, (0, no))]) rfl rfl rfl) ?_
      refine xg_t (xg_const) ?_
      refine xg_t (xg_istore (l1 := [(4, (0, 62)), (3, (0, n39)), (0, (2, 43)), (1, (0, li)), (2, (0, no))]) rfl rfl rfl) ?_
      refine xg_t (xg_iload (va := (0, n39)) rfl rfl) ?_
      by_cases hc196 : n39 = 0
      · refine xg_t (xg_ifT (u := n39) rfl xnm0 (xj_eqT hc196)) ?_
        refine xg_t (xg_drop (l1 := [(0, (2, 43)), (1, (0, li)), (2, (0, no)), (3, (0, n39)), (4, (0, 62)), (5, (0, 0))]) (List.forall_mem_cons.mpr ⟨List.mem_cons_of_mem _ (List.mem_cons_of_mem _ (List.mem_cons_of_mem _ (List.mem_cons_self))), List.forall_mem_cons.mpr ⟨List.mem_cons_of_mem _ (List.mem_cons_of_mem _ (List.mem_cons_of_mem _ (List.mem_cons_of_mem _ (List.mem_cons_self)))), List.forall_mem_cons.mpr ⟨List.mem_cons_of_mem _ (List.mem_cons_of_mem _ (List.mem_cons_of_mem _ (List.mem_cons_of_mem _ (List.mem_cons_of_mem _ (List.mem_cons_self))))), List.forall_mem_cons.mpr ⟨List.mem_cons_of_mem _ (List.mem_cons_of_mem _ (List.mem_cons_self)), List.forall_mem_cons.mpr ⟨List.mem_cons_of_mem _ (List.mem_cons_self), List.forall_mem_cons.mpr ⟨List.mem_cons_self, fun _ h => absurd h List.not_mem_nil⟩⟩⟩⟩⟩⟩)) ?_
        exact jn58 n39 62 0 w54 (by omega) (by omega) (by omega) (hI56) (((hF33.tr (hF38.up (by decide))).tr (hF57.up (by decide))))
      · refine xg_t (xg_ifF (u := n39) rfl xnm0 (xj_eqF hc196)) ?_
        refine xg_t (xg_iload (va := (0, n39)) rfl rfl) ?_
        refine xg_t (xg_const) ?_
        by_cases hc197 : n39 = 1
        · refine xg_t (xg_icT (u := n39) (v := 1) rfl xnm0 xnm0 (xj_eqT hc197)) ?_
          refine xg_t (xg_drop (l1 := [(0, (2, 43)), (1, (0, li)), (2, (0, no)), (3, (0, n39)), (4, (0, 62)), (5, (0, 0))]) (List.forall_mem_cons.mpr ⟨List.mem_cons_of_mem _ (List.mem_cons_of_mem _ (List.mem_cons_of_mem _ (List.mem_cons_self))), List.forall_mem_cons.mpr ⟨List.mem_cons_of_mem _ (List.mem_cons_of_mem _ (List.mem_cons_of_mem _ (List.mem_cons_of_mem _ (List.mem_cons_self)))), List.forall_mem_cons.mpr ⟨List.mem_cons_of_mem _ (List.mem_cons_of_mem _ (List.mem_cons_of_mem _ (List.mem_cons_of_mem _ (List.mem_cons_of_mem _ (List.mem_cons_self))))), List.forall_mem_cons.mpr ⟨List.mem_cons_of_mem _ (List.mem_cons_of_mem _ (List.mem_cons_self)), List.forall_mem_cons.mpr ⟨List.mem_cons_of_mem _ (List.mem_cons_self), List.forall_mem_cons.mpr ⟨List.mem_cons_self, fun _ h => absurd h List.not_mem_nil⟩⟩⟩⟩⟩⟩)) ?_
          exact jn58 n39 62 0 w54 (by omega) (by omega) (by omega) (hI56) (((hF33.tr (hF38.up (by decide))).tr (hF57.up (by decide))))
        · refine xg_t (xg_icF (u := n39) (v := 1) rfl xnm0 xnm0 (xj_eqF hc197)) ?_
          refine xg_t (xg_aload (va := (2, 43)) rfl rfl) ?_
          refine xg_t (xg_getf (va := (2, 48)) (hF57.get (by decide) (hF38.get (by decide) (hF33.get (by decide) h43_5))) rfl) ?_
          refine xg_t (xg_bip) ?_
          refine xoC48 (xqc48 hI56 : cp48 (wget w54 48)) (fun f48_198 f48_200 f48_202 f48_204 f48_206 h48_208 hb199 hb201 hb203 hb205 hb207 hb209 => ?_)
          refine xg_cVi mX8_isSign (vs := [(0, 60)]) (rest := []) (cn1 := 0) (sl1 := 0) rfl (tkIsSign48 (hI56) (by omega)) rfl h48_208 rfl rfl rfl rfl rfl rfl (fun n214 w210 hq211 => ?_)
          obtain ⟨hn215, hI212, hF213⟩ := hq211
          by_cases hc216 : n214 = 0
          · refine xg_t (xg_ifT (u := n214) rfl xnm0 (xj_eqT hc216)) ?_
            refine xg_t (xg_blq rfl) ?_
            refine xg_t (xg_aload (va := (2, 43)) rfl rfl) ?_
            refine xg_t (xg_getf (va := (2, 48)) (hF213.get (by decide) (hF57.get (by decide) (hF38.get (by decide) (hF33.get (by decide) h43_5)))) rfl) ?_
            refine xg_t (xg_bip) ?_
            refine xg_cVi mX8_isSign (vs := [(0, 61)]) (rest := []) (cn1 := 0) (sl1 := 0) rfl (tkIsSign48 (hI212) (by omega)) rfl (hF213.get (by decide) h48_208) rfl rfl rfl rfl rfl rfl (fun n221 w217 hq218 => ?_)
            obtain ⟨hn222, hI219, hF220⟩ := hq218
            by_cases hc223 : n221 = 0
            · refine xg_t (xg_ifT (u := n221) rfl xnm0 (xj_eqT hc223)) ?_
              refine xg_t (xg_blq rfl) ?_
              refine xg_t (xg_bip) ?_
              refine xg_t (xg_blq rfl) ?_
              refine xg_t (xg_istore (l1 := [(5, (0, 0)), (3, (0, n39)), (0, (2, 43)), (1, (0, li)), (2, (0, no))]) rfl rfl rfl) ?_
              refine xg_t (xg_aload (va := (2, 43)) rfl rfl) ?_
              refine xg_t (xg_getf (va := (2, 48)) (hF220.get (by decide) (hF213.get (by decide) (hF57.get (by decide) (hF38.get (by decide) (hF33.get (by decide) h43_5))))) rfl) ?_
              refine xg_t (xg_iload (va := (0, 62)) rfl rfl) ?_
              refine xg_cVi mX8_isSign (vs := [(0, 62)]) (rest := []) (cn1 := 0) (sl1 := 0) rfl (tkIsSign48 (hI219) (by omega)) rfl (hF220.get (by decide) (hF213.get (by decide) h48_208)) rfl rfl rfl rfl rfl rfl (fun n228 w224 hq225 => ?_)
              obtain ⟨hn229, hI226, hF227⟩ := hq225
              by_cases hc230 : n228 = 0
              · refine xg_t (xg_ifF (u := n228) rfl xnm0 (xj_neF hc230)) ?_
                refine xg_t (xg_const) ?_
                exact xg_e ⟨0, w224, ⟨rfl, rfl⟩, by first | decide | omega, hI226, (((((hF33.tr (hF38.up (by decide))).tr (hF57.up (by decide))).tr (hF213.up (by decide))).tr (hF220.up (by decide))).tr (hF227.up (by decide)))⟩
              · refine xg_t (xg_ifT (u := n228) rfl xnm0 (xj_neT hc230)) ?_
                refine xg_t (xg_blq rfl) ?_
                refine xg_t (xg_aload (va := (2, 43)) rfl rfl) ?_
                refine xg_t (xg_getf (va := (2, 48)) (hF227.get (by decide) (hF220.get (by decide) (hF213.get (by decide) (hF57.get (by decide) (hF38.get (by decide) (hF33.get (by decide) h43_5)))))) rfl) ?_
                refine xg_cVv mX8_advance (vs := []) (rest := []) (cn1 := 0) (sl1 := 0) rfl (tkAdvance48 (hI226)) rfl (hF227.get (by decide) (hF220.get (by decide) (hF213.get (by decide) h48_208))) rfl rfl rfl rfl rfl rfl (fun w231 hq232 => ?_)
                obtain ⟨hI233, hF234⟩ := hq232
                refine xg_t (xg_aload (va := (2, 43)) rfl rfl) ?_
                refine xg_t (xg_getf (va := (2, 48)) (hF234.get (by decide) (hF227.get (by decide) (hF220.get (by decide) (hF213.get (by decide) (hF57.get (by decide) (hF38.get (by decide) (hF33.get (by decide) h43_5))))))) rfl) ?_
                refine xoC48 (xqc48 hI233 : cp48 (wget w231 48)) (fun f48_235 f48_237 f48_239 f48_241 f48_243 h48_245 hb236 hb238 hb240 hb242 hb244 hb246 => ?_)
                refine xg_t (xg_getf (va := (0, f48_237)) h48_245 rfl) ?_
                refine xg_t (xg_const) ?_
                by_cases hc247 : f48_237 = 2
                · refine xg_t (xg_icT (u := f48_237) (v := 2) rfl xnm0 xnm0 (xj_eqT hc247)) ?_
                  refine xg_t (xg_blq rfl) ?_
                  refine xg_t (xg_aload (va := (2, 43)) rfl rfl) ?_
                  refine xg_t (xg_getf (va := (2, 48)) (hF234.get (by decide) (hF227.get (by decide) (hF220.get (by decide) (hF213.get (by decide) (hF57.get (by decide) (hF38.get (by decide) (hF33.get (by decide) h43_5))))))) rfl) ?_
                  refine xg_t (xg_getf (va := (0, f48_243)) h48_245 rfl) ?_
                  refine xg_t (xg_istore (l1 := [(4, (0, 62)), (3, (0, n39)), (0, (2, 43)), (1, (0, li)), (2, (0, no))]) rfl rfl rfl) ?_
                  refine xg_t (xg_aload (va := (2, 43)) rfl rfl) ?_
                  refine xg_t (xg_getf (va := (2, 48)) (hF234.get (by decide) (hF227.get (by decide) (hF220.get (by decide) (hF213.get (by decide) (hF57.get (by decide) (hF38.get (by decide) (hF33.get (by decide) h43_5))))))) rfl) ?_
                  refine xg_cVv mX8_advance (vs := []) (rest := []) (cn1 := 0) (sl1 := 0) rfl (tkAdvance48 (hI233)) rfl h48_245 rfl rfl rfl rfl rfl rfl (fun w248 hq249 => ?_)
                  obtain ⟨hI250, hF251⟩ := hq249
                  refine xg_t (xg_drop (l1 := [(0, (2, 43)), (1, (0, li)), (2, (0, no)), (3, (0, n39)), (4, (0, 62)), (5, (0, f48_243))]) (List.forall_mem_cons.mpr ⟨List.mem_cons_of_mem _ (List.mem_cons_of_mem _ (List.mem_cons_of_mem _ (List.mem_cons_self))), List.forall_mem_cons.mpr ⟨List.mem_cons_of_mem _ (List.mem_cons_of_mem _ (List.mem_cons_of_mem _ (List.mem_cons_of_mem _ (List.mem_cons_self)))), List.forall_mem_cons.mpr ⟨List.mem_cons_of_mem _ (List.mem_cons_of_mem _ (List.mem_cons_of_mem _ (List.mem_cons_of_mem _ (List.mem_cons_of_mem _ (List.mem_cons_self))))), List.forall_mem_cons.mpr ⟨List.mem_cons_of_mem _ (List.mem_cons_of_mem _ (List.mem_cons_self)), List.forall_mem_cons.mpr ⟨List.mem_cons_of_mem _ (List.mem_cons_self), List.forall_mem_cons.mpr ⟨List.mem_cons_self, fun _ h => absurd h List.not_mem_nil⟩⟩⟩⟩⟩⟩)) ?_
                  exact jn58 n39 62 f48_243 w248 (by omega) (by omega) (by omega) (hI250) ((((((((hF33.tr (hF38.up (by decide))).tr (hF57.up (by decide))).tr (hF213.up (by decide))).tr (hF220.up (by decide))).tr (hF227.up (by decide))).tr (hF234.up (by decide))).tr (hF251.up (by decide))))
                · refine xg_t (xg_icF (u := f48_237) (v := 2) rfl xnm0 xnm0 (xj_eqF hc247)) ?_
                  refine xg_t (xg_const) ?_
                  exact xg_e ⟨0, w231, ⟨rfl, rfl⟩, by first | decide | omega, hI233, ((((((hF33.tr (hF38.up (by decide))).tr (hF57.up (by decide))).tr (hF213.up (by decide))).tr (hF220.up (by decide))).tr (hF227.up (by decide))).tr (hF234.up (by decide)))⟩
            · refine xg_t (xg_ifF (u := n221) rfl xnm0 (xj_eqF hc223)) ?_
              refine xg_t (xg_bip) ?_
              refine xg_t (xg_goto) ?_
              refine xg_t (xg_blq rfl) ?_
              refine xg_t (xg_istore (l1 := [(5, (0, 0)), (3, (0, n39)), (0, (2, 43)), (1, (0, li)), (2, (0, no))]) rfl rfl rfl) ?_
              refine xg_t (xg_aload (va := (2, 43)) rfl rfl) ?_
              refine xg_t (xg_getf (va := (2, 48)) (hF220.get (by decide) (hF213.get (by decide) (hF57.get (by decide) (hF38.get (by decide) (hF33.get (by decide) h43_5))))) rfl) ?_
              refine xg_t (xg_iload (va := (0, 61)) rfl rfl) ?_
              refine xg_cVi mX8_isSign (vs := [(0, 61)]) (rest := []) (cn1 := 0) (sl1 := 0) rfl (tkIsSign48 (hI219) (by omega)) rfl (hF220.get (by decide) (hF213.get (by decide) h48_208)) rfl rfl rfl rfl rfl rfl (fun n256 w252 hq253 => ?_)
              obtain ⟨hn257, hI254, hF255⟩ := hq253
              by_cases hc258 : n256 = 0
              · refine xg_t (xg_ifF (u := n256) rfl xnm0 (xj_neF hc258)) ?_
                refine xg_t (xg_const) ?_
                exact xg_e ⟨0, w252, ⟨rfl, rfl⟩, by first | decide | omega, hI254, (((((hF33.tr (hF38.up (by decide))).tr (hF57.up (by decide))).tr (hF213.up (by decide))).tr (hF220.up (by decide))).tr (hF255.up (by decide)))⟩
              · refine xg_t (xg_ifT (u := n256) rfl xnm0 (xj_neT hc258)) ?_
                refine xg_t (xg_blq rfl) ?_
                refine xg_t (xg_aload (va := (2, 43)) rfl rfl) ?_
                refine xg_t (xg_getf (va := (2, 48)) (hF255.get (by decide) (hF220.get (by decide) (hF213.get (by decide) (hF57.get (by decide) (hF38.get (by decide) (hF33.get (by decide) h43_5)))))) rfl) ?_
                refine xg_cVv mX8_advance (vs := []) (rest := []) (cn1 := 0) (sl1 := 0) rfl (tkAdvance48 (hI254)) rfl (hF255.get (by decide) (hF220.get (by decide) (hF213.get (by decide) h48_208))) rfl rfl rfl rfl rfl rfl (fun w259 hq260 => ?_)
                obtain ⟨hI261, hF262⟩ := hq260
                refine xg_t (xg_aload (va := (2, 43)) rfl rfl) ?_
                refine xg_t (xg_getf (va := (2, 48)) (hF262.get (by decide) (hF255.get (by decide) (hF220.get (by decide) (hF213.get (by decide) (hF57.get (by decide) (hF38.get (by decide) (hF33.get (by decide) h43_5))))))) rfl) ?_
                refine xoC48 (xqc48 hI261 : cp48 (wget w259 48)) (fun f48_263 f48_265 f48_267 f48_269 f48_271 h48_273 hb264 hb266 hb268 hb270 hb272 hb274 => ?_)
                refine xg_t (xg_getf (va := (0, f48_265)) h48_273 rfl) ?_
                refine xg_t (xg_const) ?_
                by_cases hc275 : f48_265 = 2
                · refine xg_t (xg_icT (u := f48_265) (v := 2) rfl xnm0 xnm0 (xj_eqT hc275)) ?_
                  refine xg_t (xg_blq rfl) ?_
                  refine xg_t (xg_aload (va := (2, 43)) rfl rfl) ?_
                  refine xg_t (xg_getf (va := (2, 48)) (hF262.get (by decide) (hF255.get (by decide) (hF220.get (by decide) (hF213.get (by decide) (hF57.get (by decide) (hF38.get (by decide) (hF33.get (by decide) h43_5))))))) rfl) ?_
                  refine xg_t (xg_getf (va := (0, f48_271)) h48_273 rfl) ?_
                  refine xg_t (xg_istore (l1 := [(4, (0, 61)), (3, (0, n39)), (0, (2, 43)), (1, (0, li)), (2, (0, no))]) rfl rfl rfl) ?_
                  refine xg_t (xg_aload (va := (2, 43)) rfl rfl) ?_
                  refine xg_t (xg_getf (va := (2, 48)) (hF262.get (by decide) (hF255.get (by decide) (hF220.get (by decide) (hF213.get (by decide) (hF57.get (by decide) (hF38.get (by decide) (hF33.get (by decide) h43_5))))))) rfl) ?_
                  refine xg_cVv mX8_advance (vs := []) (rest := []) (cn1 := 0) (sl1 := 0) rfl (tkAdvance48 (hI261)) rfl h48_273 rfl rfl rfl rfl rfl rfl (fun w276 hq277 => ?_)
                  obtain ⟨hI278, hF279⟩ := hq277
                  refine xg_t (xg_drop (l1 := [(0, (2, 43)), (1, (0, li)), (2, (0, no)), (3, (0, n39)), (4, (0, 61)), (5, (0, f48_271))]) (List.forall_mem_cons.mpr ⟨List.mem_cons_of_mem _ (List.mem_cons_of_mem _ (List.mem_cons_of_mem _ (List.mem_cons_self))), List.forall_mem_cons.mpr ⟨List.mem_cons_of_mem _ (List.mem_cons_of_mem _ (List.mem_cons_of_mem _ (List.mem_cons_of_mem _ (List.mem_cons_self)))), List.forall_mem_cons.mpr ⟨List.mem_cons_of_mem _ (List.mem_cons_of_mem _ (List.mem_cons_of_mem _ (List.mem_cons_of_mem _ (List.mem_cons_of_mem _ (List.mem_cons_self))))), List.forall_mem_cons.mpr ⟨List.mem_cons_of_mem _ (List.mem_cons_of_mem _ (List.mem_cons_self)), List.forall_mem_cons.mpr ⟨List.mem_cons_of_mem _ (List.mem_cons_self), List.forall_mem_cons.mpr ⟨List.mem_cons_self, fun _ h => absurd h List.not_mem_nil⟩⟩⟩⟩⟩⟩)) ?_
                  exact jn58 n39 61 f48_271 w276 (by omega) (by omega) (by omega) (hI278) ((((((((hF33.tr (hF38.up (by decide))).tr (hF57.up (by decide))).tr (hF213.up (by decide))).tr (hF220.up (by decide))).tr (hF255.up (by decide))).tr (hF262.up (by decide))).tr (hF279.up (by decide))))
                · refine xg_t (xg_icF (u := f48_265) (v := 2) rfl xnm0 xnm0 (xj_eqF hc275)) ?_
                  refine xg_t (xg_const) ?_
                  exact xg_e ⟨0, w259, ⟨rfl, rfl⟩, by first | decide | omega, hI261, ((((((hF33.tr (hF38.up (by decide))).tr (hF57.up (by decide))).tr (hF213.up (by decide))).tr (hF220.up (by decide))).tr (hF255.up (by decide))).tr (hF262.up (by decide)))⟩
          · refine xg_t (xg_ifF (u := n214) rfl xnm0 (xj_eqF hc216)) ?_
            refine xg_t (xg_bip) ?_
            refine xg_t (xg_goto) ?_
            refine xg_t (xg_blq rfl) ?_
            refine xg_t (xg_istore (l1 := [(5, (0, 0)), (3, (0, n39)), (0, (2, 43)), (1, (0, li)), (2, (0, no))]) rfl rfl rfl) ?_
            refine xg_t (xg_aload (va := (2, 43)) rfl rfl) ?_
            refine xg_t (xg_getf (va := (2, 48)) (hF213.get (by decide) (hF57.get (by decide) (hF38.get (by decide) (hF33.get (by decide) h43_5)))) rfl) ?_
            refine xg_t (xg_iload (va := (0, 60)) rfl rfl) ?_
            refine xg_cVi mX8_isSign (vs := [(0, 60)]) (rest := []) (cn1 := 0) (sl1 := 0) rfl (tkIsSign48 (hI212) (by omega)) rfl (hF213.get (by decide) h48_208) rfl rfl rfl rfl rfl rfl (fun n284 w280 hq281 => ?_)
            obtain ⟨hn285, hI282, hF283⟩ := hq281
            by_cases hc286 : n284 = 0
            · refine xg_t (xg_ifF (u := n284) rfl xnm0 (xj_neF hc286)) ?_
              refine xg_t (xg_const) ?_
              exact xg_e ⟨0, w280, ⟨rfl, rfl⟩, by first | decide | omega, hI282, ((((hF33.tr (hF38.up (by decide))).tr (hF57.up (by decide))).tr (hF213.up (by decide))).tr (hF283.up (by decide)))⟩
            · refine xg_t (xg_ifT (u := n284) rfl xnm0 (xj_neT hc286)) ?_
              refine xg_t (xg_blq rfl) ?_
              refine xg_t (xg_aload (va := (2, 43)) rfl rfl) ?_
              refine xg_t (xg_getf (va := (2, 48)) (hF283.get (by decide) (hF213.get (by decide) (hF57.get (by decide) (hF38.get (by decide) (hF33.get (by decide) h43_5))))) rfl) ?_
              refine xg_cVv mX8_advance (vs := []) (rest := []) (cn1 := 0) (sl1 := 0) rfl (tkAdvance48 (hI282)) rfl (hF283.get (by decide) (hF213.get (by decide) h48_208)) rfl rfl rfl rfl rfl rfl (fun w287 hq288 => ?_)
              obtain ⟨hI289, hF290⟩ := hq288
              refine xg_t (xg_aload (va := (2, 43)) rfl rfl) ?_
              refine xg_t (xg_getf (va := (2, 48)) (hF290.get (by decide) (hF283.get (by decide) (hF213.get (by decide) (hF57.get (by decide) (hF38.get (by decide) (hF33.get (by decide) h43_5)))))) rfl) ?_
              refine xoC48 (xqc48 hI289 : cp48 (wget w287 48)) (fun f48_291 f48_293 f48_295 f48_297 f48_299 h48_301 hb292 hb294 hb296 hb298 hb300 hb302 => ?_)
              refine xg_t (xg_getf (va := (0, f48_293)) h48_301 rfl) ?_
              refine xg_t (xg_const) ?_
              by_cases hc303 : f48_293 = 2
              · refine xg_t (xg_icT (u := f48_293) (v := 2) rfl xnm0 xnm0 (xj_eqT hc303)) ?_
                refine xg_t (xg_blq rfl) ?_
                refine xg_t (xg_aload (va := (2, 43)) rfl rfl) ?_
                refine xg_t (xg_getf (va := (2, 48)) (hF290.get (by decide) (hF283.get (by decide) (hF213.get (by decide) (hF57.get (by decide) (hF38.get (by decide) (hF33.get (by decide) h43_5)))))) rfl) ?_
                refine xg_t (xg_getf (va := (0, f48_299)) h48_301 rfl) ?_
                refine xg_t (xg_istore (l1 := [(4, (0, 60)), (3, (0, n39)), (0, (2, 43)), (1, (0, li)), (2, (0, no))]) rfl rfl rfl) ?_
                refine xg_t (xg_aload (va := (2, 43)) rfl rfl) ?_
                refine xg_t (xg_getf (va := (2, 48)) (hF290.get (by decide) (hF283.get (by decide) (hF213.get (by decide) (hF57.get (by decide) (hF38.get (by decide) (hF33.get (by decide) h43_5)))))) rfl) ?_
                refine xg_cVv mX8_advance (vs := []) (rest := []) (cn1 := 0) (sl1 := 0) rfl (tkAdvance48 (hI289)) rfl h48_301 rfl rfl rfl rfl rfl rfl (fun w304 hq305 => ?_)
                obtain ⟨hI306, hF307⟩ := hq305
                refine xg_t (xg_drop (l1 := [(0, (2, 43)), (1, (0, li)), (2, (0, no)), (3, (0, n39)), (4, (0, 60)), (5, (0, f48_299))]) (List.forall_mem_cons.mpr ⟨List.mem_cons_of_mem _ (List.mem_cons_of_mem _ (List.mem_cons_of_mem _ (List.mem_cons_self))), List.forall_mem_cons.mpr ⟨List.mem_cons_of_mem _ (List.mem_cons_of_mem _ (List.mem_cons_of_mem _ (List.mem_cons_of_mem _ (List.mem_cons_self)))), List.forall_mem_cons.mpr ⟨List.mem_cons_of_mem _ (List.mem_cons_of_mem _ (List.mem_cons_of_mem _ (List.mem_cons_of_mem _ (List.mem_cons_of_mem _ (List.mem_cons_self))))), List.forall_mem_cons.mpr ⟨List.mem_cons_of_mem _ (List.mem_cons_of_mem _ (List.mem_cons_self)), List.forall_mem_cons.mpr ⟨List.mem_cons_of_mem _ (List.mem_cons_self), List.forall_mem_cons.mpr ⟨List.mem_cons_self, fun _ h => absurd h List.not_mem_nil⟩⟩⟩⟩⟩⟩)) ?_
                exact jn58 n39 60 f48_299 w304 (by omega) (by omega) (by omega) (hI306) (((((((hF33.tr (hF38.up (by decide))).tr (hF57.up (by decide))).tr (hF213.up (by decide))).tr (hF283.up (by decide))).tr (hF290.up (by decide))).tr (hF307.up (by decide))))
              · refine xg_t (xg_icF (u := f48_293) (v := 2) rfl xnm0 xnm0 (xj_eqF hc303)) ?_
                refine xg_t (xg_const) ?_
                exact xg_e ⟨0, w287, ⟨rfl, rfl⟩, by first | decide | omega, hI289, (((((hF33.tr (hF38.up (by decide))).tr (hF57.up (by decide))).tr (hF213.up (by decide))).tr (hF283.up (by decide))).tr (hF290.up (by decide)))⟩
  by_cases hc308 : n28 = 0
  · refine xg_t (xg_ifT (u := n28) rfl xnm0 (xj_eqT hc308)) ?_
    refine xg_t (xg_drop (l1 := [(0, (2, 43)), (1, (0, li)), (2, (0, n28))]) (List.forall_mem_cons.mpr ⟨List.mem_cons_of_mem _ (List.mem_cons_self), List.forall_mem_cons.mpr ⟨List.mem_cons_of_mem _ (List.mem_cons_of_mem _ (List.mem_cons_self)), List.forall_mem_cons.mpr ⟨List.mem_cons_self, fun _ h => absurd h List.not_mem_nil⟩⟩⟩)) ?_
    exact jn30 n28 w24 (by omega) (hI26) ((hF27.up (by decide)))
  · refine xg_t (xg_ifF (u := n28) rfl xnm0 (xj_eqF hc308)) ?_
    refine xg_t (xg_aload (va := (2, 43)) rfl rfl) ?_
    refine xg_t (xg_getf (va := (2, 48)) (hF27.get (by decide) h43_5) rfl) ?_
    refine xg_cVv mX8_advance (vs := []) (rest := []) (cn1 := 0) (sl1 := 0) rfl (tkAdvance48 (hI26)) rfl (hF27.get (by decide) h48_22) rfl rfl rfl rfl rfl rfl (fun w309 hq310 => ?_)
    obtain ⟨hI311, hF312⟩ := hq310
    refine xg_t (xg_drop (l1 := [(0, (2, 43)), (1, (0, li)), (2, (0, n28))]) (List.forall_mem_cons.mpr ⟨List.mem_cons_of_mem _ (List.mem_cons_self), List.forall_mem_cons.mpr ⟨List.mem_cons_of_mem _ (List.mem_cons_of_mem _ (List.mem_cons_self)), List.forall_mem_cons.mpr ⟨List.mem_cons_self, fun _ h => absurd h List.not_mem_nil⟩⟩⟩)) ?_
    exact jn30 n28 w309 (by omega) (hI311) (((hF27.up (by decide)).tr (hF312.up (by decide))))
theorem rtTests {li : Nat} (hI : xInv w) (hli : li ≤ 4294967295) : xPi (d + 7) mX6_readTests [(2, 43), (0, li)] w bd fc rr (fun n w' => (n ≤ 1) ∧ xInv w' ∧ xFr [43, 46, 47, 48] w w') := by
  refine xPi.of ?_
  show xTo (d + 7) mX6_readTests (0, [], [(0, (2, 43)), (1, (0, li))], [], (w, bd, fc, 0, 0, rr)) (fun φ => ∃ n w', xEnd 4 [(0, n)] (w', bd, fc, 0, 0, rr) φ ∧ (n ≤ 1) ∧ xInv w' ∧ xFr [43, 46, 47, 48] w w')
  refine xoC43 (xqc43 hI : cp43 (wget w 43)) (fun f43_1 f43_3 h43_5 hb2 hb4 => ?_)
  refine xg_t (xg_blq rfl) ?_
  refine xg_t (xg_const) ?_
  refine xg_t (xg_istore (l1 := [(0, (2, 43)), (1, (0, li))]) rfl rfl rfl) ?_
  refine xg_t (xg_drop (l1 := [(0, (2, 43)), (1, (0, li)), (2, (0, 0))]) (List.forall_mem_cons.mpr ⟨List.mem_cons_of_mem _ (List.mem_cons_self), List.forall_mem_cons.mpr ⟨List.mem_cons_of_mem _ (List.mem_cons_of_mem _ (List.mem_cons_self)), List.forall_mem_cons.mpr ⟨List.mem_cons_self, fun _ h => absurd h List.not_mem_nil⟩⟩⟩)) ?_
  have key6 : ∀ (m8 : Nat) (ki : Nat) (w9 : List (List xE)), 501 - ki < m8 → ki ≤ 501 → xInv w9 → xFr [43, 46, 47, 48] w w9 → xTo (d + 7) mX6_readTests (2, [], [(0, (2, 43)), (1, (0, li)), (2, (0, ki))], [], (w9, bd, fc, 0, 0, rr)) (fun φ => ∃ n w', xEnd 4 [(0, n)] (w', bd, fc, 0, 0, rr) φ ∧ (n ≤ 1) ∧ xInv w' ∧ xFr [43, 46, 47, 48] w w') := by
    intro m8
    induction m8 with
    | zero => intro ki w9 hz; exact absurd hz (Nat.not_lt_zero _)
    | succ m8 ih7 =>
      intro ki w9 hm13 hn12 hI10 hF11
      refine xg_t (xg_blq rfl) ?_
      refine xg_t (xg_iload (va := (0, ki)) rfl rfl) ?_
      refine xg_t (xg_sip) ?_
      by_cases hc14 : 500 < ki
      · refine xg_t (xg_icT (u := ki) (v := 500) rfl xnm0 xnm0 (xj_gtT hc14 (by omega))) ?_
        refine xg_t (xg_blq rfl) ?_
        refine xg_t (xg_const) ?_
        exact xg_e ⟨0, w9, ⟨rfl, rfl⟩, by first | decide | omega, hI10, hF11⟩
      · refine xg_t (xg_icF (u := ki) (v := 500) rfl xnm0 xnm0 (xj_gtF (by omega) (by omega))) ?_
        refine xg_t (xg_aload (va := (2, 43)) rfl rfl) ?_
        refine xoC43 (xqc43 hI10 : cp43 (wget w9 43)) (fun f43_15 f43_17 h43_19 hb16 hb18 => ?_)
        refine xg_t (xg_getf (va := (2, 48)) h43_19 rfl) ?_
        refine xoC48 (xqc48 hI10 : cp48 (wget w9 48)) (fun f48_20 f48_22 f48_24 f48_26 f48_28 h48_30 hb21 hb23 hb25 hb27 hb29 hb31 => ?_)
        refine xg_cVv mX8_advance (vs := []) (rest := []) (cn1 := 0) (sl1 := 0) rfl (tkAdvance48 (hI10)) rfl h48_30 rfl rfl rfl rfl rfl rfl (fun w32 hq33 => ?_)
        obtain ⟨hI34, hF35⟩ := hq33
        refine xg_t (xg_iload (va := (0, ki)) rfl rfl) ?_
        refine xg_t (xg_const) ?_
        by_cases hc36 : ki < 4
        · refine xg_t (xg_icT (u := ki) (v := 4) rfl xnm0 xnm0 (xj_ltT hc36 (by omega))) ?_
          refine xg_t (xg_blq rfl) ?_
          refine xg_t (xg_aload (va := (2, 43)) rfl rfl) ?_
          refine xg_t (xg_iload (va := (0, li)) rfl rfl) ?_
          refine xg_cVi mX6_readTest (vs := [(0, li)]) (rest := []) (cn1 := 0) (sl1 := 0) rfl (rtTest (hI34) (by omega)) rfl (hF35.get (by decide) h43_19) rfl rfl rfl rfl rfl rfl (fun n41 w37 hq38 => ?_)
          obtain ⟨hn42, hI39, hF40⟩ := hq38
          by_cases hc43 : n41 = 0
          · refine xg_t (xg_ifF (u := n41) rfl xnm0 (xj_neF hc43)) ?_
            refine xg_t (xg_const) ?_
            exact xg_e ⟨0, w37, ⟨rfl, rfl⟩, by first | decide | omega, hI39, ((hF11.tr (hF35.up (by decide))).tr (hF40.up (by decide)))⟩
          · refine xg_t (xg_ifT (u := n41) rfl xnm0 (xj_neT hc43)) ?_
            refine xg_t (xg_blq rfl) ?_
            refine xg_t (xg_aload (va := (2, 43)) rfl rfl) ?_
            refine xg_t (xg_getf (va := (2, 48)) (hF40.get (by decide) (hF35.get (by decide) h43_19)) rfl) ?_
            refine xg_t (xg_bip) ?_
            refine xoC48 (xqc48 hI39 : cp48 (wget w37 48)) (fun f48_44 f48_46 f48_48 f48_50 f48_52 h48_54 hb45 hb47 hb49 hb51 hb53 hb55 => ?_)
            refine xg_cVi mX8_isSign (vs := [(0, 58)]) (rest := []) (cn1 := 0) (sl1 := 0) rfl (tkIsSign48 (hI39) (by omega)) rfl h48_54 rfl rfl rfl rfl rfl rfl (fun n60 w56 hq57 => ?_)
            obtain ⟨hn61, hI58, hF59⟩ := hq57
            by_cases hc62 : n60 = 0
            · refine xg_t (xg_ifT (u := n60) rfl xnm0 (xj_eqT hc62)) ?_
              refine xg_t (xg_blq rfl) ?_
              refine xg_t (xg_aload (va := (2, 43)) rfl rfl) ?_
              refine xg_t (xg_getf (va := (2, 48)) (hF59.get (by decide) (hF40.get (by decide) (hF35.get (by decide) h43_19))) rfl) ?_
              refine xg_t (xg_ldcS) ?_
              refine xg_cVi mX8_isWord (vs := [(8, 122)]) (rest := []) (cn1 := 0) (sl1 := 0) rfl (tkIsWord48 (hI58) (i := 22) rfl) rfl (hF59.get (by decide) h48_54) rfl rfl rfl rfl rfl rfl (fun n67 w63 hq64 => ?_)
              obtain ⟨hn68, hI65, hF66⟩ := hq64
              by_cases hc69 : n67 = 0
              · refine xg_t (xg_ifF (u := n67) rfl xnm0 (xj_neF hc69)) ?_
                refine xg_t (xg_const) ?_
                exact xg_e ⟨0, w63, ⟨rfl, rfl⟩, by first | decide | omega, hI65, ((((hF11.tr (hF35.up (by decide))).tr (hF40.up (by decide))).tr (hF59.up (by decide))).tr (hF66.up (by decide)))⟩
              · refine xg_t (xg_ifT (u := n67) rfl xnm0 (xj_neT hc69)) ?_
                refine xg_t (xg_blq rfl) ?_
                refine xg_t (xg_iinc (u := ki) (z := ki + 1) (l1 := [(0, (2, 43)), (1, (0, li))]) rfl rfl (by omega) rfl) ?_
                refine xg_t (xg_goto) ?_
                refine xg_t (xg_drop (l1 := [(0, (2, 43)), (1, (0, li)), (2, (0, ki + 1))]) (List.forall_mem_cons.mpr ⟨List.mem_cons_of_mem _ (List.mem_cons_self), List.forall_mem_cons.mpr ⟨List.mem_cons_of_mem _ (List.mem_cons_of_mem _ (List.mem_cons_self)), List.forall_mem_cons.mpr ⟨List.mem_cons_self, fun _ h => absurd h List.not_mem_nil⟩⟩⟩)) ?_
                exact ih7 (ki + 1) w63 (by omega) (by omega) (hI65) (((((hF11.tr (hF35.up (by decide))).tr (hF40.up (by decide))).tr (hF59.up (by decide))).tr (hF66.up (by decide))))
            · refine xg_t (xg_ifF (u := n60) rfl xnm0 (xj_eqF hc62)) ?_
              refine xg_t (xg_aload (va := (2, 43)) rfl rfl) ?_
              refine xg_t (xg_getf (va := (2, 48)) (hF59.get (by decide) (hF40.get (by decide) (hF35.get (by decide) h43_19))) rfl) ?_
              refine xg_cVv mX8_advance (vs := []) (rest := []) (cn1 := 0) (sl1 := 0) rfl (tkAdvance48 (hI58)) rfl (hF59.get (by decide) h48_54) rfl rfl rfl rfl rfl rfl (fun w70 hq71 => ?_)
              obtain ⟨hI72, hF73⟩ := hq71
              refine xg_t (xg_const) ?_
              exact xg_e ⟨1, w70, ⟨rfl, rfl⟩, by first | decide | omega, hI72, ((((hF11.tr (hF35.up (by decide))).tr (hF40.up (by decide))).tr (hF59.up (by decide))).tr (hF73.up (by decide)))⟩
        · refine xg_t (xg_icF (u := ki) (v := 4) rfl xnm0 xnm0 (xj_ltF (by omega) (by omega))) ?_
          refine xg_t (xg_aload (va := (2, 43)) rfl rfl) ?_
          refine xg_cVv mX6_noteTooMany (vs := []) (rest := []) (cn1 := 0) (sl1 := 0) rfl (rtMany (hI34)) rfl (hF35.get (by decide) h43_19) rfl rfl rfl rfl rfl rfl (fun w74 hq75 => ?_)
          obtain ⟨hI76, hF77⟩ := hq75
          refine xg_t (xg_blq rfl) ?_
          refine xg_t (xg_aload (va := (2, 43)) rfl rfl) ?_
          refine xg_t (xg_iload (va := (0, li)) rfl rfl) ?_
          refine xoC43 (xqc43 hI76 : cp43 (wget w74 43)) (fun f43_78 f43_80 h43_82 hb79 hb81 => ?_)
          refine xg_cVi mX6_readTest (vs := [(0, li)]) (rest := []) (cn1 := 0) (sl1 := 0) rfl (rtTest (hI76) (by omega)) rfl h43_82 rfl rfl rfl rfl rfl rfl (fun n87 w83 hq84 => ?_)
          obtain ⟨hn88, hI85, hF86⟩ := hq84
          by_cases hc89 : n87 = 0
          · refine xg_t (xg_ifF (u := n87) rfl xnm0 (xj_neF hc89)) ?_
            refine xg_t (xg_const) ?_
            exact xg_e ⟨0, w83, ⟨rfl, rfl⟩, by first | decide | omega, hI85, (((hF11.tr (hF35.up (by decide))).tr (hF77.up (by decide))).tr (hF86.up (by decide)))⟩
          · refine xg_t (xg_ifT (u := n87) rfl xnm0 (xj_neT hc89)) ?_
            refine xg_t (xg_blq rfl) ?_
            refine xg_t (xg_aload (va := (2, 43)) rfl rfl) ?_
            refine xg_t (xg_getf (va := (2, 48)) (hF86.get (by decide) h43_82) rfl) ?_
            refine xg_t (xg_bip) ?_
            refine xoC48 (xqc48 hI85 : cp48 (wget w83 48)) (fun f48_90 f48_92 f48_94 f48_96 f48_98 h48_100 hb91 hb93 hb95 hb97 hb99 hb101 => ?_)
            refine xg_cVi mX8_isSign (vs := [(0, 58)]) (rest := []) (cn1 := 0) (sl1 := 0) rfl (tkIsSign48 (hI85) (by omega)) rfl h48_100 rfl rfl rfl rfl rfl rfl (fun n106 w102 hq103 => ?_)
            obtain ⟨hn107, hI104, hF105⟩ := hq103
            by_cases hc108 : n106 = 0
            · refine xg_t (xg_ifT (u := n106) rfl xnm0 (xj_eqT hc108)) ?_
              refine xg_t (xg_blq rfl) ?_
              refine xg_t (xg_aload (va := (2, 43)) rfl rfl) ?_
              refine xg_t (xg_getf (va := (2, 48)) (hF105.get (by decide) (hF86.get (by decide) h43_82)) rfl) ?_
              refine xg_t (xg_ldcS) ?_
              refine xg_cVi mX8_isWord (vs := [(8, 122)]) (rest := []) (cn1 := 0) (sl1 := 0) rfl (tkIsWord48 (hI104) (i := 22) rfl) rfl (hF105.get (by decide) h48_100) rfl rfl rfl rfl rfl rfl (fun n113 w109 hq110 => ?_)
              obtain ⟨hn114, hI111, hF112⟩ := hq110
              by_cases hc115 : n113 = 0
              · refine xg_t (xg_ifF (u := n113) rfl xnm0 (xj_neF hc115)) ?_
                refine xg_t (xg_const) ?_
                exact xg_e ⟨0, w109, ⟨rfl, rfl⟩, by first | decide | omega, hI111, (((((hF11.tr (hF35.up (by decide))).tr (hF77.up (by decide))).tr (hF86.up (by decide))).tr (hF105.up (by decide))).tr (hF112.up (by decide)))⟩
              · refine xg_t (xg_ifT (u := n113) rfl xnm0 (xj_neT hc115)) ?_
                refine xg_t (xg_blq rfl) ?_
                refine xg_t (xg_iinc (u := ki) (z := ki + 1) (l1 := [(0, (2, 43)), (1, (0, li))]) rfl rfl (by omega) rfl) ?_
                refine xg_t (xg_goto) ?_
                refine xg_t (xg_drop (l1 := [(0, (2, 43)), (1, (0, li)), (2, (0, ki + 1))]) (List.forall_mem_cons.mpr ⟨List.mem_cons_of_mem _ (List.mem_cons_self), List.forall_mem_cons.mpr ⟨List.mem_cons_of_mem _ (List.mem_cons_of_mem _ (List.mem_cons_self)), List.forall_mem_cons.mpr ⟨List.mem_cons_self, fun _ h => absurd h List.not_mem_nil⟩⟩⟩)) ?_
                exact ih7 (ki + 1) w109 (by omega) (by omega) (hI111) ((((((hF11.tr (hF35.up (by decide))).tr (hF77.up (by decide))).tr (hF86.up (by decide))).tr (hF105.up (by decide))).tr (hF112.up (by decide))))
            · refine xg_t (xg_ifF (u := n106) rfl xnm0 (xj_eqF hc108)) ?_
              refine xg_t (xg_aload (va := (2, 43)) rfl rfl) ?_
              refine xg_t (xg_getf (va := (2, 48)) (hF105.get (by decide) (hF86.get (by decide) h43_82)) rfl) ?_
              refine xg_cVv mX8_advance (vs := []) (rest := []) (cn1 := 0) (sl1 := 0) rfl (tkAdvance48 (hI104)) rfl (hF105.get (by decide) h48_100) rfl rfl rfl rfl rfl rfl (fun w116 hq117 => ?_)
              obtain ⟨hI118, hF119⟩ := hq117
              refine xg_t (xg_const) ?_
              exact xg_e ⟨1, w116, ⟨rfl, rfl⟩, by first | decide | omega, hI118, (((((hF11.tr (hF35.up (by decide))).tr (hF77.up (by decide))).tr (hF86.up (by decide))).tr (hF105.up (by decide))).tr (hF119.up (by decide)))⟩
  exact key6 _ 0 w (Nat.lt_succ_self _) (by omega) (hI) (xFr.rf)
theorem rtLine (hI : xInv w)  : xPi (d + 8) mX6_readLine [(2, 43)] w bd fc rr (fun n w' => (n ≤ 1) ∧ xInv w' ∧ xFr [43, 44, 45, 46, 47, 48] w w') := by
  refine xPi.of ?_
  show xTo (d + 8) mX6_readLine (0, [], [(0, (2, 43))], [], (w, bd, fc, 0, 0, rr)) (fun φ => ∃ n w', xEnd 4 [(0, n)] (w', bd, fc, 0, 0, rr) φ ∧ (n ≤ 1) ∧ xInv w' ∧ xFr [43, 44, 45, 46, 47, 48] w w')
  refine xoC43 (xqc43 hI : cp43 (wget w 43)) (fun f43_1 f43_3 h43_5 hb2 hb4 => ?_)
  obtain ⟨f44_6, h44_8, hb7⟩ := (xqc44 hI : cp44 (wget w 44))
  refine xoI (xqc45 hI : cpI 32 21 4294967295 (wget w 45)) (fun g45_9 h45_10 hb11 => ?_)
  refine xg_t (xg_blq rfl) ?_
  refine xg_t (xg_aload (va := (2, 43)) rfl rfl) ?_
  refine xg_t (xg_getf (va := (2, 44)) h43_5 rfl) ?_
  refine xg_t (xg_cVr mX5_isFull (vs := []) (rest := []) (rs := [(0, if 16 ≤ f44_6 then 1 else 0)]) (cn1 := 0) (sl1 := 0) rfl (rfull_ok h44_8 (by decide) (by omega)) rfl h44_8 rfl rfl rfl rfl rfl rfl rfl) ?_
  by_cases hc12 : 16 ≤ f44_6
  · refine xg_t (xg_ifF (u := (if 16 ≤ f44_6 then 1 else 0)) rfl xnm0 (xj_eqF (xite1 hc12))) ?_
    refine xg_t (xg_aload (va := (2, 43)) rfl rfl) ?_
    refine xg_cVv mX6_noteTooMany (vs := []) (rest := []) (cn1 := 0) (sl1 := 0) rfl (rtMany (hI)) rfl h43_5 rfl rfl rfl rfl rfl rfl (fun w13 hq14 => ?_)
    obtain ⟨hI15, hF16⟩ := hq14
    refine xg_t (xg_blq rfl) ?_
    refine xg_t (xg_aload (va := (2, 43)) rfl rfl) ?_
    refine xoC43 (xqc43 hI15 : cp43 (wget w13 43)) (fun f43_17 f43_19 h43_21 hb18 hb20 => ?_)
    refine xg_t (xg_getf (va := (2, 44)) h43_21 rfl) ?_
    refine xg_cVi mX5_grow (vs := []) (rest := []) (cn1 := 0) (sl1 := 0) rfl (rgrowI (hF16.get (by decide) h44_8) (by decide) (by omega)) rfl (hF16.get (by decide) h44_8) rfl rfl rfl rfl rfl rfl (fun n24 w22 hq23 => ?_)
    obtain ⟨hn25, s26, hs27, hk28, hb29⟩ := hq23
    refine xg_t (xg_istore (l1 := [(0, (2, 43))]) rfl rfl rfl) ?_
    refine xg_t (xg_aload (va := (2, 43)) rfl rfl) ?_
    refine xg_t (xg_getf (va := (2, 48)) (hb29.get (by decide) h43_21) rfl) ?_
    refine xg_t (xg_ldcS) ?_
    refine xoC48 (xqc48 hI15 : cp48 (wget w13 48)) (fun f48_30 f48_32 f48_34 f48_36 f48_38 h48_40 hb31 hb33 hb35 hb37 hb39 hb41 => ?_)
    refine xg_cVi mX8_isWord (vs := [(8, 120)]) (rest := []) (cn1 := 0) (sl1 := 0) rfl (tkIsWord48 (xInv.up (S := [44]) hI15 (xFr.of (S := [44]) hb29 (by decide)) (List.forall_mem_cons.mpr ⟨xqu44 (show cp44 (wget w22 44) from ⟨s26, hk28, by omega⟩), fun _ h => absurd h List.not_mem_nil⟩)) (i := 20) rfl) rfl (hb29.get (by decide) h48_40) rfl rfl rfl rfl rfl rfl (fun n46 w42 hq43 => ?_)
    obtain ⟨hn47, hI44, hF45⟩ := hq43
    by_cases hc48 : n46 = 0
    · refine xg_t (xg_ifT (u := n46) rfl xnm0 (xj_eqT hc48)) ?_
      refine xg_t (xg_blq rfl) ?_
      refine xg_t (xg_aload (va := (2, 43)) rfl rfl) ?_
      refine xg_cVi mX6_verbOfWord (vs := []) (rest := []) (cn1 := 0) (sl1 := 0) rfl (rtVerb (hI44)) rfl (hF45.get (by decide) (hb29.get (by decide) h43_21)) rfl rfl rfl rfl rfl rfl (fun n53 w49 hq50 => ?_)
      obtain ⟨hn54, hI51, hF52⟩ := hq50
      refine xg_t (xg_istore (l1 := [(1, (0, n24)), (0, (2, 43))]) rfl rfl rfl) ?_
      refine xg_t (xg_const) ?_
      refine xg_t (xg_istore (l1 := [(2, (0, n53)), (1, (0, n24)), (0, (2, 43))]) rfl rfl rfl) ?_
      refine xg_t (xg_iload (va := (0, n53)) rfl rfl) ?_
      refine xg_t (xg_const) ?_
      by_cases hc55 : n53 = 4294967295
      · refine xg_t (xg_icF (u := n53) (v := 4294967295) rfl xnm0 xnm0 (xj_neF hc55)) ?_
        refine xg_t (xg_const) ?_
        exact xg_e ⟨0, w49, ⟨rfl, rfl⟩, by first | decide | omega, hI51, ((((hF16.up (by decide)).tr (xFr.of (S := [43, 44, 45, 46, 47, 48]) hb29 (by decide))).tr (hF45.up (by decide))).tr (hF52.up (by decide)))⟩
      · refine xg_t (xg_icT (u := n53) (v := 4294967295) rfl xnm0 xnm0 (xj_neT hc55)) ?_
        refine xg_t (xg_blq rfl) ?_
        refine xg_t (xg_aload (va := (2, 43)) rfl rfl) ?_
        refine xg_t (xg_getf (va := (2, 48)) (hF52.get (by decide) (hF45.get (by decide) (hb29.get (by decide) h43_21))) rfl) ?_
        refine xg_cVv mX8_advance (vs := []) (rest := []) (cn1 := 0) (sl1 := 0) rfl (tkAdvance48 (hI51)) rfl (hF52.get (by decide) (hF45.get (by decide) (hb29.get (by decide) h48_40))) rfl rfl rfl rfl rfl rfl (fun w56 hq57 => ?_)
        obtain ⟨hI58, hF59⟩ := hq57
        refine xg_t (xg_iload (va := (0, n53)) rfl rfl) ?_
        by_cases hc60 : n53 = 0
        · refine xg_t (xg_ifT (u := n53) rfl xnm0 (xj_eqT hc60)) ?_
          refine xg_t (xg_blq rfl) ?_
          refine xg_t (xg_aload (va := (2, 43)) rfl rfl) ?_
          refine xg_t (xg_getf (va := (2, 48)) (hF59.get (by decide) (hF52.get (by decide) (hF45.get (by decide) (hb29.get (by decide) h43_21)))) rfl) ?_
          refine xg_t (xg_bip) ?_
          refine xoC48 (xqc48 hI58 : cp48 (wget w56 48)) (fun f48_61 f48_63 f48_65 f48_67 f48_69 h48_71 hb62 hb64 hb66 hb68 hb70 hb72 => ?_)
          refine xg_cVi mX8_isSign (vs := [(0, 59)]) (rest := []) (cn1 := 0) (sl1 := 0) rfl (tkIsSign48 (hI58) (by omega)) rfl h48_71 rfl rfl rfl rfl rfl rfl (fun n77 w73 hq74 => ?_)
          obtain ⟨hn78, hI75, hF76⟩ := hq74
          by_cases hc79 : n77 = 0
          · refine xg_t (xg_ifF (u := n77) rfl xnm0 (xj_neF hc79)) ?_
            refine xg_t (xg_const) ?_
            exact xg_e ⟨0, w73, ⟨rfl, rfl⟩, by first | decide | omega, hI75, ((((((hF16.up (by decide)).tr (xFr.of (S := [43, 44, 45, 46, 47, 48]) hb29 (by decide))).tr (hF45.up (by decide))).tr (hF52.up (by decide))).tr (hF59.up (by decide))).tr (hF76.up (by decide)))⟩
          · refine xg_t (xg_ifT (u := n77) rfl xnm0 (xj_neT hc79)) ?_
            refine xg_t (xg_blq rfl) ?_
            refine xg_t (xg_aload (va := (2, 43)) rfl rfl) ?_
            refine xg_t (xg_getf (va := (2, 48)) (hF76.get (by decide) (hF59.get (by decide) (hF52.get (by decide) (hF45.get (by decide) (hb29.get (by decide) h43_21))))) rfl) ?_
            refine xg_cVv mX8_advance (vs := []) (rest := []) (cn1 := 0) (sl1 := 0) rfl (tkAdvance48 (hI75)) rfl (hF76.get (by decide) h48_71) rfl rfl rfl rfl rfl rfl (fun w80 hq81 => ?_)
            obtain ⟨hI82, hF83⟩ := hq81
            refine xg_t (xg_aload (va := (2, 43)) rfl rfl) ?_
            refine xg_t (xg_getf (va := (2, 44)) (hF83.get (by decide) (hF76.get (by decide) (hF59.get (by decide) (hF52.get (by decide) (hF45.get (by decide) (hb29.get (by decide) h43_21)))))) rfl) ?_
            refine xg_t (xg_iload (va := (0, n24)) rfl rfl) ?_
            refine xg_t (xg_const) ?_
            refine xg_t (xg_iload (va := (0, n53)) rfl rfl) ?_
            refine xg_cVv mX5_put (vs := [(0, n24), (0, 0), (0, n53)]) (rest := []) (cn1 := 0) (sl1 := 0) rfl (rputI (lim := 16) (wd := 2) (B := 4294967295) (hF83.get (by decide) (hF76.get (by decide) (hF59.get (by decide) (hF52.get (by decide) (hF45.get (by decide) hk28))))) (((((((h45_10.fr hF16 (by decide)).but hb29 (by decide)).fr hF45 (by decide)).fr hF52 (by decide)).fr hF59 (by decide)).fr hF76 (by decide)).fr hF83 (by decide)) (hb11) (by decide) (by omega) (by decide) (by decide) (by omega) (by omega) (by omega)) rfl (hF83.get (by decide) (hF76.get (by decide) (hF59.get (by decide) (hF52.get (by decide) (hF45.get (by decide) hk28))))) rfl rfl rfl rfl rfl rfl (fun w84 hq85 => ?_)
            obtain ⟨g86, hr87, hb88, hb89⟩ := hq85
            refine xg_t (xg_aload (va := (2, 43)) rfl rfl) ?_
            refine xg_t (xg_getf (va := (2, 44)) (hb89.get (by decide) (hF83.get (by decide) (hF76.get (by decide) (hF59.get (by decide) (hF52.get (by decide) (hF45.get (by decide) (hb29.get (by decide) h43_21))))))) rfl) ?_
            refine xg_t (xg_iload (va := (0, n24)) rfl rfl) ?_
            refine xg_t (xg_const) ?_
            refine xg_t (xg_iload (va := (0, 0)) rfl rfl) ?_
            refine xg_cVv mX5_put (vs := [(0, n24), (0, 1), (0, 0)]) (rest := []) (cn1 := 0) (sl1 := 0) rfl (rputI (lim := 16) (wd := 2) (B := 4294967295) (hb89.get (by decide) (hF83.get (by decide) (hF76.get (by decide) (hF59.get (by decide) (hF52.get (by decide) (hF45.get (by decide) hk28)))))) hr87 (hb88) (by decide) (by omega) (by decide) (by decide) (by omega) (by omega) (by omega)) rfl (hb89.get (by decide) (hF83.get (by decide) (hF76.get (by decide) (hF59.get (by decide) (hF52.get (by decide) (hF45.get (by decide) hk28)))))) rfl rfl rfl rfl rfl rfl (fun w90 hq91 => ?_)
            obtain ⟨g92, hr93, hb94, hb95⟩ := hq91
            refine xg_t (xg_const) ?_
            exact xg_e ⟨1, w90, ⟨rfl, rfl⟩, by first | decide | omega, xInv.up (S := [45]) hI82 ((xFr.of (S := [45]) hb89 (by decide)).tr (xFr.of (S := [45]) hb95 (by decide))) (List.forall_mem_cons.mpr ⟨xqu45 (show cpI 32 21 4294967295 (wget w90 45) from ⟨_, hr93, hb94⟩), fun _ h => absurd h List.not_mem_nil⟩), ((((((((hF16.up (by decide)).tr (xFr.of (S := [43, 44, 45, 46, 47, 48]) hb29 (by decide))).tr (hF45.up (by decide))).tr (hF52.up (by decide))).tr (hF59.up (by decide))).tr (hF76.up (by decide))).tr (hF83.up (by decide))).tr ((xFr.of (S := [43, 44, 45, 46, 47, 48]) hb89 (by decide)).tr (xFr.of (S := [43, 44, 45, 46, 47, 48]) hb95 (by decide))))⟩
        · refine xg_t (xg_ifF (u := n53) rfl xnm0 (xj_eqF hc60)) ?_
          refine xg_t (xg_aload (va := (2, 43)) rfl rfl) ?_
          refine xg_t (xg_getf (va := (2, 48)) (hF59.get (by decide) (hF52.get (by decide) (hF45.get (by decide) (hb29.get (by decide) h43_21)))) rfl) ?_
          refine xoC48 (xqc48 hI58 : cp48 (wget w56 48)) (fun f48_96 f48_98 f48_100 f48_102 f48_104 h48_106 hb97 hb99 hb101 hb103 hb105 hb107 => ?_)
          refine xg_t (xg_getf (va := (0, f48_98)) h48_106 rfl) ?_
          refine xg_t (xg_const) ?_
          by_cases hc108 : f48_98 = 2
          · refine xg_t (xg_icT (u := f48_98) (v := 2) rfl xnm0 xnm0 (xj_eqT hc108)) ?_
            refine xg_t (xg_blq rfl) ?_
            refine xg_t (xg_aload (va := (2, 43)) rfl rfl) ?_
            refine xg_t (xg_getf (va := (2, 48)) (hF59.get (by decide) (hF52.get (by decide) (hF45.get (by decide) (hb29.get (by decide) h43_21)))) rfl) ?_
            refine xg_t (xg_getf (va := (0, f48_104)) h48_106 rfl) ?_
            refine xg_t (xg_istore (l1 := [(2, (0, n53)), (1, (0, n24)), (0, (2, 43))]) rfl rfl rfl) ?_
            refine xg_t (xg_aload (va := (2, 43)) rfl rfl) ?_
            refine xg_t (xg_getf (va := (2, 48)) (hF59.get (by decide) (hF52.get (by decide) (hF45.get (by decide) (hb29.get (by decide) h43_21)))) rfl) ?_
            refine xg_cVv mX8_advance (vs := []) (rest := []) (cn1 := 0) (sl1 := 0) rfl (tkAdvance48 (hI58)) rfl h48_106 rfl rfl rfl rfl rfl rfl (fun w109 hq110 => ?_)
            obtain ⟨hI111, hF112⟩ := hq110
            refine xg_t (xg_blq rfl) ?_
            refine xg_t (xg_aload (va := (2, 43)) rfl rfl) ?_
            refine xg_t (xg_getf (va := (2, 48)) (hF112.get (by decide) (hF59.get (by decide) (hF52.get (by decide) (hF45.get (by decide) (hb29.get (by decide) h43_21))))) rfl) ?_
            refine xg_t (xg_bip) ?_
            refine xoC48 (xqc48 hI111 : cp48 (wget w109 48)) (fun f48_113 f48_115 f48_117 f48_119 f48_121 h48_123 hb114 hb116 hb118 hb120 hb122 hb124 => ?_)
            refine xg_cVi mX8_isSign (vs := [(0, 59)]) (rest := []) (cn1 := 0) (sl1 := 0) rfl (tkIsSign48 (hI111) (by omega)) rfl h48_123 rfl rfl rfl rfl rfl rfl (fun n129 w125 hq126 => ?_)
            obtain ⟨hn130, hI127, hF128⟩ := hq126
            by_cases hc131 : n129 = 0
            · refine xg_t (xg_ifF (u := n129) rfl xnm0 (xj_neF hc131)) ?_
              refine xg_t (xg_const) ?_
              exact xg_e ⟨0, w125, ⟨rfl, rfl⟩, by first | decide | omega, hI127, (((((((hF16.up (by decide)).tr (xFr.of (S := [43, 44, 45, 46, 47, 48]) hb29 (by decide))).tr (hF45.up (by decide))).tr (hF52.up (by decide))).tr (hF59.up (by decide))).tr (hF112.up (by decide))).tr (hF128.up (by decide)))⟩
            · refine xg_t (xg_ifT (u := n129) rfl xnm0 (xj_neT hc131)) ?_
              refine xg_t (xg_blq rfl) ?_
              refine xg_t (xg_aload (va := (2, 43)) rfl rfl) ?_
              refine xg_t (xg_getf (va := (2, 48)) (hF128.get (by decide) (hF112.get (by decide) (hF59.get (by decide) (hF52.get (by decide) (hF45.get (by decide) (hb29.get (by decide) h43_21)))))) rfl) ?_
              refine xg_cVv mX8_advance (vs := []) (rest := []) (cn1 := 0) (sl1 := 0) rfl (tkAdvance48 (hI127)) rfl (hF128.get (by decide) h48_123) rfl rfl rfl rfl rfl rfl (fun w132 hq133 => ?_)
              obtain ⟨hI134, hF135⟩ := hq133
              refine xg_t (xg_aload (va := (2, 43)) rfl rfl) ?_
              refine xg_t (xg_getf (va := (2, 44)) (hF135.get (by decide) (hF128.get (by decide) (hF112.get (by decide) (hF59.get (by decide) (hF52.get (by decide) (hF45.get (by decide) (hb29.get (by decide) h43_21))))))) rfl) ?_
              refine xg_t (xg_iload (va := (0, n24)) rfl rfl) ?_
              refine xg_t (xg_const) ?_
              refine xg_t (xg_iload (va := (0, n53)) rfl rfl) ?_
              refine xg_cVv mX5_put (vs := [(0, n24), (0, 0), (0, n53)]) (rest := []) (cn1 := 0) (sl1 := 0) rfl (rputI (lim := 16) (wd := 2) (B := 4294967295) (hF135.get (by decide) (hF128.get (by decide) (hF112.get (by decide) (hF59.get (by decide) (hF52.get (by decide) (hF45.get (by decide) hk28)))))) ((((((((h45_10.fr hF16 (by decide)).but hb29 (by decide)).fr hF45 (by decide)).fr hF52 (by decide)).fr hF59 (by decide)).fr hF112 (by decide)).fr hF128 (by decide)).fr hF135 (by decide)) (hb11) (by decide) (by omega) (by decide) (by decide) (by omega) (by omega) (by omega)) rfl (hF135.get (by decide) (hF128.get (by decide) (hF112.get (by decide) (hF59.get (by decide) (hF52.get (by decide) (hF45.get (by decide) hk28)))))) rfl rfl rfl rfl rfl rfl (fun w136 hq137 => ?_)
              obtain ⟨g138, hr139, hb140, hb141⟩ := hq137
              refine xg_t (xg_aload (va := (2, 43)) rfl rfl) ?_
              refine xg_t (xg_getf (va := (2, 44)) (hb141.get (by decide) (hF135.get (by decide) (hF128.get (by decide) (hF112.get (by decide) (hF59.get (by decide) (hF52.get (by decide) (hF45.get (by decide) (hb29.get (by decide) h43_21)))))))) rfl) ?_
              refine xg_t (xg_iload (va := (0, n24)) rfl rfl) ?_
              refine xg_t (xg_const) ?_
              refine xg_t (xg_iload (va := (0, f48_104)) rfl rfl) ?_
              refine xg_cVv mX5_put (vs := [(0, n24), (0, 1), (0, f48_104)]) (rest := []) (cn1 := 0) (sl1 := 0) rfl (rputI (lim := 16) (wd := 2) (B := 4294967295) (hb141.get (by decide) (hF135.get (by decide) (hF128.get (by decide) (hF112.get (by decide) (hF59.get (by decide) (hF52.get (by decide) (hF45.get (by decide) hk28))))))) hr139 (hb140) (by decide) (by omega) (by decide) (by decide) (by omega) (by omega) (by omega)) rfl (hb141.get (by decide) (hF135.get (by decide) (hF128.get (by decide) (hF112.get (by decide) (hF59.get (by decide) (hF52.get (by decide) (hF45.get (by decide) hk28))))))) rfl rfl rfl rfl rfl rfl (fun w142 hq143 => ?_)
              obtain ⟨g144, hr145, hb146, hb147⟩ := hq143
              refine xg_t (xg_const) ?_
              exact xg_e ⟨1, w142, ⟨rfl, rfl⟩, by first | decide | omega, xInv.up (S := [45]) hI134 ((xFr.of (S := [45]) hb141 (by decide)).tr (xFr.of (S := [45]) hb147 (by decide))) (List.forall_mem_cons.mpr ⟨xqu45 (show cpI 32 21 4294967295 (wget w142 45) from ⟨_, hr145, hb146⟩), fun _ h => absurd h List.not_mem_nil⟩), (((((((((hF16.up (by decide)).tr (xFr.of (S := [43, 44, 45, 46, 47, 48]) hb29 (by decide))).tr (hF45.up (by decide))).tr (hF52.up (by decide))).tr (hF59.up (by decide))).tr (hF112.up (by decide))).tr (hF128.up (by decide))).tr (hF135.up (by decide))).tr ((xFr.of (S := [43, 44, 45, 46, 47, 48]) hb141 (by decide)).tr (xFr.of (S := [43, 44, 45, 46, 47, 48]) hb147 (by decide))))⟩
          · refine xg_t (xg_icF (u := f48_98) (v := 2) rfl xnm0 xnm0 (xj_eqF hc108)) ?_
            refine xg_t (xg_const) ?_
            exact xg_e ⟨0, w56, ⟨rfl, rfl⟩, by first | decide | omega, hI58, (((((hF16.up (by decide)).tr (xFr.of (S := [43, 44, 45, 46, 47, 48]) hb29 (by decide))).tr (hF45.up (by decide))).tr (hF52.up (by decide))).tr (hF59.up (by decide)))⟩
    · refine xg_t (xg_ifF (u := n46) rfl xnm0 (xj_eqF hc48)) ?_
      refine xg_t (xg_aload (va := (2, 43)) rfl rfl) ?_
      refine xg_t (xg_iload (va := (0, n24)) rfl rfl) ?_
      refine xg_cVi mX6_readTests (vs := [(0, n24)]) (rest := []) (cn1 := 0) (sl1 := 0) rfl (rtTests (hI44) (by omega)) rfl (hF45.get (by decide) (hb29.get (by decide) h43_21)) rfl rfl rfl rfl rfl rfl (fun n152 w148 hq149 => ?_)
      obtain ⟨hn153, hI150, hF151⟩ := hq149
      by_cases hc154 : n152 = 0
      · refine xg_t (xg_ifF (u := n152) rfl xnm0 (xj_neF hc154)) ?_
        refine xg_t (xg_const) ?_
        exact xg_e ⟨0, w148, ⟨rfl, rfl⟩, by first | decide | omega, hI150, ((((hF16.up (by decide)).tr (xFr.of (S := [43, 44, 45, 46, 47, 48]) hb29 (by decide))).tr (hF45.up (by decide))).tr (hF151.up (by decide)))⟩
      · refine xg_t (xg_ifT (u := n152) rfl xnm0 (xj_neT hc154)) ?_
        refine xg_t (xg_blq rfl) ?_
        refine xg_t (xg_aload (va := (2, 43)) rfl rfl) ?_
        refine xoC43 (xqc43 hI150 : cp43 (wget w148 43)) (fun f43_155 f43_157 h43_159 hb156 hb158 => ?_)
        refine xg_cVi mX6_verbOfWord (vs := []) (rest := []) (cn1 := 0) (sl1 := 0) rfl (rtVerb (hI150)) rfl h43_159 rfl rfl rfl rfl rfl rfl (fun n164 w160 hq161 => ?_)
        obtain ⟨hn165, hI162, hF163⟩ := hq161
        refine xg_t (xg_istore (l1 := [(1, (0, n24)), (0, (2, 43))]) rfl rfl rfl) ?_
        refine xg_t (xg_const) ?_
        refine xg_t (xg_istore (l1 := [(2, (0, n164)), (1, (0, n24)), (0, (2, 43))]) rfl rfl rfl) ?_
        refine xg_t (xg_iload (va := (0, n164)) rfl rfl) ?_
        refine xg_t (xg_const) ?_
        by_cases hc166 : n164 = 4294967295
        · refine xg_t (xg_icF (u := n164) (v := 4294967295) rfl xnm0 xnm0 (xj_neF hc166)) ?_
          refine xg_t (xg_const) ?_
          exact xg_e ⟨0, w160, ⟨rfl, rfl⟩, by first | decide | omega, hI162, (((((hF16.up (by decide)).tr (xFr.of (S := [43, 44, 45, 46, 47, 48]) hb29 (by decide))).tr (hF45.up (by decide))).tr (hF151.up (by decide))).tr (hF163.up (by decide)))⟩
        · refine xg_t (xg_icT (u := n164) (v := 4294967295) rfl xnm0 xnm0 (xj_neT hc166)) ?_
          refine xg_t (xg_blq rfl) ?_
          refine xg_t (xg_aload (va := (2, 43)) rfl rfl) ?_
          refine xg_t (xg_getf (va := (2, 48)) (hF163.get (by decide) h43_159) rfl) ?_
          refine xoC48 (xqc48 hI162 : cp48 (wget w160 48)) (fun f48_167 f48_169 f48_171 f48_173 f48_175 h48_177 hb168 hb170 hb172 hb174 hb176 hb178 => ?_)
          refine xg_cVv mX8_advance (vs := []) (rest := []) (cn1 := 0) (sl1 := 0) rfl (tkAdvance48 (hI162)) rfl h48_177 rfl rfl rfl rfl rfl rfl (fun w179 hq180 => ?_)
          obtain ⟨hI181, hF182⟩ := hq180
          refine xg_t (xg_iload (va := (0, n164)) rfl rfl) ?_
          by_cases hc183 : n164 = 0
          · refine xg_t (xg_ifT (u := n164) rfl xnm0 (xj_eqT hc183)) ?_
            refine xg_t (xg_blq rfl) ?_
            refine xg_t (xg_aload (va := (2, 43)) rfl rfl) ?_
            refine xg_t (xg_getf (va := (2, 48)) (hF182.get (by decide) (hF163.get (by decide) h43_159)) rfl) ?_
            refine xg_t (xg_bip) ?_
            refine xoC48 (xqc48 hI181 : cp48 (wget w179 48)) (fun f48_184 f48_186 f48_188 f48_190 f48_192 h48_194 hb185 hb187 hb189 hb191 hb193 hb195 => ?_)
            refine xg_cVi mX8_isSign (vs := [(0, 59)]) (rest := []) (cn1 := 0) (sl1 := 0) rfl (tkIsSign48 (hI181) (by omega)) rfl h48_194 rfl rfl rfl rfl rfl rfl (fun n200 w196 hq197 => ?_)
            obtain ⟨hn201, hI198, hF199⟩ := hq197
            by_cases hc202 : n200 = 0
            · refine xg_t (xg_ifF (u := n200) rfl xnm0 (xj_neF hc202)) ?_
              refine xg_t (xg_const) ?_
              exact xg_e ⟨0, w196, ⟨rfl, rfl⟩, by first | decide | omega, hI198, (((((((hF16.up (by decide)).tr (xFr.of (S := [43, 44, 45, 46, 47, 48]) hb29 (by decide))).tr (hF45.up (by decide))).tr (hF151.up (by decide))).tr (hF163.up (by decide))).tr (hF182.up (by decide))).tr (hF199.up (by decide)))⟩
            · refine xg_t (xg_ifT (u := n200) rfl xnm0 (xj_neT hc202)) ?_
              refine xg_t (xg_blq rfl) ?_
              refine xg_t (xg_aload (va := (2, 43)) rfl rfl) ?_
              refine xg_t (xg_getf (va := (2, 48)) (hF199.get (by decide) (hF182.get (by decide) (hF163.get (by decide) h43_159))) rfl) ?_
              refine xg_cVv mX8_advance (vs := []) (rest := []) (cn1 := 0) (sl1 := 0) rfl (tkAdvance48 (hI198)) rfl (hF199.get (by decide) h48_194) rfl rfl rfl rfl rfl rfl (fun w203 hq204 => ?_)
              obtain ⟨hI205, hF206⟩ := hq204
              refine xg_t (xg_aload (va := (2, 43)) rfl rfl) ?_
              refine xg_t (xg_getf (va := (2, 44)) (hF206.get (by decide) (hF199.get (by decide) (hF182.get (by decide) (hF163.get (by decide) h43_159)))) rfl) ?_
              refine xg_t (xg_iload (va := (0, n24)) rfl rfl) ?_
              refine xg_t (xg_const) ?_
              refine xg_t (xg_iload (va := (0, n164)) rfl rfl) ?_
              refine xg_cVv mX5_put (vs := [(0, n24), (0, 0), (0, n164)]) (rest := []) (cn1 := 0) (sl1 := 0) rfl (rputI (lim := 16) (wd := 2) (B := 4294967295) (hF206.get (by decide) (hF199.get (by decide) (hF182.get (by decide) (hF163.get (by decide) (hF151.get (by decide) (hF45.get (by decide) hk28)))))) ((((((((h45_10.fr hF16 (by decide)).but hb29 (by decide)).fr hF45 (by decide)).fr hF151 (by decide)).fr hF163 (by decide)).fr hF182 (by decide)).fr hF199 (by decide)).fr hF206 (by decide)) (hb11) (by decide) (by omega) (by decide) (by decide) (by omega) (by omega) (by omega)) rfl (hF206.get (by decide) (hF199.get (by decide) (hF182.get (by decide) (hF163.get (by decide) (hF151.get (by decide) (hF45.get (by decide) hk28)))))) rfl rfl rfl rfl rfl rfl (fun w207 hq208 => ?_)
              obtain ⟨g209, hr210, hb211, hb212⟩ := hq208
              refine xg_t (xg_aload (va := (2, 43)) rfl rfl) ?_
              refine xg_t (xg_getf (va := (2, 44)) (hb212.get (by decide) (hF206.get (by decide) (hF199.get (by decide) (hF182.get (by decide) (hF163.get (by decide) h43_159))))) rfl) ?_
              refine xg_t (xg_iload (va := (0, n24)) rfl rfl) ?_
              refine xg_t (xg_const) ?_
              refine xg_t (xg_iload (va := (0, 0)) rfl rfl) ?_
              refine xg_cVv mX5_put (vs := [(0, n24), (0, 1), (0, 0)]) (rest := []) (cn1 := 0) (sl1 := 0) rfl (rputI (lim := 16) (wd := 2) (B := 4294967295) (hb212.get (by decide) (hF206.get (by decide) (hF199.get (by decide) (hF182.get (by decide) (hF163.get (by decide) (hF151.get (by decide) (hF45.get (by decide) hk28))))))) hr210 (hb211) (by decide) (by omega) (by decide) (by decide) (by omega) (by omega) (by omega)) rfl (hb212.get (by decide) (hF206.get (by decide) (hF199.get (by decide) (hF182.get (by decide) (hF163.get (by decide) (hF151.get (by decide) (hF45.get (by decide) hk28))))))) rfl rfl rfl rfl rfl rfl (fun w213 hq214 => ?_)
              obtain ⟨g215, hr216, hb217, hb218⟩ := hq214
              refine xg_t (xg_const) ?_
              exact xg_e ⟨1, w213, ⟨rfl, rfl⟩, by first | decide | omega, xInv.up (S := [45]) hI205 ((xFr.of (S := [45]) hb212 (by decide)).tr (xFr.of (S := [45]) hb218 (by decide))) (List.forall_mem_cons.mpr ⟨xqu45 (show cpI 32 21 4294967295 (wget w213 45) from ⟨_, hr216, hb217⟩), fun _ h => absurd h List.not_mem_nil⟩), (((((((((hF16.up (by decide)).tr (xFr.of (S := [43, 44, 45, 46, 47, 48]) hb29 (by decide))).tr (hF45.up (by decide))).tr (hF151.up (by decide))).tr (hF163.up (by decide))).tr (hF182.up (by decide))).tr (hF199.up (by decide))).tr (hF206.up (by decide))).tr ((xFr.of (S := [43, 44, 45, 46, 47, 48]) hb212 (by decide)).tr (xFr.of (S := [43, 44, 45, 46, 47, 48]) hb218 (by decide))))⟩
          · refine xg_t (xg_ifF (u := n164) rfl xnm0 (xj_eqF hc183)) ?_
            refine xg_t (xg_aload (va := (2, 43)) rfl rfl) ?_
            refine xg_t (xg_getf (va := (2, 48)) (hF182.get (by decide) (hF163.get (by decide) h43_159)) rfl) ?_
            refine xoC48 (xqc48 hI181 : cp48 (wget w179 48)) (fun f48_219 f48_221 f48_223 f48_225 f48_227 h48_229 hb220 hb222 hb224 hb226 hb228 hb230 => ?_)
            refine xg_t (xg_getf (va := (0, f48_221)) h48_229 rfl) ?_
            refine xg_t (xg_const) ?_
            by_cases hc231 : f48_221 = 2
            · refine xg_t (xg_icT (u := f48_221) (v := 2) rfl xnm0 xnm0 (xj_eqT hc231)) ?_
              refine xg_t (xg_blq rfl) ?_
              refine xg_t (xg_aload (va := (2, 43)) rfl rfl) ?_
              refine xg_t (xg_getf (va := (2, 48)) (hF182.get (by decide) (hF163.get (by decide) h43_159)) rfl) ?_
              refine xg_t (xg_getf (va := (0, f48_227)) h48_229 rfl) ?_
              refine xg_t (xg_istore (l1 := [(2, (0, n164)), (1, (0, n24)), (0, (2, 43))]) rfl rfl rfl) ?_
              refine xg_t (xg_aload (va := (2, 43)) rfl rfl) ?_
              refine xg_t (xg_getf (va := (2, 48)) (hF182.get (by decide) (hF163.get (by decide) h43_159)) rfl) ?_
              refine xg_cVv mX8_advance (vs := []) (rest := []) (cn1 := 0) (sl1 := 0) rfl (tkAdvance48 (hI181)) rfl h48_229 rfl rfl rfl rfl rfl rfl (fun w232 hq233 => ?_)
              obtain ⟨hI234, hF235⟩ := hq233
              refine xg_t (xg_blq rfl) ?_
              refine xg_t (xg_aload (va := (2, 43)) rfl rfl) ?_
              refine xg_t (xg_getf (va := (2, 48)) (hF235.get (by decide) (hF182.get (by decide) (hF163.get (by decide) h43_159))) rfl) ?_
              refine xg_t (xg_bip) ?_
              refine xoC48 (xqc48 hI234 : cp48 (wget w232 48)) (fun f48_236 f48_238 f48_240 f48_242 f48_244 h48_246 hb237 hb239 hb241 hb243 hb245 hb247 => ?_)
              refine xg_cVi mX8_isSign (vs := [(0, 59)]) (rest := []) (cn1 := 0) (sl1 := 0) rfl (tkIsSign48 (hI234) (by omega)) rfl h48_246 rfl rfl rfl rfl rfl rfl (fun n252 w248 hq249 => ?_)
              obtain ⟨hn253, hI250, hF251⟩ := hq249
              by_cases hc254 : n252 = 0
              · refine xg_t (xg_ifF (u := n252) rfl xnm0 (xj_neF hc254)) ?_
                refine xg_t (xg_const) ?_
                exact xg_e ⟨0, w248, ⟨rfl, rfl⟩, by first | decide | omega, hI250, ((((((((hF16.up (by decide)).tr (xFr.of (S := [43, 44, 45, 46, 47, 48]) hb29 (by decide))).tr (hF45.up (by decide))).tr (hF151.up (by decide))).tr (hF163.up (by decide))).tr (hF182.up (by decide))).tr (hF235.up (by decide))).tr (hF251.up (by decide)))⟩
              · refine xg_t (xg_ifT (u := n252) rfl xnm0 (xj_neT hc254)) ?_
                refine xg_t (xg_blq rfl) ?_
                refine xg_t (xg_aload (va := (2, 43)) rfl rfl) ?_
                refine xg_t (xg_getf (va := (2, 48)) (hF251.get (by decide) (hF235.get (by decide) (hF182.get (by decide) (hF163.get (by decide) h43_159)))) rfl) ?_
                refine xg_cVv mX8_advance (vs := []) (rest := []) (cn1 := 0) (sl1 := 0) rfl (tkAdvance48 (hI250)) rfl (hF251.get (by decide) h48_246) rfl rfl rfl rfl rfl rfl (fun w255 hq256 => ?_)
                obtain ⟨hI257, hF258⟩ := hq256
                refine xg_t (xg_aload (va := (2, 43)) rfl rfl) ?_
                refine xg_t (xg_getf (va := (2, 44)) (hF258.get (by decide) (hF251.get (by decide) (hF235.get (by decide) (hF182.get (by decide) (hF163.get (by decide) h43_159))))) rfl) ?_
                refine xg_t (xg_iload (va := (0, n24)) rfl rfl) ?_
                refine xg_t (xg_const) ?_
                refine xg_t (xg_iload (va := (0, n164)) rfl rfl) ?_
                refine xg_cVv mX5_put (vs := [(0, n24), (0, 0), (0, n164)]) (rest := []) (cn1 := 0) (sl1 := 0) rfl (rputI (lim := 16) (wd := 2) (B := 4294967295) (hF258.get (by decide) (hF251.get (by decide) (hF235.get (by decide) (hF182.get (by decide) (hF163.get (by decide) (hF151.get (by decide) (hF45.get (by decide) hk28))))))) (((((((((h45_10.fr hF16 (by decide)).but hb29 (by decide)).fr hF45 (by decide)).fr hF151 (by decide)).fr hF163 (by decide)).fr hF182 (by decide)).fr hF235 (by decide)).fr hF251 (by decide)).fr hF258 (by decide)) (hb11) (by decide) (by omega) (by decide) (by decide) (by omega) (by omega) (by omega)) rfl (hF258.get (by decide) (hF251.get (by decide) (hF235.get (by decide) (hF182.get (by decide) (hF163.get (by decide) (hF151.get (by decide) (hF45.get (by decide) hk28))))))) rfl rfl rfl rfl rfl rfl (fun w259 hq260 => ?_)
                obtain ⟨g261, hr262, hb263, hb264⟩ := hq260
                refine xg_t (xg_aload (va := (2, 43)) rfl rfl) ?_
                refine xg_t (xg_getf (va := (2, 44)) (hb264.get (by decide) (hF258.get (by decide) (hF251.get (by decide) (hF235.get (by decide) (hF182.get (by decide) (hF163.get (by decide) h43_159)))))) rfl) ?_
                refine xg_t (xg_iload (va := (0, n24)) rfl rfl) ?_
                refine xg_t (xg_const) ?_
                refine xg_t (xg_iload (va := (0, f48_227)) rfl rfl) ?_
                refine xg_cVv mX5_put (vs := [(0, n24), (0, 1), (0, f48_227)]) (rest := []) (cn1 := 0) (sl1 := 0) rfl (rputI (lim := 16) (wd := 2) (B := 4294967295) (hb264.get (by decide) (hF258.get (by decide) (hF251.get (by decide) (hF235.get (by decide) (hF182.get (by decide) (hF163.get (by decide) (hF151.get (by decide) (hF45.get (by decide) hk28)))))))) hr262 (hb263) (by decide) (by omega) (by decide) (by decide) (by omega) (by omega) (by omega)) rfl (hb264.get (by decide) (hF258.get (by decide) (hF251.get (by decide) (hF235.get (by decide) (hF182.get (by decide) (hF163.get (by decide) (hF151.get (by decide) (hF45.get (by decide) hk28)))))))) rfl rfl rfl rfl rfl rfl (fun w265 hq266 => ?_)
                obtain ⟨g267, hr268, hb269, hb270⟩ := hq266
                refine xg_t (xg_const) ?_
                exact xg_e ⟨1, w265, ⟨rfl, rfl⟩, by first | decide | omega, xInv.up (S := [45]) hI257 ((xFr.of (S := [45]) hb264 (by decide)).tr (xFr.of (S := [45]) hb270 (by decide))) (List.forall_mem_cons.mpr ⟨xqu45 (show cpI 32 21 4294967295 (wget w265 45) from ⟨_, hr268, hb269⟩), fun _ h => absurd h List.not_mem_nil⟩), ((((((((((hF16.up (by decide)).tr (xFr.of (S := [43, 44, 45, 46, 47, 48]) hb29 (by decide))).tr (hF45.up (by decide))).tr (hF151.up (by decide))).tr (hF163.up (by decide))).tr (hF182.up (by decide))).tr (hF235.up (by decide))).tr (hF251.up (by decide))).tr (hF258.up (by decide))).tr ((xFr.of (S := [43, 44, 45, 46, 47, 48]) hb264 (by decide)).tr (xFr.of (S := [43, 44, 45, 46, 47, 48]) hb270 (by decide))))⟩
            · refine xg_t (xg_icF (u := f48_221) (v := 2) rfl xnm0 xnm0 (xj_eqF hc231)) ?_
              refine xg_t (xg_const) ?_
              exact xg_e ⟨0, w179, ⟨rfl, rfl⟩, by first | decide | omega, hI181, ((((((hF16.up (by decide)).tr (xFr.of (S := [43, 44, 45, 46, 47, 48]) hb29 (by decide))).tr (hF45.up (by decide))).tr (hF151.up (by decide))).tr (hF163.up (by decide))).tr (hF182.up (by decide)))⟩
  · refine xg_t (xg_ifT (u := (if 16 ≤ f44_6 then 1 else 0)) rfl xnm0 (xj_eqT (xite0 hc12))) ?_
    refine xg_t (xg_blq rfl) ?_
    refine xg_t (xg_aload (va := (2, 43)) rfl rfl) ?_
    refine xg_t (xg_getf (va := (2, 44)) h43_5 rfl) ?_
    refine xg_cVi mX5_grow (vs := []) (rest := []) (cn1 := 0) (sl1 := 0) rfl (rgrowI h44_8 (by decide) (by omega)) rfl h44_8 rfl rfl rfl rfl rfl rfl (fun n273 w271 hq272 => ?_)
    obtain ⟨hn274, s275, hs276, hk277, hb278⟩ := hq272
    refine xg_t (xg_istore (l1 := [(0, (2, 43))]) rfl rfl rfl) ?_
    refine xg_t (xg_aload (va := (2, 43)) rfl rfl) ?_
    refine xg_t (xg_getf (va := (2, 48)) (hb278.get (by decide) h43_5) rfl) ?_
    refine xg_t (xg_ldcS) ?_
    refine xoC48 (xqc48 hI : cp48 (wget w 48)) (fun f48_279 f48_281 f48_283 f48_285 f48_287 h48_289 hb280 hb282 hb284 hb286 hb288 hb290 => ?_)
    refine xg_cVi mX8_isWord (vs := [(8, 120)]) (rest := []) (cn1 := 0) (sl1 := 0) rfl (tkIsWord48 (xInv.up (S := [44]) hI (xFr.of (S := [44]) hb278 (by decide)) (List.forall_mem_cons.mpr ⟨xqu44 (show cp44 (wget w271 44) from ⟨s275, hk277, by omega⟩), fun _ h => absurd h List.not_mem_nil⟩)) (i := 20) rfl) rfl (hb278.get (by decide) h48_289) rfl rfl rfl rfl rfl rfl (fun n295 w291 hq292 => ?_)
    obtain ⟨hn296, hI293, hF294⟩ := hq292
    by_cases hc297 : n295 = 0
    · refine xg_t (xg_ifT (u := n295) rfl xnm0 (xj_eqT hc297)) ?_
      refine xg_t (xg_blq rfl) ?_
      refine xg_t (xg_aload (va := (2, 43)) rfl rfl) ?_
      refine xg_cVi mX6_verbOfWord (vs := []) (rest := []) (cn1 := 0) (sl1 := 0) rfl (rtVerb (hI293)) rfl (hF294.get (by decide) (hb278.get (by decide) h43_5)) rfl rfl rfl rfl rfl rfl (fun n302 w298 hq299 => ?_)
      obtain ⟨hn303, hI300, hF301⟩ := hq299
      refine xg_t (xg_istore (l1 := [(1, (0, n273)), (0, (2, 43))]) rfl rfl rfl) ?_
      refine xg_t (xg_const) ?_
      refine xg_t (xg_istore (l1 := [(2, (0, n302)), (1, (0, n273)), (0, (2, 43))]) rfl rfl rfl) ?_
      refine xg_t (xg_iload (va := (0, n302)) rfl rfl) ?_
      refine xg_t (xg_const) ?_
      by_cases hc304 : n302 = 4294967295
      · refine xg_t (xg_icF (u := n302) (v := 4294967295) rfl xnm0 xnm0 (xj_neF hc304)) ?_
        refine xg_t (xg_const) ?_
        exact xg_e ⟨0, w298, ⟨rfl, rfl⟩, by first | decide | omega, hI300, (((xFr.of (S := [43, 44, 45, 46, 47, 48]) hb278 (by decide)).tr (hF294.up (by decide))).tr (hF301.up (by decide)))⟩
      · refine xg_t (xg_icT (u := n302) (v := 4294967295) rfl xnm0 xnm0 (xj_neT hc304)) ?_
        refine xg_t (xg_blq rfl) ?_
        refine xg_t (xg_aload (va := (2, 43)) rfl rfl) ?_
        refine xg_t (xg_getf (va := (2, 48)) (hF301.get (by decide) (hF294.get (by decide) (hb278.get (by decide) h43_5))) rfl) ?_
        refine xg_cVv mX8_advance (vs := []) (rest := []) (cn1 := 0) (sl1 := 0) rfl (tkAdvance48 (hI300)) rfl (hF301.get (by decide) (hF294.get (by decide) (hb278.get (by decide) h48_289))) rfl rfl rfl rfl rfl rfl (fun w305 hq306 => ?_)
        obtain ⟨hI307, hF308⟩ := hq306
        refine xg_t (xg_iload (va := (0, n302)) rfl rfl) ?_
        by_cases hc309 : n302 = 0
        · refine xg_t (xg_ifT (u := n302) rfl xnm0 (xj_eqT hc309)) ?_
          refine xg_t (xg_blq rfl) ?_
          refine xg_t (xg_aload (va := (2, 43)) rfl rfl) ?_
          refine xg_t (xg_getf (va := (2, 48)) (hF308.get (by decide) (hF301.get (by decide) (hF294.get (by decide) (hb278.get (by decide) h43_5)))) rfl) ?_
          refine xg_t (xg_bip) ?_
          refine xoC48 (xqc48 hI307 : cp48 (wget w305 48)) (fun f48_310 f48_312 f48_314 f48_316 f48_318 h48_320 hb311 hb313 hb315 hb317 hb319 hb321 => ?_)
          refine xg_cVi mX8_isSign (vs := [(0, 59)]) (rest := []) (cn1 := 0) (sl1 := 0) rfl (tkIsSign48 (hI307) (by omega)) rfl h48_320 rfl rfl rfl rfl rfl rfl (fun n326 w322 hq323 => ?_)
          obtain ⟨hn327, hI324, hF325⟩ := hq323
          by_cases hc328 : n326 = 0
          · refine xg_t (xg_ifF (u := n326) rfl xnm0 (xj_neF hc328)) ?_
            refine xg_t (xg_const) ?_
            exact xg_e ⟨0, w322, ⟨rfl, rfl⟩, by first | decide | omega, hI324, (((((xFr.of (S := [43, 44, 45, 46, 47, 48]) hb278 (by decide)).tr (hF294.up (by decide))).tr (hF301.up (by decide))).tr (hF308.up (by decide))).tr (hF325.up (by decide)))⟩
          · refine xg_t (xg_ifT (u := n326) rfl xnm0 (xj_neT hc328)) ?_
            refine xg_t (xg_blq rfl) ?_
            refine xg_t (xg_aload (va := (2, 43)) rfl rfl) ?_
            refine xg_t (xg_getf (va := (2, 48)) (hF325.get (by decide) (hF308.get (by decide) (hF301.get (by decide) (hF294.get (by decide) (hb278.get (by decide) h43_5))))) rfl) ?_
            refine xg_cVv mX8_advance (vs := []) (rest := []) (cn1 := 0) (sl1 := 0) rfl (tkAdvance48 (hI324)) rfl (hF325.get (by decide) h48_320) rfl rfl rfl rfl rfl rfl (fun w329 hq330 => ?_)
            obtain ⟨hI331, hF332⟩ := hq330
            refine xg_t (xg_aload (va := (2, 43)) rfl rfl) ?_
            refine xg_t (xg_getf (va := (2, 44)) (hF332.get (by decide) (hF325.get (by decide) (hF308.get (by decide) (hF301.get (by decide) (hF294.get (by decide) (hb278.get (by decide) h43_5)))))) rfl) ?_
            refine xg_t (xg_iload (va := (0, n273)) rfl rfl) ?_
            refine xg_t (xg_const) ?_
            refine xg_t (xg_iload (va := (0, n302)) rfl rfl) ?_
            refine xg_cVv mX5_put (vs := [(0, n273), (0, 0), (0, n302)]) (rest := []) (cn1 := 0) (sl1 := 0) rfl (rputI (lim := 16) (wd := 2) (B := 4294967295) (hF332.get (by decide) (hF325.get (by decide) (hF308.get (by decide) (hF301.get (by decide) (hF294.get (by decide) hk277))))) ((((((h45_10.but hb278 (by decide)).fr hF294 (by decide)).fr hF301 (by decide)).fr hF308 (by decide)).fr hF325 (by decide)).fr hF332 (by decide)) (hb11) (by decide) (by omega) (by decide) (by decide) (by omega) (by omega) (by omega)) rfl (hF332.get (by decide) (hF325.get (by decide) (hF308.get (by decide) (hF301.get (by decide) (hF294.get (by decide) hk277))))) rfl rfl rfl rfl rfl rfl (fun w333 hq334 => ?_)
            obtain ⟨g335, hr336, hb337, hb338⟩ := hq334
            refine xg_t (xg_aload (va := (2, 43)) rfl rfl) ?_
            refine xg_t (xg_getf (va := (2, 44)) (hb338.get (by decide) (hF332.get (by decide) (hF325.get (by decide) (hF308.get (by decide) (hF301.get (by decide) (hF294.get (by decide) (hb278.get (by decide) h43_5))))))) rfl) ?_
            refine xg_t (xg_iload (va := (0, n273)) rfl rfl) ?_
            refine xg_t (xg_const) ?_
            refine xg_t (xg_iload (va := (0, 0)) rfl rfl) ?_
            refine xg_cVv mX5_put (vs := [(0, n273), (0, 1), (0, 0)]) (rest := []) (cn1 := 0) (sl1 := 0) rfl (rputI (lim := 16) (wd := 2) (B := 4294967295) (hb338.get (by decide) (hF332.get (by decide) (hF325.get (by decide) (hF308.get (by decide) (hF301.get (by decide) (hF294.get (by decide) hk277)))))) hr336 (hb337) (by decide) (by omega) (by decide) (by decide) (by omega) (by omega) (by omega)) rfl (hb338.get (by decide) (hF332.get (by decide) (hF325.get (by decide) (hF308.get (by decide) (hF301.get (by decide) (hF294.get (by decide) hk277)))))) rfl rfl rfl rfl rfl rfl (fun w339 hq340 => ?_)
            obtain ⟨g341, hr342, hb343, hb344⟩ := hq340
            refine xg_t (xg_const) ?_
            exact xg_e ⟨1, w339, ⟨rfl, rfl⟩, by first | decide | omega, xInv.up (S := [45]) hI331 ((xFr.of (S := [45]) hb338 (by decide)).tr (xFr.of (S := [45]) hb344 (by decide))) (List.forall_mem_cons.mpr ⟨xqu45 (show cpI 32 21 4294967295 (wget w339 45) from ⟨_, hr342, hb343⟩), fun _ h => absurd h List.not_mem_nil⟩), (((((((xFr.of (S := [43, 44, 45, 46, 47, 48]) hb278 (by decide)).tr (hF294.up (by decide))).tr (hF301.up (by decide))).tr (hF308.up (by decide))).tr (hF325.up (by decide))).tr (hF332.up (by decide))).tr ((xFr.of (S := [43, 44, 45, 46, 47, 48]) hb338 (by decide)).tr (xFr.of (S := [43, 44, 45, 46, 47, 48]) hb344 (by decide))))⟩
        · refine xg_t (xg_ifF (u := n302) rfl xnm0 (xj_eqF hc309)) ?_
          refine xg_t (xg_aload (va := (2, 43)) rfl rfl) ?_
          refine xg_t (xg_getf (va := (2, 48)) (hF308.get (by decide) (hF301.get (by decide) (hF294.get (by decide) (hb278.get (by decide) h43_5)))) rfl) ?_
          refine xoC48 (xqc48 hI307 : cp48 (wget w305 48)) (fun f48_345 f48_347 f48_349 f48_351 f48_353 h48_355 hb346 hb348 hb350 hb352 hb354 hb356 => ?_)
          refine xg_t (xg_getf (va := (0, f48_347)) h48_355 rfl) ?_
          refine xg_t (xg_const) ?_
          by_cases hc357 : f48_347 = 2
          · refine xg_t (xg_icT (u := f48_347) (v := 2) rfl xnm0 xnm0 (xj_eqT hc357)) ?_
            refine xg_t (xg_blq rfl) ?_
            refine xg_t (xg_aload (va := (2, 43)) rfl rfl) ?_
            refine xg_t (xg_getf (va := (2, 48)) (hF308.get (by decide) (hF301.get (by decide) (hF294.get (by decide) (hb278.get (by decide) h43_5)))) rfl) ?_
            refine xg_t (xg_getf (va := (0, f48_353)) h48_355 rfl) ?_
            refine xg_t (xg_istore (l1 := [(2, (0, n302)), (1, (0, n273)), (0, (2, 43))]) rfl rfl rfl) ?_
            refine xg_t (xg_aload (va := (2, 43)) rfl rfl) ?_
            refine xg_t (xg_getf (va := (2, 48)) (hF308.get (by decide) (hF301.get (by decide) (hF294.get (by decide) (hb278.get (by decide) h43_5)))) rfl) ?_
            refine xg_cVv mX8_advance (vs := []) (rest := []) (cn1 := 0) (sl1 := 0) rfl (tkAdvance48 (hI307)) rfl h48_355 rfl rfl rfl rfl rfl rfl (fun w358 hq359 => ?_)
            obtain ⟨hI360, hF361⟩ := hq359
            refine xg_t (xg_blq rfl) ?_
            refine xg_t (xg_aload (va := (2, 43)) rfl rfl) ?_
            refine xg_t (xg_getf (va := (2, 48)) (hF361.get (by decide) (hF308.get (by decide) (hF301.get (by decide) (hF294.get (by decide) (hb278.get (by decide) h43_5))))) rfl) ?_
            refine xg_t (xg_bip) ?_
            refine xoC48 (xqc48 hI360 : cp48 (wget w358 48)) (fun f48_362 f48_364 f48_366 f48_368 f48_370 h48_372 hb363 hb365 hb367 hb369 hb371 hb373 => ?_)
            refine xg_cVi mX8_isSign (vs := [(0, 59)]) (rest := []) (cn1 := 0) (sl1 := 0) rfl (tkIsSign48 (hI360) (by omega)) rfl h48_372 rfl rfl rfl rfl rfl rfl (fun n378 w374 hq375 => ?_)
            obtain ⟨hn379, hI376, hF377⟩ := hq375
            by_cases hc380 : n378 = 0
            · refine xg_t (xg_ifF (u := n378) rfl xnm0 (xj_neF hc380)) ?_
              refine xg_t (xg_const) ?_
              exact xg_e ⟨0, w374, ⟨rfl, rfl⟩, by first | decide | omega, hI376, ((((((xFr.of (S := [43, 44, 45, 46, 47, 48]) hb278 (by decide)).tr (hF294.up (by decide))).tr (hF301.up (by decide))).tr (hF308.up (by decide))).tr (hF361.up (by decide))).tr (hF377.up (by decide)))⟩
            · refine xg_t (xg_ifT (u := n378) rfl xnm0 (xj_neT hc380)) ?_
              refine xg_t (xg_blq rfl) ?_
              refine xg_t (xg_aload (va := (2, 43)) rfl rfl) ?_
              refine xg_t (xg_getf (va := (2, 48)) (hF377.get (by decide) (hF361.get (by decide) (hF308.get (by decide) (hF301.get (by decide) (hF294.get (by decide) (hb278.get (by decide) h43_5)))))) rfl) ?_
              refine xg_cVv mX8_advance (vs := []) (rest := []) (cn1 := 0) (sl1 := 0) rfl (tkAdvance48 (hI376)) rfl (hF377.get (by decide) h48_372) rfl rfl rfl rfl rfl rfl (fun w381 hq382 => ?_)
              obtain ⟨hI383, hF384⟩ := hq382
              refine xg_t (xg_aload (va := (2, 43)) rfl rfl) ?_
              refine xg_t (xg_getf (va := (2, 44)) (hF384.get (by decide) (hF377.get (by decide) (hF361.get (by decide) (hF308.get (by decide) (hF301.get (by decide) (hF294.get (by decide) (hb278.get (by decide) h43_5))))))) rfl) ?_
              refine xg_t (xg_iload (va := (0, n273)) rfl rfl) ?_
              refine xg_t (xg_const) ?_
              refine xg_t (xg_iload (va := (0, n302)) rfl rfl) ?_
              refine xg_cVv mX5_put (vs := [(0, n273), (0, 0), (0, n302)]) (rest := []) (cn1 := 0) (sl1 := 0) rfl (rputI (lim := 16) (wd := 2) (B := 4294967295) (hF384.get (by decide) (hF377.get (by decide) (hF361.get (by decide) (hF308.get (by decide) (hF301.get (by decide) (hF294.get (by decide) hk277)))))) (((((((h45_10.but hb278 (by decide)).fr hF294 (by decide)).fr hF301 (by decide)).fr hF308 (by decide)).fr hF361 (by decide)).fr hF377 (by decide)).fr hF384 (by decide)) (hb11) (by decide) (by omega) (by decide) (by decide) (by omega) (by omega) (by omega)) rfl (hF384.get (by decide) (hF377.get (by decide) (hF361.get (by decide) (hF308.get (by decide) (hF301.get (by decide) (hF294.get (by decide) hk277)))))) rfl rfl rfl rfl rfl rfl (fun w385 hq386 => ?_)
              obtain ⟨g387, hr388, hb389, hb390⟩ := hq386
              refine xg_t (xg_aload (va := (2, 43)) rfl rfl) ?_
              refine xg_t (xg_getf (va := (2, 44)) (hb390.get (by decide) (hF384.get (by decide) (hF377.get (by decide) (hF361.get (by decide) (hF308.get (by decide) (hF301.get (by decide) (hF294.get (by decide) (hb278.get (by decide) h43_5)))))))) rfl) ?_
              refine xg_t (xg_iload (va := (0, n273)) rfl rfl) ?_
              refine xg_t (xg_const) ?_
              refine xg_t (xg_iload (va := (0, f48_353)) rfl rfl) ?_
              refine xg_cVv mX5_put (vs := [(0, n273), (0, 1), (0, f48_353)]) (rest := []) (cn1 := 0) (sl1 := 0) rfl (rputI (lim := 16) (wd := 2) (B := 4294967295) (hb390.get (by decide) (hF384.get (by decide) (hF377.get (by decide) (hF361.get (by decide) (hF308.get (by decide) (hF301.get (by decide) (hF294.get (by decide) hk277))))))) hr388 (hb389) (by decide) (by omega) (by decide) (by decide) (by omega) (by omega) (by omega)) rfl (hb390.get (by decide) (hF384.get (by decide) (hF377.get (by decide) (hF361.get (by decide) (hF308.get (by decide) (hF301.get (by decide) (hF294.get (by decide) hk277))))))) rfl rfl rfl rfl rfl rfl (fun w391 hq392 => ?_)
              obtain ⟨g393, hr394, hb395, hb396⟩ := hq392
              refine xg_t (xg_const) ?_
              exact xg_e ⟨1, w391, ⟨rfl, rfl⟩, by first | decide | omega, xInv.up (S := [45]) hI383 ((xFr.of (S := [45]) hb390 (by decide)).tr (xFr.of (S := [45]) hb396 (by decide))) (List.forall_mem_cons.mpr ⟨xqu45 (show cpI 32 21 4294967295 (wget w391 45) from ⟨_, hr394, hb395⟩), fun _ h => absurd h List.not_mem_nil⟩), ((((((((xFr.of (S := [43, 44, 45, 46, 47, 48]) hb278 (by decide)).tr (hF294.up (by decide))).tr (hF301.up (by decide))).tr (hF308.up (by decide))).tr (hF361.up (by decide))).tr (hF377.up (by decide))).tr (hF384.up (by decide))).tr ((xFr.of (S := [43, 44, 45, 46, 47, 48]) hb390 (by decide)).tr (xFr.of (S := [43, 44, 45, 46, 47, 48]) hb396 (by decide))))⟩
          · refine xg_t (xg_icF (u := f48_347) (v := 2) rfl xnm0 xnm0 (xj_eqF hc357)) ?_
            refine xg_t (xg_const) ?_
            exact xg_e ⟨0, w305, ⟨rfl, rfl⟩, by first | decide | omega, hI307, ((((xFr.of (S := [43, 44, 45, 46, 47, 48]) hb278 (by decide)).tr (hF294.up (by decide))).tr (hF301.up (by decide))).tr (hF308.up (by decide)))⟩
    · refine xg_t (xg_ifF (u := n295) rfl xnm0 (xj_eqF hc297)) ?_
      refine xg_t (xg_aload (va := (2, 43)) rfl rfl) ?_
      refine xg_t (xg_iload (va := (0, n273)) rfl rfl) ?_
      refine xg_cVi mX6_readTests (vs := [(0, n273)]) (rest := []) (cn1 := 0) (sl1 := 0) rfl (rtTests (hI293) (by omega)) rfl (hF294.get (by decide) (hb278.get (by decide) h43_5)) rfl rfl rfl rfl rfl rfl (fun n401 w397 hq398 => ?_)
      obtain ⟨hn402, hI399, hF400⟩ := hq398
      by_cases hc403 : n401 = 0
      · refine xg_t (xg_ifF (u := n401) rfl xnm0 (xj_neF hc403)) ?_
        refine xg_t (xg_const) ?_
        exact xg_e ⟨0, w397, ⟨rfl, rfl⟩, by first | decide | omega, hI399, (((xFr.of (S := [43, 44, 45, 46, 47, 48]) hb278 (by decide)).tr (hF294.up (by decide))).tr (hF400.up (by decide)))⟩
      · refine xg_t (xg_ifT (u := n401) rfl xnm0 (xj_neT hc403)) ?_
        refine xg_t (xg_blq rfl) ?_
        refine xg_t (xg_aload (va := (2, 43)) rfl rfl) ?_
        refine xoC43 (xqc43 hI399 : cp43 (wget w397 43)) (fun f43_404 f43_406 h43_408 hb405 hb407 => ?_)
        refine xg_cVi mX6_verbOfWord (vs := []) (rest := []) (cn1 := 0) (sl1 := 0) rfl (rtVerb (hI399)) rfl h43_408 rfl rfl rfl rfl rfl rfl (fun n413 w409 hq410 => ?_)
        obtain ⟨hn414, hI411, hF412⟩ := hq410
        refine xg_t (xg_istore (l1 := [(1, (0, n273)), (0, (2, 43))]) rfl rfl rfl) ?_
        refine xg_t (xg_const) ?_
        refine xg_t (xg_istore (l1 := [(2, (0, n413)), (1, (0, n273)), (0, (2, 43))]) rfl rfl rfl) ?_
        refine xg_t (xg_iload (va := (0, n413)) rfl rfl) ?_
        refine xg_t (xg_const) ?_
        by_cases hc415 : n413 = 4294967295
        · refine xg_t (xg_icF (u := n413) (v := 4294967295) rfl xnm0 xnm0 (xj_neF hc415)) ?_
          refine xg_t (xg_const) ?_
          exact xg_e ⟨0, w409, ⟨rfl, rfl⟩, by first | decide | omega, hI411, ((((xFr.of (S := [43, 44, 45, 46, 47, 48]) hb278 (by decide)).tr (hF294.up (by decide))).tr (hF400.up (by decide))).tr (hF412.up (by decide)))⟩
        · refine xg_t (xg_icT (u := n413) (v := 4294967295) rfl xnm0 xnm0 (xj_neT hc415)) ?_
          refine xg_t (xg_blq rfl) ?_
          refine xg_t (xg_aload (va := (2, 43)) rfl rfl) ?_
          refine xg_t (xg_getf (va := (2, 48)) (hF412.get (by decide) h43_408) rfl) ?_
          refine xoC48 (xqc48 hI411 : cp48 (wget w409 48)) (fun f48_416 f48_418 f48_420 f48_422 f48_424 h48_426 hb417 hb419 hb421 hb423 hb425 hb427 => ?_)
          refine xg_cVv mX8_advance (vs := []) (rest := []) (cn1 := 0) (sl1 := 0) rfl (tkAdvance48 (hI411)) rfl h48_426 rfl rfl rfl rfl rfl rfl (fun w428 hq429 => ?_)
          obtain ⟨hI430, hF431⟩ := hq429
          refine xg_t (xg_iload (va := (0, n413)) rfl rfl) ?_
          by_cases hc432 : n413 = 0
          · refine xg_t (xg_ifT (u := n413) rfl xnm0 (xj_eqT hc432)) ?_
            refine xg_t (xg_blq rfl) ?_
            refine xg_t (xg_aload (va := (2, 43)) rfl rfl) ?_
            refine xg_t (xg_getf (va := (2, 48)) (hF431.get (by decide) (hF412.get (by decide) h43_408)) rfl) ?_
            refine xg_t (xg_bip) ?_
            refine xoC48 (xqc48 hI430 : cp48 (wget w428 48)) (fun f48_433 f48_435 f48_437 f48_439 f48_441 h48_443 hb434 hb436 hb438 hb440 hb442 hb444 => ?_)
            refine xg_cVi mX8_isSign (vs := [(0, 59)]) (rest := []) (cn1 := 0) (sl1 := 0) rfl (tkIsSign48 (hI430) (by omega)) rfl h48_443 rfl rfl rfl rfl rfl rfl (fun n449 w445 hq446 => ?_)
            obtain ⟨hn450, hI447, hF448⟩ := hq446
            by_cases hc451 : n449 = 0
            · refine xg_t (xg_ifF (u := n449) rfl xnm0 (xj_neF hc451)) ?_
              refine xg_t (xg_const) ?_
              exact xg_e ⟨0, w445, ⟨rfl, rfl⟩, by first | decide | omega, hI447, ((((((xFr.of (S := [43, 44, 45, 46, 47, 48]) hb278 (by decide)).tr (hF294.up (by decide))).tr (hF400.up (by decide))).tr (hF412.up (by decide))).tr (hF431.up (by decide))).tr (hF448.up (by decide)))⟩
            · refine xg_t (xg_ifT (u := n449) rfl xnm0 (xj_neT hc451)) ?_
              refine xg_t (xg_blq rfl) ?_
              refine xg_t (xg_aload (va := (2, 43)) rfl rfl) ?_
              refine xg_t (xg_getf (va := (2, 48)) (hF448.get (by decide) (hF431.get (by decide) (hF412.get (by decide) h43_408))) rfl) ?_
              refine xg_cVv mX8_advance (vs := []) (rest := []) (cn1 := 0) (sl1 := 0) rfl (tkAdvance48 (hI447)) rfl (hF448.get (by decide) h48_443) rfl rfl rfl rfl rfl rfl (fun w452 hq453 => ?_)
              obtain ⟨hI454, hF455⟩ := hq453
              refine xg_t (xg_aload (va := (2, 43)) rfl rfl) ?_
              refine xg_t (xg_getf (va := (2, 44)) (hF455.get (by decide) (hF448.get (by decide) (hF431.get (by decide) (hF412.get (by decide) h43_408)))) rfl) ?_
              refine xg_t (xg_iload (va := (0, n273)) rfl rfl) ?_
              refine xg_t (xg_const) ?_
              refine xg_t (xg_iload (va := (0, n413)) rfl rfl) ?_
              refine xg_cVv mX5_put (vs := [(0, n273), (0, 0), (0, n413)]) (rest := []) (cn1 := 0) (sl1 := 0) rfl (rputI (lim := 16) (wd := 2) (B := 4294967295) (hF455.get (by decide) (hF448.get (by decide) (hF431.get (by decide) (hF412.get (by decide) (hF400.get (by decide) (hF294.get (by decide) hk277)))))) (((((((h45_10.but hb278 (by decide)).fr hF294 (by decide)).fr hF400 (by decide)).fr hF412 (by decide)).fr hF431 (by decide)).fr hF448 (by decide)).fr hF455 (by decide)) (hb11) (by decide) (by omega) (by decide) (by decide) (by omega) (by omega) (by omega)) rfl (hF455.get (by decide) (hF448.get (by decide) (hF431.get (by decide) (hF412.get (by decide) (hF400.get (by decide) (hF294.get (by decide) hk277)))))) rfl rfl rfl rfl rfl rfl (fun w456 hq457 => ?_)
              obtain ⟨g458, hr459, hb460, hb461⟩ := hq457
              refine xg_t (xg_aload (va := (2, 43)) rfl rfl) ?_
              refine xg_t (xg_getf (va := (2, 44)) (hb461.get (by decide) (hF455.get (by decide) (hF448.get (by decide) (hF431.get (by decide) (hF412.get (by decide) h43_408))))) rfl) ?_
              refine xg_t (xg_iload (va := (0, n273)) rfl rfl) ?_
              refine xg_t (xg_const) ?_
              refine xg_t (xg_iload (va := (0, 0)) rfl rfl) ?_
              refine xg_cVv mX5_put (vs := [(0, n273), (0, 1), (0, 0)]) (rest := []) (cn1 := 0) (sl1 := 0) rfl (rputI (lim := 16) (wd := 2) (B := 4294967295) (hb461.get (by decide) (hF455.get (by decide) (hF448.get (by decide) (hF431.get (by decide) (hF412.get (by decide) (hF400.get (by decide) (hF294.get (by decide) hk277))))))) hr459 (hb460) (by decide) (by omega) (by decide) (by decide) (by omega) (by omega) (by omega)) rfl (hb461.get (by decide) (hF455.get (by decide) (hF448.get (by decide) (hF431.get (by decide) (hF412.get (by decide) (hF400.get (by decide) (hF294.get (by decide) hk277))))))) rfl rfl rfl rfl rfl rfl (fun w462 hq463 => ?_)
              obtain ⟨g464, hr465, hb466, hb467⟩ := hq463
              refine xg_t (xg_const) ?_
              exact xg_e ⟨1, w462, ⟨rfl, rfl⟩, by first | decide | omega, xInv.up (S := [45]) hI454 ((xFr.of (S := [45]) hb461 (by decide)).tr (xFr.of (S := [45]) hb467 (by decide))) (List.forall_mem_cons.mpr ⟨xqu45 (show cpI 32 21 4294967295 (wget w462 45) from ⟨_, hr465, hb466⟩), fun _ h => absurd h List.not_mem_nil⟩), ((((((((xFr.of (S := [43, 44, 45, 46, 47, 48]) hb278 (by decide)).tr (hF294.up (by decide))).tr (hF400.up (by decide))).tr (hF412.up (by decide))).tr (hF431.up (by decide))).tr (hF448.up (by decide))).tr (hF455.up (by decide))).tr ((xFr.of (S := [43, 44, 45, 46, 47, 48]) hb461 (by decide)).tr (xFr.of (S := [43, 44, 45, 46, 47, 48]) hb467 (by decide))))⟩
          · refine xg_t (xg_ifF (u := n413) rfl xnm0 (xj_eqF hc432)) ?_
            refine xg_t (xg_aload (va := (2, 43)) rfl rfl) ?_
            refine xg_t (xg_getf (va := (2, 48)) (hF431.get (by decide) (hF412.get (by decide) h43_408)) rfl) ?_
            refine xoC48 (xqc48 hI430 : cp48 (wget w428 48)) (fun f48_468 f48_470 f48_472 f48_474 f48_476 h48_478 hb469 hb471 hb473 hb475 hb477 hb479 => ?_)
            refine xg_t (xg_getf (va := (0, f48_470)) h48_478 rfl) ?_
            refine xg_t (xg_const) ?_
            by_cases hc480 : f48_470 = 2
            · refine xg_t (xg_icT (u := f48_470) (v := 2) rfl xnm0 xnm0 (xj_eqT hc480)) ?_
              refine xg_t (xg_blq rfl) ?_
              refine xg_t (xg_aload (va := (2, 43)) rfl rfl) ?_
              refine xg_t (xg_getf (va := (2, 48)) (hF431.get (by decide) (hF412.get (by decide) h43_408)) rfl) ?_
              refine xg_t (xg_getf (va := (0, f48_476)) h48_478 rfl) ?_
              refine xg_t (xg_istore (l1 := [(2, (0, n413)), (1, (0, n273)), (0, (2, 43))]) rfl rfl rfl) ?_
              refine xg_t (xg_aload (va := (2, 43)) rfl rfl) ?_
              refine xg_t (xg_getf (va := (2, 48)) (hF431.get (by decide) (hF412.get (by decide) h43_408)) rfl) ?_
              refine xg_cVv mX8_advance (vs := []) (rest := []) (cn1 := 0) (sl1 := 0) rfl (tkAdvance48 (hI430)) rfl h48_478 rfl rfl rfl rfl rfl rfl (fun w481 hq482 => ?_)
              obtain ⟨hI483, hF484⟩ := hq482
              refine xg_t (xg_blq rfl) ?_
              refine xg_t (xg_aload (va := (2, 43)) rfl rfl) ?_
              refine xg_t (xg_getf (va := (2, 48)) (hF484.get (by decide) (hF431.get (by decide) (hF412.get (by decide) h43_408))) rfl) ?_
              refine xg_t (xg_bip) ?_
              refine xoC48 (xqc48 hI483 : cp48 (wget w481 48)) (fun f48_485 f48_487 f48_489 f48_491 f48_493 h48_495 hb486 hb488 hb490 hb492 hb494 hb496 => ?_)
              refine xg_cVi mX8_isSign (vs := [(0, 59)]) (rest := []) (cn1 := 0) (sl1 := 0) rfl (tkIsSign48 (hI483) (by omega)) rfl h48_495 rfl rfl rfl rfl rfl rfl (fun n501 w497 hq498 => ?_)
              obtain ⟨hn502, hI499, hF500⟩ := hq498
              by_cases hc503 : n501 = 0
              · refine xg_t (xg_ifF (u := n501) rfl xnm0 (xj_neF hc503)) ?_
                refine xg_t (xg_const) ?_
                exact xg_e ⟨0, w497, ⟨rfl, rfl⟩, by first | decide | omega, hI499, (((((((xFr.of (S := [43, 44, 45, 46, 47, 48]) hb278 (by decide)).tr (hF294.up (by decide))).tr (hF400.up (by decide))).tr (hF412.up (by decide))).tr (hF431.up (by decide))).tr (hF484.up (by decide))).tr (hF500.up (by decide)))⟩
              · refine xg_t (xg_ifT (u := n501) rfl xnm0 (xj_neT hc503)) ?_
                refine xg_t (xg_blq rfl) ?_
                refine xg_t (xg_aload (va := (2, 43)) rfl rfl) ?_
                refine xg_t (xg_getf (va := (2, 48)) (hF500.get (by decide) (hF484.get (by decide) (hF431.get (by decide) (hF412.get (by decide) h43_408)))) rfl) ?_
                refine xg_cVv mX8_advance (vs := []) (rest := []) (cn1 := 0) (sl1 := 0) rfl (tkAdvance48 (hI499)) rfl (hF500.get (by decide) h48_495) rfl rfl rfl rfl rfl rfl (fun w504 hq505 => ?_)
                obtain ⟨hI506, hF507⟩ := hq505
                refine xg_t (xg_aload (va := (2, 43)) rfl rfl) ?_
                refine xg_t (xg_getf (va := (2, 44)) (hF507.get (by decide) (hF500.get (by decide) (hF484.get (by decide) (hF431.get (by decide) (hF412.get (by decide) h43_408))))) rfl) ?_
                refine xg_t (xg_iload (va := (0, n273)) rfl rfl) ?_
                refine xg_t (xg_const) ?_
                refine xg_t (xg_iload (va := (0, n413)) rfl rfl) ?_
                refine xg_cVv mX5_put (vs := [(0, n273), (0, 0), (0, n413)]) (rest := []) (cn1 := 0) (sl1 := 0) rfl (rputI (lim := 16) (wd := 2) (B := 4294967295) (hF507.get (by decide) (hF500.get (by decide) (hF484.get (by decide) (hF431.get (by decide) (hF412.get (by decide) (hF400.get (by decide) (hF294.get (by decide) hk277))))))) ((((((((h45_10.but hb278 (by decide)).fr hF294 (by decide)).fr hF400 (by decide)).fr hF412 (by decide)).fr hF431 (by decide)).fr hF484 (by decide)).fr hF500 (by decide)).fr hF507 (by decide)) (hb11) (by decide) (by omega) (by decide) (by decide) (by omega) (by omega) (by omega)) rfl (hF507.get (by decide) (hF500.get (by decide) (hF484.get (by decide) (hF431.get (by decide) (hF412.get (by decide) (hF400.get (by decide) (hF294.get (by decide) hk277))))))) rfl rfl rfl rfl rfl rfl (fun w508 hq509 => ?_)
                obtain ⟨g510, hr511, hb512, hb513⟩ := hq509
                refine xg_t (xg_aload (va := (2, 43)) rfl rfl) ?_
                refine xg_t (xg_getf (va := (2, 44)) (hb513.get (by decide) (hF507.get (by decide) (hF500.get (by decide) (hF484.get (by decide) (hF431.get (by decide) (hF412.get (by decide) h43_408)))))) rfl) ?_
                refine xg_t (xg_iload (va := (0, n273)) rfl rfl) ?_
                refine xg_t (xg_const) ?_
                refine xg_t (xg_iload (va := (0, f48_476)) rfl rfl) ?_
                refine xg_cVv mX5_put (vs := [(0, n273), (0, 1), (0, f48_476)]) (rest := []) (cn1 := 0) (sl1 := 0) rfl (rputI (lim := 16) (wd := 2) (B := 4294967295) (hb513.get (by decide) (hF507.get (by decide) (hF500.get (by decide) (hF484.get (by decide) (hF431.get (by decide) (hF412.get (by decide) (hF400.get (by decide) (hF294.get (by decide) hk277)))))))) hr511 (hb512) (by decide) (by omega) (by decide) (by decide) (by omega) (by omega) (by omega)) rfl (hb513.get (by decide) (hF507.get (by decide) (hF500.get (by decide) (hF484.get (by decide) (hF431.get (by decide) (hF412.get (by decide) (hF400.get (by decide) (hF294.get (by decide) hk277)))))))) rfl rfl rfl rfl rfl rfl (fun w514 hq515 => ?_)
                obtain ⟨g516, hr517, hb518, hb519⟩ := hq515
                refine xg_t (xg_const) ?_
                exact xg_e ⟨1, w514, ⟨rfl, rfl⟩, by first | decide | omega, xInv.up (S := [45]) hI506 ((xFr.of (S := [45]) hb513 (by decide)).tr (xFr.of (S := [45]) hb519 (by decide))) (List.forall_mem_cons.mpr ⟨xqu45 (show cpI 32 21 4294967295 (wget w514 45) from ⟨_, hr517, hb518⟩), fun _ h => absurd h List.not_mem_nil⟩), (((((((((xFr.of (S := [43, 44, 45, 46, 47, 48]) hb278 (by decide)).tr (hF294.up (by decide))).tr (hF400.up (by decide))).tr (hF412.up (by decide))).tr (hF431.up (by decide))).tr (hF484.up (by decide))).tr (hF500.up (by decide))).tr (hF507.up (by decide))).tr ((xFr.of (S := [43, 44, 45, 46, 47, 48]) hb513 (by decide)).tr (xFr.of (S := [43, 44, 45, 46, 47, 48]) hb519 (by decide))))⟩
            · refine xg_t (xg_icF (u := f48_470) (v := 2) rfl xnm0 xnm0 (xj_eqF hc480)) ?_
              refine xg_t (xg_const) ?_
              exact xg_e ⟨0, w428, ⟨rfl, rfl⟩, by first | decide | omega, hI430, (((((xFr.of (S := [43, 44, 45, 46, 47, 48]) hb278 (by decide)).tr (hF294.up (by decide))).tr (hF400.up (by decide))).tr (hF412.up (by decide))).tr (hF431.up (by decide)))⟩
end XRT
end
