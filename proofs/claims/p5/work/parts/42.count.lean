/-! rowsOf, count -/
section XCO
variable {d : Nat} {w : List (List xE)} {bd : List (Nat × Nat)} {fc : List (Nat × Nat × Bool)} {rr : Nat × Nat}
theorem rowsOf3 {so : Nat} (hI : xInv w) (hs : so ≤ 4294967295) : ∃ v : xV, (v = (2, 4) ∨ v = (2, 6) ∨ v = (2, 8) ∨ v = (2, 10) ∨ v = (2, 12) ∨ v = (3, 0)) ∧ xPr d mX1_rowsOf [(2, 3), (0, so)] w bd fc rr [v] w := by
  suffices h : xTo d mX1_rowsOf (0, [], [(0, (2, 3)), (1, (0, so))], [], (w, bd, fc, 0, 0, rr)) (fun φ => ∃ v : xV, xEnd 3 [v] (w, bd, fc, 0, 0, rr) φ ∧ (v = (2, 4) ∨ v = (2, 6) ∨ v = (2, 8) ∨ v = (2, 10) ∨ v = (2, 12) ∨ v = (3, 0))) by
    obtain ⟨φ, q1, v, q2, q3⟩ := h
    exact ⟨v, q3, φ, q1, q2.1, q2.2⟩
  refine xg_t (xg_blk (b := [(0, 1, 2, 1, 0, 0), (1, 35, 33, 61, 0, 13)]) rfl) ?_
  refine xg_t (xg_iload (va := (0, so)) rfl rfl) ?_
  by_cases hc1 : so = 0
  · refine xg_t (xg_swt (ks := [(0, 36), (1, 41), (2, 46), (3, 51), (4, 56)]) (u := so) (z := 36) rfl rfl rfl xnm0 (xsw_y hc1)) ?_
    refine xg_t (xg_blk (b := [(36, 1, 0, 0, 0, 0), (37, 3, 1, 1, 0, 14), (40, 1, 12, 0, 3, 0)]) rfl) ?_
    refine xg_t (xg_aload (va := (2, 3)) rfl rfl) ?_
    obtain ⟨f3_2, f3_4, f3_6, f3_8, f3_10, h3_12, hb3, hb5, hb7, hb9, hb11⟩ := (hI 3 (by decide) : cp3 (wget w 3))
    refine xg_t (xg_getf (va := (2, 4)) h3_12 rfl) ?_
    exact xg_e ⟨(2, 4), ⟨rfl, rfl⟩, Or.inl rfl⟩
  · by_cases hc13 : so = 1
    · refine xg_t (xg_swt (ks := [(0, 36), (1, 41), (2, 46), (3, 51), (4, 56)]) (u := so) (z := 41) rfl rfl rfl xnm0 (xsw_n hc1 (xsw_y hc13))) ?_
      refine xg_t (xg_blk (b := [(41, 1, 0, 0, 0, 0), (42, 3, 1, 1, 1, 18), (45, 1, 12, 0, 3, 0)]) rfl) ?_
      refine xg_t (xg_aload (va := (2, 3)) rfl rfl) ?_
      obtain ⟨f3_14, f3_16, f3_18, f3_20, f3_22, h3_24, hb15, hb17, hb19, hb21, hb23⟩ := (hI 3 (by decide) : cp3 (wget w 3))
      refine xg_t (xg_getf (va := (2, 6)) h3_24 rfl) ?_
      exact xg_e ⟨(2, 6), ⟨rfl, rfl⟩, Or.inr (Or.inl rfl)⟩
    · by_cases hc25 : so = 2
      · refine xg_t (xg_swt (ks := [(0, 36), (1, 41), (2, 46), (3, 51), (4, 56)]) (u := so) (z := 46) rfl rfl rfl xnm0 (xsw_n hc1 (xsw_n hc13 (xsw_y hc25)))) ?_
        refine xg_t (xg_blk (b := [(46, 1, 0, 0, 0, 0), (47, 3, 1, 1, 2, 21), (50, 1, 12, 0, 3, 0)]) rfl) ?_
        refine xg_t (xg_aload (va := (2, 3)) rfl rfl) ?_
        obtain ⟨f3_26, f3_28, f3_30, f3_32, f3_34, h3_36, hb27, hb29, hb31, hb33, hb35⟩ := (hI 3 (by decide) : cp3 (wget w 3))
        refine xg_t (xg_getf (va := (2, 8)) h3_36 rfl) ?_
        exact xg_e ⟨(2, 8), ⟨rfl, rfl⟩, Or.inr (Or.inr (Or.inl rfl))⟩
      · by_cases hc37 : so = 3
        · refine xg_t (xg_swt (ks := [(0, 36), (1, 41), (2, 46), (3, 51), (4, 56)]) (u := so) (z := 51) rfl rfl rfl xnm0 (xsw_n hc1 (xsw_n hc13 (xsw_n hc25 (xsw_y hc37))))) ?_
          refine xg_t (xg_blk (b := [(51, 1, 0, 0, 0, 0), (52, 3, 1, 1, 3, 24), (55, 1, 12, 0, 3, 0)]) rfl) ?_
          refine xg_t (xg_aload (va := (2, 3)) rfl rfl) ?_
          obtain ⟨f3_38, f3_40, f3_42, f3_44, f3_46, h3_48, hb39, hb41, hb43, hb45, hb47⟩ := (hI 3 (by decide) : cp3 (wget w 3))
          refine xg_t (xg_getf (va := (2, 10)) h3_48 rfl) ?_
          exact xg_e ⟨(2, 10), ⟨rfl, rfl⟩, Or.inr (Or.inr (Or.inr (Or.inl rfl)))⟩
        · by_cases hc49 : so = 4
          · refine xg_t (xg_swt (ks := [(0, 36), (1, 41), (2, 46), (3, 51), (4, 56)]) (u := so) (z := 56) rfl rfl rfl xnm0 (xsw_n hc1 (xsw_n hc13 (xsw_n hc25 (xsw_n hc37 (xsw_y hc49)))))) ?_
            refine xg_t (xg_blk (b := [(56, 1, 0, 0, 0, 0), (57, 3, 1, 1, 4, 27), (60, 1, 12, 0, 3, 0)]) rfl) ?_
            refine xg_t (xg_aload (va := (2, 3)) rfl rfl) ?_
            obtain ⟨f3_50, f3_52, f3_54, f3_56, f3_58, h3_60, hb51, hb53, hb55, hb57, hb59⟩ := (hI 3 (by decide) : cp3 (wget w 3))
            refine xg_t (xg_getf (va := (2, 12)) h3_60 rfl) ?_
            exact xg_e ⟨(2, 12), ⟨rfl, rfl⟩, Or.inr (Or.inr (Or.inr (Or.inr (Or.inl rfl))))⟩
          · refine xg_t (xg_swt (ks := [(0, 36), (1, 41), (2, 46), (3, 51), (4, 56)]) (u := so) (z := 61) rfl rfl rfl xnm0 (xsw_n hc1 (xsw_n hc13 (xsw_n hc25 (xsw_n hc37 (xsw_n hc49 (xsw_d))))))) ?_
            refine xg_t (xg_blk (b := [(61, 1, 45, 0, 0, 0), (62, 1, 12, 0, 3, 0)]) rfl) ?_
            refine xg_t (xg_null) ?_
            exact xg_e ⟨(3, 0), ⟨rfl, rfl⟩, Or.inr (Or.inr (Or.inr (Or.inr (Or.inr (rfl)))))⟩
theorem scCountOfFilm {wh : Nat} (hI : xInv w) (hwh : wh ≤ 4294967295) : xPi (d + 1) mX11_countOfFilm [(2, 0), (0, wh)] w bd fc rr (fun n w' => (n ≤ 4294967295) ∧ xInv w' ∧ xFr [] w w') := by
  refine xPi.of ?_
  show xTo (d + 1) mX11_countOfFilm (0, [], [(0, (2, 0)), (1, (0, wh))], [], (w, bd, fc, 0, 0, rr)) (fun φ => ∃ n w', xEnd 1 [(0, n)] (w', bd, fc, 0, 0, rr) φ ∧ (n ≤ 4294967295) ∧ xInv w' ∧ xFr [] w w')
  have h0_1 := (hI 0 (by decide) : cp0 (wget w 0))
  obtain ⟨f1_2, f1_4, f1_6, f1_8, f1_10, f1_12, h1_14, hb3, hb5, hb7, hb9, hb11, hb13⟩ := (hI 1 (by decide) : cp1 (wget w 1))
  obtain ⟨f3_15, f3_17, f3_19, f3_21, f3_23, h3_25, hb16, hb18, hb20, hb22, hb24⟩ := (hI 3 (by decide) : cp3 (wget w 3))
  refine xg_t (xg_blk (b := [(0, 1, 0, 0, 0, 0), (1, 3, 1, 11, 0, 10), (4, 3, 1, 9, 4, 38), (7, 1, 27, 2, 0, 0), (8, 1, 2, 1, 0, 0), (9, 55, 33, 89, 0, 3)]) rfl) ?_
  refine xg_t (xg_aload (va := (2, 0)) rfl rfl) ?_
  refine xg_t (xg_getf (va := (2, 1)) h0_1 rfl) ?_
  refine xg_t (xg_getf (va := (2, 3)) h1_14 rfl) ?_
  refine xg_t (xg_astore (l1 := [(0, (2, 0)), (1, (0, wh))]) rfl rfl rfl) ?_
  refine xg_t (xg_iload (va := (0, wh)) rfl rfl) ?_
  by_cases hc26 : wh = 5
  · refine xg_t (xg_swt (ks := [(5, 64), (6, 69), (7, 74), (8, 79), (9, 89), (10, 89), (11, 89), (12, 89), (13, 89), (14, 84)]) (u := wh) (z := 64) rfl rfl rfl xnm0 (xsw_y hc26)) ?_
    refine xg_t (xg_blk (b := [(64, 1, 0, 2, 0, 0), (65, 3, 1, 1, 7, 225), (68, 1, 12, 0, 1, 0)]) rfl) ?_
    refine xg_t (xg_aload (va := (2, 3)) rfl rfl) ?_
    refine xg_t (xg_getf (va := (0, f3_19)) h3_25 rfl) ?_
    exact xg_e ⟨f3_19, w, ⟨rfl, rfl⟩, by omega, hI, xFr.rf⟩
  · by_cases hc27 : wh = 6
    · refine xg_t (xg_swt (ks := [(5, 64), (6, 69), (7, 74), (8, 79), (9, 89), (10, 89), (11, 89), (12, 89), (13, 89), (14, 84)]) (u := wh) (z := 69) rfl rfl rfl xnm0 (xsw_n hc26 (xsw_y hc27))) ?_
      refine xg_t (xg_blk (b := [(69, 1, 0, 2, 0, 0), (70, 3, 1, 1, 8, 255), (73, 1, 12, 0, 1, 0)]) rfl) ?_
      refine xg_t (xg_aload (va := (2, 3)) rfl rfl) ?_
      refine xg_t (xg_getf (va := (0, f3_21)) h3_25 rfl) ?_
      exact xg_e ⟨f3_21, w, ⟨rfl, rfl⟩, by omega, hI, xFr.rf⟩
    · by_cases hc28 : wh = 7
      · refine xg_t (xg_swt (ks := [(5, 64), (6, 69), (7, 74), (8, 79), (9, 89), (10, 89), (11, 89), (12, 89), (13, 89), (14, 84)]) (u := wh) (z := 74) rfl rfl rfl xnm0 (xsw_n hc26 (xsw_n hc27 (xsw_y hc28)))) ?_
        refine xg_t (xg_blk (b := [(74, 1, 0, 2, 0, 0), (75, 3, 1, 1, 5, 297), (78, 1, 12, 0, 1, 0)]) rfl) ?_
        refine xg_t (xg_aload (va := (2, 3)) rfl rfl) ?_
        refine xg_t (xg_getf (va := (0, f3_15)) h3_25 rfl) ?_
        exact xg_e ⟨f3_15, w, ⟨rfl, rfl⟩, by omega, hI, xFr.rf⟩
      · by_cases hc29 : wh = 8
        · refine xg_t (xg_swt (ks := [(5, 64), (6, 69), (7, 74), (8, 79), (9, 89), (10, 89), (11, 89), (12, 89), (13, 89), (14, 84)]) (u := wh) (z := 79) rfl rfl rfl xnm0 (xsw_n hc26 (xsw_n hc27 (xsw_n hc28 (xsw_y hc29))))) ?_
          refine xg_t (xg_blk (b := [(79, 1, 0, 2, 0, 0), (80, 3, 1, 1, 6, 300), (83, 1, 12, 0, 1, 0)]) rfl) ?_
          refine xg_t (xg_aload (va := (2, 3)) rfl rfl) ?_
          refine xg_t (xg_getf (va := (0, f3_17)) h3_25 rfl) ?_
          exact xg_e ⟨f3_17, w, ⟨rfl, rfl⟩, by omega, hI, xFr.rf⟩
        · by_cases hc30 : wh = 9
          · refine xg_t (xg_swt (ks := [(5, 64), (6, 69), (7, 74), (8, 79), (9, 89), (10, 89), (11, 89), (12, 89), (13, 89), (14, 84)]) (u := wh) (z := 89) rfl rfl rfl xnm0 (xsw_n hc26 (xsw_n hc27 (xsw_n hc28 (xsw_n hc29 (xsw_y hc30)))))) ?_
            refine xg_t (xg_blk (b := [(89, 1, 0, 2, 0, 0), (90, 1, 2, 1, 0, 0), (91, 3, 13, 243, 8, 415), (94, 1, 27, 3, 0, 0), (95, 1, 0, 3, 0, 0), (96, 3, 44, 104, 0, 0), (99, 2, 4, 4294967294, 0, 0), (101, 3, 8, 108, 0, 0)]) rfl) ?_
            refine xg_t (xg_aload (va := (2, 3)) rfl rfl) ?_
            refine xg_t (xg_iload (va := (0, wh)) rfl rfl) ?_
            obtain ⟨v31, hv32, hp33⟩ := rowsOf3 (d := d + 0) (bd := bd) (fc := fc) (rr := rr) (so := wh) (hI) (by omega)
            rcases hv32 with rfl | rfl | rfl | rfl | rfl | rfl
            · refine xg_t (xg_cVr mX1_rowsOf (vs := [(0, wh)]) (rest := []) (rs := [(2, 4)]) (cn1 := 0) (sl1 := 0) rfl (hp33) rfl h3_25 rfl rfl rfl rfl rfl rfl rfl) ?_
              refine xg_t (xg_astore (l1 := [(2, (2, 3)), (0, (2, 0)), (1, (0, wh))]) rfl rfl rfl) ?_
              refine xg_t (xg_aload (va := (2, 4)) rfl rfl) ?_
              refine xg_t (xg_ifnnT) ?_
              refine xg_t (xg_blk (b := [(104, 1, 0, 3, 0, 0), (105, 3, 1, 5, 3, 151)]) rfl) ?_
              refine xg_t (xg_aload (va := (2, 4)) rfl rfl) ?_
              obtain ⟨f4_34, h4_36, hb35⟩ := (hI 4 (by decide) : cp4 (wget w 4))
              refine xg_t (xg_getf (va := (0, f4_34)) h4_36 rfl) ?_
              refine xg_t (xg_blk (b := [(108, 1, 12, 0, 1, 0)]) rfl) ?_
              exact xg_e ⟨f4_34, w, ⟨rfl, rfl⟩, by omega, hI, xFr.rf⟩
            · refine xg_t (xg_cVr mX1_rowsOf (vs := [(0, wh)]) (rest := []) (rs := [(2, 6)]) (cn1 := 0) (sl1 := 0) rfl (hp33) rfl h3_25 rfl rfl rfl rfl rfl rfl rfl) ?_
              refine xg_t (xg_astore (l1 := [(2, (2, 3)), (0, (2, 0)), (1, (0, wh))]) rfl rfl rfl) ?_
              refine xg_t (xg_aload (va := (2, 6)) rfl rfl) ?_
              refine xg_t (xg_ifnnT) ?_
              refine xg_t (xg_blk (b := [(104, 1, 0, 3, 0, 0), (105, 3, 1, 5, 3, 151)]) rfl) ?_
              refine xg_t (xg_aload (va := (2, 6)) rfl rfl) ?_
              obtain ⟨f6_37, h6_39, hb38⟩ := (hI 6 (by decide) : cp6 (wget w 6))
              refine xg_t (xg_getf (va := (0, f6_37)) h6_39 rfl) ?_
              refine xg_t (xg_blk (b := [(108, 1, 12, 0, 1, 0)]) rfl) ?_
              exact xg_e ⟨f6_37, w, ⟨rfl, rfl⟩, by omega, hI, xFr.rf⟩
            · refine xg_t (xg_cVr mX1_rowsOf (vs := [(0, wh)]) (rest := []) (rs := [(2, 8)]) (cn1 := 0) (sl1 := 0) rfl (hp33) rfl h3_25 rfl rfl rfl rfl rfl rfl rfl) ?_
              refine xg_t (xg_astore (l1 := [(2, (2, 3)), (0, (2, 0)), (1, (0, wh))]) rfl rfl rfl) ?_
              refine xg_t (xg_aload (va := (2, 8)) rfl rfl) ?_
              refine xg_t (xg_ifnnT) ?_
              refine xg_t (xg_blk (b := [(104, 1, 0, 3, 0, 0), (105, 3, 1, 5, 3, 151)]) rfl) ?_
              refine xg_t (xg_aload (va := (2, 8)) rfl rfl) ?_
              obtain ⟨f8_40, h8_42, hb41⟩ := (hI 8 (by decide) : cp8 (wget w 8))
              refine xg_t (xg_getf (va := (0, f8_40)) h8_42 rfl) ?_
              refine xg_t (xg_blk (b := [(108, 1, 12, 0, 1, 0)]) rfl) ?_
              exact xg_e ⟨f8_40, w, ⟨rfl, rfl⟩, by omega, hI, xFr.rf⟩
            · refine xg_t (xg_cVr mX1_rowsOf (vs := [(0, wh)]) (rest := []) (rs := [(2, 10)]) (cn1 := 0) (sl1 := 0) rfl (hp33) rfl h3_25 rfl rfl rfl rfl rfl rfl rfl) ?_
              refine xg_t (xg_astore (l1 := [(2, (2, 3)), (0, (2, 0)), (1, (0, wh))]) rfl rfl rfl) ?_
              refine xg_t (xg_aload (va := (2, 10)) rfl rfl) ?_
              refine xg_t (xg_ifnnT) ?_
              refine xg_t (xg_blk (b := [(104, 1, 0, 3, 0, 0), (105, 3, 1, 5, 3, 151)]) rfl) ?_
              refine xg_t (xg_aload (va := (2, 10)) rfl rfl) ?_
              obtain ⟨f10_43, h10_45, hb44⟩ := (hI 10 (by decide) : cp10 (wget w 10))
              refine xg_t (xg_getf (va := (0, f10_43)) h10_45 rfl) ?_
              refine xg_t (xg_blk (b := [(108, 1, 12, 0, 1, 0)]) rfl) ?_
              exact xg_e ⟨f10_43, w, ⟨rfl, rfl⟩, by omega, hI, xFr.rf⟩
            · refine xg_t (xg_cVr mX1_rowsOf (vs := [(0, wh)]) (rest := []) (rs := [(2, 12)]) (cn1 := 0) (sl1 := 0) rfl (hp33) rfl h3_25 rfl rfl rfl rfl rfl rfl rfl) ?_
              refine xg_t (xg_astore (l1 := [(2, (2, 3)), (0, (2, 0)), (1, (0, wh))]) rfl rfl rfl) ?_
              refine xg_t (xg_aload (va := (2, 12)) rfl rfl) ?_
              refine xg_t (xg_ifnnT) ?_
              refine xg_t (xg_blk (b := [(104, 1, 0, 3, 0, 0), (105, 3, 1, 5, 3, 151)]) rfl) ?_
              refine xg_t (xg_aload (va := (2, 12)) rfl rfl) ?_
              obtain ⟨f12_46, h12_48, hb47⟩ := (hI 12 (by decide) : cp12 (wget w 12))
              refine xg_t (xg_getf (va := (0, f12_46)) h12_48 rfl) ?_
              refine xg_t (xg_blk (b := [(108, 1, 12, 0, 1, 0)]) rfl) ?_
              exact xg_e ⟨f12_46, w, ⟨rfl, rfl⟩, by omega, hI, xFr.rf⟩
            · refine xg_t (xg_cVr mX1_rowsOf (vs := [(0, wh)]) (rest := []) (rs := [(3, 0)]) (cn1 := 0) (sl1 := 0) rfl (hp33) rfl h3_25 rfl rfl rfl rfl rfl rfl rfl) ?_
              refine xg_t (xg_astore (l1 := [(2, (2, 3)), (0, (2, 0)), (1, (0, wh))]) rfl rfl rfl) ?_
              refine xg_t (xg_aload (va := (3, 0)) rfl rfl) ?_
              refine xg_t (xg_ifnnF) ?_
              refine xg_t (xg_bip) ?_
              refine xg_t (xg_goto) ?_
              refine xg_t (xg_blk (b := [(108, 1, 12, 0, 1, 0)]) rfl) ?_
              exact xg_e ⟨4294967294, w, ⟨rfl, rfl⟩, by omega, hI, xFr.rf⟩
          · by_cases hc49 : wh = 10
            · refine xg_t (xg_swt (ks := [(5, 64), (6, 69), (7, 74), (8, 79), (9, 89), (10, 89), (11, 89), (12, 89), (13, 89), (14, 84)]) (u := wh) (z := 89) rfl rfl rfl xnm0 (xsw_n hc26 (xsw_n hc27 (xsw_n hc28 (xsw_n hc29 (xsw_n hc30 (xsw_y hc49))))))) ?_
              refine xg_t (xg_blk (b := [(89, 1, 0, 2, 0, 0), (90, 1, 2, 1, 0, 0), (91, 3, 13, 243, 8, 415), (94, 1, 27, 3, 0, 0), (95, 1, 0, 3, 0, 0), (96, 3, 44, 104, 0, 0), (99, 2, 4, 4294967294, 0, 0), (101, 3, 8, 108, 0, 0)]) rfl) ?_
              refine xg_t (xg_aload (va := (2, 3)) rfl rfl) ?_
              refine xg_t (xg_iload (va := (0, wh)) rfl rfl) ?_
              obtain ⟨v50, hv51, hp52⟩ := rowsOf3 (d := d + 0) (bd := bd) (fc := fc) (rr := rr) (so := wh) (hI) (by omega)
              rcases hv51 with rfl | rfl | rfl | rfl | rfl | rfl
              · refine xg_t (xg_cVr mX1_rowsOf (vs := [(0, wh)]) (rest := []) (rs := [(2, 4)]) (cn1 := 0) (sl1 := 0) rfl (hp52) rfl h3_25 rfl rfl rfl rfl rfl rfl rfl) ?_
                refine xg_t (xg_astore (l1 := [(2, (2, 3)), (0, (2, 0)), (1, (0, wh))]) rfl rfl rfl) ?_
                refine xg_t (xg_aload (va := (2, 4)) rfl rfl) ?_
                refine xg_t (xg_ifnnT) ?_
                refine xg_t (xg_blk (b := [(104, 1, 0, 3, 0, 0), (105, 3, 1, 5, 3, 151)]) rfl) ?_
                refine xg_t (xg_aload (va := (2, 4)) rfl rfl) ?_
                obtain ⟨f4_53, h4_55, hb54⟩ := (hI 4 (by decide) : cp4 (wget w 4))
                refine xg_t (xg_getf (va := (0, f4_53)) h4_55 rfl) ?_
                refine xg_t (xg_blk (b := [(108, 1, 12, 0, 1, 0)]) rfl) ?_
                exact xg_e ⟨f4_53, w, ⟨rfl, rfl⟩, by omega, hI, xFr.rf⟩
              · refine xg_t (xg_cVr mX1_rowsOf (vs := [(0, wh)]) (rest := []) (rs := [(2, 6)]) (cn1 := 0) (sl1 := 0) rfl (hp52) rfl h3_25 rfl rfl rfl rfl rfl rfl rfl) ?_
                refine xg_t (xg_astore (l1 := [(2, (2, 3)), (0, (2, 0)), (1, (0, wh))]) rfl rfl rfl) ?_
                refine xg_t (xg_aload (va := (2, 6)) rfl rfl) ?_
                refine xg_t (xg_ifnnT) ?_
                refine xg_t (xg_blk (b := [(104, 1, 0, 3, 0, 0), (105, 3, 1, 5, 3, 151)]) rfl) ?_
                refine xg_t (xg_aload (va := (2, 6)) rfl rfl) ?_
                obtain ⟨f6_56, h6_58, hb57⟩ := (hI 6 (by decide) : cp6 (wget w 6))
                refine xg_t (xg_getf (va := (0, f6_56)) h6_58 rfl) ?_
                refine xg_t (xg_blk (b := [(108, 1, 12, 0, 1, 0)]) rfl) ?_
                exact xg_e ⟨f6_56, w, ⟨rfl, rfl⟩, by omega, hI, xFr.rf⟩
              · refine xg_t (xg_cVr mX1_rowsOf (vs := [(0, wh)]) (rest := []) (rs := [(2, 8)]) (cn1 := 0) (sl1 := 0) rfl (hp52) rfl h3_25 rfl rfl rfl rfl rfl rfl rfl) ?_
                refine xg_t (xg_astore (l1 := [(2, (2, 3)), (0, (2, 0)), (1, (0, wh))]) rfl rfl rfl) ?_
                refine xg_t (xg_aload (va := (2, 8)) rfl rfl) ?_
                refine xg_t (xg_ifnnT) ?_
                refine xg_t (xg_blk (b := [(104, 1, 0, 3, 0, 0), (105, 3, 1, 5, 3, 151)]) rfl) ?_
                refine xg_t (xg_aload (va := (2, 8)) rfl rfl) ?_
                obtain ⟨f8_59, h8_61, hb60⟩ := (hI 8 (by decide) : cp8 (wget w 8))
                refine xg_t (xg_getf (va := (0, f8_59)) h8_61 rfl) ?_
                refine xg_t (xg_blk (b := [(108, 1, 12, 0, 1, 0)]) rfl) ?_
                exact xg_e ⟨f8_59, w, ⟨rfl, rfl⟩, by omega, hI, xFr.rf⟩
              · refine xg_t (xg_cVr mX1_rowsOf (vs := [(0, wh)]) (rest := []) (rs := [(2, 10)]) (cn1 := 0) (sl1 := 0) rfl (hp52) rfl h3_25 rfl rfl rfl rfl rfl rfl rfl) ?_
                refine xg_t (xg_astore (l1 := [(2, (2, 3)), (0, (2, 0)), (1, (0, wh))]) rfl rfl rfl) ?_
                refine xg_t (xg_aload (va := (2, 10)) rfl rfl) ?_
                refine xg_t (xg_ifnnT) ?_
                refine xg_t (xg_blk (b := [(104, 1, 0, 3, 0, 0), (105, 3, 1, 5, 3, 151)]) rfl) ?_
                refine xg_t (xg_aload (va := (2, 10)) rfl rfl) ?_
                obtain ⟨f10_62, h10_64, hb63⟩ := (hI 10 (by decide) : cp10 (wget w 10))
                refine xg_t (xg_getf (va := (0, f10_62)) h10_64 rfl) ?_
                refine xg_t (xg_blk (b := [(108, 1, 12, 0, 1, 0)]) rfl) ?_
                exact xg_e ⟨f10_62, w, ⟨rfl, rfl⟩, by omega, hI, xFr.rf⟩
              · refine xg_t (xg_cVr mX1_rowsOf (vs := [(0, wh)]) (rest := []) (rs := [(2, 12)]) (cn1 := 0) (sl1 := 0) rfl (hp52) rfl h3_25 rfl rfl rfl rfl rfl rfl rfl) ?_
                refine xg_t (xg_astore (l1 := [(2, (2, 3)), (0, (2, 0)), (1, (0, wh))]) rfl rfl rfl) ?_
                refine xg_t (xg_aload (va := (2, 12)) rfl rfl) ?_
                refine xg_t (xg_ifnnT) ?_
                refine xg_t (xg_blk (b := [(104, 1, 0, 3, 0, 0), (105, 3, 1, 5, 3, 151)]) rfl) ?_
                refine xg_t (xg_aload (va := (2, 12)) rfl rfl) ?_
                obtain ⟨f12_65, h12_67, hb66⟩ := (hI 12 (by decide) : cp12 (wget w 12))
                refine xg_t (xg_getf (va := (0, f12_65)) h12_67 rfl) ?_
                refine xg_t (xg_blk (b := [(108, 1, 12, 0, 1, 0)]) rfl) ?_
                exact xg_e ⟨f12_65, w, ⟨rfl, rfl⟩, by omega, hI, xFr.rf⟩
              · refine xg_t (xg_cVr mX1_rowsOf (vs := [(0, wh)]) (rest := []) (rs := [(3, 0)]) (cn1 := 0) (sl1 := 0) rfl (hp52) rfl h3_25 rfl rfl rfl rfl rfl rfl rfl) ?_
                refine xg_t (xg_astore (l1 := [(2, (2, 3)), (0, (2, 0)), (1, (0, wh))]) rfl rfl rfl) ?_
                refine xg_t (xg_aload (va := (3, 0)) rfl rfl) ?_
                refine xg_t (xg_ifnnF) ?_
                refine xg_t (xg_bip) ?_
                refine xg_t (xg_goto) ?_
                refine xg_t (xg_blk (b := [(108, 1, 12, 0, 1, 0)]) rfl) ?_
                exact xg_e ⟨4294967294, w, ⟨rfl, rfl⟩, by omega, hI, xFr.rf⟩
            · by_cases hc68 : wh = 11
              · refine xg_t (xg_swt (ks := [(5, 64), (6, 69), (7, 74), (8, 79), (9, 89), (10, 89), (11, 89), (12, 89), (13, 89), (14, 84)]) (u := wh) (z := 89) rfl rfl rfl xnm0 (xsw_n hc26 (xsw_n hc27 (xsw_n hc28 (xsw_n hc29 (xsw_n hc30 (xsw_n hc49 (xsw_y hc68)))))))) ?_
                refine xg_t (xg_blk (b := [(89, 1, 0, 2, 0, 0), (90, 1, 2, 1, 0, 0), (91, 3, 13, 243, 8, 415), (94, 1, 27, 3, 0, 0), (95, 1, 0, 3, 0, 0), (96, 3, 44, 104, 0, 0), (99, 2, 4, 4294967294, 0, 0), (101, 3, 8, 108, 0, 0)]) rfl) ?_
                refine xg_t (xg_aload (va := (2, 3)) rfl rfl) ?_
                refine xg_t (xg_iload (va := (0, wh)) rfl rfl) ?_
                obtain ⟨v69, hv70, hp71⟩ := rowsOf3 (d := d + 0) (bd := bd) (fc := fc) (rr := rr) (so := wh) (hI) (by omega)
                rcases hv70 with rfl | rfl | rfl | rfl | rfl | rfl
                · refine xg_t (xg_cVr mX1_rowsOf (vs := [(0, wh)]) (rest := []) (rs := [(2, 4)]) (cn1 := 0) (sl1 := 0) rfl (hp71) rfl h3_25 rfl rfl rfl rfl rfl rfl rfl) ?_
                  refine xg_t (xg_astore (l1 := [(2, (2, 3)), (0, (2, 0)), (1, (0, wh))]) rfl rfl rfl) ?_
                  refine xg_t (xg_aload (va := (2, 4)) rfl rfl) ?_
                  refine xg_t (xg_ifnnT) ?_
                  refine xg_t (xg_blk (b := [(104, 1, 0, 3, 0, 0), (105, 3, 1, 5, 3, 151)]) rfl) ?_
                  refine xg_t (xg_aload (va := (2, 4)) rfl rfl) ?_
                  obtain ⟨f4_72, h4_74, hb73⟩ := (hI 4 (by decide) : cp4 (wget w 4))
                  refine xg_t (xg_getf (va := (0, f4_72)) h4_74 rfl) ?_
                  refine xg_t (xg_blk (b := [(108, 1, 12, 0, 1, 0)]) rfl) ?_
                  exact xg_e ⟨f4_72, w, ⟨rfl, rfl⟩, by omega, hI, xFr.rf⟩
                · refine xg_t (xg_cVr mX1_rowsOf (vs := [(0, wh)]) (rest := []) (rs := [(2, 6)]) (cn1 := 0) (sl1 := 0) rfl (hp71) rfl h3_25 rfl rfl rfl rfl rfl rfl rfl) ?_
                  refine xg_t (xg_astore (l1 := [(2, (2, 3)), (0, (2, 0)), (1, (0, wh))]) rfl rfl rfl) ?_
                  refine xg_t (xg_aload (va := (2, 6)) rfl rfl) ?_
                  refine xg_t (xg_ifnnT) ?_
                  refine xg_t (xg_blk (b := [(104, 1, 0, 3, 0, 0), (105, 3, 1, 5, 3, 151)]) rfl) ?_
                  refine xg_t (xg_aload (va := (2, 6)) rfl rfl) ?_
                  obtain ⟨f6_75, h6_77, hb76⟩ := (hI 6 (by decide) : cp6 (wget w 6))
                  refine xg_t (xg_getf (va := (0, f6_75)) h6_77 rfl) ?_
                  refine xg_t (xg_blk (b := [(108, 1, 12, 0, 1, 0)]) rfl) ?_
                  exact xg_e ⟨f6_75, w, ⟨rfl, rfl⟩, by omega, hI, xFr.rf⟩
                · refine xg_t (xg_cVr mX1_rowsOf (vs := [(0, wh)]) (rest := []) (rs := [(2, 8)]) (cn1 := 0) (sl1 := 0) rfl (hp71) rfl h3_25 rfl rfl rfl rfl rfl rfl rfl) ?_
                  refine xg_t (xg_astore (l1 := [(2, (2, 3)), (0, (2, 0)), (1, (0, wh))]) rfl rfl rfl) ?_
                  refine xg_t (xg_aload (va := (2, 8)) rfl rfl) ?_
                  refine xg_t (xg_ifnnT) ?_
                  refine xg_t (xg_blk (b := [(104, 1, 0, 3, 0, 0), (105, 3, 1, 5, 3, 151)]) rfl) ?_
                  refine xg_t (xg_aload (va := (2, 8)) rfl rfl) ?_
                  obtain ⟨f8_78, h8_80, hb79⟩ := (hI 8 (by decide) : cp8 (wget w 8))
                  refine xg_t (xg_getf (va := (0, f8_78)) h8_80 rfl) ?_
                  refine xg_t (xg_blk (b := [(108, 1, 12, 0, 1, 0)]) rfl) ?_
                  exact xg_e ⟨f8_78, w, ⟨rfl, rfl⟩, by omega, hI, xFr.rf⟩
                · refine xg_t (xg_cVr mX1_rowsOf (vs := [(0, wh)]) (rest := []) (rs := [(2, 10)]) (cn1 := 0) (sl1 := 0) rfl (hp71) rfl h3_25 rfl rfl rfl rfl rfl rfl rfl) ?_
                  refine xg_t (xg_astore (l1 := [(2, (2, 3)), (0, (2, 0)), (1, (0, wh))]) rfl rfl rfl) ?_
                  refine xg_t (xg_aload (va := (2, 10)) rfl rfl) ?_
                  refine xg_t (xg_ifnnT) ?_
                  refine xg_t (xg_blk (b := [(104, 1, 0, 3, 0, 0), (105, 3, 1, 5, 3, 151)]) rfl) ?_
                  refine xg_t (xg_aload (va := (2, 10)) rfl rfl) ?_
                  obtain ⟨f10_81, h10_83, hb82⟩ := (hI 10 (by decide) : cp10 (wget w 10))
                  refine xg_t (xg_getf (va := (0, f10_81)) h10_83 rfl) ?_
                  refine xg_t (xg_blk (b := [(108, 1, 12, 0, 1, 0)]) rfl) ?_
                  exact xg_e ⟨f10_81, w, ⟨rfl, rfl⟩, by omega, hI, xFr.rf⟩
                · refine xg_t (xg_cVr mX1_rowsOf (vs := [(0, wh)]) (rest := []) (rs := [(2, 12)]) (cn1 := 0) (sl1 := 0) rfl (hp71) rfl h3_25 rfl rfl rfl rfl rfl rfl rfl) ?_
                  refine xg_t (xg_astore (l1 := [(2, (2, 3)), (0, (2, 0)), (1, (0, wh))]) rfl rfl rfl) ?_
                  refine xg_t (xg_aload (va := (2, 12)) rfl rfl) ?_
                  refine xg_t (xg_ifnnT) ?_
                  refine xg_t (xg_blk (b := [(104, 1, 0, 3, 0, 0), (105, 3, 1, 5, 3, 151)]) rfl) ?_
                  refine xg_t (xg_aload (va := (2, 12)) rfl rfl) ?_
                  obtain ⟨f12_84, h12_86, hb85⟩ := (hI 12 (by decide) : cp12 (wget w 12))
                  refine xg_t (xg_getf (va := (0, f12_84)) h12_86 rfl) ?_
                  refine xg_t (xg_blk (b := [(108, 1, 12, 0, 1, 0)]) rfl) ?_
                  exact xg_e ⟨f12_84, w, ⟨rfl, rfl⟩, by omega, hI, xFr.rf⟩
                · refine xg_t (xg_cVr mX1_rowsOf (vs := [(0, wh)]) (rest := []) (rs := [(3, 0)]) (cn1 := 0) (sl1 := 0) rfl (hp71) rfl h3_25 rfl rfl rfl rfl rfl rfl rfl) ?_
                  refine xg_t (xg_astore (l1 := [(2, (2, 3)), (0, (2, 0)), (1, (0, wh))]) rfl rfl rfl) ?_
                  refine xg_t (xg_aload (va := (3, 0)) rfl rfl) ?_
                  refine xg_t (xg_ifnnF) ?_
                  refine xg_t (xg_bip) ?_
                  refine xg_t (xg_goto) ?_
                  refine xg_t (xg_blk (b := [(108, 1, 12, 0, 1, 0)]) rfl) ?_
                  exact xg_e ⟨4294967294, w, ⟨rfl, rfl⟩, by omega, hI, xFr.rf⟩
              · by_cases hc87 : wh = 12
                · refine xg_t (xg_swt (ks := [(5, 64), (6, 69), (7, 74), (8, 79), (9, 89), (10, 89), (11, 89), (12, 89), (13, 89), (14, 84)]) (u := wh) (z := 89) rfl rfl rfl xnm0 (xsw_n hc26 (xsw_n hc27 (xsw_n hc28 (xsw_n hc29 (xsw_n hc30 (xsw_n hc49 (xsw_n hc68 (xsw_y hc87))))))))) ?_
                  refine xg_t (xg_blk (b := [(89, 1, 0, 2, 0, 0), (90, 1, 2, 1, 0, 0), (91, 3, 13, 243, 8, 415), (94, 1, 27, 3, 0, 0), (95, 1, 0, 3, 0, 0), (96, 3, 44, 104, 0, 0), (99, 2, 4, 4294967294, 0, 0), (101, 3, 8, 108, 0, 0)]) rfl) ?_
                  refine xg_t (xg_aload (va := (2, 3)) rfl rfl) ?_
                  refine xg_t (xg_iload (va := (0, wh)) rfl rfl) ?_
                  obtain ⟨v88, hv89, hp90⟩ := rowsOf3 (d := d + 0) (bd := bd) (fc := fc) (rr := rr) (so := wh) (hI) (by omega)
                  rcases hv89 with rfl | rfl | rfl | rfl | rfl | rfl
                  · refine xg_t (xg_cVr mX1_rowsOf (vs := [(0, wh)]) (rest := []) (rs := [(2, 4)]) (cn1 := 0) (sl1 := 0) rfl (hp90) rfl h3_25 rfl rfl rfl rfl rfl rfl rfl) ?_
                    refine xg_t (xg_astore (l1 := [(2, (2, 3)), (0, (2, 0)), (1, (0, wh))]) rfl rfl rfl) ?_
                    refine xg_t (xg_aload (va := (2, 4)) rfl rfl) ?_
                    refine xg_t (xg_ifnnT) ?_
                    refine xg_t (xg_blk (b := [(104, 1, 0, 3, 0, 0), (105, 3, 1, 5, 3, 151)]) rfl) ?_
                    refine xg_t (xg_aload (va := (2, 4)) rfl rfl) ?_
                    obtain ⟨f4_91, h4_93, hb92⟩ := (hI 4 (by decide) : cp4 (wget w 4))
                    refine xg_t (xg_getf (va := (0, f4_91)) h4_93 rfl) ?_
                    refine xg_t (xg_blk (b := [(108, 1, 12, 0, 1, 0)]) rfl) ?_
                    exact xg_e ⟨f4_91, w, ⟨rfl, rfl⟩, by omega, hI, xFr.rf⟩
                  · refine xg_t (xg_cVr mX1_rowsOf (vs := [(0, wh)]) (rest := []) (rs := [(2, 6)]) (cn1 := 0) (sl1 := 0) rfl (hp90) rfl h3_25 rfl rfl rfl rfl rfl rfl rfl) ?_
                    refine xg_t (xg_astore (l1 := [(2, (2, 3)), (0, (2, 0)), (1, (0, wh))]) rfl rfl rfl) ?_
                    refine xg_t (xg_aload (va := (2, 6)) rfl rfl) ?_
                    refine xg_t (xg_ifnnT) ?_
                    refine xg_t (xg_blk (b := [(104, 1, 0, 3, 0, 0), (105, 3, 1, 5, 3, 151)]) rfl) ?_
                    refine xg_t (xg_aload (va := (2, 6)) rfl rfl) ?_
                    obtain ⟨f6_94, h6_96, hb95⟩ := (hI 6 (by decide) : cp6 (wget w 6))
                    refine xg_t (xg_getf (va := (0, f6_94)) h6_96 rfl) ?_
                    refine xg_t (xg_blk (b := [(108, 1, 12, 0, 1, 0)]) rfl) ?_
                    exact xg_e ⟨f6_94, w, ⟨rfl, rfl⟩, by omega, hI, xFr.rf⟩
                  · refine xg_t (xg_cVr mX1_rowsOf (vs := [(0, wh)]) (rest := []) (rs := [(2, 8)]) (cn1 := 0) (sl1 := 0) rfl (hp90) rfl h3_25 rfl rfl rfl rfl rfl rfl rfl) ?_
                    refine xg_t (xg_astore (l1 := [(2, (2, 3)), (0, (2, 0)), (1, (0, wh))]) rfl rfl rfl) ?_
                    refine xg_t (xg_aload (va := (2, 8)) rfl rfl) ?_
                    refine xg_t (xg_ifnnT) ?_
                    refine xg_t (xg_blk (b := [(104, 1, 0, 3, 0, 0), (105, 3, 1, 5, 3, 151)]) rfl) ?_
                    refine xg_t (xg_aload (va := (2, 8)) rfl rfl) ?_
                    obtain ⟨f8_97, h8_99, hb98⟩ := (hI 8 (by decide) : cp8 (wget w 8))
                    refine xg_t (xg_getf (va := (0, f8_97)) h8_99 rfl) ?_
                    refine xg_t (xg_blk (b := [(108, 1, 12, 0, 1, 0)]) rfl) ?_
                    exact xg_e ⟨f8_97, w, ⟨rfl, rfl⟩, by omega, hI, xFr.rf⟩
                  · refine xg_t (xg_cVr mX1_rowsOf (vs := [(0, wh)]) (rest := []) (rs := [(2, 10)]) (cn1 := 0) (sl1 := 0) rfl (hp90) rfl h3_25 rfl rfl rfl rfl rfl rfl rfl) ?_
                    refine xg_t (xg_astore (l1 := [(2, (2, 3)), (0, (2, 0)), (1, (0, wh))]) rfl rfl rfl) ?_
                    refine xg_t (xg_aload (va := (2, 10)) rfl rfl) ?_
                    refine xg_t (xg_ifnnT) ?_
                    refine xg_t (xg_blk (b := [(104, 1, 0, 3, 0, 0), (105, 3, 1, 5, 3, 151)]) rfl) ?_
                    refine xg_t (xg_aload (va := (2, 10)) rfl rfl) ?_
                    obtain ⟨f10_100, h10_102, hb101⟩ := (hI 10 (by decide) : cp10 (wget w 10))
                    refine xg_t (xg_getf (va := (0, f10_100)) h10_102 rfl) ?_
                    refine xg_t (xg_blk (b := [(108, 1, 12, 0, 1, 0)]) rfl) ?_
                    exact xg_e ⟨f10_100, w, ⟨rfl, rfl⟩, by omega, hI, xFr.rf⟩
                  · refine xg_t (xg_cVr mX1_rowsOf (vs := [(0, wh)]) (rest := []) (rs := [(2, 12)]) (cn1 := 0) (sl1 := 0) rfl (hp90) rfl h3_25 rfl rfl rfl rfl rfl rfl rfl) ?_
                    refine xg_t (xg_astore (l1 := [(2, (2, 3)), (0, (2, 0)), (1, (0, wh))]) rfl rfl rfl) ?_
                    refine xg_t (xg_aload (va := (2, 12)) rfl rfl) ?_
                    refine xg_t (xg_ifnnT) ?_
                    refine xg_t (xg_blk (b := [(104, 1, 0, 3, 0, 0), (105, 3, 1, 5, 3, 151)]) rfl) ?_
                    refine xg_t (xg_aload (va := (2, 12)) rfl rfl) ?_
                    obtain ⟨f12_103, h12_105, hb104⟩ := (hI 12 (by decide) : cp12 (wget w 12))
                    refine xg_t (xg_getf (va := (0, f12_103)) h12_105 rfl) ?_
                    refine xg_t (xg_blk (b := [(108, 1, 12, 0, 1, 0)]) rfl) ?_
                    exact xg_e ⟨f12_103, w, ⟨rfl, rfl⟩, by omega, hI, xFr.rf⟩
                  · refine xg_t (xg_cVr mX1_rowsOf (vs := [(0, wh)]) (rest := []) (rs := [(3, 0)]) (cn1 := 0) (sl1 := 0) rfl (hp90) rfl h3_25 rfl rfl rfl rfl rfl rfl rfl) ?_
                    refine xg_t (xg_astore (l1 := [(2, (2, 3)), (0, (2, 0)), (1, (0, wh))]) rfl rfl rfl) ?_
                    refine xg_t (xg_aload (va := (3, 0)) rfl rfl) ?_
                    refine xg_t (xg_ifnnF) ?_
                    refine xg_t (xg_bip) ?_
                    refine xg_t (xg_goto) ?_
                    refine xg_t (xg_blk (b := [(108, 1, 12, 0, 1, 0)]) rfl) ?_
                    exact xg_e ⟨4294967294, w, ⟨rfl, rfl⟩, by omega, hI, xFr.rf⟩
                · by_cases hc106 : wh = 13
                  · refine xg_t (xg_swt (ks := [(5, 64), (6, 69), (7, 74), (8, 79), (9, 89), (10, 89), (11, 89), (12, 89), (13, 89), (14, 84)]) (u := wh) (z := 89) rfl rfl rfl xnm0 (xsw_n hc26 (xsw_n hc27 (xsw_n hc28 (xsw_n hc29 (xsw_n hc30 (xsw_n hc49 (xsw_n hc68 (xsw_n hc87 (xsw_y hc106)))))))))) ?_
                    refine xg_t (xg_blk (b := [(89, 1, 0, 2, 0, 0), (90, 1, 2, 1, 0, 0), (91, 3, 13, 243, 8, 415), (94, 1, 27, 3, 0, 0), (95, 1, 0, 3, 0, 0), (96, 3, 44, 104, 0, 0), (99, 2, 4, 4294967294, 0, 0), (101, 3, 8, 108, 0, 0)]) rfl) ?_
                    refine xg_t (xg_aload (va := (2, 3)) rfl rfl) ?_
                    refine xg_t (xg_iload (va := (0, wh)) rfl rfl) ?_
                    obtain ⟨v107, hv108, hp109⟩ := rowsOf3 (d := d + 0) (bd := bd) (fc := fc) (rr := rr) (so := wh) (hI) (by omega)
                    rcases hv108 with rfl | rfl | rfl | rfl | rfl | rfl
                    · refine xg_t (xg_cVr mX1_rowsOf (vs := [(0, wh)]) (rest := []) (rs := [(2, 4)]) (cn1 := 0) (sl1 := 0) rfl (hp109) rfl h3_25 rfl rfl rfl rfl rfl rfl rfl) ?_
                      refine xg_t (xg_astore (l1 := [(2, (2, 3)), (0, (2, 0)), (1, (0, wh))]) rfl rfl rfl) ?_
                      refine xg_t (xg_aload (va := (2, 4)) rfl rfl) ?_
                      refine xg_t (xg_ifnnT) ?_
                      refine xg_t (xg_blk (b := [(104, 1, 0, 3, 0, 0), (105, 3, 1, 5, 3, 151)]) rfl) ?_
                      refine xg_t (xg_aload (va := (2, 4)) rfl rfl) ?_
                      obtain ⟨f4_110, h4_112, hb111⟩ := (hI 4 (by decide) : cp4 (wget w 4))
                      refine xg_t (xg_getf (va := (0, f4_110)) h4_112 rfl) ?_
                      refine xg_t (xg_blk (b := [(108, 1, 12, 0, 1, 0)]) rfl) ?_
                      exact xg_e ⟨f4_110, w, ⟨rfl, rfl⟩, by omega, hI, xFr.rf⟩
                    · refine xg_t (xg_cVr mX1_rowsOf (vs := [(0, wh)]) (rest := []) (rs := [(2, 6)]) (cn1 := 0) (sl1 := 0) rfl (hp109) rfl h3_25 rfl rfl rfl rfl rfl rfl rfl) ?_
                      refine xg_t (xg_astore (l1 := [(2, (2, 3)), (0, (2, 0)), (1, (0, wh))]) rfl rfl rfl) ?_
                      refine xg_t (xg_aload (va := (2, 6)) rfl rfl) ?_
                      refine xg_t (xg_ifnnT) ?_
                      refine xg_t (xg_blk (b := [(104, 1, 0, 3, 0, 0), (105, 3, 1, 5, 3, 151)]) rfl) ?_
                      refine xg_t (xg_aload (va := (2, 6)) rfl rfl) ?_
                      obtain ⟨f6_113, h6_115, hb114⟩ := (hI 6 (by decide) : cp6 (wget w 6))
                      refine xg_t (xg_getf (va := (0, f6_113)) h6_115 rfl) ?_
                      refine xg_t (xg_blk (b := [(108, 1, 12, 0, 1, 0)]) rfl) ?_
                      exact xg_e ⟨f6_113, w, ⟨rfl, rfl⟩, by omega, hI, xFr.rf⟩
                    · refine xg_t (xg_cVr mX1_rowsOf (vs := [(0, wh)]) (rest := []) (rs := [(2, 8)]) (cn1 := 0) (sl1 := 0) rfl (hp109) rfl h3_25 rfl rfl rfl rfl rfl rfl rfl) ?_
                      refine xg_t (xg_astore (l1 := [(2, (2, 3)), (0, (2, 0)), (1, (0, wh))]) rfl rfl rfl) ?_
                      refine xg_t (xg_aload (va := (2, 8)) rfl rfl) ?_
                      refine xg_t (xg_ifnnT) ?_
                      refine xg_t (xg_blk (b := [(104, 1, 0, 3, 0, 0), (105, 3, 1, 5, 3, 151)]) rfl) ?_
                      refine xg_t (xg_aload (va := (2, 8)) rfl rfl) ?_
                      obtain ⟨f8_116, h8_118, hb117⟩ := (hI 8 (by decide) : cp8 (wget w 8))
                      refine xg_t (xg_getf (va := (0, f8_116)) h8_118 rfl) ?_
                      refine xg_t (xg_blk (b := [(108, 1, 12, 0, 1, 0)]) rfl) ?_
                      exact xg_e ⟨f8_116, w, ⟨rfl, rfl⟩, by omega, hI, xFr.rf⟩
                    · refine xg_t (xg_cVr mX1_rowsOf (vs := [(0, wh)]) (rest := []) (rs := [(2, 10)]) (cn1 := 0) (sl1 := 0) rfl (hp109) rfl h3_25 rfl rfl rfl rfl rfl rfl rfl) ?_
                      refine xg_t (xg_astore (l1 := [(2, (2, 3)), (0, (2, 0)), (1, (0, wh))]) rfl rfl rfl) ?_
                      refine xg_t (xg_aload (va := (2, 10)) rfl rfl) ?_
                      refine xg_t (xg_ifnnT) ?_
                      refine xg_t (xg_blk (b := [(104, 1, 0, 3, 0, 0), (105, 3, 1, 5, 3, 151)]) rfl) ?_
                      refine xg_t (xg_aload (va := (2, 10)) rfl rfl) ?_
                      obtain ⟨f10_119, h10_121, hb120⟩ := (hI 10 (by decide) : cp10 (wget w 10))
                      refine xg_t (xg_getf (va := (0, f10_119)) h10_121 rfl) ?_
                      refine xg_t (xg_blk (b := [(108, 1, 12, 0, 1, 0)]) rfl) ?_
                      exact xg_e ⟨f10_119, w, ⟨rfl, rfl⟩, by omega, hI, xFr.rf⟩
                    · refine xg_t (xg_cVr mX1_rowsOf (vs := [(0, wh)]) (rest := []) (rs := [(2, 12)]) (cn1 := 0) (sl1 := 0) rfl (hp109) rfl h3_25 rfl rfl rfl rfl rfl rfl rfl) ?_
                      refine xg_t (xg_astore (l1 := [(2, (2, 3)), (0, (2, 0)), (1, (0, wh))]) rfl rfl rfl) ?_
                      refine xg_t (xg_aload (va := (2, 12)) rfl rfl) ?_
                      refine xg_t (xg_ifnnT) ?_
                      refine xg_t (xg_blk (b := [(104, 1, 0, 3, 0, 0), (105, 3, 1, 5, 3, 151)]) rfl) ?_
                      refine xg_t (xg_aload (va := (2, 12)) rfl rfl) ?_
                      obtain ⟨f12_122, h12_124, hb123⟩ := (hI 12 (by decide) : cp12 (wget w 12))
                      refine xg_t (xg_getf (va := (0, f12_122)) h12_124 rfl) ?_
                      refine xg_t (xg_blk (b := [(108, 1, 12, 0, 1, 0)]) rfl) ?_
                      exact xg_e ⟨f12_122, w, ⟨rfl, rfl⟩, by omega, hI, xFr.rf⟩
                    · refine xg_t (xg_cVr mX1_rowsOf (vs := [(0, wh)]) (rest := []) (rs := [(3, 0)]) (cn1 := 0) (sl1 := 0) rfl (hp109) rfl h3_25 rfl rfl rfl rfl rfl rfl rfl) ?_
                      refine xg_t (xg_astore (l1 := [(2, (2, 3)), (0, (2, 0)), (1, (0, wh))]) rfl rfl rfl) ?_
                      refine xg_t (xg_aload (va := (3, 0)) rfl rfl) ?_
                      refine xg_t (xg_ifnnF) ?_
                      refine xg_t (xg_bip) ?_
                      refine xg_t (xg_goto) ?_
                      refine xg_t (xg_blk (b := [(108, 1, 12, 0, 1, 0)]) rfl) ?_
                      exact xg_e ⟨4294967294, w, ⟨rfl, rfl⟩, by omega, hI, xFr.rf⟩
                  · by_cases hc125 : wh = 14
                    · refine xg_t (xg_swt (ks := [(5, 64), (6, 69), (7, 74), (8, 79), (9, 89), (10, 89), (11, 89), (12, 89), (13, 89), (14, 84)]) (u := wh) (z := 84) rfl rfl rfl xnm0 (xsw_n hc26 (xsw_n hc27 (xsw_n hc28 (xsw_n hc29 (xsw_n hc30 (xsw_n hc49 (xsw_n hc68 (xsw_n hc87 (xsw_n hc106 (xsw_y hc125))))))))))) ?_
                      refine xg_t (xg_blk (b := [(84, 1, 0, 2, 0, 0), (85, 3, 1, 1, 9, 412), (88, 1, 12, 0, 1, 0)]) rfl) ?_
                      refine xg_t (xg_aload (va := (2, 3)) rfl rfl) ?_
                      refine xg_t (xg_getf (va := (0, f3_23)) h3_25 rfl) ?_
                      exact xg_e ⟨f3_23, w, ⟨rfl, rfl⟩, by omega, hI, xFr.rf⟩
                    · refine xg_t (xg_swt (ks := [(5, 64), (6, 69), (7, 74), (8, 79), (9, 89), (10, 89), (11, 89), (12, 89), (13, 89), (14, 84)]) (u := wh) (z := 89) rfl rfl rfl xnm0 (xsw_n hc26 (xsw_n hc27 (xsw_n hc28 (xsw_n hc29 (xsw_n hc30 (xsw_n hc49 (xsw_n hc68 (xsw_n hc87 (xsw_n hc106 (xsw_n hc125 (xsw_d)))))))))))) ?_
                      refine xg_t (xg_blk (b := [(89, 1, 0, 2, 0, 0), (90, 1, 2, 1, 0, 0), (91, 3, 13, 243, 8, 415), (94, 1, 27, 3, 0, 0), (95, 1, 0, 3, 0, 0), (96, 3, 44, 104, 0, 0), (99, 2, 4, 4294967294, 0, 0), (101, 3, 8, 108, 0, 0)]) rfl) ?_
                      refine xg_t (xg_aload (va := (2, 3)) rfl rfl) ?_
                      refine xg_t (xg_iload (va := (0, wh)) rfl rfl) ?_
                      obtain ⟨v126, hv127, hp128⟩ := rowsOf3 (d := d + 0) (bd := bd) (fc := fc) (rr := rr) (so := wh) (hI) (by omega)
                      rcases hv127 with rfl | rfl | rfl | rfl | rfl | rfl
                      · refine xg_t (xg_cVr mX1_rowsOf (vs := [(0, wh)]) (rest := []) (rs := [(2, 4)]) (cn1 := 0) (sl1 := 0) rfl (hp128) rfl h3_25 rfl rfl rfl rfl rfl rfl rfl) ?_
                        refine xg_t (xg_astore (l1 := [(2, (2, 3)), (0, (2, 0)), (1, (0, wh))]) rfl rfl rfl) ?_
                        refine xg_t (xg_aload (va := (2, 4)) rfl rfl) ?_
                        refine xg_t (xg_ifnnT) ?_
                        refine xg_t (xg_blk (b := [(104, 1, 0, 3, 0, 0), (105, 3, 1, 5, 3, 151)]) rfl) ?_
                        refine xg_t (xg_aload (va := (2, 4)) rfl rfl) ?_
                        obtain ⟨f4_129, h4_131, hb130⟩ := (hI 4 (by decide) : cp4 (wget w 4))
                        refine xg_t (xg_getf (va := (0, f4_129)) h4_131 rfl) ?_
                        refine xg_t (xg_blk (b := [(108, 1, 12, 0, 1, 0)]) rfl) ?_
                        exact xg_e ⟨f4_129, w, ⟨rfl, rfl⟩, by omega, hI, xFr.rf⟩
                      · refine xg_t (xg_cVr mX1_rowsOf (vs := [(0, wh)]) (rest := []) (rs := [(2, 6)]) (cn1 := 0) (sl1 := 0) rfl (hp128) rfl h3_25 rfl rfl rfl rfl rfl rfl rfl) ?_
                        refine xg_t (xg_astore (l1 := [(2, (2, 3)), (0, (2, 0)), (1, (0, wh))]) rfl rfl rfl) ?_
                        refine xg_t (xg_aload (va := (2, 6)) rfl rfl) ?_
                        refine xg_t (xg_ifnnT) ?_
                        refine xg_t (xg_blk (b := [(104, 1, 0, 3, 0, 0), (105, 3, 1, 5, 3, 151)]) rfl) ?_
                        refine xg_t (xg_aload (va := (2, 6)) rfl rfl) ?_
                        obtain ⟨f6_132, h6_134, hb133⟩ := (hI 6 (by decide) : cp6 (wget w 6))
                        refine xg_t (xg_getf (va := (0, f6_132)) h6_134 rfl) ?_
                        refine xg_t (xg_blk (b := [(108, 1, 12, 0, 1, 0)]) rfl) ?_
                        exact xg_e ⟨f6_132, w, ⟨rfl, rfl⟩, by omega, hI, xFr.rf⟩
                      · refine xg_t (xg_cVr mX1_rowsOf (vs := [(0, wh)]) (rest := []) (rs := [(2, 8)]) (cn1 := 0) (sl1 := 0) rfl (hp128) rfl h3_25 rfl rfl rfl rfl rfl rfl rfl) ?_
                        refine xg_t (xg_astore (l1 := [(2, (2, 3)), (0, (2, 0)), (1, (0, wh))]) rfl rfl rfl) ?_
                        refine xg_t (xg_aload (va := (2, 8)) rfl rfl) ?_
                        refine xg_t (xg_ifnnT) ?_
                        refine xg_t (xg_blk (b := [(104, 1, 0, 3, 0, 0), (105, 3, 1, 5, 3, 151)]) rfl) ?_
                        refine xg_t (xg_aload (va := (2, 8)) rfl rfl) ?_
                        obtain ⟨f8_135, h8_137, hb136⟩ := (hI 8 (by decide) : cp8 (wget w 8))
                        refine xg_t (xg_getf (va := (0, f8_135)) h8_137 rfl) ?_
                        refine xg_t (xg_blk (b := [(108, 1, 12, 0, 1, 0)]) rfl) ?_
                        exact xg_e ⟨f8_135, w, ⟨rfl, rfl⟩, by omega, hI, xFr.rf⟩
                      · refine xg_t (xg_cVr mX1_rowsOf (vs := [(0, wh)]) (rest := []) (rs := [(2, 10)]) (cn1 := 0) (sl1 := 0) rfl (hp128) rfl h3_25 rfl rfl rfl rfl rfl rfl rfl) ?_
                        refine xg_t (xg_astore (l1 := [(2, (2, 3)), (0, (2, 0)), (1, (0, wh))]) rfl rfl rfl) ?_
                        refine xg_t (xg_aload (va := (2, 10)) rfl rfl) ?_
                        refine xg_t (xg_ifnnT) ?_
                        refine xg_t (xg_blk (b := [(104, 1, 0, 3, 0, 0), (105, 3, 1, 5, 3, 151)]) rfl) ?_
                        refine xg_t (xg_aload (va := (2, 10)) rfl rfl) ?_
                        obtain ⟨f10_138, h10_140, hb139⟩ := (hI 10 (by decide) : cp10 (wget w 10))
                        refine xg_t (xg_getf (va := (0, f10_138)) h10_140 rfl) ?_
                        refine xg_t (xg_blk (b := [(108, 1, 12, 0, 1, 0)]) rfl) ?_
                        exact xg_e ⟨f10_138, w, ⟨rfl, rfl⟩, by omega, hI, xFr.rf⟩
                      · refine xg_t (xg_cVr mX1_rowsOf (vs := [(0, wh)]) (rest := []) (rs := [(2, 12)]) (cn1 := 0) (sl1 := 0) rfl (hp128) rfl h3_25 rfl rfl rfl rfl rfl rfl rfl) ?_
                        refine xg_t (xg_astore (l1 := [(2, (2, 3)), (0, (2, 0)), (1, (0, wh))]) rfl rfl rfl) ?_
                        refine xg_t (xg_aload (va := (2, 12)) rfl rfl) ?_
                        refine xg_t (xg_ifnnT) ?_
                        refine xg_t (xg_blk (b := [(104, 1, 0, 3, 0, 0), (105, 3, 1, 5, 3, 151)]) rfl) ?_
                        refine xg_t (xg_aload (va := (2, 12)) rfl rfl) ?_
                        obtain ⟨f12_141, h12_143, hb142⟩ := (hI 12 (by decide) : cp12 (wget w 12))
                        refine xg_t (xg_getf (va := (0, f12_141)) h12_143 rfl) ?_
                        refine xg_t (xg_blk (b := [(108, 1, 12, 0, 1, 0)]) rfl) ?_
                        exact xg_e ⟨f12_141, w, ⟨rfl, rfl⟩, by omega, hI, xFr.rf⟩
                      · refine xg_t (xg_cVr mX1_rowsOf (vs := [(0, wh)]) (rest := []) (rs := [(3, 0)]) (cn1 := 0) (sl1 := 0) rfl (hp128) rfl h3_25 rfl rfl rfl rfl rfl rfl rfl) ?_
                        refine xg_t (xg_astore (l1 := [(2, (2, 3)), (0, (2, 0)), (1, (0, wh))]) rfl rfl rfl) ?_
                        refine xg_t (xg_aload (va := (3, 0)) rfl rfl) ?_
                        refine xg_t (xg_ifnnF) ?_
                        refine xg_t (xg_bip) ?_
                        refine xg_t (xg_goto) ?_
                        refine xg_t (xg_blk (b := [(108, 1, 12, 0, 1, 0)]) rfl) ?_
                        exact xg_e ⟨4294967294, w, ⟨rfl, rfl⟩, by omega, hI, xFr.rf⟩
theorem scCount {wh : Nat} (hI : xInv w) (hwh : wh ≤ 4294967295) : xPi (d + 2) mX11_count [(2, 0), (0, wh)] w bd fc rr (fun n w' => (n ≤ 4294967295) ∧ xInv w' ∧ xFr [] w w') := by
  refine xPi.of ?_
  show xTo (d + 2) mX11_count (0, [], [(0, (2, 0)), (1, (0, wh))], [], (w, bd, fc, 0, 0, rr)) (fun φ => ∃ n w', xEnd 1 [(0, n)] (w', bd, fc, 0, 0, rr) φ ∧ (n ≤ 4294967295) ∧ xInv w' ∧ xFr [] w w')
  refine xg_t (xg_blk (b := [(0, 1, 2, 1, 0, 0), (1, 55, 33, 143, 0, 2)]) rfl) ?_
  refine xg_t (xg_iload (va := (0, wh)) rfl rfl) ?_
  by_cases hc1 : wh = 9
  · refine xg_t (xg_swt (ks := [(9, 56), (10, 67), (11, 78), (12, 86), (13, 94), (14, 143), (15, 102), (16, 113), (17, 124), (18, 135)]) (u := wh) (z := 56) rfl rfl rfl xnm0 (xsw_y hc1)) ?_
    refine xg_t (xg_blk (b := [(56, 1, 0, 0, 0, 0), (57, 3, 1, 11, 0, 10), (60, 3, 1, 9, 5, 195), (63, 3, 1, 5, 3, 151), (66, 1, 12, 0, 1, 0)]) rfl) ?_
    refine xg_t (xg_aload (va := (2, 0)) rfl rfl) ?_
    have h0_2 := (hI 0 (by decide) : cp0 (wget w 0))
    refine xg_t (xg_getf (va := (2, 1)) h0_2 rfl) ?_
    obtain ⟨f1_3, f1_5, f1_7, f1_9, f1_11, f1_13, h1_15, hb4, hb6, hb8, hb10, hb12, hb14⟩ := (hI 1 (by decide) : cp1 (wget w 1))
    refine xg_t (xg_getf (va := (2, 14)) h1_15 rfl) ?_
    obtain ⟨f14_16, h14_18, hb17⟩ := (hI 14 (by decide) : cp14 (wget w 14))
    refine xg_t (xg_getf (va := (0, f14_16)) h14_18 rfl) ?_
    exact xg_e ⟨f14_16, w, ⟨rfl, rfl⟩, by omega, hI, xFr.rf⟩
  · by_cases hc19 : wh = 10
    · refine xg_t (xg_swt (ks := [(9, 56), (10, 67), (11, 78), (12, 86), (13, 94), (14, 143), (15, 102), (16, 113), (17, 124), (18, 135)]) (u := wh) (z := 67) rfl rfl rfl xnm0 (xsw_n hc1 (xsw_y hc19))) ?_
      refine xg_t (xg_blk (b := [(67, 1, 0, 0, 0, 0), (68, 3, 1, 11, 0, 10), (71, 3, 1, 9, 8, 252), (74, 3, 1, 5, 3, 151), (77, 1, 12, 0, 1, 0)]) rfl) ?_
      refine xg_t (xg_aload (va := (2, 0)) rfl rfl) ?_
      have h0_20 := (hI 0 (by decide) : cp0 (wget w 0))
      refine xg_t (xg_getf (va := (2, 1)) h0_20 rfl) ?_
      obtain ⟨f1_21, f1_23, f1_25, f1_27, f1_29, f1_31, h1_33, hb22, hb24, hb26, hb28, hb30, hb32⟩ := (hI 1 (by decide) : cp1 (wget w 1))
      refine xg_t (xg_getf (va := (2, 16)) h1_33 rfl) ?_
      obtain ⟨f16_34, h16_36, hb35⟩ := (hI 16 (by decide) : cp16 (wget w 16))
      refine xg_t (xg_getf (va := (0, f16_34)) h16_36 rfl) ?_
      exact xg_e ⟨f16_34, w, ⟨rfl, rfl⟩, by omega, hI, xFr.rf⟩
    · by_cases hc37 : wh = 11
      · refine xg_t (xg_swt (ks := [(9, 56), (10, 67), (11, 78), (12, 86), (13, 94), (14, 143), (15, 102), (16, 113), (17, 124), (18, 135)]) (u := wh) (z := 78) rfl rfl rfl xnm0 (xsw_n hc1 (xsw_n hc19 (xsw_y hc37)))) ?_
        refine xg_t (xg_blk (b := [(78, 1, 0, 0, 0, 0), (79, 3, 1, 11, 0, 10), (82, 3, 1, 9, 6, 186), (85, 1, 12, 0, 1, 0)]) rfl) ?_
        refine xg_t (xg_aload (va := (2, 0)) rfl rfl) ?_
        have h0_38 := (hI 0 (by decide) : cp0 (wget w 0))
        refine xg_t (xg_getf (va := (2, 1)) h0_38 rfl) ?_
        obtain ⟨f1_39, f1_41, f1_43, f1_45, f1_47, f1_49, h1_51, hb40, hb42, hb44, hb46, hb48, hb50⟩ := (hI 1 (by decide) : cp1 (wget w 1))
        refine xg_t (xg_getf (va := (0, f1_45)) h1_51 rfl) ?_
        exact xg_e ⟨f1_45, w, ⟨rfl, rfl⟩, by omega, hI, xFr.rf⟩
      · by_cases hc52 : wh = 12
        · refine xg_t (xg_swt (ks := [(9, 56), (10, 67), (11, 78), (12, 86), (13, 94), (14, 143), (15, 102), (16, 113), (17, 124), (18, 135)]) (u := wh) (z := 86) rfl rfl rfl xnm0 (xsw_n hc1 (xsw_n hc19 (xsw_n hc37 (xsw_y hc52))))) ?_
          refine xg_t (xg_blk (b := [(86, 1, 0, 0, 0, 0), (87, 3, 1, 11, 0, 10), (90, 3, 1, 9, 7, 189), (93, 1, 12, 0, 1, 0)]) rfl) ?_
          refine xg_t (xg_aload (va := (2, 0)) rfl rfl) ?_
          have h0_53 := (hI 0 (by decide) : cp0 (wget w 0))
          refine xg_t (xg_getf (va := (2, 1)) h0_53 rfl) ?_
          obtain ⟨f1_54, f1_56, f1_58, f1_60, f1_62, f1_64, h1_66, hb55, hb57, hb59, hb61, hb63, hb65⟩ := (hI 1 (by decide) : cp1 (wget w 1))
          refine xg_t (xg_getf (va := (0, f1_62)) h1_66 rfl) ?_
          exact xg_e ⟨f1_62, w, ⟨rfl, rfl⟩, by omega, hI, xFr.rf⟩
        · by_cases hc67 : wh = 13
          · refine xg_t (xg_swt (ks := [(9, 56), (10, 67), (11, 78), (12, 86), (13, 94), (14, 143), (15, 102), (16, 113), (17, 124), (18, 135)]) (u := wh) (z := 94) rfl rfl rfl xnm0 (xsw_n hc1 (xsw_n hc19 (xsw_n hc37 (xsw_n hc52 (xsw_y hc67)))))) ?_
            refine xg_t (xg_blk (b := [(94, 1, 0, 0, 0, 0), (95, 3, 1, 11, 0, 10), (98, 3, 1, 9, 9, 273), (101, 1, 12, 0, 1, 0)]) rfl) ?_
            refine xg_t (xg_aload (va := (2, 0)) rfl rfl) ?_
            have h0_68 := (hI 0 (by decide) : cp0 (wget w 0))
            refine xg_t (xg_getf (va := (2, 1)) h0_68 rfl) ?_
            obtain ⟨f1_69, f1_71, f1_73, f1_75, f1_77, f1_79, h1_81, hb70, hb72, hb74, hb76, hb78, hb80⟩ := (hI 1 (by decide) : cp1 (wget w 1))
            refine xg_t (xg_getf (va := (0, f1_79)) h1_81 rfl) ?_
            exact xg_e ⟨f1_79, w, ⟨rfl, rfl⟩, by omega, hI, xFr.rf⟩
          · by_cases hc82 : wh = 14
            · refine xg_t (xg_swt (ks := [(9, 56), (10, 67), (11, 78), (12, 86), (13, 94), (14, 143), (15, 102), (16, 113), (17, 124), (18, 135)]) (u := wh) (z := 143) rfl rfl rfl xnm0 (xsw_n hc1 (xsw_n hc19 (xsw_n hc37 (xsw_n hc52 (xsw_n hc67 (xsw_y hc82))))))) ?_
              refine xg_t (xg_blk (b := [(143, 1, 0, 0, 0, 0), (144, 1, 2, 1, 0, 0), (145, 3, 13, 46, 88, 375), (148, 1, 12, 0, 1, 0)]) rfl) ?_
              refine xg_t (xg_aload (va := (2, 0)) rfl rfl) ?_
              refine xg_t (xg_iload (va := (0, wh)) rfl rfl) ?_
              have h0_83 := (hI 0 (by decide) : cp0 (wget w 0))
              refine xg_cVi mX11_countOfFilm (vs := [(0, wh)]) (rest := []) (cn1 := 0) (sl1 := 0) rfl (scCountOfFilm (hI) (by omega)) rfl h0_83 rfl rfl rfl rfl rfl rfl (fun n88 w84 hq85 => ?_)
              obtain ⟨hn89, hI86, hF87⟩ := hq85
              exact xg_e ⟨n88, w84, ⟨rfl, rfl⟩, by omega, hI86, (hF87.up (by decide))⟩
            · by_cases hc90 : wh = 15
              · refine xg_t (xg_swt (ks := [(9, 56), (10, 67), (11, 78), (12, 86), (13, 94), (14, 143), (15, 102), (16, 113), (17, 124), (18, 135)]) (u := wh) (z := 102) rfl rfl rfl xnm0 (xsw_n hc1 (xsw_n hc19 (xsw_n hc37 (xsw_n hc52 (xsw_n hc67 (xsw_n hc82 (xsw_y hc90)))))))) ?_
                refine xg_t (xg_blk (b := [(102, 1, 0, 0, 0, 0), (103, 3, 1, 11, 0, 10), (106, 3, 1, 9, 10, 316), (109, 3, 1, 5, 3, 151), (112, 1, 12, 0, 1, 0)]) rfl) ?_
                refine xg_t (xg_aload (va := (2, 0)) rfl rfl) ?_
                have h0_91 := (hI 0 (by decide) : cp0 (wget w 0))
                refine xg_t (xg_getf (va := (2, 1)) h0_91 rfl) ?_
                obtain ⟨f1_92, f1_94, f1_96, f1_98, f1_100, f1_102, h1_104, hb93, hb95, hb97, hb99, hb101, hb103⟩ := (hI 1 (by decide) : cp1 (wget w 1))
                refine xg_t (xg_getf (va := (2, 18)) h1_104 rfl) ?_
                obtain ⟨f18_105, h18_107, hb106⟩ := (hI 18 (by decide) : cp18 (wget w 18))
                refine xg_t (xg_getf (va := (0, f18_105)) h18_107 rfl) ?_
                exact xg_e ⟨f18_105, w, ⟨rfl, rfl⟩, by omega, hI, xFr.rf⟩
              · by_cases hc108 : wh = 16
                · refine xg_t (xg_swt (ks := [(9, 56), (10, 67), (11, 78), (12, 86), (13, 94), (14, 143), (15, 102), (16, 113), (17, 124), (18, 135)]) (u := wh) (z := 113) rfl rfl rfl xnm0 (xsw_n hc1 (xsw_n hc19 (xsw_n hc37 (xsw_n hc52 (xsw_n hc67 (xsw_n hc82 (xsw_n hc90 (xsw_y hc108))))))))) ?_
                  refine xg_t (xg_blk (b := [(113, 1, 0, 0, 0, 0), (114, 3, 1, 11, 0, 10), (117, 3, 1, 9, 11, 72), (120, 3, 1, 5, 3, 151), (123, 1, 12, 0, 1, 0)]) rfl) ?_
                  refine xg_t (xg_aload (va := (2, 0)) rfl rfl) ?_
                  have h0_109 := (hI 0 (by decide) : cp0 (wget w 0))
                  refine xg_t (xg_getf (va := (2, 1)) h0_109 rfl) ?_
                  obtain ⟨f1_110, f1_112, f1_114, f1_116, f1_118, f1_120, h1_122, hb111, hb113, hb115, hb117, hb119, hb121⟩ := (hI 1 (by decide) : cp1 (wget w 1))
                  refine xg_t (xg_getf (va := (2, 20)) h1_122 rfl) ?_
                  obtain ⟨f20_123, h20_125, hb124⟩ := (hI 20 (by decide) : cp20 (wget w 20))
                  refine xg_t (xg_getf (va := (0, f20_123)) h20_125 rfl) ?_
                  exact xg_e ⟨f20_123, w, ⟨rfl, rfl⟩, by omega, hI, xFr.rf⟩
                · by_cases hc126 : wh = 17
                  · refine xg_t (xg_swt (ks := [(9, 56), (10, 67), (11, 78), (12, 86), (13, 94), (14, 143), (15, 102), (16, 113), (17, 124), (18, 135)]) (u := wh) (z := 124) rfl rfl rfl xnm0 (xsw_n hc1 (xsw_n hc19 (xsw_n hc37 (xsw_n hc52 (xsw_n hc67 (xsw_n hc82 (xsw_n hc90 (xsw_n hc108 (xsw_y hc126)))))))))) ?_
                    refine xg_t (xg_blk (b := [(124, 1, 0, 0, 0, 0), (125, 3, 1, 11, 0, 10), (128, 3, 1, 9, 12, 367), (131, 3, 1, 5, 3, 151), (134, 1, 12, 0, 1, 0)]) rfl) ?_
                    refine xg_t (xg_aload (va := (2, 0)) rfl rfl) ?_
                    have h0_127 := (hI 0 (by decide) : cp0 (wget w 0))
                    refine xg_t (xg_getf (va := (2, 1)) h0_127 rfl) ?_
                    obtain ⟨f1_128, f1_130, f1_132, f1_134, f1_136, f1_138, h1_140, hb129, hb131, hb133, hb135, hb137, hb139⟩ := (hI 1 (by decide) : cp1 (wget w 1))
                    refine xg_t (xg_getf (va := (2, 22)) h1_140 rfl) ?_
                    obtain ⟨f22_141, h22_143, hb142⟩ := (hI 22 (by decide) : cp22 (wget w 22))
                    refine xg_t (xg_getf (va := (0, f22_141)) h22_143 rfl) ?_
                    exact xg_e ⟨f22_141, w, ⟨rfl, rfl⟩, by omega, hI, xFr.rf⟩
                  · by_cases hc144 : wh = 18
                    · refine xg_t (xg_swt (ks := [(9, 56), (10, 67), (11, 78), (12, 86), (13, 94), (14, 143), (15, 102), (16, 113), (17, 124), (18, 135)]) (u := wh) (z := 135) rfl rfl rfl xnm0 (xsw_n hc1 (xsw_n hc19 (xsw_n hc37 (xsw_n hc52 (xsw_n hc67 (xsw_n hc82 (xsw_n hc90 (xsw_n hc108 (xsw_n hc126 (xsw_y hc144))))))))))) ?_
                      refine xg_t (xg_blk (b := [(135, 1, 0, 0, 0, 0), (136, 3, 1, 11, 0, 10), (139, 3, 13, 323, 72, 216), (142, 1, 12, 0, 1, 0)]) rfl) ?_
                      refine xg_t (xg_aload (va := (2, 0)) rfl rfl) ?_
                      have h0_145 := (hI 0 (by decide) : cp0 (wget w 0))
                      refine xg_t (xg_getf (va := (2, 1)) h0_145 rfl) ?_
                      obtain ⟨f1_146, f1_148, f1_150, f1_152, f1_154, f1_156, h1_158, hb147, hb149, hb151, hb153, hb155, hb157⟩ := (hI 1 (by decide) : cp1 (wget w 1))
                      refine xg_cVi mX9_cracksInView (vs := []) (rest := []) (cn1 := 0) (sl1 := 0) rfl (tdCracksInView (hI)) rfl h1_158 rfl rfl rfl rfl rfl rfl (fun n163 w159 hq160 => ?_)
                      obtain ⟨hn164, hI161, hF162⟩ := hq160
                      exact xg_e ⟨n163, w159, ⟨rfl, rfl⟩, by omega, hI161, (hF162.up (by decide))⟩
                    · refine xg_t (xg_swt (ks := [(9, 56), (10, 67), (11, 78), (12, 86), (13, 94), (14, 143), (15, 102), (16, 113), (17, 124), (18, 135)]) (u := wh) (z := 143) rfl rfl rfl xnm0 (xsw_n hc1 (xsw_n hc19 (xsw_n hc37 (xsw_n hc52 (xsw_n hc67 (xsw_n hc82 (xsw_n hc90 (xsw_n hc108 (xsw_n hc126 (xsw_n hc144 (xsw_d)))))))))))) ?_
                      refine xg_t (xg_blk (b := [(143, 1, 0, 0, 0, 0), (144, 1, 2, 1, 0, 0), (145, 3, 13, 46, 88, 375), (148, 1, 12, 0, 1, 0)]) rfl) ?_
                      refine xg_t (xg_aload (va := (2, 0)) rfl rfl) ?_
                      refine xg_t (xg_iload (va := (0, wh)) rfl rfl) ?_
                      have h0_165 := (hI 0 (by decide) : cp0 (wget w 0))
                      refine xg_cVi mX11_countOfFilm (vs := [(0, wh)]) (rest := []) (cn1 := 0) (sl1 := 0) rfl (scCountOfFilm (hI) (by omega)) rfl h0_165 rfl rfl rfl rfl rfl rfl (fun n170 w166 hq167 => ?_)
                      obtain ⟨hn171, hI168, hF169⟩ := hq167
                      exact xg_e ⟨n170, w166, ⟨rfl, rfl⟩, by omega, hI168, (hF169.up (by decide))⟩
end XCO
