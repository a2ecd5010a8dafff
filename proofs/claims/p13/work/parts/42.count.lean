section
/-! rowsOf, count -/
section XCO
variable {d : Nat} {w : List (List xE)} {bd : List (Nat × Nat)} {fc : List (Nat × Nat × Bool)} {rr : Nat × Nat}
theorem rowsOf3 {so : Nat} (hI : xInv w) (hs : so ≤ 4294967295) : ∃ v : xV, (v = (2, 4) ∨ v = (2, 6) ∨ v = (2, 8) ∨ v = (2, 10) ∨ v = (2, 12) ∨ v = (3, 0)) ∧ xPr d mX1_rowsOf [(2, 3), (0, so)] w bd fc rr [v] w := by
  suffices h : xTo d mX1_rowsOf (0, [], [(0, (2, 3)), (1, (0, so))], [], (w, bd, fc, 0, 0, rr)) (fun φ => ∃ v : xV, xEnd 3 [v] (w, bd, fc, 0, 0, rr) φ ∧ (v = (2, 4) ∨ v = (2, 6) ∨ v = (2, 8) ∨ v = (2, 10) ∨ v = (2, 12) ∨ v = (3, 0))) by
    obtain ⟨φ, q1, v, q2, q3⟩ := h
    exact ⟨v, q3, φ, q1, q2.1, q2.2⟩
  refine xg_t (xg_blk (b := [(0, 1, 2, 1, 0, 0), (1, 35, 33, 61, 0, 13)]) rfl) ?_
  refine xg_t (xg_iload (va := (0, so)) rfl rfl) ?_
  by_cases hc1 : so = 0
  · refine xg_t (xg_swt (ks := [(0, 36), (1, 41), (2, 46), (3, 51), (4, 56)]) (u := so) (z := 36) rfl rfl rfl xnm0 (xsw_y hc1)) ?_
    refine xg_t (xg_blk (b := [(36, 1, 0, 0, 0, 0), (37, 3, 1, 1, 0, 14), (40, 1, 12, 0, 3, 0)]) rfl) ?_
    refine xg_t (xg_aload (va := (2, 3)) rfl rfl) ?_
    refine xoC3 (hI 3 (by decide) : cp3 (wget w 3)) (fun f3_2 f3_4 f3_6 f3_8 f3_10 h3_12 hb3 hb5 hb7 hb9 hb11 => ?_)
    refine xg_t (xg_getf (va := (2, 4)) h3_12 rfl) ?_
    exact xg_e ⟨(2, 4), ⟨rfl, rfl⟩, Or.inl rfl⟩
  · by_cases hc13 : so = 1
    · refine xg_t (xg_swt (ks := [(0, 36), (1, 41), (2, 46), (3, 51), (4, 56)]) (u := so) (z := 41) rfl rfl rfl xnm0 (xsw_n hc1 (xsw_y hc13))) ?_
      refine xg_t (xg_blk (b := [(41, 1, 0, 0, 0, 0), (42, 3, 1, 1, 1, 18), (45, 1, 12, 0, 3, 0)]) rfl) ?_
      refine xg_t (xg_aload (va := (2, 3)) rfl rfl) ?_
      refine xoC3 (hI 3 (by decide) : cp3 (wget w 3)) (fun f3_14 f3_16 f3_18 f3_20 f3_22 h3_24 hb15 hb17 hb19 hb21 hb23 => ?_)
      refine xg_t (xg_getf (va := (2, 6)) h3_24 rfl) ?_
      exact xg_e ⟨(2, 6), ⟨rfl, rfl⟩, Or.inr (Or.inl rfl)⟩
    · by_cases hc25 : so = 2
      · refine xg_t (xg_swt (ks := [(0, 36), (1, 41), (2, 46), (3, 51), (4, 56)]) (u := so) (z := 46) rfl rfl rfl xnm0 (xsw_n hc1 (xsw_n hc13 (xsw_y hc25)))) ?_
        refine xg_t (xg_blk (b := [(46, 1, 0, 0, 0, 0), (47, 3, 1, 1, 2, 21), (50, 1, 12, 0, 3, 0)]) rfl) ?_
        refine xg_t (xg_aload (va := (2, 3)) rfl rfl) ?_
        refine xoC3 (hI 3 (by decide) : cp3 (wget w 3)) (fun f3_26 f3_28 f3_30 f3_32 f3_34 h3_36 hb27 hb29 hb31 hb33 hb35 => ?_)
        refine xg_t (xg_getf (va := (2, 8)) h3_36 rfl) ?_
        exact xg_e ⟨(2, 8), ⟨rfl, rfl⟩, Or.inr (Or.inr (Or.inl rfl))⟩
      · by_cases hc37 : so = 3
        · refine xg_t (xg_swt (ks := [(0, 36), (1, 41), (2, 46), (3, 51), (4, 56)]) (u := so) (z := 51) rfl rfl rfl xnm0 (xsw_n hc1 (xsw_n hc13 (xsw_n hc25 (xsw_y hc37))))) ?_
          refine xg_t (xg_blk (b := [(51, 1, 0, 0, 0, 0), (52, 3, 1, 1, 3, 24), (55, 1, 12, 0, 3, 0)]) rfl) ?_
          refine xg_t (xg_aload (va := (2, 3)) rfl rfl) ?_
          refine xoC3 (hI 3 (by decide) : cp3 (wget w 3)) (fun f3_38 f3_40 f3_42 f3_44 f3_46 h3_48 hb39 hb41 hb43 hb45 hb47 => ?_)
          refine xg_t (xg_getf (va := (2, 10)) h3_48 rfl) ?_
          exact xg_e ⟨(2, 10), ⟨rfl, rfl⟩, Or.inr (Or.inr (Or.inr (Or.inl rfl)))⟩
        · by_cases hc49 : so = 4
          · refine xg_t (xg_swt (ks := [(0, 36), (1, 41), (2, 46), (3, 51), (4, 56)]) (u := so) (z := 56) rfl rfl rfl xnm0 (xsw_n hc1 (xsw_n hc13 (xsw_n hc25 (xsw_n hc37 (xsw_y hc49)))))) ?_
            refine xg_t (xg_blk (b := [(56, 1, 0, 0, 0, 0), (57, 3, 1, 1, 4, 27), (60, 1, 12, 0, 3, 0)]) rfl) ?_
            refine xg_t (xg_aload (va := (2, 3)) rfl rfl) ?_
            refine xoC3 (hI 3 (by decide) : cp3 (wget w 3)) (fun f3_50 f3_52 f3_54 f3_56 f3_58 h3_60 hb51 hb53 hb55 hb57 hb59 => ?_)
            refine xg_t (xg_getf (va := (2, 12)) h3_60 rfl) ?_
            exact xg_e ⟨(2, 12), ⟨rfl, rfl⟩, Or.inr (Or.inr (Or.inr (Or.inr (Or.inl rfl))))⟩
          · refine xg_t (xg_swt (ks := [(0, 36), (1, 41), (2, 46), (3, 51), (4, 56)]) (u := so) (z := 61) rfl rfl rfl xnm0 (xsw_n hc1 (xsw_n hc13 (xsw_n hc25 (xsw_n hc37 (xsw_n hc49 (xsw_d))))))) ?_
            refine xg_t (xg_blk (b := [(61, 1, 45, 0, 0, 0), (62, 1, 12, 0, 3, 0)]) rfl) ?_
            refine xg_t (xg_null) ?_
            exact xg_e ⟨(3, 0), ⟨rfl, rfl⟩, Or.inr (Or.inr (Or.inr (Or.inr (Or.inr (rfl)))))⟩
theorem scCountOfFilm {wh : Nat} (hI : xInv w) (hwh : wh ≤ 4294967295) : xPi (d + 1) mX11_countOfFilm [(2, 0), (0, wh)] w bd fc rr (fun n w' => (n ≤ 4294967295) ∧ xInv w' ∧ xFr [] w w') := by
  refine xPi.of ?_
  show xTo (d + 1) mX11_countOfFilm (0, [], [(0, (2, 0)), (1, (0, wh))], [], (w, bd, fc, 0, 0, rr)) (fun φ => ∃ n w', xEnd 1 [(0, n)] (w', bd, fc, 0, 0, rr) φ ∧ (n ≤ 4294967295) ∧ xInv w' ∧ xFr [] w w')
  have h0_1 := (hI 0 (by decide) : cp0 (wget w 0))
  refine xoC1 (hI 1 (by decide) : cp1 (wget w 1)) (fun f1_2 f1_4 f1_6 f1_8 f1_10 f1_12 h1_14 hb3 hb5 hb7 hb9 hb11 hb13 => ?_)
  refine xoC3 (hI 3 (by decide) : cp3 (wget w 3)) (fun f3_15 f3_17 f3_19 f3_21 f3_23 h3_25 hb16 hb18 hb20 hb22 hb24 => ?_)
  refine xg_t (xg_blk (b := [(0, 1, 0, 0, 0, 0), (1, 3, 1, 11, 0, 10), (4, 3, 1, 9, 4, 38), (7, 1, 27, 2, 0, 0), (8, 1, 2, 1, 0, 0), (9, 55, 33, 89, 0, 3)]) rfl) ?_
  refine xg_t (xg_aload (va := (2, 0)) rfl rfl) ?_
  refine xg_t (xg_getf (va := (2, 1)) h0_1 rfl) ?_
  refine xg_t (xg_getf (va := (2, 3)) h1_14 rfl) ?_
  refine xg_t (xg_astore (l1 := [(0, (2, 0)), (1, (0, wh))]) rfl rfl rfl) ?_
  refine xg_t (xg_iload (va := (0, wh)) rfl rfl) ?_
  by_cases hc26 : wh = 5
  · refine xg_t (xg_swt (ks := [(5, 64), (6, 69), (7, 74), (8, 79), (9, 89), (10, 89), (11, 89), (12, 89), (13, 89), (14, 84)]) (u := wh) (z := 64) rfl rfl rfl xnm0 (xsw_y hc26)) ?_
    refine xg_t (xg_blk (b := [(64, 1, 0, 2, 0, 0), (65, 3, 1, 1, 7, 225), (68, 1, 12, 0, 1, 0)]) rfl) ?_
    refine xg_t (xg_aload (va := (2, 3)) rfl rfl) ?_
    refine xg_t (xg_getf (va := (0, f3_19)) h3_25 rfl) ?_
    exact xg_e ⟨f3_19, w, ⟨rfl, rfl⟩, by omega, hI, xFr.rf⟩
  · by_cases hc27 : wh = 6
    · refine xg_t (xg_swt (ks := [(5, 64), (6, 69), (7, 74), (8, 79), (9, 89), (10, 89), (11, 89), (12, 89), (13, 89), (14, 84)]) (u := wh) (z := 69) rfl rfl rfl xnm0 (xsw_n hc26 (xsw_y hc27))) ?_
      refine xg_t (xg_blk (b := [(69, 1, 0, 2, 0, 0), (70, 3, 1, 1, 8, 255), (73, 1, 12, 0, 1, 0)]) rfl) ?_
      refine xg_t (xg_aload (va := (2, 3)) rfl rfl) ?_
      refine xg_t (xg_getf (va := (0, f3_21)) h3_25 rfl) ?_
      exact xg_e ⟨f3_21, w, ⟨rfl, rfl⟩, by omega, hI, xFr.rf⟩
    · by_cases hc28 : wh = 7
      · refine xg_t (xg_swt (ks := [(5, 64), (6, 69), (7, 74), (8, 79), (9, 89), (10, 89), (11, 89), (12, 89), (13, 89), (14, 84)]) (u := wh) (z := 74) rfl rfl rfl xnm0 (xsw_n hc26 (xsw_n hc27 (xsw_y hc28)))) ?_
        refine xg_t (xg_blk (b := [(74, 1, 0, 2, 0, 0), (75, 3, 1, 1, 5, 297), (78, 1, 12, 0, 1, 0)]) rfl) ?_
        refine xg_t (xg_aload (va := (2, 3)) rfl rfl) ?_
        refine xg_t (xg_getf (va := (0, f3_15)) h3_25 rfl) ?_
        exact xg_e ⟨f3_15, w, ⟨rfl, rfl⟩, by omega, hI, xFr.rf⟩
      · by_cases hc29 : wh = 8
        · refine xg_t (xg_swt (ks := [(5, 64), (6, 69), (7, 74), (8, 79), (9, 89), (10, 89), (11, 89), (12, 89), (13, 89), (14, 84)]) (u := wh) (z := 79) rfl rfl rfl xnm0 (xsw_n hc26 (xsw_n hc27 (xsw_n hc28 (xsw_y hc29))))) ?_
          refine xg_t (xg_blk (b := [(79, 1, 0, 2, 0, 0), (80, 3, 1, 1, 6, 300), (83, 1, 12, 0, 1, 0)]) rfl) ?_
          refine xg_t (xg_aload (va := (2, 3)) rfl rfl) ?_
          refine xg_t (xg_getf (va := (0, f3_17)) h3_25 rfl) ?_
          exact xg_e ⟨f3_17, w, ⟨rfl, rfl⟩, by omega, hI, xFr.rf⟩
        · by_cases hc30 : wh = 9
          · refine xg_t (xg_swt (ks := [(5, 64), (6, 69), (7, 74), (8, 79), (9, 89), (10, 89), (11, 89), (12, 89), (13, 89), (14, 84)]) (u := wh) (z := 89) rfl rfl rfl xnm0 (xsw_n hc26 (xsw_n hc27 (xsw_n hc28 (xsw_n hc29 (xsw_y hc30)))))) ?_
            refine xg_t (xg_blk (b := [(89, 1, 0, 2, 0, 0), (90, 1, 2, 1, 0, 0), (91, 3, 13, 243, 8, 415), (94, 1, 27, 3, 0, 0), (95, 1, 0, 3, 0, 0), (96, 3, 44, 104, 0, 0), (99, 2, 4, 4294967294, 0, 0), (101, 3, 8, 108, 0, 0)]) rfl) ?_
            refine xg_t (xg_aload (va := (2, 3)) rfl rfl) ?_
            refine xg_t (xg_iload (va := (0, wh)) rfl rfl) ?_
            obtain ⟨v31, hv32, hp33⟩ := rowsOf3 (d := d + 0) (bd := bd) (fc := fc) (rr := rr) (so := wh) (hI) (by omega)
            rcases hv32 with rfl | rfl | rfl | rfl | rfl | rfl
            · refine xg_t (xg_cVr mX1_rowsOf (vs := [(0, wh)]) (rest := []) (rs := [(2, 4)]) (cn1 := 0) (sl1 := 0) rfl (hp33) rfl h3_25 rfl rfl rfl rfl rfl rfl rfl) ?_
              refine xg_t (xg_astore (l1 := [(2, (2, 3)), (0, (2, 0)), (1, (0, wh))]) rfl rfl rfl) ?_
              refine xg_t (xg_aload (va := (2, 4)) rfl rfl) ?_
              refine xg_t (xg_ifnnT) ?_
              refine xg_t (xg_blk (b := [(104, 1, 0, 3, 0, 0), (105, 3, 1, 5, 3, 151)]) rfl) ?_
              refine xg_t (xg_aload (va := (2, 4)) rfl rfl) ?_
              obtain ⟨f4_34, h4_36, hb35⟩ := (hI 4 (by decide) : cp4 (wget w 4))
              refine xg_t (xg_getf (va := (0, f4_34)) h4_36 rfl) ?_
              refine xg_t (xg_blk (b := [(108, 1, 12, 0, 1, 0)]) rfl) ?_
              exact xg_e ⟨f4_34, w, ⟨rfl, rfl⟩, by omega, hI, xFr.rf⟩
            · refine xg_t (xg_cVr mX1_rowsOf (vs := [(0, wh)]) (rest := []) (rs := [(2, 6)]) (cn1 := 0) (sl1 := 0) rfl (hp33) rfl h3_25 rfl rfl rfl rfl rfl rfl rfl) ?_
              refine xg_t (xg_astore (l1 := [(2, (2, 3)), (0, (2, 0)), (1, (0, wh))]) rfl rfl rfl) ?_
              refine xg_t (xg_aload (va := (2, 6)) rfl rfl) ?_
              refine xg_t (xg_ifnnT) ?_
              refine xg_t (xg_blk (b := [(104, 1, 0, 3, 0, 0), (105, 3, 1, 5, 3, 151)]) rfl) ?_
              refine xg_t (xg_aload (va := (2, 6)) rfl rfl) ?_
              obtain ⟨f6_37, h6_39, hb38⟩ := (hI 6 (by decide) : cp6 (wget w 6))
              refine xg_t (xg_getf (va := (0, f6_37)) h6_39 rfl) ?_
              refine xg_t (xg_blk (b := [(108, 1, 12, 0, 1, 0)]) rfl) ?_
              exact xg_e ⟨f6_37, w, ⟨rfl, rfl⟩, by omega, hI, xFr.rf⟩
            · refine xg_t (xg_cVr mX1_rowsOf (vs := [(0, wh)]) (rest := []) (rs := [(2, 8)]) (cn1 := 0) (sl1 := 0) rfl (hp33) rfl h3_25 rfl rfl rfl rfl rfl rfl rfl) ?_
              refine xg_t (xg_astore (l1 := [(2, (2, 3)), (0, (2, 0)), (1, (0, wh))]) rfl rfl rfl) ?_
              refine xg_t (xg_aload (va := (2, 8)) rfl rfl) ?_
              refine xg_t (xg_ifnnT) ?_
              refine xg_t (xg_blk (b := [(104, 1, 0, 3, 0, 0), (105, 3, 1, 5, 3, 151)]) rfl) ?_
              refine xg_t (xg_aload (va := (2, 8)) rfl rfl) ?_
              obtain ⟨f8_40, h8_42, hb41⟩ := (hI 8 (by decide) : cp8 (wget w 8))
              refine xg_t (xg_getf (va := (0, f8_40)) h8_42 rfl) ?_
              refine xg_t (xg_blk (b := [(108, 1, 12, 0, 1, 0)]) rfl) ?_
              exact xg_e ⟨f8_40, w, ⟨rfl, rfl⟩, by omega, hI, xFr.rf⟩
            · refine xg_t (xg_cVr mX1_rowsOf (vs := [(0, wh)]) (rest := []) (rs := [(2, 10)]) (cn1 := 0) (sl1 := 0) rfl (hp33) rfl h3_25 rfl rfl rfl rfl rfl rfl rfl) ?_
              refine xg_t (xg_astore (l1 := [(2, (2, 3)), (0, (2, 0)), (1, (0, wh))]) rfl rfl rfl) ?_
              refine xg_t (xg_aload (va := (2, 10)) rfl rfl) ?_
              refine xg_t (xg_ifnnT) ?_
              refine xg_t (xg_blk (b := [(104, 1, 0, 3, 0, 0), (105, 3, 1, 5, 3, 151)]) rfl) ?_
              refine xg_t (xg_aload (va := (2, 10)) rfl rfl) ?_
              obtain ⟨f10_43, h10_45, hb44⟩ := (hI 10 (by decide) : cp10 (wget w 10))
              refine xg_t (xg_getf (va := (0, f10_43)) h10_45 rfl) ?_
              refine xg_t (xg_blk (b := [(108, 1, 12, 0, 1, 0)]) rfl) ?_
              exact xg_e ⟨f10_43, w, ⟨rfl, rfl⟩, by omega, hI, xFr.rf⟩
            · refine xg_t (xg_cVr mX1_rowsOf (vs := [(0, wh)]) (rest := []) (rs := [(2, 12)]) (cn1 := 0) (sl1 := 0) rfl (hp33) rfl h3_25 rfl rfl rfl rfl rfl rfl rfl) ?_
              refine xg_t (xg_astore (l1 := [(2, (2, 3)), (0, (2, 0)), (1, (0, wh))]) rfl rfl rfl) ?_
              refine xg_t (xg_aload (va := (2, 12)) rfl rfl) ?_
              refine xg_t (xg_ifnnT) ?_
              refine xg_t (xg_blk (b := [(104, 1, 0, 3, 0, 0), (105, 3, 1, 5, 3, 151)]) rfl) ?_
              refine xg_t (xg_aload (va := (2, 12)) rfl rfl) ?_
              obtain ⟨f12_46, h12_48, hb47⟩ := (hI 12 (by decide) : cp12 (wget w 12))
              refine xg_t (xg_getf (va := (0, f12_46)) h12_48 rfl) ?_
              refine xg_t (xg_blk (b := [(108, 1, 12, 0, 1, 0)]) rfl) ?_
              exact xg_e ⟨f12_46, w, ⟨rfl, rfl⟩, by omega, hI, xFr.rf⟩
            · refine xg_t (xg_cVr mX1_rowsOf (vs := [(0, wh)]) (rest := []) (rs := [(3, 0)]) (cn1 := 0) (sl1 := 0) rfl (hp33) rfl h3_25 rfl rfl rfl rfl rfl rfl rfl) ?_
              refine xg_t (xg_astore (l1 := [(2, (2, 3)), (0, (2, 0)), (1, (0, wh))]) rfl rfl rfl) ?_
              refine xg_t (xg_aload (va := (3, 0)) rfl rfl) ?_
              refine xg_t (xg_ifnnF) ?_
              refine xg_t (xg_bip) ?_
              refine xg_t (xg_goto) ?_
              refine xg_t (xg_blk (b := [(108, 1, 12, 0, 1, 0)]) rfl) ?_
              exact xg_e ⟨4294967294, w, ⟨rfl, rfl⟩, by first | decide | omega, hI, xFr.rf⟩
          · by_cases hc49 : wh = 10
            · refine xg_t (xg_swt (ks := [(5, 64), (6, 69), (7, 74), (8, 79), (9, 89), (10, 89), (11, 89), (12, 89), (13, 89), (14, 84)]) (u := wh) (z := 89) rfl rfl rfl xnm0 (xsw_n hc26 (xsw_n hc27 (xsw_n hc28 (xsw_n hc29 (xsw_n hc30 (xsw_y hc49))))))) ?_
              refine xg_t (xg_blk (b := [(89, 1, 0, 2, 0, 0), (90, 1, 2, 1, 0, 0), (91, 3, 13, 243, 8, 415), (94, 1, 27, 3, 0, 0), (95, 1, 0, 3, 0, 0), (96, 3, 44, 104, 0, 0), (99, 2, 4, 4294967294, 0, 0), (101, 3, 8, 108, 0, 0)]) rfl) ?_
              refine xg_t (xg_aload (va := (2, 3)) rfl rfl) ?_
              refine xg_t (xg_iload (va := (0, wh)) rfl rfl) ?_
              obtain ⟨v50, hv51, hp52⟩ := rowsOf3 (d := d + 0) (bd := bd) (fc := fc) (rr := rr) (so := wh) (hI) (by omega)
              rcases hv51 with rfl | rfl | rfl | rfl | rfl | rfl
              · refine xg_t (xg_cVr mX1_rowsOf (vs := [(0, wh)]) (rest := []) (rs := [(2, 4)]) (cn1 := 0) (sl1 := 0) rfl (hp52) rfl h3_25 rfl rfl rfl rfl rfl rfl rfl) ?_
                refine xg_t (xg_astore (l1 := [(2, (2, 3)), (0, (2, 0)), (1, (0, wh))]) rfl rfl rfl) ?_
                refine xg_t (xg_aload (va := (2, 4)) rfl rfl) ?_
                refine xg_t (xg_ifnnT) ?_
                refine xg_t (xg_blk (b := [(104, 1, 0, 3, 0, 0), (105, 3, 1, 5, 3, 151)]) rfl) ?_
                refine xg_t (xg_aload (va := (2, 4)) rfl rfl) ?_
                obtain ⟨f4_53, h4_55, hb54⟩ := (hI 4 (by decide) : cp4 (wget w 4))
                refine xg_t (xg_getf (va := (0, f4_53)) h4_55 rfl) ?_
                refine xg_t (xg_blk (b := [(108, 1, 12, 0, 1, 0)]) rfl) ?_
                exact xg_e ⟨f4_53, w, ⟨rfl, rfl⟩, by omega, hI, xFr.rf⟩
              · refine xg_t (xg_cVr mX1_rowsOf (vs := [(0, wh)]) (rest := []) (rs := [(2, 6)]) (cn1 := 0) (sl1 := 0) rfl (hp52) rfl h3_25 rfl rfl rfl rfl rfl rfl rfl) ?_
                refine xg_t (xg_astore (l1 := [(2, (2, 3)), (0, (2, 0)), (1, (0, wh))]) rfl rfl rfl) ?_
                refine xg_t (xg_aload (va := (2, 6)) rfl rfl) ?_
                refine xg_t (xg_ifnnT) ?_
                refine xg_t (xg_blk (b := [(104, 1, 0, 3, 0, 0), (105, 3, 1, 5, 3, 151)]) rfl) ?_
                refine xg_t (xg_aload (va := (2, 6)) rfl rfl) ?_
                obtain ⟨f6_56, h6_58, hb57⟩ := (hI 6 (by decide) : cp6 (wget w 6))
                refine xg_t (xg_getf (va := (0, f6_56)) h6_58 rfl) ?_
                refine xg_t (xg_blk (b := [(108, 1, 12, 0, 1, 0)]) rfl) ?_
                exact xg_e ⟨f6_56, w, ⟨rfl, rfl⟩, by omega, hI, xFr.rf⟩
              · refine xg_t (xg_cVr mX1_rowsOf (vs := [(0, wh)]) (rest := []) (rs := [(2, 8)]) (cn1 := 0) (sl1 := 0) rfl (hp52) rfl h3_25 rfl rfl rfl rfl rfl rfl rfl) ?_
                refine xg_t (xg_astore (l1 := [(2, (2, 3)), (0, (2, 0)), (1, (0, wh))]) rfl rfl rfl) ?_
                refine xg_t (xg_aload (va := (2, 8)) rfl rfl) ?_
                refine xg_t (xg_ifnnT) ?_
                refine xg_t (xg_blk (b := [(104, 1, 0, 3, 0, 0), (105, 3, 1, 5, 3, 151)]) rfl) ?_
                refine xg_t (xg_aload (va := (2, 8)) rfl rfl) ?_
                obtain ⟨f8_59, h8_61, hb60⟩ := (hI 8 (by decide) : cp8 (wget w 8))
                refine xg_t (xg_getf (va := (0, f8_59)) h8_61 rfl) ?_
                refine xg_t (xg_blk (b := [(108, 1, 12, 0, 1, 0)]) rfl) ?_
                exact xg_e ⟨f8_59, w, ⟨rfl, rfl⟩, by omega, hI, xFr.rf⟩
              · refine xg_t (xg_cVr mX1_rowsOf (vs := [(0, wh)]) (rest := []) (rs := [(2, 10)]) (cn1 := 0) (sl1 := 0) rfl (hp52) rfl h3_25 rfl rfl rfl rfl rfl rfl rfl) ?_
                refine xg_t (xg_astore (l1 := [(2, (2, 3)), (0, (2, 0)), (1, (0, wh))]) rfl rfl rfl) ?_
                refine xg_t (xg_aload (va := (2, 10)) rfl rfl) ?_
                refine xg_t (xg_ifnnT) ?_
                refine xg_t (xg_blk (b := [(104, 1, 0, 3, 0, 0), (105, 3, 1, 5, 3, 151)]) rfl) ?_
                refine xg_t (xg_aload (va := (2, 10)) rfl rfl) ?_
                obtain ⟨f10_62, h10_64, hb63⟩ := (hI 10 (by decide) : cp10 (wget w 10))
                refine xg_t (xg_getf (va := (0, f10_62)) h10_64 rfl) ?_
                refine xg_t (xg_blk (b := [(108, 1, 12, 0, 1, 0)]) rfl) ?_
                exact xg_e ⟨f10_62, w, ⟨rfl, rfl⟩, by omega, hI, xFr.rf⟩
              · refine xg_t (xg_cVr mX1_rowsOf (vs := [(0, wh)]) (rest := []) (rs := [(2, 12)]) (cn1 := 0) (sl1 := 0) rfl (hp52) rfl h3_25 rfl rfl rfl rfl rfl rfl rfl) ?_
                refine xg_t (xg_astore (l1 := [(2, (2, 3)), (0, (2, 0)), (1, (0, wh))]) rfl rfl rfl) ?_
                refine xg_t (xg_aload (va := (2, 12)) rfl rfl) ?_
                refine xg_t (xg_ifnnT) ?_
                refine xg_t (xg_blk (b := [(104, 1, 0, 3, 0, 0), (105, 3, 1, 5, 3, 151)]) rfl) ?_
                refine xg_t (xg_aload (va := (2, 12)) rfl rfl) ?_
                obtain ⟨f12_65, h12_67, hb66⟩ := (hI 12 (by decide) : cp12 (wget w 12))
                refine xg_t (xg_getf (va := (0, f12_65)) h12_67 rfl) ?_
                refine xg_t (xg_blk (b := [(108, 1, 12, 0, 1, 0)]) rfl) ?_
                exact xg_e ⟨f12_65, w, ⟨rfl, rfl⟩, by omega, hI, xFr.rf⟩
              · refine xg_t (xg_cVr mX1_rowsOf (vs := [(0, wh)]) (rest := []) (rs := [(3, 0)]) (cn1 := 0) (sl1 := 0) rfl (hp52) rfl h3_25 rfl rfl rfl rfl rfl rfl rfl) ?_
                refine xg_t (xg_astore (l1 := [(2, (2, 3)), (0, (2, 0)), (1, (0, wh))]) rfl rfl rfl) ?_
                refine xg_t (xg_aload (va := (3, 0)) rfl rfl) ?_
                refine xg_t (xg_ifnnF) ?_
                refine xg_t (xg_bip) ?_
                refine xg_t (xg_goto) ?_
                refine xg_t (xg_blk (b := [(108, 1, 12, 0, 1, 0)]) rfl) ?_
                exact xg_e ⟨4294967294, w, ⟨rfl, rfl⟩, by first | decide | omega, hI, xFr.rf⟩
            · by_cases hc68 : wh = 11
              · refine xg_t (xg_swt (ks := [(5, 64), (6, 69), (7, 74), (8, 79), (9, 89), (10, 89), (11, 89), (12, 89), (13, 89), (14, 84)]) (u := wh) (z := 89) rfl rfl rfl xnm0 (xsw_n hc26 (xsw_n hc27 (xsw_n hc28 (xsw_n hc29 (xsw_n hc30 (xsw_n hc49 (xsw_y hc68)))))))) ?_
                refine xg_t (xg_blk (b := [(89, 1, 0, 2, 0, 0), (90, 1, 2, 1, 0, 0), (91, 3, 13, 243, 8, 415), (94, 1, 27, 3, 0, 0), (95, 1, 0, 3, 0, 0), (96, 3, 44, 104, 0, 0), (99, 2, 4, 4294967294, 0, 0), (101, 3, 8, 108, 0, 0)]) rfl) ?_
                refine xg_t (xg_aload (va := (2, 3)) rfl rfl) ?_
                refine xg_t (xg_iload (va := (0, wh)) rfl rfl) ?_
                obtain ⟨v69, hv70, hp71⟩ := rowsOf3 (d := d + 0) (bd := bd) (fc := fc) (rr := rr) (so := wh) (hI) (by omega)
                rcases hv70 with rfl | rfl | rfl | rfl | rfl | rfl
                · refine xg_t (xg_cVr mX1_rowsOf (vs := [(0, wh)]) (rest := []) (rs := [(2, 4)]) (cn1 := 0) (sl1 := 0) rfl (hp71) rfl h3_25 rfl rfl rfl rfl rfl rfl rfl) ?_
                  refine xg_t (xg_astore (l1 := [(2, (2, 3)), (0, (2, 0)), (1, (0, wh))]) rfl rfl rfl) ?_
                  refine xg_t (xg_aload (va := (2, 4)) rfl rfl) ?_
                  refine xg_t (xg_ifnnT) ?_
                  refine xg_t (xg_blk (b := [(104, 1, 0, 3, 0, 0), (105, 3, 1, 5, 3, 151)]) rfl) ?_
                  refine xg_t (xg_aload (va := (2, 4)) rfl rfl) ?_
                  obtain ⟨f4_72, h4_74, hb73⟩ := (hI 4 (by decide) : cp4 (wget w 4))
                  refine xg_t (xg_getf (va := (0, f4_72)) h4_74 rfl) ?_
                  refine xg_t (xg_blk (b := [(108, 1, 12, 0, 1, 0)]) rfl) ?_
                  exact xg_e ⟨f4_72, w, ⟨rfl, rfl⟩, by omega, hI, xFr.rf⟩
                · refine xg_t (xg_cVr mX1_rowsOf (vs := [(0, wh)]) (rest := []) (rs := [(2, 6)]) (cn1 := 0) (sl1 := 0) rfl (hp71) rfl h3_25 rfl rfl rfl rfl rfl rfl rfl) ?_
                  refine xg_t (xg_astore (l1 := [(2, (2, 3)), (0, (2, 0)), (1, (0, wh))]) rfl rfl rfl) ?_
                  refine xg_t (xg_aload (va := (2, 6)) rfl rfl) ?_
                  refine xg_t (xg_ifnnT) ?_
                  refine xg_t (xg_blk (b := [(104, 1, 0, 3, 0, 0), (105, 3, 1, 5, 3, 151)]) rfl) ?_
                  refine xg_t (xg_aload (va := (2, 6)) rfl rfl) ?_
                  obtain ⟨f6_75, h6_77, hb76⟩ := (hI 6 (by decide) : cp6 (wget w 6))
                  refine xg_t (xg_getf (va := (0, f6_75)) h6_77 rfl) ?_
                  refine xg_t (xg_blk (b := [(108, 1, 12, 0, 1, 0)]) rfl) ?_
                  exact xg_e ⟨f6_75, w, ⟨rfl, rfl⟩, by omega, hI, xFr.rf⟩
                · refine xg_t (xg_cVr mX1_rowsOf (vs := [(0, wh)]) (rest := []) (rs := [(2, 8)]) (cn1 := 0) (sl1 := 0) rfl (hp71) rfl h3_25 rfl rfl rfl rfl rfl rfl rfl) ?_
                  refine xg_t (xg_astore (l1 := [(2, (2, 3)), (0, (2, 0)), (1, (0, wh))]) rfl rfl rfl) ?_
                  refine xg_t (xg_aload (va := (2, 8)) rfl rfl) ?_
                  refine xg_t (xg_ifnnT) ?_
                  refine xg_t (xg_blk (b := [(104, 1, 0, 3, 0, 0), (105, 3, 1, 5, 3, 151)]) rfl) ?_
                  refine xg_t (xg_aload (va := (2, 8)) rfl rfl) ?_
                  obtain ⟨f8_78, h8_80, hb79⟩ := (hI 8 (by decide) : cp8 (wget w 8))
                  refine xg_t (xg_getf (va := (0, f8_78)) h8_80 rfl) ?_
                  refine xg_t (xg_blk (b := [(108, 1, 12, 0, 1, 0)]) rfl) ?_
                  exact xg_e ⟨f8_78, w, ⟨rfl, rfl⟩, by omega, hI, xFr.rf⟩
                · refine xg_t (xg_cVr mX1_rowsOf (vs := [(0, wh)]) (rest := []) (rs := [(2, 10)]) (cn1 := 0) (sl1 := 0) rfl (hp71) rfl h3_25 rfl rfl rfl rfl rfl rfl rfl) ?_
                  refine xg_t (xg_astore (l1 := [(2, (2, 3)), (0, (2, 0)), (1, (0, wh))]) rfl rfl rfl) ?_
                  refine xg_t (xg_aload (va := (2, 10)) rfl rfl) ?_
                  refine xg_t (xg_ifnnT) ?_
                  refine xg_t (xg_blk (b := [(104, 1, 0, 3, 0, 0), (105, 3, 1, 5, 3, 151)]) rfl) ?_
                  refine xg_t (xg_aload (va := (2, 10)) rfl rfl) ?_
                  obtain ⟨f10_81, h10_83, hb82⟩ := (hI 10 (by decide) : cp10 (wget w 10))
                  refine xg_t (xg_getf (va := (0, f10_81)) h10_83 rfl) ?_
                  refine xg_t (xg_blk (b := [(108, 1, 12, 0, 1, 0)]) rfl) ?_
                  exact xg_e ⟨f10_81, w, ⟨rfl, rfl⟩, by omega, hI, xFr.rf⟩
                · refine xg_t (xg_cVr mX1_rowsOf (vs := [(0, wh)]) (rest := []) (rs := [(2, 12)]) (cn1 := 0) (sl1 := 0) rfl (hp71) rfl h3_25 rfl rfl rfl rfl rfl rfl rfl) ?_
                  refine xg_t (xg_astore (l1 := [(2, (2, 3)), (0, (2, 0)), (1, (0, wh))]) rfl rfl rfl) ?_
                  refine xg_t (xg_aload (va := (2, 12)) rfl rfl) ?_
                  refine xg_t (xg_ifnnT) ?_
                  refine xg_t (xg_blk (b := [(104, 1, 0, 3, 0, 0), (105, 3, 1, 5, 3, 151)]) rfl) ?_
                  refine xg_t (xg_aload (va := (2, 12)) rfl rfl) ?_
                  obtain ⟨f12_84, h12_86, hb85⟩ := (hI 12 (by decide) : cp12 (wget w 12))
                  refine xg_t (xg_getf (va := (0, f12_84)) h12_86 rfl) ?_
                  refine xg_t (xg_blk (b := [(108, 1, 12, 0, 1, 0)]) rfl) ?_
                  exact xg_e ⟨f12_84, w, ⟨rfl, rfl⟩, by omega, hI, xFr.rf⟩
                · refine xg_t (xg_cVr mX1_rowsOf (vs := [(0, wh)]) (rest := []) (rs := [(3, 0)]) (cn1 := 0) (sl1 := 0) rfl (hp71) rfl h3_25 rfl rfl rfl rfl rfl rfl rfl) ?_
                  refine xg_t (xg_astore (l1 := [(2, (2, 3)), (0, (2, 0)), (1, (0, wh))]) rfl rfl rfl) ?_
                  refine xg_t (xg_aload (va := (3, 0)) rfl rfl) ?_
                  refine xg_t (xg_ifnnF) ?_
                  refine xg_t (xg_bip) ?_
                  refine xg_t (xg_goto) ?_
                  refine xg_t (xg_blk (b := [(108, 1, 12, 0, 1, 0)]) rfl) ?_
                  exact xg_e ⟨4294967294, w, ⟨rfl, rfl⟩, by first | decide | omega, hI, xFr.rf⟩
              · by_cases hc87 : wh = 12
                · refine xg_t (xg_swt (ks := [(5, 64), (6, 69), (7, 74), (8, 79), (9, 89), (10, 89), (11, 89), (12, 89), (13, 89), (14, 84)]) (u := wh) (z := 89) rfl rfl rfl xnm0 (xsw_n hc26 (xsw_n hc27 (xsw_n hc28 (xsw_n hc29 (xsw_n hc30 (xsw_n hc49 (xsw_n hc68 (xsw_y hc87))))))))) ?_
                  refine xg_t (xg_blk (b := [(89, 1, 0, 2, 0, 0), (90, 1, 2, 1, 0, 0), (91, 3, 13, 243, 8, 415), (94, 1, 27, 3, 0, 0), (95, 1, 0, 3, 0, 0), (96, 3, 44, 104, 0, 0), (99, 2, 4, 4294967294, 0, 0), (101, 3, 8, 108, 0, 0)]) rfl) ?_
                  refine xg_t (xg_aload (va := (2, 3)) rfl rfl) ?_
                  refine xg_t (xg_iload (va := (0, wh)) rfl rfl) ?_
                  obtain ⟨v88, hv89, hp90⟩ := rowsOf3 (d := d + 0) (bd := bd) (fc := fc) (rr := rr) (so := wh) (hI) (by omega)
                  rcases hv89 with rfl | rfl | rfl | rfl | rfl | rfl
                  · refine xg_t (xg_cVr mX1_rowsOf (vs := [(0, wh)]) (rest := []) (rs := [(2, 4)]) (cn1 := 0) (sl1 := 0) rfl (hp90) rfl h3_25 rfl rfl rfl rfl rfl rfl rfl) ?_
                    refine xg_t (xg_astore (l1 := [(2, (2, 3)), (0, (2, 0)), (1, (0, wh))]) rfl rfl rfl) ?_
                    refine xg_t (xg_aload (va := (2, 4)) rfl rfl) ?_
                    refine xg_t (xg_ifnnT) ?_
                    refine xg_t (xg_blk (b := [(104, 1, 0, 3, 0, 0), (105, 3, 1, 5, 3, 151)]) rfl) ?_
                    refine xg_t (xg_aload (va := (2, 4)) rfl rfl) ?_
                    obtain ⟨f4_91, h4_93, hb92⟩ := (hI 4 (by decide) : cp4 (wget w 4))
                    refine xg_t (xg_getf (va := (0, f4_91)) h4_93 rfl) ?_
                    refine xg_t (xg_blk (b := [(108, 1, 12, 0, 1, 0)]) rfl) ?_
                    exact xg_e ⟨f4_91, w, ⟨rfl, rfl⟩, by omega, hI, xFr.rf⟩
                  · refine xg_t (xg_cVr mX1_rowsOf (vs := [(0, wh)]) (rest := []) (rs := [(2, 6)]) (cn1 := 0) (sl1 := 0) rfl (hp90) rfl h3_25 rfl rfl rfl rfl rfl rfl rfl) ?_
                    refine xg_t (xg_astore (l1 := [(2, (2, 3)), (0, (2, 0)), (1, (0, wh))]) rfl rfl rfl) ?_
                    refine xg_t (xg_aload (va := (2, 6)) rfl rfl) ?_
                    refine xg_t (xg_ifnnT) ?_
                    refine xg_t (xg_blk (b := [(104, 1, 0, 3, 0, 0), (105, 3, 1, 5, 3, 151)]) rfl) ?_
                    refine xg_t (xg_aload (va := (2, 6)) rfl rfl) ?_
                    obtain ⟨f6_94, h6_96, hb95⟩ := (hI 6 (by decide) : cp6 (wget w 6))
                    refine xg_t (xg_getf (va := (0, f6_94)) h6_96 rfl) ?_
                    refine xg_t (xg_blk (b := [(108, 1, 12, 0, 1, 0)]) rfl) ?_
                    exact xg_e ⟨f6_94, w, ⟨rfl, rfl⟩, by omega, hI, xFr.rf⟩
                  · refine xg_t (xg_cVr mX1_rowsOf (vs := [(0, wh)]) (rest := []) (rs := [(2, 8)]) (cn1 := 0) (sl1 := 0) rfl (hp90) rfl h3_25 rfl rfl rfl rfl rfl rfl rfl) ?_
                    refine xg_t (xg_astore (l1 := [(2, (2, 3)), (0, (2, 0)), (1, (0, wh))]) rfl rfl rfl) ?_
                    refine xg_t (xg_aload (va := (2, 8)) rfl rfl) ?_
                    refine xg_t (xg_ifnnT) ?_
                    refine xg_t (xg_blk (b := [(104, 1, 0, 3, 0, 0), (105, 3, 1, 5, 3, 151)]) rfl) ?_
                    refine xg_t (xg_aload (va := (2, 8)) rfl rfl) ?_
                    obtain ⟨f8_97, h8_99, hb98⟩ := (hI 8 (by decide) : cp8 (wget w 8))
                    refine xg_t (xg_getf (va := (0, f8_97)) h8_99 rfl) ?_
                    refine xg_t (xg_blk (b := [(108, 1, 12, 0, 1, 0)]) rfl) ?_
                    exact xg_e ⟨f8_97, w, ⟨rfl, rfl⟩, by omega, hI, xFr.rf⟩
                  · refine xg_t (xg_cVr mX1_rowsOf (vs := [(0, wh)]) (rest := []) (rs := [(2, 10)]) (cn1 := 0) (sl1 := 0) rfl (hp90) rfl h3_25 rfl rfl rfl rfl rfl rfl rfl) ?_
                    refine xg_t (xg_astore (l1 := [(2, (2, 3)), (0, (2, 0)), (1, (0, wh))]) rfl rfl rfl) ?_
                    refine xg_t (xg_aload (va := (2, 10)) rfl rfl) ?_
                    refine xg_t (xg_ifnnT) ?_
                    refine xg_t (xg_blk (b := [(104, 1, 0, 3, 0, 0), (105, 3, 1, 5, 3, 151)]) rfl) ?_
                    refine xg_t (xg_aload (va := (2, 10)) rfl rfl) ?_
                    obtain ⟨f10_100, h10_102, hb101⟩ := (hI 10 (by decide) : cp10 (wget w 10))
                    refine xg_t (xg_getf (va := (0, f10_100)) h10_102 rfl) ?_
                    refine xg_t (xg_blk (b := [(108, 1, 12, 0, 1, 0)]) rfl) ?_
                    exact xg_e ⟨f10_100, w, ⟨rfl, rfl⟩, by omega, hI, xFr.rf⟩
                  · refine xg_t (xg_cVr mX1_rowsOf (vs := [(0, wh)]) (rest := []) (rs := [(2, 12)]) (cn1 := 0) (sl1 := 0) rfl (hp90) rfl h3_25 rfl rfl rfl rfl rfl rfl rfl) ?_
                    refine xg_t (xg_astore (l1 := [(2, (2, 3)), (0, (2, 0)), (1, (0, wh))]) rfl rfl rfl) ?_
                    refine xg_t (xg_aload (va := (2, 12)) rfl rfl) ?_
                    refine xg_t (xg_ifnnT) ?_
                    refine xg_t (xg_blk (b := [(104, 1, 0, 3, 0, 0), (105, 3, 1, 5, 3, 151)]) rfl) ?_
                    refine xg_t (xg_aload (va := (2, 12)) rfl rfl) ?_
                    obtain ⟨f12_103, h12_105, hb104⟩ := (hI 12 (by decide) : cp12 (wget w 12))
                    refine xg_t (xg_getf (va := (0, f12_103)) h12_105 rfl) ?_
                    refine xg_t (xg_blk (b := [(108, 1, 12, 0, 1, 0)]) rfl) ?_
                    exact xg_e ⟨f12_103, w, ⟨rfl, rfl⟩, by omega, hI, xFr.rf⟩
                  · refine xg_t (xg_cVr mX1_rowsOf (vs := [(0, wh)]) (rest := []) (rs := [(3, 0)]) (cn1 := 0) (sl1 := 0) rfl (hp90) rfl h3_25 rfl rfl rfl rfl rfl rfl rfl) ?_
                    refine xg_t (xg_astore (l1 := [(2, (2, 3)), (0, (2, 0)), (1, (0, wh))]) rfl rfl rfl) ?_
                    refine xg_t (xg_aload (va := (3, 0)) rfl rfl) ?_
                    refine xg_t (xg_ifnnF) ?_
                    refine xg_t (xg_bip) ?_
                    refine xg_t (xg_goto) ?_
                    refine xg_t (xg_blk (b := [(108, 1, 12, 0, 1, 0)]) rfl) ?_
                    exact xg_e ⟨4294967294, w, ⟨rfl, rfl⟩, by first | decide | omega, hI, xFr.rf⟩
                · by_cases hc106 : wh = 13
                  · refine xg_t (xg_swt (ks := [(5, 64), (6, 69), (7, 74), (8, 79), (9, 89), (10, 89), (11, 89), (12, 89), (13, 89), (14, 84)]) (u := wh) (z := 89) rfl rfl rfl xnm0 (xsw_n hc26 (xsw_n hc27 (xsw_n hc28 (xsw_n hc29 (xsw_n hc30 (xsw_n hc49 (xsw_n hc68 (xsw_n hc87 (xsw_y hc106)))))))))) ?_
                    refine xg_t (xg_blk (b := [(89, 1, 0, 2, 0, 0), (90, 1, 2, 1, 0, 0), (91, 3, 13, 243, 8, 415), (94, 1, 27, 3, 0, 0), (95, 1, 0, 3, 0, 0), (96, 3, 44, 104, 0, 0), (99, 2, 4, 4294967294, 0, 0), (101, 3, 8, 108, 0, 0)]) rfl) ?_
                    refine xg_t (xg_aload (va := (2, 3)) rfl rfl) ?_
                    refine xg_t (xg_iload (va := (0, wh)) rfl rfl) ?_
                    obtain ⟨v107, hv108, hp109⟩ := rowsOf3 (d := d + 0) (bd := bd) (fc := fc) (rr := rr) (so := wh) (hI) (by omega)
                    rcases hv108 with rfl | rfl | rfl | rfl | rfl | rfl
                    · refine xg_t (xg_cVr mX1_rowsOf (vs := [(0, wh)]) (rest := []) (rs := [(2, 4)]) (cn1 := 0) (sl1 := 0) rfl (hp109) rfl h3_25 rfl rfl rfl rfl rfl rfl rfl) ?_
                      refine xg_t (xg_astore (l1 := [(2, (2, 3)), (0, (2, 0)), (1, (0, wh))]) rfl rfl rfl) ?_
                      refine xg_t (xg_aload (va := (2, 4)) rfl rfl) ?_
                      refine xg_t (xg_ifnnT) ?_
                      refine xg_t (xg_blk (b := [(104, 1, 0, 3, 0, 0), (105, 3, 1, 5, 3, 151)]) rfl) ?_
                      refine xg_t (xg_aload (va := (2, 4)) rfl rfl) ?_
                      obtain ⟨f4_110, h4_112, hb111⟩ := (hI 4 (by decide) : cp4 (wget w 4))
                      refine xg_t (xg_getf (va := (0, f4_110)) h4_112 rfl) ?_
                      refine xg_t (xg_blk (b := [(108, 1, 12, 0, 1, 0)]) rfl) ?_
                      exact xg_e ⟨f4_110, w, ⟨rfl, rfl⟩, by omega, hI, xFr.rf⟩
                    · refine xg_t (xg_cVr mX1_rowsOf (vs := [(0, wh)]) (rest := []) (rs := [(2, 6)]) (cn1 := 0) (sl1 := 0) rfl (hp109) rfl h3_25 rfl rfl rfl rfl rfl rfl rfl) ?_
                      refine xg_t (xg_astore (l1 := [(2, (2, 3)), (0, (2, 0)), (1, (0, wh))]) rfl rfl rfl) ?_
                      refine xg_t (xg_aload (va := (2, 6)) rfl rfl) ?_
                      refine xg_t (xg_ifnnT) ?_
                      refine xg_t (xg_blk (b := [(104, 1, 0, 3, 0, 0), (105, 3, 1, 5, 3, 151)]) rfl) ?_
                      refine xg_t (xg_aload (va := (2, 6)) rfl rfl) ?_
                      obtain ⟨f6_113, h6_115, hb114⟩ := (hI 6 (by decide) : cp6 (wget w 6))
                      refine xg_t (xg_getf (va := (0, f6_113)) h6_115 rfl) ?_
                      refine xg_t (xg_blk (b := [(108, 1, 12, 0, 1, 0)]) rfl) ?_
                      exact xg_e ⟨f6_113, w, ⟨rfl, rfl⟩, by omega, hI, xFr.rf⟩
                    · refine xg_t (xg_cVr mX1_rowsOf (vs := [(0, wh)]) (rest := []) (rs := [(2, 8)]) (cn1 := 0) (sl1 := 0) rfl (hp109) rfl h3_25 rfl rfl rfl rfl rfl rfl rfl) ?_
                      refine xg_t (xg_astore (l1 := [(2, (2, 3)), (0, (2, 0)), (1, (0, wh))]) rfl rfl rfl) ?_
                      refine xg_t (xg_aload (va := (2, 8)) rfl rfl) ?_
                      refine xg_t (xg_ifnnT) ?_
                      refine xg_t (xg_blk (b := [(104, 1, 0, 3, 0, 0), (105, 3, 1, 5, 3, 151)]) rfl) ?_
                      refine xg_t (xg_aload (va := (2, 8)) rfl rfl) ?_
                      obtain ⟨f8_116, h8_118, hb117⟩ := (hI 8 (by decide) : cp8 (wget w 8))
                      refine xg_t (xg_getf (va := (0, f8_116)) h8_118 rfl) ?_
                      refine xg_t (xg_blk (b := [(108, 1, 12, 0, 1, 0)]) rfl) ?_
                      exact xg_e ⟨f8_116, w, ⟨rfl, rfl⟩, by omega, hI, xFr.rf⟩
                    · refine xg_t (xg_cVr mX1_rowsOf (vs := [(0, wh)]) (rest := []) (rs := [(2, 10)]) (cn1 := 0) (sl1 := 0) rfl (hp109) rfl h3_25 rfl rfl rfl rfl rfl rfl rfl) ?_
                      refine xg_t (xg_astore (l1 := [(2, (2, 3)), (0, (2, 0)), (1, (0, wh))]) rfl rfl rfl) ?_
                      refine xg_t (xg_aload (va := (2, 10)) rfl rfl) ?_
                      refine xg_t (xg_ifnnT) ?_
                      refine xg_t (xg_blk (b := [(104, 1, 0, 3, 0, 0), (105, 3, 1, 5, 3, 151)]) rfl) ?_
                      refine xg_t (xg_aload (va := (2, 10)) rfl rfl) ?_
                      obtain ⟨f10_119, h10_121, hb120⟩ := (hI 10 (by decide) : cp10 (wget w 10))
                      refine xg_t (xg_getf (va := (0, f10_119)) h10_121 rfl) ?_
                      refine xg_t (xg_blk (b := [(108, 1, 12, 0, 1, 0)]) rfl) ?_
                      exact xg_e ⟨f10_119, w, ⟨rfl, rfl⟩, by omega, hI, xFr.rf⟩
                    · refine xg_t (xg_cVr mX1_rowsOf (vs := [(0, wh)]) (rest := []) (rs := [(2, 12)]) (cn1 := 0) (sl1 := 0) rfl (hp109) rfl h3_25 rfl rfl rfl rfl rfl rfl rfl) ?_
                      refine xg_t (xg_astore (l1 := [(2, (2, 3)), (0, (2, 0)), (1, (0, wh))]) rfl rfl rfl) ?_
                      refine xg_t (xg_aload (va := (2, 12)) rfl rfl) ?_
                      refine xg_t (xg_ifnnT) ?_
                      refine xg_t (xg_blk (b := [(104, 1, 0, 3, 0, 0), (105, 3, 1, 5, 3, 151)]) rfl) ?_
                      refine xg_t (xg_aload (va := (2, 12)) rfl rfl) ?_
                      obtain ⟨f12_122, h12_124, hb123⟩ := (hI 12 (by decide) : cp12 (wget w 12))
                      refine xg_t (xg_getf (va := (0, f12_122)) h12_124 rfl) ?_
                      refine xg_t (xg_blk (b := [(108, 1, 12, 0, 1, 0)]) rfl) ?_
                      exact xg_e ⟨f12_122, w, ⟨rfl, rfl⟩, by omega, hI, xFr.rf⟩
                    · refine xg_t (xg_cVr mX1_rowsOf (vs := [(0, wh)]) (rest := []) (rs := [(3, 0)]) (cn1 := 0) (sl1 := 0) rfl (hp109) rfl h3_25 rfl rfl rfl rfl rfl rfl rfl) ?_
                      refine xg_t (xg_astore (l1 := [(2, (2, 3)), (0, (2, 0)), (1, (0, wh))]) rfl rfl rfl) ?_
                      refine xg_t (xg_aload (va := (3, 0)) rfl rfl) ?_
                      refine xg_t (xg_ifnnF) ?_
                      refine xg_t (xg_bip) ?_
                      refine xg_t (xg_goto) ?_
                      refine xg_t (xg_blk (b := [(108, 1, 12, 0, 1, 0)]) rfl) ?_
                      exact xg_e ⟨4294967294, w, ⟨rfl, rfl⟩, by first | decide | omega, hI, xFr.rf⟩
                  · by_cases hc125 : wh = 14
                    · refine xg_t (xg_swt (ks := [(5, 64), (6, 69), (7, 74), (8, 79), (9, 89), (10, 89), (11, 89), (12, 89), (13, 89), (14, 84)]) (u := wh) (z := 84) rfl rfl rfl xnm0 (xsw_n hc26 (xsw_n hc27 (xsw_n hc28 (xsw_n hc29 (xsw_n hc30 (xsw_n hc49 (xsw_n hc68 (xsw_n hc87 (xsw_n hc106 (xsw_y hc125))))))))))) ?_
                      refine xg_t (xg_blk (b := [(84, 1, 0, 2, 0, 0), (85, 3, 1, 1, 9, 412), (88, 1, 12, 0, 1, 0)]) rfl) ?_
                      refine xg_t (xg_aload (va := (2, 3)) rfl rfl) ?_
                      refine xg_t (xg_getf (va := (0, f3_23)) h3_25 rfl) ?_
                      exact xg_e ⟨f3_23, w, ⟨rfl, rfl⟩, by omega, hI, xFr.rf⟩
                    · refine xg_t (xg_swt (ks := [(5, 64), (6, 69), (7, 74), (8, 79), (9, 89), (10, 89), (11, 89), (12, 89), (13, 89), (14, 84)]) (u := wh) (z := 89) rfl rfl rfl xnm0 (xsw_n hc26 (xsw_n hc27 (xsw_n hc28 (xsw_n hc29 (xsw_n hc30 (xsw_n hc49 (xsw_n hc68 (xsw_n hc87 (xsw_n hc106 (xsw_n hc125 (xsw_d)))))))))))) ?_
                      refine xg_t (xg_blk (b := [(89, 1, 0, 2, 0, 0), (90, 1, 2, 1, 0, 0), (91, 3, 13, 243, 8, 415), (94, 1, 27, 3, 0, 0), (95, 1, 0, 3, 0, 0), (96, 3, 44, 104, 0, 0), (99, 2, 4, 4294967294, 0, 0), (101, 3, 8, 108, 0, 0)]) rfl) ?_
                      refine xg_t (xg_aload (va := (2, 3)) rfl rfl) ?_
                      refine xg_t (xg_iload (va := (0, wh)) rfl rfl) ?_
                      obtain ⟨v126, hv127, hp128⟩ := rowsOf3 (d := d + 0) (bd := bd) (fc := fc) (rr := rr) (so := wh) (hI) (by omega)
                      rcases hv127 with rfl | rfl | rfl | rfl | rfl | rfl
                      · refine xg_t (xg_cVr mX1_rowsOf (vs := [(0, wh)]) (rest := []) (rs := [(2, 4)]) (cn1 := 0) (sl1 := 0) rfl (hp128) rfl h3_25 rfl rfl rfl rfl rfl rfl rfl) ?_
                        refine xg_t (xg_astore (l1 := [(2, (2, 3)), (0, (2, 0)), (1, (0, wh))]) rfl rfl rfl) ?_
                        refine xg_t (xg_aload (va := (2, 4)) rfl rfl) ?_
                        refine xg_t (xg_ifnnT) ?_
                        refine xg_t (xg_blk (b := [(104, 1, 0, 3, 0, 0), (105, 3, 1, 5, 3, 151)]) rfl) ?_
                        refine xg_t (xg_aload (va := (2, 4)) rfl rfl) ?_
                        obtain ⟨f4_129, h4_131, hb130⟩ := (hI 4 (by decide) : cp4 (wget w 4))
                        refine xg_t (xg_getf (va := (0, f4_129)) h4_131 rfl) ?_
                        refine xg_t (xg_blk (b := [(108, 1, 12, 0, 1, 0)]) rfl) ?_
                        exact xg_e ⟨f4_129, w, ⟨rfl, rfl⟩, by omega, hI, xFr.rf⟩
                      · refine xg_t (xg_cVr mX1_rowsOf (vs := [(0, wh)]) (rest := []) (rs := [(2, 6)]) (cn1 := 0) (sl1 := 0) rfl (hp128) rfl h3_25 rfl rfl rfl rfl rfl rfl rfl) ?_
                        refine xg_t (xg_astore (l1 := [(2, (2, 3)), (0, (2, 0)), (1, (0, wh))]) rfl rfl rfl) ?_
                        refine xg_t (xg_aload (va := (2, 6)) rfl rfl) ?_
                        refine xg_t (xg_ifnnT) ?_
                        refine xg_t (xg_blk (b := [(104, 1, 0, 3, 0, 0), (105, 3, 1, 5, 3, 151)]) rfl) ?_
                        refine xg_t (xg_aload (va := (2, 6)) rfl rfl) ?_
                        obtain ⟨f6_132, h6_134, hb133⟩ := (hI 6 (by decide) : cp6 (wget w 6))
                        refine xg_t (xg_getf (va := (0, f6_132)) h6_134 rfl) ?_
                        refine xg_t (xg_blk (b := [(108, 1, 12, 0, 1, 0)]) rfl) ?_
                        exact xg_e ⟨f6_132, w, ⟨rfl, rfl⟩, by omega, hI, xFr.rf⟩
                      · refine xg_t (xg_cVr mX1_rowsOf (vs := [(0, wh)]) (rest := []) (rs := [(2, 8)]) (cn1 := 0) (sl1 := 0) rfl (hp128) rfl h3_25 rfl rfl rfl rfl rfl rfl rfl) ?_
                        refine xg_t (xg_astore (l1 := [(2, (2, 3)), (0, (2, 0)), (1, (0, wh))]) rfl rfl rfl) ?_
                        refine xg_t (xg_aload (va := (2, 8)) rfl rfl) ?_
                        refine xg_t (xg_ifnnT) ?_
                        refine xg_t (xg_blk (b := [(104, 1, 0, 3, 0, 0), (105, 3, 1, 5, 3, 151)]) rfl) ?_
                        refine xg_t (xg_aload (va := (2, 8)) rfl rfl) ?_
                        obtain ⟨f8_135, h8_137, hb136⟩ := (hI 8 (by decide) : cp8 (wget w 8))
                        refine xg_t (xg_getf (va := (0, f8_135)) h8_137 rfl) ?_
                        refine xg_t (xg_blk (b := [(108, 1, 12, 0, 1, 0)]) rfl) ?_
                        exact xg_e ⟨f8_135, w, ⟨rfl, rfl⟩, by omega, hI, xFr.rf⟩
                      · refine xg_t (xg_cVr mX1_rowsOf (vs := [(0, wh)]) (rest := []) (rs := [(2, 10)]) (cn1 := 0) (sl1 := 0) rfl (hp128) rfl h3_25 rfl rfl rfl rfl rfl rfl rfl) ?_
                        refine xg_t (xg_astore (l1 := [(2, (2, 3)), (0, (2, 0)), (1, (0, wh))]) rfl rfl rfl) ?_
                        refine xg_t (xg_aload (va := (2, 10)) rfl rfl) ?_
                        refine xg_t (xg_ifnnT) ?_
                        refine xg_t (xg_blk (b := [(104, 1, 0, 3, 0, 0), (105, 3, 1, 5, 3, 151)]) rfl) ?_
                        refine xg_t (xg_aload (va := (2, 10)) rfl rfl) ?_
                        obtain ⟨f10_138, h10_140, hb139⟩ := (hI 10 (by decide) : cp10 (wget w 10))
                        refine xg_t (xg_getf (va := (0, f10_138)) h10_140 rfl) ?_
                        refine xg_t (xg_blk (b := [(108, 1, 12, 0, 1, 0)]) rfl) ?_
                        exact xg_e ⟨f10_138, w, ⟨rfl, rfl⟩, by omega, hI, xFr.rf⟩
                      · refine xg_t (xg_cVr mX1_rowsOf (vs := [(0, wh)]) (rest := []) (rs := [(2, 12)]) (cn1 := 0) (sl1 := 0) rfl (hp128) rfl h3_25 rfl rfl rfl rfl rfl rfl rfl) ?_
                        refine xg_t (xg_astore (l1 := [(2, (2, 3)), (0, (2, 0)), (1, (0, wh))]) rfl rfl rfl) ?_
                        refine xg_t (xg_aload (va := (2, 12)) rfl rfl) ?_
                        refine xg_t (xg_ifnnT) ?_
                        refine xg_t (xg_blk (b := [(104, 1, 0, 3, 0, 0), (105, 3, 1, 5, 3, 151)]) rfl) ?_
                        refine xg_t (xg_aload (va := (2, 12)) rfl rfl) ?_
                        obtain ⟨f12_141, h12_143, hb142⟩ := (hI 12 (by decide) : cp12 (wget w 12))
                        refine xg_t (xg_getf (va := (0, f12_141)) h12_143 rfl) ?_
                        refine xg_t (xg_blk (b := [(108, 1, 12, 0, 1, 0)]) rfl) ?_
                        exact xg_e ⟨f12_141, w, ⟨rfl, rfl⟩, by omega, hI, xFr.rf⟩
                      · refine xg_t (xg_cVr mX1_rowsOf (vs := [(0, wh)]) (rest := []) (rs := [(3, 0)]) (cn1 := 0) (sl1 := 0) rfl (hp128) rfl h3_25 rfl rfl rfl rfl rfl rfl rfl) ?_
                        refine xg_t (xg_astore (l1 := [(2, (2, 3)), (0, (2, 0)), (1, (0, wh))]) rfl rfl rfl) ?_
                        refine xg_t (xg_aload (va := (3, 0)) rfl rfl) ?_
                        refine xg_t (xg_ifnnF) ?_
                        refine xg_t (xg_bip) ?_
                        refine xg_t (xg_goto) ?_
                        refine xg_t (xg_blk (b := [(108, 1, 12, 0, 1, 0)]) rfl) ?_
                        exact xg_e ⟨4294967294, w, ⟨rfl, rfl⟩, by first | decide | omega, hI, xFr.rf⟩
theorem scCount {wh : Nat} (hI : xInv w) (hwh : wh ≤ 4294967295) : xPi (d + 2) mX11_count [(2, 0), (0, wh)] w bd fc rr (fun n w' => (n ≤ 4294967295) ∧ xInv w' ∧ xFr [] w w') := by
  refine xPi.of ?_
  show xTo (d + 2) mX11_count (0, [], [(0, (2, 0)), (1, (0, wh))], [], (w, bd, fc, 0, 0, rr)) (fun φ => ∃ n w', xEnd 1 [(0, n)] (w', bd, fc, 0, 0, rr) φ ∧ (n ≤ 4294967295) ∧ xInv w' ∧ xFr [] w w')
  refine xg_t (xg_blk (b := [(0, 1, 2, 1, 0, 0), (1, 55, 33, 143, 0, 2)]) rfl) ?_
  refine xg_t (xg_iload (va := (0, wh)) rfl rfl) ?_
  by_cases hc1 : wh = 9
  · refine xg_t (xg_swt (ks := [(9, 56), (10, 67), (11, 78), (12, 86), (13, 94), (14, 143), (15, 102), (16, 113), (17, 124), (18, 135)]) (u := wh) (z := 56) rfl rfl rfl xnm0 (xsw_y hc1)) ?_
    refine xg_t (xg_blk (b := [(56, 1, 0, 0, 0, 0), (57, 3, 1, 11, 0, 10), (60, 3, 1, 9, 5, 195), (63, 3, 1, 5, 3, 151), (66, 1, 12, 0, 1, 0)]) rfl) ?_
    refine xg_t (xg_aload (va := (2, 0)) rfl rfl) ?_
    have h0_2 := (hI 0 (by decide) : cp0 (wget w 0))
    refine xg_t (xg_getf (va := (2, 1)) h0_2 rfl) ?_
    refine xoC1 (hI 1 (by decide) : cp1 (wget w 1)) (fun f1_3 f1_5 f1_7 f1_9 f1_11 f1_13 h1_15 hb4 hb6 hb8 hb10 hb12 hb14 => ?_)
    refine xg_t (xg_getf (va := (2, 14)) h1_15 rfl) ?_
    obtain ⟨f14_16, h14_18, hb17⟩ := (hI 14 (by decide) : cp14 (wget w 14))
    refine xg_t (xg_getf (va := (0, f14_16)) h14_18 rfl) ?_
    exact xg_e ⟨f14_16, w, ⟨rfl, rfl⟩, by omega, hI, xFr.rf⟩
  · by_cases hc19 : wh = 10
    · refine xg_t (xg_swt (ks := [(9, 56), (10, 67), (11, 78), (12, 86), (13, 94), (14, 143), (15, 102), (16, 113), (17, 124), (18, 135)]) (u := wh) (z := 67) rfl rfl rfl xnm0 (xsw_n hc1 (xsw_y hc19))) ?_
      refine xg_t (xg_blk (b := [(67, 1, 0, 0, 0, 0), (68, 3, 1, 11, 0, 10), (71, 3, 1, 9, 8, 252), (74, 3, 1, 5, 3, 151), (77, 1, 12, 0, 1, 0)]) rfl) ?_
      refine xg_t (xg_aload (va := (2, 0)) rfl rfl) ?_
      have h0_20 := (hI 0 (by decide) : cp0 (wget w 0))
      refine xg_t (xg_getf (va := (2, 1)) h0_20 rfl) ?_
      refine xoC1 (hI 1 (by decide) : cp1 (wget w 1)) (fun f1_21 f1_23 f1_25 f1_27 f1_29 f1_31 h1_33 hb22 hb24 hb26 hb28 hb30 hb32 => ?_)
      refine xg_t (xg_getf (va := (2, 16)) h1_33 rfl) ?_
      obtain ⟨f16_34, h16_36, hb35⟩ := (hI 16 (by decide) : cp16 (wget w 16))
      refine xg_t (xg_getf (va := (0, f16_34)) h16_36 rfl) ?_
      exact xg_e ⟨f16_34, w, ⟨rfl, rfl⟩, by omega, hI, xFr.rf⟩
    · by_cases hc37 : wh = 11
      · refine xg_t (xg_swt (ks := [(9, 56), (10, 67), (11, 78), (12, 86), (13, 94), (14, 143), (15, 102), (16, 113), (17, 124), (18, 135)]) (u := wh) (z := 78) rfl rfl rfl xnm0 (xsw_n hc1 (xsw_n hc19 (xsw_y hc37)))) ?_
        refine xg_t (xg_blk (b := [(78, 1, 0, 0, 0, 0), (79, 3, 1, 11, 0, 10), (82, 3, 1, 9, 6, 186), (85, 1, 12, 0, 1, 0)]) rfl) ?_
        refine xg_t (xg_aload (va := (2, 0)) rfl rfl) ?_
        have h0_38 := (hI 0 (by decide) : cp0 (wget w 0))
        refine xg_t (xg_getf (va := (2, 1)) h0_38 rfl) ?_
        refine xoC1 (hI 1 (by decide) : cp1 (wget w 1)) (fun f1_39 f1_41 f1_43 f1_45 f1_47 f1_49 h1_51 hb40 hb42 hb44 hb46 hb48 hb50 => ?_)
        refine xg_t (xg_getf (va := (0, f1_45)) h1_51 rfl) ?_
        exact xg_e ⟨f1_45, w, ⟨rfl, rfl⟩, by omega, hI, xFr.rf⟩
      · by_cases hc52 : wh = 12
        · refine xg_t (xg_swt (ks := [(9, 56), (10, 67), (11, 78), (12, 86), (13, 94), (14, 143), (15, 102), (16, 113), (17, 124), (18, 135)]) (u := wh) (z := 86) rfl rfl rfl xnm0 (xsw_n hc1 (xsw_n hc19 (xsw_n hc37 (xsw_y hc52))))) ?_
          refine xg_t (xg_blk (b := [(86, 1, 0, 0, 0, 0), (87, 3, 1, 11, 0, 10), (90, 3, 1, 9, 7, 189), (93, 1, 12, 0, 1, 0)]) rfl) ?_
          refine xg_t (xg_aload (va := (2, 0)) rfl rfl) ?_
          have h0_53 := (hI 0 (by decide) : cp0 (wget w 0))
          refine xg_t (xg_getf (va := (2, 1)) h0_53 rfl) ?_
          refine xoC1 (hI 1 (by decide) : cp1 (wget w 1)) (fun f1_54 f1_56 f1_58 f1_60 f1_62 f1_64 h1_66 hb55 hb57 hb59 hb61 hb63 hb65 => ?_)
          refine xg_t (xg_getf (va := (0, f1_62)) h1_66 rfl) ?_
          exact xg_e ⟨f1_62, w, ⟨rfl, rfl⟩, by omega, hI, xFr.rf⟩
        · by_cases hc67 : wh = 13
          · refine xg_t (xg_swt (ks := [(9, 56), (10, 67), (11, 78), (12, 86), (13, 94), (14, 143), (15, 102), (16, 113), (17, 124), (18, 135)]) (u := wh) (z := 94) rfl rfl rfl xnm0 (xsw_n hc1 (xsw_n hc19 (xsw_n hc37 (xsw_n hc52 (xsw_y hc67)))))) ?_
            refine xg_t (xg_blk (b := [(94, 1, 0, 0, 0, 0), (95, 3, 1, 11, 0, 10), (98, 3, 1, 9, 9, 273), (101, 1, 12, 0, 1, 0)]) rfl) ?_
            refine xg_t (xg_aload (va := (2, 0)) rfl rfl) ?_
            have h0_68 := (hI 0 (by decide) : cp0 (wget w 0))
            refine xg_t (xg_getf (va := (2, 1)) h0_68 rfl) ?_
            refine xoC1 (hI 1 (by decide) : cp1 (wget w 1)) (fun f1_69 f1_71 f1_73 f1_75 f1_77 f1_79 h1_81 hb70 hb72 hb74 hb76 hb78 hb80 => ?_)
            refine xg_t (xg_getf (va := (0, f1_79)) h1_81 rfl) ?_
            exact xg_e ⟨f1_79, w, ⟨rfl, rfl⟩, by omega, hI, xFr.rf⟩
          · by_cases hc82 : wh = 14
            · refine xg_t (xg_swt (ks := [(9, 56), (10, 67), (11, 78), (12, 86), (13, 94), (14, 143), (15, 102), (16, 113), (17, 124), (18, 135)]) (u := wh) (z := 143) rfl rfl rfl xnm0 (xsw_n hc1 (xsw_n hc19 (xsw_n hc37 (xsw_n hc52 (xsw_n hc67 (xsw_y hc82))))))) ?_
              refine xg_t (xg_blk (b := [(143, 1, 0, 0, 0, 0), (144, 1, 2, 1, 0, 0), (145, 3, 13, 46, 88, 375), (148, 1, 12, 0, 1, 0)]) rfl) ?_
              refine xg_t (xg_aload (va := (2, 0)) rfl rfl) ?_
              refine xg_t (xg_iload (va := (0, wh)) rfl rfl) ?_
              have h0_83 := (hI 0 (by decide) : cp0 (wget w 0))
              refine xg_cVi mX11_countOfFilm (vs := [(0, wh)]) (rest := []) (cn1 := 0) (sl1 := 0) rfl (scCountOfFilm (hI) (by omega)) rfl h0_83 rfl rfl rfl rfl rfl rfl (fun n88 w84 hq85 => ?_)
              obtain ⟨hn89, hI86, hF87⟩ := hq85
              exact xg_e ⟨n88, w84, ⟨rfl, rfl⟩, by omega, hI86, (hF87.up (by decide))⟩
            · by_cases hc90 : wh = 15
              · refine xg_t (xg_swt (ks := [(9, 56), (10, 67), (11, 78), (12, 86), (13, 94), (14, 143), (15, 102), (16, 113), (17, 124), (18, 135)]) (u := wh) (z := 102) rfl rfl rfl xnm0 (xsw_n hc1 (xsw_n hc19 (xsw_n hc37 (xsw_n hc52 (xsw_n hc67 (xsw_n hc82 (xsw_y hc90)))))))) ?_
                refine xg_t (xg_blk (b := [(102, 1, 0, 0, 0, 0), (103, 3, 1, 11, 0, 10), (106, 3, 1, 9, 10, 316), (109, 3, 1, 5, 3, 151), (112, 1, 12, 0, 1, 0)]) rfl) ?_
                refine xg_t (xg_aload (va := (2, 0)) rfl rfl) ?_
                have h0_91 := (hI 0 (by decide) : cp0 (wget w 0))
                refine xg_t (xg_getf (va := (2, 1)) h0_91 rfl) ?_
                refine xoC1 (hI 1 (by decide) : cp1 (wget w 1)) (fun f1_92 f1_94 f1_96 f1_98 f1_100 f1_102 h1_104 hb93 hb95 hb97 hb99 hb101 hb103 => ?_)
                refine xg_t (xg_getf (va := (2, 18)) h1_104 rfl) ?_
                obtain ⟨f18_105, h18_107, hb106⟩ := (hI 18 (by decide) : cp18 (wget w 18))
                refine xg_t (xg_getf (va := (0, f18_105)) h18_107 rfl) ?_
                exact xg_e ⟨f18_105, w, ⟨rfl, rfl⟩, by omega, hI, xFr.rf⟩
              · by_cases hc108 : wh = 16
                · refine xg_t (xg_swt (ks := [(9, 56), (10, 67), (11, 78), (12, 86), (13, 94), (14, 143), (15, 102), (16, 113), (17, 124), (18, 135)]) (u := wh) (z := 113) rfl rfl rfl xnm0 (xsw_n hc1 (xsw_n hc19 (xsw_n hc37 (xsw_n hc52 (xsw_n hc67 (xsw_n hc82 (xsw_n hc90 (xsw_y hc108))))))))) ?_
                  refine xg_t (xg_blk (b := [(113, 1, 0, 0, 0, 0), (114, 3, 1, 11, 0, 10), (117, 3, 1, 9, 11, 72), (120, 3, 1, 5, 3, 151), (123, 1, 12, 0, 1, 0)]) rfl) ?_
                  refine xg_t (xg_aload (va := (2, 0)) rfl rfl) ?_
                  have h0_109 := (hI 0 (by decide) : cp0 (wget w 0))
                  refine xg_t (xg_getf (va := (2, 1)) h0_109 rfl) ?_
                  refine xoC1 (hI 1 (by decide) : cp1 (wget w 1)) (fun f1_110 f1_112 f1_114 f1_116 f1_118 f1_120 h1_122 hb111 hb113 hb115 hb117 hb119 hb121 => ?_)
                  refine xg_t (xg_getf (va := (2, 20)) h1_122 rfl) ?_
                  obtain ⟨f20_123, h20_125, hb124⟩ := (hI 20 (by decide) : cp20 (wget w 20))
                  refine xg_t (xg_getf (va := (0, f20_123)) h20_125 rfl) ?_
                  exact xg_e ⟨f20_123, w, ⟨rfl, rfl⟩, by omega, hI, xFr.rf⟩
                · by_cases hc126 : wh = 17
                  · refine xg_t (xg_swt (ks := [(9, 56), (10, 67), (11, 78), (12, 86), (13, 94), (14, 143), (15, 102), (16, 113), (17, 124), (18, 135)]) (u := wh) (z := 124) rfl rfl rfl xnm0 (xsw_n hc1 (xsw_n hc19 (xsw_n hc37 (xsw_n hc52 (xsw_n hc67 (xsw_n hc82 (xsw_n hc90 (xsw_n hc108 (xsw_y hc126)))))))))) ?_
                    refine xg_t (xg_blk (b := [(124, 1, 0, 0, 0, 0), (125, 3, 1, 11, 0, 10), (128, 3, 1, 9, 12, 367), (131, 3, 1, 5, 3, 151), (134, 1, 12, 0, 1, 0)]) rfl) ?_
                    refine xg_t (xg_aload (va := (2, 0)) rfl rfl) ?_
                    have h0_127 := (hI 0 (by decide) : cp0 (wget w 0))
                    refine xg_t (xg_getf (va := (2, 1)) h0_127 rfl) ?_
                    refine xoC1 (hI 1 (by decide) : cp1 (wget w 1)) (fun f1_128 f1_130 f1_132 f1_134 f1_136 f1_138 h1_140 hb129 hb131 hb133 hb135 hb137 hb139 => ?_)
                    refine xg_t (xg_getf (va := (2, 22)) h1_140 rfl) ?_
                    obtain ⟨f22_141, h22_143, hb142⟩ := (hI 22 (by decide) : cp22 (wget w 22))
                    refine xg_t (xg_getf (va := (0, f22_141)) h22_143 rfl) ?_
                    exact xg_e ⟨f22_141, w, ⟨rfl, rfl⟩, by omega, hI, xFr.rf⟩
                  · by_cases hc144 : wh = 18
                    · refine xg_t (xg_swt (ks := [(9, 56), (10, 67), (11, 78), (12, 86), (13, 94), (14, 143), (15, 102), (16, 113), (17, 124), (18, 135)]) (u := wh) (z := 135) rfl rfl rfl xnm0 (xsw_n hc1 (xsw_n hc19 (xsw_n hc37 (xsw_n hc52 (xsw_n hc67 (xsw_n hc82 (xsw_n hc90 (xsw_n hc108 (xsw_n hc126 (xsw_y hc144))))))))))) ?_
                      refine xg_t (xg_blk (b := [(135, 1, 0, 0, 0, 0), (136, 3, 1, 11, 0, 10), (139, 3, 13, 323, 72, 216), (142, 1, 12, 0, 1, 0)]) rfl) ?_
                      refine xg_t (xg_aload (va := (2, 0)) rfl rfl) ?_
                      have h0_145 := (hI 0 (by decide) : cp0 (wget w 0))
                      refine xg_t (xg_getf (va := (2, 1)) h0_145 rfl) ?_
                      refine xoC1 (hI 1 (by decide) : cp1 (wget w 1)) (fun f1_146 f1_148 f1_150 f1_152 f1_154 f1_156 h1_158 hb147 hb149 hb151 hb153 hb155 hb157 => ?_)
                      refine xg_cVi mX9_cracksInView (vs := []) (rest := []) (cn1 := 0) (sl1 := 0) rfl (tdCracksInView (hI)) rfl h1_158 rfl rfl rfl rfl rfl rfl (fun n163 w159 hq160 => ?_)
                      obtain ⟨hn164, hI161, hF162⟩ := hq160
                      exact xg_e ⟨n163, w159, ⟨rfl, rfl⟩, by omega, hI161, (hF162.up (by decide))⟩
                    · refine xg_t (xg_swt (ks := [(9, 56), (10, 67), (11, 78), (12, 86), (13, 94), (14, 143), (15, 102), (16, 113), (17, 124), (18, 135)]) (u := wh) (z := 143) rfl rfl rfl xnm0 (xsw_n hc1 (xsw_n hc19 (xsw_n hc37 (xsw_n hc52 (xsw_n hc67 (xsw_n hc82 (xsw_n hc90 (xsw_n hc108 (xsw_n hc126 (xsw_n hc144 (xsw_d)))))))))))) ?_
                      refine xg_t (xg_blk (b := [(143, 1, 0, 0, 0, 0), (144, 1, 2, 1, 0, 0), (145, 3, 13, 46, 88, 375), (148, 1, 12, 0, 1, 0)]) rfl) ?_
                      refine xg_t (xg_aload (va := (2, 0)) rfl rfl) ?_
                      refine xg_t (xg_iload (va := (0, wh)) rfl rfl) ?_
                      have h0_165 := (hI 0 (by decide) : cp0 (wget w 0))
                      refine xg_cVi mX11_countOfFilm (vs := [(0, wh)]) (rest := []) (cn1 := 0) (sl1 := 0) rfl (scCountOfFilm (hI) (by omega)) rfl h0_165 rfl rfl rfl rfl rfl rfl (fun n170 w166 hq167 => ?_)
                      obtain ⟨hn171, hI168, hF169⟩ := hq167
                      exact xg_e ⟨n170, w166, ⟨rfl, rfl⟩, by omega, hI168, (hF169.up (by decide))⟩
end XCO
end
section
/-! Tokens: but for words -/
section XTK
variable {d : Nat} {w : List (List xE)} {bd : List (Nat × Nat)} {fc : List (Nat × Nat × Bool)} {rr : Nat × Nat}
theorem tkIsLetter {by_ : Nat} (hI : xInv w) (h1 : by_ ≤ 4294967295) : xPi d mX8_isLetter [(0, by_)] w bd fc rr (fun n w' => (n ≤ 1) ∧ xInv w' ∧ xFr [] w w') := by
  refine xPi.of ?_
  show xTo d mX8_isLetter (0, [], [(0, (0, by_))], [], (w, bd, fc, 0, 0, rr)) (fun φ => ∃ n w', xEnd 4 [(0, n)] (w', bd, fc, 0, 0, rr) φ ∧ (n ≤ 1) ∧ xInv w' ∧ xFr [] w w')
  refine xg_t (xg_blk (b := [(0, 1, 2, 0, 0, 0), (1, 2, 4, 97, 0, 0), (3, 3, 6, 16, 2, 0), (6, 1, 2, 0, 0, 0), (7, 2, 4, 122, 0, 0), (9, 3, 6, 16, 4, 0), (12, 1, 3, 1, 0, 0), (13, 3, 8, 17, 0, 0)]) rfl) ?_
  refine xg_t (xg_iload (va := (0, by_)) rfl rfl) ?_
  refine xg_t (xg_bip) ?_
  by_cases hc1 : xbs by_ < xbs 97
  · have hc1u := hc1
    unfold xbs at hc1u
    refine xg_t (xg_icT (u := by_) (v := 97) rfl xnm0 xnm0 (xjs_ltT hc1)) ?_
    refine xg_t (xg_blk (b := [(16, 1, 3, 0, 0, 0)]) rfl) ?_
    refine xg_t (xg_const) ?_
    refine xg_t (xg_blk (b := [(17, 1, 12, 0, 1, 0)]) rfl) ?_
    exact xg_e ⟨0, w, ⟨rfl, rfl⟩, by first | decide | omega, hI, xFr.rf⟩
  · have hc1u := hc1
    unfold xbs at hc1u
    have hn2 : by_ ≤ 2147483647 := by omega
    refine xg_t (xg_icF (u := by_) (v := 97) rfl xnm0 xnm0 (xjs_ltF hc1)) ?_
    refine xg_t (xg_iload (va := (0, by_)) rfl rfl) ?_
    refine xg_t (xg_bip) ?_
    by_cases hc3 : 122 < by_
    · refine xg_t (xg_icT (u := by_) (v := 122) rfl xnm0 xnm0 (xj_gtT hc3 (by omega))) ?_
      refine xg_t (xg_blk (b := [(16, 1, 3, 0, 0, 0)]) rfl) ?_
      refine xg_t (xg_const) ?_
      refine xg_t (xg_blk (b := [(17, 1, 12, 0, 1, 0)]) rfl) ?_
      exact xg_e ⟨0, w, ⟨rfl, rfl⟩, by first | decide | omega, hI, xFr.rf⟩
    · refine xg_t (xg_icF (u := by_) (v := 122) rfl xnm0 xnm0 (xj_gtF (by omega) (by omega))) ?_
      refine xg_t (xg_const) ?_
      refine xg_t (xg_goto) ?_
      refine xg_t (xg_blk (b := [(17, 1, 12, 0, 1, 0)]) rfl) ?_
      exact xg_e ⟨1, w, ⟨rfl, rfl⟩, by first | decide | omega, hI, xFr.rf⟩
theorem tkIsDigit {by_ : Nat} (hI : xInv w) (h1 : by_ ≤ 4294967295) : xPi d mX8_isDigit [(0, by_)] w bd fc rr (fun n w' => (n ≤ 1) ∧ xInv w' ∧ xFr [] w w') := by
  refine xPi.of ?_
  show xTo d mX8_isDigit (0, [], [(0, (0, by_))], [], (w, bd, fc, 0, 0, rr)) (fun φ => ∃ n w', xEnd 4 [(0, n)] (w', bd, fc, 0, 0, rr) φ ∧ (n ≤ 1) ∧ xInv w' ∧ xFr [] w w')
  refine xg_t (xg_blk (b := [(0, 1, 2, 0, 0, 0), (1, 2, 4, 48, 0, 0), (3, 3, 6, 16, 2, 0), (6, 1, 2, 0, 0, 0), (7, 2, 4, 57, 0, 0), (9, 3, 6, 16, 4, 0), (12, 1, 3, 1, 0, 0), (13, 3, 8, 17, 0, 0)]) rfl) ?_
  refine xg_t (xg_iload (va := (0, by_)) rfl rfl) ?_
  refine xg_t (xg_bip) ?_
  by_cases hc1 : xbs by_ < xbs 48
  · have hc1u := hc1
    unfold xbs at hc1u
    refine xg_t (xg_icT (u := by_) (v := 48) rfl xnm0 xnm0 (xjs_ltT hc1)) ?_
    refine xg_t (xg_blk (b := [(16, 1, 3, 0, 0, 0)]) rfl) ?_
    refine xg_t (xg_const) ?_
    refine xg_t (xg_blk (b := [(17, 1, 12, 0, 1, 0)]) rfl) ?_
    exact xg_e ⟨0, w, ⟨rfl, rfl⟩, by first | decide | omega, hI, xFr.rf⟩
  · have hc1u := hc1
    unfold xbs at hc1u
    have hn2 : by_ ≤ 2147483647 := by omega
    refine xg_t (xg_icF (u := by_) (v := 48) rfl xnm0 xnm0 (xjs_ltF hc1)) ?_
    refine xg_t (xg_iload (va := (0, by_)) rfl rfl) ?_
    refine xg_t (xg_bip) ?_
    by_cases hc3 : 57 < by_
    · refine xg_t (xg_icT (u := by_) (v := 57) rfl xnm0 xnm0 (xj_gtT hc3 (by omega))) ?_
      refine xg_t (xg_blk (b := [(16, 1, 3, 0, 0, 0)]) rfl) ?_
      refine xg_t (xg_const) ?_
      refine xg_t (xg_blk (b := [(17, 1, 12, 0, 1, 0)]) rfl) ?_
      exact xg_e ⟨0, w, ⟨rfl, rfl⟩, by first | decide | omega, hI, xFr.rf⟩
    · refine xg_t (xg_icF (u := by_) (v := 57) rfl xnm0 xnm0 (xj_gtF (by omega) (by omega))) ?_
      refine xg_t (xg_const) ?_
      refine xg_t (xg_goto) ?_
      refine xg_t (xg_blk (b := [(17, 1, 12, 0, 1, 0)]) rfl) ?_
      exact xg_e ⟨1, w, ⟨rfl, rfl⟩, by first | decide | omega, hI, xFr.rf⟩
theorem tkIsSignByte {by_ : Nat} (hI : xInv w) (h1 : by_ ≤ 4294967295) : xPi d mX8_isSignByte [(0, by_)] w bd fc rr (fun n w' => (n ≤ 1) ∧ xInv w' ∧ xFr [] w w') := by
  refine xPi.of ?_
  show xTo d mX8_isSignByte (0, [], [(0, (0, by_))], [], (w, bd, fc, 0, 0, rr)) (fun φ => ∃ n w', xEnd 4 [(0, n)] (w', bd, fc, 0, 0, rr) φ ∧ (n ≤ 1) ∧ xInv w' ∧ xFr [] w w')
  refine xg_t (xg_blk (b := [(0, 1, 2, 0, 0, 0), (1, 2, 4, 59, 0, 0), (3, 3, 6, 30, 0, 0), (6, 1, 2, 0, 0, 0), (7, 2, 4, 58, 0, 0), (9, 3, 6, 30, 0, 0), (12, 1, 2, 0, 0, 0), (13, 2, 4, 60, 0, 0), (15, 3, 6, 30, 0, 0), (18, 1, 2, 0, 0, 0), (19, 2, 4, 62, 0, 0), (21, 3, 6, 30, 0, 0), (24, 1, 2, 0, 0, 0), (25, 2, 4, 61, 0, 0), (27, 3, 6, 34, 1, 0)]) rfl) ?_
  refine xg_t (xg_iload (va := (0, by_)) rfl rfl) ?_
  refine xg_t (xg_bip) ?_
  by_cases hc1 : by_ = 59
  · refine xg_t (xg_icT (u := by_) (v := 59) rfl xnm0 xnm0 (xj_eqT hc1)) ?_
    refine xg_t (xg_blk (b := [(30, 1, 3, 1, 0, 0), (31, 3, 8, 35, 0, 0)]) rfl) ?_
    refine xg_t (xg_const) ?_
    refine xg_t (xg_goto) ?_
    refine xg_t (xg_blk (b := [(35, 1, 12, 0, 1, 0)]) rfl) ?_
    exact xg_e ⟨1, w, ⟨rfl, rfl⟩, by first | decide | omega, hI, xFr.rf⟩
  · refine xg_t (xg_icF (u := by_) (v := 59) rfl xnm0 xnm0 (xj_eqF hc1)) ?_
    refine xg_t (xg_iload (va := (0, by_)) rfl rfl) ?_
    refine xg_t (xg_bip) ?_
    by_cases hc2 : by_ = 58
    · refine xg_t (xg_icT (u := by_) (v := 58) rfl xnm0 xnm0 (xj_eqT hc2)) ?_
      refine xg_t (xg_blk (b := [(30, 1, 3, 1, 0, 0), (31, 3, 8, 35, 0, 0)]) rfl) ?_
      refine xg_t (xg_const) ?_
      refine xg_t (xg_goto) ?_
      refine xg_t (xg_blk (b := [(35, 1, 12, 0, 1, 0)]) rfl) ?_
      exact xg_e ⟨1, w, ⟨rfl, rfl⟩, by first | decide | omega, hI, xFr.rf⟩
    · refine xg_t (xg_icF (u := by_) (v := 58) rfl xnm0 xnm0 (xj_eqF hc2)) ?_
      refine xg_t (xg_iload (va := (0, by_)) rfl rfl) ?_
      refine xg_t (xg_bip) ?_
      by_cases hc3 : by_ = 60
      · refine xg_t (xg_icT (u := by_) (v := 60) rfl xnm0 xnm0 (xj_eqT hc3)) ?_
        refine xg_t (xg_blk (b := [(30, 1, 3, 1, 0, 0), (31, 3, 8, 35, 0, 0)]) rfl) ?_
        refine xg_t (xg_const) ?_
        refine xg_t (xg_goto) ?_
        refine xg_t (xg_blk (b := [(35, 1, 12, 0, 1, 0)]) rfl) ?_
        exact xg_e ⟨1, w, ⟨rfl, rfl⟩, by first | decide | omega, hI, xFr.rf⟩
      · refine xg_t (xg_icF (u := by_) (v := 60) rfl xnm0 xnm0 (xj_eqF hc3)) ?_
        refine xg_t (xg_iload (va := (0, by_)) rfl rfl) ?_
        refine xg_t (xg_bip) ?_
        by_cases hc4 : by_ = 62
        · refine xg_t (xg_icT (u := by_) (v := 62) rfl xnm0 xnm0 (xj_eqT hc4)) ?_
          refine xg_t (xg_blk (b := [(30, 1, 3, 1, 0, 0), (31, 3, 8, 35, 0, 0)]) rfl) ?_
          refine xg_t (xg_const) ?_
          refine xg_t (xg_goto) ?_
          refine xg_t (xg_blk (b := [(35, 1, 12, 0, 1, 0)]) rfl) ?_
          exact xg_e ⟨1, w, ⟨rfl, rfl⟩, by first | decide | omega, hI, xFr.rf⟩
        · refine xg_t (xg_icF (u := by_) (v := 62) rfl xnm0 xnm0 (xj_eqF hc4)) ?_
          refine xg_t (xg_iload (va := (0, by_)) rfl rfl) ?_
          refine xg_t (xg_bip) ?_
          by_cases hc5 : by_ = 61
          · refine xg_t (xg_icF (u := by_) (v := 61) rfl xnm0 xnm0 (xj_neF hc5)) ?_
            refine xg_t (xg_blk (b := [(30, 1, 3, 1, 0, 0), (31, 3, 8, 35, 0, 0)]) rfl) ?_
            refine xg_t (xg_const) ?_
            refine xg_t (xg_goto) ?_
            refine xg_t (xg_blk (b := [(35, 1, 12, 0, 1, 0)]) rfl) ?_
            exact xg_e ⟨1, w, ⟨rfl, rfl⟩, by first | decide | omega, hI, xFr.rf⟩
          · refine xg_t (xg_icT (u := by_) (v := 61) rfl xnm0 xnm0 (xj_neT hc5)) ?_
            refine xg_t (xg_blk (b := [(34, 1, 3, 0, 0, 0)]) rfl) ?_
            refine xg_t (xg_const) ?_
            refine xg_t (xg_blk (b := [(35, 1, 12, 0, 1, 0)]) rfl) ?_
            exact xg_e ⟨0, w, ⟨rfl, rfl⟩, by first | decide | omega, hI, xFr.rf⟩
theorem tkTakeDigits48 {le0 kd0 pl0 af0 nu0 : Nat} (hI : xInv w) (hc0 : wget w 48 = some (.inl (8, [(2, 2), (0, le0), (0, kd0), (0, pl0), (0, af0), (0, nu0)]))) (hl0 : le0 ≤ 500) (hk0 : kd0 ≤ 4294967295) (hp0 : pl0 ≤ 499) (ha0 : af0 ≤ 500) (hn0 : nu0 ≤ 4294967295) : xPq (d + 1) mX8_takeDigits [(2, 48)] w bd fc rr [] (fun w' => xInv w' ∧ xFr [48] w w') := by
  refine xPq.of ?_
  show xTo (d + 1) mX8_takeDigits (0, [], [(0, (2, 48))], [], (w, bd, fc, 0, 0, rr)) (fun φ => ∃ w', xEnd 0 [] (w', bd, fc, 0, 0, rr) φ ∧ xInv w' ∧ xFr [48] w w')
  obtain ⟨g2_1, h2_2, hb3⟩ := (hI 2 (by decide) : cpY 500 0 (wget w 2))
  have h2_2 : xRk 1 0 w 2 500 0 g2_1 := h2_2
  refine xg_t (xg_blk (b := [(0, 1, 0, 0, 0, 0), (1, 1, 3, 0, 0, 0), (2, 3, 14, 8, 5, 48)]) rfl) ?_
  refine xg_t (xg_aload (va := (2, 48)) rfl rfl) ?_
  refine xg_t (xg_const) ?_
  refine xg_putI (fl1 := [(2, 2), (0, le0), (0, kd0), (0, pl0), (0, af0), (0, 0)]) hc0 rfl rfl rfl (fun w4 hk5 hb6 => ?_)
  have key7 : ∀ (m9 : Nat) (le1 kd1 pl1 af1 nu1 : Nat) (w10 : List (List xE)), 500 - af1 < m9 → le1 ≤ 500 → kd1 ≤ 4294967295 → pl1 ≤ 500 → af1 ≤ 500 → nu1 ≤ 4294967295 → wget w10 48 = some (.inl (8, [(2, 2), (0, le1), (0, kd1), (0, pl1), (0, af1), (0, nu1)])) → (kd1 = 0 ∨ pl1 ≤ 499) → xInv w10 → xFr [48] w w10 → pl1 ≤ 499 → xTo (d + 1) mX8_takeDigits (5, [], [(0, (2, 48))], [], (w10, bd, fc, 0, 0, rr)) (fun φ => ∃ w', xEnd 0 [] (w', bd, fc, 0, 0, rr) φ ∧ xInv w' ∧ xFr [48] w w') := by
    intro m9
    induction m9 with
    | zero => intro le1 kd1 pl1 af1 nu1 w10 hz; exact absurd hz (Nat.not_lt_zero _)
    | succ m9 ih8 =>
      intro le1 kd1 pl1 af1 nu1 w10 hm21 hn13 hn14 hn15 hn16 hn17 hcl18 hx19 hI11 hF12 he20
      refine xg_t (xg_blk (b := [(5, 1, 0, 0, 0, 0), (6, 3, 1, 8, 4, 23), (9, 1, 0, 0, 0, 0), (10, 3, 1, 8, 1, 19), (13, 3, 6, 81, 3, 0), (16, 1, 0, 0, 0, 0), (17, 3, 1, 8, 0, 7), (20, 1, 0, 0, 0, 0), (21, 3, 1, 8, 4, 23), (24, 1, 32, 0, 0, 0), (25, 3, 13, 314, 66, 39), (28, 3, 7, 81, 0, 0), (31, 1, 0, 0, 0, 0), (32, 3, 1, 8, 4, 23), (35, 1, 0, 0, 0, 0), (36, 3, 1, 8, 3, 29), (39, 1, 18, 0, 0, 0), (40, 1, 3, 4, 0, 0), (41, 3, 6, 68, 3, 0), (44, 1, 0, 0, 0, 0), (45, 1, 0, 0, 0, 0), (46, 3, 1, 8, 5, 48), (49, 2, 4, 10, 0, 0), (51, 1, 16, 0, 0, 0), (52, 1, 0, 0, 0, 0), (53, 3, 1, 8, 0, 7), (56, 1, 0, 0, 0, 0), (57, 3, 1, 8, 4, 23), (60, 1, 32, 0, 0, 0), (61, 1, 11, 0, 0, 0), (62, 2, 4, 48, 0, 0), (64, 1, 18, 0, 0, 0), (65, 3, 14, 8, 5, 48)]) rfl) ?_
      refine xg_t (xg_aload (va := (2, 48)) rfl rfl) ?_
      refine xg_t (xg_getf (va := (0, af1)) hcl18 rfl) ?_
      refine xg_t (xg_aload (va := (2, 48)) rfl rfl) ?_
      refine xg_t (xg_getf (va := (0, le1)) hcl18 rfl) ?_
      by_cases hc22 : af1 < le1
      · refine xg_t (xg_icF (u := af1) (v := le1) rfl xnm0 xnm0 (xj_geF hc22 (by omega))) ?_
        refine xg_t (xg_aload (va := (2, 48)) rfl rfl) ?_
        refine xg_t (xg_getf (va := (2, 2)) hcl18 rfl) ?_
        refine xg_t (xg_aload (va := (2, 48)) rfl rfl) ?_
        refine xg_t (xg_getf (va := (0, af1)) hcl18 rfl) ?_
        refine xg_baldY (n := af1) (h2_2.fr hF12 (by decide)) (hb3) xnm0 (by omega) (fun u23 hu24 he25 => ?_)
        refine xg_cSi mX8_isDigit (vs := [(0, u23)]) (rest := []) (cn1 := 0) (sl1 := 0) rfl (tkIsDigit (hI11) (by omega)) rfl rfl rfl rfl rfl rfl rfl (fun n30 w26 hq27 => ?_)
        obtain ⟨hn31, hI28, hF29⟩ := hq27
        by_cases hc32 : n30 = 0
        · refine xg_t (xg_ifT (u := n30) rfl xnm0 (xj_eqT hc32)) ?_
          refine xg_t (xg_blk (b := [(81, 1, 0, 0, 0, 0), (82, 1, 0, 0, 0, 0), (83, 3, 1, 8, 4, 23), (86, 1, 0, 0, 0, 0), (87, 3, 1, 8, 3, 29), (90, 1, 18, 0, 0, 0), (91, 1, 3, 4, 0, 0), (92, 3, 6, 99, 5, 0), (95, 1, 3, 4, 0, 0), (96, 3, 8, 100, 0, 0)]) rfl) ?_
          refine xg_t (xg_aload (va := (2, 48)) rfl rfl) ?_
          refine xg_t (xg_aload (va := (2, 48)) rfl rfl) ?_
          refine xg_t (xg_getf (va := (0, af1)) (hF29.get (by decide) hcl18) rfl) ?_
          refine xg_t (xg_aload (va := (2, 48)) rfl rfl) ?_
          refine xg_t (xg_getf (va := (0, pl1)) (hF29.get (by decide) hcl18) rfl) ?_
          refine xg_k (xg_isub (u := af1) (v := pl1) (z := (af1 + (4294967296 - pl1)) % 4294967296) xnm0 xnm0 rfl) (Nat.mod_lt _ (by decide)) (fun z33 hz34 => ?_)
          refine xg_t (xg_const) ?_
          by_cases hc35 : xbs 4 < xbs z33
          · have hc35u := hc35
            unfold xbs at hc35u
            have hn36 : z33 ≤ 2147483647 := by omega
            refine xg_t (xg_icF (u := z33) (v := 4) rfl xnm0 xnm0 (xjs_leF hc35)) ?_
            refine xg_t (xg_const) ?_
            refine xg_t (xg_goto) ?_
            refine xg_t (xg_blk (b := [(100, 3, 14, 8, 2, 32), (103, 1, 12, 0, 0, 0)]) rfl) ?_
            refine xg_putI (fl1 := [(2, 2), (0, le1), (0, 4), (0, pl1), (0, af1), (0, nu1)]) (hF29.get (by decide) hcl18) rfl rfl rfl (fun w37 hk38 hb39 => ?_)
            exact xg_e ⟨w37, ⟨rfl, rfl⟩, xInv.up (S := [48]) hI28 (xFr.of (S := [48]) hb39 (by decide)) (List.forall_mem_cons.mpr ⟨(show cp48 (wget w37 48) from xmC48 le1 4 pl1 af1 nu1 hk38 hn13 (by decide) hn15 hn16 hn17 (by omega)), fun _ h => absurd h List.not_mem_nil⟩), ((hF12.tr (hF29.up (by decide))).tr (xFr.of (S := [48]) hb39 (by decide)))⟩
          · have hc35u := hc35
            unfold xbs at hc35u
            refine xg_t (xg_icT (u := z33) (v := 4) rfl xnm0 xnm0 (xjs_leT hc35)) ?_
            refine xg_t (xg_blk (b := [(99, 1, 3, 2, 0, 0)]) rfl) ?_
            refine xg_t (xg_const) ?_
            refine xg_t (xg_blk (b := [(100, 3, 14, 8, 2, 32), (103, 1, 12, 0, 0, 0)]) rfl) ?_
            refine xg_putI (fl1 := [(2, 2), (0, le1), (0, 2), (0, pl1), (0, af1), (0, nu1)]) (hF29.get (by decide) hcl18) rfl rfl rfl (fun w40 hk41 hb42 => ?_)
            exact xg_e ⟨w40, ⟨rfl, rfl⟩, xInv.up (S := [48]) hI28 (xFr.of (S := [48]) hb42 (by decide)) (List.forall_mem_cons.mpr ⟨(show cp48 (wget w40 48) from xmC48 le1 2 pl1 af1 nu1 hk41 hn13 (by decide) hn15 hn16 hn17 (by omega)), fun _ h => absurd h List.not_mem_nil⟩), ((hF12.tr (hF29.up (by decide))).tr (xFr.of (S := [48]) hb42 (by decide)))⟩
        · refine xg_t (xg_ifF (u := n30) rfl xnm0 (xj_eqF hc32)) ?_
          refine xg_t (xg_aload (va := (2, 48)) rfl rfl) ?_
          refine xg_t (xg_getf (va := (0, af1)) (hF29.get (by decide) hcl18) rfl) ?_
          refine xg_t (xg_aload (va := (2, 48)) rfl rfl) ?_
          refine xg_t (xg_getf (va := (0, pl1)) (hF29.get (by decide) hcl18) rfl) ?_
          refine xg_k (xg_isub (u := af1) (v := pl1) (z := (af1 + (4294967296 - pl1)) % 4294967296) xnm0 xnm0 rfl) (Nat.mod_lt _ (by decide)) (fun z43 hz44 => ?_)
          refine xg_t (xg_const) ?_
          by_cases hc45 : xbs z43 < xbs 4
          · have hc45u := hc45
            unfold xbs at hc45u
            refine xg_t (xg_icF (u := z43) (v := 4) rfl xnm0 xnm0 (xjs_geF hc45)) ?_
            refine xg_t (xg_aload (va := (2, 48)) rfl rfl) ?_
            refine xg_t (xg_aload (va := (2, 48)) rfl rfl) ?_
            refine xg_t (xg_getf (va := (0, nu1)) (hF29.get (by decide) hcl18) rfl) ?_
            refine xg_t (xg_bip) ?_
            refine xg_k (xg_imul (u := nu1) (v := 10) (z := (nu1 * 10) % 4294967296) xnm0 xnm0 rfl) (Nat.mod_lt _ (by decide)) (fun z46 hz47 => ?_)
            refine xg_t (xg_aload (va := (2, 48)) rfl rfl) ?_
            refine xg_t (xg_getf (va := (2, 2)) (hF29.get (by decide) hcl18) rfl) ?_
            refine xg_t (xg_aload (va := (2, 48)) rfl rfl) ?_
            refine xg_t (xg_getf (va := (0, af1)) (hF29.get (by decide) hcl18) rfl) ?_
            refine xg_baldY (n := af1) ((h2_2.fr hF12 (by decide)).fr hF29 (by decide)) (hb3) xnm0 (by omega) (fun u48 hu49 he50 => ?_)
            refine xg_k (xg_iadd (u := z46) (v := u48) (z := (z46 + u48) % 4294967296) xnm0 xnm0 rfl) (Nat.mod_lt _ (by decide)) (fun z51 hz52 => ?_)
            refine xg_t (xg_bip) ?_
            refine xg_k (xg_isub (u := z51) (v := 48) (z := (z51 + (4294967296 - 48)) % 4294967296) xnm0 xnm0 rfl) (Nat.mod_lt _ (by decide)) (fun z53 hz54 => ?_)
            refine xg_putI (fl1 := [(2, 2), (0, le1), (0, kd1), (0, pl1), (0, af1), (0, z53)]) (hF29.get (by decide) hcl18) rfl rfl rfl (fun w55 hk56 hb57 => ?_)
            refine xg_t (xg_blk (b := [(68, 1, 0, 0, 0, 0), (69, 1, 19, 0, 0, 0), (70, 3, 1, 8, 4, 23), (73, 1, 3, 1, 0, 0), (74, 1, 11, 0, 0, 0), (75, 3, 14, 8, 4, 23), (78, 3, 8, 5, 0, 0)]) rfl) ?_
            refine xg_t (xg_aload (va := (2, 48)) rfl rfl) ?_
            refine xg_t (xg_dup rfl) ?_
            refine xg_t (xg_getf (va := (0, af1)) hk56 rfl) ?_
            refine xg_t (xg_const) ?_
            refine xg_t (xg_iadd (u := af1) (v := 1) (z := af1 + 1) xnm0 xnm0 (by omega)) ?_
            refine xg_putI (fl1 := [(2, 2), (0, le1), (0, kd1), (0, pl1), (0, af1 + 1), (0, z53)]) hk56 rfl rfl rfl (fun w58 hk59 hb60 => ?_)
            refine xg_t (xg_goto) ?_
            exact ih8 le1 kd1 pl1 (af1 + 1) z53 w58 (by omega) (hn13) (hn14) (hn15) (by omega) (by omega) hk59 (by omega) (xInv.up (S := [48]) hI28 ((xFr.of (S := [48]) hb57 (by decide)).tr (xFr.of (S := [48]) hb60 (by decide))) (List.forall_mem_cons.mpr ⟨(show cp48 (wget w58 48) from xmC48 le1 kd1 pl1 (af1 + 1) z53 hk59 hn13 hn14 hn15 (by omega) (by omega) (by omega)), fun _ h => absurd h List.not_mem_nil⟩)) (((hF12.tr (hF29.up (by decide))).tr ((xFr.of (S := [48]) hb57 (by decide)).tr (xFr.of (S := [48]) hb60 (by decide))))) (by omega)
          · have hc45u := hc45
            unfold xbs at hc45u
            have hn61 : z43 ≤ 2147483647 := by omega
            refine xg_t (xg_icT (u := z43) (v := 4) rfl xnm0 xnm0 (xjs_geT hc45)) ?_
            refine xg_t (xg_blk (b := [(68, 1, 0, 0, 0, 0), (69, 1, 19, 0, 0, 0), (70, 3, 1, 8, 4, 23), (73, 1, 3, 1, 0, 0), (74, 1, 11, 0, 0, 0), (75, 3, 14, 8, 4, 23), (78, 3, 8, 5, 0, 0)]) rfl) ?_
            refine xg_t (xg_aload (va := (2, 48)) rfl rfl) ?_
            refine xg_t (xg_dup rfl) ?_
            refine xg_t (xg_getf (va := (0, af1)) (hF29.get (by decide) hcl18) rfl) ?_
            refine xg_t (xg_const) ?_
            refine xg_t (xg_iadd (u := af1) (v := 1) (z := af1 + 1) xnm0 xnm0 (by omega)) ?_
            refine xg_putI (fl1 := [(2, 2), (0, le1), (0, kd1), (0, pl1), (0, af1 + 1), (0, nu1)]) (hF29.get (by decide) hcl18) rfl rfl rfl (fun w62 hk63 hb64 => ?_)
            refine xg_t (xg_goto) ?_
            exact ih8 le1 kd1 pl1 (af1 + 1) nu1 w62 (by omega) (hn13) (hn14) (hn15) (by omega) (hn17) hk63 (by omega) (xInv.up (S := [48]) hI28 (xFr.of (S := [48]) hb64 (by decide)) (List.forall_mem_cons.mpr ⟨(show cp48 (wget w62 48) from xmC48 le1 kd1 pl1 (af1 + 1) nu1 hk63 hn13 hn14 hn15 (by omega) hn17 (by omega)), fun _ h => absurd h List.not_mem_nil⟩)) (((hF12.tr (hF29.up (by decide))).tr (xFr.of (S := [48]) hb64 (by decide)))) (by omega)
      · refine xg_t (xg_icT (u := af1) (v := le1) rfl xnm0 xnm0 (xj_geT (by omega) (by omega))) ?_
        refine xg_t (xg_blk (b := [(81, 1, 0, 0, 0, 0), (82, 1, 0, 0, 0, 0), (83, 3, 1, 8, 4, 23), (86, 1, 0, 0, 0, 0), (87, 3, 1, 8, 3, 29), (90, 1, 18, 0, 0, 0), (91, 1, 3, 4, 0, 0), (92, 3, 6, 99, 5, 0), (95, 1, 3, 4, 0, 0), (96, 3, 8, 100, 0, 0)]) rfl) ?_
        refine xg_t (xg_aload (va := (2, 48)) rfl rfl) ?_
        refine xg_t (xg_aload (va := (2, 48)) rfl rfl) ?_
        refine xg_t (xg_getf (va := (0, af1)) hcl18 rfl) ?_
        refine xg_t (xg_aload (va := (2, 48)) rfl rfl) ?_
        refine xg_t (xg_getf (va := (0, pl1)) hcl18 rfl) ?_
        refine xg_k (xg_isub (u := af1) (v := pl1) (z := (af1 + (4294967296 - pl1)) % 4294967296) xnm0 xnm0 rfl) (Nat.mod_lt _ (by decide)) (fun z65 hz66 => ?_)
        refine xg_t (xg_const) ?_
        by_cases hc67 : xbs 4 < xbs z65
        · have hc67u := hc67
          unfold xbs at hc67u
          have hn68 : z65 ≤ 2147483647 := by omega
          refine xg_t (xg_icF (u := z65) (v := 4) rfl xnm0 xnm0 (xjs_leF hc67)) ?_
          refine xg_t (xg_const) ?_
          refine xg_t (xg_goto) ?_
          refine xg_t (xg_blk (b := [(100, 3, 14, 8, 2, 32), (103, 1, 12, 0, 0, 0)]) rfl) ?_
          refine xg_putI (fl1 := [(2, 2), (0, le1), (0, 4), (0, pl1), (0, af1), (0, nu1)]) hcl18 rfl rfl rfl (fun w69 hk70 hb71 => ?_)
          exact xg_e ⟨w69, ⟨rfl, rfl⟩, xInv.up (S := [48]) hI11 (xFr.of (S := [48]) hb71 (by decide)) (List.forall_mem_cons.mpr ⟨(show cp48 (wget w69 48) from xmC48 le1 4 pl1 af1 nu1 hk70 hn13 (by decide) hn15 hn16 hn17 (by omega)), fun _ h => absurd h List.not_mem_nil⟩), (hF12.tr (xFr.of (S := [48]) hb71 (by decide)))⟩
        · have hc67u := hc67
          unfold xbs at hc67u
          refine xg_t (xg_icT (u := z65) (v := 4) rfl xnm0 xnm0 (xjs_leT hc67)) ?_
          refine xg_t (xg_blk (b := [(99, 1, 3, 2, 0, 0)]) rfl) ?_
          refine xg_t (xg_const) ?_
          refine xg_t (xg_blk (b := [(100, 3, 14, 8, 2, 32), (103, 1, 12, 0, 0, 0)]) rfl) ?_
          refine xg_putI (fl1 := [(2, 2), (0, le1), (0, 2), (0, pl1), (0, af1), (0, nu1)]) hcl18 rfl rfl rfl (fun w72 hk73 hb74 => ?_)
          exact xg_e ⟨w72, ⟨rfl, rfl⟩, xInv.up (S := [48]) hI11 (xFr.of (S := [48]) hb74 (by decide)) (List.forall_mem_cons.mpr ⟨(show cp48 (wget w72 48) from xmC48 le1 2 pl1 af1 nu1 hk73 hn13 (by decide) hn15 hn16 hn17 (by omega)), fun _ h => absurd h List.not_mem_nil⟩), (hF12.tr (xFr.of (S := [48]) hb74 (by decide)))⟩
  exact key7 _ le0 kd0 pl0 af0 0 w4 (Nat.lt_succ_self _) (by omega) (by omega) (by omega) (by omega) (by decide) hk5 (by omega) (xInv.up (S := [48]) hI (xFr.of (S := [48]) hb6 (by decide)) (List.forall_mem_cons.mpr ⟨(show cp48 (wget w4 48) from xmC48 le0 kd0 pl0 af0 0 hk5 (by omega) (by omega) (by omega) (by omega) (by decide) (by omega)), fun _ h => absurd h List.not_mem_nil⟩)) ((xFr.of (S := [48]) hb6 (by decide))) (by omega)
theorem tkAdvance48 (hI : xInv w)  : xPq (d + 2) mX8_advance [(2, 48)] w bd fc rr [] (fun w' => xInv w' ∧ xFr [48] w w') := by
  refine xPq.of ?_
  show xTo (d + 2) mX8_advance (0, [], [(0, (2, 48))], [], (w, bd, fc, 0, 0, rr)) (fun φ => ∃ w', xEnd 0 [] (w', bd, fc, 0, 0, rr) φ ∧ xInv w' ∧ xFr [48] w w')
  obtain ⟨g2_1, h2_2, hb3⟩ := (hI 2 (by decide) : cpY 500 0 (wget w 2))
  have h2_2 : xRk 1 0 w 2 500 0 g2_1 := h2_2
  refine xoC48 (hI 48 (by decide) : cp48 (wget w 48)) (fun f48_4 f48_6 f48_8 f48_10 f48_12 h48_14 hb5 hb7 hb9 hb11 hb13 hb15 => ?_)
  have key16 : ∀ (m18 : Nat) (le1 kd1 pl1 af1 nu1 : Nat) (w19 : List (List xE)), 500 - af1 < m18 → le1 ≤ 500 → kd1 ≤ 4294967295 → pl1 ≤ 500 → af1 ≤ 500 → nu1 ≤ 4294967295 → wget w19 48 = some (.inl (8, [(2, 2), (0, le1), (0, kd1), (0, pl1), (0, af1), (0, nu1)])) → (kd1 = 0 ∨ pl1 ≤ 499) → xInv w19 → xFr [48] w w19 → xTo (d + 2) mX8_advance (0, [], [(0, (2, 48))], [], (w19, bd, fc, 0, 0, rr)) (fun φ => ∃ w', xEnd 0 [] (w', bd, fc, 0, 0, rr) φ ∧ xInv w' ∧ xFr [48] w w') := by
    intro m18
    induction m18 with
    | zero => intro le1 kd1 pl1 af1 nu1 w19 hz; exact absurd hz (Nat.not_lt_zero _)
    | succ m18 ih17 =>
      intro le1 kd1 pl1 af1 nu1 w19 hm29 hn22 hn23 hn24 hn25 hn26 hcl27 hx28 hI20 hF21
      refine xg_t (xg_blk (b := [(0, 1, 0, 0, 0, 0), (1, 3, 1, 8, 4, 23), (4, 1, 0, 0, 0, 0), (5, 3, 1, 8, 1, 19), (8, 3, 6, 52, 3, 0), (11, 1, 0, 0, 0, 0), (12, 3, 1, 8, 0, 7), (15, 1, 0, 0, 0, 0), (16, 3, 1, 8, 4, 23), (19, 1, 32, 0, 0, 0), (20, 2, 4, 32, 0, 0), (22, 3, 6, 39, 0, 0), (25, 1, 0, 0, 0, 0), (26, 3, 1, 8, 0, 7), (29, 1, 0, 0, 0, 0), (30, 3, 1, 8, 4, 23), (33, 1, 32, 0, 0, 0), (34, 2, 4, 10, 0, 0), (36, 3, 6, 52, 1, 0)]) rfl) ?_
      refine xg_t (xg_aload (va := (2, 48)) rfl rfl) ?_
      refine xg_t (xg_getf (va := (0, af1)) hcl27 rfl) ?_
      refine xg_t (xg_aload (va := (2, 48)) rfl rfl) ?_
      refine xg_t (xg_getf (va := (0, le1)) hcl27 rfl) ?_
      by_cases hc30 : af1 < le1
      · refine xg_t (xg_icF (u := af1) (v := le1) rfl xnm0 xnm0 (xj_geF hc30 (by omega))) ?_
        refine xg_t (xg_aload (va := (2, 48)) rfl rfl) ?_
        refine xg_t (xg_getf (va := (2, 2)) hcl27 rfl) ?_
        refine xg_t (xg_aload (va := (2, 48)) rfl rfl) ?_
        refine xg_t (xg_getf (va := (0, af1)) hcl27 rfl) ?_
        refine xg_baldY (n := af1) (h2_2.fr hF21 (by decide)) (hb3) xnm0 (by omega) (fun u31 hu32 he33 => ?_)
        refine xg_t (xg_bip) ?_
        by_cases hc34 : u31 = 32
        · refine xg_t (xg_icT (u := u31) (v := 32) rfl xnm0 xnm0 (xj_eqT hc34)) ?_
          refine xg_t (xg_blk (b := [(39, 1, 0, 0, 0, 0), (40, 1, 19, 0, 0, 0), (41, 3, 1, 8, 4, 23), (44, 1, 3, 1, 0, 0), (45, 1, 11, 0, 0, 0), (46, 3, 14, 8, 4, 23), (49, 3, 8, 0, 0, 0)]) rfl) ?_
          refine xg_t (xg_aload (va := (2, 48)) rfl rfl) ?_
          refine xg_t (xg_dup rfl) ?_
          refine xg_t (xg_getf (va := (0, af1)) hcl27 rfl) ?_
          refine xg_t (xg_const) ?_
          refine xg_t (xg_iadd (u := af1) (v := 1) (z := af1 + 1) xnm0 xnm0 (by omega)) ?_
          refine xg_putI (fl1 := [(2, 2), (0, le1), (0, kd1), (0, pl1), (0, af1 + 1), (0, nu1)]) hcl27 rfl rfl rfl (fun w35 hk36 hb37 => ?_)
          refine xg_t (xg_goto) ?_
          exact ih17 le1 kd1 pl1 (af1 + 1) nu1 w35 (by omega) (hn22) (hn23) (hn24) (by omega) (hn26) hk36 (by omega) (xInv.up (S := [48]) hI20 (xFr.of (S := [48]) hb37 (by decide)) (List.forall_mem_cons.mpr ⟨(show cp48 (wget w35 48) from xmC48 le1 kd1 pl1 (af1 + 1) nu1 hk36 hn22 hn23 hn24 (by omega) hn26 (by omega)), fun _ h => absurd h List.not_mem_nil⟩)) ((hF21.tr (xFr.of (S := [48]) hb37 (by decide))))
        · refine xg_t (xg_icF (u := u31) (v := 32) rfl xnm0 xnm0 (xj_eqF hc34)) ?_
          refine xg_t (xg_aload (va := (2, 48)) rfl rfl) ?_
          refine xg_t (xg_getf (va := (2, 2)) hcl27 rfl) ?_
          refine xg_t (xg_aload (va := (2, 48)) rfl rfl) ?_
          refine xg_t (xg_getf (va := (0, af1)) hcl27 rfl) ?_
          refine xg_baldY (n := af1) (h2_2.fr hF21 (by decide)) (hb3) xnm0 (by omega) (fun u38 hu39 he40 => ?_)
          refine xg_t (xg_bip) ?_
          by_cases hc41 : u38 = 10
          · refine xg_t (xg_icF (u := u38) (v := 10) rfl xnm0 xnm0 (xj_neF hc41)) ?_
            refine xg_t (xg_blk (b := [(39, 1, 0, 0, 0, 0), (40, 1, 19, 0, 0, 0), (41, 3, 1, 8, 4, 23), (44, 1, 3, 1, 0, 0), (45, 1, 11, 0, 0, 0), (46, 3, 14, 8, 4, 23), (49, 3, 8, 0, 0, 0)]) rfl) ?_
            refine xg_t (xg_aload (va := (2, 48)) rfl rfl) ?_
            refine xg_t (xg_dup rfl) ?_
            refine xg_t (xg_getf (va := (0, af1)) hcl27 rfl) ?_
            refine xg_t (xg_const) ?_
            refine xg_t (xg_iadd (u := af1) (v := 1) (z := af1 + 1) xnm0 xnm0 (by omega)) ?_
            refine xg_putI (fl1 := [(2, 2), (0, le1), (0, kd1), (0, pl1), (0, af1 + 1), (0, nu1)]) hcl27 rfl rfl rfl (fun w42 hk43 hb44 => ?_)
            refine xg_t (xg_goto) ?_
            exact ih17 le1 kd1 pl1 (af1 + 1) nu1 w42 (by omega) (hn22) (hn23) (hn24) (by omega) (hn26) hk43 (by omega) (xInv.up (S := [48]) hI20 (xFr.of (S := [48]) hb44 (by decide)) (List.forall_mem_cons.mpr ⟨(show cp48 (wget w42 48) from xmC48 le1 kd1 pl1 (af1 + 1) nu1 hk43 hn22 hn23 hn24 (by omega) hn26 (by omega)), fun _ h => absurd h List.not_mem_nil⟩)) ((hF21.tr (xFr.of (S := [48]) hb44 (by decide))))
          · refine xg_t (xg_icT (u := u38) (v := 10) rfl xnm0 xnm0 (xj_neT hc41)) ?_
            refine xg_t (xg_blk (b := [(52, 1, 0, 0, 0, 0), (53, 1, 0, 0, 0, 0), (54, 3, 1, 8, 4, 23), (57, 3, 14, 8, 3, 29), (60, 1, 0, 0, 0, 0), (61, 3, 1, 8, 4, 23), (64, 1, 0, 0, 0, 0), (65, 3, 1, 8, 1, 19), (68, 3, 6, 79, 2, 0), (71, 1, 0, 0, 0, 0), (72, 1, 3, 0, 0, 0), (73, 3, 14, 8, 2, 32), (76, 3, 8, 194, 0, 0)]) rfl) ?_
            refine xg_t (xg_aload (va := (2, 48)) rfl rfl) ?_
            refine xg_t (xg_aload (va := (2, 48)) rfl rfl) ?_
            refine xg_t (xg_getf (va := (0, af1)) hcl27 rfl) ?_
            refine xg_putI (fl1 := [(2, 2), (0, le1), (0, kd1), (0, af1), (0, af1), (0, nu1)]) hcl27 rfl rfl rfl (fun w45 hk46 hb47 => ?_)
            refine xg_t (xg_aload (va := (2, 48)) rfl rfl) ?_
            refine xg_t (xg_getf (va := (0, af1)) hk46 rfl) ?_
            refine xg_t (xg_aload (va := (2, 48)) rfl rfl) ?_
            refine xg_t (xg_getf (va := (0, le1)) hk46 rfl) ?_
            by_cases hc48 : af1 < le1
            · refine xg_t (xg_icT (u := af1) (v := le1) rfl xnm0 xnm0 (xj_ltT hc48 (by omega))) ?_
              refine xg_t (xg_blk (b := [(79, 1, 0, 0, 0, 0), (80, 3, 1, 8, 0, 7), (83, 1, 0, 0, 0, 0), (84, 3, 1, 8, 4, 23), (87, 1, 32, 0, 0, 0), (88, 3, 13, 315, 66, 35), (91, 3, 7, 138, 0, 0), (94, 1, 0, 0, 0, 0), (95, 1, 3, 1, 0, 0), (96, 3, 14, 8, 2, 32)]) rfl) ?_
              refine xg_t (xg_aload (va := (2, 48)) rfl rfl) ?_
              refine xg_t (xg_getf (va := (2, 2)) hk46 rfl) ?_
              refine xg_t (xg_aload (va := (2, 48)) rfl rfl) ?_
              refine xg_t (xg_getf (va := (0, af1)) hk46 rfl) ?_
              refine xg_baldY (n := af1) ((h2_2.fr hF21 (by decide)).but hb47 (by decide)) (hb3) xnm0 (by omega) (fun u49 hu50 he51 => ?_)
              refine xg_cSi mX8_isLetter (vs := [(0, u49)]) (rest := []) (cn1 := 0) (sl1 := 0) rfl (tkIsLetter (xInv.up (S := [48]) hI20 (xFr.of (S := [48]) hb47 (by decide)) (List.forall_mem_cons.mpr ⟨(show cp48 (wget w45 48) from xmC48 le1 kd1 af1 af1 nu1 hk46 hn22 hn23 hn25 hn25 hn26 (by omega)), fun _ h => absurd h List.not_mem_nil⟩)) (by omega)) rfl rfl rfl rfl rfl rfl rfl (fun n56 w52 hq53 => ?_)
              obtain ⟨hn57, hI54, hF55⟩ := hq53
              by_cases hc58 : n56 = 0
              · refine xg_t (xg_ifT (u := n56) rfl xnm0 (xj_eqT hc58)) ?_
                refine xg_t (xg_blk (b := [(138, 1, 0, 0, 0, 0), (139, 3, 1, 8, 0, 7), (142, 1, 0, 0, 0, 0), (143, 3, 1, 8, 4, 23), (146, 1, 32, 0, 0, 0), (147, 3, 13, 314, 66, 39), (150, 3, 7, 160, 0, 0), (153, 1, 0, 0, 0, 0), (154, 3, 13, 320, 64, 42), (157, 3, 8, 194, 0, 0)]) rfl) ?_
                refine xg_t (xg_aload (va := (2, 48)) rfl rfl) ?_
                refine xg_t (xg_getf (va := (2, 2)) (hF55.get (by decide) hk46) rfl) ?_
                refine xg_t (xg_aload (va := (2, 48)) rfl rfl) ?_
                refine xg_t (xg_getf (va := (0, af1)) (hF55.get (by decide) hk46) rfl) ?_
                refine xg_baldY (n := af1) (((h2_2.fr hF21 (by decide)).but hb47 (by decide)).fr hF55 (by decide)) (hb3) xnm0 (by omega) (fun u59 hu60 he61 => ?_)
                refine xg_cSi mX8_isDigit (vs := [(0, u59)]) (rest := []) (cn1 := 0) (sl1 := 0) rfl (tkIsDigit (hI54) (by omega)) rfl rfl rfl rfl rfl rfl rfl (fun n66 w62 hq63 => ?_)
                obtain ⟨hn67, hI64, hF65⟩ := hq63
                by_cases hc68 : n66 = 0
                · refine xg_t (xg_ifT (u := n66) rfl xnm0 (xj_eqT hc68)) ?_
                  refine xg_t (xg_blk (b := [(160, 1, 0, 0, 0, 0), (161, 1, 0, 0, 0, 0), (162, 3, 1, 8, 0, 7), (165, 1, 0, 0, 0, 0), (166, 3, 1, 8, 4, 23), (169, 1, 32, 0, 0, 0), (170, 3, 13, 317, 66, 45), (173, 3, 7, 180, 0, 0), (176, 1, 3, 3, 0, 0), (177, 3, 8, 181, 0, 0)]) rfl) ?_
                  refine xg_t (xg_aload (va := (2, 48)) rfl rfl) ?_
                  refine xg_t (xg_aload (va := (2, 48)) rfl rfl) ?_
                  refine xg_t (xg_getf (va := (2, 2)) (hF65.get (by decide) (hF55.get (by decide) hk46)) rfl) ?_
                  refine xg_t (xg_aload (va := (2, 48)) rfl rfl) ?_
                  refine xg_t (xg_getf (va := (0, af1)) (hF65.get (by decide) (hF55.get (by decide) hk46)) rfl) ?_
                  refine xg_baldY (n := af1) ((((h2_2.fr hF21 (by decide)).but hb47 (by decide)).fr hF55 (by decide)).fr hF65 (by decide)) (hb3) xnm0 (by omega) (fun u69 hu70 he71 => ?_)
                  refine xg_cSi mX8_isSignByte (vs := [(0, u69)]) (rest := [(2, 48)]) (cn1 := 0) (sl1 := 0) rfl (tkIsSignByte (hI64) (by omega)) rfl rfl rfl rfl rfl rfl rfl (fun n76 w72 hq73 => ?_)
                  obtain ⟨hn77, hI74, hF75⟩ := hq73
                  by_cases hc78 : n76 = 0
                  · refine xg_t (xg_ifT (u := n76) rfl xnm0 (xj_eqT hc78)) ?_
                    refine xg_t (xg_blk (b := [(180, 1, 3, 4, 0, 0)]) rfl) ?_
                    refine xg_t (xg_const) ?_
                    refine xg_t (xg_blk (b := [(181, 3, 14, 8, 2, 32), (184, 1, 0, 0, 0, 0), (185, 1, 19, 0, 0, 0), (186, 3, 1, 8, 4, 23), (189, 1, 3, 1, 0, 0), (190, 1, 11, 0, 0, 0), (191, 3, 14, 8, 4, 23)]) rfl) ?_
                    refine xg_putI (fl1 := [(2, 2), (0, le1), (0, 4), (0, af1), (0, af1), (0, nu1)]) (hF75.get (by decide) (hF65.get (by decide) (hF55.get (by decide) hk46))) rfl rfl rfl (fun w79 hk80 hb81 => ?_)
                    refine xg_t (xg_aload (va := (2, 48)) rfl rfl) ?_
                    refine xg_t (xg_dup rfl) ?_
                    refine xg_t (xg_getf (va := (0, af1)) hk80 rfl) ?_
                    refine xg_t (xg_const) ?_
                    refine xg_t (xg_iadd (u := af1) (v := 1) (z := af1 + 1) xnm0 xnm0 (by omega)) ?_
                    refine xg_putI (fl1 := [(2, 2), (0, le1), (0, 4), (0, af1), (0, af1 + 1), (0, nu1)]) hk80 rfl rfl rfl (fun w82 hk83 hb84 => ?_)
                    refine xg_t (xg_blk (b := [(194, 1, 12, 0, 0, 0)]) rfl) ?_
                    exact xg_e ⟨w82, ⟨rfl, rfl⟩, xInv.up (S := [48]) hI74 ((xFr.of (S := [48]) hb81 (by decide)).tr (xFr.of (S := [48]) hb84 (by decide))) (List.forall_mem_cons.mpr ⟨(show cp48 (wget w82 48) from xmC48 le1 4 af1 (af1 + 1) nu1 hk83 hn22 (by decide) hn25 (by omega) hn26 (by omega)), fun _ h => absurd h List.not_mem_nil⟩), (((((hF21.tr (xFr.of (S := [48]) hb47 (by decide))).tr (hF55.up (by decide))).tr (hF65.up (by decide))).tr (hF75.up (by decide))).tr ((xFr.of (S := [48]) hb81 (by decide)).tr (xFr.of (S := [48]) hb84 (by decide))))⟩
                  · refine xg_t (xg_ifF (u := n76) rfl xnm0 (xj_eqF hc78)) ?_
                    refine xg_t (xg_const) ?_
                    refine xg_t (xg_goto) ?_
                    refine xg_t (xg_blk (b := [(181, 3, 14, 8, 2, 32), (184, 1, 0, 0, 0, 0), (185, 1, 19, 0, 0, 0), (186, 3, 1, 8, 4, 23), (189, 1, 3, 1, 0, 0), (190, 1, 11, 0, 0, 0), (191, 3, 14, 8, 4, 23)]) rfl) ?_
                    refine xg_putI (fl1 := [(2, 2), (0, le1), (0, 3), (0, af1), (0, af1), (0, nu1)]) (hF75.get (by decide) (hF65.get (by decide) (hF55.get (by decide) hk46))) rfl rfl rfl (fun w85 hk86 hb87 => ?_)
                    refine xg_t (xg_aload (va := (2, 48)) rfl rfl) ?_
                    refine xg_t (xg_dup rfl) ?_
                    refine xg_t (xg_getf (va := (0, af1)) hk86 rfl) ?_
                    refine xg_t (xg_const) ?_
                    refine xg_t (xg_iadd (u := af1) (v := 1) (z := af1 + 1) xnm0 xnm0 (by omega)) ?_
                    refine xg_putI (fl1 := [(2, 2), (0, le1), (0, 3), (0, af1), (0, af1 + 1), (0, nu1)]) hk86 rfl rfl rfl (fun w88 hk89 hb90 => ?_)
                    refine xg_t (xg_blk (b := [(194, 1, 12, 0, 0, 0)]) rfl) ?_
                    exact xg_e ⟨w88, ⟨rfl, rfl⟩, xInv.up (S := [48]) hI74 ((xFr.of (S := [48]) hb87 (by decide)).tr (xFr.of (S := [48]) hb90 (by decide))) (List.forall_mem_cons.mpr ⟨(show cp48 (wget w88 48) from xmC48 le1 3 af1 (af1 + 1) nu1 hk89 hn22 (by decide) hn25 (by omega) hn26 (by omega)), fun _ h => absurd h List.not_mem_nil⟩), (((((hF21.tr (xFr.of (S := [48]) hb47 (by decide))).tr (hF55.up (by decide))).tr (hF65.up (by decide))).tr (hF75.up (by decide))).tr ((xFr.of (S := [48]) hb87 (by decide)).tr (xFr.of (S := [48]) hb90 (by decide))))⟩
                · refine xg_t (xg_ifF (u := n66) rfl xnm0 (xj_eqF hc68)) ?_
                  refine xg_t (xg_aload (va := (2, 48)) rfl rfl) ?_
                  refine xg_cVv mX8_takeDigits (vs := []) (rest := []) (cn1 := 0) (sl1 := 0) rfl (tkTakeDigits48 (hI64) (hF65.get (by decide) (hF55.get (by decide) hk46)) (by omega) (by omega) (by omega) (by omega) (by omega)) rfl (hF65.get (by decide) (hF55.get (by decide) hk46)) rfl rfl rfl rfl rfl rfl (fun w91 hq92 => ?_)
                  obtain ⟨hI93, hF94⟩ := hq92
                  refine xg_t (xg_goto) ?_
                  refine xg_t (xg_blk (b := [(194, 1, 12, 0, 0, 0)]) rfl) ?_
                  exact xg_e ⟨w91, ⟨rfl, rfl⟩, hI93, ((((hF21.tr (xFr.of (S := [48]) hb47 (by decide))).tr (hF55.up (by decide))).tr (hF65.up (by decide))).tr (hF94.up (by decide)))⟩
              · refine xg_t (xg_ifF (u := n56) rfl xnm0 (xj_eqF hc58)) ?_
                refine xg_t (xg_aload (va := (2, 48)) rfl rfl) ?_
                refine xg_t (xg_const) ?_
                refine xg_putI (fl1 := [(2, 2), (0, le1), (0, 1), (0, af1), (0, af1), (0, nu1)]) (hF55.get (by decide) hk46) rfl rfl rfl (fun w95 hk96 hb97 => ?_)
                have key98 : ∀ (m100 : Nat) (le2 kd2 pl2 af2 nu2 : Nat) (w101 : List (List xE)), 500 - af2 < m100 → le2 ≤ 500 → kd2 ≤ 4294967295 → pl2 ≤ 500 → af2 ≤ 500 → nu2 ≤ 4294967295 → wget w101 48 = some (.inl (8, [(2, 2), (0, le2), (0, kd2), (0, pl2), (0, af2), (0, nu2)])) → (kd2 = 0 ∨ pl2 ≤ 499) → xInv w101 → xFr [48] w w101 → xTo (d + 2) mX8_advance (99, [], [(0, (2, 48))], [], (w101, bd, fc, 0, 0, rr)) (fun φ => ∃ w', xEnd 0 [] (w', bd, fc, 0, 0, rr) φ ∧ xInv w' ∧ xFr [48] w w') := by
                  intro m100
                  induction m100 with
                  | zero => intro le2 kd2 pl2 af2 nu2 w101 hz; exact absurd hz (Nat.not_lt_zero _)
                  | succ m100 ih99 =>
                    intro le2 kd2 pl2 af2 nu2 w101 hm111 hn104 hn105 hn106 hn107 hn108 hcl109 hx110 hI102 hF103
                    refine xg_t (xg_blk (b := [(99, 1, 0, 0, 0, 0), (100, 3, 1, 8, 4, 23), (103, 1, 0, 0, 0, 0), (104, 3, 1, 8, 1, 19), (107, 3, 6, 194, 3, 0), (110, 1, 0, 0, 0, 0), (111, 3, 1, 8, 0, 7), (114, 1, 0, 0, 0, 0), (115, 3, 1, 8, 4, 23), (118, 1, 32, 0, 0, 0), (119, 3, 13, 315, 66, 35), (122, 3, 7, 194, 0, 0), (125, 1, 0, 0, 0, 0), (126, 1, 19, 0, 0, 0), (127, 3, 1, 8, 4, 23), (130, 1, 3, 1, 0, 0), (131, 1, 11, 0, 0, 0), (132, 3, 14, 8, 4, 23), (135, 3, 8, 99, 0, 0)]) rfl) ?_
                    refine xg_t (xg_aload (va := (2, 48)) rfl rfl) ?_
                    refine xg_t (xg_getf (va := (0, af2)) hcl109 rfl) ?_
                    refine xg_t (xg_aload (va := (2, 48)) rfl rfl) ?_
                    refine xg_t (xg_getf (va := (0, le2)) hcl109 rfl) ?_
                    by_cases hc112 : af2 < le2
                    · refine xg_t (xg_icF (u := af2) (v := le2) rfl xnm0 xnm0 (xj_geF hc112 (by omega))) ?_
                      refine xg_t (xg_aload (va := (2, 48)) rfl rfl) ?_
                      refine xg_t (xg_getf (va := (2, 2)) hcl109 rfl) ?_
                      refine xg_t (xg_aload (va := (2, 48)) rfl rfl) ?_
                      refine xg_t (xg_getf (va := (0, af2)) hcl109 rfl) ?_
                      refine xg_baldY (n := af2) (h2_2.fr hF103 (by decide)) (hb3) xnm0 (by omega) (fun u113 hu114 he115 => ?_)
                      refine xg_cSi mX8_isLetter (vs := [(0, u113)]) (rest := []) (cn1 := 0) (sl1 := 0) rfl (tkIsLetter (hI102) (by omega)) rfl rfl rfl rfl rfl rfl rfl (fun n120 w116 hq117 => ?_)
                      obtain ⟨hn121, hI118, hF119⟩ := hq117
                      by_cases hc122 : n120 = 0
                      · refine xg_t (xg_ifT (u := n120) rfl xnm0 (xj_eqT hc122)) ?_
                        refine xg_t (xg_blk (b := [(194, 1, 12, 0, 0, 0)]) rfl) ?_
                        exact xg_e ⟨w116, ⟨rfl, rfl⟩, hI118, (hF103.tr (hF119.up (by decide)))⟩
                      · refine xg_t (xg_ifF (u := n120) rfl xnm0 (xj_eqF hc122)) ?_
                        refine xg_t (xg_aload (va := (2, 48)) rfl rfl) ?_
                        refine xg_t (xg_dup rfl) ?_
                        refine xg_t (xg_getf (va := (0, af2)) (hF119.get (by decide) hcl109) rfl) ?_
                        refine xg_t (xg_const) ?_
                        refine xg_t (xg_iadd (u := af2) (v := 1) (z := af2 + 1) xnm0 xnm0 (by omega)) ?_
                        refine xg_putI (fl1 := [(2, 2), (0, le2), (0, kd2), (0, pl2), (0, af2 + 1), (0, nu2)]) (hF119.get (by decide) hcl109) rfl rfl rfl (fun w123 hk124 hb125 => ?_)
                        refine xg_t (xg_goto) ?_
                        exact ih99 le2 kd2 pl2 (af2 + 1) nu2 w123 (by omega) (hn104) (hn105) (hn106) (by omega) (hn108) hk124 (by omega) (xInv.up (S := [48]) hI118 (xFr.of (S := [48]) hb125 (by decide)) (List.forall_mem_cons.mpr ⟨(show cp48 (wget w123 48) from xmC48 le2 kd2 pl2 (af2 + 1) nu2 hk124 hn104 hn105 hn106 (by omega) hn108 (by omega)), fun _ h => absurd h List.not_mem_nil⟩)) (((hF103.tr (hF119.up (by decide))).tr (xFr.of (S := [48]) hb125 (by decide))))
                    · refine xg_t (xg_icT (u := af2) (v := le2) rfl xnm0 xnm0 (xj_geT (by omega) (by omega))) ?_
                      refine xg_t (xg_blk (b := [(194, 1, 12, 0, 0, 0)]) rfl) ?_
                      exact xg_e ⟨w101, ⟨rfl, rfl⟩, hI102, hF103⟩
                exact key98 _ le1 1 af1 af1 nu1 w95 (Nat.lt_succ_self _) (hn22) (by decide) (hn25) (hn25) (hn26) hk96 (by omega) (xInv.up (S := [48]) hI54 (xFr.of (S := [48]) hb97 (by decide)) (List.forall_mem_cons.mpr ⟨(show cp48 (wget w95 48) from xmC48 le1 1 af1 af1 nu1 hk96 hn22 (by decide) hn25 hn25 hn26 (by omega)), fun _ h => absurd h List.not_mem_nil⟩)) ((((hF21.tr (xFr.of (S := [48]) hb47 (by decide))).tr (hF55.up (by decide))).tr (xFr.of (S := [48]) hb97 (by decide))))
            · refine xg_t (xg_icF (u := af1) (v := le1) rfl xnm0 xnm0 (xj_ltF (by omega) (by omega))) ?_
              refine xg_t (xg_aload (va := (2, 48)) rfl rfl) ?_
              refine xg_t (xg_const) ?_
              refine xg_putI (fl1 := [(2, 2), (0, le1), (0, 0), (0, af1), (0, af1), (0, nu1)]) hk46 rfl rfl rfl (fun w126 hk127 hb128 => ?_)
              refine xg_t (xg_goto) ?_
              refine xg_t (xg_blk (b := [(194, 1, 12, 0, 0, 0)]) rfl) ?_
              exact xg_e ⟨w126, ⟨rfl, rfl⟩, xInv.up (S := [48]) hI20 ((xFr.of (S := [48]) hb47 (by decide)).tr (xFr.of (S := [48]) hb128 (by decide))) (List.forall_mem_cons.mpr ⟨(show cp48 (wget w126 48) from xmC48 le1 0 af1 af1 nu1 hk127 hn22 (by decide) hn25 hn25 hn26 (by omega)), fun _ h => absurd h List.not_mem_nil⟩), (hF21.tr ((xFr.of (S := [48]) hb47 (by decide)).tr (xFr.of (S := [48]) hb128 (by decide))))⟩
      · refine xg_t (xg_icT (u := af1) (v := le1) rfl xnm0 xnm0 (xj_geT (by omega) (by omega))) ?_
        refine xg_t (xg_blk (b := [(52, 1, 0, 0, 0, 0), (53, 1, 0, 0, 0, 0), (54, 3, 1, 8, 4, 23), (57, 3, 14, 8, 3, 29), (60, 1, 0, 0, 0, 0), (61, 3, 1, 8, 4, 23), (64, 1, 0, 0, 0, 0), (65, 3, 1, 8, 1, 19), (68, 3, 6, 79, 2, 0), (71, 1, 0, 0, 0, 0), (72, 1, 3, 0, 0, 0), (73, 3, 14, 8, 2, 32), (76, 3, 8, 194, 0, 0)]) rfl) ?_
        refine xg_t (xg_aload (va := (2, 48)) rfl rfl) ?_
        refine xg_t (xg_aload (va := (2, 48)) rfl rfl) ?_
        refine xg_t (xg_getf (va := (0, af1)) hcl27 rfl) ?_
        refine xg_putI (fl1 := [(2, 2), (0, le1), (0, kd1), (0, af1), (0, af1), (0, nu1)]) hcl27 rfl rfl rfl (fun w129 hk130 hb131 => ?_)
        refine xg_t (xg_aload (va := (2, 48)) rfl rfl) ?_
        refine xg_t (xg_getf (va := (0, af1)) hk130 rfl) ?_
        refine xg_t (xg_aload (va := (2, 48)) rfl rfl) ?_
        refine xg_t (xg_getf (va := (0, le1)) hk130 rfl) ?_
        by_cases hc132 : af1 < le1
        · refine xg_t (xg_icT (u := af1) (v := le1) rfl xnm0 xnm0 (xj_ltT hc132 (by omega))) ?_
          refine xg_t (xg_blk (b := [(79, 1, 0, 0, 0, 0), (80, 3, 1, 8, 0, 7), (83, 1, 0, 0, 0, 0), (84, 3, 1, 8, 4, 23), (87, 1, 32, 0, 0, 0), (88, 3, 13, 315, 66, 35), (91, 3, 7, 138, 0, 0), (94, 1, 0, 0, 0, 0), (95, 1, 3, 1, 0, 0), (96, 3, 14, 8, 2, 32)]) rfl) ?_
          refine xg_t (xg_aload (va := (2, 48)) rfl rfl) ?_
          refine xg_t (xg_getf (va := (2, 2)) hk130 rfl) ?_
          refine xg_t (xg_aload (va := (2, 48)) rfl rfl) ?_
          refine xg_t (xg_getf (va := (0, af1)) hk130 rfl) ?_
          refine xg_baldY (n := af1) ((h2_2.fr hF21 (by decide)).but hb131 (by decide)) (hb3) xnm0 (by omega) (fun u133 hu134 he135 => ?_)
          refine xg_cSi mX8_isLetter (vs := [(0, u133)]) (rest := []) (cn1 := 0) (sl1 := 0) rfl (tkIsLetter (xInv.up (S := [48]) hI20 (xFr.of (S := [48]) hb131 (by decide)) (List.forall_mem_cons.mpr ⟨(show cp48 (wget w129 48) from xmC48 le1 kd1 af1 af1 nu1 hk130 hn22 hn23 hn25 hn25 hn26 (by omega)), fun _ h => absurd h List.not_mem_nil⟩)) (by omega)) rfl rfl rfl rfl rfl rfl rfl (fun n140 w136 hq137 => ?_)
          obtain ⟨hn141, hI138, hF139⟩ := hq137
          by_cases hc142 : n140 = 0
          · refine xg_t (xg_ifT (u := n140) rfl xnm0 (xj_eqT hc142)) ?_
            refine xg_t (xg_blk (b := [(138, 1, 0, 0, 0, 0), (139, 3, 1, 8, 0, 7), (142, 1, 0, 0, 0, 0), (143, 3, 1, 8, 4, 23), (146, 1, 32, 0, 0, 0), (147, 3, 13, 314, 66, 39), (150, 3, 7, 160, 0, 0), (153, 1, 0, 0, 0, 0), (154, 3, 13, 320, 64, 42), (157, 3, 8, 194, 0, 0)]) rfl) ?_
            refine xg_t (xg_aload (va := (2, 48)) rfl rfl) ?_
            refine xg_t (xg_getf (va := (2, 2)) (hF139.get (by decide) hk130) rfl) ?_
            refine xg_t (xg_aload (va := (2, 48)) rfl rfl) ?_
            refine xg_t (xg_getf (va := (0, af1)) (hF139.get (by decide) hk130) rfl) ?_
            refine xg_baldY (n := af1) (((h2_2.fr hF21 (by decide)).but hb131 (by decide)).fr hF139 (by decide)) (hb3) xnm0 (by omega) (fun u143 hu144 he145 => ?_)
            refine xg_cSi mX8_isDigit (vs := [(0, u143)]) (rest := []) (cn1 := 0) (sl1 := 0) rfl (tkIsDigit (hI138) (by omega)) rfl rfl rfl rfl rfl rfl rfl (fun n150 w146 hq147 => ?_)
            obtain ⟨hn151, hI148, hF149⟩ := hq147
            by_cases hc152 : n150 = 0
            · refine xg_t (xg_ifT (u := n150) rfl xnm0 (xj_eqT hc152)) ?_
              refine xg_t (xg_blk (b := [(160, 1, 0, 0, 0, 0), (161, 1, 0, 0, 0, 0), (162, 3, 1, 8, 0, 7), (165, 1, 0, 0, 0, 0), (166, 3, 1, 8, 4, 23), (169, 1, 32, 0, 0, 0), (170, 3, 13, 317, 66, 45), (173, 3, 7, 180, 0, 0), (176, 1, 3, 3, 0, 0), (177, 3, 8, 181, 0, 0)]) rfl) ?_
              refine xg_t (xg_aload (va := (2, 48)) rfl rfl) ?_
              refine xg_t (xg_aload (va := (2, 48)) rfl rfl) ?_
              refine xg_t (xg_getf (va := (2, 2)) (hF149.get (by decide) (hF139.get (by decide) hk130)) rfl) ?_
              refine xg_t (xg_aload (va := (2, 48)) rfl rfl) ?_
              refine xg_t (xg_getf (va := (0, af1)) (hF149.get (by decide) (hF139.get (by decide) hk130)) rfl) ?_
              refine xg_baldY (n := af1) ((((h2_2.fr hF21 (by decide)).but hb131 (by decide)).fr hF139 (by decide)).fr hF149 (by decide)) (hb3) xnm0 (by omega) (fun u153 hu154 he155 => ?_)
              refine xg_cSi mX8_isSignByte (vs := [(0, u153)]) (rest := [(2, 48)]) (cn1 := 0) (sl1 := 0) rfl (tkIsSignByte (hI148) (by omega)) rfl rfl rfl rfl rfl rfl rfl (fun n160 w156 hq157 => ?_)
              obtain ⟨hn161, hI158, hF159⟩ := hq157
              by_cases hc162 : n160 = 0
              · refine xg_t (xg_ifT (u := n160) rfl xnm0 (xj_eqT hc162)) ?_
                refine xg_t (xg_blk (b := [(180, 1, 3, 4, 0, 0)]) rfl) ?_
                refine xg_t (xg_const) ?_
                refine xg_t (xg_blk (b := [(181, 3, 14, 8, 2, 32), (184, 1, 0, 0, 0, 0), (185, 1, 19, 0, 0, 0), (186, 3, 1, 8, 4, 23), (189, 1, 3, 1, 0, 0), (190, 1, 11, 0, 0, 0), (191, 3, 14, 8, 4, 23)]) rfl) ?_
                refine xg_putI (fl1 := [(2, 2), (0, le1), (0, 4), (0, af1), (0, af1), (0, nu1)]) (hF159.get (by decide) (hF149.get (by decide) (hF139.get (by decide) hk130))) rfl rfl rfl (fun w163 hk164 hb165 => ?_)
                refine xg_t (xg_aload (va := (2, 48)) rfl rfl) ?_
                refine xg_t (xg_dup rfl) ?_
                refine xg_t (xg_getf (va := (0, af1)) hk164 rfl) ?_
                refine xg_t (xg_const) ?_
                refine xg_t (xg_iadd (u := af1) (v := 1) (z := af1 + 1) xnm0 xnm0 (by omega)) ?_
                refine xg_putI (fl1 := [(2, 2), (0, le1), (0, 4), (0, af1), (0, af1 + 1), (0, nu1)]) hk164 rfl rfl rfl (fun w166 hk167 hb168 => ?_)
                refine xg_t (xg_blk (b := [(194, 1, 12, 0, 0, 0)]) rfl) ?_
                exact xg_e ⟨w166, ⟨rfl, rfl⟩, xInv.up (S := [48]) hI158 ((xFr.of (S := [48]) hb165 (by decide)).tr (xFr.of (S := [48]) hb168 (by decide))) (List.forall_mem_cons.mpr ⟨(show cp48 (wget w166 48) from xmC48 le1 4 af1 (af1 + 1) nu1 hk167 hn22 (by decide) hn25 (by omega) hn26 (by omega)), fun _ h => absurd h List.not_mem_nil⟩), (((((hF21.tr (xFr.of (S := [48]) hb131 (by decide))).tr (hF139.up (by decide))).tr (hF149.up (by decide))).tr (hF159.up (by decide))).tr ((xFr.of (S := [48]) hb165 (by decide)).tr (xFr.of (S := [48]) hb168 (by decide))))⟩
              · refine xg_t (xg_ifF (u := n160) rfl xnm0 (xj_eqF hc162)) ?_
                refine xg_t (xg_const) ?_
                refine xg_t (xg_goto) ?_
                refine xg_t (xg_blk (b := [(181, 3, 14, 8, 2, 32), (184, 1, 0, 0, 0, 0), (185, 1, 19, 0, 0, 0), (186, 3, 1, 8, 4, 23), (189, 1, 3, 1, 0, 0), (190, 1, 11, 0, 0, 0), (191, 3, 14, 8, 4, 23)]) rfl) ?_
                refine xg_putI (fl1 := [(2, 2), (0, le1), (0, 3), (0, af1), (0, af1), (0, nu1)]) (hF159.get (by decide) (hF149.get (by decide) (hF139.get (by decide) hk130))) rfl rfl rfl (fun w169 hk170 hb171 => ?_)
                refine xg_t (xg_aload (va := (2, 48)) rfl rfl) ?_
                refine xg_t (xg_dup rfl) ?_
                refine xg_t (xg_getf (va := (0, af1)) hk170 rfl) ?_
                refine xg_t (xg_const) ?_
                refine xg_t (xg_iadd (u := af1) (v := 1) (z := af1 + 1) xnm0 xnm0 (by omega)) ?_
                refine xg_putI (fl1 := [(2, 2), (0, le1), (0, 3), (0, af1), (0, af1 + 1), (0, nu1)]) hk170 rfl rfl rfl (fun w172 hk173 hb174 => ?_)
                refine xg_t (xg_blk (b := [(194, 1, 12, 0, 0, 0)]) rfl) ?_
                exact xg_e ⟨w172, ⟨rfl, rfl⟩, xInv.up (S := [48]) hI158 ((xFr.of (S := [48]) hb171 (by decide)).tr (xFr.of (S := [48]) hb174 (by decide))) (List.forall_mem_cons.mpr ⟨(show cp48 (wget w172 48) from xmC48 le1 3 af1 (af1 + 1) nu1 hk173 hn22 (by decide) hn25 (by omega) hn26 (by omega)), fun _ h => absurd h List.not_mem_nil⟩), (((((hF21.tr (xFr.of (S := [48]) hb131 (by decide))).tr (hF139.up (by decide))).tr (hF149.up (by decide))).tr (hF159.up (by decide))).tr ((xFr.of (S := [48]) hb171 (by decide)).tr (xFr.of (S := [48]) hb174 (by decide))))⟩
            · refine xg_t (xg_ifF (u := n150) rfl xnm0 (xj_eqF hc152)) ?_
              refine xg_t (xg_aload (va := (2, 48)) rfl rfl) ?_
              refine xg_cVv mX8_takeDigits (vs := []) (rest := []) (cn1 := 0) (sl1 := 0) rfl (tkTakeDigits48 (hI148) (hF149.get (by decide) (hF139.get (by decide) hk130)) (by omega) (by omega) (by omega) (by omega) (by omega)) rfl (hF149.get (by decide) (hF139.get (by decide) hk130)) rfl rfl rfl rfl rfl rfl (fun w175 hq176 => ?_)
              obtain ⟨hI177, hF178⟩ := hq176
              refine xg_t (xg_goto) ?_
              refine xg_t (xg_blk (b := [(194, 1, 12, 0, 0, 0)]) rfl) ?_
              exact xg_e ⟨w175, ⟨rfl, rfl⟩, hI177, ((((hF21.tr (xFr.of (S := [48]) hb131 (by decide))).tr (hF139.up (by decide))).tr (hF149.up (by decide))).tr (hF178.up (by decide)))⟩
          · refine xg_t (xg_ifF (u := n140) rfl xnm0 (xj_eqF hc142)) ?_
            refine xg_t (xg_aload (va := (2, 48)) rfl rfl) ?_
            refine xg_t (xg_const) ?_
            refine xg_putI (fl1 := [(2, 2), (0, le1), (0, 1), (0, af1), (0, af1), (0, nu1)]) (hF139.get (by decide) hk130) rfl rfl rfl (fun w179 hk180 hb181 => ?_)
            have key182 : ∀ (m184 : Nat) (le2 kd2 pl2 af2 nu2 : Nat) (w185 : List (List xE)), 500 - af2 < m184 → le2 ≤ 500 → kd2 ≤ 4294967295 → pl2 ≤ 500 → af2 ≤ 500 → nu2 ≤ 4294967295 → wget w185 48 = some (.inl (8, [(2, 2), (0, le2), (0, kd2), (0, pl2), (0, af2), (0, nu2)])) → (kd2 = 0 ∨ pl2 ≤ 499) → xInv w185 → xFr [48] w w185 → xTo (d + 2) mX8_advance (99, [], [(0, (2, 48))], [], (w185, bd, fc, 0, 0, rr)) (fun φ => ∃ w', xEnd 0 [] (w', bd, fc, 0, 0, rr) φ ∧ xInv w' ∧ xFr [48] w w') := by
              intro m184
              induction m184 with
              | zero => intro le2 kd2 pl2 af2 nu2 w185 hz; exact absurd hz (Nat.not_lt_zero _)
              | succ m184 ih183 =>
                intro le2 kd2 pl2 af2 nu2 w185 hm195 hn188 hn189 hn190 hn191 hn192 hcl193 hx194 hI186 hF187
                refine xg_t (xg_blk (b := [(99, 1, 0, 0, 0, 0), (100, 3, 1, 8, 4, 23), (103, 1, 0, 0, 0, 0), (104, 3, 1, 8, 1, 19), (107, 3, 6, 194, 3, 0), (110, 1, 0, 0, 0, 0), (111, 3, 1, 8, 0, 7), (114, 1, 0, 0, 0, 0), (115, 3, 1, 8, 4, 23), (118, 1, 32, 0, 0, 0), (119, 3, 13, 315, 66, 35), (122, 3, 7, 194, 0, 0), (125, 1, 0, 0, 0, 0), (126, 1, 19, 0, 0, 0), (127, 3, 1, 8, 4, 23), (130, 1, 3, 1, 0, 0), (131, 1, 11, 0, 0, 0), (132, 3, 14, 8, 4, 23), (135, 3, 8, 99, 0, 0)]) rfl) ?_
                refine xg_t (xg_aload (va := (2, 48)) rfl rfl) ?_
                refine xg_t (xg_getf (va := (0, af2)) hcl193 rfl) ?_
                refine xg_t (xg_aload (va := (2, 48)) rfl rfl) ?_
                refine xg_t (xg_getf (va := (0, le2)) hcl193 rfl) ?_
                by_cases hc196 : af2 < le2
                · refine xg_t (xg_icF (u := af2) (v := le2) rfl xnm0 xnm0 (xj_geF hc196 (by omega))) ?_
                  refine xg_t (xg_aload (va := (2, 48)) rfl rfl) ?_
                  refine xg_t (xg_getf (va := (2, 2)) hcl193 rfl) ?_
                  refine xg_t (xg_aload (va := (2, 48)) rfl rfl) ?_
                  refine xg_t (xg_getf (va := (0, af2)) hcl193 rfl) ?_
                  refine xg_baldY (n := af2) (h2_2.fr hF187 (by decide)) (hb3) xnm0 (by omega) (fun u197 hu198 he199 => ?_)
                  refine xg_cSi mX8_isLetter (vs := [(0, u197)]) (rest := []) (cn1 := 0) (sl1 := 0) rfl (tkIsLetter (hI186) (by omega)) rfl rfl rfl rfl rfl rfl rfl (fun n204 w200 hq201 => ?_)
                  obtain ⟨hn205, hI202, hF203⟩ := hq201
                  by_cases hc206 : n204 = 0
                  · refine xg_t (xg_ifT (u := n204) rfl xnm0 (xj_eqT hc206)) ?_
                    refine xg_t (xg_blk (b := [(194, 1, 12, 0, 0, 0)]) rfl) ?_
                    exact xg_e ⟨w200, ⟨rfl, rfl⟩, hI202, (hF187.tr (hF203.up (by decide)))⟩
                  · refine xg_t (xg_ifF (u := n204) rfl xnm0 (xj_eqF hc206)) ?_
                    refine xg_t (xg_aload (va := (2, 48)) rfl rfl) ?_
                    refine xg_t (xg_dup rfl) ?_
                    refine xg_t (xg_getf (va := (0, af2)) (hF203.get (by decide) hcl193) rfl) ?_
                    refine xg_t (xg_const) ?_
                    refine xg_t (xg_iadd (u := af2) (v := 1) (z := af2 + 1) xnm0 xnm0 (by omega)) ?_
                    refine xg_putI (fl1 := [(2, 2), (0, le2), (0, kd2), (0, pl2), (0, af2 + 1), (0, nu2)]) (hF203.get (by decide) hcl193) rfl rfl rfl (fun w207 hk208 hb209 => ?_)
                    refine xg_t (xg_goto) ?_
                    exact ih183 le2 kd2 pl2 (af2 + 1) nu2 w207 (by omega) (hn188) (hn189) (hn190) (by omega) (hn192) hk208 (by omega) (xInv.up (S := [48]) hI202 (xFr.of (S := [48]) hb209 (by decide)) (List.forall_mem_cons.mpr ⟨(show cp48 (wget w207 48) from xmC48 le2 kd2 pl2 (af2 + 1) nu2 hk208 hn188 hn189 hn190 (by omega) hn192 (by omega)), fun _ h => absurd h List.not_mem_nil⟩)) (((hF187.tr (hF203.up (by decide))).tr (xFr.of (S := [48]) hb209 (by decide))))
                · refine xg_t (xg_icT (u := af2) (v := le2) rfl xnm0 xnm0 (xj_geT (by omega) (by omega))) ?_
                  refine xg_t (xg_blk (b := [(194, 1, 12, 0, 0, 0)]) rfl) ?_
                  exact xg_e ⟨w185, ⟨rfl, rfl⟩, hI186, hF187⟩
            exact key182 _ le1 1 af1 af1 nu1 w179 (Nat.lt_succ_self _) (hn22) (by decide) (hn25) (hn25) (hn26) hk180 (by omega) (xInv.up (S := [48]) hI138 (xFr.of (S := [48]) hb181 (by decide)) (List.forall_mem_cons.mpr ⟨(show cp48 (wget w179 48) from xmC48 le1 1 af1 af1 nu1 hk180 hn22 (by decide) hn25 hn25 hn26 (by omega)), fun _ h => absurd h List.not_mem_nil⟩)) ((((hF21.tr (xFr.of (S := [48]) hb131 (by decide))).tr (hF139.up (by decide))).tr (xFr.of (S := [48]) hb181 (by decide))))
        · refine xg_t (xg_icF (u := af1) (v := le1) rfl xnm0 xnm0 (xj_ltF (by omega) (by omega))) ?_
          refine xg_t (xg_aload (va := (2, 48)) rfl rfl) ?_
          refine xg_t (xg_const) ?_
          refine xg_putI (fl1 := [(2, 2), (0, le1), (0, 0), (0, af1), (0, af1), (0, nu1)]) hk130 rfl rfl rfl (fun w210 hk211 hb212 => ?_)
          refine xg_t (xg_goto) ?_
          refine xg_t (xg_blk (b := [(194, 1, 12, 0, 0, 0)]) rfl) ?_
          exact xg_e ⟨w210, ⟨rfl, rfl⟩, xInv.up (S := [48]) hI20 ((xFr.of (S := [48]) hb131 (by decide)).tr (xFr.of (S := [48]) hb212 (by decide))) (List.forall_mem_cons.mpr ⟨(show cp48 (wget w210 48) from xmC48 le1 0 af1 af1 nu1 hk211 hn22 (by decide) hn25 hn25 hn26 (by omega)), fun _ h => absurd h List.not_mem_nil⟩), (hF21.tr ((xFr.of (S := [48]) hb131 (by decide)).tr (xFr.of (S := [48]) hb212 (by decide))))⟩
  exact key16 _ f48_4 f48_6 f48_8 f48_10 f48_12 w (Nat.lt_succ_self _) (hb5) (hb7) (hb9) (hb11) (hb13) h48_14 (by omega) (hI) (xFr.rf)
theorem tkStart48 {nl : Nat} (hI : xInv w) (h1 : nl ≤ 500) : xPq (d + 3) mX8_start [(2, 48), (0, nl)] w bd fc rr [] (fun w' => xInv w' ∧ xFr [48] w w') := by
  refine xPq.of ?_
  show xTo (d + 3) mX8_start (0, [], [(0, (2, 48)), (1, (0, nl))], [], (w, bd, fc, 0, 0, rr)) (fun φ => ∃ w', xEnd 0 [] (w', bd, fc, 0, 0, rr) φ ∧ xInv w' ∧ xFr [48] w w')
  refine xg_t (xg_blk (b := [(0, 1, 0, 0, 0, 0), (1, 1, 2, 1, 0, 0), (2, 1, 0, 0, 0, 0), (3, 3, 1, 8, 0, 7), (6, 1, 31, 0, 0, 0), (7, 3, 63, 0, 0, 13), (10, 3, 14, 8, 1, 19), (13, 1, 0, 0, 0, 0), (14, 1, 3, 0, 0, 0), (15, 3, 14, 8, 4, 23), (18, 1, 0, 0, 0, 0), (19, 3, 13, 312, 64, 26), (22, 1, 12, 0, 0, 0)]) rfl) ?_
  refine xg_t (xg_aload (va := (2, 48)) rfl rfl) ?_
  refine xg_t (xg_iload (va := (0, nl)) rfl rfl) ?_
  refine xg_t (xg_aload (va := (2, 48)) rfl rfl) ?_
  refine xoC48 (hI 48 (by decide) : cp48 (wget w 48)) (fun f48_1 f48_3 f48_5 f48_7 f48_9 h48_11 hb2 hb4 hb6 hb8 hb10 hb12 => ?_)
  refine xg_t (xg_getf (va := (2, 2)) h48_11 rfl) ?_
  obtain ⟨g2_13, h2_14, hb15⟩ := (hI 2 (by decide) : cpY 500 0 (wget w 2))
  have h2_14 : xRk 1 0 w 2 500 0 g2_13 := h2_14
  obtain ⟨us16, ha17, ha18⟩ := id h2_14
  refine xg_t (xg_alen ha17) ?_
  refine xg_minK (u := nl) (v := 500) xnm0 xnm0 xmx_ok (by omega) (by omega) (fun z19 hz20 hz21 hz22 hz23 => ?_)
  unfold xbs at hz21 hz22
  refine xg_putI (fl1 := [(2, 2), (0, z19), (0, f48_3), (0, f48_5), (0, f48_7), (0, f48_9)]) h48_11 rfl rfl rfl (fun w24 hk25 hb26 => ?_)
  refine xg_t (xg_aload (va := (2, 48)) rfl rfl) ?_
  refine xg_t (xg_const) ?_
  refine xg_putI (fl1 := [(2, 2), (0, z19), (0, f48_3), (0, f48_5), (0, 0), (0, f48_9)]) hk25 rfl rfl rfl (fun w27 hk28 hb29 => ?_)
  refine xg_t (xg_aload (va := (2, 48)) rfl rfl) ?_
  refine xg_cVv mX8_advance (vs := []) (rest := []) (cn1 := 0) (sl1 := 0) rfl (tkAdvance48 (xInv.up (S := [48]) hI ((xFr.of (S := [48]) hb26 (by decide)).tr (xFr.of (S := [48]) hb29 (by decide))) (List.forall_mem_cons.mpr ⟨(show cp48 (wget w27 48) from xmC48 z19 f48_3 f48_5 0 f48_9 hk28 (by omega) hb4 hb6 (by decide) hb10 (by omega)), fun _ h => absurd h List.not_mem_nil⟩))) rfl hk28 rfl rfl rfl rfl rfl rfl (fun w30 hq31 => ?_)
  obtain ⟨hI32, hF33⟩ := hq31
  exact xg_e ⟨w30, ⟨rfl, rfl⟩, hI32, (((xFr.of (S := [48]) hb26 (by decide)).tr (xFr.of (S := [48]) hb29 (by decide))).tr (hF33.up (by decide)))⟩
theorem tkIsSign48 {si : Nat} (hI : xInv w) (h1 : si ≤ 4294967295) : xPi d mX8_isSign [(2, 48), (0, si)] w bd fc rr (fun n w' => (n ≤ 1) ∧ xInv w' ∧ xFr [] w w') := by
  refine xPi.of ?_
  show xTo d mX8_isSign (0, [], [(0, (2, 48)), (1, (0, si))], [], (w, bd, fc, 0, 0, rr)) (fun φ => ∃ n w', xEnd 4 [(0, n)] (w', bd, fc, 0, 0, rr) φ ∧ (n ≤ 1) ∧ xInv w' ∧ xFr [] w w')
  refine xg_t (xg_blk (b := [(0, 1, 0, 0, 0, 0), (1, 3, 1, 8, 2, 32), (4, 1, 3, 3, 0, 0), (5, 3, 6, 25, 1, 0), (8, 1, 0, 0, 0, 0), (9, 3, 1, 8, 0, 7), (12, 1, 0, 0, 0, 0), (13, 3, 1, 8, 3, 29), (16, 1, 32, 0, 0, 0), (17, 1, 2, 1, 0, 0), (18, 3, 6, 25, 1, 0), (21, 1, 3, 1, 0, 0), (22, 3, 8, 26, 0, 0)]) rfl) ?_
  refine xg_t (xg_aload (va := (2, 48)) rfl rfl) ?_
  refine xoC48 (hI 48 (by decide) : cp48 (wget w 48)) (fun f48_1 f48_3 f48_5 f48_7 f48_9 h48_11 hb2 hb4 hb6 hb8 hb10 hb12 => ?_)
  refine xg_t (xg_getf (va := (0, f48_3)) h48_11 rfl) ?_
  refine xg_t (xg_const) ?_
  by_cases hc13 : f48_3 = 3
  · refine xg_t (xg_icF (u := f48_3) (v := 3) rfl xnm0 xnm0 (xj_neF hc13)) ?_
    refine xg_t (xg_aload (va := (2, 48)) rfl rfl) ?_
    refine xg_t (xg_getf (va := (2, 2)) h48_11 rfl) ?_
    refine xg_t (xg_aload (va := (2, 48)) rfl rfl) ?_
    refine xg_t (xg_getf (va := (0, f48_5)) h48_11 rfl) ?_
    obtain ⟨g2_14, h2_15, hb16⟩ := (hI 2 (by decide) : cpY 500 0 (wget w 2))
    have h2_15 : xRk 1 0 w 2 500 0 g2_14 := h2_15
    refine xg_baldY (n := f48_5) h2_15 (hb16) xnm0 (by omega) (fun u17 hu18 he19 => ?_)
    refine xg_t (xg_iload (va := (0, si)) rfl rfl) ?_
    by_cases hc20 : u17 = si
    · refine xg_t (xg_icF (u := u17) (v := si) rfl xnm0 xnm0 (xj_neF hc20)) ?_
      refine xg_t (xg_const) ?_
      refine xg_t (xg_goto) ?_
      refine xg_t (xg_blk (b := [(26, 1, 12, 0, 1, 0)]) rfl) ?_
      exact xg_e ⟨1, w, ⟨rfl, rfl⟩, by first | decide | omega, hI, xFr.rf⟩
    · refine xg_t (xg_icT (u := u17) (v := si) rfl xnm0 xnm0 (xj_neT hc20)) ?_
      refine xg_t (xg_blk (b := [(25, 1, 3, 0, 0, 0)]) rfl) ?_
      refine xg_t (xg_const) ?_
      refine xg_t (xg_blk (b := [(26, 1, 12, 0, 1, 0)]) rfl) ?_
      exact xg_e ⟨0, w, ⟨rfl, rfl⟩, by first | decide | omega, hI, xFr.rf⟩
  · refine xg_t (xg_icT (u := f48_3) (v := 3) rfl xnm0 xnm0 (xj_neT hc13)) ?_
    refine xg_t (xg_blk (b := [(25, 1, 3, 0, 0, 0)]) rfl) ?_
    refine xg_t (xg_const) ?_
    refine xg_t (xg_blk (b := [(26, 1, 12, 0, 1, 0)]) rfl) ?_
    exact xg_e ⟨0, w, ⟨rfl, rfl⟩, by first | decide | omega, hI, xFr.rf⟩
end XTK
end
section
/-! words; the texts of films -/
section XWD
variable {d : Nat} {w : List (List xE)} {bd : List (Nat × Nat)} {fc : List (Nat × Nat × Bool)} {rr : Nat × Nat}
theorem tkIsWord48 {i : Nat} {qb : List Nat} (hI : xInv w) (hi : xget xsbt i = some qb) : xPi (d + 4) mX8_isWord [(2, 48), (8, 100 + i)] w bd fc rr (fun n w' => (n ≤ 1) ∧ xInv w' ∧ xFr [] w w') := by
  refine xPi.of ?_
  show xTo (d + 4) mX8_isWord (0, [], [(0, (2, 48)), (1, (8, 100 + i))], [], (w, bd, fc, 0, 0, rr)) (fun φ => ∃ n w', xEnd 4 [(0, n)] (w', bd, fc, 0, 0, rr) φ ∧ (n ≤ 1) ∧ xInv w' ∧ xFr [] w w')
  obtain ⟨hl6, hq7⟩ := xsbt_ok hi
  refine xoC48 (hI 48 (by decide) : cp48 (wget w 48)) (fun f48_1 f48_3 f48_5 f48_7 f48_9 h48_11 hb2 hb4 hb6 hb8 hb10 hb12 => ?_)
  obtain ⟨g2_13, h2_14, hb15⟩ := (hI 2 (by decide) : cpY 500 0 (wget w 2))
  have h2_14 : xRk 1 0 w 2 500 0 g2_13 := h2_14
  refine xg_t (xg_blk (b := [(0, 1, 0, 0, 0, 0), (1, 3, 1, 8, 2, 32), (4, 1, 3, 1, 0, 0), (5, 3, 6, 24, 1, 0), (8, 1, 0, 0, 0, 0), (9, 3, 1, 8, 4, 23), (12, 1, 0, 0, 0, 0), (13, 3, 1, 8, 3, 29), (16, 1, 18, 0, 0, 0), (17, 1, 0, 1, 0, 0), (18, 3, 73, 0, 0, 51), (21, 3, 6, 26, 0, 0)]) rfl) ?_
  refine xg_t (xg_aload (va := (2, 48)) rfl rfl) ?_
  refine xg_t (xg_getf (va := (0, f48_3)) h48_11 rfl) ?_
  refine xg_t (xg_const) ?_
  by_cases hc16 : f48_3 = 1
  · refine xg_t (xg_icF (u := f48_3) (v := 1) rfl xnm0 xnm0 (xj_neF hc16)) ?_
    refine xg_t (xg_aload (va := (2, 48)) rfl rfl) ?_
    refine xg_t (xg_getf (va := (0, f48_7)) h48_11 rfl) ?_
    refine xg_t (xg_aload (va := (2, 48)) rfl rfl) ?_
    refine xg_t (xg_getf (va := (0, f48_5)) h48_11 rfl) ?_
    by_cases hc17 : f48_5 ≤ f48_7
    · refine xg_t (xg_isub (u := f48_7) (v := f48_5) (z := f48_7 - f48_5) xnm0 xnm0 (by omega)) ?_
      refine xg_t (xg_aload (va := (8, 100 + i)) rfl rfl) ?_
      refine xg_t (xg_slen (i := i) (qb := qb) (Nat.zero_le _) (Nat.zero_le _) (Nat.le_of_ble_eq_true rfl) hi (by omega)) ?_
      by_cases hc18 : (f48_7 - f48_5) = qb.length
      · refine xg_t (xg_icT (u := f48_7 - f48_5) (v := qb.length) rfl xnm0 xnm0 (xj_eqT hc18)) ?_
        refine xg_t (xg_blk (b := [(26, 1, 3, 0, 0, 0), (27, 1, 15, 2, 0, 0)]) rfl) ?_
        refine xg_t (xg_const) ?_
        refine xg_t (xg_istore (l1 := [(0, (2, 48)), (1, (8, 100 + i))]) rfl rfl rfl) ?_
        refine xg_t (xg_drop (l1 := [(0, (2, 48)), (1, (8, 100 + i)), (2, (0, 0))]) (List.forall_mem_cons.mpr ⟨List.mem_cons_of_mem _ (List.mem_cons_self), List.forall_mem_cons.mpr ⟨List.mem_cons_of_mem _ (List.mem_cons_of_mem _ (List.mem_cons_self)), List.forall_mem_cons.mpr ⟨List.mem_cons_self, fun _ h => absurd h List.not_mem_nil⟩⟩⟩)) ?_
        have key19 : ∀ (m21 : Nat) (ki : Nat) (w22 : List (List xE)), qb.length - ki < m21 → ki ≤ 6 → xInv w22 → xFr [] w w22 → xTo (d + 4) mX8_isWord (28, [], [(0, (2, 48)), (1, (8, 100 + i)), (2, (0, ki))], [], (w22, bd, fc, 0, 0, rr)) (fun φ => ∃ n w', xEnd 4 [(0, n)] (w', bd, fc, 0, 0, rr) φ ∧ (n ≤ 1) ∧ xInv w' ∧ xFr [] w w') := by
          intro m21
          induction m21 with
          | zero => intro ki w22 hz; exact absurd hz (Nat.not_lt_zero _)
          | succ m21 ih20 =>
            intro ki w22 hm26 hn25 hI23 hF24
            refine xg_t (xg_blk (b := [(28, 1, 2, 2, 0, 0), (29, 1, 0, 1, 0, 0), (30, 3, 73, 0, 0, 51), (33, 3, 6, 63, 3, 0), (36, 1, 0, 0, 0, 0), (37, 3, 1, 8, 0, 7), (40, 1, 0, 0, 0, 0), (41, 3, 1, 8, 3, 29), (44, 1, 2, 2, 0, 0), (45, 1, 11, 0, 0, 0), (46, 1, 32, 0, 0, 0), (47, 1, 0, 1, 0, 0), (48, 1, 2, 2, 0, 0), (49, 3, 74, 0, 0, 56), (52, 3, 6, 57, 0, 0), (55, 1, 3, 0, 0, 0), (56, 1, 12, 0, 1, 0)]) rfl) ?_
            refine xg_t (xg_iload (va := (0, ki)) rfl rfl) ?_
            refine xg_t (xg_aload (va := (8, 100 + i)) rfl rfl) ?_
            refine xg_t (xg_slen (i := i) (qb := qb) (Nat.zero_le _) (Nat.zero_le _) (Nat.le_of_ble_eq_true rfl) hi (by omega)) ?_
            by_cases hc27 : ki < qb.length
            · refine xg_t (xg_icF (u := ki) (v := qb.length) rfl xnm0 xnm0 (xj_geF hc27 (by omega))) ?_
              refine xg_t (xg_aload (va := (2, 48)) rfl rfl) ?_
              refine xg_t (xg_getf (va := (2, 2)) (hF24.get (by decide) h48_11) rfl) ?_
              refine xg_t (xg_aload (va := (2, 48)) rfl rfl) ?_
              refine xg_t (xg_getf (va := (0, f48_5)) (hF24.get (by decide) h48_11) rfl) ?_
              refine xg_t (xg_iload (va := (0, ki)) rfl rfl) ?_
              refine xg_t (xg_iadd (u := f48_5) (v := ki) (z := f48_5 + ki) xnm0 xnm0 (by omega)) ?_
              refine xg_baldY (n := f48_5 + ki) (h2_14.fr hF24 (by decide)) (hb15) xnm0 (by omega) (fun u28 hu29 he30 => ?_)
              refine xg_t (xg_aload (va := (8, 100 + i)) rfl rfl) ?_
              refine xg_t (xg_iload (va := (0, ki)) rfl rfl) ?_
              refine xg_t (xg_char (i := i) (qb := qb) (n := ki) (Nat.zero_le _) (Nat.zero_le _) (Nat.le_of_ble_eq_true rfl) hi (by omega) xnm0 (by omega) (hq7 _)) ?_
              have hz32 := hq7 ki
              generalize qb.getD ki 0 = ch31 at hz32 ⊢
              by_cases hc33 : u28 = ch31
              · refine xg_t (xg_icT (u := u28) (v := ch31) rfl xnm0 xnm0 (xj_eqT hc33)) ?_
                refine xg_t (xg_blk (b := [(57, 3, 9, 2, 1, 0), (60, 3, 8, 28, 0, 0)]) rfl) ?_
                refine xg_t (xg_iinc (u := ki) (z := ki + 1) (l1 := [(0, (2, 48)), (1, (8, 100 + i))]) rfl rfl (by omega) rfl) ?_
                refine xg_t (xg_goto) ?_
                refine xg_t (xg_drop (l1 := [(0, (2, 48)), (1, (8, 100 + i)), (2, (0, ki + 1))]) (List.forall_mem_cons.mpr ⟨List.mem_cons_of_mem _ (List.mem_cons_self), List.forall_mem_cons.mpr ⟨List.mem_cons_of_mem _ (List.mem_cons_of_mem _ (List.mem_cons_self)), List.forall_mem_cons.mpr ⟨List.mem_cons_self, fun _ h => absurd h List.not_mem_nil⟩⟩⟩)) ?_
                exact ih20 (ki + 1) w22 (by omega) (by omega) (hI23) (hF24)
              · refine xg_t (xg_icF (u := u28) (v := ch31) rfl xnm0 xnm0 (xj_eqF hc33)) ?_
                refine xg_t (xg_const) ?_
                exact xg_e ⟨0, w22, ⟨rfl, rfl⟩, by first | decide | omega, hI23, hF24⟩
            · refine xg_t (xg_icT (u := ki) (v := qb.length) rfl xnm0 xnm0 (xj_geT (by omega) (by omega))) ?_
              refine xg_t (xg_blk (b := [(63, 1, 3, 1, 0, 0), (64, 1, 12, 0, 1, 0)]) rfl) ?_
              refine xg_t (xg_const) ?_
              exact xg_e ⟨1, w22, ⟨rfl, rfl⟩, by first | decide | omega, hI23, hF24⟩
        exact key19 _ 0 w (Nat.lt_succ_self _) (by omega) (hI) (xFr.rf)
      · refine xg_t (xg_icF (u := f48_7 - f48_5) (v := qb.length) rfl xnm0 xnm0 (xj_eqF hc18)) ?_
        refine xg_t (xg_blk (b := [(24, 1, 3, 0, 0, 0), (25, 1, 12, 0, 1, 0)]) rfl) ?_
        refine xg_t (xg_const) ?_
        exact xg_e ⟨0, w, ⟨rfl, rfl⟩, by first | decide | omega, hI, xFr.rf⟩
    · have hz36 : 4294966796 ≤ (f48_7 + (4294967296 - f48_5)) % 4294967296 := by omega
      refine xg_t (xg_isub (u := f48_7) (v := f48_5) (z := (f48_7 + (4294967296 - f48_5)) % 4294967296) xnm0 xnm0 rfl) ?_
      have hz35 : (f48_7 + (4294967296 - f48_5)) % 4294967296 < 4294967296 := Nat.mod_lt _ (by decide)
      generalize (f48_7 + (4294967296 - f48_5)) % 4294967296 = z34 at hz36 hz35 ⊢
      refine xg_t (xg_aload (va := (8, 100 + i)) rfl rfl) ?_
      refine xg_t (xg_slen (i := i) (qb := qb) (Nat.zero_le _) (Nat.zero_le _) (Nat.le_of_ble_eq_true rfl) hi (by omega)) ?_
      refine xg_t (xg_icF (u := z34) (v := qb.length) rfl xnm0 xnm0 (xj_eqF (by omega))) ?_
      refine xg_t (xg_blk (b := [(24, 1, 3, 0, 0, 0), (25, 1, 12, 0, 1, 0)]) rfl) ?_
      refine xg_t (xg_const) ?_
      exact xg_e ⟨0, w, ⟨rfl, rfl⟩, by first | decide | omega, hI, xFr.rf⟩
  · refine xg_t (xg_icT (u := f48_3) (v := 1) rfl xnm0 xnm0 (xj_neT hc16)) ?_
    refine xg_t (xg_blk (b := [(24, 1, 3, 0, 0, 0), (25, 1, 12, 0, 1, 0)]) rfl) ?_
    refine xg_t (xg_const) ?_
    exact xg_e ⟨0, w, ⟨rfl, rfl⟩, by first | decide | omega, hI, xFr.rf⟩
end XWD
end
