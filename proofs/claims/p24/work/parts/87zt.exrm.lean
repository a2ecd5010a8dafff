/-! the model: a picture, a hand, a test told -/
section XEM3
variable {d : Nat} {w : List (List xE)} {bd : List (Nat × Nat)} {fc : List (Nat × Nat × Bool)} {rr : Nat × Nat}
theorem mPictureX {pa pb pc_ pd pl ph : Nat} (hI : xMnv w) (hpa : pa ≤ 4294967295) (hpb : pb ≤ 4294967295) (hpc_ : pc_ ≤ 4294967295) (hpd : pd ≤ 4294967295) (hpl : pl ≤ 4294967295) (hph : ph ≤ 4294967295) : xPi (d + 1) mX12_picture [(2, 82), (0, pa), (0, pb), (0, pc_), (0, pd), (0, pl), (0, ph)] w bd fc rr (fun n w' => (((n = rwv w 83 10 + 1 ∧ rwv w 83 10 < 12 ∧ ((pa ≤ pb ∧ pb < rwv w 83 5) ∧ (pc_ ≤ pd ∧ pd < rwv w 83 6) ∧ (1 ≤ pl ∧ pl ≤ 9) ∧ (1 ≤ ph ∧ ph ≤ 999)) ∧ rwv w' 83 10 = rwv w 83 10 + 1) ∨ (n = 4294967295 ∧ ¬ (rwv w 83 10 < 12 ∧ ((pa ≤ pb ∧ pb < rwv w 83 5) ∧ (pc_ ≤ pd ∧ pd < rwv w 83 6) ∧ (1 ≤ pl ∧ pl ≤ 9) ∧ (1 ≤ ph ∧ ph ≤ 999))) ∧ rwv w' 83 10 = rwv w 83 10)) ∧ (n ≠ 4294967295 → rwv w' 83 (300 + 6 * rwv w 83 10) = pa ∧ rwv w' 83 (300 + 6 * rwv w 83 10 + 1) = pb ∧ rwv w' 83 (300 + 6 * rwv w 83 10 + 2) = pc_ ∧ rwv w' 83 (300 + 6 * rwv w 83 10 + 3) = pd ∧ rwv w' 83 (300 + 6 * rwv w 83 10 + 4) = pl ∧ rwv w' 83 (300 + 6 * rwv w 83 10 + 5) = ph) ∧ (∀ j, (j ≠ 10 ∧ (j < 300 + 6 * rwv w 83 10 ∨ 306 + 6 * rwv w 83 10 ≤ j)) → j < 5360 → rwv w' 83 j = rwv w 83 j)) ∧ xMnv w' ∧ xFr [83] w w') := by
  refine xPi.of ?_
  show xTo (d + 1) mX12_picture (0, [], [(0, (2, 82)), (1, (0, pa)), (2, (0, pb)), (3, (0, pc_)), (4, (0, pd)), (5, (0, pl)), (6, (0, ph))], [], (w, bd, fc, 0, 0, rr)) (fun φ => ∃ n w', xEnd 1 [(0, n)] (w', bd, fc, 0, 0, rr) φ ∧ (((n = rwv w 83 10 + 1 ∧ rwv w 83 10 < 12 ∧ ((pa ≤ pb ∧ pb < rwv w 83 5) ∧ (pc_ ≤ pd ∧ pd < rwv w 83 6) ∧ (1 ≤ pl ∧ pl ≤ 9) ∧ (1 ≤ ph ∧ ph ≤ 999)) ∧ rwv w' 83 10 = rwv w 83 10 + 1) ∨ (n = 4294967295 ∧ ¬ (rwv w 83 10 < 12 ∧ ((pa ≤ pb ∧ pb < rwv w 83 5) ∧ (pc_ ≤ pd ∧ pd < rwv w 83 6) ∧ (1 ≤ pl ∧ pl ≤ 9) ∧ (1 ≤ ph ∧ ph ≤ 999))) ∧ rwv w' 83 10 = rwv w 83 10)) ∧ (n ≠ 4294967295 → rwv w' 83 (300 + 6 * rwv w 83 10) = pa ∧ rwv w' 83 (300 + 6 * rwv w 83 10 + 1) = pb ∧ rwv w' 83 (300 + 6 * rwv w 83 10 + 2) = pc_ ∧ rwv w' 83 (300 + 6 * rwv w 83 10 + 3) = pd ∧ rwv w' 83 (300 + 6 * rwv w 83 10 + 4) = pl ∧ rwv w' 83 (300 + 6 * rwv w 83 10 + 5) = ph) ∧ (∀ j, (j ≠ 10 ∧ (j < 300 + 6 * rwv w 83 10 ∨ 306 + 6 * rwv w 83 10 ≤ j)) → j < 5360 → rwv w' 83 j = rwv w 83 j)) ∧ xMnv w' ∧ xFr [83] w w')
  obtain ⟨f82_1, f82_3, f82_5, f82_7, f82_9, f82_11, f82_13, f82_15, f82_17, f82_19, f82_21, f82_22, f82_23, f82_25, f82_27, f82_29, h82_31, hb2, hb4, hb6, hb8, hb10, hb12, hb14, hb16, hb18, hb20, hb24, hb26, hb28, hb30, hb32⟩ := (hI 82 (by decide) (by decide) : cp82 (wget w 82))
  replace hb4 := xHid.of hb4
  replace hb10 := xHid.of hb10
  replace hb14 := xHid.of hb14
  replace hb16 := xHid.of hb16
  replace hb20 := xHid.of hb20
  replace hb24 := xHid.of hb24
  replace hb26 := xHid.of hb26
  replace hb28 := xHid.of hb28
  replace hb30 := xHid.of hb30
  obtain ⟨g83_33, h83_34, hb35, hx36⟩ := (hI 83 (by decide) (by decide) : cpx83 (wget w 83))
  have h83_34 : xRow w 83 5360 50 g83_33 := h83_34
  refine xg_t (xg_blk (b := [(0, 1, 0, 0, 0, 0), (1, 3, 1, 12, 0, 7), (4, 2, 4, 10, 0, 0), (6, 1, 10, 0, 0, 0), (7, 2, 4, 12, 0, 0), (9, 3, 6, 102, 0, 0), (12, 1, 2, 1, 0, 0), (13, 1, 3, 0, 0, 0), (14, 1, 0, 0, 0, 0), (15, 3, 1, 12, 0, 7), (18, 1, 3, 5, 0, 0), (19, 1, 10, 0, 0, 0), (20, 1, 3, 1, 0, 0), (21, 1, 18, 0, 0, 0), (22, 3, 13, 161, 98, 105), (25, 3, 7, 102, 0, 0), (28, 1, 2, 2, 0, 0), (29, 1, 2, 1, 0, 0), (30, 1, 0, 0, 0, 0), (31, 3, 1, 12, 0, 7), (34, 1, 3, 5, 0, 0), (35, 1, 10, 0, 0, 0), (36, 1, 3, 1, 0, 0), (37, 1, 18, 0, 0, 0), (38, 3, 13, 161, 98, 105), (41, 3, 7, 102, 0, 0), (44, 1, 2, 3, 0, 0), (45, 1, 3, 0, 0, 0), (46, 1, 0, 0, 0, 0), (47, 3, 1, 12, 0, 7), (50, 2, 4, 6, 0, 0), (52, 1, 10, 0, 0, 0), (53, 1, 3, 1, 0, 0), (54, 1, 18, 0, 0, 0), (55, 3, 13, 161, 98, 105), (58, 3, 7, 102, 0, 0), (61, 2, 2, 4, 0, 0), (63, 1, 2, 3, 0, 0), (64, 1, 0, 0, 0, 0), (65, 3, 1, 12, 0, 7), (68, 2, 4, 6, 0, 0), (70, 1, 10, 0, 0, 0), (71, 1, 3, 1, 0, 0), (72, 1, 18, 0, 0, 0), (73, 3, 13, 161, 98, 105), (76, 3, 7, 102, 0, 0), (79, 2, 2, 5, 0, 0), (81, 1, 3, 1, 0, 0), (82, 2, 4, 9, 0, 0), (84, 3, 13, 161, 98, 105), (87, 3, 7, 102, 0, 0), (90, 2, 2, 6, 0, 0), (92, 1, 3, 1, 0, 0), (93, 3, 5, 999, 0, 0), (96, 3, 13, 161, 98, 105), (99, 3, 7, 104, 1, 0)]) rfl) ?_
  refine xg_t (xg_aload (va := (2, 82)) rfl rfl) ?_
  refine xg_t (xg_getf (va := (2, 83)) h82_31 rfl) ?_
  refine xg_t (xg_bip) ?_
  refine xg_ialdB (n := 10) (B := 4294967295) h83_34 (hb35) xnm0 (by omega) (fun u37 hu38 he39 => ?_)
  have hl40 : u37 ≤ 12 := by rw [← he39]; exact hx36.l10
  refine xg_t (xg_bip) ?_
  by_cases hc41 : u37 = 12
  · refine xg_t (xg_icT (u := u37) (v := 12) rfl xnm0 xnm0 (xj_eqT hc41)) ?_
    refine xg_t (xg_blk (b := [(102, 1, 3, 4294967295, 0, 0), (103, 1, 12, 0, 1, 0)]) rfl) ?_
    refine xg_t (xg_const) ?_
    have hq42 : rwv w 83 10 = g83_33 10 := rwv_of h83_34 (by decide)
    have hq43 : g83_33 10 ≤ 12 := hx36.l10
    have hq44 : rwv w 83 10 = g83_33 10 := rwv_of h83_34 (by decide)
    have hq45 : rwv w 83 5 = g83_33 5 := rwv_of h83_34 (by decide)
    have hq46 : g83_33 5 ≤ 6 := hx36.l5
    have hq47 : rwv w 83 5 = g83_33 5 := rwv_of h83_34 (by decide)
    have hq48 : rwv w 83 6 = g83_33 6 := rwv_of h83_34 (by decide)
    have hq49 : g83_33 6 ≤ 6 := hx36.l6
    have hq50 : rwv w 83 6 = g83_33 6 := rwv_of h83_34 (by decide)
    exact xg_e ⟨4294967295, w, ⟨rfl, rfl⟩, ⟨by omega, fun h => absurd h (by omega), fun j _ h => (rwv_of h83_34 h).trans (rwv_of h83_34 h).symm⟩, hI, xFr.rf⟩
  · refine xg_t (xg_icF (u := u37) (v := 12) rfl xnm0 xnm0 (xj_eqF hc41)) ?_
    refine xg_t (xg_iload (va := (0, pa)) rfl rfl) ?_
    refine xg_t (xg_const) ?_
    refine xg_t (xg_aload (va := (2, 82)) rfl rfl) ?_
    refine xg_t (xg_getf (va := (2, 83)) h82_31 rfl) ?_
    refine xg_t (xg_const) ?_
    refine xg_ialdB (n := 5) (B := 4294967295) h83_34 (hb35) xnm0 (by omega) (fun u51 hu52 he53 => ?_)
    have hl54 : u51 ≤ 6 := by rw [← he53]; exact hx36.l5
    refine xg_t (xg_const) ?_
    by_cases hc55 : 1 ≤ u51
    · refine xg_t (xg_isub (u := u51) (v := 1) (z := u51 - 1) xnm0 xnm0 (by omega)) ?_
      refine xg_t (xg_cSr mX12_isIn (vs := [(0, pa), (0, 0), (0, u51 - 1)]) (rest := []) (rs := [(0, if 0 ≤ pa ∧ pa ≤ u51 - 1 then 1 else 0)]) (cn1 := 0) (sl1 := 0) rfl (mIsIn (by omega) (by omega) (by omega)) rfl rfl rfl rfl rfl rfl rfl rfl) ?_
      by_cases hc56 : 0 ≤ pa ∧ pa ≤ u51 - 1
      · refine xg_t (xg_ifF (u := (if 0 ≤ pa ∧ pa ≤ u51 - 1 then 1 else 0)) rfl xnm0 (xj_eqF (xite1 hc56))) ?_
        refine xg_t (xg_iload (va := (0, pb)) rfl rfl) ?_
        refine xg_t (xg_iload (va := (0, pa)) rfl rfl) ?_
        refine xg_t (xg_aload (va := (2, 82)) rfl rfl) ?_
        refine xg_t (xg_getf (va := (2, 83)) h82_31 rfl) ?_
        refine xg_t (xg_const) ?_
        refine xg_ialdB (n := 5) (B := 4294967295) h83_34 (hb35) xnm0 (by omega) (fun u57 hu58 he59 => ?_)
        have hl60 : u57 ≤ 6 := by rw [← he59]; exact hx36.l5
        refine xg_t (xg_const) ?_
        by_cases hc61 : 1 ≤ u57
        · refine xg_t (xg_isub (u := u57) (v := 1) (z := u57 - 1) xnm0 xnm0 (by omega)) ?_
          refine xg_t (xg_cSr mX12_isIn (vs := [(0, pb), (0, pa), (0, u57 - 1)]) (rest := []) (rs := [(0, if pa ≤ pb ∧ pb ≤ u57 - 1 then 1 else 0)]) (cn1 := 0) (sl1 := 0) rfl (mIsIn (by omega) (by omega) (by omega)) rfl rfl rfl rfl rfl rfl rfl rfl) ?_
          by_cases hc62 : pa ≤ pb ∧ pb ≤ u57 - 1
          · refine xg_t (xg_ifF (u := (if pa ≤ pb ∧ pb ≤ u57 - 1 then 1 else 0)) rfl xnm0 (xj_eqF (xite1 hc62))) ?_
            refine xg_t (xg_iload (va := (0, pc_)) rfl rfl) ?_
            refine xg_t (xg_const) ?_
            refine xg_t (xg_aload (va := (2, 82)) rfl rfl) ?_
            refine xg_t (xg_getf (va := (2, 83)) h82_31 rfl) ?_
            refine xg_t (xg_bip) ?_
            refine xg_ialdB (n := 6) (B := 4294967295) h83_34 (hb35) xnm0 (by omega) (fun u63 hu64 he65 => ?_)
            have hl66 : u63 ≤ 6 := by rw [← he65]; exact hx36.l6
            refine xg_t (xg_const) ?_
            by_cases hc67 : 1 ≤ u63
            · refine xg_t (xg_isub (u := u63) (v := 1) (z := u63 - 1) xnm0 xnm0 (by omega)) ?_
              refine xg_t (xg_cSr mX12_isIn (vs := [(0, pc_), (0, 0), (0, u63 - 1)]) (rest := []) (rs := [(0, if 0 ≤ pc_ ∧ pc_ ≤ u63 - 1 then 1 else 0)]) (cn1 := 0) (sl1 := 0) rfl (mIsIn (by omega) (by omega) (by omega)) rfl rfl rfl rfl rfl rfl rfl rfl) ?_
              by_cases hc68 : 0 ≤ pc_ ∧ pc_ ≤ u63 - 1
              · refine xg_t (xg_ifF (u := (if 0 ≤ pc_ ∧ pc_ ≤ u63 - 1 then 1 else 0)) rfl xnm0 (xj_eqF (xite1 hc68))) ?_
                refine xg_t (xg_iload (va := (0, pd)) rfl rfl) ?_
                refine xg_t (xg_iload (va := (0, pc_)) rfl rfl) ?_
                refine xg_t (xg_aload (va := (2, 82)) rfl rfl) ?_
                refine xg_t (xg_getf (va := (2, 83)) h82_31 rfl) ?_
                refine xg_t (xg_bip) ?_
                refine xg_ialdB (n := 6) (B := 4294967295) h83_34 (hb35) xnm0 (by omega) (fun u69 hu70 he71 => ?_)
                have hl72 : u69 ≤ 6 := by rw [← he71]; exact hx36.l6
                refine xg_t (xg_const) ?_
                by_cases hc73 : 1 ≤ u69
                · refine xg_t (xg_isub (u := u69) (v := 1) (z := u69 - 1) xnm0 xnm0 (by omega)) ?_
                  refine xg_t (xg_cSr mX12_isIn (vs := [(0, pd), (0, pc_), (0, u69 - 1)]) (rest := []) (rs := [(0, if pc_ ≤ pd ∧ pd ≤ u69 - 1 then 1 else 0)]) (cn1 := 0) (sl1 := 0) rfl (mIsIn (by omega) (by omega) (by omega)) rfl rfl rfl rfl rfl rfl rfl rfl) ?_
                  by_cases hc74 : pc_ ≤ pd ∧ pd ≤ u69 - 1
                  · refine xg_t (xg_ifF (u := (if pc_ ≤ pd ∧ pd ≤ u69 - 1 then 1 else 0)) rfl xnm0 (xj_eqF (xite1 hc74))) ?_
                    refine xg_t (xg_iload (va := (0, pl)) rfl rfl) ?_
                    refine xg_t (xg_const) ?_
                    refine xg_t (xg_bip) ?_
                    refine xg_t (xg_cSr mX12_isIn (vs := [(0, pl), (0, 1), (0, 9)]) (rest := []) (rs := [(0, if 1 ≤ pl ∧ pl ≤ 9 then 1 else 0)]) (cn1 := 0) (sl1 := 0) rfl (mIsIn (by omega) (by omega) (by omega)) rfl rfl rfl rfl rfl rfl rfl rfl) ?_
                    by_cases hc75 : 1 ≤ pl ∧ pl ≤ 9
                    · refine xg_t (xg_ifF (u := (if 1 ≤ pl ∧ pl ≤ 9 then 1 else 0)) rfl xnm0 (xj_eqF (xite1 hc75))) ?_
                      refine xg_t (xg_iload (va := (0, ph)) rfl rfl) ?_
                      refine xg_t (xg_const) ?_
                      refine xg_t (xg_sip) ?_
                      refine xg_t (xg_cSr mX12_isIn (vs := [(0, ph), (0, 1), (0, 999)]) (rest := []) (rs := [(0, if 1 ≤ ph ∧ ph ≤ 999 then 1 else 0)]) (cn1 := 0) (sl1 := 0) rfl (mIsIn (by omega) (by omega) (by omega)) rfl rfl rfl rfl rfl rfl rfl rfl) ?_
                      by_cases hc76 : 1 ≤ ph ∧ ph ≤ 999
                      · refine xg_t (xg_ifT (u := (if 1 ≤ ph ∧ ph ≤ 999 then 1 else 0)) rfl xnm0 (xj_neT (xite1 hc76))) ?_
                        refine xg_t (xg_blk (b := [(104, 3, 5, 300, 0, 0), (107, 2, 4, 6, 0, 0), (109, 1, 0, 0, 0, 0), (110, 3, 1, 12, 0, 7), (113, 2, 4, 10, 0, 0), (115, 1, 10, 0, 0, 0), (116, 1, 16, 0, 0, 0), (117, 1, 11, 0, 0, 0), (118, 2, 15, 7, 0, 0), (120, 1, 0, 0, 0, 0), (121, 3, 1, 12, 0, 7), (124, 2, 2, 7, 0, 0), (126, 1, 2, 1, 0, 0), (127, 1, 17, 0, 0, 0), (128, 1, 0, 0, 0, 0), (129, 3, 1, 12, 0, 7), (132, 2, 2, 7, 0, 0), (134, 1, 3, 1, 0, 0), (135, 1, 11, 0, 0, 0), (136, 1, 2, 2, 0, 0), (137, 1, 17, 0, 0, 0), (138, 1, 0, 0, 0, 0), (139, 3, 1, 12, 0, 7), (142, 2, 2, 7, 0, 0), (144, 1, 3, 2, 0, 0), (145, 1, 11, 0, 0, 0), (146, 1, 2, 3, 0, 0), (147, 1, 17, 0, 0, 0), (148, 1, 0, 0, 0, 0), (149, 3, 1, 12, 0, 7), (152, 2, 2, 7, 0, 0), (154, 1, 3, 3, 0, 0), (155, 1, 11, 0, 0, 0), (156, 2, 2, 4, 0, 0), (158, 1, 17, 0, 0, 0), (159, 1, 0, 0, 0, 0), (160, 3, 1, 12, 0, 7), (163, 2, 2, 7, 0, 0), (165, 1, 3, 4, 0, 0), (166, 1, 11, 0, 0, 0), (167, 2, 2, 5, 0, 0), (169, 1, 17, 0, 0, 0), (170, 1, 0, 0, 0, 0), (171, 3, 1, 12, 0, 7), (174, 2, 2, 7, 0, 0), (176, 1, 3, 5, 0, 0), (177, 1, 11, 0, 0, 0), (178, 2, 2, 6, 0, 0), (180, 1, 17, 0, 0, 0), (181, 1, 0, 0, 0, 0), (182, 3, 1, 12, 0, 7), (185, 2, 4, 10, 0, 0), (187, 1, 39, 0, 0, 0), (188, 1, 10, 0, 0, 0), (189, 1, 3, 1, 0, 0), (190, 1, 11, 0, 0, 0), (191, 1, 17, 0, 0, 0), (192, 1, 0, 0, 0, 0), (193, 3, 1, 12, 0, 7), (196, 2, 4, 10, 0, 0), (198, 1, 10, 0, 0, 0), (199, 1, 12, 0, 1, 0)]) rfl) ?_
                        refine xg_t (xg_sip) ?_
                        refine xg_t (xg_bip) ?_
                        refine xg_t (xg_aload (va := (2, 82)) rfl rfl) ?_
                        refine xg_t (xg_getf (va := (2, 83)) h82_31 rfl) ?_
                        refine xg_t (xg_bip) ?_
                        refine xg_ialdB (n := 10) (B := 4294967295) h83_34 (hb35) xnm0 (by omega) (fun u77 hu78 he79 => ?_)
                        have hl80 : u77 ≤ 12 := by rw [← he79]; exact hx36.l10
                        refine xg_t (xg_imul (u := 6) (v := u77) (z := 6 * u77) xnm0 xnm0 (by omega)) ?_
                        refine xg_t (xg_iadd (u := 300) (v := 6 * u77) (z := 300 + (6 * u77)) xnm0 xnm0 (by omega)) ?_
                        refine xg_t (xg_istore (l1 := [(0, (2, 82)), (1, (0, pa)), (2, (0, pb)), (3, (0, pc_)), (4, (0, pd)), (5, (0, pl)), (6, (0, ph))]) rfl rfl rfl) ?_
                        refine xg_t (xg_aload (va := (2, 82)) rfl rfl) ?_
                        refine xg_t (xg_getf (va := (2, 83)) h82_31 rfl) ?_
                        refine xg_t (xg_iload (va := (0, 300 + (6 * u77))) rfl rfl) ?_
                        refine xg_t (xg_iload (va := (0, pa)) rfl rfl) ?_
                        refine xg_iastK (n := 300 + (6 * u77)) (u := pa) h83_34 xnm0 xnm0 rfl (by omega) (fun w81 hr82 hb83 => ?_)
                        have hx84 : okA (fun j => if j = 300 + (6 * u77) then pa else g83_33 j) := hx36.upd (by omega) (by omega) (by omega) (fun _ => by omega) (by omega) (fun _ => by omega) (fun _ => by omega) (fun _ => by omega) (fun _ => by omega) (by omega) (fun _ _ => by omega)
                        have hb85 : ∀ j, (fun j => if j = 300 + (6 * u77) then pa else g83_33 j) j ≤ 4294967295 := xrb (by omega) (hb35)
                        obtain ⟨g86, hg87⟩ : ∃ g : Nat → Nat, g = (fun j => if j = 300 + (6 * u77) then pa else g83_33 j) := ⟨_, rfl⟩
                        rw [← hg87] at hr82
                        have he88 : g86 (300 + (6 * u77)) = pa := by rw [hg87]; exact if_pos rfl
                        have hk89 : ∀ j, j ≠ 300 + (6 * u77) → g86 j = g83_33 j := fun j hj => by rw [hg87]; exact if_neg hj
                        rw [← hg87] at hx84
                        rw [← hg87] at hb85
                        have hk90 : g86 10 = g83_33 10 := hk89 10 (by omega)
                        refine xg_t (xg_aload (va := (2, 82)) rfl rfl) ?_
                        refine xg_t (xg_getf (va := (2, 83)) (hb83.get (by decide) h82_31) rfl) ?_
                        refine xg_t (xg_iload (va := (0, 300 + (6 * u77))) rfl rfl) ?_
                        refine xg_t (xg_const) ?_
                        refine xg_t (xg_iadd (u := 300 + (6 * u77)) (v := 1) (z := (300 + (6 * u77)) + 1) xnm0 xnm0 (by omega)) ?_
                        refine xg_t (xg_iload (va := (0, pb)) rfl rfl) ?_
                        refine xg_iastK (n := (300 + (6 * u77)) + 1) (u := pb) hr82 xnm0 xnm0 rfl (by omega) (fun w91 hr92 hb93 => ?_)
                        have hx94 : okA (fun j => if j = (300 + (6 * u77)) + 1 then pb else g86 j) := hx84.upd (by omega) (by omega) (by omega) (fun _ => by omega) (by omega) (fun _ => by omega) (fun _ => by omega) (fun _ => by omega) (fun _ => by omega) (by omega) (fun _ _ => by omega)
                        have hb95 : ∀ j, (fun j => if j = (300 + (6 * u77)) + 1 then pb else g86 j) j ≤ 4294967295 := xrb (by omega) (hb85)
                        obtain ⟨g96, hg97⟩ : ∃ g : Nat → Nat, g = (fun j => if j = (300 + (6 * u77)) + 1 then pb else g86 j) := ⟨_, rfl⟩
                        rw [← hg97] at hr92
                        have he98 : g96 ((300 + (6 * u77)) + 1) = pb := by rw [hg97]; exact if_pos rfl
                        have hk99 : ∀ j, j ≠ (300 + (6 * u77)) + 1 → g96 j = g86 j := fun j hj => by rw [hg97]; exact if_neg hj
                        rw [← hg97] at hx94
                        rw [← hg97] at hb95
                        have hk100 : g96 10 = g86 10 := hk99 10 (by omega)
                        refine xg_t (xg_aload (va := (2, 82)) rfl rfl) ?_
                        refine xg_t (xg_getf (va := (2, 83)) (hb93.get (by decide) (hb83.get (by decide) h82_31)) rfl) ?_
                        refine xg_t (xg_iload (va := (0, 300 + (6 * u77))) rfl rfl) ?_
                        refine xg_t (xg_const) ?_
                        refine xg_t (xg_iadd (u := 300 + (6 * u77)) (v := 2) (z := (300 + (6 * u77)) + 2) xnm0 xnm0 (by omega)) ?_
                        refine xg_t (xg_iload (va := (0, pc_)) rfl rfl) ?_
                        refine xg_iastK (n := (300 + (6 * u77)) + 2) (u := pc_) hr92 xnm0 xnm0 rfl (by omega) (fun w101 hr102 hb103 => ?_)
                        have hx104 : okA (fun j => if j = (300 + (6 * u77)) + 2 then pc_ else g96 j) := hx94.upd (by omega) (by omega) (by omega) (fun _ => by omega) (by omega) (fun _ => by omega) (fun _ => by omega) (fun _ => by omega) (fun _ => by omega) (by omega) (fun _ _ => by omega)
                        have hb105 : ∀ j, (fun j => if j = (300 + (6 * u77)) + 2 then pc_ else g96 j) j ≤ 4294967295 := xrb (by omega) (hb95)
                        obtain ⟨g106, hg107⟩ : ∃ g : Nat → Nat, g = (fun j => if j = (300 + (6 * u77)) + 2 then pc_ else g96 j) := ⟨_, rfl⟩
                        rw [← hg107] at hr102
                        have he108 : g106 ((300 + (6 * u77)) + 2) = pc_ := by rw [hg107]; exact if_pos rfl
                        have hk109 : ∀ j, j ≠ (300 + (6 * u77)) + 2 → g106 j = g96 j := fun j hj => by rw [hg107]; exact if_neg hj
                        rw [← hg107] at hx104
                        rw [← hg107] at hb105
                        have hk110 : g106 10 = g96 10 := hk109 10 (by omega)
                        refine xg_t (xg_aload (va := (2, 82)) rfl rfl) ?_
                        refine xg_t (xg_getf (va := (2, 83)) (hb103.get (by decide) (hb93.get (by decide) (hb83.get (by decide) h82_31))) rfl) ?_
                        refine xg_t (xg_iload (va := (0, 300 + (6 * u77))) rfl rfl) ?_
                        refine xg_t (xg_const) ?_
                        refine xg_t (xg_iadd (u := 300 + (6 * u77)) (v := 3) (z := (300 + (6 * u77)) + 3) xnm0 xnm0 (by omega)) ?_
                        refine xg_t (xg_iload (va := (0, pd)) rfl rfl) ?_
                        refine xg_iastK (n := (300 + (6 * u77)) + 3) (u := pd) hr102 xnm0 xnm0 rfl (by omega) (fun w111 hr112 hb113 => ?_)
                        have hx114 : okA (fun j => if j = (300 + (6 * u77)) + 3 then pd else g106 j) := hx104.upd (by omega) (by omega) (by omega) (fun _ => by omega) (by omega) (fun _ => by omega) (fun _ => by omega) (fun _ => by omega) (fun _ => by omega) (by omega) (fun _ _ => by omega)
                        have hb115 : ∀ j, (fun j => if j = (300 + (6 * u77)) + 3 then pd else g106 j) j ≤ 4294967295 := xrb (by omega) (hb105)
                        obtain ⟨g116, hg117⟩ : ∃ g : Nat → Nat, g = (fun j => if j = (300 + (6 * u77)) + 3 then pd else g106 j) := ⟨_, rfl⟩
                        rw [← hg117] at hr112
                        have he118 : g116 ((300 + (6 * u77)) + 3) = pd := by rw [hg117]; exact if_pos rfl
                        have hk119 : ∀ j, j ≠ (300 + (6 * u77)) + 3 → g116 j = g106 j := fun j hj => by rw [hg117]; exact if_neg hj
                        rw [← hg117] at hx114
                        rw [← hg117] at hb115
                        have hk120 : g116 10 = g106 10 := hk119 10 (by omega)
                        refine xg_t (xg_aload (va := (2, 82)) rfl rfl) ?_
                        refine xg_t (xg_getf (va := (2, 83)) (hb113.get (by decide) (hb103.get (by decide) (hb93.get (by decide) (hb83.get (by decide) h82_31)))) rfl) ?_
                        refine xg_t (xg_iload (va := (0, 300 + (6 * u77))) rfl rfl) ?_
                        refine xg_t (xg_const) ?_
                        refine xg_t (xg_iadd (u := 300 + (6 * u77)) (v := 4) (z := (300 + (6 * u77)) + 4) xnm0 xnm0 (by omega)) ?_
                        refine xg_t (xg_iload (va := (0, pl)) rfl rfl) ?_
                        refine xg_iastK (n := (300 + (6 * u77)) + 4) (u := pl) hr112 xnm0 xnm0 rfl (by omega) (fun w121 hr122 hb123 => ?_)
                        have hx124 : okA (fun j => if j = (300 + (6 * u77)) + 4 then pl else g116 j) := hx114.upd (by omega) (by omega) (by omega) (fun _ => by omega) (by omega) (fun _ => by omega) (fun _ => by omega) (fun _ => by omega) (fun _ => by omega) (by omega) (fun _ _ => by omega)
                        have hb125 : ∀ j, (fun j => if j = (300 + (6 * u77)) + 4 then pl else g116 j) j ≤ 4294967295 := xrb (by omega) (hb115)
                        obtain ⟨g126, hg127⟩ : ∃ g : Nat → Nat, g = (fun j => if j = (300 + (6 * u77)) + 4 then pl else g116 j) := ⟨_, rfl⟩
                        rw [← hg127] at hr122
                        have he128 : g126 ((300 + (6 * u77)) + 4) = pl := by rw [hg127]; exact if_pos rfl
                        have hk129 : ∀ j, j ≠ (300 + (6 * u77)) + 4 → g126 j = g116 j := fun j hj => by rw [hg127]; exact if_neg hj
                        rw [← hg127] at hx124
                        rw [← hg127] at hb125
                        have hk130 : g126 10 = g116 10 := hk129 10 (by omega)
                        refine xg_t (xg_aload (va := (2, 82)) rfl rfl) ?_
                        refine xg_t (xg_getf (va := (2, 83)) (hb123.get (by decide) (hb113.get (by decide) (hb103.get (by decide) (hb93.get (by decide) (hb83.get (by decide) h82_31))))) rfl) ?_
                        refine xg_t (xg_iload (va := (0, 300 + (6 * u77))) rfl rfl) ?_
                        refine xg_t (xg_const) ?_
                        refine xg_t (xg_iadd (u := 300 + (6 * u77)) (v := 5) (z := (300 + (6 * u77)) + 5) xnm0 xnm0 (by omega)) ?_
                        refine xg_t (xg_iload (va := (0, ph)) rfl rfl) ?_
                        refine xg_iastK (n := (300 + (6 * u77)) + 5) (u := ph) hr122 xnm0 xnm0 rfl (by omega) (fun w131 hr132 hb133 => ?_)
                        have hx134 : okA (fun j => if j = (300 + (6 * u77)) + 5 then ph else g126 j) := hx124.upd (by omega) (by omega) (by omega) (fun _ => by omega) (by omega) (fun _ => by omega) (fun _ => by omega) (fun _ => by omega) (fun _ => by omega) (by omega) (fun _ _ => by omega)
                        have hb135 : ∀ j, (fun j => if j = (300 + (6 * u77)) + 5 then ph else g126 j) j ≤ 4294967295 := xrb (by omega) (hb125)
                        obtain ⟨g136, hg137⟩ : ∃ g : Nat → Nat, g = (fun j => if j = (300 + (6 * u77)) + 5 then ph else g126 j) := ⟨_, rfl⟩
                        rw [← hg137] at hr132
                        have he138 : g136 ((300 + (6 * u77)) + 5) = ph := by rw [hg137]; exact if_pos rfl
                        have hk139 : ∀ j, j ≠ (300 + (6 * u77)) + 5 → g136 j = g126 j := fun j hj => by rw [hg137]; exact if_neg hj
                        rw [← hg137] at hx134
                        rw [← hg137] at hb135
                        have hk140 : g136 10 = g126 10 := hk139 10 (by omega)
                        refine xg_t (xg_aload (va := (2, 82)) rfl rfl) ?_
                        refine xg_t (xg_getf (va := (2, 83)) (hb133.get (by decide) (hb123.get (by decide) (hb113.get (by decide) (hb103.get (by decide) (hb93.get (by decide) (hb83.get (by decide) h82_31)))))) rfl) ?_
                        refine xg_t (xg_bip) ?_
                        refine xg_t (xg_dup2 rfl) ?_
                        refine xg_ialdB (n := 10) (B := 4294967295) hr132 (hb135) xnm0 (by omega) (fun u141 hu142 he143 => ?_)
                        have hl144 : u141 ≤ 12 := by rw [← he143]; exact hx134.l10
                        refine xg_t (xg_const) ?_
                        refine xg_t (xg_iadd (u := u141) (v := 1) (z := u141 + 1) xnm0 xnm0 (by omega)) ?_
                        refine xg_iastK (n := 10) (u := u141 + 1) hr132 xnm0 xnm0 rfl (by omega) (fun w145 hr146 hb147 => ?_)
                        have hp149 : g136 (300 + 6 * u77 + 0) ≤ 5 := by
                          have e : 300 + 6 * u77 + 0 = 300 + (6 * u77) := by omega
                          rw [e, hk139 _ (by omega), hk129 _ (by omega), hk119 _ (by omega), hk109 _ (by omega), hk99 _ (by omega), he88]; omega
                        have hp150 : g136 (300 + 6 * u77 + 1) ≤ 5 := by
                          have e : 300 + 6 * u77 + 1 = (300 + (6 * u77)) + 1 := by omega
                          rw [e, hk139 _ (by omega), hk129 _ (by omega), hk119 _ (by omega), hk109 _ (by omega), he98]; omega
                        have hp151 : g136 (300 + 6 * u77 + 2) ≤ 5 := by
                          have e : 300 + 6 * u77 + 2 = (300 + (6 * u77)) + 2 := by omega
                          rw [e, hk139 _ (by omega), hk129 _ (by omega), hk119 _ (by omega), he108]; omega
                        have hp152 : g136 (300 + 6 * u77 + 3) ≤ 5 := by
                          have e : 300 + 6 * u77 + 3 = (300 + (6 * u77)) + 3 := by omega
                          rw [e, hk139 _ (by omega), hk129 _ (by omega), he118]; omega
                        have hp153 : g136 10 = u77 := by rw [hk139 10 (by omega), hk129 10 (by omega), hk119 10 (by omega), hk109 10 (by omega), hk99 10 (by omega), hk89 10 (by omega)]; omega
                        have hp154 : ∀ p t, p < u141 + 1 → t < 4 → g136 (300 + 6 * p + t) ≤ 5 := by
                          intro p t hp ht
                          by_cases z : p < u77
                          · exact hx134.pic (by omega) ht
                          · have e : p = u77 := by omega
                            subst e
                            rcases (show t = 0 ∨ t = 1 ∨ t = 2 ∨ t = 3 by omega) with rfl | rfl | rfl | rfl
                            · exact hp149
                            · exact hp150
                            · exact hp151
                            · exact hp152
                        have hx148 : okA (fun j => if j = 10 then u141 + 1 else g136 j) := hx134.updP (by omega) hp154
                        have hb155 : ∀ j, (fun j => if j = 10 then u141 + 1 else g136 j) j ≤ 4294967295 := xrb (by omega) (hb135)
                        obtain ⟨g156, hg157⟩ : ∃ g : Nat → Nat, g = (fun j => if j = 10 then u141 + 1 else g136 j) := ⟨_, rfl⟩
                        rw [← hg157] at hr146
                        have he158 : g156 10 = u141 + 1 := by rw [hg157]; exact if_pos rfl
                        have hk159 : ∀ j, j ≠ 10 → g156 j = g136 j := fun j hj => by rw [hg157]; exact if_neg hj
                        rw [← hg157] at hx148
                        rw [← hg157] at hb155
                        refine xg_t (xg_aload (va := (2, 82)) rfl rfl) ?_
                        refine xg_t (xg_getf (va := (2, 83)) (hb147.get (by decide) (hb133.get (by decide) (hb123.get (by decide) (hb113.get (by decide) (hb103.get (by decide) (hb93.get (by decide) (hb83.get (by decide) h82_31))))))) rfl) ?_
                        refine xg_t (xg_bip) ?_
                        refine xg_ialdB (n := 10) (B := 4294967295) hr146 (hb155) xnm0 (by omega) (fun u160 hu161 he162 => ?_)
                        have hl163 : u160 ≤ 12 := by rw [← he162]; exact hx148.l10
                        have hq164 : rwv w 83 10 = g83_33 10 := rwv_of h83_34 (by decide)
                        have hq165 : g83_33 10 ≤ 12 := hx36.l10
                        have hq166 : g86 10 = g83_33 10 := hk89 10 (by omega)
                        have hq167 : g96 10 = g86 10 := hk99 10 (by omega)
                        have hq168 : g106 10 = g96 10 := hk109 10 (by omega)
                        have hq169 : g116 10 = g106 10 := hk119 10 (by omega)
                        have hq170 : g126 10 = g116 10 := hk129 10 (by omega)
                        have hq171 : g136 10 = g126 10 := hk139 10 (by omega)
                        have hq172 : g156 10 = u141 + 1 := he158
                        have hq173 : rwv w145 83 10 = g156 10 := rwv_of hr146 (by decide)
                        have hq174 : rwv w 83 5 = g83_33 5 := rwv_of h83_34 (by decide)
                        have hq175 : g83_33 5 ≤ 6 := hx36.l5
                        have hq176 : g86 5 = g83_33 5 := hk89 5 (by omega)
                        have hq177 : g96 5 = g86 5 := hk99 5 (by omega)
                        have hq178 : g106 5 = g96 5 := hk109 5 (by omega)
                        have hq179 : g116 5 = g106 5 := hk119 5 (by omega)
                        have hq180 : g126 5 = g116 5 := hk129 5 (by omega)
                        have hq181 : g136 5 = g126 5 := hk139 5 (by omega)
                        have hq182 : g156 5 = g136 5 := hk159 5 (by omega)
                        have hq183 : rwv w145 83 5 = g156 5 := rwv_of hr146 (by decide)
                        have hq184 : rwv w 83 6 = g83_33 6 := rwv_of h83_34 (by decide)
                        have hq185 : g83_33 6 ≤ 6 := hx36.l6
                        have hq186 : g86 6 = g83_33 6 := hk89 6 (by omega)
                        have hq187 : g96 6 = g86 6 := hk99 6 (by omega)
                        have hq188 : g106 6 = g96 6 := hk109 6 (by omega)
                        have hq189 : g116 6 = g106 6 := hk119 6 (by omega)
                        have hq190 : g126 6 = g116 6 := hk129 6 (by omega)
                        have hq191 : g136 6 = g126 6 := hk139 6 (by omega)
                        have hq192 : g156 6 = g136 6 := hk159 6 (by omega)
                        have hq193 : rwv w145 83 6 = g156 6 := rwv_of hr146 (by decide)
                        have hq195 : 300 + 6 * rwv w 83 10 = 300 + (6 * u77) := by omega
                        have hq194 : rwv w145 83 (300 + 6 * rwv w 83 10) = pa := by
                          rw [hq195, rwv_of hr146 (by omega), hk159 _ (by omega), hk139 _ (by omega), hk129 _ (by omega), hk119 _ (by omega), hk109 _ (by omega), hk99 _ (by omega), he88]
                        have hq197 : 300 + 6 * rwv w 83 10 + 1 = (300 + (6 * u77)) + 1 := by omega
                        have hq196 : rwv w145 83 (300 + 6 * rwv w 83 10 + 1) = pb := by
                          rw [hq197, rwv_of hr146 (by omega), hk159 _ (by omega), hk139 _ (by omega), hk129 _ (by omega), hk119 _ (by omega), hk109 _ (by omega), he98]
                        have hq199 : 300 + 6 * rwv w 83 10 + 2 = (300 + (6 * u77)) + 2 := by omega
                        have hq198 : rwv w145 83 (300 + 6 * rwv w 83 10 + 2) = pc_ := by
                          rw [hq199, rwv_of hr146 (by omega), hk159 _ (by omega), hk139 _ (by omega), hk129 _ (by omega), hk119 _ (by omega), he108]
                        have hq201 : 300 + 6 * rwv w 83 10 + 3 = (300 + (6 * u77)) + 3 := by omega
                        have hq200 : rwv w145 83 (300 + 6 * rwv w 83 10 + 3) = pd := by
                          rw [hq201, rwv_of hr146 (by omega), hk159 _ (by omega), hk139 _ (by omega), hk129 _ (by omega), he118]
                        have hq203 : 300 + 6 * rwv w 83 10 + 4 = (300 + (6 * u77)) + 4 := by omega
                        have hq202 : rwv w145 83 (300 + 6 * rwv w 83 10 + 4) = pl := by
                          rw [hq203, rwv_of hr146 (by omega), hk159 _ (by omega), hk139 _ (by omega), he128]
                        have hq205 : 300 + 6 * rwv w 83 10 + 5 = (300 + (6 * u77)) + 5 := by omega
                        have hq204 : rwv w145 83 (300 + 6 * rwv w 83 10 + 5) = ph := by
                          rw [hq205, rwv_of hr146 (by omega), hk159 _ (by omega), he138]
                        exact xg_e ⟨u160, w145, ⟨rfl, rfl⟩, ⟨by omega, fun _ => ⟨hq194, hq196, hq198, hq200, hq202, hq204⟩, fun j hj h => (rwv_of hr146 h).trans (Eq.trans (by rw [hk159 j (by omega), hk139 j (by omega), hk129 j (by omega), hk119 j (by omega), hk109 j (by omega), hk99 j (by omega), hk89 j (by omega)]) (rwv_of h83_34 h).symm)⟩, xMnv.up (S := [83]) hI (((((((xFr.of (S := [83]) hb83 (by decide)).tr (xFr.of (S := [83]) hb93 (by decide))).tr (xFr.of (S := [83]) hb103 (by decide))).tr (xFr.of (S := [83]) hb113 (by decide))).tr (xFr.of (S := [83]) hb123 (by decide))).tr (xFr.of (S := [83]) hb133 (by decide))).tr (xFr.of (S := [83]) hb147 (by decide))) (List.forall_mem_cons.mpr ⟨(show cpx83 (wget w145 83) from ⟨_, hr146, hb155, hx148⟩), fun _ h => absurd h List.not_mem_nil⟩), (((((((xFr.of (S := [83]) hb83 (by decide)).tr (xFr.of (S := [83]) hb93 (by decide))).tr (xFr.of (S := [83]) hb103 (by decide))).tr (xFr.of (S := [83]) hb113 (by decide))).tr (xFr.of (S := [83]) hb123 (by decide))).tr (xFr.of (S := [83]) hb133 (by decide))).tr (xFr.of (S := [83]) hb147 (by decide)))⟩
                      · refine xg_t (xg_ifF (u := (if 1 ≤ ph ∧ ph ≤ 999 then 1 else 0)) rfl xnm0 (xj_neF (xite0 hc76))) ?_
                        refine xg_t (xg_blk (b := [(102, 1, 3, 4294967295, 0, 0), (103, 1, 12, 0, 1, 0)]) rfl) ?_
                        refine xg_t (xg_const) ?_
                        have hq206 : rwv w 83 10 = g83_33 10 := rwv_of h83_34 (by decide)
                        have hq207 : g83_33 10 ≤ 12 := hx36.l10
                        have hq208 : rwv w 83 10 = g83_33 10 := rwv_of h83_34 (by decide)
                        have hq209 : rwv w 83 5 = g83_33 5 := rwv_of h83_34 (by decide)
                        have hq210 : g83_33 5 ≤ 6 := hx36.l5
                        have hq211 : rwv w 83 5 = g83_33 5 := rwv_of h83_34 (by decide)
                        have hq212 : rwv w 83 6 = g83_33 6 := rwv_of h83_34 (by decide)
                        have hq213 : g83_33 6 ≤ 6 := hx36.l6
                        have hq214 : rwv w 83 6 = g83_33 6 := rwv_of h83_34 (by decide)
                        exact xg_e ⟨4294967295, w, ⟨rfl, rfl⟩, ⟨by omega, fun h => absurd h (by omega), fun j _ h => (rwv_of h83_34 h).trans (rwv_of h83_34 h).symm⟩, hI, xFr.rf⟩
                    · refine xg_t (xg_ifT (u := (if 1 ≤ pl ∧ pl ≤ 9 then 1 else 0)) rfl xnm0 (xj_eqT (xite0 hc75))) ?_
                      refine xg_t (xg_blk (b := [(102, 1, 3, 4294967295, 0, 0), (103, 1, 12, 0, 1, 0)]) rfl) ?_
                      refine xg_t (xg_const) ?_
                      have hq215 : rwv w 83 10 = g83_33 10 := rwv_of h83_34 (by decide)
                      have hq216 : g83_33 10 ≤ 12 := hx36.l10
                      have hq217 : rwv w 83 10 = g83_33 10 := rwv_of h83_34 (by decide)
                      have hq218 : rwv w 83 5 = g83_33 5 := rwv_of h83_34 (by decide)
                      have hq219 : g83_33 5 ≤ 6 := hx36.l5
                      have hq220 : rwv w 83 5 = g83_33 5 := rwv_of h83_34 (by decide)
                      have hq221 : rwv w 83 6 = g83_33 6 := rwv_of h83_34 (by decide)
                      have hq222 : g83_33 6 ≤ 6 := hx36.l6
                      have hq223 : rwv w 83 6 = g83_33 6 := rwv_of h83_34 (by decide)
                      exact xg_e ⟨4294967295, w, ⟨rfl, rfl⟩, ⟨by omega, fun h => absurd h (by omega), fun j _ h => (rwv_of h83_34 h).trans (rwv_of h83_34 h).symm⟩, hI, xFr.rf⟩
                  · refine xg_t (xg_ifT (u := (if pc_ ≤ pd ∧ pd ≤ u69 - 1 then 1 else 0)) rfl xnm0 (xj_eqT (xite0 hc74))) ?_
                    refine xg_t (xg_blk (b := [(102, 1, 3, 4294967295, 0, 0), (103, 1, 12, 0, 1, 0)]) rfl) ?_
                    refine xg_t (xg_const) ?_
                    have hq224 : rwv w 83 10 = g83_33 10 := rwv_of h83_34 (by decide)
                    have hq225 : g83_33 10 ≤ 12 := hx36.l10
                    have hq226 : rwv w 83 10 = g83_33 10 := rwv_of h83_34 (by decide)
                    have hq227 : rwv w 83 5 = g83_33 5 := rwv_of h83_34 (by decide)
                    have hq228 : g83_33 5 ≤ 6 := hx36.l5
                    have hq229 : rwv w 83 5 = g83_33 5 := rwv_of h83_34 (by decide)
                    have hq230 : rwv w 83 6 = g83_33 6 := rwv_of h83_34 (by decide)
                    have hq231 : g83_33 6 ≤ 6 := hx36.l6
                    have hq232 : rwv w 83 6 = g83_33 6 := rwv_of h83_34 (by decide)
                    exact xg_e ⟨4294967295, w, ⟨rfl, rfl⟩, ⟨by omega, fun h => absurd h (by omega), fun j _ h => (rwv_of h83_34 h).trans (rwv_of h83_34 h).symm⟩, hI, xFr.rf⟩
                · have hz235 : 4294967295 ≤ (u69 + (4294967296 - 1)) % 4294967296 := by omega
                  refine xg_t (xg_isub (u := u69) (v := 1) (z := (u69 + (4294967296 - 1)) % 4294967296) xnm0 xnm0 rfl) ?_
                  have hz234 : (u69 + (4294967296 - 1)) % 4294967296 < 4294967296 := Nat.mod_lt _ (by decide)
                  generalize (u69 + (4294967296 - 1)) % 4294967296 = z233 at hz235 hz234 ⊢
                  refine xg_t (xg_cSr mX12_isIn (vs := [(0, pd), (0, pc_), (0, z233)]) (rest := []) (rs := [(0, 0)]) (cn1 := 0) (sl1 := 0) rfl (mIsInN (by omega) (by omega) (by omega) (by omega)) rfl rfl rfl rfl rfl rfl rfl rfl) ?_
                  refine xg_t (xg_ifT (u := 0) rfl xnm0 (by decide)) ?_
                  refine xg_t (xg_blk (b := [(102, 1, 3, 4294967295, 0, 0), (103, 1, 12, 0, 1, 0)]) rfl) ?_
                  refine xg_t (xg_const) ?_
                  have hq236 : rwv w 83 10 = g83_33 10 := rwv_of h83_34 (by decide)
                  have hq237 : g83_33 10 ≤ 12 := hx36.l10
                  have hq238 : rwv w 83 10 = g83_33 10 := rwv_of h83_34 (by decide)
                  have hq239 : rwv w 83 5 = g83_33 5 := rwv_of h83_34 (by decide)
                  have hq240 : g83_33 5 ≤ 6 := hx36.l5
                  have hq241 : rwv w 83 5 = g83_33 5 := rwv_of h83_34 (by decide)
                  have hq242 : rwv w 83 6 = g83_33 6 := rwv_of h83_34 (by decide)
                  have hq243 : g83_33 6 ≤ 6 := hx36.l6
                  have hq244 : rwv w 83 6 = g83_33 6 := rwv_of h83_34 (by decide)
                  exact xg_e ⟨4294967295, w, ⟨rfl, rfl⟩, ⟨by omega, fun h => absurd h (by omega), fun j _ h => (rwv_of h83_34 h).trans (rwv_of h83_34 h).symm⟩, hI, xFr.rf⟩
              · refine xg_t (xg_ifT (u := (if 0 ≤ pc_ ∧ pc_ ≤ u63 - 1 then 1 else 0)) rfl xnm0 (xj_eqT (xite0 hc68))) ?_
                refine xg_t (xg_blk (b := [(102, 1, 3, 4294967295, 0, 0), (103, 1, 12, 0, 1, 0)]) rfl) ?_
                refine xg_t (xg_const) ?_
                have hq245 : rwv w 83 10 = g83_33 10 := rwv_of h83_34 (by decide)
                have hq246 : g83_33 10 ≤ 12 := hx36.l10
                have hq247 : rwv w 83 10 = g83_33 10 := rwv_of h83_34 (by decide)
                have hq248 : rwv w 83 5 = g83_33 5 := rwv_of h83_34 (by decide)
                have hq249 : g83_33 5 ≤ 6 := hx36.l5
                have hq250 : rwv w 83 5 = g83_33 5 := rwv_of h83_34 (by decide)
                have hq251 : rwv w 83 6 = g83_33 6 := rwv_of h83_34 (by decide)
                have hq252 : g83_33 6 ≤ 6 := hx36.l6
                have hq253 : rwv w 83 6 = g83_33 6 := rwv_of h83_34 (by decide)
                exact xg_e ⟨4294967295, w, ⟨rfl, rfl⟩, ⟨by omega, fun h => absurd h (by omega), fun j _ h => (rwv_of h83_34 h).trans (rwv_of h83_34 h).symm⟩, hI, xFr.rf⟩
            · have hz256 : 4294967295 ≤ (u63 + (4294967296 - 1)) % 4294967296 := by omega
              refine xg_t (xg_isub (u := u63) (v := 1) (z := (u63 + (4294967296 - 1)) % 4294967296) xnm0 xnm0 rfl) ?_
              have hz255 : (u63 + (4294967296 - 1)) % 4294967296 < 4294967296 := Nat.mod_lt _ (by decide)
              generalize (u63 + (4294967296 - 1)) % 4294967296 = z254 at hz256 hz255 ⊢
              refine xg_t (xg_cSr mX12_isIn (vs := [(0, pc_), (0, 0), (0, z254)]) (rest := []) (rs := [(0, 0)]) (cn1 := 0) (sl1 := 0) rfl (mIsInN (by omega) (by omega) (by omega) (by omega)) rfl rfl rfl rfl rfl rfl rfl rfl) ?_
              refine xg_t (xg_ifT (u := 0) rfl xnm0 (by decide)) ?_
              refine xg_t (xg_blk (b := [(102, 1, 3, 4294967295, 0, 0), (103, 1, 12, 0, 1, 0)]) rfl) ?_
              refine xg_t (xg_const) ?_
              have hq257 : rwv w 83 10 = g83_33 10 := rwv_of h83_34 (by decide)
              have hq258 : g83_33 10 ≤ 12 := hx36.l10
              have hq259 : rwv w 83 10 = g83_33 10 := rwv_of h83_34 (by decide)
              have hq260 : rwv w 83 5 = g83_33 5 := rwv_of h83_34 (by decide)
              have hq261 : g83_33 5 ≤ 6 := hx36.l5
              have hq262 : rwv w 83 5 = g83_33 5 := rwv_of h83_34 (by decide)
              have hq263 : rwv w 83 6 = g83_33 6 := rwv_of h83_34 (by decide)
              have hq264 : g83_33 6 ≤ 6 := hx36.l6
              have hq265 : rwv w 83 6 = g83_33 6 := rwv_of h83_34 (by decide)
              exact xg_e ⟨4294967295, w, ⟨rfl, rfl⟩, ⟨by omega, fun h => absurd h (by omega), fun j _ h => (rwv_of h83_34 h).trans (rwv_of h83_34 h).symm⟩, hI, xFr.rf⟩
          · refine xg_t (xg_ifT (u := (if pa ≤ pb ∧ pb ≤ u57 - 1 then 1 else 0)) rfl xnm0 (xj_eqT (xite0 hc62))) ?_
            refine xg_t (xg_blk (b := [(102, 1, 3, 4294967295, 0, 0), (103, 1, 12, 0, 1, 0)]) rfl) ?_
            refine xg_t (xg_const) ?_
            have hq266 : rwv w 83 10 = g83_33 10 := rwv_of h83_34 (by decide)
            have hq267 : g83_33 10 ≤ 12 := hx36.l10
            have hq268 : rwv w 83 10 = g83_33 10 := rwv_of h83_34 (by decide)
            have hq269 : rwv w 83 5 = g83_33 5 := rwv_of h83_34 (by decide)
            have hq270 : g83_33 5 ≤ 6 := hx36.l5
            have hq271 : rwv w 83 5 = g83_33 5 := rwv_of h83_34 (by decide)
            have hq272 : rwv w 83 6 = g83_33 6 := rwv_of h83_34 (by decide)
            have hq273 : g83_33 6 ≤ 6 := hx36.l6
            have hq274 : rwv w 83 6 = g83_33 6 := rwv_of h83_34 (by decide)
            exact xg_e ⟨4294967295, w, ⟨rfl, rfl⟩, ⟨by omega, fun h => absurd h (by omega), fun j _ h => (rwv_of h83_34 h).trans (rwv_of h83_34 h).symm⟩, hI, xFr.rf⟩
        · have hz277 : 4294967295 ≤ (u57 + (4294967296 - 1)) % 4294967296 := by omega
          refine xg_t (xg_isub (u := u57) (v := 1) (z := (u57 + (4294967296 - 1)) % 4294967296) xnm0 xnm0 rfl) ?_
          have hz276 : (u57 + (4294967296 - 1)) % 4294967296 < 4294967296 := Nat.mod_lt _ (by decide)
          generalize (u57 + (4294967296 - 1)) % 4294967296 = z275 at hz277 hz276 ⊢
          refine xg_t (xg_cSr mX12_isIn (vs := [(0, pb), (0, pa), (0, z275)]) (rest := []) (rs := [(0, 0)]) (cn1 := 0) (sl1 := 0) rfl (mIsInN (by omega) (by omega) (by omega) (by omega)) rfl rfl rfl rfl rfl rfl rfl rfl) ?_
          refine xg_t (xg_ifT (u := 0) rfl xnm0 (by decide)) ?_
          refine xg_t (xg_blk (b := [(102, 1, 3, 4294967295, 0, 0), (103, 1, 12, 0, 1, 0)]) rfl) ?_
          refine xg_t (xg_const) ?_
          have hq278 : rwv w 83 10 = g83_33 10 := rwv_of h83_34 (by decide)
          have hq279 : g83_33 10 ≤ 12 := hx36.l10
          have hq280 : rwv w 83 10 = g83_33 10 := rwv_of h83_34 (by decide)
          have hq281 : rwv w 83 5 = g83_33 5 := rwv_of h83_34 (by decide)
          have hq282 : g83_33 5 ≤ 6 := hx36.l5
          have hq283 : rwv w 83 5 = g83_33 5 := rwv_of h83_34 (by decide)
          have hq284 : rwv w 83 6 = g83_33 6 := rwv_of h83_34 (by decide)
          have hq285 : g83_33 6 ≤ 6 := hx36.l6
          have hq286 : rwv w 83 6 = g83_33 6 := rwv_of h83_34 (by decide)
          exact xg_e ⟨4294967295, w, ⟨rfl, rfl⟩, ⟨by omega, fun h => absurd h (by omega), fun j _ h => (rwv_of h83_34 h).trans (rwv_of h83_34 h).symm⟩, hI, xFr.rf⟩
      · refine xg_t (xg_ifT (u := (if 0 ≤ pa ∧ pa ≤ u51 - 1 then 1 else 0)) rfl xnm0 (xj_eqT (xite0 hc56))) ?_
        refine xg_t (xg_blk (b := [(102, 1, 3, 4294967295, 0, 0), (103, 1, 12, 0, 1, 0)]) rfl) ?_
        refine xg_t (xg_const) ?_
        have hq287 : rwv w 83 10 = g83_33 10 := rwv_of h83_34 (by decide)
        have hq288 : g83_33 10 ≤ 12 := hx36.l10
        have hq289 : rwv w 83 10 = g83_33 10 := rwv_of h83_34 (by decide)
        have hq290 : rwv w 83 5 = g83_33 5 := rwv_of h83_34 (by decide)
        have hq291 : g83_33 5 ≤ 6 := hx36.l5
        have hq292 : rwv w 83 5 = g83_33 5 := rwv_of h83_34 (by decide)
        have hq293 : rwv w 83 6 = g83_33 6 := rwv_of h83_34 (by decide)
        have hq294 : g83_33 6 ≤ 6 := hx36.l6
        have hq295 : rwv w 83 6 = g83_33 6 := rwv_of h83_34 (by decide)
        exact xg_e ⟨4294967295, w, ⟨rfl, rfl⟩, ⟨by omega, fun h => absurd h (by omega), fun j _ h => (rwv_of h83_34 h).trans (rwv_of h83_34 h).symm⟩, hI, xFr.rf⟩
    · have hz298 : 4294967295 ≤ (u51 + (4294967296 - 1)) % 4294967296 := by omega
      refine xg_t (xg_isub (u := u51) (v := 1) (z := (u51 + (4294967296 - 1)) % 4294967296) xnm0 xnm0 rfl) ?_
      have hz297 : (u51 + (4294967296 - 1)) % 4294967296 < 4294967296 := Nat.mod_lt _ (by decide)
      generalize (u51 + (4294967296 - 1)) % 4294967296 = z296 at hz298 hz297 ⊢
      refine xg_t (xg_cSr mX12_isIn (vs := [(0, pa), (0, 0), (0, z296)]) (rest := []) (rs := [(0, 0)]) (cn1 := 0) (sl1 := 0) rfl (mIsInN (by omega) (by omega) (by omega) (by omega)) rfl rfl rfl rfl rfl rfl rfl rfl) ?_
      refine xg_t (xg_ifT (u := 0) rfl xnm0 (by decide)) ?_
      refine xg_t (xg_blk (b := [(102, 1, 3, 4294967295, 0, 0), (103, 1, 12, 0, 1, 0)]) rfl) ?_
      refine xg_t (xg_const) ?_
      have hq299 : rwv w 83 10 = g83_33 10 := rwv_of h83_34 (by decide)
      have hq300 : g83_33 10 ≤ 12 := hx36.l10
      have hq301 : rwv w 83 10 = g83_33 10 := rwv_of h83_34 (by decide)
      have hq302 : rwv w 83 5 = g83_33 5 := rwv_of h83_34 (by decide)
      have hq303 : g83_33 5 ≤ 6 := hx36.l5
      have hq304 : rwv w 83 5 = g83_33 5 := rwv_of h83_34 (by decide)
      have hq305 : rwv w 83 6 = g83_33 6 := rwv_of h83_34 (by decide)
      have hq306 : g83_33 6 ≤ 6 := hx36.l6
      have hq307 : rwv w 83 6 = g83_33 6 := rwv_of h83_34 (by decide)
      exact xg_e ⟨4294967295, w, ⟨rfl, rfl⟩, ⟨by omega, fun h => absurd h (by omega), fun j _ h => (rwv_of h83_34 h).trans (rwv_of h83_34 h).symm⟩, hI, xFr.rf⟩
theorem mHandY {fi fo ro : Nat} (hI : xMnv w) (hfi : fi ≤ 4294967295) (hfo : fo ≤ 4294967295) (hro : ro ≤ 4294967295) : xPi (d + 2) mX12_hand [(2, 82), (0, fi), (0, fo), (0, ro)] w bd fc rr (fun n w' => (((n = rwv w 83 900 ∧ rwv w 83 900 < 4 ∧ ((1 ≤ fi ∧ fi ≤ 999) ∧ (1 ≤ fo ∧ fo ≤ 999) ∧ (1 ≤ ro ∧ ro ≤ 9999)) ∧ rwv w' 83 900 = rwv w 83 900 + 1) ∨ (n = 4294967295 ∧ ¬ (rwv w 83 900 < 4 ∧ ((1 ≤ fi ∧ fi ≤ 999) ∧ (1 ≤ fo ∧ fo ≤ 999) ∧ (1 ≤ ro ∧ ro ≤ 9999))) ∧ rwv w' 83 900 = rwv w 83 900)) ∧ (n ≠ 4294967295 → rwv w' 83 (950 + 3 * rwv w 83 900) = fi ∧ rwv w' 83 (950 + 3 * rwv w 83 900 + 1) = fo ∧ rwv w' 83 (950 + 3 * rwv w 83 900 + 2) = ro) ∧ (∀ j, (j ≠ 900 ∧ (j < 950 + 3 * rwv w 83 900 ∨ 953 + 3 * rwv w 83 900 ≤ j)) → j < 5360 → rwv w' 83 j = rwv w 83 j)) ∧ xMnv w' ∧ xFr [83] w w') := by
  refine xPi.of ?_
  show xTo (d + 2) mX12_hand (0, [], [(0, (2, 82)), (1, (0, fi)), (2, (0, fo)), (3, (0, ro))], [], (w, bd, fc, 0, 0, rr)) (fun φ => ∃ n w', xEnd 1 [(0, n)] (w', bd, fc, 0, 0, rr) φ ∧ (((n = rwv w 83 900 ∧ rwv w 83 900 < 4 ∧ ((1 ≤ fi ∧ fi ≤ 999) ∧ (1 ≤ fo ∧ fo ≤ 999) ∧ (1 ≤ ro ∧ ro ≤ 9999)) ∧ rwv w' 83 900 = rwv w 83 900 + 1) ∨ (n = 4294967295 ∧ ¬ (rwv w 83 900 < 4 ∧ ((1 ≤ fi ∧ fi ≤ 999) ∧ (1 ≤ fo ∧ fo ≤ 999) ∧ (1 ≤ ro ∧ ro ≤ 9999))) ∧ rwv w' 83 900 = rwv w 83 900)) ∧ (n ≠ 4294967295 → rwv w' 83 (950 + 3 * rwv w 83 900) = fi ∧ rwv w' 83 (950 + 3 * rwv w 83 900 + 1) = fo ∧ rwv w' 83 (950 + 3 * rwv w 83 900 + 2) = ro) ∧ (∀ j, (j ≠ 900 ∧ (j < 950 + 3 * rwv w 83 900 ∨ 953 + 3 * rwv w 83 900 ≤ j)) → j < 5360 → rwv w' 83 j = rwv w 83 j)) ∧ xMnv w' ∧ xFr [83] w w')
  obtain ⟨f82_1, f82_3, f82_5, f82_7, f82_9, f82_11, f82_13, f82_15, f82_17, f82_19, f82_21, f82_22, f82_23, f82_25, f82_27, f82_29, h82_31, hb2, hb4, hb6, hb8, hb10, hb12, hb14, hb16, hb18, hb20, hb24, hb26, hb28, hb30, hb32⟩ := (hI 82 (by decide) (by decide) : cp82 (wget w 82))
  replace hb4 := xHid.of hb4
  replace hb10 := xHid.of hb10
  replace hb14 := xHid.of hb14
  replace hb16 := xHid.of hb16
  replace hb20 := xHid.of hb20
  replace hb24 := xHid.of hb24
  replace hb26 := xHid.of hb26
  replace hb28 := xHid.of hb28
  replace hb30 := xHid.of hb30
  obtain ⟨g83_33, h83_34, hb35, hx36⟩ := (hI 83 (by decide) (by decide) : cpx83 (wget w 83))
  have h83_34 : xRow w 83 5360 50 g83_33 := h83_34
  refine xg_t (xg_blk (b := [(0, 1, 0, 0, 0, 0), (1, 3, 1, 12, 0, 7), (4, 3, 5, 900, 0, 0), (7, 1, 10, 0, 0, 0), (8, 1, 3, 4, 0, 0), (9, 3, 6, 42, 0, 0), (12, 1, 2, 1, 0, 0), (13, 1, 3, 1, 0, 0), (14, 3, 5, 999, 0, 0), (17, 3, 13, 161, 98, 105), (20, 3, 7, 42, 0, 0), (23, 1, 2, 2, 0, 0), (24, 1, 3, 1, 0, 0), (25, 3, 5, 999, 0, 0), (28, 3, 13, 161, 98, 105), (31, 3, 7, 42, 0, 0), (34, 1, 0, 0, 0, 0), (35, 1, 2, 3, 0, 0), (36, 3, 13, 171, 96, 247), (39, 3, 7, 44, 1, 0)]) rfl) ?_
  refine xg_t (xg_aload (va := (2, 82)) rfl rfl) ?_
  refine xg_t (xg_getf (va := (2, 83)) h82_31 rfl) ?_
  refine xg_t (xg_sip) ?_
  refine xg_ialdB (n := 900) (B := 4294967295) h83_34 (hb35) xnm0 (by omega) (fun u37 hu38 he39 => ?_)
  have hl40 : u37 ≤ 4 := by rw [← he39]; exact hx36.l900
  refine xg_t (xg_const) ?_
  by_cases hc41 : u37 = 4
  · refine xg_t (xg_icT (u := u37) (v := 4) rfl xnm0 xnm0 (xj_eqT hc41)) ?_
    refine xg_t (xg_blk (b := [(42, 1, 3, 4294967295, 0, 0), (43, 1, 12, 0, 1, 0)]) rfl) ?_
    refine xg_t (xg_const) ?_
    have hq42 : rwv w 83 900 = g83_33 900 := rwv_of h83_34 (by decide)
    have hq43 : g83_33 900 ≤ 4 := hx36.l900
    have hq44 : rwv w 83 900 = g83_33 900 := rwv_of h83_34 (by decide)
    exact xg_e ⟨4294967295, w, ⟨rfl, rfl⟩, ⟨by omega, fun h => absurd h (by omega), fun j _ h => (rwv_of h83_34 h).trans (rwv_of h83_34 h).symm⟩, hI, xFr.rf⟩
  · refine xg_t (xg_icF (u := u37) (v := 4) rfl xnm0 xnm0 (xj_eqF hc41)) ?_
    refine xg_t (xg_iload (va := (0, fi)) rfl rfl) ?_
    refine xg_t (xg_const) ?_
    refine xg_t (xg_sip) ?_
    refine xg_t (xg_cSr mX12_isIn (vs := [(0, fi), (0, 1), (0, 999)]) (rest := []) (rs := [(0, if 1 ≤ fi ∧ fi ≤ 999 then 1 else 0)]) (cn1 := 0) (sl1 := 0) rfl (mIsIn (by omega) (by omega) (by omega)) rfl rfl rfl rfl rfl rfl rfl rfl) ?_
    by_cases hc45 : 1 ≤ fi ∧ fi ≤ 999
    · refine xg_t (xg_ifF (u := (if 1 ≤ fi ∧ fi ≤ 999 then 1 else 0)) rfl xnm0 (xj_eqF (xite1 hc45))) ?_
      refine xg_t (xg_iload (va := (0, fo)) rfl rfl) ?_
      refine xg_t (xg_const) ?_
      refine xg_t (xg_sip) ?_
      refine xg_t (xg_cSr mX12_isIn (vs := [(0, fo), (0, 1), (0, 999)]) (rest := []) (rs := [(0, if 1 ≤ fo ∧ fo ≤ 999 then 1 else 0)]) (cn1 := 0) (sl1 := 0) rfl (mIsIn (by omega) (by omega) (by omega)) rfl rfl rfl rfl rfl rfl rfl rfl) ?_
      by_cases hc46 : 1 ≤ fo ∧ fo ≤ 999
      · refine xg_t (xg_ifF (u := (if 1 ≤ fo ∧ fo ≤ 999 then 1 else 0)) rfl xnm0 (xj_eqF (xite1 hc46))) ?_
        refine xg_t (xg_aload (va := (2, 82)) rfl rfl) ?_
        refine xg_t (xg_iload (va := (0, ro)) rfl rfl) ?_
        refine xg_cVi mX12_isRound (vs := [(0, ro)]) (rest := []) (cn1 := 0) (sl1 := 0) rfl (mIsRoundX (hI) (by omega)) rfl h82_31 rfl rfl rfl rfl rfl rfl (fun n51 w47 hq48 => ?_)
        obtain ⟨hn52, hI49, hF50⟩ := hq48
        by_cases hc53 : n51 = 0
        · refine xg_t (xg_ifF (u := n51) rfl xnm0 (xj_neF hc53)) ?_
          refine xg_t (xg_blk (b := [(42, 1, 3, 4294967295, 0, 0), (43, 1, 12, 0, 1, 0)]) rfl) ?_
          refine xg_t (xg_const) ?_
          have hq54 : rwv w 83 900 = g83_33 900 := rwv_of h83_34 (by decide)
          have hq55 : g83_33 900 ≤ 4 := hx36.l900
          have hq56 : rwv w47 83 900 = g83_33 900 := rwv_of (h83_34.fr hF50 (by decide)) (by decide)
          exact xg_e ⟨4294967295, w47, ⟨rfl, rfl⟩, ⟨by omega, fun h => absurd h (by omega), fun j _ h => (rwv_of (h83_34.fr hF50 (by decide)) h).trans (rwv_of h83_34 h).symm⟩, hI49, (hF50.up (by decide))⟩
        · refine xg_t (xg_ifT (u := n51) rfl xnm0 (xj_neT hc53)) ?_
          refine xg_t (xg_blk (b := [(44, 3, 5, 950, 0, 0), (47, 1, 3, 3, 0, 0), (48, 1, 0, 0, 0, 0), (49, 3, 1, 12, 0, 7), (52, 3, 5, 900, 0, 0), (55, 1, 10, 0, 0, 0), (56, 1, 16, 0, 0, 0), (57, 1, 11, 0, 0, 0), (58, 2, 15, 4, 0, 0), (60, 1, 0, 0, 0, 0), (61, 3, 1, 12, 0, 7), (64, 2, 2, 4, 0, 0), (66, 1, 2, 1, 0, 0), (67, 1, 17, 0, 0, 0), (68, 1, 0, 0, 0, 0), (69, 3, 1, 12, 0, 7), (72, 2, 2, 4, 0, 0), (74, 1, 3, 1, 0, 0), (75, 1, 11, 0, 0, 0), (76, 1, 2, 2, 0, 0), (77, 1, 17, 0, 0, 0), (78, 1, 0, 0, 0, 0), (79, 3, 1, 12, 0, 7), (82, 2, 2, 4, 0, 0), (84, 1, 3, 2, 0, 0), (85, 1, 11, 0, 0, 0), (86, 1, 2, 3, 0, 0), (87, 1, 17, 0, 0, 0), (88, 1, 0, 0, 0, 0), (89, 3, 1, 12, 0, 7), (92, 3, 5, 900, 0, 0), (95, 1, 39, 0, 0, 0), (96, 1, 10, 0, 0, 0), (97, 1, 3, 1, 0, 0), (98, 1, 11, 0, 0, 0), (99, 1, 17, 0, 0, 0), (100, 1, 0, 0, 0, 0), (101, 3, 1, 12, 0, 7), (104, 3, 5, 900, 0, 0), (107, 1, 10, 0, 0, 0), (108, 1, 3, 1, 0, 0), (109, 1, 18, 0, 0, 0), (110, 1, 12, 0, 1, 0)]) rfl) ?_
          refine xg_t (xg_sip) ?_
          refine xg_t (xg_const) ?_
          refine xg_t (xg_aload (va := (2, 82)) rfl rfl) ?_
          refine xg_t (xg_getf (va := (2, 83)) (hF50.get (by decide) h82_31) rfl) ?_
          refine xg_t (xg_sip) ?_
          refine xg_ialdB (n := 900) (B := 4294967295) (h83_34.fr hF50 (by decide)) (hb35) xnm0 (by omega) (fun u57 hu58 he59 => ?_)
          have hl60 : u57 ≤ 4 := by rw [← he59]; exact hx36.l900
          refine xg_t (xg_imul (u := 3) (v := u57) (z := 3 * u57) xnm0 xnm0 (by omega)) ?_
          refine xg_t (xg_iadd (u := 950) (v := 3 * u57) (z := 950 + (3 * u57)) xnm0 xnm0 (by omega)) ?_
          refine xg_t (xg_istore (l1 := [(0, (2, 82)), (1, (0, fi)), (2, (0, fo)), (3, (0, ro))]) rfl rfl rfl) ?_
          refine xg_t (xg_aload (va := (2, 82)) rfl rfl) ?_
          refine xg_t (xg_getf (va := (2, 83)) (hF50.get (by decide) h82_31) rfl) ?_
          refine xg_t (xg_iload (va := (0, 950 + (3 * u57))) rfl rfl) ?_
          refine xg_t (xg_iload (va := (0, fi)) rfl rfl) ?_
          refine xg_iastK (n := 950 + (3 * u57)) (u := fi) (h83_34.fr hF50 (by decide)) xnm0 xnm0 rfl (by omega) (fun w61 hr62 hb63 => ?_)
          have hx64 : okA (fun j => if j = 950 + (3 * u57) then fi else g83_33 j) := hx36.upd (by omega) (by omega) (by omega) (fun _ => by omega) (by omega) (fun _ => by omega) (fun _ => by omega) (fun _ => by omega) (fun _ => by omega) (by omega) (fun _ _ => by omega)
          have hb65 : ∀ j, (fun j => if j = 950 + (3 * u57) then fi else g83_33 j) j ≤ 4294967295 := xrb (by omega) (hb35)
          obtain ⟨g66, hg67⟩ : ∃ g : Nat → Nat, g = (fun j => if j = 950 + (3 * u57) then fi else g83_33 j) := ⟨_, rfl⟩
          rw [← hg67] at hr62
          have he68 : g66 (950 + (3 * u57)) = fi := by rw [hg67]; exact if_pos rfl
          have hk69 : ∀ j, j ≠ 950 + (3 * u57) → g66 j = g83_33 j := fun j hj => by rw [hg67]; exact if_neg hj
          rw [← hg67] at hx64
          rw [← hg67] at hb65
          have hk70 : g66 900 = g83_33 900 := hk69 900 (by omega)
          refine xg_t (xg_aload (va := (2, 82)) rfl rfl) ?_
          refine xg_t (xg_getf (va := (2, 83)) (hb63.get (by decide) (hF50.get (by decide) h82_31)) rfl) ?_
          refine xg_t (xg_iload (va := (0, 950 + (3 * u57))) rfl rfl) ?_
          refine xg_t (xg_const) ?_
          refine xg_t (xg_iadd (u := 950 + (3 * u57)) (v := 1) (z := (950 + (3 * u57)) + 1) xnm0 xnm0 (by omega)) ?_
          refine xg_t (xg_iload (va := (0, fo)) rfl rfl) ?_
          refine xg_iastK (n := (950 + (3 * u57)) + 1) (u := fo) hr62 xnm0 xnm0 rfl (by omega) (fun w71 hr72 hb73 => ?_)
          have hx74 : okA (fun j => if j = (950 + (3 * u57)) + 1 then fo else g66 j) := hx64.upd (by omega) (by omega) (by omega) (fun _ => by omega) (by omega) (fun _ => by omega) (fun _ => by omega) (fun _ => by omega) (fun _ => by omega) (by omega) (fun _ _ => by omega)
          have hb75 : ∀ j, (fun j => if j = (950 + (3 * u57)) + 1 then fo else g66 j) j ≤ 4294967295 := xrb (by omega) (hb65)
          obtain ⟨g76, hg77⟩ : ∃ g : Nat → Nat, g = (fun j => if j = (950 + (3 * u57)) + 1 then fo else g66 j) := ⟨_, rfl⟩
          rw [← hg77] at hr72
          have he78 : g76 ((950 + (3 * u57)) + 1) = fo := by rw [hg77]; exact if_pos rfl
          have hk79 : ∀ j, j ≠ (950 + (3 * u57)) + 1 → g76 j = g66 j := fun j hj => by rw [hg77]; exact if_neg hj
          rw [← hg77] at hx74
          rw [← hg77] at hb75
          have hk80 : g76 900 = g66 900 := hk79 900 (by omega)
          refine xg_t (xg_aload (va := (2, 82)) rfl rfl) ?_
          refine xg_t (xg_getf (va := (2, 83)) (hb73.get (by decide) (hb63.get (by decide) (hF50.get (by decide) h82_31))) rfl) ?_
          refine xg_t (xg_iload (va := (0, 950 + (3 * u57))) rfl rfl) ?_
          refine xg_t (xg_const) ?_
          refine xg_t (xg_iadd (u := 950 + (3 * u57)) (v := 2) (z := (950 + (3 * u57)) + 2) xnm0 xnm0 (by omega)) ?_
          refine xg_t (xg_iload (va := (0, ro)) rfl rfl) ?_
          refine xg_iastK (n := (950 + (3 * u57)) + 2) (u := ro) hr72 xnm0 xnm0 rfl (by omega) (fun w81 hr82 hb83 => ?_)
          have hx84 : okA (fun j => if j = (950 + (3 * u57)) + 2 then ro else g76 j) := hx74.upd (by omega) (by omega) (by omega) (fun _ => by omega) (by omega) (fun _ => by omega) (fun _ => by omega) (fun _ => by omega) (fun _ => by omega) (by omega) (fun _ _ => by omega)
          have hb85 : ∀ j, (fun j => if j = (950 + (3 * u57)) + 2 then ro else g76 j) j ≤ 4294967295 := xrb (by omega) (hb75)
          obtain ⟨g86, hg87⟩ : ∃ g : Nat → Nat, g = (fun j => if j = (950 + (3 * u57)) + 2 then ro else g76 j) := ⟨_, rfl⟩
          rw [← hg87] at hr82
          have he88 : g86 ((950 + (3 * u57)) + 2) = ro := by rw [hg87]; exact if_pos rfl
          have hk89 : ∀ j, j ≠ (950 + (3 * u57)) + 2 → g86 j = g76 j := fun j hj => by rw [hg87]; exact if_neg hj
          rw [← hg87] at hx84
          rw [← hg87] at hb85
          have hk90 : g86 900 = g76 900 := hk89 900 (by omega)
          refine xg_t (xg_aload (va := (2, 82)) rfl rfl) ?_
          refine xg_t (xg_getf (va := (2, 83)) (hb83.get (by decide) (hb73.get (by decide) (hb63.get (by decide) (hF50.get (by decide) h82_31)))) rfl) ?_
          refine xg_t (xg_sip) ?_
          refine xg_t (xg_dup2 rfl) ?_
          refine xg_ialdB (n := 900) (B := 4294967295) hr82 (hb85) xnm0 (by omega) (fun u91 hu92 he93 => ?_)
          have hl94 : u91 ≤ 4 := by rw [← he93]; exact hx84.l900
          refine xg_t (xg_const) ?_
          refine xg_t (xg_iadd (u := u91) (v := 1) (z := u91 + 1) xnm0 xnm0 (by omega)) ?_
          refine xg_iastK (n := 900) (u := u91 + 1) hr82 xnm0 xnm0 rfl (by omega) (fun w95 hr96 hb97 => ?_)
          have hx98 : okA (fun j => if j = 900 then u91 + 1 else g86 j) := hx84.upd (by omega) (by omega) (by omega) (fun _ => by omega) (by omega) (fun _ => by omega) (fun _ => by omega) (fun _ => by omega) (fun _ => by omega) (by omega) (fun _ _ => by omega)
          have hb99 : ∀ j, (fun j => if j = 900 then u91 + 1 else g86 j) j ≤ 4294967295 := xrb (by omega) (hb85)
          obtain ⟨g100, hg101⟩ : ∃ g : Nat → Nat, g = (fun j => if j = 900 then u91 + 1 else g86 j) := ⟨_, rfl⟩
          rw [← hg101] at hr96
          have he102 : g100 900 = u91 + 1 := by rw [hg101]; exact if_pos rfl
          have hk103 : ∀ j, j ≠ 900 → g100 j = g86 j := fun j hj => by rw [hg101]; exact if_neg hj
          rw [← hg101] at hx98
          rw [← hg101] at hb99
          refine xg_t (xg_aload (va := (2, 82)) rfl rfl) ?_
          refine xg_t (xg_getf (va := (2, 83)) (hb97.get (by decide) (hb83.get (by decide) (hb73.get (by decide) (hb63.get (by decide) (hF50.get (by decide) h82_31))))) rfl) ?_
          refine xg_t (xg_sip) ?_
          refine xg_ialdB (n := 900) (B := 4294967295) hr96 (hb99) xnm0 (by omega) (fun u104 hu105 he106 => ?_)
          have hl107 : u104 ≤ 4 := by rw [← he106]; exact hx98.l900
          refine xg_t (xg_const) ?_
          by_cases hc108 : 1 ≤ u104
          · refine xg_t (xg_isub (u := u104) (v := 1) (z := u104 - 1) xnm0 xnm0 (by omega)) ?_
            have hq109 : rwv w 83 900 = g83_33 900 := rwv_of h83_34 (by decide)
            have hq110 : g83_33 900 ≤ 4 := hx36.l900
            have hq111 : g66 900 = g83_33 900 := hk69 900 (by omega)
            have hq112 : g76 900 = g66 900 := hk79 900 (by omega)
            have hq113 : g86 900 = g76 900 := hk89 900 (by omega)
            have hq114 : g100 900 = u91 + 1 := he102
            have hq115 : rwv w95 83 900 = g100 900 := rwv_of hr96 (by decide)
            have hq117 : 950 + 3 * rwv w 83 900 = 950 + (3 * u57) := by omega
            have hq116 : rwv w95 83 (950 + 3 * rwv w 83 900) = fi := by
              rw [hq117, rwv_of hr96 (by omega), hk103 _ (by omega), hk89 _ (by omega), hk79 _ (by omega), he68]
            have hq119 : 950 + 3 * rwv w 83 900 + 1 = (950 + (3 * u57)) + 1 := by omega
            have hq118 : rwv w95 83 (950 + 3 * rwv w 83 900 + 1) = fo := by
              rw [hq119, rwv_of hr96 (by omega), hk103 _ (by omega), hk89 _ (by omega), he78]
            have hq121 : 950 + 3 * rwv w 83 900 + 2 = (950 + (3 * u57)) + 2 := by omega
            have hq120 : rwv w95 83 (950 + 3 * rwv w 83 900 + 2) = ro := by
              rw [hq121, rwv_of hr96 (by omega), hk103 _ (by omega), he88]
            exact xg_e ⟨u104 - 1, w95, ⟨rfl, rfl⟩, ⟨by omega, fun _ => ⟨hq116, hq118, hq120⟩, fun j hj h => (rwv_of hr96 h).trans (Eq.trans (by rw [hk103 j (by omega), hk89 j (by omega), hk79 j (by omega), hk69 j (by omega)]) (rwv_of h83_34 h).symm)⟩, xMnv.up (S := [83]) hI49 ((((xFr.of (S := [83]) hb63 (by decide)).tr (xFr.of (S := [83]) hb73 (by decide))).tr (xFr.of (S := [83]) hb83 (by decide))).tr (xFr.of (S := [83]) hb97 (by decide))) (List.forall_mem_cons.mpr ⟨(show cpx83 (wget w95 83) from ⟨_, hr96, hb99, hx98⟩), fun _ h => absurd h List.not_mem_nil⟩), ((hF50.up (by decide)).tr ((((xFr.of (S := [83]) hb63 (by decide)).tr (xFr.of (S := [83]) hb73 (by decide))).tr (xFr.of (S := [83]) hb83 (by decide))).tr (xFr.of (S := [83]) hb97 (by decide))))⟩
          · have hz124 : 4294967295 ≤ (u104 + (4294967296 - 1)) % 4294967296 := by omega
            refine xg_t (xg_isub (u := u104) (v := 1) (z := (u104 + (4294967296 - 1)) % 4294967296) xnm0 xnm0 rfl) ?_
            have hz123 : (u104 + (4294967296 - 1)) % 4294967296 < 4294967296 := Nat.mod_lt _ (by decide)
            generalize (u104 + (4294967296 - 1)) % 4294967296 = z122 at hz124 hz123 ⊢
            have hq125 : rwv w 83 900 = g83_33 900 := rwv_of h83_34 (by decide)
            have hq126 : g83_33 900 ≤ 4 := hx36.l900
            have hq127 : g66 900 = g83_33 900 := hk69 900 (by omega)
            have hq128 : g76 900 = g66 900 := hk79 900 (by omega)
            have hq129 : g86 900 = g76 900 := hk89 900 (by omega)
            have hq130 : g100 900 = u91 + 1 := he102
            have hq131 : rwv w95 83 900 = g100 900 := rwv_of hr96 (by decide)
            have hq133 : 950 + 3 * rwv w 83 900 = 950 + (3 * u57) := by omega
            have hq132 : rwv w95 83 (950 + 3 * rwv w 83 900) = fi := by
              rw [hq133, rwv_of hr96 (by omega), hk103 _ (by omega), hk89 _ (by omega), hk79 _ (by omega), he68]
            have hq135 : 950 + 3 * rwv w 83 900 + 1 = (950 + (3 * u57)) + 1 := by omega
            have hq134 : rwv w95 83 (950 + 3 * rwv w 83 900 + 1) = fo := by
              rw [hq135, rwv_of hr96 (by omega), hk103 _ (by omega), hk89 _ (by omega), he78]
            have hq137 : 950 + 3 * rwv w 83 900 + 2 = (950 + (3 * u57)) + 2 := by omega
            have hq136 : rwv w95 83 (950 + 3 * rwv w 83 900 + 2) = ro := by
              rw [hq137, rwv_of hr96 (by omega), hk103 _ (by omega), he88]
            exact xg_e ⟨z122, w95, ⟨rfl, rfl⟩, ⟨by omega, fun _ => ⟨hq132, hq134, hq136⟩, fun j hj h => (rwv_of hr96 h).trans (Eq.trans (by rw [hk103 j (by omega), hk89 j (by omega), hk79 j (by omega), hk69 j (by omega)]) (rwv_of h83_34 h).symm)⟩, xMnv.up (S := [83]) hI49 ((((xFr.of (S := [83]) hb63 (by decide)).tr (xFr.of (S := [83]) hb73 (by decide))).tr (xFr.of (S := [83]) hb83 (by decide))).tr (xFr.of (S := [83]) hb97 (by decide))) (List.forall_mem_cons.mpr ⟨(show cpx83 (wget w95 83) from ⟨_, hr96, hb99, hx98⟩), fun _ h => absurd h List.not_mem_nil⟩), ((hF50.up (by decide)).tr ((((xFr.of (S := [83]) hb63 (by decide)).tr (xFr.of (S := [83]) hb73 (by decide))).tr (xFr.of (S := [83]) hb83 (by decide))).tr (xFr.of (S := [83]) hb97 (by decide))))⟩
      · refine xg_t (xg_ifT (u := (if 1 ≤ fo ∧ fo ≤ 999 then 1 else 0)) rfl xnm0 (xj_eqT (xite0 hc46))) ?_
        refine xg_t (xg_blk (b := [(42, 1, 3, 4294967295, 0, 0), (43, 1, 12, 0, 1, 0)]) rfl) ?_
        refine xg_t (xg_const) ?_
        have hq138 : rwv w 83 900 = g83_33 900 := rwv_of h83_34 (by decide)
        have hq139 : g83_33 900 ≤ 4 := hx36.l900
        have hq140 : rwv w 83 900 = g83_33 900 := rwv_of h83_34 (by decide)
        exact xg_e ⟨4294967295, w, ⟨rfl, rfl⟩, ⟨by omega, fun h => absurd h (by omega), fun j _ h => (rwv_of h83_34 h).trans (rwv_of h83_34 h).symm⟩, hI, xFr.rf⟩
    · refine xg_t (xg_ifT (u := (if 1 ≤ fi ∧ fi ≤ 999 then 1 else 0)) rfl xnm0 (xj_eqT (xite0 hc45))) ?_
      refine xg_t (xg_blk (b := [(42, 1, 3, 4294967295, 0, 0), (43, 1, 12, 0, 1, 0)]) rfl) ?_
      refine xg_t (xg_const) ?_
      have hq141 : rwv w 83 900 = g83_33 900 := rwv_of h83_34 (by decide)
      have hq142 : g83_33 900 ≤ 4 := hx36.l900
      have hq143 : rwv w 83 900 = g83_33 900 := rwv_of h83_34 (by decide)
      exact xg_e ⟨4294967295, w, ⟨rfl, rfl⟩, ⟨by omega, fun h => absurd h (by omega), fun j _ h => (rwv_of h83_34 h).trans (rwv_of h83_34 h).symm⟩, hI, xFr.rf⟩
end XEM3
