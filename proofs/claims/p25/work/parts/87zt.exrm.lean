section
/-! the model: a picture, a hand, a test told -/
section XEM3
variable {d : Nat} {w : List (List xE)} {bd : List (Nat × Nat)} {fc : List (Nat × Nat × Bool)} {rr : Nat × Nat}
theorem mPictureX {pa pb pc_ pd pl ph : Nat} (hI : xMnv w) (hpa : pa ≤ 4294967295) (hpb : pb ≤ 4294967295) (hpc_ : pc_ ≤ 4294967295) (hpd : pd ≤ 4294967295) (hpl : pl ≤ 4294967295) (hph : ph ≤ 4294967295) : xPi (d + 1) mX12_picture [(2, 82), (0, pa), (0, pb), (0, pc_), (0, pd), (0, pl), (0, ph)] w bd fc rr (fun n w' => (((n = rwv w 83 10 + 1 ∧ rwv w 83 10 < 12 ∧ ((pa ≤ pb ∧ pb < rwv w 83 5) ∧ (pc_ ≤ pd ∧ pd < rwv w 83 6) ∧ (1 ≤ pl ∧ pl ≤ 9) ∧ (1 ≤ ph ∧ ph ≤ 999)) ∧ rwv w' 83 10 = rwv w 83 10 + 1) ∨ (n = 4294967295 ∧ ¬ (rwv w 83 10 < 12 ∧ ((pa ≤ pb ∧ pb < rwv w 83 5) ∧ (pc_ ≤ pd ∧ pd < rwv w 83 6) ∧ (1 ≤ pl ∧ pl ≤ 9) ∧ (1 ≤ ph ∧ ph ≤ 999))) ∧ rwv w' 83 10 = rwv w 83 10)) ∧ (n ≠ 4294967295 → rwv w' 83 (300 + 6 * rwv w 83 10) = pa ∧ rwv w' 83 (300 + 6 * rwv w 83 10 + 1) = pb ∧ rwv w' 83 (300 + 6 * rwv w 83 10 + 2) = pc_ ∧ rwv w' 83 (300 + 6 * rwv w 83 10 + 3) = pd ∧ rwv w' 83 (300 + 6 * rwv w 83 10 + 4) = pl ∧ rwv w' 83 (300 + 6 * rwv w 83 10 + 5) = ph) ∧ (∀ j, (j ≠ 10 ∧ (j < 300 + 6 * rwv w 83 10 ∨ 306 + 6 * rwv w 83 10 ≤ j)) → j < 5360 → rwv w' 83 j = rwv w 83 j)) ∧ xMnv w' ∧ xFr [83] w w') := by
  refine xPi.of ?_
  show xTo (d + 1) mX12_picture (0, [], [(0, (2, 82)), (1, (0, pa)), (2, (0, pb)), (3, (0, pc_)), (4, (0, pd)), (5, (0, pl)), (6, (0, ph))], [], (w, bd, fc, 0, 0, rr)) (fun φ => ∃ n w', xEnd 1 [(0, n)] (w', bd, fc, 0, 0, rr) φ ∧ (((n = rwv w 83 10 + 1 ∧ rwv w 83 10 < 12 ∧ ((pa ≤ pb ∧ pb < rwv w 83 5) ∧ (pc_ ≤ pd ∧ pd < rwv w 83 6) ∧ (1 ≤ pl ∧ pl ≤ 9) ∧ (1 ≤ ph ∧ ph ≤ 999)) ∧ rwv w' 83 10 = rwv w 83 10 + 1) ∨ (n = 4294967295 ∧ ¬ (rwv w 83 10 < 12 ∧ ((pa ≤ pb ∧ pb < rwv w 83 5) ∧ (pc_ ≤ pd ∧ pd < rwv w 83 6) ∧ (1 ≤ pl ∧ pl ≤ 9) ∧ (1 ≤ ph ∧ ph ≤ 999))) ∧ rwv w' 83 10 = rwv w 83 10)) ∧ (n ≠ 4294967295 → rwv w' 83 (300 + 6 * rwv w 83 10) = pa ∧ rwv w' 83 (300 + 6 * rwv w 83 10 + 1) = pb ∧ rwv w' 83 (300 + 6 * rwv w 83 10 + 2) = pc_ ∧ rwv w' 83 (300 + 6 * rwv w 83 10 + 3) = pd ∧ rwv w' 83 (300 + 6 * rwv w 83 10 + 4) = pl ∧ rwv w' 83 (300 + 6 * rwv w 83 10 + 5) = ph) ∧ (∀ j, (j ≠ 10 ∧ (j < 300 + 6 * rwv w 83 10 ∨ 306 + 6 * rwv w 83 10 ≤ j)) → j < 5360 → rwv w' 83 j = rwv w 83 j)) ∧ xMnv w' ∧ xFr [83] w w')
  refine xoCh82 (hI 82 (by decide) (by decide) : cp82 (wget w 82)) (fun f82_1 f82_3 f82_5 f82_7 f82_9 f82_11 f82_13 f82_15 f82_17 f82_19 f82_21 f82_22 f82_23 f82_25 f82_27 f82_29 h82_31 hb2 hb4 hb6 hb8 hb10 hb12 hb14 hb16 hb18 hb20 hb24 hb26 hb28 hb30 hb32 => ?_)
  refine xoX83 (hI 83 (by decide) (by decide) : cpx83 (wget w 83)) (fun g83_33 h83_34 hb35 hx36 => ?_)
  refine xg_t (xg_blk (b := [(0, 1, 0, 0, 0, 0), (1, 3, 1, 12, 0, 7), (4, 2, 4, 10, 0, 0), (6, 1, 10, 0, 0, 0), (7, 2, 4, 12, 0, 0), (9, 3, 6, 102, 0, 0), (12, 1, 2, 1, 0, 0), (13, 1, 3, 0, 0, 0), (14, 1, 0, 0, 0, 0), (15, 3, 1, 12, 0, 7), (18, 1, 3, 5, 0, 0), (19, 1, 10, 0, 0, 0), (20, 1, 3, 1, 0, 0), (21, 1, 18, 0, 0, 0), (22, 3, 13, 161, 98, 105), (25, 3, 7, 102, 0, 0), (28, 1, 2, 2, 0, 0), (29, 1, 2, 1, 0, 0), (30, 1, 0, 0, 0, 0), (31, 3, 1, 12, 0, 7), (34, 1, 3, 5, 0, 0), (35, 1, 10, 0, 0, 0), (36, 1, 3, 1, 0, 0), (37, 1, 18, 0, 0, 0), (38, 3, 13, 161, 98, 105), (41, 3, 7, 102, 0, 0), (44, 1, 2, 3, 0, 0), (45, 1, 3, 0, 0, 0), (46, 1, 0, 0, 0, 0), (47, 3, 1, 12, 0, 7), (50, 2, 4, 6, 0, 0), (52, 1, 10, 0, 0, 0), (53, 1, 3, 1, 0, 0), (54, 1, 18, 0, 0, 0), (55, 3, 13, 161, 98, 105), (58, 3, 7, 102, 0, 0), (61, 2, 2, 4, 0, 0), (63, 1, 2, 3, 0, 0), (64, 1, 0, 0, 0, 0), (65, 3, 1, 12, 0, 7), (68, 2, 4, 6, 0, 0), (70, 1, 10, 0, 0, 0), (71, 1, 3, 1, 0, 0), (72, 1, 18, 0, 0, 0), (73, 3, 13, 161, 98, 105), (76, 3, 7, 102, 0, 0), (79, 2, 2, 5, 0, 0), (81, 1, 3, 1, 0, 0), (82, 2, 4, 9, 0, 0), (84, 3, 13, 161, 98, 105), (87, 3, 7, 102, 0, 0), (90, 2, 2, 6, 0, 0), (92, 1, 3, 1, 0, 0), (93, 3, 5, 999, 0, 0), (96, 3, 13, 161, 98, 105), (99, 3, 7, 104, 1, 0)]) rfl) ?_
  refine xg_t (xg_aload (va := (2, 82)) rfl rfl) ?_
  refine xg_t (xg_getf (va := (2, 83)) h82_31 rfl) ?_
  refine xg_t (xg_bip) ?_
  refine xg_ialdB (n := 10) (B := 4294967295) h83_34 (hb35) xnm0 (by omega) (fun u37 hu38 he39 => ?_)
  have hl40 : u37 ≤ 12 := by rw [← he39]; exact hx36.l10
  refine xg_t (xg_bip) ?_
  by_cases hc41 : u37 = 12
  · refine xg_t (xg_icT (u := u37) (v := 12) rfl xnm0 xnm0 (xj_eqT hc41)) ?_
    refine xg_t (xg_blk (b := [(102, 1, 3, 4294967295, 0, 0), (103, 1, 12, 0, 1, 0)]) rfl) ?_
    refine xg_t (xg_const) ?_
    have hq42 : rwv w 83 10 = g83_33 10 := rwv_of h83_34 (by decide)
    have hq43 : g83_33 10 ≤ 12 := hx36.l10
    have hq44 : rwv w 83 10 = g83_33 10 := rwv_of h83_34 (by decide)
    have hq45 : rwv w 83 5 = g83_33 5 := rwv_of h83_34 (by decide)
    have hq46 : g83_33 5 ≤ 6 := hx36.l5
    have hq47 : rwv w 83 5 = g83_33 5 := rwv_of h83_34 (by decide)
    have hq48 : rwv w 83 6 = g83_33 6 := rwv_of h83_34 (by decide)
    have hq49 : g83_33 6 ≤ 6 := hx36.l6
    have hq50 : rwv w 83 6 = g83_33 6 := rwv_of h83_34 (by decide)
    exact xg_e ⟨4294967295, w, ⟨rfl, rfl⟩, ⟨by omega, fun h => absurd h (by omega), fun j _ h => (rwv_of h83_34 h).trans (rwv_of h83_34 h).symm⟩, hI, xFr.rf⟩
  · refine xg_t (xg_icF (u := u37) (v := 12) rfl xnm0 xnm0 (xj_eqF hc41)) ?_
    refine xg_t (xg_iload (va := (0, pa)) rfl rfl) ?_
    refine xg_t (xg_const) ?_
    refine xg_t (xg_aload (va := (2, 82)) rfl rfl) ?_
    refine xg_t (xg_getf (va := (2, 83)) h82_31 rfl) ?_
    refine xg_t (xg_const) ?_
    refine xg_ialdB (n := 5) (B := 4294967295) h83_34 (hb35) xnm0 (by omega) (fun u51 hu52 he53 => ?_)
    have hl54 : u51 ≤ 6 := by rw [← he53]; exact hx36.l5
    refine xg_t (xg_const) ?_
    by_cases hc55 : 1 ≤ u51
    · refine xg_t (xg_isub (u := u51) (v := 1) (z := u51 - 1) xnm0 xnm0 (by omega)) ?_
      refine xg_t (xg_cSr mX12_isIn (vs := [(0, pa), (0, 0), (0, u51 - 1)]) (rest := []) (rs := [(0, if 0 ≤ pa ∧ pa ≤ u51 - 1 then 1 else 0)]) (cn1 := 0) (sl1 := 0) rfl (mIsIn (by omega) (by omega) (by omega)) rfl rfl rfl rfl rfl rfl rfl rfl) ?_
      by_cases hc56 : 0 ≤ pa ∧ pa ≤ u51 - 1
      · refine xg_t (xg_ifF (u := (if 0 ≤ pa ∧ pa ≤ u51 - 1 then 1 else 0)) rfl xnm0 (xj_eqF (xite1 hc56))) ?_
        refine xg_t (xg_iload (va := (0, pb)) rfl rfl) ?_
        refine xg_t (xg_iload (va := (0, pa)) rfl rfl) ?_
        refine xg_t (xg_aload (va := (2, 82)) rfl rfl) ?_
        refine xg_t (xg_getf (va := (2, 83)) h82_31 rfl) ?_
        refine xg_t (xg_const) ?_
        refine xg_ialdB (n := 5) (B := 4294967295) h83_34 (hb35) xnm0 (by omega) (fun u57 hu58 he59 => ?_)
        have hl60 : u57 ≤ 6 := by rw [← he59]; exact hx36.l5
        refine xg_t (xg_const) ?_
        by_cases hc61 : 1 ≤ u57
        · refine xg_t (xg_isub (u := u57) (v := 1) (z := u57 - 1) xnm0 xnm0 (by omega)) ?_
          refine xg_t (xg_cSr mX12_isIn (vs := [(0, pb), (0, pa), (0, u57 - 1)]) (rest := []) (rs := [(0, if pa ≤ pb ∧ pb ≤ u57 - 1 then 1 else 0)]) (cn1 := 0) (sl1 := 0) rfl (mIsIn (by omega) (by omega) (by omega)) rfl rfl rfl rfl rfl rfl rfl rfl) ?_
          by_cases hc62 : pa ≤ pb ∧ pb ≤ u57 - 1
          · refine xg_t (xg_ifF (u := (if pa ≤ pb ∧ pb ≤ u57 - 1 then 1 else 0)) rfl xnm0 (xj_eqF (xite1 hc62))) ?_
            refine xg_t (xg_iload (va := (0, pc_)) rfl rfl) ?_
            refine xg_t (xg_const) ?_
            refine xg_t (xg_aload (va := (2, 82)) rfl rfl) ?_
            refine xg_t (xg_getf (va := (2, 83)) h82_31 rfl) ?_
            refine xg_t (xg_bip) ?_
            refine xg_ialdB (n := 6) (B := 4294967295) h83_34 (hb35) xnm0 (by omega) (fun u63 hu64 he65 => ?_)
            have hl66 : u63 ≤ 6 := by rw [← he65]; exact hx36.l6
            refine xg_t (xg_const) ?_
            by_cases hc67 : 1 ≤ u63
            · refine xg_t (xg_isub (u := u63) (v := 1) (z := u63 - 1) xnm0 xnm0 (by omega)) ?_
              refine xg_t (xg_cSr mX12_isIn (vs := [(0, pc_), (0, 0), (0, u63 - 1)]) (rest := []) (rs := [(0, if 0 ≤ pc_ ∧ pc_ ≤ u63 - 1 then 1 else 0)]) (cn1 := 0) (sl1 := 0) rfl (mIsIn (by omega) (by omega) (by omega)) rfl rfl rfl rfl rfl rfl rfl rfl) ?_
              by_cases hc68 : 0 ≤ pc_ ∧ pc_ ≤ u63 - 1
              · refine xg_t (xg_ifF (u := (if 0 ≤ pc_ ∧ pc_ ≤ u63 - 1 then 1 else 0)) rfl xnm0 (xj_eqF (xite1 hc68))) ?_
                refine xg_t (xg_iload (va := (0, pd)) rfl rfl) ?_
                refine xg_t (xg_iload (va := (0, pc_)) rfl rfl) ?_
                refine xg_t (xg_aload (va := (2, 82)) rfl rfl) ?_
                refine xg_t (xg_getf (va := (2, 83)) h82_31 rfl) ?_
                refine xg_t (xg_bip) ?_
                refine xg_ialdB (n := 6) (B := 4294967295) h83_34 (hb35) xnm0 (by omega) (fun u69 hu70 he71 => ?_)
                have hl72 : u69 ≤ 6 := by rw [← he71]; exact hx36.l6
                refine xg_t (xg_const) ?_
                by_cases hc73 : 1 ≤ u69
                · refine xg_t (xg_isub (u := u69) (v := 1) (z := u69 - 1) xnm0 xnm0 (by omega)) ?_
                  refine xg_t (xg_cSr mX12_isIn (vs := [(0, pd), (0, pc_), (0, u69 - 1)]) (rest := []) (rs := [(0, if pc_ ≤ pd ∧ pd ≤ u69 - 1 then 1 else 0)]) (cn1 := 0) (sl1 := 0) rfl (mIsIn (by omega) (by omega) (by omega)) rfl rfl rfl rfl rfl rfl rfl rfl) ?_
                  by_cases hc74 : pc_ ≤ pd ∧ pd ≤ u69 - 1
                  · refine xg_t (xg_ifF (u := (if pc_ ≤ pd ∧ pd ≤ u69 - 1 then 1 else 0)) rfl xnm0 (xj_eqF (xite1 hc74))) ?_
                    refine xg_t (xg_iload (va := (0, pl)) rfl rfl) ?_
                    refine xg_t (xg_const) ?_
                    refine xg_t (xg_bip) ?_
                    refine xg_t (xg_cSr mX12_isIn (vs := [(0, pl), (0, 1), (0, 9)]) (rest := []) (rs := [(0, if 1 ≤ pl ∧ pl ≤ 9 then 1 else 0)]) (cn1 := 0) (sl1 := 0) rfl (mIsIn (by omega) (by omega) (by omega)) rfl rfl rfl rfl rfl rfl rfl rfl) ?_
                    by_cases hc75 : 1 ≤ pl ∧ pl ≤ 9
                    · refine xg_t (xg_ifF (u := (if 1 ≤ pl ∧ pl ≤ 9 then 1 else 0)) rfl xnm0 (xj_eqF (xite1 hc75))) ?_
                      refine xg_t (xg_iload (va := (0, ph)) rfl rfl) ?_
                      refine xg_t (xg_const) ?_
                      refine xg_t (xg_sip) ?_
                      refine xg_t (xg_cSr mX12_isIn (vs := [(0, ph), (0, 1), (0, 999)]) (rest := []) (rs := [(0, if 1 ≤ ph ∧ ph ≤ 999 then 1 else 0)]) (cn1 := 0) (sl1 := 0) rfl (mIsIn (by omega) (by omega) (by omega)) rfl rfl rfl rfl rfl rfl rfl rfl) ?_
                      by_cases hc76 : 1 ≤ ph ∧ ph ≤ 999
                      · refine xg_t (xg_ifT (u := (if 1 ≤ ph ∧ ph ≤ 999 then 1 else 0)) rfl xnm0 (xj_neT (xite1 hc76))) ?_
                        refine xg_t (xg_blk (b := [(104, 3, 5, 300, 0, 0), (107, 2, 4, 6, 0, 0), (109, 1, 0, 0, 0, 0), (110, 3, 1, 12, 0, 7), (113, 2, 4, 10, 0, 0), (115, 1, 10, 0, 0, 0), (116, 1, 16, 0, 0, 0), (117, 1, 11, 0, 0, 0), (118, 2, 15, 7, 0, 0), (120, 1, 0, 0, 0, 0), (121, 3, 1, 12, 0, 7), (124, 2, 2, 7, 0, 0), (126, 1, 2, 1, 0, 0), (127, 1, 17, 0, 0, 0), (128, 1, 0, 0, 0, 0), (129, 3, 1, 12, 0, 7), (132, 2, 2, 7, 0, 0), (134, 1, 3, 1, 0, 0), (135, 1, 11, 0, 0, 0), (136, 1, 2, 2, 0, 0), (137, 1, 17, 0, 0, 0), (138, 1, 0, 0, 0, 0), (139, 3, 1, 12, 0, 7), (142, 2, 2, 7, 0, 0), (144, 1, 3, 2, 0, 0), (145, 1, 11, 0, 0, 0), (146, 1, 2, 3, 0, 0), (147, 1, 17, 0, 0, 0), (148, 1, 0, 0, 0, 0), (149, 3, 1, 12, 0, 7), (152, 2, 2, 7, 0, 0), (154, 1, 3, 3, 0, 0), (155, 1, 11, 0, 0, 0), (156, 2, 2, 4, 0, 0), (158, 1, 17, 0, 0, 0), (159, 1, 0, 0, 0, 0), (160, 3, 1, 12, 0, 7), (163, 2, 2, 7, 0, 0), (165, 1, 3, 4, 0, 0), (166, 1, 11, 0, 0, 0), (167, 2, 2, 5, 0, 0), (169, 1, 17, 0, 0, 0), (170, 1, 0, 0, 0, 0), (171, 3, 1, 12, 0, 7), (174, 2, 2, 7, 0, 0), (176, 1, 3, 5, 0, 0), (177, 1, 11, 0, 0, 0), (178, 2, 2, 6, 0, 0), (180, 1, 17, 0, 0, 0), (181, 1, 0, 0, 0, 0), (182, 3, 1, 12, 0, 7), (185, 2, 4, 10, 0, 0), (187, 1, 39, 0, 0, 0), (188, 1, 10, 0, 0, 0), (189, 1, 3, 1, 0, 0), (190, 1, 11, 0, 0, 0), (191, 1, 17, 0, 0, 0), (192, 1, 0, 0, 0, 0), (193, 3, 1, 12, 0, 7), (196, 2, 4, 10, 0, 0), (198, 1, 10, 0, 0, 0), (199, 1, 12, 0, 1, 0)]) rfl) ?_
                        refine xg_t (xg_sip) ?_
                        refine xg_t (xg_bip) ?_
                        refine xg_t (xg_aload (va := (2, 82)) rfl rfl) ?_
                        refine xg_t (xg_getf (va := (2, 83)) h82_31 rfl) ?_
                        refine xg_t (xg_bip) ?_
                        refine xg_ialdB (n := 10) (B := 4294967295) h83_34 (hb35) xnm0 (by omega) (fun u77 hu78 he79 => ?_)
                        have hl80 : u77 ≤ 12 := by rw [← he79]; exact hx36.l10
                        refine xg_t (xg_imul (u := 6) (v := u77) (z := 6 * u77) xnm0 xnm0 (by omega)) ?_
                        refine xg_t (xg_iadd (u := 300) (v := 6 * u77) (z := 300 + (6 * u77)) xnm0 xnm0 (by omega)) ?_
                        refine xg_t (xg_istore (l1 := [(0, (2, 82)), (1, (0, pa)), (2, (0, pb)), (3, (0, pc_)), (4, (0, pd)), (5, (0, pl)), (6, (0, ph))]) rfl rfl rfl) ?_
                        refine xg_t (xg_aload (va := (2, 82)) rfl rfl) ?_
                        refine xg_t (xg_getf (va := (2, 83)) h82_31 rfl) ?_
                        refine xg_t (xg_iload (va := (0, 300 + (6 * u77))) rfl rfl) ?_
                        refine xg_t (xg_iload (va := (0, pa)) rfl rfl) ?_
                        refine xg_iastK (n := 300 + (6 * u77)) (u := pa) h83_34 xnm0 xnm0 rfl (by omega) (fun w81 hr82 hb83 => ?_)
                        have hx84 : okA (fun j => if j = 300 + (6 * u77) then pa else g83_33 j) := hx36.upd (by omega) (by omega) (by omega) (fun _ => by omega) (by omega) (fun _ => by omega) (fun _ => by omega) (fun _ => by omega) (fun _ => by omega) (by omega) (fun _ _ => by omega)
                        have hb85 : ∀ j, (fun j => if j = 300 + (6 * u77) then pa else g83_33 j) j ≤ 4294967295 := xrb (by omega) (hb35)
                        obtain ⟨g86, hg87⟩ : ∃ g : Nat → Nat, g = (fun j => if j = 300 + (6 * u77) then pa else g83_33 j) := ⟨_, rfl⟩
                        rw [← hg87] at hr82
                        have he88 : g86 (300 + (6 * u77)) = pa := by rw [hg87]; exact if_pos rfl
                        have hk89 : ∀ j, j ≠ 300 + (6 * u77) → g86 j = g83_33 j := fun j hj => by rw [hg87]; exact if_neg hj
                        rw [← hg87] at hx84
                        rw [← hg87] at hb85
                        have hk90 : g86 10 = g83_33 10 := hk89 10 (by omega)
                        refine xg_t (xg_aload (va := (2, 82)) rfl rfl) ?_
                        refine xg_t (xg_getf (va := (2, 83)) (hb83.get (by decide) h82_31) rfl) ?_
                        refine xg_t (xg_iload (va := (0, 300 + (6 * u77))) rfl rfl) ?_
                        refine xg_t (xg_const) ?_
                        refine xg_t (xg_iadd (u := 300 + (6 * u77)) (v := 1) (z := (300 + (6 * u77)) + 1) xnm0 xnm0 (by omega)) ?_
                        refine xg_t (xg_iload (va := (0, pb)) rfl rfl) ?_
                        refine xg_iastK (n := (300 + (6 * u77)) + 1) (u := pb) hr82 xnm0 xnm0 rfl (by omega) (fun w91 hr92 hb93 => ?_)
                        have hx94 : okA (fun j => if j = (300 + (6 * u77)) + 1 then pb else g86 j) := hx84.upd (by omega) (by omega) (by omega) (fun _ => by omega) (by omega) (fun _ => by omega) (fun _ => by omega) (fun _ => by omega) (fun _ => by omega) (by omega) (fun _ _ => by omega)
                        have hb95 : ∀ j, (fun j => if j = (300 + (6 * u77)) + 1 then pb else g86 j) j ≤ 4294967295 := xrb (by omega) (hb85)
                        obtain ⟨g96, hg97⟩ : ∃ g : Nat → Nat, g = (fun j => if j = (300 + (6 * u77)) + 1 then pb else g86 j) := ⟨_, rfl⟩
                        rw [← hg97] at hr92
                        have he98 : g96 ((300 + (6 * u77)) + 1) = pb := by rw [hg97]; exact if_pos rfl
                        have hk99 : ∀ j, j ≠ (300 + (6 * u77)) + 1 → g96 j = g86 j := fun j hj => by rw [hg97]; exact if_neg hj
                        rw [← hg97] at hx94
                        rw [← hg97] at hb95
                        have hk100 : g96 10 = g86 10 := hk99 10 (by omega)
                        refine xg_t (xg_aload (va := (2, 82)) rfl rfl) ?_
                        refine xg_t (xg_getf (va := (2, 83)) (hb93.get (by decide) (hb83.get (by decide) h82_31)) rfl) ?_
                        refine xg_t (xg_iload (va := (0, 300 + (6 * u77))) rfl rfl) ?_
                        refine xg_t (xg_const) ?_
                        refine xg_t (xg_iadd (u := 300 + (6 * u77)) (v := 2) (z := (300 + (6 * u77)) + 2) xnm0 xnm0 (by omega)) ?_
                        refine xg_t (xg_iload (va := (0, pc_)) rfl rfl) ?_
                        refine xg_iastK (n := (300 + (6 * u77)) + 2) (u := pc_) hr92 xnm0 xnm0 rfl (by omega) (fun w101 hr102 hb103 => ?_)
                        have hx104 : okA (fun j => if j = (300 + (6 * u77)) + 2 then pc_ else g96 j) := hx94.upd (by omega) (by omega) (by omega) (fun _ => by omega) (by omega) (fun _ => by omega) (fun _ => by omega) (fun _ => by omega) (fun _ => by omega) (by omega) (fun _ _ => by omega)
                        have hb105 : ∀ j, (fun j => if j = (300 + (6 * u77)) + 2 then pc_ else g96 j) j ≤ 4294967295 := xrb (by omega) (hb95)
                        obtain ⟨g106, hg107⟩ : ∃ g : Nat → Nat, g = (fun j => if j = (300 + (6 * u77)) + 2 then pc_ else g96 j) := ⟨_, rfl⟩
                        rw [← hg107] at hr102
                        have he108 : g106 ((300 + (6 * u77)) + 2) = pc_ := by rw [hg107]; exact if_pos rfl
                        have hk109 : ∀ j, j ≠ (300 + (6 * u77)) + 2 → g106 j = g96 j := fun j hj => by rw [hg107]; exact if_neg hj
                        rw [← hg107] at hx104
                        rw [← hg107] at hb105
                        have hk110 : g106 10 = g96 10 := hk109 10 (by omega)
                        refine xg_t (xg_aload (va := (2, 82)) rfl rfl) ?_
                        refine xg_t (xg_getf (va := (2, 83)) (hb103.get (by decide) (hb93.get (by decide) (hb83.get (by decide) h82_31))) rfl) ?_
                        refine xg_t (xg_iload (va := (0, 300 + (6 * u77))) rfl rfl) ?_
                        refine xg_t (xg_const) ?_
                        refine xg_t (xg_iadd (u := 300 + (6 * u77)) (v := 3) (z := (300 + (6 * u77)) + 3) xnm0 xnm0 (by omega)) ?_
                        refine xg_t (xg_iload (va := (0, pd)) rfl rfl) ?_
                        refine xg_iastK (n := (300 + (6 * u77)) + 3) (u := pd) hr102 xnm0 xnm0 rfl (by omega) (fun w111 hr112 hb113 => ?_)
                        have hx114 : okA (fun j => if j = (300 + (6 * u77)) + 3 then pd else g106 j) := hx104.upd (by omega) (by omega) (by omega) (fun _ => by omega) (by omega) (fun _ => by omega) (fun _ => by omega) (fun _ => by omega) (fun _ => by omega) (by omega) (fun _ _ => by omega)
                        have hb115 : ∀ j, (fun j => if j = (300 + (6 * u77)) + 3 then pd else g106 j) j ≤ 4294967295 := xrb (by omega) (hb105)
                        obtain ⟨g116, hg117⟩ : ∃ g : Nat → Nat, g = (fun j => if j = (300 + (6 * u77)) + 3 then pd else g106 j) := ⟨_, rfl⟩
                        rw [← hg117] at hr112
                        have he118 : g116 ((300 + (6 * u77)) + 3) = pd := by rw [hg117]; exact if_pos rfl
                        have hk119 : ∀ j, j ≠ (300 + (6 * u77)) + 3 → g116 j = g106 j := fun j hj => by rw [hg117]; exact if_neg hj
                        rw [← hg117] at hx114
                        rw [← hg117] at hb115
                        have hk120 : g116 10 = g106 10 := hk119 10 (by omega)
                        refine xg_t (xg_aload (va := (2, 82)) rfl rfl) ?_
                        refine xg_t (xg_getf (va := (2, 83)) (hb113.get (by decide) (hb103.get (by decide) (hb93.get (by decide) (hb83.get (by decide) h82_31)))) rfl) ?_
                        refine xg_t (xg_iload (va := (0, 300 + (6 * u77))) rfl rfl) ?_
                        refine xg_t (xg_const) ?_
                        refine xg_t (xg_iadd (u := 300 + (6 * u77)) (v := 4) (z := (300 + (6 * u77)) + 4) xnm0 xnm0 (by omega)) ?_
                        refine xg_t (xg_iload (va := (0, pl)) rfl rfl) ?_
                        refine xg_iastK (n := (300 + (6 * u77)) + 4) (u := pl) hr112 xnm0 xnm0 rfl (by omega) (fun w121 hr122 hb123 => ?_)
                        have hx124 : okA (fun j => if j = (300 + (6 * u77)) + 4 then pl else g116 j) := hx114.upd (by omega) (by omega) (by omega) (fun _ => by omega) (by omega) (fun _ => by omega) (fun _ => by omega) (fun _ => by omega) (fun _ => by omega) (by omega) (fun _ _ => by omega)
                        have hb125 : ∀ j, (fun j => if j = (300 + (6 * u77)) + 4 then pl else g116 j) j ≤ 4294967295 := xrb (by omega) (hb115)
                        obtain ⟨g126, hg127⟩ : ∃ g : Nat → Nat, g = (fun j => if j = (300 + (6 * u77)) + 4 then pl else g116 j) := ⟨_, rfl⟩
                        rw [← hg127] at hr122
                        have he128 : g126 ((300 + (6 * u77)) + 4) = pl := by rw [hg127]; exact if_pos rfl
                        have hk129 : ∀ j, j ≠ (300 + (6 * u77)) + 4 → g126 j = g116 j := fun j hj => by rw [hg127]; exact if_neg hj
                        rw [← hg127] at hx124
                        rw [← hg127] at hb125
                        have hk130 : g126 10 = g116 10 := hk129 10 (by omega)
                        refine xg_t (xg_aload (va := (2, 82)) rfl rfl) ?_
                        refine xg_t (xg_getf (va := (2, 83)) (hb123.get (by decide) (hb113.get (by decide) (hb103.get (by decide) (hb93.get (by decide) (hb83.get (by decide) h82_31))))) rfl) ?_
                        refine xg_t (xg_iload (va := (0, 300 + (6 * u77))) rfl rfl) ?_
                        refine xg_t (xg_const) ?_
                        refine xg_t (xg_iadd (u := 300 + (6 * u77)) (v := 5) (z := (300 + (6 * u77)) + 5) xnm0 xnm0 (by omega)) ?_
                        refine xg_t (xg_iload (va := (0, ph)) rfl rfl) ?_
                        refine xg_iastK (n := (300 + (6 * u77)) + 5) (u := ph) hr122 xnm0 xnm0 rfl (by omega) (fun w131 hr132 hb133 => ?_)
                        have hx134 : okA (fun j => if j = (300 + (6 * u77)) + 5 then ph else g126 j) := hx124.upd (by omega) (by omega) (by omega) (fun _ => by omega) (by omega) (fun _ => by omega) (fun _ => by omega) (fun _ => by omega) (fun _ => by omega) (by omega) (fun _ _ => by omega)
                        have hb135 : ∀ j, (fun j => if j = (300 + (6 * u77)) + 5 then ph else g126 j) j ≤ 4294967295 := xrb (by omega) (hb125)
                        obtain ⟨g136, hg137⟩ : ∃ g : Nat → Nat, g = (fun j => if j = (300 + (6 * u77)) + 5 then ph else g126 j) := ⟨_, rfl⟩
                        rw [← hg137] at hr132
                        have he138 : g136 ((300 + (6 * u77)) + 5) = ph := by rw [hg137]; exact if_pos rfl
                        have hk139 : ∀ j, j ≠ (300 + (6 * u77)) + 5 → g136 j = g126 j := fun j hj => by rw [hg137]; exact if_neg hj
                        rw [← hg137] at hx134
                        rw [← hg137] at hb135
                        have hk140 : g136 10 = g126 10 := hk139 10 (by omega)
                        refine xg_t (xg_aload (va := (2, 82)) rfl rfl) ?_
                        refine xg_t (xg_getf (va := (2, 83)) (hb133.get (by decide) (hb123.get (by decide) (hb113.get (by decide) (hb103.get (by decide) (hb93.get (by decide) (hb83.get (by decide) h82_31)))))) rfl) ?_
                        refine xg_t (xg_bip) ?_
                        refine xg_t (xg_dup2 rfl) ?_
                        refine xg_ialdB (n := 10) (B := 4294967295) hr132 (hb135) xnm0 (by omega) (fun u141 hu142 he143 => ?_)
                        have hl144 : u141 ≤ 12 := by rw [← he143]; exact hx134.l10
                        refine xg_t (xg_const) ?_
                        refine xg_t (xg_iadd (u := u141) (v := 1) (z := u141 + 1) xnm0 xnm0 (by omega)) ?_
                        refine xg_iastK (n := 10) (u := u141 + 1) hr132 xnm0 xnm0 rfl (by omega) (fun w145 hr146 hb147 => ?_)
                        have hp149 : g136 (300 + 6 * u77 + 0) ≤ 5 := by
                          have e : 300 + 6 * u77 + 0 = 300 + (6 * u77) := by omega
                          rw [e, hk139 _ (by omega), hk129 _ (by omega), hk119 _ (by omega), hk109 _ (by omega), hk99 _ (by omega), he88]; omega
                        have hp150 : g136 (300 + 6 * u77 + 1) ≤ 5 := by
                          have e : 300 + 6 * u77 + 1 = (300 + (6 * u77)) + 1 := by omega
                          rw [e, hk139 _ (by omega), hk129 _ (by omega), hk119 _ (by omega), hk109 _ (by omega), he98]; omega
                        have hp151 : g136 (300 + 6 * u77 + 2) ≤ 5 := by
                          have e : 300 + 6 * u77 + 2 = (300 + (6 * u77)) + 2 := by omega
                          rw [e, hk139 _ (by omega), hk129 _ (by omega), hk119 _ (by omega), he108]; omega
                        have hp152 : g136 (300 + 6 * u77 + 3) ≤ 5 := by
                          have e : 300 + 6 * u77 + 3 = (300 + (6 * u77)) + 3 := by omega
                          rw [e, hk139 _ (by omega), hk129 _ (by omega), he118]; omega
                        have hp153 : g136 10 = u77 := by rw [hk139 10 (by omega), hk129 10 (by omega), hk119 10 (by omega), hk109 10 (by omega), hk99 10 (by omega), hk89 10 (by omega)]; omega
                        have hp154 : ∀ p t, p < u141 + 1 → t < 4 → g136 (300 + 6 * p + t) ≤ 5 := by
                          intro p t hp ht
                          by_cases z : p < u77
                          · exact hx134.pic (by omega) ht
                          · have e : p = u77 := by omega
                            subst e
                            rcases (show t = 0 ∨ t = 1 ∨ t = 2 ∨ t = 3 by omega) with rfl | rfl | rfl | rfl
                            · exact hp149
                            · exact hp150
                            · exact hp151
                            · exact hp152
                        have hx148 : okA (fun j => if j = 10 then u141 + 1 else g136 j) := hx134.updP (by omega) hp154
                        have hb155 : ∀ j, (fun j => if j = 10 then u141 + 1 else g136 j) j ≤ 4294967295 := xrb (by omega) (hb135)
                        obtain ⟨g156, hg157⟩ : ∃ g : Nat → Nat, g = (fun j => if j = 10 then u141 + 1 else g136 j) := ⟨_, rfl⟩
                        rw [← hg157] at hr146
                        have he158 : g156 10 = u141 + 1 := by rw [hg157]; exact if_pos rfl
                        have hk159 : ∀ j, j ≠ 10 → g156 j = g136 j := fun j hj => by rw [hg157]; exact if_neg hj
                        rw [← hg157] at hx148
                        rw [← hg157] at hb155
                        refine xg_t (xg_aload (va := (2, 82)) rfl rfl) ?_
                        refine xg_t (xg_getf (va := (2, 83)) (hb147.get (by decide) (hb133.get (by decide) (hb123.get (by decide) (hb113.get (by decide) (hb103.get (by decide) (hb93.get (by decide) (hb83.get (by decide) h82_31))))))) rfl) ?_
                        refine xg_t (xg_bip) ?_
                        refine xg_ialdB (n := 10) (B := 4294967295) hr146 (hb155) xnm0 (by omega) (fun u160 hu161 he162 => ?_)
                        have hl163 : u160 ≤ 12 := by rw [← he162]; exact hx148.l10
                        have hq164 : rwv w 83 10 = g83_33 10 := rwv_of h83_34 (by decide)
                        have hq165 : g83_33 10 ≤ 12 := hx36.l10
                        have hq166 : g86 10 = g83_33 10 := hk89 10 (by omega)
                        have hq167 : g96 10 = g86 10 := hk99 10 (by omega)
                        have hq168 : g106 10 = g96 10 := hk109 10 (by omega)
                        have hq169 : g116 10 = g106 10 := hk119 10 (by omega)
                        have hq170 : g126 10 = g116 10 := hk129 10 (by omega)
                        have hq171 : g136 10 = g126 10 := hk139 10 (by omega)
                        have hq172 : g156 10 = u141 + 1 := he158
                        have hq173 : rwv w145 83 10 = g156 10 := rwv_of hr146 (by decide)
                        have hq174 : rwv w 83 5 = g83_33 5 := rwv_of h83_34 (by decide)
                        have hq175 : g83_33 5 ≤ 6 := hx36.l5
                        have hq176 : g86 5 = g83_33 5 := hk89 5 (by omega)
                        have hq177 : g96 5 = g86 5 := hk99 5 (by omega)
                        have hq178 : g106 5 = g96 5 := hk109 5 (by omega)
                        have hq179 : g116 5 = g106 5 := hk119 5 (by omega)
                        have hq180 : g126 5 = g116 5 := hk129 5 (by omega)
                        have hq181 : g136 5 = g126 5 := hk139 5 (by omega)
                        have hq182 : g156 5 = g136 5 := hk159 5 (by omega)
                        have hq183 : rwv w145 83 5 = g156 5 := rwv_of hr146 (by decide)
                        have hq184 : rwv w 83 6 = g83_33 6 := rwv_of h83_34 (by decide)
                        have hq185 : g83_33 6 ≤ 6 := hx36.l6
                        have hq186 : g86 6 = g83_33 6 := hk89 6 (by omega)
                        have hq187 : g96 6 = g86 6 := hk99 6 (by omega)
                        have hq188 : g106 6 = g96 6 := hk109 6 (by omega)
                        have hq189 : g116 6 = g106 6 := hk119 6 (by omega)
                        have hq190 : g126 6 = g116 6 := hk129 6 (by omega)
                        have hq191 : g136 6 = g126 6 := hk139 6 (by omega)
                        have hq192 : g156 6 = g136 6 := hk159 6 (by omega)
                        have hq193 : rwv w145 83 6 = g156 6 := rwv_of hr146 (by decide)
                        have hq195 : 300 + 6 * rwv w 83 10 = 300 + (6 * u77) := by omega
                        have hq194 : rwv w145 83 (300 + 6 * rwv w 83 10) = pa := by
                          rw [hq195, rwv_of hr146 (by omega), hk159 _ (by omega), hk139 _ (by omega), hk129 _ (by omega), hk119 _ (by omega), hk109 _ (by omega), hk99 _ (by omega), he88]
                        have hq197 : 300 + 6 * rwv w 83 10 + 1 = (300 + (6 * u77)) + 1 := by omega
                        have hq196 : rwv w145 83 (300 + 6 * rwv w 83 10 + 1) = pb := by
                          rw [hq197, rwv_of hr146 (by omega), hk159 _ (by omega), hk139 _ (by omega), hk129 _ (by omega), hk119 _ (by omega), hk109 _ (by omega), he98]
                        have hq199 : 300 + 6 * rwv w 83 10 + 2 = (300 + (6 * u77)) + 2 := by omega
                        have hq198 : rwv w145 83 (300 + 6 * rwv w 83 10 + 2) = pc_ := by
                          rw [hq199, rwv_of hr146 (by omega), hk159 _ (by omega), hk139 _ (by omega), hk129 _ (by omega), hk119 _ (by omega), he108]
                        have hq201 : 300 + 6 * rwv w 83 10 + 3 = (300 + (6 * u77)) + 3 := by omega
                        have hq200 : rwv w145 83 (300 + 6 * rwv w 83 10 + 3) = pd := by
                          rw [hq201, rwv_of hr146 (by omega), hk159 _ (by omega), hk139 _ (by omega), hk129 _ (by omega), he118]
                        have hq203 : 300 + 6 * rwv w 83 10 + 4 = (300 + (6 * u77)) + 4 := by omega
                        have hq202 : rwv w145 83 (300 + 6 * rwv w 83 10 + 4) = pl := by
                          rw [hq203, rwv_of hr146 (by omega), hk159 _ (by omega), hk139 _ (by omega), he128]
                        have hq205 : 300 + 6 * rwv w 83 10 + 5 = (300 + (6 * u77)) + 5 := by omega
                        have hq204 : rwv w145 83 (300 + 6 * rwv w 83 10 + 5) = ph := by
                          rw [hq205, rwv_of hr146 (by omega), hk159 _ (by omega), he138]
                        exact xg_e ⟨u160, w145, ⟨rfl, rfl⟩, ⟨by omega, fun _ => ⟨hq194, hq196, hq198, hq200, hq202, hq204⟩, fun j hj h => (rwv_of hr146 h).trans (Eq.trans (by rw [hk159 j (by omega), hk139 j (by omega), hk129 j (by omega), hk119 j (by omega), hk109 j (by omega), hk99 j (by omega), hk89 j (by omega)]) (rwv_of h83_34 h).symm)⟩, xMnv.up (S := [83]) hI (((((((xFr.of (S := [83]) hb83 (by decide)).tr (xFr.of (S := [83]) hb93 (by decide))).tr (xFr.of (S := [83]) hb103 (by decide))).tr (xFr.of (S := [83]) hb113 (by decide))).tr (xFr.of (S := [83]) hb123 (by decide))).tr (xFr.of (S := [83]) hb133 (by decide))).tr (xFr.of (S := [83]) hb147 (by decide))) (List.forall_mem_cons.mpr ⟨(show cpx83 (wget w145 83) from ⟨_, hr146, hb155, hx148⟩), fun _ h => absurd h List.not_mem_nil⟩), (((((((xFr.of (S := [83]) hb83 (by decide)).tr (xFr.of (S := [83]) hb93 (by decide))).tr (xFr.of (S := [83]) hb103 (by decide))).tr (xFr.of (S := [83]) hb113 (by decide))).tr (xFr.of (S := [83]) hb123 (by decide))).tr (xFr.of (S := [83]) hb133 (by decide))).tr (xFr.of (S := [83]) hb147 (by decide)))⟩
                      · refine xg_t (xg_ifF (u := (if 1 ≤ ph ∧ ph ≤ 999 then 1 else 0)) rfl xnm0 (xj_neF (xite0 hc76))) ?_
                        refine xg_t (xg_blk (b := [(102, 1, 3, 4294967295, 0, 0), (103, 1, 12, 0, 1, 0)]) rfl) ?_
                        refine xg_t (xg_const) ?_
                        have hq206 : rwv w 83 10 = g83_33 10 := rwv_of h83_34 (by decide)
                        have hq207 : g83_33 10 ≤ 12 := hx36.l10
                        have hq208 : rwv w 83 10 = g83_33 10 := rwv_of h83_34 (by decide)
                        have hq209 : rwv w 83 5 = g83_33 5 := rwv_of h83_34 (by decide)
                        have hq210 : g83_33 5 ≤ 6 := hx36.l5
                        have hq211 : rwv w 83 5 = g83_33 5 := rwv_of h83_34 (by decide)
                        have hq212 : rwv w 83 6 = g83_33 6 := rwv_of h83_34 (by decide)
                        have hq213 : g83_33 6 ≤ 6 := hx36.l6
                        have hq214 : rwv w 83 6 = g83_33 6 := rwv_of h83_34 (by decide)
                        exact xg_e ⟨4294967295, w, ⟨rfl, rfl⟩, ⟨by omega, fun h => absurd h (by omega), fun j _ h => (rwv_of h83_34 h).trans (rwv_of h83_34 h).symm⟩, hI, xFr.rf⟩
                    · refine xg_t (xg_ifT (u := (if 1 ≤ pl ∧ pl ≤ 9 then 1 else 0)) rfl xnm0 (xj_eqT (xite0 hc75))) ?_
                      refine xg_t (xg_blk (b := [(102, 1, 3, 4294967295, 0, 0), (103, 1, 12, 0, 1, 0)]) rfl) ?_
                      refine xg_t (xg_const) ?_
                      have hq215 : rwv w 83 10 = g83_33 10 := rwv_of h83_34 (by decide)
                      have hq216 : g83_33 10 ≤ 12 := hx36.l10
                      have hq217 : rwv w 83 10 = g83_33 10 := rwv_of h83_34 (by decide)
                      have hq218 : rwv w 83 5 = g83_33 5 := rwv_of h83_34 (by decide)
                      have hq219 : g83_33 5 ≤ 6 := hx36.l5
                      have hq220 : rwv w 83 5 = g83_33 5 := rwv_of h83_34 (by decide)
                      have hq221 : rwv w 83 6 = g83_33 6 := rwv_of h83_34 (by decide)
                      have hq222 : g83_33 6 ≤ 6 := hx36.l6
                      have hq223 : rwv w 83 6 = g83_33 6 := rwv_of h83_34 (by decide)
                      exact xg_e ⟨4294967295, w, ⟨rfl, rfl⟩, ⟨by omega, fun h => absurd h (by omega), fun j _ h => (rwv_of h83_34 h).trans (rwv_of h83_34 h).symm⟩, hI, xFr.rf⟩
                  · refine xg_t (xg_ifT (u := (if pc_ ≤ pd ∧ pd ≤ u69 - 1 then 1 else 0)) rfl xnm0 (xj_eqT (xite0 hc74))) ?_
                    refine xg_t (xg_blk (b := [(102, 1, 3, 4294967295, 0, 0), (103, 1, 12, 0, 1, 0)]) rfl) ?_
                    refine xg_t (xg_const) ?_
                    have hq224 : rwv w 83 10 = g83_33 10 := rwv_of h83_34 (by decide)
                    have hq225 : g83_33 10 ≤ 12 := hx36.l10
                    have hq226 : rwv w 83 10 = g83_33 10 := rwv_of h83_34 (by decide)
                    have hq227 : rwv w 83 5 = g83_33 5 := rwv_of h83_34 (by decide)
                    have hq228 : g83_33 5 ≤ 6 := hx36.l5
                    have hq229 : rwv w 83 5 = g83_33 5 := rwv_of h83_34 (by decide)
                    have hq230 : rwv w 83 6 = g83_33 6 := rwv_of h83_34 (by decide)
                    have hq231 : g83_33 6 ≤ 6 := hx36.l6
                    have hq232 : rwv w 83 6 = g83_33 6 := rwv_of h83_34 (by decide)
                    exact xg_e ⟨4294967295, w, ⟨rfl, rfl⟩, ⟨by omega, fun h => absurd h (by omega), fun j _ h => (rwv_of h83_34 h).trans (rwv_of h83_34 h).symm⟩, hI, xFr.rf⟩
                · have hz235 : 4294967295 ≤ (u69 + (4294967296 - 1)) % 4294967296 := by omega
                  refine xg_t (xg_isub (u := u69) (v := 1) (z := (u69 + (4294967296 - 1)) % 4294967296) xnm0 xnm0 rfl) ?_
                  have hz234 : (u69 + (4294967296 - 1)) % 4294967296 < 4294967296 := Nat.mod_lt _ (by decide)
                  generalize (u69 + (4294967296 - 1)) % 4294967296 = z233 at hz235 hz234 ⊢
                  refine xg_t (xg_cSr mX12_isIn (vs := [(0, pd), (0, pc_), (0, z233)]) (rest := []) (rs := [(0, 0)]) (cn1 := 0) (sl1 := 0) rfl (mIsInN (by omega) (by omega) (by omega) (by omega)) rfl rfl rfl rfl rfl rfl rfl rfl) ?_
                  refine xg_t (xg_ifT (u := 0) rfl xnm0 (by decide)) ?_
                  refine xg_t (xg_blk (b := [(102, 1, 3, 4294967295, 0, 0), (103, 1, 12, 0, 1, 0)]) rfl) ?_
                  refine xg_t (xg_const) ?_
                  have hq236 : rwv w 83 10 = g83_33 10 := rwv_of h83_34 (by decide)
                  have hq237 : g83_33 10 ≤ 12 := hx36.l10
                  have hq238 : rwv w 83 10 = g83_33 10 := rwv_of h83_34 (by decide)
                  have hq239 : rwv w 83 5 = g83_33 5 := rwv_of h83_34 (by decide)
                  have hq240 : g83_33 5 ≤ 6 := hx36.l5
                  have hq241 : rwv w 83 5 = g83_33 5 := rwv_of h83_34 (by decide)
                  have hq242 : rwv w 83 6 = g83_33 6 := rwv_of h83_34 (by decide)
                  have hq243 : g83_33 6 ≤ 6 := hx36.l6
                  have hq244 : rwv w 83 6 = g83_33 6 := rwv_of h83_34 (by decide)
                  exact xg_e ⟨4294967295, w, ⟨rfl, rfl⟩, ⟨by omega, fun h => absurd h (by omega), fun j _ h => (rwv_of h83_34 h).trans (rwv_of h83_34 h).symm⟩, hI, xFr.rf⟩
              · refine xg_t (xg_ifT (u := (if 0 ≤ pc_ ∧ pc_ ≤ u63 - 1 then 1 else 0)) rfl xnm0 (xj_eqT (xite0 hc68))) ?_
                refine xg_t (xg_blk (b := [(102, 1, 3, 4294967295, 0, 0), (103, 1, 12, 0, 1, 0)]) rfl) ?_
                refine xg_t (xg_const) ?_
                have hq245 : rwv w 83 10 = g83_33 10 := rwv_of h83_34 (by decide)
                have hq246 : g83_33 10 ≤ 12 := hx36.l10
                have hq247 : rwv w 83 10 = g83_33 10 := rwv_of h83_34 (by decide)
                have hq248 : rwv w 83 5 = g83_33 5 := rwv_of h83_34 (by decide)
                have hq249 : g83_33 5 ≤ 6 := hx36.l5
                have hq250 : rwv w 83 5 = g83_33 5 := rwv_of h83_34 (by decide)
                have hq251 : rwv w 83 6 = g83_33 6 := rwv_of h83_34 (by decide)
                have hq252 : g83_33 6 ≤ 6 := hx36.l6
                have hq253 : rwv w 83 6 = g83_33 6 := rwv_of h83_34 (by decide)
                exact xg_e ⟨4294967295, w, ⟨rfl, rfl⟩, ⟨by omega, fun h => absurd h (by omega), fun j _ h => (rwv_of h83_34 h).trans (rwv_of h83_34 h).symm⟩, hI, xFr.rf⟩
            · have hz256 : 4294967295 ≤ (u63 + (4294967296 - 1)) % 4294967296 := by omega
              refine xg_t (xg_isub (u := u63) (v := 1) (z := (u63 + (4294967296 - 1)) % 4294967296) xnm0 xnm0 rfl) ?_
              have hz255 : (u63 + (4294967296 - 1)) % 4294967296 < 4294967296 := Nat.mod_lt _ (by decide)
              generalize (u63 + (4294967296 - 1)) % 4294967296 = z254 at hz256 hz255 ⊢
              refine xg_t (xg_cSr mX12_isIn (vs := [(0, pc_), (0, 0), (0, z254)]) (rest := []) (rs := [(0, 0)]) (cn1 := 0) (sl1 := 0) rfl (mIsInN (by omega) (by omega) (by omega) (by omega)) rfl rfl rfl rfl rfl rfl rfl rfl) ?_
              refine xg_t (xg_ifT (u := 0) rfl xnm0 (by decide)) ?_
              refine xg_t (xg_blk (b := [(102, 1, 3, 4294967295, 0, 0), (103, 1, 12, 0, 1, 0)]) rfl) ?_
              refine xg_t (xg_const) ?_
              have hq257 : rwv w 83 10 = g83_33 10 := rwv_of h83_34 (by decide)
              have hq258 : g83_33 10 ≤ 12 := hx36.l10
              have hq259 : rwv w 83 10 = g83_33 10 := rwv_of h83_34 (by decide)
              have hq260 : rwv w 83 5 = g83_33 5 := rwv_of h83_34 (by decide)
              have hq261 : g83_33 5 ≤ 6 := hx36.l5
              have hq262 : rwv w 83 5 = g83_33 5 := rwv_of h83_34 (by decide)
              have hq263 : rwv w 83 6 = g83_33 6 := rwv_of h83_34 (by decide)
              have hq264 : g83_33 6 ≤ 6 := hx36.l6
              have hq265 : rwv w 83 6 = g83_33 6 := rwv_of h83_34 (by decide)
              exact xg_e ⟨4294967295, w, ⟨rfl, rfl⟩, ⟨by omega, fun h => absurd h (by omega), fun j _ h => (rwv_of h83_34 h).trans (rwv_of h83_34 h).symm⟩, hI, xFr.rf⟩
          · refine xg_t (xg_ifT (u := (if pa ≤ pb ∧ pb ≤ u57 - 1 then 1 else 0)) rfl xnm0 (xj_eqT (xite0 hc62))) ?_
            refine xg_t (xg_blk (b := [(102, 1, 3, 4294967295, 0, 0), (103, 1, 12, 0, 1, 0)]) rfl) ?_
            refine xg_t (xg_const) ?_
            have hq266 : rwv w 83 10 = g83_33 10 := rwv_of h83_34 (by decide)
            have hq267 : g83_33 10 ≤ 12 := hx36.l10
            have hq268 : rwv w 83 10 = g83_33 10 := rwv_of h83_34 (by decide)
            have hq269 : rwv w 83 5 = g83_33 5 := rwv_of h83_34 (by decide)
            have hq270 : g83_33 5 ≤ 6 := hx36.l5
            have hq271 : rwv w 83 5 = g83_33 5 := rwv_of h83_34 (by decide)
            have hq272 : rwv w 83 6 = g83_33 6 := rwv_of h83_34 (by decide)
            have hq273 : g83_33 6 ≤ 6 := hx36.l6
            have hq274 : rwv w 83 6 = g83_33 6 := rwv_of h83_34 (by decide)
            exact xg_e ⟨4294967295, w, ⟨rfl, rfl⟩, ⟨by omega, fun h => absurd h (by omega), fun j _ h => (rwv_of h83_34 h).trans (rwv_of h83_34 h).symm⟩, hI, xFr.rf⟩
        · have hz277 : 4294967295 ≤ (u57 + (4294967296 - 1)) % 4294967296 := by omega
          refine xg_t (xg_isub (u := u57) (v := 1) (z := (u57 + (4294967296 - 1)) % 4294967296) xnm0 xnm0 rfl) ?_
          have hz276 : (u57 + (4294967296 - 1)) % 4294967296 < 4294967296 := Nat.mod_lt _ (by decide)
          generalize (u57 + (4294967296 - 1)) % 4294967296 = z275 at hz277 hz276 ⊢
          refine xg_t (xg_cSr mX12_isIn (vs := [(0, pb), (0, pa), (0, z275)]) (rest := []) (rs := [(0, 0)]) (cn1 := 0) (sl1 := 0) rfl (mIsInN (by omega) (by omega) (by omega) (by omega)) rfl rfl rfl rfl rfl rfl rfl rfl) ?_
          refine xg_t (xg_ifT (u := 0) rfl xnm0 (by decide)) ?_
          refine xg_t (xg_blk (b := [(102, 1, 3, 4294967295, 0, 0), (103, 1, 12, 0, 1, 0)]) rfl) ?_
          refine xg_t (xg_const) ?_
          have hq278 : rwv w 83 10 = g83_33 10 := rwv_of h83_34 (by decide)
          have hq279 : g83_33 10 ≤ 12 := hx36.l10
          have hq280 : rwv w 83 10 = g83_33 10 := rwv_of h83_34 (by decide)
          have hq281 : rwv w 83 5 = g83_33 5 := rwv_of h83_34 (by decide)
          have hq282 : g83_33 5 ≤ 6 := hx36.l5
          have hq283 : rwv w 83 5 = g83_33 5 := rwv_of h83_34 (by decide)
          have hq284 : rwv w 83 6 = g83_33 6 := rwv_of h83_34 (by decide)
          have hq285 : g83_33 6 ≤ 6 := hx36.l6
          have hq286 : rwv w 83 6 = g83_33 6 := rwv_of h83_34 (by decide)
          exact xg_e ⟨4294967295, w, ⟨rfl, rfl⟩, ⟨by omega, fun h => absurd h (by omega), fun j _ h => (rwv_of h83_34 h).trans (rwv_of h83_34 h).symm⟩, hI, xFr.rf⟩
      · refine xg_t (xg_ifT (u := (if 0 ≤ pa ∧ pa ≤ u51 - 1 then 1 else 0)) rfl xnm0 (xj_eqT (xite0 hc56))) ?_
        refine xg_t (xg_blk (b := [(102, 1, 3, 4294967295, 0, 0), (103, 1, 12, 0, 1, 0)]) rfl) ?_
        refine xg_t (xg_const) ?_
        have hq287 : rwv w 83 10 = g83_33 10 := rwv_of h83_34 (by decide)
        have hq288 : g83_33 10 ≤ 12 := hx36.l10
        have hq289 : rwv w 83 10 = g83_33 10 := rwv_of h83_34 (by decide)
        have hq290 : rwv w 83 5 = g83_33 5 := rwv_of h83_34 (by decide)
        have hq291 : g83_33 5 ≤ 6 := hx36.l5
        have hq292 : rwv w 83 5 = g83_33 5 := rwv_of h83_34 (by decide)
        have hq293 : rwv w 83 6 = g83_33 6 := rwv_of h83_34 (by decide)
        have hq294 : g83_33 6 ≤ 6 := hx36.l6
        have hq295 : rwv w 83 6 = g83_33 6 := rwv_of h83_34 (by decide)
        exact xg_e ⟨4294967295, w, ⟨rfl, rfl⟩, ⟨by omega, fun h => absurd h (by omega), fun j _ h => (rwv_of h83_34 h).trans (rwv_of h83_34 h).symm⟩, hI, xFr.rf⟩
    · have hz298 : 4294967295 ≤ (u51 + (4294967296 - 1)) % 4294967296 := by omega
      refine xg_t (xg_isub (u := u51) (v := 1) (z := (u51 + (4294967296 - 1)) % 4294967296) xnm0 xnm0 rfl) ?_
      have hz297 : (u51 + (4294967296 - 1)) % 4294967296 < 4294967296 := Nat.mod_lt _ (by decide)
      generalize (u51 + (4294967296 - 1)) % 4294967296 = z296 at hz298 hz297 ⊢
      refine xg_t (xg_cSr mX12_isIn (vs := [(0, pa), (0, 0), (0, z296)]) (rest := []) (rs := [(0, 0)]) (cn1 := 0) (sl1 := 0) rfl (mIsInN (by omega) (by omega) (by omega) (by omega)) rfl rfl rfl rfl rfl rfl rfl rfl) ?_
      refine xg_t (xg_ifT (u := 0) rfl xnm0 (by decide)) ?_
      refine xg_t (xg_blk (b := [(102, 1, 3, 4294967295, 0, 0), (103, 1, 12, 0, 1, 0)]) rfl) ?_
      refine xg_t (xg_const) ?_
      have hq299 : rwv w 83 10 = g83_33 10 := rwv_of h83_34 (by decide)
      have hq300 : g83_33 10 ≤ 12 := hx36.l10
      have hq301 : rwv w 83 10 = g83_33 10 := rwv_of h83_34 (by decide)
      have hq302 : rwv w 83 5 = g83_33 5 := rwv_of h83_34 (by decide)
      have hq303 : g83_33 5 ≤ 6 := hx36.l5
      have hq304 : rwv w 83 5 = g83_33 5 := rwv_of h83_34 (by decide)
      have hq305 : rwv w 83 6 = g83_33 6 := rwv_of h83_34 (by decide)
      have hq306 : g83_33 6 ≤ 6 := hx36.l6
      have hq307 : rwv w 83 6 = g83_33 6 := rwv_of h83_34 (by decide)
      exact xg_e ⟨4294967295, w, ⟨rfl, rfl⟩, ⟨by omega, fun h => absurd h (by omega), fun j _ h => (rwv_of h83_34 h).trans (rwv_of h83_34 h).symm⟩, hI, xFr.rf⟩
theorem mHandY {fi fo ro : Nat} (hI : xMnv w) (hfi : fi ≤ 4294967295) (hfo : fo ≤ 4294967295) (hro : ro ≤ 4294967295) : xPi (d + 2) mX12_hand [(2, 82), (0, fi), (0, fo), (0, ro)] w bd fc rr (fun n w' => (((n = rwv w 83 900 ∧ rwv w 83 900 < 4 ∧ ((1 ≤ fi ∧ fi ≤ 999) ∧ (1 ≤ fo ∧ fo ≤ 999) ∧ (1 ≤ ro ∧ ro ≤ 9999)) ∧ rwv w' 83 900 = rwv w 83 900 + 1) ∨ (n = 4294967295 ∧ ¬ (rwv w 83 900 < 4 ∧ ((1 ≤ fi ∧ fi ≤ 999) ∧ (1 ≤ fo ∧ fo ≤ 999) ∧ (1 ≤ ro ∧ ro ≤ 9999))) ∧ rwv w' 83 900 = rwv w 83 900)) ∧ (n ≠ 4294967295 → rwv w' 83 (950 + 3 * rwv w 83 900) = fi ∧ rwv w' 83 (950 + 3 * rwv w 83 900 + 1) = fo ∧ rwv w' 83 (950 + 3 * rwv w 83 900 + 2) = ro) ∧ (∀ j, (j ≠ 900 ∧ (j < 950 + 3 * rwv w 83 900 ∨ 953 + 3 * rwv w 83 900 ≤ j)) → j < 5360 → rwv w' 83 j = rwv w 83 j)) ∧ xMnv w' ∧ xFr [83] w w') := by
  refine xPi.of ?_
  show xTo (d + 2) mX12_hand (0, [], [(0, (2, 82)), (1, (0, fi)), (2, (0, fo)), (3, (0, ro))], [], (w, bd, fc, 0, 0, rr)) (fun φ => ∃ n w', xEnd 1 [(0, n)] (w', bd, fc, 0, 0, rr) φ ∧ (((n = rwv w 83 900 ∧ rwv w 83 900 < 4 ∧ ((1 ≤ fi ∧ fi ≤ 999) ∧ (1 ≤ fo ∧ fo ≤ 999) ∧ (1 ≤ ro ∧ ro ≤ 9999)) ∧ rwv w' 83 900 = rwv w 83 900 + 1) ∨ (n = 4294967295 ∧ ¬ (rwv w 83 900 < 4 ∧ ((1 ≤ fi ∧ fi ≤ 999) ∧ (1 ≤ fo ∧ fo ≤ 999) ∧ (1 ≤ ro ∧ ro ≤ 9999))) ∧ rwv w' 83 900 = rwv w 83 900)) ∧ (n ≠ 4294967295 → rwv w' 83 (950 + 3 * rwv w 83 900) = fi ∧ rwv w' 83 (950 + 3 * rwv w 83 900 + 1) = fo ∧ rwv w' 83 (950 + 3 * rwv w 83 900 + 2) = ro) ∧ (∀ j, (j ≠ 900 ∧ (j < 950 + 3 * rwv w 83 900 ∨ 953 + 3 * rwv w 83 900 ≤ j)) → j < 5360 → rwv w' 83 j = rwv w 83 j)) ∧ xMnv w' ∧ xFr [83] w w')
  refine xoCh82 (hI 82 (by decide) (by decide) : cp82 (wget w 82)) (fun f82_1 f82_3 f82_5 f82_7 f82_9 f82_11 f82_13 f82_15 f82_17 f82_19 f82_21 f82_22 f82_23 f82_25 f82_27 f82_29 h82_31 hb2 hb4 hb6 hb8 hb10 hb12 hb14 hb16 hb18 hb20 hb24 hb26 hb28 hb30 hb32 => ?_)
  refine xoX83 (hI 83 (by decide) (by decide) : cpx83 (wget w 83)) (fun g83_33 h83_34 hb35 hx36 => ?_)
  refine xg_t (xg_blk (b := [(0, 1, 0, 0, 0, 0), (1, 3, 1, 12, 0, 7), (4, 3, 5, 900, 0, 0), (7, 1, 10, 0, 0, 0), (8, 1, 3, 4, 0, 0), (9, 3, 6, 42, 0, 0), (12, 1, 2, 1, 0, 0), (13, 1, 3, 1, 0, 0), (14, 3, 5, 999, 0, 0), (17, 3, 13, 161, 98, 105), (20, 3, 7, 42, 0, 0), (23, 1, 2, 2, 0, 0), (24, 1, 3, 1, 0, 0), (25, 3, 5, 999, 0, 0), (28, 3, 13, 161, 98, 105), (31, 3, 7, 42, 0, 0), (34, 1, 0, 0, 0, 0), (35, 1, 2, 3, 0, 0), (36, 3, 13, 171, 96, 247), (39, 3, 7, 44, 1, 0)]) rfl) ?_
  refine xg_t (xg_aload (va := (2, 82)) rfl rfl) ?_
  refine xg_t (xg_getf (va := (2, 83)) h82_31 rfl) ?_
  refine xg_t (xg_sip) ?_
  refine xg_ialdB (n := 900) (B := 4294967295) h83_34 (hb35) xnm0 (by omega) (fun u37 hu38 he39 => ?_)
  have hl40 : u37 ≤ 4 := by rw [← he39]; exact hx36.l900
  refine xg_t (xg_const) ?_
  by_cases hc41 : u37 = 4
  · refine xg_t (xg_icT (u := u37) (v := 4) rfl xnm0 xnm0 (xj_eqT hc41)) ?_
    refine xg_t (xg_blk (b := [(42, 1, 3, 4294967295, 0, 0), (43, 1, 12, 0, 1, 0)]) rfl) ?_
    refine xg_t (xg_const) ?_
    have hq42 : rwv w 83 900 = g83_33 900 := rwv_of h83_34 (by decide)
    have hq43 : g83_33 900 ≤ 4 := hx36.l900
    have hq44 : rwv w 83 900 = g83_33 900 := rwv_of h83_34 (by decide)
    exact xg_e ⟨4294967295, w, ⟨rfl, rfl⟩, ⟨by omega, fun h => absurd h (by omega), fun j _ h => (rwv_of h83_34 h).trans (rwv_of h83_34 h).symm⟩, hI, xFr.rf⟩
  · refine xg_t (xg_icF (u := u37) (v := 4) rfl xnm0 xnm0 (xj_eqF hc41)) ?_
    refine xg_t (xg_iload (va := (0, fi)) rfl rfl) ?_
    refine xg_t (xg_const) ?_
    refine xg_t (xg_sip) ?_
    refine xg_t (xg_cSr mX12_isIn (vs := [(0, fi), (0, 1), (0, 999)]) (rest := []) (rs := [(0, if 1 ≤ fi ∧ fi ≤ 999 then 1 else 0)]) (cn1 := 0) (sl1 := 0) rfl (mIsIn (by omega) (by omega) (by omega)) rfl rfl rfl rfl rfl rfl rfl rfl) ?_
    by_cases hc45 : 1 ≤ fi ∧ fi ≤ 999
    · refine xg_t (xg_ifF (u := (if 1 ≤ fi ∧ fi ≤ 999 then 1 else 0)) rfl xnm0 (xj_eqF (xite1 hc45))) ?_
      refine xg_t (xg_iload (va := (0, fo)) rfl rfl) ?_
      refine xg_t (xg_const) ?_
      refine xg_t (xg_sip) ?_
      refine xg_t (xg_cSr mX12_isIn (vs := [(0, fo), (0, 1), (0, 999)]) (rest := []) (rs := [(0, if 1 ≤ fo ∧ fo ≤ 999 then 1 else 0)]) (cn1 := 0) (sl1 := 0) rfl (mIsIn (by omega) (by omega) (by omega)) rfl rfl rfl rfl rfl rfl rfl rfl) ?_
      by_cases hc46 : 1 ≤ fo ∧ fo ≤ 999
      · refine xg_t (xg_ifF (u := (if 1 ≤ fo ∧ fo ≤ 999 then 1 else 0)) rfl xnm0 (xj_eqF (xite1 hc46))) ?_
        refine xg_t (xg_aload (va := (2, 82)) rfl rfl) ?_
        refine xg_t (xg_iload (va := (0, ro)) rfl rfl) ?_
        refine xg_cVi mX12_isRound (vs := [(0, ro)]) (rest := []) (cn1 := 0) (sl1 := 0) rfl (mIsRoundX (hI) (by omega)) rfl h82_31 rfl rfl rfl rfl rfl rfl (fun n51 w47 hq48 => ?_)
        obtain ⟨hn52, hI49, hF50⟩ := hq48
        by_cases hc53 : n51 = 0
        · refine xg_t (xg_ifF (u := n51) rfl xnm0 (xj_neF hc53)) ?_
          refine xg_t (xg_blk (b := [(42, 1, 3, 4294967295, 0, 0), (43, 1, 12, 0, 1, 0)]) rfl) ?_
          refine xg_t (xg_const) ?_
          have hq54 : rwv w 83 900 = g83_33 900 := rwv_of h83_34 (by decide)
          have hq55 : g83_33 900 ≤ 4 := hx36.l900
          have hq56 : rwv w47 83 900 = g83_33 900 := rwv_of (h83_34.fr hF50 (by decide)) (by decide)
          exact xg_e ⟨4294967295, w47, ⟨rfl, rfl⟩, ⟨by omega, fun h => absurd h (by omega), fun j _ h => (rwv_of (h83_34.fr hF50 (by decide)) h).trans (rwv_of h83_34 h).symm⟩, hI49, (hF50.up (by decide))⟩
        · refine xg_t (xg_ifT (u := n51) rfl xnm0 (xj_neT hc53)) ?_
          refine xg_t (xg_blk (b := [(44, 3, 5, 950, 0, 0), (47, 1, 3, 3, 0, 0), (48, 1, 0, 0, 0, 0), (49, 3, 1, 12, 0, 7), (52, 3, 5, 900, 0, 0), (55, 1, 10, 0, 0, 0), (56, 1, 16, 0, 0, 0), (57, 1, 11, 0, 0, 0), (58, 2, 15, 4, 0, 0), (60, 1, 0, 0, 0, 0), (61, 3, 1, 12, 0, 7), (64, 2, 2, 4, 0, 0), (66, 1, 2, 1, 0, 0), (67, 1, 17, 0, 0, 0), (68, 1, 0, 0, 0, 0), (69, 3, 1, 12, 0, 7), (72, 2, 2, 4, 0, 0), (74, 1, 3, 1, 0, 0), (75, 1, 11, 0, 0, 0), (76, 1, 2, 2, 0, 0), (77, 1, 17, 0, 0, 0), (78, 1, 0, 0, 0, 0), (79, 3, 1, 12, 0, 7), (82, 2, 2, 4, 0, 0), (84, 1, 3, 2, 0, 0), (85, 1, 11, 0, 0, 0), (86, 1, 2, 3, 0, 0), (87, 1, 17, 0, 0, 0), (88, 1, 0, 0, 0, 0), (89, 3, 1, 12, 0, 7), (92, 3, 5, 900, 0, 0), (95, 1, 39, 0, 0, 0), (96, 1, 10, 0, 0, 0), (97, 1, 3, 1, 0, 0), (98, 1, 11, 0, 0, 0), (99, 1, 17, 0, 0, 0), (100, 1, 0, 0, 0, 0), (101, 3, 1, 12, 0, 7), (104, 3, 5, 900, 0, 0), (107, 1, 10, 0, 0, 0), (108, 1, 3, 1, 0, 0), (109, 1, 18, 0, 0, 0), (110, 1, 12, 0, 1, 0)]) rfl) ?_
          refine xg_t (xg_sip) ?_
          refine xg_t (xg_const) ?_
          refine xg_t (xg_aload (va := (2, 82)) rfl rfl) ?_
          refine xg_t (xg_getf (va := (2, 83)) (hF50.get (by decide) h82_31) rfl) ?_
          refine xg_t (xg_sip) ?_
          refine xg_ialdB (n := 900) (B := 4294967295) (h83_34.fr hF50 (by decide)) (hb35) xnm0 (by omega) (fun u57 hu58 he59 => ?_)
          have hl60 : u57 ≤ 4 := by rw [← he59]; exact hx36.l900
          refine xg_t (xg_imul (u := 3) (v := u57) (z := 3 * u57) xnm0 xnm0 (by omega)) ?_
          refine xg_t (xg_iadd (u := 950) (v := 3 * u57) (z := 950 + (3 * u57)) xnm0 xnm0 (by omega)) ?_
          refine xg_t (xg_istore (l1 := [(0, (2, 82)), (1, (0, fi)), (2, (0, fo)), (3, (0, ro))]) rfl rfl rfl) ?_
          refine xg_t (xg_aload (va := (2, 82)) rfl rfl) ?_
          refine xg_t (xg_getf (va := (2, 83)) (hF50.get (by decide) h82_31) rfl) ?_
          refine xg_t (xg_iload (va := (0, 950 + (3 * u57))) rfl rfl) ?_
          refine xg_t (xg_iload (va := (0, fi)) rfl rfl) ?_
          refine xg_iastK (n := 950 + (3 * u57)) (u := fi) (h83_34.fr hF50 (by decide)) xnm0 xnm0 rfl (by omega) (fun w61 hr62 hb63 => ?_)
          have hx64 : okA (fun j => if j = 950 + (3 * u57) then fi else g83_33 j) := hx36.upd (by omega) (by omega) (by omega) (fun _ => by omega) (by omega) (fun _ => by omega) (fun _ => by omega) (fun _ => by omega) (fun _ => by omega) (by omega) (fun _ _ => by omega)
          have hb65 : ∀ j, (fun j => if j = 950 + (3 * u57) then fi else g83_33 j) j ≤ 4294967295 := xrb (by omega) (hb35)
          obtain ⟨g66, hg67⟩ : ∃ g : Nat → Nat, g = (fun j => if j = 950 + (3 * u57) then fi else g83_33 j) := ⟨_, rfl⟩
          rw [← hg67] at hr62
          have he68 : g66 (950 + (3 * u57)) = fi := by rw [hg67]; exact if_pos rfl
          have hk69 : ∀ j, j ≠ 950 + (3 * u57) → g66 j = g83_33 j := fun j hj => by rw [hg67]; exact if_neg hj
          rw [← hg67] at hx64
          rw [← hg67] at hb65
          have hk70 : g66 900 = g83_33 900 := hk69 900 (by omega)
          refine xg_t (xg_aload (va := (2, 82)) rfl rfl) ?_
          refine xg_t (xg_getf (va := (2, 83)) (hb63.get (by decide) (hF50.get (by decide) h82_31)) rfl) ?_
          refine xg_t (xg_iload (va := (0, 950 + (3 * u57))) rfl rfl) ?_
          refine xg_t (xg_const) ?_
          refine xg_t (xg_iadd (u := 950 + (3 * u57)) (v := 1) (z := (950 + (3 * u57)) + 1) xnm0 xnm0 (by omega)) ?_
          refine xg_t (xg_iload (va := (0, fo)) rfl rfl) ?_
          refine xg_iastK (n := (950 + (3 * u57)) + 1) (u := fo) hr62 xnm0 xnm0 rfl (by omega) (fun w71 hr72 hb73 => ?_)
          have hx74 : okA (fun j => if j = (950 + (3 * u57)) + 1 then fo else g66 j) := hx64.upd (by omega) (by omega) (by omega) (fun _ => by omega) (by omega) (fun _ => by omega) (fun _ => by omega) (fun _ => by omega) (fun _ => by omega) (by omega) (fun _ _ => by omega)
          have hb75 : ∀ j, (fun j => if j = (950 + (3 * u57)) + 1 then fo else g66 j) j ≤ 4294967295 := xrb (by omega) (hb65)
          obtain ⟨g76, hg77⟩ : ∃ g : Nat → Nat, g = (fun j => if j = (950 + (3 * u57)) + 1 then fo else g66 j) := ⟨_, rfl⟩
          rw [← hg77] at hr72
          have he78 : g76 ((950 + (3 * u57)) + 1) = fo := by rw [hg77]; exact if_pos rfl
          have hk79 : ∀ j, j ≠ (950 + (3 * u57)) + 1 → g76 j = g66 j := fun j hj => by rw [hg77]; exact if_neg hj
          rw [← hg77] at hx74
          rw [← hg77] at hb75
          have hk80 : g76 900 = g66 900 := hk79 900 (by omega)
          refine xg_t (xg_aload (va := (2, 82)) rfl rfl) ?_
          refine xg_t (xg_getf (va := (2, 83)) (hb73.get (by decide) (hb63.get (by decide) (hF50.get (by decide) h82_31))) rfl) ?_
          refine xg_t (xg_iload (va := (0, 950 + (3 * u57))) rfl rfl) ?_
          refine xg_t (xg_const) ?_
          refine xg_t (xg_iadd (u := 950 + (3 * u57)) (v := 2) (z := (950 + (3 * u57)) + 2) xnm0 xnm0 (by omega)) ?_
          refine xg_t (xg_iload (va := (0, ro)) rfl rfl) ?_
          refine xg_iastK (n := (950 + (3 * u57)) + 2) (u := ro) hr72 xnm0 xnm0 rfl (by omega) (fun w81 hr82 hb83 => ?_)
          have hx84 : okA (fun j => if j = (950 + (3 * u57)) + 2 then ro else g76 j) := hx74.upd (by omega) (by omega) (by omega) (fun _ => by omega) (by omega) (fun _ => by omega) (fun _ => by omega) (fun _ => by omega) (fun _ => by omega) (by omega) (fun _ _ => by omega)
          have hb85 : ∀ j, (fun j => if j = (950 + (3 * u57)) + 2 then ro else g76 j) j ≤ 4294967295 := xrb (by omega) (hb75)
          obtain ⟨g86, hg87⟩ : ∃ g : Nat → Nat, g = (fun j => if j = (950 + (3 * u57)) + 2 then ro else g76 j) := ⟨_, rfl⟩
          rw [← hg87] at hr82
          have he88 : g86 ((950 + (3 * u57)) + 2) = ro := by rw [hg87]; exact if_pos rfl
          have hk89 : ∀ j, j ≠ (950 + (3 * u57)) + 2 → g86 j = g76 j := fun j hj => by rw [hg87]; exact if_neg hj
          rw [← hg87] at hx84
          rw [← hg87] at hb85
          have hk90 : g86 900 = g76 900 := hk89 900 (by omega)
          refine xg_t (xg_aload (va := (2, 82)) rfl rfl) ?_
          refine xg_t (xg_getf (va := (2, 83)) (hb83.get (by decide) (hb73.get (by decide) (hb63.get (by decide) (hF50.get (by decide) h82_31)))) rfl) ?_
          refine xg_t (xg_sip) ?_
          refine xg_t (xg_dup2 rfl) ?_
          refine xg_ialdB (n := 900) (B := 4294967295) hr82 (hb85) xnm0 (by omega) (fun u91 hu92 he93 => ?_)
          have hl94 : u91 ≤ 4 := by rw [← he93]; exact hx84.l900
          refine xg_t (xg_const) ?_
          refine xg_t (xg_iadd (u := u91) (v := 1) (z := u91 + 1) xnm0 xnm0 (by omega)) ?_
          refine xg_iastK (n := 900) (u := u91 + 1) hr82 xnm0 xnm0 rfl (by omega) (fun w95 hr96 hb97 => ?_)
          have hx98 : okA (fun j => if j = 900 then u91 + 1 else g86 j) := hx84.upd (by omega) (by omega) (by omega) (fun _ => by omega) (by omega) (fun _ => by omega) (fun _ => by omega) (fun _ => by omega) (fun _ => by omega) (by omega) (fun _ _ => by omega)
          have hb99 : ∀ j, (fun j => if j = 900 then u91 + 1 else g86 j) j ≤ 4294967295 := xrb (by omega) (hb85)
          obtain ⟨g100, hg101⟩ : ∃ g : Nat → Nat, g = (fun j => if j = 900 then u91 + 1 else g86 j) := ⟨_, rfl⟩
          rw [← hg101] at hr96
          have he102 : g100 900 = u91 + 1 := by rw [hg101]; exact if_pos rfl
          have hk103 : ∀ j, j ≠ 900 → g100 j = g86 j := fun j hj => by rw [hg101]; exact if_neg hj
          rw [← hg101] at hx98
          rw [← hg101] at hb99
          refine xg_t (xg_aload (va := (2, 82)) rfl rfl) ?_
          refine xg_t (xg_getf (va := (2, 83)) (hb97.get (by decide) (hb83.get (by decide) (hb73.get (by decide) (hb63.get (by decide) (hF50.get (by decide) h82_31))))) rfl) ?_
          refine xg_t (xg_sip) ?_
          refine xg_ialdB (n := 900) (B := 4294967295) hr96 (hb99) xnm0 (by omega) (fun u104 hu105 he106 => ?_)
          have hl107 : u104 ≤ 4 := by rw [← he106]; exact hx98.l900
          refine xg_t (xg_const) ?_
          by_cases hc108 : 1 ≤ u104
          · refine xg_t (xg_isub (u := u104) (v := 1) (z := u104 - 1) xnm0 xnm0 (by omega)) ?_
            have hq109 : rwv w 83 900 = g83_33 900 := rwv_of h83_34 (by decide)
            have hq110 : g83_33 900 ≤ 4 := hx36.l900
            have hq111 : g66 900 = g83_33 900 := hk69 900 (by omega)
            have hq112 : g76 900 = g66 900 := hk79 900 (by omega)
            have hq113 : g86 900 = g76 900 := hk89 900 (by omega)
            have hq114 : g100 900 = u91 + 1 := he102
            have hq115 : rwv w95 83 900 = g100 900 := rwv_of hr96 (by decide)
            have hq117 : 950 + 3 * rwv w 83 900 = 950 + (3 * u57) := by omega
            have hq116 : rwv w95 83 (950 + 3 * rwv w 83 900) = fi := by
              rw [hq117, rwv_of hr96 (by omega), hk103 _ (by omega), hk89 _ (by omega), hk79 _ (by omega), he68]
            have hq119 : 950 + 3 * rwv w 83 900 + 1 = (950 + (3 * u57)) + 1 := by omega
            have hq118 : rwv w95 83 (950 + 3 * rwv w 83 900 + 1) = fo := by
              rw [hq119, rwv_of hr96 (by omega), hk103 _ (by omega), hk89 _ (by omega), he78]
            have hq121 : 950 + 3 * rwv w 83 900 + 2 = (950 + (3 * u57)) + 2 := by omega
            have hq120 : rwv w95 83 (950 + 3 * rwv w 83 900 + 2) = ro := by
              rw [hq121, rwv_of hr96 (by omega), hk103 _ (by omega), he88]
            exact xg_e ⟨u104 - 1, w95, ⟨rfl, rfl⟩, ⟨by omega, fun _ => ⟨hq116, hq118, hq120⟩, fun j hj h => (rwv_of hr96 h).trans (Eq.trans (by rw [hk103 j (by omega), hk89 j (by omega), hk79 j (by omega), hk69 j (by omega)]) (rwv_of h83_34 h).symm)⟩, xMnv.up (S := [83]) hI49 ((((xFr.of (S := [83]) hb63 (by decide)).tr (xFr.of (S := [83]) hb73 (by decide))).tr (xFr.of (S := [83]) hb83 (by decide))).tr (xFr.of (S := [83]) hb97 (by decide))) (List.forall_mem_cons.mpr ⟨(show cpx83 (wget w95 83) from ⟨_, hr96, hb99, hx98⟩), fun _ h => absurd h List.not_mem_nil⟩), ((hF50.up (by decide)).tr ((((xFr.of (S := [83]) hb63 (by decide)).tr (xFr.of (S := [83]) hb73 (by decide))).tr (xFr.of (S := [83]) hb83 (by decide))).tr (xFr.of (S := [83]) hb97 (by decide))))⟩
          · have hz124 : 4294967295 ≤ (u104 + (4294967296 - 1)) % 4294967296 := by omega
            refine xg_t (xg_isub (u := u104) (v := 1) (z := (u104 + (4294967296 - 1)) % 4294967296) xnm0 xnm0 rfl) ?_
            have hz123 : (u104 + (4294967296 - 1)) % 4294967296 < 4294967296 := Nat.mod_lt _ (by decide)
            generalize (u104 + (4294967296 - 1)) % 4294967296 = z122 at hz124 hz123 ⊢
            have hq125 : rwv w 83 900 = g83_33 900 := rwv_of h83_34 (by decide)
            have hq126 : g83_33 900 ≤ 4 := hx36.l900
            have hq127 : g66 900 = g83_33 900 := hk69 900 (by omega)
            have hq128 : g76 900 = g66 900 := hk79 900 (by omega)
            have hq129 : g86 900 = g76 900 := hk89 900 (by omega)
            have hq130 : g100 900 = u91 + 1 := he102
            have hq131 : rwv w95 83 900 = g100 900 := rwv_of hr96 (by decide)
            have hq133 : 950 + 3 * rwv w 83 900 = 950 + (3 * u57) := by omega
            have hq132 : rwv w95 83 (950 + 3 * rwv w 83 900) = fi := by
              rw [hq133, rwv_of hr96 (by omega), hk103 _ (by omega), hk89 _ (by omega), hk79 _ (by omega), he68]
            have hq135 : 950 + 3 * rwv w 83 900 + 1 = (950 + (3 * u57)) + 1 := by omega
            have hq134 : rwv w95 83 (950 + 3 * rwv w 83 900 + 1) = fo := by
              rw [hq135, rwv_of hr96 (by omega), hk103 _ (by omega), hk89 _ (by omega), he78]
            have hq137 : 950 + 3 * rwv w 83 900 + 2 = (950 + (3 * u57)) + 2 := by omega
            have hq136 : rwv w95 83 (950 + 3 * rwv w 83 900 + 2) = ro := by
              rw [hq137, rwv_of hr96 (by omega), hk103 _ (by omega), he88]
            exact xg_e ⟨z122, w95, ⟨rfl, rfl⟩, ⟨by omega, fun _ => ⟨hq132, hq134, hq136⟩, fun j hj h => (rwv_of hr96 h).trans (Eq.trans (by rw [hk103 j (by omega), hk89 j (by omega), hk79 j (by omega), hk69 j (by omega)]) (rwv_of h83_34 h).symm)⟩, xMnv.up (S := [83]) hI49 ((((xFr.of (S := [83]) hb63 (by decide)).tr (xFr.of (S := [83]) hb73 (by decide))).tr (xFr.of (S := [83]) hb83 (by decide))).tr (xFr.of (S := [83]) hb97 (by decide))) (List.forall_mem_cons.mpr ⟨(show cpx83 (wget w95 83) from ⟨_, hr96, hb99, hx98⟩), fun _ h => absurd h List.not_mem_nil⟩), ((hF50.up (by decide)).tr ((((xFr.of (S := [83]) hb63 (by decide)).tr (xFr.of (S := [83]) hb73 (by decide))).tr (xFr.of (S := [83]) hb83 (by decide))).tr (xFr.of (S := [83]) hb97 (by decide))))⟩
      · refine xg_t (xg_ifT (u := (if 1 ≤ fo ∧ fo ≤ 999 then 1 else 0)) rfl xnm0 (xj_eqT (xite0 hc46))) ?_
        refine xg_t (xg_blk (b := [(42, 1, 3, 4294967295, 0, 0), (43, 1, 12, 0, 1, 0)]) rfl) ?_
        refine xg_t (xg_const) ?_
        have hq138 : rwv w 83 900 = g83_33 900 := rwv_of h83_34 (by decide)
        have hq139 : g83_33 900 ≤ 4 := hx36.l900
        have hq140 : rwv w 83 900 = g83_33 900 := rwv_of h83_34 (by decide)
        exact xg_e ⟨4294967295, w, ⟨rfl, rfl⟩, ⟨by omega, fun h => absurd h (by omega), fun j _ h => (rwv_of h83_34 h).trans (rwv_of h83_34 h).symm⟩, hI, xFr.rf⟩
    · refine xg_t (xg_ifT (u := (if 1 ≤ fi ∧ fi ≤ 999 then 1 else 0)) rfl xnm0 (xj_eqT (xite0 hc45))) ?_
      refine xg_t (xg_blk (b := [(42, 1, 3, 4294967295, 0, 0), (43, 1, 12, 0, 1, 0)]) rfl) ?_
      refine xg_t (xg_const) ?_
      have hq141 : rwv w 83 900 = g83_33 900 := rwv_of h83_34 (by decide)
      have hq142 : g83_33 900 ≤ 4 := hx36.l900
      have hq143 : rwv w 83 900 = g83_33 900 := rwv_of h83_34 (by decide)
      exact xg_e ⟨4294967295, w, ⟨rfl, rfl⟩, ⟨by omega, fun h => absurd h (by omega), fun j _ h => (rwv_of h83_34 h).trans (rwv_of h83_34 h).symm⟩, hI, xFr.rf⟩
end XEM3
end
section
/-! rows told in both -/
theorem rq.hand {w w1 w2 : List (List xE)} {S : List Nat} {n n2 fi fo ro : Nat} (h : rq w 18 900 950 3 4 0) (hF : ((n = fld w 18 3 ∧ fld w 18 3 < 4 ∧ ((1 ≤ fi ∧ fi ≤ 999) ∧ (1 ≤ fo ∧ fo ≤ 999) ∧ (1 ≤ ro ∧ ro ≤ 9999)) ∧ fld w1 18 3 = fld w 18 3 + 1) ∨ (n = 4294967295 ∧ ¬ (fld w 18 3 < 4 ∧ ((1 ≤ fi ∧ fi ≤ 999) ∧ (1 ≤ fo ∧ fo ≤ 999) ∧ (1 ≤ ro ∧ ro ≤ 9999))) ∧ w1 = w)) ∧ (n ≠ 4294967295 → rwv w1 19 (3 * fld w 18 3) = fi ∧ rwv w1 19 (3 * fld w 18 3 + 1) = fo ∧ rwv w1 19 (3 * fld w 18 3 + 2) = ro) ∧ (∀ j, (j < 3 * fld w 18 3 ∨ 3 * fld w 18 3 + 3 ≤ j) → j < 12 → rwv w1 19 j = rwv w 19 j)) (hR : xFr S w w1) (hS : 83 ∉ S) (hG : ((n2 = rwv w1 83 900 ∧ rwv w1 83 900 < 4 ∧ ((1 ≤ fi ∧ fi ≤ 999) ∧ (1 ≤ fo ∧ fo ≤ 999) ∧ (1 ≤ ro ∧ ro ≤ 9999)) ∧ rwv w2 83 900 = rwv w1 83 900 + 1) ∨ (n2 = 4294967295 ∧ ¬ (rwv w1 83 900 < 4 ∧ ((1 ≤ fi ∧ fi ≤ 999) ∧ (1 ≤ fo ∧ fo ≤ 999) ∧ (1 ≤ ro ∧ ro ≤ 9999))) ∧ rwv w2 83 900 = rwv w1 83 900)) ∧ (n2 ≠ 4294967295 → rwv w2 83 (950 + 3 * rwv w1 83 900) = fi ∧ rwv w2 83 (950 + 3 * rwv w1 83 900 + 1) = fo ∧ rwv w2 83 (950 + 3 * rwv w1 83 900 + 2) = ro) ∧ (∀ j, (j ≠ 900 ∧ (j < 950 + 3 * rwv w1 83 900 ∨ 953 + 3 * rwv w1 83 900 ≤ j)) → j < 5360 → rwv w2 83 j = rwv w1 83 j)) (hR2 : xFr [83] w1 w2) : n = n2 ∧ rq w2 18 900 950 3 4 0 := by
  have hz := h.sz
  have hlm := h.2.1
  obtain ⟨f1, f2, f3⟩ := hF
  obtain ⟨g1, g2, g3⟩ := hG
  have b : ∀ j, rwv w1 83 j = rwv w 83 j := fun j => rwv_fr hR hS
  have bm := b 900
  have c18 : fld w2 18 3 = fld w1 18 3 := fld_fr hR2 (by decide)
  have c19 : ∀ j, rwv w2 19 j = rwv w1 19 j := fun j => rwv_fr hR2 (by decide)
  rcases f1 with ⟨x1, x2, x3, x4⟩ | ⟨x1, x2, x3⟩
  · rcases g1 with ⟨z1, z2, z3, z4⟩ | ⟨-, z2, -⟩
    · obtain ⟨u0, u1, u2⟩ := f2 (by omega)
      obtain ⟨v0, v1, v2⟩ := g2 (by omega)
      refine ⟨by omega, h.push (by omega) x2 (by omega) (fun j hj => (c19 j).trans (f3 j (by omega) (by omega))) (fun j hj => (g3 (950 + j) (by omega) (by omega)).trans (b _)) (fun t ht => ?_)⟩
      show rwv w2 19 _ = _
      rcases (show t = 0 ∨ t = 1 ∨ t = 2 by omega) with rfl | rfl | rfl
      · rw [show fld w 18 3 * 3 + 0 = 3 * fld w 18 3 by omega, c19, u0, show 950 + (3 * fld w 18 3) = 950 + 3 * rwv w1 83 900 by omega, v0]
      · rw [show fld w 18 3 * 3 + 1 = 3 * fld w 18 3 + 1 by omega, c19, u1, show 950 + (3 * fld w 18 3 + 1) = 950 + 3 * rwv w1 83 900 + 1 by omega, v1]
      · rw [show fld w 18 3 * 3 + 2 = 3 * fld w 18 3 + 2 by omega, c19, u2, show 950 + (3 * fld w 18 3 + 2) = 950 + 3 * rwv w1 83 900 + 2 by omega, v2]
    · exact absurd ⟨by omega, x3⟩ z2
  · rcases g1 with ⟨-, z2, z3, -⟩ | ⟨z1, -, z3⟩
    · exact absurd ⟨by omega, z3⟩ x2
    · exact ⟨by omega, h.kq ((hR2.1 18 (by decide)).trans (by rw [x3])) ((hR2.1 19 (by decide)).trans (by rw [x3])) (by omega) (fun j hj => (g3 (950 + j) (by omega) (by omega)).trans (b _))⟩
theorem rq.test {w w1 w2 : List (List xE)} {S : List Nat} {n n2 sp fo fi cr : Nat} (h : rq w 20 901 970 4 12 0) (hF : ((n = fld w 20 3 ∧ fld w 20 3 < 12 ∧ ((1 ≤ sp ∧ sp ≤ 9) ∧ (1 ≤ fo ∧ fo ≤ 999999) ∧ (1 ≤ fi ∧ fi ≤ 99) ∧ cr ≤ fi) ∧ fld w1 20 3 = fld w 20 3 + 1 ∧ fld w1 76 9 = 0 ∧ fld w1 76 10 = 0 ∧ fld w1 76 11 = 0) ∨ (n = 4294967295 ∧ ¬ (fld w 20 3 < 12 ∧ ((1 ≤ sp ∧ sp ≤ 9) ∧ (1 ≤ fo ∧ fo ≤ 999999) ∧ (1 ≤ fi ∧ fi ≤ 99) ∧ cr ≤ fi)) ∧ w1 = w)) ∧ (n ≠ 4294967295 → rwv w1 21 (4 * fld w 20 3) = sp ∧ rwv w1 21 (4 * fld w 20 3 + 1) = fo ∧ rwv w1 21 (4 * fld w 20 3 + 2) = fi ∧ rwv w1 21 (4 * fld w 20 3 + 3) = cr) ∧ (∀ j, (j < 4 * fld w 20 3 ∨ 4 * fld w 20 3 + 4 ≤ j) → j < 48 → rwv w1 21 j = rwv w 21 j)) (hR : xFr S w w1) (hS : 83 ∉ S) (hG : ((n2 = rwv w1 83 901 ∧ rwv w1 83 901 < 12 ∧ ((1 ≤ sp ∧ sp ≤ 9) ∧ (1 ≤ fo ∧ fo ≤ 999999) ∧ (1 ≤ fi ∧ fi ≤ 99) ∧ cr ≤ fi) ∧ rwv w2 83 901 = rwv w1 83 901 + 1) ∨ (n2 = 4294967295 ∧ ¬ (rwv w1 83 901 < 12 ∧ ((1 ≤ sp ∧ sp ≤ 9) ∧ (1 ≤ fo ∧ fo ≤ 999999) ∧ (1 ≤ fi ∧ fi ≤ 99) ∧ cr ≤ fi)) ∧ rwv w2 83 901 = rwv w1 83 901)) ∧ (n2 ≠ 4294967295 → rwv w2 83 (970 + 4 * rwv w1 83 901) = sp ∧ rwv w2 83 (970 + 4 * rwv w1 83 901 + 1) = fo ∧ rwv w2 83 (970 + 4 * rwv w1 83 901 + 2) = fi ∧ rwv w2 83 (970 + 4 * rwv w1 83 901 + 3) = cr) ∧ (∀ j, (j ≠ 901 ∧ (j < 970 + 4 * rwv w1 83 901 ∨ 974 + 4 * rwv w1 83 901 ≤ j)) → j < 5360 → rwv w2 83 j = rwv w1 83 j)) (hR2 : xFr [83] w1 w2) : n = n2 ∧ rq w2 20 901 970 4 12 0 := by
  have hz := h.sz
  have hlm := h.2.1
  obtain ⟨f1, f2, f3⟩ := hF
  obtain ⟨g1, g2, g3⟩ := hG
  have b : ∀ j, rwv w1 83 j = rwv w 83 j := fun j => rwv_fr hR hS
  have bm := b 901
  have c18 : fld w2 20 3 = fld w1 20 3 := fld_fr hR2 (by decide)
  have c19 : ∀ j, rwv w2 21 j = rwv w1 21 j := fun j => rwv_fr hR2 (by decide)
  rcases f1 with ⟨x1, x2, x3, x4, -, -, -⟩ | ⟨x1, x2, x3⟩
  · rcases g1 with ⟨z1, z2, z3, z4⟩ | ⟨-, z2, -⟩
    · obtain ⟨u0, u1, u2, u3⟩ := f2 (by omega)
      obtain ⟨v0, v1, v2, v3⟩ := g2 (by omega)
      refine ⟨by omega, h.push (by omega) x2 (by omega) (fun j hj => (c19 j).trans (f3 j (by omega) (by omega))) (fun j hj => (g3 (970 + j) (by omega) (by omega)).trans (b _)) (fun t ht => ?_)⟩
      show rwv w2 21 _ = _
      rcases (show t = 0 ∨ t = 1 ∨ t = 2 ∨ t = 3 by omega) with rfl | rfl | rfl | rfl
      · rw [show fld w 20 3 * 4 + 0 = 4 * fld w 20 3 by omega, c19, u0, show 970 + (4 * fld w 20 3) = 970 + 4 * rwv w1 83 901 by omega, v0]
      · rw [show fld w 20 3 * 4 + 1 = 4 * fld w 20 3 + 1 by omega, c19, u1, show 970 + (4 * fld w 20 3 + 1) = 970 + 4 * rwv w1 83 901 + 1 by omega, v1]
      · rw [show fld w 20 3 * 4 + 2 = 4 * fld w 20 3 + 2 by omega, c19, u2, show 970 + (4 * fld w 20 3 + 2) = 970 + 4 * rwv w1 83 901 + 2 by omega, v2]
      · rw [show fld w 20 3 * 4 + 3 = 4 * fld w 20 3 + 3 by omega, c19, u3, show 970 + (4 * fld w 20 3 + 3) = 970 + 4 * rwv w1 83 901 + 3 by omega, v3]
    · exact absurd ⟨by omega, x3⟩ z2
  · rcases g1 with ⟨-, z2, z3, -⟩ | ⟨z1, -, z3⟩
    · exact absurd ⟨by omega, z3⟩ x2
    · exact ⟨by omega, h.kq ((hR2.1 20 (by decide)).trans (by rw [x3])) ((hR2.1 21 (by decide)).trans (by rw [x3])) (by omega) (fun j hj => (g3 (970 + j) (by omega) (by omega)).trans (b _))⟩
theorem aqP.pic {w w1 w2 : List (List xE)} {S : List Nat} {n n2 pa pb pc_ pd li ho : Nat} (h : aqP w 1 0) (hN : fld w 3 7 = rwv w 83 5 ∧ fld w 3 8 = rwv w 83 6) (hF : ((n = fld w 16 3 + 1 ∧ fld w 16 3 < 12 ∧ ((pa ≤ pb ∧ pb < fld w 3 7) ∧ (pc_ ≤ pd ∧ pd < fld w 3 8) ∧ (1 ≤ li ∧ li ≤ 9) ∧ (1 ≤ ho ∧ ho ≤ 999)) ∧ fld w1 16 3 = fld w 16 3 + 1 ∧ fld w1 68 4 = 0) ∨ (n = 4294967295 ∧ ¬ (fld w 16 3 < 12 ∧ ((pa ≤ pb ∧ pb < fld w 3 7) ∧ (pc_ ≤ pd ∧ pd < fld w 3 8) ∧ (1 ≤ li ∧ li ≤ 9) ∧ (1 ≤ ho ∧ ho ≤ 999))) ∧ w1 = w)) ∧ (n ≠ 4294967295 → rwv w1 17 (5 * fld w 16 3) = pa ∧ rwv w1 17 (5 * fld w 16 3 + 1) = pb ∧ rwv w1 17 (5 * fld w 16 3 + 2) = pc_ ∧ rwv w1 17 (5 * fld w 16 3 + 3) = pd ∧ rwv w1 17 (5 * fld w 16 3 + 4) = li * ho) ∧ (∀ j, (j < 5 * fld w 16 3 ∨ 5 * fld w 16 3 + 5 ≤ j) → j < 60 → rwv w1 17 j = rwv w 17 j)) (hR : xFr S w w1) (hS : 83 ∉ S) (hG : ((n2 = rwv w1 83 10 + 1 ∧ rwv w1 83 10 < 12 ∧ ((pa ≤ pb ∧ pb < rwv w1 83 5) ∧ (pc_ ≤ pd ∧ pd < rwv w1 83 6) ∧ (1 ≤ li ∧ li ≤ 9) ∧ (1 ≤ ho ∧ ho ≤ 999)) ∧ rwv w2 83 10 = rwv w1 83 10 + 1) ∨ (n2 = 4294967295 ∧ ¬ (rwv w1 83 10 < 12 ∧ ((pa ≤ pb ∧ pb < rwv w1 83 5) ∧ (pc_ ≤ pd ∧ pd < rwv w1 83 6) ∧ (1 ≤ li ∧ li ≤ 9) ∧ (1 ≤ ho ∧ ho ≤ 999))) ∧ rwv w2 83 10 = rwv w1 83 10)) ∧ (n2 ≠ 4294967295 → rwv w2 83 (300 + 6 * rwv w1 83 10) = pa ∧ rwv w2 83 (300 + 6 * rwv w1 83 10 + 1) = pb ∧ rwv w2 83 (300 + 6 * rwv w1 83 10 + 2) = pc_ ∧ rwv w2 83 (300 + 6 * rwv w1 83 10 + 3) = pd ∧ rwv w2 83 (300 + 6 * rwv w1 83 10 + 4) = li ∧ rwv w2 83 (300 + 6 * rwv w1 83 10 + 5) = ho) ∧ (∀ j, (j ≠ 10 ∧ (j < 300 + 6 * rwv w1 83 10 ∨ 306 + 6 * rwv w1 83 10 ≤ j)) → j < 5360 → rwv w2 83 j = rwv w1 83 j)) (hR2 : xFr [83] w1 w2) : n = n2 ∧ aqP w2 1 0 := by
  obtain ⟨h1, hlm, h3⟩ := h
  obtain ⟨hn1, hn2⟩ := hN
  have hz : fld w 16 3 = rwv w 83 10 := h1
  have hlm : fld w 16 3 ≤ 12 := hlm
  have h3 : ∀ i, i < fld w 16 3 → (∀ t, t < 4 → rwv w 17 (5 * i + t) = rwv w 83 (1340 * 0 + (300 + 6 * i + t))) ∧ rwv w 17 (5 * i + 4) = rwv w 83 (1340 * 0 + (304 + 6 * i)) * rwv w 83 (1340 * 0 + (305 + 6 * i)) := h3
  obtain ⟨f1, f2, f3⟩ := hF
  obtain ⟨g1, g2, g3⟩ := hG
  have b : ∀ j, rwv w1 83 j = rwv w 83 j := fun j => rwv_fr hR hS
  have b10 := b 10
  have b5 := b 5
  have b6 := b 6
  have c16 : fld w2 16 3 = fld w1 16 3 := fld_fr hR2 (by decide)
  have c17 : ∀ j, rwv w2 17 j = rwv w1 17 j := fun j => rwv_fr hR2 (by decide)
  have old : ∀ i, i < fld w 16 3 → (∀ j, j < 5 * fld w 16 3 → rwv w1 17 j = rwv w 17 j) → (∀ t, t < 4 → rwv w2 17 (5 * i + t) = rwv w2 83 (1340 * 0 + (300 + 6 * i + t))) ∧ rwv w2 17 (5 * i + 4) = rwv w2 83 (1340 * 0 + (304 + 6 * i)) * rwv w2 83 (1340 * 0 + (305 + 6 * i)) := by
    intro i hi hk
    obtain ⟨q1, q2⟩ := h3 i hi
    refine ⟨fun t ht => ?_, ?_⟩
    · have q := q1 t ht
      rw [Nat.mul_zero, Nat.zero_add] at q ⊢
      rw [c17, hk _ (by omega), q, g3 (300 + 6 * i + t) (by omega) (by omega), b]
    · rw [Nat.mul_zero, Nat.zero_add, Nat.zero_add] at q2 ⊢
      rw [c17, hk _ (by omega), q2, g3 (304 + 6 * i) (by omega) (by omega), g3 (305 + 6 * i) (by omega) (by omega), b, b]
  rcases f1 with ⟨x1, x2, x3, x4, -⟩ | ⟨x1, x2, x3⟩
  · rcases g1 with ⟨z1, z2, z3, z4⟩ | ⟨-, z2, -⟩
    · obtain ⟨u0, u1, u2, u3, u4⟩ := f2 (by omega)
      obtain ⟨v0, v1, v2, v3, v4, v5⟩ := g2 (by omega)
      refine ⟨by omega, (show fld w2 16 3 = rwv w2 83 10 by omega), (show fld w2 16 3 ≤ 12 by omega), fun i hi => ?_⟩
      have hi : i < fld w2 16 3 := hi
      show (∀ t, t < 4 → rwv w2 17 (5 * i + t) = rwv w2 83 (1340 * 0 + (300 + 6 * i + t))) ∧ rwv w2 17 (5 * i + 4) = rwv w2 83 (1340 * 0 + (304 + 6 * i)) * rwv w2 83 (1340 * 0 + (305 + 6 * i))
      by_cases y : i < fld w 16 3
      · exact old i y (fun j hj => f3 j (by omega) (by omega))
      · have e : i = fld w 16 3 := by omega
        subst e
        refine ⟨fun t ht => ?_, ?_⟩
        · rw [Nat.mul_zero, Nat.zero_add, c17]
          rcases (show t = 0 ∨ t = 1 ∨ t = 2 ∨ t = 3 by omega) with rfl | rfl | rfl | rfl
          · rw [Nat.add_zero, Nat.add_zero, u0, show 300 + 6 * fld w 16 3 = 300 + 6 * rwv w1 83 10 by omega, v0]
          · rw [u1, show 300 + 6 * fld w 16 3 + 1 = 300 + 6 * rwv w1 83 10 + 1 by omega, v1]
          · rw [u2, show 300 + 6 * fld w 16 3 + 2 = 300 + 6 * rwv w1 83 10 + 2 by omega, v2]
          · rw [u3, show 300 + 6 * fld w 16 3 + 3 = 300 + 6 * rwv w1 83 10 + 3 by omega, v3]
        · rw [Nat.mul_zero, Nat.zero_add, Nat.zero_add, c17, u4, show 304 + 6 * fld w 16 3 = 300 + 6 * rwv w1 83 10 + 4 by omega, v4, show 305 + 6 * fld w 16 3 = 300 + 6 * rwv w1 83 10 + 5 by omega, v5]
    · exact absurd ⟨by omega, by omega⟩ z2
  · rcases g1 with ⟨-, z2, z3, -⟩ | ⟨z1, -, z3⟩
    · exact absurd ⟨by omega, by omega⟩ x2
    · have e16 : fld w1 16 3 = fld w 16 3 := by rw [x3]
      have e17 : ∀ j, rwv w1 17 j = rwv w 17 j := fun j => by rw [x3]
      refine ⟨by omega, (show fld w2 16 3 = rwv w2 83 10 by omega), (show fld w2 16 3 ≤ 12 by omega), fun i hi => ?_⟩
      have hi : i < fld w2 16 3 := hi
      exact old i (by omega) (fun j _ => e17 j)
end
section
/-- without sign -/
def iab (x : Int64) : Int64 := if 0 < x then x else -x
section XBD
variable {r o r' o' : Nat → Nat} {n p q : Nat}
def bT (r o : Nat → Nat) (p : Nat) : Nat := r (4 * o p)
def bS (r o : Nat → Nat) (p : Nat) : Nat := r (4 * o p + 1)
def bM (r o : Nat → Nat) (p : Nat) : Nat := r (4 * o p + 2)
/-- the first layer of the block -/
def bfs (r : Nat → Nat) : Nat → Nat
  | 0 => 0
  | p + 1 => if r (4 * p + 3) = 1 then p + 1 else bfs r p
/-- heights -/
def bhg (r o : Nat → Nat) : Nat → Nat
  | 0 => 0
  | p + 1 => bhg r o p + bT r o p
def bt1 (r o : Nat → Nat) (p : Nat) : Nat := bT r o p * bS r o p * (2 * bhg r o p + bT r o p)
def bt2 (r o : Nat → Nat) (p : Nat) : Nat := 2 * (bT r o p * bS r o p)
/-- the sums of a block, up to a layer -/
def bsm' (r : Nat → Nat) (f : Nat → Nat) : Nat → Nat
  | 0 => 0 + f 0
  | p + 1 => (if r (4 * p + 3) = 1 then 0 else bsm' r f p) + f (p + 1)
/-- the rows of sums behind p layers -/
def bA (r : Nat → Nat) (f : Nat → Nat) : Nat → Nat → Nat
  | 0, _ => 0
  | p + 1, s => if s = bfs r p then bsm' r f p else bA r f p s
def bO (r o : Nat → Nat) (n p : Nat) : Nat := bA r (bt1 r o) n (bfs r p)
def bU (r o : Nat → Nat) (n p : Nat) : Nat := bA r (bt2 r o) n (bfs r p)
def blo (r o : Nat → Nat) (n p : Nat) : Int64 := lN (bhg r o p * bU r o n p) - lN (bO r o n p)
def bhi (r o : Nat → Nat) (n p : Nat) : Int64 := blo r o n p + lN (bT r o p * bU r o n p)
/-- how far the further face is -/
def bfr (r o : Nat → Nat) (n p : Nat) : Int64 := if iab (bhi r o n p) < iab (blo r o n p) then blo r o n p else bhi r o n p
/-! the same layers in the same order: the same sums -/
def bEq (r o r' o' : Nat → Nat) (n : Nat) : Prop := (∀ j, j < 4 * n → r' j = r j) ∧ ∀ q, q < n → o' q = o q ∧ o q < n
theorem bT_cg (h : bEq r o r' o' n) (hp : p < n) : bT r' o' p = bT r o p ∧ bS r' o' p = bS r o p ∧ bM r' o' p = bM r o p := by
  obtain ⟨h1, h2⟩ := h
  obtain ⟨a, b⟩ := h2 p hp
  unfold bT bS bM
  rw [a]
  exact ⟨h1 _ (by omega), h1 _ (by omega), h1 _ (by omega)⟩
theorem bfs_cg (h : bEq r o r' o' n) (hp : p < n) : bfs r' p = bfs r p := by
  induction p with
  | zero => rfl
  | succ p ih =>
    show (if r' (4 * p + 3) = 1 then p + 1 else bfs r' p) = (if r (4 * p + 3) = 1 then p + 1 else bfs r p)
    rw [h.1 _ (by omega), ih (by omega)]
theorem bhg_cg (h : bEq r o r' o' n) (hp : p ≤ n) : bhg r' o' p = bhg r o p := by
  induction p with
  | zero => rfl
  | succ p ih =>
    show bhg r' o' p + bT r' o' p = bhg r o p + bT r o p
    rw [ih (by omega), (bT_cg h (by omega)).1]
theorem bt_cg (h : bEq r o r' o' n) (hp : p < n) : bt1 r' o' p = bt1 r o p ∧ bt2 r' o' p = bt2 r o p := by
  obtain ⟨a, b, -⟩ := bT_cg h hp
  unfold bt1 bt2
  rw [a, b, bhg_cg h (by omega)]
  exact ⟨rfl, rfl⟩
theorem bsm_cg {f f' : Nat → Nat} (h : bEq r o r' o' n) (hf : ∀ q, q < n → f' q = f q) (hp : p < n) : bsm' r' f' p = bsm' r f p := by
  induction p with
  | zero =>
    show 0 + f' 0 = 0 + f 0
    rw [hf 0 hp]
  | succ p ih =>
    show (if r' (4 * p + 3) = 1 then 0 else bsm' r' f' p) + f' (p + 1) = (if r (4 * p + 3) = 1 then 0 else bsm' r f p) + f (p + 1)
    rw [h.1 _ (by omega), ih (by omega), hf _ hp]
theorem bA_cg {f f' : Nat → Nat} {k s : Nat} (h : bEq r o r' o' n) (hf : ∀ q, q < n → f' q = f q) (hk : k ≤ n) : bA r' f' k s = bA r f k s := by
  induction k with
  | zero => rfl
  | succ k ih =>
    show (if s = bfs r' k then bsm' r' f' k else bA r' f' k s) = (if s = bfs r k then bsm' r f k else bA r f k s)
    rw [bfs_cg h (by omega), bsm_cg h hf (by omega), ih (by omega)]
theorem bOU_cg (h : bEq r o r' o' n) (hp : p < n) : bO r' o' n p = bO r o n p ∧ bU r' o' n p = bU r o n p := by
  unfold bO bU
  rw [bfs_cg h hp]
  exact ⟨bA_cg h (fun q hq => (bt_cg h hq).1) (Nat.le_refl _), bA_cg h (fun q hq => (bt_cg h hq).2) (Nat.le_refl _)⟩
theorem bfr_cg (h : bEq r o r' o' n) (hp : p < n) : bfr r' o' n p = bfr r o n p := by
  have a : blo r' o' n p = blo r o n p := by
    unfold blo
    rw [bhg_cg h (by omega), (bOU_cg h hp).1, (bOU_cg h hp).2]
  have b : bhi r' o' n p = bhi r o n p := by
    unfold bhi
    rw [a, (bT_cg h hp).1, (bOU_cg h hp).2]
  unfold bfr
  rw [a, b]
end XBD
/-! what is asked of the bend -/
def bdw (w : List (List xE)) (r o : Nat → Nat) (n : Nat) : Prop := ∀ q, q < n → rwv w 52 q = bfs r q ∧ rwv w 51 q = bhg r o q ∧ rwk w 53 (bfs r q) = bO r o n q ∧ rwk w 54 (bfs r q) = bU r o n q ∧ lN (rwk w 55 q) = bfr r o n q
def bdm (w : List (List xE)) (r o : Nat → Nat) (n : Nat) : Prop := ∀ q, q < n → rwv w 91 q = bfs r q ∧ rwv w 90 q = bhg r o q ∧ rwk w 92 q = bO r o n q ∧ rwk w 93 q = bU r o n q ∧ lN (rwk w 94 q) = bfr r o n q
section XBQ
variable {M U M' U' : Nat → Nat} {F F' : Nat → Int64} {n p : Nat}
end XBQ
theorem bdw.kp {w w' : List (List xE)} {r o : Nat → Nat} {n : Nat} (h : bdw w r o n) (e : ∀ c, 50 ≤ c → c < 56 → wget w' c = wget w c) : bdw w' r o n := by
  intro q hq
  obtain ⟨a1, a2, a3, a4, a5⟩ := h q hq
  exact ⟨(rwv_eq (e 52 (by decide) (by decide))).trans a1, (rwv_eq (e 51 (by decide) (by decide))).trans a2, (rwk_eq (e 53 (by decide) (by decide))).trans a3, (rwk_eq (e 54 (by decide) (by decide))).trans a4, by rw [rwk_eq (e 55 (by decide) (by decide))]; exact a5⟩
theorem bdm.kp {w w' : List (List xE)} {r o : Nat → Nat} {n : Nat} (h : bdm w r o n) (e : ∀ c, 88 ≤ c → c < 95 → wget w' c = wget w c) : bdm w' r o n := by
  intro q hq
  obtain ⟨a1, a2, a3, a4, a5⟩ := h q hq
  exact ⟨(rwv_eq (e 91 (by decide) (by decide))).trans a1, (rwv_eq (e 90 (by decide) (by decide))).trans a2, (rwk_eq (e 92 (by decide) (by decide))).trans a3, (rwk_eq (e 93 (by decide) (by decide))).trans a4, by rw [rwk_eq (e 94 (by decide) (by decide))]; exact a5⟩
end
section
/-! the model: layers laid -/
theorem xMnv.lay {w : List (List xE)} (hI : xMnv w) {k i : Nat} (hk : k < rwv w 83 0) (hi : i < 3) : 1 ≤ rwv w 83 (20 + (4 * k + i)) ∧ rwv w 83 (20 + (4 * k + i)) ≤ 99 := by
  refine xoX83 (hI 83 (by decide) (by decide) : cpx83 (wget w 83)) (fun f h hb hx => ?_)
  rw [rwv_of (j := 0) h (by decide)] at hk
  have l := hx.l0
  have q := hx.lay hk hi
  rw [rwv_of (j := 20 + (4 * k + i)) h (by omega), ← Nat.add_assoc]
  exact q
theorem xMnv.l0 {w : List (List xE)} (hI : xMnv w) : rwv w 83 0 ≤ 6 := by
  refine xoX83 (hI 83 (by decide) (by decide) : cpx83 (wget w 83)) (fun f h hb hx => ?_)
  rw [rwv_of (j := 0) h (by decide)]
  exact hx.l0
section XBM
variable {d : Nat} {w : List (List xE)} {bd : List (Nat × Nat)} {fc : List (Nat × Nat × Bool)} {rr : Nat × Nat}
end XBM
end
section
/-! layers told alike: the bend's numbers -/
theorem al.beq {w : List (List xE)} (h : al w 1 0) : bEq (fun j => rwv w 83 (20 + j)) (fun q => q) (rwv w 5) (fun q => q) (fld w 4 3) := ⟨fun j hj => h.2.2.1.2.1.get (show j < fld w 4 3 * 4 by omega), fun _ hq => ⟨rfl, hq⟩⟩
theorem al.s0 {w : List (List xE)} (h : al w 1 0) : fld w 4 3 = rwv w 83 0 := h.2.2.1.2.1.sz
theorem al.ht {w : List (List xE)} (h : al w 1 0) (hM : xMnv w) : ∀ k i, k < fld w 4 3 → i < 3 → 1 ≤ rwv w 5 (4 * k + i) ∧ rwv w 5 (4 * k + i) ≤ 99 := fun k i hk hi => by
  have e : rwv w 5 (4 * k + i) = rwv w 83 (20 + (4 * k + i)) := h.2.2.1.2.1.get (show 4 * k + i < fld w 4 3 * 4 by omega)
  have s := h.s0
  rw [e]
  exact xMnv.lay hM (by omega) hi
end
section
/-- the life that folds of a round take from: 0 none, else its number and 1 -/
def wli (v : Nat → Nat) (U : Nat) (F : Int64) (ro : Nat) : Nat → Nat
  | 0 => 0
  | k + 1 => if ¬ lN 1000 * iab F < lN (v (2 * k) * ro * U) ∧ (wli v U F ro k = 0 ∨ v (2 * (wli v U F ro k - 1)) < v (2 * k)) then k + 1 else wli v U F ro k
section XWE
variable {v v' f f' g g' li t : Nat → Nat} {U U' ro n m k C : Nat} {F F' : Int64}
theorem wli_le : wli v U F ro k ≤ k := by
  induction k with
  | zero => exact Nat.le_refl _
  | succ k ih =>
    show (if ¬ lN 1000 * iab F < lN (v (2 * k) * ro * U) ∧ (wli v U F ro k = 0 ∨ v (2 * (wli v U F ro k - 1)) < v (2 * k)) then k + 1 else wli v U F ro k) ≤ k + 1
    split <;> omega
theorem wli_cg (h : ∀ j, j < 2 * n → v' j = v j) (hk : k ≤ n) : wli v' U F ro k = wli v U F ro k := by
  induction k with
  | zero => rfl
  | succ k ih =>
    have l := @wli_le v U ro k F
    show (if ¬ lN 1000 * iab F < lN (v' (2 * k) * ro * U) ∧ (wli v' U F ro k = 0 ∨ v' (2 * (wli v' U F ro k - 1)) < v' (2 * k)) then k + 1 else wli v' U F ro k) = (if ¬ lN 1000 * iab F < lN (v (2 * k) * ro * U) ∧ (wli v U F ro k = 0 ∨ v (2 * (wli v U F ro k - 1)) < v (2 * k)) then k + 1 else wli v U F ro k)
    rw [ih (by omega), h (2 * k) (by omega)]
    by_cases z : wli v U F ro k = 0
    · rw [z]
      simp only [eq_self, true_or]
    · rw [h (2 * (wli v U F ro k - 1)) (by omega)]
/-- sums -/
def sg (g : Nat → Nat) : Nat → Nat
  | 0 => 0
  | n + 1 => sg g n + g n
theorem sg_cg (h : ∀ k, k < n → g' k = g k) : sg g' n = sg g n := by
  induction n with
  | zero => rfl
  | succ n ih =>
    show sg g' n + g' n = sg g n + g n
    rw [ih (fun k hk => h k (by omega)), h n (by omega)]
theorem sg_add : sg (fun k => g k + g' k) n = sg g n + sg g' n := by
  induction n with
  | zero => rfl
  | succ n ih =>
    show sg (fun k => g k + g' k) n + (g n + g' n) = (sg g n + g n) + (sg g' n + g' n)
    omega
theorem sg_mul : sg (fun k => C * g k) n = C * sg g n := by
  induction n with
  | zero => rfl
  | succ n ih =>
    show sg (fun k => C * g k) n + C * g n = C * (sg g n + g n)
    rw [ih, Nat.mul_add]
theorem sg_le {B : Nat} (h : ∀ k, k < n → g k ≤ B) : sg g n ≤ B * n := by
  induction n with
  | zero => exact Nat.le_refl _
  | succ n ih =>
    have a := ih (fun k hk => h k (by omega))
    have b := h n (by omega)
    show sg g n + g n ≤ B * (n + 1)
    rw [Nat.mul_succ]
    omega
theorem sg_0 (h : ∀ k, k < n → g k = 0) : sg g n = 0 := by
  induction n with
  | zero => rfl
  | succ n ih =>
    show sg g n + g n = 0
    rw [ih (fun k hk => h k (by omega)), h n (by omega)]
theorem sg_one {j x : Nat} (hj : j ≤ n) : sg (fun k => g k * (if j = k + 1 then x else 0)) n = (if j = 0 then 0 else g (j - 1) * x) := by
  induction n with
  | zero =>
    rw [if_pos (by omega)]
    rfl
  | succ n ih =>
    show sg (fun k => g k * (if j = k + 1 then x else 0)) n + g n * (if j = n + 1 then x else 0) = _
    by_cases e : j = n + 1
    · rw [if_pos e, if_neg (by omega), sg_0 (fun k hk => by rw [if_neg (by omega), Nat.mul_zero]), e, Nat.add_sub_cancel, Nat.zero_add]
    · rw [if_neg e, Nat.mul_zero, Nat.add_zero]
      exact ih (by omega)
/-- the common life -/
def pr (v : Nat → Nat) : Nat → Nat
  | 0 => 1
  | k + 1 => pr v k * v (2 * k + 1)
theorem pr_rg (h : ∀ k, k < n → 1 ≤ v (2 * k + 1) ∧ v (2 * k + 1) ≤ 999) : 1 ≤ pr v n ∧ pr v n ≤ 999 ^ n := by
  induction n with
  | zero => exact ⟨Nat.le_refl _, Nat.le_refl _⟩
  | succ n ih =>
    obtain ⟨a, b⟩ := ih (fun k hk => h k (by omega))
    obtain ⟨c, d⟩ := h n (by omega)
    exact ⟨Nat.mul_le_mul a c, Nat.mul_le_mul b d⟩
theorem pr_le (h : ∀ k, k < n → 1 ≤ v (2 * k + 1) ∧ v (2 * k + 1) ≤ 999) (hn : n ≤ 4) : 1 ≤ pr v n ∧ pr v n ≤ 996005996001 := by
  obtain ⟨a, b⟩ := pr_rg h
  have c : 999 ^ n ≤ 999 ^ 4 := Nat.pow_le_pow_right (by decide) hn
  exact ⟨a, Nat.le_trans b c⟩
theorem pr_dvd (hk : k < n) : v (2 * k + 1) ∣ pr v n := by
  induction n with
  | zero => omega
  | succ n ih =>
    by_cases e : k = n
    · rw [e]
      exact Nat.dvd_mul_left _ _
    · exact Nat.dvd_trans (ih (by omega)) (Nat.dvd_mul_right _ _)
theorem pr_cg (h : ∀ j, j < 2 * n → v' j = v j) : pr v' n = pr v n := by
  induction n with
  | zero => rfl
  | succ n ih =>
    show pr v' n * v' (2 * n + 1) = pr v n * v (2 * n + 1)
    rw [ih (fun j hj => h j (by omega)), h _ (by omega)]
/-- folds by life -/
def wfd (li t : Nat → Nat) (m k : Nat) : Nat := sg (fun i => if li i = k + 1 then t i else 0) m
def wwh (v f : Nat → Nat) (n : Nat) : Nat := sg (fun k => f k / v (2 * k + 1)) n
def wpt (v f : Nat → Nat) (C n : Nat) : Nat := sg (fun k => (f k - f k / v (2 * k + 1) * v (2 * k + 1)) * (C / v (2 * k + 1))) n
def wml (v li t : Nat → Nat) (C m : Nat) : Nat := sg (fun i => if li i = 0 then 0 else C / v (2 * (li i - 1) + 1) * t i) m
theorem wml_eq (hl : ∀ i, i < m → li i ≤ n) : wml v li t C m = sg (fun k => C / v (2 * k + 1) * wfd li t m k) n := by
  induction m with
  | zero =>
    exact (sg_0 (fun k _ => Nat.mul_zero _)).symm
  | succ m ih =>
    show wml v li t C m + (if li m = 0 then 0 else C / v (2 * (li m - 1) + 1) * t m) = _
    rw [ih (fun i hi => hl i (by omega)), ← sg_one (g := fun k => C / v (2 * k + 1)) (x := t m) (hl m (by omega)), ← sg_add]
    exact sg_cg (fun k _ => by
      show _ = C / v (2 * k + 1) * (wfd li t m k + (if li m = k + 1 then t m else 0))
      rw [Nat.mul_add])
theorem wsum (h : ∀ k, k < n → 1 ≤ v (2 * k + 1) ∧ v (2 * k + 1) ∣ C) : sg (fun k => C / v (2 * k + 1) * f k) n = C * wwh v f n + wpt v f C n := by
  unfold wwh wpt
  rw [← sg_mul, ← sg_add]
  refine sg_cg (fun k hk => ?_)
  obtain ⟨h1, c, hc⟩ := h k hk
  show C / v (2 * k + 1) * f k = C * (f k / v (2 * k + 1)) + (f k - f k / v (2 * k + 1) * v (2 * k + 1)) * (C / v (2 * k + 1))
  clear h
  generalize v (2 * k + 1) = L at h1 hc ⊢
  generalize f k = x
  subst hc
  rw [Nat.mul_div_cancel_left c h1]
  have a : x / L * L ≤ x := Nat.div_mul_le_self x L
  have b : L * c * (x / L) = x / L * L * c := by rw [Nat.mul_comm (L * c), Nat.mul_assoc]
  rw [b, ← Nat.add_mul, Nat.add_sub_cancel' a, Nat.mul_comm]
/-- worn out: by whole lives, or by parts -/
theorem wout_eq {W P : Nat} (hC : 1 ≤ C) : (0 < W ∨ C ≤ P) ↔ C ≤ C * W + P := by
  constructor
  · rintro (h | h)
    · have a : C * 1 ≤ C * W := Nat.mul_le_mul_left C h
      omega
    · omega
  · intro h
    by_cases z : 0 < W
    · exact Or.inl z
    · have e : W = 0 := by omega
      rw [e, Nat.mul_zero] at h
      exact Or.inr (by omega)
theorem wfd_cg {li' t' : Nat → Nat} (h : ∀ i, i < m → li' i = li i ∧ t' i = t i) : wfd li' t' m k = wfd li t m k := sg_cg (fun i hi => by
  show (if li' i = k + 1 then t' i else 0) = (if li i = k + 1 then t i else 0)
  rw [(h i hi).1, (h i hi).2])
end XWE
/-! a row of longs filled, to the last -/
section XFJE
variable {d k v L t : Nat} {w : List (List xE)} {bd : List (Nat × Nat)} {fc : List (Nat × Nat × Bool)} {rr : Nat × Nat} {f : Nat → Nat}
end XFJE
end
section
/-! what numbers of the film and of hands can be; layers that tire, alike -/
def vF (R : Nat → Nat) : Prop := (R 0 ≤ 6 ∧ R 1 ≤ 4 ∧ R 2 ≤ 6 ∧ R 3 ≤ 4 ∧ R 4 ≤ 20) ∧ ((1 ≤ R 5 ∧ R 5 ≤ 6) ∧ (1 ≤ R 6 ∧ R 6 ≤ 6) ∧ (1 ≤ R 7 ∧ R 7 ≤ 10) ∧ (1 ≤ R 8 ∧ R 8 ≤ 10)) ∧ (∀ k, k < R 0 → R (20 + (4 * k + 3)) ≤ 1) ∧ (∀ k, k < R 1 → R (50 + 2 * k) ≤ 99 ∧ 1 ≤ R (50 + (2 * k + 1)) ∧ R (50 + (2 * k + 1)) ≤ 999) ∧ (∀ i, i < R 2 → (1 ≤ R (60 + (2 * i + 1)) ∧ R (60 + (2 * i + 1)) ≤ 9999) ∧ 1 ≤ R (60 + 2 * i) ∧ R (60 + 2 * i) ≤ 9999) ∧ (∀ k, k < R 3 → (1 ≤ R (80 + 3 * k) ∧ R (80 + 3 * k) ≤ 10) ∧ (1 ≤ R (80 + (3 * k + 1)) ∧ R (80 + (3 * k + 1)) ≤ 10) ∧ 1 ≤ R (80 + (3 * k + 2)) ∧ R (80 + (3 * k + 2)) ≤ 999) ∧ ∀ k, k < R 4 → R (100 + 2 * k) ≤ 9 ∧ R (100 + (2 * k + 1)) ≤ 9
def vH (R : Nat → Nat) : Prop := R 900 ≤ 4 ∧ ∀ h, h < R 900 → (1 ≤ R (950 + 3 * h) ∧ R (950 + 3 * h) ≤ 999) ∧ (1 ≤ R (950 + (3 * h + 1)) ∧ R (950 + (3 * h + 1)) ≤ 999) ∧ 1 ≤ R (950 + (3 * h + 2)) ∧ R (950 + (3 * h + 2)) ≤ 9999
theorem vF.cg {R R' : Nat → Nat} (h : vF R) (e : ∀ j, (j < 9 ∨ (20 ≤ j ∧ j < 140)) → R' j = R j) : vF R' := by
  obtain ⟨⟨a0, a1, a2, a3, a4⟩, hb, c, d, f, g, i⟩ := h
  have e0 := e 0 (by omega)
  have e1 := e 1 (by omega)
  have e2 := e 2 (by omega)
  have e3 := e 3 (by omega)
  have e4 := e 4 (by omega)
  refine ⟨⟨by omega, by omega, by omega, by omega, by omega⟩, ?_, fun k hk => ?_, fun k hk => ?_, fun k hk => ?_, fun k hk => ?_, fun k hk => ?_⟩
  · rw [e 5 (by omega), e 6 (by omega), e 7 (by omega), e 8 (by omega)]
    exact hb
  · rw [e _ (by omega)]
    exact c k (by omega)
  · rw [e (50 + 2 * k) (by omega), e (50 + (2 * k + 1)) (by omega)]
    exact d k (by omega)
  · rw [e (60 + 2 * k) (by omega), e (60 + (2 * k + 1)) (by omega)]
    exact f k (by omega)
  · rw [e (80 + 3 * k) (by omega), e (80 + (3 * k + 1)) (by omega), e (80 + (3 * k + 2)) (by omega)]
    exact g k (by omega)
  · rw [e (100 + 2 * k) (by omega), e (100 + (2 * k + 1)) (by omega)]
    exact i k (by omega)
theorem vH.cg {R R' : Nat → Nat} (h : vH R) (e : ∀ j, (j = 900 ∨ (950 ≤ j ∧ j < 962)) → R' j = R j) : vH R' := by
  obtain ⟨a, b⟩ := h
  have e0 := e 900 (by omega)
  refine ⟨by omega, fun k hk => ?_⟩
  rw [e (950 + 3 * k) (by omega), e (950 + (3 * k + 1)) (by omega), e (950 + (3 * k + 2)) (by omega)]
  exact b k (by omega)
/-- a film told: its numbers can be -/
theorem FLA.gF {B : Nat → Nat} {nn n : Nat} {w : List (List xE)} (h : FLA B nn w n) : vF (rwv w 83) := by
  obtain ⟨⟨g0, g1, g2, g3, g4, -, gz⟩, gR⟩ := h
  have l0 : lnC B nn 0 n ≤ 6 := lnC_lim (s := 0) gz (by decide)
  have l1 : lnC B nn 1 n ≤ 4 := lnC_lim (s := 1) gz (by decide)
  have l2 : lnC B nn 2 n ≤ 6 := lnC_lim (s := 2) gz (by decide)
  have l3 : lnC B nn 3 n ≤ 4 := lnC_lim (s := 3) gz (by decide)
  have l4 : lnC B nn 4 n ≤ 20 := lnC_lim (s := 4) gz (by decide)
  have hit : ∀ s m, m < lnC B nn s n → ∃ i, (∀ t, t < wds s → XA w s m t = vln B nn (lnP B nn i) t) ∧ (lst0 s ≤ vln B nn (lnP B nn i) 0 ∧ vln B nn (lnP B nn i) 0 ≤ grt0 s) ∧ (lst1 s ≤ vln B nn (lnP B nn i) 1 ∧ vln B nn (lnP B nn i) 1 ≤ grt1 s) ∧ (nnm s = 3 → 1 ≤ vln B nn (lnP B nn i) 2 ∧ vln B nn (lnP B nn i) 2 ≤ grt2 s) := by
    intro s m hm
    obtain ⟨i, h1, h2, h3⟩ := lnC_hit n hm
    have a := flt_v h2 (flA_all gz i h1)
    refine ⟨i, fun t ht => ?_, a.2.1, a.2.2.1, a.2.2.2⟩
    have b := gR.1 i h1 t (by rw [h2]; exact ht)
    rw [h2, h3] at b
    exact b
  have s5 : (1 ≤ rwv w 83 7 ∧ rwv w 83 7 ≤ 10) ∧ (1 ≤ rwv w 83 8 ∧ rwv w 83 8 ≤ 10) := by
    by_cases z : lnC B nn 5 n = 0
    · obtain ⟨a, b⟩ := gR.2 5 (Or.inl rfl) z
      have a : rwv w 83 7 = 1 := a
      have b : rwv w 83 8 = 1 := b
      omega
    · obtain ⟨i, a, b, c, -⟩ := hit 5 0 (by omega)
      have a0 : rwv w 83 7 = _ := a 0 (by decide)
      have a1 : rwv w 83 8 = _ := a 1 (by decide)
      rw [a0, a1]
      exact ⟨b, c⟩
  have s6 : (1 ≤ rwv w 83 5 ∧ rwv w 83 5 ≤ 6) ∧ (1 ≤ rwv w 83 6 ∧ rwv w 83 6 ≤ 6) := by
    by_cases z : lnC B nn 6 n = 0
    · obtain ⟨a, b⟩ := gR.2 6 (Or.inr rfl) z
      have a : rwv w 83 5 = 1 := a
      have b : rwv w 83 6 = 1 := b
      omega
    · obtain ⟨i, a, b, c, -⟩ := hit 6 0 (by omega)
      have a0 : rwv w 83 5 = _ := a 0 (by decide)
      have a1 : rwv w 83 6 = _ := a 1 (by decide)
      rw [a0, a1]
      exact ⟨b, c⟩
  refine ⟨⟨by omega, by omega, by omega, by omega, by omega⟩, ⟨s6.1, s6.2, s5.1, s5.2⟩, fun k hk => ?_, fun k hk => ?_, fun k hk => ?_, fun k hk => ?_, fun k hk => ?_⟩
  · obtain ⟨i, a, -⟩ := hit 0 k (by omega)
    have a3 : rwv w 83 (20 + 4 * k + 3) = vln B nn (lnP B nn i) 3 := a 3 (by decide)
    have e : vln B nn (lnP B nn i) 3 ≤ 1 := by
      show (if twk B nn (vlp B nn (lnP B nn i) 3) = 20325509 then 1 else 0) ≤ 1
      split <;> decide
    rw [← Nat.add_assoc, a3]
    exact e
  · obtain ⟨i, a, b, c, -⟩ := hit 1 k (by omega)
    have a0 : rwv w 83 (50 + 2 * k) = _ := a 0 (by decide)
    have a1 : rwv w 83 (50 + 2 * k + 1) = _ := a 1 (by decide)
    rw [← Nat.add_assoc, a0, a1]
    exact ⟨b.2, c⟩
  · obtain ⟨i, a, b, c, -⟩ := hit 2 k (by omega)
    have a0 : rwv w 83 (60 + 2 * k) = _ := a 0 (by decide)
    have a1 : rwv w 83 (60 + 2 * k + 1) = _ := a 1 (by decide)
    rw [← Nat.add_assoc, a0, a1]
    exact ⟨c, b⟩
  · obtain ⟨i, a, b, c, d⟩ := hit 3 k (by omega)
    have a0 : rwv w 83 (80 + 3 * k) = _ := a 0 (by decide)
    have a1 : rwv w 83 (80 + 3 * k + 1) = _ := a 1 (by decide)
    have a2 : rwv w 83 (80 + 3 * k + 2) = _ := a 2 (by decide)
    rw [← Nat.add_assoc, ← Nat.add_assoc, a0, a1, a2]
    exact ⟨b, c, d (by decide)⟩
  · obtain ⟨i, a, b, c, -⟩ := hit 4 k (by omega)
    have a0 : rwv w 83 (100 + 2 * k) = _ := a 0 (by decide)
    have a1 : rwv w 83 (100 + 2 * k + 1) = _ := a 1 (by decide)
    rw [← Nat.add_assoc, a0, a1]
    exact ⟨b.2, c.2⟩
/-- a hand told -/
theorem vH.hand {w1 w2 : List (List xE)} {n2 fi fo ro : Nat} (h : vH (rwv w1 83)) (hG : ((n2 = rwv w1 83 900 ∧ rwv w1 83 900 < 4 ∧ ((1 ≤ fi ∧ fi ≤ 999) ∧ (1 ≤ fo ∧ fo ≤ 999) ∧ (1 ≤ ro ∧ ro ≤ 9999)) ∧ rwv w2 83 900 = rwv w1 83 900 + 1) ∨ (n2 = 4294967295 ∧ ¬ (rwv w1 83 900 < 4 ∧ ((1 ≤ fi ∧ fi ≤ 999) ∧ (1 ≤ fo ∧ fo ≤ 999) ∧ (1 ≤ ro ∧ ro ≤ 9999))) ∧ rwv w2 83 900 = rwv w1 83 900)) ∧ (n2 ≠ 4294967295 → rwv w2 83 (950 + 3 * rwv w1 83 900) = fi ∧ rwv w2 83 (950 + 3 * rwv w1 83 900 + 1) = fo ∧ rwv w2 83 (950 + 3 * rwv w1 83 900 + 2) = ro) ∧ (∀ j, (j ≠ 900 ∧ (j < 950 + 3 * rwv w1 83 900 ∨ 953 + 3 * rwv w1 83 900 ≤ j)) → j < 5360 → rwv w2 83 j = rwv w1 83 j)) : vH (rwv w2 83) := by
  obtain ⟨g1, g2, g3⟩ := hG
  obtain ⟨a, b⟩ := h
  rcases g1 with ⟨z1, z2, z3, z4⟩ | ⟨z1, -, z3⟩
  · obtain ⟨v0, v1, v2⟩ := g2 (by omega)
    refine ⟨by omega, fun k hk => ?_⟩
    by_cases e : k = rwv w1 83 900
    · rw [e, v0, ← Nat.add_assoc, ← Nat.add_assoc, v1, v2]
      exact ⟨z3.1, z3.2.1, z3.2.2⟩
    · rw [g3 (950 + 3 * k) (by omega) (by omega), g3 (950 + (3 * k + 1)) (by omega) (by omega), g3 (950 + (3 * k + 2)) (by omega) (by omega)]
      exact b k (by omega)
  · refine ⟨by omega, fun k hk => ?_⟩
    rw [g3 (950 + 3 * k) (by omega) (by omega), g3 (950 + (3 * k + 1)) (by omega) (by omega), g3 (950 + (3 * k + 2)) (by omega) (by omega)]
    exact b k (by omega)
/-- alike, and the numbers can be -/
def a6 (w : List (List xE)) (b k : Nat) : Prop := al w b k ∧ vF (fun j => rwv w 83 (1340 * k + j)) ∧ vH (fun j => rwv w 83 (1340 * k + j))
theorem a6.cp {w w' : List (List xE)} {D S k k' : Nat} (h : a6 w S k) (e : tdE w' D w S) (r : ∀ j, j < 1340 → rwv w' 83 (1340 * k' + j) = rwv w 83 (1340 * k + j)) : a6 w' D k' := ⟨h.1.cp e r, h.2.1.cg (fun j hj => r j (by omega)), h.2.2.cg (fun j hj => r j (by omega))⟩
theorem a6.kp {w w' : List (List xE)} {b k : Nat} (h : a6 w b k) (hc : ∀ o, o < 25 → wget w' (b + o) = wget w (b + o)) (hr : ∀ j, 1340 * k ≤ j → j < 1340 * k + 1340 → rwv w' 83 j = rwv w 83 j) : a6 w' b k := h.cp (tdE.rf.tr0 hc (fun _ _ => rfl)) (fun j hj => hr _ (by omega) (by omega))
theorem blk0 {w : List (List xE)} : (fun j => rwv w 83 (1340 * 0 + j)) = rwv w 83 := by
  funext j
  rw [Nat.mul_zero, Nat.zero_add]
theorem a6.gF {w : List (List xE)} (h : a6 w 1 0) : vF (rwv w 83) := by
  have q := h.2.1
  rw [blk0] at q
  exact q
theorem a6.gH {w : List (List xE)} (h : a6 w 1 0) : vH (rwv w 83) := by
  have q := h.2.2
  rw [blk0] at q
  exact q
theorem a6.mk {w : List (List xE)} (h : al w 1 0) (hF : vF (rwv w 83)) (hH : vH (rwv w 83)) : a6 w 1 0 := by
  refine ⟨h, ?_, ?_⟩
  · rw [blk0]
    exact hF
  · rw [blk0]
    exact hH
/-! lives and folds, in both -/
theorem a6.s6 {w : List (List xE)} (h : a6 w 1 0) : fld w 6 3 = rwv w 83 1 := h.1.2.2.1.2.2.1.sz
theorem a6.s8 {w : List (List xE)} (h : a6 w 1 0) : fld w 8 3 = rwv w 83 2 := h.1.2.2.1.2.2.2.1.sz
theorem a6.g7 {w : List (List xE)} {j : Nat} (h : a6 w 1 0) (hj : j < 2 * fld w 6 3) : rwv w 7 j = rwv w 83 (50 + j) := h.1.2.2.1.2.2.1.get (show j < fld w 6 3 * 2 by omega)
theorem a6.g9 {w : List (List xE)} {j : Nat} (h : a6 w 1 0) (hj : j < 2 * fld w 8 3) : rwv w 9 j = rwv w 83 (60 + j) := h.1.2.2.1.2.2.2.1.get (show j < fld w 8 3 * 2 by omega)
theorem a6.hS {w : List (List xE)} (h : a6 w 1 0) : ∀ k, k < fld w 6 3 → rwv w 7 (2 * k) ≤ 99 := fun k hk => by
  have s := h.s6
  rw [h.g7 (by omega)]
  exact (h.gF.2.2.2.1 k (by omega)).1
theorem a6.hv {w : List (List xE)} (h : a6 w 1 0) : ∀ k, k < fld w 6 3 → 1 ≤ rwv w 7 (2 * k + 1) ∧ rwv w 7 (2 * k + 1) ≤ 999 := fun k hk => by
  have s := h.s6
  rw [h.g7 (by omega)]
  exact (h.gF.2.2.2.1 k (by omega)).2
theorem a6.hR {w : List (List xE)} (h : a6 w 1 0) : ∀ i, i < fld w 8 3 → (1 ≤ rwv w 9 (2 * i + 1) ∧ rwv w 9 (2 * i + 1) ≤ 9999) ∧ rwv w 9 (2 * i) ≤ 9999 := fun k hk => by
  have s := h.s8
  rw [h.g9 (by omega), h.g9 (by omega)]
  have q := h.gF.2.2.2.2.1 k (by omega)
  exact ⟨q.1, q.2.2⟩
theorem a6.s18 {w : List (List xE)} (h : a6 w 1 0) : fld w 18 3 = rwv w 83 900 := h.1.2.2.2.2.1.sz
theorem a6.g19 {w : List (List xE)} {j : Nat} (h : a6 w 1 0) (hj : j < 3 * fld w 18 3) : rwv w 19 j = rwv w 83 (950 + j) := h.1.2.2.2.2.1.get (show j < fld w 18 3 * 3 by omega)
theorem a6.mH {w : List (List xE)} (h : a6 w 1 0) : ∀ k, k < rwv w 83 900 → (1 ≤ rwv w 83 (950 + 3 * k) ∧ rwv w 83 (950 + 3 * k) ≤ 999) ∧ (1 ≤ rwv w 83 (950 + (3 * k + 1)) ∧ rwv w 83 (950 + (3 * k + 1)) ≤ 999) ∧ 1 ≤ rwv w 83 (950 + (3 * k + 2)) ∧ rwv w 83 (950 + (3 * k + 2)) ≤ 9999 := h.gH.2
theorem a6.hH {w : List (List xE)} (h : a6 w 1 0) : ∀ k, k < fld w 18 3 → (1 ≤ rwv w 19 (3 * k) ∧ rwv w 19 (3 * k) ≤ 999) ∧ (1 ≤ rwv w 19 (3 * k + 1) ∧ rwv w 19 (3 * k + 1) ≤ 999) ∧ 1 ≤ rwv w 19 (3 * k + 2) ∧ rwv w 19 (3 * k + 2) ≤ 9999 := fun k hk => by
  have s := h.s18
  rw [h.g19 (j := 3 * k) (by omega), h.g19 (j := 3 * k + 1) (by omega), h.g19 (j := 3 * k + 2) (by omega)]
  exact h.mH k (by omega)
end
section
/-! hands, in both -/
theorem a6.brk {w : List (List xE)} {la ti ro : Nat} (h : a6 w 1 0) (hl : la < fld w 4 3) : (0 < wwh (rwv w 7) (wfd (fun i => if i = fld w 8 3 then wli (rwv w 7) (bU (rwv w 5) (fun q => q) (fld w 4 3) la) (bfr (rwv w 5) (fun q => q) (fld w 4 3) la) ro (fld w 6 3) else wli (rwv w 7) (bU (rwv w 5) (fun q => q) (fld w 4 3) la) (bfr (rwv w 5) (fun q => q) (fld w 4 3) la) (rwv w 9 (2 * i + 1)) (fld w 6 3)) (fun i => if i = fld w 8 3 then ti else rwv w 9 (2 * i)) (fld w 8 3 + 1)) (fld w 6 3) ∨ pr (rwv w 7) (fld w 6 3) ≤ wpt (rwv w 7) (wfd (fun i => if i = fld w 8 3 then wli (rwv w 7) (bU (rwv w 5) (fun q => q) (fld w 4 3) la) (bfr (rwv w 5) (fun q => q) (fld w 4 3) la) ro (fld w 6 3) else wli (rwv w 7) (bU (rwv w 5) (fun q => q) (fld w 4 3) la) (bfr (rwv w 5) (fun q => q) (fld w 4 3) la) (rwv w 9 (2 * i + 1)) (fld w 6 3)) (fun i => if i = fld w 8 3 then ti else rwv w 9 (2 * i)) (fld w 8 3 + 1)) (pr (rwv w 7) (fld w 6 3)) (fld w 6 3)) ↔ ¬ ((wml (fun j => rwv w 83 (50 + j)) (fun i => if i = rwv w 83 2 then wli (fun j => rwv w 83 (50 + j)) (bU (fun j => rwv w 83 (20 + j)) (fun q => q) (rwv w 83 0) la) (bfr (fun j => rwv w 83 (20 + j)) (fun q => q) (rwv w 83 0) la) ro (rwv w 83 1) else wli (fun j => rwv w 83 (50 + j)) (bU (fun j => rwv w 83 (20 + j)) (fun q => q) (rwv w 83 0) la) (bfr (fun j => rwv w 83 (20 + j)) (fun q => q) (rwv w 83 0) la) (rwv w 83 (60 + (2 * i + 1))) (rwv w 83 1)) (fun i => if i = rwv w 83 2 then ti else rwv w 83 (60 + 2 * i)) (pr (fun j => rwv w 83 (50 + j)) (rwv w 83 1)) (rwv w 83 2 + 1)) < (pr (fun j => rwv w 83 (50 + j)) (rwv w 83 1))) := by
  have z := al.beq h.1
  have s0 := h.1.s0
  have s6 := h.s6
  have s8 := h.s8
  have e7 : ∀ j, j < 2 * fld w 6 3 → (fun j => rwv w 83 (50 + j)) j = (rwv w 7) j := fun j hj => (h.g7 hj).symm
  have eC : (pr (fun j => rwv w 83 (50 + j)) (rwv w 83 1)) = (pr (rwv w 7) (fld w 6 3)) := by
    rw [← s6]
    exact pr_cg e7
  have hc := (pr_le h.hv (by have := h.gF.1.2.1; omega)).1
  have li : ∀ i, i < rwv w 83 2 + 1 → (fun i => if i = rwv w 83 2 then wli (fun j => rwv w 83 (50 + j)) (bU (fun j => rwv w 83 (20 + j)) (fun q => q) (rwv w 83 0) la) (bfr (fun j => rwv w 83 (20 + j)) (fun q => q) (rwv w 83 0) la) ro (rwv w 83 1) else wli (fun j => rwv w 83 (50 + j)) (bU (fun j => rwv w 83 (20 + j)) (fun q => q) (rwv w 83 0) la) (bfr (fun j => rwv w 83 (20 + j)) (fun q => q) (rwv w 83 0) la) (rwv w 83 (60 + (2 * i + 1))) (rwv w 83 1)) i = (fun i => if i = fld w 8 3 then wli (rwv w 7) (bU (rwv w 5) (fun q => q) (fld w 4 3) la) (bfr (rwv w 5) (fun q => q) (fld w 4 3) la) ro (fld w 6 3) else wli (rwv w 7) (bU (rwv w 5) (fun q => q) (fld w 4 3) la) (bfr (rwv w 5) (fun q => q) (fld w 4 3) la) (rwv w 9 (2 * i + 1)) (fld w 6 3)) i ∧ (fun i => if i = rwv w 83 2 then ti else rwv w 83 (60 + 2 * i)) i = (fun i => if i = fld w 8 3 then ti else rwv w 9 (2 * i)) i := by
    intro i hi
    show (if i = rwv w 83 2 then wli (fun j => rwv w 83 (50 + j)) (bU (fun j => rwv w 83 (20 + j)) (fun q => q) (rwv w 83 0) la) (bfr (fun j => rwv w 83 (20 + j)) (fun q => q) (rwv w 83 0) la) ro (rwv w 83 1) else wli (fun j => rwv w 83 (50 + j)) (bU (fun j => rwv w 83 (20 + j)) (fun q => q) (rwv w 83 0) la) (bfr (fun j => rwv w 83 (20 + j)) (fun q => q) (rwv w 83 0) la) (rwv w 83 (60 + (2 * i + 1))) (rwv w 83 1)) = (if i = fld w 8 3 then wli (rwv w 7) (bU (rwv w 5) (fun q => q) (fld w 4 3) la) (bfr (rwv w 5) (fun q => q) (fld w 4 3) la) ro (fld w 6 3) else wli (rwv w 7) (bU (rwv w 5) (fun q => q) (fld w 4 3) la) (bfr (rwv w 5) (fun q => q) (fld w 4 3) la) (rwv w 9 (2 * i + 1)) (fld w 6 3)) ∧ (if i = rwv w 83 2 then ti else rwv w 83 (60 + 2 * i)) = (if i = fld w 8 3 then ti else rwv w 9 (2 * i))
    rw [← s0, ← s6, (bOU_cg z hl).2, bfr_cg z hl]
    by_cases e : i = rwv w 83 2
    · rw [if_pos e, if_pos e, if_pos (e.trans s8.symm), if_pos (e.trans s8.symm)]
      exact ⟨wli_cg e7 (Nat.le_refl _), rfl⟩
    · rw [if_neg e, if_neg e, if_neg (fun q => e (q.trans s8)), if_neg (fun q => e (q.trans s8)), ← h.g9 (j := 2 * i + 1) (by omega), ← h.g9 (j := 2 * i) (by omega)]
      exact ⟨wli_cg e7 (Nat.le_refl _), rfl⟩
  have le : ∀ i, i < rwv w 83 2 + 1 → (fun i => if i = rwv w 83 2 then wli (fun j => rwv w 83 (50 + j)) (bU (fun j => rwv w 83 (20 + j)) (fun q => q) (rwv w 83 0) la) (bfr (fun j => rwv w 83 (20 + j)) (fun q => q) (rwv w 83 0) la) ro (rwv w 83 1) else wli (fun j => rwv w 83 (50 + j)) (bU (fun j => rwv w 83 (20 + j)) (fun q => q) (rwv w 83 0) la) (bfr (fun j => rwv w 83 (20 + j)) (fun q => q) (rwv w 83 0) la) (rwv w 83 (60 + (2 * i + 1))) (rwv w 83 1)) i ≤ rwv w 83 1 := by
    intro i hi
    show (if i = rwv w 83 2 then wli (fun j => rwv w 83 (50 + j)) (bU (fun j => rwv w 83 (20 + j)) (fun q => q) (rwv w 83 0) la) (bfr (fun j => rwv w 83 (20 + j)) (fun q => q) (rwv w 83 0) la) ro (rwv w 83 1) else wli (fun j => rwv w 83 (50 + j)) (bU (fun j => rwv w 83 (20 + j)) (fun q => q) (rwv w 83 0) la) (bfr (fun j => rwv w 83 (20 + j)) (fun q => q) (rwv w 83 0) la) (rwv w 83 (60 + (2 * i + 1))) (rwv w 83 1)) ≤ rwv w 83 1
    split
    · exact wli_le
    · exact wli_le
  have sm : (wml (fun j => rwv w 83 (50 + j)) (fun i => if i = rwv w 83 2 then wli (fun j => rwv w 83 (50 + j)) (bU (fun j => rwv w 83 (20 + j)) (fun q => q) (rwv w 83 0) la) (bfr (fun j => rwv w 83 (20 + j)) (fun q => q) (rwv w 83 0) la) ro (rwv w 83 1) else wli (fun j => rwv w 83 (50 + j)) (bU (fun j => rwv w 83 (20 + j)) (fun q => q) (rwv w 83 0) la) (bfr (fun j => rwv w 83 (20 + j)) (fun q => q) (rwv w 83 0) la) (rwv w 83 (60 + (2 * i + 1))) (rwv w 83 1)) (fun i => if i = rwv w 83 2 then ti else rwv w 83 (60 + 2 * i)) (pr (fun j => rwv w 83 (50 + j)) (rwv w 83 1)) (rwv w 83 2 + 1)) = (pr (rwv w 7) (fld w 6 3)) * wwh (rwv w 7) (wfd (fun i => if i = fld w 8 3 then wli (rwv w 7) (bU (rwv w 5) (fun q => q) (fld w 4 3) la) (bfr (rwv w 5) (fun q => q) (fld w 4 3) la) ro (fld w 6 3) else wli (rwv w 7) (bU (rwv w 5) (fun q => q) (fld w 4 3) la) (bfr (rwv w 5) (fun q => q) (fld w 4 3) la) (rwv w 9 (2 * i + 1)) (fld w 6 3)) (fun i => if i = fld w 8 3 then ti else rwv w 9 (2 * i)) (fld w 8 3 + 1)) (fld w 6 3) + wpt (rwv w 7) (wfd (fun i => if i = fld w 8 3 then wli (rwv w 7) (bU (rwv w 5) (fun q => q) (fld w 4 3) la) (bfr (rwv w 5) (fun q => q) (fld w 4 3) la) ro (fld w 6 3) else wli (rwv w 7) (bU (rwv w 5) (fun q => q) (fld w 4 3) la) (bfr (rwv w 5) (fun q => q) (fld w 4 3) la) (rwv w 9 (2 * i + 1)) (fld w 6 3)) (fun i => if i = fld w 8 3 then ti else rwv w 9 (2 * i)) (fld w 8 3 + 1)) (pr (rwv w 7) (fld w 6 3)) (fld w 6 3) := by
    rw [wml_eq (n := rwv w 83 1) le, eC]
    have q : sg (fun k => (pr (rwv w 7) (fld w 6 3)) / (fun j => rwv w 83 (50 + j)) (2 * k + 1) * wfd (fun i => if i = rwv w 83 2 then wli (fun j => rwv w 83 (50 + j)) (bU (fun j => rwv w 83 (20 + j)) (fun q => q) (rwv w 83 0) la) (bfr (fun j => rwv w 83 (20 + j)) (fun q => q) (rwv w 83 0) la) ro (rwv w 83 1) else wli (fun j => rwv w 83 (50 + j)) (bU (fun j => rwv w 83 (20 + j)) (fun q => q) (rwv w 83 0) la) (bfr (fun j => rwv w 83 (20 + j)) (fun q => q) (rwv w 83 0) la) (rwv w 83 (60 + (2 * i + 1))) (rwv w 83 1)) (fun i => if i = rwv w 83 2 then ti else rwv w 83 (60 + 2 * i)) (rwv w 83 2 + 1) k) (rwv w 83 1) = sg (fun k => (pr (rwv w 7) (fld w 6 3)) / (rwv w 7) (2 * k + 1) * (wfd (fun i => if i = fld w 8 3 then wli (rwv w 7) (bU (rwv w 5) (fun q => q) (fld w 4 3) la) (bfr (rwv w 5) (fun q => q) (fld w 4 3) la) ro (fld w 6 3) else wli (rwv w 7) (bU (rwv w 5) (fun q => q) (fld w 4 3) la) (bfr (rwv w 5) (fun q => q) (fld w 4 3) la) (rwv w 9 (2 * i + 1)) (fld w 6 3)) (fun i => if i = fld w 8 3 then ti else rwv w 9 (2 * i)) (fld w 8 3 + 1)) k) (rwv w 83 1) := sg_cg (fun k hk => by
      show (pr (rwv w 7) (fld w 6 3)) / (fun j => rwv w 83 (50 + j)) (2 * k + 1) * wfd (fun i => if i = rwv w 83 2 then wli (fun j => rwv w 83 (50 + j)) (bU (fun j => rwv w 83 (20 + j)) (fun q => q) (rwv w 83 0) la) (bfr (fun j => rwv w 83 (20 + j)) (fun q => q) (rwv w 83 0) la) ro (rwv w 83 1) else wli (fun j => rwv w 83 (50 + j)) (bU (fun j => rwv w 83 (20 + j)) (fun q => q) (rwv w 83 0) la) (bfr (fun j => rwv w 83 (20 + j)) (fun q => q) (rwv w 83 0) la) (rwv w 83 (60 + (2 * i + 1))) (rwv w 83 1)) (fun i => if i = rwv w 83 2 then ti else rwv w 83 (60 + 2 * i)) (rwv w 83 2 + 1) k = (pr (rwv w 7) (fld w 6 3)) / (rwv w 7) (2 * k + 1) * (wfd (fun i => if i = fld w 8 3 then wli (rwv w 7) (bU (rwv w 5) (fun q => q) (fld w 4 3) la) (bfr (rwv w 5) (fun q => q) (fld w 4 3) la) ro (fld w 6 3) else wli (rwv w 7) (bU (rwv w 5) (fun q => q) (fld w 4 3) la) (bfr (rwv w 5) (fun q => q) (fld w 4 3) la) (rwv w 9 (2 * i + 1)) (fld w 6 3)) (fun i => if i = fld w 8 3 then ti else rwv w 9 (2 * i)) (fld w 8 3 + 1)) k
      rw [e7 _ (by omega), wfd_cg li, ← s8])
    rw [q, ← s6]
    exact wsum (fun k hk => ⟨(h.hv k hk).1, pr_dvd hk⟩)
  rw [wout_eq hc, sm, eC]
  omega
theorem a6.brh {w : List (List xE)} {ha ye : Nat} (h : a6 w 1 0) (hh : ha < fld w 18 3) : (∃ p, p < fld w 4 3 ∧ (0 < wwh (rwv w 7) (wfd (fun i => if i = fld w 8 3 then wli (rwv w 7) (bU (rwv w 5) (fun q => q) (fld w 4 3) p) (bfr (rwv w 5) (fun q => q) (fld w 4 3) p) (rwv w 19 (3 * ha + 2)) (fld w 6 3) else wli (rwv w 7) (bU (rwv w 5) (fun q => q) (fld w 4 3) p) (bfr (rwv w 5) (fun q => q) (fld w 4 3) p) (rwv w 9 (2 * i + 1)) (fld w 6 3)) (fun i => if i = fld w 8 3 then (365 * ye * rwv w 19 (3 * ha + 1)) else rwv w 9 (2 * i)) (fld w 8 3 + 1)) (fld w 6 3) ∨ pr (rwv w 7) (fld w 6 3) ≤ wpt (rwv w 7) (wfd (fun i => if i = fld w 8 3 then wli (rwv w 7) (bU (rwv w 5) (fun q => q) (fld w 4 3) p) (bfr (rwv w 5) (fun q => q) (fld w 4 3) p) (rwv w 19 (3 * ha + 2)) (fld w 6 3) else wli (rwv w 7) (bU (rwv w 5) (fun q => q) (fld w 4 3) p) (bfr (rwv w 5) (fun q => q) (fld w 4 3) p) (rwv w 9 (2 * i + 1)) (fld w 6 3)) (fun i => if i = fld w 8 3 then (365 * ye * rwv w 19 (3 * ha + 1)) else rwv w 9 (2 * i)) (fld w 8 3 + 1)) (pr (rwv w 7) (fld w 6 3)) (fld w 6 3))) ↔ (∃ p, p < rwv w 83 0 ∧ ¬ ((wml (fun j => rwv w 83 (50 + j)) (fun i => if i = rwv w 83 2 then wli (fun j => rwv w 83 (50 + j)) (bU (fun j => rwv w 83 (20 + j)) (fun q => q) (rwv w 83 0) p) (bfr (fun j => rwv w 83 (20 + j)) (fun q => q) (rwv w 83 0) p) (rwv w 83 (950 + (3 * ha + 2))) (rwv w 83 1) else wli (fun j => rwv w 83 (50 + j)) (bU (fun j => rwv w 83 (20 + j)) (fun q => q) (rwv w 83 0) p) (bfr (fun j => rwv w 83 (20 + j)) (fun q => q) (rwv w 83 0) p) (rwv w 83 (60 + (2 * i + 1))) (rwv w 83 1)) (fun i => if i = rwv w 83 2 then (365 * ye * rwv w 83 (950 + (3 * ha + 1))) else rwv w 83 (60 + 2 * i)) (pr (fun j => rwv w 83 (50 + j)) (rwv w 83 1)) (rwv w 83 2 + 1)) < (pr (fun j => rwv w 83 (50 + j)) (rwv w 83 1)))) := by
  have s0 := h.1.s0
  rw [h.g19 (j := 3 * ha + 1) (by omega), h.g19 (j := 3 * ha + 2) (by omega)]
  constructor
  · rintro ⟨p, h1, h2⟩
    exact ⟨p, by omega, (h.brk h1).mp h2⟩
  · rintro ⟨p, h1, h2⟩
    exact ⟨p, by omega, (h.brk (by omega)).mpr h2⟩
theorem a6.shr {w : List (List xE)} {ye n n' : Nat} (h : a6 w 1 0) (hc : ((∃ b : Nat → Nat, (∀ h, h < fld w 18 3 → b h ≤ 1 ∧ (b h = 1 ↔ (∃ p, p < fld w 4 3 ∧ (0 < wwh (rwv w 7) (wfd (fun i => if i = fld w 8 3 then wli (rwv w 7) (bU (rwv w 5) (fun q => q) (fld w 4 3) p) (bfr (rwv w 5) (fun q => q) (fld w 4 3) p) (rwv w 19 (3 * h + 2)) (fld w 6 3) else wli (rwv w 7) (bU (rwv w 5) (fun q => q) (fld w 4 3) p) (bfr (rwv w 5) (fun q => q) (fld w 4 3) p) (rwv w 9 (2 * i + 1)) (fld w 6 3)) (fun i => if i = fld w 8 3 then (365 * ye * rwv w 19 (3 * h + 1)) else rwv w 9 (2 * i)) (fld w 8 3 + 1)) (fld w 6 3) ∨ pr (rwv w 7) (fld w 6 3) ≤ wpt (rwv w 7) (wfd (fun i => if i = fld w 8 3 then wli (rwv w 7) (bU (rwv w 5) (fun q => q) (fld w 4 3) p) (bfr (rwv w 5) (fun q => q) (fld w 4 3) p) (rwv w 19 (3 * h + 2)) (fld w 6 3) else wli (rwv w 7) (bU (rwv w 5) (fun q => q) (fld w 4 3) p) (bfr (rwv w 5) (fun q => q) (fld w 4 3) p) (rwv w 9 (2 * i + 1)) (fld w 6 3)) (fun i => if i = fld w 8 3 then (365 * ye * rwv w 19 (3 * h + 1)) else rwv w 9 (2 * i)) (fld w 8 3 + 1)) (pr (rwv w 7) (fld w 6 3)) (fld w 6 3))))) ∧ n = (if sg (fun h => rwv w 19 (3 * h)) (fld w 18 3) = 0 then 0 else 1000 * sg (fun h => b h * rwv w 19 (3 * h)) (fld w 18 3) / sg (fun h => rwv w 19 (3 * h)) (fld w 18 3))) ∧ n ≤ 1000)) (hm : ((∃ b : Nat → Nat, (∀ h, h < rwv w 83 900 → b h ≤ 1 ∧ (b h = 1 ↔ (∃ p, p < rwv w 83 0 ∧ ¬ ((wml (fun j => rwv w 83 (50 + j)) (fun i => if i = rwv w 83 2 then wli (fun j => rwv w 83 (50 + j)) (bU (fun j => rwv w 83 (20 + j)) (fun q => q) (rwv w 83 0) p) (bfr (fun j => rwv w 83 (20 + j)) (fun q => q) (rwv w 83 0) p) (rwv w 83 (950 + (3 * h + 2))) (rwv w 83 1) else wli (fun j => rwv w 83 (50 + j)) (bU (fun j => rwv w 83 (20 + j)) (fun q => q) (rwv w 83 0) p) (bfr (fun j => rwv w 83 (20 + j)) (fun q => q) (rwv w 83 0) p) (rwv w 83 (60 + (2 * i + 1))) (rwv w 83 1)) (fun i => if i = rwv w 83 2 then (365 * ye * rwv w 83 (950 + (3 * h + 1))) else rwv w 83 (60 + 2 * i)) (pr (fun j => rwv w 83 (50 + j)) (rwv w 83 1)) (rwv w 83 2 + 1)) < (pr (fun j => rwv w 83 (50 + j)) (rwv w 83 1)))))) ∧ n' = (if sg (fun h => rwv w 83 (950 + 3 * h)) (rwv w 83 900) = 0 then 0 else 1000 * sg (fun h => b h * rwv w 83 (950 + 3 * h)) (rwv w 83 900) / sg (fun h => rwv w 83 (950 + 3 * h)) (rwv w 83 900))) ∧ n' ≤ 1000)) : n = n' := by
  obtain ⟨⟨b, hb, e1⟩, -⟩ := hc
  obtain ⟨⟨b', hb', e2⟩, -⟩ := hm
  have s18 := h.s18
  have eb : ∀ k, k < fld w 18 3 → b' k = b k := by
    intro k hk
    obtain ⟨x1, x2⟩ := hb k hk
    obtain ⟨y1, y2⟩ := hb' k (by omega)
    rw [← h.brh hk] at y2
    by_cases z : b k = 1
    · rw [z, y2.mpr (x2.mp z)]
    · have z' : ¬ b' k = 1 := fun q => z (x2.mpr (y2.mp q))
      omega
  have ea : sg (fun h => rwv w 83 (950 + 3 * h)) (rwv w 83 900) = sg (fun h => rwv w 19 (3 * h)) (fld w 18 3) := by
    rw [← s18]
    exact sg_cg (fun k hk => (h.g19 (j := 3 * k) (by omega)).symm)
  have es : sg (fun h => b' h * rwv w 83 (950 + 3 * h)) (rwv w 83 900) = sg (fun h => b h * rwv w 19 (3 * h)) (fld w 18 3) := by
    rw [← s18]
    exact sg_cg (fun k hk => by
      show b' k * rwv w 83 (950 + 3 * k) = b k * rwv w 19 (3 * k)
      rw [eb k hk, h.g19 (j := 3 * k) (by omega)])
  rw [e1, e2, ea, es]
end
section
/-! ages of lamps: numbers alone -/
def agp (P : Nat → Nat) (p k : Nat) : Nat := if P (5 * p) ≤ k / 6 ∧ k / 6 ≤ P (5 * p + 1) ∧ P (5 * p + 2) ≤ k % 6 ∧ k % 6 ≤ P (5 * p + 3) then P (5 * p + 4) else 0
def ag (P : Nat → Nat) (n k : Nat) : Nat := sg (fun p => agp P p k) n
theorem agp_le {P : Nat → Nat} {p k B : Nat} (h : P (5 * p + 4) ≤ B) : agp P p k ≤ B := by
  unfold agp
  split <;> omega
theorem ag_le {P : Nat → Nat} {n k B : Nat} (h : ∀ p, p < n → P (5 * p + 4) ≤ B) : ag P n k ≤ B * n := sg_le (fun p hp => agp_le (h p hp))
theorem ag_cg {P P' : Nat → Nat} {n k : Nat} (h : ∀ p, p < n → (∀ t, t < 4 → P' (5 * p + t) = P (5 * p + t)) ∧ P' (5 * p + 4) = P (5 * p + 4)) : ag P' n k = ag P n k := sg_cg (fun p hp => by
  obtain ⟨a, b⟩ := h p hp
  have a0 : P' (5 * p) = P (5 * p) := a 0 (by decide)
  have a1 := a 1 (by decide)
  have a2 := a 2 (by decide)
  have a3 := a 3 (by decide)
  show agp P' p k = agp P p k
  unfold agp
  rw [a0, a1, a2, a3, b])
/-- what holds of a lamp while a picture is added: rows A .. before ro, and of row ro columns C .. before co -/
def agc (A C D ro co k : Nat) : Prop := (A ≤ k / 6 ∧ k / 6 < ro ∧ C ≤ k % 6 ∧ k % 6 ≤ D) ∨ (k / 6 = ro ∧ C ≤ k % 6 ∧ k % 6 < co)
def agi (f g : Nat → Nat) (A C D G ro co : Nat) : Prop := ∀ k, k < 36 → (agc A C D ro co k ∧ g k = f k + G) ∨ (¬ agc A C D ro co k ∧ g k = f k)
theorem agi_0 {f : Nat → Nat} {A C D G : Nat} : agi f f A C D G A C := fun k hk => Or.inr ⟨fun z => by
  unfold agc at z
  omega, rfl⟩
theorem agi_s {f g g' : Nat → Nat} {A C D G ro co : Nat} (h : agi f g A C D G ro co) (hro : ro ≤ 5) (hco : co ≤ 5) (hC : C ≤ co) (e1 : g' (6 * ro + co) = g (6 * ro + co) + G) (e2 : ∀ k, k < 36 → k ≠ 6 * ro + co → g' k = g k) : agi f g' A C D G ro (co + 1) := by
  intro k hk
  have a := h k hk
  unfold agc at a ⊢
  by_cases e : k = 6 * ro + co
  · subst e
    rw [e1]
    omega
  · rw [e2 k hk e]
    omega
theorem agi_r {f g : Nat → Nat} {A C D G ro co : Nat} (h : agi f g A C D G ro co) (hA : A ≤ ro) (hco : co = D + 1 ∨ (D < C ∧ co = C)) : agi f g A C D G (ro + 1) C := by
  intro k hk
  have a := h k hk
  unfold agc at a ⊢
  omega
theorem agi_e {f g P : Nat → Nat} {p ro : Nat} (h : agi f g (P (5 * p)) (P (5 * p + 2)) (P (5 * p + 3)) (P (5 * p + 4)) ro (P (5 * p + 2))) (hro : ro = P (5 * p + 1) + 1 ∨ (P (5 * p + 1) < P (5 * p) ∧ ro = P (5 * p))) : ∀ k, k < 36 → g k = f k + agp P p k := by
  intro k hk
  have a := h k hk
  unfold agc at a
  unfold agp
  split <;> omega
/-- the least and the greatest that is left -/
def ulo (A : Nat → Nat) (R C : Nat) : Nat → Nat
  | 0 => 1000
  | k + 1 => if k / 6 < R ∧ k % 6 < C then min (ulo A R C k) (1000 - A k / 10) else ulo A R C k
def uhi (A : Nat → Nat) (R C : Nat) : Nat → Nat
  | 0 => 0
  | k + 1 => if k / 6 < R ∧ k % 6 < C then max (uhi A R C k) (1000 - A k / 10) else uhi A R C k
theorem ulo_cg {A A' : Nat → Nat} {R C n : Nat} (h : ∀ k, k < n → A' k = A k) : ulo A' R C n = ulo A R C n := by
  induction n with
  | zero => rfl
  | succ n ih =>
    show (if n / 6 < R ∧ n % 6 < C then min (ulo A' R C n) (1000 - A' n / 10) else ulo A' R C n) = (if n / 6 < R ∧ n % 6 < C then min (ulo A R C n) (1000 - A n / 10) else ulo A R C n)
    rw [ih (fun k hk => h k (by omega)), h n (by omega)]
theorem uhi_cg {A A' : Nat → Nat} {R C n : Nat} (h : ∀ k, k < n → A' k = A k) : uhi A' R C n = uhi A R C n := by
  induction n with
  | zero => rfl
  | succ n ih =>
    show (if n / 6 < R ∧ n % 6 < C then max (uhi A' R C n) (1000 - A' n / 10) else uhi A' R C n) = (if n / 6 < R ∧ n % 6 < C then max (uhi A R C n) (1000 - A n / 10) else uhi A R C n)
    rw [ih (fun k hk => h k (by omega)), h n (by omega)]
theorem ulo_y {A : Nat → Nat} {R C k : Nat} (h : k / 6 < R ∧ k % 6 < C) : ulo A R C (k + 1) = min (ulo A R C k) (1000 - A k / 10) := if_pos h
theorem ulo_n {A : Nat → Nat} {R C k : Nat} (h : ¬ (k / 6 < R ∧ k % 6 < C)) : ulo A R C (k + 1) = ulo A R C k := if_neg h
theorem uhi_y {A : Nat → Nat} {R C k : Nat} (h : k / 6 < R ∧ k % 6 < C) : uhi A R C (k + 1) = max (uhi A R C k) (1000 - A k / 10) := if_pos h
theorem uhi_n {A : Nat → Nat} {R C k : Nat} (h : ¬ (k / 6 < R ∧ k % 6 < C)) : uhi A R C (k + 1) = uhi A R C k := if_neg h
theorem u_skip {A : Nat → Nat} {R C a : Nat} : ∀ n, (∀ k, a ≤ k → k < a + n → ¬ (k / 6 < R ∧ k % 6 < C)) → ulo A R C (a + n) = ulo A R C a ∧ uhi A R C (a + n) = uhi A R C a
  | 0, _ => ⟨rfl, rfl⟩
  | n + 1, h => by
    obtain ⟨p, q⟩ := u_skip n (fun k h1 h2 => h k h1 (by omega))
    rw [← Nat.add_assoc, ulo_n (h _ (by omega) (by omega)), uhi_n (h _ (by omega) (by omega))]
    exact ⟨p, q⟩
end
section
/-! the class: ages of lamps -/
section XAG
variable {d : Nat} {w : List (List xE)} {bd : List (Nat × Nat)} {fc : List (Nat × Nat × Bool)} {rr : Nat × Nat}
theorem lmAddX {kk : Nat} (hI : xInv w) (hk1 : kk < fld w 16 3) (hq : ∀ p, p < fld w 16 3 → (∀ t, t < 4 → rwv w 17 (5 * p + t) ≤ 5) ∧ rwv w 17 (5 * p + 4) ≤ 8991) (hA : ∀ k, k < 36 → rwv w 69 k ≤ 98901) : xPq (d + 2) mX3_addPicture [(2, 68), (0, kk)] w bd fc rr [] (fun w' => xInv w' ∧ xFr [69] w w' ∧ (∀ k, k < 36 → rwv w' 69 k = rwv w 69 k + agp (rwv w 17) kk k)) := by
  refine xPq.of ?_
  show xTo (d + 2) mX3_addPicture (0, [], [(0, (2, 68)), (1, (0, kk))], [], (w, bd, fc, 0, 0, rr)) (fun φ => ∃ w', xEnd 0 [] (w', bd, fc, 0, 0, rr) φ ∧ xInv w' ∧ xFr [69] w w' ∧ (∀ k, k < 36 → rwv w' 69 k = rwv w 69 k + agp (rwv w 17) kk k))
  refine xoC68 (hI 68 (by decide) : cp68 (wget w 68)) (fun f68_1 f68_3 h68_5 hb2 hb4 => ?_)
  refine xoC1 (hI 1 (by decide) : cp1 (wget w 1)) (fun f1_6 f1_8 f1_10 f1_12 f1_14 f1_16 h1_18 hb7 hb9 hb11 hb13 hb15 hb17 => ?_)
  obtain ⟨f16_19, h16_21, hb20⟩ := (hI 16 (by decide) : cp16 (wget w 16))
  refine xoI (hI 17 (by decide) : cpI 60 7 4294967295 (wget w 17)) (fun g17_22 h17_23 hb24 => ?_)
  refine xoI (hI 69 (by decide) : cpI 36 40 4294967295 (wget w 69)) (fun g69_25 h69_26 hb27 => ?_)
  have q16 : fld w 16 3 = f16_19 := fld_of h16_21
  refine xg_t (xg_blk (b := [(0, 1, 0, 0, 0, 0), (1, 3, 1, 3, 0, 21), (4, 3, 1, 9, 8, 38), (7, 1, 2, 1, 0, 0), (8, 1, 3, 1, 0, 0), (9, 3, 13, 285, 40, 54), (12, 1, 3, 5, 0, 0), (13, 3, 63, 0, 0, 58), (16, 1, 15, 2, 0, 0), (17, 1, 0, 0, 0, 0), (18, 3, 1, 3, 0, 21), (21, 3, 1, 9, 8, 38), (24, 1, 2, 1, 0, 0), (25, 1, 3, 3, 0, 0), (26, 3, 13, 285, 40, 54), (29, 1, 3, 5, 0, 0), (30, 3, 63, 0, 0, 58), (33, 1, 15, 3, 0, 0), (34, 1, 0, 0, 0, 0), (35, 3, 1, 3, 0, 21), (38, 3, 1, 9, 8, 38), (41, 1, 2, 1, 0, 0), (42, 1, 3, 4, 0, 0), (43, 3, 13, 285, 40, 54), (46, 2, 15, 4, 0, 0), (48, 1, 0, 0, 0, 0), (49, 3, 1, 3, 0, 21), (52, 3, 1, 9, 8, 38), (55, 1, 2, 1, 0, 0), (56, 1, 3, 0, 0, 0), (57, 3, 13, 285, 40, 54), (60, 1, 3, 0, 0, 0), (61, 3, 62, 0, 0, 63), (64, 2, 15, 5, 0, 0)]) rfl) ?_
  refine xg_t (xg_aload (va := (2, 68)) rfl rfl) ?_
  refine xg_t (xg_getf (va := (2, 1)) h68_5 rfl) ?_
  refine xg_t (xg_getf (va := (2, 16)) h1_18 rfl) ?_
  refine xg_t (xg_iload (va := (0, kk)) rfl rfl) ?_
  refine xg_t (xg_const) ?_
  refine xg_kE (xg_cVr mX5_get (vs := [(0, kk), (0, 1)]) (rest := []) (rs := [(0, g17_22 (kk * 5 + 1))]) (cn1 := 0) (sl1 := 0) rfl (rgetX (lim := 12) (wd := 5) (sz := f16_19) h16_21 h17_23 (by decide) (by omega) (by decide) (by decide) (by omega) (by decide)) rfl h16_21 rfl rfl rfl rfl rfl rfl rfl) (Nat.lt_succ_of_le ((hb24) _)) (fun z28 hz29 he30 => ?_)
  have hP31 : rwv w 17 (5 * kk + 1) = z28 := by
    rw [rwv_of (j := 5 * kk + 1) h17_23 (by omega), show 5 * kk + 1 = kk * 5 + 1 by omega]
    exact he30
  have hl32 : z28 ≤ 5 := by have q := (hq kk (by omega)).1 1 (by decide); omega
  refine xg_t (xg_const) ?_
  refine xg_minK (u := z28) (v := 5) xnm0 xnm0 xmx_ok (by omega) (by omega) (fun z33 hz34 hz35 hz36 hz37 => ?_)
  unfold xbs at hz35 hz36
  have hm38 : z28 = z33 := by omega
  subst hm38
  refine xg_t (xg_istore (l1 := [(0, (2, 68)), (1, (0, kk))]) rfl rfl rfl) ?_
  refine xg_t (xg_aload (va := (2, 68)) rfl rfl) ?_
  refine xg_t (xg_getf (va := (2, 1)) h68_5 rfl) ?_
  refine xg_t (xg_getf (va := (2, 16)) h1_18 rfl) ?_
  refine xg_t (xg_iload (va := (0, kk)) rfl rfl) ?_
  refine xg_t (xg_const) ?_
  refine xg_kE (xg_cVr mX5_get (vs := [(0, kk), (0, 3)]) (rest := []) (rs := [(0, g17_22 (kk * 5 + 3))]) (cn1 := 0) (sl1 := 0) rfl (rgetX (lim := 12) (wd := 5) (sz := f16_19) h16_21 h17_23 (by decide) (by omega) (by decide) (by decide) (by omega) (by decide)) rfl h16_21 rfl rfl rfl rfl rfl rfl rfl) (Nat.lt_succ_of_le ((hb24) _)) (fun z39 hz40 he41 => ?_)
  have hP42 : rwv w 17 (5 * kk + 3) = z39 := by
    rw [rwv_of (j := 5 * kk + 3) h17_23 (by omega), show 5 * kk + 3 = kk * 5 + 3 by omega]
    exact he41
  have hl43 : z39 ≤ 5 := by have q := (hq kk (by omega)).1 3 (by decide); omega
  refine xg_t (xg_const) ?_
  refine xg_minK (u := z39) (v := 5) xnm0 xnm0 xmx_ok (by omega) (by omega) (fun z44 hz45 hz46 hz47 hz48 => ?_)
  unfold xbs at hz46 hz47
  have hm49 : z39 = z44 := by omega
  subst hm49
  refine xg_t (xg_istore (l1 := [(2, (0, z28)), (0, (2, 68)), (1, (0, kk))]) rfl rfl rfl) ?_
  refine xg_t (xg_aload (va := (2, 68)) rfl rfl) ?_
  refine xg_t (xg_getf (va := (2, 1)) h68_5 rfl) ?_
  refine xg_t (xg_getf (va := (2, 16)) h1_18 rfl) ?_
  refine xg_t (xg_iload (va := (0, kk)) rfl rfl) ?_
  refine xg_t (xg_const) ?_
  refine xg_kE (xg_cVr mX5_get (vs := [(0, kk), (0, 4)]) (rest := []) (rs := [(0, g17_22 (kk * 5 + 4))]) (cn1 := 0) (sl1 := 0) rfl (rgetX (lim := 12) (wd := 5) (sz := f16_19) h16_21 h17_23 (by decide) (by omega) (by decide) (by decide) (by omega) (by decide)) rfl h16_21 rfl rfl rfl rfl rfl rfl rfl) (Nat.lt_succ_of_le ((hb24) _)) (fun z50 hz51 he52 => ?_)
  have hP53 : rwv w 17 (5 * kk + 4) = z50 := by
    rw [rwv_of (j := 5 * kk + 4) h17_23 (by omega), show 5 * kk + 4 = kk * 5 + 4 by omega]
    exact he52
  have hl54 : z50 ≤ 8991 := by have q := (hq kk (by omega)).2; omega
  refine xg_t (xg_istore (l1 := [(3, (0, z39)), (2, (0, z28)), (0, (2, 68)), (1, (0, kk))]) rfl rfl rfl) ?_
  refine xg_t (xg_aload (va := (2, 68)) rfl rfl) ?_
  refine xg_t (xg_getf (va := (2, 1)) h68_5 rfl) ?_
  refine xg_t (xg_getf (va := (2, 16)) h1_18 rfl) ?_
  refine xg_t (xg_iload (va := (0, kk)) rfl rfl) ?_
  refine xg_t (xg_const) ?_
  refine xg_kE (xg_cVr mX5_get (vs := [(0, kk), (0, 0)]) (rest := []) (rs := [(0, g17_22 (kk * 5 + 0))]) (cn1 := 0) (sl1 := 0) rfl (rgetX (lim := 12) (wd := 5) (sz := f16_19) h16_21 h17_23 (by decide) (by omega) (by decide) (by decide) (by omega) (by decide)) rfl h16_21 rfl rfl rfl rfl rfl rfl rfl) (Nat.lt_succ_of_le ((hb24) _)) (fun z55 hz56 he57 => ?_)
  have hP58 : rwv w 17 (5 * kk) = z55 := by
    rw [rwv_of (j := 5 * kk) h17_23 (by omega), show 5 * kk = kk * 5 + 0 by omega]
    exact he57
  have hl59 : z55 ≤ 5 := by have q := (hq kk (by omega)).1 0 (by decide); rw [Nat.add_zero] at q; omega
  refine xg_t (xg_const) ?_
  refine xg_maxK (u := z55) (v := 0) xnm0 xnm0 xmx_ok (by omega) (by omega) (fun z60 hz61 hz62 hz63 hz64 => ?_)
  unfold xbs at hz62 hz63
  have hm65 : z55 = z60 := by omega
  subst hm65
  refine xg_t (xg_istore (l1 := [(4, (0, z50)), (3, (0, z39)), (2, (0, z28)), (0, (2, 68)), (1, (0, kk))]) rfl rfl rfl) ?_
  refine xg_t (xg_drop (l1 := [(0, (2, 68)), (1, (0, kk)), (2, (0, z28)), (3, (0, z39)), (4, (0, z50)), (5, (0, z55))]) (List.forall_mem_cons.mpr ⟨List.mem_cons_of_mem _ (List.mem_cons_of_mem _ (List.mem_cons_of_mem _ (List.mem_cons_of_mem _ (List.mem_cons_self)))), List.forall_mem_cons.mpr ⟨List.mem_cons_of_mem _ (List.mem_cons_of_mem _ (List.mem_cons_of_mem _ (List.mem_cons_of_mem _ (List.mem_cons_of_mem _ (List.mem_cons_self))))), List.forall_mem_cons.mpr ⟨List.mem_cons_of_mem _ (List.mem_cons_of_mem _ (List.mem_cons_of_mem _ (List.mem_cons_self))), List.forall_mem_cons.mpr ⟨List.mem_cons_of_mem _ (List.mem_cons_of_mem _ (List.mem_cons_self)), List.forall_mem_cons.mpr ⟨List.mem_cons_of_mem _ (List.mem_cons_self), List.forall_mem_cons.mpr ⟨List.mem_cons_self, fun _ h => absurd h List.not_mem_nil⟩⟩⟩⟩⟩⟩)) ?_
  have hgo0 : agi (rwv w 69) (rwv w 69) (rwv w 17 (5 * kk)) (rwv w 17 (5 * kk + 2)) (rwv w 17 (5 * kk + 3)) (rwv w 17 (5 * kk + 4)) z55 (rwv w 17 (5 * kk + 2)) := by rw [← hP58]; exact agi_0
  have key66 : ∀ (m68 : Nat) (ro : Nat) (w69 : List (List xE)), 6 - ro < m68 → ro ≤ 6 → xInv w69 → xFr [69] w w69 → agi (rwv w 69) (rwv w69 69) (rwv w 17 (5 * kk)) (rwv w 17 (5 * kk + 2)) (rwv w 17 (5 * kk + 3)) (rwv w 17 (5 * kk + 4)) ro (rwv w 17 (5 * kk + 2)) ∧ (rwv w 17 (5 * kk)) ≤ ro ∧ (ro ≤ (rwv w 17 (5 * kk + 1)) + 1 ∨ ro = (rwv w 17 (5 * kk))) → xTo (d + 2) mX3_addPicture (66, [], [(0, (2, 68)), (1, (0, kk)), (2, (0, z28)), (3, (0, z39)), (4, (0, z50)), (5, (0, ro))], [], (w69, bd, fc, 0, 0, rr)) (fun φ => ∃ w', xEnd 0 [] (w', bd, fc, 0, 0, rr) φ ∧ xInv w' ∧ xFr [69] w w' ∧ (∀ k, k < 36 → rwv w' 69 k = rwv w 69 k + agp (rwv w 17) kk k)) := by
    intro m68
    induction m68 with
    | zero => intro ro w69 hz; exact absurd hz (Nat.not_lt_zero _)
    | succ m68 ih67 =>
      intro ro w69 hm74 hn72 hI70 hF71 he73
      obtain ⟨hgo, hAr, hBr⟩ := he73
      refine xg_t (xg_blk (b := [(66, 2, 2, 5, 0, 0), (68, 1, 2, 2, 0, 0), (69, 3, 6, 126, 4, 0), (72, 1, 0, 0, 0, 0), (73, 3, 1, 3, 0, 21), (76, 3, 1, 9, 8, 38), (79, 1, 2, 1, 0, 0), (80, 1, 3, 2, 0, 0), (81, 3, 13, 285, 40, 54), (84, 1, 3, 0, 0, 0), (85, 3, 62, 0, 0, 63), (88, 2, 15, 6, 0, 0)]) rfl) ?_
      refine xg_t (xg_iload (va := (0, ro)) rfl rfl) ?_
      refine xg_t (xg_iload (va := (0, z28)) rfl rfl) ?_
      by_cases hc75 : z28 < ro
      · refine xg_t (xg_icT (u := ro) (v := z28) rfl xnm0 xnm0 (xj_gtT hc75 (by omega))) ?_
        refine xg_t (xg_blk (b := [(126, 1, 12, 0, 0, 0)]) rfl) ?_
        exact xg_e ⟨w69, ⟨rfl, rfl⟩, hI70, hF71, agi_e (p := kk) hgo (by omega)⟩
      · refine xg_t (xg_icF (u := ro) (v := z28) rfl xnm0 xnm0 (xj_gtF (by omega) (by omega))) ?_
        refine xg_t (xg_aload (va := (2, 68)) rfl rfl) ?_
        refine xg_t (xg_getf (va := (2, 1)) (hF71.get (by decide) h68_5) rfl) ?_
        refine xg_t (xg_getf (va := (2, 16)) (hF71.get (by decide) h1_18) rfl) ?_
        refine xg_t (xg_iload (va := (0, kk)) rfl rfl) ?_
        refine xg_t (xg_const) ?_
        refine xg_kE (xg_cVr mX5_get (vs := [(0, kk), (0, 2)]) (rest := []) (rs := [(0, g17_22 (kk * 5 + 2))]) (cn1 := 0) (sl1 := 0) rfl (rgetX (lim := 12) (wd := 5) (sz := f16_19) (hF71.get (by decide) h16_21) (h17_23.fr hF71 (by decide)) (by decide) (by omega) (by decide) (by decide) (by omega) (by decide)) rfl (hF71.get (by decide) h16_21) rfl rfl rfl rfl rfl rfl rfl) (Nat.lt_succ_of_le ((hb24) _)) (fun z76 hz77 he78 => ?_)
        have hP79 : rwv w 17 (5 * kk + 2) = z76 := by
          rw [rwv_of (j := 5 * kk + 2) h17_23 (by omega), show 5 * kk + 2 = kk * 5 + 2 by omega]
          exact he78
        have hl80 : z76 ≤ 5 := by have q := (hq kk (by omega)).1 2 (by decide); omega
        refine xg_t (xg_const) ?_
        refine xg_maxK (u := z76) (v := 0) xnm0 xnm0 xmx_ok (by omega) (by omega) (fun z81 hz82 hz83 hz84 hz85 => ?_)
        unfold xbs at hz83 hz84
        have hm86 : z76 = z81 := by omega
        subst hm86
        refine xg_t (xg_istore (l1 := [(0, (2, 68)), (1, (0, kk)), (2, (0, z28)), (3, (0, z39)), (4, (0, z50)), (5, (0, ro))]) rfl rfl rfl) ?_
        refine xg_t (xg_drop (l1 := [(0, (2, 68)), (1, (0, kk)), (2, (0, z28)), (3, (0, z39)), (4, (0, z50)), (5, (0, ro)), (6, (0, z76))]) (List.forall_mem_cons.mpr ⟨List.mem_cons_of_mem _ (List.mem_cons_self), List.forall_mem_cons.mpr ⟨List.mem_cons_of_mem _ (List.mem_cons_of_mem _ (List.mem_cons_self)), List.forall_mem_cons.mpr ⟨List.mem_cons_of_mem _ (List.mem_cons_of_mem _ (List.mem_cons_of_mem _ (List.mem_cons_self))), List.forall_mem_cons.mpr ⟨List.mem_cons_of_mem _ (List.mem_cons_of_mem _ (List.mem_cons_of_mem _ (List.mem_cons_of_mem _ (List.mem_cons_self)))), List.forall_mem_cons.mpr ⟨List.mem_cons_of_mem _ (List.mem_cons_of_mem _ (List.mem_cons_of_mem _ (List.mem_cons_of_mem _ (List.mem_cons_of_mem _ (List.mem_cons_self))))), List.forall_mem_cons.mpr ⟨List.mem_cons_of_mem _ (List.mem_cons_of_mem _ (List.mem_cons_of_mem _ (List.mem_cons_of_mem _ (List.mem_cons_of_mem _ (List.mem_cons_of_mem _ (List.mem_cons_self)))))), List.forall_mem_cons.mpr ⟨List.mem_cons_self, fun _ h => absurd h List.not_mem_nil⟩⟩⟩⟩⟩⟩⟩)) ?_
        have hgi0 : agi (rwv w 69) (rwv w69 69) (rwv w 17 (5 * kk)) (rwv w 17 (5 * kk + 2)) (rwv w 17 (5 * kk + 3)) (rwv w 17 (5 * kk + 4)) ro z76 := by rw [← hP79]; exact hgo
        have key87 : ∀ (m89 : Nat) (co : Nat) (w90 : List (List xE)), 6 - co < m89 → co ≤ 6 → xInv w90 → xFr [69] w w90 → agi (rwv w 69) (rwv w90 69) (rwv w 17 (5 * kk)) (rwv w 17 (5 * kk + 2)) (rwv w 17 (5 * kk + 3)) (rwv w 17 (5 * kk + 4)) ro co ∧ (rwv w 17 (5 * kk + 2)) ≤ co ∧ (co ≤ (rwv w 17 (5 * kk + 3)) + 1 ∨ co = (rwv w 17 (5 * kk + 2))) → xTo (d + 2) mX3_addPicture (90, [], [(0, (2, 68)), (1, (0, kk)), (2, (0, z28)), (3, (0, z39)), (4, (0, z50)), (5, (0, ro)), (6, (0, co))], [], (w90, bd, fc, 0, 0, rr)) (fun φ => ∃ w', xEnd 0 [] (w', bd, fc, 0, 0, rr) φ ∧ xInv w' ∧ xFr [69] w w' ∧ (∀ k, k < 36 → rwv w' 69 k = rwv w 69 k + agp (rwv w 17) kk k)) := by
          intro m89
          induction m89 with
          | zero => intro co w90 hz; exact absurd hz (Nat.not_lt_zero _)
          | succ m89 ih88 =>
            intro co w90 hm95 hn93 hI91 hF92 he94
            obtain ⟨hgi, hCc, hDc⟩ := he94
            refine xoI (hI91 69 (by decide) : cpI 36 40 4294967295 (wget w90 69)) (fun g69_96 h69_97 hb98 => ?_)
            refine xg_t (xg_blk (b := [(90, 2, 2, 6, 0, 0), (92, 1, 2, 3, 0, 0), (93, 3, 6, 120, 4, 0), (96, 1, 0, 0, 0, 0), (97, 3, 1, 3, 1, 9), (100, 2, 2, 5, 0, 0), (102, 2, 4, 6, 0, 0), (104, 1, 16, 0, 0, 0), (105, 2, 2, 6, 0, 0), (107, 1, 11, 0, 0, 0), (108, 1, 39, 0, 0, 0), (109, 1, 10, 0, 0, 0), (110, 2, 2, 4, 0, 0), (112, 1, 11, 0, 0, 0), (113, 1, 17, 0, 0, 0), (114, 3, 9, 6, 1, 0), (117, 3, 8, 90, 0, 0)]) rfl) ?_
            refine xg_t (xg_iload (va := (0, co)) rfl rfl) ?_
            refine xg_t (xg_iload (va := (0, z39)) rfl rfl) ?_
            by_cases hc99 : z39 < co
            · refine xg_t (xg_icT (u := co) (v := z39) rfl xnm0 xnm0 (xj_gtT hc99 (by omega))) ?_
              refine xg_t (xg_blk (b := [(120, 3, 9, 5, 1, 0), (123, 3, 8, 66, 0, 0)]) rfl) ?_
              refine xg_t (xg_iinc (u := ro) (z := ro + 1) (l1 := [(0, (2, 68)), (1, (0, kk)), (2, (0, z28)), (3, (0, z39)), (4, (0, z50)), (6, (0, co))]) rfl rfl (by omega) rfl) ?_
              refine xg_t (xg_goto) ?_
              refine xg_t (xg_drop (l1 := [(0, (2, 68)), (1, (0, kk)), (2, (0, z28)), (3, (0, z39)), (4, (0, z50)), (5, (0, ro + 1))]) (List.forall_mem_cons.mpr ⟨List.mem_cons_of_mem _ (List.mem_cons_self), List.forall_mem_cons.mpr ⟨List.mem_cons_of_mem _ (List.mem_cons_of_mem _ (List.mem_cons_self)), List.forall_mem_cons.mpr ⟨List.mem_cons_of_mem _ (List.mem_cons_of_mem _ (List.mem_cons_of_mem _ (List.mem_cons_self))), List.forall_mem_cons.mpr ⟨List.mem_cons_of_mem _ (List.mem_cons_of_mem _ (List.mem_cons_of_mem _ (List.mem_cons_of_mem _ (List.mem_cons_self)))), List.forall_mem_cons.mpr ⟨List.mem_cons_of_mem _ (List.mem_cons_of_mem _ (List.mem_cons_of_mem _ (List.mem_cons_of_mem _ (List.mem_cons_of_mem _ (List.mem_cons_self))))), List.forall_mem_cons.mpr ⟨List.mem_cons_self, fun _ h => absurd h List.not_mem_nil⟩⟩⟩⟩⟩⟩)) ?_
              exact ih67 (ro + 1) w90 (by omega) (by omega) (hI91) (hF92) (⟨agi_r hgi (by omega) (by omega), by omega, by omega⟩)
            · refine xg_t (xg_icF (u := co) (v := z39) rfl xnm0 xnm0 (xj_gtF (by omega) (by omega))) ?_
              refine xg_t (xg_aload (va := (2, 68)) rfl rfl) ?_
              refine xg_t (xg_getf (va := (2, 69)) (hF92.get (by decide) h68_5) rfl) ?_
              refine xg_t (xg_iload (va := (0, ro)) rfl rfl) ?_
              refine xg_t (xg_bip) ?_
              refine xg_t (xg_imul (u := ro) (v := 6) (z := ro * 6) xnm0 xnm0 (by omega)) ?_
              refine xg_t (xg_iload (va := (0, co)) rfl rfl) ?_
              refine xg_t (xg_iadd (u := ro * 6) (v := co) (z := (ro * 6) + co) xnm0 xnm0 (by omega)) ?_
              refine xg_t (xg_dup2 rfl) ?_
              refine xg_ialdB (n := (ro * 6) + co) (B := 4294967295) h69_97 (hb98) xnm0 (by omega) (fun u100 hu101 he102 => ?_)
              have hu103 : rwv w90 69 (6 * ro + co) = u100 := by
                rw [rwv_of (j := 6 * ro + co) h69_97 (by omega), show 6 * ro + co = (ro * 6) + co by omega]
                exact he102
              have hl104 : u100 ≤ 107892 := by
                have q1 := hgi (6 * ro + co) (by omega)
                have q2 := hA (6 * ro + co) (by omega)
                omega
              refine xg_t (xg_iload (va := (0, z50)) rfl rfl) ?_
              refine xg_t (xg_iadd (u := u100) (v := z50) (z := u100 + z50) xnm0 xnm0 (by omega)) ?_
              refine xg_iastK (n := (ro * 6) + co) (u := u100 + z50) h69_97 xnm0 xnm0 rfl (by omega) (fun w105 hr106 hb107 => ?_)
              obtain ⟨g108, hg109⟩ : ∃ g : Nat → Nat, g = (fun j => if j = (ro * 6) + co then u100 + z50 else g69_96 j) := ⟨_, rfl⟩
              rw [← hg109] at hr106
              have he110 : g108 ((ro * 6) + co) = u100 + z50 := by rw [hg109]; exact if_pos rfl
              have hk111 : ∀ j, j ≠ (ro * 6) + co → g108 j = g69_96 j := fun j hj => by rw [hg109]; exact if_neg hj
              have hb112 : ∀ j, g108 j ≤ 4294967295 := fun j => by rw [hg109]; exact xrb (by omega) (hb98) j
              refine xg_t (xg_iinc (u := co) (z := co + 1) (l1 := [(0, (2, 68)), (1, (0, kk)), (2, (0, z28)), (3, (0, z39)), (4, (0, z50)), (5, (0, ro))]) rfl rfl (by omega) rfl) ?_
              refine xg_t (xg_goto) ?_
              refine xg_t (xg_drop (l1 := [(0, (2, 68)), (1, (0, kk)), (2, (0, z28)), (3, (0, z39)), (4, (0, z50)), (5, (0, ro)), (6, (0, co + 1))]) (List.forall_mem_cons.mpr ⟨List.mem_cons_of_mem _ (List.mem_cons_self), List.forall_mem_cons.mpr ⟨List.mem_cons_of_mem _ (List.mem_cons_of_mem _ (List.mem_cons_self)), List.forall_mem_cons.mpr ⟨List.mem_cons_of_mem _ (List.mem_cons_of_mem _ (List.mem_cons_of_mem _ (List.mem_cons_self))), List.forall_mem_cons.mpr ⟨List.mem_cons_of_mem _ (List.mem_cons_of_mem _ (List.mem_cons_of_mem _ (List.mem_cons_of_mem _ (List.mem_cons_self)))), List.forall_mem_cons.mpr ⟨List.mem_cons_of_mem _ (List.mem_cons_of_mem _ (List.mem_cons_of_mem _ (List.mem_cons_of_mem _ (List.mem_cons_of_mem _ (List.mem_cons_self))))), List.forall_mem_cons.mpr ⟨List.mem_cons_of_mem _ (List.mem_cons_of_mem _ (List.mem_cons_of_mem _ (List.mem_cons_of_mem _ (List.mem_cons_of_mem _ (List.mem_cons_of_mem _ (List.mem_cons_self)))))), List.forall_mem_cons.mpr ⟨List.mem_cons_self, fun _ h => absurd h List.not_mem_nil⟩⟩⟩⟩⟩⟩⟩)) ?_
              have hk113 : agi (rwv w 69) (rwv w105 69) (rwv w 17 (5 * kk)) (rwv w 17 (5 * kk + 2)) (rwv w 17 (5 * kk + 3)) (rwv w 17 (5 * kk + 4)) ro (co + 1) := agi_s hgi (by omega) (by omega) (by omega) (by
                rw [hu103, hP53, rwv_of (j := 6 * ro + co) hr106 (by omega), show 6 * ro + co = (ro * 6) + co by omega, he110]) (fun k hk hne => by
                rw [rwv_of (j := k) hr106 (by omega), hk111 k (by omega), ← rwv_of (j := k) h69_97 (by omega)])
              exact ih88 (co + 1) w105 (by omega) (by omega) (xInv.up (S := [69]) hI91 (xFr.of (S := [69]) hb107 (by decide)) (List.forall_mem_cons.mpr ⟨(show cpI 36 40 4294967295 (wget w105 69) from ⟨_, hr106, hb112⟩), fun _ h => absurd h List.not_mem_nil⟩)) ((hF92.tr (xFr.of (S := [69]) hb107 (by decide)))) (⟨hk113, by omega, by omega⟩)
        exact key87 _ z76 w69 (Nat.lt_succ_self _) (by omega) (hI70) (hF71) (⟨hgi0, by omega, Or.inr (by omega)⟩)
  exact key66 _ z55 w (Nat.lt_succ_self _) (by omega) (hI) (xFr.rf) (⟨hgo0, by omega, Or.inr (by omega)⟩)
theorem lmRefreshAX (hI : xInv w) (hq : ∀ p, p < fld w 16 3 → (∀ t, t < 4 → rwv w 17 (5 * p + t) ≤ 5) ∧ rwv w 17 (5 * p + 4) ≤ 8991) (hfr : fld w 68 4 = 1 → ∀ k, k < 36 → rwv w 69 k = ag (rwv w 17) (fld w 16 3) k) : xPq (d + 3) mX3_refreshAges [(2, 68)] w bd fc rr [] (fun w' => xInv w' ∧ xFr [68, 69] w w' ∧ ((∀ k, k < 36 → rwv w' 69 k = ag (rwv w 17) (fld w 16 3) k) ∧ fld w' 68 4 = 1 ∧ fld w' 68 5 = fld w 68 5)) := by
  refine xPq.of ?_
  show xTo (d + 3) mX3_refreshAges (0, [], [(0, (2, 68))], [], (w, bd, fc, 0, 0, rr)) (fun φ => ∃ w', xEnd 0 [] (w', bd, fc, 0, 0, rr) φ ∧ xInv w' ∧ xFr [68, 69] w w' ∧ ((∀ k, k < 36 → rwv w' 69 k = ag (rwv w 17) (fld w 16 3) k) ∧ fld w' 68 4 = 1 ∧ fld w' 68 5 = fld w 68 5))
  refine xoC68 (hI 68 (by decide) : cp68 (wget w 68)) (fun f68_1 f68_3 h68_5 hb2 hb4 => ?_)
  refine xoC1 (hI 1 (by decide) : cp1 (wget w 1)) (fun f1_6 f1_8 f1_10 f1_12 f1_14 f1_16 h1_18 hb7 hb9 hb11 hb13 hb15 hb17 => ?_)
  obtain ⟨f16_19, h16_21, hb20⟩ := (hI 16 (by decide) : cp16 (wget w 16))
  refine xoI (hI 17 (by decide) : cpI 60 7 4294967295 (wget w 17)) (fun g17_22 h17_23 hb24 => ?_)
  refine xoI (hI 69 (by decide) : cpI 36 40 4294967295 (wget w 69)) (fun g69_25 h69_26 hb27 => ?_)
  have q16 : fld w 16 3 = f16_19 := fld_of h16_21
  have q684 : fld w 68 4 = f68_1 := fld_of h68_5
  have q685 : fld w 68 5 = f68_3 := fld_of h68_5
  refine xg_t (xg_blk (b := [(0, 1, 0, 0, 0, 0), (1, 3, 1, 3, 4, 25), (4, 3, 7, 8, 0, 0), (7, 1, 12, 0, 0, 0)]) rfl) ?_
  refine xg_t (xg_aload (va := (2, 68)) rfl rfl) ?_
  refine xg_t (xg_getf (va := (0, f68_1)) h68_5 rfl) ?_
  by_cases hc28 : f68_1 = 0
  · refine xg_t (xg_ifT (u := f68_1) rfl xnm0 (xj_eqT hc28)) ?_
    refine xg_t (xg_blk (b := [(8, 1, 0, 0, 0, 0), (9, 3, 1, 3, 1, 9), (12, 1, 3, 0, 0, 0), (13, 3, 13, 1, 2, 32), (16, 1, 3, 0, 0, 0), (17, 1, 15, 1, 0, 0)]) rfl) ?_
    refine xg_t (xg_aload (va := (2, 68)) rfl rfl) ?_
    refine xg_t (xg_getf (va := (2, 69)) h68_5 rfl) ?_
    refine xg_t (xg_const) ?_
    refine xg_cS mJ7_fill_53178 (vs := [(2, 69), (0, 0)]) (rest := []) (rs := []) (cn1 := 0) (sl1 := 0) rfl (fillI (v := 0) h69_26 (by decide)) rfl rfl rfl rfl rfl rfl rfl rfl (fun w29 hq30 => ?_)
    refine xg_t (xg_const) ?_
    refine xg_t (xg_istore (l1 := [(0, (2, 68))]) rfl rfl rfl) ?_
    refine xg_t (xg_drop (l1 := [(0, (2, 68)), (1, (0, 0))]) (List.forall_mem_cons.mpr ⟨List.mem_cons_of_mem _ (List.mem_cons_self), List.forall_mem_cons.mpr ⟨List.mem_cons_self, fun _ h => absurd h List.not_mem_nil⟩⟩)) ?_
    have key31 : ∀ (m33 : Nat) (ki : Nat) (w34 : List (List xE)), 12 - ki < m33 → ki ≤ 12 → xInv w34 → xFr [68, 69] w w34 → (∀ k, k < 36 → rwv w34 69 k = ag (rwv w 17) ki k) ∧ fld w34 68 5 = fld w 68 5 ∧ ki ≤ fld w 16 3 → xTo (d + 3) mX3_refreshAges (18, [], [(0, (2, 68)), (1, (0, ki))], [], (w34, bd, fc, 0, 0, rr)) (fun φ => ∃ w', xEnd 0 [] (w', bd, fc, 0, 0, rr) φ ∧ xInv w' ∧ xFr [68, 69] w w' ∧ ((∀ k, k < 36 → rwv w' 69 k = ag (rwv w 17) (fld w 16 3) k) ∧ fld w' 68 4 = 1 ∧ fld w' 68 5 = fld w 68 5)) := by
      intro m33
      induction m33 with
      | zero => intro ki w34 hz; exact absurd hz (Nat.not_lt_zero _)
      | succ m33 ih32 =>
        intro ki w34 hm39 hn37 hI35 hF36 he38
        obtain ⟨hag, h685, hkn⟩ := he38
        refine xoC68 (hI35 68 (by decide) : cp68 (wget w34 68)) (fun f68_40 f68_42 h68_44 hb41 hb43 => ?_)
        have q685b : fld w34 68 5 = f68_42 := fld_of h68_44
        refine xg_t (xg_blk (b := [(18, 1, 2, 1, 0, 0), (19, 1, 0, 0, 0, 0), (20, 3, 1, 3, 0, 21), (23, 3, 1, 9, 8, 38), (26, 3, 1, 5, 3, 44), (29, 3, 6, 43, 3, 0), (32, 1, 0, 0, 0, 0), (33, 1, 2, 1, 0, 0), (34, 3, 13, 255, 24, 50), (37, 3, 9, 1, 1, 0), (40, 3, 8, 18, 0, 0)]) rfl) ?_
        refine xg_t (xg_iload (va := (0, ki)) rfl rfl) ?_
        refine xg_t (xg_aload (va := (2, 68)) rfl rfl) ?_
        refine xg_t (xg_getf (va := (2, 1)) h68_44 rfl) ?_
        refine xg_t (xg_getf (va := (2, 16)) (hF36.get (by decide) h1_18) rfl) ?_
        refine xg_t (xg_getf (va := (0, f16_19)) (hF36.get (by decide) h16_21) rfl) ?_
        by_cases hc45 : ki < f16_19
        · refine xg_t (xg_icF (u := ki) (v := f16_19) rfl xnm0 xnm0 (xj_geF hc45 (by omega))) ?_
          refine xg_t (xg_aload (va := (2, 68)) rfl rfl) ?_
          refine xg_t (xg_iload (va := (0, ki)) rfl rfl) ?_
          have hf46 : xFr [68, 69] w w34 := hF36
          have e1747 : rwv w34 17 = rwv w 17 := rwf_eq (hf46.1 17 (by decide))
          have e1648 : fld w34 16 3 = fld w 16 3 := fld_fr hf46 (by decide)
          have hA49 : ∀ k, k < 36 → rwv w34 69 k ≤ 98901 := fun k hk => by
            rw [hag k hk]
            have q := ag_le (P := rwv w 17) (n := ki) (k := k) (B := 8991) (fun p hp => (hq p (by omega)).2)
            omega
          refine xg_cVv mX3_addPicture (vs := [(0, ki)]) (rest := []) (cn1 := 0) (sl1 := 0) rfl (lmAddX (hI35) (by omega) (by rw [e1648, e1747]; exact hq) hA49) rfl h68_44 rfl rfl rfl rfl rfl rfl (fun w50 hq51 => ?_)
          obtain ⟨hI52, hF53, hx54⟩ := hq51
          rw [e1747] at hx54
          refine xg_t (xg_iinc (u := ki) (z := ki + 1) (l1 := [(0, (2, 68))]) rfl rfl (by omega) rfl) ?_
          refine xg_t (xg_goto) ?_
          refine xg_t (xg_drop (l1 := [(0, (2, 68)), (1, (0, ki + 1))]) (List.forall_mem_cons.mpr ⟨List.mem_cons_of_mem _ (List.mem_cons_self), List.forall_mem_cons.mpr ⟨List.mem_cons_self, fun _ h => absurd h List.not_mem_nil⟩⟩)) ?_
          have hk55 : ∀ k, k < 36 → rwv w50 69 k = ag (rwv w 17) (ki + 1) k := fun k hk => by
            rw [hx54 k hk, hag k hk]
            rfl
          exact ih32 (ki + 1) w50 (by omega) (by omega) (hI52) ((hF36.tr (hF53.up (by decide)))) (⟨hk55, (fld_of (hF53.get (by decide) h68_44)).trans (q685b.symm.trans h685), by omega⟩)
        · refine xg_t (xg_icT (u := ki) (v := f16_19) rfl xnm0 xnm0 (xj_geT (by omega) (by omega))) ?_
          refine xg_t (xg_blk (b := [(43, 1, 0, 0, 0, 0), (44, 1, 3, 1, 0, 0), (45, 3, 59, 3, 4, 25), (48, 1, 12, 0, 0, 0)]) rfl) ?_
          refine xg_t (xg_aload (va := (2, 68)) rfl rfl) ?_
          refine xg_t (xg_const) ?_
          refine xg_putZ (fl1 := [(2, 1), (2, 69), (2, 70), (2, 71), (0, 1), (0, f68_42)]) h68_44 rfl rfl rfl (fun w56 hk57 hb58 => ?_)
          refine xoI (hI35 69 (by decide) : cpI 36 40 4294967295 (wget w34 69)) (fun g69_59 h69_60 hb61 => ?_)
          have hk62 : ∀ k, k < 36 → rwv w56 69 k = ag (rwv w 17) (fld w 16 3) k := fun k hk => by
            rw [rwv_eq (hb58.1 69 (by decide)), hag k hk, show ki = fld w 16 3 by omega]
          exact xg_e ⟨w56, ⟨rfl, rfl⟩, xInv.up (S := [68]) hI35 (xFr.of (S := [68]) hb58 (by decide)) (List.forall_mem_cons.mpr ⟨(show cp68 (wget w56 68) from ⟨1, f68_42, hk57, by omega, by omega⟩), fun _ h => absurd h List.not_mem_nil⟩), (hF36.tr (xFr.of (S := [68, 69]) hb58 (by decide))), ⟨hk62, fld_of hk57, (fld_of hk57).trans (q685b.symm.trans h685)⟩⟩
    exact key31 _ 0 w29 (Nat.lt_succ_self _) (by omega) (xInv.up (S := [69]) hI (xFr.of (S := [69]) hq30.2 (by decide)) (List.forall_mem_cons.mpr ⟨(show cpI 36 40 4294967295 (wget w29 69) from ⟨_, hq30.1, fun _ => (by omega : 0 ≤ 4294967295)⟩), fun _ h => absurd h List.not_mem_nil⟩)) ((xFr.of (S := [68, 69]) hq30.2 (by decide))) (⟨fun k hk => (rwv_of hq30.1 (by omega)).trans rfl, (fld_of (hq30.2.get (by decide) h68_5)).trans q685.symm, Nat.zero_le _⟩)
  · refine xg_t (xg_ifF (u := f68_1) rfl xnm0 (xj_eqF hc28)) ?_
    exact xg_e ⟨w, ⟨rfl, rfl⟩, hI, xFr.rf, ⟨hfr (by omega), by omega, rfl⟩⟩
end XAG
end
section
/-! the model: ages of lamps -/
section XAN
variable {w : List (List xE)} {p : Nat}
/-- pictures' numbers as the class has them -/
def agP (R : Nat → Nat) : Nat → Nat := fun j => if j % 5 = 4 then R (304 + 6 * (j / 5)) * R (305 + 6 * (j / 5)) else R (300 + 6 * (j / 5) + j % 5)
theorem agm_0 : (agP (rwv w 83)) (5 * p) = rwv w 83 (300 + 6 * p + 0) := by
  show (if 5 * p % 5 = 4 then _ else _) = _
  rw [if_neg (by omega), show 5 * p / 5 = p by omega, show 5 * p % 5 = 0 by omega]
theorem agm_1 : (agP (rwv w 83)) (5 * p + 1) = rwv w 83 (300 + 6 * p + 1) := by
  show (if (5 * p + 1) % 5 = 4 then _ else _) = _
  rw [if_neg (by omega), show (5 * p + 1) / 5 = p by omega, show (5 * p + 1) % 5 = 1 by omega]
theorem agm_2 : (agP (rwv w 83)) (5 * p + 2) = rwv w 83 (300 + 6 * p + 2) := by
  show (if (5 * p + 2) % 5 = 4 then _ else _) = _
  rw [if_neg (by omega), show (5 * p + 2) / 5 = p by omega, show (5 * p + 2) % 5 = 2 by omega]
theorem agm_3 : (agP (rwv w 83)) (5 * p + 3) = rwv w 83 (300 + 6 * p + 3) := by
  show (if (5 * p + 3) % 5 = 4 then _ else _) = _
  rw [if_neg (by omega), show (5 * p + 3) / 5 = p by omega, show (5 * p + 3) % 5 = 3 by omega]
theorem agm_4 : (agP (rwv w 83)) (5 * p + 4) = rwv w 83 (304 + 6 * p) * rwv w 83 (305 + 6 * p) := by
  show (if (5 * p + 4) % 5 = 4 then _ else _) = _
  rw [if_pos (by omega), show (5 * p + 4) / 5 = p by omega]
theorem agm_le (h : rwv w 83 (304 + 6 * p) ≤ 9 ∧ rwv w 83 (305 + 6 * p) ≤ 999) : (agP (rwv w 83)) (5 * p + 4) ≤ 8991 := by
  rw [agm_4]
  exact Nat.mul_le_mul h.1 h.2
end XAN
section XAM
variable {d : Nat} {w : List (List xE)} {bd : List (Nat × Nat)} {fc : List (Nat × Nat × Bool)} {rr : Nat × Nat}
theorem mAgesX (hI : xMnv w) (hq : ∀ p, p < rwv w 83 10 → (∀ t, t < 4 → rwv w 83 (300 + 6 * p + t) ≤ 5) ∧ rwv w 83 (304 + 6 * p) ≤ 9 ∧ rwv w 83 (305 + 6 * p) ≤ 999) : xPq d mX12_ages [(2, 82)] w bd fc rr [] (fun w' => xMnv w' ∧ xFr [103] w w' ∧ (∀ k, k < 36 → rwv w' 103 k = ag (agP (rwv w 83)) (rwv w 83 10) k)) := by
  refine xPq.of ?_
  show xTo d mX12_ages (0, [], [(0, (2, 82))], [], (w, bd, fc, 0, 0, rr)) (fun φ => ∃ w', xEnd 0 [] (w', bd, fc, 0, 0, rr) φ ∧ xMnv w' ∧ xFr [103] w w' ∧ (∀ k, k < 36 → rwv w' 103 k = ag (agP (rwv w 83)) (rwv w 83 10) k))
  refine xoCh82 (hI 82 (by decide) (by decide) : cp82 (wget w 82)) (fun f82_1 f82_3 f82_5 f82_7 f82_9 f82_11 f82_13 f82_15 f82_17 f82_19 f82_21 f82_22 f82_23 f82_25 f82_27 f82_29 h82_31 hb2 hb4 hb6 hb8 hb10 hb12 hb14 hb16 hb18 hb20 hb24 hb26 hb28 hb30 hb32 => ?_)
  refine xoX83 (hI 83 (by decide) (by decide) : cpx83 (wget w 83)) (fun g83_33 h83_34 hb35 hx36 => ?_)
  refine xoI (hI 103 (by decide) (by decide) : cpI 36 70 4294967295 (wget w 103)) (fun g103_37 h103_38 hb39 => ?_)
  have hl10 : rwv w 83 10 ≤ 12 := by rw [rwv_of h83_34 (by omega)]; exact hx36.l10
  refine xg_t (xg_blk (b := [(0, 1, 3, 0, 0, 0), (1, 1, 15, 1, 0, 0)]) rfl) ?_
  refine xg_t (xg_const) ?_
  refine xg_t (xg_istore (l1 := [(0, (2, 82))]) rfl rfl rfl) ?_
  refine xg_t (xg_drop (l1 := [(0, (2, 82)), (1, (0, 0))]) (List.forall_mem_cons.mpr ⟨List.mem_cons_of_mem _ (List.mem_cons_self), List.forall_mem_cons.mpr ⟨List.mem_cons_self, fun _ h => absurd h List.not_mem_nil⟩⟩)) ?_
  have key40 : ∀ (m42 : Nat) (ki : Nat) (w43 : List (List xE)), 36 - ki < m42 → ki ≤ 36 → xMnv w43 → xFr [103] w w43 → (∀ k, k < ki → rwv w43 103 k = 0) → xTo d mX12_ages (2, [], [(0, (2, 82)), (1, (0, ki))], [], (w43, bd, fc, 0, 0, rr)) (fun φ => ∃ w', xEnd 0 [] (w', bd, fc, 0, 0, rr) φ ∧ xMnv w' ∧ xFr [103] w w' ∧ (∀ k, k < 36 → rwv w' 103 k = ag (agP (rwv w 83)) (rwv w 83 10) k)) := by
    intro m42
    induction m42 with
    | zero => intro ki w43 hz; exact absurd hz (Nat.not_lt_zero _)
    | succ m42 ih41 =>
      intro ki w43 hm48 hn46 hI44 hF45 he47
      refine xoI (hI44 103 (by decide) (by decide) : cpI 36 70 4294967295 (wget w43 103)) (fun g103_49 h103_50 hb51 => ?_)
      have hz0 := he47
      refine xg_t (xg_blk (b := [(2, 1, 2, 1, 0, 0), (3, 2, 4, 36, 0, 0), (5, 3, 6, 21, 3, 0), (8, 1, 0, 0, 0, 0), (9, 3, 1, 12, 34, 72), (12, 1, 2, 1, 0, 0), (13, 1, 3, 0, 0, 0), (14, 1, 17, 0, 0, 0), (15, 3, 9, 1, 1, 0), (18, 3, 8, 2, 0, 0)]) rfl) ?_
      refine xg_t (xg_iload (va := (0, ki)) rfl rfl) ?_
      refine xg_t (xg_bip) ?_
      by_cases hc52 : ki < 36
      · refine xg_t (xg_icF (u := ki) (v := 36) rfl xnm0 xnm0 (xj_geF hc52 (by omega))) ?_
        refine xg_t (xg_aload (va := (2, 82)) rfl rfl) ?_
        refine xg_t (xg_getf (va := (2, 103)) (hF45.get (by decide) h82_31) rfl) ?_
        refine xg_t (xg_iload (va := (0, ki)) rfl rfl) ?_
        refine xg_t (xg_const) ?_
        refine xg_iastK (n := ki) (u := 0) h103_50 xnm0 xnm0 rfl (by omega) (fun w53 hr54 hb55 => ?_)
        obtain ⟨g56, hg57⟩ : ∃ g : Nat → Nat, g = (fun j => if j = ki then 0 else g103_49 j) := ⟨_, rfl⟩
        rw [← hg57] at hr54
        have he58 : g56 ki = 0 := by rw [hg57]; exact if_pos rfl
        have hk59 : ∀ j, j ≠ ki → g56 j = g103_49 j := fun j hj => by rw [hg57]; exact if_neg hj
        have hb60 : ∀ j, g56 j ≤ 4294967295 := fun j => by rw [hg57]; exact xrb (by omega) (hb51) j
        refine xg_t (xg_iinc (u := ki) (z := ki + 1) (l1 := [(0, (2, 82))]) rfl rfl (by omega) rfl) ?_
        refine xg_t (xg_goto) ?_
        refine xg_t (xg_drop (l1 := [(0, (2, 82)), (1, (0, ki + 1))]) (List.forall_mem_cons.mpr ⟨List.mem_cons_of_mem _ (List.mem_cons_self), List.forall_mem_cons.mpr ⟨List.mem_cons_self, fun _ h => absurd h List.not_mem_nil⟩⟩)) ?_
        have hk61 : ∀ k, k < ki + 1 → rwv w53 103 k = 0 := fun k hk => by
          by_cases e : k = ki
          · rw [e, rwv_of (j := ki) hr54 (by omega)]
            exact he58
          · rw [rwv_of (j := k) hr54 (by omega), hk59 k e, ← rwv_of (j := k) h103_50 (by omega)]
            exact hz0 k (by omega)
        exact ih41 (ki + 1) w53 (by omega) (by omega) (xMnv.up (S := [103]) hI44 (xFr.of (S := [103]) hb55 (by decide)) (List.forall_mem_cons.mpr ⟨(show cpI 36 70 4294967295 (wget w53 103) from ⟨_, hr54, hb60⟩), fun _ h => absurd h List.not_mem_nil⟩)) ((hF45.tr (xFr.of (S := [103]) hb55 (by decide)))) (hk61)
      · refine xg_t (xg_icT (u := ki) (v := 36) rfl xnm0 xnm0 (xj_geT (by omega) (by omega))) ?_
        refine xg_t (xg_blk (b := [(21, 1, 3, 0, 0, 0), (22, 1, 15, 1, 0, 0)]) rfl) ?_
        refine xg_t (xg_const) ?_
        refine xg_t (xg_istore (l1 := [(0, (2, 82))]) rfl rfl rfl) ?_
        refine xg_t (xg_drop (l1 := [(0, (2, 82)), (1, (0, 0))]) (List.forall_mem_cons.mpr ⟨List.mem_cons_of_mem _ (List.mem_cons_self), List.forall_mem_cons.mpr ⟨List.mem_cons_self, fun _ h => absurd h List.not_mem_nil⟩⟩)) ?_
        have key62 : ∀ (m64 : Nat) (pi_ : Nat) (w65 : List (List xE)), 12 - pi_ < m64 → pi_ ≤ 12 → xMnv w65 → xFr [103] w w65 → (∀ k, k < 36 → rwv w65 103 k = ag (agP (rwv w 83)) pi_ k) ∧ pi_ ≤ rwv w 83 10 → xTo d mX12_ages (23, [], [(0, (2, 82)), (1, (0, pi_))], [], (w65, bd, fc, 0, 0, rr)) (fun φ => ∃ w', xEnd 0 [] (w', bd, fc, 0, 0, rr) φ ∧ xMnv w' ∧ xFr [103] w w' ∧ (∀ k, k < 36 → rwv w' 103 k = ag (agP (rwv w 83)) (rwv w 83 10) k)) := by
          intro m64
          induction m64 with
          | zero => intro pi_ w65 hz; exact absurd hz (Nat.not_lt_zero _)
          | succ m64 ih63 =>
            intro pi_ w65 hm70 hn68 hI66 hF67 he69
            obtain ⟨hag, hpn⟩ := he69
            refine xg_t (xg_blk (b := [(23, 1, 2, 1, 0, 0), (24, 1, 0, 0, 0, 0), (25, 3, 1, 12, 0, 7), (28, 2, 4, 10, 0, 0), (30, 1, 10, 0, 0, 0), (31, 3, 6, 135, 3, 0), (34, 3, 5, 300, 0, 0), (37, 2, 4, 6, 0, 0), (39, 1, 2, 1, 0, 0), (40, 1, 16, 0, 0, 0), (41, 1, 11, 0, 0, 0), (42, 1, 15, 2, 0, 0), (43, 1, 0, 0, 0, 0), (44, 3, 1, 12, 0, 7), (47, 1, 2, 2, 0, 0), (48, 1, 10, 0, 0, 0), (49, 1, 15, 3, 0, 0)]) rfl) ?_
            refine xg_t (xg_iload (va := (0, pi_)) rfl rfl) ?_
            refine xg_t (xg_aload (va := (2, 82)) rfl rfl) ?_
            refine xg_t (xg_getf (va := (2, 83)) (hF67.get (by decide) h82_31) rfl) ?_
            refine xg_t (xg_bip) ?_
            refine xg_ialdB (n := 10) (B := 4294967295) (h83_34.fr hF67 (by decide)) (hb35) xnm0 (by omega) (fun u71 hu72 he73 => ?_)
            have hl74 : u71 ≤ 12 := by rw [← he73]; exact hx36.l10
            have hq75 : rwv w 83 10 = u71 := (rwv_of h83_34 (by omega)).trans he73
            by_cases hc76 : pi_ < u71
            · refine xg_t (xg_icF (u := pi_) (v := u71) rfl xnm0 xnm0 (xj_geF hc76 (by omega))) ?_
              refine xg_t (xg_sip) ?_
              refine xg_t (xg_bip) ?_
              refine xg_t (xg_iload (va := (0, pi_)) rfl rfl) ?_
              refine xg_t (xg_imul (u := 6) (v := pi_) (z := 6 * pi_) xnm0 xnm0 (by omega)) ?_
              refine xg_t (xg_iadd (u := 300) (v := 6 * pi_) (z := 300 + (6 * pi_)) xnm0 xnm0 (by omega)) ?_
              refine xg_t (xg_istore (l1 := [(0, (2, 82)), (1, (0, pi_))]) rfl rfl rfl) ?_
              refine xg_t (xg_aload (va := (2, 82)) rfl rfl) ?_
              refine xg_t (xg_getf (va := (2, 83)) (hF67.get (by decide) h82_31) rfl) ?_
              refine xg_t (xg_iload (va := (0, 300 + (6 * pi_))) rfl rfl) ?_
              refine xg_ialdB (n := 300 + (6 * pi_)) (B := 4294967295) (h83_34.fr hF67 (by decide)) (hb35) xnm0 (by omega) (fun u77 hu78 he79 => ?_)
              have hP80 : rwv w 83 (300 + 6 * pi_ + 0) = u77 := (rwv_of (j := 300 + 6 * pi_ + 0) h83_34 (by omega)).trans ((congrArg g83_33 (show 300 + 6 * pi_ + 0 = 300 + (6 * pi_) by omega)).trans he79)
              have hl81 : u77 ≤ 5 := by have q := (hq pi_ (by omega)).1 0 (by decide); omega
              refine xg_t (xg_istore (l1 := [(2, (0, 300 + (6 * pi_))), (0, (2, 82)), (1, (0, pi_))]) rfl rfl rfl) ?_
              refine xg_t (xg_drop (l1 := [(0, (2, 82)), (1, (0, pi_)), (2, (0, 300 + (6 * pi_))), (3, (0, u77))]) (List.forall_mem_cons.mpr ⟨List.mem_cons_of_mem _ (List.mem_cons_of_mem _ (List.mem_cons_self)), List.forall_mem_cons.mpr ⟨List.mem_cons_of_mem _ (List.mem_cons_of_mem _ (List.mem_cons_of_mem _ (List.mem_cons_self))), List.forall_mem_cons.mpr ⟨List.mem_cons_of_mem _ (List.mem_cons_self), List.forall_mem_cons.mpr ⟨List.mem_cons_self, fun _ h => absurd h List.not_mem_nil⟩⟩⟩⟩)) ?_
              have hgo0 : agi (fun k => ag (agP (rwv w 83)) pi_ k) (rwv w65 103) (rwv w 83 (300 + 6 * pi_ + 0)) (rwv w 83 (300 + 6 * pi_ + 2)) (rwv w 83 (300 + 6 * pi_ + 3)) (rwv w 83 (304 + 6 * pi_) * rwv w 83 (305 + 6 * pi_)) u77 (rwv w 83 (300 + 6 * pi_ + 2)) := by
                rw [← hP80]
                intro k hk
                exact (agi_0 k hk).imp (fun q => ⟨q.1, by rw [hag k hk]; exact q.2⟩) (fun q => ⟨q.1, hag k hk⟩)
              have key82 : ∀ (m84 : Nat) (ri : Nat) (w85 : List (List xE)), 6 - ri < m84 → ri ≤ 6 → xMnv w85 → xFr [103] w w85 → agi (fun k => ag (agP (rwv w 83)) pi_ k) (rwv w85 103) (rwv w 83 (300 + 6 * pi_ + 0)) (rwv w 83 (300 + 6 * pi_ + 2)) (rwv w 83 (300 + 6 * pi_ + 3)) (rwv w 83 (304 + 6 * pi_) * rwv w 83 (305 + 6 * pi_)) ri (rwv w 83 (300 + 6 * pi_ + 2)) ∧ rwv w 83 (300 + 6 * pi_ + 0) ≤ ri ∧ (ri ≤ rwv w 83 (300 + 6 * pi_ + 1) + 1 ∨ ri = rwv w 83 (300 + 6 * pi_ + 0)) → xTo d mX12_ages (50, [], [(0, (2, 82)), (1, (0, pi_)), (2, (0, 300 + (6 * pi_))), (3, (0, ri))], [], (w85, bd, fc, 0, 0, rr)) (fun φ => ∃ w', xEnd 0 [] (w', bd, fc, 0, 0, rr) φ ∧ xMnv w' ∧ xFr [103] w w' ∧ (∀ k, k < 36 → rwv w' 103 k = ag (agP (rwv w 83)) (rwv w 83 10) k)) := by
                intro m84
                induction m84 with
                | zero => intro ri w85 hz; exact absurd hz (Nat.not_lt_zero _)
                | succ m84 ih83 =>
                  intro ri w85 hm90 hn88 hI86 hF87 he89
                  obtain ⟨hgo, hAr, hBr⟩ := he89
                  refine xg_t (xg_blk (b := [(50, 1, 2, 3, 0, 0), (51, 1, 0, 0, 0, 0), (52, 3, 1, 12, 0, 7), (55, 1, 2, 2, 0, 0), (56, 1, 3, 1, 0, 0), (57, 1, 11, 0, 0, 0), (58, 1, 10, 0, 0, 0), (59, 3, 6, 129, 4, 0), (62, 1, 0, 0, 0, 0), (63, 3, 1, 12, 0, 7), (66, 1, 2, 2, 0, 0), (67, 1, 3, 2, 0, 0), (68, 1, 11, 0, 0, 0), (69, 1, 10, 0, 0, 0), (70, 2, 15, 4, 0, 0)]) rfl) ?_
                  refine xg_t (xg_iload (va := (0, ri)) rfl rfl) ?_
                  refine xg_t (xg_aload (va := (2, 82)) rfl rfl) ?_
                  refine xg_t (xg_getf (va := (2, 83)) (hF87.get (by decide) h82_31) rfl) ?_
                  refine xg_t (xg_iload (va := (0, 300 + (6 * pi_))) rfl rfl) ?_
                  refine xg_t (xg_const) ?_
                  refine xg_t (xg_iadd (u := 300 + (6 * pi_)) (v := 1) (z := (300 + (6 * pi_)) + 1) xnm0 xnm0 (by omega)) ?_
                  refine xg_ialdB (n := (300 + (6 * pi_)) + 1) (B := 4294967295) (h83_34.fr hF87 (by decide)) (hb35) xnm0 (by omega) (fun u91 hu92 he93 => ?_)
                  have hP94 : rwv w 83 (300 + 6 * pi_ + 1) = u91 := (rwv_of (j := 300 + 6 * pi_ + 1) h83_34 (by omega)).trans ((congrArg g83_33 (show 300 + 6 * pi_ + 1 = (300 + (6 * pi_)) + 1 by omega)).trans he93)
                  have hl95 : u91 ≤ 5 := by have q := (hq pi_ (by omega)).1 1 (by decide); omega
                  by_cases hc96 : u91 < ri
                  · refine xg_t (xg_icT (u := ri) (v := u91) rfl xnm0 xnm0 (xj_gtT hc96 (by omega))) ?_
                    refine xg_t (xg_blk (b := [(129, 3, 9, 1, 1, 0), (132, 3, 8, 23, 0, 0)]) rfl) ?_
                    refine xg_t (xg_iinc (u := pi_) (z := pi_ + 1) (l1 := [(0, (2, 82)), (2, (0, 300 + (6 * pi_))), (3, (0, ri))]) rfl rfl (by omega) rfl) ?_
                    refine xg_t (xg_goto) ?_
                    refine xg_t (xg_drop (l1 := [(0, (2, 82)), (1, (0, pi_ + 1))]) (List.forall_mem_cons.mpr ⟨List.mem_cons_of_mem _ (List.mem_cons_self), List.forall_mem_cons.mpr ⟨List.mem_cons_self, fun _ h => absurd h List.not_mem_nil⟩⟩)) ?_
                    have hk97 : ∀ k, k < 36 → rwv w85 103 k = ag (agP (rwv w 83)) (pi_ + 1) k := fun k hk => by
                      have q := agi_e (P := (agP (rwv w 83))) (p := pi_) (ro := ri) (f := fun k => ag (agP (rwv w 83)) pi_ k) (g := rwv w85 103) (by
                        skip
                        rw [agm_0, agm_2, agm_3, agm_4]
                        exact hgo) (by rw [agm_0, agm_1]; omega) k hk
                      exact q
                    exact ih63 (pi_ + 1) w85 (by omega) (by omega) (hI86) (hF87) (⟨hk97, by omega⟩)
                  · refine xg_t (xg_icF (u := ri) (v := u91) rfl xnm0 xnm0 (xj_gtF (by omega) (by omega))) ?_
                    refine xg_t (xg_aload (va := (2, 82)) rfl rfl) ?_
                    refine xg_t (xg_getf (va := (2, 83)) (hF87.get (by decide) h82_31) rfl) ?_
                    refine xg_t (xg_iload (va := (0, 300 + (6 * pi_))) rfl rfl) ?_
                    refine xg_t (xg_const) ?_
                    refine xg_t (xg_iadd (u := 300 + (6 * pi_)) (v := 2) (z := (300 + (6 * pi_)) + 2) xnm0 xnm0 (by omega)) ?_
                    refine xg_ialdB (n := (300 + (6 * pi_)) + 2) (B := 4294967295) (h83_34.fr hF87 (by decide)) (hb35) xnm0 (by omega) (fun u98 hu99 he100 => ?_)
                    have hP101 : rwv w 83 (300 + 6 * pi_ + 2) = u98 := (rwv_of (j := 300 + 6 * pi_ + 2) h83_34 (by omega)).trans ((congrArg g83_33 (show 300 + 6 * pi_ + 2 = (300 + (6 * pi_)) + 2 by omega)).trans he100)
                    have hl102 : u98 ≤ 5 := by have q := (hq pi_ (by omega)).1 2 (by decide); omega
                    refine xg_t (xg_istore (l1 := [(0, (2, 82)), (1, (0, pi_)), (2, (0, 300 + (6 * pi_))), (3, (0, ri))]) rfl rfl rfl) ?_
                    refine xg_t (xg_drop (l1 := [(0, (2, 82)), (1, (0, pi_)), (2, (0, 300 + (6 * pi_))), (3, (0, ri)), (4, (0, u98))]) (List.forall_mem_cons.mpr ⟨List.mem_cons_of_mem _ (List.mem_cons_self), List.forall_mem_cons.mpr ⟨List.mem_cons_of_mem _ (List.mem_cons_of_mem _ (List.mem_cons_self)), List.forall_mem_cons.mpr ⟨List.mem_cons_of_mem _ (List.mem_cons_of_mem _ (List.mem_cons_of_mem _ (List.mem_cons_self))), List.forall_mem_cons.mpr ⟨List.mem_cons_of_mem _ (List.mem_cons_of_mem _ (List.mem_cons_of_mem _ (List.mem_cons_of_mem _ (List.mem_cons_self)))), List.forall_mem_cons.mpr ⟨List.mem_cons_self, fun _ h => absurd h List.not_mem_nil⟩⟩⟩⟩⟩)) ?_
                    have hgi0 : agi (fun k => ag (agP (rwv w 83)) pi_ k) (rwv w85 103) (rwv w 83 (300 + 6 * pi_ + 0)) (rwv w 83 (300 + 6 * pi_ + 2)) (rwv w 83 (300 + 6 * pi_ + 3)) (rwv w 83 (304 + 6 * pi_) * rwv w 83 (305 + 6 * pi_)) ri u98 := by rw [← hP101]; exact hgo
                    have key103 : ∀ (m105 : Nat) (ci : Nat) (w106 : List (List xE)), 6 - ci < m105 → ci ≤ 6 → xMnv w106 → xFr [103] w w106 → agi (fun k => ag (agP (rwv w 83)) pi_ k) (rwv w106 103) (rwv w 83 (300 + 6 * pi_ + 0)) (rwv w 83 (300 + 6 * pi_ + 2)) (rwv w 83 (300 + 6 * pi_ + 3)) (rwv w 83 (304 + 6 * pi_) * rwv w 83 (305 + 6 * pi_)) ri ci ∧ rwv w 83 (300 + 6 * pi_ + 2) ≤ ci ∧ (ci ≤ rwv w 83 (300 + 6 * pi_ + 3) + 1 ∨ ci = rwv w 83 (300 + 6 * pi_ + 2)) → xTo d mX12_ages (72, [], [(0, (2, 82)), (1, (0, pi_)), (2, (0, 300 + (6 * pi_))), (3, (0, ri)), (4, (0, ci))], [], (w106, bd, fc, 0, 0, rr)) (fun φ => ∃ w', xEnd 0 [] (w', bd, fc, 0, 0, rr) φ ∧ xMnv w' ∧ xFr [103] w w' ∧ (∀ k, k < 36 → rwv w' 103 k = ag (agP (rwv w 83)) (rwv w 83 10) k)) := by
                      intro m105
                      induction m105 with
                      | zero => intro ci w106 hz; exact absurd hz (Nat.not_lt_zero _)
                      | succ m105 ih104 =>
                        intro ci w106 hm111 hn109 hI107 hF108 he110
                        obtain ⟨hgi, hCc, hDc⟩ := he110
                        refine xoI (hI107 103 (by decide) (by decide) : cpI 36 70 4294967295 (wget w106 103)) (fun g103_112 h103_113 hb114 => ?_)
                        refine xg_t (xg_blk (b := [(72, 2, 2, 4, 0, 0), (74, 1, 0, 0, 0, 0), (75, 3, 1, 12, 0, 7), (78, 1, 2, 2, 0, 0), (79, 1, 3, 3, 0, 0), (80, 1, 11, 0, 0, 0), (81, 1, 10, 0, 0, 0), (82, 3, 6, 123, 4, 0), (85, 1, 0, 0, 0, 0), (86, 3, 1, 12, 34, 72), (89, 2, 4, 6, 0, 0), (91, 1, 2, 3, 0, 0), (92, 1, 16, 0, 0, 0), (93, 2, 2, 4, 0, 0), (95, 1, 11, 0, 0, 0), (96, 1, 39, 0, 0, 0), (97, 1, 10, 0, 0, 0), (98, 1, 0, 0, 0, 0), (99, 3, 1, 12, 0, 7), (102, 1, 2, 2, 0, 0), (103, 1, 3, 4, 0, 0), (104, 1, 11, 0, 0, 0), (105, 1, 10, 0, 0, 0), (106, 1, 0, 0, 0, 0), (107, 3, 1, 12, 0, 7), (110, 1, 2, 2, 0, 0), (111, 1, 3, 5, 0, 0), (112, 1, 11, 0, 0, 0), (113, 1, 10, 0, 0, 0), (114, 1, 16, 0, 0, 0), (115, 1, 11, 0, 0, 0), (116, 1, 17, 0, 0, 0), (117, 3, 9, 4, 1, 0), (120, 3, 8, 72, 0, 0)]) rfl) ?_
                        refine xg_t (xg_iload (va := (0, ci)) rfl rfl) ?_
                        refine xg_t (xg_aload (va := (2, 82)) rfl rfl) ?_
                        refine xg_t (xg_getf (va := (2, 83)) (hF108.get (by decide) h82_31) rfl) ?_
                        refine xg_t (xg_iload (va := (0, 300 + (6 * pi_))) rfl rfl) ?_
                        refine xg_t (xg_const) ?_
                        refine xg_t (xg_iadd (u := 300 + (6 * pi_)) (v := 3) (z := (300 + (6 * pi_)) + 3) xnm0 xnm0 (by omega)) ?_
                        refine xg_ialdB (n := (300 + (6 * pi_)) + 3) (B := 4294967295) (h83_34.fr hF108 (by decide)) (hb35) xnm0 (by omega) (fun u115 hu116 he117 => ?_)
                        have hP118 : rwv w 83 (300 + 6 * pi_ + 3) = u115 := (rwv_of (j := 300 + 6 * pi_ + 3) h83_34 (by omega)).trans ((congrArg g83_33 (show 300 + 6 * pi_ + 3 = (300 + (6 * pi_)) + 3 by omega)).trans he117)
                        have hl119 : u115 ≤ 5 := by have q := (hq pi_ (by omega)).1 3 (by decide); omega
                        by_cases hc120 : u115 < ci
                        · refine xg_t (xg_icT (u := ci) (v := u115) rfl xnm0 xnm0 (xj_gtT hc120 (by omega))) ?_
                          refine xg_t (xg_blk (b := [(123, 3, 9, 3, 1, 0), (126, 3, 8, 50, 0, 0)]) rfl) ?_
                          refine xg_t (xg_iinc (u := ri) (z := ri + 1) (l1 := [(0, (2, 82)), (1, (0, pi_)), (2, (0, 300 + (6 * pi_))), (4, (0, ci))]) rfl rfl (by omega) rfl) ?_
                          refine xg_t (xg_goto) ?_
                          refine xg_t (xg_drop (l1 := [(0, (2, 82)), (1, (0, pi_)), (2, (0, 300 + (6 * pi_))), (3, (0, ri + 1))]) (List.forall_mem_cons.mpr ⟨List.mem_cons_of_mem _ (List.mem_cons_self), List.forall_mem_cons.mpr ⟨List.mem_cons_of_mem _ (List.mem_cons_of_mem _ (List.mem_cons_self)), List.forall_mem_cons.mpr ⟨List.mem_cons_of_mem _ (List.mem_cons_of_mem _ (List.mem_cons_of_mem _ (List.mem_cons_self))), List.forall_mem_cons.mpr ⟨List.mem_cons_self, fun _ h => absurd h List.not_mem_nil⟩⟩⟩⟩)) ?_
                          exact ih83 (ri + 1) w106 (by omega) (by omega) (hI107) (hF108) (⟨agi_r hgi (by omega) (by omega), by omega, by omega⟩)
                        · refine xg_t (xg_icF (u := ci) (v := u115) rfl xnm0 xnm0 (xj_gtF (by omega) (by omega))) ?_
                          refine xg_t (xg_aload (va := (2, 82)) rfl rfl) ?_
                          refine xg_t (xg_getf (va := (2, 103)) (hF108.get (by decide) h82_31) rfl) ?_
                          refine xg_t (xg_bip) ?_
                          refine xg_t (xg_iload (va := (0, ri)) rfl rfl) ?_
                          refine xg_t (xg_imul (u := 6) (v := ri) (z := 6 * ri) xnm0 xnm0 (by omega)) ?_
                          refine xg_t (xg_iload (va := (0, ci)) rfl rfl) ?_
                          refine xg_t (xg_iadd (u := 6 * ri) (v := ci) (z := (6 * ri) + ci) xnm0 xnm0 (by omega)) ?_
                          refine xg_t (xg_dup2 rfl) ?_
                          refine xg_ialdB (n := (6 * ri) + ci) (B := 4294967295) h103_113 (hb114) xnm0 (by omega) (fun u121 hu122 he123 => ?_)
                          have hu124 : rwv w106 103 (6 * ri + ci) = u121 := by
                            rw [rwv_of (j := 6 * ri + ci) h103_113 (by omega), show 6 * ri + ci = (6 * ri) + ci by omega]
                            exact he123
                          have hl125 : u121 ≤ 107892 := by
                            have q1 := hgi (6 * ri + ci) (by omega)
                            dsimp only at q1
                            have q2 := ag_le (P := (agP (rwv w 83))) (n := pi_) (k := 6 * ri + ci) (B := 8991) (fun p hp => agm_le (hq p (by omega)).2)
                            have q3 : (rwv w 83 (304 + 6 * pi_) * rwv w 83 (305 + 6 * pi_)) ≤ 9 * 999 := Nat.mul_le_mul (hq pi_ (by omega)).2.1 (hq pi_ (by omega)).2.2
                            omega
                          refine xg_t (xg_aload (va := (2, 82)) rfl rfl) ?_
                          refine xg_t (xg_getf (va := (2, 83)) (hF108.get (by decide) h82_31) rfl) ?_
                          refine xg_t (xg_iload (va := (0, 300 + (6 * pi_))) rfl rfl) ?_
                          refine xg_t (xg_const) ?_
                          refine xg_t (xg_iadd (u := 300 + (6 * pi_)) (v := 4) (z := (300 + (6 * pi_)) + 4) xnm0 xnm0 (by omega)) ?_
                          refine xg_ialdB (n := (300 + (6 * pi_)) + 4) (B := 4294967295) (h83_34.fr hF108 (by decide)) (hb35) xnm0 (by omega) (fun u126 hu127 he128 => ?_)
                          have hP129 : rwv w 83 (304 + 6 * pi_) = u126 := (rwv_of (j := 304 + 6 * pi_) h83_34 (by omega)).trans ((congrArg g83_33 (show 304 + 6 * pi_ = (300 + (6 * pi_)) + 4 by omega)).trans he128)
                          have hl130 : u126 ≤ 9 := by have q := (hq pi_ (by omega)).2.1; omega
                          refine xg_t (xg_aload (va := (2, 82)) rfl rfl) ?_
                          refine xg_t (xg_getf (va := (2, 83)) (hF108.get (by decide) h82_31) rfl) ?_
                          refine xg_t (xg_iload (va := (0, 300 + (6 * pi_))) rfl rfl) ?_
                          refine xg_t (xg_const) ?_
                          refine xg_t (xg_iadd (u := 300 + (6 * pi_)) (v := 5) (z := (300 + (6 * pi_)) + 5) xnm0 xnm0 (by omega)) ?_
                          refine xg_ialdB (n := (300 + (6 * pi_)) + 5) (B := 4294967295) (h83_34.fr hF108 (by decide)) (hb35) xnm0 (by omega) (fun u131 hu132 he133 => ?_)
                          have hP134 : rwv w 83 (305 + 6 * pi_) = u131 := (rwv_of (j := 305 + 6 * pi_) h83_34 (by omega)).trans ((congrArg g83_33 (show 305 + 6 * pi_ = (300 + (6 * pi_)) + 5 by omega)).trans he133)
                          have hl135 : u131 ≤ 999 := by have q := (hq pi_ (by omega)).2.2; omega
                          have hm136 : u126 * u131 ≤ 9 * 999 := Nat.mul_le_mul (by omega) (by omega)
                          refine xg_t (xg_imul (u := u126) (v := u131) (z := u126 * u131) xnm0 xnm0 (Nat.mod_eq_of_lt (by omega))) ?_
                          refine xg_t (xg_iadd (u := u121) (v := u126 * u131) (z := u121 + (u126 * u131)) xnm0 xnm0 (by omega)) ?_
                          refine xg_iastK (n := (6 * ri) + ci) (u := u121 + (u126 * u131)) h103_113 xnm0 xnm0 rfl (by omega) (fun w137 hr138 hb139 => ?_)
                          obtain ⟨g140, hg141⟩ : ∃ g : Nat → Nat, g = (fun j => if j = (6 * ri) + ci then u121 + (u126 * u131) else g103_112 j) := ⟨_, rfl⟩
                          rw [← hg141] at hr138
                          have he142 : g140 ((6 * ri) + ci) = u121 + (u126 * u131) := by rw [hg141]; exact if_pos rfl
                          have hk143 : ∀ j, j ≠ (6 * ri) + ci → g140 j = g103_112 j := fun j hj => by rw [hg141]; exact if_neg hj
                          have hb144 : ∀ j, g140 j ≤ 4294967295 := fun j => by rw [hg141]; exact xrb (by omega) (hb114) j
                          refine xg_t (xg_iinc (u := ci) (z := ci + 1) (l1 := [(0, (2, 82)), (1, (0, pi_)), (2, (0, 300 + (6 * pi_))), (3, (0, ri))]) rfl rfl (by omega) rfl) ?_
                          refine xg_t (xg_goto) ?_
                          refine xg_t (xg_drop (l1 := [(0, (2, 82)), (1, (0, pi_)), (2, (0, 300 + (6 * pi_))), (3, (0, ri)), (4, (0, ci + 1))]) (List.forall_mem_cons.mpr ⟨List.mem_cons_of_mem _ (List.mem_cons_self), List.forall_mem_cons.mpr ⟨List.mem_cons_of_mem _ (List.mem_cons_of_mem _ (List.mem_cons_self)), List.forall_mem_cons.mpr ⟨List.mem_cons_of_mem _ (List.mem_cons_of_mem _ (List.mem_cons_of_mem _ (List.mem_cons_self))), List.forall_mem_cons.mpr ⟨List.mem_cons_of_mem _ (List.mem_cons_of_mem _ (List.mem_cons_of_mem _ (List.mem_cons_of_mem _ (List.mem_cons_self)))), List.forall_mem_cons.mpr ⟨List.mem_cons_self, fun _ h => absurd h List.not_mem_nil⟩⟩⟩⟩⟩)) ?_
                          have hk145 : agi (fun k => ag (agP (rwv w 83)) pi_ k) (rwv w137 103) (rwv w 83 (300 + 6 * pi_ + 0)) (rwv w 83 (300 + 6 * pi_ + 2)) (rwv w 83 (300 + 6 * pi_ + 3)) (rwv w 83 (304 + 6 * pi_) * rwv w 83 (305 + 6 * pi_)) ri (ci + 1) := agi_s hgi (by omega) (by omega) (by omega) (by
                            rw [hu124, hP129, hP134, rwv_of (j := 6 * ri + ci) hr138 (by omega), show 6 * ri + ci = (6 * ri) + ci by omega, he142]) (fun k hk hne => by
                            rw [rwv_of (j := k) hr138 (by omega), hk143 k (by omega), ← rwv_of (j := k) h103_113 (by omega)])
                          exact ih104 (ci + 1) w137 (by omega) (by omega) (xMnv.up (S := [103]) hI107 (xFr.of (S := [103]) hb139 (by decide)) (List.forall_mem_cons.mpr ⟨(show cpI 36 70 4294967295 (wget w137 103) from ⟨_, hr138, hb144⟩), fun _ h => absurd h List.not_mem_nil⟩)) ((hF108.tr (xFr.of (S := [103]) hb139 (by decide)))) (⟨hk145, by omega, by omega⟩)
                    exact key103 _ u98 w85 (Nat.lt_succ_self _) (by omega) (hI86) (hF87) (⟨hgi0, by omega, Or.inr (by omega)⟩)
              exact key82 _ u77 w65 (Nat.lt_succ_self _) (by omega) (hI66) (hF67) (⟨hgo0, by omega, Or.inr (by omega)⟩)
            · refine xg_t (xg_icT (u := pi_) (v := u71) rfl xnm0 xnm0 (xj_geT (by omega) (by omega))) ?_
              refine xg_t (xg_blk (b := [(135, 1, 12, 0, 0, 0)]) rfl) ?_
              exact xg_e ⟨w65, ⟨rfl, rfl⟩, hI66, hF67, fun k hk => (hag k hk).trans (congrArg (fun n => ag (agP (rwv w 83)) n k) (show pi_ = rwv w 83 10 by omega))⟩
        exact key62 _ 0 w43 (Nat.lt_succ_self _) (by omega) (hI44) (hF45) (⟨fun k hk => hz0 k (by omega), Nat.zero_le _⟩)
  exact key40 _ 0 w (Nat.lt_succ_self _) (by omega) (hI) (xFr.rf) (fun k hk => absurd hk (Nat.not_lt_zero _))
end XAM
end
section
/-! the class: what is left of lamps -/
section XAL
variable {d : Nat} {w : List (List xE)} {bd : List (Nat × Nat)} {fc : List (Nat × Nat × Bool)} {rr : Nat × Nat}
theorem scHasPointX {ro co : Nat} (hI : xInv w) (hro : ro ≤ 4294967295) (hco : co ≤ 4294967295) : xPi (d + 1) mX11_hasPoint [(2, 0), (0, ro), (0, co)] w bd fc rr (fun n w' => ((n = 1 ∧ ro < fld w 3 7 ∧ co < fld w 3 8) ∨ (n = 0 ∧ ¬ (ro < fld w 3 7 ∧ co < fld w 3 8))) ∧ xInv w' ∧ xFr [] w w') := by
  refine xPi.of ?_
  show xTo (d + 1) mX11_hasPoint (0, [], [(0, (2, 0)), (1, (0, ro)), (2, (0, co))], [], (w, bd, fc, 0, 0, rr)) (fun φ => ∃ n w', xEnd 4 [(0, n)] (w', bd, fc, 0, 0, rr) φ ∧ ((n = 1 ∧ ro < fld w 3 7 ∧ co < fld w 3 8) ∨ (n = 0 ∧ ¬ (ro < fld w 3 7 ∧ co < fld w 3 8))) ∧ xInv w' ∧ xFr [] w w')
  have h0_1 := (hI 0 (by decide) : cp0 (wget w 0))
  refine xoC1 (hI 1 (by decide) : cp1 (wget w 1)) (fun f1_2 f1_4 f1_6 f1_8 f1_10 f1_12 h1_14 hb3 hb5 hb7 hb9 hb11 hb13 => ?_)
  refine xoC3 (hI 3 (by decide) : cp3 (wget w 3)) (fun f3_15 f3_17 f3_19 f3_21 f3_23 h3_25 hb16 hb18 hb20 hb22 hb24 => ?_)
  have q37 : fld w 3 7 = f3_19 := fld_of h3_25
  have q38 : fld w 3 8 = f3_21 := fld_of h3_25
  refine xg_t (xg_blk (b := [(0, 1, 2, 1, 0, 0), (1, 3, 7, 40, 2, 0), (4, 1, 2, 1, 0, 0), (5, 1, 0, 0, 0, 0), (6, 3, 1, 11, 0, 10), (9, 3, 1, 9, 4, 38), (12, 3, 1, 1, 7, 225), (15, 3, 6, 40, 3, 0), (18, 1, 2, 2, 0, 0), (19, 3, 7, 40, 2, 0), (22, 1, 2, 2, 0, 0), (23, 1, 0, 0, 0, 0), (24, 3, 1, 11, 0, 10), (27, 3, 1, 9, 4, 38), (30, 3, 1, 1, 8, 255), (33, 3, 6, 40, 3, 0), (36, 1, 3, 1, 0, 0), (37, 3, 8, 41, 0, 0)]) rfl) ?_
  refine xg_t (xg_iload (va := (0, ro)) rfl rfl) ?_
  by_cases hc26 : ro < 2147483648
  · refine xg_t (xg_ifF (u := ro) rfl xnm0 (xjz_ltF hc26)) ?_
    refine xg_t (xg_iload (va := (0, ro)) rfl rfl) ?_
    refine xg_t (xg_aload (va := (2, 0)) rfl rfl) ?_
    refine xg_t (xg_getf (va := (2, 1)) h0_1 rfl) ?_
    refine xg_t (xg_getf (va := (2, 3)) h1_14 rfl) ?_
    refine xg_t (xg_getf (va := (0, f3_19)) h3_25 rfl) ?_
    by_cases hc27 : ro < f3_19
    · refine xg_t (xg_icF (u := ro) (v := f3_19) rfl xnm0 xnm0 (xj_geF hc27 (by omega))) ?_
      refine xg_t (xg_iload (va := (0, co)) rfl rfl) ?_
      by_cases hc28 : co < 2147483648
      · refine xg_t (xg_ifF (u := co) rfl xnm0 (xjz_ltF hc28)) ?_
        refine xg_t (xg_iload (va := (0, co)) rfl rfl) ?_
        refine xg_t (xg_aload (va := (2, 0)) rfl rfl) ?_
        refine xg_t (xg_getf (va := (2, 1)) h0_1 rfl) ?_
        refine xg_t (xg_getf (va := (2, 3)) h1_14 rfl) ?_
        refine xg_t (xg_getf (va := (0, f3_21)) h3_25 rfl) ?_
        by_cases hc29 : co < f3_21
        · refine xg_t (xg_icF (u := co) (v := f3_21) rfl xnm0 xnm0 (xj_geF hc29 (by omega))) ?_
          refine xg_t (xg_const) ?_
          refine xg_t (xg_goto) ?_
          refine xg_t (xg_blk (b := [(41, 1, 12, 0, 1, 0)]) rfl) ?_
          exact xg_e ⟨1, w, ⟨rfl, rfl⟩, by omega, hI, xFr.rf⟩
        · refine xg_t (xg_icT (u := co) (v := f3_21) rfl xnm0 xnm0 (xj_geT (by omega) (by omega))) ?_
          refine xg_t (xg_blk (b := [(40, 1, 3, 0, 0, 0)]) rfl) ?_
          refine xg_t (xg_const) ?_
          refine xg_t (xg_blk (b := [(41, 1, 12, 0, 1, 0)]) rfl) ?_
          exact xg_e ⟨0, w, ⟨rfl, rfl⟩, by omega, hI, xFr.rf⟩
      · refine xg_t (xg_ifT (u := co) rfl xnm0 (xjz_ltT (by omega) (by omega))) ?_
        refine xg_t (xg_blk (b := [(40, 1, 3, 0, 0, 0)]) rfl) ?_
        refine xg_t (xg_const) ?_
        refine xg_t (xg_blk (b := [(41, 1, 12, 0, 1, 0)]) rfl) ?_
        exact xg_e ⟨0, w, ⟨rfl, rfl⟩, by omega, hI, xFr.rf⟩
    · refine xg_t (xg_icT (u := ro) (v := f3_19) rfl xnm0 xnm0 (xj_geT (by omega) (by omega))) ?_
      refine xg_t (xg_blk (b := [(40, 1, 3, 0, 0, 0)]) rfl) ?_
      refine xg_t (xg_const) ?_
      refine xg_t (xg_blk (b := [(41, 1, 12, 0, 1, 0)]) rfl) ?_
      exact xg_e ⟨0, w, ⟨rfl, rfl⟩, by omega, hI, xFr.rf⟩
  · refine xg_t (xg_ifT (u := ro) rfl xnm0 (xjz_ltT (by omega) (by omega))) ?_
    refine xg_t (xg_blk (b := [(40, 1, 3, 0, 0, 0)]) rfl) ?_
    refine xg_t (xg_const) ?_
    refine xg_t (xg_blk (b := [(41, 1, 12, 0, 1, 0)]) rfl) ?_
    exact xg_e ⟨0, w, ⟨rfl, rfl⟩, by omega, hI, xFr.rf⟩
theorem lmLeftX {pt : Nat} (hI : xInv w) (hp1 : pt ≤ 35) (hAl : rwv w 69 pt ≤ 107892) : xPi (d + 1) mX3_leftOf [(2, 68), (0, pt)] w bd fc rr (fun n w' => (n = 1000 - rwv w 69 pt / 10 ∧ n ≤ 1000) ∧ xInv w' ∧ xFr [] w w') := by
  refine xPi.of ?_
  show xTo (d + 1) mX3_leftOf (0, [], [(0, (2, 68)), (1, (0, pt))], [], (w, bd, fc, 0, 0, rr)) (fun φ => ∃ n w', xEnd 1 [(0, n)] (w', bd, fc, 0, 0, rr) φ ∧ (n = 1000 - rwv w 69 pt / 10 ∧ n ≤ 1000) ∧ xInv w' ∧ xFr [] w w')
  refine xoC68 (hI 68 (by decide) : cp68 (wget w 68)) (fun f68_1 f68_3 h68_5 hb2 hb4 => ?_)
  refine xoI (hI 69 (by decide) : cpI 36 40 4294967295 (wget w 69)) (fun g69_6 h69_7 hb8 => ?_)
  refine xg_t (xg_blk (b := [(0, 1, 3, 0, 0, 0), (1, 3, 5, 1000, 0, 0), (4, 1, 0, 0, 0, 0), (5, 3, 1, 3, 1, 9), (8, 1, 2, 1, 0, 0), (9, 1, 10, 0, 0, 0), (10, 2, 4, 10, 0, 0), (12, 1, 20, 0, 0, 0), (13, 1, 18, 0, 0, 0), (14, 3, 62, 0, 0, 63), (17, 1, 12, 0, 1, 0)]) rfl) ?_
  refine xg_t (xg_const) ?_
  refine xg_t (xg_sip) ?_
  refine xg_t (xg_aload (va := (2, 68)) rfl rfl) ?_
  refine xg_t (xg_getf (va := (2, 69)) h68_5 rfl) ?_
  refine xg_t (xg_iload (va := (0, pt)) rfl rfl) ?_
  refine xg_ialdB (n := pt) (B := 4294967295) h69_7 (hb8) xnm0 (by omega) (fun u9 hu10 he11 => ?_)
  have hu12 : rwv w 69 pt = u9 := (rwv_of h69_7 (by omega)).trans he11
  have hl13 : u9 ≤ 107892 := by have q := hAl; omega
  refine xg_t (xg_bip) ?_
  refine xg_t (xg_idiv (u := u9) (v := 10) (z := u9 / 10) xnm0 xnm0 (by omega) (by decide) (by decide) (rfl)) ?_
  by_cases hc14 : (u9 / 10) ≤ 1000
  · refine xg_t (xg_isub (u := 1000) (v := u9 / 10) (z := 1000 - (u9 / 10)) xnm0 xnm0 (by omega)) ?_
    refine xg_maxK (u := 0) (v := 1000 - (u9 / 10)) xnm0 xnm0 xmx_ok (by omega) (by omega) (fun z15 hz16 hz17 hz18 hz19 => ?_)
    unfold xbs at hz17 hz18
    exact xg_e ⟨z15, w, ⟨rfl, rfl⟩, by omega, hI, xFr.rf⟩
  · have hz22 : 4294957507 ≤ (1000 + (4294967296 - (u9 / 10))) % 4294967296 := by omega
    refine xg_t (xg_isub (u := 1000) (v := u9 / 10) (z := (1000 + (4294967296 - (u9 / 10))) % 4294967296) xnm0 xnm0 rfl) ?_
    have hz21 : (1000 + (4294967296 - (u9 / 10))) % 4294967296 < 4294967296 := Nat.mod_lt _ (by decide)
    generalize (1000 + (4294967296 - (u9 / 10))) % 4294967296 = z20 at hz22 hz21 ⊢
    refine xg_maxK (u := 0) (v := z20) xnm0 xnm0 xmx_ok (by omega) (by omega) (fun z23 hz24 hz25 hz26 hz27 => ?_)
    unfold xbs at hz25 hz26
    exact xg_e ⟨z23, w, ⟨rfl, rfl⟩, by omega, hI, xFr.rf⟩
theorem lmSpreadX (hI : xInv w) (hAl : ∀ k, k < 36 → rwv w 69 k ≤ 107892) : xPi (d + 2) mX3_leftSpread [(2, 68)] w bd fc rr (fun n w' => (n = (uhi (rwv w 69) (fld w 3 7) (fld w 3 8) 36 + (4294967296 - ulo (rwv w 69) (fld w 3 7) (fld w 3 8) 36)) % 4294967296) ∧ xInv w' ∧ xFr [] w w') := by
  refine xPi.of ?_
  show xTo (d + 2) mX3_leftSpread (0, [], [(0, (2, 68))], [], (w, bd, fc, 0, 0, rr)) (fun φ => ∃ n w', xEnd 1 [(0, n)] (w', bd, fc, 0, 0, rr) φ ∧ (n = (uhi (rwv w 69) (fld w 3 7) (fld w 3 8) 36 + (4294967296 - ulo (rwv w 69) (fld w 3 7) (fld w 3 8) 36)) % 4294967296) ∧ xInv w' ∧ xFr [] w w')
  refine xoC68 (hI 68 (by decide) : cp68 (wget w 68)) (fun f68_1 f68_3 h68_5 hb2 hb4 => ?_)
  refine xoC1 (hI 1 (by decide) : cp1 (wget w 1)) (fun f1_6 f1_8 f1_10 f1_12 f1_14 f1_16 h1_18 hb7 hb9 hb11 hb13 hb15 hb17 => ?_)
  refine xoC3 (hI 3 (by decide) : cp3 (wget w 3)) (fun f3_19 f3_21 f3_23 f3_25 f3_27 h3_29 hb20 hb22 hb24 hb26 hb28 => ?_)
  have q37 : fld w 3 7 = f3_23 := fld_of h3_29
  have q38 : fld w 3 8 = f3_25 := fld_of h3_29
  refine xg_t (xg_blk (b := [(0, 3, 5, 1000, 0, 0), (3, 1, 15, 1, 0, 0), (4, 1, 3, 0, 0, 0), (5, 1, 15, 2, 0, 0), (6, 1, 3, 0, 0, 0), (7, 1, 15, 3, 0, 0)]) rfl) ?_
  refine xg_t (xg_sip) ?_
  refine xg_t (xg_istore (l1 := [(0, (2, 68))]) rfl rfl rfl) ?_
  refine xg_t (xg_const) ?_
  refine xg_t (xg_istore (l1 := [(1, (0, 1000)), (0, (2, 68))]) rfl rfl rfl) ?_
  refine xg_t (xg_const) ?_
  refine xg_t (xg_istore (l1 := [(2, (0, 0)), (1, (0, 1000)), (0, (2, 68))]) rfl rfl rfl) ?_
  refine xg_t (xg_drop (l1 := [(0, (2, 68)), (1, (0, 1000)), (2, (0, 0)), (3, (0, 0))]) (List.forall_mem_cons.mpr ⟨List.mem_cons_of_mem _ (List.mem_cons_of_mem _ (List.mem_cons_of_mem _ (List.mem_cons_self))), List.forall_mem_cons.mpr ⟨List.mem_cons_of_mem _ (List.mem_cons_of_mem _ (List.mem_cons_self)), List.forall_mem_cons.mpr ⟨List.mem_cons_of_mem _ (List.mem_cons_self), List.forall_mem_cons.mpr ⟨List.mem_cons_self, fun _ h => absurd h List.not_mem_nil⟩⟩⟩⟩)) ?_
  have key30 : ∀ (m32 : Nat) (le gr ro : Nat) (w33 : List (List xE)), 6 - ro < m32 → le ≤ 1000 → gr ≤ 1000 → ro ≤ 6 → xInv w33 → xFr [] w w33 → (le = ulo (rwv w 69) (fld w 3 7) (fld w 3 8) (6 * ro) ∧ gr = uhi (rwv w 69) (fld w 3 7) (fld w 3 8) (6 * ro)) ∧ ro ≤ fld w 3 7 → xTo (d + 2) mX3_leftSpread (8, [], [(0, (2, 68)), (1, (0, le)), (2, (0, gr)), (3, (0, ro))], [], (w33, bd, fc, 0, 0, rr)) (fun φ => ∃ n w', xEnd 1 [(0, n)] (w', bd, fc, 0, 0, rr) φ ∧ (n = (uhi (rwv w 69) (fld w 3 7) (fld w 3 8) 36 + (4294967296 - ulo (rwv w 69) (fld w 3 7) (fld w 3 8) 36)) % 4294967296) ∧ xInv w' ∧ xFr [] w w') := by
    intro m32
    induction m32 with
    | zero => intro le gr ro w33 hz; exact absurd hz (Nat.not_lt_zero _)
    | succ m32 ih31 =>
      intro le gr ro w33 hm40 hn36 hn37 hn38 hI34 hF35 he39
      obtain ⟨⟨hle, hgr⟩, hrn⟩ := he39
      refine xg_t (xg_blk (b := [(8, 1, 2, 3, 0, 0), (9, 1, 0, 0, 0, 0), (10, 3, 1, 3, 0, 21), (13, 3, 1, 9, 4, 66), (16, 3, 1, 1, 7, 70), (19, 3, 6, 79, 3, 0), (22, 1, 3, 0, 0, 0), (23, 2, 15, 4, 0, 0)]) rfl) ?_
      refine xg_t (xg_iload (va := (0, ro)) rfl rfl) ?_
      refine xg_t (xg_aload (va := (2, 68)) rfl rfl) ?_
      refine xg_t (xg_getf (va := (2, 1)) (hF35.get (by decide) h68_5) rfl) ?_
      refine xg_t (xg_getf (va := (2, 3)) (hF35.get (by decide) h1_18) rfl) ?_
      refine xg_t (xg_getf (va := (0, f3_23)) (hF35.get (by decide) h3_29) rfl) ?_
      by_cases hc41 : ro < f3_23
      · refine xg_t (xg_icF (u := ro) (v := f3_23) rfl xnm0 xnm0 (xj_geF hc41 (by omega))) ?_
        refine xg_t (xg_const) ?_
        refine xg_t (xg_istore (l1 := [(0, (2, 68)), (1, (0, le)), (2, (0, gr)), (3, (0, ro))]) rfl rfl rfl) ?_
        refine xg_t (xg_drop (l1 := [(0, (2, 68)), (1, (0, le)), (2, (0, gr)), (3, (0, ro)), (4, (0, 0))]) (List.forall_mem_cons.mpr ⟨List.mem_cons_of_mem _ (List.mem_cons_self), List.forall_mem_cons.mpr ⟨List.mem_cons_of_mem _ (List.mem_cons_of_mem _ (List.mem_cons_self)), List.forall_mem_cons.mpr ⟨List.mem_cons_of_mem _ (List.mem_cons_of_mem _ (List.mem_cons_of_mem _ (List.mem_cons_self))), List.forall_mem_cons.mpr ⟨List.mem_cons_of_mem _ (List.mem_cons_of_mem _ (List.mem_cons_of_mem _ (List.mem_cons_of_mem _ (List.mem_cons_self)))), List.forall_mem_cons.mpr ⟨List.mem_cons_self, fun _ h => absurd h List.not_mem_nil⟩⟩⟩⟩⟩)) ?_
        have key42 : ∀ (m44 : Nat) (lf gs co : Nat) (w45 : List (List xE)), 6 - co < m44 → lf ≤ 1000 → gs ≤ 1000 → co ≤ 6 → xInv w45 → xFr [] w w45 → (lf = ulo (rwv w 69) (fld w 3 7) (fld w 3 8) (6 * ro + co) ∧ gs = uhi (rwv w 69) (fld w 3 7) (fld w 3 8) (6 * ro + co)) ∧ co ≤ fld w 3 8 → xTo (d + 2) mX3_leftSpread (25, [], [(0, (2, 68)), (1, (0, lf)), (2, (0, gs)), (3, (0, ro)), (4, (0, co))], [], (w45, bd, fc, 0, 0, rr)) (fun φ => ∃ n w', xEnd 1 [(0, n)] (w', bd, fc, 0, 0, rr) φ ∧ (n = (uhi (rwv w 69) (fld w 3 7) (fld w 3 8) 36 + (4294967296 - ulo (rwv w 69) (fld w 3 7) (fld w 3 8) 36)) % 4294967296) ∧ xInv w' ∧ xFr [] w w') := by
          intro m44
          induction m44 with
          | zero => intro lf gs co w45 hz; exact absurd hz (Nat.not_lt_zero _)
          | succ m44 ih43 =>
            intro lf gs co w45 hm52 hn48 hn49 hn50 hI46 hF47 he51
            obtain ⟨⟨hlf, hgs⟩, hcn⟩ := he51
            refine xg_t (xg_blk (b := [(25, 2, 2, 4, 0, 0), (27, 1, 0, 0, 0, 0), (28, 3, 1, 3, 0, 21), (31, 3, 1, 9, 4, 66), (34, 3, 1, 1, 8, 73), (37, 3, 6, 73, 3, 0), (40, 1, 0, 0, 0, 0), (41, 1, 2, 3, 0, 0), (42, 2, 4, 6, 0, 0), (44, 1, 16, 0, 0, 0), (45, 2, 2, 4, 0, 0), (47, 1, 11, 0, 0, 0), (48, 3, 13, 263, 24, 76), (51, 2, 15, 5, 0, 0), (53, 1, 2, 1, 0, 0), (54, 2, 2, 5, 0, 0), (56, 3, 63, 0, 0, 58), (59, 1, 15, 1, 0, 0), (60, 1, 2, 2, 0, 0), (61, 2, 2, 5, 0, 0), (63, 3, 62, 0, 0, 63), (66, 1, 15, 2, 0, 0), (67, 3, 9, 4, 1, 0), (70, 3, 8, 25, 0, 0)]) rfl) ?_
            refine xg_t (xg_iload (va := (0, co)) rfl rfl) ?_
            refine xg_t (xg_aload (va := (2, 68)) rfl rfl) ?_
            refine xg_t (xg_getf (va := (2, 1)) (hF47.get (by decide) h68_5) rfl) ?_
            refine xg_t (xg_getf (va := (2, 3)) (hF47.get (by decide) h1_18) rfl) ?_
            refine xg_t (xg_getf (va := (0, f3_25)) (hF47.get (by decide) h3_29) rfl) ?_
            by_cases hc53 : co < f3_25
            · refine xg_t (xg_icF (u := co) (v := f3_25) rfl xnm0 xnm0 (xj_geF hc53 (by omega))) ?_
              refine xg_t (xg_aload (va := (2, 68)) rfl rfl) ?_
              refine xg_t (xg_iload (va := (0, ro)) rfl rfl) ?_
              refine xg_t (xg_bip) ?_
              refine xg_t (xg_imul (u := ro) (v := 6) (z := ro * 6) xnm0 xnm0 (by omega)) ?_
              refine xg_t (xg_iload (va := (0, co)) rfl rfl) ?_
              refine xg_t (xg_iadd (u := ro * 6) (v := co) (z := (ro * 6) + co) xnm0 xnm0 (by omega)) ?_
              have hf54 : xFr [] w w45 := hF47
              have e6955 : rwv w45 69 = rwv w 69 := rwf_eq (hf54.1 69 (by decide))
              refine xg_cVi mX3_leftOf (vs := [(0, (ro * 6) + co)]) (rest := []) (cn1 := 0) (sl1 := 0) rfl (lmLeftX (hI46) (by omega) (by rw [e6955]; exact hAl _ (by omega))) rfl (hF47.get (by decide) h68_5) rfl rfl rfl rfl rfl rfl (fun n60 w56 hq57 => ?_)
              obtain ⟨hn61, hI58, hF59⟩ := hq57
              rw [e6955] at hn61
              refine xg_t (xg_istore (l1 := [(0, (2, 68)), (1, (0, lf)), (2, (0, gs)), (3, (0, ro)), (4, (0, co))]) rfl rfl rfl) ?_
              refine xg_t (xg_iload (va := (0, lf)) rfl rfl) ?_
              refine xg_t (xg_iload (va := (0, n60)) rfl rfl) ?_
              refine xg_minK (u := lf) (v := n60) xnm0 xnm0 xmx_ok (by omega) (by omega) (fun z62 hz63 hz64 hz65 hz66 => ?_)
              unfold xbs at hz64 hz65
              refine xg_t (xg_istore (l1 := [(5, (0, n60)), (0, (2, 68)), (2, (0, gs)), (3, (0, ro)), (4, (0, co))]) rfl rfl rfl) ?_
              refine xg_t (xg_iload (va := (0, gs)) rfl rfl) ?_
              refine xg_t (xg_iload (va := (0, n60)) rfl rfl) ?_
              refine xg_maxK (u := gs) (v := n60) xnm0 xnm0 xmx_ok (by omega) (by omega) (fun z67 hz68 hz69 hz70 hz71 => ?_)
              unfold xbs at hz69 hz70
              refine xg_t (xg_istore (l1 := [(1, (0, z62)), (5, (0, n60)), (0, (2, 68)), (3, (0, ro)), (4, (0, co))]) rfl rfl rfl) ?_
              refine xg_t (xg_iinc (u := co) (z := co + 1) (l1 := [(2, (0, z67)), (1, (0, z62)), (5, (0, n60)), (0, (2, 68)), (3, (0, ro))]) rfl rfl (by omega) rfl) ?_
              refine xg_t (xg_goto) ?_
              refine xg_t (xg_drop (l1 := [(0, (2, 68)), (1, (0, z62)), (2, (0, z67)), (3, (0, ro)), (4, (0, co + 1))]) (List.forall_mem_cons.mpr ⟨List.mem_cons_of_mem _ (List.mem_cons_of_mem _ (List.mem_cons_of_mem _ (List.mem_cons_of_mem _ (List.mem_cons_self)))), List.forall_mem_cons.mpr ⟨List.mem_cons_of_mem _ (List.mem_cons_of_mem _ (List.mem_cons_self)), List.forall_mem_cons.mpr ⟨List.mem_cons_of_mem _ (List.mem_cons_self), List.forall_mem_cons.mpr ⟨List.mem_cons_of_mem _ (List.mem_cons_of_mem _ (List.mem_cons_of_mem _ (List.mem_cons_of_mem _ (List.mem_cons_of_mem _ (List.mem_cons_self))))), List.forall_mem_cons.mpr ⟨List.mem_cons_self, fun _ h => absurd h List.not_mem_nil⟩⟩⟩⟩⟩)) ?_
              have hk74 : rwv w 69 (6 * ro + co) = rwv w 69 ((ro * 6) + co) := congrArg (rwv w 69) (by omega)
              have hk72 : z62 = ulo (rwv w 69) (fld w 3 7) (fld w 3 8) (6 * ro + (co + 1)) := by
                rw [← Nat.add_assoc, ulo_y ⟨by omega, by omega⟩, ← hlf, hk74]
                omega
              have hk73 : z67 = uhi (rwv w 69) (fld w 3 7) (fld w 3 8) (6 * ro + (co + 1)) := by
                rw [← Nat.add_assoc, uhi_y ⟨by omega, by omega⟩, ← hgs, hk74]
                omega
              exact ih43 z62 z67 (co + 1) w56 (by omega) (by omega) (by omega) (by omega) (hI58) ((hF47.tr (hF59.up (by decide)))) (⟨⟨hk72, hk73⟩, by omega⟩)
            · refine xg_t (xg_icT (u := co) (v := f3_25) rfl xnm0 xnm0 (xj_geT (by omega) (by omega))) ?_
              refine xg_t (xg_blk (b := [(73, 3, 9, 3, 1, 0), (76, 3, 8, 8, 0, 0)]) rfl) ?_
              refine xg_t (xg_iinc (u := ro) (z := ro + 1) (l1 := [(0, (2, 68)), (1, (0, lf)), (2, (0, gs)), (4, (0, co))]) rfl rfl (by omega) rfl) ?_
              refine xg_t (xg_goto) ?_
              refine xg_t (xg_drop (l1 := [(0, (2, 68)), (1, (0, lf)), (2, (0, gs)), (3, (0, ro + 1))]) (List.forall_mem_cons.mpr ⟨List.mem_cons_of_mem _ (List.mem_cons_self), List.forall_mem_cons.mpr ⟨List.mem_cons_of_mem _ (List.mem_cons_of_mem _ (List.mem_cons_self)), List.forall_mem_cons.mpr ⟨List.mem_cons_of_mem _ (List.mem_cons_of_mem _ (List.mem_cons_of_mem _ (List.mem_cons_self))), List.forall_mem_cons.mpr ⟨List.mem_cons_self, fun _ h => absurd h List.not_mem_nil⟩⟩⟩⟩)) ?_
              have hk75 := u_skip (A := rwv w 69) (R := (fld w 3 7)) (C := (fld w 3 8)) (a := 6 * ro + co) (6 - co) (fun k h1 h2 => by omega)
              rw [show 6 * ro + co + (6 - co) = 6 * (ro + 1) by omega] at hk75
              exact ih31 lf gs (ro + 1) w45 (by omega) (by omega) (by omega) (by omega) (hI46) (hF47) (⟨⟨hlf.trans hk75.1.symm, hgs.trans hk75.2.symm⟩, by omega⟩)
        exact key42 _ le gr 0 w33 (Nat.lt_succ_self _) (by omega) (by omega) (by omega) (hI34) (hF35) (⟨⟨hle, hgr⟩, Nat.zero_le _⟩)
      · refine xg_t (xg_icT (u := ro) (v := f3_23) rfl xnm0 xnm0 (xj_geT (by omega) (by omega))) ?_
        refine xg_t (xg_blk (b := [(79, 1, 2, 2, 0, 0), (80, 1, 2, 1, 0, 0), (81, 1, 18, 0, 0, 0), (82, 1, 12, 0, 1, 0)]) rfl) ?_
        refine xg_t (xg_iload (va := (0, gr)) rfl rfl) ?_
        refine xg_t (xg_iload (va := (0, le)) rfl rfl) ?_
        refine xg_t (xg_isub (u := gr) (v := le) (z := (gr + (4294967296 - le)) % 4294967296) xnm0 xnm0 (rfl)) ?_
        have hk76 := u_skip (A := rwv w 69) (R := (fld w 3 7)) (C := (fld w 3 8)) (a := 6 * ro) (36 - 6 * ro) (fun k h1 h2 => by omega)
        rw [show 6 * ro + (36 - 6 * ro) = 36 by omega] at hk76
        exact xg_e ⟨(gr + (4294967296 - le)) % 4294967296, w33, ⟨rfl, rfl⟩, (by rw [hk76.1, hk76.2, ← hle, ← hgr]), hI34, hF35⟩
  exact key30 _ 1000 0 0 w (Nat.lt_succ_self _) (by omega) (by omega) (by omega) (hI) (xFr.rf) (⟨⟨rfl, rfl⟩, Nat.zero_le _⟩)
theorem scLeftX {ro co : Nat} (hI : xInv w) (hro : ro ≤ 4294967295) (hco : co ≤ 4294967295) (hq : ∀ p, p < fld w 16 3 → (∀ t, t < 4 → rwv w 17 (5 * p + t) ≤ 5) ∧ rwv w 17 (5 * p + 4) ≤ 8991) (hfr : fld w 68 4 = 1 → ∀ k, k < 36 → rwv w 69 k = ag (rwv w 17) (fld w 16 3) k) : xPi (d + 4) mX11_left [(2, 0), (0, ro), (0, co)] w bd fc rr (fun n w' => (((ro < fld w 3 7 ∧ co < fld w 3 8) ∧ n = 1000 - ag (rwv w 17) (fld w 16 3) (6 * ro + co) / 10 ∧ (fld w' 68 4 = 1 ∧ ∀ k, k < 36 → rwv w' 69 k = ag (rwv w 17) (fld w 16 3) k)) ∨ (¬ (ro < fld w 3 7 ∧ co < fld w 3 8) ∧ n = 4294967295 ∧ wget w' 68 = wget w 68 ∧ wget w' 69 = wget w 69)) ∧ xInv w' ∧ xFr [68, 69] w w') := by
  refine xPi.of ?_
  show xTo (d + 4) mX11_left (0, [], [(0, (2, 0)), (1, (0, ro)), (2, (0, co))], [], (w, bd, fc, 0, 0, rr)) (fun φ => ∃ n w', xEnd 1 [(0, n)] (w', bd, fc, 0, 0, rr) φ ∧ (((ro < fld w 3 7 ∧ co < fld w 3 8) ∧ n = 1000 - ag (rwv w 17) (fld w 16 3) (6 * ro + co) / 10 ∧ (fld w' 68 4 = 1 ∧ ∀ k, k < 36 → rwv w' 69 k = ag (rwv w 17) (fld w 16 3) k)) ∨ (¬ (ro < fld w 3 7 ∧ co < fld w 3 8) ∧ n = 4294967295 ∧ wget w' 68 = wget w 68 ∧ wget w' 69 = wget w 69)) ∧ xInv w' ∧ xFr [68, 69] w w')
  have h0_1 := (hI 0 (by decide) : cp0 (wget w 0))
  refine xoC1 (hI 1 (by decide) : cp1 (wget w 1)) (fun f1_2 f1_4 f1_6 f1_8 f1_10 f1_12 h1_14 hb3 hb5 hb7 hb9 hb11 hb13 => ?_)
  refine xoC3 (hI 3 (by decide) : cp3 (wget w 3)) (fun f3_15 f3_17 f3_19 f3_21 f3_23 h3_25 hb16 hb18 hb20 hb22 hb24 => ?_)
  have q37 : fld w 3 7 = f3_19 := fld_of h3_25
  have q38 : fld w 3 8 = f3_21 := fld_of h3_25
  obtain ⟨f16_26, h16_28, hb27⟩ := (hI 16 (by decide) : cp16 (wget w 16))
  have q16 : fld w 16 3 = f16_26 := fld_of h16_28
  refine xg_t (xg_blk (b := [(0, 1, 0, 0, 0, 0), (1, 1, 2, 1, 0, 0), (2, 1, 2, 2, 0, 0), (3, 3, 13, 64, 88, 261), (6, 3, 7, 11, 1, 0), (9, 1, 3, 4294967295, 0, 0), (10, 1, 12, 0, 1, 0)]) rfl) ?_
  refine xg_t (xg_aload (va := (2, 0)) rfl rfl) ?_
  refine xg_t (xg_iload (va := (0, ro)) rfl rfl) ?_
  refine xg_t (xg_iload (va := (0, co)) rfl rfl) ?_
  refine xg_cVi mX11_hasPoint (vs := [(0, ro), (0, co)]) (rest := []) (cn1 := 0) (sl1 := 0) rfl (scHasPointX (hI) (by omega) (by omega)) rfl h0_1 rfl rfl rfl rfl rfl rfl (fun n33 w29 hq30 => ?_)
  obtain ⟨hn34, hI31, hF32⟩ := hq30
  by_cases hc35 : n33 = 0
  · refine xg_t (xg_ifF (u := n33) rfl xnm0 (xj_neF hc35)) ?_
    refine xg_t (xg_const) ?_
    exact xg_e ⟨4294967295, w29, ⟨rfl, rfl⟩, Or.inr ⟨by omega, rfl, (hF32.1 68 (by decide)), (hF32.1 69 (by decide))⟩, hI31, (hF32.up (by decide))⟩
  · refine xg_t (xg_ifT (u := n33) rfl xnm0 (xj_neT hc35)) ?_
    refine xg_t (xg_blk (b := [(11, 1, 0, 0, 0, 0), (12, 3, 1, 11, 6, 59), (15, 3, 13, 265, 24, 264), (18, 1, 0, 0, 0, 0), (19, 3, 1, 11, 6, 59), (22, 1, 2, 1, 0, 0), (23, 2, 4, 6, 0, 0), (25, 1, 16, 0, 0, 0), (26, 1, 2, 2, 0, 0), (27, 1, 11, 0, 0, 0), (28, 3, 13, 263, 24, 267), (31, 1, 12, 0, 1, 0)]) rfl) ?_
    refine xg_t (xg_aload (va := (2, 0)) rfl rfl) ?_
    refine xg_t (xg_getf (va := (2, 68)) (hF32.get (by decide) h0_1) rfl) ?_
    have ew36 : fld w29 16 3 = fld w 16 3 := fld_eq (hF32.1 16 (by decide))
    have ew37 : rwv w29 17 = rwv w 17 := rwf_eq (hF32.1 17 (by decide))
    have ew38 : fld w29 68 4 = fld w 68 4 := fld_eq (hF32.1 68 (by decide))
    have ew39 : rwv w29 69 = rwv w 69 := rwf_eq (hF32.1 69 (by decide))
    refine xoC68 (hI31 68 (by decide) : cp68 (wget w29 68)) (fun f68_40 f68_42 h68_44 hb41 hb43 => ?_)
    refine xg_cVv mX3_refreshAges (vs := []) (rest := []) (cn1 := 0) (sl1 := 0) rfl (lmRefreshAX (hI31) (by rw [ew36, ew37]; exact hq) (by rw [ew36, ew37, ew38, ew39]; exact hfr)) rfl h68_44 rfl rfl rfl rfl rfl rfl (fun w45 hq46 => ?_)
    obtain ⟨hI47, hF48, hx49⟩ := hq46
    obtain ⟨hag, h684, h685⟩ := hx49
    rw [ew36, ew37] at hag
    have hAl : ∀ k, k < 36 → rwv w45 69 k ≤ 107892 := fun k hk => by
      rw [hag k hk]
      have q := ag_le (P := rwv w 17) (n := fld w 16 3) (k := k) (B := 8991) (fun p hp => (hq p hp).2)
      omega
    refine xg_t (xg_aload (va := (2, 0)) rfl rfl) ?_
    refine xg_t (xg_getf (va := (2, 68)) (hF48.get (by decide) (hF32.get (by decide) h0_1)) rfl) ?_
    refine xg_t (xg_iload (va := (0, ro)) rfl rfl) ?_
    refine xg_t (xg_bip) ?_
    refine xg_t (xg_imul (u := ro) (v := 6) (z := ro * 6) xnm0 xnm0 (by omega)) ?_
    refine xg_t (xg_iload (va := (0, co)) rfl rfl) ?_
    refine xg_t (xg_iadd (u := ro * 6) (v := co) (z := (ro * 6) + co) xnm0 xnm0 (by omega)) ?_
    refine xoC68 (hI47 68 (by decide) : cp68 (wget w45 68)) (fun f68_50 f68_52 h68_54 hb51 hb53 => ?_)
    refine xg_cVi mX3_leftOf (vs := [(0, (ro * 6) + co)]) (rest := []) (cn1 := 0) (sl1 := 0) rfl (lmLeftX (hI47) (by omega) (hAl _ (by omega))) rfl h68_54 rfl rfl rfl rfl rfl rfl (fun n59 w55 hq56 => ?_)
    obtain ⟨hn60, hI57, hF58⟩ := hq56
    have hk61 : fld w55 68 4 = 1 ∧ ∀ k, k < 36 → rwv w55 69 k = ag (rwv w 17) (fld w 16 3) k := ⟨(fld_eq (hF58.1 68 (by decide))).trans h684, fun k hk => (rwv_eq (hF58.1 69 (by decide))).trans (hag k hk)⟩
    have hk62 : n59 = 1000 - ag (rwv w 17) (fld w 16 3) (6 * ro + co) / 10 := by
      rw [← hag (6 * ro + co) (by omega), show 6 * ro + co = ro * 6 + co by omega]
      exact hn60.1
    exact xg_e ⟨n59, w55, ⟨rfl, rfl⟩, Or.inl ⟨by omega, hk62, hk61⟩, hI57, (((hF32.up (by decide)).tr (hF48.up (by decide))).tr (hF58.up (by decide)))⟩
theorem scUnlikeX (hI : xInv w) (hq : ∀ p, p < fld w 16 3 → (∀ t, t < 4 → rwv w 17 (5 * p + t) ≤ 5) ∧ rwv w 17 (5 * p + 4) ≤ 8991) (hfr : fld w 68 4 = 1 → ∀ k, k < 36 → rwv w 69 k = ag (rwv w 17) (fld w 16 3) k) : xPi (d + 4) mX11_unlike [(2, 0)] w bd fc rr (fun n w' => (n = (uhi (ag (rwv w 17) (fld w 16 3)) (fld w 3 7) (fld w 3 8) 36 + (4294967296 - ulo (ag (rwv w 17) (fld w 16 3)) (fld w 3 7) (fld w 3 8) 36)) % 4294967296 ∧ (fld w' 68 4 = 1 ∧ ∀ k, k < 36 → rwv w' 69 k = ag (rwv w 17) (fld w 16 3) k)) ∧ xInv w' ∧ xFr [68, 69] w w') := by
  refine xPi.of ?_
  show xTo (d + 4) mX11_unlike (0, [], [(0, (2, 0))], [], (w, bd, fc, 0, 0, rr)) (fun φ => ∃ n w', xEnd 1 [(0, n)] (w', bd, fc, 0, 0, rr) φ ∧ (n = (uhi (ag (rwv w 17) (fld w 16 3)) (fld w 3 7) (fld w 3 8) 36 + (4294967296 - ulo (ag (rwv w 17) (fld w 16 3)) (fld w 3 7) (fld w 3 8) 36)) % 4294967296 ∧ (fld w' 68 4 = 1 ∧ ∀ k, k < 36 → rwv w' 69 k = ag (rwv w 17) (fld w 16 3) k)) ∧ xInv w' ∧ xFr [68, 69] w w')
  have h0_1 := (hI 0 (by decide) : cp0 (wget w 0))
  refine xoC1 (hI 1 (by decide) : cp1 (wget w 1)) (fun f1_2 f1_4 f1_6 f1_8 f1_10 f1_12 h1_14 hb3 hb5 hb7 hb9 hb11 hb13 => ?_)
  refine xoC3 (hI 3 (by decide) : cp3 (wget w 3)) (fun f3_15 f3_17 f3_19 f3_21 f3_23 h3_25 hb16 hb18 hb20 hb22 hb24 => ?_)
  have q37 : fld w 3 7 = f3_19 := fld_of h3_25
  have q38 : fld w 3 8 = f3_21 := fld_of h3_25
  obtain ⟨f16_26, h16_28, hb27⟩ := (hI 16 (by decide) : cp16 (wget w 16))
  have q16 : fld w 16 3 = f16_26 := fld_of h16_28
  refine xg_t (xg_blk (b := [(0, 1, 0, 0, 0, 0), (1, 3, 1, 11, 6, 59), (4, 3, 13, 265, 24, 264), (7, 1, 0, 0, 0, 0), (8, 3, 1, 11, 6, 59), (11, 3, 13, 264, 24, 270), (14, 1, 12, 0, 1, 0)]) rfl) ?_
  refine xg_t (xg_aload (va := (2, 0)) rfl rfl) ?_
  refine xg_t (xg_getf (va := (2, 68)) h0_1 rfl) ?_
  refine xoC68 (hI 68 (by decide) : cp68 (wget w 68)) (fun f68_29 f68_31 h68_33 hb30 hb32 => ?_)
  refine xg_cVv mX3_refreshAges (vs := []) (rest := []) (cn1 := 0) (sl1 := 0) rfl (lmRefreshAX (hI) hq hfr) rfl h68_33 rfl rfl rfl rfl rfl rfl (fun w34 hq35 => ?_)
  obtain ⟨hI36, hF37, hx38⟩ := hq35
  obtain ⟨hag, h684, h685⟩ := hx38
  have hAl : ∀ k, k < 36 → rwv w34 69 k ≤ 107892 := fun k hk => by
    rw [hag k hk]
    have q := ag_le (P := rwv w 17) (n := fld w 16 3) (k := k) (B := 8991) (fun p hp => (hq p hp).2)
    omega
  refine xg_t (xg_aload (va := (2, 0)) rfl rfl) ?_
  refine xg_t (xg_getf (va := (2, 68)) (hF37.get (by decide) h0_1) rfl) ?_
  refine xoC68 (hI36 68 (by decide) : cp68 (wget w34 68)) (fun f68_39 f68_41 h68_43 hb40 hb42 => ?_)
  refine xg_cVi mX3_leftSpread (vs := []) (rest := []) (cn1 := 0) (sl1 := 0) rfl (lmSpreadX (hI36) hAl) rfl h68_43 rfl rfl rfl rfl rfl rfl (fun n48 w44 hq45 => ?_)
  obtain ⟨hn49, hI46, hF47⟩ := hq45
  have hk50 : fld w44 68 4 = 1 ∧ ∀ k, k < 36 → rwv w44 69 k = ag (rwv w 17) (fld w 16 3) k := ⟨(fld_eq (hF47.1 68 (by decide))).trans h684, fun k hk => (rwv_eq (hF47.1 69 (by decide))).trans (hag k hk)⟩
  have hk51 : n48 = (uhi (ag (rwv w 17) (fld w 16 3)) (fld w 3 7) (fld w 3 8) 36 + (4294967296 - ulo (ag (rwv w 17) (fld w 16 3)) (fld w 3 7) (fld w 3 8) 36)) % 4294967296 := by
    rw [hn49, ulo_cg hag, uhi_cg hag, fld_fr hF37 (by decide), fld_fr hF37 (by decide)]
  exact xg_e ⟨n48, w44, ⟨rfl, rfl⟩, ⟨hk51, hk50⟩, hI46, ((hF37.up (by decide)).tr (hF47.up (by decide)))⟩
end XAL
end
section
/-! the model: what is left of lamps -/
theorem xMnv.l5 {w : List (List xE)} (hI : xMnv w) : rwv w 83 5 ≤ 6 := by
  refine xoX83 (hI 83 (by decide) (by decide) : cpx83 (wget w 83)) (fun f h hb hx => ?_)
  rw [rwv_of (j := 5) h (by decide)]
  exact hx.lits.2.2.2.2.2.1
theorem xMnv.l6 {w : List (List xE)} (hI : xMnv w) : rwv w 83 6 ≤ 6 := by
  refine xoX83 (hI 83 (by decide) (by decide) : cpx83 (wget w 83)) (fun f h hb hx => ?_)
  rw [rwv_of (j := 6) h (by decide)]
  exact hx.lits.2.2.2.2.2.2.1
theorem xMnv.l10 {w : List (List xE)} (hI : xMnv w) : rwv w 83 10 ≤ 12 := by
  refine xoX83 (hI 83 (by decide) (by decide) : cpx83 (wget w 83)) (fun f h hb hx => ?_)
  rw [rwv_of (j := 10) h (by decide)]
  exact hx.lits.2.2.2.2.2.2.2.2.2.2.1
section XAQ
variable {d : Nat} {w : List (List xE)} {bd : List (Nat × Nat)} {fc : List (Nat × Nat × Bool)} {rr : Nat × Nat}
theorem mPointX {ra ca : Nat} (hI : xMnv w) (hra : ra ≤ 4294967295) (hca : ca ≤ 4294967295) : xPi (d + 1) mX12_isPoint [(2, 82), (0, ra), (0, ca)] w bd fc rr (fun n w' => ((n = 1 ∧ ra < rwv w 83 5 ∧ ca < rwv w 83 6) ∨ (n = 0 ∧ ¬ (ra < rwv w 83 5 ∧ ca < rwv w 83 6))) ∧ xMnv w' ∧ xFr [] w w') := by
  refine xPi.of ?_
  show xTo (d + 1) mX12_isPoint (0, [], [(0, (2, 82)), (1, (0, ra)), (2, (0, ca))], [], (w, bd, fc, 0, 0, rr)) (fun φ => ∃ n w', xEnd 4 [(0, n)] (w', bd, fc, 0, 0, rr) φ ∧ ((n = 1 ∧ ra < rwv w 83 5 ∧ ca < rwv w 83 6) ∨ (n = 0 ∧ ¬ (ra < rwv w 83 5 ∧ ca < rwv w 83 6))) ∧ xMnv w' ∧ xFr [] w w')
  refine xoCh82 (hI 82 (by decide) (by decide) : cp82 (wget w 82)) (fun f82_1 f82_3 f82_5 f82_7 f82_9 f82_11 f82_13 f82_15 f82_17 f82_19 f82_21 f82_22 f82_23 f82_25 f82_27 f82_29 h82_31 hb2 hb4 hb6 hb8 hb10 hb12 hb14 hb16 hb18 hb20 hb24 hb26 hb28 hb30 hb32 => ?_)
  refine xoX83 (hI 83 (by decide) (by decide) : cpx83 (wget w 83)) (fun g83_33 h83_34 hb35 hx36 => ?_)
  refine xg_t (xg_blk (b := [(0, 1, 2, 1, 0, 0), (1, 1, 3, 0, 0, 0), (2, 1, 0, 0, 0, 0), (3, 3, 1, 12, 0, 7), (6, 1, 3, 5, 0, 0), (7, 1, 10, 0, 0, 0), (8, 1, 3, 1, 0, 0), (9, 1, 18, 0, 0, 0), (10, 3, 13, 161, 98, 105), (13, 3, 7, 37, 0, 0), (16, 1, 2, 2, 0, 0), (17, 1, 3, 0, 0, 0), (18, 1, 0, 0, 0, 0), (19, 3, 1, 12, 0, 7), (22, 2, 4, 6, 0, 0), (24, 1, 10, 0, 0, 0), (25, 1, 3, 1, 0, 0), (26, 1, 18, 0, 0, 0), (27, 3, 13, 161, 98, 105), (30, 3, 7, 37, 0, 0), (33, 1, 3, 1, 0, 0), (34, 3, 8, 38, 0, 0)]) rfl) ?_
  refine xg_t (xg_iload (va := (0, ra)) rfl rfl) ?_
  refine xg_t (xg_const) ?_
  refine xg_t (xg_aload (va := (2, 82)) rfl rfl) ?_
  refine xg_t (xg_getf (va := (2, 83)) h82_31 rfl) ?_
  refine xg_t (xg_const) ?_
  refine xg_ialdB (n := 5) (B := 4294967295) h83_34 (hb35) xnm0 (by omega) (fun u37 hu38 he39 => ?_)
  have hl40 : u37 ≤ 6 := by rw [← he39]; exact hx36.l5
  have hq41 : rwv w 83 5 = u37 := (rwv_of h83_34 (by omega)).trans he39
  refine xg_t (xg_const) ?_
  by_cases hc42 : 1 ≤ u37
  · refine xg_t (xg_isub (u := u37) (v := 1) (z := u37 - 1) xnm0 xnm0 (by omega)) ?_
    refine xg_t (xg_cSr mX12_isIn (vs := [(0, ra), (0, 0), (0, u37 - 1)]) (rest := []) (rs := [(0, if 0 ≤ ra ∧ ra ≤ u37 - 1 then 1 else 0)]) (cn1 := 0) (sl1 := 0) rfl (mIsIn (by omega) (by omega) (by omega)) rfl rfl rfl rfl rfl rfl rfl rfl) ?_
    by_cases hc43 : 0 ≤ ra ∧ ra ≤ u37 - 1
    · refine xg_t (xg_ifF (u := (if 0 ≤ ra ∧ ra ≤ u37 - 1 then 1 else 0)) rfl xnm0 (xj_eqF (xite1 hc43))) ?_
      refine xg_t (xg_iload (va := (0, ca)) rfl rfl) ?_
      refine xg_t (xg_const) ?_
      refine xg_t (xg_aload (va := (2, 82)) rfl rfl) ?_
      refine xg_t (xg_getf (va := (2, 83)) h82_31 rfl) ?_
      refine xg_t (xg_bip) ?_
      refine xg_ialdB (n := 6) (B := 4294967295) h83_34 (hb35) xnm0 (by omega) (fun u44 hu45 he46 => ?_)
      have hl47 : u44 ≤ 6 := by rw [← he46]; exact hx36.l6
      have hq48 : rwv w 83 6 = u44 := (rwv_of h83_34 (by omega)).trans he46
      refine xg_t (xg_const) ?_
      by_cases hc49 : 1 ≤ u44
      · refine xg_t (xg_isub (u := u44) (v := 1) (z := u44 - 1) xnm0 xnm0 (by omega)) ?_
        refine xg_t (xg_cSr mX12_isIn (vs := [(0, ca), (0, 0), (0, u44 - 1)]) (rest := []) (rs := [(0, if 0 ≤ ca ∧ ca ≤ u44 - 1 then 1 else 0)]) (cn1 := 0) (sl1 := 0) rfl (mIsIn (by omega) (by omega) (by omega)) rfl rfl rfl rfl rfl rfl rfl rfl) ?_
        by_cases hc50 : 0 ≤ ca ∧ ca ≤ u44 - 1
        · refine xg_t (xg_ifF (u := (if 0 ≤ ca ∧ ca ≤ u44 - 1 then 1 else 0)) rfl xnm0 (xj_eqF (xite1 hc50))) ?_
          refine xg_t (xg_const) ?_
          refine xg_t (xg_goto) ?_
          refine xg_t (xg_blk (b := [(38, 1, 12, 0, 1, 0)]) rfl) ?_
          exact xg_e ⟨1, w, ⟨rfl, rfl⟩, by omega, hI, xFr.rf⟩
        · refine xg_t (xg_ifT (u := (if 0 ≤ ca ∧ ca ≤ u44 - 1 then 1 else 0)) rfl xnm0 (xj_eqT (xite0 hc50))) ?_
          refine xg_t (xg_blk (b := [(37, 1, 3, 0, 0, 0)]) rfl) ?_
          refine xg_t (xg_const) ?_
          refine xg_t (xg_blk (b := [(38, 1, 12, 0, 1, 0)]) rfl) ?_
          exact xg_e ⟨0, w, ⟨rfl, rfl⟩, by omega, hI, xFr.rf⟩
      · have hz53 : 4294967295 ≤ (u44 + (4294967296 - 1)) % 4294967296 := by omega
        refine xg_t (xg_isub (u := u44) (v := 1) (z := (u44 + (4294967296 - 1)) % 4294967296) xnm0 xnm0 rfl) ?_
        have hz52 : (u44 + (4294967296 - 1)) % 4294967296 < 4294967296 := Nat.mod_lt _ (by decide)
        generalize (u44 + (4294967296 - 1)) % 4294967296 = z51 at hz53 hz52 ⊢
        refine xg_t (xg_cSr mX12_isIn (vs := [(0, ca), (0, 0), (0, z51)]) (rest := []) (rs := [(0, 0)]) (cn1 := 0) (sl1 := 0) rfl (mIsInN (by omega) (by omega) (by omega) (by omega)) rfl rfl rfl rfl rfl rfl rfl rfl) ?_
        refine xg_t (xg_ifT (u := 0) rfl xnm0 (by decide)) ?_
        refine xg_t (xg_blk (b := [(37, 1, 3, 0, 0, 0)]) rfl) ?_
        refine xg_t (xg_const) ?_
        refine xg_t (xg_blk (b := [(38, 1, 12, 0, 1, 0)]) rfl) ?_
        exact xg_e ⟨0, w, ⟨rfl, rfl⟩, by omega, hI, xFr.rf⟩
    · refine xg_t (xg_ifT (u := (if 0 ≤ ra ∧ ra ≤ u37 - 1 then 1 else 0)) rfl xnm0 (xj_eqT (xite0 hc43))) ?_
      refine xg_t (xg_blk (b := [(37, 1, 3, 0, 0, 0)]) rfl) ?_
      refine xg_t (xg_const) ?_
      refine xg_t (xg_blk (b := [(38, 1, 12, 0, 1, 0)]) rfl) ?_
      exact xg_e ⟨0, w, ⟨rfl, rfl⟩, by omega, hI, xFr.rf⟩
  · have hz56 : 4294967295 ≤ (u37 + (4294967296 - 1)) % 4294967296 := by omega
    refine xg_t (xg_isub (u := u37) (v := 1) (z := (u37 + (4294967296 - 1)) % 4294967296) xnm0 xnm0 rfl) ?_
    have hz55 : (u37 + (4294967296 - 1)) % 4294967296 < 4294967296 := Nat.mod_lt _ (by decide)
    generalize (u37 + (4294967296 - 1)) % 4294967296 = z54 at hz56 hz55 ⊢
    refine xg_t (xg_cSr mX12_isIn (vs := [(0, ra), (0, 0), (0, z54)]) (rest := []) (rs := [(0, 0)]) (cn1 := 0) (sl1 := 0) rfl (mIsInN (by omega) (by omega) (by omega) (by omega)) rfl rfl rfl rfl rfl rfl rfl rfl) ?_
    refine xg_t (xg_ifT (u := 0) rfl xnm0 (by decide)) ?_
    refine xg_t (xg_blk (b := [(37, 1, 3, 0, 0, 0)]) rfl) ?_
    refine xg_t (xg_const) ?_
    refine xg_t (xg_blk (b := [(38, 1, 12, 0, 1, 0)]) rfl) ?_
    exact xg_e ⟨0, w, ⟨rfl, rfl⟩, by omega, hI, xFr.rf⟩
theorem mLeftOfX {kk : Nat} (hI : xMnv w) (hkk : kk ≤ 35) (hAl : rwv w 103 kk ≤ 107892) : xPi d mX12_leftOf [(2, 82), (0, kk)] w bd fc rr (fun n w' => (n = 1000 - rwv w 103 kk / 10 ∧ n ≤ 1000) ∧ xMnv w' ∧ xFr [] w w') := by
  refine xPi.of ?_
  show xTo d mX12_leftOf (0, [], [(0, (2, 82)), (1, (0, kk))], [], (w, bd, fc, 0, 0, rr)) (fun φ => ∃ n w', xEnd 1 [(0, n)] (w', bd, fc, 0, 0, rr) φ ∧ (n = 1000 - rwv w 103 kk / 10 ∧ n ≤ 1000) ∧ xMnv w' ∧ xFr [] w w')
  refine xoCh82 (hI 82 (by decide) (by decide) : cp82 (wget w 82)) (fun f82_1 f82_3 f82_5 f82_7 f82_9 f82_11 f82_13 f82_15 f82_17 f82_19 f82_21 f82_22 f82_23 f82_25 f82_27 f82_29 h82_31 hb2 hb4 hb6 hb8 hb10 hb12 hb14 hb16 hb18 hb20 hb24 hb26 hb28 hb30 hb32 => ?_)
  refine xoI (hI 103 (by decide) (by decide) : cpI 36 70 4294967295 (wget w 103)) (fun g103_33 h103_34 hb35 => ?_)
  refine xg_t (xg_blk (b := [(0, 1, 0, 0, 0, 0), (1, 3, 1, 12, 34, 72), (4, 1, 2, 1, 0, 0), (5, 1, 10, 0, 0, 0), (6, 2, 4, 10, 0, 0), (8, 1, 20, 0, 0, 0), (9, 3, 5, 1000, 0, 0), (12, 3, 6, 19, 5, 0), (15, 1, 3, 0, 0, 0), (16, 3, 8, 32, 0, 0)]) rfl) ?_
  refine xg_t (xg_aload (va := (2, 82)) rfl rfl) ?_
  refine xg_t (xg_getf (va := (2, 103)) h82_31 rfl) ?_
  refine xg_t (xg_iload (va := (0, kk)) rfl rfl) ?_
  refine xg_ialdB (n := kk) (B := 4294967295) h103_34 (hb35) xnm0 (by omega) (fun u36 hu37 he38 => ?_)
  have hu39 : rwv w 103 kk = u36 := (rwv_of h103_34 (by omega)).trans he38
  have hl40 : u36 ≤ 107892 := by have q := hAl; omega
  refine xg_t (xg_bip) ?_
  refine xg_t (xg_idiv (u := u36) (v := 10) (z := u36 / 10) xnm0 xnm0 (by omega) (by decide) (by decide) (rfl)) ?_
  refine xg_t (xg_sip) ?_
  by_cases hc41 : 1000 < (u36 / 10)
  · refine xg_t (xg_icF (u := u36 / 10) (v := 1000) rfl xnm0 xnm0 (xj_leF hc41 (by omega))) ?_
    refine xg_t (xg_const) ?_
    refine xg_t (xg_goto) ?_
    refine xg_t (xg_blk (b := [(32, 1, 12, 0, 1, 0)]) rfl) ?_
    exact xg_e ⟨0, w, ⟨rfl, rfl⟩, by omega, hI, xFr.rf⟩
  · refine xg_t (xg_icT (u := u36 / 10) (v := 1000) rfl xnm0 xnm0 (xj_leT (by omega) (by omega))) ?_
    refine xg_t (xg_blk (b := [(19, 3, 5, 1000, 0, 0), (22, 1, 0, 0, 0, 0), (23, 3, 1, 12, 34, 72), (26, 1, 2, 1, 0, 0), (27, 1, 10, 0, 0, 0), (28, 2, 4, 10, 0, 0), (30, 1, 20, 0, 0, 0), (31, 1, 18, 0, 0, 0)]) rfl) ?_
    refine xg_t (xg_sip) ?_
    refine xg_t (xg_aload (va := (2, 82)) rfl rfl) ?_
    refine xg_t (xg_getf (va := (2, 103)) h82_31 rfl) ?_
    refine xg_t (xg_iload (va := (0, kk)) rfl rfl) ?_
    refine xg_ialdB (n := kk) (B := 4294967295) h103_34 (hb35) xnm0 (by omega) (fun u42 hu43 he44 => ?_)
    have hu45 : rwv w 103 kk = u42 := (rwv_of h103_34 (by omega)).trans he44
    have hl46 : u42 ≤ 107892 := by have q := hAl; omega
    refine xg_t (xg_bip) ?_
    refine xg_t (xg_idiv (u := u42) (v := 10) (z := u42 / 10) xnm0 xnm0 (by omega) (by decide) (by decide) (rfl)) ?_
    by_cases hc47 : (u42 / 10) ≤ 1000
    · refine xg_t (xg_isub (u := 1000) (v := u42 / 10) (z := 1000 - (u42 / 10)) xnm0 xnm0 (by omega)) ?_
      refine xg_t (xg_blk (b := [(32, 1, 12, 0, 1, 0)]) rfl) ?_
      exact xg_e ⟨1000 - (u42 / 10), w, ⟨rfl, rfl⟩, by omega, hI, xFr.rf⟩
    · have hz50 : 4294957507 ≤ (1000 + (4294967296 - (u42 / 10))) % 4294967296 := by omega
      refine xg_t (xg_isub (u := 1000) (v := u42 / 10) (z := (1000 + (4294967296 - (u42 / 10))) % 4294967296) xnm0 xnm0 rfl) ?_
      have hz49 : (1000 + (4294967296 - (u42 / 10))) % 4294967296 < 4294967296 := Nat.mod_lt _ (by decide)
      generalize (1000 + (4294967296 - (u42 / 10))) % 4294967296 = z48 at hz50 hz49 ⊢
      refine xg_t (xg_blk (b := [(32, 1, 12, 0, 1, 0)]) rfl) ?_
      exact xg_e ⟨z48, w, ⟨rfl, rfl⟩, by omega, hI, xFr.rf⟩
theorem mUnlikeX (hI : xMnv w) (hq : ∀ p, p < rwv w 83 10 → (∀ t, t < 4 → rwv w 83 (300 + 6 * p + t) ≤ 5) ∧ rwv w 83 (304 + 6 * p) ≤ 9 ∧ rwv w 83 (305 + 6 * p) ≤ 999) : xPi (d + 2) mX12_unlike [(2, 82)] w bd fc rr (fun n w' => (n = (uhi (ag (agP (rwv w 83)) (rwv w 83 10)) (rwv w 83 5) (rwv w 83 6) 36 + (4294967296 - ulo (ag (agP (rwv w 83)) (rwv w 83 10)) (rwv w 83 5) (rwv w 83 6) 36)) % 4294967296) ∧ xMnv w' ∧ xFr [103] w w') := by
  refine xPi.of ?_
  show xTo (d + 2) mX12_unlike (0, [], [(0, (2, 82))], [], (w, bd, fc, 0, 0, rr)) (fun φ => ∃ n w', xEnd 1 [(0, n)] (w', bd, fc, 0, 0, rr) φ ∧ (n = (uhi (ag (agP (rwv w 83)) (rwv w 83 10)) (rwv w 83 5) (rwv w 83 6) 36 + (4294967296 - ulo (ag (agP (rwv w 83)) (rwv w 83 10)) (rwv w 83 5) (rwv w 83 6) 36)) % 4294967296) ∧ xMnv w' ∧ xFr [103] w w')
  refine xoCh82 (hI 82 (by decide) (by decide) : cp82 (wget w 82)) (fun f82_1 f82_3 f82_5 f82_7 f82_9 f82_11 f82_13 f82_15 f82_17 f82_19 f82_21 f82_22 f82_23 f82_25 f82_27 f82_29 h82_31 hb2 hb4 hb6 hb8 hb10 hb12 hb14 hb16 hb18 hb20 hb24 hb26 hb28 hb30 hb32 => ?_)
  refine xoX83 (hI 83 (by decide) (by decide) : cpx83 (wget w 83)) (fun g83_33 h83_34 hb35 hx36 => ?_)
  refine xg_t (xg_blk (b := [(0, 1, 0, 0, 0, 0), (1, 3, 13, 112, 96, 326), (4, 3, 5, 1000, 0, 0), (7, 1, 15, 1, 0, 0), (8, 1, 3, 0, 0, 0), (9, 1, 15, 2, 0, 0), (10, 1, 3, 0, 0, 0), (11, 1, 15, 3, 0, 0)]) rfl) ?_
  refine xg_t (xg_aload (va := (2, 82)) rfl rfl) ?_
  have hf37 : xFr [103] w w := xFr.rf
  have e8338 : rwv w 83 = rwv w 83 := rwf_eq (hf37.1 83 (by decide))
  refine xg_cVv mX12_ages (vs := []) (rest := []) (cn1 := 0) (sl1 := 0) rfl (mAgesX (hI) (by rw [e8338]; exact hq)) rfl h82_31 rfl rfl rfl rfl rfl rfl (fun w39 hq40 => ?_)
  obtain ⟨hI41, hF42, hx43⟩ := hq40
  have hag := hx43
  rw [e8338] at hag
  have hAl : ∀ k, k < 36 → rwv w39 103 k ≤ 107892 := fun k hk => by
    rw [hag k hk]
    have q := ag_le (P := (agP (rwv w 83))) (n := rwv w 83 10) (k := k) (B := 8991) (fun p hp => agm_le (hq p hp).2)
    have l := xMnv.l10 hI
    omega
  refine xg_t (xg_sip) ?_
  refine xg_t (xg_istore (l1 := [(0, (2, 82))]) rfl rfl rfl) ?_
  refine xg_t (xg_const) ?_
  refine xg_t (xg_istore (l1 := [(1, (0, 1000)), (0, (2, 82))]) rfl rfl rfl) ?_
  refine xg_t (xg_const) ?_
  refine xg_t (xg_istore (l1 := [(2, (0, 0)), (1, (0, 1000)), (0, (2, 82))]) rfl rfl rfl) ?_
  refine xg_t (xg_drop (l1 := [(0, (2, 82)), (1, (0, 1000)), (2, (0, 0)), (3, (0, 0))]) (List.forall_mem_cons.mpr ⟨List.mem_cons_of_mem _ (List.mem_cons_of_mem _ (List.mem_cons_of_mem _ (List.mem_cons_self))), List.forall_mem_cons.mpr ⟨List.mem_cons_of_mem _ (List.mem_cons_of_mem _ (List.mem_cons_self)), List.forall_mem_cons.mpr ⟨List.mem_cons_of_mem _ (List.mem_cons_self), List.forall_mem_cons.mpr ⟨List.mem_cons_self, fun _ h => absurd h List.not_mem_nil⟩⟩⟩⟩)) ?_
  have key44 : ∀ (m46 : Nat) (lw hg ki : Nat) (w47 : List (List xE)), 36 - ki < m46 → lw ≤ 1000 → hg ≤ 1000 → ki ≤ 36 → xMnv w47 → xFr [103] w w47 → (∀ k, k < 36 → rwv w47 103 k = ag (agP (rwv w 83)) (rwv w 83 10) k) ∧ lw = ulo (ag (agP (rwv w 83)) (rwv w 83 10)) (rwv w 83 5) (rwv w 83 6) ki ∧ hg = uhi (ag (agP (rwv w 83)) (rwv w 83 10)) (rwv w 83 5) (rwv w 83 6) ki → xTo (d + 2) mX12_unlike (12, [], [(0, (2, 82)), (1, (0, lw)), (2, (0, hg)), (3, (0, ki))], [], (w47, bd, fc, 0, 0, rr)) (fun φ => ∃ n w', xEnd 1 [(0, n)] (w', bd, fc, 0, 0, rr) φ ∧ (n = (uhi (ag (agP (rwv w 83)) (rwv w 83 10)) (rwv w 83 5) (rwv w 83 6) 36 + (4294967296 - ulo (ag (agP (rwv w 83)) (rwv w 83 10)) (rwv w 83 5) (rwv w 83 6) 36)) % 4294967296) ∧ xMnv w' ∧ xFr [103] w w') := by
    intro m46
    induction m46 with
    | zero => intro lw hg ki w47 hz; exact absurd hz (Nat.not_lt_zero _)
    | succ m46 ih45 =>
      intro lw hg ki w47 hm54 hn50 hn51 hn52 hI48 hF49 he53
      obtain ⟨hag, hlw, hhg⟩ := he53
      have hAl : ∀ k, k < 36 → rwv w47 103 k ≤ 107892 := fun k hk => by
        rw [hag k hk]
        have q := ag_le (P := (agP (rwv w 83))) (n := rwv w 83 10) (k := k) (B := 8991) (fun p hp => agm_le (hq p hp).2)
        have l := xMnv.l10 hI
        omega
      refine xg_t (xg_blk (b := [(12, 1, 2, 3, 0, 0), (13, 2, 4, 36, 0, 0), (15, 3, 6, 80, 3, 0), (18, 1, 0, 0, 0, 0), (19, 1, 2, 3, 0, 0), (20, 2, 4, 6, 0, 0), (22, 1, 20, 0, 0, 0), (23, 1, 2, 3, 0, 0), (24, 2, 4, 6, 0, 0), (26, 1, 21, 0, 0, 0), (27, 3, 13, 169, 96, 323), (30, 3, 7, 36, 1, 0), (33, 3, 8, 74, 0, 0)]) rfl) ?_
      refine xg_t (xg_iload (va := (0, ki)) rfl rfl) ?_
      refine xg_t (xg_bip) ?_
      by_cases hc55 : ki < 36
      · refine xg_t (xg_icF (u := ki) (v := 36) rfl xnm0 xnm0 (xj_geF hc55 (by omega))) ?_
        refine xg_t (xg_aload (va := (2, 82)) rfl rfl) ?_
        refine xg_t (xg_iload (va := (0, ki)) rfl rfl) ?_
        refine xg_t (xg_bip) ?_
        refine xg_t (xg_idiv (u := ki) (v := 6) (z := ki / 6) xnm0 xnm0 (by omega) (by decide) (by decide) (rfl)) ?_
        refine xg_t (xg_iload (va := (0, ki)) rfl rfl) ?_
        refine xg_t (xg_bip) ?_
        refine xg_t (xg_irem (u := ki) (v := 6) (z := ki % 6) xnm0 xnm0 (by omega) (by decide) (by decide) (rfl)) ?_
        have hf56 : xFr [103] w w47 := hF49
        have e8357 : rwv w47 83 = rwv w 83 := rwf_eq (hf56.1 83 (by decide))
        refine xg_cVi mX12_isPoint (vs := [(0, ki / 6), (0, ki % 6)]) (rest := []) (cn1 := 0) (sl1 := 0) rfl (mPointX (hI48) (by omega) (by omega)) rfl (hF49.get (by decide) h82_31) rfl rfl rfl rfl rfl rfl (fun n62 w58 hq59 => ?_)
        obtain ⟨hn63, hI60, hF61⟩ := hq59
        rw [e8357] at hn63
        have hl64 : rwv w 83 5 ≤ 6 ∧ rwv w 83 6 ≤ 6 := ⟨xMnv.l5 hI, xMnv.l6 hI⟩
        by_cases hc65 : n62 = 0
        · refine xg_t (xg_ifF (u := n62) rfl xnm0 (xj_neF hc65)) ?_
          refine xg_t (xg_goto) ?_
          refine xg_t (xg_blk (b := [(74, 3, 9, 3, 1, 0), (77, 3, 8, 12, 0, 0)]) rfl) ?_
          refine xg_t (xg_iinc (u := ki) (z := ki + 1) (l1 := [(0, (2, 82)), (1, (0, lw)), (2, (0, hg))]) rfl rfl (by omega) rfl) ?_
          refine xg_t (xg_goto) ?_
          refine xg_t (xg_drop (l1 := [(0, (2, 82)), (1, (0, lw)), (2, (0, hg)), (3, (0, ki + 1))]) (List.forall_mem_cons.mpr ⟨List.mem_cons_of_mem _ (List.mem_cons_self), List.forall_mem_cons.mpr ⟨List.mem_cons_of_mem _ (List.mem_cons_of_mem _ (List.mem_cons_self)), List.forall_mem_cons.mpr ⟨List.mem_cons_of_mem _ (List.mem_cons_of_mem _ (List.mem_cons_of_mem _ (List.mem_cons_self))), List.forall_mem_cons.mpr ⟨List.mem_cons_self, fun _ h => absurd h List.not_mem_nil⟩⟩⟩⟩)) ?_
          have hk66 : ∀ k, k < 36 → rwv w58 103 k = ag (agP (rwv w 83)) (rwv w 83 10) k := fun k hk => (rwv_eq (hF61.1 103 (by decide))).trans (hag k hk)
          have hk67 : lw = ulo (ag (agP (rwv w 83)) (rwv w 83 10)) (rwv w 83 5) (rwv w 83 6) (ki + 1) := by
            rw [ulo_n (by omega)]
            exact hlw
          have hk68 : hg = uhi (ag (agP (rwv w 83)) (rwv w 83 10)) (rwv w 83 5) (rwv w 83 6) (ki + 1) := by
            rw [uhi_n (by omega)]
            exact hhg
          exact ih45 lw hg (ki + 1) w58 (by omega) (by omega) (by omega) (by omega) (hI60) ((hF49.tr (hF61.up (by decide)))) (⟨hk66, hk67, hk68⟩)
        · refine xg_t (xg_ifT (u := n62) rfl xnm0 (xj_neT hc65)) ?_
          refine xg_t (xg_blk (b := [(36, 1, 0, 0, 0, 0), (37, 1, 2, 3, 0, 0), (38, 3, 13, 187, 96, 329), (41, 1, 2, 1, 0, 0), (42, 3, 6, 53, 3, 0), (45, 1, 0, 0, 0, 0), (46, 1, 2, 3, 0, 0), (47, 3, 13, 187, 96, 329), (50, 3, 8, 54, 0, 0)]) rfl) ?_
          refine xg_t (xg_aload (va := (2, 82)) rfl rfl) ?_
          refine xg_t (xg_iload (va := (0, ki)) rfl rfl) ?_
          have e10369 : rwv w58 103 = rwv w47 103 := rwf_eq (hF61.1 103 (by decide))
          refine xg_cVi mX12_leftOf (vs := [(0, ki)]) (rest := []) (cn1 := 0) (sl1 := 0) rfl (mLeftOfX (hI60) (by omega) (by rw [e10369]; exact hAl _ (by omega))) rfl (hF61.get (by decide) (hF49.get (by decide) h82_31)) rfl rfl rfl rfl rfl rfl (fun n74 w70 hq71 => ?_)
          obtain ⟨hn75, hI72, hF73⟩ := hq71
          rw [e10369] at hn75
          refine xg_t (xg_iload (va := (0, lw)) rfl rfl) ?_
          by_cases hc76 : n74 < lw
          · refine xg_t (xg_icF (u := n74) (v := lw) rfl xnm0 xnm0 (xj_geF hc76 (by omega))) ?_
            refine xg_t (xg_aload (va := (2, 82)) rfl rfl) ?_
            refine xg_t (xg_iload (va := (0, ki)) rfl rfl) ?_
            have e10377 : rwv w70 103 = rwv w47 103 := rwf_eq ((hF73.1 103 (by decide)).trans (hF61.1 103 (by decide)))
            refine xg_cVi mX12_leftOf (vs := [(0, ki)]) (rest := []) (cn1 := 0) (sl1 := 0) rfl (mLeftOfX (hI72) (by omega) (by rw [e10377]; exact hAl _ (by omega))) rfl (hF73.get (by decide) (hF61.get (by decide) (hF49.get (by decide) h82_31))) rfl rfl rfl rfl rfl rfl (fun n82 w78 hq79 => ?_)
            obtain ⟨hn83, hI80, hF81⟩ := hq79
            rw [e10377] at hn83
            refine xg_t (xg_goto) ?_
            refine xg_t (xg_blk (b := [(54, 1, 15, 1, 0, 0), (55, 1, 0, 0, 0, 0), (56, 1, 2, 3, 0, 0), (57, 3, 13, 187, 96, 329), (60, 1, 2, 2, 0, 0), (61, 3, 6, 72, 5, 0), (64, 1, 0, 0, 0, 0), (65, 1, 2, 3, 0, 0), (66, 3, 13, 187, 96, 329), (69, 3, 8, 73, 0, 0)]) rfl) ?_
            refine xg_t (xg_istore (l1 := [(0, (2, 82)), (2, (0, hg)), (3, (0, ki))]) rfl rfl rfl) ?_
            refine xg_t (xg_aload (va := (2, 82)) rfl rfl) ?_
            refine xg_t (xg_iload (va := (0, ki)) rfl rfl) ?_
            have e10384 : rwv w78 103 = rwv w47 103 := rwf_eq ((hF81.1 103 (by decide)).trans ((hF73.1 103 (by decide)).trans (hF61.1 103 (by decide))))
            refine xg_cVi mX12_leftOf (vs := [(0, ki)]) (rest := []) (cn1 := 0) (sl1 := 0) rfl (mLeftOfX (hI80) (by omega) (by rw [e10384]; exact hAl _ (by omega))) rfl (hF81.get (by decide) (hF73.get (by decide) (hF61.get (by decide) (hF49.get (by decide) h82_31)))) rfl rfl rfl rfl rfl rfl (fun n89 w85 hq86 => ?_)
            obtain ⟨hn90, hI87, hF88⟩ := hq86
            rw [e10384] at hn90
            refine xg_t (xg_iload (va := (0, hg)) rfl rfl) ?_
            by_cases hc91 : hg < n89
            · refine xg_t (xg_icF (u := n89) (v := hg) rfl xnm0 xnm0 (xj_leF hc91 (by omega))) ?_
              refine xg_t (xg_aload (va := (2, 82)) rfl rfl) ?_
              refine xg_t (xg_iload (va := (0, ki)) rfl rfl) ?_
              have e10392 : rwv w85 103 = rwv w47 103 := rwf_eq ((hF88.1 103 (by decide)).trans ((hF81.1 103 (by decide)).trans ((hF73.1 103 (by decide)).trans (hF61.1 103 (by decide)))))
              refine xg_cVi mX12_leftOf (vs := [(0, ki)]) (rest := []) (cn1 := 0) (sl1 := 0) rfl (mLeftOfX (hI87) (by omega) (by rw [e10392]; exact hAl _ (by omega))) rfl (hF88.get (by decide) (hF81.get (by decide) (hF73.get (by decide) (hF61.get (by decide) (hF49.get (by decide) h82_31))))) rfl rfl rfl rfl rfl rfl (fun n97 w93 hq94 => ?_)
              obtain ⟨hn98, hI95, hF96⟩ := hq94
              rw [e10392] at hn98
              refine xg_t (xg_goto) ?_
              refine xg_t (xg_blk (b := [(73, 1, 15, 2, 0, 0)]) rfl) ?_
              refine xg_t (xg_istore (l1 := [(1, (0, n82)), (0, (2, 82)), (3, (0, ki))]) rfl rfl rfl) ?_
              refine xg_t (xg_blk (b := [(74, 3, 9, 3, 1, 0), (77, 3, 8, 12, 0, 0)]) rfl) ?_
              refine xg_t (xg_iinc (u := ki) (z := ki + 1) (l1 := [(2, (0, n97)), (1, (0, n82)), (0, (2, 82))]) rfl rfl (by omega) rfl) ?_
              refine xg_t (xg_goto) ?_
              refine xg_t (xg_drop (l1 := [(0, (2, 82)), (1, (0, n82)), (2, (0, n97)), (3, (0, ki + 1))]) (List.forall_mem_cons.mpr ⟨List.mem_cons_of_mem _ (List.mem_cons_of_mem _ (List.mem_cons_of_mem _ (List.mem_cons_self))), List.forall_mem_cons.mpr ⟨List.mem_cons_of_mem _ (List.mem_cons_of_mem _ (List.mem_cons_self)), List.forall_mem_cons.mpr ⟨List.mem_cons_of_mem _ (List.mem_cons_self), List.forall_mem_cons.mpr ⟨List.mem_cons_self, fun _ h => absurd h List.not_mem_nil⟩⟩⟩⟩)) ?_
              have hk99 : ∀ k, k < 36 → rwv w93 103 k = ag (agP (rwv w 83)) (rwv w 83 10) k := fun k hk => (rwv_eq ((hF96.1 103 (by decide)).trans ((hF88.1 103 (by decide)).trans ((hF81.1 103 (by decide)).trans ((hF73.1 103 (by decide)).trans (hF61.1 103 (by decide))))))).trans (hag k hk)
              have hgk := hag ki (by omega)
              have hk100 : n82 = ulo (ag (agP (rwv w 83)) (rwv w 83 10)) (rwv w 83 5) (rwv w 83 6) (ki + 1) := by
                rw [ulo_y ⟨by omega, by omega⟩, ← hlw, ← hgk]
                omega
              have hk101 : n97 = uhi (ag (agP (rwv w 83)) (rwv w 83 10)) (rwv w 83 5) (rwv w 83 6) (ki + 1) := by
                rw [uhi_y ⟨by omega, by omega⟩, ← hhg, ← hgk]
                omega
              exact ih45 n82 n97 (ki + 1) w93 (by omega) (by omega) (by omega) (by omega) (hI95) ((((((hF49.tr (hF61.up (by decide))).tr (hF73.up (by decide))).tr (hF81.up (by decide))).tr (hF88.up (by decide))).tr (hF96.up (by decide)))) (⟨hk99, hk100, hk101⟩)
            · refine xg_t (xg_icT (u := n89) (v := hg) rfl xnm0 xnm0 (xj_leT (by omega) (by omega))) ?_
              refine xg_t (xg_blk (b := [(72, 1, 2, 2, 0, 0)]) rfl) ?_
              refine xg_t (xg_iload (va := (0, hg)) rfl rfl) ?_
              refine xg_t (xg_blk (b := [(73, 1, 15, 2, 0, 0)]) rfl) ?_
              refine xg_t (xg_istore (l1 := [(1, (0, n82)), (0, (2, 82)), (3, (0, ki))]) rfl rfl rfl) ?_
              refine xg_t (xg_blk (b := [(74, 3, 9, 3, 1, 0), (77, 3, 8, 12, 0, 0)]) rfl) ?_
              refine xg_t (xg_iinc (u := ki) (z := ki + 1) (l1 := [(2, (0, hg)), (1, (0, n82)), (0, (2, 82))]) rfl rfl (by omega) rfl) ?_
              refine xg_t (xg_goto) ?_
              refine xg_t (xg_drop (l1 := [(0, (2, 82)), (1, (0, n82)), (2, (0, hg)), (3, (0, ki + 1))]) (List.forall_mem_cons.mpr ⟨List.mem_cons_of_mem _ (List.mem_cons_of_mem _ (List.mem_cons_of_mem _ (List.mem_cons_self))), List.forall_mem_cons.mpr ⟨List.mem_cons_of_mem _ (List.mem_cons_of_mem _ (List.mem_cons_self)), List.forall_mem_cons.mpr ⟨List.mem_cons_of_mem _ (List.mem_cons_self), List.forall_mem_cons.mpr ⟨List.mem_cons_self, fun _ h => absurd h List.not_mem_nil⟩⟩⟩⟩)) ?_
              have hk102 : ∀ k, k < 36 → rwv w85 103 k = ag (agP (rwv w 83)) (rwv w 83 10) k := fun k hk => (rwv_eq ((hF88.1 103 (by decide)).trans ((hF81.1 103 (by decide)).trans ((hF73.1 103 (by decide)).trans (hF61.1 103 (by decide)))))).trans (hag k hk)
              have hgk := hag ki (by omega)
              have hk103 : n82 = ulo (ag (agP (rwv w 83)) (rwv w 83 10)) (rwv w 83 5) (rwv w 83 6) (ki + 1) := by
                rw [ulo_y ⟨by omega, by omega⟩, ← hlw, ← hgk]
                omega
              have hk104 : hg = uhi (ag (agP (rwv w 83)) (rwv w 83 10)) (rwv w 83 5) (rwv w 83 6) (ki + 1) := by
                rw [uhi_y ⟨by omega, by omega⟩, ← hhg, ← hgk]
                omega
              exact ih45 n82 hg (ki + 1) w85 (by omega) (by omega) (by omega) (by omega) (hI87) (((((hF49.tr (hF61.up (by decide))).tr (hF73.up (by decide))).tr (hF81.up (by decide))).tr (hF88.up (by decide)))) (⟨hk102, hk103, hk104⟩)
          · refine xg_t (xg_icT (u := n74) (v := lw) rfl xnm0 xnm0 (xj_geT (by omega) (by omega))) ?_
            refine xg_t (xg_blk (b := [(53, 1, 2, 1, 0, 0)]) rfl) ?_
            refine xg_t (xg_iload (va := (0, lw)) rfl rfl) ?_
            refine xg_t (xg_blk (b := [(54, 1, 15, 1, 0, 0), (55, 1, 0, 0, 0, 0), (56, 1, 2, 3, 0, 0), (57, 3, 13, 187, 96, 329), (60, 1, 2, 2, 0, 0), (61, 3, 6, 72, 5, 0), (64, 1, 0, 0, 0, 0), (65, 1, 2, 3, 0, 0), (66, 3, 13, 187, 96, 329), (69, 3, 8, 73, 0, 0)]) rfl) ?_
            refine xg_t (xg_istore (l1 := [(0, (2, 82)), (2, (0, hg)), (3, (0, ki))]) rfl rfl rfl) ?_
            refine xg_t (xg_aload (va := (2, 82)) rfl rfl) ?_
            refine xg_t (xg_iload (va := (0, ki)) rfl rfl) ?_
            have e103105 : rwv w70 103 = rwv w47 103 := rwf_eq ((hF73.1 103 (by decide)).trans (hF61.1 103 (by decide)))
            refine xg_cVi mX12_leftOf (vs := [(0, ki)]) (rest := []) (cn1 := 0) (sl1 := 0) rfl (mLeftOfX (hI72) (by omega) (by rw [e103105]; exact hAl _ (by omega))) rfl (hF73.get (by decide) (hF61.get (by decide) (hF49.get (by decide) h82_31))) rfl rfl rfl rfl rfl rfl (fun n110 w106 hq107 => ?_)
            obtain ⟨hn111, hI108, hF109⟩ := hq107
            rw [e103105] at hn111
            refine xg_t (xg_iload (va := (0, hg)) rfl rfl) ?_
            by_cases hc112 : hg < n110
            · refine xg_t (xg_icF (u := n110) (v := hg) rfl xnm0 xnm0 (xj_leF hc112 (by omega))) ?_
              refine xg_t (xg_aload (va := (2, 82)) rfl rfl) ?_
              refine xg_t (xg_iload (va := (0, ki)) rfl rfl) ?_
              have e103113 : rwv w106 103 = rwv w47 103 := rwf_eq ((hF109.1 103 (by decide)).trans ((hF73.1 103 (by decide)).trans (hF61.1 103 (by decide))))
              refine xg_cVi mX12_leftOf (vs := [(0, ki)]) (rest := []) (cn1 := 0) (sl1 := 0) rfl (mLeftOfX (hI108) (by omega) (by rw [e103113]; exact hAl _ (by omega))) rfl (hF109.get (by decide) (hF73.get (by decide) (hF61.get (by decide) (hF49.get (by decide) h82_31)))) rfl rfl rfl rfl rfl rfl (fun n118 w114 hq115 => ?_)
              obtain ⟨hn119, hI116, hF117⟩ := hq115
              rw [e103113] at hn119
              refine xg_t (xg_goto) ?_
              refine xg_t (xg_blk (b := [(73, 1, 15, 2, 0, 0)]) rfl) ?_
              refine xg_t (xg_istore (l1 := [(1, (0, lw)), (0, (2, 82)), (3, (0, ki))]) rfl rfl rfl) ?_
              refine xg_t (xg_blk (b := [(74, 3, 9, 3, 1, 0), (77, 3, 8, 12, 0, 0)]) rfl) ?_
              refine xg_t (xg_iinc (u := ki) (z := ki + 1) (l1 := [(2, (0, n118)), (1, (0, lw)), (0, (2, 82))]) rfl rfl (by omega) rfl) ?_
              refine xg_t (xg_goto) ?_
              refine xg_t (xg_drop (l1 := [(0, (2, 82)), (1, (0, lw)), (2, (0, n118)), (3, (0, ki + 1))]) (List.forall_mem_cons.mpr ⟨List.mem_cons_of_mem _ (List.mem_cons_of_mem _ (List.mem_cons_of_mem _ (List.mem_cons_self))), List.forall_mem_cons.mpr ⟨List.mem_cons_of_mem _ (List.mem_cons_of_mem _ (List.mem_cons_self)), List.forall_mem_cons.mpr ⟨List.mem_cons_of_mem _ (List.mem_cons_self), List.forall_mem_cons.mpr ⟨List.mem_cons_self, fun _ h => absurd h List.not_mem_nil⟩⟩⟩⟩)) ?_
              have hk120 : ∀ k, k < 36 → rwv w114 103 k = ag (agP (rwv w 83)) (rwv w 83 10) k := fun k hk => (rwv_eq ((hF117.1 103 (by decide)).trans ((hF109.1 103 (by decide)).trans ((hF73.1 103 (by decide)).trans (hF61.1 103 (by decide)))))).trans (hag k hk)
              have hgk := hag ki (by omega)
              have hk121 : lw = ulo (ag (agP (rwv w 83)) (rwv w 83 10)) (rwv w 83 5) (rwv w 83 6) (ki + 1) := by
                rw [ulo_y ⟨by omega, by omega⟩, ← hlw, ← hgk]
                omega
              have hk122 : n118 = uhi (ag (agP (rwv w 83)) (rwv w 83 10)) (rwv w 83 5) (rwv w 83 6) (ki + 1) := by
                rw [uhi_y ⟨by omega, by omega⟩, ← hhg, ← hgk]
                omega
              exact ih45 lw n118 (ki + 1) w114 (by omega) (by omega) (by omega) (by omega) (hI116) (((((hF49.tr (hF61.up (by decide))).tr (hF73.up (by decide))).tr (hF109.up (by decide))).tr (hF117.up (by decide)))) (⟨hk120, hk121, hk122⟩)
            · refine xg_t (xg_icT (u := n110) (v := hg) rfl xnm0 xnm0 (xj_leT (by omega) (by omega))) ?_
              refine xg_t (xg_blk (b := [(72, 1, 2, 2, 0, 0)]) rfl) ?_
              refine xg_t (xg_iload (va := (0, hg)) rfl rfl) ?_
              refine xg_t (xg_blk (b := [(73, 1, 15, 2, 0, 0)]) rfl) ?_
              refine xg_t (xg_istore (l1 := [(1, (0, lw)), (0, (2, 82)), (3, (0, ki))]) rfl rfl rfl) ?_
              refine xg_t (xg_blk (b := [(74, 3, 9, 3, 1, 0), (77, 3, 8, 12, 0, 0)]) rfl) ?_
              refine xg_t (xg_iinc (u := ki) (z := ki + 1) (l1 := [(2, (0, hg)), (1, (0, lw)), (0, (2, 82))]) rfl rfl (by omega) rfl) ?_
              refine xg_t (xg_goto) ?_
              refine xg_t (xg_drop (l1 := [(0, (2, 82)), (1, (0, lw)), (2, (0, hg)), (3, (0, ki + 1))]) (List.forall_mem_cons.mpr ⟨List.mem_cons_of_mem _ (List.mem_cons_of_mem _ (List.mem_cons_of_mem _ (List.mem_cons_self))), List.forall_mem_cons.mpr ⟨List.mem_cons_of_mem _ (List.mem_cons_of_mem _ (List.mem_cons_self)), List.forall_mem_cons.mpr ⟨List.mem_cons_of_mem _ (List.mem_cons_self), List.forall_mem_cons.mpr ⟨List.mem_cons_self, fun _ h => absurd h List.not_mem_nil⟩⟩⟩⟩)) ?_
              have hk123 : ∀ k, k < 36 → rwv w106 103 k = ag (agP (rwv w 83)) (rwv w 83 10) k := fun k hk => (rwv_eq ((hF109.1 103 (by decide)).trans ((hF73.1 103 (by decide)).trans (hF61.1 103 (by decide))))).trans (hag k hk)
              have hgk := hag ki (by omega)
              have hk124 : lw = ulo (ag (agP (rwv w 83)) (rwv w 83 10)) (rwv w 83 5) (rwv w 83 6) (ki + 1) := by
                rw [ulo_y ⟨by omega, by omega⟩, ← hlw, ← hgk]
                omega
              have hk125 : hg = uhi (ag (agP (rwv w 83)) (rwv w 83 10)) (rwv w 83 5) (rwv w 83 6) (ki + 1) := by
                rw [uhi_y ⟨by omega, by omega⟩, ← hhg, ← hgk]
                omega
              exact ih45 lw hg (ki + 1) w106 (by omega) (by omega) (by omega) (by omega) (hI108) ((((hF49.tr (hF61.up (by decide))).tr (hF73.up (by decide))).tr (hF109.up (by decide)))) (⟨hk123, hk124, hk125⟩)
      · refine xg_t (xg_icT (u := ki) (v := 36) rfl xnm0 xnm0 (xj_geT (by omega) (by omega))) ?_
        refine xg_t (xg_blk (b := [(80, 1, 2, 2, 0, 0), (81, 1, 2, 1, 0, 0), (82, 1, 18, 0, 0, 0), (83, 1, 12, 0, 1, 0)]) rfl) ?_
        refine xg_t (xg_iload (va := (0, hg)) rfl rfl) ?_
        refine xg_t (xg_iload (va := (0, lw)) rfl rfl) ?_
        refine xg_t (xg_isub (u := hg) (v := lw) (z := (hg + (4294967296 - lw)) % 4294967296) xnm0 xnm0 (rfl)) ?_
        exact xg_e ⟨(hg + (4294967296 - lw)) % 4294967296, w47, ⟨rfl, rfl⟩, (by have e : ki = 36 := (by omega); have q1 := hlw; have q2 := hhg; rw [e] at q1 q2; rw [← q1, ← q2]), hI48, hF49⟩
  exact key44 _ 1000 0 0 w39 (Nat.lt_succ_self _) (by omega) (by omega) (by omega) (hI41) ((hF42.up (by decide))) (⟨hag, rfl, rfl⟩)
end XAQ
end
section
section YLP
variable {A A' : Nat → Nat} {r c C s n m t j R K v v' be br be' br' : Nat}
end YLP
/-- the ages as kept are those by the pictures; what pictures can be -/
def agQ (w : List (List xE)) : Prop := ∀ p, p < fld w 16 3 → (∀ t, t < 4 → rwv w 17 (5 * p + t) ≤ 5) ∧ rwv w 17 (5 * p + 4) ≤ 8991
def agV (w : List (List xE)) : Prop := fld w 68 4 = 1 → ∀ k, k < 36 → rwv w 69 k = ag (rwv w 17) (fld w 16 3) k
section YAG
variable {w w' : List (List xE)} {S : List Nat}
theorem agQ.fr (h : agQ w) (hf : xFr S w w') (hs : 16 ∉ S ∧ 17 ∉ S) : agQ w' := by
  intro p hp
  rw [fld_fr hf hs.1] at hp
  rw [rwf_eq (hf.1 17 hs.2)]
  exact h p hp
theorem agV.k (h : agV w) (h16 : wget w' 16 = wget w 16) (h17 : wget w' 17 = wget w 17) (h69 : wget w' 69 = wget w 69) (h68 : fld w' 68 4 = fld w 68 4) : agV w' := by
  intro h1 k hk
  rw [rwv_eq h69, rwf_eq h17, fld_eq h16]
  exact h (h68.symm.trans h1) k hk
theorem agV.fr (h : agV w) (hf : xFr S w w') (hs : (16 ∉ S ∧ 17 ∉ S) ∧ 68 ∉ S ∧ 69 ∉ S) : agV w' := h.k (hf.1 16 hs.1.1) (hf.1 17 hs.1.2) (hf.1 69 hs.2.2) (fld_fr hf hs.2.1)
theorem agV.fr4 (h : agV w) (hf : xFr S w w') (hs : (16 ∉ S ∧ 17 ∉ S) ∧ 69 ∉ S) (h4 : fld w' 68 4 = fld w 68 4) : agV w' := h.k (hf.1 16 hs.1.1) (hf.1 17 hs.1.2) (hf.1 69 hs.2) h4
theorem agV.of0 (h : fld w' 68 4 = 0) : agV w' := fun z => by omega
theorem agV.of (hf : xFr S w w') (hs : 16 ∉ S ∧ 17 ∉ S) (h : ∀ k, k < 36 → rwv w' 69 k = ag (rwv w 17) (fld w 16 3) k) : agV w' := fun _ k hk => by
  rw [h k hk, rwf_eq (hf.1 17 hs.2), fld_fr hf hs.1]
end YAG
end
