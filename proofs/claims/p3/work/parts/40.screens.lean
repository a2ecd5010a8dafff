/-! the screens: calls, part one -/
section XSC
variable {d : Nat} {w : List (List xE)} {bd : List (Nat × Nat)} {fc : List (Nat × Nat × Bool)} {rr : Nat × Nat}
theorem isRound_ok {ro : Nat} (h : ro ≤ 4294967295) : xPr (d + 1) mX11_isRound [(0, ro)] w bd fc rr [(0, if 1 ≤ ro ∧ ro ≤ 9999 then 1 else 0)] w := by
  refine xPr.of ?_
  show xTo (d + 1) mX11_isRound (0, [], [(0, (0, ro))], [], (w, bd, fc, 0, 0, rr)) (xEnd 4 [(0, if 1 ≤ ro ∧ ro ≤ 9999 then 1 else 0)] (w, bd, fc, 0, 0, rr))
  refine xg_t (xg_blq rfl) ?_
  refine xg_t (xg_iload (va := (0, ro)) rfl rfl) ?_
  refine xg_t (xg_const) ?_
  refine xg_t (xg_sip) ?_
  refine xg_t (xg_cSr mX11_isIn (vs := [(0, ro), (0, 1), (0, 9999)]) (rest := []) (rs := [(0, if 1 ≤ ro ∧ ro ≤ 9999 then 1 else 0)]) (cn1 := 0) (sl1 := 0) rfl (isIn_ok (by omega) (by omega) (by omega)) rfl rfl rfl rfl rfl rfl rfl rfl) ?_
  exact xg_e ⟨xret_b (by split <;> omega), rfl⟩
theorem scHasPoint {ro co : Nat} (hI : xInv w) (hro : ro ≤ 4294967295) (hco : co ≤ 4294967295) : xPi (d + 1) mX11_hasPoint [(2, 0), (0, ro), (0, co)] w bd fc rr (fun n w' => (n ≤ 1 ∧ (n = 0 ∨ (ro ≤ 5 ∧ co ≤ 5))) ∧ xInv w' ∧ xFr [] w w') := by
  refine xPi.of ?_
  show xTo (d + 1) mX11_hasPoint (0, [], [(0, (2, 0)), (1, (0, ro)), (2, (0, co))], [], (w, bd, fc, 0, 0, rr)) (fun φ => ∃ n w', xEnd 4 [(0, n)] (w', bd, fc, 0, 0, rr) φ ∧ (n ≤ 1 ∧ (n = 0 ∨ (ro ≤ 5 ∧ co ≤ 5))) ∧ xInv w' ∧ xFr [] w w')
  have h0_1 := (xqc0 hI : cp0 (wget w 0))
  refine xoC1 (xqc1 hI : cp1 (wget w 1)) (fun f1_2 f1_4 f1_6 f1_8 f1_10 f1_12 h1_14 hb3 hb5 hb7 hb9 hb11 hb13 => ?_)
  refine xoC3 (xqc3 hI : cp3 (wget w 3)) (fun f3_15 f3_17 f3_19 f3_21 f3_23 h3_25 hb16 hb18 hb20 hb22 hb24 => ?_)
  refine xg_t (xg_blq rfl) ?_
  refine xg_t (xg_iload (va := (0, ro)) rfl rfl) ?_
  by_cases hc26 : ro < 2147483648
  · refine xg_t (xg_ifF (u := ro) rfl xnm0 (xjz_ltF hc26)) ?_
    refine xg_t (xg_iload (va := (0, ro)) rfl rfl) ?_
    refine xg_t (xg_aload (va := (2, 0)) rfl rfl) ?_
    refine xg_t (xg_getf (va := (2, 1)) h0_1 rfl) ?_
    refine xg_t (xg_getf (va := (2, 3)) h1_14 rfl) ?_
    refine xg_t (xg_getf (va := (0, f3_19)) h3_25 rfl) ?_
    by_cases hc27 : ro < f3_19
    · refine xg_t (xg_icF (u := ro) (v := f3_19) rfl xnm0 xnm0 (xj_geF hc27 (by omega))) ?_
      refine xg_t (xg_iload (va := (0, co)) rfl rfl) ?_
      by_cases hc28 : co < 2147483648
      · refine xg_t (xg_ifF (u := co) rfl xnm0 (xjz_ltF hc28)) ?_
        refine xg_t (xg_iload (va := (0, co)) rfl rfl) ?_
        refine xg_t (xg_aload (va := (2, 0)) rfl rfl) ?_
        refine xg_t (xg_getf (va := (2, 1)) h0_1 rfl) ?_
        refine xg_t (xg_getf (va := (2, 3)) h1_14 rfl) ?_
        refine xg_t (xg_getf (va := (0, f3_21)) h3_25 rfl) ?_
        by_cases hc29 : co < f3_21
        · refine xg_t (xg_icF (u := co) (v := f3_21) rfl xnm0 xnm0 (xj_geF hc29 (by omega))) ?_
          refine xg_t (xg_const) ?_
          refine xg_t (xg_goto) ?_
          refine xg_t (xg_blq rfl) ?_
          exact xg_e ⟨1, w, ⟨rfl, rfl⟩, by first | decide | omega, hI, xFr.rf⟩
        · refine xg_t (xg_icT (u := co) (v := f3_21) rfl xnm0 xnm0 (xj_geT (by omega) (by omega))) ?_
          refine xg_t (xg_blq rfl) ?_
          refine xg_t (xg_const) ?_
          refine xg_t (xg_blq rfl) ?_
          exact xg_e ⟨0, w, ⟨rfl, rfl⟩, by first | decide | omega, hI, xFr.rf⟩
      · refine xg_t (xg_ifT (u := co) rfl xnm0 (xjz_ltT (by omega) (by omega))) ?_
        refine xg_t (xg_blq rfl) ?_
        refine xg_t (xg_const) ?_
        refine xg_t (xg_blq rfl) ?_
        exact xg_e ⟨0, w, ⟨rfl, rfl⟩, by first | decide | omega, hI, xFr.rf⟩
    · refine xg_t (xg_icT (u := ro) (v := f3_19) rfl xnm0 xnm0 (xj_geT (by omega) (by omega))) ?_
      refine xg_t (xg_blq rfl) ?_
      refine xg_t (xg_const) ?_
      refine xg_t (xg_blq rfl) ?_
      exact xg_e ⟨0, w, ⟨rfl, rfl⟩, by first | decide | omega, hI, xFr.rf⟩
  · refine xg_t (xg_ifT (u := ro) rfl xnm0 (xjz_ltT (by omega) (by omega))) ?_
    refine xg_t (xg_blq rfl) ?_
    refine xg_t (xg_const) ?_
    refine xg_t (xg_blq rfl) ?_
    exact xg_e ⟨0, w, ⟨rfl, rfl⟩, by first | decide | omega, hI, xFr.rf⟩
theorem scHasPart {ra ro co : Nat} (hI : xInv w) (hra : ra ≤ 1) (hro : ro ≤ 4294967295) (hco : co ≤ 4294967295) : xPi (d + 2) mX11_hasPart [(2, 0), (0, ra), (0, ro), (0, co)] w bd fc rr (fun n w' => (n ≤ 1 ∧ (n = 0 ∨ (ro ≤ 5 ∧ co ≤ 5))) ∧ xInv w' ∧ xFr [] w w') := by
  refine xPi.of ?_
  show xTo (d + 2) mX11_hasPart (0, [], [(0, (2, 0)), (1, (0, ra)), (2, (0, ro)), (3, (0, co))], [], (w, bd, fc, 0, 0, rr)) (fun φ => ∃ n w', xEnd 4 [(0, n)] (w', bd, fc, 0, 0, rr) φ ∧ (n ≤ 1 ∧ (n = 0 ∨ (ro ≤ 5 ∧ co ≤ 5))) ∧ xInv w' ∧ xFr [] w w')
  have h0_1 := (xqc0 hI : cp0 (wget w 0))
  refine xoC1 (xqc1 hI : cp1 (wget w 1)) (fun f1_2 f1_4 f1_6 f1_8 f1_10 f1_12 h1_14 hb3 hb5 hb7 hb9 hb11 hb13 => ?_)
  refine xoC3 (xqc3 hI : cp3 (wget w 3)) (fun f3_15 f3_17 f3_19 f3_21 f3_23 h3_25 hb16 hb18 hb20 hb22 hb24 => ?_)
  refine xg_t (xg_blq rfl) ?_
  refine xg_t (xg_iload (va := (0, ra)) rfl rfl) ?_
  by_cases hc26 : ra = 0
  · refine xg_t (xg_ifT (u := ra) rfl xnm0 (xj_eqT hc26)) ?_
    refine xg_t (xg_blq rfl) ?_
    refine xg_t (xg_aload (va := (2, 0)) rfl rfl) ?_
    refine xg_t (xg_iload (va := (0, ro)) rfl rfl) ?_
    refine xg_t (xg_iload (va := (0, co)) rfl rfl) ?_
    refine xg_cVi mX11_hasPoint (vs := [(0, ro), (0, co)]) (rest := []) (cn1 := 0) (sl1 := 0) rfl (scHasPoint (hI) (by omega) (by omega)) rfl h0_1 rfl rfl rfl rfl rfl rfl (fun n31 w27 hq28 => ?_)
    obtain ⟨hn32, hI29, hF30⟩ := hq28
    by_cases hc33 : n31 = 0
    · refine xg_t (xg_ifT (u := n31) rfl xnm0 (xj_eqT hc33)) ?_
      refine xg_t (xg_blq rfl) ?_
      refine xg_t (xg_const) ?_
      refine xg_t (xg_blq rfl) ?_
      exact xg_e ⟨0, w27, ⟨rfl, rfl⟩, by first | decide | omega, hI29, (hF30.up (by decide))⟩
    · refine xg_t (xg_ifF (u := n31) rfl xnm0 (xj_eqF hc33)) ?_
      refine xg_t (xg_iload (va := (0, co)) rfl rfl) ?_
      refine xg_t (xg_const) ?_
      refine xg_t (xg_iadd (u := co) (v := 1) (z := co + 1) xnm0 xnm0 (by omega)) ?_
      refine xg_t (xg_aload (va := (2, 0)) rfl rfl) ?_
      refine xg_t (xg_getf (va := (2, 1)) (hF30.get (by decide) h0_1) rfl) ?_
      refine xg_t (xg_getf (va := (2, 3)) (hF30.get (by decide) h1_14) rfl) ?_
      refine xg_t (xg_getf (va := (0, f3_21)) (hF30.get (by decide) h3_25) rfl) ?_
      by_cases hc34 : (co + 1) < f3_21
      · refine xg_t (xg_icF (u := co + 1) (v := f3_21) rfl xnm0 xnm0 (xj_geF hc34 (by omega))) ?_
        refine xg_t (xg_const) ?_
        refine xg_t (xg_goto) ?_
        refine xg_t (xg_blq rfl) ?_
        exact xg_e ⟨1, w27, ⟨rfl, rfl⟩, by first | decide | omega, hI29, (hF30.up (by decide))⟩
      · refine xg_t (xg_icT (u := co + 1) (v := f3_21) rfl xnm0 xnm0 (xj_geT (by omega) (by omega))) ?_
        refine xg_t (xg_blq rfl) ?_
        refine xg_t (xg_const) ?_
        refine xg_t (xg_blq rfl) ?_
        exact xg_e ⟨0, w27, ⟨rfl, rfl⟩, by first | decide | omega, hI29, (hF30.up (by decide))⟩
  · refine xg_t (xg_ifF (u := ra) rfl xnm0 (xj_eqF hc26)) ?_
    refine xg_t (xg_aload (va := (2, 0)) rfl rfl) ?_
    refine xg_t (xg_iload (va := (0, ro)) rfl rfl) ?_
    refine xg_t (xg_iload (va := (0, co)) rfl rfl) ?_
    refine xg_cVi mX11_hasPoint (vs := [(0, ro), (0, co)]) (rest := []) (cn1 := 0) (sl1 := 0) rfl (scHasPoint (hI) (by omega) (by omega)) rfl h0_1 rfl rfl rfl rfl rfl rfl (fun n39 w35 hq36 => ?_)
    obtain ⟨hn40, hI37, hF38⟩ := hq36
    by_cases hc41 : n39 = 0
    · refine xg_t (xg_ifT (u := n39) rfl xnm0 (xj_eqT hc41)) ?_
      refine xg_t (xg_blq rfl) ?_
      refine xg_t (xg_const) ?_
      refine xg_t (xg_goto) ?_
      refine xg_t (xg_blq rfl) ?_
      exact xg_e ⟨0, w35, ⟨rfl, rfl⟩, by first | decide | omega, hI37, (hF38.up (by decide))⟩
    · refine xg_t (xg_ifF (u := n39) rfl xnm0 (xj_eqF hc41)) ?_
      refine xg_t (xg_iload (va := (0, ro)) rfl rfl) ?_
      refine xg_t (xg_const) ?_
      refine xg_t (xg_iadd (u := ro) (v := 1) (z := ro + 1) xnm0 xnm0 (by omega)) ?_
      refine xg_t (xg_aload (va := (2, 0)) rfl rfl) ?_
      refine xg_t (xg_getf (va := (2, 1)) (hF38.get (by decide) h0_1) rfl) ?_
      refine xg_t (xg_getf (va := (2, 3)) (hF38.get (by decide) h1_14) rfl) ?_
      refine xg_t (xg_getf (va := (0, f3_19)) (hF38.get (by decide) h3_25) rfl) ?_
      by_cases hc42 : (ro + 1) < f3_19
      · refine xg_t (xg_icF (u := ro + 1) (v := f3_19) rfl xnm0 xnm0 (xj_geF hc42 (by omega))) ?_
        refine xg_t (xg_const) ?_
        refine xg_t (xg_goto) ?_
        refine xg_t (xg_blq rfl) ?_
        exact xg_e ⟨1, w35, ⟨rfl, rfl⟩, by first | decide | omega, hI37, (hF38.up (by decide))⟩
      · refine xg_t (xg_icT (u := ro + 1) (v := f3_19) rfl xnm0 xnm0 (xj_geT (by omega) (by omega))) ?_
        refine xg_t (xg_blq rfl) ?_
        refine xg_t (xg_const) ?_
        refine xg_t (xg_goto) ?_
        refine xg_t (xg_blq rfl) ?_
        exact xg_e ⟨0, w35, ⟨rfl, rfl⟩, by first | decide | omega, hI37, (hF38.up (by decide))⟩
theorem scFault {wh : Nat} (hI : xInv w) (hwh : wh ≤ 4294967295) : xPi (d + 1) mX11_fault [(2, 0), (0, wh)] w bd fc rr (fun n w' => (n ≤ 4294967295) ∧ xInv w' ∧ xFr [] w w') := by
  refine xPi.of ?_
  show xTo (d + 1) mX11_fault (0, [], [(0, (2, 0)), (1, (0, wh))], [], (w, bd, fc, 0, 0, rr)) (fun φ => ∃ n w', xEnd 1 [(0, n)] (w', bd, fc, 0, 0, rr) φ ∧ (n ≤ 4294967295) ∧ xInv w' ∧ xFr [] w w')
  refine xg_t (xg_blq rfl) ?_
  refine xg_t (xg_iload (va := (0, wh)) rfl rfl) ?_
  by_cases hc1 : wh = 0
  · refine xg_t (xg_swt (ks := [(0, 28), (1, 36)]) (u := wh) (z := 28) rfl rfl rfl xnm0 (xsw_y hc1)) ?_
    refine xg_t (xg_blq rfl) ?_
    refine xg_t (xg_aload (va := (2, 0)) rfl rfl) ?_
    have h0_2 := (xqc0 hI : cp0 (wget w 0))
    refine xg_t (xg_getf (va := (2, 1)) h0_2 rfl) ?_
    refine xoC1 (xqc1 hI : cp1 (wget w 1)) (fun f1_3 f1_5 f1_7 f1_9 f1_11 f1_13 h1_15 hb4 hb6 hb8 hb10 hb12 hb14 => ?_)
    refine xg_t (xg_getf (va := (0, f1_5)) h1_15 rfl) ?_
    exact xg_e ⟨f1_5, w, ⟨rfl, rfl⟩, by omega, hI, xFr.rf⟩
  · by_cases hc16 : wh = 1
    · refine xg_t (xg_swt (ks := [(0, 28), (1, 36)]) (u := wh) (z := 36) rfl rfl rfl xnm0 (xsw_n hc1 (xsw_y hc16))) ?_
      refine xg_t (xg_blq rfl) ?_
      refine xg_t (xg_aload (va := (2, 0)) rfl rfl) ?_
      have h0_17 := (xqc0 hI : cp0 (wget w 0))
      refine xg_t (xg_getf (va := (2, 1)) h0_17 rfl) ?_
      refine xoC1 (xqc1 hI : cp1 (wget w 1)) (fun f1_18 f1_20 f1_22 f1_24 f1_26 f1_28 h1_30 hb19 hb21 hb23 hb25 hb27 hb29 => ?_)
      refine xg_t (xg_getf (va := (0, f1_22)) h1_30 rfl) ?_
      exact xg_e ⟨f1_22, w, ⟨rfl, rfl⟩, by omega, hI, xFr.rf⟩
    · refine xg_t (xg_swt (ks := [(0, 28), (1, 36)]) (u := wh) (z := 44) rfl rfl rfl xnm0 (xsw_n hc1 (xsw_n hc16 (xsw_d)))) ?_
      refine xg_t (xg_blq rfl) ?_
      refine xg_t (xg_const) ?_
      exact xg_e ⟨4294967295, w, ⟨rfl, rfl⟩, by first | decide | omega, hI, xFr.rf⟩
theorem scLayer {la wh : Nat} (hI : xInv w) (hla : la ≤ 4294967295) (hwh : wh ≤ 4294967295) : xPi (d + 4) mX11_layer [(2, 0), (0, la), (0, wh)] w bd fc rr (fun n w' => (n ≤ 4294967295) ∧ xInv w' ∧ xFr [50, 51, 52, 53, 54, 55] w w') := by
  refine xPi.of ?_
  show xTo (d + 4) mX11_layer (0, [], [(0, (2, 0)), (1, (0, la)), (2, (0, wh))], [], (w, bd, fc, 0, 0, rr)) (fun φ => ∃ n w', xEnd 1 [(0, n)] (w', bd, fc, 0, 0, rr) φ ∧ (n ≤ 4294967295) ∧ xInv w' ∧ xFr [50, 51, 52, 53, 54, 55] w w')
  have h0_1 := (xqc0 hI : cp0 (wget w 0))
  refine xoC1 (xqc1 hI : cp1 (wget w 1)) (fun f1_2 f1_4 f1_6 f1_8 f1_10 f1_12 h1_14 hb3 hb5 hb7 hb9 hb11 hb13 => ?_)
  refine xoC3 (xqc3 hI : cp3 (wget w 3)) (fun f3_15 f3_17 f3_19 f3_21 f3_23 h3_25 hb16 hb18 hb20 hb22 hb24 => ?_)
  obtain ⟨f4_26, h4_28, hb27⟩ := (xqc4 hI : cp4 (wget w 4))
  refine xoI (xqc5 hI : cpI 24 1 4294967295 (wget w 5)) (fun g5_29 h5_30 hb31 => ?_)
  refine xg_t (xg_blq rfl) ?_
  refine xg_t (xg_aload (va := (2, 0)) rfl rfl) ?_
  refine xg_t (xg_getf (va := (2, 1)) h0_1 rfl) ?_
  refine xg_t (xg_getf (va := (2, 3)) h1_14 rfl) ?_
  refine xg_t (xg_getf (va := (2, 4)) h3_25 rfl) ?_
  refine xg_t (xg_iload (va := (0, la)) rfl rfl) ?_
  refine xg_t (xg_cVr mX5_has (vs := [(0, la)]) (rest := []) (rs := [(0, if la < f4_26 then 1 else 0)]) (cn1 := 0) (sl1 := 0) rfl (rhas_ok h4_28 (by decide) (by omega) (by omega)) rfl h4_28 rfl rfl rfl rfl rfl rfl rfl) ?_
  by_cases hc32 : la < f4_26
  · refine xg_t (xg_ifT (u := (if la < f4_26 then 1 else 0)) rfl xnm0 (xj_neT (xite1 hc32))) ?_
    refine xg_t (xg_blq rfl) ?_
    refine xg_t (xg_aload (va := (2, 0)) rfl rfl) ?_
    refine xg_t (xg_getf (va := (2, 49)) h0_1 rfl) ?_
    refine xoC49 (xqc49 hI : cp49 (wget w 49)) (fun f49_33 f49_35 h49_37 hb34 hb36 => ?_)
    refine xg_cVv mX0_layAsTold (vs := []) (rest := []) (cn1 := 0) (sl1 := 0) rfl (bdLayAsTold (hI)) rfl h49_37 rfl rfl rfl rfl rfl rfl (fun w38 hq39 => ?_)
    obtain ⟨hI40, hF41⟩ := hq39
    refine xg_t (xg_iload (va := (0, wh)) rfl rfl) ?_
    by_cases hc42 : wh = 4
    · refine xg_t (xg_swt (ks := [(4, 52), (5, 62)]) (u := wh) (z := 52) rfl rfl rfl xnm0 (xsw_y hc42)) ?_
      refine xg_t (xg_blq rfl) ?_
      refine xg_t (xg_aload (va := (2, 0)) rfl rfl) ?_
      refine xg_t (xg_getf (va := (2, 49)) (hF41.get (by decide) h0_1) rfl) ?_
      refine xg_t (xg_getf (va := (2, 51)) (hF41.get (by decide) h49_37) rfl) ?_
      refine xg_t (xg_iload (va := (0, la)) rfl rfl) ?_
      refine xoI (xqc51 hI40 : cpI 6 24 4294967295 (wget w38 51)) (fun g51_43 h51_44 hb45 => ?_)
      refine xg_ialdB (n := la) (B := 4294967295) h51_44 (hb45) xnm0 (by omega) (fun u46 hu47 he48 => ?_)
      exact xg_e ⟨u46, w38, ⟨rfl, rfl⟩, by omega, hI40, (hF41.up (by decide))⟩
    · by_cases hc49 : wh = 5
      · refine xg_t (xg_swt (ks := [(4, 52), (5, 62)]) (u := wh) (z := 62) rfl rfl rfl xnm0 (xsw_n hc42 (xsw_y hc49))) ?_
        refine xg_t (xg_blq rfl) ?_
        refine xg_t (xg_aload (va := (2, 0)) rfl rfl) ?_
        refine xg_t (xg_getf (va := (2, 49)) (hF41.get (by decide) h0_1) rfl) ?_
        refine xg_t (xg_getf (va := (2, 52)) (hF41.get (by decide) h49_37) rfl) ?_
        refine xg_t (xg_iload (va := (0, la)) rfl rfl) ?_
        refine xoI (xqc52 hI40 : cpI 6 25 5 (wget w38 52)) (fun g52_50 h52_51 hb52 => ?_)
        refine xg_ialdB (n := la) (B := 5) h52_51 (hb52) xnm0 (by omega) (fun u53 hu54 he55 => ?_)
        exact xg_e ⟨u53, w38, ⟨rfl, rfl⟩, by omega, hI40, (hF41.up (by decide))⟩
      · refine xg_t (xg_swt (ks := [(4, 52), (5, 62)]) (u := wh) (z := 72) rfl rfl rfl xnm0 (xsw_n hc42 (xsw_n hc49 (xsw_d)))) ?_
        refine xg_t (xg_blq rfl) ?_
        refine xg_t (xg_aload (va := (2, 0)) rfl rfl) ?_
        refine xg_t (xg_getf (va := (2, 1)) (hF41.get (by decide) h0_1) rfl) ?_
        refine xg_t (xg_getf (va := (2, 3)) (hF41.get (by decide) h1_14) rfl) ?_
        refine xg_t (xg_getf (va := (2, 4)) (hF41.get (by decide) h3_25) rfl) ?_
        refine xg_t (xg_iload (va := (0, la)) rfl rfl) ?_
        refine xg_t (xg_iload (va := (0, wh)) rfl rfl) ?_
        refine xg_k (xg_cVr mX5_get (vs := [(0, la), (0, wh)]) (rest := []) (rs := [(0, if la < f4_26 ∧ wh < 4 then g5_29 (la * 4 + wh) else 4294967295)]) (cn1 := 0) (sl1 := 0) rfl (rget_ok (lim := 6) (wd := 4) (sz := f4_26) (hF41.get (by decide) h4_28) (h5_30.fr hF41 (by decide)) (by decide) (by omega) (by decide) (by decide) (by omega) (by omega)) rfl (hF41.get (by decide) h4_28) rfl rfl rfl rfl rfl rfl rfl) (xiteb (hb31)) (fun z56 hz57 => ?_)
        exact xg_e ⟨z56, w38, ⟨rfl, rfl⟩, by omega, hI40, (hF41.up (by decide))⟩
  · refine xg_t (xg_ifF (u := (if la < f4_26 then 1 else 0)) rfl xnm0 (xj_neF (xite0 hc32))) ?_
    refine xg_t (xg_const) ?_
    exact xg_e ⟨4294967295, w, ⟨rfl, rfl⟩, by first | decide | omega, hI, xFr.rf⟩
theorem scNeutral {la : Nat} (hI : xInv w) (hla : la ≤ 4294967295) : xPi (d + 4) mX11_neutral [(2, 0), (0, la)] w bd fc rr (fun n w' => (n ≤ 4294967295) ∧ xInv w' ∧ xFr [50, 51, 52, 53, 54, 55] w w') := by
  refine xPi.of ?_
  show xTo (d + 4) mX11_neutral (0, [], [(0, (2, 0)), (1, (0, la))], [], (w, bd, fc, 0, 0, rr)) (fun φ => ∃ n w', xEnd 1 [(0, n)] (w', bd, fc, 0, 0, rr) φ ∧ (n ≤ 4294967295) ∧ xInv w' ∧ xFr [50, 51, 52, 53, 54, 55] w w')
  have h0_1 := (xqc0 hI : cp0 (wget w 0))
  refine xoC1 (xqc1 hI : cp1 (wget w 1)) (fun f1_2 f1_4 f1_6 f1_8 f1_10 f1_12 h1_14 hb3 hb5 hb7 hb9 hb11 hb13 => ?_)
  refine xoC3 (xqc3 hI : cp3 (wget w 3)) (fun f3_15 f3_17 f3_19 f3_21 f3_23 h3_25 hb16 hb18 hb20 hb22 hb24 => ?_)
  obtain ⟨f4_26, h4_28, hb27⟩ := (xqc4 hI : cp4 (wget w 4))
  refine xoI (xqc5 hI : cpI 24 1 4294967295 (wget w 5)) (fun g5_29 h5_30 hb31 => ?_)
  refine xg_t (xg_blq rfl) ?_
  refine xg_t (xg_aload (va := (2, 0)) rfl rfl) ?_
  refine xg_t (xg_getf (va := (2, 1)) h0_1 rfl) ?_
  refine xg_t (xg_getf (va := (2, 3)) h1_14 rfl) ?_
  refine xg_t (xg_getf (va := (2, 4)) h3_25 rfl) ?_
  refine xg_t (xg_iload (va := (0, la)) rfl rfl) ?_
  refine xg_t (xg_cVr mX5_has (vs := [(0, la)]) (rest := []) (rs := [(0, if la < f4_26 then 1 else 0)]) (cn1 := 0) (sl1 := 0) rfl (rhas_ok h4_28 (by decide) (by omega) (by omega)) rfl h4_28 rfl rfl rfl rfl rfl rfl rfl) ?_
  by_cases hc32 : la < f4_26
  · refine xg_t (xg_ifT (u := (if la < f4_26 then 1 else 0)) rfl xnm0 (xj_neT (xite1 hc32))) ?_
    refine xg_t (xg_blq rfl) ?_
    refine xg_t (xg_aload (va := (2, 0)) rfl rfl) ?_
    refine xg_t (xg_getf (va := (2, 49)) h0_1 rfl) ?_
    refine xoC49 (xqc49 hI : cp49 (wget w 49)) (fun f49_33 f49_35 h49_37 hb34 hb36 => ?_)
    refine xg_cVv mX0_layAsTold (vs := []) (rest := []) (cn1 := 0) (sl1 := 0) rfl (bdLayAsTold (hI)) rfl h49_37 rfl rfl rfl rfl rfl rfl (fun w38 hq39 => ?_)
    obtain ⟨hI40, hF41⟩ := hq39
    refine xg_t (xg_aload (va := (2, 0)) rfl rfl) ?_
    refine xg_t (xg_getf (va := (2, 49)) (hF41.get (by decide) h0_1) rfl) ?_
    refine xg_t (xg_iload (va := (0, la)) rfl rfl) ?_
    refine xg_cVi mX0_neutralThousandths (vs := [(0, la)]) (rest := []) (cn1 := 0) (sl1 := 0) rfl (bdNeutral (hI40) (by omega)) rfl (hF41.get (by decide) h49_37) rfl rfl rfl rfl rfl rfl (fun n46 w42 hq43 => ?_)
    obtain ⟨hn47, hI44, hF45⟩ := hq43
    exact xg_e ⟨n46, w42, ⟨rfl, rfl⟩, by omega, hI44, ((hF41.up (by decide)).tr (hF45.up (by decide)))⟩
  · refine xg_t (xg_ifF (u := (if la < f4_26 then 1 else 0)) rfl xnm0 (xj_neF (xite0 hc32))) ?_
    refine xg_t (xg_const) ?_
    exact xg_e ⟨4294967295, w, ⟨rfl, rfl⟩, by first | decide | omega, hI, xFr.rf⟩
theorem scStretch {la ro : Nat} (hI : xInv w) (hla : la ≤ 4294967295) (hro : ro ≤ 4294967295) : xPi (d + 4) mX11_stretch [(2, 0), (0, la), (0, ro)] w bd fc rr (fun n w' => (n ≤ 4294967295) ∧ xInv w' ∧ xFr [50, 51, 52, 53, 54, 55] w w') := by
  refine xPi.of ?_
  show xTo (d + 4) mX11_stretch (0, [], [(0, (2, 0)), (1, (0, la)), (2, (0, ro))], [], (w, bd, fc, 0, 0, rr)) (fun φ => ∃ n w', xEnd 1 [(0, n)] (w', bd, fc, 0, 0, rr) φ ∧ (n ≤ 4294967295) ∧ xInv w' ∧ xFr [50, 51, 52, 53, 54, 55] w w')
  have h0_1 := (xqc0 hI : cp0 (wget w 0))
  refine xoC1 (xqc1 hI : cp1 (wget w 1)) (fun f1_2 f1_4 f1_6 f1_8 f1_10 f1_12 h1_14 hb3 hb5 hb7 hb9 hb11 hb13 => ?_)
  refine xoC3 (xqc3 hI : cp3 (wget w 3)) (fun f3_15 f3_17 f3_19 f3_21 f3_23 h3_25 hb16 hb18 hb20 hb22 hb24 => ?_)
  obtain ⟨f4_26, h4_28, hb27⟩ := (xqc4 hI : cp4 (wget w 4))
  refine xoI (xqc5 hI : cpI 24 1 4294967295 (wget w 5)) (fun g5_29 h5_30 hb31 => ?_)
  refine xg_t (xg_blq rfl) ?_
  refine xg_t (xg_aload (va := (2, 0)) rfl rfl) ?_
  refine xg_t (xg_getf (va := (2, 1)) h0_1 rfl) ?_
  refine xg_t (xg_getf (va := (2, 3)) h1_14 rfl) ?_
  refine xg_t (xg_getf (va := (2, 4)) h3_25 rfl) ?_
  refine xg_t (xg_iload (va := (0, la)) rfl rfl) ?_
  refine xg_t (xg_cVr mX5_has (vs := [(0, la)]) (rest := []) (rs := [(0, if la < f4_26 then 1 else 0)]) (cn1 := 0) (sl1 := 0) rfl (rhas_ok h4_28 (by decide) (by omega) (by omega)) rfl h4_28 rfl rfl rfl rfl rfl rfl rfl) ?_
  by_cases hc32 : la < f4_26
  · refine xg_t (xg_ifF (u := (if la < f4_26 then 1 else 0)) rfl xnm0 (xj_eqF (xite1 hc32))) ?_
    refine xg_t (xg_iload (va := (0, ro)) rfl rfl) ?_
    refine xg_t (xg_cSr mX11_isRound (vs := [(0, ro)]) (rest := []) (rs := [(0, if 1 ≤ ro ∧ ro ≤ 9999 then 1 else 0)]) (cn1 := 0) (sl1 := 0) rfl (isRound_ok (by omega)) rfl rfl rfl rfl rfl rfl rfl rfl) ?_
    by_cases hc33 : 1 ≤ ro ∧ ro ≤ 9999
    · refine xg_t (xg_ifT (u := (if 1 ≤ ro ∧ ro ≤ 9999 then 1 else 0)) rfl xnm0 (xj_neT (xite1 hc33))) ?_
      refine xg_t (xg_blq rfl) ?_
      refine xg_t (xg_aload (va := (2, 0)) rfl rfl) ?_
      refine xg_t (xg_getf (va := (2, 49)) h0_1 rfl) ?_
      refine xoC49 (xqc49 hI : cp49 (wget w 49)) (fun f49_34 f49_36 h49_38 hb35 hb37 => ?_)
      refine xg_cVv mX0_layAsTold (vs := []) (rest := []) (cn1 := 0) (sl1 := 0) rfl (bdLayAsTold (hI)) rfl h49_38 rfl rfl rfl rfl rfl rfl (fun w39 hq40 => ?_)
      obtain ⟨hI41, hF42⟩ := hq40
      refine xg_t (xg_aload (va := (2, 0)) rfl rfl) ?_
      refine xg_t (xg_getf (va := (2, 49)) (hF42.get (by decide) h0_1) rfl) ?_
      refine xg_t (xg_iload (va := (0, la)) rfl rfl) ?_
      refine xg_t (xg_iload (va := (0, ro)) rfl rfl) ?_
      refine xg_cVi mX0_stretchMillionths (vs := [(0, la), (0, ro)]) (rest := []) (cn1 := 0) (sl1 := 0) rfl (bdStretch (hI41) (by omega) (by omega)) rfl (hF42.get (by decide) h49_38) rfl rfl rfl rfl rfl rfl (fun n47 w43 hq44 => ?_)
      obtain ⟨hn48, hI45, hF46⟩ := hq44
      exact xg_e ⟨n47, w43, ⟨rfl, rfl⟩, by omega, hI45, ((hF42.up (by decide)).tr (hF46.up (by decide)))⟩
    · refine xg_t (xg_ifF (u := (if 1 ≤ ro ∧ ro ≤ 9999 then 1 else 0)) rfl xnm0 (xj_neF (xite0 hc33))) ?_
      refine xg_t (xg_blq rfl) ?_
      refine xg_t (xg_ldc) ?_
      exact xg_e ⟨2294967296, w, ⟨rfl, rfl⟩, by first | decide | omega, hI, xFr.rf⟩
  · refine xg_t (xg_ifT (u := (if la < f4_26 then 1 else 0)) rfl xnm0 (xj_eqT (xite0 hc32))) ?_
    refine xg_t (xg_blq rfl) ?_
    refine xg_t (xg_ldc) ?_
    exact xg_e ⟨2294967296, w, ⟨rfl, rfl⟩, by first | decide | omega, hI, xFr.rf⟩
theorem scBears {la ro : Nat} (hI : xInv w) (hla : la ≤ 4294967295) (hro : ro ≤ 4294967295) : xPi (d + 4) mX11_bears [(2, 0), (0, la), (0, ro)] w bd fc rr (fun n w' => (n ≤ 1) ∧ xInv w' ∧ xFr [50, 51, 52, 53, 54, 55] w w') := by
  refine xPi.of ?_
  show xTo (d + 4) mX11_bears (0, [], [(0, (2, 0)), (1, (0, la)), (2, (0, ro))], [], (w, bd, fc, 0, 0, rr)) (fun φ => ∃ n w', xEnd 4 [(0, n)] (w', bd, fc, 0, 0, rr) φ ∧ (n ≤ 1) ∧ xInv w' ∧ xFr [50, 51, 52, 53, 54, 55] w w')
  have h0_1 := (xqc0 hI : cp0 (wget w 0))
  refine xoC1 (xqc1 hI : cp1 (wget w 1)) (fun f1_2 f1_4 f1_6 f1_8 f1_10 f1_12 h1_14 hb3 hb5 hb7 hb9 hb11 hb13 => ?_)
  refine xoC3 (xqc3 hI : cp3 (wget w 3)) (fun f3_15 f3_17 f3_19 f3_21 f3_23 h3_25 hb16 hb18 hb20 hb22 hb24 => ?_)
  obtain ⟨f4_26, h4_28, hb27⟩ := (xqc4 hI : cp4 (wget w 4))
  refine xoI (xqc5 hI : cpI 24 1 4294967295 (wget w 5)) (fun g5_29 h5_30 hb31 => ?_)
  refine xg_t (xg_blq rfl) ?_
  refine xg_t (xg_aload (va := (2, 0)) rfl rfl) ?_
  refine xg_t (xg_getf (va := (2, 1)) h0_1 rfl) ?_
  refine xg_t (xg_getf (va := (2, 3)) h1_14 rfl) ?_
  refine xg_t (xg_getf (va := (2, 4)) h3_25 rfl) ?_
  refine xg_t (xg_iload (va := (0, la)) rfl rfl) ?_
  refine xg_t (xg_cVr mX5_has (vs := [(0, la)]) (rest := []) (rs := [(0, if la < f4_26 then 1 else 0)]) (cn1 := 0) (sl1 := 0) rfl (rhas_ok h4_28 (by decide) (by omega) (by omega)) rfl h4_28 rfl rfl rfl rfl rfl rfl rfl) ?_
  by_cases hc32 : la < f4_26
  · refine xg_t (xg_ifF (u := (if la < f4_26 then 1 else 0)) rfl xnm0 (xj_eqF (xite1 hc32))) ?_
    refine xg_t (xg_iload (va := (0, ro)) rfl rfl) ?_
    refine xg_t (xg_cSr mX11_isRound (vs := [(0, ro)]) (rest := []) (rs := [(0, if 1 ≤ ro ∧ ro ≤ 9999 then 1 else 0)]) (cn1 := 0) (sl1 := 0) rfl (isRound_ok (by omega)) rfl rfl rfl rfl rfl rfl rfl rfl) ?_
    by_cases hc33 : 1 ≤ ro ∧ ro ≤ 9999
    · refine xg_t (xg_ifT (u := (if 1 ≤ ro ∧ ro ≤ 9999 then 1 else 0)) rfl xnm0 (xj_neT (xite1 hc33))) ?_
      refine xg_t (xg_blq rfl) ?_
      refine xg_t (xg_aload (va := (2, 0)) rfl rfl) ?_
      refine xg_t (xg_getf (va := (2, 49)) h0_1 rfl) ?_
      refine xoC49 (xqc49 hI : cp49 (wget w 49)) (fun f49_34 f49_36 h49_38 hb35 hb37 => ?_)
      refine xg_cVv mX0_layAsTold (vs := []) (rest := []) (cn1 := 0) (sl1 := 0) rfl (bdLayAsTold (hI)) rfl h49_38 rfl rfl rfl rfl rfl rfl (fun w39 hq40 => ?_)
      obtain ⟨hI41, hF42⟩ := hq40
      refine xg_t (xg_aload (va := (2, 0)) rfl rfl) ?_
      refine xg_t (xg_getf (va := (2, 49)) (hF42.get (by decide) h0_1) rfl) ?_
      refine xg_t (xg_iload (va := (0, la)) rfl rfl) ?_
      refine xg_t (xg_iload (va := (0, ro)) rfl rfl) ?_
      refine xg_cVi mX0_canBear (vs := [(0, la), (0, ro)]) (rest := []) (cn1 := 0) (sl1 := 0) rfl (bdCanBear (hI41) (by omega) (by omega)) rfl (hF42.get (by decide) h49_38) rfl rfl rfl rfl rfl rfl (fun n47 w43 hq44 => ?_)
      obtain ⟨hn48, hI45, hF46⟩ := hq44
      exact xg_e ⟨n47, w43, ⟨xret_b (by omega), rfl⟩, by omega, hI45, ((hF42.up (by decide)).tr (hF46.up (by decide)))⟩
    · refine xg_t (xg_ifF (u := (if 1 ≤ ro ∧ ro ≤ 9999 then 1 else 0)) rfl xnm0 (xj_neF (xite0 hc33))) ?_
      refine xg_t (xg_blq rfl) ?_
      refine xg_t (xg_const) ?_
      exact xg_e ⟨0, w, ⟨rfl, rfl⟩, by first | decide | omega, hI, xFr.rf⟩
  · refine xg_t (xg_ifT (u := (if la < f4_26 then 1 else 0)) rfl xnm0 (xj_eqT (xite0 hc32))) ?_
    refine xg_t (xg_blq rfl) ?_
    refine xg_t (xg_const) ?_
    exact xg_e ⟨0, w, ⟨rfl, rfl⟩, by first | decide | omega, hI, xFr.rf⟩
theorem scLeast (hI : xInv w)  : xPi (d + 4) mX11_least [(2, 0)] w bd fc rr (fun n w' => (n ≤ 4294967295) ∧ xInv w' ∧ xFr [50, 51, 52, 53, 54, 55] w w') := by
  refine xPi.of ?_
  show xTo (d + 4) mX11_least (0, [], [(0, (2, 0))], [], (w, bd, fc, 0, 0, rr)) (fun φ => ∃ n w', xEnd 1 [(0, n)] (w', bd, fc, 0, 0, rr) φ ∧ (n ≤ 4294967295) ∧ xInv w' ∧ xFr [50, 51, 52, 53, 54, 55] w w')
  have h0_1 := (xqc0 hI : cp0 (wget w 0))
  refine xoC1 (xqc1 hI : cp1 (wget w 1)) (fun f1_2 f1_4 f1_6 f1_8 f1_10 f1_12 h1_14 hb3 hb5 hb7 hb9 hb11 hb13 => ?_)
  refine xoC3 (xqc3 hI : cp3 (wget w 3)) (fun f3_15 f3_17 f3_19 f3_21 f3_23 h3_25 hb16 hb18 hb20 hb22 hb24 => ?_)
  obtain ⟨f4_26, h4_28, hb27⟩ := (xqc4 hI : cp4 (wget w 4))
  refine xoI (xqc5 hI : cpI 24 1 4294967295 (wget w 5)) (fun g5_29 h5_30 hb31 => ?_)
  refine xg_t (xg_blq rfl) ?_
  refine xg_t (xg_aload (va := (2, 0)) rfl rfl) ?_
  refine xg_t (xg_getf (va := (2, 1)) h0_1 rfl) ?_
  refine xg_t (xg_getf (va := (2, 3)) h1_14 rfl) ?_
  refine xg_t (xg_getf (va := (2, 4)) h3_25 rfl) ?_
  refine xg_t (xg_getf (va := (0, f4_26)) h4_28 rfl) ?_
  by_cases hc32 : f4_26 = 0
  · refine xg_t (xg_ifF (u := f4_26) rfl xnm0 (xj_neF hc32)) ?_
    refine xg_t (xg_const) ?_
    exact xg_e ⟨4294967295, w, ⟨rfl, rfl⟩, by first | decide | omega, hI, xFr.rf⟩
  · refine xg_t (xg_ifT (u := f4_26) rfl xnm0 (xj_neT hc32)) ?_
    refine xg_t (xg_blq rfl) ?_
    refine xg_t (xg_aload (va := (2, 0)) rfl rfl) ?_
    refine xg_t (xg_getf (va := (2, 49)) h0_1 rfl) ?_
    refine xoC49 (xqc49 hI : cp49 (wget w 49)) (fun f49_33 f49_35 h49_37 hb34 hb36 => ?_)
    refine xg_cVv mX0_layAsTold (vs := []) (rest := []) (cn1 := 0) (sl1 := 0) rfl (bdLayAsTold (hI)) rfl h49_37 rfl rfl rfl rfl rfl rfl (fun w38 hq39 => ?_)
    obtain ⟨hI40, hF41⟩ := hq39
    refine xg_t (xg_aload (va := (2, 0)) rfl rfl) ?_
    refine xg_t (xg_getf (va := (2, 49)) (hF41.get (by decide) h0_1) rfl) ?_
    refine xg_cVi mX0_leastRound (vs := []) (rest := []) (cn1 := 0) (sl1 := 0) rfl (bdLeast (hI40)) rfl (hF41.get (by decide) h49_37) rfl rfl rfl rfl rfl rfl (fun n46 w42 hq43 => ?_)
    obtain ⟨hn47, hI44, hF45⟩ := hq43
    exact xg_e ⟨n46, w42, ⟨rfl, rfl⟩, by omega, hI44, ((hF41.up (by decide)).tr (hF45.up (by decide)))⟩
theorem scWorst {ro : Nat} (hI : xInv w) (hro : ro ≤ 4294967295) : xPi (d + 4) mX11_worst [(2, 0), (0, ro)] w bd fc rr (fun n w' => (n ≤ 4294967295) ∧ xInv w' ∧ xFr [50, 51, 52, 53, 54, 55] w w') := by
  refine xPi.of ?_
  show xTo (d + 4) mX11_worst (0, [], [(0, (2, 0)), (1, (0, ro))], [], (w, bd, fc, 0, 0, rr)) (fun φ => ∃ n w', xEnd 1 [(0, n)] (w', bd, fc, 0, 0, rr) φ ∧ (n ≤ 4294967295) ∧ xInv w' ∧ xFr [50, 51, 52, 53, 54, 55] w w')
  have h0_1 := (xqc0 hI : cp0 (wget w 0))
  refine xoC1 (xqc1 hI : cp1 (wget w 1)) (fun f1_2 f1_4 f1_6 f1_8 f1_10 f1_12 h1_14 hb3 hb5 hb7 hb9 hb11 hb13 => ?_)
  refine xoC3 (xqc3 hI : cp3 (wget w 3)) (fun f3_15 f3_17 f3_19 f3_21 f3_23 h3_25 hb16 hb18 hb20 hb22 hb24 => ?_)
  obtain ⟨f4_26, h4_28, hb27⟩ := (xqc4 hI : cp4 (wget w 4))
  refine xoI (xqc5 hI : cpI 24 1 4294967295 (wget w 5)) (fun g5_29 h5_30 hb31 => ?_)
  refine xg_t (xg_blq rfl) ?_
  refine xg_t (xg_aload (va := (2, 0)) rfl rfl) ?_
  refine xg_t (xg_getf (va := (2, 1)) h0_1 rfl) ?_
  refine xg_t (xg_getf (va := (2, 3)) h1_14 rfl) ?_
  refine xg_t (xg_getf (va := (2, 4)) h3_25 rfl) ?_
  refine xg_t (xg_getf (va := (0, f4_26)) h4_28 rfl) ?_
  by_cases hc32 : f4_26 = 0
  · refine xg_t (xg_ifT (u := f4_26) rfl xnm0 (xj_eqT hc32)) ?_
    refine xg_t (xg_blq rfl) ?_
    refine xg_t (xg_const) ?_
    exact xg_e ⟨4294967295, w, ⟨rfl, rfl⟩, by first | decide | omega, hI, xFr.rf⟩
  · refine xg_t (xg_ifF (u := f4_26) rfl xnm0 (xj_eqF hc32)) ?_
    refine xg_t (xg_iload (va := (0, ro)) rfl rfl) ?_
    refine xg_t (xg_cSr mX11_isRound (vs := [(0, ro)]) (rest := []) (rs := [(0, if 1 ≤ ro ∧ ro ≤ 9999 then 1 else 0)]) (cn1 := 0) (sl1 := 0) rfl (isRound_ok (by omega)) rfl rfl rfl rfl rfl rfl rfl rfl) ?_
    by_cases hc33 : 1 ≤ ro ∧ ro ≤ 9999
    · refine xg_t (xg_ifT (u := (if 1 ≤ ro ∧ ro ≤ 9999 then 1 else 0)) rfl xnm0 (xj_neT (xite1 hc33))) ?_
      refine xg_t (xg_blq rfl) ?_
      refine xg_t (xg_aload (va := (2, 0)) rfl rfl) ?_
      refine xg_t (xg_getf (va := (2, 49)) h0_1 rfl) ?_
      refine xoC49 (xqc49 hI : cp49 (wget w 49)) (fun f49_34 f49_36 h49_38 hb35 hb37 => ?_)
      refine xg_cVv mX0_layAsTold (vs := []) (rest := []) (cn1 := 0) (sl1 := 0) rfl (bdLayAsTold (hI)) rfl h49_38 rfl rfl rfl rfl rfl rfl (fun w39 hq40 => ?_)
      obtain ⟨hI41, hF42⟩ := hq40
      refine xg_t (xg_aload (va := (2, 0)) rfl rfl) ?_
      refine xg_t (xg_getf (va := (2, 49)) (hF42.get (by decide) h0_1) rfl) ?_
      refine xg_cVi mX0_worstPlace (vs := []) (rest := []) (cn1 := 0) (sl1 := 0) rfl (bdWorst (hI41)) rfl (hF42.get (by decide) h49_38) rfl rfl rfl rfl rfl rfl (fun n47 w43 hq44 => ?_)
      obtain ⟨hn48, hI45, hF46⟩ := hq44
      exact xg_e ⟨n47, w43, ⟨rfl, rfl⟩, by omega, hI45, ((hF42.up (by decide)).tr (hF46.up (by decide)))⟩
    · refine xg_t (xg_ifF (u := (if 1 ≤ ro ∧ ro ≤ 9999 then 1 else 0)) rfl xnm0 (xj_neF (xite0 hc33))) ?_
      refine xg_t (xg_blq rfl) ?_
      refine xg_t (xg_const) ?_
      exact xg_e ⟨4294967295, w, ⟨rfl, rfl⟩, by first | decide | omega, hI, xFr.rf⟩
theorem scMost (hI : xInv w)  : xPi (d + 5) mX11_most [(2, 0)] w bd fc rr (fun n w' => (n ≤ 4294967295) ∧ xInv w' ∧ xFr [58, 59, 60, 61, 62, 63, 64, 65, 66, 67] w w') := by
  refine xPi.of ?_
  show xTo (d + 5) mX11_most (0, [], [(0, (2, 0))], [], (w, bd, fc, 0, 0, rr)) (fun φ => ∃ n w', xEnd 1 [(0, n)] (w', bd, fc, 0, 0, rr) φ ∧ (n ≤ 4294967295) ∧ xInv w' ∧ xFr [58, 59, 60, 61, 62, 63, 64, 65, 66, 67] w w')
  refine xg_t (xg_blq rfl) ?_
  refine xg_t (xg_aload (va := (2, 0)) rfl rfl) ?_
  have h0_1 := (xqc0 hI : cp0 (wget w 0))
  refine xg_t (xg_getf (va := (2, 58)) h0_1 rfl) ?_
  refine xoC58 (xqc58 hI : cp58 (wget w 58)) (fun f58_2 f58_4 f58_6 h58_8 hb3 hb5 hb7 => ?_)
  refine xg_cVv mX10_refresh (vs := []) (rest := []) (cn1 := 0) (sl1 := 0) rfl (wyRefresh (hI)) rfl h58_8 rfl rfl rfl rfl rfl rfl (fun w9 hq10 => ?_)
  obtain ⟨hI11, hF12⟩ := hq10
  refine xg_t (xg_aload (va := (2, 0)) rfl rfl) ?_
  refine xg_t (xg_getf (va := (2, 58)) (hF12.get (by decide) h0_1) rfl) ?_
  refine xoC58 (xqc58 hI11 : cp58 (wget w9 58)) (fun f58_13 f58_15 f58_17 h58_19 hb14 hb16 hb18 => ?_)
  refine xg_t (xg_getf (va := (0, f58_15)) h58_19 rfl) ?_
  exact xg_e ⟨f58_15, w9, ⟨rfl, rfl⟩, by omega, hI11, (hF12.up (by decide))⟩
theorem scDamp {ro co : Nat} (hI : xInv w) (hro : ro ≤ 4294967295) (hco : co ≤ 4294967295) : xPi (d + 3) mX11_damp [(2, 0), (0, ro), (0, co)] w bd fc rr (fun n w' => (n ≤ 4294967295) ∧ xInv w' ∧ xFr [68, 70, 71] w w') := by
  refine xPi.of ?_
  show xTo (d + 3) mX11_damp (0, [], [(0, (2, 0)), (1, (0, ro)), (2, (0, co))], [], (w, bd, fc, 0, 0, rr)) (fun φ => ∃ n w', xEnd 1 [(0, n)] (w', bd, fc, 0, 0, rr) φ ∧ (n ≤ 4294967295) ∧ xInv w' ∧ xFr [68, 70, 71] w w')
  refine xg_t (xg_blq rfl) ?_
  refine xg_t (xg_aload (va := (2, 0)) rfl rfl) ?_
  refine xg_t (xg_iload (va := (0, ro)) rfl rfl) ?_
  refine xg_t (xg_iload (va := (0, co)) rfl rfl) ?_
  have h0_1 := (xqc0 hI : cp0 (wget w 0))
  refine xg_cVi mX11_hasPoint (vs := [(0, ro), (0, co)]) (rest := []) (cn1 := 0) (sl1 := 0) rfl (scHasPoint (hI) (by omega) (by omega)) rfl h0_1 rfl rfl rfl rfl rfl rfl (fun n6 w2 hq3 => ?_)
  obtain ⟨hn7, hI4, hF5⟩ := hq3
  by_cases hc8 : n6 = 0
  · refine xg_t (xg_ifF (u := n6) rfl xnm0 (xj_neF hc8)) ?_
    refine xg_t (xg_const) ?_
    exact xg_e ⟨4294967295, w2, ⟨rfl, rfl⟩, by first | decide | omega, hI4, (hF5.up (by decide))⟩
  · refine xg_t (xg_ifT (u := n6) rfl xnm0 (xj_neT hc8)) ?_
    refine xg_t (xg_blq rfl) ?_
    refine xg_t (xg_aload (va := (2, 0)) rfl rfl) ?_
    refine xg_t (xg_getf (va := (2, 68)) (hF5.get (by decide) h0_1) rfl) ?_
    refine xoC68 (xqc68 hI4 : cp68 (wget w2 68)) (fun f68_9 f68_11 h68_13 hb10 hb12 => ?_)
    refine xg_cVv mX3_refreshDamp (vs := []) (rest := []) (cn1 := 0) (sl1 := 0) rfl (lmRefreshDamp (hI4)) rfl h68_13 rfl rfl rfl rfl rfl rfl (fun w14 hq15 => ?_)
    obtain ⟨hI16, hF17⟩ := hq15
    refine xg_t (xg_aload (va := (2, 0)) rfl rfl) ?_
    refine xg_t (xg_getf (va := (2, 68)) (hF17.get (by decide) (hF5.get (by decide) h0_1)) rfl) ?_
    refine xoC68 (xqc68 hI16 : cp68 (wget w14 68)) (fun f68_18 f68_20 h68_22 hb19 hb21 => ?_)
    refine xg_t (xg_getf (va := (2, 70)) h68_22 rfl) ?_
    refine xg_t (xg_iload (va := (0, ro)) rfl rfl) ?_
    refine xg_t (xg_bip) ?_
    refine xg_t (xg_imul (u := ro) (v := 6) (z := ro * 6) xnm0 xnm0 (by omega)) ?_
    refine xg_t (xg_iload (va := (0, co)) rfl rfl) ?_
    refine xg_t (xg_iadd (u := ro * 6) (v := co) (z := (ro * 6) + co) xnm0 xnm0 (by omega)) ?_
    refine xoI (xqc70 hI16 : cpI 36 41 4294967295 (wget w14 70)) (fun g70_23 h70_24 hb25 => ?_)
    refine xg_ialdB (n := (ro * 6) + co) (B := 4294967295) h70_24 (hb25) xnm0 (by omega) (fun u26 hu27 he28 => ?_)
    exact xg_e ⟨u26, w14, ⟨rfl, rfl⟩, by omega, hI16, ((hF5.up (by decide)).tr (hF17.up (by decide)))⟩
theorem scLeft {ro co : Nat} (hI : xInv w) (hro : ro ≤ 4294967295) (hco : co ≤ 4294967295) : xPi (d + 4) mX11_left [(2, 0), (0, ro), (0, co)] w bd fc rr (fun n w' => (n ≤ 4294967295) ∧ xInv w' ∧ xFr [68, 69] w w') := by
  refine xPi.of ?_
  show xTo (d + 4) mX11_left (0, [], [(0, (2, 0)), (1, (0, ro)), (2, (0, co))], [], (w, bd, fc, 0, 0, rr)) (fun φ => ∃ n w', xEnd 1 [(0, n)] (w', bd, fc, 0, 0, rr) φ ∧ (n ≤ 4294967295) ∧ xInv w' ∧ xFr [68, 69] w w')
  refine xg_t (xg_blq rfl) ?_
  refine xg_t (xg_aload (va := (2, 0)) rfl rfl) ?_
  refine xg_t (xg_iload (va := (0, ro)) rfl rfl) ?_
  refine xg_t (xg_iload (va := (0, co)) rfl rfl) ?_
  have h0_1 := (xqc0 hI : cp0 (wget w 0))
  refine xg_cVi mX11_hasPoint (vs := [(0, ro), (0, co)]) (rest := []) (cn1 := 0) (sl1 := 0) rfl (scHasPoint (hI) (by omega) (by omega)) rfl h0_1 rfl rfl rfl rfl rfl rfl (fun n6 w2 hq3 => ?_)
  obtain ⟨hn7, hI4, hF5⟩ := hq3
  by_cases hc8 : n6 = 0
  · refine xg_t (xg_ifF (u := n6) rfl xnm0 (xj_neF hc8)) ?_
    refine xg_t (xg_const) ?_
    exact xg_e ⟨4294967295, w2, ⟨rfl, rfl⟩, by first | decide | omega, hI4, (hF5.up (by decide))⟩
  · refine xg_t (xg_ifT (u := n6) rfl xnm0 (xj_neT hc8)) ?_
    refine xg_t (xg_blq rfl) ?_
    refine xg_t (xg_aload (va := (2, 0)) rfl rfl) ?_
    refine xg_t (xg_getf (va := (2, 68)) (hF5.get (by decide) h0_1) rfl) ?_
    refine xoC68 (xqc68 hI4 : cp68 (wget w2 68)) (fun f68_9 f68_11 h68_13 hb10 hb12 => ?_)
    refine xg_cVv mX3_refreshAges (vs := []) (rest := []) (cn1 := 0) (sl1 := 0) rfl (lmRefreshAges (hI4)) rfl h68_13 rfl rfl rfl rfl rfl rfl (fun w14 hq15 => ?_)
    obtain ⟨hI16, hF17⟩ := hq15
    refine xg_t (xg_aload (va := (2, 0)) rfl rfl) ?_
    refine xg_t (xg_getf (va := (2, 68)) (hF17.get (by decide) (hF5.get (by decide) h0_1)) rfl) ?_
    refine xg_t (xg_iload (va := (0, ro)) rfl rfl) ?_
    refine xg_t (xg_bip) ?_
    refine xg_t (xg_imul (u := ro) (v := 6) (z := ro * 6) xnm0 xnm0 (by omega)) ?_
    refine xg_t (xg_iload (va := (0, co)) rfl rfl) ?_
    refine xg_t (xg_iadd (u := ro * 6) (v := co) (z := (ro * 6) + co) xnm0 xnm0 (by omega)) ?_
    refine xoC68 (xqc68 hI16 : cp68 (wget w14 68)) (fun f68_18 f68_20 h68_22 hb19 hb21 => ?_)
    refine xg_cVi mX3_leftOf (vs := [(0, (ro * 6) + co)]) (rest := []) (cn1 := 0) (sl1 := 0) rfl (lmLeftOf (hI16) (by omega)) rfl h68_22 rfl rfl rfl rfl rfl rfl (fun n27 w23 hq24 => ?_)
    obtain ⟨hn28, hI25, hF26⟩ := hq24
    exact xg_e ⟨n27, w23, ⟨rfl, rfl⟩, by omega, hI25, (((hF5.up (by decide)).tr (hF17.up (by decide))).tr (hF26.up (by decide)))⟩
theorem scUnlike (hI : xInv w)  : xPi (d + 4) mX11_unlike [(2, 0)] w bd fc rr (fun n w' => (n ≤ 4294967295) ∧ xInv w' ∧ xFr [68, 69] w w') := by
  refine xPi.of ?_
  show xTo (d + 4) mX11_unlike (0, [], [(0, (2, 0))], [], (w, bd, fc, 0, 0, rr)) (fun φ => ∃ n w', xEnd 1 [(0, n)] (w', bd, fc, 0, 0, rr) φ ∧ (n ≤ 4294967295) ∧ xInv w' ∧ xFr [68, 69] w w')
  refine xg_t (xg_blq rfl) ?_
  refine xg_t (xg_aload (va := (2, 0)) rfl rfl) ?_
  have h0_1 := (xqc0 hI : cp0 (wget w 0))
  refine xg_t (xg_getf (va := (2, 68)) h0_1 rfl) ?_
  refine xoC68 (xqc68 hI : cp68 (wget w 68)) (fun f68_2 f68_4 h68_6 hb3 hb5 => ?_)
  refine xg_cVv mX3_refreshAges (vs := []) (rest := []) (cn1 := 0) (sl1 := 0) rfl (lmRefreshAges (hI)) rfl h68_6 rfl rfl rfl rfl rfl rfl (fun w7 hq8 => ?_)
  obtain ⟨hI9, hF10⟩ := hq8
  refine xg_t (xg_aload (va := (2, 0)) rfl rfl) ?_
  refine xg_t (xg_getf (va := (2, 68)) (hF10.get (by decide) h0_1) rfl) ?_
  refine xoC68 (xqc68 hI9 : cp68 (wget w7 68)) (fun f68_11 f68_13 h68_15 hb12 hb14 => ?_)
  refine xg_cVi mX3_leftSpread (vs := []) (rest := []) (cn1 := 0) (sl1 := 0) rfl (lmLeftSpread (hI9)) rfl h68_15 rfl rfl rfl rfl rfl rfl (fun n20 w16 hq17 => ?_)
  obtain ⟨hn21, hI18, hF19⟩ := hq17
  exact xg_e ⟨n20, w16, ⟨rfl, rfl⟩, by omega, hI18, ((hF10.up (by decide)).tr (hF19.up (by decide)))⟩
theorem scKept (hI : xInv w)  : xPi (d + 3) mX11_kept [(2, 0)] w bd fc rr (fun n w' => (n ≤ 4294967295) ∧ xInv w' ∧ xFr [76, 77] w w') := by
  refine xPi.of ?_
  show xTo (d + 3) mX11_kept (0, [], [(0, (2, 0))], [], (w, bd, fc, 0, 0, rr)) (fun φ => ∃ n w', xEnd 1 [(0, n)] (w', bd, fc, 0, 0, rr) φ ∧ (n ≤ 4294967295) ∧ xInv w' ∧ xFr [76, 77] w w')
  refine xg_t (xg_blq rfl) ?_
  refine xg_t (xg_aload (va := (2, 0)) rfl rfl) ?_
  have h0_1 := (xqc0 hI : cp0 (wget w 0))
  refine xg_t (xg_getf (va := (2, 76)) h0_1 rfl) ?_
  refine xoC76 (xqc76 hI : cp76 (wget w 76)) (fun f76_2 f76_4 f76_6 f76_8 f76_10 f76_12 f76_14 f76_16 h76_18 hb3 hb5 hb7 hb9 hb11 hb13 hb15 hb17 => ?_)
  refine xg_cVv mX4_refresh (vs := []) (rest := []) (cn1 := 0) (sl1 := 0) rfl (lwRefresh (hI)) rfl h76_18 rfl rfl rfl rfl rfl rfl (fun w19 hq20 => ?_)
  obtain ⟨hI21, hF22⟩ := hq20
  refine xg_t (xg_aload (va := (2, 0)) rfl rfl) ?_
  refine xg_t (xg_getf (va := (2, 76)) (hF22.get (by decide) h0_1) rfl) ?_
  refine xoC76 (xqc76 hI21 : cp76 (wget w19 76)) (fun f76_23 f76_25 f76_27 f76_29 f76_31 f76_33 f76_35 f76_37 h76_39 hb24 hb26 hb28 hb30 hb32 hb34 hb36 hb38 => ?_)
  refine xg_t (xg_getf (va := (0, f76_23)) h76_39 rfl) ?_
  exact xg_e ⟨f76_23, w19, ⟨rfl, rfl⟩, by omega, hI21, (hF22.up (by decide))⟩
theorem scLaw {kk : Nat} (hI : xInv w) (hkk : kk ≤ 4294967295) : xPi (d + 3) mX11_law [(2, 0), (0, kk)] w bd fc rr (fun n w' => (n ≤ 4294967295) ∧ xInv w' ∧ xFr [76, 77] w w') := by
  refine xPi.of ?_
  show xTo (d + 3) mX11_law (0, [], [(0, (2, 0)), (1, (0, kk))], [], (w, bd, fc, 0, 0, rr)) (fun φ => ∃ n w', xEnd 1 [(0, n)] (w', bd, fc, 0, 0, rr) φ ∧ (n ≤ 4294967295) ∧ xInv w' ∧ xFr [76, 77] w w')
  refine xg_t (xg_blq rfl) ?_
  refine xg_t (xg_aload (va := (2, 0)) rfl rfl) ?_
  have h0_1 := (xqc0 hI : cp0 (wget w 0))
  refine xg_t (xg_getf (va := (2, 76)) h0_1 rfl) ?_
  refine xoC76 (xqc76 hI : cp76 (wget w 76)) (fun f76_2 f76_4 f76_6 f76_8 f76_10 f76_12 f76_14 f76_16 h76_18 hb3 hb5 hb7 hb9 hb11 hb13 hb15 hb17 => ?_)
  refine xg_cVv mX4_refresh (vs := []) (rest := []) (cn1 := 0) (sl1 := 0) rfl (lwRefresh (hI)) rfl h76_18 rfl rfl rfl rfl rfl rfl (fun w19 hq20 => ?_)
  obtain ⟨hI21, hF22⟩ := hq20
  refine xg_t (xg_iload (va := (0, kk)) rfl rfl) ?_
  by_cases hc23 : kk < 2147483648
  · refine xg_t (xg_ifF (u := kk) rfl xnm0 (xjz_ltF hc23)) ?_
    refine xg_t (xg_iload (va := (0, kk)) rfl rfl) ?_
    refine xg_t (xg_aload (va := (2, 0)) rfl rfl) ?_
    refine xg_t (xg_getf (va := (2, 76)) (hF22.get (by decide) h0_1) rfl) ?_
    refine xoC76 (xqc76 hI21 : cp76 (wget w19 76)) (fun f76_24 f76_26 f76_28 f76_30 f76_32 f76_34 f76_36 f76_38 h76_40 hb25 hb27 hb29 hb31 hb33 hb35 hb37 hb39 => ?_)
    refine xg_t (xg_getf (va := (0, f76_24)) h76_40 rfl) ?_
    by_cases hc41 : xbs kk < xbs f76_24
    · have hc41u := hc41
      unfold xbs at hc41u
      have hn42 : kk ≤ 2147483646 := by omega
      have hn43 : f76_24 ≤ 2147483647 := by omega
      refine xg_t (xg_icT (u := kk) (v := f76_24) rfl xnm0 xnm0 (xjs_ltT hc41)) ?_
      refine xg_t (xg_blq rfl) ?_
      refine xg_t (xg_aload (va := (2, 0)) rfl rfl) ?_
      refine xg_t (xg_getf (va := (2, 76)) (hF22.get (by decide) h0_1) rfl) ?_
      refine xg_t (xg_iload (va := (0, kk)) rfl rfl) ?_
      refine xg_cVi mX4_keptAt (vs := [(0, kk)]) (rest := []) (cn1 := 0) (sl1 := 0) rfl (lwKeptAt (hI21) (by omega)) rfl h76_40 rfl rfl rfl rfl rfl rfl (fun n48 w44 hq45 => ?_)
      obtain ⟨hn49, hI46, hF47⟩ := hq45
      exact xg_e ⟨n48, w44, ⟨rfl, rfl⟩, by omega, hI46, ((hF22.up (by decide)).tr (hF47.up (by decide)))⟩
    · have hc41u := hc41
      unfold xbs at hc41u
      have hn50 : kk ≤ 2147483647 := by omega
      refine xg_t (xg_icF (u := kk) (v := f76_24) rfl xnm0 xnm0 (xjs_ltF hc41)) ?_
      refine xg_t (xg_blq rfl) ?_
      refine xg_t (xg_const) ?_
      exact xg_e ⟨4294967295, w19, ⟨rfl, rfl⟩, by first | decide | omega, hI21, (hF22.up (by decide))⟩
  · refine xg_t (xg_ifT (u := kk) rfl xnm0 (xjz_ltT (by omega) (by omega))) ?_
    refine xg_t (xg_blq rfl) ?_
    refine xg_t (xg_const) ?_
    exact xg_e ⟨4294967295, w19, ⟨rfl, rfl⟩, by first | decide | omega, hI21, (hF22.up (by decide))⟩
theorem scSpan {sp mo : Nat} (hI : xInv w) (hsp : sp ≤ 4294967295) (hmo : mo ≤ 1) : xPi (d + 3) mX11_span [(2, 0), (0, sp), (0, mo)] w bd fc rr (fun n w' => (n ≤ 4294967295) ∧ xInv w' ∧ xFr [76, 77] w w') := by
  refine xPi.of ?_
  show xTo (d + 3) mX11_span (0, [], [(0, (2, 0)), (1, (0, sp)), (2, (0, mo))], [], (w, bd, fc, 0, 0, rr)) (fun φ => ∃ n w', xEnd 1 [(0, n)] (w', bd, fc, 0, 0, rr) φ ∧ (n ≤ 4294967295) ∧ xInv w' ∧ xFr [76, 77] w w')
  refine xg_t (xg_blq rfl) ?_
  refine xg_t (xg_aload (va := (2, 0)) rfl rfl) ?_
  have h0_1 := (xqc0 hI : cp0 (wget w 0))
  refine xg_t (xg_getf (va := (2, 76)) h0_1 rfl) ?_
  refine xoC76 (xqc76 hI : cp76 (wget w 76)) (fun f76_2 f76_4 f76_6 f76_8 f76_10 f76_12 f76_14 f76_16 h76_18 hb3 hb5 hb7 hb9 hb11 hb13 hb15 hb17 => ?_)
  refine xg_cVv mX4_refresh (vs := []) (rest := []) (cn1 := 0) (sl1 := 0) rfl (lwRefresh (hI)) rfl h76_18 rfl rfl rfl rfl rfl rfl (fun w19 hq20 => ?_)
  obtain ⟨hI21, hF22⟩ := hq20
  refine xg_t (xg_iload (va := (0, sp)) rfl rfl) ?_
  refine xg_t (xg_const) ?_
  refine xg_t (xg_bip) ?_
  refine xg_t (xg_cSr mX11_isIn (vs := [(0, sp), (0, 1), (0, 9)]) (rest := []) (rs := [(0, if 1 ≤ sp ∧ sp ≤ 9 then 1 else 0)]) (cn1 := 0) (sl1 := 0) rfl (isIn_ok (by omega) (by omega) (by omega)) rfl rfl rfl rfl rfl rfl rfl rfl) ?_
  by_cases hc23 : 1 ≤ sp ∧ sp ≤ 9
  · refine xg_t (xg_ifF (u := (if 1 ≤ sp ∧ sp ≤ 9 then 1 else 0)) rfl xnm0 (xj_eqF (xite1 hc23))) ?_
    refine xg_t (xg_aload (va := (2, 0)) rfl rfl) ?_
    refine xg_t (xg_getf (va := (2, 76)) (hF22.get (by decide) h0_1) rfl) ?_
    refine xoC76 (xqc76 hI21 : cp76 (wget w19 76)) (fun f76_24 f76_26 f76_28 f76_30 f76_32 f76_34 f76_36 f76_38 h76_40 hb25 hb27 hb29 hb31 hb33 hb35 hb37 hb39 => ?_)
    refine xg_t (xg_getf (va := (0, f76_24)) h76_40 rfl) ?_
    by_cases hc41 : f76_24 = 0
    · refine xg_t (xg_ifF (u := f76_24) rfl xnm0 (xj_neF hc41)) ?_
      refine xg_t (xg_blq rfl) ?_
      refine xg_t (xg_const) ?_
      exact xg_e ⟨4294967295, w19, ⟨rfl, rfl⟩, by first | decide | omega, hI21, (hF22.up (by decide))⟩
    · refine xg_t (xg_ifT (u := f76_24) rfl xnm0 (xj_neT hc41)) ?_
      refine xg_t (xg_blq rfl) ?_
      refine xg_t (xg_iload (va := (0, mo)) rfl rfl) ?_
      by_cases hc42 : mo = 0
      · refine xg_t (xg_ifT (u := mo) rfl xnm0 (xj_eqT hc42)) ?_
        refine xg_t (xg_blq rfl) ?_
        refine xg_t (xg_aload (va := (2, 0)) rfl rfl) ?_
        refine xg_t (xg_getf (va := (2, 76)) (hF22.get (by decide) h0_1) rfl) ?_
        refine xg_t (xg_iload (va := (0, sp)) rfl rfl) ?_
        refine xg_cVi mX4_spanStart (vs := [(0, sp)]) (rest := []) (cn1 := 0) (sl1 := 0) rfl (lwSpanStart (hI21) (by omega)) rfl h76_40 rfl rfl rfl rfl rfl rfl (fun n47 w43 hq44 => ?_)
        obtain ⟨hn48, hI45, hF46⟩ := hq44
        refine xg_t (xg_blq rfl) ?_
        exact xg_e ⟨n47, w43, ⟨rfl, rfl⟩, by omega, hI45, ((hF22.up (by decide)).tr (hF46.up (by decide)))⟩
      · refine xg_t (xg_ifF (u := mo) rfl xnm0 (xj_eqF hc42)) ?_
        refine xg_t (xg_aload (va := (2, 0)) rfl rfl) ?_
        refine xg_t (xg_getf (va := (2, 76)) (hF22.get (by decide) h0_1) rfl) ?_
        refine xg_t (xg_iload (va := (0, sp)) rfl rfl) ?_
        refine xg_cVi mX4_spanEnd (vs := [(0, sp)]) (rest := []) (cn1 := 0) (sl1 := 0) rfl (lwSpanEnd (hI21) (by omega)) rfl h76_40 rfl rfl rfl rfl rfl rfl (fun n53 w49 hq50 => ?_)
        obtain ⟨hn54, hI51, hF52⟩ := hq50
        refine xg_t (xg_goto) ?_
        refine xg_t (xg_blq rfl) ?_
        exact xg_e ⟨n53, w49, ⟨rfl, rfl⟩, by omega, hI51, ((hF22.up (by decide)).tr (hF52.up (by decide)))⟩
  · refine xg_t (xg_ifT (u := (if 1 ≤ sp ∧ sp ≤ 9 then 1 else 0)) rfl xnm0 (xj_eqT (xite0 hc23))) ?_
    refine xg_t (xg_blq rfl) ?_
    refine xg_t (xg_const) ?_
    exact xg_e ⟨4294967295, w19, ⟨rfl, rfl⟩, by first | decide | omega, hI21, (hF22.up (by decide))⟩
theorem scQuarrel {kk : Nat} (hI : xInv w) (hkk : kk ≤ 4294967295) : xPi (d + 3) mX11_quarrel [(2, 0), (0, kk)] w bd fc rr (fun n w' => (n ≤ 4294967295) ∧ xInv w' ∧ xFr [76, 77] w w') := by
  refine xPi.of ?_
  show xTo (d + 3) mX11_quarrel (0, [], [(0, (2, 0)), (1, (0, kk))], [], (w, bd, fc, 0, 0, rr)) (fun φ => ∃ n w', xEnd 1 [(0, n)] (w', bd, fc, 0, 0, rr) φ ∧ (n ≤ 4294967295) ∧ xInv w' ∧ xFr [76, 77] w w')
  refine xg_t (xg_blq rfl) ?_
  refine xg_t (xg_aload (va := (2, 0)) rfl rfl) ?_
  have h0_1 := (xqc0 hI : cp0 (wget w 0))
  refine xg_t (xg_getf (va := (2, 76)) h0_1 rfl) ?_
  refine xoC76 (xqc76 hI : cp76 (wget w 76)) (fun f76_2 f76_4 f76_6 f76_8 f76_10 f76_12 f76_14 f76_16 h76_18 hb3 hb5 hb7 hb9 hb11 hb13 hb15 hb17 => ?_)
  refine xg_cVv mX4_refresh (vs := []) (rest := []) (cn1 := 0) (sl1 := 0) rfl (lwRefresh (hI)) rfl h76_18 rfl rfl rfl rfl rfl rfl (fun w19 hq20 => ?_)
  obtain ⟨hI21, hF22⟩ := hq20
  refine xg_t (xg_iload (va := (0, kk)) rfl rfl) ?_
  by_cases hc23 : kk < 2147483648
  · refine xg_t (xg_ifF (u := kk) rfl xnm0 (xjz_ltF hc23)) ?_
    refine xg_t (xg_aload (va := (2, 0)) rfl rfl) ?_
    refine xg_t (xg_getf (va := (2, 76)) (hF22.get (by decide) h0_1) rfl) ?_
    refine xoC76 (xqc76 hI21 : cp76 (wget w19 76)) (fun f76_24 f76_26 f76_28 f76_30 f76_32 f76_34 f76_36 f76_38 h76_40 hb25 hb27 hb29 hb31 hb33 hb35 hb37 hb39 => ?_)
    refine xg_t (xg_getf (va := (0, f76_24)) h76_40 rfl) ?_
    by_cases hc41 : xbs 0 < xbs f76_24
    · have hc41u := hc41
      unfold xbs at hc41u
      have hn42 : f76_24 ≤ 2147483647 := by omega
      refine xg_t (xg_ifF (u := f76_24) rfl xnm0 (xjs_leF hc41)) ?_
      refine xg_t (xg_blq rfl) ?_
      refine xg_t (xg_const) ?_
      exact xg_e ⟨4294967295, w19, ⟨rfl, rfl⟩, by first | decide | omega, hI21, (hF22.up (by decide))⟩
    · have hc41u := hc41
      unfold xbs at hc41u
      refine xg_t (xg_ifT (u := f76_24) rfl xnm0 (xjs_leT hc41)) ?_
      refine xg_t (xg_blq rfl) ?_
      refine xg_t (xg_aload (va := (2, 0)) rfl rfl) ?_
      refine xg_t (xg_getf (va := (2, 76)) (hF22.get (by decide) h0_1) rfl) ?_
      refine xg_cVv mX4_refreshQuarrel (vs := []) (rest := []) (cn1 := 0) (sl1 := 0) rfl (lwRefreshQuarrel (hI21)) rfl h76_40 rfl rfl rfl rfl rfl rfl (fun w43 hq44 => ?_)
      obtain ⟨hI45, hF46⟩ := hq44
      refine xg_t (xg_aload (va := (2, 0)) rfl rfl) ?_
      refine xg_t (xg_getf (va := (2, 76)) (hF46.get (by decide) (hF22.get (by decide) h0_1)) rfl) ?_
      refine xg_t (xg_iload (va := (0, kk)) rfl rfl) ?_
      refine xoC76 (xqc76 hI45 : cp76 (wget w43 76)) (fun f76_47 f76_49 f76_51 f76_53 f76_55 f76_57 f76_59 f76_61 h76_63 hb48 hb50 hb52 hb54 hb56 hb58 hb60 hb62 => ?_)
      refine xg_cVi mX4_quarrelAt (vs := [(0, kk)]) (rest := []) (cn1 := 0) (sl1 := 0) rfl (lwQuarrelAt (hI45) (by omega)) rfl h76_63 rfl rfl rfl rfl rfl rfl (fun n68 w64 hq65 => ?_)
      obtain ⟨hn69, hI66, hF67⟩ := hq65
      exact xg_e ⟨n68, w64, ⟨rfl, rfl⟩, by omega, hI66, (((hF22.up (by decide)).tr (hF46.up (by decide))).tr (hF67.up (by decide)))⟩
  · refine xg_t (xg_ifT (u := kk) rfl xnm0 (xjz_ltT (by omega) (by omega))) ?_
    refine xg_t (xg_blq rfl) ?_
    refine xg_t (xg_const) ?_
    exact xg_e ⟨4294967295, w19, ⟨rfl, rfl⟩, by first | decide | omega, hI21, (hF22.up (by decide))⟩
theorem scNext {wh : Nat} (hI : xInv w) (hwh : wh ≤ 4294967295) : xPi (d + 3) mX11_next [(2, 0), (0, wh)] w bd fc rr (fun n w' => (n ≤ 4294967295) ∧ xInv w' ∧ xFr [76, 77, 78, 79] w w') := by
  refine xPi.of ?_
  show xTo (d + 3) mX11_next (0, [], [(0, (2, 0)), (1, (0, wh))], [], (w, bd, fc, 0, 0, rr)) (fun φ => ∃ n w', xEnd 1 [(0, n)] (w', bd, fc, 0, 0, rr) φ ∧ (n ≤ 4294967295) ∧ xInv w' ∧ xFr [76, 77, 78, 79] w w')
  refine xg_t (xg_blq rfl) ?_
  refine xg_t (xg_aload (va := (2, 0)) rfl rfl) ?_
  have h0_1 := (xqc0 hI : cp0 (wget w 0))
  refine xg_t (xg_getf (va := (2, 76)) h0_1 rfl) ?_
  refine xoC76 (xqc76 hI : cp76 (wget w 76)) (fun f76_2 f76_4 f76_6 f76_8 f76_10 f76_12 f76_14 f76_16 h76_18 hb3 hb5 hb7 hb9 hb11 hb13 hb15 hb17 => ?_)
  refine xg_cVv mX4_refresh (vs := []) (rest := []) (cn1 := 0) (sl1 := 0) rfl (lwRefresh (hI)) rfl h76_18 rfl rfl rfl rfl rfl rfl (fun w19 hq20 => ?_)
  obtain ⟨hI21, hF22⟩ := hq20
  refine xg_t (xg_aload (va := (2, 0)) rfl rfl) ?_
  refine xg_t (xg_getf (va := (2, 76)) (hF22.get (by decide) h0_1) rfl) ?_
  refine xoC76 (xqc76 hI21 : cp76 (wget w19 76)) (fun f76_23 f76_25 f76_27 f76_29 f76_31 f76_33 f76_35 f76_37 h76_39 hb24 hb26 hb28 hb30 hb32 hb34 hb36 hb38 => ?_)
  refine xg_cVv mX4_refreshNext (vs := []) (rest := []) (cn1 := 0) (sl1 := 0) rfl (lwRefreshNext (hI21)) rfl h76_39 rfl rfl rfl rfl rfl rfl (fun w40 hq41 => ?_)
  obtain ⟨hI42, hF43⟩ := hq41
  refine xg_t (xg_iload (va := (0, wh)) rfl rfl) ?_
  by_cases hc44 : wh = 0
  · refine xg_t (xg_swt (ks := [(0, 40), (1, 48), (2, 56)]) (u := wh) (z := 40) rfl rfl rfl xnm0 (xsw_y hc44)) ?_
    refine xg_t (xg_blq rfl) ?_
    refine xg_t (xg_aload (va := (2, 0)) rfl rfl) ?_
    refine xg_t (xg_getf (va := (2, 76)) (hF43.get (by decide) (hF22.get (by decide) h0_1)) rfl) ?_
    refine xoC76 (xqc76 hI42 : cp76 (wget w40 76)) (fun f76_45 f76_47 f76_49 f76_51 f76_53 f76_55 f76_57 f76_59 h76_61 hb46 hb48 hb50 hb52 hb54 hb56 hb58 hb60 => ?_)
    refine xg_t (xg_getf (va := (0, f76_49)) h76_61 rfl) ?_
    exact xg_e ⟨f76_49, w40, ⟨rfl, rfl⟩, by omega, hI42, ((hF22.up (by decide)).tr (hF43.up (by decide)))⟩
  · by_cases hc62 : wh = 1
    · refine xg_t (xg_swt (ks := [(0, 40), (1, 48), (2, 56)]) (u := wh) (z := 48) rfl rfl rfl xnm0 (xsw_n hc44 (xsw_y hc62))) ?_
      refine xg_t (xg_blq rfl) ?_
      refine xg_t (xg_aload (va := (2, 0)) rfl rfl) ?_
      refine xg_t (xg_getf (va := (2, 76)) (hF43.get (by decide) (hF22.get (by decide) h0_1)) rfl) ?_
      refine xoC76 (xqc76 hI42 : cp76 (wget w40 76)) (fun f76_63 f76_65 f76_67 f76_69 f76_71 f76_73 f76_75 f76_77 h76_79 hb64 hb66 hb68 hb70 hb72 hb74 hb76 hb78 => ?_)
      refine xg_t (xg_getf (va := (0, f76_69)) h76_79 rfl) ?_
      exact xg_e ⟨f76_69, w40, ⟨rfl, rfl⟩, by omega, hI42, ((hF22.up (by decide)).tr (hF43.up (by decide)))⟩
    · by_cases hc80 : wh = 2
      · refine xg_t (xg_swt (ks := [(0, 40), (1, 48), (2, 56)]) (u := wh) (z := 56) rfl rfl rfl xnm0 (xsw_n hc44 (xsw_n hc62 (xsw_y hc80)))) ?_
        refine xg_t (xg_blq rfl) ?_
        refine xg_t (xg_aload (va := (2, 0)) rfl rfl) ?_
        refine xg_t (xg_getf (va := (2, 76)) (hF43.get (by decide) (hF22.get (by decide) h0_1)) rfl) ?_
        refine xoC76 (xqc76 hI42 : cp76 (wget w40 76)) (fun f76_81 f76_83 f76_85 f76_87 f76_89 f76_91 f76_93 f76_95 h76_97 hb82 hb84 hb86 hb88 hb90 hb92 hb94 hb96 => ?_)
        refine xg_t (xg_getf (va := (0, f76_89)) h76_97 rfl) ?_
        exact xg_e ⟨f76_89, w40, ⟨rfl, rfl⟩, by omega, hI42, ((hF22.up (by decide)).tr (hF43.up (by decide)))⟩
      · refine xg_t (xg_swt (ks := [(0, 40), (1, 48), (2, 56)]) (u := wh) (z := 64) rfl rfl rfl xnm0 (xsw_n hc44 (xsw_n hc62 (xsw_n hc80 (xsw_d))))) ?_
        refine xg_t (xg_blq rfl) ?_
        refine xg_t (xg_const) ?_
        exact xg_e ⟨4294967295, w40, ⟨rfl, rfl⟩, by first | decide | omega, hI42, ((hF22.up (by decide)).tr (hF43.up (by decide)))⟩
theorem scPanels (hI : xInv w)  : xPi (d + 27) mX11_panels [(2, 0)] w bd fc rr (fun n w' => (n ≤ 4294967295) ∧ xInv w' ∧ xFr [72, 73, 74, 75] w w') := by
  refine xPi.of ?_
  show xTo (d + 27) mX11_panels (0, [], [(0, (2, 0))], [], (w, bd, fc, 0, 0, rr)) (fun φ => ∃ n w', xEnd 1 [(0, n)] (w', bd, fc, 0, 0, rr) φ ∧ (n ≤ 4294967295) ∧ xInv w' ∧ xFr [72, 73, 74, 75] w w')
  refine xg_t (xg_blq rfl) ?_
  refine xg_t (xg_aload (va := (2, 0)) rfl rfl) ?_
  have h0_1 := (xqc0 hI : cp0 (wget w 0))
  refine xg_t (xg_getf (va := (2, 72)) h0_1 rfl) ?_
  refine xoC72 (xqc72 hI : cp72 (wget w 72)) (fun f72_2 f72_4 h72_6 hb3 hb5 => ?_)
  refine xg_cVv mX7_refreshPlan (vs := []) (rest := []) (cn1 := 0) (sl1 := 0) rfl (shRefreshPlan (hI)) rfl h72_6 rfl rfl rfl rfl rfl rfl (fun w7 hq8 => ?_)
  obtain ⟨hI9, hF10⟩ := hq8
  refine xg_t (xg_aload (va := (2, 0)) rfl rfl) ?_
  refine xg_t (xg_getf (va := (2, 72)) (hF10.get (by decide) h0_1) rfl) ?_
  refine xoC72 (xqc72 hI9 : cp72 (wget w7 72)) (fun f72_11 f72_13 h72_15 hb12 hb14 => ?_)
  refine xg_t (xg_getf (va := (2, 74)) h72_15 rfl) ?_
  obtain ⟨f74_16, h74_18, hb17⟩ := (xqc74 hI9 : cp74 (wget w7 74))
  refine xg_t (xg_getf (va := (0, f74_16)) h74_18 rfl) ?_
  exact xg_e ⟨f74_16, w7, ⟨rfl, rfl⟩, by omega, hI9, (hF10.up (by decide))⟩
theorem scPanel {kk wh : Nat} (hI : xInv w) (hkk : kk ≤ 4294967295) (hwh : wh ≤ 4294967295) : xPi (d + 27) mX11_panel [(2, 0), (0, kk), (0, wh)] w bd fc rr (fun n w' => (n ≤ 4294967295) ∧ xInv w' ∧ xFr [72, 73, 74, 75] w w') := by
  refine xPi.of ?_
  show xTo (d + 27) mX11_panel (0, [], [(0, (2, 0)), (1, (0, kk)), (2, (0, wh))], [], (w, bd, fc, 0, 0, rr)) (fun φ => ∃ n w', xEnd 1 [(0, n)] (w', bd, fc, 0, 0, rr) φ ∧ (n ≤ 4294967295) ∧ xInv w' ∧ xFr [72, 73, 74, 75] w w')
  refine xg_t (xg_blq rfl) ?_
  refine xg_t (xg_aload (va := (2, 0)) rfl rfl) ?_
  have h0_1 := (xqc0 hI : cp0 (wget w 0))
  refine xg_t (xg_getf (va := (2, 72)) h0_1 rfl) ?_
  refine xoC72 (xqc72 hI : cp72 (wget w 72)) (fun f72_2 f72_4 h72_6 hb3 hb5 => ?_)
  refine xg_cVv mX7_refreshPlan (vs := []) (rest := []) (cn1 := 0) (sl1 := 0) rfl (shRefreshPlan (hI)) rfl h72_6 rfl rfl rfl rfl rfl rfl (fun w7 hq8 => ?_)
  obtain ⟨hI9, hF10⟩ := hq8
  refine xg_t (xg_aload (va := (2, 0)) rfl rfl) ?_
  refine xg_t (xg_getf (va := (2, 72)) (hF10.get (by decide) h0_1) rfl) ?_
  refine xoC72 (xqc72 hI9 : cp72 (wget w7 72)) (fun f72_11 f72_13 h72_15 hb12 hb14 => ?_)
  refine xg_t (xg_getf (va := (2, 74)) h72_15 rfl) ?_
  refine xg_t (xg_iload (va := (0, kk)) rfl rfl) ?_
  refine xg_t (xg_iload (va := (0, wh)) rfl rfl) ?_
  obtain ⟨f74_16, h74_18, hb17⟩ := (xqc74 hI9 : cp74 (wget w7 74))
  refine xoI (xqc75 hI9 : cpI 300 44 4294967295 (wget w7 75)) (fun g75_19 h75_20 hb21 => ?_)
  refine xg_k (xg_cVr mX5_get (vs := [(0, kk), (0, wh)]) (rest := []) (rs := [(0, if kk < f74_16 ∧ wh < 3 then g75_19 (kk * 3 + wh) else 4294967295)]) (cn1 := 0) (sl1 := 0) rfl (rget_ok (lim := 100) (wd := 3) (sz := f74_16) h74_18 h75_20 (by decide) (by omega) (by decide) (by decide) (by omega) (by omega)) rfl h74_18 rfl rfl rfl rfl rfl rfl rfl) (xiteb (hb21)) (fun z22 hz23 => ?_)
  exact xg_e ⟨z22, w7, ⟨rfl, rfl⟩, by omega, hI9, (hF10.up (by decide))⟩
theorem scCut {wh : Nat} (hI : xInv w) (hwh : wh ≤ 4294967295) : xPi (d + 5) mX11_cut [(2, 0), (0, wh)] w bd fc rr (fun n w' => (n ≤ 4294967295) ∧ xInv w' ∧ xFr [58, 59, 60, 61, 62, 63, 64, 65, 66, 67] w w') := by
  refine xPi.of ?_
  show xTo (d + 5) mX11_cut (0, [], [(0, (2, 0)), (1, (0, wh))], [], (w, bd, fc, 0, 0, rr)) (fun φ => ∃ n w', xEnd 1 [(0, n)] (w', bd, fc, 0, 0, rr) φ ∧ (n ≤ 4294967295) ∧ xInv w' ∧ xFr [58, 59, 60, 61, 62, 63, 64, 65, 66, 67] w w')
  refine xg_t (xg_blq rfl) ?_
  refine xg_t (xg_iload (va := (0, wh)) rfl rfl) ?_
  by_cases hc1 : wh < 2147483648
  · refine xg_t (xg_ifF (u := wh) rfl xnm0 (xjz_ltF hc1)) ?_
    refine xg_t (xg_iload (va := (0, wh)) rfl rfl) ?_
    refine xg_t (xg_const) ?_
    by_cases hc2 : 4 < wh
    · refine xg_t (xg_icF (u := wh) (v := 4) rfl xnm0 xnm0 (xj_leF hc2 (by omega))) ?_
      refine xg_t (xg_blq rfl) ?_
      refine xg_t (xg_const) ?_
      exact xg_e ⟨4294967295, w, ⟨rfl, rfl⟩, by first | decide | omega, hI, xFr.rf⟩
    · refine xg_t (xg_icT (u := wh) (v := 4) rfl xnm0 xnm0 (xj_leT (by omega) (by omega))) ?_
      refine xg_t (xg_blq rfl) ?_
      refine xg_t (xg_aload (va := (2, 0)) rfl rfl) ?_
      have h0_3 := (xqc0 hI : cp0 (wget w 0))
      refine xg_t (xg_getf (va := (2, 58)) h0_3 rfl) ?_
      refine xoC58 (xqc58 hI : cp58 (wget w 58)) (fun f58_4 f58_6 f58_8 h58_10 hb5 hb7 hb9 => ?_)
      refine xg_cVv mX10_refresh (vs := []) (rest := []) (cn1 := 0) (sl1 := 0) rfl (wyRefresh (hI)) rfl h58_10 rfl rfl rfl rfl rfl rfl (fun w11 hq12 => ?_)
      obtain ⟨hI13, hF14⟩ := hq12
      refine xg_t (xg_iload (va := (0, wh)) rfl rfl) ?_
      by_cases hc15 : wh = 0
      · refine xg_t (xg_ifF (u := wh) rfl xnm0 (xj_neF hc15)) ?_
        refine xg_t (xg_aload (va := (2, 0)) rfl rfl) ?_
        refine xg_t (xg_getf (va := (2, 58)) (hF14.get (by decide) h0_3) rfl) ?_
        refine xoC58 (xqc58 hI13 : cp58 (wget w11 58)) (fun f58_16 f58_18 f58_20 h58_22 hb17 hb19 hb21 => ?_)
        refine xg_t (xg_getf (va := (0, f58_18)) h58_22 rfl) ?_
        refine xg_t (xg_goto) ?_
        refine xg_t (xg_blq rfl) ?_
        exact xg_e ⟨f58_18, w11, ⟨rfl, rfl⟩, by omega, hI13, (hF14.up (by decide))⟩
      · refine xg_t (xg_ifT (u := wh) rfl xnm0 (xj_neT hc15)) ?_
        refine xg_t (xg_blq rfl) ?_
        refine xg_t (xg_aload (va := (2, 0)) rfl rfl) ?_
        refine xg_t (xg_getf (va := (2, 58)) (hF14.get (by decide) h0_3) rfl) ?_
        refine xg_t (xg_iload (va := (0, wh)) rfl rfl) ?_
        refine xg_t (xg_const) ?_
        refine xg_t (xg_isub (u := wh) (v := 1) (z := wh - 1) xnm0 xnm0 (by omega)) ?_
        refine xoC58 (xqc58 hI13 : cp58 (wget w11 58)) (fun f58_23 f58_25 f58_27 h58_29 hb24 hb26 hb28 => ?_)
        refine xg_cVi mX10_countCut (vs := [(0, wh - 1)]) (rest := []) (cn1 := 0) (sl1 := 0) rfl (wyCountCut (hI13) (by omega)) rfl h58_29 rfl rfl rfl rfl rfl rfl (fun n34 w30 hq31 => ?_)
        obtain ⟨hn35, hI32, hF33⟩ := hq31
        refine xg_t (xg_blq rfl) ?_
        exact xg_e ⟨n34, w30, ⟨rfl, rfl⟩, by omega, hI32, ((hF14.up (by decide)).tr (hF33.up (by decide)))⟩
  · refine xg_t (xg_ifT (u := wh) rfl xnm0 (xjz_ltT (by omega) (by omega))) ?_
    refine xg_t (xg_blq rfl) ?_
    refine xg_t (xg_const) ?_
    exact xg_e ⟨4294967295, w, ⟨rfl, rfl⟩, by first | decide | omega, hI, xFr.rf⟩
theorem scFed {ro : Nat} (hI : xInv w) (hro : ro ≤ 4294967295) : xPi (d + 5) mX11_fed [(2, 0), (0, ro)] w bd fc rr (fun n w' => (n ≤ 1) ∧ xInv w' ∧ xFr [58, 59, 60, 61, 62, 63, 64, 65, 66, 67] w w') := by
  refine xPi.of ?_
  show xTo (d + 5) mX11_fed (0, [], [(0, (2, 0)), (1, (0, ro))], [], (w, bd, fc, 0, 0, rr)) (fun φ => ∃ n w', xEnd 4 [(0, n)] (w', bd, fc, 0, 0, rr) φ ∧ (n ≤ 1) ∧ xInv w' ∧ xFr [58, 59, 60, 61, 62, 63, 64, 65, 66, 67] w w')
  have h0_1 := (xqc0 hI : cp0 (wget w 0))
  refine xoC1 (xqc1 hI : cp1 (wget w 1)) (fun f1_2 f1_4 f1_6 f1_8 f1_10 f1_12 h1_14 hb3 hb5 hb7 hb9 hb11 hb13 => ?_)
  refine xoC3 (xqc3 hI : cp3 (wget w 3)) (fun f3_15 f3_17 f3_19 f3_21 f3_23 h3_25 hb16 hb18 hb20 hb22 hb24 => ?_)
  refine xg_t (xg_blq rfl) ?_
  refine xg_t (xg_iload (va := (0, ro)) rfl rfl) ?_
  by_cases hc26 : ro < 2147483648
  · refine xg_t (xg_ifF (u := ro) rfl xnm0 (xjz_ltF hc26)) ?_
    refine xg_t (xg_iload (va := (0, ro)) rfl rfl) ?_
    refine xg_t (xg_aload (va := (2, 0)) rfl rfl) ?_
    refine xg_t (xg_getf (va := (2, 1)) h0_1 rfl) ?_
    refine xg_t (xg_getf (va := (2, 3)) h1_14 rfl) ?_
    refine xg_t (xg_getf (va := (0, f3_19)) h3_25 rfl) ?_
    by_cases hc27 : ro < f3_19
    · refine xg_t (xg_icT (u := ro) (v := f3_19) rfl xnm0 xnm0 (xj_ltT hc27 (by omega))) ?_
      refine xg_t (xg_blq rfl) ?_
      refine xg_t (xg_aload (va := (2, 0)) rfl rfl) ?_
      refine xg_t (xg_getf (va := (2, 58)) h0_1 rfl) ?_
      refine xoC58 (xqc58 hI : cp58 (wget w 58)) (fun f58_28 f58_30 f58_32 h58_34 hb29 hb31 hb33 => ?_)
      refine xg_cVv mX10_refresh (vs := []) (rest := []) (cn1 := 0) (sl1 := 0) rfl (wyRefresh (hI)) rfl h58_34 rfl rfl rfl rfl rfl rfl (fun w35 hq36 => ?_)
      obtain ⟨hI37, hF38⟩ := hq36
      refine xg_t (xg_aload (va := (2, 0)) rfl rfl) ?_
      refine xg_t (xg_getf (va := (2, 58)) (hF38.get (by decide) h0_1) rfl) ?_
      refine xoC58 (xqc58 hI37 : cp58 (wget w35 58)) (fun f58_39 f58_41 f58_43 h58_45 hb40 hb42 hb44 => ?_)
      refine xg_t (xg_getf (va := (2, 65)) h58_45 rfl) ?_
      refine xg_t (xg_iload (va := (0, ro)) rfl rfl) ?_
      obtain ⟨g65_46, h65_47, hb48⟩ := (xqc65 hI37 : cpK 2 0 6 37 1 (wget w35 65))
      have h65_47 : xRk 2 0 w35 65 6 37 g65_46 := h65_47
      refine xg_baldB (n := ro) (B := 1) h65_47 rfl (hb48) xnm0 (by omega) (fun u49 hu50 he51 => ?_)
      exact xg_e ⟨u49, w35, ⟨xret_b (by omega), rfl⟩, by omega, hI37, (hF38.up (by decide))⟩
    · refine xg_t (xg_icF (u := ro) (v := f3_19) rfl xnm0 xnm0 (xj_ltF (by omega) (by omega))) ?_
      refine xg_t (xg_blq rfl) ?_
      refine xg_t (xg_const) ?_
      exact xg_e ⟨0, w, ⟨rfl, rfl⟩, by first | decide | omega, hI, xFr.rf⟩
  · refine xg_t (xg_ifT (u := ro) rfl xnm0 (xjz_ltT (by omega) (by omega))) ?_
    refine xg_t (xg_blq rfl) ?_
    refine xg_t (xg_const) ?_
    exact xg_e ⟨0, w, ⟨rfl, rfl⟩, by first | decide | omega, hI, xFr.rf⟩
theorem scRefreshLamps (hI : xInv w)  : xPq (d + 5) mX11_refreshLamps [(2, 0)] w bd fc rr [] (fun w' => xInv w' ∧ xFr [58, 59, 60, 61, 62, 63, 64, 65, 66, 67, 68, 69, 70, 71] w w') := by
  refine xPq.of ?_
  show xTo (d + 5) mX11_refreshLamps (0, [], [(0, (2, 0))], [], (w, bd, fc, 0, 0, rr)) (fun φ => ∃ w', xEnd 0 [] (w', bd, fc, 0, 0, rr) φ ∧ xInv w' ∧ xFr [58, 59, 60, 61, 62, 63, 64, 65, 66, 67, 68, 69, 70, 71] w w')
  refine xg_t (xg_blq rfl) ?_
  refine xg_t (xg_aload (va := (2, 0)) rfl rfl) ?_
  have h0_1 := (xqc0 hI : cp0 (wget w 0))
  refine xg_t (xg_getf (va := (2, 58)) h0_1 rfl) ?_
  refine xoC58 (xqc58 hI : cp58 (wget w 58)) (fun f58_2 f58_4 f58_6 h58_8 hb3 hb5 hb7 => ?_)
  refine xg_cVv mX10_refresh (vs := []) (rest := []) (cn1 := 0) (sl1 := 0) rfl (wyRefresh (hI)) rfl h58_8 rfl rfl rfl rfl rfl rfl (fun w9 hq10 => ?_)
  obtain ⟨hI11, hF12⟩ := hq10
  refine xg_t (xg_aload (va := (2, 0)) rfl rfl) ?_
  refine xg_t (xg_getf (va := (2, 68)) (hF12.get (by decide) h0_1) rfl) ?_
  refine xoC68 (xqc68 hI11 : cp68 (wget w9 68)) (fun f68_13 f68_15 h68_17 hb14 hb16 => ?_)
  refine xg_cVv mX3_refreshAges (vs := []) (rest := []) (cn1 := 0) (sl1 := 0) rfl (lmRefreshAges (hI11)) rfl h68_17 rfl rfl rfl rfl rfl rfl (fun w18 hq19 => ?_)
  obtain ⟨hI20, hF21⟩ := hq19
  refine xg_t (xg_aload (va := (2, 0)) rfl rfl) ?_
  refine xg_t (xg_getf (va := (2, 68)) (hF21.get (by decide) (hF12.get (by decide) h0_1)) rfl) ?_
  refine xoC68 (xqc68 hI20 : cp68 (wget w18 68)) (fun f68_22 f68_24 h68_26 hb23 hb25 => ?_)
  refine xg_cVv mX3_refreshDamp (vs := []) (rest := []) (cn1 := 0) (sl1 := 0) rfl (lmRefreshDamp (hI20)) rfl h68_26 rfl rfl rfl rfl rfl rfl (fun w27 hq28 => ?_)
  obtain ⟨hI29, hF30⟩ := hq28
  exact xg_e ⟨w27, ⟨rfl, rfl⟩, hI29, (((hF12.up (by decide)).tr (hF21.up (by decide))).tr (hF30.up (by decide)))⟩
theorem scIsDark {ro co : Nat} (hI : xInv w) (hro : ro ≤ 5) (hco : co ≤ 5) : xPi (d + 2) mX11_isDark [(2, 0), (0, ro), (0, co)] w bd fc rr (fun n w' => (n ≤ 1) ∧ xInv w' ∧ xFr [] w w') := by
  refine xPi.of ?_
  show xTo (d + 2) mX11_isDark (0, [], [(0, (2, 0)), (1, (0, ro)), (2, (0, co))], [], (w, bd, fc, 0, 0, rr)) (fun φ => ∃ n w', xEnd 4 [(0, n)] (w', bd, fc, 0, 0, rr) φ ∧ (n ≤ 1) ∧ xInv w' ∧ xFr [] w w')
  refine xg_t (xg_blq rfl) ?_
  refine xg_t (xg_iload (va := (0, ro)) rfl rfl) ?_
  refine xg_t (xg_bip) ?_
  refine xg_t (xg_imul (u := ro) (v := 6) (z := ro * 6) xnm0 xnm0 (by omega)) ?_
  refine xg_t (xg_iload (va := (0, co)) rfl rfl) ?_
  refine xg_t (xg_iadd (u := ro * 6) (v := co) (z := (ro * 6) + co) xnm0 xnm0 (by omega)) ?_
  refine xg_t (xg_istore (l1 := [(0, (2, 0)), (1, (0, ro)), (2, (0, co))]) rfl rfl rfl) ?_
  refine xg_t (xg_aload (va := (2, 0)) rfl rfl) ?_
  have h0_1 := (xqc0 hI : cp0 (wget w 0))
  refine xg_t (xg_getf (va := (2, 58)) h0_1 rfl) ?_
  refine xoC58 (xqc58 hI : cp58 (wget w 58)) (fun f58_2 f58_4 f58_6 h58_8 hb3 hb5 hb7 => ?_)
  refine xg_t (xg_getf (va := (2, 65)) h58_8 rfl) ?_
  refine xg_t (xg_iload (va := (0, ro)) rfl rfl) ?_
  obtain ⟨g65_9, h65_10, hb11⟩ := (xqc65 hI : cpK 2 0 6 37 1 (wget w 65))
  have h65_10 : xRk 2 0 w 65 6 37 g65_9 := h65_10
  refine xg_baldB (n := ro) (B := 1) h65_10 rfl (hb11) xnm0 (by omega) (fun u12 hu13 he14 => ?_)
  by_cases hc15 : u12 = 0
  · refine xg_t (xg_ifT (u := u12) rfl xnm0 (xj_eqT hc15)) ?_
    refine xg_t (xg_blq rfl) ?_
    refine xg_t (xg_const) ?_
    refine xg_t (xg_goto) ?_
    refine xg_t (xg_blq rfl) ?_
    exact xg_e ⟨1, w, ⟨rfl, rfl⟩, by first | decide | omega, hI, xFr.rf⟩
  · refine xg_t (xg_ifF (u := u12) rfl xnm0 (xj_eqF hc15)) ?_
    refine xg_t (xg_aload (va := (2, 0)) rfl rfl) ?_
    refine xg_t (xg_getf (va := (2, 68)) h0_1 rfl) ?_
    refine xg_t (xg_iload (va := (0, (ro * 6) + co)) rfl rfl) ?_
    refine xoC68 (xqc68 hI : cp68 (wget w 68)) (fun f68_16 f68_18 h68_20 hb17 hb19 => ?_)
    refine xg_cVi mX3_leftOf (vs := [(0, (ro * 6) + co)]) (rest := []) (cn1 := 0) (sl1 := 0) rfl (lmLeftOf (hI) (by omega)) rfl h68_20 rfl rfl rfl rfl rfl rfl (fun n25 w21 hq22 => ?_)
    obtain ⟨hn26, hI23, hF24⟩ := hq22
    by_cases hc27 : n25 = 0
    · refine xg_t (xg_ifT (u := n25) rfl xnm0 (xj_eqT hc27)) ?_
      refine xg_t (xg_blq rfl) ?_
      refine xg_t (xg_const) ?_
      refine xg_t (xg_goto) ?_
      refine xg_t (xg_blq rfl) ?_
      exact xg_e ⟨1, w21, ⟨rfl, rfl⟩, by first | decide | omega, hI23, (hF24.up (by decide))⟩
    · refine xg_t (xg_ifF (u := n25) rfl xnm0 (xj_eqF hc27)) ?_
      refine xg_t (xg_aload (va := (2, 0)) rfl rfl) ?_
      refine xg_t (xg_getf (va := (2, 68)) (hF24.get (by decide) h0_1) rfl) ?_
      refine xg_t (xg_iload (va := (0, (ro * 6) + co)) rfl rfl) ?_
      refine xg_cVi mX3_isDamp (vs := [(0, (ro * 6) + co)]) (rest := []) (cn1 := 0) (sl1 := 0) rfl (lmIsDamp (hI23) (by omega)) rfl (hF24.get (by decide) h68_20) rfl rfl rfl rfl rfl rfl (fun n32 w28 hq29 => ?_)
      obtain ⟨hn33, hI30, hF31⟩ := hq29
      by_cases hc34 : n32 = 0
      · refine xg_t (xg_ifT (u := n32) rfl xnm0 (xj_eqT hc34)) ?_
        refine xg_t (xg_blq rfl) ?_
        refine xg_t (xg_const) ?_
        refine xg_t (xg_blq rfl) ?_
        exact xg_e ⟨0, w28, ⟨rfl, rfl⟩, by first | decide | omega, hI30, ((hF24.up (by decide)).tr (hF31.up (by decide)))⟩
      · refine xg_t (xg_ifF (u := n32) rfl xnm0 (xj_eqF hc34)) ?_
        refine xg_t (xg_blq rfl) ?_
        refine xg_t (xg_const) ?_
        refine xg_t (xg_goto) ?_
        refine xg_t (xg_blq rfl) ?_
        exact xg_e ⟨1, w28, ⟨rfl, rfl⟩, by first | decide | omega, hI30, ((hF24.up (by decide)).tr (hF31.up (by decide)))⟩
theorem scCountDark (hI : xInv w)  : xPi (d + 3) mX11_countDark [(2, 0)] w bd fc rr (fun n w' => (n ≤ 4294967295) ∧ xInv w' ∧ xFr [] w w') := by
  refine xPi.of ?_
  show xTo (d + 3) mX11_countDark (0, [], [(0, (2, 0))], [], (w, bd, fc, 0, 0, rr)) (fun φ => ∃ n w', xEnd 1 [(0, n)] (w', bd, fc, 0, 0, rr) φ ∧ (n ≤ 4294967295) ∧ xInv w' ∧ xFr [] w w')
  have h0_1 := (xqc0 hI : cp0 (wget w 0))
  refine xoC1 (xqc1 hI : cp1 (wget w 1)) (fun f1_2 f1_4 f1_6 f1_8 f1_10 f1_12 h1_14 hb3 hb5 hb7 hb9 hb11 hb13 => ?_)
  refine xoC3 (xqc3 hI : cp3 (wget w 3)) (fun f3_15 f3_17 f3_19 f3_21 f3_23 h3_25 hb16 hb18 hb20 hb22 hb24 => ?_)
  refine xg_t (xg_blq rfl) ?_
  refine xg_t (xg_const) ?_
  refine xg_t (xg_istore (l1 := [(0, (2, 0))]) rfl rfl rfl) ?_
  refine xg_t (xg_const) ?_
  refine xg_t (xg_istore (l1 := [(1, (0, 0)), (0, (2, 0))]) rfl rfl rfl) ?_
  refine xg_t (xg_drop (l1 := [(0, (2, 0)), (1, (0, 0)), (2, (0, 0))]) (List.forall_mem_cons.mpr ⟨List.mem_cons_of_mem _ (List.mem_cons_of_mem _ (List.mem_cons_self)), List.forall_mem_cons.mpr ⟨List.mem_cons_of_mem _ (List.mem_cons_self), List.forall_mem_cons.mpr ⟨List.mem_cons_self, fun _ h => absurd h List.not_mem_nil⟩⟩⟩)) ?_
  have key26 : ∀ (m28 : Nat) (da ro : Nat) (w29 : List (List xE)), 6 - ro < m28 → da ≤ 4294967295 → ro ≤ 6 → xInv w29 → xFr [] w w29 → xTo (d + 3) mX11_countDark (4, [], [(0, (2, 0)), (1, (0, da)), (2, (0, ro))], [], (w29, bd, fc, 0, 0, rr)) (fun φ => ∃ n w', xEnd 1 [(0, n)] (w', bd, fc, 0, 0, rr) φ ∧ (n ≤ 4294967295) ∧ xInv w' ∧ xFr [] w w') := by
    intro m28
    induction m28 with
    | zero => intro da ro w29 hz; exact absurd hz (Nat.not_lt_zero _)
    | succ m28 ih27 =>
      intro da ro w29 hm34 hn32 hn33 hI30 hF31
      refine xg_t (xg_blq rfl) ?_
      refine xg_t (xg_iload (va := (0, ro)) rfl rfl) ?_
      refine xg_t (xg_aload (va := (2, 0)) rfl rfl) ?_
      refine xg_t (xg_getf (va := (2, 1)) (hF31.get (by decide) h0_1) rfl) ?_
      refine xg_t (xg_getf (va := (2, 3)) (hF31.get (by decide) h1_14) rfl) ?_
      refine xg_t (xg_getf (va := (0, f3_19)) (hF31.get (by decide) h3_25) rfl) ?_
      by_cases hc35 : ro < f3_19
      · refine xg_t (xg_icF (u := ro) (v := f3_19) rfl xnm0 xnm0 (xj_geF hc35 (by omega))) ?_
        refine xg_t (xg_const) ?_
        refine xg_t (xg_istore (l1 := [(0, (2, 0)), (1, (0, da)), (2, (0, ro))]) rfl rfl rfl) ?_
        refine xg_t (xg_drop (l1 := [(0, (2, 0)), (1, (0, da)), (2, (0, ro)), (3, (0, 0))]) (List.forall_mem_cons.mpr ⟨List.mem_cons_of_mem _ (List.mem_cons_self), List.forall_mem_cons.mpr ⟨List.mem_cons_of_mem _ (List.mem_cons_of_mem _ (List.mem_cons_self)), List.forall_mem_cons.mpr ⟨List.mem_cons_of_mem _ (List.mem_cons_of_mem _ (List.mem_cons_of_mem _ (List.mem_cons_self))), List.forall_mem_cons.mpr ⟨List.mem_cons_self, fun _ h => absurd h List.not_mem_nil⟩⟩⟩⟩)) ?_
        have key36 : ∀ (m38 : Nat) (db co : Nat) (w39 : List (List xE)), 6 - co < m38 → db ≤ 4294967295 → co ≤ 6 → xInv w39 → xFr [] w w39 → xTo (d + 3) mX11_countDark (20, [], [(0, (2, 0)), (1, (0, db)), (2, (0, ro)), (3, (0, co))], [], (w39, bd, fc, 0, 0, rr)) (fun φ => ∃ n w', xEnd 1 [(0, n)] (w', bd, fc, 0, 0, rr) φ ∧ (n ≤ 4294967295) ∧ xInv w' ∧ xFr [] w w') := by
          intro m38
          induction m38 with
          | zero => intro db co w39 hz; exact absurd hz (Nat.not_lt_zero _)
          | succ m38 ih37 =>
            intro db co w39 hm44 hn42 hn43 hI40 hF41
            refine xg_t (xg_blq rfl) ?_
            refine xg_t (xg_iload (va := (0, co)) rfl rfl) ?_
            refine xg_t (xg_aload (va := (2, 0)) rfl rfl) ?_
            refine xg_t (xg_getf (va := (2, 1)) (hF41.get (by decide) h0_1) rfl) ?_
            refine xg_t (xg_getf (va := (2, 3)) (hF41.get (by decide) h1_14) rfl) ?_
            refine xg_t (xg_getf (va := (0, f3_21)) (hF41.get (by decide) h3_25) rfl) ?_
            by_cases hc45 : co < f3_21
            · refine xg_t (xg_icF (u := co) (v := f3_21) rfl xnm0 xnm0 (xj_geF hc45 (by omega))) ?_
              refine xg_t (xg_aload (va := (2, 0)) rfl rfl) ?_
              refine xg_t (xg_iload (va := (0, ro)) rfl rfl) ?_
              refine xg_t (xg_iload (va := (0, co)) rfl rfl) ?_
              refine xg_cVi mX11_isDark (vs := [(0, ro), (0, co)]) (rest := []) (cn1 := 0) (sl1 := 0) rfl (scIsDark (hI40) (by omega) (by omega)) rfl (hF41.get (by decide) h0_1) rfl rfl rfl rfl rfl rfl (fun n50 w46 hq47 => ?_)
              obtain ⟨hn51, hI48, hF49⟩ := hq47
              by_cases hc52 : n50 = 0
              · refine xg_t (xg_ifT (u := n50) rfl xnm0 (xj_eqT hc52)) ?_
                refine xg_t (xg_blq rfl) ?_
                refine xg_t (xg_iinc (u := co) (z := co + 1) (l1 := [(0, (2, 0)), (1, (0, db)), (2, (0, ro))]) rfl rfl (by omega) rfl) ?_
                refine xg_t (xg_goto) ?_
                refine xg_t (xg_drop (l1 := [(0, (2, 0)), (1, (0, db)), (2, (0, ro)), (3, (0, co + 1))]) (List.forall_mem_cons.mpr ⟨List.mem_cons_of_mem _ (List.mem_cons_self), List.forall_mem_cons.mpr ⟨List.mem_cons_of_mem _ (List.mem_cons_of_mem _ (List.mem_cons_self)), List.forall_mem_cons.mpr ⟨List.mem_cons_of_mem _ (List.mem_cons_of_mem _ (List.mem_cons_of_mem _ (List.mem_cons_self))), List.forall_mem_cons.mpr ⟨List.mem_cons_self, fun _ h => absurd h List.not_mem_nil⟩⟩⟩⟩)) ?_
                exact ih37 db (co + 1) w46 (by omega) (by omega) (by omega) (hI48) ((hF41.tr (hF49.up (by decide))))
              · refine xg_t (xg_ifF (u := n50) rfl xnm0 (xj_eqF hc52)) ?_
                refine xg_t (xg_iinc (u := db) (z := (db + 1) % 4294967296) (l1 := [(0, (2, 0)), (2, (0, ro)), (3, (0, co))]) rfl rfl (rfl) rfl) ?_
                refine xg_t (xg_blq rfl) ?_
                refine xg_t (xg_iinc (u := co) (z := co + 1) (l1 := [(1, (0, (db + 1) % 4294967296)), (0, (2, 0)), (2, (0, ro))]) rfl rfl (by omega) rfl) ?_
                refine xg_t (xg_goto) ?_
                refine xg_t (xg_drop (l1 := [(0, (2, 0)), (1, (0, (db + 1) % 4294967296)), (2, (0, ro)), (3, (0, co + 1))]) (List.forall_mem_cons.mpr ⟨List.mem_cons_of_mem _ (List.mem_cons_of_mem _ (List.mem_cons_self)), List.forall_mem_cons.mpr ⟨List.mem_cons_of_mem _ (List.mem_cons_self), List.forall_mem_cons.mpr ⟨List.mem_cons_of_mem _ (List.mem_cons_of_mem _ (List.mem_cons_of_mem _ (List.mem_cons_self))), List.forall_mem_cons.mpr ⟨List.mem_cons_self, fun _ h => absurd h List.not_mem_nil⟩⟩⟩⟩)) ?_
                exact ih37 ((db + 1) % 4294967296) (co + 1) w46 (by omega) (by omega) (by omega) (hI48) ((hF41.tr (hF49.up (by decide))))
            · refine xg_t (xg_icT (u := co) (v := f3_21) rfl xnm0 xnm0 (xj_geT (by omega) (by omega))) ?_
              refine xg_t (xg_blq rfl) ?_
              refine xg_t (xg_iinc (u := ro) (z := ro + 1) (l1 := [(0, (2, 0)), (1, (0, db)), (3, (0, co))]) rfl rfl (by omega) rfl) ?_
              refine xg_t (xg_goto) ?_
              refine xg_t (xg_drop (l1 := [(0, (2, 0)), (1, (0, db)), (2, (0, ro + 1))]) (List.forall_mem_cons.mpr ⟨List.mem_cons_of_mem _ (List.mem_cons_self), List.forall_mem_cons.mpr ⟨List.mem_cons_of_mem _ (List.mem_cons_of_mem _ (List.mem_cons_self)), List.forall_mem_cons.mpr ⟨List.mem_cons_self, fun _ h => absurd h List.not_mem_nil⟩⟩⟩)) ?_
              exact ih27 db (ro + 1) w39 (by omega) (by omega) (by omega) (hI40) (hF41)
        exact key36 _ da 0 w29 (Nat.lt_succ_self _) (by omega) (by omega) (hI30) (hF31)
      · refine xg_t (xg_icT (u := ro) (v := f3_19) rfl xnm0 xnm0 (xj_geT (by omega) (by omega))) ?_
        refine xg_t (xg_blq rfl) ?_
        refine xg_t (xg_iload (va := (0, da)) rfl rfl) ?_
        exact xg_e ⟨da, w29, ⟨rfl, rfl⟩, by omega, hI30, hF31⟩
  exact key26 _ 0 0 w (Nat.lt_succ_self _) (by omega) (by omega) (hI) (xFr.rf)
theorem scDark {ro co : Nat} (hI : xInv w) (hro : ro ≤ 4294967295) (hco : co ≤ 4294967295) : xPi (d + 6) mX11_dark [(2, 0), (0, ro), (0, co)] w bd fc rr (fun n w' => (n ≤ 1) ∧ xInv w' ∧ xFr [58, 59, 60, 61, 62, 63, 64, 65, 66, 67, 68, 69, 70, 71] w w') := by
  refine xPi.of ?_
  show xTo (d + 6) mX11_dark (0, [], [(0, (2, 0)), (1, (0, ro)), (2, (0, co))], [], (w, bd, fc, 0, 0, rr)) (fun φ => ∃ n w', xEnd 4 [(0, n)] (w', bd, fc, 0, 0, rr) φ ∧ (n ≤ 1) ∧ xInv w' ∧ xFr [58, 59, 60, 61, 62, 63, 64, 65, 66, 67, 68, 69, 70, 71] w w')
  refine xg_t (xg_blq rfl) ?_
  refine xg_t (xg_aload (va := (2, 0)) rfl rfl) ?_
  refine xg_t (xg_iload (va := (0, ro)) rfl rfl) ?_
  refine xg_t (xg_iload (va := (0, co)) rfl rfl) ?_
  have h0_1 := (xqc0 hI : cp0 (wget w 0))
  refine xg_cVi mX11_hasPoint (vs := [(0, ro), (0, co)]) (rest := []) (cn1 := 0) (sl1 := 0) rfl (scHasPoint (hI) (by omega) (by omega)) rfl h0_1 rfl rfl rfl rfl rfl rfl (fun n6 w2 hq3 => ?_)
  obtain ⟨hn7, hI4, hF5⟩ := hq3
  by_cases hc8 : n6 = 0
  · refine xg_t (xg_ifF (u := n6) rfl xnm0 (xj_neF hc8)) ?_
    refine xg_t (xg_const) ?_
    exact xg_e ⟨0, w2, ⟨rfl, rfl⟩, by first | decide | omega, hI4, (hF5.up (by decide))⟩
  · refine xg_t (xg_ifT (u := n6) rfl xnm0 (xj_neT hc8)) ?_
    refine xg_t (xg_blq rfl) ?_
    refine xg_t (xg_aload (va := (2, 0)) rfl rfl) ?_
    refine xg_cVv mX11_refreshLamps (vs := []) (rest := []) (cn1 := 0) (sl1 := 0) rfl (scRefreshLamps (hI4)) rfl (hF5.get (by decide) h0_1) rfl rfl rfl rfl rfl rfl (fun w9 hq10 => ?_)
    obtain ⟨hI11, hF12⟩ := hq10
    refine xg_t (xg_aload (va := (2, 0)) rfl rfl) ?_
    refine xg_t (xg_iload (va := (0, ro)) rfl rfl) ?_
    refine xg_t (xg_iload (va := (0, co)) rfl rfl) ?_
    refine xg_cVi mX11_isDark (vs := [(0, ro), (0, co)]) (rest := []) (cn1 := 0) (sl1 := 0) rfl (scIsDark (hI11) (by omega) (by omega)) rfl (hF12.get (by decide) (hF5.get (by decide) h0_1)) rfl rfl rfl rfl rfl rfl (fun n17 w13 hq14 => ?_)
    obtain ⟨hn18, hI15, hF16⟩ := hq14
    exact xg_e ⟨n17, w13, ⟨xret_b (by omega), rfl⟩, by omega, hI15, (((hF5.up (by decide)).tr (hF12.up (by decide))).tr (hF16.up (by decide)))⟩
theorem scDarks (hI : xInv w)  : xPi (d + 6) mX11_darks [(2, 0)] w bd fc rr (fun n w' => (n ≤ 4294967295) ∧ xInv w' ∧ xFr [58, 59, 60, 61, 62, 63, 64, 65, 66, 67, 68, 69, 70, 71] w w') := by
  refine xPi.of ?_
  show xTo (d + 6) mX11_darks (0, [], [(0, (2, 0))], [], (w, bd, fc, 0, 0, rr)) (fun φ => ∃ n w', xEnd 1 [(0, n)] (w', bd, fc, 0, 0, rr) φ ∧ (n ≤ 4294967295) ∧ xInv w' ∧ xFr [58, 59, 60, 61, 62, 63, 64, 65, 66, 67, 68, 69, 70, 71] w w')
  refine xg_t (xg_blq rfl) ?_
  refine xg_t (xg_aload (va := (2, 0)) rfl rfl) ?_
  have h0_1 := (xqc0 hI : cp0 (wget w 0))
  refine xg_cVv mX11_refreshLamps (vs := []) (rest := []) (cn1 := 0) (sl1 := 0) rfl (scRefreshLamps (hI)) rfl h0_1 rfl rfl rfl rfl rfl rfl (fun w2 hq3 => ?_)
  obtain ⟨hI4, hF5⟩ := hq3
  refine xg_t (xg_aload (va := (2, 0)) rfl rfl) ?_
  refine xg_cVi mX11_countDark (vs := []) (rest := []) (cn1 := 0) (sl1 := 0) rfl (scCountDark (hI4)) rfl (hF5.get (by decide) h0_1) rfl rfl rfl rfl rfl rfl (fun n10 w6 hq7 => ?_)
  obtain ⟨hn11, hI8, hF9⟩ := hq7
  exact xg_e ⟨n10, w6, ⟨rfl, rfl⟩, by omega, hI8, ((hF5.up (by decide)).tr (hF9.up (by decide)))⟩
theorem scLeads {ra ro co : Nat} (hI : xInv w) (hra : ra ≤ 1) (hro : ro ≤ 4294967295) (hco : co ≤ 4294967295) : xPi (d + 3) mX11_leads [(2, 0), (0, ra), (0, ro), (0, co)] w bd fc rr (fun n w' => (n ≤ 1) ∧ xInv w' ∧ xFr [] w w') := by
  refine xPi.of ?_
  show xTo (d + 3) mX11_leads (0, [], [(0, (2, 0)), (1, (0, ra)), (2, (0, ro)), (3, (0, co))], [], (w, bd, fc, 0, 0, rr)) (fun φ => ∃ n w', xEnd 4 [(0, n)] (w', bd, fc, 0, 0, rr) φ ∧ (n ≤ 1) ∧ xInv w' ∧ xFr [] w w')
  refine xg_t (xg_blq rfl) ?_
  refine xg_t (xg_aload (va := (2, 0)) rfl rfl) ?_
  refine xg_t (xg_iload (va := (0, ra)) rfl rfl) ?_
  refine xg_t (xg_iload (va := (0, ro)) rfl rfl) ?_
  refine xg_t (xg_iload (va := (0, co)) rfl rfl) ?_
  have h0_1 := (xqc0 hI : cp0 (wget w 0))
  refine xg_cVi mX11_hasPart (vs := [(0, ra), (0, ro), (0, co)]) (rest := []) (cn1 := 0) (sl1 := 0) rfl (scHasPart (hI) (by omega) (by omega) (by omega)) rfl h0_1 rfl rfl rfl rfl rfl rfl (fun n6 w2 hq3 => ?_)
  obtain ⟨hn7, hI4, hF5⟩ := hq3
  by_cases hc8 : n6 = 0
  · refine xg_t (xg_ifF (u := n6) rfl xnm0 (xj_neF hc8)) ?_
    refine xg_t (xg_const) ?_
    exact xg_e ⟨0, w2, ⟨rfl, rfl⟩, by first | decide | omega, hI4, (hF5.up (by decide))⟩
  · refine xg_t (xg_ifT (u := n6) rfl xnm0 (xj_neT hc8)) ?_
    refine xg_t (xg_blq rfl) ?_
    refine xg_t (xg_aload (va := (2, 0)) rfl rfl) ?_
    refine xg_t (xg_getf (va := (2, 1)) (hF5.get (by decide) h0_1) rfl) ?_
    refine xg_t (xg_iload (va := (0, ra)) rfl rfl) ?_
    refine xg_t (xg_iload (va := (0, ro)) rfl rfl) ?_
    refine xg_t (xg_iload (va := (0, co)) rfl rfl) ?_
    refine xoC1 (xqc1 hI4 : cp1 (wget w2 1)) (fun f1_9 f1_11 f1_13 f1_15 f1_17 f1_19 h1_21 hb10 hb12 hb14 hb16 hb18 hb20 => ?_)
    refine xg_cVi mX9_findCrack (vs := [(0, ra), (0, ro), (0, co)]) (rest := []) (cn1 := 0) (sl1 := 0) rfl (tdFindCrack (hI4) (by omega) (by omega) (by omega)) rfl h1_21 rfl rfl rfl rfl rfl rfl (fun n26 w22 hq23 => ?_)
    obtain ⟨hn27, hI24, hF25⟩ := hq23
    refine xg_t (xg_istore (l1 := [(0, (2, 0)), (1, (0, ra)), (2, (0, ro)), (3, (0, co))]) rfl rfl rfl) ?_
    refine xg_t (xg_iload (va := (0, n26)) rfl rfl) ?_
    refine xg_t (xg_const) ?_
    by_cases hc28 : n26 = 4294967295
    · refine xg_t (xg_icT (u := n26) (v := 4294967295) rfl xnm0 xnm0 (xj_eqT hc28)) ?_
      refine xg_t (xg_blq rfl) ?_
      refine xg_t (xg_const) ?_
      refine xg_t (xg_goto) ?_
      refine xg_t (xg_blq rfl) ?_
      exact xg_e ⟨1, w22, ⟨rfl, rfl⟩, by first | decide | omega, hI24, ((hF5.up (by decide)).tr (hF25.up (by decide)))⟩
    · refine xg_t (xg_icF (u := n26) (v := 4294967295) rfl xnm0 xnm0 (xj_eqF hc28)) ?_
      refine xg_t (xg_iload (va := (0, n26)) rfl rfl) ?_
      refine xg_t (xg_aload (va := (2, 0)) rfl rfl) ?_
      refine xg_t (xg_getf (va := (2, 1)) (hF25.get (by decide) (hF5.get (by decide) h0_1)) rfl) ?_
      refine xg_cVi mX9_cracksInView (vs := []) (rest := [(0, n26)]) (cn1 := 0) (sl1 := 0) rfl (tdCracksInView (hI24)) rfl (hF25.get (by decide) h1_21) rfl rfl rfl rfl rfl rfl (fun n33 w29 hq30 => ?_)
      obtain ⟨hn34, hI31, hF32⟩ := hq30
      by_cases hc35 : xbs n26 < xbs n33
      · have hc35u := hc35
        unfold xbs at hc35u
        have hn36 : n33 ≤ 40 := by omega
        refine xg_t (xg_icT (u := n26) (v := n33) rfl xnm0 xnm0 (xjs_ltT hc35)) ?_
        refine xg_t (xg_blq rfl) ?_
        refine xg_t (xg_const) ?_
        refine xg_t (xg_blq rfl) ?_
        exact xg_e ⟨0, w29, ⟨rfl, rfl⟩, by first | decide | omega, hI31, (((hF5.up (by decide)).tr (hF25.up (by decide))).tr (hF32.up (by decide)))⟩
      · have hc35u := hc35
        unfold xbs at hc35u
        have hn37 : n26 ≤ 2147483647 := by omega
        have hn38 : n33 ≤ 40 := by omega
        refine xg_t (xg_icF (u := n26) (v := n33) rfl xnm0 xnm0 (xjs_ltF hc35)) ?_
        refine xg_t (xg_blq rfl) ?_
        refine xg_t (xg_const) ?_
        refine xg_t (xg_goto) ?_
        refine xg_t (xg_blq rfl) ?_
        exact xg_e ⟨1, w29, ⟨rfl, rfl⟩, by first | decide | omega, hI31, (((hF5.up (by decide)).tr (hF25.up (by decide))).tr (hF32.up (by decide)))⟩
theorem scCost {cr co : Nat} (hI : xInv w) (hcr : cr ≤ 4294967295) (hco : co ≤ 4294967295) : xPi (d + 2) mX11_cost [(2, 0), (0, cr), (0, co)] w bd fc rr (fun n w' => (n ≤ 1) ∧ xInv w' ∧ xFr [15] w w') := by
  refine xPi.of ?_
  show xTo (d + 2) mX11_cost (0, [], [(0, (2, 0)), (1, (0, cr)), (2, (0, co))], [], (w, bd, fc, 0, 0, rr)) (fun φ => ∃ n w', xEnd 4 [(0, n)] (w', bd, fc, 0, 0, rr) φ ∧ (n ≤ 1) ∧ xInv w' ∧ xFr [15] w w')
  refine xg_t (xg_blq rfl) ?_
  refine xg_t (xg_aload (va := (2, 0)) rfl rfl) ?_
  have h0_1 := (xqc0 hI : cp0 (wget w 0))
  refine xg_t (xg_getf (va := (2, 1)) h0_1 rfl) ?_
  refine xoC1 (xqc1 hI : cp1 (wget w 1)) (fun f1_2 f1_4 f1_6 f1_8 f1_10 f1_12 h1_14 hb3 hb5 hb7 hb9 hb11 hb13 => ?_)
  refine xg_t (xg_getf (va := (2, 14)) h1_14 rfl) ?_
  refine xg_t (xg_iload (va := (0, cr)) rfl rfl) ?_
  obtain ⟨f14_15, h14_17, hb16⟩ := (xqc14 hI : cp14 (wget w 14))
  refine xg_t (xg_cVr mX5_has (vs := [(0, cr)]) (rest := []) (rs := [(0, if cr < f14_15 then 1 else 0)]) (cn1 := 0) (sl1 := 0) rfl (rhas_ok h14_17 (by decide) (by omega) (by omega)) rfl h14_17 rfl rfl rfl rfl rfl rfl rfl) ?_
  by_cases hc18 : cr < f14_15
  · refine xg_t (xg_ifF (u := (if cr < f14_15 then 1 else 0)) rfl xnm0 (xj_eqF (xite1 hc18))) ?_
    refine xg_t (xg_iload (va := (0, co)) rfl rfl) ?_
    refine xg_t (xg_const) ?_
    refine xg_t (xg_bip) ?_
    refine xg_t (xg_cSr mX11_isIn (vs := [(0, co), (0, 1), (0, 99)]) (rest := []) (rs := [(0, if 1 ≤ co ∧ co ≤ 99 then 1 else 0)]) (cn1 := 0) (sl1 := 0) rfl (isIn_ok (by omega) (by omega) (by omega)) rfl rfl rfl rfl rfl rfl rfl rfl) ?_
    by_cases hc19 : 1 ≤ co ∧ co ≤ 99
    · refine xg_t (xg_ifT (u := (if 1 ≤ co ∧ co ≤ 99 then 1 else 0)) rfl xnm0 (xj_neT (xite1 hc19))) ?_
      refine xg_t (xg_blq rfl) ?_
      refine xg_t (xg_aload (va := (2, 0)) rfl rfl) ?_
      refine xg_t (xg_getf (va := (2, 1)) h0_1 rfl) ?_
      refine xg_t (xg_getf (va := (2, 14)) h1_14 rfl) ?_
      refine xg_t (xg_iload (va := (0, cr)) rfl rfl) ?_
      refine xg_t (xg_const) ?_
      refine xg_t (xg_iload (va := (0, co)) rfl rfl) ?_
      refine xoI (xqc15 hI : cpI 200 6 4294967295 (wget w 15)) (fun g15_20 h15_21 hb22 => ?_)
      refine xg_cVv mX5_put (vs := [(0, cr), (0, 4), (0, co)]) (rest := []) (cn1 := 0) (sl1 := 0) rfl (rputI (lim := 40) (wd := 5) (B := 4294967295) h14_17 h15_21 (hb22) (by decide) (by omega) (by decide) (by decide) (by omega) (by omega) (by omega)) rfl h14_17 rfl rfl rfl rfl rfl rfl (fun w23 hq24 => ?_)
      obtain ⟨g25, hr26, hb27, hb28⟩ := hq24
      refine xg_t (xg_const) ?_
      exact xg_e ⟨1, w23, ⟨rfl, rfl⟩, by first | decide | omega, xInv.up (S := [15]) hI (xFr.of (S := [15]) hb28 (by decide)) (List.forall_mem_cons.mpr ⟨xqu15 (show cpI 200 6 4294967295 (wget w23 15) from ⟨_, hr26, hb27⟩), fun _ h => absurd h List.not_mem_nil⟩), (xFr.of (S := [15]) hb28 (by decide))⟩
    · refine xg_t (xg_ifF (u := (if 1 ≤ co ∧ co ≤ 99 then 1 else 0)) rfl xnm0 (xj_neF (xite0 hc19))) ?_
      refine xg_t (xg_blq rfl) ?_
      refine xg_t (xg_const) ?_
      exact xg_e ⟨0, w, ⟨rfl, rfl⟩, by first | decide | omega, hI, xFr.rf⟩
  · refine xg_t (xg_ifT (u := (if cr < f14_15 then 1 else 0)) rfl xnm0 (xj_eqT (xite0 hc18))) ?_
    refine xg_t (xg_blq rfl) ?_
    refine xg_t (xg_const) ?_
    exact xg_e ⟨0, w, ⟨rfl, rfl⟩, by first | decide | omega, hI, xFr.rf⟩
theorem scLasts {sh : Nat} (hI : xInv w) (hsh : sh ≤ 4294967295) : xPi (d + 4) mX11_lasts [(2, 0), (0, sh)] w bd fc rr (fun n w' => (n ≤ 4294967295) ∧ xInv w' ∧ xFr [68, 69] w w') := by
  refine xPi.of ?_
  show xTo (d + 4) mX11_lasts (0, [], [(0, (2, 0)), (1, (0, sh))], [], (w, bd, fc, 0, 0, rr)) (fun φ => ∃ n w', xEnd 1 [(0, n)] (w', bd, fc, 0, 0, rr) φ ∧ (n ≤ 4294967295) ∧ xInv w' ∧ xFr [68, 69] w w')
  refine xg_t (xg_blq rfl) ?_
  refine xg_t (xg_iload (va := (0, sh)) rfl rfl) ?_
  refine xg_t (xg_const) ?_
  refine xg_t (xg_const) ?_
  refine xg_t (xg_cSr mX11_isIn (vs := [(0, sh), (0, 0), (0, 5)]) (rest := []) (rs := [(0, if 0 ≤ sh ∧ sh ≤ 5 then 1 else 0)]) (cn1 := 0) (sl1 := 0) rfl (isIn_ok (by omega) (by omega) (by omega)) rfl rfl rfl rfl rfl rfl rfl rfl) ?_
  by_cases hc1 : 0 ≤ sh ∧ sh ≤ 5
  · refine xg_t (xg_ifF (u := (if 0 ≤ sh ∧ sh ≤ 5 then 1 else 0)) rfl xnm0 (xj_eqF (xite1 hc1))) ?_
    refine xg_t (xg_aload (va := (2, 0)) rfl rfl) ?_
    have h0_2 := (xqc0 hI : cp0 (wget w 0))
    refine xg_t (xg_getf (va := (2, 1)) h0_2 rfl) ?_
    refine xoC1 (xqc1 hI : cp1 (wget w 1)) (fun f1_3 f1_5 f1_7 f1_9 f1_11 f1_13 h1_15 hb4 hb6 hb8 hb10 hb12 hb14 => ?_)
    refine xg_t (xg_getf (va := (2, 16)) h1_15 rfl) ?_
    obtain ⟨f16_16, h16_18, hb17⟩ := (xqc16 hI : cp16 (wget w 16))
    refine xg_t (xg_getf (va := (0, f16_16)) h16_18 rfl) ?_
    by_cases hc19 : f16_16 = 0
    · refine xg_t (xg_ifF (u := f16_16) rfl xnm0 (xj_neF hc19)) ?_
      refine xg_t (xg_blq rfl) ?_
      refine xg_t (xg_const) ?_
      exact xg_e ⟨4294967295, w, ⟨rfl, rfl⟩, by first | decide | omega, hI, xFr.rf⟩
    · refine xg_t (xg_ifT (u := f16_16) rfl xnm0 (xj_neT hc19)) ?_
      refine xg_t (xg_blq rfl) ?_
      refine xg_t (xg_aload (va := (2, 0)) rfl rfl) ?_
      refine xg_t (xg_getf (va := (2, 68)) h0_2 rfl) ?_
      refine xoC68 (xqc68 hI : cp68 (wget w 68)) (fun f68_20 f68_22 h68_24 hb21 hb23 => ?_)
      refine xg_cVv mX3_refreshAges (vs := []) (rest := []) (cn1 := 0) (sl1 := 0) rfl (lmRefreshAges (hI)) rfl h68_24 rfl rfl rfl rfl rfl rfl (fun w25 hq26 => ?_)
      obtain ⟨hI27, hF28⟩ := hq26
      refine xg_t (xg_aload (va := (2, 0)) rfl rfl) ?_
      refine xg_t (xg_getf (va := (2, 68)) (hF28.get (by decide) h0_2) rfl) ?_
      refine xg_t (xg_iload (va := (0, sh)) rfl rfl) ?_
      refine xoC68 (xqc68 hI27 : cp68 (wget w25 68)) (fun f68_29 f68_31 h68_33 hb30 hb32 => ?_)
      refine xg_cVi mX3_roundsWith (vs := [(0, sh)]) (rest := []) (cn1 := 0) (sl1 := 0) rfl (lmRoundsWith (hI27) (by omega)) rfl h68_33 rfl rfl rfl rfl rfl rfl (fun n38 w34 hq35 => ?_)
      obtain ⟨hn39, hI36, hF37⟩ := hq35
      exact xg_e ⟨n38, w34, ⟨rfl, rfl⟩, by omega, hI36, ((hF28.up (by decide)).tr (hF37.up (by decide)))⟩
  · refine xg_t (xg_ifT (u := (if 0 ≤ sh ∧ sh ≤ 5 then 1 else 0)) rfl xnm0 (xj_eqT (xite0 hc1))) ?_
    refine xg_t (xg_blq rfl) ?_
    refine xg_t (xg_const) ?_
    exact xg_e ⟨4294967295, w, ⟨rfl, rfl⟩, by first | decide | omega, hI, xFr.rf⟩
end XSC
