section
/-! Lamps: every method ends and keeps what holds of the cells -/
section XLM
variable {d : Nat} {w : List (List xE)} {bd : List (Nat × Nat)} {fc : List (Nat × Nat × Bool)} {rr : Nat × Nat}
theorem lmLeftOf {pt : Nat} (hI : xInv w) (hp1 : pt ≤ 35) : xPi (d + 1) mX3_leftOf [(2, 68), (0, pt)] w bd fc rr (fun n w' => (n ≤ 4294967295) ∧ xInv w' ∧ xFr [] w w') := by
  refine xPi.of ?_
  show xTo (d + 1) mX3_leftOf (0, [], [(0, (2, 68)), (1, (0, pt))], [], (w, bd, fc, 0, 0, rr)) (fun φ => ∃ n w', xEnd 1 [(0, n)] (w', bd, fc, 0, 0, rr) φ ∧ (n ≤ 4294967295) ∧ xInv w' ∧ xFr [] w w')
  refine xg_t (xg_blq rfl) ?_
  refine xg_t (xg_const) ?_
  refine xg_t (xg_sip) ?_
  refine xg_t (xg_aload (va := (2, 68)) rfl rfl) ?_
  refine xoC68 (xqc68 hI : cp68 (wget w 68)) (fun f68_1 f68_3 h68_5 hb2 hb4 => ?_)
  refine xg_t (xg_getf (va := (2, 69)) h68_5 rfl) ?_
  refine xg_t (xg_iload (va := (0, pt)) rfl rfl) ?_
  refine xoI (xqc69 hI : cpI 36 40 4294967295 (wget w 69)) (fun g69_6 h69_7 hb8 => ?_)
  refine xg_ialdB (n := pt) (B := 4294967295) h69_7 (hb8) xnm0 (by omega) (fun u9 hu10 he11 => ?_)
  refine xg_t (xg_bip) ?_
  refine xg_k (xg_idivG (u := u9) (v := 10) (by decide) xnm0 xnm0) (xpt_lt _) (fun z12 hz13 => ?_)
  refine xg_k (xg_isub (u := 1000) (v := z12) (z := (1000 + (4294967296 - z12)) % 4294967296) xnm0 xnm0 rfl) (Nat.mod_lt _ (by decide)) (fun z14 hz15 => ?_)
  refine xg_maxK (u := 0) (v := z14) xnm0 xnm0 xmx_ok (by omega) (by omega) (fun z16 hz17 hz18 hz19 hz20 => ?_)
  unfold xbs at hz18 hz19
  exact xg_e ⟨z16, w, ⟨rfl, rfl⟩, by omega, hI, xFr.rf⟩
theorem lmIsDamp {pt : Nat} (hI : xInv w) (hp1 : pt ≤ 35) : xPi d mX3_isDamp [(2, 68), (0, pt)] w bd fc rr (fun n w' => (n ≤ 1) ∧ xInv w' ∧ xFr [] w w') := by
  refine xPi.of ?_
  show xTo d mX3_isDamp (0, [], [(0, (2, 68)), (1, (0, pt))], [], (w, bd, fc, 0, 0, rr)) (fun φ => ∃ n w', xEnd 4 [(0, n)] (w', bd, fc, 0, 0, rr) φ ∧ (n ≤ 1) ∧ xInv w' ∧ xFr [] w w')
  refine xg_t (xg_blq rfl) ?_
  refine xg_t (xg_aload (va := (2, 68)) rfl rfl) ?_
  refine xoC68 (xqc68 hI : cp68 (wget w 68)) (fun f68_1 f68_3 h68_5 hb2 hb4 => ?_)
  refine xg_t (xg_getf (va := (2, 70)) h68_5 rfl) ?_
  refine xg_t (xg_iload (va := (0, pt)) rfl rfl) ?_
  refine xoI (xqc70 hI : cpI 36 41 4294967295 (wget w 70)) (fun g70_6 h70_7 hb8 => ?_)
  refine xg_ialdB (n := pt) (B := 4294967295) h70_7 (hb8) xnm0 (by omega) (fun u9 hu10 he11 => ?_)
  refine xg_t (xg_bip) ?_
  by_cases hc12 : xbs u9 < xbs 50
  · have hc12u := hc12
    unfold xbs at hc12u
    refine xg_t (xg_icT (u := u9) (v := 50) rfl xnm0 xnm0 (xjs_ltT hc12)) ?_
    refine xg_t (xg_blq rfl) ?_
    refine xg_t (xg_const) ?_
    refine xg_t (xg_blq rfl) ?_
    exact xg_e ⟨0, w, ⟨rfl, rfl⟩, by first | decide | omega, hI, xFr.rf⟩
  · have hc12u := hc12
    unfold xbs at hc12u
    have hn13 : u9 ≤ 2147483647 := by omega
    refine xg_t (xg_icF (u := u9) (v := 50) rfl xnm0 xnm0 (xjs_ltF hc12)) ?_
    refine xg_t (xg_const) ?_
    refine xg_t (xg_goto) ?_
    refine xg_t (xg_blq rfl) ?_
    exact xg_e ⟨1, w, ⟨rfl, rfl⟩, by first | decide | omega, hI, xFr.rf⟩
theorem lmDampAt {ro co : Nat} (hI : xInv w) (hr1 : ro ≤ 4294967295) (hc1 : co ≤ 4294967295) : xPi d mX3_dampAt [(2, 68), (0, ro), (0, co)] w bd fc rr (fun n w' => (n ≤ 4294967295) ∧ xInv w' ∧ xFr [] w w') := by
  refine xPi.of ?_
  show xTo d mX3_dampAt (0, [], [(0, (2, 68)), (1, (0, ro)), (2, (0, co))], [], (w, bd, fc, 0, 0, rr)) (fun φ => ∃ n w', xEnd 1 [(0, n)] (w', bd, fc, 0, 0, rr) φ ∧ (n ≤ 4294967295) ∧ xInv w' ∧ xFr [] w w')
  refine xoC68 (xqc68 hI : cp68 (wget w 68)) (fun f68_1 f68_3 h68_5 hb2 hb4 => ?_)
  refine xoC1 (xqc1 hI : cp1 (wget w 1)) (fun f1_6 f1_8 f1_10 f1_12 f1_14 f1_16 h1_18 hb7 hb9 hb11 hb13 hb15 hb17 => ?_)
  refine xoC3 (xqc3 hI : cp3 (wget w 3)) (fun f3_19 f3_21 f3_23 f3_25 f3_27 h3_29 hb20 hb22 hb24 hb26 hb28 => ?_)
  refine xg_t (xg_blq rfl) ?_
  refine xg_t (xg_iload (va := (0, ro)) rfl rfl) ?_
  by_cases hc30 : ro < 2147483648
  · refine xg_t (xg_ifF (u := ro) rfl xnm0 (xjz_ltF hc30)) ?_
    refine xg_t (xg_iload (va := (0, ro)) rfl rfl) ?_
    refine xg_t (xg_aload (va := (2, 68)) rfl rfl) ?_
    refine xg_t (xg_getf (va := (2, 1)) h68_5 rfl) ?_
    refine xg_t (xg_getf (va := (2, 3)) h1_18 rfl) ?_
    refine xg_t (xg_getf (va := (0, f3_23)) h3_29 rfl) ?_
    by_cases hc31 : ro < f3_23
    · refine xg_t (xg_icF (u := ro) (v := f3_23) rfl xnm0 xnm0 (xj_geF hc31 (by omega))) ?_
      refine xg_t (xg_iload (va := (0, co)) rfl rfl) ?_
      by_cases hc32 : co < 2147483648
      · refine xg_t (xg_ifF (u := co) rfl xnm0 (xjz_ltF hc32)) ?_
        refine xg_t (xg_iload (va := (0, co)) rfl rfl) ?_
        refine xg_t (xg_aload (va := (2, 68)) rfl rfl) ?_
        refine xg_t (xg_getf (va := (2, 1)) h68_5 rfl) ?_
        refine xg_t (xg_getf (va := (2, 3)) h1_18 rfl) ?_
        refine xg_t (xg_getf (va := (0, f3_25)) h3_29 rfl) ?_
        by_cases hc33 : co < f3_25
        · refine xg_t (xg_icF (u := co) (v := f3_25) rfl xnm0 xnm0 (xj_geF hc33 (by omega))) ?_
          refine xg_t (xg_const) ?_
          refine xg_t (xg_goto) ?_
          refine xg_t (xg_blq rfl) ?_
          refine xg_t (xg_istore (l1 := [(0, (2, 68)), (1, (0, ro)), (2, (0, co))]) rfl rfl rfl) ?_
          refine xg_t (xg_iload (va := (0, 1)) rfl rfl) ?_
          refine xg_t (xg_ifF (u := 1) rfl xnm0 (by decide)) ?_
          refine xg_t (xg_aload (va := (2, 68)) rfl rfl) ?_
          refine xg_t (xg_getf (va := (2, 70)) h68_5 rfl) ?_
          refine xg_t (xg_iload (va := (0, ro)) rfl rfl) ?_
          refine xg_t (xg_bip) ?_
          refine xg_t (xg_imul (u := ro) (v := 6) (z := ro * 6) xnm0 xnm0 (by omega)) ?_
          refine xg_t (xg_iload (va := (0, co)) rfl rfl) ?_
          refine xg_t (xg_iadd (u := ro * 6) (v := co) (z := (ro * 6) + co) xnm0 xnm0 (by omega)) ?_
          refine xoI (xqc70 hI : cpI 36 41 4294967295 (wget w 70)) (fun g70_34 h70_35 hb36 => ?_)
          refine xg_ialdB (n := (ro * 6) + co) (B := 4294967295) h70_35 (hb36) xnm0 (by omega) (fun u37 hu38 he39 => ?_)
          refine xg_t (xg_goto) ?_
          refine xg_t (xg_blq rfl) ?_
          exact xg_e ⟨u37, w, ⟨rfl, rfl⟩, by omega, hI, xFr.rf⟩
        · refine xg_t (xg_icT (u := co) (v := f3_25) rfl xnm0 xnm0 (xj_geT (by omega) (by omega))) ?_
          refine xg_t (xg_blq rfl) ?_
          refine xg_t (xg_const) ?_
          refine xg_t (xg_blq rfl) ?_
          refine xg_t (xg_istore (l1 := [(0, (2, 68)), (1, (0, ro)), (2, (0, co))]) rfl rfl rfl) ?_
          refine xg_t (xg_iload (va := (0, 0)) rfl rfl) ?_
          refine xg_t (xg_ifT (u := 0) rfl xnm0 (by decide)) ?_
          refine xg_t (xg_blq rfl) ?_
          refine xg_t (xg_bip) ?_
          refine xg_t (xg_blq rfl) ?_
          exact xg_e ⟨100, w, ⟨rfl, rfl⟩, by first | decide | omega, hI, xFr.rf⟩
      · refine xg_t (xg_ifT (u := co) rfl xnm0 (xjz_ltT (by omega) (by omega))) ?_
        refine xg_t (xg_blq rfl) ?_
        refine xg_t (xg_const) ?_
        refine xg_t (xg_blq rfl) ?_
        refine xg_t (xg_istore (l1 := [(0, (2, 68)), (1, (0, ro)), (2, (0, co))]) rfl rfl rfl) ?_
        refine xg_t (xg_iload (va := (0, 0)) rfl rfl) ?_
        refine xg_t (xg_ifT (u := 0) rfl xnm0 (by decide)) ?_
        refine xg_t (xg_blq rfl) ?_
        refine xg_t (xg_bip) ?_
        refine xg_t (xg_blq rfl) ?_
        exact xg_e ⟨100, w, ⟨rfl, rfl⟩, by first | decide | omega, hI, xFr.rf⟩
    · refine xg_t (xg_icT (u := ro) (v := f3_23) rfl xnm0 xnm0 (xj_geT (by omega) (by omega))) ?_
      refine xg_t (xg_blq rfl) ?_
      refine xg_t (xg_const) ?_
      refine xg_t (xg_blq rfl) ?_
      refine xg_t (xg_istore (l1 := [(0, (2, 68)), (1, (0, ro)), (2, (0, co))]) rfl rfl rfl) ?_
      refine xg_t (xg_iload (va := (0, 0)) rfl rfl) ?_
      refine xg_t (xg_ifT (u := 0) rfl xnm0 (by decide)) ?_
      refine xg_t (xg_blq rfl) ?_
      refine xg_t (xg_bip) ?_
      refine xg_t (xg_blq rfl) ?_
      exact xg_e ⟨100, w, ⟨rfl, rfl⟩, by first | decide | omega, hI, xFr.rf⟩
  · refine xg_t (xg_ifT (u := ro) rfl xnm0 (xjz_ltT (by omega) (by omega))) ?_
    refine xg_t (xg_blq rfl) ?_
    refine xg_t (xg_const) ?_
    refine xg_t (xg_blq rfl) ?_
    refine xg_t (xg_istore (l1 := [(0, (2, 68)), (1, (0, ro)), (2, (0, co))]) rfl rfl rfl) ?_
    refine xg_t (xg_iload (va := (0, 0)) rfl rfl) ?_
    refine xg_t (xg_ifT (u := 0) rfl xnm0 (by decide)) ?_
    refine xg_t (xg_blq rfl) ?_
    refine xg_t (xg_bip) ?_
    refine xg_t (xg_blq rfl) ?_
    exact xg_e ⟨100, w, ⟨rfl, rfl⟩, by first | decide | omega, hI, xFr.rf⟩
theorem lmAgingIn {ro co : Nat} (hI : xInv w) (hr1 : ro ≤ 5) (hc1 : co ≤ 1000) : xPi d mX3_agingIn [(2, 68), (0, ro), (0, co)] w bd fc rr (fun n w' => (n ≤ 4294967295) ∧ xInv w' ∧ xFr [] w w') := by
  refine xPi.of ?_
  show xTo d mX3_agingIn (0, [], [(0, (2, 68)), (1, (0, ro)), (2, (0, co))], [], (w, bd, fc, 0, 0, rr)) (fun φ => ∃ n w', xEnd 1 [(0, n)] (w', bd, fc, 0, 0, rr) φ ∧ (n ≤ 4294967295) ∧ xInv w' ∧ xFr [] w w')
  refine xoC68 (xqc68 hI : cp68 (wget w 68)) (fun f68_1 f68_3 h68_5 hb2 hb4 => ?_)
  refine xoC1 (xqc1 hI : cp1 (wget w 1)) (fun f1_6 f1_8 f1_10 f1_12 f1_14 f1_16 h1_18 hb7 hb9 hb11 hb13 hb15 hb17 => ?_)
  refine xoC3 (xqc3 hI : cp3 (wget w 3)) (fun f3_19 f3_21 f3_23 f3_25 f3_27 h3_29 hb20 hb22 hb24 hb26 hb28 => ?_)
  refine xg_t (xg_blq rfl) ?_
  refine xg_t (xg_aload (va := (2, 68)) rfl rfl) ?_
  refine xg_t (xg_getf (va := (2, 1)) h68_5 rfl) ?_
  refine xg_t (xg_getf (va := (2, 3)) h1_18 rfl) ?_
  refine xg_t (xg_getf (va := (0, f3_25)) h3_29 rfl) ?_
  refine xg_t (xg_istore (l1 := [(0, (2, 68)), (1, (0, ro)), (2, (0, co))]) rfl rfl rfl) ?_
  refine xg_t (xg_iload (va := (0, f3_25)) rfl rfl) ?_
  by_cases hc30 : f3_25 = 0
  · refine xg_t (xg_ifF (u := f3_25) rfl xnm0 (xj_neF hc30)) ?_
    refine xg_t (xg_const) ?_
    refine xg_t (xg_goto) ?_
    refine xg_t (xg_blq rfl) ?_
    exact xg_e ⟨0, w, ⟨rfl, rfl⟩, by first | decide | omega, hI, xFr.rf⟩
  · refine xg_t (xg_ifT (u := f3_25) rfl xnm0 (xj_neT hc30)) ?_
    refine xg_t (xg_blq rfl) ?_
    refine xg_t (xg_aload (va := (2, 68)) rfl rfl) ?_
    refine xg_t (xg_getf (va := (2, 69)) h68_5 rfl) ?_
    refine xg_t (xg_iload (va := (0, ro)) rfl rfl) ?_
    refine xg_t (xg_bip) ?_
    refine xg_t (xg_imul (u := ro) (v := 6) (z := ro * 6) xnm0 xnm0 (by omega)) ?_
    refine xg_t (xg_iload (va := (0, co)) rfl rfl) ?_
    refine xg_t (xg_iload (va := (0, f3_25)) rfl rfl) ?_
    have hm31 := Nat.mod_lt co (show 0 < f3_25 by omega)
    refine xg_t (xg_irem (u := co) (v := f3_25) (z := co % f3_25) xnm0 xnm0 (by omega) (by omega) (by omega) (rfl)) ?_
    refine xg_t (xg_iadd (u := ro * 6) (v := co % f3_25) (z := (ro * 6) + (co % f3_25)) xnm0 xnm0 (by omega)) ?_
    refine xoI (xqc69 hI : cpI 36 40 4294967295 (wget w 69)) (fun g69_32 h69_33 hb34 => ?_)
    refine xg_ialdB (n := (ro * 6) + (co % f3_25)) (B := 4294967295) h69_33 (hb34) xnm0 (by omega) (fun u35 hu36 he37 => ?_)
    refine xg_t (xg_blq rfl) ?_
    exact xg_e ⟨u35, w, ⟨rfl, rfl⟩, by omega, hI, xFr.rf⟩
theorem lmAddPicture {kk : Nat} (hI : xInv w) (hk1 : kk ≤ 4294967295) : xPq (d + 2) mX3_addPicture [(2, 68), (0, kk)] w bd fc rr [] (fun w' => xInv w' ∧ xFr [69] w w') := by
  refine xPq.of ?_
  show xTo (d + 2) mX3_addPicture (0, [], [(0, (2, 68)), (1, (0, kk))], [], (w, bd, fc, 0, 0, rr)) (fun φ => ∃ w', xEnd 0 [] (w', bd, fc, 0, 0, rr) φ ∧ xInv w' ∧ xFr [69] w w')
  refine xoC68 (xqc68 hI : cp68 (wget w 68)) (fun f68_1 f68_3 h68_5 hb2 hb4 => ?_)
  refine xoC1 (xqc1 hI : cp1 (wget w 1)) (fun f1_6 f1_8 f1_10 f1_12 f1_14 f1_16 h1_18 hb7 hb9 hb11 hb13 hb15 hb17 => ?_)
  obtain ⟨f16_19, h16_21, hb20⟩ := (xqc16 hI : cp16 (wget w 16))
  refine xoI (xqc17 hI : cpI 60 7 4294967295 (wget w 17)) (fun g17_22 h17_23 hb24 => ?_)
  refine xg_t (xg_blq rfl) ?_
  refine xg_t (xg_aload (va := (2, 68)) rfl rfl) ?_
  refine xg_t (xg_getf (va := (2, 1)) h68_5 rfl) ?_
  refine xg_t (xg_getf (va := (2, 16)) h1_18 rfl) ?_
  refine xg_t (xg_iload (va := (0, kk)) rfl rfl) ?_
  refine xg_t (xg_const) ?_
  refine xg_k (xg_cVr mX5_get (vs := [(0, kk), (0, 1)]) (rest := []) (rs := [(0, if kk < f16_19 ∧ 1 < 5 then g17_22 (kk * 5 + 1) else 4294967295)]) (cn1 := 0) (sl1 := 0) rfl (rget_ok (lim := 12) (wd := 5) (sz := f16_19) h16_21 h17_23 (by decide) (by omega) (by decide) (by decide) (by omega) (by omega)) rfl h16_21 rfl rfl rfl rfl rfl rfl rfl) (xiteb (hb24)) (fun z25 hz26 => ?_)
  refine xg_t (xg_const) ?_
  refine xg_minK (u := z25) (v := 5) xnm0 xnm0 xmx_ok (by omega) (by omega) (fun z27 hz28 hz29 hz30 hz31 => ?_)
  unfold xbs at hz29 hz30
  refine xg_t (xg_istore (l1 := [(0, (2, 68)), (1, (0, kk))]) rfl rfl rfl) ?_
  refine xg_t (xg_aload (va := (2, 68)) rfl rfl) ?_
  refine xg_t (xg_getf (va := (2, 1)) h68_5 rfl) ?_
  refine xg_t (xg_getf (va := (2, 16)) h1_18 rfl) ?_
  refine xg_t (xg_iload (va := (0, kk)) rfl rfl) ?_
  refine xg_t (xg_const) ?_
  refine xg_k (xg_cVr mX5_get (vs := [(0, kk), (0, 3)]) (rest := []) (rs := [(0, if kk < f16_19 ∧ 3 < 5 then g17_22 (kk * 5 + 3) else 4294967295)]) (cn1 := 0) (sl1 := 0) rfl (rget_ok (lim := 12) (wd := 5) (sz := f16_19) h16_21 h17_23 (by decide) (by omega) (by decide) (by decide) (by omega) (by omega)) rfl h16_21 rfl rfl rfl rfl rfl rfl rfl) (xiteb (hb24)) (fun z32 hz33 => ?_)
  refine xg_t (xg_const) ?_
  refine xg_minK (u := z32) (v := 5) xnm0 xnm0 xmx_ok (by omega) (by omega) (fun z34 hz35 hz36 hz37 hz38 => ?_)
  unfold xbs at hz36 hz37
  refine xg_t (xg_istore (l1 := [(2, (0, z27)), (0, (2, 68)), (1, (0, kk))]) rfl rfl rfl) ?_
  refine xg_t (xg_aload (va := (2, 68)) rfl rfl) ?_
  refine xg_t (xg_getf (va := (2, 1)) h68_5 rfl) ?_
  refine xg_t (xg_getf (va := (2, 16)) h1_18 rfl) ?_
  refine xg_t (xg_iload (va := (0, kk)) rfl rfl) ?_
  refine xg_t (xg_const) ?_
  refine xg_k (xg_cVr mX5_get (vs := [(0, kk), (0, 4)]) (rest := []) (rs := [(0, if kk < f16_19 ∧ 4 < 5 then g17_22 (kk * 5 + 4) else 4294967295)]) (cn1 := 0) (sl1 := 0) rfl (rget_ok (lim := 12) (wd := 5) (sz := f16_19) h16_21 h17_23 (by decide) (by omega) (by decide) (by decide) (by omega) (by omega)) rfl h16_21 rfl rfl rfl rfl rfl rfl rfl) (xiteb (hb24)) (fun z39 hz40 => ?_)
  refine xg_t (xg_istore (l1 := [(3, (0, z34)), (2, (0, z27)), (0, (2, 68)), (1, (0, kk))]) rfl rfl rfl) ?_
  refine xg_t (xg_aload (va := (2, 68)) rfl rfl) ?_
  refine xg_t (xg_getf (va := (2, 1)) h68_5 rfl) ?_
  refine xg_t (xg_getf (va := (2, 16)) h1_18 rfl) ?_
  refine xg_t (xg_iload (va := (0, kk)) rfl rfl) ?_
  refine xg_t (xg_const) ?_
  refine xg_k (xg_cVr mX5_get (vs := [(0, kk), (0, 0)]) (rest := []) (rs := [(0, if kk < f16_19 ∧ 0 < 5 then g17_22 (kk * 5 + 0) else 4294967295)]) (cn1 := 0) (sl1 := 0) rfl (rget_ok (lim := 12) (wd := 5) (sz := f16_19) h16_21 h17_23 (by decide) (by omega) (by decide) (by decide) (by omega) (by omega)) rfl h16_21 rfl rfl rfl rfl rfl rfl rfl) (xiteb (hb24)) (fun z41 hz42 => ?_)
  refine xg_t (xg_const) ?_
  refine xg_maxK (u := z41) (v := 0) xnm0 xnm0 xmx_ok (by omega) (by omega) (fun z43 hz44 hz45 hz46 hz47 => ?_)
  unfold xbs at hz45 hz46
  refine xg_t (xg_istore (l1 := [(4, (0, z39)), (3, (0, z34)), (2, (0, z27)), (0, (2, 68)), (1, (0, kk))]) rfl rfl rfl) ?_
  refine xg_t (xg_drop (l1 := [(0, (2, 68)), (1, (0, kk)), (2, (0, z27)), (3, (0, z34)), (4, (0, z39)), (5, (0, z43))]) (List.forall_mem_cons.mpr ⟨List.mem_cons_of_mem _ (List.mem_cons_of_mem _ (List.mem_cons_of_mem _ (List.mem_cons_of_mem _ (List.mem_cons_self)))), List.forall_mem_cons.mpr ⟨List.mem_cons_of_mem _ (List.mem_cons_of_mem _ (List.mem_cons_of_mem _ (List.mem_cons_of_mem _ (List.mem_cons_of_mem _ (List.mem_cons_self))))), List.forall_mem_cons.mpr ⟨List.mem_cons_of_mem _ (List.mem_cons_of_mem _ (List.mem_cons_of_mem _ (List.mem_cons_self))), List.forall_mem_cons.mpr ⟨List.mem_cons_of_mem _ (List.mem_cons_of_mem _ (List.mem_cons_self)), List.forall_mem_cons.mpr ⟨List.mem_cons_of_mem _ (List.mem_cons_self), List.forall_mem_cons.mpr ⟨List.mem_cons_self, fun _ h => absurd h List.not_mem_nil⟩⟩⟩⟩⟩⟩)) ?_
  have key48 : ∀ (m50 : Nat) (ro : Nat) (w51 : List (List xE)), 6 - ro < m50 → ro ≤ 2147483647 → xInv w51 → xFr [69] w w51 → xTo (d + 2) mX3_addPicture (66, [], [(0, (2, 68)), (1, (0, kk)), (2, (0, z27)), (3, (0, z34)), (4, (0, z39)), (5, (0, ro))], [], (w51, bd, fc, 0, 0, rr)) (fun φ => ∃ w', xEnd 0 [] (w', bd, fc, 0, 0, rr) φ ∧ xInv w' ∧ xFr [69] w w') := by
    intro m50
    induction m50 with
    | zero => intro ro w51 hz; exact absurd hz (Nat.not_lt_zero _)
    | succ m50 ih49 =>
      intro ro w51 hm55 hn54 hI52 hF53
      refine xg_t (xg_blq rfl) ?_
      refine xg_t (xg_iload (va := (0, ro)) rfl rfl) ?_
      refine xg_t (xg_iload (va := (0, z27)) rfl rfl) ?_
      by_cases hc56 : xbs z27 < xbs ro
      · have hc56u := hc56
        unfold xbs at hc56u
        have hn57 : ro ≤ 2147483647 := by omega
        refine xg_t (xg_icT (u := ro) (v := z27) rfl xnm0 xnm0 (xjs_gtT hc56)) ?_
        refine xg_t (xg_blq rfl) ?_
        exact xg_e ⟨w51, ⟨rfl, rfl⟩, hI52, hF53⟩
      · have hc56u := hc56
        unfold xbs at hc56u
        have hn58 : z27 ≤ 5 := by omega
        have hn59 : ro ≤ 5 := by omega
        refine xg_t (xg_icF (u := ro) (v := z27) rfl xnm0 xnm0 (xjs_gtF hc56)) ?_
        refine xg_t (xg_aload (va := (2, 68)) rfl rfl) ?_
        refine xg_t (xg_getf (va := (2, 1)) (hF53.get (by decide) h68_5) rfl) ?_
        refine xg_t (xg_getf (va := (2, 16)) (hF53.get (by decide) h1_18) rfl) ?_
        refine xg_t (xg_iload (va := (0, kk)) rfl rfl) ?_
        refine xg_t (xg_const) ?_
        refine xg_k (xg_cVr mX5_get (vs := [(0, kk), (0, 2)]) (rest := []) (rs := [(0, if kk < f16_19 ∧ 2 < 5 then g17_22 (kk * 5 + 2) else 4294967295)]) (cn1 := 0) (sl1 := 0) rfl (rget_ok (lim := 12) (wd := 5) (sz := f16_19) (hF53.get (by decide) h16_21) (h17_23.fr hF53 (by decide)) (by decide) (by omega) (by decide) (by decide) (by omega) (by omega)) rfl (hF53.get (by decide) h16_21) rfl rfl rfl rfl rfl rfl rfl) (xiteb (hb24)) (fun z60 hz61 => ?_)
        refine xg_t (xg_const) ?_
        refine xg_maxK (u := z60) (v := 0) xnm0 xnm0 xmx_ok (by omega) (by omega) (fun z62 hz63 hz64 hz65 hz66 => ?_)
        unfold xbs at hz64 hz65
        refine xg_t (xg_istore (l1 := [(0, (2, 68)), (1, (0, kk)), (2, (0, z27)), (3, (0, z34)), (4, (0, z39)), (5, (0, ro))]) rfl rfl rfl) ?_
        refine xg_t (xg_drop (l1 := [(0, (2, 68)), (1, (0, kk)), (2, (0, z27)), (3, (0, z34)), (4, (0, z39)), (5, (0, ro)), (6, (0, z62))]) (List.forall_mem_cons.mpr ⟨List.mem_cons_of_mem _ (List.mem_cons_self), List.forall_mem_cons.mpr ⟨List.mem_cons_of_mem _ (List.mem_cons_of_mem _ (List.mem_cons_self)), List.forall_mem_cons.mpr ⟨List.mem_cons_of_mem _ (List.mem_cons_of_mem _ (List.mem_cons_of_mem _ (List.mem_cons_self))), List.forall_mem_cons.mpr ⟨List.mem_cons_of_mem _ (List.mem_cons_of_mem _ (List.mem_cons_of_mem _ (List.mem_cons_of_mem _ (List.mem_cons_self)))), List.forall_mem_cons.mpr ⟨List.mem_cons_of_mem _ (List.mem_cons_of_mem _ (List.mem_cons_of_mem _ (List.mem_cons_of_mem _ (List.mem_cons_of_mem _ (List.mem_cons_self))))), List.forall_mem_cons.mpr ⟨List.mem_cons_of_mem _ (List.mem_cons_of_mem _ (List.mem_cons_of_mem _ (List.mem_cons_of_mem _ (List.mem_cons_of_mem _ (List.mem_cons_of_mem _ (List.mem_cons_self)))))), List.forall_mem_cons.mpr ⟨List.mem_cons_self, fun _ h => absurd h List.not_mem_nil⟩⟩⟩⟩⟩⟩⟩)) ?_
        have key67 : ∀ (m69 : Nat) (co : Nat) (w70 : List (List xE)), 6 - co < m69 → co ≤ 2147483647 → xInv w70 → xFr [69] w w70 → xTo (d + 2) mX3_addPicture (90, [], [(0, (2, 68)), (1, (0, kk)), (2, (0, z27)), (3, (0, z34)), (4, (0, z39)), (5, (0, ro)), (6, (0, co))], [], (w70, bd, fc, 0, 0, rr)) (fun φ => ∃ w', xEnd 0 [] (w', bd, fc, 0, 0, rr) φ ∧ xInv w' ∧ xFr [69] w w') := by
          intro m69
          induction m69 with
          | zero => intro co w70 hz; exact absurd hz (Nat.not_lt_zero _)
          | succ m69 ih68 =>
            intro co w70 hm74 hn73 hI71 hF72
            refine xg_t (xg_blq rfl) ?_
            refine xg_t (xg_iload (va := (0, co)) rfl rfl) ?_
            refine xg_t (xg_iload (va := (0, z34)) rfl rfl) ?_
            by_cases hc75 : xbs z34 < xbs co
            · have hc75u := hc75
              unfold xbs at hc75u
              have hn76 : co ≤ 2147483647 := by omega
              refine xg_t (xg_icT (u := co) (v := z34) rfl xnm0 xnm0 (xjs_gtT hc75)) ?_
              refine xg_t (xg_blq rfl) ?_
              refine xg_t (xg_iinc (u := ro) (z := ro + 1) (l1 := [(0, (2, 68)), (1, (0, kk)), (2, (0, z27)), (3, (0, z34)), (4, (0, z39)), (6, (0, co))]) rfl rfl (by omega) rfl) ?_
              refine xg_t (xg_goto) ?_
              refine xg_t (xg_drop (l1 := [(0, (2, 68)), (1, (0, kk)), (2, (0, z27)), (3, (0, z34)), (4, (0, z39)), (5, (0, ro + 1))]) (List.forall_mem_cons.mpr ⟨List.mem_cons_of_mem _ (List.mem_cons_self), List.forall_mem_cons.mpr ⟨List.mem_cons_of_mem _ (List.mem_cons_of_mem _ (List.mem_cons_self)), List.forall_mem_cons.mpr ⟨List.mem_cons_of_mem _ (List.mem_cons_of_mem _ (List.mem_cons_of_mem _ (List.mem_cons_self))), List.forall_mem_cons.mpr ⟨List.mem_cons_of_mem _ (List.mem_cons_of_mem _ (List.mem_cons_of_mem _ (List.mem_cons_of_mem _ (List.mem_cons_self)))), List.forall_mem_cons.mpr ⟨List.mem_cons_of_mem _ (List.mem_cons_of_mem _ (List.mem_cons_of_mem _ (List.mem_cons_of_mem _ (List.mem_cons_of_mem _ (List.mem_cons_self))))), List.forall_mem_cons.mpr ⟨List.mem_cons_self, fun _ h => absurd h List.not_mem_nil⟩⟩⟩⟩⟩⟩)) ?_
              exact ih49 (ro + 1) w70 (by omega) (by omega) (hI71) (hF72)
            · have hc75u := hc75
              unfold xbs at hc75u
              have hn77 : z34 ≤ 5 := by omega
              have hn78 : co ≤ 5 := by omega
              refine xg_t (xg_icF (u := co) (v := z34) rfl xnm0 xnm0 (xjs_gtF hc75)) ?_
              refine xg_t (xg_aload (va := (2, 68)) rfl rfl) ?_
              refine xg_t (xg_getf (va := (2, 69)) (hF72.get (by decide) h68_5) rfl) ?_
              refine xg_t (xg_iload (va := (0, ro)) rfl rfl) ?_
              refine xg_t (xg_bip) ?_
              refine xg_t (xg_imul (u := ro) (v := 6) (z := ro * 6) xnm0 xnm0 (by omega)) ?_
              refine xg_t (xg_iload (va := (0, co)) rfl rfl) ?_
              refine xg_t (xg_iadd (u := ro * 6) (v := co) (z := (ro * 6) + co) xnm0 xnm0 (by omega)) ?_
              refine xg_t (xg_dup2 rfl) ?_
              refine xoI (xqc69 hI71 : cpI 36 40 4294967295 (wget w70 69)) (fun g69_79 h69_80 hb81 => ?_)
              refine xg_ialdB (n := (ro * 6) + co) (B := 4294967295) h69_80 (hb81) xnm0 (by omega) (fun u82 hu83 he84 => ?_)
              refine xg_t (xg_iload (va := (0, z39)) rfl rfl) ?_
              refine xg_k (xg_iadd (u := u82) (v := z39) (z := (u82 + z39) % 4294967296) xnm0 xnm0 rfl) (Nat.mod_lt _ (by decide)) (fun z85 hz86 => ?_)
              refine xg_iastK (n := (ro * 6) + co) (u := z85) h69_80 xnm0 xnm0 rfl (by omega) (fun w87 hr88 hb89 => ?_)
              refine xg_t (xg_iinc (u := co) (z := co + 1) (l1 := [(0, (2, 68)), (1, (0, kk)), (2, (0, z27)), (3, (0, z34)), (4, (0, z39)), (5, (0, ro))]) rfl rfl (by omega) rfl) ?_
              refine xg_t (xg_goto) ?_
              refine xg_t (xg_drop (l1 := [(0, (2, 68)), (1, (0, kk)), (2, (0, z27)), (3, (0, z34)), (4, (0, z39)), (5, (0, ro)), (6, (0, co + 1))]) (List.forall_mem_cons.mpr ⟨List.mem_cons_of_mem _ (List.mem_cons_self), List.forall_mem_cons.mpr ⟨List.mem_cons_of_mem _ (List.mem_cons_of_mem _ (List.mem_cons_self)), List.forall_mem_cons.mpr ⟨List.mem_cons_of_mem _ (List.mem_cons_of_mem _ (List.mem_cons_of_mem _ (List.mem_cons_self))), List.forall_mem_cons.mpr ⟨List.mem_cons_of_mem _ (List.mem_cons_of_mem _ (List.mem_cons_of_mem _ (List.mem_cons_of_mem _ (List.mem_cons_self)))), List.forall_mem_cons.mpr ⟨List.mem_cons_of_mem _ (List.mem_cons_of_mem _ (List.mem_cons_of_mem _ (List.mem_cons_of_mem _ (List.mem_cons_of_mem _ (List.mem_cons_self))))), List.forall_mem_cons.mpr ⟨List.mem_cons_of_mem _ (List.mem_cons_of_mem _ (List.mem_cons_of_mem _ (List.mem_cons_of_mem _ (List.mem_cons_of_mem _ (List.mem_cons_of_mem _ (List.mem_cons_self)))))), List.forall_mem_cons.mpr ⟨List.mem_cons_self, fun _ h => absurd h List.not_mem_nil⟩⟩⟩⟩⟩⟩⟩)) ?_
              exact ih68 (co + 1) w87 (by omega) (by omega) (xInv.up (S := [69]) hI71 (xFr.of (S := [69]) hb89 (by decide)) (List.forall_mem_cons.mpr ⟨xqu69 (show cpI 36 40 4294967295 (wget w87 69) from ⟨_, hr88, xrb (by omega) (hb81)⟩), fun _ h => absurd h List.not_mem_nil⟩)) ((hF72.tr (xFr.of (S := [69]) hb89 (by decide))))
        exact key67 _ z62 w51 (Nat.lt_succ_self _) (by omega) (hI52) (hF53)
  exact key48 _ z43 w (Nat.lt_succ_self _) (by omega) (hI) (xFr.rf)
theorem lmRefreshAges (hI : xInv w)  : xPq (d + 3) mX3_refreshAges [(2, 68)] w bd fc rr [] (fun w' => xInv w' ∧ xFr [68, 69] w w') := by
  refine xPq.of ?_
  show xTo (d + 3) mX3_refreshAges (0, [], [(0, (2, 68))], [], (w, bd, fc, 0, 0, rr)) (fun φ => ∃ w', xEnd 0 [] (w', bd, fc, 0, 0, rr) φ ∧ xInv w' ∧ xFr [68, 69] w w')
  refine xoC68 (xqc68 hI : cp68 (wget w 68)) (fun f68_1 f68_3 h68_5 hb2 hb4 => ?_)
  refine xoC1 (xqc1 hI : cp1 (wget w 1)) (fun f1_6 f1_8 f1_10 f1_12 f1_14 f1_16 h1_18 hb7 hb9 hb11 hb13 hb15 hb17 => ?_)
  obtain ⟨f16_19, h16_21, hb20⟩ := (xqc16 hI : cp16 (wget w 16))
  refine xoI (xqc17 hI : cpI 60 7 4294967295 (wget w 17)) (fun g17_22 h17_23 hb24 => ?_)
  refine xg_t (xg_blq rfl) ?_
  refine xg_t (xg_aload (va := (2, 68)) rfl rfl) ?_
  refine xg_t (xg_getf (va := (0, f68_1)) h68_5 rfl) ?_
  by_cases hc25 : f68_1 = 0
  · refine xg_t (xg_ifT (u := f68_1) rfl xnm0 (xj_eqT hc25)) ?_
    refine xg_t (xg_blq rfl) ?_
    refine xg_t (xg_aload (va := (2, 68)) rfl rfl) ?_
    refine xg_t (xg_getf (va := (2, 69)) h68_5 rfl) ?_
    refine xg_t (xg_const) ?_
    refine xoI (xqc69 hI : cpI 36 40 4294967295 (wget w 69)) (fun g69_26 h69_27 hb28 => ?_)
    refine xg_cS mJ7_fill_53178 (vs := [(2, 69), (0, 0)]) (rest := []) (rs := []) (cn1 := 0) (sl1 := 0) rfl (fillI (v := 0) h69_27 (by decide)) rfl rfl rfl rfl rfl rfl rfl rfl (fun w29 hq30 => ?_)
    refine xg_t (xg_const) ?_
    refine xg_t (xg_istore (l1 := [(0, (2, 68))]) rfl rfl rfl) ?_
    refine xg_t (xg_drop (l1 := [(0, (2, 68)), (1, (0, 0))]) (List.forall_mem_cons.mpr ⟨List.mem_cons_of_mem _ (List.mem_cons_self), List.forall_mem_cons.mpr ⟨List.mem_cons_self, fun _ h => absurd h List.not_mem_nil⟩⟩)) ?_
    have key31 : ∀ (m33 : Nat) (ki : Nat) (w34 : List (List xE)), 12 - ki < m33 → ki ≤ 12 → xInv w34 → xFr [68, 69] w w34 → xTo (d + 3) mX3_refreshAges (18, [], [(0, (2, 68)), (1, (0, ki))], [], (w34, bd, fc, 0, 0, rr)) (fun φ => ∃ w', xEnd 0 [] (w', bd, fc, 0, 0, rr) φ ∧ xInv w' ∧ xFr [68, 69] w w') := by
      intro m33
      induction m33 with
      | zero => intro ki w34 hz; exact absurd hz (Nat.not_lt_zero _)
      | succ m33 ih32 =>
        intro ki w34 hm38 hn37 hI35 hF36
        refine xg_t (xg_blq rfl) ?_
        refine xg_t (xg_iload (va := (0, ki)) rfl rfl) ?_
        refine xg_t (xg_aload (va := (2, 68)) rfl rfl) ?_
        refine xoC68 (xqc68 hI35 : cp68 (wget w34 68)) (fun f68_39 f68_41 h68_43 hb40 hb42 => ?_)
        refine xg_t (xg_getf (va := (2, 1)) h68_43 rfl) ?_
        refine xg_t (xg_getf (va := (2, 16)) (hF36.get (by decide) h1_18) rfl) ?_
        refine xg_t (xg_getf (va := (0, f16_19)) (hF36.get (by decide) h16_21) rfl) ?_
        by_cases hc44 : ki < f16_19
        · refine xg_t (xg_icF (u := ki) (v := f16_19) rfl xnm0 xnm0 (xj_geF hc44 (by omega))) ?_
          refine xg_t (xg_aload (va := (2, 68)) rfl rfl) ?_
          refine xg_t (xg_iload (va := (0, ki)) rfl rfl) ?_
          refine xg_cVv mX3_addPicture (vs := [(0, ki)]) (rest := []) (cn1 := 0) (sl1 := 0) rfl (lmAddPicture (hI35) (by omega)) rfl h68_43 rfl rfl rfl rfl rfl rfl (fun w45 hq46 => ?_)
          obtain ⟨hI47, hF48⟩ := hq46
          refine xg_t (xg_iinc (u := ki) (z := ki + 1) (l1 := [(0, (2, 68))]) rfl rfl (by omega) rfl) ?_
          refine xg_t (xg_goto) ?_
          refine xg_t (xg_drop (l1 := [(0, (2, 68)), (1, (0, ki + 1))]) (List.forall_mem_cons.mpr ⟨List.mem_cons_of_mem _ (List.mem_cons_self), List.forall_mem_cons.mpr ⟨List.mem_cons_self, fun _ h => absurd h List.not_mem_nil⟩⟩)) ?_
          exact ih32 (ki + 1) w45 (by omega) (by omega) (hI47) ((hF36.tr (hF48.up (by decide))))
        · refine xg_t (xg_icT (u := ki) (v := f16_19) rfl xnm0 xnm0 (xj_geT (by omega) (by omega))) ?_
          refine xg_t (xg_blq rfl) ?_
          refine xg_t (xg_aload (va := (2, 68)) rfl rfl) ?_
          refine xg_t (xg_const) ?_
          refine xg_putZ (fl1 := [(2, 1), (2, 69), (2, 70), (2, 71), (0, 1), (0, f68_41)]) h68_43 rfl rfl rfl (fun w49 hk50 hb51 => ?_)
          exact xg_e ⟨w49, ⟨rfl, rfl⟩, xInv.up (S := [68]) hI35 (xFr.of (S := [68]) hb51 (by decide)) (List.forall_mem_cons.mpr ⟨xqu68 (show cp68 (wget w49 68) from ⟨1, f68_41, hk50, by decide, hb42⟩), fun _ h => absurd h List.not_mem_nil⟩), (hF36.tr (xFr.of (S := [68, 69]) hb51 (by decide)))⟩
    exact key31 _ 0 w29 (Nat.lt_succ_self _) (by omega) (xInv.up (S := [69]) hI (xFr.of (S := [69]) hq30.2 (by decide)) (List.forall_mem_cons.mpr ⟨xqu69 (show cpI 36 40 4294967295 (wget w29 69) from ⟨_, hq30.1, fun _ => (by omega : 0 ≤ 4294967295)⟩), fun _ h => absurd h List.not_mem_nil⟩)) ((xFr.of (S := [68, 69]) hq30.2 (by decide)))
  · refine xg_t (xg_ifF (u := f68_1) rfl xnm0 (xj_eqF hc25)) ?_
    exact xg_e ⟨w, ⟨rfl, rfl⟩, hI, xFr.rf⟩
theorem lmCreepOn (hI : xInv w)  : xPi (d + 1) mX3_creepOn [(2, 68)] w bd fc rr (fun n w' => (n ≤ 1) ∧ xInv w' ∧ xFr [70, 71] w w') := by
  refine xPi.of ?_
  show xTo (d + 1) mX3_creepOn (0, [], [(0, (2, 68))], [], (w, bd, fc, 0, 0, rr)) (fun φ => ∃ n w', xEnd 4 [(0, n)] (w', bd, fc, 0, 0, rr) φ ∧ (n ≤ 1) ∧ xInv w' ∧ xFr [70, 71] w w')
  refine xoC68 (xqc68 hI : cp68 (wget w 68)) (fun f68_1 f68_3 h68_5 hb2 hb4 => ?_)
  refine xoC1 (xqc1 hI : cp1 (wget w 1)) (fun f1_6 f1_8 f1_10 f1_12 f1_14 f1_16 h1_18 hb7 hb9 hb11 hb13 hb15 hb17 => ?_)
  refine xoC3 (xqc3 hI : cp3 (wget w 3)) (fun f3_19 f3_21 f3_23 f3_25 f3_27 h3_29 hb20 hb22 hb24 hb26 hb28 => ?_)
  refine xg_t (xg_blq rfl) ?_
  refine xg_t (xg_const) ?_
  refine xg_t (xg_istore (l1 := [(0, (2, 68))]) rfl rfl rfl) ?_
  refine xg_t (xg_const) ?_
  refine xg_t (xg_istore (l1 := [(1, (0, 0)), (0, (2, 68))]) rfl rfl rfl) ?_
  refine xg_t (xg_drop (l1 := [(0, (2, 68)), (1, (0, 0)), (2, (0, 0))]) (List.forall_mem_cons.mpr ⟨List.mem_cons_of_mem _ (List.mem_cons_of_mem _ (List.mem_cons_self)), List.forall_mem_cons.mpr ⟨List.mem_cons_of_mem _ (List.mem_cons_self), List.forall_mem_cons.mpr ⟨List.mem_cons_self, fun _ h => absurd h List.not_mem_nil⟩⟩⟩)) ?_
  have key30 : ∀ (m32 : Nat) (ch ro : Nat) (w33 : List (List xE)), 6 - ro < m32 → ch ≤ 1 → ro ≤ 6 → xInv w33 → xFr [70, 71] w w33 → xTo (d + 1) mX3_creepOn (4, [], [(0, (2, 68)), (1, (0, ch)), (2, (0, ro))], [], (w33, bd, fc, 0, 0, rr)) (fun φ => ∃ n w', xEnd 4 [(0, n)] (w', bd, fc, 0, 0, rr) φ ∧ (n ≤ 1) ∧ xInv w' ∧ xFr [70, 71] w w') := by
    intro m32
    induction m32 with
    | zero => intro ch ro w33 hz; exact absurd hz (Nat.not_lt_zero _)
    | succ m32 ih31 =>
      intro ch ro w33 hm38 hn36 hn37 hI34 hF35
      refine xg_t (xg_blq rfl) ?_
      refine xg_t (xg_iload (va := (0, ro)) rfl rfl) ?_
      refine xg_t (xg_aload (va := (2, 68)) rfl rfl) ?_
      refine xg_t (xg_getf (va := (2, 1)) (hF35.get (by decide) h68_5) rfl) ?_
      refine xg_t (xg_getf (va := (2, 3)) (hF35.get (by decide) h1_18) rfl) ?_
      refine xg_t (xg_getf (va := (0, f3_23)) (hF35.get (by decide) h3_29) rfl) ?_
      by_cases hc39 : ro < f3_23
      · refine xg_t (xg_icF (u := ro) (v := f3_23) rfl xnm0 xnm0 (xj_geF hc39 (by omega))) ?_
        refine xg_t (xg_const) ?_
        refine xg_t (xg_istore (l1 := [(0, (2, 68)), (1, (0, ch)), (2, (0, ro))]) rfl rfl rfl) ?_
        refine xg_t (xg_drop (l1 := [(0, (2, 68)), (1, (0, ch)), (2, (0, ro)), (3, (0, 0))]) (List.forall_mem_cons.mpr ⟨List.mem_cons_of_mem _ (List.mem_cons_self), List.forall_mem_cons.mpr ⟨List.mem_cons_of_mem _ (List.mem_cons_of_mem _ (List.mem_cons_self)), List.forall_mem_cons.mpr ⟨List.mem_cons_of_mem _ (List.mem_cons_of_mem _ (List.mem_cons_of_mem _ (List.mem_cons_self))), List.forall_mem_cons.mpr ⟨List.mem_cons_self, fun _ h => absurd h List.not_mem_nil⟩⟩⟩⟩)) ?_
        have key40 : ∀ (m42 : Nat) (cg co : Nat) (w43 : List (List xE)), 6 - co < m42 → cg ≤ 1 → co ≤ 6 → xInv w43 → xFr [70, 71] w w43 → xTo (d + 1) mX3_creepOn (20, [], [(0, (2, 68)), (1, (0, cg)), (2, (0, ro)), (3, (0, co))], [], (w43, bd, fc, 0, 0, rr)) (fun φ => ∃ n w', xEnd 4 [(0, n)] (w', bd, fc, 0, 0, rr) φ ∧ (n ≤ 1) ∧ xInv w' ∧ xFr [70, 71] w w') := by
          intro m42
          induction m42 with
          | zero => intro cg co w43 hz; exact absurd hz (Nat.not_lt_zero _)
          | succ m42 ih41 =>
            intro cg co w43 hm48 hn46 hn47 hI44 hF45
            refine xg_t (xg_blq rfl) ?_
            refine xg_t (xg_iload (va := (0, co)) rfl rfl) ?_
            refine xg_t (xg_aload (va := (2, 68)) rfl rfl) ?_
            refine xg_t (xg_getf (va := (2, 1)) (hF45.get (by decide) h68_5) rfl) ?_
            refine xg_t (xg_getf (va := (2, 3)) (hF45.get (by decide) h1_18) rfl) ?_
            refine xg_t (xg_getf (va := (0, f3_25)) (hF45.get (by decide) h3_29) rfl) ?_
            by_cases hc49 : co < f3_25
            · refine xg_t (xg_icF (u := co) (v := f3_25) rfl xnm0 xnm0 (xj_geF hc49 (by omega))) ?_
              refine xg_t (xg_iload (va := (0, ro)) rfl rfl) ?_
              refine xg_t (xg_bip) ?_
              refine xg_t (xg_imul (u := ro) (v := 6) (z := ro * 6) xnm0 xnm0 (by omega)) ?_
              refine xg_t (xg_iload (va := (0, co)) rfl rfl) ?_
              refine xg_t (xg_iadd (u := ro * 6) (v := co) (z := (ro * 6) + co) xnm0 xnm0 (by omega)) ?_
              refine xg_t (xg_istore (l1 := [(0, (2, 68)), (1, (0, cg)), (2, (0, ro)), (3, (0, co))]) rfl rfl rfl) ?_
              refine xg_t (xg_aload (va := (2, 68)) rfl rfl) ?_
              refine xg_t (xg_iload (va := (0, ro)) rfl rfl) ?_
              refine xg_t (xg_const) ?_
              refine xg_k (xg_isub (u := ro) (v := 1) (z := (ro + (4294967296 - 1)) % 4294967296) xnm0 xnm0 rfl) (Nat.mod_lt _ (by decide)) (fun z50 hz51 => ?_)
              refine xg_t (xg_iload (va := (0, co)) rfl rfl) ?_
              refine xg_cVi mX3_dampAt (vs := [(0, z50), (0, co)]) (rest := []) (cn1 := 0) (sl1 := 0) rfl (lmDampAt (hI44) (by omega) (by omega)) rfl (hF45.get (by decide) h68_5) rfl rfl rfl rfl rfl rfl (fun n56 w52 hq53 => ?_)
              obtain ⟨hn57, hI54, hF55⟩ := hq53
              refine xg_t (xg_aload (va := (2, 68)) rfl rfl) ?_
              refine xg_t (xg_iload (va := (0, ro)) rfl rfl) ?_
              refine xg_t (xg_const) ?_
              refine xg_t (xg_iadd (u := ro) (v := 1) (z := ro + 1) xnm0 xnm0 (by omega)) ?_
              refine xg_t (xg_iload (va := (0, co)) rfl rfl) ?_
              refine xg_cVi mX3_dampAt (vs := [(0, ro + 1), (0, co)]) (rest := [(0, n56)]) (cn1 := 0) (sl1 := 0) rfl (lmDampAt (hI54) (by omega) (by omega)) rfl (hF55.get (by decide) (hF45.get (by decide) h68_5)) rfl rfl rfl rfl rfl rfl (fun n62 w58 hq59 => ?_)
              obtain ⟨hn63, hI60, hF61⟩ := hq59
              refine xg_k (xg_iadd (u := n56) (v := n62) (z := (n56 + n62) % 4294967296) xnm0 xnm0 rfl) (Nat.mod_lt _ (by decide)) (fun z64 hz65 => ?_)
              refine xg_t (xg_aload (va := (2, 68)) rfl rfl) ?_
              refine xg_t (xg_iload (va := (0, ro)) rfl rfl) ?_
              refine xg_t (xg_iload (va := (0, co)) rfl rfl) ?_
              refine xg_t (xg_const) ?_
              refine xg_k (xg_isub (u := co) (v := 1) (z := (co + (4294967296 - 1)) % 4294967296) xnm0 xnm0 rfl) (Nat.mod_lt _ (by decide)) (fun z66 hz67 => ?_)
              refine xg_cVi mX3_dampAt (vs := [(0, ro), (0, z66)]) (rest := [(0, z64)]) (cn1 := 0) (sl1 := 0) rfl (lmDampAt (hI60) (by omega) (by omega)) rfl (hF61.get (by decide) (hF55.get (by decide) (hF45.get (by decide) h68_5))) rfl rfl rfl rfl rfl rfl (fun n72 w68 hq69 => ?_)
              obtain ⟨hn73, hI70, hF71⟩ := hq69
              refine xg_k (xg_iadd (u := z64) (v := n72) (z := (z64 + n72) % 4294967296) xnm0 xnm0 rfl) (Nat.mod_lt _ (by decide)) (fun z74 hz75 => ?_)
              refine xg_t (xg_aload (va := (2, 68)) rfl rfl) ?_
              refine xg_t (xg_iload (va := (0, ro)) rfl rfl) ?_
              refine xg_t (xg_iload (va := (0, co)) rfl rfl) ?_
              refine xg_t (xg_const) ?_
              refine xg_t (xg_iadd (u := co) (v := 1) (z := co + 1) xnm0 xnm0 (by omega)) ?_
              refine xg_cVi mX3_dampAt (vs := [(0, ro), (0, co + 1)]) (rest := [(0, z74)]) (cn1 := 0) (sl1 := 0) rfl (lmDampAt (hI70) (by omega) (by omega)) rfl (hF71.get (by decide) (hF61.get (by decide) (hF55.get (by decide) (hF45.get (by decide) h68_5)))) rfl rfl rfl rfl rfl rfl (fun n80 w76 hq77 => ?_)
              obtain ⟨hn81, hI78, hF79⟩ := hq77
              refine xg_k (xg_iadd (u := z74) (v := n80) (z := (z74 + n80) % 4294967296) xnm0 xnm0 rfl) (Nat.mod_lt _ (by decide)) (fun z82 hz83 => ?_)
              refine xg_t (xg_istore (l1 := [(4, (0, (ro * 6) + co)), (0, (2, 68)), (1, (0, cg)), (2, (0, ro)), (3, (0, co))]) rfl rfl rfl) ?_
              refine xg_t (xg_aload (va := (2, 68)) rfl rfl) ?_
              refine xg_t (xg_getf (va := (2, 71)) (hF79.get (by decide) (hF71.get (by decide) (hF61.get (by decide) (hF55.get (by decide) (hF45.get (by decide) h68_5))))) rfl) ?_
              refine xg_t (xg_iload (va := (0, (ro * 6) + co)) rfl rfl) ?_
              refine xg_t (xg_const) ?_
              refine xg_t (xg_aload (va := (2, 68)) rfl rfl) ?_
              refine xg_t (xg_getf (va := (2, 70)) (hF79.get (by decide) (hF71.get (by decide) (hF61.get (by decide) (hF55.get (by decide) (hF45.get (by decide) h68_5))))) rfl) ?_
              refine xg_t (xg_iload (va := (0, (ro * 6) + co)) rfl rfl) ?_
              refine xoI (xqc70 hI78 : cpI 36 41 4294967295 (wget w76 70)) (fun g70_84 h70_85 hb86 => ?_)
              refine xg_ialdB (n := (ro * 6) + co) (B := 4294967295) h70_85 (hb86) xnm0 (by omega) (fun u87 hu88 he89 => ?_)
              refine xg_k (xg_imul (u := 4) (v := u87) (z := (4 * u87) % 4294967296) xnm0 xnm0 rfl) (Nat.mod_lt _ (by decide)) (fun z90 hz91 => ?_)
              refine xg_t (xg_iload (va := (0, z82)) rfl rfl) ?_
              refine xg_k (xg_iadd (u := z90) (v := z82) (z := (z90 + z82) % 4294967296) xnm0 xnm0 rfl) (Nat.mod_lt _ (by decide)) (fun z92 hz93 => ?_)
              refine xg_t (xg_bip) ?_
              refine xg_k (xg_idivG (u := z92) (v := 8) (by decide) xnm0 xnm0) (xpt_lt _) (fun z94 hz95 => ?_)
              refine xoI (xqc71 hI78 : cpI 36 42 4294967295 (wget w76 71)) (fun g71_96 h71_97 hb98 => ?_)
              refine xg_iastK (n := (ro * 6) + co) (u := z94) h71_97 xnm0 xnm0 rfl (by omega) (fun w99 hr100 hb101 => ?_)
              refine xg_t (xg_iload (va := (0, cg)) rfl rfl) ?_
              refine xg_t (xg_aload (va := (2, 68)) rfl rfl) ?_
              refine xg_t (xg_getf (va := (2, 71)) (hb101.get (by decide) (hF79.get (by decide) (hF71.get (by decide) (hF61.get (by decide) (hF55.get (by decide) (hF45.get (by decide) h68_5)))))) rfl) ?_
              refine xg_t (xg_iload (va := (0, (ro * 6) + co)) rfl rfl) ?_
              refine xg_ialdB (n := (ro * 6) + co) (B := 4294967295) hr100 (xrb (by omega) (hb98)) xnm0 (by omega) (fun u102 hu103 he104 => ?_)
              refine xg_t (xg_aload (va := (2, 68)) rfl rfl) ?_
              refine xg_t (xg_getf (va := (2, 70)) (hb101.get (by decide) (hF79.get (by decide) (hF71.get (by decide) (hF61.get (by decide) (hF55.get (by decide) (hF45.get (by decide) h68_5)))))) rfl) ?_
              refine xg_t (xg_iload (va := (0, (ro * 6) + co)) rfl rfl) ?_
              refine xg_ialdB (n := (ro * 6) + co) (B := 4294967295) (h70_85.but hb101 (by decide)) (hb86) xnm0 (by omega) (fun u105 hu106 he107 => ?_)
              by_cases hc108 : u102 = u105
              · refine xg_t (xg_icT (u := u102) (v := u105) rfl xnm0 xnm0 (xj_eqT hc108)) ?_
                refine xg_t (xg_blq rfl) ?_
                refine xg_t (xg_const) ?_
                refine xg_t (xg_blq rfl) ?_
                refine xg_ior1 (u := cg) (v := 0) xnm0 xnm0 (by omega) (by omega) (fun z109 hz110 => ?_)
                refine xg_t (xg_istore (l1 := [(5, (0, z82)), (4, (0, (ro * 6) + co)), (0, (2, 68)), (2, (0, ro)), (3, (0, co))]) rfl rfl rfl) ?_
                refine xg_t (xg_iinc (u := co) (z := co + 1) (l1 := [(1, (0, z109)), (5, (0, z82)), (4, (0, (ro * 6) + co)), (0, (2, 68)), (2, (0, ro))]) rfl rfl (by omega) rfl) ?_
                refine xg_t (xg_goto) ?_
                refine xg_t (xg_drop (l1 := [(0, (2, 68)), (1, (0, z109)), (2, (0, ro)), (3, (0, co + 1))]) (List.forall_mem_cons.mpr ⟨List.mem_cons_of_mem _ (List.mem_cons_of_mem _ (List.mem_cons_of_mem _ (List.mem_cons_of_mem _ (List.mem_cons_self)))), List.forall_mem_cons.mpr ⟨List.mem_cons_of_mem _ (List.mem_cons_self), List.forall_mem_cons.mpr ⟨List.mem_cons_of_mem _ (List.mem_cons_of_mem _ (List.mem_cons_of_mem _ (List.mem_cons_of_mem _ (List.mem_cons_of_mem _ (List.mem_cons_self))))), List.forall_mem_cons.mpr ⟨List.mem_cons_self, fun _ h => absurd h List.not_mem_nil⟩⟩⟩⟩)) ?_
                exact ih41 z109 (co + 1) w99 (by omega) (by omega) (by omega) (xInv.up (S := [71]) hI78 (xFr.of (S := [71]) hb101 (by decide)) (List.forall_mem_cons.mpr ⟨xqu71 (show cpI 36 42 4294967295 (wget w99 71) from ⟨_, hr100, xrb (by omega) (hb98)⟩), fun _ h => absurd h List.not_mem_nil⟩)) ((((((hF45.tr (hF55.up (by decide))).tr (hF61.up (by decide))).tr (hF71.up (by decide))).tr (hF79.up (by decide))).tr (xFr.of (S := [70, 71]) hb101 (by decide))))
              · refine xg_t (xg_icF (u := u102) (v := u105) rfl xnm0 xnm0 (xj_eqF hc108)) ?_
                refine xg_t (xg_const) ?_
                refine xg_t (xg_goto) ?_
                refine xg_t (xg_blq rfl) ?_
                refine xg_ior1 (u := cg) (v := 1) xnm0 xnm0 (by omega) (by omega) (fun z111 hz112 => ?_)
                refine xg_t (xg_istore (l1 := [(5, (0, z82)), (4, (0, (ro * 6) + co)), (0, (2, 68)), (2, (0, ro)), (3, (0, co))]) rfl rfl rfl) ?_
                refine xg_t (xg_iinc (u := co) (z := co + 1) (l1 := [(1, (0, z111)), (5, (0, z82)), (4, (0, (ro * 6) + co)), (0, (2, 68)), (2, (0, ro))]) rfl rfl (by omega) rfl) ?_
                refine xg_t (xg_goto) ?_
                refine xg_t (xg_drop (l1 := [(0, (2, 68)), (1, (0, z111)), (2, (0, ro)), (3, (0, co + 1))]) (List.forall_mem_cons.mpr ⟨List.mem_cons_of_mem _ (List.mem_cons_of_mem _ (List.mem_cons_of_mem _ (List.mem_cons_of_mem _ (List.mem_cons_self)))), List.forall_mem_cons.mpr ⟨List.mem_cons_of_mem _ (List.mem_cons_self), List.forall_mem_cons.mpr ⟨List.mem_cons_of_mem _ (List.mem_cons_of_mem _ (List.mem_cons_of_mem _ (List.mem_cons_of_mem _ (List.mem_cons_of_mem _ (List.mem_cons_self))))), List.forall_mem_cons.mpr ⟨List.mem_cons_self, fun _ h => absurd h List.not_mem_nil⟩⟩⟩⟩)) ?_
                exact ih41 z111 (co + 1) w99 (by omega) (by omega) (by omega) (xInv.up (S := [71]) hI78 (xFr.of (S := [71]) hb101 (by decide)) (List.forall_mem_cons.mpr ⟨xqu71 (show cpI 36 42 4294967295 (wget w99 71) from ⟨_, hr100, xrb (by omega) (hb98)⟩), fun _ h => absurd h List.not_mem_nil⟩)) ((((((hF45.tr (hF55.up (by decide))).tr (hF61.up (by decide))).tr (hF71.up (by decide))).tr (hF79.up (by decide))).tr (xFr.of (S := [70, 71]) hb101 (by decide))))
            · refine xg_t (xg_icT (u := co) (v := f3_25) rfl xnm0 xnm0 (xj_geT (by omega) (by omega))) ?_
              refine xg_t (xg_blq rfl) ?_
              refine xg_t (xg_iinc (u := ro) (z := ro + 1) (l1 := [(0, (2, 68)), (1, (0, cg)), (3, (0, co))]) rfl rfl (by omega) rfl) ?_
              refine xg_t (xg_goto) ?_
              refine xg_t (xg_drop (l1 := [(0, (2, 68)), (1, (0, cg)), (2, (0, ro + 1))]) (List.forall_mem_cons.mpr ⟨List.mem_cons_of_mem _ (List.mem_cons_self), List.forall_mem_cons.mpr ⟨List.mem_cons_of_mem _ (List.mem_cons_of_mem _ (List.mem_cons_self)), List.forall_mem_cons.mpr ⟨List.mem_cons_self, fun _ h => absurd h List.not_mem_nil⟩⟩⟩)) ?_
              exact ih31 cg (ro + 1) w43 (by omega) (by omega) (by omega) (hI44) (hF45)
        exact key40 _ ch 0 w33 (Nat.lt_succ_self _) (by omega) (by omega) (hI34) (hF35)
      · refine xg_t (xg_icT (u := ro) (v := f3_23) rfl xnm0 xnm0 (xj_geT (by omega) (by omega))) ?_
        refine xg_t (xg_blq rfl) ?_
        refine xg_t (xg_aload (va := (2, 68)) rfl rfl) ?_
        refine xg_t (xg_getf (va := (2, 71)) (hF35.get (by decide) h68_5) rfl) ?_
        refine xg_t (xg_const) ?_
        refine xg_t (xg_aload (va := (2, 68)) rfl rfl) ?_
        refine xg_t (xg_getf (va := (2, 70)) (hF35.get (by decide) h68_5) rfl) ?_
        refine xg_t (xg_const) ?_
        refine xg_t (xg_bip) ?_
        refine xoI (xqc71 hI34 : cpI 36 42 4294967295 (wget w33 71)) (fun g71_113 h71_114 hb115 => ?_)
        refine xoI (xqc70 hI34 : cpI 36 41 4294967295 (wget w33 70)) (fun g70_116 h70_117 hb118 => ?_)
        refine xg_copyI (n := 36) h71_114 h70_117 xnm0 (by omega) (by omega) (Nat.le_of_ble_eq_true rfl) (fun w119 hr120 hb121 => ?_)
        have rb122 := xcb2 (n := 36) (hb115) (hb118)
        refine xg_t (xg_iload (va := (0, ch)) rfl rfl) ?_
        exact xg_e ⟨ch, w119, ⟨xret_b (by omega), rfl⟩, by omega, xInv.up (S := [70]) hI34 (xFr.of (S := [70]) hb121 (by decide)) (List.forall_mem_cons.mpr ⟨xqu70 (show cpI 36 41 4294967295 (wget w119 70) from ⟨_, hr120, rb122⟩), fun _ h => absurd h List.not_mem_nil⟩), (hF35.tr (xFr.of (S := [70, 71]) hb121 (by decide)))⟩
  exact key30 _ 0 0 w (Nat.lt_succ_self _) (by omega) (by omega) (hI) (xFr.rf)
theorem lmRefreshDamp (hI : xInv w)  : xPq (d + 2) mX3_refreshDamp [(2, 68)] w bd fc rr [] (fun w' => xInv w' ∧ xFr [68, 70, 71] w w') := by
  refine xPq.of ?_
  show xTo (d + 2) mX3_refreshDamp (0, [], [(0, (2, 68))], [], (w, bd, fc, 0, 0, rr)) (fun φ => ∃ w', xEnd 0 [] (w', bd, fc, 0, 0, rr) φ ∧ xInv w' ∧ xFr [68, 70, 71] w w')
  refine xoC68 (xqc68 hI : cp68 (wget w 68)) (fun f68_1 f68_3 h68_5 hb2 hb4 => ?_)
  refine xoC1 (xqc1 hI : cp1 (wget w 1)) (fun f1_6 f1_8 f1_10 f1_12 f1_14 f1_16 h1_18 hb7 hb9 hb11 hb13 hb15 hb17 => ?_)
  refine xoC3 (xqc3 hI : cp3 (wget w 3)) (fun f3_19 f3_21 f3_23 f3_25 f3_27 h3_29 hb20 hb22 hb24 hb26 hb28 => ?_)
  refine xg_t (xg_blq rfl) ?_
  refine xg_t (xg_aload (va := (2, 68)) rfl rfl) ?_
  refine xg_t (xg_getf (va := (0, f68_3)) h68_5 rfl) ?_
  by_cases hc30 : f68_3 = 0
  · refine xg_t (xg_ifT (u := f68_3) rfl xnm0 (xj_eqT hc30)) ?_
    refine xg_t (xg_blq rfl) ?_
    refine xg_t (xg_aload (va := (2, 68)) rfl rfl) ?_
    refine xg_t (xg_getf (va := (2, 70)) h68_5 rfl) ?_
    refine xg_t (xg_const) ?_
    refine xoI (xqc70 hI : cpI 36 41 4294967295 (wget w 70)) (fun g70_31 h70_32 hb33 => ?_)
    refine xg_cS mJ7_fill_53178 (vs := [(2, 70), (0, 0)]) (rest := []) (rs := []) (cn1 := 0) (sl1 := 0) rfl (fillI (v := 0) h70_32 (by decide)) rfl rfl rfl rfl rfl rfl rfl rfl (fun w34 hq35 => ?_)
    refine xg_t (xg_const) ?_
    refine xg_t (xg_istore (l1 := [(0, (2, 68))]) rfl rfl rfl) ?_
    refine xg_t (xg_const) ?_
    refine xg_t (xg_istore (l1 := [(1, (0, 1)), (0, (2, 68))]) rfl rfl rfl) ?_
    refine xg_t (xg_drop (l1 := [(0, (2, 68)), (1, (0, 1)), (2, (0, 0))]) (List.forall_mem_cons.mpr ⟨List.mem_cons_of_mem _ (List.mem_cons_of_mem _ (List.mem_cons_self)), List.forall_mem_cons.mpr ⟨List.mem_cons_of_mem _ (List.mem_cons_self), List.forall_mem_cons.mpr ⟨List.mem_cons_self, fun _ h => absurd h List.not_mem_nil⟩⟩⟩)) ?_
    have key36 : ∀ (m38 : Nat) (cr dy : Nat) (w39 : List (List xE)), 200 - dy < m38 → cr ≤ 1 → dy ≤ 200 → xInv w39 → xFr [68, 70, 71] w w39 → xTo (d + 2) mX3_refreshDamp (20, [], [(0, (2, 68)), (1, (0, cr)), (2, (0, dy))], [], (w39, bd, fc, 0, 0, rr)) (fun φ => ∃ w', xEnd 0 [] (w', bd, fc, 0, 0, rr) φ ∧ xInv w' ∧ xFr [68, 70, 71] w w') := by
      intro m38
      induction m38 with
      | zero => intro cr dy w39 hz; exact absurd hz (Nat.not_lt_zero _)
      | succ m38 ih37 =>
        intro cr dy w39 hm44 hn42 hn43 hI40 hF41
        refine xg_t (xg_blq rfl) ?_
        refine xg_t (xg_iload (va := (0, cr)) rfl rfl) ?_
        by_cases hc45 : cr = 0
        · refine xg_t (xg_ifT (u := cr) rfl xnm0 (xj_eqT hc45)) ?_
          refine xg_t (xg_blq rfl) ?_
          refine xg_t (xg_aload (va := (2, 68)) rfl rfl) ?_
          refine xg_t (xg_const) ?_
          refine xoC68 (xqc68 hI40 : cp68 (wget w39 68)) (fun f68_46 f68_48 h68_50 hb47 hb49 => ?_)
          refine xg_putZ (fl1 := [(2, 1), (2, 69), (2, 70), (2, 71), (0, f68_46), (0, 1)]) h68_50 rfl rfl rfl (fun w51 hk52 hb53 => ?_)
          exact xg_e ⟨w51, ⟨rfl, rfl⟩, xInv.up (S := [68]) hI40 (xFr.of (S := [68]) hb53 (by decide)) (List.forall_mem_cons.mpr ⟨xqu68 (show cp68 (wget w51 68) from ⟨f68_46, 1, hk52, hb47, by decide⟩), fun _ h => absurd h List.not_mem_nil⟩), (hF41.tr (xFr.of (S := [68, 70, 71]) hb53 (by decide)))⟩
        · refine xg_t (xg_ifF (u := cr) rfl xnm0 (xj_eqF hc45)) ?_
          refine xg_t (xg_iload (va := (0, dy)) rfl rfl) ?_
          refine xg_t (xg_aload (va := (2, 68)) rfl rfl) ?_
          refine xoC68 (xqc68 hI40 : cp68 (wget w39 68)) (fun f68_54 f68_56 h68_58 hb55 hb57 => ?_)
          refine xg_t (xg_getf (va := (2, 1)) h68_58 rfl) ?_
          refine xg_t (xg_getf (va := (0, f1_16)) (hF41.get (by decide) h1_18) rfl) ?_
          by_cases hc59 : dy < f1_16
          · refine xg_t (xg_icF (u := dy) (v := f1_16) rfl xnm0 xnm0 (xj_geF hc59 (by omega))) ?_
            refine xg_t (xg_aload (va := (2, 68)) rfl rfl) ?_
            refine xg_cVi mX3_creepOn (vs := []) (rest := []) (cn1 := 0) (sl1 := 0) rfl (lmCreepOn (hI40)) rfl h68_58 rfl rfl rfl rfl rfl rfl (fun n64 w60 hq61 => ?_)
            obtain ⟨hn65, hI62, hF63⟩ := hq61
            refine xg_t (xg_istore (l1 := [(0, (2, 68)), (2, (0, dy))]) rfl rfl rfl) ?_
            refine xg_t (xg_iinc (u := dy) (z := dy + 1) (l1 := [(1, (0, n64)), (0, (2, 68))]) rfl rfl (by omega) rfl) ?_
            refine xg_t (xg_goto) ?_
            refine xg_t (xg_drop (l1 := [(0, (2, 68)), (1, (0, n64)), (2, (0, dy + 1))]) (List.forall_mem_cons.mpr ⟨List.mem_cons_of_mem _ (List.mem_cons_of_mem _ (List.mem_cons_self)), List.forall_mem_cons.mpr ⟨List.mem_cons_of_mem _ (List.mem_cons_self), List.forall_mem_cons.mpr ⟨List.mem_cons_self, fun _ h => absurd h List.not_mem_nil⟩⟩⟩)) ?_
            exact ih37 n64 (dy + 1) w60 (by omega) (by omega) (by omega) (hI62) ((hF41.tr (hF63.up (by decide))))
          · refine xg_t (xg_icT (u := dy) (v := f1_16) rfl xnm0 xnm0 (xj_geT (by omega) (by omega))) ?_
            refine xg_t (xg_blq rfl) ?_
            refine xg_t (xg_aload (va := (2, 68)) rfl rfl) ?_
            refine xg_t (xg_const) ?_
            refine xg_putZ (fl1 := [(2, 1), (2, 69), (2, 70), (2, 71), (0, f68_54), (0, 1)]) h68_58 rfl rfl rfl (fun w66 hk67 hb68 => ?_)
            exact xg_e ⟨w66, ⟨rfl, rfl⟩, xInv.up (S := [68]) hI40 (xFr.of (S := [68]) hb68 (by decide)) (List.forall_mem_cons.mpr ⟨xqu68 (show cp68 (wget w66 68) from ⟨f68_54, 1, hk67, hb55, by decide⟩), fun _ h => absurd h List.not_mem_nil⟩), (hF41.tr (xFr.of (S := [68, 70, 71]) hb68 (by decide)))⟩
    exact key36 _ 1 0 w34 (Nat.lt_succ_self _) (by omega) (by omega) (xInv.up (S := [70]) hI (xFr.of (S := [70]) hq35.2 (by decide)) (List.forall_mem_cons.mpr ⟨xqu70 (show cpI 36 41 4294967295 (wget w34 70) from ⟨_, hq35.1, fun _ => (by omega : 0 ≤ 4294967295)⟩), fun _ h => absurd h List.not_mem_nil⟩)) ((xFr.of (S := [68, 70, 71]) hq35.2 (by decide)))
  · refine xg_t (xg_ifF (u := f68_3) rfl xnm0 (xj_eqF hc30)) ?_
    exact xg_e ⟨w, ⟨rfl, rfl⟩, hI, xFr.rf⟩
theorem lmLeftSpread (hI : xInv w)  : xPi (d + 2) mX3_leftSpread [(2, 68)] w bd fc rr (fun n w' => (n ≤ 4294967295) ∧ xInv w' ∧ xFr [] w w') := by
  refine xPi.of ?_
  show xTo (d + 2) mX3_leftSpread (0, [], [(0, (2, 68))], [], (w, bd, fc, 0, 0, rr)) (fun φ => ∃ n w', xEnd 1 [(0, n)] (w', bd, fc, 0, 0, rr) φ ∧ (n ≤ 4294967295) ∧ xInv w' ∧ xFr [] w w')
  refine xoC68 (xqc68 hI : cp68 (wget w 68)) (fun f68_1 f68_3 h68_5 hb2 hb4 => ?_)
  refine xoC1 (xqc1 hI : cp1 (wget w 1)) (fun f1_6 f1_8 f1_10 f1_12 f1_14 f1_16 h1_18 hb7 hb9 hb11 hb13 hb15 hb17 => ?_)
  refine xoC3 (xqc3 hI : cp3 (wget w 3)) (fun f3_19 f3_21 f3_23 f3_25 f3_27 h3_29 hb20 hb22 hb24 hb26 hb28 => ?_)
  refine xg_t (xg_blq rfl) ?_
  refine xg_t (xg_sip) ?_
  refine xg_t (xg_istore (l1 := [(0, (2, 68))]) rfl rfl rfl) ?_
  refine xg_t (xg_const) ?_
  refine xg_t (xg_istore (l1 := [(1, (0, 1000)), (0, (2, 68))]) rfl rfl rfl) ?_
  refine xg_t (xg_const) ?_
  refine xg_t (xg_istore (l1 := [(2, (0, 0)), (1, (0, 1000)), (0, (2, 68))]) rfl rfl rfl) ?_
  refine xg_t (xg_drop (l1 := [(0, (2, 68)), (1, (0, 1000)), (2, (0, 0)), (3, (0, 0))]) (List.forall_mem_cons.mpr ⟨List.mem_cons_of_mem _ (List.mem_cons_of_mem _ (List.mem_cons_of_mem _ (List.mem_cons_self))), List.forall_mem_cons.mpr ⟨List.mem_cons_of_mem _ (List.mem_cons_of_mem _ (List.mem_cons_self)), List.forall_mem_cons.mpr ⟨List.mem_cons_of_mem _ (List.mem_cons_self), List.forall_mem_cons.mpr ⟨List.mem_cons_self, fun _ h => absurd h List.not_mem_nil⟩⟩⟩⟩)) ?_
  have key30 : ∀ (m32 : Nat) (le gr ro : Nat) (w33 : List (List xE)), 6 - ro < m32 → le ≤ 4294967295 → gr ≤ 4294967295 → ro ≤ 6 → xInv w33 → xFr [] w w33 → xTo (d + 2) mX3_leftSpread (8, [], [(0, (2, 68)), (1, (0, le)), (2, (0, gr)), (3, (0, ro))], [], (w33, bd, fc, 0, 0, rr)) (fun φ => ∃ n w', xEnd 1 [(0, n)] (w', bd, fc, 0, 0, rr) φ ∧ (n ≤ 4294967295) ∧ xInv w' ∧ xFr [] w w') := by
    intro m32
    induction m32 with
    | zero => intro le gr ro w33 hz; exact absurd hz (Nat.not_lt_zero _)
    | succ m32 ih31 =>
      intro le gr ro w33 hm39 hn36 hn37 hn38 hI34 hF35
      refine xg_t (xg_blq rfl) ?_
      refine xg_t (xg_iload (va := (0, ro)) rfl rfl) ?_
      refine xg_t (xg_aload (va := (2, 68)) rfl rfl) ?_
      refine xg_t (xg_getf (va := (2, 1)) (hF35.get (by decide) h68_5) rfl) ?_
      refine xg_t (xg_getf (va := (2, 3)) (hF35.get (by decide) h1_18) rfl) ?_
      refine xg_t (xg_getf (va := (0, f3_23)) (hF35.get (by decide) h3_29) rfl) ?_
      by_cases hc40 : ro < f3_23
      · refine xg_t (xg_icF (u := ro) (v := f3_23) rfl xnm0 xnm0 (xj_geF hc40 (by omega))) ?_
        refine xg_t (xg_const) ?_
        refine xg_t (xg_istore (l1 := [(0, (2, 68)), (1, (0, le)), (2, (0, gr)), (3, (0, ro))]) rfl rfl rfl) ?_
        refine xg_t (xg_drop (l1 := [(0, (2, 68)), (1, (0, le)), (2, (0, gr)), (3, (0, ro)), (4, (0, 0))]) (List.forall_mem_cons.mpr ⟨List.mem_cons_of_mem _ (List.mem_cons_self), List.forall_mem_cons.mpr ⟨List.mem_cons_of_mem _ (List.mem_cons_of_mem _ (List.mem_cons_self)), List.forall_mem_cons.mpr ⟨List.mem_cons_of_mem _ (List.mem_cons_of_mem _ (List.mem_cons_of_mem _ (List.mem_cons_self))), List.forall_mem_cons.mpr ⟨List.mem_cons_of_mem _ (List.mem_cons_of_mem _ (List.mem_cons_of_mem _ (List.mem_cons_of_mem _ (List.mem_cons_self)))), List.forall_mem_cons.mpr ⟨List.mem_cons_self, fun _ h => absurd h List.not_mem_nil⟩⟩⟩⟩⟩)) ?_
        have key41 : ∀ (m43 : Nat) (lf gs co : Nat) (w44 : List (List xE)), 6 - co < m43 → lf ≤ 4294967295 → gs ≤ 4294967295 → co ≤ 6 → xInv w44 → xFr [] w w44 → xTo (d + 2) mX3_leftSpread (25, [], [(0, (2, 68)), (1, (0, lf)), (2, (0, gs)), (3, (0, ro)), (4, (0, co))], [], (w44, bd, fc, 0, 0, rr)) (fun φ => ∃ n w', xEnd 1 [(0, n)] (w', bd, fc, 0, 0, rr) φ ∧ (n ≤ 4294967295) ∧ xInv w' ∧ xFr [] w w') := by
          intro m43
          induction m43 with
          | zero => intro lf gs co w44 hz; exact absurd hz (Nat.not_lt_zero _)
          | succ m43 ih42 =>
            intro lf gs co w44 hm50 hn47 hn48 hn49 hI45 hF46
            refine xg_t (xg_blq rfl) ?_
            refine xg_t (xg_iload (va := (0, co)) rfl rfl) ?_
            refine xg_t (xg_aload (va := (2, 68)) rfl rfl) ?_
            refine xg_t (xg_getf (va := (2, 1)) (hF46.get (by decide) h68_5) rfl) ?_
            refine xg_t (xg_getf (va := (2, 3)) (hF46.get (by decide) h1_18) rfl) ?_
            refine xg_t (xg_getf (va := (0, f3_25)) (hF46.get (by decide) h3_29) rfl) ?_
            by_cases hc51 : co < f3_25
            · refine xg_t (xg_icF (u := co) (v := f3_25) rfl xnm0 xnm0 (xj_geF hc51 (by omega))) ?_
              refine xg_t (xg_aload (va := (2, 68)) rfl rfl) ?_
              refine xg_t (xg_iload (va := (0, ro)) rfl rfl) ?_
              refine xg_t (xg_bip) ?_
              refine xg_t (xg_imul (u := ro) (v := 6) (z := ro * 6) xnm0 xnm0 (by omega)) ?_
              refine xg_t (xg_iload (va := (0, co)) rfl rfl) ?_
              refine xg_t (xg_iadd (u := ro * 6) (v := co) (z := (ro * 6) + co) xnm0 xnm0 (by omega)) ?_
              refine xg_cVi mX3_leftOf (vs := [(0, (ro * 6) + co)]) (rest := []) (cn1 := 0) (sl1 := 0) rfl (lmLeftOf (hI45) (by omega)) rfl (hF46.get (by decide) h68_5) rfl rfl rfl rfl rfl rfl (fun n56 w52 hq53 => ?_)
              obtain ⟨hn57, hI54, hF55⟩ := hq53
              refine xg_t (xg_istore (l1 := [(0, (2, 68)), (1, (0, lf)), (2, (0, gs)), (3, (0, ro)), (4, (0, co))]) rfl rfl rfl) ?_
              refine xg_t (xg_iload (va := (0, lf)) rfl rfl) ?_
              refine xg_t (xg_iload (va := (0, n56)) rfl rfl) ?_
              refine xg_minK (u := lf) (v := n56) xnm0 xnm0 xmx_ok (by omega) (by omega) (fun z58 hz59 hz60 hz61 hz62 => ?_)
              unfold xbs at hz60 hz61
              refine xg_t (xg_istore (l1 := [(5, (0, n56)), (0, (2, 68)), (2, (0, gs)), (3, (0, ro)), (4, (0, co))]) rfl rfl rfl) ?_
              refine xg_t (xg_iload (va := (0, gs)) rfl rfl) ?_
              refine xg_t (xg_iload (va := (0, n56)) rfl rfl) ?_
              refine xg_maxK (u := gs) (v := n56) xnm0 xnm0 xmx_ok (by omega) (by omega) (fun z63 hz64 hz65 hz66 hz67 => ?_)
              unfold xbs at hz65 hz66
              refine xg_t (xg_istore (l1 := [(1, (0, z58)), (5, (0, n56)), (0, (2, 68)), (3, (0, ro)), (4, (0, co))]) rfl rfl rfl) ?_
              refine xg_t (xg_iinc (u := co) (z := co + 1) (l1 := [(2, (0, z63)), (1, (0, z58)), (5, (0, n56)), (0, (2, 68)), (3, (0, ro))]) rfl rfl (by omega) rfl) ?_
              refine xg_t (xg_goto) ?_
              refine xg_t (xg_drop (l1 := [(0, (2, 68)), (1, (0, z58)), (2, (0, z63)), (3, (0, ro)), (4, (0, co + 1))]) (List.forall_mem_cons.mpr ⟨List.mem_cons_of_mem _ (List.mem_cons_of_mem _ (List.mem_cons_of_mem _ (List.mem_cons_of_mem _ (List.mem_cons_self)))), List.forall_mem_cons.mpr ⟨List.mem_cons_of_mem _ (List.mem_cons_of_mem _ (List.mem_cons_self)), List.forall_mem_cons.mpr ⟨List.mem_cons_of_mem _ (List.mem_cons_self), List.forall_mem_cons.mpr ⟨List.mem_cons_of_mem _ (List.mem_cons_of_mem _ (List.mem_cons_of_mem _ (List.mem_cons_of_mem _ (List.mem_cons_of_mem _ (List.mem_cons_self))))), List.forall_mem_cons.mpr ⟨List.mem_cons_self, fun _ h => absurd h List.not_mem_nil⟩⟩⟩⟩⟩)) ?_
              exact ih42 z58 z63 (co + 1) w52 (by omega) (by omega) (by omega) (by omega) (hI54) ((hF46.tr (hF55.up (by decide))))
            · refine xg_t (xg_icT (u := co) (v := f3_25) rfl xnm0 xnm0 (xj_geT (by omega) (by omega))) ?_
              refine xg_t (xg_blq rfl) ?_
              refine xg_t (xg_iinc (u := ro) (z := ro + 1) (l1 := [(0, (2, 68)), (1, (0, lf)), (2, (0, gs)), (4, (0, co))]) rfl rfl (by omega) rfl) ?_
              refine xg_t (xg_goto) ?_
              refine xg_t (xg_drop (l1 := [(0, (2, 68)), (1, (0, lf)), (2, (0, gs)), (3, (0, ro + 1))]) (List.forall_mem_cons.mpr ⟨List.mem_cons_of_mem _ (List.mem_cons_self), List.forall_mem_cons.mpr ⟨List.mem_cons_of_mem _ (List.mem_cons_of_mem _ (List.mem_cons_self)), List.forall_mem_cons.mpr ⟨List.mem_cons_of_mem _ (List.mem_cons_of_mem _ (List.mem_cons_of_mem _ (List.mem_cons_self))), List.forall_mem_cons.mpr ⟨List.mem_cons_self, fun _ h => absurd h List.not_mem_nil⟩⟩⟩⟩)) ?_
              exact ih31 lf gs (ro + 1) w44 (by omega) (by omega) (by omega) (by omega) (hI45) (hF46)
        exact key41 _ le gr 0 w33 (Nat.lt_succ_self _) (by omega) (by omega) (by omega) (hI34) (hF35)
      · refine xg_t (xg_icT (u := ro) (v := f3_23) rfl xnm0 xnm0 (xj_geT (by omega) (by omega))) ?_
        refine xg_t (xg_blq rfl) ?_
        refine xg_t (xg_iload (va := (0, gr)) rfl rfl) ?_
        refine xg_t (xg_iload (va := (0, le)) rfl rfl) ?_
        refine xg_k (xg_isub (u := gr) (v := le) (z := (gr + (4294967296 - le)) % 4294967296) xnm0 xnm0 rfl) (Nat.mod_lt _ (by decide)) (fun z68 hz69 => ?_)
        exact xg_e ⟨z68, w33, ⟨rfl, rfl⟩, by omega, hI34, hF35⟩
  exact key30 _ 1000 0 0 w (Nat.lt_succ_self _) (by omega) (by omega) (by omega) (hI) (xFr.rf)
theorem lmRoundsOfLamp {ro co sh : Nat} (hI : xInv w) (hr1 : ro ≤ 5) (hc1 : co ≤ 5) (hs1 : sh ≤ 5) : xPi (d + 1) mX3_roundsOfLamp [(2, 68), (0, ro), (0, co), (0, sh)] w bd fc rr (fun n w' => (n ≤ 4294967295) ∧ xInv w' ∧ xFr [] w w') := by
  refine xPi.of ?_
  show xTo (d + 1) mX3_roundsOfLamp (0, [], [(0, (2, 68)), (1, (0, ro)), (2, (0, co)), (3, (0, sh))], [], (w, bd, fc, 0, 0, rr)) (fun φ => ∃ n w', xEnd 1 [(0, n)] (w', bd, fc, 0, 0, rr) φ ∧ (n ≤ 4294967295) ∧ xInv w' ∧ xFr [] w w')
  refine xoC68 (xqc68 hI : cp68 (wget w 68)) (fun f68_1 f68_3 h68_5 hb2 hb4 => ?_)
  refine xoC1 (xqc1 hI : cp1 (wget w 1)) (fun f1_6 f1_8 f1_10 f1_12 f1_14 f1_16 h1_18 hb7 hb9 hb11 hb13 hb15 hb17 => ?_)
  refine xoC3 (xqc3 hI : cp3 (wget w 3)) (fun f3_19 f3_21 f3_23 f3_25 f3_27 h3_29 hb20 hb22 hb24 hb26 hb28 => ?_)
  refine xg_t (xg_blq rfl) ?_
  refine xg_t (xg_aload (va := (2, 68)) rfl rfl) ?_
  refine xg_t (xg_getf (va := (2, 1)) h68_5 rfl) ?_
  refine xg_t (xg_getf (va := (2, 3)) h1_18 rfl) ?_
  refine xg_t (xg_getf (va := (0, f3_25)) h3_29 rfl) ?_
  refine xg_t (xg_istore (l1 := [(0, (2, 68)), (1, (0, ro)), (2, (0, co)), (3, (0, sh))]) rfl rfl rfl) ?_
  refine xg_t (xg_const) ?_
  refine xg_t (xg_istore (l1 := [(4, (0, f3_25)), (0, (2, 68)), (1, (0, ro)), (2, (0, co)), (3, (0, sh))]) rfl rfl rfl) ?_
  refine xg_t (xg_const) ?_
  refine xg_t (xg_istore (l1 := [(5, (0, 0)), (4, (0, f3_25)), (0, (2, 68)), (1, (0, ro)), (2, (0, co)), (3, (0, sh))]) rfl rfl rfl) ?_
  refine xg_t (xg_drop (l1 := [(0, (2, 68)), (1, (0, ro)), (2, (0, co)), (3, (0, sh)), (4, (0, f3_25)), (5, (0, 0)), (6, (0, 0))]) (List.forall_mem_cons.mpr ⟨List.mem_cons_of_mem _ (List.mem_cons_of_mem _ (List.mem_cons_of_mem _ (List.mem_cons_self))), List.forall_mem_cons.mpr ⟨List.mem_cons_of_mem _ (List.mem_cons_of_mem _ (List.mem_cons_of_mem _ (List.mem_cons_of_mem _ (List.mem_cons_self)))), List.forall_mem_cons.mpr ⟨List.mem_cons_of_mem _ (List.mem_cons_of_mem _ (List.mem_cons_of_mem _ (List.mem_cons_of_mem _ (List.mem_cons_of_mem _ (List.mem_cons_self))))), List.forall_mem_cons.mpr ⟨List.mem_cons_of_mem _ (List.mem_cons_of_mem _ (List.mem_cons_of_mem _ (List.mem_cons_of_mem _ (List.mem_cons_of_mem _ (List.mem_cons_of_mem _ (List.mem_cons_self)))))), List.forall_mem_cons.mpr ⟨List.mem_cons_of_mem _ (List.mem_cons_of_mem _ (List.mem_cons_self)), List.forall_mem_cons.mpr ⟨List.mem_cons_of_mem _ (List.mem_cons_self), List.forall_mem_cons.mpr ⟨List.mem_cons_self, fun _ h => absurd h List.not_mem_nil⟩⟩⟩⟩⟩⟩⟩)) ?_
  have key30 : ∀ (m32 : Nat) (tu ni : Nat) (w33 : List (List xE)), 6 - ni < m32 → tu ≤ 4294967295 → ni ≤ 6 → xInv w33 → xFr [] w w33 → xTo (d + 1) mX3_roundsOfLamp (18, [], [(0, (2, 68)), (1, (0, ro)), (2, (0, co)), (3, (0, sh)), (4, (0, f3_25)), (5, (0, tu)), (6, (0, ni))], [], (w33, bd, fc, 0, 0, rr)) (fun φ => ∃ n w', xEnd 1 [(0, n)] (w', bd, fc, 0, 0, rr) φ ∧ (n ≤ 4294967295) ∧ xInv w' ∧ xFr [] w w') := by
    intro m32
    induction m32 with
    | zero => intro tu ni w33 hz; exact absurd hz (Nat.not_lt_zero _)
    | succ m32 ih31 =>
      intro tu ni w33 hm38 hn36 hn37 hI34 hF35
      refine xg_t (xg_blq rfl) ?_
      refine xg_t (xg_iload (va := (0, ni)) rfl rfl) ?_
      refine xg_t (xg_iload (va := (0, f3_25)) rfl rfl) ?_
      by_cases hc39 : ni < f3_25
      · refine xg_t (xg_icF (u := ni) (v := f3_25) rfl xnm0 xnm0 (xj_geF hc39 (by omega))) ?_
        refine xg_t (xg_iload (va := (0, tu)) rfl rfl) ?_
        refine xg_t (xg_aload (va := (2, 68)) rfl rfl) ?_
        refine xg_t (xg_iload (va := (0, ro)) rfl rfl) ?_
        refine xg_t (xg_iload (va := (0, co)) rfl rfl) ?_
        refine xg_t (xg_iload (va := (0, ni)) rfl rfl) ?_
        refine xg_t (xg_iload (va := (0, sh)) rfl rfl) ?_
        have hm40 : ni * sh ≤ 5 * 5 := Nat.mul_le_mul (by omega) (by omega)
        refine xg_t (xg_imul (u := ni) (v := sh) (z := ni * sh) xnm0 xnm0 (Nat.mod_eq_of_lt (by omega))) ?_
        refine xg_t (xg_iadd (u := co) (v := ni * sh) (z := co + (ni * sh)) xnm0 xnm0 (by omega)) ?_
        refine xg_cVi mX3_agingIn (vs := [(0, ro), (0, co + (ni * sh))]) (rest := [(0, tu)]) (cn1 := 0) (sl1 := 0) rfl (lmAgingIn (hI34) (by omega) (by omega)) rfl (hF35.get (by decide) h68_5) rfl rfl rfl rfl rfl rfl (fun n45 w41 hq42 => ?_)
        obtain ⟨hn46, hI43, hF44⟩ := hq42
        refine xg_k (xg_iadd (u := tu) (v := n45) (z := (tu + n45) % 4294967296) xnm0 xnm0 rfl) (Nat.mod_lt _ (by decide)) (fun z47 hz48 => ?_)
        refine xg_t (xg_istore (l1 := [(0, (2, 68)), (1, (0, ro)), (2, (0, co)), (3, (0, sh)), (4, (0, f3_25)), (6, (0, ni))]) rfl rfl rfl) ?_
        refine xg_t (xg_iinc (u := ni) (z := ni + 1) (l1 := [(5, (0, z47)), (0, (2, 68)), (1, (0, ro)), (2, (0, co)), (3, (0, sh)), (4, (0, f3_25))]) rfl rfl (by omega) rfl) ?_
        refine xg_t (xg_goto) ?_
        refine xg_t (xg_drop (l1 := [(0, (2, 68)), (1, (0, ro)), (2, (0, co)), (3, (0, sh)), (4, (0, f3_25)), (5, (0, z47)), (6, (0, ni + 1))]) (List.forall_mem_cons.mpr ⟨List.mem_cons_of_mem _ (List.mem_cons_of_mem _ (List.mem_cons_self)), List.forall_mem_cons.mpr ⟨List.mem_cons_of_mem _ (List.mem_cons_of_mem _ (List.mem_cons_of_mem _ (List.mem_cons_self))), List.forall_mem_cons.mpr ⟨List.mem_cons_of_mem _ (List.mem_cons_of_mem _ (List.mem_cons_of_mem _ (List.mem_cons_of_mem _ (List.mem_cons_self)))), List.forall_mem_cons.mpr ⟨List.mem_cons_of_mem _ (List.mem_cons_of_mem _ (List.mem_cons_of_mem _ (List.mem_cons_of_mem _ (List.mem_cons_of_mem _ (List.mem_cons_self))))), List.forall_mem_cons.mpr ⟨List.mem_cons_of_mem _ (List.mem_cons_of_mem _ (List.mem_cons_of_mem _ (List.mem_cons_of_mem _ (List.mem_cons_of_mem _ (List.mem_cons_of_mem _ (List.mem_cons_self)))))), List.forall_mem_cons.mpr ⟨List.mem_cons_of_mem _ (List.mem_cons_self), List.forall_mem_cons.mpr ⟨List.mem_cons_self, fun _ h => absurd h List.not_mem_nil⟩⟩⟩⟩⟩⟩⟩)) ?_
        exact ih31 z47 (ni + 1) w41 (by omega) (by omega) (by omega) (hI43) ((hF35.tr (hF44.up (by decide))))
      · refine xg_t (xg_icT (u := ni) (v := f3_25) rfl xnm0 xnm0 (xj_geT (by omega) (by omega))) ?_
        refine xg_t (xg_blq rfl) ?_
        refine xg_t (xg_iload (va := (0, tu)) rfl rfl) ?_
        by_cases hc49 : tu = 0
        · refine xg_t (xg_ifF (u := tu) rfl xnm0 (xj_neF hc49)) ?_
          refine xg_t (xg_sip) ?_
          exact xg_e ⟨1000, w33, ⟨rfl, rfl⟩, by first | decide | omega, hI34, hF35⟩
        · refine xg_t (xg_ifT (u := tu) rfl xnm0 (xj_neT hc49)) ?_
          refine xg_t (xg_blq rfl) ?_
          refine xg_t (xg_sip) ?_
          refine xg_t (xg_iload (va := (0, tu)) rfl rfl) ?_
          refine xg_k (xg_idivG (u := 9999) (v := tu) (by omega) xnm0 xnm0) (xpt_lt _) (fun z50 hz51 => ?_)
          refine xg_t (xg_istore (l1 := [(0, (2, 68)), (1, (0, ro)), (2, (0, co)), (3, (0, sh)), (4, (0, f3_25)), (5, (0, tu))]) rfl rfl rfl) ?_
          refine xg_t (xg_iload (va := (0, z50)) rfl rfl) ?_
          refine xg_t (xg_iload (va := (0, f3_25)) rfl rfl) ?_
          refine xg_k (xg_imul (u := z50) (v := f3_25) (z := (z50 * f3_25) % 4294967296) xnm0 xnm0 rfl) (Nat.mod_lt _ (by decide)) (fun z52 hz53 => ?_)
          refine xg_t (xg_istore (l1 := [(6, (0, z50)), (0, (2, 68)), (1, (0, ro)), (2, (0, co)), (3, (0, sh)), (4, (0, f3_25)), (5, (0, tu))]) rfl rfl rfl) ?_
          refine xg_t (xg_iload (va := (0, z50)) rfl rfl) ?_
          refine xg_t (xg_iload (va := (0, tu)) rfl rfl) ?_
          refine xg_k (xg_imul (u := z50) (v := tu) (z := (z50 * tu) % 4294967296) xnm0 xnm0 rfl) (Nat.mod_lt _ (by decide)) (fun z54 hz55 => ?_)
          refine xg_t (xg_istore (l1 := [(7, (0, z52)), (6, (0, z50)), (0, (2, 68)), (1, (0, ro)), (2, (0, co)), (3, (0, sh)), (4, (0, f3_25)), (5, (0, tu))]) rfl rfl rfl) ?_
          refine xg_t (xg_const) ?_
          refine xg_t (xg_istore (l1 := [(8, (0, z54)), (7, (0, z52)), (6, (0, z50)), (0, (2, 68)), (1, (0, ro)), (2, (0, co)), (3, (0, sh)), (4, (0, f3_25)), (5, (0, tu))]) rfl rfl rfl) ?_
          refine xg_t (xg_drop (l1 := [(0, (2, 68)), (1, (0, ro)), (2, (0, co)), (3, (0, sh)), (4, (0, f3_25)), (5, (0, tu)), (6, (0, z50)), (7, (0, z52)), (8, (0, z54)), (9, (0, 0))]) (List.forall_mem_cons.mpr ⟨List.mem_cons_of_mem _ (List.mem_cons_of_mem _ (List.mem_cons_of_mem _ (List.mem_cons_of_mem _ (List.mem_cons_self)))), List.forall_mem_cons.mpr ⟨List.mem_cons_of_mem _ (List.mem_cons_of_mem _ (List.mem_cons_of_mem _ (List.mem_cons_of_mem _ (List.mem_cons_of_mem _ (List.mem_cons_self))))), List.forall_mem_cons.mpr ⟨List.mem_cons_of_mem _ (List.mem_cons_of_mem _ (List.mem_cons_of_mem _ (List.mem_cons_of_mem _ (List.mem_cons_of_mem _ (List.mem_cons_of_mem _ (List.mem_cons_self)))))), List.forall_mem_cons.mpr ⟨List.mem_cons_of_mem _ (List.mem_cons_of_mem _ (List.mem_cons_of_mem _ (List.mem_cons_of_mem _ (List.mem_cons_of_mem _ (List.mem_cons_of_mem _ (List.mem_cons_of_mem _ (List.mem_cons_self))))))), List.forall_mem_cons.mpr ⟨List.mem_cons_of_mem _ (List.mem_cons_of_mem _ (List.mem_cons_of_mem _ (List.mem_cons_of_mem _ (List.mem_cons_of_mem _ (List.mem_cons_of_mem _ (List.mem_cons_of_mem _ (List.mem_cons_of_mem _ (List.mem_cons_self)))))))), List.forall_mem_cons.mpr ⟨List.mem_cons_of_mem _ (List.mem_cons_of_mem _ (List.mem_cons_of_mem _ (List.mem_cons_of_mem _ (List.mem_cons_of_mem _ (List.mem_cons_of_mem _ (List.mem_cons_of_mem _ (List.mem_cons_of_mem _ (List.mem_cons_of_mem _ (List.mem_cons_self))))))))), List.forall_mem_cons.mpr ⟨List.mem_cons_of_mem _ (List.mem_cons_of_mem _ (List.mem_cons_of_mem _ (List.mem_cons_self))), List.forall_mem_cons.mpr ⟨List.mem_cons_of_mem _ (List.mem_cons_of_mem _ (List.mem_cons_self)), List.forall_mem_cons.mpr ⟨List.mem_cons_of_mem _ (List.mem_cons_self), List.forall_mem_cons.mpr ⟨List.mem_cons_self, fun _ h => absurd h List.not_mem_nil⟩⟩⟩⟩⟩⟩⟩⟩⟩⟩)) ?_
          have key56 : ∀ (m58 : Nat) (rd ag nj : Nat) (w59 : List (List xE)), 6 - nj < m58 → rd ≤ 4294967295 → ag ≤ 4294967295 → nj ≤ 6 → xInv w59 → xFr [] w w59 → xTo (d + 1) mX3_roundsOfLamp (81, [], [(0, (2, 68)), (1, (0, ro)), (2, (0, co)), (3, (0, sh)), (4, (0, f3_25)), (5, (0, tu)), (6, (0, z50)), (7, (0, rd)), (8, (0, ag)), (9, (0, nj))], [], (w59, bd, fc, 0, 0, rr)) (fun φ => ∃ n w', xEnd 1 [(0, n)] (w', bd, fc, 0, 0, rr) φ ∧ (n ≤ 4294967295) ∧ xInv w' ∧ xFr [] w w') := by
            intro m58
            induction m58 with
            | zero => intro rd ag nj w59 hz; exact absurd hz (Nat.not_lt_zero _)
            | succ m58 ih57 =>
              intro rd ag nj w59 hm65 hn62 hn63 hn64 hI60 hF61
              refine xg_t (xg_blq rfl) ?_
              refine xg_t (xg_iload (va := (0, nj)) rfl rfl) ?_
              refine xg_t (xg_iload (va := (0, f3_25)) rfl rfl) ?_
              by_cases hc66 : nj < f3_25
              · refine xg_t (xg_icF (u := nj) (v := f3_25) rfl xnm0 xnm0 (xj_geF hc66 (by omega))) ?_
                refine xg_t (xg_iload (va := (0, ag)) rfl rfl) ?_
                refine xg_t (xg_sip) ?_
                by_cases hc67 : xbs 9999 < xbs ag
                · have hc67u := hc67
                  unfold xbs at hc67u
                  have hn68 : ag ≤ 2147483647 := by omega
                  refine xg_t (xg_icT (u := ag) (v := 9999) rfl xnm0 xnm0 (xjs_gtT hc67)) ?_
                  refine xg_t (xg_blq rfl) ?_
                  refine xg_t (xg_iload (va := (0, rd)) rfl rfl) ?_
                  exact xg_e ⟨rd, w59, ⟨rfl, rfl⟩, by omega, hI60, hF61⟩
                · have hc67u := hc67
                  unfold xbs at hc67u
                  refine xg_t (xg_icF (u := ag) (v := 9999) rfl xnm0 xnm0 (xjs_gtF hc67)) ?_
                  refine xg_t (xg_iload (va := (0, ag)) rfl rfl) ?_
                  refine xg_t (xg_aload (va := (2, 68)) rfl rfl) ?_
                  refine xg_t (xg_iload (va := (0, ro)) rfl rfl) ?_
                  refine xg_t (xg_iload (va := (0, co)) rfl rfl) ?_
                  refine xg_t (xg_iload (va := (0, nj)) rfl rfl) ?_
                  refine xg_t (xg_iload (va := (0, sh)) rfl rfl) ?_
                  have hm69 : nj * sh ≤ 5 * 5 := Nat.mul_le_mul (by omega) (by omega)
                  refine xg_t (xg_imul (u := nj) (v := sh) (z := nj * sh) xnm0 xnm0 (Nat.mod_eq_of_lt (by omega))) ?_
                  refine xg_t (xg_iadd (u := co) (v := nj * sh) (z := co + (nj * sh)) xnm0 xnm0 (by omega)) ?_
                  refine xg_cVi mX3_agingIn (vs := [(0, ro), (0, co + (nj * sh))]) (rest := [(0, ag)]) (cn1 := 0) (sl1 := 0) rfl (lmAgingIn (hI60) (by omega) (by omega)) rfl (hF61.get (by decide) h68_5) rfl rfl rfl rfl rfl rfl (fun n74 w70 hq71 => ?_)
                  obtain ⟨hn75, hI72, hF73⟩ := hq71
                  refine xg_k (xg_iadd (u := ag) (v := n74) (z := (ag + n74) % 4294967296) xnm0 xnm0 rfl) (Nat.mod_lt _ (by decide)) (fun z76 hz77 => ?_)
                  refine xg_t (xg_istore (l1 := [(0, (2, 68)), (1, (0, ro)), (2, (0, co)), (3, (0, sh)), (4, (0, f3_25)), (5, (0, tu)), (6, (0, z50)), (7, (0, rd)), (9, (0, nj))]) rfl rfl rfl) ?_
                  refine xg_t (xg_iload (va := (0, z76)) rfl rfl) ?_
                  refine xg_t (xg_sip) ?_
                  by_cases hc78 : xbs 9999 < xbs z76
                  · have hc78u := hc78
                    unfold xbs at hc78u
                    have hn79 : z76 ≤ 2147483647 := by omega
                    refine xg_t (xg_icT (u := z76) (v := 9999) rfl xnm0 xnm0 (xjs_gtT hc78)) ?_
                    refine xg_t (xg_blq rfl) ?_
                    refine xg_t (xg_iinc (u := nj) (z := nj + 1) (l1 := [(8, (0, z76)), (0, (2, 68)), (1, (0, ro)), (2, (0, co)), (3, (0, sh)), (4, (0, f3_25)), (5, (0, tu)), (6, (0, z50)), (7, (0, rd))]) rfl rfl (by omega) rfl) ?_
                    refine xg_t (xg_goto) ?_
                    refine xg_t (xg_drop (l1 := [(0, (2, 68)), (1, (0, ro)), (2, (0, co)), (3, (0, sh)), (4, (0, f3_25)), (5, (0, tu)), (6, (0, z50)), (7, (0, rd)), (8, (0, z76)), (9, (0, nj + 1))]) (List.forall_mem_cons.mpr ⟨List.mem_cons_of_mem _ (List.mem_cons_of_mem _ (List.mem_cons_self)), List.forall_mem_cons.mpr ⟨List.mem_cons_of_mem _ (List.mem_cons_of_mem _ (List.mem_cons_of_mem _ (List.mem_cons_self))), List.forall_mem_cons.mpr ⟨List.mem_cons_of_mem _ (List.mem_cons_of_mem _ (List.mem_cons_of_mem _ (List.mem_cons_of_mem _ (List.mem_cons_self)))), List.forall_mem_cons.mpr ⟨List.mem_cons_of_mem _ (List.mem_cons_of_mem _ (List.mem_cons_of_mem _ (List.mem_cons_of_mem _ (List.mem_cons_of_mem _ (List.mem_cons_self))))), List.forall_mem_cons.mpr ⟨List.mem_cons_of_mem _ (List.mem_cons_of_mem _ (List.mem_cons_of_mem _ (List.mem_cons_of_mem _ (List.mem_cons_of_mem _ (List.mem_cons_of_mem _ (List.mem_cons_self)))))), List.forall_mem_cons.mpr ⟨List.mem_cons_of_mem _ (List.mem_cons_of_mem _ (List.mem_cons_of_mem _ (List.mem_cons_of_mem _ (List.mem_cons_of_mem _ (List.mem_cons_of_mem _ (List.mem_cons_of_mem _ (List.mem_cons_self))))))), List.forall_mem_cons.mpr ⟨List.mem_cons_of_mem _ (List.mem_cons_of_mem _ (List.mem_cons_of_mem _ (List.mem_cons_of_mem _ (List.mem_cons_of_mem _ (List.mem_cons_of_mem _ (List.mem_cons_of_mem _ (List.mem_cons_of_mem _ (List.mem_cons_self)))))))), List.forall_mem_cons.mpr ⟨List.mem_cons_of_mem _ (List.mem_cons_of_mem _ (List.mem_cons_of_mem _ (List.mem_cons_of_mem _ (List.mem_cons_of_mem _ (List.mem_cons_of_mem _ (List.mem_cons_of_mem _ (List.mem_cons_of_mem _ (List.mem_cons_of_mem _ (List.mem_cons_self))))))))), List.forall_mem_cons.mpr ⟨List.mem_cons_of_mem _ (List.mem_cons_self), List.forall_mem_cons.mpr ⟨List.mem_cons_self, fun _ h => absurd h List.not_mem_nil⟩⟩⟩⟩⟩⟩⟩⟩⟩⟩)) ?_
                    exact ih57 rd z76 (nj + 1) w70 (by omega) (by omega) (by omega) (by omega) (hI72) ((hF61.tr (hF73.up (by decide))))
                  · have hc78u := hc78
                    unfold xbs at hc78u
                    refine xg_t (xg_icF (u := z76) (v := 9999) rfl xnm0 xnm0 (xjs_gtF hc78)) ?_
                    refine xg_t (xg_iinc (u := rd) (z := (rd + 1) % 4294967296) (l1 := [(8, (0, z76)), (0, (2, 68)), (1, (0, ro)), (2, (0, co)), (3, (0, sh)), (4, (0, f3_25)), (5, (0, tu)), (6, (0, z50)), (9, (0, nj))]) rfl rfl (rfl) rfl) ?_
                    refine xg_t (xg_blq rfl) ?_
                    refine xg_t (xg_iinc (u := nj) (z := nj + 1) (l1 := [(7, (0, (rd + 1) % 4294967296)), (8, (0, z76)), (0, (2, 68)), (1, (0, ro)), (2, (0, co)), (3, (0, sh)), (4, (0, f3_25)), (5, (0, tu)), (6, (0, z50))]) rfl rfl (by omega) rfl) ?_
                    refine xg_t (xg_goto) ?_
                    refine xg_t (xg_drop (l1 := [(0, (2, 68)), (1, (0, ro)), (2, (0, co)), (3, (0, sh)), (4, (0, f3_25)), (5, (0, tu)), (6, (0, z50)), (7, (0, (rd + 1) % 4294967296)), (8, (0, z76)), (9, (0, nj + 1))]) (List.forall_mem_cons.mpr ⟨List.mem_cons_of_mem _ (List.mem_cons_of_mem _ (List.mem_cons_of_mem _ (List.mem_cons_self))), List.forall_mem_cons.mpr ⟨List.mem_cons_of_mem _ (List.mem_cons_of_mem _ (List.mem_cons_of_mem _ (List.mem_cons_of_mem _ (List.mem_cons_self)))), List.forall_mem_cons.mpr ⟨List.mem_cons_of_mem _ (List.mem_cons_of_mem _ (List.mem_cons_of_mem _ (List.mem_cons_of_mem _ (List.mem_cons_of_mem _ (List.mem_cons_self))))), List.forall_mem_cons.mpr ⟨List.mem_cons_of_mem _ (List.mem_cons_of_mem _ (List.mem_cons_of_mem _ (List.mem_cons_of_mem _ (List.mem_cons_of_mem _ (List.mem_cons_of_mem _ (List.mem_cons_self)))))), List.forall_mem_cons.mpr ⟨List.mem_cons_of_mem _ (List.mem_cons_of_mem _ (List.mem_cons_of_mem _ (List.mem_cons_of_mem _ (List.mem_cons_of_mem _ (List.mem_cons_of_mem _ (List.mem_cons_of_mem _ (List.mem_cons_self))))))), List.forall_mem_cons.mpr ⟨List.mem_cons_of_mem _ (List.mem_cons_of_mem _ (List.mem_cons_of_mem _ (List.mem_cons_of_mem _ (List.mem_cons_of_mem _ (List.mem_cons_of_mem _ (List.mem_cons_of_mem _ (List.mem_cons_of_mem _ (List.mem_cons_self)))))))), List.forall_mem_cons.mpr ⟨List.mem_cons_of_mem _ (List.mem_cons_of_mem _ (List.mem_cons_of_mem _ (List.mem_cons_of_mem _ (List.mem_cons_of_mem _ (List.mem_cons_of_mem _ (List.mem_cons_of_mem _ (List.mem_cons_of_mem _ (List.mem_cons_of_mem _ (List.mem_cons_self))))))))), List.forall_mem_cons.mpr ⟨List.mem_cons_of_mem _ (List.mem_cons_self), List.forall_mem_cons.mpr ⟨List.mem_cons_of_mem _ (List.mem_cons_of_mem _ (List.mem_cons_self)), List.forall_mem_cons.mpr ⟨List.mem_cons_self, fun _ h => absurd h List.not_mem_nil⟩⟩⟩⟩⟩⟩⟩⟩⟩⟩)) ?_
                    exact ih57 ((rd + 1) % 4294967296) z76 (nj + 1) w70 (by omega) (by omega) (by omega) (by omega) (hI72) ((hF61.tr (hF73.up (by decide))))
              · refine xg_t (xg_icT (u := nj) (v := f3_25) rfl xnm0 xnm0 (xj_geT (by omega) (by omega))) ?_
                refine xg_t (xg_blq rfl) ?_
                refine xg_t (xg_iload (va := (0, rd)) rfl rfl) ?_
                exact xg_e ⟨rd, w59, ⟨rfl, rfl⟩, by omega, hI60, hF61⟩
          exact key56 _ z52 z54 0 w33 (Nat.lt_succ_self _) (by omega) (by omega) (by omega) (hI34) (hF35)
  exact key30 _ 0 0 w (Nat.lt_succ_self _) (by omega) (by omega) (hI) (xFr.rf)
theorem lmRoundsWith {sh : Nat} (hI : xInv w) (hs1 : sh ≤ 5) : xPi (d + 2) mX3_roundsWith [(2, 68), (0, sh)] w bd fc rr (fun n w' => (n ≤ 4294967295) ∧ xInv w' ∧ xFr [] w w') := by
  refine xPi.of ?_
  show xTo (d + 2) mX3_roundsWith (0, [], [(0, (2, 68)), (1, (0, sh))], [], (w, bd, fc, 0, 0, rr)) (fun φ => ∃ n w', xEnd 1 [(0, n)] (w', bd, fc, 0, 0, rr) φ ∧ (n ≤ 4294967295) ∧ xInv w' ∧ xFr [] w w')
  refine xoC68 (xqc68 hI : cp68 (wget w 68)) (fun f68_1 f68_3 h68_5 hb2 hb4 => ?_)
  refine xoC1 (xqc1 hI : cp1 (wget w 1)) (fun f1_6 f1_8 f1_10 f1_12 f1_14 f1_16 h1_18 hb7 hb9 hb11 hb13 hb15 hb17 => ?_)
  refine xoC3 (xqc3 hI : cp3 (wget w 3)) (fun f3_19 f3_21 f3_23 f3_25 f3_27 h3_29 hb20 hb22 hb24 hb26 hb28 => ?_)
  refine xg_t (xg_blq rfl) ?_
  refine xg_t (xg_sip) ?_
  refine xg_t (xg_istore (l1 := [(0, (2, 68)), (1, (0, sh))]) rfl rfl rfl) ?_
  refine xg_t (xg_const) ?_
  refine xg_t (xg_istore (l1 := [(2, (0, 1000)), (0, (2, 68)), (1, (0, sh))]) rfl rfl rfl) ?_
  refine xg_t (xg_drop (l1 := [(0, (2, 68)), (1, (0, sh)), (2, (0, 1000)), (3, (0, 0))]) (List.forall_mem_cons.mpr ⟨List.mem_cons_of_mem _ (List.mem_cons_of_mem _ (List.mem_cons_self)), List.forall_mem_cons.mpr ⟨List.mem_cons_of_mem _ (List.mem_cons_of_mem _ (List.mem_cons_of_mem _ (List.mem_cons_self))), List.forall_mem_cons.mpr ⟨List.mem_cons_of_mem _ (List.mem_cons_self), List.forall_mem_cons.mpr ⟨List.mem_cons_self, fun _ h => absurd h List.not_mem_nil⟩⟩⟩⟩)) ?_
  have key30 : ∀ (m32 : Nat) (rd ro : Nat) (w33 : List (List xE)), 6 - ro < m32 → rd ≤ 4294967295 → ro ≤ 6 → xInv w33 → xFr [] w w33 → xTo (d + 2) mX3_roundsWith (6, [], [(0, (2, 68)), (1, (0, sh)), (2, (0, rd)), (3, (0, ro))], [], (w33, bd, fc, 0, 0, rr)) (fun φ => ∃ n w', xEnd 1 [(0, n)] (w', bd, fc, 0, 0, rr) φ ∧ (n ≤ 4294967295) ∧ xInv w' ∧ xFr [] w w') := by
    intro m32
    induction m32 with
    | zero => intro rd ro w33 hz; exact absurd hz (Nat.not_lt_zero _)
    | succ m32 ih31 =>
      intro rd ro w33 hm38 hn36 hn37 hI34 hF35
      refine xg_t (xg_blq rfl) ?_
      refine xg_t (xg_iload (va := (0, ro)) rfl rfl) ?_
      refine xg_t (xg_aload (va := (2, 68)) rfl rfl) ?_
      refine xg_t (xg_getf (va := (2, 1)) (hF35.get (by decide) h68_5) rfl) ?_
      refine xg_t (xg_getf (va := (2, 3)) (hF35.get (by decide) h1_18) rfl) ?_
      refine xg_t (xg_getf (va := (0, f3_23)) (hF35.get (by decide) h3_29) rfl) ?_
      by_cases hc39 : ro < f3_23
      · refine xg_t (xg_icF (u := ro) (v := f3_23) rfl xnm0 xnm0 (xj_geF hc39 (by omega))) ?_
        refine xg_t (xg_const) ?_
        refine xg_t (xg_istore (l1 := [(0, (2, 68)), (1, (0, sh)), (2, (0, rd)), (3, (0, ro))]) rfl rfl rfl) ?_
        refine xg_t (xg_drop (l1 := [(0, (2, 68)), (1, (0, sh)), (2, (0, rd)), (3, (0, ro)), (4, (0, 0))]) (List.forall_mem_cons.mpr ⟨List.mem_cons_of_mem _ (List.mem_cons_self), List.forall_mem_cons.mpr ⟨List.mem_cons_of_mem _ (List.mem_cons_of_mem _ (List.mem_cons_self)), List.forall_mem_cons.mpr ⟨List.mem_cons_of_mem _ (List.mem_cons_of_mem _ (List.mem_cons_of_mem _ (List.mem_cons_self))), List.forall_mem_cons.mpr ⟨List.mem_cons_of_mem _ (List.mem_cons_of_mem _ (List.mem_cons_of_mem _ (List.mem_cons_of_mem _ (List.mem_cons_self)))), List.forall_mem_cons.mpr ⟨List.mem_cons_self, fun _ h => absurd h List.not_mem_nil⟩⟩⟩⟩⟩)) ?_
        have key40 : ∀ (m42 : Nat) (re co : Nat) (w43 : List (List xE)), 6 - co < m42 → re ≤ 4294967295 → co ≤ 6 → xInv w43 → xFr [] w w43 → xTo (d + 2) mX3_roundsWith (23, [], [(0, (2, 68)), (1, (0, sh)), (2, (0, re)), (3, (0, ro)), (4, (0, co))], [], (w43, bd, fc, 0, 0, rr)) (fun φ => ∃ n w', xEnd 1 [(0, n)] (w', bd, fc, 0, 0, rr) φ ∧ (n ≤ 4294967295) ∧ xInv w' ∧ xFr [] w w') := by
          intro m42
          induction m42 with
          | zero => intro re co w43 hz; exact absurd hz (Nat.not_lt_zero _)
          | succ m42 ih41 =>
            intro re co w43 hm48 hn46 hn47 hI44 hF45
            refine xg_t (xg_blq rfl) ?_
            refine xg_t (xg_iload (va := (0, co)) rfl rfl) ?_
            refine xg_t (xg_aload (va := (2, 68)) rfl rfl) ?_
            refine xg_t (xg_getf (va := (2, 1)) (hF45.get (by decide) h68_5) rfl) ?_
            refine xg_t (xg_getf (va := (2, 3)) (hF45.get (by decide) h1_18) rfl) ?_
            refine xg_t (xg_getf (va := (0, f3_25)) (hF45.get (by decide) h3_29) rfl) ?_
            by_cases hc49 : co < f3_25
            · refine xg_t (xg_icF (u := co) (v := f3_25) rfl xnm0 xnm0 (xj_geF hc49 (by omega))) ?_
              refine xg_t (xg_iload (va := (0, re)) rfl rfl) ?_
              refine xg_t (xg_aload (va := (2, 68)) rfl rfl) ?_
              refine xg_t (xg_iload (va := (0, ro)) rfl rfl) ?_
              refine xg_t (xg_iload (va := (0, co)) rfl rfl) ?_
              refine xg_t (xg_iload (va := (0, sh)) rfl rfl) ?_
              refine xg_cVi mX3_roundsOfLamp (vs := [(0, ro), (0, co), (0, sh)]) (rest := [(0, re)]) (cn1 := 0) (sl1 := 0) rfl (lmRoundsOfLamp (hI44) (by omega) (by omega) (by omega)) rfl (hF45.get (by decide) h68_5) rfl rfl rfl rfl rfl rfl (fun n54 w50 hq51 => ?_)
              obtain ⟨hn55, hI52, hF53⟩ := hq51
              refine xg_minK (u := re) (v := n54) xnm0 xnm0 xmx_ok (by omega) (by omega) (fun z56 hz57 hz58 hz59 hz60 => ?_)
              unfold xbs at hz58 hz59
              refine xg_t (xg_istore (l1 := [(0, (2, 68)), (1, (0, sh)), (3, (0, ro)), (4, (0, co))]) rfl rfl rfl) ?_
              refine xg_t (xg_iinc (u := co) (z := co + 1) (l1 := [(2, (0, z56)), (0, (2, 68)), (1, (0, sh)), (3, (0, ro))]) rfl rfl (by omega) rfl) ?_
              refine xg_t (xg_goto) ?_
              refine xg_t (xg_drop (l1 := [(0, (2, 68)), (1, (0, sh)), (2, (0, z56)), (3, (0, ro)), (4, (0, co + 1))]) (List.forall_mem_cons.mpr ⟨List.mem_cons_of_mem _ (List.mem_cons_of_mem _ (List.mem_cons_self)), List.forall_mem_cons.mpr ⟨List.mem_cons_of_mem _ (List.mem_cons_of_mem _ (List.mem_cons_of_mem _ (List.mem_cons_self))), List.forall_mem_cons.mpr ⟨List.mem_cons_of_mem _ (List.mem_cons_self), List.forall_mem_cons.mpr ⟨List.mem_cons_of_mem _ (List.mem_cons_of_mem _ (List.mem_cons_of_mem _ (List.mem_cons_of_mem _ (List.mem_cons_self)))), List.forall_mem_cons.mpr ⟨List.mem_cons_self, fun _ h => absurd h List.not_mem_nil⟩⟩⟩⟩⟩)) ?_
              exact ih41 z56 (co + 1) w50 (by omega) (by omega) (by omega) (hI52) ((hF45.tr (hF53.up (by decide))))
            · refine xg_t (xg_icT (u := co) (v := f3_25) rfl xnm0 xnm0 (xj_geT (by omega) (by omega))) ?_
              refine xg_t (xg_blq rfl) ?_
              refine xg_t (xg_iinc (u := ro) (z := ro + 1) (l1 := [(0, (2, 68)), (1, (0, sh)), (2, (0, re)), (4, (0, co))]) rfl rfl (by omega) rfl) ?_
              refine xg_t (xg_goto) ?_
              refine xg_t (xg_drop (l1 := [(0, (2, 68)), (1, (0, sh)), (2, (0, re)), (3, (0, ro + 1))]) (List.forall_mem_cons.mpr ⟨List.mem_cons_of_mem _ (List.mem_cons_self), List.forall_mem_cons.mpr ⟨List.mem_cons_of_mem _ (List.mem_cons_of_mem _ (List.mem_cons_self)), List.forall_mem_cons.mpr ⟨List.mem_cons_of_mem _ (List.mem_cons_of_mem _ (List.mem_cons_of_mem _ (List.mem_cons_self))), List.forall_mem_cons.mpr ⟨List.mem_cons_self, fun _ h => absurd h List.not_mem_nil⟩⟩⟩⟩)) ?_
              exact ih31 re (ro + 1) w43 (by omega) (by omega) (by omega) (hI44) (hF45)
        exact key40 _ rd 0 w33 (Nat.lt_succ_self _) (by omega) (by omega) (hI34) (hF35)
      · refine xg_t (xg_icT (u := ro) (v := f3_23) rfl xnm0 xnm0 (xj_geT (by omega) (by omega))) ?_
        refine xg_t (xg_blq rfl) ?_
        refine xg_t (xg_iload (va := (0, rd)) rfl rfl) ?_
        exact xg_e ⟨rd, w33, ⟨rfl, rfl⟩, by omega, hI34, hF35⟩
  exact key30 _ 1000 0 w (Nat.lt_succ_self _) (by omega) (by omega) (hI) (xFr.rf)
end XLM
end
section
/-! Laws: every method ends and keeps what holds of the cells -/
section XLWS
variable {d : Nat} {w : List (List xE)} {bd : List (Nat × Nat)} {fc : List (Nat × Nat × Bool)} {rr : Nat × Nat}
theorem jbBitCount {bi : Nat} (hI : xInv w) (hb1 : bi ≤ 4294967295) : xPi d mJ6_bitCount_0f7a4 [(0, bi)] w bd fc rr (fun n w' => (n ≤ 4294967295) ∧ xInv w' ∧ xFr [] w w') := by
  refine xPi.of ?_
  show xTo d mJ6_bitCount_0f7a4 (0, [], [(0, (0, bi))], [], (w, bd, fc, 0, 0, rr)) (fun φ => ∃ n w', xEnd 1 [(0, n)] (w', bd, fc, 0, 0, rr) φ ∧ (n ≤ 4294967295) ∧ xInv w' ∧ xFr [] w w')
  refine xg_t (xg_blq rfl) ?_
  refine xg_t (xg_iload (va := (0, bi)) rfl rfl) ?_
  refine xg_t (xg_iload (va := (0, bi)) rfl rfl) ?_
  refine xg_t (xg_const) ?_
  refine xg_k (xg_iushr (u := bi) (v := 1) (z := bi / 2 ^ 1) xnm0 xnm0 (by decide) rfl) (xush_lt (by omega)) (fun z1 hz2 => ?_)
  refine xg_t (xg_ldcw) ?_
  refine xg_k (xg_iand (z := Nat.land z1 1431655765) (u := z1) (v := 1431655765) xnm0 xnm0 rfl) (xland_lt (by omega)) (fun z3 hz4 => ?_)
  refine xg_k (xg_isub (u := bi) (v := z3) (z := (bi + (4294967296 - z3)) % 4294967296) xnm0 xnm0 rfl) (Nat.mod_lt _ (by decide)) (fun z5 hz6 => ?_)
  refine xg_t (xg_istore (l1 := []) rfl rfl rfl) ?_
  refine xg_t (xg_iload (va := (0, z5)) rfl rfl) ?_
  refine xg_t (xg_ldcw) ?_
  refine xg_k (xg_iand (z := Nat.land z5 858993459) (u := z5) (v := 858993459) xnm0 xnm0 rfl) (xland_lt (by omega)) (fun z7 hz8 => ?_)
  refine xg_t (xg_iload (va := (0, z5)) rfl rfl) ?_
  refine xg_t (xg_const) ?_
  refine xg_k (xg_iushr (u := z5) (v := 2) (z := z5 / 2 ^ 2) xnm0 xnm0 (by decide) rfl) (xush_lt (by omega)) (fun z9 hz10 => ?_)
  refine xg_t (xg_ldcw) ?_
  refine xg_k (xg_iand (z := Nat.land z9 858993459) (u := z9) (v := 858993459) xnm0 xnm0 rfl) (xland_lt (by omega)) (fun z11 hz12 => ?_)
  refine xg_k (xg_iadd (u := z7) (v := z11) (z := (z7 + z11) % 4294967296) xnm0 xnm0 rfl) (Nat.mod_lt _ (by decide)) (fun z13 hz14 => ?_)
  refine xg_t (xg_istore (l1 := []) rfl rfl rfl) ?_
  refine xg_t (xg_iload (va := (0, z13)) rfl rfl) ?_
  refine xg_t (xg_iload (va := (0, z13)) rfl rfl) ?_
  refine xg_t (xg_const) ?_
  refine xg_k (xg_iushr (u := z13) (v := 4) (z := z13 / 2 ^ 4) xnm0 xnm0 (by decide) rfl) (xush_lt (by omega)) (fun z15 hz16 => ?_)
  refine xg_k (xg_iadd (u := z13) (v := z15) (z := (z13 + z15) % 4294967296) xnm0 xnm0 rfl) (Nat.mod_lt _ (by decide)) (fun z17 hz18 => ?_)
  refine xg_t (xg_ldcw) ?_
  refine xg_k (xg_iand (z := Nat.land z17 252645135) (u := z17) (v := 252645135) xnm0 xnm0 rfl) (xland_lt (by omega)) (fun z19 hz20 => ?_)
  refine xg_t (xg_istore (l1 := []) rfl rfl rfl) ?_
  refine xg_t (xg_iload (va := (0, z19)) rfl rfl) ?_
  refine xg_t (xg_iload (va := (0, z19)) rfl rfl) ?_
  refine xg_t (xg_bip) ?_
  refine xg_k (xg_iushr (u := z19) (v := 8) (z := z19 / 2 ^ 8) xnm0 xnm0 (by decide) rfl) (xush_lt (by omega)) (fun z21 hz22 => ?_)
  refine xg_k (xg_iadd (u := z19) (v := z21) (z := (z19 + z21) % 4294967296) xnm0 xnm0 rfl) (Nat.mod_lt _ (by decide)) (fun z23 hz24 => ?_)
  refine xg_t (xg_istore (l1 := []) rfl rfl rfl) ?_
  refine xg_t (xg_iload (va := (0, z23)) rfl rfl) ?_
  refine xg_t (xg_iload (va := (0, z23)) rfl rfl) ?_
  refine xg_t (xg_bip) ?_
  refine xg_k (xg_iushr (u := z23) (v := 16) (z := z23 / 2 ^ 16) xnm0 xnm0 (by decide) rfl) (xush_lt (by omega)) (fun z25 hz26 => ?_)
  refine xg_k (xg_iadd (u := z23) (v := z25) (z := (z23 + z25) % 4294967296) xnm0 xnm0 rfl) (Nat.mod_lt _ (by decide)) (fun z27 hz28 => ?_)
  refine xg_t (xg_istore (l1 := []) rfl rfl rfl) ?_
  refine xg_t (xg_iload (va := (0, z27)) rfl rfl) ?_
  refine xg_t (xg_bip) ?_
  refine xg_k (xg_iand (z := Nat.land z27 63) (u := z27) (v := 63) xnm0 xnm0 rfl) (xland_lt (by omega)) (fun z29 hz30 => ?_)
  exact xg_e ⟨z29, w, ⟨rfl, rfl⟩, by omega, hI, xFr.rf⟩
theorem lwBitOf {te : Nat} (hI : xInv w) (ht1 : te ≤ 4294967295) : xPi d mX4_bitOf [(0, te)] w bd fc rr (fun n w' => (n ≤ 4294967295) ∧ xInv w' ∧ xFr [] w w') := by
  refine xPi.of ?_
  show xTo d mX4_bitOf (0, [], [(0, (0, te))], [], (w, bd, fc, 0, 0, rr)) (fun φ => ∃ n w', xEnd 1 [(0, n)] (w', bd, fc, 0, 0, rr) φ ∧ (n ≤ 4294967295) ∧ xInv w' ∧ xFr [] w w')
  refine xg_t (xg_blq rfl) ?_
  refine xg_t (xg_const) ?_
  refine xg_t (xg_bip) ?_
  refine xg_t (xg_iload (va := (0, te)) rfl rfl) ?_
  refine xg_k (xg_isub (u := 11) (v := te) (z := (11 + (4294967296 - te)) % 4294967296) xnm0 xnm0 rfl) (Nat.mod_lt _ (by decide)) (fun z1 hz2 => ?_)
  refine xg_k (xg_ishlG (u := 1) (v := z1) xnm0 xnm0) (xpt_lt _) (fun z3 hz4 => ?_)
  exact xg_e ⟨z3, w, ⟨rfl, rfl⟩, by omega, hI, xFr.rf⟩
theorem lwUnitAt {la sp : Nat} (hI : xInv w) (hl1 : la ≤ 239) (hs1 : sp ≤ 4294967295) : xPi d mX4_unitAt [(0, la), (0, sp)] w bd fc rr (fun n w' => (n ≤ 4294967295) ∧ xInv w' ∧ xFr [] w w') := by
  refine xPi.of ?_
  show xTo d mX4_unitAt (0, [], [(0, (0, la)), (1, (0, sp))], [], (w, bd, fc, 0, 0, rr)) (fun φ => ∃ n w', xEnd 1 [(0, n)] (w', bd, fc, 0, 0, rr) φ ∧ (n ≤ 4294967295) ∧ xInv w' ∧ xFr [] w w')
  refine xg_t (xg_blq rfl) ?_
  refine xg_t (xg_iload (va := (0, la)) rfl rfl) ?_
  refine xg_t (xg_bip) ?_
  refine xg_t (xg_irem (u := la) (v := 60) (z := la % 60) xnm0 xnm0 (by omega) (by decide) (by decide) (rfl)) ?_
  refine xg_t (xg_const) ?_
  refine xg_t (xg_iadd (u := la % 60) (v := 1) (z := (la % 60) + 1) xnm0 xnm0 (by omega)) ?_
  refine xg_t (xg_istore (l1 := [(0, (0, la)), (1, (0, sp))]) rfl rfl rfl) ?_
  refine xg_t (xg_iload (va := (0, la)) rfl rfl) ?_
  refine xg_t (xg_bip) ?_
  refine xg_t (xg_idiv (u := la) (v := 60) (z := la / 60) xnm0 xnm0 (by omega) (by decide) (by decide) (rfl)) ?_
  refine xg_t (xg_istore (l1 := [(2, (0, (la % 60) + 1)), (0, (0, la)), (1, (0, sp))]) rfl rfl rfl) ?_
  refine xg_t (xg_drop (l1 := [(0, (0, la)), (1, (0, sp)), (2, (0, (la % 60) + 1)), (3, (0, la / 60))]) (List.forall_mem_cons.mpr ⟨List.mem_cons_of_mem _ (List.mem_cons_of_mem _ (List.mem_cons_self)), List.forall_mem_cons.mpr ⟨List.mem_cons_of_mem _ (List.mem_cons_of_mem _ (List.mem_cons_of_mem _ (List.mem_cons_self))), List.forall_mem_cons.mpr ⟨List.mem_cons_of_mem _ (List.mem_cons_self), List.forall_mem_cons.mpr ⟨List.mem_cons_self, fun _ h => absurd h List.not_mem_nil⟩⟩⟩⟩)) ?_
  have key1 : ∀ (m3 : Nat) (un bb : Nat) (w4 : List (List xE)), bb < m3 → un ≤ 4294967295 → bb ≤ 3 → xInv w4 → xFr [] w w4 → xTo d mX4_unitAt (12, [], [(0, (0, la)), (1, (0, sp)), (2, (0, un)), (3, (0, bb))], [], (w4, bd, fc, 0, 0, rr)) (fun φ => ∃ n w', xEnd 1 [(0, n)] (w', bd, fc, 0, 0, rr) φ ∧ (n ≤ 4294967295) ∧ xInv w' ∧ xFr [] w w') := by
    intro m3
    induction m3 with
    | zero => intro un bb w4 hz; exact absurd hz (Nat.not_lt_zero _)
    | succ m3 ih2 =>
      intro un bb w4 hm9 hn7 hn8 hI5 hF6
      refine xg_t (xg_blq rfl) ?_
      refine xg_t (xg_iload (va := (0, bb)) rfl rfl) ?_
      by_cases hc10 : 0 < bb
      · refine xg_t (xg_ifF (u := bb) rfl xnm0 (xj_leF hc10 (by omega))) ?_
        refine xg_t (xg_iload (va := (0, un)) rfl rfl) ?_
        refine xg_t (xg_bip) ?_
        refine xg_t (xg_iload (va := (0, sp)) rfl rfl) ?_
        refine xg_k (xg_isub (u := 10) (v := sp) (z := (10 + (4294967296 - sp)) % 4294967296) xnm0 xnm0 rfl) (Nat.mod_lt _ (by decide)) (fun z11 hz12 => ?_)
        refine xg_k (xg_imul (u := un) (v := z11) (z := (un * z11) % 4294967296) xnm0 xnm0 rfl) (Nat.mod_lt _ (by decide)) (fun z13 hz14 => ?_)
        refine xg_t (xg_istore (l1 := [(0, (0, la)), (1, (0, sp)), (3, (0, bb))]) rfl rfl rfl) ?_
        refine xg_t (xg_iinc (u := bb) (z := bb - 1) (l1 := [(2, (0, z13)), (0, (0, la)), (1, (0, sp))]) rfl rfl (by omega) rfl) ?_
        refine xg_t (xg_goto) ?_
        refine xg_t (xg_drop (l1 := [(0, (0, la)), (1, (0, sp)), (2, (0, z13)), (3, (0, bb - 1))]) (List.forall_mem_cons.mpr ⟨List.mem_cons_of_mem _ (List.mem_cons_of_mem _ (List.mem_cons_self)), List.forall_mem_cons.mpr ⟨List.mem_cons_of_mem _ (List.mem_cons_of_mem _ (List.mem_cons_of_mem _ (List.mem_cons_self))), List.forall_mem_cons.mpr ⟨List.mem_cons_of_mem _ (List.mem_cons_self), List.forall_mem_cons.mpr ⟨List.mem_cons_self, fun _ h => absurd h List.not_mem_nil⟩⟩⟩⟩)) ?_
        exact ih2 z13 (bb - 1) w4 (by omega) (by omega) (by omega) (hI5) (hF6)
      · refine xg_t (xg_ifT (u := bb) rfl xnm0 (xj_leT (by omega) (by omega))) ?_
        refine xg_t (xg_blq rfl) ?_
        refine xg_t (xg_iload (va := (0, un)) rfl rfl) ?_
        exact xg_e ⟨un, w4, ⟨rfl, rfl⟩, by omega, hI5, hF6⟩
  exact key1 _ ((la % 60) + 1) (la / 60) w (Nat.lt_succ_self _) (by omega) (by omega) (hI) (xFr.rf)
theorem lwTestsAgainst {la : Nat} (hI : xInv w) (hl1 : la ≤ 239) : xPi (d + 1) mX4_testsAgainst [(2, 76), (0, la)] w bd fc rr (fun n w' => (n ≤ 4294967295) ∧ xInv w' ∧ xFr [] w w') := by
  refine xPi.of ?_
  show xTo (d + 1) mX4_testsAgainst (0, [], [(0, (2, 76)), (1, (0, la))], [], (w, bd, fc, 0, 0, rr)) (fun φ => ∃ n w', xEnd 1 [(0, n)] (w', bd, fc, 0, 0, rr) φ ∧ (n ≤ 4294967295) ∧ xInv w' ∧ xFr [] w w')
  refine xoC76 (xqc76 hI : cp76 (wget w 76)) (fun f76_1 f76_3 f76_5 f76_7 f76_9 f76_11 f76_13 f76_15 h76_17 hb2 hb4 hb6 hb8 hb10 hb12 hb14 hb16 => ?_)
  obtain ⟨f20_18, h20_20, hb19⟩ := (xqc20 hI : cp20 (wget w 20))
  refine xoI (xqc21 hI : cpI 48 9 4294967295 (wget w 21)) (fun g21_21 h21_22 hb23 => ?_)
  refine xg_t (xg_blq rfl) ?_
  refine xg_t (xg_const) ?_
  refine xg_t (xg_istore (l1 := [(0, (2, 76)), (1, (0, la))]) rfl rfl rfl) ?_
  refine xg_t (xg_const) ?_
  refine xg_t (xg_istore (l1 := [(2, (0, 0)), (0, (2, 76)), (1, (0, la))]) rfl rfl rfl) ?_
  refine xg_t (xg_drop (l1 := [(0, (2, 76)), (1, (0, la)), (2, (0, 0)), (3, (0, 0))]) (List.forall_mem_cons.mpr ⟨List.mem_cons_of_mem _ (List.mem_cons_of_mem _ (List.mem_cons_self)), List.forall_mem_cons.mpr ⟨List.mem_cons_of_mem _ (List.mem_cons_of_mem _ (List.mem_cons_of_mem _ (List.mem_cons_self))), List.forall_mem_cons.mpr ⟨List.mem_cons_of_mem _ (List.mem_cons_self), List.forall_mem_cons.mpr ⟨List.mem_cons_self, fun _ h => absurd h List.not_mem_nil⟩⟩⟩⟩)) ?_
  have key24 : ∀ (m26 : Nat) (se ki : Nat) (w27 : List (List xE)), 12 - ki < m26 → se ≤ 4294967295 → ki ≤ 12 → xInv w27 → xFr [] w w27 → xTo (d + 1) mX4_testsAgainst (4, [], [(0, (2, 76)), (1, (0, la)), (2, (0, se)), (3, (0, ki))], [], (w27, bd, fc, 0, 0, rr)) (fun φ => ∃ n w', xEnd 1 [(0, n)] (w', bd, fc, 0, 0, rr) φ ∧ (n ≤ 4294967295) ∧ xInv w' ∧ xFr [] w w') := by
    intro m26
    induction m26 with
    | zero => intro se ki w27 hz; exact absurd hz (Nat.not_lt_zero _)
    | succ m26 ih25 =>
      intro se ki w27 hm32 hn30 hn31 hI28 hF29
      refine xg_t (xg_blq rfl) ?_
      refine xg_t (xg_iload (va := (0, ki)) rfl rfl) ?_
      refine xg_t (xg_aload (va := (2, 76)) rfl rfl) ?_
      refine xg_t (xg_getf (va := (2, 20)) (hF29.get (by decide) h76_17) rfl) ?_
      refine xg_t (xg_getf (va := (0, f20_18)) (hF29.get (by decide) h20_20) rfl) ?_
      by_cases hc33 : ki < f20_18
      · refine xg_t (xg_icF (u := ki) (v := f20_18) rfl xnm0 xnm0 (xj_geF hc33 (by omega))) ?_
        refine xg_t (xg_iload (va := (0, la)) rfl rfl) ?_
        refine xg_t (xg_aload (va := (2, 76)) rfl rfl) ?_
        refine xg_t (xg_getf (va := (2, 20)) (hF29.get (by decide) h76_17) rfl) ?_
        refine xg_t (xg_iload (va := (0, ki)) rfl rfl) ?_
        refine xg_t (xg_const) ?_
        refine xg_k (xg_cVr mX5_get (vs := [(0, ki), (0, 0)]) (rest := [(0, la)]) (rs := [(0, if ki < f20_18 ∧ 0 < 4 then g21_21 (ki * 4 + 0) else 4294967295), (0, la)]) (cn1 := 0) (sl1 := 0) rfl (rget_ok (lim := 12) (wd := 4) (sz := f20_18) (hF29.get (by decide) h20_20) (h21_22.fr hF29 (by decide)) (by decide) (by omega) (by decide) (by decide) (by omega) (by omega)) rfl (hF29.get (by decide) h20_20) rfl rfl rfl rfl rfl rfl rfl) (xiteb (hb23)) (fun z34 hz35 => ?_)
        refine xg_cSi mX4_unitAt (vs := [(0, la), (0, z34)]) (rest := []) (cn1 := 0) (sl1 := 0) rfl (lwUnitAt (hI28) (by omega) (by omega)) rfl rfl rfl rfl rfl rfl rfl (fun n40 w36 hq37 => ?_)
        obtain ⟨hn41, hI38, hF39⟩ := hq37
        refine xg_t (xg_istore (l1 := [(0, (2, 76)), (1, (0, la)), (2, (0, se)), (3, (0, ki))]) rfl rfl rfl) ?_
        refine xg_t (xg_aload (va := (2, 76)) rfl rfl) ?_
        refine xg_t (xg_getf (va := (2, 20)) (hF39.get (by decide) (hF29.get (by decide) h76_17)) rfl) ?_
        refine xg_t (xg_iload (va := (0, ki)) rfl rfl) ?_
        refine xg_t (xg_const) ?_
        refine xg_k (xg_cVr mX5_get (vs := [(0, ki), (0, 1)]) (rest := []) (rs := [(0, if ki < f20_18 ∧ 1 < 4 then g21_21 (ki * 4 + 1) else 4294967295)]) (cn1 := 0) (sl1 := 0) rfl (rget_ok (lim := 12) (wd := 4) (sz := f20_18) (hF39.get (by decide) (hF29.get (by decide) h20_20)) ((h21_22.fr hF29 (by decide)).fr hF39 (by decide)) (by decide) (by omega) (by decide) (by decide) (by omega) (by omega)) rfl (hF39.get (by decide) (hF29.get (by decide) h20_20)) rfl rfl rfl rfl rfl rfl rfl) (xiteb (hb23)) (fun z42 hz43 => ?_)
        refine xg_t (xg_istore (l1 := [(4, (0, n40)), (0, (2, 76)), (1, (0, la)), (2, (0, se)), (3, (0, ki))]) rfl rfl rfl) ?_
        refine xg_t (xg_aload (va := (2, 76)) rfl rfl) ?_
        refine xg_t (xg_getf (va := (2, 20)) (hF39.get (by decide) (hF29.get (by decide) h76_17)) rfl) ?_
        refine xg_t (xg_iload (va := (0, ki)) rfl rfl) ?_
        refine xg_t (xg_const) ?_
        refine xg_k (xg_cVr mX5_get (vs := [(0, ki), (0, 3)]) (rest := []) (rs := [(0, if ki < f20_18 ∧ 3 < 4 then g21_21 (ki * 4 + 3) else 4294967295)]) (cn1 := 0) (sl1 := 0) rfl (rget_ok (lim := 12) (wd := 4) (sz := f20_18) (hF39.get (by decide) (hF29.get (by decide) h20_20)) ((h21_22.fr hF29 (by decide)).fr hF39 (by decide)) (by decide) (by omega) (by decide) (by decide) (by omega) (by omega)) rfl (hF39.get (by decide) (hF29.get (by decide) h20_20)) rfl rfl rfl rfl rfl rfl rfl) (xiteb (hb23)) (fun z44 hz45 => ?_)
        refine xg_t (xg_istore (l1 := [(5, (0, z42)), (4, (0, n40)), (0, (2, 76)), (1, (0, la)), (2, (0, se)), (3, (0, ki))]) rfl rfl rfl) ?_
        refine xg_t (xg_iload (va := (0, z44)) rfl rfl) ?_
        by_cases hc46 : z44 = 0
        · refine xg_t (xg_ifT (u := z44) rfl xnm0 (xj_eqT hc46)) ?_
          refine xg_t (xg_blq rfl) ?_
          refine xg_t (xg_const) ?_
          refine xg_t (xg_blq rfl) ?_
          refine xg_t (xg_istore (l1 := [(6, (0, z44)), (5, (0, z42)), (4, (0, n40)), (0, (2, 76)), (1, (0, la)), (2, (0, se)), (3, (0, ki))]) rfl rfl rfl) ?_
          refine xg_t (xg_iload (va := (0, z44)) rfl rfl) ?_
          refine xg_t (xg_aload (va := (2, 76)) rfl rfl) ?_
          refine xg_t (xg_getf (va := (2, 20)) (hF39.get (by decide) (hF29.get (by decide) h76_17)) rfl) ?_
          refine xg_t (xg_iload (va := (0, ki)) rfl rfl) ?_
          refine xg_t (xg_const) ?_
          refine xg_k (xg_cVr mX5_get (vs := [(0, ki), (0, 2)]) (rest := [(0, z44)]) (rs := [(0, if ki < f20_18 ∧ 2 < 4 then g21_21 (ki * 4 + 2) else 4294967295), (0, z44)]) (cn1 := 0) (sl1 := 0) rfl (rget_ok (lim := 12) (wd := 4) (sz := f20_18) (hF39.get (by decide) (hF29.get (by decide) h20_20)) ((h21_22.fr hF29 (by decide)).fr hF39 (by decide)) (by decide) (by omega) (by decide) (by decide) (by omega) (by omega)) rfl (hF39.get (by decide) (hF29.get (by decide) h20_20)) rfl rfl rfl rfl rfl rfl rfl) (xiteb (hb23)) (fun z47 hz48 => ?_)
          by_cases hc49 : z44 = z47
          · refine xg_t (xg_icT (u := z44) (v := z47) rfl xnm0 xnm0 (xj_eqT hc49)) ?_
            refine xg_t (xg_blq rfl) ?_
            refine xg_t (xg_const) ?_
            refine xg_t (xg_blq rfl) ?_
            refine xg_t (xg_istore (l1 := [(7, (0, 0)), (6, (0, z44)), (5, (0, z42)), (4, (0, n40)), (0, (2, 76)), (1, (0, la)), (2, (0, se)), (3, (0, ki))]) rfl rfl rfl) ?_
            refine xg_t (xg_iload (va := (0, 0)) rfl rfl) ?_
            refine xg_t (xg_ifF (u := 0) rfl xnm0 (by decide)) ?_
            refine xg_t (xg_iload (va := (0, 0)) rfl rfl) ?_
            refine xg_t (xg_ifT (u := 0) rfl xnm0 (by decide)) ?_
            refine xg_t (xg_blq rfl) ?_
            refine xg_t (xg_iinc (u := ki) (z := ki + 1) (l1 := [(8, (0, 0)), (7, (0, 0)), (6, (0, z44)), (5, (0, z42)), (4, (0, n40)), (0, (2, 76)), (1, (0, la)), (2, (0, se))]) rfl rfl (by omega) rfl) ?_
            refine xg_t (xg_goto) ?_
            refine xg_t (xg_drop (l1 := [(0, (2, 76)), (1, (0, la)), (2, (0, se)), (3, (0, ki + 1))]) (List.forall_mem_cons.mpr ⟨List.mem_cons_of_mem _ (List.mem_cons_of_mem _ (List.mem_cons_of_mem _ (List.mem_cons_of_mem _ (List.mem_cons_of_mem _ (List.mem_cons_of_mem _ (List.mem_cons_self)))))), List.forall_mem_cons.mpr ⟨List.mem_cons_of_mem _ (List.mem_cons_of_mem _ (List.mem_cons_of_mem _ (List.mem_cons_of_mem _ (List.mem_cons_of_mem _ (List.mem_cons_of_mem _ (List.mem_cons_of_mem _ (List.mem_cons_self))))))), List.forall_mem_cons.mpr ⟨List.mem_cons_of_mem _ (List.mem_cons_of_mem _ (List.mem_cons_of_mem _ (List.mem_cons_of_mem _ (List.mem_cons_of_mem _ (List.mem_cons_of_mem _ (List.mem_cons_of_mem _ (List.mem_cons_of_mem _ (List.mem_cons_self)))))))), List.forall_mem_cons.mpr ⟨List.mem_cons_self, fun _ h => absurd h List.not_mem_nil⟩⟩⟩⟩)) ?_
            exact ih25 se (ki + 1) w36 (by omega) (by omega) (by omega) (hI38) ((hF29.tr (hF39.up (by decide))))
          · refine xg_t (xg_icF (u := z44) (v := z47) rfl xnm0 xnm0 (xj_eqF hc49)) ?_
            refine xg_t (xg_iload (va := (0, z42)) rfl rfl) ?_
            refine xg_t (xg_bip) ?_
            refine xg_t (xg_iload (va := (0, n40)) rfl rfl) ?_
            refine xg_k (xg_imul (u := 12) (v := n40) (z := (12 * n40) % 4294967296) xnm0 xnm0 rfl) (Nat.mod_lt _ (by decide)) (fun z50 hz51 => ?_)
            by_cases hc52 : xbs z42 < xbs z50
            · have hc52u := hc52
              unfold xbs at hc52u
              refine xg_t (xg_icT (u := z42) (v := z50) rfl xnm0 xnm0 (xjs_ltT hc52)) ?_
              refine xg_t (xg_blq rfl) ?_
              refine xg_t (xg_const) ?_
              refine xg_t (xg_blq rfl) ?_
              refine xg_t (xg_istore (l1 := [(7, (0, 0)), (6, (0, z44)), (5, (0, z42)), (4, (0, n40)), (0, (2, 76)), (1, (0, la)), (2, (0, se)), (3, (0, ki))]) rfl rfl rfl) ?_
              refine xg_t (xg_iload (va := (0, 0)) rfl rfl) ?_
              refine xg_t (xg_ifF (u := 0) rfl xnm0 (by decide)) ?_
              refine xg_t (xg_iload (va := (0, 0)) rfl rfl) ?_
              refine xg_t (xg_ifT (u := 0) rfl xnm0 (by decide)) ?_
              refine xg_t (xg_blq rfl) ?_
              refine xg_t (xg_iinc (u := ki) (z := ki + 1) (l1 := [(8, (0, 0)), (7, (0, 0)), (6, (0, z44)), (5, (0, z42)), (4, (0, n40)), (0, (2, 76)), (1, (0, la)), (2, (0, se))]) rfl rfl (by omega) rfl) ?_
              refine xg_t (xg_goto) ?_
              refine xg_t (xg_drop (l1 := [(0, (2, 76)), (1, (0, la)), (2, (0, se)), (3, (0, ki + 1))]) (List.forall_mem_cons.mpr ⟨List.mem_cons_of_mem _ (List.mem_cons_of_mem _ (List.mem_cons_of_mem _ (List.mem_cons_of_mem _ (List.mem_cons_of_mem _ (List.mem_cons_of_mem _ (List.mem_cons_self)))))), List.forall_mem_cons.mpr ⟨List.mem_cons_of_mem _ (List.mem_cons_of_mem _ (List.mem_cons_of_mem _ (List.mem_cons_of_mem _ (List.mem_cons_of_mem _ (List.mem_cons_of_mem _ (List.mem_cons_of_mem _ (List.mem_cons_self))))))), List.forall_mem_cons.mpr ⟨List.mem_cons_of_mem _ (List.mem_cons_of_mem _ (List.mem_cons_of_mem _ (List.mem_cons_of_mem _ (List.mem_cons_of_mem _ (List.mem_cons_of_mem _ (List.mem_cons_of_mem _ (List.mem_cons_of_mem _ (List.mem_cons_self)))))))), List.forall_mem_cons.mpr ⟨List.mem_cons_self, fun _ h => absurd h List.not_mem_nil⟩⟩⟩⟩)) ?_
              exact ih25 se (ki + 1) w36 (by omega) (by omega) (by omega) (hI38) ((hF29.tr (hF39.up (by decide))))
            · have hc52u := hc52
              unfold xbs at hc52u
              refine xg_t (xg_icF (u := z42) (v := z50) rfl xnm0 xnm0 (xjs_ltF hc52)) ?_
              refine xg_t (xg_const) ?_
              refine xg_t (xg_goto) ?_
              refine xg_t (xg_blq rfl) ?_
              refine xg_t (xg_istore (l1 := [(7, (0, 0)), (6, (0, z44)), (5, (0, z42)), (4, (0, n40)), (0, (2, 76)), (1, (0, la)), (2, (0, se)), (3, (0, ki))]) rfl rfl rfl) ?_
              refine xg_t (xg_iload (va := (0, 0)) rfl rfl) ?_
              refine xg_t (xg_ifF (u := 0) rfl xnm0 (by decide)) ?_
              refine xg_t (xg_iload (va := (0, 1)) rfl rfl) ?_
              refine xg_t (xg_ifF (u := 1) rfl xnm0 (by decide)) ?_
              refine xg_t (xg_blq rfl) ?_
              refine xg_t (xg_iload (va := (0, se)) rfl rfl) ?_
              refine xg_t (xg_iload (va := (0, ki)) rfl rfl) ?_
              refine xg_cSi mX4_bitOf (vs := [(0, ki)]) (rest := [(0, se)]) (cn1 := 0) (sl1 := 0) rfl (lwBitOf (hI38) (by omega)) rfl rfl rfl rfl rfl rfl rfl (fun n57 w53 hq54 => ?_)
              obtain ⟨hn58, hI55, hF56⟩ := hq54
              refine xg_k (xg_ior (z := Nat.lor se n57) (u := se) (v := n57) xnm0 xnm0 rfl) (xlor_lt (by omega) (by omega)) (fun z59 hz60 => ?_)
              refine xg_t (xg_istore (l1 := [(8, (0, 1)), (7, (0, 0)), (6, (0, z44)), (5, (0, z42)), (4, (0, n40)), (0, (2, 76)), (1, (0, la)), (3, (0, ki))]) rfl rfl rfl) ?_
              refine xg_t (xg_blq rfl) ?_
              refine xg_t (xg_iinc (u := ki) (z := ki + 1) (l1 := [(2, (0, z59)), (8, (0, 1)), (7, (0, 0)), (6, (0, z44)), (5, (0, z42)), (4, (0, n40)), (0, (2, 76)), (1, (0, la))]) rfl rfl (by omega) rfl) ?_
              refine xg_t (xg_goto) ?_
              refine xg_t (xg_drop (l1 := [(0, (2, 76)), (1, (0, la)), (2, (0, z59)), (3, (0, ki + 1))]) (List.forall_mem_cons.mpr ⟨List.mem_cons_of_mem _ (List.mem_cons_of_mem _ (List.mem_cons_of_mem _ (List.mem_cons_of_mem _ (List.mem_cons_of_mem _ (List.mem_cons_of_mem _ (List.mem_cons_of_mem _ (List.mem_cons_self))))))), List.forall_mem_cons.mpr ⟨List.mem_cons_of_mem _ (List.mem_cons_of_mem _ (List.mem_cons_of_mem _ (List.mem_cons_of_mem _ (List.mem_cons_of_mem _ (List.mem_cons_of_mem _ (List.mem_cons_of_mem _ (List.mem_cons_of_mem _ (List.mem_cons_self)))))))), List.forall_mem_cons.mpr ⟨List.mem_cons_of_mem _ (List.mem_cons_self), List.forall_mem_cons.mpr ⟨List.mem_cons_self, fun _ h => absurd h List.not_mem_nil⟩⟩⟩⟩)) ?_
              exact ih25 z59 (ki + 1) w53 (by omega) (by omega) (by omega) (hI55) (((hF29.tr (hF39.up (by decide))).tr (hF56.up (by decide))))
        · refine xg_t (xg_ifF (u := z44) rfl xnm0 (xj_eqF hc46)) ?_
          refine xg_t (xg_iload (va := (0, z42)) rfl rfl) ?_
          refine xg_t (xg_bip) ?_
          refine xg_t (xg_iload (va := (0, n40)) rfl rfl) ?_
          refine xg_k (xg_imul (u := 8) (v := n40) (z := (8 * n40) % 4294967296) xnm0 xnm0 rfl) (Nat.mod_lt _ (by decide)) (fun z61 hz62 => ?_)
          by_cases hc63 : xbs z42 < xbs z61
          · have hc63u := hc63
            unfold xbs at hc63u
            refine xg_t (xg_icF (u := z42) (v := z61) rfl xnm0 xnm0 (xjs_geF hc63)) ?_
            refine xg_t (xg_const) ?_
            refine xg_t (xg_goto) ?_
            refine xg_t (xg_blq rfl) ?_
            refine xg_t (xg_istore (l1 := [(6, (0, z44)), (5, (0, z42)), (4, (0, n40)), (0, (2, 76)), (1, (0, la)), (2, (0, se)), (3, (0, ki))]) rfl rfl rfl) ?_
            refine xg_t (xg_iload (va := (0, z44)) rfl rfl) ?_
            refine xg_t (xg_aload (va := (2, 76)) rfl rfl) ?_
            refine xg_t (xg_getf (va := (2, 20)) (hF39.get (by decide) (hF29.get (by decide) h76_17)) rfl) ?_
            refine xg_t (xg_iload (va := (0, ki)) rfl rfl) ?_
            refine xg_t (xg_const) ?_
            refine xg_k (xg_cVr mX5_get (vs := [(0, ki), (0, 2)]) (rest := [(0, z44)]) (rs := [(0, if ki < f20_18 ∧ 2 < 4 then g21_21 (ki * 4 + 2) else 4294967295), (0, z44)]) (cn1 := 0) (sl1 := 0) rfl (rget_ok (lim := 12) (wd := 4) (sz := f20_18) (hF39.get (by decide) (hF29.get (by decide) h20_20)) ((h21_22.fr hF29 (by decide)).fr hF39 (by decide)) (by decide) (by omega) (by decide) (by decide) (by omega) (by omega)) rfl (hF39.get (by decide) (hF29.get (by decide) h20_20)) rfl rfl rfl rfl rfl rfl rfl) (xiteb (hb23)) (fun z64 hz65 => ?_)
            by_cases hc66 : z44 = z64
            · refine xg_t (xg_icT (u := z44) (v := z64) rfl xnm0 xnm0 (xj_eqT hc66)) ?_
              refine xg_t (xg_blq rfl) ?_
              refine xg_t (xg_const) ?_
              refine xg_t (xg_blq rfl) ?_
              refine xg_t (xg_istore (l1 := [(7, (0, 1)), (6, (0, z44)), (5, (0, z42)), (4, (0, n40)), (0, (2, 76)), (1, (0, la)), (2, (0, se)), (3, (0, ki))]) rfl rfl rfl) ?_
              refine xg_t (xg_iload (va := (0, 1)) rfl rfl) ?_
              refine xg_t (xg_ifT (u := 1) rfl xnm0 (by decide)) ?_
              refine xg_t (xg_blq rfl) ?_
              refine xg_t (xg_iload (va := (0, se)) rfl rfl) ?_
              refine xg_t (xg_iload (va := (0, ki)) rfl rfl) ?_
              refine xg_cSi mX4_bitOf (vs := [(0, ki)]) (rest := [(0, se)]) (cn1 := 0) (sl1 := 0) rfl (lwBitOf (hI38) (by omega)) rfl rfl rfl rfl rfl rfl rfl (fun n71 w67 hq68 => ?_)
              obtain ⟨hn72, hI69, hF70⟩ := hq68
              refine xg_k (xg_ior (z := Nat.lor se n71) (u := se) (v := n71) xnm0 xnm0 rfl) (xlor_lt (by omega) (by omega)) (fun z73 hz74 => ?_)
              refine xg_t (xg_istore (l1 := [(8, (0, 0)), (7, (0, 1)), (6, (0, z44)), (5, (0, z42)), (4, (0, n40)), (0, (2, 76)), (1, (0, la)), (3, (0, ki))]) rfl rfl rfl) ?_
              refine xg_t (xg_blq rfl) ?_
              refine xg_t (xg_iinc (u := ki) (z := ki + 1) (l1 := [(2, (0, z73)), (8, (0, 0)), (7, (0, 1)), (6, (0, z44)), (5, (0, z42)), (4, (0, n40)), (0, (2, 76)), (1, (0, la))]) rfl rfl (by omega) rfl) ?_
              refine xg_t (xg_goto) ?_
              refine xg_t (xg_drop (l1 := [(0, (2, 76)), (1, (0, la)), (2, (0, z73)), (3, (0, ki + 1))]) (List.forall_mem_cons.mpr ⟨List.mem_cons_of_mem _ (List.mem_cons_of_mem _ (List.mem_cons_of_mem _ (List.mem_cons_of_mem _ (List.mem_cons_of_mem _ (List.mem_cons_of_mem _ (List.mem_cons_of_mem _ (List.mem_cons_self))))))), List.forall_mem_cons.mpr ⟨List.mem_cons_of_mem _ (List.mem_cons_of_mem _ (List.mem_cons_of_mem _ (List.mem_cons_of_mem _ (List.mem_cons_of_mem _ (List.mem_cons_of_mem _ (List.mem_cons_of_mem _ (List.mem_cons_of_mem _ (List.mem_cons_self)))))))), List.forall_mem_cons.mpr ⟨List.mem_cons_of_mem _ (List.mem_cons_self), List.forall_mem_cons.mpr ⟨List.mem_cons_self, fun _ h => absurd h List.not_mem_nil⟩⟩⟩⟩)) ?_
              exact ih25 z73 (ki + 1) w67 (by omega) (by omega) (by omega) (hI69) (((hF29.tr (hF39.up (by decide))).tr (hF70.up (by decide))))
            · refine xg_t (xg_icF (u := z44) (v := z64) rfl xnm0 xnm0 (xj_eqF hc66)) ?_
              refine xg_t (xg_iload (va := (0, z42)) rfl rfl) ?_
              refine xg_t (xg_bip) ?_
              refine xg_t (xg_iload (va := (0, n40)) rfl rfl) ?_
              refine xg_k (xg_imul (u := 12) (v := n40) (z := (12 * n40) % 4294967296) xnm0 xnm0 rfl) (Nat.mod_lt _ (by decide)) (fun z75 hz76 => ?_)
              by_cases hc77 : xbs z42 < xbs z75
              · have hc77u := hc77
                unfold xbs at hc77u
                refine xg_t (xg_icT (u := z42) (v := z75) rfl xnm0 xnm0 (xjs_ltT hc77)) ?_
                refine xg_t (xg_blq rfl) ?_
                refine xg_t (xg_const) ?_
                refine xg_t (xg_blq rfl) ?_
                refine xg_t (xg_istore (l1 := [(7, (0, 1)), (6, (0, z44)), (5, (0, z42)), (4, (0, n40)), (0, (2, 76)), (1, (0, la)), (2, (0, se)), (3, (0, ki))]) rfl rfl rfl) ?_
                refine xg_t (xg_iload (va := (0, 1)) rfl rfl) ?_
                refine xg_t (xg_ifT (u := 1) rfl xnm0 (by decide)) ?_
                refine xg_t (xg_blq rfl) ?_
                refine xg_t (xg_iload (va := (0, se)) rfl rfl) ?_
                refine xg_t (xg_iload (va := (0, ki)) rfl rfl) ?_
                refine xg_cSi mX4_bitOf (vs := [(0, ki)]) (rest := [(0, se)]) (cn1 := 0) (sl1 := 0) rfl (lwBitOf (hI38) (by omega)) rfl rfl rfl rfl rfl rfl rfl (fun n82 w78 hq79 => ?_)
                obtain ⟨hn83, hI80, hF81⟩ := hq79
                refine xg_k (xg_ior (z := Nat.lor se n82) (u := se) (v := n82) xnm0 xnm0 rfl) (xlor_lt (by omega) (by omega)) (fun z84 hz85 => ?_)
                refine xg_t (xg_istore (l1 := [(8, (0, 0)), (7, (0, 1)), (6, (0, z44)), (5, (0, z42)), (4, (0, n40)), (0, (2, 76)), (1, (0, la)), (3, (0, ki))]) rfl rfl rfl) ?_
                refine xg_t (xg_blq rfl) ?_
                refine xg_t (xg_iinc (u := ki) (z := ki + 1) (l1 := [(2, (0, z84)), (8, (0, 0)), (7, (0, 1)), (6, (0, z44)), (5, (0, z42)), (4, (0, n40)), (0, (2, 76)), (1, (0, la))]) rfl rfl (by omega) rfl) ?_
                refine xg_t (xg_goto) ?_
                refine xg_t (xg_drop (l1 := [(0, (2, 76)), (1, (0, la)), (2, (0, z84)), (3, (0, ki + 1))]) (List.forall_mem_cons.mpr ⟨List.mem_cons_of_mem _ (List.mem_cons_of_mem _ (List.mem_cons_of_mem _ (List.mem_cons_of_mem _ (List.mem_cons_of_mem _ (List.mem_cons_of_mem _ (List.mem_cons_of_mem _ (List.mem_cons_self))))))), List.forall_mem_cons.mpr ⟨List.mem_cons_of_mem _ (List.mem_cons_of_mem _ (List.mem_cons_of_mem _ (List.mem_cons_of_mem _ (List.mem_cons_of_mem _ (List.mem_cons_of_mem _ (List.mem_cons_of_mem _ (List.mem_cons_of_mem _ (List.mem_cons_self)))))))), List.forall_mem_cons.mpr ⟨List.mem_cons_of_mem _ (List.mem_cons_self), List.forall_mem_cons.mpr ⟨List.mem_cons_self, fun _ h => absurd h List.not_mem_nil⟩⟩⟩⟩)) ?_
                exact ih25 z84 (ki + 1) w78 (by omega) (by omega) (by omega) (hI80) (((hF29.tr (hF39.up (by decide))).tr (hF81.up (by decide))))
              · have hc77u := hc77
                unfold xbs at hc77u
                refine xg_t (xg_icF (u := z42) (v := z75) rfl xnm0 xnm0 (xjs_ltF hc77)) ?_
                refine xg_t (xg_const) ?_
                refine xg_t (xg_goto) ?_
                refine xg_t (xg_blq rfl) ?_
                refine xg_t (xg_istore (l1 := [(7, (0, 1)), (6, (0, z44)), (5, (0, z42)), (4, (0, n40)), (0, (2, 76)), (1, (0, la)), (2, (0, se)), (3, (0, ki))]) rfl rfl rfl) ?_
                refine xg_t (xg_iload (va := (0, 1)) rfl rfl) ?_
                refine xg_t (xg_ifT (u := 1) rfl xnm0 (by decide)) ?_
                refine xg_t (xg_blq rfl) ?_
                refine xg_t (xg_iload (va := (0, se)) rfl rfl) ?_
                refine xg_t (xg_iload (va := (0, ki)) rfl rfl) ?_
                refine xg_cSi mX4_bitOf (vs := [(0, ki)]) (rest := [(0, se)]) (cn1 := 0) (sl1 := 0) rfl (lwBitOf (hI38) (by omega)) rfl rfl rfl rfl rfl rfl rfl (fun n90 w86 hq87 => ?_)
                obtain ⟨hn91, hI88, hF89⟩ := hq87
                refine xg_k (xg_ior (z := Nat.lor se n90) (u := se) (v := n90) xnm0 xnm0 rfl) (xlor_lt (by omega) (by omega)) (fun z92 hz93 => ?_)
                refine xg_t (xg_istore (l1 := [(8, (0, 1)), (7, (0, 1)), (6, (0, z44)), (5, (0, z42)), (4, (0, n40)), (0, (2, 76)), (1, (0, la)), (3, (0, ki))]) rfl rfl rfl) ?_
                refine xg_t (xg_blq rfl) ?_
                refine xg_t (xg_iinc (u := ki) (z := ki + 1) (l1 := [(2, (0, z92)), (8, (0, 1)), (7, (0, 1)), (6, (0, z44)), (5, (0, z42)), (4, (0, n40)), (0, (2, 76)), (1, (0, la))]) rfl rfl (by omega) rfl) ?_
                refine xg_t (xg_goto) ?_
                refine xg_t (xg_drop (l1 := [(0, (2, 76)), (1, (0, la)), (2, (0, z92)), (3, (0, ki + 1))]) (List.forall_mem_cons.mpr ⟨List.mem_cons_of_mem _ (List.mem_cons_of_mem _ (List.mem_cons_of_mem _ (List.mem_cons_of_mem _ (List.mem_cons_of_mem _ (List.mem_cons_of_mem _ (List.mem_cons_of_mem _ (List.mem_cons_self))))))), List.forall_mem_cons.mpr ⟨List.mem_cons_of_mem _ (List.mem_cons_of_mem _ (List.mem_cons_of_mem _ (List.mem_cons_of_mem _ (List.mem_cons_of_mem _ (List.mem_cons_of_mem _ (List.mem_cons_of_mem _ (List.mem_cons_of_mem _ (List.mem_cons_self)))))))), List.forall_mem_cons.mpr ⟨List.mem_cons_of_mem _ (List.mem_cons_self), List.forall_mem_cons.mpr ⟨List.mem_cons_self, fun _ h => absurd h List.not_mem_nil⟩⟩⟩⟩)) ?_
                exact ih25 z92 (ki + 1) w86 (by omega) (by omega) (by omega) (hI88) (((hF29.tr (hF39.up (by decide))).tr (hF89.up (by decide))))
          · have hc63u := hc63
            unfold xbs at hc63u
            refine xg_t (xg_icT (u := z42) (v := z61) rfl xnm0 xnm0 (xjs_geT hc63)) ?_
            refine xg_t (xg_blq rfl) ?_
            refine xg_t (xg_const) ?_
            refine xg_t (xg_blq rfl) ?_
            refine xg_t (xg_istore (l1 := [(6, (0, z44)), (5, (0, z42)), (4, (0, n40)), (0, (2, 76)), (1, (0, la)), (2, (0, se)), (3, (0, ki))]) rfl rfl rfl) ?_
            refine xg_t (xg_iload (va := (0, z44)) rfl rfl) ?_
            refine xg_t (xg_aload (va := (2, 76)) rfl rfl) ?_
            refine xg_t (xg_getf (va := (2, 20)) (hF39.get (by decide) (hF29.get (by decide) h76_17)) rfl) ?_
            refine xg_t (xg_iload (va := (0, ki)) rfl rfl) ?_
            refine xg_t (xg_const) ?_
            refine xg_k (xg_cVr mX5_get (vs := [(0, ki), (0, 2)]) (rest := [(0, z44)]) (rs := [(0, if ki < f20_18 ∧ 2 < 4 then g21_21 (ki * 4 + 2) else 4294967295), (0, z44)]) (cn1 := 0) (sl1 := 0) rfl (rget_ok (lim := 12) (wd := 4) (sz := f20_18) (hF39.get (by decide) (hF29.get (by decide) h20_20)) ((h21_22.fr hF29 (by decide)).fr hF39 (by decide)) (by decide) (by omega) (by decide) (by decide) (by omega) (by omega)) rfl (hF39.get (by decide) (hF29.get (by decide) h20_20)) rfl rfl rfl rfl rfl rfl rfl) (xiteb (hb23)) (fun z94 hz95 => ?_)
            by_cases hc96 : z44 = z94
            · refine xg_t (xg_icT (u := z44) (v := z94) rfl xnm0 xnm0 (xj_eqT hc96)) ?_
              refine xg_t (xg_blq rfl) ?_
              refine xg_t (xg_const) ?_
              refine xg_t (xg_blq rfl) ?_
              refine xg_t (xg_istore (l1 := [(7, (0, 0)), (6, (0, z44)), (5, (0, z42)), (4, (0, n40)), (0, (2, 76)), (1, (0, la)), (2, (0, se)), (3, (0, ki))]) rfl rfl rfl) ?_
              refine xg_t (xg_iload (va := (0, 0)) rfl rfl) ?_
              refine xg_t (xg_ifF (u := 0) rfl xnm0 (by decide)) ?_
              refine xg_t (xg_iload (va := (0, 0)) rfl rfl) ?_
              refine xg_t (xg_ifT (u := 0) rfl xnm0 (by decide)) ?_
              refine xg_t (xg_blq rfl) ?_
              refine xg_t (xg_iinc (u := ki) (z := ki + 1) (l1 := [(8, (0, 0)), (7, (0, 0)), (6, (0, z44)), (5, (0, z42)), (4, (0, n40)), (0, (2, 76)), (1, (0, la)), (2, (0, se))]) rfl rfl (by omega) rfl) ?_
              refine xg_t (xg_goto) ?_
              refine xg_t (xg_drop (l1 := [(0, (2, 76)), (1, (0, la)), (2, (0, se)), (3, (0, ki + 1))]) (List.forall_mem_cons.mpr ⟨List.mem_cons_of_mem _ (List.mem_cons_of_mem _ (List.mem_cons_of_mem _ (List.mem_cons_of_mem _ (List.mem_cons_of_mem _ (List.mem_cons_of_mem _ (List.mem_cons_self)))))), List.forall_mem_cons.mpr ⟨List.mem_cons_of_mem _ (List.mem_cons_of_mem _ (List.mem_cons_of_mem _ (List.mem_cons_of_mem _ (List.mem_cons_of_mem _ (List.mem_cons_of_mem _ (List.mem_cons_of_mem _ (List.mem_cons_self))))))), List.forall_mem_cons.mpr ⟨List.mem_cons_of_mem _ (List.mem_cons_of_mem _ (List.mem_cons_of_mem _ (List.mem_cons_of_mem _ (List.mem_cons_of_mem _ (List.mem_cons_of_mem _ (List.mem_cons_of_mem _ (List.mem_cons_of_mem _ (List.mem_cons_self)))))))), List.forall_mem_cons.mpr ⟨List.mem_cons_self, fun _ h => absurd h List.not_mem_nil⟩⟩⟩⟩)) ?_
              exact ih25 se (ki + 1) w36 (by omega) (by omega) (by omega) (hI38) ((hF29.tr (hF39.up (by decide))))
            · refine xg_t (xg_icF (u := z44) (v := z94) rfl xnm0 xnm0 (xj_eqF hc96)) ?_
              refine xg_t (xg_iload (va := (0, z42)) rfl rfl) ?_
              refine xg_t (xg_bip) ?_
              refine xg_t (xg_iload (va := (0, n40)) rfl rfl) ?_
              refine xg_k (xg_imul (u := 12) (v := n40) (z := (12 * n40) % 4294967296) xnm0 xnm0 rfl) (Nat.mod_lt _ (by decide)) (fun z97 hz98 => ?_)
              by_cases hc99 : xbs z42 < xbs z97
              · have hc99u := hc99
                unfold xbs at hc99u
                refine xg_t (xg_icT (u := z42) (v := z97) rfl xnm0 xnm0 (xjs_ltT hc99)) ?_
                refine xg_t (xg_blq rfl) ?_
                refine xg_t (xg_const) ?_
                refine xg_t (xg_blq rfl) ?_
                refine xg_t (xg_istore (l1 := [(7, (0, 0)), (6, (0, z44)), (5, (0, z42)), (4, (0, n40)), (0, (2, 76)), (1, (0, la)), (2, (0, se)), (3, (0, ki))]) rfl rfl rfl) ?_
                refine xg_t (xg_iload (va := (0, 0)) rfl rfl) ?_
                refine xg_t (xg_ifF (u := 0) rfl xnm0 (by decide)) ?_
                refine xg_t (xg_iload (va := (0, 0)) rfl rfl) ?_
                refine xg_t (xg_ifT (u := 0) rfl xnm0 (by decide)) ?_
                refine xg_t (xg_blq rfl) ?_
                refine xg_t (xg_iinc (u := ki) (z := ki + 1) (l1 := [(8, (0, 0)), (7, (0, 0)), (6, (0, z44)), (5, (0, z42)), (4, (0, n40)), (0, (2, 76)), (1, (0, la)), (2, (0, se))]) rfl rfl (by omega) rfl) ?_
                refine xg_t (xg_goto) ?_
                refine xg_t (xg_drop (l1 := [(0, (2, 76)), (1, (0, la)), (2, (0, se)), (3, (0, ki + 1))]) (List.forall_mem_cons.mpr ⟨List.mem_cons_of_mem _ (List.mem_cons_of_mem _ (List.mem_cons_of_mem _ (List.mem_cons_of_mem _ (List.mem_cons_of_mem _ (List.mem_cons_of_mem _ (List.mem_cons_self)))))), List.forall_mem_cons.mpr ⟨List.mem_cons_of_mem _ (List.mem_cons_of_mem _ (List.mem_cons_of_mem _ (List.mem_cons_of_mem _ (List.mem_cons_of_mem _ (List.mem_cons_of_mem _ (List.mem_cons_of_mem _ (List.mem_cons_self))))))), List.forall_mem_cons.mpr ⟨List.mem_cons_of_mem _ (List.mem_cons_of_mem _ (List.mem_cons_of_mem _ (List.mem_cons_of_mem _ (List.mem_cons_of_mem _ (List.mem_cons_of_mem _ (List.mem_cons_of_mem _ (List.mem_cons_of_mem _ (List.mem_cons_self)))))))), List.forall_mem_cons.mpr ⟨List.mem_cons_self, fun _ h => absurd h List.not_mem_nil⟩⟩⟩⟩)) ?_
                exact ih25 se (ki + 1) w36 (by omega) (by omega) (by omega) (hI38) ((hF29.tr (hF39.up (by decide))))
              · have hc99u := hc99
                unfold xbs at hc99u
                refine xg_t (xg_icF (u := z42) (v := z97) rfl xnm0 xnm0 (xjs_ltF hc99)) ?_
                refine xg_t (xg_const) ?_
                refine xg_t (xg_goto) ?_
                refine xg_t (xg_blq rfl) ?_
                refine xg_t (xg_istore (l1 := [(7, (0, 0)), (6, (0, z44)), (5, (0, z42)), (4, (0, n40)), (0, (2, 76)), (1, (0, la)), (2, (0, se)), (3, (0, ki))]) rfl rfl rfl) ?_
                refine xg_t (xg_iload (va := (0, 0)) rfl rfl) ?_
                refine xg_t (xg_ifF (u := 0) rfl xnm0 (by decide)) ?_
                refine xg_t (xg_iload (va := (0, 1)) rfl rfl) ?_
                refine xg_t (xg_ifF (u := 1) rfl xnm0 (by decide)) ?_
                refine xg_t (xg_blq rfl) ?_
                refine xg_t (xg_iload (va := (0, se)) rfl rfl) ?_
                refine xg_t (xg_iload (va := (0, ki)) rfl rfl) ?_
                refine xg_cSi mX4_bitOf (vs := [(0, ki)]) (rest := [(0, se)]) (cn1 := 0) (sl1 := 0) rfl (lwBitOf (hI38) (by omega)) rfl rfl rfl rfl rfl rfl rfl (fun n104 w100 hq101 => ?_)
                obtain ⟨hn105, hI102, hF103⟩ := hq101
                refine xg_k (xg_ior (z := Nat.lor se n104) (u := se) (v := n104) xnm0 xnm0 rfl) (xlor_lt (by omega) (by omega)) (fun z106 hz107 => ?_)
                refine xg_t (xg_istore (l1 := [(8, (0, 1)), (7, (0, 0)), (6, (0, z44)), (5, (0, z42)), (4, (0, n40)), (0, (2, 76)), (1, (0, la)), (3, (0, ki))]) rfl rfl rfl) ?_
                refine xg_t (xg_blq rfl) ?_
                refine xg_t (xg_iinc (u := ki) (z := ki + 1) (l1 := [(2, (0, z106)), (8, (0, 1)), (7, (0, 0)), (6, (0, z44)), (5, (0, z42)), (4, (0, n40)), (0, (2, 76)), (1, (0, la))]) rfl rfl (by omega) rfl) ?_
                refine xg_t (xg_goto) ?_
                refine xg_t (xg_drop (l1 := [(0, (2, 76)), (1, (0, la)), (2, (0, z106)), (3, (0, ki + 1))]) (List.forall_mem_cons.mpr ⟨List.mem_cons_of_mem _ (List.mem_cons_of_mem _ (List.mem_cons_of_mem _ (List.mem_cons_of_mem _ (List.mem_cons_of_mem _ (List.mem_cons_of_mem _ (List.mem_cons_of_mem _ (List.mem_cons_self))))))), List.forall_mem_cons.mpr ⟨List.mem_cons_of_mem _ (List.mem_cons_of_mem _ (List.mem_cons_of_mem _ (List.mem_cons_of_mem _ (List.mem_cons_of_mem _ (List.mem_cons_of_mem _ (List.mem_cons_of_mem _ (List.mem_cons_of_mem _ (List.mem_cons_self)))))))), List.forall_mem_cons.mpr ⟨List.mem_cons_of_mem _ (List.mem_cons_self), List.forall_mem_cons.mpr ⟨List.mem_cons_self, fun _ h => absurd h List.not_mem_nil⟩⟩⟩⟩)) ?_
                exact ih25 z106 (ki + 1) w100 (by omega) (by omega) (by omega) (hI102) (((hF29.tr (hF39.up (by decide))).tr (hF103.up (by decide))))
      · refine xg_t (xg_icT (u := ki) (v := f20_18) rfl xnm0 xnm0 (xj_geT (by omega) (by omega))) ?_
        refine xg_t (xg_blq rfl) ?_
        refine xg_t (xg_iload (va := (0, se)) rfl rfl) ?_
        exact xg_e ⟨se, w27, ⟨rfl, rfl⟩, by omega, hI28, hF29⟩
  exact key24 _ 0 0 w (Nat.lt_succ_self _) (by omega) (by omega) (hI) (xFr.rf)
theorem lwRefresh (hI : xInv w)  : xPq (d + 2) mX4_refresh [(2, 76)] w bd fc rr [] (fun w' => xInv w' ∧ xFr [76, 77] w w') := by
  refine xPq.of ?_
  show xTo (d + 2) mX4_refresh (0, [], [(0, (2, 76))], [], (w, bd, fc, 0, 0, rr)) (fun φ => ∃ w', xEnd 0 [] (w', bd, fc, 0, 0, rr) φ ∧ xInv w' ∧ xFr [76, 77] w w')
  refine xg_t (xg_blq rfl) ?_
  refine xg_t (xg_aload (va := (2, 76)) rfl rfl) ?_
  refine xoC76 (xqc76 hI : cp76 (wget w 76)) (fun f76_1 f76_3 f76_5 f76_7 f76_9 f76_11 f76_13 f76_15 h76_17 hb2 hb4 hb6 hb8 hb10 hb12 hb14 hb16 => ?_)
  refine xg_t (xg_getf (va := (0, f76_11)) h76_17 rfl) ?_
  by_cases hc18 : f76_11 = 0
  · refine xg_t (xg_ifT (u := f76_11) rfl xnm0 (xj_eqT hc18)) ?_
    refine xg_t (xg_blq rfl) ?_
    refine xg_t (xg_aload (va := (2, 76)) rfl rfl) ?_
    refine xg_t (xg_const) ?_
    refine xg_putI (fl1 := [(2, 20), (2, 77), (2, 78), (2, 79), (0, 0), (0, f76_3), (0, f76_5), (0, f76_7), (0, f76_9), (0, f76_11), (0, f76_13), (0, f76_15)]) h76_17 rfl rfl rfl (fun w19 hk20 hb21 => ?_)
    refine xg_t (xg_const) ?_
    refine xg_t (xg_istore (l1 := [(0, (2, 76))]) rfl rfl rfl) ?_
    refine xg_t (xg_drop (l1 := [(0, (2, 76)), (1, (0, 0))]) (List.forall_mem_cons.mpr ⟨List.mem_cons_of_mem _ (List.mem_cons_self), List.forall_mem_cons.mpr ⟨List.mem_cons_self, fun _ h => absurd h List.not_mem_nil⟩⟩)) ?_
    have key22 : ∀ (m24 : Nat) (la : Nat) (w25 : List (List xE)), 240 - la < m24 → la ≤ 240 → xInv w25 → xFr [76, 77] w w25 → xTo (d + 2) mX4_refresh (15, [], [(0, (2, 76)), (1, (0, la))], [], (w25, bd, fc, 0, 0, rr)) (fun φ => ∃ w', xEnd 0 [] (w', bd, fc, 0, 0, rr) φ ∧ xInv w' ∧ xFr [76, 77] w w') := by
      intro m24
      induction m24 with
      | zero => intro la w25 hz; exact absurd hz (Nat.not_lt_zero _)
      | succ m24 ih23 =>
        intro la w25 hm29 hn28 hI26 hF27
        refine xg_t (xg_blq rfl) ?_
        refine xg_t (xg_iload (va := (0, la)) rfl rfl) ?_
        refine xg_t (xg_sip) ?_
        by_cases hc30 : la < 240
        · refine xg_t (xg_icF (u := la) (v := 240) rfl xnm0 xnm0 (xj_geF hc30 (by omega))) ?_
          refine xg_t (xg_aload (va := (2, 76)) rfl rfl) ?_
          refine xoC76 (xqc76 hI26 : cp76 (wget w25 76)) (fun f76_31 f76_33 f76_35 f76_37 f76_39 f76_41 f76_43 f76_45 h76_47 hb32 hb34 hb36 hb38 hb40 hb42 hb44 hb46 => ?_)
          refine xg_t (xg_getf (va := (2, 77)) h76_47 rfl) ?_
          refine xg_t (xg_iload (va := (0, la)) rfl rfl) ?_
          refine xg_t (xg_aload (va := (2, 76)) rfl rfl) ?_
          refine xg_t (xg_iload (va := (0, la)) rfl rfl) ?_
          refine xg_cVi mX4_testsAgainst (vs := [(0, la)]) (rest := [(0, la), (2, 77)]) (cn1 := 0) (sl1 := 0) rfl (lwTestsAgainst (hI26) (by omega)) rfl h76_47 rfl rfl rfl rfl rfl rfl (fun n52 w48 hq49 => ?_)
          obtain ⟨hn53, hI50, hF51⟩ := hq49
          refine xoI (xqc77 hI50 : cpI 240 45 4294967295 (wget w48 77)) (fun g77_54 h77_55 hb56 => ?_)
          refine xg_iastK (n := la) (u := n52) h77_55 xnm0 xnm0 rfl (by omega) (fun w57 hr58 hb59 => ?_)
          refine xg_t (xg_aload (va := (2, 76)) rfl rfl) ?_
          refine xg_t (xg_getf (va := (2, 77)) (hb59.get (by decide) (hF51.get (by decide) h76_47)) rfl) ?_
          refine xg_t (xg_iload (va := (0, la)) rfl rfl) ?_
          refine xg_ialdB (n := la) (B := 4294967295) hr58 (xrb (by omega) (hb56)) xnm0 (by omega) (fun u60 hu61 he62 => ?_)
          by_cases hc63 : u60 = 0
          · refine xg_t (xg_ifF (u := u60) rfl xnm0 (xj_neF hc63)) ?_
            refine xg_t (xg_aload (va := (2, 76)) rfl rfl) ?_
            refine xg_t (xg_dup rfl) ?_
            refine xg_t (xg_getf (va := (0, f76_31)) (hb59.get (by decide) (hF51.get (by decide) h76_47)) rfl) ?_
            refine xg_t (xg_const) ?_
            refine xg_k (xg_iadd (u := f76_31) (v := 1) (z := (f76_31 + 1) % 4294967296) xnm0 xnm0 rfl) (Nat.mod_lt _ (by decide)) (fun z64 hz65 => ?_)
            refine xg_putI (fl1 := [(2, 20), (2, 77), (2, 78), (2, 79), (0, z64), (0, f76_33), (0, f76_35), (0, f76_37), (0, f76_39), (0, f76_41), (0, f76_43), (0, f76_45)]) (hb59.get (by decide) (hF51.get (by decide) h76_47)) rfl rfl rfl (fun w66 hk67 hb68 => ?_)
            refine xg_t (xg_blq rfl) ?_
            refine xg_t (xg_iinc (u := la) (z := la + 1) (l1 := [(0, (2, 76))]) rfl rfl (by omega) rfl) ?_
            refine xg_t (xg_goto) ?_
            refine xg_t (xg_drop (l1 := [(0, (2, 76)), (1, (0, la + 1))]) (List.forall_mem_cons.mpr ⟨List.mem_cons_of_mem _ (List.mem_cons_self), List.forall_mem_cons.mpr ⟨List.mem_cons_self, fun _ h => absurd h List.not_mem_nil⟩⟩)) ?_
            exact ih23 (la + 1) w66 (by omega) (by omega) (xInv.up (S := [77, 76]) hI50 ((xFr.of (S := [77, 76]) hb59 (by decide)).tr (xFr.of (S := [77, 76]) hb68 (by decide))) (List.forall_mem_cons.mpr ⟨xqu77 (show cpI 240 45 4294967295 (wget w66 77) from ⟨_, (hr58.but hb68 (by decide)), xrb (by omega) (hb56)⟩), List.forall_mem_cons.mpr ⟨xqu76 (show cp76 (wget w66 76) from xmC76 z64 f76_33 f76_35 f76_37 f76_39 f76_41 f76_43 f76_45 hk67 (by omega) hb34 hb36 hb38 hb40 hb42 hb44 hb46), fun _ h => absurd h List.not_mem_nil⟩⟩)) (((hF27.tr (hF51.up (by decide))).tr ((xFr.of (S := [76, 77]) hb59 (by decide)).tr (xFr.of (S := [76, 77]) hb68 (by decide)))))
          · refine xg_t (xg_ifT (u := u60) rfl xnm0 (xj_neT hc63)) ?_
            refine xg_t (xg_blq rfl) ?_
            refine xg_t (xg_iinc (u := la) (z := la + 1) (l1 := [(0, (2, 76))]) rfl rfl (by omega) rfl) ?_
            refine xg_t (xg_goto) ?_
            refine xg_t (xg_drop (l1 := [(0, (2, 76)), (1, (0, la + 1))]) (List.forall_mem_cons.mpr ⟨List.mem_cons_of_mem _ (List.mem_cons_self), List.forall_mem_cons.mpr ⟨List.mem_cons_self, fun _ h => absurd h List.not_mem_nil⟩⟩)) ?_
            exact ih23 (la + 1) w57 (by omega) (by omega) (xInv.up (S := [77]) hI50 (xFr.of (S := [77]) hb59 (by decide)) (List.forall_mem_cons.mpr ⟨xqu77 (show cpI 240 45 4294967295 (wget w57 77) from ⟨_, hr58, xrb (by omega) (hb56)⟩), fun _ h => absurd h List.not_mem_nil⟩)) (((hF27.tr (hF51.up (by decide))).tr (xFr.of (S := [76, 77]) hb59 (by decide))))
        · refine xg_t (xg_icT (u := la) (v := 240) rfl xnm0 xnm0 (xj_geT (by omega) (by omega))) ?_
          refine xg_t (xg_blq rfl) ?_
          refine xg_t (xg_aload (va := (2, 76)) rfl rfl) ?_
          refine xg_t (xg_const) ?_
          refine xoC76 (xqc76 hI26 : cp76 (wget w25 76)) (fun f76_69 f76_71 f76_73 f76_75 f76_77 f76_79 f76_81 f76_83 h76_85 hb70 hb72 hb74 hb76 hb78 hb80 hb82 hb84 => ?_)
          refine xg_putZ (fl1 := [(2, 20), (2, 77), (2, 78), (2, 79), (0, f76_69), (0, f76_71), (0, f76_73), (0, f76_75), (0, f76_77), (0, 1), (0, f76_81), (0, f76_83)]) h76_85 rfl rfl rfl (fun w86 hk87 hb88 => ?_)
          exact xg_e ⟨w86, ⟨rfl, rfl⟩, xInv.up (S := [76]) hI26 (xFr.of (S := [76]) hb88 (by decide)) (List.forall_mem_cons.mpr ⟨xqu76 (show cp76 (wget w86 76) from xmC76 f76_69 f76_71 f76_73 f76_75 f76_77 1 f76_81 f76_83 hk87 hb70 hb72 hb74 hb76 hb78 (by decide) hb82 hb84), fun _ h => absurd h List.not_mem_nil⟩), (hF27.tr (xFr.of (S := [76, 77]) hb88 (by decide)))⟩
    exact key22 _ 0 w19 (Nat.lt_succ_self _) (by omega) (xInv.up (S := [76]) hI (xFr.of (S := [76]) hb21 (by decide)) (List.forall_mem_cons.mpr ⟨xqu76 (show cp76 (wget w19 76) from xmC76 0 f76_3 f76_5 f76_7 f76_9 f76_11 f76_13 f76_15 hk20 (by decide) hb4 hb6 hb8 hb10 hb12 hb14 hb16), fun _ h => absurd h List.not_mem_nil⟩)) ((xFr.of (S := [76, 77]) hb21 (by decide)))
  · refine xg_t (xg_ifF (u := f76_11) rfl xnm0 (xj_eqF hc18)) ?_
    exact xg_e ⟨w, ⟨rfl, rfl⟩, hI, xFr.rf⟩
theorem lwKeptAt {kk : Nat} (hI : xInv w) (hk1 : kk ≤ 4294967295) : xPi d mX4_keptAt [(2, 76), (0, kk)] w bd fc rr (fun n w' => (n ≤ 4294967295) ∧ xInv w' ∧ xFr [] w w') := by
  refine xPi.of ?_
  show xTo d mX4_keptAt (0, [], [(0, (2, 76)), (1, (0, kk))], [], (w, bd, fc, 0, 0, rr)) (fun φ => ∃ n w', xEnd 1 [(0, n)] (w', bd, fc, 0, 0, rr) φ ∧ (n ≤ 4294967295) ∧ xInv w' ∧ xFr [] w w')
  refine xoC76 (xqc76 hI : cp76 (wget w 76)) (fun f76_1 f76_3 f76_5 f76_7 f76_9 f76_11 f76_13 f76_15 h76_17 hb2 hb4 hb6 hb8 hb10 hb12 hb14 hb16 => ?_)
  refine xg_t (xg_blq rfl) ?_
  refine xg_t (xg_const) ?_
  refine xg_t (xg_istore (l1 := [(0, (2, 76)), (1, (0, kk))]) rfl rfl rfl) ?_
  refine xg_t (xg_const) ?_
  refine xg_t (xg_istore (l1 := [(2, (0, 0)), (0, (2, 76)), (1, (0, kk))]) rfl rfl rfl) ?_
  refine xg_t (xg_drop (l1 := [(0, (2, 76)), (1, (0, kk)), (2, (0, 0)), (3, (0, 0))]) (List.forall_mem_cons.mpr ⟨List.mem_cons_of_mem _ (List.mem_cons_of_mem _ (List.mem_cons_self)), List.forall_mem_cons.mpr ⟨List.mem_cons_of_mem _ (List.mem_cons_of_mem _ (List.mem_cons_of_mem _ (List.mem_cons_self))), List.forall_mem_cons.mpr ⟨List.mem_cons_of_mem _ (List.mem_cons_self), List.forall_mem_cons.mpr ⟨List.mem_cons_self, fun _ h => absurd h List.not_mem_nil⟩⟩⟩⟩)) ?_
  have key18 : ∀ (m20 : Nat) (pa la : Nat) (w21 : List (List xE)), 240 - la < m20 → pa ≤ 4294967295 → la ≤ 240 → xInv w21 → xFr [] w w21 → xTo d mX4_keptAt (4, [], [(0, (2, 76)), (1, (0, kk)), (2, (0, pa)), (3, (0, la))], [], (w21, bd, fc, 0, 0, rr)) (fun φ => ∃ n w', xEnd 1 [(0, n)] (w', bd, fc, 0, 0, rr) φ ∧ (n ≤ 4294967295) ∧ xInv w' ∧ xFr [] w w') := by
    intro m20
    induction m20 with
    | zero => intro pa la w21 hz; exact absurd hz (Nat.not_lt_zero _)
    | succ m20 ih19 =>
      intro pa la w21 hm26 hn24 hn25 hI22 hF23
      refine xg_t (xg_blq rfl) ?_
      refine xg_t (xg_iload (va := (0, la)) rfl rfl) ?_
      refine xg_t (xg_sip) ?_
      by_cases hc27 : la < 240
      · refine xg_t (xg_icF (u := la) (v := 240) rfl xnm0 xnm0 (xj_geF hc27 (by omega))) ?_
        refine xg_t (xg_aload (va := (2, 76)) rfl rfl) ?_
        refine xg_t (xg_getf (va := (2, 77)) (hF23.get (by decide) h76_17) rfl) ?_
        refine xg_t (xg_iload (va := (0, la)) rfl rfl) ?_
        refine xoI (xqc77 hI22 : cpI 240 45 4294967295 (wget w21 77)) (fun g77_28 h77_29 hb30 => ?_)
        refine xg_ialdB (n := la) (B := 4294967295) h77_29 (hb30) xnm0 (by omega) (fun u31 hu32 he33 => ?_)
        by_cases hc34 : u31 = 0
        · refine xg_t (xg_ifF (u := u31) rfl xnm0 (xj_neF hc34)) ?_
          refine xg_t (xg_iload (va := (0, pa)) rfl rfl) ?_
          refine xg_t (xg_iload (va := (0, kk)) rfl rfl) ?_
          by_cases hc35 : pa = kk
          · refine xg_t (xg_icF (u := pa) (v := kk) rfl xnm0 xnm0 (xj_neF hc35)) ?_
            refine xg_t (xg_bip) ?_
            refine xg_t (xg_iload (va := (0, la)) rfl rfl) ?_
            refine xg_t (xg_bip) ?_
            refine xg_t (xg_idiv (u := la) (v := 60) (z := la / 60) xnm0 xnm0 (by omega) (by decide) (by decide) (rfl)) ?_
            refine xg_t (xg_imul (u := 100) (v := la / 60) (z := 100 * (la / 60)) xnm0 xnm0 (by omega)) ?_
            refine xg_t (xg_iload (va := (0, la)) rfl rfl) ?_
            refine xg_t (xg_bip) ?_
            refine xg_t (xg_irem (u := la) (v := 60) (z := la % 60) xnm0 xnm0 (by omega) (by decide) (by decide) (rfl)) ?_
            refine xg_t (xg_iadd (u := 100 * (la / 60)) (v := la % 60) (z := (100 * (la / 60)) + (la % 60)) xnm0 xnm0 (by omega)) ?_
            refine xg_t (xg_const) ?_
            refine xg_t (xg_iadd (u := (100 * (la / 60)) + (la % 60)) (v := 1) (z := ((100 * (la / 60)) + (la % 60)) + 1) xnm0 xnm0 (by omega)) ?_
            exact xg_e ⟨((100 * (la / 60)) + (la % 60)) + 1, w21, ⟨rfl, rfl⟩, by omega, hI22, hF23⟩
          · refine xg_t (xg_icT (u := pa) (v := kk) rfl xnm0 xnm0 (xj_neT hc35)) ?_
            refine xg_t (xg_blq rfl) ?_
            refine xg_t (xg_iinc (u := pa) (z := (pa + 1) % 4294967296) (l1 := [(0, (2, 76)), (1, (0, kk)), (3, (0, la))]) rfl rfl (rfl) rfl) ?_
            refine xg_t (xg_blq rfl) ?_
            refine xg_t (xg_iinc (u := la) (z := la + 1) (l1 := [(2, (0, (pa + 1) % 4294967296)), (0, (2, 76)), (1, (0, kk))]) rfl rfl (by omega) rfl) ?_
            refine xg_t (xg_goto) ?_
            refine xg_t (xg_drop (l1 := [(0, (2, 76)), (1, (0, kk)), (2, (0, (pa + 1) % 4294967296)), (3, (0, la + 1))]) (List.forall_mem_cons.mpr ⟨List.mem_cons_of_mem _ (List.mem_cons_of_mem _ (List.mem_cons_self)), List.forall_mem_cons.mpr ⟨List.mem_cons_of_mem _ (List.mem_cons_of_mem _ (List.mem_cons_of_mem _ (List.mem_cons_self))), List.forall_mem_cons.mpr ⟨List.mem_cons_of_mem _ (List.mem_cons_self), List.forall_mem_cons.mpr ⟨List.mem_cons_self, fun _ h => absurd h List.not_mem_nil⟩⟩⟩⟩)) ?_
            exact ih19 ((pa + 1) % 4294967296) (la + 1) w21 (by omega) (by omega) (by omega) (hI22) (hF23)
        · refine xg_t (xg_ifT (u := u31) rfl xnm0 (xj_neT hc34)) ?_
          refine xg_t (xg_blq rfl) ?_
          refine xg_t (xg_iinc (u := la) (z := la + 1) (l1 := [(0, (2, 76)), (1, (0, kk)), (2, (0, pa))]) rfl rfl (by omega) rfl) ?_
          refine xg_t (xg_goto) ?_
          refine xg_t (xg_drop (l1 := [(0, (2, 76)), (1, (0, kk)), (2, (0, pa)), (3, (0, la + 1))]) (List.forall_mem_cons.mpr ⟨List.mem_cons_of_mem _ (List.mem_cons_self), List.forall_mem_cons.mpr ⟨List.mem_cons_of_mem _ (List.mem_cons_of_mem _ (List.mem_cons_self)), List.forall_mem_cons.mpr ⟨List.mem_cons_of_mem _ (List.mem_cons_of_mem _ (List.mem_cons_of_mem _ (List.mem_cons_self))), List.forall_mem_cons.mpr ⟨List.mem_cons_self, fun _ h => absurd h List.not_mem_nil⟩⟩⟩⟩)) ?_
          exact ih19 pa (la + 1) w21 (by omega) (by omega) (by omega) (hI22) (hF23)
      · refine xg_t (xg_icT (u := la) (v := 240) rfl xnm0 xnm0 (xj_geT (by omega) (by omega))) ?_
        refine xg_t (xg_blq rfl) ?_
        refine xg_t (xg_const) ?_
        exact xg_e ⟨4294967295, w21, ⟨rfl, rfl⟩, by first | decide | omega, hI22, hF23⟩
  exact key18 _ 0 0 w (Nat.lt_succ_self _) (by omega) (by omega) (hI) (xFr.rf)
theorem lwSpanStart {sp : Nat} (hI : xInv w) (hs1 : sp ≤ 4294967295) : xPi (d + 1) mX4_spanStart [(2, 76), (0, sp)] w bd fc rr (fun n w' => (n ≤ 4294967295) ∧ xInv w' ∧ xFr [] w w') := by
  refine xPi.of ?_
  show xTo (d + 1) mX4_spanStart (0, [], [(0, (2, 76)), (1, (0, sp))], [], (w, bd, fc, 0, 0, rr)) (fun φ => ∃ n w', xEnd 1 [(0, n)] (w', bd, fc, 0, 0, rr) φ ∧ (n ≤ 4294967295) ∧ xInv w' ∧ xFr [] w w')
  refine xoC76 (xqc76 hI : cp76 (wget w 76)) (fun f76_1 f76_3 f76_5 f76_7 f76_9 f76_11 f76_13 f76_15 h76_17 hb2 hb4 hb6 hb8 hb10 hb12 hb14 hb16 => ?_)
  refine xg_t (xg_blq rfl) ?_
  refine xg_t (xg_ldc) ?_
  refine xg_t (xg_istore (l1 := [(0, (2, 76)), (1, (0, sp))]) rfl rfl rfl) ?_
  refine xg_t (xg_const) ?_
  refine xg_t (xg_istore (l1 := [(2, (0, 2147483647)), (0, (2, 76)), (1, (0, sp))]) rfl rfl rfl) ?_
  refine xg_t (xg_drop (l1 := [(0, (2, 76)), (1, (0, sp)), (2, (0, 2147483647)), (3, (0, 0))]) (List.forall_mem_cons.mpr ⟨List.mem_cons_of_mem _ (List.mem_cons_of_mem _ (List.mem_cons_self)), List.forall_mem_cons.mpr ⟨List.mem_cons_of_mem _ (List.mem_cons_of_mem _ (List.mem_cons_of_mem _ (List.mem_cons_self))), List.forall_mem_cons.mpr ⟨List.mem_cons_of_mem _ (List.mem_cons_self), List.forall_mem_cons.mpr ⟨List.mem_cons_self, fun _ h => absurd h List.not_mem_nil⟩⟩⟩⟩)) ?_
  have key18 : ∀ (m20 : Nat) (le la : Nat) (w21 : List (List xE)), 240 - la < m20 → le ≤ 4294967295 → la ≤ 240 → xInv w21 → xFr [] w w21 → xTo (d + 1) mX4_spanStart (5, [], [(0, (2, 76)), (1, (0, sp)), (2, (0, le)), (3, (0, la))], [], (w21, bd, fc, 0, 0, rr)) (fun φ => ∃ n w', xEnd 1 [(0, n)] (w', bd, fc, 0, 0, rr) φ ∧ (n ≤ 4294967295) ∧ xInv w' ∧ xFr [] w w') := by
    intro m20
    induction m20 with
    | zero => intro le la w21 hz; exact absurd hz (Nat.not_lt_zero _)
    | succ m20 ih19 =>
      intro le la w21 hm26 hn24 hn25 hI22 hF23
      refine xg_t (xg_blq rfl) ?_
      refine xg_t (xg_iload (va := (0, la)) rfl rfl) ?_
      refine xg_t (xg_sip) ?_
      by_cases hc27 : la < 240
      · refine xg_t (xg_icF (u := la) (v := 240) rfl xnm0 xnm0 (xj_geF hc27 (by omega))) ?_
        refine xg_t (xg_aload (va := (2, 76)) rfl rfl) ?_
        refine xg_t (xg_getf (va := (2, 77)) (hF23.get (by decide) h76_17) rfl) ?_
        refine xg_t (xg_iload (va := (0, la)) rfl rfl) ?_
        refine xoI (xqc77 hI22 : cpI 240 45 4294967295 (wget w21 77)) (fun g77_28 h77_29 hb30 => ?_)
        refine xg_ialdB (n := la) (B := 4294967295) h77_29 (hb30) xnm0 (by omega) (fun u31 hu32 he33 => ?_)
        by_cases hc34 : u31 = 0
        · refine xg_t (xg_ifF (u := u31) rfl xnm0 (xj_neF hc34)) ?_
          refine xg_t (xg_iload (va := (0, le)) rfl rfl) ?_
          refine xg_t (xg_bip) ?_
          refine xg_t (xg_iload (va := (0, la)) rfl rfl) ?_
          refine xg_t (xg_iload (va := (0, sp)) rfl rfl) ?_
          refine xg_cSi mX4_unitAt (vs := [(0, la), (0, sp)]) (rest := [(0, 8), (0, le)]) (cn1 := 0) (sl1 := 0) rfl (lwUnitAt (hI22) (by omega) (by omega)) rfl rfl rfl rfl rfl rfl rfl (fun n39 w35 hq36 => ?_)
          obtain ⟨hn40, hI37, hF38⟩ := hq36
          refine xg_k (xg_imul (u := 8) (v := n39) (z := (8 * n39) % 4294967296) xnm0 xnm0 rfl) (Nat.mod_lt _ (by decide)) (fun z41 hz42 => ?_)
          refine xg_minK (u := le) (v := z41) xnm0 xnm0 xmx_ok (by omega) (by omega) (fun z43 hz44 hz45 hz46 hz47 => ?_)
          unfold xbs at hz45 hz46
          refine xg_t (xg_istore (l1 := [(0, (2, 76)), (1, (0, sp)), (3, (0, la))]) rfl rfl rfl) ?_
          refine xg_t (xg_blq rfl) ?_
          refine xg_t (xg_iinc (u := la) (z := la + 1) (l1 := [(2, (0, z43)), (0, (2, 76)), (1, (0, sp))]) rfl rfl (by omega) rfl) ?_
          refine xg_t (xg_goto) ?_
          refine xg_t (xg_drop (l1 := [(0, (2, 76)), (1, (0, sp)), (2, (0, z43)), (3, (0, la + 1))]) (List.forall_mem_cons.mpr ⟨List.mem_cons_of_mem _ (List.mem_cons_of_mem _ (List.mem_cons_self)), List.forall_mem_cons.mpr ⟨List.mem_cons_of_mem _ (List.mem_cons_of_mem _ (List.mem_cons_of_mem _ (List.mem_cons_self))), List.forall_mem_cons.mpr ⟨List.mem_cons_of_mem _ (List.mem_cons_self), List.forall_mem_cons.mpr ⟨List.mem_cons_self, fun _ h => absurd h List.not_mem_nil⟩⟩⟩⟩)) ?_
          exact ih19 z43 (la + 1) w35 (by omega) (by omega) (by omega) (hI37) ((hF23.tr (hF38.up (by decide))))
        · refine xg_t (xg_ifT (u := u31) rfl xnm0 (xj_neT hc34)) ?_
          refine xg_t (xg_blq rfl) ?_
          refine xg_t (xg_iinc (u := la) (z := la + 1) (l1 := [(0, (2, 76)), (1, (0, sp)), (2, (0, le))]) rfl rfl (by omega) rfl) ?_
          refine xg_t (xg_goto) ?_
          refine xg_t (xg_drop (l1 := [(0, (2, 76)), (1, (0, sp)), (2, (0, le)), (3, (0, la + 1))]) (List.forall_mem_cons.mpr ⟨List.mem_cons_of_mem _ (List.mem_cons_self), List.forall_mem_cons.mpr ⟨List.mem_cons_of_mem _ (List.mem_cons_of_mem _ (List.mem_cons_self)), List.forall_mem_cons.mpr ⟨List.mem_cons_of_mem _ (List.mem_cons_of_mem _ (List.mem_cons_of_mem _ (List.mem_cons_self))), List.forall_mem_cons.mpr ⟨List.mem_cons_self, fun _ h => absurd h List.not_mem_nil⟩⟩⟩⟩)) ?_
          exact ih19 le (la + 1) w21 (by omega) (by omega) (by omega) (hI22) (hF23)
      · refine xg_t (xg_icT (u := la) (v := 240) rfl xnm0 xnm0 (xj_geT (by omega) (by omega))) ?_
        refine xg_t (xg_blq rfl) ?_
        refine xg_t (xg_iload (va := (0, le)) rfl rfl) ?_
        exact xg_e ⟨le, w21, ⟨rfl, rfl⟩, by omega, hI22, hF23⟩
  exact key18 _ 2147483647 0 w (Nat.lt_succ_self _) (by omega) (by omega) (hI) (xFr.rf)
theorem lwSpanEnd {sp : Nat} (hI : xInv w) (hs1 : sp ≤ 4294967295) : xPi (d + 1) mX4_spanEnd [(2, 76), (0, sp)] w bd fc rr (fun n w' => (n ≤ 4294967295) ∧ xInv w' ∧ xFr [] w w') := by
  refine xPi.of ?_
  show xTo (d + 1) mX4_spanEnd (0, [], [(0, (2, 76)), (1, (0, sp))], [], (w, bd, fc, 0, 0, rr)) (fun φ => ∃ n w', xEnd 1 [(0, n)] (w', bd, fc, 0, 0, rr) φ ∧ (n ≤ 4294967295) ∧ xInv w' ∧ xFr [] w w')
  refine xoC76 (xqc76 hI : cp76 (wget w 76)) (fun f76_1 f76_3 f76_5 f76_7 f76_9 f76_11 f76_13 f76_15 h76_17 hb2 hb4 hb6 hb8 hb10 hb12 hb14 hb16 => ?_)
  refine xg_t (xg_blq rfl) ?_
  refine xg_t (xg_const) ?_
  refine xg_t (xg_istore (l1 := [(0, (2, 76)), (1, (0, sp))]) rfl rfl rfl) ?_
  refine xg_t (xg_const) ?_
  refine xg_t (xg_istore (l1 := [(2, (0, 0)), (0, (2, 76)), (1, (0, sp))]) rfl rfl rfl) ?_
  refine xg_t (xg_drop (l1 := [(0, (2, 76)), (1, (0, sp)), (2, (0, 0)), (3, (0, 0))]) (List.forall_mem_cons.mpr ⟨List.mem_cons_of_mem _ (List.mem_cons_of_mem _ (List.mem_cons_self)), List.forall_mem_cons.mpr ⟨List.mem_cons_of_mem _ (List.mem_cons_of_mem _ (List.mem_cons_of_mem _ (List.mem_cons_self))), List.forall_mem_cons.mpr ⟨List.mem_cons_of_mem _ (List.mem_cons_self), List.forall_mem_cons.mpr ⟨List.mem_cons_self, fun _ h => absurd h List.not_mem_nil⟩⟩⟩⟩)) ?_
  have key18 : ∀ (m20 : Nat) (gr la : Nat) (w21 : List (List xE)), 240 - la < m20 → gr ≤ 4294967295 → la ≤ 240 → xInv w21 → xFr [] w w21 → xTo (d + 1) mX4_spanEnd (4, [], [(0, (2, 76)), (1, (0, sp)), (2, (0, gr)), (3, (0, la))], [], (w21, bd, fc, 0, 0, rr)) (fun φ => ∃ n w', xEnd 1 [(0, n)] (w', bd, fc, 0, 0, rr) φ ∧ (n ≤ 4294967295) ∧ xInv w' ∧ xFr [] w w') := by
    intro m20
    induction m20 with
    | zero => intro gr la w21 hz; exact absurd hz (Nat.not_lt_zero _)
    | succ m20 ih19 =>
      intro gr la w21 hm26 hn24 hn25 hI22 hF23
      refine xg_t (xg_blq rfl) ?_
      refine xg_t (xg_iload (va := (0, la)) rfl rfl) ?_
      refine xg_t (xg_sip) ?_
      by_cases hc27 : la < 240
      · refine xg_t (xg_icF (u := la) (v := 240) rfl xnm0 xnm0 (xj_geF hc27 (by omega))) ?_
        refine xg_t (xg_aload (va := (2, 76)) rfl rfl) ?_
        refine xg_t (xg_getf (va := (2, 77)) (hF23.get (by decide) h76_17) rfl) ?_
        refine xg_t (xg_iload (va := (0, la)) rfl rfl) ?_
        refine xoI (xqc77 hI22 : cpI 240 45 4294967295 (wget w21 77)) (fun g77_28 h77_29 hb30 => ?_)
        refine xg_ialdB (n := la) (B := 4294967295) h77_29 (hb30) xnm0 (by omega) (fun u31 hu32 he33 => ?_)
        by_cases hc34 : u31 = 0
        · refine xg_t (xg_ifF (u := u31) rfl xnm0 (xj_neF hc34)) ?_
          refine xg_t (xg_iload (va := (0, gr)) rfl rfl) ?_
          refine xg_t (xg_bip) ?_
          refine xg_t (xg_iload (va := (0, la)) rfl rfl) ?_
          refine xg_t (xg_iload (va := (0, sp)) rfl rfl) ?_
          refine xg_cSi mX4_unitAt (vs := [(0, la), (0, sp)]) (rest := [(0, 12), (0, gr)]) (cn1 := 0) (sl1 := 0) rfl (lwUnitAt (hI22) (by omega) (by omega)) rfl rfl rfl rfl rfl rfl rfl (fun n39 w35 hq36 => ?_)
          obtain ⟨hn40, hI37, hF38⟩ := hq36
          refine xg_k (xg_imul (u := 12) (v := n39) (z := (12 * n39) % 4294967296) xnm0 xnm0 rfl) (Nat.mod_lt _ (by decide)) (fun z41 hz42 => ?_)
          refine xg_maxK (u := gr) (v := z41) xnm0 xnm0 xmx_ok (by omega) (by omega) (fun z43 hz44 hz45 hz46 hz47 => ?_)
          unfold xbs at hz45 hz46
          refine xg_t (xg_istore (l1 := [(0, (2, 76)), (1, (0, sp)), (3, (0, la))]) rfl rfl rfl) ?_
          refine xg_t (xg_blq rfl) ?_
          refine xg_t (xg_iinc (u := la) (z := la + 1) (l1 := [(2, (0, z43)), (0, (2, 76)), (1, (0, sp))]) rfl rfl (by omega) rfl) ?_
          refine xg_t (xg_goto) ?_
          refine xg_t (xg_drop (l1 := [(0, (2, 76)), (1, (0, sp)), (2, (0, z43)), (3, (0, la + 1))]) (List.forall_mem_cons.mpr ⟨List.mem_cons_of_mem _ (List.mem_cons_of_mem _ (List.mem_cons_self)), List.forall_mem_cons.mpr ⟨List.mem_cons_of_mem _ (List.mem_cons_of_mem _ (List.mem_cons_of_mem _ (List.mem_cons_self))), List.forall_mem_cons.mpr ⟨List.mem_cons_of_mem _ (List.mem_cons_self), List.forall_mem_cons.mpr ⟨List.mem_cons_self, fun _ h => absurd h List.not_mem_nil⟩⟩⟩⟩)) ?_
          exact ih19 z43 (la + 1) w35 (by omega) (by omega) (by omega) (hI37) ((hF23.tr (hF38.up (by decide))))
        · refine xg_t (xg_ifT (u := u31) rfl xnm0 (xj_neT hc34)) ?_
          refine xg_t (xg_blq rfl) ?_
          refine xg_t (xg_iinc (u := la) (z := la + 1) (l1 := [(0, (2, 76)), (1, (0, sp)), (2, (0, gr))]) rfl rfl (by omega) rfl) ?_
          refine xg_t (xg_goto) ?_
          refine xg_t (xg_drop (l1 := [(0, (2, 76)), (1, (0, sp)), (2, (0, gr)), (3, (0, la + 1))]) (List.forall_mem_cons.mpr ⟨List.mem_cons_of_mem _ (List.mem_cons_self), List.forall_mem_cons.mpr ⟨List.mem_cons_of_mem _ (List.mem_cons_of_mem _ (List.mem_cons_self)), List.forall_mem_cons.mpr ⟨List.mem_cons_of_mem _ (List.mem_cons_of_mem _ (List.mem_cons_of_mem _ (List.mem_cons_self))), List.forall_mem_cons.mpr ⟨List.mem_cons_self, fun _ h => absurd h List.not_mem_nil⟩⟩⟩⟩)) ?_
          exact ih19 gr (la + 1) w21 (by omega) (by omega) (by omega) (hI22) (hF23)
      · refine xg_t (xg_icT (u := la) (v := 240) rfl xnm0 xnm0 (xj_geT (by omega) (by omega))) ?_
        refine xg_t (xg_blq rfl) ?_
        refine xg_t (xg_iload (va := (0, gr)) rfl rfl) ?_
        exact xg_e ⟨gr, w21, ⟨rfl, rfl⟩, by omega, hI22, hF23⟩
  exact key18 _ 0 0 w (Nat.lt_succ_self _) (by omega) (by omega) (hI) (xFr.rf)
theorem lwBarsAll {se : Nat} (hI : xInv w) (hs1 : se ≤ 4294967295) : xPi d mX4_barsAll [(2, 76), (0, se)] w bd fc rr (fun n w' => (n ≤ 1) ∧ xInv w' ∧ xFr [] w w') := by
  refine xPi.of ?_
  show xTo d mX4_barsAll (0, [], [(0, (2, 76)), (1, (0, se))], [], (w, bd, fc, 0, 0, rr)) (fun φ => ∃ n w', xEnd 4 [(0, n)] (w', bd, fc, 0, 0, rr) φ ∧ (n ≤ 1) ∧ xInv w' ∧ xFr [] w w')
  refine xoC76 (xqc76 hI : cp76 (wget w 76)) (fun f76_1 f76_3 f76_5 f76_7 f76_9 f76_11 f76_13 f76_15 h76_17 hb2 hb4 hb6 hb8 hb10 hb12 hb14 hb16 => ?_)
  refine xg_t (xg_blq rfl) ?_
  refine xg_t (xg_const) ?_
  refine xg_t (xg_istore (l1 := [(0, (2, 76)), (1, (0, se))]) rfl rfl rfl) ?_
  refine xg_t (xg_drop (l1 := [(0, (2, 76)), (1, (0, se)), (2, (0, 0))]) (List.forall_mem_cons.mpr ⟨List.mem_cons_of_mem _ (List.mem_cons_self), List.forall_mem_cons.mpr ⟨List.mem_cons_of_mem _ (List.mem_cons_of_mem _ (List.mem_cons_self)), List.forall_mem_cons.mpr ⟨List.mem_cons_self, fun _ h => absurd h List.not_mem_nil⟩⟩⟩)) ?_
  have key18 : ∀ (m20 : Nat) (la : Nat) (w21 : List (List xE)), 240 - la < m20 → la ≤ 240 → xInv w21 → xFr [] w w21 → xTo d mX4_barsAll (2, [], [(0, (2, 76)), (1, (0, se)), (2, (0, la))], [], (w21, bd, fc, 0, 0, rr)) (fun φ => ∃ n w', xEnd 4 [(0, n)] (w', bd, fc, 0, 0, rr) φ ∧ (n ≤ 1) ∧ xInv w' ∧ xFr [] w w') := by
    intro m20
    induction m20 with
    | zero => intro la w21 hz; exact absurd hz (Nat.not_lt_zero _)
    | succ m20 ih19 =>
      intro la w21 hm25 hn24 hI22 hF23
      refine xg_t (xg_blq rfl) ?_
      refine xg_t (xg_iload (va := (0, la)) rfl rfl) ?_
      refine xg_t (xg_sip) ?_
      by_cases hc26 : la < 240
      · refine xg_t (xg_icF (u := la) (v := 240) rfl xnm0 xnm0 (xj_geF hc26 (by omega))) ?_
        refine xg_t (xg_aload (va := (2, 76)) rfl rfl) ?_
        refine xg_t (xg_getf (va := (2, 77)) (hF23.get (by decide) h76_17) rfl) ?_
        refine xg_t (xg_iload (va := (0, la)) rfl rfl) ?_
        refine xoI (xqc77 hI22 : cpI 240 45 4294967295 (wget w21 77)) (fun g77_27 h77_28 hb29 => ?_)
        refine xg_ialdB (n := la) (B := 4294967295) h77_28 (hb29) xnm0 (by omega) (fun u30 hu31 he32 => ?_)
        refine xg_t (xg_iload (va := (0, se)) rfl rfl) ?_
        refine xg_k (xg_iand (z := Nat.land u30 se) (u := u30) (v := se) xnm0 xnm0 rfl) (xland_lt (by omega)) (fun z33 hz34 => ?_)
        by_cases hc35 : z33 = 0
        · refine xg_t (xg_ifF (u := z33) rfl xnm0 (xj_neF hc35)) ?_
          refine xg_t (xg_const) ?_
          exact xg_e ⟨0, w21, ⟨rfl, rfl⟩, by first | decide | omega, hI22, hF23⟩
        · refine xg_t (xg_ifT (u := z33) rfl xnm0 (xj_neT hc35)) ?_
          refine xg_t (xg_blq rfl) ?_
          refine xg_t (xg_iinc (u := la) (z := la + 1) (l1 := [(0, (2, 76)), (1, (0, se))]) rfl rfl (by omega) rfl) ?_
          refine xg_t (xg_goto) ?_
          refine xg_t (xg_drop (l1 := [(0, (2, 76)), (1, (0, se)), (2, (0, la + 1))]) (List.forall_mem_cons.mpr ⟨List.mem_cons_of_mem _ (List.mem_cons_self), List.forall_mem_cons.mpr ⟨List.mem_cons_of_mem _ (List.mem_cons_of_mem _ (List.mem_cons_self)), List.forall_mem_cons.mpr ⟨List.mem_cons_self, fun _ h => absurd h List.not_mem_nil⟩⟩⟩)) ?_
          exact ih19 (la + 1) w21 (by omega) (by omega) (hI22) (hF23)
      · refine xg_t (xg_icT (u := la) (v := 240) rfl xnm0 xnm0 (xj_geT (by omega) (by omega))) ?_
        refine xg_t (xg_blq rfl) ?_
        refine xg_t (xg_const) ?_
        exact xg_e ⟨1, w21, ⟨rfl, rfl⟩, by first | decide | omega, hI22, hF23⟩
  exact key18 _ 0 w (Nat.lt_succ_self _) (by omega) (hI) (xFr.rf)
theorem lwRefreshQuarrel (hI : xInv w)  : xPq (d + 1) mX4_refreshQuarrel [(2, 76)] w bd fc rr [] (fun w' => xInv w' ∧ xFr [76] w w') := by
  refine xPq.of ?_
  show xTo (d + 1) mX4_refreshQuarrel (0, [], [(0, (2, 76))], [], (w, bd, fc, 0, 0, rr)) (fun φ => ∃ w', xEnd 0 [] (w', bd, fc, 0, 0, rr) φ ∧ xInv w' ∧ xFr [76] w w')
  refine xoC76 (xqc76 hI : cp76 (wget w 76)) (fun f76_1 f76_3 f76_5 f76_7 f76_9 f76_11 f76_13 f76_15 h76_17 hb2 hb4 hb6 hb8 hb10 hb12 hb14 hb16 => ?_)
  obtain ⟨f20_18, h20_20, hb19⟩ := (xqc20 hI : cp20 (wget w 20))
  refine xoI (xqc21 hI : cpI 48 9 4294967295 (wget w 21)) (fun g21_21 h21_22 hb23 => ?_)
  refine xg_t (xg_blq rfl) ?_
  refine xg_t (xg_aload (va := (2, 76)) rfl rfl) ?_
  refine xg_t (xg_getf (va := (0, f76_13)) h76_17 rfl) ?_
  by_cases hc24 : f76_13 = 0
  · refine xg_t (xg_ifT (u := f76_13) rfl xnm0 (xj_eqT hc24)) ?_
    refine xg_t (xg_blq rfl) ?_
    refine xg_t (xg_bip) ?_
    refine xg_t (xg_istore (l1 := [(0, (2, 76))]) rfl rfl rfl) ?_
    refine xg_t (xg_aload (va := (2, 76)) rfl rfl) ?_
    refine xg_t (xg_getf (va := (2, 20)) h76_17 rfl) ?_
    refine xg_t (xg_getf (va := (0, f20_18)) h20_20 rfl) ?_
    refine xg_t (xg_const) ?_
    refine xg_k (xg_isub (u := f20_18) (v := 1) (z := (f20_18 + (4294967296 - 1)) % 4294967296) xnm0 xnm0 rfl) (Nat.mod_lt _ (by decide)) (fun z25 hz26 => ?_)
    refine xg_cSi mX4_bitOf (vs := [(0, z25)]) (rest := []) (cn1 := 0) (sl1 := 0) rfl (lwBitOf (hI) (by omega)) rfl rfl rfl rfl rfl rfl rfl (fun n31 w27 hq28 => ?_)
    obtain ⟨hn32, hI29, hF30⟩ := hq28
    refine xg_t (xg_istore (l1 := [(1, (0, 13)), (0, (2, 76))]) rfl rfl rfl) ?_
    refine xg_t (xg_aload (va := (2, 76)) rfl rfl) ?_
    refine xg_t (xg_const) ?_
    refine xg_putI (fl1 := [(2, 20), (2, 77), (2, 78), (2, 79), (0, f76_1), (0, 0), (0, f76_5), (0, f76_7), (0, f76_9), (0, f76_11), (0, f76_13), (0, f76_15)]) (hF30.get (by decide) h76_17) rfl rfl rfl (fun w33 hk34 hb35 => ?_)
    refine xg_t (xg_sip) ?_
    refine xg_t (xg_iload (va := (0, n31)) rfl rfl) ?_
    refine xg_k (xg_isub (u := 4096) (v := n31) (z := (4096 + (4294967296 - n31)) % 4294967296) xnm0 xnm0 rfl) (Nat.mod_lt _ (by decide)) (fun z36 hz37 => ?_)
    refine xg_t (xg_istore (l1 := [(2, (0, n31)), (1, (0, 13)), (0, (2, 76))]) rfl rfl rfl) ?_
    refine xg_t (xg_drop (l1 := [(0, (2, 76)), (1, (0, 13)), (2, (0, n31)), (3, (0, z36))]) (List.forall_mem_cons.mpr ⟨List.mem_cons_of_mem _ (List.mem_cons_of_mem _ (List.mem_cons_of_mem _ (List.mem_cons_self))), List.forall_mem_cons.mpr ⟨List.mem_cons_of_mem _ (List.mem_cons_of_mem _ (List.mem_cons_self)), List.forall_mem_cons.mpr ⟨List.mem_cons_of_mem _ (List.mem_cons_self), List.forall_mem_cons.mpr ⟨List.mem_cons_self, fun _ h => absurd h List.not_mem_nil⟩⟩⟩⟩)) ?_
    have key38 : ∀ (m40 : Nat) (fe sx : Nat) (w41 : List (List xE)), (sx + 2147483648) % 4294967296 - 2147483648 < m40 → fe ≤ 4294967295 → sx ≤ 4294967295 → xInv w41 → xFr [76] w w41 → xTo (d + 1) mX4_refreshQuarrel (35, [], [(0, (2, 76)), (1, (0, fe)), (2, (0, n31)), (3, (0, sx))], [], (w41, bd, fc, 0, 0, rr)) (fun φ => ∃ w', xEnd 0 [] (w', bd, fc, 0, 0, rr) φ ∧ xInv w' ∧ xFr [76] w w') := by
      intro m40
      induction m40 with
      | zero => intro fe sx w41 hz; exact absurd hz (Nat.not_lt_zero _)
      | succ m40 ih39 =>
        intro fe sx w41 hm46 hn44 hn45 hI42 hF43
        refine xg_t (xg_blq rfl) ?_
        refine xg_t (xg_iload (va := (0, n31)) rfl rfl) ?_
        by_cases hc47 : xbs 0 < xbs n31
        · have hc47u := hc47
          unfold xbs at hc47u
          have hn48 : n31 ≤ 2147483647 := by omega
          refine xg_t (xg_ifF (u := n31) rfl xnm0 (xjs_leF hc47)) ?_
          refine xg_t (xg_iload (va := (0, sx)) rfl rfl) ?_
          by_cases hc49 : xbs 0 < xbs sx
          · have hc49u := hc49
            unfold xbs at hc49u
            have hn50 : sx ≤ 2147483647 := by omega
            refine xg_t (xg_ifF (u := sx) rfl xnm0 (xjs_leF hc49)) ?_
            refine xg_t (xg_iload (va := (0, sx)) rfl rfl) ?_
            refine xg_cSi mJ6_bitCount_0f7a4 (vs := [(0, sx)]) (rest := []) (cn1 := 0) (sl1 := 0) rfl (jbBitCount (hI42) (by omega)) rfl rfl rfl rfl rfl rfl rfl (fun n55 w51 hq52 => ?_)
            obtain ⟨hn56, hI53, hF54⟩ := hq52
            refine xg_t (xg_iload (va := (0, fe)) rfl rfl) ?_
            by_cases hc57 : xbs n55 < xbs fe
            · have hc57u := hc57
              unfold xbs at hc57u
              refine xg_t (xg_icF (u := n55) (v := fe) rfl xnm0 xnm0 (xjs_geF hc57)) ?_
              refine xg_t (xg_aload (va := (2, 76)) rfl rfl) ?_
              refine xg_t (xg_iload (va := (0, sx)) rfl rfl) ?_
              refine xoC76 (xqc76 hI53 : cp76 (wget w51 76)) (fun f76_58 f76_60 f76_62 f76_64 f76_66 f76_68 f76_70 f76_72 h76_74 hb59 hb61 hb63 hb65 hb67 hb69 hb71 hb73 => ?_)
              refine xg_cVi mX4_barsAll (vs := [(0, sx)]) (rest := []) (cn1 := 0) (sl1 := 0) rfl (lwBarsAll (hI53) (by omega)) rfl h76_74 rfl rfl rfl rfl rfl rfl (fun n79 w75 hq76 => ?_)
              obtain ⟨hn80, hI77, hF78⟩ := hq76
              by_cases hc81 : n79 = 0
              · refine xg_t (xg_ifT (u := n79) rfl xnm0 (xj_eqT hc81)) ?_
                refine xg_t (xg_blq rfl) ?_
                refine xg_t (xg_iload (va := (0, sx)) rfl rfl) ?_
                refine xg_t (xg_iload (va := (0, n31)) rfl rfl) ?_
                refine xg_t (xg_isub (u := sx) (v := n31) (z := (sx + (4294967296 - n31)) % 4294967296) xnm0 xnm0 (rfl)) ?_
                refine xg_t (xg_istore (l1 := [(0, (2, 76)), (1, (0, fe)), (2, (0, n31))]) rfl rfl rfl) ?_
                refine xg_t (xg_goto) ?_
                refine xg_t (xg_drop (l1 := [(0, (2, 76)), (1, (0, fe)), (2, (0, n31)), (3, (0, (sx + (4294967296 - n31)) % 4294967296))]) (List.forall_mem_cons.mpr ⟨List.mem_cons_of_mem _ (List.mem_cons_self), List.forall_mem_cons.mpr ⟨List.mem_cons_of_mem _ (List.mem_cons_of_mem _ (List.mem_cons_self)), List.forall_mem_cons.mpr ⟨List.mem_cons_of_mem _ (List.mem_cons_of_mem _ (List.mem_cons_of_mem _ (List.mem_cons_self))), List.forall_mem_cons.mpr ⟨List.mem_cons_self, fun _ h => absurd h List.not_mem_nil⟩⟩⟩⟩)) ?_
                exact ih39 fe ((sx + (4294967296 - n31)) % 4294967296) w75 (xqm (by omega) (by omega) (by omega) (by omega) (by omega)) (by omega) (by omega) (hI77) (((hF43.tr (hF54.up (by decide))).tr (hF78.up (by decide))))
              · refine xg_t (xg_ifF (u := n79) rfl xnm0 (xj_eqF hc81)) ?_
                refine xg_t (xg_aload (va := (2, 76)) rfl rfl) ?_
                refine xg_t (xg_iload (va := (0, sx)) rfl rfl) ?_
                refine xg_putI (fl1 := [(2, 20), (2, 77), (2, 78), (2, 79), (0, f76_58), (0, sx), (0, f76_62), (0, f76_64), (0, f76_66), (0, f76_68), (0, f76_70), (0, f76_72)]) (hF78.get (by decide) h76_74) rfl rfl rfl (fun w82 hk83 hb84 => ?_)
                refine xg_t (xg_iload (va := (0, sx)) rfl rfl) ?_
                refine xg_cSi mJ6_bitCount_0f7a4 (vs := [(0, sx)]) (rest := []) (cn1 := 0) (sl1 := 0) rfl (jbBitCount (xInv.up (S := [76]) hI77 (xFr.of (S := [76]) hb84 (by decide)) (List.forall_mem_cons.mpr ⟨xqu76 (show cp76 (wget w82 76) from xmC76 f76_58 sx f76_62 f76_64 f76_66 f76_68 f76_70 f76_72 hk83 hb59 (by omega) hb63 hb65 hb67 hb69 hb71 hb73), fun _ h => absurd h List.not_mem_nil⟩)) (by omega)) rfl rfl rfl rfl rfl rfl rfl (fun n89 w85 hq86 => ?_)
                obtain ⟨hn90, hI87, hF88⟩ := hq86
                refine xg_t (xg_istore (l1 := [(0, (2, 76)), (2, (0, n31)), (3, (0, sx))]) rfl rfl rfl) ?_
                refine xg_t (xg_blq rfl) ?_
                refine xg_t (xg_iload (va := (0, sx)) rfl rfl) ?_
                refine xg_t (xg_iload (va := (0, n31)) rfl rfl) ?_
                refine xg_t (xg_isub (u := sx) (v := n31) (z := (sx + (4294967296 - n31)) % 4294967296) xnm0 xnm0 (rfl)) ?_
                refine xg_t (xg_istore (l1 := [(1, (0, n89)), (0, (2, 76)), (2, (0, n31))]) rfl rfl rfl) ?_
                refine xg_t (xg_goto) ?_
                refine xg_t (xg_drop (l1 := [(0, (2, 76)), (1, (0, n89)), (2, (0, n31)), (3, (0, (sx + (4294967296 - n31)) % 4294967296))]) (List.forall_mem_cons.mpr ⟨List.mem_cons_of_mem _ (List.mem_cons_of_mem _ (List.mem_cons_self)), List.forall_mem_cons.mpr ⟨List.mem_cons_of_mem _ (List.mem_cons_self), List.forall_mem_cons.mpr ⟨List.mem_cons_of_mem _ (List.mem_cons_of_mem _ (List.mem_cons_of_mem _ (List.mem_cons_self))), List.forall_mem_cons.mpr ⟨List.mem_cons_self, fun _ h => absurd h List.not_mem_nil⟩⟩⟩⟩)) ?_
                exact ih39 n89 ((sx + (4294967296 - n31)) % 4294967296) w85 (xqm (by omega) (by omega) (by omega) (by omega) (by omega)) (by omega) (by omega) (hI87) (((((hF43.tr (hF54.up (by decide))).tr (hF78.up (by decide))).tr (xFr.of (S := [76]) hb84 (by decide))).tr (hF88.up (by decide))))
            · have hc57u := hc57
              unfold xbs at hc57u
              refine xg_t (xg_icT (u := n55) (v := fe) rfl xnm0 xnm0 (xjs_geT hc57)) ?_
              refine xg_t (xg_blq rfl) ?_
              refine xg_t (xg_iload (va := (0, sx)) rfl rfl) ?_
              refine xg_t (xg_iload (va := (0, n31)) rfl rfl) ?_
              refine xg_t (xg_isub (u := sx) (v := n31) (z := (sx + (4294967296 - n31)) % 4294967296) xnm0 xnm0 (rfl)) ?_
              refine xg_t (xg_istore (l1 := [(0, (2, 76)), (1, (0, fe)), (2, (0, n31))]) rfl rfl rfl) ?_
              refine xg_t (xg_goto) ?_
              refine xg_t (xg_drop (l1 := [(0, (2, 76)), (1, (0, fe)), (2, (0, n31)), (3, (0, (sx + (4294967296 - n31)) % 4294967296))]) (List.forall_mem_cons.mpr ⟨List.mem_cons_of_mem _ (List.mem_cons_self), List.forall_mem_cons.mpr ⟨List.mem_cons_of_mem _ (List.mem_cons_of_mem _ (List.mem_cons_self)), List.forall_mem_cons.mpr ⟨List.mem_cons_of_mem _ (List.mem_cons_of_mem _ (List.mem_cons_of_mem _ (List.mem_cons_self))), List.forall_mem_cons.mpr ⟨List.mem_cons_self, fun _ h => absurd h List.not_mem_nil⟩⟩⟩⟩)) ?_
              exact ih39 fe ((sx + (4294967296 - n31)) % 4294967296) w51 (xqm (by omega) (by omega) (by omega) (by omega) (by omega)) (by omega) (by omega) (hI53) ((hF43.tr (hF54.up (by decide))))
          · have hc49u := hc49
            unfold xbs at hc49u
            refine xg_t (xg_ifT (u := sx) rfl xnm0 (xjs_leT hc49)) ?_
            refine xg_t (xg_blq rfl) ?_
            refine xg_t (xg_aload (va := (2, 76)) rfl rfl) ?_
            refine xg_t (xg_const) ?_
            refine xoC76 (xqc76 hI42 : cp76 (wget w41 76)) (fun f76_91 f76_93 f76_95 f76_97 f76_99 f76_101 f76_103 f76_105 h76_107 hb92 hb94 hb96 hb98 hb100 hb102 hb104 hb106 => ?_)
            refine xg_putZ (fl1 := [(2, 20), (2, 77), (2, 78), (2, 79), (0, f76_91), (0, f76_93), (0, f76_95), (0, f76_97), (0, f76_99), (0, f76_101), (0, 1), (0, f76_105)]) h76_107 rfl rfl rfl (fun w108 hk109 hb110 => ?_)
            exact xg_e ⟨w108, ⟨rfl, rfl⟩, xInv.up (S := [76]) hI42 (xFr.of (S := [76]) hb110 (by decide)) (List.forall_mem_cons.mpr ⟨xqu76 (show cp76 (wget w108 76) from xmC76 f76_91 f76_93 f76_95 f76_97 f76_99 f76_101 1 f76_105 hk109 hb92 hb94 hb96 hb98 hb100 hb102 (by decide) hb106), fun _ h => absurd h List.not_mem_nil⟩), (hF43.tr (xFr.of (S := [76]) hb110 (by decide)))⟩
        · have hc47u := hc47
          unfold xbs at hc47u
          refine xg_t (xg_ifT (u := n31) rfl xnm0 (xjs_leT hc47)) ?_
          refine xg_t (xg_blq rfl) ?_
          refine xg_t (xg_aload (va := (2, 76)) rfl rfl) ?_
          refine xg_t (xg_const) ?_
          refine xoC76 (xqc76 hI42 : cp76 (wget w41 76)) (fun f76_111 f76_113 f76_115 f76_117 f76_119 f76_121 f76_123 f76_125 h76_127 hb112 hb114 hb116 hb118 hb120 hb122 hb124 hb126 => ?_)
          refine xg_putZ (fl1 := [(2, 20), (2, 77), (2, 78), (2, 79), (0, f76_111), (0, f76_113), (0, f76_115), (0, f76_117), (0, f76_119), (0, f76_121), (0, 1), (0, f76_125)]) h76_127 rfl rfl rfl (fun w128 hk129 hb130 => ?_)
          exact xg_e ⟨w128, ⟨rfl, rfl⟩, xInv.up (S := [76]) hI42 (xFr.of (S := [76]) hb130 (by decide)) (List.forall_mem_cons.mpr ⟨xqu76 (show cp76 (wget w128 76) from xmC76 f76_111 f76_113 f76_115 f76_117 f76_119 f76_121 1 f76_125 hk129 hb112 hb114 hb116 hb118 hb120 hb122 (by decide) hb126), fun _ h => absurd h List.not_mem_nil⟩), (hF43.tr (xFr.of (S := [76]) hb130 (by decide)))⟩
    exact key38 _ 13 z36 w33 (Nat.lt_succ_self _) (by omega) (by omega) (xInv.up (S := [76]) hI29 (xFr.of (S := [76]) hb35 (by decide)) (List.forall_mem_cons.mpr ⟨xqu76 (show cp76 (wget w33 76) from xmC76 f76_1 0 f76_5 f76_7 f76_9 f76_11 f76_13 f76_15 hk34 hb2 (by decide) hb6 hb8 hb10 hb12 hb14 hb16), fun _ h => absurd h List.not_mem_nil⟩)) (((hF30.up (by decide)).tr (xFr.of (S := [76]) hb35 (by decide))))
  · refine xg_t (xg_ifF (u := f76_13) rfl xnm0 (xj_eqF hc24)) ?_
    exact xg_e ⟨w, ⟨rfl, rfl⟩, hI, xFr.rf⟩
theorem lwQuarrelAt {kk : Nat} (hI : xInv w) (hk1 : kk ≤ 4294967295) : xPi (d + 1) mX4_quarrelAt [(2, 76), (0, kk)] w bd fc rr (fun n w' => (n ≤ 4294967295) ∧ xInv w' ∧ xFr [] w w') := by
  refine xPi.of ?_
  show xTo (d + 1) mX4_quarrelAt (0, [], [(0, (2, 76)), (1, (0, kk))], [], (w, bd, fc, 0, 0, rr)) (fun φ => ∃ n w', xEnd 1 [(0, n)] (w', bd, fc, 0, 0, rr) φ ∧ (n ≤ 4294967295) ∧ xInv w' ∧ xFr [] w w')
  refine xoC76 (xqc76 hI : cp76 (wget w 76)) (fun f76_1 f76_3 f76_5 f76_7 f76_9 f76_11 f76_13 f76_15 h76_17 hb2 hb4 hb6 hb8 hb10 hb12 hb14 hb16 => ?_)
  obtain ⟨f20_18, h20_20, hb19⟩ := (xqc20 hI : cp20 (wget w 20))
  refine xoI (xqc21 hI : cpI 48 9 4294967295 (wget w 21)) (fun g21_21 h21_22 hb23 => ?_)
  refine xg_t (xg_blq rfl) ?_
  refine xg_t (xg_const) ?_
  refine xg_t (xg_istore (l1 := [(0, (2, 76)), (1, (0, kk))]) rfl rfl rfl) ?_
  refine xg_t (xg_const) ?_
  refine xg_t (xg_istore (l1 := [(2, (0, 0)), (0, (2, 76)), (1, (0, kk))]) rfl rfl rfl) ?_
  refine xg_t (xg_drop (l1 := [(0, (2, 76)), (1, (0, kk)), (2, (0, 0)), (3, (0, 0))]) (List.forall_mem_cons.mpr ⟨List.mem_cons_of_mem _ (List.mem_cons_of_mem _ (List.mem_cons_self)), List.forall_mem_cons.mpr ⟨List.mem_cons_of_mem _ (List.mem_cons_of_mem _ (List.mem_cons_of_mem _ (List.mem_cons_self))), List.forall_mem_cons.mpr ⟨List.mem_cons_of_mem _ (List.mem_cons_self), List.forall_mem_cons.mpr ⟨List.mem_cons_self, fun _ h => absurd h List.not_mem_nil⟩⟩⟩⟩)) ?_
  have key24 : ∀ (m26 : Nat) (pa te : Nat) (w27 : List (List xE)), 12 - te < m26 → pa ≤ 4294967295 → te ≤ 12 → xInv w27 → xFr [] w w27 → xTo (d + 1) mX4_quarrelAt (4, [], [(0, (2, 76)), (1, (0, kk)), (2, (0, pa)), (3, (0, te))], [], (w27, bd, fc, 0, 0, rr)) (fun φ => ∃ n w', xEnd 1 [(0, n)] (w', bd, fc, 0, 0, rr) φ ∧ (n ≤ 4294967295) ∧ xInv w' ∧ xFr [] w w') := by
    intro m26
    induction m26 with
    | zero => intro pa te w27 hz; exact absurd hz (Nat.not_lt_zero _)
    | succ m26 ih25 =>
      intro pa te w27 hm32 hn30 hn31 hI28 hF29
      refine xg_t (xg_blq rfl) ?_
      refine xg_t (xg_iload (va := (0, te)) rfl rfl) ?_
      refine xg_t (xg_aload (va := (2, 76)) rfl rfl) ?_
      refine xg_t (xg_getf (va := (2, 20)) (hF29.get (by decide) h76_17) rfl) ?_
      refine xg_t (xg_getf (va := (0, f20_18)) (hF29.get (by decide) h20_20) rfl) ?_
      by_cases hc33 : te < f20_18
      · refine xg_t (xg_icF (u := te) (v := f20_18) rfl xnm0 xnm0 (xj_geF hc33 (by omega))) ?_
        refine xg_t (xg_aload (va := (2, 76)) rfl rfl) ?_
        refine xg_t (xg_getf (va := (0, f76_3)) (hF29.get (by decide) h76_17) rfl) ?_
        refine xg_t (xg_iload (va := (0, te)) rfl rfl) ?_
        refine xg_cSi mX4_bitOf (vs := [(0, te)]) (rest := [(0, f76_3)]) (cn1 := 0) (sl1 := 0) rfl (lwBitOf (hI28) (by omega)) rfl rfl rfl rfl rfl rfl rfl (fun n38 w34 hq35 => ?_)
        obtain ⟨hn39, hI36, hF37⟩ := hq35
        refine xg_k (xg_iand (z := Nat.land f76_3 n38) (u := f76_3) (v := n38) xnm0 xnm0 rfl) (xland_lt (by omega)) (fun z40 hz41 => ?_)
        by_cases hc42 : z40 = 0
        · refine xg_t (xg_ifT (u := z40) rfl xnm0 (xj_eqT hc42)) ?_
          refine xg_t (xg_blq rfl) ?_
          refine xg_t (xg_iinc (u := te) (z := te + 1) (l1 := [(0, (2, 76)), (1, (0, kk)), (2, (0, pa))]) rfl rfl (by omega) rfl) ?_
          refine xg_t (xg_goto) ?_
          refine xg_t (xg_drop (l1 := [(0, (2, 76)), (1, (0, kk)), (2, (0, pa)), (3, (0, te + 1))]) (List.forall_mem_cons.mpr ⟨List.mem_cons_of_mem _ (List.mem_cons_self), List.forall_mem_cons.mpr ⟨List.mem_cons_of_mem _ (List.mem_cons_of_mem _ (List.mem_cons_self)), List.forall_mem_cons.mpr ⟨List.mem_cons_of_mem _ (List.mem_cons_of_mem _ (List.mem_cons_of_mem _ (List.mem_cons_self))), List.forall_mem_cons.mpr ⟨List.mem_cons_self, fun _ h => absurd h List.not_mem_nil⟩⟩⟩⟩)) ?_
          exact ih25 pa (te + 1) w34 (by omega) (by omega) (by omega) (hI36) ((hF29.tr (hF37.up (by decide))))
        · refine xg_t (xg_ifF (u := z40) rfl xnm0 (xj_eqF hc42)) ?_
          refine xg_t (xg_iload (va := (0, pa)) rfl rfl) ?_
          refine xg_t (xg_iload (va := (0, kk)) rfl rfl) ?_
          by_cases hc43 : pa = kk
          · refine xg_t (xg_icF (u := pa) (v := kk) rfl xnm0 xnm0 (xj_neF hc43)) ?_
            refine xg_t (xg_iload (va := (0, te)) rfl rfl) ?_
            exact xg_e ⟨te, w34, ⟨rfl, rfl⟩, by omega, hI36, (hF29.tr (hF37.up (by decide)))⟩
          · refine xg_t (xg_icT (u := pa) (v := kk) rfl xnm0 xnm0 (xj_neT hc43)) ?_
            refine xg_t (xg_blq rfl) ?_
            refine xg_t (xg_iinc (u := pa) (z := (pa + 1) % 4294967296) (l1 := [(0, (2, 76)), (1, (0, kk)), (3, (0, te))]) rfl rfl (rfl) rfl) ?_
            refine xg_t (xg_blq rfl) ?_
            refine xg_t (xg_iinc (u := te) (z := te + 1) (l1 := [(2, (0, (pa + 1) % 4294967296)), (0, (2, 76)), (1, (0, kk))]) rfl rfl (by omega) rfl) ?_
            refine xg_t (xg_goto) ?_
            refine xg_t (xg_drop (l1 := [(0, (2, 76)), (1, (0, kk)), (2, (0, (pa + 1) % 4294967296)), (3, (0, te + 1))]) (List.forall_mem_cons.mpr ⟨List.mem_cons_of_mem _ (List.mem_cons_of_mem _ (List.mem_cons_self)), List.forall_mem_cons.mpr ⟨List.mem_cons_of_mem _ (List.mem_cons_of_mem _ (List.mem_cons_of_mem _ (List.mem_cons_self))), List.forall_mem_cons.mpr ⟨List.mem_cons_of_mem _ (List.mem_cons_self), List.forall_mem_cons.mpr ⟨List.mem_cons_self, fun _ h => absurd h List.not_mem_nil⟩⟩⟩⟩)) ?_
            exact ih25 ((pa + 1) % 4294967296) (te + 1) w34 (by omega) (by omega) (by omega) (hI36) ((hF29.tr (hF37.up (by decide))))
      · refine xg_t (xg_icT (u := te) (v := f20_18) rfl xnm0 xnm0 (xj_geT (by omega) (by omega))) ?_
        refine xg_t (xg_blq rfl) ?_
        refine xg_t (xg_const) ?_
        exact xg_e ⟨4294967295, w27, ⟨rfl, rfl⟩, by first | decide | omega, hI28, hF29⟩
  exact key24 _ 0 0 w (Nat.lt_succ_self _) (by omega) (by omega) (hI) (xFr.rf)
theorem lwCountTries {sp : Nat} (hI : xInv w) (hs1 : sp ≤ 4294967295) : xPq (d + 1) mX4_countTries [(2, 76), (0, sp)] w bd fc rr [] (fun w' => xInv w' ∧ xFr [78, 79] w w') := by
  refine xPq.of ?_
  show xTo (d + 1) mX4_countTries (0, [], [(0, (2, 76)), (1, (0, sp))], [], (w, bd, fc, 0, 0, rr)) (fun φ => ∃ w', xEnd 0 [] (w', bd, fc, 0, 0, rr) φ ∧ xInv w' ∧ xFr [78, 79] w w')
  refine xoC76 (xqc76 hI : cp76 (wget w 76)) (fun f76_1 f76_3 f76_5 f76_7 f76_9 f76_11 f76_13 f76_15 h76_17 hb2 hb4 hb6 hb8 hb10 hb12 hb14 hb16 => ?_)
  refine xg_t (xg_blq rfl) ?_
  refine xg_t (xg_aload (va := (2, 76)) rfl rfl) ?_
  refine xg_t (xg_getf (va := (2, 78)) h76_17 rfl) ?_
  refine xg_t (xg_const) ?_
  refine xoI (xqc78 hI : cpI 15 46 4294967295 (wget w 78)) (fun g78_18 h78_19 hb20 => ?_)
  refine xg_cS mJ7_fill_53178 (vs := [(2, 78), (0, 0)]) (rest := []) (rs := []) (cn1 := 0) (sl1 := 0) rfl (fillI (v := 0) h78_19 (by decide)) rfl rfl rfl rfl rfl rfl rfl rfl (fun w21 hq22 => ?_)
  refine xg_t (xg_aload (va := (2, 76)) rfl rfl) ?_
  refine xg_t (xg_getf (va := (2, 79)) (hq22.2.get (by decide) h76_17) rfl) ?_
  refine xg_t (xg_const) ?_
  refine xoI (xqc79 hI : cpI 15 47 4294967295 (wget w 79)) (fun g79_23 h79_24 hb25 => ?_)
  refine xg_cS mJ7_fill_53178 (vs := [(2, 79), (0, 0)]) (rest := []) (rs := []) (cn1 := 0) (sl1 := 0) rfl (fillI (v := 0) (h79_24.but hq22.2 (by decide)) (by decide)) rfl rfl rfl rfl rfl rfl rfl rfl (fun w26 hq27 => ?_)
  refine xg_t (xg_const) ?_
  refine xg_t (xg_istore (l1 := [(0, (2, 76)), (1, (0, sp))]) rfl rfl rfl) ?_
  refine xg_t (xg_drop (l1 := [(0, (2, 76)), (1, (0, sp)), (2, (0, 0))]) (List.forall_mem_cons.mpr ⟨List.mem_cons_of_mem _ (List.mem_cons_self), List.forall_mem_cons.mpr ⟨List.mem_cons_of_mem _ (List.mem_cons_of_mem _ (List.mem_cons_self)), List.forall_mem_cons.mpr ⟨List.mem_cons_self, fun _ h => absurd h List.not_mem_nil⟩⟩⟩)) ?_
  have key28 : ∀ (m30 : Nat) (la : Nat) (w31 : List (List xE)), 240 - la < m30 → la ≤ 240 → xInv w31 → xFr [78, 79] w w31 → xTo (d + 1) mX4_countTries (18, [], [(0, (2, 76)), (1, (0, sp)), (2, (0, la))], [], (w31, bd, fc, 0, 0, rr)) (fun φ => ∃ w', xEnd 0 [] (w', bd, fc, 0, 0, rr) φ ∧ xInv w' ∧ xFr [78, 79] w w') := by
    intro m30
    induction m30 with
    | zero => intro la w31 hz; exact absurd hz (Nat.not_lt_zero _)
    | succ m30 ih29 =>
      intro la w31 hm35 hn34 hI32 hF33
      refine xg_t (xg_blq rfl) ?_
      refine xg_t (xg_iload (va := (0, la)) rfl rfl) ?_
      refine xg_t (xg_sip) ?_
      by_cases hc36 : la < 240
      · refine xg_t (xg_icF (u := la) (v := 240) rfl xnm0 xnm0 (xj_geF hc36 (by omega))) ?_
        refine xg_t (xg_aload (va := (2, 76)) rfl rfl) ?_
        refine xg_t (xg_getf (va := (2, 77)) (hF33.get (by decide) h76_17) rfl) ?_
        refine xg_t (xg_iload (va := (0, la)) rfl rfl) ?_
        refine xoI (xqc77 hI32 : cpI 240 45 4294967295 (wget w31 77)) (fun g77_37 h77_38 hb39 => ?_)
        refine xg_ialdB (n := la) (B := 4294967295) h77_38 (hb39) xnm0 (by omega) (fun u40 hu41 he42 => ?_)
        by_cases hc43 : u40 = 0
        · refine xg_t (xg_ifF (u := u40) rfl xnm0 (xj_neF hc43)) ?_
          refine xg_t (xg_iload (va := (0, la)) rfl rfl) ?_
          refine xg_t (xg_iload (va := (0, sp)) rfl rfl) ?_
          refine xg_cSi mX4_unitAt (vs := [(0, la), (0, sp)]) (rest := []) (cn1 := 0) (sl1 := 0) rfl (lwUnitAt (hI32) (by omega) (by omega)) rfl rfl rfl rfl rfl rfl rfl (fun n48 w44 hq45 => ?_)
          obtain ⟨hn49, hI46, hF47⟩ := hq45
          refine xg_t (xg_istore (l1 := [(0, (2, 76)), (1, (0, sp)), (2, (0, la))]) rfl rfl rfl) ?_
          refine xg_t (xg_const) ?_
          refine xg_t (xg_istore (l1 := [(3, (0, n48)), (0, (2, 76)), (1, (0, sp)), (2, (0, la))]) rfl rfl rfl) ?_
          refine xg_t (xg_drop (l1 := [(0, (2, 76)), (1, (0, sp)), (2, (0, la)), (3, (0, n48)), (4, (0, 0))]) (List.forall_mem_cons.mpr ⟨List.mem_cons_of_mem _ (List.mem_cons_of_mem _ (List.mem_cons_self)), List.forall_mem_cons.mpr ⟨List.mem_cons_of_mem _ (List.mem_cons_of_mem _ (List.mem_cons_of_mem _ (List.mem_cons_self))), List.forall_mem_cons.mpr ⟨List.mem_cons_of_mem _ (List.mem_cons_of_mem _ (List.mem_cons_of_mem _ (List.mem_cons_of_mem _ (List.mem_cons_self)))), List.forall_mem_cons.mpr ⟨List.mem_cons_of_mem _ (List.mem_cons_self), List.forall_mem_cons.mpr ⟨List.mem_cons_self, fun _ h => absurd h List.not_mem_nil⟩⟩⟩⟩⟩)) ?_
          have key50 : ∀ (m52 : Nat) (ji : Nat) (w53 : List (List xE)), 15 - ji < m52 → ji ≤ 15 → xInv w53 → xFr [78, 79] w w53 → xTo (d + 1) mX4_countTries (43, [], [(0, (2, 76)), (1, (0, sp)), (2, (0, la)), (3, (0, n48)), (4, (0, ji))], [], (w53, bd, fc, 0, 0, rr)) (fun φ => ∃ w', xEnd 0 [] (w', bd, fc, 0, 0, rr) φ ∧ xInv w' ∧ xFr [78, 79] w w') := by
            intro m52
            induction m52 with
            | zero => intro ji w53 hz; exact absurd hz (Nat.not_lt_zero _)
            | succ m52 ih51 =>
              intro ji w53 hm57 hn56 hI54 hF55
              refine xg_t (xg_blq rfl) ?_
              refine xg_t (xg_iload (va := (0, ji)) rfl rfl) ?_
              refine xg_t (xg_bip) ?_
              by_cases hc58 : ji < 15
              · refine xg_t (xg_icF (u := ji) (v := 15) rfl xnm0 xnm0 (xj_geF hc58 (by omega))) ?_
                refine xg_t (xg_aload (va := (2, 76)) rfl rfl) ?_
                refine xg_t (xg_getf (va := (2, 78)) (hF55.get (by decide) h76_17) rfl) ?_
                refine xg_t (xg_iload (va := (0, ji)) rfl rfl) ?_
                refine xg_t (xg_dup2 rfl) ?_
                refine xoI (xqc78 hI54 : cpI 15 46 4294967295 (wget w53 78)) (fun g78_59 h78_60 hb61 => ?_)
                refine xg_ialdB (n := ji) (B := 4294967295) h78_60 (hb61) xnm0 (by omega) (fun u62 hu63 he64 => ?_)
                refine xg_t (xg_bip) ?_
                refine xg_t (xg_iload (va := (0, ji)) rfl rfl) ?_
                refine xg_k (xg_ishlG (u := 10) (v := ji) xnm0 xnm0) (xpt_lt _) (fun z65 hz66 => ?_)
                refine xg_t (xg_bip) ?_
                refine xg_t (xg_iload (va := (0, n48)) rfl rfl) ?_
                refine xg_k (xg_imul (u := 8) (v := n48) (z := (8 * n48) % 4294967296) xnm0 xnm0 rfl) (Nat.mod_lt _ (by decide)) (fun z67 hz68 => ?_)
                by_cases hc69 : xbs z65 < xbs z67
                · have hc69u := hc69
                  unfold xbs at hc69u
                  refine xg_t (xg_icT (u := z65) (v := z67) rfl xnm0 xnm0 (xjs_ltT hc69)) ?_
                  refine xg_t (xg_blq rfl) ?_
                  refine xg_t (xg_const) ?_
                  refine xg_t (xg_blq rfl) ?_
                  refine xg_k (xg_iadd (u := u62) (v := 0) (z := (u62 + 0) % 4294967296) xnm0 xnm0 rfl) (Nat.mod_lt _ (by decide)) (fun z70 hz71 => ?_)
                  refine xg_iastK (n := ji) (u := z70) h78_60 xnm0 xnm0 rfl (by omega) (fun w72 hr73 hb74 => ?_)
                  refine xg_t (xg_aload (va := (2, 76)) rfl rfl) ?_
                  refine xg_t (xg_getf (va := (2, 79)) (hb74.get (by decide) (hF55.get (by decide) h76_17)) rfl) ?_
                  refine xg_t (xg_iload (va := (0, ji)) rfl rfl) ?_
                  refine xg_t (xg_dup2 rfl) ?_
                  refine xoI (xqc79 hI54 : cpI 15 47 4294967295 (wget w53 79)) (fun g79_75 h79_76 hb77 => ?_)
                  refine xg_ialdB (n := ji) (B := 4294967295) (h79_76.but hb74 (by decide)) (hb77) xnm0 (by omega) (fun u78 hu79 he80 => ?_)
                  refine xg_t (xg_bip) ?_
                  refine xg_t (xg_iload (va := (0, ji)) rfl rfl) ?_
                  refine xg_k (xg_ishlG (u := 10) (v := ji) xnm0 xnm0) (xpt_lt _) (fun z81 hz82 => ?_)
                  refine xg_t (xg_bip) ?_
                  refine xg_t (xg_iload (va := (0, n48)) rfl rfl) ?_
                  refine xg_k (xg_imul (u := 12) (v := n48) (z := (12 * n48) % 4294967296) xnm0 xnm0 rfl) (Nat.mod_lt _ (by decide)) (fun z83 hz84 => ?_)
                  by_cases hc85 : xbs z81 < xbs z83
                  · have hc85u := hc85
                    unfold xbs at hc85u
                    refine xg_t (xg_icF (u := z81) (v := z83) rfl xnm0 xnm0 (xjs_geF hc85)) ?_
                    refine xg_t (xg_const) ?_
                    refine xg_t (xg_goto) ?_
                    refine xg_t (xg_blq rfl) ?_
                    refine xg_k (xg_iadd (u := u78) (v := 1) (z := (u78 + 1) % 4294967296) xnm0 xnm0 rfl) (Nat.mod_lt _ (by decide)) (fun z86 hz87 => ?_)
                    refine xg_iastK (n := ji) (u := z86) (h79_76.but hb74 (by decide)) xnm0 xnm0 rfl (by omega) (fun w88 hr89 hb90 => ?_)
                    refine xg_t (xg_iinc (u := ji) (z := ji + 1) (l1 := [(0, (2, 76)), (1, (0, sp)), (2, (0, la)), (3, (0, n48))]) rfl rfl (by omega) rfl) ?_
                    refine xg_t (xg_goto) ?_
                    refine xg_t (xg_drop (l1 := [(0, (2, 76)), (1, (0, sp)), (2, (0, la)), (3, (0, n48)), (4, (0, ji + 1))]) (List.forall_mem_cons.mpr ⟨List.mem_cons_of_mem _ (List.mem_cons_self), List.forall_mem_cons.mpr ⟨List.mem_cons_of_mem _ (List.mem_cons_of_mem _ (List.mem_cons_self)), List.forall_mem_cons.mpr ⟨List.mem_cons_of_mem _ (List.mem_cons_of_mem _ (List.mem_cons_of_mem _ (List.mem_cons_self))), List.forall_mem_cons.mpr ⟨List.mem_cons_of_mem _ (List.mem_cons_of_mem _ (List.mem_cons_of_mem _ (List.mem_cons_of_mem _ (List.mem_cons_self)))), List.forall_mem_cons.mpr ⟨List.mem_cons_self, fun _ h => absurd h List.not_mem_nil⟩⟩⟩⟩⟩)) ?_
                    exact ih51 (ji + 1) w88 (by omega) (by omega) (xInv.up (S := [78, 79]) hI54 ((xFr.of (S := [78, 79]) hb74 (by decide)).tr (xFr.of (S := [78, 79]) hb90 (by decide))) (List.forall_mem_cons.mpr ⟨xqu78 (show cpI 15 46 4294967295 (wget w88 78) from ⟨_, (hr73.but hb90 (by decide)), xrb (by omega) (hb61)⟩), List.forall_mem_cons.mpr ⟨xqu79 (show cpI 15 47 4294967295 (wget w88 79) from ⟨_, hr89, xrb (by omega) (hb77)⟩), fun _ h => absurd h List.not_mem_nil⟩⟩)) ((hF55.tr ((xFr.of (S := [78, 79]) hb74 (by decide)).tr (xFr.of (S := [78, 79]) hb90 (by decide)))))
                  · have hc85u := hc85
                    unfold xbs at hc85u
                    refine xg_t (xg_icT (u := z81) (v := z83) rfl xnm0 xnm0 (xjs_geT hc85)) ?_
                    refine xg_t (xg_blq rfl) ?_
                    refine xg_t (xg_const) ?_
                    refine xg_t (xg_blq rfl) ?_
                    refine xg_k (xg_iadd (u := u78) (v := 0) (z := (u78 + 0) % 4294967296) xnm0 xnm0 rfl) (Nat.mod_lt _ (by decide)) (fun z91 hz92 => ?_)
                    refine xg_iastK (n := ji) (u := z91) (h79_76.but hb74 (by decide)) xnm0 xnm0 rfl (by omega) (fun w93 hr94 hb95 => ?_)
                    refine xg_t (xg_iinc (u := ji) (z := ji + 1) (l1 := [(0, (2, 76)), (1, (0, sp)), (2, (0, la)), (3, (0, n48))]) rfl rfl (by omega) rfl) ?_
                    refine xg_t (xg_goto) ?_
                    refine xg_t (xg_drop (l1 := [(0, (2, 76)), (1, (0, sp)), (2, (0, la)), (3, (0, n48)), (4, (0, ji + 1))]) (List.forall_mem_cons.mpr ⟨List.mem_cons_of_mem _ (List.mem_cons_self), List.forall_mem_cons.mpr ⟨List.mem_cons_of_mem _ (List.mem_cons_of_mem _ (List.mem_cons_self)), List.forall_mem_cons.mpr ⟨List.mem_cons_of_mem _ (List.mem_cons_of_mem _ (List.mem_cons_of_mem _ (List.mem_cons_self))), List.forall_mem_cons.mpr ⟨List.mem_cons_of_mem _ (List.mem_cons_of_mem _ (List.mem_cons_of_mem _ (List.mem_cons_of_mem _ (List.mem_cons_self)))), List.forall_mem_cons.mpr ⟨List.mem_cons_self, fun _ h => absurd h List.not_mem_nil⟩⟩⟩⟩⟩)) ?_
                    exact ih51 (ji + 1) w93 (by omega) (by omega) (xInv.up (S := [78, 79]) hI54 ((xFr.of (S := [78, 79]) hb74 (by decide)).tr (xFr.of (S := [78, 79]) hb95 (by decide))) (List.forall_mem_cons.mpr ⟨xqu78 (show cpI 15 46 4294967295 (wget w93 78) from ⟨_, (hr73.but hb95 (by decide)), xrb (by omega) (hb61)⟩), List.forall_mem_cons.mpr ⟨xqu79 (show cpI 15 47 4294967295 (wget w93 79) from ⟨_, hr94, xrb (by omega) (hb77)⟩), fun _ h => absurd h List.not_mem_nil⟩⟩)) ((hF55.tr ((xFr.of (S := [78, 79]) hb74 (by decide)).tr (xFr.of (S := [78, 79]) hb95 (by decide)))))
                · have hc69u := hc69
                  unfold xbs at hc69u
                  refine xg_t (xg_icF (u := z65) (v := z67) rfl xnm0 xnm0 (xjs_ltF hc69)) ?_
                  refine xg_t (xg_const) ?_
                  refine xg_t (xg_goto) ?_
                  refine xg_t (xg_blq rfl) ?_
                  refine xg_k (xg_iadd (u := u62) (v := 1) (z := (u62 + 1) % 4294967296) xnm0 xnm0 rfl) (Nat.mod_lt _ (by decide)) (fun z96 hz97 => ?_)
                  refine xg_iastK (n := ji) (u := z96) h78_60 xnm0 xnm0 rfl (by omega) (fun w98 hr99 hb100 => ?_)
                  refine xg_t (xg_aload (va := (2, 76)) rfl rfl) ?_
                  refine xg_t (xg_getf (va := (2, 79)) (hb100.get (by decide) (hF55.get (by decide) h76_17)) rfl) ?_
                  refine xg_t (xg_iload (va := (0, ji)) rfl rfl) ?_
                  refine xg_t (xg_dup2 rfl) ?_
                  refine xoI (xqc79 hI54 : cpI 15 47 4294967295 (wget w53 79)) (fun g79_101 h79_102 hb103 => ?_)
                  refine xg_ialdB (n := ji) (B := 4294967295) (h79_102.but hb100 (by decide)) (hb103) xnm0 (by omega) (fun u104 hu105 he106 => ?_)
                  refine xg_t (xg_bip) ?_
                  refine xg_t (xg_iload (va := (0, ji)) rfl rfl) ?_
                  refine xg_k (xg_ishlG (u := 10) (v := ji) xnm0 xnm0) (xpt_lt _) (fun z107 hz108 => ?_)
                  refine xg_t (xg_bip) ?_
                  refine xg_t (xg_iload (va := (0, n48)) rfl rfl) ?_
                  refine xg_k (xg_imul (u := 12) (v := n48) (z := (12 * n48) % 4294967296) xnm0 xnm0 rfl) (Nat.mod_lt _ (by decide)) (fun z109 hz110 => ?_)
                  by_cases hc111 : xbs z107 < xbs z109
                  · have hc111u := hc111
                    unfold xbs at hc111u
                    refine xg_t (xg_icF (u := z107) (v := z109) rfl xnm0 xnm0 (xjs_geF hc111)) ?_
                    refine xg_t (xg_const) ?_
                    refine xg_t (xg_goto) ?_
                    refine xg_t (xg_blq rfl) ?_
                    refine xg_k (xg_iadd (u := u104) (v := 1) (z := (u104 + 1) % 4294967296) xnm0 xnm0 rfl) (Nat.mod_lt _ (by decide)) (fun z112 hz113 => ?_)
                    refine xg_iastK (n := ji) (u := z112) (h79_102.but hb100 (by decide)) xnm0 xnm0 rfl (by omega) (fun w114 hr115 hb116 => ?_)
                    refine xg_t (xg_iinc (u := ji) (z := ji + 1) (l1 := [(0, (2, 76)), (1, (0, sp)), (2, (0, la)), (3, (0, n48))]) rfl rfl (by omega) rfl) ?_
                    refine xg_t (xg_goto) ?_
                    refine xg_t (xg_drop (l1 := [(0, (2, 76)), (1, (0, sp)), (2, (0, la)), (3, (0, n48)), (4, (0, ji + 1))]) (List.forall_mem_cons.mpr ⟨List.mem_cons_of_mem _ (List.mem_cons_self), List.forall_mem_cons.mpr ⟨List.mem_cons_of_mem _ (List.mem_cons_of_mem _ (List.mem_cons_self)), List.forall_mem_cons.mpr ⟨List.mem_cons_of_mem _ (List.mem_cons_of_mem _ (List.mem_cons_of_mem _ (List.mem_cons_self))), List.forall_mem_cons.mpr ⟨List.mem_cons_of_mem _ (List.mem_cons_of_mem _ (List.mem_cons_of_mem _ (List.mem_cons_of_mem _ (List.mem_cons_self)))), List.forall_mem_cons.mpr ⟨List.mem_cons_self, fun _ h => absurd h List.not_mem_nil⟩⟩⟩⟩⟩)) ?_
                    exact ih51 (ji + 1) w114 (by omega) (by omega) (xInv.up (S := [78, 79]) hI54 ((xFr.of (S := [78, 79]) hb100 (by decide)).tr (xFr.of (S := [78, 79]) hb116 (by decide))) (List.forall_mem_cons.mpr ⟨xqu78 (show cpI 15 46 4294967295 (wget w114 78) from ⟨_, (hr99.but hb116 (by decide)), xrb (by omega) (hb61)⟩), List.forall_mem_cons.mpr ⟨xqu79 (show cpI 15 47 4294967295 (wget w114 79) from ⟨_, hr115, xrb (by omega) (hb103)⟩), fun _ h => absurd h List.not_mem_nil⟩⟩)) ((hF55.tr ((xFr.of (S := [78, 79]) hb100 (by decide)).tr (xFr.of (S := [78, 79]) hb116 (by decide)))))
                  · have hc111u := hc111
                    unfold xbs at hc111u
                    refine xg_t (xg_icT (u := z107) (v := z109) rfl xnm0 xnm0 (xjs_geT hc111)) ?_
                    refine xg_t (xg_blq rfl) ?_
                    refine xg_t (xg_const) ?_
                    refine xg_t (xg_blq rfl) ?_
                    refine xg_k (xg_iadd (u := u104) (v := 0) (z := (u104 + 0) % 4294967296) xnm0 xnm0 rfl) (Nat.mod_lt _ (by decide)) (fun z117 hz118 => ?_)
                    refine xg_iastK (n := ji) (u := z117) (h79_102.but hb100 (by decide)) xnm0 xnm0 rfl (by omega) (fun w119 hr120 hb121 => ?_)
                    refine xg_t (xg_iinc (u := ji) (z := ji + 1) (l1 := [(0, (2, 76)), (1, (0, sp)), (2, (0, la)), (3, (0, n48))]) rfl rfl (by omega) rfl) ?_
                    refine xg_t (xg_goto) ?_
                    refine xg_t (xg_drop (l1 := [(0, (2, 76)), (1, (0, sp)), (2, (0, la)), (3, (0, n48)), (4, (0, ji + 1))]) (List.forall_mem_cons.mpr ⟨List.mem_cons_of_mem _ (List.mem_cons_self), List.forall_mem_cons.mpr ⟨List.mem_cons_of_mem _ (List.mem_cons_of_mem _ (List.mem_cons_self)), List.forall_mem_cons.mpr ⟨List.mem_cons_of_mem _ (List.mem_cons_of_mem _ (List.mem_cons_of_mem _ (List.mem_cons_self))), List.forall_mem_cons.mpr ⟨List.mem_cons_of_mem _ (List.mem_cons_of_mem _ (List.mem_cons_of_mem _ (List.mem_cons_of_mem _ (List.mem_cons_self)))), List.forall_mem_cons.mpr ⟨List.mem_cons_self, fun _ h => absurd h List.not_mem_nil⟩⟩⟩⟩⟩)) ?_
                    exact ih51 (ji + 1) w119 (by omega) (by omega) (xInv.up (S := [78, 79]) hI54 ((xFr.of (S := [78, 79]) hb100 (by decide)).tr (xFr.of (S := [78, 79]) hb121 (by decide))) (List.forall_mem_cons.mpr ⟨xqu78 (show cpI 15 46 4294967295 (wget w119 78) from ⟨_, (hr99.but hb121 (by decide)), xrb (by omega) (hb61)⟩), List.forall_mem_cons.mpr ⟨xqu79 (show cpI 15 47 4294967295 (wget w119 79) from ⟨_, hr120, xrb (by omega) (hb103)⟩), fun _ h => absurd h List.not_mem_nil⟩⟩)) ((hF55.tr ((xFr.of (S := [78, 79]) hb100 (by decide)).tr (xFr.of (S := [78, 79]) hb121 (by decide)))))
              · refine xg_t (xg_icT (u := ji) (v := 15) rfl xnm0 xnm0 (xj_geT (by omega) (by omega))) ?_
                refine xg_t (xg_blq rfl) ?_
                refine xg_t (xg_iinc (u := la) (z := la + 1) (l1 := [(0, (2, 76)), (1, (0, sp)), (3, (0, n48)), (4, (0, ji))]) rfl rfl (by omega) rfl) ?_
                refine xg_t (xg_goto) ?_
                refine xg_t (xg_drop (l1 := [(0, (2, 76)), (1, (0, sp)), (2, (0, la + 1))]) (List.forall_mem_cons.mpr ⟨List.mem_cons_of_mem _ (List.mem_cons_self), List.forall_mem_cons.mpr ⟨List.mem_cons_of_mem _ (List.mem_cons_of_mem _ (List.mem_cons_self)), List.forall_mem_cons.mpr ⟨List.mem_cons_self, fun _ h => absurd h List.not_mem_nil⟩⟩⟩)) ?_
                exact ih29 (la + 1) w53 (by omega) (by omega) (hI54) (hF55)
          exact key50 _ 0 w44 (Nat.lt_succ_self _) (by omega) (hI46) ((hF33.tr (hF47.up (by decide))))
        · refine xg_t (xg_ifT (u := u40) rfl xnm0 (xj_neT hc43)) ?_
          refine xg_t (xg_blq rfl) ?_
          refine xg_t (xg_iinc (u := la) (z := la + 1) (l1 := [(0, (2, 76)), (1, (0, sp))]) rfl rfl (by omega) rfl) ?_
          refine xg_t (xg_goto) ?_
          refine xg_t (xg_drop (l1 := [(0, (2, 76)), (1, (0, sp)), (2, (0, la + 1))]) (List.forall_mem_cons.mpr ⟨List.mem_cons_of_mem _ (List.mem_cons_self), List.forall_mem_cons.mpr ⟨List.mem_cons_of_mem _ (List.mem_cons_of_mem _ (List.mem_cons_self)), List.forall_mem_cons.mpr ⟨List.mem_cons_self, fun _ h => absurd h List.not_mem_nil⟩⟩⟩)) ?_
          exact ih29 (la + 1) w31 (by omega) (by omega) (hI32) (hF33)
      · refine xg_t (xg_icT (u := la) (v := 240) rfl xnm0 xnm0 (xj_geT (by omega) (by omega))) ?_
        refine xg_t (xg_blq rfl) ?_
        exact xg_e ⟨w31, ⟨rfl, rfl⟩, hI32, hF33⟩
  exact key28 _ 0 w26 (Nat.lt_succ_self _) (by omega) (xInv.up (S := [78, 79]) hI ((xFr.of (S := [78, 79]) hq22.2 (by decide)).tr (xFr.of (S := [78, 79]) hq27.2 (by decide))) (List.forall_mem_cons.mpr ⟨xqu78 (show cpI 15 46 4294967295 (wget w26 78) from ⟨_, (hq22.1.but hq27.2 (by decide)), fun _ => (by omega : 0 ≤ 4294967295)⟩), List.forall_mem_cons.mpr ⟨xqu79 (show cpI 15 47 4294967295 (wget w26 79) from ⟨_, hq27.1, fun _ => (by omega : 0 ≤ 4294967295)⟩), fun _ h => absurd h List.not_mem_nil⟩⟩)) (((xFr.of (S := [78, 79]) hq22.2 (by decide)).tr (xFr.of (S := [78, 79]) hq27.2 (by decide))))
theorem lwRefreshNext (hI : xInv w)  : xPq (d + 2) mX4_refreshNext [(2, 76)] w bd fc rr [] (fun w' => xInv w' ∧ xFr [76, 78, 79] w w') := by
  refine xPq.of ?_
  show xTo (d + 2) mX4_refreshNext (0, [], [(0, (2, 76))], [], (w, bd, fc, 0, 0, rr)) (fun φ => ∃ w', xEnd 0 [] (w', bd, fc, 0, 0, rr) φ ∧ xInv w' ∧ xFr [76, 78, 79] w w')
  refine xg_t (xg_blq rfl) ?_
  refine xg_t (xg_aload (va := (2, 76)) rfl rfl) ?_
  refine xoC76 (xqc76 hI : cp76 (wget w 76)) (fun f76_1 f76_3 f76_5 f76_7 f76_9 f76_11 f76_13 f76_15 h76_17 hb2 hb4 hb6 hb8 hb10 hb12 hb14 hb16 => ?_)
  refine xg_t (xg_getf (va := (0, f76_15)) h76_17 rfl) ?_
  by_cases hc18 : f76_15 = 0
  · refine xg_t (xg_ifT (u := f76_15) rfl xnm0 (xj_eqT hc18)) ?_
    refine xg_t (xg_blq rfl) ?_
    refine xg_t (xg_aload (va := (2, 76)) rfl rfl) ?_
    refine xg_t (xg_sip) ?_
    refine xg_putI (fl1 := [(2, 20), (2, 77), (2, 78), (2, 79), (0, f76_1), (0, f76_3), (0, f76_5), (0, f76_7), (0, 241), (0, f76_11), (0, f76_13), (0, f76_15)]) h76_17 rfl rfl rfl (fun w19 hk20 hb21 => ?_)
    refine xg_t (xg_const) ?_
    refine xg_t (xg_istore (l1 := [(0, (2, 76))]) rfl rfl rfl) ?_
    refine xg_t (xg_drop (l1 := [(0, (2, 76)), (1, (0, 1))]) (List.forall_mem_cons.mpr ⟨List.mem_cons_of_mem _ (List.mem_cons_self), List.forall_mem_cons.mpr ⟨List.mem_cons_self, fun _ h => absurd h List.not_mem_nil⟩⟩)) ?_
    have key22 : ∀ (m24 : Nat) (sp : Nat) (w25 : List (List xE)), 10 - sp < m24 → sp ≤ 10 → xInv w25 → xFr [76, 78, 79] w w25 → xTo (d + 2) mX4_refreshNext (17, [], [(0, (2, 76)), (1, (0, sp))], [], (w25, bd, fc, 0, 0, rr)) (fun φ => ∃ w', xEnd 0 [] (w', bd, fc, 0, 0, rr) φ ∧ xInv w' ∧ xFr [76, 78, 79] w w') := by
      intro m24
      induction m24 with
      | zero => intro sp w25 hz; exact absurd hz (Nat.not_lt_zero _)
      | succ m24 ih23 =>
        intro sp w25 hm29 hn28 hI26 hF27
        refine xg_t (xg_blq rfl) ?_
        refine xg_t (xg_iload (va := (0, sp)) rfl rfl) ?_
        refine xg_t (xg_bip) ?_
        by_cases hc30 : 9 < sp
        · refine xg_t (xg_icT (u := sp) (v := 9) rfl xnm0 xnm0 (xj_gtT hc30 (by omega))) ?_
          refine xg_t (xg_blq rfl) ?_
          refine xg_t (xg_aload (va := (2, 76)) rfl rfl) ?_
          refine xg_t (xg_const) ?_
          refine xoC76 (xqc76 hI26 : cp76 (wget w25 76)) (fun f76_31 f76_33 f76_35 f76_37 f76_39 f76_41 f76_43 f76_45 h76_47 hb32 hb34 hb36 hb38 hb40 hb42 hb44 hb46 => ?_)
          refine xg_putZ (fl1 := [(2, 20), (2, 77), (2, 78), (2, 79), (0, f76_31), (0, f76_33), (0, f76_35), (0, f76_37), (0, f76_39), (0, f76_41), (0, f76_43), (0, 1)]) h76_47 rfl rfl rfl (fun w48 hk49 hb50 => ?_)
          exact xg_e ⟨w48, ⟨rfl, rfl⟩, xInv.up (S := [76]) hI26 (xFr.of (S := [76]) hb50 (by decide)) (List.forall_mem_cons.mpr ⟨xqu76 (show cp76 (wget w48 76) from xmC76 f76_31 f76_33 f76_35 f76_37 f76_39 f76_41 f76_43 1 hk49 hb32 hb34 hb36 hb38 hb40 hb42 hb44 (by decide)), fun _ h => absurd h List.not_mem_nil⟩), (hF27.tr (xFr.of (S := [76, 78, 79]) hb50 (by decide)))⟩
        · refine xg_t (xg_icF (u := sp) (v := 9) rfl xnm0 xnm0 (xj_gtF (by omega) (by omega))) ?_
          refine xg_t (xg_aload (va := (2, 76)) rfl rfl) ?_
          refine xg_t (xg_iload (va := (0, sp)) rfl rfl) ?_
          refine xoC76 (xqc76 hI26 : cp76 (wget w25 76)) (fun f76_51 f76_53 f76_55 f76_57 f76_59 f76_61 f76_63 f76_65 h76_67 hb52 hb54 hb56 hb58 hb60 hb62 hb64 hb66 => ?_)
          refine xg_cVv mX4_countTries (vs := [(0, sp)]) (rest := []) (cn1 := 0) (sl1 := 0) rfl (lwCountTries (hI26) (by omega)) rfl h76_67 rfl rfl rfl rfl rfl rfl (fun w68 hq69 => ?_)
          obtain ⟨hI70, hF71⟩ := hq69
          refine xg_t (xg_const) ?_
          refine xg_t (xg_istore (l1 := [(0, (2, 76)), (1, (0, sp))]) rfl rfl rfl) ?_
          refine xg_t (xg_drop (l1 := [(0, (2, 76)), (1, (0, sp)), (2, (0, 0))]) (List.forall_mem_cons.mpr ⟨List.mem_cons_of_mem _ (List.mem_cons_self), List.forall_mem_cons.mpr ⟨List.mem_cons_of_mem _ (List.mem_cons_of_mem _ (List.mem_cons_self)), List.forall_mem_cons.mpr ⟨List.mem_cons_self, fun _ h => absurd h List.not_mem_nil⟩⟩⟩)) ?_
          have key72 : ∀ (m74 : Nat) (ji : Nat) (w75 : List (List xE)), 15 - ji < m74 → ji ≤ 15 → xInv w75 → xFr [76, 78, 79] w w75 → xTo (d + 2) mX4_refreshNext (30, [], [(0, (2, 76)), (1, (0, sp)), (2, (0, ji))], [], (w75, bd, fc, 0, 0, rr)) (fun φ => ∃ w', xEnd 0 [] (w', bd, fc, 0, 0, rr) φ ∧ xInv w' ∧ xFr [76, 78, 79] w w') := by
            intro m74
            induction m74 with
            | zero => intro ji w75 hz; exact absurd hz (Nat.not_lt_zero _)
            | succ m74 ih73 =>
              intro ji w75 hm79 hn78 hI76 hF77
              refine xg_t (xg_blq rfl) ?_
              refine xg_t (xg_iload (va := (0, ji)) rfl rfl) ?_
              refine xg_t (xg_bip) ?_
              by_cases hc80 : ji < 15
              · refine xg_t (xg_icF (u := ji) (v := 15) rfl xnm0 xnm0 (xj_geF hc80 (by omega))) ?_
                refine xg_t (xg_aload (va := (2, 76)) rfl rfl) ?_
                refine xoC76 (xqc76 hI76 : cp76 (wget w75 76)) (fun f76_81 f76_83 f76_85 f76_87 f76_89 f76_91 f76_93 f76_95 h76_97 hb82 hb84 hb86 hb88 hb90 hb92 hb94 hb96 => ?_)
                refine xg_t (xg_getf (va := (2, 78)) h76_97 rfl) ?_
                refine xg_t (xg_iload (va := (0, ji)) rfl rfl) ?_
                refine xoI (xqc78 hI76 : cpI 15 46 4294967295 (wget w75 78)) (fun g78_98 h78_99 hb100 => ?_)
                refine xg_ialdB (n := ji) (B := 4294967295) h78_99 (hb100) xnm0 (by omega) (fun u101 hu102 he103 => ?_)
                refine xg_t (xg_aload (va := (2, 76)) rfl rfl) ?_
                refine xg_t (xg_getf (va := (2, 79)) h76_97 rfl) ?_
                refine xg_t (xg_iload (va := (0, ji)) rfl rfl) ?_
                refine xoI (xqc79 hI76 : cpI 15 47 4294967295 (wget w75 79)) (fun g79_104 h79_105 hb106 => ?_)
                refine xg_ialdB (n := ji) (B := 4294967295) h79_105 (hb106) xnm0 (by omega) (fun u107 hu108 he109 => ?_)
                refine xg_maxK (u := u101) (v := u107) xnm0 xnm0 xmx_ok (by omega) (by omega) (fun z110 hz111 hz112 hz113 hz114 => ?_)
                unfold xbs at hz112 hz113
                refine xg_t (xg_istore (l1 := [(0, (2, 76)), (1, (0, sp)), (2, (0, ji))]) rfl rfl rfl) ?_
                refine xg_t (xg_iload (va := (0, z110)) rfl rfl) ?_
                refine xg_t (xg_aload (va := (2, 76)) rfl rfl) ?_
                refine xg_t (xg_getf (va := (0, f76_89)) h76_97 rfl) ?_
                by_cases hc115 : xbs z110 < xbs f76_89
                · have hc115u := hc115
                  unfold xbs at hc115u
                  refine xg_t (xg_icF (u := z110) (v := f76_89) rfl xnm0 xnm0 (xjs_geF hc115)) ?_
                  refine xg_t (xg_aload (va := (2, 76)) rfl rfl) ?_
                  refine xg_t (xg_iload (va := (0, z110)) rfl rfl) ?_
                  refine xg_putI (fl1 := [(2, 20), (2, 77), (2, 78), (2, 79), (0, f76_81), (0, f76_83), (0, f76_85), (0, f76_87), (0, z110), (0, f76_91), (0, f76_93), (0, f76_95)]) h76_97 rfl rfl rfl (fun w116 hk117 hb118 => ?_)
                  refine xg_t (xg_aload (va := (2, 76)) rfl rfl) ?_
                  refine xg_t (xg_iload (va := (0, sp)) rfl rfl) ?_
                  refine xg_putI (fl1 := [(2, 20), (2, 77), (2, 78), (2, 79), (0, f76_81), (0, f76_83), (0, sp), (0, f76_87), (0, z110), (0, f76_91), (0, f76_93), (0, f76_95)]) hk117 rfl rfl rfl (fun w119 hk120 hb121 => ?_)
                  refine xg_t (xg_aload (va := (2, 76)) rfl rfl) ?_
                  refine xg_t (xg_bip) ?_
                  refine xg_t (xg_iload (va := (0, ji)) rfl rfl) ?_
                  refine xg_k (xg_ishlG (u := 10) (v := ji) xnm0 xnm0) (xpt_lt _) (fun z122 hz123 => ?_)
                  refine xg_putI (fl1 := [(2, 20), (2, 77), (2, 78), (2, 79), (0, f76_81), (0, f76_83), (0, sp), (0, z122), (0, z110), (0, f76_91), (0, f76_93), (0, f76_95)]) hk120 rfl rfl rfl (fun w124 hk125 hb126 => ?_)
                  refine xg_t (xg_blq rfl) ?_
                  refine xg_t (xg_iinc (u := ji) (z := ji + 1) (l1 := [(3, (0, z110)), (0, (2, 76)), (1, (0, sp))]) rfl rfl (by omega) rfl) ?_
                  refine xg_t (xg_goto) ?_
                  refine xg_t (xg_drop (l1 := [(0, (2, 76)), (1, (0, sp)), (2, (0, ji + 1))]) (List.forall_mem_cons.mpr ⟨List.mem_cons_of_mem _ (List.mem_cons_of_mem _ (List.mem_cons_self)), List.forall_mem_cons.mpr ⟨List.mem_cons_of_mem _ (List.mem_cons_of_mem _ (List.mem_cons_of_mem _ (List.mem_cons_self))), List.forall_mem_cons.mpr ⟨List.mem_cons_self, fun _ h => absurd h List.not_mem_nil⟩⟩⟩)) ?_
                  exact ih73 (ji + 1) w124 (by omega) (by omega) (xInv.up (S := [76]) hI76 (((xFr.of (S := [76]) hb118 (by decide)).tr (xFr.of (S := [76]) hb121 (by decide))).tr (xFr.of (S := [76]) hb126 (by decide))) (List.forall_mem_cons.mpr ⟨xqu76 (show cp76 (wget w124 76) from xmC76 f76_81 f76_83 sp z122 z110 f76_91 f76_93 f76_95 hk125 hb82 hb84 (by omega) (by omega) (by omega) hb92 hb94 hb96), fun _ h => absurd h List.not_mem_nil⟩)) ((hF77.tr (((xFr.of (S := [76, 78, 79]) hb118 (by decide)).tr (xFr.of (S := [76, 78, 79]) hb121 (by decide))).tr (xFr.of (S := [76, 78, 79]) hb126 (by decide)))))
                · have hc115u := hc115
                  unfold xbs at hc115u
                  refine xg_t (xg_icT (u := z110) (v := f76_89) rfl xnm0 xnm0 (xjs_geT hc115)) ?_
                  refine xg_t (xg_blq rfl) ?_
                  refine xg_t (xg_iinc (u := ji) (z := ji + 1) (l1 := [(3, (0, z110)), (0, (2, 76)), (1, (0, sp))]) rfl rfl (by omega) rfl) ?_
                  refine xg_t (xg_goto) ?_
                  refine xg_t (xg_drop (l1 := [(0, (2, 76)), (1, (0, sp)), (2, (0, ji + 1))]) (List.forall_mem_cons.mpr ⟨List.mem_cons_of_mem _ (List.mem_cons_of_mem _ (List.mem_cons_self)), List.forall_mem_cons.mpr ⟨List.mem_cons_of_mem _ (List.mem_cons_of_mem _ (List.mem_cons_of_mem _ (List.mem_cons_self))), List.forall_mem_cons.mpr ⟨List.mem_cons_self, fun _ h => absurd h List.not_mem_nil⟩⟩⟩)) ?_
                  exact ih73 (ji + 1) w75 (by omega) (by omega) (hI76) (hF77)
              · refine xg_t (xg_icT (u := ji) (v := 15) rfl xnm0 xnm0 (xj_geT (by omega) (by omega))) ?_
                refine xg_t (xg_blq rfl) ?_
                refine xg_t (xg_iinc (u := sp) (z := sp + 1) (l1 := [(0, (2, 76)), (2, (0, ji))]) rfl rfl (by omega) rfl) ?_
                refine xg_t (xg_goto) ?_
                refine xg_t (xg_drop (l1 := [(0, (2, 76)), (1, (0, sp + 1))]) (List.forall_mem_cons.mpr ⟨List.mem_cons_of_mem _ (List.mem_cons_self), List.forall_mem_cons.mpr ⟨List.mem_cons_self, fun _ h => absurd h List.not_mem_nil⟩⟩)) ?_
                exact ih23 (sp + 1) w75 (by omega) (by omega) (hI76) (hF77)
          exact key72 _ 0 w68 (Nat.lt_succ_self _) (by omega) (hI70) ((hF27.tr (hF71.up (by decide))))
    exact key22 _ 1 w19 (Nat.lt_succ_self _) (by omega) (xInv.up (S := [76]) hI (xFr.of (S := [76]) hb21 (by decide)) (List.forall_mem_cons.mpr ⟨xqu76 (show cp76 (wget w19 76) from xmC76 f76_1 f76_3 f76_5 f76_7 241 f76_11 f76_13 f76_15 hk20 hb2 hb4 hb6 hb8 (by decide) hb12 hb14 hb16), fun _ h => absurd h List.not_mem_nil⟩)) ((xFr.of (S := [76, 78, 79]) hb21 (by decide)))
  · refine xg_t (xg_ifF (u := f76_15) rfl xnm0 (xj_eqF hc18)) ?_
    exact xg_e ⟨w, ⟨rfl, rfl⟩, hI, xFr.rf⟩
end XLWS
end
section
/-! isIn; what is told: its small methods -/
section XMI
variable {d : Nat} {w : List (List xE)} {bd : List (Nat × Nat)} {fc : List (Nat × Nat × Bool)} {rr : Nat × Nat}
theorem isIn_ok {a b c : Nat} (ha : a ≤ 4294967295) (hb : b ≤ 2147483647) (hc : c ≤ 2147483647) : xPr d mX11_isIn [(0, a), (0, b), (0, c)] w bd fc rr [(0, if b ≤ a ∧ a ≤ c then 1 else 0)] w := by
  refine xPr.of ?_
  show xTo d mX11_isIn (0, [], [(0, (0, a)), (1, (0, b)), (2, (0, c))], [], (w, bd, fc, 0, 0, rr)) (xEnd 4 [(0, if b ≤ a ∧ a ≤ c then 1 else 0)] (w, bd, fc, 0, 0, rr))
  refine xg_t (xg_blq rfl) ?_
  refine xg_t (xg_iload (va := (0, a)) rfl rfl) ?_
  refine xg_t (xg_iload (va := (0, b)) rfl rfl) ?_
  by_cases hc1 : xbs a < xbs b
  · have hc1u := hc1
    unfold xbs at hc1u
    have hn2 : b ≤ 2147483647 := by omega
    refine xg_t (xg_icT (u := a) (v := b) rfl xnm0 xnm0 (xjs_ltT hc1)) ?_
    refine xg_t (xg_blq rfl) ?_
    refine xg_t (xg_const) ?_
    refine xg_t (xg_blq rfl) ?_
    rw [if_neg (show ¬ (b ≤ a ∧ a ≤ c) by omega)]
    exact xg_e ⟨rfl, rfl⟩
  · have hc1u := hc1
    unfold xbs at hc1u
    have hn3 : a ≤ 2147483647 := by omega
    have hn4 : b ≤ 2147483647 := by omega
    refine xg_t (xg_icF (u := a) (v := b) rfl xnm0 xnm0 (xjs_ltF hc1)) ?_
    refine xg_t (xg_iload (va := (0, a)) rfl rfl) ?_
    refine xg_t (xg_iload (va := (0, c)) rfl rfl) ?_
    by_cases hc5 : c < a
    · refine xg_t (xg_icT (u := a) (v := c) rfl xnm0 xnm0 (xj_gtT hc5 (by omega))) ?_
      refine xg_t (xg_blq rfl) ?_
      refine xg_t (xg_const) ?_
      refine xg_t (xg_blq rfl) ?_
      rw [if_neg (show ¬ (b ≤ a ∧ a ≤ c) by omega)]
      exact xg_e ⟨rfl, rfl⟩
    · refine xg_t (xg_icF (u := a) (v := c) rfl xnm0 xnm0 (xj_gtF (by omega) (by omega))) ?_
      refine xg_t (xg_const) ?_
      refine xg_t (xg_goto) ?_
      refine xg_t (xg_blq rfl) ?_
      rw [if_pos (show b ≤ a ∧ a ≤ c by omega)]
      exact xg_e ⟨rfl, rfl⟩
theorem tdFindCrack {ra ro co : Nat} (hI : xInv w) (h1 : ra ≤ 1) (h2 : ro ≤ 4294967295) (h3 : co ≤ 4294967295) : xPi (d + 1) mX9_findCrack [(2, 1), (0, ra), (0, ro), (0, co)] w bd fc rr (fun n w' => (n ≤ 4294967295) ∧ xInv w' ∧ xFr [] w w') := by
  refine xPi.of ?_
  show xTo (d + 1) mX9_findCrack (0, [], [(0, (2, 1)), (1, (0, ra)), (2, (0, ro)), (3, (0, co))], [], (w, bd, fc, 0, 0, rr)) (fun φ => ∃ n w', xEnd 1 [(0, n)] (w', bd, fc, 0, 0, rr) φ ∧ (n ≤ 4294967295) ∧ xInv w' ∧ xFr [] w w')
  refine xoC1 (xqc1 hI : cp1 (wget w 1)) (fun f1_1 f1_3 f1_5 f1_7 f1_9 f1_11 h1_13 hb2 hb4 hb6 hb8 hb10 hb12 => ?_)
  obtain ⟨f14_14, h14_16, hb15⟩ := (xqc14 hI : cp14 (wget w 14))
  refine xoI (xqc15 hI : cpI 200 6 4294967295 (wget w 15)) (fun g15_17 h15_18 hb19 => ?_)
  refine xg_t (xg_blq rfl) ?_
  refine xg_t (xg_iload (va := (0, ra)) rfl rfl) ?_
  by_cases hc20 : ra = 0
  · refine xg_t (xg_ifT (u := ra) rfl xnm0 (xj_eqT hc20)) ?_
    refine xg_t (xg_blq rfl) ?_
    refine xg_t (xg_const) ?_
    refine xg_t (xg_blq rfl) ?_
    refine xg_t (xg_istore (l1 := [(0, (2, 1)), (1, (0, ra)), (2, (0, ro)), (3, (0, co))]) rfl rfl rfl) ?_
    refine xg_t (xg_const) ?_
    refine xg_t (xg_istore (l1 := [(4, (0, 0)), (0, (2, 1)), (1, (0, ra)), (2, (0, ro)), (3, (0, co))]) rfl rfl rfl) ?_
    refine xg_t (xg_drop (l1 := [(0, (2, 1)), (1, (0, ra)), (2, (0, ro)), (3, (0, co)), (4, (0, 0)), (5, (0, 0))]) (List.forall_mem_cons.mpr ⟨List.mem_cons_of_mem _ (List.mem_cons_of_mem _ (List.mem_cons_self)), List.forall_mem_cons.mpr ⟨List.mem_cons_of_mem _ (List.mem_cons_of_mem _ (List.mem_cons_of_mem _ (List.mem_cons_self))), List.forall_mem_cons.mpr ⟨List.mem_cons_of_mem _ (List.mem_cons_of_mem _ (List.mem_cons_of_mem _ (List.mem_cons_of_mem _ (List.mem_cons_self)))), List.forall_mem_cons.mpr ⟨List.mem_cons_of_mem _ (List.mem_cons_of_mem _ (List.mem_cons_of_mem _ (List.mem_cons_of_mem _ (List.mem_cons_of_mem _ (List.mem_cons_self))))), List.forall_mem_cons.mpr ⟨List.mem_cons_of_mem _ (List.mem_cons_self), List.forall_mem_cons.mpr ⟨List.mem_cons_self, fun _ h => absurd h List.not_mem_nil⟩⟩⟩⟩⟩⟩)) ?_
    have key21 : ∀ (m23 : Nat) (ki : Nat) (w24 : List (List xE)), 40 - ki < m23 → ki ≤ 40 → xInv w24 → xFr [] w w24 → xTo (d + 1) mX9_findCrack (14, [], [(0, (2, 1)), (1, (0, ra)), (2, (0, ro)), (3, (0, co)), (4, (0, 0)), (5, (0, ki))], [], (w24, bd, fc, 0, 0, rr)) (fun φ => ∃ n w', xEnd 1 [(0, n)] (w', bd, fc, 0, 0, rr) φ ∧ (n ≤ 4294967295) ∧ xInv w' ∧ xFr [] w w') := by
      intro m23
      induction m23 with
      | zero => intro ki w24 hz; exact absurd hz (Nat.not_lt_zero _)
      | succ m23 ih22 =>
        intro ki w24 hm28 hn27 hI25 hF26
        refine xg_t (xg_blq rfl) ?_
        refine xg_t (xg_iload (va := (0, ki)) rfl rfl) ?_
        refine xg_t (xg_aload (va := (2, 1)) rfl rfl) ?_
        refine xg_t (xg_getf (va := (2, 14)) (hF26.get (by decide) h1_13) rfl) ?_
        refine xg_t (xg_getf (va := (0, f14_14)) (hF26.get (by decide) h14_16) rfl) ?_
        by_cases hc29 : ki < f14_14
        · refine xg_t (xg_icF (u := ki) (v := f14_14) rfl xnm0 xnm0 (xj_geF hc29 (by omega))) ?_
          refine xg_t (xg_aload (va := (2, 1)) rfl rfl) ?_
          refine xg_t (xg_getf (va := (2, 14)) (hF26.get (by decide) h1_13) rfl) ?_
          refine xg_t (xg_iload (va := (0, ki)) rfl rfl) ?_
          refine xg_t (xg_const) ?_
          refine xg_k (xg_cVr mX5_get (vs := [(0, ki), (0, 0)]) (rest := []) (rs := [(0, if ki < f14_14 ∧ 0 < 5 then g15_17 (ki * 5 + 0) else 4294967295)]) (cn1 := 0) (sl1 := 0) rfl (rget_ok (lim := 40) (wd := 5) (sz := f14_14) (hF26.get (by decide) h14_16) (h15_18.fr hF26 (by decide)) (by decide) (by omega) (by decide) (by decide) (by omega) (by omega)) rfl (hF26.get (by decide) h14_16) rfl rfl rfl rfl rfl rfl rfl) (xiteb (hb19)) (fun z30 hz31 => ?_)
          refine xg_t (xg_iload (va := (0, 0)) rfl rfl) ?_
          by_cases hc32 : z30 = 0
          · refine xg_t (xg_icF (u := z30) (v := 0) rfl xnm0 xnm0 (xj_neF hc32)) ?_
            refine xg_t (xg_aload (va := (2, 1)) rfl rfl) ?_
            refine xg_t (xg_getf (va := (2, 14)) (hF26.get (by decide) h1_13) rfl) ?_
            refine xg_t (xg_iload (va := (0, ki)) rfl rfl) ?_
            refine xg_t (xg_const) ?_
            refine xg_k (xg_cVr mX5_get (vs := [(0, ki), (0, 1)]) (rest := []) (rs := [(0, if ki < f14_14 ∧ 1 < 5 then g15_17 (ki * 5 + 1) else 4294967295)]) (cn1 := 0) (sl1 := 0) rfl (rget_ok (lim := 40) (wd := 5) (sz := f14_14) (hF26.get (by decide) h14_16) (h15_18.fr hF26 (by decide)) (by decide) (by omega) (by decide) (by decide) (by omega) (by omega)) rfl (hF26.get (by decide) h14_16) rfl rfl rfl rfl rfl rfl rfl) (xiteb (hb19)) (fun z33 hz34 => ?_)
            refine xg_t (xg_iload (va := (0, ro)) rfl rfl) ?_
            by_cases hc35 : z33 = ro
            · refine xg_t (xg_icF (u := z33) (v := ro) rfl xnm0 xnm0 (xj_neF hc35)) ?_
              refine xg_t (xg_aload (va := (2, 1)) rfl rfl) ?_
              refine xg_t (xg_getf (va := (2, 14)) (hF26.get (by decide) h1_13) rfl) ?_
              refine xg_t (xg_iload (va := (0, ki)) rfl rfl) ?_
              refine xg_t (xg_const) ?_
              refine xg_k (xg_cVr mX5_get (vs := [(0, ki), (0, 2)]) (rest := []) (rs := [(0, if ki < f14_14 ∧ 2 < 5 then g15_17 (ki * 5 + 2) else 4294967295)]) (cn1 := 0) (sl1 := 0) rfl (rget_ok (lim := 40) (wd := 5) (sz := f14_14) (hF26.get (by decide) h14_16) (h15_18.fr hF26 (by decide)) (by decide) (by omega) (by decide) (by decide) (by omega) (by omega)) rfl (hF26.get (by decide) h14_16) rfl rfl rfl rfl rfl rfl rfl) (xiteb (hb19)) (fun z36 hz37 => ?_)
              refine xg_t (xg_iload (va := (0, co)) rfl rfl) ?_
              by_cases hc38 : z36 = co
              · refine xg_t (xg_icF (u := z36) (v := co) rfl xnm0 xnm0 (xj_neF hc38)) ?_
                refine xg_t (xg_iload (va := (0, ki)) rfl rfl) ?_
                exact xg_e ⟨ki, w24, ⟨rfl, rfl⟩, by omega, hI25, hF26⟩
              · refine xg_t (xg_icT (u := z36) (v := co) rfl xnm0 xnm0 (xj_neT hc38)) ?_
                refine xg_t (xg_blq rfl) ?_
                refine xg_t (xg_iinc (u := ki) (z := ki + 1) (l1 := [(0, (2, 1)), (1, (0, ra)), (2, (0, ro)), (3, (0, co)), (4, (0, 0))]) rfl rfl (by omega) rfl) ?_
                refine xg_t (xg_goto) ?_
                refine xg_t (xg_drop (l1 := [(0, (2, 1)), (1, (0, ra)), (2, (0, ro)), (3, (0, co)), (4, (0, 0)), (5, (0, ki + 1))]) (List.forall_mem_cons.mpr ⟨List.mem_cons_of_mem _ (List.mem_cons_self), List.forall_mem_cons.mpr ⟨List.mem_cons_of_mem _ (List.mem_cons_of_mem _ (List.mem_cons_self)), List.forall_mem_cons.mpr ⟨List.mem_cons_of_mem _ (List.mem_cons_of_mem _ (List.mem_cons_of_mem _ (List.mem_cons_self))), List.forall_mem_cons.mpr ⟨List.mem_cons_of_mem _ (List.mem_cons_of_mem _ (List.mem_cons_of_mem _ (List.mem_cons_of_mem _ (List.mem_cons_self)))), List.forall_mem_cons.mpr ⟨List.mem_cons_of_mem _ (List.mem_cons_of_mem _ (List.mem_cons_of_mem _ (List.mem_cons_of_mem _ (List.mem_cons_of_mem _ (List.mem_cons_self))))), List.forall_mem_cons.mpr ⟨List.mem_cons_self, fun _ h => absurd h List.not_mem_nil⟩⟩⟩⟩⟩⟩)) ?_
                exact ih22 (ki + 1) w24 (by omega) (by omega) (hI25) (hF26)
            · refine xg_t (xg_icT (u := z33) (v := ro) rfl xnm0 xnm0 (xj_neT hc35)) ?_
              refine xg_t (xg_blq rfl) ?_
              refine xg_t (xg_iinc (u := ki) (z := ki + 1) (l1 := [(0, (2, 1)), (1, (0, ra)), (2, (0, ro)), (3, (0, co)), (4, (0, 0))]) rfl rfl (by omega) rfl) ?_
              refine xg_t (xg_goto) ?_
              refine xg_t (xg_drop (l1 := [(0, (2, 1)), (1, (0, ra)), (2, (0, ro)), (3, (0, co)), (4, (0, 0)), (5, (0, ki + 1))]) (List.forall_mem_cons.mpr ⟨List.mem_cons_of_mem _ (List.mem_cons_self), List.forall_mem_cons.mpr ⟨List.mem_cons_of_mem _ (List.mem_cons_of_mem _ (List.mem_cons_self)), List.forall_mem_cons.mpr ⟨List.mem_cons_of_mem _ (List.mem_cons_of_mem _ (List.mem_cons_of_mem _ (List.mem_cons_self))), List.forall_mem_cons.mpr ⟨List.mem_cons_of_mem _ (List.mem_cons_of_mem _ (List.mem_cons_of_mem _ (List.mem_cons_of_mem _ (List.mem_cons_self)))), List.forall_mem_cons.mpr ⟨List.mem_cons_of_mem _ (List.mem_cons_of_mem _ (List.mem_cons_of_mem _ (List.mem_cons_of_mem _ (List.mem_cons_of_mem _ (List.mem_cons_self))))), List.forall_mem_cons.mpr ⟨List.mem_cons_self, fun _ h => absurd h List.not_mem_nil⟩⟩⟩⟩⟩⟩)) ?_
              exact ih22 (ki + 1) w24 (by omega) (by omega) (hI25) (hF26)
          · refine xg_t (xg_icT (u := z30) (v := 0) rfl xnm0 xnm0 (xj_neT hc32)) ?_
            refine xg_t (xg_blq rfl) ?_
            refine xg_t (xg_iinc (u := ki) (z := ki + 1) (l1 := [(0, (2, 1)), (1, (0, ra)), (2, (0, ro)), (3, (0, co)), (4, (0, 0))]) rfl rfl (by omega) rfl) ?_
            refine xg_t (xg_goto) ?_
            refine xg_t (xg_drop (l1 := [(0, (2, 1)), (1, (0, ra)), (2, (0, ro)), (3, (0, co)), (4, (0, 0)), (5, (0, ki + 1))]) (List.forall_mem_cons.mpr ⟨List.mem_cons_of_mem _ (List.mem_cons_self), List.forall_mem_cons.mpr ⟨List.mem_cons_of_mem _ (List.mem_cons_of_mem _ (List.mem_cons_self)), List.forall_mem_cons.mpr ⟨List.mem_cons_of_mem _ (List.mem_cons_of_mem _ (List.mem_cons_of_mem _ (List.mem_cons_self))), List.forall_mem_cons.mpr ⟨List.mem_cons_of_mem _ (List.mem_cons_of_mem _ (List.mem_cons_of_mem _ (List.mem_cons_of_mem _ (List.mem_cons_self)))), List.forall_mem_cons.mpr ⟨List.mem_cons_of_mem _ (List.mem_cons_of_mem _ (List.mem_cons_of_mem _ (List.mem_cons_of_mem _ (List.mem_cons_of_mem _ (List.mem_cons_self))))), List.forall_mem_cons.mpr ⟨List.mem_cons_self, fun _ h => absurd h List.not_mem_nil⟩⟩⟩⟩⟩⟩)) ?_
            exact ih22 (ki + 1) w24 (by omega) (by omega) (hI25) (hF26)
        · refine xg_t (xg_icT (u := ki) (v := f14_14) rfl xnm0 xnm0 (xj_geT (by omega) (by omega))) ?_
          refine xg_t (xg_blq rfl) ?_
          refine xg_t (xg_const) ?_
          exact xg_e ⟨4294967295, w24, ⟨rfl, rfl⟩, by first | decide | omega, hI25, hF26⟩
    exact key21 _ 0 w (Nat.lt_succ_self _) (by omega) (hI) (xFr.rf)
  · refine xg_t (xg_ifF (u := ra) rfl xnm0 (xj_eqF hc20)) ?_
    refine xg_t (xg_const) ?_
    refine xg_t (xg_goto) ?_
    refine xg_t (xg_blq rfl) ?_
    refine xg_t (xg_istore (l1 := [(0, (2, 1)), (1, (0, ra)), (2, (0, ro)), (3, (0, co))]) rfl rfl rfl) ?_
    refine xg_t (xg_const) ?_
    refine xg_t (xg_istore (l1 := [(4, (0, 1)), (0, (2, 1)), (1, (0, ra)), (2, (0, ro)), (3, (0, co))]) rfl rfl rfl) ?_
    refine xg_t (xg_drop (l1 := [(0, (2, 1)), (1, (0, ra)), (2, (0, ro)), (3, (0, co)), (4, (0, 1)), (5, (0, 0))]) (List.forall_mem_cons.mpr ⟨List.mem_cons_of_mem _ (List.mem_cons_of_mem _ (List.mem_cons_self)), List.forall_mem_cons.mpr ⟨List.mem_cons_of_mem _ (List.mem_cons_of_mem _ (List.mem_cons_of_mem _ (List.mem_cons_self))), List.forall_mem_cons.mpr ⟨List.mem_cons_of_mem _ (List.mem_cons_of_mem _ (List.mem_cons_of_mem _ (List.mem_cons_of_mem _ (List.mem_cons_self)))), List.forall_mem_cons.mpr ⟨List.mem_cons_of_mem _ (List.mem_cons_of_mem _ (List.mem_cons_of_mem _ (List.mem_cons_of_mem _ (List.mem_cons_of_mem _ (List.mem_cons_self))))), List.forall_mem_cons.mpr ⟨List.mem_cons_of_mem _ (List.mem_cons_self), List.forall_mem_cons.mpr ⟨List.mem_cons_self, fun _ h => absurd h List.not_mem_nil⟩⟩⟩⟩⟩⟩)) ?_
    have key39 : ∀ (m41 : Nat) (ki : Nat) (w42 : List (List xE)), 40 - ki < m41 → ki ≤ 40 → xInv w42 → xFr [] w w42 → xTo (d + 1) mX9_findCrack (14, [], [(0, (2, 1)), (1, (0, ra)), (2, (0, ro)), (3, (0, co)), (4, (0, 1)), (5, (0, ki))], [], (w42, bd, fc, 0, 0, rr)) (fun φ => ∃ n w', xEnd 1 [(0, n)] (w', bd, fc, 0, 0, rr) φ ∧ (n ≤ 4294967295) ∧ xInv w' ∧ xFr [] w w') := by
      intro m41
      induction m41 with
      | zero => intro ki w42 hz; exact absurd hz (Nat.not_lt_zero _)
      | succ m41 ih40 =>
        intro ki w42 hm46 hn45 hI43 hF44
        refine xg_t (xg_blq rfl) ?_
        refine xg_t (xg_iload (va := (0, ki)) rfl rfl) ?_
        refine xg_t (xg_aload (va := (2, 1)) rfl rfl) ?_
        refine xg_t (xg_getf (va := (2, 14)) (hF44.get (by decide) h1_13) rfl) ?_
        refine xg_t (xg_getf (va := (0, f14_14)) (hF44.get (by decide) h14_16) rfl) ?_
        by_cases hc47 : ki < f14_14
        · refine xg_t (xg_icF (u := ki) (v := f14_14) rfl xnm0 xnm0 (xj_geF hc47 (by omega))) ?_
          refine xg_t (xg_aload (va := (2, 1)) rfl rfl) ?_
          refine xg_t (xg_getf (va := (2, 14)) (hF44.get (by decide) h1_13) rfl) ?_
          refine xg_t (xg_iload (va := (0, ki)) rfl rfl) ?_
          refine xg_t (xg_const) ?_
          refine xg_k (xg_cVr mX5_get (vs := [(0, ki), (0, 0)]) (rest := []) (rs := [(0, if ki < f14_14 ∧ 0 < 5 then g15_17 (ki * 5 + 0) else 4294967295)]) (cn1 := 0) (sl1 := 0) rfl (rget_ok (lim := 40) (wd := 5) (sz := f14_14) (hF44.get (by decide) h14_16) (h15_18.fr hF44 (by decide)) (by decide) (by omega) (by decide) (by decide) (by omega) (by omega)) rfl (hF44.get (by decide) h14_16) rfl rfl rfl rfl rfl rfl rfl) (xiteb (hb19)) (fun z48 hz49 => ?_)
          refine xg_t (xg_iload (va := (0, 1)) rfl rfl) ?_
          by_cases hc50 : z48 = 1
          · refine xg_t (xg_icF (u := z48) (v := 1) rfl xnm0 xnm0 (xj_neF hc50)) ?_
            refine xg_t (xg_aload (va := (2, 1)) rfl rfl) ?_
            refine xg_t (xg_getf (va := (2, 14)) (hF44.get (by decide) h1_13) rfl) ?_
            refine xg_t (xg_iload (va := (0, ki)) rfl rfl) ?_
            refine xg_t (xg_const) ?_
            refine xg_k (xg_cVr mX5_get (vs := [(0, ki), (0, 1)]) (rest := []) (rs := [(0, if ki < f14_14 ∧ 1 < 5 then g15_17 (ki * 5 + 1) else 4294967295)]) (cn1 := 0) (sl1 := 0) rfl (rget_ok (lim := 40) (wd := 5) (sz := f14_14) (hF44.get (by decide) h14_16) (h15_18.fr hF44 (by decide)) (by decide) (by omega) (by decide) (by decide) (by omega) (by omega)) rfl (hF44.get (by decide) h14_16) rfl rfl rfl rfl rfl rfl rfl) (xiteb (hb19)) (fun z51 hz52 => ?_)
            refine xg_t (xg_iload (va := (0, ro)) rfl rfl) ?_
            by_cases hc53 : z51 = ro
            · refine xg_t (xg_icF (u := z51) (v := ro) rfl xnm0 xnm0 (xj_neF hc53)) ?_
              refine xg_t (xg_aload (va := (2, 1)) rfl rfl) ?_
              refine xg_t (xg_getf (va := (2, 14)) (hF44.get (by decide) h1_13) rfl) ?_
              refine xg_t (xg_iload (va := (0, ki)) rfl rfl) ?_
              refine xg_t (xg_const) ?_
              refine xg_k (xg_cVr mX5_get (vs := [(0, ki), (0, 2)]) (rest := []) (rs := [(0, if ki < f14_14 ∧ 2 < 5 then g15_17 (ki * 5 + 2) else 4294967295)]) (cn1 := 0) (sl1 := 0) rfl (rget_ok (lim := 40) (wd := 5) (sz := f14_14) (hF44.get (by decide) h14_16) (h15_18.fr hF44 (by decide)) (by decide) (by omega) (by decide) (by decide) (by omega) (by omega)) rfl (hF44.get (by decide) h14_16) rfl rfl rfl rfl rfl rfl rfl) (xiteb (hb19)) (fun z54 hz55 => ?_)
              refine xg_t (xg_iload (va := (0, co)) rfl rfl) ?_
              by_cases hc56 : z54 = co
              · refine xg_t (xg_icF (u := z54) (v := co) rfl xnm0 xnm0 (xj_neF hc56)) ?_
                refine xg_t (xg_iload (va := (0, ki)) rfl rfl) ?_
                exact xg_e ⟨ki, w42, ⟨rfl, rfl⟩, by omega, hI43, hF44⟩
              · refine xg_t (xg_icT (u := z54) (v := co) rfl xnm0 xnm0 (xj_neT hc56)) ?_
                refine xg_t (xg_blq rfl) ?_
                refine xg_t (xg_iinc (u := ki) (z := ki + 1) (l1 := [(0, (2, 1)), (1, (0, ra)), (2, (0, ro)), (3, (0, co)), (4, (0, 1))]) rfl rfl (by omega) rfl) ?_
                refine xg_t (xg_goto) ?_
                refine xg_t (xg_drop (l1 := [(0, (2, 1)), (1, (0, ra)), (2, (0, ro)), (3, (0, co)), (4, (0, 1)), (5, (0, ki + 1))]) (List.forall_mem_cons.mpr ⟨List.mem_cons_of_mem _ (List.mem_cons_self), List.forall_mem_cons.mpr ⟨List.mem_cons_of_mem _ (List.mem_cons_of_mem _ (List.mem_cons_self)), List.forall_mem_cons.mpr ⟨List.mem_cons_of_mem _ (List.mem_cons_of_mem _ (List.mem_cons_of_mem _ (List.mem_cons_self))), List.forall_mem_cons.mpr ⟨List.mem_cons_of_mem _ (List.mem_cons_of_mem _ (List.mem_cons_of_mem _ (List.mem_cons_of_mem _ (List.mem_cons_self)))), List.forall_mem_cons.mpr ⟨List.mem_cons_of_mem _ (List.mem_cons_of_mem _ (List.mem_cons_of_mem _ (List.mem_cons_of_mem _ (List.mem_cons_of_mem _ (List.mem_cons_self))))), List.forall_mem_cons.mpr ⟨List.mem_cons_self, fun _ h => absurd h List.not_mem_nil⟩⟩⟩⟩⟩⟩)) ?_
                exact ih40 (ki + 1) w42 (by omega) (by omega) (hI43) (hF44)
            · refine xg_t (xg_icT (u := z51) (v := ro) rfl xnm0 xnm0 (xj_neT hc53)) ?_
              refine xg_t (xg_blq rfl) ?_
              refine xg_t (xg_iinc (u := ki) (z := ki + 1) (l1 := [(0, (2, 1)), (1, (0, ra)), (2, (0, ro)), (3, (0, co)), (4, (0, 1))]) rfl rfl (by omega) rfl) ?_
              refine xg_t (xg_goto) ?_
              refine xg_t (xg_drop (l1 := [(0, (2, 1)), (1, (0, ra)), (2, (0, ro)), (3, (0, co)), (4, (0, 1)), (5, (0, ki + 1))]) (List.forall_mem_cons.mpr ⟨List.mem_cons_of_mem _ (List.mem_cons_self), List.forall_mem_cons.mpr ⟨List.mem_cons_of_mem _ (List.mem_cons_of_mem _ (List.mem_cons_self)), List.forall_mem_cons.mpr ⟨List.mem_cons_of_mem _ (List.mem_cons_of_mem _ (List.mem_cons_of_mem _ (List.mem_cons_self))), List.forall_mem_cons.mpr ⟨List.mem_cons_of_mem _ (List.mem_cons_of_mem _ (List.mem_cons_of_mem _ (List.mem_cons_of_mem _ (List.mem_cons_self)))), List.forall_mem_cons.mpr ⟨List.mem_cons_of_mem _ (List.mem_cons_of_mem _ (List.mem_cons_of_mem _ (List.mem_cons_of_mem _ (List.mem_cons_of_mem _ (List.mem_cons_self))))), List.forall_mem_cons.mpr ⟨List.mem_cons_self, fun _ h => absurd h List.not_mem_nil⟩⟩⟩⟩⟩⟩)) ?_
              exact ih40 (ki + 1) w42 (by omega) (by omega) (hI43) (hF44)
          · refine xg_t (xg_icT (u := z48) (v := 1) rfl xnm0 xnm0 (xj_neT hc50)) ?_
            refine xg_t (xg_blq rfl) ?_
            refine xg_t (xg_iinc (u := ki) (z := ki + 1) (l1 := [(0, (2, 1)), (1, (0, ra)), (2, (0, ro)), (3, (0, co)), (4, (0, 1))]) rfl rfl (by omega) rfl) ?_
            refine xg_t (xg_goto) ?_
            refine xg_t (xg_drop (l1 := [(0, (2, 1)), (1, (0, ra)), (2, (0, ro)), (3, (0, co)), (4, (0, 1)), (5, (0, ki + 1))]) (List.forall_mem_cons.mpr ⟨List.mem_cons_of_mem _ (List.mem_cons_self), List.forall_mem_cons.mpr ⟨List.mem_cons_of_mem _ (List.mem_cons_of_mem _ (List.mem_cons_self)), List.forall_mem_cons.mpr ⟨List.mem_cons_of_mem _ (List.mem_cons_of_mem _ (List.mem_cons_of_mem _ (List.mem_cons_self))), List.forall_mem_cons.mpr ⟨List.mem_cons_of_mem _ (List.mem_cons_of_mem _ (List.mem_cons_of_mem _ (List.mem_cons_of_mem _ (List.mem_cons_self)))), List.forall_mem_cons.mpr ⟨List.mem_cons_of_mem _ (List.mem_cons_of_mem _ (List.mem_cons_of_mem _ (List.mem_cons_of_mem _ (List.mem_cons_of_mem _ (List.mem_cons_self))))), List.forall_mem_cons.mpr ⟨List.mem_cons_self, fun _ h => absurd h List.not_mem_nil⟩⟩⟩⟩⟩⟩)) ?_
            exact ih40 (ki + 1) w42 (by omega) (by omega) (hI43) (hF44)
        · refine xg_t (xg_icT (u := ki) (v := f14_14) rfl xnm0 xnm0 (xj_geT (by omega) (by omega))) ?_
          refine xg_t (xg_blq rfl) ?_
          refine xg_t (xg_const) ?_
          exact xg_e ⟨4294967295, w42, ⟨rfl, rfl⟩, by first | decide | omega, hI43, hF44⟩
    exact key39 _ 0 w (Nat.lt_succ_self _) (by omega) (hI) (xFr.rf)
theorem tdCracksInView (hI : xInv w)  : xPi (d + 1) mX9_cracksInView [(2, 1)] w bd fc rr (fun n w' => (n ≤ 40) ∧ xInv w' ∧ xFr [] w w') := by
  refine xPi.of ?_
  show xTo (d + 1) mX9_cracksInView (0, [], [(0, (2, 1))], [], (w, bd, fc, 0, 0, rr)) (fun φ => ∃ n w', xEnd 1 [(0, n)] (w', bd, fc, 0, 0, rr) φ ∧ (n ≤ 40) ∧ xInv w' ∧ xFr [] w w')
  refine xoC1 (xqc1 hI : cp1 (wget w 1)) (fun f1_1 f1_3 f1_5 f1_7 f1_9 f1_11 h1_13 hb2 hb4 hb6 hb8 hb10 hb12 => ?_)
  obtain ⟨f14_14, h14_16, hb15⟩ := (xqc14 hI : cp14 (wget w 14))
  refine xoI (xqc15 hI : cpI 200 6 4294967295 (wget w 15)) (fun g15_17 h15_18 hb19 => ?_)
  refine xg_t (xg_blq rfl) ?_
  refine xg_t (xg_aload (va := (2, 1)) rfl rfl) ?_
  refine xg_t (xg_getf (va := (0, f1_9)) h1_13 rfl) ?_
  refine xg_t (xg_const) ?_
  by_cases hc20 : f1_9 = 4294967295
  · refine xg_t (xg_icF (u := f1_9) (v := 4294967295) rfl xnm0 xnm0 (xj_neF hc20)) ?_
    refine xg_t (xg_aload (va := (2, 1)) rfl rfl) ?_
    refine xg_t (xg_getf (va := (2, 14)) h1_13 rfl) ?_
    refine xg_t (xg_getf (va := (0, f14_14)) h14_16 rfl) ?_
    exact xg_e ⟨f14_14, w, ⟨rfl, rfl⟩, by omega, hI, xFr.rf⟩
  · refine xg_t (xg_icT (u := f1_9) (v := 4294967295) rfl xnm0 xnm0 (xj_neT hc20)) ?_
    refine xg_t (xg_blq rfl) ?_
    refine xg_t (xg_const) ?_
    refine xg_t (xg_istore (l1 := [(0, (2, 1))]) rfl rfl rfl) ?_
    refine xg_t (xg_drop (l1 := [(0, (2, 1)), (1, (0, 0))]) (List.forall_mem_cons.mpr ⟨List.mem_cons_of_mem _ (List.mem_cons_self), List.forall_mem_cons.mpr ⟨List.mem_cons_self, fun _ h => absurd h List.not_mem_nil⟩⟩)) ?_
    have key21 : ∀ (m23 : Nat) (se : Nat) (w24 : List (List xE)), 40 - se < m23 → se ≤ 40 → xInv w24 → xFr [] w w24 → xTo (d + 1) mX9_cracksInView (18, [], [(0, (2, 1)), (1, (0, se))], [], (w24, bd, fc, 0, 0, rr)) (fun φ => ∃ n w', xEnd 1 [(0, n)] (w', bd, fc, 0, 0, rr) φ ∧ (n ≤ 40) ∧ xInv w' ∧ xFr [] w w') := by
      intro m23
      induction m23 with
      | zero => intro se w24 hz; exact absurd hz (Nat.not_lt_zero _)
      | succ m23 ih22 =>
        intro se w24 hm28 hn27 hI25 hF26
        refine xg_t (xg_blq rfl) ?_
        refine xg_t (xg_iload (va := (0, se)) rfl rfl) ?_
        refine xg_t (xg_aload (va := (2, 1)) rfl rfl) ?_
        refine xg_t (xg_getf (va := (2, 14)) (hF26.get (by decide) h1_13) rfl) ?_
        refine xg_t (xg_getf (va := (0, f14_14)) (hF26.get (by decide) h14_16) rfl) ?_
        by_cases hc29 : se < f14_14
        · refine xg_t (xg_icF (u := se) (v := f14_14) rfl xnm0 xnm0 (xj_geF hc29 (by omega))) ?_
          refine xg_t (xg_aload (va := (2, 1)) rfl rfl) ?_
          refine xg_t (xg_getf (va := (2, 14)) (hF26.get (by decide) h1_13) rfl) ?_
          refine xg_t (xg_iload (va := (0, se)) rfl rfl) ?_
          refine xg_t (xg_const) ?_
          refine xg_k (xg_cVr mX5_get (vs := [(0, se), (0, 3)]) (rest := []) (rs := [(0, if se < f14_14 ∧ 3 < 5 then g15_17 (se * 5 + 3) else 4294967295)]) (cn1 := 0) (sl1 := 0) rfl (rget_ok (lim := 40) (wd := 5) (sz := f14_14) (hF26.get (by decide) h14_16) (h15_18.fr hF26 (by decide)) (by decide) (by omega) (by decide) (by decide) (by omega) (by omega)) rfl (hF26.get (by decide) h14_16) rfl rfl rfl rfl rfl rfl rfl) (xiteb (hb19)) (fun z30 hz31 => ?_)
          refine xg_t (xg_aload (va := (2, 1)) rfl rfl) ?_
          refine xg_t (xg_getf (va := (0, f1_9)) (hF26.get (by decide) h1_13) rfl) ?_
          by_cases hc32 : xbs f1_9 < xbs z30
          · have hc32u := hc32
            unfold xbs at hc32u
            refine xg_t (xg_icT (u := z30) (v := f1_9) rfl xnm0 xnm0 (xjs_gtT hc32)) ?_
            refine xg_t (xg_blq rfl) ?_
            refine xg_t (xg_iload (va := (0, se)) rfl rfl) ?_
            exact xg_e ⟨se, w24, ⟨rfl, rfl⟩, by omega, hI25, hF26⟩
          · have hc32u := hc32
            unfold xbs at hc32u
            refine xg_t (xg_icF (u := z30) (v := f1_9) rfl xnm0 xnm0 (xjs_gtF hc32)) ?_
            refine xg_t (xg_iinc (u := se) (z := se + 1) (l1 := [(0, (2, 1))]) rfl rfl (by omega) rfl) ?_
            refine xg_t (xg_goto) ?_
            refine xg_t (xg_drop (l1 := [(0, (2, 1)), (1, (0, se + 1))]) (List.forall_mem_cons.mpr ⟨List.mem_cons_of_mem _ (List.mem_cons_self), List.forall_mem_cons.mpr ⟨List.mem_cons_self, fun _ h => absurd h List.not_mem_nil⟩⟩)) ?_
            exact ih22 (se + 1) w24 (by omega) (by omega) (hI25) (hF26)
        · refine xg_t (xg_icT (u := se) (v := f14_14) rfl xnm0 xnm0 (xj_geT (by omega) (by omega))) ?_
          refine xg_t (xg_blq rfl) ?_
          refine xg_t (xg_iload (va := (0, se)) rfl rfl) ?_
          exact xg_e ⟨se, w24, ⟨rfl, rfl⟩, by omega, hI25, hF26⟩
    exact key21 _ 0 w (Nat.lt_succ_self _) (by omega) (hI) (xFr.rf)
end XMI
end
