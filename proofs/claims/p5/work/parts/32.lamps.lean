/-! Lamps: every method ends and keeps what holds of the cells -/
section XLM
variable {d : Nat} {w : List (List xE)} {bd : List (Nat × Nat)} {fc : List (Nat × Nat × Bool)} {rr : Nat × Nat}
theorem lmForgetAges (hI : xInv w)  : xPq d mX3_forgetAges [(2, 68)] w bd fc rr [] (fun w' => xInv w' ∧ xFr [68] w w') := by
  refine xPq.of ?_
  show xTo d mX3_forgetAges (0, [], [(0, (2, 68))], [], (w, bd, fc, 0, 0, rr)) (fun φ => ∃ w', xEnd 0 [] (w', bd, fc, 0, 0, rr) φ ∧ xInv w' ∧ xFr [68] w w')
  refine xg_t (xg_blk (b := [(0, 1, 0, 0, 0, 0), (1, 1, 3, 0, 0, 0), (2, 3, 59, 3, 4, 25), (5, 1, 12, 0, 0, 0)]) rfl) ?_
  refine xg_t (xg_aload (va := (2, 68)) rfl rfl) ?_
  refine xg_t (xg_const) ?_
  obtain ⟨f68_1, f68_3, h68_5, hb2, hb4⟩ := (hI 68 (by decide) : cp68 (wget w 68))
  refine xg_putZ (fl1 := [(2, 1), (2, 69), (2, 70), (2, 71), (0, 0), (0, f68_3)]) h68_5 rfl rfl rfl (fun w6 hk7 hb8 => ?_)
  exact xg_e ⟨w6, ⟨rfl, rfl⟩, xInv.up (S := [68]) hI (xFr.of (S := [68]) hb8 (by decide)) (List.forall_mem_cons.mpr ⟨(show cp68 (wget w6 68) from ⟨0, f68_3, hk7, by omega, by omega⟩), fun _ h => absurd h List.not_mem_nil⟩), (xFr.of (S := [68]) hb8 (by decide))⟩
theorem lmLeftOf {pt : Nat} (hI : xInv w) (hp1 : pt ≤ 35) : xPi (d + 1) mX3_leftOf [(2, 68), (0, pt)] w bd fc rr (fun n w' => (n ≤ 4294967295) ∧ xInv w' ∧ xFr [] w w') := by
  refine xPi.of ?_
  show xTo (d + 1) mX3_leftOf (0, [], [(0, (2, 68)), (1, (0, pt))], [], (w, bd, fc, 0, 0, rr)) (fun φ => ∃ n w', xEnd 1 [(0, n)] (w', bd, fc, 0, 0, rr) φ ∧ (n ≤ 4294967295) ∧ xInv w' ∧ xFr [] w w')
  refine xg_t (xg_blk (b := [(0, 1, 3, 0, 0, 0), (1, 3, 5, 1000, 0, 0), (4, 1, 0, 0, 0, 0), (5, 3, 1, 3, 1, 9), (8, 1, 2, 1, 0, 0), (9, 1, 10, 0, 0, 0), (10, 2, 4, 10, 0, 0), (12, 1, 20, 0, 0, 0), (13, 1, 18, 0, 0, 0), (14, 3, 62, 0, 0, 63), (17, 1, 12, 0, 1, 0)]) rfl) ?_
  refine xg_t (xg_const) ?_
  refine xg_t (xg_sip) ?_
  refine xg_t (xg_aload (va := (2, 68)) rfl rfl) ?_
  obtain ⟨f68_1, f68_3, h68_5, hb2, hb4⟩ := (hI 68 (by decide) : cp68 (wget w 68))
  refine xg_t (xg_getf (va := (2, 69)) h68_5 rfl) ?_
  refine xg_t (xg_iload (va := (0, pt)) rfl rfl) ?_
  obtain ⟨g69_6, h69_7, hb8⟩ := (hI 69 (by decide) : cpI 36 40 4294967295 (wget w 69))
  have h69_7 : xRow w 69 36 40 g69_6 := h69_7
  refine xg_ialdB (n := pt) (B := 4294967295) h69_7 (hb8) xnm0 (by omega) (fun u9 hu10 he11 => ?_)
  refine xg_t (xg_bip) ?_
  refine xg_k (xg_idivG (u := u9) (v := 10) (by decide) xnm0 xnm0) (xpt_lt _) (fun z12 hz13 => ?_)
  refine xg_k (xg_isub (u := 1000) (v := z12) (z := (1000 + (4294967296 - z12)) % 4294967296) xnm0 xnm0 rfl) (Nat.mod_lt _ (by decide)) (fun z14 hz15 => ?_)
  refine xg_maxK (u := 0) (v := z14) xnm0 xnm0 xmx_ok (by omega) (by omega) (fun z16 hz17 hz18 hz19 hz20 => ?_)
  unfold xbs at hz18 hz19
  exact xg_e ⟨z16, w, ⟨rfl, rfl⟩, by omega, hI, xFr.rf⟩
theorem lmIsDamp {pt : Nat} (hI : xInv w) (hp1 : pt ≤ 35) : xPi d mX3_isDamp [(2, 68), (0, pt)] w bd fc rr (fun n w' => (n ≤ 1) ∧ xInv w' ∧ xFr [] w w') := by
  refine xPi.of ?_
  show xTo d mX3_isDamp (0, [], [(0, (2, 68)), (1, (0, pt))], [], (w, bd, fc, 0, 0, rr)) (fun φ => ∃ n w', xEnd 4 [(0, n)] (w', bd, fc, 0, 0, rr) φ ∧ (n ≤ 1) ∧ xInv w' ∧ xFr [] w w')
  refine xg_t (xg_blk (b := [(0, 1, 0, 0, 0, 0), (1, 3, 1, 3, 2, 15), (4, 1, 2, 1, 0, 0), (5, 1, 10, 0, 0, 0), (6, 2, 4, 50, 0, 0), (8, 3, 6, 15, 2, 0), (11, 1, 3, 1, 0, 0), (12, 3, 8, 16, 0, 0)]) rfl) ?_
  refine xg_t (xg_aload (va := (2, 68)) rfl rfl) ?_
  obtain ⟨f68_1, f68_3, h68_5, hb2, hb4⟩ := (hI 68 (by decide) : cp68 (wget w 68))
  refine xg_t (xg_getf (va := (2, 70)) h68_5 rfl) ?_
  refine xg_t (xg_iload (va := (0, pt)) rfl rfl) ?_
  obtain ⟨g70_6, h70_7, hb8⟩ := (hI 70 (by decide) : cpI 36 41 4294967295 (wget w 70))
  have h70_7 : xRow w 70 36 41 g70_6 := h70_7
  refine xg_ialdB (n := pt) (B := 4294967295) h70_7 (hb8) xnm0 (by omega) (fun u9 hu10 he11 => ?_)
  refine xg_t (xg_bip) ?_
  by_cases hc12 : xbs u9 < xbs 50
  · have hc12u := hc12
    unfold xbs at hc12u
    refine xg_t (xg_icT (u := u9) (v := 50) rfl xnm0 xnm0 (xjs_ltT hc12)) ?_
    refine xg_t (xg_blk (b := [(15, 1, 3, 0, 0, 0)]) rfl) ?_
    refine xg_t (xg_const) ?_
    refine xg_t (xg_blk (b := [(16, 1, 12, 0, 1, 0)]) rfl) ?_
    exact xg_e ⟨0, w, ⟨rfl, rfl⟩, by omega, hI, xFr.rf⟩
  · have hc12u := hc12
    unfold xbs at hc12u
    have hn13 : u9 ≤ 2147483647 := by omega
    refine xg_t (xg_icF (u := u9) (v := 50) rfl xnm0 xnm0 (xjs_ltF hc12)) ?_
    refine xg_t (xg_const) ?_
    refine xg_t (xg_goto) ?_
    refine xg_t (xg_blk (b := [(16, 1, 12, 0, 1, 0)]) rfl) ?_
    exact xg_e ⟨1, w, ⟨rfl, rfl⟩, by omega, hI, xFr.rf⟩
theorem lmDampAt {ro co : Nat} (hI : xInv w) (hr1 : ro ≤ 4294967295) (hc1 : co ≤ 4294967295) : xPi d mX3_dampAt [(2, 68), (0, ro), (0, co)] w bd fc rr (fun n w' => (n ≤ 4294967295) ∧ xInv w' ∧ xFr [] w w') := by
  refine xPi.of ?_
  show xTo d mX3_dampAt (0, [], [(0, (2, 68)), (1, (0, ro)), (2, (0, co))], [], (w, bd, fc, 0, 0, rr)) (fun φ => ∃ n w', xEnd 1 [(0, n)] (w', bd, fc, 0, 0, rr) φ ∧ (n ≤ 4294967295) ∧ xInv w' ∧ xFr [] w w')
  obtain ⟨f68_1, f68_3, h68_5, hb2, hb4⟩ := (hI 68 (by decide) : cp68 (wget w 68))
  obtain ⟨f1_6, f1_8, f1_10, f1_12, f1_14, f1_16, h1_18, hb7, hb9, hb11, hb13, hb15, hb17⟩ := (hI 1 (by decide) : cp1 (wget w 1))
  obtain ⟨f3_19, f3_21, f3_23, f3_25, f3_27, h3_29, hb20, hb22, hb24, hb26, hb28⟩ := (hI 3 (by decide) : cp3 (wget w 3))
  refine xg_t (xg_blk (b := [(0, 1, 2, 1, 0, 0), (1, 3, 7, 40, 2, 0), (4, 1, 2, 1, 0, 0), (5, 1, 0, 0, 0, 0), (6, 3, 1, 3, 0, 21), (9, 3, 1, 9, 4, 66), (12, 3, 1, 1, 7, 70), (15, 3, 6, 40, 3, 0), (18, 1, 2, 2, 0, 0), (19, 3, 7, 40, 2, 0), (22, 1, 2, 2, 0, 0), (23, 1, 0, 0, 0, 0), (24, 3, 1, 3, 0, 21), (27, 3, 1, 9, 4, 66), (30, 3, 1, 1, 8, 73), (33, 3, 6, 40, 3, 0), (36, 1, 3, 1, 0, 0), (37, 3, 8, 41, 0, 0)]) rfl) ?_
  refine xg_t (xg_iload (va := (0, ro)) rfl rfl) ?_
  by_cases hc30 : ro < 2147483648
  · refine xg_t (xg_ifF (u := ro) rfl xnm0 (xjz_ltF hc30)) ?_
    refine xg_t (xg_iload (va := (0, ro)) rfl rfl) ?_
    refine xg_t (xg_aload (va := (2, 68)) rfl rfl) ?_
    refine xg_t (xg_getf (va := (2, 1)) h68_5 rfl) ?_
    refine xg_t (xg_getf (va := (2, 3)) h1_18 rfl) ?_
    refine xg_t (xg_getf (va := (0, f3_23)) h3_29 rfl) ?_
    by_cases hc31 : ro < f3_23
    · refine xg_t (xg_icF (u := ro) (v := f3_23) rfl xnm0 xnm0 (xj_geF hc31 (by omega))) ?_
      refine xg_t (xg_iload (va := (0, co)) rfl rfl) ?_
      by_cases hc32 : co < 2147483648
      · refine xg_t (xg_ifF (u := co) rfl xnm0 (xjz_ltF hc32)) ?_
        refine xg_t (xg_iload (va := (0, co)) rfl rfl) ?_
        refine xg_t (xg_aload (va := (2, 68)) rfl rfl) ?_
        refine xg_t (xg_getf (va := (2, 1)) h68_5 rfl) ?_
        refine xg_t (xg_getf (va := (2, 3)) h1_18 rfl) ?_
        refine xg_t (xg_getf (va := (0, f3_25)) h3_29 rfl) ?_
        by_cases hc33 : co < f3_25
        · refine xg_t (xg_icF (u := co) (v := f3_25) rfl xnm0 xnm0 (xj_geF hc33 (by omega))) ?_
          refine xg_t (xg_const) ?_
          refine xg_t (xg_goto) ?_
          refine xg_t (xg_blk (b := [(41, 1, 15, 3, 0, 0), (42, 1, 2, 3, 0, 0), (43, 3, 7, 60, 0, 0), (46, 1, 0, 0, 0, 0), (47, 3, 1, 3, 2, 15), (50, 1, 2, 1, 0, 0), (51, 2, 4, 6, 0, 0), (53, 1, 16, 0, 0, 0), (54, 1, 2, 2, 0, 0), (55, 1, 11, 0, 0, 0), (56, 1, 10, 0, 0, 0), (57, 3, 8, 62, 0, 0)]) rfl) ?_
          refine xg_t (xg_istore (l1 := [(0, (2, 68)), (1, (0, ro)), (2, (0, co))]) rfl rfl rfl) ?_
          refine xg_t (xg_iload (va := (0, 1)) rfl rfl) ?_
          refine xg_t (xg_ifF (u := 1) rfl xnm0 (by decide)) ?_
          refine xg_t (xg_aload (va := (2, 68)) rfl rfl) ?_
          refine xg_t (xg_getf (va := (2, 70)) h68_5 rfl) ?_
          refine xg_t (xg_iload (va := (0, ro)) rfl rfl) ?_
          refine xg_t (xg_bip) ?_
          refine xg_t (xg_imul (u := ro) (v := 6) (z := ro * 6) xnm0 xnm0 (by omega)) ?_
          refine xg_t (xg_iload (va := (0, co)) rfl rfl) ?_
          refine xg_t (xg_iadd (u := ro * 6) (v := co) (z := (ro * 6) + co) xnm0 xnm0 (by omega)) ?_
          obtain ⟨g70_34, h70_35, hb36⟩ := (hI 70 (by decide) : cpI 36 41 4294967295 (wget w 70))
          have h70_35 : xRow w 70 36 41 g70_34 := h70_35
          refine xg_ialdB (n := (ro * 6) + co) (B := 4294967295) h70_35 (hb36) xnm0 (by omega) (fun u37 hu38 he39 => ?_)
          refine xg_t (xg_goto) ?_
          refine xg_t (xg_blk (b := [(62, 1, 12, 0, 1, 0)]) rfl) ?_
          exact xg_e ⟨u37, w, ⟨rfl, rfl⟩, by omega, hI, xFr.rf⟩
        · refine xg_t (xg_icT (u := co) (v := f3_25) rfl xnm0 xnm0 (xj_geT (by omega) (by omega))) ?_
          refine xg_t (xg_blk (b := [(40, 1, 3, 0, 0, 0)]) rfl) ?_
          refine xg_t (xg_const) ?_
          refine xg_t (xg_blk (b := [(41, 1, 15, 3, 0, 0), (42, 1, 2, 3, 0, 0), (43, 3, 7, 60, 0, 0), (46, 1, 0, 0, 0, 0), (47, 3, 1, 3, 2, 15), (50, 1, 2, 1, 0, 0), (51, 2, 4, 6, 0, 0), (53, 1, 16, 0, 0, 0), (54, 1, 2, 2, 0, 0), (55, 1, 11, 0, 0, 0), (56, 1, 10, 0, 0, 0), (57, 3, 8, 62, 0, 0)]) rfl) ?_
          refine xg_t (xg_istore (l1 := [(0, (2, 68)), (1, (0, ro)), (2, (0, co))]) rfl rfl rfl) ?_
          refine xg_t (xg_iload (va := (0, 0)) rfl rfl) ?_
          refine xg_t (xg_ifT (u := 0) rfl xnm0 (by decide)) ?_
          refine xg_t (xg_blk (b := [(60, 2, 4, 100, 0, 0)]) rfl) ?_
          refine xg_t (xg_bip) ?_
          refine xg_t (xg_blk (b := [(62, 1, 12, 0, 1, 0)]) rfl) ?_
          exact xg_e ⟨100, w, ⟨rfl, rfl⟩, by omega, hI, xFr.rf⟩
      · refine xg_t (xg_ifT (u := co) rfl xnm0 (xjz_ltT (by omega) (by omega))) ?_
        refine xg_t (xg_blk (b := [(40, 1, 3, 0, 0, 0)]) rfl) ?_
        refine xg_t (xg_const) ?_
        refine xg_t (xg_blk (b := [(41, 1, 15, 3, 0, 0), (42, 1, 2, 3, 0, 0), (43, 3, 7, 60, 0, 0), (46, 1, 0, 0, 0, 0), (47, 3, 1, 3, 2, 15), (50, 1, 2, 1, 0, 0), (51, 2, 4, 6, 0, 0), (53, 1, 16, 0, 0, 0), (54, 1, 2, 2, 0, 0), (55, 1, 11, 0, 0, 0), (56, 1, 10, 0, 0, 0), (57, 3, 8, 62, 0, 0)]) rfl) ?_
        refine xg_t (xg_istore (l1 := [(0, (2, 68)), (1, (0, ro)), (2, (0, co))]) rfl rfl rfl) ?_
        refine xg_t (xg_iload (va := (0, 0)) rfl rfl) ?_
        refine xg_t (xg_ifT (u := 0) rfl xnm0 (by decide)) ?_
        refine xg_t (xg_blk (b := [(60, 2, 4, 100, 0, 0)]) rfl) ?_
        refine xg_t (xg_bip) ?_
        refine xg_t (xg_blk (b := [(62, 1, 12, 0, 1, 0)]) rfl) ?_
        exact xg_e ⟨100, w, ⟨rfl, rfl⟩, by omega, hI, xFr.rf⟩
    · refine xg_t (xg_icT (u := ro) (v := f3_23) rfl xnm0 xnm0 (xj_geT (by omega) (by omega))) ?_
      refine xg_t (xg_blk (b := [(40, 1, 3, 0, 0, 0)]) rfl) ?_
      refine xg_t (xg_const) ?_
      refine xg_t (xg_blk (b := [(41, 1, 15, 3, 0, 0), (42, 1, 2, 3, 0, 0), (43, 3, 7, 60, 0, 0), (46, 1, 0, 0, 0, 0), (47, 3, 1, 3, 2, 15), (50, 1, 2, 1, 0, 0), (51, 2, 4, 6, 0, 0), (53, 1, 16, 0, 0, 0), (54, 1, 2, 2, 0, 0), (55, 1, 11, 0, 0, 0), (56, 1, 10, 0, 0, 0), (57, 3, 8, 62, 0, 0)]) rfl) ?_
      refine xg_t (xg_istore (l1 := [(0, (2, 68)), (1, (0, ro)), (2, (0, co))]) rfl rfl rfl) ?_
      refine xg_t (xg_iload (va := (0, 0)) rfl rfl) ?_
      refine xg_t (xg_ifT (u := 0) rfl xnm0 (by decide)) ?_
      refine xg_t (xg_blk (b := [(60, 2, 4, 100, 0, 0)]) rfl) ?_
      refine xg_t (xg_bip) ?_
      refine xg_t (xg_blk (b := [(62, 1, 12, 0, 1, 0)]) rfl) ?_
      exact xg_e ⟨100, w, ⟨rfl, rfl⟩, by omega, hI, xFr.rf⟩
  · refine xg_t (xg_ifT (u := ro) rfl xnm0 (xjz_ltT (by omega) (by omega))) ?_
    refine xg_t (xg_blk (b := [(40, 1, 3, 0, 0, 0)]) rfl) ?_
    refine xg_t (xg_const) ?_
    refine xg_t (xg_blk (b := [(41, 1, 15, 3, 0, 0), (42, 1, 2, 3, 0, 0), (43, 3, 7, 60, 0, 0), (46, 1, 0, 0, 0, 0), (47, 3, 1, 3, 2, 15), (50, 1, 2, 1, 0, 0), (51, 2, 4, 6, 0, 0), (53, 1, 16, 0, 0, 0), (54, 1, 2, 2, 0, 0), (55, 1, 11, 0, 0, 0), (56, 1, 10, 0, 0, 0), (57, 3, 8, 62, 0, 0)]) rfl) ?_
    refine xg_t (xg_istore (l1 := [(0, (2, 68)), (1, (0, ro)), (2, (0, co))]) rfl rfl rfl) ?_
    refine xg_t (xg_iload (va := (0, 0)) rfl rfl) ?_
    refine xg_t (xg_ifT (u := 0) rfl xnm0 (by decide)) ?_
    refine xg_t (xg_blk (b := [(60, 2, 4, 100, 0, 0)]) rfl) ?_
    refine xg_t (xg_bip) ?_
    refine xg_t (xg_blk (b := [(62, 1, 12, 0, 1, 0)]) rfl) ?_
    exact xg_e ⟨100, w, ⟨rfl, rfl⟩, by omega, hI, xFr.rf⟩
theorem lmAgingIn {ro co : Nat} (hI : xInv w) (hr1 : ro ≤ 5) (hc1 : co ≤ 1000) : xPi d mX3_agingIn [(2, 68), (0, ro), (0, co)] w bd fc rr (fun n w' => (n ≤ 4294967295) ∧ xInv w' ∧ xFr [] w w') := by
  refine xPi.of ?_
  show xTo d mX3_agingIn (0, [], [(0, (2, 68)), (1, (0, ro)), (2, (0, co))], [], (w, bd, fc, 0, 0, rr)) (fun φ => ∃ n w', xEnd 1 [(0, n)] (w', bd, fc, 0, 0, rr) φ ∧ (n ≤ 4294967295) ∧ xInv w' ∧ xFr [] w w')
  obtain ⟨f68_1, f68_3, h68_5, hb2, hb4⟩ := (hI 68 (by decide) : cp68 (wget w 68))
  obtain ⟨f1_6, f1_8, f1_10, f1_12, f1_14, f1_16, h1_18, hb7, hb9, hb11, hb13, hb15, hb17⟩ := (hI 1 (by decide) : cp1 (wget w 1))
  obtain ⟨f3_19, f3_21, f3_23, f3_25, f3_27, h3_29, hb20, hb22, hb24, hb26, hb28⟩ := (hI 3 (by decide) : cp3 (wget w 3))
  refine xg_t (xg_blk (b := [(0, 1, 0, 0, 0, 0), (1, 3, 1, 3, 0, 21), (4, 3, 1, 9, 4, 66), (7, 3, 1, 1, 8, 73), (10, 1, 15, 3, 0, 0), (11, 1, 2, 3, 0, 0), (12, 3, 7, 19, 1, 0), (15, 1, 3, 0, 0, 0), (16, 3, 8, 32, 0, 0)]) rfl) ?_
  refine xg_t (xg_aload (va := (2, 68)) rfl rfl) ?_
  refine xg_t (xg_getf (va := (2, 1)) h68_5 rfl) ?_
  refine xg_t (xg_getf (va := (2, 3)) h1_18 rfl) ?_
  refine xg_t (xg_getf (va := (0, f3_25)) h3_29 rfl) ?_
  refine xg_t (xg_istore (l1 := [(0, (2, 68)), (1, (0, ro)), (2, (0, co))]) rfl rfl rfl) ?_
  refine xg_t (xg_iload (va := (0, f3_25)) rfl rfl) ?_
  by_cases hc30 : f3_25 = 0
  · refine xg_t (xg_ifF (u := f3_25) rfl xnm0 (xj_neF hc30)) ?_
    refine xg_t (xg_const) ?_
    refine xg_t (xg_goto) ?_
    refine xg_t (xg_blk (b := [(32, 1, 12, 0, 1, 0)]) rfl) ?_
    exact xg_e ⟨0, w, ⟨rfl, rfl⟩, by omega, hI, xFr.rf⟩
  · refine xg_t (xg_ifT (u := f3_25) rfl xnm0 (xj_neT hc30)) ?_
    refine xg_t (xg_blk (b := [(19, 1, 0, 0, 0, 0), (20, 3, 1, 3, 1, 9), (23, 1, 2, 1, 0, 0), (24, 2, 4, 6, 0, 0), (26, 1, 16, 0, 0, 0), (27, 1, 2, 2, 0, 0), (28, 1, 2, 3, 0, 0), (29, 1, 21, 0, 0, 0), (30, 1, 11, 0, 0, 0), (31, 1, 10, 0, 0, 0)]) rfl) ?_
    refine xg_t (xg_aload (va := (2, 68)) rfl rfl) ?_
    refine xg_t (xg_getf (va := (2, 69)) h68_5 rfl) ?_
    refine xg_t (xg_iload (va := (0, ro)) rfl rfl) ?_
    refine xg_t (xg_bip) ?_
    refine xg_t (xg_imul (u := ro) (v := 6) (z := ro * 6) xnm0 xnm0 (by omega)) ?_
    refine xg_t (xg_iload (va := (0, co)) rfl rfl) ?_
    refine xg_t (xg_iload (va := (0, f3_25)) rfl rfl) ?_
    have hm31 := Nat.mod_lt co (show 0 < f3_25 by omega)
    refine xg_t (xg_irem (u := co) (v := f3_25) (z := co % f3_25) xnm0 xnm0 (by omega) (by omega) (by omega) (rfl)) ?_
    refine xg_t (xg_iadd (u := ro * 6) (v := co % f3_25) (z := (ro * 6) + (co % f3_25)) xnm0 xnm0 (by omega)) ?_
    obtain ⟨g69_32, h69_33, hb34⟩ := (hI 69 (by decide) : cpI 36 40 4294967295 (wget w 69))
    have h69_33 : xRow w 69 36 40 g69_32 := h69_33
    refine xg_ialdB (n := (ro * 6) + (co % f3_25)) (B := 4294967295) h69_33 (hb34) xnm0 (by omega) (fun u35 hu36 he37 => ?_)
    refine xg_t (xg_blk (b := [(32, 1, 12, 0, 1, 0)]) rfl) ?_
    exact xg_e ⟨u35, w, ⟨rfl, rfl⟩, by omega, hI, xFr.rf⟩
theorem lmAddPicture {kk : Nat} (hI : xInv w) (hk1 : kk ≤ 4294967295) : xPq (d + 2) mX3_addPicture [(2, 68), (0, kk)] w bd fc rr [] (fun w' => xInv w' ∧ xFr [69] w w') := by
  refine xPq.of ?_
  show xTo (d + 2) mX3_addPicture (0, [], [(0, (2, 68)), (1, (0, kk))], [], (w, bd, fc, 0, 0, rr)) (fun φ => ∃ w', xEnd 0 [] (w', bd, fc, 0, 0, rr) φ ∧ xInv w' ∧ xFr [69] w w')
  obtain ⟨f68_1, f68_3, h68_5, hb2, hb4⟩ := (hI 68 (by decide) : cp68 (wget w 68))
  obtain ⟨f1_6, f1_8, f1_10, f1_12, f1_14, f1_16, h1_18, hb7, hb9, hb11, hb13, hb15, hb17⟩ := (hI 1 (by decide) : cp1 (wget w 1))
  obtain ⟨f16_19, h16_21, hb20⟩ := (hI 16 (by decide) : cp16 (wget w 16))
  obtain ⟨g17_22, h17_23, hb24⟩ := (hI 17 (by decide) : cpI 60 7 4294967295 (wget w 17))
  have h17_23 : xRow w 17 60 7 g17_22 := h17_23
  refine xg_t (xg_blk (b := [(0, 1, 0, 0, 0, 0), (1, 3, 1, 3, 0, 21), (4, 3, 1, 9, 8, 38), (7, 1, 2, 1, 0, 0), (8, 1, 3, 1, 0, 0), (9, 3, 13, 285, 40, 54), (12, 1, 3, 5, 0, 0), (13, 3, 63, 0, 0, 58), (16, 1, 15, 2, 0, 0), (17, 1, 0, 0, 0, 0), (18, 3, 1, 3, 0, 21), (21, 3, 1, 9, 8, 38), (24, 1, 2, 1, 0, 0), (25, 1, 3, 3, 0, 0), (26, 3, 13, 285, 40, 54), (29, 1, 3, 5, 0, 0), (30, 3, 63, 0, 0, 58), (33, 1, 15, 3, 0, 0), (34, 1, 0, 0, 0, 0), (35, 3, 1, 3, 0, 21), (38, 3, 1, 9, 8, 38), (41, 1, 2, 1, 0, 0), (42, 1, 3, 4, 0, 0), (43, 3, 13, 285, 40, 54), (46, 2, 15, 4, 0, 0), (48, 1, 0, 0, 0, 0), (49, 3, 1, 3, 0, 21), (52, 3, 1, 9, 8, 38), (55, 1, 2, 1, 0, 0), (56, 1, 3, 0, 0, 0), (57, 3, 13, 285, 40, 54), (60, 1, 3, 0, 0, 0), (61, 3, 62, 0, 0, 63), (64, 2, 15, 5, 0, 0)]) rfl) ?_
  refine xg_t (xg_aload (va := (2, 68)) rfl rfl) ?_
  refine xg_t (xg_getf (va := (2, 1)) h68_5 rfl) ?_
  refine xg_t (xg_getf (va := (2, 16)) h1_18 rfl) ?_
  refine xg_t (xg_iload (va := (0, kk)) rfl rfl) ?_
  refine xg_t (xg_const) ?_
  refine xg_k (xg_cVr mX5_get (vs := [(0, kk), (0, 1)]) (rest := []) (rs := [(0, if kk < f16_19 ∧ 1 < 5 then g17_22 (kk * 5 + 1) else 4294967295)]) (cn1 := 0) (sl1 := 0) rfl (rget_ok (lim := 12) (wd := 5) (sz := f16_19) h16_21 h17_23 (by decide) (by omega) (by decide) (by decide) (by omega) (by omega)) rfl h16_21 rfl rfl rfl rfl rfl rfl rfl) (xiteb (hb24)) (fun z25 hz26 => ?_)
  refine xg_t (xg_const) ?_
  refine xg_minK (u := z25) (v := 5) xnm0 xnm0 xmx_ok (by omega) (by omega) (fun z27 hz28 hz29 hz30 hz31 => ?_)
  unfold xbs at hz29 hz30
  refine xg_t (xg_istore (l1 := [(0, (2, 68)), (1, (0, kk))]) rfl rfl rfl) ?_
  refine xg_t (xg_aload (va := (2, 68)) rfl rfl) ?_
  refine xg_t (xg_getf (va := (2, 1)) h68_5 rfl) ?_
  refine xg_t (xg_getf (va := (2, 16)) h1_18 rfl) ?_
  refine xg_t (xg_iload (va := (0, kk)) rfl rfl) ?_
  refine xg_t (xg_const) ?_
  refine xg_k (xg_cVr mX5_get (vs := [(0, kk), (0, 3)]) (rest := []) (rs := [(0, if kk < f16_19 ∧ 3 < 5 then g17_22 (kk * 5 + 3) else 4294967295)]) (cn1 := 0) (sl1 := 0) rfl (rget_ok (lim := 12) (wd := 5) (sz := f16_19) h16_21 h17_23 (by decide) (by omega) (by decide) (by decide) (by omega) (by omega)) rfl h16_21 rfl rfl rfl rfl rfl rfl rfl) (xiteb (hb24)) (fun z32 hz33 => ?_)
  refine xg_t (xg_const) ?_
  refine xg_minK (u := z32) (v := 5) xnm0 xnm0 xmx_ok (by omega) (by omega) (fun z34 hz35 hz36 hz37 hz38 => ?_)
  unfold xbs at hz36 hz37
  refine xg_t (xg_istore (l1 := [(2, (0, z27)), (0, (2, 68)), (1, (0, kk))]) rfl rfl rfl) ?_
  refine xg_t (xg_aload (va := (2, 68)) rfl rfl) ?_
  refine xg_t (xg_getf (va := (2, 1)) h68_5 rfl) ?_
  refine xg_t (xg_getf (va := (2, 16)) h1_18 rfl) ?_
  refine xg_t (xg_iload (va := (0, kk)) rfl rfl) ?_
  refine xg_t (xg_const) ?_
  refine xg_k (xg_cVr mX5_get (vs := [(0, kk), (0, 4)]) (rest := []) (rs := [(0, if kk < f16_19 ∧ 4 < 5 then g17_22 (kk * 5 + 4) else 4294967295)]) (cn1 := 0) (sl1 := 0) rfl (rget_ok (lim := 12) (wd := 5) (sz := f16_19) h16_21 h17_23 (by decide) (by omega) (by decide) (by decide) (by omega) (by omega)) rfl h16_21 rfl rfl rfl rfl rfl rfl rfl) (xiteb (hb24)) (fun z39 hz40 => ?_)
  refine xg_t (xg_istore (l1 := [(3, (0, z34)), (2, (0, z27)), (0, (2, 68)), (1, (0, kk))]) rfl rfl rfl) ?_
  refine xg_t (xg_aload (va := (2, 68)) rfl rfl) ?_
  refine xg_t (xg_getf (va := (2, 1)) h68_5 rfl) ?_
  refine xg_t (xg_getf (va := (2, 16)) h1_18 rfl) ?_
  refine xg_t (xg_iload (va := (0, kk)) rfl rfl) ?_
  refine xg_t (xg_const) ?_
  refine xg_k (xg_cVr mX5_get (vs := [(0, kk), (0, 0)]) (rest := []) (rs := [(0, if kk < f16_19 ∧ 0 < 5 then g17_22 (kk * 5 + 0) else 4294967295)]) (cn1 := 0) (sl1 := 0) rfl (rget_ok (lim := 12) (wd := 5) (sz := f16_19) h16_21 h17_23 (by decide) (by omega) (by decide) (by decide) (by omega) (by omega)) rfl h16_21 rfl rfl rfl rfl rfl rfl rfl) (xiteb (hb24)) (fun z41 hz42 => ?_)
  refine xg_t (xg_const) ?_
  refine xg_maxK (u := z41) (v := 0) xnm0 xnm0 xmx_ok (by omega) (by omega) (fun z43 hz44 hz45 hz46 hz47 => ?_)
  unfold xbs at hz45 hz46
  refine xg_t (xg_istore (l1 := [(4, (0, z39)), (3, (0, z34)), (2, (0, z27)), (0, (2, 68)), (1, (0, kk))]) rfl rfl rfl) ?_
  refine xg_t (xg_drop (l1 := [(0, (2, 68)), (1, (0, kk)), (2, (0, z27)), (3, (0, z34)), (4, (0, z39)), (5, (0, z43))]) (List.forall_mem_cons.mpr ⟨List.mem_cons_of_mem _ (List.mem_cons_of_mem _ (List.mem_cons_of_mem _ (List.mem_cons_of_mem _ (List.mem_cons_self)))), List.forall_mem_cons.mpr ⟨List.mem_cons_of_mem _ (List.mem_cons_of_mem _ (List.mem_cons_of_mem _ (List.mem_cons_of_mem _ (List.mem_cons_of_mem _ (List.mem_cons_self))))), List.forall_mem_cons.mpr ⟨List.mem_cons_of_mem _ (List.mem_cons_of_mem _ (List.mem_cons_of_mem _ (List.mem_cons_self))), List.forall_mem_cons.mpr ⟨List.mem_cons_of_mem _ (List.mem_cons_of_mem _ (List.mem_cons_self)), List.forall_mem_cons.mpr ⟨List.mem_cons_of_mem _ (List.mem_cons_self), List.forall_mem_cons.mpr ⟨List.mem_cons_self, fun _ h => absurd h List.not_mem_nil⟩⟩⟩⟩⟩⟩)) ?_
  have key48 : ∀ (m50 : Nat) (ro : Nat) (w51 : List (List xE)), 6 - ro < m50 → ro ≤ 2147483647 → xInv w51 → xFr [69] w w51 → xTo (d + 2) mX3_addPicture (66, [], [(0, (2, 68)), (1, (0, kk)), (2, (0, z27)), (3, (0, z34)), (4, (0, z39)), (5, (0, ro))], [], (w51, bd, fc, 0, 0, rr)) (fun φ => ∃ w', xEnd 0 [] (w', bd, fc, 0, 0, rr) φ ∧ xInv w' ∧ xFr [69] w w') := by
    intro m50
    induction m50 with
    | zero => intro ro w51 hz; exact absurd hz (Nat.not_lt_zero _)
    | succ m50 ih49 =>
      intro ro w51 hm55 hn54 hI52 hF53
      refine xg_t (xg_blk (b := [(66, 2, 2, 5, 0, 0), (68, 1, 2, 2, 0, 0), (69, 3, 6, 126, 4, 0), (72, 1, 0, 0, 0, 0), (73, 3, 1, 3, 0, 21), (76, 3, 1, 9, 8, 38), (79, 1, 2, 1, 0, 0), (80, 1, 3, 2, 0, 0), (81, 3, 13, 285, 40, 54), (84, 1, 3, 0, 0, 0), (85, 3, 62, 0, 0, 63), (88, 2, 15, 6, 0, 0)]) rfl) ?_
      refine xg_t (xg_iload (va := (0, ro)) rfl rfl) ?_
      refine xg_t (xg_iload (va := (0, z27)) rfl rfl) ?_
      by_cases hc56 : xbs z27 < xbs ro
      · have hc56u := hc56
        unfold xbs at hc56u
        have hn57 : ro ≤ 2147483647 := by omega
        refine xg_t (xg_icT (u := ro) (v := z27) rfl xnm0 xnm0 (xjs_gtT hc56)) ?_
        refine xg_t (xg_blk (b := [(126, 1, 12, 0, 0, 0)]) rfl) ?_
        exact xg_e ⟨w51, ⟨rfl, rfl⟩, hI52, hF53⟩
      · have hc56u := hc56
        unfold xbs at hc56u
        have hn58 : z27 ≤ 5 := by omega
        have hn59 : ro ≤ 5 := by omega
        refine xg_t (xg_icF (u := ro) (v := z27) rfl xnm0 xnm0 (xjs_gtF hc56)) ?_
        refine xg_t (xg_aload (va := (2, 68)) rfl rfl) ?_
        refine xg_t (xg_getf (va := (2, 1)) (hF53.get (by decide) h68_5) rfl) ?_
        refine xg_t (xg_getf (va := (2, 16)) (hF53.get (by decide) h1_18) rfl) ?_
        refine xg_t (xg_iload (va := (0, kk)) rfl rfl) ?_
        refine xg_t (xg_const) ?_
        refine xg_k (xg_cVr mX5_get (vs := [(0, kk), (0, 2)]) (rest := []) (rs := [(0, if kk < f16_19 ∧ 2 < 5 then g17_22 (kk * 5 + 2) else 4294967295)]) (cn1 := 0) (sl1 := 0) rfl (rget_ok (lim := 12) (wd := 5) (sz := f16_19) (hF53.get (by decide) h16_21) (h17_23.fr hF53 (by decide)) (by decide) (by omega) (by decide) (by decide) (by omega) (by omega)) rfl (hF53.get (by decide) h16_21) rfl rfl rfl rfl rfl rfl rfl) (xiteb (hb24)) (fun z60 hz61 => ?_)
        refine xg_t (xg_const) ?_
        refine xg_maxK (u := z60) (v := 0) xnm0 xnm0 xmx_ok (by omega) (by omega) (fun z62 hz63 hz64 hz65 hz66 => ?_)
        unfold xbs at hz64 hz65
        refine xg_t (xg_istore (l1 := [(0, (2, 68)), (1, (0, kk)), (2, (0, z27)), (3, (0, z34)), (4, (0, z39)), (5, (0, ro))]) rfl rfl rfl) ?_
        refine xg_t (xg_drop (l1 := [(0, (2, 68)), (1, (0, kk)), (2, (0, z27)), (3, (0, z34)), (4, (0, z39)), (5, (0, ro)), (6, (0, z62))]) (List.forall_mem_cons.mpr ⟨List.mem_cons_of_mem _ (List.mem_cons_self), List.forall_mem_cons.mpr ⟨List.mem_cons_of_mem _ (List.mem_cons_of_mem _ (List.mem_cons_self)), List.forall_mem_cons.mpr ⟨List.mem_cons_of_mem _ (List.mem_cons_of_mem _ (List.mem_cons_of_mem _ (List.mem_cons_self))), List.forall_mem_cons.mpr ⟨List.mem_cons_of_mem _ (List.mem_cons_of_mem _ (List.mem_cons_of_mem _ (List.mem_cons_of_mem _ (List.mem_cons_self)))), List.forall_mem_cons.mpr ⟨List.mem_cons_of_mem _ (List.mem_cons_of_mem _ (List.mem_cons_of_mem _ (List.mem_cons_of_mem _ (List.mem_cons_of_mem _ (List.mem_cons_self))))), List.forall_mem_cons.mpr ⟨List.mem_cons_of_mem _ (List.mem_cons_of_mem _ (List.mem_cons_of_mem _ (List.mem_cons_of_mem _ (List.mem_cons_of_mem _ (List.mem_cons_of_mem _ (List.mem_cons_self)))))), List.forall_mem_cons.mpr ⟨List.mem_cons_self, fun _ h => absurd h List.not_mem_nil⟩⟩⟩⟩⟩⟩⟩)) ?_
        have key67 : ∀ (m69 : Nat) (co : Nat) (w70 : List (List xE)), 6 - co < m69 → co ≤ 2147483647 → xInv w70 → xFr [69] w w70 → xTo (d + 2) mX3_addPicture (90, [], [(0, (2, 68)), (1, (0, kk)), (2, (0, z27)), (3, (0, z34)), (4, (0, z39)), (5, (0, ro)), (6, (0, co))], [], (w70, bd, fc, 0, 0, rr)) (fun φ => ∃ w', xEnd 0 [] (w', bd, fc, 0, 0, rr) φ ∧ xInv w' ∧ xFr [69] w w') := by
          intro m69
          induction m69 with
          | zero => intro co w70 hz; exact absurd hz (Nat.not_lt_zero _)
          | succ m69 ih68 =>
            intro co w70 hm74 hn73 hI71 hF72
            refine xg_t (xg_blk (b := [(90, 2, 2, 6, 0, 0), (92, 1, 2, 3, 0, 0), (93, 3, 6, 120, 4, 0), (96, 1, 0, 0, 0, 0), (97, 3, 1, 3, 1, 9), (100, 2, 2, 5, 0, 0), (102, 2, 4, 6, 0, 0), (104, 1, 16, 0, 0, 0), (105, 2, 2, 6, 0, 0), (107, 1, 11, 0, 0, 0), (108, 1, 39, 0, 0, 0), (109, 1, 10, 0, 0, 0), (110, 2, 2, 4, 0, 0), (112, 1, 11, 0, 0, 0), (113, 1, 17, 0, 0, 0), (114, 3, 9, 6, 1, 0), (117, 3, 8, 90, 0, 0)]) rfl) ?_
            refine xg_t (xg_iload (va := (0, co)) rfl rfl) ?_
            refine xg_t (xg_iload (va := (0, z34)) rfl rfl) ?_
            by_cases hc75 : xbs z34 < xbs co
            · have hc75u := hc75
              unfold xbs at hc75u
              have hn76 : co ≤ 2147483647 := by omega
              refine xg_t (xg_icT (u := co) (v := z34) rfl xnm0 xnm0 (xjs_gtT hc75)) ?_
              refine xg_t (xg_blk (b := [(120, 3, 9, 5, 1, 0), (123, 3, 8, 66, 0, 0)]) rfl) ?_
              refine xg_t (xg_iinc (u := ro) (z := ro + 1) (l1 := [(0, (2, 68)), (1, (0, kk)), (2, (0, z27)), (3, (0, z34)), (4, (0, z39)), (6, (0, co))]) rfl rfl (by omega) rfl) ?_
              refine xg_t (xg_goto) ?_
              refine xg_t (xg_drop (l1 := [(0, (2, 68)), (1, (0, kk)), (2, (0, z27)), (3, (0, z34)), (4, (0, z39)), (5, (0, ro + 1))]) (List.forall_mem_cons.mpr ⟨List.mem_cons_of_mem _ (List.mem_cons_self), List.forall_mem_cons.mpr ⟨List.mem_cons_of_mem _ (List.mem_cons_of_mem _ (List.mem_cons_self)), List.forall_mem_cons.mpr ⟨List.mem_cons_of_mem _ (List.mem_cons_of_mem _ (List.mem_cons_of_mem _ (List.mem_cons_self))), List.forall_mem_cons.mpr ⟨List.mem_cons_of_mem _ (List.mem_cons_of_mem _ (List.mem_cons_of_mem _ (List.mem_cons_of_mem _ (List.mem_cons_self)))), List.forall_mem_cons.mpr ⟨List.mem_cons_of_mem _ (List.mem_cons_of_mem _ (List.mem_cons_of_mem _ (List.mem_cons_of_mem _ (List.mem_cons_of_mem _ (List.mem_cons_self))))), List.forall_mem_cons.mpr ⟨List.mem_cons_self, fun _ h => absurd h List.not_mem_nil⟩⟩⟩⟩⟩⟩)) ?_
              exact ih49 (ro + 1) w70 (by omega) (by omega) (hI71) (hF72)
            · have hc75u := hc75
              unfold xbs at hc75u
              have hn77 : z34 ≤ 5 := by omega
              have hn78 : co ≤ 5 := by omega
              refine xg_t (xg_icF (u := co) (v := z34) rfl xnm0 xnm0 (xjs_gtF hc75)) ?_
              refine xg_t (xg_aload (va := (2, 68)) rfl rfl) ?_
              refine xg_t (xg_getf (va := (2, 69)) (hF72.get (by decide) h68_5) rfl) ?_
              refine xg_t (xg_iload (va := (0, ro)) rfl rfl) ?_
              refine xg_t (xg_bip) ?_
              refine xg_t (xg_imul (u := ro) (v := 6) (z := ro * 6) xnm0 xnm0 (by omega)) ?_
              refine xg_t (xg_iload (va := (0, co)) rfl rfl) ?_
              refine xg_t (xg_iadd (u := ro * 6) (v := co) (z := (ro * 6) + co) xnm0 xnm0 (by omega)) ?_
              refine xg_t (xg_dup2 rfl) ?_
              obtain ⟨g69_79, h69_80, hb81⟩ := (hI71 69 (by decide) : cpI 36 40 4294967295 (wget w70 69))
              have h69_80 : xRow w70 69 36 40 g69_79 := h69_80
              refine xg_ialdB (n := (ro * 6) + co) (B := 4294967295) h69_80 (hb81) xnm0 (by omega) (fun u82 hu83 he84 => ?_)
              refine xg_t (xg_iload (va := (0, z39)) rfl rfl) ?_
              refine xg_k (xg_iadd (u := u82) (v := z39) (z := (u82 + z39) % 4294967296) xnm0 xnm0 rfl) (Nat.mod_lt _ (by decide)) (fun z85 hz86 => ?_)
              refine xg_iastK (n := (ro * 6) + co) (u := z85) h69_80 xnm0 xnm0 rfl (by omega) (fun w87 hr88 hb89 => ?_)
              refine xg_t (xg_iinc (u := co) (z := co + 1) (l1 := [(0, (2, 68)), (1, (0, kk)), (2, (0, z27)), (3, (0, z34)), (4, (0, z39)), (5, (0, ro))]) rfl rfl (by omega) rfl) ?_
              refine xg_t (xg_goto) ?_
              refine xg_t (xg_drop (l1 := [(0, (2, 68)), (1, (0, kk)), (2, (0, z27)), (3, (0, z34)), (4, (0, z39)), (5, (0, ro)), (6, (0, co + 1))]) (List.forall_mem_cons.mpr ⟨List.mem_cons_of_mem _ (List.mem_cons_self), List.forall_mem_cons.mpr ⟨List.mem_cons_of_mem _ (List.mem_cons_of_mem _ (List.mem_cons_self)), List.forall_mem_cons.mpr ⟨List.mem_cons_of_mem _ (List.mem_cons_of_mem _ (List.mem_cons_of_mem _ (List.mem_cons_self))), List.forall_mem_cons.mpr ⟨List.mem_cons_of_mem _ (List.mem_cons_of_mem _ (List.mem_cons_of_mem _ (List.mem_cons_of_mem _ (List.mem_cons_self)))), List.forall_mem_cons.mpr ⟨List.mem_cons_of_mem _ (List.mem_cons_of_mem _ (List.mem_cons_of_mem _ (List.mem_cons_of_mem _ (List.mem_cons_of_mem _ (List.mem_cons_self))))), List.forall_mem_cons.mpr ⟨List.mem_cons_of_mem _ (List.mem_cons_of_mem _ (List.mem_cons_of_mem _ (List.mem_cons_of_mem _ (List.mem_cons_of_mem _ (List.mem_cons_of_mem _ (List.mem_cons_self)))))), List.forall_mem_cons.mpr ⟨List.mem_cons_self, fun _ h => absurd h List.not_mem_nil⟩⟩⟩⟩⟩⟩⟩)) ?_
              exact ih68 (co + 1) w87 (by omega) (by omega) (xInv.up (S := [69]) hI71 (xFr.of (S := [69]) hb89 (by decide)) (List.forall_mem_cons.mpr ⟨(show cpI 36 40 4294967295 (wget w87 69) from ⟨_, hr88, xrb (by omega) (hb81)⟩), fun _ h => absurd h List.not_mem_nil⟩)) ((hF72.tr (xFr.of (S := [69]) hb89 (by decide))))
        exact key67 _ z62 w51 (Nat.lt_succ_self _) (by omega) (hI52) (hF53)
  exact key48 _ z43 w (Nat.lt_succ_self _) (by omega) (hI) (xFr.rf)
theorem lmRefreshAges (hI : xInv w)  : xPq (d + 3) mX3_refreshAges [(2, 68)] w bd fc rr [] (fun w' => xInv w' ∧ xFr [68, 69] w w') := by
  refine xPq.of ?_
  show xTo (d + 3) mX3_refreshAges (0, [], [(0, (2, 68))], [], (w, bd, fc, 0, 0, rr)) (fun φ => ∃ w', xEnd 0 [] (w', bd, fc, 0, 0, rr) φ ∧ xInv w' ∧ xFr [68, 69] w w')
  obtain ⟨f68_1, f68_3, h68_5, hb2, hb4⟩ := (hI 68 (by decide) : cp68 (wget w 68))
  obtain ⟨f1_6, f1_8, f1_10, f1_12, f1_14, f1_16, h1_18, hb7, hb9, hb11, hb13, hb15, hb17⟩ := (hI 1 (by decide) : cp1 (wget w 1))
  obtain ⟨f16_19, h16_21, hb20⟩ := (hI 16 (by decide) : cp16 (wget w 16))
  obtain ⟨g17_22, h17_23, hb24⟩ := (hI 17 (by decide) : cpI 60 7 4294967295 (wget w 17))
  have h17_23 : xRow w 17 60 7 g17_22 := h17_23
  refine xg_t (xg_blk (b := [(0, 1, 0, 0, 0, 0), (1, 3, 1, 3, 4, 25), (4, 3, 7, 8, 0, 0), (7, 1, 12, 0, 0, 0)]) rfl) ?_
  refine xg_t (xg_aload (va := (2, 68)) rfl rfl) ?_
  refine xg_t (xg_getf (va := (0, f68_1)) h68_5 rfl) ?_
  by_cases hc25 : f68_1 = 0
  · refine xg_t (xg_ifT (u := f68_1) rfl xnm0 (xj_eqT hc25)) ?_
    refine xg_t (xg_blk (b := [(8, 1, 0, 0, 0, 0), (9, 3, 1, 3, 1, 9), (12, 1, 3, 0, 0, 0), (13, 3, 13, 1, 2, 32), (16, 1, 3, 0, 0, 0), (17, 1, 15, 1, 0, 0)]) rfl) ?_
    refine xg_t (xg_aload (va := (2, 68)) rfl rfl) ?_
    refine xg_t (xg_getf (va := (2, 69)) h68_5 rfl) ?_
    refine xg_t (xg_const) ?_
    obtain ⟨g69_26, h69_27, hb28⟩ := (hI 69 (by decide) : cpI 36 40 4294967295 (wget w 69))
    have h69_27 : xRow w 69 36 40 g69_26 := h69_27
    refine xg_cS mJ7_fill_53178 (vs := [(2, 69), (0, 0)]) (rest := []) (rs := []) (cn1 := 0) (sl1 := 0) rfl (fillI (v := 0) h69_27 (by decide)) rfl rfl rfl rfl rfl rfl rfl rfl (fun w29 hq30 => ?_)
    refine xg_t (xg_const) ?_
    refine xg_t (xg_istore (l1 := [(0, (2, 68))]) rfl rfl rfl) ?_
    refine xg_t (xg_drop (l1 := [(0, (2, 68)), (1, (0, 0))]) (List.forall_mem_cons.mpr ⟨List.mem_cons_of_mem _ (List.mem_cons_self), List.forall_mem_cons.mpr ⟨List.mem_cons_self, fun _ h => absurd h List.not_mem_nil⟩⟩)) ?_
    have key31 : ∀ (m33 : Nat) (ki : Nat) (w34 : List (List xE)), 12 - ki < m33 → ki ≤ 12 → xInv w34 → xFr [68, 69] w w34 → xTo (d + 3) mX3_refreshAges (18, [], [(0, (2, 68)), (1, (0, ki))], [], (w34, bd, fc, 0, 0, rr)) (fun φ => ∃ w', xEnd 0 [] (w', bd, fc, 0, 0, rr) φ ∧ xInv w' ∧ xFr [68, 69] w w') := by
      intro m33
      induction m33 with
      | zero => intro ki w34 hz; exact absurd hz (Nat.not_lt_zero _)
      | succ m33 ih32 =>
        intro ki w34 hm38 hn37 hI35 hF36
        refine xg_t (xg_blk (b := [(18, 1, 2, 1, 0, 0), (19, 1, 0, 0, 0, 0), (20, 3, 1, 3, 0, 21), (23, 3, 1, 9, 8, 38), (26, 3, 1, 5, 3, 44), (29, 3, 6, 43, 3, 0), (32, 1, 0, 0, 0, 0), (33, 1, 2, 1, 0, 0), (34, 3, 13, 255, 24, 50), (37, 3, 9, 1, 1, 0), (40, 3, 8, 18, 0, 0)]) rfl) ?_
        refine xg_t (xg_iload (va := (0, ki)) rfl rfl) ?_
        refine xg_t (xg_aload (va := (2, 68)) rfl rfl) ?_
        obtain ⟨f68_39, f68_41, h68_43, hb40, hb42⟩ := (hI35 68 (by decide) : cp68 (wget w34 68))
        refine xg_t (xg_getf (va := (2, 1)) h68_43 rfl) ?_
        refine xg_t (xg_getf (va := (2, 16)) (hF36.get (by decide) h1_18) rfl) ?_
        refine xg_t (xg_getf (va := (0, f16_19)) (hF36.get (by decide) h16_21) rfl) ?_
        by_cases hc44 : ki < f16_19
        · refine xg_t (xg_icF (u := ki) (v := f16_19) rfl xnm0 xnm0 (xj_geF hc44 (by omega))) ?_
          refine xg_t (xg_aload (va := (2, 68)) rfl rfl) ?_
          refine xg_t (xg_iload (va := (0, ki)) rfl rfl) ?_
          refine xg_cVv mX3_addPicture (vs := [(0, ki)]) (rest := []) (cn1 := 0) (sl1 := 0) rfl (lmAddPicture (hI35) (by omega)) rfl h68_43 rfl rfl rfl rfl rfl rfl (fun w45 hq46 => ?_)
          obtain ⟨hI47, hF48⟩ := hq46
          refine xg_t (xg_iinc (u := ki) (z := ki + 1) (l1 := [(0, (2, 68))]) rfl rfl (by omega) rfl) ?_
          refine xg_t (xg_goto) ?_
          refine xg_t (xg_drop (l1 := [(0, (2, 68)), (1, (0, ki + 1))]) (List.forall_mem_cons.mpr ⟨List.mem_cons_of_mem _ (List.mem_cons_self), List.forall_mem_cons.mpr ⟨List.mem_cons_self, fun _ h => absurd h List.not_mem_nil⟩⟩)) ?_
          exact ih32 (ki + 1) w45 (by omega) (by omega) (hI47) ((hF36.tr (hF48.up (by decide))))
        · refine xg_t (xg_icT (u := ki) (v := f16_19) rfl xnm0 xnm0 (xj_geT (by omega) (by omega))) ?_
          refine xg_t (xg_blk (b := [(43, 1, 0, 0, 0, 0), (44, 1, 3, 1, 0, 0), (45, 3, 59, 3, 4, 25), (48, 1, 12, 0, 0, 0)]) rfl) ?_
          refine xg_t (xg_aload (va := (2, 68)) rfl rfl) ?_
          refine xg_t (xg_const) ?_
          refine xg_putZ (fl1 := [(2, 1), (2, 69), (2, 70), (2, 71), (0, 1), (0, f68_41)]) h68_43 rfl rfl rfl (fun w49 hk50 hb51 => ?_)
          exact xg_e ⟨w49, ⟨rfl, rfl⟩, xInv.up (S := [68]) hI35 (xFr.of (S := [68]) hb51 (by decide)) (List.forall_mem_cons.mpr ⟨(show cp68 (wget w49 68) from ⟨1, f68_41, hk50, by omega, by omega⟩), fun _ h => absurd h List.not_mem_nil⟩), (hF36.tr (xFr.of (S := [68, 69]) hb51 (by decide)))⟩
    exact key31 _ 0 w29 (Nat.lt_succ_self _) (by omega) (xInv.up (S := [69]) hI (xFr.of (S := [69]) hq30.2 (by decide)) (List.forall_mem_cons.mpr ⟨(show cpI 36 40 4294967295 (wget w29 69) from ⟨_, hq30.1, fun _ => (by omega : 0 ≤ 4294967295)⟩), fun _ h => absurd h List.not_mem_nil⟩)) ((xFr.of (S := [68, 69]) hq30.2 (by decide)))
  · refine xg_t (xg_ifF (u := f68_1) rfl xnm0 (xj_eqF hc25)) ?_
    exact xg_e ⟨w, ⟨rfl, rfl⟩, hI, xFr.rf⟩
theorem lmCreepOn (hI : xInv w)  : xPi (d + 1) mX3_creepOn [(2, 68)] w bd fc rr (fun n w' => (n ≤ 1) ∧ xInv w' ∧ xFr [70, 71] w w') := by
  refine xPi.of ?_
  show xTo (d + 1) mX3_creepOn (0, [], [(0, (2, 68))], [], (w, bd, fc, 0, 0, rr)) (fun φ => ∃ n w', xEnd 4 [(0, n)] (w', bd, fc, 0, 0, rr) φ ∧ (n ≤ 1) ∧ xInv w' ∧ xFr [70, 71] w w')
  obtain ⟨f68_1, f68_3, h68_5, hb2, hb4⟩ := (hI 68 (by decide) : cp68 (wget w 68))
  obtain ⟨f1_6, f1_8, f1_10, f1_12, f1_14, f1_16, h1_18, hb7, hb9, hb11, hb13, hb15, hb17⟩ := (hI 1 (by decide) : cp1 (wget w 1))
  obtain ⟨f3_19, f3_21, f3_23, f3_25, f3_27, h3_29, hb20, hb22, hb24, hb26, hb28⟩ := (hI 3 (by decide) : cp3 (wget w 3))
  refine xg_t (xg_blk (b := [(0, 1, 3, 0, 0, 0), (1, 1, 15, 1, 0, 0), (2, 1, 3, 0, 0, 0), (3, 1, 15, 2, 0, 0)]) rfl) ?_
  refine xg_t (xg_const) ?_
  refine xg_t (xg_istore (l1 := [(0, (2, 68))]) rfl rfl rfl) ?_
  refine xg_t (xg_const) ?_
  refine xg_t (xg_istore (l1 := [(1, (0, 0)), (0, (2, 68))]) rfl rfl rfl) ?_
  refine xg_t (xg_drop (l1 := [(0, (2, 68)), (1, (0, 0)), (2, (0, 0))]) (List.forall_mem_cons.mpr ⟨List.mem_cons_of_mem _ (List.mem_cons_of_mem _ (List.mem_cons_self)), List.forall_mem_cons.mpr ⟨List.mem_cons_of_mem _ (List.mem_cons_self), List.forall_mem_cons.mpr ⟨List.mem_cons_self, fun _ h => absurd h List.not_mem_nil⟩⟩⟩)) ?_
  have key30 : ∀ (m32 : Nat) (ch ro : Nat) (w33 : List (List xE)), 6 - ro < m32 → ch ≤ 1 → ro ≤ 6 → xInv w33 → xFr [70, 71] w w33 → xTo (d + 1) mX3_creepOn (4, [], [(0, (2, 68)), (1, (0, ch)), (2, (0, ro))], [], (w33, bd, fc, 0, 0, rr)) (fun φ => ∃ n w', xEnd 4 [(0, n)] (w', bd, fc, 0, 0, rr) φ ∧ (n ≤ 1) ∧ xInv w' ∧ xFr [70, 71] w w') := by
    intro m32
    induction m32 with
    | zero => intro ch ro w33 hz; exact absurd hz (Nat.not_lt_zero _)
    | succ m32 ih31 =>
      intro ch ro w33 hm38 hn36 hn37 hI34 hF35
      refine xg_t (xg_blk (b := [(4, 1, 2, 2, 0, 0), (5, 1, 0, 0, 0, 0), (6, 3, 1, 3, 0, 21), (9, 3, 1, 9, 4, 66), (12, 3, 1, 1, 7, 70), (15, 3, 6, 138, 3, 0), (18, 1, 3, 0, 0, 0), (19, 1, 15, 3, 0, 0)]) rfl) ?_
      refine xg_t (xg_iload (va := (0, ro)) rfl rfl) ?_
      refine xg_t (xg_aload (va := (2, 68)) rfl rfl) ?_
      refine xg_t (xg_getf (va := (2, 1)) (hF35.get (by decide) h68_5) rfl) ?_
      refine xg_t (xg_getf (va := (2, 3)) (hF35.get (by decide) h1_18) rfl) ?_
      refine xg_t (xg_getf (va := (0, f3_23)) (hF35.get (by decide) h3_29) rfl) ?_
      by_cases hc39 : ro < f3_23
      · refine xg_t (xg_icF (u := ro) (v := f3_23) rfl xnm0 xnm0 (xj_geF hc39 (by omega))) ?_
        refine xg_t (xg_const) ?_
        refine xg_t (xg_istore (l1 := [(0, (2, 68)), (1, (0, ch)), (2, (0, ro))]) rfl rfl rfl) ?_
        refine xg_t (xg_drop (l1 := [(0, (2, 68)), (1, (0, ch)), (2, (0, ro)), (3, (0, 0))]) (List.forall_mem_cons.mpr ⟨List.mem_cons_of_mem _ (List.mem_cons_self), List.forall_mem_cons.mpr ⟨List.mem_cons_of_mem _ (List.mem_cons_of_mem _ (List.mem_cons_self)), List.forall_mem_cons.mpr ⟨List.mem_cons_of_mem _ (List.mem_cons_of_mem _ (List.mem_cons_of_mem _ (List.mem_cons_self))), List.forall_mem_cons.mpr ⟨List.mem_cons_self, fun _ h => absurd h List.not_mem_nil⟩⟩⟩⟩)) ?_
        have key40 : ∀ (m42 : Nat) (cg co : Nat) (w43 : List (List xE)), 6 - co < m42 → cg ≤ 1 → co ≤ 6 → xInv w43 → xFr [70, 71] w w43 → xTo (d + 1) mX3_creepOn (20, [], [(0, (2, 68)), (1, (0, cg)), (2, (0, ro)), (3, (0, co))], [], (w43, bd, fc, 0, 0, rr)) (fun φ => ∃ n w', xEnd 4 [(0, n)] (w', bd, fc, 0, 0, rr) φ ∧ (n ≤ 1) ∧ xInv w' ∧ xFr [70, 71] w w') := by
          intro m42
          induction m42 with
          | zero => intro cg co w43 hz; exact absurd hz (Nat.not_lt_zero _)
          | succ m42 ih41 =>
            intro cg co w43 hm48 hn46 hn47 hI44 hF45
            refine xg_t (xg_blk (b := [(20, 1, 2, 3, 0, 0), (21, 1, 0, 0, 0, 0), (22, 3, 1, 3, 0, 21), (25, 3, 1, 9, 4, 66), (28, 3, 1, 1, 8, 73), (31, 3, 6, 132, 3, 0), (34, 1, 2, 2, 0, 0), (35, 2, 4, 6, 0, 0), (37, 1, 16, 0, 0, 0), (38, 1, 2, 3, 0, 0), (39, 1, 11, 0, 0, 0), (40, 2, 15, 4, 0, 0), (42, 1, 0, 0, 0, 0), (43, 1, 2, 2, 0, 0), (44, 1, 3, 1, 0, 0), (45, 1, 18, 0, 0, 0), (46, 1, 2, 3, 0, 0), (47, 3, 13, 258, 24, 87), (50, 1, 0, 0, 0, 0), (51, 1, 2, 2, 0, 0), (52, 1, 3, 1, 0, 0), (53, 1, 11, 0, 0, 0), (54, 1, 2, 3, 0, 0), (55, 3, 13, 258, 24, 87), (58, 1, 11, 0, 0, 0), (59, 1, 0, 0, 0, 0), (60, 1, 2, 2, 0, 0), (61, 1, 2, 3, 0, 0), (62, 1, 3, 1, 0, 0), (63, 1, 18, 0, 0, 0), (64, 3, 13, 258, 24, 87), (67, 1, 11, 0, 0, 0), (68, 1, 0, 0, 0, 0), (69, 1, 2, 2, 0, 0), (70, 1, 2, 3, 0, 0), (71, 1, 3, 1, 0, 0), (72, 1, 11, 0, 0, 0), (73, 3, 13, 258, 24, 87), (76, 1, 11, 0, 0, 0), (77, 2, 15, 5, 0, 0), (79, 1, 0, 0, 0, 0), (80, 3, 1, 3, 3, 18), (83, 2, 2, 4, 0, 0), (85, 1, 3, 4, 0, 0), (86, 1, 0, 0, 0, 0), (87, 3, 1, 3, 2, 15), (90, 2, 2, 4, 0, 0), (92, 1, 10, 0, 0, 0), (93, 1, 16, 0, 0, 0), (94, 2, 2, 5, 0, 0), (96, 1, 11, 0, 0, 0), (97, 2, 4, 8, 0, 0), (99, 1, 20, 0, 0, 0), (100, 1, 17, 0, 0, 0), (101, 1, 2, 1, 0, 0), (102, 1, 0, 0, 0, 0), (103, 3, 1, 3, 3, 18), (106, 2, 2, 4, 0, 0), (108, 1, 10, 0, 0, 0), (109, 1, 0, 0, 0, 0), (110, 3, 1, 3, 2, 15), (113, 2, 2, 4, 0, 0), (115, 1, 10, 0, 0, 0), (116, 3, 6, 123, 0, 0), (119, 1, 3, 1, 0, 0), (120, 3, 8, 124, 0, 0)]) rfl) ?_
            refine xg_t (xg_iload (va := (0, co)) rfl rfl) ?_
            refine xg_t (xg_aload (va := (2, 68)) rfl rfl) ?_
            refine xg_t (xg_getf (va := (2, 1)) (hF45.get (by decide) h68_5) rfl) ?_
            refine xg_t (xg_getf (va := (2, 3)) (hF45.get (by decide) h1_18) rfl) ?_
            refine xg_t (xg_getf (va := (0, f3_25)) (hF45.get (by decide) h3_29) rfl) ?_
            by_cases hc49 : co < f3_25
            · refine xg_t (xg_icF (u := co) (v := f3_25) rfl xnm0 xnm0 (xj_geF hc49 (by omega))) ?_
              refine xg_t (xg_iload (va := (0, ro)) rfl rfl) ?_
              refine xg_t (xg_bip) ?_
              refine xg_t (xg_imul (u := ro) (v := 6) (z := ro * 6) xnm0 xnm0 (by omega)) ?_
              refine xg_t (xg_iload (va := (0, co)) rfl rfl) ?_
              refine xg_t (xg_iadd (u := ro * 6) (v := co) (z := (ro * 6) + co) xnm0 xnm0 (by omega)) ?_
              refine xg_t (xg_istore (l1 := [(0, (2, 68)), (1, (0, cg)), (2, (0, ro)), (3, (0, co))]) rfl rfl rfl) ?_
              refine xg_t (xg_aload (va := (2, 68)) rfl rfl) ?_
              refine xg_t (xg_iload (va := (0, ro)) rfl rfl) ?_
              refine xg_t (xg_const) ?_
              refine xg_k (xg_isub (u := ro) (v := 1) (z := (ro + (4294967296 - 1)) % 4294967296) xnm0 xnm0 rfl) (Nat.mod_lt _ (by decide)) (fun z50 hz51 => ?_)
              refine xg_t (xg_iload (va := (0, co)) rfl rfl) ?_
              refine xg_cVi mX3_dampAt (vs := [(0, z50), (0, co)]) (rest := []) (cn1 := 0) (sl1 := 0) rfl (lmDampAt (hI44) (by omega) (by omega)) rfl (hF45.get (by decide) h68_5) rfl rfl rfl rfl rfl rfl (fun n56 w52 hq53 => ?_)
              obtain ⟨hn57, hI54, hF55⟩ := hq53
              refine xg_t (xg_aload (va := (2, 68)) rfl rfl) ?_
              refine xg_t (xg_iload (va := (0, ro)) rfl rfl) ?_
              refine xg_t (xg_const) ?_
              refine xg_t (xg_iadd (u := ro) (v := 1) (z := ro + 1) xnm0 xnm0 (by omega)) ?_
              refine xg_t (xg_iload (va := (0, co)) rfl rfl) ?_
              refine xg_cVi mX3_dampAt (vs := [(0, ro + 1), (0, co)]) (rest := [(0, n56)]) (cn1 := 0) (sl1 := 0) rfl (lmDampAt (hI54) (by omega) (by omega)) rfl (hF55.get (by decide) (hF45.get (by decide) h68_5)) rfl rfl rfl rfl rfl rfl (fun n62 w58 hq59 => ?_)
              obtain ⟨hn63, hI60, hF61⟩ := hq59
              refine xg_k (xg_iadd (u := n56) (v := n62) (z := (n56 + n62) % 4294967296) xnm0 xnm0 rfl) (Nat.mod_lt _ (by decide)) (fun z64 hz65 => ?_)
              refine xg_t (xg_aload (va := (2, 68)) rfl rfl) ?_
              refine xg_t (xg_iload (va := (0, ro)) rfl rfl) ?_
              refine xg_t (xg_iload (va := (0, co)) rfl rfl) ?_
              refine xg_t (xg_const) ?_
              refine xg_k (xg_isub (u := co) (v := 1) (z := (co + (4294967296 - 1)) % 4294967296) xnm0 xnm0 rfl) (Nat.mod_lt _ (by decide)) (fun z66 hz67 => ?_)
              refine xg_cVi mX3_dampAt (vs := [(0, ro), (0, z66)]) (rest := [(0, z64)]) (cn1 := 0) (sl1 := 0) rfl (lmDampAt (hI60) (by omega) (by omega)) rfl (hF61.get (by decide) (hF55.get (by decide) (hF45.get (by decide) h68_5))) rfl rfl rfl rfl rfl rfl (fun n72 w68 hq69 => ?_)
              obtain ⟨hn73, hI70, hF71⟩ := hq69
              refine xg_k (xg_iadd (u := z64) (v := n72) (z := (z64 + n72) % 4294967296) xnm0 xnm0 rfl) (Nat.mod_lt _ (by decide)) (fun z74 hz75 => ?_)
              refine xg_t (xg_aload (va := (2, 68)) rfl rfl) ?_
              refine xg_t (xg_iload (va := (0, ro)) rfl rfl) ?_
              refine xg_t (xg_iload (va := (0, co)) rfl rfl) ?_
              refine xg_t (xg_const) ?_
              refine xg_t (xg_iadd (u := co) (v := 1) (z := co + 1) xnm0 xnm0 (by omega)) ?_
              refine xg_cVi mX3_dampAt (vs := [(0, ro), (0, co + 1)]) (rest := [(0, z74)]) (cn1 := 0) (sl1 := 0) rfl (lmDampAt (hI70) (by omega) (by omega)) rfl (hF71.get (by decide) (hF61.get (by decide) (hF55.get (by decide) (hF45.get (by decide) h68_5)))) rfl rfl rfl rfl rfl rfl (fun n80 w76 hq77 => ?_)
              obtain ⟨hn81, hI78, hF79⟩ := hq77
              refine xg_k (xg_iadd (u := z74) (v := n80) (z := (z74 + n80) % 4294967296) xnm0 xnm0 rfl) (Nat.mod_lt _ (by decide)) (fun z82 hz83 => ?_)
              refine xg_t (xg_istore (l1 := [(4, (0, (ro * 6) + co)), (0, (2, 68)), (1, (0, cg)), (2, (0, ro)), (3, (0, co))]) rfl rfl rfl) ?_
              refine xg_t (xg_aload (va := (2, 68)) rfl rfl) ?_
              refine xg_t (xg_getf (va := (2, 71)) (hF79.get (by decide) (hF71.get (by decide) (hF61.get (by decide) (hF55.get (by decide) (hF45.get (by decide) h68_5))))) rfl) ?_
              refine xg_t (xg_iload (va := (0, (ro * 6) + co)) rfl rfl) ?_
              refine xg_t (xg_const) ?_
              refine xg_t (xg_aload (va := (2, 68)) rfl rfl) ?_
              refine xg_t (xg_getf (va := (2, 70)) (hF79.get (by decide) (hF71.get (by decide) (hF61.get (by decide) (hF55.get (by decide) (hF45.get (by decide) h68_5))))) rfl) ?_
              refine xg_t (xg_iload (va := (0, (ro * 6) + co)) rfl rfl) ?_
              obtain ⟨g70_84, h70_85, hb86⟩ := (hI78 70 (by decide) : cpI 36 41 4294967295 (wget w76 70))
              have h70_85 : xRow w76 70 36 41 g70_84 := h70_85
              refine xg_ialdB (n := (ro * 6) + co) (B := 4294967295) h70_85 (hb86) xnm0 (by omega) (fun u87 hu88 he89 => ?_)
              refine xg_k (xg_imul (u := 4) (v := u87) (z := (4 * u87) % 4294967296) xnm0 xnm0 rfl) (Nat.mod_lt _ (by decide)) (fun z90 hz91 => ?_)
              refine xg_t (xg_iload (va := (0, z82)) rfl rfl) ?_
              refine xg_k (xg_iadd (u := z90) (v := z82) (z := (z90 + z82) % 4294967296) xnm0 xnm0 rfl) (Nat.mod_lt _ (by decide)) (fun z92 hz93 => ?_)
              refine xg_t (xg_bip) ?_
              refine xg_k (xg_idivG (u := z92) (v := 8) (by decide) xnm0 xnm0) (xpt_lt _) (fun z94 hz95 => ?_)
              obtain ⟨g71_96, h71_97, hb98⟩ := (hI78 71 (by decide) : cpI 36 42 4294967295 (wget w76 71))
              have h71_97 : xRow w76 71 36 42 g71_96 := h71_97
              refine xg_iastK (n := (ro * 6) + co) (u := z94) h71_97 xnm0 xnm0 rfl (by omega) (fun w99 hr100 hb101 => ?_)
              refine xg_t (xg_iload (va := (0, cg)) rfl rfl) ?_
              refine xg_t (xg_aload (va := (2, 68)) rfl rfl) ?_
              refine xg_t (xg_getf (va := (2, 71)) (hb101.get (by decide) (hF79.get (by decide) (hF71.get (by decide) (hF61.get (by decide) (hF55.get (by decide) (hF45.get (by decide) h68_5)))))) rfl) ?_
              refine xg_t (xg_iload (va := (0, (ro * 6) + co)) rfl rfl) ?_
              refine xg_ialdB (n := (ro * 6) + co) (B := 4294967295) hr100 (xrb (by omega) (hb98)) xnm0 (by omega) (fun u102 hu103 he104 => ?_)
              refine xg_t (xg_aload (va := (2, 68)) rfl rfl) ?_
              refine xg_t (xg_getf (va := (2, 70)) (hb101.get (by decide) (hF79.get (by decide) (hF71.get (by decide) (hF61.get (by decide) (hF55.get (by decide) (hF45.get (by decide) h68_5)))))) rfl) ?_
              refine xg_t (xg_iload (va := (0, (ro * 6) + co)) rfl rfl) ?_
              refine xg_ialdB (n := (ro * 6) + co) (B := 4294967295) (h70_85.but hb101 (by decide)) (hb86) xnm0 (by omega) (fun u105 hu106 he107 => ?_)
              by_cases hc108 : u102 = u105
              · refine xg_t (xg_icT (u := u102) (v := u105) rfl xnm0 xnm0 (xj_eqT hc108)) ?_
                refine xg_t (xg_blk (b := [(123, 1, 3, 0, 0, 0)]) rfl) ?_
                refine xg_t (xg_const) ?_
                refine xg_t (xg_blk (b := [(124, 1, 38, 0, 0, 0), (125, 1, 15, 1, 0, 0), (126, 3, 9, 3, 1, 0), (129, 3, 8, 20, 0, 0)]) rfl) ?_
                refine xg_ior1 (u := cg) (v := 0) xnm0 xnm0 (by omega) (by omega) (fun z109 hz110 => ?_)
                refine xg_t (xg_istore (l1 := [(5, (0, z82)), (4, (0, (ro * 6) + co)), (0, (2, 68)), (2, (0, ro)), (3, (0, co))]) rfl rfl rfl) ?_
                refine xg_t (xg_iinc (u := co) (z := co + 1) (l1 := [(1, (0, z109)), (5, (0, z82)), (4, (0, (ro * 6) + co)), (0, (2, 68)), (2, (0, ro))]) rfl rfl (by omega) rfl) ?_
                refine xg_t (xg_goto) ?_
                refine xg_t (xg_drop (l1 := [(0, (2, 68)), (1, (0, z109)), (2, (0, ro)), (3, (0, co + 1))]) (List.forall_mem_cons.mpr ⟨List.mem_cons_of_mem _ (List.mem_cons_of_mem _ (List.mem_cons_of_mem _ (List.mem_cons_of_mem _ (List.mem_cons_self)))), List.forall_mem_cons.mpr ⟨List.mem_cons_of_mem _ (List.mem_cons_self), List.forall_mem_cons.mpr ⟨List.mem_cons_of_mem _ (List.mem_cons_of_mem _ (List.mem_cons_of_mem _ (List.mem_cons_of_mem _ (List.mem_cons_of_mem _ (List.mem_cons_self))))), List.forall_mem_cons.mpr ⟨List.mem_cons_self, fun _ h => absurd h List.not_mem_nil⟩⟩⟩⟩)) ?_
                exact ih41 z109 (co + 1) w99 (by omega) (by omega) (by omega) (xInv.up (S := [71]) hI78 (xFr.of (S := [71]) hb101 (by decide)) (List.forall_mem_cons.mpr ⟨(show cpI 36 42 4294967295 (wget w99 71) from ⟨_, hr100, xrb (by omega) (hb98)⟩), fun _ h => absurd h List.not_mem_nil⟩)) ((((((hF45.tr (hF55.up (by decide))).tr (hF61.up (by decide))).tr (hF71.up (by decide))).tr (hF79.up (by decide))).tr (xFr.of (S := [70, 71]) hb101 (by decide))))
              · refine xg_t (xg_icF (u := u102) (v := u105) rfl xnm0 xnm0 (xj_eqF hc108)) ?_
                refine xg_t (xg_const) ?_
                refine xg_t (xg_goto) ?_
                refine xg_t (xg_blk (b := [(124, 1, 38, 0, 0, 0), (125, 1, 15, 1, 0, 0), (126, 3, 9, 3, 1, 0), (129, 3, 8, 20, 0, 0)]) rfl) ?_
                refine xg_ior1 (u := cg) (v := 1) xnm0 xnm0 (by omega) (by omega) (fun z111 hz112 => ?_)
                refine xg_t (xg_istore (l1 := [(5, (0, z82)), (4, (0, (ro * 6) + co)), (0, (2, 68)), (2, (0, ro)), (3, (0, co))]) rfl rfl rfl) ?_
                refine xg_t (xg_iinc (u := co) (z := co + 1) (l1 := [(1, (0, z111)), (5, (0, z82)), (4, (0, (ro * 6) + co)), (0, (2, 68)), (2, (0, ro))]) rfl rfl (by omega) rfl) ?_
                refine xg_t (xg_goto) ?_
                refine xg_t (xg_drop (l1 := [(0, (2, 68)), (1, (0, z111)), (2, (0, ro)), (3, (0, co + 1))]) (List.forall_mem_cons.mpr ⟨List.mem_cons_of_mem _ (List.mem_cons_of_mem _ (List.mem_cons_of_mem _ (List.mem_cons_of_mem _ (List.mem_cons_self)))), List.forall_mem_cons.mpr ⟨List.mem_cons_of_mem _ (List.mem_cons_self), List.forall_mem_cons.mpr ⟨List.mem_cons_of_mem _ (List.mem_cons_of_mem _ (List.mem_cons_of_mem _ (List.mem_cons_of_mem _ (List.mem_cons_of_mem _ (List.mem_cons_self))))), List.forall_mem_cons.mpr ⟨List.mem_cons_self, fun _ h => absurd h List.not_mem_nil⟩⟩⟩⟩)) ?_
                exact ih41 z111 (co + 1) w99 (by omega) (by omega) (by omega) (xInv.up (S := [71]) hI78 (xFr.of (S := [71]) hb101 (by decide)) (List.forall_mem_cons.mpr ⟨(show cpI 36 42 4294967295 (wget w99 71) from ⟨_, hr100, xrb (by omega) (hb98)⟩), fun _ h => absurd h List.not_mem_nil⟩)) ((((((hF45.tr (hF55.up (by decide))).tr (hF61.up (by decide))).tr (hF71.up (by decide))).tr (hF79.up (by decide))).tr (xFr.of (S := [70, 71]) hb101 (by decide))))
            · refine xg_t (xg_icT (u := co) (v := f3_25) rfl xnm0 xnm0 (xj_geT (by omega) (by omega))) ?_
              refine xg_t (xg_blk (b := [(132, 3, 9, 2, 1, 0), (135, 3, 8, 4, 0, 0)]) rfl) ?_
              refine xg_t (xg_iinc (u := ro) (z := ro + 1) (l1 := [(0, (2, 68)), (1, (0, cg)), (3, (0, co))]) rfl rfl (by omega) rfl) ?_
              refine xg_t (xg_goto) ?_
              refine xg_t (xg_drop (l1 := [(0, (2, 68)), (1, (0, cg)), (2, (0, ro + 1))]) (List.forall_mem_cons.mpr ⟨List.mem_cons_of_mem _ (List.mem_cons_self), List.forall_mem_cons.mpr ⟨List.mem_cons_of_mem _ (List.mem_cons_of_mem _ (List.mem_cons_self)), List.forall_mem_cons.mpr ⟨List.mem_cons_self, fun _ h => absurd h List.not_mem_nil⟩⟩⟩)) ?_
              exact ih31 cg (ro + 1) w43 (by omega) (by omega) (by omega) (hI44) (hF45)
        exact key40 _ ch 0 w33 (Nat.lt_succ_self _) (by omega) (by omega) (hI34) (hF35)
      · refine xg_t (xg_icT (u := ro) (v := f3_23) rfl xnm0 xnm0 (xj_geT (by omega) (by omega))) ?_
        refine xg_t (xg_blk (b := [(138, 1, 0, 0, 0, 0), (139, 3, 1, 3, 3, 18), (142, 1, 3, 0, 0, 0), (143, 1, 0, 0, 0, 0), (144, 3, 1, 3, 2, 15), (147, 1, 3, 0, 0, 0), (148, 2, 4, 36, 0, 0), (150, 3, 58, 0, 0, 90), (153, 1, 2, 1, 0, 0), (154, 1, 12, 0, 1, 0)]) rfl) ?_
        refine xg_t (xg_aload (va := (2, 68)) rfl rfl) ?_
        refine xg_t (xg_getf (va := (2, 71)) (hF35.get (by decide) h68_5) rfl) ?_
        refine xg_t (xg_const) ?_
        refine xg_t (xg_aload (va := (2, 68)) rfl rfl) ?_
        refine xg_t (xg_getf (va := (2, 70)) (hF35.get (by decide) h68_5) rfl) ?_
        refine xg_t (xg_const) ?_
        refine xg_t (xg_bip) ?_
        obtain ⟨g71_113, h71_114, hb115⟩ := (hI34 71 (by decide) : cpI 36 42 4294967295 (wget w33 71))
        have h71_114 : xRow w33 71 36 42 g71_113 := h71_114
        obtain ⟨g70_116, h70_117, hb118⟩ := (hI34 70 (by decide) : cpI 36 41 4294967295 (wget w33 70))
        have h70_117 : xRow w33 70 36 41 g70_116 := h70_117
        refine xg_copyI (n := 36) h71_114 h70_117 xnm0 (by omega) (by omega) (Nat.le_of_ble_eq_true rfl) (fun w119 hr120 hb121 => ?_)
        have rb122 := xcb2 (n := 36) (hb115) (hb118)
        refine xg_t (xg_iload (va := (0, ch)) rfl rfl) ?_
        exact xg_e ⟨ch, w119, ⟨xret_b (by omega), rfl⟩, by omega, xInv.up (S := [70]) hI34 (xFr.of (S := [70]) hb121 (by decide)) (List.forall_mem_cons.mpr ⟨(show cpI 36 41 4294967295 (wget w119 70) from ⟨_, hr120, rb122⟩), fun _ h => absurd h List.not_mem_nil⟩), (hF35.tr (xFr.of (S := [70, 71]) hb121 (by decide)))⟩
  exact key30 _ 0 0 w (Nat.lt_succ_self _) (by omega) (by omega) (hI) (xFr.rf)
theorem lmRefreshDamp (hI : xInv w)  : xPq (d + 2) mX3_refreshDamp [(2, 68)] w bd fc rr [] (fun w' => xInv w' ∧ xFr [68, 70, 71] w w') := by
  refine xPq.of ?_
  show xTo (d + 2) mX3_refreshDamp (0, [], [(0, (2, 68))], [], (w, bd, fc, 0, 0, rr)) (fun φ => ∃ w', xEnd 0 [] (w', bd, fc, 0, 0, rr) φ ∧ xInv w' ∧ xFr [68, 70, 71] w w')
  obtain ⟨f68_1, f68_3, h68_5, hb2, hb4⟩ := (hI 68 (by decide) : cp68 (wget w 68))
  obtain ⟨f1_6, f1_8, f1_10, f1_12, f1_14, f1_16, h1_18, hb7, hb9, hb11, hb13, hb15, hb17⟩ := (hI 1 (by decide) : cp1 (wget w 1))
  obtain ⟨f3_19, f3_21, f3_23, f3_25, f3_27, h3_29, hb20, hb22, hb24, hb26, hb28⟩ := (hI 3 (by decide) : cp3 (wget w 3))
  refine xg_t (xg_blk (b := [(0, 1, 0, 0, 0, 0), (1, 3, 1, 3, 5, 29), (4, 3, 7, 8, 0, 0), (7, 1, 12, 0, 0, 0)]) rfl) ?_
  refine xg_t (xg_aload (va := (2, 68)) rfl rfl) ?_
  refine xg_t (xg_getf (va := (0, f68_3)) h68_5 rfl) ?_
  by_cases hc30 : f68_3 = 0
  · refine xg_t (xg_ifT (u := f68_3) rfl xnm0 (xj_eqT hc30)) ?_
    refine xg_t (xg_blk (b := [(8, 1, 0, 0, 0, 0), (9, 3, 1, 3, 2, 15), (12, 1, 3, 0, 0, 0), (13, 3, 13, 1, 2, 32), (16, 1, 3, 1, 0, 0), (17, 1, 15, 1, 0, 0), (18, 1, 3, 0, 0, 0), (19, 1, 15, 2, 0, 0)]) rfl) ?_
    refine xg_t (xg_aload (va := (2, 68)) rfl rfl) ?_
    refine xg_t (xg_getf (va := (2, 70)) h68_5 rfl) ?_
    refine xg_t (xg_const) ?_
    obtain ⟨g70_31, h70_32, hb33⟩ := (hI 70 (by decide) : cpI 36 41 4294967295 (wget w 70))
    have h70_32 : xRow w 70 36 41 g70_31 := h70_32
    refine xg_cS mJ7_fill_53178 (vs := [(2, 70), (0, 0)]) (rest := []) (rs := []) (cn1 := 0) (sl1 := 0) rfl (fillI (v := 0) h70_32 (by decide)) rfl rfl rfl rfl rfl rfl rfl rfl (fun w34 hq35 => ?_)
    refine xg_t (xg_const) ?_
    refine xg_t (xg_istore (l1 := [(0, (2, 68))]) rfl rfl rfl) ?_
    refine xg_t (xg_const) ?_
    refine xg_t (xg_istore (l1 := [(1, (0, 1)), (0, (2, 68))]) rfl rfl rfl) ?_
    refine xg_t (xg_drop (l1 := [(0, (2, 68)), (1, (0, 1)), (2, (0, 0))]) (List.forall_mem_cons.mpr ⟨List.mem_cons_of_mem _ (List.mem_cons_of_mem _ (List.mem_cons_self)), List.forall_mem_cons.mpr ⟨List.mem_cons_of_mem _ (List.mem_cons_self), List.forall_mem_cons.mpr ⟨List.mem_cons_self, fun _ h => absurd h List.not_mem_nil⟩⟩⟩)) ?_
    have key36 : ∀ (m38 : Nat) (cr dy : Nat) (w39 : List (List xE)), 200 - dy < m38 → cr ≤ 1 → dy ≤ 200 → xInv w39 → xFr [68, 70, 71] w w39 → xTo (d + 2) mX3_refreshDamp (20, [], [(0, (2, 68)), (1, (0, cr)), (2, (0, dy))], [], (w39, bd, fc, 0, 0, rr)) (fun φ => ∃ w', xEnd 0 [] (w', bd, fc, 0, 0, rr) φ ∧ xInv w' ∧ xFr [68, 70, 71] w w') := by
      intro m38
      induction m38 with
      | zero => intro cr dy w39 hz; exact absurd hz (Nat.not_lt_zero _)
      | succ m38 ih37 =>
        intro cr dy w39 hm44 hn42 hn43 hI40 hF41
        refine xg_t (xg_blk (b := [(20, 1, 2, 1, 0, 0), (21, 3, 7, 46, 0, 0), (24, 1, 2, 2, 0, 0), (25, 1, 0, 0, 0, 0), (26, 3, 1, 3, 0, 21), (29, 3, 1, 9, 9, 80), (32, 3, 6, 46, 3, 0), (35, 1, 0, 0, 0, 0), (36, 3, 13, 257, 24, 83), (39, 1, 15, 1, 0, 0), (40, 3, 9, 2, 1, 0), (43, 3, 8, 20, 0, 0)]) rfl) ?_
        refine xg_t (xg_iload (va := (0, cr)) rfl rfl) ?_
        by_cases hc45 : cr = 0
        · refine xg_t (xg_ifT (u := cr) rfl xnm0 (xj_eqT hc45)) ?_
          refine xg_t (xg_blk (b := [(46, 1, 0, 0, 0, 0), (47, 1, 3, 1, 0, 0), (48, 3, 59, 3, 5, 29), (51, 1, 12, 0, 0, 0)]) rfl) ?_
          refine xg_t (xg_aload (va := (2, 68)) rfl rfl) ?_
          refine xg_t (xg_const) ?_
          obtain ⟨f68_46, f68_48, h68_50, hb47, hb49⟩ := (hI40 68 (by decide) : cp68 (wget w39 68))
          refine xg_putZ (fl1 := [(2, 1), (2, 69), (2, 70), (2, 71), (0, f68_46), (0, 1)]) h68_50 rfl rfl rfl (fun w51 hk52 hb53 => ?_)
          exact xg_e ⟨w51, ⟨rfl, rfl⟩, xInv.up (S := [68]) hI40 (xFr.of (S := [68]) hb53 (by decide)) (List.forall_mem_cons.mpr ⟨(show cp68 (wget w51 68) from ⟨f68_46, 1, hk52, by omega, by omega⟩), fun _ h => absurd h List.not_mem_nil⟩), (hF41.tr (xFr.of (S := [68, 70, 71]) hb53 (by decide)))⟩
        · refine xg_t (xg_ifF (u := cr) rfl xnm0 (xj_eqF hc45)) ?_
          refine xg_t (xg_iload (va := (0, dy)) rfl rfl) ?_
          refine xg_t (xg_aload (va := (2, 68)) rfl rfl) ?_
          obtain ⟨f68_54, f68_56, h68_58, hb55, hb57⟩ := (hI40 68 (by decide) : cp68 (wget w39 68))
          refine xg_t (xg_getf (va := (2, 1)) h68_58 rfl) ?_
          refine xg_t (xg_getf (va := (0, f1_16)) (hF41.get (by decide) h1_18) rfl) ?_
          by_cases hc59 : dy < f1_16
          · refine xg_t (xg_icF (u := dy) (v := f1_16) rfl xnm0 xnm0 (xj_geF hc59 (by omega))) ?_
            refine xg_t (xg_aload (va := (2, 68)) rfl rfl) ?_
            refine xg_cVi mX3_creepOn (vs := []) (rest := []) (cn1 := 0) (sl1 := 0) rfl (lmCreepOn (hI40)) rfl h68_58 rfl rfl rfl rfl rfl rfl (fun n64 w60 hq61 => ?_)
            obtain ⟨hn65, hI62, hF63⟩ := hq61
            refine xg_t (xg_istore (l1 := [(0, (2, 68)), (2, (0, dy))]) rfl rfl rfl) ?_
            refine xg_t (xg_iinc (u := dy) (z := dy + 1) (l1 := [(1, (0, n64)), (0, (2, 68))]) rfl rfl (by omega) rfl) ?_
            refine xg_t (xg_goto) ?_
            refine xg_t (xg_drop (l1 := [(0, (2, 68)), (1, (0, n64)), (2, (0, dy + 1))]) (List.forall_mem_cons.mpr ⟨List.mem_cons_of_mem _ (List.mem_cons_of_mem _ (List.mem_cons_self)), List.forall_mem_cons.mpr ⟨List.mem_cons_of_mem _ (List.mem_cons_self), List.forall_mem_cons.mpr ⟨List.mem_cons_self, fun _ h => absurd h List.not_mem_nil⟩⟩⟩)) ?_
            exact ih37 n64 (dy + 1) w60 (by omega) (by omega) (by omega) (hI62) ((hF41.tr (hF63.up (by decide))))
          · refine xg_t (xg_icT (u := dy) (v := f1_16) rfl xnm0 xnm0 (xj_geT (by omega) (by omega))) ?_
            refine xg_t (xg_blk (b := [(46, 1, 0, 0, 0, 0), (47, 1, 3, 1, 0, 0), (48, 3, 59, 3, 5, 29), (51, 1, 12, 0, 0, 0)]) rfl) ?_
            refine xg_t (xg_aload (va := (2, 68)) rfl rfl) ?_
            refine xg_t (xg_const) ?_
            refine xg_putZ (fl1 := [(2, 1), (2, 69), (2, 70), (2, 71), (0, f68_54), (0, 1)]) h68_58 rfl rfl rfl (fun w66 hk67 hb68 => ?_)
            exact xg_e ⟨w66, ⟨rfl, rfl⟩, xInv.up (S := [68]) hI40 (xFr.of (S := [68]) hb68 (by decide)) (List.forall_mem_cons.mpr ⟨(show cp68 (wget w66 68) from ⟨f68_54, 1, hk67, by omega, by omega⟩), fun _ h => absurd h List.not_mem_nil⟩), (hF41.tr (xFr.of (S := [68, 70, 71]) hb68 (by decide)))⟩
    exact key36 _ 1 0 w34 (Nat.lt_succ_self _) (by omega) (by omega) (xInv.up (S := [70]) hI (xFr.of (S := [70]) hq35.2 (by decide)) (List.forall_mem_cons.mpr ⟨(show cpI 36 41 4294967295 (wget w34 70) from ⟨_, hq35.1, fun _ => (by omega : 0 ≤ 4294967295)⟩), fun _ h => absurd h List.not_mem_nil⟩)) ((xFr.of (S := [68, 70, 71]) hq35.2 (by decide)))
  · refine xg_t (xg_ifF (u := f68_3) rfl xnm0 (xj_eqF hc30)) ?_
    exact xg_e ⟨w, ⟨rfl, rfl⟩, hI, xFr.rf⟩
theorem lmLeftSpread (hI : xInv w)  : xPi (d + 2) mX3_leftSpread [(2, 68)] w bd fc rr (fun n w' => (n ≤ 4294967295) ∧ xInv w' ∧ xFr [] w w') := by
  refine xPi.of ?_
  show xTo (d + 2) mX3_leftSpread (0, [], [(0, (2, 68))], [], (w, bd, fc, 0, 0, rr)) (fun φ => ∃ n w', xEnd 1 [(0, n)] (w', bd, fc, 0, 0, rr) φ ∧ (n ≤ 4294967295) ∧ xInv w' ∧ xFr [] w w')
  obtain ⟨f68_1, f68_3, h68_5, hb2, hb4⟩ := (hI 68 (by decide) : cp68 (wget w 68))
  obtain ⟨f1_6, f1_8, f1_10, f1_12, f1_14, f1_16, h1_18, hb7, hb9, hb11, hb13, hb15, hb17⟩ := (hI 1 (by decide) : cp1 (wget w 1))
  obtain ⟨f3_19, f3_21, f3_23, f3_25, f3_27, h3_29, hb20, hb22, hb24, hb26, hb28⟩ := (hI 3 (by decide) : cp3 (wget w 3))
  refine xg_t (xg_blk (b := [(0, 3, 5, 1000, 0, 0), (3, 1, 15, 1, 0, 0), (4, 1, 3, 0, 0, 0), (5, 1, 15, 2, 0, 0), (6, 1, 3, 0, 0, 0), (7, 1, 15, 3, 0, 0)]) rfl) ?_
  refine xg_t (xg_sip) ?_
  refine xg_t (xg_istore (l1 := [(0, (2, 68))]) rfl rfl rfl) ?_
  refine xg_t (xg_const) ?_
  refine xg_t (xg_istore (l1 := [(1, (0, 1000)), (0, (2, 68))]) rfl rfl rfl) ?_
  refine xg_t (xg_const) ?_
  refine xg_t (xg_istore (l1 := [(2, (0, 0)), (1, (0, 1000)), (0, (2, 68))]) rfl rfl rfl) ?_
  refine xg_t (xg_drop (l1 := [(0, (2, 68)), (1, (0, 1000)), (2, (0, 0)), (3, (0, 0))]) (List.forall_mem_cons.mpr ⟨List.mem_cons_of_mem _ (List.mem_cons_of_mem _ (List.mem_cons_of_mem _ (List.mem_cons_self))), List.forall_mem_cons.mpr ⟨List.mem_cons_of_mem _ (List.mem_cons_of_mem _ (List.mem_cons_self)), List.forall_mem_cons.mpr ⟨List.mem_cons_of_mem _ (List.mem_cons_self), List.forall_mem_cons.mpr ⟨List.mem_cons_self, fun _ h => absurd h List.not_mem_nil⟩⟩⟩⟩)) ?_
  have key30 : ∀ (m32 : Nat) (le gr ro : Nat) (w33 : List (List xE)), 6 - ro < m32 → le ≤ 4294967295 → gr ≤ 4294967295 → ro ≤ 6 → xInv w33 → xFr [] w w33 → xTo (d + 2) mX3_leftSpread (8, [], [(0, (2, 68)), (1, (0, le)), (2, (0, gr)), (3, (0, ro))], [], (w33, bd, fc, 0, 0, rr)) (fun φ => ∃ n w', xEnd 1 [(0, n)] (w', bd, fc, 0, 0, rr) φ ∧ (n ≤ 4294967295) ∧ xInv w' ∧ xFr [] w w') := by
    intro m32
    induction m32 with
    | zero => intro le gr ro w33 hz; exact absurd hz (Nat.not_lt_zero _)
    | succ m32 ih31 =>
      intro le gr ro w33 hm39 hn36 hn37 hn38 hI34 hF35
      refine xg_t (xg_blk (b := [(8, 1, 2, 3, 0, 0), (9, 1, 0, 0, 0, 0), (10, 3, 1, 3, 0, 21), (13, 3, 1, 9, 4, 66), (16, 3, 1, 1, 7, 70), (19, 3, 6, 79, 3, 0), (22, 1, 3, 0, 0, 0), (23, 2, 15, 4, 0, 0)]) rfl) ?_
      refine xg_t (xg_iload (va := (0, ro)) rfl rfl) ?_
      refine xg_t (xg_aload (va := (2, 68)) rfl rfl) ?_
      refine xg_t (xg_getf (va := (2, 1)) (hF35.get (by decide) h68_5) rfl) ?_
      refine xg_t (xg_getf (va := (2, 3)) (hF35.get (by decide) h1_18) rfl) ?_
      refine xg_t (xg_getf (va := (0, f3_23)) (hF35.get (by decide) h3_29) rfl) ?_
      by_cases hc40 : ro < f3_23
      · refine xg_t (xg_icF (u := ro) (v := f3_23) rfl xnm0 xnm0 (xj_geF hc40 (by omega))) ?_
        refine xg_t (xg_const) ?_
        refine xg_t (xg_istore (l1 := [(0, (2, 68)), (1, (0, le)), (2, (0, gr)), (3, (0, ro))]) rfl rfl rfl) ?_
        refine xg_t (xg_drop (l1 := [(0, (2, 68)), (1, (0, le)), (2, (0, gr)), (3, (0, ro)), (4, (0, 0))]) (List.forall_mem_cons.mpr ⟨List.mem_cons_of_mem _ (List.mem_cons_self), List.forall_mem_cons.mpr ⟨List.mem_cons_of_mem _ (List.mem_cons_of_mem _ (List.mem_cons_self)), List.forall_mem_cons.mpr ⟨List.mem_cons_of_mem _ (List.mem_cons_of_mem _ (List.mem_cons_of_mem _ (List.mem_cons_self))), List.forall_mem_cons.mpr ⟨List.mem_cons_of_mem _ (List.mem_cons_of_mem _ (List.mem_cons_of_mem _ (List.mem_cons_of_mem _ (List.mem_cons_self)))), List.forall_mem_cons.mpr ⟨List.mem_cons_self, fun _ h => absurd h List.not_mem_nil⟩⟩⟩⟩⟩)) ?_
        have key41 : ∀ (m43 : Nat) (lf gs co : Nat) (w44 : List (List xE)), 6 - co < m43 → lf ≤ 4294967295 → gs ≤ 4294967295 → co ≤ 6 → xInv w44 → xFr [] w w44 → xTo (d + 2) mX3_leftSpread (25, [], [(0, (2, 68)), (1, (0, lf)), (2, (0, gs)), (3, (0, ro)), (4, (0, co))], [], (w44, bd, fc, 0, 0, rr)) (fun φ => ∃ n w', xEnd 1 [(0, n)] (w', bd, fc, 0, 0, rr) φ ∧ (n ≤ 4294967295) ∧ xInv w' ∧ xFr [] w w') := by
          intro m43
          induction m43 with
          | zero => intro lf gs co w44 hz; exact absurd hz (Nat.not_lt_zero _)
          | succ m43 ih42 =>
            intro lf gs co w44 hm50 hn47 hn48 hn49 hI45 hF46
            refine xg_t (xg_blk (b := [(25, 2, 2, 4, 0, 0), (27, 1, 0, 0, 0, 0), (28, 3, 1, 3, 0, 21), (31, 3, 1, 9, 4, 66), (34, 3, 1, 1, 8, 73), (37, 3, 6, 73, 3, 0), (40, 1, 0, 0, 0, 0), (41, 1, 2, 3, 0, 0), (42, 2, 4, 6, 0, 0), (44, 1, 16, 0, 0, 0), (45, 2, 2, 4, 0, 0), (47, 1, 11, 0, 0, 0), (48, 3, 13, 263, 24, 76), (51, 2, 15, 5, 0, 0), (53, 1, 2, 1, 0, 0), (54, 2, 2, 5, 0, 0), (56, 3, 63, 0, 0, 58), (59, 1, 15, 1, 0, 0), (60, 1, 2, 2, 0, 0), (61, 2, 2, 5, 0, 0), (63, 3, 62, 0, 0, 63), (66, 1, 15, 2, 0, 0), (67, 3, 9, 4, 1, 0), (70, 3, 8, 25, 0, 0)]) rfl) ?_
            refine xg_t (xg_iload (va := (0, co)) rfl rfl) ?_
            refine xg_t (xg_aload (va := (2, 68)) rfl rfl) ?_
            refine xg_t (xg_getf (va := (2, 1)) (hF46.get (by decide) h68_5) rfl) ?_
            refine xg_t (xg_getf (va := (2, 3)) (hF46.get (by decide) h1_18) rfl) ?_
            refine xg_t (xg_getf (va := (0, f3_25)) (hF46.get (by decide) h3_29) rfl) ?_
            by_cases hc51 : co < f3_25
            · refine xg_t (xg_icF (u := co) (v := f3_25) rfl xnm0 xnm0 (xj_geF hc51 (by omega))) ?_
              refine xg_t (xg_aload (va := (2, 68)) rfl rfl) ?_
              refine xg_t (xg_iload (va := (0, ro)) rfl rfl) ?_
              refine xg_t (xg_bip) ?_
              refine xg_t (xg_imul (u := ro) (v := 6) (z := ro * 6) xnm0 xnm0 (by omega)) ?_
              refine xg_t (xg_iload (va := (0, co)) rfl rfl) ?_
              refine xg_t (xg_iadd (u := ro * 6) (v := co) (z := (ro * 6) + co) xnm0 xnm0 (by omega)) ?_
              refine xg_cVi mX3_leftOf (vs := [(0, (ro * 6) + co)]) (rest := []) (cn1 := 0) (sl1 := 0) rfl (lmLeftOf (hI45) (by omega)) rfl (hF46.get (by decide) h68_5) rfl rfl rfl rfl rfl rfl (fun n56 w52 hq53 => ?_)
              obtain ⟨hn57, hI54, hF55⟩ := hq53
              refine xg_t (xg_istore (l1 := [(0, (2, 68)), (1, (0, lf)), (2, (0, gs)), (3, (0, ro)), (4, (0, co))]) rfl rfl rfl) ?_
              refine xg_t (xg_iload (va := (0, lf)) rfl rfl) ?_
              refine xg_t (xg_iload (va := (0, n56)) rfl rfl) ?_
              refine xg_minK (u := lf) (v := n56) xnm0 xnm0 xmx_ok (by omega) (by omega) (fun z58 hz59 hz60 hz61 hz62 => ?_)
              unfold xbs at hz60 hz61
              refine xg_t (xg_istore (l1 := [(5, (0, n56)), (0, (2, 68)), (2, (0, gs)), (3, (0, ro)), (4, (0, co))]) rfl rfl rfl) ?_
              refine xg_t (xg_iload (va := (0, gs)) rfl rfl) ?_
              refine xg_t (xg_iload (va := (0, n56)) rfl rfl) ?_
              refine xg_maxK (u := gs) (v := n56) xnm0 xnm0 xmx_ok (by omega) (by omega) (fun z63 hz64 hz65 hz66 hz67 => ?_)
              unfold xbs at hz65 hz66
              refine xg_t (xg_istore (l1 := [(1, (0, z58)), (5, (0, n56)), (0, (2, 68)), (3, (0, ro)), (4, (0, co))]) rfl rfl rfl) ?_
              refine xg_t (xg_iinc (u := co) (z := co + 1) (l1 := [(2, (0, z63)), (1, (0, z58)), (5, (0, n56)), (0, (2, 68)), (3, (0, ro))]) rfl rfl (by omega) rfl) ?_
              refine xg_t (xg_goto) ?_
              refine xg_t (xg_drop (l1 := [(0, (2, 68)), (1, (0, z58)), (2, (0, z63)), (3, (0, ro)), (4, (0, co + 1))]) (List.forall_mem_cons.mpr ⟨List.mem_cons_of_mem _ (List.mem_cons_of_mem _ (List.mem_cons_of_mem _ (List.mem_cons_of_mem _ (List.mem_cons_self)))), List.forall_mem_cons.mpr ⟨List.mem_cons_of_mem _ (List.mem_cons_of_mem _ (List.mem_cons_self)), List.forall_mem_cons.mpr ⟨List.mem_cons_of_mem _ (List.mem_cons_self), List.forall_mem_cons.mpr ⟨List.mem_cons_of_mem _ (List.mem_cons_of_mem _ (List.mem_cons_of_mem _ (List.mem_cons_of_mem _ (List.mem_cons_of_mem _ (List.mem_cons_self))))), List.forall_mem_cons.mpr ⟨List.mem_cons_self, fun _ h => absurd h List.not_mem_nil⟩⟩⟩⟩⟩)) ?_
              exact ih42 z58 z63 (co + 1) w52 (by omega) (by omega) (by omega) (by omega) (hI54) ((hF46.tr (hF55.up (by decide))))
            · refine xg_t (xg_icT (u := co) (v := f3_25) rfl xnm0 xnm0 (xj_geT (by omega) (by omega))) ?_
              refine xg_t (xg_blk (b := [(73, 3, 9, 3, 1, 0), (76, 3, 8, 8, 0, 0)]) rfl) ?_
              refine xg_t (xg_iinc (u := ro) (z := ro + 1) (l1 := [(0, (2, 68)), (1, (0, lf)), (2, (0, gs)), (4, (0, co))]) rfl rfl (by omega) rfl) ?_
              refine xg_t (xg_goto) ?_
              refine xg_t (xg_drop (l1 := [(0, (2, 68)), (1, (0, lf)), (2, (0, gs)), (3, (0, ro + 1))]) (List.forall_mem_cons.mpr ⟨List.mem_cons_of_mem _ (List.mem_cons_self), List.forall_mem_cons.mpr ⟨List.mem_cons_of_mem _ (List.mem_cons_of_mem _ (List.mem_cons_self)), List.forall_mem_cons.mpr ⟨List.mem_cons_of_mem _ (List.mem_cons_of_mem _ (List.mem_cons_of_mem _ (List.mem_cons_self))), List.forall_mem_cons.mpr ⟨List.mem_cons_self, fun _ h => absurd h List.not_mem_nil⟩⟩⟩⟩)) ?_
              exact ih31 lf gs (ro + 1) w44 (by omega) (by omega) (by omega) (by omega) (hI45) (hF46)
        exact key41 _ le gr 0 w33 (Nat.lt_succ_self _) (by omega) (by omega) (by omega) (hI34) (hF35)
      · refine xg_t (xg_icT (u := ro) (v := f3_23) rfl xnm0 xnm0 (xj_geT (by omega) (by omega))) ?_
        refine xg_t (xg_blk (b := [(79, 1, 2, 2, 0, 0), (80, 1, 2, 1, 0, 0), (81, 1, 18, 0, 0, 0), (82, 1, 12, 0, 1, 0)]) rfl) ?_
        refine xg_t (xg_iload (va := (0, gr)) rfl rfl) ?_
        refine xg_t (xg_iload (va := (0, le)) rfl rfl) ?_
        refine xg_k (xg_isub (u := gr) (v := le) (z := (gr + (4294967296 - le)) % 4294967296) xnm0 xnm0 rfl) (Nat.mod_lt _ (by decide)) (fun z68 hz69 => ?_)
        exact xg_e ⟨z68, w33, ⟨rfl, rfl⟩, by omega, hI34, hF35⟩
  exact key30 _ 1000 0 0 w (Nat.lt_succ_self _) (by omega) (by omega) (by omega) (hI) (xFr.rf)
theorem lmRoundsOfLamp {ro co sh : Nat} (hI : xInv w) (hr1 : ro ≤ 5) (hc1 : co ≤ 5) (hs1 : sh ≤ 5) : xPi (d + 1) mX3_roundsOfLamp [(2, 68), (0, ro), (0, co), (0, sh)] w bd fc rr (fun n w' => (n ≤ 4294967295) ∧ xInv w' ∧ xFr [] w w') := by
  refine xPi.of ?_
  show xTo (d + 1) mX3_roundsOfLamp (0, [], [(0, (2, 68)), (1, (0, ro)), (2, (0, co)), (3, (0, sh))], [], (w, bd, fc, 0, 0, rr)) (fun φ => ∃ n w', xEnd 1 [(0, n)] (w', bd, fc, 0, 0, rr) φ ∧ (n ≤ 4294967295) ∧ xInv w' ∧ xFr [] w w')
  obtain ⟨f68_1, f68_3, h68_5, hb2, hb4⟩ := (hI 68 (by decide) : cp68 (wget w 68))
  obtain ⟨f1_6, f1_8, f1_10, f1_12, f1_14, f1_16, h1_18, hb7, hb9, hb11, hb13, hb15, hb17⟩ := (hI 1 (by decide) : cp1 (wget w 1))
  obtain ⟨f3_19, f3_21, f3_23, f3_25, f3_27, h3_29, hb20, hb22, hb24, hb26, hb28⟩ := (hI 3 (by decide) : cp3 (wget w 3))
  refine xg_t (xg_blk (b := [(0, 1, 0, 0, 0, 0), (1, 3, 1, 3, 0, 21), (4, 3, 1, 9, 4, 66), (7, 3, 1, 1, 8, 73), (10, 2, 15, 4, 0, 0), (12, 1, 3, 0, 0, 0), (13, 2, 15, 5, 0, 0), (15, 1, 3, 0, 0, 0), (16, 2, 15, 6, 0, 0)]) rfl) ?_
  refine xg_t (xg_aload (va := (2, 68)) rfl rfl) ?_
  refine xg_t (xg_getf (va := (2, 1)) h68_5 rfl) ?_
  refine xg_t (xg_getf (va := (2, 3)) h1_18 rfl) ?_
  refine xg_t (xg_getf (va := (0, f3_25)) h3_29 rfl) ?_
  refine xg_t (xg_istore (l1 := [(0, (2, 68)), (1, (0, ro)), (2, (0, co)), (3, (0, sh))]) rfl rfl rfl) ?_
  refine xg_t (xg_const) ?_
  refine xg_t (xg_istore (l1 := [(4, (0, f3_25)), (0, (2, 68)), (1, (0, ro)), (2, (0, co)), (3, (0, sh))]) rfl rfl rfl) ?_
  refine xg_t (xg_const) ?_
  refine xg_t (xg_istore (l1 := [(5, (0, 0)), (4, (0, f3_25)), (0, (2, 68)), (1, (0, ro)), (2, (0, co)), (3, (0, sh))]) rfl rfl rfl) ?_
  refine xg_t (xg_drop (l1 := [(0, (2, 68)), (1, (0, ro)), (2, (0, co)), (3, (0, sh)), (4, (0, f3_25)), (5, (0, 0)), (6, (0, 0))]) (List.forall_mem_cons.mpr ⟨List.mem_cons_of_mem _ (List.mem_cons_of_mem _ (List.mem_cons_of_mem _ (List.mem_cons_self))), List.forall_mem_cons.mpr ⟨List.mem_cons_of_mem _ (List.mem_cons_of_mem _ (List.mem_cons_of_mem _ (List.mem_cons_of_mem _ (List.mem_cons_self)))), List.forall_mem_cons.mpr ⟨List.mem_cons_of_mem _ (List.mem_cons_of_mem _ (List.mem_cons_of_mem _ (List.mem_cons_of_mem _ (List.mem_cons_of_mem _ (List.mem_cons_self))))), List.forall_mem_cons.mpr ⟨List.mem_cons_of_mem _ (List.mem_cons_of_mem _ (List.mem_cons_of_mem _ (List.mem_cons_of_mem _ (List.mem_cons_of_mem _ (List.mem_cons_of_mem _ (List.mem_cons_self)))))), List.forall_mem_cons.mpr ⟨List.mem_cons_of_mem _ (List.mem_cons_of_mem _ (List.mem_cons_self)), List.forall_mem_cons.mpr ⟨List.mem_cons_of_mem _ (List.mem_cons_self), List.forall_mem_cons.mpr ⟨List.mem_cons_self, fun _ h => absurd h List.not_mem_nil⟩⟩⟩⟩⟩⟩⟩)) ?_
  have key30 : ∀ (m32 : Nat) (tu ni : Nat) (w33 : List (List xE)), 6 - ni < m32 → tu ≤ 4294967295 → ni ≤ 6 → xInv w33 → xFr [] w w33 → xTo (d + 1) mX3_roundsOfLamp (18, [], [(0, (2, 68)), (1, (0, ro)), (2, (0, co)), (3, (0, sh)), (4, (0, f3_25)), (5, (0, tu)), (6, (0, ni))], [], (w33, bd, fc, 0, 0, rr)) (fun φ => ∃ n w', xEnd 1 [(0, n)] (w', bd, fc, 0, 0, rr) φ ∧ (n ≤ 4294967295) ∧ xInv w' ∧ xFr [] w w') := by
    intro m32
    induction m32 with
    | zero => intro tu ni w33 hz; exact absurd hz (Nat.not_lt_zero _)
    | succ m32 ih31 =>
      intro tu ni w33 hm38 hn36 hn37 hI34 hF35
      refine xg_t (xg_blk (b := [(18, 2, 2, 6, 0, 0), (20, 2, 2, 4, 0, 0), (22, 3, 6, 47, 3, 0), (25, 2, 2, 5, 0, 0), (27, 1, 0, 0, 0, 0), (28, 1, 2, 1, 0, 0), (29, 1, 2, 2, 0, 0), (30, 2, 2, 6, 0, 0), (32, 1, 2, 3, 0, 0), (33, 1, 16, 0, 0, 0), (34, 1, 11, 0, 0, 0), (35, 3, 13, 256, 24, 100), (38, 1, 11, 0, 0, 0), (39, 2, 15, 5, 0, 0), (41, 3, 9, 6, 1, 0), (44, 3, 8, 18, 0, 0)]) rfl) ?_
      refine xg_t (xg_iload (va := (0, ni)) rfl rfl) ?_
      refine xg_t (xg_iload (va := (0, f3_25)) rfl rfl) ?_
      by_cases hc39 : ni < f3_25
      · refine xg_t (xg_icF (u := ni) (v := f3_25) rfl xnm0 xnm0 (xj_geF hc39 (by omega))) ?_
        refine xg_t (xg_iload (va := (0, tu)) rfl rfl) ?_
        refine xg_t (xg_aload (va := (2, 68)) rfl rfl) ?_
        refine xg_t (xg_iload (va := (0, ro)) rfl rfl) ?_
        refine xg_t (xg_iload (va := (0, co)) rfl rfl) ?_
        refine xg_t (xg_iload (va := (0, ni)) rfl rfl) ?_
        refine xg_t (xg_iload (va := (0, sh)) rfl rfl) ?_
        have hm40 : ni * sh ≤ 5 * 5 := Nat.mul_le_mul (by omega) (by omega)
        refine xg_t (xg_imul (u := ni) (v := sh) (z := ni * sh) xnm0 xnm0 (Nat.mod_eq_of_lt (by omega))) ?_
        refine xg_t (xg_iadd (u := co) (v := ni * sh) (z := co + (ni * sh)) xnm0 xnm0 (by omega)) ?_
        refine xg_cVi mX3_agingIn (vs := [(0, ro), (0, co + (ni * sh))]) (rest := [(0, tu)]) (cn1 := 0) (sl1 := 0) rfl (lmAgingIn (hI34) (by omega) (by omega)) rfl (hF35.get (by decide) h68_5) rfl rfl rfl rfl rfl rfl (fun n45 w41 hq42 => ?_)
        obtain ⟨hn46, hI43, hF44⟩ := hq42
        refine xg_k (xg_iadd (u := tu) (v := n45) (z := (tu + n45) % 4294967296) xnm0 xnm0 rfl) (Nat.mod_lt _ (by decide)) (fun z47 hz48 => ?_)
        refine xg_t (xg_istore (l1 := [(0, (2, 68)), (1, (0, ro)), (2, (0, co)), (3, (0, sh)), (4, (0, f3_25)), (6, (0, ni))]) rfl rfl rfl) ?_
        refine xg_t (xg_iinc (u := ni) (z := ni + 1) (l1 := [(5, (0, z47)), (0, (2, 68)), (1, (0, ro)), (2, (0, co)), (3, (0, sh)), (4, (0, f3_25))]) rfl rfl (by omega) rfl) ?_
        refine xg_t (xg_goto) ?_
        refine xg_t (xg_drop (l1 := [(0, (2, 68)), (1, (0, ro)), (2, (0, co)), (3, (0, sh)), (4, (0, f3_25)), (5, (0, z47)), (6, (0, ni + 1))]) (List.forall_mem_cons.mpr ⟨List.mem_cons_of_mem _ (List.mem_cons_of_mem _ (List.mem_cons_self)), List.forall_mem_cons.mpr ⟨List.mem_cons_of_mem _ (List.mem_cons_of_mem _ (List.mem_cons_of_mem _ (List.mem_cons_self))), List.forall_mem_cons.mpr ⟨List.mem_cons_of_mem _ (List.mem_cons_of_mem _ (List.mem_cons_of_mem _ (List.mem_cons_of_mem _ (List.mem_cons_self)))), List.forall_mem_cons.mpr ⟨List.mem_cons_of_mem _ (List.mem_cons_of_mem _ (List.mem_cons_of_mem _ (List.mem_cons_of_mem _ (List.mem_cons_of_mem _ (List.mem_cons_self))))), List.forall_mem_cons.mpr ⟨List.mem_cons_of_mem _ (List.mem_cons_of_mem _ (List.mem_cons_of_mem _ (List.mem_cons_of_mem _ (List.mem_cons_of_mem _ (List.mem_cons_of_mem _ (List.mem_cons_self)))))), List.forall_mem_cons.mpr ⟨List.mem_cons_of_mem _ (List.mem_cons_self), List.forall_mem_cons.mpr ⟨List.mem_cons_self, fun _ h => absurd h List.not_mem_nil⟩⟩⟩⟩⟩⟩⟩)) ?_
        exact ih31 z47 (ni + 1) w41 (by omega) (by omega) (by omega) (hI43) ((hF35.tr (hF44.up (by decide))))
      · refine xg_t (xg_icT (u := ni) (v := f3_25) rfl xnm0 xnm0 (xj_geT (by omega) (by omega))) ?_
        refine xg_t (xg_blk (b := [(47, 2, 2, 5, 0, 0), (49, 3, 7, 56, 1, 0), (52, 3, 5, 1000, 0, 0), (55, 1, 12, 0, 1, 0)]) rfl) ?_
        refine xg_t (xg_iload (va := (0, tu)) rfl rfl) ?_
        by_cases hc49 : tu = 0
        · refine xg_t (xg_ifF (u := tu) rfl xnm0 (xj_neF hc49)) ?_
          refine xg_t (xg_sip) ?_
          exact xg_e ⟨1000, w33, ⟨rfl, rfl⟩, by omega, hI34, hF35⟩
        · refine xg_t (xg_ifT (u := tu) rfl xnm0 (xj_neT hc49)) ?_
          refine xg_t (xg_blk (b := [(56, 3, 5, 9999, 0, 0), (59, 2, 2, 5, 0, 0), (61, 1, 20, 0, 0, 0), (62, 2, 15, 6, 0, 0), (64, 2, 2, 6, 0, 0), (66, 2, 2, 4, 0, 0), (68, 1, 16, 0, 0, 0), (69, 2, 15, 7, 0, 0), (71, 2, 2, 6, 0, 0), (73, 2, 2, 5, 0, 0), (75, 1, 16, 0, 0, 0), (76, 2, 15, 8, 0, 0), (78, 1, 3, 0, 0, 0), (79, 2, 15, 9, 0, 0)]) rfl) ?_
          refine xg_t (xg_sip) ?_
          refine xg_t (xg_iload (va := (0, tu)) rfl rfl) ?_
          refine xg_k (xg_idivG (u := 9999) (v := tu) (by omega) xnm0 xnm0) (xpt_lt _) (fun z50 hz51 => ?_)
          refine xg_t (xg_istore (l1 := [(0, (2, 68)), (1, (0, ro)), (2, (0, co)), (3, (0, sh)), (4, (0, f3_25)), (5, (0, tu))]) rfl rfl rfl) ?_
          refine xg_t (xg_iload (va := (0, z50)) rfl rfl) ?_
          refine xg_t (xg_iload (va := (0, f3_25)) rfl rfl) ?_
          refine xg_k (xg_imul (u := z50) (v := f3_25) (z := (z50 * f3_25) % 4294967296) xnm0 xnm0 rfl) (Nat.mod_lt _ (by decide)) (fun z52 hz53 => ?_)
          refine xg_t (xg_istore (l1 := [(6, (0, z50)), (0, (2, 68)), (1, (0, ro)), (2, (0, co)), (3, (0, sh)), (4, (0, f3_25)), (5, (0, tu))]) rfl rfl rfl) ?_
          refine xg_t (xg_iload (va := (0, z50)) rfl rfl) ?_
          refine xg_t (xg_iload (va := (0, tu)) rfl rfl) ?_
          refine xg_k (xg_imul (u := z50) (v := tu) (z := (z50 * tu) % 4294967296) xnm0 xnm0 rfl) (Nat.mod_lt _ (by decide)) (fun z54 hz55 => ?_)
          refine xg_t (xg_istore (l1 := [(7, (0, z52)), (6, (0, z50)), (0, (2, 68)), (1, (0, ro)), (2, (0, co)), (3, (0, sh)), (4, (0, f3_25)), (5, (0, tu))]) rfl rfl rfl) ?_
          refine xg_t (xg_const) ?_
          refine xg_t (xg_istore (l1 := [(8, (0, z54)), (7, (0, z52)), (6, (0, z50)), (0, (2, 68)), (1, (0, ro)), (2, (0, co)), (3, (0, sh)), (4, (0, f3_25)), (5, (0, tu))]) rfl rfl rfl) ?_
          refine xg_t (xg_drop (l1 := [(0, (2, 68)), (1, (0, ro)), (2, (0, co)), (3, (0, sh)), (4, (0, f3_25)), (5, (0, tu)), (6, (0, z50)), (7, (0, z52)), (8, (0, z54)), (9, (0, 0))]) (List.forall_mem_cons.mpr ⟨List.mem_cons_of_mem _ (List.mem_cons_of_mem _ (List.mem_cons_of_mem _ (List.mem_cons_of_mem _ (List.mem_cons_self)))), List.forall_mem_cons.mpr ⟨List.mem_cons_of_mem _ (List.mem_cons_of_mem _ (List.mem_cons_of_mem _ (List.mem_cons_of_mem _ (List.mem_cons_of_mem _ (List.mem_cons_self))))), List.forall_mem_cons.mpr ⟨List.mem_cons_of_mem _ (List.mem_cons_of_mem _ (List.mem_cons_of_mem _ (List.mem_cons_of_mem _ (List.mem_cons_of_mem _ (List.mem_cons_of_mem _ (List.mem_cons_self)))))), List.forall_mem_cons.mpr ⟨List.mem_cons_of_mem _ (List.mem_cons_of_mem _ (List.mem_cons_of_mem _ (List.mem_cons_of_mem _ (List.mem_cons_of_mem _ (List.mem_cons_of_mem _ (List.mem_cons_of_mem _ (List.mem_cons_self))))))), List.forall_mem_cons.mpr ⟨List.mem_cons_of_mem _ (List.mem_cons_of_mem _ (List.mem_cons_of_mem _ (List.mem_cons_of_mem _ (List.mem_cons_of_mem _ (List.mem_cons_of_mem _ (List.mem_cons_of_mem _ (List.mem_cons_of_mem _ (List.mem_cons_self)))))))), List.forall_mem_cons.mpr ⟨List.mem_cons_of_mem _ (List.mem_cons_of_mem _ (List.mem_cons_of_mem _ (List.mem_cons_of_mem _ (List.mem_cons_of_mem _ (List.mem_cons_of_mem _ (List.mem_cons_of_mem _ (List.mem_cons_of_mem _ (List.mem_cons_of_mem _ (List.mem_cons_self))))))))), List.forall_mem_cons.mpr ⟨List.mem_cons_of_mem _ (List.mem_cons_of_mem _ (List.mem_cons_of_mem _ (List.mem_cons_self))), List.forall_mem_cons.mpr ⟨List.mem_cons_of_mem _ (List.mem_cons_of_mem _ (List.mem_cons_self)), List.forall_mem_cons.mpr ⟨List.mem_cons_of_mem _ (List.mem_cons_self), List.forall_mem_cons.mpr ⟨List.mem_cons_self, fun _ h => absurd h List.not_mem_nil⟩⟩⟩⟩⟩⟩⟩⟩⟩⟩)) ?_
          have key56 : ∀ (m58 : Nat) (rd ag nj : Nat) (w59 : List (List xE)), 6 - nj < m58 → rd ≤ 4294967295 → ag ≤ 4294967295 → nj ≤ 6 → xInv w59 → xFr [] w w59 → xTo (d + 1) mX3_roundsOfLamp (81, [], [(0, (2, 68)), (1, (0, ro)), (2, (0, co)), (3, (0, sh)), (4, (0, f3_25)), (5, (0, tu)), (6, (0, z50)), (7, (0, rd)), (8, (0, ag)), (9, (0, nj))], [], (w59, bd, fc, 0, 0, rr)) (fun φ => ∃ n w', xEnd 1 [(0, n)] (w', bd, fc, 0, 0, rr) φ ∧ (n ≤ 4294967295) ∧ xInv w' ∧ xFr [] w w') := by
            intro m58
            induction m58 with
            | zero => intro rd ag nj w59 hz; exact absurd hz (Nat.not_lt_zero _)
            | succ m58 ih57 =>
              intro rd ag nj w59 hm65 hn62 hn63 hn64 hI60 hF61
              refine xg_t (xg_blk (b := [(81, 2, 2, 9, 0, 0), (83, 2, 2, 4, 0, 0), (85, 3, 6, 129, 3, 0), (88, 2, 2, 8, 0, 0), (90, 3, 5, 9999, 0, 0), (93, 3, 6, 129, 4, 0), (96, 2, 2, 8, 0, 0), (98, 1, 0, 0, 0, 0), (99, 1, 2, 1, 0, 0), (100, 1, 2, 2, 0, 0), (101, 2, 2, 9, 0, 0), (103, 1, 2, 3, 0, 0), (104, 1, 16, 0, 0, 0), (105, 1, 11, 0, 0, 0), (106, 3, 13, 256, 24, 100), (109, 1, 11, 0, 0, 0), (110, 2, 15, 8, 0, 0), (112, 2, 2, 8, 0, 0), (114, 3, 5, 9999, 0, 0), (117, 3, 6, 123, 4, 0), (120, 3, 9, 7, 1, 0)]) rfl) ?_
              refine xg_t (xg_iload (va := (0, nj)) rfl rfl) ?_
              refine xg_t (xg_iload (va := (0, f3_25)) rfl rfl) ?_
              by_cases hc66 : nj < f3_25
              · refine xg_t (xg_icF (u := nj) (v := f3_25) rfl xnm0 xnm0 (xj_geF hc66 (by omega))) ?_
                refine xg_t (xg_iload (va := (0, ag)) rfl rfl) ?_
                refine xg_t (xg_sip) ?_
                by_cases hc67 : xbs 9999 < xbs ag
                · have hc67u := hc67
                  unfold xbs at hc67u
                  have hn68 : ag ≤ 2147483647 := by omega
                  refine xg_t (xg_icT (u := ag) (v := 9999) rfl xnm0 xnm0 (xjs_gtT hc67)) ?_
                  refine xg_t (xg_blk (b := [(129, 2, 2, 7, 0, 0), (131, 1, 12, 0, 1, 0)]) rfl) ?_
                  refine xg_t (xg_iload (va := (0, rd)) rfl rfl) ?_
                  exact xg_e ⟨rd, w59, ⟨rfl, rfl⟩, by omega, hI60, hF61⟩
                · have hc67u := hc67
                  unfold xbs at hc67u
                  refine xg_t (xg_icF (u := ag) (v := 9999) rfl xnm0 xnm0 (xjs_gtF hc67)) ?_
                  refine xg_t (xg_iload (va := (0, ag)) rfl rfl) ?_
                  refine xg_t (xg_aload (va := (2, 68)) rfl rfl) ?_
                  refine xg_t (xg_iload (va := (0, ro)) rfl rfl) ?_
                  refine xg_t (xg_iload (va := (0, co)) rfl rfl) ?_
                  refine xg_t (xg_iload (va := (0, nj)) rfl rfl) ?_
                  refine xg_t (xg_iload (va := (0, sh)) rfl rfl) ?_
                  have hm69 : nj * sh ≤ 5 * 5 := Nat.mul_le_mul (by omega) (by omega)
                  refine xg_t (xg_imul (u := nj) (v := sh) (z := nj * sh) xnm0 xnm0 (Nat.mod_eq_of_lt (by omega))) ?_
                  refine xg_t (xg_iadd (u := co) (v := nj * sh) (z := co + (nj * sh)) xnm0 xnm0 (by omega)) ?_
                  refine xg_cVi mX3_agingIn (vs := [(0, ro), (0, co + (nj * sh))]) (rest := [(0, ag)]) (cn1 := 0) (sl1 := 0) rfl (lmAgingIn (hI60) (by omega) (by omega)) rfl (hF61.get (by decide) h68_5) rfl rfl rfl rfl rfl rfl (fun n74 w70 hq71 => ?_)
                  obtain ⟨hn75, hI72, hF73⟩ := hq71
                  refine xg_k (xg_iadd (u := ag) (v := n74) (z := (ag + n74) % 4294967296) xnm0 xnm0 rfl) (Nat.mod_lt _ (by decide)) (fun z76 hz77 => ?_)
                  refine xg_t (xg_istore (l1 := [(0, (2, 68)), (1, (0, ro)), (2, (0, co)), (3, (0, sh)), (4, (0, f3_25)), (5, (0, tu)), (6, (0, z50)), (7, (0, rd)), (9, (0, nj))]) rfl rfl rfl) ?_
                  refine xg_t (xg_iload (va := (0, z76)) rfl rfl) ?_
                  refine xg_t (xg_sip) ?_
                  by_cases hc78 : xbs 9999 < xbs z76
                  · have hc78u := hc78
                    unfold xbs at hc78u
                    have hn79 : z76 ≤ 2147483647 := by omega
                    refine xg_t (xg_icT (u := z76) (v := 9999) rfl xnm0 xnm0 (xjs_gtT hc78)) ?_
                    refine xg_t (xg_blk (b := [(123, 3, 9, 9, 1, 0), (126, 3, 8, 81, 0, 0)]) rfl) ?_
                    refine xg_t (xg_iinc (u := nj) (z := nj + 1) (l1 := [(8, (0, z76)), (0, (2, 68)), (1, (0, ro)), (2, (0, co)), (3, (0, sh)), (4, (0, f3_25)), (5, (0, tu)), (6, (0, z50)), (7, (0, rd))]) rfl rfl (by omega) rfl) ?_
                    refine xg_t (xg_goto) ?_
                    refine xg_t (xg_drop (l1 := [(0, (2, 68)), (1, (0, ro)), (2, (0, co)), (3, (0, sh)), (4, (0, f3_25)), (5, (0, tu)), (6, (0, z50)), (7, (0, rd)), (8, (0, z76)), (9, (0, nj + 1))]) (List.forall_mem_cons.mpr ⟨List.mem_cons_of_mem _ (List.mem_cons_of_mem _ (List.mem_cons_self)), List.forall_mem_cons.mpr ⟨List.mem_cons_of_mem _ (List.mem_cons_of_mem _ (List.mem_cons_of_mem _ (List.mem_cons_self))), List.forall_mem_cons.mpr ⟨List.mem_cons_of_mem _ (List.mem_cons_of_mem _ (List.mem_cons_of_mem _ (List.mem_cons_of_mem _ (List.mem_cons_self)))), List.forall_mem_cons.mpr ⟨List.mem_cons_of_mem _ (List.mem_cons_of_mem _ (List.mem_cons_of_mem _ (List.mem_cons_of_mem _ (List.mem_cons_of_mem _ (List.mem_cons_self))))), List.forall_mem_cons.mpr ⟨List.mem_cons_of_mem _ (List.mem_cons_of_mem _ (List.mem_cons_of_mem _ (List.mem_cons_of_mem _ (List.mem_cons_of_mem _ (List.mem_cons_of_mem _ (List.mem_cons_self)))))), List.forall_mem_cons.mpr ⟨List.mem_cons_of_mem _ (List.mem_cons_of_mem _ (List.mem_cons_of_mem _ (List.mem_cons_of_mem _ (List.mem_cons_of_mem _ (List.mem_cons_of_mem _ (List.mem_cons_of_mem _ (List.mem_cons_self))))))), List.forall_mem_cons.mpr ⟨List.mem_cons_of_mem _ (List.mem_cons_of_mem _ (List.mem_cons_of_mem _ (List.mem_cons_of_mem _ (List.mem_cons_of_mem _ (List.mem_cons_of_mem _ (List.mem_cons_of_mem _ (List.mem_cons_of_mem _ (List.mem_cons_self)))))))), List.forall_mem_cons.mpr ⟨List.mem_cons_of_mem _ (List.mem_cons_of_mem _ (List.mem_cons_of_mem _ (List.mem_cons_of_mem _ (List.mem_cons_of_mem _ (List.mem_cons_of_mem _ (List.mem_cons_of_mem _ (List.mem_cons_of_mem _ (List.mem_cons_of_mem _ (List.mem_cons_self))))))))), List.forall_mem_cons.mpr ⟨List.mem_cons_of_mem _ (List.mem_cons_self), List.forall_mem_cons.mpr ⟨List.mem_cons_self, fun _ h => absurd h List.not_mem_nil⟩⟩⟩⟩⟩⟩⟩⟩⟩⟩)) ?_
                    exact ih57 rd z76 (nj + 1) w70 (by omega) (by omega) (by omega) (by omega) (hI72) ((hF61.tr (hF73.up (by decide))))
                  · have hc78u := hc78
                    unfold xbs at hc78u
                    refine xg_t (xg_icF (u := z76) (v := 9999) rfl xnm0 xnm0 (xjs_gtF hc78)) ?_
                    refine xg_t (xg_iinc (u := rd) (z := (rd + 1) % 4294967296) (l1 := [(8, (0, z76)), (0, (2, 68)), (1, (0, ro)), (2, (0, co)), (3, (0, sh)), (4, (0, f3_25)), (5, (0, tu)), (6, (0, z50)), (9, (0, nj))]) rfl rfl (rfl) rfl) ?_
                    refine xg_t (xg_blk (b := [(123, 3, 9, 9, 1, 0), (126, 3, 8, 81, 0, 0)]) rfl) ?_
                    refine xg_t (xg_iinc (u := nj) (z := nj + 1) (l1 := [(7, (0, (rd + 1) % 4294967296)), (8, (0, z76)), (0, (2, 68)), (1, (0, ro)), (2, (0, co)), (3, (0, sh)), (4, (0, f3_25)), (5, (0, tu)), (6, (0, z50))]) rfl rfl (by omega) rfl) ?_
                    refine xg_t (xg_goto) ?_
                    refine xg_t (xg_drop (l1 := [(0, (2, 68)), (1, (0, ro)), (2, (0, co)), (3, (0, sh)), (4, (0, f3_25)), (5, (0, tu)), (6, (0, z50)), (7, (0, (rd + 1) % 4294967296)), (8, (0, z76)), (9, (0, nj + 1))]) (List.forall_mem_cons.mpr ⟨List.mem_cons_of_mem _ (List.mem_cons_of_mem _ (List.mem_cons_of_mem _ (List.mem_cons_self))), List.forall_mem_cons.mpr ⟨List.mem_cons_of_mem _ (List.mem_cons_of_mem _ (List.mem_cons_of_mem _ (List.mem_cons_of_mem _ (List.mem_cons_self)))), List.forall_mem_cons.mpr ⟨List.mem_cons_of_mem _ (List.mem_cons_of_mem _ (List.mem_cons_of_mem _ (List.mem_cons_of_mem _ (List.mem_cons_of_mem _ (List.mem_cons_self))))), List.forall_mem_cons.mpr ⟨List.mem_cons_of_mem _ (List.mem_cons_of_mem _ (List.mem_cons_of_mem _ (List.mem_cons_of_mem _ (List.mem_cons_of_mem _ (List.mem_cons_of_mem _ (List.mem_cons_self)))))), List.forall_mem_cons.mpr ⟨List.mem_cons_of_mem _ (List.mem_cons_of_mem _ (List.mem_cons_of_mem _ (List.mem_cons_of_mem _ (List.mem_cons_of_mem _ (List.mem_cons_of_mem _ (List.mem_cons_of_mem _ (List.mem_cons_self))))))), List.forall_mem_cons.mpr ⟨List.mem_cons_of_mem _ (List.mem_cons_of_mem _ (List.mem_cons_of_mem _ (List.mem_cons_of_mem _ (List.mem_cons_of_mem _ (List.mem_cons_of_mem _ (List.mem_cons_of_mem _ (List.mem_cons_of_mem _ (List.mem_cons_self)))))))), List.forall_mem_cons.mpr ⟨List.mem_cons_of_mem _ (List.mem_cons_of_mem _ (List.mem_cons_of_mem _ (List.mem_cons_of_mem _ (List.mem_cons_of_mem _ (List.mem_cons_of_mem _ (List.mem_cons_of_mem _ (List.mem_cons_of_mem _ (List.mem_cons_of_mem _ (List.mem_cons_self))))))))), List.forall_mem_cons.mpr ⟨List.mem_cons_of_mem _ (List.mem_cons_self), List.forall_mem_cons.mpr ⟨List.mem_cons_of_mem _ (List.mem_cons_of_mem _ (List.mem_cons_self)), List.forall_mem_cons.mpr ⟨List.mem_cons_self, fun _ h => absurd h List.not_mem_nil⟩⟩⟩⟩⟩⟩⟩⟩⟩⟩)) ?_
                    exact ih57 ((rd + 1) % 4294967296) z76 (nj + 1) w70 (by omega) (by omega) (by omega) (by omega) (hI72) ((hF61.tr (hF73.up (by decide))))
              · refine xg_t (xg_icT (u := nj) (v := f3_25) rfl xnm0 xnm0 (xj_geT (by omega) (by omega))) ?_
                refine xg_t (xg_blk (b := [(129, 2, 2, 7, 0, 0), (131, 1, 12, 0, 1, 0)]) rfl) ?_
                refine xg_t (xg_iload (va := (0, rd)) rfl rfl) ?_
                exact xg_e ⟨rd, w59, ⟨rfl, rfl⟩, by omega, hI60, hF61⟩
          exact key56 _ z52 z54 0 w33 (Nat.lt_succ_self _) (by omega) (by omega) (by omega) (hI34) (hF35)
  exact key30 _ 0 0 w (Nat.lt_succ_self _) (by omega) (by omega) (hI) (xFr.rf)
theorem lmRoundsWith {sh : Nat} (hI : xInv w) (hs1 : sh ≤ 5) : xPi (d + 2) mX3_roundsWith [(2, 68), (0, sh)] w bd fc rr (fun n w' => (n ≤ 4294967295) ∧ xInv w' ∧ xFr [] w w') := by
  refine xPi.of ?_
  show xTo (d + 2) mX3_roundsWith (0, [], [(0, (2, 68)), (1, (0, sh))], [], (w, bd, fc, 0, 0, rr)) (fun φ => ∃ n w', xEnd 1 [(0, n)] (w', bd, fc, 0, 0, rr) φ ∧ (n ≤ 4294967295) ∧ xInv w' ∧ xFr [] w w')
  obtain ⟨f68_1, f68_3, h68_5, hb2, hb4⟩ := (hI 68 (by decide) : cp68 (wget w 68))
  obtain ⟨f1_6, f1_8, f1_10, f1_12, f1_14, f1_16, h1_18, hb7, hb9, hb11, hb13, hb15, hb17⟩ := (hI 1 (by decide) : cp1 (wget w 1))
  obtain ⟨f3_19, f3_21, f3_23, f3_25, f3_27, h3_29, hb20, hb22, hb24, hb26, hb28⟩ := (hI 3 (by decide) : cp3 (wget w 3))
  refine xg_t (xg_blk (b := [(0, 3, 5, 1000, 0, 0), (3, 1, 15, 2, 0, 0), (4, 1, 3, 0, 0, 0), (5, 1, 15, 3, 0, 0)]) rfl) ?_
  refine xg_t (xg_sip) ?_
  refine xg_t (xg_istore (l1 := [(0, (2, 68)), (1, (0, sh))]) rfl rfl rfl) ?_
  refine xg_t (xg_const) ?_
  refine xg_t (xg_istore (l1 := [(2, (0, 1000)), (0, (2, 68)), (1, (0, sh))]) rfl rfl rfl) ?_
  refine xg_t (xg_drop (l1 := [(0, (2, 68)), (1, (0, sh)), (2, (0, 1000)), (3, (0, 0))]) (List.forall_mem_cons.mpr ⟨List.mem_cons_of_mem _ (List.mem_cons_of_mem _ (List.mem_cons_self)), List.forall_mem_cons.mpr ⟨List.mem_cons_of_mem _ (List.mem_cons_of_mem _ (List.mem_cons_of_mem _ (List.mem_cons_self))), List.forall_mem_cons.mpr ⟨List.mem_cons_of_mem _ (List.mem_cons_self), List.forall_mem_cons.mpr ⟨List.mem_cons_self, fun _ h => absurd h List.not_mem_nil⟩⟩⟩⟩)) ?_
  have key30 : ∀ (m32 : Nat) (rd ro : Nat) (w33 : List (List xE)), 6 - ro < m32 → rd ≤ 4294967295 → ro ≤ 6 → xInv w33 → xFr [] w w33 → xTo (d + 2) mX3_roundsWith (6, [], [(0, (2, 68)), (1, (0, sh)), (2, (0, rd)), (3, (0, ro))], [], (w33, bd, fc, 0, 0, rr)) (fun φ => ∃ n w', xEnd 1 [(0, n)] (w', bd, fc, 0, 0, rr) φ ∧ (n ≤ 4294967295) ∧ xInv w' ∧ xFr [] w w') := by
    intro m32
    induction m32 with
    | zero => intro rd ro w33 hz; exact absurd hz (Nat.not_lt_zero _)
    | succ m32 ih31 =>
      intro rd ro w33 hm38 hn36 hn37 hI34 hF35
      refine xg_t (xg_blk (b := [(6, 1, 2, 3, 0, 0), (7, 1, 0, 0, 0, 0), (8, 3, 1, 3, 0, 21), (11, 3, 1, 9, 4, 66), (14, 3, 1, 1, 7, 70), (17, 3, 6, 63, 3, 0), (20, 1, 3, 0, 0, 0), (21, 2, 15, 4, 0, 0)]) rfl) ?_
      refine xg_t (xg_iload (va := (0, ro)) rfl rfl) ?_
      refine xg_t (xg_aload (va := (2, 68)) rfl rfl) ?_
      refine xg_t (xg_getf (va := (2, 1)) (hF35.get (by decide) h68_5) rfl) ?_
      refine xg_t (xg_getf (va := (2, 3)) (hF35.get (by decide) h1_18) rfl) ?_
      refine xg_t (xg_getf (va := (0, f3_23)) (hF35.get (by decide) h3_29) rfl) ?_
      by_cases hc39 : ro < f3_23
      · refine xg_t (xg_icF (u := ro) (v := f3_23) rfl xnm0 xnm0 (xj_geF hc39 (by omega))) ?_
        refine xg_t (xg_const) ?_
        refine xg_t (xg_istore (l1 := [(0, (2, 68)), (1, (0, sh)), (2, (0, rd)), (3, (0, ro))]) rfl rfl rfl) ?_
        refine xg_t (xg_drop (l1 := [(0, (2, 68)), (1, (0, sh)), (2, (0, rd)), (3, (0, ro)), (4, (0, 0))]) (List.forall_mem_cons.mpr ⟨List.mem_cons_of_mem _ (List.mem_cons_self), List.forall_mem_cons.mpr ⟨List.mem_cons_of_mem _ (List.mem_cons_of_mem _ (List.mem_cons_self)), List.forall_mem_cons.mpr ⟨List.mem_cons_of_mem _ (List.mem_cons_of_mem _ (List.mem_cons_of_mem _ (List.mem_cons_self))), List.forall_mem_cons.mpr ⟨List.mem_cons_of_mem _ (List.mem_cons_of_mem _ (List.mem_cons_of_mem _ (List.mem_cons_of_mem _ (List.mem_cons_self)))), List.forall_mem_cons.mpr ⟨List.mem_cons_self, fun _ h => absurd h List.not_mem_nil⟩⟩⟩⟩⟩)) ?_
        have key40 : ∀ (m42 : Nat) (re co : Nat) (w43 : List (List xE)), 6 - co < m42 → re ≤ 4294967295 → co ≤ 6 → xInv w43 → xFr [] w w43 → xTo (d + 2) mX3_roundsWith (23, [], [(0, (2, 68)), (1, (0, sh)), (2, (0, re)), (3, (0, ro)), (4, (0, co))], [], (w43, bd, fc, 0, 0, rr)) (fun φ => ∃ n w', xEnd 1 [(0, n)] (w', bd, fc, 0, 0, rr) φ ∧ (n ≤ 4294967295) ∧ xInv w' ∧ xFr [] w w') := by
          intro m42
          induction m42 with
          | zero => intro re co w43 hz; exact absurd hz (Nat.not_lt_zero _)
          | succ m42 ih41 =>
            intro re co w43 hm48 hn46 hn47 hI44 hF45
            refine xg_t (xg_blk (b := [(23, 2, 2, 4, 0, 0), (25, 1, 0, 0, 0, 0), (26, 3, 1, 3, 0, 21), (29, 3, 1, 9, 4, 66), (32, 3, 1, 1, 8, 73), (35, 3, 6, 57, 3, 0), (38, 1, 2, 2, 0, 0), (39, 1, 0, 0, 0, 0), (40, 1, 2, 3, 0, 0), (41, 2, 2, 4, 0, 0), (43, 1, 2, 1, 0, 0), (44, 3, 13, 267, 24, 96), (47, 3, 63, 0, 0, 58), (50, 1, 15, 2, 0, 0), (51, 3, 9, 4, 1, 0), (54, 3, 8, 23, 0, 0)]) rfl) ?_
            refine xg_t (xg_iload (va := (0, co)) rfl rfl) ?_
            refine xg_t (xg_aload (va := (2, 68)) rfl rfl) ?_
            refine xg_t (xg_getf (va := (2, 1)) (hF45.get (by decide) h68_5) rfl) ?_
            refine xg_t (xg_getf (va := (2, 3)) (hF45.get (by decide) h1_18) rfl) ?_
            refine xg_t (xg_getf (va := (0, f3_25)) (hF45.get (by decide) h3_29) rfl) ?_
            by_cases hc49 : co < f3_25
            · refine xg_t (xg_icF (u := co) (v := f3_25) rfl xnm0 xnm0 (xj_geF hc49 (by omega))) ?_
              refine xg_t (xg_iload (va := (0, re)) rfl rfl) ?_
              refine xg_t (xg_aload (va := (2, 68)) rfl rfl) ?_
              refine xg_t (xg_iload (va := (0, ro)) rfl rfl) ?_
              refine xg_t (xg_iload (va := (0, co)) rfl rfl) ?_
              refine xg_t (xg_iload (va := (0, sh)) rfl rfl) ?_
              refine xg_cVi mX3_roundsOfLamp (vs := [(0, ro), (0, co), (0, sh)]) (rest := [(0, re)]) (cn1 := 0) (sl1 := 0) rfl (lmRoundsOfLamp (hI44) (by omega) (by omega) (by omega)) rfl (hF45.get (by decide) h68_5) rfl rfl rfl rfl rfl rfl (fun n54 w50 hq51 => ?_)
              obtain ⟨hn55, hI52, hF53⟩ := hq51
              refine xg_minK (u := re) (v := n54) xnm0 xnm0 xmx_ok (by omega) (by omega) (fun z56 hz57 hz58 hz59 hz60 => ?_)
              unfold xbs at hz58 hz59
              refine xg_t (xg_istore (l1 := [(0, (2, 68)), (1, (0, sh)), (3, (0, ro)), (4, (0, co))]) rfl rfl rfl) ?_
              refine xg_t (xg_iinc (u := co) (z := co + 1) (l1 := [(2, (0, z56)), (0, (2, 68)), (1, (0, sh)), (3, (0, ro))]) rfl rfl (by omega) rfl) ?_
              refine xg_t (xg_goto) ?_
              refine xg_t (xg_drop (l1 := [(0, (2, 68)), (1, (0, sh)), (2, (0, z56)), (3, (0, ro)), (4, (0, co + 1))]) (List.forall_mem_cons.mpr ⟨List.mem_cons_of_mem _ (List.mem_cons_of_mem _ (List.mem_cons_self)), List.forall_mem_cons.mpr ⟨List.mem_cons_of_mem _ (List.mem_cons_of_mem _ (List.mem_cons_of_mem _ (List.mem_cons_self))), List.forall_mem_cons.mpr ⟨List.mem_cons_of_mem _ (List.mem_cons_self), List.forall_mem_cons.mpr ⟨List.mem_cons_of_mem _ (List.mem_cons_of_mem _ (List.mem_cons_of_mem _ (List.mem_cons_of_mem _ (List.mem_cons_self)))), List.forall_mem_cons.mpr ⟨List.mem_cons_self, fun _ h => absurd h List.not_mem_nil⟩⟩⟩⟩⟩)) ?_
              exact ih41 z56 (co + 1) w50 (by omega) (by omega) (by omega) (hI52) ((hF45.tr (hF53.up (by decide))))
            · refine xg_t (xg_icT (u := co) (v := f3_25) rfl xnm0 xnm0 (xj_geT (by omega) (by omega))) ?_
              refine xg_t (xg_blk (b := [(57, 3, 9, 3, 1, 0), (60, 3, 8, 6, 0, 0)]) rfl) ?_
              refine xg_t (xg_iinc (u := ro) (z := ro + 1) (l1 := [(0, (2, 68)), (1, (0, sh)), (2, (0, re)), (4, (0, co))]) rfl rfl (by omega) rfl) ?_
              refine xg_t (xg_goto) ?_
              refine xg_t (xg_drop (l1 := [(0, (2, 68)), (1, (0, sh)), (2, (0, re)), (3, (0, ro + 1))]) (List.forall_mem_cons.mpr ⟨List.mem_cons_of_mem _ (List.mem_cons_self), List.forall_mem_cons.mpr ⟨List.mem_cons_of_mem _ (List.mem_cons_of_mem _ (List.mem_cons_self)), List.forall_mem_cons.mpr ⟨List.mem_cons_of_mem _ (List.mem_cons_of_mem _ (List.mem_cons_of_mem _ (List.mem_cons_self))), List.forall_mem_cons.mpr ⟨List.mem_cons_self, fun _ h => absurd h List.not_mem_nil⟩⟩⟩⟩)) ?_
              exact ih31 re (ro + 1) w43 (by omega) (by omega) (by omega) (hI44) (hF45)
        exact key40 _ rd 0 w33 (Nat.lt_succ_self _) (by omega) (by omega) (hI34) (hF35)
      · refine xg_t (xg_icT (u := ro) (v := f3_23) rfl xnm0 xnm0 (xj_geT (by omega) (by omega))) ?_
        refine xg_t (xg_blk (b := [(63, 1, 2, 2, 0, 0), (64, 1, 12, 0, 1, 0)]) rfl) ?_
        refine xg_t (xg_iload (va := (0, rd)) rfl rfl) ?_
        exact xg_e ⟨rd, w33, ⟨rfl, rfl⟩, by omega, hI34, hF35⟩
  exact key30 _ 1000 0 w (Nat.lt_succ_self _) (by omega) (by omega) (hI) (xFr.rf)
end XLM
