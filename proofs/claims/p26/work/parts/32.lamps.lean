/-! Lamps: every method ends and keeps what holds of the cells -/
section XLM
variable {d : Nat} {w : List (List xE)} {bd : List (Nat × Nat)} {fc : List (Nat × Nat × Bool)} {rr : Nat × Nat}
theorem lmForgetAges (hI : xInv w)  : xPq d mX3_forgetAges [(2, 68)] w bd fc rr [] (fun w' => xInv w' ∧ xFr [68] w w') := by
  refine xPq.of ?_
  show xTo d mX3_forgetAges (0, [], [(0, (2, 68))], [], (w, bd, fc, 0, 0, rr)) (fun φ => ∃ w', xEnd 0 [] (w', bd, fc, 0, 0, rr) φ ∧ xInv w' ∧ xFr [68] w w')
  refine xg_t (xg_blk (b := [(0, 1, 0, 0, 0, 0), (1, 1, 3, 0, 0, 0), (2, 3, 59, 3, 4, 25), (5, 1, 12, 0, 0, 0)]) rfl) ?_
  refine xg_t (xg_aload (va := (2, 68)) rfl rfl) ?_
  refine xg_t (xg_const) ?_
  obtain ⟨f68_1, f68_3, h68_5, hb2, hb4⟩ := (hI 68 (by decide) : cp68 (wget w 68))
  refine xg_putZ (fl1 := [(2, 1), (2, 69), (2, 70), (2, 71), (0, 0), (0, f68_3)]) h68_5 rfl rfl rfl (fun w6 hk7 hb8 => ?_)
  exact xg_e ⟨w6, ⟨rfl, rfl⟩, xInv.up (S := [68]) hI (xFr.of (S := [68]) hb8 (by decide)) (List.forall_mem_cons.mpr ⟨(show cp68 (wget w6 68) from ⟨0, f68_3, hk7, by omega, by omega⟩), fun _ h => absurd h List.not_mem_nil⟩), (xFr.of (S := [68]) hb8 (by decide))⟩
theorem lmForgetDamp (hI : xInv w)  : xPq d mX3_forgetDamp [(2, 68)] w bd fc rr [] (fun w' => xInv w' ∧ xFr [68] w w') := by
  refine xPq.of ?_
  show xTo d mX3_forgetDamp (0, [], [(0, (2, 68))], [], (w, bd, fc, 0, 0, rr)) (fun φ => ∃ w', xEnd 0 [] (w', bd, fc, 0, 0, rr) φ ∧ xInv w' ∧ xFr [68] w w')
  refine xg_t (xg_blk (b := [(0, 1, 0, 0, 0, 0), (1, 1, 3, 0, 0, 0), (2, 3, 59, 3, 5, 29), (5, 1, 12, 0, 0, 0)]) rfl) ?_
  refine xg_t (xg_aload (va := (2, 68)) rfl rfl) ?_
  refine xg_t (xg_const) ?_
  obtain ⟨f68_1, f68_3, h68_5, hb2, hb4⟩ := (hI 68 (by decide) : cp68 (wget w 68))
  refine xg_putZ (fl1 := [(2, 1), (2, 69), (2, 70), (2, 71), (0, f68_1), (0, 0)]) h68_5 rfl rfl rfl (fun w6 hk7 hb8 => ?_)
  exact xg_e ⟨w6, ⟨rfl, rfl⟩, xInv.up (S := [68]) hI (xFr.of (S := [68]) hb8 (by decide)) (List.forall_mem_cons.mpr ⟨(show cp68 (wget w6 68) from ⟨f68_1, 0, hk7, by omega, by omega⟩), fun _ h => absurd h List.not_mem_nil⟩), (xFr.of (S := [68]) hb8 (by decide))⟩
theorem lmLeftOf {pt : Nat} (hI : xInv w) (hp1 : pt ≤ 35) : xPi (d + 1) mX3_leftOf [(2, 68), (0, pt)] w bd fc rr (fun n w' => n ≤ 4294967295 ∧ xInv w' ∧ xFr [] w w') := by
  refine xPi.of ?_
  show xTo (d + 1) mX3_leftOf (0, [], [(0, (2, 68)), (1, (0, pt))], [], (w, bd, fc, 0, 0, rr)) (fun φ => ∃ n w', xEnd 1 [(0, n)] (w', bd, fc, 0, 0, rr) φ ∧ n ≤ 4294967295 ∧ xInv w' ∧ xFr [] w w')
  refine xg_t (xg_blk (b := [(0, 1, 3, 0, 0, 0), (1, 3, 5, 1000, 0, 0), (4, 1, 0, 0, 0, 0), (5, 3, 1, 3, 1, 9), (8, 1, 2, 1, 0, 0), (9, 1, 10, 0, 0, 0), (10, 2, 4, 10, 0, 0), (12, 1, 20, 0, 0, 0), (13, 1, 18, 0, 0, 0), (14, 3, 62, 0, 0, 63), (17, 1, 12, 0, 1, 0)]) rfl) ?_
  refine xg_t (xg_const) ?_
  refine xg_t (xg_sip) ?_
  refine xg_t (xg_aload (va := (2, 68)) rfl rfl) ?_
  obtain ⟨f68_1, f68_3, h68_5, hb2, hb4⟩ := (hI 68 (by decide) : cp68 (wget w 68))
  refine xg_t (xg_getf (va := (2, 69)) h68_5 rfl) ?_
  refine xg_t (xg_iload (va := (0, pt)) rfl rfl) ?_
  obtain ⟨g69_6, h69_7, hb8⟩ := (hI 69 (by decide) : cpI 36 40 4294967295 (wget w 69))
  have h69_7 : xRow w 69 36 40 g69_6 := h69_7
  refine xg_ialdB (n := pt) (B := 4294967295) h69_7 (hb8) xnm0 (by omega) (fun u9 hu10 he11 => ?_)
  refine xg_t (xg_bip) ?_
  refine xg_k (xg_idivG (u := u9) (v := 10) (by decide) xnm0 xnm0) (xpt_lt _) (fun z12 hz13 => ?_)
  refine xg_k (xg_isub (u := 1000) (v := z12) (z := (1000 + (4294967296 - z12)) % 4294967296) xnm0 xnm0 rfl) (Nat.mod_lt _ (by decide)) (fun z14 hz15 => ?_)
  refine xg_maxK (u := 0) (v := z14) xnm0 xnm0 xmx_ok (by omega) (by omega) (fun z16 hz17 hz18 hz19 hz20 => ?_)
  unfold xbs at hz18 hz19
  exact xg_e ⟨z16, w, ⟨rfl, rfl⟩, by omega, hI, xFr.rf⟩
theorem lmIsDamp {pt : Nat} (hI : xInv w) (hp1 : pt ≤ 35) : xPi d mX3_isDamp [(2, 68), (0, pt)] w bd fc rr (fun n w' => n ≤ 1 ∧ xInv w' ∧ xFr [] w w') := by
  refine xPi.of ?_
  show xTo d mX3_isDamp (0, [], [(0, (2, 68)), (1, (0, pt))], [], (w, bd, fc, 0, 0, rr)) (fun φ => ∃ n w', xEnd 4 [(0, n)] (w', bd, fc, 0, 0, rr) φ ∧ n ≤ 1 ∧ xInv w' ∧ xFr [] w w')
  refine xg_t (xg_blk (b := [(0, 1, 0, 0, 0, 0), (1, 3, 1, 3, 2, 15), (4, 1, 2, 1, 0, 0), (5, 1, 10, 0, 0, 0), (6, 2, 4, 50, 0, 0), (8, 3, 6, 15, 2, 0), (11, 1, 3, 1, 0, 0), (12, 3, 8, 16, 0, 0)]) rfl) ?_
  refine xg_t (xg_aload (va := (2, 68)) rfl rfl) ?_
  obtain ⟨f68_1, f68_3, h68_5, hb2, hb4⟩ := (hI 68 (by decide) : cp68 (wget w 68))
  refine xg_t (xg_getf (va := (2, 70)) h68_5 rfl) ?_
  refine xg_t (xg_iload (va := (0, pt)) rfl rfl) ?_
  obtain ⟨g70_6, h70_7, hb8⟩ := (hI 70 (by decide) : cpI 36 41 4294967295 (wget w 70))
  have h70_7 : xRow w 70 36 41 g70_6 := h70_7
  refine xg_ialdB (n := pt) (B := 4294967295) h70_7 (hb8) xnm0 (by omega) (fun u9 hu10 he11 => ?_)
  refine xg_t (xg_bip) ?_
  by_cases hc12 : xbs u9 < xbs 50
  · have hc12u := hc12
    unfold xbs at hc12u
    refine xg_t (xg_icT (u := u9) (v := 50) rfl xnm0 xnm0 (xjs_ltT hc12)) ?_
    refine xg_t (xg_blk (b := [(15, 1, 3, 0, 0, 0)]) rfl) ?_
    refine xg_t (xg_const) ?_
    refine xg_t (xg_blk (b := [(16, 1, 12, 0, 1, 0)]) rfl) ?_
    exact xg_e ⟨0, w, ⟨rfl, rfl⟩, by omega, hI, xFr.rf⟩
  · have hc12u := hc12
    unfold xbs at hc12u
    refine xg_t (xg_icF (u := u9) (v := 50) rfl xnm0 xnm0 (xjs_ltF hc12)) ?_
    refine xg_t (xg_const) ?_
    refine xg_t (xg_goto) ?_
    refine xg_t (xg_blk (b := [(16, 1, 12, 0, 1, 0)]) rfl) ?_
    exact xg_e ⟨1, w, ⟨rfl, rfl⟩, by omega, hI, xFr.rf⟩
theorem lmDampAt {ro co : Nat} (hI : xInv w) (hr1 : ro ≤ 4294967295) (hc1 : co ≤ 4294967295) : xPi d mX3_dampAt [(2, 68), (0, ro), (0, co)] w bd fc rr (fun n w' => n ≤ 4294967295 ∧ xInv w' ∧ xFr [] w w') := by
  refine xPi.of ?_
  show xTo d mX3_dampAt (0, [], [(0, (2, 68)), (1, (0, ro)), (2, (0, co))], [], (w, bd, fc, 0, 0, rr)) (fun φ => ∃ n w', xEnd 1 [(0, n)] (w', bd, fc, 0, 0, rr) φ ∧ n ≤ 4294967295 ∧ xInv w' ∧ xFr [] w w')
  obtain ⟨f68_1, f68_3, h68_5, hb2, hb4⟩ := (hI 68 (by decide) : cp68 (wget w 68))
  obtain ⟨f1_6, f1_8, f1_10, f1_12, f1_14, f1_16, h1_18, hb7, hb9, hb11, hb13, hb15, hb17⟩ := (hI 1 (by decide) : cp1 (wget w 1))
  obtain ⟨f3_19, f3_21, f3_23, f3_25, f3_27, h3_29, hb20, hb22, hb24, hb26, hb28⟩ := (hI 3 (by decide) : cp3 (wget w 3))
  refine xg_t (xg_blk (b := [(0, 1, 2, 1, 0, 0), (1, 3, 7, 40, 2, 0), (4, 1, 2, 1, 0, 0), (5, 1, 0, 0, 0, 0), (6, 3, 1, 3, 0, 21), (9, 3, 1, 9, 4, 66), (12, 3, 1, 1, 7, 70), (15, 3, 6, 40, 3, 0), (18, 1, 2, 2, 0, 0), (19, 3, 7, 40, 2, 0), (22, 1, 2, 2, 0, 0), (23, 1, 0, 0, 0, 0), (24, 3, 1, 3, 0, 21), (27, 3, 1, 9, 4, 66), (30, 3, 1, 1, 8, 73), (33, 3, 6, 40, 3, 0), (36, 1, 3, 1, 0, 0), (37, 3, 8, 41, 0, 0)]) rfl) ?_
  refine xg_t (xg_iload (va := (0, ro)) rfl rfl) ?_
  by_cases hc30 : ro < 2147483648
  · refine xg_t (xg_ifF (u := ro) rfl xnm0 (xjz_ltF hc30)) ?_
    refine xg_t (xg_iload (va := (0, ro)) rfl rfl) ?_
    refine xg_t (xg_aload (va := (2, 68)) rfl rfl) ?_
    refine xg_t (xg_getf (va := (2, 1)) h68_5 rfl) ?_
    refine xg_t (xg_getf (va := (2, 3)) h1_18 rfl) ?_
    refine xg_t (xg_getf (va := (0, f3_23)) h3_29 rfl) ?_
    by_cases hc31 : ro < f3_23
    · refine xg_t (xg_icF (u := ro) (v := f3_23) rfl xnm0 xnm0 (xj_geF hc31 (by omega))) ?_
      refine xg_t (xg_iload (va := (0, co)) rfl rfl) ?_
      by_cases hc32 : co < 2147483648
      · refine xg_t (xg_ifF (u := co) rfl xnm0 (xjz_ltF hc32)) ?_
        refine xg_t (xg_iload (va := (0, co)) rfl rfl) ?_
        refine xg_t (xg_aload (va := (2, 68)) rfl rfl) ?_
        refine xg_t (xg_getf (va := (2, 1)) h68_5 rfl) ?_
        refine xg_t (xg_getf (va := (2, 3)) h1_18 rfl) ?_
        refine xg_t (xg_getf (va := (0, f3_25)) h3_29 rfl) ?_
        by_cases hc33 : co < f3_25
        · refine xg_t (xg_icF (u := co) (v := f3_25) rfl xnm0 xnm0 (xj_geF hc33 (by omega))) ?_
          refine xg_t (xg_const) ?_
          refine xg_t (xg_goto) ?_
          refine xg_t (xg_blk (b := [(41, 1, 15, 3, 0, 0), (42, 1, 2, 3, 0, 0), (43, 3, 7, 60, 0, 0), (46, 1, 0, 0, 0, 0), (47, 3, 1, 3, 2, 15), (50, 1, 2, 1, 0, 0), (51, 2, 4, 6, 0, 0), (53, 1, 16, 0, 0, 0), (54, 1, 2, 2, 0, 0), (55, 1, 11, 0, 0, 0), (56, 1, 10, 0, 0, 0), (57, 3, 8, 62, 0, 0)]) rfl) ?_
          refine xg_t (xg_istore (l1 := [(0, (2, 68)), (1, (0, ro)), (2, (0, co))]) rfl rfl rfl) ?_
          refine xg_t (xg_iload (va := (0, 1)) rfl rfl) ?_
          refine xg_t (xg_ifF (u := 1) rfl xnm0 (by decide)) ?_
          refine xg_t (xg_aload (va := (2, 68)) rfl rfl) ?_
          refine xg_t (xg_getf (va := (2, 70)) h68_5 rfl) ?_
          refine xg_t (xg_iload (va := (0, ro)) rfl rfl) ?_
          refine xg_t (xg_bip) ?_
          refine xg_t (xg_imul (u := ro) (v := 6) (z := ro * 6) xnm0 xnm0 (by omega)) ?_
          refine xg_t (xg_iload (va := (0, co)) rfl rfl) ?_
          refine xg_t (xg_iadd (u := ro * 6) (v := co) (z := (ro * 6) + co) xnm0 xnm0 (by omega)) ?_
          obtain ⟨g70_34, h70_35, hb36⟩ := (hI 70 (by decide) : cpI 36 41 4294967295 (wget w 70))
          have h70_35 : xRow w 70 36 41 g70_34 := h70_35
          refine xg_ialdB (n := (ro * 6) + co) (B := 4294967295) h70_35 (hb36) xnm0 (by omega) (fun u37 hu38 he39 => ?_)
          refine xg_t (xg_goto) ?_
          refine xg_t (xg_blk (b := [(62, 1, 12, 0, 1, 0)]) rfl) ?_
          exact xg_e ⟨u37, w, ⟨rfl, rfl⟩, by omega, hI, xFr.rf⟩
        · refine xg_t (xg_icT (u := co) (v := f3_25) rfl xnm0 xnm0 (xj_geT (by omega) (by omega))) ?_
          refine xg_t (xg_blk (b := [(40, 1, 3, 0, 0, 0)]) rfl) ?_
          refine xg_t (xg_const) ?_
          refine xg_t (xg_blk (b := [(41, 1, 15, 3, 0, 0), (42, 1, 2, 3, 0, 0), (43, 3, 7, 60, 0, 0), (46, 1, 0, 0, 0, 0), (47, 3, 1, 3, 2, 15), (50, 1, 2, 1, 0, 0), (51, 2, 4, 6, 0, 0), (53, 1, 16, 0, 0, 0), (54, 1, 2, 2, 0, 0), (55, 1, 11, 0, 0, 0), (56, 1, 10, 0, 0, 0), (57, 3, 8, 62, 0, 0)]) rfl) ?_
          refine xg_t (xg_istore (l1 := [(0, (2, 68)), (1, (0, ro)), (2, (0, co))]) rfl rfl rfl) ?_
          refine xg_t (xg_iload (va := (0, 0)) rfl rfl) ?_
          refine xg_t (xg_ifT (u := 0) rfl xnm0 (by decide)) ?_
          refine xg_t (xg_blk (b := [(60, 2, 4, 100, 0, 0)]) rfl) ?_
          refine xg_t (xg_bip) ?_
          refine xg_t (xg_blk (b := [(62, 1, 12, 0, 1, 0)]) rfl) ?_
          exact xg_e ⟨100, w, ⟨rfl, rfl⟩, by omega, hI, xFr.rf⟩
      · refine xg_t (xg_ifT (u := co) rfl xnm0 (xjz_ltT (by omega) (by omega))) ?_
        refine xg_t (xg_blk (b := [(40, 1, 3, 0, 0, 0)]) rfl) ?_
        refine xg_t (xg_const) ?_
        refine xg_t (xg_blk (b := [(41, 1, 15, 3, 0, 0), (42, 1, 2, 3, 0, 0), (43, 3, 7, 60, 0, 0), (46, 1, 0, 0, 0, 0), (47, 3, 1, 3, 2, 15), (50, 1, 2, 1, 0, 0), (51, 2, 4, 6, 0, 0), (53, 1, 16, 0, 0, 0), (54, 1, 2, 2, 0, 0), (55, 1, 11, 0, 0, 0), (56, 1, 10, 0, 0, 0), (57, 3, 8, 62, 0, 0)]) rfl) ?_
        refine xg_t (xg_istore (l1 := [(0, (2, 68)), (1, (0, ro)), (2, (0, co))]) rfl rfl rfl) ?_
        refine xg_t (xg_iload (va := (0, 0)) rfl rfl) ?_
        refine xg_t (xg_ifT (u := 0) rfl xnm0 (by decide)) ?_
        refine xg_t (xg_blk (b := [(60, 2, 4, 100, 0, 0)]) rfl) ?_
        refine xg_t (xg_bip) ?_
        refine xg_t (xg_blk (b := [(62, 1, 12, 0, 1, 0)]) rfl) ?_
        exact xg_e ⟨100, w, ⟨rfl, rfl⟩, by omega, hI, xFr.rf⟩
    · refine xg_t (xg_icT (u := ro) (v := f3_23) rfl xnm0 xnm0 (xj_geT (by omega) (by omega))) ?_
      refine xg_t (xg_blk (b := [(40, 1, 3, 0, 0, 0)]) rfl) ?_
      refine xg_t (xg_const) ?_
      refine xg_t (xg_blk (b := [(41, 1, 15, 3, 0, 0), (42, 1, 2, 3, 0, 0), (43, 3, 7, 60, 0, 0), (46, 1, 0, 0, 0, 0), (47, 3, 1, 3, 2, 15), (50, 1, 2, 1, 0, 0), (51, 2, 4, 6, 0, 0), (53, 1, 16, 0, 0, 0), (54, 1, 2, 2, 0, 0), (55, 1, 11, 0, 0, 0), (56, 1, 10, 0, 0, 0), (57, 3, 8, 62, 0, 0)]) rfl) ?_
      refine xg_t (xg_istore (l1 := [(0, (2, 68)), (1, (0, ro)), (2, (0, co))]) rfl rfl rfl) ?_
      refine xg_t (xg_iload (va := (0, 0)) rfl rfl) ?_
      refine xg_t (xg_ifT (u := 0) rfl xnm0 (by decide)) ?_
      refine xg_t (xg_blk (b := [(60, 2, 4, 100, 0, 0)]) rfl) ?_
      refine xg_t (xg_bip) ?_
      refine xg_t (xg_blk (b := [(62, 1, 12, 0, 1, 0)]) rfl) ?_
      exact xg_e ⟨100, w, ⟨rfl, rfl⟩, by omega, hI, xFr.rf⟩
  · refine xg_t (xg_ifT (u := ro) rfl xnm0 (xjz_ltT (by omega) (by omega))) ?_
    refine xg_t (xg_blk (b := [(40, 1, 3, 0, 0, 0)]) rfl) ?_
    refine xg_t (xg_const) ?_
    refine xg_t (xg_blk (b := [(41, 1, 15, 3, 0, 0), (42, 1, 2, 3, 0, 0), (43, 3, 7, 60, 0, 0), (46, 1, 0, 0, 0, 0), (47, 3, 1, 3, 2, 15), (50, 1, 2, 1, 0, 0), (51, 2, 4, 6, 0, 0), (53, 1, 16, 0, 0, 0), (54, 1, 2, 2, 0, 0), (55, 1, 11, 0, 0, 0), (56, 1, 10, 0, 0, 0), (57, 3, 8, 62, 0, 0)]) rfl) ?_
    refine xg_t (xg_istore (l1 := [(0, (2, 68)), (1, (0, ro)), (2, (0, co))]) rfl rfl rfl) ?_
    refine xg_t (xg_iload (va := (0, 0)) rfl rfl) ?_
    refine xg_t (xg_ifT (u := 0) rfl xnm0 (by decide)) ?_
    refine xg_t (xg_blk (b := [(60, 2, 4, 100, 0, 0)]) rfl) ?_
    refine xg_t (xg_bip) ?_
    refine xg_t (xg_blk (b := [(62, 1, 12, 0, 1, 0)]) rfl) ?_
    exact xg_e ⟨100, w, ⟨rfl, rfl⟩, by omega, hI, xFr.rf⟩
end XLM
