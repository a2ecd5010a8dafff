section
/-! the class: ages as they are kept, over the calls -/
section XAH
variable {d : Nat} {w : List (List xE)} {bd : List (Nat × Nat)} {fc : List (Nat × Nat × Bool)} {rr : Nat × Nat}
theorem lmRefreshDG (hI : xInv w)  : xPq (d + 2) mX3_refreshDamp [(2, 68)] w bd fc rr [] (fun w' => xInv w' ∧ xFr [68, 70, 71] w w' ∧ (fld w' 68 4 = fld w 68 4)) := by
  refine xPq.of ?_
  show xTo (d + 2) mX3_refreshDamp (0, [], [(0, (2, 68))], [], (w, bd, fc, 0, 0, rr)) (fun φ => ∃ w', xEnd 0 [] (w', bd, fc, 0, 0, rr) φ ∧ xInv w' ∧ xFr [68, 70, 71] w w' ∧ (fld w' 68 4 = fld w 68 4))
  refine xoC68 (hI 68 (by decide) : cp68 (wget w 68)) (fun f68_1 f68_3 h68_5 hb2 hb4 => ?_)
  refine xoC1 (hI 1 (by decide) : cp1 (wget w 1)) (fun f1_6 f1_8 f1_10 f1_12 f1_14 f1_16 h1_18 hb7 hb9 hb11 hb13 hb15 hb17 => ?_)
  refine xoC3 (hI 3 (by decide) : cp3 (wget w 3)) (fun f3_19 f3_21 f3_23 f3_25 f3_27 h3_29 hb20 hb22 hb24 hb26 hb28 => ?_)
  have q684 : fld w 68 4 = f68_1 := fld_of h68_5
  refine xg_t (xg_blk (b := [(0, 1, 0, 0, 0, 0), (1, 3, 1, 3, 5, 29), (4, 3, 7, 8, 0, 0), (7, 1, 12, 0, 0, 0)]) rfl) ?_
  refine xg_t (xg_aload (va := (2, 68)) rfl rfl) ?_
  refine xg_t (xg_getf (va := (0, f68_3)) h68_5 rfl) ?_
  by_cases hc30 : f68_3 = 0
  · refine xg_t (xg_ifT (u := f68_3) rfl xnm0 (xj_eqT hc30)) ?_
    refine xg_t (xg_blk (b := [(8, 1, 0, 0, 0, 0), (9, 3, 1, 3, 2, 15), (12, 1, 3, 0, 0, 0), (13, 3, 13, 1, 2, 32), (16, 1, 3, 1, 0, 0), (17, 1, 15, 1, 0, 0), (18, 1, 3, 0, 0, 0), (19, 1, 15, 2, 0, 0)]) rfl) ?_
    refine xg_t (xg_aload (va := (2, 68)) rfl rfl) ?_
    refine xg_t (xg_getf (va := (2, 70)) h68_5 rfl) ?_
    refine xg_t (xg_const) ?_
    refine xoI (hI 70 (by decide) : cpI 36 41 4294967295 (wget w 70)) (fun g70_31 h70_32 hb33 => ?_)
    refine xg_cS mJ7_fill_53178 (vs := [(2, 70), (0, 0)]) (rest := []) (rs := []) (cn1 := 0) (sl1 := 0) rfl (fillI (v := 0) h70_32 (by decide)) rfl rfl rfl rfl rfl rfl rfl rfl (fun w34 hq35 => ?_)
    refine xg_t (xg_const) ?_
    refine xg_t (xg_istore (l1 := [(0, (2, 68))]) rfl rfl rfl) ?_
    refine xg_t (xg_const) ?_
    refine xg_t (xg_istore (l1 := [(1, (0, 1)), (0, (2, 68))]) rfl rfl rfl) ?_
    refine xg_t (xg_drop (l1 := [(0, (2, 68)), (1, (0, 1)), (2, (0, 0))]) (List.forall_mem_cons.mpr ⟨List.mem_cons_of_mem _ (List.mem_cons_of_mem _ (List.mem_cons_self)), List.forall_mem_cons.mpr ⟨List.mem_cons_of_mem _ (List.mem_cons_self), List.forall_mem_cons.mpr ⟨List.mem_cons_self, fun _ h => absurd h List.not_mem_nil⟩⟩⟩)) ?_
    have key36 : ∀ (m38 : Nat) (cr dy : Nat) (w39 : List (List xE)), 200 - dy < m38 → cr ≤ 1 → dy ≤ 200 → xInv w39 → xFr [68, 70, 71] w w39 → fld w39 68 4 = fld w 68 4 → xTo (d + 2) mX3_refreshDamp (20, [], [(0, (2, 68)), (1, (0, cr)), (2, (0, dy))], [], (w39, bd, fc, 0, 0, rr)) (fun φ => ∃ w', xEnd 0 [] (w', bd, fc, 0, 0, rr) φ ∧ xInv w' ∧ xFr [68, 70, 71] w w' ∧ (fld w' 68 4 = fld w 68 4)) := by
      intro m38
      induction m38 with
      | zero => intro cr dy w39 hz; exact absurd hz (Nat.not_lt_zero _)
      | succ m38 ih37 =>
        intro cr dy w39 hm45 hn42 hn43 hI40 hF41 he44
        refine xoC68 (hI40 68 (by decide) : cp68 (wget w39 68)) (fun f68_46 f68_48 h68_50 hb47 hb49 => ?_)
        have q68451 : fld w39 68 4 = f68_46 := fld_of h68_50
        refine xg_t (xg_blk (b := [(20, 1, 2, 1, 0, 0), (21, 3, 7, 46, 0, 0), (24, 1, 2, 2, 0, 0), (25, 1, 0, 0, 0, 0), (26, 3, 1, 3, 0, 21), (29, 3, 1, 9, 9, 80), (32, 3, 6, 46, 3, 0), (35, 1, 0, 0, 0, 0), (36, 3, 13, 257, 24, 83), (39, 1, 15, 1, 0, 0), (40, 3, 9, 2, 1, 0), (43, 3, 8, 20, 0, 0)]) rfl) ?_
        refine xg_t (xg_iload (va := (0, cr)) rfl rfl) ?_
        by_cases hc52 : cr = 0
        · refine xg_t (xg_ifT (u := cr) rfl xnm0 (xj_eqT hc52)) ?_
          refine xg_t (xg_blk (b := [(46, 1, 0, 0, 0, 0), (47, 1, 3, 1, 0, 0), (48, 3, 59, 3, 5, 29), (51, 1, 12, 0, 0, 0)]) rfl) ?_
          refine xg_t (xg_aload (va := (2, 68)) rfl rfl) ?_
          refine xg_t (xg_const) ?_
          refine xg_putZ (fl1 := [(2, 1), (2, 69), (2, 70), (2, 71), (0, f68_46), (0, 1)]) h68_50 rfl rfl rfl (fun w53 hk54 hb55 => ?_)
          exact xg_e ⟨w53, ⟨rfl, rfl⟩, xInv.up (S := [68]) hI40 (xFr.of (S := [68]) hb55 (by decide)) (List.forall_mem_cons.mpr ⟨(show cp68 (wget w53 68) from ⟨f68_46, 1, hk54, by omega, by omega⟩), fun _ h => absurd h List.not_mem_nil⟩), (hF41.tr (xFr.of (S := [68, 70, 71]) hb55 (by decide))), (fld_of hk54).trans (q68451.symm.trans he44)⟩
        · refine xg_t (xg_ifF (u := cr) rfl xnm0 (xj_eqF hc52)) ?_
          refine xg_t (xg_iload (va := (0, dy)) rfl rfl) ?_
          refine xg_t (xg_aload (va := (2, 68)) rfl rfl) ?_
          refine xg_t (xg_getf (va := (2, 1)) h68_50 rfl) ?_
          refine xg_t (xg_getf (va := (0, f1_16)) (hF41.get (by decide) h1_18) rfl) ?_
          by_cases hc56 : dy < f1_16
          · refine xg_t (xg_icF (u := dy) (v := f1_16) rfl xnm0 xnm0 (xj_geF hc56 (by omega))) ?_
            refine xg_t (xg_aload (va := (2, 68)) rfl rfl) ?_
            refine xg_cVi mX3_creepOn (vs := []) (rest := []) (cn1 := 0) (sl1 := 0) rfl (lmCreepOn (hI40)) rfl h68_50 rfl rfl rfl rfl rfl rfl (fun n61 w57 hq58 => ?_)
            obtain ⟨hn62, hI59, hF60⟩ := hq58
            refine xg_t (xg_istore (l1 := [(0, (2, 68)), (2, (0, dy))]) rfl rfl rfl) ?_
            refine xg_t (xg_iinc (u := dy) (z := dy + 1) (l1 := [(1, (0, n61)), (0, (2, 68))]) rfl rfl (by omega) rfl) ?_
            refine xg_t (xg_goto) ?_
            refine xg_t (xg_drop (l1 := [(0, (2, 68)), (1, (0, n61)), (2, (0, dy + 1))]) (List.forall_mem_cons.mpr ⟨List.mem_cons_of_mem _ (List.mem_cons_of_mem _ (List.mem_cons_self)), List.forall_mem_cons.mpr ⟨List.mem_cons_of_mem _ (List.mem_cons_self), List.forall_mem_cons.mpr ⟨List.mem_cons_self, fun _ h => absurd h List.not_mem_nil⟩⟩⟩)) ?_
            exact ih37 n61 (dy + 1) w57 (by omega) (by omega) (by omega) (hI59) ((hF41.tr (hF60.up (by decide)))) ((fld_of (hF60.get (by decide) h68_50)).trans (q68451.symm.trans he44))
          · refine xg_t (xg_icT (u := dy) (v := f1_16) rfl xnm0 xnm0 (xj_geT (by omega) (by omega))) ?_
            refine xg_t (xg_blk (b := [(46, 1, 0, 0, 0, 0), (47, 1, 3, 1, 0, 0), (48, 3, 59, 3, 5, 29), (51, 1, 12, 0, 0, 0)]) rfl) ?_
            refine xg_t (xg_aload (va := (2, 68)) rfl rfl) ?_
            refine xg_t (xg_const) ?_
            refine xg_putZ (fl1 := [(2, 1), (2, 69), (2, 70), (2, 71), (0, f68_46), (0, 1)]) h68_50 rfl rfl rfl (fun w63 hk64 hb65 => ?_)
            exact xg_e ⟨w63, ⟨rfl, rfl⟩, xInv.up (S := [68]) hI40 (xFr.of (S := [68]) hb65 (by decide)) (List.forall_mem_cons.mpr ⟨(show cp68 (wget w63 68) from ⟨f68_46, 1, hk64, by omega, by omega⟩), fun _ h => absurd h List.not_mem_nil⟩), (hF41.tr (xFr.of (S := [68, 70, 71]) hb65 (by decide))), (fld_of hk64).trans (q68451.symm.trans he44)⟩
    exact key36 _ 1 0 w34 (Nat.lt_succ_self _) (by omega) (by omega) (xInv.up (S := [70]) hI (xFr.of (S := [70]) hq35.2 (by decide)) (List.forall_mem_cons.mpr ⟨(show cpI 36 41 4294967295 (wget w34 70) from ⟨_, hq35.1, fun _ => (by omega : 0 ≤ 4294967295)⟩), fun _ h => absurd h List.not_mem_nil⟩)) ((xFr.of (S := [68, 70, 71]) hq35.2 (by decide))) ((fld_of (hq35.2.get (by decide) h68_5)).trans q684.symm)
  · refine xg_t (xg_ifF (u := f68_3) rfl xnm0 (xj_eqF hc30)) ?_
    exact xg_e ⟨w, ⟨rfl, rfl⟩, hI, xFr.rf, rfl⟩
theorem scRefreshLG (hI : xInv w) (hq : agQ w) (hfr : agV w) : xPq (d + 5) mX11_refreshLamps [(2, 0)] w bd fc rr [] (fun w' => xInv w' ∧ xFr [58, 59, 60, 61, 62, 63, 64, 65, 66, 67, 68, 69, 70, 71] w w' ∧ (agV w')) := by
  refine xPq.of ?_
  show xTo (d + 5) mX11_refreshLamps (0, [], [(0, (2, 0))], [], (w, bd, fc, 0, 0, rr)) (fun φ => ∃ w', xEnd 0 [] (w', bd, fc, 0, 0, rr) φ ∧ xInv w' ∧ xFr [58, 59, 60, 61, 62, 63, 64, 65, 66, 67, 68, 69, 70, 71] w w' ∧ (agV w'))
  refine xg_t (xg_blk (b := [(0, 1, 0, 0, 0, 0), (1, 3, 1, 11, 5, 52), (4, 3, 13, 35, 80, 219), (7, 1, 0, 0, 0, 0), (8, 3, 1, 11, 6, 59), (11, 3, 13, 265, 24, 264), (14, 1, 0, 0, 0, 0), (15, 3, 1, 11, 6, 59), (18, 3, 13, 266, 24, 279), (21, 1, 12, 0, 0, 0)]) rfl) ?_
  refine xg_t (xg_aload (va := (2, 0)) rfl rfl) ?_
  have h0_1 := (hI 0 (by decide) : cp0 (wget w 0))
  refine xg_t (xg_getf (va := (2, 58)) h0_1 rfl) ?_
  refine xoC58 (hI 58 (by decide) : cp58 (wget w 58)) (fun f58_2 f58_4 f58_6 h58_8 hb3 hb5 hb7 => ?_)
  refine xg_cVv mX10_refresh (vs := []) (rest := []) (cn1 := 0) (sl1 := 0) rfl (wyRefresh (hI)) rfl h58_8 rfl rfl rfl rfl rfl rfl (fun w9 hq10 => ?_)
  obtain ⟨hI11, hF12⟩ := hq10
  refine xg_t (xg_aload (va := (2, 0)) rfl rfl) ?_
  refine xg_t (xg_getf (va := (2, 68)) (hF12.get (by decide) h0_1) rfl) ?_
  have ga13 := agQ.fr hq hF12 (by decide)
  have ga14 := agV.fr hfr hF12 (by decide)
  refine xoC68 (hI11 68 (by decide) : cp68 (wget w9 68)) (fun f68_15 f68_17 h68_19 hb16 hb18 => ?_)
  refine xg_cVv mX3_refreshAges (vs := []) (rest := []) (cn1 := 0) (sl1 := 0) rfl (lmRefreshAX (hI11) ga13 ga14) rfl h68_19 rfl rfl rfl rfl rfl rfl (fun w20 hq21 => ?_)
  obtain ⟨hI22, hF23, hx24⟩ := hq21
  have gq25 := agQ.fr ga13 hF23 (by decide)
  have gq26 := agV.of hF23 (by decide) hx24.1
  refine xg_t (xg_aload (va := (2, 0)) rfl rfl) ?_
  refine xg_t (xg_getf (va := (2, 68)) (hF23.get (by decide) (hF12.get (by decide) h0_1)) rfl) ?_
  refine xoC68 (hI22 68 (by decide) : cp68 (wget w20 68)) (fun f68_27 f68_29 h68_31 hb28 hb30 => ?_)
  refine xg_cVv mX3_refreshDamp (vs := []) (rest := []) (cn1 := 0) (sl1 := 0) rfl (lmRefreshDG (hI22)) rfl h68_31 rfl rfl rfl rfl rfl rfl (fun w32 hq33 => ?_)
  obtain ⟨hI34, hF35, hx36⟩ := hq33
  have gq37 := agQ.fr gq25 hF35 (by decide)
  have gq38 := agV.fr4 gq26 hF35 (by decide) hx36
  exact xg_e ⟨w32, ⟨rfl, rfl⟩, hI34, (((hF12.up (by decide)).tr (hF23.up (by decide))).tr (hF35.up (by decide))), gq38⟩
theorem scDampG {ro co : Nat} (hI : xInv w) (hro : ro ≤ 4294967295) (hco : co ≤ 4294967295) : xPi (d + 3) mX11_damp [(2, 0), (0, ro), (0, co)] w bd fc rr (fun n w' => (n ≤ 4294967295 ∧ fld w' 68 4 = fld w 68 4) ∧ xInv w' ∧ xFr [68, 70, 71] w w') := by
  refine xPi.of ?_
  show xTo (d + 3) mX11_damp (0, [], [(0, (2, 0)), (1, (0, ro)), (2, (0, co))], [], (w, bd, fc, 0, 0, rr)) (fun φ => ∃ n w', xEnd 1 [(0, n)] (w', bd, fc, 0, 0, rr) φ ∧ (n ≤ 4294967295 ∧ fld w' 68 4 = fld w 68 4) ∧ xInv w' ∧ xFr [68, 70, 71] w w')
  refine xg_t (xg_blk (b := [(0, 1, 0, 0, 0, 0), (1, 1, 2, 1, 0, 0), (2, 1, 2, 2, 0, 0), (3, 3, 13, 64, 88, 261), (6, 3, 7, 11, 1, 0), (9, 1, 3, 4294967295, 0, 0), (10, 1, 12, 0, 1, 0)]) rfl) ?_
  refine xg_t (xg_aload (va := (2, 0)) rfl rfl) ?_
  refine xg_t (xg_iload (va := (0, ro)) rfl rfl) ?_
  refine xg_t (xg_iload (va := (0, co)) rfl rfl) ?_
  have h0_1 := (hI 0 (by decide) : cp0 (wget w 0))
  refine xg_cVi mX11_hasPoint (vs := [(0, ro), (0, co)]) (rest := []) (cn1 := 0) (sl1 := 0) rfl (scHasPoint (hI) (by omega) (by omega)) rfl h0_1 rfl rfl rfl rfl rfl rfl (fun n6 w2 hq3 => ?_)
  obtain ⟨hn7, hI4, hF5⟩ := hq3
  by_cases hc8 : n6 = 0
  · refine xg_t (xg_ifF (u := n6) rfl xnm0 (xj_neF hc8)) ?_
    refine xg_t (xg_const) ?_
    exact xg_e ⟨4294967295, w2, ⟨rfl, rfl⟩, ⟨by omega, (fld_fr hF5 (by decide))⟩, hI4, (hF5.up (by decide))⟩
  · refine xg_t (xg_ifT (u := n6) rfl xnm0 (xj_neT hc8)) ?_
    refine xg_t (xg_blk (b := [(11, 1, 0, 0, 0, 0), (12, 3, 1, 11, 6, 59), (15, 3, 13, 266, 24, 279), (18, 1, 0, 0, 0, 0), (19, 3, 1, 11, 6, 59), (22, 3, 1, 3, 2, 282), (25, 1, 2, 1, 0, 0), (26, 2, 4, 6, 0, 0), (28, 1, 16, 0, 0, 0), (29, 1, 2, 2, 0, 0), (30, 1, 11, 0, 0, 0), (31, 1, 10, 0, 0, 0), (32, 1, 12, 0, 1, 0)]) rfl) ?_
    refine xg_t (xg_aload (va := (2, 0)) rfl rfl) ?_
    refine xg_t (xg_getf (va := (2, 68)) (hF5.get (by decide) h0_1) rfl) ?_
    refine xoC68 (hI4 68 (by decide) : cp68 (wget w2 68)) (fun f68_9 f68_11 h68_13 hb10 hb12 => ?_)
    refine xg_cVv mX3_refreshDamp (vs := []) (rest := []) (cn1 := 0) (sl1 := 0) rfl (lmRefreshDG (hI4)) rfl h68_13 rfl rfl rfl rfl rfl rfl (fun w14 hq15 => ?_)
    obtain ⟨hI16, hF17, hx18⟩ := hq15
    refine xg_t (xg_aload (va := (2, 0)) rfl rfl) ?_
    refine xg_t (xg_getf (va := (2, 68)) (hF17.get (by decide) (hF5.get (by decide) h0_1)) rfl) ?_
    refine xoC68 (hI16 68 (by decide) : cp68 (wget w14 68)) (fun f68_19 f68_21 h68_23 hb20 hb22 => ?_)
    refine xg_t (xg_getf (va := (2, 70)) h68_23 rfl) ?_
    refine xg_t (xg_iload (va := (0, ro)) rfl rfl) ?_
    refine xg_t (xg_bip) ?_
    refine xg_t (xg_imul (u := ro) (v := 6) (z := ro * 6) xnm0 xnm0 (by omega)) ?_
    refine xg_t (xg_iload (va := (0, co)) rfl rfl) ?_
    refine xg_t (xg_iadd (u := ro * 6) (v := co) (z := (ro * 6) + co) xnm0 xnm0 (by omega)) ?_
    refine xoI (hI16 70 (by decide) : cpI 36 41 4294967295 (wget w14 70)) (fun g70_24 h70_25 hb26 => ?_)
    refine xg_ialdB (n := (ro * 6) + co) (B := 4294967295) h70_25 (hb26) xnm0 (by omega) (fun u27 hu28 he29 => ?_)
    exact xg_e ⟨u27, w14, ⟨rfl, rfl⟩, ⟨by omega, (hx18.trans (fld_fr hF5 (by decide)))⟩, hI16, ((hF5.up (by decide)).tr (hF17.up (by decide)))⟩
theorem scDarkG {ro co : Nat} (hI : xInv w) (hro : ro ≤ 4294967295) (hco : co ≤ 4294967295) (hq : agQ w) (hfr : agV w) : xPi (d + 6) mX11_dark [(2, 0), (0, ro), (0, co)] w bd fc rr (fun n w' => (n ≤ 1 ∧ agV w') ∧ xInv w' ∧ xFr [58, 59, 60, 61, 62, 63, 64, 65, 66, 67, 68, 69, 70, 71] w w') := by
  refine xPi.of ?_
  show xTo (d + 6) mX11_dark (0, [], [(0, (2, 0)), (1, (0, ro)), (2, (0, co))], [], (w, bd, fc, 0, 0, rr)) (fun φ => ∃ n w', xEnd 4 [(0, n)] (w', bd, fc, 0, 0, rr) φ ∧ (n ≤ 1 ∧ agV w') ∧ xInv w' ∧ xFr [58, 59, 60, 61, 62, 63, 64, 65, 66, 67, 68, 69, 70, 71] w w')
  refine xg_t (xg_blk (b := [(0, 1, 0, 0, 0, 0), (1, 1, 2, 1, 0, 0), (2, 1, 2, 2, 0, 0), (3, 3, 13, 64, 88, 261), (6, 3, 7, 11, 1, 0), (9, 1, 3, 0, 0, 0), (10, 1, 12, 0, 1, 0)]) rfl) ?_
  refine xg_t (xg_aload (va := (2, 0)) rfl rfl) ?_
  refine xg_t (xg_iload (va := (0, ro)) rfl rfl) ?_
  refine xg_t (xg_iload (va := (0, co)) rfl rfl) ?_
  have h0_1 := (hI 0 (by decide) : cp0 (wget w 0))
  refine xg_cVi mX11_hasPoint (vs := [(0, ro), (0, co)]) (rest := []) (cn1 := 0) (sl1 := 0) rfl (scHasPoint (hI) (by omega) (by omega)) rfl h0_1 rfl rfl rfl rfl rfl rfl (fun n6 w2 hq3 => ?_)
  obtain ⟨hn7, hI4, hF5⟩ := hq3
  by_cases hc8 : n6 = 0
  · refine xg_t (xg_ifF (u := n6) rfl xnm0 (xj_neF hc8)) ?_
    refine xg_t (xg_const) ?_
    have ga9 := agQ.fr hq hF5 (by decide)
    have ga10 := agV.fr hfr hF5 (by decide)
    exact xg_e ⟨0, w2, ⟨rfl, rfl⟩, ⟨by omega, ga10⟩, hI4, (hF5.up (by decide))⟩
  · refine xg_t (xg_ifT (u := n6) rfl xnm0 (xj_neT hc8)) ?_
    refine xg_t (xg_blk (b := [(11, 1, 0, 0, 0, 0), (12, 3, 13, 92, 88, 285), (15, 1, 0, 0, 0, 0), (16, 1, 2, 1, 0, 0), (17, 1, 2, 2, 0, 0), (18, 3, 13, 69, 88, 288), (21, 1, 12, 0, 1, 0)]) rfl) ?_
    refine xg_t (xg_aload (va := (2, 0)) rfl rfl) ?_
    have ga11 := agQ.fr hq hF5 (by decide)
    have ga12 := agV.fr hfr hF5 (by decide)
    refine xg_cVv mX11_refreshLamps (vs := []) (rest := []) (cn1 := 0) (sl1 := 0) rfl (scRefreshLG (hI4) ga11 ga12) rfl (hF5.get (by decide) h0_1) rfl rfl rfl rfl rfl rfl (fun w13 hq14 => ?_)
    obtain ⟨hI15, hF16, hx17⟩ := hq14
    have gq18 := agQ.fr ga11 hF16 (by decide)
    refine xg_t (xg_aload (va := (2, 0)) rfl rfl) ?_
    refine xg_t (xg_iload (va := (0, ro)) rfl rfl) ?_
    refine xg_t (xg_iload (va := (0, co)) rfl rfl) ?_
    refine xg_cVi mX11_isDark (vs := [(0, ro), (0, co)]) (rest := []) (cn1 := 0) (sl1 := 0) rfl (scIsDark (hI15) (by omega) (by omega)) rfl (hF16.get (by decide) (hF5.get (by decide) h0_1)) rfl rfl rfl rfl rfl rfl (fun n23 w19 hq20 => ?_)
    obtain ⟨hn24, hI21, hF22⟩ := hq20
    have ga25 := agQ.fr gq18 hF22 (by decide)
    have ga26 := agV.fr hx17 hF22 (by decide)
    exact xg_e ⟨n23, w19, ⟨xret_b (by omega), rfl⟩, ⟨by omega, ga26⟩, hI21, (((hF5.up (by decide)).tr (hF16.up (by decide))).tr (hF22.up (by decide)))⟩
theorem scDarksG (hI : xInv w) (hq : agQ w) (hfr : agV w) : xPi (d + 6) mX11_darks [(2, 0)] w bd fc rr (fun n w' => (n ≤ 4294967295 ∧ agV w') ∧ xInv w' ∧ xFr [58, 59, 60, 61, 62, 63, 64, 65, 66, 67, 68, 69, 70, 71] w w') := by
  refine xPi.of ?_
  show xTo (d + 6) mX11_darks (0, [], [(0, (2, 0))], [], (w, bd, fc, 0, 0, rr)) (fun φ => ∃ n w', xEnd 1 [(0, n)] (w', bd, fc, 0, 0, rr) φ ∧ (n ≤ 4294967295 ∧ agV w') ∧ xInv w' ∧ xFr [58, 59, 60, 61, 62, 63, 64, 65, 66, 67, 68, 69, 70, 71] w w')
  refine xg_t (xg_blk (b := [(0, 1, 0, 0, 0, 0), (1, 3, 13, 92, 88, 285), (4, 1, 0, 0, 0, 0), (5, 3, 13, 45, 88, 291), (8, 1, 12, 0, 1, 0)]) rfl) ?_
  refine xg_t (xg_aload (va := (2, 0)) rfl rfl) ?_
  have h0_1 := (hI 0 (by decide) : cp0 (wget w 0))
  refine xg_cVv mX11_refreshLamps (vs := []) (rest := []) (cn1 := 0) (sl1 := 0) rfl (scRefreshLG (hI) hq hfr) rfl h0_1 rfl rfl rfl rfl rfl rfl (fun w2 hq3 => ?_)
  obtain ⟨hI4, hF5, hx6⟩ := hq3
  have gq7 := agQ.fr hq hF5 (by decide)
  refine xg_t (xg_aload (va := (2, 0)) rfl rfl) ?_
  refine xg_cVi mX11_countDark (vs := []) (rest := []) (cn1 := 0) (sl1 := 0) rfl (scCountDark (hI4)) rfl (hF5.get (by decide) h0_1) rfl rfl rfl rfl rfl rfl (fun n12 w8 hq9 => ?_)
  obtain ⟨hn13, hI10, hF11⟩ := hq9
  have ga14 := agQ.fr gq7 hF11 (by decide)
  have ga15 := agV.fr hx6 hF11 (by decide)
  exact xg_e ⟨n12, w8, ⟨rfl, rfl⟩, ⟨by omega, ga15⟩, hI10, ((hF5.up (by decide)).tr (hF11.up (by decide)))⟩
theorem scMeasureG (hI : xInv w) (hq : agQ w) (hfr : agV w) : xPq (d + 5) mX11_measureAll [(2, 0)] w bd fc rr [] (fun w' => xInv w' ∧ xFr [50, 51, 52, 53, 54, 55, 58, 59, 60, 61, 62, 63, 64, 65, 66, 67, 68, 69, 70, 71, 72, 73, 76, 77, 80] w w' ∧ (agV w')) := by
  refine xPq.of ?_
  show xTo (d + 5) mX11_measureAll (0, [], [(0, (2, 0))], [], (w, bd, fc, 0, 0, rr)) (fun φ => ∃ w', xEnd 0 [] (w', bd, fc, 0, 0, rr) φ ∧ xInv w' ∧ xFr [50, 51, 52, 53, 54, 55, 58, 59, 60, 61, 62, 63, 64, 65, 66, 67, 68, 69, 70, 71, 72, 73, 76, 77, 80] w w' ∧ (agV w'))
  refine xg_t (xg_blk (b := [(0, 1, 0, 0, 0, 0), (1, 3, 1, 11, 5, 52), (4, 3, 13, 35, 80, 219), (7, 1, 0, 0, 0, 0), (8, 3, 1, 11, 6, 59), (11, 3, 13, 265, 24, 264), (14, 1, 0, 0, 0, 0), (15, 3, 1, 11, 6, 59), (18, 3, 13, 266, 24, 279), (21, 1, 0, 0, 0, 0), (22, 3, 1, 11, 8, 79), (25, 3, 13, 276, 32, 327), (28, 1, 0, 0, 0, 0), (29, 3, 1, 11, 7, 66), (32, 3, 13, 308, 56, 303), (35, 1, 0, 0, 0, 0), (36, 3, 1, 11, 4, 45), (39, 3, 13, 12, 0, 123), (42, 1, 0, 0, 0, 0), (43, 3, 1, 11, 0, 10), (46, 3, 1, 9, 4, 38), (49, 1, 27, 1, 0, 0), (50, 1, 0, 0, 0, 0), (51, 3, 1, 11, 9, 83), (54, 1, 3, 0, 0, 0), (55, 1, 0, 1, 0, 0), (56, 3, 13, 244, 8, 400), (59, 3, 7, 66, 0, 0), (62, 1, 3, 1, 0, 0), (63, 3, 8, 67, 0, 0)]) rfl) ?_
  refine xg_t (xg_aload (va := (2, 0)) rfl rfl) ?_
  have h0_1 := (hI 0 (by decide) : cp0 (wget w 0))
  refine xg_t (xg_getf (va := (2, 58)) h0_1 rfl) ?_
  refine xoC58 (hI 58 (by decide) : cp58 (wget w 58)) (fun f58_2 f58_4 f58_6 h58_8 hb3 hb5 hb7 => ?_)
  refine xg_cVv mX10_refresh (vs := []) (rest := []) (cn1 := 0) (sl1 := 0) rfl (wyRefresh (hI)) rfl h58_8 rfl rfl rfl rfl rfl rfl (fun w9 hq10 => ?_)
  obtain ⟨hI11, hF12⟩ := hq10
  refine xg_t (xg_aload (va := (2, 0)) rfl rfl) ?_
  refine xg_t (xg_getf (va := (2, 68)) (hF12.get (by decide) h0_1) rfl) ?_
  have ga13 := agQ.fr hq hF12 (by decide)
  have ga14 := agV.fr hfr hF12 (by decide)
  refine xoC68 (hI11 68 (by decide) : cp68 (wget w9 68)) (fun f68_15 f68_17 h68_19 hb16 hb18 => ?_)
  refine xg_cVv mX3_refreshAges (vs := []) (rest := []) (cn1 := 0) (sl1 := 0) rfl (lmRefreshAX (hI11) ga13 ga14) rfl h68_19 rfl rfl rfl rfl rfl rfl (fun w20 hq21 => ?_)
  obtain ⟨hI22, hF23, hx24⟩ := hq21
  have gq25 := agQ.fr ga13 hF23 (by decide)
  have gq26 := agV.of hF23 (by decide) hx24.1
  refine xg_t (xg_aload (va := (2, 0)) rfl rfl) ?_
  refine xg_t (xg_getf (va := (2, 68)) (hF23.get (by decide) (hF12.get (by decide) h0_1)) rfl) ?_
  refine xoC68 (hI22 68 (by decide) : cp68 (wget w20 68)) (fun f68_27 f68_29 h68_31 hb28 hb30 => ?_)
  refine xg_cVv mX3_refreshDamp (vs := []) (rest := []) (cn1 := 0) (sl1 := 0) rfl (lmRefreshDG (hI22)) rfl h68_31 rfl rfl rfl rfl rfl rfl (fun w32 hq33 => ?_)
  obtain ⟨hI34, hF35, hx36⟩ := hq33
  have gq37 := agQ.fr gq25 hF35 (by decide)
  have gq38 := agV.fr4 gq26 hF35 (by decide) hx36
  refine xg_t (xg_aload (va := (2, 0)) rfl rfl) ?_
  refine xg_t (xg_getf (va := (2, 76)) (hF35.get (by decide) (hF23.get (by decide) (hF12.get (by decide) h0_1))) rfl) ?_
  refine xoC76 (hI34 76 (by decide) : cp76 (wget w32 76)) (fun f76_39 f76_41 f76_43 f76_45 f76_47 f76_49 f76_51 f76_53 h76_55 hb40 hb42 hb44 hb46 hb48 hb50 hb52 hb54 => ?_)
  refine xg_cVv mX4_refresh (vs := []) (rest := []) (cn1 := 0) (sl1 := 0) rfl (lwRefresh (hI34)) rfl h76_55 rfl rfl rfl rfl rfl rfl (fun w56 hq57 => ?_)
  obtain ⟨hI58, hF59⟩ := hq57
  refine xg_t (xg_aload (va := (2, 0)) rfl rfl) ?_
  refine xg_t (xg_getf (va := (2, 72)) (hF59.get (by decide) (hF35.get (by decide) (hF23.get (by decide) (hF12.get (by decide) h0_1)))) rfl) ?_
  refine xoC72 (hI58 72 (by decide) : cp72 (wget w56 72)) (fun f72_60 f72_62 h72_64 hb61 hb63 => ?_)
  refine xg_cVv mX7_refreshWorth (vs := []) (rest := []) (cn1 := 0) (sl1 := 0) rfl (shRefreshWorth (hI58)) rfl h72_64 rfl rfl rfl rfl rfl rfl (fun w65 hq66 => ?_)
  obtain ⟨hI67, hF68⟩ := hq66
  refine xg_t (xg_aload (va := (2, 0)) rfl rfl) ?_
  refine xg_t (xg_getf (va := (2, 49)) (hF68.get (by decide) (hF59.get (by decide) (hF35.get (by decide) (hF23.get (by decide) (hF12.get (by decide) h0_1))))) rfl) ?_
  refine xoC49 (hI67 49 (by decide) : cp49 (wget w65 49)) (fun f49_69 f49_71 h49_73 hb70 hb72 => ?_)
  refine xg_cVv mX0_layAsTold (vs := []) (rest := []) (cn1 := 0) (sl1 := 0) rfl (bdLayAsTold (hI67)) rfl h49_73 rfl rfl rfl rfl rfl rfl (fun w74 hq75 => ?_)
  obtain ⟨hI76, hF77⟩ := hq75
  refine xg_t (xg_aload (va := (2, 0)) rfl rfl) ?_
  refine xg_t (xg_getf (va := (2, 1)) (hF77.get (by decide) (hF68.get (by decide) (hF59.get (by decide) (hF35.get (by decide) (hF23.get (by decide) (hF12.get (by decide) h0_1)))))) rfl) ?_
  refine xoC1 (hI76 1 (by decide) : cp1 (wget w74 1)) (fun f1_78 f1_80 f1_82 f1_84 f1_86 f1_88 h1_90 hb79 hb81 hb83 hb85 hb87 hb89 => ?_)
  refine xg_t (xg_getf (va := (2, 3)) h1_90 rfl) ?_
  refine xg_t (xg_astore (l1 := [(0, (2, 0))]) rfl rfl rfl) ?_
  refine xg_t (xg_aload (va := (2, 0)) rfl rfl) ?_
  refine xg_t (xg_getf (va := (2, 80)) (hF77.get (by decide) (hF68.get (by decide) (hF59.get (by decide) (hF35.get (by decide) (hF23.get (by decide) (hF12.get (by decide) h0_1)))))) rfl) ?_
  refine xg_t (xg_const) ?_
  refine xg_t (xg_aload (va := (2, 3)) rfl rfl) ?_
  refine xoC3 (hI76 3 (by decide) : cp3 (wget w74 3)) (fun f3_91 f3_93 f3_95 f3_97 f3_99 h3_101 hb92 hb94 hb96 hb98 hb100 => ?_)
  refine xg_cVi mX1_slidesAnywhere (vs := []) (rest := [(0, 0), (2, 80)]) (cn1 := 0) (sl1 := 0) rfl (fmToldSlides (hI76)) rfl h3_101 rfl rfl rfl rfl rfl rfl (fun n106 w102 hq103 => ?_)
  obtain ⟨hn107, hI104, hF105⟩ := hq103
  by_cases hc108 : n106 = 0
  · refine xg_t (xg_ifT (u := n106) rfl xnm0 (xj_eqT hc108)) ?_
    refine xg_t (xg_blk (b := [(66, 1, 3, 0, 0, 0)]) rfl) ?_
    refine xg_t (xg_const) ?_
    refine xg_t (xg_blk (b := [(67, 1, 17, 0, 0, 0), (68, 1, 0, 0, 0, 0), (69, 3, 1, 11, 9, 83), (72, 1, 3, 1, 0, 0), (73, 1, 0, 0, 0, 0), (74, 3, 1, 11, 0, 10), (77, 3, 13, 323, 72, 216), (80, 3, 7, 87, 1, 0), (83, 1, 3, 1, 0, 0), (84, 3, 8, 88, 0, 0)]) rfl) ?_
    refine xoI (hI104 80 (by decide) : cpI 11 48 4294967295 (wget w102 80)) (fun g80_109 h80_110 hb111 => ?_)
    refine xg_iastK (n := 0) (u := 0) h80_110 xnm0 xnm0 rfl (by omega) (fun w112 hr113 hb114 => ?_)
    refine xg_t (xg_aload (va := (2, 0)) rfl rfl) ?_
    refine xg_t (xg_getf (va := (2, 80)) (hb114.get (by decide) (hF105.get (by decide) (hF77.get (by decide) (hF68.get (by decide) (hF59.get (by decide) (hF35.get (by decide) (hF23.get (by decide) (hF12.get (by decide) h0_1)))))))) rfl) ?_
    refine xg_t (xg_const) ?_
    refine xg_t (xg_aload (va := (2, 0)) rfl rfl) ?_
    refine xg_t (xg_getf (va := (2, 1)) (hb114.get (by decide) (hF105.get (by decide) (hF77.get (by decide) (hF68.get (by decide) (hF59.get (by decide) (hF35.get (by decide) (hF23.get (by decide) (hF12.get (by decide) h0_1)))))))) rfl) ?_
    refine xg_cVi mX9_cracksInView (vs := []) (rest := [(0, 1), (2, 80)]) (cn1 := 0) (sl1 := 0) rfl (tdCracksInView (xInv.up (S := [80]) hI104 (xFr.of (S := [80]) hb114 (by decide)) (List.forall_mem_cons.mpr ⟨(show cpI 11 48 4294967295 (wget w112 80) from ⟨_, hr113, xrb (by omega) (hb111)⟩), fun _ h => absurd h List.not_mem_nil⟩))) rfl (hb114.get (by decide) (hF105.get (by decide) h1_90)) rfl rfl rfl rfl rfl rfl (fun n119 w115 hq116 => ?_)
    obtain ⟨hn120, hI117, hF118⟩ := hq116
    by_cases hc121 : n119 = 0
    · refine xg_t (xg_ifF (u := n119) rfl xnm0 (xj_neF hc121)) ?_
      refine xg_t (xg_const) ?_
      refine xg_t (xg_goto) ?_
      refine xg_t (xg_blk (b := [(88, 1, 17, 0, 0, 0), (89, 1, 0, 0, 0, 0), (90, 3, 1, 11, 9, 83), (93, 1, 3, 2, 0, 0), (94, 1, 0, 1, 0, 0), (95, 3, 1, 1, 0, 112), (98, 3, 1, 5, 3, 151), (101, 1, 17, 0, 0, 0), (102, 1, 0, 0, 0, 0), (103, 3, 1, 11, 9, 83), (106, 1, 3, 3, 0, 0), (107, 1, 0, 1, 0, 0), (108, 3, 1, 1, 0, 112), (111, 3, 1, 5, 3, 151), (114, 3, 7, 121, 1, 0), (117, 1, 3, 0, 0, 0), (118, 3, 8, 128, 0, 0)]) rfl) ?_
      refine xg_iastK (n := 1) (u := 1) (hr113.fr hF118 (by decide)) xnm0 xnm0 rfl (by omega) (fun w122 hr123 hb124 => ?_)
      refine xg_t (xg_aload (va := (2, 0)) rfl rfl) ?_
      refine xg_t (xg_getf (va := (2, 80)) (hb124.get (by decide) (hF118.get (by decide) (hb114.get (by decide) (hF105.get (by decide) (hF77.get (by decide) (hF68.get (by decide) (hF59.get (by decide) (hF35.get (by decide) (hF23.get (by decide) (hF12.get (by decide) h0_1)))))))))) rfl) ?_
      refine xg_t (xg_const) ?_
      refine xg_t (xg_aload (va := (2, 3)) rfl rfl) ?_
      refine xg_t (xg_getf (va := (2, 4)) (hb124.get (by decide) (hF118.get (by decide) (hb114.get (by decide) (hF105.get (by decide) h3_101)))) rfl) ?_
      obtain ⟨f4_125, h4_127, hb126⟩ := (hI117 4 (by decide) : cp4 (wget w115 4))
      refine xg_t (xg_getf (va := (0, f4_125)) (hb124.get (by decide) h4_127) rfl) ?_
      refine xg_iastK (n := 2) (u := f4_125) hr123 xnm0 xnm0 rfl (by omega) (fun w128 hr129 hb130 => ?_)
      refine xg_t (xg_aload (va := (2, 0)) rfl rfl) ?_
      refine xg_t (xg_getf (va := (2, 80)) (hb130.get (by decide) (hb124.get (by decide) (hF118.get (by decide) (hb114.get (by decide) (hF105.get (by decide) (hF77.get (by decide) (hF68.get (by decide) (hF59.get (by decide) (hF35.get (by decide) (hF23.get (by decide) (hF12.get (by decide) h0_1))))))))))) rfl) ?_
      refine xg_t (xg_const) ?_
      refine xg_t (xg_aload (va := (2, 3)) rfl rfl) ?_
      refine xg_t (xg_getf (va := (2, 4)) (hb130.get (by decide) (hb124.get (by decide) (hF118.get (by decide) (hb114.get (by decide) (hF105.get (by decide) h3_101))))) rfl) ?_
      refine xg_t (xg_getf (va := (0, f4_125)) (hb130.get (by decide) (hb124.get (by decide) h4_127)) rfl) ?_
      by_cases hc131 : f4_125 = 0
      · refine xg_t (xg_ifF (u := f4_125) rfl xnm0 (xj_neF hc131)) ?_
        refine xg_t (xg_const) ?_
        refine xg_t (xg_goto) ?_
        refine xg_t (xg_blk (b := [(128, 1, 17, 0, 0, 0), (129, 1, 0, 0, 0, 0), (130, 3, 1, 11, 9, 83), (133, 1, 3, 4, 0, 0), (134, 1, 0, 1, 0, 0), (135, 3, 1, 1, 7, 225), (138, 1, 17, 0, 0, 0), (139, 1, 0, 0, 0, 0), (140, 3, 1, 11, 9, 83), (143, 1, 3, 5, 0, 0), (144, 1, 0, 0, 0, 0), (145, 3, 1, 11, 5, 52), (148, 3, 1, 10, 11, 222), (151, 1, 17, 0, 0, 0), (152, 1, 0, 0, 0, 0), (153, 3, 1, 11, 9, 83), (156, 2, 4, 6, 0, 0), (158, 1, 0, 0, 0, 0), (159, 3, 13, 45, 88, 291), (162, 1, 17, 0, 0, 0), (163, 1, 0, 0, 0, 0), (164, 3, 1, 11, 9, 83), (167, 2, 4, 7, 0, 0), (169, 3, 5, 9999, 0, 0), (172, 1, 0, 0, 0, 0), (173, 3, 1, 11, 7, 66), (176, 1, 3, 0, 0, 0), (177, 1, 3, 0, 0, 0), (178, 1, 0, 1, 0, 0), (179, 3, 1, 1, 5, 297), (182, 1, 0, 1, 0, 0), (183, 3, 1, 1, 6, 300), (186, 3, 13, 310, 56, 306), (189, 3, 63, 0, 0, 403), (192, 1, 17, 0, 0, 0), (193, 1, 0, 0, 0, 0), (194, 3, 1, 11, 9, 83), (197, 2, 4, 8, 0, 0), (199, 1, 0, 0, 0, 0), (200, 3, 1, 11, 0, 10), (203, 3, 13, 323, 72, 216), (206, 1, 17, 0, 0, 0), (207, 1, 0, 0, 0, 0), (208, 3, 1, 11, 9, 83), (211, 2, 4, 9, 0, 0), (213, 1, 0, 0, 0, 0), (214, 3, 1, 11, 8, 79), (217, 3, 1, 4, 4, 328), (220, 1, 17, 0, 0, 0), (221, 1, 0, 0, 0, 0), (222, 3, 1, 11, 9, 83), (225, 2, 4, 10, 0, 0), (227, 1, 0, 0, 0, 0), (228, 3, 1, 11, 0, 10), (231, 3, 1, 9, 6, 186), (234, 1, 17, 0, 0, 0), (235, 1, 12, 0, 0, 0)]) rfl) ?_
        refine xg_iastK (n := 3) (u := 0) hr129 xnm0 xnm0 rfl (by omega) (fun w132 hr133 hb134 => ?_)
        refine xg_t (xg_aload (va := (2, 0)) rfl rfl) ?_
        refine xg_t (xg_getf (va := (2, 80)) (hb134.get (by decide) (hb130.get (by decide) (hb124.get (by decide) (hF118.get (by decide) (hb114.get (by decide) (hF105.get (by decide) (hF77.get (by decide) (hF68.get (by decide) (hF59.get (by decide) (hF35.get (by decide) (hF23.get (by decide) (hF12.get (by decide) h0_1)))))))))))) rfl) ?_
        refine xg_t (xg_const) ?_
        refine xg_t (xg_aload (va := (2, 3)) rfl rfl) ?_
        refine xg_t (xg_getf (va := (0, f3_95)) (hb134.get (by decide) (hb130.get (by decide) (hb124.get (by decide) (hF118.get (by decide) (hb114.get (by decide) (hF105.get (by decide) h3_101)))))) rfl) ?_
        refine xg_iastK (n := 4) (u := f3_95) hr133 xnm0 xnm0 rfl (by omega) (fun w135 hr136 hb137 => ?_)
        refine xg_t (xg_aload (va := (2, 0)) rfl rfl) ?_
        refine xg_t (xg_getf (va := (2, 80)) (hb137.get (by decide) (hb134.get (by decide) (hb130.get (by decide) (hb124.get (by decide) (hF118.get (by decide) (hb114.get (by decide) (hF105.get (by decide) (hF77.get (by decide) (hF68.get (by decide) (hF59.get (by decide) (hF35.get (by decide) (hF23.get (by decide) (hF12.get (by decide) h0_1))))))))))))) rfl) ?_
        refine xg_t (xg_const) ?_
        refine xg_t (xg_aload (va := (2, 0)) rfl rfl) ?_
        refine xg_t (xg_getf (va := (2, 58)) (hb137.get (by decide) (hb134.get (by decide) (hb130.get (by decide) (hb124.get (by decide) (hF118.get (by decide) (hb114.get (by decide) (hF105.get (by decide) (hF77.get (by decide) (hF68.get (by decide) (hF59.get (by decide) (hF35.get (by decide) (hF23.get (by decide) (hF12.get (by decide) h0_1))))))))))))) rfl) ?_
        refine xoC58 (hI117 58 (by decide) : cp58 (wget w115 58)) (fun f58_138 f58_140 f58_142 h58_144 hb139 hb141 hb143 => ?_)
        refine xg_t (xg_getf (va := (0, f58_140)) (hb137.get (by decide) (hb134.get (by decide) (hb130.get (by decide) (hb124.get (by decide) h58_144)))) rfl) ?_
        refine xg_iastK (n := 5) (u := f58_140) hr136 xnm0 xnm0 rfl (by omega) (fun w145 hr146 hb147 => ?_)
        refine xg_t (xg_aload (va := (2, 0)) rfl rfl) ?_
        refine xg_t (xg_getf (va := (2, 80)) (hb147.get (by decide) (hb137.get (by decide) (hb134.get (by decide) (hb130.get (by decide) (hb124.get (by decide) (hF118.get (by decide) (hb114.get (by decide) (hF105.get (by decide) (hF77.get (by decide) (hF68.get (by decide) (hF59.get (by decide) (hF35.get (by decide) (hF23.get (by decide) (hF12.get (by decide) h0_1)))))))))))))) rfl) ?_
        refine xg_t (xg_bip) ?_
        refine xg_t (xg_aload (va := (2, 0)) rfl rfl) ?_
        refine xg_cVi mX11_countDark (vs := []) (rest := [(0, 6), (2, 80)]) (cn1 := 0) (sl1 := 0) rfl (scCountDark (xInv.up (S := [80]) hI117 (((((xFr.of (S := [80]) hb124 (by decide)).tr (xFr.of (S := [80]) hb130 (by decide))).tr (xFr.of (S := [80]) hb134 (by decide))).tr (xFr.of (S := [80]) hb137 (by decide))).tr (xFr.of (S := [80]) hb147 (by decide))) (List.forall_mem_cons.mpr ⟨(show cpI 11 48 4294967295 (wget w145 80) from ⟨_, hr146, xrb (by omega) (xrb (by omega) (xrb (by omega) (xrb (by omega) (xrb (by omega) (xrb (by omega) (hb111))))))⟩), fun _ h => absurd h List.not_mem_nil⟩))) rfl (hb147.get (by decide) (hb137.get (by decide) (hb134.get (by decide) (hb130.get (by decide) (hb124.get (by decide) (hF118.get (by decide) (hb114.get (by decide) (hF105.get (by decide) (hF77.get (by decide) (hF68.get (by decide) (hF59.get (by decide) (hF35.get (by decide) (hF23.get (by decide) (hF12.get (by decide) h0_1)))))))))))))) rfl rfl rfl rfl rfl rfl (fun n152 w148 hq149 => ?_)
        obtain ⟨hn153, hI150, hF151⟩ := hq149
        refine xg_iastK (n := 6) (u := n152) (hr146.fr hF151 (by decide)) xnm0 xnm0 rfl (by omega) (fun w154 hr155 hb156 => ?_)
        refine xg_t (xg_aload (va := (2, 0)) rfl rfl) ?_
        refine xg_t (xg_getf (va := (2, 80)) (hb156.get (by decide) (hF151.get (by decide) (hb147.get (by decide) (hb137.get (by decide) (hb134.get (by decide) (hb130.get (by decide) (hb124.get (by decide) (hF118.get (by decide) (hb114.get (by decide) (hF105.get (by decide) (hF77.get (by decide) (hF68.get (by decide) (hF59.get (by decide) (hF35.get (by decide) (hF23.get (by decide) (hF12.get (by decide) h0_1)))))))))))))))) rfl) ?_
        refine xg_t (xg_bip) ?_
        refine xg_t (xg_sip) ?_
        refine xg_t (xg_aload (va := (2, 0)) rfl rfl) ?_
        refine xg_t (xg_getf (va := (2, 72)) (hb156.get (by decide) (hF151.get (by decide) (hb147.get (by decide) (hb137.get (by decide) (hb134.get (by decide) (hb130.get (by decide) (hb124.get (by decide) (hF118.get (by decide) (hb114.get (by decide) (hF105.get (by decide) (hF77.get (by decide) (hF68.get (by decide) (hF59.get (by decide) (hF35.get (by decide) (hF23.get (by decide) (hF12.get (by decide) h0_1)))))))))))))))) rfl) ?_
        refine xg_t (xg_const) ?_
        refine xg_t (xg_const) ?_
        refine xg_t (xg_aload (va := (2, 3)) rfl rfl) ?_
        refine xg_t (xg_getf (va := (0, f3_91)) (hb156.get (by decide) (hF151.get (by decide) (hb147.get (by decide) (hb137.get (by decide) (hb134.get (by decide) (hb130.get (by decide) (hb124.get (by decide) (hF118.get (by decide) (hb114.get (by decide) (hF105.get (by decide) h3_101)))))))))) rfl) ?_
        refine xg_t (xg_aload (va := (2, 3)) rfl rfl) ?_
        refine xg_t (xg_getf (va := (0, f3_93)) (hb156.get (by decide) (hF151.get (by decide) (hb147.get (by decide) (hb137.get (by decide) (hb134.get (by decide) (hb130.get (by decide) (hb124.get (by decide) (hF118.get (by decide) (hb114.get (by decide) (hF105.get (by decide) h3_101)))))))))) rfl) ?_
        refine xoC72 (hI150 72 (by decide) : cp72 (wget w148 72)) (fun f72_157 f72_159 h72_161 hb158 hb160 => ?_)
        refine xg_cVi mX7_worthOf (vs := [(0, 0), (0, 0), (0, f3_91), (0, f3_93)]) (rest := [(0, 9999), (0, 7), (2, 80)]) (cn1 := 0) (sl1 := 0) rfl (shWorthOf (xInv.up (S := [80]) hI150 (xFr.of (S := [80]) hb156 (by decide)) (List.forall_mem_cons.mpr ⟨(show cpI 11 48 4294967295 (wget w154 80) from ⟨_, hr155, xrb (by omega) (xrb (by omega) (xrb (by omega) (xrb (by omega) (xrb (by omega) (xrb (by omega) (xrb (by omega) (hb111)))))))⟩), fun _ h => absurd h List.not_mem_nil⟩)) (by omega) (by omega) (by omega) (by omega)) rfl (hb156.get (by decide) h72_161) rfl rfl rfl rfl rfl rfl (fun n166 w162 hq163 => ?_)
        obtain ⟨hn167, hI164, hF165⟩ := hq163
        refine xg_minK (u := 9999) (v := n166) xnm0 xnm0 xmx_ok (by omega) (by omega) (fun z168 hz169 hz170 hz171 hz172 => ?_)
        unfold xbs at hz170 hz171
        refine xg_iastK (n := 7) (u := z168) (hr155.fr hF165 (by decide)) xnm0 xnm0 rfl (by omega) (fun w173 hr174 hb175 => ?_)
        refine xg_t (xg_aload (va := (2, 0)) rfl rfl) ?_
        refine xg_t (xg_getf (va := (2, 80)) (hb175.get (by decide) (hF165.get (by decide) (hb156.get (by decide) (hF151.get (by decide) (hb147.get (by decide) (hb137.get (by decide) (hb134.get (by decide) (hb130.get (by decide) (hb124.get (by decide) (hF118.get (by decide) (hb114.get (by decide) (hF105.get (by decide) (hF77.get (by decide) (hF68.get (by decide) (hF59.get (by decide) (hF35.get (by decide) (hF23.get (by decide) (hF12.get (by decide) h0_1)))))))))))))))))) rfl) ?_
        refine xg_t (xg_bip) ?_
        refine xg_t (xg_aload (va := (2, 0)) rfl rfl) ?_
        refine xg_t (xg_getf (va := (2, 1)) (hb175.get (by decide) (hF165.get (by decide) (hb156.get (by decide) (hF151.get (by decide) (hb147.get (by decide) (hb137.get (by decide) (hb134.get (by decide) (hb130.get (by decide) (hb124.get (by decide) (hF118.get (by decide) (hb114.get (by decide) (hF105.get (by decide) (hF77.get (by decide) (hF68.get (by decide) (hF59.get (by decide) (hF35.get (by decide) (hF23.get (by decide) (hF12.get (by decide) h0_1)))))))))))))))))) rfl) ?_
        refine xg_cVi mX9_cracksInView (vs := []) (rest := [(0, 8), (2, 80)]) (cn1 := 0) (sl1 := 0) rfl (tdCracksInView (xInv.up (S := [80]) hI164 (xFr.of (S := [80]) hb175 (by decide)) (List.forall_mem_cons.mpr ⟨(show cpI 11 48 4294967295 (wget w173 80) from ⟨_, hr174, xrb (by omega) (xrb (by omega) (xrb (by omega) (xrb (by omega) (xrb (by omega) (xrb (by omega) (xrb (by omega) (xrb (by omega) (hb111))))))))⟩), fun _ h => absurd h List.not_mem_nil⟩))) rfl (hb175.get (by decide) (hF165.get (by decide) (hb156.get (by decide) (hF151.get (by decide) (hb147.get (by decide) (hb137.get (by decide) (hb134.get (by decide) (hb130.get (by decide) (hb124.get (by decide) (hF118.get (by decide) (hb114.get (by decide) (hF105.get (by decide) h1_90)))))))))))) rfl rfl rfl rfl rfl rfl (fun n180 w176 hq177 => ?_)
        obtain ⟨hn181, hI178, hF179⟩ := hq177
        refine xg_iastK (n := 8) (u := n180) (hr174.fr hF179 (by decide)) xnm0 xnm0 rfl (by omega) (fun w182 hr183 hb184 => ?_)
        refine xg_t (xg_aload (va := (2, 0)) rfl rfl) ?_
        refine xg_t (xg_getf (va := (2, 80)) (hb184.get (by decide) (hF179.get (by decide) (hb175.get (by decide) (hF165.get (by decide) (hb156.get (by decide) (hF151.get (by decide) (hb147.get (by decide) (hb137.get (by decide) (hb134.get (by decide) (hb130.get (by decide) (hb124.get (by decide) (hF118.get (by decide) (hb114.get (by decide) (hF105.get (by decide) (hF77.get (by decide) (hF68.get (by decide) (hF59.get (by decide) (hF35.get (by decide) (hF23.get (by decide) (hF12.get (by decide) h0_1)))))))))))))))))))) rfl) ?_
        refine xg_t (xg_bip) ?_
        refine xg_t (xg_aload (va := (2, 0)) rfl rfl) ?_
        refine xg_t (xg_getf (va := (2, 76)) (hb184.get (by decide) (hF179.get (by decide) (hb175.get (by decide) (hF165.get (by decide) (hb156.get (by decide) (hF151.get (by decide) (hb147.get (by decide) (hb137.get (by decide) (hb134.get (by decide) (hb130.get (by decide) (hb124.get (by decide) (hF118.get (by decide) (hb114.get (by decide) (hF105.get (by decide) (hF77.get (by decide) (hF68.get (by decide) (hF59.get (by decide) (hF35.get (by decide) (hF23.get (by decide) (hF12.get (by decide) h0_1)))))))))))))))))))) rfl) ?_
        refine xoC76 (hI178 76 (by decide) : cp76 (wget w176 76)) (fun f76_185 f76_187 f76_189 f76_191 f76_193 f76_195 f76_197 f76_199 h76_201 hb186 hb188 hb190 hb192 hb194 hb196 hb198 hb200 => ?_)
        refine xg_t (xg_getf (va := (0, f76_185)) (hb184.get (by decide) h76_201) rfl) ?_
        refine xg_iastK (n := 9) (u := f76_185) hr183 xnm0 xnm0 rfl (by omega) (fun w202 hr203 hb204 => ?_)
        refine xg_t (xg_aload (va := (2, 0)) rfl rfl) ?_
        refine xg_t (xg_getf (va := (2, 80)) (hb204.get (by decide) (hb184.get (by decide) (hF179.get (by decide) (hb175.get (by decide) (hF165.get (by decide) (hb156.get (by decide) (hF151.get (by decide) (hb147.get (by decide) (hb137.get (by decide) (hb134.get (by decide) (hb130.get (by decide) (hb124.get (by decide) (hF118.get (by decide) (hb114.get (by decide) (hF105.get (by decide) (hF77.get (by decide) (hF68.get (by decide) (hF59.get (by decide) (hF35.get (by decide) (hF23.get (by decide) (hF12.get (by decide) h0_1))))))))))))))))))))) rfl) ?_
        refine xg_t (xg_bip) ?_
        refine xg_t (xg_aload (va := (2, 0)) rfl rfl) ?_
        refine xg_t (xg_getf (va := (2, 1)) (hb204.get (by decide) (hb184.get (by decide) (hF179.get (by decide) (hb175.get (by decide) (hF165.get (by decide) (hb156.get (by decide) (hF151.get (by decide) (hb147.get (by decide) (hb137.get (by decide) (hb134.get (by decide) (hb130.get (by decide) (hb124.get (by decide) (hF118.get (by decide) (hb114.get (by decide) (hF105.get (by decide) (hF77.get (by decide) (hF68.get (by decide) (hF59.get (by decide) (hF35.get (by decide) (hF23.get (by decide) (hF12.get (by decide) h0_1))))))))))))))))))))) rfl) ?_
        refine xg_t (xg_getf (va := (0, f1_84)) (hb204.get (by decide) (hb184.get (by decide) (hF179.get (by decide) (hb175.get (by decide) (hF165.get (by decide) (hb156.get (by decide) (hF151.get (by decide) (hb147.get (by decide) (hb137.get (by decide) (hb134.get (by decide) (hb130.get (by decide) (hb124.get (by decide) (hF118.get (by decide) (hb114.get (by decide) (hF105.get (by decide) h1_90))))))))))))))) rfl) ?_
        refine xg_iastK (n := 10) (u := f1_84) hr203 xnm0 xnm0 rfl (by omega) (fun w205 hr206 hb207 => ?_)
        have ga208 := agQ.fr gq37 hF59 (by decide)
        have ga209 := agV.fr gq38 hF59 (by decide)
        have ga210 := agQ.fr ga208 hF68 (by decide)
        have ga211 := agV.fr ga209 hF68 (by decide)
        have ga212 := agQ.fr ga210 hF77 (by decide)
        have ga213 := agV.fr ga211 hF77 (by decide)
        have ga214 := agQ.fr ga212 hF105 (by decide)
        have ga215 := agV.fr ga213 hF105 (by decide)
        have ga216 := agQ.fr ga214 (xFr.of (S := [80]) hb114 (by decide)) (by decide)
        have ga217 := agV.fr ga215 (xFr.of (S := [80]) hb114 (by decide)) (by decide)
        have ga218 := agQ.fr ga216 hF118 (by decide)
        have ga219 := agV.fr ga217 hF118 (by decide)
        have ga220 := agQ.fr ga218 (xFr.of (S := [80]) hb124 (by decide)) (by decide)
        have ga221 := agV.fr ga219 (xFr.of (S := [80]) hb124 (by decide)) (by decide)
        have ga222 := agQ.fr ga220 (xFr.of (S := [80]) hb130 (by decide)) (by decide)
        have ga223 := agV.fr ga221 (xFr.of (S := [80]) hb130 (by decide)) (by decide)
        have ga224 := agQ.fr ga222 (xFr.of (S := [80]) hb134 (by decide)) (by decide)
        have ga225 := agV.fr ga223 (xFr.of (S := [80]) hb134 (by decide)) (by decide)
        have ga226 := agQ.fr ga224 (xFr.of (S := [80]) hb137 (by decide)) (by decide)
        have ga227 := agV.fr ga225 (xFr.of (S := [80]) hb137 (by decide)) (by decide)
        have ga228 := agQ.fr ga226 (xFr.of (S := [80]) hb147 (by decide)) (by decide)
        have ga229 := agV.fr ga227 (xFr.of (S := [80]) hb147 (by decide)) (by decide)
        have ga230 := agQ.fr ga228 hF151 (by decide)
        have ga231 := agV.fr ga229 hF151 (by decide)
        have ga232 := agQ.fr ga230 (xFr.of (S := [80]) hb156 (by decide)) (by decide)
        have ga233 := agV.fr ga231 (xFr.of (S := [80]) hb156 (by decide)) (by decide)
        have ga234 := agQ.fr ga232 hF165 (by decide)
        have ga235 := agV.fr ga233 hF165 (by decide)
        have ga236 := agQ.fr ga234 (xFr.of (S := [80]) hb175 (by decide)) (by decide)
        have ga237 := agV.fr ga235 (xFr.of (S := [80]) hb175 (by decide)) (by decide)
        have ga238 := agQ.fr ga236 hF179 (by decide)
        have ga239 := agV.fr ga237 hF179 (by decide)
        have ga240 := agQ.fr ga238 (xFr.of (S := [80]) hb184 (by decide)) (by decide)
        have ga241 := agV.fr ga239 (xFr.of (S := [80]) hb184 (by decide)) (by decide)
        have ga242 := agQ.fr ga240 (xFr.of (S := [80]) hb204 (by decide)) (by decide)
        have ga243 := agV.fr ga241 (xFr.of (S := [80]) hb204 (by decide)) (by decide)
        have ga244 := agQ.fr ga242 (xFr.of (S := [80]) hb207 (by decide)) (by decide)
        have ga245 := agV.fr ga243 (xFr.of (S := [80]) hb207 (by decide)) (by decide)
        exact xg_e ⟨w205, ⟨rfl, rfl⟩, xInv.up (S := [80]) hI178 (((xFr.of (S := [80]) hb184 (by decide)).tr (xFr.of (S := [80]) hb204 (by decide))).tr (xFr.of (S := [80]) hb207 (by decide))) (List.forall_mem_cons.mpr ⟨(show cpI 11 48 4294967295 (wget w205 80) from ⟨_, hr206, xrb (by omega) (xrb (by omega) (xrb (by omega) (xrb (by omega) (xrb (by omega) (xrb (by omega) (xrb (by omega) (xrb (by omega) (xrb (by omega) (xrb (by omega) (xrb (by omega) (hb111)))))))))))⟩), fun _ h => absurd h List.not_mem_nil⟩), ((((((((((((((((hF12.up (by decide)).tr (hF23.up (by decide))).tr (hF35.up (by decide))).tr (hF59.up (by decide))).tr (hF68.up (by decide))).tr (hF77.up (by decide))).tr (hF105.up (by decide))).tr (xFr.of (S := [50, 51, 52, 53, 54, 55, 58, 59, 60, 61, 62, 63, 64, 65, 66, 67, 68, 69, 70, 71, 72, 73, 76, 77, 80]) hb114 (by decide))).tr (hF118.up (by decide))).tr (((((xFr.of (S := [50, 51, 52, 53, 54, 55, 58, 59, 60, 61, 62, 63, 64, 65, 66, 67, 68, 69, 70, 71, 72, 73, 76, 77, 80]) hb124 (by decide)).tr (xFr.of (S := [50, 51, 52, 53, 54, 55, 58, 59, 60, 61, 62, 63, 64, 65, 66, 67, 68, 69, 70, 71, 72, 73, 76, 77, 80]) hb130 (by decide))).tr (xFr.of (S := [50, 51, 52, 53, 54, 55, 58, 59, 60, 61, 62, 63, 64, 65, 66, 67, 68, 69, 70, 71, 72, 73, 76, 77, 80]) hb134 (by decide))).tr (xFr.of (S := [50, 51, 52, 53, 54, 55, 58, 59, 60, 61, 62, 63, 64, 65, 66, 67, 68, 69, 70, 71, 72, 73, 76, 77, 80]) hb137 (by decide))).tr (xFr.of (S := [50, 51, 52, 53, 54, 55, 58, 59, 60, 61, 62, 63, 64, 65, 66, 67, 68, 69, 70, 71, 72, 73, 76, 77, 80]) hb147 (by decide)))).tr (hF151.up (by decide))).tr (xFr.of (S := [50, 51, 52, 53, 54, 55, 58, 59, 60, 61, 62, 63, 64, 65, 66, 67, 68, 69, 70, 71, 72, 73, 76, 77, 80]) hb156 (by decide))).tr (hF165.up (by decide))).tr (xFr.of (S := [50, 51, 52, 53, 54, 55, 58, 59, 60, 61, 62, 63, 64, 65, 66, 67, 68, 69, 70, 71, 72, 73, 76, 77, 80]) hb175 (by decide))).tr (hF179.up (by decide))).tr (((xFr.of (S := [50, 51, 52, 53, 54, 55, 58, 59, 60, 61, 62, 63, 64, 65, 66, 67, 68, 69, 70, 71, 72, 73, 76, 77, 80]) hb184 (by decide)).tr (xFr.of (S := [50, 51, 52, 53, 54, 55, 58, 59, 60, 61, 62, 63, 64, 65, 66, 67, 68, 69, 70, 71, 72, 73, 76, 77, 80]) hb204 (by decide))).tr (xFr.of (S := [50, 51, 52, 53, 54, 55, 58, 59, 60, 61, 62, 63, 64, 65, 66, 67, 68, 69, 70, 71, 72, 73, 76, 77, 80]) hb207 (by decide)))), ga245⟩
      · refine xg_t (xg_ifT (u := f4_125) rfl xnm0 (xj_neT hc131)) ?_
        refine xg_t (xg_blk (b := [(121, 1, 0, 0, 0, 0), (122, 3, 1, 11, 4, 45), (125, 3, 13, 13, 0, 154)]) rfl) ?_
        refine xg_t (xg_aload (va := (2, 0)) rfl rfl) ?_
        refine xg_t (xg_getf (va := (2, 49)) (hb130.get (by decide) (hb124.get (by decide) (hF118.get (by decide) (hb114.get (by decide) (hF105.get (by decide) (hF77.get (by decide) (hF68.get (by decide) (hF59.get (by decide) (hF35.get (by decide) (hF23.get (by decide) (hF12.get (by decide) h0_1))))))))))) rfl) ?_
        refine xg_cVi mX0_leastRound (vs := []) (rest := [(0, 3), (2, 80)]) (cn1 := 0) (sl1 := 0) rfl (bdLeast (xInv.up (S := [80]) hI117 ((xFr.of (S := [80]) hb124 (by decide)).tr (xFr.of (S := [80]) hb130 (by decide))) (List.forall_mem_cons.mpr ⟨(show cpI 11 48 4294967295 (wget w128 80) from ⟨_, hr129, xrb (by omega) (xrb (by omega) (xrb (by omega) (hb111)))⟩), fun _ h => absurd h List.not_mem_nil⟩))) rfl (hb130.get (by decide) (hb124.get (by decide) (hF118.get (by decide) (hb114.get (by decide) (hF105.get (by decide) (hF77.get (by decide) h49_73)))))) rfl rfl rfl rfl rfl rfl (fun n250 w246 hq247 => ?_)
        obtain ⟨hn251, hI248, hF249⟩ := hq247
        refine xg_t (xg_blk (b := [(128, 1, 17, 0, 0, 0), (129, 1, 0, 0, 0, 0), (130, 3, 1, 11, 9, 83), (133, 1, 3, 4, 0, 0), (134, 1, 0, 1, 0, 0), (135, 3, 1, 1, 7, 225), (138, 1, 17, 0, 0, 0), (139, 1, 0, 0, 0, 0), (140, 3, 1, 11, 9, 83), (143, 1, 3, 5, 0, 0), (144, 1, 0, 0, 0, 0), (145, 3, 1, 11, 5, 52), (148, 3, 1, 10, 11, 222), (151, 1, 17, 0, 0, 0), (152, 1, 0, 0, 0, 0), (153, 3, 1, 11, 9, 83), (156, 2, 4, 6, 0, 0), (158, 1, 0, 0, 0, 0), (159, 3, 13, 45, 88, 291), (162, 1, 17, 0, 0, 0), (163, 1, 0, 0, 0, 0), (164, 3, 1, 11, 9, 83), (167, 2, 4, 7, 0, 0), (169, 3, 5, 9999, 0, 0), (172, 1, 0, 0, 0, 0), (173, 3, 1, 11, 7, 66), (176, 1, 3, 0, 0, 0), (177, 1, 3, 0, 0, 0), (178, 1, 0, 1, 0, 0), (179, 3, 1, 1, 5, 297), (182, 1, 0, 1, 0, 0), (183, 3, 1, 1, 6, 300), (186, 3, 13, 310, 56, 306), (189, 3, 63, 0, 0, 403), (192, 1, 17, 0, 0, 0), (193, 1, 0, 0, 0, 0), (194, 3, 1, 11, 9, 83), (197, 2, 4, 8, 0, 0), (199, 1, 0, 0, 0, 0), (200, 3, 1, 11, 0, 10), (203, 3, 13, 323, 72, 216), (206, 1, 17, 0, 0, 0), (207, 1, 0, 0, 0, 0), (208, 3, 1, 11, 9, 83), (211, 2, 4, 9, 0, 0), (213, 1, 0, 0, 0, 0), (214, 3, 1, 11, 8, 79), (217, 3, 1, 4, 4, 328), (220, 1, 17, 0, 0, 0), (221, 1, 0, 0, 0, 0), (222, 3, 1, 11, 9, 83), (225, 2, 4, 10, 0, 0), (227, 1, 0, 0, 0, 0), (228, 3, 1, 11, 0, 10), (231, 3, 1, 9, 6, 186), (234, 1, 17, 0, 0, 0), (235, 1, 12, 0, 0, 0)]) rfl) ?_
        refine xg_iastK (n := 3) (u := n250) (hr129.fr hF249 (by decide)) xnm0 xnm0 rfl (by omega) (fun w252 hr253 hb254 => ?_)
        refine xg_t (xg_aload (va := (2, 0)) rfl rfl) ?_
        refine xg_t (xg_getf (va := (2, 80)) (hb254.get (by decide) (hF249.get (by decide) (hb130.get (by decide) (hb124.get (by decide) (hF118.get (by decide) (hb114.get (by decide) (hF105.get (by decide) (hF77.get (by decide) (hF68.get (by decide) (hF59.get (by decide) (hF35.get (by decide) (hF23.get (by decide) (hF12.get (by decide) h0_1))))))))))))) rfl) ?_
        refine xg_t (xg_const) ?_
        refine xg_t (xg_aload (va := (2, 3)) rfl rfl) ?_
        refine xg_t (xg_getf (va := (0, f3_95)) (hb254.get (by decide) (hF249.get (by decide) (hb130.get (by decide) (hb124.get (by decide) (hF118.get (by decide) (hb114.get (by decide) (hF105.get (by decide) h3_101))))))) rfl) ?_
        refine xg_iastK (n := 4) (u := f3_95) hr253 xnm0 xnm0 rfl (by omega) (fun w255 hr256 hb257 => ?_)
        refine xg_t (xg_aload (va := (2, 0)) rfl rfl) ?_
        refine xg_t (xg_getf (va := (2, 80)) (hb257.get (by decide) (hb254.get (by decide) (hF249.get (by decide) (hb130.get (by decide) (hb124.get (by decide) (hF118.get (by decide) (hb114.get (by decide) (hF105.get (by decide) (hF77.get (by decide) (hF68.get (by decide) (hF59.get (by decide) (hF35.get (by decide) (hF23.get (by decide) (hF12.get (by decide) h0_1)))))))))))))) rfl) ?_
        refine xg_t (xg_const) ?_
        refine xg_t (xg_aload (va := (2, 0)) rfl rfl) ?_
        refine xg_t (xg_getf (va := (2, 58)) (hb257.get (by decide) (hb254.get (by decide) (hF249.get (by decide) (hb130.get (by decide) (hb124.get (by decide) (hF118.get (by decide) (hb114.get (by decide) (hF105.get (by decide) (hF77.get (by decide) (hF68.get (by decide) (hF59.get (by decide) (hF35.get (by decide) (hF23.get (by decide) (hF12.get (by decide) h0_1)))))))))))))) rfl) ?_
        refine xoC58 (hI248 58 (by decide) : cp58 (wget w246 58)) (fun f58_258 f58_260 f58_262 h58_264 hb259 hb261 hb263 => ?_)
        refine xg_t (xg_getf (va := (0, f58_260)) (hb257.get (by decide) (hb254.get (by decide) h58_264)) rfl) ?_
        refine xg_iastK (n := 5) (u := f58_260) hr256 xnm0 xnm0 rfl (by omega) (fun w265 hr266 hb267 => ?_)
        refine xg_t (xg_aload (va := (2, 0)) rfl rfl) ?_
        refine xg_t (xg_getf (va := (2, 80)) (hb267.get (by decide) (hb257.get (by decide) (hb254.get (by decide) (hF249.get (by decide) (hb130.get (by decide) (hb124.get (by decide) (hF118.get (by decide) (hb114.get (by decide) (hF105.get (by decide) (hF77.get (by decide) (hF68.get (by decide) (hF59.get (by decide) (hF35.get (by decide) (hF23.get (by decide) (hF12.get (by decide) h0_1))))))))))))))) rfl) ?_
        refine xg_t (xg_bip) ?_
        refine xg_t (xg_aload (va := (2, 0)) rfl rfl) ?_
        refine xg_cVi mX11_countDark (vs := []) (rest := [(0, 6), (2, 80)]) (cn1 := 0) (sl1 := 0) rfl (scCountDark (xInv.up (S := [80]) hI248 (((xFr.of (S := [80]) hb254 (by decide)).tr (xFr.of (S := [80]) hb257 (by decide))).tr (xFr.of (S := [80]) hb267 (by decide))) (List.forall_mem_cons.mpr ⟨(show cpI 11 48 4294967295 (wget w265 80) from ⟨_, hr266, xrb (by omega) (xrb (by omega) (xrb (by omega) (xrb (by omega) (xrb (by omega) (xrb (by omega) (hb111))))))⟩), fun _ h => absurd h List.not_mem_nil⟩))) rfl (hb267.get (by decide) (hb257.get (by decide) (hb254.get (by decide) (hF249.get (by decide) (hb130.get (by decide) (hb124.get (by decide) (hF118.get (by decide) (hb114.get (by decide) (hF105.get (by decide) (hF77.get (by decide) (hF68.get (by decide) (hF59.get (by decide) (hF35.get (by decide) (hF23.get (by decide) (hF12.get (by decide) h0_1))))))))))))))) rfl rfl rfl rfl rfl rfl (fun n272 w268 hq269 => ?_)
        obtain ⟨hn273, hI270, hF271⟩ := hq269
        refine xg_iastK (n := 6) (u := n272) (hr266.fr hF271 (by decide)) xnm0 xnm0 rfl (by omega) (fun w274 hr275 hb276 => ?_)
        refine xg_t (xg_aload (va := (2, 0)) rfl rfl) ?_
        refine xg_t (xg_getf (va := (2, 80)) (hb276.get (by decide) (hF271.get (by decide) (hb267.get (by decide) (hb257.get (by decide) (hb254.get (by decide) (hF249.get (by decide) (hb130.get (by decide) (hb124.get (by decide) (hF118.get (by decide) (hb114.get (by decide) (hF105.get (by decide) (hF77.get (by decide) (hF68.get (by decide) (hF59.get (by decide) (hF35.get (by decide) (hF23.get (by decide) (hF12.get (by decide) h0_1))))))))))))))))) rfl) ?_
        refine xg_t (xg_bip) ?_
        refine xg_t (xg_sip) ?_
        refine xg_t (xg_aload (va := (2, 0)) rfl rfl) ?_
        refine xg_t (xg_getf (va := (2, 72)) (hb276.get (by decide) (hF271.get (by decide) (hb267.get (by decide) (hb257.get (by decide) (hb254.get (by decide) (hF249.get (by decide) (hb130.get (by decide) (hb124.get (by decide) (hF118.get (by decide) (hb114.get (by decide) (hF105.get (by decide) (hF77.get (by decide) (hF68.get (by decide) (hF59.get (by decide) (hF35.get (by decide) (hF23.get (by decide) (hF12.get (by decide) h0_1))))))))))))))))) rfl) ?_
        refine xg_t (xg_const) ?_
        refine xg_t (xg_const) ?_
        refine xg_t (xg_aload (va := (2, 3)) rfl rfl) ?_
        refine xg_t (xg_getf (va := (0, f3_91)) (hb276.get (by decide) (hF271.get (by decide) (hb267.get (by decide) (hb257.get (by decide) (hb254.get (by decide) (hF249.get (by decide) (hb130.get (by decide) (hb124.get (by decide) (hF118.get (by decide) (hb114.get (by decide) (hF105.get (by decide) h3_101))))))))))) rfl) ?_
        refine xg_t (xg_aload (va := (2, 3)) rfl rfl) ?_
        refine xg_t (xg_getf (va := (0, f3_93)) (hb276.get (by decide) (hF271.get (by decide) (hb267.get (by decide) (hb257.get (by decide) (hb254.get (by decide) (hF249.get (by decide) (hb130.get (by decide) (hb124.get (by decide) (hF118.get (by decide) (hb114.get (by decide) (hF105.get (by decide) h3_101))))))))))) rfl) ?_
        refine xoC72 (hI270 72 (by decide) : cp72 (wget w268 72)) (fun f72_277 f72_279 h72_281 hb278 hb280 => ?_)
        refine xg_cVi mX7_worthOf (vs := [(0, 0), (0, 0), (0, f3_91), (0, f3_93)]) (rest := [(0, 9999), (0, 7), (2, 80)]) (cn1 := 0) (sl1 := 0) rfl (shWorthOf (xInv.up (S := [80]) hI270 (xFr.of (S := [80]) hb276 (by decide)) (List.forall_mem_cons.mpr ⟨(show cpI 11 48 4294967295 (wget w274 80) from ⟨_, hr275, xrb (by omega) (xrb (by omega) (xrb (by omega) (xrb (by omega) (xrb (by omega) (xrb (by omega) (xrb (by omega) (hb111)))))))⟩), fun _ h => absurd h List.not_mem_nil⟩)) (by omega) (by omega) (by omega) (by omega)) rfl (hb276.get (by decide) h72_281) rfl rfl rfl rfl rfl rfl (fun n286 w282 hq283 => ?_)
        obtain ⟨hn287, hI284, hF285⟩ := hq283
        refine xg_minK (u := 9999) (v := n286) xnm0 xnm0 xmx_ok (by omega) (by omega) (fun z288 hz289 hz290 hz291 hz292 => ?_)
        unfold xbs at hz290 hz291
        refine xg_iastK (n := 7) (u := z288) (hr275.fr hF285 (by decide)) xnm0 xnm0 rfl (by omega) (fun w293 hr294 hb295 => ?_)
        refine xg_t (xg_aload (va := (2, 0)) rfl rfl) ?_
        refine xg_t (xg_getf (va := (2, 80)) (hb295.get (by decide) (hF285.get (by decide) (hb276.get (by decide) (hF271.get (by decide) (hb267.get (by decide) (hb257.get (by decide) (hb254.get (by decide) (hF249.get (by decide) (hb130.get (by decide) (hb124.get (by decide) (hF118.get (by decide) (hb114.get (by decide) (hF105.get (by decide) (hF77.get (by decide) (hF68.get (by decide) (hF59.get (by decide) (hF35.get (by decide) (hF23.get (by decide) (hF12.get (by decide) h0_1))))))))))))))))))) rfl) ?_
        refine xg_t (xg_bip) ?_
        refine xg_t (xg_aload (va := (2, 0)) rfl rfl) ?_
        refine xg_t (xg_getf (va := (2, 1)) (hb295.get (by decide) (hF285.get (by decide) (hb276.get (by decide) (hF271.get (by decide) (hb267.get (by decide) (hb257.get (by decide) (hb254.get (by decide) (hF249.get (by decide) (hb130.get (by decide) (hb124.get (by decide) (hF118.get (by decide) (hb114.get (by decide) (hF105.get (by decide) (hF77.get (by decide) (hF68.get (by decide) (hF59.get (by decide) (hF35.get (by decide) (hF23.get (by decide) (hF12.get (by decide) h0_1))))))))))))))))))) rfl) ?_
        refine xg_cVi mX9_cracksInView (vs := []) (rest := [(0, 8), (2, 80)]) (cn1 := 0) (sl1 := 0) rfl (tdCracksInView (xInv.up (S := [80]) hI284 (xFr.of (S := [80]) hb295 (by decide)) (List.forall_mem_cons.mpr ⟨(show cpI 11 48 4294967295 (wget w293 80) from ⟨_, hr294, xrb (by omega) (xrb (by omega) (xrb (by omega) (xrb (by omega) (xrb (by omega) (xrb (by omega) (xrb (by omega) (xrb (by omega) (hb111))))))))⟩), fun _ h => absurd h List.not_mem_nil⟩))) rfl (hb295.get (by decide) (hF285.get (by decide) (hb276.get (by decide) (hF271.get (by decide) (hb267.get (by decide) (hb257.get (by decide) (hb254.get (by decide) (hF249.get (by decide) (hb130.get (by decide) (hb124.get (by decide) (hF118.get (by decide) (hb114.get (by decide) (hF105.get (by decide) h1_90))))))))))))) rfl rfl rfl rfl rfl rfl (fun n300 w296 hq297 => ?_)
        obtain ⟨hn301, hI298, hF299⟩ := hq297
        refine xg_iastK (n := 8) (u := n300) (hr294.fr hF299 (by decide)) xnm0 xnm0 rfl (by omega) (fun w302 hr303 hb304 => ?_)
        refine xg_t (xg_aload (va := (2, 0)) rfl rfl) ?_
        refine xg_t (xg_getf (va := (2, 80)) (hb304.get (by decide) (hF299.get (by decide) (hb295.get (by decide) (hF285.get (by decide) (hb276.get (by decide) (hF271.get (by decide) (hb267.get (by decide) (hb257.get (by decide) (hb254.get (by decide) (hF249.get (by decide) (hb130.get (by decide) (hb124.get (by decide) (hF118.get (by decide) (hb114.get (by decide) (hF105.get (by decide) (hF77.get (by decide) (hF68.get (by decide) (hF59.get (by decide) (hF35.get (by decide) (hF23.get (by decide) (hF12.get (by decide) h0_1))))))))))))))))))))) rfl) ?_
        refine xg_t (xg_bip) ?_
        refine xg_t (xg_aload (va := (2, 0)) rfl rfl) ?_
        refine xg_t (xg_getf (va := (2, 76)) (hb304.get (by decide) (hF299.get (by decide) (hb295.get (by decide) (hF285.get (by decide) (hb276.get (by decide) (hF271.get (by decide) (hb267.get (by decide) (hb257.get (by decide) (hb254.get (by decide) (hF249.get (by decide) (hb130.get (by decide) (hb124.get (by decide) (hF118.get (by decide) (hb114.get (by decide) (hF105.get (by decide) (hF77.get (by decide) (hF68.get (by decide) (hF59.get (by decide) (hF35.get (by decide) (hF23.get (by decide) (hF12.get (by decide) h0_1))))))))))))))))))))) rfl) ?_
        refine xoC76 (hI298 76 (by decide) : cp76 (wget w296 76)) (fun f76_305 f76_307 f76_309 f76_311 f76_313 f76_315 f76_317 f76_319 h76_321 hb306 hb308 hb310 hb312 hb314 hb316 hb318 hb320 => ?_)
        refine xg_t (xg_getf (va := (0, f76_305)) (hb304.get (by decide) h76_321) rfl) ?_
        refine xg_iastK (n := 9) (u := f76_305) hr303 xnm0 xnm0 rfl (by omega) (fun w322 hr323 hb324 => ?_)
        refine xg_t (xg_aload (va := (2, 0)) rfl rfl) ?_
        refine xg_t (xg_getf (va := (2, 80)) (hb324.get (by decide) (hb304.get (by decide) (hF299.get (by decide) (hb295.get (by decide) (hF285.get (by decide) (hb276.get (by decide) (hF271.get (by decide) (hb267.get (by decide) (hb257.get (by decide) (hb254.get (by decide) (hF249.get (by decide) (hb130.get (by decide) (hb124.get (by decide) (hF118.get (by decide) (hb114.get (by decide) (hF105.get (by decide) (hF77.get (by decide) (hF68.get (by decide) (hF59.get (by decide) (hF35.get (by decide) (hF23.get (by decide) (hF12.get (by decide) h0_1)))))))))))))))))))))) rfl) ?_
        refine xg_t (xg_bip) ?_
        refine xg_t (xg_aload (va := (2, 0)) rfl rfl) ?_
        refine xg_t (xg_getf (va := (2, 1)) (hb324.get (by decide) (hb304.get (by decide) (hF299.get (by decide) (hb295.get (by decide) (hF285.get (by decide) (hb276.get (by decide) (hF271.get (by decide) (hb267.get (by decide) (hb257.get (by decide) (hb254.get (by decide) (hF249.get (by decide) (hb130.get (by decide) (hb124.get (by decide) (hF118.get (by decide) (hb114.get (by decide) (hF105.get (by decide) (hF77.get (by decide) (hF68.get (by decide) (hF59.get (by decide) (hF35.get (by decide) (hF23.get (by decide) (hF12.get (by decide) h0_1)))))))))))))))))))))) rfl) ?_
        refine xg_t (xg_getf (va := (0, f1_84)) (hb324.get (by decide) (hb304.get (by decide) (hF299.get (by decide) (hb295.get (by decide) (hF285.get (by decide) (hb276.get (by decide) (hF271.get (by decide) (hb267.get (by decide) (hb257.get (by decide) (hb254.get (by decide) (hF249.get (by decide) (hb130.get (by decide) (hb124.get (by decide) (hF118.get (by decide) (hb114.get (by decide) (hF105.get (by decide) h1_90)))))))))))))))) rfl) ?_
        refine xg_iastK (n := 10) (u := f1_84) hr323 xnm0 xnm0 rfl (by omega) (fun w325 hr326 hb327 => ?_)
        have ga328 := agQ.fr gq37 hF59 (by decide)
        have ga329 := agV.fr gq38 hF59 (by decide)
        have ga330 := agQ.fr ga328 hF68 (by decide)
        have ga331 := agV.fr ga329 hF68 (by decide)
        have ga332 := agQ.fr ga330 hF77 (by decide)
        have ga333 := agV.fr ga331 hF77 (by decide)
        have ga334 := agQ.fr ga332 hF105 (by decide)
        have ga335 := agV.fr ga333 hF105 (by decide)
        have ga336 := agQ.fr ga334 (xFr.of (S := [80]) hb114 (by decide)) (by decide)
        have ga337 := agV.fr ga335 (xFr.of (S := [80]) hb114 (by decide)) (by decide)
        have ga338 := agQ.fr ga336 hF118 (by decide)
        have ga339 := agV.fr ga337 hF118 (by decide)
        have ga340 := agQ.fr ga338 (xFr.of (S := [80]) hb124 (by decide)) (by decide)
        have ga341 := agV.fr ga339 (xFr.of (S := [80]) hb124 (by decide)) (by decide)
        have ga342 := agQ.fr ga340 (xFr.of (S := [80]) hb130 (by decide)) (by decide)
        have ga343 := agV.fr ga341 (xFr.of (S := [80]) hb130 (by decide)) (by decide)
        have ga344 := agQ.fr ga342 hF249 (by decide)
        have ga345 := agV.fr ga343 hF249 (by decide)
        have ga346 := agQ.fr ga344 (xFr.of (S := [80]) hb254 (by decide)) (by decide)
        have ga347 := agV.fr ga345 (xFr.of (S := [80]) hb254 (by decide)) (by decide)
        have ga348 := agQ.fr ga346 (xFr.of (S := [80]) hb257 (by decide)) (by decide)
        have ga349 := agV.fr ga347 (xFr.of (S := [80]) hb257 (by decide)) (by decide)
        have ga350 := agQ.fr ga348 (xFr.of (S := [80]) hb267 (by decide)) (by decide)
        have ga351 := agV.fr ga349 (xFr.of (S := [80]) hb267 (by decide)) (by decide)
        have ga352 := agQ.fr ga350 hF271 (by decide)
        have ga353 := agV.fr ga351 hF271 (by decide)
        have ga354 := agQ.fr ga352 (xFr.of (S := [80]) hb276 (by decide)) (by decide)
        have ga355 := agV.fr ga353 (xFr.of (S := [80]) hb276 (by decide)) (by decide)
        have ga356 := agQ.fr ga354 hF285 (by decide)
        have ga357 := agV.fr ga355 hF285 (by decide)
        have ga358 := agQ.fr ga356 (xFr.of (S := [80]) hb295 (by decide)) (by decide)
        have ga359 := agV.fr ga357 (xFr.of (S := [80]) hb295 (by decide)) (by decide)
        have ga360 := agQ.fr ga358 hF299 (by decide)
        have ga361 := agV.fr ga359 hF299 (by decide)
        have ga362 := agQ.fr ga360 (xFr.of (S := [80]) hb304 (by decide)) (by decide)
        have ga363 := agV.fr ga361 (xFr.of (S := [80]) hb304 (by decide)) (by decide)
        have ga364 := agQ.fr ga362 (xFr.of (S := [80]) hb324 (by decide)) (by decide)
        have ga365 := agV.fr ga363 (xFr.of (S := [80]) hb324 (by decide)) (by decide)
        have ga366 := agQ.fr ga364 (xFr.of (S := [80]) hb327 (by decide)) (by decide)
        have ga367 := agV.fr ga365 (xFr.of (S := [80]) hb327 (by decide)) (by decide)
        exact xg_e ⟨w325, ⟨rfl, rfl⟩, xInv.up (S := [80]) hI298 (((xFr.of (S := [80]) hb304 (by decide)).tr (xFr.of (S := [80]) hb324 (by decide))).tr (xFr.of (S := [80]) hb327 (by decide))) (List.forall_mem_cons.mpr ⟨(show cpI 11 48 4294967295 (wget w325 80) from ⟨_, hr326, xrb (by omega) (xrb (by omega) (xrb (by omega) (xrb (by omega) (xrb (by omega) (xrb (by omega) (xrb (by omega) (xrb (by omega) (xrb (by omega) (xrb (by omega) (xrb (by omega) (hb111)))))))))))⟩), fun _ h => absurd h List.not_mem_nil⟩), ((((((((((((((((((hF12.up (by decide)).tr (hF23.up (by decide))).tr (hF35.up (by decide))).tr (hF59.up (by decide))).tr (hF68.up (by decide))).tr (hF77.up (by decide))).tr (hF105.up (by decide))).tr (xFr.of (S := [50, 51, 52, 53, 54, 55, 58, 59, 60, 61, 62, 63, 64, 65, 66, 67, 68, 69, 70, 71, 72, 73, 76, 77, 80]) hb114 (by decide))).tr (hF118.up (by decide))).tr ((xFr.of (S := [50, 51, 52, 53, 54, 55, 58, 59, 60, 61, 62, 63, 64, 65, 66, 67, 68, 69, 70, 71, 72, 73, 76, 77, 80]) hb124 (by decide)).tr (xFr.of (S := [50, 51, 52, 53, 54, 55, 58, 59, 60, 61, 62, 63, 64, 65, 66, 67, 68, 69, 70, 71, 72, 73, 76, 77, 80]) hb130 (by decide)))).tr (hF249.up (by decide))).tr (((xFr.of (S := [50, 51, 52, 53, 54, 55, 58, 59, 60, 61, 62, 63, 64, 65, 66, 67, 68, 69, 70, 71, 72, 73, 76, 77, 80]) hb254 (by decide)).tr (xFr.of (S := [50, 51, 52, 53, 54, 55, 58, 59, 60, 61, 62, 63, 64, 65, 66, 67, 68, 69, 70, 71, 72, 73, 76, 77, 80]) hb257 (by decide))).tr (xFr.of (S := [50, 51, 52, 53, 54, 55, 58, 59, 60, 61, 62, 63, 64, 65, 66, 67, 68, 69, 70, 71, 72, 73, 76, 77, 80]) hb267 (by decide)))).tr (hF271.up (by decide))).tr (xFr.of (S := [50, 51, 52, 53, 54, 55, 58, 59, 60, 61, 62, 63, 64, 65, 66, 67, 68, 69, 70, 71, 72, 73, 76, 77, 80]) hb276 (by decide))).tr (hF285.up (by decide))).tr (xFr.of (S := [50, 51, 52, 53, 54, 55, 58, 59, 60, 61, 62, 63, 64, 65, 66, 67, 68, 69, 70, 71, 72, 73, 76, 77, 80]) hb295 (by decide))).tr (hF299.up (by decide))).tr (((xFr.of (S := [50, 51, 52, 53, 54, 55, 58, 59, 60, 61, 62, 63, 64, 65, 66, 67, 68, 69, 70, 71, 72, 73, 76, 77, 80]) hb304 (by decide)).tr (xFr.of (S := [50, 51, 52, 53, 54, 55, 58, 59, 60, 61, 62, 63, 64, 65, 66, 67, 68, 69, 70, 71, 72, 73, 76, 77, 80]) hb324 (by decide))).tr (xFr.of (S := [50, 51, 52, 53, 54, 55, 58, 59, 60, 61, 62, 63, 64, 65, 66, 67, 68, 69, 70, 71, 72, 73, 76, 77, 80]) hb327 (by decide)))), ga367⟩
    · refine xg_t (xg_ifT (u := n119) rfl xnm0 (xj_neT hc121)) ?_
      refine xg_t (xg_blk (b := [(87, 1, 3, 0, 0, 0)]) rfl) ?_
      refine xg_t (xg_const) ?_
      refine xg_t (xg_blk (b := [(88, 1, 17, 0, 0, 0), (89, 1, 0, 0, 0, 0), (90, 3, 1, 11, 9, 83), (93, 1, 3, 2, 0, 0), (94, 1, 0, 1, 0, 0), (95, 3, 1, 1, 0, 112), (98, 3, 1, 5, 3, 151), (101, 1, 17, 0, 0, 0), (102, 1, 0, 0, 0, 0), (103, 3, 1, 11, 9, 83), (106, 1, 3, 3, 0, 0), (107, 1, 0, 1, 0, 0), (108, 3, 1, 1, 0, 112), (111, 3, 1, 5, 3, 151), (114, 3, 7, 121, 1, 0), (117, 1, 3, 0, 0, 0), (118, 3, 8, 128, 0, 0)]) rfl) ?_
      refine xg_iastK (n := 1) (u := 0) (hr113.fr hF118 (by decide)) xnm0 xnm0 rfl (by omega) (fun w368 hr369 hb370 => ?_)
      refine xg_t (xg_aload (va := (2, 0)) rfl rfl) ?_
      refine xg_t (xg_getf (va := (2, 80)) (hb370.get (by decide) (hF118.get (by decide) (hb114.get (by decide) (hF105.get (by decide) (hF77.get (by decide) (hF68.get (by decide) (hF59.get (by decide) (hF35.get (by decide) (hF23.get (by decide) (hF12.get (by decide) h0_1)))))))))) rfl) ?_
      refine xg_t (xg_const) ?_
      refine xg_t (xg_aload (va := (2, 3)) rfl rfl) ?_
      refine xg_t (xg_getf (va := (2, 4)) (hb370.get (by decide) (hF118.get (by decide) (hb114.get (by decide) (hF105.get (by decide) h3_101)))) rfl) ?_
      obtain ⟨f4_371, h4_373, hb372⟩ := (hI117 4 (by decide) : cp4 (wget w115 4))
      refine xg_t (xg_getf (va := (0, f4_371)) (hb370.get (by decide) h4_373) rfl) ?_
      refine xg_iastK (n := 2) (u := f4_371) hr369 xnm0 xnm0 rfl (by omega) (fun w374 hr375 hb376 => ?_)
      refine xg_t (xg_aload (va := (2, 0)) rfl rfl) ?_
      refine xg_t (xg_getf (va := (2, 80)) (hb376.get (by decide) (hb370.get (by decide) (hF118.get (by decide) (hb114.get (by decide) (hF105.get (by decide) (hF77.get (by decide) (hF68.get (by decide) (hF59.get (by decide) (hF35.get (by decide) (hF23.get (by decide) (hF12.get (by decide) h0_1))))))))))) rfl) ?_
      refine xg_t (xg_const) ?_
      refine xg_t (xg_aload (va := (2, 3)) rfl rfl) ?_
      refine xg_t (xg_getf (va := (2, 4)) (hb376.get (by decide) (hb370.get (by decide) (hF118.get (by decide) (hb114.get (by decide) (hF105.get (by decide) h3_101))))) rfl) ?_
      refine xg_t (xg_getf (va := (0, f4_371)) (hb376.get (by decide) (hb370.get (by decide) h4_373)) rfl) ?_
      by_cases hc377 : f4_371 = 0
      · refine xg_t (xg_ifF (u := f4_371) rfl xnm0 (xj_neF hc377)) ?_
        refine xg_t (xg_const) ?_
        refine xg_t (xg_goto) ?_
        refine xg_t (xg_blk (b := [(128, 1, 17, 0, 0, 0), (129, 1, 0, 0, 0, 0), (130, 3, 1, 11, 9, 83), (133, 1, 3, 4, 0, 0), (134, 1, 0, 1, 0, 0), (135, 3, 1, 1, 7, 225), (138, 1, 17, 0, 0, 0), (139, 1, 0, 0, 0, 0), (140, 3, 1, 11, 9, 83), (143, 1, 3, 5, 0, 0), (144, 1, 0, 0, 0, 0), (145, 3, 1, 11, 5, 52), (148, 3, 1, 10, 11, 222), (151, 1, 17, 0, 0, 0), (152, 1, 0, 0, 0, 0), (153, 3, 1, 11, 9, 83), (156, 2, 4, 6, 0, 0), (158, 1, 0, 0, 0, 0), (159, 3, 13, 45, 88, 291), (162, 1, 17, 0, 0, 0), (163, 1, 0, 0, 0, 0), (164, 3, 1, 11, 9, 83), (167, 2, 4, 7, 0, 0), (169, 3, 5, 9999, 0, 0), (172, 1, 0, 0, 0, 0), (173, 3, 1, 11, 7, 66), (176, 1, 3, 0, 0, 0), (177, 1, 3, 0, 0, 0), (178, 1, 0, 1, 0, 0), (179, 3, 1, 1, 5, 297), (182, 1, 0, 1, 0, 0), (183, 3, 1, 1, 6, 300), (186, 3, 13, 310, 56, 306), (189, 3, 63, 0, 0, 403), (192, 1, 17, 0, 0, 0), (193, 1, 0, 0, 0, 0), (194, 3, 1, 11, 9, 83), (197, 2, 4, 8, 0, 0), (199, 1, 0, 0, 0, 0), (200, 3, 1, 11, 0, 10), (203, 3, 13, 323, 72, 216), (206, 1, 17, 0, 0, 0), (207, 1, 0, 0, 0, 0), (208, 3, 1, 11, 9, 83), (211, 2, 4, 9, 0, 0), (213, 1, 0, 0, 0, 0), (214, 3, 1, 11, 8, 79), (217, 3, 1, 4, 4, 328), (220, 1, 17, 0, 0, 0), (221, 1, 0, 0, 0, 0), (222, 3, 1, 11, 9, 83), (225, 2, 4, 10, 0, 0), (227, 1, 0, 0, 0, 0), (228, 3, 1, 11, 0, 10), (231, 3, 1, 9, 6, 186), (234, 1, 17, 0, 0, 0), (235, 1, 12, 0, 0, 0)]) rfl) ?_
        refine xg_iastK (n := 3) (u := 0) hr375 xnm0 xnm0 rfl (by omega) (fun w378 hr379 hb380 => ?_)
        refine xg_t (xg_aload (va := (2, 0)) rfl rfl) ?_
        refine xg_t (xg_getf (va := (2, 80)) (hb380.get (by decide) (hb376.get (by decide) (hb370.get (by decide) (hF118.get (by decide) (hb114.get (by decide) (hF105.get (by decide) (hF77.get (by decide) (hF68.get (by decide) (hF59.get (by decide) (hF35.get (by decide) (hF23.get (by decide) (hF12.get (by decide) h0_1)))))))))))) rfl) ?_
        refine xg_t (xg_const) ?_
        refine xg_t (xg_aload (va := (2, 3)) rfl rfl) ?_
        refine xg_t (xg_getf (va := (0, f3_95)) (hb380.get (by decide) (hb376.get (by decide) (hb370.get (by decide) (hF118.get (by decide) (hb114.get (by decide) (hF105.get (by decide) h3_101)))))) rfl) ?_
        refine xg_iastK (n := 4) (u := f3_95) hr379 xnm0 xnm0 rfl (by omega) (fun w381 hr382 hb383 => ?_)
        refine xg_t (xg_aload (va := (2, 0)) rfl rfl) ?_
        refine xg_t (xg_getf (va := (2, 80)) (hb383.get (by decide) (hb380.get (by decide) (hb376.get (by decide) (hb370.get (by decide) (hF118.get (by decide) (hb114.get (by decide) (hF105.get (by decide) (hF77.get (by decide) (hF68.get (by decide) (hF59.get (by decide) (hF35.get (by decide) (hF23.get (by decide) (hF12.get (by decide) h0_1))))))))))))) rfl) ?_
        refine xg_t (xg_const) ?_
        refine xg_t (xg_aload (va := (2, 0)) rfl rfl) ?_
        refine xg_t (xg_getf (va := (2, 58)) (hb383.get (by decide) (hb380.get (by decide) (hb376.get (by decide) (hb370.get (by decide) (hF118.get (by decide) (hb114.get (by decide) (hF105.get (by decide) (hF77.get (by decide) (hF68.get (by decide) (hF59.get (by decide) (hF35.get (by decide) (hF23.get (by decide) (hF12.get (by decide) h0_1))))))))))))) rfl) ?_
        refine xoC58 (hI117 58 (by decide) : cp58 (wget w115 58)) (fun f58_384 f58_386 f58_388 h58_390 hb385 hb387 hb389 => ?_)
        refine xg_t (xg_getf (va := (0, f58_386)) (hb383.get (by decide) (hb380.get (by decide) (hb376.get (by decide) (hb370.get (by decide) h58_390)))) rfl) ?_
        refine xg_iastK (n := 5) (u := f58_386) hr382 xnm0 xnm0 rfl (by omega) (fun w391 hr392 hb393 => ?_)
        refine xg_t (xg_aload (va := (2, 0)) rfl rfl) ?_
        refine xg_t (xg_getf (va := (2, 80)) (hb393.get (by decide) (hb383.get (by decide) (hb380.get (by decide) (hb376.get (by decide) (hb370.get (by decide) (hF118.get (by decide) (hb114.get (by decide) (hF105.get (by decide) (hF77.get (by decide) (hF68.get (by decide) (hF59.get (by decide) (hF35.get (by decide) (hF23.get (by decide) (hF12.get (by decide) h0_1)))))))))))))) rfl) ?_
        refine xg_t (xg_bip) ?_
        refine xg_t (xg_aload (va := (2, 0)) rfl rfl) ?_
        refine xg_cVi mX11_countDark (vs := []) (rest := [(0, 6), (2, 80)]) (cn1 := 0) (sl1 := 0) rfl (scCountDark (xInv.up (S := [80]) hI117 (((((xFr.of (S := [80]) hb370 (by decide)).tr (xFr.of (S := [80]) hb376 (by decide))).tr (xFr.of (S := [80]) hb380 (by decide))).tr (xFr.of (S := [80]) hb383 (by decide))).tr (xFr.of (S := [80]) hb393 (by decide))) (List.forall_mem_cons.mpr ⟨(show cpI 11 48 4294967295 (wget w391 80) from ⟨_, hr392, xrb (by omega) (xrb (by omega) (xrb (by omega) (xrb (by omega) (xrb (by omega) (xrb (by omega) (hb111))))))⟩), fun _ h => absurd h List.not_mem_nil⟩))) rfl (hb393.get (by decide) (hb383.get (by decide) (hb380.get (by decide) (hb376.get (by decide) (hb370.get (by decide) (hF118.get (by decide) (hb114.get (by decide) (hF105.get (by decide) (hF77.get (by decide) (hF68.get (by decide) (hF59.get (by decide) (hF35.get (by decide) (hF23.get (by decide) (hF12.get (by decide) h0_1)))))))))))))) rfl rfl rfl rfl rfl rfl (fun n398 w394 hq395 => ?_)
        obtain ⟨hn399, hI396, hF397⟩ := hq395
        refine xg_iastK (n := 6) (u := n398) (hr392.fr hF397 (by decide)) xnm0 xnm0 rfl (by omega) (fun w400 hr401 hb402 => ?_)
        refine xg_t (xg_aload (va := (2, 0)) rfl rfl) ?_
        refine xg_t (xg_getf (va := (2, 80)) (hb402.get (by decide) (hF397.get (by decide) (hb393.get (by decide) (hb383.get (by decide) (hb380.get (by decide) (hb376.get (by decide) (hb370.get (by decide) (hF118.get (by decide) (hb114.get (by decide) (hF105.get (by decide) (hF77.get (by decide) (hF68.get (by decide) (hF59.get (by decide) (hF35.get (by decide) (hF23.get (by decide) (hF12.get (by decide) h0_1)))))))))))))))) rfl) ?_
        refine xg_t (xg_bip) ?_
        refine xg_t (xg_sip) ?_
        refine xg_t (xg_aload (va := (2, 0)) rfl rfl) ?_
        refine xg_t (xg_getf (va := (2, 72)) (hb402.get (by decide) (hF397.get (by decide) (hb393.get (by decide) (hb383.get (by decide) (hb380.get (by decide) (hb376.get (by decide) (hb370.get (by decide) (hF118.get (by decide) (hb114.get (by decide) (hF105.get (by decide) (hF77.get (by decide) (hF68.get (by decide) (hF59.get (by decide) (hF35.get (by decide) (hF23.get (by decide) (hF12.get (by decide) h0_1)))))))))))))))) rfl) ?_
        refine xg_t (xg_const) ?_
        refine xg_t (xg_const) ?_
        refine xg_t (xg_aload (va := (2, 3)) rfl rfl) ?_
        refine xg_t (xg_getf (va := (0, f3_91)) (hb402.get (by decide) (hF397.get (by decide) (hb393.get (by decide) (hb383.get (by decide) (hb380.get (by decide) (hb376.get (by decide) (hb370.get (by decide) (hF118.get (by decide) (hb114.get (by decide) (hF105.get (by decide) h3_101)))))))))) rfl) ?_
        refine xg_t (xg_aload (va := (2, 3)) rfl rfl) ?_
        refine xg_t (xg_getf (va := (0, f3_93)) (hb402.get (by decide) (hF397.get (by decide) (hb393.get (by decide) (hb383.get (by decide) (hb380.get (by decide) (hb376.get (by decide) (hb370.get (by decide) (hF118.get (by decide) (hb114.get (by decide) (hF105.get (by decide) h3_101)))))))))) rfl) ?_
        refine xoC72 (hI396 72 (by decide) : cp72 (wget w394 72)) (fun f72_403 f72_405 h72_407 hb404 hb406 => ?_)
        refine xg_cVi mX7_worthOf (vs := [(0, 0), (0, 0), (0, f3_91), (0, f3_93)]) (rest := [(0, 9999), (0, 7), (2, 80)]) (cn1 := 0) (sl1 := 0) rfl (shWorthOf (xInv.up (S := [80]) hI396 (xFr.of (S := [80]) hb402 (by decide)) (List.forall_mem_cons.mpr ⟨(show cpI 11 48 4294967295 (wget w400 80) from ⟨_, hr401, xrb (by omega) (xrb (by omega) (xrb (by omega) (xrb (by omega) (xrb (by omega) (xrb (by omega) (xrb (by omega) (hb111)))))))⟩), fun _ h => absurd h List.not_mem_nil⟩)) (by omega) (by omega) (by omega) (by omega)) rfl (hb402.get (by decide) h72_407) rfl rfl rfl rfl rfl rfl (fun n412 w408 hq409 => ?_)
        obtain ⟨hn413, hI410, hF411⟩ := hq409
        refine xg_minK (u := 9999) (v := n412) xnm0 xnm0 xmx_ok (by omega) (by omega) (fun z414 hz415 hz416 hz417 hz418 => ?_)
        unfold xbs at hz416 hz417
        refine xg_iastK (n := 7) (u := z414) (hr401.fr hF411 (by decide)) xnm0 xnm0 rfl (by omega) (fun w419 hr420 hb421 => ?_)
        refine xg_t (xg_aload (va := (2, 0)) rfl rfl) ?_
        refine xg_t (xg_getf (va := (2, 80)) (hb421.get (by decide) (hF411.get (by decide) (hb402.get (by decide) (hF397.get (by decide) (hb393.get (by decide) (hb383.get (by decide) (hb380.get (by decide) (hb376.get (by decide) (hb370.get (by decide) (hF118.get (by decide) (hb114.get (by decide) (hF105.get (by decide) (hF77.get (by decide) (hF68.get (by decide) (hF59.get (by decide) (hF35.get (by decide) (hF23.get (by decide) (hF12.get (by decide) h0_1)))))))))))))))))) rfl) ?_
        refine xg_t (xg_bip) ?_
        refine xg_t (xg_aload (va := (2, 0)) rfl rfl) ?_
        refine xg_t (xg_getf (va := (2, 1)) (hb421.get (by decide) (hF411.get (by decide) (hb402.get (by decide) (hF397.get (by decide) (hb393.get (by decide) (hb383.get (by decide) (hb380.get (by decide) (hb376.get (by decide) (hb370.get (by decide) (hF118.get (by decide) (hb114.get (by decide) (hF105.get (by decide) (hF77.get (by decide) (hF68.get (by decide) (hF59.get (by decide) (hF35.get (by decide) (hF23.get (by decide) (hF12.get (by decide) h0_1)))))))))))))))))) rfl) ?_
        refine xg_cVi mX9_cracksInView (vs := []) (rest := [(0, 8), (2, 80)]) (cn1 := 0) (sl1 := 0) rfl (tdCracksInView (xInv.up (S := [80]) hI410 (xFr.of (S := [80]) hb421 (by decide)) (List.forall_mem_cons.mpr ⟨(show cpI 11 48 4294967295 (wget w419 80) from ⟨_, hr420, xrb (by omega) (xrb (by omega) (xrb (by omega) (xrb (by omega) (xrb (by omega) (xrb (by omega) (xrb (by omega) (xrb (by omega) (hb111))))))))⟩), fun _ h => absurd h List.not_mem_nil⟩))) rfl (hb421.get (by decide) (hF411.get (by decide) (hb402.get (by decide) (hF397.get (by decide) (hb393.get (by decide) (hb383.get (by decide) (hb380.get (by decide) (hb376.get (by decide) (hb370.get (by decide) (hF118.get (by decide) (hb114.get (by decide) (hF105.get (by decide) h1_90)))))))))))) rfl rfl rfl rfl rfl rfl (fun n426 w422 hq423 => ?_)
        obtain ⟨hn427, hI424, hF425⟩ := hq423
        refine xg_iastK (n := 8) (u := n426) (hr420.fr hF425 (by decide)) xnm0 xnm0 rfl (by omega) (fun w428 hr429 hb430 => ?_)
        refine xg_t (xg_aload (va := (2, 0)) rfl rfl) ?_
        refine xg_t (xg_getf (va := (2, 80)) (hb430.get (by decide) (hF425.get (by decide) (hb421.get (by decide) (hF411.get (by decide) (hb402.get (by decide) (hF397.get (by decide) (hb393.get (by decide) (hb383.get (by decide) (hb380.get (by decide) (hb376.get (by decide) (hb370.get (by decide) (hF118.get (by decide) (hb114.get (by decide) (hF105.get (by decide) (hF77.get (by decide) (hF68.get (by decide) (hF59.get (by decide) (hF35.get (by decide) (hF23.get (by decide) (hF12.get (by decide) h0_1)))))))))))))))))))) rfl) ?_
        refine xg_t (xg_bip) ?_
        refine xg_t (xg_aload (va := (2, 0)) rfl rfl) ?_
        refine xg_t (xg_getf (va := (2, 76)) (hb430.get (by decide) (hF425.get (by decide) (hb421.get (by decide) (hF411.get (by decide) (hb402.get (by decide) (hF397.get (by decide) (hb393.get (by decide) (hb383.get (by decide) (hb380.get (by decide) (hb376.get (by decide) (hb370.get (by decide) (hF118.get (by decide) (hb114.get (by decide) (hF105.get (by decide) (hF77.get (by decide) (hF68.get (by decide) (hF59.get (by decide) (hF35.get (by decide) (hF23.get (by decide) (hF12.get (by decide) h0_1)))))))))))))))))))) rfl) ?_
        refine xoC76 (hI424 76 (by decide) : cp76 (wget w422 76)) (fun f76_431 f76_433 f76_435 f76_437 f76_439 f76_441 f76_443 f76_445 h76_447 hb432 hb434 hb436 hb438 hb440 hb442 hb444 hb446 => ?_)
        refine xg_t (xg_getf (va := (0, f76_431)) (hb430.get (by decide) h76_447) rfl) ?_
        refine xg_iastK (n := 9) (u := f76_431) hr429 xnm0 xnm0 rfl (by omega) (fun w448 hr449 hb450 => ?_)
        refine xg_t (xg_aload (va := (2, 0)) rfl rfl) ?_
        refine xg_t (xg_getf (va := (2, 80)) (hb450.get (by decide) (hb430.get (by decide) (hF425.get (by decide) (hb421.get (by decide) (hF411.get (by decide) (hb402.get (by decide) (hF397.get (by decide) (hb393.get (by decide) (hb383.get (by decide) (hb380.get (by decide) (hb376.get (by decide) (hb370.get (by decide) (hF118.get (by decide) (hb114.get (by decide) (hF105.get (by decide) (hF77.get (by decide) (hF68.get (by decide) (hF59.get (by decide) (hF35.get (by decide) (hF23.get (by decide) (hF12.get (by decide) h0_1))))))))))))))))))))) rfl) ?_
        refine xg_t (xg_bip) ?_
        refine xg_t (xg_aload (va := (2, 0)) rfl rfl) ?_
        refine xg_t (xg_getf (va := (2, 1)) (hb450.get (by decide) (hb430.get (by decide) (hF425.get (by decide) (hb421.get (by decide) (hF411.get (by decide) (hb402.get (by decide) (hF397.get (by decide) (hb393.get (by decide) (hb383.get (by decide) (hb380.get (by decide) (hb376.get (by decide) (hb370.get (by decide) (hF118.get (by decide) (hb114.get (by decide) (hF105.get (by decide) (hF77.get (by decide) (hF68.get (by decide) (hF59.get (by decide) (hF35.get (by decide) (hF23.get (by decide) (hF12.get (by decide) h0_1))))))))))))))))))))) rfl) ?_
        refine xg_t (xg_getf (va := (0, f1_84)) (hb450.get (by decide) (hb430.get (by decide) (hF425.get (by decide) (hb421.get (by decide) (hF411.get (by decide) (hb402.get (by decide) (hF397.get (by decide) (hb393.get (by decide) (hb383.get (by decide) (hb380.get (by decide) (hb376.get (by decide) (hb370.get (by decide) (hF118.get (by decide) (hb114.get (by decide) (hF105.get (by decide) h1_90))))))))))))))) rfl) ?_
        refine xg_iastK (n := 10) (u := f1_84) hr449 xnm0 xnm0 rfl (by omega) (fun w451 hr452 hb453 => ?_)
        have ga454 := agQ.fr gq37 hF59 (by decide)
        have ga455 := agV.fr gq38 hF59 (by decide)
        have ga456 := agQ.fr ga454 hF68 (by decide)
        have ga457 := agV.fr ga455 hF68 (by decide)
        have ga458 := agQ.fr ga456 hF77 (by decide)
        have ga459 := agV.fr ga457 hF77 (by decide)
        have ga460 := agQ.fr ga458 hF105 (by decide)
        have ga461 := agV.fr ga459 hF105 (by decide)
        have ga462 := agQ.fr ga460 (xFr.of (S := [80]) hb114 (by decide)) (by decide)
        have ga463 := agV.fr ga461 (xFr.of (S := [80]) hb114 (by decide)) (by decide)
        have ga464 := agQ.fr ga462 hF118 (by decide)
        have ga465 := agV.fr ga463 hF118 (by decide)
        have ga466 := agQ.fr ga464 (xFr.of (S := [80]) hb370 (by decide)) (by decide)
        have ga467 := agV.fr ga465 (xFr.of (S := [80]) hb370 (by decide)) (by decide)
        have ga468 := agQ.fr ga466 (xFr.of (S := [80]) hb376 (by decide)) (by decide)
        have ga469 := agV.fr ga467 (xFr.of (S := [80]) hb376 (by decide)) (by decide)
        have ga470 := agQ.fr ga468 (xFr.of (S := [80]) hb380 (by decide)) (by decide)
        have ga471 := agV.fr ga469 (xFr.of (S := [80]) hb380 (by decide)) (by decide)
        have ga472 := agQ.fr ga470 (xFr.of (S := [80]) hb383 (by decide)) (by decide)
        have ga473 := agV.fr ga471 (xFr.of (S := [80]) hb383 (by decide)) (by decide)
        have ga474 := agQ.fr ga472 (xFr.of (S := [80]) hb393 (by decide)) (by decide)
        have ga475 := agV.fr ga473 (xFr.of (S := [80]) hb393 (by decide)) (by decide)
        have ga476 := agQ.fr ga474 hF397 (by decide)
        have ga477 := agV.fr ga475 hF397 (by decide)
        have ga478 := agQ.fr ga476 (xFr.of (S := [80]) hb402 (by decide)) (by decide)
        have ga479 := agV.fr ga477 (xFr.of (S := [80]) hb402 (by decide)) (by decide)
        have ga480 := agQ.fr ga478 hF411 (by decide)
        have ga481 := agV.fr ga479 hF411 (by decide)
        have ga482 := agQ.fr ga480 (xFr.of (S := [80]) hb421 (by decide)) (by decide)
        have ga483 := agV.fr ga481 (xFr.of (S := [80]) hb421 (by decide)) (by decide)
        have ga484 := agQ.fr ga482 hF425 (by decide)
        have ga485 := agV.fr ga483 hF425 (by decide)
        have ga486 := agQ.fr ga484 (xFr.of (S := [80]) hb430 (by decide)) (by decide)
        have ga487 := agV.fr ga485 (xFr.of (S := [80]) hb430 (by decide)) (by decide)
        have ga488 := agQ.fr ga486 (xFr.of (S := [80]) hb450 (by decide)) (by decide)
        have ga489 := agV.fr ga487 (xFr.of (S := [80]) hb450 (by decide)) (by decide)
        have ga490 := agQ.fr ga488 (xFr.of (S := [80]) hb453 (by decide)) (by decide)
        have ga491 := agV.fr ga489 (xFr.of (S := [80]) hb453 (by decide)) (by decide)
        exact xg_e ⟨w451, ⟨rfl, rfl⟩, xInv.up (S := [80]) hI424 (((xFr.of (S := [80]) hb430 (by decide)).tr (xFr.of (S := [80]) hb450 (by decide))).tr (xFr.of (S := [80]) hb453 (by decide))) (List.forall_mem_cons.mpr ⟨(show cpI 11 48 4294967295 (wget w451 80) from ⟨_, hr452, xrb (by omega) (xrb (by omega) (xrb (by omega) (xrb (by omega) (xrb (by omega) (xrb (by omega) (xrb (by omega) (xrb (by omega) (xrb (by omega) (xrb (by omega) (xrb (by omega) (hb111)))))))))))⟩), fun _ h => absurd h List.not_mem_nil⟩), ((((((((((((((((hF12.up (by decide)).tr (hF23.up (by decide))).tr (hF35.up (by decide))).tr (hF59.up (by decide))).tr (hF68.up (by decide))).tr (hF77.up (by decide))).tr (hF105.up (by decide))).tr (xFr.of (S := [50, 51, 52, 53, 54, 55, 58, 59, 60, 61, 62, 63, 64, 65, 66, 67, 68, 69, 70, 71, 72, 73, 76, 77, 80]) hb114 (by decide))).tr (hF118.up (by decide))).tr (((((xFr.of (S := [50, 51, 52, 53, 54, 55, 58, 59, 60, 61, 62, 63, 64, 65, 66, 67, 68, 69, 70, 71, 72, 73, 76, 77, 80]) hb370 (by decide)).tr (xFr.of (S := [50, 51, 52, 53, 54, 55, 58, 59, 60, 61, 62, 63, 64, 65, 66, 67, 68, 69, 70, 71, 72, 73, 76, 77, 80]) hb376 (by decide))).tr (xFr.of (S := [50, 51, 52, 53, 54, 55, 58, 59, 60, 61, 62, 63, 64, 65, 66, 67, 68, 69, 70, 71, 72, 73, 76, 77, 80]) hb380 (by decide))).tr (xFr.of (S := [50, 51, 52, 53, 54, 55, 58, 59, 60, 61, 62, 63, 64, 65, 66, 67, 68, 69, 70, 71, 72, 73, 76, 77, 80]) hb383 (by decide))).tr (xFr.of (S := [50, 51, 52, 53, 54, 55, 58, 59, 60, 61, 62, 63, 64, 65, 66, 67, 68, 69, 70, 71, 72, 73, 76, 77, 80]) hb393 (by decide)))).tr (hF397.up (by decide))).tr (xFr.of (S := [50, 51, 52, 53, 54, 55, 58, 59, 60, 61, 62, 63, 64, 65, 66, 67, 68, 69, 70, 71, 72, 73, 76, 77, 80]) hb402 (by decide))).tr (hF411.up (by decide))).tr (xFr.of (S := [50, 51, 52, 53, 54, 55, 58, 59, 60, 61, 62, 63, 64, 65, 66, 67, 68, 69, 70, 71, 72, 73, 76, 77, 80]) hb421 (by decide))).tr (hF425.up (by decide))).tr (((xFr.of (S := [50, 51, 52, 53, 54, 55, 58, 59, 60, 61, 62, 63, 64, 65, 66, 67, 68, 69, 70, 71, 72, 73, 76, 77, 80]) hb430 (by decide)).tr (xFr.of (S := [50, 51, 52, 53, 54, 55, 58, 59, 60, 61, 62, 63, 64, 65, 66, 67, 68, 69, 70, 71, 72, 73, 76, 77, 80]) hb450 (by decide))).tr (xFr.of (S := [50, 51, 52, 53, 54, 55, 58, 59, 60, 61, 62, 63, 64, 65, 66, 67, 68, 69, 70, 71, 72, 73, 76, 77, 80]) hb453 (by decide)))), ga491⟩
      · refine xg_t (xg_ifT (u := f4_371) rfl xnm0 (xj_neT hc377)) ?_
        refine xg_t (xg_blk (b := [(121, 1, 0, 0, 0, 0), (122, 3, 1, 11, 4, 45), (125, 3, 13, 13, 0, 154)]) rfl) ?_
        refine xg_t (xg_aload (va := (2, 0)) rfl rfl) ?_
        refine xg_t (xg_getf (va := (2, 49)) (hb376.get (by decide) (hb370.get (by decide) (hF118.get (by decide) (hb114.get (by decide) (hF105.get (by decide) (hF77.get (by decide) (hF68.get (by decide) (hF59.get (by decide) (hF35.get (by decide) (hF23.get (by decide) (hF12.get (by decide) h0_1))))))))))) rfl) ?_
        refine xg_cVi mX0_leastRound (vs := []) (rest := [(0, 3), (2, 80)]) (cn1 := 0) (sl1 := 0) rfl (bdLeast (xInv.up (S := [80]) hI117 ((xFr.of (S := [80]) hb370 (by decide)).tr (xFr.of (S := [80]) hb376 (by decide))) (List.forall_mem_cons.mpr ⟨(show cpI 11 48 4294967295 (wget w374 80) from ⟨_, hr375, xrb (by omega) (xrb (by omega) (xrb (by omega) (hb111)))⟩), fun _ h => absurd h List.not_mem_nil⟩))) rfl (hb376.get (by decide) (hb370.get (by decide) (hF118.get (by decide) (hb114.get (by decide) (hF105.get (by decide) (hF77.get (by decide) h49_73)))))) rfl rfl rfl rfl rfl rfl (fun n496 w492 hq493 => ?_)
        obtain ⟨hn497, hI494, hF495⟩ := hq493
        refine xg_t (xg_blk (b := [(128, 1, 17, 0, 0, 0), (129, 1, 0, 0, 0, 0), (130, 3, 1, 11, 9, 83), (133, 1, 3, 4, 0, 0), (134, 1, 0, 1, 0, 0), (135, 3, 1, 1, 7, 225), (138, 1, 17, 0, 0, 0), (139, 1, 0, 0, 0, 0), (140, 3, 1, 11, 9, 83), (143, 1, 3, 5, 0, 0), (144, 1, 0, 0, 0, 0), (145, 3, 1, 11, 5, 52), (148, 3, 1, 10, 11, 222), (151, 1, 17, 0, 0, 0), (152, 1, 0, 0, 0, 0), (153, 3, 1, 11, 9, 83), (156, 2, 4, 6, 0, 0), (158, 1, 0, 0, 0, 0), (159, 3, 13, 45, 88, 291), (162, 1, 17, 0, 0, 0), (163, 1, 0, 0, 0, 0), (164, 3, 1, 11, 9, 83), (167, 2, 4, 7, 0, 0), (169, 3, 5, 9999, 0, 0), (172, 1, 0, 0, 0, 0), (173, 3, 1, 11, 7, 66), (176, 1, 3, 0, 0, 0), (177, 1, 3, 0, 0, 0), (178, 1, 0, 1, 0, 0), (179, 3, 1, 1, 5, 297), (182, 1, 0, 1, 0, 0), (183, 3, 1, 1, 6, 300), (186, 3, 13, 310, 56, 306), (189, 3, 63, 0, 0, 403), (192, 1, 17, 0, 0, 0), (193, 1, 0, 0, 0, 0), (194, 3, 1, 11, 9, 83), (197, 2, 4, 8, 0, 0), (199, 1, 0, 0, 0, 0), (200, 3, 1, 11, 0, 10), (203, 3, 13, 323, 72, 216), (206, 1, 17, 0, 0, 0), (207, 1, 0, 0, 0, 0), (208, 3, 1, 11, 9, 83), (211, 2, 4, 9, 0, 0), (213, 1, 0, 0, 0, 0), (214, 3, 1, 11, 8, 79), (217, 3, 1, 4, 4, 328), (220, 1, 17, 0, 0, 0), (221, 1, 0, 0, 0, 0), (222, 3, 1, 11, 9, 83), (225, 2, 4, 10, 0, 0), (227, 1, 0, 0, 0, 0), (228, 3, 1, 11, 0, 10), (231, 3, 1, 9, 6, 186), (234, 1, 17, 0, 0, 0), (235, 1, 12, 0, 0, 0)]) rfl) ?_
        refine xg_iastK (n := 3) (u := n496) (hr375.fr hF495 (by decide)) xnm0 xnm0 rfl (by omega) (fun w498 hr499 hb500 => ?_)
        refine xg_t (xg_aload (va := (2, 0)) rfl rfl) ?_
        refine xg_t (xg_getf (va := (2, 80)) (hb500.get (by decide) (hF495.get (by decide) (hb376.get (by decide) (hb370.get (by decide) (hF118.get (by decide) (hb114.get (by decide) (hF105.get (by decide) (hF77.get (by decide) (hF68.get (by decide) (hF59.get (by decide) (hF35.get (by decide) (hF23.get (by decide) (hF12.get (by decide) h0_1))))))))))))) rfl) ?_
        refine xg_t (xg_const) ?_
        refine xg_t (xg_aload (va := (2, 3)) rfl rfl) ?_
        refine xg_t (xg_getf (va := (0, f3_95)) (hb500.get (by decide) (hF495.get (by decide) (hb376.get (by decide) (hb370.get (by decide) (hF118.get (by decide) (hb114.get (by decide) (hF105.get (by decide) h3_101))))))) rfl) ?_
        refine xg_iastK (n := 4) (u := f3_95) hr499 xnm0 xnm0 rfl (by omega) (fun w501 hr502 hb503 => ?_)
        refine xg_t (xg_aload (va := (2, 0)) rfl rfl) ?_
        refine xg_t (xg_getf (va := (2, 80)) (hb503.get (by decide) (hb500.get (by decide) (hF495.get (by decide) (hb376.get (by decide) (hb370.get (by decide) (hF118.get (by decide) (hb114.get (by decide) (hF105.get (by decide) (hF77.get (by decide) (hF68.get (by decide) (hF59.get (by decide) (hF35.get (by decide) (hF23.get (by decide) (hF12.get (by decide) h0_1)))))))))))))) rfl) ?_
        refine xg_t (xg_const) ?_
        refine xg_t (xg_aload (va := (2, 0)) rfl rfl) ?_
        refine xg_t (xg_getf (va := (2, 58)) (hb503.get (by decide) (hb500.get (by decide) (hF495.get (by decide) (hb376.get (by decide) (hb370.get (by decide) (hF118.get (by decide) (hb114.get (by decide) (hF105.get (by decide) (hF77.get (by decide) (hF68.get (by decide) (hF59.get (by decide) (hF35.get (by decide) (hF23.get (by decide) (hF12.get (by decide) h0_1)))))))))))))) rfl) ?_
        refine xoC58 (hI494 58 (by decide) : cp58 (wget w492 58)) (fun f58_504 f58_506 f58_508 h58_510 hb505 hb507 hb509 => ?_)
        refine xg_t (xg_getf (va := (0, f58_506)) (hb503.get (by decide) (hb500.get (by decide) h58_510)) rfl) ?_
        refine xg_iastK (n := 5) (u := f58_506) hr502 xnm0 xnm0 rfl (by omega) (fun w511 hr512 hb513 => ?_)
        refine xg_t (xg_aload (va := (2, 0)) rfl rfl) ?_
        refine xg_t (xg_getf (va := (2, 80)) (hb513.get (by decide) (hb503.get (by decide) (hb500.get (by decide) (hF495.get (by decide) (hb376.get (by decide) (hb370.get (by decide) (hF118.get (by decide) (hb114.get (by decide) (hF105.get (by decide) (hF77.get (by decide) (hF68.get (by decide) (hF59.get (by decide) (hF35.get (by decide) (hF23.get (by decide) (hF12.get (by decide) h0_1))))))))))))))) rfl) ?_
        refine xg_t (xg_bip) ?_
        refine xg_t (xg_aload (va := (2, 0)) rfl rfl) ?_
        refine xg_cVi mX11_countDark (vs := []) (rest := [(0, 6), (2, 80)]) (cn1 := 0) (sl1 := 0) rfl (scCountDark (xInv.up (S := [80]) hI494 (((xFr.of (S := [80]) hb500 (by decide)).tr (xFr.of (S := [80]) hb503 (by decide))).tr (xFr.of (S := [80]) hb513 (by decide))) (List.forall_mem_cons.mpr ⟨(show cpI 11 48 4294967295 (wget w511 80) from ⟨_, hr512, xrb (by omega) (xrb (by omega) (xrb (by omega) (xrb (by omega) (xrb (by omega) (xrb (by omega) (hb111))))))⟩), fun _ h => absurd h List.not_mem_nil⟩))) rfl (hb513.get (by decide) (hb503.get (by decide) (hb500.get (by decide) (hF495.get (by decide) (hb376.get (by decide) (hb370.get (by decide) (hF118.get (by decide) (hb114.get (by decide) (hF105.get (by decide) (hF77.get (by decide) (hF68.get (by decide) (hF59.get (by decide) (hF35.get (by decide) (hF23.get (by decide) (hF12.get (by decide) h0_1))))))))))))))) rfl rfl rfl rfl rfl rfl (fun n518 w514 hq515 => ?_)
        obtain ⟨hn519, hI516, hF517⟩ := hq515
        refine xg_iastK (n := 6) (u := n518) (hr512.fr hF517 (by decide)) xnm0 xnm0 rfl (by omega) (fun w520 hr521 hb522 => ?_)
        refine xg_t (xg_aload (va := (2, 0)) rfl rfl) ?_
        refine xg_t (xg_getf (va := (2, 80)) (hb522.get (by decide) (hF517.get (by decide) (hb513.get (by decide) (hb503.get (by decide) (hb500.get (by decide) (hF495.get (by decide) (hb376.get (by decide) (hb370.get (by decide) (hF118.get (by decide) (hb114.get (by decide) (hF105.get (by decide) (hF77.get (by decide) (hF68.get (by decide) (hF59.get (by decide) (hF35.get (by decide) (hF23.get (by decide) (hF12.get (by decide) h0_1))))))))))))))))) rfl) ?_
        refine xg_t (xg_bip) ?_
        refine xg_t (xg_sip) ?_
        refine xg_t (xg_aload (va := (2, 0)) rfl rfl) ?_
        refine xg_t (xg_getf (va := (2, 72)) (hb522.get (by decide) (hF517.get (by decide) (hb513.get (by decide) (hb503.get (by decide) (hb500.get (by decide) (hF495.get (by decide) (hb376.get (by decide) (hb370.get (by decide) (hF118.get (by decide) (hb114.get (by decide) (hF105.get (by decide) (hF77.get (by decide) (hF68.get (by decide) (hF59.get (by decide) (hF35.get (by decide) (hF23.get (by decide) (hF12.get (by decide) h0_1))))))))))))))))) rfl) ?_
        refine xg_t (xg_const) ?_
        refine xg_t (xg_const) ?_
        refine xg_t (xg_aload (va := (2, 3)) rfl rfl) ?_
        refine xg_t (xg_getf (va := (0, f3_91)) (hb522.get (by decide) (hF517.get (by decide) (hb513.get (by decide) (hb503.get (by decide) (hb500.get (by decide) (hF495.get (by decide) (hb376.get (by decide) (hb370.get (by decide) (hF118.get (by decide) (hb114.get (by decide) (hF105.get (by decide) h3_101))))))))))) rfl) ?_
        refine xg_t (xg_aload (va := (2, 3)) rfl rfl) ?_
        refine xg_t (xg_getf (va := (0, f3_93)) (hb522.get (by decide) (hF517.get (by decide) (hb513.get (by decide) (hb503.get (by decide) (hb500.get (by decide) (hF495.get (by decide) (hb376.get (by decide) (hb370.get (by decide) (hF118.get (by decide) (hb114.get (by decide) (hF105.get (by decide) h3_101))))))))))) rfl) ?_
        refine xoC72 (hI516 72 (by decide) : cp72 (wget w514 72)) (fun f72_523 f72_525 h72_527 hb524 hb526 => ?_)
        refine xg_cVi mX7_worthOf (vs := [(0, 0), (0, 0), (0, f3_91), (0, f3_93)]) (rest := [(0, 9999), (0, 7), (2, 80)]) (cn1 := 0) (sl1 := 0) rfl (shWorthOf (xInv.up (S := [80]) hI516 (xFr.of (S := [80]) hb522 (by decide)) (List.forall_mem_cons.mpr ⟨(show cpI 11 48 4294967295 (wget w520 80) from ⟨_, hr521, xrb (by omega) (xrb (by omega) (xrb (by omega) (xrb (by omega) (xrb (by omega) (xrb (by omega) (xrb (by omega) (hb111)))))))⟩), fun _ h => absurd h List.not_mem_nil⟩)) (by omega) (by omega) (by omega) (by omega)) rfl (hb522.get (by decide) h72_527) rfl rfl rfl rfl rfl rfl (fun n532 w528 hq529 => ?_)
        obtain ⟨hn533, hI530, hF531⟩ := hq529
        refine xg_minK (u := 9999) (v := n532) xnm0 xnm0 xmx_ok (by omega) (by omega) (fun z534 hz535 hz536 hz537 hz538 => ?_)
        unfold xbs at hz536 hz537
        refine xg_iastK (n := 7) (u := z534) (hr521.fr hF531 (by decide)) xnm0 xnm0 rfl (by omega) (fun w539 hr540 hb541 => ?_)
        refine xg_t (xg_aload (va := (2, 0)) rfl rfl) ?_
        refine xg_t (xg_getf (va := (2, 80)) (hb541.get (by decide) (hF531.get (by decide) (hb522.get (by decide) (hF517.get (by decide) (hb513.get (by decide) (hb503.get (by decide) (hb500.get (by decide) (hF495.get (by decide) (hb376.get (by decide) (hb370.get (by decide) (hF118.get (by decide) (hb114.get (by decide) (hF105.get (by decide) (hF77.get (by decide) (hF68.get (by decide) (hF59.get (by decide) (hF35.get (by decide) (hF23.get (by decide) (hF12.get (by decide) h0_1))))))))))))))))))) rfl) ?_
        refine xg_t (xg_bip) ?_
        refine xg_t (xg_aload (va := (2, 0)) rfl rfl) ?_
        refine xg_t (xg_getf (va := (2, 1)) (hb541.get (by decide) (hF531.get (by decide) (hb522.get (by decide) (hF517.get (by decide) (hb513.get (by decide) (hb503.get (by decide) (hb500.get (by decide) (hF495.get (by decide) (hb376.get (by decide) (hb370.get (by decide) (hF118.get (by decide) (hb114.get (by decide) (hF105.get (by decide) (hF77.get (by decide) (hF68.get (by decide) (hF59.get (by decide) (hF35.get (by decide) (hF23.get (by decide) (hF12.get (by decide) h0_1))))))))))))))))))) rfl) ?_
        refine xg_cVi mX9_cracksInView (vs := []) (rest := [(0, 8), (2, 80)]) (cn1 := 0) (sl1 := 0) rfl (tdCracksInView (xInv.up (S := [80]) hI530 (xFr.of (S := [80]) hb541 (by decide)) (List.forall_mem_cons.mpr ⟨(show cpI 11 48 4294967295 (wget w539 80) from ⟨_, hr540, xrb (by omega) (xrb (by omega) (xrb (by omega) (xrb (by omega) (xrb (by omega) (xrb (by omega) (xrb (by omega) (xrb (by omega) (hb111))))))))⟩), fun _ h => absurd h List.not_mem_nil⟩))) rfl (hb541.get (by decide) (hF531.get (by decide) (hb522.get (by decide) (hF517.get (by decide) (hb513.get (by decide) (hb503.get (by decide) (hb500.get (by decide) (hF495.get (by decide) (hb376.get (by decide) (hb370.get (by decide) (hF118.get (by decide) (hb114.get (by decide) (hF105.get (by decide) h1_90))))))))))))) rfl rfl rfl rfl rfl rfl (fun n546 w542 hq543 => ?_)
        obtain ⟨hn547, hI544, hF545⟩ := hq543
        refine xg_iastK (n := 8) (u := n546) (hr540.fr hF545 (by decide)) xnm0 xnm0 rfl (by omega) (fun w548 hr549 hb550 => ?_)
        refine xg_t (xg_aload (va := (2, 0)) rfl rfl) ?_
        refine xg_t (xg_getf (va := (2, 80)) (hb550.get (by decide) (hF545.get (by decide) (hb541.get (by decide) (hF531.get (by decide) (hb522.get (by decide) (hF517.get (by decide) (hb513.get (by decide) (hb503.get (by decide) (hb500.get (by decide) (hF495.get (by decide) (hb376.get (by decide) (hb370.get (by decide) (hF118.get (by decide) (hb114.get (by decide) (hF105.get (by decide) (hF77.get (by decide) (hF68.get (by decide) (hF59.get (by decide) (hF35.get (by decide) (hF23.get (by decide) (hF12.get (by decide) h0_1))))))))))))))))))))) rfl) ?_
        refine xg_t (xg_bip) ?_
        refine xg_t (xg_aload (va := (2, 0)) rfl rfl) ?_
        refine xg_t (xg_getf (va := (2, 76)) (hb550.get (by decide) (hF545.get (by decide) (hb541.get (by decide) (hF531.get (by decide) (hb522.get (by decide) (hF517.get (by decide) (hb513.get (by decide) (hb503.get (by decide) (hb500.get (by decide) (hF495.get (by decide) (hb376.get (by decide) (hb370.get (by decide) (hF118.get (by decide) (hb114.get (by decide) (hF105.get (by decide) (hF77.get (by decide) (hF68.get (by decide) (hF59.get (by decide) (hF35.get (by decide) (hF23.get (by decide) (hF12.get (by decide) h0_1))))))))))))))))))))) rfl) ?_
        refine xoC76 (hI544 76 (by decide) : cp76 (wget w542 76)) (fun f76_551 f76_553 f76_555 f76_557 f76_559 f76_561 f76_563 f76_565 h76_567 hb552 hb554 hb556 hb558 hb560 hb562 hb564 hb566 => ?_)
        refine xg_t (xg_getf (va := (0, f76_551)) (hb550.get (by decide) h76_567) rfl) ?_
        refine xg_iastK (n := 9) (u := f76_551) hr549 xnm0 xnm0 rfl (by omega) (fun w568 hr569 hb570 => ?_)
        refine xg_t (xg_aload (va := (2, 0)) rfl rfl) ?_
        refine xg_t (xg_getf (va := (2, 80)) (hb570.get (by decide) (hb550.get (by decide) (hF545.get (by decide) (hb541.get (by decide) (hF531.get (by decide) (hb522.get (by decide) (hF517.get (by decide) (hb513.get (by decide) (hb503.get (by decide) (hb500.get (by decide) (hF495.get (by decide) (hb376.get (by decide) (hb370.get (by decide) (hF118.get (by decide) (hb114.get (by decide) (hF105.get (by decide) (hF77.get (by decide) (hF68.get (by decide) (hF59.get (by decide) (hF35.get (by decide) (hF23.get (by decide) (hF12.get (by decide) h0_1)))))))))))))))))))))) rfl) ?_
        refine xg_t (xg_bip) ?_
        refine xg_t (xg_aload (va := (2, 0)) rfl rfl) ?_
        refine xg_t (xg_getf (va := (2, 1)) (hb570.get (by decide) (hb550.get (by decide) (hF545.get (by decide) (hb541.get (by decide) (hF531.get (by decide) (hb522.get (by decide) (hF517.get (by decide) (hb513.get (by decide) (hb503.get (by decide) (hb500.get (by decide) (hF495.get (by decide) (hb376.get (by decide) (hb370.get (by decide) (hF118.get (by decide) (hb114.get (by decide) (hF105.get (by decide) (hF77.get (by decide) (hF68.get (by decide) (hF59.get (by decide) (hF35.get (by decide) (hF23.get (by decide) (hF12.get (by decide) h0_1)))))))))))))))))))))) rfl) ?_
        refine xg_t (xg_getf (va := (0, f1_84)) (hb570.get (by decide) (hb550.get (by decide) (hF545.get (by decide) (hb541.get (by decide) (hF531.get (by decide) (hb522.get (by decide) (hF517.get (by decide) (hb513.get (by decide) (hb503.get (by decide) (hb500.get (by decide) (hF495.get (by decide) (hb376.get (by decide) (hb370.get (by decide) (hF118.get (by decide) (hb114.get (by decide) (hF105.get (by decide) h1_90)))))))))))))))) rfl) ?_
        refine xg_iastK (n := 10) (u := f1_84) hr569 xnm0 xnm0 rfl (by omega) (fun w571 hr572 hb573 => ?_)
        have ga574 := agQ.fr gq37 hF59 (by decide)
        have ga575 := agV.fr gq38 hF59 (by decide)
        have ga576 := agQ.fr ga574 hF68 (by decide)
        have ga577 := agV.fr ga575 hF68 (by decide)
        have ga578 := agQ.fr ga576 hF77 (by decide)
        have ga579 := agV.fr ga577 hF77 (by decide)
        have ga580 := agQ.fr ga578 hF105 (by decide)
        have ga581 := agV.fr ga579 hF105 (by decide)
        have ga582 := agQ.fr ga580 (xFr.of (S := [80]) hb114 (by decide)) (by decide)
        have ga583 := agV.fr ga581 (xFr.of (S := [80]) hb114 (by decide)) (by decide)
        have ga584 := agQ.fr ga582 hF118 (by decide)
        have ga585 := agV.fr ga583 hF118 (by decide)
        have ga586 := agQ.fr ga584 (xFr.of (S := [80]) hb370 (by decide)) (by decide)
        have ga587 := agV.fr ga585 (xFr.of (S := [80]) hb370 (by decide)) (by decide)
        have ga588 := agQ.fr ga586 (xFr.of (S := [80]) hb376 (by decide)) (by decide)
        have ga589 := agV.fr ga587 (xFr.of (S := [80]) hb376 (by decide)) (by decide)
        have ga590 := agQ.fr ga588 hF495 (by decide)
        have ga591 := agV.fr ga589 hF495 (by decide)
        have ga592 := agQ.fr ga590 (xFr.of (S := [80]) hb500 (by decide)) (by decide)
        have ga593 := agV.fr ga591 (xFr.of (S := [80]) hb500 (by decide)) (by decide)
        have ga594 := agQ.fr ga592 (xFr.of (S := [80]) hb503 (by decide)) (by decide)
        have ga595 := agV.fr ga593 (xFr.of (S := [80]) hb503 (by decide)) (by decide)
        have ga596 := agQ.fr ga594 (xFr.of (S := [80]) hb513 (by decide)) (by decide)
        have ga597 := agV.fr ga595 (xFr.of (S := [80]) hb513 (by decide)) (by decide)
        have ga598 := agQ.fr ga596 hF517 (by decide)
        have ga599 := agV.fr ga597 hF517 (by decide)
        have ga600 := agQ.fr ga598 (xFr.of (S := [80]) hb522 (by decide)) (by decide)
        have ga601 := agV.fr ga599 (xFr.of (S := [80]) hb522 (by decide)) (by decide)
        have ga602 := agQ.fr ga600 hF531 (by decide)
        have ga603 := agV.fr ga601 hF531 (by decide)
        have ga604 := agQ.fr ga602 (xFr.of (S := [80]) hb541 (by decide)) (by decide)
        have ga605 := agV.fr ga603 (xFr.of (S := [80]) hb541 (by decide)) (by decide)
        have ga606 := agQ.fr ga604 hF545 (by decide)
        have ga607 := agV.fr ga605 hF545 (by decide)
        have ga608 := agQ.fr ga606 (xFr.of (S := [80]) hb550 (by decide)) (by decide)
        have ga609 := agV.fr ga607 (xFr.of (S := [80]) hb550 (by decide)) (by decide)
        have ga610 := agQ.fr ga608 (xFr.of (S := [80]) hb570 (by decide)) (by decide)
        have ga611 := agV.fr ga609 (xFr.of (S := [80]) hb570 (by decide)) (by decide)
        have ga612 := agQ.fr ga610 (xFr.of (S := [80]) hb573 (by decide)) (by decide)
        have ga613 := agV.fr ga611 (xFr.of (S := [80]) hb573 (by decide)) (by decide)
        exact xg_e ⟨w571, ⟨rfl, rfl⟩, xInv.up (S := [80]) hI544 (((xFr.of (S := [80]) hb550 (by decide)).tr (xFr.of (S := [80]) hb570 (by decide))).tr (xFr.of (S := [80]) hb573 (by decide))) (List.forall_mem_cons.mpr ⟨(show cpI 11 48 4294967295 (wget w571 80) from ⟨_, hr572, xrb (by omega) (xrb (by omega) (xrb (by omega) (xrb (by omega) (xrb (by omega) (xrb (by omega) (xrb (by omega) (xrb (by omega) (xrb (by omega) (xrb (by omega) (xrb (by omega) (hb111)))))))))))⟩), fun _ h => absurd h List.not_mem_nil⟩), ((((((((((((((((((hF12.up (by decide)).tr (hF23.up (by decide))).tr (hF35.up (by decide))).tr (hF59.up (by decide))).tr (hF68.up (by decide))).tr (hF77.up (by decide))).tr (hF105.up (by decide))).tr (xFr.of (S := [50, 51, 52, 53, 54, 55, 58, 59, 60, 61, 62, 63, 64, 65, 66, 67, 68, 69, 70, 71, 72, 73, 76, 77, 80]) hb114 (by decide))).tr (hF118.up (by decide))).tr ((xFr.of (S := [50, 51, 52, 53, 54, 55, 58, 59, 60, 61, 62, 63, 64, 65, 66, 67, 68, 69, 70, 71, 72, 73, 76, 77, 80]) hb370 (by decide)).tr (xFr.of (S := [50, 51, 52, 53, 54, 55, 58, 59, 60, 61, 62, 63, 64, 65, 66, 67, 68, 69, 70, 71, 72, 73, 76, 77, 80]) hb376 (by decide)))).tr (hF495.up (by decide))).tr (((xFr.of (S := [50, 51, 52, 53, 54, 55, 58, 59, 60, 61, 62, 63, 64, 65, 66, 67, 68, 69, 70, 71, 72, 73, 76, 77, 80]) hb500 (by decide)).tr (xFr.of (S := [50, 51, 52, 53, 54, 55, 58, 59, 60, 61, 62, 63, 64, 65, 66, 67, 68, 69, 70, 71, 72, 73, 76, 77, 80]) hb503 (by decide))).tr (xFr.of (S := [50, 51, 52, 53, 54, 55, 58, 59, 60, 61, 62, 63, 64, 65, 66, 67, 68, 69, 70, 71, 72, 73, 76, 77, 80]) hb513 (by decide)))).tr (hF517.up (by decide))).tr (xFr.of (S := [50, 51, 52, 53, 54, 55, 58, 59, 60, 61, 62, 63, 64, 65, 66, 67, 68, 69, 70, 71, 72, 73, 76, 77, 80]) hb522 (by decide))).tr (hF531.up (by decide))).tr (xFr.of (S := [50, 51, 52, 53, 54, 55, 58, 59, 60, 61, 62, 63, 64, 65, 66, 67, 68, 69, 70, 71, 72, 73, 76, 77, 80]) hb541 (by decide))).tr (hF545.up (by decide))).tr (((xFr.of (S := [50, 51, 52, 53, 54, 55, 58, 59, 60, 61, 62, 63, 64, 65, 66, 67, 68, 69, 70, 71, 72, 73, 76, 77, 80]) hb550 (by decide)).tr (xFr.of (S := [50, 51, 52, 53, 54, 55, 58, 59, 60, 61, 62, 63, 64, 65, 66, 67, 68, 69, 70, 71, 72, 73, 76, 77, 80]) hb570 (by decide))).tr (xFr.of (S := [50, 51, 52, 53, 54, 55, 58, 59, 60, 61, 62, 63, 64, 65, 66, 67, 68, 69, 70, 71, 72, 73, 76, 77, 80]) hb573 (by decide)))), ga613⟩
  · refine xg_t (xg_ifF (u := n106) rfl xnm0 (xj_eqF hc108)) ?_
    refine xg_t (xg_const) ?_
    refine xg_t (xg_goto) ?_
    refine xg_t (xg_blk (b := [(67, 1, 17, 0, 0, 0), (68, 1, 0, 0, 0, 0), (69, 3, 1, 11, 9, 83), (72, 1, 3, 1, 0, 0), (73, 1, 0, 0, 0, 0), (74, 3, 1, 11, 0, 10), (77, 3, 13, 323, 72, 216), (80, 3, 7, 87, 1, 0), (83, 1, 3, 1, 0, 0), (84, 3, 8, 88, 0, 0)]) rfl) ?_
    refine xoI (hI104 80 (by decide) : cpI 11 48 4294967295 (wget w102 80)) (fun g80_614 h80_615 hb616 => ?_)
    refine xg_iastK (n := 0) (u := 1) h80_615 xnm0 xnm0 rfl (by omega) (fun w617 hr618 hb619 => ?_)
    refine xg_t (xg_aload (va := (2, 0)) rfl rfl) ?_
    refine xg_t (xg_getf (va := (2, 80)) (hb619.get (by decide) (hF105.get (by decide) (hF77.get (by decide) (hF68.get (by decide) (hF59.get (by decide) (hF35.get (by decide) (hF23.get (by decide) (hF12.get (by decide) h0_1)))))))) rfl) ?_
    refine xg_t (xg_const) ?_
    refine xg_t (xg_aload (va := (2, 0)) rfl rfl) ?_
    refine xg_t (xg_getf (va := (2, 1)) (hb619.get (by decide) (hF105.get (by decide) (hF77.get (by decide) (hF68.get (by decide) (hF59.get (by decide) (hF35.get (by decide) (hF23.get (by decide) (hF12.get (by decide) h0_1)))))))) rfl) ?_
    refine xg_cVi mX9_cracksInView (vs := []) (rest := [(0, 1), (2, 80)]) (cn1 := 0) (sl1 := 0) rfl (tdCracksInView (xInv.up (S := [80]) hI104 (xFr.of (S := [80]) hb619 (by decide)) (List.forall_mem_cons.mpr ⟨(show cpI 11 48 4294967295 (wget w617 80) from ⟨_, hr618, xrb (by omega) (hb616)⟩), fun _ h => absurd h List.not_mem_nil⟩))) rfl (hb619.get (by decide) (hF105.get (by decide) h1_90)) rfl rfl rfl rfl rfl rfl (fun n624 w620 hq621 => ?_)
    obtain ⟨hn625, hI622, hF623⟩ := hq621
    by_cases hc626 : n624 = 0
    · refine xg_t (xg_ifF (u := n624) rfl xnm0 (xj_neF hc626)) ?_
      refine xg_t (xg_const) ?_
      refine xg_t (xg_goto) ?_
      refine xg_t (xg_blk (b := [(88, 1, 17, 0, 0, 0), (89, 1, 0, 0, 0, 0), (90, 3, 1, 11, 9, 83), (93, 1, 3, 2, 0, 0), (94, 1, 0, 1, 0, 0), (95, 3, 1, 1, 0, 112), (98, 3, 1, 5, 3, 151), (101, 1, 17, 0, 0, 0), (102, 1, 0, 0, 0, 0), (103, 3, 1, 11, 9, 83), (106, 1, 3, 3, 0, 0), (107, 1, 0, 1, 0, 0), (108, 3, 1, 1, 0, 112), (111, 3, 1, 5, 3, 151), (114, 3, 7, 121, 1, 0), (117, 1, 3, 0, 0, 0), (118, 3, 8, 128, 0, 0)]) rfl) ?_
      refine xg_iastK (n := 1) (u := 1) (hr618.fr hF623 (by decide)) xnm0 xnm0 rfl (by omega) (fun w627 hr628 hb629 => ?_)
      refine xg_t (xg_aload (va := (2, 0)) rfl rfl) ?_
      refine xg_t (xg_getf (va := (2, 80)) (hb629.get (by decide) (hF623.get (by decide) (hb619.get (by decide) (hF105.get (by decide) (hF77.get (by decide) (hF68.get (by decide) (hF59.get (by decide) (hF35.get (by decide) (hF23.get (by decide) (hF12.get (by decide) h0_1)))))))))) rfl) ?_
      refine xg_t (xg_const) ?_
      refine xg_t (xg_aload (va := (2, 3)) rfl rfl) ?_
      refine xg_t (xg_getf (va := (2, 4)) (hb629.get (by decide) (hF623.get (by decide) (hb619.get (by decide) (hF105.get (by decide) h3_101)))) rfl) ?_
      obtain ⟨f4_630, h4_632, hb631⟩ := (hI622 4 (by decide) : cp4 (wget w620 4))
      refine xg_t (xg_getf (va := (0, f4_630)) (hb629.get (by decide) h4_632) rfl) ?_
      refine xg_iastK (n := 2) (u := f4_630) hr628 xnm0 xnm0 rfl (by omega) (fun w633 hr634 hb635 => ?_)
      refine xg_t (xg_aload (va := (2, 0)) rfl rfl) ?_
      refine xg_t (xg_getf (va := (2, 80)) (hb635.get (by decide) (hb629.get (by decide) (hF623.get (by decide) (hb619.get (by decide) (hF105.get (by decide) (hF77.get (by decide) (hF68.get (by decide) (hF59.get (by decide) (hF35.get (by decide) (hF23.get (by decide) (hF12.get (by decide) h0_1))))))))))) rfl) ?_
      refine xg_t (xg_const) ?_
      refine xg_t (xg_aload (va := (2, 3)) rfl rfl) ?_
      refine xg_t (xg_getf (va := (2, 4)) (hb635.get (by decide) (hb629.get (by decide) (hF623.get (by decide) (hb619.get (by decide) (hF105.get (by decide) h3_101))))) rfl) ?_
      refine xg_t (xg_getf (va := (0, f4_630)) (hb635.get (by decide) (hb629.get (by decide) h4_632)) rfl) ?_
      by_cases hc636 : f4_630 = 0
      · refine xg_t (xg_ifF (u := f4_630) rfl xnm0 (xj_neF hc636)) ?_
        refine xg_t (xg_const) ?_
        refine xg_t (xg_goto) ?_
        refine xg_t (xg_blk (b := [(128, 1, 17, 0, 0, 0), (129, 1, 0, 0, 0, 0), (130, 3, 1, 11, 9, 83), (133, 1, 3, 4, 0, 0), (134, 1, 0, 1, 0, 0), (135, 3, 1, 1, 7, 225), (138, 1, 17, 0, 0, 0), (139, 1, 0, 0, 0, 0), (140, 3, 1, 11, 9, 83), (143, 1, 3, 5, 0, 0), (144, 1, 0, 0, 0, 0), (145, 3, 1, 11, 5, 52), (148, 3, 1, 10, 11, 222), (151, 1, 17, 0, 0, 0), (152, 1, 0, 0, 0, 0), (153, 3, 1, 11, 9, 83), (156, 2, 4, 6, 0, 0), (158, 1, 0, 0, 0, 0), (159, 3, 13, 45, 88, 291), (162, 1, 17, 0, 0, 0), (163, 1, 0, 0, 0, 0), (164, 3, 1, 11, 9, 83), (167, 2, 4, 7, 0, 0), (169, 3, 5, 9999, 0, 0), (172, 1, 0, 0, 0, 0), (173, 3, 1, 11, 7, 66), (176, 1, 3, 0, 0, 0), (177, 1, 3, 0, 0, 0), (178, 1, 0, 1, 0, 0), (179, 3, 1, 1, 5, 297), (182, 1, 0, 1, 0, 0), (183, 3, 1, 1, 6, 300), (186, 3, 13, 310, 56, 306), (189, 3, 63, 0, 0, 403), (192, 1, 17, 0, 0, 0), (193, 1, 0, 0, 0, 0), (194, 3, 1, 11, 9, 83), (197, 2, 4, 8, 0, 0), (199, 1, 0, 0, 0, 0), (200, 3, 1, 11, 0, 10), (203, 3, 13, 323, 72, 216), (206, 1, 17, 0, 0, 0), (207, 1, 0, 0, 0, 0), (208, 3, 1, 11, 9, 83), (211, 2, 4, 9, 0, 0), (213, 1, 0, 0, 0, 0), (214, 3, 1, 11, 8, 79), (217, 3, 1, 4, 4, 328), (220, 1, 17, 0, 0, 0), (221, 1, 0, 0, 0, 0), (222, 3, 1, 11, 9, 83), (225, 2, 4, 10, 0, 0), (227, 1, 0, 0, 0, 0), (228, 3, 1, 11, 0, 10), (231, 3, 1, 9, 6, 186), (234, 1, 17, 0, 0, 0), (235, 1, 12, 0, 0, 0)]) rfl) ?_
        refine xg_iastK (n := 3) (u := 0) hr634 xnm0 xnm0 rfl (by omega) (fun w637 hr638 hb639 => ?_)
        refine xg_t (xg_aload (va := (2, 0)) rfl rfl) ?_
        refine xg_t (xg_getf (va := (2, 80)) (hb639.get (by decide) (hb635.get (by decide) (hb629.get (by decide) (hF623.get (by decide) (hb619.get (by decide) (hF105.get (by decide) (hF77.get (by decide) (hF68.get (by decide) (hF59.get (by decide) (hF35.get (by decide) (hF23.get (by decide) (hF12.get (by decide) h0_1)))))))))))) rfl) ?_
        refine xg_t (xg_const) ?_
        refine xg_t (xg_aload (va := (2, 3)) rfl rfl) ?_
        refine xg_t (xg_getf (va := (0, f3_95)) (hb639.get (by decide) (hb635.get (by decide) (hb629.get (by decide) (hF623.get (by decide) (hb619.get (by decide) (hF105.get (by decide) h3_101)))))) rfl) ?_
        refine xg_iastK (n := 4) (u := f3_95) hr638 xnm0 xnm0 rfl (by omega) (fun w640 hr641 hb642 => ?_)
        refine xg_t (xg_aload (va := (2, 0)) rfl rfl) ?_
        refine xg_t (xg_getf (va := (2, 80)) (hb642.get (by decide) (hb639.get (by decide) (hb635.get (by decide) (hb629.get (by decide) (hF623.get (by decide) (hb619.get (by decide) (hF105.get (by decide) (hF77.get (by decide) (hF68.get (by decide) (hF59.get (by decide) (hF35.get (by decide) (hF23.get (by decide) (hF12.get (by decide) h0_1))))))))))))) rfl) ?_
        refine xg_t (xg_const) ?_
        refine xg_t (xg_aload (va := (2, 0)) rfl rfl) ?_
        refine xg_t (xg_getf (va := (2, 58)) (hb642.get (by decide) (hb639.get (by decide) (hb635.get (by decide) (hb629.get (by decide) (hF623.get (by decide) (hb619.get (by decide) (hF105.get (by decide) (hF77.get (by decide) (hF68.get (by decide) (hF59.get (by decide) (hF35.get (by decide) (hF23.get (by decide) (hF12.get (by decide) h0_1))))))))))))) rfl) ?_
        refine xoC58 (hI622 58 (by decide) : cp58 (wget w620 58)) (fun f58_643 f58_645 f58_647 h58_649 hb644 hb646 hb648 => ?_)
        refine xg_t (xg_getf (va := (0, f58_645)) (hb642.get (by decide) (hb639.get (by decide) (hb635.get (by decide) (hb629.get (by decide) h58_649)))) rfl) ?_
        refine xg_iastK (n := 5) (u := f58_645) hr641 xnm0 xnm0 rfl (by omega) (fun w650 hr651 hb652 => ?_)
        refine xg_t (xg_aload (va := (2, 0)) rfl rfl) ?_
        refine xg_t (xg_getf (va := (2, 80)) (hb652.get (by decide) (hb642.get (by decide) (hb639.get (by decide) (hb635.get (by decide) (hb629.get (by decide) (hF623.get (by decide) (hb619.get (by decide) (hF105.get (by decide) (hF77.get (by decide) (hF68.get (by decide) (hF59.get (by decide) (hF35.get (by decide) (hF23.get (by decide) (hF12.get (by decide) h0_1)))))))))))))) rfl) ?_
        refine xg_t (xg_bip) ?_
        refine xg_t (xg_aload (va := (2, 0)) rfl rfl) ?_
        refine xg_cVi mX11_countDark (vs := []) (rest := [(0, 6), (2, 80)]) (cn1 := 0) (sl1 := 0) rfl (scCountDark (xInv.up (S := [80]) hI622 (((((xFr.of (S := [80]) hb629 (by decide)).tr (xFr.of (S := [80]) hb635 (by decide))).tr (xFr.of (S := [80]) hb639 (by decide))).tr (xFr.of (S := [80]) hb642 (by decide))).tr (xFr.of (S := [80]) hb652 (by decide))) (List.forall_mem_cons.mpr ⟨(show cpI 11 48 4294967295 (wget w650 80) from ⟨_, hr651, xrb (by omega) (xrb (by omega) (xrb (by omega) (xrb (by omega) (xrb (by omega) (xrb (by omega) (hb616))))))⟩), fun _ h => absurd h List.not_mem_nil⟩))) rfl (hb652.get (by decide) (hb642.get (by decide) (hb639.get (by decide) (hb635.get (by decide) (hb629.get (by decide) (hF623.get (by decide) (hb619.get (by decide) (hF105.get (by decide) (hF77.get (by decide) (hF68.get (by decide) (hF59.get (by decide) (hF35.get (by decide) (hF23.get (by decide) (hF12.get (by decide) h0_1)))))))))))))) rfl rfl rfl rfl rfl rfl (fun n657 w653 hq654 => ?_)
        obtain ⟨hn658, hI655, hF656⟩ := hq654
        refine xg_iastK (n := 6) (u := n657) (hr651.fr hF656 (by decide)) xnm0 xnm0 rfl (by omega) (fun w659 hr660 hb661 => ?_)
        refine xg_t (xg_aload (va := (2, 0)) rfl rfl) ?_
        refine xg_t (xg_getf (va := (2, 80)) (hb661.get (by decide) (hF656.get (by decide) (hb652.get (by decide) (hb642.get (by decide) (hb639.get (by decide) (hb635.get (by decide) (hb629.get (by decide) (hF623.get (by decide) (hb619.get (by decide) (hF105.get (by decide) (hF77.get (by decide) (hF68.get (by decide) (hF59.get (by decide) (hF35.get (by decide) (hF23.get (by decide) (hF12.get (by decide) h0_1)))))))))))))))) rfl) ?_
        refine xg_t (xg_bip) ?_
        refine xg_t (xg_sip) ?_
        refine xg_t (xg_aload (va := (2, 0)) rfl rfl) ?_
        refine xg_t (xg_getf (va := (2, 72)) (hb661.get (by decide) (hF656.get (by decide) (hb652.get (by decide) (hb642.get (by decide) (hb639.get (by decide) (hb635.get (by decide) (hb629.get (by decide) (hF623.get (by decide) (hb619.get (by decide) (hF105.get (by decide) (hF77.get (by decide) (hF68.get (by decide) (hF59.get (by decide) (hF35.get (by decide) (hF23.get (by decide) (hF12.get (by decide) h0_1)))))))))))))))) rfl) ?_
        refine xg_t (xg_const) ?_
        refine xg_t (xg_const) ?_
        refine xg_t (xg_aload (va := (2, 3)) rfl rfl) ?_
        refine xg_t (xg_getf (va := (0, f3_91)) (hb661.get (by decide) (hF656.get (by decide) (hb652.get (by decide) (hb642.get (by decide) (hb639.get (by decide) (hb635.get (by decide) (hb629.get (by decide) (hF623.get (by decide) (hb619.get (by decide) (hF105.get (by decide) h3_101)))))))))) rfl) ?_
        refine xg_t (xg_aload (va := (2, 3)) rfl rfl) ?_
        refine xg_t (xg_getf (va := (0, f3_93)) (hb661.get (by decide) (hF656.get (by decide) (hb652.get (by decide) (hb642.get (by decide) (hb639.get (by decide) (hb635.get (by decide) (hb629.get (by decide) (hF623.get (by decide) (hb619.get (by decide) (hF105.get (by decide) h3_101)))))))))) rfl) ?_
        refine xoC72 (hI655 72 (by decide) : cp72 (wget w653 72)) (fun f72_662 f72_664 h72_666 hb663 hb665 => ?_)
        refine xg_cVi mX7_worthOf (vs := [(0, 0), (0, 0), (0, f3_91), (0, f3_93)]) (rest := [(0, 9999), (0, 7), (2, 80)]) (cn1 := 0) (sl1 := 0) rfl (shWorthOf (xInv.up (S := [80]) hI655 (xFr.of (S := [80]) hb661 (by decide)) (List.forall_mem_cons.mpr ⟨(show cpI 11 48 4294967295 (wget w659 80) from ⟨_, hr660, xrb (by omega) (xrb (by omega) (xrb (by omega) (xrb (by omega) (xrb (by omega) (xrb (by omega) (xrb (by omega) (hb616)))))))⟩), fun _ h => absurd h List.not_mem_nil⟩)) (by omega) (by omega) (by omega) (by omega)) rfl (hb661.get (by decide) h72_666) rfl rfl rfl rfl rfl rfl (fun n671 w667 hq668 => ?_)
        obtain ⟨hn672, hI669, hF670⟩ := hq668
        refine xg_minK (u := 9999) (v := n671) xnm0 xnm0 xmx_ok (by omega) (by omega) (fun z673 hz674 hz675 hz676 hz677 => ?_)
        unfold xbs at hz675 hz676
        refine xg_iastK (n := 7) (u := z673) (hr660.fr hF670 (by decide)) xnm0 xnm0 rfl (by omega) (fun w678 hr679 hb680 => ?_)
        refine xg_t (xg_aload (va := (2, 0)) rfl rfl) ?_
        refine xg_t (xg_getf (va := (2, 80)) (hb680.get (by decide) (hF670.get (by decide) (hb661.get (by decide) (hF656.get (by decide) (hb652.get (by decide) (hb642.get (by decide) (hb639.get (by decide) (hb635.get (by decide) (hb629.get (by decide) (hF623.get (by decide) (hb619.get (by decide) (hF105.get (by decide) (hF77.get (by decide) (hF68.get (by decide) (hF59.get (by decide) (hF35.get (by decide) (hF23.get (by decide) (hF12.get (by decide) h0_1)))))))))))))))))) rfl) ?_
        refine xg_t (xg_bip) ?_
        refine xg_t (xg_aload (va := (2, 0)) rfl rfl) ?_
        refine xg_t (xg_getf (va := (2, 1)) (hb680.get (by decide) (hF670.get (by decide) (hb661.get (by decide) (hF656.get (by decide) (hb652.get (by decide) (hb642.get (by decide) (hb639.get (by decide) (hb635.get (by decide) (hb629.get (by decide) (hF623.get (by decide) (hb619.get (by decide) (hF105.get (by decide) (hF77.get (by decide) (hF68.get (by decide) (hF59.get (by decide) (hF35.get (by decide) (hF23.get (by decide) (hF12.get (by decide) h0_1)))))))))))))))))) rfl) ?_
        refine xg_cVi mX9_cracksInView (vs := []) (rest := [(0, 8), (2, 80)]) (cn1 := 0) (sl1 := 0) rfl (tdCracksInView (xInv.up (S := [80]) hI669 (xFr.of (S := [80]) hb680 (by decide)) (List.forall_mem_cons.mpr ⟨(show cpI 11 48 4294967295 (wget w678 80) from ⟨_, hr679, xrb (by omega) (xrb (by omega) (xrb (by omega) (xrb (by omega) (xrb (by omega) (xrb (by omega) (xrb (by omega) (xrb (by omega) (hb616))))))))⟩), fun _ h => absurd h List.not_mem_nil⟩))) rfl (hb680.get (by decide) (hF670.get (by decide) (hb661.get (by decide) (hF656.get (by decide) (hb652.get (by decide) (hb642.get (by decide) (hb639.get (by decide) (hb635.get (by decide) (hb629.get (by decide) (hF623.get (by decide) (hb619.get (by decide) (hF105.get (by decide) h1_90)))))))))))) rfl rfl rfl rfl rfl rfl (fun n685 w681 hq682 => ?_)
        obtain ⟨hn686, hI683, hF684⟩ := hq682
        refine xg_iastK (n := 8) (u := n685) (hr679.fr hF684 (by decide)) xnm0 xnm0 rfl (by omega) (fun w687 hr688 hb689 => ?_)
        refine xg_t (xg_aload (va := (2, 0)) rfl rfl) ?_
        refine xg_t (xg_getf (va := (2, 80)) (hb689.get (by decide) (hF684.get (by decide) (hb680.get (by decide) (hF670.get (by decide) (hb661.get (by decide) (hF656.get (by decide) (hb652.get (by decide) (hb642.get (by decide) (hb639.get (by decide) (hb635.get (by decide) (hb629.get (by decide) (hF623.get (by decide) (hb619.get (by decide) (hF105.get (by decide) (hF77.get (by decide) (hF68.get (by decide) (hF59.get (by decide) (hF35.get (by decide) (hF23.get (by decide) (hF12.get (by decide) h0_1)))))))))))))))))))) rfl) ?_
        refine xg_t (xg_bip) ?_
        refine xg_t (xg_aload (va := (2, 0)) rfl rfl) ?_
        refine xg_t (xg_getf (va := (2, 76)) (hb689.get (by decide) (hF684.get (by decide) (hb680.get (by decide) (hF670.get (by decide) (hb661.get (by decide) (hF656.get (by decide) (hb652.get (by decide) (hb642.get (by decide) (hb639.get (by decide) (hb635.get (by decide) (hb629.get (by decide) (hF623.get (by decide) (hb619.get (by decide) (hF105.get (by decide) (hF77.get (by decide) (hF68.get (by decide) (hF59.get (by decide) (hF35.get (by decide) (hF23.get (by decide) (hF12.get (by decide) h0_1)))))))))))))))))))) rfl) ?_
        refine xoC76 (hI683 76 (by decide) : cp76 (wget w681 76)) (fun f76_690 f76_692 f76_694 f76_696 f76_698 f76_700 f76_702 f76_704 h76_706 hb691 hb693 hb695 hb697 hb699 hb701 hb703 hb705 => ?_)
        refine xg_t (xg_getf (va := (0, f76_690)) (hb689.get (by decide) h76_706) rfl) ?_
        refine xg_iastK (n := 9) (u := f76_690) hr688 xnm0 xnm0 rfl (by omega) (fun w707 hr708 hb709 => ?_)
        refine xg_t (xg_aload (va := (2, 0)) rfl rfl) ?_
        refine xg_t (xg_getf (va := (2, 80)) (hb709.get (by decide) (hb689.get (by decide) (hF684.get (by decide) (hb680.get (by decide) (hF670.get (by decide) (hb661.get (by decide) (hF656.get (by decide) (hb652.get (by decide) (hb642.get (by decide) (hb639.get (by decide) (hb635.get (by decide) (hb629.get (by decide) (hF623.get (by decide) (hb619.get (by decide) (hF105.get (by decide) (hF77.get (by decide) (hF68.get (by decide) (hF59.get (by decide) (hF35.get (by decide) (hF23.get (by decide) (hF12.get (by decide) h0_1))))))))))))))))))))) rfl) ?_
        refine xg_t (xg_bip) ?_
        refine xg_t (xg_aload (va := (2, 0)) rfl rfl) ?_
        refine xg_t (xg_getf (va := (2, 1)) (hb709.get (by decide) (hb689.get (by decide) (hF684.get (by decide) (hb680.get (by decide) (hF670.get (by decide) (hb661.get (by decide) (hF656.get (by decide) (hb652.get (by decide) (hb642.get (by decide) (hb639.get (by decide) (hb635.get (by decide) (hb629.get (by decide) (hF623.get (by decide) (hb619.get (by decide) (hF105.get (by decide) (hF77.get (by decide) (hF68.get (by decide) (hF59.get (by decide) (hF35.get (by decide) (hF23.get (by decide) (hF12.get (by decide) h0_1))))))))))))))))))))) rfl) ?_
        refine xg_t (xg_getf (va := (0, f1_84)) (hb709.get (by decide) (hb689.get (by decide) (hF684.get (by decide) (hb680.get (by decide) (hF670.get (by decide) (hb661.get (by decide) (hF656.get (by decide) (hb652.get (by decide) (hb642.get (by decide) (hb639.get (by decide) (hb635.get (by decide) (hb629.get (by decide) (hF623.get (by decide) (hb619.get (by decide) (hF105.get (by decide) h1_90))))))))))))))) rfl) ?_
        refine xg_iastK (n := 10) (u := f1_84) hr708 xnm0 xnm0 rfl (by omega) (fun w710 hr711 hb712 => ?_)
        have ga713 := agQ.fr gq37 hF59 (by decide)
        have ga714 := agV.fr gq38 hF59 (by decide)
        have ga715 := agQ.fr ga713 hF68 (by decide)
        have ga716 := agV.fr ga714 hF68 (by decide)
        have ga717 := agQ.fr ga715 hF77 (by decide)
        have ga718 := agV.fr ga716 hF77 (by decide)
        have ga719 := agQ.fr ga717 hF105 (by decide)
        have ga720 := agV.fr ga718 hF105 (by decide)
        have ga721 := agQ.fr ga719 (xFr.of (S := [80]) hb619 (by decide)) (by decide)
        have ga722 := agV.fr ga720 (xFr.of (S := [80]) hb619 (by decide)) (by decide)
        have ga723 := agQ.fr ga721 hF623 (by decide)
        have ga724 := agV.fr ga722 hF623 (by decide)
        have ga725 := agQ.fr ga723 (xFr.of (S := [80]) hb629 (by decide)) (by decide)
        have ga726 := agV.fr ga724 (xFr.of (S := [80]) hb629 (by decide)) (by decide)
        have ga727 := agQ.fr ga725 (xFr.of (S := [80]) hb635 (by decide)) (by decide)
        have ga728 := agV.fr ga726 (xFr.of (S := [80]) hb635 (by decide)) (by decide)
        have ga729 := agQ.fr ga727 (xFr.of (S := [80]) hb639 (by decide)) (by decide)
        have ga730 := agV.fr ga728 (xFr.of (S := [80]) hb639 (by decide)) (by decide)
        have ga731 := agQ.fr ga729 (xFr.of (S := [80]) hb642 (by decide)) (by decide)
        have ga732 := agV.fr ga730 (xFr.of (S := [80]) hb642 (by decide)) (by decide)
        have ga733 := agQ.fr ga731 (xFr.of (S := [80]) hb652 (by decide)) (by decide)
        have ga734 := agV.fr ga732 (xFr.of (S := [80]) hb652 (by decide)) (by decide)
        have ga735 := agQ.fr ga733 hF656 (by decide)
        have ga736 := agV.fr ga734 hF656 (by decide)
        have ga737 := agQ.fr ga735 (xFr.of (S := [80]) hb661 (by decide)) (by decide)
        have ga738 := agV.fr ga736 (xFr.of (S := [80]) hb661 (by decide)) (by decide)
        have ga739 := agQ.fr ga737 hF670 (by decide)
        have ga740 := agV.fr ga738 hF670 (by decide)
        have ga741 := agQ.fr ga739 (xFr.of (S := [80]) hb680 (by decide)) (by decide)
        have ga742 := agV.fr ga740 (xFr.of (S := [80]) hb680 (by decide)) (by decide)
        have ga743 := agQ.fr ga741 hF684 (by decide)
        have ga744 := agV.fr ga742 hF684 (by decide)
        have ga745 := agQ.fr ga743 (xFr.of (S := [80]) hb689 (by decide)) (by decide)
        have ga746 := agV.fr ga744 (xFr.of (S := [80]) hb689 (by decide)) (by decide)
        have ga747 := agQ.fr ga745 (xFr.of (S := [80]) hb709 (by decide)) (by decide)
        have ga748 := agV.fr ga746 (xFr.of (S := [80]) hb709 (by decide)) (by decide)
        have ga749 := agQ.fr ga747 (xFr.of (S := [80]) hb712 (by decide)) (by decide)
        have ga750 := agV.fr ga748 (xFr.of (S := [80]) hb712 (by decide)) (by decide)
        exact xg_e ⟨w710, ⟨rfl, rfl⟩, xInv.up (S := [80]) hI683 (((xFr.of (S := [80]) hb689 (by decide)).tr (xFr.of (S := [80]) hb709 (by decide))).tr (xFr.of (S := [80]) hb712 (by decide))) (List.forall_mem_cons.mpr ⟨(show cpI 11 48 4294967295 (wget w710 80) from ⟨_, hr711, xrb (by omega) (xrb (by omega) (xrb (by omega) (xrb (by omega) (xrb (by omega) (xrb (by omega) (xrb (by omega) (xrb (by omega) (xrb (by omega) (xrb (by omega) (xrb (by omega) (hb616)))))))))))⟩), fun _ h => absurd h List.not_mem_nil⟩), ((((((((((((((((hF12.up (by decide)).tr (hF23.up (by decide))).tr (hF35.up (by decide))).tr (hF59.up (by decide))).tr (hF68.up (by decide))).tr (hF77.up (by decide))).tr (hF105.up (by decide))).tr (xFr.of (S := [50, 51, 52, 53, 54, 55, 58, 59, 60, 61, 62, 63, 64, 65, 66, 67, 68, 69, 70, 71, 72, 73, 76, 77, 80]) hb619 (by decide))).tr (hF623.up (by decide))).tr (((((xFr.of (S := [50, 51, 52, 53, 54, 55, 58, 59, 60, 61, 62, 63, 64, 65, 66, 67, 68, 69, 70, 71, 72, 73, 76, 77, 80]) hb629 (by decide)).tr (xFr.of (S := [50, 51, 52, 53, 54, 55, 58, 59, 60, 61, 62, 63, 64, 65, 66, 67, 68, 69, 70, 71, 72, 73, 76, 77, 80]) hb635 (by decide))).tr (xFr.of (S := [50, 51, 52, 53, 54, 55, 58, 59, 60, 61, 62, 63, 64, 65, 66, 67, 68, 69, 70, 71, 72, 73, 76, 77, 80]) hb639 (by decide))).tr (xFr.of (S := [50, 51, 52, 53, 54, 55, 58, 59, 60, 61, 62, 63, 64, 65, 66, 67, 68, 69, 70, 71, 72, 73, 76, 77, 80]) hb642 (by decide))).tr (xFr.of (S := [50, 51, 52, 53, 54, 55, 58, 59, 60, 61, 62, 63, 64, 65, 66, 67, 68, 69, 70, 71, 72, 73, 76, 77, 80]) hb652 (by decide)))).tr (hF656.up (by decide))).tr (xFr.of (S := [50, 51, 52, 53, 54, 55, 58, 59, 60, 61, 62, 63, 64, 65, 66, 67, 68, 69, 70, 71, 72, 73, 76, 77, 80]) hb661 (by decide))).tr (hF670.up (by decide))).tr (xFr.of (S := [50, 51, 52, 53, 54, 55, 58, 59, 60, 61, 62, 63, 64, 65, 66, 67, 68, 69, 70, 71, 72, 73, 76, 77, 80]) hb680 (by decide))).tr (hF684.up (by decide))).tr (((xFr.of (S := [50, 51, 52, 53, 54, 55, 58, 59, 60, 61, 62, 63, 64, 65, 66, 67, 68, 69, 70, 71, 72, 73, 76, 77, 80]) hb689 (by decide)).tr (xFr.of (S := [50, 51, 52, 53, 54, 55, 58, 59, 60, 61, 62, 63, 64, 65, 66, 67, 68, 69, 70, 71, 72, 73, 76, 77, 80]) hb709 (by decide))).tr (xFr.of (S := [50, 51, 52, 53, 54, 55, 58, 59, 60, 61, 62, 63, 64, 65, 66, 67, 68, 69, 70, 71, 72, 73, 76, 77, 80]) hb712 (by decide)))), ga750⟩
      · refine xg_t (xg_ifT (u := f4_630) rfl xnm0 (xj_neT hc636)) ?_
        refine xg_t (xg_blk (b := [(121, 1, 0, 0, 0, 0), (122, 3, 1, 11, 4, 45), (125, 3, 13, 13, 0, 154)]) rfl) ?_
        refine xg_t (xg_aload (va := (2, 0)) rfl rfl) ?_
        refine xg_t (xg_getf (va := (2, 49)) (hb635.get (by decide) (hb629.get (by decide) (hF623.get (by decide) (hb619.get (by decide) (hF105.get (by decide) (hF77.get (by decide) (hF68.get (by decide) (hF59.get (by decide) (hF35.get (by decide) (hF23.get (by decide) (hF12.get (by decide) h0_1))))))))))) rfl) ?_
        refine xg_cVi mX0_leastRound (vs := []) (rest := [(0, 3), (2, 80)]) (cn1 := 0) (sl1 := 0) rfl (bdLeast (xInv.up (S := [80]) hI622 ((xFr.of (S := [80]) hb629 (by decide)).tr (xFr.of (S := [80]) hb635 (by decide))) (List.forall_mem_cons.mpr ⟨(show cpI 11 48 4294967295 (wget w633 80) from ⟨_, hr634, xrb (by omega) (xrb (by omega) (xrb (by omega) (hb616)))⟩), fun _ h => absurd h List.not_mem_nil⟩))) rfl (hb635.get (by decide) (hb629.get (by decide) (hF623.get (by decide) (hb619.get (by decide) (hF105.get (by decide) (hF77.get (by decide) h49_73)))))) rfl rfl rfl rfl rfl rfl (fun n755 w751 hq752 => ?_)
        obtain ⟨hn756, hI753, hF754⟩ := hq752
        refine xg_t (xg_blk (b := [(128, 1, 17, 0, 0, 0), (129, 1, 0, 0, 0, 0), (130, 3, 1, 11, 9, 83), (133, 1, 3, 4, 0, 0), (134, 1, 0, 1, 0, 0), (135, 3, 1, 1, 7, 225), (138, 1, 17, 0, 0, 0), (139, 1, 0, 0, 0, 0), (140, 3, 1, 11, 9, 83), (143, 1, 3, 5, 0, 0), (144, 1, 0, 0, 0, 0), (145, 3, 1, 11, 5, 52), (148, 3, 1, 10, 11, 222), (151, 1, 17, 0, 0, 0), (152, 1, 0, 0, 0, 0), (153, 3, 1, 11, 9, 83), (156, 2, 4, 6, 0, 0), (158, 1, 0, 0, 0, 0), (159, 3, 13, 45, 88, 291), (162, 1, 17, 0, 0, 0), (163, 1, 0, 0, 0, 0), (164, 3, 1, 11, 9, 83), (167, 2, 4, 7, 0, 0), (169, 3, 5, 9999, 0, 0), (172, 1, 0, 0, 0, 0), (173, 3, 1, 11, 7, 66), (176, 1, 3, 0, 0, 0), (177, 1, 3, 0, 0, 0), (178, 1, 0, 1, 0, 0), (179, 3, 1, 1, 5, 297), (182, 1, 0, 1, 0, 0), (183, 3, 1, 1, 6, 300), (186, 3, 13, 310, 56, 306), (189, 3, 63, 0, 0, 403), (192, 1, 17, 0, 0, 0), (193, 1, 0, 0, 0, 0), (194, 3, 1, 11, 9, 83), (197, 2, 4, 8, 0, 0), (199, 1, 0, 0, 0, 0), (200, 3, 1, 11, 0, 10), (203, 3, 13, 323, 72, 216), (206, 1, 17, 0, 0, 0), (207, 1, 0, 0, 0, 0), (208, 3, 1, 11, 9, 83), (211, 2, 4, 9, 0, 0), (213, 1, 0, 0, 0, 0), (214, 3, 1, 11, 8, 79), (217, 3, 1, 4, 4, 328), (220, 1, 17, 0, 0, 0), (221, 1, 0, 0, 0, 0), (222, 3, 1, 11, 9, 83), (225, 2, 4, 10, 0, 0), (227, 1, 0, 0, 0, 0), (228, 3, 1, 11, 0, 10), (231, 3, 1, 9, 6, 186), (234, 1, 17, 0, 0, 0), (235, 1, 12, 0, 0, 0)]) rfl) ?_
        refine xg_iastK (n := 3) (u := n755) (hr634.fr hF754 (by decide)) xnm0 xnm0 rfl (by omega) (fun w757 hr758 hb759 => ?_)
        refine xg_t (xg_aload (va := (2, 0)) rfl rfl) ?_
        refine xg_t (xg_getf (va := (2, 80)) (hb759.get (by decide) (hF754.get (by decide) (hb635.get (by decide) (hb629.get (by decide) (hF623.get (by decide) (hb619.get (by decide) (hF105.get (by decide) (hF77.get (by decide) (hF68.get (by decide) (hF59.get (by decide) (hF35.get (by decide) (hF23.get (by decide) (hF12.get (by decide) h0_1))))))))))))) rfl) ?_
        refine xg_t (xg_const) ?_
        refine xg_t (xg_aload (va := (2, 3)) rfl rfl) ?_
        refine xg_t (xg_getf (va := (0, f3_95)) (hb759.get (by decide) (hF754.get (by decide) (hb635.get (by decide) (hb629.get (by decide) (hF623.get (by decide) (hb619.get (by decide) (hF105.get (by decide) h3_101))))))) rfl) ?_
        refine xg_iastK (n := 4) (u := f3_95) hr758 xnm0 xnm0 rfl (by omega) (fun w760 hr761 hb762 => ?_)
        refine xg_t (xg_aload (va := (2, 0)) rfl rfl) ?_
        refine xg_t (xg_getf (va := (2, 80)) (hb762.get (by decide) (hb759.get (by decide) (hF754.get (by decide) (hb635.get (by decide) (hb629.get (by decide) (hF623.get (by decide) (hb619.get (by decide) (hF105.get (by decide) (hF77.get (by decide) (hF68.get (by decide) (hF59.get (by decide) (hF35.get (by decide) (hF23.get (by decide) (hF12.get (by decide) h0_1)))))))))))))) rfl) ?_
        refine xg_t (xg_const) ?_
        refine xg_t (xg_aload (va := (2, 0)) rfl rfl) ?_
        refine xg_t (xg_getf (va := (2, 58)) (hb762.get (by decide) (hb759.get (by decide) (hF754.get (by decide) (hb635.get (by decide) (hb629.get (by decide) (hF623.get (by decide) (hb619.get (by decide) (hF105.get (by decide) (hF77.get (by decide) (hF68.get (by decide) (hF59.get (by decide) (hF35.get (by decide) (hF23.get (by decide) (hF12.get (by decide) h0_1)))))))))))))) rfl) ?_
        refine xoC58 (hI753 58 (by decide) : cp58 (wget w751 58)) (fun f58_763 f58_765 f58_767 h58_769 hb764 hb766 hb768 => ?_)
        refine xg_t (xg_getf (va := (0, f58_765)) (hb762.get (by decide) (hb759.get (by decide) h58_769)) rfl) ?_
        refine xg_iastK (n := 5) (u := f58_765) hr761 xnm0 xnm0 rfl (by omega) (fun w770 hr771 hb772 => ?_)
        refine xg_t (xg_aload (va := (2, 0)) rfl rfl) ?_
        refine xg_t (xg_getf (va := (2, 80)) (hb772.get (by decide) (hb762.get (by decide) (hb759.get (by decide) (hF754.get (by decide) (hb635.get (by decide) (hb629.get (by decide) (hF623.get (by decide) (hb619.get (by decide) (hF105.get (by decide) (hF77.get (by decide) (hF68.get (by decide) (hF59.get (by decide) (hF35.get (by decide) (hF23.get (by decide) (hF12.get (by decide) h0_1))))))))))))))) rfl) ?_
        refine xg_t (xg_bip) ?_
        refine xg_t (xg_aload (va := (2, 0)) rfl rfl) ?_
        refine xg_cVi mX11_countDark (vs := []) (rest := [(0, 6), (2, 80)]) (cn1 := 0) (sl1 := 0) rfl (scCountDark (xInv.up (S := [80]) hI753 (((xFr.of (S := [80]) hb759 (by decide)).tr (xFr.of (S := [80]) hb762 (by decide))).tr (xFr.of (S := [80]) hb772 (by decide))) (List.forall_mem_cons.mpr ⟨(show cpI 11 48 4294967295 (wget w770 80) from ⟨_, hr771, xrb (by omega) (xrb (by omega) (xrb (by omega) (xrb (by omega) (xrb (by omega) (xrb (by omega) (hb616))))))⟩), fun _ h => absurd h List.not_mem_nil⟩))) rfl (hb772.get (by decide) (hb762.get (by decide) (hb759.get (by decide) (hF754.get (by decide) (hb635.get (by decide) (hb629.get (by decide) (hF623.get (by decide) (hb619.get (by decide) (hF105.get (by decide) (hF77.get (by decide) (hF68.get (by decide) (hF59.get (by decide) (hF35.get (by decide) (hF23.get (by decide) (hF12.get (by decide) h0_1))))))))))))))) rfl rfl rfl rfl rfl rfl (fun n777 w773 hq774 => ?_)
        obtain ⟨hn778, hI775, hF776⟩ := hq774
        refine xg_iastK (n := 6) (u := n777) (hr771.fr hF776 (by decide)) xnm0 xnm0 rfl (by omega) (fun w779 hr780 hb781 => ?_)
        refine xg_t (xg_aload (va := (2, 0)) rfl rfl) ?_
        refine xg_t (xg_getf (va := (2, 80)) (hb781.get (by decide) (hF776.get (by decide) (hb772.get (by decide) (hb762.get (by decide) (hb759.get (by decide) (hF754.get (by decide) (hb635.get (by decide) (hb629.get (by decide) (hF623.get (by decide) (hb619.get (by decide) (hF105.get (by decide) (hF77.get (by decide) (hF68.get (by decide) (hF59.get (by decide) (hF35.get (by decide) (hF23.get (by decide) (hF12.get (by decide) h0_1))))))))))))))))) rfl) ?_
        refine xg_t (xg_bip) ?_
        refine xg_t (xg_sip) ?_
        refine xg_t (xg_aload (va := (2, 0)) rfl rfl) ?_
        refine xg_t (xg_getf (va := (2, 72)) (hb781.get (by decide) (hF776.get (by decide) (hb772.get (by decide) (hb762.get (by decide) (hb759.get (by decide) (hF754.get (by decide) (hb635.get (by decide) (hb629.get (by decide) (hF623.get (by decide) (hb619.get (by decide) (hF105.get (by decide) (hF77.get (by decide) (hF68.get (by decide) (hF59.get (by decide) (hF35.get (by decide) (hF23.get (by decide) (hF12.get (by decide) h0_1))))))))))))))))) rfl) ?_
        refine xg_t (xg_const) ?_
        refine xg_t (xg_const) ?_
        refine xg_t (xg_aload (va := (2, 3)) rfl rfl) ?_
        refine xg_t (xg_getf (va := (0, f3_91)) (hb781.get (by decide) (hF776.get (by decide) (hb772.get (by decide) (hb762.get (by decide) (hb759.get (by decide) (hF754.get (by decide) (hb635.get (by decide) (hb629.get (by decide) (hF623.get (by decide) (hb619.get (by decide) (hF105.get (by decide) h3_101))))))))))) rfl) ?_
        refine xg_t (xg_aload (va := (2, 3)) rfl rfl) ?_
        refine xg_t (xg_getf (va := (0, f3_93)) (hb781.get (by decide) (hF776.get (by decide) (hb772.get (by decide) (hb762.get (by decide) (hb759.get (by decide) (hF754.get (by decide) (hb635.get (by decide) (hb629.get (by decide) (hF623.get (by decide) (hb619.get (by decide) (hF105.get (by decide) h3_101))))))))))) rfl) ?_
        refine xoC72 (hI775 72 (by decide) : cp72 (wget w773 72)) (fun f72_782 f72_784 h72_786 hb783 hb785 => ?_)
        refine xg_cVi mX7_worthOf (vs := [(0, 0), (0, 0), (0, f3_91), (0, f3_93)]) (rest := [(0, 9999), (0, 7), (2, 80)]) (cn1 := 0) (sl1 := 0) rfl (shWorthOf (xInv.up (S := [80]) hI775 (xFr.of (S := [80]) hb781 (by decide)) (List.forall_mem_cons.mpr ⟨(show cpI 11 48 4294967295 (wget w779 80) from ⟨_, hr780, xrb (by omega) (xrb (by omega) (xrb (by omega) (xrb (by omega) (xrb (by omega) (xrb (by omega) (xrb (by omega) (hb616)))))))⟩), fun _ h => absurd h List.not_mem_nil⟩)) (by omega) (by omega) (by omega) (by omega)) rfl (hb781.get (by decide) h72_786) rfl rfl rfl rfl rfl rfl (fun n791 w787 hq788 => ?_)
        obtain ⟨hn792, hI789, hF790⟩ := hq788
        refine xg_minK (u := 9999) (v := n791) xnm0 xnm0 xmx_ok (by omega) (by omega) (fun z793 hz794 hz795 hz796 hz797 => ?_)
        unfold xbs at hz795 hz796
        refine xg_iastK (n := 7) (u := z793) (hr780.fr hF790 (by decide)) xnm0 xnm0 rfl (by omega) (fun w798 hr799 hb800 => ?_)
        refine xg_t (xg_aload (va := (2, 0)) rfl rfl) ?_
        refine xg_t (xg_getf (va := (2, 80)) (hb800.get (by decide) (hF790.get (by decide) (hb781.get (by decide) (hF776.get (by decide) (hb772.get (by decide) (hb762.get (by decide) (hb759.get (by decide) (hF754.get (by decide) (hb635.get (by decide) (hb629.get (by decide) (hF623.get (by decide) (hb619.get (by decide) (hF105.get (by decide) (hF77.get (by decide) (hF68.get (by decide) (hF59.get (by decide) (hF35.get (by decide) (hF23.get (by decide) (hF12.get (by decide) h0_1))))))))))))))))))) rfl) ?_
        refine xg_t (xg_bip) ?_
        refine xg_t (xg_aload (va := (2, 0)) rfl rfl) ?_
        refine xg_t (xg_getf (va := (2, 1)) (hb800.get (by decide) (hF790.get (by decide) (hb781.get (by decide) (hF776.get (by decide) (hb772.get (by decide) (hb762.get (by decide) (hb759.get (by decide) (hF754.get (by decide) (hb635.get (by decide) (hb629.get (by decide) (hF623.get (by decide) (hb619.get (by decide) (hF105.get (by decide) (hF77.get (by decide) (hF68.get (by decide) (hF59.get (by decide) (hF35.get (by decide) (hF23.get (by decide) (hF12.get (by decide) h0_1))))))))))))))))))) rfl) ?_
        refine xg_cVi mX9_cracksInView (vs := []) (rest := [(0, 8), (2, 80)]) (cn1 := 0) (sl1 := 0) rfl (tdCracksInView (xInv.up (S := [80]) hI789 (xFr.of (S := [80]) hb800 (by decide)) (List.forall_mem_cons.mpr ⟨(show cpI 11 48 4294967295 (wget w798 80) from ⟨_, hr799, xrb (by omega) (xrb (by omega) (xrb (by omega) (xrb (by omega) (xrb (by omega) (xrb (by omega) (xrb (by omega) (xrb (by omega) (hb616))))))))⟩), fun _ h => absurd h List.not_mem_nil⟩))) rfl (hb800.get (by decide) (hF790.get (by decide) (hb781.get (by decide) (hF776.get (by decide) (hb772.get (by decide) (hb762.get (by decide) (hb759.get (by decide) (hF754.get (by decide) (hb635.get (by decide) (hb629.get (by decide) (hF623.get (by decide) (hb619.get (by decide) (hF105.get (by decide) h1_90))))))))))))) rfl rfl rfl rfl rfl rfl (fun n805 w801 hq802 => ?_)
        obtain ⟨hn806, hI803, hF804⟩ := hq802
        refine xg_iastK (n := 8) (u := n805) (hr799.fr hF804 (by decide)) xnm0 xnm0 rfl (by omega) (fun w807 hr808 hb809 => ?_)
        refine xg_t (xg_aload (va := (2, 0)) rfl rfl) ?_
        refine xg_t (xg_getf (va := (2, 80)) (hb809.get (by decide) (hF804.get (by decide) (hb800.get (by decide) (hF790.get (by decide) (hb781.get (by decide) (hF776.get (by decide) (hb772.get (by decide) (hb762.get (by decide) (hb759.get (by decide) (hF754.get (by decide) (hb635.get (by decide) (hb629.get (by decide) (hF623.get (by decide) (hb619.get (by decide) (hF105.get (by decide) (hF77.get (by decide) (hF68.get (by decide) (hF59.get (by decide) (hF35.get (by decide) (hF23.get (by decide) (hF12.get (by decide) h0_1))))))))))))))))))))) rfl) ?_
        refine xg_t (xg_bip) ?_
        refine xg_t (xg_aload (va := (2, 0)) rfl rfl) ?_
        refine xg_t (xg_getf (va := (2, 76)) (hb809.get (by decide) (hF804.get (by decide) (hb800.get (by decide) (hF790.get (by decide) (hb781.get (by decide) (hF776.get (by decide) (hb772.get (by decide) (hb762.get (by decide) (hb759.get (by decide) (hF754.get (by decide) (hb635.get (by decide) (hb629.get (by decide) (hF623.get (by decide) (hb619.get (by decide) (hF105.get (by decide) (hF77.get (by decide) (hF68.get (by decide) (hF59.get (by decide) (hF35.get (by decide) (hF23.get (by decide) (hF12.get (by decide) h0_1))))))))))))))))))))) rfl) ?_
        refine xoC76 (hI803 76 (by decide) : cp76 (wget w801 76)) (fun f76_810 f76_812 f76_814 f76_816 f76_818 f76_820 f76_822 f76_824 h76_826 hb811 hb813 hb815 hb817 hb819 hb821 hb823 hb825 => ?_)
        refine xg_t (xg_getf (va := (0, f76_810)) (hb809.get (by decide) h76_826) rfl) ?_
        refine xg_iastK (n := 9) (u := f76_810) hr808 xnm0 xnm0 rfl (by omega) (fun w827 hr828 hb829 => ?_)
        refine xg_t (xg_aload (va := (2, 0)) rfl rfl) ?_
        refine xg_t (xg_getf (va := (2, 80)) (hb829.get (by decide) (hb809.get (by decide) (hF804.get (by decide) (hb800.get (by decide) (hF790.get (by decide) (hb781.get (by decide) (hF776.get (by decide) (hb772.get (by decide) (hb762.get (by decide) (hb759.get (by decide) (hF754.get (by decide) (hb635.get (by decide) (hb629.get (by decide) (hF623.get (by decide) (hb619.get (by decide) (hF105.get (by decide) (hF77.get (by decide) (hF68.get (by decide) (hF59.get (by decide) (hF35.get (by decide) (hF23.get (by decide) (hF12.get (by decide) h0_1)))))))))))))))))))))) rfl) ?_
        refine xg_t (xg_bip) ?_
        refine xg_t (xg_aload (va := (2, 0)) rfl rfl) ?_
        refine xg_t (xg_getf (va := (2, 1)) (hb829.get (by decide) (hb809.get (by decide) (hF804.get (by decide) (hb800.get (by decide) (hF790.get (by decide) (hb781.get (by decide) (hF776.get (by decide) (hb772.get (by decide) (hb762.get (by decide) (hb759.get (by decide) (hF754.get (by decide) (hb635.get (by decide) (hb629.get (by decide) (hF623.get (by decide) (hb619.get (by decide) (hF105.get (by decide) (hF77.get (by decide) (hF68.get (by decide) (hF59.get (by decide) (hF35.get (by decide) (hF23.get (by decide) (hF12.get (by decide) h0_1)))))))))))))))))))))) rfl) ?_
        refine xg_t (xg_getf (va := (0, f1_84)) (hb829.get (by decide) (hb809.get (by decide) (hF804.get (by decide) (hb800.get (by decide) (hF790.get (by decide) (hb781.get (by decide) (hF776.get (by decide) (hb772.get (by decide) (hb762.get (by decide) (hb759.get (by decide) (hF754.get (by decide) (hb635.get (by decide) (hb629.get (by decide) (hF623.get (by decide) (hb619.get (by decide) (hF105.get (by decide) h1_90)))))))))))))))) rfl) ?_
        refine xg_iastK (n := 10) (u := f1_84) hr828 xnm0 xnm0 rfl (by omega) (fun w830 hr831 hb832 => ?_)
        have ga833 := agQ.fr gq37 hF59 (by decide)
        have ga834 := agV.fr gq38 hF59 (by decide)
        have ga835 := agQ.fr ga833 hF68 (by decide)
        have ga836 := agV.fr ga834 hF68 (by decide)
        have ga837 := agQ.fr ga835 hF77 (by decide)
        have ga838 := agV.fr ga836 hF77 (by decide)
        have ga839 := agQ.fr ga837 hF105 (by decide)
        have ga840 := agV.fr ga838 hF105 (by decide)
        have ga841 := agQ.fr ga839 (xFr.of (S := [80]) hb619 (by decide)) (by decide)
        have ga842 := agV.fr ga840 (xFr.of (S := [80]) hb619 (by decide)) (by decide)
        have ga843 := agQ.fr ga841 hF623 (by decide)
        have ga844 := agV.fr ga842 hF623 (by decide)
        have ga845 := agQ.fr ga843 (xFr.of (S := [80]) hb629 (by decide)) (by decide)
        have ga846 := agV.fr ga844 (xFr.of (S := [80]) hb629 (by decide)) (by decide)
        have ga847 := agQ.fr ga845 (xFr.of (S := [80]) hb635 (by decide)) (by decide)
        have ga848 := agV.fr ga846 (xFr.of (S := [80]) hb635 (by decide)) (by decide)
        have ga849 := agQ.fr ga847 hF754 (by decide)
        have ga850 := agV.fr ga848 hF754 (by decide)
        have ga851 := agQ.fr ga849 (xFr.of (S := [80]) hb759 (by decide)) (by decide)
        have ga852 := agV.fr ga850 (xFr.of (S := [80]) hb759 (by decide)) (by decide)
        have ga853 := agQ.fr ga851 (xFr.of (S := [80]) hb762 (by decide)) (by decide)
        have ga854 := agV.fr ga852 (xFr.of (S := [80]) hb762 (by decide)) (by decide)
        have ga855 := agQ.fr ga853 (xFr.of (S := [80]) hb772 (by decide)) (by decide)
        have ga856 := agV.fr ga854 (xFr.of (S := [80]) hb772 (by decide)) (by decide)
        have ga857 := agQ.fr ga855 hF776 (by decide)
        have ga858 := agV.fr ga856 hF776 (by decide)
        have ga859 := agQ.fr ga857 (xFr.of (S := [80]) hb781 (by decide)) (by decide)
        have ga860 := agV.fr ga858 (xFr.of (S := [80]) hb781 (by decide)) (by decide)
        have ga861 := agQ.fr ga859 hF790 (by decide)
        have ga862 := agV.fr ga860 hF790 (by decide)
        have ga863 := agQ.fr ga861 (xFr.of (S := [80]) hb800 (by decide)) (by decide)
        have ga864 := agV.fr ga862 (xFr.of (S := [80]) hb800 (by decide)) (by decide)
        have ga865 := agQ.fr ga863 hF804 (by decide)
        have ga866 := agV.fr ga864 hF804 (by decide)
        have ga867 := agQ.fr ga865 (xFr.of (S := [80]) hb809 (by decide)) (by decide)
        have ga868 := agV.fr ga866 (xFr.of (S := [80]) hb809 (by decide)) (by decide)
        have ga869 := agQ.fr ga867 (xFr.of (S := [80]) hb829 (by decide)) (by decide)
        have ga870 := agV.fr ga868 (xFr.of (S := [80]) hb829 (by decide)) (by decide)
        have ga871 := agQ.fr ga869 (xFr.of (S := [80]) hb832 (by decide)) (by decide)
        have ga872 := agV.fr ga870 (xFr.of (S := [80]) hb832 (by decide)) (by decide)
        exact xg_e ⟨w830, ⟨rfl, rfl⟩, xInv.up (S := [80]) hI803 (((xFr.of (S := [80]) hb809 (by decide)).tr (xFr.of (S := [80]) hb829 (by decide))).tr (xFr.of (S := [80]) hb832 (by decide))) (List.forall_mem_cons.mpr ⟨(show cpI 11 48 4294967295 (wget w830 80) from ⟨_, hr831, xrb (by omega) (xrb (by omega) (xrb (by omega) (xrb (by omega) (xrb (by omega) (xrb (by omega) (xrb (by omega) (xrb (by omega) (xrb (by omega) (xrb (by omega) (xrb (by omega) (hb616)))))))))))⟩), fun _ h => absurd h List.not_mem_nil⟩), ((((((((((((((((((hF12.up (by decide)).tr (hF23.up (by decide))).tr (hF35.up (by decide))).tr (hF59.up (by decide))).tr (hF68.up (by decide))).tr (hF77.up (by decide))).tr (hF105.up (by decide))).tr (xFr.of (S := [50, 51, 52, 53, 54, 55, 58, 59, 60, 61, 62, 63, 64, 65, 66, 67, 68, 69, 70, 71, 72, 73, 76, 77, 80]) hb619 (by decide))).tr (hF623.up (by decide))).tr ((xFr.of (S := [50, 51, 52, 53, 54, 55, 58, 59, 60, 61, 62, 63, 64, 65, 66, 67, 68, 69, 70, 71, 72, 73, 76, 77, 80]) hb629 (by decide)).tr (xFr.of (S := [50, 51, 52, 53, 54, 55, 58, 59, 60, 61, 62, 63, 64, 65, 66, 67, 68, 69, 70, 71, 72, 73, 76, 77, 80]) hb635 (by decide)))).tr (hF754.up (by decide))).tr (((xFr.of (S := [50, 51, 52, 53, 54, 55, 58, 59, 60, 61, 62, 63, 64, 65, 66, 67, 68, 69, 70, 71, 72, 73, 76, 77, 80]) hb759 (by decide)).tr (xFr.of (S := [50, 51, 52, 53, 54, 55, 58, 59, 60, 61, 62, 63, 64, 65, 66, 67, 68, 69, 70, 71, 72, 73, 76, 77, 80]) hb762 (by decide))).tr (xFr.of (S := [50, 51, 52, 53, 54, 55, 58, 59, 60, 61, 62, 63, 64, 65, 66, 67, 68, 69, 70, 71, 72, 73, 76, 77, 80]) hb772 (by decide)))).tr (hF776.up (by decide))).tr (xFr.of (S := [50, 51, 52, 53, 54, 55, 58, 59, 60, 61, 62, 63, 64, 65, 66, 67, 68, 69, 70, 71, 72, 73, 76, 77, 80]) hb781 (by decide))).tr (hF790.up (by decide))).tr (xFr.of (S := [50, 51, 52, 53, 54, 55, 58, 59, 60, 61, 62, 63, 64, 65, 66, 67, 68, 69, 70, 71, 72, 73, 76, 77, 80]) hb800 (by decide))).tr (hF804.up (by decide))).tr (((xFr.of (S := [50, 51, 52, 53, 54, 55, 58, 59, 60, 61, 62, 63, 64, 65, 66, 67, 68, 69, 70, 71, 72, 73, 76, 77, 80]) hb809 (by decide)).tr (xFr.of (S := [50, 51, 52, 53, 54, 55, 58, 59, 60, 61, 62, 63, 64, 65, 66, 67, 68, 69, 70, 71, 72, 73, 76, 77, 80]) hb829 (by decide))).tr (xFr.of (S := [50, 51, 52, 53, 54, 55, 58, 59, 60, 61, 62, 63, 64, 65, 66, 67, 68, 69, 70, 71, 72, 73, 76, 77, 80]) hb832 (by decide)))), ga872⟩
    · refine xg_t (xg_ifT (u := n624) rfl xnm0 (xj_neT hc626)) ?_
      refine xg_t (xg_blk (b := [(87, 1, 3, 0, 0, 0)]) rfl) ?_
      refine xg_t (xg_const) ?_
      refine xg_t (xg_blk (b := [(88, 1, 17, 0, 0, 0), (89, 1, 0, 0, 0, 0), (90, 3, 1, 11, 9, 83), (93, 1, 3, 2, 0, 0), (94, 1, 0, 1, 0, 0), (95, 3, 1, 1, 0, 112), (98, 3, 1, 5, 3, 151), (101, 1, 17, 0, 0, 0), (102, 1, 0, 0, 0, 0), (103, 3, 1, 11, 9, 83), (106, 1, 3, 3, 0, 0), (107, 1, 0, 1, 0, 0), (108, 3, 1, 1, 0, 112), (111, 3, 1, 5, 3, 151), (114, 3, 7, 121, 1, 0), (117, 1, 3, 0, 0, 0), (118, 3, 8, 128, 0, 0)]) rfl) ?_
      refine xg_iastK (n := 1) (u := 0) (hr618.fr hF623 (by decide)) xnm0 xnm0 rfl (by omega) (fun w873 hr874 hb875 => ?_)
      refine xg_t (xg_aload (va := (2, 0)) rfl rfl) ?_
      refine xg_t (xg_getf (va := (2, 80)) (hb875.get (by decide) (hF623.get (by decide) (hb619.get (by decide) (hF105.get (by decide) (hF77.get (by decide) (hF68.get (by decide) (hF59.get (by decide) (hF35.get (by decide) (hF23.get (by decide) (hF12.get (by decide) h0_1)))))))))) rfl) ?_
      refine xg_t (xg_const) ?_
      refine xg_t (xg_aload (va := (2, 3)) rfl rfl) ?_
      refine xg_t (xg_getf (va := (2, 4)) (hb875.get (by decide) (hF623.get (by decide) (hb619.get (by decide) (hF105.get (by decide) h3_101)))) rfl) ?_
      obtain ⟨f4_876, h4_878, hb877⟩ := (hI622 4 (by decide) : cp4 (wget w620 4))
      refine xg_t (xg_getf (va := (0, f4_876)) (hb875.get (by decide) h4_878) rfl) ?_
      refine xg_iastK (n := 2) (u := f4_876) hr874 xnm0 xnm0 rfl (by omega) (fun w879 hr880 hb881 => ?_)
      refine xg_t (xg_aload (va := (2, 0)) rfl rfl) ?_
      refine xg_t (xg_getf (va := (2, 80)) (hb881.get (by decide) (hb875.get (by decide) (hF623.get (by decide) (hb619.get (by decide) (hF105.get (by decide) (hF77.get (by decide) (hF68.get (by decide) (hF59.get (by decide) (hF35.get (by decide) (hF23.get (by decide) (hF12.get (by decide) h0_1))))))))))) rfl) ?_
      refine xg_t (xg_const) ?_
      refine xg_t (xg_aload (va := (2, 3)) rfl rfl) ?_
      refine xg_t (xg_getf (va := (2, 4)) (hb881.get (by decide) (hb875.get (by decide) (hF623.get (by decide) (hb619.get (by decide) (hF105.get (by decide) h3_101))))) rfl) ?_
      refine xg_t (xg_getf (va := (0, f4_876)) (hb881.get (by decide) (hb875.get (by decide) h4_878)) rfl) ?_
      by_cases hc882 : f4_876 = 0
      · refine xg_t (xg_ifF (u := f4_876) rfl xnm0 (xj_neF hc882)) ?_
        refine xg_t (xg_const) ?_
        refine xg_t (xg_goto) ?_
        refine xg_t (xg_blk (b := [(128, 1, 17, 0, 0, 0), (129, 1, 0, 0, 0, 0), (130, 3, 1, 11, 9, 83), (133, 1, 3, 4, 0, 0), (134, 1, 0, 1, 0, 0), (135, 3, 1, 1, 7, 225), (138, 1, 17, 0, 0, 0), (139, 1, 0, 0, 0, 0), (140, 3, 1, 11, 9, 83), (143, 1, 3, 5, 0, 0), (144, 1, 0, 0, 0, 0), (145, 3, 1, 11, 5, 52), (148, 3, 1, 10, 11, 222), (151, 1, 17, 0, 0, 0), (152, 1, 0, 0, 0, 0), (153, 3, 1, 11, 9, 83), (156, 2, 4, 6, 0, 0), (158, 1, 0, 0, 0, 0), (159, 3, 13, 45, 88, 291), (162, 1, 17, 0, 0, 0), (163, 1, 0, 0, 0, 0), (164, 3, 1, 11, 9, 83), (167, 2, 4, 7, 0, 0), (169, 3, 5, 9999, 0, 0), (172, 1, 0, 0, 0, 0), (173, 3, 1, 11, 7, 66), (176, 1, 3, 0, 0, 0), (177, 1, 3, 0, 0, 0), (178, 1, 0, 1, 0, 0), (179, 3, 1, 1, 5, 297), (182, 1, 0, 1, 0, 0), (183, 3, 1, 1, 6, 300), (186, 3, 13, 310, 56, 306), (189, 3, 63, 0, 0, 403), (192, 1, 17, 0, 0, 0), (193, 1, 0, 0, 0, 0), (194, 3, 1, 11, 9, 83), (197, 2, 4, 8, 0, 0), (199, 1, 0, 0, 0, 0), (200, 3, 1, 11, 0, 10), (203, 3, 13, 323, 72, 216), (206, 1, 17, 0, 0, 0), (207, 1, 0, 0, 0, 0), (208, 3, 1, 11, 9, 83), (211, 2, 4, 9, 0, 0), (213, 1, 0, 0, 0, 0), (214, 3, 1, 11, 8, 79), (217, 3, 1, 4, 4, 328), (220, 1, 17, 0, 0, 0), (221, 1, 0, 0, 0, 0), (222, 3, 1, 11, 9, 83), (225, 2, 4, 10, 0, 0), (227, 1, 0, 0, 0, 0), (228, 3, 1, 11, 0, 10), (231, 3, 1, 9, 6, 186), (234, 1, 17, 0, 0, 0), (235, 1, 12, 0, 0, 0)]) rfl) ?_
        refine xg_iastK (n := 3) (u := 0) hr880 xnm0 xnm0 rfl (by omega) (fun w883 hr884 hb885 => ?_)
        refine xg_t (xg_aload (va := (2, 0)) rfl rfl) ?_
        refine xg_t (xg_getf (va := (2, 80)) (hb885.get (by decide) (hb881.get (by decide) (hb875.get (by decide) (hF623.get (by decide) (hb619.get (by decide) (hF105.get (by decide) (hF77.get (by decide) (hF68.get (by decide) (hF59.get (by decide) (hF35.get (by decide) (hF23.get (by decide) (hF12.get (by decide) h0_1)))))))))))) rfl) ?_
        refine xg_t (xg_const) ?_
        refine xg_t (xg_aload (va := (2, 3)) rfl rfl) ?_
        refine xg_t (xg_getf (va := (0, f3_95)) (hb885.get (by decide) (hb881.get (by decide) (hb875.get (by decide) (hF623.get (by decide) (hb619.get (by decide) (hF105.get (by decide) h3_101)))))) rfl) ?_
        refine xg_iastK (n := 4) (u := f3_95) hr884 xnm0 xnm0 rfl (by omega) (fun w886 hr887 hb888 => ?_)
        refine xg_t (xg_aload (va := (2, 0)) rfl rfl) ?_
        refine xg_t (xg_getf (va := (2, 80)) (hb888.get (by decide) (hb885.get (by decide) (hb881.get (by decide) (hb875.get (by decide) (hF623.get (by decide) (hb619.get (by decide) (hF105.get (by decide) (hF77.get (by decide) (hF68.get (by decide) (hF59.get (by decide) (hF35.get (by decide) (hF23.get (by decide) (hF12.get (by decide) h0_1))))))))))))) rfl) ?_
        refine xg_t (xg_const) ?_
        refine xg_t (xg_aload (va := (2, 0)) rfl rfl) ?_
        refine xg_t (xg_getf (va := (2, 58)) (hb888.get (by decide) (hb885.get (by decide) (hb881.get (by decide) (hb875.get (by decide) (hF623.get (by decide) (hb619.get (by decide) (hF105.get (by decide) (hF77.get (by decide) (hF68.get (by decide) (hF59.get (by decide) (hF35.get (by decide) (hF23.get (by decide) (hF12.get (by decide) h0_1))))))))))))) rfl) ?_
        refine xoC58 (hI622 58 (by decide) : cp58 (wget w620 58)) (fun f58_889 f58_891 f58_893 h58_895 hb890 hb892 hb894 => ?_)
        refine xg_t (xg_getf (va := (0, f58_891)) (hb888.get (by decide) (hb885.get (by decide) (hb881.get (by decide) (hb875.get (by decide) h58_895)))) rfl) ?_
        refine xg_iastK (n := 5) (u := f58_891) hr887 xnm0 xnm0 rfl (by omega) (fun w896 hr897 hb898 => ?_)
        refine xg_t (xg_aload (va := (2, 0)) rfl rfl) ?_
        refine xg_t (xg_getf (va := (2, 80)) (hb898.get (by decide) (hb888.get (by decide) (hb885.get (by decide) (hb881.get (by decide) (hb875.get (by decide) (hF623.get (by decide) (hb619.get (by decide) (hF105.get (by decide) (hF77.get (by decide) (hF68.get (by decide) (hF59.get (by decide) (hF35.get (by decide) (hF23.get (by decide) (hF12.get (by decide) h0_1)))))))))))))) rfl) ?_
        refine xg_t (xg_bip) ?_
        refine xg_t (xg_aload (va := (2, 0)) rfl rfl) ?_
        refine xg_cVi mX11_countDark (vs := []) (rest := [(0, 6), (2, 80)]) (cn1 := 0) (sl1 := 0) rfl (scCountDark (xInv.up (S := [80]) hI622 (((((xFr.of (S := [80]) hb875 (by decide)).tr (xFr.of (S := [80]) hb881 (by decide))).tr (xFr.of (S := [80]) hb885 (by decide))).tr (xFr.of (S := [80]) hb888 (by decide))).tr (xFr.of (S := [80]) hb898 (by decide))) (List.forall_mem_cons.mpr ⟨(show cpI 11 48 4294967295 (wget w896 80) from ⟨_, hr897, xrb (by omega) (xrb (by omega) (xrb (by omega) (xrb (by omega) (xrb (by omega) (xrb (by omega) (hb616))))))⟩), fun _ h => absurd h List.not_mem_nil⟩))) rfl (hb898.get (by decide) (hb888.get (by decide) (hb885.get (by decide) (hb881.get (by decide) (hb875.get (by decide) (hF623.get (by decide) (hb619.get (by decide) (hF105.get (by decide) (hF77.get (by decide) (hF68.get (by decide) (hF59.get (by decide) (hF35.get (by decide) (hF23.get (by decide) (hF12.get (by decide) h0_1)))))))))))))) rfl rfl rfl rfl rfl rfl (fun n903 w899 hq900 => ?_)
        obtain ⟨hn904, hI901, hF902⟩ := hq900
        refine xg_iastK (n := 6) (u := n903) (hr897.fr hF902 (by decide)) xnm0 xnm0 rfl (by omega) (fun w905 hr906 hb907 => ?_)
        refine xg_t (xg_aload (va := (2, 0)) rfl rfl) ?_
        refine xg_t (xg_getf (va := (2, 80)) (hb907.get (by decide) (hF902.get (by decide) (hb898.get (by decide) (hb888.get (by decide) (hb885.get (by decide) (hb881.get (by decide) (hb875.get (by decide) (hF623.get (by decide) (hb619.get (by decide) (hF105.get (by decide) (hF77.get (by decide) (hF68.get (by decide) (hF59.get (by decide) (hF35.get (by decide) (hF23.get (by decide) (hF12.get (by decide) h0_1)))))))))))))))) rfl) ?_
        refine xg_t (xg_bip) ?_
        refine xg_t (xg_sip) ?_
        refine xg_t (xg_aload (va := (2, 0)) rfl rfl) ?_
        refine xg_t (xg_getf (va := (2, 72)) (hb907.get (by decide) (hF902.get (by decide) (hb898.get (by decide) (hb888.get (by decide) (hb885.get (by decide) (hb881.get (by decide) (hb875.get (by decide) (hF623.get (by decide) (hb619.get (by decide) (hF105.get (by decide) (hF77.get (by decide) (hF68.get (by decide) (hF59.get (by decide) (hF35.get (by decide) (hF23.get (by decide) (hF12.get (by decide) h0_1)))))))))))))))) rfl) ?_
        refine xg_t (xg_const) ?_
        refine xg_t (xg_const) ?_
        refine xg_t (xg_aload (va := (2, 3)) rfl rfl) ?_
        refine xg_t (xg_getf (va := (0, f3_91)) (hb907.get (by decide) (hF902.get (by decide) (hb898.get (by decide) (hb888.get (by decide) (hb885.get (by decide) (hb881.get (by decide) (hb875.get (by decide) (hF623.get (by decide) (hb619.get (by decide) (hF105.get (by decide) h3_101)))))))))) rfl) ?_
        refine xg_t (xg_aload (va := (2, 3)) rfl rfl) ?_
        refine xg_t (xg_getf (va := (0, f3_93)) (hb907.get (by decide) (hF902.get (by decide) (hb898.get (by decide) (hb888.get (by decide) (hb885.get (by decide) (hb881.get (by decide) (hb875.get (by decide) (hF623.get (by decide) (hb619.get (by decide) (hF105.get (by decide) h3_101)))))))))) rfl) ?_
        refine xoC72 (hI901 72 (by decide) : cp72 (wget w899 72)) (fun f72_908 f72_910 h72_912 hb909 hb911 => ?_)
        refine xg_cVi mX7_worthOf (vs := [(0, 0), (0, 0), (0, f3_91), (0, f3_93)]) (rest := [(0, 9999), (0, 7), (2, 80)]) (cn1 := 0) (sl1 := 0) rfl (shWorthOf (xInv.up (S := [80]) hI901 (xFr.of (S := [80]) hb907 (by decide)) (List.forall_mem_cons.mpr ⟨(show cpI 11 48 4294967295 (wget w905 80) from ⟨_, hr906, xrb (by omega) (xrb (by omega) (xrb (by omega) (xrb (by omega) (xrb (by omega) (xrb (by omega) (xrb (by omega) (hb616)))))))⟩), fun _ h => absurd h List.not_mem_nil⟩)) (by omega) (by omega) (by omega) (by omega)) rfl (hb907.get (by decide) h72_912) rfl rfl rfl rfl rfl rfl (fun n917 w913 hq914 => ?_)
        obtain ⟨hn918, hI915, hF916⟩ := hq914
        refine xg_minK (u := 9999) (v := n917) xnm0 xnm0 xmx_ok (by omega) (by omega) (fun z919 hz920 hz921 hz922 hz923 => ?_)
        unfold xbs at hz921 hz922
        refine xg_iastK (n := 7) (u := z919) (hr906.fr hF916 (by decide)) xnm0 xnm0 rfl (by omega) (fun w924 hr925 hb926 => ?_)
        refine xg_t (xg_aload (va := (2, 0)) rfl rfl) ?_
        refine xg_t (xg_getf (va := (2, 80)) (hb926.get (by decide) (hF916.get (by decide) (hb907.get (by decide) (hF902.get (by decide) (hb898.get (by decide) (hb888.get (by decide) (hb885.get (by decide) (hb881.get (by decide) (hb875.get (by decide) (hF623.get (by decide) (hb619.get (by decide) (hF105.get (by decide) (hF77.get (by decide) (hF68.get (by decide) (hF59.get (by decide) (hF35.get (by decide) (hF23.get (by decide) (hF12.get (by decide) h0_1)))))))))))))))))) rfl) ?_
        refine xg_t (xg_bip) ?_
        refine xg_t (xg_aload (va := (2, 0)) rfl rfl) ?_
        refine xg_t (xg_getf (va := (2, 1)) (hb926.get (by decide) (hF916.get (by decide) (hb907.get (by decide) (hF902.get (by decide) (hb898.get (by decide) (hb888.get (by decide) (hb885.get (by decide) (hb881.get (by decide) (hb875.get (by decide) (hF623.get (by decide) (hb619.get (by decide) (hF105.get (by decide) (hF77.get (by decide) (hF68.get (by decide) (hF59.get (by decide) (hF35.get (by decide) (hF23.get (by decide) (hF12.get (by decide) h0_1)))))))))))))))))) rfl) ?_
        refine xg_cVi mX9_cracksInView (vs := []) (rest := [(0, 8), (2, 80)]) (cn1 := 0) (sl1 := 0) rfl (tdCracksInView (xInv.up (S := [80]) hI915 (xFr.of (S := [80]) hb926 (by decide)) (List.forall_mem_cons.mpr ⟨(show cpI 11 48 4294967295 (wget w924 80) from ⟨_, hr925, xrb (by omega) (xrb (by omega) (xrb (by omega) (xrb (by omega) (xrb (by omega) (xrb (by omega) (xrb (by omega) (xrb (by omega) (hb616))))))))⟩), fun _ h => absurd h List.not_mem_nil⟩))) rfl (hb926.get (by decide) (hF916.get (by decide) (hb907.get (by decide) (hF902.get (by decide) (hb898.get (by decide) (hb888.get (by decide) (hb885.get (by decide) (hb881.get (by decide) (hb875.get (by decide) (hF623.get (by decide) (hb619.get (by decide) (hF105.get (by decide) h1_90)))))))))))) rfl rfl rfl rfl rfl rfl (fun n931 w927 hq928 => ?_)
        obtain ⟨hn932, hI929, hF930⟩ := hq928
        refine xg_iastK (n := 8) (u := n931) (hr925.fr hF930 (by decide)) xnm0 xnm0 rfl (by omega) (fun w933 hr934 hb935 => ?_)
        refine xg_t (xg_aload (va := (2, 0)) rfl rfl) ?_
        refine xg_t (xg_getf (va := (2, 80)) (hb935.get (by decide) (hF930.get (by decide) (hb926.get (by decide) (hF916.get (by decide) (hb907.get (by decide) (hF902.get (by decide) (hb898.get (by decide) (hb888.get (by decide) (hb885.get (by decide) (hb881.get (by decide) (hb875.get (by decide) (hF623.get (by decide) (hb619.get (by decide) (hF105.get (by decide) (hF77.get (by decide) (hF68.get (by decide) (hF59.get (by decide) (hF35.get (by decide) (hF23.get (by decide) (hF12.get (by decide) h0_1)))))))))))))))))))) rfl) ?_
        refine xg_t (xg_bip) ?_
        refine xg_t (xg_aload (va := (2, 0)) rfl rfl) ?_
        refine xg_t (xg_getf (va := (2, 76)) (hb935.get (by decide) (hF930.get (by decide) (hb926.get (by decide) (hF916.get (by decide) (hb907.get (by decide) (hF902.get (by decide) (hb898.get (by decide) (hb888.get (by decide) (hb885.get (by decide) (hb881.get (by decide) (hb875.get (by decide) (hF623.get (by decide) (hb619.get (by decide) (hF105.get (by decide) (hF77.get (by decide) (hF68.get (by decide) (hF59.get (by decide) (hF35.get (by decide) (hF23.get (by decide) (hF12.get (by decide) h0_1)))))))))))))))))))) rfl) ?_
        refine xoC76 (hI929 76 (by decide) : cp76 (wget w927 76)) (fun f76_936 f76_938 f76_940 f76_942 f76_944 f76_946 f76_948 f76_950 h76_952 hb937 hb939 hb941 hb943 hb945 hb947 hb949 hb951 => ?_)
        refine xg_t (xg_getf (va := (0, f76_936)) (hb935.get (by decide) h76_952) rfl) ?_
        refine xg_iastK (n := 9) (u := f76_936) hr934 xnm0 xnm0 rfl (by omega) (fun w953 hr954 hb955 => ?_)
        refine xg_t (xg_aload (va := (2, 0)) rfl rfl) ?_
        refine xg_t (xg_getf (va := (2, 80)) (hb955.get (by decide) (hb935.get (by decide) (hF930.get (by decide) (hb926.get (by decide) (hF916.get (by decide) (hb907.get (by decide) (hF902.get (by decide) (hb898.get (by decide) (hb888.get (by decide) (hb885.get (by decide) (hb881.get (by decide) (hb875.get (by decide) (hF623.get (by decide) (hb619.get (by decide) (hF105.get (by decide) (hF77.get (by decide) (hF68.get (by decide) (hF59.get (by decide) (hF35.get (by decide) (hF23.get (by decide) (hF12.get (by decide) h0_1))))))))))))))))))))) rfl) ?_
        refine xg_t (xg_bip) ?_
        refine xg_t (xg_aload (va := (2, 0)) rfl rfl) ?_
        refine xg_t (xg_getf (va := (2, 1)) (hb955.get (by decide) (hb935.get (by decide) (hF930.get (by decide) (hb926.get (by decide) (hF916.get (by decide) (hb907.get (by decide) (hF902.get (by decide) (hb898.get (by decide) (hb888.get (by decide) (hb885.get (by decide) (hb881.get (by decide) (hb875.get (by decide) (hF623.get (by decide) (hb619.get (by decide) (hF105.get (by decide) (hF77.get (by decide) (hF68.get (by decide) (hF59.get (by decide) (hF35.get (by decide) (hF23.get (by decide) (hF12.get (by decide) h0_1))))))))))))))))))))) rfl) ?_
        refine xg_t (xg_getf (va := (0, f1_84)) (hb955.get (by decide) (hb935.get (by decide) (hF930.get (by decide) (hb926.get (by decide) (hF916.get (by decide) (hb907.get (by decide) (hF902.get (by decide) (hb898.get (by decide) (hb888.get (by decide) (hb885.get (by decide) (hb881.get (by decide) (hb875.get (by decide) (hF623.get (by decide) (hb619.get (by decide) (hF105.get (by decide) h1_90))))))))))))))) rfl) ?_
        refine xg_iastK (n := 10) (u := f1_84) hr954 xnm0 xnm0 rfl (by omega) (fun w956 hr957 hb958 => ?_)
        have ga959 := agQ.fr gq37 hF59 (by decide)
        have ga960 := agV.fr gq38 hF59 (by decide)
        have ga961 := agQ.fr ga959 hF68 (by decide)
        have ga962 := agV.fr ga960 hF68 (by decide)
        have ga963 := agQ.fr ga961 hF77 (by decide)
        have ga964 := agV.fr ga962 hF77 (by decide)
        have ga965 := agQ.fr ga963 hF105 (by decide)
        have ga966 := agV.fr ga964 hF105 (by decide)
        have ga967 := agQ.fr ga965 (xFr.of (S := [80]) hb619 (by decide)) (by decide)
        have ga968 := agV.fr ga966 (xFr.of (S := [80]) hb619 (by decide)) (by decide)
        have ga969 := agQ.fr ga967 hF623 (by decide)
        have ga970 := agV.fr ga968 hF623 (by decide)
        have ga971 := agQ.fr ga969 (xFr.of (S := [80]) hb875 (by decide)) (by decide)
        have ga972 := agV.fr ga970 (xFr.of (S := [80]) hb875 (by decide)) (by decide)
        have ga973 := agQ.fr ga971 (xFr.of (S := [80]) hb881 (by decide)) (by decide)
        have ga974 := agV.fr ga972 (xFr.of (S := [80]) hb881 (by decide)) (by decide)
        have ga975 := agQ.fr ga973 (xFr.of (S := [80]) hb885 (by decide)) (by decide)
        have ga976 := agV.fr ga974 (xFr.of (S := [80]) hb885 (by decide)) (by decide)
        have ga977 := agQ.fr ga975 (xFr.of (S := [80]) hb888 (by decide)) (by decide)
        have ga978 := agV.fr ga976 (xFr.of (S := [80]) hb888 (by decide)) (by decide)
        have ga979 := agQ.fr ga977 (xFr.of (S := [80]) hb898 (by decide)) (by decide)
        have ga980 := agV.fr ga978 (xFr.of (S := [80]) hb898 (by decide)) (by decide)
        have ga981 := agQ.fr ga979 hF902 (by decide)
        have ga982 := agV.fr ga980 hF902 (by decide)
        have ga983 := agQ.fr ga981 (xFr.of (S := [80]) hb907 (by decide)) (by decide)
        have ga984 := agV.fr ga982 (xFr.of (S := [80]) hb907 (by decide)) (by decide)
        have ga985 := agQ.fr ga983 hF916 (by decide)
        have ga986 := agV.fr ga984 hF916 (by decide)
        have ga987 := agQ.fr ga985 (xFr.of (S := [80]) hb926 (by decide)) (by decide)
        have ga988 := agV.fr ga986 (xFr.of (S := [80]) hb926 (by decide)) (by decide)
        have ga989 := agQ.fr ga987 hF930 (by decide)
        have ga990 := agV.fr ga988 hF930 (by decide)
        have ga991 := agQ.fr ga989 (xFr.of (S := [80]) hb935 (by decide)) (by decide)
        have ga992 := agV.fr ga990 (xFr.of (S := [80]) hb935 (by decide)) (by decide)
        have ga993 := agQ.fr ga991 (xFr.of (S := [80]) hb955 (by decide)) (by decide)
        have ga994 := agV.fr ga992 (xFr.of (S := [80]) hb955 (by decide)) (by decide)
        have ga995 := agQ.fr ga993 (xFr.of (S := [80]) hb958 (by decide)) (by decide)
        have ga996 := agV.fr ga994 (xFr.of (S := [80]) hb958 (by decide)) (by decide)
        exact xg_e ⟨w956, ⟨rfl, rfl⟩, xInv.up (S := [80]) hI929 (((xFr.of (S := [80]) hb935 (by decide)).tr (xFr.of (S := [80]) hb955 (by decide))).tr (xFr.of (S := [80]) hb958 (by decide))) (List.forall_mem_cons.mpr ⟨(show cpI 11 48 4294967295 (wget w956 80) from ⟨_, hr957, xrb (by omega) (xrb (by omega) (xrb (by omega) (xrb (by omega) (xrb (by omega) (xrb (by omega) (xrb (by omega) (xrb (by omega) (xrb (by omega) (xrb (by omega) (xrb (by omega) (hb616)))))))))))⟩), fun _ h => absurd h List.not_mem_nil⟩), ((((((((((((((((hF12.up (by decide)).tr (hF23.up (by decide))).tr (hF35.up (by decide))).tr (hF59.up (by decide))).tr (hF68.up (by decide))).tr (hF77.up (by decide))).tr (hF105.up (by decide))).tr (xFr.of (S := [50, 51, 52, 53, 54, 55, 58, 59, 60, 61, 62, 63, 64, 65, 66, 67, 68, 69, 70, 71, 72, 73, 76, 77, 80]) hb619 (by decide))).tr (hF623.up (by decide))).tr (((((xFr.of (S := [50, 51, 52, 53, 54, 55, 58, 59, 60, 61, 62, 63, 64, 65, 66, 67, 68, 69, 70, 71, 72, 73, 76, 77, 80]) hb875 (by decide)).tr (xFr.of (S := [50, 51, 52, 53, 54, 55, 58, 59, 60, 61, 62, 63, 64, 65, 66, 67, 68, 69, 70, 71, 72, 73, 76, 77, 80]) hb881 (by decide))).tr (xFr.of (S := [50, 51, 52, 53, 54, 55, 58, 59, 60, 61, 62, 63, 64, 65, 66, 67, 68, 69, 70, 71, 72, 73, 76, 77, 80]) hb885 (by decide))).tr (xFr.of (S := [50, 51, 52, 53, 54, 55, 58, 59, 60, 61, 62, 63, 64, 65, 66, 67, 68, 69, 70, 71, 72, 73, 76, 77, 80]) hb888 (by decide))).tr (xFr.of (S := [50, 51, 52, 53, 54, 55, 58, 59, 60, 61, 62, 63, 64, 65, 66, 67, 68, 69, 70, 71, 72, 73, 76, 77, 80]) hb898 (by decide)))).tr (hF902.up (by decide))).tr (xFr.of (S := [50, 51, 52, 53, 54, 55, 58, 59, 60, 61, 62, 63, 64, 65, 66, 67, 68, 69, 70, 71, 72, 73, 76, 77, 80]) hb907 (by decide))).tr (hF916.up (by decide))).tr (xFr.of (S := [50, 51, 52, 53, 54, 55, 58, 59, 60, 61, 62, 63, 64, 65, 66, 67, 68, 69, 70, 71, 72, 73, 76, 77, 80]) hb926 (by decide))).tr (hF930.up (by decide))).tr (((xFr.of (S := [50, 51, 52, 53, 54, 55, 58, 59, 60, 61, 62, 63, 64, 65, 66, 67, 68, 69, 70, 71, 72, 73, 76, 77, 80]) hb935 (by decide)).tr (xFr.of (S := [50, 51, 52, 53, 54, 55, 58, 59, 60, 61, 62, 63, 64, 65, 66, 67, 68, 69, 70, 71, 72, 73, 76, 77, 80]) hb955 (by decide))).tr (xFr.of (S := [50, 51, 52, 53, 54, 55, 58, 59, 60, 61, 62, 63, 64, 65, 66, 67, 68, 69, 70, 71, 72, 73, 76, 77, 80]) hb958 (by decide)))), ga996⟩
      · refine xg_t (xg_ifT (u := f4_876) rfl xnm0 (xj_neT hc882)) ?_
        refine xg_t (xg_blk (b := [(121, 1, 0, 0, 0, 0), (122, 3, 1, 11, 4, 45), (125, 3, 13, 13, 0, 154)]) rfl) ?_
        refine xg_t (xg_aload (va := (2, 0)) rfl rfl) ?_
        refine xg_t (xg_getf (va := (2, 49)) (hb881.get (by decide) (hb875.get (by decide) (hF623.get (by decide) (hb619.get (by decide) (hF105.get (by decide) (hF77.get (by decide) (hF68.get (by decide) (hF59.get (by decide) (hF35.get (by decide) (hF23.get (by decide) (hF12.get (by decide) h0_1))))))))))) rfl) ?_
        refine xg_cVi mX0_leastRound (vs := []) (rest := [(0, 3), (2, 80)]) (cn1 := 0) (sl1 := 0) rfl (bdLeast (xInv.up (S := [80]) hI622 ((xFr.of (S := [80]) hb875 (by decide)).tr (xFr.of (S := [80]) hb881 (by decide))) (List.forall_mem_cons.mpr ⟨(show cpI 11 48 4294967295 (wget w879 80) from ⟨_, hr880, xrb (by omega) (xrb (by omega) (xrb (by omega) (hb616)))⟩), fun _ h => absurd h List.not_mem_nil⟩))) rfl (hb881.get (by decide) (hb875.get (by decide) (hF623.get (by decide) (hb619.get (by decide) (hF105.get (by decide) (hF77.get (by decide) h49_73)))))) rfl rfl rfl rfl rfl rfl (fun n1001 w997 hq998 => ?_)
        obtain ⟨hn1002, hI999, hF1000⟩ := hq998
        refine xg_t (xg_blk (b := [(128, 1, 17, 0, 0, 0), (129, 1, 0, 0, 0, 0), (130, 3, 1, 11, 9, 83), (133, 1, 3, 4, 0, 0), (134, 1, 0, 1, 0, 0), (135, 3, 1, 1, 7, 225), (138, 1, 17, 0, 0, 0), (139, 1, 0, 0, 0, 0), (140, 3, 1, 11, 9, 83), (143, 1, 3, 5, 0, 0), (144, 1, 0, 0, 0, 0), (145, 3, 1, 11, 5, 52), (148, 3, 1, 10, 11, 222), (151, 1, 17, 0, 0, 0), (152, 1, 0, 0, 0, 0), (153, 3, 1, 11, 9, 83), (156, 2, 4, 6, 0, 0), (158, 1, 0, 0, 0, 0), (159, 3, 13, 45, 88, 291), (162, 1, 17, 0, 0, 0), (163, 1, 0, 0, 0, 0), (164, 3, 1, 11, 9, 83), (167, 2, 4, 7, 0, 0), (169, 3, 5, 9999, 0, 0), (172, 1, 0, 0, 0, 0), (173, 3, 1, 11, 7, 66), (176, 1, 3, 0, 0, 0), (177, 1, 3, 0, 0, 0), (178, 1, 0, 1, 0, 0), (179, 3, 1, 1, 5, 297), (182, 1, 0, 1, 0, 0), (183, 3, 1, 1, 6, 300), (186, 3, 13, 310, 56, 306), (189, 3, 63, 0, 0, 403), (192, 1, 17, 0, 0, 0), (193, 1, 0, 0, 0, 0), (194, 3, 1, 11, 9, 83), (197, 2, 4, 8, 0, 0), (199, 1, 0, 0, 0, 0), (200, 3, 1, 11, 0, 10), (203, 3, 13, 323, 72, 216), (206, 1, 17, 0, 0, 0), (207, 1, 0, 0, 0, 0), (208, 3, 1, 11, 9, 83), (211, 2, 4, 9, 0, 0), (213, 1, 0, 0, 0, 0), (214, 3, 1, 11, 8, 79), (217, 3, 1, 4, 4, 328), (220, 1, 17, 0, 0, 0), (221, 1, 0, 0, 0, 0), (222, 3, 1, 11, 9, 83), (225, 2, 4, 10, 0, 0), (227, 1, 0, 0, 0, 0), (228, 3, 1, 11, 0, 10), (231, 3, 1, 9, 6, 186), (234, 1, 17, 0, 0, 0), (235, 1, 12, 0, 0, 0)]) rfl) ?_
        refine xg_iastK (n := 3) (u := n1001) (hr880.fr hF1000 (by decide)) xnm0 xnm0 rfl (by omega) (fun w1003 hr1004 hb1005 => ?_)
        refine xg_t (xg_aload (va := (2, 0)) rfl rfl) ?_
        refine xg_t (xg_getf (va := (2, 80)) (hb1005.get (by decide) (hF1000.get (by decide) (hb881.get (by decide) (hb875.get (by decide) (hF623.get (by decide) (hb619.get (by decide) (hF105.get (by decide) (hF77.get (by decide) (hF68.get (by decide) (hF59.get (by decide) (hF35.get (by decide) (hF23.get (by decide) (hF12.get (by decide) h0_1))))))))))))) rfl) ?_
        refine xg_t (xg_const) ?_
        refine xg_t (xg_aload (va := (2, 3)) rfl rfl) ?_
        refine xg_t (xg_getf (va := (0, f3_95)) (hb1005.get (by decide) (hF1000.get (by decide) (hb881.get (by decide) (hb875.get (by decide) (hF623.get (by decide) (hb619.get (by decide) (hF105.get (by decide) h3_101))))))) rfl) ?_
        refine xg_iastK (n := 4) (u := f3_95) hr1004 xnm0 xnm0 rfl (by omega) (fun w1006 hr1007 hb1008 => ?_)
        refine xg_t (xg_aload (va := (2, 0)) rfl rfl) ?_
        refine xg_t (xg_getf (va := (2, 80)) (hb1008.get (by decide) (hb1005.get (by decide) (hF1000.get (by decide) (hb881.get (by decide) (hb875.get (by decide) (hF623.get (by decide) (hb619.get (by decide) (hF105.get (by decide) (hF77.get (by decide) (hF68.get (by decide) (hF59.get (by decide) (hF35.get (by decide) (hF23.get (by decide) (hF12.get (by decide) h0_1)))))))))))))) rfl) ?_
        refine xg_t (xg_const) ?_
        refine xg_t (xg_aload (va := (2, 0)) rfl rfl) ?_
        refine xg_t (xg_getf (va := (2, 58)) (hb1008.get (by decide) (hb1005.get (by decide) (hF1000.get (by decide) (hb881.get (by decide) (hb875.get (by decide) (hF623.get (by decide) (hb619.get (by decide) (hF105.get (by decide) (hF77.get (by decide) (hF68.get (by decide) (hF59.get (by decide) (hF35.get (by decide) (hF23.get (by decide) (hF12.get (by decide) h0_1)))))))))))))) rfl) ?_
        refine xoC58 (hI999 58 (by decide) : cp58 (wget w997 58)) (fun f58_1009 f58_1011 f58_1013 h58_1015 hb1010 hb1012 hb1014 => ?_)
        refine xg_t (xg_getf (va := (0, f58_1011)) (hb1008.get (by decide) (hb1005.get (by decide) h58_1015)) rfl) ?_
        refine xg_iastK (n := 5) (u := f58_1011) hr1007 xnm0 xnm0 rfl (by omega) (fun w1016 hr1017 hb1018 => ?_)
        refine xg_t (xg_aload (va := (2, 0)) rfl rfl) ?_
        refine xg_t (xg_getf (va := (2, 80)) (hb1018.get (by decide) (hb1008.get (by decide) (hb1005.get (by decide) (hF1000.get (by decide) (hb881.get (by decide) (hb875.get (by decide) (hF623.get (by decide) (hb619.get (by decide) (hF105.get (by decide) (hF77.get (by decide) (hF68.get (by decide) (hF59.get (by decide) (hF35.get (by decide) (hF23.get (by decide) (hF12.get (by decide) h0_1))))))))))))))) rfl) ?_
        refine xg_t (xg_bip) ?_
        refine xg_t (xg_aload (va := (2, 0)) rfl rfl) ?_
        refine xg_cVi mX11_countDark (vs := []) (rest := [(0, 6), (2, 80)]) (cn1 := 0) (sl1 := 0) rfl (scCountDark (xInv.up (S := [80]) hI999 (((xFr.of (S := [80]) hb1005 (by decide)).tr (xFr.of (S := [80]) hb1008 (by decide))).tr (xFr.of (S := [80]) hb1018 (by decide))) (List.forall_mem_cons.mpr ⟨(show cpI 11 48 4294967295 (wget w1016 80) from ⟨_, hr1017, xrb (by omega) (xrb (by omega) (xrb (by omega) (xrb (by omega) (xrb (by omega) (xrb (by omega) (hb616))))))⟩), fun _ h => absurd h List.not_mem_nil⟩))) rfl (hb1018.get (by decide) (hb1008.get (by decide) (hb1005.get (by decide) (hF1000.get (by decide) (hb881.get (by decide) (hb875.get (by decide) (hF623.get (by decide) (hb619.get (by decide) (hF105.get (by decide) (hF77.get (by decide) (hF68.get (by decide) (hF59.get (by decide) (hF35.get (by decide) (hF23.get (by decide) (hF12.get (by decide) h0_1))))))))))))))) rfl rfl rfl rfl rfl rfl (fun n1023 w1019 hq1020 => ?_)
        obtain ⟨hn1024, hI1021, hF1022⟩ := hq1020
        refine xg_iastK (n := 6) (u := n1023) (hr1017.fr hF1022 (by decide)) xnm0 xnm0 rfl (by omega) (fun w1025 hr1026 hb1027 => ?_)
        refine xg_t (xg_aload (va := (2, 0)) rfl rfl) ?_
        refine xg_t (xg_getf (va := (2, 80)) (hb1027.get (by decide) (hF1022.get (by decide) (hb1018.get (by decide) (hb1008.get (by decide) (hb1005.get (by decide) (hF1000.get (by decide) (hb881.get (by decide) (hb875.get (by decide) (hF623.get (by decide) (hb619.get (by decide) (hF105.get (by decide) (hF77.get (by decide) (hF68.get (by decide) (hF59.get (by decide) (hF35.get (by decide) (hF23.get (by decide) (hF12.get (by decide) h0_1))))))))))))))))) rfl) ?_
        refine xg_t (xg_bip) ?_
        refine xg_t (xg_sip) ?_
        refine xg_t (xg_aload (va := (2, 0)) rfl rfl) ?_
        refine xg_t (xg_getf (va := (2, 72)) (hb1027.get (by decide) (hF1022.get (by decide) (hb1018.get (by decide) (hb1008.get (by decide) (hb1005.get (by decide) (hF1000.get (by decide) (hb881.get (by decide) (hb875.get (by decide) (hF623.get (by decide) (hb619.get (by decide) (hF105.get (by decide) (hF77.get (by decide) (hF68.get (by decide) (hF59.get (by decide) (hF35.get (by decide) (hF23.get (by decide) (hF12.get (by decide) h0_1))))))))))))))))) rfl) ?_
        refine xg_t (xg_const) ?_
        refine xg_t (xg_const) ?_
        refine xg_t (xg_aload (va := (2, 3)) rfl rfl) ?_
        refine xg_t (xg_getf (va := (0, f3_91)) (hb1027.get (by decide) (hF1022.get (by decide) (hb1018.get (by decide) (hb1008.get (by decide) (hb1005.get (by decide) (hF1000.get (by decide) (hb881.get (by decide) (hb875.get (by decide) (hF623.get (by decide) (hb619.get (by decide) (hF105.get (by decide) h3_101))))))))))) rfl) ?_
        refine xg_t (xg_aload (va := (2, 3)) rfl rfl) ?_
        refine xg_t (xg_getf (va := (0, f3_93)) (hb1027.get (by decide) (hF1022.get (by decide) (hb1018.get (by decide) (hb1008.get (by decide) (hb1005.get (by decide) (hF1000.get (by decide) (hb881.get (by decide) (hb875.get (by decide) (hF623.get (by decide) (hb619.get (by decide) (hF105.get (by decide) h3_101))))))))))) rfl) ?_
        refine xoC72 (hI1021 72 (by decide) : cp72 (wget w1019 72)) (fun f72_1028 f72_1030 h72_1032 hb1029 hb1031 => ?_)
        refine xg_cVi mX7_worthOf (vs := [(0, 0), (0, 0), (0, f3_91), (0, f3_93)]) (rest := [(0, 9999), (0, 7), (2, 80)]) (cn1 := 0) (sl1 := 0) rfl (shWorthOf (xInv.up (S := [80]) hI1021 (xFr.of (S := [80]) hb1027 (by decide)) (List.forall_mem_cons.mpr ⟨(show cpI 11 48 4294967295 (wget w1025 80) from ⟨_, hr1026, xrb (by omega) (xrb (by omega) (xrb (by omega) (xrb (by omega) (xrb (by omega) (xrb (by omega) (xrb (by omega) (hb616)))))))⟩), fun _ h => absurd h List.not_mem_nil⟩)) (by omega) (by omega) (by omega) (by omega)) rfl (hb1027.get (by decide) h72_1032) rfl rfl rfl rfl rfl rfl (fun n1037 w1033 hq1034 => ?_)
        obtain ⟨hn1038, hI1035, hF1036⟩ := hq1034
        refine xg_minK (u := 9999) (v := n1037) xnm0 xnm0 xmx_ok (by omega) (by omega) (fun z1039 hz1040 hz1041 hz1042 hz1043 => ?_)
        unfold xbs at hz1041 hz1042
        refine xg_iastK (n := 7) (u := z1039) (hr1026.fr hF1036 (by decide)) xnm0 xnm0 rfl (by omega) (fun w1044 hr1045 hb1046 => ?_)
        refine xg_t (xg_aload (va := (2, 0)) rfl rfl) ?_
        refine xg_t (xg_getf (va := (2, 80)) (hb1046.get (by decide) (hF1036.get (by decide) (hb1027.get (by decide) (hF1022.get (by decide) (hb1018.get (by decide) (hb1008.get (by decide) (hb1005.get (by decide) (hF1000.get (by decide) (hb881.get (by decide) (hb875.get (by decide) (hF623.get (by decide) (hb619.get (by decide) (hF105.get (by decide) (hF77.get (by decide) (hF68.get (by decide) (hF59.get (by decide) (hF35.get (by decide) (hF23.get (by decide) (hF12.get (by decide) h0_1))))))))))))))))))) rfl) ?_
        refine xg_t (xg_bip) ?_
        refine xg_t (xg_aload (va := (2, 0)) rfl rfl) ?_
        refine xg_t (xg_getf (va := (2, 1)) (hb1046.get (by decide) (hF1036.get (by decide) (hb1027.get (by decide) (hF1022.get (by decide) (hb1018.get (by decide) (hb1008.get (by decide) (hb1005.get (by decide) (hF1000.get (by decide) (hb881.get (by decide) (hb875.get (by decide) (hF623.get (by decide) (hb619.get (by decide) (hF105.get (by decide) (hF77.get (by decide) (hF68.get (by decide) (hF59.get (by decide) (hF35.get (by decide) (hF23.get (by decide) (hF12.get (by decide) h0_1))))))))))))))))))) rfl) ?_
        refine xg_cVi mX9_cracksInView (vs := []) (rest := [(0, 8), (2, 80)]) (cn1 := 0) (sl1 := 0) rfl (tdCracksInView (xInv.up (S := [80]) hI1035 (xFr.of (S := [80]) hb1046 (by decide)) (List.forall_mem_cons.mpr ⟨(show cpI 11 48 4294967295 (wget w1044 80) from ⟨_, hr1045, xrb (by omega) (xrb (by omega) (xrb (by omega) (xrb (by omega) (xrb (by omega) (xrb (by omega) (xrb (by omega) (xrb (by omega) (hb616))))))))⟩), fun _ h => absurd h List.not_mem_nil⟩))) rfl (hb1046.get (by decide) (hF1036.get (by decide) (hb1027.get (by decide) (hF1022.get (by decide) (hb1018.get (by decide) (hb1008.get (by decide) (hb1005.get (by decide) (hF1000.get (by decide) (hb881.get (by decide) (hb875.get (by decide) (hF623.get (by decide) (hb619.get (by decide) (hF105.get (by decide) h1_90))))))))))))) rfl rfl rfl rfl rfl rfl (fun n1051 w1047 hq1048 => ?_)
        obtain ⟨hn1052, hI1049, hF1050⟩ := hq1048
        refine xg_iastK (n := 8) (u := n1051) (hr1045.fr hF1050 (by decide)) xnm0 xnm0 rfl (by omega) (fun w1053 hr1054 hb1055 => ?_)
        refine xg_t (xg_aload (va := (2, 0)) rfl rfl) ?_
        refine xg_t (xg_getf (va := (2, 80)) (hb1055.get (by decide) (hF1050.get (by decide) (hb1046.get (by decide) (hF1036.get (by decide) (hb1027.get (by decide) (hF1022.get (by decide) (hb1018.get (by decide) (hb1008.get (by decide) (hb1005.get (by decide) (hF1000.get (by decide) (hb881.get (by decide) (hb875.get (by decide) (hF623.get (by decide) (hb619.get (by decide) (hF105.get (by decide) (hF77.get (by decide) (hF68.get (by decide) (hF59.get (by decide) (hF35.get (by decide) (hF23.get (by decide) (hF12.get (by decide) h0_1))))))))))))))))))))) rfl) ?_
        refine xg_t (xg_bip) ?_
        refine xg_t (xg_aload (va := (2, 0)) rfl rfl) ?_
        refine xg_t (xg_getf (va := (2, 76)) (hb1055.get (by decide) (hF1050.get (by decide) (hb1046.get (by decide) (hF1036.get (by decide) (hb1027.get (by decide) (hF1022.get (by decide) (hb1018.get (by decide) (hb1008.get (by decide) (hb1005.get (by decide) (hF1000.get (by decide) (hb881.get (by decide) (hb875.get (by decide) (hF623.get (by decide) (hb619.get (by decide) (hF105.get (by decide) (hF77.get (by decide) (hF68.get (by decide) (hF59.get (by decide) (hF35.get (by decide) (hF23.get (by decide) (hF12.get (by decide) h0_1))))))))))))))))))))) rfl) ?_
        refine xoC76 (hI1049 76 (by decide) : cp76 (wget w1047 76)) (fun f76_1056 f76_1058 f76_1060 f76_1062 f76_1064 f76_1066 f76_1068 f76_1070 h76_1072 hb1057 hb1059 hb1061 hb1063 hb1065 hb1067 hb1069 hb1071 => ?_)
        refine xg_t (xg_getf (va := (0, f76_1056)) (hb1055.get (by decide) h76_1072) rfl) ?_
        refine xg_iastK (n := 9) (u := f76_1056) hr1054 xnm0 xnm0 rfl (by omega) (fun w1073 hr1074 hb1075 => ?_)
        refine xg_t (xg_aload (va := (2, 0)) rfl rfl) ?_
        refine xg_t (xg_getf (va := (2, 80)) (hb1075.get (by decide) (hb1055.get (by decide) (hF1050.get (by decide) (hb1046.get (by decide) (hF1036.get (by decide) (hb1027.get (by decide) (hF1022.get (by decide) (hb1018.get (by decide) (hb1008.get (by decide) (hb1005.get (by decide) (hF1000.get (by decide) (hb881.get (by decide) (hb875.get (by decide) (hF623.get (by decide) (hb619.get (by decide) (hF105.get (by decide) (hF77.get (by decide) (hF68.get (by decide) (hF59.get (by decide) (hF35.get (by decide) (hF23.get (by decide) (hF12.get (by decide) h0_1)))))))))))))))))))))) rfl) ?_
        refine xg_t (xg_bip) ?_
        refine xg_t (xg_aload (va := (2, 0)) rfl rfl) ?_
        refine xg_t (xg_getf (va := (2, 1)) (hb1075.get (by decide) (hb1055.get (by decide) (hF1050.get (by decide) (hb1046.get (by decide) (hF1036.get (by decide) (hb1027.get (by decide) (hF1022.get (by decide) (hb1018.get (by decide) (hb1008.get (by decide) (hb1005.get (by decide) (hF1000.get (by decide) (hb881.get (by decide) (hb875.get (by decide) (hF623.get (by decide) (hb619.get (by decide) (hF105.get (by decide) (hF77.get (by decide) (hF68.get (by decide) (hF59.get (by decide) (hF35.get (by decide) (hF23.get (by decide) (hF12.get (by decide) h0_1)))))))))))))))))))))) rfl) ?_
        refine xg_t (xg_getf (va := (0, f1_84)) (hb1075.get (by decide) (hb1055.get (by decide) (hF1050.get (by decide) (hb1046.get (by decide) (hF1036.get (by decide) (hb1027.get (by decide) (hF1022.get (by decide) (hb1018.get (by decide) (hb1008.get (by decide) (hb1005.get (by decide) (hF1000.get (by decide) (hb881.get (by decide) (hb875.get (by decide) (hF623.get (by decide) (hb619.get (by decide) (hF105.get (by decide) h1_90)))))))))))))))) rfl) ?_
        refine xg_iastK (n := 10) (u := f1_84) hr1074 xnm0 xnm0 rfl (by omega) (fun w1076 hr1077 hb1078 => ?_)
        have ga1079 := agQ.fr gq37 hF59 (by decide)
        have ga1080 := agV.fr gq38 hF59 (by decide)
        have ga1081 := agQ.fr ga1079 hF68 (by decide)
        have ga1082 := agV.fr ga1080 hF68 (by decide)
        have ga1083 := agQ.fr ga1081 hF77 (by decide)
        have ga1084 := agV.fr ga1082 hF77 (by decide)
        have ga1085 := agQ.fr ga1083 hF105 (by decide)
        have ga1086 := agV.fr ga1084 hF105 (by decide)
        have ga1087 := agQ.fr ga1085 (xFr.of (S := [80]) hb619 (by decide)) (by decide)
        have ga1088 := agV.fr ga1086 (xFr.of (S := [80]) hb619 (by decide)) (by decide)
        have ga1089 := agQ.fr ga1087 hF623 (by decide)
        have ga1090 := agV.fr ga1088 hF623 (by decide)
        have ga1091 := agQ.fr ga1089 (xFr.of (S := [80]) hb875 (by decide)) (by decide)
        have ga1092 := agV.fr ga1090 (xFr.of (S := [80]) hb875 (by decide)) (by decide)
        have ga1093 := agQ.fr ga1091 (xFr.of (S := [80]) hb881 (by decide)) (by decide)
        have ga1094 := agV.fr ga1092 (xFr.of (S := [80]) hb881 (by decide)) (by decide)
        have ga1095 := agQ.fr ga1093 hF1000 (by decide)
        have ga1096 := agV.fr ga1094 hF1000 (by decide)
        have ga1097 := agQ.fr ga1095 (xFr.of (S := [80]) hb1005 (by decide)) (by decide)
        have ga1098 := agV.fr ga1096 (xFr.of (S := [80]) hb1005 (by decide)) (by decide)
        have ga1099 := agQ.fr ga1097 (xFr.of (S := [80]) hb1008 (by decide)) (by decide)
        have ga1100 := agV.fr ga1098 (xFr.of (S := [80]) hb1008 (by decide)) (by decide)
        have ga1101 := agQ.fr ga1099 (xFr.of (S := [80]) hb1018 (by decide)) (by decide)
        have ga1102 := agV.fr ga1100 (xFr.of (S := [80]) hb1018 (by decide)) (by decide)
        have ga1103 := agQ.fr ga1101 hF1022 (by decide)
        have ga1104 := agV.fr ga1102 hF1022 (by decide)
        have ga1105 := agQ.fr ga1103 (xFr.of (S := [80]) hb1027 (by decide)) (by decide)
        have ga1106 := agV.fr ga1104 (xFr.of (S := [80]) hb1027 (by decide)) (by decide)
        have ga1107 := agQ.fr ga1105 hF1036 (by decide)
        have ga1108 := agV.fr ga1106 hF1036 (by decide)
        have ga1109 := agQ.fr ga1107 (xFr.of (S := [80]) hb1046 (by decide)) (by decide)
        have ga1110 := agV.fr ga1108 (xFr.of (S := [80]) hb1046 (by decide)) (by decide)
        have ga1111 := agQ.fr ga1109 hF1050 (by decide)
        have ga1112 := agV.fr ga1110 hF1050 (by decide)
        have ga1113 := agQ.fr ga1111 (xFr.of (S := [80]) hb1055 (by decide)) (by decide)
        have ga1114 := agV.fr ga1112 (xFr.of (S := [80]) hb1055 (by decide)) (by decide)
        have ga1115 := agQ.fr ga1113 (xFr.of (S := [80]) hb1075 (by decide)) (by decide)
        have ga1116 := agV.fr ga1114 (xFr.of (S := [80]) hb1075 (by decide)) (by decide)
        have ga1117 := agQ.fr ga1115 (xFr.of (S := [80]) hb1078 (by decide)) (by decide)
        have ga1118 := agV.fr ga1116 (xFr.of (S := [80]) hb1078 (by decide)) (by decide)
        exact xg_e ⟨w1076, ⟨rfl, rfl⟩, xInv.up (S := [80]) hI1049 (((xFr.of (S := [80]) hb1055 (by decide)).tr (xFr.of (S := [80]) hb1075 (by decide))).tr (xFr.of (S := [80]) hb1078 (by decide))) (List.forall_mem_cons.mpr ⟨(show cpI 11 48 4294967295 (wget w1076 80) from ⟨_, hr1077, xrb (by omega) (xrb (by omega) (xrb (by omega) (xrb (by omega) (xrb (by omega) (xrb (by omega) (xrb (by omega) (xrb (by omega) (xrb (by omega) (xrb (by omega) (xrb (by omega) (hb616)))))))))))⟩), fun _ h => absurd h List.not_mem_nil⟩), ((((((((((((((((((hF12.up (by decide)).tr (hF23.up (by decide))).tr (hF35.up (by decide))).tr (hF59.up (by decide))).tr (hF68.up (by decide))).tr (hF77.up (by decide))).tr (hF105.up (by decide))).tr (xFr.of (S := [50, 51, 52, 53, 54, 55, 58, 59, 60, 61, 62, 63, 64, 65, 66, 67, 68, 69, 70, 71, 72, 73, 76, 77, 80]) hb619 (by decide))).tr (hF623.up (by decide))).tr ((xFr.of (S := [50, 51, 52, 53, 54, 55, 58, 59, 60, 61, 62, 63, 64, 65, 66, 67, 68, 69, 70, 71, 72, 73, 76, 77, 80]) hb875 (by decide)).tr (xFr.of (S := [50, 51, 52, 53, 54, 55, 58, 59, 60, 61, 62, 63, 64, 65, 66, 67, 68, 69, 70, 71, 72, 73, 76, 77, 80]) hb881 (by decide)))).tr (hF1000.up (by decide))).tr (((xFr.of (S := [50, 51, 52, 53, 54, 55, 58, 59, 60, 61, 62, 63, 64, 65, 66, 67, 68, 69, 70, 71, 72, 73, 76, 77, 80]) hb1005 (by decide)).tr (xFr.of (S := [50, 51, 52, 53, 54, 55, 58, 59, 60, 61, 62, 63, 64, 65, 66, 67, 68, 69, 70, 71, 72, 73, 76, 77, 80]) hb1008 (by decide))).tr (xFr.of (S := [50, 51, 52, 53, 54, 55, 58, 59, 60, 61, 62, 63, 64, 65, 66, 67, 68, 69, 70, 71, 72, 73, 76, 77, 80]) hb1018 (by decide)))).tr (hF1022.up (by decide))).tr (xFr.of (S := [50, 51, 52, 53, 54, 55, 58, 59, 60, 61, 62, 63, 64, 65, 66, 67, 68, 69, 70, 71, 72, 73, 76, 77, 80]) hb1027 (by decide))).tr (hF1036.up (by decide))).tr (xFr.of (S := [50, 51, 52, 53, 54, 55, 58, 59, 60, 61, 62, 63, 64, 65, 66, 67, 68, 69, 70, 71, 72, 73, 76, 77, 80]) hb1046 (by decide))).tr (hF1050.up (by decide))).tr (((xFr.of (S := [50, 51, 52, 53, 54, 55, 58, 59, 60, 61, 62, 63, 64, 65, 66, 67, 68, 69, 70, 71, 72, 73, 76, 77, 80]) hb1055 (by decide)).tr (xFr.of (S := [50, 51, 52, 53, 54, 55, 58, 59, 60, 61, 62, 63, 64, 65, 66, 67, 68, 69, 70, 71, 72, 73, 76, 77, 80]) hb1075 (by decide))).tr (xFr.of (S := [50, 51, 52, 53, 54, 55, 58, 59, 60, 61, 62, 63, 64, 65, 66, 67, 68, 69, 70, 71, 72, 73, 76, 77, 80]) hb1078 (by decide)))), ga1118⟩
theorem scBarredG (hI : xInv w) (hq : agQ w) (hfr : agV w) : xPi (d + 6) mX11_barred [(2, 0)] w bd fc rr (fun n w' => (n ≤ 4294967295 ∧ agV w') ∧ xInv w' ∧ xFr [50, 51, 52, 53, 54, 55, 58, 59, 60, 61, 62, 63, 64, 65, 66, 67, 68, 69, 70, 71, 72, 73, 76, 77, 80, 81] w w') := by
  refine xPi.of ?_
  show xTo (d + 6) mX11_barred (0, [], [(0, (2, 0))], [], (w, bd, fc, 0, 0, rr)) (fun φ => ∃ n w', xEnd 1 [(0, n)] (w', bd, fc, 0, 0, rr) φ ∧ (n ≤ 4294967295 ∧ agV w') ∧ xInv w' ∧ xFr [50, 51, 52, 53, 54, 55, 58, 59, 60, 61, 62, 63, 64, 65, 66, 67, 68, 69, 70, 71, 72, 73, 76, 77, 80, 81] w w')
  refine xoC43 (hI 43 (by decide) : cp43 (wget w 43)) (fun f43_1 f43_3 h43_5 hb2 hb4 => ?_)
  obtain ⟨f44_6, h44_8, hb7⟩ := (hI 44 (by decide) : cp44 (wget w 44))
  refine xoI (hI 45 (by decide) : cpI 32 21 4294967295 (wget w 45)) (fun g45_9 h45_10 hb11 => ?_)
  refine xg_t (xg_blk (b := [(0, 1, 0, 0, 0, 0), (1, 3, 13, 80, 88, 361), (4, 1, 0, 0, 0, 0), (5, 3, 13, 72, 88, 364), (8, 1, 3, 0, 0, 0), (9, 1, 15, 1, 0, 0)]) rfl) ?_
  refine xg_t (xg_aload (va := (2, 0)) rfl rfl) ?_
  have h0_12 := (hI 0 (by decide) : cp0 (wget w 0))
  refine xg_cVv mX11_measureAll (vs := []) (rest := []) (cn1 := 0) (sl1 := 0) rfl (scMeasureG (hI) hq hfr) rfl h0_12 rfl rfl rfl rfl rfl rfl (fun w13 hq14 => ?_)
  obtain ⟨hI15, hF16, hx17⟩ := hq14
  have gq18 := agQ.fr hq hF16 (by decide)
  refine xg_t (xg_aload (va := (2, 0)) rfl rfl) ?_
  refine xg_cVv mX11_judgeLines (vs := []) (rest := []) (cn1 := 0) (sl1 := 0) rfl (scJudge (hI15)) rfl (hF16.get (by decide) h0_12) rfl rfl rfl rfl rfl rfl (fun w19 hq20 => ?_)
  obtain ⟨hI21, hF22⟩ := hq20
  refine xg_t (xg_const) ?_
  refine xg_t (xg_istore (l1 := [(0, (2, 0))]) rfl rfl rfl) ?_
  refine xg_t (xg_drop (l1 := [(0, (2, 0)), (1, (0, 0))]) (List.forall_mem_cons.mpr ⟨List.mem_cons_of_mem _ (List.mem_cons_self), List.forall_mem_cons.mpr ⟨List.mem_cons_self, fun _ h => absurd h List.not_mem_nil⟩⟩)) ?_
  have ga29 := agQ.fr gq18 hF22 (by decide)
  have ga30 := agV.fr hx17 hF22 (by decide)
  have key23 : ∀ (m25 : Nat) (li : Nat) (w26 : List (List xE)), 16 - li < m25 → li ≤ 16 → xInv w26 → xFr [50, 51, 52, 53, 54, 55, 58, 59, 60, 61, 62, 63, 64, 65, 66, 67, 68, 69, 70, 71, 72, 73, 76, 77, 80, 81] w w26 → agV w26 → xTo (d + 6) mX11_barred (10, [], [(0, (2, 0)), (1, (0, li))], [], (w26, bd, fc, 0, 0, rr)) (fun φ => ∃ n w', xEnd 1 [(0, n)] (w', bd, fc, 0, 0, rr) φ ∧ (n ≤ 4294967295 ∧ agV w') ∧ xInv w' ∧ xFr [50, 51, 52, 53, 54, 55, 58, 59, 60, 61, 62, 63, 64, 65, 66, 67, 68, 69, 70, 71, 72, 73, 76, 77, 80, 81] w w') := by
    intro m25
    induction m25 with
    | zero => intro li w26 hz; exact absurd hz (Nat.not_lt_zero _)
    | succ m25 ih24 =>
      intro li w26 hm33 hn31 hI27 hF28 he32
      refine xg_t (xg_blk (b := [(10, 1, 2, 1, 0, 0), (11, 1, 0, 0, 0, 0), (12, 3, 1, 11, 0, 10), (15, 3, 1, 9, 12, 367), (18, 3, 1, 5, 3, 151), (21, 3, 6, 56, 3, 0), (24, 1, 0, 0, 0, 0), (25, 3, 1, 11, 10, 87), (28, 1, 2, 1, 0, 0), (29, 1, 32, 0, 0, 0), (30, 3, 7, 50, 0, 0), (33, 1, 0, 0, 0, 0), (34, 3, 1, 11, 0, 10), (37, 3, 1, 9, 12, 367), (40, 1, 2, 1, 0, 0), (41, 1, 3, 0, 0, 0), (42, 3, 13, 285, 40, 132), (45, 3, 7, 50, 1, 0), (48, 1, 2, 1, 0, 0), (49, 1, 12, 0, 1, 0)]) rfl) ?_
      refine xg_t (xg_iload (va := (0, li)) rfl rfl) ?_
      refine xg_t (xg_aload (va := (2, 0)) rfl rfl) ?_
      refine xg_t (xg_getf (va := (2, 1)) (hF28.get (by decide) h0_12) rfl) ?_
      refine xoC1 (hI27 1 (by decide) : cp1 (wget w26 1)) (fun f1_34 f1_36 f1_38 f1_40 f1_42 f1_44 h1_46 hb35 hb37 hb39 hb41 hb43 hb45 => ?_)
      refine xg_t (xg_getf (va := (2, 22)) h1_46 rfl) ?_
      obtain ⟨f22_47, h22_49, hb48⟩ := (hI27 22 (by decide) : cp22 (wget w26 22))
      refine xg_t (xg_getf (va := (0, f22_47)) h22_49 rfl) ?_
      by_cases hc50 : li < f22_47
      · refine xg_t (xg_icF (u := li) (v := f22_47) rfl xnm0 xnm0 (xj_geF hc50 (by omega))) ?_
        refine xg_t (xg_aload (va := (2, 0)) rfl rfl) ?_
        refine xg_t (xg_getf (va := (2, 81)) (hF28.get (by decide) h0_12) rfl) ?_
        refine xg_t (xg_iload (va := (0, li)) rfl rfl) ?_
        obtain ⟨g81_51, h81_52, hb53⟩ := (hI27 81 (by decide) : cpK 2 0 16 49 1 (wget w26 81))
        have h81_52 : xRk 2 0 w26 81 16 49 g81_51 := h81_52
        refine xg_baldB (n := li) (B := 1) h81_52 rfl (hb53) xnm0 (by omega) (fun u54 hu55 he56 => ?_)
        by_cases hc57 : u54 = 0
        · refine xg_t (xg_ifT (u := u54) rfl xnm0 (xj_eqT hc57)) ?_
          refine xg_t (xg_blk (b := [(50, 3, 9, 1, 1, 0), (53, 3, 8, 10, 0, 0)]) rfl) ?_
          refine xg_t (xg_iinc (u := li) (z := li + 1) (l1 := [(0, (2, 0))]) rfl rfl (by omega) rfl) ?_
          refine xg_t (xg_goto) ?_
          refine xg_t (xg_drop (l1 := [(0, (2, 0)), (1, (0, li + 1))]) (List.forall_mem_cons.mpr ⟨List.mem_cons_of_mem _ (List.mem_cons_self), List.forall_mem_cons.mpr ⟨List.mem_cons_self, fun _ h => absurd h List.not_mem_nil⟩⟩)) ?_
          exact ih24 (li + 1) w26 (by omega) (by omega) (hI27) (hF28) (he32)
        · refine xg_t (xg_ifF (u := u54) rfl xnm0 (xj_eqF hc57)) ?_
          refine xg_t (xg_aload (va := (2, 0)) rfl rfl) ?_
          refine xg_t (xg_getf (va := (2, 1)) (hF28.get (by decide) h0_12) rfl) ?_
          refine xg_t (xg_getf (va := (2, 22)) h1_46 rfl) ?_
          refine xg_t (xg_iload (va := (0, li)) rfl rfl) ?_
          refine xg_t (xg_const) ?_
          refine xoI (hI27 23 (by decide) : cpI 32 10 4294967295 (wget w26 23)) (fun g23_58 h23_59 hb60 => ?_)
          refine xg_k (xg_cVr mX5_get (vs := [(0, li), (0, 0)]) (rest := []) (rs := [(0, if li < f22_47 ∧ 0 < 2 then g23_58 (li * 2 + 0) else 4294967295)]) (cn1 := 0) (sl1 := 0) rfl (rget_ok (lim := 16) (wd := 2) (sz := f22_47) h22_49 h23_59 (by decide) (by omega) (by decide) (by decide) (by omega) (by omega)) rfl h22_49 rfl rfl rfl rfl rfl rfl rfl) (xiteb (hb60)) (fun z61 hz62 => ?_)
          by_cases hc63 : z61 = 0
          · refine xg_t (xg_ifF (u := z61) rfl xnm0 (xj_neF hc63)) ?_
            refine xg_t (xg_iload (va := (0, li)) rfl rfl) ?_
            exact xg_e ⟨li, w26, ⟨rfl, rfl⟩, ⟨by omega, he32⟩, hI27, hF28⟩
          · refine xg_t (xg_ifT (u := z61) rfl xnm0 (xj_neT hc63)) ?_
            refine xg_t (xg_blk (b := [(50, 3, 9, 1, 1, 0), (53, 3, 8, 10, 0, 0)]) rfl) ?_
            refine xg_t (xg_iinc (u := li) (z := li + 1) (l1 := [(0, (2, 0))]) rfl rfl (by omega) rfl) ?_
            refine xg_t (xg_goto) ?_
            refine xg_t (xg_drop (l1 := [(0, (2, 0)), (1, (0, li + 1))]) (List.forall_mem_cons.mpr ⟨List.mem_cons_of_mem _ (List.mem_cons_self), List.forall_mem_cons.mpr ⟨List.mem_cons_self, fun _ h => absurd h List.not_mem_nil⟩⟩)) ?_
            exact ih24 (li + 1) w26 (by omega) (by omega) (hI27) (hF28) (he32)
      · refine xg_t (xg_icT (u := li) (v := f22_47) rfl xnm0 xnm0 (xj_geT (by omega) (by omega))) ?_
        refine xg_t (xg_blk (b := [(56, 1, 3, 4294967295, 0, 0), (57, 1, 12, 0, 1, 0)]) rfl) ?_
        refine xg_t (xg_const) ?_
        exact xg_e ⟨4294967295, w26, ⟨rfl, rfl⟩, ⟨by omega, he32⟩, hI27, hF28⟩
  exact key23 _ 0 w19 (Nat.lt_succ_self _) (by omega) (hI21) (((hF16.up (by decide)).tr (hF22.up (by decide)))) (ga30)
theorem scPriceG (hI : xInv w) (hq : agQ w) (hfr : agV w) : xPi (d + 6) mX11_price [(2, 0)] w bd fc rr (fun n w' => (n ≤ 4294967295 ∧ agV w') ∧ xInv w' ∧ xFr [50, 51, 52, 53, 54, 55, 58, 59, 60, 61, 62, 63, 64, 65, 66, 67, 68, 69, 70, 71, 72, 73, 76, 77, 80, 81] w w') := by
  refine xPi.of ?_
  show xTo (d + 6) mX11_price (0, [], [(0, (2, 0))], [], (w, bd, fc, 0, 0, rr)) (fun φ => ∃ n w', xEnd 1 [(0, n)] (w', bd, fc, 0, 0, rr) φ ∧ (n ≤ 4294967295 ∧ agV w') ∧ xInv w' ∧ xFr [50, 51, 52, 53, 54, 55, 58, 59, 60, 61, 62, 63, 64, 65, 66, 67, 68, 69, 70, 71, 72, 73, 76, 77, 80, 81] w w')
  refine xoC43 (hI 43 (by decide) : cp43 (wget w 43)) (fun f43_1 f43_3 h43_5 hb2 hb4 => ?_)
  obtain ⟨f44_6, h44_8, hb7⟩ := (hI 44 (by decide) : cp44 (wget w 44))
  refine xoI (hI 45 (by decide) : cpI 32 21 4294967295 (wget w 45)) (fun g45_9 h45_10 hb11 => ?_)
  refine xg_t (xg_blk (b := [(0, 1, 0, 0, 0, 0), (1, 3, 13, 80, 88, 361), (4, 1, 0, 0, 0, 0), (5, 3, 13, 72, 88, 364), (8, 1, 3, 0, 0, 0), (9, 1, 15, 1, 0, 0), (10, 1, 3, 0, 0, 0), (11, 1, 15, 2, 0, 0)]) rfl) ?_
  refine xg_t (xg_aload (va := (2, 0)) rfl rfl) ?_
  have h0_12 := (hI 0 (by decide) : cp0 (wget w 0))
  refine xg_cVv mX11_measureAll (vs := []) (rest := []) (cn1 := 0) (sl1 := 0) rfl (scMeasureG (hI) hq hfr) rfl h0_12 rfl rfl rfl rfl rfl rfl (fun w13 hq14 => ?_)
  obtain ⟨hI15, hF16, hx17⟩ := hq14
  have gq18 := agQ.fr hq hF16 (by decide)
  refine xg_t (xg_aload (va := (2, 0)) rfl rfl) ?_
  refine xg_cVv mX11_judgeLines (vs := []) (rest := []) (cn1 := 0) (sl1 := 0) rfl (scJudge (hI15)) rfl (hF16.get (by decide) h0_12) rfl rfl rfl rfl rfl rfl (fun w19 hq20 => ?_)
  obtain ⟨hI21, hF22⟩ := hq20
  refine xg_t (xg_const) ?_
  refine xg_t (xg_istore (l1 := [(0, (2, 0))]) rfl rfl rfl) ?_
  refine xg_t (xg_const) ?_
  refine xg_t (xg_istore (l1 := [(1, (0, 0)), (0, (2, 0))]) rfl rfl rfl) ?_
  refine xg_t (xg_drop (l1 := [(0, (2, 0)), (1, (0, 0)), (2, (0, 0))]) (List.forall_mem_cons.mpr ⟨List.mem_cons_of_mem _ (List.mem_cons_of_mem _ (List.mem_cons_self)), List.forall_mem_cons.mpr ⟨List.mem_cons_of_mem _ (List.mem_cons_self), List.forall_mem_cons.mpr ⟨List.mem_cons_self, fun _ h => absurd h List.not_mem_nil⟩⟩⟩)) ?_
  have ga29 := agQ.fr gq18 hF22 (by decide)
  have ga30 := agV.fr hx17 hF22 (by decide)
  have key23 : ∀ (m25 : Nat) (su li : Nat) (w26 : List (List xE)), 16 - li < m25 → su ≤ 4294967295 → li ≤ 16 → xInv w26 → xFr [50, 51, 52, 53, 54, 55, 58, 59, 60, 61, 62, 63, 64, 65, 66, 67, 68, 69, 70, 71, 72, 73, 76, 77, 80, 81] w w26 → agV w26 → xTo (d + 6) mX11_price (12, [], [(0, (2, 0)), (1, (0, su)), (2, (0, li))], [], (w26, bd, fc, 0, 0, rr)) (fun φ => ∃ n w', xEnd 1 [(0, n)] (w', bd, fc, 0, 0, rr) φ ∧ (n ≤ 4294967295 ∧ agV w') ∧ xInv w' ∧ xFr [50, 51, 52, 53, 54, 55, 58, 59, 60, 61, 62, 63, 64, 65, 66, 67, 68, 69, 70, 71, 72, 73, 76, 77, 80, 81] w w') := by
    intro m25
    induction m25 with
    | zero => intro su li w26 hz; exact absurd hz (Nat.not_lt_zero _)
    | succ m25 ih24 =>
      intro su li w26 hm34 hn31 hn32 hI27 hF28 he33
      refine xg_t (xg_blk (b := [(12, 1, 2, 2, 0, 0), (13, 1, 0, 0, 0, 0), (14, 3, 1, 11, 0, 10), (17, 3, 1, 9, 12, 367), (20, 3, 1, 5, 3, 151), (23, 3, 6, 79, 3, 0), (26, 1, 0, 0, 0, 0), (27, 3, 1, 11, 10, 87), (30, 1, 2, 2, 0, 0), (31, 1, 32, 0, 0, 0), (32, 3, 7, 73, 0, 0), (35, 1, 0, 0, 0, 0), (36, 3, 1, 11, 0, 10), (39, 3, 1, 9, 12, 367), (42, 1, 2, 2, 0, 0), (43, 1, 3, 1, 0, 0), (44, 3, 13, 285, 40, 132), (47, 1, 15, 3, 0, 0), (48, 1, 2, 1, 0, 0), (49, 1, 0, 0, 0, 0), (50, 3, 1, 11, 0, 10), (53, 3, 1, 9, 12, 367), (56, 1, 2, 2, 0, 0), (57, 1, 3, 0, 0, 0), (58, 3, 13, 285, 40, 132), (61, 1, 3, 2, 0, 0), (62, 3, 6, 70, 1, 0), (65, 1, 2, 3, 0, 0), (66, 1, 69, 0, 0, 0), (67, 3, 8, 71, 0, 0)]) rfl) ?_
      refine xg_t (xg_iload (va := (0, li)) rfl rfl) ?_
      refine xg_t (xg_aload (va := (2, 0)) rfl rfl) ?_
      refine xg_t (xg_getf (va := (2, 1)) (hF28.get (by decide) h0_12) rfl) ?_
      refine xoC1 (hI27 1 (by decide) : cp1 (wget w26 1)) (fun f1_35 f1_37 f1_39 f1_41 f1_43 f1_45 h1_47 hb36 hb38 hb40 hb42 hb44 hb46 => ?_)
      refine xg_t (xg_getf (va := (2, 22)) h1_47 rfl) ?_
      obtain ⟨f22_48, h22_50, hb49⟩ := (hI27 22 (by decide) : cp22 (wget w26 22))
      refine xg_t (xg_getf (va := (0, f22_48)) h22_50 rfl) ?_
      by_cases hc51 : li < f22_48
      · refine xg_t (xg_icF (u := li) (v := f22_48) rfl xnm0 xnm0 (xj_geF hc51 (by omega))) ?_
        refine xg_t (xg_aload (va := (2, 0)) rfl rfl) ?_
        refine xg_t (xg_getf (va := (2, 81)) (hF28.get (by decide) h0_12) rfl) ?_
        refine xg_t (xg_iload (va := (0, li)) rfl rfl) ?_
        obtain ⟨g81_52, h81_53, hb54⟩ := (hI27 81 (by decide) : cpK 2 0 16 49 1 (wget w26 81))
        have h81_53 : xRk 2 0 w26 81 16 49 g81_52 := h81_53
        refine xg_baldB (n := li) (B := 1) h81_53 rfl (hb54) xnm0 (by omega) (fun u55 hu56 he57 => ?_)
        by_cases hc58 : u55 = 0
        · refine xg_t (xg_ifT (u := u55) rfl xnm0 (xj_eqT hc58)) ?_
          refine xg_t (xg_blk (b := [(73, 3, 9, 2, 1, 0), (76, 3, 8, 12, 0, 0)]) rfl) ?_
          refine xg_t (xg_iinc (u := li) (z := li + 1) (l1 := [(0, (2, 0)), (1, (0, su))]) rfl rfl (by omega) rfl) ?_
          refine xg_t (xg_goto) ?_
          refine xg_t (xg_drop (l1 := [(0, (2, 0)), (1, (0, su)), (2, (0, li + 1))]) (List.forall_mem_cons.mpr ⟨List.mem_cons_of_mem _ (List.mem_cons_self), List.forall_mem_cons.mpr ⟨List.mem_cons_of_mem _ (List.mem_cons_of_mem _ (List.mem_cons_self)), List.forall_mem_cons.mpr ⟨List.mem_cons_self, fun _ h => absurd h List.not_mem_nil⟩⟩⟩)) ?_
          exact ih24 su (li + 1) w26 (by omega) (by omega) (by omega) (hI27) (hF28) (he33)
        · refine xg_t (xg_ifF (u := u55) rfl xnm0 (xj_eqF hc58)) ?_
          refine xg_t (xg_aload (va := (2, 0)) rfl rfl) ?_
          refine xg_t (xg_getf (va := (2, 1)) (hF28.get (by decide) h0_12) rfl) ?_
          refine xg_t (xg_getf (va := (2, 22)) h1_47 rfl) ?_
          refine xg_t (xg_iload (va := (0, li)) rfl rfl) ?_
          refine xg_t (xg_const) ?_
          refine xoI (hI27 23 (by decide) : cpI 32 10 4294967295 (wget w26 23)) (fun g23_59 h23_60 hb61 => ?_)
          refine xg_k (xg_cVr mX5_get (vs := [(0, li), (0, 1)]) (rest := []) (rs := [(0, if li < f22_48 ∧ 1 < 2 then g23_59 (li * 2 + 1) else 4294967295)]) (cn1 := 0) (sl1 := 0) rfl (rget_ok (lim := 16) (wd := 2) (sz := f22_48) h22_50 h23_60 (by decide) (by omega) (by decide) (by decide) (by omega) (by omega)) rfl h22_50 rfl rfl rfl rfl rfl rfl rfl) (xiteb (hb61)) (fun z62 hz63 => ?_)
          refine xg_t (xg_istore (l1 := [(0, (2, 0)), (1, (0, su)), (2, (0, li))]) rfl rfl rfl) ?_
          refine xg_t (xg_iload (va := (0, su)) rfl rfl) ?_
          refine xg_t (xg_aload (va := (2, 0)) rfl rfl) ?_
          refine xg_t (xg_getf (va := (2, 1)) (hF28.get (by decide) h0_12) rfl) ?_
          refine xg_t (xg_getf (va := (2, 22)) h1_47 rfl) ?_
          refine xg_t (xg_iload (va := (0, li)) rfl rfl) ?_
          refine xg_t (xg_const) ?_
          refine xg_k (xg_cVr mX5_get (vs := [(0, li), (0, 0)]) (rest := [(0, su)]) (rs := [(0, if li < f22_48 ∧ 0 < 2 then g23_59 (li * 2 + 0) else 4294967295), (0, su)]) (cn1 := 0) (sl1 := 0) rfl (rget_ok (lim := 16) (wd := 2) (sz := f22_48) h22_50 h23_60 (by decide) (by omega) (by decide) (by decide) (by omega) (by omega)) rfl h22_50 rfl rfl rfl rfl rfl rfl rfl) (xiteb (hb61)) (fun z64 hz65 => ?_)
          refine xg_t (xg_const) ?_
          by_cases hc66 : z64 = 2
          · refine xg_t (xg_icF (u := z64) (v := 2) rfl xnm0 xnm0 (xj_neF hc66)) ?_
            refine xg_t (xg_iload (va := (0, z62)) rfl rfl) ?_
            refine xg_k (xg_ineg (u := z62) xnm0) (xpt_lt _) (fun z67 hz68 => ?_)
            refine xg_t (xg_goto) ?_
            refine xg_t (xg_blk (b := [(71, 1, 11, 0, 0, 0), (72, 1, 15, 1, 0, 0)]) rfl) ?_
            refine xg_k (xg_iadd (u := su) (v := z67) (z := (su + z67) % 4294967296) xnm0 xnm0 rfl) (Nat.mod_lt _ (by decide)) (fun z69 hz70 => ?_)
            refine xg_t (xg_istore (l1 := [(3, (0, z62)), (0, (2, 0)), (2, (0, li))]) rfl rfl rfl) ?_
            refine xg_t (xg_blk (b := [(73, 3, 9, 2, 1, 0), (76, 3, 8, 12, 0, 0)]) rfl) ?_
            refine xg_t (xg_iinc (u := li) (z := li + 1) (l1 := [(1, (0, z69)), (3, (0, z62)), (0, (2, 0))]) rfl rfl (by omega) rfl) ?_
            refine xg_t (xg_goto) ?_
            refine xg_t (xg_drop (l1 := [(0, (2, 0)), (1, (0, z69)), (2, (0, li + 1))]) (List.forall_mem_cons.mpr ⟨List.mem_cons_of_mem _ (List.mem_cons_of_mem _ (List.mem_cons_of_mem _ (List.mem_cons_self))), List.forall_mem_cons.mpr ⟨List.mem_cons_of_mem _ (List.mem_cons_self), List.forall_mem_cons.mpr ⟨List.mem_cons_self, fun _ h => absurd h List.not_mem_nil⟩⟩⟩)) ?_
            exact ih24 z69 (li + 1) w26 (by omega) (by omega) (by omega) (hI27) (hF28) (he33)
          · refine xg_t (xg_icT (u := z64) (v := 2) rfl xnm0 xnm0 (xj_neT hc66)) ?_
            refine xg_t (xg_blk (b := [(70, 1, 2, 3, 0, 0)]) rfl) ?_
            refine xg_t (xg_iload (va := (0, z62)) rfl rfl) ?_
            refine xg_t (xg_blk (b := [(71, 1, 11, 0, 0, 0), (72, 1, 15, 1, 0, 0)]) rfl) ?_
            refine xg_k (xg_iadd (u := su) (v := z62) (z := (su + z62) % 4294967296) xnm0 xnm0 rfl) (Nat.mod_lt _ (by decide)) (fun z71 hz72 => ?_)
            refine xg_t (xg_istore (l1 := [(3, (0, z62)), (0, (2, 0)), (2, (0, li))]) rfl rfl rfl) ?_
            refine xg_t (xg_blk (b := [(73, 3, 9, 2, 1, 0), (76, 3, 8, 12, 0, 0)]) rfl) ?_
            refine xg_t (xg_iinc (u := li) (z := li + 1) (l1 := [(1, (0, z71)), (3, (0, z62)), (0, (2, 0))]) rfl rfl (by omega) rfl) ?_
            refine xg_t (xg_goto) ?_
            refine xg_t (xg_drop (l1 := [(0, (2, 0)), (1, (0, z71)), (2, (0, li + 1))]) (List.forall_mem_cons.mpr ⟨List.mem_cons_of_mem _ (List.mem_cons_of_mem _ (List.mem_cons_of_mem _ (List.mem_cons_self))), List.forall_mem_cons.mpr ⟨List.mem_cons_of_mem _ (List.mem_cons_self), List.forall_mem_cons.mpr ⟨List.mem_cons_self, fun _ h => absurd h List.not_mem_nil⟩⟩⟩)) ?_
            exact ih24 z71 (li + 1) w26 (by omega) (by omega) (by omega) (hI27) (hF28) (he33)
      · refine xg_t (xg_icT (u := li) (v := f22_48) rfl xnm0 xnm0 (xj_geT (by omega) (by omega))) ?_
        refine xg_t (xg_blk (b := [(79, 1, 2, 1, 0, 0), (80, 1, 3, 0, 0, 0), (81, 3, 62, 0, 0, 370), (84, 1, 12, 0, 1, 0)]) rfl) ?_
        refine xg_t (xg_iload (va := (0, su)) rfl rfl) ?_
        refine xg_t (xg_const) ?_
        refine xg_maxK (u := su) (v := 0) xnm0 xnm0 xmx_ok (by omega) (by omega) (fun z73 hz74 hz75 hz76 hz77 => ?_)
        unfold xbs at hz75 hz76
        exact xg_e ⟨z73, w26, ⟨rfl, rfl⟩, ⟨by omega, he33⟩, hI27, hF28⟩
  exact key23 _ 0 0 w19 (Nat.lt_succ_self _) (by omega) (by omega) (hI21) (((hF16.up (by decide)).tr (hF22.up (by decide)))) (ga30)
theorem scLastsG {sh : Nat} (hI : xInv w) (hsh : sh ≤ 4294967295) (hq : agQ w) (hfr : agV w) : xPi (d + 4) mX11_lasts [(2, 0), (0, sh)] w bd fc rr (fun n w' => (n ≤ 4294967295 ∧ agV w') ∧ xInv w' ∧ xFr [68, 69] w w') := by
  refine xPi.of ?_
  show xTo (d + 4) mX11_lasts (0, [], [(0, (2, 0)), (1, (0, sh))], [], (w, bd, fc, 0, 0, rr)) (fun φ => ∃ n w', xEnd 1 [(0, n)] (w', bd, fc, 0, 0, rr) φ ∧ (n ≤ 4294967295 ∧ agV w') ∧ xInv w' ∧ xFr [68, 69] w w')
  refine xg_t (xg_blk (b := [(0, 1, 2, 1, 0, 0), (1, 1, 3, 0, 0, 0), (2, 1, 3, 5, 0, 0), (3, 3, 13, 70, 90, 238), (6, 3, 7, 22, 0, 0), (9, 1, 0, 0, 0, 0), (10, 3, 1, 11, 0, 10), (13, 3, 1, 9, 8, 252), (16, 3, 1, 5, 3, 151), (19, 3, 7, 24, 1, 0)]) rfl) ?_
  refine xg_t (xg_iload (va := (0, sh)) rfl rfl) ?_
  refine xg_t (xg_const) ?_
  refine xg_t (xg_const) ?_
  refine xg_t (xg_cSr mX11_isIn (vs := [(0, sh), (0, 0), (0, 5)]) (rest := []) (rs := [(0, if 0 ≤ sh ∧ sh ≤ 5 then 1 else 0)]) (cn1 := 0) (sl1 := 0) rfl (isIn_ok (by omega) (by omega) (by omega)) rfl rfl rfl rfl rfl rfl rfl rfl) ?_
  by_cases hc1 : 0 ≤ sh ∧ sh ≤ 5
  · refine xg_t (xg_ifF (u := (if 0 ≤ sh ∧ sh ≤ 5 then 1 else 0)) rfl xnm0 (xj_eqF (xite1 hc1))) ?_
    refine xg_t (xg_aload (va := (2, 0)) rfl rfl) ?_
    have h0_2 := (hI 0 (by decide) : cp0 (wget w 0))
    refine xg_t (xg_getf (va := (2, 1)) h0_2 rfl) ?_
    refine xoC1 (hI 1 (by decide) : cp1 (wget w 1)) (fun f1_3 f1_5 f1_7 f1_9 f1_11 f1_13 h1_15 hb4 hb6 hb8 hb10 hb12 hb14 => ?_)
    refine xg_t (xg_getf (va := (2, 16)) h1_15 rfl) ?_
    obtain ⟨f16_16, h16_18, hb17⟩ := (hI 16 (by decide) : cp16 (wget w 16))
    refine xg_t (xg_getf (va := (0, f16_16)) h16_18 rfl) ?_
    by_cases hc19 : f16_16 = 0
    · refine xg_t (xg_ifF (u := f16_16) rfl xnm0 (xj_neF hc19)) ?_
      refine xg_t (xg_blk (b := [(22, 1, 3, 4294967295, 0, 0), (23, 1, 12, 0, 1, 0)]) rfl) ?_
      refine xg_t (xg_const) ?_
      exact xg_e ⟨4294967295, w, ⟨rfl, rfl⟩, ⟨by omega, hfr⟩, hI, xFr.rf⟩
    · refine xg_t (xg_ifT (u := f16_16) rfl xnm0 (xj_neT hc19)) ?_
      refine xg_t (xg_blk (b := [(24, 1, 0, 0, 0, 0), (25, 3, 1, 11, 6, 59), (28, 3, 13, 265, 24, 264), (31, 1, 0, 0, 0, 0), (32, 3, 1, 11, 6, 59), (35, 1, 2, 1, 0, 0), (36, 3, 13, 268, 24, 294), (39, 1, 12, 0, 1, 0)]) rfl) ?_
      refine xg_t (xg_aload (va := (2, 0)) rfl rfl) ?_
      refine xg_t (xg_getf (va := (2, 68)) h0_2 rfl) ?_
      refine xoC68 (hI 68 (by decide) : cp68 (wget w 68)) (fun f68_20 f68_22 h68_24 hb21 hb23 => ?_)
      refine xg_cVv mX3_refreshAges (vs := []) (rest := []) (cn1 := 0) (sl1 := 0) rfl (lmRefreshAX (hI) hq hfr) rfl h68_24 rfl rfl rfl rfl rfl rfl (fun w25 hq26 => ?_)
      obtain ⟨hI27, hF28, hx29⟩ := hq26
      have gq30 := agQ.fr hq hF28 (by decide)
      have gq31 := agV.of hF28 (by decide) hx29.1
      refine xg_t (xg_aload (va := (2, 0)) rfl rfl) ?_
      refine xg_t (xg_getf (va := (2, 68)) (hF28.get (by decide) h0_2) rfl) ?_
      refine xg_t (xg_iload (va := (0, sh)) rfl rfl) ?_
      refine xoC68 (hI27 68 (by decide) : cp68 (wget w25 68)) (fun f68_32 f68_34 h68_36 hb33 hb35 => ?_)
      refine xg_cVi mX3_roundsWith (vs := [(0, sh)]) (rest := []) (cn1 := 0) (sl1 := 0) rfl (lmRoundsWith (hI27) (by omega)) rfl h68_36 rfl rfl rfl rfl rfl rfl (fun n41 w37 hq38 => ?_)
      obtain ⟨hn42, hI39, hF40⟩ := hq38
      have ga43 := agQ.fr gq30 hF40 (by decide)
      have ga44 := agV.fr gq31 hF40 (by decide)
      exact xg_e ⟨n41, w37, ⟨rfl, rfl⟩, ⟨by omega, ga44⟩, hI39, ((hF28.up (by decide)).tr (hF40.up (by decide)))⟩
  · refine xg_t (xg_ifT (u := (if 0 ≤ sh ∧ sh ≤ 5 then 1 else 0)) rfl xnm0 (xj_eqT (xite0 hc1))) ?_
    refine xg_t (xg_blk (b := [(22, 1, 3, 4294967295, 0, 0), (23, 1, 12, 0, 1, 0)]) rfl) ?_
    refine xg_t (xg_const) ?_
    exact xg_e ⟨4294967295, w, ⟨rfl, rfl⟩, ⟨by omega, hfr⟩, hI, xFr.rf⟩
theorem scShiftG (hI : xInv w) (hq : agQ w) (hfr : agV w) : xPi (d + 4) mX11_shift [(2, 0)] w bd fc rr (fun n w' => (n ≤ 4294967295 ∧ agV w') ∧ xInv w' ∧ xFr [68, 69] w w') := by
  refine xPi.of ?_
  show xTo (d + 4) mX11_shift (0, [], [(0, (2, 0))], [], (w, bd, fc, 0, 0, rr)) (fun φ => ∃ n w', xEnd 1 [(0, n)] (w', bd, fc, 0, 0, rr) φ ∧ (n ≤ 4294967295 ∧ agV w') ∧ xInv w' ∧ xFr [68, 69] w w')
  refine xg_t (xg_blk (b := [(0, 1, 0, 0, 0, 0), (1, 3, 1, 11, 0, 10), (4, 3, 1, 9, 8, 252), (7, 3, 1, 5, 3, 151), (10, 3, 7, 15, 1, 0), (13, 1, 3, 4294967295, 0, 0), (14, 1, 12, 0, 1, 0)]) rfl) ?_
  refine xg_t (xg_aload (va := (2, 0)) rfl rfl) ?_
  have h0_1 := (hI 0 (by decide) : cp0 (wget w 0))
  refine xg_t (xg_getf (va := (2, 1)) h0_1 rfl) ?_
  refine xoC1 (hI 1 (by decide) : cp1 (wget w 1)) (fun f1_2 f1_4 f1_6 f1_8 f1_10 f1_12 h1_14 hb3 hb5 hb7 hb9 hb11 hb13 => ?_)
  refine xg_t (xg_getf (va := (2, 16)) h1_14 rfl) ?_
  obtain ⟨f16_15, h16_17, hb16⟩ := (hI 16 (by decide) : cp16 (wget w 16))
  refine xg_t (xg_getf (va := (0, f16_15)) h16_17 rfl) ?_
  by_cases hc18 : f16_15 = 0
  · refine xg_t (xg_ifF (u := f16_15) rfl xnm0 (xj_neF hc18)) ?_
    refine xg_t (xg_const) ?_
    exact xg_e ⟨4294967295, w, ⟨rfl, rfl⟩, ⟨by omega, hfr⟩, hI, xFr.rf⟩
  · refine xg_t (xg_ifT (u := f16_15) rfl xnm0 (xj_neT hc18)) ?_
    refine xg_t (xg_blk (b := [(15, 1, 0, 0, 0, 0), (16, 3, 1, 11, 6, 59), (19, 3, 13, 265, 24, 264), (22, 1, 3, 0, 0, 0), (23, 1, 15, 1, 0, 0), (24, 1, 0, 0, 0, 0), (25, 3, 1, 11, 6, 59), (28, 1, 3, 0, 0, 0), (29, 3, 13, 268, 24, 294), (32, 1, 15, 2, 0, 0), (33, 1, 3, 1, 0, 0), (34, 1, 15, 3, 0, 0)]) rfl) ?_
    refine xg_t (xg_aload (va := (2, 0)) rfl rfl) ?_
    refine xg_t (xg_getf (va := (2, 68)) h0_1 rfl) ?_
    refine xoC68 (hI 68 (by decide) : cp68 (wget w 68)) (fun f68_19 f68_21 h68_23 hb20 hb22 => ?_)
    refine xg_cVv mX3_refreshAges (vs := []) (rest := []) (cn1 := 0) (sl1 := 0) rfl (lmRefreshAX (hI) hq hfr) rfl h68_23 rfl rfl rfl rfl rfl rfl (fun w24 hq25 => ?_)
    obtain ⟨hI26, hF27, hx28⟩ := hq25
    have gq29 := agQ.fr hq hF27 (by decide)
    have gq30 := agV.of hF27 (by decide) hx28.1
    refine xg_t (xg_const) ?_
    refine xg_t (xg_istore (l1 := [(0, (2, 0))]) rfl rfl rfl) ?_
    refine xg_t (xg_aload (va := (2, 0)) rfl rfl) ?_
    refine xg_t (xg_getf (va := (2, 68)) (hF27.get (by decide) h0_1) rfl) ?_
    refine xg_t (xg_const) ?_
    refine xoC68 (hI26 68 (by decide) : cp68 (wget w24 68)) (fun f68_31 f68_33 h68_35 hb32 hb34 => ?_)
    refine xg_cVi mX3_roundsWith (vs := [(0, 0)]) (rest := []) (cn1 := 0) (sl1 := 0) rfl (lmRoundsWith (hI26) (by omega)) rfl h68_35 rfl rfl rfl rfl rfl rfl (fun n40 w36 hq37 => ?_)
    obtain ⟨hn41, hI38, hF39⟩ := hq37
    refine xg_t (xg_istore (l1 := [(1, (0, 0)), (0, (2, 0))]) rfl rfl rfl) ?_
    refine xg_t (xg_const) ?_
    refine xg_t (xg_istore (l1 := [(2, (0, n40)), (1, (0, 0)), (0, (2, 0))]) rfl rfl rfl) ?_
    refine xg_t (xg_drop (l1 := [(0, (2, 0)), (1, (0, 0)), (2, (0, n40)), (3, (0, 1))]) (List.forall_mem_cons.mpr ⟨List.mem_cons_of_mem _ (List.mem_cons_of_mem _ (List.mem_cons_of_mem _ (List.mem_cons_self))), List.forall_mem_cons.mpr ⟨List.mem_cons_of_mem _ (List.mem_cons_of_mem _ (List.mem_cons_self)), List.forall_mem_cons.mpr ⟨List.mem_cons_of_mem _ (List.mem_cons_self), List.forall_mem_cons.mpr ⟨List.mem_cons_self, fun _ h => absurd h List.not_mem_nil⟩⟩⟩⟩)) ?_
    have ga48 := agQ.fr gq29 hF39 (by decide)
    have ga49 := agV.fr gq30 hF39 (by decide)
    have key42 : ∀ (m44 : Nat) (be br sh : Nat) (w45 : List (List xE)), 6 - sh < m44 → be ≤ 5 → br ≤ 4294967295 → sh ≤ 6 → xInv w45 → xFr [68, 69] w w45 → 1 ≤ sh → agV w45 → xTo (d + 4) mX11_shift (35, [], [(0, (2, 0)), (1, (0, be)), (2, (0, br)), (3, (0, sh))], [], (w45, bd, fc, 0, 0, rr)) (fun φ => ∃ n w', xEnd 1 [(0, n)] (w', bd, fc, 0, 0, rr) φ ∧ (n ≤ 4294967295 ∧ agV w') ∧ xInv w' ∧ xFr [68, 69] w w') := by
      intro m44
      induction m44 with
      | zero => intro be br sh w45 hz; exact absurd hz (Nat.not_lt_zero _)
      | succ m44 ih43 =>
        intro be br sh w45 hm55 hn50 hn51 hn52 hI46 hF47 he53 he54
        refine xg_t (xg_blk (b := [(35, 1, 2, 3, 0, 0), (36, 1, 3, 5, 0, 0), (37, 3, 6, 67, 4, 0), (40, 1, 0, 0, 0, 0), (41, 3, 1, 11, 6, 59), (44, 1, 2, 3, 0, 0), (45, 3, 13, 268, 24, 294), (48, 2, 15, 4, 0, 0), (50, 2, 2, 4, 0, 0), (52, 1, 2, 2, 0, 0), (53, 3, 6, 61, 5, 0), (56, 1, 2, 3, 0, 0), (57, 1, 15, 1, 0, 0), (58, 2, 2, 4, 0, 0), (60, 1, 15, 2, 0, 0)]) rfl) ?_
        refine xg_t (xg_iload (va := (0, sh)) rfl rfl) ?_
        refine xg_t (xg_const) ?_
        by_cases hc56 : 5 < sh
        · refine xg_t (xg_icT (u := sh) (v := 5) rfl xnm0 xnm0 (xj_gtT hc56 (by omega))) ?_
          refine xg_t (xg_blk (b := [(67, 1, 2, 1, 0, 0), (68, 1, 12, 0, 1, 0)]) rfl) ?_
          refine xg_t (xg_iload (va := (0, be)) rfl rfl) ?_
          exact xg_e ⟨be, w45, ⟨rfl, rfl⟩, ⟨by omega, he54⟩, hI46, hF47⟩
        · refine xg_t (xg_icF (u := sh) (v := 5) rfl xnm0 xnm0 (xj_gtF (by omega) (by omega))) ?_
          refine xg_t (xg_aload (va := (2, 0)) rfl rfl) ?_
          refine xg_t (xg_getf (va := (2, 68)) (hF47.get (by decide) h0_1) rfl) ?_
          refine xg_t (xg_iload (va := (0, sh)) rfl rfl) ?_
          refine xoC68 (hI46 68 (by decide) : cp68 (wget w45 68)) (fun f68_57 f68_59 h68_61 hb58 hb60 => ?_)
          refine xg_cVi mX3_roundsWith (vs := [(0, sh)]) (rest := []) (cn1 := 0) (sl1 := 0) rfl (lmRoundsWith (hI46) (by omega)) rfl h68_61 rfl rfl rfl rfl rfl rfl (fun n66 w62 hq63 => ?_)
          obtain ⟨hn67, hI64, hF65⟩ := hq63
          refine xg_t (xg_istore (l1 := [(0, (2, 0)), (1, (0, be)), (2, (0, br)), (3, (0, sh))]) rfl rfl rfl) ?_
          refine xg_t (xg_iload (va := (0, n66)) rfl rfl) ?_
          refine xg_t (xg_iload (va := (0, br)) rfl rfl) ?_
          by_cases hc68 : xbs br < xbs n66
          · have hc68u := hc68
            unfold xbs at hc68u
            refine xg_t (xg_icF (u := n66) (v := br) rfl xnm0 xnm0 (xjs_leF hc68)) ?_
            refine xg_t (xg_iload (va := (0, sh)) rfl rfl) ?_
            refine xg_t (xg_istore (l1 := [(4, (0, n66)), (0, (2, 0)), (2, (0, br)), (3, (0, sh))]) rfl rfl rfl) ?_
            refine xg_t (xg_iload (va := (0, n66)) rfl rfl) ?_
            refine xg_t (xg_istore (l1 := [(1, (0, sh)), (4, (0, n66)), (0, (2, 0)), (3, (0, sh))]) rfl rfl rfl) ?_
            refine xg_t (xg_blk (b := [(61, 3, 9, 3, 1, 0), (64, 3, 8, 35, 0, 0)]) rfl) ?_
            refine xg_t (xg_iinc (u := sh) (z := sh + 1) (l1 := [(2, (0, n66)), (1, (0, sh)), (4, (0, n66)), (0, (2, 0))]) rfl rfl (by omega) rfl) ?_
            refine xg_t (xg_goto) ?_
            refine xg_t (xg_drop (l1 := [(0, (2, 0)), (1, (0, sh)), (2, (0, n66)), (3, (0, sh + 1))]) (List.forall_mem_cons.mpr ⟨List.mem_cons_of_mem _ (List.mem_cons_of_mem _ (List.mem_cons_of_mem _ (List.mem_cons_of_mem _ (List.mem_cons_self)))), List.forall_mem_cons.mpr ⟨List.mem_cons_of_mem _ (List.mem_cons_of_mem _ (List.mem_cons_self)), List.forall_mem_cons.mpr ⟨List.mem_cons_of_mem _ (List.mem_cons_self), List.forall_mem_cons.mpr ⟨List.mem_cons_self, fun _ h => absurd h List.not_mem_nil⟩⟩⟩⟩)) ?_
            have ga69 := agQ.fr (agQ.fr hq hF47 (by decide)) hF65 (by decide)
            have ga70 := agV.fr he54 hF65 (by decide)
            exact ih43 sh n66 (sh + 1) w62 (by omega) (by omega) (by omega) (by omega) (hI64) ((hF47.tr (hF65.up (by decide)))) (by omega) (ga70)
          · have hc68u := hc68
            unfold xbs at hc68u
            refine xg_t (xg_icT (u := n66) (v := br) rfl xnm0 xnm0 (xjs_leT hc68)) ?_
            refine xg_t (xg_blk (b := [(61, 3, 9, 3, 1, 0), (64, 3, 8, 35, 0, 0)]) rfl) ?_
            refine xg_t (xg_iinc (u := sh) (z := sh + 1) (l1 := [(4, (0, n66)), (0, (2, 0)), (1, (0, be)), (2, (0, br))]) rfl rfl (by omega) rfl) ?_
            refine xg_t (xg_goto) ?_
            refine xg_t (xg_drop (l1 := [(0, (2, 0)), (1, (0, be)), (2, (0, br)), (3, (0, sh + 1))]) (List.forall_mem_cons.mpr ⟨List.mem_cons_of_mem _ (List.mem_cons_of_mem _ (List.mem_cons_self)), List.forall_mem_cons.mpr ⟨List.mem_cons_of_mem _ (List.mem_cons_of_mem _ (List.mem_cons_of_mem _ (List.mem_cons_self))), List.forall_mem_cons.mpr ⟨List.mem_cons_of_mem _ (List.mem_cons_of_mem _ (List.mem_cons_of_mem _ (List.mem_cons_of_mem _ (List.mem_cons_self)))), List.forall_mem_cons.mpr ⟨List.mem_cons_self, fun _ h => absurd h List.not_mem_nil⟩⟩⟩⟩)) ?_
            have ga71 := agQ.fr (agQ.fr hq hF47 (by decide)) hF65 (by decide)
            have ga72 := agV.fr he54 hF65 (by decide)
            exact ih43 be br (sh + 1) w62 (by omega) (by omega) (by omega) (by omega) (hI64) ((hF47.tr (hF65.up (by decide)))) (by omega) (ga72)
    exact key42 _ 0 n40 1 w36 (Nat.lt_succ_self _) (by omega) (by omega) (by omega) (hI38) (((hF27.up (by decide)).tr (hF39.up (by decide)))) (by omega) (ga49)
theorem scWetG {dy : Nat} (hI : xInv w) (hdy : dy ≤ 4294967295) : xPi (d + 1) mX11_wet [(2, 0), (0, dy)] w bd fc rr (fun n w' => (fld w' 68 4 = fld w 68 4 ∧ ((dy ≤ 200 ∧ n = 1 ∧ fld w' 1 9 = dy) ∨ (¬ dy ≤ 200 ∧ n = 0 ∧ fld w' 1 9 = fld w 1 9)) ∧ fld w' 1 1 = fld w 1 1 ∧ fld w' 1 2 = fld w 1 2 ∧ fld w' 1 3 = fld w 1 3 ∧ fld w' 1 6 = fld w 1 6 ∧ fld w' 1 7 = fld w 1 7) ∧ xInv w' ∧ xFr [1, 68] w w') := by
  refine xPi.of ?_
  show xTo (d + 1) mX11_wet (0, [], [(0, (2, 0)), (1, (0, dy))], [], (w, bd, fc, 0, 0, rr)) (fun φ => ∃ n w', xEnd 4 [(0, n)] (w', bd, fc, 0, 0, rr) φ ∧ (fld w' 68 4 = fld w 68 4 ∧ ((dy ≤ 200 ∧ n = 1 ∧ fld w' 1 9 = dy) ∨ (¬ dy ≤ 200 ∧ n = 0 ∧ fld w' 1 9 = fld w 1 9)) ∧ fld w' 1 1 = fld w 1 1 ∧ fld w' 1 2 = fld w 1 2 ∧ fld w' 1 3 = fld w 1 3 ∧ fld w' 1 6 = fld w 1 6 ∧ fld w' 1 7 = fld w 1 7) ∧ xInv w' ∧ xFr [1, 68] w w')
  have h0_1 := (hI 0 (by decide) : cp0 (wget w 0))
  refine xoC1 (hI 1 (by decide) : cp1 (wget w 1)) (fun f1_2 f1_4 f1_6 f1_8 f1_10 f1_12 h1_14 hb3 hb5 hb7 hb9 hb11 hb13 => ?_)
  refine xg_t (xg_blk (b := [(0, 1, 2, 1, 0, 0), (1, 1, 3, 0, 0, 0), (2, 3, 5, 200, 0, 0), (5, 3, 13, 70, 90, 238), (8, 3, 7, 13, 1, 0), (11, 1, 3, 0, 0, 0), (12, 1, 12, 0, 1, 0)]) rfl) ?_
  refine xg_t (xg_iload (va := (0, dy)) rfl rfl) ?_
  refine xg_t (xg_const) ?_
  refine xg_t (xg_sip) ?_
  refine xg_t (xg_cSr mX11_isIn (vs := [(0, dy), (0, 0), (0, 200)]) (rest := []) (rs := [(0, if 0 ≤ dy ∧ dy ≤ 200 then 1 else 0)]) (cn1 := 0) (sl1 := 0) rfl (isIn_ok (by omega) (by omega) (by omega)) rfl rfl rfl rfl rfl rfl rfl rfl) ?_
  by_cases hc15 : 0 ≤ dy ∧ dy ≤ 200
  · refine xg_t (xg_ifT (u := (if 0 ≤ dy ∧ dy ≤ 200 then 1 else 0)) rfl xnm0 (xj_neT (xite1 hc15))) ?_
    refine xg_t (xg_blk (b := [(13, 1, 0, 0, 0, 0), (14, 3, 1, 11, 0, 10), (17, 1, 2, 1, 0, 0), (18, 3, 14, 9, 9, 273), (21, 1, 0, 0, 0, 0), (22, 3, 1, 11, 6, 59), (25, 3, 13, 260, 24, 276), (28, 1, 3, 1, 0, 0), (29, 1, 12, 0, 1, 0)]) rfl) ?_
    refine xg_t (xg_aload (va := (2, 0)) rfl rfl) ?_
    refine xg_t (xg_getf (va := (2, 1)) h0_1 rfl) ?_
    refine xg_t (xg_iload (va := (0, dy)) rfl rfl) ?_
    refine xg_putI (fl1 := [(2, 2), (0, f1_2), (0, f1_4), (0, f1_6), (2, 3), (2, 14), (0, f1_8), (0, f1_10), (2, 16), (0, dy), (2, 18), (2, 20), (2, 22), (2, 24)]) h1_14 rfl rfl rfl (fun w16 hk17 hb18 => ?_)
    refine xg_t (xg_aload (va := (2, 0)) rfl rfl) ?_
    refine xg_t (xg_getf (va := (2, 68)) (hb18.get (by decide) h0_1) rfl) ?_
    refine xoC68 (hI 68 (by decide) : cp68 (wget w 68)) (fun f68_19 f68_21 h68_23 hb20 hb22 => ?_)
    refine xg_cVv mX3_forgetDamp (vs := []) (rest := []) (cn1 := 0) (sl1 := 0) rfl (lmForgetDE (xInv.up (S := [1]) hI (xFr.of (S := [1]) hb18 (by decide)) (List.forall_mem_cons.mpr ⟨(show cp1 (wget w16 1) from ⟨f1_2, f1_4, f1_6, f1_8, f1_10, dy, hk17, by omega, by omega, by omega, by omega, by omega, by omega⟩), fun _ h => absurd h List.not_mem_nil⟩))) rfl (hb18.get (by decide) h68_23) rfl rfl rfl rfl rfl rfl (fun w24 hq25 => ?_)
    obtain ⟨hI26, hF27, hx28⟩ := hq25
    refine xg_t (xg_const) ?_
    have hq29 : fld w 1 1 = f1_2 := fld_of h1_14
    have hq30 : fld w24 1 1 = f1_2 := fld_of (hF27.get (by decide) hk17)
    have hq31 : fld w 1 2 = f1_4 := fld_of h1_14
    have hq32 : fld w24 1 2 = f1_4 := fld_of (hF27.get (by decide) hk17)
    have hq33 : fld w 1 3 = f1_6 := fld_of h1_14
    have hq34 : fld w24 1 3 = f1_6 := fld_of (hF27.get (by decide) hk17)
    have hq35 : fld w 1 6 = f1_8 := fld_of h1_14
    have hq36 : fld w24 1 6 = f1_8 := fld_of (hF27.get (by decide) hk17)
    have hq37 : fld w 1 7 = f1_10 := fld_of h1_14
    have hq38 : fld w24 1 7 = f1_10 := fld_of (hF27.get (by decide) hk17)
    have hq39 : fld w 1 9 = f1_12 := fld_of h1_14
    have hq40 : fld w24 1 9 = dy := fld_of (hF27.get (by decide) hk17)
    exact xg_e ⟨1, w24, ⟨rfl, rfl⟩, ⟨(hx28.2.trans (fld_but hb18 (by decide))), by omega, by omega, by omega, by omega, by omega, by omega⟩, hI26, ((xFr.of (S := [1, 68]) hb18 (by decide)).tr (hF27.up (by decide)))⟩
  · refine xg_t (xg_ifF (u := (if 0 ≤ dy ∧ dy ≤ 200 then 1 else 0)) rfl xnm0 (xj_neF (xite0 hc15))) ?_
    refine xg_t (xg_const) ?_
    have hq41 : fld w 1 1 = f1_2 := fld_of h1_14
    have hq42 : fld w 1 2 = f1_4 := fld_of h1_14
    have hq43 : fld w 1 3 = f1_6 := fld_of h1_14
    have hq44 : fld w 1 6 = f1_8 := fld_of h1_14
    have hq45 : fld w 1 7 = f1_10 := fld_of h1_14
    have hq46 : fld w 1 9 = f1_12 := fld_of h1_14
    exact xg_e ⟨0, w, ⟨rfl, rfl⟩, ⟨rfl, by omega, by omega, by omega, by omega, by omega, by omega⟩, hI, xFr.rf⟩
theorem bsFilmG {B : Nat → Nat} {nn : Nat} (hI : xInv w) (hB : bsr w B nn) (hnn : fld w 1 1 = nn) : xPi (d + 8) mX11_film [(2, 0)] w bd fc rr (fun n w' => ((FRes B nn n (fld w' 1 2) (fld w' 1 3) ∧ fld w' 1 1 = 0 ∧ fld w' 1 6 = fld w 1 6 ∧ fld w' 1 7 = fld w 1 7 ∧ fld w' 1 9 = fld w 1 9 ∧ (n = 4294967295 → ∀ c, 3 ≤ c → c < 26 → wget w' c = wget w c) ∧ (n ≠ 4294967295 → FLM B nn w' n ∧ fld w' 14 3 = 0 ∧ fld w' 16 3 = 0 ∧ ∀ c, 18 ≤ c → c < 26 → wget w' c = wget w c)) ∧ (n ≠ 4294967295 → fld w' 68 4 = 0) ∧ (n = 4294967295 → wget w' 68 = wget w 68 ∧ wget w' 69 = wget w 69)) ∧ xInv w' ∧ xFr [1, 3, 4, 5, 6, 7, 8, 9, 10, 11, 12, 13, 14, 15, 16, 17, 27, 28, 29, 30, 31, 32, 33, 34, 35, 36, 37, 38, 39, 40, 41, 42, 49, 58, 68, 72] w w') := by
  refine xPi.of ?_
  show xTo (d + 8) mX11_film (0, [], [(0, (2, 0))], [], (w, bd, fc, 0, 0, rr)) (fun φ => ∃ n w', xEnd 1 [(0, n)] (w', bd, fc, 0, 0, rr) φ ∧ ((FRes B nn n (fld w' 1 2) (fld w' 1 3) ∧ fld w' 1 1 = 0 ∧ fld w' 1 6 = fld w 1 6 ∧ fld w' 1 7 = fld w 1 7 ∧ fld w' 1 9 = fld w 1 9 ∧ (n = 4294967295 → ∀ c, 3 ≤ c → c < 26 → wget w' c = wget w c) ∧ (n ≠ 4294967295 → FLM B nn w' n ∧ fld w' 14 3 = 0 ∧ fld w' 16 3 = 0 ∧ ∀ c, 18 ≤ c → c < 26 → wget w' c = wget w c)) ∧ (n ≠ 4294967295 → fld w' 68 4 = 0) ∧ (n = 4294967295 → wget w' 68 = wget w 68 ∧ wget w' 69 = wget w 69)) ∧ xInv w' ∧ xFr [1, 3, 4, 5, 6, 7, 8, 9, 10, 11, 12, 13, 14, 15, 16, 17, 27, 28, 29, 30, 31, 32, 33, 34, 35, 36, 37, 38, 39, 40, 41, 42, 49, 58, 68, 72] w w')
  have h0_1 := (hI 0 (by decide) : cp0 (wget w 0))
  refine xg_t (xg_blk (b := [(0, 1, 0, 0, 0, 0), (1, 3, 1, 11, 2, 25), (4, 3, 13, 250, 16, 99), (7, 1, 15, 1, 0, 0), (8, 1, 2, 1, 0, 0), (9, 1, 3, 4294967295, 0, 0), (10, 3, 6, 17, 0, 0), (13, 1, 0, 0, 0, 0), (14, 3, 13, 61, 88, 103)]) rfl) ?_
  refine xg_t (xg_aload (va := (2, 0)) rfl rfl) ?_
  refine xg_t (xg_getf (va := (2, 27)) h0_1 rfl) ?_
  refine xoC27 (hI 27 (by decide) : cp27 (wget w 27)) (fun f27_2 f27_4 f27_6 f27_8 f27_10 h27_12 hb3 hb5 hb7 hb9 hb11 => ?_)
  refine xg_cVi mX2_readFilm (vs := []) (rest := []) (cn1 := 0) (sl1 := 0) rfl (ftReadF (hI) hB hnn) rfl h27_12 rfl rfl rfl rfl rfl rfl (fun n17 w13 hq14 => ?_)
  obtain ⟨hn18, hI15, hF16⟩ := hq14
  refine xg_t (xg_istore (l1 := [(0, (2, 0))]) rfl rfl rfl) ?_
  refine xg_t (xg_iload (va := (0, n17)) rfl rfl) ?_
  refine xg_t (xg_const) ?_
  by_cases hc19 : n17 = 4294967295
  · refine xg_t (xg_icT (u := n17) (v := 4294967295) rfl xnm0 xnm0 (xj_eqT hc19)) ?_
    refine xg_t (xg_blk (b := [(17, 1, 2, 1, 0, 0), (18, 1, 12, 0, 1, 0)]) rfl) ?_
    refine xg_t (xg_iload (va := (0, n17)) rfl rfl) ?_
    exact xg_e ⟨n17, w13, ⟨rfl, rfl⟩, ⟨hn18, fun z => absurd z (by omega), fun _ => ⟨hF16.1 68 (by decide), hF16.1 69 (by decide)⟩⟩, hI15, (hF16.up (by decide))⟩
  · refine xg_t (xg_icF (u := n17) (v := 4294967295) rfl xnm0 xnm0 (xj_eqF hc19)) ?_
    refine xg_t (xg_aload (va := (2, 0)) rfl rfl) ?_
    refine xg_cVv mX11_forgetFilm (vs := []) (rest := []) (cn1 := 0) (sl1 := 0) rfl (scForgetFilmE (hI15)) rfl (hF16.get (by decide) h0_1) rfl rfl rfl rfl rfl rfl (fun w20 hq21 => ?_)
    obtain ⟨hI22, hF23, hx24⟩ := hq21
    refine xg_t (xg_blk (b := [(17, 1, 2, 1, 0, 0), (18, 1, 12, 0, 1, 0)]) rfl) ?_
    refine xg_t (xg_iload (va := (0, n17)) rfl rfl) ?_
    obtain ⟨ha25, ha26, ha27, ha28, ha29, ha30, ha31⟩ := hn18
    have hk32 : ∀ c, c < 27 → wget w20 c = wget w13 c := fun c hc => hF23.1 c (fun z => by have q : ∀ x ∈ [49, 58, 68, 72], 27 ≤ x := (by decide); exact absurd (q c z) (by omega))
    exact xg_e ⟨n17, w20, ⟨rfl, rfl⟩, ⟨⟨by rw [(fld_eq (j := 2) (hk32 1 (by decide))), (fld_eq (j := 3) (hk32 1 (by decide)))]; exact ha25, (fld_eq (j := 1) (hk32 1 (by decide))).trans ha26, (fld_eq (j := 6) (hk32 1 (by decide))).trans ha27, (fld_eq (j := 7) (hk32 1 (by decide))).trans ha28, (fld_eq (j := 9) (hk32 1 (by decide))).trans ha29, fun y c h3 h26 => (hk32 c (by omega)).trans (ha30 y c h3 h26), fun y => (ha31 y).elim (fun b1 b2 => ⟨b1.kp hk32, (fld_eq (j := 3) (hk32 14 (by decide))).trans b2.1, (fld_eq (j := 3) (hk32 16 (by decide))).trans b2.2.1, fun c h18 h26 => (hk32 c (by omega)).trans (b2.2.2 c h18 h26)⟩)⟩, fun _ => hx24.2.2.1.1, fun z => absurd z (by omega)⟩, hI22, ((hF16.up (by decide)).tr (hF23.up (by decide)))⟩
end XAH
end
section
/-! what numbers of pictures can be; ages, alike -/
def vP (R : Nat → Nat) : Prop := R 10 ≤ 12 ∧ ∀ p, p < R 10 → (∀ t, t < 4 → R (300 + 6 * p + t) ≤ 5) ∧ R (304 + 6 * p) ≤ 9 ∧ R (305 + 6 * p) ≤ 999
theorem vP.cg {R R' : Nat → Nat} (h : vP R) (e : ∀ j, (j = 10 ∨ (300 ≤ j ∧ j < 372)) → R' j = R j) : vP R' := by
  obtain ⟨a, b⟩ := h
  have e0 := e 10 (Or.inl rfl)
  refine ⟨by omega, fun p hp => ?_⟩
  obtain ⟨c, d⟩ := b p (by omega)
  refine ⟨fun t ht => ?_, ?_⟩
  · rw [e (300 + 6 * p + t) (by omega)]
    exact c t ht
  · rw [e (304 + 6 * p) (by omega), e (305 + 6 * p) (by omega)]
    exact d
theorem vP.e0 {R : Nat → Nat} (h : R 10 = 0) : vP R := ⟨by omega, fun p hp => absurd hp (by omega)⟩
theorem vP.pic {w1 w2 : List (List xE)} {n2 pa pb pc_ pd li ho : Nat} (h : vP (rwv w1 83)) (hm : rwv w1 83 5 ≤ 6 ∧ rwv w1 83 6 ≤ 6) (hG : ((n2 = rwv w1 83 10 + 1 ∧ rwv w1 83 10 < 12 ∧ ((pa ≤ pb ∧ pb < rwv w1 83 5) ∧ (pc_ ≤ pd ∧ pd < rwv w1 83 6) ∧ (1 ≤ li ∧ li ≤ 9) ∧ (1 ≤ ho ∧ ho ≤ 999)) ∧ rwv w2 83 10 = rwv w1 83 10 + 1) ∨ (n2 = 4294967295 ∧ ¬ (rwv w1 83 10 < 12 ∧ ((pa ≤ pb ∧ pb < rwv w1 83 5) ∧ (pc_ ≤ pd ∧ pd < rwv w1 83 6) ∧ (1 ≤ li ∧ li ≤ 9) ∧ (1 ≤ ho ∧ ho ≤ 999))) ∧ rwv w2 83 10 = rwv w1 83 10)) ∧ (n2 ≠ 4294967295 → rwv w2 83 (300 + 6 * rwv w1 83 10) = pa ∧ rwv w2 83 (300 + 6 * rwv w1 83 10 + 1) = pb ∧ rwv w2 83 (300 + 6 * rwv w1 83 10 + 2) = pc_ ∧ rwv w2 83 (300 + 6 * rwv w1 83 10 + 3) = pd ∧ rwv w2 83 (300 + 6 * rwv w1 83 10 + 4) = li ∧ rwv w2 83 (300 + 6 * rwv w1 83 10 + 5) = ho) ∧ (∀ j, (j ≠ 10 ∧ (j < 300 + 6 * rwv w1 83 10 ∨ 306 + 6 * rwv w1 83 10 ≤ j)) → j < 5360 → rwv w2 83 j = rwv w1 83 j)) : vP (rwv w2 83) := by
  obtain ⟨g1, g2, g3⟩ := hG
  obtain ⟨a, b⟩ := h
  rcases g1 with ⟨z1, z2, z3, z4⟩ | ⟨z1, -, z3⟩
  · obtain ⟨v0, v1, v2, v3, v4, v5⟩ := g2 (by omega)
    refine ⟨by omega, fun p hp => ?_⟩
    by_cases e : p = rwv w1 83 10
    · subst e
      refine ⟨fun t ht => ?_, ?_⟩
      · rcases (show t = 0 ∨ t = 1 ∨ t = 2 ∨ t = 3 by omega) with rfl | rfl | rfl | rfl
        · rw [Nat.add_zero, v0]
          omega
        · rw [v1]
          omega
        · rw [v2]
          omega
        · rw [v3]
          omega
      · rw [show 304 + 6 * rwv w1 83 10 = 300 + 6 * rwv w1 83 10 + 4 by omega, v4, show 305 + 6 * rwv w1 83 10 = 300 + 6 * rwv w1 83 10 + 5 by omega, v5]
        omega
    · have q := b p (by omega)
      refine ⟨fun t ht => ?_, ?_⟩
      · rw [g3 (300 + 6 * p + t) (by omega) (by omega)]
        exact q.1 t ht
      · rw [g3 (304 + 6 * p) (by omega) (by omega), g3 (305 + 6 * p) (by omega) (by omega)]
        exact q.2
  · refine ⟨by omega, fun p hp => ?_⟩
    have q := b p (by omega)
    refine ⟨fun t ht => ?_, ?_⟩
    · rw [g3 (300 + 6 * p + t) (by omega) (by omega)]
      exact q.1 t ht
    · rw [g3 (304 + 6 * p) (by omega) (by omega), g3 (305 + 6 * p) (by omega) (by omega)]
      exact q.2
def a8 (w : List (List xE)) (b k : Nat) : Prop := a6 w b k ∧ vP (fun j => rwv w 83 (1340 * k + j))
theorem a8.cp {w w' : List (List xE)} {D S k k' : Nat} (h : a8 w S k) (e : tdE w' D w S) (r : ∀ j, j < 1340 → rwv w' 83 (1340 * k' + j) = rwv w 83 (1340 * k + j)) : a8 w' D k' := ⟨h.1.cp e r, h.2.cg (fun j hj => r j (by omega))⟩
theorem a8.kp {w w' : List (List xE)} {b k : Nat} (h : a8 w b k) (hc : ∀ o, o < 25 → wget w' (b + o) = wget w (b + o)) (hr : ∀ j, 1340 * k ≤ j → j < 1340 * k + 1340 → rwv w' 83 j = rwv w 83 j) : a8 w' b k := h.cp (tdE.rf.tr0 hc (fun _ _ => rfl)) (fun j hj => hr _ (by omega) (by omega))
theorem a8.gP {w : List (List xE)} (h : a8 w 1 0) : vP (rwv w 83) := by
  have q := h.2
  rw [blk0] at q
  exact q
theorem a8.mk {w : List (List xE)} (h : a6 w 1 0) (hP : vP (rwv w 83)) : a8 w 1 0 := by
  refine ⟨h, ?_⟩
  rw [blk0]
  exact hP
theorem a8.s37 {w : List (List xE)} (h : a8 w 1 0) : fld w 3 7 = rwv w 83 5 := h.1.1.2.2.1.1.2.2.1
theorem a8.s38 {w : List (List xE)} (h : a8 w 1 0) : fld w 3 8 = rwv w 83 6 := h.1.1.2.2.1.1.2.2.2.1
theorem a8.pic {w : List (List xE)} (h : a8 w 1 0) : fld w 16 3 = rwv w 83 10 ∧ ∀ i, i < fld w 16 3 → (∀ t, t < 4 → rwv w 17 (5 * i + t) = rwv w 83 (300 + 6 * i + t)) ∧ rwv w 17 (5 * i + 4) = rwv w 83 (304 + 6 * i) * rwv w 83 (305 + 6 * i) := by
  obtain ⟨h1, -, h3⟩ := h.1.1.2.2.2.1
  refine ⟨by rw [Nat.mul_zero, Nat.zero_add] at h1; exact h1, fun i hi => ?_⟩
  obtain ⟨q1, q2⟩ := h3 i hi
  refine ⟨fun t ht => ?_, ?_⟩
  · have q := q1 t ht
    rw [Nat.mul_zero, Nat.zero_add] at q
    exact q
  · rw [Nat.mul_zero, Nat.zero_add, Nat.zero_add] at q2
    exact q2
theorem a8.hq {w : List (List xE)} (h : a8 w 1 0) : agQ w := by
  intro p hp
  obtain ⟨e, q⟩ := h.pic
  obtain ⟨q1, q2⟩ := q p hp
  obtain ⟨b1, b2, b3⟩ := h.gP.2 p (by omega)
  refine ⟨fun t ht => by rw [q1 t ht]; exact b1 t ht, ?_⟩
  rw [q2]
  exact Nat.mul_le_mul b2 b3
theorem a8.ag {w : List (List xE)} (h : a8 w 1 0) : ag (agP (rwv w 83)) (rwv w 83 10) = ag (rwv w 17) (fld w 16 3) := by
  obtain ⟨e, q⟩ := h.pic
  funext k
  rw [← e]
  refine ag_cg (fun p hp => ?_)
  obtain ⟨q1, q2⟩ := q p hp
  refine ⟨fun t ht => ?_, ?_⟩
  · rw [q1 t ht]
    show (if (5 * p + t) % 5 = 4 then _ else _) = _
    rw [if_neg (by omega), show (5 * p + t) / 5 = p by omega, show (5 * p + t) % 5 = t by omega]
  · rw [q2]
    exact agm_4
theorem agV.film {w w1 : List (List xE)} {n : Nat} (h : agV w) (h1 : n ≠ 4294967295 → fld w1 68 4 = 0) (h2 : n = 4294967295 → wget w1 68 = wget w 68 ∧ wget w1 69 = wget w 69) (h3 : n = 4294967295 → ∀ c, 3 ≤ c → c < 26 → wget w1 c = wget w c) : agV w1 := by
  by_cases e : n = 4294967295
  · obtain ⟨a, b⟩ := h2 e
    exact h.k (h3 e 16 (by decide) (by decide)) (h3 e 17 (by decide) (by decide)) b (fld_eq a)
  · exact agV.of0 (h1 e)
end
