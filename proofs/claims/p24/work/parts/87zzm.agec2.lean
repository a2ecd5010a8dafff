/-! the class: what is left of lamps -/
section XAL
variable {d : Nat} {w : List (List xE)} {bd : List (Nat × Nat)} {fc : List (Nat × Nat × Bool)} {rr : Nat × Nat}
theorem scHasPointX {ro co : Nat} (hI : xInv w) (hro : ro ≤ 4294967295) (hco : co ≤ 4294967295) : xPi (d + 1) mX11_hasPoint [(2, 0), (0, ro), (0, co)] w bd fc rr (fun n w' => ((n = 1 ∧ ro < fld w 3 7 ∧ co < fld w 3 8) ∨ (n = 0 ∧ ¬ (ro < fld w 3 7 ∧ co < fld w 3 8))) ∧ xInv w' ∧ xFr [] w w') := by
  refine xPi.of ?_
  show xTo (d + 1) mX11_hasPoint (0, [], [(0, (2, 0)), (1, (0, ro)), (2, (0, co))], [], (w, bd, fc, 0, 0, rr)) (fun φ => ∃ n w', xEnd 4 [(0, n)] (w', bd, fc, 0, 0, rr) φ ∧ ((n = 1 ∧ ro < fld w 3 7 ∧ co < fld w 3 8) ∨ (n = 0 ∧ ¬ (ro < fld w 3 7 ∧ co < fld w 3 8))) ∧ xInv w' ∧ xFr [] w w')
  have h0_1 := (hI 0 (by decide) : cp0 (wget w 0))
  obtain ⟨f1_2, f1_4, f1_6, f1_8, f1_10, f1_12, h1_14, hb3, hb5, hb7, hb9, hb11, hb13⟩ := (hI 1 (by decide) : cp1 (wget w 1))
  obtain ⟨f3_15, f3_17, f3_19, f3_21, f3_23, h3_25, hb16, hb18, hb20, hb22, hb24⟩ := (hI 3 (by decide) : cp3 (wget w 3))
  have q37 : fld w 3 7 = f3_19 := fld_of h3_25
  have q38 : fld w 3 8 = f3_21 := fld_of h3_25
  refine xg_t (xg_blk (b := [(0, 1, 2, 1, 0, 0), (1, 3, 7, 40, 2, 0), (4, 1, 2, 1, 0, 0), (5, 1, 0, 0, 0, 0), (6, 3, 1, 11, 0, 10), (9, 3, 1, 9, 4, 38), (12, 3, 1, 1, 7, 225), (15, 3, 6, 40, 3, 0), (18, 1, 2, 2, 0, 0), (19, 3, 7, 40, 2, 0), (22, 1, 2, 2, 0, 0), (23, 1, 0, 0, 0, 0), (24, 3, 1, 11, 0, 10), (27, 3, 1, 9, 4, 38), (30, 3, 1, 1, 8, 255), (33, 3, 6, 40, 3, 0), (36, 1, 3, 1, 0, 0), (37, 3, 8, 41, 0, 0)]) rfl) ?_
  refine xg_t (xg_iload (va := (0, ro)) rfl rfl) ?_
  by_cases hc26 : ro < 2147483648
  · refine xg_t (xg_ifF (u := ro) rfl xnm0 (xjz_ltF hc26)) ?_
    refine xg_t (xg_iload (va := (0, ro)) rfl rfl) ?_
    refine xg_t (xg_aload (va := (2, 0)) rfl rfl) ?_
    refine xg_t (xg_getf (va := (2, 1)) h0_1 rfl) ?_
    refine xg_t (xg_getf (va := (2, 3)) h1_14 rfl) ?_
    refine xg_t (xg_getf (va := (0, f3_19)) h3_25 rfl) ?_
    by_cases hc27 : ro < f3_19
    · refine xg_t (xg_icF (u := ro) (v := f3_19) rfl xnm0 xnm0 (xj_geF hc27 (by omega))) ?_
      refine xg_t (xg_iload (va := (0, co)) rfl rfl) ?_
      by_cases hc28 : co < 2147483648
      · refine xg_t (xg_ifF (u := co) rfl xnm0 (xjz_ltF hc28)) ?_
        refine xg_t (xg_iload (va := (0, co)) rfl rfl) ?_
        refine xg_t (xg_aload (va := (2, 0)) rfl rfl) ?_
        refine xg_t (xg_getf (va := (2, 1)) h0_1 rfl) ?_
        refine xg_t (xg_getf (va := (2, 3)) h1_14 rfl) ?_
        refine xg_t (xg_getf (va := (0, f3_21)) h3_25 rfl) ?_
        by_cases hc29 : co < f3_21
        · refine xg_t (xg_icF (u := co) (v := f3_21) rfl xnm0 xnm0 (xj_geF hc29 (by omega))) ?_
          refine xg_t (xg_const) ?_
          refine xg_t (xg_goto) ?_
          refine xg_t (xg_blk (b := [(41, 1, 12, 0, 1, 0)]) rfl) ?_
          exact xg_e ⟨1, w, ⟨rfl, rfl⟩, by omega, hI, xFr.rf⟩
        · refine xg_t (xg_icT (u := co) (v := f3_21) rfl xnm0 xnm0 (xj_geT (by omega) (by omega))) ?_
          refine xg_t (xg_blk (b := [(40, 1, 3, 0, 0, 0)]) rfl) ?_
          refine xg_t (xg_const) ?_
          refine xg_t (xg_blk (b := [(41, 1, 12, 0, 1, 0)]) rfl) ?_
          exact xg_e ⟨0, w, ⟨rfl, rfl⟩, by omega, hI, xFr.rf⟩
      · refine xg_t (xg_ifT (u := co) rfl xnm0 (xjz_ltT (by omega) (by omega))) ?_
        refine xg_t (xg_blk (b := [(40, 1, 3, 0, 0, 0)]) rfl) ?_
        refine xg_t (xg_const) ?_
        refine xg_t (xg_blk (b := [(41, 1, 12, 0, 1, 0)]) rfl) ?_
        exact xg_e ⟨0, w, ⟨rfl, rfl⟩, by omega, hI, xFr.rf⟩
    · refine xg_t (xg_icT (u := ro) (v := f3_19) rfl xnm0 xnm0 (xj_geT (by omega) (by omega))) ?_
      refine xg_t (xg_blk (b := [(40, 1, 3, 0, 0, 0)]) rfl) ?_
      refine xg_t (xg_const) ?_
      refine xg_t (xg_blk (b := [(41, 1, 12, 0, 1, 0)]) rfl) ?_
      exact xg_e ⟨0, w, ⟨rfl, rfl⟩, by omega, hI, xFr.rf⟩
  · refine xg_t (xg_ifT (u := ro) rfl xnm0 (xjz_ltT (by omega) (by omega))) ?_
    refine xg_t (xg_blk (b := [(40, 1, 3, 0, 0, 0)]) rfl) ?_
    refine xg_t (xg_const) ?_
    refine xg_t (xg_blk (b := [(41, 1, 12, 0, 1, 0)]) rfl) ?_
    exact xg_e ⟨0, w, ⟨rfl, rfl⟩, by omega, hI, xFr.rf⟩
theorem lmLeftX {pt : Nat} (hI : xInv w) (hp1 : pt ≤ 35) (hAl : rwv w 69 pt ≤ 107892) : xPi (d + 1) mX3_leftOf [(2, 68), (0, pt)] w bd fc rr (fun n w' => (n = 1000 - rwv w 69 pt / 10 ∧ n ≤ 1000) ∧ xInv w' ∧ xFr [] w w') := by
  refine xPi.of ?_
  show xTo (d + 1) mX3_leftOf (0, [], [(0, (2, 68)), (1, (0, pt))], [], (w, bd, fc, 0, 0, rr)) (fun φ => ∃ n w', xEnd 1 [(0, n)] (w', bd, fc, 0, 0, rr) φ ∧ (n = 1000 - rwv w 69 pt / 10 ∧ n ≤ 1000) ∧ xInv w' ∧ xFr [] w w')
  obtain ⟨f68_1, f68_3, h68_5, hb2, hb4⟩ := (hI 68 (by decide) : cp68 (wget w 68))
  obtain ⟨g69_6, h69_7, hb8⟩ := (hI 69 (by decide) : cpI 36 40 4294967295 (wget w 69))
  have h69_7 : xRow w 69 36 40 g69_6 := h69_7
  refine xg_t (xg_blk (b := [(0, 1, 3, 0, 0, 0), (1, 3, 5, 1000, 0, 0), (4, 1, 0, 0, 0, 0), (5, 3, 1, 3, 1, 9), (8, 1, 2, 1, 0, 0), (9, 1, 10, 0, 0, 0), (10, 2, 4, 10, 0, 0), (12, 1, 20, 0, 0, 0), (13, 1, 18, 0, 0, 0), (14, 3, 62, 0, 0, 63), (17, 1, 12, 0, 1, 0)]) rfl) ?_
  refine xg_t (xg_const) ?_
  refine xg_t (xg_sip) ?_
  refine xg_t (xg_aload (va := (2, 68)) rfl rfl) ?_
  refine xg_t (xg_getf (va := (2, 69)) h68_5 rfl) ?_
  refine xg_t (xg_iload (va := (0, pt)) rfl rfl) ?_
  refine xg_ialdB (n := pt) (B := 4294967295) h69_7 (hb8) xnm0 (by omega) (fun u9 hu10 he11 => ?_)
  have hu12 : rwv w 69 pt = u9 := (rwv_of h69_7 (by omega)).trans he11
  have hl13 : u9 ≤ 107892 := by have q := hAl; omega
  refine xg_t (xg_bip) ?_
  refine xg_t (xg_idiv (u := u9) (v := 10) (z := u9 / 10) xnm0 xnm0 (by omega) (by decide) (by decide) (rfl)) ?_
  by_cases hc14 : (u9 / 10) ≤ 1000
  · refine xg_t (xg_isub (u := 1000) (v := u9 / 10) (z := 1000 - (u9 / 10)) xnm0 xnm0 (by omega)) ?_
    refine xg_maxK (u := 0) (v := 1000 - (u9 / 10)) xnm0 xnm0 xmx_ok (by omega) (by omega) (fun z15 hz16 hz17 hz18 hz19 => ?_)
    unfold xbs at hz17 hz18
    exact xg_e ⟨z15, w, ⟨rfl, rfl⟩, by omega, hI, xFr.rf⟩
  · have hz22 : 4294957507 ≤ (1000 + (4294967296 - (u9 / 10))) % 4294967296 := by omega
    refine xg_t (xg_isub (u := 1000) (v := u9 / 10) (z := (1000 + (4294967296 - (u9 / 10))) % 4294967296) xnm0 xnm0 rfl) ?_
    have hz21 : (1000 + (4294967296 - (u9 / 10))) % 4294967296 < 4294967296 := Nat.mod_lt _ (by decide)
    generalize (1000 + (4294967296 - (u9 / 10))) % 4294967296 = z20 at hz22 hz21 ⊢
    refine xg_maxK (u := 0) (v := z20) xnm0 xnm0 xmx_ok (by omega) (by omega) (fun z23 hz24 hz25 hz26 hz27 => ?_)
    unfold xbs at hz25 hz26
    exact xg_e ⟨z23, w, ⟨rfl, rfl⟩, by omega, hI, xFr.rf⟩
theorem lmSpreadX (hI : xInv w) (hAl : ∀ k, k < 36 → rwv w 69 k ≤ 107892) : xPi (d + 2) mX3_leftSpread [(2, 68)] w bd fc rr (fun n w' => (n = (uhi (rwv w 69) (fld w 3 7) (fld w 3 8) 36 + (4294967296 - ulo (rwv w 69) (fld w 3 7) (fld w 3 8) 36)) % 4294967296) ∧ xInv w' ∧ xFr [] w w') := by
  refine xPi.of ?_
  show xTo (d + 2) mX3_leftSpread (0, [], [(0, (2, 68))], [], (w, bd, fc, 0, 0, rr)) (fun φ => ∃ n w', xEnd 1 [(0, n)] (w', bd, fc, 0, 0, rr) φ ∧ (n = (uhi (rwv w 69) (fld w 3 7) (fld w 3 8) 36 + (4294967296 - ulo (rwv w 69) (fld w 3 7) (fld w 3 8) 36)) % 4294967296) ∧ xInv w' ∧ xFr [] w w')
  obtain ⟨f68_1, f68_3, h68_5, hb2, hb4⟩ := (hI 68 (by decide) : cp68 (wget w 68))
  obtain ⟨f1_6, f1_8, f1_10, f1_12, f1_14, f1_16, h1_18, hb7, hb9, hb11, hb13, hb15, hb17⟩ := (hI 1 (by decide) : cp1 (wget w 1))
  obtain ⟨f3_19, f3_21, f3_23, f3_25, f3_27, h3_29, hb20, hb22, hb24, hb26, hb28⟩ := (hI 3 (by decide) : cp3 (wget w 3))
  have q37 : fld w 3 7 = f3_23 := fld_of h3_29
  have q38 : fld w 3 8 = f3_25 := fld_of h3_29
  refine xg_t (xg_blk (b := [(0, 3, 5, 1000, 0, 0), (3, 1, 15, 1, 0, 0), (4, 1, 3, 0, 0, 0), (5, 1, 15, 2, 0, 0), (6, 1, 3, 0, 0, 0), (7, 1, 15, 3, 0, 0)]) rfl) ?_
  refine xg_t (xg_sip) ?_
  refine xg_t (xg_istore (l1 := [(0, (2, 68))]) rfl rfl rfl) ?_
  refine xg_t (xg_const) ?_
  refine xg_t (xg_istore (l1 := [(1, (0, 1000)), (0, (2, 68))]) rfl rfl rfl) ?_
  refine xg_t (xg_const) ?_
  refine xg_t (xg_istore (l1 := [(2, (0, 0)), (1, (0, 1000)), (0, (2, 68))]) rfl rfl rfl) ?_
  refine xg_t (xg_drop (l1 := [(0, (2, 68)), (1, (0, 1000)), (2, (0, 0)), (3, (0, 0))]) (List.forall_mem_cons.mpr ⟨List.mem_cons_of_mem _ (List.mem_cons_of_mem _ (List.mem_cons_of_mem _ (List.mem_cons_self))), List.forall_mem_cons.mpr ⟨List.mem_cons_of_mem _ (List.mem_cons_of_mem _ (List.mem_cons_self)), List.forall_mem_cons.mpr ⟨List.mem_cons_of_mem _ (List.mem_cons_self), List.forall_mem_cons.mpr ⟨List.mem_cons_self, fun _ h => absurd h List.not_mem_nil⟩⟩⟩⟩)) ?_
  have key30 : ∀ (m32 : Nat) (le gr ro : Nat) (w33 : List (List xE)), 6 - ro < m32 → le ≤ 1000 → gr ≤ 1000 → ro ≤ 6 → xInv w33 → xFr [] w w33 → (le = ulo (rwv w 69) (fld w 3 7) (fld w 3 8) (6 * ro) ∧ gr = uhi (rwv w 69) (fld w 3 7) (fld w 3 8) (6 * ro)) ∧ ro ≤ fld w 3 7 → xTo (d + 2) mX3_leftSpread (8, [], [(0, (2, 68)), (1, (0, le)), (2, (0, gr)), (3, (0, ro))], [], (w33, bd, fc, 0, 0, rr)) (fun φ => ∃ n w', xEnd 1 [(0, n)] (w', bd, fc, 0, 0, rr) φ ∧ (n = (uhi (rwv w 69) (fld w 3 7) (fld w 3 8) 36 + (4294967296 - ulo (rwv w 69) (fld w 3 7) (fld w 3 8) 36)) % 4294967296) ∧ xInv w' ∧ xFr [] w w') := by
    intro m32
    induction m32 with
    | zero => intro le gr ro w33 hz; exact absurd hz (Nat.not_lt_zero _)
    | succ m32 ih31 =>
      intro le gr ro w33 hm40 hn36 hn37 hn38 hI34 hF35 he39
      obtain ⟨⟨hle, hgr⟩, hrn⟩ := he39
      refine xg_t (xg_blk (b := [(8, 1, 2, 3, 0, 0), (9, 1, 0, 0, 0, 0), (10, 3, 1, 3, 0, 21), (13, 3, 1, 9, 4, 66), (16, 3, 1, 1, 7, 70), (19, 3, 6, 79, 3, 0), (22, 1, 3, 0, 0, 0), (23, 2, 15, 4, 0, 0)]) rfl) ?_
      refine xg_t (xg_iload (va := (0, ro)) rfl rfl) ?_
      refine xg_t (xg_aload (va := (2, 68)) rfl rfl) ?_
      refine xg_t (xg_getf (va := (2, 1)) (hF35.get (by decide) h68_5) rfl) ?_
      refine xg_t (xg_getf (va := (2, 3)) (hF35.get (by decide) h1_18) rfl) ?_
      refine xg_t (xg_getf (va := (0, f3_23)) (hF35.get (by decide) h3_29) rfl) ?_
      by_cases hc41 : ro < f3_23
      · refine xg_t (xg_icF (u := ro) (v := f3_23) rfl xnm0 xnm0 (xj_geF hc41 (by omega))) ?_
        refine xg_t (xg_const) ?_
        refine xg_t (xg_istore (l1 := [(0, (2, 68)), (1, (0, le)), (2, (0, gr)), (3, (0, ro))]) rfl rfl rfl) ?_
        refine xg_t (xg_drop (l1 := [(0, (2, 68)), (1, (0, le)), (2, (0, gr)), (3, (0, ro)), (4, (0, 0))]) (List.forall_mem_cons.mpr ⟨List.mem_cons_of_mem _ (List.mem_cons_self), List.forall_mem_cons.mpr ⟨List.mem_cons_of_mem _ (List.mem_cons_of_mem _ (List.mem_cons_self)), List.forall_mem_cons.mpr ⟨List.mem_cons_of_mem _ (List.mem_cons_of_mem _ (List.mem_cons_of_mem _ (List.mem_cons_self))), List.forall_mem_cons.mpr ⟨List.mem_cons_of_mem _ (List.mem_cons_of_mem _ (List.mem_cons_of_mem _ (List.mem_cons_of_mem _ (List.mem_cons_self)))), List.forall_mem_cons.mpr ⟨List.mem_cons_self, fun _ h => absurd h List.not_mem_nil⟩⟩⟩⟩⟩)) ?_
        have key42 : ∀ (m44 : Nat) (lf gs co : Nat) (w45 : List (List xE)), 6 - co < m44 → lf ≤ 1000 → gs ≤ 1000 → co ≤ 6 → xInv w45 → xFr [] w w45 → (lf = ulo (rwv w 69) (fld w 3 7) (fld w 3 8) (6 * ro + co) ∧ gs = uhi (rwv w 69) (fld w 3 7) (fld w 3 8) (6 * ro + co)) ∧ co ≤ fld w 3 8 → xTo (d + 2) mX3_leftSpread (25, [], [(0, (2, 68)), (1, (0, lf)), (2, (0, gs)), (3, (0, ro)), (4, (0, co))], [], (w45, bd, fc, 0, 0, rr)) (fun φ => ∃ n w', xEnd 1 [(0, n)] (w', bd, fc, 0, 0, rr) φ ∧ (n = (uhi (rwv w 69) (fld w 3 7) (fld w 3 8) 36 + (4294967296 - ulo (rwv w 69) (fld w 3 7) (fld w 3 8) 36)) % 4294967296) ∧ xInv w' ∧ xFr [] w w') := by
          intro m44
          induction m44 with
          | zero => intro lf gs co w45 hz; exact absurd hz (Nat.not_lt_zero _)
          | succ m44 ih43 =>
            intro lf gs co w45 hm52 hn48 hn49 hn50 hI46 hF47 he51
            obtain ⟨⟨hlf, hgs⟩, hcn⟩ := he51
            refine xg_t (xg_blk (b := [(25, 2, 2, 4, 0, 0), (27, 1, 0, 0, 0, 0), (28, 3, 1, 3, 0, 21), (31, 3, 1, 9, 4, 66), (34, 3, 1, 1, 8, 73), (37, 3, 6, 73, 3, 0), (40, 1, 0, 0, 0, 0), (41, 1, 2, 3, 0, 0), (42, 2, 4, 6, 0, 0), (44, 1, 16, 0, 0, 0), (45, 2, 2, 4, 0, 0), (47, 1, 11, 0, 0, 0), (48, 3, 13, 263, 24, 76), (51, 2, 15, 5, 0, 0), (53, 1, 2, 1, 0, 0), (54, 2, 2, 5, 0, 0), (56, 3, 63, 0, 0, 58), (59, 1, 15, 1, 0, 0), (60, 1, 2, 2, 0, 0), (61, 2, 2, 5, 0, 0), (63, 3, 62, 0, 0, 63), (66, 1, 15, 2, 0, 0), (67, 3, 9, 4, 1, 0), (70, 3, 8, 25, 0, 0)]) rfl) ?_
            refine xg_t (xg_iload (va := (0, co)) rfl rfl) ?_
            refine xg_t (xg_aload (va := (2, 68)) rfl rfl) ?_
            refine xg_t (xg_getf (va := (2, 1)) (hF47.get (by decide) h68_5) rfl) ?_
            refine xg_t (xg_getf (va := (2, 3)) (hF47.get (by decide) h1_18) rfl) ?_
            refine xg_t (xg_getf (va := (0, f3_25)) (hF47.get (by decide) h3_29) rfl) ?_
            by_cases hc53 : co < f3_25
            · refine xg_t (xg_icF (u := co) (v := f3_25) rfl xnm0 xnm0 (xj_geF hc53 (by omega))) ?_
              refine xg_t (xg_aload (va := (2, 68)) rfl rfl) ?_
              refine xg_t (xg_iload (va := (0, ro)) rfl rfl) ?_
              refine xg_t (xg_bip) ?_
              refine xg_t (xg_imul (u := ro) (v := 6) (z := ro * 6) xnm0 xnm0 (by omega)) ?_
              refine xg_t (xg_iload (va := (0, co)) rfl rfl) ?_
              refine xg_t (xg_iadd (u := ro * 6) (v := co) (z := (ro * 6) + co) xnm0 xnm0 (by omega)) ?_
              have hf54 : xFr [] w w45 := hF47
              have e6955 : rwv w45 69 = rwv w 69 := rwf_eq (hf54.1 69 (by decide))
              refine xg_cVi mX3_leftOf (vs := [(0, (ro * 6) + co)]) (rest := []) (cn1 := 0) (sl1 := 0) rfl (lmLeftX (hI46) (by omega) (by rw [e6955]; exact hAl _ (by omega))) rfl (hF47.get (by decide) h68_5) rfl rfl rfl rfl rfl rfl (fun n60 w56 hq57 => ?_)
              obtain ⟨hn61, hI58, hF59⟩ := hq57
              rw [e6955] at hn61
              refine xg_t (xg_istore (l1 := [(0, (2, 68)), (1, (0, lf)), (2, (0, gs)), (3, (0, ro)), (4, (0, co))]) rfl rfl rfl) ?_
              refine xg_t (xg_iload (va := (0, lf)) rfl rfl) ?_
              refine xg_t (xg_iload (va := (0, n60)) rfl rfl) ?_
              refine xg_minK (u := lf) (v := n60) xnm0 xnm0 xmx_ok (by omega) (by omega) (fun z62 hz63 hz64 hz65 hz66 => ?_)
              unfold xbs at hz64 hz65
              refine xg_t (xg_istore (l1 := [(5, (0, n60)), (0, (2, 68)), (2, (0, gs)), (3, (0, ro)), (4, (0, co))]) rfl rfl rfl) ?_
              refine xg_t (xg_iload (va := (0, gs)) rfl rfl) ?_
              refine xg_t (xg_iload (va := (0, n60)) rfl rfl) ?_
              refine xg_maxK (u := gs) (v := n60) xnm0 xnm0 xmx_ok (by omega) (by omega) (fun z67 hz68 hz69 hz70 hz71 => ?_)
              unfold xbs at hz69 hz70
              refine xg_t (xg_istore (l1 := [(1, (0, z62)), (5, (0, n60)), (0, (2, 68)), (3, (0, ro)), (4, (0, co))]) rfl rfl rfl) ?_
              refine xg_t (xg_iinc (u := co) (z := co + 1) (l1 := [(2, (0, z67)), (1, (0, z62)), (5, (0, n60)), (0, (2, 68)), (3, (0, ro))]) rfl rfl (by omega) rfl) ?_
              refine xg_t (xg_goto) ?_
              refine xg_t (xg_drop (l1 := [(0, (2, 68)), (1, (0, z62)), (2, (0, z67)), (3, (0, ro)), (4, (0, co + 1))]) (List.forall_mem_cons.mpr ⟨List.mem_cons_of_mem _ (List.mem_cons_of_mem _ (List.mem_cons_of_mem _ (List.mem_cons_of_mem _ (List.mem_cons_self)))), List.forall_mem_cons.mpr ⟨List.mem_cons_of_mem _ (List.mem_cons_of_mem _ (List.mem_cons_self)), List.forall_mem_cons.mpr ⟨List.mem_cons_of_mem _ (List.mem_cons_self), List.forall_mem_cons.mpr ⟨List.mem_cons_of_mem _ (List.mem_cons_of_mem _ (List.mem_cons_of_mem _ (List.mem_cons_of_mem _ (List.mem_cons_of_mem _ (List.mem_cons_self))))), List.forall_mem_cons.mpr ⟨List.mem_cons_self, fun _ h => absurd h List.not_mem_nil⟩⟩⟩⟩⟩)) ?_
              have hk74 : rwv w 69 (6 * ro + co) = rwv w 69 ((ro * 6) + co) := congrArg (rwv w 69) (by omega)
              have hk72 : z62 = ulo (rwv w 69) (fld w 3 7) (fld w 3 8) (6 * ro + (co + 1)) := by
                rw [← Nat.add_assoc, ulo_y ⟨by omega, by omega⟩, ← hlf, hk74]
                omega
              have hk73 : z67 = uhi (rwv w 69) (fld w 3 7) (fld w 3 8) (6 * ro + (co + 1)) := by
                rw [← Nat.add_assoc, uhi_y ⟨by omega, by omega⟩, ← hgs, hk74]
                omega
              exact ih43 z62 z67 (co + 1) w56 (by omega) (by omega) (by omega) (by omega) (hI58) ((hF47.tr (hF59.up (by decide)))) (⟨⟨hk72, hk73⟩, by omega⟩)
            · refine xg_t (xg_icT (u := co) (v := f3_25) rfl xnm0 xnm0 (xj_geT (by omega) (by omega))) ?_
              refine xg_t (xg_blk (b := [(73, 3, 9, 3, 1, 0), (76, 3, 8, 8, 0, 0)]) rfl) ?_
              refine xg_t (xg_iinc (u := ro) (z := ro + 1) (l1 := [(0, (2, 68)), (1, (0, lf)), (2, (0, gs)), (4, (0, co))]) rfl rfl (by omega) rfl) ?_
              refine xg_t (xg_goto) ?_
              refine xg_t (xg_drop (l1 := [(0, (2, 68)), (1, (0, lf)), (2, (0, gs)), (3, (0, ro + 1))]) (List.forall_mem_cons.mpr ⟨List.mem_cons_of_mem _ (List.mem_cons_self), List.forall_mem_cons.mpr ⟨List.mem_cons_of_mem _ (List.mem_cons_of_mem _ (List.mem_cons_self)), List.forall_mem_cons.mpr ⟨List.mem_cons_of_mem _ (List.mem_cons_of_mem _ (List.mem_cons_of_mem _ (List.mem_cons_self))), List.forall_mem_cons.mpr ⟨List.mem_cons_self, fun _ h => absurd h List.not_mem_nil⟩⟩⟩⟩)) ?_
              have hk75 := u_skip (A := rwv w 69) (R := (fld w 3 7)) (C := (fld w 3 8)) (a := 6 * ro + co) (6 - co) (fun k h1 h2 => by omega)
              rw [show 6 * ro + co + (6 - co) = 6 * (ro + 1) by omega] at hk75
              exact ih31 lf gs (ro + 1) w45 (by omega) (by omega) (by omega) (by omega) (hI46) (hF47) (⟨⟨hlf.trans hk75.1.symm, hgs.trans hk75.2.symm⟩, by omega⟩)
        exact key42 _ le gr 0 w33 (Nat.lt_succ_self _) (by omega) (by omega) (by omega) (hI34) (hF35) (⟨⟨hle, hgr⟩, Nat.zero_le _⟩)
      · refine xg_t (xg_icT (u := ro) (v := f3_23) rfl xnm0 xnm0 (xj_geT (by omega) (by omega))) ?_
        refine xg_t (xg_blk (b := [(79, 1, 2, 2, 0, 0), (80, 1, 2, 1, 0, 0), (81, 1, 18, 0, 0, 0), (82, 1, 12, 0, 1, 0)]) rfl) ?_
        refine xg_t (xg_iload (va := (0, gr)) rfl rfl) ?_
        refine xg_t (xg_iload (va := (0, le)) rfl rfl) ?_
        refine xg_t (xg_isub (u := gr) (v := le) (z := (gr + (4294967296 - le)) % 4294967296) xnm0 xnm0 (rfl)) ?_
        have hk76 := u_skip (A := rwv w 69) (R := (fld w 3 7)) (C := (fld w 3 8)) (a := 6 * ro) (36 - 6 * ro) (fun k h1 h2 => by omega)
        rw [show 6 * ro + (36 - 6 * ro) = 36 by omega] at hk76
        exact xg_e ⟨(gr + (4294967296 - le)) % 4294967296, w33, ⟨rfl, rfl⟩, (by rw [hk76.1, hk76.2, ← hle, ← hgr]), hI34, hF35⟩
  exact key30 _ 1000 0 0 w (Nat.lt_succ_self _) (by omega) (by omega) (by omega) (hI) (xFr.rf) (⟨⟨rfl, rfl⟩, Nat.zero_le _⟩)
theorem scLeftX {ro co : Nat} (hI : xInv w) (hro : ro ≤ 4294967295) (hco : co ≤ 4294967295) (hq : ∀ p, p < fld w 16 3 → (∀ t, t < 4 → rwv w 17 (5 * p + t) ≤ 5) ∧ rwv w 17 (5 * p + 4) ≤ 8991) (hfr : fld w 68 4 = 1 → ∀ k, k < 36 → rwv w 69 k = ag (rwv w 17) (fld w 16 3) k) : xPi (d + 4) mX11_left [(2, 0), (0, ro), (0, co)] w bd fc rr (fun n w' => (((ro < fld w 3 7 ∧ co < fld w 3 8) ∧ n = 1000 - ag (rwv w 17) (fld w 16 3) (6 * ro + co) / 10 ∧ (fld w' 68 4 = 1 ∧ ∀ k, k < 36 → rwv w' 69 k = ag (rwv w 17) (fld w 16 3) k)) ∨ (¬ (ro < fld w 3 7 ∧ co < fld w 3 8) ∧ n = 4294967295 ∧ wget w' 68 = wget w 68 ∧ wget w' 69 = wget w 69)) ∧ xInv w' ∧ xFr [68, 69] w w') := by
  refine xPi.of ?_
  show xTo (d + 4) mX11_left (0, [], [(0, (2, 0)), (1, (0, ro)), (2, (0, co))], [], (w, bd, fc, 0, 0, rr)) (fun φ => ∃ n w', xEnd 1 [(0, n)] (w', bd, fc, 0, 0, rr) φ ∧ (((ro < fld w 3 7 ∧ co < fld w 3 8) ∧ n = 1000 - ag (rwv w 17) (fld w 16 3) (6 * ro + co) / 10 ∧ (fld w' 68 4 = 1 ∧ ∀ k, k < 36 → rwv w' 69 k = ag (rwv w 17) (fld w 16 3) k)) ∨ (¬ (ro < fld w 3 7 ∧ co < fld w 3 8) ∧ n = 4294967295 ∧ wget w' 68 = wget w 68 ∧ wget w' 69 = wget w 69)) ∧ xInv w' ∧ xFr [68, 69] w w')
  have h0_1 := (hI 0 (by decide) : cp0 (wget w 0))
  obtain ⟨f1_2, f1_4, f1_6, f1_8, f1_10, f1_12, h1_14, hb3, hb5, hb7, hb9, hb11, hb13⟩ := (hI 1 (by decide) : cp1 (wget w 1))
  obtain ⟨f3_15, f3_17, f3_19, f3_21, f3_23, h3_25, hb16, hb18, hb20, hb22, hb24⟩ := (hI 3 (by decide) : cp3 (wget w 3))
  have q37 : fld w 3 7 = f3_19 := fld_of h3_25
  have q38 : fld w 3 8 = f3_21 := fld_of h3_25
  obtain ⟨f16_26, h16_28, hb27⟩ := (hI 16 (by decide) : cp16 (wget w 16))
  have q16 : fld w 16 3 = f16_26 := fld_of h16_28
  refine xg_t (xg_blk (b := [(0, 1, 0, 0, 0, 0), (1, 1, 2, 1, 0, 0), (2, 1, 2, 2, 0, 0), (3, 3, 13, 64, 88, 261), (6, 3, 7, 11, 1, 0), (9, 1, 3, 4294967295, 0, 0), (10, 1, 12, 0, 1, 0)]) rfl) ?_
  refine xg_t (xg_aload (va := (2, 0)) rfl rfl) ?_
  refine xg_t (xg_iload (va := (0, ro)) rfl rfl) ?_
  refine xg_t (xg_iload (va := (0, co)) rfl rfl) ?_
  refine xg_cVi mX11_hasPoint (vs := [(0, ro), (0, co)]) (rest := []) (cn1 := 0) (sl1 := 0) rfl (scHasPointX (hI) (by omega) (by omega)) rfl h0_1 rfl rfl rfl rfl rfl rfl (fun n33 w29 hq30 => ?_)
  obtain ⟨hn34, hI31, hF32⟩ := hq30
  by_cases hc35 : n33 = 0
  · refine xg_t (xg_ifF (u := n33) rfl xnm0 (xj_neF hc35)) ?_
    refine xg_t (xg_const) ?_
    exact xg_e ⟨4294967295, w29, ⟨rfl, rfl⟩, Or.inr ⟨by omega, rfl, (hF32.1 68 (by decide)), (hF32.1 69 (by decide))⟩, hI31, (hF32.up (by decide))⟩
  · refine xg_t (xg_ifT (u := n33) rfl xnm0 (xj_neT hc35)) ?_
    refine xg_t (xg_blk (b := [(11, 1, 0, 0, 0, 0), (12, 3, 1, 11, 6, 59), (15, 3, 13, 265, 24, 264), (18, 1, 0, 0, 0, 0), (19, 3, 1, 11, 6, 59), (22, 1, 2, 1, 0, 0), (23, 2, 4, 6, 0, 0), (25, 1, 16, 0, 0, 0), (26, 1, 2, 2, 0, 0), (27, 1, 11, 0, 0, 0), (28, 3, 13, 263, 24, 267), (31, 1, 12, 0, 1, 0)]) rfl) ?_
    refine xg_t (xg_aload (va := (2, 0)) rfl rfl) ?_
    refine xg_t (xg_getf (va := (2, 68)) (hF32.get (by decide) h0_1) rfl) ?_
    have ew36 : fld w29 16 3 = fld w 16 3 := fld_eq (hF32.1 16 (by decide))
    have ew37 : rwv w29 17 = rwv w 17 := rwf_eq (hF32.1 17 (by decide))
    have ew38 : fld w29 68 4 = fld w 68 4 := fld_eq (hF32.1 68 (by decide))
    have ew39 : rwv w29 69 = rwv w 69 := rwf_eq (hF32.1 69 (by decide))
    obtain ⟨f68_40, f68_42, h68_44, hb41, hb43⟩ := (hI31 68 (by decide) : cp68 (wget w29 68))
    refine xg_cVv mX3_refreshAges (vs := []) (rest := []) (cn1 := 0) (sl1 := 0) rfl (lmRefreshAX (hI31) (by rw [ew36, ew37]; exact hq) (by rw [ew36, ew37, ew38, ew39]; exact hfr)) rfl h68_44 rfl rfl rfl rfl rfl rfl (fun w45 hq46 => ?_)
    obtain ⟨hI47, hF48, hx49⟩ := hq46
    obtain ⟨hag, h684, h685⟩ := hx49
    rw [ew36, ew37] at hag
    have hAl : ∀ k, k < 36 → rwv w45 69 k ≤ 107892 := fun k hk => by
      rw [hag k hk]
      have q := ag_le (P := rwv w 17) (n := fld w 16 3) (k := k) (B := 8991) (fun p hp => (hq p hp).2)
      omega
    refine xg_t (xg_aload (va := (2, 0)) rfl rfl) ?_
    refine xg_t (xg_getf (va := (2, 68)) (hF48.get (by decide) (hF32.get (by decide) h0_1)) rfl) ?_
    refine xg_t (xg_iload (va := (0, ro)) rfl rfl) ?_
    refine xg_t (xg_bip) ?_
    refine xg_t (xg_imul (u := ro) (v := 6) (z := ro * 6) xnm0 xnm0 (by omega)) ?_
    refine xg_t (xg_iload (va := (0, co)) rfl rfl) ?_
    refine xg_t (xg_iadd (u := ro * 6) (v := co) (z := (ro * 6) + co) xnm0 xnm0 (by omega)) ?_
    obtain ⟨f68_50, f68_52, h68_54, hb51, hb53⟩ := (hI47 68 (by decide) : cp68 (wget w45 68))
    refine xg_cVi mX3_leftOf (vs := [(0, (ro * 6) + co)]) (rest := []) (cn1 := 0) (sl1 := 0) rfl (lmLeftX (hI47) (by omega) (hAl _ (by omega))) rfl h68_54 rfl rfl rfl rfl rfl rfl (fun n59 w55 hq56 => ?_)
    obtain ⟨hn60, hI57, hF58⟩ := hq56
    have hk61 : fld w55 68 4 = 1 ∧ ∀ k, k < 36 → rwv w55 69 k = ag (rwv w 17) (fld w 16 3) k := ⟨(fld_eq (hF58.1 68 (by decide))).trans h684, fun k hk => (rwv_eq (hF58.1 69 (by decide))).trans (hag k hk)⟩
    have hk62 : n59 = 1000 - ag (rwv w 17) (fld w 16 3) (6 * ro + co) / 10 := by
      rw [← hag (6 * ro + co) (by omega), show 6 * ro + co = ro * 6 + co by omega]
      exact hn60.1
    exact xg_e ⟨n59, w55, ⟨rfl, rfl⟩, Or.inl ⟨by omega, hk62, hk61⟩, hI57, (((hF32.up (by decide)).tr (hF48.up (by decide))).tr (hF58.up (by decide)))⟩
theorem scUnlikeX (hI : xInv w) (hq : ∀ p, p < fld w 16 3 → (∀ t, t < 4 → rwv w 17 (5 * p + t) ≤ 5) ∧ rwv w 17 (5 * p + 4) ≤ 8991) (hfr : fld w 68 4 = 1 → ∀ k, k < 36 → rwv w 69 k = ag (rwv w 17) (fld w 16 3) k) : xPi (d + 4) mX11_unlike [(2, 0)] w bd fc rr (fun n w' => (n = (uhi (ag (rwv w 17) (fld w 16 3)) (fld w 3 7) (fld w 3 8) 36 + (4294967296 - ulo (ag (rwv w 17) (fld w 16 3)) (fld w 3 7) (fld w 3 8) 36)) % 4294967296 ∧ (fld w' 68 4 = 1 ∧ ∀ k, k < 36 → rwv w' 69 k = ag (rwv w 17) (fld w 16 3) k)) ∧ xInv w' ∧ xFr [68, 69] w w') := by
  refine xPi.of ?_
  show xTo (d + 4) mX11_unlike (0, [], [(0, (2, 0))], [], (w, bd, fc, 0, 0, rr)) (fun φ => ∃ n w', xEnd 1 [(0, n)] (w', bd, fc, 0, 0, rr) φ ∧ (n = (uhi (ag (rwv w 17) (fld w 16 3)) (fld w 3 7) (fld w 3 8) 36 + (4294967296 - ulo (ag (rwv w 17) (fld w 16 3)) (fld w 3 7) (fld w 3 8) 36)) % 4294967296 ∧ (fld w' 68 4 = 1 ∧ ∀ k, k < 36 → rwv w' 69 k = ag (rwv w 17) (fld w 16 3) k)) ∧ xInv w' ∧ xFr [68, 69] w w')
  have h0_1 := (hI 0 (by decide) : cp0 (wget w 0))
  obtain ⟨f1_2, f1_4, f1_6, f1_8, f1_10, f1_12, h1_14, hb3, hb5, hb7, hb9, hb11, hb13⟩ := (hI 1 (by decide) : cp1 (wget w 1))
  obtain ⟨f3_15, f3_17, f3_19, f3_21, f3_23, h3_25, hb16, hb18, hb20, hb22, hb24⟩ := (hI 3 (by decide) : cp3 (wget w 3))
  have q37 : fld w 3 7 = f3_19 := fld_of h3_25
  have q38 : fld w 3 8 = f3_21 := fld_of h3_25
  obtain ⟨f16_26, h16_28, hb27⟩ := (hI 16 (by decide) : cp16 (wget w 16))
  have q16 : fld w 16 3 = f16_26 := fld_of h16_28
  refine xg_t (xg_blk (b := [(0, 1, 0, 0, 0, 0), (1, 3, 1, 11, 6, 59), (4, 3, 13, 265, 24, 264), (7, 1, 0, 0, 0, 0), (8, 3, 1, 11, 6, 59), (11, 3, 13, 264, 24, 270), (14, 1, 12, 0, 1, 0)]) rfl) ?_
  refine xg_t (xg_aload (va := (2, 0)) rfl rfl) ?_
  refine xg_t (xg_getf (va := (2, 68)) h0_1 rfl) ?_
  obtain ⟨f68_29, f68_31, h68_33, hb30, hb32⟩ := (hI 68 (by decide) : cp68 (wget w 68))
  refine xg_cVv mX3_refreshAges (vs := []) (rest := []) (cn1 := 0) (sl1 := 0) rfl (lmRefreshAX (hI) hq hfr) rfl h68_33 rfl rfl rfl rfl rfl rfl (fun w34 hq35 => ?_)
  obtain ⟨hI36, hF37, hx38⟩ := hq35
  obtain ⟨hag, h684, h685⟩ := hx38
  have hAl : ∀ k, k < 36 → rwv w34 69 k ≤ 107892 := fun k hk => by
    rw [hag k hk]
    have q := ag_le (P := rwv w 17) (n := fld w 16 3) (k := k) (B := 8991) (fun p hp => (hq p hp).2)
    omega
  refine xg_t (xg_aload (va := (2, 0)) rfl rfl) ?_
  refine xg_t (xg_getf (va := (2, 68)) (hF37.get (by decide) h0_1) rfl) ?_
  obtain ⟨f68_39, f68_41, h68_43, hb40, hb42⟩ := (hI36 68 (by decide) : cp68 (wget w34 68))
  refine xg_cVi mX3_leftSpread (vs := []) (rest := []) (cn1 := 0) (sl1 := 0) rfl (lmSpreadX (hI36) hAl) rfl h68_43 rfl rfl rfl rfl rfl rfl (fun n48 w44 hq45 => ?_)
  obtain ⟨hn49, hI46, hF47⟩ := hq45
  have hk50 : fld w44 68 4 = 1 ∧ ∀ k, k < 36 → rwv w44 69 k = ag (rwv w 17) (fld w 16 3) k := ⟨(fld_eq (hF47.1 68 (by decide))).trans h684, fun k hk => (rwv_eq (hF47.1 69 (by decide))).trans (hag k hk)⟩
  have hk51 : n48 = (uhi (ag (rwv w 17) (fld w 16 3)) (fld w 3 7) (fld w 3 8) 36 + (4294967296 - ulo (ag (rwv w 17) (fld w 16 3)) (fld w 3 7) (fld w 3 8) 36)) % 4294967296 := by
    rw [hn49, ulo_cg hag, uhi_cg hag, fld_fr hF37 (by decide), fld_fr hF37 (by decide)]
  exact xg_e ⟨n48, w44, ⟨rfl, rfl⟩, ⟨hk51, hk50⟩, hI46, ((hF37.up (by decide)).tr (hF47.up (by decide)))⟩
end XAL
