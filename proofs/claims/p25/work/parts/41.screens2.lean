section
/-! the screens: calls, part two -/
section XSD
variable {d : Nat} {w : List (List xE)} {bd : List (Nat × Nat)} {fc : List (Nat × Nat × Bool)} {rr : Nat × Nat}
theorem scOrder {wh : Nat} (hI : xInv w) (hwh : wh ≤ 4294967295) : xPi (d + 5) mX11_order [(2, 0), (0, wh)] w bd fc rr (fun n w' => (n ≤ 4294967295) ∧ xInv w' ∧ xFr [49, 50, 51, 52, 53, 54, 55, 56, 57] w w') := by
  refine xPi.of ?_
  show xTo (d + 5) mX11_order (0, [], [(0, (2, 0)), (1, (0, wh))], [], (w, bd, fc, 0, 0, rr)) (fun φ => ∃ n w', xEnd 1 [(0, n)] (w', bd, fc, 0, 0, rr) φ ∧ (n ≤ 4294967295) ∧ xInv w' ∧ xFr [49, 50, 51, 52, 53, 54, 55, 56, 57] w w')
  have h0_1 := (hI 0 (by decide) : cp0 (wget w 0))
  obtain ⟨f1_2, f1_4, f1_6, f1_8, f1_10, f1_12, h1_14, hb3, hb5, hb7, hb9, hb11, hb13⟩ := (hI 1 (by decide) : cp1 (wget w 1))
  obtain ⟨f3_15, f3_17, f3_19, f3_21, f3_23, h3_25, hb16, hb18, hb20, hb22, hb24⟩ := (hI 3 (by decide) : cp3 (wget w 3))
  obtain ⟨f4_26, h4_28, hb27⟩ := (hI 4 (by decide) : cp4 (wget w 4))
  obtain ⟨g5_29, h5_30, hb31⟩ := (hI 5 (by decide) : cpI 24 1 4294967295 (wget w 5))
  have h5_30 : xRow w 5 24 1 g5_29 := h5_30
  refine xg_t (xg_blk (b := [(0, 1, 0, 0, 0, 0), (1, 3, 1, 11, 0, 10), (4, 3, 1, 9, 4, 38), (7, 3, 1, 1, 0, 112), (10, 3, 1, 5, 3, 151), (13, 1, 15, 2, 0, 0), (14, 1, 2, 2, 0, 0), (15, 3, 7, 27, 0, 0), (18, 1, 2, 1, 0, 0), (19, 3, 7, 27, 2, 0), (22, 1, 2, 1, 0, 0), (23, 1, 2, 2, 0, 0), (24, 3, 6, 29, 5, 0)]) rfl) ?_
  refine xg_t (xg_aload (va := (2, 0)) rfl rfl) ?_
  refine xg_t (xg_getf (va := (2, 1)) h0_1 rfl) ?_
  refine xg_t (xg_getf (va := (2, 3)) h1_14 rfl) ?_
  refine xg_t (xg_getf (va := (2, 4)) h3_25 rfl) ?_
  refine xg_t (xg_getf (va := (0, f4_26)) h4_28 rfl) ?_
  refine xg_t (xg_istore (l1 := [(0, (2, 0)), (1, (0, wh))]) rfl rfl rfl) ?_
  refine xg_t (xg_iload (va := (0, f4_26)) rfl rfl) ?_
  by_cases hc32 : f4_26 = 0
  · refine xg_t (xg_ifT (u := f4_26) rfl xnm0 (xj_eqT hc32)) ?_
    refine xg_t (xg_blk (b := [(27, 1, 3, 4294967295, 0, 0), (28, 1, 12, 0, 1, 0)]) rfl) ?_
    refine xg_t (xg_const) ?_
    exact xg_e ⟨4294967295, w, ⟨rfl, rfl⟩, by omega, hI, xFr.rf⟩
  · refine xg_t (xg_ifF (u := f4_26) rfl xnm0 (xj_eqF hc32)) ?_
    refine xg_t (xg_iload (va := (0, wh)) rfl rfl) ?_
    by_cases hc33 : wh < 2147483648
    · refine xg_t (xg_ifF (u := wh) rfl xnm0 (xjz_ltF hc33)) ?_
      refine xg_t (xg_iload (va := (0, wh)) rfl rfl) ?_
      refine xg_t (xg_iload (va := (0, f4_26)) rfl rfl) ?_
      by_cases hc34 : f4_26 < wh
      · refine xg_t (xg_icF (u := wh) (v := f4_26) rfl xnm0 xnm0 (xj_leF hc34 (by omega))) ?_
        refine xg_t (xg_blk (b := [(27, 1, 3, 4294967295, 0, 0), (28, 1, 12, 0, 1, 0)]) rfl) ?_
        refine xg_t (xg_const) ?_
        exact xg_e ⟨4294967295, w, ⟨rfl, rfl⟩, by omega, hI, xFr.rf⟩
      · refine xg_t (xg_icT (u := wh) (v := f4_26) rfl xnm0 xnm0 (xj_leT (by omega) (by omega))) ?_
        refine xg_t (xg_blk (b := [(29, 1, 0, 0, 0, 0), (30, 3, 1, 11, 4, 45), (33, 3, 13, 7, 0, 160), (36, 1, 2, 1, 0, 0), (37, 3, 7, 50, 1, 0), (40, 1, 0, 0, 0, 0), (41, 3, 1, 11, 4, 45), (44, 3, 1, 0, 9, 163), (47, 3, 8, 61, 0, 0)]) rfl) ?_
        refine xg_t (xg_aload (va := (2, 0)) rfl rfl) ?_
        refine xg_t (xg_getf (va := (2, 49)) h0_1 rfl) ?_
        obtain ⟨f49_35, f49_37, h49_39, hb36, hb38⟩ := (hI 49 (by decide) : cp49 (wget w 49))
        refine xg_cVv mX0_findOrder (vs := []) (rest := []) (cn1 := 0) (sl1 := 0) rfl (bdFind (hI)) rfl h49_39 rfl rfl rfl rfl rfl rfl (fun w40 hq41 => ?_)
        obtain ⟨hI42, hF43⟩ := hq41
        refine xg_t (xg_iload (va := (0, wh)) rfl rfl) ?_
        by_cases hc44 : wh = 0
        · refine xg_t (xg_ifF (u := wh) rfl xnm0 (xj_neF hc44)) ?_
          refine xg_t (xg_aload (va := (2, 0)) rfl rfl) ?_
          refine xg_t (xg_getf (va := (2, 49)) (hF43.get (by decide) h0_1) rfl) ?_
          obtain ⟨f49_45, f49_47, h49_49, hb46, hb48⟩ := (hI42 49 (by decide) : cp49 (wget w40 49))
          refine xg_t (xg_getf (va := (0, f49_45)) h49_49 rfl) ?_
          refine xg_t (xg_goto) ?_
          refine xg_t (xg_blk (b := [(61, 1, 12, 0, 1, 0)]) rfl) ?_
          exact xg_e ⟨f49_45, w40, ⟨rfl, rfl⟩, by omega, hI42, (hF43.up (by decide))⟩
        · refine xg_t (xg_ifT (u := wh) rfl xnm0 (xj_neT hc44)) ?_
          refine xg_t (xg_blk (b := [(50, 1, 0, 0, 0, 0), (51, 3, 1, 11, 4, 45), (54, 3, 1, 0, 8, 166), (57, 1, 2, 1, 0, 0), (58, 1, 3, 1, 0, 0), (59, 1, 18, 0, 0, 0), (60, 1, 10, 0, 0, 0)]) rfl) ?_
          refine xg_t (xg_aload (va := (2, 0)) rfl rfl) ?_
          refine xg_t (xg_getf (va := (2, 49)) (hF43.get (by decide) h0_1) rfl) ?_
          obtain ⟨f49_50, f49_52, h49_54, hb51, hb53⟩ := (hI42 49 (by decide) : cp49 (wget w40 49))
          refine xg_t (xg_getf (va := (2, 57)) h49_54 rfl) ?_
          refine xg_t (xg_iload (va := (0, wh)) rfl rfl) ?_
          refine xg_t (xg_const) ?_
          refine xg_t (xg_isub (u := wh) (v := 1) (z := wh - 1) xnm0 xnm0 (by omega)) ?_
          obtain ⟨g57_55, h57_56, hb57⟩ := (hI42 57 (by decide) : cpI 6 30 4294967295 (wget w40 57))
          have h57_56 : xRow w40 57 6 30 g57_55 := h57_56
          refine xg_ialdB (n := wh - 1) (B := 4294967295) h57_56 (hb57) xnm0 (by omega) (fun u58 hu59 he60 => ?_)
          refine xg_t (xg_blk (b := [(61, 1, 12, 0, 1, 0)]) rfl) ?_
          exact xg_e ⟨u58, w40, ⟨rfl, rfl⟩, by omega, hI42, (hF43.up (by decide))⟩
    · refine xg_t (xg_ifT (u := wh) rfl xnm0 (xjz_ltT (by omega) (by omega))) ?_
      refine xg_t (xg_blk (b := [(27, 1, 3, 4294967295, 0, 0), (28, 1, 12, 0, 1, 0)]) rfl) ?_
      refine xg_t (xg_const) ?_
      exact xg_e ⟨4294967295, w, ⟨rfl, rfl⟩, by omega, hI, xFr.rf⟩
theorem scTired {la nn : Nat} (hI : xInv w) (hla : la ≤ 4294967295) (hnn : nn ≤ 4294967295) : xPi (d + 4) mX11_tired [(2, 0), (0, la), (0, nn)] w bd fc rr (fun n w' => (n ≤ 4294967295) ∧ xInv w' ∧ xFr [50, 51, 52, 53, 54, 55, 56] w w') := by
  refine xPi.of ?_
  show xTo (d + 4) mX11_tired (0, [], [(0, (2, 0)), (1, (0, la)), (2, (0, nn))], [], (w, bd, fc, 0, 0, rr)) (fun φ => ∃ n w', xEnd 1 [(0, n)] (w', bd, fc, 0, 0, rr) φ ∧ (n ≤ 4294967295) ∧ xInv w' ∧ xFr [50, 51, 52, 53, 54, 55, 56] w w')
  have h0_1 := (hI 0 (by decide) : cp0 (wget w 0))
  obtain ⟨f1_2, f1_4, f1_6, f1_8, f1_10, f1_12, h1_14, hb3, hb5, hb7, hb9, hb11, hb13⟩ := (hI 1 (by decide) : cp1 (wget w 1))
  obtain ⟨f3_15, f3_17, f3_19, f3_21, f3_23, h3_25, hb16, hb18, hb20, hb22, hb24⟩ := (hI 3 (by decide) : cp3 (wget w 3))
  obtain ⟨f4_26, h4_28, hb27⟩ := (hI 4 (by decide) : cp4 (wget w 4))
  obtain ⟨g5_29, h5_30, hb31⟩ := (hI 5 (by decide) : cpI 24 1 4294967295 (wget w 5))
  have h5_30 : xRow w 5 24 1 g5_29 := h5_30
  obtain ⟨f8_32, h8_34, hb33⟩ := (hI 8 (by decide) : cp8 (wget w 8))
  obtain ⟨g9_35, h9_36, hb37⟩ := (hI 9 (by decide) : cpI 12 3 4294967295 (wget w 9))
  have h9_36 : xRow w 9 12 3 g9_35 := h9_36
  refine xg_t (xg_blk (b := [(0, 1, 0, 0, 0, 0), (1, 3, 1, 11, 0, 10), (4, 3, 1, 9, 4, 38), (7, 3, 1, 1, 2, 169), (10, 1, 27, 3, 0, 0), (11, 1, 0, 0, 0, 0), (12, 3, 1, 11, 0, 10), (15, 3, 1, 9, 4, 38), (18, 3, 1, 1, 0, 112), (21, 1, 2, 1, 0, 0), (22, 3, 13, 287, 40, 117), (25, 3, 7, 40, 0, 0), (28, 1, 2, 2, 0, 0), (29, 3, 7, 40, 2, 0), (32, 1, 2, 2, 0, 0), (33, 1, 0, 3, 0, 0), (34, 3, 1, 5, 3, 151), (37, 3, 6, 42, 5, 0)]) rfl) ?_
  refine xg_t (xg_aload (va := (2, 0)) rfl rfl) ?_
  refine xg_t (xg_getf (va := (2, 1)) h0_1 rfl) ?_
  refine xg_t (xg_getf (va := (2, 3)) h1_14 rfl) ?_
  refine xg_t (xg_getf (va := (2, 8)) h3_25 rfl) ?_
  refine xg_t (xg_astore (l1 := [(0, (2, 0)), (1, (0, la)), (2, (0, nn))]) rfl rfl rfl) ?_
  refine xg_t (xg_aload (va := (2, 0)) rfl rfl) ?_
  refine xg_t (xg_getf (va := (2, 1)) h0_1 rfl) ?_
  refine xg_t (xg_getf (va := (2, 3)) h1_14 rfl) ?_
  refine xg_t (xg_getf (va := (2, 4)) h3_25 rfl) ?_
  refine xg_t (xg_iload (va := (0, la)) rfl rfl) ?_
  refine xg_t (xg_cVr mX5_has (vs := [(0, la)]) (rest := []) (rs := [(0, if la < f4_26 then 1 else 0)]) (cn1 := 0) (sl1 := 0) rfl (rhas_ok h4_28 (by decide) (by omega) (by omega)) rfl h4_28 rfl rfl rfl rfl rfl rfl rfl) ?_
  by_cases hc38 : la < f4_26
  · refine xg_t (xg_ifF (u := (if la < f4_26 then 1 else 0)) rfl xnm0 (xj_eqF (xite1 hc38))) ?_
    refine xg_t (xg_iload (va := (0, nn)) rfl rfl) ?_
    by_cases hc39 : nn < 2147483648
    · refine xg_t (xg_ifF (u := nn) rfl xnm0 (xjz_ltF hc39)) ?_
      refine xg_t (xg_iload (va := (0, nn)) rfl rfl) ?_
      refine xg_t (xg_aload (va := (2, 8)) rfl rfl) ?_
      refine xg_t (xg_getf (va := (0, f8_32)) h8_34 rfl) ?_
      by_cases hc40 : f8_32 < nn
      · refine xg_t (xg_icF (u := nn) (v := f8_32) rfl xnm0 xnm0 (xj_leF hc40 (by omega))) ?_
        refine xg_t (xg_blk (b := [(40, 1, 3, 4294967295, 0, 0), (41, 1, 12, 0, 1, 0)]) rfl) ?_
        refine xg_t (xg_const) ?_
        exact xg_e ⟨4294967295, w, ⟨rfl, rfl⟩, by omega, hI, xFr.rf⟩
      · refine xg_t (xg_icT (u := nn) (v := f8_32) rfl xnm0 xnm0 (xj_leT (by omega) (by omega))) ?_
        refine xg_t (xg_blk (b := [(42, 1, 0, 0, 0, 0), (43, 3, 1, 11, 4, 45), (46, 3, 13, 12, 0, 123), (49, 1, 0, 0, 0, 0), (50, 3, 1, 11, 4, 45), (53, 3, 13, 16, 0, 172), (56, 1, 3, 0, 0, 0), (57, 2, 15, 4, 0, 0)]) rfl) ?_
        refine xg_t (xg_aload (va := (2, 0)) rfl rfl) ?_
        refine xg_t (xg_getf (va := (2, 49)) h0_1 rfl) ?_
        obtain ⟨f49_41, f49_43, h49_45, hb42, hb44⟩ := (hI 49 (by decide) : cp49 (wget w 49))
        refine xg_cVv mX0_layAsTold (vs := []) (rest := []) (cn1 := 0) (sl1 := 0) rfl (bdLayAsTold (hI)) rfl h49_45 rfl rfl rfl rfl rfl rfl (fun w46 hq47 => ?_)
        obtain ⟨hI48, hF49⟩ := hq47
        refine xg_t (xg_aload (va := (2, 0)) rfl rfl) ?_
        refine xg_t (xg_getf (va := (2, 49)) (hF49.get (by decide) h0_1) rfl) ?_
        refine xg_cVv mX0_restWear (vs := []) (rest := []) (cn1 := 0) (sl1 := 0) rfl (bdRest (hI48)) rfl (hF49.get (by decide) h49_45) rfl rfl rfl rfl rfl rfl (fun w50 hq51 => ?_)
        obtain ⟨hI52, hF53⟩ := hq51
        refine xg_t (xg_const) ?_
        refine xg_t (xg_istore (l1 := [(3, (2, 8)), (0, (2, 0)), (1, (0, la)), (2, (0, nn))]) rfl rfl rfl) ?_
        refine xg_t (xg_drop (l1 := [(0, (2, 0)), (1, (0, la)), (2, (0, nn)), (3, (2, 8)), (4, (0, 0))]) (List.forall_mem_cons.mpr ⟨List.mem_cons_of_mem _ (List.mem_cons_of_mem _ (List.mem_cons_self)), List.forall_mem_cons.mpr ⟨List.mem_cons_of_mem _ (List.mem_cons_of_mem _ (List.mem_cons_of_mem _ (List.mem_cons_self))), List.forall_mem_cons.mpr ⟨List.mem_cons_of_mem _ (List.mem_cons_of_mem _ (List.mem_cons_of_mem _ (List.mem_cons_of_mem _ (List.mem_cons_self)))), List.forall_mem_cons.mpr ⟨List.mem_cons_of_mem _ (List.mem_cons_self), List.forall_mem_cons.mpr ⟨List.mem_cons_self, fun _ h => absurd h List.not_mem_nil⟩⟩⟩⟩⟩)) ?_
        have key54 : ∀ (m56 : Nat) (ki : Nat) (w57 : List (List xE)), 6 - ki < m56 → ki ≤ 6 → xInv w57 → xFr [50, 51, 52, 53, 54, 55, 56] w w57 → xTo (d + 4) mX11_tired (59, [], [(0, (2, 0)), (1, (0, la)), (2, (0, nn)), (3, (2, 8)), (4, (0, ki))], [], (w57, bd, fc, 0, 0, rr)) (fun φ => ∃ n w', xEnd 1 [(0, n)] (w', bd, fc, 0, 0, rr) φ ∧ (n ≤ 4294967295) ∧ xInv w' ∧ xFr [50, 51, 52, 53, 54, 55, 56] w w') := by
          intro m56
          induction m56 with
          | zero => intro ki w57 hz; exact absurd hz (Nat.not_lt_zero _)
          | succ m56 ih55 =>
            intro ki w57 hm61 hn60 hI58 hF59
            refine xg_t (xg_blk (b := [(59, 2, 2, 4, 0, 0), (61, 1, 2, 2, 0, 0), (62, 3, 6, 94, 3, 0), (65, 1, 0, 0, 0, 0), (66, 3, 1, 11, 4, 45), (69, 1, 2, 1, 0, 0), (70, 1, 0, 3, 0, 0), (71, 2, 2, 4, 0, 0), (73, 1, 3, 0, 0, 0), (74, 3, 13, 285, 40, 132), (77, 1, 49, 0, 0, 0), (78, 1, 0, 3, 0, 0), (79, 2, 2, 4, 0, 0), (81, 1, 3, 1, 0, 0), (82, 3, 13, 285, 40, 132), (85, 3, 13, 21, 0, 175), (88, 3, 9, 4, 1, 0), (91, 3, 8, 59, 0, 0)]) rfl) ?_
            refine xg_t (xg_iload (va := (0, ki)) rfl rfl) ?_
            refine xg_t (xg_iload (va := (0, nn)) rfl rfl) ?_
            by_cases hc62 : ki < nn
            · refine xg_t (xg_icF (u := ki) (v := nn) rfl xnm0 xnm0 (xj_geF hc62 (by omega))) ?_
              refine xg_t (xg_aload (va := (2, 0)) rfl rfl) ?_
              refine xg_t (xg_getf (va := (2, 49)) (hF59.get (by decide) h0_1) rfl) ?_
              refine xg_t (xg_iload (va := (0, la)) rfl rfl) ?_
              refine xg_t (xg_aload (va := (2, 8)) rfl rfl) ?_
              refine xg_t (xg_iload (va := (0, ki)) rfl rfl) ?_
              refine xg_t (xg_const) ?_
              refine xg_k (xg_cVr mX5_get (vs := [(0, ki), (0, 0)]) (rest := [(0, la), (2, 49)]) (rs := [(0, if ki < f8_32 ∧ 0 < 2 then g9_35 (ki * 2 + 0) else 4294967295), (0, la), (2, 49)]) (cn1 := 0) (sl1 := 0) rfl (rget_ok (lim := 6) (wd := 2) (sz := f8_32) (hF59.get (by decide) h8_34) (h9_36.fr hF59 (by decide)) (by decide) (by omega) (by decide) (by decide) (by omega) (by omega)) rfl (hF59.get (by decide) h8_34) rfl rfl rfl rfl rfl rfl rfl) (xiteb (hb37)) (fun z63 hz64 => ?_)
              refine xg_kl (xg_i2l (u := z63) xnm0) (fun l65 => ?_)
              refine xg_t (xg_aload (va := (2, 8)) rfl rfl) ?_
              refine xg_t (xg_iload (va := (0, ki)) rfl rfl) ?_
              refine xg_t (xg_const) ?_
              refine xg_k (xg_cVr mX5_get (vs := [(0, ki), (0, 1)]) (rest := [(4, l65), (0, la), (2, 49)]) (rs := [(0, if ki < f8_32 ∧ 1 < 2 then g9_35 (ki * 2 + 1) else 4294967295), (4, l65), (0, la), (2, 49)]) (cn1 := 0) (sl1 := 0) rfl (rget_ok (lim := 6) (wd := 2) (sz := f8_32) (hF59.get (by decide) h8_34) (h9_36.fr hF59 (by decide)) (by decide) (by omega) (by decide) (by decide) (by omega) (by omega)) rfl (hF59.get (by decide) h8_34) rfl rfl rfl rfl rfl rfl rfl) (xiteb (hb37)) (fun z66 hz67 => ?_)
              refine xg_cVv mX0_wear (vs := [(0, la), (4, l65), (0, z66)]) (rest := []) (cn1 := 0) (sl1 := 0) rfl (bdWear (hI58) (by omega) (by omega)) rfl (hF59.get (by decide) h49_45) rfl rfl rfl rfl rfl rfl (fun w68 hq69 => ?_)
              obtain ⟨hI70, hF71⟩ := hq69
              refine xg_t (xg_iinc (u := ki) (z := ki + 1) (l1 := [(0, (2, 0)), (1, (0, la)), (2, (0, nn)), (3, (2, 8))]) rfl rfl (by omega) rfl) ?_
              refine xg_t (xg_goto) ?_
              refine xg_t (xg_drop (l1 := [(0, (2, 0)), (1, (0, la)), (2, (0, nn)), (3, (2, 8)), (4, (0, ki + 1))]) (List.forall_mem_cons.mpr ⟨List.mem_cons_of_mem _ (List.mem_cons_self), List.forall_mem_cons.mpr ⟨List.mem_cons_of_mem _ (List.mem_cons_of_mem _ (List.mem_cons_self)), List.forall_mem_cons.mpr ⟨List.mem_cons_of_mem _ (List.mem_cons_of_mem _ (List.mem_cons_of_mem _ (List.mem_cons_self))), List.forall_mem_cons.mpr ⟨List.mem_cons_of_mem _ (List.mem_cons_of_mem _ (List.mem_cons_of_mem _ (List.mem_cons_of_mem _ (List.mem_cons_self)))), List.forall_mem_cons.mpr ⟨List.mem_cons_self, fun _ h => absurd h List.not_mem_nil⟩⟩⟩⟩⟩)) ?_
              exact ih55 (ki + 1) w68 (by omega) (by omega) (hI70) ((hF59.tr (hF71.up (by decide))))
            · refine xg_t (xg_icT (u := ki) (v := nn) rfl xnm0 xnm0 (xj_geT (by omega) (by omega))) ?_
              refine xg_t (xg_blk (b := [(94, 1, 0, 0, 0, 0), (95, 3, 1, 11, 4, 45), (98, 3, 13, 23, 0, 179), (101, 1, 12, 0, 1, 0)]) rfl) ?_
              refine xg_t (xg_aload (va := (2, 0)) rfl rfl) ?_
              refine xg_t (xg_getf (va := (2, 49)) (hF59.get (by decide) h0_1) rfl) ?_
              refine xg_cVi mX0_wornThousandths (vs := []) (rest := []) (cn1 := 0) (sl1 := 0) rfl (bdWornTh (hI58)) rfl (hF59.get (by decide) h49_45) rfl rfl rfl rfl rfl rfl (fun n76 w72 hq73 => ?_)
              obtain ⟨hn77, hI74, hF75⟩ := hq73
              exact xg_e ⟨n76, w72, ⟨rfl, rfl⟩, by omega, hI74, (hF59.tr (hF75.up (by decide)))⟩
        exact key54 _ 0 w50 (Nat.lt_succ_self _) (by omega) (hI52) (((hF49.up (by decide)).tr (hF53.up (by decide))))
    · refine xg_t (xg_ifT (u := nn) rfl xnm0 (xjz_ltT (by omega) (by omega))) ?_
      refine xg_t (xg_blk (b := [(40, 1, 3, 4294967295, 0, 0), (41, 1, 12, 0, 1, 0)]) rfl) ?_
      refine xg_t (xg_const) ?_
      exact xg_e ⟨4294967295, w, ⟨rfl, rfl⟩, by omega, hI, xFr.rf⟩
  · refine xg_t (xg_ifT (u := (if la < f4_26 then 1 else 0)) rfl xnm0 (xj_eqT (xite0 hc38))) ?_
    refine xg_t (xg_blk (b := [(40, 1, 3, 4294967295, 0, 0), (41, 1, 12, 0, 1, 0)]) rfl) ?_
    refine xg_t (xg_const) ?_
    exact xg_e ⟨4294967295, w, ⟨rfl, rfl⟩, by omega, hI, xFr.rf⟩
theorem scCracks {la : Nat} (hI : xInv w) (hla : la ≤ 4294967295) : xPi (d + 4) mX11_cracks [(2, 0), (0, la)] w bd fc rr (fun n w' => (n ≤ 4294967295) ∧ xInv w' ∧ xFr [50, 51, 52, 53, 54, 55, 56] w w') := by
  refine xPi.of ?_
  show xTo (d + 4) mX11_cracks (0, [], [(0, (2, 0)), (1, (0, la))], [], (w, bd, fc, 0, 0, rr)) (fun φ => ∃ n w', xEnd 1 [(0, n)] (w', bd, fc, 0, 0, rr) φ ∧ (n ≤ 4294967295) ∧ xInv w' ∧ xFr [50, 51, 52, 53, 54, 55, 56] w w')
  have h0_1 := (hI 0 (by decide) : cp0 (wget w 0))
  obtain ⟨f1_2, f1_4, f1_6, f1_8, f1_10, f1_12, h1_14, hb3, hb5, hb7, hb9, hb11, hb13⟩ := (hI 1 (by decide) : cp1 (wget w 1))
  obtain ⟨f3_15, f3_17, f3_19, f3_21, f3_23, h3_25, hb16, hb18, hb20, hb22, hb24⟩ := (hI 3 (by decide) : cp3 (wget w 3))
  obtain ⟨f4_26, h4_28, hb27⟩ := (hI 4 (by decide) : cp4 (wget w 4))
  obtain ⟨g5_29, h5_30, hb31⟩ := (hI 5 (by decide) : cpI 24 1 4294967295 (wget w 5))
  have h5_30 : xRow w 5 24 1 g5_29 := h5_30
  obtain ⟨f8_32, h8_34, hb33⟩ := (hI 8 (by decide) : cp8 (wget w 8))
  obtain ⟨g9_35, h9_36, hb37⟩ := (hI 9 (by decide) : cpI 12 3 4294967295 (wget w 9))
  have h9_36 : xRow w 9 12 3 g9_35 := h9_36
  refine xg_t (xg_blk (b := [(0, 1, 0, 0, 0, 0), (1, 3, 1, 11, 0, 10), (4, 3, 1, 9, 4, 38), (7, 3, 1, 1, 2, 169), (10, 1, 27, 2, 0, 0), (11, 1, 0, 0, 0, 0), (12, 3, 1, 11, 0, 10), (15, 3, 1, 9, 4, 38), (18, 3, 1, 1, 0, 112), (21, 1, 2, 1, 0, 0), (22, 3, 13, 287, 40, 117), (25, 3, 7, 30, 1, 0), (28, 1, 3, 4294967295, 0, 0), (29, 1, 12, 0, 1, 0)]) rfl) ?_
  refine xg_t (xg_aload (va := (2, 0)) rfl rfl) ?_
  refine xg_t (xg_getf (va := (2, 1)) h0_1 rfl) ?_
  refine xg_t (xg_getf (va := (2, 3)) h1_14 rfl) ?_
  refine xg_t (xg_getf (va := (2, 8)) h3_25 rfl) ?_
  refine xg_t (xg_astore (l1 := [(0, (2, 0)), (1, (0, la))]) rfl rfl rfl) ?_
  refine xg_t (xg_aload (va := (2, 0)) rfl rfl) ?_
  refine xg_t (xg_getf (va := (2, 1)) h0_1 rfl) ?_
  refine xg_t (xg_getf (va := (2, 3)) h1_14 rfl) ?_
  refine xg_t (xg_getf (va := (2, 4)) h3_25 rfl) ?_
  refine xg_t (xg_iload (va := (0, la)) rfl rfl) ?_
  refine xg_t (xg_cVr mX5_has (vs := [(0, la)]) (rest := []) (rs := [(0, if la < f4_26 then 1 else 0)]) (cn1 := 0) (sl1 := 0) rfl (rhas_ok h4_28 (by decide) (by omega) (by omega)) rfl h4_28 rfl rfl rfl rfl rfl rfl rfl) ?_
  by_cases hc38 : la < f4_26
  · refine xg_t (xg_ifT (u := (if la < f4_26 then 1 else 0)) rfl xnm0 (xj_neT (xite1 hc38))) ?_
    refine xg_t (xg_blk (b := [(30, 1, 0, 0, 0, 0), (31, 3, 1, 11, 4, 45), (34, 3, 13, 12, 0, 123), (37, 1, 0, 0, 0, 0), (38, 3, 1, 11, 4, 45), (41, 3, 13, 16, 0, 172), (44, 1, 3, 0, 0, 0), (45, 1, 15, 3, 0, 0)]) rfl) ?_
    refine xg_t (xg_aload (va := (2, 0)) rfl rfl) ?_
    refine xg_t (xg_getf (va := (2, 49)) h0_1 rfl) ?_
    obtain ⟨f49_39, f49_41, h49_43, hb40, hb42⟩ := (hI 49 (by decide) : cp49 (wget w 49))
    refine xg_cVv mX0_layAsTold (vs := []) (rest := []) (cn1 := 0) (sl1 := 0) rfl (bdLayAsTold (hI)) rfl h49_43 rfl rfl rfl rfl rfl rfl (fun w44 hq45 => ?_)
    obtain ⟨hI46, hF47⟩ := hq45
    refine xg_t (xg_aload (va := (2, 0)) rfl rfl) ?_
    refine xg_t (xg_getf (va := (2, 49)) (hF47.get (by decide) h0_1) rfl) ?_
    refine xg_cVv mX0_restWear (vs := []) (rest := []) (cn1 := 0) (sl1 := 0) rfl (bdRest (hI46)) rfl (hF47.get (by decide) h49_43) rfl rfl rfl rfl rfl rfl (fun w48 hq49 => ?_)
    obtain ⟨hI50, hF51⟩ := hq49
    refine xg_t (xg_const) ?_
    refine xg_t (xg_istore (l1 := [(2, (2, 8)), (0, (2, 0)), (1, (0, la))]) rfl rfl rfl) ?_
    refine xg_t (xg_drop (l1 := [(0, (2, 0)), (1, (0, la)), (2, (2, 8)), (3, (0, 0))]) (List.forall_mem_cons.mpr ⟨List.mem_cons_of_mem _ (List.mem_cons_of_mem _ (List.mem_cons_self)), List.forall_mem_cons.mpr ⟨List.mem_cons_of_mem _ (List.mem_cons_of_mem _ (List.mem_cons_of_mem _ (List.mem_cons_self))), List.forall_mem_cons.mpr ⟨List.mem_cons_of_mem _ (List.mem_cons_self), List.forall_mem_cons.mpr ⟨List.mem_cons_self, fun _ h => absurd h List.not_mem_nil⟩⟩⟩⟩)) ?_
    have key52 : ∀ (m54 : Nat) (ki : Nat) (w55 : List (List xE)), 6 - ki < m54 → ki ≤ 6 → xInv w55 → xFr [50, 51, 52, 53, 54, 55, 56] w w55 → xTo (d + 4) mX11_cracks (46, [], [(0, (2, 0)), (1, (0, la)), (2, (2, 8)), (3, (0, ki))], [], (w55, bd, fc, 0, 0, rr)) (fun φ => ∃ n w', xEnd 1 [(0, n)] (w', bd, fc, 0, 0, rr) φ ∧ (n ≤ 4294967295) ∧ xInv w' ∧ xFr [50, 51, 52, 53, 54, 55, 56] w w') := by
      intro m54
      induction m54 with
      | zero => intro ki w55 hz; exact absurd hz (Nat.not_lt_zero _)
      | succ m54 ih53 =>
        intro ki w55 hm59 hn58 hI56 hF57
        refine xg_t (xg_blk (b := [(46, 1, 2, 3, 0, 0), (47, 1, 0, 2, 0, 0), (48, 3, 1, 5, 3, 151), (51, 3, 6, 93, 3, 0), (54, 1, 0, 0, 0, 0), (55, 3, 1, 11, 4, 45), (58, 1, 2, 1, 0, 0), (59, 1, 0, 2, 0, 0), (60, 1, 2, 3, 0, 0), (61, 1, 3, 0, 0, 0), (62, 3, 13, 285, 40, 132), (65, 1, 49, 0, 0, 0), (66, 1, 0, 2, 0, 0), (67, 1, 2, 3, 0, 0), (68, 1, 3, 1, 0, 0), (69, 3, 13, 285, 40, 132), (72, 3, 13, 21, 0, 175), (75, 1, 0, 0, 0, 0), (76, 3, 1, 11, 4, 45), (79, 3, 13, 10, 0, 182), (82, 3, 7, 87, 0, 0), (85, 1, 2, 3, 0, 0), (86, 1, 12, 0, 1, 0)]) rfl) ?_
        refine xg_t (xg_iload (va := (0, ki)) rfl rfl) ?_
        refine xg_t (xg_aload (va := (2, 8)) rfl rfl) ?_
        refine xg_t (xg_getf (va := (0, f8_32)) (hF57.get (by decide) h8_34) rfl) ?_
        by_cases hc60 : ki < f8_32
        · refine xg_t (xg_icF (u := ki) (v := f8_32) rfl xnm0 xnm0 (xj_geF hc60 (by omega))) ?_
          refine xg_t (xg_aload (va := (2, 0)) rfl rfl) ?_
          refine xg_t (xg_getf (va := (2, 49)) (hF57.get (by decide) h0_1) rfl) ?_
          refine xg_t (xg_iload (va := (0, la)) rfl rfl) ?_
          refine xg_t (xg_aload (va := (2, 8)) rfl rfl) ?_
          refine xg_t (xg_iload (va := (0, ki)) rfl rfl) ?_
          refine xg_t (xg_const) ?_
          refine xg_k (xg_cVr mX5_get (vs := [(0, ki), (0, 0)]) (rest := [(0, la), (2, 49)]) (rs := [(0, if ki < f8_32 ∧ 0 < 2 then g9_35 (ki * 2 + 0) else 4294967295), (0, la), (2, 49)]) (cn1 := 0) (sl1 := 0) rfl (rget_ok (lim := 6) (wd := 2) (sz := f8_32) (hF57.get (by decide) h8_34) (h9_36.fr hF57 (by decide)) (by decide) (by omega) (by decide) (by decide) (by omega) (by omega)) rfl (hF57.get (by decide) h8_34) rfl rfl rfl rfl rfl rfl rfl) (xiteb (hb37)) (fun z61 hz62 => ?_)
          refine xg_kl (xg_i2l (u := z61) xnm0) (fun l63 => ?_)
          refine xg_t (xg_aload (va := (2, 8)) rfl rfl) ?_
          refine xg_t (xg_iload (va := (0, ki)) rfl rfl) ?_
          refine xg_t (xg_const) ?_
          refine xg_k (xg_cVr mX5_get (vs := [(0, ki), (0, 1)]) (rest := [(4, l63), (0, la), (2, 49)]) (rs := [(0, if ki < f8_32 ∧ 1 < 2 then g9_35 (ki * 2 + 1) else 4294967295), (4, l63), (0, la), (2, 49)]) (cn1 := 0) (sl1 := 0) rfl (rget_ok (lim := 6) (wd := 2) (sz := f8_32) (hF57.get (by decide) h8_34) (h9_36.fr hF57 (by decide)) (by decide) (by omega) (by decide) (by decide) (by omega) (by omega)) rfl (hF57.get (by decide) h8_34) rfl rfl rfl rfl rfl rfl rfl) (xiteb (hb37)) (fun z64 hz65 => ?_)
          refine xg_cVv mX0_wear (vs := [(0, la), (4, l63), (0, z64)]) (rest := []) (cn1 := 0) (sl1 := 0) rfl (bdWear (hI56) (by omega) (by omega)) rfl (hF57.get (by decide) h49_43) rfl rfl rfl rfl rfl rfl (fun w66 hq67 => ?_)
          obtain ⟨hI68, hF69⟩ := hq67
          refine xg_t (xg_aload (va := (2, 0)) rfl rfl) ?_
          refine xg_t (xg_getf (va := (2, 49)) (hF69.get (by decide) (hF57.get (by decide) h0_1)) rfl) ?_
          refine xg_cVi mX0_isWornOut (vs := []) (rest := []) (cn1 := 0) (sl1 := 0) rfl (bdWorn (hI68)) rfl (hF69.get (by decide) (hF57.get (by decide) h49_43)) rfl rfl rfl rfl rfl rfl (fun n74 w70 hq71 => ?_)
          obtain ⟨hn75, hI72, hF73⟩ := hq71
          by_cases hc76 : n74 = 0
          · refine xg_t (xg_ifT (u := n74) rfl xnm0 (xj_eqT hc76)) ?_
            refine xg_t (xg_blk (b := [(87, 3, 9, 3, 1, 0), (90, 3, 8, 46, 0, 0)]) rfl) ?_
            refine xg_t (xg_iinc (u := ki) (z := ki + 1) (l1 := [(0, (2, 0)), (1, (0, la)), (2, (2, 8))]) rfl rfl (by omega) rfl) ?_
            refine xg_t (xg_goto) ?_
            refine xg_t (xg_drop (l1 := [(0, (2, 0)), (1, (0, la)), (2, (2, 8)), (3, (0, ki + 1))]) (List.forall_mem_cons.mpr ⟨List.mem_cons_of_mem _ (List.mem_cons_self), List.forall_mem_cons.mpr ⟨List.mem_cons_of_mem _ (List.mem_cons_of_mem _ (List.mem_cons_self)), List.forall_mem_cons.mpr ⟨List.mem_cons_of_mem _ (List.mem_cons_of_mem _ (List.mem_cons_of_mem _ (List.mem_cons_self))), List.forall_mem_cons.mpr ⟨List.mem_cons_self, fun _ h => absurd h List.not_mem_nil⟩⟩⟩⟩)) ?_
            exact ih53 (ki + 1) w70 (by omega) (by omega) (hI72) (((hF57.tr (hF69.up (by decide))).tr (hF73.up (by decide))))
          · refine xg_t (xg_ifF (u := n74) rfl xnm0 (xj_eqF hc76)) ?_
            refine xg_t (xg_iload (va := (0, ki)) rfl rfl) ?_
            exact xg_e ⟨ki, w70, ⟨rfl, rfl⟩, by omega, hI72, ((hF57.tr (hF69.up (by decide))).tr (hF73.up (by decide)))⟩
        · refine xg_t (xg_icT (u := ki) (v := f8_32) rfl xnm0 xnm0 (xj_geT (by omega) (by omega))) ?_
          refine xg_t (xg_blk (b := [(93, 1, 3, 4294967295, 0, 0), (94, 1, 12, 0, 1, 0)]) rfl) ?_
          refine xg_t (xg_const) ?_
          exact xg_e ⟨4294967295, w55, ⟨rfl, rfl⟩, by omega, hI56, hF57⟩
    exact key52 _ 0 w48 (Nat.lt_succ_self _) (by omega) (hI50) (((hF47.up (by decide)).tr (hF51.up (by decide))))
  · refine xg_t (xg_ifF (u := (if la < f4_26 then 1 else 0)) rfl xnm0 (xj_neF (xite0 hc38))) ?_
    refine xg_t (xg_const) ?_
    exact xg_e ⟨4294967295, w, ⟨rfl, rfl⟩, by omega, hI, xFr.rf⟩
theorem scCrack {ra ro co : Nat} (hI : xInv w) (hra : ra ≤ 1) (hro : ro ≤ 4294967295) (hco : co ≤ 4294967295) : xPi (d + 3) mX11_crack [(2, 0), (0, ra), (0, ro), (0, co)] w bd fc rr (fun n w' => (n ≤ 1) ∧ xInv w' ∧ xFr [14, 15, 58] w w') := by
  refine xPi.of ?_
  show xTo (d + 3) mX11_crack (0, [], [(0, (2, 0)), (1, (0, ra)), (2, (0, ro)), (3, (0, co))], [], (w, bd, fc, 0, 0, rr)) (fun φ => ∃ n w', xEnd 4 [(0, n)] (w', bd, fc, 0, 0, rr) φ ∧ (n ≤ 1) ∧ xInv w' ∧ xFr [14, 15, 58] w w')
  refine xg_t (xg_blk (b := [(0, 1, 0, 0, 0, 0), (1, 3, 1, 11, 0, 10), (4, 3, 1, 9, 5, 195), (7, 2, 27, 4, 0, 0), (9, 2, 0, 4, 0, 0), (11, 3, 13, 289, 40, 198), (14, 3, 7, 41, 1, 0), (17, 1, 0, 0, 0, 0), (18, 1, 2, 1, 0, 0), (19, 1, 2, 2, 0, 0), (20, 1, 2, 3, 0, 0), (21, 3, 13, 63, 88, 201), (24, 3, 7, 41, 0, 0), (27, 1, 0, 0, 0, 0), (28, 3, 1, 11, 0, 10), (31, 1, 2, 1, 0, 0), (32, 1, 2, 2, 0, 0), (33, 1, 2, 3, 0, 0), (34, 3, 13, 324, 72, 205), (37, 1, 3, 4294967295, 0, 0), (38, 3, 6, 43, 0, 0)]) rfl) ?_
  refine xg_t (xg_aload (va := (2, 0)) rfl rfl) ?_
  have h0_1 := (hI 0 (by decide) : cp0 (wget w 0))
  refine xg_t (xg_getf (va := (2, 1)) h0_1 rfl) ?_
  obtain ⟨f1_2, f1_4, f1_6, f1_8, f1_10, f1_12, h1_14, hb3, hb5, hb7, hb9, hb11, hb13⟩ := (hI 1 (by decide) : cp1 (wget w 1))
  refine xg_t (xg_getf (va := (2, 14)) h1_14 rfl) ?_
  refine xg_t (xg_astore (l1 := [(0, (2, 0)), (1, (0, ra)), (2, (0, ro)), (3, (0, co))]) rfl rfl rfl) ?_
  refine xg_t (xg_aload (va := (2, 14)) rfl rfl) ?_
  obtain ⟨f14_15, h14_17, hb16⟩ := (hI 14 (by decide) : cp14 (wget w 14))
  refine xg_t (xg_cVr mX5_isFull (vs := []) (rest := []) (rs := [(0, if 40 ≤ f14_15 then 1 else 0)]) (cn1 := 0) (sl1 := 0) rfl (rfull_ok h14_17 (by decide) (by omega)) rfl h14_17 rfl rfl rfl rfl rfl rfl rfl) ?_
  by_cases hc18 : 40 ≤ f14_15
  · refine xg_t (xg_ifT (u := (if 40 ≤ f14_15 then 1 else 0)) rfl xnm0 (xj_neT (xite1 hc18))) ?_
    refine xg_t (xg_blk (b := [(41, 1, 3, 0, 0, 0), (42, 1, 12, 0, 1, 0)]) rfl) ?_
    refine xg_t (xg_const) ?_
    exact xg_e ⟨0, w, ⟨rfl, rfl⟩, by omega, hI, xFr.rf⟩
  · refine xg_t (xg_ifF (u := (if 40 ≤ f14_15 then 1 else 0)) rfl xnm0 (xj_neF (xite0 hc18))) ?_
    refine xg_t (xg_aload (va := (2, 0)) rfl rfl) ?_
    refine xg_t (xg_iload (va := (0, ra)) rfl rfl) ?_
    refine xg_t (xg_iload (va := (0, ro)) rfl rfl) ?_
    refine xg_t (xg_iload (va := (0, co)) rfl rfl) ?_
    refine xg_cVi mX11_hasPart (vs := [(0, ra), (0, ro), (0, co)]) (rest := []) (cn1 := 0) (sl1 := 0) rfl (scHasPart (hI) (by omega) (by omega) (by omega)) rfl h0_1 rfl rfl rfl rfl rfl rfl (fun n23 w19 hq20 => ?_)
    obtain ⟨hn24, hI21, hF22⟩ := hq20
    by_cases hc25 : n23 = 0
    · refine xg_t (xg_ifT (u := n23) rfl xnm0 (xj_eqT hc25)) ?_
      refine xg_t (xg_blk (b := [(41, 1, 3, 0, 0, 0), (42, 1, 12, 0, 1, 0)]) rfl) ?_
      refine xg_t (xg_const) ?_
      exact xg_e ⟨0, w19, ⟨rfl, rfl⟩, by omega, hI21, (hF22.up (by decide))⟩
    · refine xg_t (xg_ifF (u := n23) rfl xnm0 (xj_eqF hc25)) ?_
      refine xg_t (xg_aload (va := (2, 0)) rfl rfl) ?_
      refine xg_t (xg_getf (va := (2, 1)) (hF22.get (by decide) h0_1) rfl) ?_
      refine xg_t (xg_iload (va := (0, ra)) rfl rfl) ?_
      refine xg_t (xg_iload (va := (0, ro)) rfl rfl) ?_
      refine xg_t (xg_iload (va := (0, co)) rfl rfl) ?_
      refine xg_cVi mX9_findCrack (vs := [(0, ra), (0, ro), (0, co)]) (rest := []) (cn1 := 0) (sl1 := 0) rfl (tdFindCrack (hI21) (by omega) (by omega) (by omega)) rfl (hF22.get (by decide) h1_14) rfl rfl rfl rfl rfl rfl (fun n30 w26 hq27 => ?_)
      obtain ⟨hn31, hI28, hF29⟩ := hq27
      refine xg_t (xg_const) ?_
      by_cases hc32 : n30 = 4294967295
      · refine xg_t (xg_icT (u := n30) (v := 4294967295) rfl xnm0 xnm0 (xj_eqT hc32)) ?_
        refine xg_t (xg_blk (b := [(43, 2, 0, 4, 0, 0), (45, 3, 13, 286, 40, 209), (48, 2, 15, 5, 0, 0), (50, 2, 0, 4, 0, 0), (52, 2, 2, 5, 0, 0), (54, 1, 3, 0, 0, 0), (55, 1, 2, 1, 0, 0), (56, 3, 7, 63, 0, 0), (59, 1, 3, 1, 0, 0), (60, 3, 8, 64, 0, 0)]) rfl) ?_
        refine xg_t (xg_aload (va := (2, 14)) rfl rfl) ?_
        refine xg_cVi mX5_grow (vs := []) (rest := []) (cn1 := 0) (sl1 := 0) rfl (rgrowI (hF29.get (by decide) (hF22.get (by decide) h14_17)) (by decide) (by omega)) rfl (hF29.get (by decide) (hF22.get (by decide) h14_17)) rfl rfl rfl rfl rfl rfl (fun n35 w33 hq34 => ?_)
        obtain ⟨hn36, s37, hs38, hk39, hb40⟩ := hq34
        refine xg_t (xg_istore (l1 := [(4, (2, 14)), (0, (2, 0)), (1, (0, ra)), (2, (0, ro)), (3, (0, co))]) rfl rfl rfl) ?_
        refine xg_t (xg_aload (va := (2, 14)) rfl rfl) ?_
        refine xg_t (xg_iload (va := (0, n35)) rfl rfl) ?_
        refine xg_t (xg_const) ?_
        refine xg_t (xg_iload (va := (0, ra)) rfl rfl) ?_
        by_cases hc41 : ra = 0
        · refine xg_t (xg_ifT (u := ra) rfl xnm0 (xj_eqT hc41)) ?_
          refine xg_t (xg_blk (b := [(63, 1, 3, 0, 0, 0)]) rfl) ?_
          refine xg_t (xg_const) ?_
          refine xg_t (xg_blk (b := [(64, 3, 13, 290, 40, 212), (67, 2, 0, 4, 0, 0), (69, 2, 2, 5, 0, 0), (71, 1, 3, 1, 0, 0), (72, 1, 2, 2, 0, 0), (73, 3, 13, 290, 40, 212), (76, 2, 0, 4, 0, 0), (78, 2, 2, 5, 0, 0), (80, 1, 3, 2, 0, 0), (81, 1, 2, 3, 0, 0), (82, 3, 13, 290, 40, 212), (85, 2, 0, 4, 0, 0), (87, 2, 2, 5, 0, 0), (89, 1, 3, 3, 0, 0), (90, 1, 0, 0, 0, 0), (91, 3, 1, 11, 0, 10), (94, 3, 1, 9, 6, 186), (97, 3, 13, 290, 40, 212), (100, 2, 0, 4, 0, 0), (102, 2, 2, 5, 0, 0), (104, 1, 3, 4, 0, 0), (105, 1, 3, 1, 0, 0), (106, 3, 13, 290, 40, 212), (109, 1, 0, 0, 0, 0), (110, 3, 1, 11, 5, 52), (113, 3, 13, 30, 80, 192), (116, 1, 3, 1, 0, 0), (117, 1, 12, 0, 1, 0)]) rfl) ?_
          obtain ⟨g15_42, h15_43, hb44⟩ := (hI28 15 (by decide) : cpI 200 6 4294967295 (wget w26 15))
          have h15_43 : xRow w26 15 200 6 g15_42 := h15_43
          refine xg_cVv mX5_put (vs := [(0, n35), (0, 0), (0, 0)]) (rest := []) (cn1 := 0) (sl1 := 0) rfl (rputI (lim := 40) (wd := 5) (B := 4294967295) hk39 (h15_43.but hb40 (by decide)) (hb44) (by decide) (by omega) (by decide) (by decide) (by omega) (by omega) (by omega)) rfl hk39 rfl rfl rfl rfl rfl rfl (fun w45 hq46 => ?_)
          obtain ⟨g47, hr48, hb49, hb50⟩ := hq46
          refine xg_t (xg_aload (va := (2, 14)) rfl rfl) ?_
          refine xg_t (xg_iload (va := (0, n35)) rfl rfl) ?_
          refine xg_t (xg_const) ?_
          refine xg_t (xg_iload (va := (0, ro)) rfl rfl) ?_
          refine xg_cVv mX5_put (vs := [(0, n35), (0, 1), (0, ro)]) (rest := []) (cn1 := 0) (sl1 := 0) rfl (rputI (lim := 40) (wd := 5) (B := 4294967295) (hb50.get (by decide) hk39) hr48 (hb49) (by decide) (by omega) (by decide) (by decide) (by omega) (by omega) (by omega)) rfl (hb50.get (by decide) hk39) rfl rfl rfl rfl rfl rfl (fun w51 hq52 => ?_)
          obtain ⟨g53, hr54, hb55, hb56⟩ := hq52
          refine xg_t (xg_aload (va := (2, 14)) rfl rfl) ?_
          refine xg_t (xg_iload (va := (0, n35)) rfl rfl) ?_
          refine xg_t (xg_const) ?_
          refine xg_t (xg_iload (va := (0, co)) rfl rfl) ?_
          refine xg_cVv mX5_put (vs := [(0, n35), (0, 2), (0, co)]) (rest := []) (cn1 := 0) (sl1 := 0) rfl (rputI (lim := 40) (wd := 5) (B := 4294967295) (hb56.get (by decide) (hb50.get (by decide) hk39)) hr54 (hb55) (by decide) (by omega) (by decide) (by decide) (by omega) (by omega) (by omega)) rfl (hb56.get (by decide) (hb50.get (by decide) hk39)) rfl rfl rfl rfl rfl rfl (fun w57 hq58 => ?_)
          obtain ⟨g59, hr60, hb61, hb62⟩ := hq58
          refine xg_t (xg_aload (va := (2, 14)) rfl rfl) ?_
          refine xg_t (xg_iload (va := (0, n35)) rfl rfl) ?_
          refine xg_t (xg_const) ?_
          refine xg_t (xg_aload (va := (2, 0)) rfl rfl) ?_
          refine xg_t (xg_getf (va := (2, 1)) (hb62.get (by decide) (hb56.get (by decide) (hb50.get (by decide) (hb40.get (by decide) (hF29.get (by decide) (hF22.get (by decide) h0_1)))))) rfl) ?_
          refine xg_t (xg_getf (va := (0, f1_8)) (hb62.get (by decide) (hb56.get (by decide) (hb50.get (by decide) (hb40.get (by decide) (hF29.get (by decide) (hF22.get (by decide) h1_14)))))) rfl) ?_
          refine xg_cVv mX5_put (vs := [(0, n35), (0, 3), (0, f1_8)]) (rest := []) (cn1 := 0) (sl1 := 0) rfl (rputI (lim := 40) (wd := 5) (B := 4294967295) (hb62.get (by decide) (hb56.get (by decide) (hb50.get (by decide) hk39))) hr60 (hb61) (by decide) (by omega) (by decide) (by decide) (by omega) (by omega) (by omega)) rfl (hb62.get (by decide) (hb56.get (by decide) (hb50.get (by decide) hk39))) rfl rfl rfl rfl rfl rfl (fun w63 hq64 => ?_)
          obtain ⟨g65, hr66, hb67, hb68⟩ := hq64
          refine xg_t (xg_aload (va := (2, 14)) rfl rfl) ?_
          refine xg_t (xg_iload (va := (0, n35)) rfl rfl) ?_
          refine xg_t (xg_const) ?_
          refine xg_t (xg_const) ?_
          refine xg_cVv mX5_put (vs := [(0, n35), (0, 4), (0, 1)]) (rest := []) (cn1 := 0) (sl1 := 0) rfl (rputI (lim := 40) (wd := 5) (B := 4294967295) (hb68.get (by decide) (hb62.get (by decide) (hb56.get (by decide) (hb50.get (by decide) hk39)))) hr66 (hb67) (by decide) (by omega) (by decide) (by decide) (by omega) (by omega) (by omega)) rfl (hb68.get (by decide) (hb62.get (by decide) (hb56.get (by decide) (hb50.get (by decide) hk39)))) rfl rfl rfl rfl rfl rfl (fun w69 hq70 => ?_)
          obtain ⟨g71, hr72, hb73, hb74⟩ := hq70
          refine xg_t (xg_aload (va := (2, 0)) rfl rfl) ?_
          refine xg_t (xg_getf (va := (2, 58)) (hb74.get (by decide) (hb68.get (by decide) (hb62.get (by decide) (hb56.get (by decide) (hb50.get (by decide) (hb40.get (by decide) (hF29.get (by decide) (hF22.get (by decide) h0_1)))))))) rfl) ?_
          obtain ⟨f58_75, f58_77, f58_79, h58_81, hb76, hb78, hb80⟩ := (hI28 58 (by decide) : cp58 (wget w26 58))
          refine xg_cVv mX10_forget (vs := []) (rest := []) (cn1 := 0) (sl1 := 0) rfl (wyForget (xInv.up (S := [14, 15]) hI28 ((((((xFr.of (S := [14, 15]) hb40 (by decide)).tr (xFr.of (S := [14, 15]) hb50 (by decide))).tr (xFr.of (S := [14, 15]) hb56 (by decide))).tr (xFr.of (S := [14, 15]) hb62 (by decide))).tr (xFr.of (S := [14, 15]) hb68 (by decide))).tr (xFr.of (S := [14, 15]) hb74 (by decide))) (List.forall_mem_cons.mpr ⟨(show cp14 (wget w69 14) from ⟨s37, (hb74.get (by decide) (hb68.get (by decide) (hb62.get (by decide) (hb56.get (by decide) (hb50.get (by decide) hk39))))), by omega⟩), List.forall_mem_cons.mpr ⟨(show cpI 200 6 4294967295 (wget w69 15) from ⟨_, hr72, hb73⟩), fun _ h => absurd h List.not_mem_nil⟩⟩))) rfl (hb74.get (by decide) (hb68.get (by decide) (hb62.get (by decide) (hb56.get (by decide) (hb50.get (by decide) (hb40.get (by decide) h58_81)))))) rfl rfl rfl rfl rfl rfl (fun w82 hq83 => ?_)
          obtain ⟨hI84, hF85⟩ := hq83
          refine xg_t (xg_const) ?_
          exact xg_e ⟨1, w82, ⟨rfl, rfl⟩, by omega, hI84, ((((hF22.up (by decide)).tr (hF29.up (by decide))).tr ((((((xFr.of (S := [14, 15, 58]) hb40 (by decide)).tr (xFr.of (S := [14, 15, 58]) hb50 (by decide))).tr (xFr.of (S := [14, 15, 58]) hb56 (by decide))).tr (xFr.of (S := [14, 15, 58]) hb62 (by decide))).tr (xFr.of (S := [14, 15, 58]) hb68 (by decide))).tr (xFr.of (S := [14, 15, 58]) hb74 (by decide)))).tr (hF85.up (by decide)))⟩
        · refine xg_t (xg_ifF (u := ra) rfl xnm0 (xj_eqF hc41)) ?_
          refine xg_t (xg_const) ?_
          refine xg_t (xg_goto) ?_
          refine xg_t (xg_blk (b := [(64, 3, 13, 290, 40, 212), (67, 2, 0, 4, 0, 0), (69, 2, 2, 5, 0, 0), (71, 1, 3, 1, 0, 0), (72, 1, 2, 2, 0, 0), (73, 3, 13, 290, 40, 212), (76, 2, 0, 4, 0, 0), (78, 2, 2, 5, 0, 0), (80, 1, 3, 2, 0, 0), (81, 1, 2, 3, 0, 0), (82, 3, 13, 290, 40, 212), (85, 2, 0, 4, 0, 0), (87, 2, 2, 5, 0, 0), (89, 1, 3, 3, 0, 0), (90, 1, 0, 0, 0, 0), (91, 3, 1, 11, 0, 10), (94, 3, 1, 9, 6, 186), (97, 3, 13, 290, 40, 212), (100, 2, 0, 4, 0, 0), (102, 2, 2, 5, 0, 0), (104, 1, 3, 4, 0, 0), (105, 1, 3, 1, 0, 0), (106, 3, 13, 290, 40, 212), (109, 1, 0, 0, 0, 0), (110, 3, 1, 11, 5, 52), (113, 3, 13, 30, 80, 192), (116, 1, 3, 1, 0, 0), (117, 1, 12, 0, 1, 0)]) rfl) ?_
          obtain ⟨g15_86, h15_87, hb88⟩ := (hI28 15 (by decide) : cpI 200 6 4294967295 (wget w26 15))
          have h15_87 : xRow w26 15 200 6 g15_86 := h15_87
          refine xg_cVv mX5_put (vs := [(0, n35), (0, 0), (0, 1)]) (rest := []) (cn1 := 0) (sl1 := 0) rfl (rputI (lim := 40) (wd := 5) (B := 4294967295) hk39 (h15_87.but hb40 (by decide)) (hb88) (by decide) (by omega) (by decide) (by decide) (by omega) (by omega) (by omega)) rfl hk39 rfl rfl rfl rfl rfl rfl (fun w89 hq90 => ?_)
          obtain ⟨g91, hr92, hb93, hb94⟩ := hq90
          refine xg_t (xg_aload (va := (2, 14)) rfl rfl) ?_
          refine xg_t (xg_iload (va := (0, n35)) rfl rfl) ?_
          refine xg_t (xg_const) ?_
          refine xg_t (xg_iload (va := (0, ro)) rfl rfl) ?_
          refine xg_cVv mX5_put (vs := [(0, n35), (0, 1), (0, ro)]) (rest := []) (cn1 := 0) (sl1 := 0) rfl (rputI (lim := 40) (wd := 5) (B := 4294967295) (hb94.get (by decide) hk39) hr92 (hb93) (by decide) (by omega) (by decide) (by decide) (by omega) (by omega) (by omega)) rfl (hb94.get (by decide) hk39) rfl rfl rfl rfl rfl rfl (fun w95 hq96 => ?_)
          obtain ⟨g97, hr98, hb99, hb100⟩ := hq96
          refine xg_t (xg_aload (va := (2, 14)) rfl rfl) ?_
          refine xg_t (xg_iload (va := (0, n35)) rfl rfl) ?_
          refine xg_t (xg_const) ?_
          refine xg_t (xg_iload (va := (0, co)) rfl rfl) ?_
          refine xg_cVv mX5_put (vs := [(0, n35), (0, 2), (0, co)]) (rest := []) (cn1 := 0) (sl1 := 0) rfl (rputI (lim := 40) (wd := 5) (B := 4294967295) (hb100.get (by decide) (hb94.get (by decide) hk39)) hr98 (hb99) (by decide) (by omega) (by decide) (by decide) (by omega) (by omega) (by omega)) rfl (hb100.get (by decide) (hb94.get (by decide) hk39)) rfl rfl rfl rfl rfl rfl (fun w101 hq102 => ?_)
          obtain ⟨g103, hr104, hb105, hb106⟩ := hq102
          refine xg_t (xg_aload (va := (2, 14)) rfl rfl) ?_
          refine xg_t (xg_iload (va := (0, n35)) rfl rfl) ?_
          refine xg_t (xg_const) ?_
          refine xg_t (xg_aload (va := (2, 0)) rfl rfl) ?_
          refine xg_t (xg_getf (va := (2, 1)) (hb106.get (by decide) (hb100.get (by decide) (hb94.get (by decide) (hb40.get (by decide) (hF29.get (by decide) (hF22.get (by decide) h0_1)))))) rfl) ?_
          refine xg_t (xg_getf (va := (0, f1_8)) (hb106.get (by decide) (hb100.get (by decide) (hb94.get (by decide) (hb40.get (by decide) (hF29.get (by decide) (hF22.get (by decide) h1_14)))))) rfl) ?_
          refine xg_cVv mX5_put (vs := [(0, n35), (0, 3), (0, f1_8)]) (rest := []) (cn1 := 0) (sl1 := 0) rfl (rputI (lim := 40) (wd := 5) (B := 4294967295) (hb106.get (by decide) (hb100.get (by decide) (hb94.get (by decide) hk39))) hr104 (hb105) (by decide) (by omega) (by decide) (by decide) (by omega) (by omega) (by omega)) rfl (hb106.get (by decide) (hb100.get (by decide) (hb94.get (by decide) hk39))) rfl rfl rfl rfl rfl rfl (fun w107 hq108 => ?_)
          obtain ⟨g109, hr110, hb111, hb112⟩ := hq108
          refine xg_t (xg_aload (va := (2, 14)) rfl rfl) ?_
          refine xg_t (xg_iload (va := (0, n35)) rfl rfl) ?_
          refine xg_t (xg_const) ?_
          refine xg_t (xg_const) ?_
          refine xg_cVv mX5_put (vs := [(0, n35), (0, 4), (0, 1)]) (rest := []) (cn1 := 0) (sl1 := 0) rfl (rputI (lim := 40) (wd := 5) (B := 4294967295) (hb112.get (by decide) (hb106.get (by decide) (hb100.get (by decide) (hb94.get (by decide) hk39)))) hr110 (hb111) (by decide) (by omega) (by decide) (by decide) (by omega) (by omega) (by omega)) rfl (hb112.get (by decide) (hb106.get (by decide) (hb100.get (by decide) (hb94.get (by decide) hk39)))) rfl rfl rfl rfl rfl rfl (fun w113 hq114 => ?_)
          obtain ⟨g115, hr116, hb117, hb118⟩ := hq114
          refine xg_t (xg_aload (va := (2, 0)) rfl rfl) ?_
          refine xg_t (xg_getf (va := (2, 58)) (hb118.get (by decide) (hb112.get (by decide) (hb106.get (by decide) (hb100.get (by decide) (hb94.get (by decide) (hb40.get (by decide) (hF29.get (by decide) (hF22.get (by decide) h0_1)))))))) rfl) ?_
          obtain ⟨f58_119, f58_121, f58_123, h58_125, hb120, hb122, hb124⟩ := (hI28 58 (by decide) : cp58 (wget w26 58))
          refine xg_cVv mX10_forget (vs := []) (rest := []) (cn1 := 0) (sl1 := 0) rfl (wyForget (xInv.up (S := [14, 15]) hI28 ((((((xFr.of (S := [14, 15]) hb40 (by decide)).tr (xFr.of (S := [14, 15]) hb94 (by decide))).tr (xFr.of (S := [14, 15]) hb100 (by decide))).tr (xFr.of (S := [14, 15]) hb106 (by decide))).tr (xFr.of (S := [14, 15]) hb112 (by decide))).tr (xFr.of (S := [14, 15]) hb118 (by decide))) (List.forall_mem_cons.mpr ⟨(show cp14 (wget w113 14) from ⟨s37, (hb118.get (by decide) (hb112.get (by decide) (hb106.get (by decide) (hb100.get (by decide) (hb94.get (by decide) hk39))))), by omega⟩), List.forall_mem_cons.mpr ⟨(show cpI 200 6 4294967295 (wget w113 15) from ⟨_, hr116, hb117⟩), fun _ h => absurd h List.not_mem_nil⟩⟩))) rfl (hb118.get (by decide) (hb112.get (by decide) (hb106.get (by decide) (hb100.get (by decide) (hb94.get (by decide) (hb40.get (by decide) h58_125)))))) rfl rfl rfl rfl rfl rfl (fun w126 hq127 => ?_)
          obtain ⟨hI128, hF129⟩ := hq127
          refine xg_t (xg_const) ?_
          exact xg_e ⟨1, w126, ⟨rfl, rfl⟩, by omega, hI128, ((((hF22.up (by decide)).tr (hF29.up (by decide))).tr ((((((xFr.of (S := [14, 15, 58]) hb40 (by decide)).tr (xFr.of (S := [14, 15, 58]) hb94 (by decide))).tr (xFr.of (S := [14, 15, 58]) hb100 (by decide))).tr (xFr.of (S := [14, 15, 58]) hb106 (by decide))).tr (xFr.of (S := [14, 15, 58]) hb112 (by decide))).tr (xFr.of (S := [14, 15, 58]) hb118 (by decide)))).tr (hF129.up (by decide)))⟩
      · refine xg_t (xg_icF (u := n30) (v := 4294967295) rfl xnm0 xnm0 (xj_eqF hc32)) ?_
        refine xg_t (xg_blk (b := [(41, 1, 3, 0, 0, 0), (42, 1, 12, 0, 1, 0)]) rfl) ?_
        refine xg_t (xg_const) ?_
        exact xg_e ⟨0, w26, ⟨rfl, rfl⟩, by omega, hI28, ((hF22.up (by decide)).tr (hF29.up (by decide)))⟩
theorem scInCut {so ro co : Nat} (hI : xInv w) (hso : so ≤ 4294967295) (hro : ro ≤ 4294967295) (hco : co ≤ 4294967295) : xPi (d + 5) mX11_inCut [(2, 0), (0, so), (0, ro), (0, co)] w bd fc rr (fun n w' => (n ≤ 1) ∧ xInv w' ∧ xFr [58, 59, 60, 61, 62, 63, 64, 65, 66, 67] w w') := by
  refine xPi.of ?_
  show xTo (d + 5) mX11_inCut (0, [], [(0, (2, 0)), (1, (0, so)), (2, (0, ro)), (3, (0, co))], [], (w, bd, fc, 0, 0, rr)) (fun φ => ∃ n w', xEnd 4 [(0, n)] (w', bd, fc, 0, 0, rr) φ ∧ (n ≤ 1) ∧ xInv w' ∧ xFr [58, 59, 60, 61, 62, 63, 64, 65, 66, 67] w w')
  have h0_1 := (hI 0 (by decide) : cp0 (wget w 0))
  obtain ⟨f1_2, f1_4, f1_6, f1_8, f1_10, f1_12, h1_14, hb3, hb5, hb7, hb9, hb11, hb13⟩ := (hI 1 (by decide) : cp1 (wget w 1))
  obtain ⟨f3_15, f3_17, f3_19, f3_21, f3_23, h3_25, hb16, hb18, hb20, hb22, hb24⟩ := (hI 3 (by decide) : cp3 (wget w 3))
  refine xg_t (xg_blk (b := [(0, 1, 0, 0, 0, 0), (1, 3, 1, 11, 5, 52), (4, 3, 13, 35, 80, 219), (7, 1, 2, 1, 0, 0), (8, 1, 3, 2, 0, 0), (9, 3, 6, 17, 0, 0), (12, 1, 2, 1, 0, 0), (13, 1, 3, 3, 0, 0), (14, 3, 6, 54, 1, 0)]) rfl) ?_
  refine xg_t (xg_aload (va := (2, 0)) rfl rfl) ?_
  refine xg_t (xg_getf (va := (2, 58)) h0_1 rfl) ?_
  obtain ⟨f58_26, f58_28, f58_30, h58_32, hb27, hb29, hb31⟩ := (hI 58 (by decide) : cp58 (wget w 58))
  refine xg_cVv mX10_refresh (vs := []) (rest := []) (cn1 := 0) (sl1 := 0) rfl (wyRefresh (hI)) rfl h58_32 rfl rfl rfl rfl rfl rfl (fun w33 hq34 => ?_)
  obtain ⟨hI35, hF36⟩ := hq34
  refine xg_t (xg_iload (va := (0, so)) rfl rfl) ?_
  refine xg_t (xg_const) ?_
  by_cases hc37 : so = 2
  · refine xg_t (xg_icT (u := so) (v := 2) rfl xnm0 xnm0 (xj_eqT hc37)) ?_
    refine xg_t (xg_blk (b := [(17, 1, 2, 2, 0, 0), (18, 3, 7, 52, 2, 0), (21, 1, 2, 2, 0, 0), (22, 1, 0, 0, 0, 0), (23, 3, 1, 11, 0, 10), (26, 3, 1, 9, 4, 38), (29, 3, 1, 1, 7, 225), (32, 3, 6, 52, 3, 0), (35, 1, 0, 0, 0, 0), (36, 3, 1, 11, 5, 52), (39, 1, 2, 1, 0, 0), (40, 1, 2, 2, 0, 0), (41, 1, 3, 0, 0, 0), (42, 3, 13, 27, 80, 234), (45, 3, 7, 52, 0, 0), (48, 1, 3, 1, 0, 0), (49, 3, 8, 53, 0, 0)]) rfl) ?_
    refine xg_t (xg_iload (va := (0, ro)) rfl rfl) ?_
    by_cases hc38 : ro < 2147483648
    · refine xg_t (xg_ifF (u := ro) rfl xnm0 (xjz_ltF hc38)) ?_
      refine xg_t (xg_iload (va := (0, ro)) rfl rfl) ?_
      refine xg_t (xg_aload (va := (2, 0)) rfl rfl) ?_
      refine xg_t (xg_getf (va := (2, 1)) (hF36.get (by decide) h0_1) rfl) ?_
      refine xg_t (xg_getf (va := (2, 3)) (hF36.get (by decide) h1_14) rfl) ?_
      refine xg_t (xg_getf (va := (0, f3_19)) (hF36.get (by decide) h3_25) rfl) ?_
      by_cases hc39 : ro < f3_19
      · refine xg_t (xg_icF (u := ro) (v := f3_19) rfl xnm0 xnm0 (xj_geF hc39 (by omega))) ?_
        refine xg_t (xg_aload (va := (2, 0)) rfl rfl) ?_
        refine xg_t (xg_getf (va := (2, 58)) (hF36.get (by decide) h0_1) rfl) ?_
        refine xg_t (xg_iload (va := (0, so)) rfl rfl) ?_
        refine xg_t (xg_iload (va := (0, ro)) rfl rfl) ?_
        refine xg_t (xg_const) ?_
        obtain ⟨f58_40, f58_42, f58_44, h58_46, hb41, hb43, hb45⟩ := (hI35 58 (by decide) : cp58 (wget w33 58))
        refine xg_cVi mX10_cuts (vs := [(0, so), (0, ro), (0, 0)]) (rest := []) (cn1 := 0) (sl1 := 0) rfl (wyCuts (hI35) (by omega) (by omega) (by omega)) rfl h58_46 rfl rfl rfl rfl rfl rfl (fun n51 w47 hq48 => ?_)
        obtain ⟨hn52, hI49, hF50⟩ := hq48
        by_cases hc53 : n51 = 0
        · refine xg_t (xg_ifT (u := n51) rfl xnm0 (xj_eqT hc53)) ?_
          refine xg_t (xg_blk (b := [(52, 1, 3, 0, 0, 0)]) rfl) ?_
          refine xg_t (xg_const) ?_
          refine xg_t (xg_blk (b := [(53, 1, 12, 0, 1, 0)]) rfl) ?_
          exact xg_e ⟨0, w47, ⟨rfl, rfl⟩, by omega, hI49, ((hF36.up (by decide)).tr (hF50.up (by decide)))⟩
        · refine xg_t (xg_ifF (u := n51) rfl xnm0 (xj_eqF hc53)) ?_
          refine xg_t (xg_const) ?_
          refine xg_t (xg_goto) ?_
          refine xg_t (xg_blk (b := [(53, 1, 12, 0, 1, 0)]) rfl) ?_
          exact xg_e ⟨1, w47, ⟨rfl, rfl⟩, by omega, hI49, ((hF36.up (by decide)).tr (hF50.up (by decide)))⟩
      · refine xg_t (xg_icT (u := ro) (v := f3_19) rfl xnm0 xnm0 (xj_geT (by omega) (by omega))) ?_
        refine xg_t (xg_blk (b := [(52, 1, 3, 0, 0, 0)]) rfl) ?_
        refine xg_t (xg_const) ?_
        refine xg_t (xg_blk (b := [(53, 1, 12, 0, 1, 0)]) rfl) ?_
        exact xg_e ⟨0, w33, ⟨rfl, rfl⟩, by omega, hI35, (hF36.up (by decide))⟩
    · refine xg_t (xg_ifT (u := ro) rfl xnm0 (xjz_ltT (by omega) (by omega))) ?_
      refine xg_t (xg_blk (b := [(52, 1, 3, 0, 0, 0)]) rfl) ?_
      refine xg_t (xg_const) ?_
      refine xg_t (xg_blk (b := [(53, 1, 12, 0, 1, 0)]) rfl) ?_
      exact xg_e ⟨0, w33, ⟨rfl, rfl⟩, by omega, hI35, (hF36.up (by decide))⟩
  · refine xg_t (xg_icF (u := so) (v := 2) rfl xnm0 xnm0 (xj_eqF hc37)) ?_
    refine xg_t (xg_iload (va := (0, so)) rfl rfl) ?_
    refine xg_t (xg_const) ?_
    by_cases hc54 : so = 3
    · refine xg_t (xg_icF (u := so) (v := 3) rfl xnm0 xnm0 (xj_neF hc54)) ?_
      refine xg_t (xg_blk (b := [(17, 1, 2, 2, 0, 0), (18, 3, 7, 52, 2, 0), (21, 1, 2, 2, 0, 0), (22, 1, 0, 0, 0, 0), (23, 3, 1, 11, 0, 10), (26, 3, 1, 9, 4, 38), (29, 3, 1, 1, 7, 225), (32, 3, 6, 52, 3, 0), (35, 1, 0, 0, 0, 0), (36, 3, 1, 11, 5, 52), (39, 1, 2, 1, 0, 0), (40, 1, 2, 2, 0, 0), (41, 1, 3, 0, 0, 0), (42, 3, 13, 27, 80, 234), (45, 3, 7, 52, 0, 0), (48, 1, 3, 1, 0, 0), (49, 3, 8, 53, 0, 0)]) rfl) ?_
      refine xg_t (xg_iload (va := (0, ro)) rfl rfl) ?_
      by_cases hc55 : ro < 2147483648
      · refine xg_t (xg_ifF (u := ro) rfl xnm0 (xjz_ltF hc55)) ?_
        refine xg_t (xg_iload (va := (0, ro)) rfl rfl) ?_
        refine xg_t (xg_aload (va := (2, 0)) rfl rfl) ?_
        refine xg_t (xg_getf (va := (2, 1)) (hF36.get (by decide) h0_1) rfl) ?_
        refine xg_t (xg_getf (va := (2, 3)) (hF36.get (by decide) h1_14) rfl) ?_
        refine xg_t (xg_getf (va := (0, f3_19)) (hF36.get (by decide) h3_25) rfl) ?_
        by_cases hc56 : ro < f3_19
        · refine xg_t (xg_icF (u := ro) (v := f3_19) rfl xnm0 xnm0 (xj_geF hc56 (by omega))) ?_
          refine xg_t (xg_aload (va := (2, 0)) rfl rfl) ?_
          refine xg_t (xg_getf (va := (2, 58)) (hF36.get (by decide) h0_1) rfl) ?_
          refine xg_t (xg_iload (va := (0, so)) rfl rfl) ?_
          refine xg_t (xg_iload (va := (0, ro)) rfl rfl) ?_
          refine xg_t (xg_const) ?_
          obtain ⟨f58_57, f58_59, f58_61, h58_63, hb58, hb60, hb62⟩ := (hI35 58 (by decide) : cp58 (wget w33 58))
          refine xg_cVi mX10_cuts (vs := [(0, so), (0, ro), (0, 0)]) (rest := []) (cn1 := 0) (sl1 := 0) rfl (wyCuts (hI35) (by omega) (by omega) (by omega)) rfl h58_63 rfl rfl rfl rfl rfl rfl (fun n68 w64 hq65 => ?_)
          obtain ⟨hn69, hI66, hF67⟩ := hq65
          by_cases hc70 : n68 = 0
          · refine xg_t (xg_ifT (u := n68) rfl xnm0 (xj_eqT hc70)) ?_
            refine xg_t (xg_blk (b := [(52, 1, 3, 0, 0, 0)]) rfl) ?_
            refine xg_t (xg_const) ?_
            refine xg_t (xg_blk (b := [(53, 1, 12, 0, 1, 0)]) rfl) ?_
            exact xg_e ⟨0, w64, ⟨rfl, rfl⟩, by omega, hI66, ((hF36.up (by decide)).tr (hF67.up (by decide)))⟩
          · refine xg_t (xg_ifF (u := n68) rfl xnm0 (xj_eqF hc70)) ?_
            refine xg_t (xg_const) ?_
            refine xg_t (xg_goto) ?_
            refine xg_t (xg_blk (b := [(53, 1, 12, 0, 1, 0)]) rfl) ?_
            exact xg_e ⟨1, w64, ⟨rfl, rfl⟩, by omega, hI66, ((hF36.up (by decide)).tr (hF67.up (by decide)))⟩
        · refine xg_t (xg_icT (u := ro) (v := f3_19) rfl xnm0 xnm0 (xj_geT (by omega) (by omega))) ?_
          refine xg_t (xg_blk (b := [(52, 1, 3, 0, 0, 0)]) rfl) ?_
          refine xg_t (xg_const) ?_
          refine xg_t (xg_blk (b := [(53, 1, 12, 0, 1, 0)]) rfl) ?_
          exact xg_e ⟨0, w33, ⟨rfl, rfl⟩, by omega, hI35, (hF36.up (by decide))⟩
      · refine xg_t (xg_ifT (u := ro) rfl xnm0 (xjz_ltT (by omega) (by omega))) ?_
        refine xg_t (xg_blk (b := [(52, 1, 3, 0, 0, 0)]) rfl) ?_
        refine xg_t (xg_const) ?_
        refine xg_t (xg_blk (b := [(53, 1, 12, 0, 1, 0)]) rfl) ?_
        exact xg_e ⟨0, w33, ⟨rfl, rfl⟩, by omega, hI35, (hF36.up (by decide))⟩
    · refine xg_t (xg_icT (u := so) (v := 3) rfl xnm0 xnm0 (xj_neT hc54)) ?_
      refine xg_t (xg_blk (b := [(54, 1, 2, 1, 0, 0), (55, 1, 3, 1, 0, 0), (56, 3, 6, 63, 1, 0), (59, 1, 3, 1, 0, 0), (60, 3, 8, 64, 0, 0)]) rfl) ?_
      refine xg_t (xg_iload (va := (0, so)) rfl rfl) ?_
      refine xg_t (xg_const) ?_
      by_cases hc71 : so = 1
      · refine xg_t (xg_icF (u := so) (v := 1) rfl xnm0 xnm0 (xj_neF hc71)) ?_
        refine xg_t (xg_const) ?_
        refine xg_t (xg_goto) ?_
        refine xg_t (xg_blk (b := [(64, 2, 15, 4, 0, 0), (66, 2, 2, 4, 0, 0), (68, 3, 7, 75, 1, 0), (71, 1, 2, 1, 0, 0), (72, 3, 7, 103, 1, 0)]) rfl) ?_
        refine xg_t (xg_istore (l1 := [(0, (2, 0)), (1, (0, so)), (2, (0, ro)), (3, (0, co))]) rfl rfl rfl) ?_
        refine xg_t (xg_iload (va := (0, 1)) rfl rfl) ?_
        refine xg_t (xg_ifT (u := 1) rfl xnm0 (by decide)) ?_
        refine xg_t (xg_blk (b := [(75, 1, 0, 0, 0, 0), (76, 2, 2, 4, 0, 0), (78, 1, 2, 2, 0, 0), (79, 1, 2, 3, 0, 0), (80, 3, 13, 63, 88, 201), (83, 3, 7, 103, 0, 0), (86, 1, 0, 0, 0, 0), (87, 3, 1, 11, 5, 52), (90, 1, 2, 1, 0, 0), (91, 1, 2, 2, 0, 0), (92, 1, 2, 3, 0, 0), (93, 3, 13, 27, 80, 234), (96, 3, 7, 103, 0, 0), (99, 1, 3, 1, 0, 0), (100, 3, 8, 104, 0, 0)]) rfl) ?_
        refine xg_t (xg_aload (va := (2, 0)) rfl rfl) ?_
        refine xg_t (xg_iload (va := (0, 1)) rfl rfl) ?_
        refine xg_t (xg_iload (va := (0, ro)) rfl rfl) ?_
        refine xg_t (xg_iload (va := (0, co)) rfl rfl) ?_
        refine xg_cVi mX11_hasPart (vs := [(0, 1), (0, ro), (0, co)]) (rest := []) (cn1 := 0) (sl1 := 0) rfl (scHasPart (hI35) (by omega) (by omega) (by omega)) rfl (hF36.get (by decide) h0_1) rfl rfl rfl rfl rfl rfl (fun n76 w72 hq73 => ?_)
        obtain ⟨hn77, hI74, hF75⟩ := hq73
        by_cases hc78 : n76 = 0
        · refine xg_t (xg_ifT (u := n76) rfl xnm0 (xj_eqT hc78)) ?_
          refine xg_t (xg_blk (b := [(103, 1, 3, 0, 0, 0)]) rfl) ?_
          refine xg_t (xg_const) ?_
          refine xg_t (xg_blk (b := [(104, 1, 12, 0, 1, 0)]) rfl) ?_
          exact xg_e ⟨0, w72, ⟨rfl, rfl⟩, by omega, hI74, ((hF36.up (by decide)).tr (hF75.up (by decide)))⟩
        · refine xg_t (xg_ifF (u := n76) rfl xnm0 (xj_eqF hc78)) ?_
          refine xg_t (xg_aload (va := (2, 0)) rfl rfl) ?_
          refine xg_t (xg_getf (va := (2, 58)) (hF75.get (by decide) (hF36.get (by decide) h0_1)) rfl) ?_
          refine xg_t (xg_iload (va := (0, so)) rfl rfl) ?_
          refine xg_t (xg_iload (va := (0, ro)) rfl rfl) ?_
          refine xg_t (xg_iload (va := (0, co)) rfl rfl) ?_
          obtain ⟨f58_79, f58_81, f58_83, h58_85, hb80, hb82, hb84⟩ := (hI74 58 (by decide) : cp58 (wget w72 58))
          refine xg_cVi mX10_cuts (vs := [(0, so), (0, ro), (0, co)]) (rest := []) (cn1 := 0) (sl1 := 0) rfl (wyCuts (hI74) (by omega) (by omega) (by omega)) rfl h58_85 rfl rfl rfl rfl rfl rfl (fun n90 w86 hq87 => ?_)
          obtain ⟨hn91, hI88, hF89⟩ := hq87
          by_cases hc92 : n90 = 0
          · refine xg_t (xg_ifT (u := n90) rfl xnm0 (xj_eqT hc92)) ?_
            refine xg_t (xg_blk (b := [(103, 1, 3, 0, 0, 0)]) rfl) ?_
            refine xg_t (xg_const) ?_
            refine xg_t (xg_blk (b := [(104, 1, 12, 0, 1, 0)]) rfl) ?_
            exact xg_e ⟨0, w86, ⟨rfl, rfl⟩, by omega, hI88, (((hF36.up (by decide)).tr (hF75.up (by decide))).tr (hF89.up (by decide)))⟩
          · refine xg_t (xg_ifF (u := n90) rfl xnm0 (xj_eqF hc92)) ?_
            refine xg_t (xg_const) ?_
            refine xg_t (xg_goto) ?_
            refine xg_t (xg_blk (b := [(104, 1, 12, 0, 1, 0)]) rfl) ?_
            exact xg_e ⟨1, w86, ⟨rfl, rfl⟩, by omega, hI88, (((hF36.up (by decide)).tr (hF75.up (by decide))).tr (hF89.up (by decide)))⟩
      · refine xg_t (xg_icT (u := so) (v := 1) rfl xnm0 xnm0 (xj_neT hc71)) ?_
        refine xg_t (xg_blk (b := [(63, 1, 3, 0, 0, 0)]) rfl) ?_
        refine xg_t (xg_const) ?_
        refine xg_t (xg_blk (b := [(64, 2, 15, 4, 0, 0), (66, 2, 2, 4, 0, 0), (68, 3, 7, 75, 1, 0), (71, 1, 2, 1, 0, 0), (72, 3, 7, 103, 1, 0)]) rfl) ?_
        refine xg_t (xg_istore (l1 := [(0, (2, 0)), (1, (0, so)), (2, (0, ro)), (3, (0, co))]) rfl rfl rfl) ?_
        refine xg_t (xg_iload (va := (0, 0)) rfl rfl) ?_
        refine xg_t (xg_ifF (u := 0) rfl xnm0 (by decide)) ?_
        refine xg_t (xg_iload (va := (0, so)) rfl rfl) ?_
        by_cases hc93 : so = 0
        · refine xg_t (xg_ifF (u := so) rfl xnm0 (xj_neF hc93)) ?_
          refine xg_t (xg_blk (b := [(75, 1, 0, 0, 0, 0), (76, 2, 2, 4, 0, 0), (78, 1, 2, 2, 0, 0), (79, 1, 2, 3, 0, 0), (80, 3, 13, 63, 88, 201), (83, 3, 7, 103, 0, 0), (86, 1, 0, 0, 0, 0), (87, 3, 1, 11, 5, 52), (90, 1, 2, 1, 0, 0), (91, 1, 2, 2, 0, 0), (92, 1, 2, 3, 0, 0), (93, 3, 13, 27, 80, 234), (96, 3, 7, 103, 0, 0), (99, 1, 3, 1, 0, 0), (100, 3, 8, 104, 0, 0)]) rfl) ?_
          refine xg_t (xg_aload (va := (2, 0)) rfl rfl) ?_
          refine xg_t (xg_iload (va := (0, 0)) rfl rfl) ?_
          refine xg_t (xg_iload (va := (0, ro)) rfl rfl) ?_
          refine xg_t (xg_iload (va := (0, co)) rfl rfl) ?_
          refine xg_cVi mX11_hasPart (vs := [(0, 0), (0, ro), (0, co)]) (rest := []) (cn1 := 0) (sl1 := 0) rfl (scHasPart (hI35) (by omega) (by omega) (by omega)) rfl (hF36.get (by decide) h0_1) rfl rfl rfl rfl rfl rfl (fun n98 w94 hq95 => ?_)
          obtain ⟨hn99, hI96, hF97⟩ := hq95
          by_cases hc100 : n98 = 0
          · refine xg_t (xg_ifT (u := n98) rfl xnm0 (xj_eqT hc100)) ?_
            refine xg_t (xg_blk (b := [(103, 1, 3, 0, 0, 0)]) rfl) ?_
            refine xg_t (xg_const) ?_
            refine xg_t (xg_blk (b := [(104, 1, 12, 0, 1, 0)]) rfl) ?_
            exact xg_e ⟨0, w94, ⟨rfl, rfl⟩, by omega, hI96, ((hF36.up (by decide)).tr (hF97.up (by decide)))⟩
          · refine xg_t (xg_ifF (u := n98) rfl xnm0 (xj_eqF hc100)) ?_
            refine xg_t (xg_aload (va := (2, 0)) rfl rfl) ?_
            refine xg_t (xg_getf (va := (2, 58)) (hF97.get (by decide) (hF36.get (by decide) h0_1)) rfl) ?_
            refine xg_t (xg_iload (va := (0, so)) rfl rfl) ?_
            refine xg_t (xg_iload (va := (0, ro)) rfl rfl) ?_
            refine xg_t (xg_iload (va := (0, co)) rfl rfl) ?_
            obtain ⟨f58_101, f58_103, f58_105, h58_107, hb102, hb104, hb106⟩ := (hI96 58 (by decide) : cp58 (wget w94 58))
            refine xg_cVi mX10_cuts (vs := [(0, so), (0, ro), (0, co)]) (rest := []) (cn1 := 0) (sl1 := 0) rfl (wyCuts (hI96) (by omega) (by omega) (by omega)) rfl h58_107 rfl rfl rfl rfl rfl rfl (fun n112 w108 hq109 => ?_)
            obtain ⟨hn113, hI110, hF111⟩ := hq109
            by_cases hc114 : n112 = 0
            · refine xg_t (xg_ifT (u := n112) rfl xnm0 (xj_eqT hc114)) ?_
              refine xg_t (xg_blk (b := [(103, 1, 3, 0, 0, 0)]) rfl) ?_
              refine xg_t (xg_const) ?_
              refine xg_t (xg_blk (b := [(104, 1, 12, 0, 1, 0)]) rfl) ?_
              exact xg_e ⟨0, w108, ⟨rfl, rfl⟩, by omega, hI110, (((hF36.up (by decide)).tr (hF97.up (by decide))).tr (hF111.up (by decide)))⟩
            · refine xg_t (xg_ifF (u := n112) rfl xnm0 (xj_eqF hc114)) ?_
              refine xg_t (xg_const) ?_
              refine xg_t (xg_goto) ?_
              refine xg_t (xg_blk (b := [(104, 1, 12, 0, 1, 0)]) rfl) ?_
              exact xg_e ⟨1, w108, ⟨rfl, rfl⟩, by omega, hI110, (((hF36.up (by decide)).tr (hF97.up (by decide))).tr (hF111.up (by decide)))⟩
        · refine xg_t (xg_ifT (u := so) rfl xnm0 (xj_neT hc93)) ?_
          refine xg_t (xg_blk (b := [(103, 1, 3, 0, 0, 0)]) rfl) ?_
          refine xg_t (xg_const) ?_
          refine xg_t (xg_blk (b := [(104, 1, 12, 0, 1, 0)]) rfl) ?_
          exact xg_e ⟨0, w33, ⟨rfl, rfl⟩, by omega, hI35, (hF36.up (by decide))⟩
theorem scToMend (hI : xInv w)  : xPi (d + 2) mX11_cracksToMend [(2, 0)] w bd fc rr (fun n w' => (n ≤ 4294967295) ∧ xInv w' ∧ xFr [] w w') := by
  refine xPi.of ?_
  show xTo (d + 2) mX11_cracksToMend (0, [], [(0, (2, 0))], [], (w, bd, fc, 0, 0, rr)) (fun φ => ∃ n w', xEnd 1 [(0, n)] (w', bd, fc, 0, 0, rr) φ ∧ (n ≤ 4294967295) ∧ xInv w' ∧ xFr [] w w')
  have h0_1 := (hI 0 (by decide) : cp0 (wget w 0))
  obtain ⟨f1_2, f1_4, f1_6, f1_8, f1_10, f1_12, h1_14, hb3, hb5, hb7, hb9, hb11, hb13⟩ := (hI 1 (by decide) : cp1 (wget w 1))
  obtain ⟨f3_15, f3_17, f3_19, f3_21, f3_23, h3_25, hb16, hb18, hb20, hb22, hb24⟩ := (hI 3 (by decide) : cp3 (wget w 3))
  obtain ⟨f14_26, h14_28, hb27⟩ := (hI 14 (by decide) : cp14 (wget w 14))
  obtain ⟨g15_29, h15_30, hb31⟩ := (hI 15 (by decide) : cpI 200 6 4294967295 (wget w 15))
  have h15_30 : xRow w 15 200 6 g15_29 := h15_30
  refine xg_t (xg_blk (b := [(0, 1, 3, 0, 0, 0), (1, 1, 15, 1, 0, 0), (2, 1, 3, 0, 0, 0), (3, 1, 15, 2, 0, 0)]) rfl) ?_
  refine xg_t (xg_const) ?_
  refine xg_t (xg_istore (l1 := [(0, (2, 0))]) rfl rfl rfl) ?_
  refine xg_t (xg_const) ?_
  refine xg_t (xg_istore (l1 := [(1, (0, 0)), (0, (2, 0))]) rfl rfl rfl) ?_
  refine xg_t (xg_drop (l1 := [(0, (2, 0)), (1, (0, 0)), (2, (0, 0))]) (List.forall_mem_cons.mpr ⟨List.mem_cons_of_mem _ (List.mem_cons_of_mem _ (List.mem_cons_self)), List.forall_mem_cons.mpr ⟨List.mem_cons_of_mem _ (List.mem_cons_self), List.forall_mem_cons.mpr ⟨List.mem_cons_self, fun _ h => absurd h List.not_mem_nil⟩⟩⟩)) ?_
  have key32 : ∀ (m34 : Nat) (se ki : Nat) (w35 : List (List xE)), 40 - ki < m34 → se ≤ 4294967295 → ki ≤ 40 → xInv w35 → xFr [] w w35 → xTo (d + 2) mX11_cracksToMend (4, [], [(0, (2, 0)), (1, (0, se)), (2, (0, ki))], [], (w35, bd, fc, 0, 0, rr)) (fun φ => ∃ n w', xEnd 1 [(0, n)] (w', bd, fc, 0, 0, rr) φ ∧ (n ≤ 4294967295) ∧ xInv w' ∧ xFr [] w w') := by
    intro m34
    induction m34 with
    | zero => intro se ki w35 hz; exact absurd hz (Nat.not_lt_zero _)
    | succ m34 ih33 =>
      intro se ki w35 hm40 hn38 hn39 hI36 hF37
      refine xg_t (xg_blk (b := [(4, 1, 2, 2, 0, 0), (5, 1, 0, 0, 0, 0), (6, 3, 1, 11, 0, 10), (9, 3, 13, 323, 72, 216), (12, 3, 6, 48, 3, 0), (15, 1, 2, 2, 0, 0), (16, 2, 4, 10, 0, 0), (18, 3, 6, 48, 3, 0), (21, 1, 0, 0, 0, 0), (22, 3, 1, 11, 0, 10), (25, 3, 1, 9, 5, 195), (28, 1, 2, 2, 0, 0), (29, 1, 3, 0, 0, 0), (30, 3, 13, 285, 40, 132), (33, 3, 7, 42, 1, 0), (36, 1, 2, 1, 0, 0), (37, 1, 3, 1, 0, 0), (38, 1, 2, 2, 0, 0), (39, 1, 26, 0, 0, 0), (40, 1, 38, 0, 0, 0), (41, 1, 15, 1, 0, 0)]) rfl) ?_
      refine xg_t (xg_iload (va := (0, ki)) rfl rfl) ?_
      refine xg_t (xg_aload (va := (2, 0)) rfl rfl) ?_
      refine xg_t (xg_getf (va := (2, 1)) (hF37.get (by decide) h0_1) rfl) ?_
      refine xg_cVi mX9_cracksInView (vs := []) (rest := [(0, ki)]) (cn1 := 0) (sl1 := 0) rfl (tdCracksInView (hI36)) rfl (hF37.get (by decide) h1_14) rfl rfl rfl rfl rfl rfl (fun n45 w41 hq42 => ?_)
      obtain ⟨hn46, hI43, hF44⟩ := hq42
      by_cases hc47 : ki < n45
      · refine xg_t (xg_icF (u := ki) (v := n45) rfl xnm0 xnm0 (xj_geF hc47 (by omega))) ?_
        refine xg_t (xg_iload (va := (0, ki)) rfl rfl) ?_
        refine xg_t (xg_bip) ?_
        by_cases hc48 : ki < 10
        · refine xg_t (xg_icF (u := ki) (v := 10) rfl xnm0 xnm0 (xj_geF hc48 (by omega))) ?_
          refine xg_t (xg_aload (va := (2, 0)) rfl rfl) ?_
          refine xg_t (xg_getf (va := (2, 1)) (hF44.get (by decide) (hF37.get (by decide) h0_1)) rfl) ?_
          refine xg_t (xg_getf (va := (2, 14)) (hF44.get (by decide) (hF37.get (by decide) h1_14)) rfl) ?_
          refine xg_t (xg_iload (va := (0, ki)) rfl rfl) ?_
          refine xg_t (xg_const) ?_
          refine xg_k (xg_cVr mX5_get (vs := [(0, ki), (0, 0)]) (rest := []) (rs := [(0, if ki < f14_26 ∧ 0 < 5 then g15_29 (ki * 5 + 0) else 4294967295)]) (cn1 := 0) (sl1 := 0) rfl (rget_ok (lim := 40) (wd := 5) (sz := f14_26) (hF44.get (by decide) (hF37.get (by decide) h14_28)) ((h15_30.fr hF37 (by decide)).fr hF44 (by decide)) (by decide) (by omega) (by decide) (by decide) (by omega) (by omega)) rfl (hF44.get (by decide) (hF37.get (by decide) h14_28)) rfl rfl rfl rfl rfl rfl rfl) (xiteb (hb31)) (fun z49 hz50 => ?_)
          by_cases hc51 : z49 = 0
          · refine xg_t (xg_ifF (u := z49) rfl xnm0 (xj_neF hc51)) ?_
            refine xg_t (xg_iload (va := (0, se)) rfl rfl) ?_
            refine xg_t (xg_const) ?_
            refine xg_t (xg_iload (va := (0, ki)) rfl rfl) ?_
            refine xg_k (xg_ishlG (u := 1) (v := ki) xnm0 xnm0) (xpt_lt _) (fun z52 hz53 => ?_)
            refine xg_k (xg_ior (z := Nat.lor se z52) (u := se) (v := z52) xnm0 xnm0 rfl) (xlor_lt (by omega) (by omega)) (fun z54 hz55 => ?_)
            refine xg_t (xg_istore (l1 := [(0, (2, 0)), (2, (0, ki))]) rfl rfl rfl) ?_
            refine xg_t (xg_blk (b := [(42, 3, 9, 2, 1, 0), (45, 3, 8, 4, 0, 0)]) rfl) ?_
            refine xg_t (xg_iinc (u := ki) (z := ki + 1) (l1 := [(1, (0, z54)), (0, (2, 0))]) rfl rfl (by omega) rfl) ?_
            refine xg_t (xg_goto) ?_
            refine xg_t (xg_drop (l1 := [(0, (2, 0)), (1, (0, z54)), (2, (0, ki + 1))]) (List.forall_mem_cons.mpr ⟨List.mem_cons_of_mem _ (List.mem_cons_of_mem _ (List.mem_cons_self)), List.forall_mem_cons.mpr ⟨List.mem_cons_of_mem _ (List.mem_cons_self), List.forall_mem_cons.mpr ⟨List.mem_cons_self, fun _ h => absurd h List.not_mem_nil⟩⟩⟩)) ?_
            exact ih33 z54 (ki + 1) w41 (by omega) (by omega) (by omega) (hI43) ((hF37.tr (hF44.up (by decide))))
          · refine xg_t (xg_ifT (u := z49) rfl xnm0 (xj_neT hc51)) ?_
            refine xg_t (xg_blk (b := [(42, 3, 9, 2, 1, 0), (45, 3, 8, 4, 0, 0)]) rfl) ?_
            refine xg_t (xg_iinc (u := ki) (z := ki + 1) (l1 := [(0, (2, 0)), (1, (0, se))]) rfl rfl (by omega) rfl) ?_
            refine xg_t (xg_goto) ?_
            refine xg_t (xg_drop (l1 := [(0, (2, 0)), (1, (0, se)), (2, (0, ki + 1))]) (List.forall_mem_cons.mpr ⟨List.mem_cons_of_mem _ (List.mem_cons_self), List.forall_mem_cons.mpr ⟨List.mem_cons_of_mem _ (List.mem_cons_of_mem _ (List.mem_cons_self)), List.forall_mem_cons.mpr ⟨List.mem_cons_self, fun _ h => absurd h List.not_mem_nil⟩⟩⟩)) ?_
            exact ih33 se (ki + 1) w41 (by omega) (by omega) (by omega) (hI43) ((hF37.tr (hF44.up (by decide))))
        · refine xg_t (xg_icT (u := ki) (v := 10) rfl xnm0 xnm0 (xj_geT (by omega) (by omega))) ?_
          refine xg_t (xg_blk (b := [(48, 1, 2, 1, 0, 0), (49, 1, 12, 0, 1, 0)]) rfl) ?_
          refine xg_t (xg_iload (va := (0, se)) rfl rfl) ?_
          exact xg_e ⟨se, w41, ⟨rfl, rfl⟩, by omega, hI43, (hF37.tr (hF44.up (by decide)))⟩
      · refine xg_t (xg_icT (u := ki) (v := n45) rfl xnm0 xnm0 (xj_geT (by omega) (by omega))) ?_
        refine xg_t (xg_blk (b := [(48, 1, 2, 1, 0, 0), (49, 1, 12, 0, 1, 0)]) rfl) ?_
        refine xg_t (xg_iload (va := (0, se)) rfl rfl) ?_
        exact xg_e ⟨se, w41, ⟨rfl, rfl⟩, by omega, hI43, (hF37.tr (hF44.up (by decide)))⟩
  exact key32 _ 0 0 w (Nat.lt_succ_self _) (by omega) (by omega) (hI) (xFr.rf)
theorem scCostOf {se : Nat} (hI : xInv w) (hse : se ≤ 4294967295) : xPi (d + 1) mX11_costOf [(2, 0), (0, se)] w bd fc rr (fun n w' => (n ≤ 4294967295) ∧ xInv w' ∧ xFr [] w w') := by
  refine xPi.of ?_
  show xTo (d + 1) mX11_costOf (0, [], [(0, (2, 0)), (1, (0, se))], [], (w, bd, fc, 0, 0, rr)) (fun φ => ∃ n w', xEnd 1 [(0, n)] (w', bd, fc, 0, 0, rr) φ ∧ (n ≤ 4294967295) ∧ xInv w' ∧ xFr [] w w')
  have h0_1 := (hI 0 (by decide) : cp0 (wget w 0))
  obtain ⟨f1_2, f1_4, f1_6, f1_8, f1_10, f1_12, h1_14, hb3, hb5, hb7, hb9, hb11, hb13⟩ := (hI 1 (by decide) : cp1 (wget w 1))
  obtain ⟨f3_15, f3_17, f3_19, f3_21, f3_23, h3_25, hb16, hb18, hb20, hb22, hb24⟩ := (hI 3 (by decide) : cp3 (wget w 3))
  obtain ⟨f14_26, h14_28, hb27⟩ := (hI 14 (by decide) : cp14 (wget w 14))
  obtain ⟨g15_29, h15_30, hb31⟩ := (hI 15 (by decide) : cpI 200 6 4294967295 (wget w 15))
  have h15_30 : xRow w 15 200 6 g15_29 := h15_30
  refine xg_t (xg_blk (b := [(0, 1, 3, 0, 0, 0), (1, 1, 15, 2, 0, 0), (2, 1, 3, 0, 0, 0), (3, 1, 15, 3, 0, 0)]) rfl) ?_
  refine xg_t (xg_const) ?_
  refine xg_t (xg_istore (l1 := [(0, (2, 0)), (1, (0, se))]) rfl rfl rfl) ?_
  refine xg_t (xg_const) ?_
  refine xg_t (xg_istore (l1 := [(2, (0, 0)), (0, (2, 0)), (1, (0, se))]) rfl rfl rfl) ?_
  refine xg_t (xg_drop (l1 := [(0, (2, 0)), (1, (0, se)), (2, (0, 0)), (3, (0, 0))]) (List.forall_mem_cons.mpr ⟨List.mem_cons_of_mem _ (List.mem_cons_of_mem _ (List.mem_cons_self)), List.forall_mem_cons.mpr ⟨List.mem_cons_of_mem _ (List.mem_cons_of_mem _ (List.mem_cons_of_mem _ (List.mem_cons_self))), List.forall_mem_cons.mpr ⟨List.mem_cons_of_mem _ (List.mem_cons_self), List.forall_mem_cons.mpr ⟨List.mem_cons_self, fun _ h => absurd h List.not_mem_nil⟩⟩⟩⟩)) ?_
  have key32 : ∀ (m34 : Nat) (co ki : Nat) (w35 : List (List xE)), 40 - ki < m34 → co ≤ 4294967295 → ki ≤ 40 → xInv w35 → xFr [] w w35 → xTo (d + 1) mX11_costOf (4, [], [(0, (2, 0)), (1, (0, se)), (2, (0, co)), (3, (0, ki))], [], (w35, bd, fc, 0, 0, rr)) (fun φ => ∃ n w', xEnd 1 [(0, n)] (w', bd, fc, 0, 0, rr) φ ∧ (n ≤ 4294967295) ∧ xInv w' ∧ xFr [] w w') := by
    intro m34
    induction m34 with
    | zero => intro co ki w35 hz; exact absurd hz (Nat.not_lt_zero _)
    | succ m34 ih33 =>
      intro co ki w35 hm40 hn38 hn39 hI36 hF37
      refine xg_t (xg_blk (b := [(4, 1, 2, 3, 0, 0), (5, 1, 0, 0, 0, 0), (6, 3, 1, 11, 0, 10), (9, 3, 1, 9, 5, 195), (12, 3, 1, 5, 3, 151), (15, 3, 6, 54, 3, 0), (18, 1, 2, 3, 0, 0), (19, 2, 4, 10, 0, 0), (21, 3, 6, 54, 3, 0), (24, 1, 2, 1, 0, 0), (25, 1, 2, 3, 0, 0), (26, 1, 29, 0, 0, 0), (27, 1, 3, 1, 0, 0), (28, 1, 30, 0, 0, 0), (29, 1, 3, 1, 0, 0), (30, 3, 6, 48, 1, 0), (33, 1, 2, 2, 0, 0), (34, 1, 0, 0, 0, 0), (35, 3, 1, 11, 0, 10), (38, 3, 1, 9, 5, 195), (41, 1, 2, 3, 0, 0), (42, 1, 3, 4, 0, 0), (43, 3, 13, 285, 40, 132), (46, 1, 11, 0, 0, 0), (47, 1, 15, 2, 0, 0)]) rfl) ?_
      refine xg_t (xg_iload (va := (0, ki)) rfl rfl) ?_
      refine xg_t (xg_aload (va := (2, 0)) rfl rfl) ?_
      refine xg_t (xg_getf (va := (2, 1)) (hF37.get (by decide) h0_1) rfl) ?_
      refine xg_t (xg_getf (va := (2, 14)) (hF37.get (by decide) h1_14) rfl) ?_
      refine xg_t (xg_getf (va := (0, f14_26)) (hF37.get (by decide) h14_28) rfl) ?_
      by_cases hc41 : ki < f14_26
      · refine xg_t (xg_icF (u := ki) (v := f14_26) rfl xnm0 xnm0 (xj_geF hc41 (by omega))) ?_
        refine xg_t (xg_iload (va := (0, ki)) rfl rfl) ?_
        refine xg_t (xg_bip) ?_
        by_cases hc42 : ki < 10
        · refine xg_t (xg_icF (u := ki) (v := 10) rfl xnm0 xnm0 (xj_geF hc42 (by omega))) ?_
          refine xg_t (xg_iload (va := (0, se)) rfl rfl) ?_
          refine xg_t (xg_iload (va := (0, ki)) rfl rfl) ?_
          refine xg_k (xg_ishrG (u := se) (v := ki) xnm0 xnm0) (xpt_lt _) (fun z43 hz44 => ?_)
          refine xg_t (xg_const) ?_
          refine xg_k (xg_iand (z := Nat.land z43 1) (u := z43) (v := 1) xnm0 xnm0 rfl) (xland_lt (by omega)) (fun z45 hz46 => ?_)
          refine xg_t (xg_const) ?_
          by_cases hc47 : z45 = 1
          · refine xg_t (xg_icF (u := z45) (v := 1) rfl xnm0 xnm0 (xj_neF hc47)) ?_
            refine xg_t (xg_iload (va := (0, co)) rfl rfl) ?_
            refine xg_t (xg_aload (va := (2, 0)) rfl rfl) ?_
            refine xg_t (xg_getf (va := (2, 1)) (hF37.get (by decide) h0_1) rfl) ?_
            refine xg_t (xg_getf (va := (2, 14)) (hF37.get (by decide) h1_14) rfl) ?_
            refine xg_t (xg_iload (va := (0, ki)) rfl rfl) ?_
            refine xg_t (xg_const) ?_
            refine xg_k (xg_cVr mX5_get (vs := [(0, ki), (0, 4)]) (rest := [(0, co)]) (rs := [(0, if ki < f14_26 ∧ 4 < 5 then g15_29 (ki * 5 + 4) else 4294967295), (0, co)]) (cn1 := 0) (sl1 := 0) rfl (rget_ok (lim := 40) (wd := 5) (sz := f14_26) (hF37.get (by decide) h14_28) (h15_30.fr hF37 (by decide)) (by decide) (by omega) (by decide) (by decide) (by omega) (by omega)) rfl (hF37.get (by decide) h14_28) rfl rfl rfl rfl rfl rfl rfl) (xiteb (hb31)) (fun z48 hz49 => ?_)
            refine xg_k (xg_iadd (u := co) (v := z48) (z := (co + z48) % 4294967296) xnm0 xnm0 rfl) (Nat.mod_lt _ (by decide)) (fun z50 hz51 => ?_)
            refine xg_t (xg_istore (l1 := [(0, (2, 0)), (1, (0, se)), (3, (0, ki))]) rfl rfl rfl) ?_
            refine xg_t (xg_blk (b := [(48, 3, 9, 3, 1, 0), (51, 3, 8, 4, 0, 0)]) rfl) ?_
            refine xg_t (xg_iinc (u := ki) (z := ki + 1) (l1 := [(2, (0, z50)), (0, (2, 0)), (1, (0, se))]) rfl rfl (by omega) rfl) ?_
            refine xg_t (xg_goto) ?_
            refine xg_t (xg_drop (l1 := [(0, (2, 0)), (1, (0, se)), (2, (0, z50)), (3, (0, ki + 1))]) (List.forall_mem_cons.mpr ⟨List.mem_cons_of_mem _ (List.mem_cons_of_mem _ (List.mem_cons_self)), List.forall_mem_cons.mpr ⟨List.mem_cons_of_mem _ (List.mem_cons_of_mem _ (List.mem_cons_of_mem _ (List.mem_cons_self))), List.forall_mem_cons.mpr ⟨List.mem_cons_of_mem _ (List.mem_cons_self), List.forall_mem_cons.mpr ⟨List.mem_cons_self, fun _ h => absurd h List.not_mem_nil⟩⟩⟩⟩)) ?_
            exact ih33 z50 (ki + 1) w35 (by omega) (by omega) (by omega) (hI36) (hF37)
          · refine xg_t (xg_icT (u := z45) (v := 1) rfl xnm0 xnm0 (xj_neT hc47)) ?_
            refine xg_t (xg_blk (b := [(48, 3, 9, 3, 1, 0), (51, 3, 8, 4, 0, 0)]) rfl) ?_
            refine xg_t (xg_iinc (u := ki) (z := ki + 1) (l1 := [(0, (2, 0)), (1, (0, se)), (2, (0, co))]) rfl rfl (by omega) rfl) ?_
            refine xg_t (xg_goto) ?_
            refine xg_t (xg_drop (l1 := [(0, (2, 0)), (1, (0, se)), (2, (0, co)), (3, (0, ki + 1))]) (List.forall_mem_cons.mpr ⟨List.mem_cons_of_mem _ (List.mem_cons_self), List.forall_mem_cons.mpr ⟨List.mem_cons_of_mem _ (List.mem_cons_of_mem _ (List.mem_cons_self)), List.forall_mem_cons.mpr ⟨List.mem_cons_of_mem _ (List.mem_cons_of_mem _ (List.mem_cons_of_mem _ (List.mem_cons_self))), List.forall_mem_cons.mpr ⟨List.mem_cons_self, fun _ h => absurd h List.not_mem_nil⟩⟩⟩⟩)) ?_
            exact ih33 co (ki + 1) w35 (by omega) (by omega) (by omega) (hI36) (hF37)
        · refine xg_t (xg_icT (u := ki) (v := 10) rfl xnm0 xnm0 (xj_geT (by omega) (by omega))) ?_
          refine xg_t (xg_blk (b := [(54, 1, 2, 2, 0, 0), (55, 1, 12, 0, 1, 0)]) rfl) ?_
          refine xg_t (xg_iload (va := (0, co)) rfl rfl) ?_
          exact xg_e ⟨co, w35, ⟨rfl, rfl⟩, by omega, hI36, hF37⟩
      · refine xg_t (xg_icT (u := ki) (v := f14_26) rfl xnm0 xnm0 (xj_geT (by omega) (by omega))) ?_
        refine xg_t (xg_blk (b := [(54, 1, 2, 2, 0, 0), (55, 1, 12, 0, 1, 0)]) rfl) ?_
        refine xg_t (xg_iload (va := (0, co)) rfl rfl) ?_
        exact xg_e ⟨co, w35, ⟨rfl, rfl⟩, by omega, hI36, hF37⟩
  exact key32 _ 0 0 w (Nat.lt_succ_self _) (by omega) (by omega) (hI) (xFr.rf)
theorem scMend {wh : Nat} (hI : xInv w) (hwh : wh ≤ 4294967295) : xPi (d + 3) mX11_mend [(2, 0), (0, wh)] w bd fc rr (fun n w' => (n ≤ 4294967295) ∧ xInv w' ∧ xFr [] w w') := by
  refine xPi.of ?_
  show xTo (d + 3) mX11_mend (0, [], [(0, (2, 0)), (1, (0, wh))], [], (w, bd, fc, 0, 0, rr)) (fun φ => ∃ n w', xEnd 1 [(0, n)] (w', bd, fc, 0, 0, rr) φ ∧ (n ≤ 4294967295) ∧ xInv w' ∧ xFr [] w w')
  refine xg_t (xg_blk (b := [(0, 1, 0, 0, 0, 0), (1, 3, 1, 11, 0, 10), (4, 3, 13, 323, 72, 216), (7, 2, 4, 10, 0, 0), (9, 3, 6, 14, 5, 0), (12, 1, 3, 4294967295, 0, 0), (13, 1, 12, 0, 1, 0)]) rfl) ?_
  refine xg_t (xg_aload (va := (2, 0)) rfl rfl) ?_
  have h0_1 := (hI 0 (by decide) : cp0 (wget w 0))
  refine xg_t (xg_getf (va := (2, 1)) h0_1 rfl) ?_
  obtain ⟨f1_2, f1_4, f1_6, f1_8, f1_10, f1_12, h1_14, hb3, hb5, hb7, hb9, hb11, hb13⟩ := (hI 1 (by decide) : cp1 (wget w 1))
  refine xg_cVi mX9_cracksInView (vs := []) (rest := []) (cn1 := 0) (sl1 := 0) rfl (tdCracksInView (hI)) rfl h1_14 rfl rfl rfl rfl rfl rfl (fun n19 w15 hq16 => ?_)
  obtain ⟨hn20, hI17, hF18⟩ := hq16
  refine xg_t (xg_bip) ?_
  by_cases hc21 : 10 < n19
  · refine xg_t (xg_icF (u := n19) (v := 10) rfl xnm0 xnm0 (xj_leF hc21 (by omega))) ?_
    refine xg_t (xg_const) ?_
    exact xg_e ⟨4294967295, w15, ⟨rfl, rfl⟩, by omega, hI17, (hF18.up (by decide))⟩
  · refine xg_t (xg_icT (u := n19) (v := 10) rfl xnm0 xnm0 (xj_leT (by omega) (by omega))) ?_
    refine xg_t (xg_blk (b := [(14, 1, 0, 0, 0, 0), (15, 3, 13, 49, 88, 241), (18, 1, 15, 2, 0, 0), (19, 1, 2, 1, 0, 0), (20, 28, 33, 61, 0, 6)]) rfl) ?_
    refine xg_t (xg_aload (va := (2, 0)) rfl rfl) ?_
    refine xg_cVi mX11_cracksToMend (vs := []) (rest := []) (cn1 := 0) (sl1 := 0) rfl (scToMend (hI17)) rfl (hF18.get (by decide) h0_1) rfl rfl rfl rfl rfl rfl (fun n26 w22 hq23 => ?_)
    obtain ⟨hn27, hI24, hF25⟩ := hq23
    refine xg_t (xg_istore (l1 := [(0, (2, 0)), (1, (0, wh))]) rfl rfl rfl) ?_
    refine xg_t (xg_iload (va := (0, wh)) rfl rfl) ?_
    by_cases hc28 : wh = 0
    · refine xg_t (xg_swt (ks := [(0, 48), (1, 54), (2, 59)]) (u := wh) (z := 48) rfl rfl rfl xnm0 (xsw_y hc28)) ?_
      refine xg_t (xg_blk (b := [(48, 1, 0, 0, 0, 0), (49, 1, 2, 2, 0, 0), (50, 3, 13, 43, 88, 244), (53, 1, 12, 0, 1, 0)]) rfl) ?_
      refine xg_t (xg_aload (va := (2, 0)) rfl rfl) ?_
      refine xg_t (xg_iload (va := (0, n26)) rfl rfl) ?_
      refine xg_cVi mX11_costOf (vs := [(0, n26)]) (rest := []) (cn1 := 0) (sl1 := 0) rfl (scCostOf (hI24) (by omega)) rfl (hF25.get (by decide) (hF18.get (by decide) h0_1)) rfl rfl rfl rfl rfl rfl (fun n33 w29 hq30 => ?_)
      obtain ⟨hn34, hI31, hF32⟩ := hq30
      exact xg_e ⟨n33, w29, ⟨rfl, rfl⟩, by omega, hI31, (((hF18.up (by decide)).tr (hF25.up (by decide))).tr (hF32.up (by decide)))⟩
    · by_cases hc35 : wh = 1
      · refine xg_t (xg_swt (ks := [(0, 48), (1, 54), (2, 59)]) (u := wh) (z := 54) rfl rfl rfl xnm0 (xsw_n hc28 (xsw_y hc35))) ?_
        refine xg_t (xg_blk (b := [(54, 1, 2, 2, 0, 0), (55, 3, 13, 0, 2, 247), (58, 1, 12, 0, 1, 0)]) rfl) ?_
        refine xg_t (xg_iload (va := (0, n26)) rfl rfl) ?_
        refine xg_cSi mJ6_bitCount_0f7a4 (vs := [(0, n26)]) (rest := []) (cn1 := 0) (sl1 := 0) rfl (jbBitCount (hI24) (by omega)) rfl rfl rfl rfl rfl rfl rfl (fun n40 w36 hq37 => ?_)
        obtain ⟨hn41, hI38, hF39⟩ := hq37
        exact xg_e ⟨n40, w36, ⟨rfl, rfl⟩, by omega, hI38, (((hF18.up (by decide)).tr (hF25.up (by decide))).tr (hF39.up (by decide)))⟩
      · by_cases hc42 : wh = 2
        · refine xg_t (xg_swt (ks := [(0, 48), (1, 54), (2, 59)]) (u := wh) (z := 59) rfl rfl rfl xnm0 (xsw_n hc28 (xsw_n hc35 (xsw_y hc42)))) ?_
          refine xg_t (xg_blk (b := [(59, 1, 2, 2, 0, 0), (60, 1, 12, 0, 1, 0)]) rfl) ?_
          refine xg_t (xg_iload (va := (0, n26)) rfl rfl) ?_
          exact xg_e ⟨n26, w22, ⟨rfl, rfl⟩, by omega, hI24, ((hF18.up (by decide)).tr (hF25.up (by decide)))⟩
        · refine xg_t (xg_swt (ks := [(0, 48), (1, 54), (2, 59)]) (u := wh) (z := 61) rfl rfl rfl xnm0 (xsw_n hc28 (xsw_n hc35 (xsw_n hc42 (xsw_d))))) ?_
          refine xg_t (xg_blk (b := [(61, 1, 3, 4294967295, 0, 0), (62, 1, 12, 0, 1, 0)]) rfl) ?_
          refine xg_t (xg_const) ?_
          exact xg_e ⟨4294967295, w22, ⟨rfl, rfl⟩, by omega, hI24, ((hF18.up (by decide)).tr (hF25.up (by decide)))⟩
theorem scValue {xx yy wi hi : Nat} (hI : xInv w) (hxx : xx ≤ 4294967295) (hyy : yy ≤ 4294967295) (hwi : wi ≤ 4294967295) (hhi : hi ≤ 4294967295) : xPi (d + 4) mX11_value [(2, 0), (0, xx), (0, yy), (0, wi), (0, hi)] w bd fc rr (fun n w' => (n ≤ 4294967295) ∧ xInv w' ∧ xFr [72, 73] w w') := by
  refine xPi.of ?_
  show xTo (d + 4) mX11_value (0, [], [(0, (2, 0)), (1, (0, xx)), (2, (0, yy)), (3, (0, wi)), (4, (0, hi))], [], (w, bd, fc, 0, 0, rr)) (fun φ => ∃ n w', xEnd 1 [(0, n)] (w', bd, fc, 0, 0, rr) φ ∧ (n ≤ 4294967295) ∧ xInv w' ∧ xFr [72, 73] w w')
  have h0_1 := (hI 0 (by decide) : cp0 (wget w 0))
  obtain ⟨f1_2, f1_4, f1_6, f1_8, f1_10, f1_12, h1_14, hb3, hb5, hb7, hb9, hb11, hb13⟩ := (hI 1 (by decide) : cp1 (wget w 1))
  obtain ⟨f3_15, f3_17, f3_19, f3_21, f3_23, h3_25, hb16, hb18, hb20, hb22, hb24⟩ := (hI 3 (by decide) : cp3 (wget w 3))
  refine xg_t (xg_blk (b := [(0, 1, 2, 1, 0, 0), (1, 3, 7, 43, 2, 0), (4, 1, 2, 3, 0, 0), (5, 1, 3, 1, 0, 0), (6, 3, 6, 43, 2, 0), (9, 1, 2, 3, 0, 0), (10, 1, 0, 0, 0, 0), (11, 3, 1, 11, 0, 10), (14, 3, 1, 9, 4, 38), (17, 3, 1, 1, 5, 297), (20, 3, 6, 43, 4, 0), (23, 1, 2, 1, 0, 0), (24, 1, 0, 0, 0, 0), (25, 3, 1, 11, 0, 10), (28, 3, 1, 9, 4, 38), (31, 3, 1, 1, 5, 297), (34, 1, 2, 3, 0, 0), (35, 1, 18, 0, 0, 0), (36, 3, 6, 43, 4, 0), (39, 1, 3, 1, 0, 0), (40, 3, 8, 44, 0, 0)]) rfl) ?_
  refine xg_t (xg_iload (va := (0, xx)) rfl rfl) ?_
  by_cases hc26 : xx < 2147483648
  · refine xg_t (xg_ifF (u := xx) rfl xnm0 (xjz_ltF hc26)) ?_
    refine xg_t (xg_iload (va := (0, wi)) rfl rfl) ?_
    refine xg_t (xg_const) ?_
    by_cases hc27 : xbs wi < xbs 1
    · have hc27u := hc27
      unfold xbs at hc27u
      refine xg_t (xg_icT (u := wi) (v := 1) rfl xnm0 xnm0 (xjs_ltT hc27)) ?_
      refine xg_t (xg_blk (b := [(43, 1, 3, 0, 0, 0)]) rfl) ?_
      refine xg_t (xg_const) ?_
      refine xg_t (xg_blk (b := [(44, 2, 15, 5, 0, 0), (46, 1, 2, 2, 0, 0), (47, 3, 7, 92, 2, 0), (50, 2, 2, 4, 0, 0), (52, 1, 3, 1, 0, 0), (53, 3, 6, 92, 2, 0), (56, 2, 2, 4, 0, 0), (58, 1, 0, 0, 0, 0), (59, 3, 1, 11, 0, 10), (62, 3, 1, 9, 4, 38), (65, 3, 1, 1, 6, 300), (68, 3, 6, 92, 4, 0), (71, 1, 2, 2, 0, 0), (72, 1, 0, 0, 0, 0), (73, 3, 1, 11, 0, 10), (76, 3, 1, 9, 4, 38), (79, 3, 1, 1, 6, 300), (82, 2, 2, 4, 0, 0), (84, 1, 18, 0, 0, 0), (85, 3, 6, 92, 4, 0), (88, 1, 3, 1, 0, 0), (89, 3, 8, 93, 0, 0)]) rfl) ?_
      refine xg_t (xg_istore (l1 := [(0, (2, 0)), (1, (0, xx)), (2, (0, yy)), (3, (0, wi)), (4, (0, hi))]) rfl rfl rfl) ?_
      refine xg_t (xg_iload (va := (0, yy)) rfl rfl) ?_
      by_cases hc28 : yy < 2147483648
      · refine xg_t (xg_ifF (u := yy) rfl xnm0 (xjz_ltF hc28)) ?_
        refine xg_t (xg_iload (va := (0, hi)) rfl rfl) ?_
        refine xg_t (xg_const) ?_
        by_cases hc29 : xbs hi < xbs 1
        · have hc29u := hc29
          unfold xbs at hc29u
          refine xg_t (xg_icT (u := hi) (v := 1) rfl xnm0 xnm0 (xjs_ltT hc29)) ?_
          refine xg_t (xg_blk (b := [(92, 1, 3, 0, 0, 0)]) rfl) ?_
          refine xg_t (xg_const) ?_
          refine xg_t (xg_blk (b := [(93, 2, 15, 6, 0, 0), (95, 2, 2, 5, 0, 0), (97, 3, 7, 105, 0, 0), (100, 2, 2, 6, 0, 0), (102, 3, 7, 107, 1, 0)]) rfl) ?_
          refine xg_t (xg_istore (l1 := [(5, (0, 0)), (0, (2, 0)), (1, (0, xx)), (2, (0, yy)), (3, (0, wi)), (4, (0, hi))]) rfl rfl rfl) ?_
          refine xg_t (xg_iload (va := (0, 0)) rfl rfl) ?_
          refine xg_t (xg_ifT (u := 0) rfl xnm0 (by decide)) ?_
          refine xg_t (xg_blk (b := [(105, 1, 3, 4294967295, 0, 0), (106, 1, 12, 0, 1, 0)]) rfl) ?_
          refine xg_t (xg_const) ?_
          exact xg_e ⟨4294967295, w, ⟨rfl, rfl⟩, by omega, hI, xFr.rf⟩
        · have hc29u := hc29
          unfold xbs at hc29u
          have hn30 : hi ≤ 2147483647 := by omega
          refine xg_t (xg_icF (u := hi) (v := 1) rfl xnm0 xnm0 (xjs_ltF hc29)) ?_
          refine xg_t (xg_iload (va := (0, hi)) rfl rfl) ?_
          refine xg_t (xg_aload (va := (2, 0)) rfl rfl) ?_
          refine xg_t (xg_getf (va := (2, 1)) h0_1 rfl) ?_
          refine xg_t (xg_getf (va := (2, 3)) h1_14 rfl) ?_
          refine xg_t (xg_getf (va := (0, f3_17)) h3_25 rfl) ?_
          by_cases hc31 : f3_17 < hi
          · refine xg_t (xg_icT (u := hi) (v := f3_17) rfl xnm0 xnm0 (xj_gtT hc31 (by omega))) ?_
            refine xg_t (xg_blk (b := [(92, 1, 3, 0, 0, 0)]) rfl) ?_
            refine xg_t (xg_const) ?_
            refine xg_t (xg_blk (b := [(93, 2, 15, 6, 0, 0), (95, 2, 2, 5, 0, 0), (97, 3, 7, 105, 0, 0), (100, 2, 2, 6, 0, 0), (102, 3, 7, 107, 1, 0)]) rfl) ?_
            refine xg_t (xg_istore (l1 := [(5, (0, 0)), (0, (2, 0)), (1, (0, xx)), (2, (0, yy)), (3, (0, wi)), (4, (0, hi))]) rfl rfl rfl) ?_
            refine xg_t (xg_iload (va := (0, 0)) rfl rfl) ?_
            refine xg_t (xg_ifT (u := 0) rfl xnm0 (by decide)) ?_
            refine xg_t (xg_blk (b := [(105, 1, 3, 4294967295, 0, 0), (106, 1, 12, 0, 1, 0)]) rfl) ?_
            refine xg_t (xg_const) ?_
            exact xg_e ⟨4294967295, w, ⟨rfl, rfl⟩, by omega, hI, xFr.rf⟩
          · refine xg_t (xg_icF (u := hi) (v := f3_17) rfl xnm0 xnm0 (xj_gtF (by omega) (by omega))) ?_
            refine xg_t (xg_iload (va := (0, yy)) rfl rfl) ?_
            refine xg_t (xg_aload (va := (2, 0)) rfl rfl) ?_
            refine xg_t (xg_getf (va := (2, 1)) h0_1 rfl) ?_
            refine xg_t (xg_getf (va := (2, 3)) h1_14 rfl) ?_
            refine xg_t (xg_getf (va := (0, f3_17)) h3_25 rfl) ?_
            refine xg_t (xg_iload (va := (0, hi)) rfl rfl) ?_
            by_cases hc32 : hi ≤ f3_17
            · refine xg_t (xg_isub (u := f3_17) (v := hi) (z := f3_17 - hi) xnm0 xnm0 (by omega)) ?_
              by_cases hc33 : (f3_17 - hi) < yy
              · refine xg_t (xg_icT (u := yy) (v := f3_17 - hi) rfl xnm0 xnm0 (xj_gtT hc33 (by omega))) ?_
                refine xg_t (xg_blk (b := [(92, 1, 3, 0, 0, 0)]) rfl) ?_
                refine xg_t (xg_const) ?_
                refine xg_t (xg_blk (b := [(93, 2, 15, 6, 0, 0), (95, 2, 2, 5, 0, 0), (97, 3, 7, 105, 0, 0), (100, 2, 2, 6, 0, 0), (102, 3, 7, 107, 1, 0)]) rfl) ?_
                refine xg_t (xg_istore (l1 := [(5, (0, 0)), (0, (2, 0)), (1, (0, xx)), (2, (0, yy)), (3, (0, wi)), (4, (0, hi))]) rfl rfl rfl) ?_
                refine xg_t (xg_iload (va := (0, 0)) rfl rfl) ?_
                refine xg_t (xg_ifT (u := 0) rfl xnm0 (by decide)) ?_
                refine xg_t (xg_blk (b := [(105, 1, 3, 4294967295, 0, 0), (106, 1, 12, 0, 1, 0)]) rfl) ?_
                refine xg_t (xg_const) ?_
                exact xg_e ⟨4294967295, w, ⟨rfl, rfl⟩, by omega, hI, xFr.rf⟩
              · refine xg_t (xg_icF (u := yy) (v := f3_17 - hi) rfl xnm0 xnm0 (xj_gtF (by omega) (by omega))) ?_
                refine xg_t (xg_const) ?_
                refine xg_t (xg_goto) ?_
                refine xg_t (xg_blk (b := [(93, 2, 15, 6, 0, 0), (95, 2, 2, 5, 0, 0), (97, 3, 7, 105, 0, 0), (100, 2, 2, 6, 0, 0), (102, 3, 7, 107, 1, 0)]) rfl) ?_
                refine xg_t (xg_istore (l1 := [(5, (0, 0)), (0, (2, 0)), (1, (0, xx)), (2, (0, yy)), (3, (0, wi)), (4, (0, hi))]) rfl rfl rfl) ?_
                refine xg_t (xg_iload (va := (0, 0)) rfl rfl) ?_
                refine xg_t (xg_ifT (u := 0) rfl xnm0 (by decide)) ?_
                refine xg_t (xg_blk (b := [(105, 1, 3, 4294967295, 0, 0), (106, 1, 12, 0, 1, 0)]) rfl) ?_
                refine xg_t (xg_const) ?_
                exact xg_e ⟨4294967295, w, ⟨rfl, rfl⟩, by omega, hI, xFr.rf⟩
            · have hz36 : 4294967287 ≤ (f3_17 + (4294967296 - hi)) % 4294967296 := by omega
              refine xg_t (xg_isub (u := f3_17) (v := hi) (z := (f3_17 + (4294967296 - hi)) % 4294967296) xnm0 xnm0 rfl) ?_
              have hz35 : (f3_17 + (4294967296 - hi)) % 4294967296 < 4294967296 := Nat.mod_lt _ (by decide)
              generalize (f3_17 + (4294967296 - hi)) % 4294967296 = z34 at hz36 hz35 ⊢
              refine xg_t (xg_icT (u := yy) (v := z34) rfl xnm0 xnm0 (xjs_gtT (by unfold xbs; omega))) ?_
              refine xg_t (xg_blk (b := [(92, 1, 3, 0, 0, 0)]) rfl) ?_
              refine xg_t (xg_const) ?_
              refine xg_t (xg_blk (b := [(93, 2, 15, 6, 0, 0), (95, 2, 2, 5, 0, 0), (97, 3, 7, 105, 0, 0), (100, 2, 2, 6, 0, 0), (102, 3, 7, 107, 1, 0)]) rfl) ?_
              refine xg_t (xg_istore (l1 := [(5, (0, 0)), (0, (2, 0)), (1, (0, xx)), (2, (0, yy)), (3, (0, wi)), (4, (0, hi))]) rfl rfl rfl) ?_
              refine xg_t (xg_iload (va := (0, 0)) rfl rfl) ?_
              refine xg_t (xg_ifT (u := 0) rfl xnm0 (by decide)) ?_
              refine xg_t (xg_blk (b := [(105, 1, 3, 4294967295, 0, 0), (106, 1, 12, 0, 1, 0)]) rfl) ?_
              refine xg_t (xg_const) ?_
              exact xg_e ⟨4294967295, w, ⟨rfl, rfl⟩, by omega, hI, xFr.rf⟩
      · refine xg_t (xg_ifT (u := yy) rfl xnm0 (xjz_ltT (by omega) (by omega))) ?_
        refine xg_t (xg_blk (b := [(92, 1, 3, 0, 0, 0)]) rfl) ?_
        refine xg_t (xg_const) ?_
        refine xg_t (xg_blk (b := [(93, 2, 15, 6, 0, 0), (95, 2, 2, 5, 0, 0), (97, 3, 7, 105, 0, 0), (100, 2, 2, 6, 0, 0), (102, 3, 7, 107, 1, 0)]) rfl) ?_
        refine xg_t (xg_istore (l1 := [(5, (0, 0)), (0, (2, 0)), (1, (0, xx)), (2, (0, yy)), (3, (0, wi)), (4, (0, hi))]) rfl rfl rfl) ?_
        refine xg_t (xg_iload (va := (0, 0)) rfl rfl) ?_
        refine xg_t (xg_ifT (u := 0) rfl xnm0 (by decide)) ?_
        refine xg_t (xg_blk (b := [(105, 1, 3, 4294967295, 0, 0), (106, 1, 12, 0, 1, 0)]) rfl) ?_
        refine xg_t (xg_const) ?_
        exact xg_e ⟨4294967295, w, ⟨rfl, rfl⟩, by omega, hI, xFr.rf⟩
    · have hc27u := hc27
      unfold xbs at hc27u
      have hn37 : wi ≤ 2147483647 := by omega
      refine xg_t (xg_icF (u := wi) (v := 1) rfl xnm0 xnm0 (xjs_ltF hc27)) ?_
      refine xg_t (xg_iload (va := (0, wi)) rfl rfl) ?_
      refine xg_t (xg_aload (va := (2, 0)) rfl rfl) ?_
      refine xg_t (xg_getf (va := (2, 1)) h0_1 rfl) ?_
      refine xg_t (xg_getf (va := (2, 3)) h1_14 rfl) ?_
      refine xg_t (xg_getf (va := (0, f3_15)) h3_25 rfl) ?_
      by_cases hc38 : f3_15 < wi
      · refine xg_t (xg_icT (u := wi) (v := f3_15) rfl xnm0 xnm0 (xj_gtT hc38 (by omega))) ?_
        refine xg_t (xg_blk (b := [(43, 1, 3, 0, 0, 0)]) rfl) ?_
        refine xg_t (xg_const) ?_
        refine xg_t (xg_blk (b := [(44, 2, 15, 5, 0, 0), (46, 1, 2, 2, 0, 0), (47, 3, 7, 92, 2, 0), (50, 2, 2, 4, 0, 0), (52, 1, 3, 1, 0, 0), (53, 3, 6, 92, 2, 0), (56, 2, 2, 4, 0, 0), (58, 1, 0, 0, 0, 0), (59, 3, 1, 11, 0, 10), (62, 3, 1, 9, 4, 38), (65, 3, 1, 1, 6, 300), (68, 3, 6, 92, 4, 0), (71, 1, 2, 2, 0, 0), (72, 1, 0, 0, 0, 0), (73, 3, 1, 11, 0, 10), (76, 3, 1, 9, 4, 38), (79, 3, 1, 1, 6, 300), (82, 2, 2, 4, 0, 0), (84, 1, 18, 0, 0, 0), (85, 3, 6, 92, 4, 0), (88, 1, 3, 1, 0, 0), (89, 3, 8, 93, 0, 0)]) rfl) ?_
        refine xg_t (xg_istore (l1 := [(0, (2, 0)), (1, (0, xx)), (2, (0, yy)), (3, (0, wi)), (4, (0, hi))]) rfl rfl rfl) ?_
        refine xg_t (xg_iload (va := (0, yy)) rfl rfl) ?_
        by_cases hc39 : yy < 2147483648
        · refine xg_t (xg_ifF (u := yy) rfl xnm0 (xjz_ltF hc39)) ?_
          refine xg_t (xg_iload (va := (0, hi)) rfl rfl) ?_
          refine xg_t (xg_const) ?_
          by_cases hc40 : xbs hi < xbs 1
          · have hc40u := hc40
            unfold xbs at hc40u
            refine xg_t (xg_icT (u := hi) (v := 1) rfl xnm0 xnm0 (xjs_ltT hc40)) ?_
            refine xg_t (xg_blk (b := [(92, 1, 3, 0, 0, 0)]) rfl) ?_
            refine xg_t (xg_const) ?_
            refine xg_t (xg_blk (b := [(93, 2, 15, 6, 0, 0), (95, 2, 2, 5, 0, 0), (97, 3, 7, 105, 0, 0), (100, 2, 2, 6, 0, 0), (102, 3, 7, 107, 1, 0)]) rfl) ?_
            refine xg_t (xg_istore (l1 := [(5, (0, 0)), (0, (2, 0)), (1, (0, xx)), (2, (0, yy)), (3, (0, wi)), (4, (0, hi))]) rfl rfl rfl) ?_
            refine xg_t (xg_iload (va := (0, 0)) rfl rfl) ?_
            refine xg_t (xg_ifT (u := 0) rfl xnm0 (by decide)) ?_
            refine xg_t (xg_blk (b := [(105, 1, 3, 4294967295, 0, 0), (106, 1, 12, 0, 1, 0)]) rfl) ?_
            refine xg_t (xg_const) ?_
            exact xg_e ⟨4294967295, w, ⟨rfl, rfl⟩, by omega, hI, xFr.rf⟩
          · have hc40u := hc40
            unfold xbs at hc40u
            have hn41 : hi ≤ 2147483647 := by omega
            refine xg_t (xg_icF (u := hi) (v := 1) rfl xnm0 xnm0 (xjs_ltF hc40)) ?_
            refine xg_t (xg_iload (va := (0, hi)) rfl rfl) ?_
            refine xg_t (xg_aload (va := (2, 0)) rfl rfl) ?_
            refine xg_t (xg_getf (va := (2, 1)) h0_1 rfl) ?_
            refine xg_t (xg_getf (va := (2, 3)) h1_14 rfl) ?_
            refine xg_t (xg_getf (va := (0, f3_17)) h3_25 rfl) ?_
            by_cases hc42 : f3_17 < hi
            · refine xg_t (xg_icT (u := hi) (v := f3_17) rfl xnm0 xnm0 (xj_gtT hc42 (by omega))) ?_
              refine xg_t (xg_blk (b := [(92, 1, 3, 0, 0, 0)]) rfl) ?_
              refine xg_t (xg_const) ?_
              refine xg_t (xg_blk (b := [(93, 2, 15, 6, 0, 0), (95, 2, 2, 5, 0, 0), (97, 3, 7, 105, 0, 0), (100, 2, 2, 6, 0, 0), (102, 3, 7, 107, 1, 0)]) rfl) ?_
              refine xg_t (xg_istore (l1 := [(5, (0, 0)), (0, (2, 0)), (1, (0, xx)), (2, (0, yy)), (3, (0, wi)), (4, (0, hi))]) rfl rfl rfl) ?_
              refine xg_t (xg_iload (va := (0, 0)) rfl rfl) ?_
              refine xg_t (xg_ifT (u := 0) rfl xnm0 (by decide)) ?_
              refine xg_t (xg_blk (b := [(105, 1, 3, 4294967295, 0, 0), (106, 1, 12, 0, 1, 0)]) rfl) ?_
              refine xg_t (xg_const) ?_
              exact xg_e ⟨4294967295, w, ⟨rfl, rfl⟩, by omega, hI, xFr.rf⟩
            · refine xg_t (xg_icF (u := hi) (v := f3_17) rfl xnm0 xnm0 (xj_gtF (by omega) (by omega))) ?_
              refine xg_t (xg_iload (va := (0, yy)) rfl rfl) ?_
              refine xg_t (xg_aload (va := (2, 0)) rfl rfl) ?_
              refine xg_t (xg_getf (va := (2, 1)) h0_1 rfl) ?_
              refine xg_t (xg_getf (va := (2, 3)) h1_14 rfl) ?_
              refine xg_t (xg_getf (va := (0, f3_17)) h3_25 rfl) ?_
              refine xg_t (xg_iload (va := (0, hi)) rfl rfl) ?_
              by_cases hc43 : hi ≤ f3_17
              · refine xg_t (xg_isub (u := f3_17) (v := hi) (z := f3_17 - hi) xnm0 xnm0 (by omega)) ?_
                by_cases hc44 : (f3_17 - hi) < yy
                · refine xg_t (xg_icT (u := yy) (v := f3_17 - hi) rfl xnm0 xnm0 (xj_gtT hc44 (by omega))) ?_
                  refine xg_t (xg_blk (b := [(92, 1, 3, 0, 0, 0)]) rfl) ?_
                  refine xg_t (xg_const) ?_
                  refine xg_t (xg_blk (b := [(93, 2, 15, 6, 0, 0), (95, 2, 2, 5, 0, 0), (97, 3, 7, 105, 0, 0), (100, 2, 2, 6, 0, 0), (102, 3, 7, 107, 1, 0)]) rfl) ?_
                  refine xg_t (xg_istore (l1 := [(5, (0, 0)), (0, (2, 0)), (1, (0, xx)), (2, (0, yy)), (3, (0, wi)), (4, (0, hi))]) rfl rfl rfl) ?_
                  refine xg_t (xg_iload (va := (0, 0)) rfl rfl) ?_
                  refine xg_t (xg_ifT (u := 0) rfl xnm0 (by decide)) ?_
                  refine xg_t (xg_blk (b := [(105, 1, 3, 4294967295, 0, 0), (106, 1, 12, 0, 1, 0)]) rfl) ?_
                  refine xg_t (xg_const) ?_
                  exact xg_e ⟨4294967295, w, ⟨rfl, rfl⟩, by omega, hI, xFr.rf⟩
                · refine xg_t (xg_icF (u := yy) (v := f3_17 - hi) rfl xnm0 xnm0 (xj_gtF (by omega) (by omega))) ?_
                  refine xg_t (xg_const) ?_
                  refine xg_t (xg_goto) ?_
                  refine xg_t (xg_blk (b := [(93, 2, 15, 6, 0, 0), (95, 2, 2, 5, 0, 0), (97, 3, 7, 105, 0, 0), (100, 2, 2, 6, 0, 0), (102, 3, 7, 107, 1, 0)]) rfl) ?_
                  refine xg_t (xg_istore (l1 := [(5, (0, 0)), (0, (2, 0)), (1, (0, xx)), (2, (0, yy)), (3, (0, wi)), (4, (0, hi))]) rfl rfl rfl) ?_
                  refine xg_t (xg_iload (va := (0, 0)) rfl rfl) ?_
                  refine xg_t (xg_ifT (u := 0) rfl xnm0 (by decide)) ?_
                  refine xg_t (xg_blk (b := [(105, 1, 3, 4294967295, 0, 0), (106, 1, 12, 0, 1, 0)]) rfl) ?_
                  refine xg_t (xg_const) ?_
                  exact xg_e ⟨4294967295, w, ⟨rfl, rfl⟩, by omega, hI, xFr.rf⟩
              · have hz47 : 4294967287 ≤ (f3_17 + (4294967296 - hi)) % 4294967296 := by omega
                refine xg_t (xg_isub (u := f3_17) (v := hi) (z := (f3_17 + (4294967296 - hi)) % 4294967296) xnm0 xnm0 rfl) ?_
                have hz46 : (f3_17 + (4294967296 - hi)) % 4294967296 < 4294967296 := Nat.mod_lt _ (by decide)
                generalize (f3_17 + (4294967296 - hi)) % 4294967296 = z45 at hz47 hz46 ⊢
                refine xg_t (xg_icT (u := yy) (v := z45) rfl xnm0 xnm0 (xjs_gtT (by unfold xbs; omega))) ?_
                refine xg_t (xg_blk (b := [(92, 1, 3, 0, 0, 0)]) rfl) ?_
                refine xg_t (xg_const) ?_
                refine xg_t (xg_blk (b := [(93, 2, 15, 6, 0, 0), (95, 2, 2, 5, 0, 0), (97, 3, 7, 105, 0, 0), (100, 2, 2, 6, 0, 0), (102, 3, 7, 107, 1, 0)]) rfl) ?_
                refine xg_t (xg_istore (l1 := [(5, (0, 0)), (0, (2, 0)), (1, (0, xx)), (2, (0, yy)), (3, (0, wi)), (4, (0, hi))]) rfl rfl rfl) ?_
                refine xg_t (xg_iload (va := (0, 0)) rfl rfl) ?_
                refine xg_t (xg_ifT (u := 0) rfl xnm0 (by decide)) ?_
                refine xg_t (xg_blk (b := [(105, 1, 3, 4294967295, 0, 0), (106, 1, 12, 0, 1, 0)]) rfl) ?_
                refine xg_t (xg_const) ?_
                exact xg_e ⟨4294967295, w, ⟨rfl, rfl⟩, by omega, hI, xFr.rf⟩
        · refine xg_t (xg_ifT (u := yy) rfl xnm0 (xjz_ltT (by omega) (by omega))) ?_
          refine xg_t (xg_blk (b := [(92, 1, 3, 0, 0, 0)]) rfl) ?_
          refine xg_t (xg_const) ?_
          refine xg_t (xg_blk (b := [(93, 2, 15, 6, 0, 0), (95, 2, 2, 5, 0, 0), (97, 3, 7, 105, 0, 0), (100, 2, 2, 6, 0, 0), (102, 3, 7, 107, 1, 0)]) rfl) ?_
          refine xg_t (xg_istore (l1 := [(5, (0, 0)), (0, (2, 0)), (1, (0, xx)), (2, (0, yy)), (3, (0, wi)), (4, (0, hi))]) rfl rfl rfl) ?_
          refine xg_t (xg_iload (va := (0, 0)) rfl rfl) ?_
          refine xg_t (xg_ifT (u := 0) rfl xnm0 (by decide)) ?_
          refine xg_t (xg_blk (b := [(105, 1, 3, 4294967295, 0, 0), (106, 1, 12, 0, 1, 0)]) rfl) ?_
          refine xg_t (xg_const) ?_
          exact xg_e ⟨4294967295, w, ⟨rfl, rfl⟩, by omega, hI, xFr.rf⟩
      · refine xg_t (xg_icF (u := wi) (v := f3_15) rfl xnm0 xnm0 (xj_gtF (by omega) (by omega))) ?_
        refine xg_t (xg_iload (va := (0, xx)) rfl rfl) ?_
        refine xg_t (xg_aload (va := (2, 0)) rfl rfl) ?_
        refine xg_t (xg_getf (va := (2, 1)) h0_1 rfl) ?_
        refine xg_t (xg_getf (va := (2, 3)) h1_14 rfl) ?_
        refine xg_t (xg_getf (va := (0, f3_15)) h3_25 rfl) ?_
        refine xg_t (xg_iload (va := (0, wi)) rfl rfl) ?_
        by_cases hc48 : wi ≤ f3_15
        · refine xg_t (xg_isub (u := f3_15) (v := wi) (z := f3_15 - wi) xnm0 xnm0 (by omega)) ?_
          by_cases hc49 : (f3_15 - wi) < xx
          · refine xg_t (xg_icT (u := xx) (v := f3_15 - wi) rfl xnm0 xnm0 (xj_gtT hc49 (by omega))) ?_
            refine xg_t (xg_blk (b := [(43, 1, 3, 0, 0, 0)]) rfl) ?_
            refine xg_t (xg_const) ?_
            refine xg_t (xg_blk (b := [(44, 2, 15, 5, 0, 0), (46, 1, 2, 2, 0, 0), (47, 3, 7, 92, 2, 0), (50, 2, 2, 4, 0, 0), (52, 1, 3, 1, 0, 0), (53, 3, 6, 92, 2, 0), (56, 2, 2, 4, 0, 0), (58, 1, 0, 0, 0, 0), (59, 3, 1, 11, 0, 10), (62, 3, 1, 9, 4, 38), (65, 3, 1, 1, 6, 300), (68, 3, 6, 92, 4, 0), (71, 1, 2, 2, 0, 0), (72, 1, 0, 0, 0, 0), (73, 3, 1, 11, 0, 10), (76, 3, 1, 9, 4, 38), (79, 3, 1, 1, 6, 300), (82, 2, 2, 4, 0, 0), (84, 1, 18, 0, 0, 0), (85, 3, 6, 92, 4, 0), (88, 1, 3, 1, 0, 0), (89, 3, 8, 93, 0, 0)]) rfl) ?_
            refine xg_t (xg_istore (l1 := [(0, (2, 0)), (1, (0, xx)), (2, (0, yy)), (3, (0, wi)), (4, (0, hi))]) rfl rfl rfl) ?_
            refine xg_t (xg_iload (va := (0, yy)) rfl rfl) ?_
            by_cases hc50 : yy < 2147483648
            · refine xg_t (xg_ifF (u := yy) rfl xnm0 (xjz_ltF hc50)) ?_
              refine xg_t (xg_iload (va := (0, hi)) rfl rfl) ?_
              refine xg_t (xg_const) ?_
              by_cases hc51 : xbs hi < xbs 1
              · have hc51u := hc51
                unfold xbs at hc51u
                refine xg_t (xg_icT (u := hi) (v := 1) rfl xnm0 xnm0 (xjs_ltT hc51)) ?_
                refine xg_t (xg_blk (b := [(92, 1, 3, 0, 0, 0)]) rfl) ?_
                refine xg_t (xg_const) ?_
                refine xg_t (xg_blk (b := [(93, 2, 15, 6, 0, 0), (95, 2, 2, 5, 0, 0), (97, 3, 7, 105, 0, 0), (100, 2, 2, 6, 0, 0), (102, 3, 7, 107, 1, 0)]) rfl) ?_
                refine xg_t (xg_istore (l1 := [(5, (0, 0)), (0, (2, 0)), (1, (0, xx)), (2, (0, yy)), (3, (0, wi)), (4, (0, hi))]) rfl rfl rfl) ?_
                refine xg_t (xg_iload (va := (0, 0)) rfl rfl) ?_
                refine xg_t (xg_ifT (u := 0) rfl xnm0 (by decide)) ?_
                refine xg_t (xg_blk (b := [(105, 1, 3, 4294967295, 0, 0), (106, 1, 12, 0, 1, 0)]) rfl) ?_
                refine xg_t (xg_const) ?_
                exact xg_e ⟨4294967295, w, ⟨rfl, rfl⟩, by omega, hI, xFr.rf⟩
              · have hc51u := hc51
                unfold xbs at hc51u
                have hn52 : hi ≤ 2147483647 := by omega
                refine xg_t (xg_icF (u := hi) (v := 1) rfl xnm0 xnm0 (xjs_ltF hc51)) ?_
                refine xg_t (xg_iload (va := (0, hi)) rfl rfl) ?_
                refine xg_t (xg_aload (va := (2, 0)) rfl rfl) ?_
                refine xg_t (xg_getf (va := (2, 1)) h0_1 rfl) ?_
                refine xg_t (xg_getf (va := (2, 3)) h1_14 rfl) ?_
                refine xg_t (xg_getf (va := (0, f3_17)) h3_25 rfl) ?_
                by_cases hc53 : f3_17 < hi
                · refine xg_t (xg_icT (u := hi) (v := f3_17) rfl xnm0 xnm0 (xj_gtT hc53 (by omega))) ?_
                  refine xg_t (xg_blk (b := [(92, 1, 3, 0, 0, 0)]) rfl) ?_
                  refine xg_t (xg_const) ?_
                  refine xg_t (xg_blk (b := [(93, 2, 15, 6, 0, 0), (95, 2, 2, 5, 0, 0), (97, 3, 7, 105, 0, 0), (100, 2, 2, 6, 0, 0), (102, 3, 7, 107, 1, 0)]) rfl) ?_
                  refine xg_t (xg_istore (l1 := [(5, (0, 0)), (0, (2, 0)), (1, (0, xx)), (2, (0, yy)), (3, (0, wi)), (4, (0, hi))]) rfl rfl rfl) ?_
                  refine xg_t (xg_iload (va := (0, 0)) rfl rfl) ?_
                  refine xg_t (xg_ifT (u := 0) rfl xnm0 (by decide)) ?_
                  refine xg_t (xg_blk (b := [(105, 1, 3, 4294967295, 0, 0), (106, 1, 12, 0, 1, 0)]) rfl) ?_
                  refine xg_t (xg_const) ?_
                  exact xg_e ⟨4294967295, w, ⟨rfl, rfl⟩, by omega, hI, xFr.rf⟩
                · refine xg_t (xg_icF (u := hi) (v := f3_17) rfl xnm0 xnm0 (xj_gtF (by omega) (by omega))) ?_
                  refine xg_t (xg_iload (va := (0, yy)) rfl rfl) ?_
                  refine xg_t (xg_aload (va := (2, 0)) rfl rfl) ?_
                  refine xg_t (xg_getf (va := (2, 1)) h0_1 rfl) ?_
                  refine xg_t (xg_getf (va := (2, 3)) h1_14 rfl) ?_
                  refine xg_t (xg_getf (va := (0, f3_17)) h3_25 rfl) ?_
                  refine xg_t (xg_iload (va := (0, hi)) rfl rfl) ?_
                  by_cases hc54 : hi ≤ f3_17
                  · refine xg_t (xg_isub (u := f3_17) (v := hi) (z := f3_17 - hi) xnm0 xnm0 (by omega)) ?_
                    by_cases hc55 : (f3_17 - hi) < yy
                    · refine xg_t (xg_icT (u := yy) (v := f3_17 - hi) rfl xnm0 xnm0 (xj_gtT hc55 (by omega))) ?_
                      refine xg_t (xg_blk (b := [(92, 1, 3, 0, 0, 0)]) rfl) ?_
                      refine xg_t (xg_const) ?_
                      refine xg_t (xg_blk (b := [(93, 2, 15, 6, 0, 0), (95, 2, 2, 5, 0, 0), (97, 3, 7, 105, 0, 0), (100, 2, 2, 6, 0, 0), (102, 3, 7, 107, 1, 0)]) rfl) ?_
                      refine xg_t (xg_istore (l1 := [(5, (0, 0)), (0, (2, 0)), (1, (0, xx)), (2, (0, yy)), (3, (0, wi)), (4, (0, hi))]) rfl rfl rfl) ?_
                      refine xg_t (xg_iload (va := (0, 0)) rfl rfl) ?_
                      refine xg_t (xg_ifT (u := 0) rfl xnm0 (by decide)) ?_
                      refine xg_t (xg_blk (b := [(105, 1, 3, 4294967295, 0, 0), (106, 1, 12, 0, 1, 0)]) rfl) ?_
                      refine xg_t (xg_const) ?_
                      exact xg_e ⟨4294967295, w, ⟨rfl, rfl⟩, by omega, hI, xFr.rf⟩
                    · refine xg_t (xg_icF (u := yy) (v := f3_17 - hi) rfl xnm0 xnm0 (xj_gtF (by omega) (by omega))) ?_
                      refine xg_t (xg_const) ?_
                      refine xg_t (xg_goto) ?_
                      refine xg_t (xg_blk (b := [(93, 2, 15, 6, 0, 0), (95, 2, 2, 5, 0, 0), (97, 3, 7, 105, 0, 0), (100, 2, 2, 6, 0, 0), (102, 3, 7, 107, 1, 0)]) rfl) ?_
                      refine xg_t (xg_istore (l1 := [(5, (0, 0)), (0, (2, 0)), (1, (0, xx)), (2, (0, yy)), (3, (0, wi)), (4, (0, hi))]) rfl rfl rfl) ?_
                      refine xg_t (xg_iload (va := (0, 0)) rfl rfl) ?_
                      refine xg_t (xg_ifT (u := 0) rfl xnm0 (by decide)) ?_
                      refine xg_t (xg_blk (b := [(105, 1, 3, 4294967295, 0, 0), (106, 1, 12, 0, 1, 0)]) rfl) ?_
                      refine xg_t (xg_const) ?_
                      exact xg_e ⟨4294967295, w, ⟨rfl, rfl⟩, by omega, hI, xFr.rf⟩
                  · have hz58 : 4294967287 ≤ (f3_17 + (4294967296 - hi)) % 4294967296 := by omega
                    refine xg_t (xg_isub (u := f3_17) (v := hi) (z := (f3_17 + (4294967296 - hi)) % 4294967296) xnm0 xnm0 rfl) ?_
                    have hz57 : (f3_17 + (4294967296 - hi)) % 4294967296 < 4294967296 := Nat.mod_lt _ (by decide)
                    generalize (f3_17 + (4294967296 - hi)) % 4294967296 = z56 at hz58 hz57 ⊢
                    refine xg_t (xg_icT (u := yy) (v := z56) rfl xnm0 xnm0 (xjs_gtT (by unfold xbs; omega))) ?_
                    refine xg_t (xg_blk (b := [(92, 1, 3, 0, 0, 0)]) rfl) ?_
                    refine xg_t (xg_const) ?_
                    refine xg_t (xg_blk (b := [(93, 2, 15, 6, 0, 0), (95, 2, 2, 5, 0, 0), (97, 3, 7, 105, 0, 0), (100, 2, 2, 6, 0, 0), (102, 3, 7, 107, 1, 0)]) rfl) ?_
                    refine xg_t (xg_istore (l1 := [(5, (0, 0)), (0, (2, 0)), (1, (0, xx)), (2, (0, yy)), (3, (0, wi)), (4, (0, hi))]) rfl rfl rfl) ?_
                    refine xg_t (xg_iload (va := (0, 0)) rfl rfl) ?_
                    refine xg_t (xg_ifT (u := 0) rfl xnm0 (by decide)) ?_
                    refine xg_t (xg_blk (b := [(105, 1, 3, 4294967295, 0, 0), (106, 1, 12, 0, 1, 0)]) rfl) ?_
                    refine xg_t (xg_const) ?_
                    exact xg_e ⟨4294967295, w, ⟨rfl, rfl⟩, by omega, hI, xFr.rf⟩
            · refine xg_t (xg_ifT (u := yy) rfl xnm0 (xjz_ltT (by omega) (by omega))) ?_
              refine xg_t (xg_blk (b := [(92, 1, 3, 0, 0, 0)]) rfl) ?_
              refine xg_t (xg_const) ?_
              refine xg_t (xg_blk (b := [(93, 2, 15, 6, 0, 0), (95, 2, 2, 5, 0, 0), (97, 3, 7, 105, 0, 0), (100, 2, 2, 6, 0, 0), (102, 3, 7, 107, 1, 0)]) rfl) ?_
              refine xg_t (xg_istore (l1 := [(5, (0, 0)), (0, (2, 0)), (1, (0, xx)), (2, (0, yy)), (3, (0, wi)), (4, (0, hi))]) rfl rfl rfl) ?_
              refine xg_t (xg_iload (va := (0, 0)) rfl rfl) ?_
              refine xg_t (xg_ifT (u := 0) rfl xnm0 (by decide)) ?_
              refine xg_t (xg_blk (b := [(105, 1, 3, 4294967295, 0, 0), (106, 1, 12, 0, 1, 0)]) rfl) ?_
              refine xg_t (xg_const) ?_
              exact xg_e ⟨4294967295, w, ⟨rfl, rfl⟩, by omega, hI, xFr.rf⟩
          · refine xg_t (xg_icF (u := xx) (v := f3_15 - wi) rfl xnm0 xnm0 (xj_gtF (by omega) (by omega))) ?_
            refine xg_t (xg_const) ?_
            refine xg_t (xg_goto) ?_
            refine xg_t (xg_blk (b := [(44, 2, 15, 5, 0, 0), (46, 1, 2, 2, 0, 0), (47, 3, 7, 92, 2, 0), (50, 2, 2, 4, 0, 0), (52, 1, 3, 1, 0, 0), (53, 3, 6, 92, 2, 0), (56, 2, 2, 4, 0, 0), (58, 1, 0, 0, 0, 0), (59, 3, 1, 11, 0, 10), (62, 3, 1, 9, 4, 38), (65, 3, 1, 1, 6, 300), (68, 3, 6, 92, 4, 0), (71, 1, 2, 2, 0, 0), (72, 1, 0, 0, 0, 0), (73, 3, 1, 11, 0, 10), (76, 3, 1, 9, 4, 38), (79, 3, 1, 1, 6, 300), (82, 2, 2, 4, 0, 0), (84, 1, 18, 0, 0, 0), (85, 3, 6, 92, 4, 0), (88, 1, 3, 1, 0, 0), (89, 3, 8, 93, 0, 0)]) rfl) ?_
            refine xg_t (xg_istore (l1 := [(0, (2, 0)), (1, (0, xx)), (2, (0, yy)), (3, (0, wi)), (4, (0, hi))]) rfl rfl rfl) ?_
            refine xg_t (xg_iload (va := (0, yy)) rfl rfl) ?_
            by_cases hc59 : yy < 2147483648
            · refine xg_t (xg_ifF (u := yy) rfl xnm0 (xjz_ltF hc59)) ?_
              refine xg_t (xg_iload (va := (0, hi)) rfl rfl) ?_
              refine xg_t (xg_const) ?_
              by_cases hc60 : xbs hi < xbs 1
              · have hc60u := hc60
                unfold xbs at hc60u
                refine xg_t (xg_icT (u := hi) (v := 1) rfl xnm0 xnm0 (xjs_ltT hc60)) ?_
                refine xg_t (xg_blk (b := [(92, 1, 3, 0, 0, 0)]) rfl) ?_
                refine xg_t (xg_const) ?_
                refine xg_t (xg_blk (b := [(93, 2, 15, 6, 0, 0), (95, 2, 2, 5, 0, 0), (97, 3, 7, 105, 0, 0), (100, 2, 2, 6, 0, 0), (102, 3, 7, 107, 1, 0)]) rfl) ?_
                refine xg_t (xg_istore (l1 := [(5, (0, 1)), (0, (2, 0)), (1, (0, xx)), (2, (0, yy)), (3, (0, wi)), (4, (0, hi))]) rfl rfl rfl) ?_
                refine xg_t (xg_iload (va := (0, 1)) rfl rfl) ?_
                refine xg_t (xg_ifF (u := 1) rfl xnm0 (by decide)) ?_
                refine xg_t (xg_iload (va := (0, 0)) rfl rfl) ?_
                refine xg_t (xg_ifF (u := 0) rfl xnm0 (by decide)) ?_
                refine xg_t (xg_blk (b := [(105, 1, 3, 4294967295, 0, 0), (106, 1, 12, 0, 1, 0)]) rfl) ?_
                refine xg_t (xg_const) ?_
                exact xg_e ⟨4294967295, w, ⟨rfl, rfl⟩, by omega, hI, xFr.rf⟩
              · have hc60u := hc60
                unfold xbs at hc60u
                have hn61 : hi ≤ 2147483647 := by omega
                refine xg_t (xg_icF (u := hi) (v := 1) rfl xnm0 xnm0 (xjs_ltF hc60)) ?_
                refine xg_t (xg_iload (va := (0, hi)) rfl rfl) ?_
                refine xg_t (xg_aload (va := (2, 0)) rfl rfl) ?_
                refine xg_t (xg_getf (va := (2, 1)) h0_1 rfl) ?_
                refine xg_t (xg_getf (va := (2, 3)) h1_14 rfl) ?_
                refine xg_t (xg_getf (va := (0, f3_17)) h3_25 rfl) ?_
                by_cases hc62 : f3_17 < hi
                · refine xg_t (xg_icT (u := hi) (v := f3_17) rfl xnm0 xnm0 (xj_gtT hc62 (by omega))) ?_
                  refine xg_t (xg_blk (b := [(92, 1, 3, 0, 0, 0)]) rfl) ?_
                  refine xg_t (xg_const) ?_
                  refine xg_t (xg_blk (b := [(93, 2, 15, 6, 0, 0), (95, 2, 2, 5, 0, 0), (97, 3, 7, 105, 0, 0), (100, 2, 2, 6, 0, 0), (102, 3, 7, 107, 1, 0)]) rfl) ?_
                  refine xg_t (xg_istore (l1 := [(5, (0, 1)), (0, (2, 0)), (1, (0, xx)), (2, (0, yy)), (3, (0, wi)), (4, (0, hi))]) rfl rfl rfl) ?_
                  refine xg_t (xg_iload (va := (0, 1)) rfl rfl) ?_
                  refine xg_t (xg_ifF (u := 1) rfl xnm0 (by decide)) ?_
                  refine xg_t (xg_iload (va := (0, 0)) rfl rfl) ?_
                  refine xg_t (xg_ifF (u := 0) rfl xnm0 (by decide)) ?_
                  refine xg_t (xg_blk (b := [(105, 1, 3, 4294967295, 0, 0), (106, 1, 12, 0, 1, 0)]) rfl) ?_
                  refine xg_t (xg_const) ?_
                  exact xg_e ⟨4294967295, w, ⟨rfl, rfl⟩, by omega, hI, xFr.rf⟩
                · refine xg_t (xg_icF (u := hi) (v := f3_17) rfl xnm0 xnm0 (xj_gtF (by omega) (by omega))) ?_
                  refine xg_t (xg_iload (va := (0, yy)) rfl rfl) ?_
                  refine xg_t (xg_aload (va := (2, 0)) rfl rfl) ?_
                  refine xg_t (xg_getf (va := (2, 1)) h0_1 rfl) ?_
                  refine xg_t (xg_getf (va := (2, 3)) h1_14 rfl) ?_
                  refine xg_t (xg_getf (va := (0, f3_17)) h3_25 rfl) ?_
                  refine xg_t (xg_iload (va := (0, hi)) rfl rfl) ?_
                  by_cases hc63 : hi ≤ f3_17
                  · refine xg_t (xg_isub (u := f3_17) (v := hi) (z := f3_17 - hi) xnm0 xnm0 (by omega)) ?_
                    by_cases hc64 : (f3_17 - hi) < yy
                    · refine xg_t (xg_icT (u := yy) (v := f3_17 - hi) rfl xnm0 xnm0 (xj_gtT hc64 (by omega))) ?_
                      refine xg_t (xg_blk (b := [(92, 1, 3, 0, 0, 0)]) rfl) ?_
                      refine xg_t (xg_const) ?_
                      refine xg_t (xg_blk (b := [(93, 2, 15, 6, 0, 0), (95, 2, 2, 5, 0, 0), (97, 3, 7, 105, 0, 0), (100, 2, 2, 6, 0, 0), (102, 3, 7, 107, 1, 0)]) rfl) ?_
                      refine xg_t (xg_istore (l1 := [(5, (0, 1)), (0, (2, 0)), (1, (0, xx)), (2, (0, yy)), (3, (0, wi)), (4, (0, hi))]) rfl rfl rfl) ?_
                      refine xg_t (xg_iload (va := (0, 1)) rfl rfl) ?_
                      refine xg_t (xg_ifF (u := 1) rfl xnm0 (by decide)) ?_
                      refine xg_t (xg_iload (va := (0, 0)) rfl rfl) ?_
                      refine xg_t (xg_ifF (u := 0) rfl xnm0 (by decide)) ?_
                      refine xg_t (xg_blk (b := [(105, 1, 3, 4294967295, 0, 0), (106, 1, 12, 0, 1, 0)]) rfl) ?_
                      refine xg_t (xg_const) ?_
                      exact xg_e ⟨4294967295, w, ⟨rfl, rfl⟩, by omega, hI, xFr.rf⟩
                    · refine xg_t (xg_icF (u := yy) (v := f3_17 - hi) rfl xnm0 xnm0 (xj_gtF (by omega) (by omega))) ?_
                      refine xg_t (xg_const) ?_
                      refine xg_t (xg_goto) ?_
                      refine xg_t (xg_blk (b := [(93, 2, 15, 6, 0, 0), (95, 2, 2, 5, 0, 0), (97, 3, 7, 105, 0, 0), (100, 2, 2, 6, 0, 0), (102, 3, 7, 107, 1, 0)]) rfl) ?_
                      refine xg_t (xg_istore (l1 := [(5, (0, 1)), (0, (2, 0)), (1, (0, xx)), (2, (0, yy)), (3, (0, wi)), (4, (0, hi))]) rfl rfl rfl) ?_
                      refine xg_t (xg_iload (va := (0, 1)) rfl rfl) ?_
                      refine xg_t (xg_ifF (u := 1) rfl xnm0 (by decide)) ?_
                      refine xg_t (xg_iload (va := (0, 1)) rfl rfl) ?_
                      refine xg_t (xg_ifT (u := 1) rfl xnm0 (by decide)) ?_
                      refine xg_t (xg_blk (b := [(107, 1, 0, 0, 0, 0), (108, 3, 1, 11, 7, 66), (111, 3, 13, 308, 56, 303), (114, 1, 0, 0, 0, 0), (115, 3, 1, 11, 7, 66), (118, 1, 2, 1, 0, 0), (119, 1, 2, 2, 0, 0), (120, 1, 2, 3, 0, 0), (121, 2, 2, 4, 0, 0), (123, 3, 13, 310, 56, 306), (126, 1, 12, 0, 1, 0)]) rfl) ?_
                      refine xg_t (xg_aload (va := (2, 0)) rfl rfl) ?_
                      refine xg_t (xg_getf (va := (2, 72)) h0_1 rfl) ?_
                      obtain ⟨f72_65, f72_67, h72_69, hb66, hb68⟩ := (hI 72 (by decide) : cp72 (wget w 72))
                      refine xg_cVv mX7_refreshWorth (vs := []) (rest := []) (cn1 := 0) (sl1 := 0) rfl (shRefreshWorth (hI)) rfl h72_69 rfl rfl rfl rfl rfl rfl (fun w70 hq71 => ?_)
                      obtain ⟨hI72, hF73⟩ := hq71
                      refine xg_t (xg_aload (va := (2, 0)) rfl rfl) ?_
                      refine xg_t (xg_getf (va := (2, 72)) (hF73.get (by decide) h0_1) rfl) ?_
                      refine xg_t (xg_iload (va := (0, xx)) rfl rfl) ?_
                      refine xg_t (xg_iload (va := (0, yy)) rfl rfl) ?_
                      refine xg_t (xg_iload (va := (0, wi)) rfl rfl) ?_
                      refine xg_t (xg_iload (va := (0, hi)) rfl rfl) ?_
                      obtain ⟨f72_74, f72_76, h72_78, hb75, hb77⟩ := (hI72 72 (by decide) : cp72 (wget w70 72))
                      refine xg_cVi mX7_worthOf (vs := [(0, xx), (0, yy), (0, wi), (0, hi)]) (rest := []) (cn1 := 0) (sl1 := 0) rfl (shWorthOf (hI72) (by omega) (by omega) (by omega) (by omega)) rfl h72_78 rfl rfl rfl rfl rfl rfl (fun n83 w79 hq80 => ?_)
                      obtain ⟨hn84, hI81, hF82⟩ := hq80
                      exact xg_e ⟨n83, w79, ⟨rfl, rfl⟩, by omega, hI81, ((hF73.up (by decide)).tr (hF82.up (by decide)))⟩
                  · have hz87 : 4294967287 ≤ (f3_17 + (4294967296 - hi)) % 4294967296 := by omega
                    refine xg_t (xg_isub (u := f3_17) (v := hi) (z := (f3_17 + (4294967296 - hi)) % 4294967296) xnm0 xnm0 rfl) ?_
                    have hz86 : (f3_17 + (4294967296 - hi)) % 4294967296 < 4294967296 := Nat.mod_lt _ (by decide)
                    generalize (f3_17 + (4294967296 - hi)) % 4294967296 = z85 at hz87 hz86 ⊢
                    refine xg_t (xg_icT (u := yy) (v := z85) rfl xnm0 xnm0 (xjs_gtT (by unfold xbs; omega))) ?_
                    refine xg_t (xg_blk (b := [(92, 1, 3, 0, 0, 0)]) rfl) ?_
                    refine xg_t (xg_const) ?_
                    refine xg_t (xg_blk (b := [(93, 2, 15, 6, 0, 0), (95, 2, 2, 5, 0, 0), (97, 3, 7, 105, 0, 0), (100, 2, 2, 6, 0, 0), (102, 3, 7, 107, 1, 0)]) rfl) ?_
                    refine xg_t (xg_istore (l1 := [(5, (0, 1)), (0, (2, 0)), (1, (0, xx)), (2, (0, yy)), (3, (0, wi)), (4, (0, hi))]) rfl rfl rfl) ?_
                    refine xg_t (xg_iload (va := (0, 1)) rfl rfl) ?_
                    refine xg_t (xg_ifF (u := 1) rfl xnm0 (by decide)) ?_
                    refine xg_t (xg_iload (va := (0, 0)) rfl rfl) ?_
                    refine xg_t (xg_ifF (u := 0) rfl xnm0 (by decide)) ?_
                    refine xg_t (xg_blk (b := [(105, 1, 3, 4294967295, 0, 0), (106, 1, 12, 0, 1, 0)]) rfl) ?_
                    refine xg_t (xg_const) ?_
                    exact xg_e ⟨4294967295, w, ⟨rfl, rfl⟩, by omega, hI, xFr.rf⟩
            · refine xg_t (xg_ifT (u := yy) rfl xnm0 (xjz_ltT (by omega) (by omega))) ?_
              refine xg_t (xg_blk (b := [(92, 1, 3, 0, 0, 0)]) rfl) ?_
              refine xg_t (xg_const) ?_
              refine xg_t (xg_blk (b := [(93, 2, 15, 6, 0, 0), (95, 2, 2, 5, 0, 0), (97, 3, 7, 105, 0, 0), (100, 2, 2, 6, 0, 0), (102, 3, 7, 107, 1, 0)]) rfl) ?_
              refine xg_t (xg_istore (l1 := [(5, (0, 1)), (0, (2, 0)), (1, (0, xx)), (2, (0, yy)), (3, (0, wi)), (4, (0, hi))]) rfl rfl rfl) ?_
              refine xg_t (xg_iload (va := (0, 1)) rfl rfl) ?_
              refine xg_t (xg_ifF (u := 1) rfl xnm0 (by decide)) ?_
              refine xg_t (xg_iload (va := (0, 0)) rfl rfl) ?_
              refine xg_t (xg_ifF (u := 0) rfl xnm0 (by decide)) ?_
              refine xg_t (xg_blk (b := [(105, 1, 3, 4294967295, 0, 0), (106, 1, 12, 0, 1, 0)]) rfl) ?_
              refine xg_t (xg_const) ?_
              exact xg_e ⟨4294967295, w, ⟨rfl, rfl⟩, by omega, hI, xFr.rf⟩
        · have hz90 : 4294967287 ≤ (f3_15 + (4294967296 - wi)) % 4294967296 := by omega
          refine xg_t (xg_isub (u := f3_15) (v := wi) (z := (f3_15 + (4294967296 - wi)) % 4294967296) xnm0 xnm0 rfl) ?_
          have hz89 : (f3_15 + (4294967296 - wi)) % 4294967296 < 4294967296 := Nat.mod_lt _ (by decide)
          generalize (f3_15 + (4294967296 - wi)) % 4294967296 = z88 at hz90 hz89 ⊢
          refine xg_t (xg_icT (u := xx) (v := z88) rfl xnm0 xnm0 (xjs_gtT (by unfold xbs; omega))) ?_
          refine xg_t (xg_blk (b := [(43, 1, 3, 0, 0, 0)]) rfl) ?_
          refine xg_t (xg_const) ?_
          refine xg_t (xg_blk (b := [(44, 2, 15, 5, 0, 0), (46, 1, 2, 2, 0, 0), (47, 3, 7, 92, 2, 0), (50, 2, 2, 4, 0, 0), (52, 1, 3, 1, 0, 0), (53, 3, 6, 92, 2, 0), (56, 2, 2, 4, 0, 0), (58, 1, 0, 0, 0, 0), (59, 3, 1, 11, 0, 10), (62, 3, 1, 9, 4, 38), (65, 3, 1, 1, 6, 300), (68, 3, 6, 92, 4, 0), (71, 1, 2, 2, 0, 0), (72, 1, 0, 0, 0, 0), (73, 3, 1, 11, 0, 10), (76, 3, 1, 9, 4, 38), (79, 3, 1, 1, 6, 300), (82, 2, 2, 4, 0, 0), (84, 1, 18, 0, 0, 0), (85, 3, 6, 92, 4, 0), (88, 1, 3, 1, 0, 0), (89, 3, 8, 93, 0, 0)]) rfl) ?_
          refine xg_t (xg_istore (l1 := [(0, (2, 0)), (1, (0, xx)), (2, (0, yy)), (3, (0, wi)), (4, (0, hi))]) rfl rfl rfl) ?_
          refine xg_t (xg_iload (va := (0, yy)) rfl rfl) ?_
          by_cases hc91 : yy < 2147483648
          · refine xg_t (xg_ifF (u := yy) rfl xnm0 (xjz_ltF hc91)) ?_
            refine xg_t (xg_iload (va := (0, hi)) rfl rfl) ?_
            refine xg_t (xg_const) ?_
            by_cases hc92 : xbs hi < xbs 1
            · have hc92u := hc92
              unfold xbs at hc92u
              refine xg_t (xg_icT (u := hi) (v := 1) rfl xnm0 xnm0 (xjs_ltT hc92)) ?_
              refine xg_t (xg_blk (b := [(92, 1, 3, 0, 0, 0)]) rfl) ?_
              refine xg_t (xg_const) ?_
              refine xg_t (xg_blk (b := [(93, 2, 15, 6, 0, 0), (95, 2, 2, 5, 0, 0), (97, 3, 7, 105, 0, 0), (100, 2, 2, 6, 0, 0), (102, 3, 7, 107, 1, 0)]) rfl) ?_
              refine xg_t (xg_istore (l1 := [(5, (0, 0)), (0, (2, 0)), (1, (0, xx)), (2, (0, yy)), (3, (0, wi)), (4, (0, hi))]) rfl rfl rfl) ?_
              refine xg_t (xg_iload (va := (0, 0)) rfl rfl) ?_
              refine xg_t (xg_ifT (u := 0) rfl xnm0 (by decide)) ?_
              refine xg_t (xg_blk (b := [(105, 1, 3, 4294967295, 0, 0), (106, 1, 12, 0, 1, 0)]) rfl) ?_
              refine xg_t (xg_const) ?_
              exact xg_e ⟨4294967295, w, ⟨rfl, rfl⟩, by omega, hI, xFr.rf⟩
            · have hc92u := hc92
              unfold xbs at hc92u
              have hn93 : hi ≤ 2147483647 := by omega
              refine xg_t (xg_icF (u := hi) (v := 1) rfl xnm0 xnm0 (xjs_ltF hc92)) ?_
              refine xg_t (xg_iload (va := (0, hi)) rfl rfl) ?_
              refine xg_t (xg_aload (va := (2, 0)) rfl rfl) ?_
              refine xg_t (xg_getf (va := (2, 1)) h0_1 rfl) ?_
              refine xg_t (xg_getf (va := (2, 3)) h1_14 rfl) ?_
              refine xg_t (xg_getf (va := (0, f3_17)) h3_25 rfl) ?_
              by_cases hc94 : f3_17 < hi
              · refine xg_t (xg_icT (u := hi) (v := f3_17) rfl xnm0 xnm0 (xj_gtT hc94 (by omega))) ?_
                refine xg_t (xg_blk (b := [(92, 1, 3, 0, 0, 0)]) rfl) ?_
                refine xg_t (xg_const) ?_
                refine xg_t (xg_blk (b := [(93, 2, 15, 6, 0, 0), (95, 2, 2, 5, 0, 0), (97, 3, 7, 105, 0, 0), (100, 2, 2, 6, 0, 0), (102, 3, 7, 107, 1, 0)]) rfl) ?_
                refine xg_t (xg_istore (l1 := [(5, (0, 0)), (0, (2, 0)), (1, (0, xx)), (2, (0, yy)), (3, (0, wi)), (4, (0, hi))]) rfl rfl rfl) ?_
                refine xg_t (xg_iload (va := (0, 0)) rfl rfl) ?_
                refine xg_t (xg_ifT (u := 0) rfl xnm0 (by decide)) ?_
                refine xg_t (xg_blk (b := [(105, 1, 3, 4294967295, 0, 0), (106, 1, 12, 0, 1, 0)]) rfl) ?_
                refine xg_t (xg_const) ?_
                exact xg_e ⟨4294967295, w, ⟨rfl, rfl⟩, by omega, hI, xFr.rf⟩
              · refine xg_t (xg_icF (u := hi) (v := f3_17) rfl xnm0 xnm0 (xj_gtF (by omega) (by omega))) ?_
                refine xg_t (xg_iload (va := (0, yy)) rfl rfl) ?_
                refine xg_t (xg_aload (va := (2, 0)) rfl rfl) ?_
                refine xg_t (xg_getf (va := (2, 1)) h0_1 rfl) ?_
                refine xg_t (xg_getf (va := (2, 3)) h1_14 rfl) ?_
                refine xg_t (xg_getf (va := (0, f3_17)) h3_25 rfl) ?_
                refine xg_t (xg_iload (va := (0, hi)) rfl rfl) ?_
                by_cases hc95 : hi ≤ f3_17
                · refine xg_t (xg_isub (u := f3_17) (v := hi) (z := f3_17 - hi) xnm0 xnm0 (by omega)) ?_
                  by_cases hc96 : (f3_17 - hi) < yy
                  · refine xg_t (xg_icT (u := yy) (v := f3_17 - hi) rfl xnm0 xnm0 (xj_gtT hc96 (by omega))) ?_
                    refine xg_t (xg_blk (b := [(92, 1, 3, 0, 0, 0)]) rfl) ?_
                    refine xg_t (xg_const) ?_
                    refine xg_t (xg_blk (b := [(93, 2, 15, 6, 0, 0), (95, 2, 2, 5, 0, 0), (97, 3, 7, 105, 0, 0), (100, 2, 2, 6, 0, 0), (102, 3, 7, 107, 1, 0)]) rfl) ?_
                    refine xg_t (xg_istore (l1 := [(5, (0, 0)), (0, (2, 0)), (1, (0, xx)), (2, (0, yy)), (3, (0, wi)), (4, (0, hi))]) rfl rfl rfl) ?_
                    refine xg_t (xg_iload (va := (0, 0)) rfl rfl) ?_
                    refine xg_t (xg_ifT (u := 0) rfl xnm0 (by decide)) ?_
                    refine xg_t (xg_blk (b := [(105, 1, 3, 4294967295, 0, 0), (106, 1, 12, 0, 1, 0)]) rfl) ?_
                    refine xg_t (xg_const) ?_
                    exact xg_e ⟨4294967295, w, ⟨rfl, rfl⟩, by omega, hI, xFr.rf⟩
                  · refine xg_t (xg_icF (u := yy) (v := f3_17 - hi) rfl xnm0 xnm0 (xj_gtF (by omega) (by omega))) ?_
                    refine xg_t (xg_const) ?_
                    refine xg_t (xg_goto) ?_
                    refine xg_t (xg_blk (b := [(93, 2, 15, 6, 0, 0), (95, 2, 2, 5, 0, 0), (97, 3, 7, 105, 0, 0), (100, 2, 2, 6, 0, 0), (102, 3, 7, 107, 1, 0)]) rfl) ?_
                    refine xg_t (xg_istore (l1 := [(5, (0, 0)), (0, (2, 0)), (1, (0, xx)), (2, (0, yy)), (3, (0, wi)), (4, (0, hi))]) rfl rfl rfl) ?_
                    refine xg_t (xg_iload (va := (0, 0)) rfl rfl) ?_
                    refine xg_t (xg_ifT (u := 0) rfl xnm0 (by decide)) ?_
                    refine xg_t (xg_blk (b := [(105, 1, 3, 4294967295, 0, 0), (106, 1, 12, 0, 1, 0)]) rfl) ?_
                    refine xg_t (xg_const) ?_
                    exact xg_e ⟨4294967295, w, ⟨rfl, rfl⟩, by omega, hI, xFr.rf⟩
                · have hz99 : 4294967287 ≤ (f3_17 + (4294967296 - hi)) % 4294967296 := by omega
                  refine xg_t (xg_isub (u := f3_17) (v := hi) (z := (f3_17 + (4294967296 - hi)) % 4294967296) xnm0 xnm0 rfl) ?_
                  have hz98 : (f3_17 + (4294967296 - hi)) % 4294967296 < 4294967296 := Nat.mod_lt _ (by decide)
                  generalize (f3_17 + (4294967296 - hi)) % 4294967296 = z97 at hz99 hz98 ⊢
                  refine xg_t (xg_icT (u := yy) (v := z97) rfl xnm0 xnm0 (xjs_gtT (by unfold xbs; omega))) ?_
                  refine xg_t (xg_blk (b := [(92, 1, 3, 0, 0, 0)]) rfl) ?_
                  refine xg_t (xg_const) ?_
                  refine xg_t (xg_blk (b := [(93, 2, 15, 6, 0, 0), (95, 2, 2, 5, 0, 0), (97, 3, 7, 105, 0, 0), (100, 2, 2, 6, 0, 0), (102, 3, 7, 107, 1, 0)]) rfl) ?_
                  refine xg_t (xg_istore (l1 := [(5, (0, 0)), (0, (2, 0)), (1, (0, xx)), (2, (0, yy)), (3, (0, wi)), (4, (0, hi))]) rfl rfl rfl) ?_
                  refine xg_t (xg_iload (va := (0, 0)) rfl rfl) ?_
                  refine xg_t (xg_ifT (u := 0) rfl xnm0 (by decide)) ?_
                  refine xg_t (xg_blk (b := [(105, 1, 3, 4294967295, 0, 0), (106, 1, 12, 0, 1, 0)]) rfl) ?_
                  refine xg_t (xg_const) ?_
                  exact xg_e ⟨4294967295, w, ⟨rfl, rfl⟩, by omega, hI, xFr.rf⟩
          · refine xg_t (xg_ifT (u := yy) rfl xnm0 (xjz_ltT (by omega) (by omega))) ?_
            refine xg_t (xg_blk (b := [(92, 1, 3, 0, 0, 0)]) rfl) ?_
            refine xg_t (xg_const) ?_
            refine xg_t (xg_blk (b := [(93, 2, 15, 6, 0, 0), (95, 2, 2, 5, 0, 0), (97, 3, 7, 105, 0, 0), (100, 2, 2, 6, 0, 0), (102, 3, 7, 107, 1, 0)]) rfl) ?_
            refine xg_t (xg_istore (l1 := [(5, (0, 0)), (0, (2, 0)), (1, (0, xx)), (2, (0, yy)), (3, (0, wi)), (4, (0, hi))]) rfl rfl rfl) ?_
            refine xg_t (xg_iload (va := (0, 0)) rfl rfl) ?_
            refine xg_t (xg_ifT (u := 0) rfl xnm0 (by decide)) ?_
            refine xg_t (xg_blk (b := [(105, 1, 3, 4294967295, 0, 0), (106, 1, 12, 0, 1, 0)]) rfl) ?_
            refine xg_t (xg_const) ?_
            exact xg_e ⟨4294967295, w, ⟨rfl, rfl⟩, by omega, hI, xFr.rf⟩
  · refine xg_t (xg_ifT (u := xx) rfl xnm0 (xjz_ltT (by omega) (by omega))) ?_
    refine xg_t (xg_blk (b := [(43, 1, 3, 0, 0, 0)]) rfl) ?_
    refine xg_t (xg_const) ?_
    refine xg_t (xg_blk (b := [(44, 2, 15, 5, 0, 0), (46, 1, 2, 2, 0, 0), (47, 3, 7, 92, 2, 0), (50, 2, 2, 4, 0, 0), (52, 1, 3, 1, 0, 0), (53, 3, 6, 92, 2, 0), (56, 2, 2, 4, 0, 0), (58, 1, 0, 0, 0, 0), (59, 3, 1, 11, 0, 10), (62, 3, 1, 9, 4, 38), (65, 3, 1, 1, 6, 300), (68, 3, 6, 92, 4, 0), (71, 1, 2, 2, 0, 0), (72, 1, 0, 0, 0, 0), (73, 3, 1, 11, 0, 10), (76, 3, 1, 9, 4, 38), (79, 3, 1, 1, 6, 300), (82, 2, 2, 4, 0, 0), (84, 1, 18, 0, 0, 0), (85, 3, 6, 92, 4, 0), (88, 1, 3, 1, 0, 0), (89, 3, 8, 93, 0, 0)]) rfl) ?_
    refine xg_t (xg_istore (l1 := [(0, (2, 0)), (1, (0, xx)), (2, (0, yy)), (3, (0, wi)), (4, (0, hi))]) rfl rfl rfl) ?_
    refine xg_t (xg_iload (va := (0, yy)) rfl rfl) ?_
    by_cases hc100 : yy < 2147483648
    · refine xg_t (xg_ifF (u := yy) rfl xnm0 (xjz_ltF hc100)) ?_
      refine xg_t (xg_iload (va := (0, hi)) rfl rfl) ?_
      refine xg_t (xg_const) ?_
      by_cases hc101 : xbs hi < xbs 1
      · have hc101u := hc101
        unfold xbs at hc101u
        refine xg_t (xg_icT (u := hi) (v := 1) rfl xnm0 xnm0 (xjs_ltT hc101)) ?_
        refine xg_t (xg_blk (b := [(92, 1, 3, 0, 0, 0)]) rfl) ?_
        refine xg_t (xg_const) ?_
        refine xg_t (xg_blk (b := [(93, 2, 15, 6, 0, 0), (95, 2, 2, 5, 0, 0), (97, 3, 7, 105, 0, 0), (100, 2, 2, 6, 0, 0), (102, 3, 7, 107, 1, 0)]) rfl) ?_
        refine xg_t (xg_istore (l1 := [(5, (0, 0)), (0, (2, 0)), (1, (0, xx)), (2, (0, yy)), (3, (0, wi)), (4, (0, hi))]) rfl rfl rfl) ?_
        refine xg_t (xg_iload (va := (0, 0)) rfl rfl) ?_
        refine xg_t (xg_ifT (u := 0) rfl xnm0 (by decide)) ?_
        refine xg_t (xg_blk (b := [(105, 1, 3, 4294967295, 0, 0), (106, 1, 12, 0, 1, 0)]) rfl) ?_
        refine xg_t (xg_const) ?_
        exact xg_e ⟨4294967295, w, ⟨rfl, rfl⟩, by omega, hI, xFr.rf⟩
      · have hc101u := hc101
        unfold xbs at hc101u
        have hn102 : hi ≤ 2147483647 := by omega
        refine xg_t (xg_icF (u := hi) (v := 1) rfl xnm0 xnm0 (xjs_ltF hc101)) ?_
        refine xg_t (xg_iload (va := (0, hi)) rfl rfl) ?_
        refine xg_t (xg_aload (va := (2, 0)) rfl rfl) ?_
        refine xg_t (xg_getf (va := (2, 1)) h0_1 rfl) ?_
        refine xg_t (xg_getf (va := (2, 3)) h1_14 rfl) ?_
        refine xg_t (xg_getf (va := (0, f3_17)) h3_25 rfl) ?_
        by_cases hc103 : f3_17 < hi
        · refine xg_t (xg_icT (u := hi) (v := f3_17) rfl xnm0 xnm0 (xj_gtT hc103 (by omega))) ?_
          refine xg_t (xg_blk (b := [(92, 1, 3, 0, 0, 0)]) rfl) ?_
          refine xg_t (xg_const) ?_
          refine xg_t (xg_blk (b := [(93, 2, 15, 6, 0, 0), (95, 2, 2, 5, 0, 0), (97, 3, 7, 105, 0, 0), (100, 2, 2, 6, 0, 0), (102, 3, 7, 107, 1, 0)]) rfl) ?_
          refine xg_t (xg_istore (l1 := [(5, (0, 0)), (0, (2, 0)), (1, (0, xx)), (2, (0, yy)), (3, (0, wi)), (4, (0, hi))]) rfl rfl rfl) ?_
          refine xg_t (xg_iload (va := (0, 0)) rfl rfl) ?_
          refine xg_t (xg_ifT (u := 0) rfl xnm0 (by decide)) ?_
          refine xg_t (xg_blk (b := [(105, 1, 3, 4294967295, 0, 0), (106, 1, 12, 0, 1, 0)]) rfl) ?_
          refine xg_t (xg_const) ?_
          exact xg_e ⟨4294967295, w, ⟨rfl, rfl⟩, by omega, hI, xFr.rf⟩
        · refine xg_t (xg_icF (u := hi) (v := f3_17) rfl xnm0 xnm0 (xj_gtF (by omega) (by omega))) ?_
          refine xg_t (xg_iload (va := (0, yy)) rfl rfl) ?_
          refine xg_t (xg_aload (va := (2, 0)) rfl rfl) ?_
          refine xg_t (xg_getf (va := (2, 1)) h0_1 rfl) ?_
          refine xg_t (xg_getf (va := (2, 3)) h1_14 rfl) ?_
          refine xg_t (xg_getf (va := (0, f3_17)) h3_25 rfl) ?_
          refine xg_t (xg_iload (va := (0, hi)) rfl rfl) ?_
          by_cases hc104 : hi ≤ f3_17
          · refine xg_t (xg_isub (u := f3_17) (v := hi) (z := f3_17 - hi) xnm0 xnm0 (by omega)) ?_
            by_cases hc105 : (f3_17 - hi) < yy
            · refine xg_t (xg_icT (u := yy) (v := f3_17 - hi) rfl xnm0 xnm0 (xj_gtT hc105 (by omega))) ?_
              refine xg_t (xg_blk (b := [(92, 1, 3, 0, 0, 0)]) rfl) ?_
              refine xg_t (xg_const) ?_
              refine xg_t (xg_blk (b := [(93, 2, 15, 6, 0, 0), (95, 2, 2, 5, 0, 0), (97, 3, 7, 105, 0, 0), (100, 2, 2, 6, 0, 0), (102, 3, 7, 107, 1, 0)]) rfl) ?_
              refine xg_t (xg_istore (l1 := [(5, (0, 0)), (0, (2, 0)), (1, (0, xx)), (2, (0, yy)), (3, (0, wi)), (4, (0, hi))]) rfl rfl rfl) ?_
              refine xg_t (xg_iload (va := (0, 0)) rfl rfl) ?_
              refine xg_t (xg_ifT (u := 0) rfl xnm0 (by decide)) ?_
              refine xg_t (xg_blk (b := [(105, 1, 3, 4294967295, 0, 0), (106, 1, 12, 0, 1, 0)]) rfl) ?_
              refine xg_t (xg_const) ?_
              exact xg_e ⟨4294967295, w, ⟨rfl, rfl⟩, by omega, hI, xFr.rf⟩
            · refine xg_t (xg_icF (u := yy) (v := f3_17 - hi) rfl xnm0 xnm0 (xj_gtF (by omega) (by omega))) ?_
              refine xg_t (xg_const) ?_
              refine xg_t (xg_goto) ?_
              refine xg_t (xg_blk (b := [(93, 2, 15, 6, 0, 0), (95, 2, 2, 5, 0, 0), (97, 3, 7, 105, 0, 0), (100, 2, 2, 6, 0, 0), (102, 3, 7, 107, 1, 0)]) rfl) ?_
              refine xg_t (xg_istore (l1 := [(5, (0, 0)), (0, (2, 0)), (1, (0, xx)), (2, (0, yy)), (3, (0, wi)), (4, (0, hi))]) rfl rfl rfl) ?_
              refine xg_t (xg_iload (va := (0, 0)) rfl rfl) ?_
              refine xg_t (xg_ifT (u := 0) rfl xnm0 (by decide)) ?_
              refine xg_t (xg_blk (b := [(105, 1, 3, 4294967295, 0, 0), (106, 1, 12, 0, 1, 0)]) rfl) ?_
              refine xg_t (xg_const) ?_
              exact xg_e ⟨4294967295, w, ⟨rfl, rfl⟩, by omega, hI, xFr.rf⟩
          · have hz108 : 4294967287 ≤ (f3_17 + (4294967296 - hi)) % 4294967296 := by omega
            refine xg_t (xg_isub (u := f3_17) (v := hi) (z := (f3_17 + (4294967296 - hi)) % 4294967296) xnm0 xnm0 rfl) ?_
            have hz107 : (f3_17 + (4294967296 - hi)) % 4294967296 < 4294967296 := Nat.mod_lt _ (by decide)
            generalize (f3_17 + (4294967296 - hi)) % 4294967296 = z106 at hz108 hz107 ⊢
            refine xg_t (xg_icT (u := yy) (v := z106) rfl xnm0 xnm0 (xjs_gtT (by unfold xbs; omega))) ?_
            refine xg_t (xg_blk (b := [(92, 1, 3, 0, 0, 0)]) rfl) ?_
            refine xg_t (xg_const) ?_
            refine xg_t (xg_blk (b := [(93, 2, 15, 6, 0, 0), (95, 2, 2, 5, 0, 0), (97, 3, 7, 105, 0, 0), (100, 2, 2, 6, 0, 0), (102, 3, 7, 107, 1, 0)]) rfl) ?_
            refine xg_t (xg_istore (l1 := [(5, (0, 0)), (0, (2, 0)), (1, (0, xx)), (2, (0, yy)), (3, (0, wi)), (4, (0, hi))]) rfl rfl rfl) ?_
            refine xg_t (xg_iload (va := (0, 0)) rfl rfl) ?_
            refine xg_t (xg_ifT (u := 0) rfl xnm0 (by decide)) ?_
            refine xg_t (xg_blk (b := [(105, 1, 3, 4294967295, 0, 0), (106, 1, 12, 0, 1, 0)]) rfl) ?_
            refine xg_t (xg_const) ?_
            exact xg_e ⟨4294967295, w, ⟨rfl, rfl⟩, by omega, hI, xFr.rf⟩
    · refine xg_t (xg_ifT (u := yy) rfl xnm0 (xjz_ltT (by omega) (by omega))) ?_
      refine xg_t (xg_blk (b := [(92, 1, 3, 0, 0, 0)]) rfl) ?_
      refine xg_t (xg_const) ?_
      refine xg_t (xg_blk (b := [(93, 2, 15, 6, 0, 0), (95, 2, 2, 5, 0, 0), (97, 3, 7, 105, 0, 0), (100, 2, 2, 6, 0, 0), (102, 3, 7, 107, 1, 0)]) rfl) ?_
      refine xg_t (xg_istore (l1 := [(5, (0, 0)), (0, (2, 0)), (1, (0, xx)), (2, (0, yy)), (3, (0, wi)), (4, (0, hi))]) rfl rfl rfl) ?_
      refine xg_t (xg_iload (va := (0, 0)) rfl rfl) ?_
      refine xg_t (xg_ifT (u := 0) rfl xnm0 (by decide)) ?_
      refine xg_t (xg_blk (b := [(105, 1, 3, 4294967295, 0, 0), (106, 1, 12, 0, 1, 0)]) rfl) ?_
      refine xg_t (xg_const) ?_
      exact xg_e ⟨4294967295, w, ⟨rfl, rfl⟩, by omega, hI, xFr.rf⟩
theorem scIsBroken {ha ye : Nat} (hI : xInv w) (hha : ha ≤ 4294967295) (hye : ye ≤ 4294967295) : xPi (d + 4) mX11_isBroken [(2, 0), (0, ha), (0, ye)] w bd fc rr (fun n w' => (n ≤ 1) ∧ xInv w' ∧ xFr [56] w w') := by
  refine xPi.of ?_
  show xTo (d + 4) mX11_isBroken (0, [], [(0, (2, 0)), (1, (0, ha)), (2, (0, ye))], [], (w, bd, fc, 0, 0, rr)) (fun φ => ∃ n w', xEnd 4 [(0, n)] (w', bd, fc, 0, 0, rr) φ ∧ (n ≤ 1) ∧ xInv w' ∧ xFr [56] w w')
  have h0_1 := (hI 0 (by decide) : cp0 (wget w 0))
  obtain ⟨f1_2, f1_4, f1_6, f1_8, f1_10, f1_12, h1_14, hb3, hb5, hb7, hb9, hb11, hb13⟩ := (hI 1 (by decide) : cp1 (wget w 1))
  obtain ⟨f3_15, f3_17, f3_19, f3_21, f3_23, h3_25, hb16, hb18, hb20, hb22, hb24⟩ := (hI 3 (by decide) : cp3 (wget w 3))
  obtain ⟨f18_26, h18_28, hb27⟩ := (hI 18 (by decide) : cp18 (wget w 18))
  obtain ⟨g19_29, h19_30, hb31⟩ := (hI 19 (by decide) : cpI 12 8 4294967295 (wget w 19))
  have h19_30 : xRow w 19 12 8 g19_29 := h19_30
  refine xg_t (xg_blk (b := [(0, 3, 52, 365, 0, 388), (3, 1, 2, 2, 0, 0), (4, 1, 49, 0, 0, 0), (5, 1, 55, 0, 0, 0), (6, 1, 0, 0, 0, 0), (7, 3, 1, 11, 0, 10), (10, 3, 1, 9, 10, 316), (13, 1, 2, 1, 0, 0), (14, 1, 3, 1, 0, 0), (15, 3, 13, 285, 40, 132), (18, 1, 49, 0, 0, 0), (19, 1, 55, 0, 0, 0), (20, 1, 54, 3, 0, 0), (21, 1, 0, 0, 0, 0), (22, 3, 1, 11, 4, 45), (25, 1, 53, 3, 0, 0), (26, 1, 0, 0, 0, 0), (27, 3, 1, 11, 0, 10), (30, 3, 1, 9, 10, 316), (33, 1, 2, 1, 0, 0), (34, 1, 3, 2, 0, 0), (35, 3, 13, 285, 40, 132), (38, 3, 13, 4, 0, 390), (41, 1, 12, 0, 1, 0)]) rfl) ?_
  refine xg_t (xg_ldc2) ?_
  refine xg_t (xg_iload (va := (0, ye)) rfl rfl) ?_
  refine xg_kl (xg_i2l (u := ye) xnm0) (fun l32 => ?_)
  refine xg_kl (xg_lmul (u := 365) (v := l32)) (fun l33 => ?_)
  refine xg_t (xg_aload (va := (2, 0)) rfl rfl) ?_
  refine xg_t (xg_getf (va := (2, 1)) h0_1 rfl) ?_
  refine xg_t (xg_getf (va := (2, 18)) h1_14 rfl) ?_
  refine xg_t (xg_iload (va := (0, ha)) rfl rfl) ?_
  refine xg_t (xg_const) ?_
  refine xg_k (xg_cVr mX5_get (vs := [(0, ha), (0, 1)]) (rest := [(4, l33)]) (rs := [(0, if ha < f18_26 ∧ 1 < 3 then g19_29 (ha * 3 + 1) else 4294967295), (4, l33)]) (cn1 := 0) (sl1 := 0) rfl (rget_ok (lim := 4) (wd := 3) (sz := f18_26) h18_28 h19_30 (by decide) (by omega) (by decide) (by decide) (by omega) (by omega)) rfl h18_28 rfl rfl rfl rfl rfl rfl rfl) (xiteb (hb31)) (fun z34 hz35 => ?_)
  refine xg_kl (xg_i2l (u := z34) xnm0) (fun l36 => ?_)
  refine xg_kl (xg_lmul (u := l33) (v := l36)) (fun l37 => ?_)
  refine xg_t (xg_lstore (l1 := [(0, (2, 0)), (1, (0, ha)), (2, (0, ye))]) rfl rfl) ?_
  refine xg_t (xg_aload (va := (2, 0)) rfl rfl) ?_
  refine xg_t (xg_getf (va := (2, 49)) h0_1 rfl) ?_
  refine xg_t (xg_lload (u := l37) rfl) ?_
  refine xg_t (xg_aload (va := (2, 0)) rfl rfl) ?_
  refine xg_t (xg_getf (va := (2, 1)) h0_1 rfl) ?_
  refine xg_t (xg_getf (va := (2, 18)) h1_14 rfl) ?_
  refine xg_t (xg_iload (va := (0, ha)) rfl rfl) ?_
  refine xg_t (xg_const) ?_
  refine xg_k (xg_cVr mX5_get (vs := [(0, ha), (0, 2)]) (rest := [(4, l37), (2, 49)]) (rs := [(0, if ha < f18_26 ∧ 2 < 3 then g19_29 (ha * 3 + 2) else 4294967295), (4, l37), (2, 49)]) (cn1 := 0) (sl1 := 0) rfl (rget_ok (lim := 4) (wd := 3) (sz := f18_26) h18_28 h19_30 (by decide) (by omega) (by decide) (by decide) (by omega) (by omega)) rfl h18_28 rfl rfl rfl rfl rfl rfl rfl) (xiteb (hb31)) (fun z38 hz39 => ?_)
  obtain ⟨f49_40, f49_42, h49_44, hb41, hb43⟩ := (hI 49 (by decide) : cp49 (wget w 49))
  refine xg_cVi mX0_breaksBehind (vs := [(4, l37), (0, z38)]) (rest := []) (cn1 := 0) (sl1 := 0) rfl (bdBreaks (hI) (by omega)) rfl h49_44 rfl rfl rfl rfl rfl rfl (fun n49 w45 hq46 => ?_)
  obtain ⟨hn50, hI47, hF48⟩ := hq46
  exact xg_e ⟨n49, w45, ⟨xret_b (by omega), rfl⟩, by omega, hI47, (hF48.up (by decide))⟩
theorem scBroken {ha ye : Nat} (hI : xInv w) (hha : ha ≤ 4294967295) (hye : ye ≤ 4294967295) : xPi (d + 5) mX11_broken [(2, 0), (0, ha), (0, ye)] w bd fc rr (fun n w' => (n ≤ 1) ∧ xInv w' ∧ xFr [50, 51, 52, 53, 54, 55, 56] w w') := by
  refine xPi.of ?_
  show xTo (d + 5) mX11_broken (0, [], [(0, (2, 0)), (1, (0, ha)), (2, (0, ye))], [], (w, bd, fc, 0, 0, rr)) (fun φ => ∃ n w', xEnd 4 [(0, n)] (w', bd, fc, 0, 0, rr) φ ∧ (n ≤ 1) ∧ xInv w' ∧ xFr [50, 51, 52, 53, 54, 55, 56] w w')
  refine xg_t (xg_blk (b := [(0, 1, 0, 0, 0, 0), (1, 3, 1, 11, 0, 10), (4, 3, 1, 9, 10, 316), (7, 1, 2, 1, 0, 0), (8, 3, 13, 287, 40, 117), (11, 3, 7, 24, 0, 0), (14, 1, 2, 2, 0, 0), (15, 1, 3, 0, 0, 0), (16, 2, 4, 30, 0, 0), (18, 3, 13, 70, 90, 238), (21, 3, 7, 26, 1, 0)]) rfl) ?_
  refine xg_t (xg_aload (va := (2, 0)) rfl rfl) ?_
  have h0_1 := (hI 0 (by decide) : cp0 (wget w 0))
  refine xg_t (xg_getf (va := (2, 1)) h0_1 rfl) ?_
  obtain ⟨f1_2, f1_4, f1_6, f1_8, f1_10, f1_12, h1_14, hb3, hb5, hb7, hb9, hb11, hb13⟩ := (hI 1 (by decide) : cp1 (wget w 1))
  refine xg_t (xg_getf (va := (2, 18)) h1_14 rfl) ?_
  refine xg_t (xg_iload (va := (0, ha)) rfl rfl) ?_
  obtain ⟨f18_15, h18_17, hb16⟩ := (hI 18 (by decide) : cp18 (wget w 18))
  refine xg_t (xg_cVr mX5_has (vs := [(0, ha)]) (rest := []) (rs := [(0, if ha < f18_15 then 1 else 0)]) (cn1 := 0) (sl1 := 0) rfl (rhas_ok h18_17 (by decide) (by omega) (by omega)) rfl h18_17 rfl rfl rfl rfl rfl rfl rfl) ?_
  by_cases hc18 : ha < f18_15
  · refine xg_t (xg_ifF (u := (if ha < f18_15 then 1 else 0)) rfl xnm0 (xj_eqF (xite1 hc18))) ?_
    refine xg_t (xg_iload (va := (0, ye)) rfl rfl) ?_
    refine xg_t (xg_const) ?_
    refine xg_t (xg_bip) ?_
    refine xg_t (xg_cSr mX11_isIn (vs := [(0, ye), (0, 0), (0, 30)]) (rest := []) (rs := [(0, if 0 ≤ ye ∧ ye ≤ 30 then 1 else 0)]) (cn1 := 0) (sl1 := 0) rfl (isIn_ok (by omega) (by omega) (by omega)) rfl rfl rfl rfl rfl rfl rfl rfl) ?_
    by_cases hc19 : 0 ≤ ye ∧ ye ≤ 30
    · refine xg_t (xg_ifT (u := (if 0 ≤ ye ∧ ye ≤ 30 then 1 else 0)) rfl xnm0 (xj_neT (xite1 hc19))) ?_
      refine xg_t (xg_blk (b := [(26, 1, 0, 0, 0, 0), (27, 3, 1, 11, 4, 45), (30, 3, 13, 12, 0, 123), (33, 1, 0, 0, 0, 0), (34, 1, 2, 1, 0, 0), (35, 1, 2, 2, 0, 0), (36, 3, 13, 68, 88, 319), (39, 1, 12, 0, 1, 0)]) rfl) ?_
      refine xg_t (xg_aload (va := (2, 0)) rfl rfl) ?_
      refine xg_t (xg_getf (va := (2, 49)) h0_1 rfl) ?_
      obtain ⟨f49_20, f49_22, h49_24, hb21, hb23⟩ := (hI 49 (by decide) : cp49 (wget w 49))
      refine xg_cVv mX0_layAsTold (vs := []) (rest := []) (cn1 := 0) (sl1 := 0) rfl (bdLayAsTold (hI)) rfl h49_24 rfl rfl rfl rfl rfl rfl (fun w25 hq26 => ?_)
      obtain ⟨hI27, hF28⟩ := hq26
      refine xg_t (xg_aload (va := (2, 0)) rfl rfl) ?_
      refine xg_t (xg_iload (va := (0, ha)) rfl rfl) ?_
      refine xg_t (xg_iload (va := (0, ye)) rfl rfl) ?_
      refine xg_cVi mX11_isBroken (vs := [(0, ha), (0, ye)]) (rest := []) (cn1 := 0) (sl1 := 0) rfl (scIsBroken (hI27) (by omega) (by omega)) rfl (hF28.get (by decide) h0_1) rfl rfl rfl rfl rfl rfl (fun n33 w29 hq30 => ?_)
      obtain ⟨hn34, hI31, hF32⟩ := hq30
      exact xg_e ⟨n33, w29, ⟨xret_b (by omega), rfl⟩, by omega, hI31, ((hF28.up (by decide)).tr (hF32.up (by decide)))⟩
    · refine xg_t (xg_ifF (u := (if 0 ≤ ye ∧ ye ≤ 30 then 1 else 0)) rfl xnm0 (xj_neF (xite0 hc19))) ?_
      refine xg_t (xg_blk (b := [(24, 1, 3, 0, 0, 0), (25, 1, 12, 0, 1, 0)]) rfl) ?_
      refine xg_t (xg_const) ?_
      exact xg_e ⟨0, w, ⟨rfl, rfl⟩, by omega, hI, xFr.rf⟩
  · refine xg_t (xg_ifT (u := (if ha < f18_15 then 1 else 0)) rfl xnm0 (xj_eqT (xite0 hc18))) ?_
    refine xg_t (xg_blk (b := [(24, 1, 3, 0, 0, 0), (25, 1, 12, 0, 1, 0)]) rfl) ?_
    refine xg_t (xg_const) ?_
    exact xg_e ⟨0, w, ⟨rfl, rfl⟩, by omega, hI, xFr.rf⟩
theorem scBrokenShare {ye : Nat} (hI : xInv w) (hye : ye ≤ 4294967295) : xPi (d + 5) mX11_brokenShare [(2, 0), (0, ye)] w bd fc rr (fun n w' => (n ≤ 4294967295) ∧ xInv w' ∧ xFr [56] w w') := by
  refine xPi.of ?_
  show xTo (d + 5) mX11_brokenShare (0, [], [(0, (2, 0)), (1, (0, ye))], [], (w, bd, fc, 0, 0, rr)) (fun φ => ∃ n w', xEnd 1 [(0, n)] (w', bd, fc, 0, 0, rr) φ ∧ (n ≤ 4294967295) ∧ xInv w' ∧ xFr [56] w w')
  have h0_1 := (hI 0 (by decide) : cp0 (wget w 0))
  obtain ⟨f1_2, f1_4, f1_6, f1_8, f1_10, f1_12, h1_14, hb3, hb5, hb7, hb9, hb11, hb13⟩ := (hI 1 (by decide) : cp1 (wget w 1))
  obtain ⟨f3_15, f3_17, f3_19, f3_21, f3_23, h3_25, hb16, hb18, hb20, hb22, hb24⟩ := (hI 3 (by decide) : cp3 (wget w 3))
  obtain ⟨f18_26, h18_28, hb27⟩ := (hI 18 (by decide) : cp18 (wget w 18))
  obtain ⟨g19_29, h19_30, hb31⟩ := (hI 19 (by decide) : cpI 12 8 4294967295 (wget w 19))
  have h19_30 : xRow w 19 12 8 g19_29 := h19_30
  refine xg_t (xg_blk (b := [(0, 1, 3, 0, 0, 0), (1, 1, 15, 2, 0, 0), (2, 1, 3, 0, 0, 0), (3, 1, 15, 3, 0, 0), (4, 1, 3, 0, 0, 0), (5, 2, 15, 4, 0, 0)]) rfl) ?_
  refine xg_t (xg_const) ?_
  refine xg_t (xg_istore (l1 := [(0, (2, 0)), (1, (0, ye))]) rfl rfl rfl) ?_
  refine xg_t (xg_const) ?_
  refine xg_t (xg_istore (l1 := [(2, (0, 0)), (0, (2, 0)), (1, (0, ye))]) rfl rfl rfl) ?_
  refine xg_t (xg_const) ?_
  refine xg_t (xg_istore (l1 := [(3, (0, 0)), (2, (0, 0)), (0, (2, 0)), (1, (0, ye))]) rfl rfl rfl) ?_
  refine xg_t (xg_drop (l1 := [(0, (2, 0)), (1, (0, ye)), (2, (0, 0)), (3, (0, 0)), (4, (0, 0))]) (List.forall_mem_cons.mpr ⟨List.mem_cons_of_mem _ (List.mem_cons_of_mem _ (List.mem_cons_of_mem _ (List.mem_cons_self))), List.forall_mem_cons.mpr ⟨List.mem_cons_of_mem _ (List.mem_cons_of_mem _ (List.mem_cons_of_mem _ (List.mem_cons_of_mem _ (List.mem_cons_self)))), List.forall_mem_cons.mpr ⟨List.mem_cons_of_mem _ (List.mem_cons_of_mem _ (List.mem_cons_self)), List.forall_mem_cons.mpr ⟨List.mem_cons_of_mem _ (List.mem_cons_self), List.forall_mem_cons.mpr ⟨List.mem_cons_self, fun _ h => absurd h List.not_mem_nil⟩⟩⟩⟩⟩)) ?_
  have key32 : ∀ (m34 : Nat) (br al ha : Nat) (w35 : List (List xE)), 4 - ha < m34 → br ≤ 4294967295 → al ≤ 4294967295 → ha ≤ 4 → xInv w35 → xFr [56] w w35 → xTo (d + 5) mX11_brokenShare (7, [], [(0, (2, 0)), (1, (0, ye)), (2, (0, br)), (3, (0, al)), (4, (0, ha))], [], (w35, bd, fc, 0, 0, rr)) (fun φ => ∃ n w', xEnd 1 [(0, n)] (w', bd, fc, 0, 0, rr) φ ∧ (n ≤ 4294967295) ∧ xInv w' ∧ xFr [56] w w') := by
    intro m34
    induction m34 with
    | zero => intro br al ha w35 hz; exact absurd hz (Nat.not_lt_zero _)
    | succ m34 ih33 =>
      intro br al ha w35 hm41 hn38 hn39 hn40 hI36 hF37
      refine xg_t (xg_blk (b := [(7, 2, 2, 4, 0, 0), (9, 1, 0, 0, 0, 0), (10, 3, 1, 11, 0, 10), (13, 3, 1, 9, 10, 316), (16, 3, 1, 5, 3, 151), (19, 3, 6, 63, 3, 0), (22, 1, 0, 0, 0, 0), (23, 3, 1, 11, 0, 10), (26, 3, 1, 9, 10, 316), (29, 2, 2, 4, 0, 0), (31, 1, 3, 0, 0, 0), (32, 3, 13, 285, 40, 132), (35, 2, 15, 5, 0, 0), (37, 1, 2, 3, 0, 0), (38, 2, 2, 5, 0, 0), (40, 1, 11, 0, 0, 0), (41, 1, 15, 3, 0, 0), (42, 1, 0, 0, 0, 0), (43, 2, 2, 4, 0, 0), (45, 1, 2, 1, 0, 0), (46, 3, 13, 68, 88, 319), (49, 3, 7, 57, 0, 0), (52, 1, 2, 2, 0, 0), (53, 2, 2, 5, 0, 0), (55, 1, 11, 0, 0, 0), (56, 1, 15, 2, 0, 0)]) rfl) ?_
      refine xg_t (xg_iload (va := (0, ha)) rfl rfl) ?_
      refine xg_t (xg_aload (va := (2, 0)) rfl rfl) ?_
      refine xg_t (xg_getf (va := (2, 1)) (hF37.get (by decide) h0_1) rfl) ?_
      refine xg_t (xg_getf (va := (2, 18)) (hF37.get (by decide) h1_14) rfl) ?_
      refine xg_t (xg_getf (va := (0, f18_26)) (hF37.get (by decide) h18_28) rfl) ?_
      by_cases hc42 : ha < f18_26
      · refine xg_t (xg_icF (u := ha) (v := f18_26) rfl xnm0 xnm0 (xj_geF hc42 (by omega))) ?_
        refine xg_t (xg_aload (va := (2, 0)) rfl rfl) ?_
        refine xg_t (xg_getf (va := (2, 1)) (hF37.get (by decide) h0_1) rfl) ?_
        refine xg_t (xg_getf (va := (2, 18)) (hF37.get (by decide) h1_14) rfl) ?_
        refine xg_t (xg_iload (va := (0, ha)) rfl rfl) ?_
        refine xg_t (xg_const) ?_
        refine xg_k (xg_cVr mX5_get (vs := [(0, ha), (0, 0)]) (rest := []) (rs := [(0, if ha < f18_26 ∧ 0 < 3 then g19_29 (ha * 3 + 0) else 4294967295)]) (cn1 := 0) (sl1 := 0) rfl (rget_ok (lim := 4) (wd := 3) (sz := f18_26) (hF37.get (by decide) h18_28) (h19_30.fr hF37 (by decide)) (by decide) (by omega) (by decide) (by decide) (by omega) (by omega)) rfl (hF37.get (by decide) h18_28) rfl rfl rfl rfl rfl rfl rfl) (xiteb (hb31)) (fun z43 hz44 => ?_)
        refine xg_t (xg_istore (l1 := [(0, (2, 0)), (1, (0, ye)), (2, (0, br)), (3, (0, al)), (4, (0, ha))]) rfl rfl rfl) ?_
        refine xg_t (xg_iload (va := (0, al)) rfl rfl) ?_
        refine xg_t (xg_iload (va := (0, z43)) rfl rfl) ?_
        refine xg_k (xg_iadd (u := al) (v := z43) (z := (al + z43) % 4294967296) xnm0 xnm0 rfl) (Nat.mod_lt _ (by decide)) (fun z45 hz46 => ?_)
        refine xg_t (xg_istore (l1 := [(5, (0, z43)), (0, (2, 0)), (1, (0, ye)), (2, (0, br)), (4, (0, ha))]) rfl rfl rfl) ?_
        refine xg_t (xg_aload (va := (2, 0)) rfl rfl) ?_
        refine xg_t (xg_iload (va := (0, ha)) rfl rfl) ?_
        refine xg_t (xg_iload (va := (0, ye)) rfl rfl) ?_
        refine xg_cVi mX11_isBroken (vs := [(0, ha), (0, ye)]) (rest := []) (cn1 := 0) (sl1 := 0) rfl (scIsBroken (hI36) (by omega) (by omega)) rfl (hF37.get (by decide) h0_1) rfl rfl rfl rfl rfl rfl (fun n51 w47 hq48 => ?_)
        obtain ⟨hn52, hI49, hF50⟩ := hq48
        by_cases hc53 : n51 = 0
        · refine xg_t (xg_ifT (u := n51) rfl xnm0 (xj_eqT hc53)) ?_
          refine xg_t (xg_blk (b := [(57, 3, 9, 4, 1, 0), (60, 3, 8, 7, 0, 0)]) rfl) ?_
          refine xg_t (xg_iinc (u := ha) (z := ha + 1) (l1 := [(3, (0, z45)), (5, (0, z43)), (0, (2, 0)), (1, (0, ye)), (2, (0, br))]) rfl rfl (by omega) rfl) ?_
          refine xg_t (xg_goto) ?_
          refine xg_t (xg_drop (l1 := [(0, (2, 0)), (1, (0, ye)), (2, (0, br)), (3, (0, z45)), (4, (0, ha + 1))]) (List.forall_mem_cons.mpr ⟨List.mem_cons_of_mem _ (List.mem_cons_of_mem _ (List.mem_cons_of_mem _ (List.mem_cons_self))), List.forall_mem_cons.mpr ⟨List.mem_cons_of_mem _ (List.mem_cons_of_mem _ (List.mem_cons_of_mem _ (List.mem_cons_of_mem _ (List.mem_cons_self)))), List.forall_mem_cons.mpr ⟨List.mem_cons_of_mem _ (List.mem_cons_of_mem _ (List.mem_cons_of_mem _ (List.mem_cons_of_mem _ (List.mem_cons_of_mem _ (List.mem_cons_self))))), List.forall_mem_cons.mpr ⟨List.mem_cons_of_mem _ (List.mem_cons_self), List.forall_mem_cons.mpr ⟨List.mem_cons_self, fun _ h => absurd h List.not_mem_nil⟩⟩⟩⟩⟩)) ?_
          exact ih33 br z45 (ha + 1) w47 (by omega) (by omega) (by omega) (by omega) (hI49) ((hF37.tr (hF50.up (by decide))))
        · refine xg_t (xg_ifF (u := n51) rfl xnm0 (xj_eqF hc53)) ?_
          refine xg_t (xg_iload (va := (0, br)) rfl rfl) ?_
          refine xg_t (xg_iload (va := (0, z43)) rfl rfl) ?_
          refine xg_k (xg_iadd (u := br) (v := z43) (z := (br + z43) % 4294967296) xnm0 xnm0 rfl) (Nat.mod_lt _ (by decide)) (fun z54 hz55 => ?_)
          refine xg_t (xg_istore (l1 := [(3, (0, z45)), (5, (0, z43)), (0, (2, 0)), (1, (0, ye)), (4, (0, ha))]) rfl rfl rfl) ?_
          refine xg_t (xg_blk (b := [(57, 3, 9, 4, 1, 0), (60, 3, 8, 7, 0, 0)]) rfl) ?_
          refine xg_t (xg_iinc (u := ha) (z := ha + 1) (l1 := [(2, (0, z54)), (3, (0, z45)), (5, (0, z43)), (0, (2, 0)), (1, (0, ye))]) rfl rfl (by omega) rfl) ?_
          refine xg_t (xg_goto) ?_
          refine xg_t (xg_drop (l1 := [(0, (2, 0)), (1, (0, ye)), (2, (0, z54)), (3, (0, z45)), (4, (0, ha + 1))]) (List.forall_mem_cons.mpr ⟨List.mem_cons_of_mem _ (List.mem_cons_of_mem _ (List.mem_cons_of_mem _ (List.mem_cons_of_mem _ (List.mem_cons_self)))), List.forall_mem_cons.mpr ⟨List.mem_cons_of_mem _ (List.mem_cons_of_mem _ (List.mem_cons_of_mem _ (List.mem_cons_of_mem _ (List.mem_cons_of_mem _ (List.mem_cons_self))))), List.forall_mem_cons.mpr ⟨List.mem_cons_of_mem _ (List.mem_cons_self), List.forall_mem_cons.mpr ⟨List.mem_cons_of_mem _ (List.mem_cons_of_mem _ (List.mem_cons_self)), List.forall_mem_cons.mpr ⟨List.mem_cons_self, fun _ h => absurd h List.not_mem_nil⟩⟩⟩⟩⟩)) ?_
          exact ih33 z54 z45 (ha + 1) w47 (by omega) (by omega) (by omega) (by omega) (hI49) ((hF37.tr (hF50.up (by decide))))
      · refine xg_t (xg_icT (u := ha) (v := f18_26) rfl xnm0 xnm0 (xj_geT (by omega) (by omega))) ?_
        refine xg_t (xg_blk (b := [(63, 3, 52, 1000, 0, 394), (66, 1, 2, 2, 0, 0), (67, 1, 49, 0, 0, 0), (68, 1, 55, 0, 0, 0), (69, 1, 2, 3, 0, 0), (70, 1, 49, 0, 0, 0), (71, 3, 13, 55, 90, 396), (74, 1, 50, 0, 0, 0), (75, 1, 12, 0, 1, 0)]) rfl) ?_
        refine xg_t (xg_ldc2) ?_
        refine xg_t (xg_iload (va := (0, br)) rfl rfl) ?_
        refine xg_kl (xg_i2l (u := br) xnm0) (fun l56 => ?_)
        refine xg_kl (xg_lmul (u := 1000) (v := l56)) (fun l57 => ?_)
        refine xg_t (xg_iload (va := (0, al)) rfl rfl) ?_
        refine xg_kl (xg_i2l (u := al) xnm0) (fun l58 => ?_)
        refine xg_cSj mX11_divide (vs := [(4, l57), (4, l58)]) (rest := []) (cn1 := 0) (sl1 := 0) rfl (dvDivide (hI36)) rfl rfl rfl rfl rfl rfl rfl (fun l63 w59 hq60 => ?_)
        obtain ⟨hn64, hI61, hF62⟩ := hq60
        refine xg_k (xg_l2i (u := l63)) (xpt_lt _) (fun z65 hz66 => ?_)
        exact xg_e ⟨z65, w59, ⟨rfl, rfl⟩, by omega, hI61, (hF37.tr (hF62.up (by decide)))⟩
  exact key32 _ 0 0 0 w (Nat.lt_succ_self _) (by omega) (by omega) (by omega) (hI) (xFr.rf)
theorem scShare {ye : Nat} (hI : xInv w) (hye : ye ≤ 4294967295) : xPi (d + 6) mX11_share [(2, 0), (0, ye)] w bd fc rr (fun n w' => (n ≤ 4294967295) ∧ xInv w' ∧ xFr [50, 51, 52, 53, 54, 55, 56] w w') := by
  refine xPi.of ?_
  show xTo (d + 6) mX11_share (0, [], [(0, (2, 0)), (1, (0, ye))], [], (w, bd, fc, 0, 0, rr)) (fun φ => ∃ n w', xEnd 1 [(0, n)] (w', bd, fc, 0, 0, rr) φ ∧ (n ≤ 4294967295) ∧ xInv w' ∧ xFr [50, 51, 52, 53, 54, 55, 56] w w')
  refine xg_t (xg_blk (b := [(0, 1, 2, 1, 0, 0), (1, 1, 3, 0, 0, 0), (2, 2, 4, 30, 0, 0), (4, 3, 13, 70, 90, 238), (7, 3, 7, 12, 1, 0), (10, 1, 3, 4294967295, 0, 0), (11, 1, 12, 0, 1, 0)]) rfl) ?_
  refine xg_t (xg_iload (va := (0, ye)) rfl rfl) ?_
  refine xg_t (xg_const) ?_
  refine xg_t (xg_bip) ?_
  refine xg_t (xg_cSr mX11_isIn (vs := [(0, ye), (0, 0), (0, 30)]) (rest := []) (rs := [(0, if 0 ≤ ye ∧ ye ≤ 30 then 1 else 0)]) (cn1 := 0) (sl1 := 0) rfl (isIn_ok (by omega) (by omega) (by omega)) rfl rfl rfl rfl rfl rfl rfl rfl) ?_
  by_cases hc1 : 0 ≤ ye ∧ ye ≤ 30
  · refine xg_t (xg_ifT (u := (if 0 ≤ ye ∧ ye ≤ 30 then 1 else 0)) rfl xnm0 (xj_neT (xite1 hc1))) ?_
    refine xg_t (xg_blk (b := [(12, 1, 0, 0, 0, 0), (13, 3, 1, 11, 4, 45), (16, 3, 13, 12, 0, 123), (19, 1, 0, 0, 0, 0), (20, 1, 2, 1, 0, 0), (21, 3, 13, 41, 88, 322), (24, 1, 12, 0, 1, 0)]) rfl) ?_
    refine xg_t (xg_aload (va := (2, 0)) rfl rfl) ?_
    have h0_2 := (hI 0 (by decide) : cp0 (wget w 0))
    refine xg_t (xg_getf (va := (2, 49)) h0_2 rfl) ?_
    obtain ⟨f49_3, f49_5, h49_7, hb4, hb6⟩ := (hI 49 (by decide) : cp49 (wget w 49))
    refine xg_cVv mX0_layAsTold (vs := []) (rest := []) (cn1 := 0) (sl1 := 0) rfl (bdLayAsTold (hI)) rfl h49_7 rfl rfl rfl rfl rfl rfl (fun w8 hq9 => ?_)
    obtain ⟨hI10, hF11⟩ := hq9
    refine xg_t (xg_aload (va := (2, 0)) rfl rfl) ?_
    refine xg_t (xg_iload (va := (0, ye)) rfl rfl) ?_
    refine xg_cVi mX11_brokenShare (vs := [(0, ye)]) (rest := []) (cn1 := 0) (sl1 := 0) rfl (scBrokenShare (hI10) (by omega)) rfl (hF11.get (by decide) h0_2) rfl rfl rfl rfl rfl rfl (fun n16 w12 hq13 => ?_)
    obtain ⟨hn17, hI14, hF15⟩ := hq13
    exact xg_e ⟨n16, w12, ⟨rfl, rfl⟩, by omega, hI14, ((hF11.up (by decide)).tr (hF15.up (by decide)))⟩
  · refine xg_t (xg_ifF (u := (if 0 ≤ ye ∧ ye ≤ 30 then 1 else 0)) rfl xnm0 (xj_neF (xite0 hc1))) ?_
    refine xg_t (xg_const) ?_
    exact xg_e ⟨4294967295, w, ⟨rfl, rfl⟩, by omega, hI, xFr.rf⟩
theorem scPromise {pp : Nat} (hI : xInv w) (hpp : pp ≤ 4294967295) : xPi (d + 6) mX11_promise [(2, 0), (0, pp)] w bd fc rr (fun n w' => (n ≤ 4294967295) ∧ xInv w' ∧ xFr [50, 51, 52, 53, 54, 55, 56] w w') := by
  refine xPi.of ?_
  show xTo (d + 6) mX11_promise (0, [], [(0, (2, 0)), (1, (0, pp))], [], (w, bd, fc, 0, 0, rr)) (fun φ => ∃ n w', xEnd 1 [(0, n)] (w', bd, fc, 0, 0, rr) φ ∧ (n ≤ 4294967295) ∧ xInv w' ∧ xFr [50, 51, 52, 53, 54, 55, 56] w w')
  refine xg_t (xg_blk (b := [(0, 1, 2, 1, 0, 0), (1, 1, 3, 0, 0, 0), (2, 3, 5, 1000, 0, 0), (5, 3, 13, 70, 90, 238), (8, 3, 7, 13, 1, 0), (11, 1, 3, 4294967295, 0, 0), (12, 1, 12, 0, 1, 0)]) rfl) ?_
  refine xg_t (xg_iload (va := (0, pp)) rfl rfl) ?_
  refine xg_t (xg_const) ?_
  refine xg_t (xg_sip) ?_
  refine xg_t (xg_cSr mX11_isIn (vs := [(0, pp), (0, 0), (0, 1000)]) (rest := []) (rs := [(0, if 0 ≤ pp ∧ pp ≤ 1000 then 1 else 0)]) (cn1 := 0) (sl1 := 0) rfl (isIn_ok (by omega) (by omega) (by omega)) rfl rfl rfl rfl rfl rfl rfl rfl) ?_
  by_cases hc1 : 0 ≤ pp ∧ pp ≤ 1000
  · refine xg_t (xg_ifT (u := (if 0 ≤ pp ∧ pp ≤ 1000 then 1 else 0)) rfl xnm0 (xj_neT (xite1 hc1))) ?_
    refine xg_t (xg_blk (b := [(13, 1, 0, 0, 0, 0), (14, 3, 1, 11, 4, 45), (17, 3, 13, 12, 0, 123), (20, 1, 3, 0, 0, 0), (21, 1, 15, 2, 0, 0)]) rfl) ?_
    refine xg_t (xg_aload (va := (2, 0)) rfl rfl) ?_
    have h0_2 := (hI 0 (by decide) : cp0 (wget w 0))
    refine xg_t (xg_getf (va := (2, 49)) h0_2 rfl) ?_
    obtain ⟨f49_3, f49_5, h49_7, hb4, hb6⟩ := (hI 49 (by decide) : cp49 (wget w 49))
    refine xg_cVv mX0_layAsTold (vs := []) (rest := []) (cn1 := 0) (sl1 := 0) rfl (bdLayAsTold (hI)) rfl h49_7 rfl rfl rfl rfl rfl rfl (fun w8 hq9 => ?_)
    obtain ⟨hI10, hF11⟩ := hq9
    refine xg_t (xg_const) ?_
    refine xg_t (xg_istore (l1 := [(0, (2, 0)), (1, (0, pp))]) rfl rfl rfl) ?_
    refine xg_t (xg_drop (l1 := [(0, (2, 0)), (1, (0, pp)), (2, (0, 0))]) (List.forall_mem_cons.mpr ⟨List.mem_cons_of_mem _ (List.mem_cons_self), List.forall_mem_cons.mpr ⟨List.mem_cons_of_mem _ (List.mem_cons_of_mem _ (List.mem_cons_self)), List.forall_mem_cons.mpr ⟨List.mem_cons_self, fun _ h => absurd h List.not_mem_nil⟩⟩⟩)) ?_
    have key12 : ∀ (m14 : Nat) (ye : Nat) (w15 : List (List xE)), 31 - ye < m14 → ye ≤ 31 → xInv w15 → xFr [50, 51, 52, 53, 54, 55, 56] w w15 → xTo (d + 6) mX11_promise (22, [], [(0, (2, 0)), (1, (0, pp)), (2, (0, ye))], [], (w15, bd, fc, 0, 0, rr)) (fun φ => ∃ n w', xEnd 1 [(0, n)] (w', bd, fc, 0, 0, rr) φ ∧ (n ≤ 4294967295) ∧ xInv w' ∧ xFr [50, 51, 52, 53, 54, 55, 56] w w') := by
      intro m14
      induction m14 with
      | zero => intro ye w15 hz; exact absurd hz (Nat.not_lt_zero _)
      | succ m14 ih13 =>
        intro ye w15 hm19 hn18 hI16 hF17
        refine xg_t (xg_blk (b := [(22, 1, 2, 2, 0, 0), (23, 2, 4, 30, 0, 0), (25, 3, 6, 47, 4, 0), (28, 1, 0, 0, 0, 0), (29, 1, 2, 2, 0, 0), (30, 3, 13, 41, 88, 322), (33, 1, 2, 1, 0, 0), (34, 3, 6, 41, 5, 0), (37, 1, 2, 2, 0, 0), (38, 1, 3, 1, 0, 0), (39, 1, 18, 0, 0, 0), (40, 1, 12, 0, 1, 0)]) rfl) ?_
        refine xg_t (xg_iload (va := (0, ye)) rfl rfl) ?_
        refine xg_t (xg_bip) ?_
        by_cases hc20 : 30 < ye
        · refine xg_t (xg_icT (u := ye) (v := 30) rfl xnm0 xnm0 (xj_gtT hc20 (by omega))) ?_
          refine xg_t (xg_blk (b := [(47, 2, 4, 30, 0, 0), (49, 1, 12, 0, 1, 0)]) rfl) ?_
          refine xg_t (xg_bip) ?_
          exact xg_e ⟨30, w15, ⟨rfl, rfl⟩, by omega, hI16, hF17⟩
        · refine xg_t (xg_icF (u := ye) (v := 30) rfl xnm0 xnm0 (xj_gtF (by omega) (by omega))) ?_
          refine xg_t (xg_aload (va := (2, 0)) rfl rfl) ?_
          refine xg_t (xg_iload (va := (0, ye)) rfl rfl) ?_
          refine xg_cVi mX11_brokenShare (vs := [(0, ye)]) (rest := []) (cn1 := 0) (sl1 := 0) rfl (scBrokenShare (hI16) (by omega)) rfl (hF17.get (by decide) h0_2) rfl rfl rfl rfl rfl rfl (fun n25 w21 hq22 => ?_)
          obtain ⟨hn26, hI23, hF24⟩ := hq22
          refine xg_t (xg_iload (va := (0, pp)) rfl rfl) ?_
          by_cases hc27 : xbs pp < xbs n25
          · have hc27u := hc27
            unfold xbs at hc27u
            have hn28 : pp ≤ 1000 := by omega
            have hn29 : n25 ≤ 2147483647 := by omega
            refine xg_t (xg_icF (u := n25) (v := pp) rfl xnm0 xnm0 (xjs_leF hc27)) ?_
            refine xg_t (xg_iload (va := (0, ye)) rfl rfl) ?_
            refine xg_t (xg_const) ?_
            refine xg_k (xg_isub (u := ye) (v := 1) (z := (ye + (4294967296 - 1)) % 4294967296) xnm0 xnm0 rfl) (Nat.mod_lt _ (by decide)) (fun z30 hz31 => ?_)
            exact xg_e ⟨z30, w21, ⟨rfl, rfl⟩, by omega, hI23, (hF17.tr (hF24.up (by decide)))⟩
          · have hc27u := hc27
            unfold xbs at hc27u
            have hn32 : pp ≤ 1000 := by omega
            refine xg_t (xg_icT (u := n25) (v := pp) rfl xnm0 xnm0 (xjs_leT hc27)) ?_
            refine xg_t (xg_blk (b := [(41, 3, 9, 2, 1, 0), (44, 3, 8, 22, 0, 0)]) rfl) ?_
            refine xg_t (xg_iinc (u := ye) (z := ye + 1) (l1 := [(0, (2, 0)), (1, (0, pp))]) rfl rfl (by omega) rfl) ?_
            refine xg_t (xg_goto) ?_
            refine xg_t (xg_drop (l1 := [(0, (2, 0)), (1, (0, pp)), (2, (0, ye + 1))]) (List.forall_mem_cons.mpr ⟨List.mem_cons_of_mem _ (List.mem_cons_self), List.forall_mem_cons.mpr ⟨List.mem_cons_of_mem _ (List.mem_cons_of_mem _ (List.mem_cons_self)), List.forall_mem_cons.mpr ⟨List.mem_cons_self, fun _ h => absurd h List.not_mem_nil⟩⟩⟩)) ?_
            exact ih13 (ye + 1) w21 (by omega) (by omega) (hI23) ((hF17.tr (hF24.up (by decide))))
    exact key12 _ 0 w8 (Nat.lt_succ_self _) (by omega) (hI10) ((hF11.up (by decide)))
  · refine xg_t (xg_ifF (u := (if 0 ≤ pp ∧ pp ≤ 1000 then 1 else 0)) rfl xnm0 (xj_neF (xite0 hc1))) ?_
    refine xg_t (xg_const) ?_
    exact xg_e ⟨4294967295, w, ⟨rfl, rfl⟩, by omega, hI, xFr.rf⟩
theorem scTestHolds {kk : Nat} (hI : xInv w) (hkk : kk ≤ 4294967295) : xPi (d + 1) mX11_testHolds [(2, 0), (0, kk)] w bd fc rr (fun n w' => (n ≤ 1) ∧ xInv w' ∧ xFr [] w w') := by
  refine xPi.of ?_
  show xTo (d + 1) mX11_testHolds (0, [], [(0, (2, 0)), (1, (0, kk))], [], (w, bd, fc, 0, 0, rr)) (fun φ => ∃ n w', xEnd 4 [(0, n)] (w', bd, fc, 0, 0, rr) φ ∧ (n ≤ 1) ∧ xInv w' ∧ xFr [] w w')
  have h0_1 := (hI 0 (by decide) : cp0 (wget w 0))
  obtain ⟨f1_2, f1_4, f1_6, f1_8, f1_10, f1_12, h1_14, hb3, hb5, hb7, hb9, hb11, hb13⟩ := (hI 1 (by decide) : cp1 (wget w 1))
  obtain ⟨f3_15, f3_17, f3_19, f3_21, f3_23, h3_25, hb16, hb18, hb20, hb22, hb24⟩ := (hI 3 (by decide) : cp3 (wget w 3))
  obtain ⟨f24_26, h24_28, hb27⟩ := (hI 24 (by decide) : cp24 (wget w 24))
  obtain ⟨g25_29, h25_30, hb31⟩ := (hI 25 (by decide) : cpI 320 11 4294967295 (wget w 25))
  have h25_30 : xRow w 25 320 11 g25_29 := h25_30
  refine xg_t (xg_blk (b := [(0, 1, 0, 0, 0, 0), (1, 3, 1, 11, 0, 10), (4, 3, 1, 9, 13, 406), (7, 1, 2, 1, 0, 0), (8, 1, 3, 2, 0, 0), (9, 3, 13, 285, 40, 132), (12, 1, 15, 2, 0, 0), (13, 1, 2, 2, 0, 0), (14, 3, 7, 26, 2, 0), (17, 1, 2, 2, 0, 0), (18, 1, 0, 0, 0, 0), (19, 3, 1, 11, 9, 83), (22, 1, 31, 0, 0, 0), (23, 3, 6, 28, 2, 0)]) rfl) ?_
  refine xg_t (xg_aload (va := (2, 0)) rfl rfl) ?_
  refine xg_t (xg_getf (va := (2, 1)) h0_1 rfl) ?_
  refine xg_t (xg_getf (va := (2, 24)) h1_14 rfl) ?_
  refine xg_t (xg_iload (va := (0, kk)) rfl rfl) ?_
  refine xg_t (xg_const) ?_
  refine xg_k (xg_cVr mX5_get (vs := [(0, kk), (0, 2)]) (rest := []) (rs := [(0, if kk < f24_26 ∧ 2 < 5 then g25_29 (kk * 5 + 2) else 4294967295)]) (cn1 := 0) (sl1 := 0) rfl (rget_ok (lim := 64) (wd := 5) (sz := f24_26) h24_28 h25_30 (by decide) (by omega) (by decide) (by decide) (by omega) (by omega)) rfl h24_28 rfl rfl rfl rfl rfl rfl rfl) (xiteb (hb31)) (fun z32 hz33 => ?_)
  refine xg_t (xg_istore (l1 := [(0, (2, 0)), (1, (0, kk))]) rfl rfl rfl) ?_
  refine xg_t (xg_iload (va := (0, z32)) rfl rfl) ?_
  by_cases hc34 : z32 < 2147483648
  · refine xg_t (xg_ifF (u := z32) rfl xnm0 (xjz_ltF hc34)) ?_
    refine xg_t (xg_iload (va := (0, z32)) rfl rfl) ?_
    refine xg_t (xg_aload (va := (2, 0)) rfl rfl) ?_
    refine xg_t (xg_getf (va := (2, 80)) h0_1 rfl) ?_
    obtain ⟨g80_35, h80_36, hb37⟩ := (hI 80 (by decide) : cpI 11 48 4294967295 (wget w 80))
    have h80_36 : xRow w 80 11 48 g80_35 := h80_36
    obtain ⟨us38, ha39, ha40⟩ := id h80_36
    refine xg_t (xg_alen ha39) ?_
    by_cases hc41 : z32 < 11
    · refine xg_t (xg_icT (u := z32) (v := 11) rfl xnm0 xnm0 (xj_ltT hc41 (by omega))) ?_
      refine xg_t (xg_blk (b := [(28, 1, 0, 0, 0, 0), (29, 3, 1, 11, 0, 10), (32, 3, 1, 9, 13, 406), (35, 1, 2, 1, 0, 0), (36, 1, 3, 4, 0, 0), (37, 3, 13, 285, 40, 132), (40, 1, 15, 3, 0, 0), (41, 1, 0, 0, 0, 0), (42, 3, 1, 11, 0, 10), (45, 3, 1, 9, 13, 406), (48, 1, 2, 1, 0, 0), (49, 1, 3, 3, 0, 0), (50, 3, 13, 285, 40, 132), (53, 27, 34, 120, 0, 8)]) rfl) ?_
      refine xg_t (xg_aload (va := (2, 0)) rfl rfl) ?_
      refine xg_t (xg_getf (va := (2, 1)) h0_1 rfl) ?_
      refine xg_t (xg_getf (va := (2, 24)) h1_14 rfl) ?_
      refine xg_t (xg_iload (va := (0, kk)) rfl rfl) ?_
      refine xg_t (xg_const) ?_
      refine xg_k (xg_cVr mX5_get (vs := [(0, kk), (0, 4)]) (rest := []) (rs := [(0, if kk < f24_26 ∧ 4 < 5 then g25_29 (kk * 5 + 4) else 4294967295)]) (cn1 := 0) (sl1 := 0) rfl (rget_ok (lim := 64) (wd := 5) (sz := f24_26) h24_28 h25_30 (by decide) (by omega) (by decide) (by decide) (by omega) (by omega)) rfl h24_28 rfl rfl rfl rfl rfl rfl rfl) (xiteb (hb31)) (fun z42 hz43 => ?_)
      refine xg_t (xg_istore (l1 := [(2, (0, z32)), (0, (2, 0)), (1, (0, kk))]) rfl rfl rfl) ?_
      refine xg_t (xg_aload (va := (2, 0)) rfl rfl) ?_
      refine xg_t (xg_getf (va := (2, 1)) h0_1 rfl) ?_
      refine xg_t (xg_getf (va := (2, 24)) h1_14 rfl) ?_
      refine xg_t (xg_iload (va := (0, kk)) rfl rfl) ?_
      refine xg_t (xg_const) ?_
      refine xg_k (xg_cVr mX5_get (vs := [(0, kk), (0, 3)]) (rest := []) (rs := [(0, if kk < f24_26 ∧ 3 < 5 then g25_29 (kk * 5 + 3) else 4294967295)]) (cn1 := 0) (sl1 := 0) rfl (rget_ok (lim := 64) (wd := 5) (sz := f24_26) h24_28 h25_30 (by decide) (by omega) (by decide) (by decide) (by omega) (by omega)) rfl h24_28 rfl rfl rfl rfl rfl rfl rfl) (xiteb (hb31)) (fun z44 hz45 => ?_)
      by_cases hc46 : z44 = 60
      · refine xg_t (xg_swt (ks := [(60, 80), (62, 100)]) (u := z44) (z := 80) rfl rfl rfl xnm0 (xsw_y hc46)) ?_
        refine xg_t (xg_blk (b := [(80, 1, 0, 0, 0, 0), (81, 3, 1, 11, 9, 83), (84, 1, 2, 2, 0, 0), (85, 1, 10, 0, 0, 0), (86, 1, 2, 3, 0, 0), (87, 3, 6, 94, 3, 0), (90, 1, 3, 1, 0, 0), (91, 3, 8, 95, 0, 0)]) rfl) ?_
        refine xg_t (xg_aload (va := (2, 0)) rfl rfl) ?_
        refine xg_t (xg_getf (va := (2, 80)) h0_1 rfl) ?_
        refine xg_t (xg_iload (va := (0, z32)) rfl rfl) ?_
        refine xg_ialdB (n := z32) (B := 4294967295) h80_36 (hb37) xnm0 (by omega) (fun u47 hu48 he49 => ?_)
        refine xg_t (xg_iload (va := (0, z42)) rfl rfl) ?_
        by_cases hc50 : xbs u47 < xbs z42
        · have hc50u := hc50
          unfold xbs at hc50u
          refine xg_t (xg_icF (u := u47) (v := z42) rfl xnm0 xnm0 (xjs_geF hc50)) ?_
          refine xg_t (xg_const) ?_
          refine xg_t (xg_goto) ?_
          refine xg_t (xg_blk (b := [(95, 2, 15, 4, 0, 0), (97, 3, 8, 137, 0, 0)]) rfl) ?_
          refine xg_t (xg_istore (l1 := [(3, (0, z42)), (2, (0, z32)), (0, (2, 0)), (1, (0, kk))]) rfl rfl rfl) ?_
          refine xg_t (xg_goto) ?_
          refine xg_t (xg_blk (b := [(137, 2, 2, 4, 0, 0), (139, 1, 0, 0, 0, 0), (140, 3, 1, 11, 0, 10), (143, 3, 1, 9, 13, 406), (146, 1, 2, 1, 0, 0), (147, 1, 3, 1, 0, 0), (148, 3, 13, 285, 40, 132), (151, 1, 3, 1, 0, 0), (152, 3, 6, 159, 1, 0), (155, 1, 3, 1, 0, 0), (156, 3, 8, 160, 0, 0)]) rfl) ?_
          refine xg_t (xg_iload (va := (0, 1)) rfl rfl) ?_
          refine xg_t (xg_aload (va := (2, 0)) rfl rfl) ?_
          refine xg_t (xg_getf (va := (2, 1)) h0_1 rfl) ?_
          refine xg_t (xg_getf (va := (2, 24)) h1_14 rfl) ?_
          refine xg_t (xg_iload (va := (0, kk)) rfl rfl) ?_
          refine xg_t (xg_const) ?_
          refine xg_k (xg_cVr mX5_get (vs := [(0, kk), (0, 1)]) (rest := [(0, 1)]) (rs := [(0, if kk < f24_26 ∧ 1 < 5 then g25_29 (kk * 5 + 1) else 4294967295), (0, 1)]) (cn1 := 0) (sl1 := 0) rfl (rget_ok (lim := 64) (wd := 5) (sz := f24_26) h24_28 h25_30 (by decide) (by omega) (by decide) (by decide) (by omega) (by omega)) rfl h24_28 rfl rfl rfl rfl rfl rfl rfl) (xiteb (hb31)) (fun z51 hz52 => ?_)
          refine xg_t (xg_const) ?_
          by_cases hc53 : z51 = 1
          · refine xg_t (xg_icF (u := z51) (v := 1) rfl xnm0 xnm0 (xj_neF hc53)) ?_
            refine xg_t (xg_const) ?_
            refine xg_t (xg_goto) ?_
            refine xg_t (xg_blk (b := [(160, 3, 6, 167, 0, 0), (163, 1, 3, 1, 0, 0), (164, 3, 8, 168, 0, 0)]) rfl) ?_
            refine xg_t (xg_icT (u := 1) (v := 1) rfl xnm0 xnm0 (by decide)) ?_
            refine xg_t (xg_blk (b := [(167, 1, 3, 0, 0, 0)]) rfl) ?_
            refine xg_t (xg_const) ?_
            refine xg_t (xg_blk (b := [(168, 1, 12, 0, 1, 0)]) rfl) ?_
            exact xg_e ⟨0, w, ⟨rfl, rfl⟩, by omega, hI, xFr.rf⟩
          · refine xg_t (xg_icT (u := z51) (v := 1) rfl xnm0 xnm0 (xj_neT hc53)) ?_
            refine xg_t (xg_blk (b := [(159, 1, 3, 0, 0, 0)]) rfl) ?_
            refine xg_t (xg_const) ?_
            refine xg_t (xg_blk (b := [(160, 3, 6, 167, 0, 0), (163, 1, 3, 1, 0, 0), (164, 3, 8, 168, 0, 0)]) rfl) ?_
            refine xg_t (xg_icF (u := 1) (v := 0) rfl xnm0 xnm0 (by decide)) ?_
            refine xg_t (xg_const) ?_
            refine xg_t (xg_goto) ?_
            refine xg_t (xg_blk (b := [(168, 1, 12, 0, 1, 0)]) rfl) ?_
            exact xg_e ⟨1, w, ⟨rfl, rfl⟩, by omega, hI, xFr.rf⟩
        · have hc50u := hc50
          unfold xbs at hc50u
          refine xg_t (xg_icT (u := u47) (v := z42) rfl xnm0 xnm0 (xjs_geT hc50)) ?_
          refine xg_t (xg_blk (b := [(94, 1, 3, 0, 0, 0)]) rfl) ?_
          refine xg_t (xg_const) ?_
          refine xg_t (xg_blk (b := [(95, 2, 15, 4, 0, 0), (97, 3, 8, 137, 0, 0)]) rfl) ?_
          refine xg_t (xg_istore (l1 := [(3, (0, z42)), (2, (0, z32)), (0, (2, 0)), (1, (0, kk))]) rfl rfl rfl) ?_
          refine xg_t (xg_goto) ?_
          refine xg_t (xg_blk (b := [(137, 2, 2, 4, 0, 0), (139, 1, 0, 0, 0, 0), (140, 3, 1, 11, 0, 10), (143, 3, 1, 9, 13, 406), (146, 1, 2, 1, 0, 0), (147, 1, 3, 1, 0, 0), (148, 3, 13, 285, 40, 132), (151, 1, 3, 1, 0, 0), (152, 3, 6, 159, 1, 0), (155, 1, 3, 1, 0, 0), (156, 3, 8, 160, 0, 0)]) rfl) ?_
          refine xg_t (xg_iload (va := (0, 0)) rfl rfl) ?_
          refine xg_t (xg_aload (va := (2, 0)) rfl rfl) ?_
          refine xg_t (xg_getf (va := (2, 1)) h0_1 rfl) ?_
          refine xg_t (xg_getf (va := (2, 24)) h1_14 rfl) ?_
          refine xg_t (xg_iload (va := (0, kk)) rfl rfl) ?_
          refine xg_t (xg_const) ?_
          refine xg_k (xg_cVr mX5_get (vs := [(0, kk), (0, 1)]) (rest := [(0, 0)]) (rs := [(0, if kk < f24_26 ∧ 1 < 5 then g25_29 (kk * 5 + 1) else 4294967295), (0, 0)]) (cn1 := 0) (sl1 := 0) rfl (rget_ok (lim := 64) (wd := 5) (sz := f24_26) h24_28 h25_30 (by decide) (by omega) (by decide) (by decide) (by omega) (by omega)) rfl h24_28 rfl rfl rfl rfl rfl rfl rfl) (xiteb (hb31)) (fun z54 hz55 => ?_)
          refine xg_t (xg_const) ?_
          by_cases hc56 : z54 = 1
          · refine xg_t (xg_icF (u := z54) (v := 1) rfl xnm0 xnm0 (xj_neF hc56)) ?_
            refine xg_t (xg_const) ?_
            refine xg_t (xg_goto) ?_
            refine xg_t (xg_blk (b := [(160, 3, 6, 167, 0, 0), (163, 1, 3, 1, 0, 0), (164, 3, 8, 168, 0, 0)]) rfl) ?_
            refine xg_t (xg_icF (u := 0) (v := 1) rfl xnm0 xnm0 (by decide)) ?_
            refine xg_t (xg_const) ?_
            refine xg_t (xg_goto) ?_
            refine xg_t (xg_blk (b := [(168, 1, 12, 0, 1, 0)]) rfl) ?_
            exact xg_e ⟨1, w, ⟨rfl, rfl⟩, by omega, hI, xFr.rf⟩
          · refine xg_t (xg_icT (u := z54) (v := 1) rfl xnm0 xnm0 (xj_neT hc56)) ?_
            refine xg_t (xg_blk (b := [(159, 1, 3, 0, 0, 0)]) rfl) ?_
            refine xg_t (xg_const) ?_
            refine xg_t (xg_blk (b := [(160, 3, 6, 167, 0, 0), (163, 1, 3, 1, 0, 0), (164, 3, 8, 168, 0, 0)]) rfl) ?_
            refine xg_t (xg_icT (u := 0) (v := 0) rfl xnm0 xnm0 (by decide)) ?_
            refine xg_t (xg_blk (b := [(167, 1, 3, 0, 0, 0)]) rfl) ?_
            refine xg_t (xg_const) ?_
            refine xg_t (xg_blk (b := [(168, 1, 12, 0, 1, 0)]) rfl) ?_
            exact xg_e ⟨0, w, ⟨rfl, rfl⟩, by omega, hI, xFr.rf⟩
      · by_cases hc57 : z44 = 62
        · refine xg_t (xg_swt (ks := [(60, 80), (62, 100)]) (u := z44) (z := 100) rfl rfl rfl xnm0 (xsw_n hc46 (xsw_y hc57))) ?_
          refine xg_t (xg_blk (b := [(100, 1, 0, 0, 0, 0), (101, 3, 1, 11, 9, 83), (104, 1, 2, 2, 0, 0), (105, 1, 10, 0, 0, 0), (106, 1, 2, 3, 0, 0), (107, 3, 6, 114, 5, 0), (110, 1, 3, 1, 0, 0), (111, 3, 8, 115, 0, 0)]) rfl) ?_
          refine xg_t (xg_aload (va := (2, 0)) rfl rfl) ?_
          refine xg_t (xg_getf (va := (2, 80)) h0_1 rfl) ?_
          refine xg_t (xg_iload (va := (0, z32)) rfl rfl) ?_
          refine xg_ialdB (n := z32) (B := 4294967295) h80_36 (hb37) xnm0 (by omega) (fun u58 hu59 he60 => ?_)
          refine xg_t (xg_iload (va := (0, z42)) rfl rfl) ?_
          by_cases hc61 : xbs z42 < xbs u58
          · have hc61u := hc61
            unfold xbs at hc61u
            refine xg_t (xg_icF (u := u58) (v := z42) rfl xnm0 xnm0 (xjs_leF hc61)) ?_
            refine xg_t (xg_const) ?_
            refine xg_t (xg_goto) ?_
            refine xg_t (xg_blk (b := [(115, 2, 15, 4, 0, 0), (117, 3, 8, 137, 0, 0)]) rfl) ?_
            refine xg_t (xg_istore (l1 := [(3, (0, z42)), (2, (0, z32)), (0, (2, 0)), (1, (0, kk))]) rfl rfl rfl) ?_
            refine xg_t (xg_goto) ?_
            refine xg_t (xg_blk (b := [(137, 2, 2, 4, 0, 0), (139, 1, 0, 0, 0, 0), (140, 3, 1, 11, 0, 10), (143, 3, 1, 9, 13, 406), (146, 1, 2, 1, 0, 0), (147, 1, 3, 1, 0, 0), (148, 3, 13, 285, 40, 132), (151, 1, 3, 1, 0, 0), (152, 3, 6, 159, 1, 0), (155, 1, 3, 1, 0, 0), (156, 3, 8, 160, 0, 0)]) rfl) ?_
            refine xg_t (xg_iload (va := (0, 1)) rfl rfl) ?_
            refine xg_t (xg_aload (va := (2, 0)) rfl rfl) ?_
            refine xg_t (xg_getf (va := (2, 1)) h0_1 rfl) ?_
            refine xg_t (xg_getf (va := (2, 24)) h1_14 rfl) ?_
            refine xg_t (xg_iload (va := (0, kk)) rfl rfl) ?_
            refine xg_t (xg_const) ?_
            refine xg_k (xg_cVr mX5_get (vs := [(0, kk), (0, 1)]) (rest := [(0, 1)]) (rs := [(0, if kk < f24_26 ∧ 1 < 5 then g25_29 (kk * 5 + 1) else 4294967295), (0, 1)]) (cn1 := 0) (sl1 := 0) rfl (rget_ok (lim := 64) (wd := 5) (sz := f24_26) h24_28 h25_30 (by decide) (by omega) (by decide) (by decide) (by omega) (by omega)) rfl h24_28 rfl rfl rfl rfl rfl rfl rfl) (xiteb (hb31)) (fun z62 hz63 => ?_)
            refine xg_t (xg_const) ?_
            by_cases hc64 : z62 = 1
            · refine xg_t (xg_icF (u := z62) (v := 1) rfl xnm0 xnm0 (xj_neF hc64)) ?_
              refine xg_t (xg_const) ?_
              refine xg_t (xg_goto) ?_
              refine xg_t (xg_blk (b := [(160, 3, 6, 167, 0, 0), (163, 1, 3, 1, 0, 0), (164, 3, 8, 168, 0, 0)]) rfl) ?_
              refine xg_t (xg_icT (u := 1) (v := 1) rfl xnm0 xnm0 (by decide)) ?_
              refine xg_t (xg_blk (b := [(167, 1, 3, 0, 0, 0)]) rfl) ?_
              refine xg_t (xg_const) ?_
              refine xg_t (xg_blk (b := [(168, 1, 12, 0, 1, 0)]) rfl) ?_
              exact xg_e ⟨0, w, ⟨rfl, rfl⟩, by omega, hI, xFr.rf⟩
            · refine xg_t (xg_icT (u := z62) (v := 1) rfl xnm0 xnm0 (xj_neT hc64)) ?_
              refine xg_t (xg_blk (b := [(159, 1, 3, 0, 0, 0)]) rfl) ?_
              refine xg_t (xg_const) ?_
              refine xg_t (xg_blk (b := [(160, 3, 6, 167, 0, 0), (163, 1, 3, 1, 0, 0), (164, 3, 8, 168, 0, 0)]) rfl) ?_
              refine xg_t (xg_icF (u := 1) (v := 0) rfl xnm0 xnm0 (by decide)) ?_
              refine xg_t (xg_const) ?_
              refine xg_t (xg_goto) ?_
              refine xg_t (xg_blk (b := [(168, 1, 12, 0, 1, 0)]) rfl) ?_
              exact xg_e ⟨1, w, ⟨rfl, rfl⟩, by omega, hI, xFr.rf⟩
          · have hc61u := hc61
            unfold xbs at hc61u
            refine xg_t (xg_icT (u := u58) (v := z42) rfl xnm0 xnm0 (xjs_leT hc61)) ?_
            refine xg_t (xg_blk (b := [(114, 1, 3, 0, 0, 0)]) rfl) ?_
            refine xg_t (xg_const) ?_
            refine xg_t (xg_blk (b := [(115, 2, 15, 4, 0, 0), (117, 3, 8, 137, 0, 0)]) rfl) ?_
            refine xg_t (xg_istore (l1 := [(3, (0, z42)), (2, (0, z32)), (0, (2, 0)), (1, (0, kk))]) rfl rfl rfl) ?_
            refine xg_t (xg_goto) ?_
            refine xg_t (xg_blk (b := [(137, 2, 2, 4, 0, 0), (139, 1, 0, 0, 0, 0), (140, 3, 1, 11, 0, 10), (143, 3, 1, 9, 13, 406), (146, 1, 2, 1, 0, 0), (147, 1, 3, 1, 0, 0), (148, 3, 13, 285, 40, 132), (151, 1, 3, 1, 0, 0), (152, 3, 6, 159, 1, 0), (155, 1, 3, 1, 0, 0), (156, 3, 8, 160, 0, 0)]) rfl) ?_
            refine xg_t (xg_iload (va := (0, 0)) rfl rfl) ?_
            refine xg_t (xg_aload (va := (2, 0)) rfl rfl) ?_
            refine xg_t (xg_getf (va := (2, 1)) h0_1 rfl) ?_
            refine xg_t (xg_getf (va := (2, 24)) h1_14 rfl) ?_
            refine xg_t (xg_iload (va := (0, kk)) rfl rfl) ?_
            refine xg_t (xg_const) ?_
            refine xg_k (xg_cVr mX5_get (vs := [(0, kk), (0, 1)]) (rest := [(0, 0)]) (rs := [(0, if kk < f24_26 ∧ 1 < 5 then g25_29 (kk * 5 + 1) else 4294967295), (0, 0)]) (cn1 := 0) (sl1 := 0) rfl (rget_ok (lim := 64) (wd := 5) (sz := f24_26) h24_28 h25_30 (by decide) (by omega) (by decide) (by decide) (by omega) (by omega)) rfl h24_28 rfl rfl rfl rfl rfl rfl rfl) (xiteb (hb31)) (fun z65 hz66 => ?_)
            refine xg_t (xg_const) ?_
            by_cases hc67 : z65 = 1
            · refine xg_t (xg_icF (u := z65) (v := 1) rfl xnm0 xnm0 (xj_neF hc67)) ?_
              refine xg_t (xg_const) ?_
              refine xg_t (xg_goto) ?_
              refine xg_t (xg_blk (b := [(160, 3, 6, 167, 0, 0), (163, 1, 3, 1, 0, 0), (164, 3, 8, 168, 0, 0)]) rfl) ?_
              refine xg_t (xg_icF (u := 0) (v := 1) rfl xnm0 xnm0 (by decide)) ?_
              refine xg_t (xg_const) ?_
              refine xg_t (xg_goto) ?_
              refine xg_t (xg_blk (b := [(168, 1, 12, 0, 1, 0)]) rfl) ?_
              exact xg_e ⟨1, w, ⟨rfl, rfl⟩, by omega, hI, xFr.rf⟩
            · refine xg_t (xg_icT (u := z65) (v := 1) rfl xnm0 xnm0 (xj_neT hc67)) ?_
              refine xg_t (xg_blk (b := [(159, 1, 3, 0, 0, 0)]) rfl) ?_
              refine xg_t (xg_const) ?_
              refine xg_t (xg_blk (b := [(160, 3, 6, 167, 0, 0), (163, 1, 3, 1, 0, 0), (164, 3, 8, 168, 0, 0)]) rfl) ?_
              refine xg_t (xg_icT (u := 0) (v := 0) rfl xnm0 xnm0 (by decide)) ?_
              refine xg_t (xg_blk (b := [(167, 1, 3, 0, 0, 0)]) rfl) ?_
              refine xg_t (xg_const) ?_
              refine xg_t (xg_blk (b := [(168, 1, 12, 0, 1, 0)]) rfl) ?_
              exact xg_e ⟨0, w, ⟨rfl, rfl⟩, by omega, hI, xFr.rf⟩
        · refine xg_t (xg_swt (ks := [(60, 80), (62, 100)]) (u := z44) (z := 120) rfl rfl rfl xnm0 (xsw_n hc46 (xsw_n hc57 (xsw_d)))) ?_
          refine xg_t (xg_blk (b := [(120, 1, 0, 0, 0, 0), (121, 3, 1, 11, 9, 83), (124, 1, 2, 2, 0, 0), (125, 1, 10, 0, 0, 0), (126, 1, 2, 3, 0, 0), (127, 3, 6, 134, 1, 0), (130, 1, 3, 1, 0, 0), (131, 3, 8, 135, 0, 0)]) rfl) ?_
          refine xg_t (xg_aload (va := (2, 0)) rfl rfl) ?_
          refine xg_t (xg_getf (va := (2, 80)) h0_1 rfl) ?_
          refine xg_t (xg_iload (va := (0, z32)) rfl rfl) ?_
          refine xg_ialdB (n := z32) (B := 4294967295) h80_36 (hb37) xnm0 (by omega) (fun u68 hu69 he70 => ?_)
          refine xg_t (xg_iload (va := (0, z42)) rfl rfl) ?_
          by_cases hc71 : u68 = z42
          · refine xg_t (xg_icF (u := u68) (v := z42) rfl xnm0 xnm0 (xj_neF hc71)) ?_
            refine xg_t (xg_const) ?_
            refine xg_t (xg_goto) ?_
            refine xg_t (xg_blk (b := [(135, 2, 15, 4, 0, 0)]) rfl) ?_
            refine xg_t (xg_istore (l1 := [(3, (0, z42)), (2, (0, z32)), (0, (2, 0)), (1, (0, kk))]) rfl rfl rfl) ?_
            refine xg_t (xg_blk (b := [(137, 2, 2, 4, 0, 0), (139, 1, 0, 0, 0, 0), (140, 3, 1, 11, 0, 10), (143, 3, 1, 9, 13, 406), (146, 1, 2, 1, 0, 0), (147, 1, 3, 1, 0, 0), (148, 3, 13, 285, 40, 132), (151, 1, 3, 1, 0, 0), (152, 3, 6, 159, 1, 0), (155, 1, 3, 1, 0, 0), (156, 3, 8, 160, 0, 0)]) rfl) ?_
            refine xg_t (xg_iload (va := (0, 1)) rfl rfl) ?_
            refine xg_t (xg_aload (va := (2, 0)) rfl rfl) ?_
            refine xg_t (xg_getf (va := (2, 1)) h0_1 rfl) ?_
            refine xg_t (xg_getf (va := (2, 24)) h1_14 rfl) ?_
            refine xg_t (xg_iload (va := (0, kk)) rfl rfl) ?_
            refine xg_t (xg_const) ?_
            refine xg_k (xg_cVr mX5_get (vs := [(0, kk), (0, 1)]) (rest := [(0, 1)]) (rs := [(0, if kk < f24_26 ∧ 1 < 5 then g25_29 (kk * 5 + 1) else 4294967295), (0, 1)]) (cn1 := 0) (sl1 := 0) rfl (rget_ok (lim := 64) (wd := 5) (sz := f24_26) h24_28 h25_30 (by decide) (by omega) (by decide) (by decide) (by omega) (by omega)) rfl h24_28 rfl rfl rfl rfl rfl rfl rfl) (xiteb (hb31)) (fun z72 hz73 => ?_)
            refine xg_t (xg_const) ?_
            by_cases hc74 : z72 = 1
            · refine xg_t (xg_icF (u := z72) (v := 1) rfl xnm0 xnm0 (xj_neF hc74)) ?_
              refine xg_t (xg_const) ?_
              refine xg_t (xg_goto) ?_
              refine xg_t (xg_blk (b := [(160, 3, 6, 167, 0, 0), (163, 1, 3, 1, 0, 0), (164, 3, 8, 168, 0, 0)]) rfl) ?_
              refine xg_t (xg_icT (u := 1) (v := 1) rfl xnm0 xnm0 (by decide)) ?_
              refine xg_t (xg_blk (b := [(167, 1, 3, 0, 0, 0)]) rfl) ?_
              refine xg_t (xg_const) ?_
              refine xg_t (xg_blk (b := [(168, 1, 12, 0, 1, 0)]) rfl) ?_
              exact xg_e ⟨0, w, ⟨rfl, rfl⟩, by omega, hI, xFr.rf⟩
            · refine xg_t (xg_icT (u := z72) (v := 1) rfl xnm0 xnm0 (xj_neT hc74)) ?_
              refine xg_t (xg_blk (b := [(159, 1, 3, 0, 0, 0)]) rfl) ?_
              refine xg_t (xg_const) ?_
              refine xg_t (xg_blk (b := [(160, 3, 6, 167, 0, 0), (163, 1, 3, 1, 0, 0), (164, 3, 8, 168, 0, 0)]) rfl) ?_
              refine xg_t (xg_icF (u := 1) (v := 0) rfl xnm0 xnm0 (by decide)) ?_
              refine xg_t (xg_const) ?_
              refine xg_t (xg_goto) ?_
              refine xg_t (xg_blk (b := [(168, 1, 12, 0, 1, 0)]) rfl) ?_
              exact xg_e ⟨1, w, ⟨rfl, rfl⟩, by omega, hI, xFr.rf⟩
          · refine xg_t (xg_icT (u := u68) (v := z42) rfl xnm0 xnm0 (xj_neT hc71)) ?_
            refine xg_t (xg_blk (b := [(134, 1, 3, 0, 0, 0)]) rfl) ?_
            refine xg_t (xg_const) ?_
            refine xg_t (xg_blk (b := [(135, 2, 15, 4, 0, 0)]) rfl) ?_
            refine xg_t (xg_istore (l1 := [(3, (0, z42)), (2, (0, z32)), (0, (2, 0)), (1, (0, kk))]) rfl rfl rfl) ?_
            refine xg_t (xg_blk (b := [(137, 2, 2, 4, 0, 0), (139, 1, 0, 0, 0, 0), (140, 3, 1, 11, 0, 10), (143, 3, 1, 9, 13, 406), (146, 1, 2, 1, 0, 0), (147, 1, 3, 1, 0, 0), (148, 3, 13, 285, 40, 132), (151, 1, 3, 1, 0, 0), (152, 3, 6, 159, 1, 0), (155, 1, 3, 1, 0, 0), (156, 3, 8, 160, 0, 0)]) rfl) ?_
            refine xg_t (xg_iload (va := (0, 0)) rfl rfl) ?_
            refine xg_t (xg_aload (va := (2, 0)) rfl rfl) ?_
            refine xg_t (xg_getf (va := (2, 1)) h0_1 rfl) ?_
            refine xg_t (xg_getf (va := (2, 24)) h1_14 rfl) ?_
            refine xg_t (xg_iload (va := (0, kk)) rfl rfl) ?_
            refine xg_t (xg_const) ?_
            refine xg_k (xg_cVr mX5_get (vs := [(0, kk), (0, 1)]) (rest := [(0, 0)]) (rs := [(0, if kk < f24_26 ∧ 1 < 5 then g25_29 (kk * 5 + 1) else 4294967295), (0, 0)]) (cn1 := 0) (sl1 := 0) rfl (rget_ok (lim := 64) (wd := 5) (sz := f24_26) h24_28 h25_30 (by decide) (by omega) (by decide) (by decide) (by omega) (by omega)) rfl h24_28 rfl rfl rfl rfl rfl rfl rfl) (xiteb (hb31)) (fun z75 hz76 => ?_)
            refine xg_t (xg_const) ?_
            by_cases hc77 : z75 = 1
            · refine xg_t (xg_icF (u := z75) (v := 1) rfl xnm0 xnm0 (xj_neF hc77)) ?_
              refine xg_t (xg_const) ?_
              refine xg_t (xg_goto) ?_
              refine xg_t (xg_blk (b := [(160, 3, 6, 167, 0, 0), (163, 1, 3, 1, 0, 0), (164, 3, 8, 168, 0, 0)]) rfl) ?_
              refine xg_t (xg_icF (u := 0) (v := 1) rfl xnm0 xnm0 (by decide)) ?_
              refine xg_t (xg_const) ?_
              refine xg_t (xg_goto) ?_
              refine xg_t (xg_blk (b := [(168, 1, 12, 0, 1, 0)]) rfl) ?_
              exact xg_e ⟨1, w, ⟨rfl, rfl⟩, by omega, hI, xFr.rf⟩
            · refine xg_t (xg_icT (u := z75) (v := 1) rfl xnm0 xnm0 (xj_neT hc77)) ?_
              refine xg_t (xg_blk (b := [(159, 1, 3, 0, 0, 0)]) rfl) ?_
              refine xg_t (xg_const) ?_
              refine xg_t (xg_blk (b := [(160, 3, 6, 167, 0, 0), (163, 1, 3, 1, 0, 0), (164, 3, 8, 168, 0, 0)]) rfl) ?_
              refine xg_t (xg_icT (u := 0) (v := 0) rfl xnm0 xnm0 (by decide)) ?_
              refine xg_t (xg_blk (b := [(167, 1, 3, 0, 0, 0)]) rfl) ?_
              refine xg_t (xg_const) ?_
              refine xg_t (xg_blk (b := [(168, 1, 12, 0, 1, 0)]) rfl) ?_
              exact xg_e ⟨0, w, ⟨rfl, rfl⟩, by omega, hI, xFr.rf⟩
    · refine xg_t (xg_icF (u := z32) (v := 11) rfl xnm0 xnm0 (xj_ltF (by omega) (by omega))) ?_
      refine xg_t (xg_blk (b := [(26, 1, 3, 0, 0, 0), (27, 1, 12, 0, 1, 0)]) rfl) ?_
      refine xg_t (xg_const) ?_
      exact xg_e ⟨0, w, ⟨rfl, rfl⟩, by omega, hI, xFr.rf⟩
  · refine xg_t (xg_ifT (u := z32) rfl xnm0 (xjz_ltT (by omega) (by omega))) ?_
    refine xg_t (xg_blk (b := [(26, 1, 3, 0, 0, 0), (27, 1, 12, 0, 1, 0)]) rfl) ?_
    refine xg_t (xg_const) ?_
    exact xg_e ⟨0, w, ⟨rfl, rfl⟩, by omega, hI, xFr.rf⟩
theorem scJudge (hI : xInv w)  : xPq (d + 2) mX11_judgeLines [(2, 0)] w bd fc rr [] (fun w' => xInv w' ∧ xFr [81] w w') := by
  refine xPq.of ?_
  show xTo (d + 2) mX11_judgeLines (0, [], [(0, (2, 0))], [], (w, bd, fc, 0, 0, rr)) (fun φ => ∃ w', xEnd 0 [] (w', bd, fc, 0, 0, rr) φ ∧ xInv w' ∧ xFr [81] w w')
  have h0_1 := (hI 0 (by decide) : cp0 (wget w 0))
  obtain ⟨f1_2, f1_4, f1_6, f1_8, f1_10, f1_12, h1_14, hb3, hb5, hb7, hb9, hb11, hb13⟩ := (hI 1 (by decide) : cp1 (wget w 1))
  obtain ⟨f3_15, f3_17, f3_19, f3_21, f3_23, h3_25, hb16, hb18, hb20, hb22, hb24⟩ := (hI 3 (by decide) : cp3 (wget w 3))
  obtain ⟨f24_26, h24_28, hb27⟩ := (hI 24 (by decide) : cp24 (wget w 24))
  obtain ⟨g25_29, h25_30, hb31⟩ := (hI 25 (by decide) : cpI 320 11 4294967295 (wget w 25))
  have h25_30 : xRow w 25 320 11 g25_29 := h25_30
  refine xg_t (xg_blk (b := [(0, 1, 3, 0, 0, 0), (1, 1, 15, 1, 0, 0)]) rfl) ?_
  refine xg_t (xg_const) ?_
  refine xg_t (xg_istore (l1 := [(0, (2, 0))]) rfl rfl rfl) ?_
  refine xg_t (xg_drop (l1 := [(0, (2, 0)), (1, (0, 0))]) (List.forall_mem_cons.mpr ⟨List.mem_cons_of_mem _ (List.mem_cons_self), List.forall_mem_cons.mpr ⟨List.mem_cons_self, fun _ h => absurd h List.not_mem_nil⟩⟩)) ?_
  have key32 : ∀ (m34 : Nat) (li : Nat) (w35 : List (List xE)), 16 - li < m34 → li ≤ 16 → xInv w35 → xFr [81] w w35 → xTo (d + 2) mX11_judgeLines (2, [], [(0, (2, 0)), (1, (0, li))], [], (w35, bd, fc, 0, 0, rr)) (fun φ => ∃ w', xEnd 0 [] (w', bd, fc, 0, 0, rr) φ ∧ xInv w' ∧ xFr [81] w w') := by
    intro m34
    induction m34 with
    | zero => intro li w35 hz; exact absurd hz (Nat.not_lt_zero _)
    | succ m34 ih33 =>
      intro li w35 hm39 hn38 hI36 hF37
      refine xg_t (xg_blk (b := [(2, 1, 2, 1, 0, 0), (3, 1, 0, 0, 0, 0), (4, 3, 1, 11, 10, 87), (7, 1, 31, 0, 0, 0), (8, 3, 6, 24, 3, 0), (11, 1, 0, 0, 0, 0), (12, 3, 1, 11, 10, 87), (15, 1, 2, 1, 0, 0), (16, 1, 3, 1, 0, 0), (17, 1, 28, 0, 0, 0), (18, 3, 9, 1, 1, 0), (21, 3, 8, 2, 0, 0)]) rfl) ?_
      refine xg_t (xg_iload (va := (0, li)) rfl rfl) ?_
      refine xg_t (xg_aload (va := (2, 0)) rfl rfl) ?_
      refine xg_t (xg_getf (va := (2, 81)) (hF37.get (by decide) h0_1) rfl) ?_
      obtain ⟨g81_40, h81_41, hb42⟩ := (hI36 81 (by decide) : cpK 2 0 16 49 1 (wget w35 81))
      have h81_41 : xRk 2 0 w35 81 16 49 g81_40 := h81_41
      obtain ⟨us43, ha44, ha45⟩ := id h81_41
      refine xg_t (xg_alen ha44) ?_
      by_cases hc46 : li < 16
      · refine xg_t (xg_icF (u := li) (v := 16) rfl xnm0 xnm0 (xj_geF hc46 (by omega))) ?_
        refine xg_t (xg_aload (va := (2, 0)) rfl rfl) ?_
        refine xg_t (xg_getf (va := (2, 81)) (hF37.get (by decide) h0_1) rfl) ?_
        refine xg_t (xg_iload (va := (0, li)) rfl rfl) ?_
        refine xg_t (xg_const) ?_
        refine xg_bastZ (n := li) (u := 1) h81_41 xnm0 xnm0 rfl (by omega) (by omega) (fun w47 hr48 hb49 => ?_)
        refine xg_t (xg_iinc (u := li) (z := li + 1) (l1 := [(0, (2, 0))]) rfl rfl (by omega) rfl) ?_
        refine xg_t (xg_goto) ?_
        refine xg_t (xg_drop (l1 := [(0, (2, 0)), (1, (0, li + 1))]) (List.forall_mem_cons.mpr ⟨List.mem_cons_of_mem _ (List.mem_cons_self), List.forall_mem_cons.mpr ⟨List.mem_cons_self, fun _ h => absurd h List.not_mem_nil⟩⟩)) ?_
        exact ih33 (li + 1) w47 (by omega) (by omega) (xInv.up (S := [81]) hI36 (xFr.of (S := [81]) hb49 (by decide)) (List.forall_mem_cons.mpr ⟨(show cpK 2 0 16 49 1 (wget w47 81) from ⟨_, hr48, xrb (by omega) (hb42)⟩), fun _ h => absurd h List.not_mem_nil⟩)) ((hF37.tr (xFr.of (S := [81]) hb49 (by decide))))
      · refine xg_t (xg_icT (u := li) (v := 16) rfl xnm0 xnm0 (xj_geT (by omega) (by omega))) ?_
        refine xg_t (xg_blk (b := [(24, 1, 3, 0, 0, 0), (25, 1, 15, 1, 0, 0)]) rfl) ?_
        refine xg_t (xg_const) ?_
        refine xg_t (xg_istore (l1 := [(0, (2, 0))]) rfl rfl rfl) ?_
        refine xg_t (xg_drop (l1 := [(0, (2, 0)), (1, (0, 0))]) (List.forall_mem_cons.mpr ⟨List.mem_cons_of_mem _ (List.mem_cons_self), List.forall_mem_cons.mpr ⟨List.mem_cons_self, fun _ h => absurd h List.not_mem_nil⟩⟩)) ?_
        have key50 : ∀ (m52 : Nat) (ki : Nat) (w53 : List (List xE)), 64 - ki < m52 → ki ≤ 64 → xInv w53 → xFr [81] w w53 → xTo (d + 2) mX11_judgeLines (26, [], [(0, (2, 0)), (1, (0, ki))], [], (w53, bd, fc, 0, 0, rr)) (fun φ => ∃ w', xEnd 0 [] (w', bd, fc, 0, 0, rr) φ ∧ xInv w' ∧ xFr [81] w w') := by
          intro m52
          induction m52 with
          | zero => intro ki w53 hz; exact absurd hz (Nat.not_lt_zero _)
          | succ m52 ih51 =>
            intro ki w53 hm57 hn56 hI54 hF55
            refine xg_t (xg_blk (b := [(26, 1, 2, 1, 0, 0), (27, 1, 0, 0, 0, 0), (28, 3, 1, 11, 0, 10), (31, 3, 1, 9, 13, 406), (34, 3, 1, 5, 3, 151), (37, 3, 6, 87, 3, 0), (40, 1, 0, 0, 0, 0), (41, 3, 1, 11, 0, 10), (44, 3, 1, 9, 13, 406), (47, 1, 2, 1, 0, 0), (48, 1, 3, 0, 0, 0), (49, 3, 13, 285, 40, 132), (52, 1, 15, 2, 0, 0), (53, 1, 2, 2, 0, 0), (54, 3, 7, 81, 2, 0), (57, 1, 2, 2, 0, 0), (58, 1, 0, 0, 0, 0), (59, 3, 1, 11, 10, 87), (62, 1, 31, 0, 0, 0), (63, 3, 6, 81, 3, 0), (66, 1, 0, 0, 0, 0), (67, 1, 2, 1, 0, 0), (68, 3, 13, 99, 88, 409), (71, 3, 7, 81, 1, 0), (74, 1, 0, 0, 0, 0), (75, 3, 1, 11, 10, 87), (78, 1, 2, 2, 0, 0), (79, 1, 3, 0, 0, 0), (80, 1, 28, 0, 0, 0)]) rfl) ?_
            refine xg_t (xg_iload (va := (0, ki)) rfl rfl) ?_
            refine xg_t (xg_aload (va := (2, 0)) rfl rfl) ?_
            refine xg_t (xg_getf (va := (2, 1)) (hF55.get (by decide) h0_1) rfl) ?_
            refine xg_t (xg_getf (va := (2, 24)) (hF55.get (by decide) h1_14) rfl) ?_
            refine xg_t (xg_getf (va := (0, f24_26)) (hF55.get (by decide) h24_28) rfl) ?_
            by_cases hc58 : ki < f24_26
            · refine xg_t (xg_icF (u := ki) (v := f24_26) rfl xnm0 xnm0 (xj_geF hc58 (by omega))) ?_
              refine xg_t (xg_aload (va := (2, 0)) rfl rfl) ?_
              refine xg_t (xg_getf (va := (2, 1)) (hF55.get (by decide) h0_1) rfl) ?_
              refine xg_t (xg_getf (va := (2, 24)) (hF55.get (by decide) h1_14) rfl) ?_
              refine xg_t (xg_iload (va := (0, ki)) rfl rfl) ?_
              refine xg_t (xg_const) ?_
              refine xg_k (xg_cVr mX5_get (vs := [(0, ki), (0, 0)]) (rest := []) (rs := [(0, if ki < f24_26 ∧ 0 < 5 then g25_29 (ki * 5 + 0) else 4294967295)]) (cn1 := 0) (sl1 := 0) rfl (rget_ok (lim := 64) (wd := 5) (sz := f24_26) (hF55.get (by decide) h24_28) (h25_30.fr hF55 (by decide)) (by decide) (by omega) (by decide) (by decide) (by omega) (by omega)) rfl (hF55.get (by decide) h24_28) rfl rfl rfl rfl rfl rfl rfl) (xiteb (hb31)) (fun z59 hz60 => ?_)
              refine xg_t (xg_istore (l1 := [(0, (2, 0)), (1, (0, ki))]) rfl rfl rfl) ?_
              refine xg_t (xg_iload (va := (0, z59)) rfl rfl) ?_
              by_cases hc61 : z59 < 2147483648
              · refine xg_t (xg_ifF (u := z59) rfl xnm0 (xjz_ltF hc61)) ?_
                refine xg_t (xg_iload (va := (0, z59)) rfl rfl) ?_
                refine xg_t (xg_aload (va := (2, 0)) rfl rfl) ?_
                refine xg_t (xg_getf (va := (2, 81)) (hF55.get (by decide) h0_1) rfl) ?_
                obtain ⟨g81_62, h81_63, hb64⟩ := (hI54 81 (by decide) : cpK 2 0 16 49 1 (wget w53 81))
                have h81_63 : xRk 2 0 w53 81 16 49 g81_62 := h81_63
                obtain ⟨us65, ha66, ha67⟩ := id h81_63
                refine xg_t (xg_alen ha66) ?_
                by_cases hc68 : z59 < 16
                · refine xg_t (xg_icF (u := z59) (v := 16) rfl xnm0 xnm0 (xj_geF hc68 (by omega))) ?_
                  refine xg_t (xg_aload (va := (2, 0)) rfl rfl) ?_
                  refine xg_t (xg_iload (va := (0, ki)) rfl rfl) ?_
                  refine xg_cVi mX11_testHolds (vs := [(0, ki)]) (rest := []) (cn1 := 0) (sl1 := 0) rfl (scTestHolds (hI54) (by omega)) rfl (hF55.get (by decide) h0_1) rfl rfl rfl rfl rfl rfl (fun n73 w69 hq70 => ?_)
                  obtain ⟨hn74, hI71, hF72⟩ := hq70
                  by_cases hc75 : n73 = 0
                  · refine xg_t (xg_ifF (u := n73) rfl xnm0 (xj_neF hc75)) ?_
                    refine xg_t (xg_aload (va := (2, 0)) rfl rfl) ?_
                    refine xg_t (xg_getf (va := (2, 81)) (hF72.get (by decide) (hF55.get (by decide) h0_1)) rfl) ?_
                    refine xg_t (xg_iload (va := (0, z59)) rfl rfl) ?_
                    refine xg_t (xg_const) ?_
                    refine xg_bastZ (n := z59) (u := 0) (h81_63.fr hF72 (by decide)) xnm0 xnm0 rfl (by omega) (by omega) (fun w76 hr77 hb78 => ?_)
                    refine xg_t (xg_blk (b := [(81, 3, 9, 1, 1, 0), (84, 3, 8, 26, 0, 0)]) rfl) ?_
                    refine xg_t (xg_iinc (u := ki) (z := ki + 1) (l1 := [(2, (0, z59)), (0, (2, 0))]) rfl rfl (by omega) rfl) ?_
                    refine xg_t (xg_goto) ?_
                    refine xg_t (xg_drop (l1 := [(0, (2, 0)), (1, (0, ki + 1))]) (List.forall_mem_cons.mpr ⟨List.mem_cons_of_mem _ (List.mem_cons_of_mem _ (List.mem_cons_self)), List.forall_mem_cons.mpr ⟨List.mem_cons_self, fun _ h => absurd h List.not_mem_nil⟩⟩)) ?_
                    exact ih51 (ki + 1) w76 (by omega) (by omega) (xInv.up (S := [81]) hI71 (xFr.of (S := [81]) hb78 (by decide)) (List.forall_mem_cons.mpr ⟨(show cpK 2 0 16 49 1 (wget w76 81) from ⟨_, hr77, xrb (by omega) (hb64)⟩), fun _ h => absurd h List.not_mem_nil⟩)) (((hF55.tr (hF72.up (by decide))).tr (xFr.of (S := [81]) hb78 (by decide))))
                  · refine xg_t (xg_ifT (u := n73) rfl xnm0 (xj_neT hc75)) ?_
                    refine xg_t (xg_blk (b := [(81, 3, 9, 1, 1, 0), (84, 3, 8, 26, 0, 0)]) rfl) ?_
                    refine xg_t (xg_iinc (u := ki) (z := ki + 1) (l1 := [(2, (0, z59)), (0, (2, 0))]) rfl rfl (by omega) rfl) ?_
                    refine xg_t (xg_goto) ?_
                    refine xg_t (xg_drop (l1 := [(0, (2, 0)), (1, (0, ki + 1))]) (List.forall_mem_cons.mpr ⟨List.mem_cons_of_mem _ (List.mem_cons_of_mem _ (List.mem_cons_self)), List.forall_mem_cons.mpr ⟨List.mem_cons_self, fun _ h => absurd h List.not_mem_nil⟩⟩)) ?_
                    exact ih51 (ki + 1) w69 (by omega) (by omega) (hI71) ((hF55.tr (hF72.up (by decide))))
                · refine xg_t (xg_icT (u := z59) (v := 16) rfl xnm0 xnm0 (xj_geT (by omega) (by omega))) ?_
                  refine xg_t (xg_blk (b := [(81, 3, 9, 1, 1, 0), (84, 3, 8, 26, 0, 0)]) rfl) ?_
                  refine xg_t (xg_iinc (u := ki) (z := ki + 1) (l1 := [(2, (0, z59)), (0, (2, 0))]) rfl rfl (by omega) rfl) ?_
                  refine xg_t (xg_goto) ?_
                  refine xg_t (xg_drop (l1 := [(0, (2, 0)), (1, (0, ki + 1))]) (List.forall_mem_cons.mpr ⟨List.mem_cons_of_mem _ (List.mem_cons_of_mem _ (List.mem_cons_self)), List.forall_mem_cons.mpr ⟨List.mem_cons_self, fun _ h => absurd h List.not_mem_nil⟩⟩)) ?_
                  exact ih51 (ki + 1) w53 (by omega) (by omega) (hI54) (hF55)
              · refine xg_t (xg_ifT (u := z59) rfl xnm0 (xjz_ltT (by omega) (by omega))) ?_
                refine xg_t (xg_blk (b := [(81, 3, 9, 1, 1, 0), (84, 3, 8, 26, 0, 0)]) rfl) ?_
                refine xg_t (xg_iinc (u := ki) (z := ki + 1) (l1 := [(2, (0, z59)), (0, (2, 0))]) rfl rfl (by omega) rfl) ?_
                refine xg_t (xg_goto) ?_
                refine xg_t (xg_drop (l1 := [(0, (2, 0)), (1, (0, ki + 1))]) (List.forall_mem_cons.mpr ⟨List.mem_cons_of_mem _ (List.mem_cons_of_mem _ (List.mem_cons_self)), List.forall_mem_cons.mpr ⟨List.mem_cons_self, fun _ h => absurd h List.not_mem_nil⟩⟩)) ?_
                exact ih51 (ki + 1) w53 (by omega) (by omega) (hI54) (hF55)
            · refine xg_t (xg_icT (u := ki) (v := f24_26) rfl xnm0 xnm0 (xj_geT (by omega) (by omega))) ?_
              refine xg_t (xg_blk (b := [(87, 1, 12, 0, 0, 0)]) rfl) ?_
              exact xg_e ⟨w53, ⟨rfl, rfl⟩, hI54, hF55⟩
        exact key50 _ 0 w35 (Nat.lt_succ_self _) (by omega) (hI36) (hF37)
  exact key32 _ 0 w (Nat.lt_succ_self _) (by omega) (hI) (xFr.rf)
end XSD
end
section
/-! rowsOf, count -/
section XCO
variable {d : Nat} {w : List (List xE)} {bd : List (Nat × Nat)} {fc : List (Nat × Nat × Bool)} {rr : Nat × Nat}
theorem rowsOf3 {so : Nat} (hI : xInv w) (hs : so ≤ 4294967295) : ∃ v : xV, (v = (2, 4) ∨ v = (2, 6) ∨ v = (2, 8) ∨ v = (2, 10) ∨ v = (2, 12) ∨ v = (3, 0)) ∧ xPr d mX1_rowsOf [(2, 3), (0, so)] w bd fc rr [v] w := by
  suffices h : xTo d mX1_rowsOf (0, [], [(0, (2, 3)), (1, (0, so))], [], (w, bd, fc, 0, 0, rr)) (fun φ => ∃ v : xV, xEnd 3 [v] (w, bd, fc, 0, 0, rr) φ ∧ (v = (2, 4) ∨ v = (2, 6) ∨ v = (2, 8) ∨ v = (2, 10) ∨ v = (2, 12) ∨ v = (3, 0))) by
    obtain ⟨φ, q1, v, q2, q3⟩ := h
    exact ⟨v, q3, φ, q1, q2.1, q2.2⟩
  refine xg_t (xg_blk (b := [(0, 1, 2, 1, 0, 0), (1, 35, 33, 61, 0, 13)]) rfl) ?_
  refine xg_t (xg_iload (va := (0, so)) rfl rfl) ?_
  by_cases hc1 : so = 0
  · refine xg_t (xg_swt (ks := [(0, 36), (1, 41), (2, 46), (3, 51), (4, 56)]) (u := so) (z := 36) rfl rfl rfl xnm0 (xsw_y hc1)) ?_
    refine xg_t (xg_blk (b := [(36, 1, 0, 0, 0, 0), (37, 3, 1, 1, 0, 14), (40, 1, 12, 0, 3, 0)]) rfl) ?_
    refine xg_t (xg_aload (va := (2, 3)) rfl rfl) ?_
    obtain ⟨f3_2, f3_4, f3_6, f3_8, f3_10, h3_12, hb3, hb5, hb7, hb9, hb11⟩ := (hI 3 (by decide) : cp3 (wget w 3))
    refine xg_t (xg_getf (va := (2, 4)) h3_12 rfl) ?_
    exact xg_e ⟨(2, 4), ⟨rfl, rfl⟩, Or.inl rfl⟩
  · by_cases hc13 : so = 1
    · refine xg_t (xg_swt (ks := [(0, 36), (1, 41), (2, 46), (3, 51), (4, 56)]) (u := so) (z := 41) rfl rfl rfl xnm0 (xsw_n hc1 (xsw_y hc13))) ?_
      refine xg_t (xg_blk (b := [(41, 1, 0, 0, 0, 0), (42, 3, 1, 1, 1, 18), (45, 1, 12, 0, 3, 0)]) rfl) ?_
      refine xg_t (xg_aload (va := (2, 3)) rfl rfl) ?_
      obtain ⟨f3_14, f3_16, f3_18, f3_20, f3_22, h3_24, hb15, hb17, hb19, hb21, hb23⟩ := (hI 3 (by decide) : cp3 (wget w 3))
      refine xg_t (xg_getf (va := (2, 6)) h3_24 rfl) ?_
      exact xg_e ⟨(2, 6), ⟨rfl, rfl⟩, Or.inr (Or.inl rfl)⟩
    · by_cases hc25 : so = 2
      · refine xg_t (xg_swt (ks := [(0, 36), (1, 41), (2, 46), (3, 51), (4, 56)]) (u := so) (z := 46) rfl rfl rfl xnm0 (xsw_n hc1 (xsw_n hc13 (xsw_y hc25)))) ?_
        refine xg_t (xg_blk (b := [(46, 1, 0, 0, 0, 0), (47, 3, 1, 1, 2, 21), (50, 1, 12, 0, 3, 0)]) rfl) ?_
        refine xg_t (xg_aload (va := (2, 3)) rfl rfl) ?_
        obtain ⟨f3_26, f3_28, f3_30, f3_32, f3_34, h3_36, hb27, hb29, hb31, hb33, hb35⟩ := (hI 3 (by decide) : cp3 (wget w 3))
        refine xg_t (xg_getf (va := (2, 8)) h3_36 rfl) ?_
        exact xg_e ⟨(2, 8), ⟨rfl, rfl⟩, Or.inr (Or.inr (Or.inl rfl))⟩
      · by_cases hc37 : so = 3
        · refine xg_t (xg_swt (ks := [(0, 36), (1, 41), (2, 46), (3, 51), (4, 56)]) (u := so) (z := 51) rfl rfl rfl xnm0 (xsw_n hc1 (xsw_n hc13 (xsw_n hc25 (xsw_y hc37))))) ?_
          refine xg_t (xg_blk (b := [(51, 1, 0, 0, 0, 0), (52, 3, 1, 1, 3, 24), (55, 1, 12, 0, 3, 0)]) rfl) ?_
          refine xg_t (xg_aload (va := (2, 3)) rfl rfl) ?_
          obtain ⟨f3_38, f3_40, f3_42, f3_44, f3_46, h3_48, hb39, hb41, hb43, hb45, hb47⟩ := (hI 3 (by decide) : cp3 (wget w 3))
          refine xg_t (xg_getf (va := (2, 10)) h3_48 rfl) ?_
          exact xg_e ⟨(2, 10), ⟨rfl, rfl⟩, Or.inr (Or.inr (Or.inr (Or.inl rfl)))⟩
        · by_cases hc49 : so = 4
          · refine xg_t (xg_swt (ks := [(0, 36), (1, 41), (2, 46), (3, 51), (4, 56)]) (u := so) (z := 56) rfl rfl rfl xnm0 (xsw_n hc1 (xsw_n hc13 (xsw_n hc25 (xsw_n hc37 (xsw_y hc49)))))) ?_
            refine xg_t (xg_blk (b := [(56, 1, 0, 0, 0, 0), (57, 3, 1, 1, 4, 27), (60, 1, 12, 0, 3, 0)]) rfl) ?_
            refine xg_t (xg_aload (va := (2, 3)) rfl rfl) ?_
            obtain ⟨f3_50, f3_52, f3_54, f3_56, f3_58, h3_60, hb51, hb53, hb55, hb57, hb59⟩ := (hI 3 (by decide) : cp3 (wget w 3))
            refine xg_t (xg_getf (va := (2, 12)) h3_60 rfl) ?_
            exact xg_e ⟨(2, 12), ⟨rfl, rfl⟩, Or.inr (Or.inr (Or.inr (Or.inr (Or.inl rfl))))⟩
          · refine xg_t (xg_swt (ks := [(0, 36), (1, 41), (2, 46), (3, 51), (4, 56)]) (u := so) (z := 61) rfl rfl rfl xnm0 (xsw_n hc1 (xsw_n hc13 (xsw_n hc25 (xsw_n hc37 (xsw_n hc49 (xsw_d))))))) ?_
            refine xg_t (xg_blk (b := [(61, 1, 45, 0, 0, 0), (62, 1, 12, 0, 3, 0)]) rfl) ?_
            refine xg_t (xg_null) ?_
            exact xg_e ⟨(3, 0), ⟨rfl, rfl⟩, Or.inr (Or.inr (Or.inr (Or.inr (Or.inr (rfl)))))⟩
theorem scCountOfFilm {wh : Nat} (hI : xInv w) (hwh : wh ≤ 4294967295) : xPi (d + 1) mX11_countOfFilm [(2, 0), (0, wh)] w bd fc rr (fun n w' => (n ≤ 4294967295) ∧ xInv w' ∧ xFr [] w w') := by
  refine xPi.of ?_
  show xTo (d + 1) mX11_countOfFilm (0, [], [(0, (2, 0)), (1, (0, wh))], [], (w, bd, fc, 0, 0, rr)) (fun φ => ∃ n w', xEnd 1 [(0, n)] (w', bd, fc, 0, 0, rr) φ ∧ (n ≤ 4294967295) ∧ xInv w' ∧ xFr [] w w')
  have h0_1 := (hI 0 (by decide) : cp0 (wget w 0))
  obtain ⟨f1_2, f1_4, f1_6, f1_8, f1_10, f1_12, h1_14, hb3, hb5, hb7, hb9, hb11, hb13⟩ := (hI 1 (by decide) : cp1 (wget w 1))
  obtain ⟨f3_15, f3_17, f3_19, f3_21, f3_23, h3_25, hb16, hb18, hb20, hb22, hb24⟩ := (hI 3 (by decide) : cp3 (wget w 3))
  refine xg_t (xg_blk (b := [(0, 1, 0, 0, 0, 0), (1, 3, 1, 11, 0, 10), (4, 3, 1, 9, 4, 38), (7, 1, 27, 2, 0, 0), (8, 1, 2, 1, 0, 0), (9, 55, 33, 89, 0, 3)]) rfl) ?_
  refine xg_t (xg_aload (va := (2, 0)) rfl rfl) ?_
  refine xg_t (xg_getf (va := (2, 1)) h0_1 rfl) ?_
  refine xg_t (xg_getf (va := (2, 3)) h1_14 rfl) ?_
  refine xg_t (xg_astore (l1 := [(0, (2, 0)), (1, (0, wh))]) rfl rfl rfl) ?_
  refine xg_t (xg_iload (va := (0, wh)) rfl rfl) ?_
  by_cases hc26 : wh = 5
  · refine xg_t (xg_swt (ks := [(5, 64), (6, 69), (7, 74), (8, 79), (9, 89), (10, 89), (11, 89), (12, 89), (13, 89), (14, 84)]) (u := wh) (z := 64) rfl rfl rfl xnm0 (xsw_y hc26)) ?_
    refine xg_t (xg_blk (b := [(64, 1, 0, 2, 0, 0), (65, 3, 1, 1, 7, 225), (68, 1, 12, 0, 1, 0)]) rfl) ?_
    refine xg_t (xg_aload (va := (2, 3)) rfl rfl) ?_
    refine xg_t (xg_getf (va := (0, f3_19)) h3_25 rfl) ?_
    exact xg_e ⟨f3_19, w, ⟨rfl, rfl⟩, by omega, hI, xFr.rf⟩
  · by_cases hc27 : wh = 6
    · refine xg_t (xg_swt (ks := [(5, 64), (6, 69), (7, 74), (8, 79), (9, 89), (10, 89), (11, 89), (12, 89), (13, 89), (14, 84)]) (u := wh) (z := 69) rfl rfl rfl xnm0 (xsw_n hc26 (xsw_y hc27))) ?_
      refine xg_t (xg_blk (b := [(69, 1, 0, 2, 0, 0), (70, 3, 1, 1, 8, 255), (73, 1, 12, 0, 1, 0)]) rfl) ?_
      refine xg_t (xg_aload (va := (2, 3)) rfl rfl) ?_
      refine xg_t (xg_getf (va := (0, f3_21)) h3_25 rfl) ?_
      exact xg_e ⟨f3_21, w, ⟨rfl, rfl⟩, by omega, hI, xFr.rf⟩
    · by_cases hc28 : wh = 7
      · refine xg_t (xg_swt (ks := [(5, 64), (6, 69), (7, 74), (8, 79), (9, 89), (10, 89), (11, 89), (12, 89), (13, 89), (14, 84)]) (u := wh) (z := 74) rfl rfl rfl xnm0 (xsw_n hc26 (xsw_n hc27 (xsw_y hc28)))) ?_
        refine xg_t (xg_blk (b := [(74, 1, 0, 2, 0, 0), (75, 3, 1, 1, 5, 297), (78, 1, 12, 0, 1, 0)]) rfl) ?_
        refine xg_t (xg_aload (va := (2, 3)) rfl rfl) ?_
        refine xg_t (xg_getf (va := (0, f3_15)) h3_25 rfl) ?_
        exact xg_e ⟨f3_15, w, ⟨rfl, rfl⟩, by omega, hI, xFr.rf⟩
      · by_cases hc29 : wh = 8
        · refine xg_t (xg_swt (ks := [(5, 64), (6, 69), (7, 74), (8, 79), (9, 89), (10, 89), (11, 89), (12, 89), (13, 89), (14, 84)]) (u := wh) (z := 79) rfl rfl rfl xnm0 (xsw_n hc26 (xsw_n hc27 (xsw_n hc28 (xsw_y hc29))))) ?_
          refine xg_t (xg_blk (b := [(79, 1, 0, 2, 0, 0), (80, 3, 1, 1, 6, 300), (83, 1, 12, 0, 1, 0)]) rfl) ?_
          refine xg_t (xg_aload (va := (2, 3)) rfl rfl) ?_
          refine xg_t (xg_getf (va := (0, f3_17)) h3_25 rfl) ?_
          exact xg_e ⟨f3_17, w, ⟨rfl, rfl⟩, by omega, hI, xFr.rf⟩
        · by_cases hc30 : wh = 9
          · refine xg_t (xg_swt (ks := [(5, 64), (6, 69), (7, 74), (8, 79), (9, 89), (10, 89), (11, 89), (12, 89), (13, 89), (14, 84)]) (u := wh) (z := 89) rfl rfl rfl xnm0 (xsw_n hc26 (xsw_n hc27 (xsw_n hc28 (xsw_n hc29 (xsw_y hc30)))))) ?_
            refine xg_t (xg_blk (b := [(89, 1, 0, 2, 0, 0), (90, 1, 2, 1, 0, 0), (91, 3, 13, 243, 8, 415), (94, 1, 27, 3, 0, 0), (95, 1, 0, 3, 0, 0), (96, 3, 44, 104, 0, 0), (99, 2, 4, 4294967294, 0, 0), (101, 3, 8, 108, 0, 0)]) rfl) ?_
            refine xg_t (xg_aload (va := (2, 3)) rfl rfl) ?_
            refine xg_t (xg_iload (va := (0, wh)) rfl rfl) ?_
            obtain ⟨v31, hv32, hp33⟩ := rowsOf3 (d := d + 0) (bd := bd) (fc := fc) (rr := rr) (so := wh) (hI) (by omega)
            rcases hv32 with rfl | rfl | rfl | rfl | rfl | rfl
            · refine xg_t (xg_cVr mX1_rowsOf (vs := [(0, wh)]) (rest := []) (rs := [(2, 4)]) (cn1 := 0) (sl1 := 0) rfl (hp33) rfl h3_25 rfl rfl rfl rfl rfl rfl rfl) ?_
              refine xg_t (xg_astore (l1 := [(2, (2, 3)), (0, (2, 0)), (1, (0, wh))]) rfl rfl rfl) ?_
              refine xg_t (xg_aload (va := (2, 4)) rfl rfl) ?_
              refine xg_t (xg_ifnnT) ?_
              refine xg_t (xg_blk (b := [(104, 1, 0, 3, 0, 0), (105, 3, 1, 5, 3, 151)]) rfl) ?_
              refine xg_t (xg_aload (va := (2, 4)) rfl rfl) ?_
              obtain ⟨f4_34, h4_36, hb35⟩ := (hI 4 (by decide) : cp4 (wget w 4))
              refine xg_t (xg_getf (va := (0, f4_34)) h4_36 rfl) ?_
              refine xg_t (xg_blk (b := [(108, 1, 12, 0, 1, 0)]) rfl) ?_
              exact xg_e ⟨f4_34, w, ⟨rfl, rfl⟩, by omega, hI, xFr.rf⟩
            · refine xg_t (xg_cVr mX1_rowsOf (vs := [(0, wh)]) (rest := []) (rs := [(2, 6)]) (cn1 := 0) (sl1 := 0) rfl (hp33) rfl h3_25 rfl rfl rfl rfl rfl rfl rfl) ?_
              refine xg_t (xg_astore (l1 := [(2, (2, 3)), (0, (2, 0)), (1, (0, wh))]) rfl rfl rfl) ?_
              refine xg_t (xg_aload (va := (2, 6)) rfl rfl) ?_
              refine xg_t (xg_ifnnT) ?_
              refine xg_t (xg_blk (b := [(104, 1, 0, 3, 0, 0), (105, 3, 1, 5, 3, 151)]) rfl) ?_
              refine xg_t (xg_aload (va := (2, 6)) rfl rfl) ?_
              obtain ⟨f6_37, h6_39, hb38⟩ := (hI 6 (by decide) : cp6 (wget w 6))
              refine xg_t (xg_getf (va := (0, f6_37)) h6_39 rfl) ?_
              refine xg_t (xg_blk (b := [(108, 1, 12, 0, 1, 0)]) rfl) ?_
              exact xg_e ⟨f6_37, w, ⟨rfl, rfl⟩, by omega, hI, xFr.rf⟩
            · refine xg_t (xg_cVr mX1_rowsOf (vs := [(0, wh)]) (rest := []) (rs := [(2, 8)]) (cn1 := 0) (sl1 := 0) rfl (hp33) rfl h3_25 rfl rfl rfl rfl rfl rfl rfl) ?_
              refine xg_t (xg_astore (l1 := [(2, (2, 3)), (0, (2, 0)), (1, (0, wh))]) rfl rfl rfl) ?_
              refine xg_t (xg_aload (va := (2, 8)) rfl rfl) ?_
              refine xg_t (xg_ifnnT) ?_
              refine xg_t (xg_blk (b := [(104, 1, 0, 3, 0, 0), (105, 3, 1, 5, 3, 151)]) rfl) ?_
              refine xg_t (xg_aload (va := (2, 8)) rfl rfl) ?_
              obtain ⟨f8_40, h8_42, hb41⟩ := (hI 8 (by decide) : cp8 (wget w 8))
              refine xg_t (xg_getf (va := (0, f8_40)) h8_42 rfl) ?_
              refine xg_t (xg_blk (b := [(108, 1, 12, 0, 1, 0)]) rfl) ?_
              exact xg_e ⟨f8_40, w, ⟨rfl, rfl⟩, by omega, hI, xFr.rf⟩
            · refine xg_t (xg_cVr mX1_rowsOf (vs := [(0, wh)]) (rest := []) (rs := [(2, 10)]) (cn1 := 0) (sl1 := 0) rfl (hp33) rfl h3_25 rfl rfl rfl rfl rfl rfl rfl) ?_
              refine xg_t (xg_astore (l1 := [(2, (2, 3)), (0, (2, 0)), (1, (0, wh))]) rfl rfl rfl) ?_
              refine xg_t (xg_aload (va := (2, 10)) rfl rfl) ?_
              refine xg_t (xg_ifnnT) ?_
              refine xg_t (xg_blk (b := [(104, 1, 0, 3, 0, 0), (105, 3, 1, 5, 3, 151)]) rfl) ?_
              refine xg_t (xg_aload (va := (2, 10)) rfl rfl) ?_
              obtain ⟨f10_43, h10_45, hb44⟩ := (hI 10 (by decide) : cp10 (wget w 10))
              refine xg_t (xg_getf (va := (0, f10_43)) h10_45 rfl) ?_
              refine xg_t (xg_blk (b := [(108, 1, 12, 0, 1, 0)]) rfl) ?_
              exact xg_e ⟨f10_43, w, ⟨rfl, rfl⟩, by omega, hI, xFr.rf⟩
            · refine xg_t (xg_cVr mX1_rowsOf (vs := [(0, wh)]) (rest := []) (rs := [(2, 12)]) (cn1 := 0) (sl1 := 0) rfl (hp33) rfl h3_25 rfl rfl rfl rfl rfl rfl rfl) ?_
              refine xg_t (xg_astore (l1 := [(2, (2, 3)), (0, (2, 0)), (1, (0, wh))]) rfl rfl rfl) ?_
              refine xg_t (xg_aload (va := (2, 12)) rfl rfl) ?_
              refine xg_t (xg_ifnnT) ?_
              refine xg_t (xg_blk (b := [(104, 1, 0, 3, 0, 0), (105, 3, 1, 5, 3, 151)]) rfl) ?_
              refine xg_t (xg_aload (va := (2, 12)) rfl rfl) ?_
              obtain ⟨f12_46, h12_48, hb47⟩ := (hI 12 (by decide) : cp12 (wget w 12))
              refine xg_t (xg_getf (va := (0, f12_46)) h12_48 rfl) ?_
              refine xg_t (xg_blk (b := [(108, 1, 12, 0, 1, 0)]) rfl) ?_
              exact xg_e ⟨f12_46, w, ⟨rfl, rfl⟩, by omega, hI, xFr.rf⟩
            · refine xg_t (xg_cVr mX1_rowsOf (vs := [(0, wh)]) (rest := []) (rs := [(3, 0)]) (cn1 := 0) (sl1 := 0) rfl (hp33) rfl h3_25 rfl rfl rfl rfl rfl rfl rfl) ?_
              refine xg_t (xg_astore (l1 := [(2, (2, 3)), (0, (2, 0)), (1, (0, wh))]) rfl rfl rfl) ?_
              refine xg_t (xg_aload (va := (3, 0)) rfl rfl) ?_
              refine xg_t (xg_ifnnF) ?_
              refine xg_t (xg_bip) ?_
              refine xg_t (xg_goto) ?_
              refine xg_t (xg_blk (b := [(108, 1, 12, 0, 1, 0)]) rfl) ?_
              exact xg_e ⟨4294967294, w, ⟨rfl, rfl⟩, by omega, hI, xFr.rf⟩
          · by_cases hc49 : wh = 10
            · refine xg_t (xg_swt (ks := [(5, 64), (6, 69), (7, 74), (8, 79), (9, 89), (10, 89), (11, 89), (12, 89), (13, 89), (14, 84)]) (u := wh) (z := 89) rfl rfl rfl xnm0 (xsw_n hc26 (xsw_n hc27 (xsw_n hc28 (xsw_n hc29 (xsw_n hc30 (xsw_y hc49))))))) ?_
              refine xg_t (xg_blk (b := [(89, 1, 0, 2, 0, 0), (90, 1, 2, 1, 0, 0), (91, 3, 13, 243, 8, 415), (94, 1, 27, 3, 0, 0), (95, 1, 0, 3, 0, 0), (96, 3, 44, 104, 0, 0), (99, 2, 4, 4294967294, 0, 0), (101, 3, 8, 108, 0, 0)]) rfl) ?_
              refine xg_t (xg_aload (va := (2, 3)) rfl rfl) ?_
              refine xg_t (xg_iload (va := (0, wh)) rfl rfl) ?_
              obtain ⟨v50, hv51, hp52⟩ := rowsOf3 (d := d + 0) (bd := bd) (fc := fc) (rr := rr) (so := wh) (hI) (by omega)
              rcases hv51 with rfl | rfl | rfl | rfl | rfl | rfl
              · refine xg_t (xg_cVr mX1_rowsOf (vs := [(0, wh)]) (rest := []) (rs := [(2, 4)]) (cn1 := 0) (sl1 := 0) rfl (hp52) rfl h3_25 rfl rfl rfl rfl rfl rfl rfl) ?_
                refine xg_t (xg_astore (l1 := [(2, (2, 3)), (0, (2, 0)), (1, (0, wh))]) rfl rfl rfl) ?_
                refine xg_t (xg_aload (va := (2, 4)) rfl rfl) ?_
                refine xg_t (xg_ifnnT) ?_
                refine xg_t (xg_blk (b := [(104, 1, 0, 3, 0, 0), (105, 3, 1, 5, 3, 151)]) rfl) ?_
                refine xg_t (xg_aload (va := (2, 4)) rfl rfl) ?_
                obtain ⟨f4_53, h4_55, hb54⟩ := (hI 4 (by decide) : cp4 (wget w 4))
                refine xg_t (xg_getf (va := (0, f4_53)) h4_55 rfl) ?_
                refine xg_t (xg_blk (b := [(108, 1, 12, 0, 1, 0)]) rfl) ?_
                exact xg_e ⟨f4_53, w, ⟨rfl, rfl⟩, by omega, hI, xFr.rf⟩
              · refine xg_t (xg_cVr mX1_rowsOf (vs := [(0, wh)]) (rest := []) (rs := [(2, 6)]) (cn1 := 0) (sl1 := 0) rfl (hp52) rfl h3_25 rfl rfl rfl rfl rfl rfl rfl) ?_
                refine xg_t (xg_astore (l1 := [(2, (2, 3)), (0, (2, 0)), (1, (0, wh))]) rfl rfl rfl) ?_
                refine xg_t (xg_aload (va := (2, 6)) rfl rfl) ?_
                refine xg_t (xg_ifnnT) ?_
                refine xg_t (xg_blk (b := [(104, 1, 0, 3, 0, 0), (105, 3, 1, 5, 3, 151)]) rfl) ?_
                refine xg_t (xg_aload (va := (2, 6)) rfl rfl) ?_
                obtain ⟨f6_56, h6_58, hb57⟩ := (hI 6 (by decide) : cp6 (wget w 6))
                refine xg_t (xg_getf (va := (0, f6_56)) h6_58 rfl) ?_
                refine xg_t (xg_blk (b := [(108, 1, 12, 0, 1, 0)]) rfl) ?_
                exact xg_e ⟨f6_56, w, ⟨rfl, rfl⟩, by omega, hI, xFr.rf⟩
              · refine xg_t (xg_cVr mX1_rowsOf (vs := [(0, wh)]) (rest := []) (rs := [(2, 8)]) (cn1 := 0) (sl1 := 0) rfl (hp52) rfl h3_25 rfl rfl rfl rfl rfl rfl rfl) ?_
                refine xg_t (xg_astore (l1 := [(2, (2, 3)), (0, (2, 0)), (1, (0, wh))]) rfl rfl rfl) ?_
                refine xg_t (xg_aload (va := (2, 8)) rfl rfl) ?_
                refine xg_t (xg_ifnnT) ?_
                refine xg_t (xg_blk (b := [(104, 1, 0, 3, 0, 0), (105, 3, 1, 5, 3, 151)]) rfl) ?_
                refine xg_t (xg_aload (va := (2, 8)) rfl rfl) ?_
                obtain ⟨f8_59, h8_61, hb60⟩ := (hI 8 (by decide) : cp8 (wget w 8))
                refine xg_t (xg_getf (va := (0, f8_59)) h8_61 rfl) ?_
                refine xg_t (xg_blk (b := [(108, 1, 12, 0, 1, 0)]) rfl) ?_
                exact xg_e ⟨f8_59, w, ⟨rfl, rfl⟩, by omega, hI, xFr.rf⟩
              · refine xg_t (xg_cVr mX1_rowsOf (vs := [(0, wh)]) (rest := []) (rs := [(2, 10)]) (cn1 := 0) (sl1 := 0) rfl (hp52) rfl h3_25 rfl rfl rfl rfl rfl rfl rfl) ?_
                refine xg_t (xg_astore (l1 := [(2, (2, 3)), (0, (2, 0)), (1, (0, wh))]) rfl rfl rfl) ?_
                refine xg_t (xg_aload (va := (2, 10)) rfl rfl) ?_
                refine xg_t (xg_ifnnT) ?_
                refine xg_t (xg_blk (b := [(104, 1, 0, 3, 0, 0), (105, 3, 1, 5, 3, 151)]) rfl) ?_
                refine xg_t (xg_aload (va := (2, 10)) rfl rfl) ?_
                obtain ⟨f10_62, h10_64, hb63⟩ := (hI 10 (by decide) : cp10 (wget w 10))
                refine xg_t (xg_getf (va := (0, f10_62)) h10_64 rfl) ?_
                refine xg_t (xg_blk (b := [(108, 1, 12, 0, 1, 0)]) rfl) ?_
                exact xg_e ⟨f10_62, w, ⟨rfl, rfl⟩, by omega, hI, xFr.rf⟩
              · refine xg_t (xg_cVr mX1_rowsOf (vs := [(0, wh)]) (rest := []) (rs := [(2, 12)]) (cn1 := 0) (sl1 := 0) rfl (hp52) rfl h3_25 rfl rfl rfl rfl rfl rfl rfl) ?_
                refine xg_t (xg_astore (l1 := [(2, (2, 3)), (0, (2, 0)), (1, (0, wh))]) rfl rfl rfl) ?_
                refine xg_t (xg_aload (va := (2, 12)) rfl rfl) ?_
                refine xg_t (xg_ifnnT) ?_
                refine xg_t (xg_blk (b := [(104, 1, 0, 3, 0, 0), (105, 3, 1, 5, 3, 151)]) rfl) ?_
                refine xg_t (xg_aload (va := (2, 12)) rfl rfl) ?_
                obtain ⟨f12_65, h12_67, hb66⟩ := (hI 12 (by decide) : cp12 (wget w 12))
                refine xg_t (xg_getf (va := (0, f12_65)) h12_67 rfl) ?_
                refine xg_t (xg_blk (b := [(108, 1, 12, 0, 1, 0)]) rfl) ?_
                exact xg_e ⟨f12_65, w, ⟨rfl, rfl⟩, by omega, hI, xFr.rf⟩
              · refine xg_t (xg_cVr mX1_rowsOf (vs := [(0, wh)]) (rest := []) (rs := [(3, 0)]) (cn1 := 0) (sl1 := 0) rfl (hp52) rfl h3_25 rfl rfl rfl rfl rfl rfl rfl) ?_
                refine xg_t (xg_astore (l1 := [(2, (2, 3)), (0, (2, 0)), (1, (0, wh))]) rfl rfl rfl) ?_
                refine xg_t (xg_aload (va := (3, 0)) rfl rfl) ?_
                refine xg_t (xg_ifnnF) ?_
                refine xg_t (xg_bip) ?_
                refine xg_t (xg_goto) ?_
                refine xg_t (xg_blk (b := [(108, 1, 12, 0, 1, 0)]) rfl) ?_
                exact xg_e ⟨4294967294, w, ⟨rfl, rfl⟩, by omega, hI, xFr.rf⟩
            · by_cases hc68 : wh = 11
              · refine xg_t (xg_swt (ks := [(5, 64), (6, 69), (7, 74), (8, 79), (9, 89), (10, 89), (11, 89), (12, 89), (13, 89), (14, 84)]) (u := wh) (z := 89) rfl rfl rfl xnm0 (xsw_n hc26 (xsw_n hc27 (xsw_n hc28 (xsw_n hc29 (xsw_n hc30 (xsw_n hc49 (xsw_y hc68)))))))) ?_
                refine xg_t (xg_blk (b := [(89, 1, 0, 2, 0, 0), (90, 1, 2, 1, 0, 0), (91, 3, 13, 243, 8, 415), (94, 1, 27, 3, 0, 0), (95, 1, 0, 3, 0, 0), (96, 3, 44, 104, 0, 0), (99, 2, 4, 4294967294, 0, 0), (101, 3, 8, 108, 0, 0)]) rfl) ?_
                refine xg_t (xg_aload (va := (2, 3)) rfl rfl) ?_
                refine xg_t (xg_iload (va := (0, wh)) rfl rfl) ?_
                obtain ⟨v69, hv70, hp71⟩ := rowsOf3 (d := d + 0) (bd := bd) (fc := fc) (rr := rr) (so := wh) (hI) (by omega)
                rcases hv70 with rfl | rfl | rfl | rfl | rfl | rfl
                · refine xg_t (xg_cVr mX1_rowsOf (vs := [(0, wh)]) (rest := []) (rs := [(2, 4)]) (cn1 := 0) (sl1 := 0) rfl (hp71) rfl h3_25 rfl rfl rfl rfl rfl rfl rfl) ?_
                  refine xg_t (xg_astore (l1 := [(2, (2, 3)), (0, (2, 0)), (1, (0, wh))]) rfl rfl rfl) ?_
                  refine xg_t (xg_aload (va := (2, 4)) rfl rfl) ?_
                  refine xg_t (xg_ifnnT) ?_
                  refine xg_t (xg_blk (b := [(104, 1, 0, 3, 0, 0), (105, 3, 1, 5, 3, 151)]) rfl) ?_
                  refine xg_t (xg_aload (va := (2, 4)) rfl rfl) ?_
                  obtain ⟨f4_72, h4_74, hb73⟩ := (hI 4 (by decide) : cp4 (wget w 4))
                  refine xg_t (xg_getf (va := (0, f4_72)) h4_74 rfl) ?_
                  refine xg_t (xg_blk (b := [(108, 1, 12, 0, 1, 0)]) rfl) ?_
                  exact xg_e ⟨f4_72, w, ⟨rfl, rfl⟩, by omega, hI, xFr.rf⟩
                · refine xg_t (xg_cVr mX1_rowsOf (vs := [(0, wh)]) (rest := []) (rs := [(2, 6)]) (cn1 := 0) (sl1 := 0) rfl (hp71) rfl h3_25 rfl rfl rfl rfl rfl rfl rfl) ?_
                  refine xg_t (xg_astore (l1 := [(2, (2, 3)), (0, (2, 0)), (1, (0, wh))]) rfl rfl rfl) ?_
                  refine xg_t (xg_aload (va := (2, 6)) rfl rfl) ?_
                  refine xg_t (xg_ifnnT) ?_
                  refine xg_t (xg_blk (b := [(104, 1, 0, 3, 0, 0), (105, 3, 1, 5, 3, 151)]) rfl) ?_
                  refine xg_t (xg_aload (va := (2, 6)) rfl rfl) ?_
                  obtain ⟨f6_75, h6_77, hb76⟩ := (hI 6 (by decide) : cp6 (wget w 6))
                  refine xg_t (xg_getf (va := (0, f6_75)) h6_77 rfl) ?_
                  refine xg_t (xg_blk (b := [(108, 1, 12, 0, 1, 0)]) rfl) ?_
                  exact xg_e ⟨f6_75, w, ⟨rfl, rfl⟩, by omega, hI, xFr.rf⟩
                · refine xg_t (xg_cVr mX1_rowsOf (vs := [(0, wh)]) (rest := []) (rs := [(2, 8)]) (cn1 := 0) (sl1 := 0) rfl (hp71) rfl h3_25 rfl rfl rfl rfl rfl rfl rfl) ?_
                  refine xg_t (xg_astore (l1 := [(2, (2, 3)), (0, (2, 0)), (1, (0, wh))]) rfl rfl rfl) ?_
                  refine xg_t (xg_aload (va := (2, 8)) rfl rfl) ?_
                  refine xg_t (xg_ifnnT) ?_
                  refine xg_t (xg_blk (b := [(104, 1, 0, 3, 0, 0), (105, 3, 1, 5, 3, 151)]) rfl) ?_
                  refine xg_t (xg_aload (va := (2, 8)) rfl rfl) ?_
                  obtain ⟨f8_78, h8_80, hb79⟩ := (hI 8 (by decide) : cp8 (wget w 8))
                  refine xg_t (xg_getf (va := (0, f8_78)) h8_80 rfl) ?_
                  refine xg_t (xg_blk (b := [(108, 1, 12, 0, 1, 0)]) rfl) ?_
                  exact xg_e ⟨f8_78, w, ⟨rfl, rfl⟩, by omega, hI, xFr.rf⟩
                · refine xg_t (xg_cVr mX1_rowsOf (vs := [(0, wh)]) (rest := []) (rs := [(2, 10)]) (cn1 := 0) (sl1 := 0) rfl (hp71) rfl h3_25 rfl rfl rfl rfl rfl rfl rfl) ?_
                  refine xg_t (xg_astore (l1 := [(2, (2, 3)), (0, (2, 0)), (1, (0, wh))]) rfl rfl rfl) ?_
                  refine xg_t (xg_aload (va := (2, 10)) rfl rfl) ?_
                  refine xg_t (xg_ifnnT) ?_
                  refine xg_t (xg_blk (b := [(104, 1, 0, 3, 0, 0), (105, 3, 1, 5, 3, 151)]) rfl) ?_
                  refine xg_t (xg_aload (va := (2, 10)) rfl rfl) ?_
                  obtain ⟨f10_81, h10_83, hb82⟩ := (hI 10 (by decide) : cp10 (wget w 10))
                  refine xg_t (xg_getf (va := (0, f10_81)) h10_83 rfl) ?_
                  refine xg_t (xg_blk (b := [(108, 1, 12, 0, 1, 0)]) rfl) ?_
                  exact xg_e ⟨f10_81, w, ⟨rfl, rfl⟩, by omega, hI, xFr.rf⟩
                · refine xg_t (xg_cVr mX1_rowsOf (vs := [(0, wh)]) (rest := []) (rs := [(2, 12)]) (cn1 := 0) (sl1 := 0) rfl (hp71) rfl h3_25 rfl rfl rfl rfl rfl rfl rfl) ?_
                  refine xg_t (xg_astore (l1 := [(2, (2, 3)), (0, (2, 0)), (1, (0, wh))]) rfl rfl rfl) ?_
                  refine xg_t (xg_aload (va := (2, 12)) rfl rfl) ?_
                  refine xg_t (xg_ifnnT) ?_
                  refine xg_t (xg_blk (b := [(104, 1, 0, 3, 0, 0), (105, 3, 1, 5, 3, 151)]) rfl) ?_
                  refine xg_t (xg_aload (va := (2, 12)) rfl rfl) ?_
                  obtain ⟨f12_84, h12_86, hb85⟩ := (hI 12 (by decide) : cp12 (wget w 12))
                  refine xg_t (xg_getf (va := (0, f12_84)) h12_86 rfl) ?_
                  refine xg_t (xg_blk (b := [(108, 1, 12, 0, 1, 0)]) rfl) ?_
                  exact xg_e ⟨f12_84, w, ⟨rfl, rfl⟩, by omega, hI, xFr.rf⟩
                · refine xg_t (xg_cVr mX1_rowsOf (vs := [(0, wh)]) (rest := []) (rs := [(3, 0)]) (cn1 := 0) (sl1 := 0) rfl (hp71) rfl h3_25 rfl rfl rfl rfl rfl rfl rfl) ?_
                  refine xg_t (xg_astore (l1 := [(2, (2, 3)), (0, (2, 0)), (1, (0, wh))]) rfl rfl rfl) ?_
                  refine xg_t (xg_aload (va := (3, 0)) rfl rfl) ?_
                  refine xg_t (xg_ifnnF) ?_
                  refine xg_t (xg_bip) ?_
                  refine xg_t (xg_goto) ?_
                  refine xg_t (xg_blk (b := [(108, 1, 12, 0, 1, 0)]) rfl) ?_
                  exact xg_e ⟨4294967294, w, ⟨rfl, rfl⟩, by omega, hI, xFr.rf⟩
              · by_cases hc87 : wh = 12
                · refine xg_t (xg_swt (ks := [(5, 64), (6, 69), (7, 74), (8, 79), (9, 89), (10, 89), (11, 89), (12, 89), (13, 89), (14, 84)]) (u := wh) (z := 89) rfl rfl rfl xnm0 (xsw_n hc26 (xsw_n hc27 (xsw_n hc28 (xsw_n hc29 (xsw_n hc30 (xsw_n hc49 (xsw_n hc68 (xsw_y hc87))))))))) ?_
                  refine xg_t (xg_blk (b := [(89, 1, 0, 2, 0, 0), (90, 1, 2, 1, 0, 0), (91, 3, 13, 243, 8, 415), (94, 1, 27, 3, 0, 0), (95, 1, 0, 3, 0, 0), (96, 3, 44, 104, 0, 0), (99, 2, 4, 4294967294, 0, 0), (101, 3, 8, 108, 0, 0)]) rfl) ?_
                  refine xg_t (xg_aload (va := (2, 3)) rfl rfl) ?_
                  refine xg_t (xg_iload (va := (0, wh)) rfl rfl) ?_
                  obtain ⟨v88, hv89, hp90⟩ := rowsOf3 (d := d + 0) (bd := bd) (fc := fc) (rr := rr) (so := wh) (hI) (by omega)
                  rcases hv89 with rfl | rfl | rfl | rfl | rfl | rfl
                  · refine xg_t (xg_cVr mX1_rowsOf (vs := [(0, wh)]) (rest := []) (rs := [(2, 4)]) (cn1 := 0) (sl1 := 0) rfl (hp90) rfl h3_25 rfl rfl rfl rfl rfl rfl rfl) ?_
                    refine xg_t (xg_astore (l1 := [(2, (2, 3)), (0, (2, 0)), (1, (0, wh))]) rfl rfl rfl) ?_
                    refine xg_t (xg_aload (va := (2, 4)) rfl rfl) ?_
                    refine xg_t (xg_ifnnT) ?_
                    refine xg_t (xg_blk (b := [(104, 1, 0, 3, 0, 0), (105, 3, 1, 5, 3, 151)]) rfl) ?_
                    refine xg_t (xg_aload (va := (2, 4)) rfl rfl) ?_
                    obtain ⟨f4_91, h4_93, hb92⟩ := (hI 4 (by decide) : cp4 (wget w 4))
                    refine xg_t (xg_getf (va := (0, f4_91)) h4_93 rfl) ?_
                    refine xg_t (xg_blk (b := [(108, 1, 12, 0, 1, 0)]) rfl) ?_
                    exact xg_e ⟨f4_91, w, ⟨rfl, rfl⟩, by omega, hI, xFr.rf⟩
                  · refine xg_t (xg_cVr mX1_rowsOf (vs := [(0, wh)]) (rest := []) (rs := [(2, 6)]) (cn1 := 0) (sl1 := 0) rfl (hp90) rfl h3_25 rfl rfl rfl rfl rfl rfl rfl) ?_
                    refine xg_t (xg_astore (l1 := [(2, (2, 3)), (0, (2, 0)), (1, (0, wh))]) rfl rfl rfl) ?_
                    refine xg_t (xg_aload (va := (2, 6)) rfl rfl) ?_
                    refine xg_t (xg_ifnnT) ?_
                    refine xg_t (xg_blk (b := [(104, 1, 0, 3, 0, 0), (105, 3, 1, 5, 3, 151)]) rfl) ?_
                    refine xg_t (xg_aload (va := (2, 6)) rfl rfl) ?_
                    obtain ⟨f6_94, h6_96, hb95⟩ := (hI 6 (by decide) : cp6 (wget w 6))
                    refine xg_t (xg_getf (va := (0, f6_94)) h6_96 rfl) ?_
                    refine xg_t (xg_blk (b := [(108, 1, 12, 0, 1, 0)]) rfl) ?_
                    exact xg_e ⟨f6_94, w, ⟨rfl, rfl⟩, by omega, hI, xFr.rf⟩
                  · refine xg_t (xg_cVr mX1_rowsOf (vs := [(0, wh)]) (rest := []) (rs := [(2, 8)]) (cn1 := 0) (sl1 := 0) rfl (hp90) rfl h3_25 rfl rfl rfl rfl rfl rfl rfl) ?_
                    refine xg_t (xg_astore (l1 := [(2, (2, 3)), (0, (2, 0)), (1, (0, wh))]) rfl rfl rfl) ?_
                    refine xg_t (xg_aload (va := (2, 8)) rfl rfl) ?_
                    refine xg_t (xg_ifnnT) ?_
                    refine xg_t (xg_blk (b := [(104, 1, 0, 3, 0, 0), (105, 3, 1, 5, 3, 151)]) rfl) ?_
                    refine xg_t (xg_aload (va := (2, 8)) rfl rfl) ?_
                    obtain ⟨f8_97, h8_99, hb98⟩ := (hI 8 (by decide) : cp8 (wget w 8))
                    refine xg_t (xg_getf (va := (0, f8_97)) h8_99 rfl) ?_
                    refine xg_t (xg_blk (b := [(108, 1, 12, 0, 1, 0)]) rfl) ?_
                    exact xg_e ⟨f8_97, w, ⟨rfl, rfl⟩, by omega, hI, xFr.rf⟩
                  · refine xg_t (xg_cVr mX1_rowsOf (vs := [(0, wh)]) (rest := []) (rs := [(2, 10)]) (cn1 := 0) (sl1 := 0) rfl (hp90) rfl h3_25 rfl rfl rfl rfl rfl rfl rfl) ?_
                    refine xg_t (xg_astore (l1 := [(2, (2, 3)), (0, (2, 0)), (1, (0, wh))]) rfl rfl rfl) ?_
                    refine xg_t (xg_aload (va := (2, 10)) rfl rfl) ?_
                    refine xg_t (xg_ifnnT) ?_
                    refine xg_t (xg_blk (b := [(104, 1, 0, 3, 0, 0), (105, 3, 1, 5, 3, 151)]) rfl) ?_
                    refine xg_t (xg_aload (va := (2, 10)) rfl rfl) ?_
                    obtain ⟨f10_100, h10_102, hb101⟩ := (hI 10 (by decide) : cp10 (wget w 10))
                    refine xg_t (xg_getf (va := (0, f10_100)) h10_102 rfl) ?_
                    refine xg_t (xg_blk (b := [(108, 1, 12, 0, 1, 0)]) rfl) ?_
                    exact xg_e ⟨f10_100, w, ⟨rfl, rfl⟩, by omega, hI, xFr.rf⟩
                  · refine xg_t (xg_cVr mX1_rowsOf (vs := [(0, wh)]) (rest := []) (rs := [(2, 12)]) (cn1 := 0) (sl1 := 0) rfl (hp90) rfl h3_25 rfl rfl rfl rfl rfl rfl rfl) ?_
                    refine xg_t (xg_astore (l1 := [(2, (2, 3)), (0, (2, 0)), (1, (0, wh))]) rfl rfl rfl) ?_
                    refine xg_t (xg_aload (va := (2, 12)) rfl rfl) ?_
                    refine xg_t (xg_ifnnT) ?_
                    refine xg_t (xg_blk (b := [(104, 1, 0, 3, 0, 0), (105, 3, 1, 5, 3, 151)]) rfl) ?_
                    refine xg_t (xg_aload (va := (2, 12)) rfl rfl) ?_
                    obtain ⟨f12_103, h12_105, hb104⟩ := (hI 12 (by decide) : cp12 (wget w 12))
                    refine xg_t (xg_getf (va := (0, f12_103)) h12_105 rfl) ?_
                    refine xg_t (xg_blk (b := [(108, 1, 12, 0, 1, 0)]) rfl) ?_
                    exact xg_e ⟨f12_103, w, ⟨rfl, rfl⟩, by omega, hI, xFr.rf⟩
                  · refine xg_t (xg_cVr mX1_rowsOf (vs := [(0, wh)]) (rest := []) (rs := [(3, 0)]) (cn1 := 0) (sl1 := 0) rfl (hp90) rfl h3_25 rfl rfl rfl rfl rfl rfl rfl) ?_
                    refine xg_t (xg_astore (l1 := [(2, (2, 3)), (0, (2, 0)), (1, (0, wh))]) rfl rfl rfl) ?_
                    refine xg_t (xg_aload (va := (3, 0)) rfl rfl) ?_
                    refine xg_t (xg_ifnnF) ?_
                    refine xg_t (xg_bip) ?_
                    refine xg_t (xg_goto) ?_
                    refine xg_t (xg_blk (b := [(108, 1, 12, 0, 1, 0)]) rfl) ?_
                    exact xg_e ⟨4294967294, w, ⟨rfl, rfl⟩, by omega, hI, xFr.rf⟩
                · by_cases hc106 : wh = 13
                  · refine xg_t (xg_swt (ks := [(5, 64), (6, 69), (7, 74), (8, 79), (9, 89), (10, 89), (11, 89), (12, 89), (13, 89), (14, 84)]) (u := wh) (z := 89) rfl rfl rfl xnm0 (xsw_n hc26 (xsw_n hc27 (xsw_n hc28 (xsw_n hc29 (xsw_n hc30 (xsw_n hc49 (xsw_n hc68 (xsw_n hc87 (xsw_y hc106)))))))))) ?_
                    refine xg_t (xg_blk (b := [(89, 1, 0, 2, 0, 0), (90, 1, 2, 1, 0, 0), (91, 3, 13, 243, 8, 415), (94, 1, 27, 3, 0, 0), (95, 1, 0, 3, 0, 0), (96, 3, 44, 104, 0, 0), (99, 2, 4, 4294967294, 0, 0), (101, 3, 8, 108, 0, 0)]) rfl) ?_
                    refine xg_t (xg_aload (va := (2, 3)) rfl rfl) ?_
                    refine xg_t (xg_iload (va := (0, wh)) rfl rfl) ?_
                    obtain ⟨v107, hv108, hp109⟩ := rowsOf3 (d := d + 0) (bd := bd) (fc := fc) (rr := rr) (so := wh) (hI) (by omega)
                    rcases hv108 with rfl | rfl | rfl | rfl | rfl | rfl
                    · refine xg_t (xg_cVr mX1_rowsOf (vs := [(0, wh)]) (rest := []) (rs := [(2, 4)]) (cn1 := 0) (sl1 := 0) rfl (hp109) rfl h3_25 rfl rfl rfl rfl rfl rfl rfl) ?_
                      refine xg_t (xg_astore (l1 := [(2, (2, 3)), (0, (2, 0)), (1, (0, wh))]) rfl rfl rfl) ?_
                      refine xg_t (xg_aload (va := (2, 4)) rfl rfl) ?_
                      refine xg_t (xg_ifnnT) ?_
                      refine xg_t (xg_blk (b := [(104, 1, 0, 3, 0, 0), (105, 3, 1, 5, 3, 151)]) rfl) ?_
                      refine xg_t (xg_aload (va := (2, 4)) rfl rfl) ?_
                      obtain ⟨f4_110, h4_112, hb111⟩ := (hI 4 (by decide) : cp4 (wget w 4))
                      refine xg_t (xg_getf (va := (0, f4_110)) h4_112 rfl) ?_
                      refine xg_t (xg_blk (b := [(108, 1, 12, 0, 1, 0)]) rfl) ?_
                      exact xg_e ⟨f4_110, w, ⟨rfl, rfl⟩, by omega, hI, xFr.rf⟩
                    · refine xg_t (xg_cVr mX1_rowsOf (vs := [(0, wh)]) (rest := []) (rs := [(2, 6)]) (cn1 := 0) (sl1 := 0) rfl (hp109) rfl h3_25 rfl rfl rfl rfl rfl rfl rfl) ?_
                      refine xg_t (xg_astore (l1 := [(2, (2, 3)), (0, (2, 0)), (1, (0, wh))]) rfl rfl rfl) ?_
                      refine xg_t (xg_aload (va := (2, 6)) rfl rfl) ?_
                      refine xg_t (xg_ifnnT) ?_
                      refine xg_t (xg_blk (b := [(104, 1, 0, 3, 0, 0), (105, 3, 1, 5, 3, 151)]) rfl) ?_
                      refine xg_t (xg_aload (va := (2, 6)) rfl rfl) ?_
                      obtain ⟨f6_113, h6_115, hb114⟩ := (hI 6 (by decide) : cp6 (wget w 6))
                      refine xg_t (xg_getf (va := (0, f6_113)) h6_115 rfl) ?_
                      refine xg_t (xg_blk (b := [(108, 1, 12, 0, 1, 0)]) rfl) ?_
                      exact xg_e ⟨f6_113, w, ⟨rfl, rfl⟩, by omega, hI, xFr.rf⟩
                    · refine xg_t (xg_cVr mX1_rowsOf (vs := [(0, wh)]) (rest := []) (rs := [(2, 8)]) (cn1 := 0) (sl1 := 0) rfl (hp109) rfl h3_25 rfl rfl rfl rfl rfl rfl rfl) ?_
                      refine xg_t (xg_astore (l1 := [(2, (2, 3)), (0, (2, 0)), (1, (0, wh))]) rfl rfl rfl) ?_
                      refine xg_t (xg_aload (va := (2, 8)) rfl rfl) ?_
                      refine xg_t (xg_ifnnT) ?_
                      refine xg_t (xg_blk (b := [(104, 1, 0, 3, 0, 0), (105, 3, 1, 5, 3, 151)]) rfl) ?_
                      refine xg_t (xg_aload (va := (2, 8)) rfl rfl) ?_
                      obtain ⟨f8_116, h8_118, hb117⟩ := (hI 8 (by decide) : cp8 (wget w 8))
                      refine xg_t (xg_getf (va := (0, f8_116)) h8_118 rfl) ?_
                      refine xg_t (xg_blk (b := [(108, 1, 12, 0, 1, 0)]) rfl) ?_
                      exact xg_e ⟨f8_116, w, ⟨rfl, rfl⟩, by omega, hI, xFr.rf⟩
                    · refine xg_t (xg_cVr mX1_rowsOf (vs := [(0, wh)]) (rest := []) (rs := [(2, 10)]) (cn1 := 0) (sl1 := 0) rfl (hp109) rfl h3_25 rfl rfl rfl rfl rfl rfl rfl) ?_
                      refine xg_t (xg_astore (l1 := [(2, (2, 3)), (0, (2, 0)), (1, (0, wh))]) rfl rfl rfl) ?_
                      refine xg_t (xg_aload (va := (2, 10)) rfl rfl) ?_
                      refine xg_t (xg_ifnnT) ?_
                      refine xg_t (xg_blk (b := [(104, 1, 0, 3, 0, 0), (105, 3, 1, 5, 3, 151)]) rfl) ?_
                      refine xg_t (xg_aload (va := (2, 10)) rfl rfl) ?_
                      obtain ⟨f10_119, h10_121, hb120⟩ := (hI 10 (by decide) : cp10 (wget w 10))
                      refine xg_t (xg_getf (va := (0, f10_119)) h10_121 rfl) ?_
                      refine xg_t (xg_blk (b := [(108, 1, 12, 0, 1, 0)]) rfl) ?_
                      exact xg_e ⟨f10_119, w, ⟨rfl, rfl⟩, by omega, hI, xFr.rf⟩
                    · refine xg_t (xg_cVr mX1_rowsOf (vs := [(0, wh)]) (rest := []) (rs := [(2, 12)]) (cn1 := 0) (sl1 := 0) rfl (hp109) rfl h3_25 rfl rfl rfl rfl rfl rfl rfl) ?_
                      refine xg_t (xg_astore (l1 := [(2, (2, 3)), (0, (2, 0)), (1, (0, wh))]) rfl rfl rfl) ?_
                      refine xg_t (xg_aload (va := (2, 12)) rfl rfl) ?_
                      refine xg_t (xg_ifnnT) ?_
                      refine xg_t (xg_blk (b := [(104, 1, 0, 3, 0, 0), (105, 3, 1, 5, 3, 151)]) rfl) ?_
                      refine xg_t (xg_aload (va := (2, 12)) rfl rfl) ?_
                      obtain ⟨f12_122, h12_124, hb123⟩ := (hI 12 (by decide) : cp12 (wget w 12))
                      refine xg_t (xg_getf (va := (0, f12_122)) h12_124 rfl) ?_
                      refine xg_t (xg_blk (b := [(108, 1, 12, 0, 1, 0)]) rfl) ?_
                      exact xg_e ⟨f12_122, w, ⟨rfl, rfl⟩, by omega, hI, xFr.rf⟩
                    · refine xg_t (xg_cVr mX1_rowsOf (vs := [(0, wh)]) (rest := []) (rs := [(3, 0)]) (cn1 := 0) (sl1 := 0) rfl (hp109) rfl h3_25 rfl rfl rfl rfl rfl rfl rfl) ?_
                      refine xg_t (xg_astore (l1 := [(2, (2, 3)), (0, (2, 0)), (1, (0, wh))]) rfl rfl rfl) ?_
                      refine xg_t (xg_aload (va := (3, 0)) rfl rfl) ?_
                      refine xg_t (xg_ifnnF) ?_
                      refine xg_t (xg_bip) ?_
                      refine xg_t (xg_goto) ?_
                      refine xg_t (xg_blk (b := [(108, 1, 12, 0, 1, 0)]) rfl) ?_
                      exact xg_e ⟨4294967294, w, ⟨rfl, rfl⟩, by omega, hI, xFr.rf⟩
                  · by_cases hc125 : wh = 14
                    · refine xg_t (xg_swt (ks := [(5, 64), (6, 69), (7, 74), (8, 79), (9, 89), (10, 89), (11, 89), (12, 89), (13, 89), (14, 84)]) (u := wh) (z := 84) rfl rfl rfl xnm0 (xsw_n hc26 (xsw_n hc27 (xsw_n hc28 (xsw_n hc29 (xsw_n hc30 (xsw_n hc49 (xsw_n hc68 (xsw_n hc87 (xsw_n hc106 (xsw_y hc125))))))))))) ?_
                      refine xg_t (xg_blk (b := [(84, 1, 0, 2, 0, 0), (85, 3, 1, 1, 9, 412), (88, 1, 12, 0, 1, 0)]) rfl) ?_
                      refine xg_t (xg_aload (va := (2, 3)) rfl rfl) ?_
                      refine xg_t (xg_getf (va := (0, f3_23)) h3_25 rfl) ?_
                      exact xg_e ⟨f3_23, w, ⟨rfl, rfl⟩, by omega, hI, xFr.rf⟩
                    · refine xg_t (xg_swt (ks := [(5, 64), (6, 69), (7, 74), (8, 79), (9, 89), (10, 89), (11, 89), (12, 89), (13, 89), (14, 84)]) (u := wh) (z := 89) rfl rfl rfl xnm0 (xsw_n hc26 (xsw_n hc27 (xsw_n hc28 (xsw_n hc29 (xsw_n hc30 (xsw_n hc49 (xsw_n hc68 (xsw_n hc87 (xsw_n hc106 (xsw_n hc125 (xsw_d)))))))))))) ?_
                      refine xg_t (xg_blk (b := [(89, 1, 0, 2, 0, 0), (90, 1, 2, 1, 0, 0), (91, 3, 13, 243, 8, 415), (94, 1, 27, 3, 0, 0), (95, 1, 0, 3, 0, 0), (96, 3, 44, 104, 0, 0), (99, 2, 4, 4294967294, 0, 0), (101, 3, 8, 108, 0, 0)]) rfl) ?_
                      refine xg_t (xg_aload (va := (2, 3)) rfl rfl) ?_
                      refine xg_t (xg_iload (va := (0, wh)) rfl rfl) ?_
                      obtain ⟨v126, hv127, hp128⟩ := rowsOf3 (d := d + 0) (bd := bd) (fc := fc) (rr := rr) (so := wh) (hI) (by omega)
                      rcases hv127 with rfl | rfl | rfl | rfl | rfl | rfl
                      · refine xg_t (xg_cVr mX1_rowsOf (vs := [(0, wh)]) (rest := []) (rs := [(2, 4)]) (cn1 := 0) (sl1 := 0) rfl (hp128) rfl h3_25 rfl rfl rfl rfl rfl rfl rfl) ?_
                        refine xg_t (xg_astore (l1 := [(2, (2, 3)), (0, (2, 0)), (1, (0, wh))]) rfl rfl rfl) ?_
                        refine xg_t (xg_aload (va := (2, 4)) rfl rfl) ?_
                        refine xg_t (xg_ifnnT) ?_
                        refine xg_t (xg_blk (b := [(104, 1, 0, 3, 0, 0), (105, 3, 1, 5, 3, 151)]) rfl) ?_
                        refine xg_t (xg_aload (va := (2, 4)) rfl rfl) ?_
                        obtain ⟨f4_129, h4_131, hb130⟩ := (hI 4 (by decide) : cp4 (wget w 4))
                        refine xg_t (xg_getf (va := (0, f4_129)) h4_131 rfl) ?_
                        refine xg_t (xg_blk (b := [(108, 1, 12, 0, 1, 0)]) rfl) ?_
                        exact xg_e ⟨f4_129, w, ⟨rfl, rfl⟩, by omega, hI, xFr.rf⟩
                      · refine xg_t (xg_cVr mX1_rowsOf (vs := [(0, wh)]) (rest := []) (rs := [(2, 6)]) (cn1 := 0) (sl1 := 0) rfl (hp128) rfl h3_25 rfl rfl rfl rfl rfl rfl rfl) ?_
                        refine xg_t (xg_astore (l1 := [(2, (2, 3)), (0, (2, 0)), (1, (0, wh))]) rfl rfl rfl) ?_
                        refine xg_t (xg_aload (va := (2, 6)) rfl rfl) ?_
                        refine xg_t (xg_ifnnT) ?_
                        refine xg_t (xg_blk (b := [(104, 1, 0, 3, 0, 0), (105, 3, 1, 5, 3, 151)]) rfl) ?_
                        refine xg_t (xg_aload (va := (2, 6)) rfl rfl) ?_
                        obtain ⟨f6_132, h6_134, hb133⟩ := (hI 6 (by decide) : cp6 (wget w 6))
                        refine xg_t (xg_getf (va := (0, f6_132)) h6_134 rfl) ?_
                        refine xg_t (xg_blk (b := [(108, 1, 12, 0, 1, 0)]) rfl) ?_
                        exact xg_e ⟨f6_132, w, ⟨rfl, rfl⟩, by omega, hI, xFr.rf⟩
                      · refine xg_t (xg_cVr mX1_rowsOf (vs := [(0, wh)]) (rest := []) (rs := [(2, 8)]) (cn1 := 0) (sl1 := 0) rfl (hp128) rfl h3_25 rfl rfl rfl rfl rfl rfl rfl) ?_
                        refine xg_t (xg_astore (l1 := [(2, (2, 3)), (0, (2, 0)), (1, (0, wh))]) rfl rfl rfl) ?_
                        refine xg_t (xg_aload (va := (2, 8)) rfl rfl) ?_
                        refine xg_t (xg_ifnnT) ?_
                        refine xg_t (xg_blk (b := [(104, 1, 0, 3, 0, 0), (105, 3, 1, 5, 3, 151)]) rfl) ?_
                        refine xg_t (xg_aload (va := (2, 8)) rfl rfl) ?_
                        obtain ⟨f8_135, h8_137, hb136⟩ := (hI 8 (by decide) : cp8 (wget w 8))
                        refine xg_t (xg_getf (va := (0, f8_135)) h8_137 rfl) ?_
                        refine xg_t (xg_blk (b := [(108, 1, 12, 0, 1, 0)]) rfl) ?_
                        exact xg_e ⟨f8_135, w, ⟨rfl, rfl⟩, by omega, hI, xFr.rf⟩
                      · refine xg_t (xg_cVr mX1_rowsOf (vs := [(0, wh)]) (rest := []) (rs := [(2, 10)]) (cn1 := 0) (sl1 := 0) rfl (hp128) rfl h3_25 rfl rfl rfl rfl rfl rfl rfl) ?_
                        refine xg_t (xg_astore (l1 := [(2, (2, 3)), (0, (2, 0)), (1, (0, wh))]) rfl rfl rfl) ?_
                        refine xg_t (xg_aload (va := (2, 10)) rfl rfl) ?_
                        refine xg_t (xg_ifnnT) ?_
                        refine xg_t (xg_blk (b := [(104, 1, 0, 3, 0, 0), (105, 3, 1, 5, 3, 151)]) rfl) ?_
                        refine xg_t (xg_aload (va := (2, 10)) rfl rfl) ?_
                        obtain ⟨f10_138, h10_140, hb139⟩ := (hI 10 (by decide) : cp10 (wget w 10))
                        refine xg_t (xg_getf (va := (0, f10_138)) h10_140 rfl) ?_
                        refine xg_t (xg_blk (b := [(108, 1, 12, 0, 1, 0)]) rfl) ?_
                        exact xg_e ⟨f10_138, w, ⟨rfl, rfl⟩, by omega, hI, xFr.rf⟩
                      · refine xg_t (xg_cVr mX1_rowsOf (vs := [(0, wh)]) (rest := []) (rs := [(2, 12)]) (cn1 := 0) (sl1 := 0) rfl (hp128) rfl h3_25 rfl rfl rfl rfl rfl rfl rfl) ?_
                        refine xg_t (xg_astore (l1 := [(2, (2, 3)), (0, (2, 0)), (1, (0, wh))]) rfl rfl rfl) ?_
                        refine xg_t (xg_aload (va := (2, 12)) rfl rfl) ?_
                        refine xg_t (xg_ifnnT) ?_
                        refine xg_t (xg_blk (b := [(104, 1, 0, 3, 0, 0), (105, 3, 1, 5, 3, 151)]) rfl) ?_
                        refine xg_t (xg_aload (va := (2, 12)) rfl rfl) ?_
                        obtain ⟨f12_141, h12_143, hb142⟩ := (hI 12 (by decide) : cp12 (wget w 12))
                        refine xg_t (xg_getf (va := (0, f12_141)) h12_143 rfl) ?_
                        refine xg_t (xg_blk (b := [(108, 1, 12, 0, 1, 0)]) rfl) ?_
                        exact xg_e ⟨f12_141, w, ⟨rfl, rfl⟩, by omega, hI, xFr.rf⟩
                      · refine xg_t (xg_cVr mX1_rowsOf (vs := [(0, wh)]) (rest := []) (rs := [(3, 0)]) (cn1 := 0) (sl1 := 0) rfl (hp128) rfl h3_25 rfl rfl rfl rfl rfl rfl rfl) ?_
                        refine xg_t (xg_astore (l1 := [(2, (2, 3)), (0, (2, 0)), (1, (0, wh))]) rfl rfl rfl) ?_
                        refine xg_t (xg_aload (va := (3, 0)) rfl rfl) ?_
                        refine xg_t (xg_ifnnF) ?_
                        refine xg_t (xg_bip) ?_
                        refine xg_t (xg_goto) ?_
                        refine xg_t (xg_blk (b := [(108, 1, 12, 0, 1, 0)]) rfl) ?_
                        exact xg_e ⟨4294967294, w, ⟨rfl, rfl⟩, by omega, hI, xFr.rf⟩
theorem scCount {wh : Nat} (hI : xInv w) (hwh : wh ≤ 4294967295) : xPi (d + 2) mX11_count [(2, 0), (0, wh)] w bd fc rr (fun n w' => (n ≤ 4294967295) ∧ xInv w' ∧ xFr [] w w') := by
  refine xPi.of ?_
  show xTo (d + 2) mX11_count (0, [], [(0, (2, 0)), (1, (0, wh))], [], (w, bd, fc, 0, 0, rr)) (fun φ => ∃ n w', xEnd 1 [(0, n)] (w', bd, fc, 0, 0, rr) φ ∧ (n ≤ 4294967295) ∧ xInv w' ∧ xFr [] w w')
  refine xg_t (xg_blk (b := [(0, 1, 2, 1, 0, 0), (1, 55, 33, 143, 0, 2)]) rfl) ?_
  refine xg_t (xg_iload (va := (0, wh)) rfl rfl) ?_
  by_cases hc1 : wh = 9
  · refine xg_t (xg_swt (ks := [(9, 56), (10, 67), (11, 78), (12, 86), (13, 94), (14, 143), (15, 102), (16, 113), (17, 124), (18, 135)]) (u := wh) (z := 56) rfl rfl rfl xnm0 (xsw_y hc1)) ?_
    refine xg_t (xg_blk (b := [(56, 1, 0, 0, 0, 0), (57, 3, 1, 11, 0, 10), (60, 3, 1, 9, 5, 195), (63, 3, 1, 5, 3, 151), (66, 1, 12, 0, 1, 0)]) rfl) ?_
    refine xg_t (xg_aload (va := (2, 0)) rfl rfl) ?_
    have h0_2 := (hI 0 (by decide) : cp0 (wget w 0))
    refine xg_t (xg_getf (va := (2, 1)) h0_2 rfl) ?_
    obtain ⟨f1_3, f1_5, f1_7, f1_9, f1_11, f1_13, h1_15, hb4, hb6, hb8, hb10, hb12, hb14⟩ := (hI 1 (by decide) : cp1 (wget w 1))
    refine xg_t (xg_getf (va := (2, 14)) h1_15 rfl) ?_
    obtain ⟨f14_16, h14_18, hb17⟩ := (hI 14 (by decide) : cp14 (wget w 14))
    refine xg_t (xg_getf (va := (0, f14_16)) h14_18 rfl) ?_
    exact xg_e ⟨f14_16, w, ⟨rfl, rfl⟩, by omega, hI, xFr.rf⟩
  · by_cases hc19 : wh = 10
    · refine xg_t (xg_swt (ks := [(9, 56), (10, 67), (11, 78), (12, 86), (13, 94), (14, 143), (15, 102), (16, 113), (17, 124), (18, 135)]) (u := wh) (z := 67) rfl rfl rfl xnm0 (xsw_n hc1 (xsw_y hc19))) ?_
      refine xg_t (xg_blk (b := [(67, 1, 0, 0, 0, 0), (68, 3, 1, 11, 0, 10), (71, 3, 1, 9, 8, 252), (74, 3, 1, 5, 3, 151), (77, 1, 12, 0, 1, 0)]) rfl) ?_
      refine xg_t (xg_aload (va := (2, 0)) rfl rfl) ?_
      have h0_20 := (hI 0 (by decide) : cp0 (wget w 0))
      refine xg_t (xg_getf (va := (2, 1)) h0_20 rfl) ?_
      obtain ⟨f1_21, f1_23, f1_25, f1_27, f1_29, f1_31, h1_33, hb22, hb24, hb26, hb28, hb30, hb32⟩ := (hI 1 (by decide) : cp1 (wget w 1))
      refine xg_t (xg_getf (va := (2, 16)) h1_33 rfl) ?_
      obtain ⟨f16_34, h16_36, hb35⟩ := (hI 16 (by decide) : cp16 (wget w 16))
      refine xg_t (xg_getf (va := (0, f16_34)) h16_36 rfl) ?_
      exact xg_e ⟨f16_34, w, ⟨rfl, rfl⟩, by omega, hI, xFr.rf⟩
    · by_cases hc37 : wh = 11
      · refine xg_t (xg_swt (ks := [(9, 56), (10, 67), (11, 78), (12, 86), (13, 94), (14, 143), (15, 102), (16, 113), (17, 124), (18, 135)]) (u := wh) (z := 78) rfl rfl rfl xnm0 (xsw_n hc1 (xsw_n hc19 (xsw_y hc37)))) ?_
        refine xg_t (xg_blk (b := [(78, 1, 0, 0, 0, 0), (79, 3, 1, 11, 0, 10), (82, 3, 1, 9, 6, 186), (85, 1, 12, 0, 1, 0)]) rfl) ?_
        refine xg_t (xg_aload (va := (2, 0)) rfl rfl) ?_
        have h0_38 := (hI 0 (by decide) : cp0 (wget w 0))
        refine xg_t (xg_getf (va := (2, 1)) h0_38 rfl) ?_
        obtain ⟨f1_39, f1_41, f1_43, f1_45, f1_47, f1_49, h1_51, hb40, hb42, hb44, hb46, hb48, hb50⟩ := (hI 1 (by decide) : cp1 (wget w 1))
        refine xg_t (xg_getf (va := (0, f1_45)) h1_51 rfl) ?_
        exact xg_e ⟨f1_45, w, ⟨rfl, rfl⟩, by omega, hI, xFr.rf⟩
      · by_cases hc52 : wh = 12
        · refine xg_t (xg_swt (ks := [(9, 56), (10, 67), (11, 78), (12, 86), (13, 94), (14, 143), (15, 102), (16, 113), (17, 124), (18, 135)]) (u := wh) (z := 86) rfl rfl rfl xnm0 (xsw_n hc1 (xsw_n hc19 (xsw_n hc37 (xsw_y hc52))))) ?_
          refine xg_t (xg_blk (b := [(86, 1, 0, 0, 0, 0), (87, 3, 1, 11, 0, 10), (90, 3, 1, 9, 7, 189), (93, 1, 12, 0, 1, 0)]) rfl) ?_
          refine xg_t (xg_aload (va := (2, 0)) rfl rfl) ?_
          have h0_53 := (hI 0 (by decide) : cp0 (wget w 0))
          refine xg_t (xg_getf (va := (2, 1)) h0_53 rfl) ?_
          obtain ⟨f1_54, f1_56, f1_58, f1_60, f1_62, f1_64, h1_66, hb55, hb57, hb59, hb61, hb63, hb65⟩ := (hI 1 (by decide) : cp1 (wget w 1))
          refine xg_t (xg_getf (va := (0, f1_62)) h1_66 rfl) ?_
          exact xg_e ⟨f1_62, w, ⟨rfl, rfl⟩, by omega, hI, xFr.rf⟩
        · by_cases hc67 : wh = 13
          · refine xg_t (xg_swt (ks := [(9, 56), (10, 67), (11, 78), (12, 86), (13, 94), (14, 143), (15, 102), (16, 113), (17, 124), (18, 135)]) (u := wh) (z := 94) rfl rfl rfl xnm0 (xsw_n hc1 (xsw_n hc19 (xsw_n hc37 (xsw_n hc52 (xsw_y hc67)))))) ?_
            refine xg_t (xg_blk (b := [(94, 1, 0, 0, 0, 0), (95, 3, 1, 11, 0, 10), (98, 3, 1, 9, 9, 273), (101, 1, 12, 0, 1, 0)]) rfl) ?_
            refine xg_t (xg_aload (va := (2, 0)) rfl rfl) ?_
            have h0_68 := (hI 0 (by decide) : cp0 (wget w 0))
            refine xg_t (xg_getf (va := (2, 1)) h0_68 rfl) ?_
            obtain ⟨f1_69, f1_71, f1_73, f1_75, f1_77, f1_79, h1_81, hb70, hb72, hb74, hb76, hb78, hb80⟩ := (hI 1 (by decide) : cp1 (wget w 1))
            refine xg_t (xg_getf (va := (0, f1_79)) h1_81 rfl) ?_
            exact xg_e ⟨f1_79, w, ⟨rfl, rfl⟩, by omega, hI, xFr.rf⟩
          · by_cases hc82 : wh = 14
            · refine xg_t (xg_swt (ks := [(9, 56), (10, 67), (11, 78), (12, 86), (13, 94), (14, 143), (15, 102), (16, 113), (17, 124), (18, 135)]) (u := wh) (z := 143) rfl rfl rfl xnm0 (xsw_n hc1 (xsw_n hc19 (xsw_n hc37 (xsw_n hc52 (xsw_n hc67 (xsw_y hc82))))))) ?_
              refine xg_t (xg_blk (b := [(143, 1, 0, 0, 0, 0), (144, 1, 2, 1, 0, 0), (145, 3, 13, 46, 88, 375), (148, 1, 12, 0, 1, 0)]) rfl) ?_
              refine xg_t (xg_aload (va := (2, 0)) rfl rfl) ?_
              refine xg_t (xg_iload (va := (0, wh)) rfl rfl) ?_
              have h0_83 := (hI 0 (by decide) : cp0 (wget w 0))
              refine xg_cVi mX11_countOfFilm (vs := [(0, wh)]) (rest := []) (cn1 := 0) (sl1 := 0) rfl (scCountOfFilm (hI) (by omega)) rfl h0_83 rfl rfl rfl rfl rfl rfl (fun n88 w84 hq85 => ?_)
              obtain ⟨hn89, hI86, hF87⟩ := hq85
              exact xg_e ⟨n88, w84, ⟨rfl, rfl⟩, by omega, hI86, (hF87.up (by decide))⟩
            · by_cases hc90 : wh = 15
              · refine xg_t (xg_swt (ks := [(9, 56), (10, 67), (11, 78), (12, 86), (13, 94), (14, 143), (15, 102), (16, 113), (17, 124), (18, 135)]) (u := wh) (z := 102) rfl rfl rfl xnm0 (xsw_n hc1 (xsw_n hc19 (xsw_n hc37 (xsw_n hc52 (xsw_n hc67 (xsw_n hc82 (xsw_y hc90)))))))) ?_
                refine xg_t (xg_blk (b := [(102, 1, 0, 0, 0, 0), (103, 3, 1, 11, 0, 10), (106, 3, 1, 9, 10, 316), (109, 3, 1, 5, 3, 151), (112, 1, 12, 0, 1, 0)]) rfl) ?_
                refine xg_t (xg_aload (va := (2, 0)) rfl rfl) ?_
                have h0_91 := (hI 0 (by decide) : cp0 (wget w 0))
                refine xg_t (xg_getf (va := (2, 1)) h0_91 rfl) ?_
                obtain ⟨f1_92, f1_94, f1_96, f1_98, f1_100, f1_102, h1_104, hb93, hb95, hb97, hb99, hb101, hb103⟩ := (hI 1 (by decide) : cp1 (wget w 1))
                refine xg_t (xg_getf (va := (2, 18)) h1_104 rfl) ?_
                obtain ⟨f18_105, h18_107, hb106⟩ := (hI 18 (by decide) : cp18 (wget w 18))
                refine xg_t (xg_getf (va := (0, f18_105)) h18_107 rfl) ?_
                exact xg_e ⟨f18_105, w, ⟨rfl, rfl⟩, by omega, hI, xFr.rf⟩
              · by_cases hc108 : wh = 16
                · refine xg_t (xg_swt (ks := [(9, 56), (10, 67), (11, 78), (12, 86), (13, 94), (14, 143), (15, 102), (16, 113), (17, 124), (18, 135)]) (u := wh) (z := 113) rfl rfl rfl xnm0 (xsw_n hc1 (xsw_n hc19 (xsw_n hc37 (xsw_n hc52 (xsw_n hc67 (xsw_n hc82 (xsw_n hc90 (xsw_y hc108))))))))) ?_
                  refine xg_t (xg_blk (b := [(113, 1, 0, 0, 0, 0), (114, 3, 1, 11, 0, 10), (117, 3, 1, 9, 11, 72), (120, 3, 1, 5, 3, 151), (123, 1, 12, 0, 1, 0)]) rfl) ?_
                  refine xg_t (xg_aload (va := (2, 0)) rfl rfl) ?_
                  have h0_109 := (hI 0 (by decide) : cp0 (wget w 0))
                  refine xg_t (xg_getf (va := (2, 1)) h0_109 rfl) ?_
                  obtain ⟨f1_110, f1_112, f1_114, f1_116, f1_118, f1_120, h1_122, hb111, hb113, hb115, hb117, hb119, hb121⟩ := (hI 1 (by decide) : cp1 (wget w 1))
                  refine xg_t (xg_getf (va := (2, 20)) h1_122 rfl) ?_
                  obtain ⟨f20_123, h20_125, hb124⟩ := (hI 20 (by decide) : cp20 (wget w 20))
                  refine xg_t (xg_getf (va := (0, f20_123)) h20_125 rfl) ?_
                  exact xg_e ⟨f20_123, w, ⟨rfl, rfl⟩, by omega, hI, xFr.rf⟩
                · by_cases hc126 : wh = 17
                  · refine xg_t (xg_swt (ks := [(9, 56), (10, 67), (11, 78), (12, 86), (13, 94), (14, 143), (15, 102), (16, 113), (17, 124), (18, 135)]) (u := wh) (z := 124) rfl rfl rfl xnm0 (xsw_n hc1 (xsw_n hc19 (xsw_n hc37 (xsw_n hc52 (xsw_n hc67 (xsw_n hc82 (xsw_n hc90 (xsw_n hc108 (xsw_y hc126)))))))))) ?_
                    refine xg_t (xg_blk (b := [(124, 1, 0, 0, 0, 0), (125, 3, 1, 11, 0, 10), (128, 3, 1, 9, 12, 367), (131, 3, 1, 5, 3, 151), (134, 1, 12, 0, 1, 0)]) rfl) ?_
                    refine xg_t (xg_aload (va := (2, 0)) rfl rfl) ?_
                    have h0_127 := (hI 0 (by decide) : cp0 (wget w 0))
                    refine xg_t (xg_getf (va := (2, 1)) h0_127 rfl) ?_
                    obtain ⟨f1_128, f1_130, f1_132, f1_134, f1_136, f1_138, h1_140, hb129, hb131, hb133, hb135, hb137, hb139⟩ := (hI 1 (by decide) : cp1 (wget w 1))
                    refine xg_t (xg_getf (va := (2, 22)) h1_140 rfl) ?_
                    obtain ⟨f22_141, h22_143, hb142⟩ := (hI 22 (by decide) : cp22 (wget w 22))
                    refine xg_t (xg_getf (va := (0, f22_141)) h22_143 rfl) ?_
                    exact xg_e ⟨f22_141, w, ⟨rfl, rfl⟩, by omega, hI, xFr.rf⟩
                  · by_cases hc144 : wh = 18
                    · refine xg_t (xg_swt (ks := [(9, 56), (10, 67), (11, 78), (12, 86), (13, 94), (14, 143), (15, 102), (16, 113), (17, 124), (18, 135)]) (u := wh) (z := 135) rfl rfl rfl xnm0 (xsw_n hc1 (xsw_n hc19 (xsw_n hc37 (xsw_n hc52 (xsw_n hc67 (xsw_n hc82 (xsw_n hc90 (xsw_n hc108 (xsw_n hc126 (xsw_y hc144))))))))))) ?_
                      refine xg_t (xg_blk (b := [(135, 1, 0, 0, 0, 0), (136, 3, 1, 11, 0, 10), (139, 3, 13, 323, 72, 216), (142, 1, 12, 0, 1, 0)]) rfl) ?_
                      refine xg_t (xg_aload (va := (2, 0)) rfl rfl) ?_
                      have h0_145 := (hI 0 (by decide) : cp0 (wget w 0))
                      refine xg_t (xg_getf (va := (2, 1)) h0_145 rfl) ?_
                      obtain ⟨f1_146, f1_148, f1_150, f1_152, f1_154, f1_156, h1_158, hb147, hb149, hb151, hb153, hb155, hb157⟩ := (hI 1 (by decide) : cp1 (wget w 1))
                      refine xg_cVi mX9_cracksInView (vs := []) (rest := []) (cn1 := 0) (sl1 := 0) rfl (tdCracksInView (hI)) rfl h1_158 rfl rfl rfl rfl rfl rfl (fun n163 w159 hq160 => ?_)
                      obtain ⟨hn164, hI161, hF162⟩ := hq160
                      exact xg_e ⟨n163, w159, ⟨rfl, rfl⟩, by omega, hI161, (hF162.up (by decide))⟩
                    · refine xg_t (xg_swt (ks := [(9, 56), (10, 67), (11, 78), (12, 86), (13, 94), (14, 143), (15, 102), (16, 113), (17, 124), (18, 135)]) (u := wh) (z := 143) rfl rfl rfl xnm0 (xsw_n hc1 (xsw_n hc19 (xsw_n hc37 (xsw_n hc52 (xsw_n hc67 (xsw_n hc82 (xsw_n hc90 (xsw_n hc108 (xsw_n hc126 (xsw_n hc144 (xsw_d)))))))))))) ?_
                      refine xg_t (xg_blk (b := [(143, 1, 0, 0, 0, 0), (144, 1, 2, 1, 0, 0), (145, 3, 13, 46, 88, 375), (148, 1, 12, 0, 1, 0)]) rfl) ?_
                      refine xg_t (xg_aload (va := (2, 0)) rfl rfl) ?_
                      refine xg_t (xg_iload (va := (0, wh)) rfl rfl) ?_
                      have h0_165 := (hI 0 (by decide) : cp0 (wget w 0))
                      refine xg_cVi mX11_countOfFilm (vs := [(0, wh)]) (rest := []) (cn1 := 0) (sl1 := 0) rfl (scCountOfFilm (hI) (by omega)) rfl h0_165 rfl rfl rfl rfl rfl rfl (fun n170 w166 hq167 => ?_)
                      obtain ⟨hn171, hI168, hF169⟩ := hq167
                      exact xg_e ⟨n170, w166, ⟨rfl, rfl⟩, by omega, hI168, (hF169.up (by decide))⟩
end XCO
end
