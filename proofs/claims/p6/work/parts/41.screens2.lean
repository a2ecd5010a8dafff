/-! the screens: calls, part two -/
section XSD
variable {d : Nat} {w : List (List xE)} {bd : List (Nat × Nat)} {fc : List (Nat × Nat × Bool)} {rr : Nat × Nat}
theorem scOrder {wh : Nat} (hI : xInv w) (hwh : wh ≤ 4294967295) : xPi (d + 5) mX11_order [(2, 0), (0, wh)] w bd fc rr (fun n w' => (n ≤ 4294967295) ∧ xInv w' ∧ xFr [49, 50, 51, 52, 53, 54, 55, 56, 57] w w') := by
  refine xPi.of ?_
  show xTo (d + 5) mX11_order (0, [], [(0, (2, 0)), (1, (0, wh))], [], (w, bd, fc, 0, 0, rr)) (fun φ => ∃ n w', xEnd 1 [(0, n)] (w', bd, fc, 0, 0, rr) φ ∧ (n ≤ 4294967295) ∧ xInv w' ∧ xFr [49, 50, 51, 52, 53, 54, 55, 56, 57] w w')
  have h0_1 := (xqc0 hI : cp0 (wget w 0))
  refine xoC1 (xqc1 hI : cp1 (wget w 1)) (fun f1_2 f1_4 f1_6 f1_8 f1_10 f1_12 h1_14 hb3 hb5 hb7 hb9 hb11 hb13 => ?_)
  refine xoC3 (xqc3 hI : cp3 (wget w 3)) (fun f3_15 f3_17 f3_19 f3_21 f3_23 h3_25 hb16 hb18 hb20 hb22 hb24 => ?_)
  obtain ⟨f4_26, h4_28, hb27⟩ := (xqc4 hI : cp4 (wget w 4))
  refine xoI (xqc5 hI : cpI 24 1 4294967295 (wget w 5)) (fun g5_29 h5_30 hb31 => ?_)
  refine xg_t (xg_blq rfl) ?_
  refine xg_t (xg_aload (va := (2, 0)) rfl rfl) ?_
  refine xg_t (xg_getf (va := (2, 1)) h0_1 rfl) ?_
  refine xg_t (xg_getf (va := (2, 3)) h1_14 rfl) ?_
  refine xg_t (xg_getf (va := (2, 4)) h3_25 rfl) ?_
  refine xg_t (xg_getf (va := (0, f4_26)) h4_28 rfl) ?_
  refine xg_t (xg_istore (l1 := [(0, (2, 0)), (1, (0, wh))]) rfl rfl rfl) ?_
  refine xg_t (xg_iload (va := (0, f4_26)) rfl rfl) ?_
  by_cases hc32 : f4_26 = 0
  · refine xg_t (xg_ifT (u := f4_26) rfl xnm0 (xj_eqT hc32)) ?_
    refine xg_t (xg_blq rfl) ?_
    refine xg_t (xg_const) ?_
    exact xg_e ⟨4294967295, w, ⟨rfl, rfl⟩, by first | decide | omega, hI, xFr.rf⟩
  · refine xg_t (xg_ifF (u := f4_26) rfl xnm0 (xj_eqF hc32)) ?_
    refine xg_t (xg_iload (va := (0, wh)) rfl rfl) ?_
    by_cases hc33 : wh < 2147483648
    · refine xg_t (xg_ifF (u := wh) rfl xnm0 (xjz_ltF hc33)) ?_
      refine xg_t (xg_iload (va := (0, wh)) rfl rfl) ?_
      refine xg_t (xg_iload (va := (0, f4_26)) rfl rfl) ?_
      by_cases hc34 : f4_26 < wh
      · refine xg_t (xg_icF (u := wh) (v := f4_26) rfl xnm0 xnm0 (xj_leF hc34 (by omega))) ?_
        refine xg_t (xg_blq rfl) ?_
        refine xg_t (xg_const) ?_
        exact xg_e ⟨4294967295, w, ⟨rfl, rfl⟩, by first | decide | omega, hI, xFr.rf⟩
      · refine xg_t (xg_icT (u := wh) (v := f4_26) rfl xnm0 xnm0 (xj_leT (by omega) (by omega))) ?_
        refine xg_t (xg_blq rfl) ?_
        refine xg_t (xg_aload (va := (2, 0)) rfl rfl) ?_
        refine xg_t (xg_getf (va := (2, 49)) h0_1 rfl) ?_
        refine xoC49 (xqc49 hI : cp49 (wget w 49)) (fun f49_35 f49_37 h49_39 hb36 hb38 => ?_)
        refine xg_cVv mX0_findOrder (vs := []) (rest := []) (cn1 := 0) (sl1 := 0) rfl (bdFind (hI)) rfl h49_39 rfl rfl rfl rfl rfl rfl (fun w40 hq41 => ?_)
        obtain ⟨hI42, hF43⟩ := hq41
        refine xg_t (xg_iload (va := (0, wh)) rfl rfl) ?_
        by_cases hc44 : wh = 0
        · refine xg_t (xg_ifF (u := wh) rfl xnm0 (xj_neF hc44)) ?_
          refine xg_t (xg_aload (va := (2, 0)) rfl rfl) ?_
          refine xg_t (xg_getf (va := (2, 49)) (hF43.get (by decide) h0_1) rfl) ?_
          refine xoC49 (xqc49 hI42 : cp49 (wget w40 49)) (fun f49_45 f49_47 h49_49 hb46 hb48 => ?_)
          refine xg_t (xg_getf (va := (0, f49_45)) h49_49 rfl) ?_
          refine xg_t (xg_goto) ?_
          refine xg_t (xg_blq rfl) ?_
          exact xg_e ⟨f49_45, w40, ⟨rfl, rfl⟩, by omega, hI42, (hF43.up (by decide))⟩
        · refine xg_t (xg_ifT (u := wh) rfl xnm0 (xj_neT hc44)) ?_
          refine xg_t (xg_blq rfl) ?_
          refine xg_t (xg_aload (va := (2, 0)) rfl rfl) ?_
          refine xg_t (xg_getf (va := (2, 49)) (hF43.get (by decide) h0_1) rfl) ?_
          refine xoC49 (xqc49 hI42 : cp49 (wget w40 49)) (fun f49_50 f49_52 h49_54 hb51 hb53 => ?_)
          refine xg_t (xg_getf (va := (2, 57)) h49_54 rfl) ?_
          refine xg_t (xg_iload (va := (0, wh)) rfl rfl) ?_
          refine xg_t (xg_const) ?_
          refine xg_t (xg_isub (u := wh) (v := 1) (z := wh - 1) xnm0 xnm0 (by omega)) ?_
          refine xoI (xqc57 hI42 : cpI 6 30 4294967295 (wget w40 57)) (fun g57_55 h57_56 hb57 => ?_)
          refine xg_ialdB (n := wh - 1) (B := 4294967295) h57_56 (hb57) xnm0 (by omega) (fun u58 hu59 he60 => ?_)
          refine xg_t (xg_blq rfl) ?_
          exact xg_e ⟨u58, w40, ⟨rfl, rfl⟩, by omega, hI42, (hF43.up (by decide))⟩
    · refine xg_t (xg_ifT (u := wh) rfl xnm0 (xjz_ltT (by omega) (by omega))) ?_
      refine xg_t (xg_blq rfl) ?_
      refine xg_t (xg_const) ?_
      exact xg_e ⟨4294967295, w, ⟨rfl, rfl⟩, by first | decide | omega, hI, xFr.rf⟩
theorem scTired {la nn : Nat} (hI : xInv w) (hla : la ≤ 4294967295) (hnn : nn ≤ 4294967295) : xPi (d + 4) mX11_tired [(2, 0), (0, la), (0, nn)] w bd fc rr (fun n w' => (n ≤ 4294967295) ∧ xInv w' ∧ xFr [50, 51, 52, 53, 54, 55, 56] w w') := by
  refine xPi.of ?_
  show xTo (d + 4) mX11_tired (0, [], [(0, (2, 0)), (1, (0, la)), (2, (0, nn))], [], (w, bd, fc, 0, 0, rr)) (fun φ => ∃ n w', xEnd 1 [(0, n)] (w', bd, fc, 0, 0, rr) φ ∧ (n ≤ 4294967295) ∧ xInv w' ∧ xFr [50, 51, 52, 53, 54, 55, 56] w w')
  have h0_1 := (xqc0 hI : cp0 (wget w 0))
  refine xoC1 (xqc1 hI : cp1 (wget w 1)) (fun f1_2 f1_4 f1_6 f1_8 f1_10 f1_12 h1_14 hb3 hb5 hb7 hb9 hb11 hb13 => ?_)
  refine xoC3 (xqc3 hI : cp3 (wget w 3)) (fun f3_15 f3_17 f3_19 f3_21 f3_23 h3_25 hb16 hb18 hb20 hb22 hb24 => ?_)
  obtain ⟨f4_26, h4_28, hb27⟩ := (xqc4 hI : cp4 (wget w 4))
  refine xoI (xqc5 hI : cpI 24 1 4294967295 (wget w 5)) (fun g5_29 h5_30 hb31 => ?_)
  obtain ⟨f8_32, h8_34, hb33⟩ := (xqc8 hI : cp8 (wget w 8))
  refine xoI (xqc9 hI : cpI 12 3 4294967295 (wget w 9)) (fun g9_35 h9_36 hb37 => ?_)
  refine xg_t (xg_blq rfl) ?_
  refine xg_t (xg_aload (va := (2, 0)) rfl rfl) ?_
  refine xg_t (xg_getf (va := (2, 1)) h0_1 rfl) ?_
  refine xg_t (xg_getf (va := (2, 3)) h1_14 rfl) ?_
  refine xg_t (xg_getf (va := (2, 8)) h3_25 rfl) ?_
  refine xg_t (xg_astore (l1 := [(0, (2, 0)), (1, (0, la)), (2, (0, nn))]) rfl rfl rfl) ?_
  refine xg_t (xg_aload (va := (2, 0)) rfl rfl) ?_
  refine xg_t (xg_getf (va := (2, 1)) h0_1 rfl) ?_
  refine xg_t (xg_getf (va := (2, 3)) h1_14 rfl) ?_
  refine xg_t (xg_getf (va := (2, 4)) h3_25 rfl) ?_
  refine xg_t (xg_iload (va := (0, la)) rfl rfl) ?_
  refine xg_t (xg_cVr mX5_has (vs := [(0, la)]) (rest := []) (rs := [(0, if la < f4_26 then 1 else 0)]) (cn1 := 0) (sl1 := 0) rfl (rhas_ok h4_28 (by decide) (by omega) (by omega)) rfl h4_28 rfl rfl rfl rfl rfl rfl rfl) ?_
  by_cases hc38 : la < f4_26
  · refine xg_t (xg_ifF (u := (if la < f4_26 then 1 else 0)) rfl xnm0 (xj_eqF (xite1 hc38))) ?_
    refine xg_t (xg_iload (va := (0, nn)) rfl rfl) ?_
    by_cases hc39 : nn < 2147483648
    · refine xg_t (xg_ifF (u := nn) rfl xnm0 (xjz_ltF hc39)) ?_
      refine xg_t (xg_iload (va := (0, nn)) rfl rfl) ?_
      refine xg_t (xg_aload (va := (2, 8)) rfl rfl) ?_
      refine xg_t (xg_getf (va := (0, f8_32)) h8_34 rfl) ?_
      by_cases hc40 : f8_32 < nn
      · refine xg_t (xg_icF (u := nn) (v := f8_32) rfl xnm0 xnm0 (xj_leF hc40 (by omega))) ?_
        refine xg_t (xg_blq rfl) ?_
        refine xg_t (xg_const) ?_
        exact xg_e ⟨4294967295, w, ⟨rfl, rfl⟩, by first | decide | omega, hI, xFr.rf⟩
      · refine xg_t (xg_icT (u := nn) (v := f8_32) rfl xnm0 xnm0 (xj_leT (by omega) (by omega))) ?_
        refine xg_t (xg_blq rfl) ?_
        refine xg_t (xg_aload (va := (2, 0)) rfl rfl) ?_
        refine xg_t (xg_getf (va := (2, 49)) h0_1 rfl) ?_
        refine xoC49 (xqc49 hI : cp49 (wget w 49)) (fun f49_41 f49_43 h49_45 hb42 hb44 => ?_)
        refine xg_cVv mX0_layAsTold (vs := []) (rest := []) (cn1 := 0) (sl1 := 0) rfl (bdLayAsTold (hI)) rfl h49_45 rfl rfl rfl rfl rfl rfl (fun w46 hq47 => ?_)
        obtain ⟨hI48, hF49⟩ := hq47
        refine xg_t (xg_aload (va := (2, 0)) rfl rfl) ?_
        refine xg_t (xg_getf (va := (2, 49)) (hF49.get (by decide) h0_1) rfl) ?_
        refine xg_cVv mX0_restWear (vs := []) (rest := []) (cn1 := 0) (sl1 := 0) rfl (bdRest (hI48)) rfl (hF49.get (by decide) h49_45) rfl rfl rfl rfl rfl rfl (fun w50 hq51 => ?_)
        obtain ⟨hI52, hF53⟩ := hq51
        refine xg_t (xg_const) ?_
        refine xg_t (xg_istore (l1 := [(3, (2, 8)), (0, (2, 0)), (1, (0, la)), (2, (0, nn))]) rfl rfl rfl) ?_
        refine xg_t (xg_drop (l1 := [(0, (2, 0)), (1, (0, la)), (2, (0, nn)), (3, (2, 8)), (4, (0, 0))]) (List.forall_mem_cons.mpr ⟨List.mem_cons_of_mem _ (List.mem_cons_of_mem _ (List.mem_cons_self)), List.forall_mem_cons.mpr ⟨List.mem_cons_of_mem _ (List.mem_cons_of_mem _ (List.mem_cons_of_mem _ (List.mem_cons_self))), List.forall_mem_cons.mpr ⟨List.mem_cons_of_mem _ (List.mem_cons_of_mem _ (List.mem_cons_of_mem _ (List.mem_cons_of_mem _ (List.mem_cons_self)))), List.forall_mem_cons.mpr ⟨List.mem_cons_of_mem _ (List.mem_cons_self), List.forall_mem_cons.mpr ⟨List.mem_cons_self, fun _ h => absurd h List.not_mem_nil⟩⟩⟩⟩⟩)) ?_
        have key54 : ∀ (m56 : Nat) (ki : Nat) (w57 : List (List xE)), 6 - ki < m56 → ki ≤ 6 → xInv w57 → xFr [50, 51, 52, 53, 54, 55, 56] w w57 → xTo (d + 4) mX11_tired (59, [], [(0, (2, 0)), (1, (0, la)), (2, (0, nn)), (3, (2, 8)), (4, (0, ki))], [], (w57, bd, fc, 0, 0, rr)) (fun φ => ∃ n w', xEnd 1 [(0, n)] (w', bd, fc, 0, 0, rr) φ ∧ (n ≤ 4294967295) ∧ xInv w' ∧ xFr [50, 51, 52, 53, 54, 55, 56] w w') := by
          intro m56
          induction m56 with
          | zero => intro ki w57 hz; exact absurd hz (Nat.not_lt_zero _)
          | succ m56 ih55 =>
            intro ki w57 hm61 hn60 hI58 hF59
            refine xg_t (xg_blq rfl) ?_
            refine xg_t (xg_iload (va := (0, ki)) rfl rfl) ?_
            refine xg_t (xg_iload (va := (0, nn)) rfl rfl) ?_
            by_cases hc62 : ki < nn
            · refine xg_t (xg_icF (u := ki) (v := nn) rfl xnm0 xnm0 (xj_geF hc62 (by omega))) ?_
              refine xg_t (xg_aload (va := (2, 0)) rfl rfl) ?_
              refine xg_t (xg_getf (va := (2, 49)) (hF59.get (by decide) h0_1) rfl) ?_
              refine xg_t (xg_iload (va := (0, la)) rfl rfl) ?_
              refine xg_t (xg_aload (va := (2, 8)) rfl rfl) ?_
              refine xg_t (xg_iload (va := (0, ki)) rfl rfl) ?_
              refine xg_t (xg_const) ?_
              refine xg_k (xg_cVr mX5_get (vs := [(0, ki), (0, 0)]) (rest := [(0, la), (2, 49)]) (rs := [(0, if ki < f8_32 ∧ 0 < 2 then g9_35 (ki * 2 + 0) else 4294967295), (0, la), (2, 49)]) (cn1 := 0) (sl1 := 0) rfl (rget_ok (lim := 6) (wd := 2) (sz := f8_32) (hF59.get (by decide) h8_34) (h9_36.fr hF59 (by decide)) (by decide) (by omega) (by decide) (by decide) (by omega) (by omega)) rfl (hF59.get (by decide) h8_34) rfl rfl rfl rfl rfl rfl rfl) (xiteb (hb37)) (fun z63 hz64 => ?_)
              refine xg_kl (xg_i2l (u := z63) xnm0) (fun l65 => ?_)
              refine xg_t (xg_aload (va := (2, 8)) rfl rfl) ?_
              refine xg_t (xg_iload (va := (0, ki)) rfl rfl) ?_
              refine xg_t (xg_const) ?_
              refine xg_k (xg_cVr mX5_get (vs := [(0, ki), (0, 1)]) (rest := [(4, l65), (0, la), (2, 49)]) (rs := [(0, if ki < f8_32 ∧ 1 < 2 then g9_35 (ki * 2 + 1) else 4294967295), (4, l65), (0, la), (2, 49)]) (cn1 := 0) (sl1 := 0) rfl (rget_ok (lim := 6) (wd := 2) (sz := f8_32) (hF59.get (by decide) h8_34) (h9_36.fr hF59 (by decide)) (by decide) (by omega) (by decide) (by decide) (by omega) (by omega)) rfl (hF59.get (by decide) h8_34) rfl rfl rfl rfl rfl rfl rfl) (xiteb (hb37)) (fun z66 hz67 => ?_)
              refine xg_cVv mX0_wear (vs := [(0, la), (4, l65), (0, z66)]) (rest := []) (cn1 := 0) (sl1 := 0) rfl (bdWear (hI58) (by omega) (by omega)) rfl (hF59.get (by decide) h49_45) rfl rfl rfl rfl rfl rfl (fun w68 hq69 => ?_)
              obtain ⟨hI70, hF71⟩ := hq69
              refine xg_t (xg_iinc (u := ki) (z := ki + 1) (l1 := [(0, (2, 0)), (1, (0, la)), (2, (0, nn)), (3, (2, 8))]) rfl rfl (by omega) rfl) ?_
              refine xg_t (xg_goto) ?_
              refine xg_t (xg_drop (l1 := [(0, (2, 0)), (1, (0, la)), (2, (0, nn)), (3, (2, 8)), (4, (0, ki + 1))]) (List.forall_mem_cons.mpr ⟨List.mem_cons_of_mem _ (List.mem_cons_self), List.forall_mem_cons.mpr ⟨List.mem_cons_of_mem _ (List.mem_cons_of_mem _ (List.mem_cons_self)), List.forall_mem_cons.mpr ⟨List.mem_cons_of_mem _ (List.mem_cons_of_mem _ (List.mem_cons_of_mem _ (List.mem_cons_self))), List.forall_mem_cons.mpr ⟨List.mem_cons_of_mem _ (List.mem_cons_of_mem _ (List.mem_cons_of_mem _ (List.mem_cons_of_mem _ (List.mem_cons_self)))), List.forall_mem_cons.mpr ⟨List.mem_cons_self, fun _ h => absurd h List.not_mem_nil⟩⟩⟩⟩⟩)) ?_
              exact ih55 (ki + 1) w68 (by omega) (by omega) (hI70) ((hF59.tr (hF71.up (by decide))))
            · refine xg_t (xg_icT (u := ki) (v := nn) rfl xnm0 xnm0 (xj_geT (by omega) (by omega))) ?_
              refine xg_t (xg_blq rfl) ?_
              refine xg_t (xg_aload (va := (2, 0)) rfl rfl) ?_
              refine xg_t (xg_getf (va := (2, 49)) (hF59.get (by decide) h0_1) rfl) ?_
              refine xg_cVi mX0_wornThousandths (vs := []) (rest := []) (cn1 := 0) (sl1 := 0) rfl (bdWornTh (hI58)) rfl (hF59.get (by decide) h49_45) rfl rfl rfl rfl rfl rfl (fun n76 w72 hq73 => ?_)
              obtain ⟨hn77, hI74, hF75⟩ := hq73
              exact xg_e ⟨n76, w72, ⟨rfl, rfl⟩, by omega, hI74, (hF59.tr (hF75.up (by decide)))⟩
        exact key54 _ 0 w50 (Nat.lt_succ_self _) (by omega) (hI52) (((hF49.up (by decide)).tr (hF53.up (by decide))))
    · refine xg_t (xg_ifT (u := nn) rfl xnm0 (xjz_ltT (by omega) (by omega))) ?_
      refine xg_t (xg_blq rfl) ?_
      refine xg_t (xg_const) ?_
      exact xg_e ⟨4294967295, w, ⟨rfl, rfl⟩, by first | decide | omega, hI, xFr.rf⟩
  · refine xg_t (xg_ifT (u := (if la < f4_26 then 1 else 0)) rfl xnm0 (xj_eqT (xite0 hc38))) ?_
    refine xg_t (xg_blq rfl) ?_
    refine xg_t (xg_const) ?_
    exact xg_e ⟨4294967295, w, ⟨rfl, rfl⟩, by first | decide | omega, hI, xFr.rf⟩
theorem scCracks {la : Nat} (hI : xInv w) (hla : la ≤ 4294967295) : xPi (d + 4) mX11_cracks [(2, 0), (0, la)] w bd fc rr (fun n w' => (n ≤ 4294967295) ∧ xInv w' ∧ xFr [50, 51, 52, 53, 54, 55, 56] w w') := by
  refine xPi.of ?_
  show xTo (d + 4) mX11_cracks (0, [], [(0, (2, 0)), (1, (0, la))], [], (w, bd, fc, 0, 0, rr)) (fun φ => ∃ n w', xEnd 1 [(0, n)] (w', bd, fc, 0, 0, rr) φ ∧ (n ≤ 4294967295) ∧ xInv w' ∧ xFr [50, 51, 52, 53, 54, 55, 56] w w')
  have h0_1 := (xqc0 hI : cp0 (wget w 0))
  refine xoC1 (xqc1 hI : cp1 (wget w 1)) (fun f1_2 f1_4 f1_6 f1_8 f1_10 f1_12 h1_14 hb3 hb5 hb7 hb9 hb11 hb13 => ?_)
  refine xoC3 (xqc3 hI : cp3 (wget w 3)) (fun f3_15 f3_17 f3_19 f3_21 f3_23 h3_25 hb16 hb18 hb20 hb22 hb24 => ?_)
  obtain ⟨f4_26, h4_28, hb27⟩ := (xqc4 hI : cp4 (wget w 4))
  refine xoI (xqc5 hI : cpI 24 1 4294967295 (wget w 5)) (fun g5_29 h5_30 hb31 => ?_)
  obtain ⟨f8_32, h8_34, hb33⟩ := (xqc8 hI : cp8 (wget w 8))
  refine xoI (xqc9 hI : cpI 12 3 4294967295 (wget w 9)) (fun g9_35 h9_36 hb37 => ?_)
  refine xg_t (xg_blq rfl) ?_
  refine xg_t (xg_aload (va := (2, 0)) rfl rfl) ?_
  refine xg_t (xg_getf (va := (2, 1)) h0_1 rfl) ?_
  refine xg_t (xg_getf (va := (2, 3)) h1_14 rfl) ?_
  refine xg_t (xg_getf (va := (2, 8)) h3_25 rfl) ?_
  refine xg_t (xg_astore (l1 := [(0, (2, 0)), (1, (0, la))]) rfl rfl rfl) ?_
  refine xg_t (xg_aload (va := (2, 0)) rfl rfl) ?_
  refine xg_t (xg_getf (va := (2, 1)) h0_1 rfl) ?_
  refine xg_t (xg_getf (va := (2, 3)) h1_14 rfl) ?_
  refine xg_t (xg_getf (va := (2, 4)) h3_25 rfl) ?_
  refine xg_t (xg_iload (va := (0, la)) rfl rfl) ?_
  refine xg_t (xg_cVr mX5_has (vs := [(0, la)]) (rest := []) (rs := [(0, if la < f4_26 then 1 else 0)]) (cn1 := 0) (sl1 := 0) rfl (rhas_ok h4_28 (by decide) (by omega) (by omega)) rfl h4_28 rfl rfl rfl rfl rfl rfl rfl) ?_
  by_cases hc38 : la < f4_26
  · refine xg_t (xg_ifT (u := (if la < f4_26 then 1 else 0)) rfl xnm0 (xj_neT (xite1 hc38))) ?_
    refine xg_t (xg_blq rfl) ?_
    refine xg_t (xg_aload (va := (2, 0)) rfl rfl) ?_
    refine xg_t (xg_getf (va := (2, 49)) h0_1 rfl) ?_
    refine xoC49 (xqc49 hI : cp49 (wget w 49)) (fun f49_39 f49_41 h49_43 hb40 hb42 => ?_)
    refine xg_cVv mX0_layAsTold (vs := []) (rest := []) (cn1 := 0) (sl1 := 0) rfl (bdLayAsTold (hI)) rfl h49_43 rfl rfl rfl rfl rfl rfl (fun w44 hq45 => ?_)
    obtain ⟨hI46, hF47⟩ := hq45
    refine xg_t (xg_aload (va := (2, 0)) rfl rfl) ?_
    refine xg_t (xg_getf (va := (2, 49)) (hF47.get (by decide) h0_1) rfl) ?_
    refine xg_cVv mX0_restWear (vs := []) (rest := []) (cn1 := 0) (sl1 := 0) rfl (bdRest (hI46)) rfl (hF47.get (by decide) h49_43) rfl rfl rfl rfl rfl rfl (fun w48 hq49 => ?_)
    obtain ⟨hI50, hF51⟩ := hq49
    refine xg_t (xg_const) ?_
    refine xg_t (xg_istore (l1 := [(2, (2, 8)), (0, (2, 0)), (1, (0, la))]) rfl rfl rfl) ?_
    refine xg_t (xg_drop (l1 := [(0, (2, 0)), (1, (0, la)), (2, (2, 8)), (3, (0, 0))]) (List.forall_mem_cons.mpr ⟨List.mem_cons_of_mem _ (List.mem_cons_of_mem _ (List.mem_cons_self)), List.forall_mem_cons.mpr ⟨List.mem_cons_of_mem _ (List.mem_cons_of_mem _ (List.mem_cons_of_mem _ (List.mem_cons_self))), List.forall_mem_cons.mpr ⟨List.mem_cons_of_mem _ (List.mem_cons_self), List.forall_mem_cons.mpr ⟨List.mem_cons_self, fun _ h => absurd h List.not_mem_nil⟩⟩⟩⟩)) ?_
    have key52 : ∀ (m54 : Nat) (ki : Nat) (w55 : List (List xE)), 6 - ki < m54 → ki ≤ 6 → xInv w55 → xFr [50, 51, 52, 53, 54, 55, 56] w w55 → xTo (d + 4) mX11_cracks (46, [], [(0, (2, 0)), (1, (0, la)), (2, (2, 8)), (3, (0, ki))], [], (w55, bd, fc, 0, 0, rr)) (fun φ => ∃ n w', xEnd 1 [(0, n)] (w', bd, fc, 0, 0, rr) φ ∧ (n ≤ 4294967295) ∧ xInv w' ∧ xFr [50, 51, 52, 53, 54, 55, 56] w w') := by
      intro m54
      induction m54 with
      | zero => intro ki w55 hz; exact absurd hz (Nat.not_lt_zero _)
      | succ m54 ih53 =>
        intro ki w55 hm59 hn58 hI56 hF57
        refine xg_t (xg_blq rfl) ?_
        refine xg_t (xg_iload (va := (0, ki)) rfl rfl) ?_
        refine xg_t (xg_aload (va := (2, 8)) rfl rfl) ?_
        refine xg_t (xg_getf (va := (0, f8_32)) (hF57.get (by decide) h8_34) rfl) ?_
        by_cases hc60 : ki < f8_32
        · refine xg_t (xg_icF (u := ki) (v := f8_32) rfl xnm0 xnm0 (xj_geF hc60 (by omega))) ?_
          refine xg_t (xg_aload (va := (2, 0)) rfl rfl) ?_
          refine xg_t (xg_getf (va := (2, 49)) (hF57.get (by decide) h0_1) rfl) ?_
          refine xg_t (xg_iload (va := (0, la)) rfl rfl) ?_
          refine xg_t (xg_aload (va := (2, 8)) rfl rfl) ?_
          refine xg_t (xg_iload (va := (0, ki)) rfl rfl) ?_
          refine xg_t (xg_const) ?_
          refine xg_k (xg_cVr mX5_get (vs := [(0, ki), (0, 0)]) (rest := [(0, la), (2, 49)]) (rs := [(0, if ki < f8_32 ∧ 0 < 2 then g9_35 (ki * 2 + 0) else 4294967295), (0, la), (2, 49)]) (cn1 := 0) (sl1 := 0) rfl (rget_ok (lim := 6) (wd := 2) (sz := f8_32) (hF57.get (by decide) h8_34) (h9_36.fr hF57 (by decide)) (by decide) (by omega) (by decide) (by decide) (by omega) (by omega)) rfl (hF57.get (by decide) h8_34) rfl rfl rfl rfl rfl rfl rfl) (xiteb (hb37)) (fun z61 hz62 => ?_)
          refine xg_kl (xg_i2l (u := z61) xnm0) (fun l63 => ?_)
          refine xg_t (xg_aload (va := (2, 8)) rfl rfl) ?_
          refine xg_t (xg_iload (va := (0, ki)) rfl rfl) ?_
          refine xg_t (xg_const) ?_
          refine xg_k (xg_cVr mX5_get (vs := [(0, ki), (0, 1)]) (rest := [(4, l63), (0, la), (2, 49)]) (rs := [(0, if ki < f8_32 ∧ 1 < 2 then g9_35 (ki * 2 + 1) else 4294967295), (4, l63), (0, la), (2, 49)]) (cn1 := 0) (sl1 := 0) rfl (rget_ok (lim := 6) (wd := 2) (sz := f8_32) (hF57.get (by decide) h8_34) (h9_36.fr hF57 (by decide)) (by decide) (by omega) (by decide) (by decide) (by omega) (by omega)) rfl (hF57.get (by decide) h8_34) rfl rfl rfl rfl rfl rfl rfl) (xiteb (hb37)) (fun z64 hz65 => ?_)
          refine xg_cVv mX0_wear (vs := [(0, la), (4, l63), (0, z64)]) (rest := []) (cn1 := 0) (sl1 := 0) rfl (bdWear (hI56) (by omega) (by omega)) rfl (hF57.get (by decide) h49_43) rfl rfl rfl rfl rfl rfl (fun w66 hq67 => ?_)
          obtain ⟨hI68, hF69⟩ := hq67
          refine xg_t (xg_aload (va := (2, 0)) rfl rfl) ?_
          refine xg_t (xg_getf (va := (2, 49)) (hF69.get (by decide) (hF57.get (by decide) h0_1)) rfl) ?_
          refine xg_cVi mX0_isWornOut (vs := []) (rest := []) (cn1 := 0) (sl1 := 0) rfl (bdWorn (hI68)) rfl (hF69.get (by decide) (hF57.get (by decide) h49_43)) rfl rfl rfl rfl rfl rfl (fun n74 w70 hq71 => ?_)
          obtain ⟨hn75, hI72, hF73⟩ := hq71
          by_cases hc76 : n74 = 0
          · refine xg_t (xg_ifT (u := n74) rfl xnm0 (xj_eqT hc76)) ?_
            refine xg_t (xg_blq rfl) ?_
            refine xg_t (xg_iinc (u := ki) (z := ki + 1) (l1 := [(0, (2, 0)), (1, (0, la)), (2, (2, 8))]) rfl rfl (by omega) rfl) ?_
            refine xg_t (xg_goto) ?_
            refine xg_t (xg_drop (l1 := [(0, (2, 0)), (1, (0, la)), (2, (2, 8)), (3, (0, ki + 1))]) (List.forall_mem_cons.mpr ⟨List.mem_cons_of_mem _ (List.mem_cons_self), List.forall_mem_cons.mpr ⟨List.mem_cons_of_mem _ (List.mem_cons_of_mem _ (List.mem_cons_self)), List.forall_mem_cons.mpr ⟨List.mem_cons_of_mem _ (List.mem_cons_of_mem _ (List.mem_cons_of_mem _ (List.mem_cons_self))), List.forall_mem_cons.mpr ⟨List.mem_cons_self, fun _ h => absurd h List.not_mem_nil⟩⟩⟩⟩)) ?_
            exact ih53 (ki + 1) w70 (by omega) (by omega) (hI72) (((hF57.tr (hF69.up (by decide))).tr (hF73.up (by decide))))
          · refine xg_t (xg_ifF (u := n74) rfl xnm0 (xj_eqF hc76)) ?_
            refine xg_t (xg_iload (va := (0, ki)) rfl rfl) ?_
            exact xg_e ⟨ki, w70, ⟨rfl, rfl⟩, by omega, hI72, ((hF57.tr (hF69.up (by decide))).tr (hF73.up (by decide)))⟩
        · refine xg_t (xg_icT (u := ki) (v := f8_32) rfl xnm0 xnm0 (xj_geT (by omega) (by omega))) ?_
          refine xg_t (xg_blq rfl) ?_
          refine xg_t (xg_const) ?_
          exact xg_e ⟨4294967295, w55, ⟨rfl, rfl⟩, by first | decide | omega, hI56, hF57⟩
    exact key52 _ 0 w48 (Nat.lt_succ_self _) (by omega) (hI50) (((hF47.up (by decide)).tr (hF51.up (by decide))))
  · refine xg_t (xg_ifF (u := (if la < f4_26 then 1 else 0)) rfl xnm0 (xj_neF (xite0 hc38))) ?_
    refine xg_t (xg_const) ?_
    exact xg_e ⟨4294967295, w, ⟨rfl, rfl⟩, by first | decide | omega, hI, xFr.rf⟩
theorem scCrack {ra ro co : Nat} (hI : xInv w) (hra : ra ≤ 1) (hro : ro ≤ 4294967295) (hco : co ≤ 4294967295) : xPi (d + 3) mX11_crack [(2, 0), (0, ra), (0, ro), (0, co)] w bd fc rr (fun n w' => (n ≤ 1) ∧ xInv w' ∧ xFr [14, 15, 58] w w') := by
  refine xPi.of ?_
  show xTo (d + 3) mX11_crack (0, [], [(0, (2, 0)), (1, (0, ra)), (2, (0, ro)), (3, (0, co))], [], (w, bd, fc, 0, 0, rr)) (fun φ => ∃ n w', xEnd 4 [(0, n)] (w', bd, fc, 0, 0, rr) φ ∧ (n ≤ 1) ∧ xInv w' ∧ xFr [14, 15, 58] w w')
  refine xg_t (xg_blq rfl) ?_
  refine xg_t (xg_aload (va := (2, 0)) rfl rfl) ?_
  have h0_1 := (xqc0 hI : cp0 (wget w 0))
  refine xg_t (xg_getf (va := (2, 1)) h0_1 rfl) ?_
  refine xoC1 (xqc1 hI : cp1 (wget w 1)) (fun f1_2 f1_4 f1_6 f1_8 f1_10 f1_12 h1_14 hb3 hb5 hb7 hb9 hb11 hb13 => ?_)
  refine xg_t (xg_getf (va := (2, 14)) h1_14 rfl) ?_
  refine xg_t (xg_astore (l1 := [(0, (2, 0)), (1, (0, ra)), (2, (0, ro)), (3, (0, co))]) rfl rfl rfl) ?_
  refine xg_t (xg_aload (va := (2, 14)) rfl rfl) ?_
  obtain ⟨f14_15, h14_17, hb16⟩ := (xqc14 hI : cp14 (wget w 14))
  refine xg_t (xg_cVr mX5_isFull (vs := []) (rest := []) (rs := [(0, if 40 ≤ f14_15 then 1 else 0)]) (cn1 := 0) (sl1 := 0) rfl (rfull_ok h14_17 (by decide) (by omega)) rfl h14_17 rfl rfl rfl rfl rfl rfl rfl) ?_
  by_cases hc18 : 40 ≤ f14_15
  · refine xg_t (xg_ifT (u := (if 40 ≤ f14_15 then 1 else 0)) rfl xnm0 (xj_neT (xite1 hc18))) ?_
    refine xg_t (xg_blq rfl) ?_
    refine xg_t (xg_const) ?_
    exact xg_e ⟨0, w, ⟨rfl, rfl⟩, by first | decide | omega, hI, xFr.rf⟩
  · refine xg_t (xg_ifF (u := (if 40 ≤ f14_15 then 1 else 0)) rfl xnm0 (xj_neF (xite0 hc18))) ?_
    refine xg_t (xg_aload (va := (2, 0)) rfl rfl) ?_
    refine xg_t (xg_iload (va := (0, ra)) rfl rfl) ?_
    refine xg_t (xg_iload (va := (0, ro)) rfl rfl) ?_
    refine xg_t (xg_iload (va := (0, co)) rfl rfl) ?_
    refine xg_cVi mX11_hasPart (vs := [(0, ra), (0, ro), (0, co)]) (rest := []) (cn1 := 0) (sl1 := 0) rfl (scHasPart (hI) (by omega) (by omega) (by omega)) rfl h0_1 rfl rfl rfl rfl rfl rfl (fun n23 w19 hq20 => ?_)
    obtain ⟨hn24, hI21, hF22⟩ := hq20
    by_cases hc25 : n23 = 0
    · refine xg_t (xg_ifT (u := n23) rfl xnm0 (xj_eqT hc25)) ?_
      refine xg_t (xg_blq rfl) ?_
      refine xg_t (xg_const) ?_
      exact xg_e ⟨0, w19, ⟨rfl, rfl⟩, by first | decide | omega, hI21, (hF22.up (by decide))⟩
    · refine xg_t (xg_ifF (u := n23) rfl xnm0 (xj_eqF hc25)) ?_
      refine xg_t (xg_aload (va := (2, 0)) rfl rfl) ?_
      refine xg_t (xg_getf (va := (2, 1)) (hF22.get (by decide) h0_1) rfl) ?_
      refine xg_t (xg_iload (va := (0, ra)) rfl rfl) ?_
      refine xg_t (xg_iload (va := (0, ro)) rfl rfl) ?_
      refine xg_t (xg_iload (va := (0, co)) rfl rfl) ?_
      refine xg_cVi mX9_findCrack (vs := [(0, ra), (0, ro), (0, co)]) (rest := []) (cn1 := 0) (sl1 := 0) rfl (tdFindCrack (hI21) (by omega) (by omega) (by omega)) rfl (hF22.get (by decide) h1_14) rfl rfl rfl rfl rfl rfl (fun n30 w26 hq27 => ?_)
      obtain ⟨hn31, hI28, hF29⟩ := hq27
      refine xg_t (xg_const) ?_
      by_cases hc32 : n30 = 4294967295
      · refine xg_t (xg_icT (u := n30) (v := 4294967295) rfl xnm0 xnm0 (xj_eqT hc32)) ?_
        refine xg_t (xg_blq rfl) ?_
        refine xg_t (xg_aload (va := (2, 14)) rfl rfl) ?_
        refine xg_cVi mX5_grow (vs := []) (rest := []) (cn1 := 0) (sl1 := 0) rfl (rgrowI (hF29.get (by decide) (hF22.get (by decide) h14_17)) (by decide) (by omega)) rfl (hF29.get (by decide) (hF22.get (by decide) h14_17)) rfl rfl rfl rfl rfl rfl (fun n35 w33 hq34 => ?_)
        obtain ⟨hn36, s37, hs38, hk39, hb40⟩ := hq34
        refine xg_t (xg_istore (l1 := [(4, (2, 14)), (0, (2, 0)), (1, (0, ra)), (2, (0, ro)), (3, (0, co))]) rfl rfl rfl) ?_
        refine xg_t (xg_aload (va := (2, 14)) rfl rfl) ?_
        refine xg_t (xg_iload (va := (0, n35)) rfl rfl) ?_
        refine xg_t (xg_const) ?_
        refine xg_t (xg_iload (va := (0, ra)) rfl rfl) ?_
        by_cases hc41 : ra = 0
        · refine xg_t (xg_ifT (u := ra) rfl xnm0 (xj_eqT hc41)) ?_
          refine xg_t (xg_blq rfl) ?_
          refine xg_t (xg_const) ?_
          refine xg_t (xg_blq rfl) ?_
          refine xoI (xqc15 hI28 : cpI 200 6 4294967295 (wget w26 15)) (fun g15_42 h15_43 hb44 => ?_)
          refine xg_cVv mX5_put (vs := [(0, n35), (0, 0), (0, 0)]) (rest := []) (cn1 := 0) (sl1 := 0) rfl (rputI (lim := 40) (wd := 5) (B := 4294967295) hk39 (h15_43.but hb40 (by decide)) (hb44) (by decide) (by omega) (by decide) (by decide) (by omega) (by omega) (by omega)) rfl hk39 rfl rfl rfl rfl rfl rfl (fun w45 hq46 => ?_)
          obtain ⟨g47, hr48, hb49, hb50⟩ := hq46
          refine xg_t (xg_aload (va := (2, 14)) rfl rfl) ?_
          refine xg_t (xg_iload (va := (0, n35)) rfl rfl) ?_
          refine xg_t (xg_const) ?_
          refine xg_t (xg_iload (va := (0, ro)) rfl rfl) ?_
          refine xg_cVv mX5_put (vs := [(0, n35), (0, 1), (0, ro)]) (rest := []) (cn1 := 0) (sl1 := 0) rfl (rputI (lim := 40) (wd := 5) (B := 4294967295) (hb50.get (by decide) hk39) hr48 (hb49) (by decide) (by omega) (by decide) (by decide) (by omega) (by omega) (by omega)) rfl (hb50.get (by decide) hk39) rfl rfl rfl rfl rfl rfl (fun w51 hq52 => ?_)
          obtain ⟨g53, hr54, hb55, hb56⟩ := hq52
          refine xg_t (xg_aload (va := (2, 14)) rfl rfl) ?_
          refine xg_t (xg_iload (va := (0, n35)) rfl rfl) ?_
          refine xg_t (xg_const) ?_
          refine xg_t (xg_iload (va := (0, co)) rfl rfl) ?_
          refine xg_cVv mX5_put (vs := [(0, n35), (0, 2), (0, co)]) (rest := []) (cn1 := 0) (sl1 := 0) rfl (rputI (lim := 40) (wd := 5) (B := 4294967295) (hb56.get (by decide) (hb50.get (by decide) hk39)) hr54 (hb55) (by decide) (by omega) (by decide) (by decide) (by omega) (by omega) (by omega)) rfl (hb56.get (by decide) (hb50.get (by decide) hk39)) rfl rfl rfl rfl rfl rfl (fun w57 hq58 => ?_)
          obtain ⟨g59, hr60, hb61, hb62⟩ := hq58
          refine xg_t (xg_aload (va := (2, 14)) rfl rfl) ?_
          refine xg_t (xg_iload (va := (0, n35)) rfl rfl) ?_
          refine xg_t (xg_const) ?_
          refine xg_t (xg_aload (va := (2, 0)) rfl rfl) ?_
          refine xg_t (xg_getf (va := (2, 1)) (hb62.get (by decide) (hb56.get (by decide) (hb50.get (by decide) (hb40.get (by decide) (hF29.get (by decide) (hF22.get (by decide) h0_1)))))) rfl) ?_
          refine xg_t (xg_getf (va := (0, f1_8)) (hb62.get (by decide) (hb56.get (by decide) (hb50.get (by decide) (hb40.get (by decide) (hF29.get (by decide) (hF22.get (by decide) h1_14)))))) rfl) ?_
          refine xg_cVv mX5_put (vs := [(0, n35), (0, 3), (0, f1_8)]) (rest := []) (cn1 := 0) (sl1 := 0) rfl (rputI (lim := 40) (wd := 5) (B := 4294967295) (hb62.get (by decide) (hb56.get (by decide) (hb50.get (by decide) hk39))) hr60 (hb61) (by decide) (by omega) (by decide) (by decide) (by omega) (by omega) (by omega)) rfl (hb62.get (by decide) (hb56.get (by decide) (hb50.get (by decide) hk39))) rfl rfl rfl rfl rfl rfl (fun w63 hq64 => ?_)
          obtain ⟨g65, hr66, hb67, hb68⟩ := hq64
          refine xg_t (xg_aload (va := (2, 14)) rfl rfl) ?_
          refine xg_t (xg_iload (va := (0, n35)) rfl rfl) ?_
          refine xg_t (xg_const) ?_
          refine xg_t (xg_const) ?_
          refine xg_cVv mX5_put (vs := [(0, n35), (0, 4), (0, 1)]) (rest := []) (cn1 := 0) (sl1 := 0) rfl (rputI (lim := 40) (wd := 5) (B := 4294967295) (hb68.get (by decide) (hb62.get (by decide) (hb56.get (by decide) (hb50.get (by decide) hk39)))) hr66 (hb67) (by decide) (by omega) (by decide) (by decide) (by omega) (by omega) (by omega)) rfl (hb68.get (by decide) (hb62.get (by decide) (hb56.get (by decide) (hb50.get (by decide) hk39)))) rfl rfl rfl rfl rfl rfl (fun w69 hq70 => ?_)
          obtain ⟨g71, hr72, hb73, hb74⟩ := hq70
          refine xg_t (xg_aload (va := (2, 0)) rfl rfl) ?_
          refine xg_t (xg_getf (va := (2, 58)) (hb74.get (by decide) (hb68.get (by decide) (hb62.get (by decide) (hb56.get (by decide) (hb50.get (by decide) (hb40.get (by decide) (hF29.get (by decide) (hF22.get (by decide) h0_1)))))))) rfl) ?_
          refine xoC58 (xqc58 hI28 : cp58 (wget w26 58)) (fun f58_75 f58_77 f58_79 h58_81 hb76 hb78 hb80 => ?_)
          refine xg_cVv mX10_forget (vs := []) (rest := []) (cn1 := 0) (sl1 := 0) rfl (wyForget (xInv.up (S := [14, 15]) hI28 ((((((xFr.of (S := [14, 15]) hb40 (by decide)).tr (xFr.of (S := [14, 15]) hb50 (by decide))).tr (xFr.of (S := [14, 15]) hb56 (by decide))).tr (xFr.of (S := [14, 15]) hb62 (by decide))).tr (xFr.of (S := [14, 15]) hb68 (by decide))).tr (xFr.of (S := [14, 15]) hb74 (by decide))) (List.forall_mem_cons.mpr ⟨xqu14 (show cp14 (wget w69 14) from ⟨s37, (hb74.get (by decide) (hb68.get (by decide) (hb62.get (by decide) (hb56.get (by decide) (hb50.get (by decide) hk39))))), by omega⟩), List.forall_mem_cons.mpr ⟨xqu15 (show cpI 200 6 4294967295 (wget w69 15) from ⟨_, hr72, hb73⟩), fun _ h => absurd h List.not_mem_nil⟩⟩))) rfl (hb74.get (by decide) (hb68.get (by decide) (hb62.get (by decide) (hb56.get (by decide) (hb50.get (by decide) (hb40.get (by decide) h58_81)))))) rfl rfl rfl rfl rfl rfl (fun w82 hq83 => ?_)
          obtain ⟨hI84, hF85⟩ := hq83
          refine xg_t (xg_const) ?_
          exact xg_e ⟨1, w82, ⟨rfl, rfl⟩, by first | decide | omega, hI84, ((((hF22.up (by decide)).tr (hF29.up (by decide))).tr ((((((xFr.of (S := [14, 15, 58]) hb40 (by decide)).tr (xFr.of (S := [14, 15, 58]) hb50 (by decide))).tr (xFr.of (S := [14, 15, 58]) hb56 (by decide))).tr (xFr.of (S := [14, 15, 58]) hb62 (by decide))).tr (xFr.of (S := [14, 15, 58]) hb68 (by decide))).tr (xFr.of (S := [14, 15, 58]) hb74 (by decide)))).tr (hF85.up (by decide)))⟩
        · refine xg_t (xg_ifF (u := ra) rfl xnm0 (xj_eqF hc41)) ?_
          refine xg_t (xg_const) ?_
          refine xg_t (xg_goto) ?_
          refine xg_t (xg_blq rfl) ?_
          refine xoI (xqc15 hI28 : cpI 200 6 4294967295 (wget w26 15)) (fun g15_86 h15_87 hb88 => ?_)
          refine xg_cVv mX5_put (vs := [(0, n35), (0, 0), (0, 1)]) (rest := []) (cn1 := 0) (sl1 := 0) rfl (rputI (lim := 40) (wd := 5) (B := 4294967295) hk39 (h15_87.but hb40 (by decide)) (hb88) (by decide) (by omega) (by decide) (by decide) (by omega) (by omega) (by omega)) rfl hk39 rfl rfl rfl rfl rfl rfl (fun w89 hq90 => ?_)
          obtain ⟨g91, hr92, hb93, hb94⟩ := hq90
          refine xg_t (xg_aload (va := (2, 14)) rfl rfl) ?_
          refine xg_t (xg_iload (va := (0, n35)) rfl rfl) ?_
          refine xg_t (xg_const) ?_
          refine xg_t (xg_iload (va := (0, ro)) rfl rfl) ?_
          refine xg_cVv mX5_put (vs := [(0, n35), (0, 1), (0, ro)]) (rest := []) (cn1 := 0) (sl1 := 0) rfl (rputI (lim := 40) (wd := 5) (B := 4294967295) (hb94.get (by decide) hk39) hr92 (hb93) (by decide) (by omega) (by decide) (by decide) (by omega) (by omega) (by omega)) rfl (hb94.get (by decide) hk39) rfl rfl rfl rfl rfl rfl (fun w95 hq96 => ?_)
          obtain ⟨g97, hr98, hb99, hb100⟩ := hq96
          refine xg_t (xg_aload (va := (2, 14)) rfl rfl) ?_
          refine xg_t (xg_iload (va := (0, n35)) rfl rfl) ?_
          refine xg_t (xg_const) ?_
          refine xg_t (xg_iload (va := (0, co)) rfl rfl) ?_
          refine xg_cVv mX5_put (vs := [(0, n35), (0, 2), (0, co)]) (rest := []) (cn1 := 0) (sl1 := 0) rfl (rputI (lim := 40) (wd := 5) (B := 4294967295) (hb100.get (by decide) (hb94.get (by decide) hk39)) hr98 (hb99) (by decide) (by omega) (by decide) (by decide) (by omega) (by omega) (by omega)) rfl (hb100.get (by decide) (hb94.get (by decide) hk39)) rfl rfl rfl rfl rfl rfl (fun w101 hq102 => ?_)
          obtain ⟨g103, hr104, hb105, hb106⟩ := hq102
          refine xg_t (xg_aload (va := (2, 14)) rfl rfl) ?_
          refine xg_t (xg_iload (va := (0, n35)) rfl rfl) ?_
          refine xg_t (xg_const) ?_
          refine xg_t (xg_aload (va := (2, 0)) rfl rfl) ?_
          refine xg_t (xg_getf (va := (2, 1)) (hb106.get (by decide) (hb100.get (by decide) (hb94.get (by decide) (hb40.get (by decide) (hF29.get (by decide) (hF22.get (by decide) h0_1)))))) rfl) ?_
          refine xg_t (xg_getf (va := (0, f1_8)) (hb106.get (by decide) (hb100.get (by decide) (hb94.get (by decide) (hb40.get (by decide) (hF29.get (by decide) (hF22.get (by decide) h1_14)))))) rfl) ?_
          refine xg_cVv mX5_put (vs := [(0, n35), (0, 3), (0, f1_8)]) (rest := []) (cn1 := 0) (sl1 := 0) rfl (rputI (lim := 40) (wd := 5) (B := 4294967295) (hb106.get (by decide) (hb100.get (by decide) (hb94.get (by decide) hk39))) hr104 (hb105) (by decide) (by omega) (by decide) (by decide) (by omega) (by omega) (by omega)) rfl (hb106.get (by decide) (hb100.get (by decide) (hb94.get (by decide) hk39))) rfl rfl rfl rfl rfl rfl (fun w107 hq108 => ?_)
          obtain ⟨g109, hr110, hb111, hb112⟩ := hq108
          refine xg_t (xg_aload (va := (2, 14)) rfl rfl) ?_
          refine xg_t (xg_iload (va := (0, n35)) rfl rfl) ?_
          refine xg_t (xg_const) ?_
          refine xg_t (xg_const) ?_
          refine xg_cVv mX5_put (vs := [(0, n35), (0, 4), (0, 1)]) (rest := []) (cn1 := 0) (sl1 := 0) rfl (rputI (lim := 40) (wd := 5) (B := 4294967295) (hb112.get (by decide) (hb106.get (by decide) (hb100.get (by decide) (hb94.get (by decide) hk39)))) hr110 (hb111) (by decide) (by omega) (by decide) (by decide) (by omega) (by omega) (by omega)) rfl (hb112.get (by decide) (hb106.get (by decide) (hb100.get (by decide) (hb94.get (by decide) hk39)))) rfl rfl rfl rfl rfl rfl (fun w113 hq114 => ?_)
          obtain ⟨g115, hr116, hb117, hb118⟩ := hq114
          refine xg_t (xg_aload (va := (2, 0)) rfl rfl) ?_
          refine xg_t (xg_getf (va := (2, 58)) (hb118.get (by decide) (hb112.get (by decide) (hb106.get (by decide) (hb100.get (by decide) (hb94.get (by decide) (hb40.get (by decide) (hF29.get (by decide) (hF22.get (by decide) h0_1)))))))) rfl) ?_
          refine xoC58 (xqc58 hI28 : cp58 (wget w26 58)) (fun f58_119 f58_121 f58_123 h58_125 hb120 hb122 hb124 => ?_)
          refine xg_cVv mX10_forget (vs := []) (rest := []) (cn1 := 0) (sl1 := 0) rfl (wyForget (xInv.up (S := [14, 15]) hI28 ((((((xFr.of (S := [14, 15]) hb40 (by decide)).tr (xFr.of (S := [14, 15]) hb94 (by decide))).tr (xFr.of (S := [14, 15]) hb100 (by decide))).tr (xFr.of (S := [14, 15]) hb106 (by decide))).tr (xFr.of (S := [14, 15]) hb112 (by decide))).tr (xFr.of (S := [14, 15]) hb118 (by decide))) (List.forall_mem_cons.mpr ⟨xqu14 (show cp14 (wget w113 14) from ⟨s37, (hb118.get (by decide) (hb112.get (by decide) (hb106.get (by decide) (hb100.get (by decide) (hb94.get (by decide) hk39))))), by omega⟩), List.forall_mem_cons.mpr ⟨xqu15 (show cpI 200 6 4294967295 (wget w113 15) from ⟨_, hr116, hb117⟩), fun _ h => absurd h List.not_mem_nil⟩⟩))) rfl (hb118.get (by decide) (hb112.get (by decide) (hb106.get (by decide) (hb100.get (by decide) (hb94.get (by decide) (hb40.get (by decide) h58_125)))))) rfl rfl rfl rfl rfl rfl (fun w126 hq127 => ?_)
          obtain ⟨hI128, hF129⟩ := hq127
          refine xg_t (xg_const) ?_
          exact xg_e ⟨1, w126, ⟨rfl, rfl⟩, by first | decide | omega, hI128, ((((hF22.up (by decide)).tr (hF29.up (by decide))).tr ((((((xFr.of (S := [14, 15, 58]) hb40 (by decide)).tr (xFr.of (S := [14, 15, 58]) hb94 (by decide))).tr (xFr.of (S := [14, 15, 58]) hb100 (by decide))).tr (xFr.of (S := [14, 15, 58]) hb106 (by decide))).tr (xFr.of (S := [14, 15, 58]) hb112 (by decide))).tr (xFr.of (S := [14, 15, 58]) hb118 (by decide)))).tr (hF129.up (by decide)))⟩
      · refine xg_t (xg_icF (u := n30) (v := 4294967295) rfl xnm0 xnm0 (xj_eqF hc32)) ?_
        refine xg_t (xg_blq rfl) ?_
        refine xg_t (xg_const) ?_
        exact xg_e ⟨0, w26, ⟨rfl, rfl⟩, by first | decide | omega, hI28, ((hF22.up (by decide)).tr (hF29.up (by decide)))⟩
theorem scInCut {so ro co : Nat} (hI : xInv w) (hso : so ≤ 4294967295) (hro : ro ≤ 4294967295) (hco : co ≤ 4294967295) : xPi (d + 5) mX11_inCut [(2, 0), (0, so), (0, ro), (0, co)] w bd fc rr (fun n w' => (n ≤ 1) ∧ xInv w' ∧ xFr [58, 59, 60, 61, 62, 63, 64, 65, 66, 67] w w') := by
  refine xPi.of ?_
  show xTo (d + 5) mX11_inCut (0, [], [(0, (2, 0)), (1, (0, so)), (2, (0, ro)), (3, (0, co))], [], (w, bd, fc, 0, 0, rr)) (fun φ => ∃ n w', xEnd 4 [(0, n)] (w', bd, fc, 0, 0, rr) φ ∧ (n ≤ 1) ∧ xInv w' ∧ xFr [58, 59, 60, 61, 62, 63, 64, 65, 66, 67] w w')
  have h0_1 := (xqc0 hI : cp0 (wget w 0))
  refine xoC1 (xqc1 hI : cp1 (wget w 1)) (fun f1_2 f1_4 f1_6 f1_8 f1_10 f1_12 h1_14 hb3 hb5 hb7 hb9 hb11 hb13 => ?_)
  refine xoC3 (xqc3 hI : cp3 (wget w 3)) (fun f3_15 f3_17 f3_19 f3_21 f3_23 h3_25 hb16 hb18 hb20 hb22 hb24 => ?_)
  refine xg_t (xg_blq rfl) ?_
  refine xg_t (xg_aload (va := (2, 0)) rfl rfl) ?_
  refine xg_t (xg_getf (va := (2, 58)) h0_1 rfl) ?_
  refine xoC58 (xqc58 hI : cp58 (wget w 58)) (fun f58_26 f58_28 f58_30 h58_32 hb27 hb29 hb31 => ?_)
  refine xg_cVv mX10_refresh (vs := []) (rest := []) (cn1 := 0) (sl1 := 0) rfl (wyRefresh (hI)) rfl h58_32 rfl rfl rfl rfl rfl rfl (fun w33 hq34 => ?_)
  obtain ⟨hI35, hF36⟩ := hq34
  refine xg_t (xg_iload (va := (0, so)) rfl rfl) ?_
  refine xg_t (xg_const) ?_
  by_cases hc37 : so = 2
  · refine xg_t (xg_icT (u := so) (v := 2) rfl xnm0 xnm0 (xj_eqT hc37)) ?_
    refine xg_t (xg_blq rfl) ?_
    refine xg_t (xg_iload (va := (0, ro)) rfl rfl) ?_
    by_cases hc38 : ro < 2147483648
    · refine xg_t (xg_ifF (u := ro) rfl xnm0 (xjz_ltF hc38)) ?_
      refine xg_t (xg_iload (va := (0, ro)) rfl rfl) ?_
      refine xg_t (xg_aload (va := (2, 0)) rfl rfl) ?_
      refine xg_t (xg_getf (va := (2, 1)) (hF36.get (by decide) h0_1) rfl) ?_
      refine xg_t (xg_getf (va := (2, 3)) (hF36.get (by decide) h1_14) rfl) ?_
      refine xg_t (xg_getf (va := (0, f3_19)) (hF36.get (by decide) h3_25) rfl) ?_
      by_cases hc39 : ro < f3_19
      · refine xg_t (xg_icF (u := ro) (v := f3_19) rfl xnm0 xnm0 (xj_geF hc39 (by omega))) ?_
        refine xg_t (xg_aload (va := (2, 0)) rfl rfl) ?_
        refine xg_t (xg_getf (va := (2, 58)) (hF36.get (by decide) h0_1) rfl) ?_
        refine xg_t (xg_iload (va := (0, so)) rfl rfl) ?_
        refine xg_t (xg_iload (va := (0, ro)) rfl rfl) ?_
        refine xg_t (xg_const) ?_
        refine xoC58 (xqc58 hI35 : cp58 (wget w33 58)) (fun f58_40 f58_42 f58_44 h58_46 hb41 hb43 hb45 => ?_)
        refine xg_cVi mX10_cuts (vs := [(0, so), (0, ro), (0, 0)]) (rest := []) (cn1 := 0) (sl1 := 0) rfl (wyCuts (hI35) (by omega) (by omega) (by omega)) rfl h58_46 rfl rfl rfl rfl rfl rfl (fun n51 w47 hq48 => ?_)
        obtain ⟨hn52, hI49, hF50⟩ := hq48
        by_cases hc53 : n51 = 0
        · refine xg_t (xg_ifT (u := n51) rfl xnm0 (xj_eqT hc53)) ?_
          refine xg_t (xg_blq rfl) ?_
          refine xg_t (xg_const) ?_
          refine xg_t (xg_blq rfl) ?_
          exact xg_e ⟨0, w47, ⟨rfl, rfl⟩, by first | decide | omega, hI49, ((hF36.up (by decide)).tr (hF50.up (by decide)))⟩
        · refine xg_t (xg_ifF (u := n51) rfl xnm0 (xj_eqF hc53)) ?_
          refine xg_t (xg_const) ?_
          refine xg_t (xg_goto) ?_
          refine xg_t (xg_blq rfl) ?_
          exact xg_e ⟨1, w47, ⟨rfl, rfl⟩, by first | decide | omega, hI49, ((hF36.up (by decide)).tr (hF50.up (by decide)))⟩
      · refine xg_t (xg_icT (u := ro) (v := f3_19) rfl xnm0 xnm0 (xj_geT (by omega) (by omega))) ?_
        refine xg_t (xg_blq rfl) ?_
        refine xg_t (xg_const) ?_
        refine xg_t (xg_blq rfl) ?_
        exact xg_e ⟨0, w33, ⟨rfl, rfl⟩, by first | decide | omega, hI35, (hF36.up (by decide))⟩
    · refine xg_t (xg_ifT (u := ro) rfl xnm0 (xjz_ltT (by omega) (by omega))) ?_
      refine xg_t (xg_blq rfl) ?_
      refine xg_t (xg_const) ?_
      refine xg_t (xg_blq rfl) ?_
      exact xg_e ⟨0, w33, ⟨rfl, rfl⟩, by first | decide | omega, hI35, (hF36.up (by decide))⟩
  · refine xg_t (xg_icF (u := so) (v := 2) rfl xnm0 xnm0 (xj_eqF hc37)) ?_
    refine xg_t (xg_iload (va := (0, so)) rfl rfl) ?_
    refine xg_t (xg_const) ?_
    by_cases hc54 : so = 3
    · refine xg_t (xg_icF (u := so) (v := 3) rfl xnm0 xnm0 (xj_neF hc54)) ?_
      refine xg_t (xg_blq rfl) ?_
      refine xg_t (xg_iload (va := (0, ro)) rfl rfl) ?_
      by_cases hc55 : ro < 2147483648
      · refine xg_t (xg_ifF (u := ro) rfl xnm0 (xjz_ltF hc55)) ?_
        refine xg_t (xg_iload (va := (0, ro)) rfl rfl) ?_
        refine xg_t (xg_aload (va := (2, 0)) rfl rfl) ?_
        refine xg_t (xg_getf (va := (2, 1)) (hF36.get (by decide) h0_1) rfl) ?_
        refine xg_t (xg_getf (va := (2, 3)) (hF36.get (by decide) h1_14) rfl) ?_
        refine xg_t (xg_getf (va := (0, f3_19)) (hF36.get (by decide) h3_25) rfl) ?_
        by_cases hc56 : ro < f3_19
        · refine xg_t (xg_icF (u := ro) (v := f3_19) rfl xnm0 xnm0 (xj_geF hc56 (by omega))) ?_
          refine xg_t (xg_aload (va := (2, 0)) rfl rfl) ?_
          refine xg_t (xg_getf (va := (2, 58)) (hF36.get (by decide) h0_1) rfl) ?_
          refine xg_t (xg_iload (va := (0, so)) rfl rfl) ?_
          refine xg_t (xg_iload (va := (0, ro)) rfl rfl) ?_
          refine xg_t (xg_const) ?_
          refine xoC58 (xqc58 hI35 : cp58 (wget w33 58)) (fun f58_57 f58_59 f58_61 h58_63 hb58 hb60 hb62 => ?_)
          refine xg_cVi mX10_cuts (vs := [(0, so), (0, ro), (0, 0)]) (rest := []) (cn1 := 0) (sl1 := 0) rfl (wyCuts (hI35) (by omega) (by omega) (by omega)) rfl h58_63 rfl rfl rfl rfl rfl rfl (fun n68 w64 hq65 => ?_)
          obtain ⟨hn69, hI66, hF67⟩ := hq65
          by_cases hc70 : n68 = 0
          · refine xg_t (xg_ifT (u := n68) rfl xnm0 (xj_eqT hc70)) ?_
            refine xg_t (xg_blq rfl) ?_
            refine xg_t (xg_const) ?_
            refine xg_t (xg_blq rfl) ?_
            exact xg_e ⟨0, w64, ⟨rfl, rfl⟩, by first | decide | omega, hI66, ((hF36.up (by decide)).tr (hF67.up (by decide)))⟩
          · refine xg_t (xg_ifF (u := n68) rfl xnm0 (xj_eqF hc70)) ?_
            refine xg_t (xg_const) ?_
            refine xg_t (xg_goto) ?_
            refine xg_t (xg_blq rfl) ?_
            exact xg_e ⟨1, w64, ⟨rfl, rfl⟩, by first | decide | omega, hI66, ((hF36.up (by decide)).tr (hF67.up (by decide)))⟩
        · refine xg_t (xg_icT (u := ro) (v := f3_19) rfl xnm0 xnm0 (xj_geT (by omega) (by omega))) ?_
          refine xg_t (xg_blq rfl) ?_
          refine xg_t (xg_const) ?_
          refine xg_t (xg_blq rfl) ?_
          exact xg_e ⟨0, w33, ⟨rfl, rfl⟩, by first | decide | omega, hI35, (hF36.up (by decide))⟩
      · refine xg_t (xg_ifT (u := ro) rfl xnm0 (xjz_ltT (by omega) (by omega))) ?_
        refine xg_t (xg_blq rfl) ?_
        refine xg_t (xg_const) ?_
        refine xg_t (xg_blq rfl) ?_
        exact xg_e ⟨0, w33, ⟨rfl, rfl⟩, by first | decide | omega, hI35, (hF36.up (by decide))⟩
    · refine xg_t (xg_icT (u := so) (v := 3) rfl xnm0 xnm0 (xj_neT hc54)) ?_
      refine xg_t (xg_blq rfl) ?_
      refine xg_t (xg_iload (va := (0, so)) rfl rfl) ?_
      refine xg_t (xg_const) ?_
      by_cases hc71 : so = 1
      · refine xg_t (xg_icF (u := so) (v := 1) rfl xnm0 xnm0 (xj_neF hc71)) ?_
        refine xg_t (xg_const) ?_
        refine xg_t (xg_goto) ?_
        refine xg_t (xg_blq rfl) ?_
        refine xg_t (xg_istore (l1 := [(0, (2, 0)), (1, (0, so)), (2, (0, ro)), (3, (0, co))]) rfl rfl rfl) ?_
        refine xg_t (xg_iload (va := (0, 1)) rfl rfl) ?_
        refine xg_t (xg_ifT (u := 1) rfl xnm0 (by decide)) ?_
        refine xg_t (xg_blq rfl) ?_
        refine xg_t (xg_aload (va := (2, 0)) rfl rfl) ?_
        refine xg_t (xg_iload (va := (0, 1)) rfl rfl) ?_
        refine xg_t (xg_iload (va := (0, ro)) rfl rfl) ?_
        refine xg_t (xg_iload (va := (0, co)) rfl rfl) ?_
        refine xg_cVi mX11_hasPart (vs := [(0, 1), (0, ro), (0, co)]) (rest := []) (cn1 := 0) (sl1 := 0) rfl (scHasPart (hI35) (by omega) (by omega) (by omega)) rfl (hF36.get (by decide) h0_1) rfl rfl rfl rfl rfl rfl (fun n76 w72 hq73 => ?_)
        obtain ⟨hn77, hI74, hF75⟩ := hq73
        by_cases hc78 : n76 = 0
        · refine xg_t (xg_ifT (u := n76) rfl xnm0 (xj_eqT hc78)) ?_
          refine xg_t (xg_blq rfl) ?_
          refine xg_t (xg_const) ?_
          refine xg_t (xg_blq rfl) ?_
          exact xg_e ⟨0, w72, ⟨rfl, rfl⟩, by first | decide | omega, hI74, ((hF36.up (by decide)).tr (hF75.up (by decide)))⟩
        · refine xg_t (xg_ifF (u := n76) rfl xnm0 (xj_eqF hc78)) ?_
          refine xg_t (xg_aload (va := (2, 0)) rfl rfl) ?_
          refine xg_t (xg_getf (va := (2, 58)) (hF75.get (by decide) (hF36.get (by decide) h0_1)) rfl) ?_
          refine xg_t (xg_iload (va := (0, so)) rfl rfl) ?_
          refine xg_t (xg_iload (va := (0, ro)) rfl rfl) ?_
          refine xg_t (xg_iload (va := (0, co)) rfl rfl) ?_
          refine xoC58 (xqc58 hI74 : cp58 (wget w72 58)) (fun f58_79 f58_81 f58_83 h58_85 hb80 hb82 hb84 => ?_)
          refine xg_cVi mX10_cuts (vs := [(0, so), (0, ro), (0, co)]) (rest := []) (cn1 := 0) (sl1 := 0) rfl (wyCuts (hI74) (by omega) (by omega) (by omega)) rfl h58_85 rfl rfl rfl rfl rfl rfl (fun n90 w86 hq87 => ?_)
          obtain ⟨hn91, hI88, hF89⟩ := hq87
          by_cases hc92 : n90 = 0
          · refine xg_t (xg_ifT (u := n90) rfl xnm0 (xj_eqT hc92)) ?_
            refine xg_t (xg_blq rfl) ?_
            refine xg_t (xg_const) ?_
            refine xg_t (xg_blq rfl) ?_
            exact xg_e ⟨0, w86, ⟨rfl, rfl⟩, by first | decide | omega, hI88, (((hF36.up (by decide)).tr (hF75.up (by decide))).tr (hF89.up (by decide)))⟩
          · refine xg_t (xg_ifF (u := n90) rfl xnm0 (xj_eqF hc92)) ?_
            refine xg_t (xg_const) ?_
            refine xg_t (xg_goto) ?_
            refine xg_t (xg_blq rfl) ?_
            exact xg_e ⟨1, w86, ⟨rfl, rfl⟩, by first | decide | omega, hI88, (((hF36.up (by decide)).tr (hF75.up (by decide))).tr (hF89.up (by decide)))⟩
      · refine xg_t (xg_icT (u := so) (v := 1) rfl xnm0 xnm0 (xj_neT hc71)) ?_
        refine xg_t (xg_blq rfl) ?_
        refine xg_t (xg_const) ?_
        refine xg_t (xg_blq rfl) ?_
        refine xg_t (xg_istore (l1 := [(0, (2, 0)), (1, (0, so)), (2, (0, ro)), (3, (0, co))]) rfl rfl rfl) ?_
        refine xg_t (xg_iload (va := (0, 0)) rfl rfl) ?_
        refine xg_t (xg_ifF (u := 0) rfl xnm0 (by decide)) ?_
        refine xg_t (xg_iload (va := (0, so)) rfl rfl) ?_
        by_cases hc93 : so = 0
        · refine xg_t (xg_ifF (u := so) rfl xnm0 (xj_neF hc93)) ?_
          refine xg_t (xg_blq rfl) ?_
          refine xg_t (xg_aload (va := (2, 0)) rfl rfl) ?_
          refine xg_t (xg_iload (va := (0, 0)) rfl rfl) ?_
          refine xg_t (xg_iload (va := (0, ro)) rfl rfl) ?_
          refine xg_t (xg_iload (va := (0, co)) rfl rfl) ?_
          refine xg_cVi mX11_hasPart (vs := [(0, 0), (0, ro), (0, co)]) (rest := []) (cn1 := 0) (sl1 := 0) rfl (scHasPart (hI35) (by omega) (by omega) (by omega)) rfl (hF36.get (by decide) h0_1) rfl rfl rfl rfl rfl rfl (fun n98 w94 hq95 => ?_)
          obtain ⟨hn99, hI96, hF97⟩ := hq95
          by_cases hc100 : n98 = 0
          · refine xg_t (xg_ifT (u := n98) rfl xnm0 (xj_eqT hc100)) ?_
            refine xg_t (xg_blq rfl) ?_
            refine xg_t (xg_const) ?_
            refine xg_t (xg_blq rfl) ?_
            exact xg_e ⟨0, w94, ⟨rfl, rfl⟩, by first | decide | omega, hI96, ((hF36.up (by decide)).tr (hF97.up (by decide)))⟩
          · refine xg_t (xg_ifF (u := n98) rfl xnm0 (xj_eqF hc100)) ?_
            refine xg_t (xg_aload (va := (2, 0)) rfl rfl) ?_
            refine xg_t (xg_getf (va := (2, 58)) (hF97.get (by decide) (hF36.get (by decide) h0_1)) rfl) ?_
            refine xg_t (xg_iload (va := (0, so)) rfl rfl) ?_
            refine xg_t (xg_iload (va := (0, ro)) rfl rfl) ?_
            refine xg_t (xg_iload (va := (0, co)) rfl rfl) ?_
            refine xoC58 (xqc58 hI96 : cp58 (wget w94 58)) (fun f58_101 f58_103 f58_105 h58_107 hb102 hb104 hb106 => ?_)
            refine xg_cVi mX10_cuts (vs := [(0, so), (0, ro), (0, co)]) (rest := []) (cn1 := 0) (sl1 := 0) rfl (wyCuts (hI96) (by omega) (by omega) (by omega)) rfl h58_107 rfl rfl rfl rfl rfl rfl (fun n112 w108 hq109 => ?_)
            obtain ⟨hn113, hI110, hF111⟩ := hq109
            by_cases hc114 : n112 = 0
            · refine xg_t (xg_ifT (u := n112) rfl xnm0 (xj_eqT hc114)) ?_
              refine xg_t (xg_blq rfl) ?_
              refine xg_t (xg_const) ?_
              refine xg_t (xg_blq rfl) ?_
              exact xg_e ⟨0, w108, ⟨rfl, rfl⟩, by first | decide | omega, hI110, (((hF36.up (by decide)).tr (hF97.up (by decide))).tr (hF111.up (by decide)))⟩
            · refine xg_t (xg_ifF (u := n112) rfl xnm0 (xj_eqF hc114)) ?_
              refine xg_t (xg_const) ?_
              refine xg_t (xg_goto) ?_
              refine xg_t (xg_blq rfl) ?_
              exact xg_e ⟨1, w108, ⟨rfl, rfl⟩, by first | decide | omega, hI110, (((hF36.up (by decide)).tr (hF97.up (by decide))).tr (hF111.up (by decide)))⟩
        · refine xg_t (xg_ifT (u := so) rfl xnm0 (xj_neT hc93)) ?_
          refine xg_t (xg_blq rfl) ?_
          refine xg_t (xg_const) ?_
          refine xg_t (xg_blq rfl) ?_
          exact xg_e ⟨0, w33, ⟨rfl, rfl⟩, by first | decide | omega, hI35, (hF36.up (by decide))⟩
theorem scToMend (hI : xInv w)  : xPi (d + 2) mX11_cracksToMend [(2, 0)] w bd fc rr (fun n w' => (n ≤ 4294967295) ∧ xInv w' ∧ xFr [] w w') := by
  refine xPi.of ?_
  show xTo (d + 2) mX11_cracksToMend (0, [], [(0, (2, 0))], [], (w, bd, fc, 0, 0, rr)) (fun φ => ∃ n w', xEnd 1 [(0, n)] (w', bd, fc, 0, 0, rr) φ ∧ (n ≤ 4294967295) ∧ xInv w' ∧ xFr [] w w')
  have h0_1 := (xqc0 hI : cp0 (wget w 0))
  refine xoC1 (xqc1 hI : cp1 (wget w 1)) (fun f1_2 f1_4 f1_6 f1_8 f1_10 f1_12 h1_14 hb3 hb5 hb7 hb9 hb11 hb13 => ?_)
  refine xoC3 (xqc3 hI : cp3 (wget w 3)) (fun f3_15 f3_17 f3_19 f3_21 f3_23 h3_25 hb16 hb18 hb20 hb22 hb24 => ?_)
  obtain ⟨f14_26, h14_28, hb27⟩ := (xqc14 hI : cp14 (wget w 14))
  refine xoI (xqc15 hI : cpI 200 6 4294967295 (wget w 15)) (fun g15_29 h15_30 hb31 => ?_)
  refine xg_t (xg_blq rfl) ?_
  refine xg_t (xg_const) ?_
  refine xg_t (xg_istore (l1 := [(0, (2, 0))]) rfl rfl rfl) ?_
  refine xg_t (xg_const) ?_
  refine xg_t (xg_istore (l1 := [(1, (0, 0)), (0, (2, 0))]) rfl rfl rfl) ?_
  refine xg_t (xg_drop (l1 := [(0, (2, 0)), (1, (0, 0)), (2, (0, 0))]) (List.forall_mem_cons.mpr ⟨List.mem_cons_of_mem _ (List.mem_cons_of_mem _ (List.mem_cons_self)), List.forall_mem_cons.mpr ⟨List.mem_cons_of_mem _ (List.mem_cons_self), List.forall_mem_cons.mpr ⟨List.mem_cons_self, fun _ h => absurd h List.not_mem_nil⟩⟩⟩)) ?_
  have key32 : ∀ (m34 : Nat) (se ki : Nat) (w35 : List (List xE)), 40 - ki < m34 → se ≤ 4294967295 → ki ≤ 40 → xInv w35 → xFr [] w w35 → xTo (d + 2) mX11_cracksToMend (4, [], [(0, (2, 0)), (1, (0, se)), (2, (0, ki))], [], (w35, bd, fc, 0, 0, rr)) (fun φ => ∃ n w', xEnd 1 [(0, n)] (w', bd, fc, 0, 0, rr) φ ∧ (n ≤ 4294967295) ∧ xInv w' ∧ xFr [] w w') := by
    intro m34
    induction m34 with
    | zero => intro se ki w35 hz; exact absurd hz (Nat.not_lt_zero _)
    | succ m34 ih33 =>
      intro se ki w35 hm40 hn38 hn39 hI36 hF37
      refine xg_t (xg_blq rfl) ?_
      refine xg_t (xg_iload (va := (0, ki)) rfl rfl) ?_
      refine xg_t (xg_aload (va := (2, 0)) rfl rfl) ?_
      refine xg_t (xg_getf (va := (2, 1)) (hF37.get (by decide) h0_1) rfl) ?_
      refine xg_cVi mX9_cracksInView (vs := []) (rest := [(0, ki)]) (cn1 := 0) (sl1 := 0) rfl (tdCracksInView (hI36)) rfl (hF37.get (by decide) h1_14) rfl rfl rfl rfl rfl rfl (fun n45 w41 hq42 => ?_)
      obtain ⟨hn46, hI43, hF44⟩ := hq42
      by_cases hc47 : ki < n45
      · refine xg_t (xg_icF (u := ki) (v := n45) rfl xnm0 xnm0 (xj_geF hc47 (by omega))) ?_
        refine xg_t (xg_iload (va := (0, ki)) rfl rfl) ?_
        refine xg_t (xg_bip) ?_
        by_cases hc48 : ki < 10
        · refine xg_t (xg_icF (u := ki) (v := 10) rfl xnm0 xnm0 (xj_geF hc48 (by omega))) ?_
          refine xg_t (xg_aload (va := (2, 0)) rfl rfl) ?_
          refine xg_t (xg_getf (va := (2, 1)) (hF44.get (by decide) (hF37.get (by decide) h0_1)) rfl) ?_
          refine xg_t (xg_getf (va := (2, 14)) (hF44.get (by decide) (hF37.get (by decide) h1_14)) rfl) ?_
          refine xg_t (xg_iload (va := (0, ki)) rfl rfl) ?_
          refine xg_t (xg_const) ?_
          refine xg_k (xg_cVr mX5_get (vs := [(0, ki), (0, 0)]) (rest := []) (rs := [(0, if ki < f14_26 ∧ 0 < 5 then g15_29 (ki * 5 + 0) else 4294967295)]) (cn1 := 0) (sl1 := 0) rfl (rget_ok (lim := 40) (wd := 5) (sz := f14_26) (hF44.get (by decide) (hF37.get (by decide) h14_28)) ((h15_30.fr hF37 (by decide)).fr hF44 (by decide)) (by decide) (by omega) (by decide) (by decide) (by omega) (by omega)) rfl (hF44.get (by decide) (hF37.get (by decide) h14_28)) rfl rfl rfl rfl rfl rfl rfl) (xiteb (hb31)) (fun z49 hz50 => ?_)
          by_cases hc51 : z49 = 0
          · refine xg_t (xg_ifF (u := z49) rfl xnm0 (xj_neF hc51)) ?_
            refine xg_t (xg_iload (va := (0, se)) rfl rfl) ?_
            refine xg_t (xg_const) ?_
            refine xg_t (xg_iload (va := (0, ki)) rfl rfl) ?_
            refine xg_k (xg_ishlG (u := 1) (v := ki) xnm0 xnm0) (xpt_lt _) (fun z52 hz53 => ?_)
            refine xg_k (xg_ior (z := Nat.lor se z52) (u := se) (v := z52) xnm0 xnm0 rfl) (xlor_lt (by omega) (by omega)) (fun z54 hz55 => ?_)
            refine xg_t (xg_istore (l1 := [(0, (2, 0)), (2, (0, ki))]) rfl rfl rfl) ?_
            refine xg_t (xg_blq rfl) ?_
            refine xg_t (xg_iinc (u := ki) (z := ki + 1) (l1 := [(1, (0, z54)), (0, (2, 0))]) rfl rfl (by omega) rfl) ?_
            refine xg_t (xg_goto) ?_
            refine xg_t (xg_drop (l1 := [(0, (2, 0)), (1, (0, z54)), (2, (0, ki + 1))]) (List.forall_mem_cons.mpr ⟨List.mem_cons_of_mem _ (List.mem_cons_of_mem _ (List.mem_cons_self)), List.forall_mem_cons.mpr ⟨List.mem_cons_of_mem _ (List.mem_cons_self), List.forall_mem_cons.mpr ⟨List.mem_cons_self, fun _ h => absurd h List.not_mem_nil⟩⟩⟩)) ?_
            exact ih33 z54 (ki + 1) w41 (by omega) (by omega) (by omega) (hI43) ((hF37.tr (hF44.up (by decide))))
          · refine xg_t (xg_ifT (u := z49) rfl xnm0 (xj_neT hc51)) ?_
            refine xg_t (xg_blq rfl) ?_
            refine xg_t (xg_iinc (u := ki) (z := ki + 1) (l1 := [(0, (2, 0)), (1, (0, se))]) rfl rfl (by omega) rfl) ?_
            refine xg_t (xg_goto) ?_
            refine xg_t (xg_drop (l1 := [(0, (2, 0)), (1, (0, se)), (2, (0, ki + 1))]) (List.forall_mem_cons.mpr ⟨List.mem_cons_of_mem _ (List.mem_cons_self), List.forall_mem_cons.mpr ⟨List.mem_cons_of_mem _ (List.mem_cons_of_mem _ (List.mem_cons_self)), List.forall_mem_cons.mpr ⟨List.mem_cons_self, fun _ h => absurd h List.not_mem_nil⟩⟩⟩)) ?_
            exact ih33 se (ki + 1) w41 (by omega) (by omega) (by omega) (hI43) ((hF37.tr (hF44.up (by decide))))
        · refine xg_t (xg_icT (u := ki) (v := 10) rfl xnm0 xnm0 (xj_geT (by omega) (by omega))) ?_
          refine xg_t (xg_blq rfl) ?_
          refine xg_t (xg_iload (va := (0, se)) rfl rfl) ?_
          exact xg_e ⟨se, w41, ⟨rfl, rfl⟩, by omega, hI43, (hF37.tr (hF44.up (by decide)))⟩
      · refine xg_t (xg_icT (u := ki) (v := n45) rfl xnm0 xnm0 (xj_geT (by omega) (by omega))) ?_
        refine xg_t (xg_blq rfl) ?_
        refine xg_t (xg_iload (va := (0, se)) rfl rfl) ?_
        exact xg_e ⟨se, w41, ⟨rfl, rfl⟩, by omega, hI43, (hF37.tr (hF44.up (by decide)))⟩
  exact key32 _ 0 0 w (Nat.lt_succ_self _) (by omega) (by omega) (hI) (xFr.rf)
theorem scCostOf {se : Nat} (hI : xInv w) (hse : se ≤ 4294967295) : xPi (d + 1) mX11_costOf [(2, 0), (0, se)] w bd fc rr (fun n w' => (n ≤ 4294967295) ∧ xInv w' ∧ xFr [] w w') := by
  refine xPi.of ?_
  show xTo (d + 1) mX11_costOf (0, [], [(0, (2, 0)), (1, (0, se))], [], (w, bd, fc, 0, 0, rr)) (fun φ => ∃ n w', xEnd 1 [(0, n)] (w', bd, fc, 0, 0, rr) φ ∧ (n ≤ 4294967295) ∧ xInv w' ∧ xFr [] w w')
  have h0_1 := (xqc0 hI : cp0 (wget w 0))
  refine xoC1 (xqc1 hI : cp1 (wget w 1)) (fun f1_2 f1_4 f1_6 f1_8 f1_10 f1_12 h1_14 hb3 hb5 hb7 hb9 hb11 hb13 => ?_)
  refine xoC3 (xqc3 hI : cp3 (wget w 3)) (fun f3_15 f3_17 f3_19 f3_21 f3_23 h3_25 hb16 hb18 hb20 hb22 hb24 => ?_)
  obtain ⟨f14_26, h14_28, hb27⟩ := (xqc14 hI : cp14 (wget w 14))
  refine xoI (xqc15 hI : cpI 200 6 4294967295 (wget w 15)) (fun g15_29 h15_30 hb31 => ?_)
  refine xg_t (xg_blq rfl) ?_
  refine xg_t (xg_const) ?_
  refine xg_t (xg_istore (l1 := [(0, (2, 0)), (1, (0, se))]) rfl rfl rfl) ?_
  refine xg_t (xg_const) ?_
  refine xg_t (xg_istore (l1 := [(2, (0, 0)), (0, (2, 0)), (1, (0, se))]) rfl rfl rfl) ?_
  refine xg_t (xg_drop (l1 := [(0, (2, 0)), (1, (0, se)), (2, (0, 0)), (3, (0, 0))]) (List.forall_mem_cons.mpr ⟨List.mem_cons_of_mem _ (List.mem_cons_of_mem _ (List.mem_cons_self)), List.forall_mem_cons.mpr ⟨List.mem_cons_of_mem _ (List.mem_cons_of_mem _ (List.mem_cons_of_mem _ (List.mem_cons_self))), List.forall_mem_cons.mpr ⟨List.mem_cons_of_mem _ (List.mem_cons_self), List.forall_mem_cons.mpr ⟨List.mem_cons_self, fun _ h => absurd h List.not_mem_nil⟩⟩⟩⟩)) ?_
  have key32 : ∀ (m34 : Nat) (co ki : Nat) (w35 : List (List xE)), 40 - ki < m34 → co ≤ 4294967295 → ki ≤ 40 → xInv w35 → xFr [] w w35 → xTo (d + 1) mX11_costOf (4, [], [(0, (2, 0)), (1, (0, se)), (2, (0, co)), (3, (0, ki))], [], (w35, bd, fc, 0, 0, rr)) (fun φ => ∃ n w', xEnd 1 [(0, n)] (w', bd, fc, 0, 0, rr) φ ∧ (n ≤ 4294967295) ∧ xInv w' ∧ xFr [] w w') := by
    intro m34
    induction m34 with
    | zero => intro co ki w35 hz; exact absurd hz (Nat.not_lt_zero _)
    | succ m34 ih33 =>
      intro co ki w35 hm40 hn38 hn39 hI36 hF37
      refine xg_t (xg_blq rfl) ?_
      refine xg_t (xg_iload (va := (0, ki)) rfl rfl) ?_
      refine xg_t (xg_aload (va := (2, 0)) rfl rfl) ?_
      refine xg_t (xg_getf (va := (2, 1)) (hF37.get (by decide) h0_1) rfl) ?_
      refine xg_t (xg_getf (va := (2, 14)) (hF37.get (by decide) h1_14) rfl) ?_
      refine xg_t (xg_getf (va := (0, f14_26)) (hF37.get (by decide) h14_28) rfl) ?_
      by_cases hc41 : ki < f14_26
      · refine xg_t (xg_icF (u := ki) (v := f14_26) rfl xnm0 xnm0 (xj_geF hc41 (by omega))) ?_
        refine xg_t (xg_iload (va := (0, ki)) rfl rfl) ?_
        refine xg_t (xg_bip) ?_
        by_cases hc42 : ki < 10
        · refine xg_t (xg_icF (u := ki) (v := 10) rfl xnm0 xnm0 (xj_geF hc42 (by omega))) ?_
          refine xg_t (xg_iload (va := (0, se)) rfl rfl) ?_
          refine xg_t (xg_iload (va := (0, ki)) rfl rfl) ?_
          refine xg_k (xg_ishrG (u := se) (v := ki) xnm0 xnm0) (xpt_lt _) (fun z43 hz44 => ?_)
          refine xg_t (xg_const) ?_
          refine xg_k (xg_iand (z := Nat.land z43 1) (u := z43) (v := 1) xnm0 xnm0 rfl) (xland_lt (by omega)) (fun z45 hz46 => ?_)
          refine xg_t (xg_const) ?_
          by_cases hc47 : z45 = 1
          · refine xg_t (xg_icF (u := z45) (v := 1) rfl xnm0 xnm0 (xj_neF hc47)) ?_
            refine xg_t (xg_iload (va := (0, co)) rfl rfl) ?_
            refine xg_t (xg_aload (va := (2, 0)) rfl rfl) ?_
            refine xg_t (xg_getf (va := (2, 1)) (hF37.get (by decide) h0_1) rfl) ?_
            refine xg_t (xg_getf (va := (2, 14)) (hF37.get (by decide) h1_14) rfl) ?_
            refine xg_t (xg_iload (va := (0, ki)) rfl rfl) ?_
            refine xg_t (xg_const) ?_
            refine xg_k (xg_cVr mX5_get (vs := [(0, ki), (0, 4)]) (rest := [(0, co)]) (rs := [(0, if ki < f14_26 ∧ 4 < 5 then g15_29 (ki * 5 + 4) else 4294967295), (0, co)]) (cn1 := 0) (sl1 := 0) rfl (rget_ok (lim := 40) (wd := 5) (sz := f14_26) (hF37.get (by decide) h14_28) (h15_30.fr hF37 (by decide)) (by decide) (by omega) (by decide) (by decide) (by omega) (by omega)) rfl (hF37.get (by decide) h14_28) rfl rfl rfl rfl rfl rfl rfl) (xiteb (hb31)) (fun z48 hz49 => ?_)
            refine xg_k (xg_iadd (u := co) (v := z48) (z := (co + z48) % 4294967296) xnm0 xnm0 rfl) (Nat.mod_lt _ (by decide)) (fun z50 hz51 => ?_)
            refine xg_t (xg_istore (l1 := [(0, (2, 0)), (1, (0, se)), (3, (0, ki))]) rfl rfl rfl) ?_
            refine xg_t (xg_blq rfl) ?_
            refine xg_t (xg_iinc (u := ki) (z := ki + 1) (l1 := [(2, (0, z50)), (0, (2, 0)), (1, (0, se))]) rfl rfl (by omega) rfl) ?_
            refine xg_t (xg_goto) ?_
            refine xg_t (xg_drop (l1 := [(0, (2, 0)), (1, (0, se)), (2, (0, z50)), (3, (0, ki + 1))]) (List.forall_mem_cons.mpr ⟨List.mem_cons_of_mem _ (List.mem_cons_of_mem _ (List.mem_cons_self)), List.forall_mem_cons.mpr ⟨List.mem_cons_of_mem _ (List.mem_cons_of_mem _ (List.mem_cons_of_mem _ (List.mem_cons_self))), List.forall_mem_cons.mpr ⟨List.mem_cons_of_mem _ (List.mem_cons_self), List.forall_mem_cons.mpr ⟨List.mem_cons_self, fun _ h => absurd h List.not_mem_nil⟩⟩⟩⟩)) ?_
            exact ih33 z50 (ki + 1) w35 (by omega) (by omega) (by omega) (hI36) (hF37)
          · refine xg_t (xg_icT (u := z45) (v := 1) rfl xnm0 xnm0 (xj_neT hc47)) ?_
            refine xg_t (xg_blq rfl) ?_
            refine xg_t (xg_iinc (u := ki) (z := ki + 1) (l1 := [(0, (2, 0)), (1, (0, se)), (2, (0, co))]) rfl rfl (by omega) rfl) ?_
            refine xg_t (xg_goto) ?_
            refine xg_t (xg_drop (l1 := [(0, (2, 0)), (1, (0, se)), (2, (0, co)), (3, (0, ki + 1))]) (List.forall_mem_cons.mpr ⟨List.mem_cons_of_mem _ (List.mem_cons_self), List.forall_mem_cons.mpr ⟨List.mem_cons_of_mem _ (List.mem_cons_of_mem _ (List.mem_cons_self)), List.forall_mem_cons.mpr ⟨List.mem_cons_of_mem _ (List.mem_cons_of_mem _ (List.mem_cons_of_mem _ (List.mem_cons_self))), List.forall_mem_cons.mpr ⟨List.mem_cons_self, fun _ h => absurd h List.not_mem_nil⟩⟩⟩⟩)) ?_
            exact ih33 co (ki + 1) w35 (by omega) (by omega) (by omega) (hI36) (hF37)
        · refine xg_t (xg_icT (u := ki) (v := 10) rfl xnm0 xnm0 (xj_geT (by omega) (by omega))) ?_
          refine xg_t (xg_blq rfl) ?_
          refine xg_t (xg_iload (va := (0, co)) rfl rfl) ?_
          exact xg_e ⟨co, w35, ⟨rfl, rfl⟩, by omega, hI36, hF37⟩
      · refine xg_t (xg_icT (u := ki) (v := f14_26) rfl xnm0 xnm0 (xj_geT (by omega) (by omega))) ?_
        refine xg_t (xg_blq rfl) ?_
        refine xg_t (xg_iload (va := (0, co)) rfl rfl) ?_
        exact xg_e ⟨co, w35, ⟨rfl, rfl⟩, by omega, hI36, hF37⟩
  exact key32 _ 0 0 w (Nat.lt_succ_self _) (by omega) (by omega) (hI) (xFr.rf)
theorem scMend {wh : Nat} (hI : xInv w) (hwh : wh ≤ 4294967295) : xPi (d + 3) mX11_mend [(2, 0), (0, wh)] w bd fc rr (fun n w' => (n ≤ 4294967295) ∧ xInv w' ∧ xFr [] w w') := by
  refine xPi.of ?_
  show xTo (d + 3) mX11_mend (0, [], [(0, (2, 0)), (1, (0, wh))], [], (w, bd, fc, 0, 0, rr)) (fun φ => ∃ n w', xEnd 1 [(0, n)] (w', bd, fc, 0, 0, rr) φ ∧ (n ≤ 4294967295) ∧ xInv w' ∧ xFr [] w w')
  refine xg_t (xg_blq rfl) ?_
  refine xg_t (xg_aload (va := (2, 0)) rfl rfl) ?_
  have h0_1 := (xqc0 hI : cp0 (wget w 0))
  refine xg_t (xg_getf (va := (2, 1)) h0_1 rfl) ?_
  refine xoC1 (xqc1 hI : cp1 (wget w 1)) (fun f1_2 f1_4 f1_6 f1_8 f1_10 f1_12 h1_14 hb3 hb5 hb7 hb9 hb11 hb13 => ?_)
  refine xg_cVi mX9_cracksInView (vs := []) (rest := []) (cn1 := 0) (sl1 := 0) rfl (tdCracksInView (hI)) rfl h1_14 rfl rfl rfl rfl rfl rfl (fun n19 w15 hq16 => ?_)
  obtain ⟨hn20, hI17, hF18⟩ := hq16
  refine xg_t (xg_bip) ?_
  by_cases hc21 : 10 < n19
  · refine xg_t (xg_icF (u := n19) (v := 10) rfl xnm0 xnm0 (xj_leF hc21 (by omega))) ?_
    refine xg_t (xg_const) ?_
    exact xg_e ⟨4294967295, w15, ⟨rfl, rfl⟩, by first | decide | omega, hI17, (hF18.up (by decide))⟩
  · refine xg_t (xg_icT (u := n19) (v := 10) rfl xnm0 xnm0 (xj_leT (by omega) (by omega))) ?_
    refine xg_t (xg_blq rfl) ?_
    refine xg_t (xg_aload (va := (2, 0)) rfl rfl) ?_
    refine xg_cVi mX11_cracksToMend (vs := []) (rest := []) (cn1 := 0) (sl1 := 0) rfl (scToMend (hI17)) rfl (hF18.get (by decide) h0_1) rfl rfl rfl rfl rfl rfl (fun n26 w22 hq23 => ?_)
    obtain ⟨hn27, hI24, hF25⟩ := hq23
    refine xg_t (xg_istore (l1 := [(0, (2, 0)), (1, (0, wh))]) rfl rfl rfl) ?_
    refine xg_t (xg_iload (va := (0, wh)) rfl rfl) ?_
    by_cases hc28 : wh = 0
    · refine xg_t (xg_swt (ks := [(0, 48), (1, 54), (2, 59)]) (u := wh) (z := 48) rfl rfl rfl xnm0 (xsw_y hc28)) ?_
      refine xg_t (xg_blq rfl) ?_
      refine xg_t (xg_aload (va := (2, 0)) rfl rfl) ?_
      refine xg_t (xg_iload (va := (0, n26)) rfl rfl) ?_
      refine xg_cVi mX11_costOf (vs := [(0, n26)]) (rest := []) (cn1 := 0) (sl1 := 0) rfl (scCostOf (hI24) (by omega)) rfl (hF25.get (by decide) (hF18.get (by decide) h0_1)) rfl rfl rfl rfl rfl rfl (fun n33 w29 hq30 => ?_)
      obtain ⟨hn34, hI31, hF32⟩ := hq30
      exact xg_e ⟨n33, w29, ⟨rfl, rfl⟩, by omega, hI31, (((hF18.up (by decide)).tr (hF25.up (by decide))).tr (hF32.up (by decide)))⟩
    · by_cases hc35 : wh = 1
      · refine xg_t (xg_swt (ks := [(0, 48), (1, 54), (2, 59)]) (u := wh) (z := 54) rfl rfl rfl xnm0 (xsw_n hc28 (xsw_y hc35))) ?_
        refine xg_t (xg_blq rfl) ?_
        refine xg_t (xg_iload (va := (0, n26)) rfl rfl) ?_
        refine xg_cSi mJ6_bitCount_0f7a4 (vs := [(0, n26)]) (rest := []) (cn1 := 0) (sl1 := 0) rfl (jbBitCount (hI24) (by omega)) rfl rfl rfl rfl rfl rfl rfl (fun n40 w36 hq37 => ?_)
        obtain ⟨hn41, hI38, hF39⟩ := hq37
        exact xg_e ⟨n40, w36, ⟨rfl, rfl⟩, by omega, hI38, (((hF18.up (by decide)).tr (hF25.up (by decide))).tr (hF39.up (by decide)))⟩
      · by_cases hc42 : wh = 2
        · refine xg_t (xg_swt (ks := [(0, 48), (1, 54), (2, 59)]) (u := wh) (z := 59) rfl rfl rfl xnm0 (xsw_n hc28 (xsw_n hc35 (xsw_y hc42)))) ?_
          refine xg_t (xg_blq rfl) ?_
          refine xg_t (xg_iload (va := (0, n26)) rfl rfl) ?_
          exact xg_e ⟨n26, w22, ⟨rfl, rfl⟩, by omega, hI24, ((hF18.up (by decide)).tr (hF25.up (by decide)))⟩
        · refine xg_t (xg_swt (ks := [(0, 48), (1, 54), (2, 59)]) (u := wh) (z := 61) rfl rfl rfl xnm0 (xsw_n hc28 (xsw_n hc35 (xsw_n hc42 (xsw_d))))) ?_
          refine xg_t (xg_blq rfl) ?_
          refine xg_t (xg_const) ?_
          exact xg_e ⟨4294967295, w22, ⟨rfl, rfl⟩, by first | decide | omega, hI24, ((hF18.up (by decide)).tr (hF25.up (by decide)))⟩
theorem scShift (hI : xInv w)  : xPi (d + 4) mX11_shift [(2, 0)] w bd fc rr (fun n w' => (n ≤ 4294967295) ∧ xInv w' ∧ xFr [68, 69] w w') := by
  refine xPi.of ?_
  show xTo (d + 4) mX11_shift (0, [], [(0, (2, 0))], [], (w, bd, fc, 0, 0, rr)) (fun φ => ∃ n w', xEnd 1 [(0, n)] (w', bd, fc, 0, 0, rr) φ ∧ (n ≤ 4294967295) ∧ xInv w' ∧ xFr [68, 69] w w')
  refine xg_t (xg_blq rfl) ?_
  refine xg_t (xg_aload (va := (2, 0)) rfl rfl) ?_
  have h0_1 := (xqc0 hI : cp0 (wget w 0))
  refine xg_t (xg_getf (va := (2, 1)) h0_1 rfl) ?_
  refine xoC1 (xqc1 hI : cp1 (wget w 1)) (fun f1_2 f1_4 f1_6 f1_8 f1_10 f1_12 h1_14 hb3 hb5 hb7 hb9 hb11 hb13 => ?_)
  refine xg_t (xg_getf (va := (2, 16)) h1_14 rfl) ?_
  obtain ⟨f16_15, h16_17, hb16⟩ := (xqc16 hI : cp16 (wget w 16))
  refine xg_t (xg_getf (va := (0, f16_15)) h16_17 rfl) ?_
  by_cases hc18 : f16_15 = 0
  · refine xg_t (xg_ifF (u := f16_15) rfl xnm0 (xj_neF hc18)) ?_
    refine xg_t (xg_const) ?_
    exact xg_e ⟨4294967295, w, ⟨rfl, rfl⟩, by first | decide | omega, hI, xFr.rf⟩
  · refine xg_t (xg_ifT (u := f16_15) rfl xnm0 (xj_neT hc18)) ?_
    refine xg_t (xg_blq rfl) ?_
    refine xg_t (xg_aload (va := (2, 0)) rfl rfl) ?_
    refine xg_t (xg_getf (va := (2, 68)) h0_1 rfl) ?_
    refine xoC68 (xqc68 hI : cp68 (wget w 68)) (fun f68_19 f68_21 h68_23 hb20 hb22 => ?_)
    refine xg_cVv mX3_refreshAges (vs := []) (rest := []) (cn1 := 0) (sl1 := 0) rfl (lmRefreshAges (hI)) rfl h68_23 rfl rfl rfl rfl rfl rfl (fun w24 hq25 => ?_)
    obtain ⟨hI26, hF27⟩ := hq25
    refine xg_t (xg_const) ?_
    refine xg_t (xg_istore (l1 := [(0, (2, 0))]) rfl rfl rfl) ?_
    refine xg_t (xg_aload (va := (2, 0)) rfl rfl) ?_
    refine xg_t (xg_getf (va := (2, 68)) (hF27.get (by decide) h0_1) rfl) ?_
    refine xg_t (xg_const) ?_
    refine xoC68 (xqc68 hI26 : cp68 (wget w24 68)) (fun f68_28 f68_30 h68_32 hb29 hb31 => ?_)
    refine xg_cVi mX3_roundsWith (vs := [(0, 0)]) (rest := []) (cn1 := 0) (sl1 := 0) rfl (lmRoundsWith (hI26) (by omega)) rfl h68_32 rfl rfl rfl rfl rfl rfl (fun n37 w33 hq34 => ?_)
    obtain ⟨hn38, hI35, hF36⟩ := hq34
    refine xg_t (xg_istore (l1 := [(1, (0, 0)), (0, (2, 0))]) rfl rfl rfl) ?_
    refine xg_t (xg_const) ?_
    refine xg_t (xg_istore (l1 := [(2, (0, n37)), (1, (0, 0)), (0, (2, 0))]) rfl rfl rfl) ?_
    refine xg_t (xg_drop (l1 := [(0, (2, 0)), (1, (0, 0)), (2, (0, n37)), (3, (0, 1))]) (List.forall_mem_cons.mpr ⟨List.mem_cons_of_mem _ (List.mem_cons_of_mem _ (List.mem_cons_of_mem _ (List.mem_cons_self))), List.forall_mem_cons.mpr ⟨List.mem_cons_of_mem _ (List.mem_cons_of_mem _ (List.mem_cons_self)), List.forall_mem_cons.mpr ⟨List.mem_cons_of_mem _ (List.mem_cons_self), List.forall_mem_cons.mpr ⟨List.mem_cons_self, fun _ h => absurd h List.not_mem_nil⟩⟩⟩⟩)) ?_
    have key39 : ∀ (m41 : Nat) (be br sh : Nat) (w42 : List (List xE)), 6 - sh < m41 → be ≤ 5 → br ≤ 4294967295 → sh ≤ 6 → xInv w42 → xFr [68, 69] w w42 → 1 ≤ sh → xTo (d + 4) mX11_shift (35, [], [(0, (2, 0)), (1, (0, be)), (2, (0, br)), (3, (0, sh))], [], (w42, bd, fc, 0, 0, rr)) (fun φ => ∃ n w', xEnd 1 [(0, n)] (w', bd, fc, 0, 0, rr) φ ∧ (n ≤ 4294967295) ∧ xInv w' ∧ xFr [68, 69] w w') := by
      intro m41
      induction m41 with
      | zero => intro be br sh w42 hz; exact absurd hz (Nat.not_lt_zero _)
      | succ m41 ih40 =>
        intro be br sh w42 hm49 hn45 hn46 hn47 hI43 hF44 he48
        refine xg_t (xg_blq rfl) ?_
        refine xg_t (xg_iload (va := (0, sh)) rfl rfl) ?_
        refine xg_t (xg_const) ?_
        by_cases hc50 : 5 < sh
        · refine xg_t (xg_icT (u := sh) (v := 5) rfl xnm0 xnm0 (xj_gtT hc50 (by omega))) ?_
          refine xg_t (xg_blq rfl) ?_
          refine xg_t (xg_iload (va := (0, be)) rfl rfl) ?_
          exact xg_e ⟨be, w42, ⟨rfl, rfl⟩, by omega, hI43, hF44⟩
        · refine xg_t (xg_icF (u := sh) (v := 5) rfl xnm0 xnm0 (xj_gtF (by omega) (by omega))) ?_
          refine xg_t (xg_aload (va := (2, 0)) rfl rfl) ?_
          refine xg_t (xg_getf (va := (2, 68)) (hF44.get (by decide) h0_1) rfl) ?_
          refine xg_t (xg_iload (va := (0, sh)) rfl rfl) ?_
          refine xoC68 (xqc68 hI43 : cp68 (wget w42 68)) (fun f68_51 f68_53 h68_55 hb52 hb54 => ?_)
          refine xg_cVi mX3_roundsWith (vs := [(0, sh)]) (rest := []) (cn1 := 0) (sl1 := 0) rfl (lmRoundsWith (hI43) (by omega)) rfl h68_55 rfl rfl rfl rfl rfl rfl (fun n60 w56 hq57 => ?_)
          obtain ⟨hn61, hI58, hF59⟩ := hq57
          refine xg_t (xg_istore (l1 := [(0, (2, 0)), (1, (0, be)), (2, (0, br)), (3, (0, sh))]) rfl rfl rfl) ?_
          refine xg_t (xg_iload (va := (0, n60)) rfl rfl) ?_
          refine xg_t (xg_iload (va := (0, br)) rfl rfl) ?_
          by_cases hc62 : xbs br < xbs n60
          · have hc62u := hc62
            unfold xbs at hc62u
            refine xg_t (xg_icF (u := n60) (v := br) rfl xnm0 xnm0 (xjs_leF hc62)) ?_
            refine xg_t (xg_iload (va := (0, sh)) rfl rfl) ?_
            refine xg_t (xg_istore (l1 := [(4, (0, n60)), (0, (2, 0)), (2, (0, br)), (3, (0, sh))]) rfl rfl rfl) ?_
            refine xg_t (xg_iload (va := (0, n60)) rfl rfl) ?_
            refine xg_t (xg_istore (l1 := [(1, (0, sh)), (4, (0, n60)), (0, (2, 0)), (3, (0, sh))]) rfl rfl rfl) ?_
            refine xg_t (xg_blq rfl) ?_
            refine xg_t (xg_iinc (u := sh) (z := sh + 1) (l1 := [(2, (0, n60)), (1, (0, sh)), (4, (0, n60)), (0, (2, 0))]) rfl rfl (by omega) rfl) ?_
            refine xg_t (xg_goto) ?_
            refine xg_t (xg_drop (l1 := [(0, (2, 0)), (1, (0, sh)), (2, (0, n60)), (3, (0, sh + 1))]) (List.forall_mem_cons.mpr ⟨List.mem_cons_of_mem _ (List.mem_cons_of_mem _ (List.mem_cons_of_mem _ (List.mem_cons_of_mem _ (List.mem_cons_self)))), List.forall_mem_cons.mpr ⟨List.mem_cons_of_mem _ (List.mem_cons_of_mem _ (List.mem_cons_self)), List.forall_mem_cons.mpr ⟨List.mem_cons_of_mem _ (List.mem_cons_self), List.forall_mem_cons.mpr ⟨List.mem_cons_self, fun _ h => absurd h List.not_mem_nil⟩⟩⟩⟩)) ?_
            exact ih40 sh n60 (sh + 1) w56 (by omega) (by omega) (by omega) (by omega) (hI58) ((hF44.tr (hF59.up (by decide)))) (by omega)
          · have hc62u := hc62
            unfold xbs at hc62u
            refine xg_t (xg_icT (u := n60) (v := br) rfl xnm0 xnm0 (xjs_leT hc62)) ?_
            refine xg_t (xg_blq rfl) ?_
            refine xg_t (xg_iinc (u := sh) (z := sh + 1) (l1 := [(4, (0, n60)), (0, (2, 0)), (1, (0, be)), (2, (0, br))]) rfl rfl (by omega) rfl) ?_
            refine xg_t (xg_goto) ?_
            refine xg_t (xg_drop (l1 := [(0, (2, 0)), (1, (0, be)), (2, (0, br)), (3, (0, sh + 1))]) (List.forall_mem_cons.mpr ⟨List.mem_cons_of_mem _ (List.mem_cons_of_mem _ (List.mem_cons_self)), List.forall_mem_cons.mpr ⟨List.mem_cons_of_mem _ (List.mem_cons_of_mem _ (List.mem_cons_of_mem _ (List.mem_cons_self))), List.forall_mem_cons.mpr ⟨List.mem_cons_of_mem _ (List.mem_cons_of_mem _ (List.mem_cons_of_mem _ (List.mem_cons_of_mem _ (List.mem_cons_self)))), List.forall_mem_cons.mpr ⟨List.mem_cons_self, fun _ h => absurd h List.not_mem_nil⟩⟩⟩⟩)) ?_
            exact ih40 be br (sh + 1) w56 (by omega) (by omega) (by omega) (by omega) (hI58) ((hF44.tr (hF59.up (by decide)))) (by omega)
    exact key39 _ 0 n37 1 w33 (Nat.lt_succ_self _) (by omega) (by omega) (by omega) (hI35) (((hF27.up (by decide)).tr (hF36.up (by decide)))) (by omega)
theorem scValue {xx yy wi hi : Nat} (hI : xInv w) (hxx : xx ≤ 4294967295) (hyy : yy ≤ 4294967295) (hwi : wi ≤ 4294967295) (hhi : hi ≤ 4294967295) : xPi (d + 4) mX11_value [(2, 0), (0, xx), (0, yy), (0, wi), (0, hi)] w bd fc rr (fun n w' => (n ≤ 4294967295) ∧ xInv w' ∧ xFr [72, 73] w w') := by
  refine xPi.of ?_
  show xTo (d + 4) mX11_value (0, [], [(0, (2, 0)), (1, (0, xx)), (2, (0, yy)), (3, (0, wi)), (4, (0, hi))], [], (w, bd, fc, 0, 0, rr)) (fun φ => ∃ n w', xEnd 1 [(0, n)] (w', bd, fc, 0, 0, rr) φ ∧ (n ≤ 4294967295) ∧ xInv w' ∧ xFr [72, 73] w w')
  have h0_1 := (xqc0 hI : cp0 (wget w 0))
  refine xoC1 (xqc1 hI : cp1 (wget w 1)) (fun f1_2 f1_4 f1_6 f1_8 f1_10 f1_12 h1_14 hb3 hb5 hb7 hb9 hb11 hb13 => ?_)
  refine xoC3 (xqc3 hI : cp3 (wget w 3)) (fun f3_15 f3_17 f3_19 f3_21 f3_23 h3_25 hb16 hb18 hb20 hb22 hb24 => ?_)
  refine xg_t (xg_blq rfl) ?_
  refine xg_t (xg_iload (va := (0, xx)) rfl rfl) ?_
  by_cases hc26 : xx < 2147483648
  · refine xg_t (xg_ifF (u := xx) rfl xnm0 (xjz_ltF hc26)) ?_
    refine xg_t (xg_iload (va := (0, wi)) rfl rfl) ?_
    refine xg_t (xg_const) ?_
    by_cases hc27 : xbs wi < xbs 1
    · have hc27u := hc27
      unfold xbs at hc27u
      refine xg_t (xg_icT (u := wi) (v := 1) rfl xnm0 xnm0 (xjs_ltT hc27)) ?_
      refine xg_t (xg_blq rfl) ?_
      refine xg_t (xg_const) ?_
      refine xg_t (xg_blq rfl) ?_
      refine xg_t (xg_istore (l1 := [(0, (2, 0)), (1, (0, xx)), (2, (0, yy)), (3, (0, wi)), (4, (0, hi))]) rfl rfl rfl) ?_
      refine xg_t (xg_iload (va := (0, yy)) rfl rfl) ?_
      by_cases hc28 : yy < 2147483648
      · refine xg_t (xg_ifF (u := yy) rfl xnm0 (xjz_ltF hc28)) ?_
        refine xg_t (xg_iload (va := (0, hi)) rfl rfl) ?_
        refine xg_t (xg_const) ?_
        by_cases hc29 : xbs hi < xbs 1
        · have hc29u := hc29
          unfold xbs at hc29u
          refine xg_t (xg_icT (u := hi) (v := 1) rfl xnm0 xnm0 (xjs_ltT hc29)) ?_
          refine xg_t (xg_blq rfl) ?_
          refine xg_t (xg_const) ?_
          refine xg_t (xg_blq rfl) ?_
          refine xg_t (xg_istore (l1 := [(5, (0, 0)), (0, (2, 0)), (1, (0, xx)), (2, (0, yy)), (3, (0, wi)), (4, (0, hi))]) rfl rfl rfl) ?_
          refine xg_t (xg_iload (va := (0, 0)) rfl rfl) ?_
          refine xg_t (xg_ifT (u := 0) rfl xnm0 (by decide)) ?_
          refine xg_t (xg_blq rfl) ?_
          refine xg_t (xg_const) ?_
          exact xg_e ⟨4294967295, w, ⟨rfl, rfl⟩, by first | decide | omega, hI, xFr.rf⟩
        · have hc29u := hc29
          unfold xbs at hc29u
          have hn30 : hi ≤ 2147483647 := by omega
          refine xg_t (xg_icF (u := hi) (v := 1) rfl xnm0 xnm0 (xjs_ltF hc29)) ?_
          refine xg_t (xg_iload (va := (0, hi)) rfl rfl) ?_
          refine xg_t (xg_aload (va := (2, 0)) rfl rfl) ?_
          refine xg_t (xg_getf (va := (2, 1)) h0_1 rfl) ?_
          refine xg_t (xg_getf (va := (2, 3)) h1_14 rfl) ?_
          refine xg_t (xg_getf (va := (0, f3_17)) h3_25 rfl) ?_
          by_cases hc31 : f3_17 < hi
          · refine xg_t (xg_icT (u := hi) (v := f3_17) rfl xnm0 xnm0 (xj_gtT hc31 (by omega))) ?_
            refine xg_t (xg_blq rfl) ?_
            refine xg_t (xg_const) ?_
            refine xg_t (xg_blq rfl) ?_
            refine xg_t (xg_istore (l1 := [(5, (0, 0)), (0, (2, 0)), (1, (0, xx)), (2, (0, yy)), (3, (0, wi)), (4, (0, hi))]) rfl rfl rfl) ?_
            refine xg_t (xg_iload (va := (0, 0)) rfl rfl) ?_
            refine xg_t (xg_ifT (u := 0) rfl xnm0 (by decide)) ?_
            refine xg_t (xg_blq rfl) ?_
            refine xg_t (xg_const) ?_
            exact xg_e ⟨4294967295, w, ⟨rfl, rfl⟩, by first | decide | omega, hI, xFr.rf⟩
          · refine xg_t (xg_icF (u := hi) (v := f3_17) rfl xnm0 xnm0 (xj_gtF (by omega) (by omega))) ?_
            refine xg_t (xg_iload (va := (0, yy)) rfl rfl) ?_
            refine xg_t (xg_aload (va := (2, 0)) rfl rfl) ?_
            refine xg_t (xg_getf (va := (2, 1)) h0_1 rfl) ?_
            refine xg_t (xg_getf (va := (2, 3)) h1_14 rfl) ?_
            refine xg_t (xg_getf (va := (0, f3_17)) h3_25 rfl) ?_
            refine xg_t (xg_iload (va := (0, hi)) rfl rfl) ?_
            by_cases hc32 : hi ≤ f3_17
            · refine xg_t (xg_isub (u := f3_17) (v := hi) (z := f3_17 - hi) xnm0 xnm0 (by omega)) ?_
              by_cases hc33 : (f3_17 - hi) < yy
              · refine xg_t (xg_icT (u := yy) (v := f3_17 - hi) rfl xnm0 xnm0 (xj_gtT hc33 (by omega))) ?_
                refine xg_t (xg_blq rfl) ?_
                refine xg_t (xg_const) ?_
                refine xg_t (xg_blq rfl) ?_
                refine xg_t (xg_istore (l1 := [(5, (0, 0)), (0, (2, 0)), (1, (0, xx)), (2, (0, yy)), (3, (0, wi)), (4, (0, hi))]) rfl rfl rfl) ?_
                refine xg_t (xg_iload (va := (0, 0)) rfl rfl) ?_
                refine xg_t (xg_ifT (u := 0) rfl xnm0 (by decide)) ?_
                refine xg_t (xg_blq rfl) ?_
                refine xg_t (xg_const) ?_
                exact xg_e ⟨4294967295, w, ⟨rfl, rfl⟩, by first | decide | omega, hI, xFr.rf⟩
              · refine xg_t (xg_icF (u := yy) (v := f3_17 - hi) rfl xnm0 xnm0 (xj_gtF (by omega) (by omega))) ?_
                refine xg_t (xg_const) ?_
                refine xg_t (xg_goto) ?_
                refine xg_t (xg_blq rfl) ?_
                refine xg_t (xg_istore (l1 := [(5, (0, 0)), (0, (2, 0)), (1, (0, xx)), (2, (0, yy)), (3, (0, wi)), (4, (0, hi))]) rfl rfl rfl) ?_
                refine xg_t (xg_iload (va := (0, 0)) rfl rfl) ?_
                refine xg_t (xg_ifT (u := 0) rfl xnm0 (by decide)) ?_
                refine xg_t (xg_blq rfl) ?_
                refine xg_t (xg_const) ?_
                exact xg_e ⟨4294967295, w, ⟨rfl, rfl⟩, by first | decide | omega, hI, xFr.rf⟩
            · have hz36 : 4294967287 ≤ (f3_17 + (4294967296 - hi)) % 4294967296 := by omega
              refine xg_t (xg_isub (u := f3_17) (v := hi) (z := (f3_17 + (4294967296 - hi)) % 4294967296) xnm0 xnm0 rfl) ?_
              have hz35 : (f3_17 + (4294967296 - hi)) % 4294967296 < 4294967296 := Nat.mod_lt _ (by decide)
              generalize (f3_17 + (4294967296 - hi)) % 4294967296 = z34 at hz36 hz35 ⊢
              refine xg_t (xg_icT (u := yy) (v := z34) rfl xnm0 xnm0 (xjs_gtT (by unfold xbs; omega))) ?_
              refine xg_t (xg_blq rfl) ?_
              refine xg_t (xg_const) ?_
              refine xg_t (xg_blq rfl) ?_
              refine xg_t (xg_istore (l1 := [(5, (0, 0)), (0, (2, 0)), (1, (0, xx)), (2, (0, yy)), (3, (0, wi)), (4, (0, hi))]) rfl rfl rfl) ?_
              refine xg_t (xg_iload (va := (0, 0)) rfl rfl) ?_
              refine xg_t (xg_ifT (u := 0) rfl xnm0 (by decide)) ?_
              refine xg_t (xg_blq rfl) ?_
              refine xg_t (xg_const) ?_
              exact xg_e ⟨4294967295, w, ⟨rfl, rfl⟩, by first | decide | omega, hI, xFr.rf⟩
      · refine xg_t (xg_ifT (u := yy) rfl xnm0 (xjz_ltT (by omega) (by omega))) ?_
        refine xg_t (xg_blq rfl) ?_
        refine xg_t (xg_const) ?_
        refine xg_t (xg_blq rfl) ?_
        refine xg_t (xg_istore (l1 := [(5, (0, 0)), (0, (2, 0)), (1, (0, xx)), (2, (0, yy)), (3, (0, wi)), (4, (0, hi))]) rfl rfl rfl) ?_
        refine xg_t (xg_iload (va := (0, 0)) rfl rfl) ?_
        refine xg_t (xg_ifT (u := 0) rfl xnm0 (by decide)) ?_
        refine xg_t (xg_blq rfl) ?_
        refine xg_t (xg_const) ?_
        exact xg_e ⟨4294967295, w, ⟨rfl, rfl⟩, by first | decide | omega, hI, xFr.rf⟩
    · have hc27u := hc27
      unfold xbs at hc27u
      have hn37 : wi ≤ 2147483647 := by omega
      refine xg_t (xg_icF (u := wi) (v := 1) rfl xnm0 xnm0 (xjs_ltF hc27)) ?_
      refine xg_t (xg_iload (va := (0, wi)) rfl rfl) ?_
      refine xg_t (xg_aload (va := (2, 0)) rfl rfl) ?_
      refine xg_t (xg_getf (va := (2, 1)) h0_1 rfl) ?_
      refine xg_t (xg_getf (va := (2, 3)) h1_14 rfl) ?_
      refine xg_t (xg_getf (va := (0, f3_15)) h3_25 rfl) ?_
      by_cases hc38 : f3_15 < wi
      · refine xg_t (xg_icT (u := wi) (v := f3_15) rfl xnm0 xnm0 (xj_gtT hc38 (by omega))) ?_
        refine xg_t (xg_blq rfl) ?_
        refine xg_t (xg_const) ?_
        refine xg_t (xg_blq rfl) ?_
        refine xg_t (xg_istore (l1 := [(0, (2, 0)), (1, (0, xx)), (2, (0, yy)), (3, (0, wi)), (4, (0, hi))]) rfl rfl rfl) ?_
        refine xg_t (xg_iload (va := (0, yy)) rfl rfl) ?_
        by_cases hc39 : yy < 2147483648
        · refine xg_t (xg_ifF (u := yy) rfl xnm0 (xjz_ltF hc39)) ?_
          refine xg_t (xg_iload (va := (0, hi)) rfl rfl) ?_
          refine xg_t (xg_const) ?_
          by_cases hc40 : xbs hi < xbs 1
          · have hc40u := hc40
            unfold xbs at hc40u
            refine xg_t (xg_icT (u := hi) (v := 1) rfl xnm0 xnm0 (xjs_ltT hc40)) ?_
            refine xg_t (xg_blq rfl) ?_
            refine xg_t (xg_const) ?_
            refine xg_t (xg_blq rfl) ?_
            refine xg_t (xg_istore (l1 := [(5, (0, 0)), (0, (2, 0)), (1, (0, xx)), (2, (0, yy)), (3, (0, wi)), (4, (0, hi))]) rfl rfl rfl) ?_
            refine xg_t (xg_iload (va := (0, 0)) rfl rfl) ?_
            refine xg_t (xg_ifT (u := 0) rfl xnm0 (by decide)) ?_
            refine xg_t (xg_blq rfl) ?_
            refine xg_t (xg_const) ?_
            exact xg_e ⟨4294967295, w, ⟨rfl, rfl⟩, by first | decide | omega, hI, xFr.rf⟩
          · have hc40u := hc40
            unfold xbs at hc40u
            have hn41 : hi ≤ 2147483647 := by omega
            refine xg_t (xg_icF (u := hi) (v := 1) rfl xnm0 xnm0 (xjs_ltF hc40)) ?_
            refine xg_t (xg_iload (va := (0, hi)) rfl rfl) ?_
            refine xg_t (xg_aload (va := (2, 0)) rfl rfl) ?_
            refine xg_t (xg_getf (va := (2, 1)) h0_1 rfl) ?_
            refine xg_t (xg_getf (va := (2, 3)) h1_14 rfl) ?_
            refine xg_t (xg_getf (va := (0, f3_17)) h3_25 rfl) ?_
            by_cases hc42 : f3_17 < hi
            · refine xg_t (xg_icT (u := hi) (v := f3_17) rfl xnm0 xnm0 (xj_gtT hc42 (by omega))) ?_
              refine xg_t (xg_blq rfl) ?_
              refine xg_t (xg_const) ?_
              refine xg_t (xg_blq rfl) ?_
              refine xg_t (xg_istore (l1 := [(5, (0, 0)), (0, (2, 0)), (1, (0, xx)), (2, (0, yy)), (3, (0, wi)), (4, (0, hi))]) rfl rfl rfl) ?_
              refine xg_t (xg_iload (va := (0, 0)) rfl rfl) ?_
              refine xg_t (xg_ifT (u := 0) rfl xnm0 (by decide)) ?_
              refine xg_t (xg_blq rfl) ?_
              refine xg_t (xg_const) ?_
              exact xg_e ⟨4294967295, w, ⟨rfl, rfl⟩, by first | decide | omega, hI, xFr.rf⟩
            · refine xg_t (xg_icF (u := hi) (v := f3_17) rfl xnm0 xnm0 (xj_gtF (by omega) (by omega))) ?_
              refine xg_t (xg_iload (va := (0, yy)) rfl rfl) ?_
              refine xg_t (xg_aload (va := (2, 0)) rfl rfl) ?_
              refine xg_t (xg_getf (va := (2, 1)) h0_1 rfl) ?_
              refine xg_t (xg_getf (va := (2, 3)) h1_14 rfl) ?_
              refine xg_t (xg_getf (va := (0, f3_17)) h3_25 rfl) ?_
              refine xg_t (xg_iload (va := (0, hi)) rfl rfl) ?_
              by_cases hc43 : hi ≤ f3_17
              · refine xg_t (xg_isub (u := f3_17) (v := hi) (z := f3_17 - hi) xnm0 xnm0 (by omega)) ?_
                by_cases hc44 : (f3_17 - hi) < yy
                · refine xg_t (xg_icT (u := yy) (v := f3_17 - hi) rfl xnm0 xnm0 (xj_gtT hc44 (by omega))) ?_
                  refine xg_t (xg_blq rfl) ?_
                  refine xg_t (xg_const) ?_
                  refine xg_t (xg_blq rfl) ?_
                  refine xg_t (xg_istore (l1 := [(5, (0, 0)), (0, (2, 0)), (1, (0, xx)), (2, (0, yy)), (3, (0, wi)), (4, (0, hi))]) rfl rfl rfl) ?_
                  refine xg_t (xg_iload (va := (0, 0)) rfl rfl) ?_
                  refine xg_t (xg_ifT (u := 0) rfl xnm0 (by decide)) ?_
                  refine xg_t (xg_blq rfl) ?_
                  refine xg_t (xg_const) ?_
                  exact xg_e ⟨4294967295, w, ⟨rfl, rfl⟩, by first | decide | omega, hI, xFr.rf⟩
                · refine xg_t (xg_icF (u := yy) (v := f3_17 - hi) rfl xnm0 xnm0 (xj_gtF (by omega) (by omega))) ?_
                  refine xg_t (xg_const) ?_
                  refine xg_t (xg_goto) ?_
                  refine xg_t (xg_blq rfl) ?_
                  refine xg_t (xg_istore (l1 := [(5, (0, 0)), (0, (2, 0)), (1, (0, xx)), (2, (0, yy)), (3, (0, wi)), (4, (0, hi))]) rfl rfl rfl) ?_
                  refine xg_t (xg_iload (va := (0, 0)) rfl rfl) ?_
                  refine xg_t (xg_ifT (u := 0) rfl xnm0 (by decide)) ?_
                  refine xg_t (xg_blq rfl) ?_
                  refine xg_t (xg_const) ?_
                  exact xg_e ⟨4294967295, w, ⟨rfl, rfl⟩, by first | decide | omega, hI, xFr.rf⟩
              · have hz47 : 4294967287 ≤ (f3_17 + (4294967296 - hi)) % 4294967296 := by omega
                refine xg_t (xg_isub (u := f3_17) (v := hi) (z := (f3_17 + (4294967296 - hi)) % 4294967296) xnm0 xnm0 rfl) ?_
                have hz46 : (f3_17 + (4294967296 - hi)) % 4294967296 < 4294967296 := Nat.mod_lt _ (by decide)
                generalize (f3_17 + (4294967296 - hi)) % 4294967296 = z45 at hz47 hz46 ⊢
                refine xg_t (xg_icT (u := yy) (v := z45) rfl xnm0 xnm0 (xjs_gtT (by unfold xbs; omega))) ?_
                refine xg_t (xg_blq rfl) ?_
                refine xg_t (xg_const) ?_
                refine xg_t (xg_blq rfl) ?_
                refine xg_t (xg_istore (l1 := [(5, (0, 0)), (0, (2, 0)), (1, (0, xx)), (2, (0, yy)), (3, (0, wi)), (4, (0, hi))]) rfl rfl rfl) ?_
                refine xg_t (xg_iload (va := (0, 0)) rfl rfl) ?_
                refine xg_t (xg_ifT (u := 0) rfl xnm0 (by decide)) ?_
                refine xg_t (xg_blq rfl) ?_
                refine xg_t (xg_const) ?_
                exact xg_e ⟨4294967295, w, ⟨rfl, rfl⟩, by first | decide | omega, hI, xFr.rf⟩
        · refine xg_t (xg_ifT (u := yy) rfl xnm0 (xjz_ltT (by omega) (by omega))) ?_
          refine xg_t (xg_blq rfl) ?_
          refine xg_t (xg_const) ?_
          refine xg_t (xg_blq rfl) ?_
          refine xg_t (xg_istore (l1 := [(5, (0, 0)), (0, (2, 0)), (1, (0, xx)), (2, (0, yy)), (3, (0, wi)), (4, (0, hi))]) rfl rfl rfl) ?_
          refine xg_t (xg_iload (va := (0, 0)) rfl rfl) ?_
          refine xg_t (xg_ifT (u := 0) rfl xnm0 (by decide)) ?_
          refine xg_t (xg_blq rfl) ?_
          refine xg_t (xg_const) ?_
          exact xg_e ⟨4294967295, w, ⟨rfl, rfl⟩, by first | decide | omega, hI, xFr.rf⟩
      · refine xg_t (xg_icF (u := wi) (v := f3_15) rfl xnm0 xnm0 (xj_gtF (by omega) (by omega))) ?_
        refine xg_t (xg_iload (va := (0, xx)) rfl rfl) ?_
        refine xg_t (xg_aload (va := (2, 0)) rfl rfl) ?_
        refine xg_t (xg_getf (va := (2, 1)) h0_1 rfl) ?_
        refine xg_t (xg_getf (va := (2, 3)) h1_14 rfl) ?_
        refine xg_t (xg_getf (va := (0, f3_15)) h3_25 rfl) ?_
        refine xg_t (xg_iload (va := (0, wi)) rfl rfl) ?_
        by_cases hc48 : wi ≤ f3_15
        · refine xg_t (xg_isub (u := f3_15) (v := wi) (z := f3_15 - wi) xnm0 xnm0 (by omega)) ?_
          by_cases hc49 : (f3_15 - wi) < xx
          · refine xg_t (xg_icT (u := xx) (v := f3_15 - wi) rfl xnm0 xnm0 (xj_gtT hc49 (by omega))) ?_
            refine xg_t (xg_blq rfl) ?_
            refine xg_t (xg_const) ?_
            refine xg_t (xg_blq rfl) ?_
            refine xg_t (xg_istore (l1 := [(0, (2, 0)), (1, (0, xx)), (2, (0, yy)), (3, (0, wi)), (4, (0, hi))]) rfl rfl rfl) ?_
            refine xg_t (xg_iload (va := (0, yy)) rfl rfl) ?_
            by_cases hc50 : yy < 2147483648
            · refine xg_t (xg_ifF (u := yy) rfl xnm0 (xjz_ltF hc50)) ?_
              refine xg_t (xg_iload (va := (0, hi)) rfl rfl) ?_
              refine xg_t (xg_const) ?_
              by_cases hc51 : xbs hi < xbs 1
              · have hc51u := hc51
                unfold xbs at hc51u
                refine xg_t (xg_icT (u := hi) (v := 1) rfl xnm0 xnm0 (xjs_ltT hc51)) ?_
                refine xg_t (xg_blq rfl) ?_
                refine xg_t (xg_const) ?_
                refine xg_t (xg_blq rfl) ?_
                refine xg_t (xg_istore (l1 := [(5, (0, 0)), (0, (2, 0)), (1, (0, xx)), (2, (0, yy)), (3, (0, wi)), (4, (0, hi))]) rfl rfl rfl) ?_
                refine xg_t (xg_iload (va := (0, 0)) rfl rfl) ?_
                refine xg_t (xg_ifT (u := 0) rfl xnm0 (by decide)) ?_
                refine xg_t (xg_blq rfl) ?_
                refine xg_t (xg_const) ?_
                exact xg_e ⟨4294967295, w, ⟨rfl, rfl⟩, by first | decide | omega, hI, xFr.rf⟩
              · have hc51u := hc51
                unfold xbs at hc51u
                have hn52 : hi ≤ 2147483647 := by omega
                refine xg_t (xg_icF (u := hi) (v := 1) rfl xnm0 xnm0 (xjs_ltF hc51)) ?_
                refine xg_t (xg_iload (va := (0, hi)) rfl rfl) ?_
                refine xg_t (xg_aload (va := (2, 0)) rfl rfl) ?_
                refine xg_t (xg_getf (va := (2, 1)) h0_1 rfl) ?_
                refine xg_t (xg_getf (va := (2, 3)) h1_14 rfl) ?_
                refine xg_t (xg_getf (va := (0, f3_17)) h3_25 rfl) ?_
                by_cases hc53 : f3_17 < hi
                · refine xg_t (xg_icT (u := hi) (v := f3_17) rfl xnm0 xnm0 (xj_gtT hc53 (by omega))) ?_
                  refine xg_t (xg_blq rfl) ?_
                  refine xg_t (xg_const) ?_
                  refine xg_t (xg_blq rfl) ?_
                  refine xg_t (xg_istore (l1 := [(5, (0, 0)), (0, (2, 0)), (1, (0, xx)), (2, (0, yy)), (3, (0, wi)), (4, (0, hi))]) rfl rfl rfl) ?_
                  refine xg_t (xg_iload (va := (0, 0)) rfl rfl) ?_
                  refine xg_t (xg_ifT (u := 0) rfl xnm0 (by decide)) ?_
                  refine xg_t (xg_blq rfl) ?_
                  refine xg_t (xg_const) ?_
                  exact xg_e ⟨4294967295, w, ⟨rfl, rfl⟩, by first | decide | omega, hI, xFr.rf⟩
                · refine xg_t (xg_icF (u := hi) (v := f3_17) rfl xnm0 xnm0 (xj_gtF (by omega) (by omega))) ?_
                  refine xg_t (xg_iload (va := (0, yy)) rfl rfl) ?_
                  refine xg_t (xg_aload (va := (2, 0)) rfl rfl) ?_
                  refine xg_t (xg_getf (va := (2, 1)) h0_1 rfl) ?_
                  refine xg_t (xg_getf (va := (2, 3)) h1_14 rfl) ?_
                  refine xg_t (xg_getf (va := (0, f3_17)) h3_25 rfl) ?_
                  refine xg_t (xg_iload (va := (0, hi)) rfl rfl) ?_
                  by_cases hc54 : hi ≤ f3_17
                  · refine xg_t (xg_isub (u := f3_17) (v := hi) (z := f3_17 - hi) xnm0 xnm0 (by omega)) ?_
                    by_cases hc55 : (f3_17 - hi) < yy
                    · refine xg_t (xg_icT (u := yy) (v := f3_17 - hi) rfl xnm0 xnm0 (xj_gtT hc55 (by omega))) ?_
                      refine xg_t (xg_blq rfl) ?_
                      refine xg_t (xg_const) ?_
                      refine xg_t (xg_blq rfl) ?_
                      refine xg_t (xg_istore (l1 := [(5, (0, 0)), (0, (2, 0)), (1, (0, xx)), (2, (0, yy)), (3, (0, wi)), (4, (0, hi))]) rfl rfl rfl) ?_
                      refine xg_t (xg_iload (va := (0, 0)) rfl rfl) ?_
                      refine xg_t (xg_ifT (u := 0) rfl xnm0 (by decide)) ?_
                      refine xg_t (xg_blq rfl) ?_
                      refine xg_t (xg_const) ?_
                      exact xg_e ⟨4294967295, w, ⟨rfl, rfl⟩, by first | decide | omega, hI, xFr.rf⟩
                    · refine xg_t (xg_icF (u := yy) (v := f3_17 - hi) rfl xnm0 xnm0 (xj_gtF (by omega) (by omega))) ?_
                      refine xg_t (xg_const) ?_
                      refine xg_t (xg_goto) ?_
                      refine xg_t (xg_blq rfl) ?_
                      refine xg_t (xg_istore (l1 := [(5, (0, 0)), (0, (2, 0)), (1, (0, xx)), (2, (0, yy)), (3, (0, wi)), (4, (0, hi))]) rfl rfl rfl) ?_
                      refine xg_t (xg_iload (va := (0, 0)) rfl rfl) ?_
                      refine xg_t (xg_ifT (u := 0) rfl xnm0 (by decide)) ?_
                      refine xg_t (xg_blq rfl) ?_
                      refine xg_t (xg_const) ?_
                      exact xg_e ⟨4294967295, w, ⟨rfl, rfl⟩, by first | decide | omega, hI, xFr.rf⟩
                  · have hz58 : 4294967287 ≤ (f3_17 + (4294967296 - hi)) % 4294967296 := by omega
                    refine xg_t (xg_isub (u := f3_17) (v := hi) (z := (f3_17 + (4294967296 - hi)) % 4294967296) xnm0 xnm0 rfl) ?_
                    have hz57 : (f3_17 + (4294967296 - hi)) % 4294967296 < 4294967296 := Nat.mod_lt _ (by decide)
                    generalize (f3_17 + (4294967296 - hi)) % 4294967296 = z56 at hz58 hz57 ⊢
                    refine xg_t (xg_icT (u := yy) (v := z56) rfl xnm0 xnm0 (xjs_gtT (by unfold xbs; omega))) ?_
                    refine xg_t (xg_blq rfl) ?_
                    refine xg_t (xg_const) ?_
                    refine xg_t (xg_blq rfl) ?_
                    refine xg_t (xg_istore (l1 := [(5, (0, 0)), (0, (2, 0)), (1, (0, xx)), (2, (0, yy)), (3, (0, wi)), (4, (0, hi))]) rfl rfl rfl) ?_
                    refine xg_t (xg_iload (va := (0, 0)) rfl rfl) ?_
                    refine xg_t (xg_ifT (u := 0) rfl xnm0 (by decide)) ?_
                    refine xg_t (xg_blq rfl) ?_
                    refine xg_t (xg_const) ?_
                    exact xg_e ⟨4294967295, w, ⟨rfl, rfl⟩, by first | decide | omega, hI, xFr.rf⟩
            · refine xg_t (xg_ifT (u := yy) rfl xnm0 (xjz_ltT (by omega) (by omega))) ?_
              refine xg_t (xg_blq rfl) ?_
              refine xg_t (xg_const) ?_
              refine xg_t (xg_blq rfl) ?_
              refine xg_t (xg_istore (l1 := [(5, (0, 0)), (0, (2, 0)), (1, (0, xx)), (2, (0, yy)), (3, (0, wi)), (4, (0, hi))]) rfl rfl rfl) ?_
              refine xg_t (xg_iload (va := (0, 0)) rfl rfl) ?_
              refine xg_t (xg_ifT (u := 0) rfl xnm0 (by decide)) ?_
              refine xg_t (xg_blq rfl) ?_
              refine xg_t (xg_const) ?_
              exact xg_e ⟨4294967295, w, ⟨rfl, rfl⟩, by first | decide | omega, hI, xFr.rf⟩
          · refine xg_t (xg_icF (u := xx) (v := f3_15 - wi) rfl xnm0 xnm0 (xj_gtF (by omega) (by omega))) ?_
            refine xg_t (xg_const) ?_
            refine xg_t (xg_goto) ?_
            refine xg_t (xg_blq rfl) ?_
            refine xg_t (xg_istore (l1 := [(0, (2, 0)), (1, (0, xx)), (2, (0, yy)), (3, (0, wi)), (4, (0, hi))]) rfl rfl rfl) ?_
            refine xg_t (xg_iload (va := (0, yy)) rfl rfl) ?_
            by_cases hc59 : yy < 2147483648
            · refine xg_t (xg_ifF (u := yy) rfl xnm0 (xjz_ltF hc59)) ?_
              refine xg_t (xg_iload (va := (0, hi)) rfl rfl) ?_
              refine xg_t (xg_const) ?_
              by_cases hc60 : xbs hi < xbs 1
              · have hc60u := hc60
                unfold xbs at hc60u
                refine xg_t (xg_icT (u := hi) (v := 1) rfl xnm0 xnm0 (xjs_ltT hc60)) ?_
                refine xg_t (xg_blq rfl) ?_
                refine xg_t (xg_const) ?_
                refine xg_t (xg_blq rfl) ?_
                refine xg_t (xg_istore (l1 := [(5, (0, 1)), (0, (2, 0)), (1, (0, xx)), (2, (0, yy)), (3, (0, wi)), (4, (0, hi))]) rfl rfl rfl) ?_
                refine xg_t (xg_iload (va := (0, 1)) rfl rfl) ?_
                refine xg_t (xg_ifF (u := 1) rfl xnm0 (by decide)) ?_
                refine xg_t (xg_iload (va := (0, 0)) rfl rfl) ?_
                refine xg_t (xg_ifF (u := 0) rfl xnm0 (by decide)) ?_
                refine xg_t (xg_blq rfl) ?_
                refine xg_t (xg_const) ?_
                exact xg_e ⟨4294967295, w, ⟨rfl, rfl⟩, by first | decide | omega, hI, xFr.rf⟩
              · have hc60u := hc60
                unfold xbs at hc60u
                have hn61 : hi ≤ 2147483647 := by omega
                refine xg_t (xg_icF (u := hi) (v := 1) rfl xnm0 xnm0 (xjs_ltF hc60)) ?_
                refine xg_t (xg_iload (va := (0, hi)) rfl rfl) ?_
                refine xg_t (xg_aload (va := (2, 0)) rfl rfl) ?_
                refine xg_t (xg_getf (va := (2, 1)) h0_1 rfl) ?_
                refine xg_t (xg_getf (va := (2, 3)) h1_14 rfl) ?_
                refine xg_t (xg_getf (va := (0, f3_17)) h3_25 rfl) ?_
                by_cases hc62 : f3_17 < hi
                · refine xg_t (xg_icT (u := hi) (v := f3_17) rfl xnm0 xnm0 (xj_gtT hc62 (by omega))) ?_
                  refine xg_t (xg_blq rfl) ?_
                  refine xg_t (xg_const) ?_
                  refine xg_t (xg_blq rfl) ?_
                  refine xg_t (xg_istore (l1 := [(5, (0, 1)), (0, (2, 0)), (1, (0, xx)), (2, (0, yy)), (3, (0, wi)), (4, (0, hi))]) rfl rfl rfl) ?_
                  refine xg_t (xg_iload (va := (0, 1)) rfl rfl) ?_
                  refine xg_t (xg_ifF (u := 1) rfl xnm0 (by decide)) ?_
                  refine xg_t (xg_iload (va := (0, 0)) rfl rfl) ?_
                  refine xg_t (xg_ifF (u := 0) rfl xnm0 (by decide)) ?_
                  refine xg_t (xg_blq rfl) ?_
                  refine xg_t (xg_const) ?_
                  exact xg_e ⟨4294967295, w, ⟨rfl, rfl⟩, by first | decide | omega, hI, xFr.rf⟩
                · refine xg_t (xg_icF (u := hi) (v := f3_17) rfl xnm0 xnm0 (xj_gtF (by omega) (by omega))) ?_
                  refine xg_t (xg_iload (va := (0, yy)) rfl rfl) ?_
                  refine xg_t (xg_aload (va := (2, 0)) rfl rfl) ?_
                  refine xg_t (xg_getf (va := (2, 1)) h0_1 rfl) ?_
                  refine xg_t (xg_getf (va := (2, 3)) h1_14 rfl) ?_
                  refine xg_t (xg_getf (va := (0, f3_17)) h3_25 rfl) ?_
                  refine xg_t (xg_iload (va := (0, hi)) rfl rfl) ?_
                  by_cases hc63 : hi ≤ f3_17
                  · refine xg_t (xg_isub (u := f3_17) (v := hi) (z := f3_17 - hi) xnm0 xnm0 (by omega)) ?_
                    by_cases hc64 : (f3_17 - hi) < yy
                    · refine xg_t (xg_icT (u := yy) (v := f3_17 - hi) rfl xnm0 xnm0 (xj_gtT hc64 (by omega))) ?_
                      refine xg_t (xg_blq rfl) ?_
                      refine xg_t (xg_const) ?_
                      refine xg_t (xg_blq rfl) ?_
                      refine xg_t (xg_istore (l1 := [(5, (0, 1)), (0, (2, 0)), (1, (0, xx)), (2, (0, yy)), (3, (0, wi)), (4, (0, hi))]) rfl rfl rfl) ?_
                      refine xg_t (xg_iload (va := (0, 1)) rfl rfl) ?_
                      refine xg_t (xg_ifF (u := 1) rfl xnm0 (by decide)) ?_
                      refine xg_t (xg_iload (va := (0, 0)) rfl rfl) ?_
                      refine xg_t (xg_ifF (u := 0) rfl xnm0 (by decide)) ?_
                      refine xg_t (xg_blq rfl) ?_
                      refine xg_t (xg_const) ?_
                      exact xg_e ⟨4294967295, w, ⟨rfl, rfl⟩, by first | decide | omega, hI, xFr.rf⟩
                    · refine xg_t (xg_icF (u := yy) (v := f3_17 - hi) rfl xnm0 xnm0 (xj_gtF (by omega) (by omega))) ?_
                      refine xg_t (xg_const) ?_
                      refine xg_t (xg_goto) ?_
                      refine xg_t (xg_blq rfl) ?_
                      refine xg_t (xg_istore (l1 := [(5, (0, 1)), (0, (2, 0)), (1, (0, xx)), (2, (0, yy)), (3, (0, wi)), (4, (0, hi))]) rfl rfl rfl) ?_
                      refine xg_t (xg_iload (va := (0, 1)) rfl rfl) ?_
                      refine xg_t (xg_ifF (u := 1) rfl xnm0 (by decide)) ?_
                      refine xg_t (xg_iload (va := (0, 1)) rfl rfl) ?_
                      refine xg_t (xg_ifT (u := 1) rfl xnm0 (by decide)) ?_
                      refine xg_t (xg_blq rfl) ?_
                      refine xg_t (xg_aload (va := (2, 0)) rfl rfl) ?_
                      refine xg_t (xg_getf (va := (2, 72)) h0_1 rfl) ?_
                      refine xoC72 (xqc72 hI : cp72 (wget w 72)) (fun f72_65 f72_67 h72_69 hb66 hb68 => ?_)
                      refine xg_cVv mX7_refreshWorth (vs := []) (rest := []) (cn1 := 0) (sl1 := 0) rfl (shRefreshWorth (hI)) rfl h72_69 rfl rfl rfl rfl rfl rfl (fun w70 hq71 => ?_)
                      obtain ⟨hI72, hF73⟩ := hq71
                      refine xg_t (xg_aload (va := (2, 0)) rfl rfl) ?_
                      refine xg_t (xg_getf (va := (2, 72)) (hF73.get (by decide) h0_1) rfl) ?_
                      refine xg_t (xg_iload (va := (0, xx)) rfl rfl) ?_
                      refine xg_t (xg_iload (va := (0, yy)) rfl rfl) ?_
                      refine xg_t (xg_iload (va := (0, wi)) rfl rfl) ?_
                      refine xg_t (xg_iload (va := (0, hi)) rfl rfl) ?_
                      refine xoC72 (xqc72 hI72 : cp72 (wget w70 72)) (fun f72_74 f72_76 h72_78 hb75 hb77 => ?_)
                      refine xg_cVi mX7_worthOf (vs := [(0, xx), (0, yy), (0, wi), (0, hi)]) (rest := []) (cn1 := 0) (sl1 := 0) rfl (shWorthOf (hI72) (by omega) (by omega) (by omega) (by omega)) rfl h72_78 rfl rfl rfl rfl rfl rfl (fun n83 w79 hq80 => ?_)
                      obtain ⟨hn84, hI81, hF82⟩ := hq80
                      exact xg_e ⟨n83, w79, ⟨rfl, rfl⟩, by omega, hI81, ((hF73.up (by decide)).tr (hF82.up (by decide)))⟩
                  · have hz87 : 4294967287 ≤ (f3_17 + (4294967296 - hi)) % 4294967296 := by omega
                    refine xg_t (xg_isub (u := f3_17) (v := hi) (z := (f3_17 + (4294967296 - hi)) % 4294967296) xnm0 xnm0 rfl) ?_
                    have hz86 : (f3_17 + (4294967296 - hi)) % 4294967296 < 4294967296 := Nat.mod_lt _ (by decide)
                    generalize (f3_17 + (4294967296 - hi)) % 4294967296 = z85 at hz87 hz86 ⊢
                    refine xg_t (xg_icT (u := yy) (v := z85) rfl xnm0 xnm0 (xjs_gtT (by unfold xbs; omega))) ?_
                    refine xg_t (xg_blq rfl) ?_
                    refine xg_t (xg_const) ?_
                    refine xg_t (xg_blq rfl) ?_
                    refine xg_t (xg_istore (l1 := [(5, (0, 1)), (0, (2, 0)), (1, (0, xx)), (2, (0, yy)), (3, (0, wi)), (4, (0, hi))]) rfl rfl rfl) ?_
                    refine xg_t (xg_iload (va := (0, 1)) rfl rfl) ?_
                    refine xg_t (xg_ifF (u := 1) rfl xnm0 (by decide)) ?_
                    refine xg_t (xg_iload (va := (0, 0)) rfl rfl) ?_
                    refine xg_t (xg_ifF (u := 0) rfl xnm0 (by decide)) ?_
                    refine xg_t (xg_blq rfl) ?_
                    refine xg_t (xg_const) ?_
                    exact xg_e ⟨4294967295, w, ⟨rfl, rfl⟩, by first | decide | omega, hI, xFr.rf⟩
            · refine xg_t (xg_ifT (u := yy) rfl xnm0 (xjz_ltT (by omega) (by omega))) ?_
              refine xg_t (xg_blq rfl) ?_
              refine xg_t (xg_const) ?_
              refine xg_t (xg_blq rfl) ?_
              refine xg_t (xg_istore (l1 := [(5, (0, 1)), (0, (2, 0)), (1, (0, xx)), (2, (0, yy)), (3, (0, wi)), (4, (0, hi))]) rfl rfl rfl) ?_
              refine xg_t (xg_iload (va := (0, 1)) rfl rfl) ?_
              refine xg_t (xg_ifF (u := 1) rfl xnm0 (by decide)) ?_
              refine xg_t (xg_iload (va := (0, 0)) rfl rfl) ?_
              refine xg_t (xg_ifF (u := 0) rfl xnm0 (by decide)) ?_
              refine xg_t (xg_blq rfl) ?_
              refine xg_t (xg_const) ?_
              exact xg_e ⟨4294967295, w, ⟨rfl, rfl⟩, by first | decide | omega, hI, xFr.rf⟩
        · have hz90 : 4294967287 ≤ (f3_15 + (4294967296 - wi)) % 4294967296 := by omega
          refine xg_t (xg_isub (u := f3_15) (v := wi) (z := (f3_15 + (4294967296 - wi)) % 4294967296) xnm0 xnm0 rfl) ?_
          have hz89 : (f3_15 + (4294967296 - wi)) % 4294967296 < 4294967296 := Nat.mod_lt _ (by decide)
          generalize (f3_15 + (4294967296 - wi)) % 4294967296 = z88 at hz90 hz89 ⊢
          refine xg_t (xg_icT (u := xx) (v := z88) rfl xnm0 xnm0 (xjs_gtT (by unfold xbs; omega))) ?_
          refine xg_t (xg_blq rfl) ?_
          refine xg_t (xg_const) ?_
          refine xg_t (xg_blq rfl) ?_
          refine xg_t (xg_istore (l1 := [(0, (2, 0)), (1, (0, xx)), (2, (0, yy)), (3, (0, wi)), (4, (0, hi))]) rfl rfl rfl) ?_
          refine xg_t (xg_iload (va := (0, yy)) rfl rfl) ?_
          by_cases hc91 : yy < 2147483648
          · refine xg_t (xg_ifF (u := yy) rfl xnm0 (xjz_ltF hc91)) ?_
            refine xg_t (xg_iload (va := (0, hi)) rfl rfl) ?_
            refine xg_t (xg_const) ?_
            by_cases hc92 : xbs hi < xbs 1
            · have hc92u := hc92
              unfold xbs at hc92u
              refine xg_t (xg_icT (u := hi) (v := 1) rfl xnm0 xnm0 (xjs_ltT hc92)) ?_
              refine xg_t (xg_blq rfl) ?_
              refine xg_t (xg_const) ?_
              refine xg_t (xg_blq rfl) ?_
              refine xg_t (xg_istore (l1 := [(5, (0, 0)), (0, (2, 0)), (1, (0, xx)), (2, (0, yy)), (3, (0, wi)), (4, (0, hi))]) rfl rfl rfl) ?_
              refine xg_t (xg_iload (va := (0, 0)) rfl rfl) ?_
              refine xg_t (xg_ifT (u := 0) rfl xnm0 (by decide)) ?_
              refine xg_t (xg_blq rfl) ?_
              refine xg_t (xg_const) ?_
              exact xg_e ⟨4294967295, w, ⟨rfl, rfl⟩, by first | decide | omega, hI, xFr.rf⟩
            · have hc92u := hc92
              unfold xbs at hc92u
              have hn93 : hi ≤ 2147483647 := by omega
              refine xg_t (xg_icF (u := hi) (v := 1) rfl xnm0 xnm0 (xjs_ltF hc92)) ?_
              refine xg_t (xg_iload (va := (0, hi)) rfl rfl) ?_
              refine xg_t (xg_aload (va := (2, 0)) rfl rfl) ?_
              refine xg_t (xg_getf (va := (2, 1)) h0_1 rfl) ?_
              refine xg_t (xg_getf (va := (2, 3)) h1_14 rfl) ?_
              refine xg_t (xg_getf (va := (0, f3_17)) h3_25 rfl) ?_
              by_cases hc94 : f3_17 < hi
              · refine xg_t (xg_icT (u := hi) (v := f3_17) rfl xnm0 xnm0 (xj_gtT hc94 (by omega))) ?_
                refine xg_t (xg_blq rfl) ?_
                refine xg_t (xg_const) ?_
                refine xg_t (xg_blq rfl) ?_
                refine xg_t (xg_istore (l1 := [(5, (0, 0)), (0, (2, 0)), (1, (0, xx)), (2, (0, yy)), (3, (0, wi)), (4, (0, hi))]) rfl rfl rfl) ?_
                refine xg_t (xg_iload (va := (0, 0)) rfl rfl) ?_
                refine xg_t (xg_ifT (u := 0) rfl xnm0 (by decide)) ?_
                refine xg_t (xg_blq rfl) ?_
                refine xg_t (xg_const) ?_
                exact xg_e ⟨4294967295, w, ⟨rfl, rfl⟩, by first | decide | omega, hI, xFr.rf⟩
              · refine xg_t (xg_icF (u := hi) (v := f3_17) rfl xnm0 xnm0 (xj_gtF (by omega) (by omega))) ?_
                refine xg_t (xg_iload (va := (0, yy)) rfl rfl) ?_
                refine xg_t (xg_aload (va := (2, 0)) rfl rfl) ?_
                refine xg_t (xg_getf (va := (2, 1)) h0_1 rfl) ?_
                refine xg_t (xg_getf (va := (2, 3)) h1_14 rfl) ?_
                refine xg_t (xg_getf (va := (0, f3_17)) h3_25 rfl) ?_
                refine xg_t (xg_iload (va := (0, hi)) rfl rfl) ?_
                by_cases hc95 : hi ≤ f3_17
                · refine xg_t (xg_isub (u := f3_17) (v := hi) (z := f3_17 - hi) xnm0 xnm0 (by omega)) ?_
                  by_cases hc96 : (f3_17 - hi) < yy
                  · refine xg_t (xg_icT (u := yy) (v := f3_17 - hi) rfl xnm0 xnm0 (xj_gtT hc96 (by omega))) ?_
                    refine xg_t (xg_blq rfl) ?_
                    refine xg_t (xg_const) ?_
                    refine xg_t (xg_blq rfl) ?_
                    refine xg_t (xg_istore (l1 := [(5, (0, 0)), (0, (2, 0)), (1, (0, xx)), (2, (0, yy)), (3, (0, wi)), (4, (0, hi))]) rfl rfl rfl) ?_
                    refine xg_t (xg_iload (va := (0, 0)) rfl rfl) ?_
                    refine xg_t (xg_ifT (u := 0) rfl xnm0 (by decide)) ?_
                    refine xg_t (xg_blq rfl) ?_
                    refine xg_t (xg_const) ?_
                    exact xg_e ⟨4294967295, w, ⟨rfl, rfl⟩, by first | decide | omega, hI, xFr.rf⟩
                  · refine xg_t (xg_icF (u := yy) (v := f3_17 - hi) rfl xnm0 xnm0 (xj_gtF (by omega) (by omega))) ?_
                    refine xg_t (xg_const) ?_
                    refine xg_t (xg_goto) ?_
                    refine xg_t (xg_blq rfl) ?_
                    refine xg_t (xg_istore (l1 := [(5, (0, 0)), (0, (2, 0)), (1, (0, xx)), (2, (0, yy)), (3, (0, wi)), (4, (0, hi))]) rfl rfl rfl) ?_
                    refine xg_t (xg_iload (va := (0, 0)) rfl rfl) ?_
                    refine xg_t (xg_ifT (u := 0) rfl xnm0 (by decide)) ?_
                    refine xg_t (xg_blq rfl) ?_
                    refine xg_t (xg_const) ?_
                    exact xg_e ⟨4294967295, w, ⟨rfl, rfl⟩, by first | decide | omega, hI, xFr.rf⟩
                · have hz99 : 4294967287 ≤ (f3_17 + (4294967296 - hi)) % 4294967296 := by omega
                  refine xg_t (xg_isub (u := f3_17) (v := hi) (z := (f3_17 + (4294967296 - hi)) % 4294967296) xnm0 xnm0 rfl) ?_
                  have hz98 : (f3_17 + (4294967296 - hi)) % 4294967296 < 4294967296 := Nat.mod_lt _ (by decide)
                  generalize (f3_17 + (4294967296 - hi)) % 4294967296 = z97 at hz99 hz98 ⊢
                  refine xg_t (xg_icT (u := yy) (v := z97) rfl xnm0 xnm0 (xjs_gtT (by unfold xbs; omega))) ?_
                  refine xg_t (xg_blq rfl) ?_
                  refine xg_t (xg_const) ?_
                  refine xg_t (xg_blq rfl) ?_
                  refine xg_t (xg_istore (l1 := [(5, (0, 0)), (0, (2, 0)), (1, (0, xx)), (2, (0, yy)), (3, (0, wi)), (4, (0, hi))]) rfl rfl rfl) ?_
                  refine xg_t (xg_iload (va := (0, 0)) rfl rfl) ?_
                  refine xg_t (xg_ifT (u := 0) rfl xnm0 (by decide)) ?_
                  refine xg_t (xg_blq rfl) ?_
                  refine xg_t (xg_const) ?_
                  exact xg_e ⟨4294967295, w, ⟨rfl, rfl⟩, by first | decide | omega, hI, xFr.rf⟩
          · refine xg_t (xg_ifT (u := yy) rfl xnm0 (xjz_ltT (by omega) (by omega))) ?_
            refine xg_t (xg_blq rfl) ?_
            refine xg_t (xg_const) ?_
            refine xg_t (xg_blq rfl) ?_
            refine xg_t (xg_istore (l1 := [(5, (0, 0)), (0, (2, 0)), (1, (0, xx)), (2, (0, yy)), (3, (0, wi)), (4, (0, hi))]) rfl rfl rfl) ?_
            refine xg_t (xg_iload (va := (0, 0)) rfl rfl) ?_
            refine xg_t (xg_ifT (u := 0) rfl xnm0 (by decide)) ?_
            refine xg_t (xg_blq rfl) ?_
            refine xg_t (xg_const) ?_
            exact xg_e ⟨4294967295, w, ⟨rfl, rfl⟩, by first | decide | omega, hI, xFr.rf⟩
  · refine xg_t (xg_ifT (u := xx) rfl xnm0 (xjz_ltT (by omega) (by omega))) ?_
    refine xg_t (xg_blq rfl) ?_
    refine xg_t (xg_const) ?_
    refine xg_t (xg_blq rfl) ?_
    refine xg_t (xg_istore (l1 := [(0, (2, 0)), (1, (0, xx)), (2, (0, yy)), (3, (0, wi)), (4, (0, hi))]) rfl rfl rfl) ?_
    refine xg_t (xg_iload (va := (0, yy)) rfl rfl) ?_
    by_cases hc100 : yy < 2147483648
    · refine xg_t (xg_ifF (u := yy) rfl xnm0 (xjz_ltF hc100)) ?_
      refine xg_t (xg_iload (va := (0, hi)) rfl rfl) ?_
      refine xg_t (xg_const) ?_
      by_cases hc101 : xbs hi < xbs 1
      · have hc101u := hc101
        unfold xbs at hc101u
        refine xg_t (xg_icT (u := hi) (v := 1) rfl xnm0 xnm0 (xjs_ltT hc101)) ?_
        refine xg_t (xg_blq rfl) ?_
        refine xg_t (xg_const) ?_
        refine xg_t (xg_blq rfl) ?_
        refine xg_t (xg_istore (l1 := [(5, (0, 0)), (0, (2, 0)), (1, (0, xx)), (2, (0, yy)), (3, (0, wi)), (4, (0, hi))]) rfl rfl rfl) ?_
        refine xg_t (xg_iload (va := (0, 0)) rfl rfl) ?_
        refine xg_t (xg_ifT (u := 0) rfl xnm0 (by decide)) ?_
        refine xg_t (xg_blq rfl) ?_
        refine xg_t (xg_const) ?_
        exact xg_e ⟨4294967295, w, ⟨rfl, rfl⟩, by first | decide | omega, hI, xFr.rf⟩
      · have hc101u := hc101
        unfold xbs at hc101u
        have hn102 : hi ≤ 2147483647 := by omega
        refine xg_t (xg_icF (u := hi) (v := 1) rfl xnm0 xnm0 (xjs_ltF hc101)) ?_
        refine xg_t (xg_iload (va := (0, hi)) rfl rfl) ?_
        refine xg_t (xg_aload (va := (2, 0)) rfl rfl) ?_
        refine xg_t (xg_getf (va := (2, 1)) h0_1 rfl) ?_
        refine xg_t (xg_getf (va := (2, 3)) h1_14 rfl) ?_
        refine xg_t (xg_getf (va := (0, f3_17)) h3_25 rfl) ?_
        by_cases hc103 : f3_17 < hi
        · refine xg_t (xg_icT (u := hi) (v := f3_17) rfl xnm0 xnm0 (xj_gtT hc103 (by omega))) ?_
          refine xg_t (xg_blq rfl) ?_
          refine xg_t (xg_const) ?_
          refine xg_t (xg_blq rfl) ?_
          refine xg_t (xg_istore (l1 := [(5, (0, 0)), (0, (2, 0)), (1, (0, xx)), (2, (0, yy)), (3, (0, wi)), (4, (0, hi))]) rfl rfl rfl) ?_
          refine xg_t (xg_iload (va := (0, 0)) rfl rfl) ?_
          refine xg_t (xg_ifT (u := 0) rfl xnm0 (by decide)) ?_
          refine xg_t (xg_blq rfl) ?_
          refine xg_t (xg_const) ?_
          exact xg_e ⟨4294967295, w, ⟨rfl, rfl⟩, by first | decide | omega, hI, xFr.rf⟩
        · refine xg_t (xg_icF (u := hi) (v := f3_17) rfl xnm0 xnm0 (xj_gtF (by omega) (by omega))) ?_
          refine xg_t (xg_iload (va := (0, yy)) rfl rfl) ?_
          refine xg_t (xg_aload (va := (2, 0)) rfl rfl) ?_
          refine xg_t (xg_getf (va := (2, 1)) h0_1 rfl) ?_
          refine xg_t (xg_getf (va := (2, 3)) h1_14 rfl) ?_
          refine xg_t (xg_getf (va := (0, f3_17)) h3_25 rfl) ?_
          refine xg_t (xg_iload (va := (0, hi)) rfl rfl) ?_
          by_cases hc104 : hi ≤ f3_17
          · refine xg_t (xg_isub (u := f3_17) (v := hi) (z := f3_17 - hi) xnm0 xnm0 (by omega)) ?_
            by_cases hc105 : (f3_17 - hi) < yy
            · refine xg_t (xg_icT (u := yy) (v := f3_17 - hi) rfl xnm0 xnm0 (xj_gtT hc105 (by omega))) ?_
              refine xg_t (xg_blq rfl) ?_
              refine xg_t (xg_const) ?_
              refine xg_t (xg_blq rfl) ?_
              refine xg_t (xg_istore (l1 := [(5, (0, 0)), (0, (2, 0)), (1, (0, xx)), (2, (0, yy)), (3, (0, wi)), (4, (0, hi))]) rfl rfl rfl) ?_
              refine xg_t (xg_iload (va := (0, 0)) rfl rfl) ?_
              refine xg_t (xg_ifT (u := 0) rfl xnm0 (by decide)) ?_
              refine xg_t (xg_blq rfl) ?_
              refine xg_t (xg_const) ?_
              exact xg_e ⟨4294967295, w, ⟨rfl, rfl⟩, by first | decide | omega, hI, xFr.rf⟩
            · refine xg_t (xg_icF (u := yy) (v := f3_17 - hi) rfl xnm0 xnm0 (xj_gtF (by omega) (by omega))) ?_
              refine xg_t (xg_const) ?_
              refine xg_t (xg_goto) ?_
              refine xg_t (xg_blq rfl) ?_
              refine xg_t (xg_istore (l1 := [(5, (0, 0)), (0, (2, 0)), (1, (0, xx)), (2, (0, yy)), (3, (0, wi)), (4, (0, hi))]) rfl rfl rfl) ?_
              refine xg_t (xg_iload (va := (0, 0)) rfl rfl) ?_
              refine xg_t (xg_ifT (u := 0) rfl xnm0 (by decide)) ?_
              refine xg_t (xg_blq rfl) ?_
              refine xg_t (xg_const) ?_
              exact xg_e ⟨4294967295, w, ⟨rfl, rfl⟩, by first | decide | omega, hI, xFr.rf⟩
          · have hz108 : 4294967287 ≤ (f3_17 + (4294967296 - hi)) % 4294967296 := by omega
            refine xg_t (xg_isub (u := f3_17) (v := hi) (z := (f3_17 + (4294967296 - hi)) % 4294967296) xnm0 xnm0 rfl) ?_
            have hz107 : (f3_17 + (4294967296 - hi)) % 4294967296 < 4294967296 := Nat.mod_lt _ (by decide)
            generalize (f3_17 + (4294967296 - hi)) % 4294967296 = z106 at hz108 hz107 ⊢
            refine xg_t (xg_icT (u := yy) (v := z106) rfl xnm0 xnm0 (xjs_gtT (by unfold xbs; omega))) ?_
            refine xg_t (xg_blq rfl) ?_
            refine xg_t (xg_const) ?_
            refine xg_t (xg_blq rfl) ?_
            refine xg_t (xg_istore (l1 := [(5, (0, 0)), (0, (2, 0)), (1, (0, xx)), (2, (0, yy)), (3, (0, wi)), (4, (0, hi))]) rfl rfl rfl) ?_
            refine xg_t (xg_iload (va := (0, 0)) rfl rfl) ?_
            refine xg_t (xg_ifT (u := 0) rfl xnm0 (by decide)) ?_
            refine xg_t (xg_blq rfl) ?_
            refine xg_t (xg_const) ?_
            exact xg_e ⟨4294967295, w, ⟨rfl, rfl⟩, by first | decide | omega, hI, xFr.rf⟩
    · refine xg_t (xg_ifT (u := yy) rfl xnm0 (xjz_ltT (by omega) (by omega))) ?_
      refine xg_t (xg_blq rfl) ?_
      refine xg_t (xg_const) ?_
      refine xg_t (xg_blq rfl) ?_
      refine xg_t (xg_istore (l1 := [(5, (0, 0)), (0, (2, 0)), (1, (0, xx)), (2, (0, yy)), (3, (0, wi)), (4, (0, hi))]) rfl rfl rfl) ?_
      refine xg_t (xg_iload (va := (0, 0)) rfl rfl) ?_
      refine xg_t (xg_ifT (u := 0) rfl xnm0 (by decide)) ?_
      refine xg_t (xg_blq rfl) ?_
      refine xg_t (xg_const) ?_
      exact xg_e ⟨4294967295, w, ⟨rfl, rfl⟩, by first | decide | omega, hI, xFr.rf⟩
theorem scIsBroken {ha ye : Nat} (hI : xInv w) (hha : ha ≤ 4294967295) (hye : ye ≤ 4294967295) : xPi (d + 4) mX11_isBroken [(2, 0), (0, ha), (0, ye)] w bd fc rr (fun n w' => (n ≤ 1) ∧ xInv w' ∧ xFr [56] w w') := by
  refine xPi.of ?_
  show xTo (d + 4) mX11_isBroken (0, [], [(0, (2, 0)), (1, (0, ha)), (2, (0, ye))], [], (w, bd, fc, 0, 0, rr)) (fun φ => ∃ n w', xEnd 4 [(0, n)] (w', bd, fc, 0, 0, rr) φ ∧ (n ≤ 1) ∧ xInv w' ∧ xFr [56] w w')
  have h0_1 := (xqc0 hI : cp0 (wget w 0))
  refine xoC1 (xqc1 hI : cp1 (wget w 1)) (fun f1_2 f1_4 f1_6 f1_8 f1_10 f1_12 h1_14 hb3 hb5 hb7 hb9 hb11 hb13 => ?_)
  refine xoC3 (xqc3 hI : cp3 (wget w 3)) (fun f3_15 f3_17 f3_19 f3_21 f3_23 h3_25 hb16 hb18 hb20 hb22 hb24 => ?_)
  obtain ⟨f18_26, h18_28, hb27⟩ := (xqc18 hI : cp18 (wget w 18))
  refine xoI (xqc19 hI : cpI 12 8 4294967295 (wget w 19)) (fun g19_29 h19_30 hb31 => ?_)
  refine xg_t (xg_blq rfl) ?_
  refine xg_t (xg_ldc2) ?_
  refine xg_t (xg_iload (va := (0, ye)) rfl rfl) ?_
  refine xg_kl (xg_i2l (u := ye) xnm0) (fun l32 => ?_)
  refine xg_kl (xg_lmul (u := 365) (v := l32)) (fun l33 => ?_)
  refine xg_t (xg_aload (va := (2, 0)) rfl rfl) ?_
  refine xg_t (xg_getf (va := (2, 1)) h0_1 rfl) ?_
  refine xg_t (xg_getf (va := (2, 18)) h1_14 rfl) ?_
  refine xg_t (xg_iload (va := (0, ha)) rfl rfl) ?_
  refine xg_t (xg_const) ?_
  refine xg_k (xg_cVr mX5_get (vs := [(0, ha), (0, 1)]) (rest := [(4, l33)]) (rs := [(0, if ha < f18_26 ∧ 1 < 3 then g19_29 (ha * 3 + 1) else 4294967295), (4, l33)]) (cn1 := 0) (sl1 := 0) rfl (rget_ok (lim := 4) (wd := 3) (sz := f18_26) h18_28 h19_30 (by decide) (by omega) (by decide) (by decide) (by omega) (by omega)) rfl h18_28 rfl rfl rfl rfl rfl rfl rfl) (xiteb (hb31)) (fun z34 hz35 => ?_)
  refine xg_kl (xg_i2l (u := z34) xnm0) (fun l36 => ?_)
  refine xg_kl (xg_lmul (u := l33) (v := l36)) (fun l37 => ?_)
  refine xg_t (xg_lstore (l1 := [(0, (2, 0)), (1, (0, ha)), (2, (0, ye))]) rfl rfl) ?_
  refine xg_t (xg_aload (va := (2, 0)) rfl rfl) ?_
  refine xg_t (xg_getf (va := (2, 49)) h0_1 rfl) ?_
  refine xg_t (xg_lload (u := l37) rfl) ?_
  refine xg_t (xg_aload (va := (2, 0)) rfl rfl) ?_
  refine xg_t (xg_getf (va := (2, 1)) h0_1 rfl) ?_
  refine xg_t (xg_getf (va := (2, 18)) h1_14 rfl) ?_
  refine xg_t (xg_iload (va := (0, ha)) rfl rfl) ?_
  refine xg_t (xg_const) ?_
  refine xg_k (xg_cVr mX5_get (vs := [(0, ha), (0, 2)]) (rest := [(4, l37), (2, 49)]) (rs := [(0, if ha < f18_26 ∧ 2 < 3 then g19_29 (ha * 3 + 2) else 4294967295), (4, l37), (2, 49)]) (cn1 := 0) (sl1 := 0) rfl (rget_ok (lim := 4) (wd := 3) (sz := f18_26) h18_28 h19_30 (by decide) (by omega) (by decide) (by decide) (by omega) (by omega)) rfl h18_28 rfl rfl rfl rfl rfl rfl rfl) (xiteb (hb31)) (fun z38 hz39 => ?_)
  refine xoC49 (xqc49 hI : cp49 (wget w 49)) (fun f49_40 f49_42 h49_44 hb41 hb43 => ?_)
  refine xg_cVi mX0_breaksBehind (vs := [(4, l37), (0, z38)]) (rest := []) (cn1 := 0) (sl1 := 0) rfl (bdBreaks (hI) (by omega)) rfl h49_44 rfl rfl rfl rfl rfl rfl (fun n49 w45 hq46 => ?_)
  obtain ⟨hn50, hI47, hF48⟩ := hq46
  exact xg_e ⟨n49, w45, ⟨xret_b (by omega), rfl⟩, by omega, hI47, (hF48.up (by decide))⟩
theorem scBroken {ha ye : Nat} (hI : xInv w) (hha : ha ≤ 4294967295) (hye : ye ≤ 4294967295) : xPi (d + 5) mX11_broken [(2, 0), (0, ha), (0, ye)] w bd fc rr (fun n w' => (n ≤ 1) ∧ xInv w' ∧ xFr [50, 51, 52, 53, 54, 55, 56] w w') := by
  refine xPi.of ?_
  show xTo (d + 5) mX11_broken (0, [], [(0, (2, 0)), (1, (0, ha)), (2, (0, ye))], [], (w, bd, fc, 0, 0, rr)) (fun φ => ∃ n w', xEnd 4 [(0, n)] (w', bd, fc, 0, 0, rr) φ ∧ (n ≤ 1) ∧ xInv w' ∧ xFr [50, 51, 52, 53, 54, 55, 56] w w')
  refine xg_t (xg_blq rfl) ?_
  refine xg_t (xg_aload (va := (2, 0)) rfl rfl) ?_
  have h0_1 := (xqc0 hI : cp0 (wget w 0))
  refine xg_t (xg_getf (va := (2, 1)) h0_1 rfl) ?_
  refine xoC1 (xqc1 hI : cp1 (wget w 1)) (fun f1_2 f1_4 f1_6 f1_8 f1_10 f1_12 h1_14 hb3 hb5 hb7 hb9 hb11 hb13 => ?_)
  refine xg_t (xg_getf (va := (2, 18)) h1_14 rfl) ?_
  refine xg_t (xg_iload (va := (0, ha)) rfl rfl) ?_
  obtain ⟨f18_15, h18_17, hb16⟩ := (xqc18 hI : cp18 (wget w 18))
  refine xg_t (xg_cVr mX5_has (vs := [(0, ha)]) (rest := []) (rs := [(0, if ha < f18_15 then 1 else 0)]) (cn1 := 0) (sl1 := 0) rfl (rhas_ok h18_17 (by decide) (by omega) (by omega)) rfl h18_17 rfl rfl rfl rfl rfl rfl rfl) ?_
  by_cases hc18 : ha < f18_15
  · refine xg_t (xg_ifF (u := (if ha < f18_15 then 1 else 0)) rfl xnm0 (xj_eqF (xite1 hc18))) ?_
    refine xg_t (xg_iload (va := (0, ye)) rfl rfl) ?_
    refine xg_t (xg_const) ?_
    refine xg_t (xg_bip) ?_
    refine xg_t (xg_cSr mX11_isIn (vs := [(0, ye), (0, 0), (0, 30)]) (rest := []) (rs := [(0, if 0 ≤ ye ∧ ye ≤ 30 then 1 else 0)]) (cn1 := 0) (sl1 := 0) rfl (isIn_ok (by omega) (by omega) (by omega)) rfl rfl rfl rfl rfl rfl rfl rfl) ?_
    by_cases hc19 : 0 ≤ ye ∧ ye ≤ 30
    · refine xg_t (xg_ifT (u := (if 0 ≤ ye ∧ ye ≤ 30 then 1 else 0)) rfl xnm0 (xj_neT (xite1 hc19))) ?_
      refine xg_t (xg_blq rfl) ?_
      refine xg_t (xg_aload (va := (2, 0)) rfl rfl) ?_
      refine xg_t (xg_getf (va := (2, 49)) h0_1 rfl) ?_
      refine xoC49 (xqc49 hI : cp49 (wget w 49)) (fun f49_20 f49_22 h49_24 hb21 hb23 => ?_)
      refine xg_cVv mX0_layAsTold (vs := []) (rest := []) (cn1 := 0) (sl1 := 0) rfl (bdLayAsTold (hI)) rfl h49_24 rfl rfl rfl rfl rfl rfl (fun w25 hq26 => ?_)
      obtain ⟨hI27, hF28⟩ := hq26
      refine xg_t (xg_aload (va := (2, 0)) rfl rfl) ?_
      refine xg_t (xg_iload (va := (0, ha)) rfl rfl) ?_
      refine xg_t (xg_iload (va := (0, ye)) rfl rfl) ?_
      refine xg_cVi mX11_isBroken (vs := [(0, ha), (0, ye)]) (rest := []) (cn1 := 0) (sl1 := 0) rfl (scIsBroken (hI27) (by omega) (by omega)) rfl (hF28.get (by decide) h0_1) rfl rfl rfl rfl rfl rfl (fun n33 w29 hq30 => ?_)
      obtain ⟨hn34, hI31, hF32⟩ := hq30
      exact xg_e ⟨n33, w29, ⟨xret_b (by omega), rfl⟩, by omega, hI31, ((hF28.up (by decide)).tr (hF32.up (by decide)))⟩
    · refine xg_t (xg_ifF (u := (if 0 ≤ ye ∧ ye ≤ 30 then 1 else 0)) rfl xnm0 (xj_neF (xite0 hc19))) ?_
      refine xg_t (xg_blq rfl) ?_
      refine xg_t (xg_const) ?_
      exact xg_e ⟨0, w, ⟨rfl, rfl⟩, by first | decide | omega, hI, xFr.rf⟩
  · refine xg_t (xg_ifT (u := (if ha < f18_15 then 1 else 0)) rfl xnm0 (xj_eqT (xite0 hc18))) ?_
    refine xg_t (xg_blq rfl) ?_
    refine xg_t (xg_const) ?_
    exact xg_e ⟨0, w, ⟨rfl, rfl⟩, by first | decide | omega, hI, xFr.rf⟩
theorem scBrokenShare {ye : Nat} (hI : xInv w) (hye : ye ≤ 4294967295) : xPi (d + 5) mX11_brokenShare [(2, 0), (0, ye)] w bd fc rr (fun n w' => (n ≤ 4294967295) ∧ xInv w' ∧ xFr [56] w w') := by
  refine xPi.of ?_
  show xTo (d + 5) mX11_brokenShare (0, [], [(0, (2, 0)), (1, (0, ye))], [], (w, bd, fc, 0, 0, rr)) (fun φ => ∃ n w', xEnd 1 [(0, n)] (w', bd, fc, 0, 0, rr) φ ∧ (n ≤ 4294967295) ∧ xInv w' ∧ xFr [56] w w')
  have h0_1 := (xqc0 hI : cp0 (wget w 0))
  refine xoC1 (xqc1 hI : cp1 (wget w 1)) (fun f1_2 f1_4 f1_6 f1_8 f1_10 f1_12 h1_14 hb3 hb5 hb7 hb9 hb11 hb13 => ?_)
  refine xoC3 (xqc3 hI : cp3 (wget w 3)) (fun f3_15 f3_17 f3_19 f3_21 f3_23 h3_25 hb16 hb18 hb20 hb22 hb24 => ?_)
  obtain ⟨f18_26, h18_28, hb27⟩ := (xqc18 hI : cp18 (wget w 18))
  refine xoI (xqc19 hI : cpI 12 8 4294967295 (wget w 19)) (fun g19_29 h19_30 hb31 => ?_)
  refine xg_t (xg_blq rfl) ?_
  refine xg_t (xg_const) ?_
  refine xg_t (xg_istore (l1 := [(0, (2, 0)), (1, (0, ye))]) rfl rfl rfl) ?_
  refine xg_t (xg_const) ?_
  refine xg_t (xg_istore (l1 := [(2, (0, 0)), (0, (2, 0)), (1, (0, ye))]) rfl rfl rfl) ?_
  refine xg_t (xg_const) ?_
  refine xg_t (xg_istore (l1 := [(3, (0, 0)), (2, (0, 0)), (0, (2, 0)), (1, (0, ye))]) rfl rfl rfl) ?_
  refine xg_t (xg_drop (l1 := [(0, (2, 0)), (1, (0, ye)), (2, (0, 0)), (3, (0, 0)), (4, (0, 0))]) (List.forall_mem_cons.mpr ⟨List.mem_cons_of_mem _ (List.mem_cons_of_mem _ (List.mem_cons_of_mem _ (List.mem_cons_self))), List.forall_mem_cons.mpr ⟨List.mem_cons_of_mem _ (List.mem_cons_of_mem _ (List.mem_cons_of_mem _ (List.mem_cons_of_mem _ (List.mem_cons_self)))), List.forall_mem_cons.mpr ⟨List.mem_cons_of_mem _ (List.mem_cons_of_mem _ (List.mem_cons_self)), List.forall_mem_cons.mpr ⟨List.mem_cons_of_mem _ (List.mem_cons_self), List.forall_mem_cons.mpr ⟨List.mem_cons_self, fun _ h => absurd h List.not_mem_nil⟩⟩⟩⟩⟩)) ?_
  have key32 : ∀ (m34 : Nat) (br al ha : Nat) (w35 : List (List xE)), 4 - ha < m34 → br ≤ 4294967295 → al ≤ 4294967295 → ha ≤ 4 → xInv w35 → xFr [56] w w35 → xTo (d + 5) mX11_brokenShare (7, [], [(0, (2, 0)), (1, (0, ye)), (2, (0, br)), (3, (0, al)), (4, (0, ha))], [], (w35, bd, fc, 0, 0, rr)) (fun φ => ∃ n w', xEnd 1 [(0, n)] (w', bd, fc, 0, 0, rr) φ ∧ (n ≤ 4294967295) ∧ xInv w' ∧ xFr [56] w w') := by
    intro m34
    induction m34 with
    | zero => intro br al ha w35 hz; exact absurd hz (Nat.not_lt_zero _)
    | succ m34 ih33 =>
      intro br al ha w35 hm41 hn38 hn39 hn40 hI36 hF37
      refine xg_t (xg_blq rfl) ?_
      refine xg_t (xg_iload (va := (0, ha)) rfl rfl) ?_
      refine xg_t (xg_aload (va := (2, 0)) rfl rfl) ?_
      refine xg_t (xg_getf (va := (2, 1)) (hF37.get (by decide) h0_1) rfl) ?_
      refine xg_t (xg_getf (va := (2, 18)) (hF37.get (by decide) h1_14) rfl) ?_
      refine xg_t (xg_getf (va := (0, f18_26)) (hF37.get (by decide) h18_28) rfl) ?_
      by_cases hc42 : ha < f18_26
      · refine xg_t (xg_icF (u := ha) (v := f18_26) rfl xnm0 xnm0 (xj_geF hc42 (by omega))) ?_
        refine xg_t (xg_aload (va := (2, 0)) rfl rfl) ?_
        refine xg_t (xg_getf (va := (2, 1)) (hF37.get (by decide) h0_1) rfl) ?_
        refine xg_t (xg_getf (va := (2, 18)) (hF37.get (by decide) h1_14) rfl) ?_
        refine xg_t (xg_iload (va := (0, ha)) rfl rfl) ?_
        refine xg_t (xg_const) ?_
        refine xg_k (xg_cVr mX5_get (vs := [(0, ha), (0, 0)]) (rest := []) (rs := [(0, if ha < f18_26 ∧ 0 < 3 then g19_29 (ha * 3 + 0) else 4294967295)]) (cn1 := 0) (sl1 := 0) rfl (rget_ok (lim := 4) (wd := 3) (sz := f18_26) (hF37.get (by decide) h18_28) (h19_30.fr hF37 (by decide)) (by decide) (by omega) (by decide) (by decide) (by omega) (by omega)) rfl (hF37.get (by decide) h18_28) rfl rfl rfl rfl rfl rfl rfl) (xiteb (hb31)) (fun z43 hz44 => ?_)
        refine xg_t (xg_istore (l1 := [(0, (2, 0)), (1, (0, ye)), (2, (0, br)), (3, (0, al)), (4, (0, ha))]) rfl rfl rfl) ?_
        refine xg_t (xg_iload (va := (0, al)) rfl rfl) ?_
        refine xg_t (xg_iload (va := (0, z43)) rfl rfl) ?_
        refine xg_k (xg_iadd (u := al) (v := z43) (z := (al + z43) % 4294967296) xnm0 xnm0 rfl) (Nat.mod_lt _ (by decide)) (fun z45 hz46 => ?_)
        refine xg_t (xg_istore (l1 := [(5, (0, z43)), (0, (2, 0)), (1, (0, ye)), (2, (0, br)), (4, (0, ha))]) rfl rfl rfl) ?_
        refine xg_t (xg_aload (va := (2, 0)) rfl rfl) ?_
        refine xg_t (xg_iload (va := (0, ha)) rfl rfl) ?_
        refine xg_t (xg_iload (va := (0, ye)) rfl rfl) ?_
        refine xg_cVi mX11_isBroken (vs := [(0, ha), (0, ye)]) (rest := []) (cn1 := 0) (sl1 := 0) rfl (scIsBroken (hI36) (by omega) (by omega)) rfl (hF37.get (by decide) h0_1) rfl rfl rfl rfl rfl rfl (fun n51 w47 hq48 => ?_)
        obtain ⟨hn52, hI49, hF50⟩ := hq48
        by_cases hc53 : n51 = 0
        · refine xg_t (xg_ifT (u := n51) rfl xnm0 (xj_eqT hc53)) ?_
          refine xg_t (xg_blq rfl) ?_
          refine xg_t (xg_iinc (u := ha) (z := ha + 1) (l1 := [(3, (0, z45)), (5, (0, z43)), (0, (2, 0)), (1, (0, ye)), (2, (0, br))]) rfl rfl (by omega) rfl) ?_
          refine xg_t (xg_goto) ?_
          refine xg_t (xg_drop (l1 := [(0, (2, 0)), (1, (0, ye)), (2, (0, br)), (3, (0, z45)), (4, (0, ha + 1))]) (List.forall_mem_cons.mpr ⟨List.mem_cons_of_mem _ (List.mem_cons_of_mem _ (List.mem_cons_of_mem _ (List.mem_cons_self))), List.forall_mem_cons.mpr ⟨List.mem_cons_of_mem _ (List.mem_cons_of_mem _ (List.mem_cons_of_mem _ (List.mem_cons_of_mem _ (List.mem_cons_self)))), List.forall_mem_cons.mpr ⟨List.mem_cons_of_mem _ (List.mem_cons_of_mem _ (List.mem_cons_of_mem _ (List.mem_cons_of_mem _ (List.mem_cons_of_mem _ (List.mem_cons_self))))), List.forall_mem_cons.mpr ⟨List.mem_cons_of_mem _ (List.mem_cons_self), List.forall_mem_cons.mpr ⟨List.mem_cons_self, fun _ h => absurd h List.not_mem_nil⟩⟩⟩⟩⟩)) ?_
          exact ih33 br z45 (ha + 1) w47 (by omega) (by omega) (by omega) (by omega) (hI49) ((hF37.tr (hF50.up (by decide))))
        · refine xg_t (xg_ifF (u := n51) rfl xnm0 (xj_eqF hc53)) ?_
          refine xg_t (xg_iload (va := (0, br)) rfl rfl) ?_
          refine xg_t (xg_iload (va := (0, z43)) rfl rfl) ?_
          refine xg_k (xg_iadd (u := br) (v := z43) (z := (br + z43) % 4294967296) xnm0 xnm0 rfl) (Nat.mod_lt _ (by decide)) (fun z54 hz55 => ?_)
          refine xg_t (xg_istore (l1 := [(3, (0, z45)), (5, (0, z43)), (0, (2, 0)), (1, (0, ye)), (4, (0, ha))]) rfl rfl rfl) ?_
          refine xg_t (xg_blq rfl) ?_
          refine xg_t (xg_iinc (u := ha) (z := ha + 1) (l1 := [(2, (0, z54)), (3, (0, z45)), (5, (0, z43)), (0, (2, 0)), (1, (0, ye))]) rfl rfl (by omega) rfl) ?_
          refine xg_t (xg_goto) ?_
          refine xg_t (xg_drop (l1 := [(0, (2, 0)), (1, (0, ye)), (2, (0, z54)), (3, (0, z45)), (4, (0, ha + 1))]) (List.forall_mem_cons.mpr ⟨List.mem_cons_of_mem _ (List.mem_cons_of_mem _ (List.mem_cons_of_mem _ (List.mem_cons_of_mem _ (List.mem_cons_self)))), List.forall_mem_cons.mpr ⟨List.mem_cons_of_mem _ (List.mem_cons_of_mem _ (List.mem_cons_of_mem _ (List.mem_cons_of_mem _ (List.mem_cons_of_mem _ (List.mem_cons_self))))), List.forall_mem_cons.mpr ⟨List.mem_cons_of_mem _ (List.mem_cons_self), List.forall_mem_cons.mpr ⟨List.mem_cons_of_mem _ (List.mem_cons_of_mem _ (List.mem_cons_self)), List.forall_mem_cons.mpr ⟨List.mem_cons_self, fun _ h => absurd h List.not_mem_nil⟩⟩⟩⟩⟩)) ?_
          exact ih33 z54 z45 (ha + 1) w47 (by omega) (by omega) (by omega) (by omega) (hI49) ((hF37.tr (hF50.up (by decide))))
      · refine xg_t (xg_icT (u := ha) (v := f18_26) rfl xnm0 xnm0 (xj_geT (by omega) (by omega))) ?_
        refine xg_t (xg_blq rfl) ?_
        refine xg_t (xg_ldc2) ?_
        refine xg_t (xg_iload (va := (0, br)) rfl rfl) ?_
        refine xg_kl (xg_i2l (u := br) xnm0) (fun l56 => ?_)
        refine xg_kl (xg_lmul (u := 1000) (v := l56)) (fun l57 => ?_)
        refine xg_t (xg_iload (va := (0, al)) rfl rfl) ?_
        refine xg_kl (xg_i2l (u := al) xnm0) (fun l58 => ?_)
        refine xg_cSj mX11_divide (vs := [(4, l57), (4, l58)]) (rest := []) (cn1 := 0) (sl1 := 0) rfl (dvDivide (hI36)) rfl rfl rfl rfl rfl rfl rfl (fun l63 w59 hq60 => ?_)
        obtain ⟨hn64, hI61, hF62⟩ := hq60
        refine xg_k (xg_l2i (u := l63)) (xpt_lt _) (fun z65 hz66 => ?_)
        exact xg_e ⟨z65, w59, ⟨rfl, rfl⟩, by omega, hI61, (hF37.tr (hF62.up (by decide)))⟩
  exact key32 _ 0 0 0 w (Nat.lt_succ_self _) (by omega) (by omega) (by omega) (hI) (xFr.rf)
theorem scShare {ye : Nat} (hI : xInv w) (hye : ye ≤ 4294967295) : xPi (d + 6) mX11_share [(2, 0), (0, ye)] w bd fc rr (fun n w' => (n ≤ 4294967295) ∧ xInv w' ∧ xFr [50, 51, 52, 53, 54, 55, 56] w w') := by
  refine xPi.of ?_
  show xTo (d + 6) mX11_share (0, [], [(0, (2, 0)), (1, (0, ye))], [], (w, bd, fc, 0, 0, rr)) (fun φ => ∃ n w', xEnd 1 [(0, n)] (w', bd, fc, 0, 0, rr) φ ∧ (n ≤ 4294967295) ∧ xInv w' ∧ xFr [50, 51, 52, 53, 54, 55, 56] w w')
  refine xg_t (xg_blq rfl) ?_
  refine xg_t (xg_iload (va := (0, ye)) rfl rfl) ?_
  refine xg_t (xg_const) ?_
  refine xg_t (xg_bip) ?_
  refine xg_t (xg_cSr mX11_isIn (vs := [(0, ye), (0, 0), (0, 30)]) (rest := []) (rs := [(0, if 0 ≤ ye ∧ ye ≤ 30 then 1 else 0)]) (cn1 := 0) (sl1 := 0) rfl (isIn_ok (by omega) (by omega) (by omega)) rfl rfl rfl rfl rfl rfl rfl rfl) ?_
  by_cases hc1 : 0 ≤ ye ∧ ye ≤ 30
  · refine xg_t (xg_ifT (u := (if 0 ≤ ye ∧ ye ≤ 30 then 1 else 0)) rfl xnm0 (xj_neT (xite1 hc1))) ?_
    refine xg_t (xg_blq rfl) ?_
    refine xg_t (xg_aload (va := (2, 0)) rfl rfl) ?_
    have h0_2 := (xqc0 hI : cp0 (wget w 0))
    refine xg_t (xg_getf (va := (2, 49)) h0_2 rfl) ?_
    refine xoC49 (xqc49 hI : cp49 (wget w 49)) (fun f49_3 f49_5 h49_7 hb4 hb6 => ?_)
    refine xg_cVv mX0_layAsTold (vs := []) (rest := []) (cn1 := 0) (sl1 := 0) rfl (bdLayAsTold (hI)) rfl h49_7 rfl rfl rfl rfl rfl rfl (fun w8 hq9 => ?_)
    obtain ⟨hI10, hF11⟩ := hq9
    refine xg_t (xg_aload (va := (2, 0)) rfl rfl) ?_
    refine xg_t (xg_iload (va := (0, ye)) rfl rfl) ?_
    refine xg_cVi mX11_brokenShare (vs := [(0, ye)]) (rest := []) (cn1 := 0) (sl1 := 0) rfl (scBrokenShare (hI10) (by omega)) rfl (hF11.get (by decide) h0_2) rfl rfl rfl rfl rfl rfl (fun n16 w12 hq13 => ?_)
    obtain ⟨hn17, hI14, hF15⟩ := hq13
    exact xg_e ⟨n16, w12, ⟨rfl, rfl⟩, by omega, hI14, ((hF11.up (by decide)).tr (hF15.up (by decide)))⟩
  · refine xg_t (xg_ifF (u := (if 0 ≤ ye ∧ ye ≤ 30 then 1 else 0)) rfl xnm0 (xj_neF (xite0 hc1))) ?_
    refine xg_t (xg_const) ?_
    exact xg_e ⟨4294967295, w, ⟨rfl, rfl⟩, by first | decide | omega, hI, xFr.rf⟩
theorem scPromise {pp : Nat} (hI : xInv w) (hpp : pp ≤ 4294967295) : xPi (d + 6) mX11_promise [(2, 0), (0, pp)] w bd fc rr (fun n w' => (n ≤ 4294967295) ∧ xInv w' ∧ xFr [50, 51, 52, 53, 54, 55, 56] w w') := by
  refine xPi.of ?_
  show xTo (d + 6) mX11_promise (0, [], [(0, (2, 0)), (1, (0, pp))], [], (w, bd, fc, 0, 0, rr)) (fun φ => ∃ n w', xEnd 1 [(0, n)] (w', bd, fc, 0, 0, rr) φ ∧ (n ≤ 4294967295) ∧ xInv w' ∧ xFr [50, 51, 52, 53, 54, 55, 56] w w')
  refine xg_t (xg_blq rfl) ?_
  refine xg_t (xg_iload (va := (0, pp)) rfl rfl) ?_
  refine xg_t (xg_const) ?_
  refine xg_t (xg_sip) ?_
  refine xg_t (xg_cSr mX11_isIn (vs := [(0, pp), (0, 0), (0, 1000)]) (rest := []) (rs := [(0, if 0 ≤ pp ∧ pp ≤ 1000 then 1 else 0)]) (cn1 := 0) (sl1 := 0) rfl (isIn_ok (by omega) (by omega) (by omega)) rfl rfl rfl rfl rfl rfl rfl rfl) ?_
  by_cases hc1 : 0 ≤ pp ∧ pp ≤ 1000
  · refine xg_t (xg_ifT (u := (if 0 ≤ pp ∧ pp ≤ 1000 then 1 else 0)) rfl xnm0 (xj_neT (xite1 hc1))) ?_
    refine xg_t (xg_blq rfl) ?_
    refine xg_t (xg_aload (va := (2, 0)) rfl rfl) ?_
    have h0_2 := (xqc0 hI : cp0 (wget w 0))
    refine xg_t (xg_getf (va := (2, 49)) h0_2 rfl) ?_
    refine xoC49 (xqc49 hI : cp49 (wget w 49)) (fun f49_3 f49_5 h49_7 hb4 hb6 => ?_)
    refine xg_cVv mX0_layAsTold (vs := []) (rest := []) (cn1 := 0) (sl1 := 0) rfl (bdLayAsTold (hI)) rfl h49_7 rfl rfl rfl rfl rfl rfl (fun w8 hq9 => ?_)
    obtain ⟨hI10, hF11⟩ := hq9
    refine xg_t (xg_const) ?_
    refine xg_t (xg_istore (l1 := [(0, (2, 0)), (1, (0, pp))]) rfl rfl rfl) ?_
    refine xg_t (xg_drop (l1 := [(0, (2, 0)), (1, (0, pp)), (2, (0, 0))]) (List.forall_mem_cons.mpr ⟨List.mem_cons_of_mem _ (List.mem_cons_self), List.forall_mem_cons.mpr ⟨List.mem_cons_of_mem _ (List.mem_cons_of_mem _ (List.mem_cons_self)), List.forall_mem_cons.mpr ⟨List.mem_cons_self, fun _ h => absurd h List.not_mem_nil⟩⟩⟩)) ?_
    have key12 : ∀ (m14 : Nat) (ye : Nat) (w15 : List (List xE)), 31 - ye < m14 → ye ≤ 31 → xInv w15 → xFr [50, 51, 52, 53, 54, 55, 56] w w15 → xTo (d + 6) mX11_promise (22, [], [(0, (2, 0)), (1, (0, pp)), (2, (0, ye))], [], (w15, bd, fc, 0, 0, rr)) (fun φ => ∃ n w', xEnd 1 [(0, n)] (w', bd, fc, 0, 0, rr) φ ∧ (n ≤ 4294967295) ∧ xInv w' ∧ xFr [50, 51, 52, 53, 54, 55, 56] w w') := by
      intro m14
      induction m14 with
      | zero => intro ye w15 hz; exact absurd hz (Nat.not_lt_zero _)
      | succ m14 ih13 =>
        intro ye w15 hm19 hn18 hI16 hF17
        refine xg_t (xg_blq rfl) ?_
        refine xg_t (xg_iload (va := (0, ye)) rfl rfl) ?_
        refine xg_t (xg_bip) ?_
        by_cases hc20 : 30 < ye
        · refine xg_t (xg_icT (u := ye) (v := 30) rfl xnm0 xnm0 (xj_gtT hc20 (by omega))) ?_
          refine xg_t (xg_blq rfl) ?_
          refine xg_t (xg_bip) ?_
          exact xg_e ⟨30, w15, ⟨rfl, rfl⟩, by first | decide | omega, hI16, hF17⟩
        · refine xg_t (xg_icF (u := ye) (v := 30) rfl xnm0 xnm0 (xj_gtF (by omega) (by omega))) ?_
          refine xg_t (xg_aload (va := (2, 0)) rfl rfl) ?_
          refine xg_t (xg_iload (va := (0, ye)) rfl rfl) ?_
          refine xg_cVi mX11_brokenShare (vs := [(0, ye)]) (rest := []) (cn1 := 0) (sl1 := 0) rfl (scBrokenShare (hI16) (by omega)) rfl (hF17.get (by decide) h0_2) rfl rfl rfl rfl rfl rfl (fun n25 w21 hq22 => ?_)
          obtain ⟨hn26, hI23, hF24⟩ := hq22
          refine xg_t (xg_iload (va := (0, pp)) rfl rfl) ?_
          by_cases hc27 : xbs pp < xbs n25
          · have hc27u := hc27
            unfold xbs at hc27u
            have hn28 : pp ≤ 1000 := by omega
            have hn29 : n25 ≤ 2147483647 := by omega
            refine xg_t (xg_icF (u := n25) (v := pp) rfl xnm0 xnm0 (xjs_leF hc27)) ?_
            refine xg_t (xg_iload (va := (0, ye)) rfl rfl) ?_
            refine xg_t (xg_const) ?_
            refine xg_k (xg_isub (u := ye) (v := 1) (z := (ye + (4294967296 - 1)) % 4294967296) xnm0 xnm0 rfl) (Nat.mod_lt _ (by decide)) (fun z30 hz31 => ?_)
            exact xg_e ⟨z30, w21, ⟨rfl, rfl⟩, by omega, hI23, (hF17.tr (hF24.up (by decide)))⟩
          · have hc27u := hc27
            unfold xbs at hc27u
            have hn32 : pp ≤ 1000 := by omega
            refine xg_t (xg_icT (u := n25) (v := pp) rfl xnm0 xnm0 (xjs_leT hc27)) ?_
            refine xg_t (xg_blq rfl) ?_
            refine xg_t (xg_iinc (u := ye) (z := ye + 1) (l1 := [(0, (2, 0)), (1, (0, pp))]) rfl rfl (by omega) rfl) ?_
            refine xg_t (xg_goto) ?_
            refine xg_t (xg_drop (l1 := [(0, (2, 0)), (1, (0, pp)), (2, (0, ye + 1))]) (List.forall_mem_cons.mpr ⟨List.mem_cons_of_mem _ (List.mem_cons_self), List.forall_mem_cons.mpr ⟨List.mem_cons_of_mem _ (List.mem_cons_of_mem _ (List.mem_cons_self)), List.forall_mem_cons.mpr ⟨List.mem_cons_self, fun _ h => absurd h List.not_mem_nil⟩⟩⟩)) ?_
            exact ih13 (ye + 1) w21 (by omega) (by omega) (hI23) ((hF17.tr (hF24.up (by decide))))
    exact key12 _ 0 w8 (Nat.lt_succ_self _) (by omega) (hI10) ((hF11.up (by decide)))
  · refine xg_t (xg_ifF (u := (if 0 ≤ pp ∧ pp ≤ 1000 then 1 else 0)) rfl xnm0 (xj_neF (xite0 hc1))) ?_
    refine xg_t (xg_const) ?_
    exact xg_e ⟨4294967295, w, ⟨rfl, rfl⟩, by first | decide | omega, hI, xFr.rf⟩
theorem scTestHolds {kk : Nat} (hI : xInv w) (hkk : kk ≤ 4294967295) : xPi (d + 1) mX11_testHolds [(2, 0), (0, kk)] w bd fc rr (fun n w' => (n ≤ 1) ∧ xInv w' ∧ xFr [] w w') := by
  refine xPi.of ?_
  show xTo (d + 1) mX11_testHolds (0, [], [(0, (2, 0)), (1, (0, kk))], [], (w, bd, fc, 0, 0, rr)) (fun φ => ∃ n w', xEnd 4 [(0, n)] (w', bd, fc, 0, 0, rr) φ ∧ (n ≤ 1) ∧ xInv w' ∧ xFr [] w w')
  have h0_1 := (xqc0 hI : cp0 (wget w 0))
  refine xoC1 (xqc1 hI : cp1 (wget w 1)) (fun f1_2 f1_4 f1_6 f1_8 f1_10 f1_12 h1_14 hb3 hb5 hb7 hb9 hb11 hb13 => ?_)
  refine xoC3 (xqc3 hI : cp3 (wget w 3)) (fun f3_15 f3_17 f3_19 f3_21 f3_23 h3_25 hb16 hb18 hb20 hb22 hb24 => ?_)
  obtain ⟨f24_26, h24_28, hb27⟩ := (xqc24 hI : cp24 (wget w 24))
  refine xoI (xqc25 hI : cpI 320 11 4294967295 (wget w 25)) (fun g25_29 h25_30 hb31 => ?_)
  refine xg_t (xg_blq rfl) ?_
  refine xg_t (xg_aload (va := (2, 0)) rfl rfl) ?_
  refine xg_t (xg_getf (va := (2, 1)) h0_1 rfl) ?_
  refine xg_t (xg_getf (va := (2, 24)) h1_14 rfl) ?_
  refine xg_t (xg_iload (va := (0, kk)) rfl rfl) ?_
  refine xg_t (xg_const) ?_
  refine xg_k (xg_cVr mX5_get (vs := [(0, kk), (0, 2)]) (rest := []) (rs := [(0, if kk < f24_26 ∧ 2 < 5 then g25_29 (kk * 5 + 2) else 4294967295)]) (cn1 := 0) (sl1 := 0) rfl (rget_ok (lim := 64) (wd := 5) (sz := f24_26) h24_28 h25_30 (by decide) (by omega) (by decide) (by decide) (by omega) (by omega)) rfl h24_28 rfl rfl rfl rfl rfl rfl rfl) (xiteb (hb31)) (fun z32 hz33 => ?_)
  refine xg_t (xg_istore (l1 := [(0, (2, 0)), (1, (0, kk))]) rfl rfl rfl) ?_
  refine xg_t (xg_iload (va := (0, z32)) rfl rfl) ?_
  by_cases hc34 : z32 < 2147483648
  · refine xg_t (xg_ifF (u := z32) rfl xnm0 (xjz_ltF hc34)) ?_
    refine xg_t (xg_iload (va := (0, z32)) rfl rfl) ?_
    refine xg_t (xg_aload (va := (2, 0)) rfl rfl) ?_
    refine xg_t (xg_getf (va := (2, 80)) h0_1 rfl) ?_
    refine xoI (xqc80 hI : cpI 11 48 4294967295 (wget w 80)) (fun g80_35 h80_36 hb37 => ?_)
    obtain ⟨us38, ha39, ha40⟩ := id h80_36
    refine xg_t (xg_alen ha39) ?_
    by_cases hc41 : z32 < 11
    · refine xg_t (xg_icT (u := z32) (v := 11) rfl xnm0 xnm0 (xj_ltT hc41 (by omega))) ?_
      refine xg_t (xg_blq rfl) ?_
      refine xg_t (xg_aload (va := (2, 0)) rfl rfl) ?_
      refine xg_t (xg_getf (va := (2, 1)) h0_1 rfl) ?_
      refine xg_t (xg_getf (va := (2, 24)) h1_14 rfl) ?_
      refine xg_t (xg_iload (va := (0, kk)) rfl rfl) ?_
      refine xg_t (xg_const) ?_
      refine xg_k (xg_cVr mX5_get (vs := [(0, kk), (0, 4)]) (rest := []) (rs := [(0, if kk < f24_26 ∧ 4 < 5 then g25_29 (kk * 5 + 4) else 4294967295)]) (cn1 := 0) (sl1 := 0) rfl (rget_ok (lim := 64) (wd := 5) (sz := f24_26) h24_28 h25_30 (by decide) (by omega) (by decide) (by decide) (by omega) (by omega)) rfl h24_28 rfl rfl rfl rfl rfl rfl rfl) (xiteb (hb31)) (fun z42 hz43 => ?_)
      refine xg_t (xg_istore (l1 := [(2, (0, z32)), (0, (2, 0)), (1, (0, kk))]) rfl rfl rfl) ?_
      refine xg_t (xg_aload (va := (2, 0)) rfl rfl) ?_
      refine xg_t (xg_getf (va := (2, 1)) h0_1 rfl) ?_
      refine xg_t (xg_getf (va := (2, 24)) h1_14 rfl) ?_
      refine xg_t (xg_iload (va := (0, kk)) rfl rfl) ?_
      refine xg_t (xg_const) ?_
      refine xg_k (xg_cVr mX5_get (vs := [(0, kk), (0, 3)]) (rest := []) (rs := [(0, if kk < f24_26 ∧ 3 < 5 then g25_29 (kk * 5 + 3) else 4294967295)]) (cn1 := 0) (sl1 := 0) rfl (rget_ok (lim := 64) (wd := 5) (sz := f24_26) h24_28 h25_30 (by decide) (by omega) (by decide) (by decide) (by omega) (by omega)) rfl h24_28 rfl rfl rfl rfl rfl rfl rfl) (xiteb (hb31)) (fun z44 hz45 => ?_)
      by_cases hc46 : z44 = 60
      · refine xg_t (xg_swt (ks := [(60, 80), (62, 100)]) (u := z44) (z := 80) rfl rfl rfl xnm0 (xsw_y hc46)) ?_
        refine xg_t (xg_blq rfl) ?_
        refine xg_t (xg_aload (va := (2, 0)) rfl rfl) ?_
        refine xg_t (xg_getf (va := (2, 80)) h0_1 rfl) ?_
        refine xg_t (xg_iload (va := (0, z32)) rfl rfl) ?_
        refine xg_ialdB (n := z32) (B := 4294967295) h80_36 (hb37) xnm0 (by omega) (fun u47 hu48 he49 => ?_)
        refine xg_t (xg_iload (va := (0, z42)) rfl rfl) ?_
        by_cases hc50 : xbs u47 < xbs z42
        · have hc50u := hc50
          unfold xbs at hc50u
          refine xg_t (xg_icF (u := u47) (v := z42) rfl xnm0 xnm0 (xjs_geF hc50)) ?_
          refine xg_t (xg_const) ?_
          refine xg_t (xg_goto) ?_
          refine xg_t (xg_blq rfl) ?_
          refine xg_t (xg_istore (l1 := [(3, (0, z42)), (2, (0, z32)), (0, (2, 0)), (1, (0, kk))]) rfl rfl rfl) ?_
          refine xg_t (xg_goto) ?_
          refine xg_t (xg_blq rfl) ?_
          refine xg_t (xg_iload (va := (0, 1)) rfl rfl) ?_
          refine xg_t (xg_aload (va := (2, 0)) rfl rfl) ?_
          refine xg_t (xg_getf (va := (2, 1)) h0_1 rfl) ?_
          refine xg_t (xg_getf (va := (2, 24)) h1_14 rfl) ?_
          refine xg_t (xg_iload (va := (0, kk)) rfl rfl) ?_
          refine xg_t (xg_const) ?_
          refine xg_k (xg_cVr mX5_get (vs := [(0, kk), (0, 1)]) (rest := [(0, 1)]) (rs := [(0, if kk < f24_26 ∧ 1 < 5 then g25_29 (kk * 5 + 1) else 4294967295), (0, 1)]) (cn1 := 0) (sl1 := 0) rfl (rget_ok (lim := 64) (wd := 5) (sz := f24_26) h24_28 h25_30 (by decide) (by omega) (by decide) (by decide) (by omega) (by omega)) rfl h24_28 rfl rfl rfl rfl rfl rfl rfl) (xiteb (hb31)) (fun z51 hz52 => ?_)
          refine xg_t (xg_const) ?_
          by_cases hc53 : z51 = 1
          · refine xg_t (xg_icF (u := z51) (v := 1) rfl xnm0 xnm0 (xj_neF hc53)) ?_
            refine xg_t (xg_const) ?_
            refine xg_t (xg_goto) ?_
            refine xg_t (xg_blq rfl) ?_
            refine xg_t (xg_icT (u := 1) (v := 1) rfl xnm0 xnm0 (by decide)) ?_
            refine xg_t (xg_blq rfl) ?_
            refine xg_t (xg_const) ?_
            refine xg_t (xg_blq rfl) ?_
            exact xg_e ⟨0, w, ⟨rfl, rfl⟩, by first | decide | omega, hI, xFr.rf⟩
          · refine xg_t (xg_icT (u := z51) (v := 1) rfl xnm0 xnm0 (xj_neT hc53)) ?_
            refine xg_t (xg_blq rfl) ?_
            refine xg_t (xg_const) ?_
            refine xg_t (xg_blq rfl) ?_
            refine xg_t (xg_icF (u := 1) (v := 0) rfl xnm0 xnm0 (by decide)) ?_
            refine xg_t (xg_const) ?_
            refine xg_t (xg_goto) ?_
            refine xg_t (xg_blq rfl) ?_
            exact xg_e ⟨1, w, ⟨rfl, rfl⟩, by first | decide | omega, hI, xFr.rf⟩
        · have hc50u := hc50
          unfold xbs at hc50u
          refine xg_t (xg_icT (u := u47) (v := z42) rfl xnm0 xnm0 (xjs_geT hc50)) ?_
          refine xg_t (xg_blq rfl) ?_
          refine xg_t (xg_const) ?_
          refine xg_t (xg_blq rfl) ?_
          refine xg_t (xg_istore (l1 := [(3, (0, z42)), (2, (0, z32)), (0, (2, 0)), (1, (0, kk))]) rfl rfl rfl) ?_
          refine xg_t (xg_goto) ?_
          refine xg_t (xg_blq rfl) ?_
          refine xg_t (xg_iload (va := (0, 0)) rfl rfl) ?_
          refine xg_t (xg_aload (va := (2, 0)) rfl rfl) ?_
          refine xg_t (xg_getf (va := (2, 1)) h0_1 rfl) ?_
          refine xg_t (xg_getf (va := (2, 24)) h1_14 rfl) ?_
          refine xg_t (xg_iload (va := (0, kk)) rfl rfl) ?_
          refine xg_t (xg_const) ?_
          refine xg_k (xg_cVr mX5_get (vs := [(0, kk), (0, 1)]) (rest := [(0, 0)]) (rs := [(0, if kk < f24_26 ∧ 1 < 5 then g25_29 (kk * 5 + 1) else 4294967295), (0, 0)]) (cn1 := 0) (sl1 := 0) rfl (rget_ok (lim := 64) (wd := 5) (sz := f24_26) h24_28 h25_30 (by decide) (by omega) (by decide) (by decide) (by omega) (by omega)) rfl h24_28 rfl rfl rfl rfl rfl rfl rfl) (xiteb (hb31)) (fun z54 hz55 => ?_)
          refine xg_t (xg_const) ?_
          by_cases hc56 : z54 = 1
          · refine xg_t (xg_icF (u := z54) (v := 1) rfl xnm0 xnm0 (xj_neF hc56)) ?_
            refine xg_t (xg_const) ?_
            refine xg_t (xg_goto) ?_
            refine xg_t (xg_blq rfl) ?_
            refine xg_t (xg_icF (u := 0) (v := 1) rfl xnm0 xnm0 (by decide)) ?_
            refine xg_t (xg_const) ?_
            refine xg_t (xg_goto) ?_
            refine xg_t (xg_blq rfl) ?_
            exact xg_e ⟨1, w, ⟨rfl, rfl⟩, by first | decide | omega, hI, xFr.rf⟩
          · refine xg_t (xg_icT (u := z54) (v := 1) rfl xnm0 xnm0 (xj_neT hc56)) ?_
            refine xg_t (xg_blq rfl) ?_
            refine xg_t (xg_const) ?_
            refine xg_t (xg_blq rfl) ?_
            refine xg_t (xg_icT (u := 0) (v := 0) rfl xnm0 xnm0 (by decide)) ?_
            refine xg_t (xg_blq rfl) ?_
            refine xg_t (xg_const) ?_
            refine xg_t (xg_blq rfl) ?_
            exact xg_e ⟨0, w, ⟨rfl, rfl⟩, by first | decide | omega, hI, xFr.rf⟩
      · by_cases hc57 : z44 = 62
        · refine xg_t (xg_swt (ks := [(60, 80), (62, 100)]) (u := z44) (z := 100) rfl rfl rfl xnm0 (xsw_n hc46 (xsw_y hc57))) ?_
          refine xg_t (xg_blq rfl) ?_
          refine xg_t (xg_aload (va := (2, 0)) rfl rfl) ?_
          refine xg_t (xg_getf (va := (2, 80)) h0_1 rfl) ?_
          refine xg_t (xg_iload (va := (0, z32)) rfl rfl) ?_
          refine xg_ialdB (n := z32) (B := 4294967295) h80_36 (hb37) xnm0 (by omega) (fun u58 hu59 he60 => ?_)
          refine xg_t (xg_iload (va := (0, z42)) rfl rfl) ?_
          by_cases hc61 : xbs z42 < xbs u58
          · have hc61u := hc61
            unfold xbs at hc61u
            refine xg_t (xg_icF (u := u58) (v := z42) rfl xnm0 xnm0 (xjs_leF hc61)) ?_
            refine xg_t (xg_const) ?_
            refine xg_t (xg_goto) ?_
            refine xg_t (xg_blq rfl) ?_
            refine xg_t (xg_istore (l1 := [(3, (0, z42)), (2, (0, z32)), (0, (2, 0)), (1, (0, kk))]) rfl rfl rfl) ?_
            refine xg_t (xg_goto) ?_
            refine xg_t (xg_blq rfl) ?_
            refine xg_t (xg_iload (va := (0, 1)) rfl rfl) ?_
            refine xg_t (xg_aload (va := (2, 0)) rfl rfl) ?_
            refine xg_t (xg_getf (va := (2, 1)) h0_1 rfl) ?_
            refine xg_t (xg_getf (va := (2, 24)) h1_14 rfl) ?_
            refine xg_t (xg_iload (va := (0, kk)) rfl rfl) ?_
            refine xg_t (xg_const) ?_
            refine xg_k (xg_cVr mX5_get (vs := [(0, kk), (0, 1)]) (rest := [(0, 1)]) (rs := [(0, if kk < f24_26 ∧ 1 < 5 then g25_29 (kk * 5 + 1) else 4294967295), (0, 1)]) (cn1 := 0) (sl1 := 0) rfl (rget_ok (lim := 64) (wd := 5) (sz := f24_26) h24_28 h25_30 (by decide) (by omega) (by decide) (by decide) (by omega) (by omega)) rfl h24_28 rfl rfl rfl rfl rfl rfl rfl) (xiteb (hb31)) (fun z62 hz63 => ?_)
            refine xg_t (xg_const) ?_
            by_cases hc64 : z62 = 1
            · refine xg_t (xg_icF (u := z62) (v := 1) rfl xnm0 xnm0 (xj_neF hc64)) ?_
              refine xg_t (xg_const) ?_
              refine xg_t (xg_goto) ?_
              refine xg_t (xg_blq rfl) ?_
              refine xg_t (xg_icT (u := 1) (v := 1) rfl xnm0 xnm0 (by decide)) ?_
              refine xg_t (xg_blq rfl) ?_
              refine xg_t (xg_const) ?_
              refine xg_t (xg_blq rfl) ?_
              exact xg_e ⟨0, w, ⟨rfl, rfl⟩, by first | decide | omega, hI, xFr.rf⟩
            · refine xg_t (xg_icT (u := z62) (v := 1) rfl xnm0 xnm0 (xj_neT hc64)) ?_
              refine xg_t (xg_blq rfl) ?_
              refine xg_t (xg_const) ?_
              refine xg_t (xg_blq rfl) ?_
              refine xg_t (xg_icF (u := 1) (v := 0) rfl xnm0 xnm0 (by decide)) ?_
              refine xg_t (xg_const) ?_
              refine xg_t (xg_goto) ?_
              refine xg_t (xg_blq rfl) ?_
              exact xg_e ⟨1, w, ⟨rfl, rfl⟩, by first | decide | omega, hI, xFr.rf⟩
          · have hc61u := hc61
            unfold xbs at hc61u
            refine xg_t (xg_icT (u := u58) (v := z42) rfl xnm0 xnm0 (xjs_leT hc61)) ?_
            refine xg_t (xg_blq rfl) ?_
            refine xg_t (xg_const) ?_
            refine xg_t (xg_blq rfl) ?_
            refine xg_t (xg_istore (l1 := [(3, (0, z42)), (2, (0, z32)), (0, (2, 0)), (1, (0, kk))]) rfl rfl rfl) ?_
            refine xg_t (xg_goto) ?_
            refine xg_t (xg_blq rfl) ?_
            refine xg_t (xg_iload (va := (0, 0)) rfl rfl) ?_
            refine xg_t (xg_aload (va := (2, 0)) rfl rfl) ?_
            refine xg_t (xg_getf (va := (2, 1)) h0_1 rfl) ?_
            refine xg_t (xg_getf (va := (2, 24)) h1_14 rfl) ?_
            refine xg_t (xg_iload (va := (0, kk)) rfl rfl) ?_
            refine xg_t (xg_const) ?_
            refine xg_k (xg_cVr mX5_get (vs := [(0, kk), (0, 1)]) (rest := [(0, 0)]) (rs := [(0, if kk < f24_26 ∧ 1 < 5 then g25_29 (kk * 5 + 1) else 4294967295), (0, 0)]) (cn1 := 0) (sl1 := 0) rfl (rget_ok (lim := 64) (wd := 5) (sz := f24_26) h24_28 h25_30 (by decide) (by omega) (by decide) (by decide) (by omega) (by omega)) rfl h24_28 rfl rfl rfl rfl rfl rfl rfl) (xiteb (hb31)) (fun z65 hz66 => ?_)
            refine xg_t (xg_const) ?_
            by_cases hc67 : z65 = 1
            · refine xg_t (xg_icF (u := z65) (v := 1) rfl xnm0 xnm0 (xj_neF hc67)) ?_
              refine xg_t (xg_const) ?_
              refine xg_t (xg_goto) ?_
              refine xg_t (xg_blq rfl) ?_
              refine xg_t (xg_icF (u := 0) (v := 1) rfl xnm0 xnm0 (by decide)) ?_
              refine xg_t (xg_const) ?_
              refine xg_t (xg_goto) ?_
              refine xg_t (xg_blq rfl) ?_
              exact xg_e ⟨1, w, ⟨rfl, rfl⟩, by first | decide | omega, hI, xFr.rf⟩
            · refine xg_t (xg_icT (u := z65) (v := 1) rfl xnm0 xnm0 (xj_neT hc67)) ?_
              refine xg_t (xg_blq rfl) ?_
              refine xg_t (xg_const) ?_
              refine xg_t (xg_blq rfl) ?_
              refine xg_t (xg_icT (u := 0) (v := 0) rfl xnm0 xnm0 (by decide)) ?_
              refine xg_t (xg_blq rfl) ?_
              refine xg_t (xg_const) ?_
              refine xg_t (xg_blq rfl) ?_
              exact xg_e ⟨0, w, ⟨rfl, rfl⟩, by first | decide | omega, hI, xFr.rf⟩
        · refine xg_t (xg_swt (ks := [(60, 80), (62, 100)]) (u := z44) (z := 120) rfl rfl rfl xnm0 (xsw_n hc46 (xsw_n hc57 (xsw_d)))) ?_
          refine xg_t (xg_blq rfl) ?_
          refine xg_t (xg_aload (va := (2, 0)) rfl rfl) ?_
          refine xg_t (xg_getf (va := (2, 80)) h0_1 rfl) ?_
          refine xg_t (xg_iload (va := (0, z32)) rfl rfl) ?_
          refine xg_ialdB (n := z32) (B := 4294967295) h80_36 (hb37) xnm0 (by omega) (fun u68 hu69 he70 => ?_)
          refine xg_t (xg_iload (va := (0, z42)) rfl rfl) ?_
          by_cases hc71 : u68 = z42
          · refine xg_t (xg_icF (u := u68) (v := z42) rfl xnm0 xnm0 (xj_neF hc71)) ?_
            refine xg_t (xg_const) ?_
            refine xg_t (xg_goto) ?_
            refine xg_t (xg_blq rfl) ?_
            refine xg_t (xg_istore (l1 := [(3, (0, z42)), (2, (0, z32)), (0, (2, 0)), (1, (0, kk))]) rfl rfl rfl) ?_
            refine xg_t (xg_blq rfl) ?_
            refine xg_t (xg_iload (va := (0, 1)) rfl rfl) ?_
            refine xg_t (xg_aload (va := (2, 0)) rfl rfl) ?_
            refine xg_t (xg_getf (va := (2, 1)) h0_1 rfl) ?_
            refine xg_t (xg_getf (va := (2, 24)) h1_14 rfl) ?_
            refine xg_t (xg_iload (va := (0, kk)) rfl rfl) ?_
            refine xg_t (xg_const) ?_
            refine xg_k (xg_cVr mX5_get (vs := [(0, kk), (0, 1)]) (rest := [(0, 1)]) (rs := [(0, if kk < f24_26 ∧ 1 < 5 then g25_29 (kk * 5 + 1) else 4294967295), (0, 1)]) (cn1 := 0) (sl1 := 0) rfl (rget_ok (lim := 64) (wd := 5) (sz := f24_26) h24_28 h25_30 (by decide) (by omega) (by decide) (by decide) (by omega) (by omega)) rfl h24_28 rfl rfl rfl rfl rfl rfl rfl) (xiteb (hb31)) (fun z72 hz73 => ?_)
            refine xg_t (xg_const) ?_
            by_cases hc74 : z72 = 1
            · refine xg_t (xg_icF (u := z72) (v := 1) rfl xnm0 xnm0 (xj_neF hc74)) ?_
              refine xg_t (xg_const) ?_
              refine xg_t (xg_goto) ?_
              refine xg_t (xg_blq rfl) ?_
              refine xg_t (xg_icT (u := 1) (v := 1) rfl xnm0 xnm0 (by decide)) ?_
              refine xg_t (xg_blq rfl) ?_
              refine xg_t (xg_const) ?_
              refine xg_t (xg_blq rfl) ?_
              exact xg_e ⟨0, w, ⟨rfl, rfl⟩, by first | decide | omega, hI, xFr.rf⟩
            · refine xg_t (xg_icT (u := z72) (v := 1) rfl xnm0 xnm0 (xj_neT hc74)) ?_
              refine xg_t (xg_blq rfl) ?_
              refine xg_t (xg_const) ?_
              refine xg_t (xg_blq rfl) ?_
              refine xg_t (xg_icF (u := 1) (v := 0) rfl xnm0 xnm0 (by decide)) ?_
              refine xg_t (xg_const) ?_
              refine xg_t (xg_goto) ?_
              refine xg_t (xg_blq rfl) ?_
              exact xg_e ⟨1, w, ⟨rfl, rfl⟩, by first | decide | omega, hI, xFr.rf⟩
          · refine xg_t (xg_icT (u := u68) (v := z42) rfl xnm0 xnm0 (xj_neT hc71)) ?_
            refine xg_t (xg_blq rfl) ?_
            refine xg_t (xg_const) ?_
            refine xg_t (xg_blq rfl) ?_
            refine xg_t (xg_istore (l1 := [(3, (0, z42)), (2, (0, z32)), (0, (2, 0)), (1, (0, kk))]) rfl rfl rfl) ?_
            refine xg_t (xg_blq rfl) ?_
            refine xg_t (xg_iload (va := (0, 0)) rfl rfl) ?_
            refine xg_t (xg_aload (va := (2, 0)) rfl rfl) ?_
            refine xg_t (xg_getf (va := (2, 1)) h0_1 rfl) ?_
            refine xg_t (xg_getf (va := (2, 24)) h1_14 rfl) ?_
            refine xg_t (xg_iload (va := (0, kk)) rfl rfl) ?_
            refine xg_t (xg_const) ?_
            refine xg_k (xg_cVr mX5_get (vs := [(0, kk), (0, 1)]) (rest := [(0, 0)]) (rs := [(0, if kk < f24_26 ∧ 1 < 5 then g25_29 (kk * 5 + 1) else 4294967295), (0, 0)]) (cn1 := 0) (sl1 := 0) rfl (rget_ok (lim := 64) (wd := 5) (sz := f24_26) h24_28 h25_30 (by decide) (by omega) (by decide) (by decide) (by omega) (by omega)) rfl h24_28 rfl rfl rfl rfl rfl rfl rfl) (xiteb (hb31)) (fun z75 hz76 => ?_)
            refine xg_t (xg_const) ?_
            by_cases hc77 : z75 = 1
            · refine xg_t (xg_icF (u := z75) (v := 1) rfl xnm0 xnm0 (xj_neF hc77)) ?_
              refine xg_t (xg_const) ?_
              refine xg_t (xg_goto) ?_
              refine xg_t (xg_blq rfl) ?_
              refine xg_t (xg_icF (u := 0) (v := 1) rfl xnm0 xnm0 (by decide)) ?_
              refine xg_t (xg_const) ?_
              refine xg_t (xg_goto) ?_
              refine xg_t (xg_blq rfl) ?_
              exact xg_e ⟨1, w, ⟨rfl, rfl⟩, by first | decide | omega, hI, xFr.rf⟩
            · refine xg_t (xg_icT (u := z75) (v := 1) rfl xnm0 xnm0 (xj_neT hc77)) ?_
              refine xg_t (xg_blq rfl) ?_
              refine xg_t (xg_const) ?_
              refine xg_t (xg_blq rfl) ?_
              refine xg_t (xg_icT (u := 0) (v := 0) rfl xnm0 xnm0 (by decide)) ?_
              refine xg_t (xg_blq rfl) ?_
              refine xg_t (xg_const) ?_
              refine xg_t (xg_blq rfl) ?_
              exact xg_e ⟨0, w, ⟨rfl, rfl⟩, by first | decide | omega, hI, xFr.rf⟩
    · refine xg_t (xg_icF (u := z32) (v := 11) rfl xnm0 xnm0 (xj_ltF (by omega) (by omega))) ?_
      refine xg_t (xg_blq rfl) ?_
      refine xg_t (xg_const) ?_
      exact xg_e ⟨0, w, ⟨rfl, rfl⟩, by first | decide | omega, hI, xFr.rf⟩
  · refine xg_t (xg_ifT (u := z32) rfl xnm0 (xjz_ltT (by omega) (by omega))) ?_
    refine xg_t (xg_blq rfl) ?_
    refine xg_t (xg_const) ?_
    exact xg_e ⟨0, w, ⟨rfl, rfl⟩, by first | decide | omega, hI, xFr.rf⟩
theorem scJudge (hI : xInv w)  : xPq (d + 2) mX11_judgeLines [(2, 0)] w bd fc rr [] (fun w' => xInv w' ∧ xFr [81] w w') := by
  refine xPq.of ?_
  show xTo (d + 2) mX11_judgeLines (0, [], [(0, (2, 0))], [], (w, bd, fc, 0, 0, rr)) (fun φ => ∃ w', xEnd 0 [] (w', bd, fc, 0, 0, rr) φ ∧ xInv w' ∧ xFr [81] w w')
  have h0_1 := (xqc0 hI : cp0 (wget w 0))
  refine xoC1 (xqc1 hI : cp1 (wget w 1)) (fun f1_2 f1_4 f1_6 f1_8 f1_10 f1_12 h1_14 hb3 hb5 hb7 hb9 hb11 hb13 => ?_)
  refine xoC3 (xqc3 hI : cp3 (wget w 3)) (fun f3_15 f3_17 f3_19 f3_21 f3_23 h3_25 hb16 hb18 hb20 hb22 hb24 => ?_)
  obtain ⟨f24_26, h24_28, hb27⟩ := (xqc24 hI : cp24 (wget w 24))
  refine xoI (xqc25 hI : cpI 320 11 4294967295 (wget w 25)) (fun g25_29 h25_30 hb31 => ?_)
  refine xg_t (xg_blq rfl) ?_
  refine xg_t (xg_const) ?_
  refine xg_t (xg_istore (l1 := [(0, (2, 0))]) rfl rfl rfl) ?_
  refine xg_t (xg_drop (l1 := [(0, (2, 0)), (1, (0, 0))]) (List.forall_mem_cons.mpr ⟨List.mem_cons_of_mem _ (List.mem_cons_self), List.forall_mem_cons.mpr ⟨List.mem_cons_self, fun _ h => absurd h List.not_mem_nil⟩⟩)) ?_
  have key32 : ∀ (m34 : Nat) (li : Nat) (w35 : List (List xE)), 16 - li < m34 → li ≤ 16 → xInv w35 → xFr [81] w w35 → xTo (d + 2) mX11_judgeLines (2, [], [(0, (2, 0)), (1, (0, li))], [], (w35, bd, fc, 0, 0, rr)) (fun φ => ∃ w', xEnd 0 [] (w', bd, fc, 0, 0, rr) φ ∧ xInv w' ∧ xFr [81] w w') := by
    intro m34
    induction m34 with
    | zero => intro li w35 hz; exact absurd hz (Nat.not_lt_zero _)
    | succ m34 ih33 =>
      intro li w35 hm39 hn38 hI36 hF37
      refine xg_t (xg_blq rfl) ?_
      refine xg_t (xg_iload (va := (0, li)) rfl rfl) ?_
      refine xg_t (xg_aload (va := (2, 0)) rfl rfl) ?_
      refine xg_t (xg_getf (va := (2, 81)) (hF37.get (by decide) h0_1) rfl) ?_
      obtain ⟨g81_40, h81_41, hb42⟩ := (xqc81 hI36 : cpK 2 0 16 49 1 (wget w35 81))
      have h81_41 : xRk 2 0 w35 81 16 49 g81_40 := h81_41
      obtain ⟨us43, ha44, ha45⟩ := id h81_41
      refine xg_t (xg_alen ha44) ?_
      by_cases hc46 : li < 16
      · refine xg_t (xg_icF (u := li) (v := 16) rfl xnm0 xnm0 (xj_geF hc46 (by omega))) ?_
        refine xg_t (xg_aload (va := (2, 0)) rfl rfl) ?_
        refine xg_t (xg_getf (va := (2, 81)) (hF37.get (by decide) h0_1) rfl) ?_
        refine xg_t (xg_iload (va := (0, li)) rfl rfl) ?_
        refine xg_t (xg_const) ?_
        refine xg_bastZ (n := li) (u := 1) h81_41 xnm0 xnm0 rfl (by omega) (by omega) (fun w47 hr48 hb49 => ?_)
        refine xg_t (xg_iinc (u := li) (z := li + 1) (l1 := [(0, (2, 0))]) rfl rfl (by omega) rfl) ?_
        refine xg_t (xg_goto) ?_
        refine xg_t (xg_drop (l1 := [(0, (2, 0)), (1, (0, li + 1))]) (List.forall_mem_cons.mpr ⟨List.mem_cons_of_mem _ (List.mem_cons_self), List.forall_mem_cons.mpr ⟨List.mem_cons_self, fun _ h => absurd h List.not_mem_nil⟩⟩)) ?_
        exact ih33 (li + 1) w47 (by omega) (by omega) (xInv.up (S := [81]) hI36 (xFr.of (S := [81]) hb49 (by decide)) (List.forall_mem_cons.mpr ⟨xqu81 (show cpK 2 0 16 49 1 (wget w47 81) from ⟨_, hr48, xrb (by omega) (hb42)⟩), fun _ h => absurd h List.not_mem_nil⟩)) ((hF37.tr (xFr.of (S := [81]) hb49 (by decide))))
      · refine xg_t (xg_icT (u := li) (v := 16) rfl xnm0 xnm0 (xj_geT (by omega) (by omega))) ?_
        refine xg_t (xg_blq rfl) ?_
        refine xg_t (xg_const) ?_
        refine xg_t (xg_istore (l1 := [(0, (2, 0))]) rfl rfl rfl) ?_
        refine xg_t (xg_drop (l1 := [(0, (2, 0)), (1, (0, 0))]) (List.forall_mem_cons.mpr ⟨List.mem_cons_of_mem _ (List.mem_cons_self), List.forall_mem_cons.mpr ⟨List.mem_cons_self, fun _ h => absurd h List.not_mem_nil⟩⟩)) ?_
        have key50 : ∀ (m52 : Nat) (ki : Nat) (w53 : List (List xE)), 64 - ki < m52 → ki ≤ 64 → xInv w53 → xFr [81] w w53 → xTo (d + 2) mX11_judgeLines (26, [], [(0, (2, 0)), (1, (0, ki))], [], (w53, bd, fc, 0, 0, rr)) (fun φ => ∃ w', xEnd 0 [] (w', bd, fc, 0, 0, rr) φ ∧ xInv w' ∧ xFr [81] w w') := by
          intro m52
          induction m52 with
          | zero => intro ki w53 hz; exact absurd hz (Nat.not_lt_zero _)
          | succ m52 ih51 =>
            intro ki w53 hm57 hn56 hI54 hF55
            refine xg_t (xg_blq rfl) ?_
            refine xg_t (xg_iload (va := (0, ki)) rfl rfl) ?_
            refine xg_t (xg_aload (va := (2, 0)) rfl rfl) ?_
            refine xg_t (xg_getf (va := (2, 1)) (hF55.get (by decide) h0_1) rfl) ?_
            refine xg_t (xg_getf (va := (2, 24)) (hF55.get (by decide) h1_14) rfl) ?_
            refine xg_t (xg_getf (va := (0, f24_26)) (hF55.get (by decide) h24_28) rfl) ?_
            by_cases hc58 : ki < f24_26
            · refine xg_t (xg_icF (u := ki) (v := f24_26) rfl xnm0 xnm0 (xj_geF hc58 (by omega))) ?_
              refine xg_t (xg_aload (va := (2, 0)) rfl rfl) ?_
              refine xg_t (xg_getf (va := (2, 1)) (hF55.get (by decide) h0_1) rfl) ?_
              refine xg_t (xg_getf (va := (2, 24)) (hF55.get (by decide) h1_14) rfl) ?_
              refine xg_t (xg_iload (va := (0, ki)) rfl rfl) ?_
              refine xg_t (xg_const) ?_
              refine xg_k (xg_cVr mX5_get (vs := [(0, ki), (0, 0)]) (rest := []) (rs := [(0, if ki < f24_26 ∧ 0 < 5 then g25_29 (ki * 5 + 0) else 4294967295)]) (cn1 := 0) (sl1 := 0) rfl (rget_ok (lim := 64) (wd := 5) (sz := f24_26) (hF55.get (by decide) h24_28) (h25_30.fr hF55 (by decide)) (by decide) (by omega) (by decide) (by decide) (by omega) (by omega)) rfl (hF55.get (by decide) h24_28) rfl rfl rfl rfl rfl rfl rfl) (xiteb (hb31)) (fun z59 hz60 => ?_)
              refine xg_t (xg_istore (l1 := [(0, (2, 0)), (1, (0, ki))]) rfl rfl rfl) ?_
              refine xg_t (xg_iload (va := (0, z59)) rfl rfl) ?_
              by_cases hc61 : z59 < 2147483648
              · refine xg_t (xg_ifF (u := z59) rfl xnm0 (xjz_ltF hc61)) ?_
                refine xg_t (xg_iload (va := (0, z59)) rfl rfl) ?_
                refine xg_t (xg_aload (va := (2, 0)) rfl rfl) ?_
                refine xg_t (xg_getf (va := (2, 81)) (hF55.get (by decide) h0_1) rfl) ?_
                obtain ⟨g81_62, h81_63, hb64⟩ := (xqc81 hI54 : cpK 2 0 16 49 1 (wget w53 81))
                have h81_63 : xRk 2 0 w53 81 16 49 g81_62 := h81_63
                obtain ⟨us65, ha66, ha67⟩ := id h81_63
                refine xg_t (xg_alen ha66) ?_
                by_cases hc68 : z59 < 16
                · refine xg_t (xg_icF (u := z59) (v := 16) rfl xnm0 xnm0 (xj_geF hc68 (by omega))) ?_
                  refine xg_t (xg_aload (va := (2, 0)) rfl rfl) ?_
                  refine xg_t (xg_iload (va := (0, ki)) rfl rfl) ?_
                  refine xg_cVi mX11_testHolds (vs := [(0, ki)]) (rest := []) (cn1 := 0) (sl1 := 0) rfl (scTestHolds (hI54) (by omega)) rfl (hF55.get (by decide) h0_1) rfl rfl rfl rfl rfl rfl (fun n73 w69 hq70 => ?_)
                  obtain ⟨hn74, hI71, hF72⟩ := hq70
                  by_cases hc75 : n73 = 0
                  · refine xg_t (xg_ifF (u := n73) rfl xnm0 (xj_neF hc75)) ?_
                    refine xg_t (xg_aload (va := (2, 0)) rfl rfl) ?_
                    refine xg_t (xg_getf (va := (2, 81)) (hF72.get (by decide) (hF55.get (by decide) h0_1)) rfl) ?_
                    refine xg_t (xg_iload (va := (0, z59)) rfl rfl) ?_
                    refine xg_t (xg_const) ?_
                    refine xg_bastZ (n := z59) (u := 0) (h81_63.fr hF72 (by decide)) xnm0 xnm0 rfl (by omega) (by omega) (fun w76 hr77 hb78 => ?_)
                    refine xg_t (xg_blq rfl) ?_
                    refine xg_t (xg_iinc (u := ki) (z := ki + 1) (l1 := [(2, (0, z59)), (0, (2, 0))]) rfl rfl (by omega) rfl) ?_
                    refine xg_t (xg_goto) ?_
                    refine xg_t (xg_drop (l1 := [(0, (2, 0)), (1, (0, ki + 1))]) (List.forall_mem_cons.mpr ⟨List.mem_cons_of_mem _ (List.mem_cons_of_mem _ (List.mem_cons_self)), List.forall_mem_cons.mpr ⟨List.mem_cons_self, fun _ h => absurd h List.not_mem_nil⟩⟩)) ?_
                    exact ih51 (ki + 1) w76 (by omega) (by omega) (xInv.up (S := [81]) hI71 (xFr.of (S := [81]) hb78 (by decide)) (List.forall_mem_cons.mpr ⟨xqu81 (show cpK 2 0 16 49 1 (wget w76 81) from ⟨_, hr77, xrb (by omega) (hb64)⟩), fun _ h => absurd h List.not_mem_nil⟩)) (((hF55.tr (hF72.up (by decide))).tr (xFr.of (S := [81]) hb78 (by decide))))
                  · refine xg_t (xg_ifT (u := n73) rfl xnm0 (xj_neT hc75)) ?_
                    refine xg_t (xg_blq rfl) ?_
                    refine xg_t (xg_iinc (u := ki) (z := ki + 1) (l1 := [(2, (0, z59)), (0, (2, 0))]) rfl rfl (by omega) rfl) ?_
                    refine xg_t (xg_goto) ?_
                    refine xg_t (xg_drop (l1 := [(0, (2, 0)), (1, (0, ki + 1))]) (List.forall_mem_cons.mpr ⟨List.mem_cons_of_mem _ (List.mem_cons_of_mem _ (List.mem_cons_self)), List.forall_mem_cons.mpr ⟨List.mem_cons_self, fun _ h => absurd h List.not_mem_nil⟩⟩)) ?_
                    exact ih51 (ki + 1) w69 (by omega) (by omega) (hI71) ((hF55.tr (hF72.up (by decide))))
                · refine xg_t (xg_icT (u := z59) (v := 16) rfl xnm0 xnm0 (xj_geT (by omega) (by omega))) ?_
                  refine xg_t (xg_blq rfl) ?_
                  refine xg_t (xg_iinc (u := ki) (z := ki + 1) (l1 := [(2, (0, z59)), (0, (2, 0))]) rfl rfl (by omega) rfl) ?_
                  refine xg_t (xg_goto) ?_
                  refine xg_t (xg_drop (l1 := [(0, (2, 0)), (1, (0, ki + 1))]) (List.forall_mem_cons.mpr ⟨List.mem_cons_of_mem _ (List.mem_cons_of_mem _ (List.mem_cons_self)), List.forall_mem_cons.mpr ⟨List.mem_cons_self, fun _ h => absurd h List.not_mem_nil⟩⟩)) ?_
                  exact ih51 (ki + 1) w53 (by omega) (by omega) (hI54) (hF55)
              · refine xg_t (xg_ifT (u := z59) rfl xnm0 (xjz_ltT (by omega) (by omega))) ?_
                refine xg_t (xg_blq rfl) ?_
                refine xg_t (xg_iinc (u := ki) (z := ki + 1) (l1 := [(2, (0, z59)), (0, (2, 0))]) rfl rfl (by omega) rfl) ?_
                refine xg_t (xg_goto) ?_
                refine xg_t (xg_drop (l1 := [(0, (2, 0)), (1, (0, ki + 1))]) (List.forall_mem_cons.mpr ⟨List.mem_cons_of_mem _ (List.mem_cons_of_mem _ (List.mem_cons_self)), List.forall_mem_cons.mpr ⟨List.mem_cons_self, fun _ h => absurd h List.not_mem_nil⟩⟩)) ?_
                exact ih51 (ki + 1) w53 (by omega) (by omega) (hI54) (hF55)
            · refine xg_t (xg_icT (u := ki) (v := f24_26) rfl xnm0 xnm0 (xj_geT (by omega) (by omega))) ?_
              refine xg_t (xg_blq rfl) ?_
              exact xg_e ⟨w53, ⟨rfl, rfl⟩, hI54, hF55⟩
        exact key50 _ 0 w35 (Nat.lt_succ_self _) (by omega) (hI36) (hF37)
  exact key32 _ 0 w (Nat.lt_succ_self _) (by omega) (hI) (xFr.rf)
theorem scMeasure (hI : xInv w)  : xPq (d + 5) mX11_measureAll [(2, 0)] w bd fc rr [] (fun w' => xInv w' ∧ xFr [50, 51, 52, 53, 54, 55, 58, 59, 60, 61, 62, 63, 64, 65, 66, 67, 68, 69, 70, 71, 72, 73, 76, 77, 80] w w') := by
  refine xPq.of ?_
  show xTo (d + 5) mX11_measureAll (0, [], [(0, (2, 0))], [], (w, bd, fc, 0, 0, rr)) (fun φ => ∃ w', xEnd 0 [] (w', bd, fc, 0, 0, rr) φ ∧ xInv w' ∧ xFr [50, 51, 52, 53, 54, 55, 58, 59, 60, 61, 62, 63, 64, 65, 66, 67, 68, 69, 70, 71, 72, 73, 76, 77, 80] w w')
  refine xg_t (xg_blq rfl) ?_
  refine xg_t (xg_aload (va := (2, 0)) rfl rfl) ?_
  have h0_1 := (xqc0 hI : cp0 (wget w 0))
  refine xg_t (xg_getf (va := (2, 58)) h0_1 rfl) ?_
  refine xoC58 (xqc58 hI : cp58 (wget w 58)) (fun f58_2 f58_4 f58_6 h58_8 hb3 hb5 hb7 => ?_)
  refine xg_cVv mX10_refresh (vs := []) (rest := []) (cn1 := 0) (sl1 := 0) rfl (wyRefresh (hI)) rfl h58_8 rfl rfl rfl rfl rfl rfl (fun w9 hq10 => ?_)
  obtain ⟨hI11, hF12⟩ := hq10
  refine xg_t (xg_aload (va := (2, 0)) rfl rfl) ?_
  refine xg_t (xg_getf (va := (2, 68)) (hF12.get (by decide) h0_1) rfl) ?_
  refine xoC68 (xqc68 hI11 : cp68 (wget w9 68)) (fun f68_13 f68_15 h68_17 hb14 hb16 => ?_)
  refine xg_cVv mX3_refreshAges (vs := []) (rest := []) (cn1 := 0) (sl1 := 0) rfl (lmRefreshAges (hI11)) rfl h68_17 rfl rfl rfl rfl rfl rfl (fun w18 hq19 => ?_)
  obtain ⟨hI20, hF21⟩ := hq19
  refine xg_t (xg_aload (va := (2, 0)) rfl rfl) ?_
  refine xg_t (xg_getf (va := (2, 68)) (hF21.get (by decide) (hF12.get (by decide) h0_1)) rfl) ?_
  refine xoC68 (xqc68 hI20 : cp68 (wget w18 68)) (fun f68_22 f68_24 h68_26 hb23 hb25 => ?_)
  refine xg_cVv mX3_refreshDamp (vs := []) (rest := []) (cn1 := 0) (sl1 := 0) rfl (lmRefreshDamp (hI20)) rfl h68_26 rfl rfl rfl rfl rfl rfl (fun w27 hq28 => ?_)
  obtain ⟨hI29, hF30⟩ := hq28
  refine xg_t (xg_aload (va := (2, 0)) rfl rfl) ?_
  refine xg_t (xg_getf (va := (2, 76)) (hF30.get (by decide) (hF21.get (by decide) (hF12.get (by decide) h0_1))) rfl) ?_
  refine xoC76 (xqc76 hI29 : cp76 (wget w27 76)) (fun f76_31 f76_33 f76_35 f76_37 f76_39 f76_41 f76_43 f76_45 h76_47 hb32 hb34 hb36 hb38 hb40 hb42 hb44 hb46 => ?_)
  refine xg_cVv mX4_refresh (vs := []) (rest := []) (cn1 := 0) (sl1 := 0) rfl (lwRefresh (hI29)) rfl h76_47 rfl rfl rfl rfl rfl rfl (fun w48 hq49 => ?_)
  obtain ⟨hI50, hF51⟩ := hq49
  refine xg_t (xg_aload (va := (2, 0)) rfl rfl) ?_
  refine xg_t (xg_getf (va := (2, 72)) (hF51.get (by decide) (hF30.get (by decide) (hF21.get (by decide) (hF12.get (by decide) h0_1)))) rfl) ?_
  refine xoC72 (xqc72 hI50 : cp72 (wget w48 72)) (fun f72_52 f72_54 h72_56 hb53 hb55 => ?_)
  refine xg_cVv mX7_refreshWorth (vs := []) (rest := []) (cn1 := 0) (sl1 := 0) rfl (shRefreshWorth (hI50)) rfl h72_56 rfl rfl rfl rfl rfl rfl (fun w57 hq58 => ?_)
  obtain ⟨hI59, hF60⟩ := hq58
  refine xg_t (xg_aload (va := (2, 0)) rfl rfl) ?_
  refine xg_t (xg_getf (va := (2, 49)) (hF60.get (by decide) (hF51.get (by decide) (hF30.get (by decide) (hF21.get (by decide) (hF12.get (by decide) h0_1))))) rfl) ?_
  refine xoC49 (xqc49 hI59 : cp49 (wget w57 49)) (fun f49_61 f49_63 h49_65 hb62 hb64 => ?_)
  refine xg_cVv mX0_layAsTold (vs := []) (rest := []) (cn1 := 0) (sl1 := 0) rfl (bdLayAsTold (hI59)) rfl h49_65 rfl rfl rfl rfl rfl rfl (fun w66 hq67 => ?_)
  obtain ⟨hI68, hF69⟩ := hq67
  refine xg_t (xg_aload (va := (2, 0)) rfl rfl) ?_
  refine xg_t (xg_getf (va := (2, 1)) (hF69.get (by decide) (hF60.get (by decide) (hF51.get (by decide) (hF30.get (by decide) (hF21.get (by decide) (hF12.get (by decide) h0_1)))))) rfl) ?_
  refine xoC1 (xqc1 hI68 : cp1 (wget w66 1)) (fun f1_70 f1_72 f1_74 f1_76 f1_78 f1_80 h1_82 hb71 hb73 hb75 hb77 hb79 hb81 => ?_)
  refine xg_t (xg_getf (va := (2, 3)) h1_82 rfl) ?_
  refine xg_t (xg_astore (l1 := [(0, (2, 0))]) rfl rfl rfl) ?_
  refine xg_t (xg_aload (va := (2, 0)) rfl rfl) ?_
  refine xg_t (xg_getf (va := (2, 80)) (hF69.get (by decide) (hF60.get (by decide) (hF51.get (by decide) (hF30.get (by decide) (hF21.get (by decide) (hF12.get (by decide) h0_1)))))) rfl) ?_
  refine xg_t (xg_const) ?_
  refine xg_t (xg_aload (va := (2, 3)) rfl rfl) ?_
  refine xoC3 (xqc3 hI68 : cp3 (wget w66 3)) (fun f3_83 f3_85 f3_87 f3_89 f3_91 h3_93 hb84 hb86 hb88 hb90 hb92 => ?_)
  refine xg_cVi mX1_slidesAnywhere (vs := []) (rest := [(0, 0), (2, 80)]) (cn1 := 0) (sl1 := 0) rfl (fmToldSlides (hI68)) rfl h3_93 rfl rfl rfl rfl rfl rfl (fun n98 w94 hq95 => ?_)
  obtain ⟨hn99, hI96, hF97⟩ := hq95
  by_cases hc100 : n98 = 0
  · refine xg_t (xg_ifT (u := n98) rfl xnm0 (xj_eqT hc100)) ?_
    refine xg_t (xg_blq rfl) ?_
    refine xg_t (xg_const) ?_
    refine xg_t (xg_blq rfl) ?_
    refine xoI (xqc80 hI96 : cpI 11 48 4294967295 (wget w94 80)) (fun g80_101 h80_102 hb103 => ?_)
    refine xg_iastK (n := 0) (u := 0) h80_102 xnm0 xnm0 rfl (by first | decide | omega) (fun w104 hr105 hb106 => ?_)
    refine xg_t (xg_aload (va := (2, 0)) rfl rfl) ?_
    refine xg_t (xg_getf (va := (2, 80)) (hb106.get (by decide) (hF97.get (by decide) (hF69.get (by decide) (hF60.get (by decide) (hF51.get (by decide) (hF30.get (by decide) (hF21.get (by decide) (hF12.get (by decide) h0_1)))))))) rfl) ?_
    refine xg_t (xg_const) ?_
    refine xg_t (xg_aload (va := (2, 0)) rfl rfl) ?_
    refine xg_t (xg_getf (va := (2, 1)) (hb106.get (by decide) (hF97.get (by decide) (hF69.get (by decide) (hF60.get (by decide) (hF51.get (by decide) (hF30.get (by decide) (hF21.get (by decide) (hF12.get (by decide) h0_1)))))))) rfl) ?_
    refine xg_cVi mX9_cracksInView (vs := []) (rest := [(0, 1), (2, 80)]) (cn1 := 0) (sl1 := 0) rfl (tdCracksInView (xInv.up (S := [80]) hI96 (xFr.of (S := [80]) hb106 (by decide)) (List.forall_mem_cons.mpr ⟨xqu80 (show cpI 11 48 4294967295 (wget w104 80) from ⟨_, hr105, xrb (by omega) (hb103)⟩), fun _ h => absurd h List.not_mem_nil⟩))) rfl (hb106.get (by decide) (hF97.get (by decide) h1_82)) rfl rfl rfl rfl rfl rfl (fun n111 w107 hq108 => ?_)
    obtain ⟨hn112, hI109, hF110⟩ := hq108
    by_cases hc113 : n111 = 0
    · refine xg_t (xg_ifF (u := n111) rfl xnm0 (xj_neF hc113)) ?_
      refine xg_t (xg_const) ?_
      refine xg_t (xg_goto) ?_
      refine xg_t (xg_blq rfl) ?_
      refine xg_iastK (n := 1) (u := 1) (hr105.fr hF110 (by decide)) xnm0 xnm0 rfl (by first | decide | omega) (fun w114 hr115 hb116 => ?_)
      refine xg_t (xg_aload (va := (2, 0)) rfl rfl) ?_
      refine xg_t (xg_getf (va := (2, 80)) (hb116.get (by decide) (hF110.get (by decide) (hb106.get (by decide) (hF97.get (by decide) (hF69.get (by decide) (hF60.get (by decide) (hF51.get (by decide) (hF30.get (by decide) (hF21.get (by decide) (hF12.get (by decide) h0_1)))))))))) rfl) ?_
      refine xg_t (xg_const) ?_
      refine xg_t (xg_aload (va := (2, 3)) rfl rfl) ?_
      refine xg_t (xg_getf (va := (2, 4)) (hb116.get (by decide) (hF110.get (by decide) (hb106.get (by decide) (hF97.get (by decide) h3_93)))) rfl) ?_
      obtain ⟨f4_117, h4_119, hb118⟩ := (xqc4 hI109 : cp4 (wget w107 4))
      refine xg_t (xg_getf (va := (0, f4_117)) (hb116.get (by decide) h4_119) rfl) ?_
      refine xg_iastK (n := 2) (u := f4_117) hr115 xnm0 xnm0 rfl (by first | decide | omega) (fun w120 hr121 hb122 => ?_)
      refine xg_t (xg_aload (va := (2, 0)) rfl rfl) ?_
      refine xg_t (xg_getf (va := (2, 80)) (hb122.get (by decide) (hb116.get (by decide) (hF110.get (by decide) (hb106.get (by decide) (hF97.get (by decide) (hF69.get (by decide) (hF60.get (by decide) (hF51.get (by decide) (hF30.get (by decide) (hF21.get (by decide) (hF12.get (by decide) h0_1))))))))))) rfl) ?_
      refine xg_t (xg_const) ?_
      refine xg_t (xg_aload (va := (2, 3)) rfl rfl) ?_
      refine xg_t (xg_getf (va := (2, 4)) (hb122.get (by decide) (hb116.get (by decide) (hF110.get (by decide) (hb106.get (by decide) (hF97.get (by decide) h3_93))))) rfl) ?_
      refine xg_t (xg_getf (va := (0, f4_117)) (hb122.get (by decide) (hb116.get (by decide) h4_119)) rfl) ?_
      by_cases hc123 : f4_117 = 0
      · refine xg_t (xg_ifF (u := f4_117) rfl xnm0 (xj_neF hc123)) ?_
        refine xg_t (xg_const) ?_
        refine xg_t (xg_goto) ?_
        refine xg_t (xg_blq rfl) ?_
        refine xg_iastK (n := 3) (u := 0) hr121 xnm0 xnm0 rfl (by first | decide | omega) (fun w124 hr125 hb126 => ?_)
        refine xg_t (xg_aload (va := (2, 0)) rfl rfl) ?_
        refine xg_t (xg_getf (va := (2, 80)) (hb126.get (by decide) (hb122.get (by decide) (hb116.get (by decide) (hF110.get (by decide) (hb106.get (by decide) (hF97.get (by decide) (hF69.get (by decide) (hF60.get (by decide) (hF51.get (by decide) (hF30.get (by decide) (hF21.get (by decide) (hF12.get (by decide) h0_1)))))))))))) rfl) ?_
        refine xg_t (xg_const) ?_
        refine xg_t (xg_aload (va := (2, 3)) rfl rfl) ?_
        refine xg_t (xg_getf (va := (0, f3_87)) (hb126.get (by decide) (hb122.get (by decide) (hb116.get (by decide) (hF110.get (by decide) (hb106.get (by decide) (hF97.get (by decide) h3_93)))))) rfl) ?_
        refine xg_iastK (n := 4) (u := f3_87) hr125 xnm0 xnm0 rfl (by first | decide | omega) (fun w127 hr128 hb129 => ?_)
        refine xg_t (xg_aload (va := (2, 0)) rfl rfl) ?_
        refine xg_t (xg_getf (va := (2, 80)) (hb129.get (by decide) (hb126.get (by decide) (hb122.get (by decide) (hb116.get (by decide) (hF110.get (by decide) (hb106.get (by decide) (hF97.get (by decide) (hF69.get (by decide) (hF60.get (by decide) (hF51.get (by decide) (hF30.get (by decide) (hF21.get (by decide) (hF12.get (by decide) h0_1))))))))))))) rfl) ?_
        refine xg_t (xg_const) ?_
        refine xg_t (xg_aload (va := (2, 0)) rfl rfl) ?_
        refine xg_t (xg_getf (va := (2, 58)) (hb129.get (by decide) (hb126.get (by decide) (hb122.get (by decide) (hb116.get (by decide) (hF110.get (by decide) (hb106.get (by decide) (hF97.get (by decide) (hF69.get (by decide) (hF60.get (by decide) (hF51.get (by decide) (hF30.get (by decide) (hF21.get (by decide) (hF12.get (by decide) h0_1))))))))))))) rfl) ?_
        refine xoC58 (xqc58 hI109 : cp58 (wget w107 58)) (fun f58_130 f58_132 f58_134 h58_136 hb131 hb133 hb135 => ?_)
        refine xg_t (xg_getf (va := (0, f58_132)) (hb129.get (by decide) (hb126.get (by decide) (hb122.get (by decide) (hb116.get (by decide) h58_136)))) rfl) ?_
        refine xg_iastK (n := 5) (u := f58_132) hr128 xnm0 xnm0 rfl (by first | decide | omega) (fun w137 hr138 hb139 => ?_)
        refine xg_t (xg_aload (va := (2, 0)) rfl rfl) ?_
        refine xg_t (xg_getf (va := (2, 80)) (hb139.get (by decide) (hb129.get (by decide) (hb126.get (by decide) (hb122.get (by decide) (hb116.get (by decide) (hF110.get (by decide) (hb106.get (by decide) (hF97.get (by decide) (hF69.get (by decide) (hF60.get (by decide) (hF51.get (by decide) (hF30.get (by decide) (hF21.get (by decide) (hF12.get (by decide) h0_1)))))))))))))) rfl) ?_
        refine xg_t (xg_bip) ?_
        refine xg_t (xg_aload (va := (2, 0)) rfl rfl) ?_
        refine xg_cVi mX11_countDark (vs := []) (rest := [(0, 6), (2, 80)]) (cn1 := 0) (sl1 := 0) rfl (scCountDark (xInv.up (S := [80]) hI109 (((((xFr.of (S := [80]) hb116 (by decide)).tr (xFr.of (S := [80]) hb122 (by decide))).tr (xFr.of (S := [80]) hb126 (by decide))).tr (xFr.of (S := [80]) hb129 (by decide))).tr (xFr.of (S := [80]) hb139 (by decide))) (List.forall_mem_cons.mpr ⟨xqu80 (show cpI 11 48 4294967295 (wget w137 80) from ⟨_, hr138, xrb (by omega) (xrb (by omega) (xrb (by omega) (xrb (by omega) (xrb (by omega) (xrb (by omega) (hb103))))))⟩), fun _ h => absurd h List.not_mem_nil⟩))) rfl (hb139.get (by decide) (hb129.get (by decide) (hb126.get (by decide) (hb122.get (by decide) (hb116.get (by decide) (hF110.get (by decide) (hb106.get (by decide) (hF97.get (by decide) (hF69.get (by decide) (hF60.get (by decide) (hF51.get (by decide) (hF30.get (by decide) (hF21.get (by decide) (hF12.get (by decide) h0_1)))))))))))))) rfl rfl rfl rfl rfl rfl (fun n144 w140 hq141 => ?_)
        obtain ⟨hn145, hI142, hF143⟩ := hq141
        refine xg_iastK (n := 6) (u := n144) (hr138.fr hF143 (by decide)) xnm0 xnm0 rfl (by first | decide | omega) (fun w146 hr147 hb148 => ?_)
        refine xg_t (xg_aload (va := (2, 0)) rfl rfl) ?_
        refine xg_t (xg_getf (va := (2, 80)) (hb148.get (by decide) (hF143.get (by decide) (hb139.get (by decide) (hb129.get (by decide) (hb126.get (by decide) (hb122.get (by decide) (hb116.get (by decide) (hF110.get (by decide) (hb106.get (by decide) (hF97.get (by decide) (hF69.get (by decide) (hF60.get (by decide) (hF51.get (by decide) (hF30.get (by decide) (hF21.get (by decide) (hF12.get (by decide) h0_1)))))))))))))))) rfl) ?_
        refine xg_t (xg_bip) ?_
        refine xg_t (xg_sip) ?_
        refine xg_t (xg_aload (va := (2, 0)) rfl rfl) ?_
        refine xg_t (xg_getf (va := (2, 72)) (hb148.get (by decide) (hF143.get (by decide) (hb139.get (by decide) (hb129.get (by decide) (hb126.get (by decide) (hb122.get (by decide) (hb116.get (by decide) (hF110.get (by decide) (hb106.get (by decide) (hF97.get (by decide) (hF69.get (by decide) (hF60.get (by decide) (hF51.get (by decide) (hF30.get (by decide) (hF21.get (by decide) (hF12.get (by decide) h0_1)))))))))))))))) rfl) ?_
        refine xg_t (xg_const) ?_
        refine xg_t (xg_const) ?_
        refine xg_t (xg_aload (va := (2, 3)) rfl rfl) ?_
        refine xg_t (xg_getf (va := (0, f3_83)) (hb148.get (by decide) (hF143.get (by decide) (hb139.get (by decide) (hb129.get (by decide) (hb126.get (by decide) (hb122.get (by decide) (hb116.get (by decide) (hF110.get (by decide) (hb106.get (by decide) (hF97.get (by decide) h3_93)))))))))) rfl) ?_
        refine xg_t (xg_aload (va := (2, 3)) rfl rfl) ?_
        refine xg_t (xg_getf (va := (0, f3_85)) (hb148.get (by decide) (hF143.get (by decide) (hb139.get (by decide) (hb129.get (by decide) (hb126.get (by decide) (hb122.get (by decide) (hb116.get (by decide) (hF110.get (by decide) (hb106.get (by decide) (hF97.get (by decide) h3_93)))))))))) rfl) ?_
        refine xoC72 (xqc72 hI142 : cp72 (wget w140 72)) (fun f72_149 f72_151 h72_153 hb150 hb152 => ?_)
        refine xg_cVi mX7_worthOf (vs := [(0, 0), (0, 0), (0, f3_83), (0, f3_85)]) (rest := [(0, 9999), (0, 7), (2, 80)]) (cn1 := 0) (sl1 := 0) rfl (shWorthOf (xInv.up (S := [80]) hI142 (xFr.of (S := [80]) hb148 (by decide)) (List.forall_mem_cons.mpr ⟨xqu80 (show cpI 11 48 4294967295 (wget w146 80) from ⟨_, hr147, xrb (by omega) (xrb (by omega) (xrb (by omega) (xrb (by omega) (xrb (by omega) (xrb (by omega) (xrb (by omega) (hb103)))))))⟩), fun _ h => absurd h List.not_mem_nil⟩)) (by omega) (by omega) (by omega) (by omega)) rfl (hb148.get (by decide) h72_153) rfl rfl rfl rfl rfl rfl (fun n158 w154 hq155 => ?_)
        obtain ⟨hn159, hI156, hF157⟩ := hq155
        refine xg_minK (u := 9999) (v := n158) xnm0 xnm0 xmx_ok (by omega) (by omega) (fun z160 hz161 hz162 hz163 hz164 => ?_)
        unfold xbs at hz162 hz163
        refine xg_iastK (n := 7) (u := z160) (hr147.fr hF157 (by decide)) xnm0 xnm0 rfl (by first | decide | omega) (fun w165 hr166 hb167 => ?_)
        refine xg_t (xg_aload (va := (2, 0)) rfl rfl) ?_
        refine xg_t (xg_getf (va := (2, 80)) (hb167.get (by decide) (hF157.get (by decide) (hb148.get (by decide) (hF143.get (by decide) (hb139.get (by decide) (hb129.get (by decide) (hb126.get (by decide) (hb122.get (by decide) (hb116.get (by decide) (hF110.get (by decide) (hb106.get (by decide) (hF97.get (by decide) (hF69.get (by decide) (hF60.get (by decide) (hF51.get (by decide) (hF30.get (by decide) (hF21.get (by decide) (hF12.get (by decide) h0_1)))))))))))))))))) rfl) ?_
        refine xg_t (xg_bip) ?_
        refine xg_t (xg_aload (va := (2, 0)) rfl rfl) ?_
        refine xg_t (xg_getf (va := (2, 1)) (hb167.get (by decide) (hF157.get (by decide) (hb148.get (by decide) (hF143.get (by decide) (hb139.get (by decide) (hb129.get (by decide) (hb126.get (by decide) (hb122.get (by decide) (hb116.get (by decide) (hF110.get (by decide) (hb106.get (by decide) (hF97.get (by decide) (hF69.get (by decide) (hF60.get (by decide) (hF51.get (by decide) (hF30.get (by decide) (hF21.get (by decide) (hF12.get (by decide) h0_1)))))))))))))))))) rfl) ?_
        refine xg_cVi mX9_cracksInView (vs := []) (rest := [(0, 8), (2, 80)]) (cn1 := 0) (sl1 := 0) rfl (tdCracksInView (xInv.up (S := [80]) hI156 (xFr.of (S := [80]) hb167 (by decide)) (List.forall_mem_cons.mpr ⟨xqu80 (show cpI 11 48 4294967295 (wget w165 80) from ⟨_, hr166, xrb (by omega) (xrb (by omega) (xrb (by omega) (xrb (by omega) (xrb (by omega) (xrb (by omega) (xrb (by omega) (xrb (by omega) (hb103))))))))⟩), fun _ h => absurd h List.not_mem_nil⟩))) rfl (hb167.get (by decide) (hF157.get (by decide) (hb148.get (by decide) (hF143.get (by decide) (hb139.get (by decide) (hb129.get (by decide) (hb126.get (by decide) (hb122.get (by decide) (hb116.get (by decide) (hF110.get (by decide) (hb106.get (by decide) (hF97.get (by decide) h1_82)))))))))))) rfl rfl rfl rfl rfl rfl (fun n172 w168 hq169 => ?_)
        obtain ⟨hn173, hI170, hF171⟩ := hq169
        refine xg_iastK (n := 8) (u := n172) (hr166.fr hF171 (by decide)) xnm0 xnm0 rfl (by first | decide | omega) (fun w174 hr175 hb176 => ?_)
        refine xg_t (xg_aload (va := (2, 0)) rfl rfl) ?_
        refine xg_t (xg_getf (va := (2, 80)) (hb176.get (by decide) (hF171.get (by decide) (hb167.get (by decide) (hF157.get (by decide) (hb148.get (by decide) (hF143.get (by decide) (hb139.get (by decide) (hb129.get (by decide) (hb126.get (by decide) (hb122.get (by decide) (hb116.get (by decide) (hF110.get (by decide) (hb106.get (by decide) (hF97.get (by decide) (hF69.get (by decide) (hF60.get (by decide) (hF51.get (by decide) (hF30.get (by decide) (hF21.get (by decide) (hF12.get (by decide) h0_1)))))))))))))))))))) rfl) ?_
        refine xg_t (xg_bip) ?_
        refine xg_t (xg_aload (va := (2, 0)) rfl rfl) ?_
        refine xg_t (xg_getf (va := (2, 76)) (hb176.get (by decide) (hF171.get (by decide) (hb167.get (by decide) (hF157.get (by decide) (hb148.get (by decide) (hF143.get (by decide) (hb139.get (by decide) (hb129.get (by decide) (hb126.get (by decide) (hb122.get (by decide) (hb116.get (by decide) (hF110.get (by decide) (hb106.get (by decide) (hF97.get (by decide) (hF69.get (by decide) (hF60.get (by decide) (hF51.get (by decide) (hF30.get (by decide) (hF21.get (by decide) (hF12.get (by decide) h0_1)))))))))))))))))))) rfl) ?_
        refine xoC76 (xqc76 hI170 : cp76 (wget w168 76)) (fun f76_177 f76_179 f76_181 f76_183 f76_185 f76_187 f76_189 f76_191 h76_193 hb178 hb180 hb182 hb184 hb186 hb188 hb190 hb192 => ?_)
        refine xg_t (xg_getf (va := (0, f76_177)) (hb176.get (by decide) h76_193) rfl) ?_
        refine xg_iastK (n := 9) (u := f76_177) hr175 xnm0 xnm0 rfl (by first | decide | omega) (fun w194 hr195 hb196 => ?_)
        refine xg_t (xg_aload (va := (2, 0)) rfl rfl) ?_
        refine xg_t (xg_getf (va := (2, 80)) (hb196.get (by decide) (hb176.get (by decide) (hF171.get (by decide) (hb167.get (by decide) (hF157.get (by decide) (hb148.get (by decide) (hF143.get (by decide) (hb139.get (by decide) (hb129.get (by decide) (hb126.get (by decide) (hb122.get (by decide) (hb116.get (by decide) (hF110.get (by decide) (hb106.get (by decide) (hF97.get (by decide) (hF69.get (by decide) (hF60.get (by decide) (hF51.get (by decide) (hF30.get (by decide) (hF21.get (by decide) (hF12.get (by decide) h0_1))))))))))))))))))))) rfl) ?_
        refine xg_t (xg_bip) ?_
        refine xg_t (xg_aload (va := (2, 0)) rfl rfl) ?_
        refine xg_t (xg_getf (va := (2, 1)) (hb196.get (by decide) (hb176.get (by decide) (hF171.get (by decide) (hb167.get (by decide) (hF157.get (by decide) (hb148.get (by decide) (hF143.get (by decide) (hb139.get (by decide) (hb129.get (by decide) (hb126.get (by decide) (hb122.get (by decide) (hb116.get (by decide) (hF110.get (by decide) (hb106.get (by decide) (hF97.get (by decide) (hF69.get (by decide) (hF60.get (by decide) (hF51.get (by decide) (hF30.get (by decide) (hF21.get (by decide) (hF12.get (by decide) h0_1))))))))))))))))))))) rfl) ?_
        refine xg_t (xg_getf (va := (0, f1_76)) (hb196.get (by decide) (hb176.get (by decide) (hF171.get (by decide) (hb167.get (by decide) (hF157.get (by decide) (hb148.get (by decide) (hF143.get (by decide) (hb139.get (by decide) (hb129.get (by decide) (hb126.get (by decide) (hb122.get (by decide) (hb116.get (by decide) (hF110.get (by decide) (hb106.get (by decide) (hF97.get (by decide) h1_82))))))))))))))) rfl) ?_
        refine xg_iastK (n := 10) (u := f1_76) hr195 xnm0 xnm0 rfl (by first | decide | omega) (fun w197 hr198 hb199 => ?_)
        exact xg_e ⟨w197, ⟨rfl, rfl⟩, xInv.up (S := [80]) hI170 (((xFr.of (S := [80]) hb176 (by decide)).tr (xFr.of (S := [80]) hb196 (by decide))).tr (xFr.of (S := [80]) hb199 (by decide))) (List.forall_mem_cons.mpr ⟨xqu80 (show cpI 11 48 4294967295 (wget w197 80) from ⟨_, hr198, xrb (by omega) (xrb (by omega) (xrb (by omega) (xrb (by omega) (xrb (by omega) (xrb (by omega) (xrb (by omega) (xrb (by omega) (xrb (by omega) (xrb (by omega) (xrb (by omega) (hb103)))))))))))⟩), fun _ h => absurd h List.not_mem_nil⟩), ((((((((((((((((hF12.up (by decide)).tr (hF21.up (by decide))).tr (hF30.up (by decide))).tr (hF51.up (by decide))).tr (hF60.up (by decide))).tr (hF69.up (by decide))).tr (hF97.up (by decide))).tr (xFr.of (S := [50, 51, 52, 53, 54, 55, 58, 59, 60, 61, 62, 63, 64, 65, 66, 67, 68, 69, 70, 71, 72, 73, 76, 77, 80]) hb106 (by decide))).tr (hF110.up (by decide))).tr (((((xFr.of (S := [50, 51, 52, 53, 54, 55, 58, 59, 60, 61, 62, 63, 64, 65, 66, 67, 68, 69, 70, 71, 72, 73, 76, 77, 80]) hb116 (by decide)).tr (xFr.of (S := [50, 51, 52, 53, 54, 55, 58, 59, 60, 61, 62, 63, 64, 65, 66, 67, 68, 69, 70, 71, 72, 73, 76, 77, 80]) hb122 (by decide))).tr (xFr.of (S := [50, 51, 52, 53, 54, 55, 58, 59, 60, 61, 62, 63, 64, 65, 66, 67, 68, 69, 70, 71, 72, 73, 76, 77, 80]) hb126 (by decide))).tr (xFr.of (S := [50, 51, 52, 53, 54, 55, 58, 59, 60, 61, 62, 63, 64, 65, 66, 67, 68, 69, 70, 71, 72, 73, 76, 77, 80]) hb129 (by decide))).tr (xFr.of (S := [50, 51, 52, 53, 54, 55, 58, 59, 60, 61, 62, 63, 64, 65, 66, 67, 68, 69, 70, 71, 72, 73, 76, 77, 80]) hb139 (by decide)))).tr (hF143.up (by decide))).tr (xFr.of (S := [50, 51, 52, 53, 54, 55, 58, 59, 60, 61, 62, 63, 64, 65, 66, 67, 68, 69, 70, 71, 72, 73, 76, 77, 80]) hb148 (by decide))).tr (hF157.up (by decide))).tr (xFr.of (S := [50, 51, 52, 53, 54, 55, 58, 59, 60, 61, 62, 63, 64, 65, 66, 67, 68, 69, 70, 71, 72, 73, 76, 77, 80]) hb167 (by decide))).tr (hF171.up (by decide))).tr (((xFr.of (S := [50, 51, 52, 53, 54, 55, 58, 59, 60, 61, 62, 63, 64, 65, 66, 67, 68, 69, 70, 71, 72, 73, 76, 77, 80]) hb176 (by decide)).tr (xFr.of (S := [50, 51, 52, 53, 54, 55, 58, 59, 60, 61, 62, 63, 64, 65, 66, 67, 68, 69, 70, 71, 72, 73, 76, 77, 80]) hb196 (by decide))).tr (xFr.of (S := [50, 51, 52, 53, 54, 55, 58, 59, 60, 61, 62, 63, 64, 65, 66, 67, 68, 69, 70, 71, 72, 73, 76, 77, 80]) hb199 (by decide))))⟩
      · refine xg_t (xg_ifT (u := f4_117) rfl xnm0 (xj_neT hc123)) ?_
        refine xg_t (xg_blq rfl) ?_
        refine xg_t (xg_aload (va := (2, 0)) rfl rfl) ?_
        refine xg_t (xg_getf (va := (2, 49)) (hb122.get (by decide) (hb116.get (by decide) (hF110.get (by decide) (hb106.get (by decide) (hF97.get (by decide) (hF69.get (by decide) (hF60.get (by decide) (hF51.get (by decide) (hF30.get (by decide) (hF21.get (by decide) (hF12.get (by decide) h0_1))))))))))) rfl) ?_
        refine xg_cVi mX0_leastRound (vs := []) (rest := [(0, 3), (2, 80)]) (cn1 := 0) (sl1 := 0) rfl (bdLeast (xInv.up (S := [80]) hI109 ((xFr.of (S := [80]) hb116 (by decide)).tr (xFr.of (S := [80]) hb122 (by decide))) (List.forall_mem_cons.mpr ⟨xqu80 (show cpI 11 48 4294967295 (wget w120 80) from ⟨_, hr121, xrb (by omega) (xrb (by omega) (xrb (by omega) (hb103)))⟩), fun _ h => absurd h List.not_mem_nil⟩))) rfl (hb122.get (by decide) (hb116.get (by decide) (hF110.get (by decide) (hb106.get (by decide) (hF97.get (by decide) (hF69.get (by decide) h49_65)))))) rfl rfl rfl rfl rfl rfl (fun n204 w200 hq201 => ?_)
        obtain ⟨hn205, hI202, hF203⟩ := hq201
        refine xg_t (xg_blq rfl) ?_
        refine xg_iastK (n := 3) (u := n204) (hr121.fr hF203 (by decide)) xnm0 xnm0 rfl (by first | decide | omega) (fun w206 hr207 hb208 => ?_)
        refine xg_t (xg_aload (va := (2, 0)) rfl rfl) ?_
        refine xg_t (xg_getf (va := (2, 80)) (hb208.get (by decide) (hF203.get (by decide) (hb122.get (by decide) (hb116.get (by decide) (hF110.get (by decide) (hb106.get (by decide) (hF97.get (by decide) (hF69.get (by decide) (hF60.get (by decide) (hF51.get (by decide) (hF30.get (by decide) (hF21.get (by decide) (hF12.get (by decide) h0_1))))))))))))) rfl) ?_
        refine xg_t (xg_const) ?_
        refine xg_t (xg_aload (va := (2, 3)) rfl rfl) ?_
        refine xg_t (xg_getf (va := (0, f3_87)) (hb208.get (by decide) (hF203.get (by decide) (hb122.get (by decide) (hb116.get (by decide) (hF110.get (by decide) (hb106.get (by decide) (hF97.get (by decide) h3_93))))))) rfl) ?_
        refine xg_iastK (n := 4) (u := f3_87) hr207 xnm0 xnm0 rfl (by first | decide | omega) (fun w209 hr210 hb211 => ?_)
        refine xg_t (xg_aload (va := (2, 0)) rfl rfl) ?_
        refine xg_t (xg_getf (va := (2, 80)) (hb211.get (by decide) (hb208.get (by decide) (hF203.get (by decide) (hb122.get (by decide) (hb116.get (by decide) (hF110.get (by decide) (hb106.get (by decide) (hF97.get (by decide) (hF69.get (by decide) (hF60.get (by decide) (hF51.get (by decide) (hF30.get (by decide) (hF21.get (by decide) (hF12.get (by decide) h0_1)))))))))))))) rfl) ?_
        refine xg_t (xg_const) ?_
        refine xg_t (xg_aload (va := (2, 0)) rfl rfl) ?_
        refine xg_t (xg_getf (va := (2, 58)) (hb211.get (by decide) (hb208.get (by decide) (hF203.get (by decide) (hb122.get (by decide) (hb116.get (by decide) (hF110.get (by decide) (hb106.get (by decide) (hF97.get (by decide) (hF69.get (by decide) (hF60.get (by decide) (hF51.get (by decide) (hF30.get (by decide) (hF21.get (by decide) (hF12.get (by decide) h0_1)))))))))))))) rfl) ?_
        refine xoC58 (xqc58 hI202 : cp58 (wget w200 58)) (fun f58_212 f58_214 f58_216 h58_218 hb213 hb215 hb217 => ?_)
        refine xg_t (xg_getf (va := (0, f58_214)) (hb211.get (by decide) (hb208.get (by decide) h58_218)) rfl) ?_
        refine xg_iastK (n := 5) (u := f58_214) hr210 xnm0 xnm0 rfl (by first | decide | omega) (fun w219 hr220 hb221 => ?_)
        refine xg_t (xg_aload (va := (2, 0)) rfl rfl) ?_
        refine xg_t (xg_getf (va := (2, 80)) (hb221.get (by decide) (hb211.get (by decide) (hb208.get (by decide) (hF203.get (by decide) (hb122.get (by decide) (hb116.get (by decide) (hF110.get (by decide) (hb106.get (by decide) (hF97.get (by decide) (hF69.get (by decide) (hF60.get (by decide) (hF51.get (by decide) (hF30.get (by decide) (hF21.get (by decide) (hF12.get (by decide) h0_1))))))))))))))) rfl) ?_
        refine xg_t (xg_bip) ?_
        refine xg_t (xg_aload (va := (2, 0)) rfl rfl) ?_
        refine xg_cVi mX11_countDark (vs := []) (rest := [(0, 6), (2, 80)]) (cn1 := 0) (sl1 := 0) rfl (scCountDark (xInv.up (S := [80]) hI202 (((xFr.of (S := [80]) hb208 (by decide)).tr (xFr.of (S := [80]) hb211 (by decide))).tr (xFr.of (S := [80]) hb221 (by decide))) (List.forall_mem_cons.mpr ⟨xqu80 (show cpI 11 48 4294967295 (wget w219 80) from ⟨_, hr220, xrb (by omega) (xrb (by omega) (xrb (by omega) (xrb (by omega) (xrb (by omega) (xrb (by omega) (hb103))))))⟩), fun _ h => absurd h List.not_mem_nil⟩))) rfl (hb221.get (by decide) (hb211.get (by decide) (hb208.get (by decide) (hF203.get (by decide) (hb122.get (by decide) (hb116.get (by decide) (hF110.get (by decide) (hb106.get (by decide) (hF97.get (by decide) (hF69.get (by decide) (hF60.get (by decide) (hF51.get (by decide) (hF30.get (by decide) (hF21.get (by decide) (hF12.get (by decide) h0_1))))))))))))))) rfl rfl rfl rfl rfl rfl (fun n226 w222 hq223 => ?_)
        obtain ⟨hn227, hI224, hF225⟩ := hq223
        refine xg_iastK (n := 6) (u := n226) (hr220.fr hF225 (by decide)) xnm0 xnm0 rfl (by first | decide | omega) (fun w228 hr229 hb230 => ?_)
        refine xg_t (xg_aload (va := (2, 0)) rfl rfl) ?_
        refine xg_t (xg_getf (va := (2, 80)) (hb230.get (by decide) (hF225.get (by decide) (hb221.get (by decide) (hb211.get (by decide) (hb208.get (by decide) (hF203.get (by decide) (hb122.get (by decide) (hb116.get (by decide) (hF110.get (by decide) (hb106.get (by decide) (hF97.get (by decide) (hF69.get (by decide) (hF60.get (by decide) (hF51.get (by decide) (hF30.get (by decide) (hF21.get (by decide) (hF12.get (by decide) h0_1))))))))))))))))) rfl) ?_
        refine xg_t (xg_bip) ?_
        refine xg_t (xg_sip) ?_
        refine xg_t (xg_aload (va := (2, 0)) rfl rfl) ?_
        refine xg_t (xg_getf (va := (2, 72)) (hb230.get (by decide) (hF225.get (by decide) (hb221.get (by decide) (hb211.get (by decide) (hb208.get (by decide) (hF203.get (by decide) (hb122.get (by decide) (hb116.get (by decide) (hF110.get (by decide) (hb106.get (by decide) (hF97.get (by decide) (hF69.get (by decide) (hF60.get (by decide) (hF51.get (by decide) (hF30.get (by decide) (hF21.get (by decide) (hF12.get (by decide) h0_1))))))))))))))))) rfl) ?_
        refine xg_t (xg_const) ?_
        refine xg_t (xg_const) ?_
        refine xg_t (xg_aload (va := (2, 3)) rfl rfl) ?_
        refine xg_t (xg_getf (va := (0, f3_83)) (hb230.get (by decide) (hF225.get (by decide) (hb221.get (by decide) (hb211.get (by decide) (hb208.get (by decide) (hF203.get (by decide) (hb122.get (by decide) (hb116.get (by decide) (hF110.get (by decide) (hb106.get (by decide) (hF97.get (by decide) h3_93))))))))))) rfl) ?_
        refine xg_t (xg_aload (va := (2, 3)) rfl rfl) ?_
        refine xg_t (xg_getf (va := (0, f3_85)) (hb230.get (by decide) (hF225.get (by decide) (hb221.get (by decide) (hb211.get (by decide) (hb208.get (by decide) (hF203.get (by decide) (hb122.get (by decide) (hb116.get (by decide) (hF110.get (by decide) (hb106.get (by decide) (hF97.get (by decide) h3_93))))))))))) rfl) ?_
        refine xoC72 (xqc72 hI224 : cp72 (wget w222 72)) (fun f72_231 f72_233 h72_235 hb232 hb234 => ?_)
        refine xg_cVi mX7_worthOf (vs := [(0, 0), (0, 0), (0, f3_83), (0, f3_85)]) (rest := [(0, 9999), (0, 7), (2, 80)]) (cn1 := 0) (sl1 := 0) rfl (shWorthOf (xInv.up (S := [80]) hI224 (xFr.of (S := [80]) hb230 (by decide)) (List.forall_mem_cons.mpr ⟨xqu80 (show cpI 11 48 4294967295 (wget w228 80) from ⟨_, hr229, xrb (by omega) (xrb (by omega) (xrb (by omega) (xrb (by omega) (xrb (by omega) (xrb (by omega) (xrb (by omega) (hb103)))))))⟩), fun _ h => absurd h List.not_mem_nil⟩)) (by omega) (by omega) (by omega) (by omega)) rfl (hb230.get (by decide) h72_235) rfl rfl rfl rfl rfl rfl (fun n240 w236 hq237 => ?_)
        obtain ⟨hn241, hI238, hF239⟩ := hq237
        refine xg_minK (u := 9999) (v := n240) xnm0 xnm0 xmx_ok (by omega) (by omega) (fun z242 hz243 hz244 hz245 hz246 => ?_)
        unfold xbs at hz244 hz245
        refine xg_iastK (n := 7) (u := z242) (hr229.fr hF239 (by decide)) xnm0 xnm0 rfl (by first | decide | omega) (fun w247 hr248 hb249 => ?_)
        refine xg_t (xg_aload (va := (2, 0)) rfl rfl) ?_
        refine xg_t (xg_getf (va := (2, 80)) (hb249.get (by decide) (hF239.get (by decide) (hb230.get (by decide) (hF225.get (by decide) (hb221.get (by decide) (hb211.get (by decide) (hb208.get (by decide) (hF203.get (by decide) (hb122.get (by decide) (hb116.get (by decide) (hF110.get (by decide) (hb106.get (by decide) (hF97.get (by decide) (hF69.get (by decide) (hF60.get (by decide) (hF51.get (by decide) (hF30.get (by decide) (hF21.get (by decide) (hF12.get (by decide) h0_1))))))))))))))))))) rfl) ?_
        refine xg_t (xg_bip) ?_
        refine xg_t (xg_aload (va := (2, 0)) rfl rfl) ?_
        refine xg_t (xg_getf (va := (2, 1)) (hb249.get (by decide) (hF239.get (by decide) (hb230.get (by decide) (hF225.get (by decide) (hb221.get (by decide) (hb211.get (by decide) (hb208.get (by decide) (hF203.get (by decide) (hb122.get (by decide) (hb116.get (by decide) (hF110.get (by decide) (hb106.get (by decide) (hF97.get (by decide) (hF69.get (by decide) (hF60.get (by decide) (hF51.get (by decide) (hF30.get (by decide) (hF21.get (by decide) (hF12.get (by decide) h0_1))))))))))))))))))) rfl) ?_
        refine xg_cVi mX9_cracksInView (vs := []) (rest := [(0, 8), (2, 80)]) (cn1 := 0) (sl1 := 0) rfl (tdCracksInView (xInv.up (S := [80]) hI238 (xFr.of (S := [80]) hb249 (by decide)) (List.forall_mem_cons.mpr ⟨xqu80 (show cpI 11 48 4294967295 (wget w247 80) from ⟨_, hr248, xrb (by omega) (xrb (by omega) (xrb (by omega) (xrb (by omega) (xrb (by omega) (xrb (by omega) (xrb (by omega) (xrb (by omega) (hb103))))))))⟩), fun _ h => absurd h List.not_mem_nil⟩))) rfl (hb249.get (by decide) (hF239.get (by decide) (hb230.get (by decide) (hF225.get (by decide) (hb221.get (by decide) (hb211.get (by decide) (hb208.get (by decide) (hF203.get (by decide) (hb122.get (by decide) (hb116.get (by decide) (hF110.get (by decide) (hb106.get (by decide) (hF97.get (by decide) h1_82))))))))))))) rfl rfl rfl rfl rfl rfl (fun n254 w250 hq251 => ?_)
        obtain ⟨hn255, hI252, hF253⟩ := hq251
        refine xg_iastK (n := 8) (u := n254) (hr248.fr hF253 (by decide)) xnm0 xnm0 rfl (by first | decide | omega) (fun w256 hr257 hb258 => ?_)
        refine xg_t (xg_aload (va := (2, 0)) rfl rfl) ?_
        refine xg_t (xg_getf (va := (2, 80)) (hb258.get (by decide) (hF253.get (by decide) (hb249.get (by decide) (hF239.get (by decide) (hb230.get (by decide) (hF225.get (by decide) (hb221.get (by decide) (hb211.get (by decide) (hb208.get (by decide) (hF203.get (by decide) (hb122.get (by decide) (hb116.get (by decide) (hF110.get (by decide) (hb106.get (by decide) (hF97.get (by decide) (hF69.get (by decide) (hF60.get (by decide) (hF51.get (by decide) (hF30.get (by decide) (hF21.get (by decide) (hF12.get (by decide) h0_1))))))))))))))))))))) rfl) ?_
        refine xg_t (xg_bip) ?_
        refine xg_t (xg_aload (va := (2, 0)) rfl rfl) ?_
        refine xg_t (xg_getf (va := (2, 76)) (hb258.get (by decide) (hF253.get (by decide) (hb249.get (by decide) (hF239.get (by decide) (hb230.get (by decide) (hF225.get (by decide) (hb221.get (by decide) (hb211.get (by decide) (hb208.get (by decide) (hF203.get (by decide) (hb122.get (by decide) (hb116.get (by decide) (hF110.get (by decide) (hb106.get (by decide) (hF97.get (by decide) (hF69.get (by decide) (hF60.get (by decide) (hF51.get (by decide) (hF30.get (by decide) (hF21.get (by decide) (hF12.get (by decide) h0_1))))))))))))))))))))) rfl) ?_
        refine xoC76 (xqc76 hI252 : cp76 (wget w250 76)) (fun f76_259 f76_261 f76_263 f76_265 f76_267 f76_269 f76_271 f76_273 h76_275 hb260 hb262 hb264 hb266 hb268 hb270 hb272 hb274 => ?_)
        refine xg_t (xg_getf (va := (0, f76_259)) (hb258.get (by decide) h76_275) rfl) ?_
        refine xg_iastK (n := 9) (u := f76_259) hr257 xnm0 xnm0 rfl (by first | decide | omega) (fun w276 hr277 hb278 => ?_)
        refine xg_t (xg_aload (va := (2, 0)) rfl rfl) ?_
        refine xg_t (xg_getf (va := (2, 80)) (hb278.get (by decide) (hb258.get (by decide) (hF253.get (by decide) (hb249.get (by decide) (hF239.get (by decide) (hb230.get (by decide) (hF225.get (by decide) (hb221.get (by decide) (hb211.get (by decide) (hb208.get (by decide) (hF203.get (by decide) (hb122.get (by decide) (hb116.get (by decide) (hF110.get (by decide) (hb106.get (by decide) (hF97.get (by decide) (hF69.get (by decide) (hF60.get (by decide) (hF51.get (by decide) (hF30.get (by decide) (hF21.get (by decide) (hF12.get (by decide) h0_1)))))))))))))))))))))) rfl) ?_
        refine xg_t (xg_bip) ?_
        refine xg_t (xg_aload (va := (2, 0)) rfl rfl) ?_
        refine xg_t (xg_getf (va := (2, 1)) (hb278.get (by decide) (hb258.get (by decide) (hF253.get (by decide) (hb249.get (by decide) (hF239.get (by decide) (hb230.get (by decide) (hF225.get (by decide) (hb221.get (by decide) (hb211.get (by decide) (hb208.get (by decide) (hF203.get (by decide) (hb122.get (by decide) (hb116.get (by decide) (hF110.get (by decide) (hb106.get (by decide) (hF97.get (by decide) (hF69.get (by decide) (hF60.get (by decide) (hF51.get (by decide) (hF30.get (by decide) (hF21.get (by decide) (hF12.get (by decide) h0_1)))))))))))))))))))))) rfl) ?_
        refine xg_t (xg_getf (va := (0, f1_76)) (hb278.get (by decide) (hb258.get (by decide) (hF253.get (by decide) (hb249.get (by decide) (hF239.get (by decide) (hb230.get (by decide) (hF225.get (by decide) (hb221.get (by decide) (hb211.get (by decide) (hb208.get (by decide) (hF203.get (by decide) (hb122.get (by decide) (hb116.get (by decide) (hF110.get (by decide) (hb106.get (by decide) (hF97.get (by decide) h1_82)))))))))))))))) rfl) ?_
        refine xg_iastK (n := 10) (u := f1_76) hr277 xnm0 xnm0 rfl (by first | decide | omega) (fun w279 hr280 hb281 => ?_)
        exact xg_e ⟨w279, ⟨rfl, rfl⟩, xInv.up (S := [80]) hI252 (((xFr.of (S := [80]) hb258 (by decide)).tr (xFr.of (S := [80]) hb278 (by decide))).tr (xFr.of (S := [80]) hb281 (by decide))) (List.forall_mem_cons.mpr ⟨xqu80 (show cpI 11 48 4294967295 (wget w279 80) from ⟨_, hr280, xrb (by omega) (xrb (by omega) (xrb (by omega) (xrb (by omega) (xrb (by omega) (xrb (by omega) (xrb (by omega) (xrb (by omega) (xrb (by omega) (xrb (by omega) (xrb (by omega) (hb103)))))))))))⟩), fun _ h => absurd h List.not_mem_nil⟩), ((((((((((((((((((hF12.up (by decide)).tr (hF21.up (by decide))).tr (hF30.up (by decide))).tr (hF51.up (by decide))).tr (hF60.up (by decide))).tr (hF69.up (by decide))).tr (hF97.up (by decide))).tr (xFr.of (S := [50, 51, 52, 53, 54, 55, 58, 59, 60, 61, 62, 63, 64, 65, 66, 67, 68, 69, 70, 71, 72, 73, 76, 77, 80]) hb106 (by decide))).tr (hF110.up (by decide))).tr ((xFr.of (S := [50, 51, 52, 53, 54, 55, 58, 59, 60, 61, 62, 63, 64, 65, 66, 67, 68, 69, 70, 71, 72, 73, 76, 77, 80]) hb116 (by decide)).tr (xFr.of (S := [50, 51, 52, 53, 54, 55, 58, 59, 60, 61, 62, 63, 64, 65, 66, 67, 68, 69, 70, 71, 72, 73, 76, 77, 80]) hb122 (by decide)))).tr (hF203.up (by decide))).tr (((xFr.of (S := [50, 51, 52, 53, 54, 55, 58, 59, 60, 61, 62, 63, 64, 65, 66, 67, 68, 69, 70, 71, 72, 73, 76, 77, 80]) hb208 (by decide)).tr (xFr.of (S := [50, 51, 52, 53, 54, 55, 58, 59, 60, 61, 62, 63, 64, 65, 66, 67, 68, 69, 70, 71, 72, 73, 76, 77, 80]) hb211 (by decide))).tr (xFr.of (S := [50, 51, 52, 53, 54, 55, 58, 59, 60, 61, 62, 63, 64, 65, 66, 67, 68, 69, 70, 71, 72, 73, 76, 77, 80]) hb221 (by decide)))).tr (hF225.up (by decide))).tr (xFr.of (S := [50, 51, 52, 53, 54, 55, 58, 59, 60, 61, 62, 63, 64, 65, 66, 67, 68, 69, 70, 71, 72, 73, 76, 77, 80]) hb230 (by decide))).tr (hF239.up (by decide))).tr (xFr.of (S := [50, 51, 52, 53, 54, 55, 58, 59, 60, 61, 62, 63, 64, 65, 66, 67, 68, 69, 70, 71, 72, 73, 76, 77, 80]) hb249 (by decide))).tr (hF253.up (by decide))).tr (((xFr.of (S := [50, 51, 52, 53, 54, 55, 58, 59, 60, 61, 62, 63, 64, 65, 66, 67, 68, 69, 70, 71, 72, 73, 76, 77, 80]) hb258 (by decide)).tr (xFr.of (S := [50, 51, 52, 53, 54, 55, 58, 59, 60, 61, 62, 63, 64, 65, 66, 67, 68, 69, 70, 71, 72, 73, 76, 77, 80]) hb278 (by decide))).tr (xFr.of (S := [50, 51, 52, 53, 54, 55, 58, 59, 60, 61, 62, 63, 64, 65, 66, 67, 68, 69, 70, 71, 72, 73, 76, 77, 80]) hb281 (by decide))))⟩
    · refine xg_t (xg_ifT (u := n111) rfl xnm0 (xj_neT hc113)) ?_
      refine xg_t (xg_blq rfl) ?_
      refine xg_t (xg_const) ?_
      refine xg_t (xg_blq rfl) ?_
      refine xg_iastK (n := 1) (u := 0) (hr105.fr hF110 (by decide)) xnm0 xnm0 rfl (by first | decide | omega) (fun w282 hr283 hb284 => ?_)
      refine xg_t (xg_aload (va := (2, 0)) rfl rfl) ?_
      refine xg_t (xg_getf (va := (2, 80)) (hb284.get (by decide) (hF110.get (by decide) (hb106.get (by decide) (hF97.get (by decide) (hF69.get (by decide) (hF60.get (by decide) (hF51.get (by decide) (hF30.get (by decide) (hF21.get (by decide) (hF12.get (by decide) h0_1)))))))))) rfl) ?_
      refine xg_t (xg_const) ?_
      refine xg_t (xg_aload (va := (2, 3)) rfl rfl) ?_
      refine xg_t (xg_getf (va := (2, 4)) (hb284.get (by decide) (hF110.get (by decide) (hb106.get (by decide) (hF97.get (by decide) h3_93)))) rfl) ?_
      obtain ⟨f4_285, h4_287, hb286⟩ := (xqc4 hI109 : cp4 (wget w107 4))
      refine xg_t (xg_getf (va := (0, f4_285)) (hb284.get (by decide) h4_287) rfl) ?_
      refine xg_iastK (n := 2) (u := f4_285) hr283 xnm0 xnm0 rfl (by first | decide | omega) (fun w288 hr289 hb290 => ?_)
      refine xg_t (xg_aload (va := (2, 0)) rfl rfl) ?_
      refine xg_t (xg_getf (va := (2, 80)) (hb290.get (by decide) (hb284.get (by decide) (hF110.get (by decide) (hb106.get (by decide) (hF97.get (by decide) (hF69.get (by decide) (hF60.get (by decide) (hF51.get (by decide) (hF30.get (by decide) (hF21.get (by decide) (hF12.get (by decide) h0_1))))))))))) rfl) ?_
      refine xg_t (xg_const) ?_
      refine xg_t (xg_aload (va := (2, 3)) rfl rfl) ?_
      refine xg_t (xg_getf (va := (2, 4)) (hb290.get (by decide) (hb284.get (by decide) (hF110.get (by decide) (hb106.get (by decide) (hF97.get (by decide) h3_93))))) rfl) ?_
      refine xg_t (xg_getf (va := (0, f4_285)) (hb290.get (by decide) (hb284.get (by decide) h4_287)) rfl) ?_
      by_cases hc291 : f4_285 = 0
      · refine xg_t (xg_ifF (u := f4_285) rfl xnm0 (xj_neF hc291)) ?_
        refine xg_t (xg_const) ?_
        refine xg_t (xg_goto) ?_
        refine xg_t (xg_blq rfl) ?_
        refine xg_iastK (n := 3) (u := 0) hr289 xnm0 xnm0 rfl (by first | decide | omega) (fun w292 hr293 hb294 => ?_)
        refine xg_t (xg_aload (va := (2, 0)) rfl rfl) ?_
        refine xg_t (xg_getf (va := (2, 80)) (hb294.get (by decide) (hb290.get (by decide) (hb284.get (by decide) (hF110.get (by decide) (hb106.get (by decide) (hF97.get (by decide) (hF69.get (by decide) (hF60.get (by decide) (hF51.get (by decide) (hF30.get (by decide) (hF21.get (by decide) (hF12.get (by decide) h0_1)))))))))))) rfl) ?_
        refine xg_t (xg_const) ?_
        refine xg_t (xg_aload (va := (2, 3)) rfl rfl) ?_
        refine xg_t (xg_getf (va := (0, f3_87)) (hb294.get (by decide) (hb290.get (by decide) (hb284.get (by decide) (hF110.get (by decide) (hb106.get (by decide) (hF97.get (by decide) h3_93)))))) rfl) ?_
        refine xg_iastK (n := 4) (u := f3_87) hr293 xnm0 xnm0 rfl (by first | decide | omega) (fun w295 hr296 hb297 => ?_)
        refine xg_t (xg_aload (va := (2, 0)) rfl rfl) ?_
        refine xg_t (xg_getf (va := (2, 80)) (hb297.get (by decide) (hb294.get (by decide) (hb290.get (by decide) (hb284.get (by decide) (hF110.get (by decide) (hb106.get (by decide) (hF97.get (by decide) (hF69.get (by decide) (hF60.get (by decide) (hF51.get (by decide) (hF30.get (by decide) (hF21.get (by decide) (hF12.get (by decide) h0_1))))))))))))) rfl) ?_
        refine xg_t (xg_const) ?_
        refine xg_t (xg_aload (va := (2, 0)) rfl rfl) ?_
        refine xg_t (xg_getf (va := (2, 58)) (hb297.get (by decide) (hb294.get (by decide) (hb290.get (by decide) (hb284.get (by decide) (hF110.get (by decide) (hb106.get (by decide) (hF97.get (by decide) (hF69.get (by decide) (hF60.get (by decide) (hF51.get (by decide) (hF30.get (by decide) (hF21.get (by decide) (hF12.get (by decide) h0_1))))))))))))) rfl) ?_
        refine xoC58 (xqc58 hI109 : cp58 (wget w107 58)) (fun f58_298 f58_300 f58_302 h58_304 hb299 hb301 hb303 => ?_)
        refine xg_t (xg_getf (va := (0, f58_300)) (hb297.get (by decide) (hb294.get (by decide) (hb290.get (by decide) (hb284.get (by decide) h58_304)))) rfl) ?_
        refine xg_iastK (n := 5) (u := f58_300) hr296 xnm0 xnm0 rfl (by first | decide | omega) (fun w305 hr306 hb307 => ?_)
        refine xg_t (xg_aload (va := (2, 0)) rfl rfl) ?_
        refine xg_t (xg_getf (va := (2, 80)) (hb307.get (by decide) (hb297.get (by decide) (hb294.get (by decide) (hb290.get (by decide) (hb284.get (by decide) (hF110.get (by decide) (hb106.get (by decide) (hF97.get (by decide) (hF69.get (by decide) (hF60.get (by decide) (hF51.get (by decide) (hF30.get (by decide) (hF21.get (by decide) (hF12.get (by decide) h0_1)))))))))))))) rfl) ?_
        refine xg_t (xg_bip) ?_
        refine xg_t (xg_aload (va := (2, 0)) rfl rfl) ?_
        refine xg_cVi mX11_countDark (vs := []) (rest := [(0, 6), (2, 80)]) (cn1 := 0) (sl1 := 0) rfl (scCountDark (xInv.up (S := [80]) hI109 (((((xFr.of (S := [80]) hb284 (by decide)).tr (xFr.of (S := [80]) hb290 (by decide))).tr (xFr.of (S := [80]) hb294 (by decide))).tr (xFr.of (S := [80]) hb297 (by decide))).tr (xFr.of (S := [80]) hb307 (by decide))) (List.forall_mem_cons.mpr ⟨xqu80 (show cpI 11 48 4294967295 (wget w305 80) from ⟨_, hr306, xrb (by omega) (xrb (by omega) (xrb (by omega) (xrb (by omega) (xrb (by omega) (xrb (by omega) (hb103))))))⟩), fun _ h => absurd h List.not_mem_nil⟩))) rfl (hb307.get (by decide) (hb297.get (by decide) (hb294.get (by decide) (hb290.get (by decide) (hb284.get (by decide) (hF110.get (by decide) (hb106.get (by decide) (hF97.get (by decide) (hF69.get (by decide) (hF60.get (by decide) (hF51.get (by decide) (hF30.get (by decide) (hF21.get (by decide) (hF12.get (by decide) h0_1)))))))))))))) rfl rfl rfl rfl rfl rfl (fun n312 w308 hq309 => ?_)
        obtain ⟨hn313, hI310, hF311⟩ := hq309
        refine xg_iastK (n := 6) (u := n312) (hr306.fr hF311 (by decide)) xnm0 xnm0 rfl (by first | decide | omega) (fun w314 hr315 hb316 => ?_)
        refine xg_t (xg_aload (va := (2, 0)) rfl rfl) ?_
        refine xg_t (xg_getf (va := (2, 80)) (hb316.get (by decide) (hF311.get (by decide) (hb307.get (by decide) (hb297.get (by decide) (hb294.get (by decide) (hb290.get (by decide) (hb284.get (by decide) (hF110.get (by decide) (hb106.get (by decide) (hF97.get (by decide) (hF69.get (by decide) (hF60.get (by decide) (hF51.get (by decide) (hF30.get (by decide) (hF21.get (by decide) (hF12.get (by decide) h0_1)))))))))))))))) rfl) ?_
        refine xg_t (xg_bip) ?_
        refine xg_t (xg_sip) ?_
        refine xg_t (xg_aload (va := (2, 0)) rfl rfl) ?_
        refine xg_t (xg_getf (va := (2, 72)) (hb316.get (by decide) (hF311.get (by decide) (hb307.get (by decide) (hb297.get (by decide) (hb294.get (by decide) (hb290.get (by decide) (hb284.get (by decide) (hF110.get (by decide) (hb106.get (by decide) (hF97.get (by decide) (hF69.get (by decide) (hF60.get (by decide) (hF51.get (by decide) (hF30.get (by decide) (hF21.get (by decide) (hF12.get (by decide) h0_1)))))))))))))))) rfl) ?_
        refine xg_t (xg_const) ?_
        refine xg_t (xg_const) ?_
        refine xg_t (xg_aload (va := (2, 3)) rfl rfl) ?_
        refine xg_t (xg_getf (va := (0, f3_83)) (hb316.get (by decide) (hF311.get (by decide) (hb307.get (by decide) (hb297.get (by decide) (hb294.get (by decide) (hb290.get (by decide) (hb284.get (by decide) (hF110.get (by decide) (hb106.get (by decide) (hF97.get (by decide) h3_93)))))))))) rfl) ?_
        refine xg_t (xg_aload (va := (2, 3)) rfl rfl) ?_
        refine xg_t (xg_getf (va := (0, f3_85)) (hb316.get (by decide) (hF311.get (by decide) (hb307.get (by decide) (hb297.get (by decide) (hb294.get (by decide) (hb290.get (by decide) (hb284.get (by decide) (hF110.get (by decide) (hb106.get (by decide) (hF97.get (by decide) h3_93)))))))))) rfl) ?_
        refine xoC72 (xqc72 hI310 : cp72 (wget w308 72)) (fun f72_317 f72_319 h72_321 hb318 hb320 => ?_)
        refine xg_cVi mX7_worthOf (vs := [(0, 0), (0, 0), (0, f3_83), (0, f3_85)]) (rest := [(0, 9999), (0, 7), (2, 80)]) (cn1 := 0) (sl1 := 0) rfl (shWorthOf (xInv.up (S := [80]) hI310 (xFr.of (S := [80]) hb316 (by decide)) (List.forall_mem_cons.mpr ⟨xqu80 (show cpI 11 48 4294967295 (wget w314 80) from ⟨_, hr315, xrb (by omega) (xrb (by omega) (xrb (by omega) (xrb (by omega) (xrb (by omega) (xrb (by omega) (xrb (by omega) (hb103)))))))⟩), fun _ h => absurd h List.not_mem_nil⟩)) (by omega) (by omega) (by omega) (by omega)) rfl (hb316.get (by decide) h72_321) rfl rfl rfl rfl rfl rfl (fun n326 w322 hq323 => ?_)
        obtain ⟨hn327, hI324, hF325⟩ := hq323
        refine xg_minK (u := 9999) (v := n326) xnm0 xnm0 xmx_ok (by omega) (by omega) (fun z328 hz329 hz330 hz331 hz332 => ?_)
        unfold xbs at hz330 hz331
        refine xg_iastK (n := 7) (u := z328) (hr315.fr hF325 (by decide)) xnm0 xnm0 rfl (by first | decide | omega) (fun w333 hr334 hb335 => ?_)
        refine xg_t (xg_aload (va := (2, 0)) rfl rfl) ?_
        refine xg_t (xg_getf (va := (2, 80)) (hb335.get (by decide) (hF325.get (by decide) (hb316.get (by decide) (hF311.get (by decide) (hb307.get (by decide) (hb297.get (by decide) (hb294.get (by decide) (hb290.get (by decide) (hb284.get (by decide) (hF110.get (by decide) (hb106.get (by decide) (hF97.get (by decide) (hF69.get (by decide) (hF60.get (by decide) (hF51.get (by decide) (hF30.get (by decide) (hF21.get (by decide) (hF12.get (by decide) h0_1)))))))))))))))))) rfl) ?_
        refine xg_t (xg_bip) ?_
        refine xg_t (xg_aload (va := (2, 0)) rfl rfl) ?_
        refine xg_t (xg_getf (va := (2, 1)) (hb335.get (by decide) (hF325.get (by decide) (hb316.get (by decide) (hF311.get (by decide) (hb307.get (by decide) (hb297.get (by decide) (hb294.get (by decide) (hb290.get (by decide) (hb284.get (by decide) (hF110.get (by decide) (hb106.get (by decide) (hF97.get (by decide) (hF69.get (by decide) (hF60.get (by decide) (hF51.get (by decide) (hF30.get (by decide) (hF21.get (by decide) (hF12.get (by decide) h0_1)))))))))))))))))) rfl) ?_
        refine xg_cVi mX9_cracksInView (vs := []) (rest := [(0, 8), (2, 80)]) (cn1 := 0) (sl1 := 0) rfl (tdCracksInView (xInv.up (S := [80]) hI324 (xFr.of (S := [80]) hb335 (by decide)) (List.forall_mem_cons.mpr ⟨xqu80 (show cpI 11 48 4294967295 (wget w333 80) from ⟨_, hr334, xrb (by omega) (xrb (by omega) (xrb (by omega) (xrb (by omega) (xrb (by omega) (xrb (by omega) (xrb (by omega) (xrb (by omega) (hb103))))))))⟩), fun _ h => absurd h List.not_mem_nil⟩))) rfl (hb335.get (by decide) (hF325.get (by decide) (hb316.get (by decide) (hF311.get (by decide) (hb307.get (by decide) (hb297.get (by decide) (hb294.get (by decide) (hb290.get (by decide) (hb284.get (by decide) (hF110.get (by decide) (hb106.get (by decide) (hF97.get (by decide) h1_82)))))))))))) rfl rfl rfl rfl rfl rfl (fun n340 w336 hq337 => ?_)
        obtain ⟨hn341, hI338, hF339⟩ := hq337
        refine xg_iastK (n := 8) (u := n340) (hr334.fr hF339 (by decide)) xnm0 xnm0 rfl (by first | decide | omega) (fun w342 hr343 hb344 => ?_)
        refine xg_t (xg_aload (va := (2, 0)) rfl rfl) ?_
        refine xg_t (xg_getf (va := (2, 80)) (hb344.get (by decide) (hF339.get (by decide) (hb335.get (by decide) (hF325.get (by decide) (hb316.get (by decide) (hF311.get (by decide) (hb307.get (by decide) (hb297.get (by decide) (hb294.get (by decide) (hb290.get (by decide) (hb284.get (by decide) (hF110.get (by decide) (hb106.get (by decide) (hF97.get (by decide) (hF69.get (by decide) (hF60.get (by decide) (hF51.get (by decide) (hF30.get (by decide) (hF21.get (by decide) (hF12.get (by decide) h0_1)))))))))))))))))))) rfl) ?_
        refine xg_t (xg_bip) ?_
        refine xg_t (xg_aload (va := (2, 0)) rfl rfl) ?_
        refine xg_t (xg_getf (va := (2, 76)) (hb344.get (by decide) (hF339.get (by decide) (hb335.get (by decide) (hF325.get (by decide) (hb316.get (by decide) (hF311.get (by decide) (hb307.get (by decide) (hb297.get (by decide) (hb294.get (by decide) (hb290.get (by decide) (hb284.get (by decide) (hF110.get (by decide) (hb106.get (by decide) (hF97.get (by decide) (hF69.get (by decide) (hF60.get (by decide) (hF51.get (by decide) (hF30.get (by decide) (hF21.get (by decide) (hF12.get (by decide) h0_1)))))))))))))))))))) rfl) ?_
        refine xoC76 (xqc76 hI338 : cp76 (wget w336 76)) (fun f76_345 f76_347 f76_349 f76_351 f76_353 f76_355 f76_357 f76_359 h76_361 hb346 hb348 hb350 hb352 hb354 hb356 hb358 hb360 => ?_)
        refine xg_t (xg_getf (va := (0, f76_345)) (hb344.get (by decide) h76_361) rfl) ?_
        refine xg_iastK (n := 9) (u := f76_345) hr343 xnm0 xnm0 rfl (by first | decide | omega) (fun w362 hr363 hb364 => ?_)
        refine xg_t (xg_aload (va := (2, 0)) rfl rfl) ?_
        refine xg_t (xg_getf (va := (2, 80)) (hb364.get (by decide) (hb344.get (by decide) (hF339.get (by decide) (hb335.get (by decide) (hF325.get (by decide) (hb316.get (by decide) (hF311.get (by decide) (hb307.get (by decide) (hb297.get (by decide) (hb294.get (by decide) (hb290.get (by decide) (hb284.get (by decide) (hF110.get (by decide) (hb106.get (by decide) (hF97.get (by decide) (hF69.get (by decide) (hF60.get (by decide) (hF51.get (by decide) (hF30.get (by decide) (hF21.get (by decide) (hF12.get (by decide) h0_1))))))))))))))))))))) rfl) ?_
        refine xg_t (xg_bip) ?_
        refine xg_t (xg_aload (va := (2, 0)) rfl rfl) ?_
        refine xg_t (xg_getf (va := (2, 1)) (hb364.get (by decide) (hb344.get (by decide) (hF339.get (by decide) (hb335.get (by decide) (hF325.get (by decide) (hb316.get (by decide) (hF311.get (by decide) (hb307.get (by decide) (hb297.get (by decide) (hb294.get (by decide) (hb290.get (by decide) (hb284.get (by decide) (hF110.get (by decide) (hb106.get (by decide) (hF97.get (by decide) (hF69.get (by decide) (hF60.get (by decide) (hF51.get (by decide) (hF30.get (by decide) (hF21.get (by decide) (hF12.get (by decide) h0_1))))))))))))))))))))) rfl) ?_
        refine xg_t (xg_getf (va := (0, f1_76)) (hb364.get (by decide) (hb344.get (by decide) (hF339.get (by decide) (hb335.get (by decide) (hF325.get (by decide) (hb316.get (by decide) (hF311.get (by decide) (hb307.get (by decide) (hb297.get (by decide) (hb294.get (by decide) (hb290.get (by decide) (hb284.get (by decide) (hF110.get (by decide) (hb106.get (by decide) (hF97.get (by decide) h1_82))))))))))))))) rfl) ?_
        refine xg_iastK (n := 10) (u := f1_76) hr363 xnm0 xnm0 rfl (by first | decide | omega) (fun w365 hr366 hb367 => ?_)
        exact xg_e ⟨w365, ⟨rfl, rfl⟩, xInv.up (S := [80]) hI338 (((xFr.of (S := [80]) hb344 (by decide)).tr (xFr.of (S := [80]) hb364 (by decide))).tr (xFr.of (S := [80]) hb367 (by decide))) (List.forall_mem_cons.mpr ⟨xqu80 (show cpI 11 48 4294967295 (wget w365 80) from ⟨_, hr366, xrb (by omega) (xrb (by omega) (xrb (by omega) (xrb (by omega) (xrb (by omega) (xrb (by omega) (xrb (by omega) (xrb (by omega) (xrb (by omega) (xrb (by omega) (xrb (by omega) (hb103)))))))))))⟩), fun _ h => absurd h List.not_mem_nil⟩), ((((((((((((((((hF12.up (by decide)).tr (hF21.up (by decide))).tr (hF30.up (by decide))).tr (hF51.up (by decide))).tr (hF60.up (by decide))).tr (hF69.up (by decide))).tr (hF97.up (by decide))).tr (xFr.of (S := [50, 51, 52, 53, 54, 55, 58, 59, 60, 61, 62, 63, 64, 65, 66, 67, 68, 69, 70, 71, 72, 73, 76, 77, 80]) hb106 (by decide))).tr (hF110.up (by decide))).tr (((((xFr.of (S := [50, 51, 52, 53, 54, 55, 58, 59, 60, 61, 62, 63, 64, 65, 66, 67, 68, 69, 70, 71, 72, 73, 76, 77, 80]) hb284 (by decide)).tr (xFr.of (S := [50, 51, 52, 53, 54, 55, 58, 59, 60, 61, 62, 63, 64, 65, 66, 67, 68, 69, 70, 71, 72, 73, 76, 77, 80]) hb290 (by decide))).tr (xFr.of (S := [50, 51, 52, 53, 54, 55, 58, 59, 60, 61, 62, 63, 64, 65, 66, 67, 68, 69, 70, 71, 72, 73, 76, 77, 80]) hb294 (by decide))).tr (xFr.of (S := [50, 51, 52, 53, 54, 55, 58, 59, 60, 61, 62, 63, 64, 65, 66, 67, 68, 69, 70, 71, 72, 73, 76, 77, 80]) hb297 (by decide))).tr (xFr.of (S := [50, 51, 52, 53, 54, 55, 58, 59, 60, 61, 62, 63, 64, 65, 66, 67, 68, 69, 70, 71, 72, 73, 76, 77, 80]) hb307 (by decide)))).tr (hF311.up (by decide))).tr (xFr.of (S := [50, 51, 52, 53, 54, 55, 58, 59, 60, 61, 62, 63, 64, 65, 66, 67, 68, 69, 70, 71, 72, 73, 76, 77, 80]) hb316 (by decide))).tr (hF325.up (by decide))).tr (xFr.of (S := [50, 51, 52, 53, 54, 55, 58, 59, 60, 61, 62, 63, 64, 65, 66, 67, 68, 69, 70, 71, 72, 73, 76, 77, 80]) hb335 (by decide))).tr (hF339.up (by decide))).tr (((xFr.of (S := [50, 51, 52, 53, 54, 55, 58, 59, 60, 61, 62, 63, 64, 65, 66, 67, 68, 69, 70, 71, 72, 73, 76, 77, 80]) hb344 (by decide)).tr (xFr.of (S := [50, 51, 52, 53, 54, 55, 58, 59, 60, 61, 62, 63, 64, 65, 66, 67, 68, 69, 70, 71, 72, 73, 76, 77, 80]) hb364 (by decide))).tr (xFr.of (S := [50, 51, 52, 53, 54, 55, 58, 59, 60, 61, 62, 63, 64, 65, 66, 67, 68, 69, 70, 71, 72, 73, 76, 77, 80]) hb367 (by decide))))⟩
      · refine xg_t (xg_ifT (u := f4_285) rfl xnm0 (xj_neT hc291)) ?_
        refine xg_t (xg_blq rfl) ?_
        refine xg_t (xg_aload (va := (2, 0)) rfl rfl) ?_
        refine xg_t (xg_getf (va := (2, 49)) (hb290.get (by decide) (hb284.get (by decide) (hF110.get (by decide) (hb106.get (by decide) (hF97.get (by decide) (hF69.get (by decide) (hF60.get (by decide) (hF51.get (by decide) (hF30.get (by decide) (hF21.get (by decide) (hF12.get (by decide) h0_1))))))))))) rfl) ?_
        refine xg_cVi mX0_leastRound (vs := []) (rest := [(0, 3), (2, 80)]) (cn1 := 0) (sl1 := 0) rfl (bdLeast (xInv.up (S := [80]) hI109 ((xFr.of (S := [80]) hb284 (by decide)).tr (xFr.of (S := [80]) hb290 (by decide))) (List.forall_mem_cons.mpr ⟨xqu80 (show cpI 11 48 4294967295 (wget w288 80) from ⟨_, hr289, xrb (by omega) (xrb (by omega) (xrb (by omega) (hb103)))⟩), fun _ h => absurd h List.not_mem_nil⟩))) rfl (hb290.get (by decide) (hb284.get (by decide) (hF110.get (by decide) (hb106.get (by decide) (hF97.get (by decide) (hF69.get (by decide) h49_65)))))) rfl rfl rfl rfl rfl rfl (fun n372 w368 hq369 => ?_)
        obtain ⟨hn373, hI370, hF371⟩ := hq369
        refine xg_t (xg_blq rfl) ?_
        refine xg_iastK (n := 3) (u := n372) (hr289.fr hF371 (by decide)) xnm0 xnm0 rfl (by first | decide | omega) (fun w374 hr375 hb376 => ?_)
        refine xg_t (xg_aload (va := (2, 0)) rfl rfl) ?_
        refine xg_t (xg_getf (va := (2, 80)) (hb376.get (by decide) (hF371.get (by decide) (hb290.get (by decide) (hb284.get (by decide) (hF110.get (by decide) (hb106.get (by decide) (hF97.get (by decide) (hF69.get (by decide) (hF60.get (by decide) (hF51.get (by decide) (hF30.get (by decide) (hF21.get (by decide) (hF12.get (by decide) h0_1))))))))))))) rfl) ?_
        refine xg_t (xg_const) ?_
        refine xg_t (xg_aload (va := (2, 3)) rfl rfl) ?_
        refine xg_t (xg_getf (va := (0, f3_87)) (hb376.get (by decide) (hF371.get (by decide) (hb290.get (by decide) (hb284.get (by decide) (hF110.get (by decide) (hb106.get (by decide) (hF97.get (by decide) h3_93))))))) rfl) ?_
        refine xg_iastK (n := 4) (u := f3_87) hr375 xnm0 xnm0 rfl (by first | decide | omega) (fun w377 hr378 hb379 => ?_)
        refine xg_t (xg_aload (va := (2, 0)) rfl rfl) ?_
        refine xg_t (xg_getf (va := (2, 80)) (hb379.get (by decide) (hb376.get (by decide) (hF371.get (by decide) (hb290.get (by decide) (hb284.get (by decide) (hF110.get (by decide) (hb106.get (by decide) (hF97.get (by decide) (hF69.get (by decide) (hF60.get (by decide) (hF51.get (by decide) (hF30.get (by decide) (hF21.get (by decide) (hF12.get (by decide) h0_1)))))))))))))) rfl) ?_
        refine xg_t (xg_const) ?_
        refine xg_t (xg_aload (va := (2, 0)) rfl rfl) ?_
        refine xg_t (xg_getf (va := (2, 58)) (hb379.get (by decide) (hb376.get (by decide) (hF371.get (by decide) (hb290.get (by decide) (hb284.get (by decide) (hF110.get (by decide) (hb106.get (by decide) (hF97.get (by decide) (hF69.get (by decide) (hF60.get (by decide) (hF51.get (by decide) (hF30.get (by decide) (hF21.get (by decide) (hF12.get (by decide) h0_1)))))))))))))) rfl) ?_
        refine xoC58 (xqc58 hI370 : cp58 (wget w368 58)) (fun f58_380 f58_382 f58_384 h58_386 hb381 hb383 hb385 => ?_)
        refine xg_t (xg_getf (va := (0, f58_382)) (hb379.get (by decide) (hb376.get (by decide) h58_386)) rfl) ?_
        refine xg_iastK (n := 5) (u := f58_382) hr378 xnm0 xnm0 rfl (by first | decide | omega) (fun w387 hr388 hb389 => ?_)
        refine xg_t (xg_aload (va := (2, 0)) rfl rfl) ?_
        refine xg_t (xg_getf (va := (2, 80)) (hb389.get (by decide) (hb379.get (by decide) (hb376.get (by decide) (hF371.get (by decide) (hb290.get (by decide) (hb284.get (by decide) (hF110.get (by decide) (hb106.get (by decide) (hF97.get (by decide) (hF69.get (by decide) (hF60.get (by decide) (hF51.get (by decide) (hF30.get (by decide) (hF21.get (by decide) (hF12.get (by decide) h0_1))))))))))))))) rfl) ?_
        refine xg_t (xg_bip) ?_
        refine xg_t (xg_aload (va := (2, 0)) rfl rfl) ?_
        refine xg_cVi mX11_countDark (vs := []) (rest := [(0, 6), (2, 80)]) (cn1 := 0) (sl1 := 0) rfl (scCountDark (xInv.up (S := [80]) hI370 (((xFr.of (S := [80]) hb376 (by decide)).tr (xFr.of (S := [80]) hb379 (by decide))).tr (xFr.of (S := [80]) hb389 (by decide))) (List.forall_mem_cons.mpr ⟨xqu80 (show cpI 11 48 4294967295 (wget w387 80) from ⟨_, hr388, xrb (by omega) (xrb (by omega) (xrb (by omega) (xrb (by omega) (xrb (by omega) (xrb (by omega) (hb103))))))⟩), fun _ h => absurd h List.not_mem_nil⟩))) rfl (hb389.get (by decide) (hb379.get (by decide) (hb376.get (by decide) (hF371.get (by decide) (hb290.get (by decide) (hb284.get (by decide) (hF110.get (by decide) (hb106.get (by decide) (hF97.get (by decide) (hF69.get (by decide) (hF60.get (by decide) (hF51.get (by decide) (hF30.get (by decide) (hF21.get (by decide) (hF12.get (by decide) h0_1))))))))))))))) rfl rfl rfl rfl rfl rfl (fun n394 w390 hq391 => ?_)
        obtain ⟨hn395, hI392, hF393⟩ := hq391
        refine xg_iastK (n := 6) (u := n394) (hr388.fr hF393 (by decide)) xnm0 xnm0 rfl (by first | decide | omega) (fun w396 hr397 hb398 => ?_)
        refine xg_t (xg_aload (va := (2, 0)) rfl rfl) ?_
        refine xg_t (xg_getf (va := (2, 80)) (hb398.get (by decide) (hF393.get (by decide) (hb389.get (by decide) (hb379.get (by decide) (hb376.get (by decide) (hF371.get (by decide) (hb290.get (by decide) (hb284.get (by decide) (hF110.get (by decide) (hb106.get (by decide) (hF97.get (by decide) (hF69.get (by decide) (hF60.get (by decide) (hF51.get (by decide) (hF30.get (by decide) (hF21.get (by decide) (hF12.get (by decide) h0_1))))))))))))))))) rfl) ?_
        refine xg_t (xg_bip) ?_
        refine xg_t (xg_sip) ?_
        refine xg_t (xg_aload (va := (2, 0)) rfl rfl) ?_
        refine xg_t (xg_getf (va := (2, 72)) (hb398.get (by decide) (hF393.get (by decide) (hb389.get (by decide) (hb379.get (by decide) (hb376.get (by decide) (hF371.get (by decide) (hb290.get (by decide) (hb284.get (by decide) (hF110.get (by decide) (hb106.get (by decide) (hF97.get (by decide) (hF69.get (by decide) (hF60.get (by decide) (hF51.get (by decide) (hF30.get (by decide) (hF21.get (by decide) (hF12.get (by decide) h0_1))))))))))))))))) rfl) ?_
        refine xg_t (xg_const) ?_
        refine xg_t (xg_const) ?_
        refine xg_t (xg_aload (va := (2, 3)) rfl rfl) ?_
        refine xg_t (xg_getf (va := (0, f3_83)) (hb398.get (by decide) (hF393.get (by decide) (hb389.get (by decide) (hb379.get (by decide) (hb376.get (by decide) (hF371.get (by decide) (hb290.get (by decide) (hb284.get (by decide) (hF110.get (by decide) (hb106.get (by decide) (hF97.get (by decide) h3_93))))))))))) rfl) ?_
        refine xg_t (xg_aload (va := (2, 3)) rfl rfl) ?_
        refine xg_t (xg_getf (va := (0, f3_85)) (hb398.get (by decide) (hF393.get (by decide) (hb389.get (by decide) (hb379.get (by decide) (hb376.get (by decide) (hF371.get (by decide) (hb290.get (by decide) (hb284.get (by decide) (hF110.get (by decide) (hb106.get (by decide) (hF97.get (by decide) h3_93))))))))))) rfl) ?_
        refine xoC72 (xqc72 hI392 : cp72 (wget w390 72)) (fun f72_399 f72_401 h72_403 hb400 hb402 => ?_)
        refine xg_cVi mX7_worthOf (vs := [(0, 0), (0, 0), (0, f3_83), (0, f3_85)]) (rest := [(0, 9999), (0, 7), (2, 80)]) (cn1 := 0) (sl1 := 0) rfl (shWorthOf (xInv.up (S := [80]) hI392 (xFr.of (S := [80]) hb398 (by decide)) (List.forall_mem_cons.mpr ⟨xqu80 (show cpI 11 48 4294967295 (wget w396 80) from ⟨_, hr397, xrb (by omega) (xrb (by omega) (xrb (by omega) (xrb (by omega) (xrb (by omega) (xrb (by omega) (xrb (by omega) (hb103)))))))⟩), fun _ h => absurd h List.not_mem_nil⟩)) (by omega) (by omega) (by omega) (by omega)) rfl (hb398.get (by decide) h72_403) rfl rfl rfl rfl rfl rfl (fun n408 w404 hq405 => ?_)
        obtain ⟨hn409, hI406, hF407⟩ := hq405
        refine xg_minK (u := 9999) (v := n408) xnm0 xnm0 xmx_ok (by omega) (by omega) (fun z410 hz411 hz412 hz413 hz414 => ?_)
        unfold xbs at hz412 hz413
        refine xg_iastK (n := 7) (u := z410) (hr397.fr hF407 (by decide)) xnm0 xnm0 rfl (by first | decide | omega) (fun w415 hr416 hb417 => ?_)
        refine xg_t (xg_aload (va := (2, 0)) rfl rfl) ?_
        refine xg_t (xg_getf (va := (2, 80)) (hb417.get (by decide) (hF407.get (by decide) (hb398.get (by decide) (hF393.get (by decide) (hb389.get (by decide) (hb379.get (by decide) (hb376.get (by decide) (hF371.get (by decide) (hb290.get (by decide) (hb284.get (by decide) (hF110.get (by decide) (hb106.get (by decide) (hF97.get (by decide) (hF69.get (by decide) (hF60.get (by decide) (hF51.get (by decide) (hF30.get (by decide) (hF21.get (by decide) (hF12.get (by decide) h0_1))))))))))))))))))) rfl) ?_
        refine xg_t (xg_bip) ?_
        refine xg_t (xg_aload (va := (2, 0)) rfl rfl) ?_
        refine xg_t (xg_getf (va := (2, 1)) (hb417.get (by decide) (hF407.get (by decide) (hb398.get (by decide) (hF393.get (by decide) (hb389.get (by decide) (hb379.get (by decide) (hb376.get (by decide) (hF371.get (by decide) (hb290.get (by decide) (hb284.get (by decide) (hF110.get (by decide) (hb106.get (by decide) (hF97.get (by decide) (hF69.get (by decide) (hF60.get (by decide) (hF51.get (by decide) (hF30.get (by decide) (hF21.get (by decide) (hF12.get (by decide) h0_1))))))))))))))))))) rfl) ?_
        refine xg_cVi mX9_cracksInView (vs := []) (rest := [(0, 8), (2, 80)]) (cn1 := 0) (sl1 := 0) rfl (tdCracksInView (xInv.up (S := [80]) hI406 (xFr.of (S := [80]) hb417 (by decide)) (List.forall_mem_cons.mpr ⟨xqu80 (show cpI 11 48 4294967295 (wget w415 80) from ⟨_, hr416, xrb (by omega) (xrb (by omega) (xrb (by omega) (xrb (by omega) (xrb (by omega) (xrb (by omega) (xrb (by omega) (xrb (by omega) (hb103))))))))⟩), fun _ h => absurd h List.not_mem_nil⟩))) rfl (hb417.get (by decide) (hF407.get (by decide) (hb398.get (by decide) (hF393.get (by decide) (hb389.get (by decide) (hb379.get (by decide) (hb376.get (by decide) (hF371.get (by decide) (hb290.get (by decide) (hb284.get (by decide) (hF110.get (by decide) (hb106.get (by decide) (hF97.get (by decide) h1_82))))))))))))) rfl rfl rfl rfl rfl rfl (fun n422 w418 hq419 => ?_)
        obtain ⟨hn423, hI420, hF421⟩ := hq419
        refine xg_iastK (n := 8) (u := n422) (hr416.fr hF421 (by decide)) xnm0 xnm0 rfl (by first | decide | omega) (fun w424 hr425 hb426 => ?_)
        refine xg_t (xg_aload (va := (2, 0)) rfl rfl) ?_
        refine xg_t (xg_getf (va := (2, 80)) (hb426.get (by decide) (hF421.get (by decide) (hb417.get (by decide) (hF407.get (by decide) (hb398.get (by decide) (hF393.get (by decide) (hb389.get (by decide) (hb379.get (by decide) (hb376.get (by decide) (hF371.get (by decide) (hb290.get (by decide) (hb284.get (by decide) (hF110.get (by decide) (hb106.get (by decide) (hF97.get (by decide) (hF69.get (by decide) (hF60.get (by decide) (hF51.get (by decide) (hF30.get (by decide) (hF21.get (by decide) (hF12.get (by decide) h0_1))))))))))))))))))))) rfl) ?_
        refine xg_t (xg_bip) ?_
        refine xg_t (xg_aload (va := (2, 0)) rfl rfl) ?_
        refine xg_t (xg_getf (va := (2, 76)) (hb426.get (by decide) (hF421.get (by decide) (hb417.get (by decide) (hF407.get (by decide) (hb398.get (by decide) (hF393.get (by decide) (hb389.get (by decide) (hb379.get (by decide) (hb376.get (by decide) (hF371.get (by decide) (hb290.get (by decide) (hb284.get (by decide) (hF110.get (by decide) (hb106.get (by decide) (hF97.get (by decide) (hF69.get (by decide) (hF60.get (by decide) (hF51.get (by decide) (hF30.get (by decide) (hF21.get (by decide) (hF12.get (by decide) h0_1))))))))))))))))))))) rfl) ?_
        refine xoC76 (xqc76 hI420 : cp76 (wget w418 76)) (fun f76_427 f76_429 f76_431 f76_433 f76_435 f76_437 f76_439 f76_441 h76_443 hb428 hb430 hb432 hb434 hb436 hb438 hb440 hb442 => ?_)
        refine xg_t (xg_getf (va := (0, f76_427)) (hb426.get (by decide) h76_443) rfl) ?_
        refine xg_iastK (n := 9) (u := f76_427) hr425 xnm0 xnm0 rfl (by first | decide | omega) (fun w444 hr445 hb446 => ?_)
        refine xg_t (xg_aload (va := (2, 0)) rfl rfl) ?_
        refine xg_t (xg_getf (va := (2, 80)) (hb446.get (by decide) (hb426.get (by decide) (hF421.get (by decide) (hb417.get (by decide) (hF407.get (by decide) (hb398.get (by decide) (hF393.get (by decide) (hb389.get (by decide) (hb379.get (by decide) (hb376.get (by decide) (hF371.get (by decide) (hb290.get (by decide) (hb284.get (by decide) (hF110.get (by decide) (hb106.get (by decide) (hF97.get (by decide) (hF69.get (by decide) (hF60.get (by decide) (hF51.get (by decide) (hF30.get (by decide) (hF21.get (by decide) (hF12.get (by decide) h0_1)))))))))))))))))))))) rfl) ?_
        refine xg_t (xg_bip) ?_
        refine xg_t (xg_aload (va := (2, 0)) rfl rfl) ?_
        refine xg_t (xg_getf (va := (2, 1)) (hb446.get (by decide) (hb426.get (by decide) (hF421.get (by decide) (hb417.get (by decide) (hF407.get (by decide) (hb398.get (by decide) (hF393.get (by decide) (hb389.get (by decide) (hb379.get (by decide) (hb376.get (by decide) (hF371.get (by decide) (hb290.get (by decide) (hb284.get (by decide) (hF110.get (by decide) (hb106.get (by decide) (hF97.get (by decide) (hF69.get (by decide) (hF60.get (by decide) (hF51.get (by decide) (hF30.get (by decide) (hF21.get (by decide) (hF12.get (by decide) h0_1)))))))))))))))))))))) rfl) ?_
        refine xg_t (xg_getf (va := (0, f1_76)) (hb446.get (by decide) (hb426.get (by decide) (hF421.get (by decide) (hb417.get (by decide) (hF407.get (by decide) (hb398.get (by decide) (hF393.get (by decide) (hb389.get (by decide) (hb379.get (by decide) (hb376.get (by decide) (hF371.get (by decide) (hb290.get (by decide) (hb284.get (by decide) (hF110.get (by decide) (hb106.get (by decide) (hF97.get (by decide) h1_82)))))))))))))))) rfl) ?_
        refine xg_iastK (n := 10) (u := f1_76) hr445 xnm0 xnm0 rfl (by first | decide | omega) (fun w447 hr448 hb449 => ?_)
        exact xg_e ⟨w447, ⟨rfl, rfl⟩, xInv.up (S := [80]) hI420 (((xFr.of (S := [80]) hb426 (by decide)).tr (xFr.of (S := [80]) hb446 (by decide))).tr (xFr.of (S := [80]) hb449 (by decide))) (List.forall_mem_cons.mpr ⟨xqu80 (show cpI 11 48 4294967295 (wget w447 80) from ⟨_, hr448, xrb (by omega) (xrb (by omega) (xrb (by omega) (xrb (by omega) (xrb (by omega) (xrb (by omega) (xrb (by omega) (xrb (by omega) (xrb (by omega) (xrb (by omega) (xrb (by omega) (hb103)))))))))))⟩), fun _ h => absurd h List.not_mem_nil⟩), ((((((((((((((((((hF12.up (by decide)).tr (hF21.up (by decide))).tr (hF30.up (by decide))).tr (hF51.up (by decide))).tr (hF60.up (by decide))).tr (hF69.up (by decide))).tr (hF97.up (by decide))).tr (xFr.of (S := [50, 51, 52, 53, 54, 55, 58, 59, 60, 61, 62, 63, 64, 65, 66, 67, 68, 69, 70, 71, 72, 73, 76, 77, 80]) hb106 (by decide))).tr (hF110.up (by decide))).tr ((xFr.of (S := [50, 51, 52, 53, 54, 55, 58, 59, 60, 61, 62, 63, 64, 65, 66, 67, 68, 69, 70, 71, 72, 73, 76, 77, 80]) hb284 (by decide)).tr (xFr.of (S := [50, 51, 52, 53, 54, 55, 58, 59, 60, 61, 62, 63, 64, 65, 66, 67, 68, 69, 70, 71, 72, 73, 76, 77, 80]) hb290 (by decide)))).tr (hF371.up (by decide))).tr (((xFr.of (S := [50, 51, 52, 53, 54, 55, 58, 59, 60, 61, 62, 63, 64, 65, 66, 67, 68, 69, 70, 71, 72, 73, 76, 77, 80]) hb376 (by decide)).tr (xFr.of (S := [50, 51, 52, 53, 54, 55, 58, 59, 60, 61, 62, 63, 64, 65, 66, 67, 68, 69, 70, 71, 72, 73, 76, 77, 80]) hb379 (by decide))).tr (xFr.of (S := [50, 51, 52, 53, 54, 55, 58, 59, 60, 61, 62, 63, 64, 65, 66, 67, 68, 69, 70, 71, 72, 73, 76, 77, 80]) hb389 (by decide)))).tr (hF393.up (by decide))).tr (xFr.of (S := [50, 51, 52, 53, 54, 55, 58, 59, 60, 61, 62, 63, 64, 65, 66, 67, 68, 69, 70, 71, 72, 73, 76, 77, 80]) hb398 (by decide))).tr (hF407.up (by decide))).tr (xFr.of (S := [50, 51, 52, 53, 54, 55, 58, 59, 60, 61, 62, 63, 64, 65, 66, 67, 68, 69, 70, 71, 72, 73, 76, 77, 80]) hb417 (by decide))).tr (hF421.up (by decide))).tr (((xFr.of (S := [50, 51, 52, 53, 54, 55, 58, 59, 60, 61, 62, 63, 64, 65, 66, 67, 68, 69, 70, 71, 72, 73, 76, 77, 80]) hb426 (by decide)).tr (xFr.of (S := [50, 51, 52, 53, 54, 55, 58, 59, 60, 61, 62, 63, 64, 65, 66, 67, 68, 69, 70, 71, 72, 73, 76, 77, 80]) hb446 (by decide))).tr (xFr.of (S := [50, 51, 52, 53, 54, 55, 58, 59, 60, 61, 62, 63, 64, 65, 66, 67, 68, 69, 70, 71, 72, 73, 76, 77, 80]) hb449 (by decide))))⟩
  · refine xg_t (xg_ifF (u := n98) rfl xnm0 (xj_eqF hc100)) ?_
    refine xg_t (xg_const) ?_
    refine xg_t (xg_goto) ?_
    refine xg_t (xg_blq rfl) ?_
    refine xoI (xqc80 hI96 : cpI 11 48 4294967295 (wget w94 80)) (fun g80_450 h80_451 hb452 => ?_)
    refine xg_iastK (n := 0) (u := 1) h80_451 xnm0 xnm0 rfl (by first | decide | omega) (fun w453 hr454 hb455 => ?_)
    refine xg_t (xg_aload (va := (2, 0)) rfl rfl) ?_
    refine xg_t (xg_getf (va := (2, 80)) (hb455.get (by decide) (hF97.get (by decide) (hF69.get (by decide) (hF60.get (by decide) (hF51.get (by decide) (hF30.get (by decide) (hF21.get (by decide) (hF12.get (by decide) h0_1)))))))) rfl) ?_
    refine xg_t (xg_const) ?_
    refine xg_t (xg_aload (va := (2, 0)) rfl rfl) ?_
    refine xg_t (xg_getf (va := (2, 1)) (hb455.get (by decide) (hF97.get (by decide) (hF69.get (by decide) (hF60.get (by decide) (hF51.get (by decide) (hF30.get (by decide) (hF21.get (by decide) (hF12.get (by decide) h0_1)))))))) rfl) ?_
    refine xg_cVi mX9_cracksInView (vs := []) (rest := [(0, 1), (2, 80)]) (cn1 := 0) (sl1 := 0) rfl (tdCracksInView (xInv.up (S := [80]) hI96 (xFr.of (S := [80]) hb455 (by decide)) (List.forall_mem_cons.mpr ⟨xqu80 (show cpI 11 48 4294967295 (wget w453 80) from ⟨_, hr454, xrb (by omega) (hb452)⟩), fun _ h => absurd h List.not_mem_nil⟩))) rfl (hb455.get (by decide) (hF97.get (by decide) h1_82)) rfl rfl rfl rfl rfl rfl (fun n460 w456 hq457 => ?_)
    obtain ⟨hn461, hI458, hF459⟩ := hq457
    by_cases hc462 : n460 = 0
    · refine xg_t (xg_ifF (u := n460) rfl xnm0 (xj_neF hc462)) ?_
      refine xg_t (xg_const) ?_
      refine xg_t (xg_goto) ?_
      refine xg_t (xg_blq rfl) ?_
      refine xg_iastK (n := 1) (u := 1) (hr454.fr hF459 (by decide)) xnm0 xnm0 rfl (by first | decide | omega) (fun w463 hr464 hb465 => ?_)
      refine xg_t (xg_aload (va := (2, 0)) rfl rfl) ?_
      refine xg_t (xg_getf (va := (2, 80)) (hb465.get (by decide) (hF459.get (by decide) (hb455.get (by decide) (hF97.get (by decide) (hF69.get (by decide) (hF60.get (by decide) (hF51.get (by decide) (hF30.get (by decide) (hF21.get (by decide) (hF12.get (by decide) h0_1)))))))))) rfl) ?_
      refine xg_t (xg_const) ?_
      refine xg_t (xg_aload (va := (2, 3)) rfl rfl) ?_
      refine xg_t (xg_getf (va := (2, 4)) (hb465.get (by decide) (hF459.get (by decide) (hb455.get (by decide) (hF97.get (by decide) h3_93)))) rfl) ?_
      obtain ⟨f4_466, h4_468, hb467⟩ := (xqc4 hI458 : cp4 (wget w456 4))
      refine xg_t (xg_getf (va := (0, f4_466)) (hb465.get (by decide) h4_468) rfl) ?_
      refine xg_iastK (n := 2) (u := f4_466) hr464 xnm0 xnm0 rfl (by first | decide | omega) (fun w469 hr470 hb471 => ?_)
      refine xg_t (xg_aload (va := (2, 0)) rfl rfl) ?_
      refine xg_t (xg_getf (va := (2, 80)) (hb471.get (by decide) (hb465.get (by decide) (hF459.get (by decide) (hb455.get (by decide) (hF97.get (by decide) (hF69.get (by decide) (hF60.get (by decide) (hF51.get (by decide) (hF30.get (by decide) (hF21.get (by decide) (hF12.get (by decide) h0_1))))))))))) rfl) ?_
      refine xg_t (xg_const) ?_
      refine xg_t (xg_aload (va := (2, 3)) rfl rfl) ?_
      refine xg_t (xg_getf (va := (2, 4)) (hb471.get (by decide) (hb465.get (by decide) (hF459.get (by decide) (hb455.get (by decide) (hF97.get (by decide) h3_93))))) rfl) ?_
      refine xg_t (xg_getf (va := (0, f4_466)) (hb471.get (by decide) (hb465.get (by decide) h4_468)) rfl) ?_
      by_cases hc472 : f4_466 = 0
      · refine xg_t (xg_ifF (u := f4_466) rfl xnm0 (xj_neF hc472)) ?_
        refine xg_t (xg_const) ?_
        refine xg_t (xg_goto) ?_
        refine xg_t (xg_blq rfl) ?_
        refine xg_iastK (n := 3) (u := 0) hr470 xnm0 xnm0 rfl (by first | decide | omega) (fun w473 hr474 hb475 => ?_)
        refine xg_t (xg_aload (va := (2, 0)) rfl rfl) ?_
        refine xg_t (xg_getf (va := (2, 80)) (hb475.get (by decide) (hb471.get (by decide) (hb465.get (by decide) (hF459.get (by decide) (hb455.get (by decide) (hF97.get (by decide) (hF69.get (by decide) (hF60.get (by decide) (hF51.get (by decide) (hF30.get (by decide) (hF21.get (by decide) (hF12.get (by decide) h0_1)))))))))))) rfl) ?_
        refine xg_t (xg_const) ?_
        refine xg_t (xg_aload (va := (2, 3)) rfl rfl) ?_
        refine xg_t (xg_getf (va := (0, f3_87)) (hb475.get (by decide) (hb471.get (by decide) (hb465.get (by decide) (hF459.get (by decide) (hb455.get (by decide) (hF97.get (by decide) h3_93)))))) rfl) ?_
        refine xg_iastK (n := 4) (u := f3_87) hr474 xnm0 xnm0 rfl (by first | decide | omega) (fun w476 hr477 hb478 => ?_)
        refine xg_t (xg_aload (va := (2, 0)) rfl rfl) ?_
        refine xg_t (xg_getf (va := (2, 80)) (hb478.get (by decide) (hb475.get (by decide) (hb471.get (by decide) (hb465.get (by decide) (hF459.get (by decide) (hb455.get (by decide) (hF97.get (by decide) (hF69.get (by decide) (hF60.get (by decide) (hF51.get (by decide) (hF30.get (by decide) (hF21.get (by decide) (hF12.get (by decide) h0_1))))))))))))) rfl) ?_
        refine xg_t (xg_const) ?_
        refine xg_t (xg_aload (va := (2, 0)) rfl rfl) ?_
        refine xg_t (xg_getf (va := (2, 58)) (hb478.get (by decide) (hb475.get (by decide) (hb471.get (by decide) (hb465.get (by decide) (hF459.get (by decide) (hb455.get (by decide) (hF97.get (by decide) (hF69.get (by decide) (hF60.get (by decide) (hF51.get (by decide) (hF30.get (by decide) (hF21.get (by decide) (hF12.get (by decide) h0_1))))))))))))) rfl) ?_
        refine xoC58 (xqc58 hI458 : cp58 (wget w456 58)) (fun f58_479 f58_481 f58_483 h58_485 hb480 hb482 hb484 => ?_)
        refine xg_t (xg_getf (va := (0, f58_481)) (hb478.get (by decide) (hb475.get (by decide) (hb471.get (by decide) (hb465.get (by decide) h58_485)))) rfl) ?_
        refine xg_iastK (n := 5) (u := f58_481) hr477 xnm0 xnm0 rfl (by first | decide | omega) (fun w486 hr487 hb488 => ?_)
        refine xg_t (xg_aload (va := (2, 0)) rfl rfl) ?_
        refine xg_t (xg_getf (va := (2, 80)) (hb488.get (by decide) (hb478.get (by decide) (hb475.get (by decide) (hb471.get (by decide) (hb465.get (by decide) (hF459.get (by decide) (hb455.get (by decide) (hF97.get (by decide) (hF69.get (by decide) (hF60.get (by decide) (hF51.get (by decide) (hF30.get (by decide) (hF21.get (by decide) (hF12.get (by decide) h0_1)))))))))))))) rfl) ?_
        refine xg_t (xg_bip) ?_
        refine xg_t (xg_aload (va := (2, 0)) rfl rfl) ?_
        refine xg_cVi mX11_countDark (vs := []) (rest := [(0, 6), (2, 80)]) (cn1 := 0) (sl1 := 0) rfl (scCountDark (xInv.up (S := [80]) hI458 (((((xFr.of (S := [80]) hb465 (by decide)).tr (xFr.of (S := [80]) hb471 (by decide))).tr (xFr.of (S := [80]) hb475 (by decide))).tr (xFr.of (S := [80]) hb478 (by decide))).tr (xFr.of (S := [80]) hb488 (by decide))) (List.forall_mem_cons.mpr ⟨xqu80 (show cpI 11 48 4294967295 (wget w486 80) from ⟨_, hr487, xrb (by omega) (xrb (by omega) (xrb (by omega) (xrb (by omega) (xrb (by omega) (xrb (by omega) (hb452))))))⟩), fun _ h => absurd h List.not_mem_nil⟩))) rfl (hb488.get (by decide) (hb478.get (by decide) (hb475.get (by decide) (hb471.get (by decide) (hb465.get (by decide) (hF459.get (by decide) (hb455.get (by decide) (hF97.get (by decide) (hF69.get (by decide) (hF60.get (by decide) (hF51.get (by decide) (hF30.get (by decide) (hF21.get (by decide) (hF12.get (by decide) h0_1)))))))))))))) rfl rfl rfl rfl rfl rfl (fun n493 w489 hq490 => ?_)
        obtain ⟨hn494, hI491, hF492⟩ := hq490
        refine xg_iastK (n := 6) (u := n493) (hr487.fr hF492 (by decide)) xnm0 xnm0 rfl (by first | decide | omega) (fun w495 hr496 hb497 => ?_)
        refine xg_t (xg_aload (va := (2, 0)) rfl rfl) ?_
        refine xg_t (xg_getf (va := (2, 80)) (hb497.get (by decide) (hF492.get (by decide) (hb488.get (by decide) (hb478.get (by decide) (hb475.get (by decide) (hb471.get (by decide) (hb465.get (by decide) (hF459.get (by decide) (hb455.get (by decide) (hF97.get (by decide) (hF69.get (by decide) (hF60.get (by decide) (hF51.get (by decide) (hF30.get (by decide) (hF21.get (by decide) (hF12.get (by decide) h0_1)))))))))))))))) rfl) ?_
        refine xg_t (xg_bip) ?_
        refine xg_t (xg_sip) ?_
        refine xg_t (xg_aload (va := (2, 0)) rfl rfl) ?_
        refine xg_t (xg_getf (va := (2, 72)) (hb497.get (by decide) (hF492.get (by decide) (hb488.get (by decide) (hb478.get (by decide) (hb475.get (by decide) (hb471.get (by decide) (hb465.get (by decide) (hF459.get (by decide) (hb455.get (by decide) (hF97.get (by decide) (hF69.get (by decide) (hF60.get (by decide) (hF51.get (by decide) (hF30.get (by decide) (hF21.get (by decide) (hF12.get (by decide) h0_1)))))))))))))))) rfl) ?_
        refine xg_t (xg_const) ?_
        refine xg_t (xg_const) ?_
        refine xg_t (xg_aload (va := (2, 3)) rfl rfl) ?_
        refine xg_t (xg_getf (va := (0, f3_83)) (hb497.get (by decide) (hF492.get (by decide) (hb488.get (by decide) (hb478.get (by decide) (hb475.get (by decide) (hb471.get (by decide) (hb465.get (by decide) (hF459.get (by decide) (hb455.get (by decide) (hF97.get (by decide) h3_93)))))))))) rfl) ?_
        refine xg_t (xg_aload (va := (2, 3)) rfl rfl) ?_
        refine xg_t (xg_getf (va := (0, f3_85)) (hb497.get (by decide) (hF492.get (by decide) (hb488.get (by decide) (hb478.get (by decide) (hb475.get (by decide) (hb471.get (by decide) (hb465.get (by decide) (hF459.get (by decide) (hb455.get (by decide) (hF97.get (by decide) h3_93)))))))))) rfl) ?_
        refine xoC72 (xqc72 hI491 : cp72 (wget w489 72)) (fun f72_498 f72_500 h72_502 hb499 hb501 => ?_)
        refine xg_cVi mX7_worthOf (vs := [(0, 0), (0, 0), (0, f3_83), (0, f3_85)]) (rest := [(0, 9999), (0, 7), (2, 80)]) (cn1 := 0) (sl1 := 0) rfl (shWorthOf (xInv.up (S := [80]) hI491 (xFr.of (S := [80]) hb497 (by decide)) (List.forall_mem_cons.mpr ⟨xqu80 (show cpI 11 48 4294967295 (wget w495 80) from ⟨_, hr496, xrb (by omega) (xrb (by omega) (xrb (by omega) (xrb (by omega) (xrb (by omega) (xrb (by omega) (xrb (by omega) (hb452)))))))⟩), fun _ h => absurd h List.not_mem_nil⟩)) (by omega) (by omega) (by omega) (by omega)) rfl (hb497.get (by decide) h72_502) rfl rfl rfl rfl rfl rfl (fun n507 w503 hq504 => ?_)
        obtain ⟨hn508, hI505, hF506⟩ := hq504
        refine xg_minK (u := 9999) (v := n507) xnm0 xnm0 xmx_ok (by omega) (by omega) (fun z509 hz510 hz511 hz512 hz513 => ?_)
        unfold xbs at hz511 hz512
        refine xg_iastK (n := 7) (u := z509) (hr496.fr hF506 (by decide)) xnm0 xnm0 rfl (by first | decide | omega) (fun w514 hr515 hb516 => ?_)
        refine xg_t (xg_aload (va := (2, 0)) rfl rfl) ?_
        refine xg_t (xg_getf (va := (2, 80)) (hb516.get (by decide) (hF506.get (by decide) (hb497.get (by decide) (hF492.get (by decide) (hb488.get (by decide) (hb478.get (by decide) (hb475.get (by decide) (hb471.get (by decide) (hb465.get (by decide) (hF459.get (by decide) (hb455.get (by decide) (hF97.get (by decide) (hF69.get (by decide) (hF60.get (by decide) (hF51.get (by decide) (hF30.get (by decide) (hF21.get (by decide) (hF12.get (by decide) h0_1)))))))))))))))))) rfl) ?_
        refine xg_t (xg_bip) ?_
        refine xg_t (xg_aload (va := (2, 0)) rfl rfl) ?_
        refine xg_t (xg_getf (va := (2, 1)) (hb516.get (by decide) (hF506.get (by decide) (hb497.get (by decide) (hF492.get (by decide) (hb488.get (by decide) (hb478.get (by decide) (hb475.get (by decide) (hb471.get (by decide) (hb465.get (by decide) (hF459.get (by decide) (hb455.get (by decide) (hF97.get (by decide) (hF69.get (by decide) (hF60.get (by decide) (hF51.get (by decide) (hF30.get (by decide) (hF21.get (by decide) (hF12.get (by decide) h0_1)))))))))))))))))) rfl) ?_
        refine xg_cVi mX9_cracksInView (vs := []) (rest := [(0, 8), (2, 80)]) (cn1 := 0) (sl1 := 0) rfl (tdCracksInView (xInv.up (S := [80]) hI505 (xFr.of (S := [80]) hb516 (by decide)) (List.forall_mem_cons.mpr ⟨xqu80 (show cpI 11 48 4294967295 (wget w514 80) from ⟨_, hr515, xrb (by omega) (xrb (by omega) (xrb (by omega) (xrb (by omega) (xrb (by omega) (xrb (by omega) (xrb (by omega) (xrb (by omega) (hb452))))))))⟩), fun _ h => absurd h List.not_mem_nil⟩))) rfl (hb516.get (by decide) (hF506.get (by decide) (hb497.get (by decide) (hF492.get (by decide) (hb488.get (by decide) (hb478.get (by decide) (hb475.get (by decide) (hb471.get (by decide) (hb465.get (by decide) (hF459.get (by decide) (hb455.get (by decide) (hF97.get (by decide) h1_82)))))))))))) rfl rfl rfl rfl rfl rfl (fun n521 w517 hq518 => ?_)
        obtain ⟨hn522, hI519, hF520⟩ := hq518
        refine xg_iastK (n := 8) (u := n521) (hr515.fr hF520 (by decide)) xnm0 xnm0 rfl (by first | decide | omega) (fun w523 hr524 hb525 => ?_)
        refine xg_t (xg_aload (va := (2, 0)) rfl rfl) ?_
        refine xg_t (xg_getf (va := (2, 80)) (hb525.get (by decide) (hF520.get (by decide) (hb516.get (by decide) (hF506.get (by decide) (hb497.get (by decide) (hF492.get (by decide) (hb488.get (by decide) (hb478.get (by decide) (hb475.get (by decide) (hb471.get (by decide) (hb465.get (by decide) (hF459.get (by decide) (hb455.get (by decide) (hF97.get (by decide) (hF69.get (by decide) (hF60.get (by decide) (hF51.get (by decide) (hF30.get (by decide) (hF21.get (by decide) (hF12.get (by decide) h0_1)))))))))))))))))))) rfl) ?_
        refine xg_t (xg_bip) ?_
        refine xg_t (xg_aload (va := (2, 0)) rfl rfl) ?_
        refine xg_t (xg_getf (va := (2, 76)) (hb525.get (by decide) (hF520.get (by decide) (hb516.get (by decide) (hF506.get (by decide) (hb497.get (by decide) (hF492.get (by decide) (hb488.get (by decide) (hb478.get (by decide) (hb475.get (by decide) (hb471.get (by decide) (hb465.get (by decide) (hF459.get (by decide) (hb455.get (by decide) (hF97.get (by decide) (hF69.get (by decide) (hF60.get (by decide) (hF51.get (by decide) (hF30.get (by decide) (hF21.get (by decide) (hF12.get (by decide) h0_1)))))))))))))))))))) rfl) ?_
        refine xoC76 (xqc76 hI519 : cp76 (wget w517 76)) (fun f76_526 f76_528 f76_530 f76_532 f76_534 f76_536 f76_538 f76_540 h76_542 hb527 hb529 hb531 hb533 hb535 hb537 hb539 hb541 => ?_)
        refine xg_t (xg_getf (va := (0, f76_526)) (hb525.get (by decide) h76_542) rfl) ?_
        refine xg_iastK (n := 9) (u := f76_526) hr524 xnm0 xnm0 rfl (by first | decide | omega) (fun w543 hr544 hb545 => ?_)
        refine xg_t (xg_aload (va := (2, 0)) rfl rfl) ?_
        refine xg_t (xg_getf (va := (2, 80)) (hb545.get (by decide) (hb525.get (by decide) (hF520.get (by decide) (hb516.get (by decide) (hF506.get (by decide) (hb497.get (by decide) (hF492.get (by decide) (hb488.get (by decide) (hb478.get (by decide) (hb475.get (by decide) (hb471.get (by decide) (hb465.get (by decide) (hF459.get (by decide) (hb455.get (by decide) (hF97.get (by decide) (hF69.get (by decide) (hF60.get (by decide) (hF51.get (by decide) (hF30.get (by decide) (hF21.get (by decide) (hF12.get (by decide) h0_1))))))))))))))))))))) rfl) ?_
        refine xg_t (xg_bip) ?_
        refine xg_t (xg_aload (va := (2, 0)) rfl rfl) ?_
        refine xg_t (xg_getf (va := (2, 1)) (hb545.get (by decide) (hb525.get (by decide) (hF520.get (by decide) (hb516.get (by decide) (hF506.get (by decide) (hb497.get (by decide) (hF492.get (by decide) (hb488.get (by decide) (hb478.get (by decide) (hb475.get (by decide) (hb471.get (by decide) (hb465.get (by decide) (hF459.get (by decide) (hb455.get (by decide) (hF97.get (by decide) (hF69.get (by decide) (hF60.get (by decide) (hF51.get (by decide) (hF30.get (by decide) (hF21.get (by decide) (hF12.get (by decide) h0_1))))))))))))))))))))) rfl) ?_
        refine xg_t (xg_getf (va := (0, f1_76)) (hb545.get (by decide) (hb525.get (by decide) (hF520.get (by decide) (hb516.get (by decide) (hF506.get (by decide) (hb497.get (by decide) (hF492.get (by decide) (hb488.get (by decide) (hb478.get (by decide) (hb475.get (by decide) (hb471.get (by decide) (hb465.get (by decide) (hF459.get (by decide) (hb455.get (by decide) (hF97.get (by decide) h1_82))))))))))))))) rfl) ?_
        refine xg_iastK (n := 10) (u := f1_76) hr544 xnm0 xnm0 rfl (by first | decide | omega) (fun w546 hr547 hb548 => ?_)
        exact xg_e ⟨w546, ⟨rfl, rfl⟩, xInv.up (S := [80]) hI519 (((xFr.of (S := [80]) hb525 (by decide)).tr (xFr.of (S := [80]) hb545 (by decide))).tr (xFr.of (S := [80]) hb548 (by decide))) (List.forall_mem_cons.mpr ⟨xqu80 (show cpI 11 48 4294967295 (wget w546 80) from ⟨_, hr547, xrb (by omega) (xrb (by omega) (xrb (by omega) (xrb (by omega) (xrb (by omega) (xrb (by omega) (xrb (by omega) (xrb (by omega) (xrb (by omega) (xrb (by omega) (xrb (by omega) (hb452)))))))))))⟩), fun _ h => absurd h List.not_mem_nil⟩), ((((((((((((((((hF12.up (by decide)).tr (hF21.up (by decide))).tr (hF30.up (by decide))).tr (hF51.up (by decide))).tr (hF60.up (by decide))).tr (hF69.up (by decide))).tr (hF97.up (by decide))).tr (xFr.of (S := [50, 51, 52, 53, 54, 55, 58, 59, 60, 61, 62, 63, 64, 65, 66, 67, 68, 69, 70, 71, 72, 73, 76, 77, 80]) hb455 (by decide))).tr (hF459.up (by decide))).tr (((((xFr.of (S := [50, 51, 52, 53, 54, 55, 58, 59, 60, 61, 62, 63, 64, 65, 66, 67, 68, 69, 70, 71, 72, 73, 76, 77, 80]) hb465 (by decide)).tr (xFr.of (S := [50, 51, 52, 53, 54, 55, 58, 59, 60, 61, 62, 63, 64, 65, 66, 67, 68, 69, 70, 71, 72, 73, 76, 77, 80]) hb471 (by decide))).tr (xFr.of (S := [50, 51, 52, 53, 54, 55, 58, 59, 60, 61, 62, 63, 64, 65, 66, 67, 68, 69, 70, 71, 72, 73, 76, 77, 80]) hb475 (by decide))).tr (xFr.of (S := [50, 51, 52, 53, 54, 55, 58, 59, 60, 61, 62, 63, 64, 65, 66, 67, 68, 69, 70, 71, 72, 73, 76, 77, 80]) hb478 (by decide))).tr (xFr.of (S := [50, 51, 52, 53, 54, 55, 58, 59, 60, 61, 62, 63, 64, 65, 66, 67, 68, 69, 70, 71, 72, 73, 76, 77, 80]) hb488 (by decide)))).tr (hF492.up (by decide))).tr (xFr.of (S := [50, 51, 52, 53, 54, 55, 58, 59, 60, 61, 62, 63, 64, 65, 66, 67, 68, 69, 70, 71, 72, 73, 76, 77, 80]) hb497 (by decide))).tr (hF506.up (by decide))).tr (xFr.of (S := [50, 51, 52, 53, 54, 55, 58, 59, 60, 61, 62, 63, 64, 65, 66, 67, 68, 69, 70, 71, 72, 73, 76, 77, 80]) hb516 (by decide))).tr (hF520.up (by decide))).tr (((xFr.of (S := [50, 51, 52, 53, 54, 55, 58, 59, 60, 61, 62, 63, 64, 65, 66, 67, 68, 69, 70, 71, 72, 73, 76, 77, 80]) hb525 (by decide)).tr (xFr.of (S := [50, 51, 52, 53, 54, 55, 58, 59, 60, 61, 62, 63, 64, 65, 66, 67, 68, 69, 70, 71, 72, 73, 76, 77, 80]) hb545 (by decide))).tr (xFr.of (S := [50, 51, 52, 53, 54, 55, 58, 59, 60, 61, 62, 63, 64, 65, 66, 67, 68, 69, 70, 71, 72, 73, 76, 77, 80]) hb548 (by decide))))⟩
      · refine xg_t (xg_ifT (u := f4_466) rfl xnm0 (xj_neT hc472)) ?_
        refine xg_t (xg_blq rfl) ?_
        refine xg_t (xg_aload (va := (2, 0)) rfl rfl) ?_
        refine xg_t (xg_getf (va := (2, 49)) (hb471.get (by decide) (hb465.get (by decide) (hF459.get (by decide) (hb455.get (by decide) (hF97.get (by decide) (hF69.get (by decide) (hF60.get (by decide) (hF51.get (by decide) (hF30.get (by decide) (hF21.get (by decide) (hF12.get (by decide) h0_1))))))))))) rfl) ?_
        refine xg_cVi mX0_leastRound (vs := []) (rest := [(0, 3), (2, 80)]) (cn1 := 0) (sl1 := 0) rfl (bdLeast (xInv.up (S := [80]) hI458 ((xFr.of (S := [80]) hb465 (by decide)).tr (xFr.of (S := [80]) hb471 (by decide))) (List.forall_mem_cons.mpr ⟨xqu80 (show cpI 11 48 4294967295 (wget w469 80) from ⟨_, hr470, xrb (by omega) (xrb (by omega) (xrb (by omega) (hb452)))⟩), fun _ h => absurd h List.not_mem_nil⟩))) rfl (hb471.get (by decide) (hb465.get (by decide) (hF459.get (by decide) (hb455.get (by decide) (hF97.get (by decide) (hF69.get (by decide) h49_65)))))) rfl rfl rfl rfl rfl rfl (fun n553 w549 hq550 => ?_)
        obtain ⟨hn554, hI551, hF552⟩ := hq550
        refine xg_t (xg_blq rfl) ?_
        refine xg_iastK (n := 3) (u := n553) (hr470.fr hF552 (by decide)) xnm0 xnm0 rfl (by first | decide | omega) (fun w555 hr556 hb557 => ?_)
        refine xg_t (xg_aload (va := (2, 0)) rfl rfl) ?_
        refine xg_t (xg_getf (va := (2, 80)) (hb557.get (by decide) (hF552.get (by decide) (hb471.get (by decide) (hb465.get (by decide) (hF459.get (by decide) (hb455.get (by decide) (hF97.get (by decide) (hF69.get (by decide) (hF60.get (by decide) (hF51.get (by decide) (hF30.get (by decide) (hF21.get (by decide) (hF12.get (by decide) h0_1))))))))))))) rfl) ?_
        refine xg_t (xg_const) ?_
        refine xg_t (xg_aload (va := (2, 3)) rfl rfl) ?_
        refine xg_t (xg_getf (va := (0, f3_87)) (hb557.get (by decide) (hF552.get (by decide) (hb471.get (by decide) (hb465.get (by decide) (hF459.get (by decide) (hb455.get (by decide) (hF97.get (by decide) h3_93))))))) rfl) ?_
        refine xg_iastK (n := 4) (u := f3_87) hr556 xnm0 xnm0 rfl (by first | decide | omega) (fun w558 hr559 hb560 => ?_)
        refine xg_t (xg_aload (va := (2, 0)) rfl rfl) ?_
        refine xg_t (xg_getf (va := (2, 80)) (hb560.get (by decide) (hb557.get (by decide) (hF552.get (by decide) (hb471.get (by decide) (hb465.get (by decide) (hF459.get (by decide) (hb455.get (by decide) (hF97.get (by decide) (hF69.get (by decide) (hF60.get (by decide) (hF51.get (by decide) (hF30.get (by decide) (hF21.get (by decide) (hF12.get (by decide) h0_1)))))))))))))) rfl) ?_
        refine xg_t (xg_const) ?_
        refine xg_t (xg_aload (va := (2, 0)) rfl rfl) ?_
        refine xg_t (xg_getf (va := (2, 58)) (hb560.get (by decide) (hb557.get (by decide) (hF552.get (by decide) (hb471.get (by decide) (hb465.get (by decide) (hF459.get (by decide) (hb455.get (by decide) (hF97.get (by decide) (hF69.get (by decide) (hF60.get (by decide) (hF51.get (by decide) (hF30.get (by decide) (hF21.get (by decide) (hF12.get (by decide) h0_1)))))))))))))) rfl) ?_
        refine xoC58 (xqc58 hI551 : cp58 (wget w549 58)) (fun f58_561 f58_563 f58_565 h58_567 hb562 hb564 hb566 => ?_)
        refine xg_t (xg_getf (va := (0, f58_563)) (hb560.get (by decide) (hb557.get (by decide) h58_567)) rfl) ?_
        refine xg_iastK (n := 5) (u := f58_563) hr559 xnm0 xnm0 rfl (by first | decide | omega) (fun w568 hr569 hb570 => ?_)
        refine xg_t (xg_aload (va := (2, 0)) rfl rfl) ?_
        refine xg_t (xg_getf (va := (2, 80)) (hb570.get (by decide) (hb560.get (by decide) (hb557.get (by decide) (hF552.get (by decide) (hb471.get (by decide) (hb465.get (by decide) (hF459.get (by decide) (hb455.get (by decide) (hF97.get (by decide) (hF69.get (by decide) (hF60.get (by decide) (hF51.get (by decide) (hF30.get (by decide) (hF21.get (by decide) (hF12.get (by decide) h0_1))))))))))))))) rfl) ?_
        refine xg_t (xg_bip) ?_
        refine xg_t (xg_aload (va := (2, 0)) rfl rfl) ?_
        refine xg_cVi mX11_countDark (vs := []) (rest := [(0, 6), (2, 80)]) (cn1 := 0) (sl1 := 0) rfl (scCountDark (xInv.up (S := [80]) hI551 (((xFr.of (S := [80]) hb557 (by decide)).tr (xFr.of (S := [80]) hb560 (by decide))).tr (xFr.of (S := [80]) hb570 (by decide))) (List.forall_mem_cons.mpr ⟨xqu80 (show cpI 11 48 4294967295 (wget w568 80) from ⟨_, hr569, xrb (by omega) (xrb (by omega) (xrb (by omega) (xrb (by omega) (xrb (by omega) (xrb (by omega) (hb452))))))⟩), fun _ h => absurd h List.not_mem_nil⟩))) rfl (hb570.get (by decide) (hb560.get (by decide) (hb557.get (by decide) (hF552.get (by decide) (hb471.get (by decide) (hb465.get (by decide) (hF459.get (by decide) (hb455.get (by decide) (hF97.get (by decide) (hF69.get (by decide) (hF60.get (by decide) (hF51.get (by decide) (hF30.get (by decide) (hF21.get (by decide) (hF12.get (by decide) h0_1))))))))))))))) rfl rfl rfl rfl rfl rfl (fun n575 w571 hq572 => ?_)
        obtain ⟨hn576, hI573, hF574⟩ := hq572
        refine xg_iastK (n := 6) (u := n575) (hr569.fr hF574 (by decide)) xnm0 xnm0 rfl (by first | decide | omega) (fun w577 hr578 hb579 => ?_)
        refine xg_t (xg_aload (va := (2, 0)) rfl rfl) ?_
        refine xg_t (xg_getf (va := (2, 80)) (hb579.get (by decide) (hF574.get (by decide) (hb570.get (by decide) (hb560.get (by decide) (hb557.get (by decide) (hF552.get (by decide) (hb471.get (by decide) (hb465.get (by decide) (hF459.get (by decide) (hb455.get (by decide) (hF97.get (by decide) (hF69.get (by decide) (hF60.get (by decide) (hF51.get (by decide) (hF30.get (by decide) (hF21.get (by decide) (hF12.get (by decide) h0_1))))))))))))))))) rfl) ?_
        refine xg_t (xg_bip) ?_
        refine xg_t (xg_sip) ?_
        refine xg_t (xg_aload (va := (2, 0)) rfl rfl) ?_
        refine xg_t (xg_getf (va := (2, 72)) (hb579.get (by decide) (hF574.get (by decide) (hb570.get (by decide) (hb560.get (by decide) (hb557.get (by decide) (hF552.get (by decide) (hb471.get (by decide) (hb465.get (by decide) (hF459.get (by decide) (hb455.get (by decide) (hF97.get (by decide) (hF69.get (by decide) (hF60.get (by decide) (hF51.get (by decide) (hF30.get (by decide) (hF21.get (by decide) (hF12.get (by decide) h0_1))))))))))))))))) rfl) ?_
        refine xg_t (xg_const) ?_
        refine xg_t (xg_const) ?_
        refine xg_t (xg_aload (va := (2, 3)) rfl rfl) ?_
        refine xg_t (xg_getf (va := (0, f3_83)) (hb579.get (by decide) (hF574.get (by decide) (hb570.get (by decide) (hb560.get (by decide) (hb557.get (by decide) (hF552.get (by decide) (hb471.get (by decide) (hb465.get (by decide) (hF459.get (by decide) (hb455.get (by decide) (hF97.get (by decide) h3_93))))))))))) rfl) ?_
        refine xg_t (xg_aload (va := (2, 3)) rfl rfl) ?_
        refine xg_t (xg_getf (va := (0, f3_85)) (hb579.get (by decide) (hF574.get (by decide) (hb570.get (by decide) (hb560.get (by decide) (hb557.get (by decide) (hF552.get (by decide) (hb471.get (by decide) (hb465.get (by decide) (hF459.get (by decide) (hb455.get (by decide) (hF97.get (by decide) h3_93))))))))))) rfl) ?_
        refine xoC72 (xqc72 hI573 : cp72 (wget w571 72)) (fun f72_580 f72_582 h72_584 hb581 hb583 => ?_)
        refine xg_cVi mX7_worthOf (vs := [(0, 0), (0, 0), (0, f3_83), (0, f3_85)]) (rest := [(0, 9999), (0, 7), (2, 80)]) (cn1 := 0) (sl1 := 0) rfl (shWorthOf (xInv.up (S := [80]) hI573 (xFr.of (S := [80]) hb579 (by decide)) (List.forall_mem_cons.mpr ⟨xqu80 (show cpI 11 48 4294967295 (wget w577 80) from ⟨_, hr578, xrb (by omega) (xrb (by omega) (xrb (by omega) (xrb (by omega) (xrb (by omega) (xrb (by omega) (xrb (by omega) (hb452)))))))⟩), fun _ h => absurd h List.not_mem_nil⟩)) (by omega) (by omega) (by omega) (by omega)) rfl (hb579.get (by decide) h72_584) rfl rfl rfl rfl rfl rfl (fun n589 w585 hq586 => ?_)
        obtain ⟨hn590, hI587, hF588⟩ := hq586
        refine xg_minK (u := 9999) (v := n589) xnm0 xnm0 xmx_ok (by omega) (by omega) (fun z591 hz592 hz593 hz594 hz595 => ?_)
        unfold xbs at hz593 hz594
        refine xg_iastK (n := 7) (u := z591) (hr578.fr hF588 (by decide)) xnm0 xnm0 rfl (by first | decide | omega) (fun w596 hr597 hb598 => ?_)
        refine xg_t (xg_aload (va := (2, 0)) rfl rfl) ?_
        refine xg_t (xg_getf (va := (2, 80)) (hb598.get (by decide) (hF588.get (by decide) (hb579.get (by decide) (hF574.get (by decide) (hb570.get (by decide) (hb560.get (by decide) (hb557.get (by decide) (hF552.get (by decide) (hb471.get (by decide) (hb465.get (by decide) (hF459.get (by decide) (hb455.get (by decide) (hF97.get (by decide) (hF69.get (by decide) (hF60.get (by decide) (hF51.get (by decide) (hF30.get (by decide) (hF21.get (by decide) (hF12.get (by decide) h0_1))))))))))))))))))) rfl) ?_
        refine xg_t (xg_bip) ?_
        refine xg_t (xg_aload (va := (2, 0)) rfl rfl) ?_
        refine xg_t (xg_getf (va := (2, 1)) (hb598.get (by decide) (hF588.get (by decide) (hb579.get (by decide) (hF574.get (by decide) (hb570.get (by decide) (hb560.get (by decide) (hb557.get (by decide) (hF552.get (by decide) (hb471.get (by decide) (hb465.get (by decide) (hF459.get (by decide) (hb455.get (by decide) (hF97.get (by decide) (hF69.get (by decide) (hF60.get (by decide) (hF51.get (by decide) (hF30.get (by decide) (hF21.get (by decide) (hF12.get (by decide) h0_1))))))))))))))))))) rfl) ?_
        refine xg_cVi mX9_cracksInView (vs := []) (rest := [(0, 8), (2, 80)]) (cn1 := 0) (sl1 := 0) rfl (tdCracksInView (xInv.up (S := [80]) hI587 (xFr.of (S := [80]) hb598 (by decide)) (List.forall_mem_cons.mpr ⟨xqu80 (show cpI 11 48 4294967295 (wget w596 80) from ⟨_, hr597, xrb (by omega) (xrb (by omega) (xrb (by omega) (xrb (by omega) (xrb (by omega) (xrb (by omega) (xrb (by omega) (xrb (by omega) (hb452))))))))⟩), fun _ h => absurd h List.not_mem_nil⟩))) rfl (hb598.get (by decide) (hF588.get (by decide) (hb579.get (by decide) (hF574.get (by decide) (hb570.get (by decide) (hb560.get (by decide) (hb557.get (by decide) (hF552.get (by decide) (hb471.get (by decide) (hb465.get (by decide) (hF459.get (by decide) (hb455.get (by decide) (hF97.get (by decide) h1_82))))))))))))) rfl rfl rfl rfl rfl rfl (fun n603 w599 hq600 => ?_)
        obtain ⟨hn604, hI601, hF602⟩ := hq600
        refine xg_iastK (n := 8) (u := n603) (hr597.fr hF602 (by decide)) xnm0 xnm0 rfl (by first | decide | omega) (fun w605 hr606 hb607 => ?_)
        refine xg_t (xg_aload (va := (2, 0)) rfl rfl) ?_
        refine xg_t (xg_getf (va := (2, 80)) (hb607.get (by decide) (hF602.get (by decide) (hb598.get (by decide) (hF588.get (by decide) (hb579.get (by decide) (hF574.get (by decide) (hb570.get (by decide) (hb560.get (by decide) (hb557.get (by decide) (hF552.get (by decide) (hb471.get (by decide) (hb465.get (by decide) (hF459.get (by decide) (hb455.get (by decide) (hF97.get (by decide) (hF69.get (by decide) (hF60.get (by decide) (hF51.get (by decide) (hF30.get (by decide) (hF21.get (by decide) (hF12.get (by decide) h0_1))))))))))))))))))))) rfl) ?_
        refine xg_t (xg_bip) ?_
        refine xg_t (xg_aload (va := (2, 0)) rfl rfl) ?_
        refine xg_t (xg_getf (va := (2, 76)) (hb607.get (by decide) (hF602.get (by decide) (hb598.get (by decide) (hF588.get (by decide) (hb579.get (by decide) (hF574.get (by decide) (hb570.get (by decide) (hb560.get (by decide) (hb557.get (by decide) (hF552.get (by decide) (hb471.get (by decide) (hb465.get (by decide) (hF459.get (by decide) (hb455.get (by decide) (hF97.get (by decide) (hF69.get (by decide) (hF60.get (by decide) (hF51.get (by decide) (hF30.get (by decide) (hF21.get (by decide) (hF12.get (by decide) h0_1))))))))))))))))))))) rfl) ?_
        refine xoC76 (xqc76 hI601 : cp76 (wget w599 76)) (fun f76_608 f76_610 f76_612 f76_614 f76_616 f76_618 f76_620 f76_622 h76_624 hb609 hb611 hb613 hb615 hb617 hb619 hb621 hb623 => ?_)
        refine xg_t (xg_getf (va := (0, f76_608)) (hb607.get (by decide) h76_624) rfl) ?_
        refine xg_iastK (n := 9) (u := f76_608) hr606 xnm0 xnm0 rfl (by first | decide | omega) (fun w625 hr626 hb627 => ?_)
        refine xg_t (xg_aload (va := (2, 0)) rfl rfl) ?_
        refine xg_t (xg_getf (va := (2, 80)) (hb627.get (by decide) (hb607.get (by decide) (hF602.get (by decide) (hb598.get (by decide) (hF588.get (by decide) (hb579.get (by decide) (hF574.get (by decide) (hb570.get (by decide) (hb560.get (by decide) (hb557.get (by decide) (hF552.get (by decide) (hb471.get (by decide) (hb465.get (by decide) (hF459.get (by decide) (hb455.get (by decide) (hF97.get (by decide) (hF69.get (by decide) (hF60.get (by decide) (hF51.get (by decide) (hF30.get (by decide) (hF21.get (by decide) (hF12.get (by decide) h0_1)))))))))))))))))))))) rfl) ?_
        refine xg_t (xg_bip) ?_
        refine xg_t (xg_aload (va := (2, 0)) rfl rfl) ?_
        refine xg_t (xg_getf (va := (2, 1)) (hb627.get (by decide) (hb607.get (by decide) (hF602.get (by decide) (hb598.get (by decide) (hF588.get (by decide) (hb579.get (by decide) (hF574.get (by decide) (hb570.get (by decide) (hb560.get (by decide) (hb557.get (by decide) (hF552.get (by decide) (hb471.get (by decide) (hb465.get (by decide) (hF459.get (by decide) (hb455.get (by decide) (hF97.get (by decide) (hF69.get (by decide) (hF60.get (by decide) (hF51.get (by decide) (hF30.get (by decide) (hF21.get (by decide) (hF12.get (by decide) h0_1)))))))))))))))))))))) rfl) ?_
        refine xg_t (xg_getf (va := (0, f1_76)) (hb627.get (by decide) (hb607.get (by decide) (hF602.get (by decide) (hb598.get (by decide) (hF588.get (by decide) (hb579.get (by decide) (hF574.get (by decide) (hb570.get (by decide) (hb560.get (by decide) (hb557.get (by decide) (hF552.get (by decide) (hb471.get (by decide) (hb465.get (by decide) (hF459.get (by decide) (hb455.get (by decide) (hF97.get (by decide) h1_82)))))))))))))))) rfl) ?_
        refine xg_iastK (n := 10) (u := f1_76) hr626 xnm0 xnm0 rfl (by first | decide | omega) (fun w628 hr629 hb630 => ?_)
        exact xg_e ⟨w628, ⟨rfl, rfl⟩, xInv.up (S := [80]) hI601 (((xFr.of (S := [80]) hb607 (by decide)).tr (xFr.of (S := [80]) hb627 (by decide))).tr (xFr.of (S := [80]) hb630 (by decide))) (List.forall_mem_cons.mpr ⟨xqu80 (show cpI 11 48 4294967295 (wget w628 80) from ⟨_, hr629, xrb (by omega) (xrb (by omega) (xrb (by omega) (xrb (by omega) (xrb (by omega) (xrb (by omega) (xrb (by omega) (xrb (by omega) (xrb (by omega) (xrb (by omega) (xrb (by omega) (hb452)))))))))))⟩), fun _ h => absurd h List.not_mem_nil⟩), ((((((((((((((((((hF12.up (by decide)).tr (hF21.up (by decide))).tr (hF30.up (by decide))).tr (hF51.up (by decide))).tr (hF60.up (by decide))).tr (hF69.up (by decide))).tr (hF97.up (by decide))).tr (xFr.of (S := [50, 51, 52, 53, 54, 55, 58, 59, 60, 61, 62, 63, 64, 65, 66, 67, 68, 69, 70, 71, 72, 73, 76, 77, 80]) hb455 (by decide))).tr (hF459.up (by decide))).tr ((xFr.of (S := [50, 51, 52, 53, 54, 55, 58, 59, 60, 61, 62, 63, 64, 65, 66, 67, 68, 69, 70, 71, 72, 73, 76, 77, 80]) hb465 (by decide)).tr (xFr.of (S := [50, 51, 52, 53, 54, 55, 58, 59, 60, 61, 62, 63, 64, 65, 66, 67, 68, 69, 70, 71, 72, 73, 76, 77, 80]) hb471 (by decide)))).tr (hF552.up (by decide))).tr (((xFr.of (S := [50, 51, 52, 53, 54, 55, 58, 59, 60, 61, 62, 63, 64, 65, 66, 67, 68, 69, 70, 71, 72, 73, 76, 77, 80]) hb557 (by decide)).tr (xFr.of (S := [50, 51, 52, 53, 54, 55, 58, 59, 60, 61, 62, 63, 64, 65, 66, 67, 68, 69, 70, 71, 72, 73, 76, 77, 80]) hb560 (by decide))).tr (xFr.of (S := [50, 51, 52, 53, 54, 55, 58, 59, 60, 61, 62, 63, 64, 65, 66, 67, 68, 69, 70, 71, 72, 73, 76, 77, 80]) hb570 (by decide)))).tr (hF574.up (by decide))).tr (xFr.of (S := [50, 51, 52, 53, 54, 55, 58, 59, 60, 61, 62, 63, 64, 65, 66, 67, 68, 69, 70, 71, 72, 73, 76, 77, 80]) hb579 (by decide))).tr (hF588.up (by decide))).tr (xFr.of (S := [50, 51, 52, 53, 54, 55, 58, 59, 60, 61, 62, 63, 64, 65, 66, 67, 68, 69, 70, 71, 72, 73, 76, 77, 80]) hb598 (by decide))).tr (hF602.up (by decide))).tr (((xFr.of (S := [50, 51, 52, 53, 54, 55, 58, 59, 60, 61, 62, 63, 64, 65, 66, 67, 68, 69, 70, 71, 72, 73, 76, 77, 80]) hb607 (by decide)).tr (xFr.of (S := [50, 51, 52, 53, 54, 55, 58, 59, 60, 61, 62, 63, 64, 65, 66, 67, 68, 69, 70, 71, 72, 73, 76, 77, 80]) hb627 (by decide))).tr (xFr.of (S := [50, 51, 52, 53, 54, 55, 58, 59, 60, 61, 62, 63, 64, 65, 66, 67, 68, 69, 70, 71, 72, 73, 76, 77, 80]) hb630 (by decide))))⟩
    · refine xg_t (xg_ifT (u := n460) rfl xnm0 (xj_neT hc462)) ?_
      refine xg_t (xg_blq rfl) ?_
      refine xg_t (xg_const) ?_
      refine xg_t (xg_blq rfl) ?_
      refine xg_iastK (n := 1) (u := 0) (hr454.fr hF459 (by decide)) xnm0 xnm0 rfl (by first | decide | omega) (fun w631 hr632 hb633 => ?_)
      refine xg_t (xg_aload (va := (2, 0)) rfl rfl) ?_
      refine xg_t (xg_getf (va := (2, 80)) (hb633.get (by decide) (hF459.get (by decide) (hb455.get (by decide) (hF97.get (by decide) (hF69.get (by decide) (hF60.get (by decide) (hF51.get (by decide) (hF30.get (by decide) (hF21.get (by decide) (hF12.get (by decide) h0_1)))))))))) rfl) ?_
      refine xg_t (xg_const) ?_
      refine xg_t (xg_aload (va := (2, 3)) rfl rfl) ?_
      refine xg_t (xg_getf (va := (2, 4)) (hb633.get (by decide) (hF459.get (by decide) (hb455.get (by decide) (hF97.get (by decide) h3_93)))) rfl) ?_
      obtain ⟨f4_634, h4_636, hb635⟩ := (xqc4 hI458 : cp4 (wget w456 4))
      refine xg_t (xg_getf (va := (0, f4_634)) (hb633.get (by decide) h4_636) rfl) ?_
      refine xg_iastK (n := 2) (u := f4_634) hr632 xnm0 xnm0 rfl (by first | decide | omega) (fun w637 hr638 hb639 => ?_)
      refine xg_t (xg_aload (va := (2, 0)) rfl rfl) ?_
      refine xg_t (xg_getf (va := (2, 80)) (hb639.get (by decide) (hb633.get (by decide) (hF459.get (by decide) (hb455.get (by decide) (hF97.get (by decide) (hF69.get (by decide) (hF60.get (by decide) (hF51.get (by decide) (hF30.get (by decide) (hF21.get (by decide) (hF12.get (by decide) h0_1))))))))))) rfl) ?_
      refine xg_t (xg_const) ?_
      refine xg_t (xg_aload (va := (2, 3)) rfl rfl) ?_
      refine xg_t (xg_getf (va := (2, 4)) (hb639.get (by decide) (hb633.get (by decide) (hF459.get (by decide) (hb455.get (by decide) (hF97.get (by decide) h3_93))))) rfl) ?_
      refine xg_t (xg_getf (va := (0, f4_634)) (hb639.get (by decide) (hb633.get (by decide) h4_636)) rfl) ?_
      by_cases hc640 : f4_634 = 0
      · refine xg_t (xg_ifF (u := f4_634) rfl xnm0 (xj_neF hc640)) ?_
        refine xg_t (xg_const) ?_
        refine xg_t (xg_goto) ?_
        refine xg_t (xg_blq rfl) ?_
        refine xg_iastK (n := 3) (u := 0) hr638 xnm0 xnm0 rfl (by first | decide | omega) (fun w641 hr642 hb643 => ?_)
        refine xg_t (xg_aload (va := (2, 0)) rfl rfl) ?_
        refine xg_t (xg_getf (va := (2, 80)) (hb643.get (by decide) (hb639.get (by decide) (hb633.get (by decide) (hF459.get (by decide) (hb455.get (by decide) (hF97.get (by decide) (hF69.get (by decide) (hF60.get (by decide) (hF51.get (by decide) (hF30.get (by decide) (hF21.get (by decide) (hF12.get (by decide) h0_1)))))))))))) rfl) ?_
        refine xg_t (xg_const) ?_
        refine xg_t (xg_aload (va := (2, 3)) rfl rfl) ?_
        refine xg_t (xg_getf (va := (0, f3_87)) (hb643.get (by decide) (hb639.get (by decide) (hb633.get (by decide) (hF459.get (by decide) (hb455.get (by decide) (hF97.get (by decide) h3_93)))))) rfl) ?_
        refine xg_iastK (n := 4) (u := f3_87) hr642 xnm0 xnm0 rfl (by first | decide | omega) (fun w644 hr645 hb646 => ?_)
        refine xg_t (xg_aload (va := (2, 0)) rfl rfl) ?_
        refine xg_t (xg_getf (va := (2, 80)) (hb646.get (by decide) (hb643.get (by decide) (hb639.get (by decide) (hb633.get (by decide) (hF459.get (by decide) (hb455.get (by decide) (hF97.get (by decide) (hF69.get (by decide) (hF60.get (by decide) (hF51.get (by decide) (hF30.get (by decide) (hF21.get (by decide) (hF12.get (by decide) h0_1))))))))))))) rfl) ?_
        refine xg_t (xg_const) ?_
        refine xg_t (xg_aload (va := (2, 0)) rfl rfl) ?_
        refine xg_t (xg_getf (va := (2, 58)) (hb646.get (by decide) (hb643.get (by decide) (hb639.get (by decide) (hb633.get (by decide) (hF459.get (by decide) (hb455.get (by decide) (hF97.get (by decide) (hF69.get (by decide) (hF60.get (by decide) (hF51.get (by decide) (hF30.get (by decide) (hF21.get (by decide) (hF12.get (by decide) h0_1))))))))))))) rfl) ?_
        refine xoC58 (xqc58 hI458 : cp58 (wget w456 58)) (fun f58_647 f58_649 f58_651 h58_653 hb648 hb650 hb652 => ?_)
        refine xg_t (xg_getf (va := (0, f58_649)) (hb646.get (by decide) (hb643.get (by decide) (hb639.get (by decide) (hb633.get (by decide) h58_653)))) rfl) ?_
        refine xg_iastK (n := 5) (u := f58_649) hr645 xnm0 xnm0 rfl (by first | decide | omega) (fun w654 hr655 hb656 => ?_)
        refine xg_t (xg_aload (va := (2, 0)) rfl rfl) ?_
        refine xg_t (xg_getf (va := (2, 80)) (hb656.get (by decide) (hb646.get (by decide) (hb643.get (by decide) (hb639.get (by decide) (hb633.get (by decide) (hF459.get (by decide) (hb455.get (by decide) (hF97.get (by decide) (hF69.get (by decide) (hF60.get (by decide) (hF51.get (by decide) (hF30.get (by decide) (hF21.get (by decide) (hF12.get (by decide) h0_1)))))))))))))) rfl) ?_
        refine xg_t (xg_bip) ?_
        refine xg_t (xg_aload (va := (2, 0)) rfl rfl) ?_
        refine xg_cVi mX11_countDark (vs := []) (rest := [(0, 6), (2, 80)]) (cn1 := 0) (sl1 := 0) rfl (scCountDark (xInv.up (S := [80]) hI458 (((((xFr.of (S := [80]) hb633 (by decide)).tr (xFr.of (S := [80]) hb639 (by decide))).tr (xFr.of (S := [80]) hb643 (by decide))).tr (xFr.of (S := [80]) hb646 (by decide))).tr (xFr.of (S := [80]) hb656 (by decide))) (List.forall_mem_cons.mpr ⟨xqu80 (show cpI 11 48 4294967295 (wget w654 80) from ⟨_, hr655, xrb (by omega) (xrb (by omega) (xrb (by omega) (xrb (by omega) (xrb (by omega) (xrb (by omega) (hb452))))))⟩), fun _ h => absurd h List.not_mem_nil⟩))) rfl (hb656.get (by decide) (hb646.get (by decide) (hb643.get (by decide) (hb639.get (by decide) (hb633.get (by decide) (hF459.get (by decide) (hb455.get (by decide) (hF97.get (by decide) (hF69.get (by decide) (hF60.get (by decide) (hF51.get (by decide) (hF30.get (by decide) (hF21.get (by decide) (hF12.get (by decide) h0_1)))))))))))))) rfl rfl rfl rfl rfl rfl (fun n661 w657 hq658 => ?_)
        obtain ⟨hn662, hI659, hF660⟩ := hq658
        refine xg_iastK (n := 6) (u := n661) (hr655.fr hF660 (by decide)) xnm0 xnm0 rfl (by first | decide | omega) (fun w663 hr664 hb665 => ?_)
        refine xg_t (xg_aload (va := (2, 0)) rfl rfl) ?_
        refine xg_t (xg_getf (va := (2, 80)) (hb665.get (by decide) (hF660.get (by decide) (hb656.get (by decide) (hb646.get (by decide) (hb643.get (by decide) (hb639.get (by decide) (hb633.get (by decide) (hF459.get (by decide) (hb455.get (by decide) (hF97.get (by decide) (hF69.get (by decide) (hF60.get (by decide) (hF51.get (by decide) (hF30.get (by decide) (hF21.get (by decide) (hF12.get (by decide) h0_1)))))))))))))))) rfl) ?_
        refine xg_t (xg_bip) ?_
        refine xg_t (xg_sip) ?_
        refine xg_t (xg_aload (va := (2, 0)) rfl rfl) ?_
        refine xg_t (xg_getf (va := (2, 72)) (hb665.get (by decide) (hF660.get (by decide) (hb656.get (by decide) (hb646.get (by decide) (hb643.get (by decide) (hb639.get (by decide) (hb633.get (by decide) (hF459.get (by decide) (hb455.get (by decide) (hF97.get (by decide) (hF69.get (by decide) (hF60.get (by decide) (hF51.get (by decide) (hF30.get (by decide) (hF21.get (by decide) (hF12.get (by decide) h0_1)))))))))))))))) rfl) ?_
        refine xg_t (xg_const) ?_
        refine xg_t (xg_const) ?_
        refine xg_t (xg_aload (va := (2, 3)) rfl rfl) ?_
        refine xg_t (xg_getf (va := (0, f3_83)) (hb665.get (by decide) (hF660.get (by decide) (hb656.get (by decide) (hb646.get (by decide) (hb643.get (by decide) (hb639.get (by decide) (hb633.get (by decide) (hF459.get (by decide) (hb455.get (by decide) (hF97.get (by decide) h3_93)))))))))) rfl) ?_
        refine xg_t (xg_aload (va := (2, 3)) rfl rfl) ?_
        refine xg_t (xg_getf (va := (0, f3_85)) (hb665.get (by decide) (hF660.get (by decide) (hb656.get (by decide) (hb646.get (by decide) (hb643.get (by decide) (hb639.get (by decide) (hb633.get (by decide) (hF459.get (by decide) (hb455.get (by decide) (hF97.get (by decide) h3_93)))))))))) rfl) ?_
        refine xoC72 (xqc72 hI659 : cp72 (wget w657 72)) (fun f72_666 f72_668 h72_670 hb667 hb669 => ?_)
        refine xg_cVi mX7_worthOf (vs := [(0, 0), (0, 0), (0, f3_83), (0, f3_85)]) (rest := [(0, 9999), (0, 7), (2, 80)]) (cn1 := 0) (sl1 := 0) rfl (shWorthOf (xInv.up (S := [80]) hI659 (xFr.of (S := [80]) hb665 (by decide)) (List.forall_mem_cons.mpr ⟨xqu80 (show cpI 11 48 4294967295 (wget w663 80) from ⟨_, hr664, xrb (by omega) (xrb (by omega) (xrb (by omega) (xrb (by omega) (xrb (by omega) (xrb (by omega) (xrb (by omega) (hb452)))))))⟩), fun _ h => absurd h List.not_mem_nil⟩)) (by omega) (by omega) (by omega) (by omega)) rfl (hb665.get (by decide) h72_670) rfl rfl rfl rfl rfl rfl (fun n675 w671 hq672 => ?_)
        obtain ⟨hn676, hI673, hF674⟩ := hq672
        refine xg_minK (u := 9999) (v := n675) xnm0 xnm0 xmx_ok (by omega) (by omega) (fun z677 hz678 hz679 hz680 hz681 => ?_)
        unfold xbs at hz679 hz680
        refine xg_iastK (n := 7) (u := z677) (hr664.fr hF674 (by decide)) xnm0 xnm0 rfl (by first | decide | omega) (fun w682 hr683 hb684 => ?_)
        refine xg_t (xg_aload (va := (2, 0)) rfl rfl) ?_
        refine xg_t (xg_getf (va := (2, 80)) (hb684.get (by decide) (hF674.get (by decide) (hb665.get (by decide) (hF660.get (by decide) (hb656.get (by decide) (hb646.get (by decide) (hb643.get (by decide) (hb639.get (by decide) (hb633.get (by decide) (hF459.get (by decide) (hb455.get (by decide) (hF97.get (by decide) (hF69.get (by decide) (hF60.get (by decide) (hF51.get (by decide) (hF30.get (by decide) (hF21.get (by decide) (hF12.get (by decide) h0_1)))))))))))))))))) rfl) ?_
        refine xg_t (xg_bip) ?_
        refine xg_t (xg_aload (va := (2, 0)) rfl rfl) ?_
        refine xg_t (xg_getf (va := (2, 1)) (hb684.get (by decide) (hF674.get (by decide) (hb665.get (by decide) (hF660.get (by decide) (hb656.get (by decide) (hb646.get (by decide) (hb643.get (by decide) (hb639.get (by decide) (hb633.get (by decide) (hF459.get (by decide) (hb455.get (by decide) (hF97.get (by decide) (hF69.get (by decide) (hF60.get (by decide) (hF51.get (by decide) (hF30.get (by decide) (hF21.get (by decide) (hF12.get (by decide) h0_1)))))))))))))))))) rfl) ?_
        refine xg_cVi mX9_cracksInView (vs := []) (rest := [(0, 8), (2, 80)]) (cn1 := 0) (sl1 := 0) rfl (tdCracksInView (xInv.up (S := [80]) hI673 (xFr.of (S := [80]) hb684 (by decide)) (List.forall_mem_cons.mpr ⟨xqu80 (show cpI 11 48 4294967295 (wget w682 80) from ⟨_, hr683, xrb (by omega) (xrb (by omega) (xrb (by omega) (xrb (by omega) (xrb (by omega) (xrb (by omega) (xrb (by omega) (xrb (by omega) (hb452))))))))⟩), fun _ h => absurd h List.not_mem_nil⟩))) rfl (hb684.get (by decide) (hF674.get (by decide) (hb665.get (by decide) (hF660.get (by decide) (hb656.get (by decide) (hb646.get (by decide) (hb643.get (by decide) (hb639.get (by decide) (hb633.get (by decide) (hF459.get (by decide) (hb455.get (by decide) (hF97.get (by decide) h1_82)))))))))))) rfl rfl rfl rfl rfl rfl (fun n689 w685 hq686 => ?_)
        obtain ⟨hn690, hI687, hF688⟩ := hq686
        refine xg_iastK (n := 8) (u := n689) (hr683.fr hF688 (by decide)) xnm0 xnm0 rfl (by first | decide | omega) (fun w691 hr692 hb693 => ?_)
        refine xg_t (xg_aload (va := (2, 0)) rfl rfl) ?_
        refine xg_t (xg_getf (va := (2, 80)) (hb693.get (by decide) (hF688.get (by decide) (hb684.get (by decide) (hF674.get (by decide) (hb665.get (by decide) (hF660.get (by decide) (hb656.get (by decide) (hb646.get (by decide) (hb643.get (by decide) (hb639.get (by decide) (hb633.get (by decide) (hF459.get (by decide) (hb455.get (by decide) (hF97.get (by decide) (hF69.get (by decide) (hF60.get (by decide) (hF51.get (by decide) (hF30.get (by decide) (hF21.get (by decide) (hF12.get (by decide) h0_1)))))))))))))))))))) rfl) ?_
        refine xg_t (xg_bip) ?_
        refine xg_t (xg_aload (va := (2, 0)) rfl rfl) ?_
        refine xg_t (xg_getf (va := (2, 76)) (hb693.get (by decide) (hF688.get (by decide) (hb684.get (by decide) (hF674.get (by decide) (hb665.get (by decide) (hF660.get (by decide) (hb656.get (by decide) (hb646.get (by decide) (hb643.get (by decide) (hb639.get (by decide) (hb633.get (by decide) (hF459.get (by decide) (hb455.get (by decide) (hF97.get (by decide) (hF69.get (by decide) (hF60.get (by decide) (hF51.get (by decide) (hF30.get (by decide) (hF21.get (by decide) (hF12.get (by decide) h0_1)))))))))))))))))))) rfl) ?_
        refine xoC76 (xqc76 hI687 : cp76 (wget w685 76)) (fun f76_694 f76_696 f76_698 f76_700 f76_702 f76_704 f76_706 f76_708 h76_710 hb695 hb697 hb699 hb701 hb703 hb705 hb707 hb709 => ?_)
        refine xg_t (xg_getf (va := (0, f76_694)) (hb693.get (by decide) h76_710) rfl) ?_
        refine xg_iastK (n := 9) (u := f76_694) hr692 xnm0 xnm0 rfl (by first | decide | omega) (fun w711 hr712 hb713 => ?_)
        refine xg_t (xg_aload (va := (2, 0)) rfl rfl) ?_
        refine xg_t (xg_getf (va := (2, 80)) (hb713.get (by decide) (hb693.get (by decide) (hF688.get (by decide) (hb684.get (by decide) (hF674.get (by decide) (hb665.get (by decide) (hF660.get (by decide) (hb656.get (by decide) (hb646.get (by decide) (hb643.get (by decide) (hb639.get (by decide) (hb633.get (by decide) (hF459.get (by decide) (hb455.get (by decide) (hF97.get (by decide) (hF69.get (by decide) (hF60.get (by decide) (hF51.get (by decide) (hF30.get (by decide) (hF21.get (by decide) (hF12.get (by decide) h0_1))))))))))))))))))))) rfl) ?_
        refine xg_t (xg_bip) ?_
        refine xg_t (xg_aload (va := (2, 0)) rfl rfl) ?_
        refine xg_t (xg_getf (va := (2, 1)) (hb713.get (by decide) (hb693.get (by decide) (hF688.get (by decide) (hb684.get (by decide) (hF674.get (by decide) (hb665.get (by decide) (hF660.get (by decide) (hb656.get (by decide) (hb646.get (by decide) (hb643.get (by decide) (hb639.get (by decide) (hb633.get (by decide) (hF459.get (by decide) (hb455.get (by decide) (hF97.get (by decide) (hF69.get (by decide) (hF60.get (by decide) (hF51.get (by decide) (hF30.get (by decide) (hF21.get (by decide) (hF12.get (by decide) h0_1))))))))))))))))))))) rfl) ?_
        refine xg_t (xg_getf (va := (0, f1_76)) (hb713.get (by decide) (hb693.get (by decide) (hF688.get (by decide) (hb684.get (by decide) (hF674.get (by decide) (hb665.get (by decide) (hF660.get (by decide) (hb656.get (by decide) (hb646.get (by decide) (hb643.get (by decide) (hb639.get (by decide) (hb633.get (by decide) (hF459.get (by decide) (hb455.get (by decide) (hF97.get (by decide) h1_82))))))))))))))) rfl) ?_
        refine xg_iastK (n := 10) (u := f1_76) hr712 xnm0 xnm0 rfl (by first | decide | omega) (fun w714 hr715 hb716 => ?_)
        exact xg_e ⟨w714, ⟨rfl, rfl⟩, xInv.up (S := [80]) hI687 (((xFr.of (S := [80]) hb693 (by decide)).tr (xFr.of (S := [80]) hb713 (by decide))).tr (xFr.of (S := [80]) hb716 (by decide))) (List.forall_mem_cons.mpr ⟨xqu80 (show cpI 11 48 4294967295 (wget w714 80) from ⟨_, hr715, xrb (by omega) (xrb (by omega) (xrb (by omega) (xrb (by omega) (xrb (by omega) (xrb (by omega) (xrb (by omega) (xrb (by omega) (xrb (by omega) (xrb (by omega) (xrb (by omega) (hb452)))))))))))⟩), fun _ h => absurd h List.not_mem_nil⟩), ((((((((((((((((hF12.up (by decide)).tr (hF21.up (by decide))).tr (hF30.up (by decide))).tr (hF51.up (by decide))).tr (hF60.up (by decide))).tr (hF69.up (by decide))).tr (hF97.up (by decide))).tr (xFr.of (S := [50, 51, 52, 53, 54, 55, 58, 59, 60, 61, 62, 63, 64, 65, 66, 67, 68, 69, 70, 71, 72, 73, 76, 77, 80]) hb455 (by decide))).tr (hF459.up (by decide))).tr (((((xFr.of (S := [50, 51, 52, 53, 54, 55, 58, 59, 60, 61, 62, 63, 64, 65, 66, 67, 68, 69, 70, 71, 72, 73, 76, 77, 80]) hb633 (by decide)).tr (xFr.of (S := [50, 51, 52, 53, 54, 55, 58, 59, 60, 61, 62, 63, 64, 65, 66, 67, 68, 69, 70, 71, 72, 73, 76, 77, 80]) hb639 (by decide))).tr (xFr.of (S := [50, 51, 52, 53, 54, 55, 58, 59, 60, 61, 62, 63, 64, 65, 66, 67, 68, 69, 70, 71, 72, 73, 76, 77, 80]) hb643 (by decide))).tr (xFr.of (S := [50, 51, 52, 53, 54, 55, 58, 59, 60, 61, 62, 63, 64, 65, 66, 67, 68, 69, 70, 71, 72, 73, 76, 77, 80]) hb646 (by decide))).tr (xFr.of (S := [50, 51, 52, 53, 54, 55, 58, 59, 60, 61, 62, 63, 64, 65, 66, 67, 68, 69, 70, 71, 72, 73, 76, 77, 80]) hb656 (by decide)))).tr (hF660.up (by decide))).tr (xFr.of (S := [50, 51, 52, 53, 54, 55, 58, 59, 60, 61, 62, 63, 64, 65, 66, 67, 68, 69, 70, 71, 72, 73, 76, 77, 80]) hb665 (by decide))).tr (hF674.up (by decide))).tr (xFr.of (S := [50, 51, 52, 53, 54, 55, 58, 59, 60, 61, 62, 63, 64, 65, 66, 67, 68, 69, 70, 71, 72, 73, 76, 77, 80]) hb684 (by decide))).tr (hF688.up (by decide))).tr (((xFr.of (S := [50, 51, 52, 53, 54, 55, 58, 59, 60, 61, 62, 63, 64, 65, 66, 67, 68, 69, 70, 71, 72, 73, 76, 77, 80]) hb693 (by decide)).tr (xFr.of (S := [50, 51, 52, 53, 54, 55, 58, 59, 60, 61, 62, 63, 64, 65, 66, 67, 68, 69, 70, 71, 72, 73, 76, 77, 80]) hb713 (by decide))).tr (xFr.of (S := [50, 51, 52, 53, 54, 55, 58, 59, 60, 61, 62, 63, 64, 65, 66, 67, 68, 69, 70, 71, 72, 73, 76, 77, 80]) hb716 (by decide))))⟩
      · refine xg_t (xg_ifT (u := f4_634) rfl xnm0 (xj_neT hc640)) ?_
        refine xg_t (xg_blq rfl) ?_
        refine xg_t (xg_aload (va := (2, 0)) rfl rfl) ?_
        refine xg_t (xg_getf (va := (2, 49)) (hb639.get (by decide) (hb633.get (by decide) (hF459.get (by decide) (hb455.get (by decide) (hF97.get (by decide) (hF69.get (by decide) (hF60.get (by decide) (hF51.get (by decide) (hF30.get (by decide) (hF21.get (by decide) (hF12.get (by decide) h0_1))))))))))) rfl) ?_
        refine xg_cVi mX0_leastRound (vs := []) (rest := [(0, 3), (2, 80)]) (cn1 := 0) (sl1 := 0) rfl (bdLeast (xInv.up (S := [80]) hI458 ((xFr.of (S := [80]) hb633 (by decide)).tr (xFr.of (S := [80]) hb639 (by decide))) (List.forall_mem_cons.mpr ⟨xqu80 (show cpI 11 48 4294967295 (wget w637 80) from ⟨_, hr638, xrb (by omega) (xrb (by omega) (xrb (by omega) (hb452)))⟩), fun _ h => absurd h List.not_mem_nil⟩))) rfl (hb639.get (by decide) (hb633.get (by decide) (hF459.get (by decide) (hb455.get (by decide) (hF97.get (by decide) (hF69.get (by decide) h49_65)))))) rfl rfl rfl rfl rfl rfl (fun n721 w717 hq718 => ?_)
        obtain ⟨hn722, hI719, hF720⟩ := hq718
        refine xg_t (xg_blq rfl) ?_
        refine xg_iastK (n := 3) (u := n721) (hr638.fr hF720 (by decide)) xnm0 xnm0 rfl (by first | decide | omega) (fun w723 hr724 hb725 => ?_)
        refine xg_t (xg_aload (va := (2, 0)) rfl rfl) ?_
        refine xg_t (xg_getf (va := (2, 80)) (hb725.get (by decide) (hF720.get (by decide) (hb639.get (by decide) (hb633.get (by decide) (hF459.get (by decide) (hb455.get (by decide) (hF97.get (by decide) (hF69.get (by decide) (hF60.get (by decide) (hF51.get (by decide) (hF30.get (by decide) (hF21.get (by decide) (hF12.get (by decide) h0_1))))))))))))) rfl) ?_
        refine xg_t (xg_const) ?_
        refine xg_t (xg_aload (va := (2, 3)) rfl rfl) ?_
        refine xg_t (xg_getf (va := (0, f3_87)) (hb725.get (by decide) (hF720.get (by decide) (hb639.get (by decide) (hb633.get (by decide) (hF459.get (by decide) (hb455.get (by decide) (hF97.get (by decide) h3_93))))))) rfl) ?_
        refine xg_iastK (n := 4) (u := f3_87) hr724 xnm0 xnm0 rfl (by first | decide | omega) (fun w726 hr727 hb728 => ?_)
        refine xg_t (xg_aload (va := (2, 0)) rfl rfl) ?_
        refine xg_t (xg_getf (va := (2, 80)) (hb728.get (by decide) (hb725.get (by decide) (hF720.get (by decide) (hb639.get (by decide) (hb633.get (by decide) (hF459.get (by decide) (hb455.get (by decide) (hF97.get (by decide) (hF69.get (by decide) (hF60.get (by decide) (hF51.get (by decide) (hF30.get (by decide) (hF21.get (by decide) (hF12.get (by decide) h0_1)))))))))))))) rfl) ?_
        refine xg_t (xg_const) ?_
        refine xg_t (xg_aload (va := (2, 0)) rfl rfl) ?_
        refine xg_t (xg_getf (va := (2, 58)) (hb728.get (by decide) (hb725.get (by decide) (hF720.get (by decide) (hb639.get (by decide) (hb633.get (by decide) (hF459.get (by decide) (hb455.get (by decide) (hF97.get (by decide) (hF69.get (by decide) (hF60.get (by decide) (hF51.get (by decide) (hF30.get (by decide) (hF21.get (by decide) (hF12.get (by decide) h0_1)))))))))))))) rfl) ?_
        refine xoC58 (xqc58 hI719 : cp58 (wget w717 58)) (fun f58_729 f58_731 f58_733 h58_735 hb730 hb732 hb734 => ?_)
        refine xg_t (xg_getf (va := (0, f58_731)) (hb728.get (by decide) (hb725.get (by decide) h58_735)) rfl) ?_
        refine xg_iastK (n := 5) (u := f58_731) hr727 xnm0 xnm0 rfl (by first | decide | omega) (fun w736 hr737 hb738 => ?_)
        refine xg_t (xg_aload (va := (2, 0)) rfl rfl) ?_
        refine xg_t (xg_getf (va := (2, 80)) (hb738.get (by decide) (hb728.get (by decide) (hb725.get (by decide) (hF720.get (by decide) (hb639.get (by decide) (hb633.get (by decide) (hF459.get (by decide) (hb455.get (by decide) (hF97.get (by decide) (hF69.get (by decide) (hF60.get (by decide) (hF51.get (by decide) (hF30.get (by decide) (hF21.get (by decide) (hF12.get (by decide) h0_1))))))))))))))) rfl) ?_
        refine xg_t (xg_bip) ?_
        refine xg_t (xg_aload (va := (2, 0)) rfl rfl) ?_
        refine xg_cVi mX11_countDark (vs := []) (rest := [(0, 6), (2, 80)]) (cn1 := 0) (sl1 := 0) rfl (scCountDark (xInv.up (S := [80]) hI719 (((xFr.of (S := [80]) hb725 (by decide)).tr (xFr.of (S := [80]) hb728 (by decide))).tr (xFr.of (S := [80]) hb738 (by decide))) (List.forall_mem_cons.mpr ⟨xqu80 (show cpI 11 48 4294967295 (wget w736 80) from ⟨_, hr737, xrb (by omega) (xrb (by omega) (xrb (by omega) (xrb (by omega) (xrb (by omega) (xrb (by omega) (hb452))))))⟩), fun _ h => absurd h List.not_mem_nil⟩))) rfl (hb738.get (by decide) (hb728.get (by decide) (hb725.get (by decide) (hF720.get (by decide) (hb639.get (by decide) (hb633.get (by decide) (hF459.get (by decide) (hb455.get (by decide) (hF97.get (by decide) (hF69.get (by decide) (hF60.get (by decide) (hF51.get (by decide) (hF30.get (by decide) (hF21.get (by decide) (hF12.get (by decide) h0_1))))))))))))))) rfl rfl rfl rfl rfl rfl (fun n743 w739 hq740 => ?_)
        obtain ⟨hn744, hI741, hF742⟩ := hq740
        refine xg_iastK (n := 6) (u := n743) (hr737.fr hF742 (by decide)) xnm0 xnm0 rfl (by first | decide | omega) (fun w745 hr746 hb747 => ?_)
        refine xg_t (xg_aload (va := (2, 0)) rfl rfl) ?_
        refine xg_t (xg_getf (va := (2, 80)) (hb747.get (by decide) (hF742.get (by decide) (hb738.get (by decide) (hb728.get (by decide) (hb725.get (by decide) (hF720.get (by decide) (hb639.get (by decide) (hb633.get (by decide) (hF459.get (by decide) (hb455.get (by decide) (hF97.get (by decide) (hF69.get (by decide) (hF60.get (by decide) (hF51.get (by decide) (hF30.get (by decide) (hF21.get (by decide) (hF12.get (by decide) h0_1))))))))))))))))) rfl) ?_
        refine xg_t (xg_bip) ?_
        refine xg_t (xg_sip) ?_
        refine xg_t (xg_aload (va := (2, 0)) rfl rfl) ?_
        refine xg_t (xg_getf (va := (2, 72)) (hb747.get (by decide) (hF742.get (by decide) (hb738.get (by decide) (hb728.get (by decide) (hb725.get (by decide) (hF720.get (by decide) (hb639.get (by decide) (hb633.get (by decide) (hF459.get (by decide) (hb455.get (by decide) (hF97.get (by decide) (hF69.get (by decide) (hF60.get (by decide) (hF51.get (by decide) (hF30.get (by decide) (hF21.get (by decide) (hF12.get (by decide) h0_1))))))))))))))))) rfl) ?_
        refine xg_t (xg_const) ?_
        refine xg_t (xg_const) ?_
        refine xg_t (xg_aload (va := (2, 3)) rfl rfl) ?_
        refine xg_t (xg_getf (va := (0, f3_83)) (hb747.get (by decide) (hF742.get (by decide) (hb738.get (by decide) (hb728.get (by decide) (hb725.get (by decide) (hF720.get (by decide) (hb639.get (by decide) (hb633.get (by decide) (hF459.get (by decide) (hb455.get (by decide) (hF97.get (by decide) h3_93))))))))))) rfl) ?_
        refine xg_t (xg_aload (va := (2, 3)) rfl rfl) ?_
        refine xg_t (xg_getf (va := (0, f3_85)) (hb747.get (by decide) (hF742.get (by decide) (hb738.get (by decide) (hb728.get (by decide) (hb725.get (by decide) (hF720.get (by decide) (hb639.get (by decide) (hb633.get (by decide) (hF459.get (by decide) (hb455.get (by decide) (hF97.get (by decide) h3_93))))))))))) rfl) ?_
        refine xoC72 (xqc72 hI741 : cp72 (wget w739 72)) (fun f72_748 f72_750 h72_752 hb749 hb751 => ?_)
        refine xg_cVi mX7_worthOf (vs := [(0, 0), (0, 0), (0, f3_83), (0, f3_85)]) (rest := [(0, 9999), (0, 7), (2, 80)]) (cn1 := 0) (sl1 := 0) rfl (shWorthOf (xInv.up (S := [80]) hI741 (xFr.of (S := [80]) hb747 (by decide)) (List.forall_mem_cons.mpr ⟨xqu80 (show cpI 11 48 4294967295 (wget w745 80) from ⟨_, hr746, xrb (by omega) (xrb (by omega) (xrb (by omega) (xrb (by omega) (xrb (by omega) (xrb (by omega) (xrb (by omega) (hb452)))))))⟩), fun _ h => absurd h List.not_mem_nil⟩)) (by omega) (by omega) (by omega) (by omega)) rfl (hb747.get (by decide) h72_752) rfl rfl rfl rfl rfl rfl (fun n757 w753 hq754 => ?_)
        obtain ⟨hn758, hI755, hF756⟩ := hq754
        refine xg_minK (u := 9999) (v := n757) xnm0 xnm0 xmx_ok (by omega) (by omega) (fun z759 hz760 hz761 hz762 hz763 => ?_)
        unfold xbs at hz761 hz762
        refine xg_iastK (n := 7) (u := z759) (hr746.fr hF756 (by decide)) xnm0 xnm0 rfl (by first | decide | omega) (fun w764 hr765 hb766 => ?_)
        refine xg_t (xg_aload (va := (2, 0)) rfl rfl) ?_
        refine xg_t (xg_getf (va := (2, 80)) (hb766.get (by decide) (hF756.get (by decide) (hb747.get (by decide) (hF742.get (by decide) (hb738.get (by decide) (hb728.get (by decide) (hb725.get (by decide) (hF720.get (by decide) (hb639.get (by decide) (hb633.get (by decide) (hF459.get (by decide) (hb455.get (by decide) (hF97.get (by decide) (hF69.get (by decide) (hF60.get (by decide) (hF51.get (by decide) (hF30.get (by decide) (hF21.get (by decide) (hF12.get (by decide) h0_1))))))))))))))))))) rfl) ?_
        refine xg_t (xg_bip) ?_
        refine xg_t (xg_aload (va := (2, 0)) rfl rfl) ?_
        refine xg_t (xg_getf (va := (2, 1)) (hb766.get (by decide) (hF756.get (by decide) (hb747.get (by decide) (hF742.get (by decide) (hb738.get (by decide) (hb728.get (by decide) (hb725.get (by decide) (hF720.get (by decide) (hb639.get (by decide) (hb633.get (by decide) (hF459.get (by decide) (hb455.get (by decide) (hF97.get (by decide) (hF69.get (by decide) (hF60.get (by decide) (hF51.get (by decide) (hF30.get (by decide) (hF21.get (by decide) (hF12.get (by decide) h0_1))))))))))))))))))) rfl) ?_
        refine xg_cVi mX9_cracksInView (vs := []) (rest := [(0, 8), (2, 80)]) (cn1 := 0) (sl1 := 0) rfl (tdCracksInView (xInv.up (S := [80]) hI755 (xFr.of (S := [80]) hb766 (by decide)) (List.forall_mem_cons.mpr ⟨xqu80 (show cpI 11 48 4294967295 (wget w764 80) from ⟨_, hr765, xrb (by omega) (xrb (by omega) (xrb (by omega) (xrb (by omega) (xrb (by omega) (xrb (by omega) (xrb (by omega) (xrb (by omega) (hb452))))))))⟩), fun _ h => absurd h List.not_mem_nil⟩))) rfl (hb766.get (by decide) (hF756.get (by decide) (hb747.get (by decide) (hF742.get (by decide) (hb738.get (by decide) (hb728.get (by decide) (hb725.get (by decide) (hF720.get (by decide) (hb639.get (by decide) (hb633.get (by decide) (hF459.get (by decide) (hb455.get (by decide) (hF97.get (by decide) h1_82))))))))))))) rfl rfl rfl rfl rfl rfl (fun n771 w767 hq768 => ?_)
        obtain ⟨hn772, hI769, hF770⟩ := hq768
        refine xg_iastK (n := 8) (u := n771) (hr765.fr hF770 (by decide)) xnm0 xnm0 rfl (by first | decide | omega) (fun w773 hr774 hb775 => ?_)
        refine xg_t (xg_aload (va := (2, 0)) rfl rfl) ?_
        refine xg_t (xg_getf (va := (2, 80)) (hb775.get (by decide) (hF770.get (by decide) (hb766.get (by decide) (hF756.get (by decide) (hb747.get (by decide) (hF742.get (by decide) (hb738.get (by decide) (hb728.get (by decide) (hb725.get (by decide) (hF720.get (by decide) (hb639.get (by decide) (hb633.get (by decide) (hF459.get (by decide) (hb455.get (by decide) (hF97.get (by decide) (hF69.get (by decide) (hF60.get (by decide) (hF51.get (by decide) (hF30.get (by decide) (hF21.get (by decide) (hF12.get (by decide) h0_1))))))))))))))))))))) rfl) ?_
        refine xg_t (xg_bip) ?_
        refine xg_t (xg_aload (va := (2, 0)) rfl rfl) ?_
        refine xg_t (xg_getf (va := (2, 76)) (hb775.get (by decide) (hF770.get (by decide) (hb766.get (by decide) (hF756.get (by decide) (hb747.get (by decide) (hF742.get (by decide) (hb738.get (by decide) (hb728.get (by decide) (hb725.get (by decide) (hF720.get (by decide) (hb639.get (by decide) (hb633.get (by decide) (hF459.get (by decide) (hb455.get (by decide) (hF97.get (by decide) (hF69.get (by decide) (hF60.get (by decide) (hF51.get (by decide) (hF30.get (by decide) (hF21.get (by decide) (hF12.get (by decide) h0_1))))))))))))))))))))) rfl) ?_
        refine xoC76 (xqc76 hI769 : cp76 (wget w767 76)) (fun f76_776 f76_778 f76_780 f76_782 f76_784 f76_786 f76_788 f76_790 h76_792 hb777 hb779 hb781 hb783 hb785 hb787 hb789 hb791 => ?_)
        refine xg_t (xg_getf (va := (0, f76_776)) (hb775.get (by decide) h76_792) rfl) ?_
        refine xg_iastK (n := 9) (u := f76_776) hr774 xnm0 xnm0 rfl (by first | decide | omega) (fun w793 hr794 hb795 => ?_)
        refine xg_t (xg_aload (va := (2, 0)) rfl rfl) ?_
        refine xg_t (xg_getf (va := (2, 80)) (hb795.get (by decide) (hb775.get (by decide) (hF770.get (by decide) (hb766.get (by decide) (hF756.get (by decide) (hb747.get (by decide) (hF742.get (by decide) (hb738.get (by decide) (hb728.get (by decide) (hb725.get (by decide) (hF720.get (by decide) (hb639.get (by decide) (hb633.get (by decide) (hF459.get (by decide) (hb455.get (by decide) (hF97.get (by decide) (hF69.get (by decide) (hF60.get (by decide) (hF51.get (by decide) (hF30.get (by decide) (hF21.get (by decide) (hF12.get (by decide) h0_1)))))))))))))))))))))) rfl) ?_
        refine xg_t (xg_bip) ?_
        refine xg_t (xg_aload (va := (2, 0)) rfl rfl) ?_
        refine xg_t (xg_getf (va := (2, 1)) (hb795.get (by decide) (hb775.get (by decide) (hF770.get (by decide) (hb766.get (by decide) (hF756.get (by decide) (hb747.get (by decide) (hF742.get (by decide) (hb738.get (by decide) (hb728.get (by decide) (hb725.get (by decide) (hF720.get (by decide) (hb639.get (by decide) (hb633.get (by decide) (hF459.get (by decide) (hb455.get (by decide) (hF97.get (by decide) (hF69.get (by decide) (hF60.get (by decide) (hF51.get (by decide) (hF30.get (by decide) (hF21.get (by decide) (hF12.get (by decide) h0_1)))))))))))))))))))))) rfl) ?_
        refine xg_t (xg_getf (va := (0, f1_76)) (hb795.get (by decide) (hb775.get (by decide) (hF770.get (by decide) (hb766.get (by decide) (hF756.get (by decide) (hb747.get (by decide) (hF742.get (by decide) (hb738.get (by decide) (hb728.get (by decide) (hb725.get (by decide) (hF720.get (by decide) (hb639.get (by decide) (hb633.get (by decide) (hF459.get (by decide) (hb455.get (by decide) (hF97.get (by decide) h1_82)))))))))))))))) rfl) ?_
        refine xg_iastK (n := 10) (u := f1_76) hr794 xnm0 xnm0 rfl (by first | decide | omega) (fun w796 hr797 hb798 => ?_)
        exact xg_e ⟨w796, ⟨rfl, rfl⟩, xInv.up (S := [80]) hI769 (((xFr.of (S := [80]) hb775 (by decide)).tr (xFr.of (S := [80]) hb795 (by decide))).tr (xFr.of (S := [80]) hb798 (by decide))) (List.forall_mem_cons.mpr ⟨xqu80 (show cpI 11 48 4294967295 (wget w796 80) from ⟨_, hr797, xrb (by omega) (xrb (by omega) (xrb (by omega) (xrb (by omega) (xrb (by omega) (xrb (by omega) (xrb (by omega) (xrb (by omega) (xrb (by omega) (xrb (by omega) (xrb (by omega) (hb452)))))))))))⟩), fun _ h => absurd h List.not_mem_nil⟩), ((((((((((((((((((hF12.up (by decide)).tr (hF21.up (by decide))).tr (hF30.up (by decide))).tr (hF51.up (by decide))).tr (hF60.up (by decide))).tr (hF69.up (by decide))).tr (hF97.up (by decide))).tr (xFr.of (S := [50, 51, 52, 53, 54, 55, 58, 59, 60, 61, 62, 63, 64, 65, 66, 67, 68, 69, 70, 71, 72, 73, 76, 77, 80]) hb455 (by decide))).tr (hF459.up (by decide))).tr ((xFr.of (S := [50, 51, 52, 53, 54, 55, 58, 59, 60, 61, 62, 63, 64, 65, 66, 67, 68, 69, 70, 71, 72, 73, 76, 77, 80]) hb633 (by decide)).tr (xFr.of (S := [50, 51, 52, 53, 54, 55, 58, 59, 60, 61, 62, 63, 64, 65, 66, 67, 68, 69, 70, 71, 72, 73, 76, 77, 80]) hb639 (by decide)))).tr (hF720.up (by decide))).tr (((xFr.of (S := [50, 51, 52, 53, 54, 55, 58, 59, 60, 61, 62, 63, 64, 65, 66, 67, 68, 69, 70, 71, 72, 73, 76, 77, 80]) hb725 (by decide)).tr (xFr.of (S := [50, 51, 52, 53, 54, 55, 58, 59, 60, 61, 62, 63, 64, 65, 66, 67, 68, 69, 70, 71, 72, 73, 76, 77, 80]) hb728 (by decide))).tr (xFr.of (S := [50, 51, 52, 53, 54, 55, 58, 59, 60, 61, 62, 63, 64, 65, 66, 67, 68, 69, 70, 71, 72, 73, 76, 77, 80]) hb738 (by decide)))).tr (hF742.up (by decide))).tr (xFr.of (S := [50, 51, 52, 53, 54, 55, 58, 59, 60, 61, 62, 63, 64, 65, 66, 67, 68, 69, 70, 71, 72, 73, 76, 77, 80]) hb747 (by decide))).tr (hF756.up (by decide))).tr (xFr.of (S := [50, 51, 52, 53, 54, 55, 58, 59, 60, 61, 62, 63, 64, 65, 66, 67, 68, 69, 70, 71, 72, 73, 76, 77, 80]) hb766 (by decide))).tr (hF770.up (by decide))).tr (((xFr.of (S := [50, 51, 52, 53, 54, 55, 58, 59, 60, 61, 62, 63, 64, 65, 66, 67, 68, 69, 70, 71, 72, 73, 76, 77, 80]) hb775 (by decide)).tr (xFr.of (S := [50, 51, 52, 53, 54, 55, 58, 59, 60, 61, 62, 63, 64, 65, 66, 67, 68, 69, 70, 71, 72, 73, 76, 77, 80]) hb795 (by decide))).tr (xFr.of (S := [50, 51, 52, 53, 54, 55, 58, 59, 60, 61, 62, 63, 64, 65, 66, 67, 68, 69, 70, 71, 72, 73, 76, 77, 80]) hb798 (by decide))))⟩
theorem scBarred (hI : xInv w)  : xPi (d + 6) mX11_barred [(2, 0)] w bd fc rr (fun n w' => (n ≤ 4294967295) ∧ xInv w' ∧ xFr [50, 51, 52, 53, 54, 55, 58, 59, 60, 61, 62, 63, 64, 65, 66, 67, 68, 69, 70, 71, 72, 73, 76, 77, 80, 81] w w') := by
  refine xPi.of ?_
  show xTo (d + 6) mX11_barred (0, [], [(0, (2, 0))], [], (w, bd, fc, 0, 0, rr)) (fun φ => ∃ n w', xEnd 1 [(0, n)] (w', bd, fc, 0, 0, rr) φ ∧ (n ≤ 4294967295) ∧ xInv w' ∧ xFr [50, 51, 52, 53, 54, 55, 58, 59, 60, 61, 62, 63, 64, 65, 66, 67, 68, 69, 70, 71, 72, 73, 76, 77, 80, 81] w w')
  have h0_1 := (xqc0 hI : cp0 (wget w 0))
  refine xoC1 (xqc1 hI : cp1 (wget w 1)) (fun f1_2 f1_4 f1_6 f1_8 f1_10 f1_12 h1_14 hb3 hb5 hb7 hb9 hb11 hb13 => ?_)
  refine xoC3 (xqc3 hI : cp3 (wget w 3)) (fun f3_15 f3_17 f3_19 f3_21 f3_23 h3_25 hb16 hb18 hb20 hb22 hb24 => ?_)
  obtain ⟨f22_26, h22_28, hb27⟩ := (xqc22 hI : cp22 (wget w 22))
  refine xoI (xqc23 hI : cpI 32 10 4294967295 (wget w 23)) (fun g23_29 h23_30 hb31 => ?_)
  refine xg_t (xg_blq rfl) ?_
  refine xg_t (xg_aload (va := (2, 0)) rfl rfl) ?_
  refine xg_cVv mX11_measureAll (vs := []) (rest := []) (cn1 := 0) (sl1 := 0) rfl (scMeasure (hI)) rfl h0_1 rfl rfl rfl rfl rfl rfl (fun w32 hq33 => ?_)
  obtain ⟨hI34, hF35⟩ := hq33
  refine xg_t (xg_aload (va := (2, 0)) rfl rfl) ?_
  refine xg_cVv mX11_judgeLines (vs := []) (rest := []) (cn1 := 0) (sl1 := 0) rfl (scJudge (hI34)) rfl (hF35.get (by decide) h0_1) rfl rfl rfl rfl rfl rfl (fun w36 hq37 => ?_)
  obtain ⟨hI38, hF39⟩ := hq37
  refine xg_t (xg_const) ?_
  refine xg_t (xg_istore (l1 := [(0, (2, 0))]) rfl rfl rfl) ?_
  refine xg_t (xg_drop (l1 := [(0, (2, 0)), (1, (0, 0))]) (List.forall_mem_cons.mpr ⟨List.mem_cons_of_mem _ (List.mem_cons_self), List.forall_mem_cons.mpr ⟨List.mem_cons_self, fun _ h => absurd h List.not_mem_nil⟩⟩)) ?_
  have key40 : ∀ (m42 : Nat) (li : Nat) (w43 : List (List xE)), 16 - li < m42 → li ≤ 16 → xInv w43 → xFr [50, 51, 52, 53, 54, 55, 58, 59, 60, 61, 62, 63, 64, 65, 66, 67, 68, 69, 70, 71, 72, 73, 76, 77, 80, 81] w w43 → xTo (d + 6) mX11_barred (10, [], [(0, (2, 0)), (1, (0, li))], [], (w43, bd, fc, 0, 0, rr)) (fun φ => ∃ n w', xEnd 1 [(0, n)] (w', bd, fc, 0, 0, rr) φ ∧ (n ≤ 4294967295) ∧ xInv w' ∧ xFr [50, 51, 52, 53, 54, 55, 58, 59, 60, 61, 62, 63, 64, 65, 66, 67, 68, 69, 70, 71, 72, 73, 76, 77, 80, 81] w w') := by
    intro m42
    induction m42 with
    | zero => intro li w43 hz; exact absurd hz (Nat.not_lt_zero _)
    | succ m42 ih41 =>
      intro li w43 hm47 hn46 hI44 hF45
      refine xg_t (xg_blq rfl) ?_
      refine xg_t (xg_iload (va := (0, li)) rfl rfl) ?_
      refine xg_t (xg_aload (va := (2, 0)) rfl rfl) ?_
      refine xg_t (xg_getf (va := (2, 1)) (hF45.get (by decide) h0_1) rfl) ?_
      refine xg_t (xg_getf (va := (2, 22)) (hF45.get (by decide) h1_14) rfl) ?_
      refine xg_t (xg_getf (va := (0, f22_26)) (hF45.get (by decide) h22_28) rfl) ?_
      by_cases hc48 : li < f22_26
      · refine xg_t (xg_icF (u := li) (v := f22_26) rfl xnm0 xnm0 (xj_geF hc48 (by omega))) ?_
        refine xg_t (xg_aload (va := (2, 0)) rfl rfl) ?_
        refine xg_t (xg_getf (va := (2, 81)) (hF45.get (by decide) h0_1) rfl) ?_
        refine xg_t (xg_iload (va := (0, li)) rfl rfl) ?_
        obtain ⟨g81_49, h81_50, hb51⟩ := (xqc81 hI44 : cpK 2 0 16 49 1 (wget w43 81))
        have h81_50 : xRk 2 0 w43 81 16 49 g81_49 := h81_50
        refine xg_baldB (n := li) (B := 1) h81_50 rfl (hb51) xnm0 (by omega) (fun u52 hu53 he54 => ?_)
        by_cases hc55 : u52 = 0
        · refine xg_t (xg_ifT (u := u52) rfl xnm0 (xj_eqT hc55)) ?_
          refine xg_t (xg_blq rfl) ?_
          refine xg_t (xg_iinc (u := li) (z := li + 1) (l1 := [(0, (2, 0))]) rfl rfl (by omega) rfl) ?_
          refine xg_t (xg_goto) ?_
          refine xg_t (xg_drop (l1 := [(0, (2, 0)), (1, (0, li + 1))]) (List.forall_mem_cons.mpr ⟨List.mem_cons_of_mem _ (List.mem_cons_self), List.forall_mem_cons.mpr ⟨List.mem_cons_self, fun _ h => absurd h List.not_mem_nil⟩⟩)) ?_
          exact ih41 (li + 1) w43 (by omega) (by omega) (hI44) (hF45)
        · refine xg_t (xg_ifF (u := u52) rfl xnm0 (xj_eqF hc55)) ?_
          refine xg_t (xg_aload (va := (2, 0)) rfl rfl) ?_
          refine xg_t (xg_getf (va := (2, 1)) (hF45.get (by decide) h0_1) rfl) ?_
          refine xg_t (xg_getf (va := (2, 22)) (hF45.get (by decide) h1_14) rfl) ?_
          refine xg_t (xg_iload (va := (0, li)) rfl rfl) ?_
          refine xg_t (xg_const) ?_
          refine xg_k (xg_cVr mX5_get (vs := [(0, li), (0, 0)]) (rest := []) (rs := [(0, if li < f22_26 ∧ 0 < 2 then g23_29 (li * 2 + 0) else 4294967295)]) (cn1 := 0) (sl1 := 0) rfl (rget_ok (lim := 16) (wd := 2) (sz := f22_26) (hF45.get (by decide) h22_28) (h23_30.fr hF45 (by decide)) (by decide) (by omega) (by decide) (by decide) (by omega) (by omega)) rfl (hF45.get (by decide) h22_28) rfl rfl rfl rfl rfl rfl rfl) (xiteb (hb31)) (fun z56 hz57 => ?_)
          by_cases hc58 : z56 = 0
          · refine xg_t (xg_ifF (u := z56) rfl xnm0 (xj_neF hc58)) ?_
            refine xg_t (xg_iload (va := (0, li)) rfl rfl) ?_
            exact xg_e ⟨li, w43, ⟨rfl, rfl⟩, by omega, hI44, hF45⟩
          · refine xg_t (xg_ifT (u := z56) rfl xnm0 (xj_neT hc58)) ?_
            refine xg_t (xg_blq rfl) ?_
            refine xg_t (xg_iinc (u := li) (z := li + 1) (l1 := [(0, (2, 0))]) rfl rfl (by omega) rfl) ?_
            refine xg_t (xg_goto) ?_
            refine xg_t (xg_drop (l1 := [(0, (2, 0)), (1, (0, li + 1))]) (List.forall_mem_cons.mpr ⟨List.mem_cons_of_mem _ (List.mem_cons_self), List.forall_mem_cons.mpr ⟨List.mem_cons_self, fun _ h => absurd h List.not_mem_nil⟩⟩)) ?_
            exact ih41 (li + 1) w43 (by omega) (by omega) (hI44) (hF45)
      · refine xg_t (xg_icT (u := li) (v := f22_26) rfl xnm0 xnm0 (xj_geT (by omega) (by omega))) ?_
        refine xg_t (xg_blq rfl) ?_
        refine xg_t (xg_const) ?_
        exact xg_e ⟨4294967295, w43, ⟨rfl, rfl⟩, by first | decide | omega, hI44, hF45⟩
  exact key40 _ 0 w36 (Nat.lt_succ_self _) (by omega) (hI38) (((hF35.up (by decide)).tr (hF39.up (by decide))))
theorem scPrice (hI : xInv w)  : xPi (d + 6) mX11_price [(2, 0)] w bd fc rr (fun n w' => (n ≤ 4294967295) ∧ xInv w' ∧ xFr [50, 51, 52, 53, 54, 55, 58, 59, 60, 61, 62, 63, 64, 65, 66, 67, 68, 69, 70, 71, 72, 73, 76, 77, 80, 81] w w') := by
  refine xPi.of ?_
  show xTo (d + 6) mX11_price (0, [], [(0, (2, 0))], [], (w, bd, fc, 0, 0, rr)) (fun φ => ∃ n w', xEnd 1 [(0, n)] (w', bd, fc, 0, 0, rr) φ ∧ (n ≤ 4294967295) ∧ xInv w' ∧ xFr [50, 51, 52, 53, 54, 55, 58, 59, 60, 61, 62, 63, 64, 65, 66, 67, 68, 69, 70, 71, 72, 73, 76, 77, 80, 81] w w')
  have h0_1 := (xqc0 hI : cp0 (wget w 0))
  refine xoC1 (xqc1 hI : cp1 (wget w 1)) (fun f1_2 f1_4 f1_6 f1_8 f1_10 f1_12 h1_14 hb3 hb5 hb7 hb9 hb11 hb13 => ?_)
  refine xoC3 (xqc3 hI : cp3 (wget w 3)) (fun f3_15 f3_17 f3_19 f3_21 f3_23 h3_25 hb16 hb18 hb20 hb22 hb24 => ?_)
  obtain ⟨f22_26, h22_28, hb27⟩ := (xqc22 hI : cp22 (wget w 22))
  refine xoI (xqc23 hI : cpI 32 10 4294967295 (wget w 23)) (fun g23_29 h23_30 hb31 => ?_)
  refine xg_t (xg_blq rfl) ?_
  refine xg_t (xg_aload (va := (2, 0)) rfl rfl) ?_
  refine xg_cVv mX11_measureAll (vs := []) (rest := []) (cn1 := 0) (sl1 := 0) rfl (scMeasure (hI)) rfl h0_1 rfl rfl rfl rfl rfl rfl (fun w32 hq33 => ?_)
  obtain ⟨hI34, hF35⟩ := hq33
  refine xg_t (xg_aload (va := (2, 0)) rfl rfl) ?_
  refine xg_cVv mX11_judgeLines (vs := []) (rest := []) (cn1 := 0) (sl1 := 0) rfl (scJudge (hI34)) rfl (hF35.get (by decide) h0_1) rfl rfl rfl rfl rfl rfl (fun w36 hq37 => ?_)
  obtain ⟨hI38, hF39⟩ := hq37
  refine xg_t (xg_const) ?_
  refine xg_t (xg_istore (l1 := [(0, (2, 0))]) rfl rfl rfl) ?_
  refine xg_t (xg_const) ?_
  refine xg_t (xg_istore (l1 := [(1, (0, 0)), (0, (2, 0))]) rfl rfl rfl) ?_
  refine xg_t (xg_drop (l1 := [(0, (2, 0)), (1, (0, 0)), (2, (0, 0))]) (List.forall_mem_cons.mpr ⟨List.mem_cons_of_mem _ (List.mem_cons_of_mem _ (List.mem_cons_self)), List.forall_mem_cons.mpr ⟨List.mem_cons_of_mem _ (List.mem_cons_self), List.forall_mem_cons.mpr ⟨List.mem_cons_self, fun _ h => absurd h List.not_mem_nil⟩⟩⟩)) ?_
  have key40 : ∀ (m42 : Nat) (su li : Nat) (w43 : List (List xE)), 16 - li < m42 → su ≤ 4294967295 → li ≤ 16 → xInv w43 → xFr [50, 51, 52, 53, 54, 55, 58, 59, 60, 61, 62, 63, 64, 65, 66, 67, 68, 69, 70, 71, 72, 73, 76, 77, 80, 81] w w43 → xTo (d + 6) mX11_price (12, [], [(0, (2, 0)), (1, (0, su)), (2, (0, li))], [], (w43, bd, fc, 0, 0, rr)) (fun φ => ∃ n w', xEnd 1 [(0, n)] (w', bd, fc, 0, 0, rr) φ ∧ (n ≤ 4294967295) ∧ xInv w' ∧ xFr [50, 51, 52, 53, 54, 55, 58, 59, 60, 61, 62, 63, 64, 65, 66, 67, 68, 69, 70, 71, 72, 73, 76, 77, 80, 81] w w') := by
    intro m42
    induction m42 with
    | zero => intro su li w43 hz; exact absurd hz (Nat.not_lt_zero _)
    | succ m42 ih41 =>
      intro su li w43 hm48 hn46 hn47 hI44 hF45
      refine xg_t (xg_blq rfl) ?_
      refine xg_t (xg_iload (va := (0, li)) rfl rfl) ?_
      refine xg_t (xg_aload (va := (2, 0)) rfl rfl) ?_
      refine xg_t (xg_getf (va := (2, 1)) (hF45.get (by decide) h0_1) rfl) ?_
      refine xg_t (xg_getf (va := (2, 22)) (hF45.get (by decide) h1_14) rfl) ?_
      refine xg_t (xg_getf (va := (0, f22_26)) (hF45.get (by decide) h22_28) rfl) ?_
      by_cases hc49 : li < f22_26
      · refine xg_t (xg_icF (u := li) (v := f22_26) rfl xnm0 xnm0 (xj_geF hc49 (by omega))) ?_
        refine xg_t (xg_aload (va := (2, 0)) rfl rfl) ?_
        refine xg_t (xg_getf (va := (2, 81)) (hF45.get (by decide) h0_1) rfl) ?_
        refine xg_t (xg_iload (va := (0, li)) rfl rfl) ?_
        obtain ⟨g81_50, h81_51, hb52⟩ := (xqc81 hI44 : cpK 2 0 16 49 1 (wget w43 81))
        have h81_51 : xRk 2 0 w43 81 16 49 g81_50 := h81_51
        refine xg_baldB (n := li) (B := 1) h81_51 rfl (hb52) xnm0 (by omega) (fun u53 hu54 he55 => ?_)
        by_cases hc56 : u53 = 0
        · refine xg_t (xg_ifT (u := u53) rfl xnm0 (xj_eqT hc56)) ?_
          refine xg_t (xg_blq rfl) ?_
          refine xg_t (xg_iinc (u := li) (z := li + 1) (l1 := [(0, (2, 0)), (1, (0, su))]) rfl rfl (by omega) rfl) ?_
          refine xg_t (xg_goto) ?_
          refine xg_t (xg_drop (l1 := [(0, (2, 0)), (1, (0, su)), (2, (0, li + 1))]) (List.forall_mem_cons.mpr ⟨List.mem_cons_of_mem _ (List.mem_cons_self), List.forall_mem_cons.mpr ⟨List.mem_cons_of_mem _ (List.mem_cons_of_mem _ (List.mem_cons_self)), List.forall_mem_cons.mpr ⟨List.mem_cons_self, fun _ h => absurd h List.not_mem_nil⟩⟩⟩)) ?_
          exact ih41 su (li + 1) w43 (by omega) (by omega) (by omega) (hI44) (hF45)
        · refine xg_t (xg_ifF (u := u53) rfl xnm0 (xj_eqF hc56)) ?_
          refine xg_t (xg_aload (va := (2, 0)) rfl rfl) ?_
          refine xg_t (xg_getf (va := (2, 1)) (hF45.get (by decide) h0_1) rfl) ?_
          refine xg_t (xg_getf (va := (2, 22)) (hF45.get (by decide) h1_14) rfl) ?_
          refine xg_t (xg_iload (va := (0, li)) rfl rfl) ?_
          refine xg_t (xg_const) ?_
          refine xg_k (xg_cVr mX5_get (vs := [(0, li), (0, 1)]) (rest := []) (rs := [(0, if li < f22_26 ∧ 1 < 2 then g23_29 (li * 2 + 1) else 4294967295)]) (cn1 := 0) (sl1 := 0) rfl (rget_ok (lim := 16) (wd := 2) (sz := f22_26) (hF45.get (by decide) h22_28) (h23_30.fr hF45 (by decide)) (by decide) (by omega) (by decide) (by decide) (by omega) (by omega)) rfl (hF45.get (by decide) h22_28) rfl rfl rfl rfl rfl rfl rfl) (xiteb (hb31)) (fun z57 hz58 => ?_)
          refine xg_t (xg_istore (l1 := [(0, (2, 0)), (1, (0, su)), (2, (0, li))]) rfl rfl rfl) ?_
          refine xg_t (xg_iload (va := (0, su)) rfl rfl) ?_
          refine xg_t (xg_aload (va := (2, 0)) rfl rfl) ?_
          refine xg_t (xg_getf (va := (2, 1)) (hF45.get (by decide) h0_1) rfl) ?_
          refine xg_t (xg_getf (va := (2, 22)) (hF45.get (by decide) h1_14) rfl) ?_
          refine xg_t (xg_iload (va := (0, li)) rfl rfl) ?_
          refine xg_t (xg_const) ?_
          refine xg_k (xg_cVr mX5_get (vs := [(0, li), (0, 0)]) (rest := [(0, su)]) (rs := [(0, if li < f22_26 ∧ 0 < 2 then g23_29 (li * 2 + 0) else 4294967295), (0, su)]) (cn1 := 0) (sl1 := 0) rfl (rget_ok (lim := 16) (wd := 2) (sz := f22_26) (hF45.get (by decide) h22_28) (h23_30.fr hF45 (by decide)) (by decide) (by omega) (by decide) (by decide) (by omega) (by omega)) rfl (hF45.get (by decide) h22_28) rfl rfl rfl rfl rfl rfl rfl) (xiteb (hb31)) (fun z59 hz60 => ?_)
          refine xg_t (xg_const) ?_
          by_cases hc61 : z59 = 2
          · refine xg_t (xg_icF (u := z59) (v := 2) rfl xnm0 xnm0 (xj_neF hc61)) ?_
            refine xg_t (xg_iload (va := (0, z57)) rfl rfl) ?_
            refine xg_k (xg_ineg (u := z57) xnm0) (xpt_lt _) (fun z62 hz63 => ?_)
            refine xg_t (xg_goto) ?_
            refine xg_t (xg_blq rfl) ?_
            refine xg_k (xg_iadd (u := su) (v := z62) (z := (su + z62) % 4294967296) xnm0 xnm0 rfl) (Nat.mod_lt _ (by decide)) (fun z64 hz65 => ?_)
            refine xg_t (xg_istore (l1 := [(3, (0, z57)), (0, (2, 0)), (2, (0, li))]) rfl rfl rfl) ?_
            refine xg_t (xg_blq rfl) ?_
            refine xg_t (xg_iinc (u := li) (z := li + 1) (l1 := [(1, (0, z64)), (3, (0, z57)), (0, (2, 0))]) rfl rfl (by omega) rfl) ?_
            refine xg_t (xg_goto) ?_
            refine xg_t (xg_drop (l1 := [(0, (2, 0)), (1, (0, z64)), (2, (0, li + 1))]) (List.forall_mem_cons.mpr ⟨List.mem_cons_of_mem _ (List.mem_cons_of_mem _ (List.mem_cons_of_mem _ (List.mem_cons_self))), List.forall_mem_cons.mpr ⟨List.mem_cons_of_mem _ (List.mem_cons_self), List.forall_mem_cons.mpr ⟨List.mem_cons_self, fun _ h => absurd h List.not_mem_nil⟩⟩⟩)) ?_
            exact ih41 z64 (li + 1) w43 (by omega) (by omega) (by omega) (hI44) (hF45)
          · refine xg_t (xg_icT (u := z59) (v := 2) rfl xnm0 xnm0 (xj_neT hc61)) ?_
            refine xg_t (xg_blq rfl) ?_
            refine xg_t (xg_iload (va := (0, z57)) rfl rfl) ?_
            refine xg_t (xg_blq rfl) ?_
            refine xg_k (xg_iadd (u := su) (v := z57) (z := (su + z57) % 4294967296) xnm0 xnm0 rfl) (Nat.mod_lt _ (by decide)) (fun z66 hz67 => ?_)
            refine xg_t (xg_istore (l1 := [(3, (0, z57)), (0, (2, 0)), (2, (0, li))]) rfl rfl rfl) ?_
            refine xg_t (xg_blq rfl) ?_
            refine xg_t (xg_iinc (u := li) (z := li + 1) (l1 := [(1, (0, z66)), (3, (0, z57)), (0, (2, 0))]) rfl rfl (by omega) rfl) ?_
            refine xg_t (xg_goto) ?_
            refine xg_t (xg_drop (l1 := [(0, (2, 0)), (1, (0, z66)), (2, (0, li + 1))]) (List.forall_mem_cons.mpr ⟨List.mem_cons_of_mem _ (List.mem_cons_of_mem _ (List.mem_cons_of_mem _ (List.mem_cons_self))), List.forall_mem_cons.mpr ⟨List.mem_cons_of_mem _ (List.mem_cons_self), List.forall_mem_cons.mpr ⟨List.mem_cons_self, fun _ h => absurd h List.not_mem_nil⟩⟩⟩)) ?_
            exact ih41 z66 (li + 1) w43 (by omega) (by omega) (by omega) (hI44) (hF45)
      · refine xg_t (xg_icT (u := li) (v := f22_26) rfl xnm0 xnm0 (xj_geT (by omega) (by omega))) ?_
        refine xg_t (xg_blq rfl) ?_
        refine xg_t (xg_iload (va := (0, su)) rfl rfl) ?_
        refine xg_t (xg_const) ?_
        refine xg_maxK (u := su) (v := 0) xnm0 xnm0 xmx_ok (by omega) (by omega) (fun z68 hz69 hz70 hz71 hz72 => ?_)
        unfold xbs at hz70 hz71
        exact xg_e ⟨z68, w43, ⟨rfl, rfl⟩, by omega, hI44, hF45⟩
  exact key40 _ 0 0 w36 (Nat.lt_succ_self _) (by omega) (by omega) (hI38) (((hF35.up (by decide)).tr (hF39.up (by decide))))
end XSD
