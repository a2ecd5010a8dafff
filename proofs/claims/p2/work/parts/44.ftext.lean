/-! FilmText: but for words -/
section XFT
variable {d : Nat} {w : List (List xE)} {bd : List (Nat × Nat)} {fc : List (Nat × Nat × Bool)} {rr : Nat × Nat}
theorem ftLifeTold {fr : Nat} (hI : xInv w) (h1 : fr ≤ 4294967295) : xPi (d + 1) mX2_isLifeTold [(2, 27), (0, fr)] w bd fc rr (fun n w' => (n ≤ 1) ∧ xInv w' ∧ xFr [] w w') := by
  refine xPi.of ?_
  show xTo (d + 1) mX2_isLifeTold (0, [], [(0, (2, 27)), (1, (0, fr))], [], (w, bd, fc, 0, 0, rr)) (fun φ => ∃ n w', xEnd 4 [(0, n)] (w', bd, fc, 0, 0, rr) φ ∧ (n ≤ 1) ∧ xInv w' ∧ xFr [] w w')
  obtain ⟨f27_1, f27_3, f27_5, f27_7, f27_9, h27_11, hb2, hb4, hb6, hb8, hb10⟩ := (hI 27 (by decide) : cp27 (wget w 27))
  obtain ⟨f28_12, f28_14, f28_16, f28_18, f28_20, h28_22, hb13, hb15, hb17, hb19, hb21⟩ := (hI 28 (by decide) : cp28 (wget w 28))
  obtain ⟨f31_23, h31_25, hb24⟩ := (hI 31 (by decide) : cp31 (wget w 31))
  obtain ⟨g32_26, h32_27, hb28⟩ := (hI 32 (by decide) : cpI 8 14 4294967295 (wget w 32))
  have h32_27 : xRow w 32 8 14 g32_26 := h32_27
  refine xg_t (xg_blk (b := [(0, 1, 3, 0, 0, 0), (1, 1, 15, 2, 0, 0)]) rfl) ?_
  refine xg_t (xg_const) ?_
  refine xg_t (xg_istore (l1 := [(0, (2, 27)), (1, (0, fr))]) rfl rfl rfl) ?_
  refine xg_t (xg_drop (l1 := [(0, (2, 27)), (1, (0, fr)), (2, (0, 0))]) (List.forall_mem_cons.mpr ⟨List.mem_cons_of_mem _ (List.mem_cons_self), List.forall_mem_cons.mpr ⟨List.mem_cons_of_mem _ (List.mem_cons_of_mem _ (List.mem_cons_self)), List.forall_mem_cons.mpr ⟨List.mem_cons_self, fun _ h => absurd h List.not_mem_nil⟩⟩⟩)) ?_
  have key29 : ∀ (m31 : Nat) (ki : Nat) (w32 : List (List xE)), 4 - ki < m31 → ki ≤ 4 → xInv w32 → xFr [] w w32 → xTo (d + 1) mX2_isLifeTold (2, [], [(0, (2, 27)), (1, (0, fr)), (2, (0, ki))], [], (w32, bd, fc, 0, 0, rr)) (fun φ => ∃ n w', xEnd 4 [(0, n)] (w', bd, fc, 0, 0, rr) φ ∧ (n ≤ 1) ∧ xInv w' ∧ xFr [] w w') := by
    intro m31
    induction m31 with
    | zero => intro ki w32 hz; exact absurd hz (Nat.not_lt_zero _)
    | succ m31 ih30 =>
      intro ki w32 hm36 hn35 hI33 hF34
      refine xg_t (xg_blk (b := [(2, 1, 2, 2, 0, 0), (3, 1, 0, 0, 0, 0), (4, 3, 1, 2, 2, 12), (7, 3, 1, 1, 1, 182), (10, 3, 1, 5, 3, 185), (13, 3, 6, 40, 3, 0), (16, 1, 0, 0, 0, 0), (17, 3, 1, 2, 2, 12), (20, 3, 1, 1, 1, 182), (23, 1, 2, 2, 0, 0), (24, 1, 3, 0, 0, 0), (25, 3, 13, 285, 40, 188), (28, 1, 2, 1, 0, 0), (29, 3, 6, 34, 1, 0), (32, 1, 3, 1, 0, 0), (33, 1, 12, 0, 1, 0)]) rfl) ?_
      refine xg_t (xg_iload (va := (0, ki)) rfl rfl) ?_
      refine xg_t (xg_aload (va := (2, 27)) rfl rfl) ?_
      refine xg_t (xg_getf (va := (2, 28)) (hF34.get (by decide) h27_11) rfl) ?_
      refine xg_t (xg_getf (va := (2, 31)) (hF34.get (by decide) h28_22) rfl) ?_
      refine xg_t (xg_getf (va := (0, f31_23)) (hF34.get (by decide) h31_25) rfl) ?_
      by_cases hc37 : ki < f31_23
      · refine xg_t (xg_icF (u := ki) (v := f31_23) rfl xnm0 xnm0 (xj_geF hc37 (by omega))) ?_
        refine xg_t (xg_aload (va := (2, 27)) rfl rfl) ?_
        refine xg_t (xg_getf (va := (2, 28)) (hF34.get (by decide) h27_11) rfl) ?_
        refine xg_t (xg_getf (va := (2, 31)) (hF34.get (by decide) h28_22) rfl) ?_
        refine xg_t (xg_iload (va := (0, ki)) rfl rfl) ?_
        refine xg_t (xg_const) ?_
        refine xg_k (xg_cVr mX5_get (vs := [(0, ki), (0, 0)]) (rest := []) (rs := [(0, if ki < f31_23 ∧ 0 < 2 then g32_26 (ki * 2 + 0) else 4294967295)]) (cn1 := 0) (sl1 := 0) rfl (rget_ok (lim := 4) (wd := 2) (sz := f31_23) (hF34.get (by decide) h31_25) (h32_27.fr hF34 (by decide)) (by decide) (by omega) (by decide) (by decide) (by omega) (by omega)) rfl (hF34.get (by decide) h31_25) rfl rfl rfl rfl rfl rfl rfl) (xiteb (hb28)) (fun z38 hz39 => ?_)
        refine xg_t (xg_iload (va := (0, fr)) rfl rfl) ?_
        by_cases hc40 : z38 = fr
        · refine xg_t (xg_icF (u := z38) (v := fr) rfl xnm0 xnm0 (xj_neF hc40)) ?_
          refine xg_t (xg_const) ?_
          exact xg_e ⟨1, w32, ⟨rfl, rfl⟩, by omega, hI33, hF34⟩
        · refine xg_t (xg_icT (u := z38) (v := fr) rfl xnm0 xnm0 (xj_neT hc40)) ?_
          refine xg_t (xg_blk (b := [(34, 3, 9, 2, 1, 0), (37, 3, 8, 2, 0, 0)]) rfl) ?_
          refine xg_t (xg_iinc (u := ki) (z := ki + 1) (l1 := [(0, (2, 27)), (1, (0, fr))]) rfl rfl (by omega) rfl) ?_
          refine xg_t (xg_goto) ?_
          refine xg_t (xg_drop (l1 := [(0, (2, 27)), (1, (0, fr)), (2, (0, ki + 1))]) (List.forall_mem_cons.mpr ⟨List.mem_cons_of_mem _ (List.mem_cons_self), List.forall_mem_cons.mpr ⟨List.mem_cons_of_mem _ (List.mem_cons_of_mem _ (List.mem_cons_self)), List.forall_mem_cons.mpr ⟨List.mem_cons_self, fun _ h => absurd h List.not_mem_nil⟩⟩⟩)) ?_
          exact ih30 (ki + 1) w32 (by omega) (by omega) (hI33) (hF34)
      · refine xg_t (xg_icT (u := ki) (v := f31_23) rfl xnm0 xnm0 (xj_geT (by omega) (by omega))) ?_
        refine xg_t (xg_blk (b := [(40, 1, 3, 0, 0, 0), (41, 1, 12, 0, 1, 0)]) rfl) ?_
        refine xg_t (xg_const) ?_
        exact xg_e ⟨0, w32, ⟨rfl, rfl⟩, by omega, hI33, hF34⟩
  exact key29 _ 0 w (Nat.lt_succ_self _) (by omega) (hI) (xFr.rf)
theorem ftBeside (hI : xInv w)  : xPq (d + 1) mX2_findFlawBeside [(2, 27)] w bd fc rr [] (fun w' => xInv w' ∧ xFr [27] w w') := by
  refine xPq.of ?_
  show xTo (d + 1) mX2_findFlawBeside (0, [], [(0, (2, 27))], [], (w, bd, fc, 0, 0, rr)) (fun φ => ∃ w', xEnd 0 [] (w', bd, fc, 0, 0, rr) φ ∧ xInv w' ∧ xFr [27] w w')
  obtain ⟨f28_1, f28_3, f28_5, f28_7, f28_9, h28_11, hb2, hb4, hb6, hb8, hb10⟩ := (hI 28 (by decide) : cp28 (wget w 28))
  obtain ⟨f37_12, h37_14, hb13⟩ := (hI 37 (by decide) : cp37 (wget w 37))
  obtain ⟨g38_15, h38_16, hb17⟩ := (hI 38 (by decide) : cpI 40 17 4294967295 (wget w 38))
  have h38_16 : xRow w 38 40 17 g38_15 := h38_16
  refine xg_t (xg_blk (b := [(0, 1, 3, 0, 0, 0), (1, 1, 15, 1, 0, 0)]) rfl) ?_
  refine xg_t (xg_const) ?_
  refine xg_t (xg_istore (l1 := [(0, (2, 27))]) rfl rfl rfl) ?_
  refine xg_t (xg_drop (l1 := [(0, (2, 27)), (1, (0, 0))]) (List.forall_mem_cons.mpr ⟨List.mem_cons_of_mem _ (List.mem_cons_self), List.forall_mem_cons.mpr ⟨List.mem_cons_self, fun _ h => absurd h List.not_mem_nil⟩⟩)) ?_
  have key18 : ∀ (m20 : Nat) (ki : Nat) (w21 : List (List xE)), 20 - ki < m20 → ki ≤ 20 → xInv w21 → xFr [27] w w21 → xTo (d + 1) mX2_findFlawBeside (2, [], [(0, (2, 27)), (1, (0, ki))], [], (w21, bd, fc, 0, 0, rr)) (fun φ => ∃ w', xEnd 0 [] (w', bd, fc, 0, 0, rr) φ ∧ xInv w' ∧ xFr [27] w w') := by
    intro m20
    induction m20 with
    | zero => intro ki w21 hz; exact absurd hz (Nat.not_lt_zero _)
    | succ m20 ih19 =>
      intro ki w21 hm25 hn24 hI22 hF23
      refine xg_t (xg_blk (b := [(2, 1, 0, 0, 0, 0), (3, 3, 1, 2, 9, 57), (6, 3, 7, 97, 1, 0), (9, 1, 2, 1, 0, 0), (10, 1, 0, 0, 0, 0), (11, 3, 1, 2, 2, 12), (14, 3, 1, 1, 4, 211), (17, 3, 1, 5, 3, 185), (20, 3, 6, 97, 3, 0), (23, 1, 2, 1, 0, 0), (24, 1, 0, 0, 0, 0), (25, 3, 1, 2, 5, 25), (28, 1, 31, 0, 0, 0), (29, 3, 6, 97, 3, 0), (32, 1, 0, 0, 0, 0), (33, 3, 1, 2, 2, 12), (36, 3, 1, 1, 4, 211), (39, 1, 2, 1, 0, 0), (40, 1, 3, 0, 0, 0), (41, 3, 13, 285, 40, 188), (44, 1, 0, 0, 0, 0), (45, 3, 1, 2, 2, 12), (48, 3, 1, 1, 5, 192), (51, 3, 6, 76, 3, 0), (54, 1, 0, 0, 0, 0), (55, 3, 1, 2, 2, 12), (58, 3, 1, 1, 4, 211), (61, 1, 2, 1, 0, 0), (62, 1, 3, 1, 0, 0), (63, 3, 13, 285, 40, 188), (66, 1, 0, 0, 0, 0), (67, 3, 1, 2, 2, 12), (70, 3, 1, 1, 6, 195), (73, 3, 6, 91, 2, 0)]) rfl) ?_
      refine xg_t (xg_aload (va := (2, 27)) rfl rfl) ?_
      obtain ⟨f27_26, f27_28, f27_30, f27_32, f27_34, h27_36, hb27, hb29, hb31, hb33, hb35⟩ := (hI22 27 (by decide) : cp27 (wget w21 27))
      refine xg_t (xg_getf (va := (0, f27_32)) h27_36 rfl) ?_
      by_cases hc37 : f27_32 = 0
      · refine xg_t (xg_ifF (u := f27_32) rfl xnm0 (xj_neF hc37)) ?_
        refine xg_t (xg_iload (va := (0, ki)) rfl rfl) ?_
        refine xg_t (xg_aload (va := (2, 27)) rfl rfl) ?_
        refine xg_t (xg_getf (va := (2, 28)) h27_36 rfl) ?_
        refine xg_t (xg_getf (va := (2, 37)) (hF23.get (by decide) h28_11) rfl) ?_
        refine xg_t (xg_getf (va := (0, f37_12)) (hF23.get (by decide) h37_14) rfl) ?_
        by_cases hc38 : ki < f37_12
        · refine xg_t (xg_icF (u := ki) (v := f37_12) rfl xnm0 xnm0 (xj_geF hc38 (by omega))) ?_
          refine xg_t (xg_iload (va := (0, ki)) rfl rfl) ?_
          refine xg_t (xg_aload (va := (2, 27)) rfl rfl) ?_
          refine xg_t (xg_getf (va := (2, 41)) h27_36 rfl) ?_
          obtain ⟨g41_39, h41_40, hb41⟩ := (hI22 41 (by decide) : cpI 20 20 4294967295 (wget w21 41))
          have h41_40 : xRow w21 41 20 20 g41_39 := h41_40
          obtain ⟨us42, ha43, ha44⟩ := id h41_40
          refine xg_t (xg_alen ha43) ?_
          refine xg_t (xg_icF (u := ki) (v := 20) rfl xnm0 xnm0 (xj_geF (by omega) (by omega))) ?_
          refine xg_t (xg_aload (va := (2, 27)) rfl rfl) ?_
          refine xg_t (xg_getf (va := (2, 28)) h27_36 rfl) ?_
          refine xg_t (xg_getf (va := (2, 37)) (hF23.get (by decide) h28_11) rfl) ?_
          refine xg_t (xg_iload (va := (0, ki)) rfl rfl) ?_
          refine xg_t (xg_const) ?_
          refine xg_k (xg_cVr mX5_get (vs := [(0, ki), (0, 0)]) (rest := []) (rs := [(0, if ki < f37_12 ∧ 0 < 2 then g38_15 (ki * 2 + 0) else 4294967295)]) (cn1 := 0) (sl1 := 0) rfl (rget_ok (lim := 20) (wd := 2) (sz := f37_12) (hF23.get (by decide) h37_14) (h38_16.fr hF23 (by decide)) (by decide) (by omega) (by decide) (by decide) (by omega) (by omega)) rfl (hF23.get (by decide) h37_14) rfl rfl rfl rfl rfl rfl rfl) (xiteb (hb17)) (fun z45 hz46 => ?_)
          refine xg_t (xg_aload (va := (2, 27)) rfl rfl) ?_
          refine xg_t (xg_getf (va := (2, 28)) h27_36 rfl) ?_
          refine xg_t (xg_getf (va := (0, f28_1)) (hF23.get (by decide) h28_11) rfl) ?_
          by_cases hc47 : xbs z45 < xbs f28_1
          · have hc47u := hc47
            unfold xbs at hc47u
            have hn48 : f28_1 ≤ 10 := by omega
            refine xg_t (xg_icF (u := z45) (v := f28_1) rfl xnm0 xnm0 (xjs_geF hc47)) ?_
            refine xg_t (xg_aload (va := (2, 27)) rfl rfl) ?_
            refine xg_t (xg_getf (va := (2, 28)) h27_36 rfl) ?_
            refine xg_t (xg_getf (va := (2, 37)) (hF23.get (by decide) h28_11) rfl) ?_
            refine xg_t (xg_iload (va := (0, ki)) rfl rfl) ?_
            refine xg_t (xg_const) ?_
            refine xg_k (xg_cVr mX5_get (vs := [(0, ki), (0, 1)]) (rest := []) (rs := [(0, if ki < f37_12 ∧ 1 < 2 then g38_15 (ki * 2 + 1) else 4294967295)]) (cn1 := 0) (sl1 := 0) rfl (rget_ok (lim := 20) (wd := 2) (sz := f37_12) (hF23.get (by decide) h37_14) (h38_16.fr hF23 (by decide)) (by decide) (by omega) (by decide) (by decide) (by omega) (by omega)) rfl (hF23.get (by decide) h37_14) rfl rfl rfl rfl rfl rfl rfl) (xiteb (hb17)) (fun z49 hz50 => ?_)
            refine xg_t (xg_aload (va := (2, 27)) rfl rfl) ?_
            refine xg_t (xg_getf (va := (2, 28)) h27_36 rfl) ?_
            refine xg_t (xg_getf (va := (0, f28_3)) (hF23.get (by decide) h28_11) rfl) ?_
            by_cases hc51 : xbs z49 < xbs f28_3
            · have hc51u := hc51
              unfold xbs at hc51u
              have hn52 : f28_3 ≤ 10 := by omega
              refine xg_t (xg_icT (u := z49) (v := f28_3) rfl xnm0 xnm0 (xjs_ltT hc51)) ?_
              refine xg_t (xg_blk (b := [(91, 3, 9, 1, 1, 0), (94, 3, 8, 2, 0, 0)]) rfl) ?_
              refine xg_t (xg_iinc (u := ki) (z := ki + 1) (l1 := [(0, (2, 27))]) rfl rfl (by omega) rfl) ?_
              refine xg_t (xg_goto) ?_
              refine xg_t (xg_drop (l1 := [(0, (2, 27)), (1, (0, ki + 1))]) (List.forall_mem_cons.mpr ⟨List.mem_cons_of_mem _ (List.mem_cons_self), List.forall_mem_cons.mpr ⟨List.mem_cons_self, fun _ h => absurd h List.not_mem_nil⟩⟩)) ?_
              exact ih19 (ki + 1) w21 (by omega) (by omega) (hI22) (hF23)
            · have hc51u := hc51
              unfold xbs at hc51u
              have hn53 : z49 ≤ 2147483647 := by omega
              have hn54 : f28_3 ≤ 10 := by omega
              refine xg_t (xg_icF (u := z49) (v := f28_3) rfl xnm0 xnm0 (xjs_ltF hc51)) ?_
              refine xg_t (xg_blk (b := [(76, 1, 0, 0, 0, 0), (77, 1, 3, 4, 0, 0), (78, 3, 14, 2, 9, 57), (81, 1, 0, 0, 0, 0), (82, 1, 0, 0, 0, 0), (83, 3, 1, 2, 5, 25), (86, 1, 2, 1, 0, 0), (87, 1, 10, 0, 0, 0), (88, 3, 14, 2, 10, 88)]) rfl) ?_
              refine xg_t (xg_aload (va := (2, 27)) rfl rfl) ?_
              refine xg_t (xg_const) ?_
              refine xg_putI (fl1 := [(2, 1), (2, 42), (2, 28), (2, 39), (2, 40), (2, 41), (0, f27_26), (0, f27_28), (0, f27_30), (0, 4), (0, f27_34)]) h27_36 rfl rfl rfl (fun w55 hk56 hb57 => ?_)
              refine xg_t (xg_aload (va := (2, 27)) rfl rfl) ?_
              refine xg_t (xg_aload (va := (2, 27)) rfl rfl) ?_
              refine xg_t (xg_getf (va := (2, 41)) hk56 rfl) ?_
              refine xg_t (xg_iload (va := (0, ki)) rfl rfl) ?_
              refine xg_ialdB (n := ki) (B := 4294967295) (h41_40.but hb57 (by decide)) (hb41) xnm0 (by omega) (fun u58 hu59 he60 => ?_)
              refine xg_putI (fl1 := [(2, 1), (2, 42), (2, 28), (2, 39), (2, 40), (2, 41), (0, f27_26), (0, f27_28), (0, f27_30), (0, 4), (0, u58)]) hk56 rfl rfl rfl (fun w61 hk62 hb63 => ?_)
              refine xg_t (xg_blk (b := [(91, 3, 9, 1, 1, 0), (94, 3, 8, 2, 0, 0)]) rfl) ?_
              refine xg_t (xg_iinc (u := ki) (z := ki + 1) (l1 := [(0, (2, 27))]) rfl rfl (by omega) rfl) ?_
              refine xg_t (xg_goto) ?_
              refine xg_t (xg_drop (l1 := [(0, (2, 27)), (1, (0, ki + 1))]) (List.forall_mem_cons.mpr ⟨List.mem_cons_of_mem _ (List.mem_cons_self), List.forall_mem_cons.mpr ⟨List.mem_cons_self, fun _ h => absurd h List.not_mem_nil⟩⟩)) ?_
              exact ih19 (ki + 1) w61 (by omega) (by omega) (xInv.up (S := [27]) hI22 ((xFr.of (S := [27]) hb57 (by decide)).tr (xFr.of (S := [27]) hb63 (by decide))) (List.forall_mem_cons.mpr ⟨(show cp27 (wget w61 27) from ⟨f27_26, f27_28, f27_30, 4, u58, hk62, by omega, by omega, by omega, by omega, by omega⟩), fun _ h => absurd h List.not_mem_nil⟩)) ((hF23.tr ((xFr.of (S := [27]) hb57 (by decide)).tr (xFr.of (S := [27]) hb63 (by decide)))))
          · have hc47u := hc47
            unfold xbs at hc47u
            have hn64 : z45 ≤ 2147483647 := by omega
            have hn65 : f28_1 ≤ 10 := by omega
            refine xg_t (xg_icT (u := z45) (v := f28_1) rfl xnm0 xnm0 (xjs_geT hc47)) ?_
            refine xg_t (xg_blk (b := [(76, 1, 0, 0, 0, 0), (77, 1, 3, 4, 0, 0), (78, 3, 14, 2, 9, 57), (81, 1, 0, 0, 0, 0), (82, 1, 0, 0, 0, 0), (83, 3, 1, 2, 5, 25), (86, 1, 2, 1, 0, 0), (87, 1, 10, 0, 0, 0), (88, 3, 14, 2, 10, 88)]) rfl) ?_
            refine xg_t (xg_aload (va := (2, 27)) rfl rfl) ?_
            refine xg_t (xg_const) ?_
            refine xg_putI (fl1 := [(2, 1), (2, 42), (2, 28), (2, 39), (2, 40), (2, 41), (0, f27_26), (0, f27_28), (0, f27_30), (0, 4), (0, f27_34)]) h27_36 rfl rfl rfl (fun w66 hk67 hb68 => ?_)
            refine xg_t (xg_aload (va := (2, 27)) rfl rfl) ?_
            refine xg_t (xg_aload (va := (2, 27)) rfl rfl) ?_
            refine xg_t (xg_getf (va := (2, 41)) hk67 rfl) ?_
            refine xg_t (xg_iload (va := (0, ki)) rfl rfl) ?_
            refine xg_ialdB (n := ki) (B := 4294967295) (h41_40.but hb68 (by decide)) (hb41) xnm0 (by omega) (fun u69 hu70 he71 => ?_)
            refine xg_putI (fl1 := [(2, 1), (2, 42), (2, 28), (2, 39), (2, 40), (2, 41), (0, f27_26), (0, f27_28), (0, f27_30), (0, 4), (0, u69)]) hk67 rfl rfl rfl (fun w72 hk73 hb74 => ?_)
            refine xg_t (xg_blk (b := [(91, 3, 9, 1, 1, 0), (94, 3, 8, 2, 0, 0)]) rfl) ?_
            refine xg_t (xg_iinc (u := ki) (z := ki + 1) (l1 := [(0, (2, 27))]) rfl rfl (by omega) rfl) ?_
            refine xg_t (xg_goto) ?_
            refine xg_t (xg_drop (l1 := [(0, (2, 27)), (1, (0, ki + 1))]) (List.forall_mem_cons.mpr ⟨List.mem_cons_of_mem _ (List.mem_cons_self), List.forall_mem_cons.mpr ⟨List.mem_cons_self, fun _ h => absurd h List.not_mem_nil⟩⟩)) ?_
            exact ih19 (ki + 1) w72 (by omega) (by omega) (xInv.up (S := [27]) hI22 ((xFr.of (S := [27]) hb68 (by decide)).tr (xFr.of (S := [27]) hb74 (by decide))) (List.forall_mem_cons.mpr ⟨(show cp27 (wget w72 27) from ⟨f27_26, f27_28, f27_30, 4, u69, hk73, by omega, by omega, by omega, by omega, by omega⟩), fun _ h => absurd h List.not_mem_nil⟩)) ((hF23.tr ((xFr.of (S := [27]) hb68 (by decide)).tr (xFr.of (S := [27]) hb74 (by decide)))))
        · refine xg_t (xg_icT (u := ki) (v := f37_12) rfl xnm0 xnm0 (xj_geT (by omega) (by omega))) ?_
          refine xg_t (xg_blk (b := [(97, 1, 12, 0, 0, 0)]) rfl) ?_
          exact xg_e ⟨w21, ⟨rfl, rfl⟩, hI22, hF23⟩
      · refine xg_t (xg_ifT (u := f27_32) rfl xnm0 (xj_neT hc37)) ?_
        refine xg_t (xg_blk (b := [(97, 1, 12, 0, 0, 0)]) rfl) ?_
        exact xg_e ⟨w21, ⟨rfl, rfl⟩, hI22, hF23⟩
  exact key18 _ 0 w (Nat.lt_succ_self _) (by omega) (hI) (xFr.rf)
theorem ftTooMany {so : Nat} (hI : xInv w) (h1 : so ≤ 4294967295) : xPi (d + 2) mX2_isTooMany [(2, 27), (0, so)] w bd fc rr (fun n w' => (n ≤ 1) ∧ xInv w' ∧ xFr [] w w') := by
  refine xPi.of ?_
  show xTo (d + 2) mX2_isTooMany (0, [], [(0, (2, 27)), (1, (0, so))], [], (w, bd, fc, 0, 0, rr)) (fun φ => ∃ n w', xEnd 4 [(0, n)] (w', bd, fc, 0, 0, rr) φ ∧ (n ≤ 1) ∧ xInv w' ∧ xFr [] w w')
  obtain ⟨f27_1, f27_3, f27_5, f27_7, f27_9, h27_11, hb2, hb4, hb6, hb8, hb10⟩ := (hI 27 (by decide) : cp27 (wget w 27))
  obtain ⟨g39_12, h39_13, hb14⟩ := (hI 39 (by decide) : cpI 3 18 4294967295 (wget w 39))
  have h39_13 : xRow w 39 3 18 g39_12 := h39_13
  refine xg_t (xg_blk (b := [(0, 1, 2, 1, 0, 0), (1, 1, 3, 5, 0, 0), (2, 3, 6, 10, 1, 0), (5, 1, 0, 0, 0, 0), (6, 3, 1, 2, 7, 50), (9, 1, 12, 0, 1, 0)]) rfl) ?_
  refine xg_t (xg_iload (va := (0, so)) rfl rfl) ?_
  refine xg_t (xg_const) ?_
  by_cases hc15 : so = 5
  · refine xg_t (xg_icF (u := so) (v := 5) rfl xnm0 xnm0 (xj_neF hc15)) ?_
    refine xg_t (xg_aload (va := (2, 27)) rfl rfl) ?_
    refine xg_t (xg_getf (va := (0, f27_3)) h27_11 rfl) ?_
    exact xg_e ⟨f27_3, w, ⟨xret_b (by omega), rfl⟩, by omega, hI, xFr.rf⟩
  · refine xg_t (xg_icT (u := so) (v := 5) rfl xnm0 xnm0 (xj_neT hc15)) ?_
    refine xg_t (xg_blk (b := [(10, 1, 2, 1, 0, 0), (11, 2, 4, 6, 0, 0), (13, 3, 6, 21, 1, 0), (16, 1, 0, 0, 0, 0), (17, 3, 1, 2, 8, 54), (20, 1, 12, 0, 1, 0)]) rfl) ?_
    refine xg_t (xg_iload (va := (0, so)) rfl rfl) ?_
    refine xg_t (xg_bip) ?_
    by_cases hc16 : so = 6
    · refine xg_t (xg_icF (u := so) (v := 6) rfl xnm0 xnm0 (xj_neF hc16)) ?_
      refine xg_t (xg_aload (va := (2, 27)) rfl rfl) ?_
      refine xg_t (xg_getf (va := (0, f27_5)) h27_11 rfl) ?_
      exact xg_e ⟨f27_5, w, ⟨xret_b (by omega), rfl⟩, by omega, hI, xFr.rf⟩
    · refine xg_t (xg_icT (u := so) (v := 6) rfl xnm0 xnm0 (xj_neT hc16)) ?_
      refine xg_t (xg_blk (b := [(21, 1, 0, 0, 0, 0), (22, 3, 1, 2, 2, 12), (25, 1, 2, 1, 0, 0), (26, 3, 13, 243, 8, 172), (29, 1, 27, 2, 0, 0), (30, 1, 0, 2, 0, 0), (31, 3, 43, 59, 0, 0), (34, 1, 0, 2, 0, 0), (35, 3, 13, 289, 40, 176), (38, 3, 7, 59, 1, 0), (41, 1, 2, 1, 0, 0), (42, 1, 3, 1, 0, 0), (43, 3, 6, 63, 1, 0), (46, 1, 0, 0, 0, 0), (47, 1, 0, 0, 0, 0), (48, 3, 1, 2, 3, 18), (51, 1, 3, 0, 0, 0), (52, 1, 10, 0, 0, 0), (53, 3, 13, 248, 16, 179), (56, 3, 7, 63, 0, 0)]) rfl) ?_
      refine xg_t (xg_aload (va := (2, 27)) rfl rfl) ?_
      refine xg_t (xg_getf (va := (2, 28)) h27_11 rfl) ?_
      refine xg_t (xg_iload (va := (0, so)) rfl rfl) ?_
      obtain ⟨v17, hv18, hp19⟩ := rowsOf28 (d := d + 1) (bd := bd) (fc := fc) (rr := rr) (so := so) (hI) (by omega)
      rcases hv18 with rfl | rfl | rfl | rfl | rfl | rfl
      · obtain ⟨f28_20, f28_22, f28_24, f28_26, f28_28, h28_30, hb21, hb23, hb25, hb27, hb29⟩ := (hI 28 (by decide) : cp28 (wget w 28))
        refine xg_t (xg_cVr mX1_rowsOf (vs := [(0, so)]) (rest := []) (rs := [(2, 29)]) (cn1 := 0) (sl1 := 0) rfl (hp19) rfl h28_30 rfl rfl rfl rfl rfl rfl rfl) ?_
        refine xg_t (xg_astore (l1 := [(0, (2, 27)), (1, (0, so))]) rfl rfl rfl) ?_
        refine xg_t (xg_aload (va := (2, 29)) rfl rfl) ?_
        refine xg_t (xg_ifnullF) ?_
        refine xg_t (xg_aload (va := (2, 29)) rfl rfl) ?_
        obtain ⟨f29_31, h29_33, hb32⟩ := (hI 29 (by decide) : cp29 (wget w 29))
        refine xg_t (xg_cVr mX5_isFull (vs := []) (rest := []) (rs := [(0, if 6 ≤ f29_31 then 1 else 0)]) (cn1 := 0) (sl1 := 0) rfl (rfull_ok h29_33 (by decide) (by omega)) rfl h29_33 rfl rfl rfl rfl rfl rfl rfl) ?_
        by_cases hc34 : 6 ≤ f29_31
        · refine xg_t (xg_ifT (u := (if 6 ≤ f29_31 then 1 else 0)) rfl xnm0 (xj_neT (xite1 hc34))) ?_
          refine xg_t (xg_blk (b := [(59, 1, 3, 1, 0, 0), (60, 3, 8, 64, 0, 0)]) rfl) ?_
          refine xg_t (xg_const) ?_
          refine xg_t (xg_goto) ?_
          refine xg_t (xg_blk (b := [(64, 1, 12, 0, 1, 0)]) rfl) ?_
          exact xg_e ⟨1, w, ⟨rfl, rfl⟩, by omega, hI, xFr.rf⟩
        · refine xg_t (xg_ifF (u := (if 6 ≤ f29_31 then 1 else 0)) rfl xnm0 (xj_neF (xite0 hc34))) ?_
          refine xg_t (xg_iload (va := (0, so)) rfl rfl) ?_
          refine xg_t (xg_const) ?_
          by_cases hc35 : so = 1
          · refine xg_t (xg_icF (u := so) (v := 1) rfl xnm0 xnm0 (xj_neF hc35)) ?_
            refine xg_t (xg_aload (va := (2, 27)) rfl rfl) ?_
            refine xg_t (xg_aload (va := (2, 27)) rfl rfl) ?_
            refine xg_t (xg_getf (va := (2, 39)) h27_11 rfl) ?_
            refine xg_t (xg_const) ?_
            refine xg_ialdB (n := 0) (B := 4294967295) h39_13 (hb14) xnm0 (by omega) (fun u36 hu37 he38 => ?_)
            refine xg_cVi mX2_isLifeTold (vs := [(0, u36)]) (rest := []) (cn1 := 0) (sl1 := 0) rfl (ftLifeTold (hI) (by omega)) rfl h27_11 rfl rfl rfl rfl rfl rfl (fun n43 w39 hq40 => ?_)
            obtain ⟨hn44, hI41, hF42⟩ := hq40
            by_cases hc45 : n43 = 0
            · refine xg_t (xg_ifT (u := n43) rfl xnm0 (xj_eqT hc45)) ?_
              refine xg_t (xg_blk (b := [(63, 1, 3, 0, 0, 0)]) rfl) ?_
              refine xg_t (xg_const) ?_
              refine xg_t (xg_blk (b := [(64, 1, 12, 0, 1, 0)]) rfl) ?_
              exact xg_e ⟨0, w39, ⟨rfl, rfl⟩, by omega, hI41, (hF42.up (by decide))⟩
            · refine xg_t (xg_ifF (u := n43) rfl xnm0 (xj_eqF hc45)) ?_
              refine xg_t (xg_blk (b := [(59, 1, 3, 1, 0, 0), (60, 3, 8, 64, 0, 0)]) rfl) ?_
              refine xg_t (xg_const) ?_
              refine xg_t (xg_goto) ?_
              refine xg_t (xg_blk (b := [(64, 1, 12, 0, 1, 0)]) rfl) ?_
              exact xg_e ⟨1, w39, ⟨rfl, rfl⟩, by omega, hI41, (hF42.up (by decide))⟩
          · refine xg_t (xg_icT (u := so) (v := 1) rfl xnm0 xnm0 (xj_neT hc35)) ?_
            refine xg_t (xg_blk (b := [(63, 1, 3, 0, 0, 0)]) rfl) ?_
            refine xg_t (xg_const) ?_
            refine xg_t (xg_blk (b := [(64, 1, 12, 0, 1, 0)]) rfl) ?_
            exact xg_e ⟨0, w, ⟨rfl, rfl⟩, by omega, hI, xFr.rf⟩
      · obtain ⟨f28_46, f28_48, f28_50, f28_52, f28_54, h28_56, hb47, hb49, hb51, hb53, hb55⟩ := (hI 28 (by decide) : cp28 (wget w 28))
        refine xg_t (xg_cVr mX1_rowsOf (vs := [(0, so)]) (rest := []) (rs := [(2, 31)]) (cn1 := 0) (sl1 := 0) rfl (hp19) rfl h28_56 rfl rfl rfl rfl rfl rfl rfl) ?_
        refine xg_t (xg_astore (l1 := [(0, (2, 27)), (1, (0, so))]) rfl rfl rfl) ?_
        refine xg_t (xg_aload (va := (2, 31)) rfl rfl) ?_
        refine xg_t (xg_ifnullF) ?_
        refine xg_t (xg_aload (va := (2, 31)) rfl rfl) ?_
        obtain ⟨f31_57, h31_59, hb58⟩ := (hI 31 (by decide) : cp31 (wget w 31))
        refine xg_t (xg_cVr mX5_isFull (vs := []) (rest := []) (rs := [(0, if 4 ≤ f31_57 then 1 else 0)]) (cn1 := 0) (sl1 := 0) rfl (rfull_ok h31_59 (by decide) (by omega)) rfl h31_59 rfl rfl rfl rfl rfl rfl rfl) ?_
        by_cases hc60 : 4 ≤ f31_57
        · refine xg_t (xg_ifT (u := (if 4 ≤ f31_57 then 1 else 0)) rfl xnm0 (xj_neT (xite1 hc60))) ?_
          refine xg_t (xg_blk (b := [(59, 1, 3, 1, 0, 0), (60, 3, 8, 64, 0, 0)]) rfl) ?_
          refine xg_t (xg_const) ?_
          refine xg_t (xg_goto) ?_
          refine xg_t (xg_blk (b := [(64, 1, 12, 0, 1, 0)]) rfl) ?_
          exact xg_e ⟨1, w, ⟨rfl, rfl⟩, by omega, hI, xFr.rf⟩
        · refine xg_t (xg_ifF (u := (if 4 ≤ f31_57 then 1 else 0)) rfl xnm0 (xj_neF (xite0 hc60))) ?_
          refine xg_t (xg_iload (va := (0, so)) rfl rfl) ?_
          refine xg_t (xg_const) ?_
          by_cases hc61 : so = 1
          · refine xg_t (xg_icF (u := so) (v := 1) rfl xnm0 xnm0 (xj_neF hc61)) ?_
            refine xg_t (xg_aload (va := (2, 27)) rfl rfl) ?_
            refine xg_t (xg_aload (va := (2, 27)) rfl rfl) ?_
            refine xg_t (xg_getf (va := (2, 39)) h27_11 rfl) ?_
            refine xg_t (xg_const) ?_
            refine xg_ialdB (n := 0) (B := 4294967295) h39_13 (hb14) xnm0 (by omega) (fun u62 hu63 he64 => ?_)
            refine xg_cVi mX2_isLifeTold (vs := [(0, u62)]) (rest := []) (cn1 := 0) (sl1 := 0) rfl (ftLifeTold (hI) (by omega)) rfl h27_11 rfl rfl rfl rfl rfl rfl (fun n69 w65 hq66 => ?_)
            obtain ⟨hn70, hI67, hF68⟩ := hq66
            by_cases hc71 : n69 = 0
            · refine xg_t (xg_ifT (u := n69) rfl xnm0 (xj_eqT hc71)) ?_
              refine xg_t (xg_blk (b := [(63, 1, 3, 0, 0, 0)]) rfl) ?_
              refine xg_t (xg_const) ?_
              refine xg_t (xg_blk (b := [(64, 1, 12, 0, 1, 0)]) rfl) ?_
              exact xg_e ⟨0, w65, ⟨rfl, rfl⟩, by omega, hI67, (hF68.up (by decide))⟩
            · refine xg_t (xg_ifF (u := n69) rfl xnm0 (xj_eqF hc71)) ?_
              refine xg_t (xg_blk (b := [(59, 1, 3, 1, 0, 0), (60, 3, 8, 64, 0, 0)]) rfl) ?_
              refine xg_t (xg_const) ?_
              refine xg_t (xg_goto) ?_
              refine xg_t (xg_blk (b := [(64, 1, 12, 0, 1, 0)]) rfl) ?_
              exact xg_e ⟨1, w65, ⟨rfl, rfl⟩, by omega, hI67, (hF68.up (by decide))⟩
          · refine xg_t (xg_icT (u := so) (v := 1) rfl xnm0 xnm0 (xj_neT hc61)) ?_
            refine xg_t (xg_blk (b := [(63, 1, 3, 0, 0, 0)]) rfl) ?_
            refine xg_t (xg_const) ?_
            refine xg_t (xg_blk (b := [(64, 1, 12, 0, 1, 0)]) rfl) ?_
            exact xg_e ⟨0, w, ⟨rfl, rfl⟩, by omega, hI, xFr.rf⟩
      · obtain ⟨f28_72, f28_74, f28_76, f28_78, f28_80, h28_82, hb73, hb75, hb77, hb79, hb81⟩ := (hI 28 (by decide) : cp28 (wget w 28))
        refine xg_t (xg_cVr mX1_rowsOf (vs := [(0, so)]) (rest := []) (rs := [(2, 33)]) (cn1 := 0) (sl1 := 0) rfl (hp19) rfl h28_82 rfl rfl rfl rfl rfl rfl rfl) ?_
        refine xg_t (xg_astore (l1 := [(0, (2, 27)), (1, (0, so))]) rfl rfl rfl) ?_
        refine xg_t (xg_aload (va := (2, 33)) rfl rfl) ?_
        refine xg_t (xg_ifnullF) ?_
        refine xg_t (xg_aload (va := (2, 33)) rfl rfl) ?_
        obtain ⟨f33_83, h33_85, hb84⟩ := (hI 33 (by decide) : cp33 (wget w 33))
        refine xg_t (xg_cVr mX5_isFull (vs := []) (rest := []) (rs := [(0, if 6 ≤ f33_83 then 1 else 0)]) (cn1 := 0) (sl1 := 0) rfl (rfull_ok h33_85 (by decide) (by omega)) rfl h33_85 rfl rfl rfl rfl rfl rfl rfl) ?_
        by_cases hc86 : 6 ≤ f33_83
        · refine xg_t (xg_ifT (u := (if 6 ≤ f33_83 then 1 else 0)) rfl xnm0 (xj_neT (xite1 hc86))) ?_
          refine xg_t (xg_blk (b := [(59, 1, 3, 1, 0, 0), (60, 3, 8, 64, 0, 0)]) rfl) ?_
          refine xg_t (xg_const) ?_
          refine xg_t (xg_goto) ?_
          refine xg_t (xg_blk (b := [(64, 1, 12, 0, 1, 0)]) rfl) ?_
          exact xg_e ⟨1, w, ⟨rfl, rfl⟩, by omega, hI, xFr.rf⟩
        · refine xg_t (xg_ifF (u := (if 6 ≤ f33_83 then 1 else 0)) rfl xnm0 (xj_neF (xite0 hc86))) ?_
          refine xg_t (xg_iload (va := (0, so)) rfl rfl) ?_
          refine xg_t (xg_const) ?_
          by_cases hc87 : so = 1
          · refine xg_t (xg_icF (u := so) (v := 1) rfl xnm0 xnm0 (xj_neF hc87)) ?_
            refine xg_t (xg_aload (va := (2, 27)) rfl rfl) ?_
            refine xg_t (xg_aload (va := (2, 27)) rfl rfl) ?_
            refine xg_t (xg_getf (va := (2, 39)) h27_11 rfl) ?_
            refine xg_t (xg_const) ?_
            refine xg_ialdB (n := 0) (B := 4294967295) h39_13 (hb14) xnm0 (by omega) (fun u88 hu89 he90 => ?_)
            refine xg_cVi mX2_isLifeTold (vs := [(0, u88)]) (rest := []) (cn1 := 0) (sl1 := 0) rfl (ftLifeTold (hI) (by omega)) rfl h27_11 rfl rfl rfl rfl rfl rfl (fun n95 w91 hq92 => ?_)
            obtain ⟨hn96, hI93, hF94⟩ := hq92
            by_cases hc97 : n95 = 0
            · refine xg_t (xg_ifT (u := n95) rfl xnm0 (xj_eqT hc97)) ?_
              refine xg_t (xg_blk (b := [(63, 1, 3, 0, 0, 0)]) rfl) ?_
              refine xg_t (xg_const) ?_
              refine xg_t (xg_blk (b := [(64, 1, 12, 0, 1, 0)]) rfl) ?_
              exact xg_e ⟨0, w91, ⟨rfl, rfl⟩, by omega, hI93, (hF94.up (by decide))⟩
            · refine xg_t (xg_ifF (u := n95) rfl xnm0 (xj_eqF hc97)) ?_
              refine xg_t (xg_blk (b := [(59, 1, 3, 1, 0, 0), (60, 3, 8, 64, 0, 0)]) rfl) ?_
              refine xg_t (xg_const) ?_
              refine xg_t (xg_goto) ?_
              refine xg_t (xg_blk (b := [(64, 1, 12, 0, 1, 0)]) rfl) ?_
              exact xg_e ⟨1, w91, ⟨rfl, rfl⟩, by omega, hI93, (hF94.up (by decide))⟩
          · refine xg_t (xg_icT (u := so) (v := 1) rfl xnm0 xnm0 (xj_neT hc87)) ?_
            refine xg_t (xg_blk (b := [(63, 1, 3, 0, 0, 0)]) rfl) ?_
            refine xg_t (xg_const) ?_
            refine xg_t (xg_blk (b := [(64, 1, 12, 0, 1, 0)]) rfl) ?_
            exact xg_e ⟨0, w, ⟨rfl, rfl⟩, by omega, hI, xFr.rf⟩
      · obtain ⟨f28_98, f28_100, f28_102, f28_104, f28_106, h28_108, hb99, hb101, hb103, hb105, hb107⟩ := (hI 28 (by decide) : cp28 (wget w 28))
        refine xg_t (xg_cVr mX1_rowsOf (vs := [(0, so)]) (rest := []) (rs := [(2, 35)]) (cn1 := 0) (sl1 := 0) rfl (hp19) rfl h28_108 rfl rfl rfl rfl rfl rfl rfl) ?_
        refine xg_t (xg_astore (l1 := [(0, (2, 27)), (1, (0, so))]) rfl rfl rfl) ?_
        refine xg_t (xg_aload (va := (2, 35)) rfl rfl) ?_
        refine xg_t (xg_ifnullF) ?_
        refine xg_t (xg_aload (va := (2, 35)) rfl rfl) ?_
        obtain ⟨f35_109, h35_111, hb110⟩ := (hI 35 (by decide) : cp35 (wget w 35))
        refine xg_t (xg_cVr mX5_isFull (vs := []) (rest := []) (rs := [(0, if 4 ≤ f35_109 then 1 else 0)]) (cn1 := 0) (sl1 := 0) rfl (rfull_ok h35_111 (by decide) (by omega)) rfl h35_111 rfl rfl rfl rfl rfl rfl rfl) ?_
        by_cases hc112 : 4 ≤ f35_109
        · refine xg_t (xg_ifT (u := (if 4 ≤ f35_109 then 1 else 0)) rfl xnm0 (xj_neT (xite1 hc112))) ?_
          refine xg_t (xg_blk (b := [(59, 1, 3, 1, 0, 0), (60, 3, 8, 64, 0, 0)]) rfl) ?_
          refine xg_t (xg_const) ?_
          refine xg_t (xg_goto) ?_
          refine xg_t (xg_blk (b := [(64, 1, 12, 0, 1, 0)]) rfl) ?_
          exact xg_e ⟨1, w, ⟨rfl, rfl⟩, by omega, hI, xFr.rf⟩
        · refine xg_t (xg_ifF (u := (if 4 ≤ f35_109 then 1 else 0)) rfl xnm0 (xj_neF (xite0 hc112))) ?_
          refine xg_t (xg_iload (va := (0, so)) rfl rfl) ?_
          refine xg_t (xg_const) ?_
          by_cases hc113 : so = 1
          · refine xg_t (xg_icF (u := so) (v := 1) rfl xnm0 xnm0 (xj_neF hc113)) ?_
            refine xg_t (xg_aload (va := (2, 27)) rfl rfl) ?_
            refine xg_t (xg_aload (va := (2, 27)) rfl rfl) ?_
            refine xg_t (xg_getf (va := (2, 39)) h27_11 rfl) ?_
            refine xg_t (xg_const) ?_
            refine xg_ialdB (n := 0) (B := 4294967295) h39_13 (hb14) xnm0 (by omega) (fun u114 hu115 he116 => ?_)
            refine xg_cVi mX2_isLifeTold (vs := [(0, u114)]) (rest := []) (cn1 := 0) (sl1 := 0) rfl (ftLifeTold (hI) (by omega)) rfl h27_11 rfl rfl rfl rfl rfl rfl (fun n121 w117 hq118 => ?_)
            obtain ⟨hn122, hI119, hF120⟩ := hq118
            by_cases hc123 : n121 = 0
            · refine xg_t (xg_ifT (u := n121) rfl xnm0 (xj_eqT hc123)) ?_
              refine xg_t (xg_blk (b := [(63, 1, 3, 0, 0, 0)]) rfl) ?_
              refine xg_t (xg_const) ?_
              refine xg_t (xg_blk (b := [(64, 1, 12, 0, 1, 0)]) rfl) ?_
              exact xg_e ⟨0, w117, ⟨rfl, rfl⟩, by omega, hI119, (hF120.up (by decide))⟩
            · refine xg_t (xg_ifF (u := n121) rfl xnm0 (xj_eqF hc123)) ?_
              refine xg_t (xg_blk (b := [(59, 1, 3, 1, 0, 0), (60, 3, 8, 64, 0, 0)]) rfl) ?_
              refine xg_t (xg_const) ?_
              refine xg_t (xg_goto) ?_
              refine xg_t (xg_blk (b := [(64, 1, 12, 0, 1, 0)]) rfl) ?_
              exact xg_e ⟨1, w117, ⟨rfl, rfl⟩, by omega, hI119, (hF120.up (by decide))⟩
          · refine xg_t (xg_icT (u := so) (v := 1) rfl xnm0 xnm0 (xj_neT hc113)) ?_
            refine xg_t (xg_blk (b := [(63, 1, 3, 0, 0, 0)]) rfl) ?_
            refine xg_t (xg_const) ?_
            refine xg_t (xg_blk (b := [(64, 1, 12, 0, 1, 0)]) rfl) ?_
            exact xg_e ⟨0, w, ⟨rfl, rfl⟩, by omega, hI, xFr.rf⟩
      · obtain ⟨f28_124, f28_126, f28_128, f28_130, f28_132, h28_134, hb125, hb127, hb129, hb131, hb133⟩ := (hI 28 (by decide) : cp28 (wget w 28))
        refine xg_t (xg_cVr mX1_rowsOf (vs := [(0, so)]) (rest := []) (rs := [(2, 37)]) (cn1 := 0) (sl1 := 0) rfl (hp19) rfl h28_134 rfl rfl rfl rfl rfl rfl rfl) ?_
        refine xg_t (xg_astore (l1 := [(0, (2, 27)), (1, (0, so))]) rfl rfl rfl) ?_
        refine xg_t (xg_aload (va := (2, 37)) rfl rfl) ?_
        refine xg_t (xg_ifnullF) ?_
        refine xg_t (xg_aload (va := (2, 37)) rfl rfl) ?_
        obtain ⟨f37_135, h37_137, hb136⟩ := (hI 37 (by decide) : cp37 (wget w 37))
        refine xg_t (xg_cVr mX5_isFull (vs := []) (rest := []) (rs := [(0, if 20 ≤ f37_135 then 1 else 0)]) (cn1 := 0) (sl1 := 0) rfl (rfull_ok h37_137 (by decide) (by omega)) rfl h37_137 rfl rfl rfl rfl rfl rfl rfl) ?_
        by_cases hc138 : 20 ≤ f37_135
        · refine xg_t (xg_ifT (u := (if 20 ≤ f37_135 then 1 else 0)) rfl xnm0 (xj_neT (xite1 hc138))) ?_
          refine xg_t (xg_blk (b := [(59, 1, 3, 1, 0, 0), (60, 3, 8, 64, 0, 0)]) rfl) ?_
          refine xg_t (xg_const) ?_
          refine xg_t (xg_goto) ?_
          refine xg_t (xg_blk (b := [(64, 1, 12, 0, 1, 0)]) rfl) ?_
          exact xg_e ⟨1, w, ⟨rfl, rfl⟩, by omega, hI, xFr.rf⟩
        · refine xg_t (xg_ifF (u := (if 20 ≤ f37_135 then 1 else 0)) rfl xnm0 (xj_neF (xite0 hc138))) ?_
          refine xg_t (xg_iload (va := (0, so)) rfl rfl) ?_
          refine xg_t (xg_const) ?_
          by_cases hc139 : so = 1
          · refine xg_t (xg_icF (u := so) (v := 1) rfl xnm0 xnm0 (xj_neF hc139)) ?_
            refine xg_t (xg_aload (va := (2, 27)) rfl rfl) ?_
            refine xg_t (xg_aload (va := (2, 27)) rfl rfl) ?_
            refine xg_t (xg_getf (va := (2, 39)) h27_11 rfl) ?_
            refine xg_t (xg_const) ?_
            refine xg_ialdB (n := 0) (B := 4294967295) h39_13 (hb14) xnm0 (by omega) (fun u140 hu141 he142 => ?_)
            refine xg_cVi mX2_isLifeTold (vs := [(0, u140)]) (rest := []) (cn1 := 0) (sl1 := 0) rfl (ftLifeTold (hI) (by omega)) rfl h27_11 rfl rfl rfl rfl rfl rfl (fun n147 w143 hq144 => ?_)
            obtain ⟨hn148, hI145, hF146⟩ := hq144
            by_cases hc149 : n147 = 0
            · refine xg_t (xg_ifT (u := n147) rfl xnm0 (xj_eqT hc149)) ?_
              refine xg_t (xg_blk (b := [(63, 1, 3, 0, 0, 0)]) rfl) ?_
              refine xg_t (xg_const) ?_
              refine xg_t (xg_blk (b := [(64, 1, 12, 0, 1, 0)]) rfl) ?_
              exact xg_e ⟨0, w143, ⟨rfl, rfl⟩, by omega, hI145, (hF146.up (by decide))⟩
            · refine xg_t (xg_ifF (u := n147) rfl xnm0 (xj_eqF hc149)) ?_
              refine xg_t (xg_blk (b := [(59, 1, 3, 1, 0, 0), (60, 3, 8, 64, 0, 0)]) rfl) ?_
              refine xg_t (xg_const) ?_
              refine xg_t (xg_goto) ?_
              refine xg_t (xg_blk (b := [(64, 1, 12, 0, 1, 0)]) rfl) ?_
              exact xg_e ⟨1, w143, ⟨rfl, rfl⟩, by omega, hI145, (hF146.up (by decide))⟩
          · refine xg_t (xg_icT (u := so) (v := 1) rfl xnm0 xnm0 (xj_neT hc139)) ?_
            refine xg_t (xg_blk (b := [(63, 1, 3, 0, 0, 0)]) rfl) ?_
            refine xg_t (xg_const) ?_
            refine xg_t (xg_blk (b := [(64, 1, 12, 0, 1, 0)]) rfl) ?_
            exact xg_e ⟨0, w, ⟨rfl, rfl⟩, by omega, hI, xFr.rf⟩
      · obtain ⟨f28_150, f28_152, f28_154, f28_156, f28_158, h28_160, hb151, hb153, hb155, hb157, hb159⟩ := (hI 28 (by decide) : cp28 (wget w 28))
        refine xg_t (xg_cVr mX1_rowsOf (vs := [(0, so)]) (rest := []) (rs := [(3, 0)]) (cn1 := 0) (sl1 := 0) rfl (hp19) rfl h28_160 rfl rfl rfl rfl rfl rfl rfl) ?_
        refine xg_t (xg_astore (l1 := [(0, (2, 27)), (1, (0, so))]) rfl rfl rfl) ?_
        refine xg_t (xg_aload (va := (3, 0)) rfl rfl) ?_
        refine xg_t (xg_ifnullT) ?_
        refine xg_t (xg_blk (b := [(59, 1, 3, 1, 0, 0), (60, 3, 8, 64, 0, 0)]) rfl) ?_
        refine xg_t (xg_const) ?_
        refine xg_t (xg_goto) ?_
        refine xg_t (xg_blk (b := [(64, 1, 12, 0, 1, 0)]) rfl) ?_
        exact xg_e ⟨1, w, ⟨rfl, rfl⟩, by omega, hI, xFr.rf⟩
end XFT
