/-! Film: told and drafted -/
section XFM
variable {d : Nat} {w : List (List xE)} {bd : List (Nat × Nat)} {fc : List (Nat × Nat × Bool)} {rr : Nat × Nat}
theorem fmToldSlides (hI : xInv w)  : xPi (d + 1) mX1_slidesAnywhere [(2, 3)] w bd fc rr (fun n w' => (n ≤ 1) ∧ xInv w' ∧ xFr [] w w') := by
  refine xPi.of ?_
  show xTo (d + 1) mX1_slidesAnywhere (0, [], [(0, (2, 3))], [], (w, bd, fc, 0, 0, rr)) (fun φ => ∃ n w', xEnd 4 [(0, n)] (w', bd, fc, 0, 0, rr) φ ∧ (n ≤ 1) ∧ xInv w' ∧ xFr [] w w')
  obtain ⟨f3_1, f3_3, f3_5, f3_7, f3_9, h3_11, hb2, hb4, hb6, hb8, hb10⟩ := (hI 3 (by decide) : cp3 (wget w 3))
  obtain ⟨f4_12, h4_14, hb13⟩ := (hI 4 (by decide) : cp4 (wget w 4))
  obtain ⟨f6_15, h6_17, hb16⟩ := (hI 6 (by decide) : cp6 (wget w 6))
  obtain ⟨f8_18, h8_20, hb19⟩ := (hI 8 (by decide) : cp8 (wget w 8))
  obtain ⟨f10_21, h10_23, hb22⟩ := (hI 10 (by decide) : cp10 (wget w 10))
  obtain ⟨f12_24, h12_26, hb25⟩ := (hI 12 (by decide) : cp12 (wget w 12))
  refine xg_t (xg_blk (b := [(0, 1, 3, 0, 0, 0), (1, 1, 15, 1, 0, 0)]) rfl) ?_
  refine xg_t (xg_const) ?_
  refine xg_t (xg_istore (l1 := [(0, (2, 3))]) rfl rfl rfl) ?_
  refine xg_t (xg_drop (l1 := [(0, (2, 3)), (1, (0, 0))]) (List.forall_mem_cons.mpr ⟨List.mem_cons_of_mem _ (List.mem_cons_self), List.forall_mem_cons.mpr ⟨List.mem_cons_self, fun _ h => absurd h List.not_mem_nil⟩⟩)) ?_
  have key27 : ∀ (m29 : Nat) (ki : Nat) (w30 : List (List xE)), 6 - ki < m29 → ki ≤ 6 → xInv w30 → xFr [] w w30 → xTo (d + 1) mX1_slidesAnywhere (2, [], [(0, (2, 3)), (1, (0, ki))], [], (w30, bd, fc, 0, 0, rr)) (fun φ => ∃ n w', xEnd 4 [(0, n)] (w', bd, fc, 0, 0, rr) φ ∧ (n ≤ 1) ∧ xInv w' ∧ xFr [] w w') := by
    intro m29
    induction m29 with
    | zero => intro ki w30 hz; exact absurd hz (Nat.not_lt_zero _)
    | succ m29 ih28 =>
      intro ki w30 hm34 hn33 hI31 hF32
      refine xg_t (xg_blk (b := [(2, 1, 2, 1, 0, 0), (3, 1, 3, 1, 0, 0), (4, 1, 11, 0, 0, 0), (5, 1, 0, 0, 0, 0), (6, 3, 1, 1, 0, 14), (9, 3, 1, 5, 3, 43), (12, 3, 6, 36, 3, 0), (15, 1, 0, 0, 0, 0), (16, 3, 1, 1, 0, 14), (19, 1, 2, 1, 0, 0), (20, 1, 3, 3, 0, 0), (21, 3, 13, 285, 40, 46), (24, 1, 3, 1, 0, 0), (25, 3, 6, 30, 1, 0), (28, 1, 3, 1, 0, 0), (29, 1, 12, 0, 1, 0)]) rfl) ?_
      refine xg_t (xg_iload (va := (0, ki)) rfl rfl) ?_
      refine xg_t (xg_const) ?_
      refine xg_t (xg_iadd (u := ki) (v := 1) (z := ki + 1) xnm0 xnm0 (by omega)) ?_
      refine xg_t (xg_aload (va := (2, 3)) rfl rfl) ?_
      refine xg_t (xg_getf (va := (2, 4)) (hF32.get (by decide) h3_11) rfl) ?_
      refine xg_t (xg_getf (va := (0, f4_12)) (hF32.get (by decide) h4_14) rfl) ?_
      by_cases hc35 : (ki + 1) < f4_12
      · refine xg_t (xg_icF (u := ki + 1) (v := f4_12) rfl xnm0 xnm0 (xj_geF hc35 (by omega))) ?_
        refine xg_t (xg_aload (va := (2, 3)) rfl rfl) ?_
        refine xg_t (xg_getf (va := (2, 4)) (hF32.get (by decide) h3_11) rfl) ?_
        refine xg_t (xg_iload (va := (0, ki)) rfl rfl) ?_
        refine xg_t (xg_const) ?_
        obtain ⟨g5_36, h5_37, hb38⟩ := (hI31 5 (by decide) : cpI 24 1 4294967295 (wget w30 5))
        have h5_37 : xRow w30 5 24 1 g5_36 := h5_37
        refine xg_k (xg_cVr mX5_get (vs := [(0, ki), (0, 3)]) (rest := []) (rs := [(0, if ki < f4_12 ∧ 3 < 4 then g5_36 (ki * 4 + 3) else 4294967295)]) (cn1 := 0) (sl1 := 0) rfl (rget_ok (lim := 6) (wd := 4) (sz := f4_12) (hF32.get (by decide) h4_14) h5_37 (by decide) (by omega) (by decide) (by decide) (by omega) (by omega)) rfl (hF32.get (by decide) h4_14) rfl rfl rfl rfl rfl rfl rfl) (xiteb (hb38)) (fun z39 hz40 => ?_)
        refine xg_t (xg_const) ?_
        by_cases hc41 : z39 = 1
        · refine xg_t (xg_icF (u := z39) (v := 1) rfl xnm0 xnm0 (xj_neF hc41)) ?_
          refine xg_t (xg_const) ?_
          exact xg_e ⟨1, w30, ⟨rfl, rfl⟩, by omega, hI31, hF32⟩
        · refine xg_t (xg_icT (u := z39) (v := 1) rfl xnm0 xnm0 (xj_neT hc41)) ?_
          refine xg_t (xg_blk (b := [(30, 3, 9, 1, 1, 0), (33, 3, 8, 2, 0, 0)]) rfl) ?_
          refine xg_t (xg_iinc (u := ki) (z := ki + 1) (l1 := [(0, (2, 3))]) rfl rfl (by omega) rfl) ?_
          refine xg_t (xg_goto) ?_
          refine xg_t (xg_drop (l1 := [(0, (2, 3)), (1, (0, ki + 1))]) (List.forall_mem_cons.mpr ⟨List.mem_cons_of_mem _ (List.mem_cons_self), List.forall_mem_cons.mpr ⟨List.mem_cons_self, fun _ h => absurd h List.not_mem_nil⟩⟩)) ?_
          exact ih28 (ki + 1) w30 (by omega) (by omega) (hI31) (hF32)
      · refine xg_t (xg_icT (u := ki + 1) (v := f4_12) rfl xnm0 xnm0 (xj_geT (by omega) (by omega))) ?_
        refine xg_t (xg_blk (b := [(36, 1, 3, 0, 0, 0), (37, 1, 12, 0, 1, 0)]) rfl) ?_
        refine xg_t (xg_const) ?_
        exact xg_e ⟨0, w30, ⟨rfl, rfl⟩, by omega, hI31, hF32⟩
  exact key27 _ 0 w (Nat.lt_succ_self _) (by omega) (hI) (xFr.rf)
theorem fmDraftClear (hI : xInv w)  : xPq (d + 1) mX1_clear [(2, 28)] w bd fc rr [] (fun w' => xInv w' ∧ xFr [28, 29, 31, 33, 35, 37] w w') := by
  refine xPq.of ?_
  show xTo (d + 1) mX1_clear (0, [], [(0, (2, 28))], [], (w, bd, fc, 0, 0, rr)) (fun φ => ∃ w', xEnd 0 [] (w', bd, fc, 0, 0, rr) φ ∧ xInv w' ∧ xFr [28, 29, 31, 33, 35, 37] w w')
  obtain ⟨f28_1, f28_3, f28_5, f28_7, f28_9, h28_11, hb2, hb4, hb6, hb8, hb10⟩ := (hI 28 (by decide) : cp28 (wget w 28))
  obtain ⟨f29_12, h29_14, hb13⟩ := (hI 29 (by decide) : cp29 (wget w 29))
  obtain ⟨f31_15, h31_17, hb16⟩ := (hI 31 (by decide) : cp31 (wget w 31))
  obtain ⟨f33_18, h33_20, hb19⟩ := (hI 33 (by decide) : cp33 (wget w 33))
  obtain ⟨f35_21, h35_23, hb22⟩ := (hI 35 (by decide) : cp35 (wget w 35))
  obtain ⟨f37_24, h37_26, hb25⟩ := (hI 37 (by decide) : cp37 (wget w 37))
  refine xg_t (xg_blk (b := [(0, 1, 0, 0, 0, 0), (1, 3, 1, 1, 0, 14), (4, 3, 13, 283, 40, 50), (7, 1, 0, 0, 0, 0), (8, 3, 1, 1, 1, 18), (11, 3, 13, 283, 40, 50), (14, 1, 0, 0, 0, 0), (15, 3, 1, 1, 2, 21), (18, 3, 13, 283, 40, 50), (21, 1, 0, 0, 0, 0), (22, 3, 1, 1, 3, 24), (25, 3, 13, 283, 40, 50), (28, 1, 0, 0, 0, 0), (29, 3, 1, 1, 4, 27), (32, 3, 13, 283, 40, 50), (35, 1, 0, 0, 0, 0), (36, 1, 3, 1, 0, 0), (37, 3, 14, 1, 5, 30), (40, 1, 0, 0, 0, 0), (41, 1, 3, 1, 0, 0), (42, 3, 14, 1, 6, 34), (45, 1, 0, 0, 0, 0), (46, 1, 3, 1, 0, 0), (47, 3, 14, 1, 7, 37), (50, 1, 0, 0, 0, 0), (51, 1, 3, 1, 0, 0), (52, 3, 14, 1, 8, 40), (55, 1, 0, 0, 0, 0), (56, 1, 3, 0, 0, 0), (57, 3, 14, 1, 9, 53), (60, 1, 12, 0, 0, 0)]) rfl) ?_
  refine xg_t (xg_aload (va := (2, 28)) rfl rfl) ?_
  refine xg_t (xg_getf (va := (2, 29)) h28_11 rfl) ?_
  refine xg_cV mX5_clear (vs := []) (rest := []) (rs := []) (cn1 := 0) (sl1 := 0) rfl (rclear_ok h29_14) rfl h29_14 rfl rfl rfl rfl rfl rfl rfl (fun w27 hq28 => ?_)
  refine xg_t (xg_aload (va := (2, 28)) rfl rfl) ?_
  refine xg_t (xg_getf (va := (2, 31)) (hq28.2.get (by decide) h28_11) rfl) ?_
  refine xg_cV mX5_clear (vs := []) (rest := []) (rs := []) (cn1 := 0) (sl1 := 0) rfl (rclear_ok (hq28.2.get (by decide) h31_17)) rfl (hq28.2.get (by decide) h31_17) rfl rfl rfl rfl rfl rfl rfl (fun w29 hq30 => ?_)
  refine xg_t (xg_aload (va := (2, 28)) rfl rfl) ?_
  refine xg_t (xg_getf (va := (2, 33)) (hq30.2.get (by decide) (hq28.2.get (by decide) h28_11)) rfl) ?_
  refine xg_cV mX5_clear (vs := []) (rest := []) (rs := []) (cn1 := 0) (sl1 := 0) rfl (rclear_ok (hq30.2.get (by decide) (hq28.2.get (by decide) h33_20))) rfl (hq30.2.get (by decide) (hq28.2.get (by decide) h33_20)) rfl rfl rfl rfl rfl rfl rfl (fun w31 hq32 => ?_)
  refine xg_t (xg_aload (va := (2, 28)) rfl rfl) ?_
  refine xg_t (xg_getf (va := (2, 35)) (hq32.2.get (by decide) (hq30.2.get (by decide) (hq28.2.get (by decide) h28_11))) rfl) ?_
  refine xg_cV mX5_clear (vs := []) (rest := []) (rs := []) (cn1 := 0) (sl1 := 0) rfl (rclear_ok (hq32.2.get (by decide) (hq30.2.get (by decide) (hq28.2.get (by decide) h35_23)))) rfl (hq32.2.get (by decide) (hq30.2.get (by decide) (hq28.2.get (by decide) h35_23))) rfl rfl rfl rfl rfl rfl rfl (fun w33 hq34 => ?_)
  refine xg_t (xg_aload (va := (2, 28)) rfl rfl) ?_
  refine xg_t (xg_getf (va := (2, 37)) (hq34.2.get (by decide) (hq32.2.get (by decide) (hq30.2.get (by decide) (hq28.2.get (by decide) h28_11)))) rfl) ?_
  refine xg_cV mX5_clear (vs := []) (rest := []) (rs := []) (cn1 := 0) (sl1 := 0) rfl (rclear_ok (hq34.2.get (by decide) (hq32.2.get (by decide) (hq30.2.get (by decide) (hq28.2.get (by decide) h37_26))))) rfl (hq34.2.get (by decide) (hq32.2.get (by decide) (hq30.2.get (by decide) (hq28.2.get (by decide) h37_26)))) rfl rfl rfl rfl rfl rfl rfl (fun w35 hq36 => ?_)
  refine xg_t (xg_aload (va := (2, 28)) rfl rfl) ?_
  refine xg_t (xg_const) ?_
  refine xg_putI (fl1 := [(2, 29), (2, 31), (2, 33), (2, 35), (2, 37), (0, 1), (0, f28_3), (0, f28_5), (0, f28_7), (0, f28_9)]) (hq36.2.get (by decide) (hq34.2.get (by decide) (hq32.2.get (by decide) (hq30.2.get (by decide) (hq28.2.get (by decide) h28_11))))) rfl rfl rfl (fun w37 hk38 hb39 => ?_)
  refine xg_t (xg_aload (va := (2, 28)) rfl rfl) ?_
  refine xg_t (xg_const) ?_
  refine xg_putI (fl1 := [(2, 29), (2, 31), (2, 33), (2, 35), (2, 37), (0, 1), (0, 1), (0, f28_5), (0, f28_7), (0, f28_9)]) hk38 rfl rfl rfl (fun w40 hk41 hb42 => ?_)
  refine xg_t (xg_aload (va := (2, 28)) rfl rfl) ?_
  refine xg_t (xg_const) ?_
  refine xg_putI (fl1 := [(2, 29), (2, 31), (2, 33), (2, 35), (2, 37), (0, 1), (0, 1), (0, 1), (0, f28_7), (0, f28_9)]) hk41 rfl rfl rfl (fun w43 hk44 hb45 => ?_)
  refine xg_t (xg_aload (va := (2, 28)) rfl rfl) ?_
  refine xg_t (xg_const) ?_
  refine xg_putI (fl1 := [(2, 29), (2, 31), (2, 33), (2, 35), (2, 37), (0, 1), (0, 1), (0, 1), (0, 1), (0, f28_9)]) hk44 rfl rfl rfl (fun w46 hk47 hb48 => ?_)
  refine xg_t (xg_aload (va := (2, 28)) rfl rfl) ?_
  refine xg_t (xg_const) ?_
  refine xg_putI (fl1 := [(2, 29), (2, 31), (2, 33), (2, 35), (2, 37), (0, 1), (0, 1), (0, 1), (0, 1), (0, 0)]) hk47 rfl rfl rfl (fun w49 hk50 hb51 => ?_)
  exact xg_e ⟨w49, ⟨rfl, rfl⟩, xInv.up (S := [29, 31, 33, 35, 37, 28]) hI ((((((((((xFr.of (S := [29, 31, 33, 35, 37, 28]) hq28.2 (by decide)).tr (xFr.of (S := [29, 31, 33, 35, 37, 28]) hq30.2 (by decide))).tr (xFr.of (S := [29, 31, 33, 35, 37, 28]) hq32.2 (by decide))).tr (xFr.of (S := [29, 31, 33, 35, 37, 28]) hq34.2 (by decide))).tr (xFr.of (S := [29, 31, 33, 35, 37, 28]) hq36.2 (by decide))).tr (xFr.of (S := [29, 31, 33, 35, 37, 28]) hb39 (by decide))).tr (xFr.of (S := [29, 31, 33, 35, 37, 28]) hb42 (by decide))).tr (xFr.of (S := [29, 31, 33, 35, 37, 28]) hb45 (by decide))).tr (xFr.of (S := [29, 31, 33, 35, 37, 28]) hb48 (by decide))).tr (xFr.of (S := [29, 31, 33, 35, 37, 28]) hb51 (by decide))) (List.forall_mem_cons.mpr ⟨(show cp29 (wget w49 29) from ⟨0, (hb51.get (by decide) (hb48.get (by decide) (hb45.get (by decide) (hb42.get (by decide) (hb39.get (by decide) (hq36.2.get (by decide) (hq34.2.get (by decide) (hq32.2.get (by decide) (hq30.2.get (by decide) hq28.1))))))))), by omega⟩), List.forall_mem_cons.mpr ⟨(show cp31 (wget w49 31) from ⟨0, (hb51.get (by decide) (hb48.get (by decide) (hb45.get (by decide) (hb42.get (by decide) (hb39.get (by decide) (hq36.2.get (by decide) (hq34.2.get (by decide) (hq32.2.get (by decide) hq30.1)))))))), by omega⟩), List.forall_mem_cons.mpr ⟨(show cp33 (wget w49 33) from ⟨0, (hb51.get (by decide) (hb48.get (by decide) (hb45.get (by decide) (hb42.get (by decide) (hb39.get (by decide) (hq36.2.get (by decide) (hq34.2.get (by decide) hq32.1))))))), by omega⟩), List.forall_mem_cons.mpr ⟨(show cp35 (wget w49 35) from ⟨0, (hb51.get (by decide) (hb48.get (by decide) (hb45.get (by decide) (hb42.get (by decide) (hb39.get (by decide) (hq36.2.get (by decide) hq34.1)))))), by omega⟩), List.forall_mem_cons.mpr ⟨(show cp37 (wget w49 37) from ⟨0, (hb51.get (by decide) (hb48.get (by decide) (hb45.get (by decide) (hb42.get (by decide) (hb39.get (by decide) hq36.1))))), by omega⟩), List.forall_mem_cons.mpr ⟨(show cp28 (wget w49 28) from ⟨1, 1, 1, 1, 0, hk50, by omega, by omega, by omega, by omega, by omega⟩), fun _ h => absurd h List.not_mem_nil⟩⟩⟩⟩⟩⟩), ((((((((((xFr.of (S := [28, 29, 31, 33, 35, 37]) hq28.2 (by decide)).tr (xFr.of (S := [28, 29, 31, 33, 35, 37]) hq30.2 (by decide))).tr (xFr.of (S := [28, 29, 31, 33, 35, 37]) hq32.2 (by decide))).tr (xFr.of (S := [28, 29, 31, 33, 35, 37]) hq34.2 (by decide))).tr (xFr.of (S := [28, 29, 31, 33, 35, 37]) hq36.2 (by decide))).tr (xFr.of (S := [28, 29, 31, 33, 35, 37]) hb39 (by decide))).tr (xFr.of (S := [28, 29, 31, 33, 35, 37]) hb42 (by decide))).tr (xFr.of (S := [28, 29, 31, 33, 35, 37]) hb45 (by decide))).tr (xFr.of (S := [28, 29, 31, 33, 35, 37]) hb48 (by decide))).tr (xFr.of (S := [28, 29, 31, 33, 35, 37]) hb51 (by decide)))⟩
theorem fmCopy (hI : xInv w)  : xPq (d + 2) mX1_copy [(2, 3), (2, 28)] w bd fc rr [] (fun w' => xInv w' ∧ xFr [3, 4, 5, 6, 7, 8, 9, 10, 11, 12, 13] w w') := by
  refine xPq.of ?_
  show xTo (d + 2) mX1_copy (0, [], [(0, (2, 3)), (1, (2, 28))], [], (w, bd, fc, 0, 0, rr)) (fun φ => ∃ w', xEnd 0 [] (w', bd, fc, 0, 0, rr) φ ∧ xInv w' ∧ xFr [3, 4, 5, 6, 7, 8, 9, 10, 11, 12, 13] w w')
  obtain ⟨f3_1, f3_3, f3_5, f3_7, f3_9, h3_11, hb2, hb4, hb6, hb8, hb10⟩ := (hI 3 (by decide) : cp3 (wget w 3))
  obtain ⟨f28_12, f28_14, f28_16, f28_18, f28_20, h28_22, hb13, hb15, hb17, hb19, hb21⟩ := (hI 28 (by decide) : cp28 (wget w 28))
  obtain ⟨f4_23, h4_25, hb24⟩ := (hI 4 (by decide) : cp4 (wget w 4))
  obtain ⟨g5_26, h5_27, hb28⟩ := (hI 5 (by decide) : cpI 24 1 4294967295 (wget w 5))
  have h5_27 : xRow w 5 24 1 g5_26 := h5_27
  obtain ⟨f29_29, h29_31, hb30⟩ := (hI 29 (by decide) : cp29 (wget w 29))
  obtain ⟨g30_32, h30_33, hb34⟩ := (hI 30 (by decide) : cpI 24 13 4294967295 (wget w 30))
  have h30_33 : xRow w 30 24 13 g30_32 := h30_33
  obtain ⟨f6_35, h6_37, hb36⟩ := (hI 6 (by decide) : cp6 (wget w 6))
  obtain ⟨g7_38, h7_39, hb40⟩ := (hI 7 (by decide) : cpI 8 2 4294967295 (wget w 7))
  have h7_39 : xRow w 7 8 2 g7_38 := h7_39
  obtain ⟨f31_41, h31_43, hb42⟩ := (hI 31 (by decide) : cp31 (wget w 31))
  obtain ⟨g32_44, h32_45, hb46⟩ := (hI 32 (by decide) : cpI 8 14 4294967295 (wget w 32))
  have h32_45 : xRow w 32 8 14 g32_44 := h32_45
  obtain ⟨f8_47, h8_49, hb48⟩ := (hI 8 (by decide) : cp8 (wget w 8))
  obtain ⟨g9_50, h9_51, hb52⟩ := (hI 9 (by decide) : cpI 12 3 4294967295 (wget w 9))
  have h9_51 : xRow w 9 12 3 g9_50 := h9_51
  obtain ⟨f33_53, h33_55, hb54⟩ := (hI 33 (by decide) : cp33 (wget w 33))
  obtain ⟨g34_56, h34_57, hb58⟩ := (hI 34 (by decide) : cpI 12 15 4294967295 (wget w 34))
  have h34_57 : xRow w 34 12 15 g34_56 := h34_57
  obtain ⟨f10_59, h10_61, hb60⟩ := (hI 10 (by decide) : cp10 (wget w 10))
  obtain ⟨g11_62, h11_63, hb64⟩ := (hI 11 (by decide) : cpI 12 4 4294967295 (wget w 11))
  have h11_63 : xRow w 11 12 4 g11_62 := h11_63
  obtain ⟨f35_65, h35_67, hb66⟩ := (hI 35 (by decide) : cp35 (wget w 35))
  obtain ⟨g36_68, h36_69, hb70⟩ := (hI 36 (by decide) : cpI 12 16 4294967295 (wget w 36))
  have h36_69 : xRow w 36 12 16 g36_68 := h36_69
  obtain ⟨f12_71, h12_73, hb72⟩ := (hI 12 (by decide) : cp12 (wget w 12))
  obtain ⟨g13_74, h13_75, hb76⟩ := (hI 13 (by decide) : cpI 40 5 4294967295 (wget w 13))
  have h13_75 : xRow w 13 40 5 g13_74 := h13_75
  obtain ⟨f37_77, h37_79, hb78⟩ := (hI 37 (by decide) : cp37 (wget w 37))
  obtain ⟨g38_80, h38_81, hb82⟩ := (hI 38 (by decide) : cpI 40 17 4294967295 (wget w 38))
  have h38_81 : xRow w 38 40 17 g38_80 := h38_81
  refine xg_t (xg_blk (b := [(0, 1, 0, 0, 0, 0), (1, 3, 1, 1, 0, 14), (4, 1, 0, 1, 0, 0), (5, 3, 1, 1, 0, 14), (8, 3, 13, 284, 40, 56), (11, 1, 0, 0, 0, 0), (12, 3, 1, 1, 1, 18), (15, 1, 0, 1, 0, 0), (16, 3, 1, 1, 1, 18), (19, 3, 13, 284, 40, 56), (22, 1, 0, 0, 0, 0), (23, 3, 1, 1, 2, 21), (26, 1, 0, 1, 0, 0), (27, 3, 1, 1, 2, 21), (30, 3, 13, 284, 40, 56), (33, 1, 0, 0, 0, 0), (34, 3, 1, 1, 3, 24), (37, 1, 0, 1, 0, 0), (38, 3, 1, 1, 3, 24), (41, 3, 13, 284, 40, 56), (44, 1, 0, 0, 0, 0), (45, 3, 1, 1, 4, 27), (48, 1, 0, 1, 0, 0), (49, 3, 1, 1, 4, 27), (52, 3, 13, 284, 40, 56), (55, 1, 0, 0, 0, 0), (56, 1, 0, 1, 0, 0), (57, 3, 1, 1, 5, 30), (60, 3, 14, 1, 5, 30), (63, 1, 0, 0, 0, 0), (64, 1, 0, 1, 0, 0), (65, 3, 1, 1, 6, 34), (68, 3, 14, 1, 6, 34), (71, 1, 0, 0, 0, 0), (72, 1, 0, 1, 0, 0), (73, 3, 1, 1, 7, 37), (76, 3, 14, 1, 7, 37), (79, 1, 0, 0, 0, 0), (80, 1, 0, 1, 0, 0), (81, 3, 1, 1, 8, 40), (84, 3, 14, 1, 8, 40), (87, 1, 0, 0, 0, 0), (88, 1, 0, 1, 0, 0), (89, 3, 1, 1, 9, 53), (92, 3, 14, 1, 9, 53), (95, 1, 12, 0, 0, 0)]) rfl) ?_
  refine xg_t (xg_aload (va := (2, 3)) rfl rfl) ?_
  refine xg_t (xg_getf (va := (2, 4)) h3_11 rfl) ?_
  refine xg_t (xg_aload (va := (2, 28)) rfl rfl) ?_
  refine xg_t (xg_getf (va := (2, 29)) h28_22 rfl) ?_
  refine xg_cVv mX5_copy (vs := [(2, 29)]) (rest := []) (cn1 := 0) (sl1 := 0) rfl (rcopyI (lim := 6) (wd := 4) (B := 4294967295) h4_25 h29_31 h5_27 h30_33 (hb28) (hb34) (by decide) (by omega) (by decide) (by decide) (by decide) (by decide) (by decide) (by decide)) rfl h4_25 rfl rfl rfl rfl rfl rfl (fun w83 hq84 => ?_)
  obtain ⟨hk85, g86, hr87, hb88, hF89⟩ := hq84
  refine xg_t (xg_aload (va := (2, 3)) rfl rfl) ?_
  refine xg_t (xg_getf (va := (2, 6)) (hF89.get (by decide) h3_11) rfl) ?_
  refine xg_t (xg_aload (va := (2, 28)) rfl rfl) ?_
  refine xg_t (xg_getf (va := (2, 31)) (hF89.get (by decide) h28_22) rfl) ?_
  refine xg_cVv mX5_copy (vs := [(2, 31)]) (rest := []) (cn1 := 0) (sl1 := 0) rfl (rcopyI (lim := 4) (wd := 2) (B := 4294967295) (hF89.get (by decide) h6_37) (hF89.get (by decide) h31_43) (h7_39.fr hF89 (by decide)) (h32_45.fr hF89 (by decide)) (hb40) (hb46) (by decide) (by omega) (by decide) (by decide) (by decide) (by decide) (by decide) (by decide)) rfl (hF89.get (by decide) h6_37) rfl rfl rfl rfl rfl rfl (fun w90 hq91 => ?_)
  obtain ⟨hk92, g93, hr94, hb95, hF96⟩ := hq91
  refine xg_t (xg_aload (va := (2, 3)) rfl rfl) ?_
  refine xg_t (xg_getf (va := (2, 8)) (hF96.get (by decide) (hF89.get (by decide) h3_11)) rfl) ?_
  refine xg_t (xg_aload (va := (2, 28)) rfl rfl) ?_
  refine xg_t (xg_getf (va := (2, 33)) (hF96.get (by decide) (hF89.get (by decide) h28_22)) rfl) ?_
  refine xg_cVv mX5_copy (vs := [(2, 33)]) (rest := []) (cn1 := 0) (sl1 := 0) rfl (rcopyI (lim := 6) (wd := 2) (B := 4294967295) (hF96.get (by decide) (hF89.get (by decide) h8_49)) (hF96.get (by decide) (hF89.get (by decide) h33_55)) ((h9_51.fr hF89 (by decide)).fr hF96 (by decide)) ((h34_57.fr hF89 (by decide)).fr hF96 (by decide)) (hb52) (hb58) (by decide) (by omega) (by decide) (by decide) (by decide) (by decide) (by decide) (by decide)) rfl (hF96.get (by decide) (hF89.get (by decide) h8_49)) rfl rfl rfl rfl rfl rfl (fun w97 hq98 => ?_)
  obtain ⟨hk99, g100, hr101, hb102, hF103⟩ := hq98
  refine xg_t (xg_aload (va := (2, 3)) rfl rfl) ?_
  refine xg_t (xg_getf (va := (2, 10)) (hF103.get (by decide) (hF96.get (by decide) (hF89.get (by decide) h3_11))) rfl) ?_
  refine xg_t (xg_aload (va := (2, 28)) rfl rfl) ?_
  refine xg_t (xg_getf (va := (2, 35)) (hF103.get (by decide) (hF96.get (by decide) (hF89.get (by decide) h28_22))) rfl) ?_
  refine xg_cVv mX5_copy (vs := [(2, 35)]) (rest := []) (cn1 := 0) (sl1 := 0) rfl (rcopyI (lim := 4) (wd := 3) (B := 4294967295) (hF103.get (by decide) (hF96.get (by decide) (hF89.get (by decide) h10_61))) (hF103.get (by decide) (hF96.get (by decide) (hF89.get (by decide) h35_67))) (((h11_63.fr hF89 (by decide)).fr hF96 (by decide)).fr hF103 (by decide)) (((h36_69.fr hF89 (by decide)).fr hF96 (by decide)).fr hF103 (by decide)) (hb64) (hb70) (by decide) (by omega) (by decide) (by decide) (by decide) (by decide) (by decide) (by decide)) rfl (hF103.get (by decide) (hF96.get (by decide) (hF89.get (by decide) h10_61))) rfl rfl rfl rfl rfl rfl (fun w104 hq105 => ?_)
  obtain ⟨hk106, g107, hr108, hb109, hF110⟩ := hq105
  refine xg_t (xg_aload (va := (2, 3)) rfl rfl) ?_
  refine xg_t (xg_getf (va := (2, 12)) (hF110.get (by decide) (hF103.get (by decide) (hF96.get (by decide) (hF89.get (by decide) h3_11)))) rfl) ?_
  refine xg_t (xg_aload (va := (2, 28)) rfl rfl) ?_
  refine xg_t (xg_getf (va := (2, 37)) (hF110.get (by decide) (hF103.get (by decide) (hF96.get (by decide) (hF89.get (by decide) h28_22)))) rfl) ?_
  refine xg_cVv mX5_copy (vs := [(2, 37)]) (rest := []) (cn1 := 0) (sl1 := 0) rfl (rcopyI (lim := 20) (wd := 2) (B := 4294967295) (hF110.get (by decide) (hF103.get (by decide) (hF96.get (by decide) (hF89.get (by decide) h12_73)))) (hF110.get (by decide) (hF103.get (by decide) (hF96.get (by decide) (hF89.get (by decide) h37_79)))) ((((h13_75.fr hF89 (by decide)).fr hF96 (by decide)).fr hF103 (by decide)).fr hF110 (by decide)) ((((h38_81.fr hF89 (by decide)).fr hF96 (by decide)).fr hF103 (by decide)).fr hF110 (by decide)) (hb76) (hb82) (by decide) (by omega) (by decide) (by decide) (by decide) (by decide) (by decide) (by decide)) rfl (hF110.get (by decide) (hF103.get (by decide) (hF96.get (by decide) (hF89.get (by decide) h12_73)))) rfl rfl rfl rfl rfl rfl (fun w111 hq112 => ?_)
  obtain ⟨hk113, g114, hr115, hb116, hF117⟩ := hq112
  refine xg_t (xg_aload (va := (2, 3)) rfl rfl) ?_
  refine xg_t (xg_aload (va := (2, 28)) rfl rfl) ?_
  refine xg_t (xg_getf (va := (0, f28_12)) (hF117.get (by decide) (hF110.get (by decide) (hF103.get (by decide) (hF96.get (by decide) (hF89.get (by decide) h28_22))))) rfl) ?_
  refine xg_putI (fl1 := [(2, 4), (2, 6), (2, 8), (2, 10), (2, 12), (0, f28_12), (0, f3_3), (0, f3_5), (0, f3_7), (0, f3_9)]) (hF117.get (by decide) (hF110.get (by decide) (hF103.get (by decide) (hF96.get (by decide) (hF89.get (by decide) h3_11))))) rfl rfl rfl (fun w118 hk119 hb120 => ?_)
  refine xg_t (xg_aload (va := (2, 3)) rfl rfl) ?_
  refine xg_t (xg_aload (va := (2, 28)) rfl rfl) ?_
  refine xg_t (xg_getf (va := (0, f28_14)) (hb120.get (by decide) (hF117.get (by decide) (hF110.get (by decide) (hF103.get (by decide) (hF96.get (by decide) (hF89.get (by decide) h28_22)))))) rfl) ?_
  refine xg_putI (fl1 := [(2, 4), (2, 6), (2, 8), (2, 10), (2, 12), (0, f28_12), (0, f28_14), (0, f3_5), (0, f3_7), (0, f3_9)]) hk119 rfl rfl rfl (fun w121 hk122 hb123 => ?_)
  refine xg_t (xg_aload (va := (2, 3)) rfl rfl) ?_
  refine xg_t (xg_aload (va := (2, 28)) rfl rfl) ?_
  refine xg_t (xg_getf (va := (0, f28_16)) (hb123.get (by decide) (hb120.get (by decide) (hF117.get (by decide) (hF110.get (by decide) (hF103.get (by decide) (hF96.get (by decide) (hF89.get (by decide) h28_22))))))) rfl) ?_
  refine xg_putI (fl1 := [(2, 4), (2, 6), (2, 8), (2, 10), (2, 12), (0, f28_12), (0, f28_14), (0, f28_16), (0, f3_7), (0, f3_9)]) hk122 rfl rfl rfl (fun w124 hk125 hb126 => ?_)
  refine xg_t (xg_aload (va := (2, 3)) rfl rfl) ?_
  refine xg_t (xg_aload (va := (2, 28)) rfl rfl) ?_
  refine xg_t (xg_getf (va := (0, f28_18)) (hb126.get (by decide) (hb123.get (by decide) (hb120.get (by decide) (hF117.get (by decide) (hF110.get (by decide) (hF103.get (by decide) (hF96.get (by decide) (hF89.get (by decide) h28_22)))))))) rfl) ?_
  refine xg_putI (fl1 := [(2, 4), (2, 6), (2, 8), (2, 10), (2, 12), (0, f28_12), (0, f28_14), (0, f28_16), (0, f28_18), (0, f3_9)]) hk125 rfl rfl rfl (fun w127 hk128 hb129 => ?_)
  refine xg_t (xg_aload (va := (2, 3)) rfl rfl) ?_
  refine xg_t (xg_aload (va := (2, 28)) rfl rfl) ?_
  refine xg_t (xg_getf (va := (0, f28_20)) (hb129.get (by decide) (hb126.get (by decide) (hb123.get (by decide) (hb120.get (by decide) (hF117.get (by decide) (hF110.get (by decide) (hF103.get (by decide) (hF96.get (by decide) (hF89.get (by decide) h28_22))))))))) rfl) ?_
  refine xg_putI (fl1 := [(2, 4), (2, 6), (2, 8), (2, 10), (2, 12), (0, f28_12), (0, f28_14), (0, f28_16), (0, f28_18), (0, f28_20)]) hk128 rfl rfl rfl (fun w130 hk131 hb132 => ?_)
  exact xg_e ⟨w130, ⟨rfl, rfl⟩, xInv.up (S := [4, 5, 6, 7, 8, 9, 10, 11, 12, 13, 3]) hI ((((((((((hF89.up (T := [4, 5, 6, 7, 8, 9, 10, 11, 12, 13, 3]) (by decide)).tr (hF96.up (T := [4, 5, 6, 7, 8, 9, 10, 11, 12, 13, 3]) (by decide))).tr (hF103.up (T := [4, 5, 6, 7, 8, 9, 10, 11, 12, 13, 3]) (by decide))).tr (hF110.up (T := [4, 5, 6, 7, 8, 9, 10, 11, 12, 13, 3]) (by decide))).tr (hF117.up (T := [4, 5, 6, 7, 8, 9, 10, 11, 12, 13, 3]) (by decide))).tr (xFr.of (S := [4, 5, 6, 7, 8, 9, 10, 11, 12, 13, 3]) hb120 (by decide))).tr (xFr.of (S := [4, 5, 6, 7, 8, 9, 10, 11, 12, 13, 3]) hb123 (by decide))).tr (xFr.of (S := [4, 5, 6, 7, 8, 9, 10, 11, 12, 13, 3]) hb126 (by decide))).tr (xFr.of (S := [4, 5, 6, 7, 8, 9, 10, 11, 12, 13, 3]) hb129 (by decide))).tr (xFr.of (S := [4, 5, 6, 7, 8, 9, 10, 11, 12, 13, 3]) hb132 (by decide))) (List.forall_mem_cons.mpr ⟨(show cp4 (wget w130 4) from ⟨f29_29, (hb132.get (by decide) (hb129.get (by decide) (hb126.get (by decide) (hb123.get (by decide) (hb120.get (by decide) (hF117.get (by decide) (hF110.get (by decide) (hF103.get (by decide) (hF96.get (by decide) hk85))))))))), by omega⟩), List.forall_mem_cons.mpr ⟨(show cpI 24 1 4294967295 (wget w130 5) from ⟨_, (((((((((hr87.fr hF96 (by decide)).fr hF103 (by decide)).fr hF110 (by decide)).fr hF117 (by decide)).but hb120 (by decide)).but hb123 (by decide)).but hb126 (by decide)).but hb129 (by decide)).but hb132 (by decide)), hb88⟩), List.forall_mem_cons.mpr ⟨(show cp6 (wget w130 6) from ⟨f31_41, (hb132.get (by decide) (hb129.get (by decide) (hb126.get (by decide) (hb123.get (by decide) (hb120.get (by decide) (hF117.get (by decide) (hF110.get (by decide) (hF103.get (by decide) hk92)))))))), by omega⟩), List.forall_mem_cons.mpr ⟨(show cpI 8 2 4294967295 (wget w130 7) from ⟨_, ((((((((hr94.fr hF103 (by decide)).fr hF110 (by decide)).fr hF117 (by decide)).but hb120 (by decide)).but hb123 (by decide)).but hb126 (by decide)).but hb129 (by decide)).but hb132 (by decide)), hb95⟩), List.forall_mem_cons.mpr ⟨(show cp8 (wget w130 8) from ⟨f33_53, (hb132.get (by decide) (hb129.get (by decide) (hb126.get (by decide) (hb123.get (by decide) (hb120.get (by decide) (hF117.get (by decide) (hF110.get (by decide) hk99))))))), by omega⟩), List.forall_mem_cons.mpr ⟨(show cpI 12 3 4294967295 (wget w130 9) from ⟨_, (((((((hr101.fr hF110 (by decide)).fr hF117 (by decide)).but hb120 (by decide)).but hb123 (by decide)).but hb126 (by decide)).but hb129 (by decide)).but hb132 (by decide)), hb102⟩), List.forall_mem_cons.mpr ⟨(show cp10 (wget w130 10) from ⟨f35_65, (hb132.get (by decide) (hb129.get (by decide) (hb126.get (by decide) (hb123.get (by decide) (hb120.get (by decide) (hF117.get (by decide) hk106)))))), by omega⟩), List.forall_mem_cons.mpr ⟨(show cpI 12 4 4294967295 (wget w130 11) from ⟨_, ((((((hr108.fr hF117 (by decide)).but hb120 (by decide)).but hb123 (by decide)).but hb126 (by decide)).but hb129 (by decide)).but hb132 (by decide)), hb109⟩), List.forall_mem_cons.mpr ⟨(show cp12 (wget w130 12) from ⟨f37_77, (hb132.get (by decide) (hb129.get (by decide) (hb126.get (by decide) (hb123.get (by decide) (hb120.get (by decide) hk113))))), by omega⟩), List.forall_mem_cons.mpr ⟨(show cpI 40 5 4294967295 (wget w130 13) from ⟨_, (((((hr115.but hb120 (by decide)).but hb123 (by decide)).but hb126 (by decide)).but hb129 (by decide)).but hb132 (by decide)), hb116⟩), List.forall_mem_cons.mpr ⟨(show cp3 (wget w130 3) from ⟨f28_12, f28_14, f28_16, f28_18, f28_20, hk131, by omega, by omega, by omega, by omega, by omega⟩), fun _ h => absurd h List.not_mem_nil⟩⟩⟩⟩⟩⟩⟩⟩⟩⟩⟩), ((((((((((hF89.up (T := [3, 4, 5, 6, 7, 8, 9, 10, 11, 12, 13]) (by decide)).tr (hF96.up (T := [3, 4, 5, 6, 7, 8, 9, 10, 11, 12, 13]) (by decide))).tr (hF103.up (T := [3, 4, 5, 6, 7, 8, 9, 10, 11, 12, 13]) (by decide))).tr (hF110.up (T := [3, 4, 5, 6, 7, 8, 9, 10, 11, 12, 13]) (by decide))).tr (hF117.up (T := [3, 4, 5, 6, 7, 8, 9, 10, 11, 12, 13]) (by decide))).tr (xFr.of (S := [3, 4, 5, 6, 7, 8, 9, 10, 11, 12, 13]) hb120 (by decide))).tr (xFr.of (S := [3, 4, 5, 6, 7, 8, 9, 10, 11, 12, 13]) hb123 (by decide))).tr (xFr.of (S := [3, 4, 5, 6, 7, 8, 9, 10, 11, 12, 13]) hb126 (by decide))).tr (xFr.of (S := [3, 4, 5, 6, 7, 8, 9, 10, 11, 12, 13]) hb129 (by decide))).tr (xFr.of (S := [3, 4, 5, 6, 7, 8, 9, 10, 11, 12, 13]) hb132 (by decide)))⟩
end XFM
