/-! the model: rules told, asked -/
section XMF
variable {d : Nat} {w : List (List xE)} {bd : List (Nat × Nat)} {fc : List (Nat × Nat × Bool)} {rr : Nat × Nat}
theorem mSlides (hI : xMnv w)  : xPi d mX12_slides [(2, 82)] w bd fc rr (fun n w' => (n ≤ 4294967295) ∧ xMnv w' ∧ xFr [] w w') := by
  refine xPi.of ?_
  show xTo d mX12_slides (0, [], [(0, (2, 82))], [], (w, bd, fc, 0, 0, rr)) (fun φ => ∃ n w', xEnd 1 [(0, n)] (w', bd, fc, 0, 0, rr) φ ∧ (n ≤ 4294967295) ∧ xMnv w' ∧ xFr [] w w')
  obtain ⟨f82_1, f82_3, f82_5, f82_7, f82_9, f82_11, f82_13, f82_15, f82_17, f82_19, f82_21, f82_22, f82_23, f82_25, f82_27, f82_29, h82_31, hb2, hb4, hb6, hb8, hb10, hb12, hb14, hb16, hb18, hb20, hb24, hb26, hb28, hb30, hb32⟩ := (hI 82 (by decide) (by decide) : cp82 (wget w 82))
  replace hb4 := xHid.of hb4
  replace hb10 := xHid.of hb10
  replace hb14 := xHid.of hb14
  replace hb16 := xHid.of hb16
  replace hb20 := xHid.of hb20
  replace hb24 := xHid.of hb24
  replace hb26 := xHid.of hb26
  replace hb28 := xHid.of hb28
  replace hb30 := xHid.of hb30
  obtain ⟨g83_33, h83_34, hb35, hx36⟩ := (hI 83 (by decide) (by decide) : cpx83 (wget w 83))
  have h83_34 : xRow w 83 5360 50 g83_33 := h83_34
  refine xg_t (xg_blk (b := [(0, 1, 3, 0, 0, 0), (1, 1, 15, 1, 0, 0), (2, 1, 3, 0, 0, 0), (3, 1, 15, 2, 0, 0)]) rfl) ?_
  refine xg_t (xg_const) ?_
  refine xg_t (xg_istore (l1 := [(0, (2, 82))]) rfl rfl rfl) ?_
  refine xg_t (xg_const) ?_
  refine xg_t (xg_istore (l1 := [(1, (0, 0)), (0, (2, 82))]) rfl rfl rfl) ?_
  refine xg_t (xg_drop (l1 := [(0, (2, 82)), (1, (0, 0)), (2, (0, 0))]) (List.forall_mem_cons.mpr ⟨List.mem_cons_of_mem _ (List.mem_cons_of_mem _ (List.mem_cons_self)), List.forall_mem_cons.mpr ⟨List.mem_cons_of_mem _ (List.mem_cons_self), List.forall_mem_cons.mpr ⟨List.mem_cons_self, fun _ h => absurd h List.not_mem_nil⟩⟩⟩)) ?_
  have key37 : ∀ (m39 : Nat) (is_ ki : Nat) (w40 : List (List xE)), 6 - ki < m39 → is_ ≤ 4294967295 → ki ≤ 6 → xMnv w40 → xFr [] w w40 → xTo d mX12_slides (4, [], [(0, (2, 82)), (1, (0, is_)), (2, (0, ki))], [], (w40, bd, fc, 0, 0, rr)) (fun φ => ∃ n w', xEnd 1 [(0, n)] (w', bd, fc, 0, 0, rr) φ ∧ (n ≤ 4294967295) ∧ xMnv w' ∧ xFr [] w w') := by
    intro m39
    induction m39 with
    | zero => intro is_ ki w40 hz; exact absurd hz (Nat.not_lt_zero _)
    | succ m39 ih38 =>
      intro is_ ki w40 hm45 hn43 hn44 hI41 hF42
      refine xg_t (xg_blk (b := [(4, 1, 2, 2, 0, 0), (5, 1, 0, 0, 0, 0), (6, 3, 1, 12, 0, 7), (9, 1, 3, 0, 0, 0), (10, 1, 10, 0, 0, 0), (11, 1, 3, 1, 0, 0), (12, 1, 18, 0, 0, 0), (13, 3, 6, 38, 3, 0), (16, 1, 2, 1, 0, 0), (17, 1, 0, 0, 0, 0), (18, 3, 1, 12, 0, 7), (21, 2, 4, 20, 0, 0), (23, 1, 3, 4, 0, 0), (24, 1, 2, 2, 0, 0), (25, 1, 16, 0, 0, 0), (26, 1, 11, 0, 0, 0), (27, 1, 3, 3, 0, 0), (28, 1, 11, 0, 0, 0), (29, 1, 10, 0, 0, 0), (30, 1, 38, 0, 0, 0), (31, 1, 15, 1, 0, 0), (32, 3, 9, 2, 1, 0), (35, 3, 8, 4, 0, 0)]) rfl) ?_
      refine xg_t (xg_iload (va := (0, ki)) rfl rfl) ?_
      refine xg_t (xg_aload (va := (2, 82)) rfl rfl) ?_
      refine xg_t (xg_getf (va := (2, 83)) (hF42.get (by decide) h82_31) rfl) ?_
      refine xg_t (xg_const) ?_
      refine xg_ialdB (n := 0) (B := 4294967295) (h83_34.fr hF42 (by decide)) (hb35) xnm0 (by omega) (fun u46 hu47 he48 => ?_)
      have hl49 : u46 ≤ 6 := by rw [← he48]; exact hx36.l0
      refine xg_t (xg_const) ?_
      by_cases hc50 : 1 ≤ u46
      · refine xg_t (xg_isub (u := u46) (v := 1) (z := u46 - 1) xnm0 xnm0 (by omega)) ?_
        by_cases hc51 : ki < (u46 - 1)
        · refine xg_t (xg_icF (u := ki) (v := u46 - 1) rfl xnm0 xnm0 (xj_geF hc51 (by omega))) ?_
          refine xg_t (xg_iload (va := (0, is_)) rfl rfl) ?_
          refine xg_t (xg_aload (va := (2, 82)) rfl rfl) ?_
          refine xg_t (xg_getf (va := (2, 83)) (hF42.get (by decide) h82_31) rfl) ?_
          refine xg_t (xg_bip) ?_
          refine xg_t (xg_const) ?_
          refine xg_t (xg_iload (va := (0, ki)) rfl rfl) ?_
          refine xg_t (xg_imul (u := 4) (v := ki) (z := 4 * ki) xnm0 xnm0 (by omega)) ?_
          refine xg_t (xg_iadd (u := 20) (v := 4 * ki) (z := 20 + (4 * ki)) xnm0 xnm0 (by omega)) ?_
          refine xg_t (xg_const) ?_
          refine xg_t (xg_iadd (u := 20 + (4 * ki)) (v := 3) (z := (20 + (4 * ki)) + 3) xnm0 xnm0 (by omega)) ?_
          refine xg_ialdB (n := (20 + (4 * ki)) + 3) (B := 4294967295) (h83_34.fr hF42 (by decide)) (hb35) xnm0 (by omega) (fun u52 hu53 he54 => ?_)
          refine xg_k (xg_ior (z := Nat.lor is_ u52) (u := is_) (v := u52) xnm0 xnm0 rfl) (xlor_lt (by omega) (by omega)) (fun z55 hz56 => ?_)
          refine xg_t (xg_istore (l1 := [(0, (2, 82)), (2, (0, ki))]) rfl rfl rfl) ?_
          refine xg_t (xg_iinc (u := ki) (z := ki + 1) (l1 := [(1, (0, z55)), (0, (2, 82))]) rfl rfl (by omega) rfl) ?_
          refine xg_t (xg_goto) ?_
          refine xg_t (xg_drop (l1 := [(0, (2, 82)), (1, (0, z55)), (2, (0, ki + 1))]) (List.forall_mem_cons.mpr ⟨List.mem_cons_of_mem _ (List.mem_cons_of_mem _ (List.mem_cons_self)), List.forall_mem_cons.mpr ⟨List.mem_cons_of_mem _ (List.mem_cons_self), List.forall_mem_cons.mpr ⟨List.mem_cons_self, fun _ h => absurd h List.not_mem_nil⟩⟩⟩)) ?_
          exact ih38 z55 (ki + 1) w40 (by omega) (by omega) (by omega) (hI41) (hF42)
        · refine xg_t (xg_icT (u := ki) (v := u46 - 1) rfl xnm0 xnm0 (xj_geT (by omega) (by omega))) ?_
          refine xg_t (xg_blk (b := [(38, 1, 2, 1, 0, 0), (39, 1, 12, 0, 1, 0)]) rfl) ?_
          refine xg_t (xg_iload (va := (0, is_)) rfl rfl) ?_
          exact xg_e ⟨is_, w40, ⟨rfl, rfl⟩, by omega, hI41, hF42⟩
      · have hz59 : 4294967295 ≤ (u46 + (4294967296 - 1)) % 4294967296 := by omega
        refine xg_t (xg_isub (u := u46) (v := 1) (z := (u46 + (4294967296 - 1)) % 4294967296) xnm0 xnm0 rfl) ?_
        have hz58 : (u46 + (4294967296 - 1)) % 4294967296 < 4294967296 := Nat.mod_lt _ (by decide)
        generalize (u46 + (4294967296 - 1)) % 4294967296 = z57 at hz59 hz58 ⊢
        refine xg_t (xg_icT (u := ki) (v := z57) rfl xnm0 xnm0 (xjs_geT (by unfold xbs; omega))) ?_
        refine xg_t (xg_blk (b := [(38, 1, 2, 1, 0, 0), (39, 1, 12, 0, 1, 0)]) rfl) ?_
        refine xg_t (xg_iload (va := (0, is_)) rfl rfl) ?_
        exact xg_e ⟨is_, w40, ⟨rfl, rfl⟩, by omega, hI41, hF42⟩
  exact key37 _ 0 0 w (Nat.lt_succ_self _) (by omega) (by omega) (hI) (xFr.rf)
theorem mCount {wh : Nat} (hI : xMnv w) (hwh : wh ≤ 4294967295) : xPi (d + 1) mX12_count [(2, 82), (0, wh)] w bd fc rr (fun n w' => (n ≤ 4294967295) ∧ xMnv w' ∧ xFr [] w w') := by
  refine xPi.of ?_
  show xTo (d + 1) mX12_count (0, [], [(0, (2, 82)), (1, (0, wh))], [], (w, bd, fc, 0, 0, rr)) (fun φ => ∃ n w', xEnd 1 [(0, n)] (w', bd, fc, 0, 0, rr) φ ∧ (n ≤ 4294967295) ∧ xMnv w' ∧ xFr [] w w')
  obtain ⟨f82_1, f82_3, f82_5, f82_7, f82_9, f82_11, f82_13, f82_15, f82_17, f82_19, f82_21, f82_22, f82_23, f82_25, f82_27, f82_29, h82_31, hb2, hb4, hb6, hb8, hb10, hb12, hb14, hb16, hb18, hb20, hb24, hb26, hb28, hb30, hb32⟩ := (hI 82 (by decide) (by decide) : cp82 (wget w 82))
  replace hb4 := xHid.of hb4
  replace hb10 := xHid.of hb10
  replace hb14 := xHid.of hb14
  replace hb16 := xHid.of hb16
  replace hb20 := xHid.of hb20
  replace hb24 := xHid.of hb24
  replace hb26 := xHid.of hb26
  replace hb28 := xHid.of hb28
  replace hb30 := xHid.of hb30
  obtain ⟨g83_33, h83_34, hb35, hx36⟩ := (hI 83 (by decide) (by decide) : cpx83 (wget w 83))
  have h83_34 : xRow w 83 5360 50 g83_33 := h83_34
  refine xg_t (xg_blk (b := [(0, 1, 2, 1, 0, 0), (1, 31, 33, 64, 0, 11)]) rfl) ?_
  refine xg_t (xg_iload (va := (0, wh)) rfl rfl) ?_
  by_cases hc37 : wh = 15
  · refine xg_t (xg_swt (ks := [(15, 32), (16, 41), (17, 50), (18, 59)]) (u := wh) (z := 32) rfl rfl rfl xnm0 (xsw_y hc37)) ?_
    refine xg_t (xg_blk (b := [(32, 1, 0, 0, 0, 0), (33, 3, 1, 12, 0, 7), (36, 3, 5, 900, 0, 0), (39, 1, 10, 0, 0, 0), (40, 1, 12, 0, 1, 0)]) rfl) ?_
    refine xg_t (xg_aload (va := (2, 82)) rfl rfl) ?_
    refine xg_t (xg_getf (va := (2, 83)) h82_31 rfl) ?_
    refine xg_t (xg_sip) ?_
    refine xg_ialdB (n := 900) (B := 4294967295) h83_34 (hb35) xnm0 (by omega) (fun u38 hu39 he40 => ?_)
    have hl41 : u38 ≤ 4 := by rw [← he40]; exact hx36.l900
    exact xg_e ⟨u38, w, ⟨rfl, rfl⟩, by omega, hI, xFr.rf⟩
  · by_cases hc42 : wh = 16
    · refine xg_t (xg_swt (ks := [(15, 32), (16, 41), (17, 50), (18, 59)]) (u := wh) (z := 41) rfl rfl rfl xnm0 (xsw_n hc37 (xsw_y hc42))) ?_
      refine xg_t (xg_blk (b := [(41, 1, 0, 0, 0, 0), (42, 3, 1, 12, 0, 7), (45, 3, 5, 901, 0, 0), (48, 1, 10, 0, 0, 0), (49, 1, 12, 0, 1, 0)]) rfl) ?_
      refine xg_t (xg_aload (va := (2, 82)) rfl rfl) ?_
      refine xg_t (xg_getf (va := (2, 83)) h82_31 rfl) ?_
      refine xg_t (xg_sip) ?_
      refine xg_ialdB (n := 901) (B := 4294967295) h83_34 (hb35) xnm0 (by omega) (fun u43 hu44 he45 => ?_)
      have hl46 : u43 ≤ 12 := by rw [← he45]; exact hx36.l901
      exact xg_e ⟨u43, w, ⟨rfl, rfl⟩, by omega, hI, xFr.rf⟩
    · by_cases hc47 : wh = 17
      · refine xg_t (xg_swt (ks := [(15, 32), (16, 41), (17, 50), (18, 59)]) (u := wh) (z := 50) rfl rfl rfl xnm0 (xsw_n hc37 (xsw_n hc42 (xsw_y hc47)))) ?_
        refine xg_t (xg_blk (b := [(50, 1, 0, 0, 0, 0), (51, 3, 1, 12, 0, 7), (54, 3, 5, 902, 0, 0), (57, 1, 10, 0, 0, 0), (58, 1, 12, 0, 1, 0)]) rfl) ?_
        refine xg_t (xg_aload (va := (2, 82)) rfl rfl) ?_
        refine xg_t (xg_getf (va := (2, 83)) h82_31 rfl) ?_
        refine xg_t (xg_sip) ?_
        refine xg_ialdB (n := 902) (B := 4294967295) h83_34 (hb35) xnm0 (by omega) (fun u48 hu49 he50 => ?_)
        have hl51 : u48 ≤ 16 := by rw [← he50]; exact hx36.l902
        exact xg_e ⟨u48, w, ⟨rfl, rfl⟩, by omega, hI, xFr.rf⟩
      · by_cases hc52 : wh = 18
        · refine xg_t (xg_swt (ks := [(15, 32), (16, 41), (17, 50), (18, 59)]) (u := wh) (z := 59) rfl rfl rfl xnm0 (xsw_n hc37 (xsw_n hc42 (xsw_n hc47 (xsw_y hc52))))) ?_
          refine xg_t (xg_blk (b := [(59, 1, 0, 0, 0, 0), (60, 3, 13, 130, 96, 376), (63, 1, 12, 0, 1, 0)]) rfl) ?_
          refine xg_t (xg_aload (va := (2, 82)) rfl rfl) ?_
          refine xg_cVi mX12_cracksSeen (vs := []) (rest := []) (cn1 := 0) (sl1 := 0) rfl (mSeen (hI)) rfl h82_31 rfl rfl rfl rfl rfl rfl (fun n57 w53 hq54 => ?_)
          obtain ⟨hn58, hI55, hF56⟩ := hq54
          exact xg_e ⟨n57, w53, ⟨rfl, rfl⟩, by omega, hI55, (hF56.up (by decide))⟩
        · refine xg_t (xg_swt (ks := [(15, 32), (16, 41), (17, 50), (18, 59)]) (u := wh) (z := 64) rfl rfl rfl xnm0 (xsw_n hc37 (xsw_n hc42 (xsw_n hc47 (xsw_n hc52 (xsw_d)))))) ?_
          refine xg_t (xg_blk (b := [(64, 1, 2, 1, 0, 0), (65, 1, 3, 0, 0, 0), (66, 2, 4, 14, 0, 0), (68, 3, 13, 161, 98, 105), (71, 3, 7, 83, 0, 0), (74, 1, 0, 0, 0, 0), (75, 3, 1, 12, 0, 7), (78, 1, 2, 1, 0, 0), (79, 1, 10, 0, 0, 0), (80, 3, 8, 85, 0, 0)]) rfl) ?_
          refine xg_t (xg_iload (va := (0, wh)) rfl rfl) ?_
          refine xg_t (xg_const) ?_
          refine xg_t (xg_bip) ?_
          refine xg_t (xg_cSr mX12_isIn (vs := [(0, wh), (0, 0), (0, 14)]) (rest := []) (rs := [(0, if 0 ≤ wh ∧ wh ≤ 14 then 1 else 0)]) (cn1 := 0) (sl1 := 0) rfl (mIsIn (by omega) (by omega) (by omega)) rfl rfl rfl rfl rfl rfl rfl rfl) ?_
          by_cases hc59 : 0 ≤ wh ∧ wh ≤ 14
          · refine xg_t (xg_ifF (u := (if 0 ≤ wh ∧ wh ≤ 14 then 1 else 0)) rfl xnm0 (xj_eqF (xite1 hc59))) ?_
            refine xg_t (xg_aload (va := (2, 82)) rfl rfl) ?_
            refine xg_t (xg_getf (va := (2, 83)) h82_31 rfl) ?_
            refine xg_t (xg_iload (va := (0, wh)) rfl rfl) ?_
            refine xg_ialdB (n := wh) (B := 4294967295) h83_34 (hb35) xnm0 (by omega) (fun u60 hu61 he62 => ?_)
            refine xg_t (xg_goto) ?_
            refine xg_t (xg_blk (b := [(85, 1, 12, 0, 1, 0)]) rfl) ?_
            exact xg_e ⟨u60, w, ⟨rfl, rfl⟩, by omega, hI, xFr.rf⟩
          · refine xg_t (xg_ifT (u := (if 0 ≤ wh ∧ wh ≤ 14 then 1 else 0)) rfl xnm0 (xj_eqT (xite0 hc59))) ?_
            refine xg_t (xg_blk (b := [(83, 2, 4, 4294967294, 0, 0)]) rfl) ?_
            refine xg_t (xg_bip) ?_
            refine xg_t (xg_blk (b := [(85, 1, 12, 0, 1, 0)]) rfl) ?_
            exact xg_e ⟨4294967294, w, ⟨rfl, rfl⟩, by omega, hI, xFr.rf⟩
theorem mAsked {wh : Nat} (hI : xMnv w) (hwh : wh ≤ 4294967295) : xPi (d + 7) mX12_asked [(2, 82), (0, wh)] w bd fc rr (fun n w' => (n ≤ 4294967295) ∧ xMnv w' ∧ xFr [82, 88, 90, 91, 92, 93, 94, 95, 96, 97, 98, 99, 100, 101, 102, 103, 104, 105, 106, 107, 111] w w') := by
  refine xPi.of ?_
  show xTo (d + 7) mX12_asked (0, [], [(0, (2, 82)), (1, (0, wh))], [], (w, bd, fc, 0, 0, rr)) (fun φ => ∃ n w', xEnd 1 [(0, n)] (w', bd, fc, 0, 0, rr) φ ∧ (n ≤ 4294967295) ∧ xMnv w' ∧ xFr [82, 88, 90, 91, 92, 93, 94, 95, 96, 97, 98, 99, 100, 101, 102, 103, 104, 105, 106, 107, 111] w w')
  obtain ⟨f82_1, f82_3, f82_5, f82_7, f82_9, f82_11, f82_13, f82_15, f82_17, f82_19, f82_21, f82_22, f82_23, f82_25, f82_27, f82_29, h82_31, hb2, hb4, hb6, hb8, hb10, hb12, hb14, hb16, hb18, hb20, hb24, hb26, hb28, hb30, hb32⟩ := (hI 82 (by decide) (by decide) : cp82 (wget w 82))
  replace hb4 := xHid.of hb4
  replace hb10 := xHid.of hb10
  replace hb14 := xHid.of hb14
  replace hb16 := xHid.of hb16
  replace hb20 := xHid.of hb20
  replace hb24 := xHid.of hb24
  replace hb26 := xHid.of hb26
  replace hb28 := xHid.of hb28
  replace hb30 := xHid.of hb30
  obtain ⟨g83_33, h83_34, hb35, hx36⟩ := (hI 83 (by decide) (by decide) : cpx83 (wget w 83))
  have h83_34 : xRow w 83 5360 50 g83_33 := h83_34
  refine xg_t (xg_blk (b := [(0, 1, 2, 1, 0, 0), (1, 55, 33, 162, 0, 10)]) rfl) ?_
  refine xg_t (xg_iload (va := (0, wh)) rfl rfl) ?_
  by_cases hc37 : wh = 20
  · refine xg_t (xg_swt (ks := [(20, 56), (21, 61), (22, 74), (23, 81), (24, 99), (25, 106), (26, 111), (27, 116), (28, 152), (29, 157)]) (u := wh) (z := 56) rfl rfl rfl xnm0 (xsw_y hc37)) ?_
    refine xg_t (xg_blk (b := [(56, 1, 0, 0, 0, 0), (57, 3, 13, 222, 96, 433), (60, 1, 12, 0, 1, 0)]) rfl) ?_
    refine xg_t (xg_aload (va := (2, 82)) rfl rfl) ?_
    refine xg_cVi mX12_slides (vs := []) (rest := []) (cn1 := 0) (sl1 := 0) rfl (mSlides (hI)) rfl h82_31 rfl rfl rfl rfl rfl rfl (fun n42 w38 hq39 => ?_)
    obtain ⟨hn43, hI40, hF41⟩ := hq39
    exact xg_e ⟨n42, w38, ⟨rfl, rfl⟩, by omega, hI40, (hF41.up (by decide))⟩
  · by_cases hc44 : wh = 21
    · refine xg_t (xg_swt (ks := [(20, 56), (21, 61), (22, 74), (23, 81), (24, 99), (25, 106), (26, 111), (27, 116), (28, 152), (29, 157)]) (u := wh) (z := 61) rfl rfl rfl xnm0 (xsw_n hc37 (xsw_y hc44))) ?_
      refine xg_t (xg_blk (b := [(61, 1, 0, 0, 0, 0), (62, 3, 13, 130, 96, 376), (65, 3, 7, 72, 1, 0), (68, 1, 3, 1, 0, 0), (69, 3, 8, 73, 0, 0)]) rfl) ?_
      refine xg_t (xg_aload (va := (2, 82)) rfl rfl) ?_
      refine xg_cVi mX12_cracksSeen (vs := []) (rest := []) (cn1 := 0) (sl1 := 0) rfl (mSeen (hI)) rfl h82_31 rfl rfl rfl rfl rfl rfl (fun n49 w45 hq46 => ?_)
      obtain ⟨hn50, hI47, hF48⟩ := hq46
      by_cases hc51 : n49 = 0
      · refine xg_t (xg_ifF (u := n49) rfl xnm0 (xj_neF hc51)) ?_
        refine xg_t (xg_const) ?_
        refine xg_t (xg_goto) ?_
        refine xg_t (xg_blk (b := [(73, 1, 12, 0, 1, 0)]) rfl) ?_
        exact xg_e ⟨1, w45, ⟨rfl, rfl⟩, by omega, hI47, (hF48.up (by decide))⟩
      · refine xg_t (xg_ifT (u := n49) rfl xnm0 (xj_neT hc51)) ?_
        refine xg_t (xg_blk (b := [(72, 1, 3, 0, 0, 0)]) rfl) ?_
        refine xg_t (xg_const) ?_
        refine xg_t (xg_blk (b := [(73, 1, 12, 0, 1, 0)]) rfl) ?_
        exact xg_e ⟨0, w45, ⟨rfl, rfl⟩, by omega, hI47, (hF48.up (by decide))⟩
    · by_cases hc52 : wh = 22
      · refine xg_t (xg_swt (ks := [(20, 56), (21, 61), (22, 74), (23, 81), (24, 99), (25, 106), (26, 111), (27, 116), (28, 152), (29, 157)]) (u := wh) (z := 74) rfl rfl rfl xnm0 (xsw_n hc37 (xsw_n hc44 (xsw_y hc52)))) ?_
        refine xg_t (xg_blk (b := [(74, 1, 0, 0, 0, 0), (75, 3, 1, 12, 0, 7), (78, 1, 3, 0, 0, 0), (79, 1, 10, 0, 0, 0), (80, 1, 12, 0, 1, 0)]) rfl) ?_
        refine xg_t (xg_aload (va := (2, 82)) rfl rfl) ?_
        refine xg_t (xg_getf (va := (2, 83)) h82_31 rfl) ?_
        refine xg_t (xg_const) ?_
        refine xg_ialdB (n := 0) (B := 4294967295) h83_34 (hb35) xnm0 (by omega) (fun u53 hu54 he55 => ?_)
        have hl56 : u53 ≤ 6 := by rw [← he55]; exact hx36.l0
        exact xg_e ⟨u53, w, ⟨rfl, rfl⟩, by omega, hI, xFr.rf⟩
      · by_cases hc57 : wh = 23
        · refine xg_t (xg_swt (ks := [(20, 56), (21, 61), (22, 74), (23, 81), (24, 99), (25, 106), (26, 111), (27, 116), (28, 152), (29, 157)]) (u := wh) (z := 81) rfl rfl rfl xnm0 (xsw_n hc37 (xsw_n hc44 (xsw_n hc52 (xsw_y hc57))))) ?_
          refine xg_t (xg_blk (b := [(81, 1, 0, 0, 0, 0), (82, 3, 1, 12, 0, 7), (85, 1, 3, 0, 0, 0), (86, 1, 10, 0, 0, 0), (87, 3, 7, 94, 1, 0), (90, 1, 3, 0, 0, 0), (91, 3, 8, 98, 0, 0)]) rfl) ?_
          refine xg_t (xg_aload (va := (2, 82)) rfl rfl) ?_
          refine xg_t (xg_getf (va := (2, 83)) h82_31 rfl) ?_
          refine xg_t (xg_const) ?_
          refine xg_ialdB (n := 0) (B := 4294967295) h83_34 (hb35) xnm0 (by omega) (fun u58 hu59 he60 => ?_)
          have hl61 : u58 ≤ 6 := by rw [← he60]; exact hx36.l0
          by_cases hc62 : u58 = 0
          · refine xg_t (xg_ifF (u := u58) rfl xnm0 (xj_neF hc62)) ?_
            refine xg_t (xg_const) ?_
            refine xg_t (xg_goto) ?_
            refine xg_t (xg_blk (b := [(98, 1, 12, 0, 1, 0)]) rfl) ?_
            exact xg_e ⟨0, w, ⟨rfl, rfl⟩, by omega, hI, xFr.rf⟩
          · refine xg_t (xg_ifT (u := u58) rfl xnm0 (xj_neT hc62)) ?_
            refine xg_t (xg_blk (b := [(94, 1, 0, 0, 0, 0), (95, 3, 13, 184, 96, 436)]) rfl) ?_
            refine xg_t (xg_aload (va := (2, 82)) rfl rfl) ?_
            refine xg_cVi mX12_least (vs := []) (rest := []) (cn1 := 0) (sl1 := 0) rfl (mLeast (hI)) rfl h82_31 rfl rfl rfl rfl rfl rfl (fun n67 w63 hq64 => ?_)
            obtain ⟨hn68, hI65, hF66⟩ := hq64
            refine xg_t (xg_blk (b := [(98, 1, 12, 0, 1, 0)]) rfl) ?_
            exact xg_e ⟨n67, w63, ⟨rfl, rfl⟩, by omega, hI65, (hF66.up (by decide))⟩
        · by_cases hc69 : wh = 24
          · refine xg_t (xg_swt (ks := [(20, 56), (21, 61), (22, 74), (23, 81), (24, 99), (25, 106), (26, 111), (27, 116), (28, 152), (29, 157)]) (u := wh) (z := 99) rfl rfl rfl xnm0 (xsw_n hc37 (xsw_n hc44 (xsw_n hc52 (xsw_n hc57 (xsw_y hc69)))))) ?_
            refine xg_t (xg_blk (b := [(99, 1, 0, 0, 0, 0), (100, 3, 1, 12, 0, 7), (103, 1, 3, 5, 0, 0), (104, 1, 10, 0, 0, 0), (105, 1, 12, 0, 1, 0)]) rfl) ?_
            refine xg_t (xg_aload (va := (2, 82)) rfl rfl) ?_
            refine xg_t (xg_getf (va := (2, 83)) h82_31 rfl) ?_
            refine xg_t (xg_const) ?_
            refine xg_ialdB (n := 5) (B := 4294967295) h83_34 (hb35) xnm0 (by omega) (fun u70 hu71 he72 => ?_)
            have hl73 : u70 ≤ 6 := by rw [← he72]; exact hx36.l5
            exact xg_e ⟨u70, w, ⟨rfl, rfl⟩, by omega, hI, xFr.rf⟩
          · by_cases hc74 : wh = 25
            · refine xg_t (xg_swt (ks := [(20, 56), (21, 61), (22, 74), (23, 81), (24, 99), (25, 106), (26, 111), (27, 116), (28, 152), (29, 157)]) (u := wh) (z := 106) rfl rfl rfl xnm0 (xsw_n hc37 (xsw_n hc44 (xsw_n hc52 (xsw_n hc57 (xsw_n hc69 (xsw_y hc74))))))) ?_
              refine xg_t (xg_blk (b := [(106, 1, 0, 0, 0, 0), (107, 3, 13, 193, 96, 439), (110, 1, 12, 0, 1, 0)]) rfl) ?_
              refine xg_t (xg_aload (va := (2, 82)) rfl rfl) ?_
              refine xg_cVi mX12_most (vs := []) (rest := []) (cn1 := 0) (sl1 := 0) rfl (mMost (hI)) rfl h82_31 rfl rfl rfl rfl rfl rfl (fun n79 w75 hq76 => ?_)
              obtain ⟨hn80, hI77, hF78⟩ := hq76
              exact xg_e ⟨n79, w75, ⟨rfl, rfl⟩, by omega, hI77, (hF78.up (by decide))⟩
            · by_cases hc81 : wh = 26
              · refine xg_t (xg_swt (ks := [(20, 56), (21, 61), (22, 74), (23, 81), (24, 99), (25, 106), (26, 111), (27, 116), (28, 152), (29, 157)]) (u := wh) (z := 111) rfl rfl rfl xnm0 (xsw_n hc37 (xsw_n hc44 (xsw_n hc52 (xsw_n hc57 (xsw_n hc69 (xsw_n hc74 (xsw_y hc81)))))))) ?_
                refine xg_t (xg_blk (b := [(111, 1, 0, 0, 0, 0), (112, 3, 13, 137, 96, 442), (115, 1, 12, 0, 1, 0)]) rfl) ?_
                refine xg_t (xg_aload (va := (2, 82)) rfl rfl) ?_
                refine xg_cVi mX12_darks (vs := []) (rest := []) (cn1 := 0) (sl1 := 0) rfl (mDarks (hI)) rfl h82_31 rfl rfl rfl rfl rfl rfl (fun n86 w82 hq83 => ?_)
                obtain ⟨hn87, hI84, hF85⟩ := hq83
                exact xg_e ⟨n86, w82, ⟨rfl, rfl⟩, by omega, hI84, (hF85.up (by decide))⟩
              · by_cases hc88 : wh = 27
                · refine xg_t (xg_swt (ks := [(20, 56), (21, 61), (22, 74), (23, 81), (24, 99), (25, 106), (26, 111), (27, 116), (28, 152), (29, 157)]) (u := wh) (z := 116) rfl rfl rfl xnm0 (xsw_n hc37 (xsw_n hc44 (xsw_n hc52 (xsw_n hc57 (xsw_n hc69 (xsw_n hc74 (xsw_n hc81 (xsw_y hc88))))))))) ?_
                  refine xg_t (xg_blk (b := [(116, 1, 0, 0, 0, 0), (117, 1, 3, 0, 0, 0), (118, 1, 3, 0, 0, 0), (119, 1, 0, 0, 0, 0), (120, 3, 1, 12, 0, 7), (123, 2, 4, 7, 0, 0), (125, 1, 10, 0, 0, 0), (126, 1, 0, 0, 0, 0), (127, 3, 1, 12, 0, 7), (130, 2, 4, 8, 0, 0), (132, 1, 10, 0, 0, 0), (133, 3, 13, 233, 96, 445), (136, 1, 15, 2, 0, 0), (137, 1, 2, 2, 0, 0), (138, 3, 5, 9999, 0, 0), (141, 3, 6, 150, 5, 0), (144, 3, 5, 9999, 0, 0), (147, 3, 8, 151, 0, 0)]) rfl) ?_
                  refine xg_t (xg_aload (va := (2, 82)) rfl rfl) ?_
                  refine xg_t (xg_const) ?_
                  refine xg_t (xg_const) ?_
                  refine xg_t (xg_aload (va := (2, 82)) rfl rfl) ?_
                  refine xg_t (xg_getf (va := (2, 83)) h82_31 rfl) ?_
                  refine xg_t (xg_bip) ?_
                  refine xg_ialdB (n := 7) (B := 4294967295) h83_34 (hb35) xnm0 (by omega) (fun u89 hu90 he91 => ?_)
                  have hl92 : u89 ≤ 10 := by rw [← he91]; exact hx36.l7
                  refine xg_t (xg_aload (va := (2, 82)) rfl rfl) ?_
                  refine xg_t (xg_getf (va := (2, 83)) h82_31 rfl) ?_
                  refine xg_t (xg_bip) ?_
                  refine xg_ialdB (n := 8) (B := 4294967295) h83_34 (hb35) xnm0 (by omega) (fun u93 hu94 he95 => ?_)
                  have hl96 : u93 ≤ 10 := by rw [← he95]; exact hx36.l8
                  refine xg_cVi mX12_value (vs := [(0, 0), (0, 0), (0, u89), (0, u93)]) (rest := []) (cn1 := 0) (sl1 := 0) rfl (mValue (hI) (by omega) (by omega) (by omega) (by omega)) rfl h82_31 rfl rfl rfl rfl rfl rfl (fun n101 w97 hq98 => ?_)
                  obtain ⟨hn102, hI99, hF100⟩ := hq98
                  refine xg_t (xg_istore (l1 := [(0, (2, 82)), (1, (0, wh))]) rfl rfl rfl) ?_
                  refine xg_t (xg_iload (va := (0, n101)) rfl rfl) ?_
                  refine xg_t (xg_sip) ?_
                  by_cases hc103 : xbs 9999 < xbs n101
                  · have hc103u := hc103
                    unfold xbs at hc103u
                    have hn104 : n101 ≤ 2147483647 := by omega
                    refine xg_t (xg_icF (u := n101) (v := 9999) rfl xnm0 xnm0 (xjs_leF hc103)) ?_
                    refine xg_t (xg_sip) ?_
                    refine xg_t (xg_goto) ?_
                    refine xg_t (xg_blk (b := [(151, 1, 12, 0, 1, 0)]) rfl) ?_
                    exact xg_e ⟨9999, w97, ⟨rfl, rfl⟩, by omega, hI99, (hF100.up (by decide))⟩
                  · have hc103u := hc103
                    unfold xbs at hc103u
                    refine xg_t (xg_icT (u := n101) (v := 9999) rfl xnm0 xnm0 (xjs_leT hc103)) ?_
                    refine xg_t (xg_blk (b := [(150, 1, 2, 2, 0, 0)]) rfl) ?_
                    refine xg_t (xg_iload (va := (0, n101)) rfl rfl) ?_
                    refine xg_t (xg_blk (b := [(151, 1, 12, 0, 1, 0)]) rfl) ?_
                    exact xg_e ⟨n101, w97, ⟨rfl, rfl⟩, by omega, hI99, (hF100.up (by decide))⟩
                · by_cases hc105 : wh = 28
                  · refine xg_t (xg_swt (ks := [(20, 56), (21, 61), (22, 74), (23, 81), (24, 99), (25, 106), (26, 111), (27, 116), (28, 152), (29, 157)]) (u := wh) (z := 152) rfl rfl rfl xnm0 (xsw_n hc37 (xsw_n hc44 (xsw_n hc52 (xsw_n hc57 (xsw_n hc69 (xsw_n hc74 (xsw_n hc81 (xsw_n hc88 (xsw_y hc105)))))))))) ?_
                    refine xg_t (xg_blk (b := [(152, 1, 0, 0, 0, 0), (153, 3, 13, 130, 96, 376), (156, 1, 12, 0, 1, 0)]) rfl) ?_
                    refine xg_t (xg_aload (va := (2, 82)) rfl rfl) ?_
                    refine xg_cVi mX12_cracksSeen (vs := []) (rest := []) (cn1 := 0) (sl1 := 0) rfl (mSeen (hI)) rfl h82_31 rfl rfl rfl rfl rfl rfl (fun n110 w106 hq107 => ?_)
                    obtain ⟨hn111, hI108, hF109⟩ := hq107
                    exact xg_e ⟨n110, w106, ⟨rfl, rfl⟩, by omega, hI108, (hF109.up (by decide))⟩
                  · by_cases hc112 : wh = 29
                    · refine xg_t (xg_swt (ks := [(20, 56), (21, 61), (22, 74), (23, 81), (24, 99), (25, 106), (26, 111), (27, 116), (28, 152), (29, 157)]) (u := wh) (z := 157) rfl rfl rfl xnm0 (xsw_n hc37 (xsw_n hc44 (xsw_n hc52 (xsw_n hc57 (xsw_n hc69 (xsw_n hc74 (xsw_n hc81 (xsw_n hc88 (xsw_n hc105 (xsw_y hc112))))))))))) ?_
                      refine xg_t (xg_blk (b := [(157, 1, 0, 0, 0, 0), (158, 3, 13, 190, 96, 409), (161, 1, 12, 0, 1, 0)]) rfl) ?_
                      refine xg_t (xg_aload (va := (2, 82)) rfl rfl) ?_
                      refine xg_cVi mX12_manyKept (vs := []) (rest := []) (cn1 := 0) (sl1 := 0) rfl (mManyKept (hI)) rfl h82_31 rfl rfl rfl rfl rfl rfl (fun n117 w113 hq114 => ?_)
                      obtain ⟨hn118, hI115, hF116⟩ := hq114
                      exact xg_e ⟨n117, w113, ⟨rfl, rfl⟩, by omega, hI115, (hF116.up (by decide))⟩
                    · refine xg_t (xg_swt (ks := [(20, 56), (21, 61), (22, 74), (23, 81), (24, 99), (25, 106), (26, 111), (27, 116), (28, 152), (29, 157)]) (u := wh) (z := 162) rfl rfl rfl xnm0 (xsw_n hc37 (xsw_n hc44 (xsw_n hc52 (xsw_n hc57 (xsw_n hc69 (xsw_n hc74 (xsw_n hc81 (xsw_n hc88 (xsw_n hc105 (xsw_n hc112 (xsw_d)))))))))))) ?_
                      refine xg_t (xg_blk (b := [(162, 1, 0, 0, 0, 0), (163, 3, 1, 12, 0, 7), (166, 2, 4, 11, 0, 0), (168, 1, 10, 0, 0, 0), (169, 1, 12, 0, 1, 0)]) rfl) ?_
                      refine xg_t (xg_aload (va := (2, 82)) rfl rfl) ?_
                      refine xg_t (xg_getf (va := (2, 83)) h82_31 rfl) ?_
                      refine xg_t (xg_bip) ?_
                      refine xg_ialdB (n := 11) (B := 4294967295) h83_34 (hb35) xnm0 (by omega) (fun u119 hu120 he121 => ?_)
                      exact xg_e ⟨u119, w, ⟨rfl, rfl⟩, by omega, hI, xFr.rf⟩
theorem mHolds {g0 : Nat → Nat} {li : Nat} (hI : xMnv w) (hl15 : li ≤ 15) (hli : li < g0 902) (hR83 : xRow w 83 5360 50 g0) (hgb : ∀ j, g0 j ≤ 4294967295) (hok : okA g0) : xPi (d + 8) mX12_holds [(2, 82), (0, li)] w bd fc rr (fun n w' => (n ≤ 1) ∧ xMnv w' ∧ xFr [82, 88, 90, 91, 92, 93, 94, 95, 96, 97, 98, 99, 100, 101, 102, 103, 104, 105, 106, 107, 111] w w') := by
  refine xPi.of ?_
  show xTo (d + 8) mX12_holds (0, [], [(0, (2, 82)), (1, (0, li))], [], (w, bd, fc, 0, 0, rr)) (fun φ => ∃ n w', xEnd 4 [(0, n)] (w', bd, fc, 0, 0, rr) φ ∧ (n ≤ 1) ∧ xMnv w' ∧ xFr [82, 88, 90, 91, 92, 93, 94, 95, 96, 97, 98, 99, 100, 101, 102, 103, 104, 105, 106, 107, 111] w w')
  obtain ⟨f82_1, f82_3, f82_5, f82_7, f82_9, f82_11, f82_13, f82_15, f82_17, f82_19, f82_21, f82_22, f82_23, f82_25, f82_27, f82_29, h82_31, hb2, hb4, hb6, hb8, hb10, hb12, hb14, hb16, hb18, hb20, hb24, hb26, hb28, hb30, hb32⟩ := (hI 82 (by decide) (by decide) : cp82 (wget w 82))
  replace hb4 := xHid.of hb4
  replace hb10 := xHid.of hb10
  replace hb14 := xHid.of hb14
  replace hb16 := xHid.of hb16
  replace hb20 := xHid.of hb20
  replace hb24 := xHid.of hb24
  replace hb26 := xHid.of hb26
  replace hb28 := xHid.of hb28
  replace hb30 := xHid.of hb30
  refine xg_t (xg_blk (b := [(0, 3, 5, 1020, 0, 0), (3, 2, 4, 20, 0, 0), (5, 1, 2, 1, 0, 0), (6, 1, 16, 0, 0, 0), (7, 1, 11, 0, 0, 0), (8, 1, 15, 2, 0, 0), (9, 1, 3, 1, 0, 0), (10, 1, 15, 3, 0, 0), (11, 1, 3, 0, 0, 0), (12, 2, 15, 4, 0, 0)]) rfl) ?_
  refine xg_t (xg_sip) ?_
  refine xg_t (xg_bip) ?_
  refine xg_t (xg_iload (va := (0, li)) rfl rfl) ?_
  refine xg_t (xg_imul (u := 20) (v := li) (z := 20 * li) xnm0 xnm0 (by omega)) ?_
  refine xg_t (xg_iadd (u := 1020) (v := 20 * li) (z := 1020 + (20 * li)) xnm0 xnm0 (by omega)) ?_
  refine xg_t (xg_istore (l1 := [(0, (2, 82)), (1, (0, li))]) rfl rfl rfl) ?_
  refine xg_t (xg_const) ?_
  refine xg_t (xg_istore (l1 := [(2, (0, 1020 + (20 * li))), (0, (2, 82)), (1, (0, li))]) rfl rfl rfl) ?_
  refine xg_t (xg_const) ?_
  refine xg_t (xg_istore (l1 := [(3, (0, 1)), (2, (0, 1020 + (20 * li))), (0, (2, 82)), (1, (0, li))]) rfl rfl rfl) ?_
  refine xg_t (xg_drop (l1 := [(0, (2, 82)), (1, (0, li)), (2, (0, 1020 + (20 * li))), (3, (0, 1)), (4, (0, 0))]) (List.forall_mem_cons.mpr ⟨List.mem_cons_of_mem _ (List.mem_cons_of_mem _ (List.mem_cons_of_mem _ (List.mem_cons_self))), List.forall_mem_cons.mpr ⟨List.mem_cons_of_mem _ (List.mem_cons_of_mem _ (List.mem_cons_of_mem _ (List.mem_cons_of_mem _ (List.mem_cons_self)))), List.forall_mem_cons.mpr ⟨List.mem_cons_of_mem _ (List.mem_cons_of_mem _ (List.mem_cons_self)), List.forall_mem_cons.mpr ⟨List.mem_cons_of_mem _ (List.mem_cons_self), List.forall_mem_cons.mpr ⟨List.mem_cons_self, fun _ h => absurd h List.not_mem_nil⟩⟩⟩⟩⟩)) ?_
  have key33 : ∀ (m35 : Nat) (is_ ti : Nat) (w36 : List (List xE)), 4 - ti < m35 → is_ ≤ 1 → ti ≤ 4 → xMnv w36 → xFr [82, 88, 90, 91, 92, 93, 94, 95, 96, 97, 98, 99, 100, 101, 102, 103, 104, 105, 106, 107, 111] w w36 → xTo (d + 8) mX12_holds (14, [], [(0, (2, 82)), (1, (0, li)), (2, (0, 1020 + (20 * li))), (3, (0, is_)), (4, (0, ti))], [], (w36, bd, fc, 0, 0, rr)) (fun φ => ∃ n w', xEnd 4 [(0, n)] (w', bd, fc, 0, 0, rr) φ ∧ (n ≤ 1) ∧ xMnv w' ∧ xFr [82, 88, 90, 91, 92, 93, 94, 95, 96, 97, 98, 99, 100, 101, 102, 103, 104, 105, 106, 107, 111] w w') := by
    intro m35
    induction m35 with
    | zero => intro is_ ti w36 hz; exact absurd hz (Nat.not_lt_zero _)
    | succ m35 ih34 =>
      intro is_ ti w36 hm41 hn39 hn40 hI37 hF38
      refine xg_t (xg_blk (b := [(14, 2, 2, 4, 0, 0), (16, 1, 0, 0, 0, 0), (17, 3, 1, 12, 0, 7), (20, 1, 2, 2, 0, 0), (21, 1, 10, 0, 0, 0), (22, 3, 6, 170, 3, 0), (25, 1, 2, 3, 0, 0), (26, 3, 7, 170, 0, 0), (29, 1, 2, 2, 0, 0), (30, 1, 3, 1, 0, 0), (31, 1, 11, 0, 0, 0), (32, 1, 3, 4, 0, 0), (33, 2, 2, 4, 0, 0), (35, 1, 16, 0, 0, 0), (36, 1, 11, 0, 0, 0), (37, 2, 15, 5, 0, 0), (39, 1, 0, 0, 0, 0), (40, 1, 0, 0, 0, 0), (41, 3, 1, 12, 0, 7), (44, 2, 2, 5, 0, 0), (46, 1, 3, 1, 0, 0), (47, 1, 11, 0, 0, 0), (48, 1, 10, 0, 0, 0), (49, 3, 13, 117, 96, 447), (52, 2, 15, 6, 0, 0), (54, 1, 0, 0, 0, 0), (55, 3, 1, 12, 0, 7), (58, 2, 2, 5, 0, 0), (60, 1, 3, 3, 0, 0), (61, 1, 11, 0, 0, 0), (62, 1, 10, 0, 0, 0), (63, 2, 15, 7, 0, 0), (65, 1, 0, 0, 0, 0), (66, 3, 1, 12, 0, 7), (69, 2, 2, 5, 0, 0), (71, 1, 3, 2, 0, 0), (72, 1, 11, 0, 0, 0), (73, 1, 10, 0, 0, 0), (74, 2, 4, 60, 0, 0), (76, 3, 6, 94, 1, 0), (79, 2, 2, 6, 0, 0), (81, 2, 2, 7, 0, 0), (83, 3, 6, 90, 3, 0), (86, 1, 3, 1, 0, 0), (87, 3, 8, 135, 0, 0)]) rfl) ?_
      refine xg_t (xg_iload (va := (0, ti)) rfl rfl) ?_
      refine xg_t (xg_aload (va := (2, 82)) rfl rfl) ?_
      obtain ⟨f82_42, f82_44, f82_46, f82_48, f82_50, f82_52, f82_54, f82_56, f82_58, f82_60, f82_62, f82_63, f82_64, f82_66, f82_68, f82_70, h82_72, hb43, hb45, hb47, hb49, hb51, hb53, hb55, hb57, hb59, hb61, hb65, hb67, hb69, hb71, hb73⟩ := (hI37 82 (by decide) (by decide) : cp82 (wget w36 82))
      replace hb45 := xHid.of hb45
      replace hb51 := xHid.of hb51
      replace hb55 := xHid.of hb55
      replace hb57 := xHid.of hb57
      replace hb61 := xHid.of hb61
      replace hb65 := xHid.of hb65
      replace hb67 := xHid.of hb67
      replace hb69 := xHid.of hb69
      replace hb71 := xHid.of hb71
      refine xg_t (xg_getf (va := (2, 83)) h82_72 rfl) ?_
      refine xg_t (xg_iload (va := (0, 1020 + (20 * li))) rfl rfl) ?_
      refine xg_ialdB (n := 1020 + (20 * li)) (B := 4294967295) (hR83.fr hF38 (by decide)) (hgb) xnm0 (by omega) (fun u74 hu75 he76 => ?_)
      have hl77 : u74 ≤ 4 := by rw [← he76]; exact hok.rul hli
      by_cases hc78 : ti < u74
      · refine xg_t (xg_icF (u := ti) (v := u74) rfl xnm0 xnm0 (xj_geF hc78 (by omega))) ?_
        refine xg_t (xg_iload (va := (0, is_)) rfl rfl) ?_
        by_cases hc79 : is_ = 0
        · refine xg_t (xg_ifT (u := is_) rfl xnm0 (xj_eqT hc79)) ?_
          refine xg_t (xg_blk (b := [(170, 1, 2, 3, 0, 0), (171, 1, 12, 0, 1, 0)]) rfl) ?_
          refine xg_t (xg_iload (va := (0, is_)) rfl rfl) ?_
          exact xg_e ⟨is_, w36, ⟨xret_b (by omega), rfl⟩, by omega, hI37, hF38⟩
        · refine xg_t (xg_ifF (u := is_) rfl xnm0 (xj_eqF hc79)) ?_
          refine xg_t (xg_iload (va := (0, 1020 + (20 * li))) rfl rfl) ?_
          refine xg_t (xg_const) ?_
          refine xg_t (xg_iadd (u := 1020 + (20 * li)) (v := 1) (z := (1020 + (20 * li)) + 1) xnm0 xnm0 (by omega)) ?_
          refine xg_t (xg_const) ?_
          refine xg_t (xg_iload (va := (0, ti)) rfl rfl) ?_
          refine xg_t (xg_imul (u := 4) (v := ti) (z := 4 * ti) xnm0 xnm0 (by omega)) ?_
          refine xg_t (xg_iadd (u := (1020 + (20 * li)) + 1) (v := 4 * ti) (z := ((1020 + (20 * li)) + 1) + (4 * ti)) xnm0 xnm0 (by omega)) ?_
          refine xg_t (xg_istore (l1 := [(0, (2, 82)), (1, (0, li)), (2, (0, 1020 + (20 * li))), (3, (0, is_)), (4, (0, ti))]) rfl rfl rfl) ?_
          refine xg_t (xg_aload (va := (2, 82)) rfl rfl) ?_
          refine xg_t (xg_aload (va := (2, 82)) rfl rfl) ?_
          refine xg_t (xg_getf (va := (2, 83)) h82_72 rfl) ?_
          refine xg_t (xg_iload (va := (0, ((1020 + (20 * li)) + 1) + (4 * ti))) rfl rfl) ?_
          refine xg_t (xg_const) ?_
          refine xg_t (xg_iadd (u := ((1020 + (20 * li)) + 1) + (4 * ti)) (v := 1) (z := (((1020 + (20 * li)) + 1) + (4 * ti)) + 1) xnm0 xnm0 (by omega)) ?_
          refine xg_ialdB (n := (((1020 + (20 * li)) + 1) + (4 * ti)) + 1) (B := 4294967295) (hR83.fr hF38 (by decide)) (hgb) xnm0 (by omega) (fun u80 hu81 he82 => ?_)
          refine xg_cVi mX12_asked (vs := [(0, u80)]) (rest := []) (cn1 := 0) (sl1 := 0) rfl (mAsked (hI37) (by omega)) rfl h82_72 rfl rfl rfl rfl rfl rfl (fun n87 w83 hq84 => ?_)
          obtain ⟨hn88, hI85, hF86⟩ := hq84
          refine xg_t (xg_istore (l1 := [(5, (0, ((1020 + (20 * li)) + 1) + (4 * ti))), (0, (2, 82)), (1, (0, li)), (2, (0, 1020 + (20 * li))), (3, (0, is_)), (4, (0, ti))]) rfl rfl rfl) ?_
          refine xg_t (xg_aload (va := (2, 82)) rfl rfl) ?_
          obtain ⟨f82_89, f82_91, f82_93, f82_95, f82_97, f82_99, f82_101, f82_103, f82_105, f82_107, f82_109, f82_110, f82_111, f82_113, f82_115, f82_117, h82_119, hb90, hb92, hb94, hb96, hb98, hb100, hb102, hb104, hb106, hb108, hb112, hb114, hb116, hb118, hb120⟩ := (hI85 82 (by decide) (by decide) : cp82 (wget w83 82))
          replace hb92 := xHid.of hb92
          replace hb98 := xHid.of hb98
          replace hb102 := xHid.of hb102
          replace hb104 := xHid.of hb104
          replace hb108 := xHid.of hb108
          replace hb112 := xHid.of hb112
          replace hb114 := xHid.of hb114
          replace hb116 := xHid.of hb116
          replace hb118 := xHid.of hb118
          refine xg_t (xg_getf (va := (2, 83)) h82_119 rfl) ?_
          refine xg_t (xg_iload (va := (0, ((1020 + (20 * li)) + 1) + (4 * ti))) rfl rfl) ?_
          refine xg_t (xg_const) ?_
          refine xg_t (xg_iadd (u := ((1020 + (20 * li)) + 1) + (4 * ti)) (v := 3) (z := (((1020 + (20 * li)) + 1) + (4 * ti)) + 3) xnm0 xnm0 (by omega)) ?_
          refine xg_ialdB (n := (((1020 + (20 * li)) + 1) + (4 * ti)) + 3) (B := 4294967295) ((hR83.fr hF38 (by decide)).fr hF86 (by decide)) (hgb) xnm0 (by omega) (fun u121 hu122 he123 => ?_)
          refine xg_t (xg_istore (l1 := [(6, (0, n87)), (5, (0, ((1020 + (20 * li)) + 1) + (4 * ti))), (0, (2, 82)), (1, (0, li)), (2, (0, 1020 + (20 * li))), (3, (0, is_)), (4, (0, ti))]) rfl rfl rfl) ?_
          refine xg_t (xg_aload (va := (2, 82)) rfl rfl) ?_
          refine xg_t (xg_getf (va := (2, 83)) h82_119 rfl) ?_
          refine xg_t (xg_iload (va := (0, ((1020 + (20 * li)) + 1) + (4 * ti))) rfl rfl) ?_
          refine xg_t (xg_const) ?_
          refine xg_t (xg_iadd (u := ((1020 + (20 * li)) + 1) + (4 * ti)) (v := 2) (z := (((1020 + (20 * li)) + 1) + (4 * ti)) + 2) xnm0 xnm0 (by omega)) ?_
          refine xg_ialdB (n := (((1020 + (20 * li)) + 1) + (4 * ti)) + 2) (B := 4294967295) ((hR83.fr hF38 (by decide)).fr hF86 (by decide)) (hgb) xnm0 (by omega) (fun u124 hu125 he126 => ?_)
          refine xg_t (xg_bip) ?_
          by_cases hc127 : u124 = 60
          · refine xg_t (xg_icF (u := u124) (v := 60) rfl xnm0 xnm0 (xj_neF hc127)) ?_
            refine xg_t (xg_iload (va := (0, n87)) rfl rfl) ?_
            refine xg_t (xg_iload (va := (0, u121)) rfl rfl) ?_
            by_cases hc128 : xbs n87 < xbs u121
            · have hc128u := hc128
              unfold xbs at hc128u
              refine xg_t (xg_icF (u := n87) (v := u121) rfl xnm0 xnm0 (xjs_geF hc128)) ?_
              refine xg_t (xg_const) ?_
              refine xg_t (xg_goto) ?_
              refine xg_t (xg_blk (b := [(135, 2, 15, 8, 0, 0), (137, 2, 2, 8, 0, 0), (139, 1, 0, 0, 0, 0), (140, 3, 1, 12, 0, 7), (143, 2, 2, 5, 0, 0), (145, 1, 10, 0, 0, 0), (146, 1, 3, 1, 0, 0), (147, 3, 6, 154, 1, 0), (150, 1, 3, 1, 0, 0), (151, 3, 8, 155, 0, 0)]) rfl) ?_
              refine xg_t (xg_istore (l1 := [(7, (0, u121)), (6, (0, n87)), (5, (0, ((1020 + (20 * li)) + 1) + (4 * ti))), (0, (2, 82)), (1, (0, li)), (2, (0, 1020 + (20 * li))), (3, (0, is_)), (4, (0, ti))]) rfl rfl rfl) ?_
              refine xg_t (xg_iload (va := (0, 1)) rfl rfl) ?_
              refine xg_t (xg_aload (va := (2, 82)) rfl rfl) ?_
              refine xg_t (xg_getf (va := (2, 83)) h82_119 rfl) ?_
              refine xg_t (xg_iload (va := (0, ((1020 + (20 * li)) + 1) + (4 * ti))) rfl rfl) ?_
              refine xg_ialdB (n := ((1020 + (20 * li)) + 1) + (4 * ti)) (B := 4294967295) ((hR83.fr hF38 (by decide)).fr hF86 (by decide)) (hgb) xnm0 (by omega) (fun u129 hu130 he131 => ?_)
              refine xg_t (xg_const) ?_
              by_cases hc132 : u129 = 1
              · refine xg_t (xg_icF (u := u129) (v := 1) rfl xnm0 xnm0 (xj_neF hc132)) ?_
                refine xg_t (xg_const) ?_
                refine xg_t (xg_goto) ?_
                refine xg_t (xg_blk (b := [(155, 3, 6, 162, 0, 0), (158, 1, 3, 1, 0, 0), (159, 3, 8, 163, 0, 0)]) rfl) ?_
                refine xg_t (xg_icT (u := 1) (v := 1) rfl xnm0 xnm0 (by decide)) ?_
                refine xg_t (xg_blk (b := [(162, 1, 3, 0, 0, 0)]) rfl) ?_
                refine xg_t (xg_const) ?_
                refine xg_t (xg_blk (b := [(163, 1, 15, 3, 0, 0), (164, 3, 9, 4, 1, 0), (167, 3, 8, 14, 0, 0)]) rfl) ?_
                refine xg_t (xg_istore (l1 := [(8, (0, 1)), (7, (0, u121)), (6, (0, n87)), (5, (0, ((1020 + (20 * li)) + 1) + (4 * ti))), (0, (2, 82)), (1, (0, li)), (2, (0, 1020 + (20 * li))), (4, (0, ti))]) rfl rfl rfl) ?_
                refine xg_t (xg_iinc (u := ti) (z := ti + 1) (l1 := [(3, (0, 0)), (8, (0, 1)), (7, (0, u121)), (6, (0, n87)), (5, (0, ((1020 + (20 * li)) + 1) + (4 * ti))), (0, (2, 82)), (1, (0, li)), (2, (0, 1020 + (20 * li)))]) rfl rfl (by omega) rfl) ?_
                refine xg_t (xg_goto) ?_
                refine xg_t (xg_drop (l1 := [(0, (2, 82)), (1, (0, li)), (2, (0, 1020 + (20 * li))), (3, (0, 0)), (4, (0, ti + 1))]) (List.forall_mem_cons.mpr ⟨List.mem_cons_of_mem _ (List.mem_cons_of_mem _ (List.mem_cons_of_mem _ (List.mem_cons_of_mem _ (List.mem_cons_of_mem _ (List.mem_cons_of_mem _ (List.mem_cons_self)))))), List.forall_mem_cons.mpr ⟨List.mem_cons_of_mem _ (List.mem_cons_of_mem _ (List.mem_cons_of_mem _ (List.mem_cons_of_mem _ (List.mem_cons_of_mem _ (List.mem_cons_of_mem _ (List.mem_cons_of_mem _ (List.mem_cons_self))))))), List.forall_mem_cons.mpr ⟨List.mem_cons_of_mem _ (List.mem_cons_of_mem _ (List.mem_cons_of_mem _ (List.mem_cons_of_mem _ (List.mem_cons_of_mem _ (List.mem_cons_of_mem _ (List.mem_cons_of_mem _ (List.mem_cons_of_mem _ (List.mem_cons_self)))))))), List.forall_mem_cons.mpr ⟨List.mem_cons_of_mem _ (List.mem_cons_self), List.forall_mem_cons.mpr ⟨List.mem_cons_self, fun _ h => absurd h List.not_mem_nil⟩⟩⟩⟩⟩)) ?_
                exact ih34 0 (ti + 1) w83 (by omega) (by omega) (by omega) (hI85) ((hF38.tr (hF86.up (by decide))))
              · refine xg_t (xg_icT (u := u129) (v := 1) rfl xnm0 xnm0 (xj_neT hc132)) ?_
                refine xg_t (xg_blk (b := [(154, 1, 3, 0, 0, 0)]) rfl) ?_
                refine xg_t (xg_const) ?_
                refine xg_t (xg_blk (b := [(155, 3, 6, 162, 0, 0), (158, 1, 3, 1, 0, 0), (159, 3, 8, 163, 0, 0)]) rfl) ?_
                refine xg_t (xg_icF (u := 1) (v := 0) rfl xnm0 xnm0 (by decide)) ?_
                refine xg_t (xg_const) ?_
                refine xg_t (xg_goto) ?_
                refine xg_t (xg_blk (b := [(163, 1, 15, 3, 0, 0), (164, 3, 9, 4, 1, 0), (167, 3, 8, 14, 0, 0)]) rfl) ?_
                refine xg_t (xg_istore (l1 := [(8, (0, 1)), (7, (0, u121)), (6, (0, n87)), (5, (0, ((1020 + (20 * li)) + 1) + (4 * ti))), (0, (2, 82)), (1, (0, li)), (2, (0, 1020 + (20 * li))), (4, (0, ti))]) rfl rfl rfl) ?_
                refine xg_t (xg_iinc (u := ti) (z := ti + 1) (l1 := [(3, (0, 1)), (8, (0, 1)), (7, (0, u121)), (6, (0, n87)), (5, (0, ((1020 + (20 * li)) + 1) + (4 * ti))), (0, (2, 82)), (1, (0, li)), (2, (0, 1020 + (20 * li)))]) rfl rfl (by omega) rfl) ?_
                refine xg_t (xg_goto) ?_
                refine xg_t (xg_drop (l1 := [(0, (2, 82)), (1, (0, li)), (2, (0, 1020 + (20 * li))), (3, (0, 1)), (4, (0, ti + 1))]) (List.forall_mem_cons.mpr ⟨List.mem_cons_of_mem _ (List.mem_cons_of_mem _ (List.mem_cons_of_mem _ (List.mem_cons_of_mem _ (List.mem_cons_of_mem _ (List.mem_cons_of_mem _ (List.mem_cons_self)))))), List.forall_mem_cons.mpr ⟨List.mem_cons_of_mem _ (List.mem_cons_of_mem _ (List.mem_cons_of_mem _ (List.mem_cons_of_mem _ (List.mem_cons_of_mem _ (List.mem_cons_of_mem _ (List.mem_cons_of_mem _ (List.mem_cons_self))))))), List.forall_mem_cons.mpr ⟨List.mem_cons_of_mem _ (List.mem_cons_of_mem _ (List.mem_cons_of_mem _ (List.mem_cons_of_mem _ (List.mem_cons_of_mem _ (List.mem_cons_of_mem _ (List.mem_cons_of_mem _ (List.mem_cons_of_mem _ (List.mem_cons_self)))))))), List.forall_mem_cons.mpr ⟨List.mem_cons_of_mem _ (List.mem_cons_self), List.forall_mem_cons.mpr ⟨List.mem_cons_self, fun _ h => absurd h List.not_mem_nil⟩⟩⟩⟩⟩)) ?_
                exact ih34 1 (ti + 1) w83 (by omega) (by omega) (by omega) (hI85) ((hF38.tr (hF86.up (by decide))))
            · have hc128u := hc128
              unfold xbs at hc128u
              refine xg_t (xg_icT (u := n87) (v := u121) rfl xnm0 xnm0 (xjs_geT hc128)) ?_
              refine xg_t (xg_blk (b := [(90, 1, 3, 0, 0, 0), (91, 3, 8, 135, 0, 0)]) rfl) ?_
              refine xg_t (xg_const) ?_
              refine xg_t (xg_goto) ?_
              refine xg_t (xg_blk (b := [(135, 2, 15, 8, 0, 0), (137, 2, 2, 8, 0, 0), (139, 1, 0, 0, 0, 0), (140, 3, 1, 12, 0, 7), (143, 2, 2, 5, 0, 0), (145, 1, 10, 0, 0, 0), (146, 1, 3, 1, 0, 0), (147, 3, 6, 154, 1, 0), (150, 1, 3, 1, 0, 0), (151, 3, 8, 155, 0, 0)]) rfl) ?_
              refine xg_t (xg_istore (l1 := [(7, (0, u121)), (6, (0, n87)), (5, (0, ((1020 + (20 * li)) + 1) + (4 * ti))), (0, (2, 82)), (1, (0, li)), (2, (0, 1020 + (20 * li))), (3, (0, is_)), (4, (0, ti))]) rfl rfl rfl) ?_
              refine xg_t (xg_iload (va := (0, 0)) rfl rfl) ?_
              refine xg_t (xg_aload (va := (2, 82)) rfl rfl) ?_
              refine xg_t (xg_getf (va := (2, 83)) h82_119 rfl) ?_
              refine xg_t (xg_iload (va := (0, ((1020 + (20 * li)) + 1) + (4 * ti))) rfl rfl) ?_
              refine xg_ialdB (n := ((1020 + (20 * li)) + 1) + (4 * ti)) (B := 4294967295) ((hR83.fr hF38 (by decide)).fr hF86 (by decide)) (hgb) xnm0 (by omega) (fun u133 hu134 he135 => ?_)
              refine xg_t (xg_const) ?_
              by_cases hc136 : u133 = 1
              · refine xg_t (xg_icF (u := u133) (v := 1) rfl xnm0 xnm0 (xj_neF hc136)) ?_
                refine xg_t (xg_const) ?_
                refine xg_t (xg_goto) ?_
                refine xg_t (xg_blk (b := [(155, 3, 6, 162, 0, 0), (158, 1, 3, 1, 0, 0), (159, 3, 8, 163, 0, 0)]) rfl) ?_
                refine xg_t (xg_icF (u := 0) (v := 1) rfl xnm0 xnm0 (by decide)) ?_
                refine xg_t (xg_const) ?_
                refine xg_t (xg_goto) ?_
                refine xg_t (xg_blk (b := [(163, 1, 15, 3, 0, 0), (164, 3, 9, 4, 1, 0), (167, 3, 8, 14, 0, 0)]) rfl) ?_
                refine xg_t (xg_istore (l1 := [(8, (0, 0)), (7, (0, u121)), (6, (0, n87)), (5, (0, ((1020 + (20 * li)) + 1) + (4 * ti))), (0, (2, 82)), (1, (0, li)), (2, (0, 1020 + (20 * li))), (4, (0, ti))]) rfl rfl rfl) ?_
                refine xg_t (xg_iinc (u := ti) (z := ti + 1) (l1 := [(3, (0, 1)), (8, (0, 0)), (7, (0, u121)), (6, (0, n87)), (5, (0, ((1020 + (20 * li)) + 1) + (4 * ti))), (0, (2, 82)), (1, (0, li)), (2, (0, 1020 + (20 * li)))]) rfl rfl (by omega) rfl) ?_
                refine xg_t (xg_goto) ?_
                refine xg_t (xg_drop (l1 := [(0, (2, 82)), (1, (0, li)), (2, (0, 1020 + (20 * li))), (3, (0, 1)), (4, (0, ti + 1))]) (List.forall_mem_cons.mpr ⟨List.mem_cons_of_mem _ (List.mem_cons_of_mem _ (List.mem_cons_of_mem _ (List.mem_cons_of_mem _ (List.mem_cons_of_mem _ (List.mem_cons_of_mem _ (List.mem_cons_self)))))), List.forall_mem_cons.mpr ⟨List.mem_cons_of_mem _ (List.mem_cons_of_mem _ (List.mem_cons_of_mem _ (List.mem_cons_of_mem _ (List.mem_cons_of_mem _ (List.mem_cons_of_mem _ (List.mem_cons_of_mem _ (List.mem_cons_self))))))), List.forall_mem_cons.mpr ⟨List.mem_cons_of_mem _ (List.mem_cons_of_mem _ (List.mem_cons_of_mem _ (List.mem_cons_of_mem _ (List.mem_cons_of_mem _ (List.mem_cons_of_mem _ (List.mem_cons_of_mem _ (List.mem_cons_of_mem _ (List.mem_cons_self)))))))), List.forall_mem_cons.mpr ⟨List.mem_cons_of_mem _ (List.mem_cons_self), List.forall_mem_cons.mpr ⟨List.mem_cons_self, fun _ h => absurd h List.not_mem_nil⟩⟩⟩⟩⟩)) ?_
                exact ih34 1 (ti + 1) w83 (by omega) (by omega) (by omega) (hI85) ((hF38.tr (hF86.up (by decide))))
              · refine xg_t (xg_icT (u := u133) (v := 1) rfl xnm0 xnm0 (xj_neT hc136)) ?_
                refine xg_t (xg_blk (b := [(154, 1, 3, 0, 0, 0)]) rfl) ?_
                refine xg_t (xg_const) ?_
                refine xg_t (xg_blk (b := [(155, 3, 6, 162, 0, 0), (158, 1, 3, 1, 0, 0), (159, 3, 8, 163, 0, 0)]) rfl) ?_
                refine xg_t (xg_icT (u := 0) (v := 0) rfl xnm0 xnm0 (by decide)) ?_
                refine xg_t (xg_blk (b := [(162, 1, 3, 0, 0, 0)]) rfl) ?_
                refine xg_t (xg_const) ?_
                refine xg_t (xg_blk (b := [(163, 1, 15, 3, 0, 0), (164, 3, 9, 4, 1, 0), (167, 3, 8, 14, 0, 0)]) rfl) ?_
                refine xg_t (xg_istore (l1 := [(8, (0, 0)), (7, (0, u121)), (6, (0, n87)), (5, (0, ((1020 + (20 * li)) + 1) + (4 * ti))), (0, (2, 82)), (1, (0, li)), (2, (0, 1020 + (20 * li))), (4, (0, ti))]) rfl rfl rfl) ?_
                refine xg_t (xg_iinc (u := ti) (z := ti + 1) (l1 := [(3, (0, 0)), (8, (0, 0)), (7, (0, u121)), (6, (0, n87)), (5, (0, ((1020 + (20 * li)) + 1) + (4 * ti))), (0, (2, 82)), (1, (0, li)), (2, (0, 1020 + (20 * li)))]) rfl rfl (by omega) rfl) ?_
                refine xg_t (xg_goto) ?_
                refine xg_t (xg_drop (l1 := [(0, (2, 82)), (1, (0, li)), (2, (0, 1020 + (20 * li))), (3, (0, 0)), (4, (0, ti + 1))]) (List.forall_mem_cons.mpr ⟨List.mem_cons_of_mem _ (List.mem_cons_of_mem _ (List.mem_cons_of_mem _ (List.mem_cons_of_mem _ (List.mem_cons_of_mem _ (List.mem_cons_of_mem _ (List.mem_cons_self)))))), List.forall_mem_cons.mpr ⟨List.mem_cons_of_mem _ (List.mem_cons_of_mem _ (List.mem_cons_of_mem _ (List.mem_cons_of_mem _ (List.mem_cons_of_mem _ (List.mem_cons_of_mem _ (List.mem_cons_of_mem _ (List.mem_cons_self))))))), List.forall_mem_cons.mpr ⟨List.mem_cons_of_mem _ (List.mem_cons_of_mem _ (List.mem_cons_of_mem _ (List.mem_cons_of_mem _ (List.mem_cons_of_mem _ (List.mem_cons_of_mem _ (List.mem_cons_of_mem _ (List.mem_cons_of_mem _ (List.mem_cons_self)))))))), List.forall_mem_cons.mpr ⟨List.mem_cons_of_mem _ (List.mem_cons_self), List.forall_mem_cons.mpr ⟨List.mem_cons_self, fun _ h => absurd h List.not_mem_nil⟩⟩⟩⟩⟩)) ?_
                exact ih34 0 (ti + 1) w83 (by omega) (by omega) (by omega) (hI85) ((hF38.tr (hF86.up (by decide))))
          · refine xg_t (xg_icT (u := u124) (v := 60) rfl xnm0 xnm0 (xj_neT hc127)) ?_
            refine xg_t (xg_blk (b := [(94, 1, 0, 0, 0, 0), (95, 3, 1, 12, 0, 7), (98, 2, 2, 5, 0, 0), (100, 1, 3, 2, 0, 0), (101, 1, 11, 0, 0, 0), (102, 1, 10, 0, 0, 0), (103, 2, 4, 62, 0, 0), (105, 3, 6, 123, 1, 0), (108, 2, 2, 6, 0, 0), (110, 2, 2, 7, 0, 0), (112, 3, 6, 119, 5, 0), (115, 1, 3, 1, 0, 0), (116, 3, 8, 135, 0, 0)]) rfl) ?_
            refine xg_t (xg_aload (va := (2, 82)) rfl rfl) ?_
            refine xg_t (xg_getf (va := (2, 83)) h82_119 rfl) ?_
            refine xg_t (xg_iload (va := (0, ((1020 + (20 * li)) + 1) + (4 * ti))) rfl rfl) ?_
            refine xg_t (xg_const) ?_
            refine xg_t (xg_iadd (u := ((1020 + (20 * li)) + 1) + (4 * ti)) (v := 2) (z := (((1020 + (20 * li)) + 1) + (4 * ti)) + 2) xnm0 xnm0 (by omega)) ?_
            refine xg_ialdB (n := (((1020 + (20 * li)) + 1) + (4 * ti)) + 2) (B := 4294967295) ((hR83.fr hF38 (by decide)).fr hF86 (by decide)) (hgb) xnm0 (by omega) (fun u137 hu138 he139 => ?_)
            refine xg_t (xg_bip) ?_
            by_cases hc140 : u137 = 62
            · refine xg_t (xg_icF (u := u137) (v := 62) rfl xnm0 xnm0 (xj_neF hc140)) ?_
              refine xg_t (xg_iload (va := (0, n87)) rfl rfl) ?_
              refine xg_t (xg_iload (va := (0, u121)) rfl rfl) ?_
              by_cases hc141 : xbs u121 < xbs n87
              · have hc141u := hc141
                unfold xbs at hc141u
                refine xg_t (xg_icF (u := n87) (v := u121) rfl xnm0 xnm0 (xjs_leF hc141)) ?_
                refine xg_t (xg_const) ?_
                refine xg_t (xg_goto) ?_
                refine xg_t (xg_blk (b := [(135, 2, 15, 8, 0, 0), (137, 2, 2, 8, 0, 0), (139, 1, 0, 0, 0, 0), (140, 3, 1, 12, 0, 7), (143, 2, 2, 5, 0, 0), (145, 1, 10, 0, 0, 0), (146, 1, 3, 1, 0, 0), (147, 3, 6, 154, 1, 0), (150, 1, 3, 1, 0, 0), (151, 3, 8, 155, 0, 0)]) rfl) ?_
                refine xg_t (xg_istore (l1 := [(7, (0, u121)), (6, (0, n87)), (5, (0, ((1020 + (20 * li)) + 1) + (4 * ti))), (0, (2, 82)), (1, (0, li)), (2, (0, 1020 + (20 * li))), (3, (0, is_)), (4, (0, ti))]) rfl rfl rfl) ?_
                refine xg_t (xg_iload (va := (0, 1)) rfl rfl) ?_
                refine xg_t (xg_aload (va := (2, 82)) rfl rfl) ?_
                refine xg_t (xg_getf (va := (2, 83)) h82_119 rfl) ?_
                refine xg_t (xg_iload (va := (0, ((1020 + (20 * li)) + 1) + (4 * ti))) rfl rfl) ?_
                refine xg_ialdB (n := ((1020 + (20 * li)) + 1) + (4 * ti)) (B := 4294967295) ((hR83.fr hF38 (by decide)).fr hF86 (by decide)) (hgb) xnm0 (by omega) (fun u142 hu143 he144 => ?_)
                refine xg_t (xg_const) ?_
                by_cases hc145 : u142 = 1
                · refine xg_t (xg_icF (u := u142) (v := 1) rfl xnm0 xnm0 (xj_neF hc145)) ?_
                  refine xg_t (xg_const) ?_
                  refine xg_t (xg_goto) ?_
                  refine xg_t (xg_blk (b := [(155, 3, 6, 162, 0, 0), (158, 1, 3, 1, 0, 0), (159, 3, 8, 163, 0, 0)]) rfl) ?_
                  refine xg_t (xg_icT (u := 1) (v := 1) rfl xnm0 xnm0 (by decide)) ?_
                  refine xg_t (xg_blk (b := [(162, 1, 3, 0, 0, 0)]) rfl) ?_
                  refine xg_t (xg_const) ?_
                  refine xg_t (xg_blk (b := [(163, 1, 15, 3, 0, 0), (164, 3, 9, 4, 1, 0), (167, 3, 8, 14, 0, 0)]) rfl) ?_
                  refine xg_t (xg_istore (l1 := [(8, (0, 1)), (7, (0, u121)), (6, (0, n87)), (5, (0, ((1020 + (20 * li)) + 1) + (4 * ti))), (0, (2, 82)), (1, (0, li)), (2, (0, 1020 + (20 * li))), (4, (0, ti))]) rfl rfl rfl) ?_
                  refine xg_t (xg_iinc (u := ti) (z := ti + 1) (l1 := [(3, (0, 0)), (8, (0, 1)), (7, (0, u121)), (6, (0, n87)), (5, (0, ((1020 + (20 * li)) + 1) + (4 * ti))), (0, (2, 82)), (1, (0, li)), (2, (0, 1020 + (20 * li)))]) rfl rfl (by omega) rfl) ?_
                  refine xg_t (xg_goto) ?_
                  refine xg_t (xg_drop (l1 := [(0, (2, 82)), (1, (0, li)), (2, (0, 1020 + (20 * li))), (3, (0, 0)), (4, (0, ti + 1))]) (List.forall_mem_cons.mpr ⟨List.mem_cons_of_mem _ (List.mem_cons_of_mem _ (List.mem_cons_of_mem _ (List.mem_cons_of_mem _ (List.mem_cons_of_mem _ (List.mem_cons_of_mem _ (List.mem_cons_self)))))), List.forall_mem_cons.mpr ⟨List.mem_cons_of_mem _ (List.mem_cons_of_mem _ (List.mem_cons_of_mem _ (List.mem_cons_of_mem _ (List.mem_cons_of_mem _ (List.mem_cons_of_mem _ (List.mem_cons_of_mem _ (List.mem_cons_self))))))), List.forall_mem_cons.mpr ⟨List.mem_cons_of_mem _ (List.mem_cons_of_mem _ (List.mem_cons_of_mem _ (List.mem_cons_of_mem _ (List.mem_cons_of_mem _ (List.mem_cons_of_mem _ (List.mem_cons_of_mem _ (List.mem_cons_of_mem _ (List.mem_cons_self)))))))), List.forall_mem_cons.mpr ⟨List.mem_cons_of_mem _ (List.mem_cons_self), List.forall_mem_cons.mpr ⟨List.mem_cons_self, fun _ h => absurd h List.not_mem_nil⟩⟩⟩⟩⟩)) ?_
                  exact ih34 0 (ti + 1) w83 (by omega) (by omega) (by omega) (hI85) ((hF38.tr (hF86.up (by decide))))
                · refine xg_t (xg_icT (u := u142) (v := 1) rfl xnm0 xnm0 (xj_neT hc145)) ?_
                  refine xg_t (xg_blk (b := [(154, 1, 3, 0, 0, 0)]) rfl) ?_
                  refine xg_t (xg_const) ?_
                  refine xg_t (xg_blk (b := [(155, 3, 6, 162, 0, 0), (158, 1, 3, 1, 0, 0), (159, 3, 8, 163, 0, 0)]) rfl) ?_
                  refine xg_t (xg_icF (u := 1) (v := 0) rfl xnm0 xnm0 (by decide)) ?_
                  refine xg_t (xg_const) ?_
                  refine xg_t (xg_goto) ?_
                  refine xg_t (xg_blk (b := [(163, 1, 15, 3, 0, 0), (164, 3, 9, 4, 1, 0), (167, 3, 8, 14, 0, 0)]) rfl) ?_
                  refine xg_t (xg_istore (l1 := [(8, (0, 1)), (7, (0, u121)), (6, (0, n87)), (5, (0, ((1020 + (20 * li)) + 1) + (4 * ti))), (0, (2, 82)), (1, (0, li)), (2, (0, 1020 + (20 * li))), (4, (0, ti))]) rfl rfl rfl) ?_
                  refine xg_t (xg_iinc (u := ti) (z := ti + 1) (l1 := [(3, (0, 1)), (8, (0, 1)), (7, (0, u121)), (6, (0, n87)), (5, (0, ((1020 + (20 * li)) + 1) + (4 * ti))), (0, (2, 82)), (1, (0, li)), (2, (0, 1020 + (20 * li)))]) rfl rfl (by omega) rfl) ?_
                  refine xg_t (xg_goto) ?_
                  refine xg_t (xg_drop (l1 := [(0, (2, 82)), (1, (0, li)), (2, (0, 1020 + (20 * li))), (3, (0, 1)), (4, (0, ti + 1))]) (List.forall_mem_cons.mpr ⟨List.mem_cons_of_mem _ (List.mem_cons_of_mem _ (List.mem_cons_of_mem _ (List.mem_cons_of_mem _ (List.mem_cons_of_mem _ (List.mem_cons_of_mem _ (List.mem_cons_self)))))), List.forall_mem_cons.mpr ⟨List.mem_cons_of_mem _ (List.mem_cons_of_mem _ (List.mem_cons_of_mem _ (List.mem_cons_of_mem _ (List.mem_cons_of_mem _ (List.mem_cons_of_mem _ (List.mem_cons_of_mem _ (List.mem_cons_self))))))), List.forall_mem_cons.mpr ⟨List.mem_cons_of_mem _ (List.mem_cons_of_mem _ (List.mem_cons_of_mem _ (List.mem_cons_of_mem _ (List.mem_cons_of_mem _ (List.mem_cons_of_mem _ (List.mem_cons_of_mem _ (List.mem_cons_of_mem _ (List.mem_cons_self)))))))), List.forall_mem_cons.mpr ⟨List.mem_cons_of_mem _ (List.mem_cons_self), List.forall_mem_cons.mpr ⟨List.mem_cons_self, fun _ h => absurd h List.not_mem_nil⟩⟩⟩⟩⟩)) ?_
                  exact ih34 1 (ti + 1) w83 (by omega) (by omega) (by omega) (hI85) ((hF38.tr (hF86.up (by decide))))
              · have hc141u := hc141
                unfold xbs at hc141u
                refine xg_t (xg_icT (u := n87) (v := u121) rfl xnm0 xnm0 (xjs_leT hc141)) ?_
                refine xg_t (xg_blk (b := [(119, 1, 3, 0, 0, 0), (120, 3, 8, 135, 0, 0)]) rfl) ?_
                refine xg_t (xg_const) ?_
                refine xg_t (xg_goto) ?_
                refine xg_t (xg_blk (b := [(135, 2, 15, 8, 0, 0), (137, 2, 2, 8, 0, 0), (139, 1, 0, 0, 0, 0), (140, 3, 1, 12, 0, 7), (143, 2, 2, 5, 0, 0), (145, 1, 10, 0, 0, 0), (146, 1, 3, 1, 0, 0), (147, 3, 6, 154, 1, 0), (150, 1, 3, 1, 0, 0), (151, 3, 8, 155, 0, 0)]) rfl) ?_
                refine xg_t (xg_istore (l1 := [(7, (0, u121)), (6, (0, n87)), (5, (0, ((1020 + (20 * li)) + 1) + (4 * ti))), (0, (2, 82)), (1, (0, li)), (2, (0, 1020 + (20 * li))), (3, (0, is_)), (4, (0, ti))]) rfl rfl rfl) ?_
                refine xg_t (xg_iload (va := (0, 0)) rfl rfl) ?_
                refine xg_t (xg_aload (va := (2, 82)) rfl rfl) ?_
                refine xg_t (xg_getf (va := (2, 83)) h82_119 rfl) ?_
                refine xg_t (xg_iload (va := (0, ((1020 + (20 * li)) + 1) + (4 * ti))) rfl rfl) ?_
                refine xg_ialdB (n := ((1020 + (20 * li)) + 1) + (4 * ti)) (B := 4294967295) ((hR83.fr hF38 (by decide)).fr hF86 (by decide)) (hgb) xnm0 (by omega) (fun u146 hu147 he148 => ?_)
                refine xg_t (xg_const) ?_
                by_cases hc149 : u146 = 1
                · refine xg_t (xg_icF (u := u146) (v := 1) rfl xnm0 xnm0 (xj_neF hc149)) ?_
                  refine xg_t (xg_const) ?_
                  refine xg_t (xg_goto) ?_
                  refine xg_t (xg_blk (b := [(155, 3, 6, 162, 0, 0), (158, 1, 3, 1, 0, 0), (159, 3, 8, 163, 0, 0)]) rfl) ?_
                  refine xg_t (xg_icF (u := 0) (v := 1) rfl xnm0 xnm0 (by decide)) ?_
                  refine xg_t (xg_const) ?_
                  refine xg_t (xg_goto) ?_
                  refine xg_t (xg_blk (b := [(163, 1, 15, 3, 0, 0), (164, 3, 9, 4, 1, 0), (167, 3, 8, 14, 0, 0)]) rfl) ?_
                  refine xg_t (xg_istore (l1 := [(8, (0, 0)), (7, (0, u121)), (6, (0, n87)), (5, (0, ((1020 + (20 * li)) + 1) + (4 * ti))), (0, (2, 82)), (1, (0, li)), (2, (0, 1020 + (20 * li))), (4, (0, ti))]) rfl rfl rfl) ?_
                  refine xg_t (xg_iinc (u := ti) (z := ti + 1) (l1 := [(3, (0, 1)), (8, (0, 0)), (7, (0, u121)), (6, (0, n87)), (5, (0, ((1020 + (20 * li)) + 1) + (4 * ti))), (0, (2, 82)), (1, (0, li)), (2, (0, 1020 + (20 * li)))]) rfl rfl (by omega) rfl) ?_
                  refine xg_t (xg_goto) ?_
                  refine xg_t (xg_drop (l1 := [(0, (2, 82)), (1, (0, li)), (2, (0, 1020 + (20 * li))), (3, (0, 1)), (4, (0, ti + 1))]) (List.forall_mem_cons.mpr ⟨List.mem_cons_of_mem _ (List.mem_cons_of_mem _ (List.mem_cons_of_mem _ (List.mem_cons_of_mem _ (List.mem_cons_of_mem _ (List.mem_cons_of_mem _ (List.mem_cons_self)))))), List.forall_mem_cons.mpr ⟨List.mem_cons_of_mem _ (List.mem_cons_of_mem _ (List.mem_cons_of_mem _ (List.mem_cons_of_mem _ (List.mem_cons_of_mem _ (List.mem_cons_of_mem _ (List.mem_cons_of_mem _ (List.mem_cons_self))))))), List.forall_mem_cons.mpr ⟨List.mem_cons_of_mem _ (List.mem_cons_of_mem _ (List.mem_cons_of_mem _ (List.mem_cons_of_mem _ (List.mem_cons_of_mem _ (List.mem_cons_of_mem _ (List.mem_cons_of_mem _ (List.mem_cons_of_mem _ (List.mem_cons_self)))))))), List.forall_mem_cons.mpr ⟨List.mem_cons_of_mem _ (List.mem_cons_self), List.forall_mem_cons.mpr ⟨List.mem_cons_self, fun _ h => absurd h List.not_mem_nil⟩⟩⟩⟩⟩)) ?_
                  exact ih34 1 (ti + 1) w83 (by omega) (by omega) (by omega) (hI85) ((hF38.tr (hF86.up (by decide))))
                · refine xg_t (xg_icT (u := u146) (v := 1) rfl xnm0 xnm0 (xj_neT hc149)) ?_
                  refine xg_t (xg_blk (b := [(154, 1, 3, 0, 0, 0)]) rfl) ?_
                  refine xg_t (xg_const) ?_
                  refine xg_t (xg_blk (b := [(155, 3, 6, 162, 0, 0), (158, 1, 3, 1, 0, 0), (159, 3, 8, 163, 0, 0)]) rfl) ?_
                  refine xg_t (xg_icT (u := 0) (v := 0) rfl xnm0 xnm0 (by decide)) ?_
                  refine xg_t (xg_blk (b := [(162, 1, 3, 0, 0, 0)]) rfl) ?_
                  refine xg_t (xg_const) ?_
                  refine xg_t (xg_blk (b := [(163, 1, 15, 3, 0, 0), (164, 3, 9, 4, 1, 0), (167, 3, 8, 14, 0, 0)]) rfl) ?_
                  refine xg_t (xg_istore (l1 := [(8, (0, 0)), (7, (0, u121)), (6, (0, n87)), (5, (0, ((1020 + (20 * li)) + 1) + (4 * ti))), (0, (2, 82)), (1, (0, li)), (2, (0, 1020 + (20 * li))), (4, (0, ti))]) rfl rfl rfl) ?_
                  refine xg_t (xg_iinc (u := ti) (z := ti + 1) (l1 := [(3, (0, 0)), (8, (0, 0)), (7, (0, u121)), (6, (0, n87)), (5, (0, ((1020 + (20 * li)) + 1) + (4 * ti))), (0, (2, 82)), (1, (0, li)), (2, (0, 1020 + (20 * li)))]) rfl rfl (by omega) rfl) ?_
                  refine xg_t (xg_goto) ?_
                  refine xg_t (xg_drop (l1 := [(0, (2, 82)), (1, (0, li)), (2, (0, 1020 + (20 * li))), (3, (0, 0)), (4, (0, ti + 1))]) (List.forall_mem_cons.mpr ⟨List.mem_cons_of_mem _ (List.mem_cons_of_mem _ (List.mem_cons_of_mem _ (List.mem_cons_of_mem _ (List.mem_cons_of_mem _ (List.mem_cons_of_mem _ (List.mem_cons_self)))))), List.forall_mem_cons.mpr ⟨List.mem_cons_of_mem _ (List.mem_cons_of_mem _ (List.mem_cons_of_mem _ (List.mem_cons_of_mem _ (List.mem_cons_of_mem _ (List.mem_cons_of_mem _ (List.mem_cons_of_mem _ (List.mem_cons_self))))))), List.forall_mem_cons.mpr ⟨List.mem_cons_of_mem _ (List.mem_cons_of_mem _ (List.mem_cons_of_mem _ (List.mem_cons_of_mem _ (List.mem_cons_of_mem _ (List.mem_cons_of_mem _ (List.mem_cons_of_mem _ (List.mem_cons_of_mem _ (List.mem_cons_self)))))))), List.forall_mem_cons.mpr ⟨List.mem_cons_of_mem _ (List.mem_cons_self), List.forall_mem_cons.mpr ⟨List.mem_cons_self, fun _ h => absurd h List.not_mem_nil⟩⟩⟩⟩⟩)) ?_
                  exact ih34 0 (ti + 1) w83 (by omega) (by omega) (by omega) (hI85) ((hF38.tr (hF86.up (by decide))))
            · refine xg_t (xg_icT (u := u137) (v := 62) rfl xnm0 xnm0 (xj_neT hc140)) ?_
              refine xg_t (xg_blk (b := [(123, 2, 2, 6, 0, 0), (125, 2, 2, 7, 0, 0), (127, 3, 6, 134, 1, 0), (130, 1, 3, 1, 0, 0), (131, 3, 8, 135, 0, 0)]) rfl) ?_
              refine xg_t (xg_iload (va := (0, n87)) rfl rfl) ?_
              refine xg_t (xg_iload (va := (0, u121)) rfl rfl) ?_
              by_cases hc150 : n87 = u121
              · refine xg_t (xg_icF (u := n87) (v := u121) rfl xnm0 xnm0 (xj_neF hc150)) ?_
                refine xg_t (xg_const) ?_
                refine xg_t (xg_goto) ?_
                refine xg_t (xg_blk (b := [(135, 2, 15, 8, 0, 0), (137, 2, 2, 8, 0, 0), (139, 1, 0, 0, 0, 0), (140, 3, 1, 12, 0, 7), (143, 2, 2, 5, 0, 0), (145, 1, 10, 0, 0, 0), (146, 1, 3, 1, 0, 0), (147, 3, 6, 154, 1, 0), (150, 1, 3, 1, 0, 0), (151, 3, 8, 155, 0, 0)]) rfl) ?_
                refine xg_t (xg_istore (l1 := [(7, (0, u121)), (6, (0, n87)), (5, (0, ((1020 + (20 * li)) + 1) + (4 * ti))), (0, (2, 82)), (1, (0, li)), (2, (0, 1020 + (20 * li))), (3, (0, is_)), (4, (0, ti))]) rfl rfl rfl) ?_
                refine xg_t (xg_iload (va := (0, 1)) rfl rfl) ?_
                refine xg_t (xg_aload (va := (2, 82)) rfl rfl) ?_
                refine xg_t (xg_getf (va := (2, 83)) h82_119 rfl) ?_
                refine xg_t (xg_iload (va := (0, ((1020 + (20 * li)) + 1) + (4 * ti))) rfl rfl) ?_
                refine xg_ialdB (n := ((1020 + (20 * li)) + 1) + (4 * ti)) (B := 4294967295) ((hR83.fr hF38 (by decide)).fr hF86 (by decide)) (hgb) xnm0 (by omega) (fun u151 hu152 he153 => ?_)
                refine xg_t (xg_const) ?_
                by_cases hc154 : u151 = 1
                · refine xg_t (xg_icF (u := u151) (v := 1) rfl xnm0 xnm0 (xj_neF hc154)) ?_
                  refine xg_t (xg_const) ?_
                  refine xg_t (xg_goto) ?_
                  refine xg_t (xg_blk (b := [(155, 3, 6, 162, 0, 0), (158, 1, 3, 1, 0, 0), (159, 3, 8, 163, 0, 0)]) rfl) ?_
                  refine xg_t (xg_icT (u := 1) (v := 1) rfl xnm0 xnm0 (by decide)) ?_
                  refine xg_t (xg_blk (b := [(162, 1, 3, 0, 0, 0)]) rfl) ?_
                  refine xg_t (xg_const) ?_
                  refine xg_t (xg_blk (b := [(163, 1, 15, 3, 0, 0), (164, 3, 9, 4, 1, 0), (167, 3, 8, 14, 0, 0)]) rfl) ?_
                  refine xg_t (xg_istore (l1 := [(8, (0, 1)), (7, (0, u121)), (6, (0, n87)), (5, (0, ((1020 + (20 * li)) + 1) + (4 * ti))), (0, (2, 82)), (1, (0, li)), (2, (0, 1020 + (20 * li))), (4, (0, ti))]) rfl rfl rfl) ?_
                  refine xg_t (xg_iinc (u := ti) (z := ti + 1) (l1 := [(3, (0, 0)), (8, (0, 1)), (7, (0, u121)), (6, (0, n87)), (5, (0, ((1020 + (20 * li)) + 1) + (4 * ti))), (0, (2, 82)), (1, (0, li)), (2, (0, 1020 + (20 * li)))]) rfl rfl (by omega) rfl) ?_
                  refine xg_t (xg_goto) ?_
                  refine xg_t (xg_drop (l1 := [(0, (2, 82)), (1, (0, li)), (2, (0, 1020 + (20 * li))), (3, (0, 0)), (4, (0, ti + 1))]) (List.forall_mem_cons.mpr ⟨List.mem_cons_of_mem _ (List.mem_cons_of_mem _ (List.mem_cons_of_mem _ (List.mem_cons_of_mem _ (List.mem_cons_of_mem _ (List.mem_cons_of_mem _ (List.mem_cons_self)))))), List.forall_mem_cons.mpr ⟨List.mem_cons_of_mem _ (List.mem_cons_of_mem _ (List.mem_cons_of_mem _ (List.mem_cons_of_mem _ (List.mem_cons_of_mem _ (List.mem_cons_of_mem _ (List.mem_cons_of_mem _ (List.mem_cons_self))))))), List.forall_mem_cons.mpr ⟨List.mem_cons_of_mem _ (List.mem_cons_of_mem _ (List.mem_cons_of_mem _ (List.mem_cons_of_mem _ (List.mem_cons_of_mem _ (List.mem_cons_of_mem _ (List.mem_cons_of_mem _ (List.mem_cons_of_mem _ (List.mem_cons_self)))))))), List.forall_mem_cons.mpr ⟨List.mem_cons_of_mem _ (List.mem_cons_self), List.forall_mem_cons.mpr ⟨List.mem_cons_self, fun _ h => absurd h List.not_mem_nil⟩⟩⟩⟩⟩)) ?_
                  exact ih34 0 (ti + 1) w83 (by omega) (by omega) (by omega) (hI85) ((hF38.tr (hF86.up (by decide))))
                · refine xg_t (xg_icT (u := u151) (v := 1) rfl xnm0 xnm0 (xj_neT hc154)) ?_
                  refine xg_t (xg_blk (b := [(154, 1, 3, 0, 0, 0)]) rfl) ?_
                  refine xg_t (xg_const) ?_
                  refine xg_t (xg_blk (b := [(155, 3, 6, 162, 0, 0), (158, 1, 3, 1, 0, 0), (159, 3, 8, 163, 0, 0)]) rfl) ?_
                  refine xg_t (xg_icF (u := 1) (v := 0) rfl xnm0 xnm0 (by decide)) ?_
                  refine xg_t (xg_const) ?_
                  refine xg_t (xg_goto) ?_
                  refine xg_t (xg_blk (b := [(163, 1, 15, 3, 0, 0), (164, 3, 9, 4, 1, 0), (167, 3, 8, 14, 0, 0)]) rfl) ?_
                  refine xg_t (xg_istore (l1 := [(8, (0, 1)), (7, (0, u121)), (6, (0, n87)), (5, (0, ((1020 + (20 * li)) + 1) + (4 * ti))), (0, (2, 82)), (1, (0, li)), (2, (0, 1020 + (20 * li))), (4, (0, ti))]) rfl rfl rfl) ?_
                  refine xg_t (xg_iinc (u := ti) (z := ti + 1) (l1 := [(3, (0, 1)), (8, (0, 1)), (7, (0, u121)), (6, (0, n87)), (5, (0, ((1020 + (20 * li)) + 1) + (4 * ti))), (0, (2, 82)), (1, (0, li)), (2, (0, 1020 + (20 * li)))]) rfl rfl (by omega) rfl) ?_
                  refine xg_t (xg_goto) ?_
                  refine xg_t (xg_drop (l1 := [(0, (2, 82)), (1, (0, li)), (2, (0, 1020 + (20 * li))), (3, (0, 1)), (4, (0, ti + 1))]) (List.forall_mem_cons.mpr ⟨List.mem_cons_of_mem _ (List.mem_cons_of_mem _ (List.mem_cons_of_mem _ (List.mem_cons_of_mem _ (List.mem_cons_of_mem _ (List.mem_cons_of_mem _ (List.mem_cons_self)))))), List.forall_mem_cons.mpr ⟨List.mem_cons_of_mem _ (List.mem_cons_of_mem _ (List.mem_cons_of_mem _ (List.mem_cons_of_mem _ (List.mem_cons_of_mem _ (List.mem_cons_of_mem _ (List.mem_cons_of_mem _ (List.mem_cons_self))))))), List.forall_mem_cons.mpr ⟨List.mem_cons_of_mem _ (List.mem_cons_of_mem _ (List.mem_cons_of_mem _ (List.mem_cons_of_mem _ (List.mem_cons_of_mem _ (List.mem_cons_of_mem _ (List.mem_cons_of_mem _ (List.mem_cons_of_mem _ (List.mem_cons_self)))))))), List.forall_mem_cons.mpr ⟨List.mem_cons_of_mem _ (List.mem_cons_self), List.forall_mem_cons.mpr ⟨List.mem_cons_self, fun _ h => absurd h List.not_mem_nil⟩⟩⟩⟩⟩)) ?_
                  exact ih34 1 (ti + 1) w83 (by omega) (by omega) (by omega) (hI85) ((hF38.tr (hF86.up (by decide))))
              · refine xg_t (xg_icT (u := n87) (v := u121) rfl xnm0 xnm0 (xj_neT hc150)) ?_
                refine xg_t (xg_blk (b := [(134, 1, 3, 0, 0, 0)]) rfl) ?_
                refine xg_t (xg_const) ?_
                refine xg_t (xg_blk (b := [(135, 2, 15, 8, 0, 0), (137, 2, 2, 8, 0, 0), (139, 1, 0, 0, 0, 0), (140, 3, 1, 12, 0, 7), (143, 2, 2, 5, 0, 0), (145, 1, 10, 0, 0, 0), (146, 1, 3, 1, 0, 0), (147, 3, 6, 154, 1, 0), (150, 1, 3, 1, 0, 0), (151, 3, 8, 155, 0, 0)]) rfl) ?_
                refine xg_t (xg_istore (l1 := [(7, (0, u121)), (6, (0, n87)), (5, (0, ((1020 + (20 * li)) + 1) + (4 * ti))), (0, (2, 82)), (1, (0, li)), (2, (0, 1020 + (20 * li))), (3, (0, is_)), (4, (0, ti))]) rfl rfl rfl) ?_
                refine xg_t (xg_iload (va := (0, 0)) rfl rfl) ?_
                refine xg_t (xg_aload (va := (2, 82)) rfl rfl) ?_
                refine xg_t (xg_getf (va := (2, 83)) h82_119 rfl) ?_
                refine xg_t (xg_iload (va := (0, ((1020 + (20 * li)) + 1) + (4 * ti))) rfl rfl) ?_
                refine xg_ialdB (n := ((1020 + (20 * li)) + 1) + (4 * ti)) (B := 4294967295) ((hR83.fr hF38 (by decide)).fr hF86 (by decide)) (hgb) xnm0 (by omega) (fun u155 hu156 he157 => ?_)
                refine xg_t (xg_const) ?_
                by_cases hc158 : u155 = 1
                · refine xg_t (xg_icF (u := u155) (v := 1) rfl xnm0 xnm0 (xj_neF hc158)) ?_
                  refine xg_t (xg_const) ?_
                  refine xg_t (xg_goto) ?_
                  refine xg_t (xg_blk (b := [(155, 3, 6, 162, 0, 0), (158, 1, 3, 1, 0, 0), (159, 3, 8, 163, 0, 0)]) rfl) ?_
                  refine xg_t (xg_icF (u := 0) (v := 1) rfl xnm0 xnm0 (by decide)) ?_
                  refine xg_t (xg_const) ?_
                  refine xg_t (xg_goto) ?_
                  refine xg_t (xg_blk (b := [(163, 1, 15, 3, 0, 0), (164, 3, 9, 4, 1, 0), (167, 3, 8, 14, 0, 0)]) rfl) ?_
                  refine xg_t (xg_istore (l1 := [(8, (0, 0)), (7, (0, u121)), (6, (0, n87)), (5, (0, ((1020 + (20 * li)) + 1) + (4 * ti))), (0, (2, 82)), (1, (0, li)), (2, (0, 1020 + (20 * li))), (4, (0, ti))]) rfl rfl rfl) ?_
                  refine xg_t (xg_iinc (u := ti) (z := ti + 1) (l1 := [(3, (0, 1)), (8, (0, 0)), (7, (0, u121)), (6, (0, n87)), (5, (0, ((1020 + (20 * li)) + 1) + (4 * ti))), (0, (2, 82)), (1, (0, li)), (2, (0, 1020 + (20 * li)))]) rfl rfl (by omega) rfl) ?_
                  refine xg_t (xg_goto) ?_
                  refine xg_t (xg_drop (l1 := [(0, (2, 82)), (1, (0, li)), (2, (0, 1020 + (20 * li))), (3, (0, 1)), (4, (0, ti + 1))]) (List.forall_mem_cons.mpr ⟨List.mem_cons_of_mem _ (List.mem_cons_of_mem _ (List.mem_cons_of_mem _ (List.mem_cons_of_mem _ (List.mem_cons_of_mem _ (List.mem_cons_of_mem _ (List.mem_cons_self)))))), List.forall_mem_cons.mpr ⟨List.mem_cons_of_mem _ (List.mem_cons_of_mem _ (List.mem_cons_of_mem _ (List.mem_cons_of_mem _ (List.mem_cons_of_mem _ (List.mem_cons_of_mem _ (List.mem_cons_of_mem _ (List.mem_cons_self))))))), List.forall_mem_cons.mpr ⟨List.mem_cons_of_mem _ (List.mem_cons_of_mem _ (List.mem_cons_of_mem _ (List.mem_cons_of_mem _ (List.mem_cons_of_mem _ (List.mem_cons_of_mem _ (List.mem_cons_of_mem _ (List.mem_cons_of_mem _ (List.mem_cons_self)))))))), List.forall_mem_cons.mpr ⟨List.mem_cons_of_mem _ (List.mem_cons_self), List.forall_mem_cons.mpr ⟨List.mem_cons_self, fun _ h => absurd h List.not_mem_nil⟩⟩⟩⟩⟩)) ?_
                  exact ih34 1 (ti + 1) w83 (by omega) (by omega) (by omega) (hI85) ((hF38.tr (hF86.up (by decide))))
                · refine xg_t (xg_icT (u := u155) (v := 1) rfl xnm0 xnm0 (xj_neT hc158)) ?_
                  refine xg_t (xg_blk (b := [(154, 1, 3, 0, 0, 0)]) rfl) ?_
                  refine xg_t (xg_const) ?_
                  refine xg_t (xg_blk (b := [(155, 3, 6, 162, 0, 0), (158, 1, 3, 1, 0, 0), (159, 3, 8, 163, 0, 0)]) rfl) ?_
                  refine xg_t (xg_icT (u := 0) (v := 0) rfl xnm0 xnm0 (by decide)) ?_
                  refine xg_t (xg_blk (b := [(162, 1, 3, 0, 0, 0)]) rfl) ?_
                  refine xg_t (xg_const) ?_
                  refine xg_t (xg_blk (b := [(163, 1, 15, 3, 0, 0), (164, 3, 9, 4, 1, 0), (167, 3, 8, 14, 0, 0)]) rfl) ?_
                  refine xg_t (xg_istore (l1 := [(8, (0, 0)), (7, (0, u121)), (6, (0, n87)), (5, (0, ((1020 + (20 * li)) + 1) + (4 * ti))), (0, (2, 82)), (1, (0, li)), (2, (0, 1020 + (20 * li))), (4, (0, ti))]) rfl rfl rfl) ?_
                  refine xg_t (xg_iinc (u := ti) (z := ti + 1) (l1 := [(3, (0, 0)), (8, (0, 0)), (7, (0, u121)), (6, (0, n87)), (5, (0, ((1020 + (20 * li)) + 1) + (4 * ti))), (0, (2, 82)), (1, (0, li)), (2, (0, 1020 + (20 * li)))]) rfl rfl (by omega) rfl) ?_
                  refine xg_t (xg_goto) ?_
                  refine xg_t (xg_drop (l1 := [(0, (2, 82)), (1, (0, li)), (2, (0, 1020 + (20 * li))), (3, (0, 0)), (4, (0, ti + 1))]) (List.forall_mem_cons.mpr ⟨List.mem_cons_of_mem _ (List.mem_cons_of_mem _ (List.mem_cons_of_mem _ (List.mem_cons_of_mem _ (List.mem_cons_of_mem _ (List.mem_cons_of_mem _ (List.mem_cons_self)))))), List.forall_mem_cons.mpr ⟨List.mem_cons_of_mem _ (List.mem_cons_of_mem _ (List.mem_cons_of_mem _ (List.mem_cons_of_mem _ (List.mem_cons_of_mem _ (List.mem_cons_of_mem _ (List.mem_cons_of_mem _ (List.mem_cons_self))))))), List.forall_mem_cons.mpr ⟨List.mem_cons_of_mem _ (List.mem_cons_of_mem _ (List.mem_cons_of_mem _ (List.mem_cons_of_mem _ (List.mem_cons_of_mem _ (List.mem_cons_of_mem _ (List.mem_cons_of_mem _ (List.mem_cons_of_mem _ (List.mem_cons_self)))))))), List.forall_mem_cons.mpr ⟨List.mem_cons_of_mem _ (List.mem_cons_self), List.forall_mem_cons.mpr ⟨List.mem_cons_self, fun _ h => absurd h List.not_mem_nil⟩⟩⟩⟩⟩)) ?_
                  exact ih34 0 (ti + 1) w83 (by omega) (by omega) (by omega) (hI85) ((hF38.tr (hF86.up (by decide))))
      · refine xg_t (xg_icT (u := ti) (v := u74) rfl xnm0 xnm0 (xj_geT (by omega) (by omega))) ?_
        refine xg_t (xg_blk (b := [(170, 1, 2, 3, 0, 0), (171, 1, 12, 0, 1, 0)]) rfl) ?_
        refine xg_t (xg_iload (va := (0, is_)) rfl rfl) ?_
        exact xg_e ⟨is_, w36, ⟨xret_b (by omega), rfl⟩, by omega, hI37, hF38⟩
  exact key33 _ 1 0 w (Nat.lt_succ_self _) (by omega) (by omega) (hI) (xFr.rf)
theorem mBarred (hI : xMnv w)  : xPi (d + 9) mX12_barred [(2, 82)] w bd fc rr (fun n w' => (n ≤ 4294967295) ∧ xMnv w' ∧ xFr [82, 88, 90, 91, 92, 93, 94, 95, 96, 97, 98, 99, 100, 101, 102, 103, 104, 105, 106, 107, 111] w w') := by
  refine xPi.of ?_
  show xTo (d + 9) mX12_barred (0, [], [(0, (2, 82))], [], (w, bd, fc, 0, 0, rr)) (fun φ => ∃ n w', xEnd 1 [(0, n)] (w', bd, fc, 0, 0, rr) φ ∧ (n ≤ 4294967295) ∧ xMnv w' ∧ xFr [82, 88, 90, 91, 92, 93, 94, 95, 96, 97, 98, 99, 100, 101, 102, 103, 104, 105, 106, 107, 111] w w')
  obtain ⟨f82_1, f82_3, f82_5, f82_7, f82_9, f82_11, f82_13, f82_15, f82_17, f82_19, f82_21, f82_22, f82_23, f82_25, f82_27, f82_29, h82_31, hb2, hb4, hb6, hb8, hb10, hb12, hb14, hb16, hb18, hb20, hb24, hb26, hb28, hb30, hb32⟩ := (hI 82 (by decide) (by decide) : cp82 (wget w 82))
  replace hb4 := xHid.of hb4
  replace hb10 := xHid.of hb10
  replace hb14 := xHid.of hb14
  replace hb16 := xHid.of hb16
  replace hb20 := xHid.of hb20
  replace hb24 := xHid.of hb24
  replace hb26 := xHid.of hb26
  replace hb28 := xHid.of hb28
  replace hb30 := xHid.of hb30
  obtain ⟨g83_33, h83_34, hb35, hx36⟩ := (hI 83 (by decide) (by decide) : cpx83 (wget w 83))
  have h83_34 : xRow w 83 5360 50 g83_33 := h83_34
  refine xg_t (xg_blk (b := [(0, 1, 3, 0, 0, 0), (1, 1, 15, 1, 0, 0)]) rfl) ?_
  refine xg_t (xg_const) ?_
  refine xg_t (xg_istore (l1 := [(0, (2, 82))]) rfl rfl rfl) ?_
  refine xg_t (xg_drop (l1 := [(0, (2, 82)), (1, (0, 0))]) (List.forall_mem_cons.mpr ⟨List.mem_cons_of_mem _ (List.mem_cons_self), List.forall_mem_cons.mpr ⟨List.mem_cons_self, fun _ h => absurd h List.not_mem_nil⟩⟩)) ?_
  have key37 : ∀ (m39 : Nat) (ki : Nat) (w40 : List (List xE)), 16 - ki < m39 → ki ≤ 16 → xMnv w40 → xFr [82, 88, 90, 91, 92, 93, 94, 95, 96, 97, 98, 99, 100, 101, 102, 103, 104, 105, 106, 107, 111] w w40 → xTo (d + 9) mX12_barred (2, [], [(0, (2, 82)), (1, (0, ki))], [], (w40, bd, fc, 0, 0, rr)) (fun φ => ∃ n w', xEnd 1 [(0, n)] (w', bd, fc, 0, 0, rr) φ ∧ (n ≤ 4294967295) ∧ xMnv w' ∧ xFr [82, 88, 90, 91, 92, 93, 94, 95, 96, 97, 98, 99, 100, 101, 102, 103, 104, 105, 106, 107, 111] w w') := by
    intro m39
    induction m39 with
    | zero => intro ki w40 hz; exact absurd hz (Nat.not_lt_zero _)
    | succ m39 ih38 =>
      intro ki w40 hm44 hn43 hI41 hF42
      refine xg_t (xg_blk (b := [(2, 1, 2, 1, 0, 0), (3, 1, 0, 0, 0, 0), (4, 3, 1, 12, 0, 7), (7, 3, 5, 902, 0, 0), (10, 1, 10, 0, 0, 0), (11, 3, 6, 51, 3, 0), (14, 1, 0, 0, 0, 0), (15, 3, 1, 12, 0, 7), (18, 3, 5, 1020, 0, 0), (21, 2, 4, 20, 0, 0), (23, 1, 2, 1, 0, 0), (24, 1, 16, 0, 0, 0), (25, 1, 11, 0, 0, 0), (26, 2, 4, 17, 0, 0), (28, 1, 11, 0, 0, 0), (29, 1, 10, 0, 0, 0), (30, 2, 4, 40, 0, 0), (32, 3, 6, 45, 1, 0), (35, 1, 0, 0, 0, 0), (36, 1, 2, 1, 0, 0), (37, 3, 13, 152, 96, 450), (40, 3, 7, 45, 0, 0), (43, 1, 2, 1, 0, 0), (44, 1, 12, 0, 1, 0)]) rfl) ?_
      refine xg_t (xg_iload (va := (0, ki)) rfl rfl) ?_
      refine xg_t (xg_aload (va := (2, 82)) rfl rfl) ?_
      obtain ⟨f82_45, f82_47, f82_49, f82_51, f82_53, f82_55, f82_57, f82_59, f82_61, f82_63, f82_65, f82_66, f82_67, f82_69, f82_71, f82_73, h82_75, hb46, hb48, hb50, hb52, hb54, hb56, hb58, hb60, hb62, hb64, hb68, hb70, hb72, hb74, hb76⟩ := (hI41 82 (by decide) (by decide) : cp82 (wget w40 82))
      replace hb48 := xHid.of hb48
      replace hb54 := xHid.of hb54
      replace hb58 := xHid.of hb58
      replace hb60 := xHid.of hb60
      replace hb64 := xHid.of hb64
      replace hb68 := xHid.of hb68
      replace hb70 := xHid.of hb70
      replace hb72 := xHid.of hb72
      replace hb74 := xHid.of hb74
      refine xg_t (xg_getf (va := (2, 83)) h82_75 rfl) ?_
      refine xg_t (xg_sip) ?_
      refine xg_ialdB (n := 902) (B := 4294967295) (h83_34.fr hF42 (by decide)) (hb35) xnm0 (by omega) (fun u77 hu78 he79 => ?_)
      have hl80 : u77 ≤ 16 := by rw [← he79]; exact hx36.l902
      by_cases hc81 : ki < u77
      · refine xg_t (xg_icF (u := ki) (v := u77) rfl xnm0 xnm0 (xj_geF hc81 (by omega))) ?_
        refine xg_t (xg_aload (va := (2, 82)) rfl rfl) ?_
        refine xg_t (xg_getf (va := (2, 83)) h82_75 rfl) ?_
        refine xg_t (xg_sip) ?_
        refine xg_t (xg_bip) ?_
        refine xg_t (xg_iload (va := (0, ki)) rfl rfl) ?_
        refine xg_t (xg_imul (u := 20) (v := ki) (z := 20 * ki) xnm0 xnm0 (by omega)) ?_
        refine xg_t (xg_iadd (u := 1020) (v := 20 * ki) (z := 1020 + (20 * ki)) xnm0 xnm0 (by omega)) ?_
        refine xg_t (xg_bip) ?_
        refine xg_t (xg_iadd (u := 1020 + (20 * ki)) (v := 17) (z := (1020 + (20 * ki)) + 17) xnm0 xnm0 (by omega)) ?_
        refine xg_ialdB (n := (1020 + (20 * ki)) + 17) (B := 4294967295) (h83_34.fr hF42 (by decide)) (hb35) xnm0 (by omega) (fun u82 hu83 he84 => ?_)
        refine xg_t (xg_bip) ?_
        by_cases hc85 : u82 = 40
        · refine xg_t (xg_icF (u := u82) (v := 40) rfl xnm0 xnm0 (xj_neF hc85)) ?_
          refine xg_t (xg_aload (va := (2, 82)) rfl rfl) ?_
          refine xg_t (xg_iload (va := (0, ki)) rfl rfl) ?_
          have hl86 := hx36.l902
          refine xg_cVi mX12_holds (vs := [(0, ki)]) (rest := []) (cn1 := 0) (sl1 := 0) rfl (mHolds (hI41) (by omega) (by omega) (h83_34.fr hF42 (by decide)) hb35 hx36) rfl h82_75 rfl rfl rfl rfl rfl rfl (fun n91 w87 hq88 => ?_)
          obtain ⟨hn92, hI89, hF90⟩ := hq88
          by_cases hc93 : n91 = 0
          · refine xg_t (xg_ifT (u := n91) rfl xnm0 (xj_eqT hc93)) ?_
            refine xg_t (xg_blk (b := [(45, 3, 9, 1, 1, 0), (48, 3, 8, 2, 0, 0)]) rfl) ?_
            refine xg_t (xg_iinc (u := ki) (z := ki + 1) (l1 := [(0, (2, 82))]) rfl rfl (by omega) rfl) ?_
            refine xg_t (xg_goto) ?_
            refine xg_t (xg_drop (l1 := [(0, (2, 82)), (1, (0, ki + 1))]) (List.forall_mem_cons.mpr ⟨List.mem_cons_of_mem _ (List.mem_cons_self), List.forall_mem_cons.mpr ⟨List.mem_cons_self, fun _ h => absurd h List.not_mem_nil⟩⟩)) ?_
            exact ih38 (ki + 1) w87 (by omega) (by omega) (hI89) ((hF42.tr (hF90.up (by decide))))
          · refine xg_t (xg_ifF (u := n91) rfl xnm0 (xj_eqF hc93)) ?_
            refine xg_t (xg_iload (va := (0, ki)) rfl rfl) ?_
            exact xg_e ⟨ki, w87, ⟨rfl, rfl⟩, by omega, hI89, (hF42.tr (hF90.up (by decide)))⟩
        · refine xg_t (xg_icT (u := u82) (v := 40) rfl xnm0 xnm0 (xj_neT hc85)) ?_
          refine xg_t (xg_blk (b := [(45, 3, 9, 1, 1, 0), (48, 3, 8, 2, 0, 0)]) rfl) ?_
          refine xg_t (xg_iinc (u := ki) (z := ki + 1) (l1 := [(0, (2, 82))]) rfl rfl (by omega) rfl) ?_
          refine xg_t (xg_goto) ?_
          refine xg_t (xg_drop (l1 := [(0, (2, 82)), (1, (0, ki + 1))]) (List.forall_mem_cons.mpr ⟨List.mem_cons_of_mem _ (List.mem_cons_self), List.forall_mem_cons.mpr ⟨List.mem_cons_self, fun _ h => absurd h List.not_mem_nil⟩⟩)) ?_
          exact ih38 (ki + 1) w40 (by omega) (by omega) (hI41) (hF42)
      · refine xg_t (xg_icT (u := ki) (v := u77) rfl xnm0 xnm0 (xj_geT (by omega) (by omega))) ?_
        refine xg_t (xg_blk (b := [(51, 1, 3, 4294967295, 0, 0), (52, 1, 12, 0, 1, 0)]) rfl) ?_
        refine xg_t (xg_const) ?_
        exact xg_e ⟨4294967295, w40, ⟨rfl, rfl⟩, by omega, hI41, hF42⟩
  exact key37 _ 0 w (Nat.lt_succ_self _) (by omega) (hI) (xFr.rf)
theorem mPrice (hI : xMnv w)  : xPi (d + 9) mX12_price [(2, 82)] w bd fc rr (fun n w' => (n ≤ 4294967295) ∧ xMnv w' ∧ xFr [82, 88, 90, 91, 92, 93, 94, 95, 96, 97, 98, 99, 100, 101, 102, 103, 104, 105, 106, 107, 111] w w') := by
  refine xPi.of ?_
  show xTo (d + 9) mX12_price (0, [], [(0, (2, 82))], [], (w, bd, fc, 0, 0, rr)) (fun φ => ∃ n w', xEnd 1 [(0, n)] (w', bd, fc, 0, 0, rr) φ ∧ (n ≤ 4294967295) ∧ xMnv w' ∧ xFr [82, 88, 90, 91, 92, 93, 94, 95, 96, 97, 98, 99, 100, 101, 102, 103, 104, 105, 106, 107, 111] w w')
  obtain ⟨f82_1, f82_3, f82_5, f82_7, f82_9, f82_11, f82_13, f82_15, f82_17, f82_19, f82_21, f82_22, f82_23, f82_25, f82_27, f82_29, h82_31, hb2, hb4, hb6, hb8, hb10, hb12, hb14, hb16, hb18, hb20, hb24, hb26, hb28, hb30, hb32⟩ := (hI 82 (by decide) (by decide) : cp82 (wget w 82))
  replace hb4 := xHid.of hb4
  replace hb10 := xHid.of hb10
  replace hb14 := xHid.of hb14
  replace hb16 := xHid.of hb16
  replace hb20 := xHid.of hb20
  replace hb24 := xHid.of hb24
  replace hb26 := xHid.of hb26
  replace hb28 := xHid.of hb28
  replace hb30 := xHid.of hb30
  obtain ⟨g83_33, h83_34, hb35, hx36⟩ := (hI 83 (by decide) (by decide) : cpx83 (wget w 83))
  have h83_34 : xRow w 83 5360 50 g83_33 := h83_34
  refine xg_t (xg_blk (b := [(0, 1, 3, 0, 0, 0), (1, 1, 15, 1, 0, 0), (2, 1, 3, 0, 0, 0), (3, 1, 15, 2, 0, 0)]) rfl) ?_
  refine xg_t (xg_const) ?_
  refine xg_t (xg_istore (l1 := [(0, (2, 82))]) rfl rfl rfl) ?_
  refine xg_t (xg_const) ?_
  refine xg_t (xg_istore (l1 := [(1, (0, 0)), (0, (2, 82))]) rfl rfl rfl) ?_
  refine xg_t (xg_drop (l1 := [(0, (2, 82)), (1, (0, 0)), (2, (0, 0))]) (List.forall_mem_cons.mpr ⟨List.mem_cons_of_mem _ (List.mem_cons_of_mem _ (List.mem_cons_self)), List.forall_mem_cons.mpr ⟨List.mem_cons_of_mem _ (List.mem_cons_self), List.forall_mem_cons.mpr ⟨List.mem_cons_self, fun _ h => absurd h List.not_mem_nil⟩⟩⟩)) ?_
  have key37 : ∀ (m39 : Nat) (su ki : Nat) (w40 : List (List xE)), 16 - ki < m39 → su ≤ 4294967295 → ki ≤ 16 → xMnv w40 → xFr [82, 88, 90, 91, 92, 93, 94, 95, 96, 97, 98, 99, 100, 101, 102, 103, 104, 105, 106, 107, 111] w w40 → xTo (d + 9) mX12_price (4, [], [(0, (2, 82)), (1, (0, su)), (2, (0, ki))], [], (w40, bd, fc, 0, 0, rr)) (fun φ => ∃ n w', xEnd 1 [(0, n)] (w', bd, fc, 0, 0, rr) φ ∧ (n ≤ 4294967295) ∧ xMnv w' ∧ xFr [82, 88, 90, 91, 92, 93, 94, 95, 96, 97, 98, 99, 100, 101, 102, 103, 104, 105, 106, 107, 111] w w') := by
    intro m39
    induction m39 with
    | zero => intro su ki w40 hz; exact absurd hz (Nat.not_lt_zero _)
    | succ m39 ih38 =>
      intro su ki w40 hm45 hn43 hn44 hI41 hF42
      refine xg_t (xg_blk (b := [(4, 1, 2, 2, 0, 0), (5, 1, 0, 0, 0, 0), (6, 3, 1, 12, 0, 7), (9, 3, 5, 902, 0, 0), (12, 1, 10, 0, 0, 0), (13, 3, 6, 98, 3, 0), (16, 1, 0, 0, 0, 0), (17, 3, 1, 12, 0, 7), (20, 3, 5, 1020, 0, 0), (23, 2, 4, 20, 0, 0), (25, 1, 2, 2, 0, 0), (26, 1, 16, 0, 0, 0), (27, 1, 11, 0, 0, 0), (28, 2, 4, 17, 0, 0), (30, 1, 11, 0, 0, 0), (31, 1, 10, 0, 0, 0), (32, 1, 15, 3, 0, 0), (33, 1, 2, 3, 0, 0), (34, 2, 4, 40, 0, 0), (36, 3, 6, 92, 0, 0), (39, 1, 0, 0, 0, 0), (40, 1, 2, 2, 0, 0), (41, 3, 13, 152, 96, 450), (44, 3, 7, 92, 0, 0), (47, 1, 2, 1, 0, 0), (48, 1, 2, 3, 0, 0), (49, 2, 4, 41, 0, 0), (51, 3, 6, 73, 1, 0), (54, 1, 0, 0, 0, 0), (55, 3, 1, 12, 0, 7), (58, 3, 5, 1020, 0, 0), (61, 2, 4, 20, 0, 0), (63, 1, 2, 2, 0, 0), (64, 1, 16, 0, 0, 0), (65, 1, 11, 0, 0, 0), (66, 2, 4, 18, 0, 0), (68, 1, 11, 0, 0, 0), (69, 1, 10, 0, 0, 0), (70, 3, 8, 90, 0, 0)]) rfl) ?_
      refine xg_t (xg_iload (va := (0, ki)) rfl rfl) ?_
      refine xg_t (xg_aload (va := (2, 82)) rfl rfl) ?_
      obtain ⟨f82_46, f82_48, f82_50, f82_52, f82_54, f82_56, f82_58, f82_60, f82_62, f82_64, f82_66, f82_67, f82_68, f82_70, f82_72, f82_74, h82_76, hb47, hb49, hb51, hb53, hb55, hb57, hb59, hb61, hb63, hb65, hb69, hb71, hb73, hb75, hb77⟩ := (hI41 82 (by decide) (by decide) : cp82 (wget w40 82))
      replace hb49 := xHid.of hb49
      replace hb55 := xHid.of hb55
      replace hb59 := xHid.of hb59
      replace hb61 := xHid.of hb61
      replace hb65 := xHid.of hb65
      replace hb69 := xHid.of hb69
      replace hb71 := xHid.of hb71
      replace hb73 := xHid.of hb73
      replace hb75 := xHid.of hb75
      refine xg_t (xg_getf (va := (2, 83)) h82_76 rfl) ?_
      refine xg_t (xg_sip) ?_
      refine xg_ialdB (n := 902) (B := 4294967295) (h83_34.fr hF42 (by decide)) (hb35) xnm0 (by omega) (fun u78 hu79 he80 => ?_)
      have hl81 : u78 ≤ 16 := by rw [← he80]; exact hx36.l902
      by_cases hc82 : ki < u78
      · refine xg_t (xg_icF (u := ki) (v := u78) rfl xnm0 xnm0 (xj_geF hc82 (by omega))) ?_
        refine xg_t (xg_aload (va := (2, 82)) rfl rfl) ?_
        refine xg_t (xg_getf (va := (2, 83)) h82_76 rfl) ?_
        refine xg_t (xg_sip) ?_
        refine xg_t (xg_bip) ?_
        refine xg_t (xg_iload (va := (0, ki)) rfl rfl) ?_
        refine xg_t (xg_imul (u := 20) (v := ki) (z := 20 * ki) xnm0 xnm0 (by omega)) ?_
        refine xg_t (xg_iadd (u := 1020) (v := 20 * ki) (z := 1020 + (20 * ki)) xnm0 xnm0 (by omega)) ?_
        refine xg_t (xg_bip) ?_
        refine xg_t (xg_iadd (u := 1020 + (20 * ki)) (v := 17) (z := (1020 + (20 * ki)) + 17) xnm0 xnm0 (by omega)) ?_
        refine xg_ialdB (n := (1020 + (20 * ki)) + 17) (B := 4294967295) (h83_34.fr hF42 (by decide)) (hb35) xnm0 (by omega) (fun u83 hu84 he85 => ?_)
        refine xg_t (xg_istore (l1 := [(0, (2, 82)), (1, (0, su)), (2, (0, ki))]) rfl rfl rfl) ?_
        refine xg_t (xg_iload (va := (0, u83)) rfl rfl) ?_
        refine xg_t (xg_bip) ?_
        by_cases hc86 : u83 = 40
        · refine xg_t (xg_icT (u := u83) (v := 40) rfl xnm0 xnm0 (xj_eqT hc86)) ?_
          refine xg_t (xg_blk (b := [(92, 3, 9, 2, 1, 0), (95, 3, 8, 4, 0, 0)]) rfl) ?_
          refine xg_t (xg_iinc (u := ki) (z := ki + 1) (l1 := [(3, (0, u83)), (0, (2, 82)), (1, (0, su))]) rfl rfl (by omega) rfl) ?_
          refine xg_t (xg_goto) ?_
          refine xg_t (xg_drop (l1 := [(0, (2, 82)), (1, (0, su)), (2, (0, ki + 1))]) (List.forall_mem_cons.mpr ⟨List.mem_cons_of_mem _ (List.mem_cons_of_mem _ (List.mem_cons_self)), List.forall_mem_cons.mpr ⟨List.mem_cons_of_mem _ (List.mem_cons_of_mem _ (List.mem_cons_of_mem _ (List.mem_cons_self))), List.forall_mem_cons.mpr ⟨List.mem_cons_self, fun _ h => absurd h List.not_mem_nil⟩⟩⟩)) ?_
          exact ih38 su (ki + 1) w40 (by omega) (by omega) (by omega) (hI41) (hF42)
        · refine xg_t (xg_icF (u := u83) (v := 40) rfl xnm0 xnm0 (xj_eqF hc86)) ?_
          refine xg_t (xg_aload (va := (2, 82)) rfl rfl) ?_
          refine xg_t (xg_iload (va := (0, ki)) rfl rfl) ?_
          have hl87 := hx36.l902
          refine xg_cVi mX12_holds (vs := [(0, ki)]) (rest := []) (cn1 := 0) (sl1 := 0) rfl (mHolds (hI41) (by omega) (by omega) (h83_34.fr hF42 (by decide)) hb35 hx36) rfl h82_76 rfl rfl rfl rfl rfl rfl (fun n92 w88 hq89 => ?_)
          obtain ⟨hn93, hI90, hF91⟩ := hq89
          by_cases hc94 : n92 = 0
          · refine xg_t (xg_ifT (u := n92) rfl xnm0 (xj_eqT hc94)) ?_
            refine xg_t (xg_blk (b := [(92, 3, 9, 2, 1, 0), (95, 3, 8, 4, 0, 0)]) rfl) ?_
            refine xg_t (xg_iinc (u := ki) (z := ki + 1) (l1 := [(3, (0, u83)), (0, (2, 82)), (1, (0, su))]) rfl rfl (by omega) rfl) ?_
            refine xg_t (xg_goto) ?_
            refine xg_t (xg_drop (l1 := [(0, (2, 82)), (1, (0, su)), (2, (0, ki + 1))]) (List.forall_mem_cons.mpr ⟨List.mem_cons_of_mem _ (List.mem_cons_of_mem _ (List.mem_cons_self)), List.forall_mem_cons.mpr ⟨List.mem_cons_of_mem _ (List.mem_cons_of_mem _ (List.mem_cons_of_mem _ (List.mem_cons_self))), List.forall_mem_cons.mpr ⟨List.mem_cons_self, fun _ h => absurd h List.not_mem_nil⟩⟩⟩)) ?_
            exact ih38 su (ki + 1) w88 (by omega) (by omega) (by omega) (hI90) ((hF42.tr (hF91.up (by decide))))
          · refine xg_t (xg_ifF (u := n92) rfl xnm0 (xj_eqF hc94)) ?_
            refine xg_t (xg_iload (va := (0, su)) rfl rfl) ?_
            refine xg_t (xg_iload (va := (0, u83)) rfl rfl) ?_
            refine xg_t (xg_bip) ?_
            by_cases hc95 : u83 = 41
            · refine xg_t (xg_icF (u := u83) (v := 41) rfl xnm0 xnm0 (xj_neF hc95)) ?_
              refine xg_t (xg_aload (va := (2, 82)) rfl rfl) ?_
              obtain ⟨f82_96, f82_98, f82_100, f82_102, f82_104, f82_106, f82_108, f82_110, f82_112, f82_114, f82_116, f82_117, f82_118, f82_120, f82_122, f82_124, h82_126, hb97, hb99, hb101, hb103, hb105, hb107, hb109, hb111, hb113, hb115, hb119, hb121, hb123, hb125, hb127⟩ := (hI90 82 (by decide) (by decide) : cp82 (wget w88 82))
              replace hb99 := xHid.of hb99
              replace hb105 := xHid.of hb105
              replace hb109 := xHid.of hb109
              replace hb111 := xHid.of hb111
              replace hb115 := xHid.of hb115
              replace hb119 := xHid.of hb119
              replace hb121 := xHid.of hb121
              replace hb123 := xHid.of hb123
              replace hb125 := xHid.of hb125
              refine xg_t (xg_getf (va := (2, 83)) h82_126 rfl) ?_
              refine xg_t (xg_sip) ?_
              refine xg_t (xg_bip) ?_
              refine xg_t (xg_iload (va := (0, ki)) rfl rfl) ?_
              refine xg_t (xg_imul (u := 20) (v := ki) (z := 20 * ki) xnm0 xnm0 (by omega)) ?_
              refine xg_t (xg_iadd (u := 1020) (v := 20 * ki) (z := 1020 + (20 * ki)) xnm0 xnm0 (by omega)) ?_
              refine xg_t (xg_bip) ?_
              refine xg_t (xg_iadd (u := 1020 + (20 * ki)) (v := 18) (z := (1020 + (20 * ki)) + 18) xnm0 xnm0 (by omega)) ?_
              refine xg_ialdB (n := (1020 + (20 * ki)) + 18) (B := 4294967295) ((h83_34.fr hF42 (by decide)).fr hF91 (by decide)) (hb35) xnm0 (by omega) (fun u128 hu129 he130 => ?_)
              refine xg_t (xg_goto) ?_
              refine xg_t (xg_blk (b := [(90, 1, 11, 0, 0, 0), (91, 1, 15, 1, 0, 0)]) rfl) ?_
              refine xg_k (xg_iadd (u := su) (v := u128) (z := (su + u128) % 4294967296) xnm0 xnm0 rfl) (Nat.mod_lt _ (by decide)) (fun z131 hz132 => ?_)
              refine xg_t (xg_istore (l1 := [(3, (0, u83)), (0, (2, 82)), (2, (0, ki))]) rfl rfl rfl) ?_
              refine xg_t (xg_blk (b := [(92, 3, 9, 2, 1, 0), (95, 3, 8, 4, 0, 0)]) rfl) ?_
              refine xg_t (xg_iinc (u := ki) (z := ki + 1) (l1 := [(1, (0, z131)), (3, (0, u83)), (0, (2, 82))]) rfl rfl (by omega) rfl) ?_
              refine xg_t (xg_goto) ?_
              refine xg_t (xg_drop (l1 := [(0, (2, 82)), (1, (0, z131)), (2, (0, ki + 1))]) (List.forall_mem_cons.mpr ⟨List.mem_cons_of_mem _ (List.mem_cons_of_mem _ (List.mem_cons_of_mem _ (List.mem_cons_self))), List.forall_mem_cons.mpr ⟨List.mem_cons_of_mem _ (List.mem_cons_self), List.forall_mem_cons.mpr ⟨List.mem_cons_self, fun _ h => absurd h List.not_mem_nil⟩⟩⟩)) ?_
              exact ih38 z131 (ki + 1) w88 (by omega) (by omega) (by omega) (hI90) ((hF42.tr (hF91.up (by decide))))
            · refine xg_t (xg_icT (u := u83) (v := 41) rfl xnm0 xnm0 (xj_neT hc95)) ?_
              refine xg_t (xg_blk (b := [(73, 1, 0, 0, 0, 0), (74, 3, 1, 12, 0, 7), (77, 3, 5, 1020, 0, 0), (80, 2, 4, 20, 0, 0), (82, 1, 2, 2, 0, 0), (83, 1, 16, 0, 0, 0), (84, 1, 11, 0, 0, 0), (85, 2, 4, 18, 0, 0), (87, 1, 11, 0, 0, 0), (88, 1, 10, 0, 0, 0), (89, 1, 69, 0, 0, 0)]) rfl) ?_
              refine xg_t (xg_aload (va := (2, 82)) rfl rfl) ?_
              obtain ⟨f82_133, f82_135, f82_137, f82_139, f82_141, f82_143, f82_145, f82_147, f82_149, f82_151, f82_153, f82_154, f82_155, f82_157, f82_159, f82_161, h82_163, hb134, hb136, hb138, hb140, hb142, hb144, hb146, hb148, hb150, hb152, hb156, hb158, hb160, hb162, hb164⟩ := (hI90 82 (by decide) (by decide) : cp82 (wget w88 82))
              replace hb136 := xHid.of hb136
              replace hb142 := xHid.of hb142
              replace hb146 := xHid.of hb146
              replace hb148 := xHid.of hb148
              replace hb152 := xHid.of hb152
              replace hb156 := xHid.of hb156
              replace hb158 := xHid.of hb158
              replace hb160 := xHid.of hb160
              replace hb162 := xHid.of hb162
              refine xg_t (xg_getf (va := (2, 83)) h82_163 rfl) ?_
              refine xg_t (xg_sip) ?_
              refine xg_t (xg_bip) ?_
              refine xg_t (xg_iload (va := (0, ki)) rfl rfl) ?_
              refine xg_t (xg_imul (u := 20) (v := ki) (z := 20 * ki) xnm0 xnm0 (by omega)) ?_
              refine xg_t (xg_iadd (u := 1020) (v := 20 * ki) (z := 1020 + (20 * ki)) xnm0 xnm0 (by omega)) ?_
              refine xg_t (xg_bip) ?_
              refine xg_t (xg_iadd (u := 1020 + (20 * ki)) (v := 18) (z := (1020 + (20 * ki)) + 18) xnm0 xnm0 (by omega)) ?_
              refine xg_ialdB (n := (1020 + (20 * ki)) + 18) (B := 4294967295) ((h83_34.fr hF42 (by decide)).fr hF91 (by decide)) (hb35) xnm0 (by omega) (fun u165 hu166 he167 => ?_)
              refine xg_k (xg_ineg (u := u165) xnm0) (xpt_lt _) (fun z168 hz169 => ?_)
              refine xg_t (xg_blk (b := [(90, 1, 11, 0, 0, 0), (91, 1, 15, 1, 0, 0)]) rfl) ?_
              refine xg_k (xg_iadd (u := su) (v := z168) (z := (su + z168) % 4294967296) xnm0 xnm0 rfl) (Nat.mod_lt _ (by decide)) (fun z170 hz171 => ?_)
              refine xg_t (xg_istore (l1 := [(3, (0, u83)), (0, (2, 82)), (2, (0, ki))]) rfl rfl rfl) ?_
              refine xg_t (xg_blk (b := [(92, 3, 9, 2, 1, 0), (95, 3, 8, 4, 0, 0)]) rfl) ?_
              refine xg_t (xg_iinc (u := ki) (z := ki + 1) (l1 := [(1, (0, z170)), (3, (0, u83)), (0, (2, 82))]) rfl rfl (by omega) rfl) ?_
              refine xg_t (xg_goto) ?_
              refine xg_t (xg_drop (l1 := [(0, (2, 82)), (1, (0, z170)), (2, (0, ki + 1))]) (List.forall_mem_cons.mpr ⟨List.mem_cons_of_mem _ (List.mem_cons_of_mem _ (List.mem_cons_of_mem _ (List.mem_cons_self))), List.forall_mem_cons.mpr ⟨List.mem_cons_of_mem _ (List.mem_cons_self), List.forall_mem_cons.mpr ⟨List.mem_cons_self, fun _ h => absurd h List.not_mem_nil⟩⟩⟩)) ?_
              exact ih38 z170 (ki + 1) w88 (by omega) (by omega) (by omega) (hI90) ((hF42.tr (hF91.up (by decide))))
      · refine xg_t (xg_icT (u := ki) (v := u78) rfl xnm0 xnm0 (xj_geT (by omega) (by omega))) ?_
        refine xg_t (xg_blk (b := [(98, 1, 2, 1, 0, 0), (99, 3, 7, 106, 3, 0), (102, 1, 3, 0, 0, 0), (103, 3, 8, 107, 0, 0)]) rfl) ?_
        refine xg_t (xg_iload (va := (0, su)) rfl rfl) ?_
        by_cases hc172 : su < 2147483648
        · refine xg_t (xg_ifT (u := su) rfl xnm0 (xjz_geT hc172)) ?_
          refine xg_t (xg_blk (b := [(106, 1, 2, 1, 0, 0)]) rfl) ?_
          refine xg_t (xg_iload (va := (0, su)) rfl rfl) ?_
          refine xg_t (xg_blk (b := [(107, 1, 12, 0, 1, 0)]) rfl) ?_
          exact xg_e ⟨su, w40, ⟨rfl, rfl⟩, by omega, hI41, hF42⟩
        · refine xg_t (xg_ifF (u := su) rfl xnm0 (xjz_geF (by omega) (by omega))) ?_
          refine xg_t (xg_const) ?_
          refine xg_t (xg_goto) ?_
          refine xg_t (xg_blk (b := [(107, 1, 12, 0, 1, 0)]) rfl) ?_
          exact xg_e ⟨0, w40, ⟨rfl, rfl⟩, by omega, hI41, hF42⟩
  exact key37 _ 0 0 w (Nat.lt_succ_self _) (by omega) (by omega) (hI) (xFr.rf)
end XMF
