/-! the model: what the calls say of the bend -/
section XBN
variable {d : Nat} {w : List (List xE)} {bd : List (Nat × Nat)} {fc : List (Nat × Nat × Bool)} {rr : Nat × Nat}
theorem mAsToldX (hI : xMnv w)  : xPq (d + 2) mX12_asTold [(2, 82)] w bd fc rr [] (fun w' => xMnv w' ∧ xFr [88, 90, 91, 92, 93, 94] w w' ∧ (bdm w' (fun j => rwv w 83 (20 + j)) (fun q => q) (rwv w 83 0) ∧ ∀ q, q < 6 → rwv w' 88 q = q)) := by
  refine xPq.of ?_
  show xTo (d + 2) mX12_asTold (0, [], [(0, (2, 82))], [], (w, bd, fc, 0, 0, rr)) (fun φ => ∃ w', xEnd 0 [] (w', bd, fc, 0, 0, rr) φ ∧ xMnv w' ∧ xFr [88, 90, 91, 92, 93, 94] w w' ∧ (bdm w' (fun j => rwv w 83 (20 + j)) (fun q => q) (rwv w 83 0) ∧ ∀ q, q < 6 → rwv w' 88 q = q))
  obtain ⟨f82_1, f82_3, f82_5, f82_7, f82_9, f82_11, f82_13, f82_15, f82_17, f82_19, f82_21, f82_22, f82_23, f82_25, f82_27, f82_29, h82_31, hb2, hb4, hb6, hb8, hb10, hb12, hb14, hb16, hb18, hb20, hb24, hb26, hb28, hb30, hb32⟩ := (hI 82 (by decide) (by decide) : cp82 (wget w 82))
  replace hb4 := xHid.of hb4
  replace hb10 := xHid.of hb10
  replace hb14 := xHid.of hb14
  replace hb16 := xHid.of hb16
  replace hb20 := xHid.of hb20
  replace hb24 := xHid.of hb24
  replace hb26 := xHid.of hb26
  replace hb28 := xHid.of hb28
  replace hb30 := xHid.of hb30
  obtain ⟨g83_33, h83_34, hb35, hx36⟩ := (hI 83 (by decide) (by decide) : cpx83 (wget w 83))
  have h83_34 : xRow w 83 5360 50 g83_33 := h83_34
  refine xg_t (xg_blk (b := [(0, 1, 0, 0, 0, 0), (1, 3, 13, 155, 96, 235), (4, 1, 0, 0, 0, 0), (5, 3, 13, 122, 96, 238), (8, 1, 12, 0, 0, 0)]) rfl) ?_
  refine xg_t (xg_aload (va := (2, 82)) rfl rfl) ?_
  refine xg_cVv mX12_inOrder (vs := []) (rest := []) (cn1 := 0) (sl1 := 0) rfl (mInOrder (hI)) rfl h82_31 rfl rfl rfl rfl rfl rfl (fun w37 hq38 => ?_)
  obtain ⟨hI39, hF40, hx41⟩ := hq38
  obtain ⟨o42, hr43, hb44, ho45⟩ := hx41
  refine xg_t (xg_aload (va := (2, 82)) rfl rfl) ?_
  have e846 : ∀ q, q < 6 → rwv w37 88 q = q := fun q hq => (rwv_of hr43 (by omega)).trans (ho45 q (by omega))
  have e047 : rwv w37 83 = rwv w 83 := rwf_eq (hF40.1 83 (by decide))
  have hl0 := xMnv.l0 hI
  have hb48 : ∀ q, q < rwv w37 83 0 → rwv w37 88 q < rwv w37 83 0 := fun q hq => by
    rw [e047] at hq ⊢
    rw [e846 q (by omega)]
    exact hq
  refine xg_cVv mX12_blocks (vs := []) (rest := []) (cn1 := 0) (sl1 := 0) rfl (mBlocksX (hI39) hb48) rfl (hF40.get (by decide) h82_31) rfl rfl rfl rfl rfl rfl (fun w49 hq50 => ?_)
  obtain ⟨hI51, hF52, hx53⟩ := hq50
  have hk54 : bdm w49 (fun j => rwv w 83 (20 + j)) (fun q => q) (rwv w 83 0) := fun q hq => by
    have a := hx53 q (by rw [e047]; exact hq)
    rw [e047] at a
    have z : bEq (fun j => rwv w 83 (20 + j)) (fun q => q) (fun j => rwv w 83 (20 + j)) (rwv w37 88) (rwv w 83 0) := ⟨fun _ _ => rfl, fun q hq => ⟨e846 q (by omega), hq⟩⟩
    rw [bhg_cg z (by omega), (bOU_cg z hq).1, (bOU_cg z hq).2, bfr_cg z hq] at a
    exact a
  exact xg_e ⟨w49, ⟨rfl, rfl⟩, hI51, ((hF40.up (by decide)).tr (hF52.up (by decide))), ⟨hk54, fun q hq => (rwv_fr hF52 (by decide)).trans (e846 q hq)⟩⟩
theorem mOf0X {ka : Nat} (hI : xMnv w) (hka : ka ≤ 4294967295) : xPi (d + 1) mX12_isOf [(2, 82), (0, ka), (0, 0)] w bd fc rr (fun n w' => ((n = 1 ∧ ka < rwv w 83 0) ∨ (n = 0 ∧ ¬ ka < rwv w 83 0)) ∧ xMnv w' ∧ xFr [] w w') := by
  refine xPi.of ?_
  show xTo (d + 1) mX12_isOf (0, [], [(0, (2, 82)), (1, (0, ka)), (2, (0, 0))], [], (w, bd, fc, 0, 0, rr)) (fun φ => ∃ n w', xEnd 4 [(0, n)] (w', bd, fc, 0, 0, rr) φ ∧ ((n = 1 ∧ ka < rwv w 83 0) ∨ (n = 0 ∧ ¬ ka < rwv w 83 0)) ∧ xMnv w' ∧ xFr [] w w')
  obtain ⟨f82_1, f82_3, f82_5, f82_7, f82_9, f82_11, f82_13, f82_15, f82_17, f82_19, f82_21, f82_22, f82_23, f82_25, f82_27, f82_29, h82_31, hb2, hb4, hb6, hb8, hb10, hb12, hb14, hb16, hb18, hb20, hb24, hb26, hb28, hb30, hb32⟩ := (hI 82 (by decide) (by decide) : cp82 (wget w 82))
  replace hb4 := xHid.of hb4
  replace hb10 := xHid.of hb10
  replace hb14 := xHid.of hb14
  replace hb16 := xHid.of hb16
  replace hb20 := xHid.of hb20
  replace hb24 := xHid.of hb24
  replace hb26 := xHid.of hb26
  replace hb28 := xHid.of hb28
  replace hb30 := xHid.of hb30
  obtain ⟨g83_33, h83_34, hb35, hx36⟩ := (hI 83 (by decide) (by decide) : cpx83 (wget w 83))
  have h83_34 : xRow w 83 5360 50 g83_33 := h83_34
  have hl0 := xMnv.l0 hI
  refine xg_t (xg_blk (b := [(0, 1, 2, 1, 0, 0), (1, 1, 3, 0, 0, 0), (2, 1, 0, 0, 0, 0), (3, 3, 1, 12, 0, 7), (6, 1, 2, 2, 0, 0), (7, 1, 10, 0, 0, 0), (8, 1, 3, 1, 0, 0), (9, 1, 18, 0, 0, 0), (10, 3, 13, 161, 98, 105), (13, 1, 12, 0, 1, 0)]) rfl) ?_
  refine xg_t (xg_iload (va := (0, ka)) rfl rfl) ?_
  refine xg_t (xg_const) ?_
  refine xg_t (xg_aload (va := (2, 82)) rfl rfl) ?_
  refine xg_t (xg_getf (va := (2, 83)) h82_31 rfl) ?_
  refine xg_t (xg_iload (va := (0, 0)) rfl rfl) ?_
  refine xg_ialdB (n := 0) (B := 4294967295) h83_34 (hb35) xnm0 (by omega) (fun u37 hu38 he39 => ?_)
  have hl40 : u37 ≤ 6 := by rw [← he39]; exact hx36.l0
  have hq41 : rwv w 83 0 = u37 := (rwv_of h83_34 (by omega)).trans he39
  refine xg_t (xg_const) ?_
  by_cases hc42 : 1 ≤ u37
  · refine xg_t (xg_isub (u := u37) (v := 1) (z := u37 - 1) xnm0 xnm0 (by omega)) ?_
    refine xg_t (xg_cSr mX12_isIn (vs := [(0, ka), (0, 0), (0, u37 - 1)]) (rest := []) (rs := [(0, if 0 ≤ ka ∧ ka ≤ u37 - 1 then 1 else 0)]) (cn1 := 0) (sl1 := 0) rfl (mIsIn (by omega) (by omega) (by omega)) rfl rfl rfl rfl rfl rfl rfl rfl) ?_
    by_cases hc43 : 0 ≤ ka ∧ ka ≤ u37 - 1
    · rw [if_pos hc43]
      exact xg_e ⟨1, w, ⟨rfl, rfl⟩, by omega, hI, xFr.rf⟩
    · rw [if_neg hc43]
      exact xg_e ⟨0, w, ⟨rfl, rfl⟩, by omega, hI, xFr.rf⟩
  · have hz46 : 4294967295 ≤ (u37 + (4294967296 - 1)) % 4294967296 := by omega
    refine xg_t (xg_isub (u := u37) (v := 1) (z := (u37 + (4294967296 - 1)) % 4294967296) xnm0 xnm0 rfl) ?_
    have hz45 : (u37 + (4294967296 - 1)) % 4294967296 < 4294967296 := Nat.mod_lt _ (by decide)
    generalize (u37 + (4294967296 - 1)) % 4294967296 = z44 at hz46 hz45 ⊢
    refine xg_t (xg_cSr mX12_isIn (vs := [(0, ka), (0, 0), (0, z44)]) (rest := []) (rs := [(0, 0)]) (cn1 := 0) (sl1 := 0) rfl (mIsInN (by omega) (by omega) (by omega) (by omega)) rfl rfl rfl rfl rfl rfl rfl rfl) ?_
    exact xg_e ⟨0, w, ⟨rfl, rfl⟩, by omega, hI, xFr.rf⟩
theorem mNeutralX {la : Nat} (hI : xMnv w) (hla : la ≤ 4294967295) : xPi (d + 3) mX12_neutral [(2, 82), (0, la)] w bd fc rr (fun n w' => ((la < rwv w 83 0 ∧ n = xpt (dvl (lN (1000 * bO (fun j => rwv w 83 (20 + j)) (fun q => q) (rwv w 83 0) la)) (lN (bU (fun j => rwv w 83 (20 + j)) (fun q => q) (rwv w 83 0) la))).toInt32) ∨ (¬ la < rwv w 83 0 ∧ n = 4294967295)) ∧ xMnv w' ∧ xFr [88, 90, 91, 92, 93, 94] w w') := by
  refine xPi.of ?_
  show xTo (d + 3) mX12_neutral (0, [], [(0, (2, 82)), (1, (0, la))], [], (w, bd, fc, 0, 0, rr)) (fun φ => ∃ n w', xEnd 1 [(0, n)] (w', bd, fc, 0, 0, rr) φ ∧ ((la < rwv w 83 0 ∧ n = xpt (dvl (lN (1000 * bO (fun j => rwv w 83 (20 + j)) (fun q => q) (rwv w 83 0) la)) (lN (bU (fun j => rwv w 83 (20 + j)) (fun q => q) (rwv w 83 0) la))).toInt32) ∨ (¬ la < rwv w 83 0 ∧ n = 4294967295)) ∧ xMnv w' ∧ xFr [88, 90, 91, 92, 93, 94] w w')
  obtain ⟨f82_1, f82_3, f82_5, f82_7, f82_9, f82_11, f82_13, f82_15, f82_17, f82_19, f82_21, f82_22, f82_23, f82_25, f82_27, f82_29, h82_31, hb2, hb4, hb6, hb8, hb10, hb12, hb14, hb16, hb18, hb20, hb24, hb26, hb28, hb30, hb32⟩ := (hI 82 (by decide) (by decide) : cp82 (wget w 82))
  replace hb4 := xHid.of hb4
  replace hb10 := xHid.of hb10
  replace hb14 := xHid.of hb14
  replace hb16 := xHid.of hb16
  replace hb20 := xHid.of hb20
  replace hb24 := xHid.of hb24
  replace hb26 := xHid.of hb26
  replace hb28 := xHid.of hb28
  replace hb30 := xHid.of hb30
  obtain ⟨g83_33, h83_34, hb35, hx36⟩ := (hI 83 (by decide) (by decide) : cpx83 (wget w 83))
  have h83_34 : xRow w 83 5360 50 g83_33 := h83_34
  have hl0 := xMnv.l0 hI
  refine xg_t (xg_blk (b := [(0, 1, 0, 0, 0, 0), (1, 1, 2, 1, 0, 0), (2, 1, 3, 0, 0, 0), (3, 3, 13, 168, 96, 241), (6, 3, 7, 11, 1, 0), (9, 1, 3, 4294967295, 0, 0), (10, 1, 12, 0, 1, 0)]) rfl) ?_
  refine xg_t (xg_aload (va := (2, 82)) rfl rfl) ?_
  refine xg_t (xg_iload (va := (0, la)) rfl rfl) ?_
  refine xg_t (xg_const) ?_
  refine xg_cVi mX12_isOf (vs := [(0, la), (0, 0)]) (rest := []) (cn1 := 0) (sl1 := 0) rfl (mOf0X (hI) (by omega)) rfl h82_31 rfl rfl rfl rfl rfl rfl (fun n41 w37 hq38 => ?_)
  obtain ⟨hn42, hI39, hF40⟩ := hq38
  by_cases hc43 : n41 = 0
  · refine xg_t (xg_ifF (u := n41) rfl xnm0 (xj_neF hc43)) ?_
    refine xg_t (xg_const) ?_
    exact xg_e ⟨4294967295, w37, ⟨rfl, rfl⟩, Or.inr ⟨by omega, rfl⟩, hI39, (hF40.up (by decide))⟩
  · refine xg_t (xg_ifT (u := n41) rfl xnm0 (xj_neT hc43)) ?_
    refine xg_t (xg_blk (b := [(11, 1, 0, 0, 0, 0), (12, 3, 13, 116, 96, 244), (15, 3, 52, 1000, 0, 231), (18, 1, 0, 0, 0, 0), (19, 3, 1, 12, 19, 38), (22, 1, 2, 1, 0, 0), (23, 1, 64, 0, 0, 0), (24, 1, 55, 0, 0, 0), (25, 1, 0, 0, 0, 0), (26, 3, 1, 12, 20, 42), (29, 1, 2, 1, 0, 0), (30, 1, 64, 0, 0, 0), (31, 1, 67, 0, 0, 0), (32, 1, 50, 0, 0, 0), (33, 1, 12, 0, 1, 0)]) rfl) ?_
    refine xg_t (xg_aload (va := (2, 82)) rfl rfl) ?_
    refine xg_cVv mX12_asTold (vs := []) (rest := []) (cn1 := 0) (sl1 := 0) rfl (mAsToldX (hI39)) rfl (hF40.get (by decide) h82_31) rfl rfl rfl rfl rfl rfl (fun w44 hq45 => ?_)
    obtain ⟨hI46, hF47, hx48⟩ := hq45
    obtain ⟨hbd, ho88⟩ := hx48
    have hfr_ : xFr [88, 90, 91, 92, 93, 94] w w37 := (hF40.up (by decide))
    have e83_ : rwv w37 83 = rwv w 83 := rwf_eq (hfr_.1 83 (by decide))
    rw [e83_] at hbd
    have e83 : rwv w44 83 = rwv w 83 := (rwf_eq (hF47.1 83 (by decide))).trans e83_
    refine xg_t (xg_ldc2) ?_
    refine xg_t (xg_aload (va := (2, 82)) rfl rfl) ?_
    refine xg_t (xg_getf (va := (2, 92)) (hF47.get (by decide) (hF40.get (by decide) h82_31)) rfl) ?_
    refine xg_t (xg_iload (va := (0, la)) rfl rfl) ?_
    obtain ⟨g92_49, h92_50⟩ := (hI46 92 (by decide) (by decide) : cpJ 6 59 (wget w44 92))
    have h92_50 : xRk 3 4 w44 92 6 59 g92_49 := h92_50
    obtain ⟨l52, hz53⟩ : ∃ z, g92_49 la = z := ⟨_, rfl⟩
    refine xg_t (xg_lald (n := la) h92_50 xnm0 (by omega) hz53) ?_
    have hU54 : bO (fun j => rwv w 83 (20 + j)) (fun q => q) (rwv w 83 0) la = l52 := ((hbd la (by omega)).2.2.1).symm.trans ((rwk_of h92_50 (by omega)).trans hz53)
    refine xg_t (xg_lmul (u := 1000) (v := l52)) ?_
    refine xg_t (xg_lre (b := 1000 * l52) (by rw [xlp_eq]; exact lN_mul _ _)) ?_
    refine xg_t (xg_aload (va := (2, 82)) rfl rfl) ?_
    refine xg_t (xg_getf (va := (2, 93)) (hF47.get (by decide) (hF40.get (by decide) h82_31)) rfl) ?_
    refine xg_t (xg_iload (va := (0, la)) rfl rfl) ?_
    obtain ⟨g93_55, h93_56⟩ := (hI46 93 (by decide) (by decide) : cpJ 6 60 (wget w44 93))
    have h93_56 : xRk 3 4 w44 93 6 60 g93_55 := h93_56
    obtain ⟨l58, hz59⟩ : ∃ z, g93_55 la = z := ⟨_, rfl⟩
    refine xg_t (xg_lald (n := la) h93_56 xnm0 (by omega) hz59) ?_
    have hU60 : bU (fun j => rwv w 83 (20 + j)) (fun q => q) (rwv w 83 0) la = l58 := ((hbd la (by omega)).2.2.2.1).symm.trans ((rwk_of h93_56 (by omega)).trans hz59)
    have hl61 : 1 ≤ l58 ∧ l58 ≤ 117612 := by
      have q := bU_rg (r := (fun j => rwv w 83 (20 + j))) (o := (fun q => q)) (n := rwv w 83 0) (p := la) (fun q hq => ⟨xMnv.lay hI (i := 0) hq (by decide), xMnv.lay hI (i := 1) hq (by decide)⟩) (by omega) hl0
      rw [hU60] at q
      exact q
    refine xg_klE (xg_ldiv (u := 1000 * l52) (v := l58) (lN_ne0 (by omega) (by omega))) (fun l62 hz63 => ?_)
    refine xg_kE (xg_l2i (u := l62)) (xpt_lt _) (fun z64 hz65 he66 => ?_)
    have hk67 : z64 = xpt (dvl (lN (1000 * bO (fun j => rwv w 83 (20 + j)) (fun q => q) (rwv w 83 0) la)) (lN (bU (fun j => rwv w 83 (20 + j)) (fun q => q) (rwv w 83 0) la))).toInt32 := by
      rw [hU54, hU60, ← dvl_n (lN_ne0 (v := l58) (by omega) (by omega)), ← hz63]
      exact he66.symm
    exact xg_e ⟨z64, w44, ⟨rfl, rfl⟩, Or.inl ⟨by omega, hk67⟩, hI46, ((hF40.up (by decide)).tr (hF47.up (by decide)))⟩
theorem mStretchX {la ro : Nat} (hI : xMnv w) (hla : la ≤ 4294967295) (hro : ro ≤ 4294967295) : xPi (d + 3) mX12_stretch [(2, 82), (0, la), (0, ro)] w bd fc rr (fun n w' => (((la < rwv w 83 0 ∧ 1 ≤ ro ∧ ro ≤ 9999) ∧ n = xpt (dvl (lN 1000000 * (bfr (fun j => rwv w 83 (20 + j)) (fun q => q) (rwv w 83 0) la)) (lN (ro * (bU (fun j => rwv w 83 (20 + j)) (fun q => q) (rwv w 83 0) la)))).toInt32) ∨ (¬ (la < rwv w 83 0 ∧ 1 ≤ ro ∧ ro ≤ 9999) ∧ n = 2294967296)) ∧ xMnv w' ∧ xFr [88, 90, 91, 92, 93, 94] w w') := by
  refine xPi.of ?_
  show xTo (d + 3) mX12_stretch (0, [], [(0, (2, 82)), (1, (0, la)), (2, (0, ro))], [], (w, bd, fc, 0, 0, rr)) (fun φ => ∃ n w', xEnd 1 [(0, n)] (w', bd, fc, 0, 0, rr) φ ∧ (((la < rwv w 83 0 ∧ 1 ≤ ro ∧ ro ≤ 9999) ∧ n = xpt (dvl (lN 1000000 * (bfr (fun j => rwv w 83 (20 + j)) (fun q => q) (rwv w 83 0) la)) (lN (ro * (bU (fun j => rwv w 83 (20 + j)) (fun q => q) (rwv w 83 0) la)))).toInt32) ∨ (¬ (la < rwv w 83 0 ∧ 1 ≤ ro ∧ ro ≤ 9999) ∧ n = 2294967296)) ∧ xMnv w' ∧ xFr [88, 90, 91, 92, 93, 94] w w')
  obtain ⟨f82_1, f82_3, f82_5, f82_7, f82_9, f82_11, f82_13, f82_15, f82_17, f82_19, f82_21, f82_22, f82_23, f82_25, f82_27, f82_29, h82_31, hb2, hb4, hb6, hb8, hb10, hb12, hb14, hb16, hb18, hb20, hb24, hb26, hb28, hb30, hb32⟩ := (hI 82 (by decide) (by decide) : cp82 (wget w 82))
  replace hb4 := xHid.of hb4
  replace hb10 := xHid.of hb10
  replace hb14 := xHid.of hb14
  replace hb16 := xHid.of hb16
  replace hb20 := xHid.of hb20
  replace hb24 := xHid.of hb24
  replace hb26 := xHid.of hb26
  replace hb28 := xHid.of hb28
  replace hb30 := xHid.of hb30
  obtain ⟨g83_33, h83_34, hb35, hx36⟩ := (hI 83 (by decide) (by decide) : cpx83 (wget w 83))
  have h83_34 : xRow w 83 5360 50 g83_33 := h83_34
  have hl0 := xMnv.l0 hI
  refine xg_t (xg_blk (b := [(0, 1, 0, 0, 0, 0), (1, 1, 2, 1, 0, 0), (2, 1, 3, 0, 0, 0), (3, 3, 13, 168, 96, 241), (6, 3, 7, 17, 0, 0), (9, 1, 0, 0, 0, 0), (10, 1, 2, 2, 0, 0), (11, 3, 13, 171, 96, 247), (14, 3, 7, 20, 1, 0)]) rfl) ?_
  refine xg_t (xg_aload (va := (2, 82)) rfl rfl) ?_
  refine xg_t (xg_iload (va := (0, la)) rfl rfl) ?_
  refine xg_t (xg_const) ?_
  refine xg_cVi mX12_isOf (vs := [(0, la), (0, 0)]) (rest := []) (cn1 := 0) (sl1 := 0) rfl (mOf0X (hI) (by omega)) rfl h82_31 rfl rfl rfl rfl rfl rfl (fun n41 w37 hq38 => ?_)
  obtain ⟨hn42, hI39, hF40⟩ := hq38
  by_cases hc43 : n41 = 0
  · refine xg_t (xg_ifT (u := n41) rfl xnm0 (xj_eqT hc43)) ?_
    refine xg_t (xg_blk (b := [(17, 2, 35, 2294967296, 0, 250), (19, 1, 12, 0, 1, 0)]) rfl) ?_
    refine xg_t (xg_ldc) ?_
    exact xg_e ⟨2294967296, w37, ⟨rfl, rfl⟩, Or.inr ⟨by omega, rfl⟩, hI39, (hF40.up (by decide))⟩
  · refine xg_t (xg_ifF (u := n41) rfl xnm0 (xj_eqF hc43)) ?_
    refine xg_t (xg_aload (va := (2, 82)) rfl rfl) ?_
    refine xg_t (xg_iload (va := (0, ro)) rfl rfl) ?_
    refine xg_cVi mX12_isRound (vs := [(0, ro)]) (rest := []) (cn1 := 0) (sl1 := 0) rfl (mIsRoundX (hI39) (by omega)) rfl (hF40.get (by decide) h82_31) rfl rfl rfl rfl rfl rfl (fun n48 w44 hq45 => ?_)
    obtain ⟨hn49, hI46, hF47⟩ := hq45
    by_cases hc50 : n48 = 0
    · refine xg_t (xg_ifF (u := n48) rfl xnm0 (xj_neF hc50)) ?_
      refine xg_t (xg_blk (b := [(17, 2, 35, 2294967296, 0, 250), (19, 1, 12, 0, 1, 0)]) rfl) ?_
      refine xg_t (xg_ldc) ?_
      exact xg_e ⟨2294967296, w44, ⟨rfl, rfl⟩, Or.inr ⟨by omega, rfl⟩, hI46, ((hF40.up (by decide)).tr (hF47.up (by decide)))⟩
    · refine xg_t (xg_ifT (u := n48) rfl xnm0 (xj_neT hc50)) ?_
      refine xg_t (xg_blk (b := [(20, 1, 0, 0, 0, 0), (21, 3, 13, 116, 96, 244), (24, 3, 52, 1000000, 0, 251), (27, 1, 0, 0, 0, 0), (28, 3, 1, 12, 21, 45), (31, 1, 2, 1, 0, 0), (32, 1, 64, 0, 0, 0), (33, 1, 55, 0, 0, 0), (34, 1, 2, 2, 0, 0), (35, 1, 49, 0, 0, 0), (36, 1, 0, 0, 0, 0), (37, 3, 1, 12, 20, 42), (40, 1, 2, 1, 0, 0), (41, 1, 64, 0, 0, 0), (42, 1, 55, 0, 0, 0), (43, 1, 67, 0, 0, 0), (44, 1, 50, 0, 0, 0), (45, 1, 12, 0, 1, 0)]) rfl) ?_
      refine xg_t (xg_aload (va := (2, 82)) rfl rfl) ?_
      refine xg_cVv mX12_asTold (vs := []) (rest := []) (cn1 := 0) (sl1 := 0) rfl (mAsToldX (hI46)) rfl (hF47.get (by decide) (hF40.get (by decide) h82_31)) rfl rfl rfl rfl rfl rfl (fun w51 hq52 => ?_)
      obtain ⟨hI53, hF54, hx55⟩ := hq52
      obtain ⟨hbd, ho88⟩ := hx55
      have hfr_ : xFr [88, 90, 91, 92, 93, 94] w w44 := ((hF40.up (by decide)).tr (hF47.up (by decide)))
      have e83_ : rwv w44 83 = rwv w 83 := rwf_eq (hfr_.1 83 (by decide))
      rw [e83_] at hbd
      have e83 : rwv w51 83 = rwv w 83 := (rwf_eq (hF54.1 83 (by decide))).trans e83_
      refine xg_t (xg_ldc2) ?_
      refine xg_t (xg_aload (va := (2, 82)) rfl rfl) ?_
      refine xg_t (xg_getf (va := (2, 94)) (hF54.get (by decide) (hF47.get (by decide) (hF40.get (by decide) h82_31))) rfl) ?_
      refine xg_t (xg_iload (va := (0, la)) rfl rfl) ?_
      obtain ⟨g94_56, h94_57⟩ := (hI53 94 (by decide) (by decide) : cpJ 6 61 (wget w51 94))
      have h94_57 : xRk 3 4 w51 94 6 61 g94_56 := h94_57
      obtain ⟨l59, hz60⟩ : ∃ z, g94_56 la = z := ⟨_, rfl⟩
      refine xg_t (xg_lald (n := la) h94_57 xnm0 (by omega) hz60) ?_
      have hU61 : lN l59 = bfr (fun j => rwv w 83 (20 + j)) (fun q => q) (rwv w 83 0) la := by
        rw [← hz60, ← rwk_of (j := la) h94_57 (by omega)]
        exact (hbd la (by omega)).2.2.2.2
      refine xg_klE (xg_lmul (u := 1000000) (v := l59)) (fun l62 hz63 => ?_)
      refine xg_t (xg_iload (va := (0, ro)) rfl rfl) ?_
      refine xg_t (xg_i2l (u := ro) xnm0) ?_
      refine xg_t (xg_lre (b := ro) (by rw [xlp_eq]; exact nI_l (by omega))) ?_
      refine xg_t (xg_aload (va := (2, 82)) rfl rfl) ?_
      refine xg_t (xg_getf (va := (2, 93)) (hF54.get (by decide) (hF47.get (by decide) (hF40.get (by decide) h82_31))) rfl) ?_
      refine xg_t (xg_iload (va := (0, la)) rfl rfl) ?_
      obtain ⟨g93_64, h93_65⟩ := (hI53 93 (by decide) (by decide) : cpJ 6 60 (wget w51 93))
      have h93_65 : xRk 3 4 w51 93 6 60 g93_64 := h93_65
      obtain ⟨l67, hz68⟩ : ∃ z, g93_64 la = z := ⟨_, rfl⟩
      refine xg_t (xg_lald (n := la) h93_65 xnm0 (by omega) hz68) ?_
      have hU69 : bU (fun j => rwv w 83 (20 + j)) (fun q => q) (rwv w 83 0) la = l67 := ((hbd la (by omega)).2.2.2.1).symm.trans ((rwk_of h93_65 (by omega)).trans hz68)
      have hl70 : 1 ≤ l67 ∧ l67 ≤ 117612 := by
        have q := bU_rg (r := (fun j => rwv w 83 (20 + j))) (o := (fun q => q)) (n := rwv w 83 0) (p := la) (fun q hq => ⟨xMnv.lay hI (i := 0) hq (by decide), xMnv.lay hI (i := 1) hq (by decide)⟩) (by omega) hl0
        rw [hU69] at q
        exact q
      refine xg_t (xg_lmul (u := ro) (v := l67)) ?_
      refine xg_t (xg_lre (b := ro * l67) (by rw [xlp_eq]; exact lN_mul _ _)) ?_
      have hrm1 : 1 * 1 ≤ ro * l67 := Nat.mul_le_mul (by omega) (by omega)
      have hrm2 : ro * l67 ≤ 9999 * 117612 := Nat.mul_le_mul (by omega) (by omega)
      refine xg_klE (xg_ldiv (u := l62) (v := ro * l67) (lN_ne0 (by omega) (by omega))) (fun l71 hz72 => ?_)
      refine xg_kE (xg_l2i (u := l71)) (xpt_lt _) (fun z73 hz74 he75 => ?_)
      have hk76 : z73 = xpt (dvl (lN 1000000 * (bfr (fun j => rwv w 83 (20 + j)) (fun q => q) (rwv w 83 0) la)) (lN (ro * (bU (fun j => rwv w 83 (20 + j)) (fun q => q) (rwv w 83 0) la)))).toInt32 := by
        rw [← hU61, hU69, ← hz63, ← dvl_n (lN_ne0 (v := ro * l67) (by omega) (by omega)), ← hz72]
        exact he75.symm
      exact xg_e ⟨z73, w51, ⟨rfl, rfl⟩, Or.inl ⟨by omega, hk76⟩, hI53, (((hF40.up (by decide)).tr (hF47.up (by decide))).tr (hF54.up (by decide)))⟩
theorem mBearsX {la ro : Nat} (hI : xMnv w) (hla : la ≤ 4294967295) (hro : ro ≤ 4294967295) : xPi (d + 3) mX12_bears [(2, 82), (0, la), (0, ro)] w bd fc rr (fun n w' => (((la < rwv w 83 0 ∧ 1 ≤ ro ∧ ro ≤ 9999) ∧ ((n = 1 ∧ ¬ (lN (ro * (bM (fun j => rwv w 83 (20 + j)) (fun q => q) la * (bU (fun j => rwv w 83 (20 + j)) (fun q => q) (rwv w 83 0) la))) < lN 1000 * iab (bfr (fun j => rwv w 83 (20 + j)) (fun q => q) (rwv w 83 0) la))) ∨ (n = 0 ∧ lN (ro * (bM (fun j => rwv w 83 (20 + j)) (fun q => q) la * (bU (fun j => rwv w 83 (20 + j)) (fun q => q) (rwv w 83 0) la))) < lN 1000 * iab (bfr (fun j => rwv w 83 (20 + j)) (fun q => q) (rwv w 83 0) la)))) ∨ (¬ (la < rwv w 83 0 ∧ 1 ≤ ro ∧ ro ≤ 9999) ∧ n = 0)) ∧ xMnv w' ∧ xFr [88, 90, 91, 92, 93, 94] w w') := by
  refine xPi.of ?_
  show xTo (d + 3) mX12_bears (0, [], [(0, (2, 82)), (1, (0, la)), (2, (0, ro))], [], (w, bd, fc, 0, 0, rr)) (fun φ => ∃ n w', xEnd 4 [(0, n)] (w', bd, fc, 0, 0, rr) φ ∧ (((la < rwv w 83 0 ∧ 1 ≤ ro ∧ ro ≤ 9999) ∧ ((n = 1 ∧ ¬ (lN (ro * (bM (fun j => rwv w 83 (20 + j)) (fun q => q) la * (bU (fun j => rwv w 83 (20 + j)) (fun q => q) (rwv w 83 0) la))) < lN 1000 * iab (bfr (fun j => rwv w 83 (20 + j)) (fun q => q) (rwv w 83 0) la))) ∨ (n = 0 ∧ lN (ro * (bM (fun j => rwv w 83 (20 + j)) (fun q => q) la * (bU (fun j => rwv w 83 (20 + j)) (fun q => q) (rwv w 83 0) la))) < lN 1000 * iab (bfr (fun j => rwv w 83 (20 + j)) (fun q => q) (rwv w 83 0) la)))) ∨ (¬ (la < rwv w 83 0 ∧ 1 ≤ ro ∧ ro ≤ 9999) ∧ n = 0)) ∧ xMnv w' ∧ xFr [88, 90, 91, 92, 93, 94] w w')
  obtain ⟨f82_1, f82_3, f82_5, f82_7, f82_9, f82_11, f82_13, f82_15, f82_17, f82_19, f82_21, f82_22, f82_23, f82_25, f82_27, f82_29, h82_31, hb2, hb4, hb6, hb8, hb10, hb12, hb14, hb16, hb18, hb20, hb24, hb26, hb28, hb30, hb32⟩ := (hI 82 (by decide) (by decide) : cp82 (wget w 82))
  replace hb4 := xHid.of hb4
  replace hb10 := xHid.of hb10
  replace hb14 := xHid.of hb14
  replace hb16 := xHid.of hb16
  replace hb20 := xHid.of hb20
  replace hb24 := xHid.of hb24
  replace hb26 := xHid.of hb26
  replace hb28 := xHid.of hb28
  replace hb30 := xHid.of hb30
  obtain ⟨g83_33, h83_34, hb35, hx36⟩ := (hI 83 (by decide) (by decide) : cpx83 (wget w 83))
  have h83_34 : xRow w 83 5360 50 g83_33 := h83_34
  have hl0 := xMnv.l0 hI
  refine xg_t (xg_blk (b := [(0, 1, 0, 0, 0, 0), (1, 1, 2, 1, 0, 0), (2, 1, 3, 0, 0, 0), (3, 3, 13, 168, 96, 241), (6, 3, 7, 17, 0, 0), (9, 1, 0, 0, 0, 0), (10, 1, 2, 2, 0, 0), (11, 3, 13, 171, 96, 247), (14, 3, 7, 19, 1, 0)]) rfl) ?_
  refine xg_t (xg_aload (va := (2, 82)) rfl rfl) ?_
  refine xg_t (xg_iload (va := (0, la)) rfl rfl) ?_
  refine xg_t (xg_const) ?_
  refine xg_cVi mX12_isOf (vs := [(0, la), (0, 0)]) (rest := []) (cn1 := 0) (sl1 := 0) rfl (mOf0X (hI) (by omega)) rfl h82_31 rfl rfl rfl rfl rfl rfl (fun n41 w37 hq38 => ?_)
  obtain ⟨hn42, hI39, hF40⟩ := hq38
  by_cases hc43 : n41 = 0
  · refine xg_t (xg_ifT (u := n41) rfl xnm0 (xj_eqT hc43)) ?_
    refine xg_t (xg_blk (b := [(17, 1, 3, 0, 0, 0), (18, 1, 12, 0, 1, 0)]) rfl) ?_
    refine xg_t (xg_const) ?_
    exact xg_e ⟨0, w37, ⟨rfl, rfl⟩, Or.inr ⟨by omega, rfl⟩, hI39, (hF40.up (by decide))⟩
  · refine xg_t (xg_ifF (u := n41) rfl xnm0 (xj_eqF hc43)) ?_
    refine xg_t (xg_aload (va := (2, 82)) rfl rfl) ?_
    refine xg_t (xg_iload (va := (0, ro)) rfl rfl) ?_
    refine xg_cVi mX12_isRound (vs := [(0, ro)]) (rest := []) (cn1 := 0) (sl1 := 0) rfl (mIsRoundX (hI39) (by omega)) rfl (hF40.get (by decide) h82_31) rfl rfl rfl rfl rfl rfl (fun n48 w44 hq45 => ?_)
    obtain ⟨hn49, hI46, hF47⟩ := hq45
    by_cases hc50 : n48 = 0
    · refine xg_t (xg_ifF (u := n48) rfl xnm0 (xj_neF hc50)) ?_
      refine xg_t (xg_blk (b := [(17, 1, 3, 0, 0, 0), (18, 1, 12, 0, 1, 0)]) rfl) ?_
      refine xg_t (xg_const) ?_
      exact xg_e ⟨0, w44, ⟨rfl, rfl⟩, Or.inr ⟨by omega, rfl⟩, hI46, ((hF40.up (by decide)).tr (hF47.up (by decide)))⟩
    · refine xg_t (xg_ifT (u := n48) rfl xnm0 (xj_neT hc50)) ?_
      refine xg_t (xg_blk (b := [(19, 1, 0, 0, 0, 0), (20, 3, 13, 116, 96, 244), (23, 3, 52, 1000, 0, 231), (26, 1, 0, 0, 0, 0), (27, 3, 1, 12, 21, 45), (30, 1, 2, 1, 0, 0), (31, 1, 64, 0, 0, 0), (32, 3, 13, 221, 98, 227), (35, 1, 55, 0, 0, 0), (36, 1, 2, 2, 0, 0), (37, 1, 49, 0, 0, 0), (38, 1, 0, 0, 0, 0), (39, 1, 2, 1, 0, 0), (40, 1, 3, 2, 0, 0), (41, 3, 13, 181, 96, 222), (44, 1, 49, 0, 0, 0), (45, 1, 55, 0, 0, 0), (46, 1, 0, 0, 0, 0), (47, 3, 1, 12, 20, 42), (50, 1, 2, 1, 0, 0), (51, 1, 64, 0, 0, 0), (52, 1, 55, 0, 0, 0), (53, 1, 57, 0, 0, 0), (54, 3, 7, 61, 4, 0), (57, 1, 3, 1, 0, 0), (58, 3, 8, 62, 0, 0)]) rfl) ?_
      refine xg_t (xg_aload (va := (2, 82)) rfl rfl) ?_
      refine xg_cVv mX12_asTold (vs := []) (rest := []) (cn1 := 0) (sl1 := 0) rfl (mAsToldX (hI46)) rfl (hF47.get (by decide) (hF40.get (by decide) h82_31)) rfl rfl rfl rfl rfl rfl (fun w51 hq52 => ?_)
      obtain ⟨hI53, hF54, hx55⟩ := hq52
      obtain ⟨hbd, ho88⟩ := hx55
      have hfr_ : xFr [88, 90, 91, 92, 93, 94] w w44 := ((hF40.up (by decide)).tr (hF47.up (by decide)))
      have e83_ : rwv w44 83 = rwv w 83 := rwf_eq (hfr_.1 83 (by decide))
      rw [e83_] at hbd
      have e83 : rwv w51 83 = rwv w 83 := (rwf_eq (hF54.1 83 (by decide))).trans e83_
      obtain ⟨g90_56, h90_57, hb58⟩ := (hI53 90 (by decide) (by decide) : cpI 6 57 4294967295 (wget w51 90))
      have h90_57 : xRow w51 90 6 57 g90_56 := h90_57
      obtain ⟨g91_59, h91_60, hb61⟩ := (hI53 91 (by decide) (by decide) : cpI 6 58 5 (wget w51 91))
      have h91_60 : xRow w51 91 6 58 g91_59 := h91_60
      obtain ⟨g92_62, h92_63⟩ := (hI53 92 (by decide) (by decide) : cpJ 6 59 (wget w51 92))
      have h92_63 : xRk 3 4 w51 92 6 59 g92_62 := h92_63
      obtain ⟨g93_65, h93_66⟩ := (hI53 93 (by decide) (by decide) : cpJ 6 60 (wget w51 93))
      have h93_66 : xRk 3 4 w51 93 6 60 g93_65 := h93_66
      obtain ⟨g94_68, h94_69⟩ := (hI53 94 (by decide) (by decide) : cpJ 6 61 (wget w51 94))
      have h94_69 : xRk 3 4 w51 94 6 61 g94_68 := h94_69
      refine xg_t (xg_ldc2) ?_
      refine xg_t (xg_aload (va := (2, 82)) rfl rfl) ?_
      refine xg_t (xg_getf (va := (2, 94)) (hF54.get (by decide) (hF47.get (by decide) (hF40.get (by decide) h82_31))) rfl) ?_
      refine xg_t (xg_iload (va := (0, la)) rfl rfl) ?_
      obtain ⟨l71, hz72⟩ : ∃ z, g94_68 la = z := ⟨_, rfl⟩
      refine xg_t (xg_lald (n := la) h94_69 xnm0 (by omega) hz72) ?_
      have hU73 : lN l71 = bfr (fun j => rwv w 83 (20 + j)) (fun q => q) (rwv w 83 0) la := by
        rw [← hz72, ← rwk_of (j := la) h94_69 (by omega)]
        exact (hbd la (by omega)).2.2.2.2
      refine xg_cSj mX12_size0 (vs := [(4, l71)]) (rest := [(4, 1000)]) (cn1 := 0) (sl1 := 0) rfl (mSize0X (hI53)) rfl rfl rfl rfl rfl rfl rfl (fun l78 w74 hq75 => ?_)
      obtain ⟨hn79, hI76, hF77⟩ := hq75
      refine xg_klE (xg_lmul (u := 1000) (v := l78)) (fun l80 hz81 => ?_)
      refine xg_t (xg_iload (va := (0, ro)) rfl rfl) ?_
      refine xg_t (xg_i2l (u := ro) xnm0) ?_
      refine xg_t (xg_lre (b := ro) (by rw [xlp_eq]; exact nI_l (by omega))) ?_
      refine xg_t (xg_aload (va := (2, 82)) rfl rfl) ?_
      refine xg_t (xg_iload (va := (0, la)) rfl rfl) ?_
      refine xg_t (xg_const) ?_
      have e382 : rwv w74 83 = rwv w 83 := (rwf_eq (hF77.1 83 (by decide))).trans e83
      have e883 : ∀ q, q < 6 → rwv w74 88 q = q := fun q hq => (rwv_eq (hF77.1 88 (by decide))).trans (ho88 q hq)
      refine xg_cVi mX12_layerOf (vs := [(0, la), (0, 2)]) (rest := [(4, ro), (4, l80)]) (cn1 := 0) (sl1 := 0) rfl (mLayerOfX (hI76) (by omega) (by omega)) rfl (hF77.get (by decide) (hF54.get (by decide) (hF47.get (by decide) (hF40.get (by decide) h82_31)))) rfl rfl rfl rfl rfl rfl (fun n88 w84 hq85 => ?_)
      obtain ⟨hn89, hI86, hF87⟩ := hq85
      have hM90 : bM (fun j => rwv w 83 (20 + j)) (fun q => q) la = n88 := by
        rw [hn89, e382, e883 la (by omega)]
        rfl
      have hl91 : 1 ≤ n88 ∧ n88 ≤ 99 := by
        have q := xMnv.lay hI (k := la) (i := 2) (by omega) (by decide)
        have e : rwv w 83 (20 + (4 * la + 2)) = n88 := hM90
        rw [e] at q
        exact q
      refine xg_t (xg_i2l (u := n88) xnm0) ?_
      refine xg_t (xg_lre (b := n88) (by rw [xlp_eq]; exact nI_l (by omega))) ?_
      refine xg_t (xg_lmul (u := ro) (v := n88)) ?_
      refine xg_t (xg_lre (b := ro * n88) (by rw [xlp_eq]; exact lN_mul _ _)) ?_
      refine xg_t (xg_aload (va := (2, 82)) rfl rfl) ?_
      refine xg_t (xg_getf (va := (2, 93)) (hF87.get (by decide) (hF77.get (by decide) (hF54.get (by decide) (hF47.get (by decide) (hF40.get (by decide) h82_31))))) rfl) ?_
      refine xg_t (xg_iload (va := (0, la)) rfl rfl) ?_
      obtain ⟨l92, hz93⟩ : ∃ z, g93_65 la = z := ⟨_, rfl⟩
      refine xg_t (xg_lald (n := la) ((h93_66.fr hF77 (by decide)).fr hF87 (by decide)) xnm0 (by omega) hz93) ?_
      have hU94 : bU (fun j => rwv w 83 (20 + j)) (fun q => q) (rwv w 83 0) la = l92 := ((hbd la (by omega)).2.2.2.1).symm.trans ((rwk_of h93_66 (by omega)).trans hz93)
      have hl95 : 1 ≤ l92 ∧ l92 ≤ 117612 := by
        have q := bU_rg (r := (fun j => rwv w 83 (20 + j))) (o := (fun q => q)) (n := rwv w 83 0) (p := la) (fun q hq => ⟨xMnv.lay hI (i := 0) hq (by decide), xMnv.lay hI (i := 1) hq (by decide)⟩) (by omega) hl0
        rw [hU94] at q
        exact q
      refine xg_t (xg_lmul (u := ro * n88) (v := l92)) ?_
      refine xg_t (xg_lre (b := (ro * n88) * l92) (by rw [xlp_eq]; exact lN_mul _ _)) ?_
      refine xg_t (xg_lcmp (u := l80) (v := (ro * n88) * l92)) ?_
      by_cases hc96 : lN ((ro * n88) * l92) < lN l80
      · have hP97 : lN (ro * (bM (fun j => rwv w 83 (20 + j)) (fun q => q) la * (bU (fun j => rwv w 83 (20 + j)) (fun q => q) (rwv w 83 0) la))) < lN 1000 * iab (bfr (fun j => rwv w 83 (20 + j)) (fun q => q) (rwv w 83 0) la) := by
          rw [hM90, hU94, ← hU73, ← hn79, ← hz81, ← Nat.mul_assoc]
          exact hc96
        refine xg_t (xg_ifT (u := xpt (lg_cmp (lN l80) (lN ((ro * n88) * l92)))) rfl xnm0 (xlj_gtT hc96)) ?_
        refine xg_t (xg_blk (b := [(61, 1, 3, 0, 0, 0)]) rfl) ?_
        refine xg_t (xg_const) ?_
        refine xg_t (xg_blk (b := [(62, 1, 12, 0, 1, 0)]) rfl) ?_
        exact xg_e ⟨0, w84, ⟨rfl, rfl⟩, Or.inl ⟨by omega, Or.inr ⟨rfl, hP97⟩⟩, hI86, (((((hF40.up (by decide)).tr (hF47.up (by decide))).tr (hF54.up (by decide))).tr (hF77.up (by decide))).tr (hF87.up (by decide)))⟩
      · have hP98 : ¬ (lN (ro * (bM (fun j => rwv w 83 (20 + j)) (fun q => q) la * (bU (fun j => rwv w 83 (20 + j)) (fun q => q) (rwv w 83 0) la))) < lN 1000 * iab (bfr (fun j => rwv w 83 (20 + j)) (fun q => q) (rwv w 83 0) la)) := by
          rw [hM90, hU94, ← hU73, ← hn79, ← hz81, ← Nat.mul_assoc]
          exact hc96
        refine xg_t (xg_ifF (u := xpt (lg_cmp (lN l80) (lN ((ro * n88) * l92)))) rfl xnm0 (xlj_gtF hc96)) ?_
        refine xg_t (xg_const) ?_
        refine xg_t (xg_goto) ?_
        refine xg_t (xg_blk (b := [(62, 1, 12, 0, 1, 0)]) rfl) ?_
        exact xg_e ⟨1, w84, ⟨rfl, rfl⟩, Or.inl ⟨by omega, Or.inl ⟨rfl, hP98⟩⟩, hI86, (((((hF40.up (by decide)).tr (hF47.up (by decide))).tr (hF54.up (by decide))).tr (hF77.up (by decide))).tr (hF87.up (by decide)))⟩
theorem mLeastNowX {R0 O0 : Nat → Nat} {nn : Nat} (hI : xMnv w) (hbd : bdm w R0 O0 nn) (hn : rwv w 83 0 = nn) (hu : ∀ q, q < nn → 1 ≤ bU R0 O0 nn q ∧ bU R0 O0 nn q ≤ 117612) (ho : ∀ q, q < nn → rwv w 88 q < nn) : xPi (d + 1) mX12_leastNow [(2, 82)] w bd fc rr (fun n w' => (n = bml (bM (fun j => rwv w 83 (20 + j)) (rwv w 88)) (bU R0 O0 nn) (bfr R0 O0 nn) nn) ∧ xMnv w' ∧ xFr [] w w') := by
  refine xPi.of ?_
  show xTo (d + 1) mX12_leastNow (0, [], [(0, (2, 82))], [], (w, bd, fc, 0, 0, rr)) (fun φ => ∃ n w', xEnd 1 [(0, n)] (w', bd, fc, 0, 0, rr) φ ∧ (n = bml (bM (fun j => rwv w 83 (20 + j)) (rwv w 88)) (bU R0 O0 nn) (bfr R0 O0 nn) nn) ∧ xMnv w' ∧ xFr [] w w')
  obtain ⟨f82_1, f82_3, f82_5, f82_7, f82_9, f82_11, f82_13, f82_15, f82_17, f82_19, f82_21, f82_22, f82_23, f82_25, f82_27, f82_29, h82_31, hb2, hb4, hb6, hb8, hb10, hb12, hb14, hb16, hb18, hb20, hb24, hb26, hb28, hb30, hb32⟩ := (hI 82 (by decide) (by decide) : cp82 (wget w 82))
  replace hb4 := xHid.of hb4
  replace hb10 := xHid.of hb10
  replace hb14 := xHid.of hb14
  replace hb16 := xHid.of hb16
  replace hb20 := xHid.of hb20
  replace hb24 := xHid.of hb24
  replace hb26 := xHid.of hb26
  replace hb28 := xHid.of hb28
  replace hb30 := xHid.of hb30
  obtain ⟨g83_33, h83_34, hb35, hx36⟩ := (hI 83 (by decide) (by decide) : cpx83 (wget w 83))
  have h83_34 : xRow w 83 5360 50 g83_33 := h83_34
  obtain ⟨g88_37, h88_38, hb39⟩ := (hI 88 (by decide) (by decide) : cpI 6 55 5 (wget w 88))
  have h88_38 : xRow w 88 6 55 g88_37 := h88_38
  have hl0 := xMnv.l0 hI
  obtain ⟨g93_40, h93_41⟩ := (hI 93 (by decide) (by decide) : cpJ 6 60 (wget w 93))
  have h93_41 : xRk 3 4 w 93 6 60 g93_40 := h93_41
  obtain ⟨g94_43, h94_44⟩ := (hI 94 (by decide) (by decide) : cpJ 6 61 (wget w 94))
  have h94_44 : xRk 3 4 w 94 6 61 g94_43 := h94_44
  refine xg_t (xg_blk (b := [(0, 1, 3, 1, 0, 0), (1, 1, 15, 1, 0, 0), (2, 1, 3, 0, 0, 0), (3, 1, 15, 2, 0, 0)]) rfl) ?_
  refine xg_t (xg_const) ?_
  refine xg_t (xg_istore (l1 := [(0, (2, 82))]) rfl rfl rfl) ?_
  refine xg_t (xg_const) ?_
  refine xg_t (xg_istore (l1 := [(1, (0, 1)), (0, (2, 82))]) rfl rfl rfl) ?_
  refine xg_t (xg_drop (l1 := [(0, (2, 82)), (1, (0, 1)), (2, (0, 0))]) (List.forall_mem_cons.mpr ⟨List.mem_cons_of_mem _ (List.mem_cons_of_mem _ (List.mem_cons_self)), List.forall_mem_cons.mpr ⟨List.mem_cons_of_mem _ (List.mem_cons_self), List.forall_mem_cons.mpr ⟨List.mem_cons_self, fun _ h => absurd h List.not_mem_nil⟩⟩⟩)) ?_
  have key46 : ∀ (m48 : Nat) (le pi_ : Nat) (w49 : List (List xE)), 6 - pi_ < m48 → le ≤ 10000 → pi_ ≤ 6 → xMnv w49 → xFr [] w w49 → (le = bml (bM (fun j => rwv w 83 (20 + j)) (rwv w 88)) (bU R0 O0 nn) (bfr R0 O0 nn) pi_ ∧ le ≤ 10000) ∧ pi_ ≤ nn → xTo (d + 1) mX12_leastNow (4, [], [(0, (2, 82)), (1, (0, le)), (2, (0, pi_))], [], (w49, bd, fc, 0, 0, rr)) (fun φ => ∃ n w', xEnd 1 [(0, n)] (w', bd, fc, 0, 0, rr) φ ∧ (n = bml (bM (fun j => rwv w 83 (20 + j)) (rwv w 88)) (bU R0 O0 nn) (bfr R0 O0 nn) nn) ∧ xMnv w' ∧ xFr [] w w') := by
    intro m48
    induction m48 with
    | zero => intro le pi_ w49 hz; exact absurd hz (Nat.not_lt_zero _)
    | succ m48 ih47 =>
      intro le pi_ w49 hm55 hn52 hn53 hI50 hF51 he54
      obtain ⟨⟨hc56, hd57⟩, hn58⟩ := he54
      refine xg_t (xg_blk (b := [(4, 1, 2, 2, 0, 0), (5, 1, 0, 0, 0, 0), (6, 3, 1, 12, 0, 7), (9, 1, 3, 0, 0, 0), (10, 1, 10, 0, 0, 0), (11, 3, 6, 83, 3, 0), (14, 1, 0, 0, 0, 0), (15, 1, 2, 2, 0, 0), (16, 1, 3, 2, 0, 0), (17, 3, 13, 181, 96, 222), (20, 1, 49, 0, 0, 0), (21, 1, 0, 0, 0, 0), (22, 3, 1, 12, 20, 42), (25, 1, 2, 2, 0, 0), (26, 1, 64, 0, 0, 0), (27, 1, 55, 0, 0, 0), (28, 1, 54, 3, 0, 0), (29, 3, 52, 1000, 0, 231), (32, 1, 0, 0, 0, 0), (33, 3, 1, 12, 21, 45), (36, 1, 2, 2, 0, 0), (37, 1, 64, 0, 0, 0), (38, 3, 13, 221, 98, 227), (41, 1, 55, 0, 0, 0), (42, 1, 53, 3, 0, 0), (43, 1, 56, 0, 0, 0), (44, 1, 51, 1, 0, 0), (45, 1, 66, 0, 0, 0), (46, 1, 53, 3, 0, 0), (47, 1, 67, 0, 0, 0), (48, 2, 54, 5, 0, 0), (50, 2, 53, 5, 0, 0), (52, 1, 2, 1, 0, 0), (53, 1, 49, 0, 0, 0), (54, 1, 57, 0, 0, 0), (55, 3, 7, 77, 5, 0), (58, 2, 53, 5, 0, 0), (60, 3, 52, 9999, 0, 233), (63, 1, 57, 0, 0, 0), (64, 3, 7, 73, 5, 0), (67, 3, 5, 10000, 0, 0), (70, 3, 8, 76, 0, 0)]) rfl) ?_
      refine xg_t (xg_iload (va := (0, pi_)) rfl rfl) ?_
      refine xg_t (xg_aload (va := (2, 82)) rfl rfl) ?_
      refine xg_t (xg_getf (va := (2, 83)) (hF51.get (by decide) h82_31) rfl) ?_
      refine xg_t (xg_const) ?_
      refine xg_ialdB (n := 0) (B := 4294967295) (h83_34.fr hF51 (by decide)) (hb35) xnm0 (by omega) (fun u59 hu60 he61 => ?_)
      have hl62 : u59 ≤ 6 := by rw [← he61]; exact hx36.l0
      have hq63 : rwv w 83 0 = u59 := (rwv_of h83_34 (by omega)).trans he61
      by_cases hc64 : pi_ < u59
      · refine xg_t (xg_icF (u := pi_) (v := u59) rfl xnm0 xnm0 (xj_geF hc64 (by omega))) ?_
        refine xg_t (xg_aload (va := (2, 82)) rfl rfl) ?_
        refine xg_t (xg_iload (va := (0, pi_)) rfl rfl) ?_
        refine xg_t (xg_const) ?_
        refine xg_cVi mX12_layerOf (vs := [(0, pi_), (0, 2)]) (rest := []) (cn1 := 0) (sl1 := 0) rfl (mLayerOfX (hI50) (by omega) (by omega)) rfl (hF51.get (by decide) h82_31) rfl rfl rfl rfl rfl rfl (fun n69 w65 hq66 => ?_)
        obtain ⟨hn70, hI67, hF68⟩ := hq66
        have hM71 : bM (fun j => rwv w 83 (20 + j)) (rwv w 88) pi_ = n69 := by
          rw [hn70, rwf_eq (hF51.1 83 (by decide)), rwf_eq (hF51.1 88 (by decide))]
          rfl
        have hl72 : 1 ≤ n69 ∧ n69 ≤ 99 := by
          have q := xMnv.lay hI (k := rwv w 88 pi_) (i := 2) (by have q := ho pi_ (by omega); omega) (by decide)
          rw [← hM71]
          exact q
        refine xg_t (xg_i2l (u := n69) xnm0) ?_
        refine xg_t (xg_lre (b := n69) (by rw [xlp_eq]; exact nI_l (by omega))) ?_
        refine xg_t (xg_aload (va := (2, 82)) rfl rfl) ?_
        refine xg_t (xg_getf (va := (2, 93)) (hF68.get (by decide) (hF51.get (by decide) h82_31)) rfl) ?_
        refine xg_t (xg_iload (va := (0, pi_)) rfl rfl) ?_
        obtain ⟨l73, hz74⟩ : ∃ z, g93_40 pi_ = z := ⟨_, rfl⟩
        refine xg_t (xg_lald (n := pi_) ((h93_41.fr hF51 (by decide)).fr hF68 (by decide)) xnm0 (by omega) hz74) ?_
        have hU75 : bU R0 O0 nn pi_ = l73 := ((hbd pi_ (by omega)).2.2.2.1).symm.trans ((rwk_of h93_41 (by omega)).trans hz74)
        have hl76 : 1 ≤ l73 ∧ l73 ≤ 117612 := by have q := hu pi_ (by omega); rw [hU75] at q; exact q
        refine xg_t (xg_lmul (u := n69) (v := l73)) ?_
        refine xg_t (xg_lre (b := n69 * l73) (by rw [xlp_eq]; exact lN_mul _ _)) ?_
        refine xg_t (xg_lstore (l1 := [(0, (2, 82)), (1, (0, le)), (2, (0, pi_))]) rfl rfl) ?_
        refine xg_t (xg_ldc2) ?_
        refine xg_t (xg_aload (va := (2, 82)) rfl rfl) ?_
        refine xg_t (xg_getf (va := (2, 94)) (hF68.get (by decide) (hF51.get (by decide) h82_31)) rfl) ?_
        refine xg_t (xg_iload (va := (0, pi_)) rfl rfl) ?_
        obtain ⟨l77, hz78⟩ : ∃ z, g94_43 pi_ = z := ⟨_, rfl⟩
        refine xg_t (xg_lald (n := pi_) ((h94_44.fr hF51 (by decide)).fr hF68 (by decide)) xnm0 (by omega) hz78) ?_
        have hU79 : lN l77 = bfr R0 O0 nn pi_ := by
          rw [← hz78, ← rwk_of (j := pi_) h94_44 (by omega)]
          have q := (hbd pi_ (by omega)).2.2.2.2
          exact q
        refine xg_cSj mX12_size0 (vs := [(4, l77)]) (rest := [(4, 1000)]) (cn1 := 0) (sl1 := 0) rfl (mSize0X (hI67)) rfl rfl rfl rfl rfl rfl rfl (fun l84 w80 hq81 => ?_)
        obtain ⟨hn85, hI82, hF83⟩ := hq81
        refine xg_klE (xg_lmul (u := 1000) (v := l84)) (fun l86 hz87 => ?_)
        refine xg_t (xg_lload (u := n69 * l73) rfl) ?_
        refine xg_klE (xg_ladd (u := l86) (v := n69 * l73)) (fun l88 hz89 => ?_)
        refine xg_t (xg_lconst) ?_
        refine xg_klE (xg_lsub (u := l88) (v := 1)) (fun l90 hz91 => ?_)
        refine xg_t (xg_lload (u := n69 * l73) rfl) ?_
        have hm92 : 1 * 1 ≤ n69 * l73 := Nat.mul_le_mul (by omega) (by omega)
        have hm93 : n69 * l73 ≤ 99 * 117612 := Nat.mul_le_mul (by omega) (by omega)
        refine xg_klE (xg_ldiv (u := l90) (v := n69 * l73) (lN_ne0 (by omega) (by omega))) (fun l94 hz95 => ?_)
        have hr96 : lN l94 = brn (bM (fun j => rwv w 83 (20 + j)) (rwv w 88)) (bU R0 O0 nn) (bfr R0 O0 nn) pi_ := by
          unfold brn
          rw [hM71, hU75, ← hU79, ← hn85, ← dvl_n (lN_ne0 (v := n69 * l73) (by omega) (by omega)), ← hz87, ← hz89, ← hz91]
          exact hz95
        refine xg_t (xg_lstore (l1 := [(3, (4, n69 * l73)), (0, (2, 82)), (1, (0, le)), (2, (0, pi_))]) rfl rfl) ?_
        refine xg_t (xg_lload (u := l94) rfl) ?_
        refine xg_t (xg_iload (va := (0, le)) rfl rfl) ?_
        refine xg_t (xg_i2l (u := le) xnm0) ?_
        refine xg_t (xg_lre (b := le) (by rw [xlp_eq]; exact nI_l (by omega))) ?_
        refine xg_t (xg_lcmp (u := l94) (v := le)) ?_
        by_cases hc97 : lN le < lN l94
        · refine xg_t (xg_ifF (u := xpt (lg_cmp (lN l94) (lN le))) rfl xnm0 (xlj_leF hc97)) ?_
          refine xg_t (xg_lload (u := l94) rfl) ?_
          refine xg_t (xg_ldc2) ?_
          refine xg_t (xg_lcmp (u := l94) (v := 9999)) ?_
          by_cases hc98 : lN 9999 < lN l94
          · refine xg_t (xg_ifF (u := xpt (lg_cmp (lN l94) (lN 9999))) rfl xnm0 (xlj_leF hc98)) ?_
            refine xg_t (xg_sip) ?_
            refine xg_t (xg_goto) ?_
            refine xg_t (xg_blk (b := [(76, 1, 15, 1, 0, 0)]) rfl) ?_
            refine xg_t (xg_istore (l1 := [(5, (4, l94)), (3, (4, n69 * l73)), (0, (2, 82)), (2, (0, pi_))]) rfl rfl rfl) ?_
            refine xg_t (xg_blk (b := [(77, 3, 9, 2, 1, 0), (80, 3, 8, 4, 0, 0)]) rfl) ?_
            refine xg_t (xg_iinc (u := pi_) (z := pi_ + 1) (l1 := [(1, (0, 10000)), (5, (4, l94)), (3, (4, n69 * l73)), (0, (2, 82))]) rfl rfl (by omega) rfl) ?_
            refine xg_t (xg_goto) ?_
            refine xg_t (xg_drop (l1 := [(0, (2, 82)), (1, (0, 10000)), (2, (0, pi_ + 1))]) (List.forall_mem_cons.mpr ⟨List.mem_cons_of_mem _ (List.mem_cons_of_mem _ (List.mem_cons_of_mem _ (List.mem_cons_of_mem _ (List.mem_cons_self)))), List.forall_mem_cons.mpr ⟨List.mem_cons_of_mem _ (List.mem_cons_self), List.forall_mem_cons.mpr ⟨List.mem_cons_self, fun _ h => absurd h List.not_mem_nil⟩⟩⟩)) ?_
            have hk99 : 10000 = bml (bM (fun j => rwv w 83 (20 + j)) (rwv w 88)) (bU R0 O0 nn) (bfr R0 O0 nn) (pi_ + 1) := by
              show 10000 = if lN (bml (bM (fun j => rwv w 83 (20 + j)) (rwv w 88)) (bU R0 O0 nn) (bfr R0 O0 nn) pi_) < brn (bM (fun j => rwv w 83 (20 + j)) (rwv w 88)) (bU R0 O0 nn) (bfr R0 O0 nn) pi_ then (if lN 9999 < brn (bM (fun j => rwv w 83 (20 + j)) (rwv w 88)) (bU R0 O0 nn) (bfr R0 O0 nn) pi_ then 10000 else xpt (brn (bM (fun j => rwv w 83 (20 + j)) (rwv w 88)) (bU R0 O0 nn) (bfr R0 O0 nn) pi_).toInt32) else bml (bM (fun j => rwv w 83 (20 + j)) (rwv w 88)) (bU R0 O0 nn) (bfr R0 O0 nn) pi_
              rw [← hc56, ← hr96, if_pos hc97, if_pos hc98]
            have hk100 : 10000 ≤ 10000 := Nat.le_trans (Nat.le_of_eq hk99) bml_ok.1.2
            exact ih47 10000 (pi_ + 1) w80 (by omega) (by omega) (by omega) (hI82) (((hF51.tr (hF68.up (by decide))).tr (hF83.up (by decide)))) (⟨⟨hk99, hk100⟩, by omega⟩)
          · refine xg_t (xg_ifT (u := xpt (lg_cmp (lN l94) (lN 9999))) rfl xnm0 (xlj_leT hc98)) ?_
            refine xg_t (xg_blk (b := [(73, 2, 53, 5, 0, 0), (75, 1, 50, 0, 0, 0)]) rfl) ?_
            refine xg_t (xg_lload (u := l94) rfl) ?_
            refine xg_kE (xg_l2i (u := l94)) (xpt_lt _) (fun z101 hz102 he103 => ?_)
            refine xg_t (xg_blk (b := [(76, 1, 15, 1, 0, 0)]) rfl) ?_
            refine xg_t (xg_istore (l1 := [(5, (4, l94)), (3, (4, n69 * l73)), (0, (2, 82)), (2, (0, pi_))]) rfl rfl rfl) ?_
            refine xg_t (xg_blk (b := [(77, 3, 9, 2, 1, 0), (80, 3, 8, 4, 0, 0)]) rfl) ?_
            refine xg_t (xg_iinc (u := pi_) (z := pi_ + 1) (l1 := [(1, (0, z101)), (5, (4, l94)), (3, (4, n69 * l73)), (0, (2, 82))]) rfl rfl (by omega) rfl) ?_
            refine xg_t (xg_goto) ?_
            refine xg_t (xg_drop (l1 := [(0, (2, 82)), (1, (0, z101)), (2, (0, pi_ + 1))]) (List.forall_mem_cons.mpr ⟨List.mem_cons_of_mem _ (List.mem_cons_of_mem _ (List.mem_cons_of_mem _ (List.mem_cons_of_mem _ (List.mem_cons_self)))), List.forall_mem_cons.mpr ⟨List.mem_cons_of_mem _ (List.mem_cons_self), List.forall_mem_cons.mpr ⟨List.mem_cons_self, fun _ h => absurd h List.not_mem_nil⟩⟩⟩)) ?_
            have hk104 : z101 = bml (bM (fun j => rwv w 83 (20 + j)) (rwv w 88)) (bU R0 O0 nn) (bfr R0 O0 nn) (pi_ + 1) := by
              show z101 = if lN (bml (bM (fun j => rwv w 83 (20 + j)) (rwv w 88)) (bU R0 O0 nn) (bfr R0 O0 nn) pi_) < brn (bM (fun j => rwv w 83 (20 + j)) (rwv w 88)) (bU R0 O0 nn) (bfr R0 O0 nn) pi_ then (if lN 9999 < brn (bM (fun j => rwv w 83 (20 + j)) (rwv w 88)) (bU R0 O0 nn) (bfr R0 O0 nn) pi_ then 10000 else xpt (brn (bM (fun j => rwv w 83 (20 + j)) (rwv w 88)) (bU R0 O0 nn) (bfr R0 O0 nn) pi_).toInt32) else bml (bM (fun j => rwv w 83 (20 + j)) (rwv w 88)) (bU R0 O0 nn) (bfr R0 O0 nn) pi_
              rw [← hc56, ← hr96, if_pos hc97, if_neg hc98]
              exact he103.symm
            have hk105 : z101 ≤ 10000 := Nat.le_trans (Nat.le_of_eq hk104) bml_ok.1.2
            exact ih47 z101 (pi_ + 1) w80 (by omega) (by omega) (by omega) (hI82) (((hF51.tr (hF68.up (by decide))).tr (hF83.up (by decide)))) (⟨⟨hk104, hk105⟩, by omega⟩)
        · refine xg_t (xg_ifT (u := xpt (lg_cmp (lN l94) (lN le))) rfl xnm0 (xlj_leT hc97)) ?_
          refine xg_t (xg_blk (b := [(77, 3, 9, 2, 1, 0), (80, 3, 8, 4, 0, 0)]) rfl) ?_
          refine xg_t (xg_iinc (u := pi_) (z := pi_ + 1) (l1 := [(5, (4, l94)), (3, (4, n69 * l73)), (0, (2, 82)), (1, (0, le))]) rfl rfl (by omega) rfl) ?_
          refine xg_t (xg_goto) ?_
          refine xg_t (xg_drop (l1 := [(0, (2, 82)), (1, (0, le)), (2, (0, pi_ + 1))]) (List.forall_mem_cons.mpr ⟨List.mem_cons_of_mem _ (List.mem_cons_of_mem _ (List.mem_cons_of_mem _ (List.mem_cons_self))), List.forall_mem_cons.mpr ⟨List.mem_cons_of_mem _ (List.mem_cons_of_mem _ (List.mem_cons_of_mem _ (List.mem_cons_of_mem _ (List.mem_cons_self)))), List.forall_mem_cons.mpr ⟨List.mem_cons_self, fun _ h => absurd h List.not_mem_nil⟩⟩⟩)) ?_
          have hk106 : le = bml (bM (fun j => rwv w 83 (20 + j)) (rwv w 88)) (bU R0 O0 nn) (bfr R0 O0 nn) (pi_ + 1) := by
            show le = if lN (bml (bM (fun j => rwv w 83 (20 + j)) (rwv w 88)) (bU R0 O0 nn) (bfr R0 O0 nn) pi_) < brn (bM (fun j => rwv w 83 (20 + j)) (rwv w 88)) (bU R0 O0 nn) (bfr R0 O0 nn) pi_ then (if lN 9999 < brn (bM (fun j => rwv w 83 (20 + j)) (rwv w 88)) (bU R0 O0 nn) (bfr R0 O0 nn) pi_ then 10000 else xpt (brn (bM (fun j => rwv w 83 (20 + j)) (rwv w 88)) (bU R0 O0 nn) (bfr R0 O0 nn) pi_).toInt32) else bml (bM (fun j => rwv w 83 (20 + j)) (rwv w 88)) (bU R0 O0 nn) (bfr R0 O0 nn) pi_
            rw [← hc56, ← hr96, if_neg hc97]
          have hk107 : le ≤ 10000 := Nat.le_trans (Nat.le_of_eq hk106) bml_ok.1.2
          exact ih47 le (pi_ + 1) w80 (by omega) (by omega) (by omega) (hI82) (((hF51.tr (hF68.up (by decide))).tr (hF83.up (by decide)))) (⟨⟨hk106, hk107⟩, by omega⟩)
      · refine xg_t (xg_icT (u := pi_) (v := u59) rfl xnm0 xnm0 (xj_geT (by omega) (by omega))) ?_
        refine xg_t (xg_blk (b := [(83, 1, 2, 1, 0, 0), (84, 1, 12, 0, 1, 0)]) rfl) ?_
        refine xg_t (xg_iload (va := (0, le)) rfl rfl) ?_
        exact xg_e ⟨le, w49, ⟨rfl, rfl⟩, (hc56.trans (congrArg (bml (bM (fun j => rwv w 83 (20 + j)) (rwv w 88)) (bU R0 O0 nn) (bfr R0 O0 nn)) (show pi_ = nn by omega))), hI50, hF51⟩
  exact key46 _ 1 0 w (Nat.lt_succ_self _) (by omega) (by omega) (hI) (xFr.rf) (⟨⟨rfl, by decide⟩, Nat.zero_le _⟩)
theorem mLeastX (hI : xMnv w)  : xPi (d + 3) mX12_least [(2, 82)] w bd fc rr (fun n w' => ((0 < rwv w 83 0 ∧ n = bce (bM (fun j => rwv w 83 (20 + j)) (fun q => q)) (bU (fun j => rwv w 83 (20 + j)) (fun q => q) (rwv w 83 0)) (bfr (fun j => rwv w 83 (20 + j)) (fun q => q) (rwv w 83 0)) (rwv w 83 0)) ∨ (rwv w 83 0 = 0 ∧ n = 4294967295)) ∧ xMnv w' ∧ xFr [88, 90, 91, 92, 93, 94] w w') := by
  refine xPi.of ?_
  show xTo (d + 3) mX12_least (0, [], [(0, (2, 82))], [], (w, bd, fc, 0, 0, rr)) (fun φ => ∃ n w', xEnd 1 [(0, n)] (w', bd, fc, 0, 0, rr) φ ∧ ((0 < rwv w 83 0 ∧ n = bce (bM (fun j => rwv w 83 (20 + j)) (fun q => q)) (bU (fun j => rwv w 83 (20 + j)) (fun q => q) (rwv w 83 0)) (bfr (fun j => rwv w 83 (20 + j)) (fun q => q) (rwv w 83 0)) (rwv w 83 0)) ∨ (rwv w 83 0 = 0 ∧ n = 4294967295)) ∧ xMnv w' ∧ xFr [88, 90, 91, 92, 93, 94] w w')
  obtain ⟨f82_1, f82_3, f82_5, f82_7, f82_9, f82_11, f82_13, f82_15, f82_17, f82_19, f82_21, f82_22, f82_23, f82_25, f82_27, f82_29, h82_31, hb2, hb4, hb6, hb8, hb10, hb12, hb14, hb16, hb18, hb20, hb24, hb26, hb28, hb30, hb32⟩ := (hI 82 (by decide) (by decide) : cp82 (wget w 82))
  replace hb4 := xHid.of hb4
  replace hb10 := xHid.of hb10
  replace hb14 := xHid.of hb14
  replace hb16 := xHid.of hb16
  replace hb20 := xHid.of hb20
  replace hb24 := xHid.of hb24
  replace hb26 := xHid.of hb26
  replace hb28 := xHid.of hb28
  replace hb30 := xHid.of hb30
  obtain ⟨g83_33, h83_34, hb35, hx36⟩ := (hI 83 (by decide) (by decide) : cpx83 (wget w 83))
  have h83_34 : xRow w 83 5360 50 g83_33 := h83_34
  have hl0 := xMnv.l0 hI
  refine xg_t (xg_blk (b := [(0, 1, 0, 0, 0, 0), (1, 3, 1, 12, 0, 7), (4, 1, 3, 0, 0, 0), (5, 1, 10, 0, 0, 0), (6, 3, 7, 11, 1, 0), (9, 1, 3, 4294967295, 0, 0), (10, 1, 12, 0, 1, 0)]) rfl) ?_
  refine xg_t (xg_aload (va := (2, 82)) rfl rfl) ?_
  refine xg_t (xg_getf (va := (2, 83)) h82_31 rfl) ?_
  refine xg_t (xg_const) ?_
  refine xg_ialdB (n := 0) (B := 4294967295) h83_34 (hb35) xnm0 (by omega) (fun u37 hu38 he39 => ?_)
  have hl40 : u37 ≤ 6 := by rw [← he39]; exact hx36.l0
  have hq41 : rwv w 83 0 = u37 := (rwv_of h83_34 (by omega)).trans he39
  by_cases hc42 : u37 = 0
  · refine xg_t (xg_ifF (u := u37) rfl xnm0 (xj_neF hc42)) ?_
    refine xg_t (xg_const) ?_
    exact xg_e ⟨4294967295, w, ⟨rfl, rfl⟩, Or.inr ⟨by omega, rfl⟩, hI, xFr.rf⟩
  · refine xg_t (xg_ifT (u := u37) rfl xnm0 (xj_neT hc42)) ?_
    refine xg_t (xg_blk (b := [(11, 1, 0, 0, 0, 0), (12, 3, 13, 116, 96, 244), (15, 1, 0, 0, 0, 0), (16, 3, 13, 185, 96, 253), (19, 1, 12, 0, 1, 0)]) rfl) ?_
    refine xg_t (xg_aload (va := (2, 82)) rfl rfl) ?_
    refine xg_cVv mX12_asTold (vs := []) (rest := []) (cn1 := 0) (sl1 := 0) rfl (mAsToldX (hI)) rfl h82_31 rfl rfl rfl rfl rfl rfl (fun w43 hq44 => ?_)
    obtain ⟨hI45, hF46, hx47⟩ := hq44
    obtain ⟨hbd, ho88⟩ := hx47
    have e83 : rwv w43 83 = rwv w 83 := rwf_eq (hF46.1 83 (by decide))
    obtain ⟨g90_48, h90_49, hb50⟩ := (hI45 90 (by decide) (by decide) : cpI 6 57 4294967295 (wget w43 90))
    have h90_49 : xRow w43 90 6 57 g90_48 := h90_49
    obtain ⟨g91_51, h91_52, hb53⟩ := (hI45 91 (by decide) (by decide) : cpI 6 58 5 (wget w43 91))
    have h91_52 : xRow w43 91 6 58 g91_51 := h91_52
    obtain ⟨g92_54, h92_55⟩ := (hI45 92 (by decide) (by decide) : cpJ 6 59 (wget w43 92))
    have h92_55 : xRk 3 4 w43 92 6 59 g92_54 := h92_55
    obtain ⟨g93_57, h93_58⟩ := (hI45 93 (by decide) (by decide) : cpJ 6 60 (wget w43 93))
    have h93_58 : xRk 3 4 w43 93 6 60 g93_57 := h93_58
    obtain ⟨g94_60, h94_61⟩ := (hI45 94 (by decide) (by decide) : cpJ 6 61 (wget w43 94))
    have h94_61 : xRk 3 4 w43 94 6 61 g94_60 := h94_61
    refine xg_t (xg_aload (va := (2, 82)) rfl rfl) ?_
    have hnL : rwv w43 83 0 = rwv w 83 0 := by rw [e83]
    have huL : ∀ q, q < rwv w 83 0 → 1 ≤ bU (fun j => rwv w 83 (20 + j)) (fun q => q) (rwv w 83 0) q ∧ bU (fun j => rwv w 83 (20 + j)) (fun q => q) (rwv w 83 0) q ≤ 117612 := fun q hq => bU_rg (fun q hq => ⟨xMnv.lay hI (i := 0) hq (by decide), xMnv.lay hI (i := 1) hq (by decide)⟩) hq hl0
    have hoL : ∀ q, q < rwv w 83 0 → rwv w43 88 q < rwv w 83 0 := fun q hq => by rw [ho88 q (by omega)]; exact hq
    refine xg_cVi mX12_leastNow (vs := []) (rest := []) (cn1 := 0) (sl1 := 0) rfl (mLeastNowX (hI45) hbd hnL huL hoL) rfl (hF46.get (by decide) h82_31) rfl rfl rfl rfl rfl rfl (fun n67 w63 hq64 => ?_)
    obtain ⟨hn68, hI65, hF66⟩ := hq64
    have hk69 : n67 = bce (bM (fun j => rwv w 83 (20 + j)) (fun q => q)) (bU (fun j => rwv w 83 (20 + j)) (fun q => q) (rwv w 83 0)) (bfr (fun j => rwv w 83 (20 + j)) (fun q => q) (rwv w 83 0)) (rwv w 83 0) := by
      rw [hn68, bml_eq]
      refine bce_cg (fun q hq => ⟨?_, rfl, rfl⟩)
      unfold bM
      rw [e83, ho88 q (by omega)]
    exact xg_e ⟨n67, w63, ⟨rfl, rfl⟩, Or.inl ⟨by omega, hk69⟩, hI65, ((hF46.up (by decide)).tr (hF66.up (by decide)))⟩
theorem mLayerX {la wh : Nat} (hI : xMnv w) (hla : la ≤ 4294967295) (hwh : wh ≤ 4294967295) : xPi (d + 3) mX12_layer [(2, 82), (0, la), (0, wh)] w bd fc rr (fun n w' => ((la < rwv w 83 0 ∧ wh < 4 ∧ n = rwv w 83 (20 + (4 * la + wh))) ∨ (la < rwv w 83 0 ∧ wh = 4 ∧ n = bhg (fun j => rwv w 83 (20 + j)) (fun q => q) la) ∨ (la < rwv w 83 0 ∧ wh = 5 ∧ n = bfs (fun j => rwv w 83 (20 + j)) la) ∨ (¬ (la < rwv w 83 0 ∧ wh ≤ 5) ∧ n = 4294967295)) ∧ xMnv w' ∧ xFr [88, 90, 91, 92, 93, 94] w w') := by
  refine xPi.of ?_
  show xTo (d + 3) mX12_layer (0, [], [(0, (2, 82)), (1, (0, la)), (2, (0, wh))], [], (w, bd, fc, 0, 0, rr)) (fun φ => ∃ n w', xEnd 1 [(0, n)] (w', bd, fc, 0, 0, rr) φ ∧ ((la < rwv w 83 0 ∧ wh < 4 ∧ n = rwv w 83 (20 + (4 * la + wh))) ∨ (la < rwv w 83 0 ∧ wh = 4 ∧ n = bhg (fun j => rwv w 83 (20 + j)) (fun q => q) la) ∨ (la < rwv w 83 0 ∧ wh = 5 ∧ n = bfs (fun j => rwv w 83 (20 + j)) la) ∨ (¬ (la < rwv w 83 0 ∧ wh ≤ 5) ∧ n = 4294967295)) ∧ xMnv w' ∧ xFr [88, 90, 91, 92, 93, 94] w w')
  obtain ⟨f82_1, f82_3, f82_5, f82_7, f82_9, f82_11, f82_13, f82_15, f82_17, f82_19, f82_21, f82_22, f82_23, f82_25, f82_27, f82_29, h82_31, hb2, hb4, hb6, hb8, hb10, hb12, hb14, hb16, hb18, hb20, hb24, hb26, hb28, hb30, hb32⟩ := (hI 82 (by decide) (by decide) : cp82 (wget w 82))
  replace hb4 := xHid.of hb4
  replace hb10 := xHid.of hb10
  replace hb14 := xHid.of hb14
  replace hb16 := xHid.of hb16
  replace hb20 := xHid.of hb20
  replace hb24 := xHid.of hb24
  replace hb26 := xHid.of hb26
  replace hb28 := xHid.of hb28
  replace hb30 := xHid.of hb30
  obtain ⟨g83_33, h83_34, hb35, hx36⟩ := (hI 83 (by decide) (by decide) : cpx83 (wget w 83))
  have h83_34 : xRow w 83 5360 50 g83_33 := h83_34
  have hl0 := xMnv.l0 hI
  refine xg_t (xg_blk (b := [(0, 1, 0, 0, 0, 0), (1, 1, 2, 1, 0, 0), (2, 1, 3, 0, 0, 0), (3, 3, 13, 168, 96, 241), (6, 3, 7, 18, 0, 0), (9, 1, 2, 2, 0, 0), (10, 1, 3, 0, 0, 0), (11, 1, 3, 5, 0, 0), (12, 3, 13, 161, 98, 105), (15, 3, 7, 20, 1, 0)]) rfl) ?_
  refine xg_t (xg_aload (va := (2, 82)) rfl rfl) ?_
  refine xg_t (xg_iload (va := (0, la)) rfl rfl) ?_
  refine xg_t (xg_const) ?_
  refine xg_cVi mX12_isOf (vs := [(0, la), (0, 0)]) (rest := []) (cn1 := 0) (sl1 := 0) rfl (mOf0X (hI) (by omega)) rfl h82_31 rfl rfl rfl rfl rfl rfl (fun n41 w37 hq38 => ?_)
  obtain ⟨hn42, hI39, hF40⟩ := hq38
  by_cases hc43 : n41 = 0
  · refine xg_t (xg_ifT (u := n41) rfl xnm0 (xj_eqT hc43)) ?_
    refine xg_t (xg_blk (b := [(18, 1, 3, 4294967295, 0, 0), (19, 1, 12, 0, 1, 0)]) rfl) ?_
    refine xg_t (xg_const) ?_
    exact xg_e ⟨4294967295, w37, ⟨rfl, rfl⟩, Or.inr (Or.inr (Or.inr ⟨by omega, rfl⟩)), hI39, (hF40.up (by decide))⟩
  · refine xg_t (xg_ifF (u := n41) rfl xnm0 (xj_eqF hc43)) ?_
    refine xg_t (xg_iload (va := (0, wh)) rfl rfl) ?_
    refine xg_t (xg_const) ?_
    refine xg_t (xg_const) ?_
    refine xg_t (xg_cSr mX12_isIn (vs := [(0, wh), (0, 0), (0, 5)]) (rest := []) (rs := [(0, if 0 ≤ wh ∧ wh ≤ 5 then 1 else 0)]) (cn1 := 0) (sl1 := 0) rfl (mIsIn (by omega) (by omega) (by omega)) rfl rfl rfl rfl rfl rfl rfl rfl) ?_
    by_cases hc44 : 0 ≤ wh ∧ wh ≤ 5
    · refine xg_t (xg_ifT (u := (if 0 ≤ wh ∧ wh ≤ 5 then 1 else 0)) rfl xnm0 (xj_neT (xite1 hc44))) ?_
      refine xg_t (xg_blk (b := [(20, 1, 0, 0, 0, 0), (21, 3, 13, 116, 96, 244), (24, 1, 2, 2, 0, 0), (25, 1, 3, 4, 0, 0), (26, 3, 6, 45, 3, 0), (29, 1, 0, 0, 0, 0), (30, 3, 1, 12, 0, 7), (33, 2, 4, 20, 0, 0), (35, 1, 3, 4, 0, 0), (36, 1, 2, 1, 0, 0), (37, 1, 16, 0, 0, 0), (38, 1, 11, 0, 0, 0), (39, 1, 2, 2, 0, 0), (40, 1, 11, 0, 0, 0), (41, 1, 10, 0, 0, 0), (42, 3, 8, 65, 0, 0)]) rfl) ?_
      refine xg_t (xg_aload (va := (2, 82)) rfl rfl) ?_
      refine xg_cVv mX12_asTold (vs := []) (rest := []) (cn1 := 0) (sl1 := 0) rfl (mAsToldX (hI39)) rfl (hF40.get (by decide) h82_31) rfl rfl rfl rfl rfl rfl (fun w45 hq46 => ?_)
      obtain ⟨hI47, hF48, hx49⟩ := hq46
      obtain ⟨hbd, ho88⟩ := hx49
      have hfr_ : xFr [88, 90, 91, 92, 93, 94] w w37 := (hF40.up (by decide))
      have e83_ : rwv w37 83 = rwv w 83 := rwf_eq (hfr_.1 83 (by decide))
      rw [e83_] at hbd
      have e83 : rwv w45 83 = rwv w 83 := (rwf_eq (hF48.1 83 (by decide))).trans e83_
      obtain ⟨g90_50, h90_51, hb52⟩ := (hI47 90 (by decide) (by decide) : cpI 6 57 4294967295 (wget w45 90))
      have h90_51 : xRow w45 90 6 57 g90_50 := h90_51
      obtain ⟨g91_53, h91_54, hb55⟩ := (hI47 91 (by decide) (by decide) : cpI 6 58 5 (wget w45 91))
      have h91_54 : xRow w45 91 6 58 g91_53 := h91_54
      obtain ⟨g92_56, h92_57⟩ := (hI47 92 (by decide) (by decide) : cpJ 6 59 (wget w45 92))
      have h92_57 : xRk 3 4 w45 92 6 59 g92_56 := h92_57
      obtain ⟨g93_59, h93_60⟩ := (hI47 93 (by decide) (by decide) : cpJ 6 60 (wget w45 93))
      have h93_60 : xRk 3 4 w45 93 6 60 g93_59 := h93_60
      obtain ⟨g94_62, h94_63⟩ := (hI47 94 (by decide) (by decide) : cpJ 6 61 (wget w45 94))
      have h94_63 : xRk 3 4 w45 94 6 61 g94_62 := h94_63
      refine xg_t (xg_iload (va := (0, wh)) rfl rfl) ?_
      refine xg_t (xg_const) ?_
      by_cases hc65 : wh < 4
      · refine xg_t (xg_icF (u := wh) (v := 4) rfl xnm0 xnm0 (xj_geF hc65 (by omega))) ?_
        refine xg_t (xg_aload (va := (2, 82)) rfl rfl) ?_
        refine xg_t (xg_getf (va := (2, 83)) (hF48.get (by decide) (hF40.get (by decide) h82_31)) rfl) ?_
        refine xg_t (xg_bip) ?_
        refine xg_t (xg_const) ?_
        refine xg_t (xg_iload (va := (0, la)) rfl rfl) ?_
        refine xg_t (xg_imul (u := 4) (v := la) (z := 4 * la) xnm0 xnm0 (by omega)) ?_
        refine xg_t (xg_iadd (u := 20) (v := 4 * la) (z := 20 + (4 * la)) xnm0 xnm0 (by omega)) ?_
        refine xg_t (xg_iload (va := (0, wh)) rfl rfl) ?_
        refine xg_t (xg_iadd (u := 20 + (4 * la)) (v := wh) (z := (20 + (4 * la)) + wh) xnm0 xnm0 (by omega)) ?_
        refine xg_ialdB (n := (20 + (4 * la)) + wh) (B := 4294967295) ((h83_34.fr hF40 (by decide)).fr hF48 (by decide)) (hb35) xnm0 (by omega) (fun u66 hu67 he68 => ?_)
        refine xg_t (xg_goto) ?_
        refine xg_t (xg_blk (b := [(65, 1, 12, 0, 1, 0)]) rfl) ?_
        have hk69 : u66 = rwv w 83 (20 + (4 * la + wh)) := by
          rw [rwv_of (j := 20 + (4 * la + wh)) h83_34 (by omega), show 20 + (4 * la + wh) = (20 + (4 * la)) + wh by omega]
          exact he68.symm
        exact xg_e ⟨u66, w45, ⟨rfl, rfl⟩, Or.inl ⟨by omega, by omega, hk69⟩, hI47, ((hF40.up (by decide)).tr (hF48.up (by decide)))⟩
      · refine xg_t (xg_icT (u := wh) (v := 4) rfl xnm0 xnm0 (xj_geT (by omega) (by omega))) ?_
        refine xg_t (xg_blk (b := [(45, 1, 2, 2, 0, 0), (46, 1, 3, 4, 0, 0), (47, 3, 6, 59, 1, 0), (50, 1, 0, 0, 0, 0), (51, 3, 1, 12, 17, 32), (54, 1, 2, 1, 0, 0), (55, 1, 10, 0, 0, 0), (56, 3, 8, 65, 0, 0)]) rfl) ?_
        refine xg_t (xg_iload (va := (0, wh)) rfl rfl) ?_
        refine xg_t (xg_const) ?_
        by_cases hc70 : wh = 4
        · refine xg_t (xg_icF (u := wh) (v := 4) rfl xnm0 xnm0 (xj_neF hc70)) ?_
          refine xg_t (xg_aload (va := (2, 82)) rfl rfl) ?_
          refine xg_t (xg_getf (va := (2, 90)) (hF48.get (by decide) (hF40.get (by decide) h82_31)) rfl) ?_
          refine xg_t (xg_iload (va := (0, la)) rfl rfl) ?_
          refine xg_ialdB (n := la) (B := 4294967295) h90_51 (hb52) xnm0 (by omega) (fun u71 hu72 he73 => ?_)
          refine xg_t (xg_goto) ?_
          refine xg_t (xg_blk (b := [(65, 1, 12, 0, 1, 0)]) rfl) ?_
          have hk74 : u71 = bhg (fun j => rwv w 83 (20 + j)) (fun q => q) la := (((hbd la (by omega)).2.1).symm.trans ((rwv_of h90_51 (by omega)).trans he73)).symm
          exact xg_e ⟨u71, w45, ⟨rfl, rfl⟩, Or.inr (Or.inl ⟨by omega, by omega, hk74⟩), hI47, ((hF40.up (by decide)).tr (hF48.up (by decide)))⟩
        · refine xg_t (xg_icT (u := wh) (v := 4) rfl xnm0 xnm0 (xj_neT hc70)) ?_
          refine xg_t (xg_blk (b := [(59, 1, 0, 0, 0, 0), (60, 3, 1, 12, 18, 35), (63, 1, 2, 1, 0, 0), (64, 1, 10, 0, 0, 0)]) rfl) ?_
          refine xg_t (xg_aload (va := (2, 82)) rfl rfl) ?_
          refine xg_t (xg_getf (va := (2, 91)) (hF48.get (by decide) (hF40.get (by decide) h82_31)) rfl) ?_
          refine xg_t (xg_iload (va := (0, la)) rfl rfl) ?_
          refine xg_ialdB (n := la) (B := 5) h91_54 (hb55) xnm0 (by omega) (fun u75 hu76 he77 => ?_)
          refine xg_t (xg_blk (b := [(65, 1, 12, 0, 1, 0)]) rfl) ?_
          have hk78 : u75 = bfs (fun j => rwv w 83 (20 + j)) la := (((hbd la (by omega)).1).symm.trans ((rwv_of h91_54 (by omega)).trans he77)).symm
          exact xg_e ⟨u75, w45, ⟨rfl, rfl⟩, Or.inr (Or.inr (Or.inl ⟨by omega, by omega, hk78⟩)), hI47, ((hF40.up (by decide)).tr (hF48.up (by decide)))⟩
    · refine xg_t (xg_ifF (u := (if 0 ≤ wh ∧ wh ≤ 5 then 1 else 0)) rfl xnm0 (xj_neF (xite0 hc44))) ?_
      refine xg_t (xg_blk (b := [(18, 1, 3, 4294967295, 0, 0), (19, 1, 12, 0, 1, 0)]) rfl) ?_
      refine xg_t (xg_const) ?_
      exact xg_e ⟨4294967295, w37, ⟨rfl, rfl⟩, Or.inr (Or.inr (Or.inr ⟨by omega, rfl⟩)), hI39, (hF40.up (by decide))⟩
theorem mWorstX {ro : Nat} (hI : xMnv w) (hro : ro ≤ 4294967295) : xPi (d + 3) mX12_worst [(2, 82), (0, ro)] w bd fc rr (fun n w' => (((0 < rwv w 83 0 ∧ 1 ≤ ro ∧ ro ≤ 9999) ∧ n = bwo (bM (fun j => rwv w 83 (20 + j)) (fun q => q)) (bU (fun j => rwv w 83 (20 + j)) (fun q => q) (rwv w 83 0)) (bfr (fun j => rwv w 83 (20 + j)) (fun q => q) (rwv w 83 0)) (rwv w 83 0 - 1)) ∨ (¬ (0 < rwv w 83 0 ∧ 1 ≤ ro ∧ ro ≤ 9999) ∧ n = 4294967295)) ∧ xMnv w' ∧ xFr [88, 90, 91, 92, 93, 94] w w') := by
  refine xPi.of ?_
  show xTo (d + 3) mX12_worst (0, [], [(0, (2, 82)), (1, (0, ro))], [], (w, bd, fc, 0, 0, rr)) (fun φ => ∃ n w', xEnd 1 [(0, n)] (w', bd, fc, 0, 0, rr) φ ∧ (((0 < rwv w 83 0 ∧ 1 ≤ ro ∧ ro ≤ 9999) ∧ n = bwo (bM (fun j => rwv w 83 (20 + j)) (fun q => q)) (bU (fun j => rwv w 83 (20 + j)) (fun q => q) (rwv w 83 0)) (bfr (fun j => rwv w 83 (20 + j)) (fun q => q) (rwv w 83 0)) (rwv w 83 0 - 1)) ∨ (¬ (0 < rwv w 83 0 ∧ 1 ≤ ro ∧ ro ≤ 9999) ∧ n = 4294967295)) ∧ xMnv w' ∧ xFr [88, 90, 91, 92, 93, 94] w w')
  obtain ⟨f82_1, f82_3, f82_5, f82_7, f82_9, f82_11, f82_13, f82_15, f82_17, f82_19, f82_21, f82_22, f82_23, f82_25, f82_27, f82_29, h82_31, hb2, hb4, hb6, hb8, hb10, hb12, hb14, hb16, hb18, hb20, hb24, hb26, hb28, hb30, hb32⟩ := (hI 82 (by decide) (by decide) : cp82 (wget w 82))
  replace hb4 := xHid.of hb4
  replace hb10 := xHid.of hb10
  replace hb14 := xHid.of hb14
  replace hb16 := xHid.of hb16
  replace hb20 := xHid.of hb20
  replace hb24 := xHid.of hb24
  replace hb26 := xHid.of hb26
  replace hb28 := xHid.of hb28
  replace hb30 := xHid.of hb30
  obtain ⟨g83_33, h83_34, hb35, hx36⟩ := (hI 83 (by decide) (by decide) : cpx83 (wget w 83))
  have h83_34 : xRow w 83 5360 50 g83_33 := h83_34
  have hl0 := xMnv.l0 hI
  refine xg_t (xg_blk (b := [(0, 1, 0, 0, 0, 0), (1, 3, 1, 12, 0, 7), (4, 1, 3, 0, 0, 0), (5, 1, 10, 0, 0, 0), (6, 3, 7, 17, 0, 0), (9, 1, 0, 0, 0, 0), (10, 1, 2, 1, 0, 0), (11, 3, 13, 171, 96, 247), (14, 3, 7, 19, 1, 0)]) rfl) ?_
  refine xg_t (xg_aload (va := (2, 82)) rfl rfl) ?_
  refine xg_t (xg_getf (va := (2, 83)) h82_31 rfl) ?_
  refine xg_t (xg_const) ?_
  refine xg_ialdB (n := 0) (B := 4294967295) h83_34 (hb35) xnm0 (by omega) (fun u37 hu38 he39 => ?_)
  have hl40 : u37 ≤ 6 := by rw [← he39]; exact hx36.l0
  have hq41 : rwv w 83 0 = u37 := (rwv_of h83_34 (by omega)).trans he39
  by_cases hc42 : u37 = 0
  · refine xg_t (xg_ifT (u := u37) rfl xnm0 (xj_eqT hc42)) ?_
    refine xg_t (xg_blk (b := [(17, 1, 3, 4294967295, 0, 0), (18, 1, 12, 0, 1, 0)]) rfl) ?_
    refine xg_t (xg_const) ?_
    exact xg_e ⟨4294967295, w, ⟨rfl, rfl⟩, Or.inr ⟨by omega, rfl⟩, hI, xFr.rf⟩
  · refine xg_t (xg_ifF (u := u37) rfl xnm0 (xj_eqF hc42)) ?_
    refine xg_t (xg_aload (va := (2, 82)) rfl rfl) ?_
    refine xg_t (xg_iload (va := (0, ro)) rfl rfl) ?_
    refine xg_cVi mX12_isRound (vs := [(0, ro)]) (rest := []) (cn1 := 0) (sl1 := 0) rfl (mIsRoundX (hI) (by omega)) rfl h82_31 rfl rfl rfl rfl rfl rfl (fun n47 w43 hq44 => ?_)
    obtain ⟨hn48, hI45, hF46⟩ := hq44
    by_cases hc49 : n47 = 0
    · refine xg_t (xg_ifF (u := n47) rfl xnm0 (xj_neF hc49)) ?_
      refine xg_t (xg_blk (b := [(17, 1, 3, 4294967295, 0, 0), (18, 1, 12, 0, 1, 0)]) rfl) ?_
      refine xg_t (xg_const) ?_
      exact xg_e ⟨4294967295, w43, ⟨rfl, rfl⟩, Or.inr ⟨by omega, rfl⟩, hI45, (hF46.up (by decide))⟩
    · refine xg_t (xg_ifT (u := n47) rfl xnm0 (xj_neT hc49)) ?_
      refine xg_t (xg_blk (b := [(19, 1, 0, 0, 0, 0), (20, 3, 13, 116, 96, 244), (23, 1, 3, 0, 0, 0), (24, 1, 15, 2, 0, 0), (25, 1, 3, 1, 0, 0), (26, 1, 15, 3, 0, 0)]) rfl) ?_
      refine xg_t (xg_aload (va := (2, 82)) rfl rfl) ?_
      refine xg_cVv mX12_asTold (vs := []) (rest := []) (cn1 := 0) (sl1 := 0) rfl (mAsToldX (hI45)) rfl (hF46.get (by decide) h82_31) rfl rfl rfl rfl rfl rfl (fun w50 hq51 => ?_)
      obtain ⟨hI52, hF53, hx54⟩ := hq51
      obtain ⟨hbd, ho88⟩ := hx54
      have hfr_ : xFr [88, 90, 91, 92, 93, 94] w w43 := (hF46.up (by decide))
      have e83_ : rwv w43 83 = rwv w 83 := rwf_eq (hfr_.1 83 (by decide))
      rw [e83_] at hbd
      have e83 : rwv w50 83 = rwv w 83 := (rwf_eq (hF53.1 83 (by decide))).trans e83_
      obtain ⟨g90_55, h90_56, hb57⟩ := (hI52 90 (by decide) (by decide) : cpI 6 57 4294967295 (wget w50 90))
      have h90_56 : xRow w50 90 6 57 g90_55 := h90_56
      obtain ⟨g91_58, h91_59, hb60⟩ := (hI52 91 (by decide) (by decide) : cpI 6 58 5 (wget w50 91))
      have h91_59 : xRow w50 91 6 58 g91_58 := h91_59
      obtain ⟨g92_61, h92_62⟩ := (hI52 92 (by decide) (by decide) : cpJ 6 59 (wget w50 92))
      have h92_62 : xRk 3 4 w50 92 6 59 g92_61 := h92_62
      obtain ⟨g93_64, h93_65⟩ := (hI52 93 (by decide) (by decide) : cpJ 6 60 (wget w50 93))
      have h93_65 : xRk 3 4 w50 93 6 60 g93_64 := h93_65
      obtain ⟨g94_67, h94_68⟩ := (hI52 94 (by decide) (by decide) : cpJ 6 61 (wget w50 94))
      have h94_68 : xRk 3 4 w50 94 6 61 g94_67 := h94_68
      refine xg_t (xg_const) ?_
      refine xg_t (xg_istore (l1 := [(0, (2, 82)), (1, (0, ro))]) rfl rfl rfl) ?_
      refine xg_t (xg_const) ?_
      refine xg_t (xg_istore (l1 := [(2, (0, 0)), (0, (2, 82)), (1, (0, ro))]) rfl rfl rfl) ?_
      refine xg_t (xg_drop (l1 := [(0, (2, 82)), (1, (0, ro)), (2, (0, 0)), (3, (0, 1))]) (List.forall_mem_cons.mpr ⟨List.mem_cons_of_mem _ (List.mem_cons_of_mem _ (List.mem_cons_self)), List.forall_mem_cons.mpr ⟨List.mem_cons_of_mem _ (List.mem_cons_of_mem _ (List.mem_cons_of_mem _ (List.mem_cons_self))), List.forall_mem_cons.mpr ⟨List.mem_cons_of_mem _ (List.mem_cons_self), List.forall_mem_cons.mpr ⟨List.mem_cons_self, fun _ h => absurd h List.not_mem_nil⟩⟩⟩⟩)) ?_
      have key70 : ∀ (m72 : Nat) (wo pi_ : Nat) (w73 : List (List xE)), 6 - pi_ < m72 → wo ≤ 5 → pi_ ≤ 6 → xMnv w73 → xFr [88, 90, 91, 92, 93, 94] w w73 → (bdm w73 (fun j => rwv w 83 (20 + j)) (fun q => q) (rwv w 83 0) ∧ (∀ q, q < 6 → rwv w73 88 q = q) ∧ rwv w73 83 = rwv w 83) ∧ (wo = bwo (bM (fun j => rwv w 83 (20 + j)) (fun q => q)) (bU (fun j => rwv w 83 (20 + j)) (fun q => q) (rwv w 83 0)) (bfr (fun j => rwv w 83 (20 + j)) (fun q => q) (rwv w 83 0)) (pi_ - 1) ∧ wo < rwv w 83 0) ∧ 1 ≤ pi_ ∧ pi_ ≤ rwv w 83 0 → xTo (d + 3) mX12_worst (27, [], [(0, (2, 82)), (1, (0, ro)), (2, (0, wo)), (3, (0, pi_))], [], (w73, bd, fc, 0, 0, rr)) (fun φ => ∃ n w', xEnd 1 [(0, n)] (w', bd, fc, 0, 0, rr) φ ∧ (((0 < rwv w 83 0 ∧ 1 ≤ ro ∧ ro ≤ 9999) ∧ n = bwo (bM (fun j => rwv w 83 (20 + j)) (fun q => q)) (bU (fun j => rwv w 83 (20 + j)) (fun q => q) (rwv w 83 0)) (bfr (fun j => rwv w 83 (20 + j)) (fun q => q) (rwv w 83 0)) (rwv w 83 0 - 1)) ∨ (¬ (0 < rwv w 83 0 ∧ 1 ≤ ro ∧ ro ≤ 9999) ∧ n = 4294967295)) ∧ xMnv w' ∧ xFr [88, 90, 91, 92, 93, 94] w w') := by
        intro m72
        induction m72 with
        | zero => intro wo pi_ w73 hz; exact absurd hz (Nat.not_lt_zero _)
        | succ m72 ih71 =>
          intro wo pi_ w73 hm79 hn76 hn77 hI74 hF75 he78
          obtain ⟨⟨hbd, ho88, e83⟩, ⟨hc80, hwn⟩, hp1, hp2⟩ := he78
          obtain ⟨g90_81, h90_82, hb83⟩ := (hI74 90 (by decide) (by decide) : cpI 6 57 4294967295 (wget w73 90))
          have h90_82 : xRow w73 90 6 57 g90_81 := h90_82
          obtain ⟨g91_84, h91_85, hb86⟩ := (hI74 91 (by decide) (by decide) : cpI 6 58 5 (wget w73 91))
          have h91_85 : xRow w73 91 6 58 g91_84 := h91_85
          obtain ⟨g92_87, h92_88⟩ := (hI74 92 (by decide) (by decide) : cpJ 6 59 (wget w73 92))
          have h92_88 : xRk 3 4 w73 92 6 59 g92_87 := h92_88
          obtain ⟨g93_90, h93_91⟩ := (hI74 93 (by decide) (by decide) : cpJ 6 60 (wget w73 93))
          have h93_91 : xRk 3 4 w73 93 6 60 g93_90 := h93_91
          obtain ⟨g94_93, h94_94⟩ := (hI74 94 (by decide) (by decide) : cpJ 6 61 (wget w73 94))
          have h94_94 : xRk 3 4 w73 94 6 61 g94_93 := h94_94
          refine xg_t (xg_blk (b := [(27, 1, 2, 3, 0, 0), (28, 1, 0, 0, 0, 0), (29, 3, 1, 12, 0, 7), (32, 1, 3, 0, 0, 0), (33, 1, 10, 0, 0, 0), (34, 3, 6, 97, 3, 0), (37, 1, 0, 0, 0, 0), (38, 3, 1, 12, 21, 45), (41, 1, 2, 3, 0, 0), (42, 1, 64, 0, 0, 0), (43, 3, 13, 221, 98, 227), (46, 1, 0, 0, 0, 0), (47, 3, 1, 12, 20, 42), (50, 1, 2, 2, 0, 0), (51, 1, 64, 0, 0, 0), (52, 1, 55, 0, 0, 0), (53, 1, 0, 0, 0, 0), (54, 1, 2, 2, 0, 0), (55, 1, 3, 2, 0, 0), (56, 3, 13, 181, 96, 222), (59, 1, 49, 0, 0, 0), (60, 1, 55, 0, 0, 0), (61, 1, 0, 0, 0, 0), (62, 3, 1, 12, 21, 45), (65, 1, 2, 2, 0, 0), (66, 1, 64, 0, 0, 0), (67, 3, 13, 221, 98, 227), (70, 1, 0, 0, 0, 0), (71, 3, 1, 12, 20, 42), (74, 1, 2, 3, 0, 0), (75, 1, 64, 0, 0, 0), (76, 1, 55, 0, 0, 0), (77, 1, 0, 0, 0, 0), (78, 1, 2, 3, 0, 0), (79, 1, 3, 2, 0, 0), (80, 3, 13, 181, 96, 222), (83, 1, 49, 0, 0, 0), (84, 1, 55, 0, 0, 0), (85, 1, 57, 0, 0, 0), (86, 3, 7, 91, 5, 0), (89, 1, 2, 3, 0, 0), (90, 1, 15, 2, 0, 0)]) rfl) ?_
          refine xg_t (xg_iload (va := (0, pi_)) rfl rfl) ?_
          refine xg_t (xg_aload (va := (2, 82)) rfl rfl) ?_
          refine xg_t (xg_getf (va := (2, 83)) (hF75.get (by decide) h82_31) rfl) ?_
          refine xg_t (xg_const) ?_
          refine xg_ialdB (n := 0) (B := 4294967295) (h83_34.fr hF75 (by decide)) (hb35) xnm0 (by omega) (fun u96 hu97 he98 => ?_)
          have hl99 : u96 ≤ 6 := by rw [← he98]; exact hx36.l0
          have hq100 : rwv w 83 0 = u96 := (rwv_of h83_34 (by omega)).trans he98
          by_cases hc101 : pi_ < u96
          · refine xg_t (xg_icF (u := pi_) (v := u96) rfl xnm0 xnm0 (xj_geF hc101 (by omega))) ?_
            refine xg_t (xg_aload (va := (2, 82)) rfl rfl) ?_
            refine xg_t (xg_getf (va := (2, 94)) (hF75.get (by decide) h82_31) rfl) ?_
            refine xg_t (xg_iload (va := (0, pi_)) rfl rfl) ?_
            obtain ⟨l102, hz103⟩ : ∃ z, g94_93 pi_ = z := ⟨_, rfl⟩
            refine xg_t (xg_lald (n := pi_) h94_94 xnm0 (by omega) hz103) ?_
            have hU104 : lN l102 = bfr (fun j => rwv w 83 (20 + j)) (fun q => q) (rwv w 83 0) pi_ := by
              rw [← hz103, ← rwk_of (j := pi_) h94_94 (by omega)]
              exact (hbd pi_ (by omega)).2.2.2.2
            refine xg_cSj mX12_size0 (vs := [(4, l102)]) (rest := []) (cn1 := 0) (sl1 := 0) rfl (mSize0X (hI74)) rfl rfl rfl rfl rfl rfl rfl (fun l109 w105 hq106 => ?_)
            obtain ⟨hn110, hI107, hF108⟩ := hq106
            refine xg_t (xg_aload (va := (2, 82)) rfl rfl) ?_
            refine xg_t (xg_getf (va := (2, 93)) (hF108.get (by decide) (hF75.get (by decide) h82_31)) rfl) ?_
            refine xg_t (xg_iload (va := (0, wo)) rfl rfl) ?_
            obtain ⟨l111, hz112⟩ : ∃ z, g93_90 wo = z := ⟨_, rfl⟩
            refine xg_t (xg_lald (n := wo) (h93_91.fr hF108 (by decide)) xnm0 (by omega) hz112) ?_
            have hU113 : bU (fun j => rwv w 83 (20 + j)) (fun q => q) (rwv w 83 0) wo = l111 := ((hbd wo (by omega)).2.2.2.1).symm.trans ((rwk_of h93_91 (by omega)).trans hz112)
            have hl114 : 1 ≤ l111 ∧ l111 ≤ 117612 := by
              have q := bU_rg (r := (fun j => rwv w 83 (20 + j))) (o := (fun q => q)) (n := rwv w 83 0) (p := wo) (fun q hq => ⟨xMnv.lay hI (i := 0) hq (by decide), xMnv.lay hI (i := 1) hq (by decide)⟩) (by omega) hl0
              rw [hU113] at q
              exact q
            refine xg_klE (xg_lmul (u := l109) (v := l111)) (fun l115 hz116 => ?_)
            refine xg_t (xg_aload (va := (2, 82)) rfl rfl) ?_
            refine xg_t (xg_iload (va := (0, wo)) rfl rfl) ?_
            refine xg_t (xg_const) ?_
            have e3117 : rwv w105 83 = rwv w 83 := (rwf_eq (hF108.1 83 (by decide))).trans e83
            have e8118 : ∀ q, q < 6 → rwv w105 88 q = q := fun q hq => (rwv_eq (hF108.1 88 (by decide))).trans (ho88 q hq)
            refine xg_cVi mX12_layerOf (vs := [(0, wo), (0, 2)]) (rest := [(4, l115)]) (cn1 := 0) (sl1 := 0) rfl (mLayerOfX (hI107) (by omega) (by omega)) rfl (hF108.get (by decide) (hF75.get (by decide) h82_31)) rfl rfl rfl rfl rfl rfl (fun n123 w119 hq120 => ?_)
            obtain ⟨hn124, hI121, hF122⟩ := hq120
            have hM125 : bM (fun j => rwv w 83 (20 + j)) (fun q => q) wo = n123 := by
              rw [hn124, e3117, e8118 wo (by omega)]
              rfl
            have hl126 : 1 ≤ n123 ∧ n123 ≤ 99 := by
              have q := xMnv.lay hI (k := wo) (i := 2) (by omega) (by decide)
              have e : rwv w 83 (20 + (4 * wo + 2)) = n123 := hM125
              rw [e] at q
              exact q
            refine xg_t (xg_i2l (u := n123) xnm0) ?_
            refine xg_t (xg_lre (b := n123) (by rw [xlp_eq]; exact nI_l (by omega))) ?_
            refine xg_klE (xg_lmul (u := l115) (v := n123)) (fun l127 hz128 => ?_)
            refine xg_t (xg_aload (va := (2, 82)) rfl rfl) ?_
            refine xg_t (xg_getf (va := (2, 94)) (hF122.get (by decide) (hF108.get (by decide) (hF75.get (by decide) h82_31))) rfl) ?_
            refine xg_t (xg_iload (va := (0, wo)) rfl rfl) ?_
            obtain ⟨l129, hz130⟩ : ∃ z, g94_93 wo = z := ⟨_, rfl⟩
            refine xg_t (xg_lald (n := wo) ((h94_94.fr hF108 (by decide)).fr hF122 (by decide)) xnm0 (by omega) hz130) ?_
            have hU131 : lN l129 = bfr (fun j => rwv w 83 (20 + j)) (fun q => q) (rwv w 83 0) wo := by
              rw [← hz130, ← rwk_of (j := wo) h94_94 (by omega)]
              exact (hbd wo (by omega)).2.2.2.2
            refine xg_cSj mX12_size0 (vs := [(4, l129)]) (rest := [(4, l127)]) (cn1 := 0) (sl1 := 0) rfl (mSize0X (hI121)) rfl rfl rfl rfl rfl rfl rfl (fun l136 w132 hq133 => ?_)
            obtain ⟨hn137, hI134, hF135⟩ := hq133
            refine xg_t (xg_aload (va := (2, 82)) rfl rfl) ?_
            refine xg_t (xg_getf (va := (2, 93)) (hF135.get (by decide) (hF122.get (by decide) (hF108.get (by decide) (hF75.get (by decide) h82_31)))) rfl) ?_
            refine xg_t (xg_iload (va := (0, pi_)) rfl rfl) ?_
            obtain ⟨l138, hz139⟩ : ∃ z, g93_90 pi_ = z := ⟨_, rfl⟩
            refine xg_t (xg_lald (n := pi_) (((h93_91.fr hF108 (by decide)).fr hF122 (by decide)).fr hF135 (by decide)) xnm0 (by omega) hz139) ?_
            have hU140 : bU (fun j => rwv w 83 (20 + j)) (fun q => q) (rwv w 83 0) pi_ = l138 := ((hbd pi_ (by omega)).2.2.2.1).symm.trans ((rwk_of h93_91 (by omega)).trans hz139)
            have hl141 : 1 ≤ l138 ∧ l138 ≤ 117612 := by
              have q := bU_rg (r := (fun j => rwv w 83 (20 + j))) (o := (fun q => q)) (n := rwv w 83 0) (p := pi_) (fun q hq => ⟨xMnv.lay hI (i := 0) hq (by decide), xMnv.lay hI (i := 1) hq (by decide)⟩) (by omega) hl0
              rw [hU140] at q
              exact q
            refine xg_klE (xg_lmul (u := l136) (v := l138)) (fun l142 hz143 => ?_)
            refine xg_t (xg_aload (va := (2, 82)) rfl rfl) ?_
            refine xg_t (xg_iload (va := (0, pi_)) rfl rfl) ?_
            refine xg_t (xg_const) ?_
            have e3144 : rwv w132 83 = rwv w 83 := (rwf_eq ((hF135.1 83 (by decide)).trans ((hF122.1 83 (by decide)).trans (hF108.1 83 (by decide))))).trans e83
            have e8145 : ∀ q, q < 6 → rwv w132 88 q = q := fun q hq => (rwv_eq ((hF135.1 88 (by decide)).trans ((hF122.1 88 (by decide)).trans (hF108.1 88 (by decide))))).trans (ho88 q hq)
            refine xg_cVi mX12_layerOf (vs := [(0, pi_), (0, 2)]) (rest := [(4, l142), (4, l127)]) (cn1 := 0) (sl1 := 0) rfl (mLayerOfX (hI134) (by omega) (by omega)) rfl (hF135.get (by decide) (hF122.get (by decide) (hF108.get (by decide) (hF75.get (by decide) h82_31)))) rfl rfl rfl rfl rfl rfl (fun n150 w146 hq147 => ?_)
            obtain ⟨hn151, hI148, hF149⟩ := hq147
            have hM152 : bM (fun j => rwv w 83 (20 + j)) (fun q => q) pi_ = n150 := by
              rw [hn151, e3144, e8145 pi_ (by omega)]
              rfl
            have hl153 : 1 ≤ n150 ∧ n150 ≤ 99 := by
              have q := xMnv.lay hI (k := pi_) (i := 2) (by omega) (by decide)
              have e : rwv w 83 (20 + (4 * pi_ + 2)) = n150 := hM152
              rw [e] at q
              exact q
            refine xg_t (xg_i2l (u := n150) xnm0) ?_
            refine xg_t (xg_lre (b := n150) (by rw [xlp_eq]; exact nI_l (by omega))) ?_
            refine xg_klE (xg_lmul (u := l142) (v := n150)) (fun l154 hz155 => ?_)
            refine xg_t (xg_lcmp (u := l127) (v := l154)) ?_
            by_cases hc156 : lN l154 < lN l127
            · have hP157 : lN l127 = iab (bfr (fun j => rwv w 83 (20 + j)) (fun q => q) (rwv w 83 0) pi_) * lN (bM (fun j => rwv w 83 (20 + j)) (fun q => q) wo * bU (fun j => rwv w 83 (20 + j)) (fun q => q) (rwv w 83 0) wo) := by
                rw [hM125, hU113, ← hU104, ← hn110, ← i64_amu, ← hz116]
                exact hz128
              have hP158 : lN l154 = iab (bfr (fun j => rwv w 83 (20 + j)) (fun q => q) (rwv w 83 0) wo) * lN (bM (fun j => rwv w 83 (20 + j)) (fun q => q) pi_ * bU (fun j => rwv w 83 (20 + j)) (fun q => q) (rwv w 83 0) pi_) := by
                rw [hM152, hU140, ← hU131, ← hn137, ← i64_amu, ← hz143]
                exact hz155
              have hP159 : iab (bfr (fun j => rwv w 83 (20 + j)) (fun q => q) (rwv w 83 0) wo) * lN (bM (fun j => rwv w 83 (20 + j)) (fun q => q) pi_ * bU (fun j => rwv w 83 (20 + j)) (fun q => q) (rwv w 83 0) pi_) < iab (bfr (fun j => rwv w 83 (20 + j)) (fun q => q) (rwv w 83 0) pi_) * lN (bM (fun j => rwv w 83 (20 + j)) (fun q => q) wo * bU (fun j => rwv w 83 (20 + j)) (fun q => q) (rwv w 83 0) wo) := by
                rw [← hP157, ← hP158]
                exact hc156
              have hP160 : bwo (bM (fun j => rwv w 83 (20 + j)) (fun q => q)) (bU (fun j => rwv w 83 (20 + j)) (fun q => q) (rwv w 83 0)) (bfr (fun j => rwv w 83 (20 + j)) (fun q => q) (rwv w 83 0)) pi_ = pi_ := by
                clear hP157 hP158
                obtain ⟨k, hk⟩ : ∃ k, pi_ = k + 1 := ⟨pi_ - 1, by omega⟩
                have hc_ := hc80
                have hP_ := hP159
                rw [hk, Nat.add_sub_cancel] at hc_
                rw [hc_, hk] at hP_
                rw [hk, bwo_y hP_]
              refine xg_t (xg_ifF (u := xpt (lg_cmp (lN l127) (lN l154))) rfl xnm0 (xlj_leF hc156)) ?_
              refine xg_t (xg_iload (va := (0, pi_)) rfl rfl) ?_
              refine xg_t (xg_istore (l1 := [(0, (2, 82)), (1, (0, ro)), (3, (0, pi_))]) rfl rfl rfl) ?_
              refine xg_t (xg_blk (b := [(91, 3, 9, 3, 1, 0), (94, 3, 8, 27, 0, 0)]) rfl) ?_
              refine xg_t (xg_iinc (u := pi_) (z := pi_ + 1) (l1 := [(2, (0, pi_)), (0, (2, 82)), (1, (0, ro))]) rfl rfl (by omega) rfl) ?_
              refine xg_t (xg_goto) ?_
              refine xg_t (xg_drop (l1 := [(0, (2, 82)), (1, (0, ro)), (2, (0, pi_)), (3, (0, pi_ + 1))]) (List.forall_mem_cons.mpr ⟨List.mem_cons_of_mem _ (List.mem_cons_of_mem _ (List.mem_cons_self)), List.forall_mem_cons.mpr ⟨List.mem_cons_of_mem _ (List.mem_cons_of_mem _ (List.mem_cons_of_mem _ (List.mem_cons_self))), List.forall_mem_cons.mpr ⟨List.mem_cons_of_mem _ (List.mem_cons_self), List.forall_mem_cons.mpr ⟨List.mem_cons_self, fun _ h => absurd h List.not_mem_nil⟩⟩⟩⟩)) ?_
              have he161 : ∀ c, wget w146 c = wget w73 c := fun c => ((hF149.1 c List.not_mem_nil).trans ((hF135.1 c List.not_mem_nil).trans ((hF122.1 c List.not_mem_nil).trans (hF108.1 c List.not_mem_nil))))
              exact ih71 pi_ (pi_ + 1) w146 (by omega) (by omega) (by omega) (hI148) (((((hF75.tr (hF108.up (by decide))).tr (hF122.up (by decide))).tr (hF135.up (by decide))).tr (hF149.up (by decide)))) (⟨⟨hbd.kp (fun c _ _ => he161 c), fun q hq => (rwv_eq (he161 88)).trans (ho88 q hq), (rwf_eq (he161 83)).trans e83⟩, ⟨by rw [Nat.add_sub_cancel]; exact hP160.symm, by omega⟩, by omega, by omega⟩)
            · have hP162 : lN l127 = iab (bfr (fun j => rwv w 83 (20 + j)) (fun q => q) (rwv w 83 0) pi_) * lN (bM (fun j => rwv w 83 (20 + j)) (fun q => q) wo * bU (fun j => rwv w 83 (20 + j)) (fun q => q) (rwv w 83 0) wo) := by
                rw [hM125, hU113, ← hU104, ← hn110, ← i64_amu, ← hz116]
                exact hz128
              have hP163 : lN l154 = iab (bfr (fun j => rwv w 83 (20 + j)) (fun q => q) (rwv w 83 0) wo) * lN (bM (fun j => rwv w 83 (20 + j)) (fun q => q) pi_ * bU (fun j => rwv w 83 (20 + j)) (fun q => q) (rwv w 83 0) pi_) := by
                rw [hM152, hU140, ← hU131, ← hn137, ← i64_amu, ← hz143]
                exact hz155
              have hP164 : ¬ (iab (bfr (fun j => rwv w 83 (20 + j)) (fun q => q) (rwv w 83 0) wo) * lN (bM (fun j => rwv w 83 (20 + j)) (fun q => q) pi_ * bU (fun j => rwv w 83 (20 + j)) (fun q => q) (rwv w 83 0) pi_) < iab (bfr (fun j => rwv w 83 (20 + j)) (fun q => q) (rwv w 83 0) pi_) * lN (bM (fun j => rwv w 83 (20 + j)) (fun q => q) wo * bU (fun j => rwv w 83 (20 + j)) (fun q => q) (rwv w 83 0) wo)) := by
                rw [← hP162, ← hP163]
                exact hc156
              have hP165 : bwo (bM (fun j => rwv w 83 (20 + j)) (fun q => q)) (bU (fun j => rwv w 83 (20 + j)) (fun q => q) (rwv w 83 0)) (bfr (fun j => rwv w 83 (20 + j)) (fun q => q) (rwv w 83 0)) pi_ = wo := by
                clear hP162 hP163
                obtain ⟨k, hk⟩ : ∃ k, pi_ = k + 1 := ⟨pi_ - 1, by omega⟩
                have hc_ := hc80
                have hP_ := hP164
                rw [hk, Nat.add_sub_cancel] at hc_
                rw [hc_, hk] at hP_
                rw [hk, bwo_n hP_]
                exact hc_.symm
              refine xg_t (xg_ifT (u := xpt (lg_cmp (lN l127) (lN l154))) rfl xnm0 (xlj_leT hc156)) ?_
              refine xg_t (xg_blk (b := [(91, 3, 9, 3, 1, 0), (94, 3, 8, 27, 0, 0)]) rfl) ?_
              refine xg_t (xg_iinc (u := pi_) (z := pi_ + 1) (l1 := [(0, (2, 82)), (1, (0, ro)), (2, (0, wo))]) rfl rfl (by omega) rfl) ?_
              refine xg_t (xg_goto) ?_
              refine xg_t (xg_drop (l1 := [(0, (2, 82)), (1, (0, ro)), (2, (0, wo)), (3, (0, pi_ + 1))]) (List.forall_mem_cons.mpr ⟨List.mem_cons_of_mem _ (List.mem_cons_self), List.forall_mem_cons.mpr ⟨List.mem_cons_of_mem _ (List.mem_cons_of_mem _ (List.mem_cons_self)), List.forall_mem_cons.mpr ⟨List.mem_cons_of_mem _ (List.mem_cons_of_mem _ (List.mem_cons_of_mem _ (List.mem_cons_self))), List.forall_mem_cons.mpr ⟨List.mem_cons_self, fun _ h => absurd h List.not_mem_nil⟩⟩⟩⟩)) ?_
              have he166 : ∀ c, wget w146 c = wget w73 c := fun c => ((hF149.1 c List.not_mem_nil).trans ((hF135.1 c List.not_mem_nil).trans ((hF122.1 c List.not_mem_nil).trans (hF108.1 c List.not_mem_nil))))
              exact ih71 wo (pi_ + 1) w146 (by omega) (by omega) (by omega) (hI148) (((((hF75.tr (hF108.up (by decide))).tr (hF122.up (by decide))).tr (hF135.up (by decide))).tr (hF149.up (by decide)))) (⟨⟨hbd.kp (fun c _ _ => he166 c), fun q hq => (rwv_eq (he166 88)).trans (ho88 q hq), (rwf_eq (he166 83)).trans e83⟩, ⟨by rw [Nat.add_sub_cancel]; exact hP165.symm, by omega⟩, by omega, by omega⟩)
          · refine xg_t (xg_icT (u := pi_) (v := u96) rfl xnm0 xnm0 (xj_geT (by omega) (by omega))) ?_
            refine xg_t (xg_blk (b := [(97, 1, 2, 2, 0, 0), (98, 1, 12, 0, 1, 0)]) rfl) ?_
            refine xg_t (xg_iload (va := (0, wo)) rfl rfl) ?_
            exact xg_e ⟨wo, w73, ⟨rfl, rfl⟩, Or.inl ⟨by omega, hc80.trans (congrArg (bwo (bM (fun j => rwv w 83 (20 + j)) (fun q => q)) (bU (fun j => rwv w 83 (20 + j)) (fun q => q) (rwv w 83 0)) (bfr (fun j => rwv w 83 (20 + j)) (fun q => q) (rwv w 83 0))) (show pi_ - 1 = rwv w 83 0 - 1 by omega))⟩, hI74, hF75⟩
      exact key70 _ 0 1 w50 (Nat.lt_succ_self _) (by omega) (by omega) (hI52) (((hF46.up (by decide)).tr (hF53.up (by decide)))) (⟨⟨hbd, ho88, e83⟩, ⟨rfl, by omega⟩, by omega, by omega⟩)
end XBN
