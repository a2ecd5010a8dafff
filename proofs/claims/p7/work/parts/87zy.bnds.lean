/-! the class: what the calls say of the bend -/
section XBS
variable {d : Nat} {w : List (List xE)} {bd : List (Nat × Nat)} {fc : List (Nat × Nat × Bool)} {rr : Nat × Nat}
theorem scNeutralX {la : Nat} (hI : xInv w) (hla : la ≤ 4294967295) (ht : ∀ k i, k < fld w 4 3 → i < 3 → 1 ≤ rwv w 5 (4 * k + i) ∧ rwv w 5 (4 * k + i) ≤ 99) : xPi (d + 4) mX11_neutral [(2, 0), (0, la)] w bd fc rr (fun n w' => ((la < fld w 4 3 ∧ n = xpt (dvl (lN (1000 * bO (rwv w 5) (fun q => q) (fld w 4 3) la)) (lN (bU (rwv w 5) (fun q => q) (fld w 4 3) la))).toInt32) ∨ (¬ la < fld w 4 3 ∧ n = 4294967295)) ∧ xInv w' ∧ xFr [50, 51, 52, 53, 54, 55] w w') := by
  refine xPi.of ?_
  show xTo (d + 4) mX11_neutral (0, [], [(0, (2, 0)), (1, (0, la))], [], (w, bd, fc, 0, 0, rr)) (fun φ => ∃ n w', xEnd 1 [(0, n)] (w', bd, fc, 0, 0, rr) φ ∧ ((la < fld w 4 3 ∧ n = xpt (dvl (lN (1000 * bO (rwv w 5) (fun q => q) (fld w 4 3) la)) (lN (bU (rwv w 5) (fun q => q) (fld w 4 3) la))).toInt32) ∨ (¬ la < fld w 4 3 ∧ n = 4294967295)) ∧ xInv w' ∧ xFr [50, 51, 52, 53, 54, 55] w w')
  have h0_1 := (hI 0 (by decide) : cp0 (wget w 0))
  obtain ⟨f1_2, f1_4, f1_6, f1_8, f1_10, f1_12, h1_14, hb3, hb5, hb7, hb9, hb11, hb13⟩ := (hI 1 (by decide) : cp1 (wget w 1))
  obtain ⟨f3_15, f3_17, f3_19, f3_21, f3_23, h3_25, hb16, hb18, hb20, hb22, hb24⟩ := (hI 3 (by decide) : cp3 (wget w 3))
  obtain ⟨f4_26, h4_28, hb27⟩ := (hI 4 (by decide) : cp4 (wget w 4))
  obtain ⟨g5_29, h5_30, hb31⟩ := (hI 5 (by decide) : cpI 24 1 4294967295 (wget w 5))
  have h5_30 : xRow w 5 24 1 g5_29 := h5_30
  have q43 : fld w 4 3 = f4_26 := fld_of h4_28
  refine xg_t (xg_blk (b := [(0, 1, 0, 0, 0, 0), (1, 3, 1, 11, 0, 10), (4, 3, 1, 9, 4, 38), (7, 3, 1, 1, 0, 112), (10, 1, 2, 1, 0, 0), (11, 3, 13, 287, 40, 117), (14, 3, 7, 19, 1, 0), (17, 1, 3, 4294967295, 0, 0), (18, 1, 12, 0, 1, 0)]) rfl) ?_
  refine xg_t (xg_aload (va := (2, 0)) rfl rfl) ?_
  refine xg_t (xg_getf (va := (2, 1)) h0_1 rfl) ?_
  refine xg_t (xg_getf (va := (2, 3)) h1_14 rfl) ?_
  refine xg_t (xg_getf (va := (2, 4)) h3_25 rfl) ?_
  refine xg_t (xg_iload (va := (0, la)) rfl rfl) ?_
  refine xg_t (xg_cVr mX5_has (vs := [(0, la)]) (rest := []) (rs := [(0, if la < f4_26 then 1 else 0)]) (cn1 := 0) (sl1 := 0) rfl (rhas_ok h4_28 (by decide) (by omega) (by omega)) rfl h4_28 rfl rfl rfl rfl rfl rfl rfl) ?_
  by_cases hc32 : la < f4_26
  · refine xg_t (xg_ifT (u := (if la < f4_26 then 1 else 0)) rfl xnm0 (xj_neT (xite1 hc32))) ?_
    refine xg_t (xg_blk (b := [(19, 1, 0, 0, 0, 0), (20, 3, 1, 11, 4, 45), (23, 3, 13, 12, 0, 123), (26, 1, 0, 0, 0, 0), (27, 3, 1, 11, 4, 45), (30, 1, 2, 1, 0, 0), (31, 3, 13, 14, 0, 136), (34, 1, 12, 0, 1, 0)]) rfl) ?_
    refine xg_t (xg_aload (va := (2, 0)) rfl rfl) ?_
    refine xg_t (xg_getf (va := (2, 49)) h0_1 rfl) ?_
    obtain ⟨f49_33, f49_35, h49_37, hb34, hb36⟩ := (hI 49 (by decide) : cp49 (wget w 49))
    refine xg_cVv mX0_layAsTold (vs := []) (rest := []) (cn1 := 0) (sl1 := 0) rfl (bdToldX (hI) ht) rfl h49_37 rfl rfl rfl rfl rfl rfl (fun w38 hq39 => ?_)
    obtain ⟨hI40, hF41, hx42⟩ := hq39
    obtain ⟨hbd0, ho50⟩ := hx42
    have hbd : bdw w38 (rwv w 5) (fun q => q) (fld w 4 3) := hbd0
    have e5_ : rwv w38 5 = rwv w 5 := rwf_eq (hF41.1 5 (by decide))
    have e4_ : fld w38 4 3 = fld w 4 3 := fld_fr hF41 (by decide)
    have hmL : ∀ q, q < fld w 4 3 → rwv w38 50 q < fld w38 4 3 ∧ bM (rwv w38 5) (rwv w38 50) q ≤ 99 := fun q hq => by
      have q1 := ht q 2 hq (by decide)
      unfold bM
      rw [e5_, e4_, ho50 q (by omega)]
      exact ⟨hq, q1.2⟩
    have hmE : ∀ q, q < fld w 4 3 → bM (rwv w38 5) (rwv w38 50) q = bM (rwv w 5) (fun q => q) q ∧ bU (rwv w 5) (fun q => q) (fld w 4 3) q = bU (rwv w 5) (fun q => q) (fld w 4 3) q ∧ bfr (rwv w 5) (fun q => q) (fld w 4 3) q = bfr (rwv w 5) (fun q => q) (fld w 4 3) q := fun q hq => ⟨by unfold bM; rw [e5_, ho50 q (by omega)], rfl, rfl⟩
    refine xg_t (xg_aload (va := (2, 0)) rfl rfl) ?_
    refine xg_t (xg_getf (va := (2, 49)) (hF41.get (by decide) h0_1) rfl) ?_
    refine xg_t (xg_iload (va := (0, la)) rfl rfl) ?_
    refine xg_cVi mX0_neutralThousandths (vs := [(0, la)]) (rest := []) (cn1 := 0) (sl1 := 0) rfl (bdNeutralX (hI40) (by omega) hbd (by omega)) rfl (hF41.get (by decide) h49_37) rfl rfl rfl rfl rfl rfl (fun n47 w43 hq44 => ?_)
    obtain ⟨hn48, hI45, hF46⟩ := hq44
    exact xg_e ⟨n47, w43, ⟨rfl, rfl⟩, Or.inl ⟨by omega, hn48⟩, hI45, ((hF41.up (by decide)).tr (hF46.up (by decide)))⟩
  · refine xg_t (xg_ifF (u := (if la < f4_26 then 1 else 0)) rfl xnm0 (xj_neF (xite0 hc32))) ?_
    refine xg_t (xg_const) ?_
    exact xg_e ⟨4294967295, w, ⟨rfl, rfl⟩, Or.inr ⟨by omega, rfl⟩, hI, xFr.rf⟩
theorem scStretchX {la ro : Nat} (hI : xInv w) (hla : la ≤ 4294967295) (hro : ro ≤ 4294967295) (ht : ∀ k i, k < fld w 4 3 → i < 3 → 1 ≤ rwv w 5 (4 * k + i) ∧ rwv w 5 (4 * k + i) ≤ 99) : xPi (d + 4) mX11_stretch [(2, 0), (0, la), (0, ro)] w bd fc rr (fun n w' => (((la < fld w 4 3 ∧ 1 ≤ ro ∧ ro ≤ 9999) ∧ n = xpt (dvl (lN 1000000 * (bfr (rwv w 5) (fun q => q) (fld w 4 3) la)) (lN (ro * (bU (rwv w 5) (fun q => q) (fld w 4 3) la)))).toInt32) ∨ (¬ (la < fld w 4 3 ∧ 1 ≤ ro ∧ ro ≤ 9999) ∧ n = 2294967296)) ∧ xInv w' ∧ xFr [50, 51, 52, 53, 54, 55] w w') := by
  refine xPi.of ?_
  show xTo (d + 4) mX11_stretch (0, [], [(0, (2, 0)), (1, (0, la)), (2, (0, ro))], [], (w, bd, fc, 0, 0, rr)) (fun φ => ∃ n w', xEnd 1 [(0, n)] (w', bd, fc, 0, 0, rr) φ ∧ (((la < fld w 4 3 ∧ 1 ≤ ro ∧ ro ≤ 9999) ∧ n = xpt (dvl (lN 1000000 * (bfr (rwv w 5) (fun q => q) (fld w 4 3) la)) (lN (ro * (bU (rwv w 5) (fun q => q) (fld w 4 3) la)))).toInt32) ∨ (¬ (la < fld w 4 3 ∧ 1 ≤ ro ∧ ro ≤ 9999) ∧ n = 2294967296)) ∧ xInv w' ∧ xFr [50, 51, 52, 53, 54, 55] w w')
  have h0_1 := (hI 0 (by decide) : cp0 (wget w 0))
  obtain ⟨f1_2, f1_4, f1_6, f1_8, f1_10, f1_12, h1_14, hb3, hb5, hb7, hb9, hb11, hb13⟩ := (hI 1 (by decide) : cp1 (wget w 1))
  obtain ⟨f3_15, f3_17, f3_19, f3_21, f3_23, h3_25, hb16, hb18, hb20, hb22, hb24⟩ := (hI 3 (by decide) : cp3 (wget w 3))
  obtain ⟨f4_26, h4_28, hb27⟩ := (hI 4 (by decide) : cp4 (wget w 4))
  obtain ⟨g5_29, h5_30, hb31⟩ := (hI 5 (by decide) : cpI 24 1 4294967295 (wget w 5))
  have h5_30 : xRow w 5 24 1 g5_29 := h5_30
  have q43 : fld w 4 3 = f4_26 := fld_of h4_28
  refine xg_t (xg_blk (b := [(0, 1, 0, 0, 0, 0), (1, 3, 1, 11, 0, 10), (4, 3, 1, 9, 4, 38), (7, 3, 1, 1, 0, 112), (10, 1, 2, 1, 0, 0), (11, 3, 13, 287, 40, 117), (14, 3, 7, 24, 0, 0), (17, 1, 2, 2, 0, 0), (18, 3, 13, 71, 90, 140), (21, 3, 7, 27, 1, 0)]) rfl) ?_
  refine xg_t (xg_aload (va := (2, 0)) rfl rfl) ?_
  refine xg_t (xg_getf (va := (2, 1)) h0_1 rfl) ?_
  refine xg_t (xg_getf (va := (2, 3)) h1_14 rfl) ?_
  refine xg_t (xg_getf (va := (2, 4)) h3_25 rfl) ?_
  refine xg_t (xg_iload (va := (0, la)) rfl rfl) ?_
  refine xg_t (xg_cVr mX5_has (vs := [(0, la)]) (rest := []) (rs := [(0, if la < f4_26 then 1 else 0)]) (cn1 := 0) (sl1 := 0) rfl (rhas_ok h4_28 (by decide) (by omega) (by omega)) rfl h4_28 rfl rfl rfl rfl rfl rfl rfl) ?_
  by_cases hc32 : la < f4_26
  · refine xg_t (xg_ifF (u := (if la < f4_26 then 1 else 0)) rfl xnm0 (xj_eqF (xite1 hc32))) ?_
    refine xg_t (xg_iload (va := (0, ro)) rfl rfl) ?_
    refine xg_t (xg_cSr mX11_isRound (vs := [(0, ro)]) (rest := []) (rs := [(0, if 1 ≤ ro ∧ ro ≤ 9999 then 1 else 0)]) (cn1 := 0) (sl1 := 0) rfl (isRound_ok (by omega)) rfl rfl rfl rfl rfl rfl rfl rfl) ?_
    by_cases hc33 : 1 ≤ ro ∧ ro ≤ 9999
    · refine xg_t (xg_ifT (u := (if 1 ≤ ro ∧ ro ≤ 9999 then 1 else 0)) rfl xnm0 (xj_neT (xite1 hc33))) ?_
      refine xg_t (xg_blk (b := [(27, 1, 0, 0, 0, 0), (28, 3, 1, 11, 4, 45), (31, 3, 13, 12, 0, 123), (34, 1, 0, 0, 0, 0), (35, 3, 1, 11, 4, 45), (38, 1, 2, 1, 0, 0), (39, 1, 2, 2, 0, 0), (40, 3, 13, 18, 0, 144), (43, 1, 12, 0, 1, 0)]) rfl) ?_
      refine xg_t (xg_aload (va := (2, 0)) rfl rfl) ?_
      refine xg_t (xg_getf (va := (2, 49)) h0_1 rfl) ?_
      obtain ⟨f49_34, f49_36, h49_38, hb35, hb37⟩ := (hI 49 (by decide) : cp49 (wget w 49))
      refine xg_cVv mX0_layAsTold (vs := []) (rest := []) (cn1 := 0) (sl1 := 0) rfl (bdToldX (hI) ht) rfl h49_38 rfl rfl rfl rfl rfl rfl (fun w39 hq40 => ?_)
      obtain ⟨hI41, hF42, hx43⟩ := hq40
      obtain ⟨hbd0, ho50⟩ := hx43
      have hbd : bdw w39 (rwv w 5) (fun q => q) (fld w 4 3) := hbd0
      have e5_ : rwv w39 5 = rwv w 5 := rwf_eq (hF42.1 5 (by decide))
      have e4_ : fld w39 4 3 = fld w 4 3 := fld_fr hF42 (by decide)
      have hmL : ∀ q, q < fld w 4 3 → rwv w39 50 q < fld w39 4 3 ∧ bM (rwv w39 5) (rwv w39 50) q ≤ 99 := fun q hq => by
        have q1 := ht q 2 hq (by decide)
        unfold bM
        rw [e5_, e4_, ho50 q (by omega)]
        exact ⟨hq, q1.2⟩
      have hmE : ∀ q, q < fld w 4 3 → bM (rwv w39 5) (rwv w39 50) q = bM (rwv w 5) (fun q => q) q ∧ bU (rwv w 5) (fun q => q) (fld w 4 3) q = bU (rwv w 5) (fun q => q) (fld w 4 3) q ∧ bfr (rwv w 5) (fun q => q) (fld w 4 3) q = bfr (rwv w 5) (fun q => q) (fld w 4 3) q := fun q hq => ⟨by unfold bM; rw [e5_, ho50 q (by omega)], rfl, rfl⟩
      refine xg_t (xg_aload (va := (2, 0)) rfl rfl) ?_
      refine xg_t (xg_getf (va := (2, 49)) (hF42.get (by decide) h0_1) rfl) ?_
      refine xg_t (xg_iload (va := (0, la)) rfl rfl) ?_
      refine xg_t (xg_iload (va := (0, ro)) rfl rfl) ?_
      refine xg_cVi mX0_stretchMillionths (vs := [(0, la), (0, ro)]) (rest := []) (cn1 := 0) (sl1 := 0) rfl (bdStretchX (hI41) (by omega) (by omega) hbd (by omega)) rfl (hF42.get (by decide) h49_38) rfl rfl rfl rfl rfl rfl (fun n48 w44 hq45 => ?_)
      obtain ⟨hn49, hI46, hF47⟩ := hq45
      exact xg_e ⟨n48, w44, ⟨rfl, rfl⟩, Or.inl ⟨by omega, hn49⟩, hI46, ((hF42.up (by decide)).tr (hF47.up (by decide)))⟩
    · refine xg_t (xg_ifF (u := (if 1 ≤ ro ∧ ro ≤ 9999 then 1 else 0)) rfl xnm0 (xj_neF (xite0 hc33))) ?_
      refine xg_t (xg_blk (b := [(24, 2, 35, 2294967296, 0, 143), (26, 1, 12, 0, 1, 0)]) rfl) ?_
      refine xg_t (xg_ldc) ?_
      exact xg_e ⟨2294967296, w, ⟨rfl, rfl⟩, Or.inr ⟨by omega, rfl⟩, hI, xFr.rf⟩
  · refine xg_t (xg_ifT (u := (if la < f4_26 then 1 else 0)) rfl xnm0 (xj_eqT (xite0 hc32))) ?_
    refine xg_t (xg_blk (b := [(24, 2, 35, 2294967296, 0, 143), (26, 1, 12, 0, 1, 0)]) rfl) ?_
    refine xg_t (xg_ldc) ?_
    exact xg_e ⟨2294967296, w, ⟨rfl, rfl⟩, Or.inr ⟨by omega, rfl⟩, hI, xFr.rf⟩
theorem scBearsX {la ro : Nat} (hI : xInv w) (hla : la ≤ 4294967295) (hro : ro ≤ 4294967295) (ht : ∀ k i, k < fld w 4 3 → i < 3 → 1 ≤ rwv w 5 (4 * k + i) ∧ rwv w 5 (4 * k + i) ≤ 99) : xPi (d + 4) mX11_bears [(2, 0), (0, la), (0, ro)] w bd fc rr (fun n w' => (((la < fld w 4 3 ∧ 1 ≤ ro ∧ ro ≤ 9999) ∧ ((n = 1 ∧ ¬ (lN (ro * (bM (rwv w 5) (fun q => q) la * (bU (rwv w 5) (fun q => q) (fld w 4 3) la))) < lN 1000 * iab (bfr (rwv w 5) (fun q => q) (fld w 4 3) la))) ∨ (n = 0 ∧ lN (ro * (bM (rwv w 5) (fun q => q) la * (bU (rwv w 5) (fun q => q) (fld w 4 3) la))) < lN 1000 * iab (bfr (rwv w 5) (fun q => q) (fld w 4 3) la)))) ∨ (¬ (la < fld w 4 3 ∧ 1 ≤ ro ∧ ro ≤ 9999) ∧ n = 0)) ∧ xInv w' ∧ xFr [50, 51, 52, 53, 54, 55] w w') := by
  refine xPi.of ?_
  show xTo (d + 4) mX11_bears (0, [], [(0, (2, 0)), (1, (0, la)), (2, (0, ro))], [], (w, bd, fc, 0, 0, rr)) (fun φ => ∃ n w', xEnd 4 [(0, n)] (w', bd, fc, 0, 0, rr) φ ∧ (((la < fld w 4 3 ∧ 1 ≤ ro ∧ ro ≤ 9999) ∧ ((n = 1 ∧ ¬ (lN (ro * (bM (rwv w 5) (fun q => q) la * (bU (rwv w 5) (fun q => q) (fld w 4 3) la))) < lN 1000 * iab (bfr (rwv w 5) (fun q => q) (fld w 4 3) la))) ∨ (n = 0 ∧ lN (ro * (bM (rwv w 5) (fun q => q) la * (bU (rwv w 5) (fun q => q) (fld w 4 3) la))) < lN 1000 * iab (bfr (rwv w 5) (fun q => q) (fld w 4 3) la)))) ∨ (¬ (la < fld w 4 3 ∧ 1 ≤ ro ∧ ro ≤ 9999) ∧ n = 0)) ∧ xInv w' ∧ xFr [50, 51, 52, 53, 54, 55] w w')
  have h0_1 := (hI 0 (by decide) : cp0 (wget w 0))
  obtain ⟨f1_2, f1_4, f1_6, f1_8, f1_10, f1_12, h1_14, hb3, hb5, hb7, hb9, hb11, hb13⟩ := (hI 1 (by decide) : cp1 (wget w 1))
  obtain ⟨f3_15, f3_17, f3_19, f3_21, f3_23, h3_25, hb16, hb18, hb20, hb22, hb24⟩ := (hI 3 (by decide) : cp3 (wget w 3))
  obtain ⟨f4_26, h4_28, hb27⟩ := (hI 4 (by decide) : cp4 (wget w 4))
  obtain ⟨g5_29, h5_30, hb31⟩ := (hI 5 (by decide) : cpI 24 1 4294967295 (wget w 5))
  have h5_30 : xRow w 5 24 1 g5_29 := h5_30
  have q43 : fld w 4 3 = f4_26 := fld_of h4_28
  refine xg_t (xg_blk (b := [(0, 1, 0, 0, 0, 0), (1, 3, 1, 11, 0, 10), (4, 3, 1, 9, 4, 38), (7, 3, 1, 1, 0, 112), (10, 1, 2, 1, 0, 0), (11, 3, 13, 287, 40, 117), (14, 3, 7, 24, 0, 0), (17, 1, 2, 2, 0, 0), (18, 3, 13, 71, 90, 140), (21, 3, 7, 26, 1, 0)]) rfl) ?_
  refine xg_t (xg_aload (va := (2, 0)) rfl rfl) ?_
  refine xg_t (xg_getf (va := (2, 1)) h0_1 rfl) ?_
  refine xg_t (xg_getf (va := (2, 3)) h1_14 rfl) ?_
  refine xg_t (xg_getf (va := (2, 4)) h3_25 rfl) ?_
  refine xg_t (xg_iload (va := (0, la)) rfl rfl) ?_
  refine xg_t (xg_cVr mX5_has (vs := [(0, la)]) (rest := []) (rs := [(0, if la < f4_26 then 1 else 0)]) (cn1 := 0) (sl1 := 0) rfl (rhas_ok h4_28 (by decide) (by omega) (by omega)) rfl h4_28 rfl rfl rfl rfl rfl rfl rfl) ?_
  by_cases hc32 : la < f4_26
  · refine xg_t (xg_ifF (u := (if la < f4_26 then 1 else 0)) rfl xnm0 (xj_eqF (xite1 hc32))) ?_
    refine xg_t (xg_iload (va := (0, ro)) rfl rfl) ?_
    refine xg_t (xg_cSr mX11_isRound (vs := [(0, ro)]) (rest := []) (rs := [(0, if 1 ≤ ro ∧ ro ≤ 9999 then 1 else 0)]) (cn1 := 0) (sl1 := 0) rfl (isRound_ok (by omega)) rfl rfl rfl rfl rfl rfl rfl rfl) ?_
    by_cases hc33 : 1 ≤ ro ∧ ro ≤ 9999
    · refine xg_t (xg_ifT (u := (if 1 ≤ ro ∧ ro ≤ 9999 then 1 else 0)) rfl xnm0 (xj_neT (xite1 hc33))) ?_
      refine xg_t (xg_blk (b := [(26, 1, 0, 0, 0, 0), (27, 3, 1, 11, 4, 45), (30, 3, 13, 12, 0, 123), (33, 1, 0, 0, 0, 0), (34, 3, 1, 11, 4, 45), (37, 1, 2, 1, 0, 0), (38, 1, 2, 2, 0, 0), (39, 3, 13, 5, 0, 147), (42, 1, 12, 0, 1, 0)]) rfl) ?_
      refine xg_t (xg_aload (va := (2, 0)) rfl rfl) ?_
      refine xg_t (xg_getf (va := (2, 49)) h0_1 rfl) ?_
      obtain ⟨f49_34, f49_36, h49_38, hb35, hb37⟩ := (hI 49 (by decide) : cp49 (wget w 49))
      refine xg_cVv mX0_layAsTold (vs := []) (rest := []) (cn1 := 0) (sl1 := 0) rfl (bdToldX (hI) ht) rfl h49_38 rfl rfl rfl rfl rfl rfl (fun w39 hq40 => ?_)
      obtain ⟨hI41, hF42, hx43⟩ := hq40
      obtain ⟨hbd0, ho50⟩ := hx43
      have hbd : bdw w39 (rwv w 5) (fun q => q) (fld w 4 3) := hbd0
      have e5_ : rwv w39 5 = rwv w 5 := rwf_eq (hF42.1 5 (by decide))
      have e4_ : fld w39 4 3 = fld w 4 3 := fld_fr hF42 (by decide)
      have hmL : ∀ q, q < fld w 4 3 → rwv w39 50 q < fld w39 4 3 ∧ bM (rwv w39 5) (rwv w39 50) q ≤ 99 := fun q hq => by
        have q1 := ht q 2 hq (by decide)
        unfold bM
        rw [e5_, e4_, ho50 q (by omega)]
        exact ⟨hq, q1.2⟩
      have hmE : ∀ q, q < fld w 4 3 → bM (rwv w39 5) (rwv w39 50) q = bM (rwv w 5) (fun q => q) q ∧ bU (rwv w 5) (fun q => q) (fld w 4 3) q = bU (rwv w 5) (fun q => q) (fld w 4 3) q ∧ bfr (rwv w 5) (fun q => q) (fld w 4 3) q = bfr (rwv w 5) (fun q => q) (fld w 4 3) q := fun q hq => ⟨by unfold bM; rw [e5_, ho50 q (by omega)], rfl, rfl⟩
      refine xg_t (xg_aload (va := (2, 0)) rfl rfl) ?_
      refine xg_t (xg_getf (va := (2, 49)) (hF42.get (by decide) h0_1) rfl) ?_
      refine xg_t (xg_iload (va := (0, la)) rfl rfl) ?_
      refine xg_t (xg_iload (va := (0, ro)) rfl rfl) ?_
      refine xg_cVi mX0_canBear (vs := [(0, la), (0, ro)]) (rest := []) (cn1 := 0) (sl1 := 0) rfl (bdCanBearX (hI41) (by omega) (by omega) hbd (by omega) hmL) rfl (hF42.get (by decide) h49_38) rfl rfl rfl rfl rfl rfl (fun n48 w44 hq45 => ?_)
      obtain ⟨hn49, hI46, hF47⟩ := hq45
      have hk50 := hn49
      rw [(hmE la (by omega)).1] at hk50
      exact xg_e ⟨n48, w44, ⟨xret_b (by omega), rfl⟩, Or.inl ⟨by omega, hk50⟩, hI46, ((hF42.up (by decide)).tr (hF47.up (by decide)))⟩
    · refine xg_t (xg_ifF (u := (if 1 ≤ ro ∧ ro ≤ 9999 then 1 else 0)) rfl xnm0 (xj_neF (xite0 hc33))) ?_
      refine xg_t (xg_blk (b := [(24, 1, 3, 0, 0, 0), (25, 1, 12, 0, 1, 0)]) rfl) ?_
      refine xg_t (xg_const) ?_
      exact xg_e ⟨0, w, ⟨rfl, rfl⟩, Or.inr ⟨by omega, rfl⟩, hI, xFr.rf⟩
  · refine xg_t (xg_ifT (u := (if la < f4_26 then 1 else 0)) rfl xnm0 (xj_eqT (xite0 hc32))) ?_
    refine xg_t (xg_blk (b := [(24, 1, 3, 0, 0, 0), (25, 1, 12, 0, 1, 0)]) rfl) ?_
    refine xg_t (xg_const) ?_
    exact xg_e ⟨0, w, ⟨rfl, rfl⟩, Or.inr ⟨by omega, rfl⟩, hI, xFr.rf⟩
theorem scLeastX (hI : xInv w) (ht : ∀ k i, k < fld w 4 3 → i < 3 → 1 ≤ rwv w 5 (4 * k + i) ∧ rwv w 5 (4 * k + i) ≤ 99) : xPi (d + 4) mX11_least [(2, 0)] w bd fc rr (fun n w' => ((0 < fld w 4 3 ∧ n = bce (bM (rwv w 5) (fun q => q)) (bU (rwv w 5) (fun q => q) (fld w 4 3)) (bfr (rwv w 5) (fun q => q) (fld w 4 3)) (fld w 4 3)) ∨ (fld w 4 3 = 0 ∧ n = 4294967295)) ∧ xInv w' ∧ xFr [50, 51, 52, 53, 54, 55] w w') := by
  refine xPi.of ?_
  show xTo (d + 4) mX11_least (0, [], [(0, (2, 0))], [], (w, bd, fc, 0, 0, rr)) (fun φ => ∃ n w', xEnd 1 [(0, n)] (w', bd, fc, 0, 0, rr) φ ∧ ((0 < fld w 4 3 ∧ n = bce (bM (rwv w 5) (fun q => q)) (bU (rwv w 5) (fun q => q) (fld w 4 3)) (bfr (rwv w 5) (fun q => q) (fld w 4 3)) (fld w 4 3)) ∨ (fld w 4 3 = 0 ∧ n = 4294967295)) ∧ xInv w' ∧ xFr [50, 51, 52, 53, 54, 55] w w')
  have h0_1 := (hI 0 (by decide) : cp0 (wget w 0))
  obtain ⟨f1_2, f1_4, f1_6, f1_8, f1_10, f1_12, h1_14, hb3, hb5, hb7, hb9, hb11, hb13⟩ := (hI 1 (by decide) : cp1 (wget w 1))
  obtain ⟨f3_15, f3_17, f3_19, f3_21, f3_23, h3_25, hb16, hb18, hb20, hb22, hb24⟩ := (hI 3 (by decide) : cp3 (wget w 3))
  obtain ⟨f4_26, h4_28, hb27⟩ := (hI 4 (by decide) : cp4 (wget w 4))
  obtain ⟨g5_29, h5_30, hb31⟩ := (hI 5 (by decide) : cpI 24 1 4294967295 (wget w 5))
  have h5_30 : xRow w 5 24 1 g5_29 := h5_30
  have q43 : fld w 4 3 = f4_26 := fld_of h4_28
  refine xg_t (xg_blk (b := [(0, 1, 0, 0, 0, 0), (1, 3, 1, 11, 0, 10), (4, 3, 1, 9, 4, 38), (7, 3, 1, 1, 0, 112), (10, 3, 1, 5, 3, 151), (13, 3, 7, 18, 1, 0), (16, 1, 3, 4294967295, 0, 0), (17, 1, 12, 0, 1, 0)]) rfl) ?_
  refine xg_t (xg_aload (va := (2, 0)) rfl rfl) ?_
  refine xg_t (xg_getf (va := (2, 1)) h0_1 rfl) ?_
  refine xg_t (xg_getf (va := (2, 3)) h1_14 rfl) ?_
  refine xg_t (xg_getf (va := (2, 4)) h3_25 rfl) ?_
  refine xg_t (xg_getf (va := (0, f4_26)) h4_28 rfl) ?_
  by_cases hc32 : f4_26 = 0
  · refine xg_t (xg_ifF (u := f4_26) rfl xnm0 (xj_neF hc32)) ?_
    refine xg_t (xg_const) ?_
    exact xg_e ⟨4294967295, w, ⟨rfl, rfl⟩, Or.inr ⟨by omega, rfl⟩, hI, xFr.rf⟩
  · refine xg_t (xg_ifT (u := f4_26) rfl xnm0 (xj_neT hc32)) ?_
    refine xg_t (xg_blk (b := [(18, 1, 0, 0, 0, 0), (19, 3, 1, 11, 4, 45), (22, 3, 13, 12, 0, 123), (25, 1, 0, 0, 0, 0), (26, 3, 1, 11, 4, 45), (29, 3, 13, 13, 0, 154), (32, 1, 12, 0, 1, 0)]) rfl) ?_
    refine xg_t (xg_aload (va := (2, 0)) rfl rfl) ?_
    refine xg_t (xg_getf (va := (2, 49)) h0_1 rfl) ?_
    obtain ⟨f49_33, f49_35, h49_37, hb34, hb36⟩ := (hI 49 (by decide) : cp49 (wget w 49))
    refine xg_cVv mX0_layAsTold (vs := []) (rest := []) (cn1 := 0) (sl1 := 0) rfl (bdToldX (hI) ht) rfl h49_37 rfl rfl rfl rfl rfl rfl (fun w38 hq39 => ?_)
    obtain ⟨hI40, hF41, hx42⟩ := hq39
    obtain ⟨hbd0, ho50⟩ := hx42
    have hbd : bdw w38 (rwv w 5) (fun q => q) (fld w 4 3) := hbd0
    have e5_ : rwv w38 5 = rwv w 5 := rwf_eq (hF41.1 5 (by decide))
    have e4_ : fld w38 4 3 = fld w 4 3 := fld_fr hF41 (by decide)
    have hmL : ∀ q, q < fld w 4 3 → rwv w38 50 q < fld w38 4 3 ∧ bM (rwv w38 5) (rwv w38 50) q ≤ 99 := fun q hq => by
      have q1 := ht q 2 hq (by decide)
      unfold bM
      rw [e5_, e4_, ho50 q (by omega)]
      exact ⟨hq, q1.2⟩
    have hmE : ∀ q, q < fld w 4 3 → bM (rwv w38 5) (rwv w38 50) q = bM (rwv w 5) (fun q => q) q ∧ bU (rwv w 5) (fun q => q) (fld w 4 3) q = bU (rwv w 5) (fun q => q) (fld w 4 3) q ∧ bfr (rwv w 5) (fun q => q) (fld w 4 3) q = bfr (rwv w 5) (fun q => q) (fld w 4 3) q := fun q hq => ⟨by unfold bM; rw [e5_, ho50 q (by omega)], rfl, rfl⟩
    refine xg_t (xg_aload (va := (2, 0)) rfl rfl) ?_
    refine xg_t (xg_getf (va := (2, 49)) (hF41.get (by decide) h0_1) rfl) ?_
    refine xg_cVi mX0_leastRound (vs := []) (rest := []) (cn1 := 0) (sl1 := 0) rfl (bdLeastX (hI40) hbd hmL e4_) rfl (hF41.get (by decide) h49_37) rfl rfl rfl rfl rfl rfl (fun n47 w43 hq44 => ?_)
    obtain ⟨hn48, hI45, hF46⟩ := hq44
    exact xg_e ⟨n47, w43, ⟨rfl, rfl⟩, Or.inl ⟨by omega, hn48.trans (bce_cg hmE)⟩, hI45, ((hF41.up (by decide)).tr (hF46.up (by decide)))⟩
theorem scWorstX {ro : Nat} (hI : xInv w) (hro : ro ≤ 4294967295) (ht : ∀ k i, k < fld w 4 3 → i < 3 → 1 ≤ rwv w 5 (4 * k + i) ∧ rwv w 5 (4 * k + i) ≤ 99) : xPi (d + 4) mX11_worst [(2, 0), (0, ro)] w bd fc rr (fun n w' => (((0 < fld w 4 3 ∧ 1 ≤ ro ∧ ro ≤ 9999) ∧ n = bwo (bM (rwv w 5) (fun q => q)) (bU (rwv w 5) (fun q => q) (fld w 4 3)) (bfr (rwv w 5) (fun q => q) (fld w 4 3)) ((fld w 4 3) - 1)) ∨ (¬ (0 < fld w 4 3 ∧ 1 ≤ ro ∧ ro ≤ 9999) ∧ n = 4294967295)) ∧ xInv w' ∧ xFr [50, 51, 52, 53, 54, 55] w w') := by
  refine xPi.of ?_
  show xTo (d + 4) mX11_worst (0, [], [(0, (2, 0)), (1, (0, ro))], [], (w, bd, fc, 0, 0, rr)) (fun φ => ∃ n w', xEnd 1 [(0, n)] (w', bd, fc, 0, 0, rr) φ ∧ (((0 < fld w 4 3 ∧ 1 ≤ ro ∧ ro ≤ 9999) ∧ n = bwo (bM (rwv w 5) (fun q => q)) (bU (rwv w 5) (fun q => q) (fld w 4 3)) (bfr (rwv w 5) (fun q => q) (fld w 4 3)) ((fld w 4 3) - 1)) ∨ (¬ (0 < fld w 4 3 ∧ 1 ≤ ro ∧ ro ≤ 9999) ∧ n = 4294967295)) ∧ xInv w' ∧ xFr [50, 51, 52, 53, 54, 55] w w')
  have h0_1 := (hI 0 (by decide) : cp0 (wget w 0))
  obtain ⟨f1_2, f1_4, f1_6, f1_8, f1_10, f1_12, h1_14, hb3, hb5, hb7, hb9, hb11, hb13⟩ := (hI 1 (by decide) : cp1 (wget w 1))
  obtain ⟨f3_15, f3_17, f3_19, f3_21, f3_23, h3_25, hb16, hb18, hb20, hb22, hb24⟩ := (hI 3 (by decide) : cp3 (wget w 3))
  obtain ⟨f4_26, h4_28, hb27⟩ := (hI 4 (by decide) : cp4 (wget w 4))
  obtain ⟨g5_29, h5_30, hb31⟩ := (hI 5 (by decide) : cpI 24 1 4294967295 (wget w 5))
  have h5_30 : xRow w 5 24 1 g5_29 := h5_30
  have q43 : fld w 4 3 = f4_26 := fld_of h4_28
  refine xg_t (xg_blk (b := [(0, 1, 0, 0, 0, 0), (1, 3, 1, 11, 0, 10), (4, 3, 1, 9, 4, 38), (7, 3, 1, 1, 0, 112), (10, 3, 1, 5, 3, 151), (13, 3, 7, 23, 0, 0), (16, 1, 2, 1, 0, 0), (17, 3, 13, 71, 90, 140), (20, 3, 7, 25, 1, 0)]) rfl) ?_
  refine xg_t (xg_aload (va := (2, 0)) rfl rfl) ?_
  refine xg_t (xg_getf (va := (2, 1)) h0_1 rfl) ?_
  refine xg_t (xg_getf (va := (2, 3)) h1_14 rfl) ?_
  refine xg_t (xg_getf (va := (2, 4)) h3_25 rfl) ?_
  refine xg_t (xg_getf (va := (0, f4_26)) h4_28 rfl) ?_
  by_cases hc32 : f4_26 = 0
  · refine xg_t (xg_ifT (u := f4_26) rfl xnm0 (xj_eqT hc32)) ?_
    refine xg_t (xg_blk (b := [(23, 1, 3, 4294967295, 0, 0), (24, 1, 12, 0, 1, 0)]) rfl) ?_
    refine xg_t (xg_const) ?_
    exact xg_e ⟨4294967295, w, ⟨rfl, rfl⟩, Or.inr ⟨by omega, rfl⟩, hI, xFr.rf⟩
  · refine xg_t (xg_ifF (u := f4_26) rfl xnm0 (xj_eqF hc32)) ?_
    refine xg_t (xg_iload (va := (0, ro)) rfl rfl) ?_
    refine xg_t (xg_cSr mX11_isRound (vs := [(0, ro)]) (rest := []) (rs := [(0, if 1 ≤ ro ∧ ro ≤ 9999 then 1 else 0)]) (cn1 := 0) (sl1 := 0) rfl (isRound_ok (by omega)) rfl rfl rfl rfl rfl rfl rfl rfl) ?_
    by_cases hc33 : 1 ≤ ro ∧ ro ≤ 9999
    · refine xg_t (xg_ifT (u := (if 1 ≤ ro ∧ ro ≤ 9999 then 1 else 0)) rfl xnm0 (xj_neT (xite1 hc33))) ?_
      refine xg_t (xg_blk (b := [(25, 1, 0, 0, 0, 0), (26, 3, 1, 11, 4, 45), (29, 3, 13, 12, 0, 123), (32, 1, 0, 0, 0, 0), (33, 3, 1, 11, 4, 45), (36, 3, 13, 24, 0, 157), (39, 1, 12, 0, 1, 0)]) rfl) ?_
      refine xg_t (xg_aload (va := (2, 0)) rfl rfl) ?_
      refine xg_t (xg_getf (va := (2, 49)) h0_1 rfl) ?_
      obtain ⟨f49_34, f49_36, h49_38, hb35, hb37⟩ := (hI 49 (by decide) : cp49 (wget w 49))
      refine xg_cVv mX0_layAsTold (vs := []) (rest := []) (cn1 := 0) (sl1 := 0) rfl (bdToldX (hI) ht) rfl h49_38 rfl rfl rfl rfl rfl rfl (fun w39 hq40 => ?_)
      obtain ⟨hI41, hF42, hx43⟩ := hq40
      obtain ⟨hbd0, ho50⟩ := hx43
      have hbd : bdw w39 (rwv w 5) (fun q => q) (fld w 4 3) := hbd0
      have e5_ : rwv w39 5 = rwv w 5 := rwf_eq (hF42.1 5 (by decide))
      have e4_ : fld w39 4 3 = fld w 4 3 := fld_fr hF42 (by decide)
      have hmL : ∀ q, q < fld w 4 3 → rwv w39 50 q < fld w39 4 3 ∧ bM (rwv w39 5) (rwv w39 50) q ≤ 99 := fun q hq => by
        have q1 := ht q 2 hq (by decide)
        unfold bM
        rw [e5_, e4_, ho50 q (by omega)]
        exact ⟨hq, q1.2⟩
      have hmE : ∀ q, q < fld w 4 3 → bM (rwv w39 5) (rwv w39 50) q = bM (rwv w 5) (fun q => q) q ∧ bU (rwv w 5) (fun q => q) (fld w 4 3) q = bU (rwv w 5) (fun q => q) (fld w 4 3) q ∧ bfr (rwv w 5) (fun q => q) (fld w 4 3) q = bfr (rwv w 5) (fun q => q) (fld w 4 3) q := fun q hq => ⟨by unfold bM; rw [e5_, ho50 q (by omega)], rfl, rfl⟩
      refine xg_t (xg_aload (va := (2, 0)) rfl rfl) ?_
      refine xg_t (xg_getf (va := (2, 49)) (hF42.get (by decide) h0_1) rfl) ?_
      refine xg_cVi mX0_worstPlace (vs := []) (rest := []) (cn1 := 0) (sl1 := 0) rfl (bdWorstX (hI41) hbd hmL e4_ (by omega)) rfl (hF42.get (by decide) h49_38) rfl rfl rfl rfl rfl rfl (fun n48 w44 hq45 => ?_)
      obtain ⟨hn49, hI46, hF47⟩ := hq45
      exact xg_e ⟨n48, w44, ⟨rfl, rfl⟩, Or.inl ⟨by omega, hn49.trans (bwo_cg hmE (by omega))⟩, hI46, ((hF42.up (by decide)).tr (hF47.up (by decide)))⟩
    · refine xg_t (xg_ifF (u := (if 1 ≤ ro ∧ ro ≤ 9999 then 1 else 0)) rfl xnm0 (xj_neF (xite0 hc33))) ?_
      refine xg_t (xg_blk (b := [(23, 1, 3, 4294967295, 0, 0), (24, 1, 12, 0, 1, 0)]) rfl) ?_
      refine xg_t (xg_const) ?_
      exact xg_e ⟨4294967295, w, ⟨rfl, rfl⟩, Or.inr ⟨by omega, rfl⟩, hI, xFr.rf⟩
theorem scLayerX {la wh : Nat} (hI : xInv w) (hla : la ≤ 4294967295) (hwh : wh ≤ 4294967295) (ht : ∀ k i, k < fld w 4 3 → i < 3 → 1 ≤ rwv w 5 (4 * k + i) ∧ rwv w 5 (4 * k + i) ≤ 99) : xPi (d + 4) mX11_layer [(2, 0), (0, la), (0, wh)] w bd fc rr (fun n w' => ((la < fld w 4 3 ∧ wh < 4 ∧ n = rwv w 5 (4 * la + wh)) ∨ (la < fld w 4 3 ∧ wh = 4 ∧ n = bhg (rwv w 5) (fun q => q) la) ∨ (la < fld w 4 3 ∧ wh = 5 ∧ n = bfs (rwv w 5) la) ∨ (¬ (la < fld w 4 3 ∧ wh ≤ 5) ∧ n = 4294967295)) ∧ xInv w' ∧ xFr [50, 51, 52, 53, 54, 55] w w') := by
  refine xPi.of ?_
  show xTo (d + 4) mX11_layer (0, [], [(0, (2, 0)), (1, (0, la)), (2, (0, wh))], [], (w, bd, fc, 0, 0, rr)) (fun φ => ∃ n w', xEnd 1 [(0, n)] (w', bd, fc, 0, 0, rr) φ ∧ ((la < fld w 4 3 ∧ wh < 4 ∧ n = rwv w 5 (4 * la + wh)) ∨ (la < fld w 4 3 ∧ wh = 4 ∧ n = bhg (rwv w 5) (fun q => q) la) ∨ (la < fld w 4 3 ∧ wh = 5 ∧ n = bfs (rwv w 5) la) ∨ (¬ (la < fld w 4 3 ∧ wh ≤ 5) ∧ n = 4294967295)) ∧ xInv w' ∧ xFr [50, 51, 52, 53, 54, 55] w w')
  have h0_1 := (hI 0 (by decide) : cp0 (wget w 0))
  obtain ⟨f1_2, f1_4, f1_6, f1_8, f1_10, f1_12, h1_14, hb3, hb5, hb7, hb9, hb11, hb13⟩ := (hI 1 (by decide) : cp1 (wget w 1))
  obtain ⟨f3_15, f3_17, f3_19, f3_21, f3_23, h3_25, hb16, hb18, hb20, hb22, hb24⟩ := (hI 3 (by decide) : cp3 (wget w 3))
  obtain ⟨f4_26, h4_28, hb27⟩ := (hI 4 (by decide) : cp4 (wget w 4))
  obtain ⟨g5_29, h5_30, hb31⟩ := (hI 5 (by decide) : cpI 24 1 4294967295 (wget w 5))
  have h5_30 : xRow w 5 24 1 g5_29 := h5_30
  have q43 : fld w 4 3 = f4_26 := fld_of h4_28
  refine xg_t (xg_blk (b := [(0, 1, 0, 0, 0, 0), (1, 3, 1, 11, 0, 10), (4, 3, 1, 9, 4, 38), (7, 3, 1, 1, 0, 112), (10, 1, 2, 1, 0, 0), (11, 3, 13, 287, 40, 117), (14, 3, 7, 19, 1, 0), (17, 1, 3, 4294967295, 0, 0), (18, 1, 12, 0, 1, 0)]) rfl) ?_
  refine xg_t (xg_aload (va := (2, 0)) rfl rfl) ?_
  refine xg_t (xg_getf (va := (2, 1)) h0_1 rfl) ?_
  refine xg_t (xg_getf (va := (2, 3)) h1_14 rfl) ?_
  refine xg_t (xg_getf (va := (2, 4)) h3_25 rfl) ?_
  refine xg_t (xg_iload (va := (0, la)) rfl rfl) ?_
  refine xg_t (xg_cVr mX5_has (vs := [(0, la)]) (rest := []) (rs := [(0, if la < f4_26 then 1 else 0)]) (cn1 := 0) (sl1 := 0) rfl (rhas_ok h4_28 (by decide) (by omega) (by omega)) rfl h4_28 rfl rfl rfl rfl rfl rfl rfl) ?_
  by_cases hc32 : la < f4_26
  · refine xg_t (xg_ifT (u := (if la < f4_26 then 1 else 0)) rfl xnm0 (xj_neT (xite1 hc32))) ?_
    refine xg_t (xg_blk (b := [(19, 1, 0, 0, 0, 0), (20, 3, 1, 11, 4, 45), (23, 3, 13, 12, 0, 123), (26, 1, 2, 2, 0, 0), (27, 25, 34, 72, 0, 5)]) rfl) ?_
    refine xg_t (xg_aload (va := (2, 0)) rfl rfl) ?_
    refine xg_t (xg_getf (va := (2, 49)) h0_1 rfl) ?_
    obtain ⟨f49_33, f49_35, h49_37, hb34, hb36⟩ := (hI 49 (by decide) : cp49 (wget w 49))
    refine xg_cVv mX0_layAsTold (vs := []) (rest := []) (cn1 := 0) (sl1 := 0) rfl (bdToldX (hI) ht) rfl h49_37 rfl rfl rfl rfl rfl rfl (fun w38 hq39 => ?_)
    obtain ⟨hI40, hF41, hx42⟩ := hq39
    obtain ⟨hbd0, ho50⟩ := hx42
    have hbd : bdw w38 (rwv w 5) (fun q => q) (fld w 4 3) := hbd0
    have e5_ : rwv w38 5 = rwv w 5 := rwf_eq (hF41.1 5 (by decide))
    have e4_ : fld w38 4 3 = fld w 4 3 := fld_fr hF41 (by decide)
    have hmL : ∀ q, q < fld w 4 3 → rwv w38 50 q < fld w38 4 3 ∧ bM (rwv w38 5) (rwv w38 50) q ≤ 99 := fun q hq => by
      have q1 := ht q 2 hq (by decide)
      unfold bM
      rw [e5_, e4_, ho50 q (by omega)]
      exact ⟨hq, q1.2⟩
    have hmE : ∀ q, q < fld w 4 3 → bM (rwv w38 5) (rwv w38 50) q = bM (rwv w 5) (fun q => q) q ∧ bU (rwv w 5) (fun q => q) (fld w 4 3) q = bU (rwv w 5) (fun q => q) (fld w 4 3) q ∧ bfr (rwv w 5) (fun q => q) (fld w 4 3) q = bfr (rwv w 5) (fun q => q) (fld w 4 3) q := fun q hq => ⟨by unfold bM; rw [e5_, ho50 q (by omega)], rfl, rfl⟩
    refine xg_t (xg_iload (va := (0, wh)) rfl rfl) ?_
    by_cases hc43 : wh = 4
    · refine xg_t (xg_swt (ks := [(4, 52), (5, 62)]) (u := wh) (z := 52) rfl rfl rfl xnm0 (xsw_y hc43)) ?_
      refine xg_t (xg_blk (b := [(52, 1, 0, 0, 0, 0), (53, 3, 1, 11, 4, 45), (56, 3, 1, 0, 2, 126), (59, 1, 2, 1, 0, 0), (60, 1, 10, 0, 0, 0), (61, 1, 12, 0, 1, 0)]) rfl) ?_
      refine xg_t (xg_aload (va := (2, 0)) rfl rfl) ?_
      refine xg_t (xg_getf (va := (2, 49)) (hF41.get (by decide) h0_1) rfl) ?_
      refine xg_t (xg_getf (va := (2, 51)) (hF41.get (by decide) h49_37) rfl) ?_
      refine xg_t (xg_iload (va := (0, la)) rfl rfl) ?_
      obtain ⟨g51_44, h51_45, hb46⟩ := (hI40 51 (by decide) : cpI 6 24 4294967295 (wget w38 51))
      have h51_45 : xRow w38 51 6 24 g51_44 := h51_45
      refine xg_ialdB (n := la) (B := 4294967295) h51_45 (hb46) xnm0 (by omega) (fun u47 hu48 he49 => ?_)
      have hk50 : u47 = bhg (rwv w 5) (fun q => q) la := (((hbd la (by omega)).2.1).symm.trans ((rwv_of h51_45 (by omega)).trans he49)).symm
      exact xg_e ⟨u47, w38, ⟨rfl, rfl⟩, Or.inr (Or.inl ⟨by omega, by omega, hk50⟩), hI40, (hF41.up (by decide))⟩
    · by_cases hc51 : wh = 5
      · refine xg_t (xg_swt (ks := [(4, 52), (5, 62)]) (u := wh) (z := 62) rfl rfl rfl xnm0 (xsw_n hc43 (xsw_y hc51))) ?_
        refine xg_t (xg_blk (b := [(62, 1, 0, 0, 0, 0), (63, 3, 1, 11, 4, 45), (66, 3, 1, 0, 3, 129), (69, 1, 2, 1, 0, 0), (70, 1, 10, 0, 0, 0), (71, 1, 12, 0, 1, 0)]) rfl) ?_
        refine xg_t (xg_aload (va := (2, 0)) rfl rfl) ?_
        refine xg_t (xg_getf (va := (2, 49)) (hF41.get (by decide) h0_1) rfl) ?_
        refine xg_t (xg_getf (va := (2, 52)) (hF41.get (by decide) h49_37) rfl) ?_
        refine xg_t (xg_iload (va := (0, la)) rfl rfl) ?_
        obtain ⟨g52_52, h52_53, hb54⟩ := (hI40 52 (by decide) : cpI 6 25 5 (wget w38 52))
        have h52_53 : xRow w38 52 6 25 g52_52 := h52_53
        refine xg_ialdB (n := la) (B := 5) h52_53 (hb54) xnm0 (by omega) (fun u55 hu56 he57 => ?_)
        have hk58 : u55 = bfs (rwv w 5) la := (((hbd la (by omega)).1).symm.trans ((rwv_of h52_53 (by omega)).trans he57)).symm
        exact xg_e ⟨u55, w38, ⟨rfl, rfl⟩, Or.inr (Or.inr (Or.inl ⟨by omega, by omega, hk58⟩)), hI40, (hF41.up (by decide))⟩
      · refine xg_t (xg_swt (ks := [(4, 52), (5, 62)]) (u := wh) (z := 72) rfl rfl rfl xnm0 (xsw_n hc43 (xsw_n hc51 (xsw_d)))) ?_
        refine xg_t (xg_blk (b := [(72, 1, 0, 0, 0, 0), (73, 3, 1, 11, 0, 10), (76, 3, 1, 9, 4, 38), (79, 3, 1, 1, 0, 112), (82, 1, 2, 1, 0, 0), (83, 1, 2, 2, 0, 0), (84, 3, 13, 285, 40, 132), (87, 1, 12, 0, 1, 0)]) rfl) ?_
        refine xg_t (xg_aload (va := (2, 0)) rfl rfl) ?_
        refine xg_t (xg_getf (va := (2, 1)) (hF41.get (by decide) h0_1) rfl) ?_
        refine xg_t (xg_getf (va := (2, 3)) (hF41.get (by decide) h1_14) rfl) ?_
        refine xg_t (xg_getf (va := (2, 4)) (hF41.get (by decide) h3_25) rfl) ?_
        refine xg_t (xg_iload (va := (0, la)) rfl rfl) ?_
        refine xg_t (xg_iload (va := (0, wh)) rfl rfl) ?_
        by_cases hc59 : wh < 4
        · refine xg_kE (xg_cVr mX5_get (vs := [(0, la), (0, wh)]) (rest := []) (rs := [(0, g5_29 (la * 4 + wh))]) (cn1 := 0) (sl1 := 0) rfl (rgetX (lim := 6) (wd := 4) (sz := f4_26) (hF41.get (by decide) h4_28) (h5_30.fr hF41 (by decide)) (by decide) (by omega) (by decide) (by decide) (by omega) (by omega)) rfl (hF41.get (by decide) h4_28) rfl rfl rfl rfl rfl rfl rfl) (Nat.lt_succ_of_le ((hb31) _)) (fun z60 hz61 he62 => ?_)
          have hk63 : z60 = rwv w 5 (4 * la + wh) := by
            rw [rwv_of (j := 4 * la + wh) h5_30 (by omega), show 4 * la + wh = la * 4 + wh by omega]
            exact he62.symm
          exact xg_e ⟨z60, w38, ⟨rfl, rfl⟩, Or.inl ⟨by omega, by omega, hk63⟩, hI40, (hF41.up (by decide))⟩
        · refine xg_kE (xg_cVr mX5_get (vs := [(0, la), (0, wh)]) (rest := []) (rs := [(0, (if la < f4_26 ∧ wh < 4 then g5_29 (la * 4 + wh) else 4294967295))]) (cn1 := 0) (sl1 := 0) rfl (rget_ok (lim := 6) (wd := 4) (sz := f4_26) (hF41.get (by decide) h4_28) (h5_30.fr hF41 (by decide)) (by decide) (by omega) (by decide) (by decide) (by omega) (by omega)) rfl (hF41.get (by decide) h4_28) rfl rfl rfl rfl rfl rfl rfl) (xiteb (hb31)) (fun z64 hz65 he66 => ?_)
          have hno : z64 = 4294967295 := by rw [← he66]; exact if_neg (fun q => hc59 q.2)
          exact xg_e ⟨z64, w38, ⟨rfl, rfl⟩, Or.inr (Or.inr (Or.inr ⟨by omega, hno⟩)), hI40, (hF41.up (by decide))⟩
  · refine xg_t (xg_ifF (u := (if la < f4_26 then 1 else 0)) rfl xnm0 (xj_neF (xite0 hc32))) ?_
    refine xg_t (xg_const) ?_
    exact xg_e ⟨4294967295, w, ⟨rfl, rfl⟩, Or.inr (Or.inr (Or.inr ⟨by omega, rfl⟩)), hI, xFr.rf⟩
end XBS
