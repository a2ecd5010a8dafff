/-! the model: what is left of lamps -/
theorem xMnv.l5 {w : List (List xE)} (hI : xMnv w) : rwv w 83 5 ≤ 6 := by
  obtain ⟨f, h, hb, hx⟩ := (hI 83 (by decide) (by decide) : cpx83 (wget w 83))
  have h : xRow w 83 5360 50 f := h
  rw [rwv_of (j := 5) h (by decide)]
  exact hx.lits.2.2.2.2.2.1
theorem xMnv.l6 {w : List (List xE)} (hI : xMnv w) : rwv w 83 6 ≤ 6 := by
  obtain ⟨f, h, hb, hx⟩ := (hI 83 (by decide) (by decide) : cpx83 (wget w 83))
  have h : xRow w 83 5360 50 f := h
  rw [rwv_of (j := 6) h (by decide)]
  exact hx.lits.2.2.2.2.2.2.1
theorem xMnv.l10 {w : List (List xE)} (hI : xMnv w) : rwv w 83 10 ≤ 12 := by
  obtain ⟨f, h, hb, hx⟩ := (hI 83 (by decide) (by decide) : cpx83 (wget w 83))
  have h : xRow w 83 5360 50 f := h
  rw [rwv_of (j := 10) h (by decide)]
  exact hx.lits.2.2.2.2.2.2.2.2.2.2.1
section XAQ
variable {d : Nat} {w : List (List xE)} {bd : List (Nat × Nat)} {fc : List (Nat × Nat × Bool)} {rr : Nat × Nat}
theorem mPointX {ra ca : Nat} (hI : xMnv w) (hra : ra ≤ 4294967295) (hca : ca ≤ 4294967295) : xPi (d + 1) mX12_isPoint [(2, 82), (0, ra), (0, ca)] w bd fc rr (fun n w' => ((n = 1 ∧ ra < rwv w 83 5 ∧ ca < rwv w 83 6) ∨ (n = 0 ∧ ¬ (ra < rwv w 83 5 ∧ ca < rwv w 83 6))) ∧ xMnv w' ∧ xFr [] w w') := by
  refine xPi.of ?_
  show xTo (d + 1) mX12_isPoint (0, [], [(0, (2, 82)), (1, (0, ra)), (2, (0, ca))], [], (w, bd, fc, 0, 0, rr)) (fun φ => ∃ n w', xEnd 4 [(0, n)] (w', bd, fc, 0, 0, rr) φ ∧ ((n = 1 ∧ ra < rwv w 83 5 ∧ ca < rwv w 83 6) ∨ (n = 0 ∧ ¬ (ra < rwv w 83 5 ∧ ca < rwv w 83 6))) ∧ xMnv w' ∧ xFr [] w w')
  obtain ⟨f82_1, f82_3, f82_5, f82_7, f82_9, f82_11, f82_13, f82_15, f82_17, f82_19, f82_21, f82_22, f82_23, f82_25, f82_27, f82_29, h82_31, hb2, hb4, hb6, hb8, hb10, hb12, hb14, hb16, hb18, hb20, hb24, hb26, hb28, hb30, hb32⟩ := (hI 82 (by decide) (by decide) : cp82 (wget w 82))
  replace hb4 := xHid.of hb4
  replace hb10 := xHid.of hb10
  replace hb14 := xHid.of hb14
  replace hb16 := xHid.of hb16
  replace hb20 := xHid.of hb20
  replace hb24 := xHid.of hb24
  replace hb26 := xHid.of hb26
  replace hb28 := xHid.of hb28
  replace hb30 := xHid.of hb30
  obtain ⟨g83_33, h83_34, hb35, hx36⟩ := (hI 83 (by decide) (by decide) : cpx83 (wget w 83))
  have h83_34 : xRow w 83 5360 50 g83_33 := h83_34
  refine xg_t (xg_blk (b := [(0, 1, 2, 1, 0, 0), (1, 1, 3, 0, 0, 0), (2, 1, 0, 0, 0, 0), (3, 3, 1, 12, 0, 7), (6, 1, 3, 5, 0, 0), (7, 1, 10, 0, 0, 0), (8, 1, 3, 1, 0, 0), (9, 1, 18, 0, 0, 0), (10, 3, 13, 161, 98, 105), (13, 3, 7, 37, 0, 0), (16, 1, 2, 2, 0, 0), (17, 1, 3, 0, 0, 0), (18, 1, 0, 0, 0, 0), (19, 3, 1, 12, 0, 7), (22, 2, 4, 6, 0, 0), (24, 1, 10, 0, 0, 0), (25, 1, 3, 1, 0, 0), (26, 1, 18, 0, 0, 0), (27, 3, 13, 161, 98, 105), (30, 3, 7, 37, 0, 0), (33, 1, 3, 1, 0, 0), (34, 3, 8, 38, 0, 0)]) rfl) ?_
  refine xg_t (xg_iload (va := (0, ra)) rfl rfl) ?_
  refine xg_t (xg_const) ?_
  refine xg_t (xg_aload (va := (2, 82)) rfl rfl) ?_
  refine xg_t (xg_getf (va := (2, 83)) h82_31 rfl) ?_
  refine xg_t (xg_const) ?_
  refine xg_ialdB (n := 5) (B := 4294967295) h83_34 (hb35) xnm0 (by omega) (fun u37 hu38 he39 => ?_)
  have hl40 : u37 ≤ 6 := by rw [← he39]; exact hx36.l5
  have hq41 : rwv w 83 5 = u37 := (rwv_of h83_34 (by omega)).trans he39
  refine xg_t (xg_const) ?_
  by_cases hc42 : 1 ≤ u37
  · refine xg_t (xg_isub (u := u37) (v := 1) (z := u37 - 1) xnm0 xnm0 (by omega)) ?_
    refine xg_t (xg_cSr mX12_isIn (vs := [(0, ra), (0, 0), (0, u37 - 1)]) (rest := []) (rs := [(0, if 0 ≤ ra ∧ ra ≤ u37 - 1 then 1 else 0)]) (cn1 := 0) (sl1 := 0) rfl (mIsIn (by omega) (by omega) (by omega)) rfl rfl rfl rfl rfl rfl rfl rfl) ?_
    by_cases hc43 : 0 ≤ ra ∧ ra ≤ u37 - 1
    · refine xg_t (xg_ifF (u := (if 0 ≤ ra ∧ ra ≤ u37 - 1 then 1 else 0)) rfl xnm0 (xj_eqF (xite1 hc43))) ?_
      refine xg_t (xg_iload (va := (0, ca)) rfl rfl) ?_
      refine xg_t (xg_const) ?_
      refine xg_t (xg_aload (va := (2, 82)) rfl rfl) ?_
      refine xg_t (xg_getf (va := (2, 83)) h82_31 rfl) ?_
      refine xg_t (xg_bip) ?_
      refine xg_ialdB (n := 6) (B := 4294967295) h83_34 (hb35) xnm0 (by omega) (fun u44 hu45 he46 => ?_)
      have hl47 : u44 ≤ 6 := by rw [← he46]; exact hx36.l6
      have hq48 : rwv w 83 6 = u44 := (rwv_of h83_34 (by omega)).trans he46
      refine xg_t (xg_const) ?_
      by_cases hc49 : 1 ≤ u44
      · refine xg_t (xg_isub (u := u44) (v := 1) (z := u44 - 1) xnm0 xnm0 (by omega)) ?_
        refine xg_t (xg_cSr mX12_isIn (vs := [(0, ca), (0, 0), (0, u44 - 1)]) (rest := []) (rs := [(0, if 0 ≤ ca ∧ ca ≤ u44 - 1 then 1 else 0)]) (cn1 := 0) (sl1 := 0) rfl (mIsIn (by omega) (by omega) (by omega)) rfl rfl rfl rfl rfl rfl rfl rfl) ?_
        by_cases hc50 : 0 ≤ ca ∧ ca ≤ u44 - 1
        · refine xg_t (xg_ifF (u := (if 0 ≤ ca ∧ ca ≤ u44 - 1 then 1 else 0)) rfl xnm0 (xj_eqF (xite1 hc50))) ?_
          refine xg_t (xg_const) ?_
          refine xg_t (xg_goto) ?_
          refine xg_t (xg_blk (b := [(38, 1, 12, 0, 1, 0)]) rfl) ?_
          exact xg_e ⟨1, w, ⟨rfl, rfl⟩, by omega, hI, xFr.rf⟩
        · refine xg_t (xg_ifT (u := (if 0 ≤ ca ∧ ca ≤ u44 - 1 then 1 else 0)) rfl xnm0 (xj_eqT (xite0 hc50))) ?_
          refine xg_t (xg_blk (b := [(37, 1, 3, 0, 0, 0)]) rfl) ?_
          refine xg_t (xg_const) ?_
          refine xg_t (xg_blk (b := [(38, 1, 12, 0, 1, 0)]) rfl) ?_
          exact xg_e ⟨0, w, ⟨rfl, rfl⟩, by omega, hI, xFr.rf⟩
      · have hz53 : 4294967295 ≤ (u44 + (4294967296 - 1)) % 4294967296 := by omega
        refine xg_t (xg_isub (u := u44) (v := 1) (z := (u44 + (4294967296 - 1)) % 4294967296) xnm0 xnm0 rfl) ?_
        have hz52 : (u44 + (4294967296 - 1)) % 4294967296 < 4294967296 := Nat.mod_lt _ (by decide)
        generalize (u44 + (4294967296 - 1)) % 4294967296 = z51 at hz53 hz52 ⊢
        refine xg_t (xg_cSr mX12_isIn (vs := [(0, ca), (0, 0), (0, z51)]) (rest := []) (rs := [(0, 0)]) (cn1 := 0) (sl1 := 0) rfl (mIsInN (by omega) (by omega) (by omega) (by omega)) rfl rfl rfl rfl rfl rfl rfl rfl) ?_
        refine xg_t (xg_ifT (u := 0) rfl xnm0 (by decide)) ?_
        refine xg_t (xg_blk (b := [(37, 1, 3, 0, 0, 0)]) rfl) ?_
        refine xg_t (xg_const) ?_
        refine xg_t (xg_blk (b := [(38, 1, 12, 0, 1, 0)]) rfl) ?_
        exact xg_e ⟨0, w, ⟨rfl, rfl⟩, by omega, hI, xFr.rf⟩
    · refine xg_t (xg_ifT (u := (if 0 ≤ ra ∧ ra ≤ u37 - 1 then 1 else 0)) rfl xnm0 (xj_eqT (xite0 hc43))) ?_
      refine xg_t (xg_blk (b := [(37, 1, 3, 0, 0, 0)]) rfl) ?_
      refine xg_t (xg_const) ?_
      refine xg_t (xg_blk (b := [(38, 1, 12, 0, 1, 0)]) rfl) ?_
      exact xg_e ⟨0, w, ⟨rfl, rfl⟩, by omega, hI, xFr.rf⟩
  · have hz56 : 4294967295 ≤ (u37 + (4294967296 - 1)) % 4294967296 := by omega
    refine xg_t (xg_isub (u := u37) (v := 1) (z := (u37 + (4294967296 - 1)) % 4294967296) xnm0 xnm0 rfl) ?_
    have hz55 : (u37 + (4294967296 - 1)) % 4294967296 < 4294967296 := Nat.mod_lt _ (by decide)
    generalize (u37 + (4294967296 - 1)) % 4294967296 = z54 at hz56 hz55 ⊢
    refine xg_t (xg_cSr mX12_isIn (vs := [(0, ra), (0, 0), (0, z54)]) (rest := []) (rs := [(0, 0)]) (cn1 := 0) (sl1 := 0) rfl (mIsInN (by omega) (by omega) (by omega) (by omega)) rfl rfl rfl rfl rfl rfl rfl rfl) ?_
    refine xg_t (xg_ifT (u := 0) rfl xnm0 (by decide)) ?_
    refine xg_t (xg_blk (b := [(37, 1, 3, 0, 0, 0)]) rfl) ?_
    refine xg_t (xg_const) ?_
    refine xg_t (xg_blk (b := [(38, 1, 12, 0, 1, 0)]) rfl) ?_
    exact xg_e ⟨0, w, ⟨rfl, rfl⟩, by omega, hI, xFr.rf⟩
theorem mLeftOfX {kk : Nat} (hI : xMnv w) (hkk : kk ≤ 35) (hAl : rwv w 103 kk ≤ 107892) : xPi d mX12_leftOf [(2, 82), (0, kk)] w bd fc rr (fun n w' => (n = 1000 - rwv w 103 kk / 10 ∧ n ≤ 1000) ∧ xMnv w' ∧ xFr [] w w') := by
  refine xPi.of ?_
  show xTo d mX12_leftOf (0, [], [(0, (2, 82)), (1, (0, kk))], [], (w, bd, fc, 0, 0, rr)) (fun φ => ∃ n w', xEnd 1 [(0, n)] (w', bd, fc, 0, 0, rr) φ ∧ (n = 1000 - rwv w 103 kk / 10 ∧ n ≤ 1000) ∧ xMnv w' ∧ xFr [] w w')
  obtain ⟨f82_1, f82_3, f82_5, f82_7, f82_9, f82_11, f82_13, f82_15, f82_17, f82_19, f82_21, f82_22, f82_23, f82_25, f82_27, f82_29, h82_31, hb2, hb4, hb6, hb8, hb10, hb12, hb14, hb16, hb18, hb20, hb24, hb26, hb28, hb30, hb32⟩ := (hI 82 (by decide) (by decide) : cp82 (wget w 82))
  replace hb4 := xHid.of hb4
  replace hb10 := xHid.of hb10
  replace hb14 := xHid.of hb14
  replace hb16 := xHid.of hb16
  replace hb20 := xHid.of hb20
  replace hb24 := xHid.of hb24
  replace hb26 := xHid.of hb26
  replace hb28 := xHid.of hb28
  replace hb30 := xHid.of hb30
  obtain ⟨g103_33, h103_34, hb35⟩ := (hI 103 (by decide) (by decide) : cpI 36 70 4294967295 (wget w 103))
  have h103_34 : xRow w 103 36 70 g103_33 := h103_34
  refine xg_t (xg_blk (b := [(0, 1, 0, 0, 0, 0), (1, 3, 1, 12, 34, 72), (4, 1, 2, 1, 0, 0), (5, 1, 10, 0, 0, 0), (6, 2, 4, 10, 0, 0), (8, 1, 20, 0, 0, 0), (9, 3, 5, 1000, 0, 0), (12, 3, 6, 19, 5, 0), (15, 1, 3, 0, 0, 0), (16, 3, 8, 32, 0, 0)]) rfl) ?_
  refine xg_t (xg_aload (va := (2, 82)) rfl rfl) ?_
  refine xg_t (xg_getf (va := (2, 103)) h82_31 rfl) ?_
  refine xg_t (xg_iload (va := (0, kk)) rfl rfl) ?_
  refine xg_ialdB (n := kk) (B := 4294967295) h103_34 (hb35) xnm0 (by omega) (fun u36 hu37 he38 => ?_)
  have hu39 : rwv w 103 kk = u36 := (rwv_of h103_34 (by omega)).trans he38
  have hl40 : u36 ≤ 107892 := by have q := hAl; omega
  refine xg_t (xg_bip) ?_
  refine xg_t (xg_idiv (u := u36) (v := 10) (z := u36 / 10) xnm0 xnm0 (by omega) (by decide) (by decide) (rfl)) ?_
  refine xg_t (xg_sip) ?_
  by_cases hc41 : 1000 < (u36 / 10)
  · refine xg_t (xg_icF (u := u36 / 10) (v := 1000) rfl xnm0 xnm0 (xj_leF hc41 (by omega))) ?_
    refine xg_t (xg_const) ?_
    refine xg_t (xg_goto) ?_
    refine xg_t (xg_blk (b := [(32, 1, 12, 0, 1, 0)]) rfl) ?_
    exact xg_e ⟨0, w, ⟨rfl, rfl⟩, by omega, hI, xFr.rf⟩
  · refine xg_t (xg_icT (u := u36 / 10) (v := 1000) rfl xnm0 xnm0 (xj_leT (by omega) (by omega))) ?_
    refine xg_t (xg_blk (b := [(19, 3, 5, 1000, 0, 0), (22, 1, 0, 0, 0, 0), (23, 3, 1, 12, 34, 72), (26, 1, 2, 1, 0, 0), (27, 1, 10, 0, 0, 0), (28, 2, 4, 10, 0, 0), (30, 1, 20, 0, 0, 0), (31, 1, 18, 0, 0, 0)]) rfl) ?_
    refine xg_t (xg_sip) ?_
    refine xg_t (xg_aload (va := (2, 82)) rfl rfl) ?_
    refine xg_t (xg_getf (va := (2, 103)) h82_31 rfl) ?_
    refine xg_t (xg_iload (va := (0, kk)) rfl rfl) ?_
    refine xg_ialdB (n := kk) (B := 4294967295) h103_34 (hb35) xnm0 (by omega) (fun u42 hu43 he44 => ?_)
    have hu45 : rwv w 103 kk = u42 := (rwv_of h103_34 (by omega)).trans he44
    have hl46 : u42 ≤ 107892 := by have q := hAl; omega
    refine xg_t (xg_bip) ?_
    refine xg_t (xg_idiv (u := u42) (v := 10) (z := u42 / 10) xnm0 xnm0 (by omega) (by decide) (by decide) (rfl)) ?_
    by_cases hc47 : (u42 / 10) ≤ 1000
    · refine xg_t (xg_isub (u := 1000) (v := u42 / 10) (z := 1000 - (u42 / 10)) xnm0 xnm0 (by omega)) ?_
      refine xg_t (xg_blk (b := [(32, 1, 12, 0, 1, 0)]) rfl) ?_
      exact xg_e ⟨1000 - (u42 / 10), w, ⟨rfl, rfl⟩, by omega, hI, xFr.rf⟩
    · have hz50 : 4294957507 ≤ (1000 + (4294967296 - (u42 / 10))) % 4294967296 := by omega
      refine xg_t (xg_isub (u := 1000) (v := u42 / 10) (z := (1000 + (4294967296 - (u42 / 10))) % 4294967296) xnm0 xnm0 rfl) ?_
      have hz49 : (1000 + (4294967296 - (u42 / 10))) % 4294967296 < 4294967296 := Nat.mod_lt _ (by decide)
      generalize (1000 + (4294967296 - (u42 / 10))) % 4294967296 = z48 at hz50 hz49 ⊢
      refine xg_t (xg_blk (b := [(32, 1, 12, 0, 1, 0)]) rfl) ?_
      exact xg_e ⟨z48, w, ⟨rfl, rfl⟩, by omega, hI, xFr.rf⟩
theorem mLeftX {ra ca : Nat} (hI : xMnv w) (hra : ra ≤ 4294967295) (hca : ca ≤ 4294967295) (hq : ∀ p, p < rwv w 83 10 → (∀ t, t < 4 → rwv w 83 (300 + 6 * p + t) ≤ 5) ∧ rwv w 83 (304 + 6 * p) ≤ 9 ∧ rwv w 83 (305 + 6 * p) ≤ 999) : xPi (d + 2) mX12_left [(2, 82), (0, ra), (0, ca)] w bd fc rr (fun n w' => (((ra < rwv w 83 5 ∧ ca < rwv w 83 6) ∧ n = 1000 - ag (agP (rwv w 83)) (rwv w 83 10) (6 * ra + ca) / 10) ∨ (¬ (ra < rwv w 83 5 ∧ ca < rwv w 83 6) ∧ n = 4294967295)) ∧ xMnv w' ∧ xFr [103] w w') := by
  refine xPi.of ?_
  show xTo (d + 2) mX12_left (0, [], [(0, (2, 82)), (1, (0, ra)), (2, (0, ca))], [], (w, bd, fc, 0, 0, rr)) (fun φ => ∃ n w', xEnd 1 [(0, n)] (w', bd, fc, 0, 0, rr) φ ∧ (((ra < rwv w 83 5 ∧ ca < rwv w 83 6) ∧ n = 1000 - ag (agP (rwv w 83)) (rwv w 83 10) (6 * ra + ca) / 10) ∨ (¬ (ra < rwv w 83 5 ∧ ca < rwv w 83 6) ∧ n = 4294967295)) ∧ xMnv w' ∧ xFr [103] w w')
  obtain ⟨f82_1, f82_3, f82_5, f82_7, f82_9, f82_11, f82_13, f82_15, f82_17, f82_19, f82_21, f82_22, f82_23, f82_25, f82_27, f82_29, h82_31, hb2, hb4, hb6, hb8, hb10, hb12, hb14, hb16, hb18, hb20, hb24, hb26, hb28, hb30, hb32⟩ := (hI 82 (by decide) (by decide) : cp82 (wget w 82))
  replace hb4 := xHid.of hb4
  replace hb10 := xHid.of hb10
  replace hb14 := xHid.of hb14
  replace hb16 := xHid.of hb16
  replace hb20 := xHid.of hb20
  replace hb24 := xHid.of hb24
  replace hb26 := xHid.of hb26
  replace hb28 := xHid.of hb28
  replace hb30 := xHid.of hb30
  obtain ⟨g83_33, h83_34, hb35, hx36⟩ := (hI 83 (by decide) (by decide) : cpx83 (wget w 83))
  have h83_34 : xRow w 83 5360 50 g83_33 := h83_34
  refine xg_t (xg_blk (b := [(0, 1, 0, 0, 0, 0), (1, 1, 2, 1, 0, 0), (2, 1, 2, 2, 0, 0), (3, 3, 13, 169, 96, 323), (6, 3, 7, 11, 1, 0), (9, 1, 3, 4294967295, 0, 0), (10, 1, 12, 0, 1, 0)]) rfl) ?_
  refine xg_t (xg_aload (va := (2, 82)) rfl rfl) ?_
  refine xg_t (xg_iload (va := (0, ra)) rfl rfl) ?_
  refine xg_t (xg_iload (va := (0, ca)) rfl rfl) ?_
  have hf37 : xFr [103] w w := xFr.rf
  have e8338 : rwv w 83 = rwv w 83 := rwf_eq (hf37.1 83 (by decide))
  refine xg_cVi mX12_isPoint (vs := [(0, ra), (0, ca)]) (rest := []) (cn1 := 0) (sl1 := 0) rfl (mPointX (hI) (by omega) (by omega)) rfl h82_31 rfl rfl rfl rfl rfl rfl (fun n43 w39 hq40 => ?_)
  obtain ⟨hn44, hI41, hF42⟩ := hq40
  rw [e8338] at hn44
  have hl45 : rwv w 83 5 ≤ 6 ∧ rwv w 83 6 ≤ 6 := ⟨xMnv.l5 hI, xMnv.l6 hI⟩
  by_cases hc46 : n43 = 0
  · refine xg_t (xg_ifF (u := n43) rfl xnm0 (xj_neF hc46)) ?_
    refine xg_t (xg_const) ?_
    exact xg_e ⟨4294967295, w39, ⟨rfl, rfl⟩, Or.inr ⟨by omega, rfl⟩, hI41, (hF42.up (by decide))⟩
  · refine xg_t (xg_ifT (u := n43) rfl xnm0 (xj_neT hc46)) ?_
    refine xg_t (xg_blk (b := [(11, 1, 0, 0, 0, 0), (12, 3, 13, 112, 96, 326), (15, 1, 0, 0, 0, 0), (16, 2, 4, 6, 0, 0), (18, 1, 2, 1, 0, 0), (19, 1, 16, 0, 0, 0), (20, 1, 2, 2, 0, 0), (21, 1, 11, 0, 0, 0), (22, 3, 13, 187, 96, 329), (25, 1, 12, 0, 1, 0)]) rfl) ?_
    refine xg_t (xg_aload (va := (2, 82)) rfl rfl) ?_
    have hf47 : xFr [103] w w39 := (hF42.up (by decide))
    have e8348 : rwv w39 83 = rwv w 83 := rwf_eq (hf47.1 83 (by decide))
    refine xg_cVv mX12_ages (vs := []) (rest := []) (cn1 := 0) (sl1 := 0) rfl (mAgesX (hI41) (by rw [e8348]; exact hq)) rfl (hF42.get (by decide) h82_31) rfl rfl rfl rfl rfl rfl (fun w49 hq50 => ?_)
    obtain ⟨hI51, hF52, hx53⟩ := hq50
    have hag := hx53
    rw [e8348] at hag
    have hAl : ∀ k, k < 36 → rwv w49 103 k ≤ 107892 := fun k hk => by
      rw [hag k hk]
      have q := ag_le (P := (agP (rwv w 83))) (n := rwv w 83 10) (k := k) (B := 8991) (fun p hp => agm_le (hq p hp).2)
      have l := xMnv.l10 hI
      omega
    refine xg_t (xg_aload (va := (2, 82)) rfl rfl) ?_
    refine xg_t (xg_bip) ?_
    refine xg_t (xg_iload (va := (0, ra)) rfl rfl) ?_
    refine xg_t (xg_imul (u := 6) (v := ra) (z := 6 * ra) xnm0 xnm0 (by omega)) ?_
    refine xg_t (xg_iload (va := (0, ca)) rfl rfl) ?_
    refine xg_t (xg_iadd (u := 6 * ra) (v := ca) (z := (6 * ra) + ca) xnm0 xnm0 (by omega)) ?_
    have e10354 : rwv w49 103 = rwv w49 103 := rfl
    refine xg_cVi mX12_leftOf (vs := [(0, (6 * ra) + ca)]) (rest := []) (cn1 := 0) (sl1 := 0) rfl (mLeftOfX (hI51) (by omega) (by rw [e10354]; exact hAl _ (by omega))) rfl (hF52.get (by decide) (hF42.get (by decide) h82_31)) rfl rfl rfl rfl rfl rfl (fun n59 w55 hq56 => ?_)
    obtain ⟨hn60, hI57, hF58⟩ := hq56
    rw [e10354] at hn60
    have hk61 : n59 = 1000 - ag (agP (rwv w 83)) (rwv w 83 10) (6 * ra + ca) / 10 := by
      rw [← hag (6 * ra + ca) (by omega)]
      exact hn60.1
    exact xg_e ⟨n59, w55, ⟨rfl, rfl⟩, Or.inl ⟨by omega, hk61⟩, hI57, (((hF42.up (by decide)).tr (hF52.up (by decide))).tr (hF58.up (by decide)))⟩
end XAQ
