/-! the model: its small methods -/
theorem xRow.det {w : List (List xE)} {k L t : Nat} {f g : Nat → Nat} (h : xRow w k L t f) (h' : xRow w k L t g) (j : Nat) (hj : j < L) : f j = g j := by
  obtain ⟨us, h1, h2⟩ := h
  obtain ⟨vs, h3, h4⟩ := h'
  rw [h1] at h3
  cases h3
  have e := (h2 j hj).symm.trans (h4 j hj)
  exact congrArg Prod.snd e
theorem okA.l0 {f : Nat → Nat} (h : okA f) : f 0 ≤ 6 := h.lits.1
theorem okA.l1 {f : Nat → Nat} (h : okA f) : f 1 ≤ 4 := h.lits.2.1
theorem okA.l2 {f : Nat → Nat} (h : okA f) : f 2 ≤ 6 := h.lits.2.2.1
theorem okA.l3 {f : Nat → Nat} (h : okA f) : f 3 ≤ 4 := h.lits.2.2.2.1
theorem okA.l4 {f : Nat → Nat} (h : okA f) : f 4 ≤ 20 := h.lits.2.2.2.2.1
theorem okA.l5 {f : Nat → Nat} (h : okA f) : f 5 ≤ 6 := h.lits.2.2.2.2.2.1
theorem okA.l6 {f : Nat → Nat} (h : okA f) : f 6 ≤ 6 := h.lits.2.2.2.2.2.2.1
theorem okA.l7 {f : Nat → Nat} (h : okA f) : f 7 ≤ 10 := h.lits.2.2.2.2.2.2.2.1
theorem okA.l8 {f : Nat → Nat} (h : okA f) : f 8 ≤ 10 := h.lits.2.2.2.2.2.2.2.2.1
theorem okA.l9 {f : Nat → Nat} (h : okA f) : f 9 ≤ 40 := h.lits.2.2.2.2.2.2.2.2.2.1
theorem okA.l10 {f : Nat → Nat} (h : okA f) : f 10 ≤ 12 := h.lits.2.2.2.2.2.2.2.2.2.2.1
theorem okA.l13 {f : Nat → Nat} (h : okA f) : f 13 ≤ 200 := h.lits.2.2.2.2.2.2.2.2.2.2.2.1
theorem okA.l15 {f : Nat → Nat} (h : okA f) : f 15 ≤ 500 := h.lits.2.2.2.2.2.2.2.2.2.2.2.2.1
theorem okA.l900 {f : Nat → Nat} (h : okA f) : f 900 ≤ 4 := h.lits.2.2.2.2.2.2.2.2.2.2.2.2.2.1
theorem okA.l901 {f : Nat → Nat} (h : okA f) : f 901 ≤ 12 := h.lits.2.2.2.2.2.2.2.2.2.2.2.2.2.2.1
theorem okA.l902 {f : Nat → Nat} (h : okA f) : f 902 ≤ 16 := h.lits.2.2.2.2.2.2.2.2.2.2.2.2.2.2.2.1
theorem okA.l56 {f : Nat → Nat} (h : okA f) : f 5 = 0 ∨ 1 ≤ f 6 := h.lits.2.2.2.2.2.2.2.2.2.2.2.2.2.2.2.2
section XM1
variable {d : Nat} {w : List (List xE)} {bd : List (Nat × Nat)} {fc : List (Nat × Nat × Bool)} {rr : Nat × Nat}
theorem mIsIn {a b c : Nat} (ha : a ≤ 4294967295) (hb : b ≤ 2147483647) (hc : c ≤ 2147483647) : xPr d mX12_isIn [(0, a), (0, b), (0, c)] w bd fc rr [(0, if b ≤ a ∧ a ≤ c then 1 else 0)] w := by
  refine xPr.of ?_
  show xTo d mX12_isIn (0, [], [(0, (0, a)), (1, (0, b)), (2, (0, c))], [], (w, bd, fc, 0, 0, rr)) (xEnd 4 [(0, if b ≤ a ∧ a ≤ c then 1 else 0)] (w, bd, fc, 0, 0, rr))
  refine xg_t (xg_blk (b := [(0, 1, 2, 0, 0, 0), (1, 1, 2, 1, 0, 0), (2, 3, 6, 14, 2, 0), (5, 1, 2, 0, 0, 0), (6, 1, 2, 2, 0, 0), (7, 3, 6, 14, 4, 0), (10, 1, 3, 1, 0, 0), (11, 3, 8, 15, 0, 0)]) rfl) ?_
  refine xg_t (xg_iload (va := (0, a)) rfl rfl) ?_
  refine xg_t (xg_iload (va := (0, b)) rfl rfl) ?_
  by_cases hc1 : xbs a < xbs b
  · have hc1u := hc1
    unfold xbs at hc1u
    have hn2 : b ≤ 2147483647 := by omega
    refine xg_t (xg_icT (u := a) (v := b) rfl xnm0 xnm0 (xjs_ltT hc1)) ?_
    refine xg_t (xg_blk (b := [(14, 1, 3, 0, 0, 0)]) rfl) ?_
    refine xg_t (xg_const) ?_
    refine xg_t (xg_blk (b := [(15, 1, 12, 0, 1, 0)]) rfl) ?_
    rw [if_neg (show ¬ (b ≤ a ∧ a ≤ c) by omega)]
    exact xg_e ⟨rfl, rfl⟩
  · have hc1u := hc1
    unfold xbs at hc1u
    have hn3 : a ≤ 2147483647 := by omega
    have hn4 : b ≤ 2147483647 := by omega
    refine xg_t (xg_icF (u := a) (v := b) rfl xnm0 xnm0 (xjs_ltF hc1)) ?_
    refine xg_t (xg_iload (va := (0, a)) rfl rfl) ?_
    refine xg_t (xg_iload (va := (0, c)) rfl rfl) ?_
    by_cases hc5 : c < a
    · refine xg_t (xg_icT (u := a) (v := c) rfl xnm0 xnm0 (xj_gtT hc5 (by omega))) ?_
      refine xg_t (xg_blk (b := [(14, 1, 3, 0, 0, 0)]) rfl) ?_
      refine xg_t (xg_const) ?_
      refine xg_t (xg_blk (b := [(15, 1, 12, 0, 1, 0)]) rfl) ?_
      rw [if_neg (show ¬ (b ≤ a ∧ a ≤ c) by omega)]
      exact xg_e ⟨rfl, rfl⟩
    · refine xg_t (xg_icF (u := a) (v := c) rfl xnm0 xnm0 (xj_gtF (by omega) (by omega))) ?_
      refine xg_t (xg_const) ?_
      refine xg_t (xg_goto) ?_
      refine xg_t (xg_blk (b := [(15, 1, 12, 0, 1, 0)]) rfl) ?_
      rw [if_pos (show b ≤ a ∧ a ≤ c by omega)]
      exact xg_e ⟨rfl, rfl⟩
theorem mIsInN {a b c : Nat} (ha : a ≤ 4294967295) (hb : b ≤ 2147483647) (hc : 2147483648 ≤ c) (hc' : c ≤ 4294967295) : xPr d mX12_isIn [(0, a), (0, b), (0, c)] w bd fc rr [(0, 0)] w := by
  refine xPr.of ?_
  show xTo d mX12_isIn (0, [], [(0, (0, a)), (1, (0, b)), (2, (0, c))], [], (w, bd, fc, 0, 0, rr)) (xEnd 4 [(0, 0)] (w, bd, fc, 0, 0, rr))
  refine xg_t (xg_blk (b := [(0, 1, 2, 0, 0, 0), (1, 1, 2, 1, 0, 0), (2, 3, 6, 14, 2, 0), (5, 1, 2, 0, 0, 0), (6, 1, 2, 2, 0, 0), (7, 3, 6, 14, 4, 0), (10, 1, 3, 1, 0, 0), (11, 3, 8, 15, 0, 0)]) rfl) ?_
  refine xg_t (xg_iload (va := (0, a)) rfl rfl) ?_
  refine xg_t (xg_iload (va := (0, b)) rfl rfl) ?_
  by_cases hc1 : xbs a < xbs b
  · have hc1u := hc1
    unfold xbs at hc1u
    have hn2 : b ≤ 2147483647 := by omega
    refine xg_t (xg_icT (u := a) (v := b) rfl xnm0 xnm0 (xjs_ltT hc1)) ?_
    refine xg_t (xg_blk (b := [(14, 1, 3, 0, 0, 0)]) rfl) ?_
    refine xg_t (xg_const) ?_
    refine xg_t (xg_blk (b := [(15, 1, 12, 0, 1, 0)]) rfl) ?_
    exact xg_e ⟨rfl, rfl⟩
  · have hc1u := hc1
    unfold xbs at hc1u
    have hn3 : a ≤ 2147483647 := by omega
    have hn4 : b ≤ 2147483647 := by omega
    refine xg_t (xg_icF (u := a) (v := b) rfl xnm0 xnm0 (xjs_ltF hc1)) ?_
    refine xg_t (xg_iload (va := (0, a)) rfl rfl) ?_
    refine xg_t (xg_iload (va := (0, c)) rfl rfl) ?_
    refine xg_t (xg_icT (u := a) (v := c) rfl xnm0 xnm0 (xjs_gtT (by unfold xbs; omega))) ?_
    refine xg_t (xg_blk (b := [(14, 1, 3, 0, 0, 0)]) rfl) ?_
    refine xg_t (xg_const) ?_
    refine xg_t (xg_blk (b := [(15, 1, 12, 0, 1, 0)]) rfl) ?_
    exact xg_e ⟨rfl, rfl⟩
theorem mOf0 {g0 : Nat → Nat} {ka : Nat} (hI : xMnv w) (hka : ka ≤ 4294967295) (hr83 : xRow w 83 5360 50 g0) (hgb : ∀ j, g0 j ≤ 4294967295) (hok : okA g0) : xPi (d + 1) mX12_isOf [(2, 82), (0, ka), (0, 0)] w bd fc rr (fun n w' => (n ≤ 1 ∧ (n = 1 → ka < g0 0)) ∧ xMnv w' ∧ xFr [] w w') := by
  refine xPi.of ?_
  show xTo (d + 1) mX12_isOf (0, [], [(0, (2, 82)), (1, (0, ka)), (2, (0, 0))], [], (w, bd, fc, 0, 0, rr)) (fun φ => ∃ n w', xEnd 4 [(0, n)] (w', bd, fc, 0, 0, rr) φ ∧ (n ≤ 1 ∧ (n = 1 → ka < g0 0)) ∧ xMnv w' ∧ xFr [] w w')
  obtain ⟨f82_1, f82_3, f82_5, f82_7, f82_9, f82_11, f82_13, f82_15, f82_17, f82_19, f82_21, f82_22, f82_23, f82_25, f82_27, f82_29, h82_31, hb2, hb4, hb6, hb8, hb10, hb12, hb14, hb16, hb18, hb20, hb24, hb26, hb28, hb30, hb32⟩ := (hI 82 (by decide) (by decide) : cp82 (wget w 82))
  replace hb4 := xHid.of hb4
  replace hb10 := xHid.of hb10
  replace hb14 := xHid.of hb14
  replace hb16 := xHid.of hb16
  replace hb20 := xHid.of hb20
  replace hb24 := xHid.of hb24
  replace hb26 := xHid.of hb26
  replace hb28 := xHid.of hb28
  replace hb30 := xHid.of hb30
  refine xg_t (xg_blk (b := [(0, 1, 2, 1, 0, 0), (1, 1, 3, 0, 0, 0), (2, 1, 0, 0, 0, 0), (3, 3, 1, 12, 0, 7), (6, 1, 2, 2, 0, 0), (7, 1, 10, 0, 0, 0), (8, 1, 3, 1, 0, 0), (9, 1, 18, 0, 0, 0), (10, 3, 13, 161, 98, 105), (13, 1, 12, 0, 1, 0)]) rfl) ?_
  refine xg_t (xg_iload (va := (0, ka)) rfl rfl) ?_
  refine xg_t (xg_const) ?_
  refine xg_t (xg_aload (va := (2, 82)) rfl rfl) ?_
  refine xg_t (xg_getf (va := (2, 83)) h82_31 rfl) ?_
  refine xg_t (xg_iload (va := (0, 0)) rfl rfl) ?_
  refine xg_ialdB (n := 0) (B := 4294967295) hr83 (hgb) xnm0 (by omega) (fun u33 hu34 he35 => ?_)
  have hl36 : u33 ≤ 6 := by rw [← he35]; exact hok.l0
  refine xg_t (xg_const) ?_
  by_cases hc37 : 1 ≤ u33
  · refine xg_t (xg_isub (u := u33) (v := 1) (z := u33 - 1) xnm0 xnm0 (by omega)) ?_
    refine xg_t (xg_cSr mX12_isIn (vs := [(0, ka), (0, 0), (0, u33 - 1)]) (rest := []) (rs := [(0, if 0 ≤ ka ∧ ka ≤ u33 - 1 then 1 else 0)]) (cn1 := 0) (sl1 := 0) rfl (mIsIn (by omega) (by omega) (by omega)) rfl rfl rfl rfl rfl rfl rfl rfl) ?_
    by_cases hc38 : 0 ≤ ka ∧ ka ≤ u33 - 1
    · rw [if_pos hc38]
      exact xg_e ⟨1, w, ⟨rfl, rfl⟩, by omega, hI, xFr.rf⟩
    · rw [if_neg hc38]
      exact xg_e ⟨0, w, ⟨rfl, rfl⟩, by omega, hI, xFr.rf⟩
  · have hz41 : 4294967295 ≤ (u33 + (4294967296 - 1)) % 4294967296 := by omega
    refine xg_t (xg_isub (u := u33) (v := 1) (z := (u33 + (4294967296 - 1)) % 4294967296) xnm0 xnm0 rfl) ?_
    have hz40 : (u33 + (4294967296 - 1)) % 4294967296 < 4294967296 := Nat.mod_lt _ (by decide)
    generalize (u33 + (4294967296 - 1)) % 4294967296 = z39 at hz41 hz40 ⊢
    refine xg_t (xg_cSr mX12_isIn (vs := [(0, ka), (0, 0), (0, z39)]) (rest := []) (rs := [(0, 0)]) (cn1 := 0) (sl1 := 0) rfl (mIsInN (by omega) (by omega) (by omega) (by omega)) rfl rfl rfl rfl rfl rfl rfl rfl) ?_
    exact xg_e ⟨0, w, ⟨rfl, rfl⟩, by omega, hI, xFr.rf⟩
theorem mOf5 {g0 : Nat → Nat} {ka : Nat} (hI : xMnv w) (hka : ka ≤ 4294967295) (hr83 : xRow w 83 5360 50 g0) (hgb : ∀ j, g0 j ≤ 4294967295) (hok : okA g0) : xPi (d + 1) mX12_isOf [(2, 82), (0, ka), (0, 5)] w bd fc rr (fun n w' => (n ≤ 1 ∧ (n = 1 → ka < g0 5)) ∧ xMnv w' ∧ xFr [] w w') := by
  refine xPi.of ?_
  show xTo (d + 1) mX12_isOf (0, [], [(0, (2, 82)), (1, (0, ka)), (2, (0, 5))], [], (w, bd, fc, 0, 0, rr)) (fun φ => ∃ n w', xEnd 4 [(0, n)] (w', bd, fc, 0, 0, rr) φ ∧ (n ≤ 1 ∧ (n = 1 → ka < g0 5)) ∧ xMnv w' ∧ xFr [] w w')
  obtain ⟨f82_1, f82_3, f82_5, f82_7, f82_9, f82_11, f82_13, f82_15, f82_17, f82_19, f82_21, f82_22, f82_23, f82_25, f82_27, f82_29, h82_31, hb2, hb4, hb6, hb8, hb10, hb12, hb14, hb16, hb18, hb20, hb24, hb26, hb28, hb30, hb32⟩ := (hI 82 (by decide) (by decide) : cp82 (wget w 82))
  replace hb4 := xHid.of hb4
  replace hb10 := xHid.of hb10
  replace hb14 := xHid.of hb14
  replace hb16 := xHid.of hb16
  replace hb20 := xHid.of hb20
  replace hb24 := xHid.of hb24
  replace hb26 := xHid.of hb26
  replace hb28 := xHid.of hb28
  replace hb30 := xHid.of hb30
  refine xg_t (xg_blk (b := [(0, 1, 2, 1, 0, 0), (1, 1, 3, 0, 0, 0), (2, 1, 0, 0, 0, 0), (3, 3, 1, 12, 0, 7), (6, 1, 2, 2, 0, 0), (7, 1, 10, 0, 0, 0), (8, 1, 3, 1, 0, 0), (9, 1, 18, 0, 0, 0), (10, 3, 13, 161, 98, 105), (13, 1, 12, 0, 1, 0)]) rfl) ?_
  refine xg_t (xg_iload (va := (0, ka)) rfl rfl) ?_
  refine xg_t (xg_const) ?_
  refine xg_t (xg_aload (va := (2, 82)) rfl rfl) ?_
  refine xg_t (xg_getf (va := (2, 83)) h82_31 rfl) ?_
  refine xg_t (xg_iload (va := (0, 5)) rfl rfl) ?_
  refine xg_ialdB (n := 5) (B := 4294967295) hr83 (hgb) xnm0 (by omega) (fun u33 hu34 he35 => ?_)
  have hl36 : u33 ≤ 6 := by rw [← he35]; exact hok.l5
  refine xg_t (xg_const) ?_
  by_cases hc37 : 1 ≤ u33
  · refine xg_t (xg_isub (u := u33) (v := 1) (z := u33 - 1) xnm0 xnm0 (by omega)) ?_
    refine xg_t (xg_cSr mX12_isIn (vs := [(0, ka), (0, 0), (0, u33 - 1)]) (rest := []) (rs := [(0, if 0 ≤ ka ∧ ka ≤ u33 - 1 then 1 else 0)]) (cn1 := 0) (sl1 := 0) rfl (mIsIn (by omega) (by omega) (by omega)) rfl rfl rfl rfl rfl rfl rfl rfl) ?_
    by_cases hc38 : 0 ≤ ka ∧ ka ≤ u33 - 1
    · rw [if_pos hc38]
      exact xg_e ⟨1, w, ⟨rfl, rfl⟩, by omega, hI, xFr.rf⟩
    · rw [if_neg hc38]
      exact xg_e ⟨0, w, ⟨rfl, rfl⟩, by omega, hI, xFr.rf⟩
  · have hz41 : 4294967295 ≤ (u33 + (4294967296 - 1)) % 4294967296 := by omega
    refine xg_t (xg_isub (u := u33) (v := 1) (z := (u33 + (4294967296 - 1)) % 4294967296) xnm0 xnm0 rfl) ?_
    have hz40 : (u33 + (4294967296 - 1)) % 4294967296 < 4294967296 := Nat.mod_lt _ (by decide)
    generalize (u33 + (4294967296 - 1)) % 4294967296 = z39 at hz41 hz40 ⊢
    refine xg_t (xg_cSr mX12_isIn (vs := [(0, ka), (0, 0), (0, z39)]) (rest := []) (rs := [(0, 0)]) (cn1 := 0) (sl1 := 0) rfl (mIsInN (by omega) (by omega) (by omega) (by omega)) rfl rfl rfl rfl rfl rfl rfl rfl) ?_
    exact xg_e ⟨0, w, ⟨rfl, rfl⟩, by omega, hI, xFr.rf⟩
theorem mOf9 {g0 : Nat → Nat} {ka : Nat} (hI : xMnv w) (hka : ka ≤ 4294967295) (hr83 : xRow w 83 5360 50 g0) (hgb : ∀ j, g0 j ≤ 4294967295) (hok : okA g0) : xPi (d + 1) mX12_isOf [(2, 82), (0, ka), (0, 9)] w bd fc rr (fun n w' => (n ≤ 1 ∧ (n = 1 → ka < g0 9)) ∧ xMnv w' ∧ xFr [] w w') := by
  refine xPi.of ?_
  show xTo (d + 1) mX12_isOf (0, [], [(0, (2, 82)), (1, (0, ka)), (2, (0, 9))], [], (w, bd, fc, 0, 0, rr)) (fun φ => ∃ n w', xEnd 4 [(0, n)] (w', bd, fc, 0, 0, rr) φ ∧ (n ≤ 1 ∧ (n = 1 → ka < g0 9)) ∧ xMnv w' ∧ xFr [] w w')
  obtain ⟨f82_1, f82_3, f82_5, f82_7, f82_9, f82_11, f82_13, f82_15, f82_17, f82_19, f82_21, f82_22, f82_23, f82_25, f82_27, f82_29, h82_31, hb2, hb4, hb6, hb8, hb10, hb12, hb14, hb16, hb18, hb20, hb24, hb26, hb28, hb30, hb32⟩ := (hI 82 (by decide) (by decide) : cp82 (wget w 82))
  replace hb4 := xHid.of hb4
  replace hb10 := xHid.of hb10
  replace hb14 := xHid.of hb14
  replace hb16 := xHid.of hb16
  replace hb20 := xHid.of hb20
  replace hb24 := xHid.of hb24
  replace hb26 := xHid.of hb26
  replace hb28 := xHid.of hb28
  replace hb30 := xHid.of hb30
  refine xg_t (xg_blk (b := [(0, 1, 2, 1, 0, 0), (1, 1, 3, 0, 0, 0), (2, 1, 0, 0, 0, 0), (3, 3, 1, 12, 0, 7), (6, 1, 2, 2, 0, 0), (7, 1, 10, 0, 0, 0), (8, 1, 3, 1, 0, 0), (9, 1, 18, 0, 0, 0), (10, 3, 13, 161, 98, 105), (13, 1, 12, 0, 1, 0)]) rfl) ?_
  refine xg_t (xg_iload (va := (0, ka)) rfl rfl) ?_
  refine xg_t (xg_const) ?_
  refine xg_t (xg_aload (va := (2, 82)) rfl rfl) ?_
  refine xg_t (xg_getf (va := (2, 83)) h82_31 rfl) ?_
  refine xg_t (xg_iload (va := (0, 9)) rfl rfl) ?_
  refine xg_ialdB (n := 9) (B := 4294967295) hr83 (hgb) xnm0 (by omega) (fun u33 hu34 he35 => ?_)
  have hl36 : u33 ≤ 40 := by rw [← he35]; exact hok.l9
  refine xg_t (xg_const) ?_
  by_cases hc37 : 1 ≤ u33
  · refine xg_t (xg_isub (u := u33) (v := 1) (z := u33 - 1) xnm0 xnm0 (by omega)) ?_
    refine xg_t (xg_cSr mX12_isIn (vs := [(0, ka), (0, 0), (0, u33 - 1)]) (rest := []) (rs := [(0, if 0 ≤ ka ∧ ka ≤ u33 - 1 then 1 else 0)]) (cn1 := 0) (sl1 := 0) rfl (mIsIn (by omega) (by omega) (by omega)) rfl rfl rfl rfl rfl rfl rfl rfl) ?_
    by_cases hc38 : 0 ≤ ka ∧ ka ≤ u33 - 1
    · rw [if_pos hc38]
      exact xg_e ⟨1, w, ⟨rfl, rfl⟩, by omega, hI, xFr.rf⟩
    · rw [if_neg hc38]
      exact xg_e ⟨0, w, ⟨rfl, rfl⟩, by omega, hI, xFr.rf⟩
  · have hz41 : 4294967295 ≤ (u33 + (4294967296 - 1)) % 4294967296 := by omega
    refine xg_t (xg_isub (u := u33) (v := 1) (z := (u33 + (4294967296 - 1)) % 4294967296) xnm0 xnm0 rfl) ?_
    have hz40 : (u33 + (4294967296 - 1)) % 4294967296 < 4294967296 := Nat.mod_lt _ (by decide)
    generalize (u33 + (4294967296 - 1)) % 4294967296 = z39 at hz41 hz40 ⊢
    refine xg_t (xg_cSr mX12_isIn (vs := [(0, ka), (0, 0), (0, z39)]) (rest := []) (rs := [(0, 0)]) (cn1 := 0) (sl1 := 0) rfl (mIsInN (by omega) (by omega) (by omega) (by omega)) rfl rfl rfl rfl rfl rfl rfl rfl) ?_
    exact xg_e ⟨0, w, ⟨rfl, rfl⟩, by omega, hI, xFr.rf⟩
theorem mOf900 {g0 : Nat → Nat} {ka : Nat} (hI : xMnv w) (hka : ka ≤ 4294967295) (hr83 : xRow w 83 5360 50 g0) (hgb : ∀ j, g0 j ≤ 4294967295) (hok : okA g0) : xPi (d + 1) mX12_isOf [(2, 82), (0, ka), (0, 900)] w bd fc rr (fun n w' => (n ≤ 1 ∧ (n = 1 → ka < g0 900)) ∧ xMnv w' ∧ xFr [] w w') := by
  refine xPi.of ?_
  show xTo (d + 1) mX12_isOf (0, [], [(0, (2, 82)), (1, (0, ka)), (2, (0, 900))], [], (w, bd, fc, 0, 0, rr)) (fun φ => ∃ n w', xEnd 4 [(0, n)] (w', bd, fc, 0, 0, rr) φ ∧ (n ≤ 1 ∧ (n = 1 → ka < g0 900)) ∧ xMnv w' ∧ xFr [] w w')
  obtain ⟨f82_1, f82_3, f82_5, f82_7, f82_9, f82_11, f82_13, f82_15, f82_17, f82_19, f82_21, f82_22, f82_23, f82_25, f82_27, f82_29, h82_31, hb2, hb4, hb6, hb8, hb10, hb12, hb14, hb16, hb18, hb20, hb24, hb26, hb28, hb30, hb32⟩ := (hI 82 (by decide) (by decide) : cp82 (wget w 82))
  replace hb4 := xHid.of hb4
  replace hb10 := xHid.of hb10
  replace hb14 := xHid.of hb14
  replace hb16 := xHid.of hb16
  replace hb20 := xHid.of hb20
  replace hb24 := xHid.of hb24
  replace hb26 := xHid.of hb26
  replace hb28 := xHid.of hb28
  replace hb30 := xHid.of hb30
  refine xg_t (xg_blk (b := [(0, 1, 2, 1, 0, 0), (1, 1, 3, 0, 0, 0), (2, 1, 0, 0, 0, 0), (3, 3, 1, 12, 0, 7), (6, 1, 2, 2, 0, 0), (7, 1, 10, 0, 0, 0), (8, 1, 3, 1, 0, 0), (9, 1, 18, 0, 0, 0), (10, 3, 13, 161, 98, 105), (13, 1, 12, 0, 1, 0)]) rfl) ?_
  refine xg_t (xg_iload (va := (0, ka)) rfl rfl) ?_
  refine xg_t (xg_const) ?_
  refine xg_t (xg_aload (va := (2, 82)) rfl rfl) ?_
  refine xg_t (xg_getf (va := (2, 83)) h82_31 rfl) ?_
  refine xg_t (xg_iload (va := (0, 900)) rfl rfl) ?_
  refine xg_ialdB (n := 900) (B := 4294967295) hr83 (hgb) xnm0 (by omega) (fun u33 hu34 he35 => ?_)
  have hl36 : u33 ≤ 4 := by rw [← he35]; exact hok.l900
  refine xg_t (xg_const) ?_
  by_cases hc37 : 1 ≤ u33
  · refine xg_t (xg_isub (u := u33) (v := 1) (z := u33 - 1) xnm0 xnm0 (by omega)) ?_
    refine xg_t (xg_cSr mX12_isIn (vs := [(0, ka), (0, 0), (0, u33 - 1)]) (rest := []) (rs := [(0, if 0 ≤ ka ∧ ka ≤ u33 - 1 then 1 else 0)]) (cn1 := 0) (sl1 := 0) rfl (mIsIn (by omega) (by omega) (by omega)) rfl rfl rfl rfl rfl rfl rfl rfl) ?_
    by_cases hc38 : 0 ≤ ka ∧ ka ≤ u33 - 1
    · rw [if_pos hc38]
      exact xg_e ⟨1, w, ⟨rfl, rfl⟩, by omega, hI, xFr.rf⟩
    · rw [if_neg hc38]
      exact xg_e ⟨0, w, ⟨rfl, rfl⟩, by omega, hI, xFr.rf⟩
  · have hz41 : 4294967295 ≤ (u33 + (4294967296 - 1)) % 4294967296 := by omega
    refine xg_t (xg_isub (u := u33) (v := 1) (z := (u33 + (4294967296 - 1)) % 4294967296) xnm0 xnm0 rfl) ?_
    have hz40 : (u33 + (4294967296 - 1)) % 4294967296 < 4294967296 := Nat.mod_lt _ (by decide)
    generalize (u33 + (4294967296 - 1)) % 4294967296 = z39 at hz41 hz40 ⊢
    refine xg_t (xg_cSr mX12_isIn (vs := [(0, ka), (0, 0), (0, z39)]) (rest := []) (rs := [(0, 0)]) (cn1 := 0) (sl1 := 0) rfl (mIsInN (by omega) (by omega) (by omega) (by omega)) rfl rfl rfl rfl rfl rfl rfl rfl) ?_
    exact xg_e ⟨0, w, ⟨rfl, rfl⟩, by omega, hI, xFr.rf⟩
theorem mRound {ro : Nat} (hI : xMnv w) (hro : ro ≤ 4294967295) : xPi (d + 1) mX12_isRound [(2, 82), (0, ro)] w bd fc rr (fun n w' => (n ≤ 1 ∧ (n = 1 → 1 ≤ ro ∧ ro ≤ 9999)) ∧ xMnv w' ∧ xFr [] w w') := by
  refine xPi.of ?_
  show xTo (d + 1) mX12_isRound (0, [], [(0, (2, 82)), (1, (0, ro))], [], (w, bd, fc, 0, 0, rr)) (fun φ => ∃ n w', xEnd 4 [(0, n)] (w', bd, fc, 0, 0, rr) φ ∧ (n ≤ 1 ∧ (n = 1 → 1 ≤ ro ∧ ro ≤ 9999)) ∧ xMnv w' ∧ xFr [] w w')
  refine xg_t (xg_blk (b := [(0, 1, 2, 1, 0, 0), (1, 1, 3, 1, 0, 0), (2, 3, 5, 9999, 0, 0), (5, 3, 13, 161, 98, 105), (8, 1, 12, 0, 1, 0)]) rfl) ?_
  refine xg_t (xg_iload (va := (0, ro)) rfl rfl) ?_
  refine xg_t (xg_const) ?_
  refine xg_t (xg_sip) ?_
  refine xg_t (xg_cSr mX12_isIn (vs := [(0, ro), (0, 1), (0, 9999)]) (rest := []) (rs := [(0, if 1 ≤ ro ∧ ro ≤ 9999 then 1 else 0)]) (cn1 := 0) (sl1 := 0) rfl (mIsIn (by omega) (by omega) (by omega)) rfl rfl rfl rfl rfl rfl rfl rfl) ?_
  by_cases hc1 : 1 ≤ ro ∧ ro ≤ 9999
  · rw [if_pos hc1]
    exact xg_e ⟨1, w, ⟨rfl, rfl⟩, by omega, hI, xFr.rf⟩
  · rw [if_neg hc1]
    exact xg_e ⟨0, w, ⟨rfl, rfl⟩, by omega, hI, xFr.rf⟩
theorem mPoint {g0 : Nat → Nat} {ra ca : Nat} (hI : xMnv w) (hra : ra ≤ 4294967295) (hca : ca ≤ 4294967295) (hr83 : xRow w 83 5360 50 g0) (hgb : ∀ j, g0 j ≤ 4294967295) (hok : okA g0) : xPi (d + 1) mX12_isPoint [(2, 82), (0, ra), (0, ca)] w bd fc rr (fun n w' => (n ≤ 1 ∧ (n = 1 → ra < g0 5 ∧ ca < g0 6)) ∧ xMnv w' ∧ xFr [] w w') := by
  refine xPi.of ?_
  show xTo (d + 1) mX12_isPoint (0, [], [(0, (2, 82)), (1, (0, ra)), (2, (0, ca))], [], (w, bd, fc, 0, 0, rr)) (fun φ => ∃ n w', xEnd 4 [(0, n)] (w', bd, fc, 0, 0, rr) φ ∧ (n ≤ 1 ∧ (n = 1 → ra < g0 5 ∧ ca < g0 6)) ∧ xMnv w' ∧ xFr [] w w')
  obtain ⟨f82_1, f82_3, f82_5, f82_7, f82_9, f82_11, f82_13, f82_15, f82_17, f82_19, f82_21, f82_22, f82_23, f82_25, f82_27, f82_29, h82_31, hb2, hb4, hb6, hb8, hb10, hb12, hb14, hb16, hb18, hb20, hb24, hb26, hb28, hb30, hb32⟩ := (hI 82 (by decide) (by decide) : cp82 (wget w 82))
  replace hb4 := xHid.of hb4
  replace hb10 := xHid.of hb10
  replace hb14 := xHid.of hb14
  replace hb16 := xHid.of hb16
  replace hb20 := xHid.of hb20
  replace hb24 := xHid.of hb24
  replace hb26 := xHid.of hb26
  replace hb28 := xHid.of hb28
  replace hb30 := xHid.of hb30
  refine xg_t (xg_blk (b := [(0, 1, 2, 1, 0, 0), (1, 1, 3, 0, 0, 0), (2, 1, 0, 0, 0, 0), (3, 3, 1, 12, 0, 7), (6, 1, 3, 5, 0, 0), (7, 1, 10, 0, 0, 0), (8, 1, 3, 1, 0, 0), (9, 1, 18, 0, 0, 0), (10, 3, 13, 161, 98, 105), (13, 3, 7, 37, 0, 0), (16, 1, 2, 2, 0, 0), (17, 1, 3, 0, 0, 0), (18, 1, 0, 0, 0, 0), (19, 3, 1, 12, 0, 7), (22, 2, 4, 6, 0, 0), (24, 1, 10, 0, 0, 0), (25, 1, 3, 1, 0, 0), (26, 1, 18, 0, 0, 0), (27, 3, 13, 161, 98, 105), (30, 3, 7, 37, 0, 0), (33, 1, 3, 1, 0, 0), (34, 3, 8, 38, 0, 0)]) rfl) ?_
  refine xg_t (xg_iload (va := (0, ra)) rfl rfl) ?_
  refine xg_t (xg_const) ?_
  refine xg_t (xg_aload (va := (2, 82)) rfl rfl) ?_
  refine xg_t (xg_getf (va := (2, 83)) h82_31 rfl) ?_
  refine xg_t (xg_const) ?_
  refine xg_ialdB (n := 5) (B := 4294967295) hr83 (hgb) xnm0 (by omega) (fun u33 hu34 he35 => ?_)
  have hl36 : u33 ≤ 6 := by rw [← he35]; exact hok.l5
  refine xg_t (xg_const) ?_
  by_cases hc37 : 1 ≤ u33
  · refine xg_t (xg_isub (u := u33) (v := 1) (z := u33 - 1) xnm0 xnm0 (by omega)) ?_
    refine xg_t (xg_cSr mX12_isIn (vs := [(0, ra), (0, 0), (0, u33 - 1)]) (rest := []) (rs := [(0, if 0 ≤ ra ∧ ra ≤ u33 - 1 then 1 else 0)]) (cn1 := 0) (sl1 := 0) rfl (mIsIn (by omega) (by omega) (by omega)) rfl rfl rfl rfl rfl rfl rfl rfl) ?_
    by_cases hc38 : 0 ≤ ra ∧ ra ≤ u33 - 1
    · refine xg_t (xg_ifF (u := (if 0 ≤ ra ∧ ra ≤ u33 - 1 then 1 else 0)) rfl xnm0 (xj_eqF (xite1 hc38))) ?_
      refine xg_t (xg_iload (va := (0, ca)) rfl rfl) ?_
      refine xg_t (xg_const) ?_
      refine xg_t (xg_aload (va := (2, 82)) rfl rfl) ?_
      refine xg_t (xg_getf (va := (2, 83)) h82_31 rfl) ?_
      refine xg_t (xg_bip) ?_
      refine xg_ialdB (n := 6) (B := 4294967295) hr83 (hgb) xnm0 (by omega) (fun u39 hu40 he41 => ?_)
      have hl42 : u39 ≤ 6 := by rw [← he41]; exact hok.l6
      refine xg_t (xg_const) ?_
      by_cases hc43 : 1 ≤ u39
      · refine xg_t (xg_isub (u := u39) (v := 1) (z := u39 - 1) xnm0 xnm0 (by omega)) ?_
        refine xg_t (xg_cSr mX12_isIn (vs := [(0, ca), (0, 0), (0, u39 - 1)]) (rest := []) (rs := [(0, if 0 ≤ ca ∧ ca ≤ u39 - 1 then 1 else 0)]) (cn1 := 0) (sl1 := 0) rfl (mIsIn (by omega) (by omega) (by omega)) rfl rfl rfl rfl rfl rfl rfl rfl) ?_
        by_cases hc44 : 0 ≤ ca ∧ ca ≤ u39 - 1
        · refine xg_t (xg_ifF (u := (if 0 ≤ ca ∧ ca ≤ u39 - 1 then 1 else 0)) rfl xnm0 (xj_eqF (xite1 hc44))) ?_
          refine xg_t (xg_const) ?_
          refine xg_t (xg_goto) ?_
          refine xg_t (xg_blk (b := [(38, 1, 12, 0, 1, 0)]) rfl) ?_
          exact xg_e ⟨1, w, ⟨rfl, rfl⟩, by omega, hI, xFr.rf⟩
        · refine xg_t (xg_ifT (u := (if 0 ≤ ca ∧ ca ≤ u39 - 1 then 1 else 0)) rfl xnm0 (xj_eqT (xite0 hc44))) ?_
          refine xg_t (xg_blk (b := [(37, 1, 3, 0, 0, 0)]) rfl) ?_
          refine xg_t (xg_const) ?_
          refine xg_t (xg_blk (b := [(38, 1, 12, 0, 1, 0)]) rfl) ?_
          exact xg_e ⟨0, w, ⟨rfl, rfl⟩, by omega, hI, xFr.rf⟩
      · have hz47 : 4294967295 ≤ (u39 + (4294967296 - 1)) % 4294967296 := by omega
        refine xg_t (xg_isub (u := u39) (v := 1) (z := (u39 + (4294967296 - 1)) % 4294967296) xnm0 xnm0 rfl) ?_
        have hz46 : (u39 + (4294967296 - 1)) % 4294967296 < 4294967296 := Nat.mod_lt _ (by decide)
        generalize (u39 + (4294967296 - 1)) % 4294967296 = z45 at hz47 hz46 ⊢
        refine xg_t (xg_cSr mX12_isIn (vs := [(0, ca), (0, 0), (0, z45)]) (rest := []) (rs := [(0, 0)]) (cn1 := 0) (sl1 := 0) rfl (mIsInN (by omega) (by omega) (by omega) (by omega)) rfl rfl rfl rfl rfl rfl rfl rfl) ?_
        refine xg_t (xg_ifT (u := 0) rfl xnm0 (by decide)) ?_
        refine xg_t (xg_blk (b := [(37, 1, 3, 0, 0, 0)]) rfl) ?_
        refine xg_t (xg_const) ?_
        refine xg_t (xg_blk (b := [(38, 1, 12, 0, 1, 0)]) rfl) ?_
        exact xg_e ⟨0, w, ⟨rfl, rfl⟩, by omega, hI, xFr.rf⟩
    · refine xg_t (xg_ifT (u := (if 0 ≤ ra ∧ ra ≤ u33 - 1 then 1 else 0)) rfl xnm0 (xj_eqT (xite0 hc38))) ?_
      refine xg_t (xg_blk (b := [(37, 1, 3, 0, 0, 0)]) rfl) ?_
      refine xg_t (xg_const) ?_
      refine xg_t (xg_blk (b := [(38, 1, 12, 0, 1, 0)]) rfl) ?_
      exact xg_e ⟨0, w, ⟨rfl, rfl⟩, by omega, hI, xFr.rf⟩
  · have hz50 : 4294967295 ≤ (u33 + (4294967296 - 1)) % 4294967296 := by omega
    refine xg_t (xg_isub (u := u33) (v := 1) (z := (u33 + (4294967296 - 1)) % 4294967296) xnm0 xnm0 rfl) ?_
    have hz49 : (u33 + (4294967296 - 1)) % 4294967296 < 4294967296 := Nat.mod_lt _ (by decide)
    generalize (u33 + (4294967296 - 1)) % 4294967296 = z48 at hz50 hz49 ⊢
    refine xg_t (xg_cSr mX12_isIn (vs := [(0, ra), (0, 0), (0, z48)]) (rest := []) (rs := [(0, 0)]) (cn1 := 0) (sl1 := 0) rfl (mIsInN (by omega) (by omega) (by omega) (by omega)) rfl rfl rfl rfl rfl rfl rfl rfl) ?_
    refine xg_t (xg_ifT (u := 0) rfl xnm0 (by decide)) ?_
    refine xg_t (xg_blk (b := [(37, 1, 3, 0, 0, 0)]) rfl) ?_
    refine xg_t (xg_const) ?_
    refine xg_t (xg_blk (b := [(38, 1, 12, 0, 1, 0)]) rfl) ?_
    exact xg_e ⟨0, w, ⟨rfl, rfl⟩, by omega, hI, xFr.rf⟩
theorem mThere {g0 : Nat → Nat} {la ra ca : Nat} (hI : xMnv w) (hla : la ≤ 1) (hra : ra ≤ 4294967295) (hca : ca ≤ 4294967295) (hr83 : xRow w 83 5360 50 g0) (hgb : ∀ j, g0 j ≤ 4294967295) (hok : okA g0) : xPi (d + 1) mX12_isThere [(2, 82), (0, la), (0, ra), (0, ca)] w bd fc rr (fun n w' => (n ≤ 1 ∧ (n = 1 → ra ≤ 5 ∧ ca ≤ 5 ∧ (la = 0 → ca ≤ 4) ∧ (la = 1 → ra ≤ 4))) ∧ xMnv w' ∧ xFr [] w w') := by
  refine xPi.of ?_
  show xTo (d + 1) mX12_isThere (0, [], [(0, (2, 82)), (1, (0, la)), (2, (0, ra)), (3, (0, ca))], [], (w, bd, fc, 0, 0, rr)) (fun φ => ∃ n w', xEnd 4 [(0, n)] (w', bd, fc, 0, 0, rr) φ ∧ (n ≤ 1 ∧ (n = 1 → ra ≤ 5 ∧ ca ≤ 5 ∧ (la = 0 → ca ≤ 4) ∧ (la = 1 → ra ≤ 4))) ∧ xMnv w' ∧ xFr [] w w')
  obtain ⟨f82_1, f82_3, f82_5, f82_7, f82_9, f82_11, f82_13, f82_15, f82_17, f82_19, f82_21, f82_22, f82_23, f82_25, f82_27, f82_29, h82_31, hb2, hb4, hb6, hb8, hb10, hb12, hb14, hb16, hb18, hb20, hb24, hb26, hb28, hb30, hb32⟩ := (hI 82 (by decide) (by decide) : cp82 (wget w 82))
  replace hb4 := xHid.of hb4
  replace hb10 := xHid.of hb10
  replace hb14 := xHid.of hb14
  replace hb16 := xHid.of hb16
  replace hb20 := xHid.of hb20
  replace hb24 := xHid.of hb24
  replace hb26 := xHid.of hb26
  replace hb28 := xHid.of hb28
  replace hb30 := xHid.of hb30
  refine xg_t (xg_blk (b := [(0, 1, 2, 2, 0, 0), (1, 1, 3, 0, 0, 0), (2, 1, 0, 0, 0, 0), (3, 3, 1, 12, 0, 7), (6, 1, 3, 5, 0, 0), (7, 1, 10, 0, 0, 0), (8, 1, 2, 1, 0, 0), (9, 3, 7, 16, 0, 0), (12, 1, 3, 2, 0, 0), (13, 3, 8, 17, 0, 0)]) rfl) ?_
  refine xg_t (xg_iload (va := (0, ra)) rfl rfl) ?_
  refine xg_t (xg_const) ?_
  refine xg_t (xg_aload (va := (2, 82)) rfl rfl) ?_
  refine xg_t (xg_getf (va := (2, 83)) h82_31 rfl) ?_
  refine xg_t (xg_const) ?_
  refine xg_ialdB (n := 5) (B := 4294967295) hr83 (hgb) xnm0 (by omega) (fun u33 hu34 he35 => ?_)
  have hl36 : u33 ≤ 6 := by rw [← he35]; exact hok.l5
  refine xg_t (xg_iload (va := (0, la)) rfl rfl) ?_
  by_cases hc37 : la = 0
  · refine xg_t (xg_ifT (u := la) rfl xnm0 (xj_eqT hc37)) ?_
    refine xg_t (xg_blk (b := [(16, 1, 3, 1, 0, 0)]) rfl) ?_
    refine xg_t (xg_const) ?_
    refine xg_t (xg_blk (b := [(17, 1, 18, 0, 0, 0), (18, 3, 13, 161, 98, 105), (21, 3, 7, 53, 0, 0), (24, 1, 2, 3, 0, 0), (25, 1, 3, 0, 0, 0), (26, 1, 0, 0, 0, 0), (27, 3, 1, 12, 0, 7), (30, 2, 4, 6, 0, 0), (32, 1, 10, 0, 0, 0), (33, 1, 2, 1, 0, 0), (34, 3, 7, 41, 0, 0), (37, 1, 3, 1, 0, 0), (38, 3, 8, 42, 0, 0)]) rfl) ?_
    by_cases hc38 : 1 ≤ u33
    · refine xg_t (xg_isub (u := u33) (v := 1) (z := u33 - 1) xnm0 xnm0 (by omega)) ?_
      refine xg_t (xg_cSr mX12_isIn (vs := [(0, ra), (0, 0), (0, u33 - 1)]) (rest := []) (rs := [(0, if 0 ≤ ra ∧ ra ≤ u33 - 1 then 1 else 0)]) (cn1 := 0) (sl1 := 0) rfl (mIsIn (by omega) (by omega) (by omega)) rfl rfl rfl rfl rfl rfl rfl rfl) ?_
      by_cases hc39 : 0 ≤ ra ∧ ra ≤ u33 - 1
      · refine xg_t (xg_ifF (u := (if 0 ≤ ra ∧ ra ≤ u33 - 1 then 1 else 0)) rfl xnm0 (xj_eqF (xite1 hc39))) ?_
        refine xg_t (xg_iload (va := (0, ca)) rfl rfl) ?_
        refine xg_t (xg_const) ?_
        refine xg_t (xg_aload (va := (2, 82)) rfl rfl) ?_
        refine xg_t (xg_getf (va := (2, 83)) h82_31 rfl) ?_
        refine xg_t (xg_bip) ?_
        refine xg_ialdB (n := 6) (B := 4294967295) hr83 (hgb) xnm0 (by omega) (fun u40 hu41 he42 => ?_)
        have hl43 : u40 ≤ 6 := by rw [← he42]; exact hok.l6
        refine xg_t (xg_iload (va := (0, la)) rfl rfl) ?_
        by_cases hc44 : la = 0
        · refine xg_t (xg_ifT (u := la) rfl xnm0 (xj_eqT hc44)) ?_
          refine xg_t (xg_blk (b := [(41, 1, 3, 2, 0, 0)]) rfl) ?_
          refine xg_t (xg_const) ?_
          refine xg_t (xg_blk (b := [(42, 1, 18, 0, 0, 0), (43, 3, 13, 161, 98, 105), (46, 3, 7, 53, 0, 0), (49, 1, 3, 1, 0, 0), (50, 3, 8, 54, 0, 0)]) rfl) ?_
          by_cases hc45 : 2 ≤ u40
          · refine xg_t (xg_isub (u := u40) (v := 2) (z := u40 - 2) xnm0 xnm0 (by omega)) ?_
            refine xg_t (xg_cSr mX12_isIn (vs := [(0, ca), (0, 0), (0, u40 - 2)]) (rest := []) (rs := [(0, if 0 ≤ ca ∧ ca ≤ u40 - 2 then 1 else 0)]) (cn1 := 0) (sl1 := 0) rfl (mIsIn (by omega) (by omega) (by omega)) rfl rfl rfl rfl rfl rfl rfl rfl) ?_
            by_cases hc46 : 0 ≤ ca ∧ ca ≤ u40 - 2
            · refine xg_t (xg_ifF (u := (if 0 ≤ ca ∧ ca ≤ u40 - 2 then 1 else 0)) rfl xnm0 (xj_eqF (xite1 hc46))) ?_
              refine xg_t (xg_const) ?_
              refine xg_t (xg_goto) ?_
              refine xg_t (xg_blk (b := [(54, 1, 12, 0, 1, 0)]) rfl) ?_
              exact xg_e ⟨1, w, ⟨rfl, rfl⟩, by omega, hI, xFr.rf⟩
            · refine xg_t (xg_ifT (u := (if 0 ≤ ca ∧ ca ≤ u40 - 2 then 1 else 0)) rfl xnm0 (xj_eqT (xite0 hc46))) ?_
              refine xg_t (xg_blk (b := [(53, 1, 3, 0, 0, 0)]) rfl) ?_
              refine xg_t (xg_const) ?_
              refine xg_t (xg_blk (b := [(54, 1, 12, 0, 1, 0)]) rfl) ?_
              exact xg_e ⟨0, w, ⟨rfl, rfl⟩, by omega, hI, xFr.rf⟩
          · have hz49 : 4294967294 ≤ (u40 + (4294967296 - 2)) % 4294967296 := by omega
            refine xg_t (xg_isub (u := u40) (v := 2) (z := (u40 + (4294967296 - 2)) % 4294967296) xnm0 xnm0 rfl) ?_
            have hz48 : (u40 + (4294967296 - 2)) % 4294967296 < 4294967296 := Nat.mod_lt _ (by decide)
            generalize (u40 + (4294967296 - 2)) % 4294967296 = z47 at hz49 hz48 ⊢
            refine xg_t (xg_cSr mX12_isIn (vs := [(0, ca), (0, 0), (0, z47)]) (rest := []) (rs := [(0, 0)]) (cn1 := 0) (sl1 := 0) rfl (mIsInN (by omega) (by omega) (by omega) (by omega)) rfl rfl rfl rfl rfl rfl rfl rfl) ?_
            refine xg_t (xg_ifT (u := 0) rfl xnm0 (by decide)) ?_
            refine xg_t (xg_blk (b := [(53, 1, 3, 0, 0, 0)]) rfl) ?_
            refine xg_t (xg_const) ?_
            refine xg_t (xg_blk (b := [(54, 1, 12, 0, 1, 0)]) rfl) ?_
            exact xg_e ⟨0, w, ⟨rfl, rfl⟩, by omega, hI, xFr.rf⟩
        · refine xg_t (xg_ifF (u := la) rfl xnm0 (xj_eqF hc44)) ?_
          refine xg_t (xg_const) ?_
          refine xg_t (xg_goto) ?_
          refine xg_t (xg_blk (b := [(42, 1, 18, 0, 0, 0), (43, 3, 13, 161, 98, 105), (46, 3, 7, 53, 0, 0), (49, 1, 3, 1, 0, 0), (50, 3, 8, 54, 0, 0)]) rfl) ?_
          by_cases hc50 : 1 ≤ u40
          · refine xg_t (xg_isub (u := u40) (v := 1) (z := u40 - 1) xnm0 xnm0 (by omega)) ?_
            refine xg_t (xg_cSr mX12_isIn (vs := [(0, ca), (0, 0), (0, u40 - 1)]) (rest := []) (rs := [(0, if 0 ≤ ca ∧ ca ≤ u40 - 1 then 1 else 0)]) (cn1 := 0) (sl1 := 0) rfl (mIsIn (by omega) (by omega) (by omega)) rfl rfl rfl rfl rfl rfl rfl rfl) ?_
            by_cases hc51 : 0 ≤ ca ∧ ca ≤ u40 - 1
            · refine xg_t (xg_ifF (u := (if 0 ≤ ca ∧ ca ≤ u40 - 1 then 1 else 0)) rfl xnm0 (xj_eqF (xite1 hc51))) ?_
              refine xg_t (xg_const) ?_
              refine xg_t (xg_goto) ?_
              refine xg_t (xg_blk (b := [(54, 1, 12, 0, 1, 0)]) rfl) ?_
              exact xg_e ⟨1, w, ⟨rfl, rfl⟩, by omega, hI, xFr.rf⟩
            · refine xg_t (xg_ifT (u := (if 0 ≤ ca ∧ ca ≤ u40 - 1 then 1 else 0)) rfl xnm0 (xj_eqT (xite0 hc51))) ?_
              refine xg_t (xg_blk (b := [(53, 1, 3, 0, 0, 0)]) rfl) ?_
              refine xg_t (xg_const) ?_
              refine xg_t (xg_blk (b := [(54, 1, 12, 0, 1, 0)]) rfl) ?_
              exact xg_e ⟨0, w, ⟨rfl, rfl⟩, by omega, hI, xFr.rf⟩
          · have hz54 : 4294967295 ≤ (u40 + (4294967296 - 1)) % 4294967296 := by omega
            refine xg_t (xg_isub (u := u40) (v := 1) (z := (u40 + (4294967296 - 1)) % 4294967296) xnm0 xnm0 rfl) ?_
            have hz53 : (u40 + (4294967296 - 1)) % 4294967296 < 4294967296 := Nat.mod_lt _ (by decide)
            generalize (u40 + (4294967296 - 1)) % 4294967296 = z52 at hz54 hz53 ⊢
            refine xg_t (xg_cSr mX12_isIn (vs := [(0, ca), (0, 0), (0, z52)]) (rest := []) (rs := [(0, 0)]) (cn1 := 0) (sl1 := 0) rfl (mIsInN (by omega) (by omega) (by omega) (by omega)) rfl rfl rfl rfl rfl rfl rfl rfl) ?_
            refine xg_t (xg_ifT (u := 0) rfl xnm0 (by decide)) ?_
            refine xg_t (xg_blk (b := [(53, 1, 3, 0, 0, 0)]) rfl) ?_
            refine xg_t (xg_const) ?_
            refine xg_t (xg_blk (b := [(54, 1, 12, 0, 1, 0)]) rfl) ?_
            exact xg_e ⟨0, w, ⟨rfl, rfl⟩, by omega, hI, xFr.rf⟩
      · refine xg_t (xg_ifT (u := (if 0 ≤ ra ∧ ra ≤ u33 - 1 then 1 else 0)) rfl xnm0 (xj_eqT (xite0 hc39))) ?_
        refine xg_t (xg_blk (b := [(53, 1, 3, 0, 0, 0)]) rfl) ?_
        refine xg_t (xg_const) ?_
        refine xg_t (xg_blk (b := [(54, 1, 12, 0, 1, 0)]) rfl) ?_
        exact xg_e ⟨0, w, ⟨rfl, rfl⟩, by omega, hI, xFr.rf⟩
    · have hz57 : 4294967295 ≤ (u33 + (4294967296 - 1)) % 4294967296 := by omega
      refine xg_t (xg_isub (u := u33) (v := 1) (z := (u33 + (4294967296 - 1)) % 4294967296) xnm0 xnm0 rfl) ?_
      have hz56 : (u33 + (4294967296 - 1)) % 4294967296 < 4294967296 := Nat.mod_lt _ (by decide)
      generalize (u33 + (4294967296 - 1)) % 4294967296 = z55 at hz57 hz56 ⊢
      refine xg_t (xg_cSr mX12_isIn (vs := [(0, ra), (0, 0), (0, z55)]) (rest := []) (rs := [(0, 0)]) (cn1 := 0) (sl1 := 0) rfl (mIsInN (by omega) (by omega) (by omega) (by omega)) rfl rfl rfl rfl rfl rfl rfl rfl) ?_
      refine xg_t (xg_ifT (u := 0) rfl xnm0 (by decide)) ?_
      refine xg_t (xg_blk (b := [(53, 1, 3, 0, 0, 0)]) rfl) ?_
      refine xg_t (xg_const) ?_
      refine xg_t (xg_blk (b := [(54, 1, 12, 0, 1, 0)]) rfl) ?_
      exact xg_e ⟨0, w, ⟨rfl, rfl⟩, by omega, hI, xFr.rf⟩
  · refine xg_t (xg_ifF (u := la) rfl xnm0 (xj_eqF hc37)) ?_
    refine xg_t (xg_const) ?_
    refine xg_t (xg_goto) ?_
    refine xg_t (xg_blk (b := [(17, 1, 18, 0, 0, 0), (18, 3, 13, 161, 98, 105), (21, 3, 7, 53, 0, 0), (24, 1, 2, 3, 0, 0), (25, 1, 3, 0, 0, 0), (26, 1, 0, 0, 0, 0), (27, 3, 1, 12, 0, 7), (30, 2, 4, 6, 0, 0), (32, 1, 10, 0, 0, 0), (33, 1, 2, 1, 0, 0), (34, 3, 7, 41, 0, 0), (37, 1, 3, 1, 0, 0), (38, 3, 8, 42, 0, 0)]) rfl) ?_
    by_cases hc58 : 2 ≤ u33
    · refine xg_t (xg_isub (u := u33) (v := 2) (z := u33 - 2) xnm0 xnm0 (by omega)) ?_
      refine xg_t (xg_cSr mX12_isIn (vs := [(0, ra), (0, 0), (0, u33 - 2)]) (rest := []) (rs := [(0, if 0 ≤ ra ∧ ra ≤ u33 - 2 then 1 else 0)]) (cn1 := 0) (sl1 := 0) rfl (mIsIn (by omega) (by omega) (by omega)) rfl rfl rfl rfl rfl rfl rfl rfl) ?_
      by_cases hc59 : 0 ≤ ra ∧ ra ≤ u33 - 2
      · refine xg_t (xg_ifF (u := (if 0 ≤ ra ∧ ra ≤ u33 - 2 then 1 else 0)) rfl xnm0 (xj_eqF (xite1 hc59))) ?_
        refine xg_t (xg_iload (va := (0, ca)) rfl rfl) ?_
        refine xg_t (xg_const) ?_
        refine xg_t (xg_aload (va := (2, 82)) rfl rfl) ?_
        refine xg_t (xg_getf (va := (2, 83)) h82_31 rfl) ?_
        refine xg_t (xg_bip) ?_
        refine xg_ialdB (n := 6) (B := 4294967295) hr83 (hgb) xnm0 (by omega) (fun u60 hu61 he62 => ?_)
        have hl63 : u60 ≤ 6 := by rw [← he62]; exact hok.l6
        refine xg_t (xg_iload (va := (0, la)) rfl rfl) ?_
        refine xg_t (xg_ifF (u := la) rfl xnm0 (xj_eqF (by omega))) ?_
        refine xg_t (xg_const) ?_
        refine xg_t (xg_goto) ?_
        refine xg_t (xg_blk (b := [(42, 1, 18, 0, 0, 0), (43, 3, 13, 161, 98, 105), (46, 3, 7, 53, 0, 0), (49, 1, 3, 1, 0, 0), (50, 3, 8, 54, 0, 0)]) rfl) ?_
        by_cases hc64 : 1 ≤ u60
        · refine xg_t (xg_isub (u := u60) (v := 1) (z := u60 - 1) xnm0 xnm0 (by omega)) ?_
          refine xg_t (xg_cSr mX12_isIn (vs := [(0, ca), (0, 0), (0, u60 - 1)]) (rest := []) (rs := [(0, if 0 ≤ ca ∧ ca ≤ u60 - 1 then 1 else 0)]) (cn1 := 0) (sl1 := 0) rfl (mIsIn (by omega) (by omega) (by omega)) rfl rfl rfl rfl rfl rfl rfl rfl) ?_
          by_cases hc65 : 0 ≤ ca ∧ ca ≤ u60 - 1
          · refine xg_t (xg_ifF (u := (if 0 ≤ ca ∧ ca ≤ u60 - 1 then 1 else 0)) rfl xnm0 (xj_eqF (xite1 hc65))) ?_
            refine xg_t (xg_const) ?_
            refine xg_t (xg_goto) ?_
            refine xg_t (xg_blk (b := [(54, 1, 12, 0, 1, 0)]) rfl) ?_
            exact xg_e ⟨1, w, ⟨rfl, rfl⟩, by omega, hI, xFr.rf⟩
          · refine xg_t (xg_ifT (u := (if 0 ≤ ca ∧ ca ≤ u60 - 1 then 1 else 0)) rfl xnm0 (xj_eqT (xite0 hc65))) ?_
            refine xg_t (xg_blk (b := [(53, 1, 3, 0, 0, 0)]) rfl) ?_
            refine xg_t (xg_const) ?_
            refine xg_t (xg_blk (b := [(54, 1, 12, 0, 1, 0)]) rfl) ?_
            exact xg_e ⟨0, w, ⟨rfl, rfl⟩, by omega, hI, xFr.rf⟩
        · have hz68 : 4294967295 ≤ (u60 + (4294967296 - 1)) % 4294967296 := by omega
          refine xg_t (xg_isub (u := u60) (v := 1) (z := (u60 + (4294967296 - 1)) % 4294967296) xnm0 xnm0 rfl) ?_
          have hz67 : (u60 + (4294967296 - 1)) % 4294967296 < 4294967296 := Nat.mod_lt _ (by decide)
          generalize (u60 + (4294967296 - 1)) % 4294967296 = z66 at hz68 hz67 ⊢
          refine xg_t (xg_cSr mX12_isIn (vs := [(0, ca), (0, 0), (0, z66)]) (rest := []) (rs := [(0, 0)]) (cn1 := 0) (sl1 := 0) rfl (mIsInN (by omega) (by omega) (by omega) (by omega)) rfl rfl rfl rfl rfl rfl rfl rfl) ?_
          refine xg_t (xg_ifT (u := 0) rfl xnm0 (by decide)) ?_
          refine xg_t (xg_blk (b := [(53, 1, 3, 0, 0, 0)]) rfl) ?_
          refine xg_t (xg_const) ?_
          refine xg_t (xg_blk (b := [(54, 1, 12, 0, 1, 0)]) rfl) ?_
          exact xg_e ⟨0, w, ⟨rfl, rfl⟩, by omega, hI, xFr.rf⟩
      · refine xg_t (xg_ifT (u := (if 0 ≤ ra ∧ ra ≤ u33 - 2 then 1 else 0)) rfl xnm0 (xj_eqT (xite0 hc59))) ?_
        refine xg_t (xg_blk (b := [(53, 1, 3, 0, 0, 0)]) rfl) ?_
        refine xg_t (xg_const) ?_
        refine xg_t (xg_blk (b := [(54, 1, 12, 0, 1, 0)]) rfl) ?_
        exact xg_e ⟨0, w, ⟨rfl, rfl⟩, by omega, hI, xFr.rf⟩
    · have hz71 : 4294967294 ≤ (u33 + (4294967296 - 2)) % 4294967296 := by omega
      refine xg_t (xg_isub (u := u33) (v := 2) (z := (u33 + (4294967296 - 2)) % 4294967296) xnm0 xnm0 rfl) ?_
      have hz70 : (u33 + (4294967296 - 2)) % 4294967296 < 4294967296 := Nat.mod_lt _ (by decide)
      generalize (u33 + (4294967296 - 2)) % 4294967296 = z69 at hz71 hz70 ⊢
      refine xg_t (xg_cSr mX12_isIn (vs := [(0, ra), (0, 0), (0, z69)]) (rest := []) (rs := [(0, 0)]) (cn1 := 0) (sl1 := 0) rfl (mIsInN (by omega) (by omega) (by omega) (by omega)) rfl rfl rfl rfl rfl rfl rfl rfl) ?_
      refine xg_t (xg_ifT (u := 0) rfl xnm0 (by decide)) ?_
      refine xg_t (xg_blk (b := [(53, 1, 3, 0, 0, 0)]) rfl) ?_
      refine xg_t (xg_const) ?_
      refine xg_t (xg_blk (b := [(54, 1, 12, 0, 1, 0)]) rfl) ?_
      exact xg_e ⟨0, w, ⟨rfl, rfl⟩, by omega, hI, xFr.rf⟩
theorem mCracked {la ra ca un : Nat} (hI : xMnv w) (hla : la ≤ 1) (hra : ra ≤ 4294967295) (hca : ca ≤ 4294967295) (hun : un ≤ 4294967295) : xPi d mX12_isCracked [(2, 82), (0, la), (0, ra), (0, ca), (0, un)] w bd fc rr (fun n w' => (n ≤ 1) ∧ xMnv w' ∧ xFr [] w w') := by
  refine xPi.of ?_
  show xTo d mX12_isCracked (0, [], [(0, (2, 82)), (1, (0, la)), (2, (0, ra)), (3, (0, ca)), (4, (0, un))], [], (w, bd, fc, 0, 0, rr)) (fun φ => ∃ n w', xEnd 4 [(0, n)] (w', bd, fc, 0, 0, rr) φ ∧ (n ≤ 1) ∧ xMnv w' ∧ xFr [] w w')
  obtain ⟨f82_1, f82_3, f82_5, f82_7, f82_9, f82_11, f82_13, f82_15, f82_17, f82_19, f82_21, f82_22, f82_23, f82_25, f82_27, f82_29, h82_31, hb2, hb4, hb6, hb8, hb10, hb12, hb14, hb16, hb18, hb20, hb24, hb26, hb28, hb30, hb32⟩ := (hI 82 (by decide) (by decide) : cp82 (wget w 82))
  replace hb4 := xHid.of hb4
  replace hb10 := xHid.of hb10
  replace hb14 := xHid.of hb14
  replace hb16 := xHid.of hb16
  replace hb20 := xHid.of hb20
  replace hb24 := xHid.of hb24
  replace hb26 := xHid.of hb26
  replace hb28 := xHid.of hb28
  replace hb30 := xHid.of hb30
  obtain ⟨g83_33, h83_34, hb35, hx36⟩ := (hI 83 (by decide) (by decide) : cpx83 (wget w 83))
  have h83_34 : xRow w 83 5360 50 g83_33 := h83_34
  refine xg_t (xg_blk (b := [(0, 1, 3, 0, 0, 0), (1, 2, 15, 5, 0, 0), (3, 1, 3, 0, 0, 0), (4, 2, 15, 6, 0, 0)]) rfl) ?_
  refine xg_t (xg_const) ?_
  refine xg_t (xg_istore (l1 := [(0, (2, 82)), (1, (0, la)), (2, (0, ra)), (3, (0, ca)), (4, (0, un))]) rfl rfl rfl) ?_
  refine xg_t (xg_const) ?_
  refine xg_t (xg_istore (l1 := [(5, (0, 0)), (0, (2, 82)), (1, (0, la)), (2, (0, ra)), (3, (0, ca)), (4, (0, un))]) rfl rfl rfl) ?_
  refine xg_t (xg_drop (l1 := [(0, (2, 82)), (1, (0, la)), (2, (0, ra)), (3, (0, ca)), (4, (0, un)), (5, (0, 0)), (6, (0, 0))]) (List.forall_mem_cons.mpr ⟨List.mem_cons_of_mem _ (List.mem_cons_of_mem _ (List.mem_cons_self)), List.forall_mem_cons.mpr ⟨List.mem_cons_of_mem _ (List.mem_cons_of_mem _ (List.mem_cons_of_mem _ (List.mem_cons_self))), List.forall_mem_cons.mpr ⟨List.mem_cons_of_mem _ (List.mem_cons_of_mem _ (List.mem_cons_of_mem _ (List.mem_cons_of_mem _ (List.mem_cons_self)))), List.forall_mem_cons.mpr ⟨List.mem_cons_of_mem _ (List.mem_cons_of_mem _ (List.mem_cons_of_mem _ (List.mem_cons_of_mem _ (List.mem_cons_of_mem _ (List.mem_cons_self))))), List.forall_mem_cons.mpr ⟨List.mem_cons_of_mem _ (List.mem_cons_of_mem _ (List.mem_cons_of_mem _ (List.mem_cons_of_mem _ (List.mem_cons_of_mem _ (List.mem_cons_of_mem _ (List.mem_cons_self)))))), List.forall_mem_cons.mpr ⟨List.mem_cons_of_mem _ (List.mem_cons_self), List.forall_mem_cons.mpr ⟨List.mem_cons_self, fun _ h => absurd h List.not_mem_nil⟩⟩⟩⟩⟩⟩⟩)) ?_
  have key37 : ∀ (m39 : Nat) (is_ ki : Nat) (w40 : List (List xE)), 40 - ki < m39 → is_ ≤ 1 → ki ≤ 40 → xMnv w40 → xFr [] w w40 → xTo d mX12_isCracked (6, [], [(0, (2, 82)), (1, (0, la)), (2, (0, ra)), (3, (0, ca)), (4, (0, un)), (5, (0, is_)), (6, (0, ki))], [], (w40, bd, fc, 0, 0, rr)) (fun φ => ∃ n w', xEnd 4 [(0, n)] (w', bd, fc, 0, 0, rr) φ ∧ (n ≤ 1) ∧ xMnv w' ∧ xFr [] w w') := by
    intro m39
    induction m39 with
    | zero => intro is_ ki w40 hz; exact absurd hz (Nat.not_lt_zero _)
    | succ m39 ih38 =>
      intro is_ ki w40 hm45 hn43 hn44 hI41 hF42
      refine xg_t (xg_blk (b := [(6, 2, 2, 6, 0, 0), (8, 1, 0, 0, 0, 0), (9, 3, 1, 12, 0, 7), (12, 2, 4, 9, 0, 0), (14, 1, 10, 0, 0, 0), (15, 3, 6, 134, 3, 0), (18, 2, 2, 5, 0, 0), (20, 3, 7, 134, 1, 0), (23, 3, 5, 140, 0, 0), (26, 1, 3, 4, 0, 0), (27, 2, 2, 6, 0, 0), (29, 1, 16, 0, 0, 0), (30, 1, 11, 0, 0, 0), (31, 2, 15, 7, 0, 0), (33, 2, 2, 6, 0, 0), (35, 2, 4, 10, 0, 0), (37, 3, 6, 56, 3, 0), (40, 1, 0, 0, 0, 0), (41, 3, 1, 12, 24, 276), (44, 2, 2, 6, 0, 0), (46, 1, 29, 0, 0, 0), (47, 1, 3, 1, 0, 0), (48, 1, 30, 0, 0, 0), (49, 1, 3, 1, 0, 0), (50, 3, 6, 56, 1, 0), (53, 3, 8, 128, 0, 0)]) rfl) ?_
      refine xg_t (xg_iload (va := (0, ki)) rfl rfl) ?_
      refine xg_t (xg_aload (va := (2, 82)) rfl rfl) ?_
      refine xg_t (xg_getf (va := (2, 83)) (hF42.get (by decide) h82_31) rfl) ?_
      refine xg_t (xg_bip) ?_
      refine xg_ialdB (n := 9) (B := 4294967295) (h83_34.fr hF42 (by decide)) (hb35) xnm0 (by omega) (fun u46 hu47 he48 => ?_)
      have hl49 : u46 ≤ 40 := by rw [← he48]; exact hx36.l9
      by_cases hc50 : ki < u46
      · refine xg_t (xg_icF (u := ki) (v := u46) rfl xnm0 xnm0 (xj_geF hc50 (by omega))) ?_
        refine xg_t (xg_iload (va := (0, is_)) rfl rfl) ?_
        by_cases hc51 : is_ = 0
        · refine xg_t (xg_ifF (u := is_) rfl xnm0 (xj_neF hc51)) ?_
          refine xg_t (xg_sip) ?_
          refine xg_t (xg_const) ?_
          refine xg_t (xg_iload (va := (0, ki)) rfl rfl) ?_
          refine xg_t (xg_imul (u := 4) (v := ki) (z := 4 * ki) xnm0 xnm0 (by omega)) ?_
          refine xg_t (xg_iadd (u := 140) (v := 4 * ki) (z := 140 + (4 * ki)) xnm0 xnm0 (by omega)) ?_
          refine xg_t (xg_istore (l1 := [(0, (2, 82)), (1, (0, la)), (2, (0, ra)), (3, (0, ca)), (4, (0, un)), (5, (0, is_)), (6, (0, ki))]) rfl rfl rfl) ?_
          refine xg_t (xg_iload (va := (0, ki)) rfl rfl) ?_
          refine xg_t (xg_bip) ?_
          by_cases hc52 : ki < 10
          · refine xg_t (xg_icF (u := ki) (v := 10) rfl xnm0 xnm0 (xj_geF hc52 (by omega))) ?_
            refine xg_t (xg_aload (va := (2, 82)) rfl rfl) ?_
            refine xg_t (xg_getf (va := (0, f82_23)) (hF42.get (by decide) h82_31) rfl) ?_
            have hn53 : f82_23 ≤ 4294967295 := hb24
            refine xg_t (xg_iload (va := (0, ki)) rfl rfl) ?_
            refine xg_k (xg_ishrG (u := f82_23) (v := ki) xnm0 xnm0) (xpt_lt _) (fun z54 hz55 => ?_)
            refine xg_t (xg_const) ?_
            refine xg_k (xg_iand (z := Nat.land z54 1) (u := z54) (v := 1) xnm0 xnm0 rfl) (xland_lt (by omega)) (fun z56 hz57 => ?_)
            refine xg_t (xg_const) ?_
            by_cases hc58 : z56 = 1
            · refine xg_t (xg_icF (u := z56) (v := 1) rfl xnm0 xnm0 (xj_neF hc58)) ?_
              refine xg_t (xg_goto) ?_
              refine xg_t (xg_blk (b := [(128, 3, 9, 6, 1, 0), (131, 3, 8, 6, 0, 0)]) rfl) ?_
              refine xg_t (xg_iinc (u := ki) (z := ki + 1) (l1 := [(7, (0, 140 + (4 * ki))), (0, (2, 82)), (1, (0, la)), (2, (0, ra)), (3, (0, ca)), (4, (0, un)), (5, (0, is_))]) rfl rfl (by omega) rfl) ?_
              refine xg_t (xg_goto) ?_
              refine xg_t (xg_drop (l1 := [(0, (2, 82)), (1, (0, la)), (2, (0, ra)), (3, (0, ca)), (4, (0, un)), (5, (0, is_)), (6, (0, ki + 1))]) (List.forall_mem_cons.mpr ⟨List.mem_cons_of_mem _ (List.mem_cons_of_mem _ (List.mem_cons_self)), List.forall_mem_cons.mpr ⟨List.mem_cons_of_mem _ (List.mem_cons_of_mem _ (List.mem_cons_of_mem _ (List.mem_cons_self))), List.forall_mem_cons.mpr ⟨List.mem_cons_of_mem _ (List.mem_cons_of_mem _ (List.mem_cons_of_mem _ (List.mem_cons_of_mem _ (List.mem_cons_self)))), List.forall_mem_cons.mpr ⟨List.mem_cons_of_mem _ (List.mem_cons_of_mem _ (List.mem_cons_of_mem _ (List.mem_cons_of_mem _ (List.mem_cons_of_mem _ (List.mem_cons_self))))), List.forall_mem_cons.mpr ⟨List.mem_cons_of_mem _ (List.mem_cons_of_mem _ (List.mem_cons_of_mem _ (List.mem_cons_of_mem _ (List.mem_cons_of_mem _ (List.mem_cons_of_mem _ (List.mem_cons_self)))))), List.forall_mem_cons.mpr ⟨List.mem_cons_of_mem _ (List.mem_cons_of_mem _ (List.mem_cons_of_mem _ (List.mem_cons_of_mem _ (List.mem_cons_of_mem _ (List.mem_cons_of_mem _ (List.mem_cons_of_mem _ (List.mem_cons_self))))))), List.forall_mem_cons.mpr ⟨List.mem_cons_self, fun _ h => absurd h List.not_mem_nil⟩⟩⟩⟩⟩⟩⟩)) ?_
              exact ih38 is_ (ki + 1) w40 (by omega) (by omega) (by omega) (hI41) (hF42)
            · refine xg_t (xg_icT (u := z56) (v := 1) rfl xnm0 xnm0 (xj_neT hc58)) ?_
              refine xg_t (xg_blk (b := [(56, 1, 0, 0, 0, 0), (57, 3, 1, 12, 0, 7), (60, 2, 2, 7, 0, 0), (62, 1, 10, 0, 0, 0), (63, 1, 2, 1, 0, 0), (64, 3, 7, 71, 0, 0), (67, 1, 3, 1, 0, 0), (68, 3, 8, 72, 0, 0)]) rfl) ?_
              refine xg_t (xg_aload (va := (2, 82)) rfl rfl) ?_
              refine xg_t (xg_getf (va := (2, 83)) (hF42.get (by decide) h82_31) rfl) ?_
              refine xg_t (xg_iload (va := (0, 140 + (4 * ki))) rfl rfl) ?_
              refine xg_ialdB (n := 140 + (4 * ki)) (B := 4294967295) (h83_34.fr hF42 (by decide)) (hb35) xnm0 (by omega) (fun u59 hu60 he61 => ?_)
              refine xg_t (xg_iload (va := (0, la)) rfl rfl) ?_
              by_cases hc62 : la = 0
              · refine xg_t (xg_ifT (u := la) rfl xnm0 (xj_eqT hc62)) ?_
                refine xg_t (xg_blk (b := [(71, 1, 3, 0, 0, 0)]) rfl) ?_
                refine xg_t (xg_const) ?_
                refine xg_t (xg_blk (b := [(72, 3, 6, 125, 1, 0), (75, 1, 0, 0, 0, 0), (76, 3, 1, 12, 0, 7), (79, 2, 2, 7, 0, 0), (81, 1, 3, 1, 0, 0), (82, 1, 11, 0, 0, 0), (83, 1, 10, 0, 0, 0), (84, 1, 2, 2, 0, 0), (85, 3, 6, 125, 1, 0), (88, 1, 0, 0, 0, 0), (89, 3, 1, 12, 0, 7), (92, 2, 2, 7, 0, 0), (94, 1, 3, 2, 0, 0), (95, 1, 11, 0, 0, 0), (96, 1, 10, 0, 0, 0), (97, 1, 2, 3, 0, 0), (98, 3, 6, 125, 1, 0), (101, 2, 2, 4, 0, 0), (103, 1, 3, 4294967295, 0, 0), (104, 3, 6, 121, 0, 0), (107, 1, 0, 0, 0, 0), (108, 3, 1, 12, 0, 7), (111, 2, 2, 7, 0, 0), (113, 1, 3, 3, 0, 0), (114, 1, 11, 0, 0, 0), (115, 1, 10, 0, 0, 0), (116, 2, 2, 4, 0, 0), (118, 3, 6, 125, 4, 0)]) rfl) ?_
                by_cases hc63 : u59 = 0
                · refine xg_t (xg_icF (u := u59) (v := 0) rfl xnm0 xnm0 (xj_neF hc63)) ?_
                  refine xg_t (xg_aload (va := (2, 82)) rfl rfl) ?_
                  refine xg_t (xg_getf (va := (2, 83)) (hF42.get (by decide) h82_31) rfl) ?_
                  refine xg_t (xg_iload (va := (0, 140 + (4 * ki))) rfl rfl) ?_
                  refine xg_t (xg_const) ?_
                  refine xg_t (xg_iadd (u := 140 + (4 * ki)) (v := 1) (z := (140 + (4 * ki)) + 1) xnm0 xnm0 (by omega)) ?_
                  refine xg_ialdB (n := (140 + (4 * ki)) + 1) (B := 4294967295) (h83_34.fr hF42 (by decide)) (hb35) xnm0 (by omega) (fun u64 hu65 he66 => ?_)
                  refine xg_t (xg_iload (va := (0, ra)) rfl rfl) ?_
                  by_cases hc67 : u64 = ra
                  · refine xg_t (xg_icF (u := u64) (v := ra) rfl xnm0 xnm0 (xj_neF hc67)) ?_
                    refine xg_t (xg_aload (va := (2, 82)) rfl rfl) ?_
                    refine xg_t (xg_getf (va := (2, 83)) (hF42.get (by decide) h82_31) rfl) ?_
                    refine xg_t (xg_iload (va := (0, 140 + (4 * ki))) rfl rfl) ?_
                    refine xg_t (xg_const) ?_
                    refine xg_t (xg_iadd (u := 140 + (4 * ki)) (v := 2) (z := (140 + (4 * ki)) + 2) xnm0 xnm0 (by omega)) ?_
                    refine xg_ialdB (n := (140 + (4 * ki)) + 2) (B := 4294967295) (h83_34.fr hF42 (by decide)) (hb35) xnm0 (by omega) (fun u68 hu69 he70 => ?_)
                    refine xg_t (xg_iload (va := (0, ca)) rfl rfl) ?_
                    by_cases hc71 : u68 = ca
                    · refine xg_t (xg_icF (u := u68) (v := ca) rfl xnm0 xnm0 (xj_neF hc71)) ?_
                      refine xg_t (xg_iload (va := (0, un)) rfl rfl) ?_
                      refine xg_t (xg_const) ?_
                      by_cases hc72 : un = 4294967295
                      · refine xg_t (xg_icT (u := un) (v := 4294967295) rfl xnm0 xnm0 (xj_eqT hc72)) ?_
                        refine xg_t (xg_blk (b := [(121, 1, 3, 1, 0, 0), (122, 3, 8, 126, 0, 0)]) rfl) ?_
                        refine xg_t (xg_const) ?_
                        refine xg_t (xg_goto) ?_
                        refine xg_t (xg_blk (b := [(126, 2, 15, 5, 0, 0)]) rfl) ?_
                        refine xg_t (xg_istore (l1 := [(7, (0, 140 + (4 * ki))), (0, (2, 82)), (1, (0, la)), (2, (0, ra)), (3, (0, ca)), (4, (0, un)), (6, (0, ki))]) rfl rfl rfl) ?_
                        refine xg_t (xg_blk (b := [(128, 3, 9, 6, 1, 0), (131, 3, 8, 6, 0, 0)]) rfl) ?_
                        refine xg_t (xg_iinc (u := ki) (z := ki + 1) (l1 := [(5, (0, 1)), (7, (0, 140 + (4 * ki))), (0, (2, 82)), (1, (0, la)), (2, (0, ra)), (3, (0, ca)), (4, (0, un))]) rfl rfl (by omega) rfl) ?_
                        refine xg_t (xg_goto) ?_
                        refine xg_t (xg_drop (l1 := [(0, (2, 82)), (1, (0, la)), (2, (0, ra)), (3, (0, ca)), (4, (0, un)), (5, (0, 1)), (6, (0, ki + 1))]) (List.forall_mem_cons.mpr ⟨List.mem_cons_of_mem _ (List.mem_cons_of_mem _ (List.mem_cons_of_mem _ (List.mem_cons_self))), List.forall_mem_cons.mpr ⟨List.mem_cons_of_mem _ (List.mem_cons_of_mem _ (List.mem_cons_of_mem _ (List.mem_cons_of_mem _ (List.mem_cons_self)))), List.forall_mem_cons.mpr ⟨List.mem_cons_of_mem _ (List.mem_cons_of_mem _ (List.mem_cons_of_mem _ (List.mem_cons_of_mem _ (List.mem_cons_of_mem _ (List.mem_cons_self))))), List.forall_mem_cons.mpr ⟨List.mem_cons_of_mem _ (List.mem_cons_of_mem _ (List.mem_cons_of_mem _ (List.mem_cons_of_mem _ (List.mem_cons_of_mem _ (List.mem_cons_of_mem _ (List.mem_cons_self)))))), List.forall_mem_cons.mpr ⟨List.mem_cons_of_mem _ (List.mem_cons_of_mem _ (List.mem_cons_of_mem _ (List.mem_cons_of_mem _ (List.mem_cons_of_mem _ (List.mem_cons_of_mem _ (List.mem_cons_of_mem _ (List.mem_cons_self))))))), List.forall_mem_cons.mpr ⟨List.mem_cons_of_mem _ (List.mem_cons_self), List.forall_mem_cons.mpr ⟨List.mem_cons_self, fun _ h => absurd h List.not_mem_nil⟩⟩⟩⟩⟩⟩⟩)) ?_
                        exact ih38 1 (ki + 1) w40 (by omega) (by omega) (by omega) (hI41) (hF42)
                      · refine xg_t (xg_icF (u := un) (v := 4294967295) rfl xnm0 xnm0 (xj_eqF hc72)) ?_
                        refine xg_t (xg_aload (va := (2, 82)) rfl rfl) ?_
                        refine xg_t (xg_getf (va := (2, 83)) (hF42.get (by decide) h82_31) rfl) ?_
                        refine xg_t (xg_iload (va := (0, 140 + (4 * ki))) rfl rfl) ?_
                        refine xg_t (xg_const) ?_
                        refine xg_t (xg_iadd (u := 140 + (4 * ki)) (v := 3) (z := (140 + (4 * ki)) + 3) xnm0 xnm0 (by omega)) ?_
                        refine xg_ialdB (n := (140 + (4 * ki)) + 3) (B := 4294967295) (h83_34.fr hF42 (by decide)) (hb35) xnm0 (by omega) (fun u73 hu74 he75 => ?_)
                        refine xg_t (xg_iload (va := (0, un)) rfl rfl) ?_
                        by_cases hc76 : xbs un < xbs u73
                        · have hc76u := hc76
                          unfold xbs at hc76u
                          refine xg_t (xg_icT (u := u73) (v := un) rfl xnm0 xnm0 (xjs_gtT hc76)) ?_
                          refine xg_t (xg_blk (b := [(125, 1, 3, 0, 0, 0)]) rfl) ?_
                          refine xg_t (xg_const) ?_
                          refine xg_t (xg_blk (b := [(126, 2, 15, 5, 0, 0)]) rfl) ?_
                          refine xg_t (xg_istore (l1 := [(7, (0, 140 + (4 * ki))), (0, (2, 82)), (1, (0, la)), (2, (0, ra)), (3, (0, ca)), (4, (0, un)), (6, (0, ki))]) rfl rfl rfl) ?_
                          refine xg_t (xg_blk (b := [(128, 3, 9, 6, 1, 0), (131, 3, 8, 6, 0, 0)]) rfl) ?_
                          refine xg_t (xg_iinc (u := ki) (z := ki + 1) (l1 := [(5, (0, 0)), (7, (0, 140 + (4 * ki))), (0, (2, 82)), (1, (0, la)), (2, (0, ra)), (3, (0, ca)), (4, (0, un))]) rfl rfl (by omega) rfl) ?_
                          refine xg_t (xg_goto) ?_
                          refine xg_t (xg_drop (l1 := [(0, (2, 82)), (1, (0, la)), (2, (0, ra)), (3, (0, ca)), (4, (0, un)), (5, (0, 0)), (6, (0, ki + 1))]) (List.forall_mem_cons.mpr ⟨List.mem_cons_of_mem _ (List.mem_cons_of_mem _ (List.mem_cons_of_mem _ (List.mem_cons_self))), List.forall_mem_cons.mpr ⟨List.mem_cons_of_mem _ (List.mem_cons_of_mem _ (List.mem_cons_of_mem _ (List.mem_cons_of_mem _ (List.mem_cons_self)))), List.forall_mem_cons.mpr ⟨List.mem_cons_of_mem _ (List.mem_cons_of_mem _ (List.mem_cons_of_mem _ (List.mem_cons_of_mem _ (List.mem_cons_of_mem _ (List.mem_cons_self))))), List.forall_mem_cons.mpr ⟨List.mem_cons_of_mem _ (List.mem_cons_of_mem _ (List.mem_cons_of_mem _ (List.mem_cons_of_mem _ (List.mem_cons_of_mem _ (List.mem_cons_of_mem _ (List.mem_cons_self)))))), List.forall_mem_cons.mpr ⟨List.mem_cons_of_mem _ (List.mem_cons_of_mem _ (List.mem_cons_of_mem _ (List.mem_cons_of_mem _ (List.mem_cons_of_mem _ (List.mem_cons_of_mem _ (List.mem_cons_of_mem _ (List.mem_cons_self))))))), List.forall_mem_cons.mpr ⟨List.mem_cons_of_mem _ (List.mem_cons_self), List.forall_mem_cons.mpr ⟨List.mem_cons_self, fun _ h => absurd h List.not_mem_nil⟩⟩⟩⟩⟩⟩⟩)) ?_
                          exact ih38 0 (ki + 1) w40 (by omega) (by omega) (by omega) (hI41) (hF42)
                        · have hc76u := hc76
                          unfold xbs at hc76u
                          refine xg_t (xg_icF (u := u73) (v := un) rfl xnm0 xnm0 (xjs_gtF hc76)) ?_
                          refine xg_t (xg_blk (b := [(121, 1, 3, 1, 0, 0), (122, 3, 8, 126, 0, 0)]) rfl) ?_
                          refine xg_t (xg_const) ?_
                          refine xg_t (xg_goto) ?_
                          refine xg_t (xg_blk (b := [(126, 2, 15, 5, 0, 0)]) rfl) ?_
                          refine xg_t (xg_istore (l1 := [(7, (0, 140 + (4 * ki))), (0, (2, 82)), (1, (0, la)), (2, (0, ra)), (3, (0, ca)), (4, (0, un)), (6, (0, ki))]) rfl rfl rfl) ?_
                          refine xg_t (xg_blk (b := [(128, 3, 9, 6, 1, 0), (131, 3, 8, 6, 0, 0)]) rfl) ?_
                          refine xg_t (xg_iinc (u := ki) (z := ki + 1) (l1 := [(5, (0, 1)), (7, (0, 140 + (4 * ki))), (0, (2, 82)), (1, (0, la)), (2, (0, ra)), (3, (0, ca)), (4, (0, un))]) rfl rfl (by omega) rfl) ?_
                          refine xg_t (xg_goto) ?_
                          refine xg_t (xg_drop (l1 := [(0, (2, 82)), (1, (0, la)), (2, (0, ra)), (3, (0, ca)), (4, (0, un)), (5, (0, 1)), (6, (0, ki + 1))]) (List.forall_mem_cons.mpr ⟨List.mem_cons_of_mem _ (List.mem_cons_of_mem _ (List.mem_cons_of_mem _ (List.mem_cons_self))), List.forall_mem_cons.mpr ⟨List.mem_cons_of_mem _ (List.mem_cons_of_mem _ (List.mem_cons_of_mem _ (List.mem_cons_of_mem _ (List.mem_cons_self)))), List.forall_mem_cons.mpr ⟨List.mem_cons_of_mem _ (List.mem_cons_of_mem _ (List.mem_cons_of_mem _ (List.mem_cons_of_mem _ (List.mem_cons_of_mem _ (List.mem_cons_self))))), List.forall_mem_cons.mpr ⟨List.mem_cons_of_mem _ (List.mem_cons_of_mem _ (List.mem_cons_of_mem _ (List.mem_cons_of_mem _ (List.mem_cons_of_mem _ (List.mem_cons_of_mem _ (List.mem_cons_self)))))), List.forall_mem_cons.mpr ⟨List.mem_cons_of_mem _ (List.mem_cons_of_mem _ (List.mem_cons_of_mem _ (List.mem_cons_of_mem _ (List.mem_cons_of_mem _ (List.mem_cons_of_mem _ (List.mem_cons_of_mem _ (List.mem_cons_self))))))), List.forall_mem_cons.mpr ⟨List.mem_cons_of_mem _ (List.mem_cons_self), List.forall_mem_cons.mpr ⟨List.mem_cons_self, fun _ h => absurd h List.not_mem_nil⟩⟩⟩⟩⟩⟩⟩)) ?_
                          exact ih38 1 (ki + 1) w40 (by omega) (by omega) (by omega) (hI41) (hF42)
                    · refine xg_t (xg_icT (u := u68) (v := ca) rfl xnm0 xnm0 (xj_neT hc71)) ?_
                      refine xg_t (xg_blk (b := [(125, 1, 3, 0, 0, 0)]) rfl) ?_
                      refine xg_t (xg_const) ?_
                      refine xg_t (xg_blk (b := [(126, 2, 15, 5, 0, 0)]) rfl) ?_
                      refine xg_t (xg_istore (l1 := [(7, (0, 140 + (4 * ki))), (0, (2, 82)), (1, (0, la)), (2, (0, ra)), (3, (0, ca)), (4, (0, un)), (6, (0, ki))]) rfl rfl rfl) ?_
                      refine xg_t (xg_blk (b := [(128, 3, 9, 6, 1, 0), (131, 3, 8, 6, 0, 0)]) rfl) ?_
                      refine xg_t (xg_iinc (u := ki) (z := ki + 1) (l1 := [(5, (0, 0)), (7, (0, 140 + (4 * ki))), (0, (2, 82)), (1, (0, la)), (2, (0, ra)), (3, (0, ca)), (4, (0, un))]) rfl rfl (by omega) rfl) ?_
                      refine xg_t (xg_goto) ?_
                      refine xg_t (xg_drop (l1 := [(0, (2, 82)), (1, (0, la)), (2, (0, ra)), (3, (0, ca)), (4, (0, un)), (5, (0, 0)), (6, (0, ki + 1))]) (List.forall_mem_cons.mpr ⟨List.mem_cons_of_mem _ (List.mem_cons_of_mem _ (List.mem_cons_of_mem _ (List.mem_cons_self))), List.forall_mem_cons.mpr ⟨List.mem_cons_of_mem _ (List.mem_cons_of_mem _ (List.mem_cons_of_mem _ (List.mem_cons_of_mem _ (List.mem_cons_self)))), List.forall_mem_cons.mpr ⟨List.mem_cons_of_mem _ (List.mem_cons_of_mem _ (List.mem_cons_of_mem _ (List.mem_cons_of_mem _ (List.mem_cons_of_mem _ (List.mem_cons_self))))), List.forall_mem_cons.mpr ⟨List.mem_cons_of_mem _ (List.mem_cons_of_mem _ (List.mem_cons_of_mem _ (List.mem_cons_of_mem _ (List.mem_cons_of_mem _ (List.mem_cons_of_mem _ (List.mem_cons_self)))))), List.forall_mem_cons.mpr ⟨List.mem_cons_of_mem _ (List.mem_cons_of_mem _ (List.mem_cons_of_mem _ (List.mem_cons_of_mem _ (List.mem_cons_of_mem _ (List.mem_cons_of_mem _ (List.mem_cons_of_mem _ (List.mem_cons_self))))))), List.forall_mem_cons.mpr ⟨List.mem_cons_of_mem _ (List.mem_cons_self), List.forall_mem_cons.mpr ⟨List.mem_cons_self, fun _ h => absurd h List.not_mem_nil⟩⟩⟩⟩⟩⟩⟩)) ?_
                      exact ih38 0 (ki + 1) w40 (by omega) (by omega) (by omega) (hI41) (hF42)
                  · refine xg_t (xg_icT (u := u64) (v := ra) rfl xnm0 xnm0 (xj_neT hc67)) ?_
                    refine xg_t (xg_blk (b := [(125, 1, 3, 0, 0, 0)]) rfl) ?_
                    refine xg_t (xg_const) ?_
                    refine xg_t (xg_blk (b := [(126, 2, 15, 5, 0, 0)]) rfl) ?_
                    refine xg_t (xg_istore (l1 := [(7, (0, 140 + (4 * ki))), (0, (2, 82)), (1, (0, la)), (2, (0, ra)), (3, (0, ca)), (4, (0, un)), (6, (0, ki))]) rfl rfl rfl) ?_
                    refine xg_t (xg_blk (b := [(128, 3, 9, 6, 1, 0), (131, 3, 8, 6, 0, 0)]) rfl) ?_
                    refine xg_t (xg_iinc (u := ki) (z := ki + 1) (l1 := [(5, (0, 0)), (7, (0, 140 + (4 * ki))), (0, (2, 82)), (1, (0, la)), (2, (0, ra)), (3, (0, ca)), (4, (0, un))]) rfl rfl (by omega) rfl) ?_
                    refine xg_t (xg_goto) ?_
                    refine xg_t (xg_drop (l1 := [(0, (2, 82)), (1, (0, la)), (2, (0, ra)), (3, (0, ca)), (4, (0, un)), (5, (0, 0)), (6, (0, ki + 1))]) (List.forall_mem_cons.mpr ⟨List.mem_cons_of_mem _ (List.mem_cons_of_mem _ (List.mem_cons_of_mem _ (List.mem_cons_self))), List.forall_mem_cons.mpr ⟨List.mem_cons_of_mem _ (List.mem_cons_of_mem _ (List.mem_cons_of_mem _ (List.mem_cons_of_mem _ (List.mem_cons_self)))), List.forall_mem_cons.mpr ⟨List.mem_cons_of_mem _ (List.mem_cons_of_mem _ (List.mem_cons_of_mem _ (List.mem_cons_of_mem _ (List.mem_cons_of_mem _ (List.mem_cons_self))))), List.forall_mem_cons.mpr ⟨List.mem_cons_of_mem _ (List.mem_cons_of_mem _ (List.mem_cons_of_mem _ (List.mem_cons_of_mem _ (List.mem_cons_of_mem _ (List.mem_cons_of_mem _ (List.mem_cons_self)))))), List.forall_mem_cons.mpr ⟨List.mem_cons_of_mem _ (List.mem_cons_of_mem _ (List.mem_cons_of_mem _ (List.mem_cons_of_mem _ (List.mem_cons_of_mem _ (List.mem_cons_of_mem _ (List.mem_cons_of_mem _ (List.mem_cons_self))))))), List.forall_mem_cons.mpr ⟨List.mem_cons_of_mem _ (List.mem_cons_self), List.forall_mem_cons.mpr ⟨List.mem_cons_self, fun _ h => absurd h List.not_mem_nil⟩⟩⟩⟩⟩⟩⟩)) ?_
                    exact ih38 0 (ki + 1) w40 (by omega) (by omega) (by omega) (hI41) (hF42)
                · refine xg_t (xg_icT (u := u59) (v := 0) rfl xnm0 xnm0 (xj_neT hc63)) ?_
                  refine xg_t (xg_blk (b := [(125, 1, 3, 0, 0, 0)]) rfl) ?_
                  refine xg_t (xg_const) ?_
                  refine xg_t (xg_blk (b := [(126, 2, 15, 5, 0, 0)]) rfl) ?_
                  refine xg_t (xg_istore (l1 := [(7, (0, 140 + (4 * ki))), (0, (2, 82)), (1, (0, la)), (2, (0, ra)), (3, (0, ca)), (4, (0, un)), (6, (0, ki))]) rfl rfl rfl) ?_
                  refine xg_t (xg_blk (b := [(128, 3, 9, 6, 1, 0), (131, 3, 8, 6, 0, 0)]) rfl) ?_
                  refine xg_t (xg_iinc (u := ki) (z := ki + 1) (l1 := [(5, (0, 0)), (7, (0, 140 + (4 * ki))), (0, (2, 82)), (1, (0, la)), (2, (0, ra)), (3, (0, ca)), (4, (0, un))]) rfl rfl (by omega) rfl) ?_
                  refine xg_t (xg_goto) ?_
                  refine xg_t (xg_drop (l1 := [(0, (2, 82)), (1, (0, la)), (2, (0, ra)), (3, (0, ca)), (4, (0, un)), (5, (0, 0)), (6, (0, ki + 1))]) (List.forall_mem_cons.mpr ⟨List.mem_cons_of_mem _ (List.mem_cons_of_mem _ (List.mem_cons_of_mem _ (List.mem_cons_self))), List.forall_mem_cons.mpr ⟨List.mem_cons_of_mem _ (List.mem_cons_of_mem _ (List.mem_cons_of_mem _ (List.mem_cons_of_mem _ (List.mem_cons_self)))), List.forall_mem_cons.mpr ⟨List.mem_cons_of_mem _ (List.mem_cons_of_mem _ (List.mem_cons_of_mem _ (List.mem_cons_of_mem _ (List.mem_cons_of_mem _ (List.mem_cons_self))))), List.forall_mem_cons.mpr ⟨List.mem_cons_of_mem _ (List.mem_cons_of_mem _ (List.mem_cons_of_mem _ (List.mem_cons_of_mem _ (List.mem_cons_of_mem _ (List.mem_cons_of_mem _ (List.mem_cons_self)))))), List.forall_mem_cons.mpr ⟨List.mem_cons_of_mem _ (List.mem_cons_of_mem _ (List.mem_cons_of_mem _ (List.mem_cons_of_mem _ (List.mem_cons_of_mem _ (List.mem_cons_of_mem _ (List.mem_cons_of_mem _ (List.mem_cons_self))))))), List.forall_mem_cons.mpr ⟨List.mem_cons_of_mem _ (List.mem_cons_self), List.forall_mem_cons.mpr ⟨List.mem_cons_self, fun _ h => absurd h List.not_mem_nil⟩⟩⟩⟩⟩⟩⟩)) ?_
                  exact ih38 0 (ki + 1) w40 (by omega) (by omega) (by omega) (hI41) (hF42)
              · refine xg_t (xg_ifF (u := la) rfl xnm0 (xj_eqF hc62)) ?_
                refine xg_t (xg_const) ?_
                refine xg_t (xg_goto) ?_
                refine xg_t (xg_blk (b := [(72, 3, 6, 125, 1, 0), (75, 1, 0, 0, 0, 0), (76, 3, 1, 12, 0, 7), (79, 2, 2, 7, 0, 0), (81, 1, 3, 1, 0, 0), (82, 1, 11, 0, 0, 0), (83, 1, 10, 0, 0, 0), (84, 1, 2, 2, 0, 0), (85, 3, 6, 125, 1, 0), (88, 1, 0, 0, 0, 0), (89, 3, 1, 12, 0, 7), (92, 2, 2, 7, 0, 0), (94, 1, 3, 2, 0, 0), (95, 1, 11, 0, 0, 0), (96, 1, 10, 0, 0, 0), (97, 1, 2, 3, 0, 0), (98, 3, 6, 125, 1, 0), (101, 2, 2, 4, 0, 0), (103, 1, 3, 4294967295, 0, 0), (104, 3, 6, 121, 0, 0), (107, 1, 0, 0, 0, 0), (108, 3, 1, 12, 0, 7), (111, 2, 2, 7, 0, 0), (113, 1, 3, 3, 0, 0), (114, 1, 11, 0, 0, 0), (115, 1, 10, 0, 0, 0), (116, 2, 2, 4, 0, 0), (118, 3, 6, 125, 4, 0)]) rfl) ?_
                by_cases hc77 : u59 = 1
                · refine xg_t (xg_icF (u := u59) (v := 1) rfl xnm0 xnm0 (xj_neF hc77)) ?_
                  refine xg_t (xg_aload (va := (2, 82)) rfl rfl) ?_
                  refine xg_t (xg_getf (va := (2, 83)) (hF42.get (by decide) h82_31) rfl) ?_
                  refine xg_t (xg_iload (va := (0, 140 + (4 * ki))) rfl rfl) ?_
                  refine xg_t (xg_const) ?_
                  refine xg_t (xg_iadd (u := 140 + (4 * ki)) (v := 1) (z := (140 + (4 * ki)) + 1) xnm0 xnm0 (by omega)) ?_
                  refine xg_ialdB (n := (140 + (4 * ki)) + 1) (B := 4294967295) (h83_34.fr hF42 (by decide)) (hb35) xnm0 (by omega) (fun u78 hu79 he80 => ?_)
                  refine xg_t (xg_iload (va := (0, ra)) rfl rfl) ?_
                  by_cases hc81 : u78 = ra
                  · refine xg_t (xg_icF (u := u78) (v := ra) rfl xnm0 xnm0 (xj_neF hc81)) ?_
                    refine xg_t (xg_aload (va := (2, 82)) rfl rfl) ?_
                    refine xg_t (xg_getf (va := (2, 83)) (hF42.get (by decide) h82_31) rfl) ?_
                    refine xg_t (xg_iload (va := (0, 140 + (4 * ki))) rfl rfl) ?_
                    refine xg_t (xg_const) ?_
                    refine xg_t (xg_iadd (u := 140 + (4 * ki)) (v := 2) (z := (140 + (4 * ki)) + 2) xnm0 xnm0 (by omega)) ?_
                    refine xg_ialdB (n := (140 + (4 * ki)) + 2) (B := 4294967295) (h83_34.fr hF42 (by decide)) (hb35) xnm0 (by omega) (fun u82 hu83 he84 => ?_)
                    refine xg_t (xg_iload (va := (0, ca)) rfl rfl) ?_
                    by_cases hc85 : u82 = ca
                    · refine xg_t (xg_icF (u := u82) (v := ca) rfl xnm0 xnm0 (xj_neF hc85)) ?_
                      refine xg_t (xg_iload (va := (0, un)) rfl rfl) ?_
                      refine xg_t (xg_const) ?_
                      by_cases hc86 : un = 4294967295
                      · refine xg_t (xg_icT (u := un) (v := 4294967295) rfl xnm0 xnm0 (xj_eqT hc86)) ?_
                        refine xg_t (xg_blk (b := [(121, 1, 3, 1, 0, 0), (122, 3, 8, 126, 0, 0)]) rfl) ?_
                        refine xg_t (xg_const) ?_
                        refine xg_t (xg_goto) ?_
                        refine xg_t (xg_blk (b := [(126, 2, 15, 5, 0, 0)]) rfl) ?_
                        refine xg_t (xg_istore (l1 := [(7, (0, 140 + (4 * ki))), (0, (2, 82)), (1, (0, la)), (2, (0, ra)), (3, (0, ca)), (4, (0, un)), (6, (0, ki))]) rfl rfl rfl) ?_
                        refine xg_t (xg_blk (b := [(128, 3, 9, 6, 1, 0), (131, 3, 8, 6, 0, 0)]) rfl) ?_
                        refine xg_t (xg_iinc (u := ki) (z := ki + 1) (l1 := [(5, (0, 1)), (7, (0, 140 + (4 * ki))), (0, (2, 82)), (1, (0, la)), (2, (0, ra)), (3, (0, ca)), (4, (0, un))]) rfl rfl (by omega) rfl) ?_
                        refine xg_t (xg_goto) ?_
                        refine xg_t (xg_drop (l1 := [(0, (2, 82)), (1, (0, la)), (2, (0, ra)), (3, (0, ca)), (4, (0, un)), (5, (0, 1)), (6, (0, ki + 1))]) (List.forall_mem_cons.mpr ⟨List.mem_cons_of_mem _ (List.mem_cons_of_mem _ (List.mem_cons_of_mem _ (List.mem_cons_self))), List.forall_mem_cons.mpr ⟨List.mem_cons_of_mem _ (List.mem_cons_of_mem _ (List.mem_cons_of_mem _ (List.mem_cons_of_mem _ (List.mem_cons_self)))), List.forall_mem_cons.mpr ⟨List.mem_cons_of_mem _ (List.mem_cons_of_mem _ (List.mem_cons_of_mem _ (List.mem_cons_of_mem _ (List.mem_cons_of_mem _ (List.mem_cons_self))))), List.forall_mem_cons.mpr ⟨List.mem_cons_of_mem _ (List.mem_cons_of_mem _ (List.mem_cons_of_mem _ (List.mem_cons_of_mem _ (List.mem_cons_of_mem _ (List.mem_cons_of_mem _ (List.mem_cons_self)))))), List.forall_mem_cons.mpr ⟨List.mem_cons_of_mem _ (List.mem_cons_of_mem _ (List.mem_cons_of_mem _ (List.mem_cons_of_mem _ (List.mem_cons_of_mem _ (List.mem_cons_of_mem _ (List.mem_cons_of_mem _ (List.mem_cons_self))))))), List.forall_mem_cons.mpr ⟨List.mem_cons_of_mem _ (List.mem_cons_self), List.forall_mem_cons.mpr ⟨List.mem_cons_self, fun _ h => absurd h List.not_mem_nil⟩⟩⟩⟩⟩⟩⟩)) ?_
                        exact ih38 1 (ki + 1) w40 (by omega) (by omega) (by omega) (hI41) (hF42)
                      · refine xg_t (xg_icF (u := un) (v := 4294967295) rfl xnm0 xnm0 (xj_eqF hc86)) ?_
                        refine xg_t (xg_aload (va := (2, 82)) rfl rfl) ?_
                        refine xg_t (xg_getf (va := (2, 83)) (hF42.get (by decide) h82_31) rfl) ?_
                        refine xg_t (xg_iload (va := (0, 140 + (4 * ki))) rfl rfl) ?_
                        refine xg_t (xg_const) ?_
                        refine xg_t (xg_iadd (u := 140 + (4 * ki)) (v := 3) (z := (140 + (4 * ki)) + 3) xnm0 xnm0 (by omega)) ?_
                        refine xg_ialdB (n := (140 + (4 * ki)) + 3) (B := 4294967295) (h83_34.fr hF42 (by decide)) (hb35) xnm0 (by omega) (fun u87 hu88 he89 => ?_)
                        refine xg_t (xg_iload (va := (0, un)) rfl rfl) ?_
                        by_cases hc90 : xbs un < xbs u87
                        · have hc90u := hc90
                          unfold xbs at hc90u
                          refine xg_t (xg_icT (u := u87) (v := un) rfl xnm0 xnm0 (xjs_gtT hc90)) ?_
                          refine xg_t (xg_blk (b := [(125, 1, 3, 0, 0, 0)]) rfl) ?_
                          refine xg_t (xg_const) ?_
                          refine xg_t (xg_blk (b := [(126, 2, 15, 5, 0, 0)]) rfl) ?_
                          refine xg_t (xg_istore (l1 := [(7, (0, 140 + (4 * ki))), (0, (2, 82)), (1, (0, la)), (2, (0, ra)), (3, (0, ca)), (4, (0, un)), (6, (0, ki))]) rfl rfl rfl) ?_
                          refine xg_t (xg_blk (b := [(128, 3, 9, 6, 1, 0), (131, 3, 8, 6, 0, 0)]) rfl) ?_
                          refine xg_t (xg_iinc (u := ki) (z := ki + 1) (l1 := [(5, (0, 0)), (7, (0, 140 + (4 * ki))), (0, (2, 82)), (1, (0, la)), (2, (0, ra)), (3, (0, ca)), (4, (0, un))]) rfl rfl (by omega) rfl) ?_
                          refine xg_t (xg_goto) ?_
                          refine xg_t (xg_drop (l1 := [(0, (2, 82)), (1, (0, la)), (2, (0, ra)), (3, (0, ca)), (4, (0, un)), (5, (0, 0)), (6, (0, ki + 1))]) (List.forall_mem_cons.mpr ⟨List.mem_cons_of_mem _ (List.mem_cons_of_mem _ (List.mem_cons_of_mem _ (List.mem_cons_self))), List.forall_mem_cons.mpr ⟨List.mem_cons_of_mem _ (List.mem_cons_of_mem _ (List.mem_cons_of_mem _ (List.mem_cons_of_mem _ (List.mem_cons_self)))), List.forall_mem_cons.mpr ⟨List.mem_cons_of_mem _ (List.mem_cons_of_mem _ (List.mem_cons_of_mem _ (List.mem_cons_of_mem _ (List.mem_cons_of_mem _ (List.mem_cons_self))))), List.forall_mem_cons.mpr ⟨List.mem_cons_of_mem _ (List.mem_cons_of_mem _ (List.mem_cons_of_mem _ (List.mem_cons_of_mem _ (List.mem_cons_of_mem _ (List.mem_cons_of_mem _ (List.mem_cons_self)))))), List.forall_mem_cons.mpr ⟨List.mem_cons_of_mem _ (List.mem_cons_of_mem _ (List.mem_cons_of_mem _ (List.mem_cons_of_mem _ (List.mem_cons_of_mem _ (List.mem_cons_of_mem _ (List.mem_cons_of_mem _ (List.mem_cons_self))))))), List.forall_mem_cons.mpr ⟨List.mem_cons_of_mem _ (List.mem_cons_self), List.forall_mem_cons.mpr ⟨List.mem_cons_self, fun _ h => absurd h List.not_mem_nil⟩⟩⟩⟩⟩⟩⟩)) ?_
                          exact ih38 0 (ki + 1) w40 (by omega) (by omega) (by omega) (hI41) (hF42)
                        · have hc90u := hc90
                          unfold xbs at hc90u
                          refine xg_t (xg_icF (u := u87) (v := un) rfl xnm0 xnm0 (xjs_gtF hc90)) ?_
                          refine xg_t (xg_blk (b := [(121, 1, 3, 1, 0, 0), (122, 3, 8, 126, 0, 0)]) rfl) ?_
                          refine xg_t (xg_const) ?_
                          refine xg_t (xg_goto) ?_
                          refine xg_t (xg_blk (b := [(126, 2, 15, 5, 0, 0)]) rfl) ?_
                          refine xg_t (xg_istore (l1 := [(7, (0, 140 + (4 * ki))), (0, (2, 82)), (1, (0, la)), (2, (0, ra)), (3, (0, ca)), (4, (0, un)), (6, (0, ki))]) rfl rfl rfl) ?_
                          refine xg_t (xg_blk (b := [(128, 3, 9, 6, 1, 0), (131, 3, 8, 6, 0, 0)]) rfl) ?_
                          refine xg_t (xg_iinc (u := ki) (z := ki + 1) (l1 := [(5, (0, 1)), (7, (0, 140 + (4 * ki))), (0, (2, 82)), (1, (0, la)), (2, (0, ra)), (3, (0, ca)), (4, (0, un))]) rfl rfl (by omega) rfl) ?_
                          refine xg_t (xg_goto) ?_
                          refine xg_t (xg_drop (l1 := [(0, (2, 82)), (1, (0, la)), (2, (0, ra)), (3, (0, ca)), (4, (0, un)), (5, (0, 1)), (6, (0, ki + 1))]) (List.forall_mem_cons.mpr ⟨List.mem_cons_of_mem _ (List.mem_cons_of_mem _ (List.mem_cons_of_mem _ (List.mem_cons_self))), List.forall_mem_cons.mpr ⟨List.mem_cons_of_mem _ (List.mem_cons_of_mem _ (List.mem_cons_of_mem _ (List.mem_cons_of_mem _ (List.mem_cons_self)))), List.forall_mem_cons.mpr ⟨List.mem_cons_of_mem _ (List.mem_cons_of_mem _ (List.mem_cons_of_mem _ (List.mem_cons_of_mem _ (List.mem_cons_of_mem _ (List.mem_cons_self))))), List.forall_mem_cons.mpr ⟨List.mem_cons_of_mem _ (List.mem_cons_of_mem _ (List.mem_cons_of_mem _ (List.mem_cons_of_mem _ (List.mem_cons_of_mem _ (List.mem_cons_of_mem _ (List.mem_cons_self)))))), List.forall_mem_cons.mpr ⟨List.mem_cons_of_mem _ (List.mem_cons_of_mem _ (List.mem_cons_of_mem _ (List.mem_cons_of_mem _ (List.mem_cons_of_mem _ (List.mem_cons_of_mem _ (List.mem_cons_of_mem _ (List.mem_cons_self))))))), List.forall_mem_cons.mpr ⟨List.mem_cons_of_mem _ (List.mem_cons_self), List.forall_mem_cons.mpr ⟨List.mem_cons_self, fun _ h => absurd h List.not_mem_nil⟩⟩⟩⟩⟩⟩⟩)) ?_
                          exact ih38 1 (ki + 1) w40 (by omega) (by omega) (by omega) (hI41) (hF42)
                    · refine xg_t (xg_icT (u := u82) (v := ca) rfl xnm0 xnm0 (xj_neT hc85)) ?_
                      refine xg_t (xg_blk (b := [(125, 1, 3, 0, 0, 0)]) rfl) ?_
                      refine xg_t (xg_const) ?_
                      refine xg_t (xg_blk (b := [(126, 2, 15, 5, 0, 0)]) rfl) ?_
                      refine xg_t (xg_istore (l1 := [(7, (0, 140 + (4 * ki))), (0, (2, 82)), (1, (0, la)), (2, (0, ra)), (3, (0, ca)), (4, (0, un)), (6, (0, ki))]) rfl rfl rfl) ?_
                      refine xg_t (xg_blk (b := [(128, 3, 9, 6, 1, 0), (131, 3, 8, 6, 0, 0)]) rfl) ?_
                      refine xg_t (xg_iinc (u := ki) (z := ki + 1) (l1 := [(5, (0, 0)), (7, (0, 140 + (4 * ki))), (0, (2, 82)), (1, (0, la)), (2, (0, ra)), (3, (0, ca)), (4, (0, un))]) rfl rfl (by omega) rfl) ?_
                      refine xg_t (xg_goto) ?_
                      refine xg_t (xg_drop (l1 := [(0, (2, 82)), (1, (0, la)), (2, (0, ra)), (3, (0, ca)), (4, (0, un)), (5, (0, 0)), (6, (0, ki + 1))]) (List.forall_mem_cons.mpr ⟨List.mem_cons_of_mem _ (List.mem_cons_of_mem _ (List.mem_cons_of_mem _ (List.mem_cons_self))), List.forall_mem_cons.mpr ⟨List.mem_cons_of_mem _ (List.mem_cons_of_mem _ (List.mem_cons_of_mem _ (List.mem_cons_of_mem _ (List.mem_cons_self)))), List.forall_mem_cons.mpr ⟨List.mem_cons_of_mem _ (List.mem_cons_of_mem _ (List.mem_cons_of_mem _ (List.mem_cons_of_mem _ (List.mem_cons_of_mem _ (List.mem_cons_self))))), List.forall_mem_cons.mpr ⟨List.mem_cons_of_mem _ (List.mem_cons_of_mem _ (List.mem_cons_of_mem _ (List.mem_cons_of_mem _ (List.mem_cons_of_mem _ (List.mem_cons_of_mem _ (List.mem_cons_self)))))), List.forall_mem_cons.mpr ⟨List.mem_cons_of_mem _ (List.mem_cons_of_mem _ (List.mem_cons_of_mem _ (List.mem_cons_of_mem _ (List.mem_cons_of_mem _ (List.mem_cons_of_mem _ (List.mem_cons_of_mem _ (List.mem_cons_self))))))), List.forall_mem_cons.mpr ⟨List.mem_cons_of_mem _ (List.mem_cons_self), List.forall_mem_cons.mpr ⟨List.mem_cons_self, fun _ h => absurd h List.not_mem_nil⟩⟩⟩⟩⟩⟩⟩)) ?_
                      exact ih38 0 (ki + 1) w40 (by omega) (by omega) (by omega) (hI41) (hF42)
                  · refine xg_t (xg_icT (u := u78) (v := ra) rfl xnm0 xnm0 (xj_neT hc81)) ?_
                    refine xg_t (xg_blk (b := [(125, 1, 3, 0, 0, 0)]) rfl) ?_
                    refine xg_t (xg_const) ?_
                    refine xg_t (xg_blk (b := [(126, 2, 15, 5, 0, 0)]) rfl) ?_
                    refine xg_t (xg_istore (l1 := [(7, (0, 140 + (4 * ki))), (0, (2, 82)), (1, (0, la)), (2, (0, ra)), (3, (0, ca)), (4, (0, un)), (6, (0, ki))]) rfl rfl rfl) ?_
                    refine xg_t (xg_blk (b := [(128, 3, 9, 6, 1, 0), (131, 3, 8, 6, 0, 0)]) rfl) ?_
                    refine xg_t (xg_iinc (u := ki) (z := ki + 1) (l1 := [(5, (0, 0)), (7, (0, 140 + (4 * ki))), (0, (2, 82)), (1, (0, la)), (2, (0, ra)), (3, (0, ca)), (4, (0, un))]) rfl rfl (by omega) rfl) ?_
                    refine xg_t (xg_goto) ?_
                    refine xg_t (xg_drop (l1 := [(0, (2, 82)), (1, (0, la)), (2, (0, ra)), (3, (0, ca)), (4, (0, un)), (5, (0, 0)), (6, (0, ki + 1))]) (List.forall_mem_cons.mpr ⟨List.mem_cons_of_mem _ (List.mem_cons_of_mem _ (List.mem_cons_of_mem _ (List.mem_cons_self))), List.forall_mem_cons.mpr ⟨List.mem_cons_of_mem _ (List.mem_cons_of_mem _ (List.mem_cons_of_mem _ (List.mem_cons_of_mem _ (List.mem_cons_self)))), List.forall_mem_cons.mpr ⟨List.mem_cons_of_mem _ (List.mem_cons_of_mem _ (List.mem_cons_of_mem _ (List.mem_cons_of_mem _ (List.mem_cons_of_mem _ (List.mem_cons_self))))), List.forall_mem_cons.mpr ⟨List.mem_cons_of_mem _ (List.mem_cons_of_mem _ (List.mem_cons_of_mem _ (List.mem_cons_of_mem _ (List.mem_cons_of_mem _ (List.mem_cons_of_mem _ (List.mem_cons_self)))))), List.forall_mem_cons.mpr ⟨List.mem_cons_of_mem _ (List.mem_cons_of_mem _ (List.mem_cons_of_mem _ (List.mem_cons_of_mem _ (List.mem_cons_of_mem _ (List.mem_cons_of_mem _ (List.mem_cons_of_mem _ (List.mem_cons_self))))))), List.forall_mem_cons.mpr ⟨List.mem_cons_of_mem _ (List.mem_cons_self), List.forall_mem_cons.mpr ⟨List.mem_cons_self, fun _ h => absurd h List.not_mem_nil⟩⟩⟩⟩⟩⟩⟩)) ?_
                    exact ih38 0 (ki + 1) w40 (by omega) (by omega) (by omega) (hI41) (hF42)
                · refine xg_t (xg_icT (u := u59) (v := 1) rfl xnm0 xnm0 (xj_neT hc77)) ?_
                  refine xg_t (xg_blk (b := [(125, 1, 3, 0, 0, 0)]) rfl) ?_
                  refine xg_t (xg_const) ?_
                  refine xg_t (xg_blk (b := [(126, 2, 15, 5, 0, 0)]) rfl) ?_
                  refine xg_t (xg_istore (l1 := [(7, (0, 140 + (4 * ki))), (0, (2, 82)), (1, (0, la)), (2, (0, ra)), (3, (0, ca)), (4, (0, un)), (6, (0, ki))]) rfl rfl rfl) ?_
                  refine xg_t (xg_blk (b := [(128, 3, 9, 6, 1, 0), (131, 3, 8, 6, 0, 0)]) rfl) ?_
                  refine xg_t (xg_iinc (u := ki) (z := ki + 1) (l1 := [(5, (0, 0)), (7, (0, 140 + (4 * ki))), (0, (2, 82)), (1, (0, la)), (2, (0, ra)), (3, (0, ca)), (4, (0, un))]) rfl rfl (by omega) rfl) ?_
                  refine xg_t (xg_goto) ?_
                  refine xg_t (xg_drop (l1 := [(0, (2, 82)), (1, (0, la)), (2, (0, ra)), (3, (0, ca)), (4, (0, un)), (5, (0, 0)), (6, (0, ki + 1))]) (List.forall_mem_cons.mpr ⟨List.mem_cons_of_mem _ (List.mem_cons_of_mem _ (List.mem_cons_of_mem _ (List.mem_cons_self))), List.forall_mem_cons.mpr ⟨List.mem_cons_of_mem _ (List.mem_cons_of_mem _ (List.mem_cons_of_mem _ (List.mem_cons_of_mem _ (List.mem_cons_self)))), List.forall_mem_cons.mpr ⟨List.mem_cons_of_mem _ (List.mem_cons_of_mem _ (List.mem_cons_of_mem _ (List.mem_cons_of_mem _ (List.mem_cons_of_mem _ (List.mem_cons_self))))), List.forall_mem_cons.mpr ⟨List.mem_cons_of_mem _ (List.mem_cons_of_mem _ (List.mem_cons_of_mem _ (List.mem_cons_of_mem _ (List.mem_cons_of_mem _ (List.mem_cons_of_mem _ (List.mem_cons_self)))))), List.forall_mem_cons.mpr ⟨List.mem_cons_of_mem _ (List.mem_cons_of_mem _ (List.mem_cons_of_mem _ (List.mem_cons_of_mem _ (List.mem_cons_of_mem _ (List.mem_cons_of_mem _ (List.mem_cons_of_mem _ (List.mem_cons_self))))))), List.forall_mem_cons.mpr ⟨List.mem_cons_of_mem _ (List.mem_cons_self), List.forall_mem_cons.mpr ⟨List.mem_cons_self, fun _ h => absurd h List.not_mem_nil⟩⟩⟩⟩⟩⟩⟩)) ?_
                  exact ih38 0 (ki + 1) w40 (by omega) (by omega) (by omega) (hI41) (hF42)
          · refine xg_t (xg_icT (u := ki) (v := 10) rfl xnm0 xnm0 (xj_geT (by omega) (by omega))) ?_
            refine xg_t (xg_blk (b := [(56, 1, 0, 0, 0, 0), (57, 3, 1, 12, 0, 7), (60, 2, 2, 7, 0, 0), (62, 1, 10, 0, 0, 0), (63, 1, 2, 1, 0, 0), (64, 3, 7, 71, 0, 0), (67, 1, 3, 1, 0, 0), (68, 3, 8, 72, 0, 0)]) rfl) ?_
            refine xg_t (xg_aload (va := (2, 82)) rfl rfl) ?_
            refine xg_t (xg_getf (va := (2, 83)) (hF42.get (by decide) h82_31) rfl) ?_
            refine xg_t (xg_iload (va := (0, 140 + (4 * ki))) rfl rfl) ?_
            refine xg_ialdB (n := 140 + (4 * ki)) (B := 4294967295) (h83_34.fr hF42 (by decide)) (hb35) xnm0 (by omega) (fun u91 hu92 he93 => ?_)
            refine xg_t (xg_iload (va := (0, la)) rfl rfl) ?_
            by_cases hc94 : la = 0
            · refine xg_t (xg_ifT (u := la) rfl xnm0 (xj_eqT hc94)) ?_
              refine xg_t (xg_blk (b := [(71, 1, 3, 0, 0, 0)]) rfl) ?_
              refine xg_t (xg_const) ?_
              refine xg_t (xg_blk (b := [(72, 3, 6, 125, 1, 0), (75, 1, 0, 0, 0, 0), (76, 3, 1, 12, 0, 7), (79, 2, 2, 7, 0, 0), (81, 1, 3, 1, 0, 0), (82, 1, 11, 0, 0, 0), (83, 1, 10, 0, 0, 0), (84, 1, 2, 2, 0, 0), (85, 3, 6, 125, 1, 0), (88, 1, 0, 0, 0, 0), (89, 3, 1, 12, 0, 7), (92, 2, 2, 7, 0, 0), (94, 1, 3, 2, 0, 0), (95, 1, 11, 0, 0, 0), (96, 1, 10, 0, 0, 0), (97, 1, 2, 3, 0, 0), (98, 3, 6, 125, 1, 0), (101, 2, 2, 4, 0, 0), (103, 1, 3, 4294967295, 0, 0), (104, 3, 6, 121, 0, 0), (107, 1, 0, 0, 0, 0), (108, 3, 1, 12, 0, 7), (111, 2, 2, 7, 0, 0), (113, 1, 3, 3, 0, 0), (114, 1, 11, 0, 0, 0), (115, 1, 10, 0, 0, 0), (116, 2, 2, 4, 0, 0), (118, 3, 6, 125, 4, 0)]) rfl) ?_
              by_cases hc95 : u91 = 0
              · refine xg_t (xg_icF (u := u91) (v := 0) rfl xnm0 xnm0 (xj_neF hc95)) ?_
                refine xg_t (xg_aload (va := (2, 82)) rfl rfl) ?_
                refine xg_t (xg_getf (va := (2, 83)) (hF42.get (by decide) h82_31) rfl) ?_
                refine xg_t (xg_iload (va := (0, 140 + (4 * ki))) rfl rfl) ?_
                refine xg_t (xg_const) ?_
                refine xg_t (xg_iadd (u := 140 + (4 * ki)) (v := 1) (z := (140 + (4 * ki)) + 1) xnm0 xnm0 (by omega)) ?_
                refine xg_ialdB (n := (140 + (4 * ki)) + 1) (B := 4294967295) (h83_34.fr hF42 (by decide)) (hb35) xnm0 (by omega) (fun u96 hu97 he98 => ?_)
                refine xg_t (xg_iload (va := (0, ra)) rfl rfl) ?_
                by_cases hc99 : u96 = ra
                · refine xg_t (xg_icF (u := u96) (v := ra) rfl xnm0 xnm0 (xj_neF hc99)) ?_
                  refine xg_t (xg_aload (va := (2, 82)) rfl rfl) ?_
                  refine xg_t (xg_getf (va := (2, 83)) (hF42.get (by decide) h82_31) rfl) ?_
                  refine xg_t (xg_iload (va := (0, 140 + (4 * ki))) rfl rfl) ?_
                  refine xg_t (xg_const) ?_
                  refine xg_t (xg_iadd (u := 140 + (4 * ki)) (v := 2) (z := (140 + (4 * ki)) + 2) xnm0 xnm0 (by omega)) ?_
                  refine xg_ialdB (n := (140 + (4 * ki)) + 2) (B := 4294967295) (h83_34.fr hF42 (by decide)) (hb35) xnm0 (by omega) (fun u100 hu101 he102 => ?_)
                  refine xg_t (xg_iload (va := (0, ca)) rfl rfl) ?_
                  by_cases hc103 : u100 = ca
                  · refine xg_t (xg_icF (u := u100) (v := ca) rfl xnm0 xnm0 (xj_neF hc103)) ?_
                    refine xg_t (xg_iload (va := (0, un)) rfl rfl) ?_
                    refine xg_t (xg_const) ?_
                    by_cases hc104 : un = 4294967295
                    · refine xg_t (xg_icT (u := un) (v := 4294967295) rfl xnm0 xnm0 (xj_eqT hc104)) ?_
                      refine xg_t (xg_blk (b := [(121, 1, 3, 1, 0, 0), (122, 3, 8, 126, 0, 0)]) rfl) ?_
                      refine xg_t (xg_const) ?_
                      refine xg_t (xg_goto) ?_
                      refine xg_t (xg_blk (b := [(126, 2, 15, 5, 0, 0)]) rfl) ?_
                      refine xg_t (xg_istore (l1 := [(7, (0, 140 + (4 * ki))), (0, (2, 82)), (1, (0, la)), (2, (0, ra)), (3, (0, ca)), (4, (0, un)), (6, (0, ki))]) rfl rfl rfl) ?_
                      refine xg_t (xg_blk (b := [(128, 3, 9, 6, 1, 0), (131, 3, 8, 6, 0, 0)]) rfl) ?_
                      refine xg_t (xg_iinc (u := ki) (z := ki + 1) (l1 := [(5, (0, 1)), (7, (0, 140 + (4 * ki))), (0, (2, 82)), (1, (0, la)), (2, (0, ra)), (3, (0, ca)), (4, (0, un))]) rfl rfl (by omega) rfl) ?_
                      refine xg_t (xg_goto) ?_
                      refine xg_t (xg_drop (l1 := [(0, (2, 82)), (1, (0, la)), (2, (0, ra)), (3, (0, ca)), (4, (0, un)), (5, (0, 1)), (6, (0, ki + 1))]) (List.forall_mem_cons.mpr ⟨List.mem_cons_of_mem _ (List.mem_cons_of_mem _ (List.mem_cons_of_mem _ (List.mem_cons_self))), List.forall_mem_cons.mpr ⟨List.mem_cons_of_mem _ (List.mem_cons_of_mem _ (List.mem_cons_of_mem _ (List.mem_cons_of_mem _ (List.mem_cons_self)))), List.forall_mem_cons.mpr ⟨List.mem_cons_of_mem _ (List.mem_cons_of_mem _ (List.mem_cons_of_mem _ (List.mem_cons_of_mem _ (List.mem_cons_of_mem _ (List.mem_cons_self))))), List.forall_mem_cons.mpr ⟨List.mem_cons_of_mem _ (List.mem_cons_of_mem _ (List.mem_cons_of_mem _ (List.mem_cons_of_mem _ (List.mem_cons_of_mem _ (List.mem_cons_of_mem _ (List.mem_cons_self)))))), List.forall_mem_cons.mpr ⟨List.mem_cons_of_mem _ (List.mem_cons_of_mem _ (List.mem_cons_of_mem _ (List.mem_cons_of_mem _ (List.mem_cons_of_mem _ (List.mem_cons_of_mem _ (List.mem_cons_of_mem _ (List.mem_cons_self))))))), List.forall_mem_cons.mpr ⟨List.mem_cons_of_mem _ (List.mem_cons_self), List.forall_mem_cons.mpr ⟨List.mem_cons_self, fun _ h => absurd h List.not_mem_nil⟩⟩⟩⟩⟩⟩⟩)) ?_
                      exact ih38 1 (ki + 1) w40 (by omega) (by omega) (by omega) (hI41) (hF42)
                    · refine xg_t (xg_icF (u := un) (v := 4294967295) rfl xnm0 xnm0 (xj_eqF hc104)) ?_
                      refine xg_t (xg_aload (va := (2, 82)) rfl rfl) ?_
                      refine xg_t (xg_getf (va := (2, 83)) (hF42.get (by decide) h82_31) rfl) ?_
                      refine xg_t (xg_iload (va := (0, 140 + (4 * ki))) rfl rfl) ?_
                      refine xg_t (xg_const) ?_
                      refine xg_t (xg_iadd (u := 140 + (4 * ki)) (v := 3) (z := (140 + (4 * ki)) + 3) xnm0 xnm0 (by omega)) ?_
                      refine xg_ialdB (n := (140 + (4 * ki)) + 3) (B := 4294967295) (h83_34.fr hF42 (by decide)) (hb35) xnm0 (by omega) (fun u105 hu106 he107 => ?_)
                      refine xg_t (xg_iload (va := (0, un)) rfl rfl) ?_
                      by_cases hc108 : xbs un < xbs u105
                      · have hc108u := hc108
                        unfold xbs at hc108u
                        refine xg_t (xg_icT (u := u105) (v := un) rfl xnm0 xnm0 (xjs_gtT hc108)) ?_
                        refine xg_t (xg_blk (b := [(125, 1, 3, 0, 0, 0)]) rfl) ?_
                        refine xg_t (xg_const) ?_
                        refine xg_t (xg_blk (b := [(126, 2, 15, 5, 0, 0)]) rfl) ?_
                        refine xg_t (xg_istore (l1 := [(7, (0, 140 + (4 * ki))), (0, (2, 82)), (1, (0, la)), (2, (0, ra)), (3, (0, ca)), (4, (0, un)), (6, (0, ki))]) rfl rfl rfl) ?_
                        refine xg_t (xg_blk (b := [(128, 3, 9, 6, 1, 0), (131, 3, 8, 6, 0, 0)]) rfl) ?_
                        refine xg_t (xg_iinc (u := ki) (z := ki + 1) (l1 := [(5, (0, 0)), (7, (0, 140 + (4 * ki))), (0, (2, 82)), (1, (0, la)), (2, (0, ra)), (3, (0, ca)), (4, (0, un))]) rfl rfl (by omega) rfl) ?_
                        refine xg_t (xg_goto) ?_
                        refine xg_t (xg_drop (l1 := [(0, (2, 82)), (1, (0, la)), (2, (0, ra)), (3, (0, ca)), (4, (0, un)), (5, (0, 0)), (6, (0, ki + 1))]) (List.forall_mem_cons.mpr ⟨List.mem_cons_of_mem _ (List.mem_cons_of_mem _ (List.mem_cons_of_mem _ (List.mem_cons_self))), List.forall_mem_cons.mpr ⟨List.mem_cons_of_mem _ (List.mem_cons_of_mem _ (List.mem_cons_of_mem _ (List.mem_cons_of_mem _ (List.mem_cons_self)))), List.forall_mem_cons.mpr ⟨List.mem_cons_of_mem _ (List.mem_cons_of_mem _ (List.mem_cons_of_mem _ (List.mem_cons_of_mem _ (List.mem_cons_of_mem _ (List.mem_cons_self))))), List.forall_mem_cons.mpr ⟨List.mem_cons_of_mem _ (List.mem_cons_of_mem _ (List.mem_cons_of_mem _ (List.mem_cons_of_mem _ (List.mem_cons_of_mem _ (List.mem_cons_of_mem _ (List.mem_cons_self)))))), List.forall_mem_cons.mpr ⟨List.mem_cons_of_mem _ (List.mem_cons_of_mem _ (List.mem_cons_of_mem _ (List.mem_cons_of_mem _ (List.mem_cons_of_mem _ (List.mem_cons_of_mem _ (List.mem_cons_of_mem _ (List.mem_cons_self))))))), List.forall_mem_cons.mpr ⟨List.mem_cons_of_mem _ (List.mem_cons_self), List.forall_mem_cons.mpr ⟨List.mem_cons_self, fun _ h => absurd h List.not_mem_nil⟩⟩⟩⟩⟩⟩⟩)) ?_
                        exact ih38 0 (ki + 1) w40 (by omega) (by omega) (by omega) (hI41) (hF42)
                      · have hc108u := hc108
                        unfold xbs at hc108u
                        refine xg_t (xg_icF (u := u105) (v := un) rfl xnm0 xnm0 (xjs_gtF hc108)) ?_
                        refine xg_t (xg_blk (b := [(121, 1, 3, 1, 0, 0), (122, 3, 8, 126, 0, 0)]) rfl) ?_
                        refine xg_t (xg_const) ?_
                        refine xg_t (xg_goto) ?_
                        refine xg_t (xg_blk (b := [(126, 2, 15, 5, 0, 0)]) rfl) ?_
                        refine xg_t (xg_istore (l1 := [(7, (0, 140 + (4 * ki))), (0, (2, 82)), (1, (0, la)), (2, (0, ra)), (3, (0, ca)), (4, (0, un)), (6, (0, ki))]) rfl rfl rfl) ?_
                        refine xg_t (xg_blk (b := [(128, 3, 9, 6, 1, 0), (131, 3, 8, 6, 0, 0)]) rfl) ?_
                        refine xg_t (xg_iinc (u := ki) (z := ki + 1) (l1 := [(5, (0, 1)), (7, (0, 140 + (4 * ki))), (0, (2, 82)), (1, (0, la)), (2, (0, ra)), (3, (0, ca)), (4, (0, un))]) rfl rfl (by omega) rfl) ?_
                        refine xg_t (xg_goto) ?_
                        refine xg_t (xg_drop (l1 := [(0, (2, 82)), (1, (0, la)), (2, (0, ra)), (3, (0, ca)), (4, (0, un)), (5, (0, 1)), (6, (0, ki + 1))]) (List.forall_mem_cons.mpr ⟨List.mem_cons_of_mem _ (List.mem_cons_of_mem _ (List.mem_cons_of_mem _ (List.mem_cons_self))), List.forall_mem_cons.mpr ⟨List.mem_cons_of_mem _ (List.mem_cons_of_mem _ (List.mem_cons_of_mem _ (List.mem_cons_of_mem _ (List.mem_cons_self)))), List.forall_mem_cons.mpr ⟨List.mem_cons_of_mem _ (List.mem_cons_of_mem _ (List.mem_cons_of_mem _ (List.mem_cons_of_mem _ (List.mem_cons_of_mem _ (List.mem_cons_self))))), List.forall_mem_cons.mpr ⟨List.mem_cons_of_mem _ (List.mem_cons_of_mem _ (List.mem_cons_of_mem _ (List.mem_cons_of_mem _ (List.mem_cons_of_mem _ (List.mem_cons_of_mem _ (List.mem_cons_self)))))), List.forall_mem_cons.mpr ⟨List.mem_cons_of_mem _ (List.mem_cons_of_mem _ (List.mem_cons_of_mem _ (List.mem_cons_of_mem _ (List.mem_cons_of_mem _ (List.mem_cons_of_mem _ (List.mem_cons_of_mem _ (List.mem_cons_self))))))), List.forall_mem_cons.mpr ⟨List.mem_cons_of_mem _ (List.mem_cons_self), List.forall_mem_cons.mpr ⟨List.mem_cons_self, fun _ h => absurd h List.not_mem_nil⟩⟩⟩⟩⟩⟩⟩)) ?_
                        exact ih38 1 (ki + 1) w40 (by omega) (by omega) (by omega) (hI41) (hF42)
                  · refine xg_t (xg_icT (u := u100) (v := ca) rfl xnm0 xnm0 (xj_neT hc103)) ?_
                    refine xg_t (xg_blk (b := [(125, 1, 3, 0, 0, 0)]) rfl) ?_
                    refine xg_t (xg_const) ?_
                    refine xg_t (xg_blk (b := [(126, 2, 15, 5, 0, 0)]) rfl) ?_
                    refine xg_t (xg_istore (l1 := [(7, (0, 140 + (4 * ki))), (0, (2, 82)), (1, (0, la)), (2, (0, ra)), (3, (0, ca)), (4, (0, un)), (6, (0, ki))]) rfl rfl rfl) ?_
                    refine xg_t (xg_blk (b := [(128, 3, 9, 6, 1, 0), (131, 3, 8, 6, 0, 0)]) rfl) ?_
                    refine xg_t (xg_iinc (u := ki) (z := ki + 1) (l1 := [(5, (0, 0)), (7, (0, 140 + (4 * ki))), (0, (2, 82)), (1, (0, la)), (2, (0, ra)), (3, (0, ca)), (4, (0, un))]) rfl rfl (by omega) rfl) ?_
                    refine xg_t (xg_goto) ?_
                    refine xg_t (xg_drop (l1 := [(0, (2, 82)), (1, (0, la)), (2, (0, ra)), (3, (0, ca)), (4, (0, un)), (5, (0, 0)), (6, (0, ki + 1))]) (List.forall_mem_cons.mpr ⟨List.mem_cons_of_mem _ (List.mem_cons_of_mem _ (List.mem_cons_of_mem _ (List.mem_cons_self))), List.forall_mem_cons.mpr ⟨List.mem_cons_of_mem _ (List.mem_cons_of_mem _ (List.mem_cons_of_mem _ (List.mem_cons_of_mem _ (List.mem_cons_self)))), List.forall_mem_cons.mpr ⟨List.mem_cons_of_mem _ (List.mem_cons_of_mem _ (List.mem_cons_of_mem _ (List.mem_cons_of_mem _ (List.mem_cons_of_mem _ (List.mem_cons_self))))), List.forall_mem_cons.mpr ⟨List.mem_cons_of_mem _ (List.mem_cons_of_mem _ (List.mem_cons_of_mem _ (List.mem_cons_of_mem _ (List.mem_cons_of_mem _ (List.mem_cons_of_mem _ (List.mem_cons_self)))))), List.forall_mem_cons.mpr ⟨List.mem_cons_of_mem _ (List.mem_cons_of_mem _ (List.mem_cons_of_mem _ (List.mem_cons_of_mem _ (List.mem_cons_of_mem _ (List.mem_cons_of_mem _ (List.mem_cons_of_mem _ (List.mem_cons_self))))))), List.forall_mem_cons.mpr ⟨List.mem_cons_of_mem _ (List.mem_cons_self), List.forall_mem_cons.mpr ⟨List.mem_cons_self, fun _ h => absurd h List.not_mem_nil⟩⟩⟩⟩⟩⟩⟩)) ?_
                    exact ih38 0 (ki + 1) w40 (by omega) (by omega) (by omega) (hI41) (hF42)
                · refine xg_t (xg_icT (u := u96) (v := ra) rfl xnm0 xnm0 (xj_neT hc99)) ?_
                  refine xg_t (xg_blk (b := [(125, 1, 3, 0, 0, 0)]) rfl) ?_
                  refine xg_t (xg_const) ?_
                  refine xg_t (xg_blk (b := [(126, 2, 15, 5, 0, 0)]) rfl) ?_
                  refine xg_t (xg_istore (l1 := [(7, (0, 140 + (4 * ki))), (0, (2, 82)), (1, (0, la)), (2, (0, ra)), (3, (0, ca)), (4, (0, un)), (6, (0, ki))]) rfl rfl rfl) ?_
                  refine xg_t (xg_blk (b := [(128, 3, 9, 6, 1, 0), (131, 3, 8, 6, 0, 0)]) rfl) ?_
                  refine xg_t (xg_iinc (u := ki) (z := ki + 1) (l1 := [(5, (0, 0)), (7, (0, 140 + (4 * ki))), (0, (2, 82)), (1, (0, la)), (2, (0, ra)), (3, (0, ca)), (4, (0, un))]) rfl rfl (by omega) rfl) ?_
                  refine xg_t (xg_goto) ?_
                  refine xg_t (xg_drop (l1 := [(0, (2, 82)), (1, (0, la)), (2, (0, ra)), (3, (0, ca)), (4, (0, un)), (5, (0, 0)), (6, (0, ki + 1))]) (List.forall_mem_cons.mpr ⟨List.mem_cons_of_mem _ (List.mem_cons_of_mem _ (List.mem_cons_of_mem _ (List.mem_cons_self))), List.forall_mem_cons.mpr ⟨List.mem_cons_of_mem _ (List.mem_cons_of_mem _ (List.mem_cons_of_mem _ (List.mem_cons_of_mem _ (List.mem_cons_self)))), List.forall_mem_cons.mpr ⟨List.mem_cons_of_mem _ (List.mem_cons_of_mem _ (List.mem_cons_of_mem _ (List.mem_cons_of_mem _ (List.mem_cons_of_mem _ (List.mem_cons_self))))), List.forall_mem_cons.mpr ⟨List.mem_cons_of_mem _ (List.mem_cons_of_mem _ (List.mem_cons_of_mem _ (List.mem_cons_of_mem _ (List.mem_cons_of_mem _ (List.mem_cons_of_mem _ (List.mem_cons_self)))))), List.forall_mem_cons.mpr ⟨List.mem_cons_of_mem _ (List.mem_cons_of_mem _ (List.mem_cons_of_mem _ (List.mem_cons_of_mem _ (List.mem_cons_of_mem _ (List.mem_cons_of_mem _ (List.mem_cons_of_mem _ (List.mem_cons_self))))))), List.forall_mem_cons.mpr ⟨List.mem_cons_of_mem _ (List.mem_cons_self), List.forall_mem_cons.mpr ⟨List.mem_cons_self, fun _ h => absurd h List.not_mem_nil⟩⟩⟩⟩⟩⟩⟩)) ?_
                  exact ih38 0 (ki + 1) w40 (by omega) (by omega) (by omega) (hI41) (hF42)
              · refine xg_t (xg_icT (u := u91) (v := 0) rfl xnm0 xnm0 (xj_neT hc95)) ?_
                refine xg_t (xg_blk (b := [(125, 1, 3, 0, 0, 0)]) rfl) ?_
                refine xg_t (xg_const) ?_
                refine xg_t (xg_blk (b := [(126, 2, 15, 5, 0, 0)]) rfl) ?_
                refine xg_t (xg_istore (l1 := [(7, (0, 140 + (4 * ki))), (0, (2, 82)), (1, (0, la)), (2, (0, ra)), (3, (0, ca)), (4, (0, un)), (6, (0, ki))]) rfl rfl rfl) ?_
                refine xg_t (xg_blk (b := [(128, 3, 9, 6, 1, 0), (131, 3, 8, 6, 0, 0)]) rfl) ?_
                refine xg_t (xg_iinc (u := ki) (z := ki + 1) (l1 := [(5, (0, 0)), (7, (0, 140 + (4 * ki))), (0, (2, 82)), (1, (0, la)), (2, (0, ra)), (3, (0, ca)), (4, (0, un))]) rfl rfl (by omega) rfl) ?_
                refine xg_t (xg_goto) ?_
                refine xg_t (xg_drop (l1 := [(0, (2, 82)), (1, (0, la)), (2, (0, ra)), (3, (0, ca)), (4, (0, un)), (5, (0, 0)), (6, (0, ki + 1))]) (List.forall_mem_cons.mpr ⟨List.mem_cons_of_mem _ (List.mem_cons_of_mem _ (List.mem_cons_of_mem _ (List.mem_cons_self))), List.forall_mem_cons.mpr ⟨List.mem_cons_of_mem _ (List.mem_cons_of_mem _ (List.mem_cons_of_mem _ (List.mem_cons_of_mem _ (List.mem_cons_self)))), List.forall_mem_cons.mpr ⟨List.mem_cons_of_mem _ (List.mem_cons_of_mem _ (List.mem_cons_of_mem _ (List.mem_cons_of_mem _ (List.mem_cons_of_mem _ (List.mem_cons_self))))), List.forall_mem_cons.mpr ⟨List.mem_cons_of_mem _ (List.mem_cons_of_mem _ (List.mem_cons_of_mem _ (List.mem_cons_of_mem _ (List.mem_cons_of_mem _ (List.mem_cons_of_mem _ (List.mem_cons_self)))))), List.forall_mem_cons.mpr ⟨List.mem_cons_of_mem _ (List.mem_cons_of_mem _ (List.mem_cons_of_mem _ (List.mem_cons_of_mem _ (List.mem_cons_of_mem _ (List.mem_cons_of_mem _ (List.mem_cons_of_mem _ (List.mem_cons_self))))))), List.forall_mem_cons.mpr ⟨List.mem_cons_of_mem _ (List.mem_cons_self), List.forall_mem_cons.mpr ⟨List.mem_cons_self, fun _ h => absurd h List.not_mem_nil⟩⟩⟩⟩⟩⟩⟩)) ?_
                exact ih38 0 (ki + 1) w40 (by omega) (by omega) (by omega) (hI41) (hF42)
            · refine xg_t (xg_ifF (u := la) rfl xnm0 (xj_eqF hc94)) ?_
              refine xg_t (xg_const) ?_
              refine xg_t (xg_goto) ?_
              refine xg_t (xg_blk (b := [(72, 3, 6, 125, 1, 0), (75, 1, 0, 0, 0, 0), (76, 3, 1, 12, 0, 7), (79, 2, 2, 7, 0, 0), (81, 1, 3, 1, 0, 0), (82, 1, 11, 0, 0, 0), (83, 1, 10, 0, 0, 0), (84, 1, 2, 2, 0, 0), (85, 3, 6, 125, 1, 0), (88, 1, 0, 0, 0, 0), (89, 3, 1, 12, 0, 7), (92, 2, 2, 7, 0, 0), (94, 1, 3, 2, 0, 0), (95, 1, 11, 0, 0, 0), (96, 1, 10, 0, 0, 0), (97, 1, 2, 3, 0, 0), (98, 3, 6, 125, 1, 0), (101, 2, 2, 4, 0, 0), (103, 1, 3, 4294967295, 0, 0), (104, 3, 6, 121, 0, 0), (107, 1, 0, 0, 0, 0), (108, 3, 1, 12, 0, 7), (111, 2, 2, 7, 0, 0), (113, 1, 3, 3, 0, 0), (114, 1, 11, 0, 0, 0), (115, 1, 10, 0, 0, 0), (116, 2, 2, 4, 0, 0), (118, 3, 6, 125, 4, 0)]) rfl) ?_
              by_cases hc109 : u91 = 1
              · refine xg_t (xg_icF (u := u91) (v := 1) rfl xnm0 xnm0 (xj_neF hc109)) ?_
                refine xg_t (xg_aload (va := (2, 82)) rfl rfl) ?_
                refine xg_t (xg_getf (va := (2, 83)) (hF42.get (by decide) h82_31) rfl) ?_
                refine xg_t (xg_iload (va := (0, 140 + (4 * ki))) rfl rfl) ?_
                refine xg_t (xg_const) ?_
                refine xg_t (xg_iadd (u := 140 + (4 * ki)) (v := 1) (z := (140 + (4 * ki)) + 1) xnm0 xnm0 (by omega)) ?_
                refine xg_ialdB (n := (140 + (4 * ki)) + 1) (B := 4294967295) (h83_34.fr hF42 (by decide)) (hb35) xnm0 (by omega) (fun u110 hu111 he112 => ?_)
                refine xg_t (xg_iload (va := (0, ra)) rfl rfl) ?_
                by_cases hc113 : u110 = ra
                · refine xg_t (xg_icF (u := u110) (v := ra) rfl xnm0 xnm0 (xj_neF hc113)) ?_
                  refine xg_t (xg_aload (va := (2, 82)) rfl rfl) ?_
                  refine xg_t (xg_getf (va := (2, 83)) (hF42.get (by decide) h82_31) rfl) ?_
                  refine xg_t (xg_iload (va := (0, 140 + (4 * ki))) rfl rfl) ?_
                  refine xg_t (xg_const) ?_
                  refine xg_t (xg_iadd (u := 140 + (4 * ki)) (v := 2) (z := (140 + (4 * ki)) + 2) xnm0 xnm0 (by omega)) ?_
                  refine xg_ialdB (n := (140 + (4 * ki)) + 2) (B := 4294967295) (h83_34.fr hF42 (by decide)) (hb35) xnm0 (by omega) (fun u114 hu115 he116 => ?_)
                  refine xg_t (xg_iload (va := (0, ca)) rfl rfl) ?_
                  by_cases hc117 : u114 = ca
                  · refine xg_t (xg_icF (u := u114) (v := ca) rfl xnm0 xnm0 (xj_neF hc117)) ?_
                    refine xg_t (xg_iload (va := (0, un)) rfl rfl) ?_
                    refine xg_t (xg_const) ?_
                    by_cases hc118 : un = 4294967295
                    · refine xg_t (xg_icT (u := un) (v := 4294967295) rfl xnm0 xnm0 (xj_eqT hc118)) ?_
                      refine xg_t (xg_blk (b := [(121, 1, 3, 1, 0, 0), (122, 3, 8, 126, 0, 0)]) rfl) ?_
                      refine xg_t (xg_const) ?_
                      refine xg_t (xg_goto) ?_
                      refine xg_t (xg_blk (b := [(126, 2, 15, 5, 0, 0)]) rfl) ?_
                      refine xg_t (xg_istore (l1 := [(7, (0, 140 + (4 * ki))), (0, (2, 82)), (1, (0, la)), (2, (0, ra)), (3, (0, ca)), (4, (0, un)), (6, (0, ki))]) rfl rfl rfl) ?_
                      refine xg_t (xg_blk (b := [(128, 3, 9, 6, 1, 0), (131, 3, 8, 6, 0, 0)]) rfl) ?_
                      refine xg_t (xg_iinc (u := ki) (z := ki + 1) (l1 := [(5, (0, 1)), (7, (0, 140 + (4 * ki))), (0, (2, 82)), (1, (0, la)), (2, (0, ra)), (3, (0, ca)), (4, (0, un))]) rfl rfl (by omega) rfl) ?_
                      refine xg_t (xg_goto) ?_
                      refine xg_t (xg_drop (l1 := [(0, (2, 82)), (1, (0, la)), (2, (0, ra)), (3, (0, ca)), (4, (0, un)), (5, (0, 1)), (6, (0, ki + 1))]) (List.forall_mem_cons.mpr ⟨List.mem_cons_of_mem _ (List.mem_cons_of_mem _ (List.mem_cons_of_mem _ (List.mem_cons_self))), List.forall_mem_cons.mpr ⟨List.mem_cons_of_mem _ (List.mem_cons_of_mem _ (List.mem_cons_of_mem _ (List.mem_cons_of_mem _ (List.mem_cons_self)))), List.forall_mem_cons.mpr ⟨List.mem_cons_of_mem _ (List.mem_cons_of_mem _ (List.mem_cons_of_mem _ (List.mem_cons_of_mem _ (List.mem_cons_of_mem _ (List.mem_cons_self))))), List.forall_mem_cons.mpr ⟨List.mem_cons_of_mem _ (List.mem_cons_of_mem _ (List.mem_cons_of_mem _ (List.mem_cons_of_mem _ (List.mem_cons_of_mem _ (List.mem_cons_of_mem _ (List.mem_cons_self)))))), List.forall_mem_cons.mpr ⟨List.mem_cons_of_mem _ (List.mem_cons_of_mem _ (List.mem_cons_of_mem _ (List.mem_cons_of_mem _ (List.mem_cons_of_mem _ (List.mem_cons_of_mem _ (List.mem_cons_of_mem _ (List.mem_cons_self))))))), List.forall_mem_cons.mpr ⟨List.mem_cons_of_mem _ (List.mem_cons_self), List.forall_mem_cons.mpr ⟨List.mem_cons_self, fun _ h => absurd h List.not_mem_nil⟩⟩⟩⟩⟩⟩⟩)) ?_
                      exact ih38 1 (ki + 1) w40 (by omega) (by omega) (by omega) (hI41) (hF42)
                    · refine xg_t (xg_icF (u := un) (v := 4294967295) rfl xnm0 xnm0 (xj_eqF hc118)) ?_
                      refine xg_t (xg_aload (va := (2, 82)) rfl rfl) ?_
                      refine xg_t (xg_getf (va := (2, 83)) (hF42.get (by decide) h82_31) rfl) ?_
                      refine xg_t (xg_iload (va := (0, 140 + (4 * ki))) rfl rfl) ?_
                      refine xg_t (xg_const) ?_
                      refine xg_t (xg_iadd (u := 140 + (4 * ki)) (v := 3) (z := (140 + (4 * ki)) + 3) xnm0 xnm0 (by omega)) ?_
                      refine xg_ialdB (n := (140 + (4 * ki)) + 3) (B := 4294967295) (h83_34.fr hF42 (by decide)) (hb35) xnm0 (by omega) (fun u119 hu120 he121 => ?_)
                      refine xg_t (xg_iload (va := (0, un)) rfl rfl) ?_
                      by_cases hc122 : xbs un < xbs u119
                      · have hc122u := hc122
                        unfold xbs at hc122u
                        refine xg_t (xg_icT (u := u119) (v := un) rfl xnm0 xnm0 (xjs_gtT hc122)) ?_
                        refine xg_t (xg_blk (b := [(125, 1, 3, 0, 0, 0)]) rfl) ?_
                        refine xg_t (xg_const) ?_
                        refine xg_t (xg_blk (b := [(126, 2, 15, 5, 0, 0)]) rfl) ?_
                        refine xg_t (xg_istore (l1 := [(7, (0, 140 + (4 * ki))), (0, (2, 82)), (1, (0, la)), (2, (0, ra)), (3, (0, ca)), (4, (0, un)), (6, (0, ki))]) rfl rfl rfl) ?_
                        refine xg_t (xg_blk (b := [(128, 3, 9, 6, 1, 0), (131, 3, 8, 6, 0, 0)]) rfl) ?_
                        refine xg_t (xg_iinc (u := ki) (z := ki + 1) (l1 := [(5, (0, 0)), (7, (0, 140 + (4 * ki))), (0, (2, 82)), (1, (0, la)), (2, (0, ra)), (3, (0, ca)), (4, (0, un))]) rfl rfl (by omega) rfl) ?_
                        refine xg_t (xg_goto) ?_
                        refine xg_t (xg_drop (l1 := [(0, (2, 82)), (1, (0, la)), (2, (0, ra)), (3, (0, ca)), (4, (0, un)), (5, (0, 0)), (6, (0, ki + 1))]) (List.forall_mem_cons.mpr ⟨List.mem_cons_of_mem _ (List.mem_cons_of_mem _ (List.mem_cons_of_mem _ (List.mem_cons_self))), List.forall_mem_cons.mpr ⟨List.mem_cons_of_mem _ (List.mem_cons_of_mem _ (List.mem_cons_of_mem _ (List.mem_cons_of_mem _ (List.mem_cons_self)))), List.forall_mem_cons.mpr ⟨List.mem_cons_of_mem _ (List.mem_cons_of_mem _ (List.mem_cons_of_mem _ (List.mem_cons_of_mem _ (List.mem_cons_of_mem _ (List.mem_cons_self))))), List.forall_mem_cons.mpr ⟨List.mem_cons_of_mem _ (List.mem_cons_of_mem _ (List.mem_cons_of_mem _ (List.mem_cons_of_mem _ (List.mem_cons_of_mem _ (List.mem_cons_of_mem _ (List.mem_cons_self)))))), List.forall_mem_cons.mpr ⟨List.mem_cons_of_mem _ (List.mem_cons_of_mem _ (List.mem_cons_of_mem _ (List.mem_cons_of_mem _ (List.mem_cons_of_mem _ (List.mem_cons_of_mem _ (List.mem_cons_of_mem _ (List.mem_cons_self))))))), List.forall_mem_cons.mpr ⟨List.mem_cons_of_mem _ (List.mem_cons_self), List.forall_mem_cons.mpr ⟨List.mem_cons_self, fun _ h => absurd h List.not_mem_nil⟩⟩⟩⟩⟩⟩⟩)) ?_
                        exact ih38 0 (ki + 1) w40 (by omega) (by omega) (by omega) (hI41) (hF42)
                      · have hc122u := hc122
                        unfold xbs at hc122u
                        refine xg_t (xg_icF (u := u119) (v := un) rfl xnm0 xnm0 (xjs_gtF hc122)) ?_
                        refine xg_t (xg_blk (b := [(121, 1, 3, 1, 0, 0), (122, 3, 8, 126, 0, 0)]) rfl) ?_
                        refine xg_t (xg_const) ?_
                        refine xg_t (xg_goto) ?_
                        refine xg_t (xg_blk (b := [(126, 2, 15, 5, 0, 0)]) rfl) ?_
                        refine xg_t (xg_istore (l1 := [(7, (0, 140 + (4 * ki))), (0, (2, 82)), (1, (0, la)), (2, (0, ra)), (3, (0, ca)), (4, (0, un)), (6, (0, ki))]) rfl rfl rfl) ?_
                        refine xg_t (xg_blk (b := [(128, 3, 9, 6, 1, 0), (131, 3, 8, 6, 0, 0)]) rfl) ?_
                        refine xg_t (xg_iinc (u := ki) (z := ki + 1) (l1 := [(5, (0, 1)), (7, (0, 140 + (4 * ki))), (0, (2, 82)), (1, (0, la)), (2, (0, ra)), (3, (0, ca)), (4, (0, un))]) rfl rfl (by omega) rfl) ?_
                        refine xg_t (xg_goto) ?_
                        refine xg_t (xg_drop (l1 := [(0, (2, 82)), (1, (0, la)), (2, (0, ra)), (3, (0, ca)), (4, (0, un)), (5, (0, 1)), (6, (0, ki + 1))]) (List.forall_mem_cons.mpr ⟨List.mem_cons_of_mem _ (List.mem_cons_of_mem _ (List.mem_cons_of_mem _ (List.mem_cons_self))), List.forall_mem_cons.mpr ⟨List.mem_cons_of_mem _ (List.mem_cons_of_mem _ (List.mem_cons_of_mem _ (List.mem_cons_of_mem _ (List.mem_cons_self)))), List.forall_mem_cons.mpr ⟨List.mem_cons_of_mem _ (List.mem_cons_of_mem _ (List.mem_cons_of_mem _ (List.mem_cons_of_mem _ (List.mem_cons_of_mem _ (List.mem_cons_self))))), List.forall_mem_cons.mpr ⟨List.mem_cons_of_mem _ (List.mem_cons_of_mem _ (List.mem_cons_of_mem _ (List.mem_cons_of_mem _ (List.mem_cons_of_mem _ (List.mem_cons_of_mem _ (List.mem_cons_self)))))), List.forall_mem_cons.mpr ⟨List.mem_cons_of_mem _ (List.mem_cons_of_mem _ (List.mem_cons_of_mem _ (List.mem_cons_of_mem _ (List.mem_cons_of_mem _ (List.mem_cons_of_mem _ (List.mem_cons_of_mem _ (List.mem_cons_self))))))), List.forall_mem_cons.mpr ⟨List.mem_cons_of_mem _ (List.mem_cons_self), List.forall_mem_cons.mpr ⟨List.mem_cons_self, fun _ h => absurd h List.not_mem_nil⟩⟩⟩⟩⟩⟩⟩)) ?_
                        exact ih38 1 (ki + 1) w40 (by omega) (by omega) (by omega) (hI41) (hF42)
                  · refine xg_t (xg_icT (u := u114) (v := ca) rfl xnm0 xnm0 (xj_neT hc117)) ?_
                    refine xg_t (xg_blk (b := [(125, 1, 3, 0, 0, 0)]) rfl) ?_
                    refine xg_t (xg_const) ?_
                    refine xg_t (xg_blk (b := [(126, 2, 15, 5, 0, 0)]) rfl) ?_
                    refine xg_t (xg_istore (l1 := [(7, (0, 140 + (4 * ki))), (0, (2, 82)), (1, (0, la)), (2, (0, ra)), (3, (0, ca)), (4, (0, un)), (6, (0, ki))]) rfl rfl rfl) ?_
                    refine xg_t (xg_blk (b := [(128, 3, 9, 6, 1, 0), (131, 3, 8, 6, 0, 0)]) rfl) ?_
                    refine xg_t (xg_iinc (u := ki) (z := ki + 1) (l1 := [(5, (0, 0)), (7, (0, 140 + (4 * ki))), (0, (2, 82)), (1, (0, la)), (2, (0, ra)), (3, (0, ca)), (4, (0, un))]) rfl rfl (by omega) rfl) ?_
                    refine xg_t (xg_goto) ?_
                    refine xg_t (xg_drop (l1 := [(0, (2, 82)), (1, (0, la)), (2, (0, ra)), (3, (0, ca)), (4, (0, un)), (5, (0, 0)), (6, (0, ki + 1))]) (List.forall_mem_cons.mpr ⟨List.mem_cons_of_mem _ (List.mem_cons_of_mem _ (List.mem_cons_of_mem _ (List.mem_cons_self))), List.forall_mem_cons.mpr ⟨List.mem_cons_of_mem _ (List.mem_cons_of_mem _ (List.mem_cons_of_mem _ (List.mem_cons_of_mem _ (List.mem_cons_self)))), List.forall_mem_cons.mpr ⟨List.mem_cons_of_mem _ (List.mem_cons_of_mem _ (List.mem_cons_of_mem _ (List.mem_cons_of_mem _ (List.mem_cons_of_mem _ (List.mem_cons_self))))), List.forall_mem_cons.mpr ⟨List.mem_cons_of_mem _ (List.mem_cons_of_mem _ (List.mem_cons_of_mem _ (List.mem_cons_of_mem _ (List.mem_cons_of_mem _ (List.mem_cons_of_mem _ (List.mem_cons_self)))))), List.forall_mem_cons.mpr ⟨List.mem_cons_of_mem _ (List.mem_cons_of_mem _ (List.mem_cons_of_mem _ (List.mem_cons_of_mem _ (List.mem_cons_of_mem _ (List.mem_cons_of_mem _ (List.mem_cons_of_mem _ (List.mem_cons_self))))))), List.forall_mem_cons.mpr ⟨List.mem_cons_of_mem _ (List.mem_cons_self), List.forall_mem_cons.mpr ⟨List.mem_cons_self, fun _ h => absurd h List.not_mem_nil⟩⟩⟩⟩⟩⟩⟩)) ?_
                    exact ih38 0 (ki + 1) w40 (by omega) (by omega) (by omega) (hI41) (hF42)
                · refine xg_t (xg_icT (u := u110) (v := ra) rfl xnm0 xnm0 (xj_neT hc113)) ?_
                  refine xg_t (xg_blk (b := [(125, 1, 3, 0, 0, 0)]) rfl) ?_
                  refine xg_t (xg_const) ?_
                  refine xg_t (xg_blk (b := [(126, 2, 15, 5, 0, 0)]) rfl) ?_
                  refine xg_t (xg_istore (l1 := [(7, (0, 140 + (4 * ki))), (0, (2, 82)), (1, (0, la)), (2, (0, ra)), (3, (0, ca)), (4, (0, un)), (6, (0, ki))]) rfl rfl rfl) ?_
                  refine xg_t (xg_blk (b := [(128, 3, 9, 6, 1, 0), (131, 3, 8, 6, 0, 0)]) rfl) ?_
                  refine xg_t (xg_iinc (u := ki) (z := ki + 1) (l1 := [(5, (0, 0)), (7, (0, 140 + (4 * ki))), (0, (2, 82)), (1, (0, la)), (2, (0, ra)), (3, (0, ca)), (4, (0, un))]) rfl rfl (by omega) rfl) ?_
                  refine xg_t (xg_goto) ?_
                  refine xg_t (xg_drop (l1 := [(0, (2, 82)), (1, (0, la)), (2, (0, ra)), (3, (0, ca)), (4, (0, un)), (5, (0, 0)), (6, (0, ki + 1))]) (List.forall_mem_cons.mpr ⟨List.mem_cons_of_mem _ (List.mem_cons_of_mem _ (List.mem_cons_of_mem _ (List.mem_cons_self))), List.forall_mem_cons.mpr ⟨List.mem_cons_of_mem _ (List.mem_cons_of_mem _ (List.mem_cons_of_mem _ (List.mem_cons_of_mem _ (List.mem_cons_self)))), List.forall_mem_cons.mpr ⟨List.mem_cons_of_mem _ (List.mem_cons_of_mem _ (List.mem_cons_of_mem _ (List.mem_cons_of_mem _ (List.mem_cons_of_mem _ (List.mem_cons_self))))), List.forall_mem_cons.mpr ⟨List.mem_cons_of_mem _ (List.mem_cons_of_mem _ (List.mem_cons_of_mem _ (List.mem_cons_of_mem _ (List.mem_cons_of_mem _ (List.mem_cons_of_mem _ (List.mem_cons_self)))))), List.forall_mem_cons.mpr ⟨List.mem_cons_of_mem _ (List.mem_cons_of_mem _ (List.mem_cons_of_mem _ (List.mem_cons_of_mem _ (List.mem_cons_of_mem _ (List.mem_cons_of_mem _ (List.mem_cons_of_mem _ (List.mem_cons_self))))))), List.forall_mem_cons.mpr ⟨List.mem_cons_of_mem _ (List.mem_cons_self), List.forall_mem_cons.mpr ⟨List.mem_cons_self, fun _ h => absurd h List.not_mem_nil⟩⟩⟩⟩⟩⟩⟩)) ?_
                  exact ih38 0 (ki + 1) w40 (by omega) (by omega) (by omega) (hI41) (hF42)
              · refine xg_t (xg_icT (u := u91) (v := 1) rfl xnm0 xnm0 (xj_neT hc109)) ?_
                refine xg_t (xg_blk (b := [(125, 1, 3, 0, 0, 0)]) rfl) ?_
                refine xg_t (xg_const) ?_
                refine xg_t (xg_blk (b := [(126, 2, 15, 5, 0, 0)]) rfl) ?_
                refine xg_t (xg_istore (l1 := [(7, (0, 140 + (4 * ki))), (0, (2, 82)), (1, (0, la)), (2, (0, ra)), (3, (0, ca)), (4, (0, un)), (6, (0, ki))]) rfl rfl rfl) ?_
                refine xg_t (xg_blk (b := [(128, 3, 9, 6, 1, 0), (131, 3, 8, 6, 0, 0)]) rfl) ?_
                refine xg_t (xg_iinc (u := ki) (z := ki + 1) (l1 := [(5, (0, 0)), (7, (0, 140 + (4 * ki))), (0, (2, 82)), (1, (0, la)), (2, (0, ra)), (3, (0, ca)), (4, (0, un))]) rfl rfl (by omega) rfl) ?_
                refine xg_t (xg_goto) ?_
                refine xg_t (xg_drop (l1 := [(0, (2, 82)), (1, (0, la)), (2, (0, ra)), (3, (0, ca)), (4, (0, un)), (5, (0, 0)), (6, (0, ki + 1))]) (List.forall_mem_cons.mpr ⟨List.mem_cons_of_mem _ (List.mem_cons_of_mem _ (List.mem_cons_of_mem _ (List.mem_cons_self))), List.forall_mem_cons.mpr ⟨List.mem_cons_of_mem _ (List.mem_cons_of_mem _ (List.mem_cons_of_mem _ (List.mem_cons_of_mem _ (List.mem_cons_self)))), List.forall_mem_cons.mpr ⟨List.mem_cons_of_mem _ (List.mem_cons_of_mem _ (List.mem_cons_of_mem _ (List.mem_cons_of_mem _ (List.mem_cons_of_mem _ (List.mem_cons_self))))), List.forall_mem_cons.mpr ⟨List.mem_cons_of_mem _ (List.mem_cons_of_mem _ (List.mem_cons_of_mem _ (List.mem_cons_of_mem _ (List.mem_cons_of_mem _ (List.mem_cons_of_mem _ (List.mem_cons_self)))))), List.forall_mem_cons.mpr ⟨List.mem_cons_of_mem _ (List.mem_cons_of_mem _ (List.mem_cons_of_mem _ (List.mem_cons_of_mem _ (List.mem_cons_of_mem _ (List.mem_cons_of_mem _ (List.mem_cons_of_mem _ (List.mem_cons_self))))))), List.forall_mem_cons.mpr ⟨List.mem_cons_of_mem _ (List.mem_cons_self), List.forall_mem_cons.mpr ⟨List.mem_cons_self, fun _ h => absurd h List.not_mem_nil⟩⟩⟩⟩⟩⟩⟩)) ?_
                exact ih38 0 (ki + 1) w40 (by omega) (by omega) (by omega) (hI41) (hF42)
        · refine xg_t (xg_ifT (u := is_) rfl xnm0 (xj_neT hc51)) ?_
          refine xg_t (xg_blk (b := [(134, 2, 2, 5, 0, 0), (136, 1, 12, 0, 1, 0)]) rfl) ?_
          refine xg_t (xg_iload (va := (0, is_)) rfl rfl) ?_
          exact xg_e ⟨is_, w40, ⟨xret_b (by omega), rfl⟩, by omega, hI41, hF42⟩
      · refine xg_t (xg_icT (u := ki) (v := u46) rfl xnm0 xnm0 (xj_geT (by omega) (by omega))) ?_
        refine xg_t (xg_blk (b := [(134, 2, 2, 5, 0, 0), (136, 1, 12, 0, 1, 0)]) rfl) ?_
        refine xg_t (xg_iload (va := (0, is_)) rfl rfl) ?_
        exact xg_e ⟨is_, w40, ⟨xret_b (by omega), rfl⟩, by omega, hI41, hF42⟩
  exact key37 _ 0 0 w (Nat.lt_succ_self _) (by omega) (by omega) (hI) (xFr.rf)
theorem mLed {la ra ca : Nat} (hI : xMnv w) (hla : la ≤ 1) (hra : ra ≤ 4294967295) (hca : ca ≤ 4294967295) : xPi (d + 2) mX12_isLed [(2, 82), (0, la), (0, ra), (0, ca)] w bd fc rr (fun n w' => (n ≤ 1 ∧ (n = 1 → (la = 0 → ca ≤ 4) ∧ (la = 1 → ra ≤ 4))) ∧ xMnv w' ∧ xFr [] w w') := by
  refine xPi.of ?_
  show xTo (d + 2) mX12_isLed (0, [], [(0, (2, 82)), (1, (0, la)), (2, (0, ra)), (3, (0, ca))], [], (w, bd, fc, 0, 0, rr)) (fun φ => ∃ n w', xEnd 4 [(0, n)] (w', bd, fc, 0, 0, rr) φ ∧ (n ≤ 1 ∧ (n = 1 → (la = 0 → ca ≤ 4) ∧ (la = 1 → ra ≤ 4))) ∧ xMnv w' ∧ xFr [] w w')
  obtain ⟨f82_1, f82_3, f82_5, f82_7, f82_9, f82_11, f82_13, f82_15, f82_17, f82_19, f82_21, f82_22, f82_23, f82_25, f82_27, f82_29, h82_31, hb2, hb4, hb6, hb8, hb10, hb12, hb14, hb16, hb18, hb20, hb24, hb26, hb28, hb30, hb32⟩ := (hI 82 (by decide) (by decide) : cp82 (wget w 82))
  replace hb4 := xHid.of hb4
  replace hb10 := xHid.of hb10
  replace hb14 := xHid.of hb14
  replace hb16 := xHid.of hb16
  replace hb20 := xHid.of hb20
  replace hb24 := xHid.of hb24
  replace hb26 := xHid.of hb26
  replace hb28 := xHid.of hb28
  replace hb30 := xHid.of hb30
  obtain ⟨g83_33, h83_34, hb35, hx36⟩ := (hI 83 (by decide) (by decide) : cpx83 (wget w 83))
  have h83_34 : xRow w 83 5360 50 g83_33 := h83_34
  refine xg_t (xg_blk (b := [(0, 1, 0, 0, 0, 0), (1, 1, 2, 1, 0, 0), (2, 1, 2, 2, 0, 0), (3, 1, 2, 3, 0, 0), (4, 3, 13, 173, 96, 279), (7, 3, 7, 31, 0, 0), (10, 1, 0, 0, 0, 0), (11, 1, 2, 1, 0, 0), (12, 1, 2, 2, 0, 0), (13, 1, 2, 3, 0, 0), (14, 1, 0, 0, 0, 0), (15, 3, 1, 12, 0, 7), (18, 2, 4, 12, 0, 0), (20, 1, 10, 0, 0, 0), (21, 3, 13, 157, 96, 283), (24, 3, 7, 31, 1, 0), (27, 1, 3, 1, 0, 0), (28, 3, 8, 32, 0, 0)]) rfl) ?_
  refine xg_t (xg_aload (va := (2, 82)) rfl rfl) ?_
  refine xg_t (xg_iload (va := (0, la)) rfl rfl) ?_
  refine xg_t (xg_iload (va := (0, ra)) rfl rfl) ?_
  refine xg_t (xg_iload (va := (0, ca)) rfl rfl) ?_
  refine xg_cVi mX12_isThere (vs := [(0, la), (0, ra), (0, ca)]) (rest := []) (cn1 := 0) (sl1 := 0) rfl (mThere (hI) (by omega) (by omega) (by omega) h83_34 hb35 hx36) rfl h82_31 rfl rfl rfl rfl rfl rfl (fun n41 w37 hq38 => ?_)
  obtain ⟨hn42, hI39, hF40⟩ := hq38
  by_cases hc43 : n41 = 0
  · refine xg_t (xg_ifT (u := n41) rfl xnm0 (xj_eqT hc43)) ?_
    refine xg_t (xg_blk (b := [(31, 1, 3, 0, 0, 0)]) rfl) ?_
    refine xg_t (xg_const) ?_
    refine xg_t (xg_blk (b := [(32, 1, 12, 0, 1, 0)]) rfl) ?_
    exact xg_e ⟨0, w37, ⟨rfl, rfl⟩, by omega, hI39, (hF40.up (by decide))⟩
  · refine xg_t (xg_ifF (u := n41) rfl xnm0 (xj_eqF hc43)) ?_
    refine xg_t (xg_aload (va := (2, 82)) rfl rfl) ?_
    refine xg_t (xg_iload (va := (0, la)) rfl rfl) ?_
    refine xg_t (xg_iload (va := (0, ra)) rfl rfl) ?_
    refine xg_t (xg_iload (va := (0, ca)) rfl rfl) ?_
    refine xg_t (xg_aload (va := (2, 82)) rfl rfl) ?_
    refine xg_t (xg_getf (va := (2, 83)) (hF40.get (by decide) h82_31) rfl) ?_
    refine xg_t (xg_bip) ?_
    refine xg_ialdB (n := 12) (B := 4294967295) (h83_34.fr hF40 (by decide)) (hb35) xnm0 (by omega) (fun u44 hu45 he46 => ?_)
    refine xg_cVi mX12_isCracked (vs := [(0, la), (0, ra), (0, ca), (0, u44)]) (rest := []) (cn1 := 0) (sl1 := 0) rfl (mCracked (hI39) (by omega) (by omega) (by omega) (by omega)) rfl (hF40.get (by decide) h82_31) rfl rfl rfl rfl rfl rfl (fun n51 w47 hq48 => ?_)
    obtain ⟨hn52, hI49, hF50⟩ := hq48
    by_cases hc53 : n51 = 0
    · refine xg_t (xg_ifF (u := n51) rfl xnm0 (xj_neF hc53)) ?_
      refine xg_t (xg_const) ?_
      refine xg_t (xg_goto) ?_
      refine xg_t (xg_blk (b := [(32, 1, 12, 0, 1, 0)]) rfl) ?_
      exact xg_e ⟨1, w47, ⟨rfl, rfl⟩, by omega, hI49, ((hF40.up (by decide)).tr (hF50.up (by decide)))⟩
    · refine xg_t (xg_ifT (u := n51) rfl xnm0 (xj_neT hc53)) ?_
      refine xg_t (xg_blk (b := [(31, 1, 3, 0, 0, 0)]) rfl) ?_
      refine xg_t (xg_const) ?_
      refine xg_t (xg_blk (b := [(32, 1, 12, 0, 1, 0)]) rfl) ?_
      exact xg_e ⟨0, w47, ⟨rfl, rfl⟩, by omega, hI49, ((hF40.up (by decide)).tr (hF50.up (by decide)))⟩
theorem mLeads {la ra ca : Nat} (hI : xMnv w) (hla : la ≤ 1) (hra : ra ≤ 4294967295) (hca : ca ≤ 4294967295) : xPi (d + 3) mX12_leads [(2, 82), (0, la), (0, ra), (0, ca)] w bd fc rr (fun n w' => (n ≤ 1) ∧ xMnv w' ∧ xFr [] w w') := by
  refine xPi.of ?_
  show xTo (d + 3) mX12_leads (0, [], [(0, (2, 82)), (1, (0, la)), (2, (0, ra)), (3, (0, ca))], [], (w, bd, fc, 0, 0, rr)) (fun φ => ∃ n w', xEnd 4 [(0, n)] (w', bd, fc, 0, 0, rr) φ ∧ (n ≤ 1) ∧ xMnv w' ∧ xFr [] w w')
  refine xg_t (xg_blk (b := [(0, 1, 0, 0, 0, 0), (1, 1, 2, 1, 0, 0), (2, 1, 2, 2, 0, 0), (3, 1, 2, 3, 0, 0), (4, 3, 13, 165, 96, 287), (7, 1, 12, 0, 1, 0)]) rfl) ?_
  refine xg_t (xg_aload (va := (2, 82)) rfl rfl) ?_
  refine xg_t (xg_iload (va := (0, la)) rfl rfl) ?_
  refine xg_t (xg_iload (va := (0, ra)) rfl rfl) ?_
  refine xg_t (xg_iload (va := (0, ca)) rfl rfl) ?_
  obtain ⟨f82_1, f82_3, f82_5, f82_7, f82_9, f82_11, f82_13, f82_15, f82_17, f82_19, f82_21, f82_22, f82_23, f82_25, f82_27, f82_29, h82_31, hb2, hb4, hb6, hb8, hb10, hb12, hb14, hb16, hb18, hb20, hb24, hb26, hb28, hb30, hb32⟩ := (hI 82 (by decide) (by decide) : cp82 (wget w 82))
  replace hb4 := xHid.of hb4
  replace hb10 := xHid.of hb10
  replace hb14 := xHid.of hb14
  replace hb16 := xHid.of hb16
  replace hb20 := xHid.of hb20
  replace hb24 := xHid.of hb24
  replace hb26 := xHid.of hb26
  replace hb28 := xHid.of hb28
  replace hb30 := xHid.of hb30
  refine xg_cVi mX12_isLed (vs := [(0, la), (0, ra), (0, ca)]) (rest := []) (cn1 := 0) (sl1 := 0) rfl (mLed (hI) (by omega) (by omega) (by omega)) rfl h82_31 rfl rfl rfl rfl rfl rfl (fun n37 w33 hq34 => ?_)
  obtain ⟨hn38, hI35, hF36⟩ := hq34
  exact xg_e ⟨n37, w33, ⟨xret_b (by omega), rfl⟩, by omega, hI35, (hF36.up (by decide))⟩
theorem mFeed {fa fb fc_ fd fe : Nat} (hI : xMnv w) (hfa : fa ≤ 4294967295) (hfb : fb ≤ 4294967295) (hfc_ : fc_ ≤ 4294967295) (hfd : fd ≤ 4294967295) (hfe : fe ≤ 4294967295) : xPi d mX12_feed [(2, 82), (0, fa), (0, fb), (0, fc_), (0, fd), (0, fe)] w bd fc rr (fun n w' => (n ≤ 4294967295) ∧ xMnv w' ∧ xFr [83] w w') := by
  refine xPi.of ?_
  show xTo d mX12_feed (0, [], [(0, (2, 82)), (1, (0, fa)), (2, (0, fb)), (3, (0, fc_)), (4, (0, fd)), (5, (0, fe))], [], (w, bd, fc, 0, 0, rr)) (fun φ => ∃ n w', xEnd 1 [(0, n)] (w', bd, fc, 0, 0, rr) φ ∧ (n ≤ 4294967295) ∧ xMnv w' ∧ xFr [83] w w')
  obtain ⟨f82_1, f82_3, f82_5, f82_7, f82_9, f82_11, f82_13, f82_15, f82_17, f82_19, f82_21, f82_22, f82_23, f82_25, f82_27, f82_29, h82_31, hb2, hb4, hb6, hb8, hb10, hb12, hb14, hb16, hb18, hb20, hb24, hb26, hb28, hb30, hb32⟩ := (hI 82 (by decide) (by decide) : cp82 (wget w 82))
  replace hb4 := xHid.of hb4
  replace hb10 := xHid.of hb10
  replace hb14 := xHid.of hb14
  replace hb16 := xHid.of hb16
  replace hb20 := xHid.of hb20
  replace hb24 := xHid.of hb24
  replace hb26 := xHid.of hb26
  replace hb28 := xHid.of hb28
  replace hb30 := xHid.of hb30
  obtain ⟨g83_33, h83_34, hb35, hx36⟩ := (hI 83 (by decide) (by decide) : cpx83 (wget w 83))
  have h83_34 : xRow w 83 5360 50 g83_33 := h83_34
  refine xg_t (xg_blk (b := [(0, 1, 0, 0, 0, 0), (1, 3, 1, 12, 0, 7), (4, 2, 4, 15, 0, 0), (6, 1, 10, 0, 0, 0), (7, 2, 4, 20, 0, 0), (9, 1, 11, 0, 0, 0), (10, 3, 5, 500, 0, 0), (13, 3, 6, 18, 5, 0), (16, 1, 3, 4294967295, 0, 0), (17, 1, 12, 0, 1, 0)]) rfl) ?_
  refine xg_t (xg_aload (va := (2, 82)) rfl rfl) ?_
  refine xg_t (xg_getf (va := (2, 83)) h82_31 rfl) ?_
  refine xg_t (xg_bip) ?_
  refine xg_ialdB (n := 15) (B := 4294967295) h83_34 (hb35) xnm0 (by omega) (fun u37 hu38 he39 => ?_)
  have hl40 : u37 ≤ 500 := by rw [← he39]; exact hx36.l15
  refine xg_t (xg_bip) ?_
  refine xg_t (xg_iadd (u := u37) (v := 20) (z := u37 + 20) xnm0 xnm0 (by omega)) ?_
  refine xg_t (xg_sip) ?_
  by_cases hc41 : 500 < (u37 + 20)
  · refine xg_t (xg_icF (u := u37 + 20) (v := 500) rfl xnm0 xnm0 (xj_leF hc41 (by omega))) ?_
    refine xg_t (xg_const) ?_
    exact xg_e ⟨4294967295, w, ⟨rfl, rfl⟩, by omega, hI, xFr.rf⟩
  · refine xg_t (xg_icT (u := u37 + 20) (v := 500) rfl xnm0 xnm0 (xj_leT (by omega) (by omega))) ?_
    refine xg_t (xg_blk (b := [(18, 1, 3, 0, 0, 0), (19, 2, 15, 6, 0, 0)]) rfl) ?_
    refine xg_t (xg_const) ?_
    refine xg_t (xg_istore (l1 := [(0, (2, 82)), (1, (0, fa)), (2, (0, fb)), (3, (0, fc_)), (4, (0, fd)), (5, (0, fe))]) rfl rfl rfl) ?_
    refine xg_t (xg_drop (l1 := [(0, (2, 82)), (1, (0, fa)), (2, (0, fb)), (3, (0, fc_)), (4, (0, fd)), (5, (0, fe)), (6, (0, 0))]) (List.forall_mem_cons.mpr ⟨List.mem_cons_of_mem _ (List.mem_cons_self), List.forall_mem_cons.mpr ⟨List.mem_cons_of_mem _ (List.mem_cons_of_mem _ (List.mem_cons_self)), List.forall_mem_cons.mpr ⟨List.mem_cons_of_mem _ (List.mem_cons_of_mem _ (List.mem_cons_of_mem _ (List.mem_cons_self))), List.forall_mem_cons.mpr ⟨List.mem_cons_of_mem _ (List.mem_cons_of_mem _ (List.mem_cons_of_mem _ (List.mem_cons_of_mem _ (List.mem_cons_self)))), List.forall_mem_cons.mpr ⟨List.mem_cons_of_mem _ (List.mem_cons_of_mem _ (List.mem_cons_of_mem _ (List.mem_cons_of_mem _ (List.mem_cons_of_mem _ (List.mem_cons_self))))), List.forall_mem_cons.mpr ⟨List.mem_cons_of_mem _ (List.mem_cons_of_mem _ (List.mem_cons_of_mem _ (List.mem_cons_of_mem _ (List.mem_cons_of_mem _ (List.mem_cons_of_mem _ (List.mem_cons_self)))))), List.forall_mem_cons.mpr ⟨List.mem_cons_self, fun _ h => absurd h List.not_mem_nil⟩⟩⟩⟩⟩⟩⟩)) ?_
    have key42 : ∀ (m44 : Nat) (ii : Nat) (w45 : List (List xE)), 20 - ii < m44 → ii ≤ 20 → xMnv w45 → xFr [83] w w45 → (∃ f : Nat → Nat, xRow w45 83 5360 50 f ∧ f 15 + (20 - ii) ≤ 500) → xTo d mX12_feed (21, [], [(0, (2, 82)), (1, (0, fa)), (2, (0, fb)), (3, (0, fc_)), (4, (0, fd)), (5, (0, fe)), (6, (0, ii))], [], (w45, bd, fc, 0, 0, rr)) (fun φ => ∃ n w', xEnd 1 [(0, n)] (w', bd, fc, 0, 0, rr) φ ∧ (n ≤ 4294967295) ∧ xMnv w' ∧ xFr [83] w w') := by
      intro m44
      induction m44 with
      | zero => intro ii w45 hz; exact absurd hz (Nat.not_lt_zero _)
      | succ m44 ih43 =>
        intro ii w45 hm50 hn48 hI46 hF47 he49
        obtain ⟨g83_51, h83_52, hb53, hx54⟩ := (hI46 83 (by decide) (by decide) : cpx83 (wget w45 83))
        have h83_52 : xRow w45 83 5360 50 g83_51 := h83_52
        obtain ⟨g55, hr56, he57⟩ := he49
        have hd58 : g55 15 = g83_51 15 := xRow.det hr56 h83_52 15 (by omega)
        refine xg_t (xg_blk (b := [(21, 2, 2, 6, 0, 0), (23, 2, 4, 20, 0, 0), (25, 3, 6, 126, 3, 0), (28, 2, 2, 6, 0, 0), (30, 1, 3, 4, 0, 0), (31, 3, 6, 38, 3, 0), (34, 1, 2, 1, 0, 0), (35, 3, 8, 74, 0, 0)]) rfl) ?_
        refine xg_t (xg_iload (va := (0, ii)) rfl rfl) ?_
        refine xg_t (xg_bip) ?_
        by_cases hc59 : ii < 20
        · refine xg_t (xg_icF (u := ii) (v := 20) rfl xnm0 xnm0 (xj_geF hc59 (by omega))) ?_
          refine xg_t (xg_iload (va := (0, ii)) rfl rfl) ?_
          refine xg_t (xg_const) ?_
          by_cases hc60 : ii < 4
          · refine xg_t (xg_icF (u := ii) (v := 4) rfl xnm0 xnm0 (xj_geF hc60 (by omega))) ?_
            refine xg_t (xg_iload (va := (0, fa)) rfl rfl) ?_
            refine xg_t (xg_goto) ?_
            refine xg_t (xg_blk (b := [(74, 2, 15, 7, 0, 0), (76, 1, 0, 0, 0, 0), (77, 3, 1, 12, 0, 7), (80, 3, 5, 400, 0, 0), (83, 1, 0, 0, 0, 0), (84, 3, 1, 12, 0, 7), (87, 2, 4, 15, 0, 0), (89, 1, 10, 0, 0, 0), (90, 1, 11, 0, 0, 0), (91, 2, 2, 7, 0, 0), (93, 2, 4, 24, 0, 0), (95, 2, 4, 8, 0, 0), (97, 2, 2, 6, 0, 0), (99, 1, 3, 4, 0, 0), (100, 1, 21, 0, 0, 0), (101, 1, 16, 0, 0, 0), (102, 1, 18, 0, 0, 0), (103, 1, 29, 0, 0, 0), (104, 3, 5, 255, 0, 0), (107, 1, 30, 0, 0, 0), (108, 1, 17, 0, 0, 0), (109, 1, 0, 0, 0, 0), (110, 3, 1, 12, 0, 7), (113, 2, 4, 15, 0, 0), (115, 1, 39, 0, 0, 0), (116, 1, 10, 0, 0, 0), (117, 1, 3, 1, 0, 0), (118, 1, 11, 0, 0, 0), (119, 1, 17, 0, 0, 0), (120, 3, 9, 6, 1, 0), (123, 3, 8, 21, 0, 0)]) rfl) ?_
            refine xg_t (xg_istore (l1 := [(0, (2, 82)), (1, (0, fa)), (2, (0, fb)), (3, (0, fc_)), (4, (0, fd)), (5, (0, fe)), (6, (0, ii))]) rfl rfl rfl) ?_
            refine xg_t (xg_aload (va := (2, 82)) rfl rfl) ?_
            refine xg_t (xg_getf (va := (2, 83)) (hF47.get (by decide) h82_31) rfl) ?_
            refine xg_t (xg_sip) ?_
            refine xg_t (xg_aload (va := (2, 82)) rfl rfl) ?_
            refine xg_t (xg_getf (va := (2, 83)) (hF47.get (by decide) h82_31) rfl) ?_
            refine xg_t (xg_bip) ?_
            refine xg_ialdB (n := 15) (B := 4294967295) h83_52 (hb53) xnm0 (by omega) (fun u61 hu62 he63 => ?_)
            have hl64 : u61 ≤ 500 := by rw [← he63]; exact hx54.l15
            refine xg_t (xg_iadd (u := 400) (v := u61) (z := 400 + u61) xnm0 xnm0 (by omega)) ?_
            refine xg_t (xg_iload (va := (0, fa)) rfl rfl) ?_
            refine xg_t (xg_bip) ?_
            refine xg_t (xg_bip) ?_
            refine xg_t (xg_iload (va := (0, ii)) rfl rfl) ?_
            refine xg_t (xg_const) ?_
            refine xg_t (xg_irem (u := ii) (v := 4) (z := ii % 4) xnm0 xnm0 (by omega) (by decide) (by decide) (rfl)) ?_
            refine xg_t (xg_imul (u := 8) (v := ii % 4) (z := 8 * (ii % 4)) xnm0 xnm0 (by omega)) ?_
            refine xg_t (xg_isub (u := 24) (v := 8 * (ii % 4)) (z := 24 - (8 * (ii % 4))) xnm0 xnm0 (by omega)) ?_
            refine xg_k (xg_ishrG (u := fa) (v := 24 - (8 * (ii % 4))) xnm0 xnm0) (xpt_lt _) (fun z65 hz66 => ?_)
            refine xg_t (xg_sip) ?_
            refine xg_k (xg_iand (z := Nat.land z65 255) (u := z65) (v := 255) xnm0 xnm0 rfl) (xland_lt (by omega)) (fun z67 hz68 => ?_)
            refine xg_iastK (n := 400 + u61) (u := z67) h83_52 xnm0 xnm0 rfl (by omega) (fun w69 hr70 hb71 => ?_)
            have hx72 : okA (fun j => if j = 400 + u61 then z67 else g83_51 j) := hx54.upd (by omega) (by omega) (by omega) (fun _ => by omega) (by omega) (fun _ => by omega) (fun _ => by omega) (fun _ => by omega) (fun _ => by omega) (by omega) (fun _ _ => by omega)
            have hb73 : ∀ j, (fun j => if j = 400 + u61 then z67 else g83_51 j) j ≤ 4294967295 := xrb (by omega) (hb53)
            obtain ⟨g74, hg75⟩ : ∃ g : Nat → Nat, g = (fun j => if j = 400 + u61 then z67 else g83_51 j) := ⟨_, rfl⟩
            rw [← hg75] at hr70
            have he76 : g74 (400 + u61) = z67 := by rw [hg75]; exact if_pos rfl
            have hk77 : ∀ j, j ≠ 400 + u61 → g74 j = g83_51 j := fun j hj => by rw [hg75]; exact if_neg hj
            rw [← hg75] at hx72
            rw [← hg75] at hb73
            have hk78 : g74 15 = g83_51 15 := hk77 15 (by omega)
            refine xg_t (xg_aload (va := (2, 82)) rfl rfl) ?_
            refine xg_t (xg_getf (va := (2, 83)) (hb71.get (by decide) (hF47.get (by decide) h82_31)) rfl) ?_
            refine xg_t (xg_bip) ?_
            refine xg_t (xg_dup2 rfl) ?_
            refine xg_ialdB (n := 15) (B := 4294967295) hr70 (hb73) xnm0 (by omega) (fun u79 hu80 he81 => ?_)
            have hl82 : u79 ≤ 500 := by rw [← he81]; exact hx72.l15
            refine xg_t (xg_const) ?_
            refine xg_t (xg_iadd (u := u79) (v := 1) (z := u79 + 1) xnm0 xnm0 (by omega)) ?_
            refine xg_iastK (n := 15) (u := u79 + 1) hr70 xnm0 xnm0 rfl (by omega) (fun w83 hr84 hb85 => ?_)
            have hx86 : okA (fun j => if j = 15 then u79 + 1 else g74 j) := hx72.upd (by omega) (by omega) (by omega) (fun _ => by omega) (by omega) (fun _ => by omega) (fun _ => by omega) (fun _ => by omega) (fun _ => by omega) (by omega) (fun _ _ => by omega)
            have hb87 : ∀ j, (fun j => if j = 15 then u79 + 1 else g74 j) j ≤ 4294967295 := xrb (by omega) (hb73)
            obtain ⟨g88, hg89⟩ : ∃ g : Nat → Nat, g = (fun j => if j = 15 then u79 + 1 else g74 j) := ⟨_, rfl⟩
            rw [← hg89] at hr84
            have he90 : g88 15 = u79 + 1 := by rw [hg89]; exact if_pos rfl
            have hk91 : ∀ j, j ≠ 15 → g88 j = g74 j := fun j hj => by rw [hg89]; exact if_neg hj
            rw [← hg89] at hx86
            rw [← hg89] at hb87
            refine xg_t (xg_iinc (u := ii) (z := ii + 1) (l1 := [(7, (0, fa)), (0, (2, 82)), (1, (0, fa)), (2, (0, fb)), (3, (0, fc_)), (4, (0, fd)), (5, (0, fe))]) rfl rfl (by omega) rfl) ?_
            refine xg_t (xg_goto) ?_
            refine xg_t (xg_drop (l1 := [(0, (2, 82)), (1, (0, fa)), (2, (0, fb)), (3, (0, fc_)), (4, (0, fd)), (5, (0, fe)), (6, (0, ii + 1))]) (List.forall_mem_cons.mpr ⟨List.mem_cons_of_mem _ (List.mem_cons_of_mem _ (List.mem_cons_self)), List.forall_mem_cons.mpr ⟨List.mem_cons_of_mem _ (List.mem_cons_of_mem _ (List.mem_cons_of_mem _ (List.mem_cons_self))), List.forall_mem_cons.mpr ⟨List.mem_cons_of_mem _ (List.mem_cons_of_mem _ (List.mem_cons_of_mem _ (List.mem_cons_of_mem _ (List.mem_cons_self)))), List.forall_mem_cons.mpr ⟨List.mem_cons_of_mem _ (List.mem_cons_of_mem _ (List.mem_cons_of_mem _ (List.mem_cons_of_mem _ (List.mem_cons_of_mem _ (List.mem_cons_self))))), List.forall_mem_cons.mpr ⟨List.mem_cons_of_mem _ (List.mem_cons_of_mem _ (List.mem_cons_of_mem _ (List.mem_cons_of_mem _ (List.mem_cons_of_mem _ (List.mem_cons_of_mem _ (List.mem_cons_self)))))), List.forall_mem_cons.mpr ⟨List.mem_cons_of_mem _ (List.mem_cons_of_mem _ (List.mem_cons_of_mem _ (List.mem_cons_of_mem _ (List.mem_cons_of_mem _ (List.mem_cons_of_mem _ (List.mem_cons_of_mem _ (List.mem_cons_self))))))), List.forall_mem_cons.mpr ⟨List.mem_cons_self, fun _ h => absurd h List.not_mem_nil⟩⟩⟩⟩⟩⟩⟩)) ?_
            exact ih43 (ii + 1) w83 (by omega) (by omega) (xMnv.up (S := [83]) hI46 ((xFr.of (S := [83]) hb71 (by decide)).tr (xFr.of (S := [83]) hb85 (by decide))) (List.forall_mem_cons.mpr ⟨(show cpx83 (wget w83 83) from ⟨_, hr84, hb87, hx86⟩), fun _ h => absurd h List.not_mem_nil⟩)) ((hF47.tr ((xFr.of (S := [83]) hb71 (by decide)).tr (xFr.of (S := [83]) hb85 (by decide))))) (⟨_, hr84, by omega⟩)
          · refine xg_t (xg_icT (u := ii) (v := 4) rfl xnm0 xnm0 (xj_geT (by omega) (by omega))) ?_
            refine xg_t (xg_blk (b := [(38, 2, 2, 6, 0, 0), (40, 2, 4, 8, 0, 0), (42, 3, 6, 49, 3, 0), (45, 1, 2, 2, 0, 0), (46, 3, 8, 74, 0, 0)]) rfl) ?_
            refine xg_t (xg_iload (va := (0, ii)) rfl rfl) ?_
            refine xg_t (xg_bip) ?_
            by_cases hc92 : ii < 8
            · refine xg_t (xg_icF (u := ii) (v := 8) rfl xnm0 xnm0 (xj_geF hc92 (by omega))) ?_
              refine xg_t (xg_iload (va := (0, fb)) rfl rfl) ?_
              refine xg_t (xg_goto) ?_
              refine xg_t (xg_blk (b := [(74, 2, 15, 7, 0, 0), (76, 1, 0, 0, 0, 0), (77, 3, 1, 12, 0, 7), (80, 3, 5, 400, 0, 0), (83, 1, 0, 0, 0, 0), (84, 3, 1, 12, 0, 7), (87, 2, 4, 15, 0, 0), (89, 1, 10, 0, 0, 0), (90, 1, 11, 0, 0, 0), (91, 2, 2, 7, 0, 0), (93, 2, 4, 24, 0, 0), (95, 2, 4, 8, 0, 0), (97, 2, 2, 6, 0, 0), (99, 1, 3, 4, 0, 0), (100, 1, 21, 0, 0, 0), (101, 1, 16, 0, 0, 0), (102, 1, 18, 0, 0, 0), (103, 1, 29, 0, 0, 0), (104, 3, 5, 255, 0, 0), (107, 1, 30, 0, 0, 0), (108, 1, 17, 0, 0, 0), (109, 1, 0, 0, 0, 0), (110, 3, 1, 12, 0, 7), (113, 2, 4, 15, 0, 0), (115, 1, 39, 0, 0, 0), (116, 1, 10, 0, 0, 0), (117, 1, 3, 1, 0, 0), (118, 1, 11, 0, 0, 0), (119, 1, 17, 0, 0, 0), (120, 3, 9, 6, 1, 0), (123, 3, 8, 21, 0, 0)]) rfl) ?_
              refine xg_t (xg_istore (l1 := [(0, (2, 82)), (1, (0, fa)), (2, (0, fb)), (3, (0, fc_)), (4, (0, fd)), (5, (0, fe)), (6, (0, ii))]) rfl rfl rfl) ?_
              refine xg_t (xg_aload (va := (2, 82)) rfl rfl) ?_
              refine xg_t (xg_getf (va := (2, 83)) (hF47.get (by decide) h82_31) rfl) ?_
              refine xg_t (xg_sip) ?_
              refine xg_t (xg_aload (va := (2, 82)) rfl rfl) ?_
              refine xg_t (xg_getf (va := (2, 83)) (hF47.get (by decide) h82_31) rfl) ?_
              refine xg_t (xg_bip) ?_
              refine xg_ialdB (n := 15) (B := 4294967295) h83_52 (hb53) xnm0 (by omega) (fun u93 hu94 he95 => ?_)
              have hl96 : u93 ≤ 500 := by rw [← he95]; exact hx54.l15
              refine xg_t (xg_iadd (u := 400) (v := u93) (z := 400 + u93) xnm0 xnm0 (by omega)) ?_
              refine xg_t (xg_iload (va := (0, fb)) rfl rfl) ?_
              refine xg_t (xg_bip) ?_
              refine xg_t (xg_bip) ?_
              refine xg_t (xg_iload (va := (0, ii)) rfl rfl) ?_
              refine xg_t (xg_const) ?_
              refine xg_t (xg_irem (u := ii) (v := 4) (z := ii % 4) xnm0 xnm0 (by omega) (by decide) (by decide) (rfl)) ?_
              refine xg_t (xg_imul (u := 8) (v := ii % 4) (z := 8 * (ii % 4)) xnm0 xnm0 (by omega)) ?_
              refine xg_t (xg_isub (u := 24) (v := 8 * (ii % 4)) (z := 24 - (8 * (ii % 4))) xnm0 xnm0 (by omega)) ?_
              refine xg_k (xg_ishrG (u := fb) (v := 24 - (8 * (ii % 4))) xnm0 xnm0) (xpt_lt _) (fun z97 hz98 => ?_)
              refine xg_t (xg_sip) ?_
              refine xg_k (xg_iand (z := Nat.land z97 255) (u := z97) (v := 255) xnm0 xnm0 rfl) (xland_lt (by omega)) (fun z99 hz100 => ?_)
              refine xg_iastK (n := 400 + u93) (u := z99) h83_52 xnm0 xnm0 rfl (by omega) (fun w101 hr102 hb103 => ?_)
              have hx104 : okA (fun j => if j = 400 + u93 then z99 else g83_51 j) := hx54.upd (by omega) (by omega) (by omega) (fun _ => by omega) (by omega) (fun _ => by omega) (fun _ => by omega) (fun _ => by omega) (fun _ => by omega) (by omega) (fun _ _ => by omega)
              have hb105 : ∀ j, (fun j => if j = 400 + u93 then z99 else g83_51 j) j ≤ 4294967295 := xrb (by omega) (hb53)
              obtain ⟨g106, hg107⟩ : ∃ g : Nat → Nat, g = (fun j => if j = 400 + u93 then z99 else g83_51 j) := ⟨_, rfl⟩
              rw [← hg107] at hr102
              have he108 : g106 (400 + u93) = z99 := by rw [hg107]; exact if_pos rfl
              have hk109 : ∀ j, j ≠ 400 + u93 → g106 j = g83_51 j := fun j hj => by rw [hg107]; exact if_neg hj
              rw [← hg107] at hx104
              rw [← hg107] at hb105
              have hk110 : g106 15 = g83_51 15 := hk109 15 (by omega)
              refine xg_t (xg_aload (va := (2, 82)) rfl rfl) ?_
              refine xg_t (xg_getf (va := (2, 83)) (hb103.get (by decide) (hF47.get (by decide) h82_31)) rfl) ?_
              refine xg_t (xg_bip) ?_
              refine xg_t (xg_dup2 rfl) ?_
              refine xg_ialdB (n := 15) (B := 4294967295) hr102 (hb105) xnm0 (by omega) (fun u111 hu112 he113 => ?_)
              have hl114 : u111 ≤ 500 := by rw [← he113]; exact hx104.l15
              refine xg_t (xg_const) ?_
              refine xg_t (xg_iadd (u := u111) (v := 1) (z := u111 + 1) xnm0 xnm0 (by omega)) ?_
              refine xg_iastK (n := 15) (u := u111 + 1) hr102 xnm0 xnm0 rfl (by omega) (fun w115 hr116 hb117 => ?_)
              have hx118 : okA (fun j => if j = 15 then u111 + 1 else g106 j) := hx104.upd (by omega) (by omega) (by omega) (fun _ => by omega) (by omega) (fun _ => by omega) (fun _ => by omega) (fun _ => by omega) (fun _ => by omega) (by omega) (fun _ _ => by omega)
              have hb119 : ∀ j, (fun j => if j = 15 then u111 + 1 else g106 j) j ≤ 4294967295 := xrb (by omega) (hb105)
              obtain ⟨g120, hg121⟩ : ∃ g : Nat → Nat, g = (fun j => if j = 15 then u111 + 1 else g106 j) := ⟨_, rfl⟩
              rw [← hg121] at hr116
              have he122 : g120 15 = u111 + 1 := by rw [hg121]; exact if_pos rfl
              have hk123 : ∀ j, j ≠ 15 → g120 j = g106 j := fun j hj => by rw [hg121]; exact if_neg hj
              rw [← hg121] at hx118
              rw [← hg121] at hb119
              refine xg_t (xg_iinc (u := ii) (z := ii + 1) (l1 := [(7, (0, fb)), (0, (2, 82)), (1, (0, fa)), (2, (0, fb)), (3, (0, fc_)), (4, (0, fd)), (5, (0, fe))]) rfl rfl (by omega) rfl) ?_
              refine xg_t (xg_goto) ?_
              refine xg_t (xg_drop (l1 := [(0, (2, 82)), (1, (0, fa)), (2, (0, fb)), (3, (0, fc_)), (4, (0, fd)), (5, (0, fe)), (6, (0, ii + 1))]) (List.forall_mem_cons.mpr ⟨List.mem_cons_of_mem _ (List.mem_cons_of_mem _ (List.mem_cons_self)), List.forall_mem_cons.mpr ⟨List.mem_cons_of_mem _ (List.mem_cons_of_mem _ (List.mem_cons_of_mem _ (List.mem_cons_self))), List.forall_mem_cons.mpr ⟨List.mem_cons_of_mem _ (List.mem_cons_of_mem _ (List.mem_cons_of_mem _ (List.mem_cons_of_mem _ (List.mem_cons_self)))), List.forall_mem_cons.mpr ⟨List.mem_cons_of_mem _ (List.mem_cons_of_mem _ (List.mem_cons_of_mem _ (List.mem_cons_of_mem _ (List.mem_cons_of_mem _ (List.mem_cons_self))))), List.forall_mem_cons.mpr ⟨List.mem_cons_of_mem _ (List.mem_cons_of_mem _ (List.mem_cons_of_mem _ (List.mem_cons_of_mem _ (List.mem_cons_of_mem _ (List.mem_cons_of_mem _ (List.mem_cons_self)))))), List.forall_mem_cons.mpr ⟨List.mem_cons_of_mem _ (List.mem_cons_of_mem _ (List.mem_cons_of_mem _ (List.mem_cons_of_mem _ (List.mem_cons_of_mem _ (List.mem_cons_of_mem _ (List.mem_cons_of_mem _ (List.mem_cons_self))))))), List.forall_mem_cons.mpr ⟨List.mem_cons_self, fun _ h => absurd h List.not_mem_nil⟩⟩⟩⟩⟩⟩⟩)) ?_
              exact ih43 (ii + 1) w115 (by omega) (by omega) (xMnv.up (S := [83]) hI46 ((xFr.of (S := [83]) hb103 (by decide)).tr (xFr.of (S := [83]) hb117 (by decide))) (List.forall_mem_cons.mpr ⟨(show cpx83 (wget w115 83) from ⟨_, hr116, hb119, hx118⟩), fun _ h => absurd h List.not_mem_nil⟩)) ((hF47.tr ((xFr.of (S := [83]) hb103 (by decide)).tr (xFr.of (S := [83]) hb117 (by decide))))) (⟨_, hr116, by omega⟩)
            · refine xg_t (xg_icT (u := ii) (v := 8) rfl xnm0 xnm0 (xj_geT (by omega) (by omega))) ?_
              refine xg_t (xg_blk (b := [(49, 2, 2, 6, 0, 0), (51, 2, 4, 12, 0, 0), (53, 3, 6, 60, 3, 0), (56, 1, 2, 3, 0, 0), (57, 3, 8, 74, 0, 0)]) rfl) ?_
              refine xg_t (xg_iload (va := (0, ii)) rfl rfl) ?_
              refine xg_t (xg_bip) ?_
              by_cases hc124 : ii < 12
              · refine xg_t (xg_icF (u := ii) (v := 12) rfl xnm0 xnm0 (xj_geF hc124 (by omega))) ?_
                refine xg_t (xg_iload (va := (0, fc_)) rfl rfl) ?_
                refine xg_t (xg_goto) ?_
                refine xg_t (xg_blk (b := [(74, 2, 15, 7, 0, 0), (76, 1, 0, 0, 0, 0), (77, 3, 1, 12, 0, 7), (80, 3, 5, 400, 0, 0), (83, 1, 0, 0, 0, 0), (84, 3, 1, 12, 0, 7), (87, 2, 4, 15, 0, 0), (89, 1, 10, 0, 0, 0), (90, 1, 11, 0, 0, 0), (91, 2, 2, 7, 0, 0), (93, 2, 4, 24, 0, 0), (95, 2, 4, 8, 0, 0), (97, 2, 2, 6, 0, 0), (99, 1, 3, 4, 0, 0), (100, 1, 21, 0, 0, 0), (101, 1, 16, 0, 0, 0), (102, 1, 18, 0, 0, 0), (103, 1, 29, 0, 0, 0), (104, 3, 5, 255, 0, 0), (107, 1, 30, 0, 0, 0), (108, 1, 17, 0, 0, 0), (109, 1, 0, 0, 0, 0), (110, 3, 1, 12, 0, 7), (113, 2, 4, 15, 0, 0), (115, 1, 39, 0, 0, 0), (116, 1, 10, 0, 0, 0), (117, 1, 3, 1, 0, 0), (118, 1, 11, 0, 0, 0), (119, 1, 17, 0, 0, 0), (120, 3, 9, 6, 1, 0), (123, 3, 8, 21, 0, 0)]) rfl) ?_
                refine xg_t (xg_istore (l1 := [(0, (2, 82)), (1, (0, fa)), (2, (0, fb)), (3, (0, fc_)), (4, (0, fd)), (5, (0, fe)), (6, (0, ii))]) rfl rfl rfl) ?_
                refine xg_t (xg_aload (va := (2, 82)) rfl rfl) ?_
                refine xg_t (xg_getf (va := (2, 83)) (hF47.get (by decide) h82_31) rfl) ?_
                refine xg_t (xg_sip) ?_
                refine xg_t (xg_aload (va := (2, 82)) rfl rfl) ?_
                refine xg_t (xg_getf (va := (2, 83)) (hF47.get (by decide) h82_31) rfl) ?_
                refine xg_t (xg_bip) ?_
                refine xg_ialdB (n := 15) (B := 4294967295) h83_52 (hb53) xnm0 (by omega) (fun u125 hu126 he127 => ?_)
                have hl128 : u125 ≤ 500 := by rw [← he127]; exact hx54.l15
                refine xg_t (xg_iadd (u := 400) (v := u125) (z := 400 + u125) xnm0 xnm0 (by omega)) ?_
                refine xg_t (xg_iload (va := (0, fc_)) rfl rfl) ?_
                refine xg_t (xg_bip) ?_
                refine xg_t (xg_bip) ?_
                refine xg_t (xg_iload (va := (0, ii)) rfl rfl) ?_
                refine xg_t (xg_const) ?_
                refine xg_t (xg_irem (u := ii) (v := 4) (z := ii % 4) xnm0 xnm0 (by omega) (by decide) (by decide) (rfl)) ?_
                refine xg_t (xg_imul (u := 8) (v := ii % 4) (z := 8 * (ii % 4)) xnm0 xnm0 (by omega)) ?_
                refine xg_t (xg_isub (u := 24) (v := 8 * (ii % 4)) (z := 24 - (8 * (ii % 4))) xnm0 xnm0 (by omega)) ?_
                refine xg_k (xg_ishrG (u := fc_) (v := 24 - (8 * (ii % 4))) xnm0 xnm0) (xpt_lt _) (fun z129 hz130 => ?_)
                refine xg_t (xg_sip) ?_
                refine xg_k (xg_iand (z := Nat.land z129 255) (u := z129) (v := 255) xnm0 xnm0 rfl) (xland_lt (by omega)) (fun z131 hz132 => ?_)
                refine xg_iastK (n := 400 + u125) (u := z131) h83_52 xnm0 xnm0 rfl (by omega) (fun w133 hr134 hb135 => ?_)
                have hx136 : okA (fun j => if j = 400 + u125 then z131 else g83_51 j) := hx54.upd (by omega) (by omega) (by omega) (fun _ => by omega) (by omega) (fun _ => by omega) (fun _ => by omega) (fun _ => by omega) (fun _ => by omega) (by omega) (fun _ _ => by omega)
                have hb137 : ∀ j, (fun j => if j = 400 + u125 then z131 else g83_51 j) j ≤ 4294967295 := xrb (by omega) (hb53)
                obtain ⟨g138, hg139⟩ : ∃ g : Nat → Nat, g = (fun j => if j = 400 + u125 then z131 else g83_51 j) := ⟨_, rfl⟩
                rw [← hg139] at hr134
                have he140 : g138 (400 + u125) = z131 := by rw [hg139]; exact if_pos rfl
                have hk141 : ∀ j, j ≠ 400 + u125 → g138 j = g83_51 j := fun j hj => by rw [hg139]; exact if_neg hj
                rw [← hg139] at hx136
                rw [← hg139] at hb137
                have hk142 : g138 15 = g83_51 15 := hk141 15 (by omega)
                refine xg_t (xg_aload (va := (2, 82)) rfl rfl) ?_
                refine xg_t (xg_getf (va := (2, 83)) (hb135.get (by decide) (hF47.get (by decide) h82_31)) rfl) ?_
                refine xg_t (xg_bip) ?_
                refine xg_t (xg_dup2 rfl) ?_
                refine xg_ialdB (n := 15) (B := 4294967295) hr134 (hb137) xnm0 (by omega) (fun u143 hu144 he145 => ?_)
                have hl146 : u143 ≤ 500 := by rw [← he145]; exact hx136.l15
                refine xg_t (xg_const) ?_
                refine xg_t (xg_iadd (u := u143) (v := 1) (z := u143 + 1) xnm0 xnm0 (by omega)) ?_
                refine xg_iastK (n := 15) (u := u143 + 1) hr134 xnm0 xnm0 rfl (by omega) (fun w147 hr148 hb149 => ?_)
                have hx150 : okA (fun j => if j = 15 then u143 + 1 else g138 j) := hx136.upd (by omega) (by omega) (by omega) (fun _ => by omega) (by omega) (fun _ => by omega) (fun _ => by omega) (fun _ => by omega) (fun _ => by omega) (by omega) (fun _ _ => by omega)
                have hb151 : ∀ j, (fun j => if j = 15 then u143 + 1 else g138 j) j ≤ 4294967295 := xrb (by omega) (hb137)
                obtain ⟨g152, hg153⟩ : ∃ g : Nat → Nat, g = (fun j => if j = 15 then u143 + 1 else g138 j) := ⟨_, rfl⟩
                rw [← hg153] at hr148
                have he154 : g152 15 = u143 + 1 := by rw [hg153]; exact if_pos rfl
                have hk155 : ∀ j, j ≠ 15 → g152 j = g138 j := fun j hj => by rw [hg153]; exact if_neg hj
                rw [← hg153] at hx150
                rw [← hg153] at hb151
                refine xg_t (xg_iinc (u := ii) (z := ii + 1) (l1 := [(7, (0, fc_)), (0, (2, 82)), (1, (0, fa)), (2, (0, fb)), (3, (0, fc_)), (4, (0, fd)), (5, (0, fe))]) rfl rfl (by omega) rfl) ?_
                refine xg_t (xg_goto) ?_
                refine xg_t (xg_drop (l1 := [(0, (2, 82)), (1, (0, fa)), (2, (0, fb)), (3, (0, fc_)), (4, (0, fd)), (5, (0, fe)), (6, (0, ii + 1))]) (List.forall_mem_cons.mpr ⟨List.mem_cons_of_mem _ (List.mem_cons_of_mem _ (List.mem_cons_self)), List.forall_mem_cons.mpr ⟨List.mem_cons_of_mem _ (List.mem_cons_of_mem _ (List.mem_cons_of_mem _ (List.mem_cons_self))), List.forall_mem_cons.mpr ⟨List.mem_cons_of_mem _ (List.mem_cons_of_mem _ (List.mem_cons_of_mem _ (List.mem_cons_of_mem _ (List.mem_cons_self)))), List.forall_mem_cons.mpr ⟨List.mem_cons_of_mem _ (List.mem_cons_of_mem _ (List.mem_cons_of_mem _ (List.mem_cons_of_mem _ (List.mem_cons_of_mem _ (List.mem_cons_self))))), List.forall_mem_cons.mpr ⟨List.mem_cons_of_mem _ (List.mem_cons_of_mem _ (List.mem_cons_of_mem _ (List.mem_cons_of_mem _ (List.mem_cons_of_mem _ (List.mem_cons_of_mem _ (List.mem_cons_self)))))), List.forall_mem_cons.mpr ⟨List.mem_cons_of_mem _ (List.mem_cons_of_mem _ (List.mem_cons_of_mem _ (List.mem_cons_of_mem _ (List.mem_cons_of_mem _ (List.mem_cons_of_mem _ (List.mem_cons_of_mem _ (List.mem_cons_self))))))), List.forall_mem_cons.mpr ⟨List.mem_cons_self, fun _ h => absurd h List.not_mem_nil⟩⟩⟩⟩⟩⟩⟩)) ?_
                exact ih43 (ii + 1) w147 (by omega) (by omega) (xMnv.up (S := [83]) hI46 ((xFr.of (S := [83]) hb135 (by decide)).tr (xFr.of (S := [83]) hb149 (by decide))) (List.forall_mem_cons.mpr ⟨(show cpx83 (wget w147 83) from ⟨_, hr148, hb151, hx150⟩), fun _ h => absurd h List.not_mem_nil⟩)) ((hF47.tr ((xFr.of (S := [83]) hb135 (by decide)).tr (xFr.of (S := [83]) hb149 (by decide))))) (⟨_, hr148, by omega⟩)
              · refine xg_t (xg_icT (u := ii) (v := 12) rfl xnm0 xnm0 (xj_geT (by omega) (by omega))) ?_
                refine xg_t (xg_blk (b := [(60, 2, 2, 6, 0, 0), (62, 2, 4, 16, 0, 0), (64, 3, 6, 72, 3, 0), (67, 2, 2, 4, 0, 0), (69, 3, 8, 74, 0, 0)]) rfl) ?_
                refine xg_t (xg_iload (va := (0, ii)) rfl rfl) ?_
                refine xg_t (xg_bip) ?_
                by_cases hc156 : ii < 16
                · refine xg_t (xg_icF (u := ii) (v := 16) rfl xnm0 xnm0 (xj_geF hc156 (by omega))) ?_
                  refine xg_t (xg_iload (va := (0, fd)) rfl rfl) ?_
                  refine xg_t (xg_goto) ?_
                  refine xg_t (xg_blk (b := [(74, 2, 15, 7, 0, 0), (76, 1, 0, 0, 0, 0), (77, 3, 1, 12, 0, 7), (80, 3, 5, 400, 0, 0), (83, 1, 0, 0, 0, 0), (84, 3, 1, 12, 0, 7), (87, 2, 4, 15, 0, 0), (89, 1, 10, 0, 0, 0), (90, 1, 11, 0, 0, 0), (91, 2, 2, 7, 0, 0), (93, 2, 4, 24, 0, 0), (95, 2, 4, 8, 0, 0), (97, 2, 2, 6, 0, 0), (99, 1, 3, 4, 0, 0), (100, 1, 21, 0, 0, 0), (101, 1, 16, 0, 0, 0), (102, 1, 18, 0, 0, 0), (103, 1, 29, 0, 0, 0), (104, 3, 5, 255, 0, 0), (107, 1, 30, 0, 0, 0), (108, 1, 17, 0, 0, 0), (109, 1, 0, 0, 0, 0), (110, 3, 1, 12, 0, 7), (113, 2, 4, 15, 0, 0), (115, 1, 39, 0, 0, 0), (116, 1, 10, 0, 0, 0), (117, 1, 3, 1, 0, 0), (118, 1, 11, 0, 0, 0), (119, 1, 17, 0, 0, 0), (120, 3, 9, 6, 1, 0), (123, 3, 8, 21, 0, 0)]) rfl) ?_
                  refine xg_t (xg_istore (l1 := [(0, (2, 82)), (1, (0, fa)), (2, (0, fb)), (3, (0, fc_)), (4, (0, fd)), (5, (0, fe)), (6, (0, ii))]) rfl rfl rfl) ?_
                  refine xg_t (xg_aload (va := (2, 82)) rfl rfl) ?_
                  refine xg_t (xg_getf (va := (2, 83)) (hF47.get (by decide) h82_31) rfl) ?_
                  refine xg_t (xg_sip) ?_
                  refine xg_t (xg_aload (va := (2, 82)) rfl rfl) ?_
                  refine xg_t (xg_getf (va := (2, 83)) (hF47.get (by decide) h82_31) rfl) ?_
                  refine xg_t (xg_bip) ?_
                  refine xg_ialdB (n := 15) (B := 4294967295) h83_52 (hb53) xnm0 (by omega) (fun u157 hu158 he159 => ?_)
                  have hl160 : u157 ≤ 500 := by rw [← he159]; exact hx54.l15
                  refine xg_t (xg_iadd (u := 400) (v := u157) (z := 400 + u157) xnm0 xnm0 (by omega)) ?_
                  refine xg_t (xg_iload (va := (0, fd)) rfl rfl) ?_
                  refine xg_t (xg_bip) ?_
                  refine xg_t (xg_bip) ?_
                  refine xg_t (xg_iload (va := (0, ii)) rfl rfl) ?_
                  refine xg_t (xg_const) ?_
                  refine xg_t (xg_irem (u := ii) (v := 4) (z := ii % 4) xnm0 xnm0 (by omega) (by decide) (by decide) (rfl)) ?_
                  refine xg_t (xg_imul (u := 8) (v := ii % 4) (z := 8 * (ii % 4)) xnm0 xnm0 (by omega)) ?_
                  refine xg_t (xg_isub (u := 24) (v := 8 * (ii % 4)) (z := 24 - (8 * (ii % 4))) xnm0 xnm0 (by omega)) ?_
                  refine xg_k (xg_ishrG (u := fd) (v := 24 - (8 * (ii % 4))) xnm0 xnm0) (xpt_lt _) (fun z161 hz162 => ?_)
                  refine xg_t (xg_sip) ?_
                  refine xg_k (xg_iand (z := Nat.land z161 255) (u := z161) (v := 255) xnm0 xnm0 rfl) (xland_lt (by omega)) (fun z163 hz164 => ?_)
                  refine xg_iastK (n := 400 + u157) (u := z163) h83_52 xnm0 xnm0 rfl (by omega) (fun w165 hr166 hb167 => ?_)
                  have hx168 : okA (fun j => if j = 400 + u157 then z163 else g83_51 j) := hx54.upd (by omega) (by omega) (by omega) (fun _ => by omega) (by omega) (fun _ => by omega) (fun _ => by omega) (fun _ => by omega) (fun _ => by omega) (by omega) (fun _ _ => by omega)
                  have hb169 : ∀ j, (fun j => if j = 400 + u157 then z163 else g83_51 j) j ≤ 4294967295 := xrb (by omega) (hb53)
                  obtain ⟨g170, hg171⟩ : ∃ g : Nat → Nat, g = (fun j => if j = 400 + u157 then z163 else g83_51 j) := ⟨_, rfl⟩
                  rw [← hg171] at hr166
                  have he172 : g170 (400 + u157) = z163 := by rw [hg171]; exact if_pos rfl
                  have hk173 : ∀ j, j ≠ 400 + u157 → g170 j = g83_51 j := fun j hj => by rw [hg171]; exact if_neg hj
                  rw [← hg171] at hx168
                  rw [← hg171] at hb169
                  have hk174 : g170 15 = g83_51 15 := hk173 15 (by omega)
                  refine xg_t (xg_aload (va := (2, 82)) rfl rfl) ?_
                  refine xg_t (xg_getf (va := (2, 83)) (hb167.get (by decide) (hF47.get (by decide) h82_31)) rfl) ?_
                  refine xg_t (xg_bip) ?_
                  refine xg_t (xg_dup2 rfl) ?_
                  refine xg_ialdB (n := 15) (B := 4294967295) hr166 (hb169) xnm0 (by omega) (fun u175 hu176 he177 => ?_)
                  have hl178 : u175 ≤ 500 := by rw [← he177]; exact hx168.l15
                  refine xg_t (xg_const) ?_
                  refine xg_t (xg_iadd (u := u175) (v := 1) (z := u175 + 1) xnm0 xnm0 (by omega)) ?_
                  refine xg_iastK (n := 15) (u := u175 + 1) hr166 xnm0 xnm0 rfl (by omega) (fun w179 hr180 hb181 => ?_)
                  have hx182 : okA (fun j => if j = 15 then u175 + 1 else g170 j) := hx168.upd (by omega) (by omega) (by omega) (fun _ => by omega) (by omega) (fun _ => by omega) (fun _ => by omega) (fun _ => by omega) (fun _ => by omega) (by omega) (fun _ _ => by omega)
                  have hb183 : ∀ j, (fun j => if j = 15 then u175 + 1 else g170 j) j ≤ 4294967295 := xrb (by omega) (hb169)
                  obtain ⟨g184, hg185⟩ : ∃ g : Nat → Nat, g = (fun j => if j = 15 then u175 + 1 else g170 j) := ⟨_, rfl⟩
                  rw [← hg185] at hr180
                  have he186 : g184 15 = u175 + 1 := by rw [hg185]; exact if_pos rfl
                  have hk187 : ∀ j, j ≠ 15 → g184 j = g170 j := fun j hj => by rw [hg185]; exact if_neg hj
                  rw [← hg185] at hx182
                  rw [← hg185] at hb183
                  refine xg_t (xg_iinc (u := ii) (z := ii + 1) (l1 := [(7, (0, fd)), (0, (2, 82)), (1, (0, fa)), (2, (0, fb)), (3, (0, fc_)), (4, (0, fd)), (5, (0, fe))]) rfl rfl (by omega) rfl) ?_
                  refine xg_t (xg_goto) ?_
                  refine xg_t (xg_drop (l1 := [(0, (2, 82)), (1, (0, fa)), (2, (0, fb)), (3, (0, fc_)), (4, (0, fd)), (5, (0, fe)), (6, (0, ii + 1))]) (List.forall_mem_cons.mpr ⟨List.mem_cons_of_mem _ (List.mem_cons_of_mem _ (List.mem_cons_self)), List.forall_mem_cons.mpr ⟨List.mem_cons_of_mem _ (List.mem_cons_of_mem _ (List.mem_cons_of_mem _ (List.mem_cons_self))), List.forall_mem_cons.mpr ⟨List.mem_cons_of_mem _ (List.mem_cons_of_mem _ (List.mem_cons_of_mem _ (List.mem_cons_of_mem _ (List.mem_cons_self)))), List.forall_mem_cons.mpr ⟨List.mem_cons_of_mem _ (List.mem_cons_of_mem _ (List.mem_cons_of_mem _ (List.mem_cons_of_mem _ (List.mem_cons_of_mem _ (List.mem_cons_self))))), List.forall_mem_cons.mpr ⟨List.mem_cons_of_mem _ (List.mem_cons_of_mem _ (List.mem_cons_of_mem _ (List.mem_cons_of_mem _ (List.mem_cons_of_mem _ (List.mem_cons_of_mem _ (List.mem_cons_self)))))), List.forall_mem_cons.mpr ⟨List.mem_cons_of_mem _ (List.mem_cons_of_mem _ (List.mem_cons_of_mem _ (List.mem_cons_of_mem _ (List.mem_cons_of_mem _ (List.mem_cons_of_mem _ (List.mem_cons_of_mem _ (List.mem_cons_self))))))), List.forall_mem_cons.mpr ⟨List.mem_cons_self, fun _ h => absurd h List.not_mem_nil⟩⟩⟩⟩⟩⟩⟩)) ?_
                  exact ih43 (ii + 1) w179 (by omega) (by omega) (xMnv.up (S := [83]) hI46 ((xFr.of (S := [83]) hb167 (by decide)).tr (xFr.of (S := [83]) hb181 (by decide))) (List.forall_mem_cons.mpr ⟨(show cpx83 (wget w179 83) from ⟨_, hr180, hb183, hx182⟩), fun _ h => absurd h List.not_mem_nil⟩)) ((hF47.tr ((xFr.of (S := [83]) hb167 (by decide)).tr (xFr.of (S := [83]) hb181 (by decide))))) (⟨_, hr180, by omega⟩)
                · refine xg_t (xg_icT (u := ii) (v := 16) rfl xnm0 xnm0 (xj_geT (by omega) (by omega))) ?_
                  refine xg_t (xg_blk (b := [(72, 2, 2, 5, 0, 0)]) rfl) ?_
                  refine xg_t (xg_iload (va := (0, fe)) rfl rfl) ?_
                  refine xg_t (xg_blk (b := [(74, 2, 15, 7, 0, 0), (76, 1, 0, 0, 0, 0), (77, 3, 1, 12, 0, 7), (80, 3, 5, 400, 0, 0), (83, 1, 0, 0, 0, 0), (84, 3, 1, 12, 0, 7), (87, 2, 4, 15, 0, 0), (89, 1, 10, 0, 0, 0), (90, 1, 11, 0, 0, 0), (91, 2, 2, 7, 0, 0), (93, 2, 4, 24, 0, 0), (95, 2, 4, 8, 0, 0), (97, 2, 2, 6, 0, 0), (99, 1, 3, 4, 0, 0), (100, 1, 21, 0, 0, 0), (101, 1, 16, 0, 0, 0), (102, 1, 18, 0, 0, 0), (103, 1, 29, 0, 0, 0), (104, 3, 5, 255, 0, 0), (107, 1, 30, 0, 0, 0), (108, 1, 17, 0, 0, 0), (109, 1, 0, 0, 0, 0), (110, 3, 1, 12, 0, 7), (113, 2, 4, 15, 0, 0), (115, 1, 39, 0, 0, 0), (116, 1, 10, 0, 0, 0), (117, 1, 3, 1, 0, 0), (118, 1, 11, 0, 0, 0), (119, 1, 17, 0, 0, 0), (120, 3, 9, 6, 1, 0), (123, 3, 8, 21, 0, 0)]) rfl) ?_
                  refine xg_t (xg_istore (l1 := [(0, (2, 82)), (1, (0, fa)), (2, (0, fb)), (3, (0, fc_)), (4, (0, fd)), (5, (0, fe)), (6, (0, ii))]) rfl rfl rfl) ?_
                  refine xg_t (xg_aload (va := (2, 82)) rfl rfl) ?_
                  refine xg_t (xg_getf (va := (2, 83)) (hF47.get (by decide) h82_31) rfl) ?_
                  refine xg_t (xg_sip) ?_
                  refine xg_t (xg_aload (va := (2, 82)) rfl rfl) ?_
                  refine xg_t (xg_getf (va := (2, 83)) (hF47.get (by decide) h82_31) rfl) ?_
                  refine xg_t (xg_bip) ?_
                  refine xg_ialdB (n := 15) (B := 4294967295) h83_52 (hb53) xnm0 (by omega) (fun u188 hu189 he190 => ?_)
                  have hl191 : u188 ≤ 500 := by rw [← he190]; exact hx54.l15
                  refine xg_t (xg_iadd (u := 400) (v := u188) (z := 400 + u188) xnm0 xnm0 (by omega)) ?_
                  refine xg_t (xg_iload (va := (0, fe)) rfl rfl) ?_
                  refine xg_t (xg_bip) ?_
                  refine xg_t (xg_bip) ?_
                  refine xg_t (xg_iload (va := (0, ii)) rfl rfl) ?_
                  refine xg_t (xg_const) ?_
                  refine xg_t (xg_irem (u := ii) (v := 4) (z := ii % 4) xnm0 xnm0 (by omega) (by decide) (by decide) (rfl)) ?_
                  refine xg_t (xg_imul (u := 8) (v := ii % 4) (z := 8 * (ii % 4)) xnm0 xnm0 (by omega)) ?_
                  refine xg_t (xg_isub (u := 24) (v := 8 * (ii % 4)) (z := 24 - (8 * (ii % 4))) xnm0 xnm0 (by omega)) ?_
                  refine xg_k (xg_ishrG (u := fe) (v := 24 - (8 * (ii % 4))) xnm0 xnm0) (xpt_lt _) (fun z192 hz193 => ?_)
                  refine xg_t (xg_sip) ?_
                  refine xg_k (xg_iand (z := Nat.land z192 255) (u := z192) (v := 255) xnm0 xnm0 rfl) (xland_lt (by omega)) (fun z194 hz195 => ?_)
                  refine xg_iastK (n := 400 + u188) (u := z194) h83_52 xnm0 xnm0 rfl (by omega) (fun w196 hr197 hb198 => ?_)
                  have hx199 : okA (fun j => if j = 400 + u188 then z194 else g83_51 j) := hx54.upd (by omega) (by omega) (by omega) (fun _ => by omega) (by omega) (fun _ => by omega) (fun _ => by omega) (fun _ => by omega) (fun _ => by omega) (by omega) (fun _ _ => by omega)
                  have hb200 : ∀ j, (fun j => if j = 400 + u188 then z194 else g83_51 j) j ≤ 4294967295 := xrb (by omega) (hb53)
                  obtain ⟨g201, hg202⟩ : ∃ g : Nat → Nat, g = (fun j => if j = 400 + u188 then z194 else g83_51 j) := ⟨_, rfl⟩
                  rw [← hg202] at hr197
                  have he203 : g201 (400 + u188) = z194 := by rw [hg202]; exact if_pos rfl
                  have hk204 : ∀ j, j ≠ 400 + u188 → g201 j = g83_51 j := fun j hj => by rw [hg202]; exact if_neg hj
                  rw [← hg202] at hx199
                  rw [← hg202] at hb200
                  have hk205 : g201 15 = g83_51 15 := hk204 15 (by omega)
                  refine xg_t (xg_aload (va := (2, 82)) rfl rfl) ?_
                  refine xg_t (xg_getf (va := (2, 83)) (hb198.get (by decide) (hF47.get (by decide) h82_31)) rfl) ?_
                  refine xg_t (xg_bip) ?_
                  refine xg_t (xg_dup2 rfl) ?_
                  refine xg_ialdB (n := 15) (B := 4294967295) hr197 (hb200) xnm0 (by omega) (fun u206 hu207 he208 => ?_)
                  have hl209 : u206 ≤ 500 := by rw [← he208]; exact hx199.l15
                  refine xg_t (xg_const) ?_
                  refine xg_t (xg_iadd (u := u206) (v := 1) (z := u206 + 1) xnm0 xnm0 (by omega)) ?_
                  refine xg_iastK (n := 15) (u := u206 + 1) hr197 xnm0 xnm0 rfl (by omega) (fun w210 hr211 hb212 => ?_)
                  have hx213 : okA (fun j => if j = 15 then u206 + 1 else g201 j) := hx199.upd (by omega) (by omega) (by omega) (fun _ => by omega) (by omega) (fun _ => by omega) (fun _ => by omega) (fun _ => by omega) (fun _ => by omega) (by omega) (fun _ _ => by omega)
                  have hb214 : ∀ j, (fun j => if j = 15 then u206 + 1 else g201 j) j ≤ 4294967295 := xrb (by omega) (hb200)
                  obtain ⟨g215, hg216⟩ : ∃ g : Nat → Nat, g = (fun j => if j = 15 then u206 + 1 else g201 j) := ⟨_, rfl⟩
                  rw [← hg216] at hr211
                  have he217 : g215 15 = u206 + 1 := by rw [hg216]; exact if_pos rfl
                  have hk218 : ∀ j, j ≠ 15 → g215 j = g201 j := fun j hj => by rw [hg216]; exact if_neg hj
                  rw [← hg216] at hx213
                  rw [← hg216] at hb214
                  refine xg_t (xg_iinc (u := ii) (z := ii + 1) (l1 := [(7, (0, fe)), (0, (2, 82)), (1, (0, fa)), (2, (0, fb)), (3, (0, fc_)), (4, (0, fd)), (5, (0, fe))]) rfl rfl (by omega) rfl) ?_
                  refine xg_t (xg_goto) ?_
                  refine xg_t (xg_drop (l1 := [(0, (2, 82)), (1, (0, fa)), (2, (0, fb)), (3, (0, fc_)), (4, (0, fd)), (5, (0, fe)), (6, (0, ii + 1))]) (List.forall_mem_cons.mpr ⟨List.mem_cons_of_mem _ (List.mem_cons_of_mem _ (List.mem_cons_self)), List.forall_mem_cons.mpr ⟨List.mem_cons_of_mem _ (List.mem_cons_of_mem _ (List.mem_cons_of_mem _ (List.mem_cons_self))), List.forall_mem_cons.mpr ⟨List.mem_cons_of_mem _ (List.mem_cons_of_mem _ (List.mem_cons_of_mem _ (List.mem_cons_of_mem _ (List.mem_cons_self)))), List.forall_mem_cons.mpr ⟨List.mem_cons_of_mem _ (List.mem_cons_of_mem _ (List.mem_cons_of_mem _ (List.mem_cons_of_mem _ (List.mem_cons_of_mem _ (List.mem_cons_self))))), List.forall_mem_cons.mpr ⟨List.mem_cons_of_mem _ (List.mem_cons_of_mem _ (List.mem_cons_of_mem _ (List.mem_cons_of_mem _ (List.mem_cons_of_mem _ (List.mem_cons_of_mem _ (List.mem_cons_self)))))), List.forall_mem_cons.mpr ⟨List.mem_cons_of_mem _ (List.mem_cons_of_mem _ (List.mem_cons_of_mem _ (List.mem_cons_of_mem _ (List.mem_cons_of_mem _ (List.mem_cons_of_mem _ (List.mem_cons_of_mem _ (List.mem_cons_self))))))), List.forall_mem_cons.mpr ⟨List.mem_cons_self, fun _ h => absurd h List.not_mem_nil⟩⟩⟩⟩⟩⟩⟩)) ?_
                  exact ih43 (ii + 1) w210 (by omega) (by omega) (xMnv.up (S := [83]) hI46 ((xFr.of (S := [83]) hb198 (by decide)).tr (xFr.of (S := [83]) hb212 (by decide))) (List.forall_mem_cons.mpr ⟨(show cpx83 (wget w210 83) from ⟨_, hr211, hb214, hx213⟩), fun _ h => absurd h List.not_mem_nil⟩)) ((hF47.tr ((xFr.of (S := [83]) hb198 (by decide)).tr (xFr.of (S := [83]) hb212 (by decide))))) (⟨_, hr211, by omega⟩)
        · refine xg_t (xg_icT (u := ii) (v := 20) rfl xnm0 xnm0 (xj_geT (by omega) (by omega))) ?_
          refine xg_t (xg_blk (b := [(126, 1, 0, 0, 0, 0), (127, 3, 1, 12, 0, 7), (130, 2, 4, 15, 0, 0), (132, 1, 10, 0, 0, 0), (133, 1, 12, 0, 1, 0)]) rfl) ?_
          refine xg_t (xg_aload (va := (2, 82)) rfl rfl) ?_
          refine xg_t (xg_getf (va := (2, 83)) (hF47.get (by decide) h82_31) rfl) ?_
          refine xg_t (xg_bip) ?_
          refine xg_ialdB (n := 15) (B := 4294967295) h83_52 (hb53) xnm0 (by omega) (fun u219 hu220 he221 => ?_)
          have hl222 : u219 ≤ 500 := by rw [← he221]; exact hx54.l15
          exact xg_e ⟨u219, w45, ⟨rfl, rfl⟩, by omega, hI46, hF47⟩
    exact key42 _ 0 w (Nat.lt_succ_self _) (by omega) (hI) (xFr.rf) (⟨_, h83_34, by omega⟩)
theorem mEnd {nn : Nat} (hI : xMnv w) (hnn : nn ≤ 4294967295) : xPi d mX12_end [(2, 82), (0, nn)] w bd fc rr (fun n w' => (n ≤ 4294967295) ∧ xMnv w' ∧ xFr [83] w w') := by
  refine xPi.of ?_
  show xTo d mX12_end (0, [], [(0, (2, 82)), (1, (0, nn))], [], (w, bd, fc, 0, 0, rr)) (fun φ => ∃ n w', xEnd 1 [(0, n)] (w', bd, fc, 0, 0, rr) φ ∧ (n ≤ 4294967295) ∧ xMnv w' ∧ xFr [83] w w')
  obtain ⟨f82_1, f82_3, f82_5, f82_7, f82_9, f82_11, f82_13, f82_15, f82_17, f82_19, f82_21, f82_22, f82_23, f82_25, f82_27, f82_29, h82_31, hb2, hb4, hb6, hb8, hb10, hb12, hb14, hb16, hb18, hb20, hb24, hb26, hb28, hb30, hb32⟩ := (hI 82 (by decide) (by decide) : cp82 (wget w 82))
  replace hb4 := xHid.of hb4
  replace hb10 := xHid.of hb10
  replace hb14 := xHid.of hb14
  replace hb16 := xHid.of hb16
  replace hb20 := xHid.of hb20
  replace hb24 := xHid.of hb24
  replace hb26 := xHid.of hb26
  replace hb28 := xHid.of hb28
  replace hb30 := xHid.of hb30
  obtain ⟨g83_33, h83_34, hb35, hx36⟩ := (hI 83 (by decide) (by decide) : cpx83 (wget w 83))
  have h83_34 : xRow w 83 5360 50 g83_33 := h83_34
  refine xg_t (xg_blk (b := [(0, 1, 2, 1, 0, 0), (1, 3, 7, 15, 2, 0), (4, 1, 2, 1, 0, 0), (5, 1, 0, 0, 0, 0), (6, 3, 1, 12, 0, 7), (9, 2, 4, 15, 0, 0), (11, 1, 10, 0, 0, 0), (12, 3, 6, 17, 5, 0)]) rfl) ?_
  refine xg_t (xg_iload (va := (0, nn)) rfl rfl) ?_
  by_cases hc37 : nn < 2147483648
  · refine xg_t (xg_ifF (u := nn) rfl xnm0 (xjz_ltF hc37)) ?_
    refine xg_t (xg_iload (va := (0, nn)) rfl rfl) ?_
    refine xg_t (xg_aload (va := (2, 82)) rfl rfl) ?_
    refine xg_t (xg_getf (va := (2, 83)) h82_31 rfl) ?_
    refine xg_t (xg_bip) ?_
    refine xg_ialdB (n := 15) (B := 4294967295) h83_34 (hb35) xnm0 (by omega) (fun u38 hu39 he40 => ?_)
    have hl41 : u38 ≤ 500 := by rw [← he40]; exact hx36.l15
    by_cases hc42 : u38 < nn
    · refine xg_t (xg_icF (u := nn) (v := u38) rfl xnm0 xnm0 (xj_leF hc42 (by omega))) ?_
      refine xg_t (xg_blk (b := [(15, 1, 3, 4294967295, 0, 0), (16, 1, 12, 0, 1, 0)]) rfl) ?_
      refine xg_t (xg_const) ?_
      exact xg_e ⟨4294967295, w, ⟨rfl, rfl⟩, by omega, hI, xFr.rf⟩
    · refine xg_t (xg_icT (u := nn) (v := u38) rfl xnm0 xnm0 (xj_leT (by omega) (by omega))) ?_
      refine xg_t (xg_blk (b := [(17, 1, 0, 0, 0, 0), (18, 3, 1, 12, 0, 7), (21, 2, 4, 15, 0, 0), (23, 1, 2, 1, 0, 0), (24, 1, 17, 0, 0, 0), (25, 1, 2, 1, 0, 0), (26, 1, 12, 0, 1, 0)]) rfl) ?_
      refine xg_t (xg_aload (va := (2, 82)) rfl rfl) ?_
      refine xg_t (xg_getf (va := (2, 83)) h82_31 rfl) ?_
      refine xg_t (xg_bip) ?_
      refine xg_t (xg_iload (va := (0, nn)) rfl rfl) ?_
      refine xg_iastK (n := 15) (u := nn) h83_34 xnm0 xnm0 rfl (by omega) (fun w43 hr44 hb45 => ?_)
      have hx46 : okA (fun j => if j = 15 then nn else g83_33 j) := hx36.upd (by omega) (by omega) (by omega) (fun _ => by omega) (by omega) (fun _ => by omega) (fun _ => by omega) (fun _ => by omega) (fun _ => by omega) (by omega) (fun _ _ => by omega)
      have hb47 : ∀ j, (fun j => if j = 15 then nn else g83_33 j) j ≤ 4294967295 := xrb (by omega) (hb35)
      obtain ⟨g48, hg49⟩ : ∃ g : Nat → Nat, g = (fun j => if j = 15 then nn else g83_33 j) := ⟨_, rfl⟩
      rw [← hg49] at hr44
      have he50 : g48 15 = nn := by rw [hg49]; exact if_pos rfl
      have hk51 : ∀ j, j ≠ 15 → g48 j = g83_33 j := fun j hj => by rw [hg49]; exact if_neg hj
      rw [← hg49] at hx46
      rw [← hg49] at hb47
      refine xg_t (xg_iload (va := (0, nn)) rfl rfl) ?_
      exact xg_e ⟨nn, w43, ⟨rfl, rfl⟩, by omega, xMnv.up (S := [83]) hI (xFr.of (S := [83]) hb45 (by decide)) (List.forall_mem_cons.mpr ⟨(show cpx83 (wget w43 83) from ⟨_, hr44, hb47, hx46⟩), fun _ h => absurd h List.not_mem_nil⟩), (xFr.of (S := [83]) hb45 (by decide))⟩
  · refine xg_t (xg_ifT (u := nn) rfl xnm0 (xjz_ltT (by omega) (by omega))) ?_
    refine xg_t (xg_blk (b := [(15, 1, 3, 4294967295, 0, 0), (16, 1, 12, 0, 1, 0)]) rfl) ?_
    refine xg_t (xg_const) ?_
    exact xg_e ⟨4294967295, w, ⟨rfl, rfl⟩, by omega, hI, xFr.rf⟩
theorem mFault {wh : Nat} (hI : xMnv w) (hwh : wh ≤ 4294967295) : xPi d mX12_fault [(2, 82), (0, wh)] w bd fc rr (fun n w' => (n ≤ 4294967295) ∧ xMnv w' ∧ xFr [] w w') := by
  refine xPi.of ?_
  show xTo d mX12_fault (0, [], [(0, (2, 82)), (1, (0, wh))], [], (w, bd, fc, 0, 0, rr)) (fun φ => ∃ n w', xEnd 1 [(0, n)] (w', bd, fc, 0, 0, rr) φ ∧ (n ≤ 4294967295) ∧ xMnv w' ∧ xFr [] w w')
  obtain ⟨f82_1, f82_3, f82_5, f82_7, f82_9, f82_11, f82_13, f82_15, f82_17, f82_19, f82_21, f82_22, f82_23, f82_25, f82_27, f82_29, h82_31, hb2, hb4, hb6, hb8, hb10, hb12, hb14, hb16, hb18, hb20, hb24, hb26, hb28, hb30, hb32⟩ := (hI 82 (by decide) (by decide) : cp82 (wget w 82))
  replace hb4 := xHid.of hb4
  replace hb10 := xHid.of hb10
  replace hb14 := xHid.of hb14
  replace hb16 := xHid.of hb16
  replace hb20 := xHid.of hb20
  replace hb24 := xHid.of hb24
  replace hb26 := xHid.of hb26
  replace hb28 := xHid.of hb28
  replace hb30 := xHid.of hb30
  obtain ⟨g83_33, h83_34, hb35, hx36⟩ := (hI 83 (by decide) (by decide) : cpx83 (wget w 83))
  have h83_34 : xRow w 83 5360 50 g83_33 := h83_34
  refine xg_t (xg_blk (b := [(0, 1, 2, 1, 0, 0), (1, 3, 7, 14, 1, 0), (4, 1, 0, 0, 0, 0), (5, 3, 1, 12, 0, 7), (8, 2, 4, 16, 0, 0), (10, 1, 10, 0, 0, 0), (11, 3, 8, 30, 0, 0)]) rfl) ?_
  refine xg_t (xg_iload (va := (0, wh)) rfl rfl) ?_
  by_cases hc37 : wh = 0
  · refine xg_t (xg_ifF (u := wh) rfl xnm0 (xj_neF hc37)) ?_
    refine xg_t (xg_aload (va := (2, 82)) rfl rfl) ?_
    refine xg_t (xg_getf (va := (2, 83)) h82_31 rfl) ?_
    refine xg_t (xg_bip) ?_
    refine xg_ialdB (n := 16) (B := 4294967295) h83_34 (hb35) xnm0 (by omega) (fun u38 hu39 he40 => ?_)
    refine xg_t (xg_goto) ?_
    refine xg_t (xg_blk (b := [(30, 1, 12, 0, 1, 0)]) rfl) ?_
    exact xg_e ⟨u38, w, ⟨rfl, rfl⟩, by omega, hI, xFr.rf⟩
  · refine xg_t (xg_ifT (u := wh) rfl xnm0 (xj_neT hc37)) ?_
    refine xg_t (xg_blk (b := [(14, 1, 2, 1, 0, 0), (15, 1, 3, 1, 0, 0), (16, 3, 6, 29, 1, 0), (19, 1, 0, 0, 0, 0), (20, 3, 1, 12, 0, 7), (23, 2, 4, 17, 0, 0), (25, 1, 10, 0, 0, 0), (26, 3, 8, 30, 0, 0)]) rfl) ?_
    refine xg_t (xg_iload (va := (0, wh)) rfl rfl) ?_
    refine xg_t (xg_const) ?_
    by_cases hc41 : wh = 1
    · refine xg_t (xg_icF (u := wh) (v := 1) rfl xnm0 xnm0 (xj_neF hc41)) ?_
      refine xg_t (xg_aload (va := (2, 82)) rfl rfl) ?_
      refine xg_t (xg_getf (va := (2, 83)) h82_31 rfl) ?_
      refine xg_t (xg_bip) ?_
      refine xg_ialdB (n := 17) (B := 4294967295) h83_34 (hb35) xnm0 (by omega) (fun u42 hu43 he44 => ?_)
      refine xg_t (xg_goto) ?_
      refine xg_t (xg_blk (b := [(30, 1, 12, 0, 1, 0)]) rfl) ?_
      exact xg_e ⟨u42, w, ⟨rfl, rfl⟩, by omega, hI, xFr.rf⟩
    · refine xg_t (xg_icT (u := wh) (v := 1) rfl xnm0 xnm0 (xj_neT hc41)) ?_
      refine xg_t (xg_blk (b := [(29, 1, 3, 4294967295, 0, 0)]) rfl) ?_
      refine xg_t (xg_const) ?_
      refine xg_t (xg_blk (b := [(30, 1, 12, 0, 1, 0)]) rfl) ?_
      exact xg_e ⟨4294967295, w, ⟨rfl, rfl⟩, by omega, hI, xFr.rf⟩
theorem mWet {da : Nat} (hI : xMnv w) (hda : da ≤ 4294967295) : xPi (d + 1) mX12_wet [(2, 82), (0, da)] w bd fc rr (fun n w' => (n ≤ 1) ∧ xMnv w' ∧ xFr [83] w w') := by
  refine xPi.of ?_
  show xTo (d + 1) mX12_wet (0, [], [(0, (2, 82)), (1, (0, da))], [], (w, bd, fc, 0, 0, rr)) (fun φ => ∃ n w', xEnd 4 [(0, n)] (w', bd, fc, 0, 0, rr) φ ∧ (n ≤ 1) ∧ xMnv w' ∧ xFr [83] w w')
  obtain ⟨f82_1, f82_3, f82_5, f82_7, f82_9, f82_11, f82_13, f82_15, f82_17, f82_19, f82_21, f82_22, f82_23, f82_25, f82_27, f82_29, h82_31, hb2, hb4, hb6, hb8, hb10, hb12, hb14, hb16, hb18, hb20, hb24, hb26, hb28, hb30, hb32⟩ := (hI 82 (by decide) (by decide) : cp82 (wget w 82))
  replace hb4 := xHid.of hb4
  replace hb10 := xHid.of hb10
  replace hb14 := xHid.of hb14
  replace hb16 := xHid.of hb16
  replace hb20 := xHid.of hb20
  replace hb24 := xHid.of hb24
  replace hb26 := xHid.of hb26
  replace hb28 := xHid.of hb28
  replace hb30 := xHid.of hb30
  obtain ⟨g83_33, h83_34, hb35, hx36⟩ := (hI 83 (by decide) (by decide) : cpx83 (wget w 83))
  have h83_34 : xRow w 83 5360 50 g83_33 := h83_34
  refine xg_t (xg_blk (b := [(0, 1, 2, 1, 0, 0), (1, 1, 3, 0, 0, 0), (2, 3, 5, 200, 0, 0), (5, 3, 13, 161, 98, 105), (8, 3, 7, 13, 1, 0), (11, 1, 3, 0, 0, 0), (12, 1, 12, 0, 1, 0)]) rfl) ?_
  refine xg_t (xg_iload (va := (0, da)) rfl rfl) ?_
  refine xg_t (xg_const) ?_
  refine xg_t (xg_sip) ?_
  refine xg_t (xg_cSr mX12_isIn (vs := [(0, da), (0, 0), (0, 200)]) (rest := []) (rs := [(0, if 0 ≤ da ∧ da ≤ 200 then 1 else 0)]) (cn1 := 0) (sl1 := 0) rfl (mIsIn (by omega) (by omega) (by omega)) rfl rfl rfl rfl rfl rfl rfl rfl) ?_
  by_cases hc37 : 0 ≤ da ∧ da ≤ 200
  · refine xg_t (xg_ifT (u := (if 0 ≤ da ∧ da ≤ 200 then 1 else 0)) rfl xnm0 (xj_neT (xite1 hc37))) ?_
    refine xg_t (xg_blk (b := [(13, 1, 0, 0, 0, 0), (14, 3, 1, 12, 0, 7), (17, 2, 4, 13, 0, 0), (19, 1, 2, 1, 0, 0), (20, 1, 17, 0, 0, 0), (21, 1, 3, 1, 0, 0), (22, 1, 12, 0, 1, 0)]) rfl) ?_
    refine xg_t (xg_aload (va := (2, 82)) rfl rfl) ?_
    refine xg_t (xg_getf (va := (2, 83)) h82_31 rfl) ?_
    refine xg_t (xg_bip) ?_
    refine xg_t (xg_iload (va := (0, da)) rfl rfl) ?_
    refine xg_iastK (n := 13) (u := da) h83_34 xnm0 xnm0 rfl (by omega) (fun w38 hr39 hb40 => ?_)
    have hx41 : okA (fun j => if j = 13 then da else g83_33 j) := hx36.upd (by omega) (by omega) (by omega) (fun _ => by omega) (by omega) (fun _ => by omega) (fun _ => by omega) (fun _ => by omega) (fun _ => by omega) (by omega) (fun _ _ => by omega)
    have hb42 : ∀ j, (fun j => if j = 13 then da else g83_33 j) j ≤ 4294967295 := xrb (by omega) (hb35)
    obtain ⟨g43, hg44⟩ : ∃ g : Nat → Nat, g = (fun j => if j = 13 then da else g83_33 j) := ⟨_, rfl⟩
    rw [← hg44] at hr39
    have he45 : g43 13 = da := by rw [hg44]; exact if_pos rfl
    have hk46 : ∀ j, j ≠ 13 → g43 j = g83_33 j := fun j hj => by rw [hg44]; exact if_neg hj
    rw [← hg44] at hx41
    rw [← hg44] at hb42
    refine xg_t (xg_const) ?_
    exact xg_e ⟨1, w38, ⟨rfl, rfl⟩, by omega, xMnv.up (S := [83]) hI (xFr.of (S := [83]) hb40 (by decide)) (List.forall_mem_cons.mpr ⟨(show cpx83 (wget w38 83) from ⟨_, hr39, hb42, hx41⟩), fun _ h => absurd h List.not_mem_nil⟩), (xFr.of (S := [83]) hb40 (by decide))⟩
  · refine xg_t (xg_ifF (u := (if 0 ≤ da ∧ da ≤ 200 then 1 else 0)) rfl xnm0 (xj_neF (xite0 hc37))) ?_
    refine xg_t (xg_const) ?_
    exact xg_e ⟨0, w, ⟨rfl, rfl⟩, by omega, hI, xFr.rf⟩
theorem mCost {ck co : Nat} (hI : xMnv w) (hck : ck ≤ 4294967295) (hco : co ≤ 4294967295) : xPi (d + 2) mX12_cost [(2, 82), (0, ck), (0, co)] w bd fc rr (fun n w' => (n ≤ 1) ∧ xMnv w' ∧ xFr [83] w w') := by
  refine xPi.of ?_
  show xTo (d + 2) mX12_cost (0, [], [(0, (2, 82)), (1, (0, ck)), (2, (0, co))], [], (w, bd, fc, 0, 0, rr)) (fun φ => ∃ n w', xEnd 4 [(0, n)] (w', bd, fc, 0, 0, rr) φ ∧ (n ≤ 1) ∧ xMnv w' ∧ xFr [83] w w')
  obtain ⟨f82_1, f82_3, f82_5, f82_7, f82_9, f82_11, f82_13, f82_15, f82_17, f82_19, f82_21, f82_22, f82_23, f82_25, f82_27, f82_29, h82_31, hb2, hb4, hb6, hb8, hb10, hb12, hb14, hb16, hb18, hb20, hb24, hb26, hb28, hb30, hb32⟩ := (hI 82 (by decide) (by decide) : cp82 (wget w 82))
  replace hb4 := xHid.of hb4
  replace hb10 := xHid.of hb10
  replace hb14 := xHid.of hb14
  replace hb16 := xHid.of hb16
  replace hb20 := xHid.of hb20
  replace hb24 := xHid.of hb24
  replace hb26 := xHid.of hb26
  replace hb28 := xHid.of hb28
  replace hb30 := xHid.of hb30
  obtain ⟨g83_33, h83_34, hb35, hx36⟩ := (hI 83 (by decide) (by decide) : cpx83 (wget w 83))
  have h83_34 : xRow w 83 5360 50 g83_33 := h83_34
  refine xg_t (xg_blk (b := [(0, 1, 0, 0, 0, 0), (1, 1, 2, 1, 0, 0), (2, 2, 4, 9, 0, 0), (4, 3, 13, 168, 96, 241), (7, 3, 7, 20, 0, 0), (10, 1, 2, 2, 0, 0), (11, 1, 3, 1, 0, 0), (12, 2, 4, 99, 0, 0), (14, 3, 13, 161, 98, 105), (17, 3, 7, 22, 1, 0)]) rfl) ?_
  refine xg_t (xg_aload (va := (2, 82)) rfl rfl) ?_
  refine xg_t (xg_iload (va := (0, ck)) rfl rfl) ?_
  refine xg_t (xg_bip) ?_
  have hl37 := hx36.l9
  refine xg_cVi mX12_isOf (vs := [(0, ck), (0, 9)]) (rest := []) (cn1 := 0) (sl1 := 0) rfl (mOf9 (hI) (by omega) h83_34 hb35 hx36) rfl h82_31 rfl rfl rfl rfl rfl rfl (fun n42 w38 hq39 => ?_)
  obtain ⟨hn43, hI40, hF41⟩ := hq39
  by_cases hc44 : n42 = 0
  · refine xg_t (xg_ifT (u := n42) rfl xnm0 (xj_eqT hc44)) ?_
    refine xg_t (xg_blk (b := [(20, 1, 3, 0, 0, 0), (21, 1, 12, 0, 1, 0)]) rfl) ?_
    refine xg_t (xg_const) ?_
    exact xg_e ⟨0, w38, ⟨rfl, rfl⟩, by omega, hI40, (hF41.up (by decide))⟩
  · refine xg_t (xg_ifF (u := n42) rfl xnm0 (xj_eqF hc44)) ?_
    refine xg_t (xg_iload (va := (0, co)) rfl rfl) ?_
    refine xg_t (xg_const) ?_
    refine xg_t (xg_bip) ?_
    refine xg_t (xg_cSr mX12_isIn (vs := [(0, co), (0, 1), (0, 99)]) (rest := []) (rs := [(0, if 1 ≤ co ∧ co ≤ 99 then 1 else 0)]) (cn1 := 0) (sl1 := 0) rfl (mIsIn (by omega) (by omega) (by omega)) rfl rfl rfl rfl rfl rfl rfl rfl) ?_
    by_cases hc45 : 1 ≤ co ∧ co ≤ 99
    · refine xg_t (xg_ifT (u := (if 1 ≤ co ∧ co ≤ 99 then 1 else 0)) rfl xnm0 (xj_neT (xite1 hc45))) ?_
      refine xg_t (xg_blk (b := [(22, 1, 0, 0, 0, 0), (23, 3, 1, 12, 0, 7), (26, 3, 5, 910, 0, 0), (29, 1, 2, 1, 0, 0), (30, 1, 11, 0, 0, 0), (31, 1, 2, 2, 0, 0), (32, 1, 17, 0, 0, 0), (33, 1, 3, 1, 0, 0), (34, 1, 12, 0, 1, 0)]) rfl) ?_
      refine xg_t (xg_aload (va := (2, 82)) rfl rfl) ?_
      refine xg_t (xg_getf (va := (2, 83)) (hF41.get (by decide) h82_31) rfl) ?_
      refine xg_t (xg_sip) ?_
      refine xg_t (xg_iload (va := (0, ck)) rfl rfl) ?_
      refine xg_t (xg_iadd (u := 910) (v := ck) (z := 910 + ck) xnm0 xnm0 (by omega)) ?_
      refine xg_t (xg_iload (va := (0, co)) rfl rfl) ?_
      refine xg_iastK (n := 910 + ck) (u := co) (h83_34.fr hF41 (by decide)) xnm0 xnm0 rfl (by omega) (fun w46 hr47 hb48 => ?_)
      have hx49 : okA (fun j => if j = 910 + ck then co else g83_33 j) := hx36.upd (by omega) (by omega) (by omega) (fun _ => by omega) (by omega) (fun _ => by omega) (fun _ => by omega) (fun _ => by omega) (fun _ => by omega) (by omega) (fun _ _ => by omega)
      have hb50 : ∀ j, (fun j => if j = 910 + ck then co else g83_33 j) j ≤ 4294967295 := xrb (by omega) (hb35)
      obtain ⟨g51, hg52⟩ : ∃ g : Nat → Nat, g = (fun j => if j = 910 + ck then co else g83_33 j) := ⟨_, rfl⟩
      rw [← hg52] at hr47
      have he53 : g51 (910 + ck) = co := by rw [hg52]; exact if_pos rfl
      have hk54 : ∀ j, j ≠ 910 + ck → g51 j = g83_33 j := fun j hj => by rw [hg52]; exact if_neg hj
      rw [← hg52] at hx49
      rw [← hg52] at hb50
      refine xg_t (xg_const) ?_
      exact xg_e ⟨1, w46, ⟨rfl, rfl⟩, by omega, xMnv.up (S := [83]) hI40 (xFr.of (S := [83]) hb48 (by decide)) (List.forall_mem_cons.mpr ⟨(show cpx83 (wget w46 83) from ⟨_, hr47, hb50, hx49⟩), fun _ h => absurd h List.not_mem_nil⟩), ((hF41.up (by decide)).tr (xFr.of (S := [83]) hb48 (by decide)))⟩
    · refine xg_t (xg_ifF (u := (if 1 ≤ co ∧ co ≤ 99 then 1 else 0)) rfl xnm0 (xj_neF (xite0 hc45))) ?_
      refine xg_t (xg_blk (b := [(20, 1, 3, 0, 0, 0), (21, 1, 12, 0, 1, 0)]) rfl) ?_
      refine xg_t (xg_const) ?_
      exact xg_e ⟨0, w38, ⟨rfl, rfl⟩, by omega, hI40, (hF41.up (by decide))⟩
theorem mHand {fi fo ro : Nat} (hI : xMnv w) (hfi : fi ≤ 4294967295) (hfo : fo ≤ 4294967295) (hro : ro ≤ 4294967295) : xPi (d + 2) mX12_hand [(2, 82), (0, fi), (0, fo), (0, ro)] w bd fc rr (fun n w' => (n ≤ 4294967295) ∧ xMnv w' ∧ xFr [83] w w') := by
  refine xPi.of ?_
  show xTo (d + 2) mX12_hand (0, [], [(0, (2, 82)), (1, (0, fi)), (2, (0, fo)), (3, (0, ro))], [], (w, bd, fc, 0, 0, rr)) (fun φ => ∃ n w', xEnd 1 [(0, n)] (w', bd, fc, 0, 0, rr) φ ∧ (n ≤ 4294967295) ∧ xMnv w' ∧ xFr [83] w w')
  obtain ⟨f82_1, f82_3, f82_5, f82_7, f82_9, f82_11, f82_13, f82_15, f82_17, f82_19, f82_21, f82_22, f82_23, f82_25, f82_27, f82_29, h82_31, hb2, hb4, hb6, hb8, hb10, hb12, hb14, hb16, hb18, hb20, hb24, hb26, hb28, hb30, hb32⟩ := (hI 82 (by decide) (by decide) : cp82 (wget w 82))
  replace hb4 := xHid.of hb4
  replace hb10 := xHid.of hb10
  replace hb14 := xHid.of hb14
  replace hb16 := xHid.of hb16
  replace hb20 := xHid.of hb20
  replace hb24 := xHid.of hb24
  replace hb26 := xHid.of hb26
  replace hb28 := xHid.of hb28
  replace hb30 := xHid.of hb30
  obtain ⟨g83_33, h83_34, hb35, hx36⟩ := (hI 83 (by decide) (by decide) : cpx83 (wget w 83))
  have h83_34 : xRow w 83 5360 50 g83_33 := h83_34
  refine xg_t (xg_blk (b := [(0, 1, 0, 0, 0, 0), (1, 3, 1, 12, 0, 7), (4, 3, 5, 900, 0, 0), (7, 1, 10, 0, 0, 0), (8, 1, 3, 4, 0, 0), (9, 3, 6, 42, 0, 0), (12, 1, 2, 1, 0, 0), (13, 1, 3, 1, 0, 0), (14, 3, 5, 999, 0, 0), (17, 3, 13, 161, 98, 105), (20, 3, 7, 42, 0, 0), (23, 1, 2, 2, 0, 0), (24, 1, 3, 1, 0, 0), (25, 3, 5, 999, 0, 0), (28, 3, 13, 161, 98, 105), (31, 3, 7, 42, 0, 0), (34, 1, 0, 0, 0, 0), (35, 1, 2, 3, 0, 0), (36, 3, 13, 171, 96, 247), (39, 3, 7, 44, 1, 0)]) rfl) ?_
  refine xg_t (xg_aload (va := (2, 82)) rfl rfl) ?_
  refine xg_t (xg_getf (va := (2, 83)) h82_31 rfl) ?_
  refine xg_t (xg_sip) ?_
  refine xg_ialdB (n := 900) (B := 4294967295) h83_34 (hb35) xnm0 (by omega) (fun u37 hu38 he39 => ?_)
  have hl40 : u37 ≤ 4 := by rw [← he39]; exact hx36.l900
  refine xg_t (xg_const) ?_
  by_cases hc41 : u37 = 4
  · refine xg_t (xg_icT (u := u37) (v := 4) rfl xnm0 xnm0 (xj_eqT hc41)) ?_
    refine xg_t (xg_blk (b := [(42, 1, 3, 4294967295, 0, 0), (43, 1, 12, 0, 1, 0)]) rfl) ?_
    refine xg_t (xg_const) ?_
    exact xg_e ⟨4294967295, w, ⟨rfl, rfl⟩, by omega, hI, xFr.rf⟩
  · refine xg_t (xg_icF (u := u37) (v := 4) rfl xnm0 xnm0 (xj_eqF hc41)) ?_
    refine xg_t (xg_iload (va := (0, fi)) rfl rfl) ?_
    refine xg_t (xg_const) ?_
    refine xg_t (xg_sip) ?_
    refine xg_t (xg_cSr mX12_isIn (vs := [(0, fi), (0, 1), (0, 999)]) (rest := []) (rs := [(0, if 1 ≤ fi ∧ fi ≤ 999 then 1 else 0)]) (cn1 := 0) (sl1 := 0) rfl (mIsIn (by omega) (by omega) (by omega)) rfl rfl rfl rfl rfl rfl rfl rfl) ?_
    by_cases hc42 : 1 ≤ fi ∧ fi ≤ 999
    · refine xg_t (xg_ifF (u := (if 1 ≤ fi ∧ fi ≤ 999 then 1 else 0)) rfl xnm0 (xj_eqF (xite1 hc42))) ?_
      refine xg_t (xg_iload (va := (0, fo)) rfl rfl) ?_
      refine xg_t (xg_const) ?_
      refine xg_t (xg_sip) ?_
      refine xg_t (xg_cSr mX12_isIn (vs := [(0, fo), (0, 1), (0, 999)]) (rest := []) (rs := [(0, if 1 ≤ fo ∧ fo ≤ 999 then 1 else 0)]) (cn1 := 0) (sl1 := 0) rfl (mIsIn (by omega) (by omega) (by omega)) rfl rfl rfl rfl rfl rfl rfl rfl) ?_
      by_cases hc43 : 1 ≤ fo ∧ fo ≤ 999
      · refine xg_t (xg_ifF (u := (if 1 ≤ fo ∧ fo ≤ 999 then 1 else 0)) rfl xnm0 (xj_eqF (xite1 hc43))) ?_
        refine xg_t (xg_aload (va := (2, 82)) rfl rfl) ?_
        refine xg_t (xg_iload (va := (0, ro)) rfl rfl) ?_
        refine xg_cVi mX12_isRound (vs := [(0, ro)]) (rest := []) (cn1 := 0) (sl1 := 0) rfl (mRound (hI) (by omega)) rfl h82_31 rfl rfl rfl rfl rfl rfl (fun n48 w44 hq45 => ?_)
        obtain ⟨hn49, hI46, hF47⟩ := hq45
        by_cases hc50 : n48 = 0
        · refine xg_t (xg_ifF (u := n48) rfl xnm0 (xj_neF hc50)) ?_
          refine xg_t (xg_blk (b := [(42, 1, 3, 4294967295, 0, 0), (43, 1, 12, 0, 1, 0)]) rfl) ?_
          refine xg_t (xg_const) ?_
          exact xg_e ⟨4294967295, w44, ⟨rfl, rfl⟩, by omega, hI46, (hF47.up (by decide))⟩
        · refine xg_t (xg_ifT (u := n48) rfl xnm0 (xj_neT hc50)) ?_
          refine xg_t (xg_blk (b := [(44, 3, 5, 950, 0, 0), (47, 1, 3, 3, 0, 0), (48, 1, 0, 0, 0, 0), (49, 3, 1, 12, 0, 7), (52, 3, 5, 900, 0, 0), (55, 1, 10, 0, 0, 0), (56, 1, 16, 0, 0, 0), (57, 1, 11, 0, 0, 0), (58, 2, 15, 4, 0, 0), (60, 1, 0, 0, 0, 0), (61, 3, 1, 12, 0, 7), (64, 2, 2, 4, 0, 0), (66, 1, 2, 1, 0, 0), (67, 1, 17, 0, 0, 0), (68, 1, 0, 0, 0, 0), (69, 3, 1, 12, 0, 7), (72, 2, 2, 4, 0, 0), (74, 1, 3, 1, 0, 0), (75, 1, 11, 0, 0, 0), (76, 1, 2, 2, 0, 0), (77, 1, 17, 0, 0, 0), (78, 1, 0, 0, 0, 0), (79, 3, 1, 12, 0, 7), (82, 2, 2, 4, 0, 0), (84, 1, 3, 2, 0, 0), (85, 1, 11, 0, 0, 0), (86, 1, 2, 3, 0, 0), (87, 1, 17, 0, 0, 0), (88, 1, 0, 0, 0, 0), (89, 3, 1, 12, 0, 7), (92, 3, 5, 900, 0, 0), (95, 1, 39, 0, 0, 0), (96, 1, 10, 0, 0, 0), (97, 1, 3, 1, 0, 0), (98, 1, 11, 0, 0, 0), (99, 1, 17, 0, 0, 0), (100, 1, 0, 0, 0, 0), (101, 3, 1, 12, 0, 7), (104, 3, 5, 900, 0, 0), (107, 1, 10, 0, 0, 0), (108, 1, 3, 1, 0, 0), (109, 1, 18, 0, 0, 0), (110, 1, 12, 0, 1, 0)]) rfl) ?_
          refine xg_t (xg_sip) ?_
          refine xg_t (xg_const) ?_
          refine xg_t (xg_aload (va := (2, 82)) rfl rfl) ?_
          refine xg_t (xg_getf (va := (2, 83)) (hF47.get (by decide) h82_31) rfl) ?_
          refine xg_t (xg_sip) ?_
          refine xg_ialdB (n := 900) (B := 4294967295) (h83_34.fr hF47 (by decide)) (hb35) xnm0 (by omega) (fun u51 hu52 he53 => ?_)
          have hl54 : u51 ≤ 4 := by rw [← he53]; exact hx36.l900
          refine xg_t (xg_imul (u := 3) (v := u51) (z := 3 * u51) xnm0 xnm0 (by omega)) ?_
          refine xg_t (xg_iadd (u := 950) (v := 3 * u51) (z := 950 + (3 * u51)) xnm0 xnm0 (by omega)) ?_
          refine xg_t (xg_istore (l1 := [(0, (2, 82)), (1, (0, fi)), (2, (0, fo)), (3, (0, ro))]) rfl rfl rfl) ?_
          refine xg_t (xg_aload (va := (2, 82)) rfl rfl) ?_
          refine xg_t (xg_getf (va := (2, 83)) (hF47.get (by decide) h82_31) rfl) ?_
          refine xg_t (xg_iload (va := (0, 950 + (3 * u51))) rfl rfl) ?_
          refine xg_t (xg_iload (va := (0, fi)) rfl rfl) ?_
          refine xg_iastK (n := 950 + (3 * u51)) (u := fi) (h83_34.fr hF47 (by decide)) xnm0 xnm0 rfl (by omega) (fun w55 hr56 hb57 => ?_)
          have hx58 : okA (fun j => if j = 950 + (3 * u51) then fi else g83_33 j) := hx36.upd (by omega) (by omega) (by omega) (fun _ => by omega) (by omega) (fun _ => by omega) (fun _ => by omega) (fun _ => by omega) (fun _ => by omega) (by omega) (fun _ _ => by omega)
          have hb59 : ∀ j, (fun j => if j = 950 + (3 * u51) then fi else g83_33 j) j ≤ 4294967295 := xrb (by omega) (hb35)
          obtain ⟨g60, hg61⟩ : ∃ g : Nat → Nat, g = (fun j => if j = 950 + (3 * u51) then fi else g83_33 j) := ⟨_, rfl⟩
          rw [← hg61] at hr56
          have he62 : g60 (950 + (3 * u51)) = fi := by rw [hg61]; exact if_pos rfl
          have hk63 : ∀ j, j ≠ 950 + (3 * u51) → g60 j = g83_33 j := fun j hj => by rw [hg61]; exact if_neg hj
          rw [← hg61] at hx58
          rw [← hg61] at hb59
          have hk64 : g60 900 = g83_33 900 := hk63 900 (by omega)
          refine xg_t (xg_aload (va := (2, 82)) rfl rfl) ?_
          refine xg_t (xg_getf (va := (2, 83)) (hb57.get (by decide) (hF47.get (by decide) h82_31)) rfl) ?_
          refine xg_t (xg_iload (va := (0, 950 + (3 * u51))) rfl rfl) ?_
          refine xg_t (xg_const) ?_
          refine xg_t (xg_iadd (u := 950 + (3 * u51)) (v := 1) (z := (950 + (3 * u51)) + 1) xnm0 xnm0 (by omega)) ?_
          refine xg_t (xg_iload (va := (0, fo)) rfl rfl) ?_
          refine xg_iastK (n := (950 + (3 * u51)) + 1) (u := fo) hr56 xnm0 xnm0 rfl (by omega) (fun w65 hr66 hb67 => ?_)
          have hx68 : okA (fun j => if j = (950 + (3 * u51)) + 1 then fo else g60 j) := hx58.upd (by omega) (by omega) (by omega) (fun _ => by omega) (by omega) (fun _ => by omega) (fun _ => by omega) (fun _ => by omega) (fun _ => by omega) (by omega) (fun _ _ => by omega)
          have hb69 : ∀ j, (fun j => if j = (950 + (3 * u51)) + 1 then fo else g60 j) j ≤ 4294967295 := xrb (by omega) (hb59)
          obtain ⟨g70, hg71⟩ : ∃ g : Nat → Nat, g = (fun j => if j = (950 + (3 * u51)) + 1 then fo else g60 j) := ⟨_, rfl⟩
          rw [← hg71] at hr66
          have he72 : g70 ((950 + (3 * u51)) + 1) = fo := by rw [hg71]; exact if_pos rfl
          have hk73 : ∀ j, j ≠ (950 + (3 * u51)) + 1 → g70 j = g60 j := fun j hj => by rw [hg71]; exact if_neg hj
          rw [← hg71] at hx68
          rw [← hg71] at hb69
          have hk74 : g70 900 = g60 900 := hk73 900 (by omega)
          refine xg_t (xg_aload (va := (2, 82)) rfl rfl) ?_
          refine xg_t (xg_getf (va := (2, 83)) (hb67.get (by decide) (hb57.get (by decide) (hF47.get (by decide) h82_31))) rfl) ?_
          refine xg_t (xg_iload (va := (0, 950 + (3 * u51))) rfl rfl) ?_
          refine xg_t (xg_const) ?_
          refine xg_t (xg_iadd (u := 950 + (3 * u51)) (v := 2) (z := (950 + (3 * u51)) + 2) xnm0 xnm0 (by omega)) ?_
          refine xg_t (xg_iload (va := (0, ro)) rfl rfl) ?_
          refine xg_iastK (n := (950 + (3 * u51)) + 2) (u := ro) hr66 xnm0 xnm0 rfl (by omega) (fun w75 hr76 hb77 => ?_)
          have hx78 : okA (fun j => if j = (950 + (3 * u51)) + 2 then ro else g70 j) := hx68.upd (by omega) (by omega) (by omega) (fun _ => by omega) (by omega) (fun _ => by omega) (fun _ => by omega) (fun _ => by omega) (fun _ => by omega) (by omega) (fun _ _ => by omega)
          have hb79 : ∀ j, (fun j => if j = (950 + (3 * u51)) + 2 then ro else g70 j) j ≤ 4294967295 := xrb (by omega) (hb69)
          obtain ⟨g80, hg81⟩ : ∃ g : Nat → Nat, g = (fun j => if j = (950 + (3 * u51)) + 2 then ro else g70 j) := ⟨_, rfl⟩
          rw [← hg81] at hr76
          have he82 : g80 ((950 + (3 * u51)) + 2) = ro := by rw [hg81]; exact if_pos rfl
          have hk83 : ∀ j, j ≠ (950 + (3 * u51)) + 2 → g80 j = g70 j := fun j hj => by rw [hg81]; exact if_neg hj
          rw [← hg81] at hx78
          rw [← hg81] at hb79
          have hk84 : g80 900 = g70 900 := hk83 900 (by omega)
          refine xg_t (xg_aload (va := (2, 82)) rfl rfl) ?_
          refine xg_t (xg_getf (va := (2, 83)) (hb77.get (by decide) (hb67.get (by decide) (hb57.get (by decide) (hF47.get (by decide) h82_31)))) rfl) ?_
          refine xg_t (xg_sip) ?_
          refine xg_t (xg_dup2 rfl) ?_
          refine xg_ialdB (n := 900) (B := 4294967295) hr76 (hb79) xnm0 (by omega) (fun u85 hu86 he87 => ?_)
          have hl88 : u85 ≤ 4 := by rw [← he87]; exact hx78.l900
          refine xg_t (xg_const) ?_
          refine xg_t (xg_iadd (u := u85) (v := 1) (z := u85 + 1) xnm0 xnm0 (by omega)) ?_
          refine xg_iastK (n := 900) (u := u85 + 1) hr76 xnm0 xnm0 rfl (by omega) (fun w89 hr90 hb91 => ?_)
          have hx92 : okA (fun j => if j = 900 then u85 + 1 else g80 j) := hx78.upd (by omega) (by omega) (by omega) (fun _ => by omega) (by omega) (fun _ => by omega) (fun _ => by omega) (fun _ => by omega) (fun _ => by omega) (by omega) (fun _ _ => by omega)
          have hb93 : ∀ j, (fun j => if j = 900 then u85 + 1 else g80 j) j ≤ 4294967295 := xrb (by omega) (hb79)
          obtain ⟨g94, hg95⟩ : ∃ g : Nat → Nat, g = (fun j => if j = 900 then u85 + 1 else g80 j) := ⟨_, rfl⟩
          rw [← hg95] at hr90
          have he96 : g94 900 = u85 + 1 := by rw [hg95]; exact if_pos rfl
          have hk97 : ∀ j, j ≠ 900 → g94 j = g80 j := fun j hj => by rw [hg95]; exact if_neg hj
          rw [← hg95] at hx92
          rw [← hg95] at hb93
          refine xg_t (xg_aload (va := (2, 82)) rfl rfl) ?_
          refine xg_t (xg_getf (va := (2, 83)) (hb91.get (by decide) (hb77.get (by decide) (hb67.get (by decide) (hb57.get (by decide) (hF47.get (by decide) h82_31))))) rfl) ?_
          refine xg_t (xg_sip) ?_
          refine xg_ialdB (n := 900) (B := 4294967295) hr90 (hb93) xnm0 (by omega) (fun u98 hu99 he100 => ?_)
          have hl101 : u98 ≤ 4 := by rw [← he100]; exact hx92.l900
          refine xg_t (xg_const) ?_
          refine xg_k (xg_isub (u := u98) (v := 1) (z := (u98 + (4294967296 - 1)) % 4294967296) xnm0 xnm0 rfl) (Nat.mod_lt _ (by decide)) (fun z102 hz103 => ?_)
          exact xg_e ⟨z102, w89, ⟨rfl, rfl⟩, by omega, xMnv.up (S := [83]) hI46 ((((xFr.of (S := [83]) hb57 (by decide)).tr (xFr.of (S := [83]) hb67 (by decide))).tr (xFr.of (S := [83]) hb77 (by decide))).tr (xFr.of (S := [83]) hb91 (by decide))) (List.forall_mem_cons.mpr ⟨(show cpx83 (wget w89 83) from ⟨_, hr90, hb93, hx92⟩), fun _ h => absurd h List.not_mem_nil⟩), ((hF47.up (by decide)).tr ((((xFr.of (S := [83]) hb57 (by decide)).tr (xFr.of (S := [83]) hb67 (by decide))).tr (xFr.of (S := [83]) hb77 (by decide))).tr (xFr.of (S := [83]) hb91 (by decide))))⟩
      · refine xg_t (xg_ifT (u := (if 1 ≤ fo ∧ fo ≤ 999 then 1 else 0)) rfl xnm0 (xj_eqT (xite0 hc43))) ?_
        refine xg_t (xg_blk (b := [(42, 1, 3, 4294967295, 0, 0), (43, 1, 12, 0, 1, 0)]) rfl) ?_
        refine xg_t (xg_const) ?_
        exact xg_e ⟨4294967295, w, ⟨rfl, rfl⟩, by omega, hI, xFr.rf⟩
    · refine xg_t (xg_ifT (u := (if 1 ≤ fi ∧ fi ≤ 999 then 1 else 0)) rfl xnm0 (xj_eqT (xite0 hc42))) ?_
      refine xg_t (xg_blk (b := [(42, 1, 3, 4294967295, 0, 0), (43, 1, 12, 0, 1, 0)]) rfl) ?_
      refine xg_t (xg_const) ?_
      exact xg_e ⟨4294967295, w, ⟨rfl, rfl⟩, by omega, hI, xFr.rf⟩
theorem mCrack {la ra ca : Nat} (hI : xMnv w) (hla : la ≤ 1) (hra : ra ≤ 4294967295) (hca : ca ≤ 4294967295) : xPi (d + 2) mX12_crack [(2, 82), (0, la), (0, ra), (0, ca)] w bd fc rr (fun n w' => (n ≤ 1) ∧ xMnv w' ∧ xFr [83] w w') := by
  refine xPi.of ?_
  show xTo (d + 2) mX12_crack (0, [], [(0, (2, 82)), (1, (0, la)), (2, (0, ra)), (3, (0, ca))], [], (w, bd, fc, 0, 0, rr)) (fun φ => ∃ n w', xEnd 4 [(0, n)] (w', bd, fc, 0, 0, rr) φ ∧ (n ≤ 1) ∧ xMnv w' ∧ xFr [83] w w')
  obtain ⟨f82_1, f82_3, f82_5, f82_7, f82_9, f82_11, f82_13, f82_15, f82_17, f82_19, f82_21, f82_22, f82_23, f82_25, f82_27, f82_29, h82_31, hb2, hb4, hb6, hb8, hb10, hb12, hb14, hb16, hb18, hb20, hb24, hb26, hb28, hb30, hb32⟩ := (hI 82 (by decide) (by decide) : cp82 (wget w 82))
  replace hb4 := xHid.of hb4
  replace hb10 := xHid.of hb10
  replace hb14 := xHid.of hb14
  replace hb16 := xHid.of hb16
  replace hb20 := xHid.of hb20
  replace hb24 := xHid.of hb24
  replace hb26 := xHid.of hb26
  replace hb28 := xHid.of hb28
  replace hb30 := xHid.of hb30
  obtain ⟨g83_33, h83_34, hb35, hx36⟩ := (hI 83 (by decide) (by decide) : cpx83 (wget w 83))
  have h83_34 : xRow w 83 5360 50 g83_33 := h83_34
  refine xg_t (xg_blk (b := [(0, 1, 0, 0, 0, 0), (1, 3, 1, 12, 0, 7), (4, 2, 4, 9, 0, 0), (6, 1, 10, 0, 0, 0), (7, 2, 4, 40, 0, 0), (9, 3, 6, 33, 0, 0), (12, 1, 0, 0, 0, 0), (13, 1, 2, 1, 0, 0), (14, 1, 2, 2, 0, 0), (15, 1, 2, 3, 0, 0), (16, 3, 13, 173, 96, 279), (19, 3, 7, 33, 0, 0), (22, 1, 0, 0, 0, 0), (23, 1, 2, 1, 0, 0), (24, 1, 2, 2, 0, 0), (25, 1, 2, 3, 0, 0), (26, 1, 3, 4294967295, 0, 0), (27, 3, 13, 157, 96, 283), (30, 3, 7, 35, 0, 0)]) rfl) ?_
  refine xg_t (xg_aload (va := (2, 82)) rfl rfl) ?_
  refine xg_t (xg_getf (va := (2, 83)) h82_31 rfl) ?_
  refine xg_t (xg_bip) ?_
  refine xg_ialdB (n := 9) (B := 4294967295) h83_34 (hb35) xnm0 (by omega) (fun u37 hu38 he39 => ?_)
  have hl40 : u37 ≤ 40 := by rw [← he39]; exact hx36.l9
  refine xg_t (xg_bip) ?_
  by_cases hc41 : u37 = 40
  · refine xg_t (xg_icT (u := u37) (v := 40) rfl xnm0 xnm0 (xj_eqT hc41)) ?_
    refine xg_t (xg_blk (b := [(33, 1, 3, 0, 0, 0), (34, 1, 12, 0, 1, 0)]) rfl) ?_
    refine xg_t (xg_const) ?_
    exact xg_e ⟨0, w, ⟨rfl, rfl⟩, by omega, hI, xFr.rf⟩
  · refine xg_t (xg_icF (u := u37) (v := 40) rfl xnm0 xnm0 (xj_eqF hc41)) ?_
    refine xg_t (xg_aload (va := (2, 82)) rfl rfl) ?_
    refine xg_t (xg_iload (va := (0, la)) rfl rfl) ?_
    refine xg_t (xg_iload (va := (0, ra)) rfl rfl) ?_
    refine xg_t (xg_iload (va := (0, ca)) rfl rfl) ?_
    refine xg_cVi mX12_isThere (vs := [(0, la), (0, ra), (0, ca)]) (rest := []) (cn1 := 0) (sl1 := 0) rfl (mThere (hI) (by omega) (by omega) (by omega) h83_34 hb35 hx36) rfl h82_31 rfl rfl rfl rfl rfl rfl (fun n46 w42 hq43 => ?_)
    obtain ⟨hn47, hI44, hF45⟩ := hq43
    by_cases hc48 : n46 = 0
    · refine xg_t (xg_ifT (u := n46) rfl xnm0 (xj_eqT hc48)) ?_
      refine xg_t (xg_blk (b := [(33, 1, 3, 0, 0, 0), (34, 1, 12, 0, 1, 0)]) rfl) ?_
      refine xg_t (xg_const) ?_
      exact xg_e ⟨0, w42, ⟨rfl, rfl⟩, by omega, hI44, (hF45.up (by decide))⟩
    · refine xg_t (xg_ifF (u := n46) rfl xnm0 (xj_eqF hc48)) ?_
      refine xg_t (xg_aload (va := (2, 82)) rfl rfl) ?_
      refine xg_t (xg_iload (va := (0, la)) rfl rfl) ?_
      refine xg_t (xg_iload (va := (0, ra)) rfl rfl) ?_
      refine xg_t (xg_iload (va := (0, ca)) rfl rfl) ?_
      refine xg_t (xg_const) ?_
      refine xg_cVi mX12_isCracked (vs := [(0, la), (0, ra), (0, ca), (0, 4294967295)]) (rest := []) (cn1 := 0) (sl1 := 0) rfl (mCracked (hI44) (by omega) (by omega) (by omega) (by omega)) rfl (hF45.get (by decide) h82_31) rfl rfl rfl rfl rfl rfl (fun n53 w49 hq50 => ?_)
      obtain ⟨hn54, hI51, hF52⟩ := hq50
      by_cases hc55 : n53 = 0
      · refine xg_t (xg_ifT (u := n53) rfl xnm0 (xj_eqT hc55)) ?_
        refine xg_t (xg_blk (b := [(35, 3, 5, 140, 0, 0), (38, 1, 3, 4, 0, 0), (39, 1, 0, 0, 0, 0), (40, 3, 1, 12, 0, 7), (43, 2, 4, 9, 0, 0), (45, 1, 10, 0, 0, 0), (46, 1, 16, 0, 0, 0), (47, 1, 11, 0, 0, 0), (48, 2, 15, 4, 0, 0), (50, 1, 0, 0, 0, 0), (51, 3, 1, 12, 0, 7), (54, 2, 2, 4, 0, 0), (56, 1, 2, 1, 0, 0), (57, 3, 7, 64, 0, 0), (60, 1, 3, 1, 0, 0), (61, 3, 8, 65, 0, 0)]) rfl) ?_
        refine xg_t (xg_sip) ?_
        refine xg_t (xg_const) ?_
        refine xg_t (xg_aload (va := (2, 82)) rfl rfl) ?_
        refine xg_t (xg_getf (va := (2, 83)) (hF52.get (by decide) (hF45.get (by decide) h82_31)) rfl) ?_
        refine xg_t (xg_bip) ?_
        refine xg_ialdB (n := 9) (B := 4294967295) ((h83_34.fr hF45 (by decide)).fr hF52 (by decide)) (hb35) xnm0 (by omega) (fun u56 hu57 he58 => ?_)
        have hl59 : u56 ≤ 40 := by rw [← he58]; exact hx36.l9
        refine xg_t (xg_imul (u := 4) (v := u56) (z := 4 * u56) xnm0 xnm0 (by omega)) ?_
        refine xg_t (xg_iadd (u := 140) (v := 4 * u56) (z := 140 + (4 * u56)) xnm0 xnm0 (by omega)) ?_
        refine xg_t (xg_istore (l1 := [(0, (2, 82)), (1, (0, la)), (2, (0, ra)), (3, (0, ca))]) rfl rfl rfl) ?_
        refine xg_t (xg_aload (va := (2, 82)) rfl rfl) ?_
        refine xg_t (xg_getf (va := (2, 83)) (hF52.get (by decide) (hF45.get (by decide) h82_31)) rfl) ?_
        refine xg_t (xg_iload (va := (0, 140 + (4 * u56))) rfl rfl) ?_
        refine xg_t (xg_iload (va := (0, la)) rfl rfl) ?_
        by_cases hc60 : la = 0
        · refine xg_t (xg_ifT (u := la) rfl xnm0 (xj_eqT hc60)) ?_
          refine xg_t (xg_blk (b := [(64, 1, 3, 0, 0, 0)]) rfl) ?_
          refine xg_t (xg_const) ?_
          refine xg_t (xg_blk (b := [(65, 1, 17, 0, 0, 0), (66, 1, 0, 0, 0, 0), (67, 3, 1, 12, 0, 7), (70, 2, 2, 4, 0, 0), (72, 1, 3, 1, 0, 0), (73, 1, 11, 0, 0, 0), (74, 1, 2, 2, 0, 0), (75, 1, 17, 0, 0, 0), (76, 1, 0, 0, 0, 0), (77, 3, 1, 12, 0, 7), (80, 2, 2, 4, 0, 0), (82, 1, 3, 2, 0, 0), (83, 1, 11, 0, 0, 0), (84, 1, 2, 3, 0, 0), (85, 1, 17, 0, 0, 0), (86, 1, 0, 0, 0, 0), (87, 3, 1, 12, 0, 7), (90, 2, 2, 4, 0, 0), (92, 1, 3, 3, 0, 0), (93, 1, 11, 0, 0, 0), (94, 1, 0, 0, 0, 0), (95, 3, 1, 12, 0, 7), (98, 2, 4, 11, 0, 0), (100, 1, 10, 0, 0, 0), (101, 1, 17, 0, 0, 0), (102, 1, 0, 0, 0, 0), (103, 3, 1, 12, 0, 7), (106, 3, 5, 910, 0, 0), (109, 1, 0, 0, 0, 0), (110, 3, 1, 12, 0, 7), (113, 2, 4, 9, 0, 0), (115, 1, 10, 0, 0, 0), (116, 1, 11, 0, 0, 0), (117, 1, 3, 1, 0, 0), (118, 1, 17, 0, 0, 0), (119, 1, 0, 0, 0, 0), (120, 3, 1, 12, 0, 7), (123, 2, 4, 9, 0, 0), (125, 1, 39, 0, 0, 0), (126, 1, 10, 0, 0, 0), (127, 1, 3, 1, 0, 0), (128, 1, 11, 0, 0, 0), (129, 1, 17, 0, 0, 0), (130, 1, 3, 1, 0, 0), (131, 1, 12, 0, 1, 0)]) rfl) ?_
          refine xg_iastK (n := 140 + (4 * u56)) (u := 0) ((h83_34.fr hF45 (by decide)).fr hF52 (by decide)) xnm0 xnm0 rfl (by omega) (fun w61 hr62 hb63 => ?_)
          have hx64 : okA (fun j => if j = 140 + (4 * u56) then 0 else g83_33 j) := hx36.upd (by omega) (by omega) (by omega) (fun _ => by omega) (by omega) (fun _ => by omega) (fun _ => by omega) (fun _ => by omega) (fun _ => by omega) (by omega) (fun _ _ => by omega)
          have hb65 : ∀ j, (fun j => if j = 140 + (4 * u56) then 0 else g83_33 j) j ≤ 4294967295 := xrb (by omega) (hb35)
          obtain ⟨g66, hg67⟩ : ∃ g : Nat → Nat, g = (fun j => if j = 140 + (4 * u56) then 0 else g83_33 j) := ⟨_, rfl⟩
          rw [← hg67] at hr62
          have he68 : g66 (140 + (4 * u56)) = 0 := by rw [hg67]; exact if_pos rfl
          have hk69 : ∀ j, j ≠ 140 + (4 * u56) → g66 j = g83_33 j := fun j hj => by rw [hg67]; exact if_neg hj
          rw [← hg67] at hx64
          rw [← hg67] at hb65
          have hk70 : g66 9 = g83_33 9 := hk69 9 (by omega)
          refine xg_t (xg_aload (va := (2, 82)) rfl rfl) ?_
          refine xg_t (xg_getf (va := (2, 83)) (hb63.get (by decide) (hF52.get (by decide) (hF45.get (by decide) h82_31))) rfl) ?_
          refine xg_t (xg_iload (va := (0, 140 + (4 * u56))) rfl rfl) ?_
          refine xg_t (xg_const) ?_
          refine xg_t (xg_iadd (u := 140 + (4 * u56)) (v := 1) (z := (140 + (4 * u56)) + 1) xnm0 xnm0 (by omega)) ?_
          refine xg_t (xg_iload (va := (0, ra)) rfl rfl) ?_
          refine xg_iastK (n := (140 + (4 * u56)) + 1) (u := ra) hr62 xnm0 xnm0 rfl (by omega) (fun w71 hr72 hb73 => ?_)
          have hx74 : okA (fun j => if j = (140 + (4 * u56)) + 1 then ra else g66 j) := hx64.upd (by omega) (by omega) (by omega) (fun _ => by omega) (by omega) (fun _ => by omega) (fun _ => by omega) (fun _ => by omega) (fun _ => by omega) (by omega) (fun _ _ => by omega)
          have hb75 : ∀ j, (fun j => if j = (140 + (4 * u56)) + 1 then ra else g66 j) j ≤ 4294967295 := xrb (by omega) (hb65)
          obtain ⟨g76, hg77⟩ : ∃ g : Nat → Nat, g = (fun j => if j = (140 + (4 * u56)) + 1 then ra else g66 j) := ⟨_, rfl⟩
          rw [← hg77] at hr72
          have he78 : g76 ((140 + (4 * u56)) + 1) = ra := by rw [hg77]; exact if_pos rfl
          have hk79 : ∀ j, j ≠ (140 + (4 * u56)) + 1 → g76 j = g66 j := fun j hj => by rw [hg77]; exact if_neg hj
          rw [← hg77] at hx74
          rw [← hg77] at hb75
          have hk80 : g76 9 = g66 9 := hk79 9 (by omega)
          refine xg_t (xg_aload (va := (2, 82)) rfl rfl) ?_
          refine xg_t (xg_getf (va := (2, 83)) (hb73.get (by decide) (hb63.get (by decide) (hF52.get (by decide) (hF45.get (by decide) h82_31)))) rfl) ?_
          refine xg_t (xg_iload (va := (0, 140 + (4 * u56))) rfl rfl) ?_
          refine xg_t (xg_const) ?_
          refine xg_t (xg_iadd (u := 140 + (4 * u56)) (v := 2) (z := (140 + (4 * u56)) + 2) xnm0 xnm0 (by omega)) ?_
          refine xg_t (xg_iload (va := (0, ca)) rfl rfl) ?_
          refine xg_iastK (n := (140 + (4 * u56)) + 2) (u := ca) hr72 xnm0 xnm0 rfl (by omega) (fun w81 hr82 hb83 => ?_)
          have hx84 : okA (fun j => if j = (140 + (4 * u56)) + 2 then ca else g76 j) := hx74.upd (by omega) (by omega) (by omega) (fun _ => by omega) (by omega) (fun _ => by omega) (fun _ => by omega) (fun _ => by omega) (fun _ => by omega) (by omega) (fun _ _ => by omega)
          have hb85 : ∀ j, (fun j => if j = (140 + (4 * u56)) + 2 then ca else g76 j) j ≤ 4294967295 := xrb (by omega) (hb75)
          obtain ⟨g86, hg87⟩ : ∃ g : Nat → Nat, g = (fun j => if j = (140 + (4 * u56)) + 2 then ca else g76 j) := ⟨_, rfl⟩
          rw [← hg87] at hr82
          have he88 : g86 ((140 + (4 * u56)) + 2) = ca := by rw [hg87]; exact if_pos rfl
          have hk89 : ∀ j, j ≠ (140 + (4 * u56)) + 2 → g86 j = g76 j := fun j hj => by rw [hg87]; exact if_neg hj
          rw [← hg87] at hx84
          rw [← hg87] at hb85
          have hk90 : g86 9 = g76 9 := hk89 9 (by omega)
          refine xg_t (xg_aload (va := (2, 82)) rfl rfl) ?_
          refine xg_t (xg_getf (va := (2, 83)) (hb83.get (by decide) (hb73.get (by decide) (hb63.get (by decide) (hF52.get (by decide) (hF45.get (by decide) h82_31))))) rfl) ?_
          refine xg_t (xg_iload (va := (0, 140 + (4 * u56))) rfl rfl) ?_
          refine xg_t (xg_const) ?_
          refine xg_t (xg_iadd (u := 140 + (4 * u56)) (v := 3) (z := (140 + (4 * u56)) + 3) xnm0 xnm0 (by omega)) ?_
          refine xg_t (xg_aload (va := (2, 82)) rfl rfl) ?_
          refine xg_t (xg_getf (va := (2, 83)) (hb83.get (by decide) (hb73.get (by decide) (hb63.get (by decide) (hF52.get (by decide) (hF45.get (by decide) h82_31))))) rfl) ?_
          refine xg_t (xg_bip) ?_
          refine xg_ialdB (n := 11) (B := 4294967295) hr82 (hb85) xnm0 (by omega) (fun u91 hu92 he93 => ?_)
          refine xg_iastK (n := (140 + (4 * u56)) + 3) (u := u91) hr82 xnm0 xnm0 rfl (by omega) (fun w94 hr95 hb96 => ?_)
          have hx97 : okA (fun j => if j = (140 + (4 * u56)) + 3 then u91 else g86 j) := hx84.upd (by omega) (by omega) (by omega) (fun _ => by omega) (by omega) (fun _ => by omega) (fun _ => by omega) (fun _ => by omega) (fun _ => by omega) (by omega) (fun _ _ => by omega)
          have hb98 : ∀ j, (fun j => if j = (140 + (4 * u56)) + 3 then u91 else g86 j) j ≤ 4294967295 := xrb (by omega) (hb85)
          obtain ⟨g99, hg100⟩ : ∃ g : Nat → Nat, g = (fun j => if j = (140 + (4 * u56)) + 3 then u91 else g86 j) := ⟨_, rfl⟩
          rw [← hg100] at hr95
          have he101 : g99 ((140 + (4 * u56)) + 3) = u91 := by rw [hg100]; exact if_pos rfl
          have hk102 : ∀ j, j ≠ (140 + (4 * u56)) + 3 → g99 j = g86 j := fun j hj => by rw [hg100]; exact if_neg hj
          rw [← hg100] at hx97
          rw [← hg100] at hb98
          have hk103 : g99 9 = g86 9 := hk102 9 (by omega)
          refine xg_t (xg_aload (va := (2, 82)) rfl rfl) ?_
          refine xg_t (xg_getf (va := (2, 83)) (hb96.get (by decide) (hb83.get (by decide) (hb73.get (by decide) (hb63.get (by decide) (hF52.get (by decide) (hF45.get (by decide) h82_31)))))) rfl) ?_
          refine xg_t (xg_sip) ?_
          refine xg_t (xg_aload (va := (2, 82)) rfl rfl) ?_
          refine xg_t (xg_getf (va := (2, 83)) (hb96.get (by decide) (hb83.get (by decide) (hb73.get (by decide) (hb63.get (by decide) (hF52.get (by decide) (hF45.get (by decide) h82_31)))))) rfl) ?_
          refine xg_t (xg_bip) ?_
          refine xg_ialdB (n := 9) (B := 4294967295) hr95 (hb98) xnm0 (by omega) (fun u104 hu105 he106 => ?_)
          have hl107 : u104 ≤ 40 := by rw [← he106]; exact hx97.l9
          refine xg_t (xg_iadd (u := 910) (v := u104) (z := 910 + u104) xnm0 xnm0 (by omega)) ?_
          refine xg_t (xg_const) ?_
          refine xg_iastK (n := 910 + u104) (u := 1) hr95 xnm0 xnm0 rfl (by omega) (fun w108 hr109 hb110 => ?_)
          have hx111 : okA (fun j => if j = 910 + u104 then 1 else g99 j) := hx97.upd (by omega) (by omega) (by omega) (fun _ => by omega) (by omega) (fun _ => by omega) (fun _ => by omega) (fun _ => by omega) (fun _ => by omega) (by omega) (fun _ _ => by omega)
          have hb112 : ∀ j, (fun j => if j = 910 + u104 then 1 else g99 j) j ≤ 4294967295 := xrb (by omega) (hb98)
          obtain ⟨g113, hg114⟩ : ∃ g : Nat → Nat, g = (fun j => if j = 910 + u104 then 1 else g99 j) := ⟨_, rfl⟩
          rw [← hg114] at hr109
          have he115 : g113 (910 + u104) = 1 := by rw [hg114]; exact if_pos rfl
          have hk116 : ∀ j, j ≠ 910 + u104 → g113 j = g99 j := fun j hj => by rw [hg114]; exact if_neg hj
          rw [← hg114] at hx111
          rw [← hg114] at hb112
          have hk117 : g113 9 = g99 9 := hk116 9 (by omega)
          refine xg_t (xg_aload (va := (2, 82)) rfl rfl) ?_
          refine xg_t (xg_getf (va := (2, 83)) (hb110.get (by decide) (hb96.get (by decide) (hb83.get (by decide) (hb73.get (by decide) (hb63.get (by decide) (hF52.get (by decide) (hF45.get (by decide) h82_31))))))) rfl) ?_
          refine xg_t (xg_bip) ?_
          refine xg_t (xg_dup2 rfl) ?_
          refine xg_ialdB (n := 9) (B := 4294967295) hr109 (hb112) xnm0 (by omega) (fun u118 hu119 he120 => ?_)
          have hl121 : u118 ≤ 40 := by rw [← he120]; exact hx111.l9
          refine xg_t (xg_const) ?_
          refine xg_t (xg_iadd (u := u118) (v := 1) (z := u118 + 1) xnm0 xnm0 (by omega)) ?_
          refine xg_iastK (n := 9) (u := u118 + 1) hr109 xnm0 xnm0 rfl (by omega) (fun w122 hr123 hb124 => ?_)
          have hx125 : okA (fun j => if j = 9 then u118 + 1 else g113 j) := hx111.upd (by omega) (by omega) (by omega) (fun _ => by omega) (by omega) (fun _ => by omega) (fun _ => by omega) (fun _ => by omega) (fun _ => by omega) (by omega) (fun _ _ => by omega)
          have hb126 : ∀ j, (fun j => if j = 9 then u118 + 1 else g113 j) j ≤ 4294967295 := xrb (by omega) (hb112)
          obtain ⟨g127, hg128⟩ : ∃ g : Nat → Nat, g = (fun j => if j = 9 then u118 + 1 else g113 j) := ⟨_, rfl⟩
          rw [← hg128] at hr123
          have he129 : g127 9 = u118 + 1 := by rw [hg128]; exact if_pos rfl
          have hk130 : ∀ j, j ≠ 9 → g127 j = g113 j := fun j hj => by rw [hg128]; exact if_neg hj
          rw [← hg128] at hx125
          rw [← hg128] at hb126
          refine xg_t (xg_const) ?_
          exact xg_e ⟨1, w122, ⟨rfl, rfl⟩, by omega, xMnv.up (S := [83]) hI51 ((((((xFr.of (S := [83]) hb63 (by decide)).tr (xFr.of (S := [83]) hb73 (by decide))).tr (xFr.of (S := [83]) hb83 (by decide))).tr (xFr.of (S := [83]) hb96 (by decide))).tr (xFr.of (S := [83]) hb110 (by decide))).tr (xFr.of (S := [83]) hb124 (by decide))) (List.forall_mem_cons.mpr ⟨(show cpx83 (wget w122 83) from ⟨_, hr123, hb126, hx125⟩), fun _ h => absurd h List.not_mem_nil⟩), (((hF45.up (by decide)).tr (hF52.up (by decide))).tr ((((((xFr.of (S := [83]) hb63 (by decide)).tr (xFr.of (S := [83]) hb73 (by decide))).tr (xFr.of (S := [83]) hb83 (by decide))).tr (xFr.of (S := [83]) hb96 (by decide))).tr (xFr.of (S := [83]) hb110 (by decide))).tr (xFr.of (S := [83]) hb124 (by decide))))⟩
        · refine xg_t (xg_ifF (u := la) rfl xnm0 (xj_eqF hc60)) ?_
          refine xg_t (xg_const) ?_
          refine xg_t (xg_goto) ?_
          refine xg_t (xg_blk (b := [(65, 1, 17, 0, 0, 0), (66, 1, 0, 0, 0, 0), (67, 3, 1, 12, 0, 7), (70, 2, 2, 4, 0, 0), (72, 1, 3, 1, 0, 0), (73, 1, 11, 0, 0, 0), (74, 1, 2, 2, 0, 0), (75, 1, 17, 0, 0, 0), (76, 1, 0, 0, 0, 0), (77, 3, 1, 12, 0, 7), (80, 2, 2, 4, 0, 0), (82, 1, 3, 2, 0, 0), (83, 1, 11, 0, 0, 0), (84, 1, 2, 3, 0, 0), (85, 1, 17, 0, 0, 0), (86, 1, 0, 0, 0, 0), (87, 3, 1, 12, 0, 7), (90, 2, 2, 4, 0, 0), (92, 1, 3, 3, 0, 0), (93, 1, 11, 0, 0, 0), (94, 1, 0, 0, 0, 0), (95, 3, 1, 12, 0, 7), (98, 2, 4, 11, 0, 0), (100, 1, 10, 0, 0, 0), (101, 1, 17, 0, 0, 0), (102, 1, 0, 0, 0, 0), (103, 3, 1, 12, 0, 7), (106, 3, 5, 910, 0, 0), (109, 1, 0, 0, 0, 0), (110, 3, 1, 12, 0, 7), (113, 2, 4, 9, 0, 0), (115, 1, 10, 0, 0, 0), (116, 1, 11, 0, 0, 0), (117, 1, 3, 1, 0, 0), (118, 1, 17, 0, 0, 0), (119, 1, 0, 0, 0, 0), (120, 3, 1, 12, 0, 7), (123, 2, 4, 9, 0, 0), (125, 1, 39, 0, 0, 0), (126, 1, 10, 0, 0, 0), (127, 1, 3, 1, 0, 0), (128, 1, 11, 0, 0, 0), (129, 1, 17, 0, 0, 0), (130, 1, 3, 1, 0, 0), (131, 1, 12, 0, 1, 0)]) rfl) ?_
          refine xg_iastK (n := 140 + (4 * u56)) (u := 1) ((h83_34.fr hF45 (by decide)).fr hF52 (by decide)) xnm0 xnm0 rfl (by omega) (fun w131 hr132 hb133 => ?_)
          have hx134 : okA (fun j => if j = 140 + (4 * u56) then 1 else g83_33 j) := hx36.upd (by omega) (by omega) (by omega) (fun _ => by omega) (by omega) (fun _ => by omega) (fun _ => by omega) (fun _ => by omega) (fun _ => by omega) (by omega) (fun _ _ => by omega)
          have hb135 : ∀ j, (fun j => if j = 140 + (4 * u56) then 1 else g83_33 j) j ≤ 4294967295 := xrb (by omega) (hb35)
          obtain ⟨g136, hg137⟩ : ∃ g : Nat → Nat, g = (fun j => if j = 140 + (4 * u56) then 1 else g83_33 j) := ⟨_, rfl⟩
          rw [← hg137] at hr132
          have he138 : g136 (140 + (4 * u56)) = 1 := by rw [hg137]; exact if_pos rfl
          have hk139 : ∀ j, j ≠ 140 + (4 * u56) → g136 j = g83_33 j := fun j hj => by rw [hg137]; exact if_neg hj
          rw [← hg137] at hx134
          rw [← hg137] at hb135
          have hk140 : g136 9 = g83_33 9 := hk139 9 (by omega)
          refine xg_t (xg_aload (va := (2, 82)) rfl rfl) ?_
          refine xg_t (xg_getf (va := (2, 83)) (hb133.get (by decide) (hF52.get (by decide) (hF45.get (by decide) h82_31))) rfl) ?_
          refine xg_t (xg_iload (va := (0, 140 + (4 * u56))) rfl rfl) ?_
          refine xg_t (xg_const) ?_
          refine xg_t (xg_iadd (u := 140 + (4 * u56)) (v := 1) (z := (140 + (4 * u56)) + 1) xnm0 xnm0 (by omega)) ?_
          refine xg_t (xg_iload (va := (0, ra)) rfl rfl) ?_
          refine xg_iastK (n := (140 + (4 * u56)) + 1) (u := ra) hr132 xnm0 xnm0 rfl (by omega) (fun w141 hr142 hb143 => ?_)
          have hx144 : okA (fun j => if j = (140 + (4 * u56)) + 1 then ra else g136 j) := hx134.upd (by omega) (by omega) (by omega) (fun _ => by omega) (by omega) (fun _ => by omega) (fun _ => by omega) (fun _ => by omega) (fun _ => by omega) (by omega) (fun _ _ => by omega)
          have hb145 : ∀ j, (fun j => if j = (140 + (4 * u56)) + 1 then ra else g136 j) j ≤ 4294967295 := xrb (by omega) (hb135)
          obtain ⟨g146, hg147⟩ : ∃ g : Nat → Nat, g = (fun j => if j = (140 + (4 * u56)) + 1 then ra else g136 j) := ⟨_, rfl⟩
          rw [← hg147] at hr142
          have he148 : g146 ((140 + (4 * u56)) + 1) = ra := by rw [hg147]; exact if_pos rfl
          have hk149 : ∀ j, j ≠ (140 + (4 * u56)) + 1 → g146 j = g136 j := fun j hj => by rw [hg147]; exact if_neg hj
          rw [← hg147] at hx144
          rw [← hg147] at hb145
          have hk150 : g146 9 = g136 9 := hk149 9 (by omega)
          refine xg_t (xg_aload (va := (2, 82)) rfl rfl) ?_
          refine xg_t (xg_getf (va := (2, 83)) (hb143.get (by decide) (hb133.get (by decide) (hF52.get (by decide) (hF45.get (by decide) h82_31)))) rfl) ?_
          refine xg_t (xg_iload (va := (0, 140 + (4 * u56))) rfl rfl) ?_
          refine xg_t (xg_const) ?_
          refine xg_t (xg_iadd (u := 140 + (4 * u56)) (v := 2) (z := (140 + (4 * u56)) + 2) xnm0 xnm0 (by omega)) ?_
          refine xg_t (xg_iload (va := (0, ca)) rfl rfl) ?_
          refine xg_iastK (n := (140 + (4 * u56)) + 2) (u := ca) hr142 xnm0 xnm0 rfl (by omega) (fun w151 hr152 hb153 => ?_)
          have hx154 : okA (fun j => if j = (140 + (4 * u56)) + 2 then ca else g146 j) := hx144.upd (by omega) (by omega) (by omega) (fun _ => by omega) (by omega) (fun _ => by omega) (fun _ => by omega) (fun _ => by omega) (fun _ => by omega) (by omega) (fun _ _ => by omega)
          have hb155 : ∀ j, (fun j => if j = (140 + (4 * u56)) + 2 then ca else g146 j) j ≤ 4294967295 := xrb (by omega) (hb145)
          obtain ⟨g156, hg157⟩ : ∃ g : Nat → Nat, g = (fun j => if j = (140 + (4 * u56)) + 2 then ca else g146 j) := ⟨_, rfl⟩
          rw [← hg157] at hr152
          have he158 : g156 ((140 + (4 * u56)) + 2) = ca := by rw [hg157]; exact if_pos rfl
          have hk159 : ∀ j, j ≠ (140 + (4 * u56)) + 2 → g156 j = g146 j := fun j hj => by rw [hg157]; exact if_neg hj
          rw [← hg157] at hx154
          rw [← hg157] at hb155
          have hk160 : g156 9 = g146 9 := hk159 9 (by omega)
          refine xg_t (xg_aload (va := (2, 82)) rfl rfl) ?_
          refine xg_t (xg_getf (va := (2, 83)) (hb153.get (by decide) (hb143.get (by decide) (hb133.get (by decide) (hF52.get (by decide) (hF45.get (by decide) h82_31))))) rfl) ?_
          refine xg_t (xg_iload (va := (0, 140 + (4 * u56))) rfl rfl) ?_
          refine xg_t (xg_const) ?_
          refine xg_t (xg_iadd (u := 140 + (4 * u56)) (v := 3) (z := (140 + (4 * u56)) + 3) xnm0 xnm0 (by omega)) ?_
          refine xg_t (xg_aload (va := (2, 82)) rfl rfl) ?_
          refine xg_t (xg_getf (va := (2, 83)) (hb153.get (by decide) (hb143.get (by decide) (hb133.get (by decide) (hF52.get (by decide) (hF45.get (by decide) h82_31))))) rfl) ?_
          refine xg_t (xg_bip) ?_
          refine xg_ialdB (n := 11) (B := 4294967295) hr152 (hb155) xnm0 (by omega) (fun u161 hu162 he163 => ?_)
          refine xg_iastK (n := (140 + (4 * u56)) + 3) (u := u161) hr152 xnm0 xnm0 rfl (by omega) (fun w164 hr165 hb166 => ?_)
          have hx167 : okA (fun j => if j = (140 + (4 * u56)) + 3 then u161 else g156 j) := hx154.upd (by omega) (by omega) (by omega) (fun _ => by omega) (by omega) (fun _ => by omega) (fun _ => by omega) (fun _ => by omega) (fun _ => by omega) (by omega) (fun _ _ => by omega)
          have hb168 : ∀ j, (fun j => if j = (140 + (4 * u56)) + 3 then u161 else g156 j) j ≤ 4294967295 := xrb (by omega) (hb155)
          obtain ⟨g169, hg170⟩ : ∃ g : Nat → Nat, g = (fun j => if j = (140 + (4 * u56)) + 3 then u161 else g156 j) := ⟨_, rfl⟩
          rw [← hg170] at hr165
          have he171 : g169 ((140 + (4 * u56)) + 3) = u161 := by rw [hg170]; exact if_pos rfl
          have hk172 : ∀ j, j ≠ (140 + (4 * u56)) + 3 → g169 j = g156 j := fun j hj => by rw [hg170]; exact if_neg hj
          rw [← hg170] at hx167
          rw [← hg170] at hb168
          have hk173 : g169 9 = g156 9 := hk172 9 (by omega)
          refine xg_t (xg_aload (va := (2, 82)) rfl rfl) ?_
          refine xg_t (xg_getf (va := (2, 83)) (hb166.get (by decide) (hb153.get (by decide) (hb143.get (by decide) (hb133.get (by decide) (hF52.get (by decide) (hF45.get (by decide) h82_31)))))) rfl) ?_
          refine xg_t (xg_sip) ?_
          refine xg_t (xg_aload (va := (2, 82)) rfl rfl) ?_
          refine xg_t (xg_getf (va := (2, 83)) (hb166.get (by decide) (hb153.get (by decide) (hb143.get (by decide) (hb133.get (by decide) (hF52.get (by decide) (hF45.get (by decide) h82_31)))))) rfl) ?_
          refine xg_t (xg_bip) ?_
          refine xg_ialdB (n := 9) (B := 4294967295) hr165 (hb168) xnm0 (by omega) (fun u174 hu175 he176 => ?_)
          have hl177 : u174 ≤ 40 := by rw [← he176]; exact hx167.l9
          refine xg_t (xg_iadd (u := 910) (v := u174) (z := 910 + u174) xnm0 xnm0 (by omega)) ?_
          refine xg_t (xg_const) ?_
          refine xg_iastK (n := 910 + u174) (u := 1) hr165 xnm0 xnm0 rfl (by omega) (fun w178 hr179 hb180 => ?_)
          have hx181 : okA (fun j => if j = 910 + u174 then 1 else g169 j) := hx167.upd (by omega) (by omega) (by omega) (fun _ => by omega) (by omega) (fun _ => by omega) (fun _ => by omega) (fun _ => by omega) (fun _ => by omega) (by omega) (fun _ _ => by omega)
          have hb182 : ∀ j, (fun j => if j = 910 + u174 then 1 else g169 j) j ≤ 4294967295 := xrb (by omega) (hb168)
          obtain ⟨g183, hg184⟩ : ∃ g : Nat → Nat, g = (fun j => if j = 910 + u174 then 1 else g169 j) := ⟨_, rfl⟩
          rw [← hg184] at hr179
          have he185 : g183 (910 + u174) = 1 := by rw [hg184]; exact if_pos rfl
          have hk186 : ∀ j, j ≠ 910 + u174 → g183 j = g169 j := fun j hj => by rw [hg184]; exact if_neg hj
          rw [← hg184] at hx181
          rw [← hg184] at hb182
          have hk187 : g183 9 = g169 9 := hk186 9 (by omega)
          refine xg_t (xg_aload (va := (2, 82)) rfl rfl) ?_
          refine xg_t (xg_getf (va := (2, 83)) (hb180.get (by decide) (hb166.get (by decide) (hb153.get (by decide) (hb143.get (by decide) (hb133.get (by decide) (hF52.get (by decide) (hF45.get (by decide) h82_31))))))) rfl) ?_
          refine xg_t (xg_bip) ?_
          refine xg_t (xg_dup2 rfl) ?_
          refine xg_ialdB (n := 9) (B := 4294967295) hr179 (hb182) xnm0 (by omega) (fun u188 hu189 he190 => ?_)
          have hl191 : u188 ≤ 40 := by rw [← he190]; exact hx181.l9
          refine xg_t (xg_const) ?_
          refine xg_t (xg_iadd (u := u188) (v := 1) (z := u188 + 1) xnm0 xnm0 (by omega)) ?_
          refine xg_iastK (n := 9) (u := u188 + 1) hr179 xnm0 xnm0 rfl (by omega) (fun w192 hr193 hb194 => ?_)
          have hx195 : okA (fun j => if j = 9 then u188 + 1 else g183 j) := hx181.upd (by omega) (by omega) (by omega) (fun _ => by omega) (by omega) (fun _ => by omega) (fun _ => by omega) (fun _ => by omega) (fun _ => by omega) (by omega) (fun _ _ => by omega)
          have hb196 : ∀ j, (fun j => if j = 9 then u188 + 1 else g183 j) j ≤ 4294967295 := xrb (by omega) (hb182)
          obtain ⟨g197, hg198⟩ : ∃ g : Nat → Nat, g = (fun j => if j = 9 then u188 + 1 else g183 j) := ⟨_, rfl⟩
          rw [← hg198] at hr193
          have he199 : g197 9 = u188 + 1 := by rw [hg198]; exact if_pos rfl
          have hk200 : ∀ j, j ≠ 9 → g197 j = g183 j := fun j hj => by rw [hg198]; exact if_neg hj
          rw [← hg198] at hx195
          rw [← hg198] at hb196
          refine xg_t (xg_const) ?_
          exact xg_e ⟨1, w192, ⟨rfl, rfl⟩, by omega, xMnv.up (S := [83]) hI51 ((((((xFr.of (S := [83]) hb133 (by decide)).tr (xFr.of (S := [83]) hb143 (by decide))).tr (xFr.of (S := [83]) hb153 (by decide))).tr (xFr.of (S := [83]) hb166 (by decide))).tr (xFr.of (S := [83]) hb180 (by decide))).tr (xFr.of (S := [83]) hb194 (by decide))) (List.forall_mem_cons.mpr ⟨(show cpx83 (wget w192 83) from ⟨_, hr193, hb196, hx195⟩), fun _ h => absurd h List.not_mem_nil⟩), (((hF45.up (by decide)).tr (hF52.up (by decide))).tr ((((((xFr.of (S := [83]) hb133 (by decide)).tr (xFr.of (S := [83]) hb143 (by decide))).tr (xFr.of (S := [83]) hb153 (by decide))).tr (xFr.of (S := [83]) hb166 (by decide))).tr (xFr.of (S := [83]) hb180 (by decide))).tr (xFr.of (S := [83]) hb194 (by decide))))⟩
      · refine xg_t (xg_ifF (u := n53) rfl xnm0 (xj_eqF hc55)) ?_
        refine xg_t (xg_blk (b := [(33, 1, 3, 0, 0, 0), (34, 1, 12, 0, 1, 0)]) rfl) ?_
        refine xg_t (xg_const) ?_
        exact xg_e ⟨0, w49, ⟨rfl, rfl⟩, by omega, hI51, ((hF45.up (by decide)).tr (hF52.up (by decide)))⟩
theorem mSeen (hI : xMnv w)  : xPi d mX12_cracksSeen [(2, 82)] w bd fc rr (fun n w' => (n ≤ 4294967295) ∧ xMnv w' ∧ xFr [] w w') := by
  refine xPi.of ?_
  show xTo d mX12_cracksSeen (0, [], [(0, (2, 82))], [], (w, bd, fc, 0, 0, rr)) (fun φ => ∃ n w', xEnd 1 [(0, n)] (w', bd, fc, 0, 0, rr) φ ∧ (n ≤ 4294967295) ∧ xMnv w' ∧ xFr [] w w')
  obtain ⟨f82_1, f82_3, f82_5, f82_7, f82_9, f82_11, f82_13, f82_15, f82_17, f82_19, f82_21, f82_22, f82_23, f82_25, f82_27, f82_29, h82_31, hb2, hb4, hb6, hb8, hb10, hb12, hb14, hb16, hb18, hb20, hb24, hb26, hb28, hb30, hb32⟩ := (hI 82 (by decide) (by decide) : cp82 (wget w 82))
  replace hb4 := xHid.of hb4
  replace hb10 := xHid.of hb10
  replace hb14 := xHid.of hb14
  replace hb16 := xHid.of hb16
  replace hb20 := xHid.of hb20
  replace hb24 := xHid.of hb24
  replace hb26 := xHid.of hb26
  replace hb28 := xHid.of hb28
  replace hb30 := xHid.of hb30
  obtain ⟨g83_33, h83_34, hb35, hx36⟩ := (hI 83 (by decide) (by decide) : cpx83 (wget w 83))
  have h83_34 : xRow w 83 5360 50 g83_33 := h83_34
  refine xg_t (xg_blk (b := [(0, 1, 3, 0, 0, 0), (1, 1, 15, 1, 0, 0), (2, 1, 3, 0, 0, 0), (3, 1, 15, 2, 0, 0)]) rfl) ?_
  refine xg_t (xg_const) ?_
  refine xg_t (xg_istore (l1 := [(0, (2, 82))]) rfl rfl rfl) ?_
  refine xg_t (xg_const) ?_
  refine xg_t (xg_istore (l1 := [(1, (0, 0)), (0, (2, 82))]) rfl rfl rfl) ?_
  refine xg_t (xg_drop (l1 := [(0, (2, 82)), (1, (0, 0)), (2, (0, 0))]) (List.forall_mem_cons.mpr ⟨List.mem_cons_of_mem _ (List.mem_cons_of_mem _ (List.mem_cons_self)), List.forall_mem_cons.mpr ⟨List.mem_cons_of_mem _ (List.mem_cons_self), List.forall_mem_cons.mpr ⟨List.mem_cons_self, fun _ h => absurd h List.not_mem_nil⟩⟩⟩)) ?_
  have key37 : ∀ (m39 : Nat) (nn ki : Nat) (w40 : List (List xE)), 40 - ki < m39 → nn ≤ 4294967295 → ki ≤ 40 → xMnv w40 → xFr [] w w40 → xTo d mX12_cracksSeen (4, [], [(0, (2, 82)), (1, (0, nn)), (2, (0, ki))], [], (w40, bd, fc, 0, 0, rr)) (fun φ => ∃ n w', xEnd 1 [(0, n)] (w', bd, fc, 0, 0, rr) φ ∧ (n ≤ 4294967295) ∧ xMnv w' ∧ xFr [] w w') := by
    intro m39
    induction m39 with
    | zero => intro nn ki w40 hz; exact absurd hz (Nat.not_lt_zero _)
    | succ m39 ih38 =>
      intro nn ki w40 hm45 hn43 hn44 hI41 hF42
      refine xg_t (xg_blk (b := [(4, 1, 2, 2, 0, 0), (5, 1, 0, 0, 0, 0), (6, 3, 1, 12, 0, 7), (9, 2, 4, 9, 0, 0), (11, 1, 10, 0, 0, 0), (12, 3, 6, 64, 3, 0), (15, 1, 2, 1, 0, 0), (16, 1, 0, 0, 0, 0), (17, 3, 1, 12, 0, 7), (20, 2, 4, 12, 0, 0), (22, 1, 10, 0, 0, 0), (23, 1, 3, 4294967295, 0, 0), (24, 3, 6, 51, 0, 0), (27, 1, 0, 0, 0, 0), (28, 3, 1, 12, 0, 7), (31, 3, 5, 140, 0, 0), (34, 1, 3, 4, 0, 0), (35, 1, 2, 2, 0, 0), (36, 1, 16, 0, 0, 0), (37, 1, 11, 0, 0, 0), (38, 1, 3, 3, 0, 0), (39, 1, 11, 0, 0, 0), (40, 1, 10, 0, 0, 0), (41, 1, 0, 0, 0, 0), (42, 3, 1, 12, 0, 7), (45, 2, 4, 12, 0, 0), (47, 1, 10, 0, 0, 0), (48, 3, 6, 55, 4, 0)]) rfl) ?_
      refine xg_t (xg_iload (va := (0, ki)) rfl rfl) ?_
      refine xg_t (xg_aload (va := (2, 82)) rfl rfl) ?_
      refine xg_t (xg_getf (va := (2, 83)) (hF42.get (by decide) h82_31) rfl) ?_
      refine xg_t (xg_bip) ?_
      refine xg_ialdB (n := 9) (B := 4294967295) (h83_34.fr hF42 (by decide)) (hb35) xnm0 (by omega) (fun u46 hu47 he48 => ?_)
      have hl49 : u46 ≤ 40 := by rw [← he48]; exact hx36.l9
      by_cases hc50 : ki < u46
      · refine xg_t (xg_icF (u := ki) (v := u46) rfl xnm0 xnm0 (xj_geF hc50 (by omega))) ?_
        refine xg_t (xg_iload (va := (0, nn)) rfl rfl) ?_
        refine xg_t (xg_aload (va := (2, 82)) rfl rfl) ?_
        refine xg_t (xg_getf (va := (2, 83)) (hF42.get (by decide) h82_31) rfl) ?_
        refine xg_t (xg_bip) ?_
        refine xg_ialdB (n := 12) (B := 4294967295) (h83_34.fr hF42 (by decide)) (hb35) xnm0 (by omega) (fun u51 hu52 he53 => ?_)
        refine xg_t (xg_const) ?_
        by_cases hc54 : u51 = 4294967295
        · refine xg_t (xg_icT (u := u51) (v := 4294967295) rfl xnm0 xnm0 (xj_eqT hc54)) ?_
          refine xg_t (xg_blk (b := [(51, 1, 3, 1, 0, 0), (52, 3, 8, 56, 0, 0)]) rfl) ?_
          refine xg_t (xg_const) ?_
          refine xg_t (xg_goto) ?_
          refine xg_t (xg_blk (b := [(56, 1, 11, 0, 0, 0), (57, 1, 15, 1, 0, 0), (58, 3, 9, 2, 1, 0), (61, 3, 8, 4, 0, 0)]) rfl) ?_
          refine xg_k (xg_iadd (u := nn) (v := 1) (z := (nn + 1) % 4294967296) xnm0 xnm0 rfl) (Nat.mod_lt _ (by decide)) (fun z55 hz56 => ?_)
          refine xg_t (xg_istore (l1 := [(0, (2, 82)), (2, (0, ki))]) rfl rfl rfl) ?_
          refine xg_t (xg_iinc (u := ki) (z := ki + 1) (l1 := [(1, (0, z55)), (0, (2, 82))]) rfl rfl (by omega) rfl) ?_
          refine xg_t (xg_goto) ?_
          refine xg_t (xg_drop (l1 := [(0, (2, 82)), (1, (0, z55)), (2, (0, ki + 1))]) (List.forall_mem_cons.mpr ⟨List.mem_cons_of_mem _ (List.mem_cons_of_mem _ (List.mem_cons_self)), List.forall_mem_cons.mpr ⟨List.mem_cons_of_mem _ (List.mem_cons_self), List.forall_mem_cons.mpr ⟨List.mem_cons_self, fun _ h => absurd h List.not_mem_nil⟩⟩⟩)) ?_
          exact ih38 z55 (ki + 1) w40 (by omega) (by omega) (by omega) (hI41) (hF42)
        · refine xg_t (xg_icF (u := u51) (v := 4294967295) rfl xnm0 xnm0 (xj_eqF hc54)) ?_
          refine xg_t (xg_aload (va := (2, 82)) rfl rfl) ?_
          refine xg_t (xg_getf (va := (2, 83)) (hF42.get (by decide) h82_31) rfl) ?_
          refine xg_t (xg_sip) ?_
          refine xg_t (xg_const) ?_
          refine xg_t (xg_iload (va := (0, ki)) rfl rfl) ?_
          refine xg_t (xg_imul (u := 4) (v := ki) (z := 4 * ki) xnm0 xnm0 (by omega)) ?_
          refine xg_t (xg_iadd (u := 140) (v := 4 * ki) (z := 140 + (4 * ki)) xnm0 xnm0 (by omega)) ?_
          refine xg_t (xg_const) ?_
          refine xg_t (xg_iadd (u := 140 + (4 * ki)) (v := 3) (z := (140 + (4 * ki)) + 3) xnm0 xnm0 (by omega)) ?_
          refine xg_ialdB (n := (140 + (4 * ki)) + 3) (B := 4294967295) (h83_34.fr hF42 (by decide)) (hb35) xnm0 (by omega) (fun u57 hu58 he59 => ?_)
          refine xg_t (xg_aload (va := (2, 82)) rfl rfl) ?_
          refine xg_t (xg_getf (va := (2, 83)) (hF42.get (by decide) h82_31) rfl) ?_
          refine xg_t (xg_bip) ?_
          refine xg_ialdB (n := 12) (B := 4294967295) (h83_34.fr hF42 (by decide)) (hb35) xnm0 (by omega) (fun u60 hu61 he62 => ?_)
          by_cases hc63 : xbs u60 < xbs u57
          · have hc63u := hc63
            unfold xbs at hc63u
            refine xg_t (xg_icT (u := u57) (v := u60) rfl xnm0 xnm0 (xjs_gtT hc63)) ?_
            refine xg_t (xg_blk (b := [(55, 1, 3, 0, 0, 0)]) rfl) ?_
            refine xg_t (xg_const) ?_
            refine xg_t (xg_blk (b := [(56, 1, 11, 0, 0, 0), (57, 1, 15, 1, 0, 0), (58, 3, 9, 2, 1, 0), (61, 3, 8, 4, 0, 0)]) rfl) ?_
            refine xg_k (xg_iadd (u := nn) (v := 0) (z := (nn + 0) % 4294967296) xnm0 xnm0 rfl) (Nat.mod_lt _ (by decide)) (fun z64 hz65 => ?_)
            refine xg_t (xg_istore (l1 := [(0, (2, 82)), (2, (0, ki))]) rfl rfl rfl) ?_
            refine xg_t (xg_iinc (u := ki) (z := ki + 1) (l1 := [(1, (0, z64)), (0, (2, 82))]) rfl rfl (by omega) rfl) ?_
            refine xg_t (xg_goto) ?_
            refine xg_t (xg_drop (l1 := [(0, (2, 82)), (1, (0, z64)), (2, (0, ki + 1))]) (List.forall_mem_cons.mpr ⟨List.mem_cons_of_mem _ (List.mem_cons_of_mem _ (List.mem_cons_self)), List.forall_mem_cons.mpr ⟨List.mem_cons_of_mem _ (List.mem_cons_self), List.forall_mem_cons.mpr ⟨List.mem_cons_self, fun _ h => absurd h List.not_mem_nil⟩⟩⟩)) ?_
            exact ih38 z64 (ki + 1) w40 (by omega) (by omega) (by omega) (hI41) (hF42)
          · have hc63u := hc63
            unfold xbs at hc63u
            refine xg_t (xg_icF (u := u57) (v := u60) rfl xnm0 xnm0 (xjs_gtF hc63)) ?_
            refine xg_t (xg_blk (b := [(51, 1, 3, 1, 0, 0), (52, 3, 8, 56, 0, 0)]) rfl) ?_
            refine xg_t (xg_const) ?_
            refine xg_t (xg_goto) ?_
            refine xg_t (xg_blk (b := [(56, 1, 11, 0, 0, 0), (57, 1, 15, 1, 0, 0), (58, 3, 9, 2, 1, 0), (61, 3, 8, 4, 0, 0)]) rfl) ?_
            refine xg_k (xg_iadd (u := nn) (v := 1) (z := (nn + 1) % 4294967296) xnm0 xnm0 rfl) (Nat.mod_lt _ (by decide)) (fun z66 hz67 => ?_)
            refine xg_t (xg_istore (l1 := [(0, (2, 82)), (2, (0, ki))]) rfl rfl rfl) ?_
            refine xg_t (xg_iinc (u := ki) (z := ki + 1) (l1 := [(1, (0, z66)), (0, (2, 82))]) rfl rfl (by omega) rfl) ?_
            refine xg_t (xg_goto) ?_
            refine xg_t (xg_drop (l1 := [(0, (2, 82)), (1, (0, z66)), (2, (0, ki + 1))]) (List.forall_mem_cons.mpr ⟨List.mem_cons_of_mem _ (List.mem_cons_of_mem _ (List.mem_cons_self)), List.forall_mem_cons.mpr ⟨List.mem_cons_of_mem _ (List.mem_cons_self), List.forall_mem_cons.mpr ⟨List.mem_cons_self, fun _ h => absurd h List.not_mem_nil⟩⟩⟩)) ?_
            exact ih38 z66 (ki + 1) w40 (by omega) (by omega) (by omega) (hI41) (hF42)
      · refine xg_t (xg_icT (u := ki) (v := u46) rfl xnm0 xnm0 (xj_geT (by omega) (by omega))) ?_
        refine xg_t (xg_blk (b := [(64, 1, 2, 1, 0, 0), (65, 1, 12, 0, 1, 0)]) rfl) ?_
        refine xg_t (xg_iload (va := (0, nn)) rfl rfl) ?_
        exact xg_e ⟨nn, w40, ⟨rfl, rfl⟩, by omega, hI41, hF42⟩
  exact key37 _ 0 0 w (Nat.lt_succ_self _) (by omega) (by omega) (hI) (xFr.rf)
theorem mLooks (hI : xMnv w)  : xPq (d + 3) mX12_looks [(2, 82)] w bd fc rr [] (fun w' => xMnv w' ∧ xFr [99, 100] w w') := by
  refine xPq.of ?_
  show xTo (d + 3) mX12_looks (0, [], [(0, (2, 82))], [], (w, bd, fc, 0, 0, rr)) (fun φ => ∃ w', xEnd 0 [] (w', bd, fc, 0, 0, rr) φ ∧ xMnv w' ∧ xFr [99, 100] w w')
  obtain ⟨f82_1, f82_3, f82_5, f82_7, f82_9, f82_11, f82_13, f82_15, f82_17, f82_19, f82_21, f82_22, f82_23, f82_25, f82_27, f82_29, h82_31, hb2, hb4, hb6, hb8, hb10, hb12, hb14, hb16, hb18, hb20, hb24, hb26, hb28, hb30, hb32⟩ := (hI 82 (by decide) (by decide) : cp82 (wget w 82))
  replace hb4 := xHid.of hb4
  replace hb10 := xHid.of hb10
  replace hb14 := xHid.of hb14
  replace hb16 := xHid.of hb16
  replace hb20 := xHid.of hb20
  replace hb24 := xHid.of hb24
  replace hb26 := xHid.of hb26
  replace hb28 := xHid.of hb28
  replace hb30 := xHid.of hb30
  obtain ⟨g83_33, h83_34, hb35, hx36⟩ := (hI 83 (by decide) (by decide) : cpx83 (wget w 83))
  have h83_34 : xRow w 83 5360 50 g83_33 := h83_34
  refine xg_t (xg_blk (b := [(0, 1, 3, 0, 0, 0), (1, 1, 15, 1, 0, 0)]) rfl) ?_
  refine xg_t (xg_const) ?_
  refine xg_t (xg_istore (l1 := [(0, (2, 82))]) rfl rfl rfl) ?_
  refine xg_t (xg_drop (l1 := [(0, (2, 82)), (1, (0, 0))]) (List.forall_mem_cons.mpr ⟨List.mem_cons_of_mem _ (List.mem_cons_self), List.forall_mem_cons.mpr ⟨List.mem_cons_self, fun _ h => absurd h List.not_mem_nil⟩⟩)) ?_
  have key37 : ∀ (m39 : Nat) (ki : Nat) (w40 : List (List xE)), 36 - ki < m39 → ki ≤ 36 → xMnv w40 → xFr [99, 100] w w40 → xTo (d + 3) mX12_looks (2, [], [(0, (2, 82)), (1, (0, ki))], [], (w40, bd, fc, 0, 0, rr)) (fun φ => ∃ w', xEnd 0 [] (w', bd, fc, 0, 0, rr) φ ∧ xMnv w' ∧ xFr [99, 100] w w') := by
    intro m39
    induction m39 with
    | zero => intro ki w40 hz; exact absurd hz (Nat.not_lt_zero _)
    | succ m39 ih38 =>
      intro ki w40 hm44 hn43 hI41 hF42
      refine xg_t (xg_blk (b := [(2, 1, 2, 1, 0, 0), (3, 2, 4, 36, 0, 0), (5, 3, 6, 52, 3, 0), (8, 1, 0, 0, 0, 0), (9, 3, 1, 12, 29, 60), (12, 1, 2, 1, 0, 0), (13, 1, 0, 0, 0, 0), (14, 1, 3, 0, 0, 0), (15, 1, 2, 1, 0, 0), (16, 2, 4, 6, 0, 0), (18, 1, 20, 0, 0, 0), (19, 1, 2, 1, 0, 0), (20, 2, 4, 6, 0, 0), (22, 1, 21, 0, 0, 0), (23, 3, 13, 165, 96, 287), (26, 1, 28, 0, 0, 0), (27, 1, 0, 0, 0, 0), (28, 3, 1, 12, 30, 63), (31, 1, 2, 1, 0, 0), (32, 1, 0, 0, 0, 0), (33, 1, 3, 1, 0, 0), (34, 1, 2, 1, 0, 0), (35, 2, 4, 6, 0, 0), (37, 1, 20, 0, 0, 0), (38, 1, 2, 1, 0, 0), (39, 2, 4, 6, 0, 0), (41, 1, 21, 0, 0, 0), (42, 3, 13, 165, 96, 287), (45, 1, 28, 0, 0, 0), (46, 3, 9, 1, 1, 0), (49, 3, 8, 2, 0, 0)]) rfl) ?_
      refine xg_t (xg_iload (va := (0, ki)) rfl rfl) ?_
      refine xg_t (xg_bip) ?_
      by_cases hc45 : ki < 36
      · refine xg_t (xg_icF (u := ki) (v := 36) rfl xnm0 xnm0 (xj_geF hc45 (by omega))) ?_
        refine xg_t (xg_aload (va := (2, 82)) rfl rfl) ?_
        refine xg_t (xg_getf (va := (2, 99)) (hF42.get (by decide) h82_31) rfl) ?_
        refine xg_t (xg_iload (va := (0, ki)) rfl rfl) ?_
        refine xg_t (xg_aload (va := (2, 82)) rfl rfl) ?_
        refine xg_t (xg_const) ?_
        refine xg_t (xg_iload (va := (0, ki)) rfl rfl) ?_
        refine xg_t (xg_bip) ?_
        refine xg_t (xg_idiv (u := ki) (v := 6) (z := ki / 6) xnm0 xnm0 (by omega) (by decide) (by decide) (rfl)) ?_
        refine xg_t (xg_iload (va := (0, ki)) rfl rfl) ?_
        refine xg_t (xg_bip) ?_
        refine xg_t (xg_irem (u := ki) (v := 6) (z := ki % 6) xnm0 xnm0 (by omega) (by decide) (by decide) (rfl)) ?_
        refine xg_cVi mX12_isLed (vs := [(0, 0), (0, ki / 6), (0, ki % 6)]) (rest := [(0, ki), (2, 99)]) (cn1 := 0) (sl1 := 0) rfl (mLed (hI41) (by omega) (by omega) (by omega)) rfl (hF42.get (by decide) h82_31) rfl rfl rfl rfl rfl rfl (fun n50 w46 hq47 => ?_)
        obtain ⟨hn51, hI48, hF49⟩ := hq47
        obtain ⟨g99_52, h99_53, hb54, hx55⟩ := (hI48 99 (by decide) (by decide) : cpx99 (wget w46 99))
        have h99_53 : xRk 2 0 w46 99 36 66 g99_52 := h99_53
        refine xg_bastZ (n := ki) (u := n50) h99_53 xnm0 xnm0 rfl (by omega) (by omega) (fun w56 hr57 hb58 => ?_)
        refine xg_t (xg_aload (va := (2, 82)) rfl rfl) ?_
        refine xg_t (xg_getf (va := (2, 100)) (hb58.get (by decide) (hF49.get (by decide) (hF42.get (by decide) h82_31))) rfl) ?_
        refine xg_t (xg_iload (va := (0, ki)) rfl rfl) ?_
        refine xg_t (xg_aload (va := (2, 82)) rfl rfl) ?_
        refine xg_t (xg_const) ?_
        refine xg_t (xg_iload (va := (0, ki)) rfl rfl) ?_
        refine xg_t (xg_bip) ?_
        refine xg_t (xg_idiv (u := ki) (v := 6) (z := ki / 6) xnm0 xnm0 (by omega) (by decide) (by decide) (rfl)) ?_
        refine xg_t (xg_iload (va := (0, ki)) rfl rfl) ?_
        refine xg_t (xg_bip) ?_
        refine xg_t (xg_irem (u := ki) (v := 6) (z := ki % 6) xnm0 xnm0 (by omega) (by decide) (by decide) (rfl)) ?_
        refine xg_cVi mX12_isLed (vs := [(0, 1), (0, ki / 6), (0, ki % 6)]) (rest := [(0, ki), (2, 100)]) (cn1 := 0) (sl1 := 0) rfl (mLed (xMnv.up (S := [99]) hI48 (xFr.of (S := [99]) hb58 (by decide)) (List.forall_mem_cons.mpr ⟨(show cpx99 (wget w56 99) from ⟨_, hr57, xrb (by omega) (hb54), (hx55.upd (by omega))⟩), fun _ h => absurd h List.not_mem_nil⟩)) (by omega) (by omega) (by omega)) rfl (hb58.get (by decide) (hF49.get (by decide) (hF42.get (by decide) h82_31))) rfl rfl rfl rfl rfl rfl (fun n63 w59 hq60 => ?_)
        obtain ⟨hn64, hI61, hF62⟩ := hq60
        obtain ⟨g100_65, h100_66, hb67, hx68⟩ := (hI61 100 (by decide) (by decide) : cpx100 (wget w59 100))
        have h100_66 : xRk 2 0 w59 100 36 67 g100_65 := h100_66
        refine xg_bastZ (n := ki) (u := n63) h100_66 xnm0 xnm0 rfl (by omega) (by omega) (fun w69 hr70 hb71 => ?_)
        refine xg_t (xg_iinc (u := ki) (z := ki + 1) (l1 := [(0, (2, 82))]) rfl rfl (by omega) rfl) ?_
        refine xg_t (xg_goto) ?_
        refine xg_t (xg_drop (l1 := [(0, (2, 82)), (1, (0, ki + 1))]) (List.forall_mem_cons.mpr ⟨List.mem_cons_of_mem _ (List.mem_cons_self), List.forall_mem_cons.mpr ⟨List.mem_cons_self, fun _ h => absurd h List.not_mem_nil⟩⟩)) ?_
        exact ih38 (ki + 1) w69 (by omega) (by omega) (xMnv.up (S := [100]) hI61 (xFr.of (S := [100]) hb71 (by decide)) (List.forall_mem_cons.mpr ⟨(show cpx100 (wget w69 100) from ⟨_, hr70, xrb (by omega) (hb67), (hx68.upd (by omega))⟩), fun _ h => absurd h List.not_mem_nil⟩)) (((((hF42.tr (hF49.up (by decide))).tr (xFr.of (S := [99, 100]) hb58 (by decide))).tr (hF62.up (by decide))).tr (xFr.of (S := [99, 100]) hb71 (by decide))))
      · refine xg_t (xg_icT (u := ki) (v := 36) rfl xnm0 xnm0 (xj_geT (by omega) (by omega))) ?_
        refine xg_t (xg_blk (b := [(52, 1, 12, 0, 0, 0)]) rfl) ?_
        exact xg_e ⟨w40, ⟨rfl, rfl⟩, hI41, hF42⟩
  exact key37 _ 0 w (Nat.lt_succ_self _) (by omega) (hI) (xFr.rf)
end XM1
