/-! the model: its small methods -/
theorem xRow.det {w : List (List xE)} {k L t : Nat} {f g : Nat → Nat} (h : xRow w k L t f) (h' : xRow w k L t g) (j : Nat) (hj : j < L) : f j = g j := by
  obtain ⟨us, h1, h2⟩ := h
  obtain ⟨vs, h3, h4⟩ := h'
  rw [h1] at h3
  cases h3
  have e := (h2 j hj).symm.trans (h4 j hj)
  exact congrArg Prod.snd e
theorem okA.l0 {f : Nat → Nat} (h : okA f) : f 0 ≤ 6 := h.lits.1
theorem okA.l1 {f : Nat → Nat} (h : okA f) : f 1 ≤ 4 := h.lits.2.1
theorem okA.l2 {f : Nat → Nat} (h : okA f) : f 2 ≤ 6 := h.lits.2.2.1
theorem okA.l3 {f : Nat → Nat} (h : okA f) : f 3 ≤ 4 := h.lits.2.2.2.1
theorem okA.l4 {f : Nat → Nat} (h : okA f) : f 4 ≤ 20 := h.lits.2.2.2.2.1
theorem okA.l5 {f : Nat → Nat} (h : okA f) : f 5 ≤ 6 := h.lits.2.2.2.2.2.1
theorem okA.l6 {f : Nat → Nat} (h : okA f) : f 6 ≤ 6 := h.lits.2.2.2.2.2.2.1
theorem okA.l7 {f : Nat → Nat} (h : okA f) : f 7 ≤ 10 := h.lits.2.2.2.2.2.2.2.1
theorem okA.l8 {f : Nat → Nat} (h : okA f) : f 8 ≤ 10 := h.lits.2.2.2.2.2.2.2.2.1
theorem okA.l9 {f : Nat → Nat} (h : okA f) : f 9 ≤ 40 := h.lits.2.2.2.2.2.2.2.2.2.1
theorem okA.l10 {f : Nat → Nat} (h : okA f) : f 10 ≤ 12 := h.lits.2.2.2.2.2.2.2.2.2.2.1
theorem okA.l13 {f : Nat → Nat} (h : okA f) : f 13 ≤ 200 := h.lits.2.2.2.2.2.2.2.2.2.2.2.1
theorem okA.l15 {f : Nat → Nat} (h : okA f) : f 15 ≤ 500 := h.lits.2.2.2.2.2.2.2.2.2.2.2.2.1
theorem okA.l900 {f : Nat → Nat} (h : okA f) : f 900 ≤ 4 := h.lits.2.2.2.2.2.2.2.2.2.2.2.2.2.1
theorem okA.l901 {f : Nat → Nat} (h : okA f) : f 901 ≤ 12 := h.lits.2.2.2.2.2.2.2.2.2.2.2.2.2.2.1
theorem okA.l902 {f : Nat → Nat} (h : okA f) : f 902 ≤ 16 := h.lits.2.2.2.2.2.2.2.2.2.2.2.2.2.2.2.1
theorem okA.l56 {f : Nat → Nat} (h : okA f) : f 5 = 0 ∨ 1 ≤ f 6 := h.lits.2.2.2.2.2.2.2.2.2.2.2.2.2.2.2.2
section XM1
variable {d : Nat} {w : List (List xE)} {bd : List (Nat × Nat)} {fc : List (Nat × Nat × Bool)} {rr : Nat × Nat}
theorem mIsIn {a b c : Nat} (ha : a ≤ 4294967295) (hb : b ≤ 2147483647) (hc : c ≤ 2147483647) : xPr d mX12_isIn [(0, a), (0, b), (0, c)] w bd fc rr [(0, if b ≤ a ∧ a ≤ c then 1 else 0)] w := by
  refine xPr.of ?_
  show xTo d mX12_isIn (0, [], [(0, (0, a)), (1, (0, b)), (2, (0, c))], [], (w, bd, fc, 0, 0, rr)) (xEnd 4 [(0, if b ≤ a ∧ a ≤ c then 1 else 0)] (w, bd, fc, 0, 0, rr))
  refine xg_t (xg_blq rfl) ?_
  refine xg_t (xg_iload (va := (0, a)) rfl rfl) ?_
  refine xg_t (xg_iload (va := (0, b)) rfl rfl) ?_
  by_cases hc1 : xbs a < xbs b
  · have hc1u := hc1
    unfold xbs at hc1u
    have hn2 : b ≤ 2147483647 := by omega
    refine xg_t (xg_icT (u := a) (v := b) rfl xnm0 xnm0 (xjs_ltT hc1)) ?_
    refine xg_t (xg_blq rfl) ?_
    refine xg_t (xg_const) ?_
    refine xg_t (xg_blq rfl) ?_
    rw [if_neg (show ¬ (b ≤ a ∧ a ≤ c) by omega)]
    exact xg_e ⟨rfl, rfl⟩
  · have hc1u := hc1
    unfold xbs at hc1u
    have hn3 : a ≤ 2147483647 := by omega
    have hn4 : b ≤ 2147483647 := by omega
    refine xg_t (xg_icF (u := a) (v := b) rfl xnm0 xnm0 (xjs_ltF hc1)) ?_
    refine xg_t (xg_iload (va := (0, a)) rfl rfl) ?_
    refine xg_t (xg_iload (va := (0, c)) rfl rfl) ?_
    by_cases hc5 : c < a
    · refine xg_t (xg_icT (u := a) (v := c) rfl xnm0 xnm0 (xj_gtT hc5 (by omega))) ?_
      refine xg_t (xg_blq rfl) ?_
      refine xg_t (xg_const) ?_
      refine xg_t (xg_blq rfl) ?_
      rw [if_neg (show ¬ (b ≤ a ∧ a ≤ c) by omega)]
      exact xg_e ⟨rfl, rfl⟩
    · refine xg_t (xg_icF (u := a) (v := c) rfl xnm0 xnm0 (xj_gtF (by omega) (by omega))) ?_
      refine xg_t (xg_const) ?_
      refine xg_t (xg_goto) ?_
      refine xg_t (xg_blq rfl) ?_
      rw [if_pos (show b ≤ a ∧ a ≤ c by omega)]
      exact xg_e ⟨rfl, rfl⟩
theorem mIsInN {a b c : Nat} (ha : a ≤ 4294967295) (hb : b ≤ 2147483647) (hc : 2147483648 ≤ c) (hc' : c ≤ 4294967295) : xPr d mX12_isIn [(0, a), (0, b), (0, c)] w bd fc rr [(0, 0)] w := by
  refine xPr.of ?_
  show xTo d mX12_isIn (0, [], [(0, (0, a)), (1, (0, b)), (2, (0, c))], [], (w, bd, fc, 0, 0, rr)) (xEnd 4 [(0, 0)] (w, bd, fc, 0, 0, rr))
  refine xg_t (xg_blq rfl) ?_
  refine xg_t (xg_iload (va := (0, a)) rfl rfl) ?_
  refine xg_t (xg_iload (va := (0, b)) rfl rfl) ?_
  by_cases hc1 : xbs a < xbs b
  · have hc1u := hc1
    unfold xbs at hc1u
    have hn2 : b ≤ 2147483647 := by omega
    refine xg_t (xg_icT (u := a) (v := b) rfl xnm0 xnm0 (xjs_ltT hc1)) ?_
    refine xg_t (xg_blq rfl) ?_
    refine xg_t (xg_const) ?_
    refine xg_t (xg_blq rfl) ?_
    exact xg_e ⟨rfl, rfl⟩
  · have hc1u := hc1
    unfold xbs at hc1u
    have hn3 : a ≤ 2147483647 := by omega
    have hn4 : b ≤ 2147483647 := by omega
    refine xg_t (xg_icF (u := a) (v := b) rfl xnm0 xnm0 (xjs_ltF hc1)) ?_
    refine xg_t (xg_iload (va := (0, a)) rfl rfl) ?_
    refine xg_t (xg_iload (va := (0, c)) rfl rfl) ?_
    refine xg_t (xg_icT (u := a) (v := c) rfl xnm0 xnm0 (xjs_gtT (by unfold xbs; omega))) ?_
    refine xg_t (xg_blq rfl) ?_
    refine xg_t (xg_const) ?_
    refine xg_t (xg_blq rfl) ?_
    exact xg_e ⟨rfl, rfl⟩
theorem mOf0 {g0 : Nat → Nat} {ka : Nat} (hI : xMnv w) (hka : ka ≤ 4294967295) (hr83 : xRow w 83 5360 50 g0) (hgb : ∀ j, g0 j ≤ 4294967295) (hok : okA g0) : xPi (d + 1) mX12_isOf [(2, 82), (0, ka), (0, 0)] w bd fc rr (fun n w' => (n ≤ 1 ∧ (n = 1 → ka < g0 0)) ∧ xMnv w' ∧ xFr [] w w') := by
  refine xPi.of ?_
  show xTo (d + 1) mX12_isOf (0, [], [(0, (2, 82)), (1, (0, ka)), (2, (0, 0))], [], (w, bd, fc, 0, 0, rr)) (fun φ => ∃ n w', xEnd 4 [(0, n)] (w', bd, fc, 0, 0, rr) φ ∧ (n ≤ 1 ∧ (n = 1 → ka < g0 0)) ∧ xMnv w' ∧ xFr [] w w')
  refine xoCh82 (xqc82 hI : cp82 (wget w 82)) (fun f82_1 f82_3 f82_5 f82_7 f82_9 f82_11 f82_13 f82_15 f82_17 f82_19 f82_21 f82_22 f82_23 f82_25 f82_27 f82_29 h82_31 hb2 hb4 hb6 hb8 hb10 hb12 hb14 hb16 hb18 hb20 hb24 hb26 hb28 hb30 hb32 => ?_)
  refine xg_t (xg_blq rfl) ?_
  refine xg_t (xg_iload (va := (0, ka)) rfl rfl) ?_
  refine xg_t (xg_const) ?_
  refine xg_t (xg_aload (va := (2, 82)) rfl rfl) ?_
  refine xg_t (xg_getf (va := (2, 83)) h82_31 rfl) ?_
  refine xg_t (xg_iload (va := (0, 0)) rfl rfl) ?_
  refine xg_ialdB (n := 0) (B := 4294967295) hr83 (hgb) xnm0 (by first | decide | omega) (fun u33 hu34 he35 => ?_)
  have hl36 : u33 ≤ 6 := by rw [← he35]; exact hok.l0
  refine xg_t (xg_const) ?_
  by_cases hc37 : 1 ≤ u33
  · refine xg_t (xg_isub (u := u33) (v := 1) (z := u33 - 1) xnm0 xnm0 (by omega)) ?_
    refine xg_t (xg_cSr mX12_isIn (vs := [(0, ka), (0, 0), (0, u33 - 1)]) (rest := []) (rs := [(0, if 0 ≤ ka ∧ ka ≤ u33 - 1 then 1 else 0)]) (cn1 := 0) (sl1 := 0) rfl (mIsIn (by omega) (by omega) (by omega)) rfl rfl rfl rfl rfl rfl rfl rfl) ?_
    by_cases hc38 : 0 ≤ ka ∧ ka ≤ u33 - 1
    · rw [if_pos hc38]
      exact xg_e ⟨1, w, ⟨rfl, rfl⟩, by first | decide | omega, hI, xFr.rf⟩
    · rw [if_neg hc38]
      exact xg_e ⟨0, w, ⟨rfl, rfl⟩, by first | decide | omega, hI, xFr.rf⟩
  · have hz41 : 4294967295 ≤ (u33 + (4294967296 - 1)) % 4294967296 := by omega
    refine xg_t (xg_isub (u := u33) (v := 1) (z := (u33 + (4294967296 - 1)) % 4294967296) xnm0 xnm0 rfl) ?_
    have hz40 : (u33 + (4294967296 - 1)) % 4294967296 < 4294967296 := Nat.mod_lt _ (by decide)
    generalize (u33 + (4294967296 - 1)) % 4294967296 = z39 at hz41 hz40 ⊢
    refine xg_t (xg_cSr mX12_isIn (vs := [(0, ka), (0, 0), (0, z39)]) (rest := []) (rs := [(0, 0)]) (cn1 := 0) (sl1 := 0) rfl (mIsInN (by omega) (by omega) (by omega) (by omega)) rfl rfl rfl rfl rfl rfl rfl rfl) ?_
    exact xg_e ⟨0, w, ⟨rfl, rfl⟩, by first | decide | omega, hI, xFr.rf⟩
theorem mOf5 {g0 : Nat → Nat} {ka : Nat} (hI : xMnv w) (hka : ka ≤ 4294967295) (hr83 : xRow w 83 5360 50 g0) (hgb : ∀ j, g0 j ≤ 4294967295) (hok : okA g0) : xPi (d + 1) mX12_isOf [(2, 82), (0, ka), (0, 5)] w bd fc rr (fun n w' => (n ≤ 1 ∧ (n = 1 → ka < g0 5)) ∧ xMnv w' ∧ xFr [] w w') := by
  refine xPi.of ?_
  show xTo (d + 1) mX12_isOf (0, [], [(0, (2, 82)), (1, (0, ka)), (2, (0, 5))], [], (w, bd, fc, 0, 0, rr)) (fun φ => ∃ n w', xEnd 4 [(0, n)] (w', bd, fc, 0, 0, rr) φ ∧ (n ≤ 1 ∧ (n = 1 → ka < g0 5)) ∧ xMnv w' ∧ xFr [] w w')
  refine xoCh82 (xqc82 hI : cp82 (wget w 82)) (fun f82_1 f82_3 f82_5 f82_7 f82_9 f82_11 f82_13 f82_15 f82_17 f82_19 f82_21 f82_22 f82_23 f82_25 f82_27 f82_29 h82_31 hb2 hb4 hb6 hb8 hb10 hb12 hb14 hb16 hb18 hb20 hb24 hb26 hb28 hb30 hb32 => ?_)
  refine xg_t (xg_blq rfl) ?_
  refine xg_t (xg_iload (va := (0, ka)) rfl rfl) ?_
  refine xg_t (xg_const) ?_
  refine xg_t (xg_aload (va := (2, 82)) rfl rfl) ?_
  refine xg_t (xg_getf (va := (2, 83)) h82_31 rfl) ?_
  refine xg_t (xg_iload (va := (0, 5)) rfl rfl) ?_
  refine xg_ialdB (n := 5) (B := 4294967295) hr83 (hgb) xnm0 (by first | decide | omega) (fun u33 hu34 he35 => ?_)
  have hl36 : u33 ≤ 6 := by rw [← he35]; exact hok.l5
  refine xg_t (xg_const) ?_
  by_cases hc37 : 1 ≤ u33
  · refine xg_t (xg_isub (u := u33) (v := 1) (z := u33 - 1) xnm0 xnm0 (by omega)) ?_
    refine xg_t (xg_cSr mX12_isIn (vs := [(0, ka), (0, 0), (0, u33 - 1)]) (rest := []) (rs := [(0, if 0 ≤ ka ∧ ka ≤ u33 - 1 then 1 else 0)]) (cn1 := 0) (sl1 := 0) rfl (mIsIn (by omega) (by omega) (by omega)) rfl rfl rfl rfl rfl rfl rfl rfl) ?_
    by_cases hc38 : 0 ≤ ka ∧ ka ≤ u33 - 1
    · rw [if_pos hc38]
      exact xg_e ⟨1, w, ⟨rfl, rfl⟩, by first | decide | omega, hI, xFr.rf⟩
    · rw [if_neg hc38]
      exact xg_e ⟨0, w, ⟨rfl, rfl⟩, by first | decide | omega, hI, xFr.rf⟩
  · have hz41 : 4294967295 ≤ (u33 + (4294967296 - 1)) % 4294967296 := by omega
    refine xg_t (xg_isub (u := u33) (v := 1) (z := (u33 + (4294967296 - 1)) % 4294967296) xnm0 xnm0 rfl) ?_
    have hz40 : (u33 + (4294967296 - 1)) % 4294967296 < 4294967296 := Nat.mod_lt _ (by decide)
    generalize (u33 + (4294967296 - 1)) % 4294967296 = z39 at hz41 hz40 ⊢
    refine xg_t (xg_cSr mX12_isIn (vs := [(0, ka), (0, 0), (0, z39)]) (rest := []) (rs := [(0, 0)]) (cn1 := 0) (sl1 := 0) rfl (mIsInN (by omega) (by omega) (by omega) (by omega)) rfl rfl rfl rfl rfl rfl rfl rfl) ?_
    exact xg_e ⟨0, w, ⟨rfl, rfl⟩, by first | decide | omega, hI, xFr.rf⟩
theorem mOf9 {g0 : Nat → Nat} {ka : Nat} (hI : xMnv w) (hka : ka ≤ 4294967295) (hr83 : xRow w 83 5360 50 g0) (hgb : ∀ j, g0 j ≤ 4294967295) (hok : okA g0) : xPi (d + 1) mX12_isOf [(2, 82), (0, ka), (0, 9)] w bd fc rr (fun n w' => (n ≤ 1 ∧ (n = 1 → ka < g0 9)) ∧ xMnv w' ∧ xFr [] w w') := by
  refine xPi.of ?_
  show xTo (d + 1) mX12_isOf (0, [], [(0, (2, 82)), (1, (0, ka)), (2, (0, 9))], [], (w, bd, fc, 0, 0, rr)) (fun φ => ∃ n w', xEnd 4 [(0, n)] (w', bd, fc, 0, 0, rr) φ ∧ (n ≤ 1 ∧ (n = 1 → ka < g0 9)) ∧ xMnv w' ∧ xFr [] w w')
  refine xoCh82 (xqc82 hI : cp82 (wget w 82)) (fun f82_1 f82_3 f82_5 f82_7 f82_9 f82_11 f82_13 f82_15 f82_17 f82_19 f82_21 f82_22 f82_23 f82_25 f82_27 f82_29 h82_31 hb2 hb4 hb6 hb8 hb10 hb12 hb14 hb16 hb18 hb20 hb24 hb26 hb28 hb30 hb32 => ?_)
  refine xg_t (xg_blq rfl) ?_
  refine xg_t (xg_iload (va := (0, ka)) rfl rfl) ?_
  refine xg_t (xg_const) ?_
  refine xg_t (xg_aload (va := (2, 82)) rfl rfl) ?_
  refine xg_t (xg_getf (va := (2, 83)) h82_31 rfl) ?_
  refine xg_t (xg_iload (va := (0, 9)) rfl rfl) ?_
  refine xg_ialdB (n := 9) (B := 4294967295) hr83 (hgb) xnm0 (by first | decide | omega) (fun u33 hu34 he35 => ?_)
  have hl36 : u33 ≤ 40 := by rw [← he35]; exact hok.l9
  refine xg_t (xg_const) ?_
  by_cases hc37 : 1 ≤ u33
  · refine xg_t (xg_isub (u := u33) (v := 1) (z := u33 - 1) xnm0 xnm0 (by omega)) ?_
    refine xg_t (xg_cSr mX12_isIn (vs := [(0, ka), (0, 0), (0, u33 - 1)]) (rest := []) (rs := [(0, if 0 ≤ ka ∧ ka ≤ u33 - 1 then 1 else 0)]) (cn1 := 0) (sl1 := 0) rfl (mIsIn (by omega) (by omega) (by omega)) rfl rfl rfl rfl rfl rfl rfl rfl) ?_
    by_cases hc38 : 0 ≤ ka ∧ ka ≤ u33 - 1
    · rw [if_pos hc38]
      exact xg_e ⟨1, w, ⟨rfl, rfl⟩, by first | decide | omega, hI, xFr.rf⟩
    · rw [if_neg hc38]
      exact xg_e ⟨0, w, ⟨rfl, rfl⟩, by first | decide | omega, hI, xFr.rf⟩
  · have hz41 : 4294967295 ≤ (u33 + (4294967296 - 1)) % 4294967296 := by omega
    refine xg_t (xg_isub (u := u33) (v := 1) (z := (u33 + (4294967296 - 1)) % 4294967296) xnm0 xnm0 rfl) ?_
    have hz40 : (u33 + (4294967296 - 1)) % 4294967296 < 4294967296 := Nat.mod_lt _ (by decide)
    generalize (u33 + (4294967296 - 1)) % 4294967296 = z39 at hz41 hz40 ⊢
    refine xg_t (xg_cSr mX12_isIn (vs := [(0, ka), (0, 0), (0, z39)]) (rest := []) (rs := [(0, 0)]) (cn1 := 0) (sl1 := 0) rfl (mIsInN (by omega) (by omega) (by omega) (by omega)) rfl rfl rfl rfl rfl rfl rfl rfl) ?_
    exact xg_e ⟨0, w, ⟨rfl, rfl⟩, by first | decide | omega, hI, xFr.rf⟩
theorem mOf900 {g0 : Nat → Nat} {ka : Nat} (hI : xMnv w) (hka : ka ≤ 4294967295) (hr83 : xRow w 83 5360 50 g0) (hgb : ∀ j, g0 j ≤ 4294967295) (hok : okA g0) : xPi (d + 1) mX12_isOf [(2, 82), (0, ka), (0, 900)] w bd fc rr (fun n w' => (n ≤ 1 ∧ (n = 1 → ka < g0 900)) ∧ xMnv w' ∧ xFr [] w w') := by
  refine xPi.of ?_
  show xTo (d + 1) mX12_isOf (0, [], [(0, (2, 82)), (1, (0, ka)), (2, (0, 900))], [], (w, bd, fc, 0, 0, rr)) (fun φ => ∃ n w', xEnd 4 [(0, n)] (w', bd, fc, 0, 0, rr) φ ∧ (n ≤ 1 ∧ (n = 1 → ka < g0 900)) ∧ xMnv w' ∧ xFr [] w w')
  refine xoCh82 (xqc82 hI : cp82 (wget w 82)) (fun f82_1 f82_3 f82_5 f82_7 f82_9 f82_11 f82_13 f82_15 f82_17 f82_19 f82_21 f82_22 f82_23 f82_25 f82_27 f82_29 h82_31 hb2 hb4 hb6 hb8 hb10 hb12 hb14 hb16 hb18 hb20 hb24 hb26 hb28 hb30 hb32 => ?_)
  refine xg_t (xg_blq rfl) ?_
  refine xg_t (xg_iload (va := (0, ka)) rfl rfl) ?_
  refine xg_t (xg_const) ?_
  refine xg_t (xg_aload (va := (2, 82)) rfl rfl) ?_
  refine xg_t (xg_getf (va := (2, 83)) h82_31 rfl) ?_
  refine xg_t (xg_iload (va := (0, 900)) rfl rfl) ?_
  refine xg_ialdB (n := 900) (B := 4294967295) hr83 (hgb) xnm0 (by first | decide | omega) (fun u33 hu34 he35 => ?_)
  have hl36 : u33 ≤ 4 := by rw [← he35]; exact hok.l900
  refine xg_t (xg_const) ?_
  by_cases hc37 : 1 ≤ u33
  · refine xg_t (xg_isub (u := u33) (v := 1) (z := u33 - 1) xnm0 xnm0 (by omega)) ?_
    refine xg_t (xg_cSr mX12_isIn (vs := [(0, ka), (0, 0), (0, u33 - 1)]) (rest := []) (rs := [(0, if 0 ≤ ka ∧ ka ≤ u33 - 1 then 1 else 0)]) (cn1 := 0) (sl1 := 0) rfl (mIsIn (by omega) (by omega) (by omega)) rfl rfl rfl rfl rfl rfl rfl rfl) ?_
    by_cases hc38 : 0 ≤ ka ∧ ka ≤ u33 - 1
    · rw [if_pos hc38]
      exact xg_e ⟨1, w, ⟨rfl, rfl⟩, by first | decide | omega, hI, xFr.rf⟩
    · rw [if_neg hc38]
      exact xg_e ⟨0, w, ⟨rfl, rfl⟩, by first | decide | omega, hI, xFr.rf⟩
  · have hz41 : 4294967295 ≤ (u33 + (4294967296 - 1)) % 4294967296 := by omega
    refine xg_t (xg_isub (u := u33) (v := 1) (z := (u33 + (4294967296 - 1)) % 4294967296) xnm0 xnm0 rfl) ?_
    have hz40 : (u33 + (4294967296 - 1)) % 4294967296 < 4294967296 := Nat.mod_lt _ (by decide)
    generalize (u33 + (4294967296 - 1)) % 4294967296 = z39 at hz41 hz40 ⊢
    refine xg_t (xg_cSr mX12_isIn (vs := [(0, ka), (0, 0), (0, z39)]) (rest := []) (rs := [(0, 0)]) (cn1 := 0) (sl1 := 0) rfl (mIsInN (by omega) (by omega) (by omega) (by omega)) rfl rfl rfl rfl rfl rfl rfl rfl) ?_
    exact xg_e ⟨0, w, ⟨rfl, rfl⟩, by first | decide | omega, hI, xFr.rf⟩
theorem mRound {ro : Nat} (hI : xMnv w) (hro : ro ≤ 4294967295) : xPi (d + 1) mX12_isRound [(2, 82), (0, ro)] w bd fc rr (fun n w' => (n ≤ 1 ∧ (n = 1 → 1 ≤ ro ∧ ro ≤ 9999)) ∧ xMnv w' ∧ xFr [] w w') := by
  refine xPi.of ?_
  show xTo (d + 1) mX12_isRound (0, [], [(0, (2, 82)), (1, (0, ro))], [], (w, bd, fc, 0, 0, rr)) (fun φ => ∃ n w', xEnd 4 [(0, n)] (w', bd, fc, 0, 0, rr) φ ∧ (n ≤ 1 ∧ (n = 1 → 1 ≤ ro ∧ ro ≤ 9999)) ∧ xMnv w' ∧ xFr [] w w')
  refine xg_t (xg_blq rfl) ?_
  refine xg_t (xg_iload (va := (0, ro)) rfl rfl) ?_
  refine xg_t (xg_const) ?_
  refine xg_t (xg_sip) ?_
  refine xg_t (xg_cSr mX12_isIn (vs := [(0, ro), (0, 1), (0, 9999)]) (rest := []) (rs := [(0, if 1 ≤ ro ∧ ro ≤ 9999 then 1 else 0)]) (cn1 := 0) (sl1 := 0) rfl (mIsIn (by omega) (by omega) (by omega)) rfl rfl rfl rfl rfl rfl rfl rfl) ?_
  by_cases hc1 : 1 ≤ ro ∧ ro ≤ 9999
  · rw [if_pos hc1]
    exact xg_e ⟨1, w, ⟨rfl, rfl⟩, by first | decide | omega, hI, xFr.rf⟩
  · rw [if_neg hc1]
    exact xg_e ⟨0, w, ⟨rfl, rfl⟩, by first | decide | omega, hI, xFr.rf⟩
theorem mPoint {g0 : Nat → Nat} {ra ca : Nat} (hI : xMnv w) (hra : ra ≤ 4294967295) (hca : ca ≤ 4294967295) (hr83 : xRow w 83 5360 50 g0) (hgb : ∀ j, g0 j ≤ 4294967295) (hok : okA g0) : xPi (d + 1) mX12_isPoint [(2, 82), (0, ra), (0, ca)] w bd fc rr (fun n w' => (n ≤ 1 ∧ (n = 1 → ra < g0 5 ∧ ca < g0 6)) ∧ xMnv w' ∧ xFr [] w w') := by
  refine xPi.of ?_
  show xTo (d + 1) mX12_isPoint (0, [], [(0, (2, 82)), (1, (0, ra)), (2, (0, ca))], [], (w, bd, fc, 0, 0, rr)) (fun φ => ∃ n w', xEnd 4 [(0, n)] (w', bd, fc, 0, 0, rr) φ ∧ (n ≤ 1 ∧ (n = 1 → ra < g0 5 ∧ ca < g0 6)) ∧ xMnv w' ∧ xFr [] w w')
  refine xoCh82 (xqc82 hI : cp82 (wget w 82)) (fun f82_1 f82_3 f82_5 f82_7 f82_9 f82_11 f82_13 f82_15 f82_17 f82_19 f82_21 f82_22 f82_23 f82_25 f82_27 f82_29 h82_31 hb2 hb4 hb6 hb8 hb10 hb12 hb14 hb16 hb18 hb20 hb24 hb26 hb28 hb30 hb32 => ?_)
  refine xg_t (xg_blq rfl) ?_
  refine xg_t (xg_iload (va := (0, ra)) rfl rfl) ?_
  refine xg_t (xg_const) ?_
  refine xg_t (xg_aload (va := (2, 82)) rfl rfl) ?_
  refine xg_t (xg_getf (va := (2, 83)) h82_31 rfl) ?_
  refine xg_t (xg_const) ?_
  refine xg_ialdB (n := 5) (B := 4294967295) hr83 (hgb) xnm0 (by first | decide | omega) (fun u33 hu34 he35 => ?_)
  have hl36 : u33 ≤ 6 := by rw [← he35]; exact hok.l5
  refine xg_t (xg_const) ?_
  by_cases hc37 : 1 ≤ u33
  · refine xg_t (xg_isub (u := u33) (v := 1) (z := u33 - 1) xnm0 xnm0 (by omega)) ?_
    refine xg_t (xg_cSr mX12_isIn (vs := [(0, ra), (0, 0), (0, u33 - 1)]) (rest := []) (rs := [(0, if 0 ≤ ra ∧ ra ≤ u33 - 1 then 1 else 0)]) (cn1 := 0) (sl1 := 0) rfl (mIsIn (by omega) (by omega) (by omega)) rfl rfl rfl rfl rfl rfl rfl rfl) ?_
    by_cases hc38 : 0 ≤ ra ∧ ra ≤ u33 - 1
    · refine xg_t (xg_ifF (u := (if 0 ≤ ra ∧ ra ≤ u33 - 1 then 1 else 0)) rfl xnm0 (xj_eqF (xite1 hc38))) ?_
      refine xg_t (xg_iload (va := (0, ca)) rfl rfl) ?_
      refine xg_t (xg_const) ?_
      refine xg_t (xg_aload (va := (2, 82)) rfl rfl) ?_
      refine xg_t (xg_getf (va := (2, 83)) h82_31 rfl) ?_
      refine xg_t (xg_bip) ?_
      refine xg_ialdB (n := 6) (B := 4294967295) hr83 (hgb) xnm0 (by first | decide | omega) (fun u39 hu40 he41 => ?_)
      have hl42 : u39 ≤ 6 := by rw [← he41]; exact hok.l6
      refine xg_t (xg_const) ?_
      by_cases hc43 : 1 ≤ u39
      · refine xg_t (xg_isub (u := u39) (v := 1) (z := u39 - 1) xnm0 xnm0 (by omega)) ?_
        refine xg_t (xg_cSr mX12_isIn (vs := [(0, ca), (0, 0), (0, u39 - 1)]) (rest := []) (rs := [(0, if 0 ≤ ca ∧ ca ≤ u39 - 1 then 1 else 0)]) (cn1 := 0) (sl1 := 0) rfl (mIsIn (by omega) (by omega) (by omega)) rfl rfl rfl rfl rfl rfl rfl rfl) ?_
        by_cases hc44 : 0 ≤ ca ∧ ca ≤ u39 - 1
        · refine xg_t (xg_ifF (u := (if 0 ≤ ca ∧ ca ≤ u39 - 1 then 1 else 0)) rfl xnm0 (xj_eqF (xite1 hc44))) ?_
          refine xg_t (xg_const) ?_
          refine xg_t (xg_goto) ?_
          refine xg_t (xg_blq rfl) ?_
          exact xg_e ⟨1, w, ⟨rfl, rfl⟩, by first | decide | omega, hI, xFr.rf⟩
        · refine xg_t (xg_ifT (u := (if 0 ≤ ca ∧ ca ≤ u39 - 1 then 1 else 0)) rfl xnm0 (xj_eqT (xite0 hc44))) ?_
          refine xg_t (xg_blq rfl) ?_
          refine xg_t (xg_const) ?_
          refine xg_t (xg_blq rfl) ?_
          exact xg_e ⟨0, w, ⟨rfl, rfl⟩, by first | decide | omega, hI, xFr.rf⟩
      · have hz47 : 4294967295 ≤ (u39 + (4294967296 - 1)) % 4294967296 := by omega
        refine xg_t (xg_isub (u := u39) (v := 1) (z := (u39 + (4294967296 - 1)) % 4294967296) xnm0 xnm0 rfl) ?_
        have hz46 : (u39 + (4294967296 - 1)) % 4294967296 < 4294967296 := Nat.mod_lt _ (by decide)
        generalize (u39 + (4294967296 - 1)) % 4294967296 = z45 at hz47 hz46 ⊢
        refine xg_t (xg_cSr mX12_isIn (vs := [(0, ca), (0, 0), (0, z45)]) (rest := []) (rs := [(0, 0)]) (cn1 := 0) (sl1 := 0) rfl (mIsInN (by omega) (by omega) (by omega) (by omega)) rfl rfl rfl rfl rfl rfl rfl rfl) ?_
        refine xg_t (xg_ifT (u := 0) rfl xnm0 (by decide)) ?_
        refine xg_t (xg_blq rfl) ?_
        refine xg_t (xg_const) ?_
        refine xg_t (xg_blq rfl) ?_
        exact xg_e ⟨0, w, ⟨rfl, rfl⟩, by first | decide | omega, hI, xFr.rf⟩
    · refine xg_t (xg_ifT (u := (if 0 ≤ ra ∧ ra ≤ u33 - 1 then 1 else 0)) rfl xnm0 (xj_eqT (xite0 hc38))) ?_
      refine xg_t (xg_blq rfl) ?_
      refine xg_t (xg_const) ?_
      refine xg_t (xg_blq rfl) ?_
      exact xg_e ⟨0, w, ⟨rfl, rfl⟩, by first | decide | omega, hI, xFr.rf⟩
  · have hz50 : 4294967295 ≤ (u33 + (4294967296 - 1)) % 4294967296 := by omega
    refine xg_t (xg_isub (u := u33) (v := 1) (z := (u33 + (4294967296 - 1)) % 4294967296) xnm0 xnm0 rfl) ?_
    have hz49 : (u33 + (4294967296 - 1)) % 4294967296 < 4294967296 := Nat.mod_lt _ (by decide)
    generalize (u33 + (4294967296 - 1)) % 4294967296 = z48 at hz50 hz49 ⊢
    refine xg_t (xg_cSr mX12_isIn (vs := [(0, ra), (0, 0), (0, z48)]) (rest := []) (rs := [(0, 0)]) (cn1 := 0) (sl1 := 0) rfl (mIsInN (by omega) (by omega) (by omega) (by omega)) rfl rfl rfl rfl rfl rfl rfl rfl) ?_
    refine xg_t (xg_ifT (u := 0) rfl xnm0 (by decide)) ?_
    refine xg_t (xg_blq rfl) ?_
    refine xg_t (xg_const) ?_
    refine xg_t (xg_blq rfl) ?_
    exact xg_e ⟨0, w, ⟨rfl, rfl⟩, by first | decide | omega, hI, xFr.rf⟩
theorem mThere {g0 : Nat → Nat} {la ra ca : Nat} (hI : xMnv w) (hla : la ≤ 1) (hra : ra ≤ 4294967295) (hca : ca ≤ 4294967295) (hr83 : xRow w 83 5360 50 g0) (hgb : ∀ j, g0 j ≤ 4294967295) (hok : okA g0) : xPi (d + 1) mX12_isThere [(2, 82), (0, la), (0, ra), (0, ca)] w bd fc rr (fun n w' => (n ≤ 1 ∧ (n = 1 → ra ≤ 5 ∧ ca ≤ 5 ∧ (la = 0 → ca ≤ 4) ∧ (la = 1 → ra ≤ 4))) ∧ xMnv w' ∧ xFr [] w w') := by
  refine xPi.of ?_
  show xTo (d + 1) mX12_isThere (0, [], [(0, (2, 82)), (1, (0, la)), (2, (0, ra)), (3, (0, ca))], [], (w, bd, fc, 0, 0, rr)) (fun φ => ∃ n w', xEnd 4 [(0, n)] (w', bd, fc, 0, 0, rr) φ ∧ (n ≤ 1 ∧ (n = 1 → ra ≤ 5 ∧ ca ≤ 5 ∧ (la = 0 → ca ≤ 4) ∧ (la = 1 → ra ≤ 4))) ∧ xMnv w' ∧ xFr [] w w')
  refine xoCh82 (xqc82 hI : cp82 (wget w 82)) (fun f82_1 f82_3 f82_5 f82_7 f82_9 f82_11 f82_13 f82_15 f82_17 f82_19 f82_21 f82_22 f82_23 f82_25 f82_27 f82_29 h82_31 hb2 hb4 hb6 hb8 hb10 hb12 hb14 hb16 hb18 hb20 hb24 hb26 hb28 hb30 hb32 => ?_)
  refine xg_t (xg_blq rfl) ?_
  refine xg_t (xg_iload (va := (0, ra)) rfl rfl) ?_
  refine xg_t (xg_const) ?_
  refine xg_t (xg_aload (va := (2, 82)) rfl rfl) ?_
  refine xg_t (xg_getf (va := (2, 83)) h82_31 rfl) ?_
  refine xg_t (xg_const) ?_
  refine xg_ialdB (n := 5) (B := 4294967295) hr83 (hgb) xnm0 (by first | decide | omega) (fun u33 hu34 he35 => ?_)
  have hl36 : u33 ≤ 6 := by rw [← he35]; exact hok.l5
  refine xg_t (xg_iload (va := (0, la)) rfl rfl) ?_
  by_cases hc37 : la = 0
  · refine xg_t (xg_ifT (u := la) rfl xnm0 (xj_eqT hc37)) ?_
    refine xg_t (xg_blq rfl) ?_
    refine xg_t (xg_const) ?_
    refine xg_t (xg_blq rfl) ?_
    by_cases hc38 : 1 ≤ u33
    · refine xg_t (xg_isub (u := u33) (v := 1) (z := u33 - 1) xnm0 xnm0 (by omega)) ?_
      refine xg_t (xg_cSr mX12_isIn (vs := [(0, ra), (0, 0), (0, u33 - 1)]) (rest := []) (rs := [(0, if 0 ≤ ra ∧ ra ≤ u33 - 1 then 1 else 0)]) (cn1 := 0) (sl1 := 0) rfl (mIsIn (by omega) (by omega) (by omega)) rfl rfl rfl rfl rfl rfl rfl rfl) ?_
      by_cases hc39 : 0 ≤ ra ∧ ra ≤ u33 - 1
      · refine xg_t (xg_ifF (u := (if 0 ≤ ra ∧ ra ≤ u33 - 1 then 1 else 0)) rfl xnm0 (xj_eqF (xite1 hc39))) ?_
        refine xg_t (xg_iload (va := (0, ca)) rfl rfl) ?_
        refine xg_t (xg_const) ?_
        refine xg_t (xg_aload (va := (2, 82)) rfl rfl) ?_
        refine xg_t (xg_getf (va := (2, 83)) h82_31 rfl) ?_
        refine xg_t (xg_bip) ?_
        refine xg_ialdB (n := 6) (B := 4294967295) hr83 (hgb) xnm0 (by first | decide | omega) (fun u40 hu41 he42 => ?_)
        have hl43 : u40 ≤ 6 := by rw [← he42]; exact hok.l6
        refine xg_t (xg_iload (va := (0, la)) rfl rfl) ?_
        by_cases hc44 : la = 0
        · refine xg_t (xg_ifT (u := la) rfl xnm0 (xj_eqT hc44)) ?_
          refine xg_t (xg_blq rfl) ?_
          refine xg_t (xg_const) ?_
          refine xg_t (xg_blq rfl) ?_
          by_cases hc45 : 2 ≤ u40
          · refine xg_t (xg_isub (u := u40) (v := 2) (z := u40 - 2) xnm0 xnm0 (by omega)) ?_
            refine xg_t (xg_cSr mX12_isIn (vs := [(0, ca), (0, 0), (0, u40 - 2)]) (rest := []) (rs := [(0, if 0 ≤ ca ∧ ca ≤ u40 - 2 then 1 else 0)]) (cn1 := 0) (sl1 := 0) rfl (mIsIn (by omega) (by omega) (by omega)) rfl rfl rfl rfl rfl rfl rfl rfl) ?_
            by_cases hc46 : 0 ≤ ca ∧ ca ≤ u40 - 2
            · refine xg_t (xg_ifF (u := (if 0 ≤ ca ∧ ca ≤ u40 - 2 then 1 else 0)) rfl xnm0 (xj_eqF (xite1 hc46))) ?_
              refine xg_t (xg_const) ?_
              refine xg_t (xg_goto) ?_
              refine xg_t (xg_blq rfl) ?_
              exact xg_e ⟨1, w, ⟨rfl, rfl⟩, by first | decide | omega, hI, xFr.rf⟩
            · refine xg_t (xg_ifT (u := (if 0 ≤ ca ∧ ca ≤ u40 - 2 then 1 else 0)) rfl xnm0 (xj_eqT (xite0 hc46))) ?_
              refine xg_t (xg_blq rfl) ?_
              refine xg_t (xg_const) ?_
              refine xg_t (xg_blq rfl) ?_
              exact xg_e ⟨0, w, ⟨rfl, rfl⟩, by first | decide | omega, hI, xFr.rf⟩
          · have hz49 : 4294967294 ≤ (u40 + (4294967296 - 2)) % 4294967296 := by omega
            refine xg_t (xg_isub (u := u40) (v := 2) (z := (u40 + (4294967296 - 2)) % 4294967296) xnm0 xnm0 rfl) ?_
            have hz48 : (u40 + (4294967296 - 2)) % 4294967296 < 4294967296 := Nat.mod_lt _ (by decide)
            generalize (u40 + (4294967296 - 2)) % 4294967296 = z47 at hz49 hz48 ⊢
            refine xg_t (xg_cSr mX12_isIn (vs := [(0, ca), (0, 0), (0, z47)]) (rest := []) (rs := [(0, 0)]) (cn1 := 0) (sl1 := 0) rfl (mIsInN (by omega) (by omega) (by omega) (by omega)) rfl rfl rfl rfl rfl rfl rfl rfl) ?_
            refine xg_t (xg_ifT (u := 0) rfl xnm0 (by decide)) ?_
            refine xg_t (xg_blq rfl) ?_
            refine xg_t (xg_const) ?_
            refine xg_t (xg_blq rfl) ?_
            exact xg_e ⟨0, w, ⟨rfl, rfl⟩, by first | decide | omega, hI, xFr.rf⟩
        · refine xg_t (xg_ifF (u := la) rfl xnm0 (xj_eqF hc44)) ?_
          refine xg_t (xg_const) ?_
          refine xg_t (xg_goto) ?_
          refine xg_t (xg_blq rfl) ?_
          by_cases hc50 : 1 ≤ u40
          · refine xg_t (xg_isub (u := u40) (v := 1) (z := u40 - 1) xnm0 xnm0 (by omega)) ?_
            refine xg_t (xg_cSr mX12_isIn (vs := [(0, ca), (0, 0), (0, u40 - 1)]) (rest := []) (rs := [(0, if 0 ≤ ca ∧ ca ≤ u40 - 1 then 1 else 0)]) (cn1 := 0) (sl1 := 0) rfl (mIsIn (by omega) (by omega) (by omega)) rfl rfl rfl rfl rfl rfl rfl rfl) ?_
            by_cases hc51 : 0 ≤ ca ∧ ca ≤ u40 - 1
            · refine xg_t (xg_ifF (u := (if 0 ≤ ca ∧ ca ≤ u40 - 1 then 1 else 0)) rfl xnm0 (xj_eqF (xite1 hc51))) ?_
              refine xg_t (xg_const) ?_
              refine xg_t (xg_goto) ?_
              refine xg_t (xg_blq rfl) ?_
              exact xg_e ⟨1, w, ⟨rfl, rfl⟩, by first | decide | omega, hI, xFr.rf⟩
            · refine xg_t (xg_ifT (u := (if 0 ≤ ca ∧ ca ≤ u40 - 1 then 1 else 0)) rfl xnm0 (xj_eqT (xite0 hc51))) ?_
              refine xg_t (xg_blq rfl) ?_
              refine xg_t (xg_const) ?_
              refine xg_t (xg_blq rfl) ?_
              exact xg_e ⟨0, w, ⟨rfl, rfl⟩, by first | decide | omega, hI, xFr.rf⟩
          · have hz54 : 4294967295 ≤ (u40 + (4294967296 - 1)) % 4294967296 := by omega
            refine xg_t (xg_isub (u := u40) (v := 1) (z := (u40 + (4294967296 - 1)) % 4294967296) xnm0 xnm0 rfl) ?_
            have hz53 : (u40 + (4294967296 - 1)) % 4294967296 < 4294967296 := Nat.mod_lt _ (by decide)
            generalize (u40 + (4294967296 - 1)) % 4294967296 = z52 at hz54 hz53 ⊢
            refine xg_t (xg_cSr mX12_isIn (vs := [(0, ca), (0, 0), (0, z52)]) (rest := []) (rs := [(0, 0)]) (cn1 := 0) (sl1 := 0) rfl (mIsInN (by omega) (by omega) (by omega) (by omega)) rfl rfl rfl rfl rfl rfl rfl rfl) ?_
            refine xg_t (xg_ifT (u := 0) rfl xnm0 (by decide)) ?_
            refine xg_t (xg_blq rfl) ?_
            refine xg_t (xg_const) ?_
            refine xg_t (xg_blq rfl) ?_
            exact xg_e ⟨0, w, ⟨rfl, rfl⟩, by first | decide | omega, hI, xFr.rf⟩
      · refine xg_t (xg_ifT (u := (if 0 ≤ ra ∧ ra ≤ u33 - 1 then 1 else 0)) rfl xnm0 (xj_eqT (xite0 hc39))) ?_
        refine xg_t (xg_blq rfl) ?_
        refine xg_t (xg_const) ?_
        refine xg_t (xg_blq rfl) ?_
        exact xg_e ⟨0, w, ⟨rfl, rfl⟩, by first | decide | omega, hI, xFr.rf⟩
    · have hz57 : 4294967295 ≤ (u33 + (4294967296 - 1)) % 4294967296 := by omega
      refine xg_t (xg_isub (u := u33) (v := 1) (z := (u33 + (4294967296 - 1)) % 4294967296) xnm0 xnm0 rfl) ?_
      have hz56 : (u33 + (4294967296 - 1)) % 4294967296 < 4294967296 := Nat.mod_lt _ (by decide)
      generalize (u33 + (4294967296 - 1)) % 4294967296 = z55 at hz57 hz56 ⊢
      refine xg_t (xg_cSr mX12_isIn (vs := [(0, ra), (0, 0), (0, z55)]) (rest := []) (rs := [(0, 0)]) (cn1 := 0) (sl1 := 0) rfl (mIsInN (by omega) (by omega) (by omega) (by omega)) rfl rfl rfl rfl rfl rfl rfl rfl) ?_
      refine xg_t (xg_ifT (u := 0) rfl xnm0 (by decide)) ?_
      refine xg_t (xg_blq rfl) ?_
      refine xg_t (xg_const) ?_
      refine xg_t (xg_blq rfl) ?_
      exact xg_e ⟨0, w, ⟨rfl, rfl⟩, by first | decide | omega, hI, xFr.rf⟩
  · refine xg_t (xg_ifF (u := la) rfl xnm0 (xj_eqF hc37)) ?_
    refine xg_t (xg_const) ?_
    refine xg_t (xg_goto) ?_
    refine xg_t (xg_blq rfl) ?_
    by_cases hc58 : 2 ≤ u33
    · refine xg_t (xg_isub (u := u33) (v := 2) (z := u33 - 2) xnm0 xnm0 (by omega)) ?_
      refine xg_t (xg_cSr mX12_isIn (vs := [(0, ra), (0, 0), (0, u33 - 2)]) (rest := []) (rs := [(0, if 0 ≤ ra ∧ ra ≤ u33 - 2 then 1 else 0)]) (cn1 := 0) (sl1 := 0) rfl (mIsIn (by omega) (by omega) (by omega)) rfl rfl rfl rfl rfl rfl rfl rfl) ?_
      by_cases hc59 : 0 ≤ ra ∧ ra ≤ u33 - 2
      · refine xg_t (xg_ifF (u := (if 0 ≤ ra ∧ ra ≤ u33 - 2 then 1 else 0)) rfl xnm0 (xj_eqF (xite1 hc59))) ?_
        refine xg_t (xg_iload (va := (0, ca)) rfl rfl) ?_
        refine xg_t (xg_const) ?_
        refine xg_t (xg_aload (va := (2, 82)) rfl rfl) ?_
        refine xg_t (xg_getf (va := (2, 83)) h82_31 rfl) ?_
        refine xg_t (xg_bip) ?_
        refine xg_ialdB (n := 6) (B := 4294967295) hr83 (hgb) xnm0 (by first | decide | omega) (fun u60 hu61 he62 => ?_)
        have hl63 : u60 ≤ 6 := by rw [← he62]; exact hok.l6
        refine xg_t (xg_iload (va := (0, la)) rfl rfl) ?_
        refine xg_t (xg_ifF (u := la) rfl xnm0 (xj_eqF (by omega))) ?_
        refine xg_t (xg_const) ?_
        refine xg_t (xg_goto) ?_
        refine xg_t (xg_blq rfl) ?_
        by_cases hc64 : 1 ≤ u60
        · refine xg_t (xg_isub (u := u60) (v := 1) (z := u60 - 1) xnm0 xnm0 (by omega)) ?_
          refine xg_t (xg_cSr mX12_isIn (vs := [(0, ca), (0, 0), (0, u60 - 1)]) (rest := []) (rs := [(0, if 0 ≤ ca ∧ ca ≤ u60 - 1 then 1 else 0)]) (cn1 := 0) (sl1 := 0) rfl (mIsIn (by omega) (by omega) (by omega)) rfl rfl rfl rfl rfl rfl rfl rfl) ?_
          by_cases hc65 : 0 ≤ ca ∧ ca ≤ u60 - 1
          · refine xg_t (xg_ifF (u := (if 0 ≤ ca ∧ ca ≤ u60 - 1 then 1 else 0)) rfl xnm0 (xj_eqF (xite1 hc65))) ?_
            refine xg_t (xg_const) ?_
            refine xg_t (xg_goto) ?_
            refine xg_t (xg_blq rfl) ?_
            exact xg_e ⟨1, w, ⟨rfl, rfl⟩, by first | decide | omega, hI, xFr.rf⟩
          · refine xg_t (xg_ifT (u := (if 0 ≤ ca ∧ ca ≤ u60 - 1 then 1 else 0)) rfl xnm0 (xj_eqT (xite0 hc65))) ?_
            refine xg_t (xg_blq rfl) ?_
            refine xg_t (xg_const) ?_
            refine xg_t (xg_blq rfl) ?_
            exact xg_e ⟨0, w, ⟨rfl, rfl⟩, by first | decide | omega, hI, xFr.rf⟩
        · have hz68 : 4294967295 ≤ (u60 + (4294967296 - 1)) % 4294967296 := by omega
          refine xg_t (xg_isub (u := u60) (v := 1) (z := (u60 + (4294967296 - 1)) % 4294967296) xnm0 xnm0 rfl) ?_
          have hz67 : (u60 + (4294967296 - 1)) % 4294967296 < 4294967296 := Nat.mod_lt _ (by decide)
          generalize (u60 + (4294967296 - 1)) % 4294967296 = z66 at hz68 hz67 ⊢
          refine xg_t (xg_cSr mX12_isIn (vs := [(0, ca), (0, 0), (0, z66)]) (rest := []) (rs := [(0, 0)]) (cn1 := 0) (sl1 := 0) rfl (mIsInN (by omega) (by omega) (by omega) (by omega)) rfl rfl rfl rfl rfl rfl rfl rfl) ?_
          refine xg_t (xg_ifT (u := 0) rfl xnm0 (by decide)) ?_
          refine xg_t (xg_blq rfl) ?_
          refine xg_t (xg_const) ?_
          refine xg_t (xg_blq rfl) ?_
          exact xg_e ⟨0, w, ⟨rfl, rfl⟩, by first | decide | omega, hI, xFr.rf⟩
      · refine xg_t (xg_ifT (u := (if 0 ≤ ra ∧ ra ≤ u33 - 2 then 1 else 0)) rfl xnm0 (xj_eqT (xite0 hc59))) ?_
        refine xg_t (xg_blq rfl) ?_
        refine xg_t (xg_const) ?_
        refine xg_t (xg_blq rfl) ?_
        exact xg_e ⟨0, w, ⟨rfl, rfl⟩, by first | decide | omega, hI, xFr.rf⟩
    · have hz71 : 4294967294 ≤ (u33 + (4294967296 - 2)) % 4294967296 := by omega
      refine xg_t (xg_isub (u := u33) (v := 2) (z := (u33 + (4294967296 - 2)) % 4294967296) xnm0 xnm0 rfl) ?_
      have hz70 : (u33 + (4294967296 - 2)) % 4294967296 < 4294967296 := Nat.mod_lt _ (by decide)
      generalize (u33 + (4294967296 - 2)) % 4294967296 = z69 at hz71 hz70 ⊢
      refine xg_t (xg_cSr mX12_isIn (vs := [(0, ra), (0, 0), (0, z69)]) (rest := []) (rs := [(0, 0)]) (cn1 := 0) (sl1 := 0) rfl (mIsInN (by omega) (by omega) (by omega) (by omega)) rfl rfl rfl rfl rfl rfl rfl rfl) ?_
      refine xg_t (xg_ifT (u := 0) rfl xnm0 (by decide)) ?_
      refine xg_t (xg_blq rfl) ?_
      refine xg_t (xg_const) ?_
      refine xg_t (xg_blq rfl) ?_
      exact xg_e ⟨0, w, ⟨rfl, rfl⟩, by first | decide | omega, hI, xFr.rf⟩
theorem mCracked {la ra ca un : Nat} (hI : xMnv w) (hla : la ≤ 1) (hra : ra ≤ 4294967295) (hca : ca ≤ 4294967295) (hun : un ≤ 4294967295) : xPi d mX12_isCracked [(2, 82), (0, la), (0, ra), (0, ca), (0, un)] w bd fc rr (fun n w' => (n ≤ 1) ∧ xMnv w' ∧ xFr [] w w') := by
  refine xPi.of ?_
  show xTo d mX12_isCracked (0, [], [(0, (2, 82)), (1, (0, la)), (2, (0, ra)), (3, (0, ca)), (4, (0, un))], [], (w, bd, fc, 0, 0, rr)) (fun φ => ∃ n w', xEnd 4 [(0, n)] (w', bd, fc, 0, 0, rr) φ ∧ (n ≤ 1) ∧ xMnv w' ∧ xFr [] w w')
  refine xoCh82 (xqc82 hI : cp82 (wget w 82)) (fun f82_1 f82_3 f82_5 f82_7 f82_9 f82_11 f82_13 f82_15 f82_17 f82_19 f82_21 f82_22 f82_23 f82_25 f82_27 f82_29 h82_31 hb2 hb4 hb6 hb8 hb10 hb12 hb14 hb16 hb18 hb20 hb24 hb26 hb28 hb30 hb32 => ?_)
  refine xoX83 (xqc83 hI : cpx83 (wget w 83)) (fun g83_33 h83_34 hb35 hx36 => ?_)
  refine xg_t (xg_blq rfl) ?_
  refine xg_t (xg_const) ?_
  refine xg_t (xg_istore (l1 := [(0, (2, 82)), (1, (0, la)), (2, (0, ra)), (3, (0, ca)), (4, (0, un))]) rfl rfl rfl) ?_
  refine xg_t (xg_const) ?_
  refine xg_t (xg_istore (l1 := [(5, (0, 0)), (0, (2, 82)), (1, (0, la)), (2, (0, ra)), (3, (0, ca)), (4, (0, un))]) rfl rfl rfl) ?_
  refine xg_t (xg_drop (l1 := [(0, (2, 82)), (1, (0, la)), (2, (0, ra)), (3, (0, ca)), (4, (0, un)), (5, (0, 0)), (6, (0, 0))]) (List.forall_mem_cons.mpr ⟨List.mem_cons_of_mem _ (List.mem_cons_of_mem _ (List.mem_cons_self)), List.forall_mem_cons.mpr ⟨List.mem_cons_of_mem _ (List.mem_cons_of_mem _ (List.mem_cons_of_mem _ (List.mem_cons_self))), List.forall_mem_cons.mpr ⟨List.mem_cons_of_mem _ (List.mem_cons_of_mem _ (List.mem_cons_of_mem _ (List.mem_cons_of_mem _ (List.mem_cons_self)))), List.forall_mem_cons.mpr ⟨List.mem_cons_of_mem _ (List.mem_cons_of_mem _ (List.mem_cons_of_mem _ (List.mem_cons_of_mem _ (List.mem_cons_of_mem _ (List.mem_cons_self))))), List.forall_mem_cons.mpr ⟨List.mem_cons_of_mem _ (List.mem_cons_of_mem _ (List.mem_cons_of_mem _ (List.mem_cons_of_mem _ (List.mem_cons_of_mem _ (List.mem_cons_of_mem _ (List.mem_cons_self)))))), List.forall_mem_cons.mpr ⟨List.mem_cons_of_mem _ (List.mem_cons_self), List.forall_mem_cons.mpr ⟨List.mem_cons_self, fun _ h => absurd h List.not_mem_nil⟩⟩⟩⟩⟩⟩⟩)) ?_
  have key37 : ∀ (m39 : Nat) (is_ ki : Nat) (w40 : List (List xE)), 40 - ki < m39 → is_ ≤ 1 → ki ≤ 40 → xMnv w40 → xFr [] w w40 → xTo d mX12_isCracked (6, [], [(0, (2, 82)), (1, (0, la)), (2, (0, ra)), (3, (0, ca)), (4, (0, un)), (5, (0, is_)), (6, (0, ki))], [], (w40, bd, fc, 0, 0, rr)) (fun φ => ∃ n w', xEnd 4 [(0, n)] (w', bd, fc, 0, 0, rr) φ ∧ (n ≤ 1) ∧ xMnv w' ∧ xFr [] w w') := by
    intro m39
    induction m39 with
    | zero => intro is_ ki w40 hz; exact absurd hz (Nat.not_lt_zero _)
    | succ m39 ih38 =>
      intro is_ ki w40 hm45 hn43 hn44 hI41 hF42
      refine xg_t (xg_blq rfl) ?_
      refine xg_t (xg_iload (va := (0, ki)) rfl rfl) ?_
      refine xg_t (xg_aload (va := (2, 82)) rfl rfl) ?_
      refine xg_t (xg_getf (va := (2, 83)) (hF42.get (by decide) h82_31) rfl) ?_
      refine xg_t (xg_bip) ?_
      refine xg_ialdB (n := 9) (B := 4294967295) (h83_34.fr hF42 (by decide)) (hb35) xnm0 (by first | decide | omega) (fun u46 hu47 he48 => ?_)
      have hl49 : u46 ≤ 40 := by rw [← he48]; exact hx36.l9
      by_cases hc50 : ki < u46
      · refine xg_t (xg_icF (u := ki) (v := u46) rfl xnm0 xnm0 (xj_geF hc50 (by omega))) ?_
        refine xg_t (xg_iload (va := (0, is_)) rfl rfl) ?_
        by_cases hc51 : is_ = 0
        · refine xg_t (xg_ifF (u := is_) rfl xnm0 (xj_neF hc51)) ?_
          refine xg_t (xg_sip) ?_
          refine xg_t (xg_const) ?_
          refine xg_t (xg_iload (va := (0, ki)) rfl rfl) ?_
          refine xg_t (xg_imul (u := 4) (v := ki) (z := 4 * ki) xnm0 xnm0 (by omega)) ?_
          refine xg_t (xg_iadd (u := 140) (v := 4 * ki) (z := 140 + (4 * ki)) xnm0 xnm0 (by omega)) ?_
          refine xg_t (xg_istore (l1 := [(0, (2, 82)), (1, (0, la)), (2, (0, ra)), (3, (0, ca)), (4, (0, un)), (5, (0, is_)), (6, (0, ki))]) rfl rfl rfl) ?_
          refine xg_t (xg_iload (va := (0, ki)) rfl rfl) ?_
          refine xg_t (xg_bip) ?_
          by_cases hc52 : ki < 10
          · refine xg_t (xg_icF (u := ki) (v := 10) rfl xnm0 xnm0 (xj_geF hc52 (by omega))) ?_
            refine xg_t (xg_aload (va := (2, 82)) rfl rfl) ?_
            refine xg_t (xg_getf (va := (0, f82_23)) (hF42.get (by decide) h82_31) rfl) ?_
            have hn53 : f82_23 ≤ 4294967295 := hb24
            refine xg_t (xg_iload (va := (0, ki)) rfl rfl) ?_
            refine xg_k (xg_ishrG (u := f82_23) (v := ki) xnm0 xnm0) (xpt_lt _) (fun z54 hz55 => ?_)
            refine xg_t (xg_const) ?_
            refine xg_k (xg_iand (z := Nat.land z54 1) (u := z54) (v := 1) xnm0 xnm0 rfl) (xland_lt (by omega)) (fun z56 hz57 => ?_)
            refine xg_t (xg_const) ?_
            by_cases hc58 : z56 = 1
            · refine xg_t (xg_icF (u := z56) (v := 1) rfl xnm0 xnm0 (xj_neF hc58)) ?_
              refine xg_t (xg_goto) ?_
              refine xg_t (xg_blq rfl) ?_
              refine xg_t (xg_iinc (u := ki) (z := ki + 1) (l1 := [(7, (0, 140 + (4 * ki))), (0, (2, 82)), (1, (0, la)), (2, (0, ra)), (3, (0, ca)), (4, (0, un)), (5, (0, is_))]) rfl rfl (by omega) rfl) ?_
              refine xg_t (xg_goto) ?_
              refine xg_t (xg_drop (l1 := [(0, (2, 82)), (1, (0, la)), (2, (0, ra)), (3, (0, ca)), (4, (0, un)), (5, (0, is_)), (6, (0, ki + 1))]) (List.forall_mem_cons.mpr ⟨List.mem_cons_of_mem _ (List.mem_cons_of_mem _ (List.mem_cons_self)), List.forall_mem_cons.mpr ⟨List.mem_cons_of_mem _ (List.mem_cons_of_mem _ (List.mem_cons_of_mem _ (List.mem_cons_self))), List.forall_mem_cons.mpr ⟨List.mem_cons_of_mem _ (List.mem_cons_of_mem _ (List.mem_cons_of_mem _ (List.mem_cons_of_mem _ (List.mem_cons_self)))), List.forall_mem_cons.mpr ⟨List.mem_cons_of_mem _ (List.mem_cons_of_mem _ (List.mem_cons_of_mem _ (List.mem_cons_of_mem _ (List.mem_cons_of_mem _ (List.mem_cons_self))))), List.forall_mem_cons.mpr ⟨List.mem_cons_of_mem _ (List.mem_cons_of_mem _ (List.mem_cons_of_mem _ (List.mem_cons_of_mem _ (List.mem_cons_of_mem _ (List.mem_cons_of_mem _ (List.mem_cons_self)))))), List.forall_mem_cons.mpr ⟨List.mem_cons_of_mem _ (List.mem_cons_of_mem _ (List.mem_cons_of_mem _ (List.mem_cons_of_mem _ (List.mem_cons_of_mem _ (List.mem_cons_of_mem _ (List.mem_cons_of_mem _ (List.mem_cons_self))))))), List.forall_mem_cons.mpr ⟨List.mem_cons_self, fun _ h => absurd h List.not_mem_nil⟩⟩⟩⟩⟩⟩⟩)) ?_
              exact ih38 is_ (ki + 1) w40 (by omega) (by omega) (by omega) (hI41) (hF42)
            · refine xg_t (xg_icT (u := z56) (v := 1) rfl xnm0 xnm0 (xj_neT hc58)) ?_
              refine xg_t (xg_blq rfl) ?_
              refine xg_t (xg_aload (va := (2, 82)) rfl rfl) ?_
              refine xg_t (xg_getf (va := (2, 83)) (hF42.get (by decide) h82_31) rfl) ?_
              refine xg_t (xg_iload (va := (0, 140 + (4 * ki))) rfl rfl) ?_
              refine xg_ialdB (n := 140 + (4 * ki)) (B := 4294967295) (h83_34.fr hF42 (by decide)) (hb35) xnm0 (by omega) (fun u59 hu60 he61 => ?_)
              refine xg_t (xg_iload (va := (0, la)) rfl rfl) ?_
              by_cases hc62 : la = 0
              · refine xg_t (xg_ifT (u := la) rfl xnm0 (xj_eqT hc62)) ?_
                refine xg_t (xg_blq rfl) ?_
                refine xg_t (xg_const) ?_
                refine xg_t (xg_blq rfl) ?_
                by_cases hc63 : u59 = 0
                · refine xg_t (xg_icF (u := u59) (v := 0) rfl xnm0 xnm0 (xj_neF hc63)) ?_
                  refine xg_t (xg_aload (va := (2, 82)) rfl rfl) ?_
                  refine xg_t (xg_getf (va := (2, 83)) (hF42.get (by decide) h82_31) rfl) ?_
                  refine xg_t (xg_iload (va := (0, 140 + (4 * ki))) rfl rfl) ?_
                  refine xg_t (xg_const) ?_
                  refine xg_t (xg_iadd (u := 140 + (4 * ki)) (v := 1) (z := (140 + (4 * ki)) + 1) xnm0 xnm0 (by omega)) ?_
                  refine xg_ialdB (n := (140 + (4 * ki)) + 1) (B := 4294967295) (h83_34.fr hF42 (by decide)) (hb35) xnm0 (by omega) (fun u64 hu65 he66 => ?_)
                  refine xg_t (xg_iload (va := (0, ra)) rfl rfl) ?_
                  by_cases hc67 : u64 = ra
                  · refine xg_t (xg_icF (u := u64) (v := ra) rfl xnm0 xnm0 (xj_neF hc67)) ?_
                    refine xg_t (xg_aload (va := (2, 82)) rfl rfl) ?_
                    refine xg_t (xg_getf (va := (2, 83)) (hF42.get (by decide) h82_31) rfl) ?_
                    refine xg_t (xg_iload (va := (0, 140 + (4 * ki))) rfl rfl) ?_
                    refine xg_t (xg_const) ?_
                    refine xg_t (xg_iadd (u := 140 + (4 * ki)) (v := 2) (z := (140 + (4 * ki)) + 2) xnm0 xnm0 (by omega)) ?_
                    refine xg_ialdB (n := (140 + (4 * ki)) + 2) (B := 4294967295) (h83_34.fr hF42 (by decide)) (hb35) xnm0 (by omega) (fun u68 hu69 he70 => ?_)
                    refine xg_t (xg_iload (va := (0, ca)) rfl rfl) ?_
                    by_cases hc71 : u68 = ca
                    · refine xg_t (xg_icF (u := u68) (v := ca) rfl xnm0 xnm0 (xj_neF hc71)) ?_
                      refine xg_t (xg_iload (va := (0, un)) rfl rfl) ?_
                      refine xg_t (xg_const) ?_
                      by_cases hc72 : un = 4294967295
                      · refine xg_t (xg_icT (u := un) (v := 4294967295) rfl xnm0 xnm0 (xj_eqT hc72)) ?_
                        refine xg_t (xg_blq rfl) ?_
                        refine xg_t (xg_const) ?_
                        refine xg_t (xg_goto) ?_
                        refine xg_t (xg_blq rfl) ?_
                        refine xg_t (xg_istore (l1 := [(7, (0, 140 + (4 * ki))), (0, (2, 82)), (1, (0, la)), (2, (0, ra)), (3, (0, ca)), (4, (0, un)), (6, (0, ki))]) rfl rfl rfl) ?_
                        refine xg_t (xg_blq rfl) ?_
                        refine xg_t (xg_iinc (u := ki) (z := ki + 1) (l1 := [(5, (0, 1)), (7, (0, 140 + (4 * ki))), (0, (2, 82)), (1, (0, la)), (2, (0, ra)), (3, (0, ca)), (4, (0, un))]) rfl rfl (by omega) rfl) ?_
                        refine xg_t (xg_goto) ?_
                        refine xg_t (xg_drop (l1 := [(0, (2, 82)), (1, (0, la)), (2, (0, ra)), (3, (0, ca)), (4, (0, un)), (5, (0, 1)), (6, (0, ki + 1))]) (List.forall_mem_cons.mpr ⟨List.mem_cons_of_mem _ (List.mem_cons_of_mem _ (List.mem_cons_of_mem _ (List.mem_cons_self))), List.forall_mem_cons.mpr ⟨List.mem_cons_of_mem _ (List.mem_cons_of_mem _ (List.mem_cons_of_mem _ (List.mem_cons_of_mem _ (List.mem_cons_self)))), List.forall_mem_cons.mpr ⟨List.mem_cons_of_mem _ (List.mem_cons_of_mem _ (List.mem_cons_of_mem _ (List.mem_cons_of_mem _ (List.mem_cons_of_mem _ (List.mem_cons_self))))), List.forall_mem_cons.mpr ⟨List.mem_cons_of_mem _ (List.mem_cons_of_mem _ (List.mem_cons_of_mem _ (List.mem_cons_of_mem _ (List.mem_cons_of_mem _ (List.mem_cons_of_mem _ (List.mem_cons_self)))))), List.forall_mem_cons.mpr ⟨List.mem_cons_of_mem _ (List.mem_cons_of_mem _ (List.mem_cons_of_mem _ (List.mem_cons_of_mem _ (List.mem_cons_of_mem _ (List.mem_cons_of_mem _ (List.mem_cons_of_mem _ (List.mem_cons_self))))))), List.forall_mem_cons.mpr ⟨List.mem_cons_of_mem _ (List.mem_cons_self), List.forall_mem_cons.mpr ⟨List.mem_cons_self, fun _ h => absurd h List.not_mem_nil⟩⟩⟩⟩⟩⟩⟩)) ?_
                        exact ih38 1 (ki + 1) w40 (by omega) (by omega) (by omega) (hI41) (hF42)
                      · refine xg_t (xg_icF (u := un) (v := 4294967295) rfl xnm0 xnm0 (xj_eqF hc72)) ?_
                        refine xg_t (xg_aload (va := (2, 82)) rfl rfl) ?_
                        refine xg_t (xg_getf (va := (2, 83)) (hF42.get (by decide) h82_31) rfl) ?_
                        refine xg_t (xg_iload (va := (0, 140 + (4 * ki))) rfl rfl) ?_
                        refine xg_t (xg_const) ?_
                        refine xg_t (xg_iadd (u := 140 + (4 * ki)) (v := 3) (z := (140 + (4 * ki)) + 3) xnm0 xnm0 (by omega)) ?_
                        refine xg_ialdB (n := (140 + (4 * ki)) + 3) (B := 4294967295) (h83_34.fr hF42 (by decide)) (hb35) xnm0 (by omega) (fun u73 hu74 he75 => ?_)
                        refine xg_t (xg_iload (va := (0, un)) rfl rfl) ?_
                        by_cases hc76 : xbs un < xbs u73
                        · have hc76u := hc76
                          unfold xbs at hc76u
                          refine xg_t (xg_icT (u := u73) (v := un) rfl xnm0 xnm0 (xjs_gtT hc76)) ?_
                          refine xg_t (xg_blq rfl) ?_
                          refine xg_t (xg_const) ?_
                          refine xg_t (xg_blq rfl) ?_
                          refine xg_t (xg_istore (l1 := [(7, (0, 140 + (4 * ki))), (0, (2, 82)), (1, (0, la)), (2, (0, ra)), (3, (0, ca)), (4, (0, un)), (6, (0, ki))]) rfl rfl rfl) ?_
                          refine xg_t (xg_blq rfl) ?_
                          refine xg_t (xg_iinc (u := ki) (z := ki + 1) (l1 := [(5, (0, 0)), (7, (0, 140 + (4 * ki))), (0, (2, 82)), (1, (0, la)), (2, (0, ra)), (3, (0, ca)), (4, (0, un))]) rfl rfl (by omega) rfl) ?_
                          refine xg_t (xg_goto) ?_
                          refine xg_t (xg_drop (l1 := [(0, (2, 82)), (1, (0, la)), (2, (0, ra)), (3, (0, ca)), (4, (0, un)), (5, (0, 0)), (6, (0, ki + 1))]) (List.forall_mem_cons.mpr ⟨List.mem_cons_of_mem _ (List.mem_cons_of_mem _ (List.mem_cons_of_mem _ (List.mem_cons_self))), List.forall_mem_cons.mpr ⟨List.mem_cons_of_mem _ (List.mem_cons_of_mem _ (List.mem_cons_of_mem _ (List.mem_cons_of_mem _ (List.mem_cons_self)))), List.forall_mem_cons.mpr ⟨List.mem_cons_of_mem _ (List.mem_cons_of_mem _ (List.mem_cons_of_mem _ (List.mem_cons_of_mem _ (List.mem_cons_of_mem _ (List.mem_cons_self))))), List.forall_mem_cons.mpr ⟨List.mem_cons_of_mem _ (List.mem_cons_of_mem _ (List.mem_cons_of_mem _ (List.mem_cons_of_mem _ (List.mem_cons_of_mem _ (List.mem_cons_of_mem _ (List.mem_cons_self)))))), List.forall_mem_cons.mpr ⟨List.mem_cons_of_mem _ (List.mem_cons_of_mem _ (List.mem_cons_of_mem _ (List.mem_cons_of_mem _ (List.mem_cons_of_mem _ (List.mem_cons_of_mem _ (List.mem_cons_of_mem _ (List.mem_cons_self))))))), List.forall_mem_cons.mpr ⟨List.mem_cons_of_mem _ (List.mem_cons_self), List.forall_mem_cons.mpr ⟨List.mem_cons_self, fun _ h => absurd h List.not_mem_nil⟩⟩⟩⟩⟩⟩⟩)) ?_
                          exact ih38 0 (ki + 1) w40 (by omega) (by omega) (by omega) (hI41) (hF42)
                        · have hc76u := hc76
                          unfold xbs at hc76u
                          refine xg_t (xg_icF (u := u73) (v := un) rfl xnm0 xnm0 (xjs_gtF hc76)) ?_
                          refine xg_t (xg_blq rfl) ?_
                          refine xg_t (xg_const) ?_
                          refine xg_t (xg_goto) ?_
                          refine xg_t (xg_blq rfl) ?_
                          refine xg_t (xg_istore (l1 := [(7, (0, 140 + (4 * ki))), (0, (2, 82)), (1, (0, la)), (2, (0, ra)), (3, (0, ca)), (4, (0, un)), (6, (0, ki))]) rfl rfl rfl) ?_
                          refine xg_t (xg_blq rfl) ?_
                          refine xg_t (xg_iinc (u := ki) (z := ki + 1) (l1 := [(5, (0, 1)), (7, (0, 140 + (4 * ki))), (0, (2, 82)), (1, (0, la)), (2, (0, ra)), (3, (0, ca)), (4, (0, un))]) rfl rfl (by omega) rfl) ?_
                          refine xg_t (xg_goto) ?_
                          refine xg_t (xg_drop (l1 := [(0, (2, 82)), (1, (0, la)), (2, (0, ra)), (3, (0, ca)), (4, (0, un)), (5, (0, 1)), (6, (0, ki + 1))]) (List.forall_mem_cons.mpr ⟨List.mem_cons_of_mem _ (List.mem_cons_of_mem _ (List.mem_cons_of_mem _ (List.mem_cons_self))), List.forall_mem_cons.mpr ⟨List.mem_cons_of_mem _ (List.mem_cons_of_mem _ (List.mem_cons_of_mem _ (List.mem_cons_of_mem _ (List.mem_cons_self)))), List.forall_mem_cons.mpr ⟨List.mem_cons_of_mem _ (List.mem_cons_of_mem _ (List.mem_cons_of_mem _ (List.mem_cons_of_mem _ (List.mem_cons_of_mem _ (List.mem_cons_self))))), List.forall_mem_cons.mpr ⟨List.mem_cons_of_mem _ (List.mem_cons_of_mem _ (List.mem_cons_of_mem _ (List.mem_cons_of_mem _ (List.mem_cons_of_mem _ (List.mem_cons_of_mem _ (List.mem_cons_self)))))), List.forall_mem_cons.mpr ⟨List.mem_cons_of_mem _ (List.mem_cons_of_mem _ (List.mem_cons_of_mem _ (List.mem_cons_of_mem _ (List.mem_cons_of_mem _ (List.mem_cons_of_mem _ (List.mem_cons_of_mem _ (List.mem_cons_self))))))), List.forall_mem_cons.mpr ⟨List.mem_cons_of_mem _ (List.mem_cons_self), List.forall_mem_cons.mpr ⟨List.mem_cons_self, fun _ h => absurd h List.not_mem_nil⟩⟩⟩⟩⟩⟩⟩)) ?_
                          exact ih38 1 (ki + 1) w40 (by omega) (by omega) (by omega) (hI41) (hF42)
                    · refine xg_t (xg_icT (u := u68) (v := ca) rfl xnm0 xnm0 (xj_neT hc71)) ?_
                      refine xg_t (xg_blq rfl) ?_
                      refine xg_t (xg_const) ?_
                      refine xg_t (xg_blq rfl) ?_
                      refine xg_t (xg_istore (l1 := [(7, (0, 140 + (4 * ki))), (0, (2, 82)), (1, (0, la)), (2, (0, ra)), (3, (0, ca)), (4, (0, un)), (6, (0, ki))]) rfl rfl rfl) ?_
                      refine xg_t (xg_blq rfl) ?_
                      refine xg_t (xg_iinc (u := ki) (z := ki + 1) (l1 := [(5, (0, 0)), (7, (0, 140 + (4 * ki))), (0, (2, 82)), (1, (0, la)), (2, (0, ra)), (3, (0, ca)), (4, (0, un))]) rfl rfl (by omega) rfl) ?_
                      refine xg_t (xg_goto) ?_
                      refine xg_t (xg_drop (l1 := [(0, (2, 82)), (1, (0, la)), (2, (0, ra)), (3, (0, ca)), (4, (0, un)), (5, (0, 0)), (6, (0, ki + 1))]) (List.forall_mem_cons.mpr ⟨List.mem_cons_of_mem _ (List.mem_cons_of_mem _ (List.mem_cons_of_mem _ (List.mem_cons_self))), List.forall_mem_cons.mpr ⟨List.mem_cons_of_mem _ (List.mem_cons_of_mem _ (List.mem_cons_of_mem _ (List.mem_cons_of_mem _ (List.mem_cons_self)))), List.forall_mem_cons.mpr ⟨List.mem_cons_of_mem _ (List.mem_cons_of_mem _ (List.mem_cons_of_mem _ (List.mem_cons_of_mem _ (List.mem_cons_of_mem _ (List.mem_cons_self))))), List.forall_mem_cons.mpr ⟨List.mem_cons_of_mem _ (List.mem_cons_of_mem _ (List.mem_cons_of_mem _ (List.mem_cons_of_mem _ (List.mem_cons_of_mem _ (List.mem_cons_of_mem _ (List.mem_cons_self)))))), List.forall_mem_cons.mpr ⟨List.mem_cons_of_mem _ (List.mem_cons_of_mem _ (List.mem_cons_of_mem _ (List.mem_cons_of_mem _ (List.mem_cons_of_mem _ (List.mem_cons_of_mem _ (List.mem_cons_of_mem _ (List.mem_cons_self))))))), List.forall_mem_cons.mpr ⟨List.mem_cons_of_mem _ (List.mem_cons_self), List.forall_mem_cons.mpr ⟨List.mem_cons_self, fun _ h => absurd h List.not_mem_nil⟩⟩⟩⟩⟩⟩⟩)) ?_
                      exact ih38 0 (ki + 1) w40 (by omega) (by omega) (by omega) (hI41) (hF42)
                  · refine xg_t (xg_icT (u := u64) (v := ra) rfl xnm0 xnm0 (xj_neT hc67)) ?_
                    refine xg_t (xg_blq rfl) ?_
                    refine xg_t (xg_const) ?_
                    refine xg_t (xg_blq rfl) ?_
                    refine xg_t (xg_istore (l1 := [(7, (0, 140 + (4 * ki))), (0, (2, 82)), (1, (0, la)), (2, (0, ra)), (3, (0, ca)), (4, (0, un)), (6, (0, ki))]) rfl rfl rfl) ?_
                    refine xg_t (xg_blq rfl) ?_
                    refine xg_t (xg_iinc (u := ki) (z := ki + 1) (l1 := [(5, (0, 0)), (7, (0, 140 + (4 * ki))), (0, (2, 82)), (1, (0, la)), (2, (0, ra)), (3, (0, ca)), (4, (0, un))]) rfl rfl (by omega) rfl) ?_
                    refine xg_t (xg_goto) ?_
                    refine xg_t (xg_drop (l1 := [(0, (2, 82)), (1, (0, la)), (2, (0, ra)), (3, (0, ca)), (4, (0, un)), (5, (0, 0)), (6, (0, ki + 1))]) (List.forall_mem_cons.mpr ⟨List.mem_cons_of_mem _ (List.mem_cons_of_mem _ (List.mem_cons_of_mem _ (List.mem_cons_self))), List.forall_mem_cons.mpr ⟨List.mem_cons_of_mem _ (List.mem_cons_of_mem _ (List.mem_cons_of_mem _ (List.mem_cons_of_mem _ (List.mem_cons_self)))), List.forall_mem_cons.mpr ⟨List.mem_cons_of_mem _ (List.mem_cons_of_mem _ (List.mem_cons_of_mem _ (List.mem_cons_of_mem _ (List.mem_cons_of_mem _ (List.mem_cons_self))))), List.forall_mem_cons.mpr ⟨List.mem_cons_of_mem _ (List.mem_cons_of_mem _ (List.mem_cons_of_mem _ (List.mem_cons_of_mem _ (List.mem_cons_of_mem _ (List.mem_cons_of_mem _ (List.mem_cons_self)))))), List.forall_mem_cons.mpr ⟨List.mem_cons_of_mem _ (List.mem_cons_of_mem _ (List.mem_cons_of_mem _ (List.mem_cons_of_mem _ (List.mem_cons_of_mem _ (List.mem_cons_of_mem _ (List.mem_cons_of_mem _ (List.mem_cons_self))))))), List.forall_mem_cons.mpr ⟨List.mem_cons_of_mem _ (List.mem_cons_self), List.forall_mem_cons.mpr ⟨List.mem_cons_self, fun _ h => absurd h List.not_mem_nil⟩⟩⟩⟩⟩⟩⟩)) ?_
                    exact ih38 0 (ki + 1) w40 (by omega) (by omega) (by omega) (hI41) (hF42)
                · refine xg_t (xg_icT (u := u59) (v := 0) rfl xnm0 xnm0 (xj_neT hc63)) ?_
                  refine xg_t (xg_blq rfl) ?_
                  refine xg_t (xg_const) ?_
                  refine xg_t (xg_blq rfl) ?_
                  refine xg_t (xg_istore (l1 := [(7, (0, 140 + (4 * ki))), (0, (2, 82)), (1, (0, la)), (2, (0, ra)), (3, (0, ca)), (4, (0, un)), (6, (0, ki))]) rfl rfl rfl) ?_
                  refine xg_t (xg_blq rfl) ?_
                  refine xg_t (xg_iinc (u := ki) (z := ki + 1) (l1 := [(5, (0, 0)), (7, (0, 140 + (4 * ki))), (0, (2, 82)), (1, (0, la)), (2, (0, ra)), (3, (0, ca)), (4, (0, un))]) rfl rfl (by omega) rfl) ?_
                  refine xg_t (xg_goto) ?_
                  refine xg_t (xg_drop (l1 := [(0, (2, 82)), (1, (0, la)), (2, (0, ra)), (3, (0, ca)), (4, (0, un)), (5, (0, 0)), (6, (0, ki + 1))]) (List.forall_mem_cons.mpr ⟨List.mem_cons_of_mem _ (List.mem_cons_of_mem _ (List.mem_cons_of_mem _ (List.mem_cons_self))), List.forall_mem_cons.mpr ⟨List.mem_cons_of_mem _ (List.mem_cons_of_mem _ (List.mem_cons_of_mem _ (List.mem_cons_of_mem _ (List.mem_cons_self)))), List.forall_mem_cons.mpr ⟨List.mem_cons_of_mem _ (List.mem_cons_of_mem _ (List.mem_cons_of_mem _ (List.mem_cons_of_mem _ (List.mem_cons_of_mem _ (List.mem_cons_self))))), List.forall_mem_cons.mpr ⟨List.mem_cons_of_mem _ (List.mem_cons_of_mem _ (List.mem_cons_of_mem _ (List.mem_cons_of_mem _ (List.mem_cons_of_mem _ (List.mem_cons_of_mem _ (List.mem_cons_self)))))), List.forall_mem_cons.mpr ⟨List.mem_cons_of_mem _ (List.mem_cons_of_mem _ (List.mem_cons_of_mem _ (List.mem_cons_of_mem _ (List.mem_cons_of_mem _ (List.mem_cons_of_mem _ (List.mem_cons_of_mem _ (List.mem_cons_self))))))), List.forall_mem_cons.mpr ⟨List.mem_cons_of_mem _ (List.mem_cons_self), List.forall_mem_cons.mpr ⟨List.mem_cons_self, fun _ h => absurd h List.not_mem_nil⟩⟩⟩⟩⟩⟩⟩)) ?_
                  exact ih38 0 (ki + 1) w40 (by omega) (by omega) (by omega) (hI41) (hF42)
              · refine xg_t (xg_ifF (u := la) rfl xnm0 (xj_eqF hc62)) ?_
                refine xg_t (xg_const) ?_
                refine xg_t (xg_goto) ?_
                refine xg_t (xg_blq rfl) ?_
                by_cases hc77 : u59 = 1
                · refine xg_t (xg_icF (u := u59) (v := 1) rfl xnm0 xnm0 (xj_neF hc77)) ?_
                  refine xg_t (xg_aload (va := (2, 82)) rfl rfl) ?_
                  refine xg_t (xg_getf (va := (2, 83)) (hF42.get (by decide) h82_31) rfl) ?_
                  refine xg_t (xg_iload (va := (0, 140 + (4 * ki))) rfl rfl) ?_
                  refine xg_t (xg_const) ?_
                  refine xg_t (xg_iadd (u := 140 + (4 * ki)) (v := 1) (z := (140 + (4 * ki)) + 1) xnm0 xnm0 (by omega)) ?_
                  refine xg_ialdB (n := (140 + (4 * ki)) + 1) (B := 4294967295) (h83_34.fr hF42 (by decide)) (hb35) xnm0 (by omega) (fun u78 hu79 he80 => ?_)
                  refine xg_t (xg_iload (va := (0, ra)) rfl rfl) ?_
                  by_cases hc81 : u78 = ra
                  · refine xg_t (xg_icF (u := u78) (v := ra) rfl xnm0 xnm0 (xj_neF hc81)) ?_
                    refine xg_t (xg_aload (va := (2, 82)) rfl rfl) ?_
                    refine xg_t (xg_getf (va := (2, 83)) (hF42.get (by decide) h82_31) rfl) ?_
                    refine xg_t (xg_iload (va := (0, 140 + (4 * ki))) rfl rfl) ?_
                    refine xg_t (xg_const) ?_
                    refine xg_t (xg_iadd (u := 140 + (4 * ki)) (v := 2) (z := (140 + (4 * ki)) + 2) xnm0 xnm0 (by omega)) ?_
                    refine xg_ialdB (n := (140 + (4 * ki)) + 2) (B := 4294967295) (h83_34.fr hF42 (by decide)) (hb35) xnm0 (by omega) (fun u82 hu83 he84 => ?_)
                    refine xg_t (xg_iload (va := (0, ca)) rfl rfl) ?_
                    by_cases hc85 : u82 = ca
                    · refine xg_t (xg_icF (u := u82) (v := ca) rfl xnm0 xnm0 (xj_neF hc85)) ?_
                      refine xg_t (xg_iload (va := (0, un)) rfl rfl) ?_
                      refine xg_t (xg_const) ?_
                      by_cases hc86 : un = 4294967295
                      · refine xg_t (xg_icT (u := un) (v := 4294967295) rfl xnm0 xnm0 (xj_eqT hc86)) ?_
                        refine xg_t (xg_blq rfl) ?_
                        refine xg_t (xg_const) ?_
                        refine xg_t (xg_goto) ?_
                        refine xg_t (xg_blq rfl) ?_
                        refine xg_t (xg_istore (l1 := [(7, (0, 140 + (4 * ki))), (0, (2, 82)), (1, (0, la)), (2, (0, ra)), (3, (0, ca)), (4, (0, un)), (6, (0, ki))]) rfl rfl rfl) ?_
                        refine xg_t (xg_blq rfl) ?_
                        refine xg_t (xg_iinc (u := ki) (z := ki + 1) (l1 := [(5, (0, 1)), (7, (0, 140 + (4 * ki))), (0, (2, 82)), (1, (0, la)), (2, (0, ra)), (3, (0, ca)), (4, (0, un))]) rfl rfl (by omega) rfl) ?_
                        refine xg_t (xg_goto) ?_
                        refine xg_t (xg_drop (l1 := [(0, (2, 82)), (1, (0, la)), (2, (0, ra)), (3, (0, ca)), (4, (0, un)), (5, (0, 1)), (6, (0, ki + 1))]) (List.forall_mem_cons.mpr ⟨List.mem_cons_of_mem _ (List.mem_cons_of_mem _ (List.mem_cons_of_mem _ (List.mem_cons_self))), List.forall_mem_cons.mpr ⟨List.mem_cons_of_mem _ (List.mem_cons_of_mem _ (List.mem_cons_of_mem _ (List.mem_cons_of_mem _ (List.mem_cons_self)))), List.forall_mem_cons.mpr ⟨List.mem_cons_of_mem _ (List.mem_cons_of_mem _ (List.mem_cons_of_mem _ (List.mem_cons_of_mem _ (List.mem_cons_of_mem _ (List.mem_cons_self))))), List.forall_mem_cons.mpr ⟨List.mem_cons_of_mem _ (List.mem_cons_of_mem _ (List.mem_cons_of_mem _ (List.mem_cons_of_mem _ (List.mem_cons_of_mem _ (List.mem_cons_of_mem _ (List.mem_cons_self)))))), List.forall_mem_cons.mpr ⟨List.mem_cons_of_mem _ (List.mem_cons_of_mem _ (List.mem_cons_of_mem _ (List.mem_cons_of_mem _ (List.mem_cons_of_mem _ (List.mem_cons_of_mem _ (List.mem_cons_of_mem _ (List.mem_cons_self))))))), List.forall_mem_cons.mpr ⟨List.mem_cons_of_mem _ (List.mem_cons_self), List.forall_mem_cons.mpr ⟨List.mem_cons_self, fun _ h => absurd h List.not_mem_nil⟩⟩⟩⟩⟩⟩⟩)) ?_
                        exact ih38 1 (ki + 1) w40 (by omega) (by omega) (by omega) (hI41) (hF42)
                      · refine xg_t (xg_icF (u := un) (v := 4294967295) rfl xnm0 xnm0 (xj_eqF hc86)) ?_
                        refine xg_t (xg_aload (va := (2, 82)) rfl rfl) ?_
                        refine xg_t (xg_getf (va := (2, 83)) (hF42.get (by decide) h82_31) rfl) ?_
                        refine xg_t (xg_iload (va := (0, 140 + (4 * ki))) rfl rfl) ?_
                        refine xg_t (xg_const) ?_
                        refine xg_t (xg_iadd (u := 140 + (4 * ki)) (v := 3) (z := (140 + (4 * ki)) + 3) xnm0 xnm0 (by omega)) ?_
                        refine xg_ialdB (n := (140 + (4 * ki)) + 3) (B := 4294967295) (h83_34.fr hF42 (by decide)) (hb35) xnm0 (by omega) (fun u87 hu88 he89 => ?_)
                        refine xg_t (xg_iload (va := (0, un)) rfl rfl) ?_
                        by_cases hc90 : xbs un < xbs u87
                        · have hc90u := hc90
                          unfold xbs at hc90u
                          refine xg_t (xg_icT (u := u87) (v := un) rfl xnm0 xnm0 (xjs_gtT hc90)) ?_
                          refine xg_t (xg_blq rfl) ?_
                          refine xg_t (xg_const) ?_
                          refine xg_t (xg_blq rfl) ?_
                          refine xg_t (xg_istore (l1 := [(7, (0, 140 + (4 * ki))), (0, (2, 82)), (1, (0, la)), (2, (0, ra)), (3, (0, ca)), (4, (0, un)), (6, (0, ki))]) rfl rfl rfl) ?_
                          refine xg_t (xg_blq rfl) ?_
                          refine xg_t (xg_iinc (u := ki) (z := ki + 1) (l1 := [(5, (0, 0)), (7, (0, 140 + (4 * ki))), (0, (2, 82)), (1, (0, la)), (2, (0, ra)), (3, (0, ca)), (4, (0, un))]) rfl rfl (by omega) rfl) ?_
                          refine xg_t (xg_goto) ?_
                          refine xg_t (xg_drop (l1 := [(0, (2, 82)), (1, (0, la)), (2, (0, ra)), (3, (0, ca)), (4, (0, un)), (5, (0, 0)), (6, (0, ki + 1))]) (List.forall_mem_cons.mpr ⟨List.mem_cons_of_mem _ (List.mem_cons_of_mem _ (List.mem_cons_of_mem _ (List.mem_cons_self))), List.forall_mem_cons.mpr ⟨List.mem_cons_of_mem _ (List.mem_cons_of_mem _ (List.mem_cons_of_mem _ (List.mem_cons_of_mem _ (List.mem_cons_self)))), List.forall_mem_cons.mpr ⟨List.mem_cons_of_mem _ (List.mem_cons_of_mem _ (List.mem_cons_of_mem _ (List.mem_cons_of_mem _ (List.mem_cons_of_mem _ (List.mem_cons_self))))), List.forall_mem_cons.mpr ⟨List.mem_cons_of_mem _ (List.mem_cons_of_mem _ (List.mem_cons_of_mem _ (List.mem_cons_of_mem _ (List.mem_cons_of_mem _ (List.mem_cons_of_mem _ (List.mem_cons_self)))))), List.forall_mem_cons.mpr ⟨List.mem_cons_of_mem _ (List.mem_cons_of_mem _ (List.mem_cons_of_mem _ (List.mem_cons_of_mem _ (List.mem_cons_of_mem _ (List.mem_cons_of_mem _ (List.mem_cons_of_mem _ (List.mem_cons_self))))))), List.forall_mem_cons.mpr ⟨List.mem_cons_of_mem _ (List.mem_cons_self), List.forall_mem_cons.mpr ⟨List.mem_cons_self, fun _ h => absurd h List.not_mem_nil⟩⟩⟩⟩⟩⟩⟩)) ?_
                          exact ih38 0 (ki + 1) w40 (by omega) (by omega) (by omega) (hI41) (hF42)
                        · have hc90u := hc90
                          unfold xbs at hc90u
                          refine xg_t (xg_icF (u := u87) (v := un) rfl xnm0 xnm0 (xjs_gtF hc90)) ?_
                          refine xg_t (xg_blq rfl) ?_
                          refine xg_t (xg_const) ?_
                          refine xg_t (xg_goto) ?_
                          refine xg_t (xg_blq rfl) ?_
                          refine xg_t (xg_istore (l1 := [(7, (0, 140 + (4 * ki))), (0, (2, 82)), (1, (0, la)), (2, (0, ra)), (3, (0, ca)), (4, (0, un)), (6, (0, ki))]) rfl rfl rfl) ?_
                          refine xg_t (xg_blq rfl) ?_
                          refine xg_t (xg_iinc (u := ki) (z := ki + 1) (l1 := [(5, (0, 1)), (7, (0, 140 + (4 * ki))), (0, (2, 82)), (1, (0, la)), (2, (0, ra)), (3, (0, ca)), (4, (0, un))]) rfl rfl (by omega) rfl) ?_
                          refine xg_t (xg_goto) ?_
                          refine xg_t (xg_drop (l1 := [(0, (2, 82)), (1, (0, la)), (2, (0, ra)), (3, (0, ca)), (4, (0, un)), (5, (0, 1)), (6, (0, ki + 1))]) (List.forall_mem_cons.mpr ⟨List.mem_cons_of_mem _ (List.mem_cons_of_mem _ (List.mem_cons_of_mem _ (List.mem_cons_self))), List.forall_mem_cons.mpr ⟨List.mem_cons_of_mem _ (List.mem_cons_of_mem _ (List.mem_cons_of_mem _ (List.mem_cons_of_mem _ (List.mem_cons_self)))), List.forall_mem_cons.mpr ⟨List.mem_cons_of_mem _ (List.mem_cons_of_mem _ (List.mem_cons_of_mem _ (List.mem_cons_of_mem _ (List.mem_cons_of_mem _ (List.mem_cons_self))))), List.forall_mem_cons.mpr ⟨List.mem_cons_of_mem _ (List.mem_cons_of_mem _ (List.mem_cons_of_mem _ (List.mem_cons_of_mem _ (List.mem_cons_of_mem _ (List.mem_cons_of_mem _ (List.mem_cons_self)))))), List.forall_mem_cons.mpr ⟨List.mem_cons_of_mem _ (List.mem_cons_of_mem _ (List.mem_cons_of_mem _ (List.mem_cons_of_mem _ (List.mem_cons_of_mem _ (List.mem_cons_of_mem _ (List.mem_cons_of_mem _ (List.mem_cons_self))))))), List.forall_mem_cons.mpr ⟨List.mem_cons_of_mem _ (List.mem_cons_self), List.forall_mem_cons.mpr ⟨List.mem_cons_self, fun _ h => absurd h List.not_mem_nil⟩⟩⟩⟩⟩⟩⟩)) ?_
                          exact ih38 1 (ki + 1) w40 (by omega) (by omega) (by omega) (hI41) (hF42)
                    · refine xg_t (xg_icT (u := u82) (v := ca) rfl xnm0 xnm0 (xj_neT hc85)) ?_
                      refine xg_t (xg_blq rfl) ?_
                      refine xg_t (xg_const) ?_
                      refine xg_t (xg_blq rfl) ?_
                      refine xg_t (xg_istore (l1 := [(7, (0, 140 + (4 * ki))), (0, (2, 82)), (1, (0, la)), (2, (0, ra)), (3, (0, ca)), (4, (0, un)), (6, (0, ki))]) rfl rfl rfl) ?_
                      refine xg_t (xg_blq rfl) ?_
                      refine xg_t (xg_iinc (u := ki) (z := ki + 1) (l1 := [(5, (0, 0)), (7, (0, 140 + (4 * ki))), (0, (2, 82)), (1, (0, la)), (2, (0, ra)), (3, (0, ca)), (4, (0, un))]) rfl rfl (by omega) rfl) ?_
                      refine xg_t (xg_goto) ?_
                      refine xg_t (xg_drop (l1 := [(0, (2, 82)), (1, (0, la)), (2, (0, ra)), (3, (0, ca)), (4, (0, un)), (5, (0, 0)), (6, (0, ki + 1))]) (List.forall_mem_cons.mpr ⟨List.mem_cons_of_mem _ (List.mem_cons_of_mem _ (List.mem_cons_of_mem _ (List.mem_cons_self))), List.forall_mem_cons.mpr ⟨List.mem_cons_of_mem _ (List.mem_cons_of_mem _ (List.mem_cons_of_mem _ (List.mem_cons_of_mem _ (List.mem_cons_self)))), List.forall_mem_cons.mpr ⟨List.mem_cons_of_mem _ (List.mem_cons_of_mem _ (List.mem_cons_of_mem _ (List.mem_cons_of_mem _ (List.mem_cons_of_mem _ (List.mem_cons_self))))), List.forall_mem_cons.mpr ⟨List.mem_cons_of_mem _ (List.mem_cons_of_mem _ (List.mem_cons_of_mem _ (List.mem_cons_of_mem _ (List.mem_cons_of_mem _ (List.mem_cons_of_mem _ (List.mem_cons_self)))))), List.forall_mem_cons.mpr ⟨List.mem_cons_of_mem _ (List.mem_cons_of_mem _ (List.mem_cons_of_mem _ (List.mem_cons_of_mem _ (List.mem_cons_of_mem _ (List.mem_cons_of_mem _ (List.mem_cons_of_mem _ (List.mem_cons_self))))))), List.forall_mem_cons.mpr ⟨List.mem_cons_of_mem _ (List.mem_cons_self), List.forall_mem_cons.mpr ⟨List.mem_cons_self, fun _ h => absurd h List.not_mem_nil⟩⟩⟩⟩⟩⟩⟩)) ?_
                      exact ih38 0 (ki + 1) w40 (by omega) (by omega) (by omega) (hI41) (hF42)
                  · refine xg_t (xg_icT (u := u78) (v := ra) rfl xnm0 xnm0 (xj_neT hc81)) ?_
                    refine xg_t (xg_blq rfl) ?_
                    refine xg_t (xg_const) ?_
                    refine xg_t (xg_blq rfl) ?_
                    refine xg_t (xg_istore (l1 := [(7, (0, 140 + (4 * ki))), (0, (2, 82)), (1, (0, la)), (2, (0, ra)), (3, (0, ca)), (4, (0, un)), (6, (0, ki))]) rfl rfl rfl) ?_
                    refine xg_t (xg_blq rfl) ?_
                    refine xg_t (xg_iinc (u := ki) (z := ki + 1) (l1 := [(5, (0, 0)), (7, (0, 140 + (4 * ki))), (0, (2, 82)), (1, (0, la)), (2, (0, ra)), (3, (0, ca)), (4, (0, un))]) rfl rfl (by omega) rfl) ?_
                    refine xg_t (xg_goto) ?_
                    refine xg_t (xg_drop (l1 := [(0, (2, 82)), (1, (0, la)), (2, (0, ra)), (3, (0, ca)), (4, (0, un)), (5, (0, 0)), (6, (0, ki + 1))]) (List.forall_mem_cons.mpr ⟨List.mem_cons_of_mem _ (List.mem_cons_of_mem _ (List.mem_cons_of_mem _ (List.mem_cons_self))), List.forall_mem_cons.mpr ⟨List.mem_cons_of_mem _ (List.mem_cons_of_mem _ (List.mem_cons_of_mem _ (List.mem_cons_of_mem _ (List.mem_cons_self)))), List.forall_mem_cons.mpr ⟨List.mem_cons_of_mem _ (List.mem_cons_of_mem _ (List.mem_cons_of_mem _ (List.mem_cons_of_mem _ (List.mem_cons_of_mem _ (List.mem_cons_self))))), List.forall_mem_cons.mpr ⟨List.mem_cons_of_mem _ (List.mem_cons_of_mem _ (List.mem_cons_of_mem _ (List.mem_cons_of_mem _ (List.mem_cons_of_mem _ (List.mem_cons_of_mem _ (List.mem_cons_self)))))), List.forall_mem_cons.mpr ⟨List.mem_cons_of_mem _ (List.mem_cons_of_mem _ (List.mem_cons_of_mem _ (List.mem_cons_of_mem _ (List.mem_cons_of_mem _ (List.mem_cons_of_mem _ (List.mem_cons_of_mem _ (List.mem_cons_self))))))), List.forall_mem_cons.mpr ⟨List.mem_cons_of_mem _ (List.mem_cons_self), List.forall_mem_cons.mpr ⟨List.mem_cons_self, fun _ h => absurd h List.not_mem_nil⟩⟩⟩⟩⟩⟩⟩)) ?_
                    exact ih38 0 (ki + 1) w40 (by omega) (by omega) (by omega) (hI41) (hF42)
                · refine xg_t (xg_icT (u := u59) (v := 1) rfl xnm0 xnm0 (xj_neT hc77)) ?_
                  refine xg_t (xg_blq rfl) ?_
                  refine xg_t (xg_const) ?_
                  refine xg_t (xg_blq rfl) ?_
                  refine xg_t (xg_istore (l1 := [(7, (0, 140 + (4 * ki))), (0, (2, 82)), (1, (0, la)), (2, (0, ra)), (3, (0, ca)), (4, (0, un)), (6, (0, ki))]) rfl rfl rfl) ?_
                  refine xg_t (xg_blq rfl) ?_
                  refine xg_t (xg_iinc (u := ki) (z := ki + 1) (l1 := [(5, (0, 0)), (7, (0, 140 + (4 * ki))), (0, (2, 82)), (1, (0, la)), (2, (0, ra)), (3, (0, ca)), (4, (0, un))]) rfl rfl (by omega) rfl) ?_
                  refine xg_t (xg_goto) ?_
                  refine xg_t (xg_drop (l1 := [(0, (2, 82)), (1, (0, la)), (2, (0, ra)), (3, (0, ca)), (4, (0, un)), (5, (0, 0)), (6, (0, ki + 1))]) (List.forall_mem_cons.mpr ⟨List.mem_cons_of_mem _ (List.mem_cons_of_mem _ (List.mem_cons_of_mem _ (List.mem_cons_self))), List.forall_mem_cons.mpr ⟨List.mem_cons_of_mem _ (List.mem_cons_of_mem _ (List.mem_cons_of_mem _ (List.mem_cons_of_mem _ (List.mem_cons_self)))), List.forall_mem_cons.mpr ⟨List.mem_cons_of_mem _ (List.mem_cons_of_mem _ (List.mem_cons_of_mem _ (List.mem_cons_of_mem _ (List.mem_cons_of_mem _ (List.mem_cons_self))))), List.forall_mem_cons.mpr ⟨List.mem_cons_of_mem _ (List.mem_cons_of_mem _ (List.mem_cons_of_mem _ (List.mem_cons_of_mem _ (List.mem_cons_of_mem _ (List.mem_cons_of_mem _ (List.mem_cons_self)))))), List.forall_mem_cons.mpr ⟨List.mem_cons_of_mem _ (List.mem_cons_of_mem _ (List.mem_cons_of_mem _ (List.mem_cons_of_mem _ (List.mem_cons_of_mem _ (List.mem_cons_of_mem _ (List.mem_cons_of_mem _ (List.mem_cons_self))))))), List.forall_mem_cons.mpr ⟨List.mem_cons_of_mem _ (List.mem_cons_self), List.forall_mem_cons.mpr ⟨List.mem_cons_self, fun _ h => absurd h List.not_mem_nil⟩⟩⟩⟩⟩⟩⟩)) ?_
                  exact ih38 0 (ki + 1) w40 (by omega) (by omega) (by omega) (hI41) (hF42)
          · refine xg_t (xg_icT (u := ki) (v := 10) rfl xnm0 xnm0 (xj_geT (by omega) (by omega))) ?_
            refine xg_t (xg_blq rfl) ?_
            refine xg_t (xg_aload (va := (2, 82)) rfl rfl) ?_
            refine xg_t (xg_getf (va := (2, 83)) (hF42.get (by decide) h82_31) rfl) ?_
            refine xg_t (xg_iload (va := (0, 140 + (4 * ki))) rfl rfl) ?_
            refine xg_ialdB (n := 140 + (4 * ki)) (B := 4294967295) (h83_34.fr hF42 (by decide)) (hb35) xnm0 (by omega) (fun u91 hu92 he93 => ?_)
            refine xg_t (xg_iload (va := (0, la)) rfl rfl) ?_
            by_cases hc94 : la = 0
            · refine xg_t (xg_ifT (u := la) rfl xnm0 (xj_eqT hc94)) ?_
              refine xg_t (xg_blq rfl) ?_
              refine xg_t (xg_const) ?_
              refine xg_t (xg_blq rfl) ?_
              by_cases hc95 : u91 = 0
              · refine xg_t (xg_icF (u := u91) (v := 0) rfl xnm0 xnm0 (xj_neF hc95)) ?_
                refine xg_t (xg_aload (va := (2, 82)) rfl rfl) ?_
                refine xg_t (xg_getf (va := (2, 83)) (hF42.get (by decide) h82_31) rfl) ?_
                refine xg_t (xg_iload (va := (0, 140 + (4 * ki))) rfl rfl) ?_
                refine xg_t (xg_const) ?_
                refine xg_t (xg_iadd (u := 140 + (4 * ki)) (v := 1) (z := (140 + (4 * ki)) + 1) xnm0 xnm0 (by omega)) ?_
                refine xg_ialdB (n := (140 + (4 * ki)) + 1) (B := 4294967295) (h83_34.fr hF42 (by decide)) (hb35) xnm0 (by omega) (fun u96 hu97 he98 => ?_)
                refine xg_t (xg_iload (va := (0, ra)) rfl rfl) ?_
                by_cases hc99 : u96 = ra
                · refine xg_t (xg_icF (u := u96) (v := ra) rfl xnm0 xnm0 (xj_neF hc99)) ?_
                  refine xg_t (xg_aload (va := (2, 82)) rfl rfl) ?_
                  refine xg_t (xg_getf (va := (2, 83)) (hF42.get (by decide) h82_31) rfl) ?_
                  refine xg_t (xg_iload (va := (0, 140 + (4 * ki))) rfl rfl) ?_
                  refine xg_t (xg_const) ?_
                  refine xg_t (xg_iadd (u := 140 + (4 * ki)) (v := 2) (z := (140 + (4 * ki)) + 2) xnm0 xnm0 (by omega)) ?_
                  refine xg_ialdB (n := (140 + (4 * ki)) + 2) (B := 4294967295) (h83_34.fr hF42 (by decide)) (hb35) xnm0 (by omega) (fun u100 hu101 he102 => ?_)
                  refine xg_t (xg_iload (va := (0, ca)) rfl rfl) ?_
                  by_cases hc103 : u100 = ca
                  · refine xg_t (xg_icF (u := u100) (v := ca) rfl xnm0 xnm0 (xj_neF hc103)) ?_
                    refine xg_t (xg_iload (va := (0, un)) rfl rfl) ?_
                    refine xg_t (xg_const) ?_
                    by_cases hc104 : un = 4294967295
                    · refine xg_t (xg_icT (u := un) (v := 4294967295) rfl xnm0 xnm0 (xj_eqT hc104)) ?_
                      refine xg_t (xg_blq rfl) ?_
                      refine xg_t (xg_const) ?_
                      refine xg_t (xg_goto) ?_
                      refine xg_t (xg_blq rfl) ?_
                      refine xg_t (xg_istore (l1 := [(7, (0, 140 + (4 * ki))), (0, (2, 82)), (1, (0, la)), (2, (0, ra)), (3, (0, ca)), (4, (0, un)), (6, (0, ki))]) rfl rfl rfl) ?_
                      refine xg_t (xg_blq rfl) ?_
                      refine xg_t (xg_iinc (u := ki) (z := ki + 1) (l1 := [(5, (0, 1)), (7, (0, 140 + (4 * ki))), (0, (2, 82)), (1, (0, la)), (2, (0, ra)), (3, (0, ca)), (4, (0, un))]) rfl rfl (by omega) rfl) ?_
                      refine xg_t (xg_goto) ?_
                      refine xg_t (xg_drop (l1 := [(0, (2, 82)), (1, (0, la)), (2, (0, ra)), (3, (0, ca)), (4, (0, un)), (5, (0, 1)), (6, (0, ki + 1))]) (List.forall_mem_cons.mpr ⟨List.mem_cons_of_mem _ (List.mem_cons_of_mem _ (List.mem_cons_of_mem _ (List.mem_cons_self))), List.forall_mem_cons.mpr ⟨List.mem_cons_of_mem _ (List.mem_cons_of_mem _ (List.mem_cons_of_mem _ (List.mem_cons_of_mem _ (List.mem_cons_self)))), List.forall_mem_cons.mpr ⟨List.mem_cons_of_mem _ (List.mem_cons_of_mem _ (List.mem_cons_of_mem _ (List.mem_cons_of_mem _ (List.mem_cons_of_mem _ (List.mem_cons_self))))), List.forall_mem_cons.mpr ⟨List.mem_cons_of_mem _ (List.mem_cons_of_mem _ (List.mem_cons_of_mem _ (List.mem_cons_of_mem _ (List.mem_cons_of_mem _ (List.mem_cons_of_mem _ (List.mem_cons_self)))))), List.forall_mem_cons.mpr ⟨List.mem_cons_of_mem _ (List.mem_cons_of_mem _ (List.mem_cons_of_mem _ (List.mem_cons_of_mem _ (List.mem_cons_of_mem _ (List.mem_cons_of_mem _ (List.mem_cons_of_mem _ (List.mem_cons_self))))))), List.forall_mem_cons.mpr ⟨List.mem_cons_of_mem _ (List.mem_cons_self), List.forall_mem_cons.mpr ⟨List.mem_cons_self, fun _ h => absurd h List.not_mem_nil⟩⟩⟩⟩⟩⟩⟩)) ?_
                      exact ih38 1 (ki + 1) w40 (by omega) (by omega) (by omega) (hI41) (hF42)
                    · refine xg_t (xg_icF (u := un) (v := 4294967295) rfl xnm0 xnm0 (xj_eqF hc104)) ?_
                      refine xg_t (xg_aload (va := (2, 82)) rfl rfl) ?_
                      refine xg_t (xg_getf (va := (2, 83)) (hF42.get (by decide) h82_31) rfl) ?_
                      refine xg_t (xg_iload (va := (0, 140 + (4 * ki))) rfl rfl) ?_
                      refine xg_t (xg_const) ?_
                      refine xg_t (xg_iadd (u := 140 + (4 * ki)) (v := 3) (z := (140 + (4 * ki)) + 3) xnm0 xnm0 (by omega)) ?_
                      refine xg_ialdB (n := (140 + (4 * ki)) + 3) (B := 4294967295) (h83_34.fr hF42 (by decide)) (hb35) xnm0 (by omega) (fun u105 hu106 he107 => ?_)
                      refine xg_t (xg_iload (va := (0, un)) rfl rfl) ?_
                      by_cases hc108 : xbs un < xbs u105
                      · have hc108u := hc108
                        unfold xbs at hc108u
                        refine xg_t (xg_icT (u := u105) (v := un) rfl xnm0 xnm0 (xjs_gtT hc108)) ?_
                        refine xg_t (xg_blq rfl) ?_
                        refine xg_t (xg_const) ?_
                        refine xg_t (xg_blq rfl) ?_
                        refine xg_t (xg_istore (l1 := [(7, (0, 140 + (4 * ki))), (0, (2, 82)), (1, (0, la)), (2, (0, ra)), (3, (0, ca)), (4, (0, un)), (6, (0, ki))]) rfl rfl rfl) ?_
                        refine xg_t (xg_blq rfl) ?_
                        refine xg_t (xg_iinc (u := ki) (z := ki + 1) (l1 := [(5, (0, 0)), (7, (0, 140 + (4 * ki))), (0, (2, 82)), (1, (0, la)), (2, (0, ra)), (3, (0, ca)), (4, (0, un))]) rfl rfl (by omega) rfl) ?_
                        refine xg_t (xg_goto) ?_
                        refine xg_t (xg_drop (l1 := [(0, (2, 82)), (1, (0, la)), (2, (0, ra)), (3, (0, ca)), (4, (0, un)), (5, (0, 0)), (6, (0, ki + 1))]) (List.forall_mem_cons.mpr ⟨List.mem_cons_of_mem _ (List.mem_cons_of_mem _ (List.mem_cons_of_mem _ (List.mem_cons_self))), List.forall_mem_cons.mpr ⟨List.mem_cons_of_mem _ (List.mem_cons_of_mem _ (List.mem_cons_of_mem _ (List.mem_cons_of_mem _ (List.mem_cons_self)))), List.forall_mem_cons.mpr ⟨List.mem_cons_of_mem _ (List.mem_cons_of_mem _ (List.mem_cons_of_mem _ (List.mem_cons_of_mem _ (List.mem_cons_of_mem _ (List.mem_cons_self))))), List.forall_mem_cons.mpr ⟨List.mem_cons_of_mem _ (List.mem_cons_of_mem _ (List.mem_cons_of_mem _ (List.mem_cons_of_mem _ (List.mem_cons_of_mem _ (List.mem_cons_of_mem _ (List.mem_cons_self)))))), List.forall_mem_cons.mpr ⟨List.mem_cons_of_mem _ (List.mem_cons_of_mem _ (List.mem_cons_of_mem _ (List.mem_cons_of_mem _ (List.mem_cons_of_mem _ (List.mem_cons_of_mem _ (List.mem_cons_of_mem _ (List.mem_cons_self))))))), List.forall_mem_cons.mpr ⟨List.mem_cons_of_mem _ (List.mem_cons_self), List.forall_mem_cons.mpr ⟨List.mem_cons_self, fun _ h => absurd h List.not_mem_nil⟩⟩⟩⟩⟩⟩⟩)) ?_
                        exact ih38 0 (ki + 1) w40 (by omega) (by omega) (by omega) (hI41) (hF42)
                      · have hc108u := hc108
                        unfold xbs at hc108u
                        refine xg_t (xg_icF (u := u105) (v := un) rfl xnm0 xnm0 (xjs_gtF hc108)) ?_
                        refine xg_t (xg_blq rfl) ?_
                        refine xg_t (xg_const) ?_
                        refine xg_t (xg_goto) ?_
                        refine xg_t (xg_blq rfl) ?_
                        refine xg_t (xg_istore (l1 := [(7, (0, 140 + (4 * ki))), (0, (2, 82)), (1, (0, la)), (2, (0, ra)), (3, (0, ca)), (4, (0, un)), (6, (0, ki))]) rfl rfl rfl) ?_
                        refine xg_t (xg_blq rfl) ?_
                        refine xg_t (xg_iinc (u := ki) (z := ki + 1) (l1 := [(5, (0, 1)), (7, (0, 140 + (4 * ki))), (0, (2, 82)), (1, (0, la)), (2, (0, ra)), (3, (0, ca)), (4, (0, un))]) rfl rfl (by omega) rfl) ?_
                        refine xg_t (xg_goto) ?_
                        refine xg_t (xg_drop (l1 := [(0, (2, 82)), (1, (0, la)), (2, (0, ra)), (3, (0, ca)), (4, (0, un)), (5, (0, 1)), (6, (0, ki + 1))]) (List.forall_mem_cons.mpr ⟨List.mem_cons_of_mem _ (List.mem_cons_of_mem _ (List.mem_cons_of_mem _ (List.mem_cons_self))), List.forall_mem_cons.mpr ⟨List.mem_cons_of_mem _ (List.mem_cons_of_mem _ (List.mem_cons_of_mem _ (List.mem_cons_of_mem _ (List.mem_cons_self)))), List.forall_mem_cons.mpr ⟨List.mem_cons_of_mem _ (List.mem_cons_of_mem _ (List.mem_cons_of_mem _ (List.mem_cons_of_mem _ (List.mem_cons_of_mem _ (List.mem_cons_self))))), List.forall_mem_cons.mpr ⟨List.mem_cons_of_mem _ (List.mem_cons_of_mem _ (List.mem_cons_of_mem _ (List.mem_cons_of_mem _ (List.mem_cons_of_mem _ (List.mem_cons_of_mem _ (List.mem_cons_self)))))), List.forall_mem_cons.mpr ⟨List.mem_cons_of_mem _ (List.mem_cons_of_mem _ (List.mem_cons_of_mem _ (List.mem_cons_of_mem _ (List.mem_cons_of_mem _ (List.mem_cons_of_mem _ (List.mem_cons_of_mem _ (List.mem_cons_self))))))), List.forall_mem_cons.mpr ⟨List.mem_cons_of_mem _ (List.mem_cons_self), List.forall_mem_cons.mpr ⟨List.mem_cons_self, fun _ h => absurd h List.not_mem_nil⟩⟩⟩⟩⟩⟩⟩)) ?_
                        exact ih38 1 (ki + 1) w40 (by omega) (by omega) (by omega) (hI41) (hF42)
                  · refine xg_t (xg_icT (u := u100) (v := ca) rfl xnm0 xnm0 (xj_neT hc103)) ?_
                    refine xg_t (xg_blq rfl) ?_
                    refine xg_t (xg_const) ?_
                    refine xg_t (xg_blq rfl) ?_
                    refine xg_t (xg_istore (l1 := [(7, (0, 140 + (4 * ki))), (0, (2, 82)), (1, (0, la)), (2, (0, ra)), (3, (0, ca)), (4, (0, un)), (6, (0, ki))]) rfl rfl rfl) ?_
                    refine xg_t (xg_blq rfl) ?_
                    refine xg_t (xg_iinc (u := ki) (z := ki + 1) (l1 := [(5, (0, 0)), (7, (0, 140 + (4 * ki))), (0, (2, 82)), (1, (0, la)), (2, (0, ra)), (3, (0, ca)), (4, (0, un))]) rfl rfl (by omega) rfl) ?_
                    refine xg_t (xg_goto) ?_
                    refine xg_t (xg_drop (l1 := [(0, (2, 82)), (1, (0, la)), (2, (0, ra)), (3, (0, ca)), (4, (0, un)), (5, (0, 0)), (6, (0, ki + 1))]) (List.forall_mem_cons.mpr ⟨List.mem_cons_of_mem _ (List.mem_cons_of_mem _ (List.mem_cons_of_mem _ (List.mem_cons_self))), List.forall_mem_cons.mpr ⟨List.mem_cons_of_mem _ (List.mem_cons_of_mem _ (List.mem_cons_of_mem _ (List.mem_cons_of_mem _ (List.mem_cons_self)))), List.forall_mem_cons.mpr ⟨List.mem_cons_of_mem _ (List.mem_cons_of_mem _ (List.mem_cons_of_mem _ (List.mem_cons_of_mem _ (List.mem_cons_of_mem _ (List.mem_cons_self))))), List.forall_mem_cons.mpr ⟨List.mem_cons_of_mem _ (List.mem_cons_of_mem _ (List.mem_cons_of_mem _ (List.mem_cons_of_mem _ (List.mem_cons_of_mem _ (List.mem_cons_of_mem _ (List.mem_cons_self)))))), List.forall_mem_cons.mpr ⟨List.mem_cons_of_mem _ (List.mem_cons_of_mem _ (List.mem_cons_of_mem _ (List.mem_cons_of_mem _ (List.mem_cons_of_mem _ (List.mem_cons_of_mem _ (List.mem_cons_of_mem _ (List.mem_cons_self))))))), List.forall_mem_cons.mpr ⟨List.mem_cons_of_mem _ (List.mem_cons_self), List.forall_mem_cons.mpr ⟨List.mem_cons_self, fun _ h => absurd h List.not_mem_nil⟩⟩⟩⟩⟩⟩⟩)) ?_
                    exact ih38 0 (ki + 1) w40 (by omega) (by omega) (by omega) (hI41) (hF42)
                · refine xg_t (xg_icT (u := u96) (v := ra) rfl xnm0 xnm0 (xj_neT hc99)) ?_
                  refine xg_t (xg_blq rfl) ?_
                  refine xg_t (xg_const) ?_
                  refine xg_t (xg_blq rfl) ?_
                  refine xg_t (xg_istore (l1 := [(7, (0, 140 + (4 * ki))), (0, (2, 82)), (1, (0, la)), (2, (0, ra)), (3, (0, ca)), (4, (0, un)), (6, (0, ki))]) rfl rfl rfl) ?_
                  refine xg_t (xg_blq rfl) ?_
                  refine xg_t (xg_iinc (u := ki) (z := ki + 1) (l1 := [(5, (0, 0)), (7, (0, 140 + (4 * ki))), (0, (2, 82)), (1, (0, la)), (2, (0, ra)), (3, (0, ca)), (4, (0, un))]) rfl rfl (by omega) rfl) ?_
                  refine xg_t (xg_goto) ?_
                  refine xg_t (xg_drop (l1 := [(0, (2, 82)), (1, (0, la)), (2, (0, ra)), (3, (0, ca)), (4, (0, un)), (5, (0, 0)), (6, (0, ki + 1))]) (List.forall_mem_cons.mpr ⟨List.mem_cons_of_mem _ (List.mem_cons_of_mem _ (List.mem_cons_of_mem _ (List.mem_cons_self))), List.forall_mem_cons.mpr ⟨List.mem_cons_of_mem _ (List.mem_cons_of_mem _ (List.mem_cons_of_mem _ (List.mem_cons_of_mem _ (List.mem_cons_self)))), List.forall_mem_cons.mpr ⟨List.mem_cons_of_mem _ (List.mem_cons_of_mem _ (List.mem_cons_of_mem _ (List.mem_cons_of_mem _ (List.mem_cons_of_mem _ (List.mem_cons_self))))), List.forall_mem_cons.mpr ⟨List.mem_cons_of_mem _ (List.mem_cons_of_mem _ (List.mem_cons_of_mem _ (List.mem_cons_of_mem _ (List.mem_cons_of_mem _ (List.mem_cons_of_mem _ (List.mem_cons_self)))))), List.forall_mem_cons.mpr ⟨List.mem_cons_of_mem _ (List.mem_cons_of_mem _ (List.mem_cons_of_mem _ (List.mem_cons_of_mem _ (List.mem_cons_of_mem _ (List.mem_cons_of_mem _ (List.mem_cons_of_mem _ (List.mem_cons_self))))))), List.forall_mem_cons.mpr ⟨List.mem_cons_of_mem _ (List.mem_cons_self), List.forall_mem_cons.mpr ⟨List.mem_cons_self, fun _ h => absurd h List.not_mem_nil⟩⟩⟩⟩⟩⟩⟩)) ?_
                  exact ih38 0 (ki + 1) w40 (by omega) (by omega) (by omega) (hI41) (hF42)
              · refine xg_t (xg_icT (u := u91) (v := 0) rfl xnm0 xnm0 (xj_neT hc95)) ?_
                refine xg_t (xg_blq rfl) ?_
                refine xg_t (xg_const) ?_
                refine xg_t (xg_blq rfl) ?_
                refine xg_t (xg_istore (l1 := [(7, (0, 140 + (4 * ki))), (0, (2, 82)), (1, (0, la)), (2, (0, ra)), (3, (0, ca)), (4, (0, un)), (6, (0, ki))]) rfl rfl rfl) ?_
                refine xg_t (xg_blq rfl) ?_
                refine xg_t (xg_iinc (u := ki) (z := ki + 1) (l1 := [(5, (0, 0)), (7, (0, 140 + (4 * ki))), (0, (2, 82)), (1, (0, la)), (2, (0, ra)), (3, (0, ca)), (4, (0, un))]) rfl rfl (by omega) rfl) ?_
                refine xg_t (xg_goto) ?_
                refine xg_t (xg_drop (l1 := [(0, (2, 82)), (1, (0, la)), (2, (0, ra)), (3, (0, ca)), (4, (0, un)), (5, (0, 0)), (6, (0, ki + 1))]) (List.forall_mem_cons.mpr ⟨List.mem_cons_of_mem _ (List.mem_cons_of_mem _ (List.mem_cons_of_mem _ (List.mem_cons_self))), List.forall_mem_cons.mpr ⟨List.mem_cons_of_mem _ (List.mem_cons_of_mem _ (List.mem_cons_of_mem _ (List.mem_cons_of_mem _ (List.mem_cons_self)))), List.forall_mem_cons.mpr ⟨List.mem_cons_of_mem _ (List.mem_cons_of_mem _ (List.mem_cons_of_mem _ (List.mem_cons_of_mem _ (List.mem_cons_of_mem _ (List.mem_cons_self))))), List.forall_mem_cons.mpr ⟨List.mem_cons_of_mem _ (List.mem_cons_of_mem _ (List.mem_cons_of_mem _ (List.mem_cons_of_mem _ (List.mem_cons_of_mem _ (List.mem_cons_of_mem _ (List.mem_cons_self)))))), List.forall_mem_cons.mpr ⟨List.mem_cons_of_mem _ (List.mem_cons_of_mem _ (List.mem_cons_of_mem _ (List.mem_cons_of_mem _ (List.mem_cons_of_mem _ (List.mem_cons_of_mem _ (List.mem_cons_of_mem _ (List.mem_cons_self))))))), List.forall_mem_cons.mpr ⟨List.mem_cons_of_mem _ (List.mem_cons_self), List.forall_mem_cons.mpr ⟨List.mem_cons_self, fun _ h => absurd h List.not_mem_nil⟩⟩⟩⟩⟩⟩⟩)) ?_
                exact ih38 0 (ki + 1) w40 (by omega) (by omega) (by omega) (hI41) (hF42)
            · refine xg_t (xg_ifF (u := la) rfl xnm0 (xj_eqF hc94)) ?_
              refine xg_t (xg_const) ?_
              refine xg_t (xg_goto) ?_
              refine xg_t (xg_blq rfl) ?_
              by_cases hc109 : u91 = 1
              · refine xg_t (xg_icF (u := u91) (v := 1) rfl xnm0 xnm0 (xj_neF hc109)) ?_
                refine xg_t (xg_aload (va := (2, 82)) rfl rfl) ?_
                refine xg_t (xg_getf (va := (2, 83)) (hF42.get (by decide) h82_31) rfl) ?_
                refine xg_t (xg_iload (va := (0, 140 + (4 * ki))) rfl rfl) ?_
                refine xg_t (xg_const) ?_
                refine xg_t (xg_iadd (u := 140 + (4 * ki)) (v := 1) (z := (140 + (4 * ki)) + 1) xnm0 xnm0 (by omega)) ?_
                refine xg_ialdB (n := (140 + (4 * ki)) + 1) (B := 4294967295) (h83_34.fr hF42 (by decide)) (hb35) xnm0 (by omega) (fun u110 hu111 he112 => ?_)
                refine xg_t (xg_iload (va := (0, ra)) rfl rfl) ?_
                by_cases hc113 : u110 = ra
                · refine xg_t (xg_icF (u := u110) (v := ra) rfl xnm0 xnm0 (xj_neF hc113)) ?_
                  refine xg_t (xg_aload (va := (2, 82)) rfl rfl) ?_
                  refine xg_t (xg_getf (va := (2, 83)) (hF42.get (by decide) h82_31) rfl) ?_
                  refine xg_t (xg_iload (va := (0, 140 + (4 * ki))) rfl rfl) ?_
                  refine xg_t (xg_const) ?_
                  refine xg_t (xg_iadd (u := 140 + (4 * ki)) (v := 2) (z := (140 + (4 * ki)) + 2) xnm0 xnm0 (by omega)) ?_
                  refine xg_ialdB (n := (140 + (4 * ki)) + 2) (B := 4294967295) (h83_34.fr hF42 (by decide)) (hb35) xnm0 (by omega) (fun u114 hu115 he116 => ?_)
                  refine xg_t (xg_iload (va := (0, ca)) rfl rfl) ?_
                  by_cases hc117 : u114 = ca
                  · refine xg_t (xg_icF (u := u114) (v := ca) rfl xnm0 xnm0 (xj_neF hc117)) ?_
                    refine xg_t (xg_iload (va := (0, un)) rfl rfl) ?_
                    refine xg_t (xg_const) ?_
                    by_cases hc118 : un = 4294967295
                    · refine xg_t (xg_icT (u := un) (v := 4294967295) rfl xnm0 xnm0 (xj_eqT hc118)) ?_
                      refine xg_t (xg_blq rfl) ?_
                      refine xg_t (xg_const) ?_
                      refine xg_t (xg_goto) ?_
                      refine xg_t (xg_blq rfl) ?_
                      refine xg_t (xg_istore (l1 := [(7, (0, 140 + (4 * ki))), (0, (2, 82)), (1, (0, la)), (2, (0, ra)), (3, (0, ca)), (4, (0, un)), (6, (0, ki))]) rfl rfl rfl) ?_
                      refine xg_t (xg_blq rfl) ?_
                      refine xg_t (xg_iinc (u := ki) (z := ki + 1) (l1 := [(5, (0, 1)), (7, (0, 140 + (4 * ki))), (0, (2, 82)), (1, (0, la)), (2, (0, ra)), (3, (0, ca)), (4, (0, un))]) rfl rfl (by omega) rfl) ?_
                      refine xg_t (xg_goto) ?_
                      refine xg_t (xg_drop (l1 := [(0, (2, 82)), (1, (0, la)), (2, (0, ra)), (3, (0, ca)), (4, (0, un)), (5, (0, 1)), (6, (0, ki + 1))]) (List.forall_mem_cons.mpr ⟨List.mem_cons_of_mem _ (List.mem_cons_of_mem _ (List.mem_cons_of_mem _ (List.mem_cons_self))), List.forall_mem_cons.mpr ⟨List.mem_cons_of_mem _ (List.mem_cons_of_mem _ (List.mem_cons_of_mem _ (List.mem_cons_of_mem _ (List.mem_cons_self)))), List.forall_mem_cons.mpr ⟨List.mem_cons_of_mem _ (List.mem_cons_of_mem _ (List.mem_cons_of_mem _ (List.mem_cons_of_mem _ (List.mem_cons_of_mem _ (List.mem_cons_self))))), List.forall_mem_cons.mpr ⟨List.mem_cons_of_mem _ (List.mem_cons_of_mem _ (List.mem_cons_of_mem _ (List.mem_cons_of_mem _ (List.mem_cons_of_mem _ (List.mem_cons_of_mem _ (List.mem_cons_self)))))), List.forall_mem_cons.mpr ⟨List.mem_cons_of_mem _ (List.mem_cons_of_mem _ (List.mem_cons_of_mem _ (List.mem_cons_of_mem _ (List.mem_cons_of_mem _ (List.mem_cons_of_mem _ (List.mem_cons_of_mem _ (List.mem_cons_self))))))), List.forall_mem_cons.mpr ⟨List.mem_cons_of_mem _ (List.mem_cons_self), List.forall_mem_cons.mpr ⟨List.mem_cons_self, fun _ h => absurd h List.not_mem_nil⟩⟩⟩⟩⟩⟩⟩)) ?_
                      exact ih38 1 (ki + 1) w40 (by omega) (by omega) (by omega) (hI41) (hF42)
                    · refine xg_t (xg_icF (u := un) (v := 4294967295) rfl xnm0 xnm0 (xj_eqF hc118)) ?_
                      refine xg_t (xg_aload (va := (2, 82)) rfl rfl) ?_
                      refine xg_t (xg_getf (va := (2, 83)) (hF42.get (by decide) h82_31) rfl) ?_
                      refine xg_t (xg_iload (va := (0, 140 + (4 * ki))) rfl rfl) ?_
                      refine xg_t (xg_const) ?_
                      refine xg_t (xg_iadd (u := 140 + (4 * ki)) (v := 3) (z := (140 + (4 * ki)) + 3) xnm0 xnm0 (by omega)) ?_
                      refine xg_ialdB (n := (140 + (4 * ki)) + 3) (B := 4294967295) (h83_34.fr hF42 (by decide)) (hb35) xnm0 (by omega) (fun u119 hu120 he121 => ?_)
                      refine xg_t (xg_iload (va := (0, un)) rfl rfl) ?_
                      by_cases hc122 : xbs un < xbs u119
                      · have hc122u := hc122
                        unfold xbs at hc122u
                        refine xg_t (xg_icT (u := u119) (v := un) rfl xnm0 xnm0 (xjs_gtT hc122)) ?_
                        refine xg_t (xg_blq rfl) ?_
                        refine xg_t (xg_const) ?_
                        refine xg_t (xg_blq rfl) ?_
                        refine xg_t (xg_istore (l1 := [(7, (0, 140 + (4 * ki))), (0, (2, 82)), (1, (0, la)), (2, (0, ra)), (3, (0, ca)), (4, (0, un)), (6, (0, ki))]) rfl rfl rfl) ?_
                        refine xg_t (xg_blq rfl) ?_
                        refine xg_t (xg_iinc (u := ki) (z := ki + 1) (l1 := [(5, (0, 0)), (7, (0, 140 + (4 * ki))), (0, (2, 82)), (1, (0, la)), (2, (0, ra)), (3, (0, ca)), (4, (0, un))]) rfl rfl (by omega) rfl) ?_
                        refine xg_t (xg_goto) ?_
                        refine xg_t (xg_drop (l1 := [(0, (2, 82)), (1, (0, la)), (2, (0, ra)), (3, (0, ca)), (4, (0, un)), (5, (0, 0)), (6, (0, ki + 1))]) (List.forall_mem_cons.mpr ⟨List.mem_cons_of_mem _ (List.mem_cons_of_mem _ (List.mem_cons_of_mem _ (List.mem_cons_self))), List.forall_mem_cons.mpr ⟨List.mem_cons_of_mem _ (List.mem_cons_of_mem _ (List.mem_cons_of_mem _ (List.mem_cons_of_mem _ (List.mem_cons_self)))), List.forall_mem_cons.mpr ⟨List.mem_cons_of_mem _ (List.mem_cons_of_mem _ (List.mem_cons_of_mem _ (List.mem_cons_of_mem _ (List.mem_cons_of_mem _ (List.mem_cons_self))))), List.forall_mem_cons.mpr ⟨List.mem_cons_of_mem _ (List.mem_cons_of_mem _ (List.mem_cons_of_mem _ (List.mem_cons_of_mem _ (List.mem_cons_of_mem _ (List.mem_cons_of_mem _ (List.mem_cons_self)))))), List.forall_mem_cons.mpr ⟨List.mem_cons_of_mem _ (List.mem_cons_of_mem _ (List.mem_cons_of_mem _ (List.mem_cons_of_mem _ (List.mem_cons_of_mem _ (List.mem_cons_of_mem _ (List.mem_cons_of_mem _ (List.mem_cons_self))))))), List.forall_mem_cons.mpr ⟨List.mem_cons_of_mem _ (List.mem_cons_self), List.forall_mem_cons.mpr ⟨List.mem_cons_self, fun _ h => absurd h List.not_mem_nil⟩⟩⟩⟩⟩⟩⟩)) ?_
                        exact ih38 0 (ki + 1) w40 (by omega) (by omega) (by omega) (hI41) (hF42)
                      · have hc122u := hc122
                        unfold xbs at hc122u
                        refine xg_t (xg_icF (u := u119) (v := un) rfl xnm0 xnm0 (xjs_gtF hc122)) ?_
                        refine xg_t (xg_blq rfl) ?_
                        refine xg_t (xg_const) ?_
                        refine xg_t (xg_goto) ?_
                        refine xg_t (xg_blq rfl) ?_
                        refine xg_t (xg_istore (l1 := [(7, (0, 140 + (4 * ki))), (0, (2, 82)), (1, (0, la)), (2, (0, ra)), (3, (0, ca)), (4, (0, un)), (6, (0, ki))]) rfl rfl rfl) ?_
                        refine xg_t (xg_blq rfl) ?_
                        refine xg_t (xg_iinc (u := ki) (z := ki + 1) (l1 := [(5, (0, 1)), (7, (0, 140 + (4 * ki))), (0, (2, 82)), (1, (0, la)), (2, (0, ra)), (3, (0, ca)), (4, (0, un))]) rfl rfl (by omega) rfl) ?_
                        refine xg_t (xg_goto) ?_
                        refine xg_t (xg_drop (l1 := [(0, (2, 82)), (1, (0, la)), (2, (0, ra)), (3, (0, ca)), (4, (0, un)), (5, (0, 1)), (6, (0, ki + 1))]) (List.forall_mem_cons.mpr ⟨List.mem_cons_of_mem _ (List.mem_cons_of_mem _ (List.mem_cons_of_mem _ (List.mem_cons_self))), List.forall_mem_cons.mpr ⟨List.mem_cons_of_mem _ (List.mem_cons_of_mem _ (List.mem_cons_of_mem _ (List.mem_cons_of_mem _ (List.mem_cons_self)))), List.forall_mem_cons.mpr ⟨List.mem_cons_of_mem _ (List.mem_cons_of_mem _ (List.mem_cons_of_mem _ (List.mem_cons_of_mem _ (List.mem_cons_of_mem _ (List.mem_cons_self))))), List.forall_mem_cons.mpr ⟨List.mem_cons_of_mem _ (List.mem_cons_of_mem _ (List.mem_cons_of_mem _ (List.mem_cons_of_mem _ (List.mem_cons_of_mem _ (List.mem_cons_of_mem _ (List.mem_cons_self)))))), List.forall_mem_cons.mpr ⟨List.mem_cons_of_mem _ (List.mem_cons_of_mem _ (List.mem_cons_of_mem _ (List.mem_cons_of_mem _ (List.mem_cons_of_mem _ (List.mem_cons_of_mem _ (List.mem_cons_of_mem _ (List.mem_cons_self))))))), List.forall_mem_cons.mpr ⟨List.mem_cons_of_mem _ (List.mem_cons_self), List.forall_mem_cons.mpr ⟨List.mem_cons_self, fun _ h => absurd h List.not_mem_nil⟩⟩⟩⟩⟩⟩⟩)) ?_
                        exact ih38 1 (ki + 1) w40 (by omega) (by omega) (by omega) (hI41) (hF42)
                  · refine xg_t (xg_icT (u := u114) (v := ca) rfl xnm0 xnm0 (xj_neT hc117)) ?_
                    refine xg_t (xg_blq rfl) ?_
                    refine xg_t (xg_const) ?_
                    refine xg_t (xg_blq rfl) ?_
                    refine xg_t (xg_istore (l1 := [(7, (0, 140 + (4 * ki))), (0, (2, 82)), (1, (0, la)), (2, (0, ra)), (3, (0, ca)), (4, (0, un)), (6, (0, ki))]) rfl rfl rfl) ?_
                    refine xg_t (xg_blq rfl) ?_
                    refine xg_t (xg_iinc (u := ki) (z := ki + 1) (l1 := [(5, (0, 0)), (7, (0, 140 + (4 * ki))), (0, (2, 82)), (1, (0, la)), (2, (0, ra)), (3, (0, ca)), (4, (0, un))]) rfl rfl (by omega) rfl) ?_
                    refine xg_t (xg_goto) ?_
                    refine xg_t (xg_drop (l1 := [(0, (2, 82)), (1, (0, la)), (2, (0, ra)), (3, (0, ca)), (4, (0, un)), (5, (0, 0)), (6, (0, ki + 1))]) (List.forall_mem_cons.mpr ⟨List.mem_cons_of_mem _ (List.mem_cons_of_mem _ (List.mem_cons_of_mem _ (List.mem_cons_self))), List.forall_mem_cons.mpr ⟨List.mem_cons_of_mem _ (List.mem_cons_of_mem _ (List.mem_cons_of_mem _ (List.mem_cons_of_mem _ (List.mem_cons_self)))), List.forall_mem_cons.mpr ⟨List.mem_cons_of_mem _ (List.mem_cons_of_mem _ (List.mem_cons_of_mem _ (List.mem_cons_of_mem _ (List.mem_cons_of_mem _ (List.mem_cons_self))))), List.forall_mem_cons.mpr ⟨List.mem_cons_of_mem _ (List.mem_cons_of_mem _ (List.mem_cons_of_mem _ (List.mem_cons_of_mem _ (List.mem_cons_of_mem _ (List.mem_cons_of_mem _ (List.mem_cons_self)))))), List.forall_mem_cons.mpr ⟨List.mem_cons_of_mem _ (List.mem_cons_of_mem _ (List.mem_cons_of_mem _ (List.mem_cons_of_mem _ (List.mem_cons_of_mem _ (List.mem_cons_of_mem _ (List.mem_cons_of_mem _ (List.mem_cons_self))))))), List.forall_mem_cons.mpr ⟨List.mem_cons_of_mem _ (List.mem_cons_self), List.forall_mem_cons.mpr ⟨List.mem_cons_self, fun _ h => absurd h List.not_mem_nil⟩⟩⟩⟩⟩⟩⟩)) ?_
                    exact ih38 0 (ki + 1) w40 (by omega) (by omega) (by omega) (hI41) (hF42)
                · refine xg_t (xg_icT (u := u110) (v := ra) rfl xnm0 xnm0 (xj_neT hc113)) ?_
                  refine xg_t (xg_blq rfl) ?_
                  refine xg_t (xg_const) ?_
                  refine xg_t (xg_blq rfl) ?_
                  refine xg_t (xg_istore (l1 := [(7, (0, 140 + (4 * ki))), (0, (2, 82)), (1, (0, la)), (2, (0, ra)), (3, (0, ca)), (4, (0, un)), (6, (0, ki))]) rfl rfl rfl) ?_
                  refine xg_t (xg_blq rfl) ?_
                  refine xg_t (xg_iinc (u := ki) (z := ki + 1) (l1 := [(5, (0, 0)), (7, (0, 140 + (4 * ki))), (0, (2, 82)), (1, (0, la)), (2, (0, ra)), (3, (0, ca)), (4, (0, un))]) rfl rfl (by omega) rfl) ?_
                  refine xg_t (xg_goto) ?_
                  refine xg_t (xg_drop (l1 := [(0, (2, 82)), (1, (0, la)), (2, (0, ra)), (3, (0, ca)), (4, (0, un)), (5, (0, 0)), (6, (0, ki + 1))]) (List.forall_mem_cons.mpr ⟨List.mem_cons_of_mem _ (List.mem_cons_of_mem _ (List.mem_cons_of_mem _ (List.mem_cons_self))), List.forall_mem_cons.mpr ⟨List.mem_cons_of_mem _ (List.mem_cons_of_mem _ (List.mem_cons_of_mem _ (List.mem_cons_of_mem _ (List.mem_cons_self)))), List.forall_mem_cons.mpr ⟨List.mem_cons_of_mem _ (List.mem_cons_of_mem _ (List.mem_cons_of_mem _ (List.mem_cons_of_mem _ (List.mem_cons_of_mem _ (List.mem_cons_self))))), List.forall_mem_cons.mpr ⟨List.mem_cons_of_mem _ (List.mem_cons_of_mem _ (List.mem_cons_of_mem _ (List.mem_cons_of_mem _ (List.mem_cons_of_mem _ (List.mem_cons_of_mem _ (List.mem_cons_self)))))), List.forall_mem_cons.mpr ⟨List.mem_cons_of_mem _ (List.mem_cons_of_mem _ (List.mem_cons_of_mem _ (List.mem_cons_of_mem _ (List.mem_cons_of_mem _ (List.mem_cons_of_mem _ (List.mem_cons_of_mem _ (List.mem_cons_self))))))), List.forall_mem_cons.mpr ⟨List.mem_cons_of_mem _ (List.mem_cons_self), List.forall_mem_cons.mpr ⟨List.mem_cons_self, fun _ h => absurd h List.not_mem_nil⟩⟩⟩⟩⟩⟩⟩)) ?_
                  exact ih38 0 (ki + 1) w40 (by omega) (by omega) (by omega) (hI41) (hF42)
              · refine xg_t (xg_icT (u := u91) (v := 1) rfl xnm0 xnm0 (xj_neT hc109)) ?_
                refine xg_t (xg_blq rfl) ?_
                refine xg_t (xg_const) ?_
                refine xg_t (xg_blq rfl) ?_
                refine xg_t (xg_istore (l1 := [(7, (0, 140 + (4 * ki))), (0, (2, 82)), (1, (0, la)), (2, (0, ra)), (3, (0, ca)), (4, (0, un)), (6, (0, ki))]) rfl rfl rfl) ?_
                refine xg_t (xg_blq rfl) ?_
                refine xg_t (xg_iinc (u := ki) (z := ki + 1) (l1 := [(5, (0, 0)), (7, (0, 140 + (4 * ki))), (0, (2, 82)), (1, (0, la)), (2, (0, ra)), (3, (0, ca)), (4, (0, un))]) rfl rfl (by omega) rfl) ?_
                refine xg_t (xg_goto) ?_
                refine xg_t (xg_drop (l1 := [(0, (2, 82)), (1, (0, la)), (2, (0, ra)), (3, (0, ca)), (4, (0, un)), (5, (0, 0)), (6, (0, ki + 1))]) (List.forall_mem_cons.mpr ⟨List.mem_cons_of_mem _ (List.mem_cons_of_mem _ (List.mem_cons_of_mem _ (List.mem_cons_self))), List.forall_mem_cons.mpr ⟨List.mem_cons_of_mem _ (List.mem_cons_of_mem _ (List.mem_cons_of_mem _ (List.mem_cons_of_mem _ (List.mem_cons_self)))), List.forall_mem_cons.mpr ⟨List.mem_cons_of_mem _ (List.mem_cons_of_mem _ (List.mem_cons_of_mem _ (List.mem_cons_of_mem _ (List.mem_cons_of_mem _ (List.mem_cons_self))))), List.forall_mem_cons.mpr ⟨List.mem_cons_of_mem _ (List.mem_cons_of_mem _ (List.mem_cons_of_mem _ (List.mem_cons_of_mem _ (List.mem_cons_of_mem _ (List.mem_cons_of_mem _ (List.mem_cons_self)))))), List.forall_mem_cons.mpr ⟨List.mem_cons_of_mem _ (List.mem_cons_of_mem _ (List.mem_cons_of_mem _ (List.mem_cons_of_mem _ (List.mem_cons_of_mem _ (List.mem_cons_of_mem _ (List.mem_cons_of_mem _ (List.mem_cons_self))))))), List.forall_mem_cons.mpr ⟨List.mem_cons_of_mem _ (List.mem_cons_self), List.forall_mem_cons.mpr ⟨List.mem_cons_self, fun _ h => absurd h List.not_mem_nil⟩⟩⟩⟩⟩⟩⟩)) ?_
                exact ih38 0 (ki + 1) w40 (by omega) (by omega) (by omega) (hI41) (hF42)
        · refine xg_t (xg_ifT (u := is_) rfl xnm0 (xj_neT hc51)) ?_
          refine xg_t (xg_blq rfl) ?_
          refine xg_t (xg_iload (va := (0, is_)) rfl rfl) ?_
          exact xg_e ⟨is_, w40, ⟨xret_b (by omega), rfl⟩, by omega, hI41, hF42⟩
      · refine xg_t (xg_icT (u := ki) (v := u46) rfl xnm0 xnm0 (xj_geT (by omega) (by omega))) ?_
        refine xg_t (xg_blq rfl) ?_
        refine xg_t (xg_iload (va := (0, is_)) rfl rfl) ?_
        exact xg_e ⟨is_, w40, ⟨xret_b (by omega), rfl⟩, by omega, hI41, hF42⟩
  exact key37 _ 0 0 w (Nat.lt_succ_self _) (by omega) (by omega) (hI) (xFr.rf)
theorem mLed {la ra ca : Nat} (hI : xMnv w) (hla : la ≤ 1) (hra : ra ≤ 4294967295) (hca : ca ≤ 4294967295) : xPi (d + 2) mX12_isLed [(2, 82), (0, la), (0, ra), (0, ca)] w bd fc rr (fun n w' => (n ≤ 1 ∧ (n = 1 → (la = 0 → ca ≤ 4) ∧ (la = 1 → ra ≤ 4))) ∧ xMnv w' ∧ xFr [] w w') := by
  refine xPi.of ?_
  show xTo (d + 2) mX12_isLed (0, [], [(0, (2, 82)), (1, (0, la)), (2, (0, ra)), (3, (0, ca))], [], (w, bd, fc, 0, 0, rr)) (fun φ => ∃ n w', xEnd 4 [(0, n)] (w', bd, fc, 0, 0, rr) φ ∧ (n ≤ 1 ∧ (n = 1 → (la = 0 → ca ≤ 4) ∧ (la = 1 → ra ≤ 4))) ∧ xMnv w' ∧ xFr [] w w')
  refine xoCh82 (xqc82 hI : cp82 (wget w 82)) (fun f82_1 f82_3 f82_5 f82_7 f82_9 f82_11 f82_13 f82_15 f82_17 f82_19 f82_21 f82_22 f82_23 f82_25 f82_27 f82_29 h82_31 hb2 hb4 hb6 hb8 hb10 hb12 hb14 hb16 hb18 hb20 hb24 hb26 hb28 hb30 hb32 => ?_)
  refine xoX83 (xqc83 hI : cpx83 (wget w 83)) (fun g83_33 h83_34 hb35 hx36 => ?_)
  refine xg_t (xg_blq rfl) ?_
  refine xg_t (xg_aload (va := (2, 82)) rfl rfl) ?_
  refine xg_t (xg_iload (va := (0, la)) rfl rfl) ?_
  refine xg_t (xg_iload (va := (0, ra)) rfl rfl) ?_
  refine xg_t (xg_iload (va := (0, ca)) rfl rfl) ?_
  refine xg_cVi mX12_isThere (vs := [(0, la), (0, ra), (0, ca)]) (rest := []) (cn1 := 0) (sl1 := 0) rfl (mThere (hI) (by omega) (by omega) (by omega) h83_34 hb35 hx36) rfl h82_31 rfl rfl rfl rfl rfl rfl (fun n41 w37 hq38 => ?_)
  obtain ⟨hn42, hI39, hF40⟩ := hq38
  by_cases hc43 : n41 = 0
  · refine xg_t (xg_ifT (u := n41) rfl xnm0 (xj_eqT hc43)) ?_
    refine xg_t (xg_blq rfl) ?_
    refine xg_t (xg_const) ?_
    refine xg_t (xg_blq rfl) ?_
    exact xg_e ⟨0, w37, ⟨rfl, rfl⟩, by first | decide | omega, hI39, (hF40.up (by decide))⟩
  · refine xg_t (xg_ifF (u := n41) rfl xnm0 (xj_eqF hc43)) ?_
    refine xg_t (xg_aload (va := (2, 82)) rfl rfl) ?_
    refine xg_t (xg_iload (va := (0, la)) rfl rfl) ?_
    refine xg_t (xg_iload (va := (0, ra)) rfl rfl) ?_
    refine xg_t (xg_iload (va := (0, ca)) rfl rfl) ?_
    refine xg_t (xg_aload (va := (2, 82)) rfl rfl) ?_
    refine xg_t (xg_getf (va := (2, 83)) (hF40.get (by decide) h82_31) rfl) ?_
    refine xg_t (xg_bip) ?_
    refine xg_ialdB (n := 12) (B := 4294967295) (h83_34.fr hF40 (by decide)) (hb35) xnm0 (by first | decide | omega) (fun u44 hu45 he46 => ?_)
    refine xg_cVi mX12_isCracked (vs := [(0, la), (0, ra), (0, ca), (0, u44)]) (rest := []) (cn1 := 0) (sl1 := 0) rfl (mCracked (hI39) (by omega) (by omega) (by omega) (by omega)) rfl (hF40.get (by decide) h82_31) rfl rfl rfl rfl rfl rfl (fun n51 w47 hq48 => ?_)
    obtain ⟨hn52, hI49, hF50⟩ := hq48
    by_cases hc53 : n51 = 0
    · refine xg_t (xg_ifF (u := n51) rfl xnm0 (xj_neF hc53)) ?_
      refine xg_t (xg_const) ?_
      refine xg_t (xg_goto) ?_
      refine xg_t (xg_blq rfl) ?_
      exact xg_e ⟨1, w47, ⟨rfl, rfl⟩, by first | decide | omega, hI49, ((hF40.up (by decide)).tr (hF50.up (by decide)))⟩
    · refine xg_t (xg_ifT (u := n51) rfl xnm0 (xj_neT hc53)) ?_
      refine xg_t (xg_blq rfl) ?_
      refine xg_t (xg_const) ?_
      refine xg_t (xg_blq rfl) ?_
      exact xg_e ⟨0, w47, ⟨rfl, rfl⟩, by first | decide | omega, hI49, ((hF40.up (by decide)).tr (hF50.up (by decide)))⟩
theorem mLeads {la ra ca : Nat} (hI : xMnv w) (hla : la ≤ 1) (hra : ra ≤ 4294967295) (hca : ca ≤ 4294967295) : xPi (d + 3) mX12_leads [(2, 82), (0, la), (0, ra), (0, ca)] w bd fc rr (fun n w' => (n ≤ 1) ∧ xMnv w' ∧ xFr [] w w') := by
  refine xPi.of ?_
  show xTo (d + 3) mX12_leads (0, [], [(0, (2, 82)), (1, (0, la)), (2, (0, ra)), (3, (0, ca))], [], (w, bd, fc, 0, 0, rr)) (fun φ => ∃ n w', xEnd 4 [(0, n)] (w', bd, fc, 0, 0, rr) φ ∧ (n ≤ 1) ∧ xMnv w' ∧ xFr [] w w')
  refine xg_t (xg_blq rfl) ?_
  refine xg_t (xg_aload (va := (2, 82)) rfl rfl) ?_
  refine xg_t (xg_iload (va := (0, la)) rfl rfl) ?_
  refine xg_t (xg_iload (va := (0, ra)) rfl rfl) ?_
  refine xg_t (xg_iload (va := (0, ca)) rfl rfl) ?_
  refine xoCh82 (xqc82 hI : cp82 (wget w 82)) (fun f82_1 f82_3 f82_5 f82_7 f82_9 f82_11 f82_13 f82_15 f82_17 f82_19 f82_21 f82_22 f82_23 f82_25 f82_27 f82_29 h82_31 hb2 hb4 hb6 hb8 hb10 hb12 hb14 hb16 hb18 hb20 hb24 hb26 hb28 hb30 hb32 => ?_)
  refine xg_cVi mX12_isLed (vs := [(0, la), (0, ra), (0, ca)]) (rest := []) (cn1 := 0) (sl1 := 0) rfl (mLed (hI) (by omega) (by omega) (by omega)) rfl h82_31 rfl rfl rfl rfl rfl rfl (fun n37 w33 hq34 => ?_)
  obtain ⟨hn38, hI35, hF36⟩ := hq34
  exact xg_e ⟨n37, w33, ⟨xret_b (by omega), rfl⟩, by omega, hI35, (hF36.up (by decide))⟩
theorem mFault {wh : Nat} (hI : xMnv w) (hwh : wh ≤ 4294967295) : xPi d mX12_fault [(2, 82), (0, wh)] w bd fc rr (fun n w' => (n ≤ 4294967295) ∧ xMnv w' ∧ xFr [] w w') := by
  refine xPi.of ?_
  show xTo d mX12_fault (0, [], [(0, (2, 82)), (1, (0, wh))], [], (w, bd, fc, 0, 0, rr)) (fun φ => ∃ n w', xEnd 1 [(0, n)] (w', bd, fc, 0, 0, rr) φ ∧ (n ≤ 4294967295) ∧ xMnv w' ∧ xFr [] w w')
  refine xoCh82 (xqc82 hI : cp82 (wget w 82)) (fun f82_1 f82_3 f82_5 f82_7 f82_9 f82_11 f82_13 f82_15 f82_17 f82_19 f82_21 f82_22 f82_23 f82_25 f82_27 f82_29 h82_31 hb2 hb4 hb6 hb8 hb10 hb12 hb14 hb16 hb18 hb20 hb24 hb26 hb28 hb30 hb32 => ?_)
  refine xoX83 (xqc83 hI : cpx83 (wget w 83)) (fun g83_33 h83_34 hb35 hx36 => ?_)
  refine xg_t (xg_blq rfl) ?_
  refine xg_t (xg_iload (va := (0, wh)) rfl rfl) ?_
  by_cases hc37 : wh = 0
  · refine xg_t (xg_ifF (u := wh) rfl xnm0 (xj_neF hc37)) ?_
    refine xg_t (xg_aload (va := (2, 82)) rfl rfl) ?_
    refine xg_t (xg_getf (va := (2, 83)) h82_31 rfl) ?_
    refine xg_t (xg_bip) ?_
    refine xg_ialdB (n := 16) (B := 4294967295) h83_34 (hb35) xnm0 (by first | decide | omega) (fun u38 hu39 he40 => ?_)
    refine xg_t (xg_goto) ?_
    refine xg_t (xg_blq rfl) ?_
    exact xg_e ⟨u38, w, ⟨rfl, rfl⟩, by omega, hI, xFr.rf⟩
  · refine xg_t (xg_ifT (u := wh) rfl xnm0 (xj_neT hc37)) ?_
    refine xg_t (xg_blq rfl) ?_
    refine xg_t (xg_iload (va := (0, wh)) rfl rfl) ?_
    refine xg_t (xg_const) ?_
    by_cases hc41 : wh = 1
    · refine xg_t (xg_icF (u := wh) (v := 1) rfl xnm0 xnm0 (xj_neF hc41)) ?_
      refine xg_t (xg_aload (va := (2, 82)) rfl rfl) ?_
      refine xg_t (xg_getf (va := (2, 83)) h82_31 rfl) ?_
      refine xg_t (xg_bip) ?_
      refine xg_ialdB (n := 17) (B := 4294967295) h83_34 (hb35) xnm0 (by first | decide | omega) (fun u42 hu43 he44 => ?_)
      refine xg_t (xg_goto) ?_
      refine xg_t (xg_blq rfl) ?_
      exact xg_e ⟨u42, w, ⟨rfl, rfl⟩, by omega, hI, xFr.rf⟩
    · refine xg_t (xg_icT (u := wh) (v := 1) rfl xnm0 xnm0 (xj_neT hc41)) ?_
      refine xg_t (xg_blq rfl) ?_
      refine xg_t (xg_const) ?_
      refine xg_t (xg_blq rfl) ?_
      exact xg_e ⟨4294967295, w, ⟨rfl, rfl⟩, by first | decide | omega, hI, xFr.rf⟩
theorem mSeen (hI : xMnv w)  : xPi d mX12_cracksSeen [(2, 82)] w bd fc rr (fun n w' => (n ≤ 4294967295) ∧ xMnv w' ∧ xFr [] w w') := by
  refine xPi.of ?_
  show xTo d mX12_cracksSeen (0, [], [(0, (2, 82))], [], (w, bd, fc, 0, 0, rr)) (fun φ => ∃ n w', xEnd 1 [(0, n)] (w', bd, fc, 0, 0, rr) φ ∧ (n ≤ 4294967295) ∧ xMnv w' ∧ xFr [] w w')
  refine xoCh82 (xqc82 hI : cp82 (wget w 82)) (fun f82_1 f82_3 f82_5 f82_7 f82_9 f82_11 f82_13 f82_15 f82_17 f82_19 f82_21 f82_22 f82_23 f82_25 f82_27 f82_29 h82_31 hb2 hb4 hb6 hb8 hb10 hb12 hb14 hb16 hb18 hb20 hb24 hb26 hb28 hb30 hb32 => ?_)
  refine xoX83 (xqc83 hI : cpx83 (wget w 83)) (fun g83_33 h83_34 hb35 hx36 => ?_)
  refine xg_t (xg_blq rfl) ?_
  refine xg_t (xg_const) ?_
  refine xg_t (xg_istore (l1 := [(0, (2, 82))]) rfl rfl rfl) ?_
  refine xg_t (xg_const) ?_
  refine xg_t (xg_istore (l1 := [(1, (0, 0)), (0, (2, 82))]) rfl rfl rfl) ?_
  refine xg_t (xg_drop (l1 := [(0, (2, 82)), (1, (0, 0)), (2, (0, 0))]) (List.forall_mem_cons.mpr ⟨List.mem_cons_of_mem _ (List.mem_cons_of_mem _ (List.mem_cons_self)), List.forall_mem_cons.mpr ⟨List.mem_cons_of_mem _ (List.mem_cons_self), List.forall_mem_cons.mpr ⟨List.mem_cons_self, fun _ h => absurd h List.not_mem_nil⟩⟩⟩)) ?_
  have key37 : ∀ (m39 : Nat) (nn ki : Nat) (w40 : List (List xE)), 40 - ki < m39 → nn ≤ 4294967295 → ki ≤ 40 → xMnv w40 → xFr [] w w40 → xTo d mX12_cracksSeen (4, [], [(0, (2, 82)), (1, (0, nn)), (2, (0, ki))], [], (w40, bd, fc, 0, 0, rr)) (fun φ => ∃ n w', xEnd 1 [(0, n)] (w', bd, fc, 0, 0, rr) φ ∧ (n ≤ 4294967295) ∧ xMnv w' ∧ xFr [] w w') := by
    intro m39
    induction m39 with
    | zero => intro nn ki w40 hz; exact absurd hz (Nat.not_lt_zero _)
    | succ m39 ih38 =>
      intro nn ki w40 hm45 hn43 hn44 hI41 hF42
      refine xg_t (xg_blq rfl) ?_
      refine xg_t (xg_iload (va := (0, ki)) rfl rfl) ?_
      refine xg_t (xg_aload (va := (2, 82)) rfl rfl) ?_
      refine xg_t (xg_getf (va := (2, 83)) (hF42.get (by decide) h82_31) rfl) ?_
      refine xg_t (xg_bip) ?_
      refine xg_ialdB (n := 9) (B := 4294967295) (h83_34.fr hF42 (by decide)) (hb35) xnm0 (by first | decide | omega) (fun u46 hu47 he48 => ?_)
      have hl49 : u46 ≤ 40 := by rw [← he48]; exact hx36.l9
      by_cases hc50 : ki < u46
      · refine xg_t (xg_icF (u := ki) (v := u46) rfl xnm0 xnm0 (xj_geF hc50 (by omega))) ?_
        refine xg_t (xg_iload (va := (0, nn)) rfl rfl) ?_
        refine xg_t (xg_aload (va := (2, 82)) rfl rfl) ?_
        refine xg_t (xg_getf (va := (2, 83)) (hF42.get (by decide) h82_31) rfl) ?_
        refine xg_t (xg_bip) ?_
        refine xg_ialdB (n := 12) (B := 4294967295) (h83_34.fr hF42 (by decide)) (hb35) xnm0 (by first | decide | omega) (fun u51 hu52 he53 => ?_)
        refine xg_t (xg_const) ?_
        by_cases hc54 : u51 = 4294967295
        · refine xg_t (xg_icT (u := u51) (v := 4294967295) rfl xnm0 xnm0 (xj_eqT hc54)) ?_
          refine xg_t (xg_blq rfl) ?_
          refine xg_t (xg_const) ?_
          refine xg_t (xg_goto) ?_
          refine xg_t (xg_blq rfl) ?_
          refine xg_k (xg_iadd (u := nn) (v := 1) (z := (nn + 1) % 4294967296) xnm0 xnm0 rfl) (Nat.mod_lt _ (by decide)) (fun z55 hz56 => ?_)
          refine xg_t (xg_istore (l1 := [(0, (2, 82)), (2, (0, ki))]) rfl rfl rfl) ?_
          refine xg_t (xg_iinc (u := ki) (z := ki + 1) (l1 := [(1, (0, z55)), (0, (2, 82))]) rfl rfl (by omega) rfl) ?_
          refine xg_t (xg_goto) ?_
          refine xg_t (xg_drop (l1 := [(0, (2, 82)), (1, (0, z55)), (2, (0, ki + 1))]) (List.forall_mem_cons.mpr ⟨List.mem_cons_of_mem _ (List.mem_cons_of_mem _ (List.mem_cons_self)), List.forall_mem_cons.mpr ⟨List.mem_cons_of_mem _ (List.mem_cons_self), List.forall_mem_cons.mpr ⟨List.mem_cons_self, fun _ h => absurd h List.not_mem_nil⟩⟩⟩)) ?_
          exact ih38 z55 (ki + 1) w40 (by omega) (by omega) (by omega) (hI41) (hF42)
        · refine xg_t (xg_icF (u := u51) (v := 4294967295) rfl xnm0 xnm0 (xj_eqF hc54)) ?_
          refine xg_t (xg_aload (va := (2, 82)) rfl rfl) ?_
          refine xg_t (xg_getf (va := (2, 83)) (hF42.get (by decide) h82_31) rfl) ?_
          refine xg_t (xg_sip) ?_
          refine xg_t (xg_const) ?_
          refine xg_t (xg_iload (va := (0, ki)) rfl rfl) ?_
          refine xg_t (xg_imul (u := 4) (v := ki) (z := 4 * ki) xnm0 xnm0 (by omega)) ?_
          refine xg_t (xg_iadd (u := 140) (v := 4 * ki) (z := 140 + (4 * ki)) xnm0 xnm0 (by omega)) ?_
          refine xg_t (xg_const) ?_
          refine xg_t (xg_iadd (u := 140 + (4 * ki)) (v := 3) (z := (140 + (4 * ki)) + 3) xnm0 xnm0 (by omega)) ?_
          refine xg_ialdB (n := (140 + (4 * ki)) + 3) (B := 4294967295) (h83_34.fr hF42 (by decide)) (hb35) xnm0 (by omega) (fun u57 hu58 he59 => ?_)
          refine xg_t (xg_aload (va := (2, 82)) rfl rfl) ?_
          refine xg_t (xg_getf (va := (2, 83)) (hF42.get (by decide) h82_31) rfl) ?_
          refine xg_t (xg_bip) ?_
          refine xg_ialdB (n := 12) (B := 4294967295) (h83_34.fr hF42 (by decide)) (hb35) xnm0 (by first | decide | omega) (fun u60 hu61 he62 => ?_)
          by_cases hc63 : xbs u60 < xbs u57
          · have hc63u := hc63
            unfold xbs at hc63u
            refine xg_t (xg_icT (u := u57) (v := u60) rfl xnm0 xnm0 (xjs_gtT hc63)) ?_
            refine xg_t (xg_blq rfl) ?_
            refine xg_t (xg_const) ?_
            refine xg_t (xg_blq rfl) ?_
            refine xg_k (xg_iadd (u := nn) (v := 0) (z := (nn + 0) % 4294967296) xnm0 xnm0 rfl) (Nat.mod_lt _ (by decide)) (fun z64 hz65 => ?_)
            refine xg_t (xg_istore (l1 := [(0, (2, 82)), (2, (0, ki))]) rfl rfl rfl) ?_
            refine xg_t (xg_iinc (u := ki) (z := ki + 1) (l1 := [(1, (0, z64)), (0, (2, 82))]) rfl rfl (by omega) rfl) ?_
            refine xg_t (xg_goto) ?_
            refine xg_t (xg_drop (l1 := [(0, (2, 82)), (1, (0, z64)), (2, (0, ki + 1))]) (List.forall_mem_cons.mpr ⟨List.mem_cons_of_mem _ (List.mem_cons_of_mem _ (List.mem_cons_self)), List.forall_mem_cons.mpr ⟨List.mem_cons_of_mem _ (List.mem_cons_self), List.forall_mem_cons.mpr ⟨List.mem_cons_self, fun _ h => absurd h List.not_mem_nil⟩⟩⟩)) ?_
            exact ih38 z64 (ki + 1) w40 (by omega) (by omega) (by omega) (hI41) (hF42)
          · have hc63u := hc63
            unfold xbs at hc63u
            refine xg_t (xg_icF (u := u57) (v := u60) rfl xnm0 xnm0 (xjs_gtF hc63)) ?_
            refine xg_t (xg_blq rfl) ?_
            refine xg_t (xg_const) ?_
            refine xg_t (xg_goto) ?_
            refine xg_t (xg_blq rfl) ?_
            refine xg_k (xg_iadd (u := nn) (v := 1) (z := (nn + 1) % 4294967296) xnm0 xnm0 rfl) (Nat.mod_lt _ (by decide)) (fun z66 hz67 => ?_)
            refine xg_t (xg_istore (l1 := [(0, (2, 82)), (2, (0, ki))]) rfl rfl rfl) ?_
            refine xg_t (xg_iinc (u := ki) (z := ki + 1) (l1 := [(1, (0, z66)), (0, (2, 82))]) rfl rfl (by omega) rfl) ?_
            refine xg_t (xg_goto) ?_
            refine xg_t (xg_drop (l1 := [(0, (2, 82)), (1, (0, z66)), (2, (0, ki + 1))]) (List.forall_mem_cons.mpr ⟨List.mem_cons_of_mem _ (List.mem_cons_of_mem _ (List.mem_cons_self)), List.forall_mem_cons.mpr ⟨List.mem_cons_of_mem _ (List.mem_cons_self), List.forall_mem_cons.mpr ⟨List.mem_cons_self, fun _ h => absurd h List.not_mem_nil⟩⟩⟩)) ?_
            exact ih38 z66 (ki + 1) w40 (by omega) (by omega) (by omega) (hI41) (hF42)
      · refine xg_t (xg_icT (u := ki) (v := u46) rfl xnm0 xnm0 (xj_geT (by omega) (by omega))) ?_
        refine xg_t (xg_blq rfl) ?_
        refine xg_t (xg_iload (va := (0, nn)) rfl rfl) ?_
        exact xg_e ⟨nn, w40, ⟨rfl, rfl⟩, by omega, hI41, hF42⟩
  exact key37 _ 0 0 w (Nat.lt_succ_self _) (by omega) (by omega) (hI) (xFr.rf)
theorem mLooks (hI : xMnv w)  : xPq (d + 3) mX12_looks [(2, 82)] w bd fc rr [] (fun w' => xMnv w' ∧ xFr [99, 100] w w') := by
  refine xPq.of ?_
  show xTo (d + 3) mX12_looks (0, [], [(0, (2, 82))], [], (w, bd, fc, 0, 0, rr)) (fun φ => ∃ w', xEnd 0 [] (w', bd, fc, 0, 0, rr) φ ∧ xMnv w' ∧ xFr [99, 100] w w')
  refine xoCh82 (xqc82 hI : cp82 (wget w 82)) (fun f82_1 f82_3 f82_5 f82_7 f82_9 f82_11 f82_13 f82_15 f82_17 f82_19 f82_21 f82_22 f82_23 f82_25 f82_27 f82_29 h82_31 hb2 hb4 hb6 hb8 hb10 hb12 hb14 hb16 hb18 hb20 hb24 hb26 hb28 hb30 hb32 => ?_)
  refine xoX83 (xqc83 hI : cpx83 (wget w 83)) (fun g83_33 h83_34 hb35 hx36 => ?_)
  refine xg_t (xg_blq rfl) ?_
  refine xg_t (xg_const) ?_
  refine xg_t (xg_istore (l1 := [(0, (2, 82))]) rfl rfl rfl) ?_
  refine xg_t (xg_drop (l1 := [(0, (2, 82)), (1, (0, 0))]) (List.forall_mem_cons.mpr ⟨List.mem_cons_of_mem _ (List.mem_cons_self), List.forall_mem_cons.mpr ⟨List.mem_cons_self, fun _ h => absurd h List.not_mem_nil⟩⟩)) ?_
  have key37 : ∀ (m39 : Nat) (ki : Nat) (w40 : List (List xE)), 36 - ki < m39 → ki ≤ 36 → xMnv w40 → xFr [99, 100] w w40 → xTo (d + 3) mX12_looks (2, [], [(0, (2, 82)), (1, (0, ki))], [], (w40, bd, fc, 0, 0, rr)) (fun φ => ∃ w', xEnd 0 [] (w', bd, fc, 0, 0, rr) φ ∧ xMnv w' ∧ xFr [99, 100] w w') := by
    intro m39
    induction m39 with
    | zero => intro ki w40 hz; exact absurd hz (Nat.not_lt_zero _)
    | succ m39 ih38 =>
      intro ki w40 hm44 hn43 hI41 hF42
      refine xg_t (xg_blq rfl) ?_
      refine xg_t (xg_iload (va := (0, ki)) rfl rfl) ?_
      refine xg_t (xg_bip) ?_
      by_cases hc45 : ki < 36
      · refine xg_t (xg_icF (u := ki) (v := 36) rfl xnm0 xnm0 (xj_geF hc45 (by omega))) ?_
        refine xg_t (xg_aload (va := (2, 82)) rfl rfl) ?_
        refine xg_t (xg_getf (va := (2, 99)) (hF42.get (by decide) h82_31) rfl) ?_
        refine xg_t (xg_iload (va := (0, ki)) rfl rfl) ?_
        refine xg_t (xg_aload (va := (2, 82)) rfl rfl) ?_
        refine xg_t (xg_const) ?_
        refine xg_t (xg_iload (va := (0, ki)) rfl rfl) ?_
        refine xg_t (xg_bip) ?_
        refine xg_t (xg_idiv (u := ki) (v := 6) (z := ki / 6) xnm0 xnm0 (by omega) (by decide) (by decide) (rfl)) ?_
        refine xg_t (xg_iload (va := (0, ki)) rfl rfl) ?_
        refine xg_t (xg_bip) ?_
        refine xg_t (xg_irem (u := ki) (v := 6) (z := ki % 6) xnm0 xnm0 (by omega) (by decide) (by decide) (rfl)) ?_
        refine xg_cVi mX12_isLed (vs := [(0, 0), (0, ki / 6), (0, ki % 6)]) (rest := [(0, ki), (2, 99)]) (cn1 := 0) (sl1 := 0) rfl (mLed (hI41) (by omega) (by omega) (by omega)) rfl (hF42.get (by decide) h82_31) rfl rfl rfl rfl rfl rfl (fun n50 w46 hq47 => ?_)
        obtain ⟨hn51, hI48, hF49⟩ := hq47
        obtain ⟨g99_52, h99_53, hb54, hx55⟩ := (xqc99 hI48 : cpx99 (wget w46 99))
        have h99_53 : xRk 2 0 w46 99 36 66 g99_52 := h99_53
        refine xg_bastZ (n := ki) (u := n50) h99_53 xnm0 xnm0 rfl (by omega) (by omega) (fun w56 hr57 hb58 => ?_)
        refine xg_t (xg_aload (va := (2, 82)) rfl rfl) ?_
        refine xg_t (xg_getf (va := (2, 100)) (hb58.get (by decide) (hF49.get (by decide) (hF42.get (by decide) h82_31))) rfl) ?_
        refine xg_t (xg_iload (va := (0, ki)) rfl rfl) ?_
        refine xg_t (xg_aload (va := (2, 82)) rfl rfl) ?_
        refine xg_t (xg_const) ?_
        refine xg_t (xg_iload (va := (0, ki)) rfl rfl) ?_
        refine xg_t (xg_bip) ?_
        refine xg_t (xg_idiv (u := ki) (v := 6) (z := ki / 6) xnm0 xnm0 (by omega) (by decide) (by decide) (rfl)) ?_
        refine xg_t (xg_iload (va := (0, ki)) rfl rfl) ?_
        refine xg_t (xg_bip) ?_
        refine xg_t (xg_irem (u := ki) (v := 6) (z := ki % 6) xnm0 xnm0 (by omega) (by decide) (by decide) (rfl)) ?_
        refine xg_cVi mX12_isLed (vs := [(0, 1), (0, ki / 6), (0, ki % 6)]) (rest := [(0, ki), (2, 100)]) (cn1 := 0) (sl1 := 0) rfl (mLed (xMnv.up (S := [99]) hI48 (xFr.of (S := [99]) hb58 (by decide)) (List.forall_mem_cons.mpr ⟨xqu99 (show cpx99 (wget w56 99) from ⟨_, hr57, xrb (by omega) (hb54), (hx55.upd (by omega))⟩), fun _ h => absurd h List.not_mem_nil⟩)) (by omega) (by omega) (by omega)) rfl (hb58.get (by decide) (hF49.get (by decide) (hF42.get (by decide) h82_31))) rfl rfl rfl rfl rfl rfl (fun n63 w59 hq60 => ?_)
        obtain ⟨hn64, hI61, hF62⟩ := hq60
        obtain ⟨g100_65, h100_66, hb67, hx68⟩ := (xqc100 hI61 : cpx100 (wget w59 100))
        have h100_66 : xRk 2 0 w59 100 36 67 g100_65 := h100_66
        refine xg_bastZ (n := ki) (u := n63) h100_66 xnm0 xnm0 rfl (by omega) (by omega) (fun w69 hr70 hb71 => ?_)
        refine xg_t (xg_iinc (u := ki) (z := ki + 1) (l1 := [(0, (2, 82))]) rfl rfl (by omega) rfl) ?_
        refine xg_t (xg_goto) ?_
        refine xg_t (xg_drop (l1 := [(0, (2, 82)), (1, (0, ki + 1))]) (List.forall_mem_cons.mpr ⟨List.mem_cons_of_mem _ (List.mem_cons_self), List.forall_mem_cons.mpr ⟨List.mem_cons_self, fun _ h => absurd h List.not_mem_nil⟩⟩)) ?_
        exact ih38 (ki + 1) w69 (by omega) (by omega) (xMnv.up (S := [100]) hI61 (xFr.of (S := [100]) hb71 (by decide)) (List.forall_mem_cons.mpr ⟨xqu100 (show cpx100 (wget w69 100) from ⟨_, hr70, xrb (by omega) (hb67), (hx68.upd (by omega))⟩), fun _ h => absurd h List.not_mem_nil⟩)) (((((hF42.tr (hF49.up (by decide))).tr (xFr.of (S := [99, 100]) hb58 (by decide))).tr (hF62.up (by decide))).tr (xFr.of (S := [99, 100]) hb71 (by decide))))
      · refine xg_t (xg_icT (u := ki) (v := 36) rfl xnm0 xnm0 (xj_geT (by omega) (by omega))) ?_
        refine xg_t (xg_blq rfl) ?_
        exact xg_e ⟨w40, ⟨rfl, rfl⟩, hI41, hF42⟩
  exact key37 _ 0 w (Nat.lt_succ_self _) (by omega) (hI) (xFr.rf)
end XM1
