/-! the model: rules -/
def RD (w : List (List xE)) : Prop := fld w 82 14 ≤ 16 ∧ ∀ l, l < fld w 82 14 → rwv w 112 (20 * l) ≤ 4
theorem rules_ok {f g h r : Nat → Nat} {L : Nat} (hf : okA f) (h1 : ∀ i, 0 ≤ i → i < 320 → g (1020 + i) = r i) (h2 : ∀ j, j < 1020 + 0 ∨ 1020 + 320 ≤ j → g j = f j) (hl : L ≤ 16) (hR : ∀ l, l < L → r (20 * l) ≤ 4) (h3 : h 902 = L) (h4 : ∀ j, j ≠ 902 → h j = g j) : okA h := by
  have e : ∀ j, j < 1020 → j ≠ 902 → h j = f j := fun j hj hn => by rw [h4 j hn, h2 j (by omega)]
  have e0 := e 0 (by decide) (by decide)
  have e1 := e 1 (by decide) (by decide)
  have e2 := e 2 (by decide) (by decide)
  have e3 := e 3 (by decide) (by decide)
  have e4 := e 4 (by decide) (by decide)
  have e5 := e 5 (by decide) (by decide)
  have e6 := e 6 (by decide) (by decide)
  have e7 := e 7 (by decide) (by decide)
  have e8 := e 8 (by decide) (by decide)
  have e9 := e 9 (by decide) (by decide)
  have e10 := e 10 (by decide) (by decide)
  have e13 := e 13 (by decide) (by decide)
  have e15 := e 15 (by decide) (by decide)
  have e900 := e 900 (by decide) (by decide)
  have e901 := e 901 (by decide) (by decide)
  obtain ⟨b0, b1, b2, b3, b4, b5, b6, b7, b8, b9, b10, b11, b12, b13, b14, b15, b16⟩ := hf.lits
  refine hf.mk0 (fun j hj => by rw [h4 j (by omega), h2 j (by omega)]) (okB.of0 ⟨by omega, by omega, by omega, by omega, by omega, by omega, by omega, by omega, by omega, by omega, by omega, by omega, by omega, by omega, by omega, by omega, by omega⟩ ?_ ?_ ?_ ?_)
  · intro k i hk hi
    rw [e _ (by omega) (by omega)]
    exact hf.lay (by omega) hi
  · intro k hk
    rw [e _ (by omega) (by omega)]
    exact hf.lif (by omega)
  · intro p i hk hi
    rw [e _ (by omega) (by omega)]
    exact hf.pic (by omega) hi
  · intro l hk
    rw [h4 _ (by omega), h1 (20 * l) (by omega) (by omega)]
    exact hR l (by omega)
theorem RD.fr {S : List Nat} {w w' : List (List xE)} (h : RD w) (hf : xFr S w w') (h1 : 112 ∉ S) (h2 : fld w' 82 14 = fld w 82 14) : RD w' := by
  refine ⟨by rw [h2]; exact h.1, fun l hl => ?_⟩
  rw [rwv_fr hf h1]
  exact h.2 l (by rw [← h2]; exact hl)
section XME
variable {d : Nat} {w : List (List xE)} {bd : List (Nat × Nat)} {fc : List (Nat × Nat × Bool)} {rr : Nat × Nat}
theorem mTakes {wq : Nat} (hI : xMnv w) (hwq : wq ≤ 4294967295) (hps : PS w) : xPi (d + 5) mX12_takes [(2, 82), (0, wq)] w bd fc rr (fun n w' => (n ≤ 1 ∧ PK w w' ∧ (n = 1 → mu w' < mu w)) ∧ xMnv w' ∧ xFr [82] w w') := by
  refine xPi.of ?_
  show xTo (d + 5) mX12_takes (0, [], [(0, (2, 82)), (1, (0, wq))], [], (w, bd, fc, 0, 0, rr)) (fun φ => ∃ n w', xEnd 4 [(0, n)] (w', bd, fc, 0, 0, rr) φ ∧ (n ≤ 1 ∧ PK w w' ∧ (n = 1 → mu w' < mu w)) ∧ xMnv w' ∧ xFr [82] w w')
  obtain ⟨f82_1, f82_3, f82_5, f82_7, f82_9, f82_11, f82_13, f82_15, f82_17, f82_19, f82_21, f82_22, f82_23, f82_25, f82_27, f82_29, h82_31, hb2, hb4, hb6, hb8, hb10, hb12, hb14, hb16, hb18, hb20, hb24, hb26, hb28, hb30, hb32⟩ := (hI 82 (by decide) (by decide) : cp82 (wget w 82))
  have hf33 : fld w 82 4 = f82_5 := fld_of h82_31
  have hf34 : fld w 82 5 = f82_7 := fld_of h82_31
  have hf35 : fld w 82 7 = f82_11 := fld_of h82_31
  have hf36 : fld w 82 10 = f82_17 := fld_of h82_31
  have hf37 : fld w 82 14 = f82_19 := fld_of h82_31
  have hps_ : fld w 82 10 = 0 ∨ FA w ≠ 0 := hps
  refine xg_t (xg_blk (b := [(0, 1, 0, 0, 0, 0), (1, 3, 1, 12, 10, 180), (4, 3, 7, 23, 1, 0), (7, 1, 0, 0, 0, 0), (8, 3, 1, 12, 7, 151), (11, 1, 3, 3, 0, 0), (12, 3, 6, 23, 1, 0), (15, 1, 0, 0, 0, 0), (16, 3, 1, 12, 9, 165), (19, 1, 2, 1, 0, 0), (20, 3, 6, 25, 0, 0)]) rfl) ?_
  refine xg_t (xg_aload (va := (2, 82)) rfl rfl) ?_
  refine xg_t (xg_getf (va := (0, f82_17)) h82_31 rfl) ?_
  by_cases hc38 : f82_17 = 0
  · refine xg_t (xg_ifF (u := f82_17) rfl xnm0 (xj_neF hc38)) ?_
    refine xg_t (xg_aload (va := (2, 82)) rfl rfl) ?_
    refine xg_t (xg_getf (va := (0, f82_11)) h82_31 rfl) ?_
    refine xg_t (xg_const) ?_
    by_cases hc39 : f82_11 = 3
    · refine xg_t (xg_icF (u := f82_11) (v := 3) rfl xnm0 xnm0 (xj_neF hc39)) ?_
      refine xg_t (xg_aload (va := (2, 82)) rfl rfl) ?_
      refine xg_t (xg_getf (va := (0, f82_15)) h82_31 rfl) ?_
      refine xg_t (xg_iload (va := (0, wq)) rfl rfl) ?_
      by_cases hc40 : f82_15 = wq
      · refine xg_t (xg_icT (u := f82_15) (v := wq) rfl xnm0 xnm0 (xj_eqT hc40)) ?_
        refine xg_t (xg_blk (b := [(25, 1, 0, 0, 0, 0), (26, 3, 13, 110, 96, 190), (29, 1, 3, 1, 0, 0), (30, 1, 12, 0, 1, 0)]) rfl) ?_
        refine xg_t (xg_aload (va := (2, 82)) rfl rfl) ?_
        refine xg_cVv mX12_advance (vs := []) (rest := []) (cn1 := 0) (sl1 := 0) rfl (mAdvance (hI)) rfl h82_31 rfl rfl rfl rfl rfl rfl (fun w41 hq42 => ?_)
        obtain ⟨hI43, hF44, hx45⟩ := hq42
        obtain ⟨hv46, hv47, hv48, hv49⟩ := hx45
        have hf50 := FA_fr hF44 (by decide)
        refine xg_t (xg_const) ?_
        exact xg_e ⟨1, w41, ⟨rfl, rfl⟩, ⟨by omega, ⟨fun _ => by omega, by omega, by omega, (show fld w41 82 10 = 0 ∨ FA w41 ≠ 0 by omega), (K83.fr hF44 (by decide))⟩, fun _ => by omega⟩, hI43, (hF44.up (by decide))⟩
      · refine xg_t (xg_icF (u := f82_15) (v := wq) rfl xnm0 xnm0 (xj_eqF hc40)) ?_
        refine xg_t (xg_blk (b := [(23, 1, 3, 0, 0, 0), (24, 1, 12, 0, 1, 0)]) rfl) ?_
        refine xg_t (xg_const) ?_
        exact xg_e ⟨0, w, ⟨rfl, rfl⟩, ⟨by omega, PK.rf hps, fun _ => by omega⟩, hI, xFr.rf⟩
    · refine xg_t (xg_icT (u := f82_11) (v := 3) rfl xnm0 xnm0 (xj_neT hc39)) ?_
      refine xg_t (xg_blk (b := [(23, 1, 3, 0, 0, 0), (24, 1, 12, 0, 1, 0)]) rfl) ?_
      refine xg_t (xg_const) ?_
      exact xg_e ⟨0, w, ⟨rfl, rfl⟩, ⟨by omega, PK.rf hps, fun _ => by omega⟩, hI, xFr.rf⟩
  · refine xg_t (xg_ifT (u := f82_17) rfl xnm0 (xj_neT hc38)) ?_
    refine xg_t (xg_blk (b := [(23, 1, 3, 0, 0, 0), (24, 1, 12, 0, 1, 0)]) rfl) ?_
    refine xg_t (xg_const) ?_
    exact xg_e ⟨0, w, ⟨rfl, rfl⟩, ⟨by omega, PK.rf hps, fun _ => by omega⟩, hI, xFr.rf⟩
theorem mMust {cq : Nat} (hI : xMnv w) (hcq : cq ≤ 4294967295) (hps : PS w) : xPq (d + 5) mX12_must [(2, 82), (0, cq)] w bd fc rr [] (fun w' => xMnv w' ∧ xFr [82, 83] w w' ∧ (PK w w')) := by
  refine xPq.of ?_
  show xTo (d + 5) mX12_must (0, [], [(0, (2, 82)), (1, (0, cq))], [], (w, bd, fc, 0, 0, rr)) (fun φ => ∃ w', xEnd 0 [] (w', bd, fc, 0, 0, rr) φ ∧ xMnv w' ∧ xFr [82, 83] w w' ∧ (PK w w'))
  obtain ⟨f82_1, f82_3, f82_5, f82_7, f82_9, f82_11, f82_13, f82_15, f82_17, f82_19, f82_21, f82_22, f82_23, f82_25, f82_27, f82_29, h82_31, hb2, hb4, hb6, hb8, hb10, hb12, hb14, hb16, hb18, hb20, hb24, hb26, hb28, hb30, hb32⟩ := (hI 82 (by decide) (by decide) : cp82 (wget w 82))
  have hf33 : fld w 82 4 = f82_5 := fld_of h82_31
  have hf34 : fld w 82 5 = f82_7 := fld_of h82_31
  have hf35 : fld w 82 7 = f82_11 := fld_of h82_31
  have hf36 : fld w 82 10 = f82_17 := fld_of h82_31
  have hf37 : fld w 82 14 = f82_19 := fld_of h82_31
  have hps_ : fld w 82 10 = 0 ∨ FA w ≠ 0 := hps
  refine xg_t (xg_blk (b := [(0, 1, 0, 0, 0, 0), (1, 3, 1, 12, 10, 180), (4, 3, 7, 30, 1, 0), (7, 1, 0, 0, 0, 0), (8, 3, 1, 12, 7, 151), (11, 1, 3, 2, 0, 0), (12, 3, 6, 30, 1, 0), (15, 1, 0, 0, 0, 0), (16, 3, 1, 12, 3, 174), (19, 1, 2, 1, 0, 0), (20, 3, 6, 30, 1, 0), (23, 1, 0, 0, 0, 0), (24, 3, 13, 110, 96, 190), (27, 3, 8, 34, 0, 0)]) rfl) ?_
  refine xg_t (xg_aload (va := (2, 82)) rfl rfl) ?_
  refine xg_t (xg_getf (va := (0, f82_17)) h82_31 rfl) ?_
  by_cases hc38 : f82_17 = 0
  · refine xg_t (xg_ifF (u := f82_17) rfl xnm0 (xj_neF hc38)) ?_
    refine xg_t (xg_aload (va := (2, 82)) rfl rfl) ?_
    refine xg_t (xg_getf (va := (0, f82_11)) h82_31 rfl) ?_
    refine xg_t (xg_const) ?_
    by_cases hc39 : f82_11 = 2
    · refine xg_t (xg_icF (u := f82_11) (v := 2) rfl xnm0 xnm0 (xj_neF hc39)) ?_
      refine xg_t (xg_aload (va := (2, 82)) rfl rfl) ?_
      refine xg_t (xg_getf (va := (0, f82_3)) h82_31 rfl) ?_
      refine xg_t (xg_iload (va := (0, cq)) rfl rfl) ?_
      by_cases hc40 : f82_3 = cq
      · refine xg_t (xg_icF (u := f82_3) (v := cq) rfl xnm0 xnm0 (xj_neF hc40)) ?_
        refine xg_t (xg_aload (va := (2, 82)) rfl rfl) ?_
        refine xg_cVv mX12_advance (vs := []) (rest := []) (cn1 := 0) (sl1 := 0) rfl (mAdvance (hI)) rfl h82_31 rfl rfl rfl rfl rfl rfl (fun w41 hq42 => ?_)
        obtain ⟨hI43, hF44, hx45⟩ := hq42
        obtain ⟨hv46, hv47, hv48, hv49⟩ := hx45
        have hf50 := FA_fr hF44 (by decide)
        refine xg_t (xg_goto) ?_
        refine xg_t (xg_blk (b := [(34, 1, 12, 0, 0, 0)]) rfl) ?_
        exact xg_e ⟨w41, ⟨rfl, rfl⟩, hI43, (hF44.up (by decide)), ⟨fun _ => by omega, by omega, by omega, (show fld w41 82 10 = 0 ∨ FA w41 ≠ 0 by omega), (K83.fr hF44 (by decide))⟩⟩
      · refine xg_t (xg_icT (u := f82_3) (v := cq) rfl xnm0 xnm0 (xj_neT hc40)) ?_
        refine xg_t (xg_blk (b := [(30, 1, 0, 0, 0, 0), (31, 3, 13, 140, 96, 183)]) rfl) ?_
        refine xg_t (xg_aload (va := (2, 82)) rfl rfl) ?_
        refine xg_cVv mX12_ends (vs := []) (rest := []) (cn1 := 0) (sl1 := 0) rfl (mEnds (hI) (show fld w 82 10 = 0 ∨ FA w ≠ 0 by omega)) rfl h82_31 rfl rfl rfl rfl rfl rfl (fun w51 hq52 => ?_)
        obtain ⟨hI53, hF54, hx55⟩ := hq52
        obtain ⟨hv56, hv57, hv58, hv59, hv60⟩ := hx55
        refine xg_t (xg_blk (b := [(34, 1, 12, 0, 0, 0)]) rfl) ?_
        exact xg_e ⟨w51, ⟨rfl, rfl⟩, hI53, (hF54.up (by decide)), ⟨fun _ => by omega, by omega, by omega, (show fld w51 82 10 = 0 ∨ FA w51 ≠ 0 by omega), hv60⟩⟩
    · refine xg_t (xg_icT (u := f82_11) (v := 2) rfl xnm0 xnm0 (xj_neT hc39)) ?_
      refine xg_t (xg_blk (b := [(30, 1, 0, 0, 0, 0), (31, 3, 13, 140, 96, 183)]) rfl) ?_
      refine xg_t (xg_aload (va := (2, 82)) rfl rfl) ?_
      refine xg_cVv mX12_ends (vs := []) (rest := []) (cn1 := 0) (sl1 := 0) rfl (mEnds (hI) (show fld w 82 10 = 0 ∨ FA w ≠ 0 by omega)) rfl h82_31 rfl rfl rfl rfl rfl rfl (fun w61 hq62 => ?_)
      obtain ⟨hI63, hF64, hx65⟩ := hq62
      obtain ⟨hv66, hv67, hv68, hv69, hv70⟩ := hx65
      refine xg_t (xg_blk (b := [(34, 1, 12, 0, 0, 0)]) rfl) ?_
      exact xg_e ⟨w61, ⟨rfl, rfl⟩, hI63, (hF64.up (by decide)), ⟨fun _ => by omega, by omega, by omega, (show fld w61 82 10 = 0 ∨ FA w61 ≠ 0 by omega), hv70⟩⟩
  · refine xg_t (xg_ifT (u := f82_17) rfl xnm0 (xj_neT hc38)) ?_
    refine xg_t (xg_blk (b := [(30, 1, 0, 0, 0, 0), (31, 3, 13, 140, 96, 183)]) rfl) ?_
    refine xg_t (xg_aload (va := (2, 82)) rfl rfl) ?_
    refine xg_cVv mX12_ends (vs := []) (rest := []) (cn1 := 0) (sl1 := 0) rfl (mEnds (hI) (show fld w 82 10 = 0 ∨ FA w ≠ 0 by omega)) rfl h82_31 rfl rfl rfl rfl rfl rfl (fun w71 hq72 => ?_)
    obtain ⟨hI73, hF74, hx75⟩ := hq72
    obtain ⟨hv76, hv77, hv78, hv79, hv80⟩ := hx75
    refine xg_t (xg_blk (b := [(34, 1, 12, 0, 0, 0)]) rfl) ?_
    exact xg_e ⟨w71, ⟨rfl, rfl⟩, hI73, (hF74.up (by decide)), ⟨fun _ => by omega, by omega, by omega, (show fld w71 82 10 = 0 ∨ FA w71 ≠ 0 by omega), hv80⟩⟩
theorem mNumberNow (hI : xMnv w) (hps : PS w) : xPi (d + 5) mX12_numberNow [(2, 82)] w bd fc rr (fun n w' => (n ≤ 4294967295 ∧ PK w w') ∧ xMnv w' ∧ xFr [82, 83] w w') := by
  refine xPi.of ?_
  show xTo (d + 5) mX12_numberNow (0, [], [(0, (2, 82))], [], (w, bd, fc, 0, 0, rr)) (fun φ => ∃ n w', xEnd 1 [(0, n)] (w', bd, fc, 0, 0, rr) φ ∧ (n ≤ 4294967295 ∧ PK w w') ∧ xMnv w' ∧ xFr [82, 83] w w')
  obtain ⟨f82_1, f82_3, f82_5, f82_7, f82_9, f82_11, f82_13, f82_15, f82_17, f82_19, f82_21, f82_22, f82_23, f82_25, f82_27, f82_29, h82_31, hb2, hb4, hb6, hb8, hb10, hb12, hb14, hb16, hb18, hb20, hb24, hb26, hb28, hb30, hb32⟩ := (hI 82 (by decide) (by decide) : cp82 (wget w 82))
  have hf33 : fld w 82 4 = f82_5 := fld_of h82_31
  have hf34 : fld w 82 5 = f82_7 := fld_of h82_31
  have hf35 : fld w 82 7 = f82_11 := fld_of h82_31
  have hf36 : fld w 82 10 = f82_17 := fld_of h82_31
  have hf37 : fld w 82 14 = f82_19 := fld_of h82_31
  have hps_ : fld w 82 10 = 0 ∨ FA w ≠ 0 := hps
  refine xg_t (xg_blk (b := [(0, 1, 0, 0, 0, 0), (1, 3, 1, 12, 8, 171), (4, 1, 15, 1, 0, 0), (5, 1, 0, 0, 0, 0), (6, 3, 1, 12, 10, 180), (9, 3, 7, 27, 1, 0), (12, 1, 0, 0, 0, 0), (13, 3, 1, 12, 7, 151), (16, 1, 3, 1, 0, 0), (17, 3, 6, 27, 1, 0), (20, 1, 0, 0, 0, 0), (21, 3, 13, 110, 96, 190), (24, 3, 8, 31, 0, 0)]) rfl) ?_
  refine xg_t (xg_aload (va := (2, 82)) rfl rfl) ?_
  refine xg_t (xg_getf (va := (0, f82_13)) h82_31 rfl) ?_
  refine xg_t (xg_istore (l1 := [(0, (2, 82))]) rfl rfl rfl) ?_
  refine xg_t (xg_aload (va := (2, 82)) rfl rfl) ?_
  refine xg_t (xg_getf (va := (0, f82_17)) h82_31 rfl) ?_
  by_cases hc38 : f82_17 = 0
  · refine xg_t (xg_ifF (u := f82_17) rfl xnm0 (xj_neF hc38)) ?_
    refine xg_t (xg_aload (va := (2, 82)) rfl rfl) ?_
    refine xg_t (xg_getf (va := (0, f82_11)) h82_31 rfl) ?_
    refine xg_t (xg_const) ?_
    by_cases hc39 : f82_11 = 1
    · refine xg_t (xg_icF (u := f82_11) (v := 1) rfl xnm0 xnm0 (xj_neF hc39)) ?_
      refine xg_t (xg_aload (va := (2, 82)) rfl rfl) ?_
      refine xg_cVv mX12_advance (vs := []) (rest := []) (cn1 := 0) (sl1 := 0) rfl (mAdvance (hI)) rfl h82_31 rfl rfl rfl rfl rfl rfl (fun w40 hq41 => ?_)
      obtain ⟨hI42, hF43, hx44⟩ := hq41
      obtain ⟨hv45, hv46, hv47, hv48⟩ := hx44
      have hf49 := FA_fr hF43 (by decide)
      refine xg_t (xg_goto) ?_
      refine xg_t (xg_blk (b := [(31, 1, 2, 1, 0, 0), (32, 1, 12, 0, 1, 0)]) rfl) ?_
      refine xg_t (xg_iload (va := (0, f82_13)) rfl rfl) ?_
      exact xg_e ⟨f82_13, w40, ⟨rfl, rfl⟩, ⟨by omega, ⟨fun _ => by omega, by omega, by omega, (show fld w40 82 10 = 0 ∨ FA w40 ≠ 0 by omega), (K83.fr hF43 (by decide))⟩⟩, hI42, (hF43.up (by decide))⟩
    · refine xg_t (xg_icT (u := f82_11) (v := 1) rfl xnm0 xnm0 (xj_neT hc39)) ?_
      refine xg_t (xg_blk (b := [(27, 1, 0, 0, 0, 0), (28, 3, 13, 140, 96, 183)]) rfl) ?_
      refine xg_t (xg_aload (va := (2, 82)) rfl rfl) ?_
      refine xg_cVv mX12_ends (vs := []) (rest := []) (cn1 := 0) (sl1 := 0) rfl (mEnds (hI) (show fld w 82 10 = 0 ∨ FA w ≠ 0 by omega)) rfl h82_31 rfl rfl rfl rfl rfl rfl (fun w50 hq51 => ?_)
      obtain ⟨hI52, hF53, hx54⟩ := hq51
      obtain ⟨hv55, hv56, hv57, hv58, hv59⟩ := hx54
      refine xg_t (xg_blk (b := [(31, 1, 2, 1, 0, 0), (32, 1, 12, 0, 1, 0)]) rfl) ?_
      refine xg_t (xg_iload (va := (0, f82_13)) rfl rfl) ?_
      exact xg_e ⟨f82_13, w50, ⟨rfl, rfl⟩, ⟨by omega, ⟨fun _ => by omega, by omega, by omega, (show fld w50 82 10 = 0 ∨ FA w50 ≠ 0 by omega), hv59⟩⟩, hI52, (hF53.up (by decide))⟩
  · refine xg_t (xg_ifT (u := f82_17) rfl xnm0 (xj_neT hc38)) ?_
    refine xg_t (xg_blk (b := [(27, 1, 0, 0, 0, 0), (28, 3, 13, 140, 96, 183)]) rfl) ?_
    refine xg_t (xg_aload (va := (2, 82)) rfl rfl) ?_
    refine xg_cVv mX12_ends (vs := []) (rest := []) (cn1 := 0) (sl1 := 0) rfl (mEnds (hI) (show fld w 82 10 = 0 ∨ FA w ≠ 0 by omega)) rfl h82_31 rfl rfl rfl rfl rfl rfl (fun w60 hq61 => ?_)
    obtain ⟨hI62, hF63, hx64⟩ := hq61
    obtain ⟨hv65, hv66, hv67, hv68, hv69⟩ := hx64
    refine xg_t (xg_blk (b := [(31, 1, 2, 1, 0, 0), (32, 1, 12, 0, 1, 0)]) rfl) ?_
    refine xg_t (xg_iload (va := (0, f82_13)) rfl rfl) ?_
    exact xg_e ⟨f82_13, w60, ⟨rfl, rfl⟩, ⟨by omega, ⟨fun _ => by omega, by omega, by omega, (show fld w60 82 10 = 0 ∨ FA w60 ≠ 0 by omega), hv69⟩⟩, hI62, (hF63.up (by decide))⟩
theorem mATest (hI : xMnv w) (hps : PS w) : xPq (d + 6) mX12_aTest [(2, 82)] w bd fc rr [] (fun w' => xMnv w' ∧ xFr [82, 83, 113] w w' ∧ (PK w w')) := by
  refine xPq.of ?_
  show xTo (d + 6) mX12_aTest (0, [], [(0, (2, 82))], [], (w, bd, fc, 0, 0, rr)) (fun φ => ∃ w', xEnd 0 [] (w', bd, fc, 0, 0, rr) φ ∧ xMnv w' ∧ xFr [82, 83, 113] w w' ∧ (PK w w'))
  obtain ⟨f82_1, f82_3, f82_5, f82_7, f82_9, f82_11, f82_13, f82_15, f82_17, f82_19, f82_21, f82_22, f82_23, f82_25, f82_27, f82_29, h82_31, hb2, hb4, hb6, hb8, hb10, hb12, hb14, hb16, hb18, hb20, hb24, hb26, hb28, hb30, hb32⟩ := (hI 82 (by decide) (by decide) : cp82 (wget w 82))
  have hf33 : fld w 82 4 = f82_5 := fld_of h82_31
  have hf34 : fld w 82 5 = f82_7 := fld_of h82_31
  have hf35 : fld w 82 7 = f82_11 := fld_of h82_31
  have hf36 : fld w 82 10 = f82_17 := fld_of h82_31
  have hf37 : fld w 82 14 = f82_19 := fld_of h82_31
  have hps_ : fld w 82 10 = 0 ∨ FA w ≠ 0 := hps
  obtain ⟨g113_38, h113_39, hb40⟩ := (hI 113 (by decide) (by decide) : cpI 4 80 4294967295 (wget w 113))
  have h113_39 : xRow w 113 4 80 g113_38 := h113_39
  refine xg_t (xg_blk (b := [(0, 1, 0, 0, 0, 0), (1, 3, 1, 12, 46, 102), (4, 1, 3, 0, 0, 0), (5, 1, 0, 0, 0, 0), (6, 2, 4, 52, 0, 0), (8, 3, 13, 227, 96, 415), (11, 3, 7, 18, 0, 0), (14, 1, 3, 1, 0, 0), (15, 3, 8, 19, 0, 0)]) rfl) ?_
  refine xg_t (xg_aload (va := (2, 82)) rfl rfl) ?_
  refine xg_t (xg_getf (va := (2, 113)) h82_31 rfl) ?_
  refine xg_t (xg_const) ?_
  refine xg_t (xg_aload (va := (2, 82)) rfl rfl) ?_
  refine xg_t (xg_bip) ?_
  refine xg_cVi mX12_takes (vs := [(0, 52)]) (rest := [(0, 0), (2, 113)]) (cn1 := 0) (sl1 := 0) rfl (mTakes (hI) (by omega) (show fld w 82 10 = 0 ∨ FA w ≠ 0 by omega)) rfl h82_31 rfl rfl rfl rfl rfl rfl (fun n45 w41 hq42 => ?_)
  obtain ⟨hn46, hI43, hF44⟩ := hq42
  obtain ⟨hn47, hn48, hn49⟩ := hn46
  have hq50 := hn48
  unfold PK PS at hq50
  by_cases hc51 : n45 = 0
  · refine xg_t (xg_ifT (u := n45) rfl xnm0 (xj_eqT hc51)) ?_
    refine xg_t (xg_blk (b := [(18, 1, 3, 0, 0, 0)]) rfl) ?_
    refine xg_t (xg_const) ?_
    refine xg_t (xg_blk (b := [(19, 1, 17, 0, 0, 0), (20, 1, 0, 0, 0, 0), (21, 3, 1, 12, 46, 102), (24, 1, 3, 1, 0, 0), (25, 1, 0, 0, 0, 0), (26, 3, 1, 12, 9, 165), (29, 1, 17, 0, 0, 0), (30, 1, 0, 0, 0, 0), (31, 3, 1, 12, 46, 102), (34, 1, 3, 2, 0, 0), (35, 2, 4, 61, 0, 0), (37, 1, 17, 0, 0, 0), (38, 1, 0, 0, 0, 0), (39, 3, 1, 12, 46, 102), (42, 1, 3, 3, 0, 0), (43, 1, 3, 1, 0, 0), (44, 1, 17, 0, 0, 0), (45, 1, 0, 0, 0, 0), (46, 3, 1, 12, 10, 180), (49, 3, 7, 74, 1, 0), (52, 1, 0, 0, 0, 0), (53, 3, 1, 12, 7, 151), (56, 1, 3, 3, 0, 0), (57, 3, 6, 74, 1, 0), (60, 1, 0, 0, 0, 0), (61, 3, 1, 12, 9, 165), (64, 2, 4, 20, 0, 0), (66, 2, 4, 30, 0, 0), (68, 3, 13, 161, 98, 105), (71, 3, 7, 79, 1, 0)]) rfl) ?_
    refine xg_iastK (n := 0) (u := 0) (h113_39.fr hF44 (by decide)) xnm0 xnm0 rfl (by omega) (fun w52 hr53 hb54 => ?_)
    have hf55 := FA_fr (xFr.of (S := [113]) hb54 (by decide)) (by decide)
    have hf56 := mu_fr (xFr.of (S := [113]) hb54 (by decide)) (by decide)
    have hf57 := fld_fr (c := 82) (j := 7) (xFr.of (S := [113]) hb54 (by decide)) (by decide)
    have hf58 := fld_fr (c := 82) (j := 10) (xFr.of (S := [113]) hb54 (by decide)) (by decide)
    have hf59 := fld_fr (c := 82) (j := 14) (xFr.of (S := [113]) hb54 (by decide)) (by decide)
    refine xg_t (xg_aload (va := (2, 82)) rfl rfl) ?_
    obtain ⟨f82_60, f82_62, f82_64, f82_66, f82_68, f82_70, f82_72, f82_74, f82_76, f82_78, f82_80, f82_81, f82_82, f82_84, f82_86, f82_88, h82_90, hb61, hb63, hb65, hb67, hb69, hb71, hb73, hb75, hb77, hb79, hb83, hb85, hb87, hb89, hb91⟩ := (hI43 82 (by decide) (by decide) : cp82 (wget w41 82))
    refine xg_t (xg_getf (va := (2, 113)) (hb54.get (by decide) h82_90) rfl) ?_
    refine xg_t (xg_const) ?_
    refine xg_t (xg_aload (va := (2, 82)) rfl rfl) ?_
    refine xg_t (xg_getf (va := (0, f82_74)) (hb54.get (by decide) h82_90) rfl) ?_
    refine xg_iastK (n := 1) (u := f82_74) hr53 xnm0 xnm0 rfl (by omega) (fun w92 hr93 hb94 => ?_)
    have hf95 := FA_fr (xFr.of (S := [113]) hb94 (by decide)) (by decide)
    have hf96 := mu_fr (xFr.of (S := [113]) hb94 (by decide)) (by decide)
    have hf97 := fld_fr (c := 82) (j := 7) (xFr.of (S := [113]) hb94 (by decide)) (by decide)
    have hf98 := fld_fr (c := 82) (j := 10) (xFr.of (S := [113]) hb94 (by decide)) (by decide)
    have hf99 := fld_fr (c := 82) (j := 14) (xFr.of (S := [113]) hb94 (by decide)) (by decide)
    refine xg_t (xg_aload (va := (2, 82)) rfl rfl) ?_
    refine xg_t (xg_getf (va := (2, 113)) (hb94.get (by decide) (hb54.get (by decide) h82_90)) rfl) ?_
    refine xg_t (xg_const) ?_
    refine xg_t (xg_bip) ?_
    refine xg_iastK (n := 2) (u := 61) hr93 xnm0 xnm0 rfl (by omega) (fun w100 hr101 hb102 => ?_)
    have hf103 := FA_fr (xFr.of (S := [113]) hb102 (by decide)) (by decide)
    have hf104 := mu_fr (xFr.of (S := [113]) hb102 (by decide)) (by decide)
    have hf105 := fld_fr (c := 82) (j := 7) (xFr.of (S := [113]) hb102 (by decide)) (by decide)
    have hf106 := fld_fr (c := 82) (j := 10) (xFr.of (S := [113]) hb102 (by decide)) (by decide)
    have hf107 := fld_fr (c := 82) (j := 14) (xFr.of (S := [113]) hb102 (by decide)) (by decide)
    refine xg_t (xg_aload (va := (2, 82)) rfl rfl) ?_
    refine xg_t (xg_getf (va := (2, 113)) (hb102.get (by decide) (hb94.get (by decide) (hb54.get (by decide) h82_90))) rfl) ?_
    refine xg_t (xg_const) ?_
    refine xg_t (xg_const) ?_
    refine xg_iastK (n := 3) (u := 1) hr101 xnm0 xnm0 rfl (by omega) (fun w108 hr109 hb110 => ?_)
    have hf111 := FA_fr (xFr.of (S := [113]) hb110 (by decide)) (by decide)
    have hf112 := mu_fr (xFr.of (S := [113]) hb110 (by decide)) (by decide)
    have hf113 := fld_fr (c := 82) (j := 7) (xFr.of (S := [113]) hb110 (by decide)) (by decide)
    have hf114 := fld_fr (c := 82) (j := 10) (xFr.of (S := [113]) hb110 (by decide)) (by decide)
    have hf115 := fld_fr (c := 82) (j := 14) (xFr.of (S := [113]) hb110 (by decide)) (by decide)
    refine xg_t (xg_aload (va := (2, 82)) rfl rfl) ?_
    refine xg_t (xg_getf (va := (0, f82_76)) (hb110.get (by decide) (hb102.get (by decide) (hb94.get (by decide) (hb54.get (by decide) h82_90)))) rfl) ?_
    by_cases hc116 : f82_76 = 0
    · refine xg_t (xg_ifF (u := f82_76) rfl xnm0 (xj_neF hc116)) ?_
      refine xg_t (xg_aload (va := (2, 82)) rfl rfl) ?_
      refine xg_t (xg_getf (va := (0, f82_70)) (hb110.get (by decide) (hb102.get (by decide) (hb94.get (by decide) (hb54.get (by decide) h82_90)))) rfl) ?_
      refine xg_t (xg_const) ?_
      by_cases hc117 : f82_70 = 3
      · refine xg_t (xg_icF (u := f82_70) (v := 3) rfl xnm0 xnm0 (xj_neF hc117)) ?_
        refine xg_t (xg_aload (va := (2, 82)) rfl rfl) ?_
        refine xg_t (xg_getf (va := (0, f82_74)) (hb110.get (by decide) (hb102.get (by decide) (hb94.get (by decide) (hb54.get (by decide) h82_90)))) rfl) ?_
        refine xg_t (xg_bip) ?_
        refine xg_t (xg_bip) ?_
        refine xg_t (xg_cSr mX12_isIn (vs := [(0, f82_74), (0, 20), (0, 30)]) (rest := []) (rs := [(0, if 20 ≤ f82_74 ∧ f82_74 ≤ 30 then 1 else 0)]) (cn1 := 0) (sl1 := 0) rfl (mIsIn (by omega) (by omega) (by omega)) rfl rfl rfl rfl rfl rfl rfl rfl) ?_
        by_cases hc118 : 20 ≤ f82_74 ∧ f82_74 ≤ 30
        · refine xg_t (xg_ifT (u := (if 20 ≤ f82_74 ∧ f82_74 ≤ 30 then 1 else 0)) rfl xnm0 (xj_neT (xite1 hc118))) ?_
          refine xg_t (xg_blk (b := [(79, 1, 0, 0, 0, 0), (80, 3, 13, 110, 96, 190), (83, 1, 0, 0, 0, 0), (84, 3, 1, 12, 46, 102), (87, 1, 3, 1, 0, 0), (88, 1, 10, 0, 0, 0), (89, 2, 4, 21, 0, 0), (91, 3, 6, 95, 4, 0), (94, 1, 12, 0, 0, 0)]) rfl) ?_
          refine xg_t (xg_aload (va := (2, 82)) rfl rfl) ?_
          refine xg_cVv mX12_advance (vs := []) (rest := []) (cn1 := 0) (sl1 := 0) rfl (mAdvance (xMnv.up (S := [113]) hI43 ((((xFr.of (S := [113]) hb54 (by decide)).tr (xFr.of (S := [113]) hb94 (by decide))).tr (xFr.of (S := [113]) hb102 (by decide))).tr (xFr.of (S := [113]) hb110 (by decide))) (List.forall_mem_cons.mpr ⟨(show cpI 4 80 4294967295 (wget w108 113) from ⟨_, hr109, xrb (by omega) (xrb (by omega) (xrb (by omega) (xrb (by omega) (hb40))))⟩), fun _ h => absurd h List.not_mem_nil⟩))) rfl (hb110.get (by decide) (hb102.get (by decide) (hb94.get (by decide) (hb54.get (by decide) h82_90)))) rfl rfl rfl rfl rfl rfl (fun w119 hq120 => ?_)
          obtain ⟨hI121, hF122, hx123⟩ := hq120
          obtain ⟨hv124, hv125, hv126, hv127⟩ := hx123
          have hf128 := FA_fr hF122 (by decide)
          refine xg_t (xg_aload (va := (2, 82)) rfl rfl) ?_
          obtain ⟨f82_129, f82_131, f82_133, f82_135, f82_137, f82_139, f82_141, f82_143, f82_145, f82_147, f82_149, f82_150, f82_151, f82_153, f82_155, f82_157, h82_159, hb130, hb132, hb134, hb136, hb138, hb140, hb142, hb144, hb146, hb148, hb152, hb154, hb156, hb158, hb160⟩ := (hI121 82 (by decide) (by decide) : cp82 (wget w119 82))
          refine xg_t (xg_getf (va := (2, 113)) h82_159 rfl) ?_
          refine xg_t (xg_const) ?_
          refine xg_ialdB (n := 1) (B := 4294967295) (hr109.fr hF122 (by decide)) (xrb (by omega) (xrb (by omega) (xrb (by omega) (xrb (by omega) (hb40))))) xnm0 (by omega) (fun u161 hu162 he163 => ?_)
          refine xg_t (xg_bip) ?_
          by_cases hc164 : xbs 21 < xbs u161
          · have hc164u := hc164
            unfold xbs at hc164u
            have hn165 : u161 ≤ 2147483647 := by omega
            refine xg_t (xg_icT (u := u161) (v := 21) rfl xnm0 xnm0 (xjs_gtT hc164)) ?_
            refine xg_t (xg_blk (b := [(95, 1, 0, 0, 0, 0), (96, 3, 1, 12, 46, 102), (99, 1, 3, 2, 0, 0), (100, 1, 0, 0, 0, 0), (101, 3, 1, 12, 3, 174), (104, 1, 17, 0, 0, 0), (105, 1, 0, 0, 0, 0), (106, 3, 1, 12, 7, 151), (109, 1, 3, 2, 0, 0), (110, 3, 6, 131, 1, 0), (113, 1, 0, 0, 0, 0), (114, 3, 1, 12, 3, 174), (117, 2, 4, 58, 0, 0), (119, 3, 6, 131, 0, 0), (122, 1, 0, 0, 0, 0), (123, 3, 1, 12, 3, 174), (126, 2, 4, 59, 0, 0), (128, 3, 6, 136, 1, 0)]) rfl) ?_
            refine xg_t (xg_aload (va := (2, 82)) rfl rfl) ?_
            refine xg_t (xg_getf (va := (2, 113)) h82_159 rfl) ?_
            refine xg_t (xg_const) ?_
            refine xg_t (xg_aload (va := (2, 82)) rfl rfl) ?_
            refine xg_t (xg_getf (va := (0, f82_131)) h82_159 rfl) ?_
            refine xg_iastK (n := 2) (u := f82_131) (hr109.fr hF122 (by decide)) xnm0 xnm0 rfl (by omega) (fun w166 hr167 hb168 => ?_)
            have hf169 := FA_fr (xFr.of (S := [113]) hb168 (by decide)) (by decide)
            have hf170 := mu_fr (xFr.of (S := [113]) hb168 (by decide)) (by decide)
            have hf171 := fld_fr (c := 82) (j := 7) (xFr.of (S := [113]) hb168 (by decide)) (by decide)
            have hf172 := fld_fr (c := 82) (j := 10) (xFr.of (S := [113]) hb168 (by decide)) (by decide)
            have hf173 := fld_fr (c := 82) (j := 14) (xFr.of (S := [113]) hb168 (by decide)) (by decide)
            refine xg_t (xg_aload (va := (2, 82)) rfl rfl) ?_
            refine xg_t (xg_getf (va := (0, f82_139)) (hb168.get (by decide) h82_159) rfl) ?_
            refine xg_t (xg_const) ?_
            by_cases hc174 : f82_139 = 2
            · refine xg_t (xg_icF (u := f82_139) (v := 2) rfl xnm0 xnm0 (xj_neF hc174)) ?_
              refine xg_t (xg_aload (va := (2, 82)) rfl rfl) ?_
              refine xg_t (xg_getf (va := (0, f82_131)) (hb168.get (by decide) h82_159) rfl) ?_
              refine xg_t (xg_bip) ?_
              by_cases hc175 : f82_131 = 58
              · refine xg_t (xg_icT (u := f82_131) (v := 58) rfl xnm0 xnm0 (xj_eqT hc175)) ?_
                refine xg_t (xg_blk (b := [(131, 1, 0, 0, 0, 0), (132, 3, 13, 140, 96, 183), (135, 1, 12, 0, 0, 0)]) rfl) ?_
                refine xg_t (xg_aload (va := (2, 82)) rfl rfl) ?_
                refine xg_cVv mX12_ends (vs := []) (rest := []) (cn1 := 0) (sl1 := 0) rfl (mEnds (xMnv.up (S := [113]) hI121 (xFr.of (S := [113]) hb168 (by decide)) (List.forall_mem_cons.mpr ⟨(show cpI 4 80 4294967295 (wget w166 113) from ⟨_, hr167, xrb (by omega) (xrb (by omega) (xrb (by omega) (xrb (by omega) (xrb (by omega) (hb40)))))⟩), fun _ h => absurd h List.not_mem_nil⟩)) (show fld w166 82 10 = 0 ∨ FA w166 ≠ 0 by omega)) rfl (hb168.get (by decide) h82_159) rfl rfl rfl rfl rfl rfl (fun w176 hq177 => ?_)
                obtain ⟨hI178, hF179, hx180⟩ := hq177
                obtain ⟨hv181, hv182, hv183, hv184, hv185⟩ := hx180
                exact xg_e ⟨w176, ⟨rfl, rfl⟩, hI178, (((((hF44.up (by decide)).tr ((((xFr.of (S := [82, 83, 113]) hb54 (by decide)).tr (xFr.of (S := [82, 83, 113]) hb94 (by decide))).tr (xFr.of (S := [82, 83, 113]) hb102 (by decide))).tr (xFr.of (S := [82, 83, 113]) hb110 (by decide)))).tr (hF122.up (by decide))).tr (xFr.of (S := [82, 83, 113]) hb168 (by decide))).tr (hF179.up (by decide))), ⟨fun _ => by omega, by omega, by omega, (show fld w176 82 10 = 0 ∨ FA w176 ≠ 0 by omega), ((((((((K83.fr hF44 (by decide)).tr (K83.but hb54 (by decide))).tr (K83.but hb94 (by decide))).tr (K83.but hb102 (by decide))).tr (K83.but hb110 (by decide))).tr (K83.fr hF122 (by decide))).tr (K83.but hb168 (by decide))).tr hv185)⟩⟩
              · refine xg_t (xg_icF (u := f82_131) (v := 58) rfl xnm0 xnm0 (xj_eqF hc175)) ?_
                refine xg_t (xg_aload (va := (2, 82)) rfl rfl) ?_
                refine xg_t (xg_getf (va := (0, f82_131)) (hb168.get (by decide) h82_159) rfl) ?_
                refine xg_t (xg_bip) ?_
                by_cases hc186 : f82_131 = 59
                · refine xg_t (xg_icF (u := f82_131) (v := 59) rfl xnm0 xnm0 (xj_neF hc186)) ?_
                  refine xg_t (xg_blk (b := [(131, 1, 0, 0, 0, 0), (132, 3, 13, 140, 96, 183), (135, 1, 12, 0, 0, 0)]) rfl) ?_
                  refine xg_t (xg_aload (va := (2, 82)) rfl rfl) ?_
                  refine xg_cVv mX12_ends (vs := []) (rest := []) (cn1 := 0) (sl1 := 0) rfl (mEnds (xMnv.up (S := [113]) hI121 (xFr.of (S := [113]) hb168 (by decide)) (List.forall_mem_cons.mpr ⟨(show cpI 4 80 4294967295 (wget w166 113) from ⟨_, hr167, xrb (by omega) (xrb (by omega) (xrb (by omega) (xrb (by omega) (xrb (by omega) (hb40)))))⟩), fun _ h => absurd h List.not_mem_nil⟩)) (show fld w166 82 10 = 0 ∨ FA w166 ≠ 0 by omega)) rfl (hb168.get (by decide) h82_159) rfl rfl rfl rfl rfl rfl (fun w187 hq188 => ?_)
                  obtain ⟨hI189, hF190, hx191⟩ := hq188
                  obtain ⟨hv192, hv193, hv194, hv195, hv196⟩ := hx191
                  exact xg_e ⟨w187, ⟨rfl, rfl⟩, hI189, (((((hF44.up (by decide)).tr ((((xFr.of (S := [82, 83, 113]) hb54 (by decide)).tr (xFr.of (S := [82, 83, 113]) hb94 (by decide))).tr (xFr.of (S := [82, 83, 113]) hb102 (by decide))).tr (xFr.of (S := [82, 83, 113]) hb110 (by decide)))).tr (hF122.up (by decide))).tr (xFr.of (S := [82, 83, 113]) hb168 (by decide))).tr (hF190.up (by decide))), ⟨fun _ => by omega, by omega, by omega, (show fld w187 82 10 = 0 ∨ FA w187 ≠ 0 by omega), ((((((((K83.fr hF44 (by decide)).tr (K83.but hb54 (by decide))).tr (K83.but hb94 (by decide))).tr (K83.but hb102 (by decide))).tr (K83.but hb110 (by decide))).tr (K83.fr hF122 (by decide))).tr (K83.but hb168 (by decide))).tr hv196)⟩⟩
                · refine xg_t (xg_icT (u := f82_131) (v := 59) rfl xnm0 xnm0 (xj_neT hc186)) ?_
                  refine xg_t (xg_blk (b := [(136, 1, 0, 0, 0, 0), (137, 3, 13, 110, 96, 190), (140, 1, 0, 0, 0, 0), (141, 3, 1, 12, 46, 102), (144, 1, 3, 3, 0, 0), (145, 1, 0, 0, 0, 0), (146, 3, 13, 198, 96, 418), (149, 1, 17, 0, 0, 0), (150, 1, 12, 0, 0, 0)]) rfl) ?_
                  refine xg_t (xg_aload (va := (2, 82)) rfl rfl) ?_
                  refine xg_cVv mX12_advance (vs := []) (rest := []) (cn1 := 0) (sl1 := 0) rfl (mAdvance (xMnv.up (S := [113]) hI121 (xFr.of (S := [113]) hb168 (by decide)) (List.forall_mem_cons.mpr ⟨(show cpI 4 80 4294967295 (wget w166 113) from ⟨_, hr167, xrb (by omega) (xrb (by omega) (xrb (by omega) (xrb (by omega) (xrb (by omega) (hb40)))))⟩), fun _ h => absurd h List.not_mem_nil⟩))) rfl (hb168.get (by decide) h82_159) rfl rfl rfl rfl rfl rfl (fun w197 hq198 => ?_)
                  obtain ⟨hI199, hF200, hx201⟩ := hq198
                  obtain ⟨hv202, hv203, hv204, hv205⟩ := hx201
                  have hf206 := FA_fr hF200 (by decide)
                  refine xg_t (xg_aload (va := (2, 82)) rfl rfl) ?_
                  obtain ⟨f82_207, f82_209, f82_211, f82_213, f82_215, f82_217, f82_219, f82_221, f82_223, f82_225, f82_227, f82_228, f82_229, f82_231, f82_233, f82_235, h82_237, hb208, hb210, hb212, hb214, hb216, hb218, hb220, hb222, hb224, hb226, hb230, hb232, hb234, hb236, hb238⟩ := (hI199 82 (by decide) (by decide) : cp82 (wget w197 82))
                  refine xg_t (xg_getf (va := (2, 113)) h82_237 rfl) ?_
                  refine xg_t (xg_const) ?_
                  refine xg_t (xg_aload (va := (2, 82)) rfl rfl) ?_
                  refine xg_cVi mX12_numberNow (vs := []) (rest := [(0, 3), (2, 113)]) (cn1 := 0) (sl1 := 0) rfl (mNumberNow (hI199) (show fld w197 82 10 = 0 ∨ FA w197 ≠ 0 by omega)) rfl h82_237 rfl rfl rfl rfl rfl rfl (fun n243 w239 hq240 => ?_)
                  obtain ⟨hn244, hI241, hF242⟩ := hq240
                  obtain ⟨hn245, hn246⟩ := hn244
                  have hq247 := hn246
                  unfold PK PS at hq247
                  refine xg_iastK (n := 3) (u := n243) ((hr167.fr hF200 (by decide)).fr hF242 (by decide)) xnm0 xnm0 rfl (by omega) (fun w248 hr249 hb250 => ?_)
                  have hf251 := FA_fr (xFr.of (S := [113]) hb250 (by decide)) (by decide)
                  have hf252 := mu_fr (xFr.of (S := [113]) hb250 (by decide)) (by decide)
                  have hf253 := fld_fr (c := 82) (j := 7) (xFr.of (S := [113]) hb250 (by decide)) (by decide)
                  have hf254 := fld_fr (c := 82) (j := 10) (xFr.of (S := [113]) hb250 (by decide)) (by decide)
                  have hf255 := fld_fr (c := 82) (j := 14) (xFr.of (S := [113]) hb250 (by decide)) (by decide)
                  exact xg_e ⟨w248, ⟨rfl, rfl⟩, xMnv.up (S := [113]) hI241 (xFr.of (S := [113]) hb250 (by decide)) (List.forall_mem_cons.mpr ⟨(show cpI 4 80 4294967295 (wget w248 113) from ⟨_, hr249, xrb (by omega) (xrb (by omega) (xrb (by omega) (xrb (by omega) (xrb (by omega) (xrb (by omega) (hb40))))))⟩), fun _ h => absurd h List.not_mem_nil⟩), (((((((hF44.up (by decide)).tr ((((xFr.of (S := [82, 83, 113]) hb54 (by decide)).tr (xFr.of (S := [82, 83, 113]) hb94 (by decide))).tr (xFr.of (S := [82, 83, 113]) hb102 (by decide))).tr (xFr.of (S := [82, 83, 113]) hb110 (by decide)))).tr (hF122.up (by decide))).tr (xFr.of (S := [82, 83, 113]) hb168 (by decide))).tr (hF200.up (by decide))).tr (hF242.up (by decide))).tr (xFr.of (S := [82, 83, 113]) hb250 (by decide))), ⟨fun _ => by omega, by omega, by omega, (show fld w248 82 10 = 0 ∨ FA w248 ≠ 0 by omega), ((((((((((K83.fr hF44 (by decide)).tr (K83.but hb54 (by decide))).tr (K83.but hb94 (by decide))).tr (K83.but hb102 (by decide))).tr (K83.but hb110 (by decide))).tr (K83.fr hF122 (by decide))).tr (K83.but hb168 (by decide))).tr (K83.fr hF200 (by decide))).tr hn246.2.2.2.2).tr (K83.but hb250 (by decide)))⟩⟩
            · refine xg_t (xg_icT (u := f82_139) (v := 2) rfl xnm0 xnm0 (xj_neT hc174)) ?_
              refine xg_t (xg_blk (b := [(131, 1, 0, 0, 0, 0), (132, 3, 13, 140, 96, 183), (135, 1, 12, 0, 0, 0)]) rfl) ?_
              refine xg_t (xg_aload (va := (2, 82)) rfl rfl) ?_
              refine xg_cVv mX12_ends (vs := []) (rest := []) (cn1 := 0) (sl1 := 0) rfl (mEnds (xMnv.up (S := [113]) hI121 (xFr.of (S := [113]) hb168 (by decide)) (List.forall_mem_cons.mpr ⟨(show cpI 4 80 4294967295 (wget w166 113) from ⟨_, hr167, xrb (by omega) (xrb (by omega) (xrb (by omega) (xrb (by omega) (xrb (by omega) (hb40)))))⟩), fun _ h => absurd h List.not_mem_nil⟩)) (show fld w166 82 10 = 0 ∨ FA w166 ≠ 0 by omega)) rfl (hb168.get (by decide) h82_159) rfl rfl rfl rfl rfl rfl (fun w256 hq257 => ?_)
              obtain ⟨hI258, hF259, hx260⟩ := hq257
              obtain ⟨hv261, hv262, hv263, hv264, hv265⟩ := hx260
              exact xg_e ⟨w256, ⟨rfl, rfl⟩, hI258, (((((hF44.up (by decide)).tr ((((xFr.of (S := [82, 83, 113]) hb54 (by decide)).tr (xFr.of (S := [82, 83, 113]) hb94 (by decide))).tr (xFr.of (S := [82, 83, 113]) hb102 (by decide))).tr (xFr.of (S := [82, 83, 113]) hb110 (by decide)))).tr (hF122.up (by decide))).tr (xFr.of (S := [82, 83, 113]) hb168 (by decide))).tr (hF259.up (by decide))), ⟨fun _ => by omega, by omega, by omega, (show fld w256 82 10 = 0 ∨ FA w256 ≠ 0 by omega), ((((((((K83.fr hF44 (by decide)).tr (K83.but hb54 (by decide))).tr (K83.but hb94 (by decide))).tr (K83.but hb102 (by decide))).tr (K83.but hb110 (by decide))).tr (K83.fr hF122 (by decide))).tr (K83.but hb168 (by decide))).tr hv265)⟩⟩
          · have hc164u := hc164
            unfold xbs at hc164u
            refine xg_t (xg_icF (u := u161) (v := 21) rfl xnm0 xnm0 (xjs_gtF hc164)) ?_
            exact xg_e ⟨w119, ⟨rfl, rfl⟩, hI121, (((hF44.up (by decide)).tr ((((xFr.of (S := [82, 83, 113]) hb54 (by decide)).tr (xFr.of (S := [82, 83, 113]) hb94 (by decide))).tr (xFr.of (S := [82, 83, 113]) hb102 (by decide))).tr (xFr.of (S := [82, 83, 113]) hb110 (by decide)))).tr (hF122.up (by decide))), ⟨fun _ => by omega, by omega, by omega, (show fld w119 82 10 = 0 ∨ FA w119 ≠ 0 by omega), ((((((K83.fr hF44 (by decide)).tr (K83.but hb54 (by decide))).tr (K83.but hb94 (by decide))).tr (K83.but hb102 (by decide))).tr (K83.but hb110 (by decide))).tr (K83.fr hF122 (by decide)))⟩⟩
        · refine xg_t (xg_ifF (u := (if 20 ≤ f82_74 ∧ f82_74 ≤ 30 then 1 else 0)) rfl xnm0 (xj_neF (xite0 hc118))) ?_
          refine xg_t (xg_blk (b := [(74, 1, 0, 0, 0, 0), (75, 3, 13, 140, 96, 183), (78, 1, 12, 0, 0, 0)]) rfl) ?_
          refine xg_t (xg_aload (va := (2, 82)) rfl rfl) ?_
          refine xg_cVv mX12_ends (vs := []) (rest := []) (cn1 := 0) (sl1 := 0) rfl (mEnds (xMnv.up (S := [113]) hI43 ((((xFr.of (S := [113]) hb54 (by decide)).tr (xFr.of (S := [113]) hb94 (by decide))).tr (xFr.of (S := [113]) hb102 (by decide))).tr (xFr.of (S := [113]) hb110 (by decide))) (List.forall_mem_cons.mpr ⟨(show cpI 4 80 4294967295 (wget w108 113) from ⟨_, hr109, xrb (by omega) (xrb (by omega) (xrb (by omega) (xrb (by omega) (hb40))))⟩), fun _ h => absurd h List.not_mem_nil⟩)) (show fld w108 82 10 = 0 ∨ FA w108 ≠ 0 by omega)) rfl (hb110.get (by decide) (hb102.get (by decide) (hb94.get (by decide) (hb54.get (by decide) h82_90)))) rfl rfl rfl rfl rfl rfl (fun w266 hq267 => ?_)
          obtain ⟨hI268, hF269, hx270⟩ := hq267
          obtain ⟨hv271, hv272, hv273, hv274, hv275⟩ := hx270
          exact xg_e ⟨w266, ⟨rfl, rfl⟩, hI268, (((hF44.up (by decide)).tr ((((xFr.of (S := [82, 83, 113]) hb54 (by decide)).tr (xFr.of (S := [82, 83, 113]) hb94 (by decide))).tr (xFr.of (S := [82, 83, 113]) hb102 (by decide))).tr (xFr.of (S := [82, 83, 113]) hb110 (by decide)))).tr (hF269.up (by decide))), ⟨fun _ => by omega, by omega, by omega, (show fld w266 82 10 = 0 ∨ FA w266 ≠ 0 by omega), ((((((K83.fr hF44 (by decide)).tr (K83.but hb54 (by decide))).tr (K83.but hb94 (by decide))).tr (K83.but hb102 (by decide))).tr (K83.but hb110 (by decide))).tr hv275)⟩⟩
      · refine xg_t (xg_icT (u := f82_70) (v := 3) rfl xnm0 xnm0 (xj_neT hc117)) ?_
        refine xg_t (xg_blk (b := [(74, 1, 0, 0, 0, 0), (75, 3, 13, 140, 96, 183), (78, 1, 12, 0, 0, 0)]) rfl) ?_
        refine xg_t (xg_aload (va := (2, 82)) rfl rfl) ?_
        refine xg_cVv mX12_ends (vs := []) (rest := []) (cn1 := 0) (sl1 := 0) rfl (mEnds (xMnv.up (S := [113]) hI43 ((((xFr.of (S := [113]) hb54 (by decide)).tr (xFr.of (S := [113]) hb94 (by decide))).tr (xFr.of (S := [113]) hb102 (by decide))).tr (xFr.of (S := [113]) hb110 (by decide))) (List.forall_mem_cons.mpr ⟨(show cpI 4 80 4294967295 (wget w108 113) from ⟨_, hr109, xrb (by omega) (xrb (by omega) (xrb (by omega) (xrb (by omega) (hb40))))⟩), fun _ h => absurd h List.not_mem_nil⟩)) (show fld w108 82 10 = 0 ∨ FA w108 ≠ 0 by omega)) rfl (hb110.get (by decide) (hb102.get (by decide) (hb94.get (by decide) (hb54.get (by decide) h82_90)))) rfl rfl rfl rfl rfl rfl (fun w276 hq277 => ?_)
        obtain ⟨hI278, hF279, hx280⟩ := hq277
        obtain ⟨hv281, hv282, hv283, hv284, hv285⟩ := hx280
        exact xg_e ⟨w276, ⟨rfl, rfl⟩, hI278, (((hF44.up (by decide)).tr ((((xFr.of (S := [82, 83, 113]) hb54 (by decide)).tr (xFr.of (S := [82, 83, 113]) hb94 (by decide))).tr (xFr.of (S := [82, 83, 113]) hb102 (by decide))).tr (xFr.of (S := [82, 83, 113]) hb110 (by decide)))).tr (hF279.up (by decide))), ⟨fun _ => by omega, by omega, by omega, (show fld w276 82 10 = 0 ∨ FA w276 ≠ 0 by omega), ((((((K83.fr hF44 (by decide)).tr (K83.but hb54 (by decide))).tr (K83.but hb94 (by decide))).tr (K83.but hb102 (by decide))).tr (K83.but hb110 (by decide))).tr hv285)⟩⟩
    · refine xg_t (xg_ifT (u := f82_76) rfl xnm0 (xj_neT hc116)) ?_
      refine xg_t (xg_blk (b := [(74, 1, 0, 0, 0, 0), (75, 3, 13, 140, 96, 183), (78, 1, 12, 0, 0, 0)]) rfl) ?_
      refine xg_t (xg_aload (va := (2, 82)) rfl rfl) ?_
      refine xg_cVv mX12_ends (vs := []) (rest := []) (cn1 := 0) (sl1 := 0) rfl (mEnds (xMnv.up (S := [113]) hI43 ((((xFr.of (S := [113]) hb54 (by decide)).tr (xFr.of (S := [113]) hb94 (by decide))).tr (xFr.of (S := [113]) hb102 (by decide))).tr (xFr.of (S := [113]) hb110 (by decide))) (List.forall_mem_cons.mpr ⟨(show cpI 4 80 4294967295 (wget w108 113) from ⟨_, hr109, xrb (by omega) (xrb (by omega) (xrb (by omega) (xrb (by omega) (hb40))))⟩), fun _ h => absurd h List.not_mem_nil⟩)) (show fld w108 82 10 = 0 ∨ FA w108 ≠ 0 by omega)) rfl (hb110.get (by decide) (hb102.get (by decide) (hb94.get (by decide) (hb54.get (by decide) h82_90)))) rfl rfl rfl rfl rfl rfl (fun w286 hq287 => ?_)
      obtain ⟨hI288, hF289, hx290⟩ := hq287
      obtain ⟨hv291, hv292, hv293, hv294, hv295⟩ := hx290
      exact xg_e ⟨w286, ⟨rfl, rfl⟩, hI288, (((hF44.up (by decide)).tr ((((xFr.of (S := [82, 83, 113]) hb54 (by decide)).tr (xFr.of (S := [82, 83, 113]) hb94 (by decide))).tr (xFr.of (S := [82, 83, 113]) hb102 (by decide))).tr (xFr.of (S := [82, 83, 113]) hb110 (by decide)))).tr (hF289.up (by decide))), ⟨fun _ => by omega, by omega, by omega, (show fld w286 82 10 = 0 ∨ FA w286 ≠ 0 by omega), ((((((K83.fr hF44 (by decide)).tr (K83.but hb54 (by decide))).tr (K83.but hb94 (by decide))).tr (K83.but hb102 (by decide))).tr (K83.but hb110 (by decide))).tr hv295)⟩⟩
  · refine xg_t (xg_ifF (u := n45) rfl xnm0 (xj_eqF hc51)) ?_
    refine xg_t (xg_const) ?_
    refine xg_t (xg_goto) ?_
    refine xg_t (xg_blk (b := [(19, 1, 17, 0, 0, 0), (20, 1, 0, 0, 0, 0), (21, 3, 1, 12, 46, 102), (24, 1, 3, 1, 0, 0), (25, 1, 0, 0, 0, 0), (26, 3, 1, 12, 9, 165), (29, 1, 17, 0, 0, 0), (30, 1, 0, 0, 0, 0), (31, 3, 1, 12, 46, 102), (34, 1, 3, 2, 0, 0), (35, 2, 4, 61, 0, 0), (37, 1, 17, 0, 0, 0), (38, 1, 0, 0, 0, 0), (39, 3, 1, 12, 46, 102), (42, 1, 3, 3, 0, 0), (43, 1, 3, 1, 0, 0), (44, 1, 17, 0, 0, 0), (45, 1, 0, 0, 0, 0), (46, 3, 1, 12, 10, 180), (49, 3, 7, 74, 1, 0), (52, 1, 0, 0, 0, 0), (53, 3, 1, 12, 7, 151), (56, 1, 3, 3, 0, 0), (57, 3, 6, 74, 1, 0), (60, 1, 0, 0, 0, 0), (61, 3, 1, 12, 9, 165), (64, 2, 4, 20, 0, 0), (66, 2, 4, 30, 0, 0), (68, 3, 13, 161, 98, 105), (71, 3, 7, 79, 1, 0)]) rfl) ?_
    refine xg_iastK (n := 0) (u := 1) (h113_39.fr hF44 (by decide)) xnm0 xnm0 rfl (by omega) (fun w296 hr297 hb298 => ?_)
    have hf299 := FA_fr (xFr.of (S := [113]) hb298 (by decide)) (by decide)
    have hf300 := mu_fr (xFr.of (S := [113]) hb298 (by decide)) (by decide)
    have hf301 := fld_fr (c := 82) (j := 7) (xFr.of (S := [113]) hb298 (by decide)) (by decide)
    have hf302 := fld_fr (c := 82) (j := 10) (xFr.of (S := [113]) hb298 (by decide)) (by decide)
    have hf303 := fld_fr (c := 82) (j := 14) (xFr.of (S := [113]) hb298 (by decide)) (by decide)
    refine xg_t (xg_aload (va := (2, 82)) rfl rfl) ?_
    obtain ⟨f82_304, f82_306, f82_308, f82_310, f82_312, f82_314, f82_316, f82_318, f82_320, f82_322, f82_324, f82_325, f82_326, f82_328, f82_330, f82_332, h82_334, hb305, hb307, hb309, hb311, hb313, hb315, hb317, hb319, hb321, hb323, hb327, hb329, hb331, hb333, hb335⟩ := (hI43 82 (by decide) (by decide) : cp82 (wget w41 82))
    refine xg_t (xg_getf (va := (2, 113)) (hb298.get (by decide) h82_334) rfl) ?_
    refine xg_t (xg_const) ?_
    refine xg_t (xg_aload (va := (2, 82)) rfl rfl) ?_
    refine xg_t (xg_getf (va := (0, f82_318)) (hb298.get (by decide) h82_334) rfl) ?_
    refine xg_iastK (n := 1) (u := f82_318) hr297 xnm0 xnm0 rfl (by omega) (fun w336 hr337 hb338 => ?_)
    have hf339 := FA_fr (xFr.of (S := [113]) hb338 (by decide)) (by decide)
    have hf340 := mu_fr (xFr.of (S := [113]) hb338 (by decide)) (by decide)
    have hf341 := fld_fr (c := 82) (j := 7) (xFr.of (S := [113]) hb338 (by decide)) (by decide)
    have hf342 := fld_fr (c := 82) (j := 10) (xFr.of (S := [113]) hb338 (by decide)) (by decide)
    have hf343 := fld_fr (c := 82) (j := 14) (xFr.of (S := [113]) hb338 (by decide)) (by decide)
    refine xg_t (xg_aload (va := (2, 82)) rfl rfl) ?_
    refine xg_t (xg_getf (va := (2, 113)) (hb338.get (by decide) (hb298.get (by decide) h82_334)) rfl) ?_
    refine xg_t (xg_const) ?_
    refine xg_t (xg_bip) ?_
    refine xg_iastK (n := 2) (u := 61) hr337 xnm0 xnm0 rfl (by omega) (fun w344 hr345 hb346 => ?_)
    have hf347 := FA_fr (xFr.of (S := [113]) hb346 (by decide)) (by decide)
    have hf348 := mu_fr (xFr.of (S := [113]) hb346 (by decide)) (by decide)
    have hf349 := fld_fr (c := 82) (j := 7) (xFr.of (S := [113]) hb346 (by decide)) (by decide)
    have hf350 := fld_fr (c := 82) (j := 10) (xFr.of (S := [113]) hb346 (by decide)) (by decide)
    have hf351 := fld_fr (c := 82) (j := 14) (xFr.of (S := [113]) hb346 (by decide)) (by decide)
    refine xg_t (xg_aload (va := (2, 82)) rfl rfl) ?_
    refine xg_t (xg_getf (va := (2, 113)) (hb346.get (by decide) (hb338.get (by decide) (hb298.get (by decide) h82_334))) rfl) ?_
    refine xg_t (xg_const) ?_
    refine xg_t (xg_const) ?_
    refine xg_iastK (n := 3) (u := 1) hr345 xnm0 xnm0 rfl (by omega) (fun w352 hr353 hb354 => ?_)
    have hf355 := FA_fr (xFr.of (S := [113]) hb354 (by decide)) (by decide)
    have hf356 := mu_fr (xFr.of (S := [113]) hb354 (by decide)) (by decide)
    have hf357 := fld_fr (c := 82) (j := 7) (xFr.of (S := [113]) hb354 (by decide)) (by decide)
    have hf358 := fld_fr (c := 82) (j := 10) (xFr.of (S := [113]) hb354 (by decide)) (by decide)
    have hf359 := fld_fr (c := 82) (j := 14) (xFr.of (S := [113]) hb354 (by decide)) (by decide)
    refine xg_t (xg_aload (va := (2, 82)) rfl rfl) ?_
    refine xg_t (xg_getf (va := (0, f82_320)) (hb354.get (by decide) (hb346.get (by decide) (hb338.get (by decide) (hb298.get (by decide) h82_334)))) rfl) ?_
    by_cases hc360 : f82_320 = 0
    · refine xg_t (xg_ifF (u := f82_320) rfl xnm0 (xj_neF hc360)) ?_
      refine xg_t (xg_aload (va := (2, 82)) rfl rfl) ?_
      refine xg_t (xg_getf (va := (0, f82_314)) (hb354.get (by decide) (hb346.get (by decide) (hb338.get (by decide) (hb298.get (by decide) h82_334)))) rfl) ?_
      refine xg_t (xg_const) ?_
      by_cases hc361 : f82_314 = 3
      · refine xg_t (xg_icF (u := f82_314) (v := 3) rfl xnm0 xnm0 (xj_neF hc361)) ?_
        refine xg_t (xg_aload (va := (2, 82)) rfl rfl) ?_
        refine xg_t (xg_getf (va := (0, f82_318)) (hb354.get (by decide) (hb346.get (by decide) (hb338.get (by decide) (hb298.get (by decide) h82_334)))) rfl) ?_
        refine xg_t (xg_bip) ?_
        refine xg_t (xg_bip) ?_
        refine xg_t (xg_cSr mX12_isIn (vs := [(0, f82_318), (0, 20), (0, 30)]) (rest := []) (rs := [(0, if 20 ≤ f82_318 ∧ f82_318 ≤ 30 then 1 else 0)]) (cn1 := 0) (sl1 := 0) rfl (mIsIn (by omega) (by omega) (by omega)) rfl rfl rfl rfl rfl rfl rfl rfl) ?_
        by_cases hc362 : 20 ≤ f82_318 ∧ f82_318 ≤ 30
        · refine xg_t (xg_ifT (u := (if 20 ≤ f82_318 ∧ f82_318 ≤ 30 then 1 else 0)) rfl xnm0 (xj_neT (xite1 hc362))) ?_
          refine xg_t (xg_blk (b := [(79, 1, 0, 0, 0, 0), (80, 3, 13, 110, 96, 190), (83, 1, 0, 0, 0, 0), (84, 3, 1, 12, 46, 102), (87, 1, 3, 1, 0, 0), (88, 1, 10, 0, 0, 0), (89, 2, 4, 21, 0, 0), (91, 3, 6, 95, 4, 0), (94, 1, 12, 0, 0, 0)]) rfl) ?_
          refine xg_t (xg_aload (va := (2, 82)) rfl rfl) ?_
          refine xg_cVv mX12_advance (vs := []) (rest := []) (cn1 := 0) (sl1 := 0) rfl (mAdvance (xMnv.up (S := [113]) hI43 ((((xFr.of (S := [113]) hb298 (by decide)).tr (xFr.of (S := [113]) hb338 (by decide))).tr (xFr.of (S := [113]) hb346 (by decide))).tr (xFr.of (S := [113]) hb354 (by decide))) (List.forall_mem_cons.mpr ⟨(show cpI 4 80 4294967295 (wget w352 113) from ⟨_, hr353, xrb (by omega) (xrb (by omega) (xrb (by omega) (xrb (by omega) (hb40))))⟩), fun _ h => absurd h List.not_mem_nil⟩))) rfl (hb354.get (by decide) (hb346.get (by decide) (hb338.get (by decide) (hb298.get (by decide) h82_334)))) rfl rfl rfl rfl rfl rfl (fun w363 hq364 => ?_)
          obtain ⟨hI365, hF366, hx367⟩ := hq364
          obtain ⟨hv368, hv369, hv370, hv371⟩ := hx367
          have hf372 := FA_fr hF366 (by decide)
          refine xg_t (xg_aload (va := (2, 82)) rfl rfl) ?_
          obtain ⟨f82_373, f82_375, f82_377, f82_379, f82_381, f82_383, f82_385, f82_387, f82_389, f82_391, f82_393, f82_394, f82_395, f82_397, f82_399, f82_401, h82_403, hb374, hb376, hb378, hb380, hb382, hb384, hb386, hb388, hb390, hb392, hb396, hb398, hb400, hb402, hb404⟩ := (hI365 82 (by decide) (by decide) : cp82 (wget w363 82))
          refine xg_t (xg_getf (va := (2, 113)) h82_403 rfl) ?_
          refine xg_t (xg_const) ?_
          refine xg_ialdB (n := 1) (B := 4294967295) (hr353.fr hF366 (by decide)) (xrb (by omega) (xrb (by omega) (xrb (by omega) (xrb (by omega) (hb40))))) xnm0 (by omega) (fun u405 hu406 he407 => ?_)
          refine xg_t (xg_bip) ?_
          by_cases hc408 : xbs 21 < xbs u405
          · have hc408u := hc408
            unfold xbs at hc408u
            have hn409 : u405 ≤ 2147483647 := by omega
            refine xg_t (xg_icT (u := u405) (v := 21) rfl xnm0 xnm0 (xjs_gtT hc408)) ?_
            refine xg_t (xg_blk (b := [(95, 1, 0, 0, 0, 0), (96, 3, 1, 12, 46, 102), (99, 1, 3, 2, 0, 0), (100, 1, 0, 0, 0, 0), (101, 3, 1, 12, 3, 174), (104, 1, 17, 0, 0, 0), (105, 1, 0, 0, 0, 0), (106, 3, 1, 12, 7, 151), (109, 1, 3, 2, 0, 0), (110, 3, 6, 131, 1, 0), (113, 1, 0, 0, 0, 0), (114, 3, 1, 12, 3, 174), (117, 2, 4, 58, 0, 0), (119, 3, 6, 131, 0, 0), (122, 1, 0, 0, 0, 0), (123, 3, 1, 12, 3, 174), (126, 2, 4, 59, 0, 0), (128, 3, 6, 136, 1, 0)]) rfl) ?_
            refine xg_t (xg_aload (va := (2, 82)) rfl rfl) ?_
            refine xg_t (xg_getf (va := (2, 113)) h82_403 rfl) ?_
            refine xg_t (xg_const) ?_
            refine xg_t (xg_aload (va := (2, 82)) rfl rfl) ?_
            refine xg_t (xg_getf (va := (0, f82_375)) h82_403 rfl) ?_
            refine xg_iastK (n := 2) (u := f82_375) (hr353.fr hF366 (by decide)) xnm0 xnm0 rfl (by omega) (fun w410 hr411 hb412 => ?_)
            have hf413 := FA_fr (xFr.of (S := [113]) hb412 (by decide)) (by decide)
            have hf414 := mu_fr (xFr.of (S := [113]) hb412 (by decide)) (by decide)
            have hf415 := fld_fr (c := 82) (j := 7) (xFr.of (S := [113]) hb412 (by decide)) (by decide)
            have hf416 := fld_fr (c := 82) (j := 10) (xFr.of (S := [113]) hb412 (by decide)) (by decide)
            have hf417 := fld_fr (c := 82) (j := 14) (xFr.of (S := [113]) hb412 (by decide)) (by decide)
            refine xg_t (xg_aload (va := (2, 82)) rfl rfl) ?_
            refine xg_t (xg_getf (va := (0, f82_383)) (hb412.get (by decide) h82_403) rfl) ?_
            refine xg_t (xg_const) ?_
            by_cases hc418 : f82_383 = 2
            · refine xg_t (xg_icF (u := f82_383) (v := 2) rfl xnm0 xnm0 (xj_neF hc418)) ?_
              refine xg_t (xg_aload (va := (2, 82)) rfl rfl) ?_
              refine xg_t (xg_getf (va := (0, f82_375)) (hb412.get (by decide) h82_403) rfl) ?_
              refine xg_t (xg_bip) ?_
              by_cases hc419 : f82_375 = 58
              · refine xg_t (xg_icT (u := f82_375) (v := 58) rfl xnm0 xnm0 (xj_eqT hc419)) ?_
                refine xg_t (xg_blk (b := [(131, 1, 0, 0, 0, 0), (132, 3, 13, 140, 96, 183), (135, 1, 12, 0, 0, 0)]) rfl) ?_
                refine xg_t (xg_aload (va := (2, 82)) rfl rfl) ?_
                refine xg_cVv mX12_ends (vs := []) (rest := []) (cn1 := 0) (sl1 := 0) rfl (mEnds (xMnv.up (S := [113]) hI365 (xFr.of (S := [113]) hb412 (by decide)) (List.forall_mem_cons.mpr ⟨(show cpI 4 80 4294967295 (wget w410 113) from ⟨_, hr411, xrb (by omega) (xrb (by omega) (xrb (by omega) (xrb (by omega) (xrb (by omega) (hb40)))))⟩), fun _ h => absurd h List.not_mem_nil⟩)) (show fld w410 82 10 = 0 ∨ FA w410 ≠ 0 by omega)) rfl (hb412.get (by decide) h82_403) rfl rfl rfl rfl rfl rfl (fun w420 hq421 => ?_)
                obtain ⟨hI422, hF423, hx424⟩ := hq421
                obtain ⟨hv425, hv426, hv427, hv428, hv429⟩ := hx424
                exact xg_e ⟨w420, ⟨rfl, rfl⟩, hI422, (((((hF44.up (by decide)).tr ((((xFr.of (S := [82, 83, 113]) hb298 (by decide)).tr (xFr.of (S := [82, 83, 113]) hb338 (by decide))).tr (xFr.of (S := [82, 83, 113]) hb346 (by decide))).tr (xFr.of (S := [82, 83, 113]) hb354 (by decide)))).tr (hF366.up (by decide))).tr (xFr.of (S := [82, 83, 113]) hb412 (by decide))).tr (hF423.up (by decide))), ⟨fun _ => by omega, by omega, by omega, (show fld w420 82 10 = 0 ∨ FA w420 ≠ 0 by omega), ((((((((K83.fr hF44 (by decide)).tr (K83.but hb298 (by decide))).tr (K83.but hb338 (by decide))).tr (K83.but hb346 (by decide))).tr (K83.but hb354 (by decide))).tr (K83.fr hF366 (by decide))).tr (K83.but hb412 (by decide))).tr hv429)⟩⟩
              · refine xg_t (xg_icF (u := f82_375) (v := 58) rfl xnm0 xnm0 (xj_eqF hc419)) ?_
                refine xg_t (xg_aload (va := (2, 82)) rfl rfl) ?_
                refine xg_t (xg_getf (va := (0, f82_375)) (hb412.get (by decide) h82_403) rfl) ?_
                refine xg_t (xg_bip) ?_
                by_cases hc430 : f82_375 = 59
                · refine xg_t (xg_icF (u := f82_375) (v := 59) rfl xnm0 xnm0 (xj_neF hc430)) ?_
                  refine xg_t (xg_blk (b := [(131, 1, 0, 0, 0, 0), (132, 3, 13, 140, 96, 183), (135, 1, 12, 0, 0, 0)]) rfl) ?_
                  refine xg_t (xg_aload (va := (2, 82)) rfl rfl) ?_
                  refine xg_cVv mX12_ends (vs := []) (rest := []) (cn1 := 0) (sl1 := 0) rfl (mEnds (xMnv.up (S := [113]) hI365 (xFr.of (S := [113]) hb412 (by decide)) (List.forall_mem_cons.mpr ⟨(show cpI 4 80 4294967295 (wget w410 113) from ⟨_, hr411, xrb (by omega) (xrb (by omega) (xrb (by omega) (xrb (by omega) (xrb (by omega) (hb40)))))⟩), fun _ h => absurd h List.not_mem_nil⟩)) (show fld w410 82 10 = 0 ∨ FA w410 ≠ 0 by omega)) rfl (hb412.get (by decide) h82_403) rfl rfl rfl rfl rfl rfl (fun w431 hq432 => ?_)
                  obtain ⟨hI433, hF434, hx435⟩ := hq432
                  obtain ⟨hv436, hv437, hv438, hv439, hv440⟩ := hx435
                  exact xg_e ⟨w431, ⟨rfl, rfl⟩, hI433, (((((hF44.up (by decide)).tr ((((xFr.of (S := [82, 83, 113]) hb298 (by decide)).tr (xFr.of (S := [82, 83, 113]) hb338 (by decide))).tr (xFr.of (S := [82, 83, 113]) hb346 (by decide))).tr (xFr.of (S := [82, 83, 113]) hb354 (by decide)))).tr (hF366.up (by decide))).tr (xFr.of (S := [82, 83, 113]) hb412 (by decide))).tr (hF434.up (by decide))), ⟨fun _ => by omega, by omega, by omega, (show fld w431 82 10 = 0 ∨ FA w431 ≠ 0 by omega), ((((((((K83.fr hF44 (by decide)).tr (K83.but hb298 (by decide))).tr (K83.but hb338 (by decide))).tr (K83.but hb346 (by decide))).tr (K83.but hb354 (by decide))).tr (K83.fr hF366 (by decide))).tr (K83.but hb412 (by decide))).tr hv440)⟩⟩
                · refine xg_t (xg_icT (u := f82_375) (v := 59) rfl xnm0 xnm0 (xj_neT hc430)) ?_
                  refine xg_t (xg_blk (b := [(136, 1, 0, 0, 0, 0), (137, 3, 13, 110, 96, 190), (140, 1, 0, 0, 0, 0), (141, 3, 1, 12, 46, 102), (144, 1, 3, 3, 0, 0), (145, 1, 0, 0, 0, 0), (146, 3, 13, 198, 96, 418), (149, 1, 17, 0, 0, 0), (150, 1, 12, 0, 0, 0)]) rfl) ?_
                  refine xg_t (xg_aload (va := (2, 82)) rfl rfl) ?_
                  refine xg_cVv mX12_advance (vs := []) (rest := []) (cn1 := 0) (sl1 := 0) rfl (mAdvance (xMnv.up (S := [113]) hI365 (xFr.of (S := [113]) hb412 (by decide)) (List.forall_mem_cons.mpr ⟨(show cpI 4 80 4294967295 (wget w410 113) from ⟨_, hr411, xrb (by omega) (xrb (by omega) (xrb (by omega) (xrb (by omega) (xrb (by omega) (hb40)))))⟩), fun _ h => absurd h List.not_mem_nil⟩))) rfl (hb412.get (by decide) h82_403) rfl rfl rfl rfl rfl rfl (fun w441 hq442 => ?_)
                  obtain ⟨hI443, hF444, hx445⟩ := hq442
                  obtain ⟨hv446, hv447, hv448, hv449⟩ := hx445
                  have hf450 := FA_fr hF444 (by decide)
                  refine xg_t (xg_aload (va := (2, 82)) rfl rfl) ?_
                  obtain ⟨f82_451, f82_453, f82_455, f82_457, f82_459, f82_461, f82_463, f82_465, f82_467, f82_469, f82_471, f82_472, f82_473, f82_475, f82_477, f82_479, h82_481, hb452, hb454, hb456, hb458, hb460, hb462, hb464, hb466, hb468, hb470, hb474, hb476, hb478, hb480, hb482⟩ := (hI443 82 (by decide) (by decide) : cp82 (wget w441 82))
                  refine xg_t (xg_getf (va := (2, 113)) h82_481 rfl) ?_
                  refine xg_t (xg_const) ?_
                  refine xg_t (xg_aload (va := (2, 82)) rfl rfl) ?_
                  refine xg_cVi mX12_numberNow (vs := []) (rest := [(0, 3), (2, 113)]) (cn1 := 0) (sl1 := 0) rfl (mNumberNow (hI443) (show fld w441 82 10 = 0 ∨ FA w441 ≠ 0 by omega)) rfl h82_481 rfl rfl rfl rfl rfl rfl (fun n487 w483 hq484 => ?_)
                  obtain ⟨hn488, hI485, hF486⟩ := hq484
                  obtain ⟨hn489, hn490⟩ := hn488
                  have hq491 := hn490
                  unfold PK PS at hq491
                  refine xg_iastK (n := 3) (u := n487) ((hr411.fr hF444 (by decide)).fr hF486 (by decide)) xnm0 xnm0 rfl (by omega) (fun w492 hr493 hb494 => ?_)
                  have hf495 := FA_fr (xFr.of (S := [113]) hb494 (by decide)) (by decide)
                  have hf496 := mu_fr (xFr.of (S := [113]) hb494 (by decide)) (by decide)
                  have hf497 := fld_fr (c := 82) (j := 7) (xFr.of (S := [113]) hb494 (by decide)) (by decide)
                  have hf498 := fld_fr (c := 82) (j := 10) (xFr.of (S := [113]) hb494 (by decide)) (by decide)
                  have hf499 := fld_fr (c := 82) (j := 14) (xFr.of (S := [113]) hb494 (by decide)) (by decide)
                  exact xg_e ⟨w492, ⟨rfl, rfl⟩, xMnv.up (S := [113]) hI485 (xFr.of (S := [113]) hb494 (by decide)) (List.forall_mem_cons.mpr ⟨(show cpI 4 80 4294967295 (wget w492 113) from ⟨_, hr493, xrb (by omega) (xrb (by omega) (xrb (by omega) (xrb (by omega) (xrb (by omega) (xrb (by omega) (hb40))))))⟩), fun _ h => absurd h List.not_mem_nil⟩), (((((((hF44.up (by decide)).tr ((((xFr.of (S := [82, 83, 113]) hb298 (by decide)).tr (xFr.of (S := [82, 83, 113]) hb338 (by decide))).tr (xFr.of (S := [82, 83, 113]) hb346 (by decide))).tr (xFr.of (S := [82, 83, 113]) hb354 (by decide)))).tr (hF366.up (by decide))).tr (xFr.of (S := [82, 83, 113]) hb412 (by decide))).tr (hF444.up (by decide))).tr (hF486.up (by decide))).tr (xFr.of (S := [82, 83, 113]) hb494 (by decide))), ⟨fun _ => by omega, by omega, by omega, (show fld w492 82 10 = 0 ∨ FA w492 ≠ 0 by omega), ((((((((((K83.fr hF44 (by decide)).tr (K83.but hb298 (by decide))).tr (K83.but hb338 (by decide))).tr (K83.but hb346 (by decide))).tr (K83.but hb354 (by decide))).tr (K83.fr hF366 (by decide))).tr (K83.but hb412 (by decide))).tr (K83.fr hF444 (by decide))).tr hn490.2.2.2.2).tr (K83.but hb494 (by decide)))⟩⟩
            · refine xg_t (xg_icT (u := f82_383) (v := 2) rfl xnm0 xnm0 (xj_neT hc418)) ?_
              refine xg_t (xg_blk (b := [(131, 1, 0, 0, 0, 0), (132, 3, 13, 140, 96, 183), (135, 1, 12, 0, 0, 0)]) rfl) ?_
              refine xg_t (xg_aload (va := (2, 82)) rfl rfl) ?_
              refine xg_cVv mX12_ends (vs := []) (rest := []) (cn1 := 0) (sl1 := 0) rfl (mEnds (xMnv.up (S := [113]) hI365 (xFr.of (S := [113]) hb412 (by decide)) (List.forall_mem_cons.mpr ⟨(show cpI 4 80 4294967295 (wget w410 113) from ⟨_, hr411, xrb (by omega) (xrb (by omega) (xrb (by omega) (xrb (by omega) (xrb (by omega) (hb40)))))⟩), fun _ h => absurd h List.not_mem_nil⟩)) (show fld w410 82 10 = 0 ∨ FA w410 ≠ 0 by omega)) rfl (hb412.get (by decide) h82_403) rfl rfl rfl rfl rfl rfl (fun w500 hq501 => ?_)
              obtain ⟨hI502, hF503, hx504⟩ := hq501
              obtain ⟨hv505, hv506, hv507, hv508, hv509⟩ := hx504
              exact xg_e ⟨w500, ⟨rfl, rfl⟩, hI502, (((((hF44.up (by decide)).tr ((((xFr.of (S := [82, 83, 113]) hb298 (by decide)).tr (xFr.of (S := [82, 83, 113]) hb338 (by decide))).tr (xFr.of (S := [82, 83, 113]) hb346 (by decide))).tr (xFr.of (S := [82, 83, 113]) hb354 (by decide)))).tr (hF366.up (by decide))).tr (xFr.of (S := [82, 83, 113]) hb412 (by decide))).tr (hF503.up (by decide))), ⟨fun _ => by omega, by omega, by omega, (show fld w500 82 10 = 0 ∨ FA w500 ≠ 0 by omega), ((((((((K83.fr hF44 (by decide)).tr (K83.but hb298 (by decide))).tr (K83.but hb338 (by decide))).tr (K83.but hb346 (by decide))).tr (K83.but hb354 (by decide))).tr (K83.fr hF366 (by decide))).tr (K83.but hb412 (by decide))).tr hv509)⟩⟩
          · have hc408u := hc408
            unfold xbs at hc408u
            refine xg_t (xg_icF (u := u405) (v := 21) rfl xnm0 xnm0 (xjs_gtF hc408)) ?_
            exact xg_e ⟨w363, ⟨rfl, rfl⟩, hI365, (((hF44.up (by decide)).tr ((((xFr.of (S := [82, 83, 113]) hb298 (by decide)).tr (xFr.of (S := [82, 83, 113]) hb338 (by decide))).tr (xFr.of (S := [82, 83, 113]) hb346 (by decide))).tr (xFr.of (S := [82, 83, 113]) hb354 (by decide)))).tr (hF366.up (by decide))), ⟨fun _ => by omega, by omega, by omega, (show fld w363 82 10 = 0 ∨ FA w363 ≠ 0 by omega), ((((((K83.fr hF44 (by decide)).tr (K83.but hb298 (by decide))).tr (K83.but hb338 (by decide))).tr (K83.but hb346 (by decide))).tr (K83.but hb354 (by decide))).tr (K83.fr hF366 (by decide)))⟩⟩
        · refine xg_t (xg_ifF (u := (if 20 ≤ f82_318 ∧ f82_318 ≤ 30 then 1 else 0)) rfl xnm0 (xj_neF (xite0 hc362))) ?_
          refine xg_t (xg_blk (b := [(74, 1, 0, 0, 0, 0), (75, 3, 13, 140, 96, 183), (78, 1, 12, 0, 0, 0)]) rfl) ?_
          refine xg_t (xg_aload (va := (2, 82)) rfl rfl) ?_
          refine xg_cVv mX12_ends (vs := []) (rest := []) (cn1 := 0) (sl1 := 0) rfl (mEnds (xMnv.up (S := [113]) hI43 ((((xFr.of (S := [113]) hb298 (by decide)).tr (xFr.of (S := [113]) hb338 (by decide))).tr (xFr.of (S := [113]) hb346 (by decide))).tr (xFr.of (S := [113]) hb354 (by decide))) (List.forall_mem_cons.mpr ⟨(show cpI 4 80 4294967295 (wget w352 113) from ⟨_, hr353, xrb (by omega) (xrb (by omega) (xrb (by omega) (xrb (by omega) (hb40))))⟩), fun _ h => absurd h List.not_mem_nil⟩)) (show fld w352 82 10 = 0 ∨ FA w352 ≠ 0 by omega)) rfl (hb354.get (by decide) (hb346.get (by decide) (hb338.get (by decide) (hb298.get (by decide) h82_334)))) rfl rfl rfl rfl rfl rfl (fun w510 hq511 => ?_)
          obtain ⟨hI512, hF513, hx514⟩ := hq511
          obtain ⟨hv515, hv516, hv517, hv518, hv519⟩ := hx514
          exact xg_e ⟨w510, ⟨rfl, rfl⟩, hI512, (((hF44.up (by decide)).tr ((((xFr.of (S := [82, 83, 113]) hb298 (by decide)).tr (xFr.of (S := [82, 83, 113]) hb338 (by decide))).tr (xFr.of (S := [82, 83, 113]) hb346 (by decide))).tr (xFr.of (S := [82, 83, 113]) hb354 (by decide)))).tr (hF513.up (by decide))), ⟨fun _ => by omega, by omega, by omega, (show fld w510 82 10 = 0 ∨ FA w510 ≠ 0 by omega), ((((((K83.fr hF44 (by decide)).tr (K83.but hb298 (by decide))).tr (K83.but hb338 (by decide))).tr (K83.but hb346 (by decide))).tr (K83.but hb354 (by decide))).tr hv519)⟩⟩
      · refine xg_t (xg_icT (u := f82_314) (v := 3) rfl xnm0 xnm0 (xj_neT hc361)) ?_
        refine xg_t (xg_blk (b := [(74, 1, 0, 0, 0, 0), (75, 3, 13, 140, 96, 183), (78, 1, 12, 0, 0, 0)]) rfl) ?_
        refine xg_t (xg_aload (va := (2, 82)) rfl rfl) ?_
        refine xg_cVv mX12_ends (vs := []) (rest := []) (cn1 := 0) (sl1 := 0) rfl (mEnds (xMnv.up (S := [113]) hI43 ((((xFr.of (S := [113]) hb298 (by decide)).tr (xFr.of (S := [113]) hb338 (by decide))).tr (xFr.of (S := [113]) hb346 (by decide))).tr (xFr.of (S := [113]) hb354 (by decide))) (List.forall_mem_cons.mpr ⟨(show cpI 4 80 4294967295 (wget w352 113) from ⟨_, hr353, xrb (by omega) (xrb (by omega) (xrb (by omega) (xrb (by omega) (hb40))))⟩), fun _ h => absurd h List.not_mem_nil⟩)) (show fld w352 82 10 = 0 ∨ FA w352 ≠ 0 by omega)) rfl (hb354.get (by decide) (hb346.get (by decide) (hb338.get (by decide) (hb298.get (by decide) h82_334)))) rfl rfl rfl rfl rfl rfl (fun w520 hq521 => ?_)
        obtain ⟨hI522, hF523, hx524⟩ := hq521
        obtain ⟨hv525, hv526, hv527, hv528, hv529⟩ := hx524
        exact xg_e ⟨w520, ⟨rfl, rfl⟩, hI522, (((hF44.up (by decide)).tr ((((xFr.of (S := [82, 83, 113]) hb298 (by decide)).tr (xFr.of (S := [82, 83, 113]) hb338 (by decide))).tr (xFr.of (S := [82, 83, 113]) hb346 (by decide))).tr (xFr.of (S := [82, 83, 113]) hb354 (by decide)))).tr (hF523.up (by decide))), ⟨fun _ => by omega, by omega, by omega, (show fld w520 82 10 = 0 ∨ FA w520 ≠ 0 by omega), ((((((K83.fr hF44 (by decide)).tr (K83.but hb298 (by decide))).tr (K83.but hb338 (by decide))).tr (K83.but hb346 (by decide))).tr (K83.but hb354 (by decide))).tr hv529)⟩⟩
    · refine xg_t (xg_ifT (u := f82_320) rfl xnm0 (xj_neT hc360)) ?_
      refine xg_t (xg_blk (b := [(74, 1, 0, 0, 0, 0), (75, 3, 13, 140, 96, 183), (78, 1, 12, 0, 0, 0)]) rfl) ?_
      refine xg_t (xg_aload (va := (2, 82)) rfl rfl) ?_
      refine xg_cVv mX12_ends (vs := []) (rest := []) (cn1 := 0) (sl1 := 0) rfl (mEnds (xMnv.up (S := [113]) hI43 ((((xFr.of (S := [113]) hb298 (by decide)).tr (xFr.of (S := [113]) hb338 (by decide))).tr (xFr.of (S := [113]) hb346 (by decide))).tr (xFr.of (S := [113]) hb354 (by decide))) (List.forall_mem_cons.mpr ⟨(show cpI 4 80 4294967295 (wget w352 113) from ⟨_, hr353, xrb (by omega) (xrb (by omega) (xrb (by omega) (xrb (by omega) (hb40))))⟩), fun _ h => absurd h List.not_mem_nil⟩)) (show fld w352 82 10 = 0 ∨ FA w352 ≠ 0 by omega)) rfl (hb354.get (by decide) (hb346.get (by decide) (hb338.get (by decide) (hb298.get (by decide) h82_334)))) rfl rfl rfl rfl rfl rfl (fun w530 hq531 => ?_)
      obtain ⟨hI532, hF533, hx534⟩ := hq531
      obtain ⟨hv535, hv536, hv537, hv538, hv539⟩ := hx534
      exact xg_e ⟨w530, ⟨rfl, rfl⟩, hI532, (((hF44.up (by decide)).tr ((((xFr.of (S := [82, 83, 113]) hb298 (by decide)).tr (xFr.of (S := [82, 83, 113]) hb338 (by decide))).tr (xFr.of (S := [82, 83, 113]) hb346 (by decide))).tr (xFr.of (S := [82, 83, 113]) hb354 (by decide)))).tr (hF533.up (by decide))), ⟨fun _ => by omega, by omega, by omega, (show fld w530 82 10 = 0 ∨ FA w530 ≠ 0 by omega), ((((((K83.fr hF44 (by decide)).tr (K83.but hb298 (by decide))).tr (K83.but hb338 (by decide))).tr (K83.but hb346 (by decide))).tr (K83.but hb354 (by decide))).tr hv539)⟩⟩
theorem mRulePuts {kk va : Nat} (hI : xMnv w) (hkk : kk ≤ 19) (hva : va ≤ 4294967295) (hln : fld w 82 14 ≤ 2000) : xPq d mX12_rulePuts [(2, 82), (0, kk), (0, va)] w bd fc rr [] (fun w' => xMnv w' ∧ xFr [112] w w' ∧ (∀ j, j < 320 → ((fld w 82 14 < 16 ∧ j = 20 * fld w 82 14 + kk) → rwv w' 112 j = va) ∧ (¬ (j = 20 * fld w 82 14 + kk) → rwv w' 112 j = rwv w 112 j))) := by
  refine xPq.of ?_
  show xTo d mX12_rulePuts (0, [], [(0, (2, 82)), (1, (0, kk)), (2, (0, va))], [], (w, bd, fc, 0, 0, rr)) (fun φ => ∃ w', xEnd 0 [] (w', bd, fc, 0, 0, rr) φ ∧ xMnv w' ∧ xFr [112] w w' ∧ (∀ j, j < 320 → ((fld w 82 14 < 16 ∧ j = 20 * fld w 82 14 + kk) → rwv w' 112 j = va) ∧ (¬ (j = 20 * fld w 82 14 + kk) → rwv w' 112 j = rwv w 112 j)))
  obtain ⟨f82_1, f82_3, f82_5, f82_7, f82_9, f82_11, f82_13, f82_15, f82_17, f82_19, f82_21, f82_22, f82_23, f82_25, f82_27, f82_29, h82_31, hb2, hb4, hb6, hb8, hb10, hb12, hb14, hb16, hb18, hb20, hb24, hb26, hb28, hb30, hb32⟩ := (hI 82 (by decide) (by decide) : cp82 (wget w 82))
  obtain ⟨g112_33, h112_34, hb35⟩ := (hI 112 (by decide) (by decide) : cpI 320 79 4294967295 (wget w 112))
  have h112_34 : xRow w 112 320 79 g112_33 := h112_34
  have hf36 : fld w 82 14 = f82_19 := fld_of h82_31
  have hl37 : f82_19 ≤ 2000 := by omega
  refine xg_t (xg_blk (b := [(0, 1, 0, 0, 0, 0), (1, 3, 1, 12, 14, 212), (4, 2, 4, 16, 0, 0), (6, 3, 6, 24, 3, 0), (9, 1, 0, 0, 0, 0), (10, 3, 1, 12, 45, 99), (13, 2, 4, 20, 0, 0), (15, 1, 0, 0, 0, 0), (16, 3, 1, 12, 14, 212), (19, 1, 16, 0, 0, 0), (20, 1, 2, 1, 0, 0), (21, 1, 11, 0, 0, 0), (22, 1, 2, 2, 0, 0), (23, 1, 17, 0, 0, 0)]) rfl) ?_
  refine xg_t (xg_aload (va := (2, 82)) rfl rfl) ?_
  refine xg_t (xg_getf (va := (0, f82_19)) h82_31 rfl) ?_
  refine xg_t (xg_bip) ?_
  by_cases hc38 : f82_19 < 16
  · refine xg_t (xg_icF (u := f82_19) (v := 16) rfl xnm0 xnm0 (xj_geF hc38 (by omega))) ?_
    refine xg_t (xg_aload (va := (2, 82)) rfl rfl) ?_
    refine xg_t (xg_getf (va := (2, 112)) h82_31 rfl) ?_
    refine xg_t (xg_bip) ?_
    refine xg_t (xg_aload (va := (2, 82)) rfl rfl) ?_
    refine xg_t (xg_getf (va := (0, f82_19)) h82_31 rfl) ?_
    refine xg_t (xg_imul (u := 20) (v := f82_19) (z := 20 * f82_19) xnm0 xnm0 (by omega)) ?_
    refine xg_t (xg_iload (va := (0, kk)) rfl rfl) ?_
    refine xg_t (xg_iadd (u := 20 * f82_19) (v := kk) (z := (20 * f82_19) + kk) xnm0 xnm0 (by omega)) ?_
    refine xg_t (xg_iload (va := (0, va)) rfl rfl) ?_
    refine xg_iastK (n := (20 * f82_19) + kk) (u := va) h112_34 xnm0 xnm0 rfl (by omega) (fun w39 hr40 hb41 => ?_)
    refine xg_t (xg_blk (b := [(24, 1, 12, 0, 0, 0)]) rfl) ?_
    exact xg_e ⟨w39, ⟨rfl, rfl⟩, xMnv.up (S := [112]) hI (xFr.of (S := [112]) hb41 (by decide)) (List.forall_mem_cons.mpr ⟨(show cpI 320 79 4294967295 (wget w39 112) from ⟨_, hr40, xrb (by omega) (hb35)⟩), fun _ h => absurd h List.not_mem_nil⟩), (xFr.of (S := [112]) hb41 (by decide)), fun j hj => ⟨fun h => (rwv_of hr40 hj).trans (if_pos (show j = (20 * f82_19) + kk by omega)), fun h => (rwv_of hr40 hj).trans ((if_neg (show ¬ j = (20 * f82_19) + kk by omega)).trans (rwv_of h112_34 hj).symm)⟩⟩
  · refine xg_t (xg_icT (u := f82_19) (v := 16) rfl xnm0 xnm0 (xj_geT (by omega) (by omega))) ?_
    refine xg_t (xg_blk (b := [(24, 1, 12, 0, 0, 0)]) rfl) ?_
    exact xg_e ⟨w, ⟨rfl, rfl⟩, hI, xFr.rf, fun j hj => ⟨fun h => absurd h.1 (by omega), fun _ => rfl⟩⟩
set_option maxHeartbeats 60000000 in
theorem mARuleT {kr : Nat} (hI : xMnv w) (hps : PS w) (hln : fld w 82 14 ≤ 1000) (hk : FA w ≠ 0 ∨ kr ≤ 4) (hkr : kr ≤ 1002) (h16 : 16 ≤ fld w 82 14 → FA w ≠ 0) : xTo (d + 7) mX12_aRule (107, [], [(0, (2, 82)), (1, (0, kr))], [], (w, bd, fc, 0, 0, rr)) (fun φ => ∃ w', xEnd 0 [] (w', bd, fc, 0, 0, rr) φ ∧ xMnv w' ∧ xFr [82, 83, 112, 113] w w' ∧ ((FA w ≠ 0 → FA w' ≠ 0) ∧ PS w' ∧ ((fld w' 82 10 = 1 ∧ mu w' ≤ mu w ∧ fld w' 82 14 = fld w 82 14) ∨ (mu w' < mu w ∧ fld w' 82 14 = fld w 82 14 + 1)) ∧ (FA w' ≠ 0 ∨ (RD w → RD w')) ∧ K83 w w')) := by
  obtain ⟨f82_1, f82_3, f82_5, f82_7, f82_9, f82_11, f82_13, f82_15, f82_17, f82_19, f82_21, f82_22, f82_23, f82_25, f82_27, f82_29, h82_31, hb2, hb4, hb6, hb8, hb10, hb12, hb14, hb16, hb18, hb20, hb24, hb26, hb28, hb30, hb32⟩ := (hI 82 (by decide) (by decide) : cp82 (wget w 82))
  have hf33 : fld w 82 4 = f82_5 := fld_of h82_31
  have hf34 : fld w 82 5 = f82_7 := fld_of h82_31
  have hf35 : fld w 82 7 = f82_11 := fld_of h82_31
  have hf36 : fld w 82 10 = f82_17 := fld_of h82_31
  have hf37 : fld w 82 14 = f82_19 := fld_of h82_31
  have hps_ : fld w 82 10 = 0 ∨ FA w ≠ 0 := hps
  obtain ⟨g113_38, h113_39, hb40⟩ := (hI 113 (by decide) (by decide) : cpI 4 80 4294967295 (wget w 113))
  have h113_39 : xRow w 113 4 80 g113_38 := h113_39
  have hl41 : f82_19 ≤ 1000 := by omega
  refine xg_t (xg_blk (b := [(107, 1, 0, 0, 0, 0), (108, 3, 1, 12, 10, 180), (111, 3, 7, 136, 1, 0), (114, 1, 0, 0, 0, 0), (115, 3, 1, 12, 7, 151), (118, 1, 3, 3, 0, 0), (119, 3, 6, 136, 1, 0), (122, 1, 0, 0, 0, 0), (123, 3, 1, 12, 9, 165), (126, 2, 4, 40, 0, 0), (128, 2, 4, 42, 0, 0), (130, 3, 13, 161, 98, 105), (133, 3, 7, 141, 1, 0)]) rfl) ?_
  refine xg_t (xg_aload (va := (2, 82)) rfl rfl) ?_
  refine xg_t (xg_getf (va := (0, f82_17)) h82_31 rfl) ?_
  by_cases hc42 : f82_17 = 0
  · refine xg_t (xg_ifF (u := f82_17) rfl xnm0 (xj_neF hc42)) ?_
    refine xg_t (xg_aload (va := (2, 82)) rfl rfl) ?_
    refine xg_t (xg_getf (va := (0, f82_11)) h82_31 rfl) ?_
    refine xg_t (xg_const) ?_
    by_cases hc43 : f82_11 = 3
    · refine xg_t (xg_icF (u := f82_11) (v := 3) rfl xnm0 xnm0 (xj_neF hc43)) ?_
      refine xg_t (xg_aload (va := (2, 82)) rfl rfl) ?_
      refine xg_t (xg_getf (va := (0, f82_15)) h82_31 rfl) ?_
      refine xg_t (xg_bip) ?_
      refine xg_t (xg_bip) ?_
      refine xg_t (xg_cSr mX12_isIn (vs := [(0, f82_15), (0, 40), (0, 42)]) (rest := []) (rs := [(0, if 40 ≤ f82_15 ∧ f82_15 ≤ 42 then 1 else 0)]) (cn1 := 0) (sl1 := 0) rfl (mIsIn (by omega) (by omega) (by omega)) rfl rfl rfl rfl rfl rfl rfl rfl) ?_
      by_cases hc44 : 40 ≤ f82_15 ∧ f82_15 ≤ 42
      · refine xg_t (xg_ifT (u := (if 40 ≤ f82_15 ∧ f82_15 ≤ 42 then 1 else 0)) rfl xnm0 (xj_neT (xite1 hc44))) ?_
        refine xg_t (xg_blk (b := [(141, 1, 0, 0, 0, 0), (142, 3, 1, 12, 9, 165), (145, 1, 15, 2, 0, 0), (146, 1, 0, 0, 0, 0), (147, 3, 13, 110, 96, 190), (150, 1, 2, 2, 0, 0), (151, 2, 4, 40, 0, 0), (153, 3, 6, 160, 1, 0), (156, 1, 3, 0, 0, 0), (157, 3, 8, 164, 0, 0)]) rfl) ?_
        refine xg_t (xg_aload (va := (2, 82)) rfl rfl) ?_
        refine xg_t (xg_getf (va := (0, f82_15)) h82_31 rfl) ?_
        refine xg_t (xg_istore (l1 := [(0, (2, 82)), (1, (0, kr))]) rfl rfl rfl) ?_
        refine xg_t (xg_aload (va := (2, 82)) rfl rfl) ?_
        have hf45 : fld w 82 7 = f82_11 := fld_of h82_31
        refine xg_cVv mX12_advance (vs := []) (rest := []) (cn1 := 0) (sl1 := 0) rfl (mAdvance (hI)) rfl h82_31 rfl rfl rfl rfl rfl rfl (fun w46 hq47 => ?_)
        obtain ⟨hI48, hF49, hx50⟩ := hq47
        clear hb2 hb4 hb6 hb8 hb10 hb12 hb14 hb18 hb20 hb24 hb26 hb28 hb30
        obtain ⟨hv51, hv52, hv53, hv54⟩ := hx50
        have hf55 := FA_fr hF49 (by decide)
        have pk56 : PK w w46 := ⟨fun _ => by omega, hv51, hv54, (show fld w46 82 10 = 0 ∨ FA w46 ≠ 0 by omega), K83.fr hF49 (by decide)⟩
        have pk57 : PK w w46 := PK.tr (PK.rf hps) pk56
        have ro58 : ∀ l, l < fld w 82 14 → l < 16 → rwv w46 112 (20 * l) = rwv w 112 (20 * l) := fun l hl h6 => (rwv_fr hF49 (by decide)).trans ((fun l _ _ => rfl) l hl h6)
        have hq59 := pk57
        unfold PK PS at hq59
        have ms60 : mu w46 < mu w := Nat.lt_of_lt_of_le (hv52 (by omega)) (PK.rf hps).2.1
        refine xg_t (xg_iload (va := (0, f82_15)) rfl rfl) ?_
        refine xg_t (xg_bip) ?_
        by_cases hc61 : f82_15 = 40
        · refine xg_t (xg_icF (u := f82_15) (v := 40) rfl xnm0 xnm0 (xj_neF hc61)) ?_
          refine xg_t (xg_const) ?_
          refine xg_t (xg_goto) ?_
          refine xg_t (xg_blk (b := [(164, 1, 15, 3, 0, 0), (165, 1, 0, 0, 0, 0), (166, 2, 4, 59, 0, 0), (168, 3, 13, 195, 96, 427), (171, 1, 0, 0, 0, 0), (172, 1, 3, 0, 0, 0), (173, 1, 2, 1, 0, 0), (174, 3, 13, 214, 96, 424), (177, 1, 0, 0, 0, 0), (178, 2, 4, 17, 0, 0), (180, 1, 2, 2, 0, 0), (181, 3, 13, 214, 96, 424), (184, 1, 0, 0, 0, 0), (185, 2, 4, 18, 0, 0), (187, 1, 2, 3, 0, 0), (188, 3, 13, 214, 96, 424), (191, 1, 0, 0, 0, 0), (192, 1, 19, 0, 0, 0), (193, 3, 1, 12, 14, 212), (196, 1, 3, 1, 0, 0), (197, 1, 11, 0, 0, 0), (198, 3, 14, 12, 14, 212), (201, 1, 12, 0, 0, 0)]) rfl) ?_
          refine xg_t (xg_istore (l1 := [(2, (0, f82_15)), (0, (2, 82)), (1, (0, kr))]) rfl rfl rfl) ?_
          refine xg_t (xg_aload (va := (2, 82)) rfl rfl) ?_
          refine xg_t (xg_bip) ?_
          obtain ⟨f82_62, f82_64, f82_66, f82_68, f82_70, f82_72, f82_74, f82_76, f82_78, f82_80, f82_82, f82_83, f82_84, f82_86, f82_88, f82_90, h82_92, hb63, hb65, hb67, hb69, hb71, hb73, hb75, hb77, hb79, hb81, hb85, hb87, hb89, hb91, hb93⟩ := (hI48 82 (by decide) (by decide) : cp82 (wget w46 82))
          refine xg_cVv mX12_must (vs := [(0, 59)]) (rest := []) (cn1 := 0) (sl1 := 0) rfl (mMust (hI48) (by omega) pk57.2.2.2.1) rfl h82_92 rfl rfl rfl rfl rfl rfl (fun w94 hq95 => ?_)
          obtain ⟨hI96, hF97, hx98⟩ := hq95
          clear hb63 hb65 hb67 hb69 hb71 hb73 hb75 hb77 hb79 hb81 hb85 hb87 hb89 hb91
          have pk99 : PK w w94 := PK.tr pk57 hx98
          have ro100 : ∀ l, l < fld w 82 14 → l < 16 → rwv w94 112 (20 * l) = rwv w 112 (20 * l) := fun l hl h6 => (rwv_fr hF97 (by decide)).trans (ro58 l hl h6)
          have hq101 := pk99
          unfold PK PS at hq101
          clear hq59
          have ms102 : mu w94 < mu w := Nat.lt_of_le_of_lt hx98.2.1 ms60
          refine xg_t (xg_aload (va := (2, 82)) rfl rfl) ?_
          refine xg_t (xg_const) ?_
          refine xg_t (xg_iload (va := (0, kr)) rfl rfl) ?_
          have hl103 : fld w94 82 14 = fld w 82 14 := pk99.2.2.1
          have hl104 : fld w94 82 14 ≤ 2000 := by omega
          obtain ⟨f82_105, f82_107, f82_109, f82_111, f82_113, f82_115, f82_117, f82_119, f82_121, f82_123, f82_125, f82_126, f82_127, f82_129, f82_131, f82_133, h82_135, hb106, hb108, hb110, hb112, hb114, hb116, hb118, hb120, hb122, hb124, hb128, hb130, hb132, hb134, hb136⟩ := (hI96 82 (by decide) (by decide) : cp82 (wget w94 82))
          refine xg_cVv mX12_rulePuts (vs := [(0, 0), (0, kr)]) (rest := []) (cn1 := 0) (sl1 := 0) rfl (mRulePuts (hI96) (by omega) (by omega) (by omega)) rfl h82_135 rfl rfl rfl rfl rfl rfl (fun w137 hq138 => ?_)
          obtain ⟨hI139, hF140, hx141⟩ := hq138
          have hx142 := hx141
          have pk143 : PK w w137 := PK.tr pk99 (PK.fr hF140 (by decide) (by decide) pk99.2.2.2.1)
          have ro144 : ∀ l, l < fld w 82 14 → l < 16 → rwv w137 112 (20 * l) = rwv w 112 (20 * l) := fun l hl h6 => ((hx142 _ (by omega)).2 (by omega)).trans (ro100 l hl h6)
          have hq145 := pk143
          unfold PK PS at hq145
          clear hq101
          have ms146 : mu w137 < mu w := Nat.lt_of_le_of_lt (PK.fr hF140 (by decide) (by decide) pk99.2.2.2.1).2.1 ms102
          have rz147 : fld w 82 14 < 16 → rwv w137 112 (20 * fld w 82 14) = kr := fun h6 => (hx142 _ (by omega)).1 ⟨by omega, by omega⟩
          refine xg_t (xg_aload (va := (2, 82)) rfl rfl) ?_
          refine xg_t (xg_bip) ?_
          refine xg_t (xg_iload (va := (0, f82_15)) rfl rfl) ?_
          have hl148 : fld w137 82 14 = fld w 82 14 := pk143.2.2.1
          have hl149 : fld w137 82 14 ≤ 2000 := by omega
          refine xg_cVv mX12_rulePuts (vs := [(0, 17), (0, f82_15)]) (rest := []) (cn1 := 0) (sl1 := 0) rfl (mRulePuts (hI139) (by omega) (by omega) (by omega)) rfl (hF140.get (by decide) h82_135) rfl rfl rfl rfl rfl rfl (fun w150 hq151 => ?_)
          obtain ⟨hI152, hF153, hx154⟩ := hq151
          have hx155 := hx154
          have pk156 : PK w w150 := PK.tr pk143 (PK.fr hF153 (by decide) (by decide) pk143.2.2.2.1)
          have ro157 : ∀ l, l < fld w 82 14 → l < 16 → rwv w150 112 (20 * l) = rwv w 112 (20 * l) := fun l hl h6 => ((hx155 _ (by omega)).2 (by omega)).trans (ro144 l hl h6)
          have hq158 := pk156
          unfold PK PS at hq158
          clear hq145
          have ms159 : mu w150 < mu w := Nat.lt_of_le_of_lt (PK.fr hF153 (by decide) (by decide) pk143.2.2.2.1).2.1 ms146
          have rz160 : fld w 82 14 < 16 → rwv w150 112 (20 * fld w 82 14) = kr := fun h6 => ((hx155 _ (by omega)).2 (by omega)).trans (rz147 h6)
          refine xg_t (xg_aload (va := (2, 82)) rfl rfl) ?_
          refine xg_t (xg_bip) ?_
          refine xg_t (xg_iload (va := (0, 0)) rfl rfl) ?_
          have hl161 : fld w150 82 14 = fld w 82 14 := pk156.2.2.1
          have hl162 : fld w150 82 14 ≤ 2000 := by omega
          refine xg_cVv mX12_rulePuts (vs := [(0, 18), (0, 0)]) (rest := []) (cn1 := 0) (sl1 := 0) rfl (mRulePuts (hI152) (by omega) (by omega) (by omega)) rfl (hF153.get (by decide) (hF140.get (by decide) h82_135)) rfl rfl rfl rfl rfl rfl (fun w163 hq164 => ?_)
          obtain ⟨hI165, hF166, hx167⟩ := hq164
          have hx168 := hx167
          have pk169 : PK w w163 := PK.tr pk156 (PK.fr hF166 (by decide) (by decide) pk156.2.2.2.1)
          have ro170 : ∀ l, l < fld w 82 14 → l < 16 → rwv w163 112 (20 * l) = rwv w 112 (20 * l) := fun l hl h6 => ((hx168 _ (by omega)).2 (by omega)).trans (ro157 l hl h6)
          have hq171 := pk169
          unfold PK PS at hq171
          clear hq158
          have ms172 : mu w163 < mu w := Nat.lt_of_le_of_lt (PK.fr hF166 (by decide) (by decide) pk156.2.2.2.1).2.1 ms159
          have rz173 : fld w 82 14 < 16 → rwv w163 112 (20 * fld w 82 14) = kr := fun h6 => ((hx168 _ (by omega)).2 (by omega)).trans (rz160 h6)
          have hf174 : fld w163 82 4 = f82_109 := fld_of (hF166.get (by decide) (hF153.get (by decide) (hF140.get (by decide) h82_135)))
          have hf175 : fld w163 82 5 = f82_111 := fld_of (hF166.get (by decide) (hF153.get (by decide) (hF140.get (by decide) h82_135)))
          have hf176 : fld w163 82 7 = f82_115 := fld_of (hF166.get (by decide) (hF153.get (by decide) (hF140.get (by decide) h82_135)))
          have hf177 : fld w163 82 10 = f82_121 := fld_of (hF166.get (by decide) (hF153.get (by decide) (hF140.get (by decide) h82_135)))
          have hf178 : fld w163 82 14 = f82_123 := fld_of (hF166.get (by decide) (hF153.get (by decide) (hF140.get (by decide) h82_135)))
          have hu179 : mu w163 = 2 * (fld w163 82 4 - fld w163 82 5) + min 1 (fld w163 82 7) := rfl
          have hl180 : f82_123 ≤ 1001 := by omega
          refine xg_t (xg_aload (va := (2, 82)) rfl rfl) ?_
          refine xg_t (xg_dup rfl) ?_
          refine xg_t (xg_getf (va := (0, f82_123)) (hF166.get (by decide) (hF153.get (by decide) (hF140.get (by decide) h82_135))) rfl) ?_
          refine xg_t (xg_const) ?_
          refine xg_t (xg_iadd (u := f82_123) (v := 1) (z := f82_123 + 1) xnm0 xnm0 (by omega)) ?_
          refine xg_putI (fl1 := [(2, 83), (2, 84), (0, f82_105), (0, f82_107), (0, f82_109), (0, f82_111), (0, f82_113), (0, f82_115), (0, f82_117), (0, f82_119), (0, f82_121), (2, 85), (2, 86), (2, 87), (0, f82_123 + 1), (2, 88), (2, 89), (2, 90), (2, 91), (2, 92), (2, 93), (2, 94), (4, f82_125), (4, f82_126), (0, f82_127), (2, 95), (2, 96), (2, 97), (2, 98), (2, 99), (2, 100), (2, 101), (2, 102), (0, f82_129), (2, 103), (2, 104), (2, 105), (2, 106), (2, 107), (2, 108), (2, 109), (0, f82_131), (0, f82_133), (2, 110), (2, 111), (2, 112), (2, 113)]) (hF166.get (by decide) (hF153.get (by decide) (hF140.get (by decide) h82_135))) rfl rfl rfl (fun w181 hk182 hb183 => ?_)
          have hF184 : xFr [82] w163 w181 := xFr.of hb183 (by decide)
          have hA185 := FA_fr hF184 (by decide)
          have hf186 : fld w181 82 4 = f82_109 := fld_of hk182
          have hf187 : fld w181 82 5 = f82_111 := fld_of hk182
          have hf188 : fld w181 82 7 = f82_115 := fld_of hk182
          have hf189 : fld w181 82 10 = f82_121 := fld_of hk182
          have hf190 : fld w181 82 14 = f82_123 + 1 := fld_of hk182
          have hu191 : mu w181 = 2 * (fld w181 82 4 - fld w181 82 5) + min 1 (fld w181 82 7) := rfl
          have hD192 : FA w181 ≠ 0 ∨ (RD w → RD w181) := by
            by_cases z : FA w181 ≠ 0
            · exact Or.inl z
            · refine Or.inr (fun hd => ⟨by omega, fun l hl => ?_⟩)
              rw [rwv_fr hF184 (by decide)]
              by_cases y : l = fld w 82 14
              · rw [y, rz173 (by omega)]; omega
              · rw [ro170 l (by omega) (by have := hd.1; omega)]; exact hd.2 l (by omega)
          exact xg_e ⟨w181, ⟨rfl, rfl⟩, xMnv.up (S := [82]) hI165 (xFr.of (S := [82]) hb183 (by decide)) (List.forall_mem_cons.mpr ⟨(show cp82 (wget w181 82) from ⟨f82_105, f82_107, f82_109, f82_111, f82_113, f82_115, f82_117, f82_119, f82_121, f82_123 + 1, f82_125, f82_126, f82_127, f82_129, f82_131, f82_133, hk182, hb106, hb108, hb110, hb112, hb114, hb116, hb118, hb120, hb122, by omega, hb128, hb130, hb132, hb134, by omega⟩), fun _ h => absurd h List.not_mem_nil⟩), ((((((hF49.up (by decide)).tr (hF97.up (by decide))).tr (hF140.up (by decide))).tr (hF153.up (by decide))).tr (hF166.up (by decide))).tr (xFr.of (S := [82, 83, 112, 113]) hb183 (by decide))), ⟨fun h => by have := pk169.1 h; omega, (show fld w181 82 10 = 0 ∨ FA w181 ≠ 0 by omega), Or.inr ⟨by have := ms172; omega, by omega⟩, hD192, pk169.2.2.2.2.tr (K83.fr hF184 (by decide))⟩⟩
        · refine xg_t (xg_icT (u := f82_15) (v := 40) rfl xnm0 xnm0 (xj_neT hc61)) ?_
          refine xg_t (xg_blk (b := [(160, 1, 0, 0, 0, 0), (161, 3, 13, 198, 96, 418)]) rfl) ?_
          refine xg_t (xg_aload (va := (2, 82)) rfl rfl) ?_
          obtain ⟨f82_193, f82_195, f82_197, f82_199, f82_201, f82_203, f82_205, f82_207, f82_209, f82_211, f82_213, f82_214, f82_215, f82_217, f82_219, f82_221, h82_223, hb194, hb196, hb198, hb200, hb202, hb204, hb206, hb208, hb210, hb212, hb216, hb218, hb220, hb222, hb224⟩ := (hI48 82 (by decide) (by decide) : cp82 (wget w46 82))
          refine xg_cVi mX12_numberNow (vs := []) (rest := []) (cn1 := 0) (sl1 := 0) rfl (mNumberNow (hI48) pk57.2.2.2.1) rfl h82_223 rfl rfl rfl rfl rfl rfl (fun n229 w225 hq226 => ?_)
          obtain ⟨hn230, hI227, hF228⟩ := hq226
          clear hb194 hb196 hb198 hb200 hb202 hb204 hb206 hb208 hb210 hb212 hb216 hb218 hb220 hb222
          obtain ⟨hn231, hn232⟩ := hn230
          have pk233 : PK w w225 := PK.tr pk57 hn232
          have ro234 : ∀ l, l < fld w 82 14 → l < 16 → rwv w225 112 (20 * l) = rwv w 112 (20 * l) := fun l hl h6 => (rwv_fr hF228 (by decide)).trans (ro58 l hl h6)
          have hq235 := pk233
          unfold PK PS at hq235
          clear hq59
          have ms236 : mu w225 < mu w := Nat.lt_of_le_of_lt hn232.2.1 ms60
          refine xg_t (xg_blk (b := [(164, 1, 15, 3, 0, 0), (165, 1, 0, 0, 0, 0), (166, 2, 4, 59, 0, 0), (168, 3, 13, 195, 96, 427), (171, 1, 0, 0, 0, 0), (172, 1, 3, 0, 0, 0), (173, 1, 2, 1, 0, 0), (174, 3, 13, 214, 96, 424), (177, 1, 0, 0, 0, 0), (178, 2, 4, 17, 0, 0), (180, 1, 2, 2, 0, 0), (181, 3, 13, 214, 96, 424), (184, 1, 0, 0, 0, 0), (185, 2, 4, 18, 0, 0), (187, 1, 2, 3, 0, 0), (188, 3, 13, 214, 96, 424), (191, 1, 0, 0, 0, 0), (192, 1, 19, 0, 0, 0), (193, 3, 1, 12, 14, 212), (196, 1, 3, 1, 0, 0), (197, 1, 11, 0, 0, 0), (198, 3, 14, 12, 14, 212), (201, 1, 12, 0, 0, 0)]) rfl) ?_
          refine xg_t (xg_istore (l1 := [(2, (0, f82_15)), (0, (2, 82)), (1, (0, kr))]) rfl rfl rfl) ?_
          refine xg_t (xg_aload (va := (2, 82)) rfl rfl) ?_
          refine xg_t (xg_bip) ?_
          obtain ⟨f82_237, f82_239, f82_241, f82_243, f82_245, f82_247, f82_249, f82_251, f82_253, f82_255, f82_257, f82_258, f82_259, f82_261, f82_263, f82_265, h82_267, hb238, hb240, hb242, hb244, hb246, hb248, hb250, hb252, hb254, hb256, hb260, hb262, hb264, hb266, hb268⟩ := (hI227 82 (by decide) (by decide) : cp82 (wget w225 82))
          refine xg_cVv mX12_must (vs := [(0, 59)]) (rest := []) (cn1 := 0) (sl1 := 0) rfl (mMust (hI227) (by omega) pk233.2.2.2.1) rfl h82_267 rfl rfl rfl rfl rfl rfl (fun w269 hq270 => ?_)
          obtain ⟨hI271, hF272, hx273⟩ := hq270
          clear hb238 hb240 hb242 hb244 hb246 hb248 hb250 hb252 hb254 hb256 hb260 hb262 hb264 hb266
          have pk274 : PK w w269 := PK.tr pk233 hx273
          have ro275 : ∀ l, l < fld w 82 14 → l < 16 → rwv w269 112 (20 * l) = rwv w 112 (20 * l) := fun l hl h6 => (rwv_fr hF272 (by decide)).trans (ro234 l hl h6)
          have hq276 := pk274
          unfold PK PS at hq276
          clear hq235
          have ms277 : mu w269 < mu w := Nat.lt_of_le_of_lt hx273.2.1 ms236
          refine xg_t (xg_aload (va := (2, 82)) rfl rfl) ?_
          refine xg_t (xg_const) ?_
          refine xg_t (xg_iload (va := (0, kr)) rfl rfl) ?_
          have hl278 : fld w269 82 14 = fld w 82 14 := pk274.2.2.1
          have hl279 : fld w269 82 14 ≤ 2000 := by omega
          obtain ⟨f82_280, f82_282, f82_284, f82_286, f82_288, f82_290, f82_292, f82_294, f82_296, f82_298, f82_300, f82_301, f82_302, f82_304, f82_306, f82_308, h82_310, hb281, hb283, hb285, hb287, hb289, hb291, hb293, hb295, hb297, hb299, hb303, hb305, hb307, hb309, hb311⟩ := (hI271 82 (by decide) (by decide) : cp82 (wget w269 82))
          refine xg_cVv mX12_rulePuts (vs := [(0, 0), (0, kr)]) (rest := []) (cn1 := 0) (sl1 := 0) rfl (mRulePuts (hI271) (by omega) (by omega) (by omega)) rfl h82_310 rfl rfl rfl rfl rfl rfl (fun w312 hq313 => ?_)
          obtain ⟨hI314, hF315, hx316⟩ := hq313
          have hx317 := hx316
          have pk318 : PK w w312 := PK.tr pk274 (PK.fr hF315 (by decide) (by decide) pk274.2.2.2.1)
          have ro319 : ∀ l, l < fld w 82 14 → l < 16 → rwv w312 112 (20 * l) = rwv w 112 (20 * l) := fun l hl h6 => ((hx317 _ (by omega)).2 (by omega)).trans (ro275 l hl h6)
          have hq320 := pk318
          unfold PK PS at hq320
          clear hq276
          have ms321 : mu w312 < mu w := Nat.lt_of_le_of_lt (PK.fr hF315 (by decide) (by decide) pk274.2.2.2.1).2.1 ms277
          have rz322 : fld w 82 14 < 16 → rwv w312 112 (20 * fld w 82 14) = kr := fun h6 => (hx317 _ (by omega)).1 ⟨by omega, by omega⟩
          refine xg_t (xg_aload (va := (2, 82)) rfl rfl) ?_
          refine xg_t (xg_bip) ?_
          refine xg_t (xg_iload (va := (0, f82_15)) rfl rfl) ?_
          have hl323 : fld w312 82 14 = fld w 82 14 := pk318.2.2.1
          have hl324 : fld w312 82 14 ≤ 2000 := by omega
          refine xg_cVv mX12_rulePuts (vs := [(0, 17), (0, f82_15)]) (rest := []) (cn1 := 0) (sl1 := 0) rfl (mRulePuts (hI314) (by omega) (by omega) (by omega)) rfl (hF315.get (by decide) h82_310) rfl rfl rfl rfl rfl rfl (fun w325 hq326 => ?_)
          obtain ⟨hI327, hF328, hx329⟩ := hq326
          have hx330 := hx329
          have pk331 : PK w w325 := PK.tr pk318 (PK.fr hF328 (by decide) (by decide) pk318.2.2.2.1)
          have ro332 : ∀ l, l < fld w 82 14 → l < 16 → rwv w325 112 (20 * l) = rwv w 112 (20 * l) := fun l hl h6 => ((hx330 _ (by omega)).2 (by omega)).trans (ro319 l hl h6)
          have hq333 := pk331
          unfold PK PS at hq333
          clear hq320
          have ms334 : mu w325 < mu w := Nat.lt_of_le_of_lt (PK.fr hF328 (by decide) (by decide) pk318.2.2.2.1).2.1 ms321
          have rz335 : fld w 82 14 < 16 → rwv w325 112 (20 * fld w 82 14) = kr := fun h6 => ((hx330 _ (by omega)).2 (by omega)).trans (rz322 h6)
          refine xg_t (xg_aload (va := (2, 82)) rfl rfl) ?_
          refine xg_t (xg_bip) ?_
          refine xg_t (xg_iload (va := (0, n229)) rfl rfl) ?_
          have hl336 : fld w325 82 14 = fld w 82 14 := pk331.2.2.1
          have hl337 : fld w325 82 14 ≤ 2000 := by omega
          refine xg_cVv mX12_rulePuts (vs := [(0, 18), (0, n229)]) (rest := []) (cn1 := 0) (sl1 := 0) rfl (mRulePuts (hI327) (by omega) (by omega) (by omega)) rfl (hF328.get (by decide) (hF315.get (by decide) h82_310)) rfl rfl rfl rfl rfl rfl (fun w338 hq339 => ?_)
          obtain ⟨hI340, hF341, hx342⟩ := hq339
          have hx343 := hx342
          have pk344 : PK w w338 := PK.tr pk331 (PK.fr hF341 (by decide) (by decide) pk331.2.2.2.1)
          have ro345 : ∀ l, l < fld w 82 14 → l < 16 → rwv w338 112 (20 * l) = rwv w 112 (20 * l) := fun l hl h6 => ((hx343 _ (by omega)).2 (by omega)).trans (ro332 l hl h6)
          have hq346 := pk344
          unfold PK PS at hq346
          clear hq333
          have ms347 : mu w338 < mu w := Nat.lt_of_le_of_lt (PK.fr hF341 (by decide) (by decide) pk331.2.2.2.1).2.1 ms334
          have rz348 : fld w 82 14 < 16 → rwv w338 112 (20 * fld w 82 14) = kr := fun h6 => ((hx343 _ (by omega)).2 (by omega)).trans (rz335 h6)
          have hf349 : fld w338 82 4 = f82_284 := fld_of (hF341.get (by decide) (hF328.get (by decide) (hF315.get (by decide) h82_310)))
          have hf350 : fld w338 82 5 = f82_286 := fld_of (hF341.get (by decide) (hF328.get (by decide) (hF315.get (by decide) h82_310)))
          have hf351 : fld w338 82 7 = f82_290 := fld_of (hF341.get (by decide) (hF328.get (by decide) (hF315.get (by decide) h82_310)))
          have hf352 : fld w338 82 10 = f82_296 := fld_of (hF341.get (by decide) (hF328.get (by decide) (hF315.get (by decide) h82_310)))
          have hf353 : fld w338 82 14 = f82_298 := fld_of (hF341.get (by decide) (hF328.get (by decide) (hF315.get (by decide) h82_310)))
          have hu354 : mu w338 = 2 * (fld w338 82 4 - fld w338 82 5) + min 1 (fld w338 82 7) := rfl
          have hl355 : f82_298 ≤ 1001 := by omega
          refine xg_t (xg_aload (va := (2, 82)) rfl rfl) ?_
          refine xg_t (xg_dup rfl) ?_
          refine xg_t (xg_getf (va := (0, f82_298)) (hF341.get (by decide) (hF328.get (by decide) (hF315.get (by decide) h82_310))) rfl) ?_
          refine xg_t (xg_const) ?_
          refine xg_t (xg_iadd (u := f82_298) (v := 1) (z := f82_298 + 1) xnm0 xnm0 (by omega)) ?_
          refine xg_putI (fl1 := [(2, 83), (2, 84), (0, f82_280), (0, f82_282), (0, f82_284), (0, f82_286), (0, f82_288), (0, f82_290), (0, f82_292), (0, f82_294), (0, f82_296), (2, 85), (2, 86), (2, 87), (0, f82_298 + 1), (2, 88), (2, 89), (2, 90), (2, 91), (2, 92), (2, 93), (2, 94), (4, f82_300), (4, f82_301), (0, f82_302), (2, 95), (2, 96), (2, 97), (2, 98), (2, 99), (2, 100), (2, 101), (2, 102), (0, f82_304), (2, 103), (2, 104), (2, 105), (2, 106), (2, 107), (2, 108), (2, 109), (0, f82_306), (0, f82_308), (2, 110), (2, 111), (2, 112), (2, 113)]) (hF341.get (by decide) (hF328.get (by decide) (hF315.get (by decide) h82_310))) rfl rfl rfl (fun w356 hk357 hb358 => ?_)
          have hF359 : xFr [82] w338 w356 := xFr.of hb358 (by decide)
          have hA360 := FA_fr hF359 (by decide)
          have hf361 : fld w356 82 4 = f82_284 := fld_of hk357
          have hf362 : fld w356 82 5 = f82_286 := fld_of hk357
          have hf363 : fld w356 82 7 = f82_290 := fld_of hk357
          have hf364 : fld w356 82 10 = f82_296 := fld_of hk357
          have hf365 : fld w356 82 14 = f82_298 + 1 := fld_of hk357
          have hu366 : mu w356 = 2 * (fld w356 82 4 - fld w356 82 5) + min 1 (fld w356 82 7) := rfl
          have hD367 : FA w356 ≠ 0 ∨ (RD w → RD w356) := by
            by_cases z : FA w356 ≠ 0
            · exact Or.inl z
            · refine Or.inr (fun hd => ⟨by omega, fun l hl => ?_⟩)
              rw [rwv_fr hF359 (by decide)]
              by_cases y : l = fld w 82 14
              · rw [y, rz348 (by omega)]; omega
              · rw [ro345 l (by omega) (by have := hd.1; omega)]; exact hd.2 l (by omega)
          exact xg_e ⟨w356, ⟨rfl, rfl⟩, xMnv.up (S := [82]) hI340 (xFr.of (S := [82]) hb358 (by decide)) (List.forall_mem_cons.mpr ⟨(show cp82 (wget w356 82) from ⟨f82_280, f82_282, f82_284, f82_286, f82_288, f82_290, f82_292, f82_294, f82_296, f82_298 + 1, f82_300, f82_301, f82_302, f82_304, f82_306, f82_308, hk357, hb281, hb283, hb285, hb287, hb289, hb291, hb293, hb295, hb297, by omega, hb303, hb305, hb307, hb309, by omega⟩), fun _ h => absurd h List.not_mem_nil⟩), (((((((hF49.up (by decide)).tr (hF228.up (by decide))).tr (hF272.up (by decide))).tr (hF315.up (by decide))).tr (hF328.up (by decide))).tr (hF341.up (by decide))).tr (xFr.of (S := [82, 83, 112, 113]) hb358 (by decide))), ⟨fun h => by have := pk344.1 h; omega, (show fld w356 82 10 = 0 ∨ FA w356 ≠ 0 by omega), Or.inr ⟨by have := ms347; omega, by omega⟩, hD367, pk344.2.2.2.2.tr (K83.fr hF359 (by decide))⟩⟩
      · refine xg_t (xg_ifF (u := (if 40 ≤ f82_15 ∧ f82_15 ≤ 42 then 1 else 0)) rfl xnm0 (xj_neF (xite0 hc44))) ?_
        refine xg_t (xg_blk (b := [(136, 1, 0, 0, 0, 0), (137, 3, 13, 140, 96, 183), (140, 1, 12, 0, 0, 0)]) rfl) ?_
        refine xg_t (xg_aload (va := (2, 82)) rfl rfl) ?_
        refine xg_cVv mX12_ends (vs := []) (rest := []) (cn1 := 0) (sl1 := 0) rfl (mEnds (hI) (PK.rf hps).2.2.2.1) rfl h82_31 rfl rfl rfl rfl rfl rfl (fun w368 hq369 => ?_)
        obtain ⟨hI370, hF371, hx372⟩ := hq369
        clear hb2 hb4 hb6 hb8 hb10 hb12 hb14 hb16 hb18 hb20 hb24 hb26 hb28 hb30
        obtain ⟨hv373, hv374, hv375, hv376, hv377⟩ := hx372
        have pk378 : PK w w368 := ⟨fun _ => hv373, by omega, by omega, Or.inr hv373, hv377⟩
        have pk379 : PK w w368 := PK.tr (PK.rf hps) pk378
        have ro380 : ∀ l, l < fld w 82 14 → l < 16 → rwv w368 112 (20 * l) = rwv w 112 (20 * l) := fun l hl h6 => (rwv_fr hF371 (by decide)).trans ((fun l _ _ => rfl) l hl h6)
        have hq381 := pk379
        unfold PK PS at hq381
        obtain ⟨f82_382, f82_384, f82_386, f82_388, f82_390, f82_392, f82_394, f82_396, f82_398, f82_400, f82_402, f82_403, f82_404, f82_406, f82_408, f82_410, h82_412, hb383, hb385, hb387, hb389, hb391, hb393, hb395, hb397, hb399, hb401, hb405, hb407, hb409, hb411, hb413⟩ := (hI370 82 (by decide) (by decide) : cp82 (wget w368 82))
        exact xg_e ⟨w368, ⟨rfl, rfl⟩, hI370, (hF371.up (by decide)), ⟨pk379.1, pk379.2.2.2.1, Or.inl ⟨by omega, pk379.2.1, pk379.2.2.1⟩, Or.inl (by omega), pk379.2.2.2.2⟩⟩
    · refine xg_t (xg_icT (u := f82_11) (v := 3) rfl xnm0 xnm0 (xj_neT hc43)) ?_
      refine xg_t (xg_blk (b := [(136, 1, 0, 0, 0, 0), (137, 3, 13, 140, 96, 183), (140, 1, 12, 0, 0, 0)]) rfl) ?_
      refine xg_t (xg_aload (va := (2, 82)) rfl rfl) ?_
      refine xg_cVv mX12_ends (vs := []) (rest := []) (cn1 := 0) (sl1 := 0) rfl (mEnds (hI) (PK.rf hps).2.2.2.1) rfl h82_31 rfl rfl rfl rfl rfl rfl (fun w414 hq415 => ?_)
      obtain ⟨hI416, hF417, hx418⟩ := hq415
      clear hb2 hb4 hb6 hb8 hb10 hb12 hb14 hb16 hb18 hb20 hb24 hb26 hb28 hb30
      obtain ⟨hv419, hv420, hv421, hv422, hv423⟩ := hx418
      have pk424 : PK w w414 := ⟨fun _ => hv419, by omega, by omega, Or.inr hv419, hv423⟩
      have pk425 : PK w w414 := PK.tr (PK.rf hps) pk424
      have ro426 : ∀ l, l < fld w 82 14 → l < 16 → rwv w414 112 (20 * l) = rwv w 112 (20 * l) := fun l hl h6 => (rwv_fr hF417 (by decide)).trans ((fun l _ _ => rfl) l hl h6)
      have hq427 := pk425
      unfold PK PS at hq427
      obtain ⟨f82_428, f82_430, f82_432, f82_434, f82_436, f82_438, f82_440, f82_442, f82_444, f82_446, f82_448, f82_449, f82_450, f82_452, f82_454, f82_456, h82_458, hb429, hb431, hb433, hb435, hb437, hb439, hb441, hb443, hb445, hb447, hb451, hb453, hb455, hb457, hb459⟩ := (hI416 82 (by decide) (by decide) : cp82 (wget w414 82))
      exact xg_e ⟨w414, ⟨rfl, rfl⟩, hI416, (hF417.up (by decide)), ⟨pk425.1, pk425.2.2.2.1, Or.inl ⟨by omega, pk425.2.1, pk425.2.2.1⟩, Or.inl (by omega), pk425.2.2.2.2⟩⟩
  · refine xg_t (xg_ifT (u := f82_17) rfl xnm0 (xj_neT hc42)) ?_
    refine xg_t (xg_blk (b := [(136, 1, 0, 0, 0, 0), (137, 3, 13, 140, 96, 183), (140, 1, 12, 0, 0, 0)]) rfl) ?_
    refine xg_t (xg_aload (va := (2, 82)) rfl rfl) ?_
    refine xg_cVv mX12_ends (vs := []) (rest := []) (cn1 := 0) (sl1 := 0) rfl (mEnds (hI) (PK.rf hps).2.2.2.1) rfl h82_31 rfl rfl rfl rfl rfl rfl (fun w460 hq461 => ?_)
    obtain ⟨hI462, hF463, hx464⟩ := hq461
    clear hb2 hb4 hb6 hb8 hb10 hb12 hb14 hb16 hb18 hb20 hb24 hb26 hb28 hb30
    obtain ⟨hv465, hv466, hv467, hv468, hv469⟩ := hx464
    have pk470 : PK w w460 := ⟨fun _ => hv465, by omega, by omega, Or.inr hv465, hv469⟩
    have pk471 : PK w w460 := PK.tr (PK.rf hps) pk470
    have ro472 : ∀ l, l < fld w 82 14 → l < 16 → rwv w460 112 (20 * l) = rwv w 112 (20 * l) := fun l hl h6 => (rwv_fr hF463 (by decide)).trans ((fun l _ _ => rfl) l hl h6)
    have hq473 := pk471
    unfold PK PS at hq473
    obtain ⟨f82_474, f82_476, f82_478, f82_480, f82_482, f82_484, f82_486, f82_488, f82_490, f82_492, f82_494, f82_495, f82_496, f82_498, f82_500, f82_502, h82_504, hb475, hb477, hb479, hb481, hb483, hb485, hb487, hb489, hb491, hb493, hb497, hb499, hb501, hb503, hb505⟩ := (hI462 82 (by decide) (by decide) : cp82 (wget w460 82))
    exact xg_e ⟨w460, ⟨rfl, rfl⟩, hI462, (hF463.up (by decide)), ⟨pk471.1, pk471.2.2.2.1, Or.inl ⟨by omega, pk471.2.1, pk471.2.2.1⟩, Or.inl (by omega), pk471.2.2.2.2⟩⟩
set_option maxHeartbeats 60000000 in
theorem mARule (hI : xMnv w) (hps : PS w) (hln : fld w 82 14 ≤ 1000) (hmu : mu w ≤ 1001) : xPq (d + 7) mX12_aRule [(2, 82)] w bd fc rr [] (fun w' => xMnv w' ∧ xFr [82, 83, 112, 113] w w' ∧ ((FA w ≠ 0 → FA w' ≠ 0) ∧ PS w' ∧ ((fld w' 82 10 = 1 ∧ mu w' ≤ mu w ∧ fld w' 82 14 = fld w 82 14) ∨ (mu w' < mu w ∧ fld w' 82 14 = fld w 82 14 + 1)) ∧ (FA w' ≠ 0 ∨ (RD w → RD w')) ∧ K83 w w')) := by
  refine xPq.of ?_
  show xTo (d + 7) mX12_aRule (0, [], [(0, (2, 82))], [], (w, bd, fc, 0, 0, rr)) (fun φ => ∃ w', xEnd 0 [] (w', bd, fc, 0, 0, rr) φ ∧ xMnv w' ∧ xFr [82, 83, 112, 113] w w' ∧ ((FA w ≠ 0 → FA w' ≠ 0) ∧ PS w' ∧ ((fld w' 82 10 = 1 ∧ mu w' ≤ mu w ∧ fld w' 82 14 = fld w 82 14) ∨ (mu w' < mu w ∧ fld w' 82 14 = fld w 82 14 + 1)) ∧ (FA w' ≠ 0 ∨ (RD w → RD w')) ∧ K83 w w'))
  obtain ⟨f82_1, f82_3, f82_5, f82_7, f82_9, f82_11, f82_13, f82_15, f82_17, f82_19, f82_21, f82_22, f82_23, f82_25, f82_27, f82_29, h82_31, hb2, hb4, hb6, hb8, hb10, hb12, hb14, hb16, hb18, hb20, hb24, hb26, hb28, hb30, hb32⟩ := (hI 82 (by decide) (by decide) : cp82 (wget w 82))
  have hf33 : fld w 82 4 = f82_5 := fld_of h82_31
  have hf34 : fld w 82 5 = f82_7 := fld_of h82_31
  have hf35 : fld w 82 7 = f82_11 := fld_of h82_31
  have hf36 : fld w 82 10 = f82_17 := fld_of h82_31
  have hf37 : fld w 82 14 = f82_19 := fld_of h82_31
  have hps_ : fld w 82 10 = 0 ∨ FA w ≠ 0 := hps
  obtain ⟨g113_38, h113_39, hb40⟩ := (hI 113 (by decide) (by decide) : cpI 4 80 4294967295 (wget w 113))
  have h113_39 : xRow w 113 4 80 g113_38 := h113_39
  have hl41 : f82_19 ≤ 1000 := by omega
  refine xg_t (xg_blk (b := [(0, 1, 0, 0, 0, 0), (1, 3, 1, 12, 14, 212), (4, 2, 4, 16, 0, 0), (6, 3, 6, 18, 2, 0), (9, 1, 0, 0, 0, 0), (10, 1, 3, 3, 0, 0), (11, 1, 0, 0, 0, 0), (12, 3, 1, 12, 6, 148), (15, 3, 13, 115, 96, 186)]) rfl) ?_
  refine xg_t (xg_aload (va := (2, 82)) rfl rfl) ?_
  refine xg_t (xg_getf (va := (0, f82_19)) h82_31 rfl) ?_
  refine xg_t (xg_bip) ?_
  by_cases hc42 : f82_19 < 16
  · refine xg_t (xg_icT (u := f82_19) (v := 16) rfl xnm0 xnm0 (xj_ltT hc42 (by omega))) ?_
    refine xg_t (xg_blk (b := [(18, 1, 3, 0, 0, 0), (19, 1, 15, 1, 0, 0), (20, 1, 0, 0, 0, 0), (21, 2, 4, 50, 0, 0), (23, 3, 13, 227, 96, 415), (26, 3, 7, 107, 0, 0), (29, 1, 3, 1, 0, 0), (30, 1, 15, 2, 0, 0)]) rfl) ?_
    refine xg_t (xg_const) ?_
    refine xg_t (xg_istore (l1 := [(0, (2, 82))]) rfl rfl rfl) ?_
    refine xg_t (xg_aload (va := (2, 82)) rfl rfl) ?_
    refine xg_t (xg_bip) ?_
    refine xg_cVi mX12_takes (vs := [(0, 50)]) (rest := []) (cn1 := 0) (sl1 := 0) rfl (mTakes (hI) (by omega) (PK.rf hps).2.2.2.1) rfl h82_31 rfl rfl rfl rfl rfl rfl (fun n47 w43 hq44 => ?_)
    obtain ⟨hn48, hI45, hF46⟩ := hq44
    clear hb2 hb4 hb6 hb8 hb10 hb12 hb14 hb16 hb18 hb20 hb24 hb26 hb28 hb30
    obtain ⟨hn49, hn50, hn51⟩ := hn48
    have pk52 : PK w w43 := PK.tr (PK.rf hps) hn50
    have ro53 : ∀ l, l < fld w 82 14 → l < 16 → rwv w43 112 (20 * l) = rwv w 112 (20 * l) := fun l hl h6 => (rwv_fr hF46 (by decide)).trans ((fun l _ _ => rfl) l hl h6)
    have hq54 := pk52
    unfold PK PS at hq54
    by_cases hc55 : n47 = 0
    · refine xg_t (xg_ifT (u := n47) rfl xnm0 (xj_eqT hc55)) ?_
      refine xg_t (xg_drop (l1 := [(0, (2, 82)), (1, (0, 0))]) (List.forall_mem_cons.mpr ⟨List.mem_cons_of_mem _ (List.mem_cons_self), List.forall_mem_cons.mpr ⟨List.mem_cons_self, fun _ h => absurd h List.not_mem_nil⟩⟩)) ?_
      refine (mARuleT (hI45) pk52.2.2.2.1 (by omega) (by omega) (by omega) (fun _ => by omega)).imp (fun φ h => ?_)
      obtain ⟨w', e1, e2, e3, e4, e5, e6, e7, e8⟩ := h
      refine ⟨w', e1, e2, ((hF46.up (by decide))).tr (e3.up (by decide)), fun z => e4 (pk52.1 z), e5, ?_, ?_, pk52.2.2.2.2.tr e8⟩
      · have q1 := pk52.2.1
        have q2 := pk52.2.2.1
        rcases e6 with ⟨c1, c2, c3⟩ | ⟨c1, c2⟩
        · exact Or.inl ⟨c1, by omega, by omega⟩
        · exact Or.inr ⟨by omega, by omega⟩
      · rcases e7 with r | r
        · exact Or.inl r
        · refine Or.inr (fun hd => r ⟨by rw [pk52.2.2.1]; exact hd.1, fun l hl => ?_⟩)
          have q2 := pk52.2.2.1
          rw [ro53 l (by omega) (by have := hd.1; omega)]
          exact hd.2 l (by omega)
    · have ms56 : mu w43 < mu w := Nat.lt_of_lt_of_le (hn51 (by omega)) (PK.rf hps).2.1
      refine xg_t (xg_ifF (u := n47) rfl xnm0 (xj_eqF hc55)) ?_
      refine xg_t (xg_const) ?_
      refine xg_t (xg_istore (l1 := [(1, (0, 0)), (0, (2, 82))]) rfl rfl rfl) ?_
      refine xg_t (xg_drop (l1 := [(0, (2, 82)), (1, (0, 0)), (2, (0, 1))]) (List.forall_mem_cons.mpr ⟨List.mem_cons_of_mem _ (List.mem_cons_of_mem _ (List.mem_cons_self)), List.forall_mem_cons.mpr ⟨List.mem_cons_of_mem _ (List.mem_cons_self), List.forall_mem_cons.mpr ⟨List.mem_cons_self, fun _ h => absurd h List.not_mem_nil⟩⟩⟩)) ?_
      have key57 : ∀ (m59 : Nat) (kr mo : Nat) (w60 : List (List xE)), 2 * mu w60 + mo < m59 → kr ≤ 1002 → mo ≤ 1 → xMnv w60 → xFr [82, 83, 112, 113] w w60 → (PK w w60 ∧ (∀ l, l < fld w 82 14 → l < 16 → rwv w60 112 (20 * l) = rwv w 112 (20 * l)) ∧ mu w60 < mu w ∧ (FA w60 ≠ 0 ∨ kr ≤ 4) ∧ kr + mu w60 ≤ 1002 ∧ (mo = 1 → kr + mu w60 ≤ 1001) ∧ (16 ≤ fld w 82 14 → FA w60 ≠ 0)) → xTo (d + 7) mX12_aRule (31, [], [(0, (2, 82)), (1, (0, kr)), (2, (0, mo))], [], (w60, bd, fc, 0, 0, rr)) (fun φ => ∃ w', xEnd 0 [] (w', bd, fc, 0, 0, rr) φ ∧ xMnv w' ∧ xFr [82, 83, 112, 113] w w' ∧ ((FA w ≠ 0 → FA w' ≠ 0) ∧ PS w' ∧ ((fld w' 82 10 = 1 ∧ mu w' ≤ mu w ∧ fld w' 82 14 = fld w 82 14) ∨ (mu w' < mu w ∧ fld w' 82 14 = fld w 82 14 + 1)) ∧ (FA w' ≠ 0 ∨ (RD w → RD w')) ∧ K83 w w')) := by
        intro m59
        induction m59 with
        | zero => intro kr mo w60 hz; exact absurd hz (Nat.not_lt_zero _)
        | succ m59 ih58 =>
          intro kr mo w60 hm66 hn63 hn64 hI61 hF62 he65
          obtain ⟨hz67, hz68, hz69, hz70, hz71, hz72, hz73⟩ := he65
          have hq74 := hz67
          unfold PK PS at hq74
          obtain ⟨f82_75, f82_77, f82_79, f82_81, f82_83, f82_85, f82_87, f82_89, f82_91, f82_93, f82_95, f82_96, f82_97, f82_99, f82_101, f82_103, h82_105, hb76, hb78, hb80, hb82, hb84, hb86, hb88, hb90, hb92, hb94, hb98, hb100, hb102, hb104, hb106⟩ := (hI61 82 (by decide) (by decide) : cp82 (wget w60 82))
          refine xg_t (xg_blk (b := [(31, 1, 2, 2, 0, 0), (32, 3, 7, 101, 0, 0), (35, 1, 2, 1, 0, 0), (36, 1, 3, 3, 0, 0), (37, 3, 6, 49, 5, 0), (40, 1, 0, 0, 0, 0), (41, 1, 3, 3, 0, 0), (42, 1, 0, 0, 0, 0), (43, 3, 1, 12, 6, 148), (46, 3, 13, 115, 96, 186)]) rfl) ?_
          refine xg_t (xg_iload (va := (0, mo)) rfl rfl) ?_
          by_cases hc107 : mo = 0
          · refine xg_t (xg_ifT (u := mo) rfl xnm0 (xj_eqT hc107)) ?_
            refine xg_t (xg_blk (b := [(101, 1, 0, 0, 0, 0), (102, 2, 4, 58, 0, 0), (104, 3, 13, 195, 96, 427)]) rfl) ?_
            refine xg_t (xg_aload (va := (2, 82)) rfl rfl) ?_
            refine xg_t (xg_bip) ?_
            refine xg_cVv mX12_must (vs := [(0, 58)]) (rest := []) (cn1 := 0) (sl1 := 0) rfl (mMust (hI61) (by omega) hz67.2.2.2.1) rfl h82_105 rfl rfl rfl rfl rfl rfl (fun w108 hq109 => ?_)
            obtain ⟨hI110, hF111, hx112⟩ := hq109
            clear hb76 hb78 hb80 hb82 hb84 hb86 hb88 hb90 hb92 hb94 hb98 hb100 hb102 hb104
            have pk113 : PK w w108 := PK.tr hz67 hx112
            have ro114 : ∀ l, l < fld w 82 14 → l < 16 → rwv w108 112 (20 * l) = rwv w 112 (20 * l) := fun l hl h6 => (rwv_fr hF111 (by decide)).trans (hz68 l hl h6)
            have hq115 := pk113
            unfold PK PS at hq115
            clear hq74
            have pj116 : PK w60 w108 := PK.tr (PK.rf hz67.2.2.2.1) hx112
            have hq117 := pj116
            unfold PK PS at hq117
            have ms118 : mu w108 < mu w := Nat.lt_of_le_of_lt hx112.2.1 hz69
            refine xg_t (xg_drop (l1 := [(0, (2, 82)), (1, (0, kr))]) (List.forall_mem_cons.mpr ⟨List.mem_cons_self, List.forall_mem_cons.mpr ⟨List.mem_cons_of_mem _ (List.mem_cons_self), fun _ h => absurd h List.not_mem_nil⟩⟩)) ?_
            refine (mARuleT (hI110) pk113.2.2.2.1 (by omega) (by omega) (by omega) (fun _ => by omega)).imp (fun φ h => ?_)
            obtain ⟨w', e1, e2, e3, e4, e5, e6, e7, e8⟩ := h
            refine ⟨w', e1, e2, ((hF62.tr (hF111.up (by decide)))).tr (e3.up (by decide)), fun z => e4 (pk113.1 z), e5, ?_, ?_, pk113.2.2.2.2.tr e8⟩
            · have q1 := pk113.2.1
              have q2 := pk113.2.2.1
              rcases e6 with ⟨c1, c2, c3⟩ | ⟨c1, c2⟩
              · exact Or.inl ⟨c1, by omega, by omega⟩
              · exact Or.inr ⟨by omega, by omega⟩
            · rcases e7 with r | r
              · exact Or.inl r
              · refine Or.inr (fun hd => r ⟨by rw [pk113.2.2.1]; exact hd.1, fun l hl => ?_⟩)
                have q2 := pk113.2.2.1
                rw [ro114 l (by omega) (by have := hd.1; omega)]
                exact hd.2 l (by omega)
          · refine xg_t (xg_ifF (u := mo) rfl xnm0 (xj_eqF hc107)) ?_
            refine xg_t (xg_iload (va := (0, kr)) rfl rfl) ?_
            refine xg_t (xg_const) ?_
            by_cases hc119 : 3 < kr
            · refine xg_t (xg_icF (u := kr) (v := 3) rfl xnm0 xnm0 (xj_leF hc119 (by omega))) ?_
              refine xg_t (xg_aload (va := (2, 82)) rfl rfl) ?_
              refine xg_t (xg_const) ?_
              refine xg_t (xg_aload (va := (2, 82)) rfl rfl) ?_
              refine xg_t (xg_getf (va := (0, f82_83)) h82_105 rfl) ?_
              refine xg_cVv mX12_also (vs := [(0, 3), (0, f82_83)]) (rest := []) (cn1 := 0) (sl1 := 0) rfl (mAlso (hI61) (by omega) (by omega) (by omega) hz67.2.2.2.1) rfl h82_105 rfl rfl rfl rfl rfl rfl (fun w120 hq121 => ?_)
              obtain ⟨hI122, hF123, hx124⟩ := hq121
              obtain ⟨hv126, hv127⟩ := hx124
              have pk125 : PK w60 w120 := ⟨fun _ => hv126, Nat.le_of_eq (mu_fr hF123 (by decide)), fld_fr hF123 (by decide), Or.inr hv126, hv127⟩
              have pk128 : PK w w120 := PK.tr hz67 pk125
              have ro129 : ∀ l, l < fld w 82 14 → l < 16 → rwv w120 112 (20 * l) = rwv w 112 (20 * l) := fun l hl h6 => (rwv_fr hF123 (by decide)).trans (hz68 l hl h6)
              have hq130 := pk128
              unfold PK PS at hq130
              clear hq74
              have pj131 : PK w60 w120 := PK.tr (PK.rf hz67.2.2.2.1) pk125
              have hq132 := pj131
              unfold PK PS at hq132
              have ms133 : mu w120 < mu w := Nat.lt_of_le_of_lt pk125.2.1 hz69
              have fa134 : FA w120 ≠ 0 := hv126
              refine xg_t (xg_blk (b := [(49, 1, 0, 0, 0, 0), (50, 3, 13, 109, 96, 421), (53, 1, 3, 0, 0, 0), (54, 1, 15, 3, 0, 0)]) rfl) ?_
              refine xg_t (xg_aload (va := (2, 82)) rfl rfl) ?_
              refine xg_cVv mX12_aTest (vs := []) (rest := []) (cn1 := 0) (sl1 := 0) rfl (mATest (hI122) pk128.2.2.2.1) rfl (hF123.get (by decide) h82_105) rfl rfl rfl rfl rfl rfl (fun w135 hq136 => ?_)
              obtain ⟨hI137, hF138, hx139⟩ := hq136
              clear hb76 hb78 hb80 hb82 hb84 hb86 hb88 hb90 hb92 hb94 hb98 hb100 hb102 hb104
              have pk140 : PK w w135 := PK.tr pk128 hx139
              have ro141 : ∀ l, l < fld w 82 14 → l < 16 → rwv w135 112 (20 * l) = rwv w 112 (20 * l) := fun l hl h6 => (rwv_fr hF138 (by decide)).trans (ro129 l hl h6)
              have hq142 := pk140
              unfold PK PS at hq142
              clear hq130
              have pj143 : PK w60 w135 := PK.tr pj131 hx139
              have hq144 := pj143
              unfold PK PS at hq144
              clear hq132
              have fa145 : FA w135 ≠ 0 := hx139.1 fa134
              have ms146 : mu w135 < mu w := Nat.lt_of_le_of_lt hx139.2.1 ms133
              refine xg_t (xg_const) ?_
              refine xg_t (xg_istore (l1 := [(0, (2, 82)), (1, (0, kr)), (2, (0, mo))]) rfl rfl rfl) ?_
              refine xg_t (xg_blk (b := [(55, 1, 2, 3, 0, 0), (56, 1, 3, 4, 0, 0), (57, 3, 6, 88, 3, 0), (60, 1, 2, 1, 0, 0), (61, 1, 3, 4, 0, 0), (62, 3, 6, 88, 3, 0), (65, 1, 0, 0, 0, 0), (66, 1, 3, 1, 0, 0), (67, 1, 3, 4, 0, 0), (68, 1, 2, 1, 0, 0), (69, 1, 16, 0, 0, 0), (70, 1, 11, 0, 0, 0), (71, 1, 2, 3, 0, 0), (72, 1, 11, 0, 0, 0), (73, 1, 0, 0, 0, 0), (74, 3, 1, 12, 46, 102), (77, 1, 2, 3, 0, 0), (78, 1, 10, 0, 0, 0), (79, 3, 13, 214, 96, 424), (82, 3, 9, 3, 1, 0), (85, 3, 8, 55, 0, 0)]) rfl) ?_
              refine xg_t (xg_iload (va := (0, 0)) rfl rfl) ?_
              refine xg_t (xg_const) ?_
              refine xg_t (xg_icF (u := 0) (v := 4) rfl xnm0 xnm0 (by decide)) ?_
              refine xg_t (xg_iload (va := (0, kr)) rfl rfl) ?_
              refine xg_t (xg_const) ?_
              refine xg_t (xg_icT (u := kr) (v := 4) rfl xnm0 xnm0 (xj_geT (by omega) (by omega))) ?_
              refine xg_t (xg_blk (b := [(88, 3, 9, 1, 1, 0), (91, 1, 0, 0, 0, 0), (92, 2, 4, 51, 0, 0), (94, 3, 13, 227, 96, 415), (97, 1, 15, 2, 0, 0), (98, 3, 8, 31, 0, 0)]) rfl) ?_
              refine xg_t (xg_iinc (u := kr) (z := kr + 1) (l1 := [(3, (0, 0)), (0, (2, 82)), (2, (0, mo))]) rfl rfl (by omega) rfl) ?_
              refine xg_t (xg_aload (va := (2, 82)) rfl rfl) ?_
              refine xg_t (xg_bip) ?_
              obtain ⟨f82_147, f82_149, f82_151, f82_153, f82_155, f82_157, f82_159, f82_161, f82_163, f82_165, f82_167, f82_168, f82_169, f82_171, f82_173, f82_175, h82_177, hb148, hb150, hb152, hb154, hb156, hb158, hb160, hb162, hb164, hb166, hb170, hb172, hb174, hb176, hb178⟩ := (hI137 82 (by decide) (by decide) : cp82 (wget w135 82))
              refine xg_cVi mX12_takes (vs := [(0, 51)]) (rest := []) (cn1 := 0) (sl1 := 0) rfl (mTakes (hI137) (by omega) pk140.2.2.2.1) rfl h82_177 rfl rfl rfl rfl rfl rfl (fun n183 w179 hq180 => ?_)
              obtain ⟨hn184, hI181, hF182⟩ := hq180
              clear hb148 hb150 hb152 hb154 hb156 hb158 hb160 hb162 hb164 hb166 hb170 hb172 hb174 hb176
              obtain ⟨hn185, hn186, hn187⟩ := hn184
              have pk188 : PK w w179 := PK.tr pk140 hn186
              have ro189 : ∀ l, l < fld w 82 14 → l < 16 → rwv w179 112 (20 * l) = rwv w 112 (20 * l) := fun l hl h6 => (rwv_fr hF182 (by decide)).trans (ro141 l hl h6)
              have hq190 := pk188
              unfold PK PS at hq190
              clear hq142
              have pj191 : PK w60 w179 := PK.tr pj143 hn186
              have hq192 := pj191
              unfold PK PS at hq192
              clear hq144
              have fa193 : FA w179 ≠ 0 := hn186.1 fa145
              have ms194 : mu w179 < mu w := Nat.lt_of_le_of_lt hn186.2.1 ms146
              have hu195 : n183 = 1 → mu w179 < mu w60 := fun h => Nat.lt_of_lt_of_le (hn187 h) pj143.2.1
              refine xg_t (xg_istore (l1 := [(1, (0, kr + 1)), (3, (0, 0)), (0, (2, 82))]) rfl rfl rfl) ?_
              refine xg_t (xg_goto) ?_
              refine xg_t (xg_drop (l1 := [(0, (2, 82)), (1, (0, kr + 1)), (2, (0, n183))]) (List.forall_mem_cons.mpr ⟨List.mem_cons_of_mem _ (List.mem_cons_of_mem _ (List.mem_cons_of_mem _ (List.mem_cons_self))), List.forall_mem_cons.mpr ⟨List.mem_cons_of_mem _ (List.mem_cons_self), List.forall_mem_cons.mpr ⟨List.mem_cons_self, fun _ h => absurd h List.not_mem_nil⟩⟩⟩)) ?_
              exact ih58 (kr + 1) n183 w179 (by omega) (by omega) (by omega) (hI181) ((((hF62.tr (hF123.up (by decide))).tr (hF138.up (by decide))).tr (hF182.up (by decide)))) (⟨pk188, ro189, ms194, by omega, by omega, fun _ => by omega, fun h => by omega⟩)
            · refine xg_t (xg_icT (u := kr) (v := 3) rfl xnm0 xnm0 (xj_leT (by omega) (by omega))) ?_
              refine xg_t (xg_blk (b := [(49, 1, 0, 0, 0, 0), (50, 3, 13, 109, 96, 421), (53, 1, 3, 0, 0, 0), (54, 1, 15, 3, 0, 0)]) rfl) ?_
              refine xg_t (xg_aload (va := (2, 82)) rfl rfl) ?_
              refine xg_cVv mX12_aTest (vs := []) (rest := []) (cn1 := 0) (sl1 := 0) rfl (mATest (hI61) hz67.2.2.2.1) rfl h82_105 rfl rfl rfl rfl rfl rfl (fun w196 hq197 => ?_)
              obtain ⟨hI198, hF199, hx200⟩ := hq197
              clear hb76 hb78 hb80 hb82 hb84 hb86 hb88 hb90 hb92 hb94 hb98 hb100 hb102 hb104
              have pk201 : PK w w196 := PK.tr hz67 hx200
              have ro202 : ∀ l, l < fld w 82 14 → l < 16 → rwv w196 112 (20 * l) = rwv w 112 (20 * l) := fun l hl h6 => (rwv_fr hF199 (by decide)).trans (hz68 l hl h6)
              have hq203 := pk201
              unfold PK PS at hq203
              clear hq74
              have pj204 : PK w60 w196 := PK.tr (PK.rf hz67.2.2.2.1) hx200
              have hq205 := pj204
              unfold PK PS at hq205
              have ms206 : mu w196 < mu w := Nat.lt_of_le_of_lt hx200.2.1 hz69
              refine xg_t (xg_const) ?_
              refine xg_t (xg_istore (l1 := [(0, (2, 82)), (1, (0, kr)), (2, (0, mo))]) rfl rfl rfl) ?_
              refine xg_t (xg_blk (b := [(55, 1, 2, 3, 0, 0), (56, 1, 3, 4, 0, 0), (57, 3, 6, 88, 3, 0), (60, 1, 2, 1, 0, 0), (61, 1, 3, 4, 0, 0), (62, 3, 6, 88, 3, 0), (65, 1, 0, 0, 0, 0), (66, 1, 3, 1, 0, 0), (67, 1, 3, 4, 0, 0), (68, 1, 2, 1, 0, 0), (69, 1, 16, 0, 0, 0), (70, 1, 11, 0, 0, 0), (71, 1, 2, 3, 0, 0), (72, 1, 11, 0, 0, 0), (73, 1, 0, 0, 0, 0), (74, 3, 1, 12, 46, 102), (77, 1, 2, 3, 0, 0), (78, 1, 10, 0, 0, 0), (79, 3, 13, 214, 96, 424), (82, 3, 9, 3, 1, 0), (85, 3, 8, 55, 0, 0)]) rfl) ?_
              refine xg_t (xg_iload (va := (0, 0)) rfl rfl) ?_
              refine xg_t (xg_const) ?_
              refine xg_t (xg_icF (u := 0) (v := 4) rfl xnm0 xnm0 (by decide)) ?_
              refine xg_t (xg_iload (va := (0, kr)) rfl rfl) ?_
              refine xg_t (xg_const) ?_
              refine xg_t (xg_icF (u := kr) (v := 4) rfl xnm0 xnm0 (xj_geF (by omega) (by omega))) ?_
              refine xg_t (xg_aload (va := (2, 82)) rfl rfl) ?_
              refine xg_t (xg_const) ?_
              refine xg_t (xg_const) ?_
              refine xg_t (xg_iload (va := (0, kr)) rfl rfl) ?_
              refine xg_t (xg_imul (u := 4) (v := kr) (z := 4 * kr) xnm0 xnm0 (by omega)) ?_
              refine xg_t (xg_iadd (u := 1) (v := 4 * kr) (z := 1 + (4 * kr)) xnm0 xnm0 (by omega)) ?_
              refine xg_t (xg_iload (va := (0, 0)) rfl rfl) ?_
              refine xg_t (xg_iadd (u := 1 + (4 * kr)) (v := 0) (z := (1 + (4 * kr)) + 0) xnm0 xnm0 (by omega)) ?_
              refine xg_t (xg_aload (va := (2, 82)) rfl rfl) ?_
              obtain ⟨f82_207, f82_209, f82_211, f82_213, f82_215, f82_217, f82_219, f82_221, f82_223, f82_225, f82_227, f82_228, f82_229, f82_231, f82_233, f82_235, h82_237, hb208, hb210, hb212, hb214, hb216, hb218, hb220, hb222, hb224, hb226, hb230, hb232, hb234, hb236, hb238⟩ := (hI198 82 (by decide) (by decide) : cp82 (wget w196 82))
              refine xg_t (xg_getf (va := (2, 113)) h82_237 rfl) ?_
              refine xg_t (xg_iload (va := (0, 0)) rfl rfl) ?_
              obtain ⟨g113_239, h113_240, hb241⟩ := (hI198 113 (by decide) (by decide) : cpI 4 80 4294967295 (wget w196 113))
              have h113_240 : xRow w196 113 4 80 g113_239 := h113_240
              refine xg_ialdB (n := 0) (B := 4294967295) h113_240 (hb241) xnm0 (by omega) (fun u242 hu243 he244 => ?_)
              have hl245 : fld w196 82 14 = fld w 82 14 := pk201.2.2.1
              have hl246 : fld w196 82 14 ≤ 2000 := by omega
              refine xg_cVv mX12_rulePuts (vs := [(0, (1 + (4 * kr)) + 0), (0, u242)]) (rest := []) (cn1 := 0) (sl1 := 0) rfl (mRulePuts (hI198) (by omega) (by omega) (by omega)) rfl h82_237 rfl rfl rfl rfl rfl rfl (fun w247 hq248 => ?_)
              obtain ⟨hI249, hF250, hx251⟩ := hq248
              have hx252 := hx251
              have pk253 : PK w w247 := PK.tr pk201 (PK.fr hF250 (by decide) (by decide) pk201.2.2.2.1)
              have ro254 : ∀ l, l < fld w 82 14 → l < 16 → rwv w247 112 (20 * l) = rwv w 112 (20 * l) := fun l hl h6 => ((hx252 _ (by omega)).2 (by omega)).trans (ro202 l hl h6)
              have hq255 := pk253
              unfold PK PS at hq255
              clear hq203
              have pj256 : PK w60 w247 := PK.tr pj204 (PK.fr hF250 (by decide) (by decide) pk201.2.2.2.1)
              have hq257 := pj256
              unfold PK PS at hq257
              clear hq205
              have ms258 : mu w247 < mu w := Nat.lt_of_le_of_lt (PK.fr hF250 (by decide) (by decide) pk201.2.2.2.1).2.1 ms206
              refine xg_t (xg_iinc (u := 0) (z := 1) (l1 := [(0, (2, 82)), (1, (0, kr)), (2, (0, mo))]) rfl rfl (by decide) rfl) ?_
              refine xg_t (xg_goto) ?_
              refine xg_t (xg_blk (b := [(55, 1, 2, 3, 0, 0), (56, 1, 3, 4, 0, 0), (57, 3, 6, 88, 3, 0), (60, 1, 2, 1, 0, 0), (61, 1, 3, 4, 0, 0), (62, 3, 6, 88, 3, 0), (65, 1, 0, 0, 0, 0), (66, 1, 3, 1, 0, 0), (67, 1, 3, 4, 0, 0), (68, 1, 2, 1, 0, 0), (69, 1, 16, 0, 0, 0), (70, 1, 11, 0, 0, 0), (71, 1, 2, 3, 0, 0), (72, 1, 11, 0, 0, 0), (73, 1, 0, 0, 0, 0), (74, 3, 1, 12, 46, 102), (77, 1, 2, 3, 0, 0), (78, 1, 10, 0, 0, 0), (79, 3, 13, 214, 96, 424), (82, 3, 9, 3, 1, 0), (85, 3, 8, 55, 0, 0)]) rfl) ?_
              refine xg_t (xg_iload (va := (0, 1)) rfl rfl) ?_
              refine xg_t (xg_const) ?_
              refine xg_t (xg_icF (u := 1) (v := 4) rfl xnm0 xnm0 (by decide)) ?_
              refine xg_t (xg_iload (va := (0, kr)) rfl rfl) ?_
              refine xg_t (xg_const) ?_
              refine xg_t (xg_icF (u := kr) (v := 4) rfl xnm0 xnm0 (xj_geF (by omega) (by omega))) ?_
              refine xg_t (xg_aload (va := (2, 82)) rfl rfl) ?_
              refine xg_t (xg_const) ?_
              refine xg_t (xg_const) ?_
              refine xg_t (xg_iload (va := (0, kr)) rfl rfl) ?_
              refine xg_t (xg_imul (u := 4) (v := kr) (z := 4 * kr) xnm0 xnm0 (by omega)) ?_
              refine xg_t (xg_iadd (u := 1) (v := 4 * kr) (z := 1 + (4 * kr)) xnm0 xnm0 (by omega)) ?_
              refine xg_t (xg_iload (va := (0, 1)) rfl rfl) ?_
              refine xg_t (xg_iadd (u := 1 + (4 * kr)) (v := 1) (z := (1 + (4 * kr)) + 1) xnm0 xnm0 (by omega)) ?_
              refine xg_t (xg_aload (va := (2, 82)) rfl rfl) ?_
              refine xg_t (xg_getf (va := (2, 113)) (hF250.get (by decide) h82_237) rfl) ?_
              refine xg_t (xg_iload (va := (0, 1)) rfl rfl) ?_
              refine xg_ialdB (n := 1) (B := 4294967295) (h113_240.fr hF250 (by decide)) (hb241) xnm0 (by omega) (fun u259 hu260 he261 => ?_)
              have hl262 : fld w247 82 14 = fld w 82 14 := pk253.2.2.1
              have hl263 : fld w247 82 14 ≤ 2000 := by omega
              refine xg_cVv mX12_rulePuts (vs := [(0, (1 + (4 * kr)) + 1), (0, u259)]) (rest := []) (cn1 := 0) (sl1 := 0) rfl (mRulePuts (hI249) (by omega) (by omega) (by omega)) rfl (hF250.get (by decide) h82_237) rfl rfl rfl rfl rfl rfl (fun w264 hq265 => ?_)
              obtain ⟨hI266, hF267, hx268⟩ := hq265
              have hx269 := hx268
              have pk270 : PK w w264 := PK.tr pk253 (PK.fr hF267 (by decide) (by decide) pk253.2.2.2.1)
              have ro271 : ∀ l, l < fld w 82 14 → l < 16 → rwv w264 112 (20 * l) = rwv w 112 (20 * l) := fun l hl h6 => ((hx269 _ (by omega)).2 (by omega)).trans (ro254 l hl h6)
              have hq272 := pk270
              unfold PK PS at hq272
              clear hq255
              have pj273 : PK w60 w264 := PK.tr pj256 (PK.fr hF267 (by decide) (by decide) pk253.2.2.2.1)
              have hq274 := pj273
              unfold PK PS at hq274
              clear hq257
              have ms275 : mu w264 < mu w := Nat.lt_of_le_of_lt (PK.fr hF267 (by decide) (by decide) pk253.2.2.2.1).2.1 ms258
              refine xg_t (xg_iinc (u := 1) (z := 2) (l1 := [(0, (2, 82)), (1, (0, kr)), (2, (0, mo))]) rfl rfl (by decide) rfl) ?_
              refine xg_t (xg_goto) ?_
              refine xg_t (xg_blk (b := [(55, 1, 2, 3, 0, 0), (56, 1, 3, 4, 0, 0), (57, 3, 6, 88, 3, 0), (60, 1, 2, 1, 0, 0), (61, 1, 3, 4, 0, 0), (62, 3, 6, 88, 3, 0), (65, 1, 0, 0, 0, 0), (66, 1, 3, 1, 0, 0), (67, 1, 3, 4, 0, 0), (68, 1, 2, 1, 0, 0), (69, 1, 16, 0, 0, 0), (70, 1, 11, 0, 0, 0), (71, 1, 2, 3, 0, 0), (72, 1, 11, 0, 0, 0), (73, 1, 0, 0, 0, 0), (74, 3, 1, 12, 46, 102), (77, 1, 2, 3, 0, 0), (78, 1, 10, 0, 0, 0), (79, 3, 13, 214, 96, 424), (82, 3, 9, 3, 1, 0), (85, 3, 8, 55, 0, 0)]) rfl) ?_
              refine xg_t (xg_iload (va := (0, 2)) rfl rfl) ?_
              refine xg_t (xg_const) ?_
              refine xg_t (xg_icF (u := 2) (v := 4) rfl xnm0 xnm0 (by decide)) ?_
              refine xg_t (xg_iload (va := (0, kr)) rfl rfl) ?_
              refine xg_t (xg_const) ?_
              refine xg_t (xg_icF (u := kr) (v := 4) rfl xnm0 xnm0 (xj_geF (by omega) (by omega))) ?_
              refine xg_t (xg_aload (va := (2, 82)) rfl rfl) ?_
              refine xg_t (xg_const) ?_
              refine xg_t (xg_const) ?_
              refine xg_t (xg_iload (va := (0, kr)) rfl rfl) ?_
              refine xg_t (xg_imul (u := 4) (v := kr) (z := 4 * kr) xnm0 xnm0 (by omega)) ?_
              refine xg_t (xg_iadd (u := 1) (v := 4 * kr) (z := 1 + (4 * kr)) xnm0 xnm0 (by omega)) ?_
              refine xg_t (xg_iload (va := (0, 2)) rfl rfl) ?_
              refine xg_t (xg_iadd (u := 1 + (4 * kr)) (v := 2) (z := (1 + (4 * kr)) + 2) xnm0 xnm0 (by omega)) ?_
              refine xg_t (xg_aload (va := (2, 82)) rfl rfl) ?_
              refine xg_t (xg_getf (va := (2, 113)) (hF267.get (by decide) (hF250.get (by decide) h82_237)) rfl) ?_
              refine xg_t (xg_iload (va := (0, 2)) rfl rfl) ?_
              refine xg_ialdB (n := 2) (B := 4294967295) ((h113_240.fr hF250 (by decide)).fr hF267 (by decide)) (hb241) xnm0 (by omega) (fun u276 hu277 he278 => ?_)
              have hl279 : fld w264 82 14 = fld w 82 14 := pk270.2.2.1
              have hl280 : fld w264 82 14 ≤ 2000 := by omega
              refine xg_cVv mX12_rulePuts (vs := [(0, (1 + (4 * kr)) + 2), (0, u276)]) (rest := []) (cn1 := 0) (sl1 := 0) rfl (mRulePuts (hI266) (by omega) (by omega) (by omega)) rfl (hF267.get (by decide) (hF250.get (by decide) h82_237)) rfl rfl rfl rfl rfl rfl (fun w281 hq282 => ?_)
              obtain ⟨hI283, hF284, hx285⟩ := hq282
              have hx286 := hx285
              have pk287 : PK w w281 := PK.tr pk270 (PK.fr hF284 (by decide) (by decide) pk270.2.2.2.1)
              have ro288 : ∀ l, l < fld w 82 14 → l < 16 → rwv w281 112 (20 * l) = rwv w 112 (20 * l) := fun l hl h6 => ((hx286 _ (by omega)).2 (by omega)).trans (ro271 l hl h6)
              have hq289 := pk287
              unfold PK PS at hq289
              clear hq272
              have pj290 : PK w60 w281 := PK.tr pj273 (PK.fr hF284 (by decide) (by decide) pk270.2.2.2.1)
              have hq291 := pj290
              unfold PK PS at hq291
              clear hq274
              have ms292 : mu w281 < mu w := Nat.lt_of_le_of_lt (PK.fr hF284 (by decide) (by decide) pk270.2.2.2.1).2.1 ms275
              refine xg_t (xg_iinc (u := 2) (z := 3) (l1 := [(0, (2, 82)), (1, (0, kr)), (2, (0, mo))]) rfl rfl (by decide) rfl) ?_
              refine xg_t (xg_goto) ?_
              refine xg_t (xg_blk (b := [(55, 1, 2, 3, 0, 0), (56, 1, 3, 4, 0, 0), (57, 3, 6, 88, 3, 0), (60, 1, 2, 1, 0, 0), (61, 1, 3, 4, 0, 0), (62, 3, 6, 88, 3, 0), (65, 1, 0, 0, 0, 0), (66, 1, 3, 1, 0, 0), (67, 1, 3, 4, 0, 0), (68, 1, 2, 1, 0, 0), (69, 1, 16, 0, 0, 0), (70, 1, 11, 0, 0, 0), (71, 1, 2, 3, 0, 0), (72, 1, 11, 0, 0, 0), (73, 1, 0, 0, 0, 0), (74, 3, 1, 12, 46, 102), (77, 1, 2, 3, 0, 0), (78, 1, 10, 0, 0, 0), (79, 3, 13, 214, 96, 424), (82, 3, 9, 3, 1, 0), (85, 3, 8, 55, 0, 0)]) rfl) ?_
              refine xg_t (xg_iload (va := (0, 3)) rfl rfl) ?_
              refine xg_t (xg_const) ?_
              refine xg_t (xg_icF (u := 3) (v := 4) rfl xnm0 xnm0 (by decide)) ?_
              refine xg_t (xg_iload (va := (0, kr)) rfl rfl) ?_
              refine xg_t (xg_const) ?_
              refine xg_t (xg_icF (u := kr) (v := 4) rfl xnm0 xnm0 (xj_geF (by omega) (by omega))) ?_
              refine xg_t (xg_aload (va := (2, 82)) rfl rfl) ?_
              refine xg_t (xg_const) ?_
              refine xg_t (xg_const) ?_
              refine xg_t (xg_iload (va := (0, kr)) rfl rfl) ?_
              refine xg_t (xg_imul (u := 4) (v := kr) (z := 4 * kr) xnm0 xnm0 (by omega)) ?_
              refine xg_t (xg_iadd (u := 1) (v := 4 * kr) (z := 1 + (4 * kr)) xnm0 xnm0 (by omega)) ?_
              refine xg_t (xg_iload (va := (0, 3)) rfl rfl) ?_
              refine xg_t (xg_iadd (u := 1 + (4 * kr)) (v := 3) (z := (1 + (4 * kr)) + 3) xnm0 xnm0 (by omega)) ?_
              refine xg_t (xg_aload (va := (2, 82)) rfl rfl) ?_
              refine xg_t (xg_getf (va := (2, 113)) (hF284.get (by decide) (hF267.get (by decide) (hF250.get (by decide) h82_237))) rfl) ?_
              refine xg_t (xg_iload (va := (0, 3)) rfl rfl) ?_
              refine xg_ialdB (n := 3) (B := 4294967295) (((h113_240.fr hF250 (by decide)).fr hF267 (by decide)).fr hF284 (by decide)) (hb241) xnm0 (by omega) (fun u293 hu294 he295 => ?_)
              have hl296 : fld w281 82 14 = fld w 82 14 := pk287.2.2.1
              have hl297 : fld w281 82 14 ≤ 2000 := by omega
              refine xg_cVv mX12_rulePuts (vs := [(0, (1 + (4 * kr)) + 3), (0, u293)]) (rest := []) (cn1 := 0) (sl1 := 0) rfl (mRulePuts (hI283) (by omega) (by omega) (by omega)) rfl (hF284.get (by decide) (hF267.get (by decide) (hF250.get (by decide) h82_237))) rfl rfl rfl rfl rfl rfl (fun w298 hq299 => ?_)
              obtain ⟨hI300, hF301, hx302⟩ := hq299
              have hx303 := hx302
              have pk304 : PK w w298 := PK.tr pk287 (PK.fr hF301 (by decide) (by decide) pk287.2.2.2.1)
              have ro305 : ∀ l, l < fld w 82 14 → l < 16 → rwv w298 112 (20 * l) = rwv w 112 (20 * l) := fun l hl h6 => ((hx303 _ (by omega)).2 (by omega)).trans (ro288 l hl h6)
              have hq306 := pk304
              unfold PK PS at hq306
              clear hq289
              have pj307 : PK w60 w298 := PK.tr pj290 (PK.fr hF301 (by decide) (by decide) pk287.2.2.2.1)
              have hq308 := pj307
              unfold PK PS at hq308
              clear hq291
              have ms309 : mu w298 < mu w := Nat.lt_of_le_of_lt (PK.fr hF301 (by decide) (by decide) pk287.2.2.2.1).2.1 ms292
              refine xg_t (xg_iinc (u := 3) (z := 4) (l1 := [(0, (2, 82)), (1, (0, kr)), (2, (0, mo))]) rfl rfl (by decide) rfl) ?_
              refine xg_t (xg_goto) ?_
              refine xg_t (xg_blk (b := [(55, 1, 2, 3, 0, 0), (56, 1, 3, 4, 0, 0), (57, 3, 6, 88, 3, 0), (60, 1, 2, 1, 0, 0), (61, 1, 3, 4, 0, 0), (62, 3, 6, 88, 3, 0), (65, 1, 0, 0, 0, 0), (66, 1, 3, 1, 0, 0), (67, 1, 3, 4, 0, 0), (68, 1, 2, 1, 0, 0), (69, 1, 16, 0, 0, 0), (70, 1, 11, 0, 0, 0), (71, 1, 2, 3, 0, 0), (72, 1, 11, 0, 0, 0), (73, 1, 0, 0, 0, 0), (74, 3, 1, 12, 46, 102), (77, 1, 2, 3, 0, 0), (78, 1, 10, 0, 0, 0), (79, 3, 13, 214, 96, 424), (82, 3, 9, 3, 1, 0), (85, 3, 8, 55, 0, 0)]) rfl) ?_
              refine xg_t (xg_iload (va := (0, 4)) rfl rfl) ?_
              refine xg_t (xg_const) ?_
              refine xg_t (xg_icT (u := 4) (v := 4) rfl xnm0 xnm0 (by decide)) ?_
              refine xg_t (xg_blk (b := [(88, 3, 9, 1, 1, 0), (91, 1, 0, 0, 0, 0), (92, 2, 4, 51, 0, 0), (94, 3, 13, 227, 96, 415), (97, 1, 15, 2, 0, 0), (98, 3, 8, 31, 0, 0)]) rfl) ?_
              refine xg_t (xg_iinc (u := kr) (z := kr + 1) (l1 := [(3, (0, 4)), (0, (2, 82)), (2, (0, mo))]) rfl rfl (by omega) rfl) ?_
              refine xg_t (xg_aload (va := (2, 82)) rfl rfl) ?_
              refine xg_t (xg_bip) ?_
              refine xg_cVi mX12_takes (vs := [(0, 51)]) (rest := []) (cn1 := 0) (sl1 := 0) rfl (mTakes (hI300) (by omega) pk304.2.2.2.1) rfl (hF301.get (by decide) (hF284.get (by decide) (hF267.get (by decide) (hF250.get (by decide) h82_237)))) rfl rfl rfl rfl rfl rfl (fun n314 w310 hq311 => ?_)
              obtain ⟨hn315, hI312, hF313⟩ := hq311
              clear hb208 hb210 hb212 hb214 hb216 hb218 hb220 hb222 hb224 hb226 hb230 hb232 hb234 hb236
              obtain ⟨hn316, hn317, hn318⟩ := hn315
              have pk319 : PK w w310 := PK.tr pk304 hn317
              have ro320 : ∀ l, l < fld w 82 14 → l < 16 → rwv w310 112 (20 * l) = rwv w 112 (20 * l) := fun l hl h6 => (rwv_fr hF313 (by decide)).trans (ro305 l hl h6)
              have hq321 := pk319
              unfold PK PS at hq321
              clear hq306
              have pj322 : PK w60 w310 := PK.tr pj307 hn317
              have hq323 := pj322
              unfold PK PS at hq323
              clear hq308
              have ms324 : mu w310 < mu w := Nat.lt_of_le_of_lt hn317.2.1 ms309
              have hu325 : n314 = 1 → mu w310 < mu w60 := fun h => Nat.lt_of_lt_of_le (hn318 h) pj307.2.1
              refine xg_t (xg_istore (l1 := [(1, (0, kr + 1)), (3, (0, 4)), (0, (2, 82))]) rfl rfl rfl) ?_
              refine xg_t (xg_goto) ?_
              refine xg_t (xg_drop (l1 := [(0, (2, 82)), (1, (0, kr + 1)), (2, (0, n314))]) (List.forall_mem_cons.mpr ⟨List.mem_cons_of_mem _ (List.mem_cons_of_mem _ (List.mem_cons_of_mem _ (List.mem_cons_self))), List.forall_mem_cons.mpr ⟨List.mem_cons_of_mem _ (List.mem_cons_self), List.forall_mem_cons.mpr ⟨List.mem_cons_self, fun _ h => absurd h List.not_mem_nil⟩⟩⟩)) ?_
              exact ih58 (kr + 1) n314 w310 (by omega) (by omega) (by omega) (hI312) (((((((hF62.tr (hF199.up (by decide))).tr (hF250.up (by decide))).tr (hF267.up (by decide))).tr (hF284.up (by decide))).tr (hF301.up (by decide))).tr (hF313.up (by decide)))) (⟨pk319, ro320, ms324, by omega, by omega, fun _ => by omega, fun h => by omega⟩)
      exact key57 _ 0 1 w43 (Nat.lt_succ_self _) (by omega) (by omega) (hI45) ((hF46.up (by decide))) (⟨pk52, ro53, ms56, by omega, by omega, fun _ => by omega, fun h => by omega⟩)
  · refine xg_t (xg_icF (u := f82_19) (v := 16) rfl xnm0 xnm0 (xj_ltF (by omega) (by omega))) ?_
    refine xg_t (xg_aload (va := (2, 82)) rfl rfl) ?_
    refine xg_t (xg_const) ?_
    refine xg_t (xg_aload (va := (2, 82)) rfl rfl) ?_
    refine xg_t (xg_getf (va := (0, f82_9)) h82_31 rfl) ?_
    refine xg_cVv mX12_also (vs := [(0, 3), (0, f82_9)]) (rest := []) (cn1 := 0) (sl1 := 0) rfl (mAlso (hI) (by omega) (by omega) (by omega) (PK.rf hps).2.2.2.1) rfl h82_31 rfl rfl rfl rfl rfl rfl (fun w326 hq327 => ?_)
    obtain ⟨hI328, hF329, hx330⟩ := hq327
    obtain ⟨hv332, hv333⟩ := hx330
    have pk331 : PK w w326 := ⟨fun _ => hv332, Nat.le_of_eq (mu_fr hF329 (by decide)), fld_fr hF329 (by decide), Or.inr hv332, hv333⟩
    have pk334 : PK w w326 := PK.tr (PK.rf hps) pk331
    have ro335 : ∀ l, l < fld w 82 14 → l < 16 → rwv w326 112 (20 * l) = rwv w 112 (20 * l) := fun l hl h6 => (rwv_fr hF329 (by decide)).trans ((fun l _ _ => rfl) l hl h6)
    have hq336 := pk334
    unfold PK PS at hq336
    have fa337 : FA w326 ≠ 0 := hv332
    refine xg_t (xg_blk (b := [(18, 1, 3, 0, 0, 0), (19, 1, 15, 1, 0, 0), (20, 1, 0, 0, 0, 0), (21, 2, 4, 50, 0, 0), (23, 3, 13, 227, 96, 415), (26, 3, 7, 107, 0, 0), (29, 1, 3, 1, 0, 0), (30, 1, 15, 2, 0, 0)]) rfl) ?_
    refine xg_t (xg_const) ?_
    refine xg_t (xg_istore (l1 := [(0, (2, 82))]) rfl rfl rfl) ?_
    refine xg_t (xg_aload (va := (2, 82)) rfl rfl) ?_
    refine xg_t (xg_bip) ?_
    refine xg_cVi mX12_takes (vs := [(0, 50)]) (rest := []) (cn1 := 0) (sl1 := 0) rfl (mTakes (hI328) (by omega) pk334.2.2.2.1) rfl (hF329.get (by decide) h82_31) rfl rfl rfl rfl rfl rfl (fun n342 w338 hq339 => ?_)
    obtain ⟨hn343, hI340, hF341⟩ := hq339
    clear hb2 hb4 hb6 hb8 hb10 hb12 hb14 hb16 hb18 hb20 hb24 hb26 hb28 hb30
    obtain ⟨hn344, hn345, hn346⟩ := hn343
    have pk347 : PK w w338 := PK.tr pk334 hn345
    have ro348 : ∀ l, l < fld w 82 14 → l < 16 → rwv w338 112 (20 * l) = rwv w 112 (20 * l) := fun l hl h6 => (rwv_fr hF341 (by decide)).trans (ro335 l hl h6)
    have hq349 := pk347
    unfold PK PS at hq349
    clear hq336
    have fa350 : FA w338 ≠ 0 := hn345.1 fa337
    by_cases hc351 : n342 = 0
    · refine xg_t (xg_ifT (u := n342) rfl xnm0 (xj_eqT hc351)) ?_
      refine xg_t (xg_drop (l1 := [(0, (2, 82)), (1, (0, 0))]) (List.forall_mem_cons.mpr ⟨List.mem_cons_of_mem _ (List.mem_cons_self), List.forall_mem_cons.mpr ⟨List.mem_cons_self, fun _ h => absurd h List.not_mem_nil⟩⟩)) ?_
      refine (mARuleT (hI340) pk347.2.2.2.1 (by omega) (by omega) (by omega) (fun _ => by omega)).imp (fun φ h => ?_)
      obtain ⟨w', e1, e2, e3, e4, e5, e6, e7, e8⟩ := h
      refine ⟨w', e1, e2, (((hF329.up (by decide)).tr (hF341.up (by decide)))).tr (e3.up (by decide)), fun z => e4 (pk347.1 z), e5, ?_, ?_, pk347.2.2.2.2.tr e8⟩
      · have q1 := pk347.2.1
        have q2 := pk347.2.2.1
        rcases e6 with ⟨c1, c2, c3⟩ | ⟨c1, c2⟩
        · exact Or.inl ⟨c1, by omega, by omega⟩
        · exact Or.inr ⟨by omega, by omega⟩
      · rcases e7 with r | r
        · exact Or.inl r
        · refine Or.inr (fun hd => r ⟨by rw [pk347.2.2.1]; exact hd.1, fun l hl => ?_⟩)
          have q2 := pk347.2.2.1
          rw [ro348 l (by omega) (by have := hd.1; omega)]
          exact hd.2 l (by omega)
    · have ms352 : mu w338 < mu w := Nat.lt_of_lt_of_le (hn346 (by omega)) pk334.2.1
      refine xg_t (xg_ifF (u := n342) rfl xnm0 (xj_eqF hc351)) ?_
      refine xg_t (xg_const) ?_
      refine xg_t (xg_istore (l1 := [(1, (0, 0)), (0, (2, 82))]) rfl rfl rfl) ?_
      refine xg_t (xg_drop (l1 := [(0, (2, 82)), (1, (0, 0)), (2, (0, 1))]) (List.forall_mem_cons.mpr ⟨List.mem_cons_of_mem _ (List.mem_cons_of_mem _ (List.mem_cons_self)), List.forall_mem_cons.mpr ⟨List.mem_cons_of_mem _ (List.mem_cons_self), List.forall_mem_cons.mpr ⟨List.mem_cons_self, fun _ h => absurd h List.not_mem_nil⟩⟩⟩)) ?_
      have key353 : ∀ (m355 : Nat) (kr mo : Nat) (w356 : List (List xE)), 2 * mu w356 + mo < m355 → kr ≤ 1002 → mo ≤ 1 → xMnv w356 → xFr [82, 83, 112, 113] w w356 → (PK w w356 ∧ (∀ l, l < fld w 82 14 → l < 16 → rwv w356 112 (20 * l) = rwv w 112 (20 * l)) ∧ mu w356 < mu w ∧ (FA w356 ≠ 0 ∨ kr ≤ 4) ∧ kr + mu w356 ≤ 1002 ∧ (mo = 1 → kr + mu w356 ≤ 1001) ∧ (16 ≤ fld w 82 14 → FA w356 ≠ 0)) → xTo (d + 7) mX12_aRule (31, [], [(0, (2, 82)), (1, (0, kr)), (2, (0, mo))], [], (w356, bd, fc, 0, 0, rr)) (fun φ => ∃ w', xEnd 0 [] (w', bd, fc, 0, 0, rr) φ ∧ xMnv w' ∧ xFr [82, 83, 112, 113] w w' ∧ ((FA w ≠ 0 → FA w' ≠ 0) ∧ PS w' ∧ ((fld w' 82 10 = 1 ∧ mu w' ≤ mu w ∧ fld w' 82 14 = fld w 82 14) ∨ (mu w' < mu w ∧ fld w' 82 14 = fld w 82 14 + 1)) ∧ (FA w' ≠ 0 ∨ (RD w → RD w')) ∧ K83 w w')) := by
        intro m355
        induction m355 with
        | zero => intro kr mo w356 hz; exact absurd hz (Nat.not_lt_zero _)
        | succ m355 ih354 =>
          intro kr mo w356 hm362 hn359 hn360 hI357 hF358 he361
          obtain ⟨hz363, hz364, hz365, hz366, hz367, hz368, hz369⟩ := he361
          have hq370 := hz363
          unfold PK PS at hq370
          obtain ⟨f82_371, f82_373, f82_375, f82_377, f82_379, f82_381, f82_383, f82_385, f82_387, f82_389, f82_391, f82_392, f82_393, f82_395, f82_397, f82_399, h82_401, hb372, hb374, hb376, hb378, hb380, hb382, hb384, hb386, hb388, hb390, hb394, hb396, hb398, hb400, hb402⟩ := (hI357 82 (by decide) (by decide) : cp82 (wget w356 82))
          refine xg_t (xg_blk (b := [(31, 1, 2, 2, 0, 0), (32, 3, 7, 101, 0, 0), (35, 1, 2, 1, 0, 0), (36, 1, 3, 3, 0, 0), (37, 3, 6, 49, 5, 0), (40, 1, 0, 0, 0, 0), (41, 1, 3, 3, 0, 0), (42, 1, 0, 0, 0, 0), (43, 3, 1, 12, 6, 148), (46, 3, 13, 115, 96, 186)]) rfl) ?_
          refine xg_t (xg_iload (va := (0, mo)) rfl rfl) ?_
          by_cases hc403 : mo = 0
          · refine xg_t (xg_ifT (u := mo) rfl xnm0 (xj_eqT hc403)) ?_
            refine xg_t (xg_blk (b := [(101, 1, 0, 0, 0, 0), (102, 2, 4, 58, 0, 0), (104, 3, 13, 195, 96, 427)]) rfl) ?_
            refine xg_t (xg_aload (va := (2, 82)) rfl rfl) ?_
            refine xg_t (xg_bip) ?_
            refine xg_cVv mX12_must (vs := [(0, 58)]) (rest := []) (cn1 := 0) (sl1 := 0) rfl (mMust (hI357) (by omega) hz363.2.2.2.1) rfl h82_401 rfl rfl rfl rfl rfl rfl (fun w404 hq405 => ?_)
            obtain ⟨hI406, hF407, hx408⟩ := hq405
            clear hb372 hb374 hb376 hb378 hb380 hb382 hb384 hb386 hb388 hb390 hb394 hb396 hb398 hb400
            have pk409 : PK w w404 := PK.tr hz363 hx408
            have ro410 : ∀ l, l < fld w 82 14 → l < 16 → rwv w404 112 (20 * l) = rwv w 112 (20 * l) := fun l hl h6 => (rwv_fr hF407 (by decide)).trans (hz364 l hl h6)
            have hq411 := pk409
            unfold PK PS at hq411
            clear hq370
            have pj412 : PK w356 w404 := PK.tr (PK.rf hz363.2.2.2.1) hx408
            have hq413 := pj412
            unfold PK PS at hq413
            have ms414 : mu w404 < mu w := Nat.lt_of_le_of_lt hx408.2.1 hz365
            refine xg_t (xg_drop (l1 := [(0, (2, 82)), (1, (0, kr))]) (List.forall_mem_cons.mpr ⟨List.mem_cons_self, List.forall_mem_cons.mpr ⟨List.mem_cons_of_mem _ (List.mem_cons_self), fun _ h => absurd h List.not_mem_nil⟩⟩)) ?_
            refine (mARuleT (hI406) pk409.2.2.2.1 (by omega) (by omega) (by omega) (fun _ => by omega)).imp (fun φ h => ?_)
            obtain ⟨w', e1, e2, e3, e4, e5, e6, e7, e8⟩ := h
            refine ⟨w', e1, e2, ((hF358.tr (hF407.up (by decide)))).tr (e3.up (by decide)), fun z => e4 (pk409.1 z), e5, ?_, ?_, pk409.2.2.2.2.tr e8⟩
            · have q1 := pk409.2.1
              have q2 := pk409.2.2.1
              rcases e6 with ⟨c1, c2, c3⟩ | ⟨c1, c2⟩
              · exact Or.inl ⟨c1, by omega, by omega⟩
              · exact Or.inr ⟨by omega, by omega⟩
            · rcases e7 with r | r
              · exact Or.inl r
              · refine Or.inr (fun hd => r ⟨by rw [pk409.2.2.1]; exact hd.1, fun l hl => ?_⟩)
                have q2 := pk409.2.2.1
                rw [ro410 l (by omega) (by have := hd.1; omega)]
                exact hd.2 l (by omega)
          · refine xg_t (xg_ifF (u := mo) rfl xnm0 (xj_eqF hc403)) ?_
            refine xg_t (xg_iload (va := (0, kr)) rfl rfl) ?_
            refine xg_t (xg_const) ?_
            by_cases hc415 : 3 < kr
            · refine xg_t (xg_icF (u := kr) (v := 3) rfl xnm0 xnm0 (xj_leF hc415 (by omega))) ?_
              refine xg_t (xg_aload (va := (2, 82)) rfl rfl) ?_
              refine xg_t (xg_const) ?_
              refine xg_t (xg_aload (va := (2, 82)) rfl rfl) ?_
              refine xg_t (xg_getf (va := (0, f82_379)) h82_401 rfl) ?_
              refine xg_cVv mX12_also (vs := [(0, 3), (0, f82_379)]) (rest := []) (cn1 := 0) (sl1 := 0) rfl (mAlso (hI357) (by omega) (by omega) (by omega) hz363.2.2.2.1) rfl h82_401 rfl rfl rfl rfl rfl rfl (fun w416 hq417 => ?_)
              obtain ⟨hI418, hF419, hx420⟩ := hq417
              obtain ⟨hv422, hv423⟩ := hx420
              have pk421 : PK w356 w416 := ⟨fun _ => hv422, Nat.le_of_eq (mu_fr hF419 (by decide)), fld_fr hF419 (by decide), Or.inr hv422, hv423⟩
              have pk424 : PK w w416 := PK.tr hz363 pk421
              have ro425 : ∀ l, l < fld w 82 14 → l < 16 → rwv w416 112 (20 * l) = rwv w 112 (20 * l) := fun l hl h6 => (rwv_fr hF419 (by decide)).trans (hz364 l hl h6)
              have hq426 := pk424
              unfold PK PS at hq426
              clear hq370
              have pj427 : PK w356 w416 := PK.tr (PK.rf hz363.2.2.2.1) pk421
              have hq428 := pj427
              unfold PK PS at hq428
              have ms429 : mu w416 < mu w := Nat.lt_of_le_of_lt pk421.2.1 hz365
              have fa430 : FA w416 ≠ 0 := hv422
              refine xg_t (xg_blk (b := [(49, 1, 0, 0, 0, 0), (50, 3, 13, 109, 96, 421), (53, 1, 3, 0, 0, 0), (54, 1, 15, 3, 0, 0)]) rfl) ?_
              refine xg_t (xg_aload (va := (2, 82)) rfl rfl) ?_
              refine xg_cVv mX12_aTest (vs := []) (rest := []) (cn1 := 0) (sl1 := 0) rfl (mATest (hI418) pk424.2.2.2.1) rfl (hF419.get (by decide) h82_401) rfl rfl rfl rfl rfl rfl (fun w431 hq432 => ?_)
              obtain ⟨hI433, hF434, hx435⟩ := hq432
              clear hb372 hb374 hb376 hb378 hb380 hb382 hb384 hb386 hb388 hb390 hb394 hb396 hb398 hb400
              have pk436 : PK w w431 := PK.tr pk424 hx435
              have ro437 : ∀ l, l < fld w 82 14 → l < 16 → rwv w431 112 (20 * l) = rwv w 112 (20 * l) := fun l hl h6 => (rwv_fr hF434 (by decide)).trans (ro425 l hl h6)
              have hq438 := pk436
              unfold PK PS at hq438
              clear hq426
              have pj439 : PK w356 w431 := PK.tr pj427 hx435
              have hq440 := pj439
              unfold PK PS at hq440
              clear hq428
              have fa441 : FA w431 ≠ 0 := hx435.1 fa430
              have ms442 : mu w431 < mu w := Nat.lt_of_le_of_lt hx435.2.1 ms429
              refine xg_t (xg_const) ?_
              refine xg_t (xg_istore (l1 := [(0, (2, 82)), (1, (0, kr)), (2, (0, mo))]) rfl rfl rfl) ?_
              refine xg_t (xg_blk (b := [(55, 1, 2, 3, 0, 0), (56, 1, 3, 4, 0, 0), (57, 3, 6, 88, 3, 0), (60, 1, 2, 1, 0, 0), (61, 1, 3, 4, 0, 0), (62, 3, 6, 88, 3, 0), (65, 1, 0, 0, 0, 0), (66, 1, 3, 1, 0, 0), (67, 1, 3, 4, 0, 0), (68, 1, 2, 1, 0, 0), (69, 1, 16, 0, 0, 0), (70, 1, 11, 0, 0, 0), (71, 1, 2, 3, 0, 0), (72, 1, 11, 0, 0, 0), (73, 1, 0, 0, 0, 0), (74, 3, 1, 12, 46, 102), (77, 1, 2, 3, 0, 0), (78, 1, 10, 0, 0, 0), (79, 3, 13, 214, 96, 424), (82, 3, 9, 3, 1, 0), (85, 3, 8, 55, 0, 0)]) rfl) ?_
              refine xg_t (xg_iload (va := (0, 0)) rfl rfl) ?_
              refine xg_t (xg_const) ?_
              refine xg_t (xg_icF (u := 0) (v := 4) rfl xnm0 xnm0 (by decide)) ?_
              refine xg_t (xg_iload (va := (0, kr)) rfl rfl) ?_
              refine xg_t (xg_const) ?_
              refine xg_t (xg_icT (u := kr) (v := 4) rfl xnm0 xnm0 (xj_geT (by omega) (by omega))) ?_
              refine xg_t (xg_blk (b := [(88, 3, 9, 1, 1, 0), (91, 1, 0, 0, 0, 0), (92, 2, 4, 51, 0, 0), (94, 3, 13, 227, 96, 415), (97, 1, 15, 2, 0, 0), (98, 3, 8, 31, 0, 0)]) rfl) ?_
              refine xg_t (xg_iinc (u := kr) (z := kr + 1) (l1 := [(3, (0, 0)), (0, (2, 82)), (2, (0, mo))]) rfl rfl (by omega) rfl) ?_
              refine xg_t (xg_aload (va := (2, 82)) rfl rfl) ?_
              refine xg_t (xg_bip) ?_
              obtain ⟨f82_443, f82_445, f82_447, f82_449, f82_451, f82_453, f82_455, f82_457, f82_459, f82_461, f82_463, f82_464, f82_465, f82_467, f82_469, f82_471, h82_473, hb444, hb446, hb448, hb450, hb452, hb454, hb456, hb458, hb460, hb462, hb466, hb468, hb470, hb472, hb474⟩ := (hI433 82 (by decide) (by decide) : cp82 (wget w431 82))
              refine xg_cVi mX12_takes (vs := [(0, 51)]) (rest := []) (cn1 := 0) (sl1 := 0) rfl (mTakes (hI433) (by omega) pk436.2.2.2.1) rfl h82_473 rfl rfl rfl rfl rfl rfl (fun n479 w475 hq476 => ?_)
              obtain ⟨hn480, hI477, hF478⟩ := hq476
              clear hb444 hb446 hb448 hb450 hb452 hb454 hb456 hb458 hb460 hb462 hb466 hb468 hb470 hb472
              obtain ⟨hn481, hn482, hn483⟩ := hn480
              have pk484 : PK w w475 := PK.tr pk436 hn482
              have ro485 : ∀ l, l < fld w 82 14 → l < 16 → rwv w475 112 (20 * l) = rwv w 112 (20 * l) := fun l hl h6 => (rwv_fr hF478 (by decide)).trans (ro437 l hl h6)
              have hq486 := pk484
              unfold PK PS at hq486
              clear hq438
              have pj487 : PK w356 w475 := PK.tr pj439 hn482
              have hq488 := pj487
              unfold PK PS at hq488
              clear hq440
              have fa489 : FA w475 ≠ 0 := hn482.1 fa441
              have ms490 : mu w475 < mu w := Nat.lt_of_le_of_lt hn482.2.1 ms442
              have hu491 : n479 = 1 → mu w475 < mu w356 := fun h => Nat.lt_of_lt_of_le (hn483 h) pj439.2.1
              refine xg_t (xg_istore (l1 := [(1, (0, kr + 1)), (3, (0, 0)), (0, (2, 82))]) rfl rfl rfl) ?_
              refine xg_t (xg_goto) ?_
              refine xg_t (xg_drop (l1 := [(0, (2, 82)), (1, (0, kr + 1)), (2, (0, n479))]) (List.forall_mem_cons.mpr ⟨List.mem_cons_of_mem _ (List.mem_cons_of_mem _ (List.mem_cons_of_mem _ (List.mem_cons_self))), List.forall_mem_cons.mpr ⟨List.mem_cons_of_mem _ (List.mem_cons_self), List.forall_mem_cons.mpr ⟨List.mem_cons_self, fun _ h => absurd h List.not_mem_nil⟩⟩⟩)) ?_
              exact ih354 (kr + 1) n479 w475 (by omega) (by omega) (by omega) (hI477) ((((hF358.tr (hF419.up (by decide))).tr (hF434.up (by decide))).tr (hF478.up (by decide)))) (⟨pk484, ro485, ms490, by omega, by omega, fun _ => by omega, fun h => by omega⟩)
            · refine xg_t (xg_icT (u := kr) (v := 3) rfl xnm0 xnm0 (xj_leT (by omega) (by omega))) ?_
              refine xg_t (xg_blk (b := [(49, 1, 0, 0, 0, 0), (50, 3, 13, 109, 96, 421), (53, 1, 3, 0, 0, 0), (54, 1, 15, 3, 0, 0)]) rfl) ?_
              refine xg_t (xg_aload (va := (2, 82)) rfl rfl) ?_
              refine xg_cVv mX12_aTest (vs := []) (rest := []) (cn1 := 0) (sl1 := 0) rfl (mATest (hI357) hz363.2.2.2.1) rfl h82_401 rfl rfl rfl rfl rfl rfl (fun w492 hq493 => ?_)
              obtain ⟨hI494, hF495, hx496⟩ := hq493
              clear hb372 hb374 hb376 hb378 hb380 hb382 hb384 hb386 hb388 hb390 hb394 hb396 hb398 hb400
              have pk497 : PK w w492 := PK.tr hz363 hx496
              have ro498 : ∀ l, l < fld w 82 14 → l < 16 → rwv w492 112 (20 * l) = rwv w 112 (20 * l) := fun l hl h6 => (rwv_fr hF495 (by decide)).trans (hz364 l hl h6)
              have hq499 := pk497
              unfold PK PS at hq499
              clear hq370
              have pj500 : PK w356 w492 := PK.tr (PK.rf hz363.2.2.2.1) hx496
              have hq501 := pj500
              unfold PK PS at hq501
              have ms502 : mu w492 < mu w := Nat.lt_of_le_of_lt hx496.2.1 hz365
              refine xg_t (xg_const) ?_
              refine xg_t (xg_istore (l1 := [(0, (2, 82)), (1, (0, kr)), (2, (0, mo))]) rfl rfl rfl) ?_
              refine xg_t (xg_blk (b := [(55, 1, 2, 3, 0, 0), (56, 1, 3, 4, 0, 0), (57, 3, 6, 88, 3, 0), (60, 1, 2, 1, 0, 0), (61, 1, 3, 4, 0, 0), (62, 3, 6, 88, 3, 0), (65, 1, 0, 0, 0, 0), (66, 1, 3, 1, 0, 0), (67, 1, 3, 4, 0, 0), (68, 1, 2, 1, 0, 0), (69, 1, 16, 0, 0, 0), (70, 1, 11, 0, 0, 0), (71, 1, 2, 3, 0, 0), (72, 1, 11, 0, 0, 0), (73, 1, 0, 0, 0, 0), (74, 3, 1, 12, 46, 102), (77, 1, 2, 3, 0, 0), (78, 1, 10, 0, 0, 0), (79, 3, 13, 214, 96, 424), (82, 3, 9, 3, 1, 0), (85, 3, 8, 55, 0, 0)]) rfl) ?_
              refine xg_t (xg_iload (va := (0, 0)) rfl rfl) ?_
              refine xg_t (xg_const) ?_
              refine xg_t (xg_icF (u := 0) (v := 4) rfl xnm0 xnm0 (by decide)) ?_
              refine xg_t (xg_iload (va := (0, kr)) rfl rfl) ?_
              refine xg_t (xg_const) ?_
              refine xg_t (xg_icF (u := kr) (v := 4) rfl xnm0 xnm0 (xj_geF (by omega) (by omega))) ?_
              refine xg_t (xg_aload (va := (2, 82)) rfl rfl) ?_
              refine xg_t (xg_const) ?_
              refine xg_t (xg_const) ?_
              refine xg_t (xg_iload (va := (0, kr)) rfl rfl) ?_
              refine xg_t (xg_imul (u := 4) (v := kr) (z := 4 * kr) xnm0 xnm0 (by omega)) ?_
              refine xg_t (xg_iadd (u := 1) (v := 4 * kr) (z := 1 + (4 * kr)) xnm0 xnm0 (by omega)) ?_
              refine xg_t (xg_iload (va := (0, 0)) rfl rfl) ?_
              refine xg_t (xg_iadd (u := 1 + (4 * kr)) (v := 0) (z := (1 + (4 * kr)) + 0) xnm0 xnm0 (by omega)) ?_
              refine xg_t (xg_aload (va := (2, 82)) rfl rfl) ?_
              obtain ⟨f82_503, f82_505, f82_507, f82_509, f82_511, f82_513, f82_515, f82_517, f82_519, f82_521, f82_523, f82_524, f82_525, f82_527, f82_529, f82_531, h82_533, hb504, hb506, hb508, hb510, hb512, hb514, hb516, hb518, hb520, hb522, hb526, hb528, hb530, hb532, hb534⟩ := (hI494 82 (by decide) (by decide) : cp82 (wget w492 82))
              refine xg_t (xg_getf (va := (2, 113)) h82_533 rfl) ?_
              refine xg_t (xg_iload (va := (0, 0)) rfl rfl) ?_
              obtain ⟨g113_535, h113_536, hb537⟩ := (hI494 113 (by decide) (by decide) : cpI 4 80 4294967295 (wget w492 113))
              have h113_536 : xRow w492 113 4 80 g113_535 := h113_536
              refine xg_ialdB (n := 0) (B := 4294967295) h113_536 (hb537) xnm0 (by omega) (fun u538 hu539 he540 => ?_)
              have hl541 : fld w492 82 14 = fld w 82 14 := pk497.2.2.1
              have hl542 : fld w492 82 14 ≤ 2000 := by omega
              refine xg_cVv mX12_rulePuts (vs := [(0, (1 + (4 * kr)) + 0), (0, u538)]) (rest := []) (cn1 := 0) (sl1 := 0) rfl (mRulePuts (hI494) (by omega) (by omega) (by omega)) rfl h82_533 rfl rfl rfl rfl rfl rfl (fun w543 hq544 => ?_)
              obtain ⟨hI545, hF546, hx547⟩ := hq544
              have hx548 := hx547
              have pk549 : PK w w543 := PK.tr pk497 (PK.fr hF546 (by decide) (by decide) pk497.2.2.2.1)
              have ro550 : ∀ l, l < fld w 82 14 → l < 16 → rwv w543 112 (20 * l) = rwv w 112 (20 * l) := fun l hl h6 => ((hx548 _ (by omega)).2 (by omega)).trans (ro498 l hl h6)
              have hq551 := pk549
              unfold PK PS at hq551
              clear hq499
              have pj552 : PK w356 w543 := PK.tr pj500 (PK.fr hF546 (by decide) (by decide) pk497.2.2.2.1)
              have hq553 := pj552
              unfold PK PS at hq553
              clear hq501
              have ms554 : mu w543 < mu w := Nat.lt_of_le_of_lt (PK.fr hF546 (by decide) (by decide) pk497.2.2.2.1).2.1 ms502
              refine xg_t (xg_iinc (u := 0) (z := 1) (l1 := [(0, (2, 82)), (1, (0, kr)), (2, (0, mo))]) rfl rfl (by decide) rfl) ?_
              refine xg_t (xg_goto) ?_
              refine xg_t (xg_blk (b := [(55, 1, 2, 3, 0, 0), (56, 1, 3, 4, 0, 0), (57, 3, 6, 88, 3, 0), (60, 1, 2, 1, 0, 0), (61, 1, 3, 4, 0, 0), (62, 3, 6, 88, 3, 0), (65, 1, 0, 0, 0, 0), (66, 1, 3, 1, 0, 0), (67, 1, 3, 4, 0, 0), (68, 1, 2, 1, 0, 0), (69, 1, 16, 0, 0, 0), (70, 1, 11, 0, 0, 0), (71, 1, 2, 3, 0, 0), (72, 1, 11, 0, 0, 0), (73, 1, 0, 0, 0, 0), (74, 3, 1, 12, 46, 102), (77, 1, 2, 3, 0, 0), (78, 1, 10, 0, 0, 0), (79, 3, 13, 214, 96, 424), (82, 3, 9, 3, 1, 0), (85, 3, 8, 55, 0, 0)]) rfl) ?_
              refine xg_t (xg_iload (va := (0, 1)) rfl rfl) ?_
              refine xg_t (xg_const) ?_
              refine xg_t (xg_icF (u := 1) (v := 4) rfl xnm0 xnm0 (by decide)) ?_
              refine xg_t (xg_iload (va := (0, kr)) rfl rfl) ?_
              refine xg_t (xg_const) ?_
              refine xg_t (xg_icF (u := kr) (v := 4) rfl xnm0 xnm0 (xj_geF (by omega) (by omega))) ?_
              refine xg_t (xg_aload (va := (2, 82)) rfl rfl) ?_
              refine xg_t (xg_const) ?_
              refine xg_t (xg_const) ?_
              refine xg_t (xg_iload (va := (0, kr)) rfl rfl) ?_
              refine xg_t (xg_imul (u := 4) (v := kr) (z := 4 * kr) xnm0 xnm0 (by omega)) ?_
              refine xg_t (xg_iadd (u := 1) (v := 4 * kr) (z := 1 + (4 * kr)) xnm0 xnm0 (by omega)) ?_
              refine xg_t (xg_iload (va := (0, 1)) rfl rfl) ?_
              refine xg_t (xg_iadd (u := 1 + (4 * kr)) (v := 1) (z := (1 + (4 * kr)) + 1) xnm0 xnm0 (by omega)) ?_
              refine xg_t (xg_aload (va := (2, 82)) rfl rfl) ?_
              refine xg_t (xg_getf (va := (2, 113)) (hF546.get (by decide) h82_533) rfl) ?_
              refine xg_t (xg_iload (va := (0, 1)) rfl rfl) ?_
              refine xg_ialdB (n := 1) (B := 4294967295) (h113_536.fr hF546 (by decide)) (hb537) xnm0 (by omega) (fun u555 hu556 he557 => ?_)
              have hl558 : fld w543 82 14 = fld w 82 14 := pk549.2.2.1
              have hl559 : fld w543 82 14 ≤ 2000 := by omega
              refine xg_cVv mX12_rulePuts (vs := [(0, (1 + (4 * kr)) + 1), (0, u555)]) (rest := []) (cn1 := 0) (sl1 := 0) rfl (mRulePuts (hI545) (by omega) (by omega) (by omega)) rfl (hF546.get (by decide) h82_533) rfl rfl rfl rfl rfl rfl (fun w560 hq561 => ?_)
              obtain ⟨hI562, hF563, hx564⟩ := hq561
              have hx565 := hx564
              have pk566 : PK w w560 := PK.tr pk549 (PK.fr hF563 (by decide) (by decide) pk549.2.2.2.1)
              have ro567 : ∀ l, l < fld w 82 14 → l < 16 → rwv w560 112 (20 * l) = rwv w 112 (20 * l) := fun l hl h6 => ((hx565 _ (by omega)).2 (by omega)).trans (ro550 l hl h6)
              have hq568 := pk566
              unfold PK PS at hq568
              clear hq551
              have pj569 : PK w356 w560 := PK.tr pj552 (PK.fr hF563 (by decide) (by decide) pk549.2.2.2.1)
              have hq570 := pj569
              unfold PK PS at hq570
              clear hq553
              have ms571 : mu w560 < mu w := Nat.lt_of_le_of_lt (PK.fr hF563 (by decide) (by decide) pk549.2.2.2.1).2.1 ms554
              refine xg_t (xg_iinc (u := 1) (z := 2) (l1 := [(0, (2, 82)), (1, (0, kr)), (2, (0, mo))]) rfl rfl (by decide) rfl) ?_
              refine xg_t (xg_goto) ?_
              refine xg_t (xg_blk (b := [(55, 1, 2, 3, 0, 0), (56, 1, 3, 4, 0, 0), (57, 3, 6, 88, 3, 0), (60, 1, 2, 1, 0, 0), (61, 1, 3, 4, 0, 0), (62, 3, 6, 88, 3, 0), (65, 1, 0, 0, 0, 0), (66, 1, 3, 1, 0, 0), (67, 1, 3, 4, 0, 0), (68, 1, 2, 1, 0, 0), (69, 1, 16, 0, 0, 0), (70, 1, 11, 0, 0, 0), (71, 1, 2, 3, 0, 0), (72, 1, 11, 0, 0, 0), (73, 1, 0, 0, 0, 0), (74, 3, 1, 12, 46, 102), (77, 1, 2, 3, 0, 0), (78, 1, 10, 0, 0, 0), (79, 3, 13, 214, 96, 424), (82, 3, 9, 3, 1, 0), (85, 3, 8, 55, 0, 0)]) rfl) ?_
              refine xg_t (xg_iload (va := (0, 2)) rfl rfl) ?_
              refine xg_t (xg_const) ?_
              refine xg_t (xg_icF (u := 2) (v := 4) rfl xnm0 xnm0 (by decide)) ?_
              refine xg_t (xg_iload (va := (0, kr)) rfl rfl) ?_
              refine xg_t (xg_const) ?_
              refine xg_t (xg_icF (u := kr) (v := 4) rfl xnm0 xnm0 (xj_geF (by omega) (by omega))) ?_
              refine xg_t (xg_aload (va := (2, 82)) rfl rfl) ?_
              refine xg_t (xg_const) ?_
              refine xg_t (xg_const) ?_
              refine xg_t (xg_iload (va := (0, kr)) rfl rfl) ?_
              refine xg_t (xg_imul (u := 4) (v := kr) (z := 4 * kr) xnm0 xnm0 (by omega)) ?_
              refine xg_t (xg_iadd (u := 1) (v := 4 * kr) (z := 1 + (4 * kr)) xnm0 xnm0 (by omega)) ?_
              refine xg_t (xg_iload (va := (0, 2)) rfl rfl) ?_
              refine xg_t (xg_iadd (u := 1 + (4 * kr)) (v := 2) (z := (1 + (4 * kr)) + 2) xnm0 xnm0 (by omega)) ?_
              refine xg_t (xg_aload (va := (2, 82)) rfl rfl) ?_
              refine xg_t (xg_getf (va := (2, 113)) (hF563.get (by decide) (hF546.get (by decide) h82_533)) rfl) ?_
              refine xg_t (xg_iload (va := (0, 2)) rfl rfl) ?_
              refine xg_ialdB (n := 2) (B := 4294967295) ((h113_536.fr hF546 (by decide)).fr hF563 (by decide)) (hb537) xnm0 (by omega) (fun u572 hu573 he574 => ?_)
              have hl575 : fld w560 82 14 = fld w 82 14 := pk566.2.2.1
              have hl576 : fld w560 82 14 ≤ 2000 := by omega
              refine xg_cVv mX12_rulePuts (vs := [(0, (1 + (4 * kr)) + 2), (0, u572)]) (rest := []) (cn1 := 0) (sl1 := 0) rfl (mRulePuts (hI562) (by omega) (by omega) (by omega)) rfl (hF563.get (by decide) (hF546.get (by decide) h82_533)) rfl rfl rfl rfl rfl rfl (fun w577 hq578 => ?_)
              obtain ⟨hI579, hF580, hx581⟩ := hq578
              have hx582 := hx581
              have pk583 : PK w w577 := PK.tr pk566 (PK.fr hF580 (by decide) (by decide) pk566.2.2.2.1)
              have ro584 : ∀ l, l < fld w 82 14 → l < 16 → rwv w577 112 (20 * l) = rwv w 112 (20 * l) := fun l hl h6 => ((hx582 _ (by omega)).2 (by omega)).trans (ro567 l hl h6)
              have hq585 := pk583
              unfold PK PS at hq585
              clear hq568
              have pj586 : PK w356 w577 := PK.tr pj569 (PK.fr hF580 (by decide) (by decide) pk566.2.2.2.1)
              have hq587 := pj586
              unfold PK PS at hq587
              clear hq570
              have ms588 : mu w577 < mu w := Nat.lt_of_le_of_lt (PK.fr hF580 (by decide) (by decide) pk566.2.2.2.1).2.1 ms571
              refine xg_t (xg_iinc (u := 2) (z := 3) (l1 := [(0, (2, 82)), (1, (0, kr)), (2, (0, mo))]) rfl rfl (by decide) rfl) ?_
              refine xg_t (xg_goto) ?_
              refine xg_t (xg_blk (b := [(55, 1, 2, 3, 0, 0), (56, 1, 3, 4, 0, 0), (57, 3, 6, 88, 3, 0), (60, 1, 2, 1, 0, 0), (61, 1, 3, 4, 0, 0), (62, 3, 6, 88, 3, 0), (65, 1, 0, 0, 0, 0), (66, 1, 3, 1, 0, 0), (67, 1, 3, 4, 0, 0), (68, 1, 2, 1, 0, 0), (69, 1, 16, 0, 0, 0), (70, 1, 11, 0, 0, 0), (71, 1, 2, 3, 0, 0), (72, 1, 11, 0, 0, 0), (73, 1, 0, 0, 0, 0), (74, 3, 1, 12, 46, 102), (77, 1, 2, 3, 0, 0), (78, 1, 10, 0, 0, 0), (79, 3, 13, 214, 96, 424), (82, 3, 9, 3, 1, 0), (85, 3, 8, 55, 0, 0)]) rfl) ?_
              refine xg_t (xg_iload (va := (0, 3)) rfl rfl) ?_
              refine xg_t (xg_const) ?_
              refine xg_t (xg_icF (u := 3) (v := 4) rfl xnm0 xnm0 (by decide)) ?_
              refine xg_t (xg_iload (va := (0, kr)) rfl rfl) ?_
              refine xg_t (xg_const) ?_
              refine xg_t (xg_icF (u := kr) (v := 4) rfl xnm0 xnm0 (xj_geF (by omega) (by omega))) ?_
              refine xg_t (xg_aload (va := (2, 82)) rfl rfl) ?_
              refine xg_t (xg_const) ?_
              refine xg_t (xg_const) ?_
              refine xg_t (xg_iload (va := (0, kr)) rfl rfl) ?_
              refine xg_t (xg_imul (u := 4) (v := kr) (z := 4 * kr) xnm0 xnm0 (by omega)) ?_
              refine xg_t (xg_iadd (u := 1) (v := 4 * kr) (z := 1 + (4 * kr)) xnm0 xnm0 (by omega)) ?_
              refine xg_t (xg_iload (va := (0, 3)) rfl rfl) ?_
              refine xg_t (xg_iadd (u := 1 + (4 * kr)) (v := 3) (z := (1 + (4 * kr)) + 3) xnm0 xnm0 (by omega)) ?_
              refine xg_t (xg_aload (va := (2, 82)) rfl rfl) ?_
              refine xg_t (xg_getf (va := (2, 113)) (hF580.get (by decide) (hF563.get (by decide) (hF546.get (by decide) h82_533))) rfl) ?_
              refine xg_t (xg_iload (va := (0, 3)) rfl rfl) ?_
              refine xg_ialdB (n := 3) (B := 4294967295) (((h113_536.fr hF546 (by decide)).fr hF563 (by decide)).fr hF580 (by decide)) (hb537) xnm0 (by omega) (fun u589 hu590 he591 => ?_)
              have hl592 : fld w577 82 14 = fld w 82 14 := pk583.2.2.1
              have hl593 : fld w577 82 14 ≤ 2000 := by omega
              refine xg_cVv mX12_rulePuts (vs := [(0, (1 + (4 * kr)) + 3), (0, u589)]) (rest := []) (cn1 := 0) (sl1 := 0) rfl (mRulePuts (hI579) (by omega) (by omega) (by omega)) rfl (hF580.get (by decide) (hF563.get (by decide) (hF546.get (by decide) h82_533))) rfl rfl rfl rfl rfl rfl (fun w594 hq595 => ?_)
              obtain ⟨hI596, hF597, hx598⟩ := hq595
              have hx599 := hx598
              have pk600 : PK w w594 := PK.tr pk583 (PK.fr hF597 (by decide) (by decide) pk583.2.2.2.1)
              have ro601 : ∀ l, l < fld w 82 14 → l < 16 → rwv w594 112 (20 * l) = rwv w 112 (20 * l) := fun l hl h6 => ((hx599 _ (by omega)).2 (by omega)).trans (ro584 l hl h6)
              have hq602 := pk600
              unfold PK PS at hq602
              clear hq585
              have pj603 : PK w356 w594 := PK.tr pj586 (PK.fr hF597 (by decide) (by decide) pk583.2.2.2.1)
              have hq604 := pj603
              unfold PK PS at hq604
              clear hq587
              have ms605 : mu w594 < mu w := Nat.lt_of_le_of_lt (PK.fr hF597 (by decide) (by decide) pk583.2.2.2.1).2.1 ms588
              refine xg_t (xg_iinc (u := 3) (z := 4) (l1 := [(0, (2, 82)), (1, (0, kr)), (2, (0, mo))]) rfl rfl (by decide) rfl) ?_
              refine xg_t (xg_goto) ?_
              refine xg_t (xg_blk (b := [(55, 1, 2, 3, 0, 0), (56, 1, 3, 4, 0, 0), (57, 3, 6, 88, 3, 0), (60, 1, 2, 1, 0, 0), (61, 1, 3, 4, 0, 0), (62, 3, 6, 88, 3, 0), (65, 1, 0, 0, 0, 0), (66, 1, 3, 1, 0, 0), (67, 1, 3, 4, 0, 0), (68, 1, 2, 1, 0, 0), (69, 1, 16, 0, 0, 0), (70, 1, 11, 0, 0, 0), (71, 1, 2, 3, 0, 0), (72, 1, 11, 0, 0, 0), (73, 1, 0, 0, 0, 0), (74, 3, 1, 12, 46, 102), (77, 1, 2, 3, 0, 0), (78, 1, 10, 0, 0, 0), (79, 3, 13, 214, 96, 424), (82, 3, 9, 3, 1, 0), (85, 3, 8, 55, 0, 0)]) rfl) ?_
              refine xg_t (xg_iload (va := (0, 4)) rfl rfl) ?_
              refine xg_t (xg_const) ?_
              refine xg_t (xg_icT (u := 4) (v := 4) rfl xnm0 xnm0 (by decide)) ?_
              refine xg_t (xg_blk (b := [(88, 3, 9, 1, 1, 0), (91, 1, 0, 0, 0, 0), (92, 2, 4, 51, 0, 0), (94, 3, 13, 227, 96, 415), (97, 1, 15, 2, 0, 0), (98, 3, 8, 31, 0, 0)]) rfl) ?_
              refine xg_t (xg_iinc (u := kr) (z := kr + 1) (l1 := [(3, (0, 4)), (0, (2, 82)), (2, (0, mo))]) rfl rfl (by omega) rfl) ?_
              refine xg_t (xg_aload (va := (2, 82)) rfl rfl) ?_
              refine xg_t (xg_bip) ?_
              refine xg_cVi mX12_takes (vs := [(0, 51)]) (rest := []) (cn1 := 0) (sl1 := 0) rfl (mTakes (hI596) (by omega) pk600.2.2.2.1) rfl (hF597.get (by decide) (hF580.get (by decide) (hF563.get (by decide) (hF546.get (by decide) h82_533)))) rfl rfl rfl rfl rfl rfl (fun n610 w606 hq607 => ?_)
              obtain ⟨hn611, hI608, hF609⟩ := hq607
              clear hb504 hb506 hb508 hb510 hb512 hb514 hb516 hb518 hb520 hb522 hb526 hb528 hb530 hb532
              obtain ⟨hn612, hn613, hn614⟩ := hn611
              have pk615 : PK w w606 := PK.tr pk600 hn613
              have ro616 : ∀ l, l < fld w 82 14 → l < 16 → rwv w606 112 (20 * l) = rwv w 112 (20 * l) := fun l hl h6 => (rwv_fr hF609 (by decide)).trans (ro601 l hl h6)
              have hq617 := pk615
              unfold PK PS at hq617
              clear hq602
              have pj618 : PK w356 w606 := PK.tr pj603 hn613
              have hq619 := pj618
              unfold PK PS at hq619
              clear hq604
              have ms620 : mu w606 < mu w := Nat.lt_of_le_of_lt hn613.2.1 ms605
              have hu621 : n610 = 1 → mu w606 < mu w356 := fun h => Nat.lt_of_lt_of_le (hn614 h) pj603.2.1
              refine xg_t (xg_istore (l1 := [(1, (0, kr + 1)), (3, (0, 4)), (0, (2, 82))]) rfl rfl rfl) ?_
              refine xg_t (xg_goto) ?_
              refine xg_t (xg_drop (l1 := [(0, (2, 82)), (1, (0, kr + 1)), (2, (0, n610))]) (List.forall_mem_cons.mpr ⟨List.mem_cons_of_mem _ (List.mem_cons_of_mem _ (List.mem_cons_of_mem _ (List.mem_cons_self))), List.forall_mem_cons.mpr ⟨List.mem_cons_of_mem _ (List.mem_cons_self), List.forall_mem_cons.mpr ⟨List.mem_cons_self, fun _ h => absurd h List.not_mem_nil⟩⟩⟩)) ?_
              exact ih354 (kr + 1) n610 w606 (by omega) (by omega) (by omega) (hI608) (((((((hF358.tr (hF495.up (by decide))).tr (hF546.up (by decide))).tr (hF563.up (by decide))).tr (hF580.up (by decide))).tr (hF597.up (by decide))).tr (hF609.up (by decide)))) (⟨pk615, ro616, ms620, by omega, by omega, fun _ => by omega, fun h => by omega⟩)
      exact key353 _ 0 1 w338 (Nat.lt_succ_self _) (by omega) (by omega) (hI340) (((hF329.up (by decide)).tr (hF341.up (by decide)))) (⟨pk347, ro348, ms352, by omega, by omega, fun _ => by omega, fun h => by omega⟩)
end XME
