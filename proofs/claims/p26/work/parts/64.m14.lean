/-! the model: rules -/
def RD (w : List (List xE)) : Prop := fld w 82 14 ≤ 16 ∧ ∀ l, l < fld w 82 14 → rwv w 112 (20 * l) ≤ 4
theorem rules_ok {f g h r : Nat → Nat} {L : Nat} (hf : okA f) (h1 : ∀ i, 0 ≤ i → i < 320 → g (1020 + i) = r i) (h2 : ∀ j, j < 1020 + 0 ∨ 1020 + 320 ≤ j → g j = f j) (hl : L ≤ 16) (hR : ∀ l, l < L → r (20 * l) ≤ 4) (h3 : h 902 = L) (h4 : ∀ j, j ≠ 902 → h j = g j) : okA h := by
  have e : ∀ j, j < 1020 → j ≠ 902 → h j = f j := fun j hj hn => by rw [h4 j hn, h2 j (by omega)]
  have e0 := e 0 (by decide) (by decide)
  have e1 := e 1 (by decide) (by decide)
  have e2 := e 2 (by decide) (by decide)
  have e3 := e 3 (by decide) (by decide)
  have e4 := e 4 (by decide) (by decide)
  have e5 := e 5 (by decide) (by decide)
  have e6 := e 6 (by decide) (by decide)
  have e7 := e 7 (by decide) (by decide)
  have e8 := e 8 (by decide) (by decide)
  have e9 := e 9 (by decide) (by decide)
  have e10 := e 10 (by decide) (by decide)
  have e13 := e 13 (by decide) (by decide)
  have e15 := e 15 (by decide) (by decide)
  have e900 := e 900 (by decide) (by decide)
  have e901 := e 901 (by decide) (by decide)
  obtain ⟨b0, b1, b2, b3, b4, b5, b6, b7, b8, b9, b10, b11, b12, b13, b14, b15, b16⟩ := hf.lits
  refine hf.mk0 (fun j hj => by rw [h4 j (by omega), h2 j (by omega)]) (okB.of0 ⟨by omega, by omega, by omega, by omega, by omega, by omega, by omega, by omega, by omega, by omega, by omega, by omega, by omega, by omega, by omega, by omega, by omega⟩ ?_ ?_ ?_ ?_)
  · intro k i hk hi
    rw [e _ (by omega) (by omega)]
    exact hf.lay (by omega) hi
  · intro k hk
    rw [e _ (by omega) (by omega)]
    exact hf.lif (by omega)
  · intro p i hk hi
    rw [e _ (by omega) (by omega)]
    exact hf.pic (by omega) hi
  · intro l hk
    rw [h4 _ (by omega), h1 (20 * l) (by omega) (by omega)]
    exact hR l (by omega)
theorem RD.fr {S : List Nat} {w w' : List (List xE)} (h : RD w) (hf : xFr S w w') (h1 : 112 ∉ S) (h2 : fld w' 82 14 = fld w 82 14) : RD w' := by
  refine ⟨by rw [h2]; exact h.1, fun l hl => ?_⟩
  rw [rwv_fr hf h1]
  exact h.2 l (by rw [← h2]; exact hl)
section XME
variable {d : Nat} {w : List (List xE)} {bd : List (Nat × Nat)} {fc : List (Nat × Nat × Bool)} {rr : Nat × Nat}
theorem mTakes {wq : Nat} (hI : xMnv w) (hwq : wq ≤ 4294967295) (hps : PS w) : xPi (d + 5) mX12_takes [(2, 82), (0, wq)] w bd fc rr (fun n w' => (n ≤ 1 ∧ PK w w' ∧ (n = 1 → mu w' < mu w)) ∧ xMnv w' ∧ xFr [82] w w') := by
  refine xPi.of ?_
  show xTo (d + 5) mX12_takes (0, [], [(0, (2, 82)), (1, (0, wq))], [], (w, bd, fc, 0, 0, rr)) (fun φ => ∃ n w', xEnd 4 [(0, n)] (w', bd, fc, 0, 0, rr) φ ∧ (n ≤ 1 ∧ PK w w' ∧ (n = 1 → mu w' < mu w)) ∧ xMnv w' ∧ xFr [82] w w')
  obtain ⟨f82_1, f82_3, f82_5, f82_7, f82_9, f82_11, f82_13, f82_15, f82_17, f82_19, f82_21, f82_22, f82_23, f82_25, f82_27, f82_29, h82_31, hb2, hb4, hb6, hb8, hb10, hb12, hb14, hb16, hb18, hb20, hb24, hb26, hb28, hb30, hb32⟩ := (hI 82 (by decide) (by decide) : cp82 (wget w 82))
  have hf33 : fld w 82 4 = f82_5 := fld_of h82_31
  have hf34 : fld w 82 5 = f82_7 := fld_of h82_31
  have hf35 : fld w 82 7 = f82_11 := fld_of h82_31
  have hf36 : fld w 82 10 = f82_17 := fld_of h82_31
  have hf37 : fld w 82 14 = f82_19 := fld_of h82_31
  have hps_ : fld w 82 10 = 0 ∨ FA w ≠ 0 := hps
  refine xg_t (xg_blk (b := [(0, 1, 0, 0, 0, 0), (1, 3, 1, 12, 10, 180), (4, 3, 7, 23, 1, 0), (7, 1, 0, 0, 0, 0), (8, 3, 1, 12, 7, 151), (11, 1, 3, 3, 0, 0), (12, 3, 6, 23, 1, 0), (15, 1, 0, 0, 0, 0), (16, 3, 1, 12, 9, 165), (19, 1, 2, 1, 0, 0), (20, 3, 6, 25, 0, 0)]) rfl) ?_
  refine xg_t (xg_aload (va := (2, 82)) rfl rfl) ?_
  refine xg_t (xg_getf (va := (0, f82_17)) h82_31 rfl) ?_
  by_cases hc38 : f82_17 = 0
  · refine xg_t (xg_ifF (u := f82_17) rfl xnm0 (xj_neF hc38)) ?_
    refine xg_t (xg_aload (va := (2, 82)) rfl rfl) ?_
    refine xg_t (xg_getf (va := (0, f82_11)) h82_31 rfl) ?_
    refine xg_t (xg_const) ?_
    by_cases hc39 : f82_11 = 3
    · refine xg_t (xg_icF (u := f82_11) (v := 3) rfl xnm0 xnm0 (xj_neF hc39)) ?_
      refine xg_t (xg_aload (va := (2, 82)) rfl rfl) ?_
      refine xg_t (xg_getf (va := (0, f82_15)) h82_31 rfl) ?_
      refine xg_t (xg_iload (va := (0, wq)) rfl rfl) ?_
      by_cases hc40 : f82_15 = wq
      · refine xg_t (xg_icT (u := f82_15) (v := wq) rfl xnm0 xnm0 (xj_eqT hc40)) ?_
        refine xg_t (xg_blk (b := [(25, 1, 0, 0, 0, 0), (26, 3, 13, 110, 96, 190), (29, 1, 3, 1, 0, 0), (30, 1, 12, 0, 1, 0)]) rfl) ?_
        refine xg_t (xg_aload (va := (2, 82)) rfl rfl) ?_
        refine xg_cVv mX12_advance (vs := []) (rest := []) (cn1 := 0) (sl1 := 0) rfl (mAdvance (hI)) rfl h82_31 rfl rfl rfl rfl rfl rfl (fun w41 hq42 => ?_)
        obtain ⟨hI43, hF44, hx45⟩ := hq42
        obtain ⟨hv46, hv47, hv48, hv49⟩ := hx45
        have hf50 := FA_fr hF44 (by decide)
        refine xg_t (xg_const) ?_
        exact xg_e ⟨1, w41, ⟨rfl, rfl⟩, ⟨by omega, ⟨fun _ => by omega, by omega, by omega, (show fld w41 82 10 = 0 ∨ FA w41 ≠ 0 by omega)⟩, fun _ => by omega⟩, hI43, (hF44.up (by decide))⟩
      · refine xg_t (xg_icF (u := f82_15) (v := wq) rfl xnm0 xnm0 (xj_eqF hc40)) ?_
        refine xg_t (xg_blk (b := [(23, 1, 3, 0, 0, 0), (24, 1, 12, 0, 1, 0)]) rfl) ?_
        refine xg_t (xg_const) ?_
        exact xg_e ⟨0, w, ⟨rfl, rfl⟩, ⟨by omega, PK.rf hps, fun _ => by omega⟩, hI, xFr.rf⟩
    · refine xg_t (xg_icT (u := f82_11) (v := 3) rfl xnm0 xnm0 (xj_neT hc39)) ?_
      refine xg_t (xg_blk (b := [(23, 1, 3, 0, 0, 0), (24, 1, 12, 0, 1, 0)]) rfl) ?_
      refine xg_t (xg_const) ?_
      exact xg_e ⟨0, w, ⟨rfl, rfl⟩, ⟨by omega, PK.rf hps, fun _ => by omega⟩, hI, xFr.rf⟩
  · refine xg_t (xg_ifT (u := f82_17) rfl xnm0 (xj_neT hc38)) ?_
    refine xg_t (xg_blk (b := [(23, 1, 3, 0, 0, 0), (24, 1, 12, 0, 1, 0)]) rfl) ?_
    refine xg_t (xg_const) ?_
    exact xg_e ⟨0, w, ⟨rfl, rfl⟩, ⟨by omega, PK.rf hps, fun _ => by omega⟩, hI, xFr.rf⟩
theorem mMust {cq : Nat} (hI : xMnv w) (hcq : cq ≤ 4294967295) (hps : PS w) : xPq (d + 5) mX12_must [(2, 82), (0, cq)] w bd fc rr [] (fun w' => xMnv w' ∧ xFr [82, 83] w w' ∧ (PK w w')) := by
  refine xPq.of ?_
  show xTo (d + 5) mX12_must (0, [], [(0, (2, 82)), (1, (0, cq))], [], (w, bd, fc, 0, 0, rr)) (fun φ => ∃ w', xEnd 0 [] (w', bd, fc, 0, 0, rr) φ ∧ xMnv w' ∧ xFr [82, 83] w w' ∧ (PK w w'))
  obtain ⟨f82_1, f82_3, f82_5, f82_7, f82_9, f82_11, f82_13, f82_15, f82_17, f82_19, f82_21, f82_22, f82_23, f82_25, f82_27, f82_29, h82_31, hb2, hb4, hb6, hb8, hb10, hb12, hb14, hb16, hb18, hb20, hb24, hb26, hb28, hb30, hb32⟩ := (hI 82 (by decide) (by decide) : cp82 (wget w 82))
  have hf33 : fld w 82 4 = f82_5 := fld_of h82_31
  have hf34 : fld w 82 5 = f82_7 := fld_of h82_31
  have hf35 : fld w 82 7 = f82_11 := fld_of h82_31
  have hf36 : fld w 82 10 = f82_17 := fld_of h82_31
  have hf37 : fld w 82 14 = f82_19 := fld_of h82_31
  have hps_ : fld w 82 10 = 0 ∨ FA w ≠ 0 := hps
  refine xg_t (xg_blk (b := [(0, 1, 0, 0, 0, 0), (1, 3, 1, 12, 10, 180), (4, 3, 7, 30, 1, 0), (7, 1, 0, 0, 0, 0), (8, 3, 1, 12, 7, 151), (11, 1, 3, 2, 0, 0), (12, 3, 6, 30, 1, 0), (15, 1, 0, 0, 0, 0), (16, 3, 1, 12, 3, 174), (19, 1, 2, 1, 0, 0), (20, 3, 6, 30, 1, 0), (23, 1, 0, 0, 0, 0), (24, 3, 13, 110, 96, 190), (27, 3, 8, 34, 0, 0)]) rfl) ?_
  refine xg_t (xg_aload (va := (2, 82)) rfl rfl) ?_
  refine xg_t (xg_getf (va := (0, f82_17)) h82_31 rfl) ?_
  by_cases hc38 : f82_17 = 0
  · refine xg_t (xg_ifF (u := f82_17) rfl xnm0 (xj_neF hc38)) ?_
    refine xg_t (xg_aload (va := (2, 82)) rfl rfl) ?_
    refine xg_t (xg_getf (va := (0, f82_11)) h82_31 rfl) ?_
    refine xg_t (xg_const) ?_
    by_cases hc39 : f82_11 = 2
    · refine xg_t (xg_icF (u := f82_11) (v := 2) rfl xnm0 xnm0 (xj_neF hc39)) ?_
      refine xg_t (xg_aload (va := (2, 82)) rfl rfl) ?_
      refine xg_t (xg_getf (va := (0, f82_3)) h82_31 rfl) ?_
      refine xg_t (xg_iload (va := (0, cq)) rfl rfl) ?_
      by_cases hc40 : f82_3 = cq
      · refine xg_t (xg_icF (u := f82_3) (v := cq) rfl xnm0 xnm0 (xj_neF hc40)) ?_
        refine xg_t (xg_aload (va := (2, 82)) rfl rfl) ?_
        refine xg_cVv mX12_advance (vs := []) (rest := []) (cn1 := 0) (sl1 := 0) rfl (mAdvance (hI)) rfl h82_31 rfl rfl rfl rfl rfl rfl (fun w41 hq42 => ?_)
        obtain ⟨hI43, hF44, hx45⟩ := hq42
        obtain ⟨hv46, hv47, hv48, hv49⟩ := hx45
        have hf50 := FA_fr hF44 (by decide)
        refine xg_t (xg_goto) ?_
        refine xg_t (xg_blk (b := [(34, 1, 12, 0, 0, 0)]) rfl) ?_
        exact xg_e ⟨w41, ⟨rfl, rfl⟩, hI43, (hF44.up (by decide)), ⟨fun _ => by omega, by omega, by omega, (show fld w41 82 10 = 0 ∨ FA w41 ≠ 0 by omega)⟩⟩
      · refine xg_t (xg_icT (u := f82_3) (v := cq) rfl xnm0 xnm0 (xj_neT hc40)) ?_
        refine xg_t (xg_blk (b := [(30, 1, 0, 0, 0, 0), (31, 3, 13, 140, 96, 183)]) rfl) ?_
        refine xg_t (xg_aload (va := (2, 82)) rfl rfl) ?_
        refine xg_cVv mX12_ends (vs := []) (rest := []) (cn1 := 0) (sl1 := 0) rfl (mEnds (hI) (show fld w 82 10 = 0 ∨ FA w ≠ 0 by omega)) rfl h82_31 rfl rfl rfl rfl rfl rfl (fun w51 hq52 => ?_)
        obtain ⟨hI53, hF54, hx55⟩ := hq52
        obtain ⟨hv56, hv57, hv58, hv59⟩ := hx55
        refine xg_t (xg_blk (b := [(34, 1, 12, 0, 0, 0)]) rfl) ?_
        exact xg_e ⟨w51, ⟨rfl, rfl⟩, hI53, (hF54.up (by decide)), ⟨fun _ => by omega, by omega, by omega, (show fld w51 82 10 = 0 ∨ FA w51 ≠ 0 by omega)⟩⟩
    · refine xg_t (xg_icT (u := f82_11) (v := 2) rfl xnm0 xnm0 (xj_neT hc39)) ?_
      refine xg_t (xg_blk (b := [(30, 1, 0, 0, 0, 0), (31, 3, 13, 140, 96, 183)]) rfl) ?_
      refine xg_t (xg_aload (va := (2, 82)) rfl rfl) ?_
      refine xg_cVv mX12_ends (vs := []) (rest := []) (cn1 := 0) (sl1 := 0) rfl (mEnds (hI) (show fld w 82 10 = 0 ∨ FA w ≠ 0 by omega)) rfl h82_31 rfl rfl rfl rfl rfl rfl (fun w60 hq61 => ?_)
      obtain ⟨hI62, hF63, hx64⟩ := hq61
      obtain ⟨hv65, hv66, hv67, hv68⟩ := hx64
      refine xg_t (xg_blk (b := [(34, 1, 12, 0, 0, 0)]) rfl) ?_
      exact xg_e ⟨w60, ⟨rfl, rfl⟩, hI62, (hF63.up (by decide)), ⟨fun _ => by omega, by omega, by omega, (show fld w60 82 10 = 0 ∨ FA w60 ≠ 0 by omega)⟩⟩
  · refine xg_t (xg_ifT (u := f82_17) rfl xnm0 (xj_neT hc38)) ?_
    refine xg_t (xg_blk (b := [(30, 1, 0, 0, 0, 0), (31, 3, 13, 140, 96, 183)]) rfl) ?_
    refine xg_t (xg_aload (va := (2, 82)) rfl rfl) ?_
    refine xg_cVv mX12_ends (vs := []) (rest := []) (cn1 := 0) (sl1 := 0) rfl (mEnds (hI) (show fld w 82 10 = 0 ∨ FA w ≠ 0 by omega)) rfl h82_31 rfl rfl rfl rfl rfl rfl (fun w69 hq70 => ?_)
    obtain ⟨hI71, hF72, hx73⟩ := hq70
    obtain ⟨hv74, hv75, hv76, hv77⟩ := hx73
    refine xg_t (xg_blk (b := [(34, 1, 12, 0, 0, 0)]) rfl) ?_
    exact xg_e ⟨w69, ⟨rfl, rfl⟩, hI71, (hF72.up (by decide)), ⟨fun _ => by omega, by omega, by omega, (show fld w69 82 10 = 0 ∨ FA w69 ≠ 0 by omega)⟩⟩
theorem mNumberNow (hI : xMnv w) (hps : PS w) : xPi (d + 5) mX12_numberNow [(2, 82)] w bd fc rr (fun n w' => (n ≤ 4294967295 ∧ PK w w') ∧ xMnv w' ∧ xFr [82, 83] w w') := by
  refine xPi.of ?_
  show xTo (d + 5) mX12_numberNow (0, [], [(0, (2, 82))], [], (w, bd, fc, 0, 0, rr)) (fun φ => ∃ n w', xEnd 1 [(0, n)] (w', bd, fc, 0, 0, rr) φ ∧ (n ≤ 4294967295 ∧ PK w w') ∧ xMnv w' ∧ xFr [82, 83] w w')
  obtain ⟨f82_1, f82_3, f82_5, f82_7, f82_9, f82_11, f82_13, f82_15, f82_17, f82_19, f82_21, f82_22, f82_23, f82_25, f82_27, f82_29, h82_31, hb2, hb4, hb6, hb8, hb10, hb12, hb14, hb16, hb18, hb20, hb24, hb26, hb28, hb30, hb32⟩ := (hI 82 (by decide) (by decide) : cp82 (wget w 82))
  have hf33 : fld w 82 4 = f82_5 := fld_of h82_31
  have hf34 : fld w 82 5 = f82_7 := fld_of h82_31
  have hf35 : fld w 82 7 = f82_11 := fld_of h82_31
  have hf36 : fld w 82 10 = f82_17 := fld_of h82_31
  have hf37 : fld w 82 14 = f82_19 := fld_of h82_31
  have hps_ : fld w 82 10 = 0 ∨ FA w ≠ 0 := hps
  refine xg_t (xg_blk (b := [(0, 1, 0, 0, 0, 0), (1, 3, 1, 12, 8, 171), (4, 1, 15, 1, 0, 0), (5, 1, 0, 0, 0, 0), (6, 3, 1, 12, 10, 180), (9, 3, 7, 27, 1, 0), (12, 1, 0, 0, 0, 0), (13, 3, 1, 12, 7, 151), (16, 1, 3, 1, 0, 0), (17, 3, 6, 27, 1, 0), (20, 1, 0, 0, 0, 0), (21, 3, 13, 110, 96, 190), (24, 3, 8, 31, 0, 0)]) rfl) ?_
  refine xg_t (xg_aload (va := (2, 82)) rfl rfl) ?_
  refine xg_t (xg_getf (va := (0, f82_13)) h82_31 rfl) ?_
  refine xg_t (xg_istore (l1 := [(0, (2, 82))]) rfl rfl rfl) ?_
  refine xg_t (xg_aload (va := (2, 82)) rfl rfl) ?_
  refine xg_t (xg_getf (va := (0, f82_17)) h82_31 rfl) ?_
  by_cases hc38 : f82_17 = 0
  · refine xg_t (xg_ifF (u := f82_17) rfl xnm0 (xj_neF hc38)) ?_
    refine xg_t (xg_aload (va := (2, 82)) rfl rfl) ?_
    refine xg_t (xg_getf (va := (0, f82_11)) h82_31 rfl) ?_
    refine xg_t (xg_const) ?_
    by_cases hc39 : f82_11 = 1
    · refine xg_t (xg_icF (u := f82_11) (v := 1) rfl xnm0 xnm0 (xj_neF hc39)) ?_
      refine xg_t (xg_aload (va := (2, 82)) rfl rfl) ?_
      refine xg_cVv mX12_advance (vs := []) (rest := []) (cn1 := 0) (sl1 := 0) rfl (mAdvance (hI)) rfl h82_31 rfl rfl rfl rfl rfl rfl (fun w40 hq41 => ?_)
      obtain ⟨hI42, hF43, hx44⟩ := hq41
      obtain ⟨hv45, hv46, hv47, hv48⟩ := hx44
      have hf49 := FA_fr hF43 (by decide)
      refine xg_t (xg_goto) ?_
      refine xg_t (xg_blk (b := [(31, 1, 2, 1, 0, 0), (32, 1, 12, 0, 1, 0)]) rfl) ?_
      refine xg_t (xg_iload (va := (0, f82_13)) rfl rfl) ?_
      exact xg_e ⟨f82_13, w40, ⟨rfl, rfl⟩, ⟨by omega, ⟨fun _ => by omega, by omega, by omega, (show fld w40 82 10 = 0 ∨ FA w40 ≠ 0 by omega)⟩⟩, hI42, (hF43.up (by decide))⟩
    · refine xg_t (xg_icT (u := f82_11) (v := 1) rfl xnm0 xnm0 (xj_neT hc39)) ?_
      refine xg_t (xg_blk (b := [(27, 1, 0, 0, 0, 0), (28, 3, 13, 140, 96, 183)]) rfl) ?_
      refine xg_t (xg_aload (va := (2, 82)) rfl rfl) ?_
      refine xg_cVv mX12_ends (vs := []) (rest := []) (cn1 := 0) (sl1 := 0) rfl (mEnds (hI) (show fld w 82 10 = 0 ∨ FA w ≠ 0 by omega)) rfl h82_31 rfl rfl rfl rfl rfl rfl (fun w50 hq51 => ?_)
      obtain ⟨hI52, hF53, hx54⟩ := hq51
      obtain ⟨hv55, hv56, hv57, hv58⟩ := hx54
      refine xg_t (xg_blk (b := [(31, 1, 2, 1, 0, 0), (32, 1, 12, 0, 1, 0)]) rfl) ?_
      refine xg_t (xg_iload (va := (0, f82_13)) rfl rfl) ?_
      exact xg_e ⟨f82_13, w50, ⟨rfl, rfl⟩, ⟨by omega, ⟨fun _ => by omega, by omega, by omega, (show fld w50 82 10 = 0 ∨ FA w50 ≠ 0 by omega)⟩⟩, hI52, (hF53.up (by decide))⟩
  · refine xg_t (xg_ifT (u := f82_17) rfl xnm0 (xj_neT hc38)) ?_
    refine xg_t (xg_blk (b := [(27, 1, 0, 0, 0, 0), (28, 3, 13, 140, 96, 183)]) rfl) ?_
    refine xg_t (xg_aload (va := (2, 82)) rfl rfl) ?_
    refine xg_cVv mX12_ends (vs := []) (rest := []) (cn1 := 0) (sl1 := 0) rfl (mEnds (hI) (show fld w 82 10 = 0 ∨ FA w ≠ 0 by omega)) rfl h82_31 rfl rfl rfl rfl rfl rfl (fun w59 hq60 => ?_)
    obtain ⟨hI61, hF62, hx63⟩ := hq60
    obtain ⟨hv64, hv65, hv66, hv67⟩ := hx63
    refine xg_t (xg_blk (b := [(31, 1, 2, 1, 0, 0), (32, 1, 12, 0, 1, 0)]) rfl) ?_
    refine xg_t (xg_iload (va := (0, f82_13)) rfl rfl) ?_
    exact xg_e ⟨f82_13, w59, ⟨rfl, rfl⟩, ⟨by omega, ⟨fun _ => by omega, by omega, by omega, (show fld w59 82 10 = 0 ∨ FA w59 ≠ 0 by omega)⟩⟩, hI61, (hF62.up (by decide))⟩
theorem mATest (hI : xMnv w) (hps : PS w) : xPq (d + 6) mX12_aTest [(2, 82)] w bd fc rr [] (fun w' => xMnv w' ∧ xFr [82, 83, 113] w w' ∧ (PK w w')) := by
  refine xPq.of ?_
  show xTo (d + 6) mX12_aTest (0, [], [(0, (2, 82))], [], (w, bd, fc, 0, 0, rr)) (fun φ => ∃ w', xEnd 0 [] (w', bd, fc, 0, 0, rr) φ ∧ xMnv w' ∧ xFr [82, 83, 113] w w' ∧ (PK w w'))
  obtain ⟨f82_1, f82_3, f82_5, f82_7, f82_9, f82_11, f82_13, f82_15, f82_17, f82_19, f82_21, f82_22, f82_23, f82_25, f82_27, f82_29, h82_31, hb2, hb4, hb6, hb8, hb10, hb12, hb14, hb16, hb18, hb20, hb24, hb26, hb28, hb30, hb32⟩ := (hI 82 (by decide) (by decide) : cp82 (wget w 82))
  have hf33 : fld w 82 4 = f82_5 := fld_of h82_31
  have hf34 : fld w 82 5 = f82_7 := fld_of h82_31
  have hf35 : fld w 82 7 = f82_11 := fld_of h82_31
  have hf36 : fld w 82 10 = f82_17 := fld_of h82_31
  have hf37 : fld w 82 14 = f82_19 := fld_of h82_31
  have hps_ : fld w 82 10 = 0 ∨ FA w ≠ 0 := hps
  obtain ⟨g113_38, h113_39, hb40⟩ := (hI 113 (by decide) (by decide) : cpI 4 80 4294967295 (wget w 113))
  have h113_39 : xRow w 113 4 80 g113_38 := h113_39
  refine xg_t (xg_blk (b := [(0, 1, 0, 0, 0, 0), (1, 3, 1, 12, 46, 102), (4, 1, 3, 0, 0, 0), (5, 1, 0, 0, 0, 0), (6, 2, 4, 52, 0, 0), (8, 3, 13, 227, 96, 415), (11, 3, 7, 18, 0, 0), (14, 1, 3, 1, 0, 0), (15, 3, 8, 19, 0, 0)]) rfl) ?_
  refine xg_t (xg_aload (va := (2, 82)) rfl rfl) ?_
  refine xg_t (xg_getf (va := (2, 113)) h82_31 rfl) ?_
  refine xg_t (xg_const) ?_
  refine xg_t (xg_aload (va := (2, 82)) rfl rfl) ?_
  refine xg_t (xg_bip) ?_
  refine xg_cVi mX12_takes (vs := [(0, 52)]) (rest := [(0, 0), (2, 113)]) (cn1 := 0) (sl1 := 0) rfl (mTakes (hI) (by omega) (show fld w 82 10 = 0 ∨ FA w ≠ 0 by omega)) rfl h82_31 rfl rfl rfl rfl rfl rfl (fun n45 w41 hq42 => ?_)
  obtain ⟨hn46, hI43, hF44⟩ := hq42
  obtain ⟨hn47, hn48, hn49⟩ := hn46
  have hq50 := hn48
  unfold PK PS at hq50
  by_cases hc51 : n45 = 0
  · refine xg_t (xg_ifT (u := n45) rfl xnm0 (xj_eqT hc51)) ?_
    refine xg_t (xg_blk (b := [(18, 1, 3, 0, 0, 0)]) rfl) ?_
    refine xg_t (xg_const) ?_
    refine xg_t (xg_blk (b := [(19, 1, 17, 0, 0, 0), (20, 1, 0, 0, 0, 0), (21, 3, 1, 12, 46, 102), (24, 1, 3, 1, 0, 0), (25, 1, 0, 0, 0, 0), (26, 3, 1, 12, 9, 165), (29, 1, 17, 0, 0, 0), (30, 1, 0, 0, 0, 0), (31, 3, 1, 12, 46, 102), (34, 1, 3, 2, 0, 0), (35, 2, 4, 61, 0, 0), (37, 1, 17, 0, 0, 0), (38, 1, 0, 0, 0, 0), (39, 3, 1, 12, 46, 102), (42, 1, 3, 3, 0, 0), (43, 1, 3, 1, 0, 0), (44, 1, 17, 0, 0, 0), (45, 1, 0, 0, 0, 0), (46, 3, 1, 12, 10, 180), (49, 3, 7, 74, 1, 0), (52, 1, 0, 0, 0, 0), (53, 3, 1, 12, 7, 151), (56, 1, 3, 3, 0, 0), (57, 3, 6, 74, 1, 0), (60, 1, 0, 0, 0, 0), (61, 3, 1, 12, 9, 165), (64, 2, 4, 20, 0, 0), (66, 2, 4, 30, 0, 0), (68, 3, 13, 161, 98, 105), (71, 3, 7, 79, 1, 0)]) rfl) ?_
    refine xg_iastK (n := 0) (u := 0) (h113_39.fr hF44 (by decide)) xnm0 xnm0 rfl (by omega) (fun w52 hr53 hb54 => ?_)
    have hf55 := FA_fr (xFr.of (S := [113]) hb54 (by decide)) (by decide)
    have hf56 := mu_fr (xFr.of (S := [113]) hb54 (by decide)) (by decide)
    have hf57 := fld_fr (c := 82) (j := 7) (xFr.of (S := [113]) hb54 (by decide)) (by decide)
    have hf58 := fld_fr (c := 82) (j := 10) (xFr.of (S := [113]) hb54 (by decide)) (by decide)
    have hf59 := fld_fr (c := 82) (j := 14) (xFr.of (S := [113]) hb54 (by decide)) (by decide)
    refine xg_t (xg_aload (va := (2, 82)) rfl rfl) ?_
    obtain ⟨f82_60, f82_62, f82_64, f82_66, f82_68, f82_70, f82_72, f82_74, f82_76, f82_78, f82_80, f82_81, f82_82, f82_84, f82_86, f82_88, h82_90, hb61, hb63, hb65, hb67, hb69, hb71, hb73, hb75, hb77, hb79, hb83, hb85, hb87, hb89, hb91⟩ := (hI43 82 (by decide) (by decide) : cp82 (wget w41 82))
    refine xg_t (xg_getf (va := (2, 113)) (hb54.get (by decide) h82_90) rfl) ?_
    refine xg_t (xg_const) ?_
    refine xg_t (xg_aload (va := (2, 82)) rfl rfl) ?_
    refine xg_t (xg_getf (va := (0, f82_74)) (hb54.get (by decide) h82_90) rfl) ?_
    refine xg_iastK (n := 1) (u := f82_74) hr53 xnm0 xnm0 rfl (by omega) (fun w92 hr93 hb94 => ?_)
    have hf95 := FA_fr (xFr.of (S := [113]) hb94 (by decide)) (by decide)
    have hf96 := mu_fr (xFr.of (S := [113]) hb94 (by decide)) (by decide)
    have hf97 := fld_fr (c := 82) (j := 7) (xFr.of (S := [113]) hb94 (by decide)) (by decide)
    have hf98 := fld_fr (c := 82) (j := 10) (xFr.of (S := [113]) hb94 (by decide)) (by decide)
    have hf99 := fld_fr (c := 82) (j := 14) (xFr.of (S := [113]) hb94 (by decide)) (by decide)
    refine xg_t (xg_aload (va := (2, 82)) rfl rfl) ?_
    refine xg_t (xg_getf (va := (2, 113)) (hb94.get (by decide) (hb54.get (by decide) h82_90)) rfl) ?_
    refine xg_t (xg_const) ?_
    refine xg_t (xg_bip) ?_
    refine xg_iastK (n := 2) (u := 61) hr93 xnm0 xnm0 rfl (by omega) (fun w100 hr101 hb102 => ?_)
    have hf103 := FA_fr (xFr.of (S := [113]) hb102 (by decide)) (by decide)
    have hf104 := mu_fr (xFr.of (S := [113]) hb102 (by decide)) (by decide)
    have hf105 := fld_fr (c := 82) (j := 7) (xFr.of (S := [113]) hb102 (by decide)) (by decide)
    have hf106 := fld_fr (c := 82) (j := 10) (xFr.of (S := [113]) hb102 (by decide)) (by decide)
    have hf107 := fld_fr (c := 82) (j := 14) (xFr.of (S := [113]) hb102 (by decide)) (by decide)
    refine xg_t (xg_aload (va := (2, 82)) rfl rfl) ?_
    refine xg_t (xg_getf (va := (2, 113)) (hb102.get (by decide) (hb94.get (by decide) (hb54.get (by decide) h82_90))) rfl) ?_
    refine xg_t (xg_const) ?_
    refine xg_t (xg_const) ?_
    refine xg_iastK (n := 3) (u := 1) hr101 xnm0 xnm0 rfl (by omega) (fun w108 hr109 hb110 => ?_)
    have hf111 := FA_fr (xFr.of (S := [113]) hb110 (by decide)) (by decide)
    have hf112 := mu_fr (xFr.of (S := [113]) hb110 (by decide)) (by decide)
    have hf113 := fld_fr (c := 82) (j := 7) (xFr.of (S := [113]) hb110 (by decide)) (by decide)
    have hf114 := fld_fr (c := 82) (j := 10) (xFr.of (S := [113]) hb110 (by decide)) (by decide)
    have hf115 := fld_fr (c := 82) (j := 14) (xFr.of (S := [113]) hb110 (by decide)) (by decide)
    refine xg_t (xg_aload (va := (2, 82)) rfl rfl) ?_
    refine xg_t (xg_getf (va := (0, f82_76)) (hb110.get (by decide) (hb102.get (by decide) (hb94.get (by decide) (hb54.get (by decide) h82_90)))) rfl) ?_
    by_cases hc116 : f82_76 = 0
    · refine xg_t (xg_ifF (u := f82_76) rfl xnm0 (xj_neF hc116)) ?_
      refine xg_t (xg_aload (va := (2, 82)) rfl rfl) ?_
      refine xg_t (xg_getf (va := (0, f82_70)) (hb110.get (by decide) (hb102.get (by decide) (hb94.get (by decide) (hb54.get (by decide) h82_90)))) rfl) ?_
      refine xg_t (xg_const) ?_
      by_cases hc117 : f82_70 = 3
      · refine xg_t (xg_icF (u := f82_70) (v := 3) rfl xnm0 xnm0 (xj_neF hc117)) ?_
        refine xg_t (xg_aload (va := (2, 82)) rfl rfl) ?_
        refine xg_t (xg_getf (va := (0, f82_74)) (hb110.get (by decide) (hb102.get (by decide) (hb94.get (by decide) (hb54.get (by decide) h82_90)))) rfl) ?_
        refine xg_t (xg_bip) ?_
        refine xg_t (xg_bip) ?_
        refine xg_t (xg_cSr mX12_isIn (vs := [(0, f82_74), (0, 20), (0, 30)]) (rest := []) (rs := [(0, if 20 ≤ f82_74 ∧ f82_74 ≤ 30 then 1 else 0)]) (cn1 := 0) (sl1 := 0) rfl (mIsIn (by omega) (by omega) (by omega)) rfl rfl rfl rfl rfl rfl rfl rfl) ?_
        by_cases hc118 : 20 ≤ f82_74 ∧ f82_74 ≤ 30
        · refine xg_t (xg_ifT (u := (if 20 ≤ f82_74 ∧ f82_74 ≤ 30 then 1 else 0)) rfl xnm0 (xj_neT (xite1 hc118))) ?_
          refine xg_t (xg_blk (b := [(79, 1, 0, 0, 0, 0), (80, 3, 13, 110, 96, 190), (83, 1, 0, 0, 0, 0), (84, 3, 1, 12, 46, 102), (87, 1, 3, 1, 0, 0), (88, 1, 10, 0, 0, 0), (89, 2, 4, 21, 0, 0), (91, 3, 6, 95, 4, 0), (94, 1, 12, 0, 0, 0)]) rfl) ?_
          refine xg_t (xg_aload (va := (2, 82)) rfl rfl) ?_
          refine xg_cVv mX12_advance (vs := []) (rest := []) (cn1 := 0) (sl1 := 0) rfl (mAdvance (xMnv.up (S := [113]) hI43 ((((xFr.of (S := [113]) hb54 (by decide)).tr (xFr.of (S := [113]) hb94 (by decide))).tr (xFr.of (S := [113]) hb102 (by decide))).tr (xFr.of (S := [113]) hb110 (by decide))) (List.forall_mem_cons.mpr ⟨(show cpI 4 80 4294967295 (wget w108 113) from ⟨_, hr109, xrb (by omega) (xrb (by omega) (xrb (by omega) (xrb (by omega) (hb40))))⟩), fun _ h => absurd h List.not_mem_nil⟩))) rfl (hb110.get (by decide) (hb102.get (by decide) (hb94.get (by decide) (hb54.get (by decide) h82_90)))) rfl rfl rfl rfl rfl rfl (fun w119 hq120 => ?_)
          obtain ⟨hI121, hF122, hx123⟩ := hq120
          obtain ⟨hv124, hv125, hv126, hv127⟩ := hx123
          have hf128 := FA_fr hF122 (by decide)
          refine xg_t (xg_aload (va := (2, 82)) rfl rfl) ?_
          obtain ⟨f82_129, f82_131, f82_133, f82_135, f82_137, f82_139, f82_141, f82_143, f82_145, f82_147, f82_149, f82_150, f82_151, f82_153, f82_155, f82_157, h82_159, hb130, hb132, hb134, hb136, hb138, hb140, hb142, hb144, hb146, hb148, hb152, hb154, hb156, hb158, hb160⟩ := (hI121 82 (by decide) (by decide) : cp82 (wget w119 82))
          refine xg_t (xg_getf (va := (2, 113)) h82_159 rfl) ?_
          refine xg_t (xg_const) ?_
          refine xg_ialdB (n := 1) (B := 4294967295) (hr109.fr hF122 (by decide)) (xrb (by omega) (xrb (by omega) (xrb (by omega) (xrb (by omega) (hb40))))) xnm0 (by omega) (fun u161 hu162 he163 => ?_)
          refine xg_t (xg_bip) ?_
          by_cases hc164 : xbs 21 < xbs u161
          · have hc164u := hc164
            unfold xbs at hc164u
            have hn165 : u161 ≤ 2147483647 := by omega
            refine xg_t (xg_icT (u := u161) (v := 21) rfl xnm0 xnm0 (xjs_gtT hc164)) ?_
            refine xg_t (xg_blk (b := [(95, 1, 0, 0, 0, 0), (96, 3, 1, 12, 46, 102), (99, 1, 3, 2, 0, 0), (100, 1, 0, 0, 0, 0), (101, 3, 1, 12, 3, 174), (104, 1, 17, 0, 0, 0), (105, 1, 0, 0, 0, 0), (106, 3, 1, 12, 7, 151), (109, 1, 3, 2, 0, 0), (110, 3, 6, 131, 1, 0), (113, 1, 0, 0, 0, 0), (114, 3, 1, 12, 3, 174), (117, 2, 4, 58, 0, 0), (119, 3, 6, 131, 0, 0), (122, 1, 0, 0, 0, 0), (123, 3, 1, 12, 3, 174), (126, 2, 4, 59, 0, 0), (128, 3, 6, 136, 1, 0)]) rfl) ?_
            refine xg_t (xg_aload (va := (2, 82)) rfl rfl) ?_
            refine xg_t (xg_getf (va := (2, 113)) h82_159 rfl) ?_
            refine xg_t (xg_const) ?_
            refine xg_t (xg_aload (va := (2, 82)) rfl rfl) ?_
            refine xg_t (xg_getf (va := (0, f82_131)) h82_159 rfl) ?_
            refine xg_iastK (n := 2) (u := f82_131) (hr109.fr hF122 (by decide)) xnm0 xnm0 rfl (by omega) (fun w166 hr167 hb168 => ?_)
            have hf169 := FA_fr (xFr.of (S := [113]) hb168 (by decide)) (by decide)
            have hf170 := mu_fr (xFr.of (S := [113]) hb168 (by decide)) (by decide)
            have hf171 := fld_fr (c := 82) (j := 7) (xFr.of (S := [113]) hb168 (by decide)) (by decide)
            have hf172 := fld_fr (c := 82) (j := 10) (xFr.of (S := [113]) hb168 (by decide)) (by decide)
            have hf173 := fld_fr (c := 82) (j := 14) (xFr.of (S := [113]) hb168 (by decide)) (by decide)
            refine xg_t (xg_aload (va := (2, 82)) rfl rfl) ?_
            refine xg_t (xg_getf (va := (0, f82_139)) (hb168.get (by decide) h82_159) rfl) ?_
            refine xg_t (xg_const) ?_
            by_cases hc174 : f82_139 = 2
            · refine xg_t (xg_icF (u := f82_139) (v := 2) rfl xnm0 xnm0 (xj_neF hc174)) ?_
              refine xg_t (xg_aload (va := (2, 82)) rfl rfl) ?_
              refine xg_t (xg_getf (va := (0, f82_131)) (hb168.get (by decide) h82_159) rfl) ?_
              refine xg_t (xg_bip) ?_
              by_cases hc175 : f82_131 = 58
              · refine xg_t (xg_icT (u := f82_131) (v := 58) rfl xnm0 xnm0 (xj_eqT hc175)) ?_
                refine xg_t (xg_blk (b := [(131, 1, 0, 0, 0, 0), (132, 3, 13, 140, 96, 183), (135, 1, 12, 0, 0, 0)]) rfl) ?_
                refine xg_t (xg_aload (va := (2, 82)) rfl rfl) ?_
                refine xg_cVv mX12_ends (vs := []) (rest := []) (cn1 := 0) (sl1 := 0) rfl (mEnds (xMnv.up (S := [113]) hI121 (xFr.of (S := [113]) hb168 (by decide)) (List.forall_mem_cons.mpr ⟨(show cpI 4 80 4294967295 (wget w166 113) from ⟨_, hr167, xrb (by omega) (xrb (by omega) (xrb (by omega) (xrb (by omega) (xrb (by omega) (hb40)))))⟩), fun _ h => absurd h List.not_mem_nil⟩)) (show fld w166 82 10 = 0 ∨ FA w166 ≠ 0 by omega)) rfl (hb168.get (by decide) h82_159) rfl rfl rfl rfl rfl rfl (fun w176 hq177 => ?_)
                obtain ⟨hI178, hF179, hx180⟩ := hq177
                obtain ⟨hv181, hv182, hv183, hv184⟩ := hx180
                exact xg_e ⟨w176, ⟨rfl, rfl⟩, hI178, (((((hF44.up (by decide)).tr ((((xFr.of (S := [82, 83, 113]) hb54 (by decide)).tr (xFr.of (S := [82, 83, 113]) hb94 (by decide))).tr (xFr.of (S := [82, 83, 113]) hb102 (by decide))).tr (xFr.of (S := [82, 83, 113]) hb110 (by decide)))).tr (hF122.up (by decide))).tr (xFr.of (S := [82, 83, 113]) hb168 (by decide))).tr (hF179.up (by decide))), ⟨fun _ => by omega, by omega, by omega, (show fld w176 82 10 = 0 ∨ FA w176 ≠ 0 by omega)⟩⟩
              · refine xg_t (xg_icF (u := f82_131) (v := 58) rfl xnm0 xnm0 (xj_eqF hc175)) ?_
                refine xg_t (xg_aload (va := (2, 82)) rfl rfl) ?_
                refine xg_t (xg_getf (va := (0, f82_131)) (hb168.get (by decide) h82_159) rfl) ?_
                refine xg_t (xg_bip) ?_
                by_cases hc185 : f82_131 = 59
                · refine xg_t (xg_icF (u := f82_131) (v := 59) rfl xnm0 xnm0 (xj_neF hc185)) ?_
                  refine xg_t (xg_blk (b := [(131, 1, 0, 0, 0, 0), (132, 3, 13, 140, 96, 183), (135, 1, 12, 0, 0, 0)]) rfl) ?_
                  refine xg_t (xg_aload (va := (2, 82)) rfl rfl) ?_
                  refine xg_cVv mX12_ends (vs := []) (rest := []) (cn1 := 0) (sl1 := 0) rfl (mEnds (xMnv.up (S := [113]) hI121 (xFr.of (S := [113]) hb168 (by decide)) (List.forall_mem_cons.mpr ⟨(show cpI 4 80 4294967295 (wget w166 113) from ⟨_, hr167, xrb (by omega) (xrb (by omega) (xrb (by omega) (xrb (by omega) (xrb (by omega) (hb40)))))⟩), fun _ h => absurd h List.not_mem_nil⟩)) (show fld w166 82 10 = 0 ∨ FA w166 ≠ 0 by omega)) rfl (hb168.get (by decide) h82_159) rfl rfl rfl rfl rfl rfl (fun w186 hq187 => ?_)
                  obtain ⟨hI188, hF189, hx190⟩ := hq187
                  obtain ⟨hv191, hv192, hv193, hv194⟩ := hx190
                  exact xg_e ⟨w186, ⟨rfl, rfl⟩, hI188, (((((hF44.up (by decide)).tr ((((xFr.of (S := [82, 83, 113]) hb54 (by decide)).tr (xFr.of (S := [82, 83, 113]) hb94 (by decide))).tr (xFr.of (S := [82, 83, 113]) hb102 (by decide))).tr (xFr.of (S := [82, 83, 113]) hb110 (by decide)))).tr (hF122.up (by decide))).tr (xFr.of (S := [82, 83, 113]) hb168 (by decide))).tr (hF189.up (by decide))), ⟨fun _ => by omega, by omega, by omega, (show fld w186 82 10 = 0 ∨ FA w186 ≠ 0 by omega)⟩⟩
                · refine xg_t (xg_icT (u := f82_131) (v := 59) rfl xnm0 xnm0 (xj_neT hc185)) ?_
                  refine xg_t (xg_blk (b := [(136, 1, 0, 0, 0, 0), (137, 3, 13, 110, 96, 190), (140, 1, 0, 0, 0, 0), (141, 3, 1, 12, 46, 102), (144, 1, 3, 3, 0, 0), (145, 1, 0, 0, 0, 0), (146, 3, 13, 198, 96, 418), (149, 1, 17, 0, 0, 0), (150, 1, 12, 0, 0, 0)]) rfl) ?_
                  refine xg_t (xg_aload (va := (2, 82)) rfl rfl) ?_
                  refine xg_cVv mX12_advance (vs := []) (rest := []) (cn1 := 0) (sl1 := 0) rfl (mAdvance (xMnv.up (S := [113]) hI121 (xFr.of (S := [113]) hb168 (by decide)) (List.forall_mem_cons.mpr ⟨(show cpI 4 80 4294967295 (wget w166 113) from ⟨_, hr167, xrb (by omega) (xrb (by omega) (xrb (by omega) (xrb (by omega) (xrb (by omega) (hb40)))))⟩), fun _ h => absurd h List.not_mem_nil⟩))) rfl (hb168.get (by decide) h82_159) rfl rfl rfl rfl rfl rfl (fun w195 hq196 => ?_)
                  obtain ⟨hI197, hF198, hx199⟩ := hq196
                  obtain ⟨hv200, hv201, hv202, hv203⟩ := hx199
                  have hf204 := FA_fr hF198 (by decide)
                  refine xg_t (xg_aload (va := (2, 82)) rfl rfl) ?_
                  obtain ⟨f82_205, f82_207, f82_209, f82_211, f82_213, f82_215, f82_217, f82_219, f82_221, f82_223, f82_225, f82_226, f82_227, f82_229, f82_231, f82_233, h82_235, hb206, hb208, hb210, hb212, hb214, hb216, hb218, hb220, hb222, hb224, hb228, hb230, hb232, hb234, hb236⟩ := (hI197 82 (by decide) (by decide) : cp82 (wget w195 82))
                  refine xg_t (xg_getf (va := (2, 113)) h82_235 rfl) ?_
                  refine xg_t (xg_const) ?_
                  refine xg_t (xg_aload (va := (2, 82)) rfl rfl) ?_
                  refine xg_cVi mX12_numberNow (vs := []) (rest := [(0, 3), (2, 113)]) (cn1 := 0) (sl1 := 0) rfl (mNumberNow (hI197) (show fld w195 82 10 = 0 ∨ FA w195 ≠ 0 by omega)) rfl h82_235 rfl rfl rfl rfl rfl rfl (fun n241 w237 hq238 => ?_)
                  obtain ⟨hn242, hI239, hF240⟩ := hq238
                  obtain ⟨hn243, hn244⟩ := hn242
                  have hq245 := hn244
                  unfold PK PS at hq245
                  refine xg_iastK (n := 3) (u := n241) ((hr167.fr hF198 (by decide)).fr hF240 (by decide)) xnm0 xnm0 rfl (by omega) (fun w246 hr247 hb248 => ?_)
                  have hf249 := FA_fr (xFr.of (S := [113]) hb248 (by decide)) (by decide)
                  have hf250 := mu_fr (xFr.of (S := [113]) hb248 (by decide)) (by decide)
                  have hf251 := fld_fr (c := 82) (j := 7) (xFr.of (S := [113]) hb248 (by decide)) (by decide)
                  have hf252 := fld_fr (c := 82) (j := 10) (xFr.of (S := [113]) hb248 (by decide)) (by decide)
                  have hf253 := fld_fr (c := 82) (j := 14) (xFr.of (S := [113]) hb248 (by decide)) (by decide)
                  exact xg_e ⟨w246, ⟨rfl, rfl⟩, xMnv.up (S := [113]) hI239 (xFr.of (S := [113]) hb248 (by decide)) (List.forall_mem_cons.mpr ⟨(show cpI 4 80 4294967295 (wget w246 113) from ⟨_, hr247, xrb (by omega) (xrb (by omega) (xrb (by omega) (xrb (by omega) (xrb (by omega) (xrb (by omega) (hb40))))))⟩), fun _ h => absurd h List.not_mem_nil⟩), (((((((hF44.up (by decide)).tr ((((xFr.of (S := [82, 83, 113]) hb54 (by decide)).tr (xFr.of (S := [82, 83, 113]) hb94 (by decide))).tr (xFr.of (S := [82, 83, 113]) hb102 (by decide))).tr (xFr.of (S := [82, 83, 113]) hb110 (by decide)))).tr (hF122.up (by decide))).tr (xFr.of (S := [82, 83, 113]) hb168 (by decide))).tr (hF198.up (by decide))).tr (hF240.up (by decide))).tr (xFr.of (S := [82, 83, 113]) hb248 (by decide))), ⟨fun _ => by omega, by omega, by omega, (show fld w246 82 10 = 0 ∨ FA w246 ≠ 0 by omega)⟩⟩
            · refine xg_t (xg_icT (u := f82_139) (v := 2) rfl xnm0 xnm0 (xj_neT hc174)) ?_
              refine xg_t (xg_blk (b := [(131, 1, 0, 0, 0, 0), (132, 3, 13, 140, 96, 183), (135, 1, 12, 0, 0, 0)]) rfl) ?_
              refine xg_t (xg_aload (va := (2, 82)) rfl rfl) ?_
              refine xg_cVv mX12_ends (vs := []) (rest := []) (cn1 := 0) (sl1 := 0) rfl (mEnds (xMnv.up (S := [113]) hI121 (xFr.of (S := [113]) hb168 (by decide)) (List.forall_mem_cons.mpr ⟨(show cpI 4 80 4294967295 (wget w166 113) from ⟨_, hr167, xrb (by omega) (xrb (by omega) (xrb (by omega) (xrb (by omega) (xrb (by omega) (hb40)))))⟩), fun _ h => absurd h List.not_mem_nil⟩)) (show fld w166 82 10 = 0 ∨ FA w166 ≠ 0 by omega)) rfl (hb168.get (by decide) h82_159) rfl rfl rfl rfl rfl rfl (fun w254 hq255 => ?_)
              obtain ⟨hI256, hF257, hx258⟩ := hq255
              obtain ⟨hv259, hv260, hv261, hv262⟩ := hx258
              exact xg_e ⟨w254, ⟨rfl, rfl⟩, hI256, (((((hF44.up (by decide)).tr ((((xFr.of (S := [82, 83, 113]) hb54 (by decide)).tr (xFr.of (S := [82, 83, 113]) hb94 (by decide))).tr (xFr.of (S := [82, 83, 113]) hb102 (by decide))).tr (xFr.of (S := [82, 83, 113]) hb110 (by decide)))).tr (hF122.up (by decide))).tr (xFr.of (S := [82, 83, 113]) hb168 (by decide))).tr (hF257.up (by decide))), ⟨fun _ => by omega, by omega, by omega, (show fld w254 82 10 = 0 ∨ FA w254 ≠ 0 by omega)⟩⟩
          · have hc164u := hc164
            unfold xbs at hc164u
            refine xg_t (xg_icF (u := u161) (v := 21) rfl xnm0 xnm0 (xjs_gtF hc164)) ?_
            exact xg_e ⟨w119, ⟨rfl, rfl⟩, hI121, (((hF44.up (by decide)).tr ((((xFr.of (S := [82, 83, 113]) hb54 (by decide)).tr (xFr.of (S := [82, 83, 113]) hb94 (by decide))).tr (xFr.of (S := [82, 83, 113]) hb102 (by decide))).tr (xFr.of (S := [82, 83, 113]) hb110 (by decide)))).tr (hF122.up (by decide))), ⟨fun _ => by omega, by omega, by omega, (show fld w119 82 10 = 0 ∨ FA w119 ≠ 0 by omega)⟩⟩
        · refine xg_t (xg_ifF (u := (if 20 ≤ f82_74 ∧ f82_74 ≤ 30 then 1 else 0)) rfl xnm0 (xj_neF (xite0 hc118))) ?_
          refine xg_t (xg_blk (b := [(74, 1, 0, 0, 0, 0), (75, 3, 13, 140, 96, 183), (78, 1, 12, 0, 0, 0)]) rfl) ?_
          refine xg_t (xg_aload (va := (2, 82)) rfl rfl) ?_
          refine xg_cVv mX12_ends (vs := []) (rest := []) (cn1 := 0) (sl1 := 0) rfl (mEnds (xMnv.up (S := [113]) hI43 ((((xFr.of (S := [113]) hb54 (by decide)).tr (xFr.of (S := [113]) hb94 (by decide))).tr (xFr.of (S := [113]) hb102 (by decide))).tr (xFr.of (S := [113]) hb110 (by decide))) (List.forall_mem_cons.mpr ⟨(show cpI 4 80 4294967295 (wget w108 113) from ⟨_, hr109, xrb (by omega) (xrb (by omega) (xrb (by omega) (xrb (by omega) (hb40))))⟩), fun _ h => absurd h List.not_mem_nil⟩)) (show fld w108 82 10 = 0 ∨ FA w108 ≠ 0 by omega)) rfl (hb110.get (by decide) (hb102.get (by decide) (hb94.get (by decide) (hb54.get (by decide) h82_90)))) rfl rfl rfl rfl rfl rfl (fun w263 hq264 => ?_)
          obtain ⟨hI265, hF266, hx267⟩ := hq264
          obtain ⟨hv268, hv269, hv270, hv271⟩ := hx267
          exact xg_e ⟨w263, ⟨rfl, rfl⟩, hI265, (((hF44.up (by decide)).tr ((((xFr.of (S := [82, 83, 113]) hb54 (by decide)).tr (xFr.of (S := [82, 83, 113]) hb94 (by decide))).tr (xFr.of (S := [82, 83, 113]) hb102 (by decide))).tr (xFr.of (S := [82, 83, 113]) hb110 (by decide)))).tr (hF266.up (by decide))), ⟨fun _ => by omega, by omega, by omega, (show fld w263 82 10 = 0 ∨ FA w263 ≠ 0 by omega)⟩⟩
      · refine xg_t (xg_icT (u := f82_70) (v := 3) rfl xnm0 xnm0 (xj_neT hc117)) ?_
        refine xg_t (xg_blk (b := [(74, 1, 0, 0, 0, 0), (75, 3, 13, 140, 96, 183), (78, 1, 12, 0, 0, 0)]) rfl) ?_
        refine xg_t (xg_aload (va := (2, 82)) rfl rfl) ?_
        refine xg_cVv mX12_ends (vs := []) (rest := []) (cn1 := 0) (sl1 := 0) rfl (mEnds (xMnv.up (S := [113]) hI43 ((((xFr.of (S := [113]) hb54 (by decide)).tr (xFr.of (S := [113]) hb94 (by decide))).tr (xFr.of (S := [113]) hb102 (by decide))).tr (xFr.of (S := [113]) hb110 (by decide))) (List.forall_mem_cons.mpr ⟨(show cpI 4 80 4294967295 (wget w108 113) from ⟨_, hr109, xrb (by omega) (xrb (by omega) (xrb (by omega) (xrb (by omega) (hb40))))⟩), fun _ h => absurd h List.not_mem_nil⟩)) (show fld w108 82 10 = 0 ∨ FA w108 ≠ 0 by omega)) rfl (hb110.get (by decide) (hb102.get (by decide) (hb94.get (by decide) (hb54.get (by decide) h82_90)))) rfl rfl rfl rfl rfl rfl (fun w272 hq273 => ?_)
        obtain ⟨hI274, hF275, hx276⟩ := hq273
        obtain ⟨hv277, hv278, hv279, hv280⟩ := hx276
        exact xg_e ⟨w272, ⟨rfl, rfl⟩, hI274, (((hF44.up (by decide)).tr ((((xFr.of (S := [82, 83, 113]) hb54 (by decide)).tr (xFr.of (S := [82, 83, 113]) hb94 (by decide))).tr (xFr.of (S := [82, 83, 113]) hb102 (by decide))).tr (xFr.of (S := [82, 83, 113]) hb110 (by decide)))).tr (hF275.up (by decide))), ⟨fun _ => by omega, by omega, by omega, (show fld w272 82 10 = 0 ∨ FA w272 ≠ 0 by omega)⟩⟩
    · refine xg_t (xg_ifT (u := f82_76) rfl xnm0 (xj_neT hc116)) ?_
      refine xg_t (xg_blk (b := [(74, 1, 0, 0, 0, 0), (75, 3, 13, 140, 96, 183), (78, 1, 12, 0, 0, 0)]) rfl) ?_
      refine xg_t (xg_aload (va := (2, 82)) rfl rfl) ?_
      refine xg_cVv mX12_ends (vs := []) (rest := []) (cn1 := 0) (sl1 := 0) rfl (mEnds (xMnv.up (S := [113]) hI43 ((((xFr.of (S := [113]) hb54 (by decide)).tr (xFr.of (S := [113]) hb94 (by decide))).tr (xFr.of (S := [113]) hb102 (by decide))).tr (xFr.of (S := [113]) hb110 (by decide))) (List.forall_mem_cons.mpr ⟨(show cpI 4 80 4294967295 (wget w108 113) from ⟨_, hr109, xrb (by omega) (xrb (by omega) (xrb (by omega) (xrb (by omega) (hb40))))⟩), fun _ h => absurd h List.not_mem_nil⟩)) (show fld w108 82 10 = 0 ∨ FA w108 ≠ 0 by omega)) rfl (hb110.get (by decide) (hb102.get (by decide) (hb94.get (by decide) (hb54.get (by decide) h82_90)))) rfl rfl rfl rfl rfl rfl (fun w281 hq282 => ?_)
      obtain ⟨hI283, hF284, hx285⟩ := hq282
      obtain ⟨hv286, hv287, hv288, hv289⟩ := hx285
      exact xg_e ⟨w281, ⟨rfl, rfl⟩, hI283, (((hF44.up (by decide)).tr ((((xFr.of (S := [82, 83, 113]) hb54 (by decide)).tr (xFr.of (S := [82, 83, 113]) hb94 (by decide))).tr (xFr.of (S := [82, 83, 113]) hb102 (by decide))).tr (xFr.of (S := [82, 83, 113]) hb110 (by decide)))).tr (hF284.up (by decide))), ⟨fun _ => by omega, by omega, by omega, (show fld w281 82 10 = 0 ∨ FA w281 ≠ 0 by omega)⟩⟩
  · refine xg_t (xg_ifF (u := n45) rfl xnm0 (xj_eqF hc51)) ?_
    refine xg_t (xg_const) ?_
    refine xg_t (xg_goto) ?_
    refine xg_t (xg_blk (b := [(19, 1, 17, 0, 0, 0), (20, 1, 0, 0, 0, 0), (21, 3, 1, 12, 46, 102), (24, 1, 3, 1, 0, 0), (25, 1, 0, 0, 0, 0), (26, 3, 1, 12, 9, 165), (29, 1, 17, 0, 0, 0), (30, 1, 0, 0, 0, 0), (31, 3, 1, 12, 46, 102), (34, 1, 3, 2, 0, 0), (35, 2, 4, 61, 0, 0), (37, 1, 17, 0, 0, 0), (38, 1, 0, 0, 0, 0), (39, 3, 1, 12, 46, 102), (42, 1, 3, 3, 0, 0), (43, 1, 3, 1, 0, 0), (44, 1, 17, 0, 0, 0), (45, 1, 0, 0, 0, 0), (46, 3, 1, 12, 10, 180), (49, 3, 7, 74, 1, 0), (52, 1, 0, 0, 0, 0), (53, 3, 1, 12, 7, 151), (56, 1, 3, 3, 0, 0), (57, 3, 6, 74, 1, 0), (60, 1, 0, 0, 0, 0), (61, 3, 1, 12, 9, 165), (64, 2, 4, 20, 0, 0), (66, 2, 4, 30, 0, 0), (68, 3, 13, 161, 98, 105), (71, 3, 7, 79, 1, 0)]) rfl) ?_
    refine xg_iastK (n := 0) (u := 1) (h113_39.fr hF44 (by decide)) xnm0 xnm0 rfl (by omega) (fun w290 hr291 hb292 => ?_)
    have hf293 := FA_fr (xFr.of (S := [113]) hb292 (by decide)) (by decide)
    have hf294 := mu_fr (xFr.of (S := [113]) hb292 (by decide)) (by decide)
    have hf295 := fld_fr (c := 82) (j := 7) (xFr.of (S := [113]) hb292 (by decide)) (by decide)
    have hf296 := fld_fr (c := 82) (j := 10) (xFr.of (S := [113]) hb292 (by decide)) (by decide)
    have hf297 := fld_fr (c := 82) (j := 14) (xFr.of (S := [113]) hb292 (by decide)) (by decide)
    refine xg_t (xg_aload (va := (2, 82)) rfl rfl) ?_
    obtain ⟨f82_298, f82_300, f82_302, f82_304, f82_306, f82_308, f82_310, f82_312, f82_314, f82_316, f82_318, f82_319, f82_320, f82_322, f82_324, f82_326, h82_328, hb299, hb301, hb303, hb305, hb307, hb309, hb311, hb313, hb315, hb317, hb321, hb323, hb325, hb327, hb329⟩ := (hI43 82 (by decide) (by decide) : cp82 (wget w41 82))
    refine xg_t (xg_getf (va := (2, 113)) (hb292.get (by decide) h82_328) rfl) ?_
    refine xg_t (xg_const) ?_
    refine xg_t (xg_aload (va := (2, 82)) rfl rfl) ?_
    refine xg_t (xg_getf (va := (0, f82_312)) (hb292.get (by decide) h82_328) rfl) ?_
    refine xg_iastK (n := 1) (u := f82_312) hr291 xnm0 xnm0 rfl (by omega) (fun w330 hr331 hb332 => ?_)
    have hf333 := FA_fr (xFr.of (S := [113]) hb332 (by decide)) (by decide)
    have hf334 := mu_fr (xFr.of (S := [113]) hb332 (by decide)) (by decide)
    have hf335 := fld_fr (c := 82) (j := 7) (xFr.of (S := [113]) hb332 (by decide)) (by decide)
    have hf336 := fld_fr (c := 82) (j := 10) (xFr.of (S := [113]) hb332 (by decide)) (by decide)
    have hf337 := fld_fr (c := 82) (j := 14) (xFr.of (S := [113]) hb332 (by decide)) (by decide)
    refine xg_t (xg_aload (va := (2, 82)) rfl rfl) ?_
    refine xg_t (xg_getf (va := (2, 113)) (hb332.get (by decide) (hb292.get (by decide) h82_328)) rfl) ?_
    refine xg_t (xg_const) ?_
    refine xg_t (xg_bip) ?_
    refine xg_iastK (n := 2) (u := 61) hr331 xnm0 xnm0 rfl (by omega) (fun w338 hr339 hb340 => ?_)
    have hf341 := FA_fr (xFr.of (S := [113]) hb340 (by decide)) (by decide)
    have hf342 := mu_fr (xFr.of (S := [113]) hb340 (by decide)) (by decide)
    have hf343 := fld_fr (c := 82) (j := 7) (xFr.of (S := [113]) hb340 (by decide)) (by decide)
    have hf344 := fld_fr (c := 82) (j := 10) (xFr.of (S := [113]) hb340 (by decide)) (by decide)
    have hf345 := fld_fr (c := 82) (j := 14) (xFr.of (S := [113]) hb340 (by decide)) (by decide)
    refine xg_t (xg_aload (va := (2, 82)) rfl rfl) ?_
    refine xg_t (xg_getf (va := (2, 113)) (hb340.get (by decide) (hb332.get (by decide) (hb292.get (by decide) h82_328))) rfl) ?_
    refine xg_t (xg_const) ?_
    refine xg_t (xg_const) ?_
    refine xg_iastK (n := 3) (u := 1) hr339 xnm0 xnm0 rfl (by omega) (fun w346 hr347 hb348 => ?_)
    have hf349 := FA_fr (xFr.of (S := [113]) hb348 (by decide)) (by decide)
    have hf350 := mu_fr (xFr.of (S := [113]) hb348 (by decide)) (by decide)
    have hf351 := fld_fr (c := 82) (j := 7) (xFr.of (S := [113]) hb348 (by decide)) (by decide)
    have hf352 := fld_fr (c := 82) (j := 10) (xFr.of (S := [113]) hb348 (by decide)) (by decide)
    have hf353 := fld_fr (c := 82) (j := 14) (xFr.of (S := [113]) hb348 (by decide)) (by decide)
    refine xg_t (xg_aload (va := (2, 82)) rfl rfl) ?_
    refine xg_t (xg_getf (va := (0, f82_314)) (hb348.get (by decide) (hb340.get (by decide) (hb332.get (by decide) (hb292.get (by decide) h82_328)))) rfl) ?_
    by_cases hc354 : f82_314 = 0
    · refine xg_t (xg_ifF (u := f82_314) rfl xnm0 (xj_neF hc354)) ?_
      refine xg_t (xg_aload (va := (2, 82)) rfl rfl) ?_
      refine xg_t (xg_getf (va := (0, f82_308)) (hb348.get (by decide) (hb340.get (by decide) (hb332.get (by decide) (hb292.get (by decide) h82_328)))) rfl) ?_
      refine xg_t (xg_const) ?_
      by_cases hc355 : f82_308 = 3
      · refine xg_t (xg_icF (u := f82_308) (v := 3) rfl xnm0 xnm0 (xj_neF hc355)) ?_
        refine xg_t (xg_aload (va := (2, 82)) rfl rfl) ?_
        refine xg_t (xg_getf (va := (0, f82_312)) (hb348.get (by decide) (hb340.get (by decide) (hb332.get (by decide) (hb292.get (by decide) h82_328)))) rfl) ?_
        refine xg_t (xg_bip) ?_
        refine xg_t (xg_bip) ?_
        refine xg_t (xg_cSr mX12_isIn (vs := [(0, f82_312), (0, 20), (0, 30)]) (rest := []) (rs := [(0, if 20 ≤ f82_312 ∧ f82_312 ≤ 30 then 1 else 0)]) (cn1 := 0) (sl1 := 0) rfl (mIsIn (by omega) (by omega) (by omega)) rfl rfl rfl rfl rfl rfl rfl rfl) ?_
        by_cases hc356 : 20 ≤ f82_312 ∧ f82_312 ≤ 30
        · refine xg_t (xg_ifT (u := (if 20 ≤ f82_312 ∧ f82_312 ≤ 30 then 1 else 0)) rfl xnm0 (xj_neT (xite1 hc356))) ?_
          refine xg_t (xg_blk (b := [(79, 1, 0, 0, 0, 0), (80, 3, 13, 110, 96, 190), (83, 1, 0, 0, 0, 0), (84, 3, 1, 12, 46, 102), (87, 1, 3, 1, 0, 0), (88, 1, 10, 0, 0, 0), (89, 2, 4, 21, 0, 0), (91, 3, 6, 95, 4, 0), (94, 1, 12, 0, 0, 0)]) rfl) ?_
          refine xg_t (xg_aload (va := (2, 82)) rfl rfl) ?_
          refine xg_cVv mX12_advance (vs := []) (rest := []) (cn1 := 0) (sl1 := 0) rfl (mAdvance (xMnv.up (S := [113]) hI43 ((((xFr.of (S := [113]) hb292 (by decide)).tr (xFr.of (S := [113]) hb332 (by decide))).tr (xFr.of (S := [113]) hb340 (by decide))).tr (xFr.of (S := [113]) hb348 (by decide))) (List.forall_mem_cons.mpr ⟨(show cpI 4 80 4294967295 (wget w346 113) from ⟨_, hr347, xrb (by omega) (xrb (by omega) (xrb (by omega) (xrb (by omega) (hb40))))⟩), fun _ h => absurd h List.not_mem_nil⟩))) rfl (hb348.get (by decide) (hb340.get (by decide) (hb332.get (by decide) (hb292.get (by decide) h82_328)))) rfl rfl rfl rfl rfl rfl (fun w357 hq358 => ?_)
          obtain ⟨hI359, hF360, hx361⟩ := hq358
          obtain ⟨hv362, hv363, hv364, hv365⟩ := hx361
          have hf366 := FA_fr hF360 (by decide)
          refine xg_t (xg_aload (va := (2, 82)) rfl rfl) ?_
          obtain ⟨f82_367, f82_369, f82_371, f82_373, f82_375, f82_377, f82_379, f82_381, f82_383, f82_385, f82_387, f82_388, f82_389, f82_391, f82_393, f82_395, h82_397, hb368, hb370, hb372, hb374, hb376, hb378, hb380, hb382, hb384, hb386, hb390, hb392, hb394, hb396, hb398⟩ := (hI359 82 (by decide) (by decide) : cp82 (wget w357 82))
          refine xg_t (xg_getf (va := (2, 113)) h82_397 rfl) ?_
          refine xg_t (xg_const) ?_
          refine xg_ialdB (n := 1) (B := 4294967295) (hr347.fr hF360 (by decide)) (xrb (by omega) (xrb (by omega) (xrb (by omega) (xrb (by omega) (hb40))))) xnm0 (by omega) (fun u399 hu400 he401 => ?_)
          refine xg_t (xg_bip) ?_
          by_cases hc402 : xbs 21 < xbs u399
          · have hc402u := hc402
            unfold xbs at hc402u
            have hn403 : u399 ≤ 2147483647 := by omega
            refine xg_t (xg_icT (u := u399) (v := 21) rfl xnm0 xnm0 (xjs_gtT hc402)) ?_
            refine xg_t (xg_blk (b := [(95, 1, 0, 0, 0, 0), (96, 3, 1, 12, 46, 102), (99, 1, 3, 2, 0, 0), (100, 1, 0, 0, 0, 0), (101, 3, 1, 12, 3, 174), (104, 1, 17, 0, 0, 0), (105, 1, 0, 0, 0, 0), (106, 3, 1, 12, 7, 151), (109, 1, 3, 2, 0, 0), (110, 3, 6, 131, 1, 0), (113, 1, 0, 0, 0, 0), (114, 3, 1, 12, 3, 174), (117, 2, 4, 58, 0, 0), (119, 3, 6, 131, 0, 0), (122, 1, 0, 0, 0, 0), (123, 3, 1, 12, 3, 174), (126, 2, 4, 59, 0, 0), (128, 3, 6, 136, 1, 0)]) rfl) ?_
            refine xg_t (xg_aload (va := (2, 82)) rfl rfl) ?_
            refine xg_t (xg_getf (va := (2, 113)) h82_397 rfl) ?_
            refine xg_t (xg_const) ?_
            refine xg_t (xg_aload (va := (2, 82)) rfl rfl) ?_
            refine xg_t (xg_getf (va := (0, f82_369)) h82_397 rfl) ?_
            refine xg_iastK (n := 2) (u := f82_369) (hr347.fr hF360 (by decide)) xnm0 xnm0 rfl (by omega) (fun w404 hr405 hb406 => ?_)
            have hf407 := FA_fr (xFr.of (S := [113]) hb406 (by decide)) (by decide)
            have hf408 := mu_fr (xFr.of (S := [113]) hb406 (by decide)) (by decide)
            have hf409 := fld_fr (c := 82) (j := 7) (xFr.of (S := [113]) hb406 (by decide)) (by decide)
            have hf410 := fld_fr (c := 82) (j := 10) (xFr.of (S := [113]) hb406 (by decide)) (by decide)
            have hf411 := fld_fr (c := 82) (j := 14) (xFr.of (S := [113]) hb406 (by decide)) (by decide)
            refine xg_t (xg_aload (va := (2, 82)) rfl rfl) ?_
            refine xg_t (xg_getf (va := (0, f82_377)) (hb406.get (by decide) h82_397) rfl) ?_
            refine xg_t (xg_const) ?_
            by_cases hc412 : f82_377 = 2
            · refine xg_t (xg_icF (u := f82_377) (v := 2) rfl xnm0 xnm0 (xj_neF hc412)) ?_
              refine xg_t (xg_aload (va := (2, 82)) rfl rfl) ?_
              refine xg_t (xg_getf (va := (0, f82_369)) (hb406.get (by decide) h82_397) rfl) ?_
              refine xg_t (xg_bip) ?_
              by_cases hc413 : f82_369 = 58
              · refine xg_t (xg_icT (u := f82_369) (v := 58) rfl xnm0 xnm0 (xj_eqT hc413)) ?_
                refine xg_t (xg_blk (b := [(131, 1, 0, 0, 0, 0), (132, 3, 13, 140, 96, 183), (135, 1, 12, 0, 0, 0)]) rfl) ?_
                refine xg_t (xg_aload (va := (2, 82)) rfl rfl) ?_
                refine xg_cVv mX12_ends (vs := []) (rest := []) (cn1 := 0) (sl1 := 0) rfl (mEnds (xMnv.up (S := [113]) hI359 (xFr.of (S := [113]) hb406 (by decide)) (List.forall_mem_cons.mpr ⟨(show cpI 4 80 4294967295 (wget w404 113) from ⟨_, hr405, xrb (by omega) (xrb (by omega) (xrb (by omega) (xrb (by omega) (xrb (by omega) (hb40)))))⟩), fun _ h => absurd h List.not_mem_nil⟩)) (show fld w404 82 10 = 0 ∨ FA w404 ≠ 0 by omega)) rfl (hb406.get (by decide) h82_397) rfl rfl rfl rfl rfl rfl (fun w414 hq415 => ?_)
                obtain ⟨hI416, hF417, hx418⟩ := hq415
                obtain ⟨hv419, hv420, hv421, hv422⟩ := hx418
                exact xg_e ⟨w414, ⟨rfl, rfl⟩, hI416, (((((hF44.up (by decide)).tr ((((xFr.of (S := [82, 83, 113]) hb292 (by decide)).tr (xFr.of (S := [82, 83, 113]) hb332 (by decide))).tr (xFr.of (S := [82, 83, 113]) hb340 (by decide))).tr (xFr.of (S := [82, 83, 113]) hb348 (by decide)))).tr (hF360.up (by decide))).tr (xFr.of (S := [82, 83, 113]) hb406 (by decide))).tr (hF417.up (by decide))), ⟨fun _ => by omega, by omega, by omega, (show fld w414 82 10 = 0 ∨ FA w414 ≠ 0 by omega)⟩⟩
              · refine xg_t (xg_icF (u := f82_369) (v := 58) rfl xnm0 xnm0 (xj_eqF hc413)) ?_
                refine xg_t (xg_aload (va := (2, 82)) rfl rfl) ?_
                refine xg_t (xg_getf (va := (0, f82_369)) (hb406.get (by decide) h82_397) rfl) ?_
                refine xg_t (xg_bip) ?_
                by_cases hc423 : f82_369 = 59
                · refine xg_t (xg_icF (u := f82_369) (v := 59) rfl xnm0 xnm0 (xj_neF hc423)) ?_
                  refine xg_t (xg_blk (b := [(131, 1, 0, 0, 0, 0), (132, 3, 13, 140, 96, 183), (135, 1, 12, 0, 0, 0)]) rfl) ?_
                  refine xg_t (xg_aload (va := (2, 82)) rfl rfl) ?_
                  refine xg_cVv mX12_ends (vs := []) (rest := []) (cn1 := 0) (sl1 := 0) rfl (mEnds (xMnv.up (S := [113]) hI359 (xFr.of (S := [113]) hb406 (by decide)) (List.forall_mem_cons.mpr ⟨(show cpI 4 80 4294967295 (wget w404 113) from ⟨_, hr405, xrb (by omega) (xrb (by omega) (xrb (by omega) (xrb (by omega) (xrb (by omega) (hb40)))))⟩), fun _ h => absurd h List.not_mem_nil⟩)) (show fld w404 82 10 = 0 ∨ FA w404 ≠ 0 by omega)) rfl (hb406.get (by decide) h82_397) rfl rfl rfl rfl rfl rfl (fun w424 hq425 => ?_)
                  obtain ⟨hI426, hF427, hx428⟩ := hq425
                  obtain ⟨hv429, hv430, hv431, hv432⟩ := hx428
                  exact xg_e ⟨w424, ⟨rfl, rfl⟩, hI426, (((((hF44.up (by decide)).tr ((((xFr.of (S := [82, 83, 113]) hb292 (by decide)).tr (xFr.of (S := [82, 83, 113]) hb332 (by decide))).tr (xFr.of (S := [82, 83, 113]) hb340 (by decide))).tr (xFr.of (S := [82, 83, 113]) hb348 (by decide)))).tr (hF360.up (by decide))).tr (xFr.of (S := [82, 83, 113]) hb406 (by decide))).tr (hF427.up (by decide))), ⟨fun _ => by omega, by omega, by omega, (show fld w424 82 10 = 0 ∨ FA w424 ≠ 0 by omega)⟩⟩
                · refine xg_t (xg_icT (u := f82_369) (v := 59) rfl xnm0 xnm0 (xj_neT hc423)) ?_
                  refine xg_t (xg_blk (b := [(136, 1, 0, 0, 0, 0), (137, 3, 13, 110, 96, 190), (140, 1, 0, 0, 0, 0), (141, 3, 1, 12, 46, 102), (144, 1, 3, 3, 0, 0), (145, 1, 0, 0, 0, 0), (146, 3, 13, 198, 96, 418), (149, 1, 17, 0, 0, 0), (150, 1, 12, 0, 0, 0)]) rfl) ?_
                  refine xg_t (xg_aload (va := (2, 82)) rfl rfl) ?_
                  refine xg_cVv mX12_advance (vs := []) (rest := []) (cn1 := 0) (sl1 := 0) rfl (mAdvance (xMnv.up (S := [113]) hI359 (xFr.of (S := [113]) hb406 (by decide)) (List.forall_mem_cons.mpr ⟨(show cpI 4 80 4294967295 (wget w404 113) from ⟨_, hr405, xrb (by omega) (xrb (by omega) (xrb (by omega) (xrb (by omega) (xrb (by omega) (hb40)))))⟩), fun _ h => absurd h List.not_mem_nil⟩))) rfl (hb406.get (by decide) h82_397) rfl rfl rfl rfl rfl rfl (fun w433 hq434 => ?_)
                  obtain ⟨hI435, hF436, hx437⟩ := hq434
                  obtain ⟨hv438, hv439, hv440, hv441⟩ := hx437
                  have hf442 := FA_fr hF436 (by decide)
                  refine xg_t (xg_aload (va := (2, 82)) rfl rfl) ?_
                  obtain ⟨f82_443, f82_445, f82_447, f82_449, f82_451, f82_453, f82_455, f82_457, f82_459, f82_461, f82_463, f82_464, f82_465, f82_467, f82_469, f82_471, h82_473, hb444, hb446, hb448, hb450, hb452, hb454, hb456, hb458, hb460, hb462, hb466, hb468, hb470, hb472, hb474⟩ := (hI435 82 (by decide) (by decide) : cp82 (wget w433 82))
                  refine xg_t (xg_getf (va := (2, 113)) h82_473 rfl) ?_
                  refine xg_t (xg_const) ?_
                  refine xg_t (xg_aload (va := (2, 82)) rfl rfl) ?_
                  refine xg_cVi mX12_numberNow (vs := []) (rest := [(0, 3), (2, 113)]) (cn1 := 0) (sl1 := 0) rfl (mNumberNow (hI435) (show fld w433 82 10 = 0 ∨ FA w433 ≠ 0 by omega)) rfl h82_473 rfl rfl rfl rfl rfl rfl (fun n479 w475 hq476 => ?_)
                  obtain ⟨hn480, hI477, hF478⟩ := hq476
                  obtain ⟨hn481, hn482⟩ := hn480
                  have hq483 := hn482
                  unfold PK PS at hq483
                  refine xg_iastK (n := 3) (u := n479) ((hr405.fr hF436 (by decide)).fr hF478 (by decide)) xnm0 xnm0 rfl (by omega) (fun w484 hr485 hb486 => ?_)
                  have hf487 := FA_fr (xFr.of (S := [113]) hb486 (by decide)) (by decide)
                  have hf488 := mu_fr (xFr.of (S := [113]) hb486 (by decide)) (by decide)
                  have hf489 := fld_fr (c := 82) (j := 7) (xFr.of (S := [113]) hb486 (by decide)) (by decide)
                  have hf490 := fld_fr (c := 82) (j := 10) (xFr.of (S := [113]) hb486 (by decide)) (by decide)
                  have hf491 := fld_fr (c := 82) (j := 14) (xFr.of (S := [113]) hb486 (by decide)) (by decide)
                  exact xg_e ⟨w484, ⟨rfl, rfl⟩, xMnv.up (S := [113]) hI477 (xFr.of (S := [113]) hb486 (by decide)) (List.forall_mem_cons.mpr ⟨(show cpI 4 80 4294967295 (wget w484 113) from ⟨_, hr485, xrb (by omega) (xrb (by omega) (xrb (by omega) (xrb (by omega) (xrb (by omega) (xrb (by omega) (hb40))))))⟩), fun _ h => absurd h List.not_mem_nil⟩), (((((((hF44.up (by decide)).tr ((((xFr.of (S := [82, 83, 113]) hb292 (by decide)).tr (xFr.of (S := [82, 83, 113]) hb332 (by decide))).tr (xFr.of (S := [82, 83, 113]) hb340 (by decide))).tr (xFr.of (S := [82, 83, 113]) hb348 (by decide)))).tr (hF360.up (by decide))).tr (xFr.of (S := [82, 83, 113]) hb406 (by decide))).tr (hF436.up (by decide))).tr (hF478.up (by decide))).tr (xFr.of (S := [82, 83, 113]) hb486 (by decide))), ⟨fun _ => by omega, by omega, by omega, (show fld w484 82 10 = 0 ∨ FA w484 ≠ 0 by omega)⟩⟩
            · refine xg_t (xg_icT (u := f82_377) (v := 2) rfl xnm0 xnm0 (xj_neT hc412)) ?_
              refine xg_t (xg_blk (b := [(131, 1, 0, 0, 0, 0), (132, 3, 13, 140, 96, 183), (135, 1, 12, 0, 0, 0)]) rfl) ?_
              refine xg_t (xg_aload (va := (2, 82)) rfl rfl) ?_
              refine xg_cVv mX12_ends (vs := []) (rest := []) (cn1 := 0) (sl1 := 0) rfl (mEnds (xMnv.up (S := [113]) hI359 (xFr.of (S := [113]) hb406 (by decide)) (List.forall_mem_cons.mpr ⟨(show cpI 4 80 4294967295 (wget w404 113) from ⟨_, hr405, xrb (by omega) (xrb (by omega) (xrb (by omega) (xrb (by omega) (xrb (by omega) (hb40)))))⟩), fun _ h => absurd h List.not_mem_nil⟩)) (show fld w404 82 10 = 0 ∨ FA w404 ≠ 0 by omega)) rfl (hb406.get (by decide) h82_397) rfl rfl rfl rfl rfl rfl (fun w492 hq493 => ?_)
              obtain ⟨hI494, hF495, hx496⟩ := hq493
              obtain ⟨hv497, hv498, hv499, hv500⟩ := hx496
              exact xg_e ⟨w492, ⟨rfl, rfl⟩, hI494, (((((hF44.up (by decide)).tr ((((xFr.of (S := [82, 83, 113]) hb292 (by decide)).tr (xFr.of (S := [82, 83, 113]) hb332 (by decide))).tr (xFr.of (S := [82, 83, 113]) hb340 (by decide))).tr (xFr.of (S := [82, 83, 113]) hb348 (by decide)))).tr (hF360.up (by decide))).tr (xFr.of (S := [82, 83, 113]) hb406 (by decide))).tr (hF495.up (by decide))), ⟨fun _ => by omega, by omega, by omega, (show fld w492 82 10 = 0 ∨ FA w492 ≠ 0 by omega)⟩⟩
          · have hc402u := hc402
            unfold xbs at hc402u
            refine xg_t (xg_icF (u := u399) (v := 21) rfl xnm0 xnm0 (xjs_gtF hc402)) ?_
            exact xg_e ⟨w357, ⟨rfl, rfl⟩, hI359, (((hF44.up (by decide)).tr ((((xFr.of (S := [82, 83, 113]) hb292 (by decide)).tr (xFr.of (S := [82, 83, 113]) hb332 (by decide))).tr (xFr.of (S := [82, 83, 113]) hb340 (by decide))).tr (xFr.of (S := [82, 83, 113]) hb348 (by decide)))).tr (hF360.up (by decide))), ⟨fun _ => by omega, by omega, by omega, (show fld w357 82 10 = 0 ∨ FA w357 ≠ 0 by omega)⟩⟩
        · refine xg_t (xg_ifF (u := (if 20 ≤ f82_312 ∧ f82_312 ≤ 30 then 1 else 0)) rfl xnm0 (xj_neF (xite0 hc356))) ?_
          refine xg_t (xg_blk (b := [(74, 1, 0, 0, 0, 0), (75, 3, 13, 140, 96, 183), (78, 1, 12, 0, 0, 0)]) rfl) ?_
          refine xg_t (xg_aload (va := (2, 82)) rfl rfl) ?_
          refine xg_cVv mX12_ends (vs := []) (rest := []) (cn1 := 0) (sl1 := 0) rfl (mEnds (xMnv.up (S := [113]) hI43 ((((xFr.of (S := [113]) hb292 (by decide)).tr (xFr.of (S := [113]) hb332 (by decide))).tr (xFr.of (S := [113]) hb340 (by decide))).tr (xFr.of (S := [113]) hb348 (by decide))) (List.forall_mem_cons.mpr ⟨(show cpI 4 80 4294967295 (wget w346 113) from ⟨_, hr347, xrb (by omega) (xrb (by omega) (xrb (by omega) (xrb (by omega) (hb40))))⟩), fun _ h => absurd h List.not_mem_nil⟩)) (show fld w346 82 10 = 0 ∨ FA w346 ≠ 0 by omega)) rfl (hb348.get (by decide) (hb340.get (by decide) (hb332.get (by decide) (hb292.get (by decide) h82_328)))) rfl rfl rfl rfl rfl rfl (fun w501 hq502 => ?_)
          obtain ⟨hI503, hF504, hx505⟩ := hq502
          obtain ⟨hv506, hv507, hv508, hv509⟩ := hx505
          exact xg_e ⟨w501, ⟨rfl, rfl⟩, hI503, (((hF44.up (by decide)).tr ((((xFr.of (S := [82, 83, 113]) hb292 (by decide)).tr (xFr.of (S := [82, 83, 113]) hb332 (by decide))).tr (xFr.of (S := [82, 83, 113]) hb340 (by decide))).tr (xFr.of (S := [82, 83, 113]) hb348 (by decide)))).tr (hF504.up (by decide))), ⟨fun _ => by omega, by omega, by omega, (show fld w501 82 10 = 0 ∨ FA w501 ≠ 0 by omega)⟩⟩
      · refine xg_t (xg_icT (u := f82_308) (v := 3) rfl xnm0 xnm0 (xj_neT hc355)) ?_
        refine xg_t (xg_blk (b := [(74, 1, 0, 0, 0, 0), (75, 3, 13, 140, 96, 183), (78, 1, 12, 0, 0, 0)]) rfl) ?_
        refine xg_t (xg_aload (va := (2, 82)) rfl rfl) ?_
        refine xg_cVv mX12_ends (vs := []) (rest := []) (cn1 := 0) (sl1 := 0) rfl (mEnds (xMnv.up (S := [113]) hI43 ((((xFr.of (S := [113]) hb292 (by decide)).tr (xFr.of (S := [113]) hb332 (by decide))).tr (xFr.of (S := [113]) hb340 (by decide))).tr (xFr.of (S := [113]) hb348 (by decide))) (List.forall_mem_cons.mpr ⟨(show cpI 4 80 4294967295 (wget w346 113) from ⟨_, hr347, xrb (by omega) (xrb (by omega) (xrb (by omega) (xrb (by omega) (hb40))))⟩), fun _ h => absurd h List.not_mem_nil⟩)) (show fld w346 82 10 = 0 ∨ FA w346 ≠ 0 by omega)) rfl (hb348.get (by decide) (hb340.get (by decide) (hb332.get (by decide) (hb292.get (by decide) h82_328)))) rfl rfl rfl rfl rfl rfl (fun w510 hq511 => ?_)
        obtain ⟨hI512, hF513, hx514⟩ := hq511
        obtain ⟨hv515, hv516, hv517, hv518⟩ := hx514
        exact xg_e ⟨w510, ⟨rfl, rfl⟩, hI512, (((hF44.up (by decide)).tr ((((xFr.of (S := [82, 83, 113]) hb292 (by decide)).tr (xFr.of (S := [82, 83, 113]) hb332 (by decide))).tr (xFr.of (S := [82, 83, 113]) hb340 (by decide))).tr (xFr.of (S := [82, 83, 113]) hb348 (by decide)))).tr (hF513.up (by decide))), ⟨fun _ => by omega, by omega, by omega, (show fld w510 82 10 = 0 ∨ FA w510 ≠ 0 by omega)⟩⟩
    · refine xg_t (xg_ifT (u := f82_314) rfl xnm0 (xj_neT hc354)) ?_
      refine xg_t (xg_blk (b := [(74, 1, 0, 0, 0, 0), (75, 3, 13, 140, 96, 183), (78, 1, 12, 0, 0, 0)]) rfl) ?_
      refine xg_t (xg_aload (va := (2, 82)) rfl rfl) ?_
      refine xg_cVv mX12_ends (vs := []) (rest := []) (cn1 := 0) (sl1 := 0) rfl (mEnds (xMnv.up (S := [113]) hI43 ((((xFr.of (S := [113]) hb292 (by decide)).tr (xFr.of (S := [113]) hb332 (by decide))).tr (xFr.of (S := [113]) hb340 (by decide))).tr (xFr.of (S := [113]) hb348 (by decide))) (List.forall_mem_cons.mpr ⟨(show cpI 4 80 4294967295 (wget w346 113) from ⟨_, hr347, xrb (by omega) (xrb (by omega) (xrb (by omega) (xrb (by omega) (hb40))))⟩), fun _ h => absurd h List.not_mem_nil⟩)) (show fld w346 82 10 = 0 ∨ FA w346 ≠ 0 by omega)) rfl (hb348.get (by decide) (hb340.get (by decide) (hb332.get (by decide) (hb292.get (by decide) h82_328)))) rfl rfl rfl rfl rfl rfl (fun w519 hq520 => ?_)
      obtain ⟨hI521, hF522, hx523⟩ := hq520
      obtain ⟨hv524, hv525, hv526, hv527⟩ := hx523
      exact xg_e ⟨w519, ⟨rfl, rfl⟩, hI521, (((hF44.up (by decide)).tr ((((xFr.of (S := [82, 83, 113]) hb292 (by decide)).tr (xFr.of (S := [82, 83, 113]) hb332 (by decide))).tr (xFr.of (S := [82, 83, 113]) hb340 (by decide))).tr (xFr.of (S := [82, 83, 113]) hb348 (by decide)))).tr (hF522.up (by decide))), ⟨fun _ => by omega, by omega, by omega, (show fld w519 82 10 = 0 ∨ FA w519 ≠ 0 by omega)⟩⟩
theorem mRulePuts {kk va : Nat} (hI : xMnv w) (hkk : kk ≤ 19) (hva : va ≤ 4294967295) (hln : fld w 82 14 ≤ 2000) : xPq d mX12_rulePuts [(2, 82), (0, kk), (0, va)] w bd fc rr [] (fun w' => xMnv w' ∧ xFr [112] w w' ∧ (∀ j, j < 320 → ((fld w 82 14 < 16 ∧ j = 20 * fld w 82 14 + kk) → rwv w' 112 j = va) ∧ (¬ (j = 20 * fld w 82 14 + kk) → rwv w' 112 j = rwv w 112 j))) := by
  refine xPq.of ?_
  show xTo d mX12_rulePuts (0, [], [(0, (2, 82)), (1, (0, kk)), (2, (0, va))], [], (w, bd, fc, 0, 0, rr)) (fun φ => ∃ w', xEnd 0 [] (w', bd, fc, 0, 0, rr) φ ∧ xMnv w' ∧ xFr [112] w w' ∧ (∀ j, j < 320 → ((fld w 82 14 < 16 ∧ j = 20 * fld w 82 14 + kk) → rwv w' 112 j = va) ∧ (¬ (j = 20 * fld w 82 14 + kk) → rwv w' 112 j = rwv w 112 j)))
  obtain ⟨f82_1, f82_3, f82_5, f82_7, f82_9, f82_11, f82_13, f82_15, f82_17, f82_19, f82_21, f82_22, f82_23, f82_25, f82_27, f82_29, h82_31, hb2, hb4, hb6, hb8, hb10, hb12, hb14, hb16, hb18, hb20, hb24, hb26, hb28, hb30, hb32⟩ := (hI 82 (by decide) (by decide) : cp82 (wget w 82))
  obtain ⟨g112_33, h112_34, hb35⟩ := (hI 112 (by decide) (by decide) : cpI 320 79 4294967295 (wget w 112))
  have h112_34 : xRow w 112 320 79 g112_33 := h112_34
  have hf36 : fld w 82 14 = f82_19 := fld_of h82_31
  have hl37 : f82_19 ≤ 2000 := by omega
  refine xg_t (xg_blk (b := [(0, 1, 0, 0, 0, 0), (1, 3, 1, 12, 14, 212), (4, 2, 4, 16, 0, 0), (6, 3, 6, 24, 3, 0), (9, 1, 0, 0, 0, 0), (10, 3, 1, 12, 45, 99), (13, 2, 4, 20, 0, 0), (15, 1, 0, 0, 0, 0), (16, 3, 1, 12, 14, 212), (19, 1, 16, 0, 0, 0), (20, 1, 2, 1, 0, 0), (21, 1, 11, 0, 0, 0), (22, 1, 2, 2, 0, 0), (23, 1, 17, 0, 0, 0)]) rfl) ?_
  refine xg_t (xg_aload (va := (2, 82)) rfl rfl) ?_
  refine xg_t (xg_getf (va := (0, f82_19)) h82_31 rfl) ?_
  refine xg_t (xg_bip) ?_
  by_cases hc38 : f82_19 < 16
  · refine xg_t (xg_icF (u := f82_19) (v := 16) rfl xnm0 xnm0 (xj_geF hc38 (by omega))) ?_
    refine xg_t (xg_aload (va := (2, 82)) rfl rfl) ?_
    refine xg_t (xg_getf (va := (2, 112)) h82_31 rfl) ?_
    refine xg_t (xg_bip) ?_
    refine xg_t (xg_aload (va := (2, 82)) rfl rfl) ?_
    refine xg_t (xg_getf (va := (0, f82_19)) h82_31 rfl) ?_
    refine xg_t (xg_imul (u := 20) (v := f82_19) (z := 20 * f82_19) xnm0 xnm0 (by omega)) ?_
    refine xg_t (xg_iload (va := (0, kk)) rfl rfl) ?_
    refine xg_t (xg_iadd (u := 20 * f82_19) (v := kk) (z := (20 * f82_19) + kk) xnm0 xnm0 (by omega)) ?_
    refine xg_t (xg_iload (va := (0, va)) rfl rfl) ?_
    refine xg_iastK (n := (20 * f82_19) + kk) (u := va) h112_34 xnm0 xnm0 rfl (by omega) (fun w39 hr40 hb41 => ?_)
    refine xg_t (xg_blk (b := [(24, 1, 12, 0, 0, 0)]) rfl) ?_
    exact xg_e ⟨w39, ⟨rfl, rfl⟩, xMnv.up (S := [112]) hI (xFr.of (S := [112]) hb41 (by decide)) (List.forall_mem_cons.mpr ⟨(show cpI 320 79 4294967295 (wget w39 112) from ⟨_, hr40, xrb (by omega) (hb35)⟩), fun _ h => absurd h List.not_mem_nil⟩), (xFr.of (S := [112]) hb41 (by decide)), fun j hj => ⟨fun h => (rwv_of hr40 hj).trans (if_pos (show j = (20 * f82_19) + kk by omega)), fun h => (rwv_of hr40 hj).trans ((if_neg (show ¬ j = (20 * f82_19) + kk by omega)).trans (rwv_of h112_34 hj).symm)⟩⟩
  · refine xg_t (xg_icT (u := f82_19) (v := 16) rfl xnm0 xnm0 (xj_geT (by omega) (by omega))) ?_
    refine xg_t (xg_blk (b := [(24, 1, 12, 0, 0, 0)]) rfl) ?_
    exact xg_e ⟨w, ⟨rfl, rfl⟩, hI, xFr.rf, fun j hj => ⟨fun h => absurd h.1 (by omega), fun _ => rfl⟩⟩
set_option maxHeartbeats 60000000 in
theorem mARule (hI : xMnv w) (hps : PS w) (hln : fld w 82 14 ≤ 1000) (hmu : mu w ≤ 1001) : xPq (d + 7) mX12_aRule [(2, 82)] w bd fc rr [] (fun w' => xMnv w' ∧ xFr [82, 83, 112, 113] w w' ∧ ((FA w ≠ 0 → FA w' ≠ 0) ∧ PS w' ∧ ((fld w' 82 10 = 1 ∧ mu w' ≤ mu w ∧ fld w' 82 14 = fld w 82 14) ∨ (mu w' < mu w ∧ fld w' 82 14 = fld w 82 14 + 1)) ∧ (FA w' ≠ 0 ∨ (RD w → RD w')))) := by
  refine xPq.of ?_
  show xTo (d + 7) mX12_aRule (0, [], [(0, (2, 82))], [], (w, bd, fc, 0, 0, rr)) (fun φ => ∃ w', xEnd 0 [] (w', bd, fc, 0, 0, rr) φ ∧ xMnv w' ∧ xFr [82, 83, 112, 113] w w' ∧ ((FA w ≠ 0 → FA w' ≠ 0) ∧ PS w' ∧ ((fld w' 82 10 = 1 ∧ mu w' ≤ mu w ∧ fld w' 82 14 = fld w 82 14) ∨ (mu w' < mu w ∧ fld w' 82 14 = fld w 82 14 + 1)) ∧ (FA w' ≠ 0 ∨ (RD w → RD w'))))
  obtain ⟨f82_1, f82_3, f82_5, f82_7, f82_9, f82_11, f82_13, f82_15, f82_17, f82_19, f82_21, f82_22, f82_23, f82_25, f82_27, f82_29, h82_31, hb2, hb4, hb6, hb8, hb10, hb12, hb14, hb16, hb18, hb20, hb24, hb26, hb28, hb30, hb32⟩ := (hI 82 (by decide) (by decide) : cp82 (wget w 82))
  have hf33 : fld w 82 4 = f82_5 := fld_of h82_31
  have hf34 : fld w 82 5 = f82_7 := fld_of h82_31
  have hf35 : fld w 82 7 = f82_11 := fld_of h82_31
  have hf36 : fld w 82 10 = f82_17 := fld_of h82_31
  have hf37 : fld w 82 14 = f82_19 := fld_of h82_31
  have hps_ : fld w 82 10 = 0 ∨ FA w ≠ 0 := hps
  obtain ⟨g113_38, h113_39, hb40⟩ := (hI 113 (by decide) (by decide) : cpI 4 80 4294967295 (wget w 113))
  have h113_39 : xRow w 113 4 80 g113_38 := h113_39
  have hl41 : f82_19 ≤ 1000 := by omega
  refine xg_t (xg_blk (b := [(0, 1, 0, 0, 0, 0), (1, 3, 1, 12, 14, 212), (4, 2, 4, 16, 0, 0), (6, 3, 6, 18, 2, 0), (9, 1, 0, 0, 0, 0), (10, 1, 3, 3, 0, 0), (11, 1, 0, 0, 0, 0), (12, 3, 1, 12, 6, 148), (15, 3, 13, 115, 96, 186)]) rfl) ?_
  refine xg_t (xg_aload (va := (2, 82)) rfl rfl) ?_
  refine xg_t (xg_getf (va := (0, f82_19)) h82_31 rfl) ?_
  refine xg_t (xg_bip) ?_
  by_cases hc42 : f82_19 < 16
  · refine xg_t (xg_icT (u := f82_19) (v := 16) rfl xnm0 xnm0 (xj_ltT hc42 (by omega))) ?_
    refine xg_t (xg_blk (b := [(18, 1, 3, 0, 0, 0), (19, 1, 15, 1, 0, 0), (20, 1, 0, 0, 0, 0), (21, 2, 4, 50, 0, 0), (23, 3, 13, 227, 96, 415), (26, 3, 7, 107, 0, 0), (29, 1, 3, 1, 0, 0), (30, 1, 15, 2, 0, 0)]) rfl) ?_
    refine xg_t (xg_const) ?_
    refine xg_t (xg_istore (l1 := [(0, (2, 82))]) rfl rfl rfl) ?_
    refine xg_t (xg_aload (va := (2, 82)) rfl rfl) ?_
    refine xg_t (xg_bip) ?_
    refine xg_cVi mX12_takes (vs := [(0, 50)]) (rest := []) (cn1 := 0) (sl1 := 0) rfl (mTakes (hI) (by omega) (PK.rf hps).2.2.2) rfl h82_31 rfl rfl rfl rfl rfl rfl (fun n47 w43 hq44 => ?_)
    obtain ⟨hn48, hI45, hF46⟩ := hq44
    obtain ⟨hn49, hn50, hn51⟩ := hn48
    have pk52 : PK w w43 := PK.tr (PK.rf hps) hn50
    have ro53 : ∀ l, l < fld w 82 14 → l < 16 → rwv w43 112 (20 * l) = rwv w 112 (20 * l) := fun l hl h6 => (rwv_fr hF46 (by decide)).trans ((fun l _ _ => rfl) l hl h6)
    have hq54 := pk52
    unfold PK PS at hq54
    by_cases hc55 : n47 = 0
    · refine xg_t (xg_ifT (u := n47) rfl xnm0 (xj_eqT hc55)) ?_
      refine xg_t (xg_blk (b := [(107, 1, 0, 0, 0, 0), (108, 3, 1, 12, 10, 180), (111, 3, 7, 136, 1, 0), (114, 1, 0, 0, 0, 0), (115, 3, 1, 12, 7, 151), (118, 1, 3, 3, 0, 0), (119, 3, 6, 136, 1, 0), (122, 1, 0, 0, 0, 0), (123, 3, 1, 12, 9, 165), (126, 2, 4, 40, 0, 0), (128, 2, 4, 42, 0, 0), (130, 3, 13, 161, 98, 105), (133, 3, 7, 141, 1, 0)]) rfl) ?_
      refine xg_t (xg_aload (va := (2, 82)) rfl rfl) ?_
      obtain ⟨f82_56, f82_58, f82_60, f82_62, f82_64, f82_66, f82_68, f82_70, f82_72, f82_74, f82_76, f82_77, f82_78, f82_80, f82_82, f82_84, h82_86, hb57, hb59, hb61, hb63, hb65, hb67, hb69, hb71, hb73, hb75, hb79, hb81, hb83, hb85, hb87⟩ := (hI45 82 (by decide) (by decide) : cp82 (wget w43 82))
      refine xg_t (xg_getf (va := (0, f82_72)) h82_86 rfl) ?_
      by_cases hc88 : f82_72 = 0
      · refine xg_t (xg_ifF (u := f82_72) rfl xnm0 (xj_neF hc88)) ?_
        refine xg_t (xg_aload (va := (2, 82)) rfl rfl) ?_
        refine xg_t (xg_getf (va := (0, f82_66)) h82_86 rfl) ?_
        refine xg_t (xg_const) ?_
        by_cases hc89 : f82_66 = 3
        · refine xg_t (xg_icF (u := f82_66) (v := 3) rfl xnm0 xnm0 (xj_neF hc89)) ?_
          refine xg_t (xg_aload (va := (2, 82)) rfl rfl) ?_
          refine xg_t (xg_getf (va := (0, f82_70)) h82_86 rfl) ?_
          refine xg_t (xg_bip) ?_
          refine xg_t (xg_bip) ?_
          refine xg_t (xg_cSr mX12_isIn (vs := [(0, f82_70), (0, 40), (0, 42)]) (rest := []) (rs := [(0, if 40 ≤ f82_70 ∧ f82_70 ≤ 42 then 1 else 0)]) (cn1 := 0) (sl1 := 0) rfl (mIsIn (by omega) (by omega) (by omega)) rfl rfl rfl rfl rfl rfl rfl rfl) ?_
          by_cases hc90 : 40 ≤ f82_70 ∧ f82_70 ≤ 42
          · refine xg_t (xg_ifT (u := (if 40 ≤ f82_70 ∧ f82_70 ≤ 42 then 1 else 0)) rfl xnm0 (xj_neT (xite1 hc90))) ?_
            refine xg_t (xg_blk (b := [(141, 1, 0, 0, 0, 0), (142, 3, 1, 12, 9, 165), (145, 1, 15, 2, 0, 0), (146, 1, 0, 0, 0, 0), (147, 3, 13, 110, 96, 190), (150, 1, 2, 2, 0, 0), (151, 2, 4, 40, 0, 0), (153, 3, 6, 160, 1, 0), (156, 1, 3, 0, 0, 0), (157, 3, 8, 164, 0, 0)]) rfl) ?_
            refine xg_t (xg_aload (va := (2, 82)) rfl rfl) ?_
            refine xg_t (xg_getf (va := (0, f82_70)) h82_86 rfl) ?_
            refine xg_t (xg_istore (l1 := [(1, (0, 0)), (0, (2, 82))]) rfl rfl rfl) ?_
            refine xg_t (xg_aload (va := (2, 82)) rfl rfl) ?_
            have hf91 : fld w43 82 7 = f82_66 := fld_of h82_86
            refine xg_cVv mX12_advance (vs := []) (rest := []) (cn1 := 0) (sl1 := 0) rfl (mAdvance (hI45)) rfl h82_86 rfl rfl rfl rfl rfl rfl (fun w92 hq93 => ?_)
            obtain ⟨hI94, hF95, hx96⟩ := hq93
            obtain ⟨hv97, hv98, hv99, hv100⟩ := hx96
            have hf101 := FA_fr hF95 (by decide)
            have pk102 : PK w43 w92 := ⟨fun _ => by omega, hv97, hv100, (show fld w92 82 10 = 0 ∨ FA w92 ≠ 0 by omega)⟩
            have pk103 : PK w w92 := PK.tr pk52 pk102
            have ro104 : ∀ l, l < fld w 82 14 → l < 16 → rwv w92 112 (20 * l) = rwv w 112 (20 * l) := fun l hl h6 => (rwv_fr hF95 (by decide)).trans (ro53 l hl h6)
            have hq105 := pk103
            unfold PK PS at hq105
            have ms106 : mu w92 < mu w := Nat.lt_of_lt_of_le (hv98 (by omega)) pk52.2.1
            refine xg_t (xg_iload (va := (0, f82_70)) rfl rfl) ?_
            refine xg_t (xg_bip) ?_
            by_cases hc107 : f82_70 = 40
            · refine xg_t (xg_icF (u := f82_70) (v := 40) rfl xnm0 xnm0 (xj_neF hc107)) ?_
              refine xg_t (xg_const) ?_
              refine xg_t (xg_goto) ?_
              refine xg_t (xg_blk (b := [(164, 1, 15, 3, 0, 0), (165, 1, 0, 0, 0, 0), (166, 2, 4, 59, 0, 0), (168, 3, 13, 195, 96, 427), (171, 1, 0, 0, 0, 0), (172, 1, 3, 0, 0, 0), (173, 1, 2, 1, 0, 0), (174, 3, 13, 214, 96, 424), (177, 1, 0, 0, 0, 0), (178, 2, 4, 17, 0, 0), (180, 1, 2, 2, 0, 0), (181, 3, 13, 214, 96, 424), (184, 1, 0, 0, 0, 0), (185, 2, 4, 18, 0, 0), (187, 1, 2, 3, 0, 0), (188, 3, 13, 214, 96, 424), (191, 1, 0, 0, 0, 0), (192, 1, 19, 0, 0, 0), (193, 3, 1, 12, 14, 212), (196, 1, 3, 1, 0, 0), (197, 1, 11, 0, 0, 0), (198, 3, 14, 12, 14, 212), (201, 1, 12, 0, 0, 0)]) rfl) ?_
              refine xg_t (xg_istore (l1 := [(2, (0, f82_70)), (1, (0, 0)), (0, (2, 82))]) rfl rfl rfl) ?_
              refine xg_t (xg_aload (va := (2, 82)) rfl rfl) ?_
              refine xg_t (xg_bip) ?_
              obtain ⟨f82_108, f82_110, f82_112, f82_114, f82_116, f82_118, f82_120, f82_122, f82_124, f82_126, f82_128, f82_129, f82_130, f82_132, f82_134, f82_136, h82_138, hb109, hb111, hb113, hb115, hb117, hb119, hb121, hb123, hb125, hb127, hb131, hb133, hb135, hb137, hb139⟩ := (hI94 82 (by decide) (by decide) : cp82 (wget w92 82))
              refine xg_cVv mX12_must (vs := [(0, 59)]) (rest := []) (cn1 := 0) (sl1 := 0) rfl (mMust (hI94) (by omega) pk103.2.2.2) rfl h82_138 rfl rfl rfl rfl rfl rfl (fun w140 hq141 => ?_)
              obtain ⟨hI142, hF143, hx144⟩ := hq141
              have pk145 : PK w w140 := PK.tr pk103 hx144
              have ro146 : ∀ l, l < fld w 82 14 → l < 16 → rwv w140 112 (20 * l) = rwv w 112 (20 * l) := fun l hl h6 => (rwv_fr hF143 (by decide)).trans (ro104 l hl h6)
              have hq147 := pk145
              unfold PK PS at hq147
              have ms148 : mu w140 < mu w := Nat.lt_of_le_of_lt hx144.2.1 ms106
              refine xg_t (xg_aload (va := (2, 82)) rfl rfl) ?_
              refine xg_t (xg_const) ?_
              refine xg_t (xg_iload (va := (0, 0)) rfl rfl) ?_
              have hl149 : fld w140 82 14 ≤ 2000 := by omega
              obtain ⟨f82_150, f82_152, f82_154, f82_156, f82_158, f82_160, f82_162, f82_164, f82_166, f82_168, f82_170, f82_171, f82_172, f82_174, f82_176, f82_178, h82_180, hb151, hb153, hb155, hb157, hb159, hb161, hb163, hb165, hb167, hb169, hb173, hb175, hb177, hb179, hb181⟩ := (hI142 82 (by decide) (by decide) : cp82 (wget w140 82))
              refine xg_cVv mX12_rulePuts (vs := [(0, 0), (0, 0)]) (rest := []) (cn1 := 0) (sl1 := 0) rfl (mRulePuts (hI142) (by omega) (by omega) (by omega)) rfl h82_180 rfl rfl rfl rfl rfl rfl (fun w182 hq183 => ?_)
              obtain ⟨hI184, hF185, hx186⟩ := hq183
              have hx187 := hx186
              have pk188 : PK w w182 := PK.tr pk145 (PK.fr hF185 (by decide) (by decide) pk145.2.2.2)
              have ro189 : ∀ l, l < fld w 82 14 → l < 16 → rwv w182 112 (20 * l) = rwv w 112 (20 * l) := fun l hl h6 => ((hx187 _ (by omega)).2 (by omega)).trans (ro146 l hl h6)
              have hq190 := pk188
              unfold PK PS at hq190
              have ms191 : mu w182 < mu w := Nat.lt_of_le_of_lt (PK.fr hF185 (by decide) (by decide) pk145.2.2.2).2.1 ms148
              have rz192 : fld w 82 14 < 16 → rwv w182 112 (20 * fld w 82 14) = 0 := fun h6 => (hx187 _ (by omega)).1 ⟨by omega, by omega⟩
              refine xg_t (xg_aload (va := (2, 82)) rfl rfl) ?_
              refine xg_t (xg_bip) ?_
              refine xg_t (xg_iload (va := (0, f82_70)) rfl rfl) ?_
              have hl193 : fld w182 82 14 ≤ 2000 := by omega
              refine xg_cVv mX12_rulePuts (vs := [(0, 17), (0, f82_70)]) (rest := []) (cn1 := 0) (sl1 := 0) rfl (mRulePuts (hI184) (by omega) (by omega) (by omega)) rfl (hF185.get (by decide) h82_180) rfl rfl rfl rfl rfl rfl (fun w194 hq195 => ?_)
              obtain ⟨hI196, hF197, hx198⟩ := hq195
              have hx199 := hx198
              have pk200 : PK w w194 := PK.tr pk188 (PK.fr hF197 (by decide) (by decide) pk188.2.2.2)
              have ro201 : ∀ l, l < fld w 82 14 → l < 16 → rwv w194 112 (20 * l) = rwv w 112 (20 * l) := fun l hl h6 => ((hx199 _ (by omega)).2 (by omega)).trans (ro189 l hl h6)
              have hq202 := pk200
              unfold PK PS at hq202
              have ms203 : mu w194 < mu w := Nat.lt_of_le_of_lt (PK.fr hF197 (by decide) (by decide) pk188.2.2.2).2.1 ms191
              have rz204 : fld w 82 14 < 16 → rwv w194 112 (20 * fld w 82 14) = 0 := fun h6 => ((hx199 _ (by omega)).2 (by omega)).trans (rz192 h6)
              refine xg_t (xg_aload (va := (2, 82)) rfl rfl) ?_
              refine xg_t (xg_bip) ?_
              refine xg_t (xg_iload (va := (0, 0)) rfl rfl) ?_
              have hl205 : fld w194 82 14 ≤ 2000 := by omega
              refine xg_cVv mX12_rulePuts (vs := [(0, 18), (0, 0)]) (rest := []) (cn1 := 0) (sl1 := 0) rfl (mRulePuts (hI196) (by omega) (by omega) (by omega)) rfl (hF197.get (by decide) (hF185.get (by decide) h82_180)) rfl rfl rfl rfl rfl rfl (fun w206 hq207 => ?_)
              obtain ⟨hI208, hF209, hx210⟩ := hq207
              have hx211 := hx210
              have pk212 : PK w w206 := PK.tr pk200 (PK.fr hF209 (by decide) (by decide) pk200.2.2.2)
              have ro213 : ∀ l, l < fld w 82 14 → l < 16 → rwv w206 112 (20 * l) = rwv w 112 (20 * l) := fun l hl h6 => ((hx211 _ (by omega)).2 (by omega)).trans (ro201 l hl h6)
              have hq214 := pk212
              unfold PK PS at hq214
              have ms215 : mu w206 < mu w := Nat.lt_of_le_of_lt (PK.fr hF209 (by decide) (by decide) pk200.2.2.2).2.1 ms203
              have rz216 : fld w 82 14 < 16 → rwv w206 112 (20 * fld w 82 14) = 0 := fun h6 => ((hx211 _ (by omega)).2 (by omega)).trans (rz204 h6)
              have hf217 : fld w206 82 4 = f82_154 := fld_of (hF209.get (by decide) (hF197.get (by decide) (hF185.get (by decide) h82_180)))
              have hf218 : fld w206 82 5 = f82_156 := fld_of (hF209.get (by decide) (hF197.get (by decide) (hF185.get (by decide) h82_180)))
              have hf219 : fld w206 82 7 = f82_160 := fld_of (hF209.get (by decide) (hF197.get (by decide) (hF185.get (by decide) h82_180)))
              have hf220 : fld w206 82 10 = f82_166 := fld_of (hF209.get (by decide) (hF197.get (by decide) (hF185.get (by decide) h82_180)))
              have hf221 : fld w206 82 14 = f82_168 := fld_of (hF209.get (by decide) (hF197.get (by decide) (hF185.get (by decide) h82_180)))
              have hu222 : mu w206 = 2 * (fld w206 82 4 - fld w206 82 5) + min 1 (fld w206 82 7) := rfl
              have hl223 : f82_168 ≤ 1001 := by omega
              refine xg_t (xg_aload (va := (2, 82)) rfl rfl) ?_
              refine xg_t (xg_dup rfl) ?_
              refine xg_t (xg_getf (va := (0, f82_168)) (hF209.get (by decide) (hF197.get (by decide) (hF185.get (by decide) h82_180))) rfl) ?_
              refine xg_t (xg_const) ?_
              refine xg_t (xg_iadd (u := f82_168) (v := 1) (z := f82_168 + 1) xnm0 xnm0 (by omega)) ?_
              refine xg_putI (fl1 := [(2, 83), (2, 84), (0, f82_150), (0, f82_152), (0, f82_154), (0, f82_156), (0, f82_158), (0, f82_160), (0, f82_162), (0, f82_164), (0, f82_166), (2, 85), (2, 86), (2, 87), (0, f82_168 + 1), (2, 88), (2, 89), (2, 90), (2, 91), (2, 92), (2, 93), (2, 94), (4, f82_170), (4, f82_171), (0, f82_172), (2, 95), (2, 96), (2, 97), (2, 98), (2, 99), (2, 100), (2, 101), (2, 102), (0, f82_174), (2, 103), (2, 104), (2, 105), (2, 106), (2, 107), (2, 108), (2, 109), (0, f82_176), (0, f82_178), (2, 110), (2, 111), (2, 112), (2, 113)]) (hF209.get (by decide) (hF197.get (by decide) (hF185.get (by decide) h82_180))) rfl rfl rfl (fun w224 hk225 hb226 => ?_)
              have hF227 : xFr [82] w206 w224 := xFr.of hb226 (by decide)
              have hA228 := FA_fr hF227 (by decide)
              have hf229 : fld w224 82 4 = f82_154 := fld_of hk225
              have hf230 : fld w224 82 5 = f82_156 := fld_of hk225
              have hf231 : fld w224 82 7 = f82_160 := fld_of hk225
              have hf232 : fld w224 82 10 = f82_166 := fld_of hk225
              have hf233 : fld w224 82 14 = f82_168 + 1 := fld_of hk225
              have hu234 : mu w224 = 2 * (fld w224 82 4 - fld w224 82 5) + min 1 (fld w224 82 7) := rfl
              have hD235 : FA w224 ≠ 0 ∨ (RD w → RD w224) := by
                by_cases z : FA w224 ≠ 0
                · exact Or.inl z
                · refine Or.inr (fun hd => ⟨by omega, fun l hl => ?_⟩)
                  rw [rwv_fr hF227 (by decide)]
                  by_cases y : l = fld w 82 14
                  · rw [y, rz216 (by omega)]; omega
                  · rw [ro213 l (by omega) (by have := hd.1; omega)]; exact hd.2 l (by omega)
              exact xg_e ⟨w224, ⟨rfl, rfl⟩, xMnv.up (S := [82]) hI208 (xFr.of (S := [82]) hb226 (by decide)) (List.forall_mem_cons.mpr ⟨(show cp82 (wget w224 82) from ⟨f82_150, f82_152, f82_154, f82_156, f82_158, f82_160, f82_162, f82_164, f82_166, f82_168 + 1, f82_170, f82_171, f82_172, f82_174, f82_176, f82_178, hk225, by omega, by omega, by omega, by omega, by omega, by omega, by omega, by omega, by omega, by omega, by omega, by omega, by omega, by omega, by omega⟩), fun _ h => absurd h List.not_mem_nil⟩), (((((((hF46.up (by decide)).tr (hF95.up (by decide))).tr (hF143.up (by decide))).tr (hF185.up (by decide))).tr (hF197.up (by decide))).tr (hF209.up (by decide))).tr (xFr.of (S := [82, 83, 112, 113]) hb226 (by decide))), ⟨fun h => by have := pk212.1 h; omega, (show fld w224 82 10 = 0 ∨ FA w224 ≠ 0 by omega), Or.inr ⟨by have := ms215; omega, by omega⟩, hD235⟩⟩
            · refine xg_t (xg_icT (u := f82_70) (v := 40) rfl xnm0 xnm0 (xj_neT hc107)) ?_
              refine xg_t (xg_blk (b := [(160, 1, 0, 0, 0, 0), (161, 3, 13, 198, 96, 418)]) rfl) ?_
              refine xg_t (xg_aload (va := (2, 82)) rfl rfl) ?_
              obtain ⟨f82_236, f82_238, f82_240, f82_242, f82_244, f82_246, f82_248, f82_250, f82_252, f82_254, f82_256, f82_257, f82_258, f82_260, f82_262, f82_264, h82_266, hb237, hb239, hb241, hb243, hb245, hb247, hb249, hb251, hb253, hb255, hb259, hb261, hb263, hb265, hb267⟩ := (hI94 82 (by decide) (by decide) : cp82 (wget w92 82))
              refine xg_cVi mX12_numberNow (vs := []) (rest := []) (cn1 := 0) (sl1 := 0) rfl (mNumberNow (hI94) pk103.2.2.2) rfl h82_266 rfl rfl rfl rfl rfl rfl (fun n272 w268 hq269 => ?_)
              obtain ⟨hn273, hI270, hF271⟩ := hq269
              obtain ⟨hn274, hn275⟩ := hn273
              have pk276 : PK w w268 := PK.tr pk103 hn275
              have ro277 : ∀ l, l < fld w 82 14 → l < 16 → rwv w268 112 (20 * l) = rwv w 112 (20 * l) := fun l hl h6 => (rwv_fr hF271 (by decide)).trans (ro104 l hl h6)
              have hq278 := pk276
              unfold PK PS at hq278
              have ms279 : mu w268 < mu w := Nat.lt_of_le_of_lt hn275.2.1 ms106
              refine xg_t (xg_blk (b := [(164, 1, 15, 3, 0, 0), (165, 1, 0, 0, 0, 0), (166, 2, 4, 59, 0, 0), (168, 3, 13, 195, 96, 427), (171, 1, 0, 0, 0, 0), (172, 1, 3, 0, 0, 0), (173, 1, 2, 1, 0, 0), (174, 3, 13, 214, 96, 424), (177, 1, 0, 0, 0, 0), (178, 2, 4, 17, 0, 0), (180, 1, 2, 2, 0, 0), (181, 3, 13, 214, 96, 424), (184, 1, 0, 0, 0, 0), (185, 2, 4, 18, 0, 0), (187, 1, 2, 3, 0, 0), (188, 3, 13, 214, 96, 424), (191, 1, 0, 0, 0, 0), (192, 1, 19, 0, 0, 0), (193, 3, 1, 12, 14, 212), (196, 1, 3, 1, 0, 0), (197, 1, 11, 0, 0, 0), (198, 3, 14, 12, 14, 212), (201, 1, 12, 0, 0, 0)]) rfl) ?_
              refine xg_t (xg_istore (l1 := [(2, (0, f82_70)), (1, (0, 0)), (0, (2, 82))]) rfl rfl rfl) ?_
              refine xg_t (xg_aload (va := (2, 82)) rfl rfl) ?_
              refine xg_t (xg_bip) ?_
              obtain ⟨f82_280, f82_282, f82_284, f82_286, f82_288, f82_290, f82_292, f82_294, f82_296, f82_298, f82_300, f82_301, f82_302, f82_304, f82_306, f82_308, h82_310, hb281, hb283, hb285, hb287, hb289, hb291, hb293, hb295, hb297, hb299, hb303, hb305, hb307, hb309, hb311⟩ := (hI270 82 (by decide) (by decide) : cp82 (wget w268 82))
              refine xg_cVv mX12_must (vs := [(0, 59)]) (rest := []) (cn1 := 0) (sl1 := 0) rfl (mMust (hI270) (by omega) pk276.2.2.2) rfl h82_310 rfl rfl rfl rfl rfl rfl (fun w312 hq313 => ?_)
              obtain ⟨hI314, hF315, hx316⟩ := hq313
              have pk317 : PK w w312 := PK.tr pk276 hx316
              have ro318 : ∀ l, l < fld w 82 14 → l < 16 → rwv w312 112 (20 * l) = rwv w 112 (20 * l) := fun l hl h6 => (rwv_fr hF315 (by decide)).trans (ro277 l hl h6)
              have hq319 := pk317
              unfold PK PS at hq319
              have ms320 : mu w312 < mu w := Nat.lt_of_le_of_lt hx316.2.1 ms279
              refine xg_t (xg_aload (va := (2, 82)) rfl rfl) ?_
              refine xg_t (xg_const) ?_
              refine xg_t (xg_iload (va := (0, 0)) rfl rfl) ?_
              have hl321 : fld w312 82 14 ≤ 2000 := by omega
              obtain ⟨f82_322, f82_324, f82_326, f82_328, f82_330, f82_332, f82_334, f82_336, f82_338, f82_340, f82_342, f82_343, f82_344, f82_346, f82_348, f82_350, h82_352, hb323, hb325, hb327, hb329, hb331, hb333, hb335, hb337, hb339, hb341, hb345, hb347, hb349, hb351, hb353⟩ := (hI314 82 (by decide) (by decide) : cp82 (wget w312 82))
              refine xg_cVv mX12_rulePuts (vs := [(0, 0), (0, 0)]) (rest := []) (cn1 := 0) (sl1 := 0) rfl (mRulePuts (hI314) (by omega) (by omega) (by omega)) rfl h82_352 rfl rfl rfl rfl rfl rfl (fun w354 hq355 => ?_)
              obtain ⟨hI356, hF357, hx358⟩ := hq355
              have hx359 := hx358
              have pk360 : PK w w354 := PK.tr pk317 (PK.fr hF357 (by decide) (by decide) pk317.2.2.2)
              have ro361 : ∀ l, l < fld w 82 14 → l < 16 → rwv w354 112 (20 * l) = rwv w 112 (20 * l) := fun l hl h6 => ((hx359 _ (by omega)).2 (by omega)).trans (ro318 l hl h6)
              have hq362 := pk360
              unfold PK PS at hq362
              have ms363 : mu w354 < mu w := Nat.lt_of_le_of_lt (PK.fr hF357 (by decide) (by decide) pk317.2.2.2).2.1 ms320
              have rz364 : fld w 82 14 < 16 → rwv w354 112 (20 * fld w 82 14) = 0 := fun h6 => (hx359 _ (by omega)).1 ⟨by omega, by omega⟩
              refine xg_t (xg_aload (va := (2, 82)) rfl rfl) ?_
              refine xg_t (xg_bip) ?_
              refine xg_t (xg_iload (va := (0, f82_70)) rfl rfl) ?_
              have hl365 : fld w354 82 14 ≤ 2000 := by omega
              refine xg_cVv mX12_rulePuts (vs := [(0, 17), (0, f82_70)]) (rest := []) (cn1 := 0) (sl1 := 0) rfl (mRulePuts (hI356) (by omega) (by omega) (by omega)) rfl (hF357.get (by decide) h82_352) rfl rfl rfl rfl rfl rfl (fun w366 hq367 => ?_)
              obtain ⟨hI368, hF369, hx370⟩ := hq367
              have hx371 := hx370
              have pk372 : PK w w366 := PK.tr pk360 (PK.fr hF369 (by decide) (by decide) pk360.2.2.2)
              have ro373 : ∀ l, l < fld w 82 14 → l < 16 → rwv w366 112 (20 * l) = rwv w 112 (20 * l) := fun l hl h6 => ((hx371 _ (by omega)).2 (by omega)).trans (ro361 l hl h6)
              have hq374 := pk372
              unfold PK PS at hq374
              have ms375 : mu w366 < mu w := Nat.lt_of_le_of_lt (PK.fr hF369 (by decide) (by decide) pk360.2.2.2).2.1 ms363
              have rz376 : fld w 82 14 < 16 → rwv w366 112 (20 * fld w 82 14) = 0 := fun h6 => ((hx371 _ (by omega)).2 (by omega)).trans (rz364 h6)
              refine xg_t (xg_aload (va := (2, 82)) rfl rfl) ?_
              refine xg_t (xg_bip) ?_
              refine xg_t (xg_iload (va := (0, n272)) rfl rfl) ?_
              have hl377 : fld w366 82 14 ≤ 2000 := by omega
              refine xg_cVv mX12_rulePuts (vs := [(0, 18), (0, n272)]) (rest := []) (cn1 := 0) (sl1 := 0) rfl (mRulePuts (hI368) (by omega) (by omega) (by omega)) rfl (hF369.get (by decide) (hF357.get (by decide) h82_352)) rfl rfl rfl rfl rfl rfl (fun w378 hq379 => ?_)
              obtain ⟨hI380, hF381, hx382⟩ := hq379
              have hx383 := hx382
              have pk384 : PK w w378 := PK.tr pk372 (PK.fr hF381 (by decide) (by decide) pk372.2.2.2)
              have ro385 : ∀ l, l < fld w 82 14 → l < 16 → rwv w378 112 (20 * l) = rwv w 112 (20 * l) := fun l hl h6 => ((hx383 _ (by omega)).2 (by omega)).trans (ro373 l hl h6)
              have hq386 := pk384
              unfold PK PS at hq386
              have ms387 : mu w378 < mu w := Nat.lt_of_le_of_lt (PK.fr hF381 (by decide) (by decide) pk372.2.2.2).2.1 ms375
              have rz388 : fld w 82 14 < 16 → rwv w378 112 (20 * fld w 82 14) = 0 := fun h6 => ((hx383 _ (by omega)).2 (by omega)).trans (rz376 h6)
              have hf389 : fld w378 82 4 = f82_326 := fld_of (hF381.get (by decide) (hF369.get (by decide) (hF357.get (by decide) h82_352)))
              have hf390 : fld w378 82 5 = f82_328 := fld_of (hF381.get (by decide) (hF369.get (by decide) (hF357.get (by decide) h82_352)))
              have hf391 : fld w378 82 7 = f82_332 := fld_of (hF381.get (by decide) (hF369.get (by decide) (hF357.get (by decide) h82_352)))
              have hf392 : fld w378 82 10 = f82_338 := fld_of (hF381.get (by decide) (hF369.get (by decide) (hF357.get (by decide) h82_352)))
              have hf393 : fld w378 82 14 = f82_340 := fld_of (hF381.get (by decide) (hF369.get (by decide) (hF357.get (by decide) h82_352)))
              have hu394 : mu w378 = 2 * (fld w378 82 4 - fld w378 82 5) + min 1 (fld w378 82 7) := rfl
              have hl395 : f82_340 ≤ 1001 := by omega
              refine xg_t (xg_aload (va := (2, 82)) rfl rfl) ?_
              refine xg_t (xg_dup rfl) ?_
              refine xg_t (xg_getf (va := (0, f82_340)) (hF381.get (by decide) (hF369.get (by decide) (hF357.get (by decide) h82_352))) rfl) ?_
              refine xg_t (xg_const) ?_
              refine xg_t (xg_iadd (u := f82_340) (v := 1) (z := f82_340 + 1) xnm0 xnm0 (by omega)) ?_
              refine xg_putI (fl1 := [(2, 83), (2, 84), (0, f82_322), (0, f82_324), (0, f82_326), (0, f82_328), (0, f82_330), (0, f82_332), (0, f82_334), (0, f82_336), (0, f82_338), (2, 85), (2, 86), (2, 87), (0, f82_340 + 1), (2, 88), (2, 89), (2, 90), (2, 91), (2, 92), (2, 93), (2, 94), (4, f82_342), (4, f82_343), (0, f82_344), (2, 95), (2, 96), (2, 97), (2, 98), (2, 99), (2, 100), (2, 101), (2, 102), (0, f82_346), (2, 103), (2, 104), (2, 105), (2, 106), (2, 107), (2, 108), (2, 109), (0, f82_348), (0, f82_350), (2, 110), (2, 111), (2, 112), (2, 113)]) (hF381.get (by decide) (hF369.get (by decide) (hF357.get (by decide) h82_352))) rfl rfl rfl (fun w396 hk397 hb398 => ?_)
              have hF399 : xFr [82] w378 w396 := xFr.of hb398 (by decide)
              have hA400 := FA_fr hF399 (by decide)
              have hf401 : fld w396 82 4 = f82_326 := fld_of hk397
              have hf402 : fld w396 82 5 = f82_328 := fld_of hk397
              have hf403 : fld w396 82 7 = f82_332 := fld_of hk397
              have hf404 : fld w396 82 10 = f82_338 := fld_of hk397
              have hf405 : fld w396 82 14 = f82_340 + 1 := fld_of hk397
              have hu406 : mu w396 = 2 * (fld w396 82 4 - fld w396 82 5) + min 1 (fld w396 82 7) := rfl
              have hD407 : FA w396 ≠ 0 ∨ (RD w → RD w396) := by
                by_cases z : FA w396 ≠ 0
                · exact Or.inl z
                · refine Or.inr (fun hd => ⟨by omega, fun l hl => ?_⟩)
                  rw [rwv_fr hF399 (by decide)]
                  by_cases y : l = fld w 82 14
                  · rw [y, rz388 (by omega)]; omega
                  · rw [ro385 l (by omega) (by have := hd.1; omega)]; exact hd.2 l (by omega)
              exact xg_e ⟨w396, ⟨rfl, rfl⟩, xMnv.up (S := [82]) hI380 (xFr.of (S := [82]) hb398 (by decide)) (List.forall_mem_cons.mpr ⟨(show cp82 (wget w396 82) from ⟨f82_322, f82_324, f82_326, f82_328, f82_330, f82_332, f82_334, f82_336, f82_338, f82_340 + 1, f82_342, f82_343, f82_344, f82_346, f82_348, f82_350, hk397, by omega, by omega, by omega, by omega, by omega, by omega, by omega, by omega, by omega, by omega, by omega, by omega, by omega, by omega, by omega⟩), fun _ h => absurd h List.not_mem_nil⟩), ((((((((hF46.up (by decide)).tr (hF95.up (by decide))).tr (hF271.up (by decide))).tr (hF315.up (by decide))).tr (hF357.up (by decide))).tr (hF369.up (by decide))).tr (hF381.up (by decide))).tr (xFr.of (S := [82, 83, 112, 113]) hb398 (by decide))), ⟨fun h => by have := pk384.1 h; omega, (show fld w396 82 10 = 0 ∨ FA w396 ≠ 0 by omega), Or.inr ⟨by have := ms387; omega, by omega⟩, hD407⟩⟩
          · refine xg_t (xg_ifF (u := (if 40 ≤ f82_70 ∧ f82_70 ≤ 42 then 1 else 0)) rfl xnm0 (xj_neF (xite0 hc90))) ?_
            refine xg_t (xg_blk (b := [(136, 1, 0, 0, 0, 0), (137, 3, 13, 140, 96, 183), (140, 1, 12, 0, 0, 0)]) rfl) ?_
            refine xg_t (xg_aload (va := (2, 82)) rfl rfl) ?_
            refine xg_cVv mX12_ends (vs := []) (rest := []) (cn1 := 0) (sl1 := 0) rfl (mEnds (hI45) pk52.2.2.2) rfl h82_86 rfl rfl rfl rfl rfl rfl (fun w408 hq409 => ?_)
            obtain ⟨hI410, hF411, hx412⟩ := hq409
            obtain ⟨hv413, hv414, hv415, hv416⟩ := hx412
            have pk417 : PK w43 w408 := ⟨fun _ => hv413, by omega, by omega, Or.inr hv413⟩
            have pk418 : PK w w408 := PK.tr pk52 pk417
            have ro419 : ∀ l, l < fld w 82 14 → l < 16 → rwv w408 112 (20 * l) = rwv w 112 (20 * l) := fun l hl h6 => (rwv_fr hF411 (by decide)).trans (ro53 l hl h6)
            have hq420 := pk418
            unfold PK PS at hq420
            obtain ⟨f82_421, f82_423, f82_425, f82_427, f82_429, f82_431, f82_433, f82_435, f82_437, f82_439, f82_441, f82_442, f82_443, f82_445, f82_447, f82_449, h82_451, hb422, hb424, hb426, hb428, hb430, hb432, hb434, hb436, hb438, hb440, hb444, hb446, hb448, hb450, hb452⟩ := (hI410 82 (by decide) (by decide) : cp82 (wget w408 82))
            exact xg_e ⟨w408, ⟨rfl, rfl⟩, hI410, ((hF46.up (by decide)).tr (hF411.up (by decide))), ⟨pk418.1, pk418.2.2.2, Or.inl ⟨by omega, pk418.2.1, pk418.2.2.1⟩, Or.inl (by omega)⟩⟩
        · refine xg_t (xg_icT (u := f82_66) (v := 3) rfl xnm0 xnm0 (xj_neT hc89)) ?_
          refine xg_t (xg_blk (b := [(136, 1, 0, 0, 0, 0), (137, 3, 13, 140, 96, 183), (140, 1, 12, 0, 0, 0)]) rfl) ?_
          refine xg_t (xg_aload (va := (2, 82)) rfl rfl) ?_
          refine xg_cVv mX12_ends (vs := []) (rest := []) (cn1 := 0) (sl1 := 0) rfl (mEnds (hI45) pk52.2.2.2) rfl h82_86 rfl rfl rfl rfl rfl rfl (fun w453 hq454 => ?_)
          obtain ⟨hI455, hF456, hx457⟩ := hq454
          obtain ⟨hv458, hv459, hv460, hv461⟩ := hx457
          have pk462 : PK w43 w453 := ⟨fun _ => hv458, by omega, by omega, Or.inr hv458⟩
          have pk463 : PK w w453 := PK.tr pk52 pk462
          have ro464 : ∀ l, l < fld w 82 14 → l < 16 → rwv w453 112 (20 * l) = rwv w 112 (20 * l) := fun l hl h6 => (rwv_fr hF456 (by decide)).trans (ro53 l hl h6)
          have hq465 := pk463
          unfold PK PS at hq465
          obtain ⟨f82_466, f82_468, f82_470, f82_472, f82_474, f82_476, f82_478, f82_480, f82_482, f82_484, f82_486, f82_487, f82_488, f82_490, f82_492, f82_494, h82_496, hb467, hb469, hb471, hb473, hb475, hb477, hb479, hb481, hb483, hb485, hb489, hb491, hb493, hb495, hb497⟩ := (hI455 82 (by decide) (by decide) : cp82 (wget w453 82))
          exact xg_e ⟨w453, ⟨rfl, rfl⟩, hI455, ((hF46.up (by decide)).tr (hF456.up (by decide))), ⟨pk463.1, pk463.2.2.2, Or.inl ⟨by omega, pk463.2.1, pk463.2.2.1⟩, Or.inl (by omega)⟩⟩
      · refine xg_t (xg_ifT (u := f82_72) rfl xnm0 (xj_neT hc88)) ?_
        refine xg_t (xg_blk (b := [(136, 1, 0, 0, 0, 0), (137, 3, 13, 140, 96, 183), (140, 1, 12, 0, 0, 0)]) rfl) ?_
        refine xg_t (xg_aload (va := (2, 82)) rfl rfl) ?_
        refine xg_cVv mX12_ends (vs := []) (rest := []) (cn1 := 0) (sl1 := 0) rfl (mEnds (hI45) pk52.2.2.2) rfl h82_86 rfl rfl rfl rfl rfl rfl (fun w498 hq499 => ?_)
        obtain ⟨hI500, hF501, hx502⟩ := hq499
        obtain ⟨hv503, hv504, hv505, hv506⟩ := hx502
        have pk507 : PK w43 w498 := ⟨fun _ => hv503, by omega, by omega, Or.inr hv503⟩
        have pk508 : PK w w498 := PK.tr pk52 pk507
        have ro509 : ∀ l, l < fld w 82 14 → l < 16 → rwv w498 112 (20 * l) = rwv w 112 (20 * l) := fun l hl h6 => (rwv_fr hF501 (by decide)).trans (ro53 l hl h6)
        have hq510 := pk508
        unfold PK PS at hq510
        obtain ⟨f82_511, f82_513, f82_515, f82_517, f82_519, f82_521, f82_523, f82_525, f82_527, f82_529, f82_531, f82_532, f82_533, f82_535, f82_537, f82_539, h82_541, hb512, hb514, hb516, hb518, hb520, hb522, hb524, hb526, hb528, hb530, hb534, hb536, hb538, hb540, hb542⟩ := (hI500 82 (by decide) (by decide) : cp82 (wget w498 82))
        exact xg_e ⟨w498, ⟨rfl, rfl⟩, hI500, ((hF46.up (by decide)).tr (hF501.up (by decide))), ⟨pk508.1, pk508.2.2.2, Or.inl ⟨by omega, pk508.2.1, pk508.2.2.1⟩, Or.inl (by omega)⟩⟩
    · have ms543 : mu w43 < mu w := Nat.lt_of_lt_of_le (hn51 (by omega)) (PK.rf hps).2.1
      refine xg_t (xg_ifF (u := n47) rfl xnm0 (xj_eqF hc55)) ?_
      refine xg_t (xg_const) ?_
      refine xg_t (xg_istore (l1 := [(1, (0, 0)), (0, (2, 82))]) rfl rfl rfl) ?_
      refine xg_t (xg_drop (l1 := [(0, (2, 82)), (1, (0, 0)), (2, (0, 1))]) (List.forall_mem_cons.mpr ⟨List.mem_cons_of_mem _ (List.mem_cons_of_mem _ (List.mem_cons_self)), List.forall_mem_cons.mpr ⟨List.mem_cons_of_mem _ (List.mem_cons_self), List.forall_mem_cons.mpr ⟨List.mem_cons_self, fun _ h => absurd h List.not_mem_nil⟩⟩⟩)) ?_
      have key544 : ∀ (m546 : Nat) (kr mo : Nat) (w547 : List (List xE)), 2 * mu w547 + mo < m546 → kr ≤ 1002 → mo ≤ 1 → xMnv w547 → xFr [82, 83, 112, 113] w w547 → (PK w w547 ∧ (∀ l, l < fld w 82 14 → l < 16 → rwv w547 112 (20 * l) = rwv w 112 (20 * l)) ∧ mu w547 < mu w ∧ (FA w547 ≠ 0 ∨ kr ≤ 4) ∧ kr + mu w547 ≤ 1002 ∧ (mo = 1 → kr + mu w547 ≤ 1001) ∧ (16 ≤ fld w 82 14 → FA w547 ≠ 0)) → xTo (d + 7) mX12_aRule (31, [], [(0, (2, 82)), (1, (0, kr)), (2, (0, mo))], [], (w547, bd, fc, 0, 0, rr)) (fun φ => ∃ w', xEnd 0 [] (w', bd, fc, 0, 0, rr) φ ∧ xMnv w' ∧ xFr [82, 83, 112, 113] w w' ∧ ((FA w ≠ 0 → FA w' ≠ 0) ∧ PS w' ∧ ((fld w' 82 10 = 1 ∧ mu w' ≤ mu w ∧ fld w' 82 14 = fld w 82 14) ∨ (mu w' < mu w ∧ fld w' 82 14 = fld w 82 14 + 1)) ∧ (FA w' ≠ 0 ∨ (RD w → RD w')))) := by
        intro m546
        induction m546 with
        | zero => intro kr mo w547 hz; exact absurd hz (Nat.not_lt_zero _)
        | succ m546 ih545 =>
          intro kr mo w547 hm553 hn550 hn551 hI548 hF549 he552
          obtain ⟨hz554, hz555, hz556, hz557, hz558, hz559, hz560⟩ := he552
          have hq561 := hz554
          unfold PK PS at hq561
          obtain ⟨f82_562, f82_564, f82_566, f82_568, f82_570, f82_572, f82_574, f82_576, f82_578, f82_580, f82_582, f82_583, f82_584, f82_586, f82_588, f82_590, h82_592, hb563, hb565, hb567, hb569, hb571, hb573, hb575, hb577, hb579, hb581, hb585, hb587, hb589, hb591, hb593⟩ := (hI548 82 (by decide) (by decide) : cp82 (wget w547 82))
          refine xg_t (xg_blk (b := [(31, 1, 2, 2, 0, 0), (32, 3, 7, 101, 0, 0), (35, 1, 2, 1, 0, 0), (36, 1, 3, 3, 0, 0), (37, 3, 6, 49, 5, 0), (40, 1, 0, 0, 0, 0), (41, 1, 3, 3, 0, 0), (42, 1, 0, 0, 0, 0), (43, 3, 1, 12, 6, 148), (46, 3, 13, 115, 96, 186)]) rfl) ?_
          refine xg_t (xg_iload (va := (0, mo)) rfl rfl) ?_
          by_cases hc594 : mo = 0
          · refine xg_t (xg_ifT (u := mo) rfl xnm0 (xj_eqT hc594)) ?_
            refine xg_t (xg_blk (b := [(101, 1, 0, 0, 0, 0), (102, 2, 4, 58, 0, 0), (104, 3, 13, 195, 96, 427)]) rfl) ?_
            refine xg_t (xg_aload (va := (2, 82)) rfl rfl) ?_
            refine xg_t (xg_bip) ?_
            refine xg_cVv mX12_must (vs := [(0, 58)]) (rest := []) (cn1 := 0) (sl1 := 0) rfl (mMust (hI548) (by omega) hz554.2.2.2) rfl h82_592 rfl rfl rfl rfl rfl rfl (fun w595 hq596 => ?_)
            obtain ⟨hI597, hF598, hx599⟩ := hq596
            have pk600 : PK w w595 := PK.tr hz554 hx599
            have ro601 : ∀ l, l < fld w 82 14 → l < 16 → rwv w595 112 (20 * l) = rwv w 112 (20 * l) := fun l hl h6 => (rwv_fr hF598 (by decide)).trans (hz555 l hl h6)
            have hq602 := pk600
            unfold PK PS at hq602
            have ms603 : mu w595 < mu w := Nat.lt_of_le_of_lt hx599.2.1 hz556
            refine xg_t (xg_blk (b := [(107, 1, 0, 0, 0, 0), (108, 3, 1, 12, 10, 180), (111, 3, 7, 136, 1, 0), (114, 1, 0, 0, 0, 0), (115, 3, 1, 12, 7, 151), (118, 1, 3, 3, 0, 0), (119, 3, 6, 136, 1, 0), (122, 1, 0, 0, 0, 0), (123, 3, 1, 12, 9, 165), (126, 2, 4, 40, 0, 0), (128, 2, 4, 42, 0, 0), (130, 3, 13, 161, 98, 105), (133, 3, 7, 141, 1, 0)]) rfl) ?_
            refine xg_t (xg_aload (va := (2, 82)) rfl rfl) ?_
            obtain ⟨f82_604, f82_606, f82_608, f82_610, f82_612, f82_614, f82_616, f82_618, f82_620, f82_622, f82_624, f82_625, f82_626, f82_628, f82_630, f82_632, h82_634, hb605, hb607, hb609, hb611, hb613, hb615, hb617, hb619, hb621, hb623, hb627, hb629, hb631, hb633, hb635⟩ := (hI597 82 (by decide) (by decide) : cp82 (wget w595 82))
            refine xg_t (xg_getf (va := (0, f82_620)) h82_634 rfl) ?_
            by_cases hc636 : f82_620 = 0
            · refine xg_t (xg_ifF (u := f82_620) rfl xnm0 (xj_neF hc636)) ?_
              refine xg_t (xg_aload (va := (2, 82)) rfl rfl) ?_
              refine xg_t (xg_getf (va := (0, f82_614)) h82_634 rfl) ?_
              refine xg_t (xg_const) ?_
              by_cases hc637 : f82_614 = 3
              · refine xg_t (xg_icF (u := f82_614) (v := 3) rfl xnm0 xnm0 (xj_neF hc637)) ?_
                refine xg_t (xg_aload (va := (2, 82)) rfl rfl) ?_
                refine xg_t (xg_getf (va := (0, f82_618)) h82_634 rfl) ?_
                refine xg_t (xg_bip) ?_
                refine xg_t (xg_bip) ?_
                refine xg_t (xg_cSr mX12_isIn (vs := [(0, f82_618), (0, 40), (0, 42)]) (rest := []) (rs := [(0, if 40 ≤ f82_618 ∧ f82_618 ≤ 42 then 1 else 0)]) (cn1 := 0) (sl1 := 0) rfl (mIsIn (by omega) (by omega) (by omega)) rfl rfl rfl rfl rfl rfl rfl rfl) ?_
                by_cases hc638 : 40 ≤ f82_618 ∧ f82_618 ≤ 42
                · refine xg_t (xg_ifT (u := (if 40 ≤ f82_618 ∧ f82_618 ≤ 42 then 1 else 0)) rfl xnm0 (xj_neT (xite1 hc638))) ?_
                  refine xg_t (xg_blk (b := [(141, 1, 0, 0, 0, 0), (142, 3, 1, 12, 9, 165), (145, 1, 15, 2, 0, 0), (146, 1, 0, 0, 0, 0), (147, 3, 13, 110, 96, 190), (150, 1, 2, 2, 0, 0), (151, 2, 4, 40, 0, 0), (153, 3, 6, 160, 1, 0), (156, 1, 3, 0, 0, 0), (157, 3, 8, 164, 0, 0)]) rfl) ?_
                  refine xg_t (xg_aload (va := (2, 82)) rfl rfl) ?_
                  refine xg_t (xg_getf (va := (0, f82_618)) h82_634 rfl) ?_
                  refine xg_t (xg_istore (l1 := [(0, (2, 82)), (1, (0, kr))]) rfl rfl rfl) ?_
                  refine xg_t (xg_aload (va := (2, 82)) rfl rfl) ?_
                  have hf639 : fld w595 82 7 = f82_614 := fld_of h82_634
                  refine xg_cVv mX12_advance (vs := []) (rest := []) (cn1 := 0) (sl1 := 0) rfl (mAdvance (hI597)) rfl h82_634 rfl rfl rfl rfl rfl rfl (fun w640 hq641 => ?_)
                  obtain ⟨hI642, hF643, hx644⟩ := hq641
                  obtain ⟨hv645, hv646, hv647, hv648⟩ := hx644
                  have hf649 := FA_fr hF643 (by decide)
                  have pk650 : PK w595 w640 := ⟨fun _ => by omega, hv645, hv648, (show fld w640 82 10 = 0 ∨ FA w640 ≠ 0 by omega)⟩
                  have pk651 : PK w w640 := PK.tr pk600 pk650
                  have ro652 : ∀ l, l < fld w 82 14 → l < 16 → rwv w640 112 (20 * l) = rwv w 112 (20 * l) := fun l hl h6 => (rwv_fr hF643 (by decide)).trans (ro601 l hl h6)
                  have hq653 := pk651
                  unfold PK PS at hq653
                  have ms654 : mu w640 < mu w := Nat.lt_of_le_of_lt pk650.2.1 ms603
                  refine xg_t (xg_iload (va := (0, f82_618)) rfl rfl) ?_
                  refine xg_t (xg_bip) ?_
                  by_cases hc655 : f82_618 = 40
                  · refine xg_t (xg_icF (u := f82_618) (v := 40) rfl xnm0 xnm0 (xj_neF hc655)) ?_
                    refine xg_t (xg_const) ?_
                    refine xg_t (xg_goto) ?_
                    refine xg_t (xg_blk (b := [(164, 1, 15, 3, 0, 0), (165, 1, 0, 0, 0, 0), (166, 2, 4, 59, 0, 0), (168, 3, 13, 195, 96, 427), (171, 1, 0, 0, 0, 0), (172, 1, 3, 0, 0, 0), (173, 1, 2, 1, 0, 0), (174, 3, 13, 214, 96, 424), (177, 1, 0, 0, 0, 0), (178, 2, 4, 17, 0, 0), (180, 1, 2, 2, 0, 0), (181, 3, 13, 214, 96, 424), (184, 1, 0, 0, 0, 0), (185, 2, 4, 18, 0, 0), (187, 1, 2, 3, 0, 0), (188, 3, 13, 214, 96, 424), (191, 1, 0, 0, 0, 0), (192, 1, 19, 0, 0, 0), (193, 3, 1, 12, 14, 212), (196, 1, 3, 1, 0, 0), (197, 1, 11, 0, 0, 0), (198, 3, 14, 12, 14, 212), (201, 1, 12, 0, 0, 0)]) rfl) ?_
                    refine xg_t (xg_istore (l1 := [(2, (0, f82_618)), (0, (2, 82)), (1, (0, kr))]) rfl rfl rfl) ?_
                    refine xg_t (xg_aload (va := (2, 82)) rfl rfl) ?_
                    refine xg_t (xg_bip) ?_
                    obtain ⟨f82_656, f82_658, f82_660, f82_662, f82_664, f82_666, f82_668, f82_670, f82_672, f82_674, f82_676, f82_677, f82_678, f82_680, f82_682, f82_684, h82_686, hb657, hb659, hb661, hb663, hb665, hb667, hb669, hb671, hb673, hb675, hb679, hb681, hb683, hb685, hb687⟩ := (hI642 82 (by decide) (by decide) : cp82 (wget w640 82))
                    refine xg_cVv mX12_must (vs := [(0, 59)]) (rest := []) (cn1 := 0) (sl1 := 0) rfl (mMust (hI642) (by omega) pk651.2.2.2) rfl h82_686 rfl rfl rfl rfl rfl rfl (fun w688 hq689 => ?_)
                    obtain ⟨hI690, hF691, hx692⟩ := hq689
                    have pk693 : PK w w688 := PK.tr pk651 hx692
                    have ro694 : ∀ l, l < fld w 82 14 → l < 16 → rwv w688 112 (20 * l) = rwv w 112 (20 * l) := fun l hl h6 => (rwv_fr hF691 (by decide)).trans (ro652 l hl h6)
                    have hq695 := pk693
                    unfold PK PS at hq695
                    have ms696 : mu w688 < mu w := Nat.lt_of_le_of_lt hx692.2.1 ms654
                    refine xg_t (xg_aload (va := (2, 82)) rfl rfl) ?_
                    refine xg_t (xg_const) ?_
                    refine xg_t (xg_iload (va := (0, kr)) rfl rfl) ?_
                    have hl697 : fld w688 82 14 ≤ 2000 := by omega
                    obtain ⟨f82_698, f82_700, f82_702, f82_704, f82_706, f82_708, f82_710, f82_712, f82_714, f82_716, f82_718, f82_719, f82_720, f82_722, f82_724, f82_726, h82_728, hb699, hb701, hb703, hb705, hb707, hb709, hb711, hb713, hb715, hb717, hb721, hb723, hb725, hb727, hb729⟩ := (hI690 82 (by decide) (by decide) : cp82 (wget w688 82))
                    refine xg_cVv mX12_rulePuts (vs := [(0, 0), (0, kr)]) (rest := []) (cn1 := 0) (sl1 := 0) rfl (mRulePuts (hI690) (by omega) (by omega) (by omega)) rfl h82_728 rfl rfl rfl rfl rfl rfl (fun w730 hq731 => ?_)
                    obtain ⟨hI732, hF733, hx734⟩ := hq731
                    have hx735 := hx734
                    have pk736 : PK w w730 := PK.tr pk693 (PK.fr hF733 (by decide) (by decide) pk693.2.2.2)
                    have ro737 : ∀ l, l < fld w 82 14 → l < 16 → rwv w730 112 (20 * l) = rwv w 112 (20 * l) := fun l hl h6 => ((hx735 _ (by omega)).2 (by omega)).trans (ro694 l hl h6)
                    have hq738 := pk736
                    unfold PK PS at hq738
                    have ms739 : mu w730 < mu w := Nat.lt_of_le_of_lt (PK.fr hF733 (by decide) (by decide) pk693.2.2.2).2.1 ms696
                    have rz740 : fld w 82 14 < 16 → rwv w730 112 (20 * fld w 82 14) = kr := fun h6 => (hx735 _ (by omega)).1 ⟨by omega, by omega⟩
                    refine xg_t (xg_aload (va := (2, 82)) rfl rfl) ?_
                    refine xg_t (xg_bip) ?_
                    refine xg_t (xg_iload (va := (0, f82_618)) rfl rfl) ?_
                    have hl741 : fld w730 82 14 ≤ 2000 := by omega
                    refine xg_cVv mX12_rulePuts (vs := [(0, 17), (0, f82_618)]) (rest := []) (cn1 := 0) (sl1 := 0) rfl (mRulePuts (hI732) (by omega) (by omega) (by omega)) rfl (hF733.get (by decide) h82_728) rfl rfl rfl rfl rfl rfl (fun w742 hq743 => ?_)
                    obtain ⟨hI744, hF745, hx746⟩ := hq743
                    have hx747 := hx746
                    have pk748 : PK w w742 := PK.tr pk736 (PK.fr hF745 (by decide) (by decide) pk736.2.2.2)
                    have ro749 : ∀ l, l < fld w 82 14 → l < 16 → rwv w742 112 (20 * l) = rwv w 112 (20 * l) := fun l hl h6 => ((hx747 _ (by omega)).2 (by omega)).trans (ro737 l hl h6)
                    have hq750 := pk748
                    unfold PK PS at hq750
                    have ms751 : mu w742 < mu w := Nat.lt_of_le_of_lt (PK.fr hF745 (by decide) (by decide) pk736.2.2.2).2.1 ms739
                    have rz752 : fld w 82 14 < 16 → rwv w742 112 (20 * fld w 82 14) = kr := fun h6 => ((hx747 _ (by omega)).2 (by omega)).trans (rz740 h6)
                    refine xg_t (xg_aload (va := (2, 82)) rfl rfl) ?_
                    refine xg_t (xg_bip) ?_
                    refine xg_t (xg_iload (va := (0, 0)) rfl rfl) ?_
                    have hl753 : fld w742 82 14 ≤ 2000 := by omega
                    refine xg_cVv mX12_rulePuts (vs := [(0, 18), (0, 0)]) (rest := []) (cn1 := 0) (sl1 := 0) rfl (mRulePuts (hI744) (by omega) (by omega) (by omega)) rfl (hF745.get (by decide) (hF733.get (by decide) h82_728)) rfl rfl rfl rfl rfl rfl (fun w754 hq755 => ?_)
                    obtain ⟨hI756, hF757, hx758⟩ := hq755
                    have hx759 := hx758
                    have pk760 : PK w w754 := PK.tr pk748 (PK.fr hF757 (by decide) (by decide) pk748.2.2.2)
                    have ro761 : ∀ l, l < fld w 82 14 → l < 16 → rwv w754 112 (20 * l) = rwv w 112 (20 * l) := fun l hl h6 => ((hx759 _ (by omega)).2 (by omega)).trans (ro749 l hl h6)
                    have hq762 := pk760
                    unfold PK PS at hq762
                    have ms763 : mu w754 < mu w := Nat.lt_of_le_of_lt (PK.fr hF757 (by decide) (by decide) pk748.2.2.2).2.1 ms751
                    have rz764 : fld w 82 14 < 16 → rwv w754 112 (20 * fld w 82 14) = kr := fun h6 => ((hx759 _ (by omega)).2 (by omega)).trans (rz752 h6)
                    have hf765 : fld w754 82 4 = f82_702 := fld_of (hF757.get (by decide) (hF745.get (by decide) (hF733.get (by decide) h82_728)))
                    have hf766 : fld w754 82 5 = f82_704 := fld_of (hF757.get (by decide) (hF745.get (by decide) (hF733.get (by decide) h82_728)))
                    have hf767 : fld w754 82 7 = f82_708 := fld_of (hF757.get (by decide) (hF745.get (by decide) (hF733.get (by decide) h82_728)))
                    have hf768 : fld w754 82 10 = f82_714 := fld_of (hF757.get (by decide) (hF745.get (by decide) (hF733.get (by decide) h82_728)))
                    have hf769 : fld w754 82 14 = f82_716 := fld_of (hF757.get (by decide) (hF745.get (by decide) (hF733.get (by decide) h82_728)))
                    have hu770 : mu w754 = 2 * (fld w754 82 4 - fld w754 82 5) + min 1 (fld w754 82 7) := rfl
                    have hl771 : f82_716 ≤ 1001 := by omega
                    refine xg_t (xg_aload (va := (2, 82)) rfl rfl) ?_
                    refine xg_t (xg_dup rfl) ?_
                    refine xg_t (xg_getf (va := (0, f82_716)) (hF757.get (by decide) (hF745.get (by decide) (hF733.get (by decide) h82_728))) rfl) ?_
                    refine xg_t (xg_const) ?_
                    refine xg_t (xg_iadd (u := f82_716) (v := 1) (z := f82_716 + 1) xnm0 xnm0 (by omega)) ?_
                    refine xg_putI (fl1 := [(2, 83), (2, 84), (0, f82_698), (0, f82_700), (0, f82_702), (0, f82_704), (0, f82_706), (0, f82_708), (0, f82_710), (0, f82_712), (0, f82_714), (2, 85), (2, 86), (2, 87), (0, f82_716 + 1), (2, 88), (2, 89), (2, 90), (2, 91), (2, 92), (2, 93), (2, 94), (4, f82_718), (4, f82_719), (0, f82_720), (2, 95), (2, 96), (2, 97), (2, 98), (2, 99), (2, 100), (2, 101), (2, 102), (0, f82_722), (2, 103), (2, 104), (2, 105), (2, 106), (2, 107), (2, 108), (2, 109), (0, f82_724), (0, f82_726), (2, 110), (2, 111), (2, 112), (2, 113)]) (hF757.get (by decide) (hF745.get (by decide) (hF733.get (by decide) h82_728))) rfl rfl rfl (fun w772 hk773 hb774 => ?_)
                    have hF775 : xFr [82] w754 w772 := xFr.of hb774 (by decide)
                    have hA776 := FA_fr hF775 (by decide)
                    have hf777 : fld w772 82 4 = f82_702 := fld_of hk773
                    have hf778 : fld w772 82 5 = f82_704 := fld_of hk773
                    have hf779 : fld w772 82 7 = f82_708 := fld_of hk773
                    have hf780 : fld w772 82 10 = f82_714 := fld_of hk773
                    have hf781 : fld w772 82 14 = f82_716 + 1 := fld_of hk773
                    have hu782 : mu w772 = 2 * (fld w772 82 4 - fld w772 82 5) + min 1 (fld w772 82 7) := rfl
                    have hD783 : FA w772 ≠ 0 ∨ (RD w → RD w772) := by
                      by_cases z : FA w772 ≠ 0
                      · exact Or.inl z
                      · refine Or.inr (fun hd => ⟨by omega, fun l hl => ?_⟩)
                        rw [rwv_fr hF775 (by decide)]
                        by_cases y : l = fld w 82 14
                        · rw [y, rz764 (by omega)]; omega
                        · rw [ro761 l (by omega) (by have := hd.1; omega)]; exact hd.2 l (by omega)
                    exact xg_e ⟨w772, ⟨rfl, rfl⟩, xMnv.up (S := [82]) hI756 (xFr.of (S := [82]) hb774 (by decide)) (List.forall_mem_cons.mpr ⟨(show cp82 (wget w772 82) from ⟨f82_698, f82_700, f82_702, f82_704, f82_706, f82_708, f82_710, f82_712, f82_714, f82_716 + 1, f82_718, f82_719, f82_720, f82_722, f82_724, f82_726, hk773, by omega, by omega, by omega, by omega, by omega, by omega, by omega, by omega, by omega, by omega, by omega, by omega, by omega, by omega, by omega⟩), fun _ h => absurd h List.not_mem_nil⟩), (((((((hF549.tr (hF598.up (by decide))).tr (hF643.up (by decide))).tr (hF691.up (by decide))).tr (hF733.up (by decide))).tr (hF745.up (by decide))).tr (hF757.up (by decide))).tr (xFr.of (S := [82, 83, 112, 113]) hb774 (by decide))), ⟨fun h => by have := pk760.1 h; omega, (show fld w772 82 10 = 0 ∨ FA w772 ≠ 0 by omega), Or.inr ⟨by have := ms763; omega, by omega⟩, hD783⟩⟩
                  · refine xg_t (xg_icT (u := f82_618) (v := 40) rfl xnm0 xnm0 (xj_neT hc655)) ?_
                    refine xg_t (xg_blk (b := [(160, 1, 0, 0, 0, 0), (161, 3, 13, 198, 96, 418)]) rfl) ?_
                    refine xg_t (xg_aload (va := (2, 82)) rfl rfl) ?_
                    obtain ⟨f82_784, f82_786, f82_788, f82_790, f82_792, f82_794, f82_796, f82_798, f82_800, f82_802, f82_804, f82_805, f82_806, f82_808, f82_810, f82_812, h82_814, hb785, hb787, hb789, hb791, hb793, hb795, hb797, hb799, hb801, hb803, hb807, hb809, hb811, hb813, hb815⟩ := (hI642 82 (by decide) (by decide) : cp82 (wget w640 82))
                    refine xg_cVi mX12_numberNow (vs := []) (rest := []) (cn1 := 0) (sl1 := 0) rfl (mNumberNow (hI642) pk651.2.2.2) rfl h82_814 rfl rfl rfl rfl rfl rfl (fun n820 w816 hq817 => ?_)
                    obtain ⟨hn821, hI818, hF819⟩ := hq817
                    obtain ⟨hn822, hn823⟩ := hn821
                    have pk824 : PK w w816 := PK.tr pk651 hn823
                    have ro825 : ∀ l, l < fld w 82 14 → l < 16 → rwv w816 112 (20 * l) = rwv w 112 (20 * l) := fun l hl h6 => (rwv_fr hF819 (by decide)).trans (ro652 l hl h6)
                    have hq826 := pk824
                    unfold PK PS at hq826
                    have ms827 : mu w816 < mu w := Nat.lt_of_le_of_lt hn823.2.1 ms654
                    refine xg_t (xg_blk (b := [(164, 1, 15, 3, 0, 0), (165, 1, 0, 0, 0, 0), (166, 2, 4, 59, 0, 0), (168, 3, 13, 195, 96, 427), (171, 1, 0, 0, 0, 0), (172, 1, 3, 0, 0, 0), (173, 1, 2, 1, 0, 0), (174, 3, 13, 214, 96, 424), (177, 1, 0, 0, 0, 0), (178, 2, 4, 17, 0, 0), (180, 1, 2, 2, 0, 0), (181, 3, 13, 214, 96, 424), (184, 1, 0, 0, 0, 0), (185, 2, 4, 18, 0, 0), (187, 1, 2, 3, 0, 0), (188, 3, 13, 214, 96, 424), (191, 1, 0, 0, 0, 0), (192, 1, 19, 0, 0, 0), (193, 3, 1, 12, 14, 212), (196, 1, 3, 1, 0, 0), (197, 1, 11, 0, 0, 0), (198, 3, 14, 12, 14, 212), (201, 1, 12, 0, 0, 0)]) rfl) ?_
                    refine xg_t (xg_istore (l1 := [(2, (0, f82_618)), (0, (2, 82)), (1, (0, kr))]) rfl rfl rfl) ?_
                    refine xg_t (xg_aload (va := (2, 82)) rfl rfl) ?_
                    refine xg_t (xg_bip) ?_
                    obtain ⟨f82_828, f82_830, f82_832, f82_834, f82_836, f82_838, f82_840, f82_842, f82_844, f82_846, f82_848, f82_849, f82_850, f82_852, f82_854, f82_856, h82_858, hb829, hb831, hb833, hb835, hb837, hb839, hb841, hb843, hb845, hb847, hb851, hb853, hb855, hb857, hb859⟩ := (hI818 82 (by decide) (by decide) : cp82 (wget w816 82))
                    refine xg_cVv mX12_must (vs := [(0, 59)]) (rest := []) (cn1 := 0) (sl1 := 0) rfl (mMust (hI818) (by omega) pk824.2.2.2) rfl h82_858 rfl rfl rfl rfl rfl rfl (fun w860 hq861 => ?_)
                    obtain ⟨hI862, hF863, hx864⟩ := hq861
                    have pk865 : PK w w860 := PK.tr pk824 hx864
                    have ro866 : ∀ l, l < fld w 82 14 → l < 16 → rwv w860 112 (20 * l) = rwv w 112 (20 * l) := fun l hl h6 => (rwv_fr hF863 (by decide)).trans (ro825 l hl h6)
                    have hq867 := pk865
                    unfold PK PS at hq867
                    have ms868 : mu w860 < mu w := Nat.lt_of_le_of_lt hx864.2.1 ms827
                    refine xg_t (xg_aload (va := (2, 82)) rfl rfl) ?_
                    refine xg_t (xg_const) ?_
                    refine xg_t (xg_iload (va := (0, kr)) rfl rfl) ?_
                    have hl869 : fld w860 82 14 ≤ 2000 := by omega
                    obtain ⟨f82_870, f82_872, f82_874, f82_876, f82_878, f82_880, f82_882, f82_884, f82_886, f82_888, f82_890, f82_891, f82_892, f82_894, f82_896, f82_898, h82_900, hb871, hb873, hb875, hb877, hb879, hb881, hb883, hb885, hb887, hb889, hb893, hb895, hb897, hb899, hb901⟩ := (hI862 82 (by decide) (by decide) : cp82 (wget w860 82))
                    refine xg_cVv mX12_rulePuts (vs := [(0, 0), (0, kr)]) (rest := []) (cn1 := 0) (sl1 := 0) rfl (mRulePuts (hI862) (by omega) (by omega) (by omega)) rfl h82_900 rfl rfl rfl rfl rfl rfl (fun w902 hq903 => ?_)
                    obtain ⟨hI904, hF905, hx906⟩ := hq903
                    have hx907 := hx906
                    have pk908 : PK w w902 := PK.tr pk865 (PK.fr hF905 (by decide) (by decide) pk865.2.2.2)
                    have ro909 : ∀ l, l < fld w 82 14 → l < 16 → rwv w902 112 (20 * l) = rwv w 112 (20 * l) := fun l hl h6 => ((hx907 _ (by omega)).2 (by omega)).trans (ro866 l hl h6)
                    have hq910 := pk908
                    unfold PK PS at hq910
                    have ms911 : mu w902 < mu w := Nat.lt_of_le_of_lt (PK.fr hF905 (by decide) (by decide) pk865.2.2.2).2.1 ms868
                    have rz912 : fld w 82 14 < 16 → rwv w902 112 (20 * fld w 82 14) = kr := fun h6 => (hx907 _ (by omega)).1 ⟨by omega, by omega⟩
                    refine xg_t (xg_aload (va := (2, 82)) rfl rfl) ?_
                    refine xg_t (xg_bip) ?_
                    refine xg_t (xg_iload (va := (0, f82_618)) rfl rfl) ?_
                    have hl913 : fld w902 82 14 ≤ 2000 := by omega
                    refine xg_cVv mX12_rulePuts (vs := [(0, 17), (0, f82_618)]) (rest := []) (cn1 := 0) (sl1 := 0) rfl (mRulePuts (hI904) (by omega) (by omega) (by omega)) rfl (hF905.get (by decide) h82_900) rfl rfl rfl rfl rfl rfl (fun w914 hq915 => ?_)
                    obtain ⟨hI916, hF917, hx918⟩ := hq915
                    have hx919 := hx918
                    have pk920 : PK w w914 := PK.tr pk908 (PK.fr hF917 (by decide) (by decide) pk908.2.2.2)
                    have ro921 : ∀ l, l < fld w 82 14 → l < 16 → rwv w914 112 (20 * l) = rwv w 112 (20 * l) := fun l hl h6 => ((hx919 _ (by omega)).2 (by omega)).trans (ro909 l hl h6)
                    have hq922 := pk920
                    unfold PK PS at hq922
                    have ms923 : mu w914 < mu w := Nat.lt_of_le_of_lt (PK.fr hF917 (by decide) (by decide) pk908.2.2.2).2.1 ms911
                    have rz924 : fld w 82 14 < 16 → rwv w914 112 (20 * fld w 82 14) = kr := fun h6 => ((hx919 _ (by omega)).2 (by omega)).trans (rz912 h6)
                    refine xg_t (xg_aload (va := (2, 82)) rfl rfl) ?_
                    refine xg_t (xg_bip) ?_
                    refine xg_t (xg_iload (va := (0, n820)) rfl rfl) ?_
                    have hl925 : fld w914 82 14 ≤ 2000 := by omega
                    refine xg_cVv mX12_rulePuts (vs := [(0, 18), (0, n820)]) (rest := []) (cn1 := 0) (sl1 := 0) rfl (mRulePuts (hI916) (by omega) (by omega) (by omega)) rfl (hF917.get (by decide) (hF905.get (by decide) h82_900)) rfl rfl rfl rfl rfl rfl (fun w926 hq927 => ?_)
                    obtain ⟨hI928, hF929, hx930⟩ := hq927
                    have hx931 := hx930
                    have pk932 : PK w w926 := PK.tr pk920 (PK.fr hF929 (by decide) (by decide) pk920.2.2.2)
                    have ro933 : ∀ l, l < fld w 82 14 → l < 16 → rwv w926 112 (20 * l) = rwv w 112 (20 * l) := fun l hl h6 => ((hx931 _ (by omega)).2 (by omega)).trans (ro921 l hl h6)
                    have hq934 := pk932
                    unfold PK PS at hq934
                    have ms935 : mu w926 < mu w := Nat.lt_of_le_of_lt (PK.fr hF929 (by decide) (by decide) pk920.2.2.2).2.1 ms923
                    have rz936 : fld w 82 14 < 16 → rwv w926 112 (20 * fld w 82 14) = kr := fun h6 => ((hx931 _ (by omega)).2 (by omega)).trans (rz924 h6)
                    have hf937 : fld w926 82 4 = f82_874 := fld_of (hF929.get (by decide) (hF917.get (by decide) (hF905.get (by decide) h82_900)))
                    have hf938 : fld w926 82 5 = f82_876 := fld_of (hF929.get (by decide) (hF917.get (by decide) (hF905.get (by decide) h82_900)))
                    have hf939 : fld w926 82 7 = f82_880 := fld_of (hF929.get (by decide) (hF917.get (by decide) (hF905.get (by decide) h82_900)))
                    have hf940 : fld w926 82 10 = f82_886 := fld_of (hF929.get (by decide) (hF917.get (by decide) (hF905.get (by decide) h82_900)))
                    have hf941 : fld w926 82 14 = f82_888 := fld_of (hF929.get (by decide) (hF917.get (by decide) (hF905.get (by decide) h82_900)))
                    have hu942 : mu w926 = 2 * (fld w926 82 4 - fld w926 82 5) + min 1 (fld w926 82 7) := rfl
                    have hl943 : f82_888 ≤ 1001 := by omega
                    refine xg_t (xg_aload (va := (2, 82)) rfl rfl) ?_
                    refine xg_t (xg_dup rfl) ?_
                    refine xg_t (xg_getf (va := (0, f82_888)) (hF929.get (by decide) (hF917.get (by decide) (hF905.get (by decide) h82_900))) rfl) ?_
                    refine xg_t (xg_const) ?_
                    refine xg_t (xg_iadd (u := f82_888) (v := 1) (z := f82_888 + 1) xnm0 xnm0 (by omega)) ?_
                    refine xg_putI (fl1 := [(2, 83), (2, 84), (0, f82_870), (0, f82_872), (0, f82_874), (0, f82_876), (0, f82_878), (0, f82_880), (0, f82_882), (0, f82_884), (0, f82_886), (2, 85), (2, 86), (2, 87), (0, f82_888 + 1), (2, 88), (2, 89), (2, 90), (2, 91), (2, 92), (2, 93), (2, 94), (4, f82_890), (4, f82_891), (0, f82_892), (2, 95), (2, 96), (2, 97), (2, 98), (2, 99), (2, 100), (2, 101), (2, 102), (0, f82_894), (2, 103), (2, 104), (2, 105), (2, 106), (2, 107), (2, 108), (2, 109), (0, f82_896), (0, f82_898), (2, 110), (2, 111), (2, 112), (2, 113)]) (hF929.get (by decide) (hF917.get (by decide) (hF905.get (by decide) h82_900))) rfl rfl rfl (fun w944 hk945 hb946 => ?_)
                    have hF947 : xFr [82] w926 w944 := xFr.of hb946 (by decide)
                    have hA948 := FA_fr hF947 (by decide)
                    have hf949 : fld w944 82 4 = f82_874 := fld_of hk945
                    have hf950 : fld w944 82 5 = f82_876 := fld_of hk945
                    have hf951 : fld w944 82 7 = f82_880 := fld_of hk945
                    have hf952 : fld w944 82 10 = f82_886 := fld_of hk945
                    have hf953 : fld w944 82 14 = f82_888 + 1 := fld_of hk945
                    have hu954 : mu w944 = 2 * (fld w944 82 4 - fld w944 82 5) + min 1 (fld w944 82 7) := rfl
                    have hD955 : FA w944 ≠ 0 ∨ (RD w → RD w944) := by
                      by_cases z : FA w944 ≠ 0
                      · exact Or.inl z
                      · refine Or.inr (fun hd => ⟨by omega, fun l hl => ?_⟩)
                        rw [rwv_fr hF947 (by decide)]
                        by_cases y : l = fld w 82 14
                        · rw [y, rz936 (by omega)]; omega
                        · rw [ro933 l (by omega) (by have := hd.1; omega)]; exact hd.2 l (by omega)
                    exact xg_e ⟨w944, ⟨rfl, rfl⟩, xMnv.up (S := [82]) hI928 (xFr.of (S := [82]) hb946 (by decide)) (List.forall_mem_cons.mpr ⟨(show cp82 (wget w944 82) from ⟨f82_870, f82_872, f82_874, f82_876, f82_878, f82_880, f82_882, f82_884, f82_886, f82_888 + 1, f82_890, f82_891, f82_892, f82_894, f82_896, f82_898, hk945, by omega, by omega, by omega, by omega, by omega, by omega, by omega, by omega, by omega, by omega, by omega, by omega, by omega, by omega, by omega⟩), fun _ h => absurd h List.not_mem_nil⟩), ((((((((hF549.tr (hF598.up (by decide))).tr (hF643.up (by decide))).tr (hF819.up (by decide))).tr (hF863.up (by decide))).tr (hF905.up (by decide))).tr (hF917.up (by decide))).tr (hF929.up (by decide))).tr (xFr.of (S := [82, 83, 112, 113]) hb946 (by decide))), ⟨fun h => by have := pk932.1 h; omega, (show fld w944 82 10 = 0 ∨ FA w944 ≠ 0 by omega), Or.inr ⟨by have := ms935; omega, by omega⟩, hD955⟩⟩
                · refine xg_t (xg_ifF (u := (if 40 ≤ f82_618 ∧ f82_618 ≤ 42 then 1 else 0)) rfl xnm0 (xj_neF (xite0 hc638))) ?_
                  refine xg_t (xg_blk (b := [(136, 1, 0, 0, 0, 0), (137, 3, 13, 140, 96, 183), (140, 1, 12, 0, 0, 0)]) rfl) ?_
                  refine xg_t (xg_aload (va := (2, 82)) rfl rfl) ?_
                  refine xg_cVv mX12_ends (vs := []) (rest := []) (cn1 := 0) (sl1 := 0) rfl (mEnds (hI597) pk600.2.2.2) rfl h82_634 rfl rfl rfl rfl rfl rfl (fun w956 hq957 => ?_)
                  obtain ⟨hI958, hF959, hx960⟩ := hq957
                  obtain ⟨hv961, hv962, hv963, hv964⟩ := hx960
                  have pk965 : PK w595 w956 := ⟨fun _ => hv961, by omega, by omega, Or.inr hv961⟩
                  have pk966 : PK w w956 := PK.tr pk600 pk965
                  have ro967 : ∀ l, l < fld w 82 14 → l < 16 → rwv w956 112 (20 * l) = rwv w 112 (20 * l) := fun l hl h6 => (rwv_fr hF959 (by decide)).trans (ro601 l hl h6)
                  have hq968 := pk966
                  unfold PK PS at hq968
                  have ms969 : mu w956 < mu w := Nat.lt_of_le_of_lt pk965.2.1 ms603
                  obtain ⟨f82_970, f82_972, f82_974, f82_976, f82_978, f82_980, f82_982, f82_984, f82_986, f82_988, f82_990, f82_991, f82_992, f82_994, f82_996, f82_998, h82_1000, hb971, hb973, hb975, hb977, hb979, hb981, hb983, hb985, hb987, hb989, hb993, hb995, hb997, hb999, hb1001⟩ := (hI958 82 (by decide) (by decide) : cp82 (wget w956 82))
                  exact xg_e ⟨w956, ⟨rfl, rfl⟩, hI958, ((hF549.tr (hF598.up (by decide))).tr (hF959.up (by decide))), ⟨pk966.1, pk966.2.2.2, Or.inl ⟨by omega, pk966.2.1, pk966.2.2.1⟩, Or.inl (by omega)⟩⟩
              · refine xg_t (xg_icT (u := f82_614) (v := 3) rfl xnm0 xnm0 (xj_neT hc637)) ?_
                refine xg_t (xg_blk (b := [(136, 1, 0, 0, 0, 0), (137, 3, 13, 140, 96, 183), (140, 1, 12, 0, 0, 0)]) rfl) ?_
                refine xg_t (xg_aload (va := (2, 82)) rfl rfl) ?_
                refine xg_cVv mX12_ends (vs := []) (rest := []) (cn1 := 0) (sl1 := 0) rfl (mEnds (hI597) pk600.2.2.2) rfl h82_634 rfl rfl rfl rfl rfl rfl (fun w1002 hq1003 => ?_)
                obtain ⟨hI1004, hF1005, hx1006⟩ := hq1003
                obtain ⟨hv1007, hv1008, hv1009, hv1010⟩ := hx1006
                have pk1011 : PK w595 w1002 := ⟨fun _ => hv1007, by omega, by omega, Or.inr hv1007⟩
                have pk1012 : PK w w1002 := PK.tr pk600 pk1011
                have ro1013 : ∀ l, l < fld w 82 14 → l < 16 → rwv w1002 112 (20 * l) = rwv w 112 (20 * l) := fun l hl h6 => (rwv_fr hF1005 (by decide)).trans (ro601 l hl h6)
                have hq1014 := pk1012
                unfold PK PS at hq1014
                have ms1015 : mu w1002 < mu w := Nat.lt_of_le_of_lt pk1011.2.1 ms603
                obtain ⟨f82_1016, f82_1018, f82_1020, f82_1022, f82_1024, f82_1026, f82_1028, f82_1030, f82_1032, f82_1034, f82_1036, f82_1037, f82_1038, f82_1040, f82_1042, f82_1044, h82_1046, hb1017, hb1019, hb1021, hb1023, hb1025, hb1027, hb1029, hb1031, hb1033, hb1035, hb1039, hb1041, hb1043, hb1045, hb1047⟩ := (hI1004 82 (by decide) (by decide) : cp82 (wget w1002 82))
                exact xg_e ⟨w1002, ⟨rfl, rfl⟩, hI1004, ((hF549.tr (hF598.up (by decide))).tr (hF1005.up (by decide))), ⟨pk1012.1, pk1012.2.2.2, Or.inl ⟨by omega, pk1012.2.1, pk1012.2.2.1⟩, Or.inl (by omega)⟩⟩
            · refine xg_t (xg_ifT (u := f82_620) rfl xnm0 (xj_neT hc636)) ?_
              refine xg_t (xg_blk (b := [(136, 1, 0, 0, 0, 0), (137, 3, 13, 140, 96, 183), (140, 1, 12, 0, 0, 0)]) rfl) ?_
              refine xg_t (xg_aload (va := (2, 82)) rfl rfl) ?_
              refine xg_cVv mX12_ends (vs := []) (rest := []) (cn1 := 0) (sl1 := 0) rfl (mEnds (hI597) pk600.2.2.2) rfl h82_634 rfl rfl rfl rfl rfl rfl (fun w1048 hq1049 => ?_)
              obtain ⟨hI1050, hF1051, hx1052⟩ := hq1049
              obtain ⟨hv1053, hv1054, hv1055, hv1056⟩ := hx1052
              have pk1057 : PK w595 w1048 := ⟨fun _ => hv1053, by omega, by omega, Or.inr hv1053⟩
              have pk1058 : PK w w1048 := PK.tr pk600 pk1057
              have ro1059 : ∀ l, l < fld w 82 14 → l < 16 → rwv w1048 112 (20 * l) = rwv w 112 (20 * l) := fun l hl h6 => (rwv_fr hF1051 (by decide)).trans (ro601 l hl h6)
              have hq1060 := pk1058
              unfold PK PS at hq1060
              have ms1061 : mu w1048 < mu w := Nat.lt_of_le_of_lt pk1057.2.1 ms603
              obtain ⟨f82_1062, f82_1064, f82_1066, f82_1068, f82_1070, f82_1072, f82_1074, f82_1076, f82_1078, f82_1080, f82_1082, f82_1083, f82_1084, f82_1086, f82_1088, f82_1090, h82_1092, hb1063, hb1065, hb1067, hb1069, hb1071, hb1073, hb1075, hb1077, hb1079, hb1081, hb1085, hb1087, hb1089, hb1091, hb1093⟩ := (hI1050 82 (by decide) (by decide) : cp82 (wget w1048 82))
              exact xg_e ⟨w1048, ⟨rfl, rfl⟩, hI1050, ((hF549.tr (hF598.up (by decide))).tr (hF1051.up (by decide))), ⟨pk1058.1, pk1058.2.2.2, Or.inl ⟨by omega, pk1058.2.1, pk1058.2.2.1⟩, Or.inl (by omega)⟩⟩
          · refine xg_t (xg_ifF (u := mo) rfl xnm0 (xj_eqF hc594)) ?_
            refine xg_t (xg_iload (va := (0, kr)) rfl rfl) ?_
            refine xg_t (xg_const) ?_
            by_cases hc1094 : 3 < kr
            · refine xg_t (xg_icF (u := kr) (v := 3) rfl xnm0 xnm0 (xj_leF hc1094 (by omega))) ?_
              refine xg_t (xg_aload (va := (2, 82)) rfl rfl) ?_
              refine xg_t (xg_const) ?_
              refine xg_t (xg_aload (va := (2, 82)) rfl rfl) ?_
              refine xg_t (xg_getf (va := (0, f82_570)) h82_592 rfl) ?_
              refine xg_cVv mX12_also (vs := [(0, 3), (0, f82_570)]) (rest := []) (cn1 := 0) (sl1 := 0) rfl (mAlso (hI548) (by omega) (by omega) (by omega) hz554.2.2.2) rfl h82_592 rfl rfl rfl rfl rfl rfl (fun w1095 hq1096 => ?_)
              obtain ⟨hI1097, hF1098, hx1099⟩ := hq1096
              have pk1100 : PK w547 w1095 := ⟨fun _ => hx1099, Nat.le_of_eq (mu_fr hF1098 (by decide)), fld_fr hF1098 (by decide), Or.inr hx1099⟩
              have hA1101 := hx1099
              have pk1102 : PK w w1095 := PK.tr hz554 pk1100
              have ro1103 : ∀ l, l < fld w 82 14 → l < 16 → rwv w1095 112 (20 * l) = rwv w 112 (20 * l) := fun l hl h6 => (rwv_fr hF1098 (by decide)).trans (hz555 l hl h6)
              have hq1104 := pk1102
              unfold PK PS at hq1104
              have ms1105 : mu w1095 < mu w := Nat.lt_of_le_of_lt pk1100.2.1 hz556
              refine xg_t (xg_blk (b := [(49, 1, 0, 0, 0, 0), (50, 3, 13, 109, 96, 421), (53, 1, 3, 0, 0, 0), (54, 1, 15, 3, 0, 0)]) rfl) ?_
              refine xg_t (xg_aload (va := (2, 82)) rfl rfl) ?_
              refine xg_cVv mX12_aTest (vs := []) (rest := []) (cn1 := 0) (sl1 := 0) rfl (mATest (hI1097) pk1102.2.2.2) rfl (hF1098.get (by decide) h82_592) rfl rfl rfl rfl rfl rfl (fun w1106 hq1107 => ?_)
              obtain ⟨hI1108, hF1109, hx1110⟩ := hq1107
              have pk1111 : PK w w1106 := PK.tr pk1102 hx1110
              have ro1112 : ∀ l, l < fld w 82 14 → l < 16 → rwv w1106 112 (20 * l) = rwv w 112 (20 * l) := fun l hl h6 => (rwv_fr hF1109 (by decide)).trans (ro1103 l hl h6)
              have hq1113 := pk1111
              unfold PK PS at hq1113
              have ms1114 : mu w1106 < mu w := Nat.lt_of_le_of_lt hx1110.2.1 ms1105
              refine xg_t (xg_const) ?_
              refine xg_t (xg_istore (l1 := [(0, (2, 82)), (1, (0, kr)), (2, (0, mo))]) rfl rfl rfl) ?_
              refine xg_t (xg_blk (b := [(55, 1, 2, 3, 0, 0), (56, 1, 3, 4, 0, 0), (57, 3, 6, 88, 3, 0), (60, 1, 2, 1, 0, 0), (61, 1, 3, 4, 0, 0), (62, 3, 6, 88, 3, 0), (65, 1, 0, 0, 0, 0), (66, 1, 3, 1, 0, 0), (67, 1, 3, 4, 0, 0), (68, 1, 2, 1, 0, 0), (69, 1, 16, 0, 0, 0), (70, 1, 11, 0, 0, 0), (71, 1, 2, 3, 0, 0), (72, 1, 11, 0, 0, 0), (73, 1, 0, 0, 0, 0), (74, 3, 1, 12, 46, 102), (77, 1, 2, 3, 0, 0), (78, 1, 10, 0, 0, 0), (79, 3, 13, 214, 96, 424), (82, 3, 9, 3, 1, 0), (85, 3, 8, 55, 0, 0)]) rfl) ?_
              refine xg_t (xg_iload (va := (0, 0)) rfl rfl) ?_
              refine xg_t (xg_const) ?_
              refine xg_t (xg_icF (u := 0) (v := 4) rfl xnm0 xnm0 (by decide)) ?_
              refine xg_t (xg_iload (va := (0, kr)) rfl rfl) ?_
              refine xg_t (xg_const) ?_
              refine xg_t (xg_icT (u := kr) (v := 4) rfl xnm0 xnm0 (xj_geT (by omega) (by omega))) ?_
              refine xg_t (xg_blk (b := [(88, 3, 9, 1, 1, 0), (91, 1, 0, 0, 0, 0), (92, 2, 4, 51, 0, 0), (94, 3, 13, 227, 96, 415), (97, 1, 15, 2, 0, 0), (98, 3, 8, 31, 0, 0)]) rfl) ?_
              refine xg_t (xg_iinc (u := kr) (z := kr + 1) (l1 := [(3, (0, 0)), (0, (2, 82)), (2, (0, mo))]) rfl rfl (by omega) rfl) ?_
              refine xg_t (xg_aload (va := (2, 82)) rfl rfl) ?_
              refine xg_t (xg_bip) ?_
              obtain ⟨f82_1115, f82_1117, f82_1119, f82_1121, f82_1123, f82_1125, f82_1127, f82_1129, f82_1131, f82_1133, f82_1135, f82_1136, f82_1137, f82_1139, f82_1141, f82_1143, h82_1145, hb1116, hb1118, hb1120, hb1122, hb1124, hb1126, hb1128, hb1130, hb1132, hb1134, hb1138, hb1140, hb1142, hb1144, hb1146⟩ := (hI1108 82 (by decide) (by decide) : cp82 (wget w1106 82))
              refine xg_cVi mX12_takes (vs := [(0, 51)]) (rest := []) (cn1 := 0) (sl1 := 0) rfl (mTakes (hI1108) (by omega) pk1111.2.2.2) rfl h82_1145 rfl rfl rfl rfl rfl rfl (fun n1151 w1147 hq1148 => ?_)
              obtain ⟨hn1152, hI1149, hF1150⟩ := hq1148
              obtain ⟨hn1153, hn1154, hn1155⟩ := hn1152
              have pk1156 : PK w w1147 := PK.tr pk1111 hn1154
              have ro1157 : ∀ l, l < fld w 82 14 → l < 16 → rwv w1147 112 (20 * l) = rwv w 112 (20 * l) := fun l hl h6 => (rwv_fr hF1150 (by decide)).trans (ro1112 l hl h6)
              have hq1158 := pk1156
              unfold PK PS at hq1158
              have ms1159 : mu w1147 < mu w := Nat.lt_of_le_of_lt hn1154.2.1 ms1114
              refine xg_t (xg_istore (l1 := [(1, (0, kr + 1)), (3, (0, 0)), (0, (2, 82))]) rfl rfl rfl) ?_
              refine xg_t (xg_goto) ?_
              refine xg_t (xg_drop (l1 := [(0, (2, 82)), (1, (0, kr + 1)), (2, (0, n1151))]) (List.forall_mem_cons.mpr ⟨List.mem_cons_of_mem _ (List.mem_cons_of_mem _ (List.mem_cons_of_mem _ (List.mem_cons_self))), List.forall_mem_cons.mpr ⟨List.mem_cons_of_mem _ (List.mem_cons_self), List.forall_mem_cons.mpr ⟨List.mem_cons_self, fun _ h => absurd h List.not_mem_nil⟩⟩⟩)) ?_
              exact ih545 (kr + 1) n1151 w1147 (by omega) (by omega) (by omega) (hI1149) ((((hF549.tr (hF1098.up (by decide))).tr (hF1109.up (by decide))).tr (hF1150.up (by decide)))) (⟨pk1156, ro1157, ms1159, by omega, by omega, fun _ => by omega, fun h => by omega⟩)
            · refine xg_t (xg_icT (u := kr) (v := 3) rfl xnm0 xnm0 (xj_leT (by omega) (by omega))) ?_
              refine xg_t (xg_blk (b := [(49, 1, 0, 0, 0, 0), (50, 3, 13, 109, 96, 421), (53, 1, 3, 0, 0, 0), (54, 1, 15, 3, 0, 0)]) rfl) ?_
              refine xg_t (xg_aload (va := (2, 82)) rfl rfl) ?_
              refine xg_cVv mX12_aTest (vs := []) (rest := []) (cn1 := 0) (sl1 := 0) rfl (mATest (hI548) hz554.2.2.2) rfl h82_592 rfl rfl rfl rfl rfl rfl (fun w1160 hq1161 => ?_)
              obtain ⟨hI1162, hF1163, hx1164⟩ := hq1161
              have pk1165 : PK w w1160 := PK.tr hz554 hx1164
              have ro1166 : ∀ l, l < fld w 82 14 → l < 16 → rwv w1160 112 (20 * l) = rwv w 112 (20 * l) := fun l hl h6 => (rwv_fr hF1163 (by decide)).trans (hz555 l hl h6)
              have hq1167 := pk1165
              unfold PK PS at hq1167
              have ms1168 : mu w1160 < mu w := Nat.lt_of_le_of_lt hx1164.2.1 hz556
              refine xg_t (xg_const) ?_
              refine xg_t (xg_istore (l1 := [(0, (2, 82)), (1, (0, kr)), (2, (0, mo))]) rfl rfl rfl) ?_
              refine xg_t (xg_blk (b := [(55, 1, 2, 3, 0, 0), (56, 1, 3, 4, 0, 0), (57, 3, 6, 88, 3, 0), (60, 1, 2, 1, 0, 0), (61, 1, 3, 4, 0, 0), (62, 3, 6, 88, 3, 0), (65, 1, 0, 0, 0, 0), (66, 1, 3, 1, 0, 0), (67, 1, 3, 4, 0, 0), (68, 1, 2, 1, 0, 0), (69, 1, 16, 0, 0, 0), (70, 1, 11, 0, 0, 0), (71, 1, 2, 3, 0, 0), (72, 1, 11, 0, 0, 0), (73, 1, 0, 0, 0, 0), (74, 3, 1, 12, 46, 102), (77, 1, 2, 3, 0, 0), (78, 1, 10, 0, 0, 0), (79, 3, 13, 214, 96, 424), (82, 3, 9, 3, 1, 0), (85, 3, 8, 55, 0, 0)]) rfl) ?_
              refine xg_t (xg_iload (va := (0, 0)) rfl rfl) ?_
              refine xg_t (xg_const) ?_
              refine xg_t (xg_icF (u := 0) (v := 4) rfl xnm0 xnm0 (by decide)) ?_
              refine xg_t (xg_iload (va := (0, kr)) rfl rfl) ?_
              refine xg_t (xg_const) ?_
              refine xg_t (xg_icF (u := kr) (v := 4) rfl xnm0 xnm0 (xj_geF (by omega) (by omega))) ?_
              refine xg_t (xg_aload (va := (2, 82)) rfl rfl) ?_
              refine xg_t (xg_const) ?_
              refine xg_t (xg_const) ?_
              refine xg_t (xg_iload (va := (0, kr)) rfl rfl) ?_
              refine xg_t (xg_imul (u := 4) (v := kr) (z := 4 * kr) xnm0 xnm0 (by omega)) ?_
              refine xg_t (xg_iadd (u := 1) (v := 4 * kr) (z := 1 + (4 * kr)) xnm0 xnm0 (by omega)) ?_
              refine xg_t (xg_iload (va := (0, 0)) rfl rfl) ?_
              refine xg_t (xg_iadd (u := 1 + (4 * kr)) (v := 0) (z := (1 + (4 * kr)) + 0) xnm0 xnm0 (by omega)) ?_
              refine xg_t (xg_aload (va := (2, 82)) rfl rfl) ?_
              obtain ⟨f82_1169, f82_1171, f82_1173, f82_1175, f82_1177, f82_1179, f82_1181, f82_1183, f82_1185, f82_1187, f82_1189, f82_1190, f82_1191, f82_1193, f82_1195, f82_1197, h82_1199, hb1170, hb1172, hb1174, hb1176, hb1178, hb1180, hb1182, hb1184, hb1186, hb1188, hb1192, hb1194, hb1196, hb1198, hb1200⟩ := (hI1162 82 (by decide) (by decide) : cp82 (wget w1160 82))
              refine xg_t (xg_getf (va := (2, 113)) h82_1199 rfl) ?_
              refine xg_t (xg_iload (va := (0, 0)) rfl rfl) ?_
              obtain ⟨g113_1201, h113_1202, hb1203⟩ := (hI1162 113 (by decide) (by decide) : cpI 4 80 4294967295 (wget w1160 113))
              have h113_1202 : xRow w1160 113 4 80 g113_1201 := h113_1202
              refine xg_ialdB (n := 0) (B := 4294967295) h113_1202 (hb1203) xnm0 (by omega) (fun u1204 hu1205 he1206 => ?_)
              have hl1207 : fld w1160 82 14 ≤ 2000 := by omega
              refine xg_cVv mX12_rulePuts (vs := [(0, (1 + (4 * kr)) + 0), (0, u1204)]) (rest := []) (cn1 := 0) (sl1 := 0) rfl (mRulePuts (hI1162) (by omega) (by omega) (by omega)) rfl h82_1199 rfl rfl rfl rfl rfl rfl (fun w1208 hq1209 => ?_)
              obtain ⟨hI1210, hF1211, hx1212⟩ := hq1209
              have hx1213 := hx1212
              have pk1214 : PK w w1208 := PK.tr pk1165 (PK.fr hF1211 (by decide) (by decide) pk1165.2.2.2)
              have ro1215 : ∀ l, l < fld w 82 14 → l < 16 → rwv w1208 112 (20 * l) = rwv w 112 (20 * l) := fun l hl h6 => ((hx1213 _ (by omega)).2 (by omega)).trans (ro1166 l hl h6)
              have hq1216 := pk1214
              unfold PK PS at hq1216
              have ms1217 : mu w1208 < mu w := Nat.lt_of_le_of_lt (PK.fr hF1211 (by decide) (by decide) pk1165.2.2.2).2.1 ms1168
              refine xg_t (xg_iinc (u := 0) (z := 1) (l1 := [(0, (2, 82)), (1, (0, kr)), (2, (0, mo))]) rfl rfl (by decide) rfl) ?_
              refine xg_t (xg_goto) ?_
              refine xg_t (xg_blk (b := [(55, 1, 2, 3, 0, 0), (56, 1, 3, 4, 0, 0), (57, 3, 6, 88, 3, 0), (60, 1, 2, 1, 0, 0), (61, 1, 3, 4, 0, 0), (62, 3, 6, 88, 3, 0), (65, 1, 0, 0, 0, 0), (66, 1, 3, 1, 0, 0), (67, 1, 3, 4, 0, 0), (68, 1, 2, 1, 0, 0), (69, 1, 16, 0, 0, 0), (70, 1, 11, 0, 0, 0), (71, 1, 2, 3, 0, 0), (72, 1, 11, 0, 0, 0), (73, 1, 0, 0, 0, 0), (74, 3, 1, 12, 46, 102), (77, 1, 2, 3, 0, 0), (78, 1, 10, 0, 0, 0), (79, 3, 13, 214, 96, 424), (82, 3, 9, 3, 1, 0), (85, 3, 8, 55, 0, 0)]) rfl) ?_
              refine xg_t (xg_iload (va := (0, 1)) rfl rfl) ?_
              refine xg_t (xg_const) ?_
              refine xg_t (xg_icF (u := 1) (v := 4) rfl xnm0 xnm0 (by decide)) ?_
              refine xg_t (xg_iload (va := (0, kr)) rfl rfl) ?_
              refine xg_t (xg_const) ?_
              refine xg_t (xg_icF (u := kr) (v := 4) rfl xnm0 xnm0 (xj_geF (by omega) (by omega))) ?_
              refine xg_t (xg_aload (va := (2, 82)) rfl rfl) ?_
              refine xg_t (xg_const) ?_
              refine xg_t (xg_const) ?_
              refine xg_t (xg_iload (va := (0, kr)) rfl rfl) ?_
              refine xg_t (xg_imul (u := 4) (v := kr) (z := 4 * kr) xnm0 xnm0 (by omega)) ?_
              refine xg_t (xg_iadd (u := 1) (v := 4 * kr) (z := 1 + (4 * kr)) xnm0 xnm0 (by omega)) ?_
              refine xg_t (xg_iload (va := (0, 1)) rfl rfl) ?_
              refine xg_t (xg_iadd (u := 1 + (4 * kr)) (v := 1) (z := (1 + (4 * kr)) + 1) xnm0 xnm0 (by omega)) ?_
              refine xg_t (xg_aload (va := (2, 82)) rfl rfl) ?_
              refine xg_t (xg_getf (va := (2, 113)) (hF1211.get (by decide) h82_1199) rfl) ?_
              refine xg_t (xg_iload (va := (0, 1)) rfl rfl) ?_
              refine xg_ialdB (n := 1) (B := 4294967295) (h113_1202.fr hF1211 (by decide)) (hb1203) xnm0 (by omega) (fun u1218 hu1219 he1220 => ?_)
              have hl1221 : fld w1208 82 14 ≤ 2000 := by omega
              refine xg_cVv mX12_rulePuts (vs := [(0, (1 + (4 * kr)) + 1), (0, u1218)]) (rest := []) (cn1 := 0) (sl1 := 0) rfl (mRulePuts (hI1210) (by omega) (by omega) (by omega)) rfl (hF1211.get (by decide) h82_1199) rfl rfl rfl rfl rfl rfl (fun w1222 hq1223 => ?_)
              obtain ⟨hI1224, hF1225, hx1226⟩ := hq1223
              have hx1227 := hx1226
              have pk1228 : PK w w1222 := PK.tr pk1214 (PK.fr hF1225 (by decide) (by decide) pk1214.2.2.2)
              have ro1229 : ∀ l, l < fld w 82 14 → l < 16 → rwv w1222 112 (20 * l) = rwv w 112 (20 * l) := fun l hl h6 => ((hx1227 _ (by omega)).2 (by omega)).trans (ro1215 l hl h6)
              have hq1230 := pk1228
              unfold PK PS at hq1230
              have ms1231 : mu w1222 < mu w := Nat.lt_of_le_of_lt (PK.fr hF1225 (by decide) (by decide) pk1214.2.2.2).2.1 ms1217
              refine xg_t (xg_iinc (u := 1) (z := 2) (l1 := [(0, (2, 82)), (1, (0, kr)), (2, (0, mo))]) rfl rfl (by decide) rfl) ?_
              refine xg_t (xg_goto) ?_
              refine xg_t (xg_blk (b := [(55, 1, 2, 3, 0, 0), (56, 1, 3, 4, 0, 0), (57, 3, 6, 88, 3, 0), (60, 1, 2, 1, 0, 0), (61, 1, 3, 4, 0, 0), (62, 3, 6, 88, 3, 0), (65, 1, 0, 0, 0, 0), (66, 1, 3, 1, 0, 0), (67, 1, 3, 4, 0, 0), (68, 1, 2, 1, 0, 0), (69, 1, 16, 0, 0, 0), (70, 1, 11, 0, 0, 0), (71, 1, 2, 3, 0, 0), (72, 1, 11, 0, 0, 0), (73, 1, 0, 0, 0, 0), (74, 3, 1, 12, 46, 102), (77, 1, 2, 3, 0, 0), (78, 1, 10, 0, 0, 0), (79, 3, 13, 214, 96, 424), (82, 3, 9, 3, 1, 0), (85, 3, 8, 55, 0, 0)]) rfl) ?_
              refine xg_t (xg_iload (va := (0, 2)) rfl rfl) ?_
              refine xg_t (xg_const) ?_
              refine xg_t (xg_icF (u := 2) (v := 4) rfl xnm0 xnm0 (by decide)) ?_
              refine xg_t (xg_iload (va := (0, kr)) rfl rfl) ?_
              refine xg_t (xg_const) ?_
              refine xg_t (xg_icF (u := kr) (v := 4) rfl xnm0 xnm0 (xj_geF (by omega) (by omega))) ?_
              refine xg_t (xg_aload (va := (2, 82)) rfl rfl) ?_
              refine xg_t (xg_const) ?_
              refine xg_t (xg_const) ?_
              refine xg_t (xg_iload (va := (0, kr)) rfl rfl) ?_
              refine xg_t (xg_imul (u := 4) (v := kr) (z := 4 * kr) xnm0 xnm0 (by omega)) ?_
              refine xg_t (xg_iadd (u := 1) (v := 4 * kr) (z := 1 + (4 * kr)) xnm0 xnm0 (by omega)) ?_
              refine xg_t (xg_iload (va := (0, 2)) rfl rfl) ?_
              refine xg_t (xg_iadd (u := 1 + (4 * kr)) (v := 2) (z := (1 + (4 * kr)) + 2) xnm0 xnm0 (by omega)) ?_
              refine xg_t (xg_aload (va := (2, 82)) rfl rfl) ?_
              refine xg_t (xg_getf (va := (2, 113)) (hF1225.get (by decide) (hF1211.get (by decide) h82_1199)) rfl) ?_
              refine xg_t (xg_iload (va := (0, 2)) rfl rfl) ?_
              refine xg_ialdB (n := 2) (B := 4294967295) ((h113_1202.fr hF1211 (by decide)).fr hF1225 (by decide)) (hb1203) xnm0 (by omega) (fun u1232 hu1233 he1234 => ?_)
              have hl1235 : fld w1222 82 14 ≤ 2000 := by omega
              refine xg_cVv mX12_rulePuts (vs := [(0, (1 + (4 * kr)) + 2), (0, u1232)]) (rest := []) (cn1 := 0) (sl1 := 0) rfl (mRulePuts (hI1224) (by omega) (by omega) (by omega)) rfl (hF1225.get (by decide) (hF1211.get (by decide) h82_1199)) rfl rfl rfl rfl rfl rfl (fun w1236 hq1237 => ?_)
              obtain ⟨hI1238, hF1239, hx1240⟩ := hq1237
              have hx1241 := hx1240
              have pk1242 : PK w w1236 := PK.tr pk1228 (PK.fr hF1239 (by decide) (by decide) pk1228.2.2.2)
              have ro1243 : ∀ l, l < fld w 82 14 → l < 16 → rwv w1236 112 (20 * l) = rwv w 112 (20 * l) := fun l hl h6 => ((hx1241 _ (by omega)).2 (by omega)).trans (ro1229 l hl h6)
              have hq1244 := pk1242
              unfold PK PS at hq1244
              have ms1245 : mu w1236 < mu w := Nat.lt_of_le_of_lt (PK.fr hF1239 (by decide) (by decide) pk1228.2.2.2).2.1 ms1231
              refine xg_t (xg_iinc (u := 2) (z := 3) (l1 := [(0, (2, 82)), (1, (0, kr)), (2, (0, mo))]) rfl rfl (by decide) rfl) ?_
              refine xg_t (xg_goto) ?_
              refine xg_t (xg_blk (b := [(55, 1, 2, 3, 0, 0), (56, 1, 3, 4, 0, 0), (57, 3, 6, 88, 3, 0), (60, 1, 2, 1, 0, 0), (61, 1, 3, 4, 0, 0), (62, 3, 6, 88, 3, 0), (65, 1, 0, 0, 0, 0), (66, 1, 3, 1, 0, 0), (67, 1, 3, 4, 0, 0), (68, 1, 2, 1, 0, 0), (69, 1, 16, 0, 0, 0), (70, 1, 11, 0, 0, 0), (71, 1, 2, 3, 0, 0), (72, 1, 11, 0, 0, 0), (73, 1, 0, 0, 0, 0), (74, 3, 1, 12, 46, 102), (77, 1, 2, 3, 0, 0), (78, 1, 10, 0, 0, 0), (79, 3, 13, 214, 96, 424), (82, 3, 9, 3, 1, 0), (85, 3, 8, 55, 0, 0)]) rfl) ?_
              refine xg_t (xg_iload (va := (0, 3)) rfl rfl) ?_
              refine xg_t (xg_const) ?_
              refine xg_t (xg_icF (u := 3) (v := 4) rfl xnm0 xnm0 (by decide)) ?_
              refine xg_t (xg_iload (va := (0, kr)) rfl rfl) ?_
              refine xg_t (xg_const) ?_
              refine xg_t (xg_icF (u := kr) (v := 4) rfl xnm0 xnm0 (xj_geF (by omega) (by omega))) ?_
              refine xg_t (xg_aload (va := (2, 82)) rfl rfl) ?_
              refine xg_t (xg_const) ?_
              refine xg_t (xg_const) ?_
              refine xg_t (xg_iload (va := (0, kr)) rfl rfl) ?_
              refine xg_t (xg_imul (u := 4) (v := kr) (z := 4 * kr) xnm0 xnm0 (by omega)) ?_
              refine xg_t (xg_iadd (u := 1) (v := 4 * kr) (z := 1 + (4 * kr)) xnm0 xnm0 (by omega)) ?_
              refine xg_t (xg_iload (va := (0, 3)) rfl rfl) ?_
              refine xg_t (xg_iadd (u := 1 + (4 * kr)) (v := 3) (z := (1 + (4 * kr)) + 3) xnm0 xnm0 (by omega)) ?_
              refine xg_t (xg_aload (va := (2, 82)) rfl rfl) ?_
              refine xg_t (xg_getf (va := (2, 113)) (hF1239.get (by decide) (hF1225.get (by decide) (hF1211.get (by decide) h82_1199))) rfl) ?_
              refine xg_t (xg_iload (va := (0, 3)) rfl rfl) ?_
              refine xg_ialdB (n := 3) (B := 4294967295) (((h113_1202.fr hF1211 (by decide)).fr hF1225 (by decide)).fr hF1239 (by decide)) (hb1203) xnm0 (by omega) (fun u1246 hu1247 he1248 => ?_)
              have hl1249 : fld w1236 82 14 ≤ 2000 := by omega
              refine xg_cVv mX12_rulePuts (vs := [(0, (1 + (4 * kr)) + 3), (0, u1246)]) (rest := []) (cn1 := 0) (sl1 := 0) rfl (mRulePuts (hI1238) (by omega) (by omega) (by omega)) rfl (hF1239.get (by decide) (hF1225.get (by decide) (hF1211.get (by decide) h82_1199))) rfl rfl rfl rfl rfl rfl (fun w1250 hq1251 => ?_)
              obtain ⟨hI1252, hF1253, hx1254⟩ := hq1251
              have hx1255 := hx1254
              have pk1256 : PK w w1250 := PK.tr pk1242 (PK.fr hF1253 (by decide) (by decide) pk1242.2.2.2)
              have ro1257 : ∀ l, l < fld w 82 14 → l < 16 → rwv w1250 112 (20 * l) = rwv w 112 (20 * l) := fun l hl h6 => ((hx1255 _ (by omega)).2 (by omega)).trans (ro1243 l hl h6)
              have hq1258 := pk1256
              unfold PK PS at hq1258
              have ms1259 : mu w1250 < mu w := Nat.lt_of_le_of_lt (PK.fr hF1253 (by decide) (by decide) pk1242.2.2.2).2.1 ms1245
              refine xg_t (xg_iinc (u := 3) (z := 4) (l1 := [(0, (2, 82)), (1, (0, kr)), (2, (0, mo))]) rfl rfl (by decide) rfl) ?_
              refine xg_t (xg_goto) ?_
              refine xg_t (xg_blk (b := [(55, 1, 2, 3, 0, 0), (56, 1, 3, 4, 0, 0), (57, 3, 6, 88, 3, 0), (60, 1, 2, 1, 0, 0), (61, 1, 3, 4, 0, 0), (62, 3, 6, 88, 3, 0), (65, 1, 0, 0, 0, 0), (66, 1, 3, 1, 0, 0), (67, 1, 3, 4, 0, 0), (68, 1, 2, 1, 0, 0), (69, 1, 16, 0, 0, 0), (70, 1, 11, 0, 0, 0), (71, 1, 2, 3, 0, 0), (72, 1, 11, 0, 0, 0), (73, 1, 0, 0, 0, 0), (74, 3, 1, 12, 46, 102), (77, 1, 2, 3, 0, 0), (78, 1, 10, 0, 0, 0), (79, 3, 13, 214, 96, 424), (82, 3, 9, 3, 1, 0), (85, 3, 8, 55, 0, 0)]) rfl) ?_
              refine xg_t (xg_iload (va := (0, 4)) rfl rfl) ?_
              refine xg_t (xg_const) ?_
              refine xg_t (xg_icT (u := 4) (v := 4) rfl xnm0 xnm0 (by decide)) ?_
              refine xg_t (xg_blk (b := [(88, 3, 9, 1, 1, 0), (91, 1, 0, 0, 0, 0), (92, 2, 4, 51, 0, 0), (94, 3, 13, 227, 96, 415), (97, 1, 15, 2, 0, 0), (98, 3, 8, 31, 0, 0)]) rfl) ?_
              refine xg_t (xg_iinc (u := kr) (z := kr + 1) (l1 := [(3, (0, 4)), (0, (2, 82)), (2, (0, mo))]) rfl rfl (by omega) rfl) ?_
              refine xg_t (xg_aload (va := (2, 82)) rfl rfl) ?_
              refine xg_t (xg_bip) ?_
              refine xg_cVi mX12_takes (vs := [(0, 51)]) (rest := []) (cn1 := 0) (sl1 := 0) rfl (mTakes (hI1252) (by omega) pk1256.2.2.2) rfl (hF1253.get (by decide) (hF1239.get (by decide) (hF1225.get (by decide) (hF1211.get (by decide) h82_1199)))) rfl rfl rfl rfl rfl rfl (fun n1264 w1260 hq1261 => ?_)
              obtain ⟨hn1265, hI1262, hF1263⟩ := hq1261
              obtain ⟨hn1266, hn1267, hn1268⟩ := hn1265
              have pk1269 : PK w w1260 := PK.tr pk1256 hn1267
              have ro1270 : ∀ l, l < fld w 82 14 → l < 16 → rwv w1260 112 (20 * l) = rwv w 112 (20 * l) := fun l hl h6 => (rwv_fr hF1263 (by decide)).trans (ro1257 l hl h6)
              have hq1271 := pk1269
              unfold PK PS at hq1271
              have ms1272 : mu w1260 < mu w := Nat.lt_of_le_of_lt hn1267.2.1 ms1259
              refine xg_t (xg_istore (l1 := [(1, (0, kr + 1)), (3, (0, 4)), (0, (2, 82))]) rfl rfl rfl) ?_
              refine xg_t (xg_goto) ?_
              refine xg_t (xg_drop (l1 := [(0, (2, 82)), (1, (0, kr + 1)), (2, (0, n1264))]) (List.forall_mem_cons.mpr ⟨List.mem_cons_of_mem _ (List.mem_cons_of_mem _ (List.mem_cons_of_mem _ (List.mem_cons_self))), List.forall_mem_cons.mpr ⟨List.mem_cons_of_mem _ (List.mem_cons_self), List.forall_mem_cons.mpr ⟨List.mem_cons_self, fun _ h => absurd h List.not_mem_nil⟩⟩⟩)) ?_
              exact ih545 (kr + 1) n1264 w1260 (by omega) (by omega) (by omega) (hI1262) (((((((hF549.tr (hF1163.up (by decide))).tr (hF1211.up (by decide))).tr (hF1225.up (by decide))).tr (hF1239.up (by decide))).tr (hF1253.up (by decide))).tr (hF1263.up (by decide)))) (⟨pk1269, ro1270, ms1272, by omega, by omega, fun _ => by omega, fun h => by omega⟩)
      exact key544 _ 0 1 w43 (Nat.lt_succ_self _) (by omega) (by omega) (hI45) ((hF46.up (by decide))) (⟨pk52, ro53, ms543, by omega, by omega, fun _ => by omega, fun h => by omega⟩)
  · refine xg_t (xg_icF (u := f82_19) (v := 16) rfl xnm0 xnm0 (xj_ltF (by omega) (by omega))) ?_
    refine xg_t (xg_aload (va := (2, 82)) rfl rfl) ?_
    refine xg_t (xg_const) ?_
    refine xg_t (xg_aload (va := (2, 82)) rfl rfl) ?_
    refine xg_t (xg_getf (va := (0, f82_9)) h82_31 rfl) ?_
    refine xg_cVv mX12_also (vs := [(0, 3), (0, f82_9)]) (rest := []) (cn1 := 0) (sl1 := 0) rfl (mAlso (hI) (by omega) (by omega) (by omega) (PK.rf hps).2.2.2) rfl h82_31 rfl rfl rfl rfl rfl rfl (fun w1273 hq1274 => ?_)
    obtain ⟨hI1275, hF1276, hx1277⟩ := hq1274
    have pk1278 : PK w w1273 := ⟨fun _ => hx1277, Nat.le_of_eq (mu_fr hF1276 (by decide)), fld_fr hF1276 (by decide), Or.inr hx1277⟩
    have hA1279 := hx1277
    have pk1280 : PK w w1273 := PK.tr (PK.rf hps) pk1278
    have ro1281 : ∀ l, l < fld w 82 14 → l < 16 → rwv w1273 112 (20 * l) = rwv w 112 (20 * l) := fun l hl h6 => (rwv_fr hF1276 (by decide)).trans ((fun l _ _ => rfl) l hl h6)
    have hq1282 := pk1280
    unfold PK PS at hq1282
    refine xg_t (xg_blk (b := [(18, 1, 3, 0, 0, 0), (19, 1, 15, 1, 0, 0), (20, 1, 0, 0, 0, 0), (21, 2, 4, 50, 0, 0), (23, 3, 13, 227, 96, 415), (26, 3, 7, 107, 0, 0), (29, 1, 3, 1, 0, 0), (30, 1, 15, 2, 0, 0)]) rfl) ?_
    refine xg_t (xg_const) ?_
    refine xg_t (xg_istore (l1 := [(0, (2, 82))]) rfl rfl rfl) ?_
    refine xg_t (xg_aload (va := (2, 82)) rfl rfl) ?_
    refine xg_t (xg_bip) ?_
    refine xg_cVi mX12_takes (vs := [(0, 50)]) (rest := []) (cn1 := 0) (sl1 := 0) rfl (mTakes (hI1275) (by omega) pk1280.2.2.2) rfl (hF1276.get (by decide) h82_31) rfl rfl rfl rfl rfl rfl (fun n1287 w1283 hq1284 => ?_)
    obtain ⟨hn1288, hI1285, hF1286⟩ := hq1284
    obtain ⟨hn1289, hn1290, hn1291⟩ := hn1288
    have pk1292 : PK w w1283 := PK.tr pk1280 hn1290
    have ro1293 : ∀ l, l < fld w 82 14 → l < 16 → rwv w1283 112 (20 * l) = rwv w 112 (20 * l) := fun l hl h6 => (rwv_fr hF1286 (by decide)).trans (ro1281 l hl h6)
    have hq1294 := pk1292
    unfold PK PS at hq1294
    by_cases hc1295 : n1287 = 0
    · refine xg_t (xg_ifT (u := n1287) rfl xnm0 (xj_eqT hc1295)) ?_
      refine xg_t (xg_blk (b := [(107, 1, 0, 0, 0, 0), (108, 3, 1, 12, 10, 180), (111, 3, 7, 136, 1, 0), (114, 1, 0, 0, 0, 0), (115, 3, 1, 12, 7, 151), (118, 1, 3, 3, 0, 0), (119, 3, 6, 136, 1, 0), (122, 1, 0, 0, 0, 0), (123, 3, 1, 12, 9, 165), (126, 2, 4, 40, 0, 0), (128, 2, 4, 42, 0, 0), (130, 3, 13, 161, 98, 105), (133, 3, 7, 141, 1, 0)]) rfl) ?_
      refine xg_t (xg_aload (va := (2, 82)) rfl rfl) ?_
      obtain ⟨f82_1296, f82_1298, f82_1300, f82_1302, f82_1304, f82_1306, f82_1308, f82_1310, f82_1312, f82_1314, f82_1316, f82_1317, f82_1318, f82_1320, f82_1322, f82_1324, h82_1326, hb1297, hb1299, hb1301, hb1303, hb1305, hb1307, hb1309, hb1311, hb1313, hb1315, hb1319, hb1321, hb1323, hb1325, hb1327⟩ := (hI1285 82 (by decide) (by decide) : cp82 (wget w1283 82))
      refine xg_t (xg_getf (va := (0, f82_1312)) h82_1326 rfl) ?_
      by_cases hc1328 : f82_1312 = 0
      · refine xg_t (xg_ifF (u := f82_1312) rfl xnm0 (xj_neF hc1328)) ?_
        refine xg_t (xg_aload (va := (2, 82)) rfl rfl) ?_
        refine xg_t (xg_getf (va := (0, f82_1306)) h82_1326 rfl) ?_
        refine xg_t (xg_const) ?_
        by_cases hc1329 : f82_1306 = 3
        · refine xg_t (xg_icF (u := f82_1306) (v := 3) rfl xnm0 xnm0 (xj_neF hc1329)) ?_
          refine xg_t (xg_aload (va := (2, 82)) rfl rfl) ?_
          refine xg_t (xg_getf (va := (0, f82_1310)) h82_1326 rfl) ?_
          refine xg_t (xg_bip) ?_
          refine xg_t (xg_bip) ?_
          refine xg_t (xg_cSr mX12_isIn (vs := [(0, f82_1310), (0, 40), (0, 42)]) (rest := []) (rs := [(0, if 40 ≤ f82_1310 ∧ f82_1310 ≤ 42 then 1 else 0)]) (cn1 := 0) (sl1 := 0) rfl (mIsIn (by omega) (by omega) (by omega)) rfl rfl rfl rfl rfl rfl rfl rfl) ?_
          by_cases hc1330 : 40 ≤ f82_1310 ∧ f82_1310 ≤ 42
          · refine xg_t (xg_ifT (u := (if 40 ≤ f82_1310 ∧ f82_1310 ≤ 42 then 1 else 0)) rfl xnm0 (xj_neT (xite1 hc1330))) ?_
            refine xg_t (xg_blk (b := [(141, 1, 0, 0, 0, 0), (142, 3, 1, 12, 9, 165), (145, 1, 15, 2, 0, 0), (146, 1, 0, 0, 0, 0), (147, 3, 13, 110, 96, 190), (150, 1, 2, 2, 0, 0), (151, 2, 4, 40, 0, 0), (153, 3, 6, 160, 1, 0), (156, 1, 3, 0, 0, 0), (157, 3, 8, 164, 0, 0)]) rfl) ?_
            refine xg_t (xg_aload (va := (2, 82)) rfl rfl) ?_
            refine xg_t (xg_getf (va := (0, f82_1310)) h82_1326 rfl) ?_
            refine xg_t (xg_istore (l1 := [(1, (0, 0)), (0, (2, 82))]) rfl rfl rfl) ?_
            refine xg_t (xg_aload (va := (2, 82)) rfl rfl) ?_
            have hf1331 : fld w1283 82 7 = f82_1306 := fld_of h82_1326
            refine xg_cVv mX12_advance (vs := []) (rest := []) (cn1 := 0) (sl1 := 0) rfl (mAdvance (hI1285)) rfl h82_1326 rfl rfl rfl rfl rfl rfl (fun w1332 hq1333 => ?_)
            obtain ⟨hI1334, hF1335, hx1336⟩ := hq1333
            obtain ⟨hv1337, hv1338, hv1339, hv1340⟩ := hx1336
            have hf1341 := FA_fr hF1335 (by decide)
            have pk1342 : PK w1283 w1332 := ⟨fun _ => by omega, hv1337, hv1340, (show fld w1332 82 10 = 0 ∨ FA w1332 ≠ 0 by omega)⟩
            have pk1343 : PK w w1332 := PK.tr pk1292 pk1342
            have ro1344 : ∀ l, l < fld w 82 14 → l < 16 → rwv w1332 112 (20 * l) = rwv w 112 (20 * l) := fun l hl h6 => (rwv_fr hF1335 (by decide)).trans (ro1293 l hl h6)
            have hq1345 := pk1343
            unfold PK PS at hq1345
            have ms1346 : mu w1332 < mu w := Nat.lt_of_lt_of_le (hv1338 (by omega)) pk1292.2.1
            refine xg_t (xg_iload (va := (0, f82_1310)) rfl rfl) ?_
            refine xg_t (xg_bip) ?_
            by_cases hc1347 : f82_1310 = 40
            · refine xg_t (xg_icF (u := f82_1310) (v := 40) rfl xnm0 xnm0 (xj_neF hc1347)) ?_
              refine xg_t (xg_const) ?_
              refine xg_t (xg_goto) ?_
              refine xg_t (xg_blk (b := [(164, 1, 15, 3, 0, 0), (165, 1, 0, 0, 0, 0), (166, 2, 4, 59, 0, 0), (168, 3, 13, 195, 96, 427), (171, 1, 0, 0, 0, 0), (172, 1, 3, 0, 0, 0), (173, 1, 2, 1, 0, 0), (174, 3, 13, 214, 96, 424), (177, 1, 0, 0, 0, 0), (178, 2, 4, 17, 0, 0), (180, 1, 2, 2, 0, 0), (181, 3, 13, 214, 96, 424), (184, 1, 0, 0, 0, 0), (185, 2, 4, 18, 0, 0), (187, 1, 2, 3, 0, 0), (188, 3, 13, 214, 96, 424), (191, 1, 0, 0, 0, 0), (192, 1, 19, 0, 0, 0), (193, 3, 1, 12, 14, 212), (196, 1, 3, 1, 0, 0), (197, 1, 11, 0, 0, 0), (198, 3, 14, 12, 14, 212), (201, 1, 12, 0, 0, 0)]) rfl) ?_
              refine xg_t (xg_istore (l1 := [(2, (0, f82_1310)), (1, (0, 0)), (0, (2, 82))]) rfl rfl rfl) ?_
              refine xg_t (xg_aload (va := (2, 82)) rfl rfl) ?_
              refine xg_t (xg_bip) ?_
              obtain ⟨f82_1348, f82_1350, f82_1352, f82_1354, f82_1356, f82_1358, f82_1360, f82_1362, f82_1364, f82_1366, f82_1368, f82_1369, f82_1370, f82_1372, f82_1374, f82_1376, h82_1378, hb1349, hb1351, hb1353, hb1355, hb1357, hb1359, hb1361, hb1363, hb1365, hb1367, hb1371, hb1373, hb1375, hb1377, hb1379⟩ := (hI1334 82 (by decide) (by decide) : cp82 (wget w1332 82))
              refine xg_cVv mX12_must (vs := [(0, 59)]) (rest := []) (cn1 := 0) (sl1 := 0) rfl (mMust (hI1334) (by omega) pk1343.2.2.2) rfl h82_1378 rfl rfl rfl rfl rfl rfl (fun w1380 hq1381 => ?_)
              obtain ⟨hI1382, hF1383, hx1384⟩ := hq1381
              have pk1385 : PK w w1380 := PK.tr pk1343 hx1384
              have ro1386 : ∀ l, l < fld w 82 14 → l < 16 → rwv w1380 112 (20 * l) = rwv w 112 (20 * l) := fun l hl h6 => (rwv_fr hF1383 (by decide)).trans (ro1344 l hl h6)
              have hq1387 := pk1385
              unfold PK PS at hq1387
              have ms1388 : mu w1380 < mu w := Nat.lt_of_le_of_lt hx1384.2.1 ms1346
              refine xg_t (xg_aload (va := (2, 82)) rfl rfl) ?_
              refine xg_t (xg_const) ?_
              refine xg_t (xg_iload (va := (0, 0)) rfl rfl) ?_
              have hl1389 : fld w1380 82 14 ≤ 2000 := by omega
              obtain ⟨f82_1390, f82_1392, f82_1394, f82_1396, f82_1398, f82_1400, f82_1402, f82_1404, f82_1406, f82_1408, f82_1410, f82_1411, f82_1412, f82_1414, f82_1416, f82_1418, h82_1420, hb1391, hb1393, hb1395, hb1397, hb1399, hb1401, hb1403, hb1405, hb1407, hb1409, hb1413, hb1415, hb1417, hb1419, hb1421⟩ := (hI1382 82 (by decide) (by decide) : cp82 (wget w1380 82))
              refine xg_cVv mX12_rulePuts (vs := [(0, 0), (0, 0)]) (rest := []) (cn1 := 0) (sl1 := 0) rfl (mRulePuts (hI1382) (by omega) (by omega) (by omega)) rfl h82_1420 rfl rfl rfl rfl rfl rfl (fun w1422 hq1423 => ?_)
              obtain ⟨hI1424, hF1425, hx1426⟩ := hq1423
              have hx1427 := hx1426
              have pk1428 : PK w w1422 := PK.tr pk1385 (PK.fr hF1425 (by decide) (by decide) pk1385.2.2.2)
              have ro1429 : ∀ l, l < fld w 82 14 → l < 16 → rwv w1422 112 (20 * l) = rwv w 112 (20 * l) := fun l hl h6 => ((hx1427 _ (by omega)).2 (by omega)).trans (ro1386 l hl h6)
              have hq1430 := pk1428
              unfold PK PS at hq1430
              have ms1431 : mu w1422 < mu w := Nat.lt_of_le_of_lt (PK.fr hF1425 (by decide) (by decide) pk1385.2.2.2).2.1 ms1388
              have rz1432 : fld w 82 14 < 16 → rwv w1422 112 (20 * fld w 82 14) = 0 := fun h6 => (hx1427 _ (by omega)).1 ⟨by omega, by omega⟩
              refine xg_t (xg_aload (va := (2, 82)) rfl rfl) ?_
              refine xg_t (xg_bip) ?_
              refine xg_t (xg_iload (va := (0, f82_1310)) rfl rfl) ?_
              have hl1433 : fld w1422 82 14 ≤ 2000 := by omega
              refine xg_cVv mX12_rulePuts (vs := [(0, 17), (0, f82_1310)]) (rest := []) (cn1 := 0) (sl1 := 0) rfl (mRulePuts (hI1424) (by omega) (by omega) (by omega)) rfl (hF1425.get (by decide) h82_1420) rfl rfl rfl rfl rfl rfl (fun w1434 hq1435 => ?_)
              obtain ⟨hI1436, hF1437, hx1438⟩ := hq1435
              have hx1439 := hx1438
              have pk1440 : PK w w1434 := PK.tr pk1428 (PK.fr hF1437 (by decide) (by decide) pk1428.2.2.2)
              have ro1441 : ∀ l, l < fld w 82 14 → l < 16 → rwv w1434 112 (20 * l) = rwv w 112 (20 * l) := fun l hl h6 => ((hx1439 _ (by omega)).2 (by omega)).trans (ro1429 l hl h6)
              have hq1442 := pk1440
              unfold PK PS at hq1442
              have ms1443 : mu w1434 < mu w := Nat.lt_of_le_of_lt (PK.fr hF1437 (by decide) (by decide) pk1428.2.2.2).2.1 ms1431
              have rz1444 : fld w 82 14 < 16 → rwv w1434 112 (20 * fld w 82 14) = 0 := fun h6 => ((hx1439 _ (by omega)).2 (by omega)).trans (rz1432 h6)
              refine xg_t (xg_aload (va := (2, 82)) rfl rfl) ?_
              refine xg_t (xg_bip) ?_
              refine xg_t (xg_iload (va := (0, 0)) rfl rfl) ?_
              have hl1445 : fld w1434 82 14 ≤ 2000 := by omega
              refine xg_cVv mX12_rulePuts (vs := [(0, 18), (0, 0)]) (rest := []) (cn1 := 0) (sl1 := 0) rfl (mRulePuts (hI1436) (by omega) (by omega) (by omega)) rfl (hF1437.get (by decide) (hF1425.get (by decide) h82_1420)) rfl rfl rfl rfl rfl rfl (fun w1446 hq1447 => ?_)
              obtain ⟨hI1448, hF1449, hx1450⟩ := hq1447
              have hx1451 := hx1450
              have pk1452 : PK w w1446 := PK.tr pk1440 (PK.fr hF1449 (by decide) (by decide) pk1440.2.2.2)
              have ro1453 : ∀ l, l < fld w 82 14 → l < 16 → rwv w1446 112 (20 * l) = rwv w 112 (20 * l) := fun l hl h6 => ((hx1451 _ (by omega)).2 (by omega)).trans (ro1441 l hl h6)
              have hq1454 := pk1452
              unfold PK PS at hq1454
              have ms1455 : mu w1446 < mu w := Nat.lt_of_le_of_lt (PK.fr hF1449 (by decide) (by decide) pk1440.2.2.2).2.1 ms1443
              have rz1456 : fld w 82 14 < 16 → rwv w1446 112 (20 * fld w 82 14) = 0 := fun h6 => ((hx1451 _ (by omega)).2 (by omega)).trans (rz1444 h6)
              have hf1457 : fld w1446 82 4 = f82_1394 := fld_of (hF1449.get (by decide) (hF1437.get (by decide) (hF1425.get (by decide) h82_1420)))
              have hf1458 : fld w1446 82 5 = f82_1396 := fld_of (hF1449.get (by decide) (hF1437.get (by decide) (hF1425.get (by decide) h82_1420)))
              have hf1459 : fld w1446 82 7 = f82_1400 := fld_of (hF1449.get (by decide) (hF1437.get (by decide) (hF1425.get (by decide) h82_1420)))
              have hf1460 : fld w1446 82 10 = f82_1406 := fld_of (hF1449.get (by decide) (hF1437.get (by decide) (hF1425.get (by decide) h82_1420)))
              have hf1461 : fld w1446 82 14 = f82_1408 := fld_of (hF1449.get (by decide) (hF1437.get (by decide) (hF1425.get (by decide) h82_1420)))
              have hu1462 : mu w1446 = 2 * (fld w1446 82 4 - fld w1446 82 5) + min 1 (fld w1446 82 7) := rfl
              have hl1463 : f82_1408 ≤ 1001 := by omega
              refine xg_t (xg_aload (va := (2, 82)) rfl rfl) ?_
              refine xg_t (xg_dup rfl) ?_
              refine xg_t (xg_getf (va := (0, f82_1408)) (hF1449.get (by decide) (hF1437.get (by decide) (hF1425.get (by decide) h82_1420))) rfl) ?_
              refine xg_t (xg_const) ?_
              refine xg_t (xg_iadd (u := f82_1408) (v := 1) (z := f82_1408 + 1) xnm0 xnm0 (by omega)) ?_
              refine xg_putI (fl1 := [(2, 83), (2, 84), (0, f82_1390), (0, f82_1392), (0, f82_1394), (0, f82_1396), (0, f82_1398), (0, f82_1400), (0, f82_1402), (0, f82_1404), (0, f82_1406), (2, 85), (2, 86), (2, 87), (0, f82_1408 + 1), (2, 88), (2, 89), (2, 90), (2, 91), (2, 92), (2, 93), (2, 94), (4, f82_1410), (4, f82_1411), (0, f82_1412), (2, 95), (2, 96), (2, 97), (2, 98), (2, 99), (2, 100), (2, 101), (2, 102), (0, f82_1414), (2, 103), (2, 104), (2, 105), (2, 106), (2, 107), (2, 108), (2, 109), (0, f82_1416), (0, f82_1418), (2, 110), (2, 111), (2, 112), (2, 113)]) (hF1449.get (by decide) (hF1437.get (by decide) (hF1425.get (by decide) h82_1420))) rfl rfl rfl (fun w1464 hk1465 hb1466 => ?_)
              have hF1467 : xFr [82] w1446 w1464 := xFr.of hb1466 (by decide)
              have hA1468 := FA_fr hF1467 (by decide)
              have hf1469 : fld w1464 82 4 = f82_1394 := fld_of hk1465
              have hf1470 : fld w1464 82 5 = f82_1396 := fld_of hk1465
              have hf1471 : fld w1464 82 7 = f82_1400 := fld_of hk1465
              have hf1472 : fld w1464 82 10 = f82_1406 := fld_of hk1465
              have hf1473 : fld w1464 82 14 = f82_1408 + 1 := fld_of hk1465
              have hu1474 : mu w1464 = 2 * (fld w1464 82 4 - fld w1464 82 5) + min 1 (fld w1464 82 7) := rfl
              have hD1475 : FA w1464 ≠ 0 ∨ (RD w → RD w1464) := by
                by_cases z : FA w1464 ≠ 0
                · exact Or.inl z
                · refine Or.inr (fun hd => ⟨by omega, fun l hl => ?_⟩)
                  rw [rwv_fr hF1467 (by decide)]
                  by_cases y : l = fld w 82 14
                  · rw [y, rz1456 (by omega)]; omega
                  · rw [ro1453 l (by omega) (by have := hd.1; omega)]; exact hd.2 l (by omega)
              exact xg_e ⟨w1464, ⟨rfl, rfl⟩, xMnv.up (S := [82]) hI1448 (xFr.of (S := [82]) hb1466 (by decide)) (List.forall_mem_cons.mpr ⟨(show cp82 (wget w1464 82) from ⟨f82_1390, f82_1392, f82_1394, f82_1396, f82_1398, f82_1400, f82_1402, f82_1404, f82_1406, f82_1408 + 1, f82_1410, f82_1411, f82_1412, f82_1414, f82_1416, f82_1418, hk1465, by omega, by omega, by omega, by omega, by omega, by omega, by omega, by omega, by omega, by omega, by omega, by omega, by omega, by omega, by omega⟩), fun _ h => absurd h List.not_mem_nil⟩), ((((((((hF1276.up (by decide)).tr (hF1286.up (by decide))).tr (hF1335.up (by decide))).tr (hF1383.up (by decide))).tr (hF1425.up (by decide))).tr (hF1437.up (by decide))).tr (hF1449.up (by decide))).tr (xFr.of (S := [82, 83, 112, 113]) hb1466 (by decide))), ⟨fun h => by have := pk1452.1 h; omega, (show fld w1464 82 10 = 0 ∨ FA w1464 ≠ 0 by omega), Or.inr ⟨by have := ms1455; omega, by omega⟩, hD1475⟩⟩
            · refine xg_t (xg_icT (u := f82_1310) (v := 40) rfl xnm0 xnm0 (xj_neT hc1347)) ?_
              refine xg_t (xg_blk (b := [(160, 1, 0, 0, 0, 0), (161, 3, 13, 198, 96, 418)]) rfl) ?_
              refine xg_t (xg_aload (va := (2, 82)) rfl rfl) ?_
              obtain ⟨f82_1476, f82_1478, f82_1480, f82_1482, f82_1484, f82_1486, f82_1488, f82_1490, f82_1492, f82_1494, f82_1496, f82_1497, f82_1498, f82_1500, f82_1502, f82_1504, h82_1506, hb1477, hb1479, hb1481, hb1483, hb1485, hb1487, hb1489, hb1491, hb1493, hb1495, hb1499, hb1501, hb1503, hb1505, hb1507⟩ := (hI1334 82 (by decide) (by decide) : cp82 (wget w1332 82))
              refine xg_cVi mX12_numberNow (vs := []) (rest := []) (cn1 := 0) (sl1 := 0) rfl (mNumberNow (hI1334) pk1343.2.2.2) rfl h82_1506 rfl rfl rfl rfl rfl rfl (fun n1512 w1508 hq1509 => ?_)
              obtain ⟨hn1513, hI1510, hF1511⟩ := hq1509
              obtain ⟨hn1514, hn1515⟩ := hn1513
              have pk1516 : PK w w1508 := PK.tr pk1343 hn1515
              have ro1517 : ∀ l, l < fld w 82 14 → l < 16 → rwv w1508 112 (20 * l) = rwv w 112 (20 * l) := fun l hl h6 => (rwv_fr hF1511 (by decide)).trans (ro1344 l hl h6)
              have hq1518 := pk1516
              unfold PK PS at hq1518
              have ms1519 : mu w1508 < mu w := Nat.lt_of_le_of_lt hn1515.2.1 ms1346
              refine xg_t (xg_blk (b := [(164, 1, 15, 3, 0, 0), (165, 1, 0, 0, 0, 0), (166, 2, 4, 59, 0, 0), (168, 3, 13, 195, 96, 427), (171, 1, 0, 0, 0, 0), (172, 1, 3, 0, 0, 0), (173, 1, 2, 1, 0, 0), (174, 3, 13, 214, 96, 424), (177, 1, 0, 0, 0, 0), (178, 2, 4, 17, 0, 0), (180, 1, 2, 2, 0, 0), (181, 3, 13, 214, 96, 424), (184, 1, 0, 0, 0, 0), (185, 2, 4, 18, 0, 0), (187, 1, 2, 3, 0, 0), (188, 3, 13, 214, 96, 424), (191, 1, 0, 0, 0, 0), (192, 1, 19, 0, 0, 0), (193, 3, 1, 12, 14, 212), (196, 1, 3, 1, 0, 0), (197, 1, 11, 0, 0, 0), (198, 3, 14, 12, 14, 212), (201, 1, 12, 0, 0, 0)]) rfl) ?_
              refine xg_t (xg_istore (l1 := [(2, (0, f82_1310)), (1, (0, 0)), (0, (2, 82))]) rfl rfl rfl) ?_
              refine xg_t (xg_aload (va := (2, 82)) rfl rfl) ?_
              refine xg_t (xg_bip) ?_
              obtain ⟨f82_1520, f82_1522, f82_1524, f82_1526, f82_1528, f82_1530, f82_1532, f82_1534, f82_1536, f82_1538, f82_1540, f82_1541, f82_1542, f82_1544, f82_1546, f82_1548, h82_1550, hb1521, hb1523, hb1525, hb1527, hb1529, hb1531, hb1533, hb1535, hb1537, hb1539, hb1543, hb1545, hb1547, hb1549, hb1551⟩ := (hI1510 82 (by decide) (by decide) : cp82 (wget w1508 82))
              refine xg_cVv mX12_must (vs := [(0, 59)]) (rest := []) (cn1 := 0) (sl1 := 0) rfl (mMust (hI1510) (by omega) pk1516.2.2.2) rfl h82_1550 rfl rfl rfl rfl rfl rfl (fun w1552 hq1553 => ?_)
              obtain ⟨hI1554, hF1555, hx1556⟩ := hq1553
              have pk1557 : PK w w1552 := PK.tr pk1516 hx1556
              have ro1558 : ∀ l, l < fld w 82 14 → l < 16 → rwv w1552 112 (20 * l) = rwv w 112 (20 * l) := fun l hl h6 => (rwv_fr hF1555 (by decide)).trans (ro1517 l hl h6)
              have hq1559 := pk1557
              unfold PK PS at hq1559
              have ms1560 : mu w1552 < mu w := Nat.lt_of_le_of_lt hx1556.2.1 ms1519
              refine xg_t (xg_aload (va := (2, 82)) rfl rfl) ?_
              refine xg_t (xg_const) ?_
              refine xg_t (xg_iload (va := (0, 0)) rfl rfl) ?_
              have hl1561 : fld w1552 82 14 ≤ 2000 := by omega
              obtain ⟨f82_1562, f82_1564, f82_1566, f82_1568, f82_1570, f82_1572, f82_1574, f82_1576, f82_1578, f82_1580, f82_1582, f82_1583, f82_1584, f82_1586, f82_1588, f82_1590, h82_1592, hb1563, hb1565, hb1567, hb1569, hb1571, hb1573, hb1575, hb1577, hb1579, hb1581, hb1585, hb1587, hb1589, hb1591, hb1593⟩ := (hI1554 82 (by decide) (by decide) : cp82 (wget w1552 82))
              refine xg_cVv mX12_rulePuts (vs := [(0, 0), (0, 0)]) (rest := []) (cn1 := 0) (sl1 := 0) rfl (mRulePuts (hI1554) (by omega) (by omega) (by omega)) rfl h82_1592 rfl rfl rfl rfl rfl rfl (fun w1594 hq1595 => ?_)
              obtain ⟨hI1596, hF1597, hx1598⟩ := hq1595
              have hx1599 := hx1598
              have pk1600 : PK w w1594 := PK.tr pk1557 (PK.fr hF1597 (by decide) (by decide) pk1557.2.2.2)
              have ro1601 : ∀ l, l < fld w 82 14 → l < 16 → rwv w1594 112 (20 * l) = rwv w 112 (20 * l) := fun l hl h6 => ((hx1599 _ (by omega)).2 (by omega)).trans (ro1558 l hl h6)
              have hq1602 := pk1600
              unfold PK PS at hq1602
              have ms1603 : mu w1594 < mu w := Nat.lt_of_le_of_lt (PK.fr hF1597 (by decide) (by decide) pk1557.2.2.2).2.1 ms1560
              have rz1604 : fld w 82 14 < 16 → rwv w1594 112 (20 * fld w 82 14) = 0 := fun h6 => (hx1599 _ (by omega)).1 ⟨by omega, by omega⟩
              refine xg_t (xg_aload (va := (2, 82)) rfl rfl) ?_
              refine xg_t (xg_bip) ?_
              refine xg_t (xg_iload (va := (0, f82_1310)) rfl rfl) ?_
              have hl1605 : fld w1594 82 14 ≤ 2000 := by omega
              refine xg_cVv mX12_rulePuts (vs := [(0, 17), (0, f82_1310)]) (rest := []) (cn1 := 0) (sl1 := 0) rfl (mRulePuts (hI1596) (by omega) (by omega) (by omega)) rfl (hF1597.get (by decide) h82_1592) rfl rfl rfl rfl rfl rfl (fun w1606 hq1607 => ?_)
              obtain ⟨hI1608, hF1609, hx1610⟩ := hq1607
              have hx1611 := hx1610
              have pk1612 : PK w w1606 := PK.tr pk1600 (PK.fr hF1609 (by decide) (by decide) pk1600.2.2.2)
              have ro1613 : ∀ l, l < fld w 82 14 → l < 16 → rwv w1606 112 (20 * l) = rwv w 112 (20 * l) := fun l hl h6 => ((hx1611 _ (by omega)).2 (by omega)).trans (ro1601 l hl h6)
              have hq1614 := pk1612
              unfold PK PS at hq1614
              have ms1615 : mu w1606 < mu w := Nat.lt_of_le_of_lt (PK.fr hF1609 (by decide) (by decide) pk1600.2.2.2).2.1 ms1603
              have rz1616 : fld w 82 14 < 16 → rwv w1606 112 (20 * fld w 82 14) = 0 := fun h6 => ((hx1611 _ (by omega)).2 (by omega)).trans (rz1604 h6)
              refine xg_t (xg_aload (va := (2, 82)) rfl rfl) ?_
              refine xg_t (xg_bip) ?_
              refine xg_t (xg_iload (va := (0, n1512)) rfl rfl) ?_
              have hl1617 : fld w1606 82 14 ≤ 2000 := by omega
              refine xg_cVv mX12_rulePuts (vs := [(0, 18), (0, n1512)]) (rest := []) (cn1 := 0) (sl1 := 0) rfl (mRulePuts (hI1608) (by omega) (by omega) (by omega)) rfl (hF1609.get (by decide) (hF1597.get (by decide) h82_1592)) rfl rfl rfl rfl rfl rfl (fun w1618 hq1619 => ?_)
              obtain ⟨hI1620, hF1621, hx1622⟩ := hq1619
              have hx1623 := hx1622
              have pk1624 : PK w w1618 := PK.tr pk1612 (PK.fr hF1621 (by decide) (by decide) pk1612.2.2.2)
              have ro1625 : ∀ l, l < fld w 82 14 → l < 16 → rwv w1618 112 (20 * l) = rwv w 112 (20 * l) := fun l hl h6 => ((hx1623 _ (by omega)).2 (by omega)).trans (ro1613 l hl h6)
              have hq1626 := pk1624
              unfold PK PS at hq1626
              have ms1627 : mu w1618 < mu w := Nat.lt_of_le_of_lt (PK.fr hF1621 (by decide) (by decide) pk1612.2.2.2).2.1 ms1615
              have rz1628 : fld w 82 14 < 16 → rwv w1618 112 (20 * fld w 82 14) = 0 := fun h6 => ((hx1623 _ (by omega)).2 (by omega)).trans (rz1616 h6)
              have hf1629 : fld w1618 82 4 = f82_1566 := fld_of (hF1621.get (by decide) (hF1609.get (by decide) (hF1597.get (by decide) h82_1592)))
              have hf1630 : fld w1618 82 5 = f82_1568 := fld_of (hF1621.get (by decide) (hF1609.get (by decide) (hF1597.get (by decide) h82_1592)))
              have hf1631 : fld w1618 82 7 = f82_1572 := fld_of (hF1621.get (by decide) (hF1609.get (by decide) (hF1597.get (by decide) h82_1592)))
              have hf1632 : fld w1618 82 10 = f82_1578 := fld_of (hF1621.get (by decide) (hF1609.get (by decide) (hF1597.get (by decide) h82_1592)))
              have hf1633 : fld w1618 82 14 = f82_1580 := fld_of (hF1621.get (by decide) (hF1609.get (by decide) (hF1597.get (by decide) h82_1592)))
              have hu1634 : mu w1618 = 2 * (fld w1618 82 4 - fld w1618 82 5) + min 1 (fld w1618 82 7) := rfl
              have hl1635 : f82_1580 ≤ 1001 := by omega
              refine xg_t (xg_aload (va := (2, 82)) rfl rfl) ?_
              refine xg_t (xg_dup rfl) ?_
              refine xg_t (xg_getf (va := (0, f82_1580)) (hF1621.get (by decide) (hF1609.get (by decide) (hF1597.get (by decide) h82_1592))) rfl) ?_
              refine xg_t (xg_const) ?_
              refine xg_t (xg_iadd (u := f82_1580) (v := 1) (z := f82_1580 + 1) xnm0 xnm0 (by omega)) ?_
              refine xg_putI (fl1 := [(2, 83), (2, 84), (0, f82_1562), (0, f82_1564), (0, f82_1566), (0, f82_1568), (0, f82_1570), (0, f82_1572), (0, f82_1574), (0, f82_1576), (0, f82_1578), (2, 85), (2, 86), (2, 87), (0, f82_1580 + 1), (2, 88), (2, 89), (2, 90), (2, 91), (2, 92), (2, 93), (2, 94), (4, f82_1582), (4, f82_1583), (0, f82_1584), (2, 95), (2, 96), (2, 97), (2, 98), (2, 99), (2, 100), (2, 101), (2, 102), (0, f82_1586), (2, 103), (2, 104), (2, 105), (2, 106), (2, 107), (2, 108), (2, 109), (0, f82_1588), (0, f82_1590), (2, 110), (2, 111), (2, 112), (2, 113)]) (hF1621.get (by decide) (hF1609.get (by decide) (hF1597.get (by decide) h82_1592))) rfl rfl rfl (fun w1636 hk1637 hb1638 => ?_)
              have hF1639 : xFr [82] w1618 w1636 := xFr.of hb1638 (by decide)
              have hA1640 := FA_fr hF1639 (by decide)
              have hf1641 : fld w1636 82 4 = f82_1566 := fld_of hk1637
              have hf1642 : fld w1636 82 5 = f82_1568 := fld_of hk1637
              have hf1643 : fld w1636 82 7 = f82_1572 := fld_of hk1637
              have hf1644 : fld w1636 82 10 = f82_1578 := fld_of hk1637
              have hf1645 : fld w1636 82 14 = f82_1580 + 1 := fld_of hk1637
              have hu1646 : mu w1636 = 2 * (fld w1636 82 4 - fld w1636 82 5) + min 1 (fld w1636 82 7) := rfl
              have hD1647 : FA w1636 ≠ 0 ∨ (RD w → RD w1636) := by
                by_cases z : FA w1636 ≠ 0
                · exact Or.inl z
                · refine Or.inr (fun hd => ⟨by omega, fun l hl => ?_⟩)
                  rw [rwv_fr hF1639 (by decide)]
                  by_cases y : l = fld w 82 14
                  · rw [y, rz1628 (by omega)]; omega
                  · rw [ro1625 l (by omega) (by have := hd.1; omega)]; exact hd.2 l (by omega)
              exact xg_e ⟨w1636, ⟨rfl, rfl⟩, xMnv.up (S := [82]) hI1620 (xFr.of (S := [82]) hb1638 (by decide)) (List.forall_mem_cons.mpr ⟨(show cp82 (wget w1636 82) from ⟨f82_1562, f82_1564, f82_1566, f82_1568, f82_1570, f82_1572, f82_1574, f82_1576, f82_1578, f82_1580 + 1, f82_1582, f82_1583, f82_1584, f82_1586, f82_1588, f82_1590, hk1637, by omega, by omega, by omega, by omega, by omega, by omega, by omega, by omega, by omega, by omega, by omega, by omega, by omega, by omega, by omega⟩), fun _ h => absurd h List.not_mem_nil⟩), (((((((((hF1276.up (by decide)).tr (hF1286.up (by decide))).tr (hF1335.up (by decide))).tr (hF1511.up (by decide))).tr (hF1555.up (by decide))).tr (hF1597.up (by decide))).tr (hF1609.up (by decide))).tr (hF1621.up (by decide))).tr (xFr.of (S := [82, 83, 112, 113]) hb1638 (by decide))), ⟨fun h => by have := pk1624.1 h; omega, (show fld w1636 82 10 = 0 ∨ FA w1636 ≠ 0 by omega), Or.inr ⟨by have := ms1627; omega, by omega⟩, hD1647⟩⟩
          · refine xg_t (xg_ifF (u := (if 40 ≤ f82_1310 ∧ f82_1310 ≤ 42 then 1 else 0)) rfl xnm0 (xj_neF (xite0 hc1330))) ?_
            refine xg_t (xg_blk (b := [(136, 1, 0, 0, 0, 0), (137, 3, 13, 140, 96, 183), (140, 1, 12, 0, 0, 0)]) rfl) ?_
            refine xg_t (xg_aload (va := (2, 82)) rfl rfl) ?_
            refine xg_cVv mX12_ends (vs := []) (rest := []) (cn1 := 0) (sl1 := 0) rfl (mEnds (hI1285) pk1292.2.2.2) rfl h82_1326 rfl rfl rfl rfl rfl rfl (fun w1648 hq1649 => ?_)
            obtain ⟨hI1650, hF1651, hx1652⟩ := hq1649
            obtain ⟨hv1653, hv1654, hv1655, hv1656⟩ := hx1652
            have pk1657 : PK w1283 w1648 := ⟨fun _ => hv1653, by omega, by omega, Or.inr hv1653⟩
            have pk1658 : PK w w1648 := PK.tr pk1292 pk1657
            have ro1659 : ∀ l, l < fld w 82 14 → l < 16 → rwv w1648 112 (20 * l) = rwv w 112 (20 * l) := fun l hl h6 => (rwv_fr hF1651 (by decide)).trans (ro1293 l hl h6)
            have hq1660 := pk1658
            unfold PK PS at hq1660
            obtain ⟨f82_1661, f82_1663, f82_1665, f82_1667, f82_1669, f82_1671, f82_1673, f82_1675, f82_1677, f82_1679, f82_1681, f82_1682, f82_1683, f82_1685, f82_1687, f82_1689, h82_1691, hb1662, hb1664, hb1666, hb1668, hb1670, hb1672, hb1674, hb1676, hb1678, hb1680, hb1684, hb1686, hb1688, hb1690, hb1692⟩ := (hI1650 82 (by decide) (by decide) : cp82 (wget w1648 82))
            exact xg_e ⟨w1648, ⟨rfl, rfl⟩, hI1650, (((hF1276.up (by decide)).tr (hF1286.up (by decide))).tr (hF1651.up (by decide))), ⟨pk1658.1, pk1658.2.2.2, Or.inl ⟨by omega, pk1658.2.1, pk1658.2.2.1⟩, Or.inl (by omega)⟩⟩
        · refine xg_t (xg_icT (u := f82_1306) (v := 3) rfl xnm0 xnm0 (xj_neT hc1329)) ?_
          refine xg_t (xg_blk (b := [(136, 1, 0, 0, 0, 0), (137, 3, 13, 140, 96, 183), (140, 1, 12, 0, 0, 0)]) rfl) ?_
          refine xg_t (xg_aload (va := (2, 82)) rfl rfl) ?_
          refine xg_cVv mX12_ends (vs := []) (rest := []) (cn1 := 0) (sl1 := 0) rfl (mEnds (hI1285) pk1292.2.2.2) rfl h82_1326 rfl rfl rfl rfl rfl rfl (fun w1693 hq1694 => ?_)
          obtain ⟨hI1695, hF1696, hx1697⟩ := hq1694
          obtain ⟨hv1698, hv1699, hv1700, hv1701⟩ := hx1697
          have pk1702 : PK w1283 w1693 := ⟨fun _ => hv1698, by omega, by omega, Or.inr hv1698⟩
          have pk1703 : PK w w1693 := PK.tr pk1292 pk1702
          have ro1704 : ∀ l, l < fld w 82 14 → l < 16 → rwv w1693 112 (20 * l) = rwv w 112 (20 * l) := fun l hl h6 => (rwv_fr hF1696 (by decide)).trans (ro1293 l hl h6)
          have hq1705 := pk1703
          unfold PK PS at hq1705
          obtain ⟨f82_1706, f82_1708, f82_1710, f82_1712, f82_1714, f82_1716, f82_1718, f82_1720, f82_1722, f82_1724, f82_1726, f82_1727, f82_1728, f82_1730, f82_1732, f82_1734, h82_1736, hb1707, hb1709, hb1711, hb1713, hb1715, hb1717, hb1719, hb1721, hb1723, hb1725, hb1729, hb1731, hb1733, hb1735, hb1737⟩ := (hI1695 82 (by decide) (by decide) : cp82 (wget w1693 82))
          exact xg_e ⟨w1693, ⟨rfl, rfl⟩, hI1695, (((hF1276.up (by decide)).tr (hF1286.up (by decide))).tr (hF1696.up (by decide))), ⟨pk1703.1, pk1703.2.2.2, Or.inl ⟨by omega, pk1703.2.1, pk1703.2.2.1⟩, Or.inl (by omega)⟩⟩
      · refine xg_t (xg_ifT (u := f82_1312) rfl xnm0 (xj_neT hc1328)) ?_
        refine xg_t (xg_blk (b := [(136, 1, 0, 0, 0, 0), (137, 3, 13, 140, 96, 183), (140, 1, 12, 0, 0, 0)]) rfl) ?_
        refine xg_t (xg_aload (va := (2, 82)) rfl rfl) ?_
        refine xg_cVv mX12_ends (vs := []) (rest := []) (cn1 := 0) (sl1 := 0) rfl (mEnds (hI1285) pk1292.2.2.2) rfl h82_1326 rfl rfl rfl rfl rfl rfl (fun w1738 hq1739 => ?_)
        obtain ⟨hI1740, hF1741, hx1742⟩ := hq1739
        obtain ⟨hv1743, hv1744, hv1745, hv1746⟩ := hx1742
        have pk1747 : PK w1283 w1738 := ⟨fun _ => hv1743, by omega, by omega, Or.inr hv1743⟩
        have pk1748 : PK w w1738 := PK.tr pk1292 pk1747
        have ro1749 : ∀ l, l < fld w 82 14 → l < 16 → rwv w1738 112 (20 * l) = rwv w 112 (20 * l) := fun l hl h6 => (rwv_fr hF1741 (by decide)).trans (ro1293 l hl h6)
        have hq1750 := pk1748
        unfold PK PS at hq1750
        obtain ⟨f82_1751, f82_1753, f82_1755, f82_1757, f82_1759, f82_1761, f82_1763, f82_1765, f82_1767, f82_1769, f82_1771, f82_1772, f82_1773, f82_1775, f82_1777, f82_1779, h82_1781, hb1752, hb1754, hb1756, hb1758, hb1760, hb1762, hb1764, hb1766, hb1768, hb1770, hb1774, hb1776, hb1778, hb1780, hb1782⟩ := (hI1740 82 (by decide) (by decide) : cp82 (wget w1738 82))
        exact xg_e ⟨w1738, ⟨rfl, rfl⟩, hI1740, (((hF1276.up (by decide)).tr (hF1286.up (by decide))).tr (hF1741.up (by decide))), ⟨pk1748.1, pk1748.2.2.2, Or.inl ⟨by omega, pk1748.2.1, pk1748.2.2.1⟩, Or.inl (by omega)⟩⟩
    · have ms1783 : mu w1283 < mu w := Nat.lt_of_lt_of_le (hn1291 (by omega)) pk1280.2.1
      refine xg_t (xg_ifF (u := n1287) rfl xnm0 (xj_eqF hc1295)) ?_
      refine xg_t (xg_const) ?_
      refine xg_t (xg_istore (l1 := [(1, (0, 0)), (0, (2, 82))]) rfl rfl rfl) ?_
      refine xg_t (xg_drop (l1 := [(0, (2, 82)), (1, (0, 0)), (2, (0, 1))]) (List.forall_mem_cons.mpr ⟨List.mem_cons_of_mem _ (List.mem_cons_of_mem _ (List.mem_cons_self)), List.forall_mem_cons.mpr ⟨List.mem_cons_of_mem _ (List.mem_cons_self), List.forall_mem_cons.mpr ⟨List.mem_cons_self, fun _ h => absurd h List.not_mem_nil⟩⟩⟩)) ?_
      have key1784 : ∀ (m1786 : Nat) (kr mo : Nat) (w1787 : List (List xE)), 2 * mu w1787 + mo < m1786 → kr ≤ 1002 → mo ≤ 1 → xMnv w1787 → xFr [82, 83, 112, 113] w w1787 → (PK w w1787 ∧ (∀ l, l < fld w 82 14 → l < 16 → rwv w1787 112 (20 * l) = rwv w 112 (20 * l)) ∧ mu w1787 < mu w ∧ (FA w1787 ≠ 0 ∨ kr ≤ 4) ∧ kr + mu w1787 ≤ 1002 ∧ (mo = 1 → kr + mu w1787 ≤ 1001) ∧ (16 ≤ fld w 82 14 → FA w1787 ≠ 0)) → xTo (d + 7) mX12_aRule (31, [], [(0, (2, 82)), (1, (0, kr)), (2, (0, mo))], [], (w1787, bd, fc, 0, 0, rr)) (fun φ => ∃ w', xEnd 0 [] (w', bd, fc, 0, 0, rr) φ ∧ xMnv w' ∧ xFr [82, 83, 112, 113] w w' ∧ ((FA w ≠ 0 → FA w' ≠ 0) ∧ PS w' ∧ ((fld w' 82 10 = 1 ∧ mu w' ≤ mu w ∧ fld w' 82 14 = fld w 82 14) ∨ (mu w' < mu w ∧ fld w' 82 14 = fld w 82 14 + 1)) ∧ (FA w' ≠ 0 ∨ (RD w → RD w')))) := by
        intro m1786
        induction m1786 with
        | zero => intro kr mo w1787 hz; exact absurd hz (Nat.not_lt_zero _)
        | succ m1786 ih1785 =>
          intro kr mo w1787 hm1793 hn1790 hn1791 hI1788 hF1789 he1792
          obtain ⟨hz1794, hz1795, hz1796, hz1797, hz1798, hz1799, hz1800⟩ := he1792
          have hq1801 := hz1794
          unfold PK PS at hq1801
          obtain ⟨f82_1802, f82_1804, f82_1806, f82_1808, f82_1810, f82_1812, f82_1814, f82_1816, f82_1818, f82_1820, f82_1822, f82_1823, f82_1824, f82_1826, f82_1828, f82_1830, h82_1832, hb1803, hb1805, hb1807, hb1809, hb1811, hb1813, hb1815, hb1817, hb1819, hb1821, hb1825, hb1827, hb1829, hb1831, hb1833⟩ := (hI1788 82 (by decide) (by decide) : cp82 (wget w1787 82))
          refine xg_t (xg_blk (b := [(31, 1, 2, 2, 0, 0), (32, 3, 7, 101, 0, 0), (35, 1, 2, 1, 0, 0), (36, 1, 3, 3, 0, 0), (37, 3, 6, 49, 5, 0), (40, 1, 0, 0, 0, 0), (41, 1, 3, 3, 0, 0), (42, 1, 0, 0, 0, 0), (43, 3, 1, 12, 6, 148), (46, 3, 13, 115, 96, 186)]) rfl) ?_
          refine xg_t (xg_iload (va := (0, mo)) rfl rfl) ?_
          by_cases hc1834 : mo = 0
          · refine xg_t (xg_ifT (u := mo) rfl xnm0 (xj_eqT hc1834)) ?_
            refine xg_t (xg_blk (b := [(101, 1, 0, 0, 0, 0), (102, 2, 4, 58, 0, 0), (104, 3, 13, 195, 96, 427)]) rfl) ?_
            refine xg_t (xg_aload (va := (2, 82)) rfl rfl) ?_
            refine xg_t (xg_bip) ?_
            refine xg_cVv mX12_must (vs := [(0, 58)]) (rest := []) (cn1 := 0) (sl1 := 0) rfl (mMust (hI1788) (by omega) hz1794.2.2.2) rfl h82_1832 rfl rfl rfl rfl rfl rfl (fun w1835 hq1836 => ?_)
            obtain ⟨hI1837, hF1838, hx1839⟩ := hq1836
            have pk1840 : PK w w1835 := PK.tr hz1794 hx1839
            have ro1841 : ∀ l, l < fld w 82 14 → l < 16 → rwv w1835 112 (20 * l) = rwv w 112 (20 * l) := fun l hl h6 => (rwv_fr hF1838 (by decide)).trans (hz1795 l hl h6)
            have hq1842 := pk1840
            unfold PK PS at hq1842
            have ms1843 : mu w1835 < mu w := Nat.lt_of_le_of_lt hx1839.2.1 hz1796
            refine xg_t (xg_blk (b := [(107, 1, 0, 0, 0, 0), (108, 3, 1, 12, 10, 180), (111, 3, 7, 136, 1, 0), (114, 1, 0, 0, 0, 0), (115, 3, 1, 12, 7, 151), (118, 1, 3, 3, 0, 0), (119, 3, 6, 136, 1, 0), (122, 1, 0, 0, 0, 0), (123, 3, 1, 12, 9, 165), (126, 2, 4, 40, 0, 0), (128, 2, 4, 42, 0, 0), (130, 3, 13, 161, 98, 105), (133, 3, 7, 141, 1, 0)]) rfl) ?_
            refine xg_t (xg_aload (va := (2, 82)) rfl rfl) ?_
            obtain ⟨f82_1844, f82_1846, f82_1848, f82_1850, f82_1852, f82_1854, f82_1856, f82_1858, f82_1860, f82_1862, f82_1864, f82_1865, f82_1866, f82_1868, f82_1870, f82_1872, h82_1874, hb1845, hb1847, hb1849, hb1851, hb1853, hb1855, hb1857, hb1859, hb1861, hb1863, hb1867, hb1869, hb1871, hb1873, hb1875⟩ := (hI1837 82 (by decide) (by decide) : cp82 (wget w1835 82))
            refine xg_t (xg_getf (va := (0, f82_1860)) h82_1874 rfl) ?_
            by_cases hc1876 : f82_1860 = 0
            · refine xg_t (xg_ifF (u := f82_1860) rfl xnm0 (xj_neF hc1876)) ?_
              refine xg_t (xg_aload (va := (2, 82)) rfl rfl) ?_
              refine xg_t (xg_getf (va := (0, f82_1854)) h82_1874 rfl) ?_
              refine xg_t (xg_const) ?_
              by_cases hc1877 : f82_1854 = 3
              · refine xg_t (xg_icF (u := f82_1854) (v := 3) rfl xnm0 xnm0 (xj_neF hc1877)) ?_
                refine xg_t (xg_aload (va := (2, 82)) rfl rfl) ?_
                refine xg_t (xg_getf (va := (0, f82_1858)) h82_1874 rfl) ?_
                refine xg_t (xg_bip) ?_
                refine xg_t (xg_bip) ?_
                refine xg_t (xg_cSr mX12_isIn (vs := [(0, f82_1858), (0, 40), (0, 42)]) (rest := []) (rs := [(0, if 40 ≤ f82_1858 ∧ f82_1858 ≤ 42 then 1 else 0)]) (cn1 := 0) (sl1 := 0) rfl (mIsIn (by omega) (by omega) (by omega)) rfl rfl rfl rfl rfl rfl rfl rfl) ?_
                by_cases hc1878 : 40 ≤ f82_1858 ∧ f82_1858 ≤ 42
                · refine xg_t (xg_ifT (u := (if 40 ≤ f82_1858 ∧ f82_1858 ≤ 42 then 1 else 0)) rfl xnm0 (xj_neT (xite1 hc1878))) ?_
                  refine xg_t (xg_blk (b := [(141, 1, 0, 0, 0, 0), (142, 3, 1, 12, 9, 165), (145, 1, 15, 2, 0, 0), (146, 1, 0, 0, 0, 0), (147, 3, 13, 110, 96, 190), (150, 1, 2, 2, 0, 0), (151, 2, 4, 40, 0, 0), (153, 3, 6, 160, 1, 0), (156, 1, 3, 0, 0, 0), (157, 3, 8, 164, 0, 0)]) rfl) ?_
                  refine xg_t (xg_aload (va := (2, 82)) rfl rfl) ?_
                  refine xg_t (xg_getf (va := (0, f82_1858)) h82_1874 rfl) ?_
                  refine xg_t (xg_istore (l1 := [(0, (2, 82)), (1, (0, kr))]) rfl rfl rfl) ?_
                  refine xg_t (xg_aload (va := (2, 82)) rfl rfl) ?_
                  have hf1879 : fld w1835 82 7 = f82_1854 := fld_of h82_1874
                  refine xg_cVv mX12_advance (vs := []) (rest := []) (cn1 := 0) (sl1 := 0) rfl (mAdvance (hI1837)) rfl h82_1874 rfl rfl rfl rfl rfl rfl (fun w1880 hq1881 => ?_)
                  obtain ⟨hI1882, hF1883, hx1884⟩ := hq1881
                  obtain ⟨hv1885, hv1886, hv1887, hv1888⟩ := hx1884
                  have hf1889 := FA_fr hF1883 (by decide)
                  have pk1890 : PK w1835 w1880 := ⟨fun _ => by omega, hv1885, hv1888, (show fld w1880 82 10 = 0 ∨ FA w1880 ≠ 0 by omega)⟩
                  have pk1891 : PK w w1880 := PK.tr pk1840 pk1890
                  have ro1892 : ∀ l, l < fld w 82 14 → l < 16 → rwv w1880 112 (20 * l) = rwv w 112 (20 * l) := fun l hl h6 => (rwv_fr hF1883 (by decide)).trans (ro1841 l hl h6)
                  have hq1893 := pk1891
                  unfold PK PS at hq1893
                  have ms1894 : mu w1880 < mu w := Nat.lt_of_le_of_lt pk1890.2.1 ms1843
                  refine xg_t (xg_iload (va := (0, f82_1858)) rfl rfl) ?_
                  refine xg_t (xg_bip) ?_
                  by_cases hc1895 : f82_1858 = 40
                  · refine xg_t (xg_icF (u := f82_1858) (v := 40) rfl xnm0 xnm0 (xj_neF hc1895)) ?_
                    refine xg_t (xg_const) ?_
                    refine xg_t (xg_goto) ?_
                    refine xg_t (xg_blk (b := [(164, 1, 15, 3, 0, 0), (165, 1, 0, 0, 0, 0), (166, 2, 4, 59, 0, 0), (168, 3, 13, 195, 96, 427), (171, 1, 0, 0, 0, 0), (172, 1, 3, 0, 0, 0), (173, 1, 2, 1, 0, 0), (174, 3, 13, 214, 96, 424), (177, 1, 0, 0, 0, 0), (178, 2, 4, 17, 0, 0), (180, 1, 2, 2, 0, 0), (181, 3, 13, 214, 96, 424), (184, 1, 0, 0, 0, 0), (185, 2, 4, 18, 0, 0), (187, 1, 2, 3, 0, 0), (188, 3, 13, 214, 96, 424), (191, 1, 0, 0, 0, 0), (192, 1, 19, 0, 0, 0), (193, 3, 1, 12, 14, 212), (196, 1, 3, 1, 0, 0), (197, 1, 11, 0, 0, 0), (198, 3, 14, 12, 14, 212), (201, 1, 12, 0, 0, 0)]) rfl) ?_
                    refine xg_t (xg_istore (l1 := [(2, (0, f82_1858)), (0, (2, 82)), (1, (0, kr))]) rfl rfl rfl) ?_
                    refine xg_t (xg_aload (va := (2, 82)) rfl rfl) ?_
                    refine xg_t (xg_bip) ?_
                    obtain ⟨f82_1896, f82_1898, f82_1900, f82_1902, f82_1904, f82_1906, f82_1908, f82_1910, f82_1912, f82_1914, f82_1916, f82_1917, f82_1918, f82_1920, f82_1922, f82_1924, h82_1926, hb1897, hb1899, hb1901, hb1903, hb1905, hb1907, hb1909, hb1911, hb1913, hb1915, hb1919, hb1921, hb1923, hb1925, hb1927⟩ := (hI1882 82 (by decide) (by decide) : cp82 (wget w1880 82))
                    refine xg_cVv mX12_must (vs := [(0, 59)]) (rest := []) (cn1 := 0) (sl1 := 0) rfl (mMust (hI1882) (by omega) pk1891.2.2.2) rfl h82_1926 rfl rfl rfl rfl rfl rfl (fun w1928 hq1929 => ?_)
                    obtain ⟨hI1930, hF1931, hx1932⟩ := hq1929
                    have pk1933 : PK w w1928 := PK.tr pk1891 hx1932
                    have ro1934 : ∀ l, l < fld w 82 14 → l < 16 → rwv w1928 112 (20 * l) = rwv w 112 (20 * l) := fun l hl h6 => (rwv_fr hF1931 (by decide)).trans (ro1892 l hl h6)
                    have hq1935 := pk1933
                    unfold PK PS at hq1935
                    have ms1936 : mu w1928 < mu w := Nat.lt_of_le_of_lt hx1932.2.1 ms1894
                    refine xg_t (xg_aload (va := (2, 82)) rfl rfl) ?_
                    refine xg_t (xg_const) ?_
                    refine xg_t (xg_iload (va := (0, kr)) rfl rfl) ?_
                    have hl1937 : fld w1928 82 14 ≤ 2000 := by omega
                    obtain ⟨f82_1938, f82_1940, f82_1942, f82_1944, f82_1946, f82_1948, f82_1950, f82_1952, f82_1954, f82_1956, f82_1958, f82_1959, f82_1960, f82_1962, f82_1964, f82_1966, h82_1968, hb1939, hb1941, hb1943, hb1945, hb1947, hb1949, hb1951, hb1953, hb1955, hb1957, hb1961, hb1963, hb1965, hb1967, hb1969⟩ := (hI1930 82 (by decide) (by decide) : cp82 (wget w1928 82))
                    refine xg_cVv mX12_rulePuts (vs := [(0, 0), (0, kr)]) (rest := []) (cn1 := 0) (sl1 := 0) rfl (mRulePuts (hI1930) (by omega) (by omega) (by omega)) rfl h82_1968 rfl rfl rfl rfl rfl rfl (fun w1970 hq1971 => ?_)
                    obtain ⟨hI1972, hF1973, hx1974⟩ := hq1971
                    have hx1975 := hx1974
                    have pk1976 : PK w w1970 := PK.tr pk1933 (PK.fr hF1973 (by decide) (by decide) pk1933.2.2.2)
                    have ro1977 : ∀ l, l < fld w 82 14 → l < 16 → rwv w1970 112 (20 * l) = rwv w 112 (20 * l) := fun l hl h6 => ((hx1975 _ (by omega)).2 (by omega)).trans (ro1934 l hl h6)
                    have hq1978 := pk1976
                    unfold PK PS at hq1978
                    have ms1979 : mu w1970 < mu w := Nat.lt_of_le_of_lt (PK.fr hF1973 (by decide) (by decide) pk1933.2.2.2).2.1 ms1936
                    have rz1980 : fld w 82 14 < 16 → rwv w1970 112 (20 * fld w 82 14) = kr := fun h6 => (hx1975 _ (by omega)).1 ⟨by omega, by omega⟩
                    refine xg_t (xg_aload (va := (2, 82)) rfl rfl) ?_
                    refine xg_t (xg_bip) ?_
                    refine xg_t (xg_iload (va := (0, f82_1858)) rfl rfl) ?_
                    have hl1981 : fld w1970 82 14 ≤ 2000 := by omega
                    refine xg_cVv mX12_rulePuts (vs := [(0, 17), (0, f82_1858)]) (rest := []) (cn1 := 0) (sl1 := 0) rfl (mRulePuts (hI1972) (by omega) (by omega) (by omega)) rfl (hF1973.get (by decide) h82_1968) rfl rfl rfl rfl rfl rfl (fun w1982 hq1983 => ?_)
                    obtain ⟨hI1984, hF1985, hx1986⟩ := hq1983
                    have hx1987 := hx1986
                    have pk1988 : PK w w1982 := PK.tr pk1976 (PK.fr hF1985 (by decide) (by decide) pk1976.2.2.2)
                    have ro1989 : ∀ l, l < fld w 82 14 → l < 16 → rwv w1982 112 (20 * l) = rwv w 112 (20 * l) := fun l hl h6 => ((hx1987 _ (by omega)).2 (by omega)).trans (ro1977 l hl h6)
                    have hq1990 := pk1988
                    unfold PK PS at hq1990
                    have ms1991 : mu w1982 < mu w := Nat.lt_of_le_of_lt (PK.fr hF1985 (by decide) (by decide) pk1976.2.2.2).2.1 ms1979
                    have rz1992 : fld w 82 14 < 16 → rwv w1982 112 (20 * fld w 82 14) = kr := fun h6 => ((hx1987 _ (by omega)).2 (by omega)).trans (rz1980 h6)
                    refine xg_t (xg_aload (va := (2, 82)) rfl rfl) ?_
                    refine xg_t (xg_bip) ?_
                    refine xg_t (xg_iload (va := (0, 0)) rfl rfl) ?_
                    have hl1993 : fld w1982 82 14 ≤ 2000 := by omega
                    refine xg_cVv mX12_rulePuts (vs := [(0, 18), (0, 0)]) (rest := []) (cn1 := 0) (sl1 := 0) rfl (mRulePuts (hI1984) (by omega) (by omega) (by omega)) rfl (hF1985.get (by decide) (hF1973.get (by decide) h82_1968)) rfl rfl rfl rfl rfl rfl (fun w1994 hq1995 => ?_)
                    obtain ⟨hI1996, hF1997, hx1998⟩ := hq1995
                    have hx1999 := hx1998
                    have pk2000 : PK w w1994 := PK.tr pk1988 (PK.fr hF1997 (by decide) (by decide) pk1988.2.2.2)
                    have ro2001 : ∀ l, l < fld w 82 14 → l < 16 → rwv w1994 112 (20 * l) = rwv w 112 (20 * l) := fun l hl h6 => ((hx1999 _ (by omega)).2 (by omega)).trans (ro1989 l hl h6)
                    have hq2002 := pk2000
                    unfold PK PS at hq2002
                    have ms2003 : mu w1994 < mu w := Nat.lt_of_le_of_lt (PK.fr hF1997 (by decide) (by decide) pk1988.2.2.2).2.1 ms1991
                    have rz2004 : fld w 82 14 < 16 → rwv w1994 112 (20 * fld w 82 14) = kr := fun h6 => ((hx1999 _ (by omega)).2 (by omega)).trans (rz1992 h6)
                    have hf2005 : fld w1994 82 4 = f82_1942 := fld_of (hF1997.get (by decide) (hF1985.get (by decide) (hF1973.get (by decide) h82_1968)))
                    have hf2006 : fld w1994 82 5 = f82_1944 := fld_of (hF1997.get (by decide) (hF1985.get (by decide) (hF1973.get (by decide) h82_1968)))
                    have hf2007 : fld w1994 82 7 = f82_1948 := fld_of (hF1997.get (by decide) (hF1985.get (by decide) (hF1973.get (by decide) h82_1968)))
                    have hf2008 : fld w1994 82 10 = f82_1954 := fld_of (hF1997.get (by decide) (hF1985.get (by decide) (hF1973.get (by decide) h82_1968)))
                    have hf2009 : fld w1994 82 14 = f82_1956 := fld_of (hF1997.get (by decide) (hF1985.get (by decide) (hF1973.get (by decide) h82_1968)))
                    have hu2010 : mu w1994 = 2 * (fld w1994 82 4 - fld w1994 82 5) + min 1 (fld w1994 82 7) := rfl
                    have hl2011 : f82_1956 ≤ 1001 := by omega
                    refine xg_t (xg_aload (va := (2, 82)) rfl rfl) ?_
                    refine xg_t (xg_dup rfl) ?_
                    refine xg_t (xg_getf (va := (0, f82_1956)) (hF1997.get (by decide) (hF1985.get (by decide) (hF1973.get (by decide) h82_1968))) rfl) ?_
                    refine xg_t (xg_const) ?_
                    refine xg_t (xg_iadd (u := f82_1956) (v := 1) (z := f82_1956 + 1) xnm0 xnm0 (by omega)) ?_
                    refine xg_putI (fl1 := [(2, 83), (2, 84), (0, f82_1938), (0, f82_1940), (0, f82_1942), (0, f82_1944), (0, f82_1946), (0, f82_1948), (0, f82_1950), (0, f82_1952), (0, f82_1954), (2, 85), (2, 86), (2, 87), (0, f82_1956 + 1), (2, 88), (2, 89), (2, 90), (2, 91), (2, 92), (2, 93), (2, 94), (4, f82_1958), (4, f82_1959), (0, f82_1960), (2, 95), (2, 96), (2, 97), (2, 98), (2, 99), (2, 100), (2, 101), (2, 102), (0, f82_1962), (2, 103), (2, 104), (2, 105), (2, 106), (2, 107), (2, 108), (2, 109), (0, f82_1964), (0, f82_1966), (2, 110), (2, 111), (2, 112), (2, 113)]) (hF1997.get (by decide) (hF1985.get (by decide) (hF1973.get (by decide) h82_1968))) rfl rfl rfl (fun w2012 hk2013 hb2014 => ?_)
                    have hF2015 : xFr [82] w1994 w2012 := xFr.of hb2014 (by decide)
                    have hA2016 := FA_fr hF2015 (by decide)
                    have hf2017 : fld w2012 82 4 = f82_1942 := fld_of hk2013
                    have hf2018 : fld w2012 82 5 = f82_1944 := fld_of hk2013
                    have hf2019 : fld w2012 82 7 = f82_1948 := fld_of hk2013
                    have hf2020 : fld w2012 82 10 = f82_1954 := fld_of hk2013
                    have hf2021 : fld w2012 82 14 = f82_1956 + 1 := fld_of hk2013
                    have hu2022 : mu w2012 = 2 * (fld w2012 82 4 - fld w2012 82 5) + min 1 (fld w2012 82 7) := rfl
                    have hD2023 : FA w2012 ≠ 0 ∨ (RD w → RD w2012) := by
                      by_cases z : FA w2012 ≠ 0
                      · exact Or.inl z
                      · refine Or.inr (fun hd => ⟨by omega, fun l hl => ?_⟩)
                        rw [rwv_fr hF2015 (by decide)]
                        by_cases y : l = fld w 82 14
                        · rw [y, rz2004 (by omega)]; omega
                        · rw [ro2001 l (by omega) (by have := hd.1; omega)]; exact hd.2 l (by omega)
                    exact xg_e ⟨w2012, ⟨rfl, rfl⟩, xMnv.up (S := [82]) hI1996 (xFr.of (S := [82]) hb2014 (by decide)) (List.forall_mem_cons.mpr ⟨(show cp82 (wget w2012 82) from ⟨f82_1938, f82_1940, f82_1942, f82_1944, f82_1946, f82_1948, f82_1950, f82_1952, f82_1954, f82_1956 + 1, f82_1958, f82_1959, f82_1960, f82_1962, f82_1964, f82_1966, hk2013, by omega, by omega, by omega, by omega, by omega, by omega, by omega, by omega, by omega, by omega, by omega, by omega, by omega, by omega, by omega⟩), fun _ h => absurd h List.not_mem_nil⟩), (((((((hF1789.tr (hF1838.up (by decide))).tr (hF1883.up (by decide))).tr (hF1931.up (by decide))).tr (hF1973.up (by decide))).tr (hF1985.up (by decide))).tr (hF1997.up (by decide))).tr (xFr.of (S := [82, 83, 112, 113]) hb2014 (by decide))), ⟨fun h => by have := pk2000.1 h; omega, (show fld w2012 82 10 = 0 ∨ FA w2012 ≠ 0 by omega), Or.inr ⟨by have := ms2003; omega, by omega⟩, hD2023⟩⟩
                  · refine xg_t (xg_icT (u := f82_1858) (v := 40) rfl xnm0 xnm0 (xj_neT hc1895)) ?_
                    refine xg_t (xg_blk (b := [(160, 1, 0, 0, 0, 0), (161, 3, 13, 198, 96, 418)]) rfl) ?_
                    refine xg_t (xg_aload (va := (2, 82)) rfl rfl) ?_
                    obtain ⟨f82_2024, f82_2026, f82_2028, f82_2030, f82_2032, f82_2034, f82_2036, f82_2038, f82_2040, f82_2042, f82_2044, f82_2045, f82_2046, f82_2048, f82_2050, f82_2052, h82_2054, hb2025, hb2027, hb2029, hb2031, hb2033, hb2035, hb2037, hb2039, hb2041, hb2043, hb2047, hb2049, hb2051, hb2053, hb2055⟩ := (hI1882 82 (by decide) (by decide) : cp82 (wget w1880 82))
                    refine xg_cVi mX12_numberNow (vs := []) (rest := []) (cn1 := 0) (sl1 := 0) rfl (mNumberNow (hI1882) pk1891.2.2.2) rfl h82_2054 rfl rfl rfl rfl rfl rfl (fun n2060 w2056 hq2057 => ?_)
                    obtain ⟨hn2061, hI2058, hF2059⟩ := hq2057
                    obtain ⟨hn2062, hn2063⟩ := hn2061
                    have pk2064 : PK w w2056 := PK.tr pk1891 hn2063
                    have ro2065 : ∀ l, l < fld w 82 14 → l < 16 → rwv w2056 112 (20 * l) = rwv w 112 (20 * l) := fun l hl h6 => (rwv_fr hF2059 (by decide)).trans (ro1892 l hl h6)
                    have hq2066 := pk2064
                    unfold PK PS at hq2066
                    have ms2067 : mu w2056 < mu w := Nat.lt_of_le_of_lt hn2063.2.1 ms1894
                    refine xg_t (xg_blk (b := [(164, 1, 15, 3, 0, 0), (165, 1, 0, 0, 0, 0), (166, 2, 4, 59, 0, 0), (168, 3, 13, 195, 96, 427), (171, 1, 0, 0, 0, 0), (172, 1, 3, 0, 0, 0), (173, 1, 2, 1, 0, 0), (174, 3, 13, 214, 96, 424), (177, 1, 0, 0, 0, 0), (178, 2, 4, 17, 0, 0), (180, 1, 2, 2, 0, 0), (181, 3, 13, 214, 96, 424), (184, 1, 0, 0, 0, 0), (185, 2, 4, 18, 0, 0), (187, 1, 2, 3, 0, 0), (188, 3, 13, 214, 96, 424), (191, 1, 0, 0, 0, 0), (192, 1, 19, 0, 0, 0), (193, 3, 1, 12, 14, 212), (196, 1, 3, 1, 0, 0), (197, 1, 11, 0, 0, 0), (198, 3, 14, 12, 14, 212), (201, 1, 12, 0, 0, 0)]) rfl) ?_
                    refine xg_t (xg_istore (l1 := [(2, (0, f82_1858)), (0, (2, 82)), (1, (0, kr))]) rfl rfl rfl) ?_
                    refine xg_t (xg_aload (va := (2, 82)) rfl rfl) ?_
                    refine xg_t (xg_bip) ?_
                    obtain ⟨f82_2068, f82_2070, f82_2072, f82_2074, f82_2076, f82_2078, f82_2080, f82_2082, f82_2084, f82_2086, f82_2088, f82_2089, f82_2090, f82_2092, f82_2094, f82_2096, h82_2098, hb2069, hb2071, hb2073, hb2075, hb2077, hb2079, hb2081, hb2083, hb2085, hb2087, hb2091, hb2093, hb2095, hb2097, hb2099⟩ := (hI2058 82 (by decide) (by decide) : cp82 (wget w2056 82))
                    refine xg_cVv mX12_must (vs := [(0, 59)]) (rest := []) (cn1 := 0) (sl1 := 0) rfl (mMust (hI2058) (by omega) pk2064.2.2.2) rfl h82_2098 rfl rfl rfl rfl rfl rfl (fun w2100 hq2101 => ?_)
                    obtain ⟨hI2102, hF2103, hx2104⟩ := hq2101
                    have pk2105 : PK w w2100 := PK.tr pk2064 hx2104
                    have ro2106 : ∀ l, l < fld w 82 14 → l < 16 → rwv w2100 112 (20 * l) = rwv w 112 (20 * l) := fun l hl h6 => (rwv_fr hF2103 (by decide)).trans (ro2065 l hl h6)
                    have hq2107 := pk2105
                    unfold PK PS at hq2107
                    have ms2108 : mu w2100 < mu w := Nat.lt_of_le_of_lt hx2104.2.1 ms2067
                    refine xg_t (xg_aload (va := (2, 82)) rfl rfl) ?_
                    refine xg_t (xg_const) ?_
                    refine xg_t (xg_iload (va := (0, kr)) rfl rfl) ?_
                    have hl2109 : fld w2100 82 14 ≤ 2000 := by omega
                    obtain ⟨f82_2110, f82_2112, f82_2114, f82_2116, f82_2118, f82_2120, f82_2122, f82_2124, f82_2126, f82_2128, f82_2130, f82_2131, f82_2132, f82_2134, f82_2136, f82_2138, h82_2140, hb2111, hb2113, hb2115, hb2117, hb2119, hb2121, hb2123, hb2125, hb2127, hb2129, hb2133, hb2135, hb2137, hb2139, hb2141⟩ := (hI2102 82 (by decide) (by decide) : cp82 (wget w2100 82))
                    refine xg_cVv mX12_rulePuts (vs := [(0, 0), (0, kr)]) (rest := []) (cn1 := 0) (sl1 := 0) rfl (mRulePuts (hI2102) (by omega) (by omega) (by omega)) rfl h82_2140 rfl rfl rfl rfl rfl rfl (fun w2142 hq2143 => ?_)
                    obtain ⟨hI2144, hF2145, hx2146⟩ := hq2143
                    have hx2147 := hx2146
                    have pk2148 : PK w w2142 := PK.tr pk2105 (PK.fr hF2145 (by decide) (by decide) pk2105.2.2.2)
                    have ro2149 : ∀ l, l < fld w 82 14 → l < 16 → rwv w2142 112 (20 * l) = rwv w 112 (20 * l) := fun l hl h6 => ((hx2147 _ (by omega)).2 (by omega)).trans (ro2106 l hl h6)
                    have hq2150 := pk2148
                    unfold PK PS at hq2150
                    have ms2151 : mu w2142 < mu w := Nat.lt_of_le_of_lt (PK.fr hF2145 (by decide) (by decide) pk2105.2.2.2).2.1 ms2108
                    have rz2152 : fld w 82 14 < 16 → rwv w2142 112 (20 * fld w 82 14) = kr := fun h6 => (hx2147 _ (by omega)).1 ⟨by omega, by omega⟩
                    refine xg_t (xg_aload (va := (2, 82)) rfl rfl) ?_
                    refine xg_t (xg_bip) ?_
                    refine xg_t (xg_iload (va := (0, f82_1858)) rfl rfl) ?_
                    have hl2153 : fld w2142 82 14 ≤ 2000 := by omega
                    refine xg_cVv mX12_rulePuts (vs := [(0, 17), (0, f82_1858)]) (rest := []) (cn1 := 0) (sl1 := 0) rfl (mRulePuts (hI2144) (by omega) (by omega) (by omega)) rfl (hF2145.get (by decide) h82_2140) rfl rfl rfl rfl rfl rfl (fun w2154 hq2155 => ?_)
                    obtain ⟨hI2156, hF2157, hx2158⟩ := hq2155
                    have hx2159 := hx2158
                    have pk2160 : PK w w2154 := PK.tr pk2148 (PK.fr hF2157 (by decide) (by decide) pk2148.2.2.2)
                    have ro2161 : ∀ l, l < fld w 82 14 → l < 16 → rwv w2154 112 (20 * l) = rwv w 112 (20 * l) := fun l hl h6 => ((hx2159 _ (by omega)).2 (by omega)).trans (ro2149 l hl h6)
                    have hq2162 := pk2160
                    unfold PK PS at hq2162
                    have ms2163 : mu w2154 < mu w := Nat.lt_of_le_of_lt (PK.fr hF2157 (by decide) (by decide) pk2148.2.2.2).2.1 ms2151
                    have rz2164 : fld w 82 14 < 16 → rwv w2154 112 (20 * fld w 82 14) = kr := fun h6 => ((hx2159 _ (by omega)).2 (by omega)).trans (rz2152 h6)
                    refine xg_t (xg_aload (va := (2, 82)) rfl rfl) ?_
                    refine xg_t (xg_bip) ?_
                    refine xg_t (xg_iload (va := (0, n2060)) rfl rfl) ?_
                    have hl2165 : fld w2154 82 14 ≤ 2000 := by omega
                    refine xg_cVv mX12_rulePuts (vs := [(0, 18), (0, n2060)]) (rest := []) (cn1 := 0) (sl1 := 0) rfl (mRulePuts (hI2156) (by omega) (by omega) (by omega)) rfl (hF2157.get (by decide) (hF2145.get (by decide) h82_2140)) rfl rfl rfl rfl rfl rfl (fun w2166 hq2167 => ?_)
                    obtain ⟨hI2168, hF2169, hx2170⟩ := hq2167
                    have hx2171 := hx2170
                    have pk2172 : PK w w2166 := PK.tr pk2160 (PK.fr hF2169 (by decide) (by decide) pk2160.2.2.2)
                    have ro2173 : ∀ l, l < fld w 82 14 → l < 16 → rwv w2166 112 (20 * l) = rwv w 112 (20 * l) := fun l hl h6 => ((hx2171 _ (by omega)).2 (by omega)).trans (ro2161 l hl h6)
                    have hq2174 := pk2172
                    unfold PK PS at hq2174
                    have ms2175 : mu w2166 < mu w := Nat.lt_of_le_of_lt (PK.fr hF2169 (by decide) (by decide) pk2160.2.2.2).2.1 ms2163
                    have rz2176 : fld w 82 14 < 16 → rwv w2166 112 (20 * fld w 82 14) = kr := fun h6 => ((hx2171 _ (by omega)).2 (by omega)).trans (rz2164 h6)
                    have hf2177 : fld w2166 82 4 = f82_2114 := fld_of (hF2169.get (by decide) (hF2157.get (by decide) (hF2145.get (by decide) h82_2140)))
                    have hf2178 : fld w2166 82 5 = f82_2116 := fld_of (hF2169.get (by decide) (hF2157.get (by decide) (hF2145.get (by decide) h82_2140)))
                    have hf2179 : fld w2166 82 7 = f82_2120 := fld_of (hF2169.get (by decide) (hF2157.get (by decide) (hF2145.get (by decide) h82_2140)))
                    have hf2180 : fld w2166 82 10 = f82_2126 := fld_of (hF2169.get (by decide) (hF2157.get (by decide) (hF2145.get (by decide) h82_2140)))
                    have hf2181 : fld w2166 82 14 = f82_2128 := fld_of (hF2169.get (by decide) (hF2157.get (by decide) (hF2145.get (by decide) h82_2140)))
                    have hu2182 : mu w2166 = 2 * (fld w2166 82 4 - fld w2166 82 5) + min 1 (fld w2166 82 7) := rfl
                    have hl2183 : f82_2128 ≤ 1001 := by omega
                    refine xg_t (xg_aload (va := (2, 82)) rfl rfl) ?_
                    refine xg_t (xg_dup rfl) ?_
                    refine xg_t (xg_getf (va := (0, f82_2128)) (hF2169.get (by decide) (hF2157.get (by decide) (hF2145.get (by decide) h82_2140))) rfl) ?_
                    refine xg_t (xg_const) ?_
                    refine xg_t (xg_iadd (u := f82_2128) (v := 1) (z := f82_2128 + 1) xnm0 xnm0 (by omega)) ?_
                    refine xg_putI (fl1 := [(2, 83), (2, 84), (0, f82_2110), (0, f82_2112), (0, f82_2114), (0, f82_2116), (0, f82_2118), (0, f82_2120), (0, f82_2122), (0, f82_2124), (0, f82_2126), (2, 85), (2, 86), (2, 87), (0, f82_2128 + 1), (2, 88), (2, 89), (2, 90), (2, 91), (2, 92), (2, 93), (2, 94), (4, f82_2130), (4, f82_2131), (0, f82_2132), (2, 95), (2, 96), (2, 97), (2, 98), (2, 99), (2, 100), (2, 101), (2, 102), (0, f82_2134), (2, 103), (2, 104), (2, 105), (2, 106), (2, 107), (2, 108), (2, 109), (0, f82_2136), (0, f82_2138), (2, 110), (2, 111), (2, 112), (2, 113)]) (hF2169.get (by decide) (hF2157.get (by decide) (hF2145.get (by decide) h82_2140))) rfl rfl rfl (fun w2184 hk2185 hb2186 => ?_)
                    have hF2187 : xFr [82] w2166 w2184 := xFr.of hb2186 (by decide)
                    have hA2188 := FA_fr hF2187 (by decide)
                    have hf2189 : fld w2184 82 4 = f82_2114 := fld_of hk2185
                    have hf2190 : fld w2184 82 5 = f82_2116 := fld_of hk2185
                    have hf2191 : fld w2184 82 7 = f82_2120 := fld_of hk2185
                    have hf2192 : fld w2184 82 10 = f82_2126 := fld_of hk2185
                    have hf2193 : fld w2184 82 14 = f82_2128 + 1 := fld_of hk2185
                    have hu2194 : mu w2184 = 2 * (fld w2184 82 4 - fld w2184 82 5) + min 1 (fld w2184 82 7) := rfl
                    have hD2195 : FA w2184 ≠ 0 ∨ (RD w → RD w2184) := by
                      by_cases z : FA w2184 ≠ 0
                      · exact Or.inl z
                      · refine Or.inr (fun hd => ⟨by omega, fun l hl => ?_⟩)
                        rw [rwv_fr hF2187 (by decide)]
                        by_cases y : l = fld w 82 14
                        · rw [y, rz2176 (by omega)]; omega
                        · rw [ro2173 l (by omega) (by have := hd.1; omega)]; exact hd.2 l (by omega)
                    exact xg_e ⟨w2184, ⟨rfl, rfl⟩, xMnv.up (S := [82]) hI2168 (xFr.of (S := [82]) hb2186 (by decide)) (List.forall_mem_cons.mpr ⟨(show cp82 (wget w2184 82) from ⟨f82_2110, f82_2112, f82_2114, f82_2116, f82_2118, f82_2120, f82_2122, f82_2124, f82_2126, f82_2128 + 1, f82_2130, f82_2131, f82_2132, f82_2134, f82_2136, f82_2138, hk2185, by omega, by omega, by omega, by omega, by omega, by omega, by omega, by omega, by omega, by omega, by omega, by omega, by omega, by omega, by omega⟩), fun _ h => absurd h List.not_mem_nil⟩), ((((((((hF1789.tr (hF1838.up (by decide))).tr (hF1883.up (by decide))).tr (hF2059.up (by decide))).tr (hF2103.up (by decide))).tr (hF2145.up (by decide))).tr (hF2157.up (by decide))).tr (hF2169.up (by decide))).tr (xFr.of (S := [82, 83, 112, 113]) hb2186 (by decide))), ⟨fun h => by have := pk2172.1 h; omega, (show fld w2184 82 10 = 0 ∨ FA w2184 ≠ 0 by omega), Or.inr ⟨by have := ms2175; omega, by omega⟩, hD2195⟩⟩
                · refine xg_t (xg_ifF (u := (if 40 ≤ f82_1858 ∧ f82_1858 ≤ 42 then 1 else 0)) rfl xnm0 (xj_neF (xite0 hc1878))) ?_
                  refine xg_t (xg_blk (b := [(136, 1, 0, 0, 0, 0), (137, 3, 13, 140, 96, 183), (140, 1, 12, 0, 0, 0)]) rfl) ?_
                  refine xg_t (xg_aload (va := (2, 82)) rfl rfl) ?_
                  refine xg_cVv mX12_ends (vs := []) (rest := []) (cn1 := 0) (sl1 := 0) rfl (mEnds (hI1837) pk1840.2.2.2) rfl h82_1874 rfl rfl rfl rfl rfl rfl (fun w2196 hq2197 => ?_)
                  obtain ⟨hI2198, hF2199, hx2200⟩ := hq2197
                  obtain ⟨hv2201, hv2202, hv2203, hv2204⟩ := hx2200
                  have pk2205 : PK w1835 w2196 := ⟨fun _ => hv2201, by omega, by omega, Or.inr hv2201⟩
                  have pk2206 : PK w w2196 := PK.tr pk1840 pk2205
                  have ro2207 : ∀ l, l < fld w 82 14 → l < 16 → rwv w2196 112 (20 * l) = rwv w 112 (20 * l) := fun l hl h6 => (rwv_fr hF2199 (by decide)).trans (ro1841 l hl h6)
                  have hq2208 := pk2206
                  unfold PK PS at hq2208
                  have ms2209 : mu w2196 < mu w := Nat.lt_of_le_of_lt pk2205.2.1 ms1843
                  obtain ⟨f82_2210, f82_2212, f82_2214, f82_2216, f82_2218, f82_2220, f82_2222, f82_2224, f82_2226, f82_2228, f82_2230, f82_2231, f82_2232, f82_2234, f82_2236, f82_2238, h82_2240, hb2211, hb2213, hb2215, hb2217, hb2219, hb2221, hb2223, hb2225, hb2227, hb2229, hb2233, hb2235, hb2237, hb2239, hb2241⟩ := (hI2198 82 (by decide) (by decide) : cp82 (wget w2196 82))
                  exact xg_e ⟨w2196, ⟨rfl, rfl⟩, hI2198, ((hF1789.tr (hF1838.up (by decide))).tr (hF2199.up (by decide))), ⟨pk2206.1, pk2206.2.2.2, Or.inl ⟨by omega, pk2206.2.1, pk2206.2.2.1⟩, Or.inl (by omega)⟩⟩
              · refine xg_t (xg_icT (u := f82_1854) (v := 3) rfl xnm0 xnm0 (xj_neT hc1877)) ?_
                refine xg_t (xg_blk (b := [(136, 1, 0, 0, 0, 0), (137, 3, 13, 140, 96, 183), (140, 1, 12, 0, 0, 0)]) rfl) ?_
                refine xg_t (xg_aload (va := (2, 82)) rfl rfl) ?_
                refine xg_cVv mX12_ends (vs := []) (rest := []) (cn1 := 0) (sl1 := 0) rfl (mEnds (hI1837) pk1840.2.2.2) rfl h82_1874 rfl rfl rfl rfl rfl rfl (fun w2242 hq2243 => ?_)
                obtain ⟨hI2244, hF2245, hx2246⟩ := hq2243
                obtain ⟨hv2247, hv2248, hv2249, hv2250⟩ := hx2246
                have pk2251 : PK w1835 w2242 := ⟨fun _ => hv2247, by omega, by omega, Or.inr hv2247⟩
                have pk2252 : PK w w2242 := PK.tr pk1840 pk2251
                have ro2253 : ∀ l, l < fld w 82 14 → l < 16 → rwv w2242 112 (20 * l) = rwv w 112 (20 * l) := fun l hl h6 => (rwv_fr hF2245 (by decide)).trans (ro1841 l hl h6)
                have hq2254 := pk2252
                unfold PK PS at hq2254
                have ms2255 : mu w2242 < mu w := Nat.lt_of_le_of_lt pk2251.2.1 ms1843
                obtain ⟨f82_2256, f82_2258, f82_2260, f82_2262, f82_2264, f82_2266, f82_2268, f82_2270, f82_2272, f82_2274, f82_2276, f82_2277, f82_2278, f82_2280, f82_2282, f82_2284, h82_2286, hb2257, hb2259, hb2261, hb2263, hb2265, hb2267, hb2269, hb2271, hb2273, hb2275, hb2279, hb2281, hb2283, hb2285, hb2287⟩ := (hI2244 82 (by decide) (by decide) : cp82 (wget w2242 82))
                exact xg_e ⟨w2242, ⟨rfl, rfl⟩, hI2244, ((hF1789.tr (hF1838.up (by decide))).tr (hF2245.up (by decide))), ⟨pk2252.1, pk2252.2.2.2, Or.inl ⟨by omega, pk2252.2.1, pk2252.2.2.1⟩, Or.inl (by omega)⟩⟩
            · refine xg_t (xg_ifT (u := f82_1860) rfl xnm0 (xj_neT hc1876)) ?_
              refine xg_t (xg_blk (b := [(136, 1, 0, 0, 0, 0), (137, 3, 13, 140, 96, 183), (140, 1, 12, 0, 0, 0)]) rfl) ?_
              refine xg_t (xg_aload (va := (2, 82)) rfl rfl) ?_
              refine xg_cVv mX12_ends (vs := []) (rest := []) (cn1 := 0) (sl1 := 0) rfl (mEnds (hI1837) pk1840.2.2.2) rfl h82_1874 rfl rfl rfl rfl rfl rfl (fun w2288 hq2289 => ?_)
              obtain ⟨hI2290, hF2291, hx2292⟩ := hq2289
              obtain ⟨hv2293, hv2294, hv2295, hv2296⟩ := hx2292
              have pk2297 : PK w1835 w2288 := ⟨fun _ => hv2293, by omega, by omega, Or.inr hv2293⟩
              have pk2298 : PK w w2288 := PK.tr pk1840 pk2297
              have ro2299 : ∀ l, l < fld w 82 14 → l < 16 → rwv w2288 112 (20 * l) = rwv w 112 (20 * l) := fun l hl h6 => (rwv_fr hF2291 (by decide)).trans (ro1841 l hl h6)
              have hq2300 := pk2298
              unfold PK PS at hq2300
              have ms2301 : mu w2288 < mu w := Nat.lt_of_le_of_lt pk2297.2.1 ms1843
              obtain ⟨f82_2302, f82_2304, f82_2306, f82_2308, f82_2310, f82_2312, f82_2314, f82_2316, f82_2318, f82_2320, f82_2322, f82_2323, f82_2324, f82_2326, f82_2328, f82_2330, h82_2332, hb2303, hb2305, hb2307, hb2309, hb2311, hb2313, hb2315, hb2317, hb2319, hb2321, hb2325, hb2327, hb2329, hb2331, hb2333⟩ := (hI2290 82 (by decide) (by decide) : cp82 (wget w2288 82))
              exact xg_e ⟨w2288, ⟨rfl, rfl⟩, hI2290, ((hF1789.tr (hF1838.up (by decide))).tr (hF2291.up (by decide))), ⟨pk2298.1, pk2298.2.2.2, Or.inl ⟨by omega, pk2298.2.1, pk2298.2.2.1⟩, Or.inl (by omega)⟩⟩
          · refine xg_t (xg_ifF (u := mo) rfl xnm0 (xj_eqF hc1834)) ?_
            refine xg_t (xg_iload (va := (0, kr)) rfl rfl) ?_
            refine xg_t (xg_const) ?_
            by_cases hc2334 : 3 < kr
            · refine xg_t (xg_icF (u := kr) (v := 3) rfl xnm0 xnm0 (xj_leF hc2334 (by omega))) ?_
              refine xg_t (xg_aload (va := (2, 82)) rfl rfl) ?_
              refine xg_t (xg_const) ?_
              refine xg_t (xg_aload (va := (2, 82)) rfl rfl) ?_
              refine xg_t (xg_getf (va := (0, f82_1810)) h82_1832 rfl) ?_
              refine xg_cVv mX12_also (vs := [(0, 3), (0, f82_1810)]) (rest := []) (cn1 := 0) (sl1 := 0) rfl (mAlso (hI1788) (by omega) (by omega) (by omega) hz1794.2.2.2) rfl h82_1832 rfl rfl rfl rfl rfl rfl (fun w2335 hq2336 => ?_)
              obtain ⟨hI2337, hF2338, hx2339⟩ := hq2336
              have pk2340 : PK w1787 w2335 := ⟨fun _ => hx2339, Nat.le_of_eq (mu_fr hF2338 (by decide)), fld_fr hF2338 (by decide), Or.inr hx2339⟩
              have hA2341 := hx2339
              have pk2342 : PK w w2335 := PK.tr hz1794 pk2340
              have ro2343 : ∀ l, l < fld w 82 14 → l < 16 → rwv w2335 112 (20 * l) = rwv w 112 (20 * l) := fun l hl h6 => (rwv_fr hF2338 (by decide)).trans (hz1795 l hl h6)
              have hq2344 := pk2342
              unfold PK PS at hq2344
              have ms2345 : mu w2335 < mu w := Nat.lt_of_le_of_lt pk2340.2.1 hz1796
              refine xg_t (xg_blk (b := [(49, 1, 0, 0, 0, 0), (50, 3, 13, 109, 96, 421), (53, 1, 3, 0, 0, 0), (54, 1, 15, 3, 0, 0)]) rfl) ?_
              refine xg_t (xg_aload (va := (2, 82)) rfl rfl) ?_
              refine xg_cVv mX12_aTest (vs := []) (rest := []) (cn1 := 0) (sl1 := 0) rfl (mATest (hI2337) pk2342.2.2.2) rfl (hF2338.get (by decide) h82_1832) rfl rfl rfl rfl rfl rfl (fun w2346 hq2347 => ?_)
              obtain ⟨hI2348, hF2349, hx2350⟩ := hq2347
              have pk2351 : PK w w2346 := PK.tr pk2342 hx2350
              have ro2352 : ∀ l, l < fld w 82 14 → l < 16 → rwv w2346 112 (20 * l) = rwv w 112 (20 * l) := fun l hl h6 => (rwv_fr hF2349 (by decide)).trans (ro2343 l hl h6)
              have hq2353 := pk2351
              unfold PK PS at hq2353
              have ms2354 : mu w2346 < mu w := Nat.lt_of_le_of_lt hx2350.2.1 ms2345
              refine xg_t (xg_const) ?_
              refine xg_t (xg_istore (l1 := [(0, (2, 82)), (1, (0, kr)), (2, (0, mo))]) rfl rfl rfl) ?_
              refine xg_t (xg_blk (b := [(55, 1, 2, 3, 0, 0), (56, 1, 3, 4, 0, 0), (57, 3, 6, 88, 3, 0), (60, 1, 2, 1, 0, 0), (61, 1, 3, 4, 0, 0), (62, 3, 6, 88, 3, 0), (65, 1, 0, 0, 0, 0), (66, 1, 3, 1, 0, 0), (67, 1, 3, 4, 0, 0), (68, 1, 2, 1, 0, 0), (69, 1, 16, 0, 0, 0), (70, 1, 11, 0, 0, 0), (71, 1, 2, 3, 0, 0), (72, 1, 11, 0, 0, 0), (73, 1, 0, 0, 0, 0), (74, 3, 1, 12, 46, 102), (77, 1, 2, 3, 0, 0), (78, 1, 10, 0, 0, 0), (79, 3, 13, 214, 96, 424), (82, 3, 9, 3, 1, 0), (85, 3, 8, 55, 0, 0)]) rfl) ?_
              refine xg_t (xg_iload (va := (0, 0)) rfl rfl) ?_
              refine xg_t (xg_const) ?_
              refine xg_t (xg_icF (u := 0) (v := 4) rfl xnm0 xnm0 (by decide)) ?_
              refine xg_t (xg_iload (va := (0, kr)) rfl rfl) ?_
              refine xg_t (xg_const) ?_
              refine xg_t (xg_icT (u := kr) (v := 4) rfl xnm0 xnm0 (xj_geT (by omega) (by omega))) ?_
              refine xg_t (xg_blk (b := [(88, 3, 9, 1, 1, 0), (91, 1, 0, 0, 0, 0), (92, 2, 4, 51, 0, 0), (94, 3, 13, 227, 96, 415), (97, 1, 15, 2, 0, 0), (98, 3, 8, 31, 0, 0)]) rfl) ?_
              refine xg_t (xg_iinc (u := kr) (z := kr + 1) (l1 := [(3, (0, 0)), (0, (2, 82)), (2, (0, mo))]) rfl rfl (by omega) rfl) ?_
              refine xg_t (xg_aload (va := (2, 82)) rfl rfl) ?_
              refine xg_t (xg_bip) ?_
              obtain ⟨f82_2355, f82_2357, f82_2359, f82_2361, f82_2363, f82_2365, f82_2367, f82_2369, f82_2371, f82_2373, f82_2375, f82_2376, f82_2377, f82_2379, f82_2381, f82_2383, h82_2385, hb2356, hb2358, hb2360, hb2362, hb2364, hb2366, hb2368, hb2370, hb2372, hb2374, hb2378, hb2380, hb2382, hb2384, hb2386⟩ := (hI2348 82 (by decide) (by decide) : cp82 (wget w2346 82))
              refine xg_cVi mX12_takes (vs := [(0, 51)]) (rest := []) (cn1 := 0) (sl1 := 0) rfl (mTakes (hI2348) (by omega) pk2351.2.2.2) rfl h82_2385 rfl rfl rfl rfl rfl rfl (fun n2391 w2387 hq2388 => ?_)
              obtain ⟨hn2392, hI2389, hF2390⟩ := hq2388
              obtain ⟨hn2393, hn2394, hn2395⟩ := hn2392
              have pk2396 : PK w w2387 := PK.tr pk2351 hn2394
              have ro2397 : ∀ l, l < fld w 82 14 → l < 16 → rwv w2387 112 (20 * l) = rwv w 112 (20 * l) := fun l hl h6 => (rwv_fr hF2390 (by decide)).trans (ro2352 l hl h6)
              have hq2398 := pk2396
              unfold PK PS at hq2398
              have ms2399 : mu w2387 < mu w := Nat.lt_of_le_of_lt hn2394.2.1 ms2354
              refine xg_t (xg_istore (l1 := [(1, (0, kr + 1)), (3, (0, 0)), (0, (2, 82))]) rfl rfl rfl) ?_
              refine xg_t (xg_goto) ?_
              refine xg_t (xg_drop (l1 := [(0, (2, 82)), (1, (0, kr + 1)), (2, (0, n2391))]) (List.forall_mem_cons.mpr ⟨List.mem_cons_of_mem _ (List.mem_cons_of_mem _ (List.mem_cons_of_mem _ (List.mem_cons_self))), List.forall_mem_cons.mpr ⟨List.mem_cons_of_mem _ (List.mem_cons_self), List.forall_mem_cons.mpr ⟨List.mem_cons_self, fun _ h => absurd h List.not_mem_nil⟩⟩⟩)) ?_
              exact ih1785 (kr + 1) n2391 w2387 (by omega) (by omega) (by omega) (hI2389) ((((hF1789.tr (hF2338.up (by decide))).tr (hF2349.up (by decide))).tr (hF2390.up (by decide)))) (⟨pk2396, ro2397, ms2399, by omega, by omega, fun _ => by omega, fun h => by omega⟩)
            · refine xg_t (xg_icT (u := kr) (v := 3) rfl xnm0 xnm0 (xj_leT (by omega) (by omega))) ?_
              refine xg_t (xg_blk (b := [(49, 1, 0, 0, 0, 0), (50, 3, 13, 109, 96, 421), (53, 1, 3, 0, 0, 0), (54, 1, 15, 3, 0, 0)]) rfl) ?_
              refine xg_t (xg_aload (va := (2, 82)) rfl rfl) ?_
              refine xg_cVv mX12_aTest (vs := []) (rest := []) (cn1 := 0) (sl1 := 0) rfl (mATest (hI1788) hz1794.2.2.2) rfl h82_1832 rfl rfl rfl rfl rfl rfl (fun w2400 hq2401 => ?_)
              obtain ⟨hI2402, hF2403, hx2404⟩ := hq2401
              have pk2405 : PK w w2400 := PK.tr hz1794 hx2404
              have ro2406 : ∀ l, l < fld w 82 14 → l < 16 → rwv w2400 112 (20 * l) = rwv w 112 (20 * l) := fun l hl h6 => (rwv_fr hF2403 (by decide)).trans (hz1795 l hl h6)
              have hq2407 := pk2405
              unfold PK PS at hq2407
              have ms2408 : mu w2400 < mu w := Nat.lt_of_le_of_lt hx2404.2.1 hz1796
              refine xg_t (xg_const) ?_
              refine xg_t (xg_istore (l1 := [(0, (2, 82)), (1, (0, kr)), (2, (0, mo))]) rfl rfl rfl) ?_
              refine xg_t (xg_blk (b := [(55, 1, 2, 3, 0, 0), (56, 1, 3, 4, 0, 0), (57, 3, 6, 88, 3, 0), (60, 1, 2, 1, 0, 0), (61, 1, 3, 4, 0, 0), (62, 3, 6, 88, 3, 0), (65, 1, 0, 0, 0, 0), (66, 1, 3, 1, 0, 0), (67, 1, 3, 4, 0, 0), (68, 1, 2, 1, 0, 0), (69, 1, 16, 0, 0, 0), (70, 1, 11, 0, 0, 0), (71, 1, 2, 3, 0, 0), (72, 1, 11, 0, 0, 0), (73, 1, 0, 0, 0, 0), (74, 3, 1, 12, 46, 102), (77, 1, 2, 3, 0, 0), (78, 1, 10, 0, 0, 0), (79, 3, 13, 214, 96, 424), (82, 3, 9, 3, 1, 0), (85, 3, 8, 55, 0, 0)]) rfl) ?_
              refine xg_t (xg_iload (va := (0, 0)) rfl rfl) ?_
              refine xg_t (xg_const) ?_
              refine xg_t (xg_icF (u := 0) (v := 4) rfl xnm0 xnm0 (by decide)) ?_
              refine xg_t (xg_iload (va := (0, kr)) rfl rfl) ?_
              refine xg_t (xg_const) ?_
              refine xg_t (xg_icF (u := kr) (v := 4) rfl xnm0 xnm0 (xj_geF (by omega) (by omega))) ?_
              refine xg_t (xg_aload (va := (2, 82)) rfl rfl) ?_
              refine xg_t (xg_const) ?_
              refine xg_t (xg_const) ?_
              refine xg_t (xg_iload (va := (0, kr)) rfl rfl) ?_
              refine xg_t (xg_imul (u := 4) (v := kr) (z := 4 * kr) xnm0 xnm0 (by omega)) ?_
              refine xg_t (xg_iadd (u := 1) (v := 4 * kr) (z := 1 + (4 * kr)) xnm0 xnm0 (by omega)) ?_
              refine xg_t (xg_iload (va := (0, 0)) rfl rfl) ?_
              refine xg_t (xg_iadd (u := 1 + (4 * kr)) (v := 0) (z := (1 + (4 * kr)) + 0) xnm0 xnm0 (by omega)) ?_
              refine xg_t (xg_aload (va := (2, 82)) rfl rfl) ?_
              obtain ⟨f82_2409, f82_2411, f82_2413, f82_2415, f82_2417, f82_2419, f82_2421, f82_2423, f82_2425, f82_2427, f82_2429, f82_2430, f82_2431, f82_2433, f82_2435, f82_2437, h82_2439, hb2410, hb2412, hb2414, hb2416, hb2418, hb2420, hb2422, hb2424, hb2426, hb2428, hb2432, hb2434, hb2436, hb2438, hb2440⟩ := (hI2402 82 (by decide) (by decide) : cp82 (wget w2400 82))
              refine xg_t (xg_getf (va := (2, 113)) h82_2439 rfl) ?_
              refine xg_t (xg_iload (va := (0, 0)) rfl rfl) ?_
              obtain ⟨g113_2441, h113_2442, hb2443⟩ := (hI2402 113 (by decide) (by decide) : cpI 4 80 4294967295 (wget w2400 113))
              have h113_2442 : xRow w2400 113 4 80 g113_2441 := h113_2442
              refine xg_ialdB (n := 0) (B := 4294967295) h113_2442 (hb2443) xnm0 (by omega) (fun u2444 hu2445 he2446 => ?_)
              have hl2447 : fld w2400 82 14 ≤ 2000 := by omega
              refine xg_cVv mX12_rulePuts (vs := [(0, (1 + (4 * kr)) + 0), (0, u2444)]) (rest := []) (cn1 := 0) (sl1 := 0) rfl (mRulePuts (hI2402) (by omega) (by omega) (by omega)) rfl h82_2439 rfl rfl rfl rfl rfl rfl (fun w2448 hq2449 => ?_)
              obtain ⟨hI2450, hF2451, hx2452⟩ := hq2449
              have hx2453 := hx2452
              have pk2454 : PK w w2448 := PK.tr pk2405 (PK.fr hF2451 (by decide) (by decide) pk2405.2.2.2)
              have ro2455 : ∀ l, l < fld w 82 14 → l < 16 → rwv w2448 112 (20 * l) = rwv w 112 (20 * l) := fun l hl h6 => ((hx2453 _ (by omega)).2 (by omega)).trans (ro2406 l hl h6)
              have hq2456 := pk2454
              unfold PK PS at hq2456
              have ms2457 : mu w2448 < mu w := Nat.lt_of_le_of_lt (PK.fr hF2451 (by decide) (by decide) pk2405.2.2.2).2.1 ms2408
              refine xg_t (xg_iinc (u := 0) (z := 1) (l1 := [(0, (2, 82)), (1, (0, kr)), (2, (0, mo))]) rfl rfl (by decide) rfl) ?_
              refine xg_t (xg_goto) ?_
              refine xg_t (xg_blk (b := [(55, 1, 2, 3, 0, 0), (56, 1, 3, 4, 0, 0), (57, 3, 6, 88, 3, 0), (60, 1, 2, 1, 0, 0), (61, 1, 3, 4, 0, 0), (62, 3, 6, 88, 3, 0), (65, 1, 0, 0, 0, 0), (66, 1, 3, 1, 0, 0), (67, 1, 3, 4, 0, 0), (68, 1, 2, 1, 0, 0), (69, 1, 16, 0, 0, 0), (70, 1, 11, 0, 0, 0), (71, 1, 2, 3, 0, 0), (72, 1, 11, 0, 0, 0), (73, 1, 0, 0, 0, 0), (74, 3, 1, 12, 46, 102), (77, 1, 2, 3, 0, 0), (78, 1, 10, 0, 0, 0), (79, 3, 13, 214, 96, 424), (82, 3, 9, 3, 1, 0), (85, 3, 8, 55, 0, 0)]) rfl) ?_
              refine xg_t (xg_iload (va := (0, 1)) rfl rfl) ?_
              refine xg_t (xg_const) ?_
              refine xg_t (xg_icF (u := 1) (v := 4) rfl xnm0 xnm0 (by decide)) ?_
              refine xg_t (xg_iload (va := (0, kr)) rfl rfl) ?_
              refine xg_t (xg_const) ?_
              refine xg_t (xg_icF (u := kr) (v := 4) rfl xnm0 xnm0 (xj_geF (by omega) (by omega))) ?_
              refine xg_t (xg_aload (va := (2, 82)) rfl rfl) ?_
              refine xg_t (xg_const) ?_
              refine xg_t (xg_const) ?_
              refine xg_t (xg_iload (va := (0, kr)) rfl rfl) ?_
              refine xg_t (xg_imul (u := 4) (v := kr) (z := 4 * kr) xnm0 xnm0 (by omega)) ?_
              refine xg_t (xg_iadd (u := 1) (v := 4 * kr) (z := 1 + (4 * kr)) xnm0 xnm0 (by omega)) ?_
              refine xg_t (xg_iload (va := (0, 1)) rfl rfl) ?_
              refine xg_t (xg_iadd (u := 1 + (4 * kr)) (v := 1) (z := (1 + (4 * kr)) + 1) xnm0 xnm0 (by omega)) ?_
              refine xg_t (xg_aload (va := (2, 82)) rfl rfl) ?_
              refine xg_t (xg_getf (va := (2, 113)) (hF2451.get (by decide) h82_2439) rfl) ?_
              refine xg_t (xg_iload (va := (0, 1)) rfl rfl) ?_
              refine xg_ialdB (n := 1) (B := 4294967295) (h113_2442.fr hF2451 (by decide)) (hb2443) xnm0 (by omega) (fun u2458 hu2459 he2460 => ?_)
              have hl2461 : fld w2448 82 14 ≤ 2000 := by omega
              refine xg_cVv mX12_rulePuts (vs := [(0, (1 + (4 * kr)) + 1), (0, u2458)]) (rest := []) (cn1 := 0) (sl1 := 0) rfl (mRulePuts (hI2450) (by omega) (by omega) (by omega)) rfl (hF2451.get (by decide) h82_2439) rfl rfl rfl rfl rfl rfl (fun w2462 hq2463 => ?_)
              obtain ⟨hI2464, hF2465, hx2466⟩ := hq2463
              have hx2467 := hx2466
              have pk2468 : PK w w2462 := PK.tr pk2454 (PK.fr hF2465 (by decide) (by decide) pk2454.2.2.2)
              have ro2469 : ∀ l, l < fld w 82 14 → l < 16 → rwv w2462 112 (20 * l) = rwv w 112 (20 * l) := fun l hl h6 => ((hx2467 _ (by omega)).2 (by omega)).trans (ro2455 l hl h6)
              have hq2470 := pk2468
              unfold PK PS at hq2470
              have ms2471 : mu w2462 < mu w := Nat.lt_of_le_of_lt (PK.fr hF2465 (by decide) (by decide) pk2454.2.2.2).2.1 ms2457
              refine xg_t (xg_iinc (u := 1) (z := 2) (l1 := [(0, (2, 82)), (1, (0, kr)), (2, (0, mo))]) rfl rfl (by decide) rfl) ?_
              refine xg_t (xg_goto) ?_
              refine xg_t (xg_blk (b := [(55, 1, 2, 3, 0, 0), (56, 1, 3, 4, 0, 0), (57, 3, 6, 88, 3, 0), (60, 1, 2, 1, 0, 0), (61, 1, 3, 4, 0, 0), (62, 3, 6, 88, 3, 0), (65, 1, 0, 0, 0, 0), (66, 1, 3, 1, 0, 0), (67, 1, 3, 4, 0, 0), (68, 1, 2, 1, 0, 0), (69, 1, 16, 0, 0, 0), (70, 1, 11, 0, 0, 0), (71, 1, 2, 3, 0, 0), (72, 1, 11, 0, 0, 0), (73, 1, 0, 0, 0, 0), (74, 3, 1, 12, 46, 102), (77, 1, 2, 3, 0, 0), (78, 1, 10, 0, 0, 0), (79, 3, 13, 214, 96, 424), (82, 3, 9, 3, 1, 0), (85, 3, 8, 55, 0, 0)]) rfl) ?_
              refine xg_t (xg_iload (va := (0, 2)) rfl rfl) ?_
              refine xg_t (xg_const) ?_
              refine xg_t (xg_icF (u := 2) (v := 4) rfl xnm0 xnm0 (by decide)) ?_
              refine xg_t (xg_iload (va := (0, kr)) rfl rfl) ?_
              refine xg_t (xg_const) ?_
              refine xg_t (xg_icF (u := kr) (v := 4) rfl xnm0 xnm0 (xj_geF (by omega) (by omega))) ?_
              refine xg_t (xg_aload (va := (2, 82)) rfl rfl) ?_
              refine xg_t (xg_const) ?_
              refine xg_t (xg_const) ?_
              refine xg_t (xg_iload (va := (0, kr)) rfl rfl) ?_
              refine xg_t (xg_imul (u := 4) (v := kr) (z := 4 * kr) xnm0 xnm0 (by omega)) ?_
              refine xg_t (xg_iadd (u := 1) (v := 4 * kr) (z := 1 + (4 * kr)) xnm0 xnm0 (by omega)) ?_
              refine xg_t (xg_iload (va := (0, 2)) rfl rfl) ?_
              refine xg_t (xg_iadd (u := 1 + (4 * kr)) (v := 2) (z := (1 + (4 * kr)) + 2) xnm0 xnm0 (by omega)) ?_
              refine xg_t (xg_aload (va := (2, 82)) rfl rfl) ?_
              refine xg_t (xg_getf (va := (2, 113)) (hF2465.get (by decide) (hF2451.get (by decide) h82_2439)) rfl) ?_
              refine xg_t (xg_iload (va := (0, 2)) rfl rfl) ?_
              refine xg_ialdB (n := 2) (B := 4294967295) ((h113_2442.fr hF2451 (by decide)).fr hF2465 (by decide)) (hb2443) xnm0 (by omega) (fun u2472 hu2473 he2474 => ?_)
              have hl2475 : fld w2462 82 14 ≤ 2000 := by omega
              refine xg_cVv mX12_rulePuts (vs := [(0, (1 + (4 * kr)) + 2), (0, u2472)]) (rest := []) (cn1 := 0) (sl1 := 0) rfl (mRulePuts (hI2464) (by omega) (by omega) (by omega)) rfl (hF2465.get (by decide) (hF2451.get (by decide) h82_2439)) rfl rfl rfl rfl rfl rfl (fun w2476 hq2477 => ?_)
              obtain ⟨hI2478, hF2479, hx2480⟩ := hq2477
              have hx2481 := hx2480
              have pk2482 : PK w w2476 := PK.tr pk2468 (PK.fr hF2479 (by decide) (by decide) pk2468.2.2.2)
              have ro2483 : ∀ l, l < fld w 82 14 → l < 16 → rwv w2476 112 (20 * l) = rwv w 112 (20 * l) := fun l hl h6 => ((hx2481 _ (by omega)).2 (by omega)).trans (ro2469 l hl h6)
              have hq2484 := pk2482
              unfold PK PS at hq2484
              have ms2485 : mu w2476 < mu w := Nat.lt_of_le_of_lt (PK.fr hF2479 (by decide) (by decide) pk2468.2.2.2).2.1 ms2471
              refine xg_t (xg_iinc (u := 2) (z := 3) (l1 := [(0, (2, 82)), (1, (0, kr)), (2, (0, mo))]) rfl rfl (by decide) rfl) ?_
              refine xg_t (xg_goto) ?_
              refine xg_t (xg_blk (b := [(55, 1, 2, 3, 0, 0), (56, 1, 3, 4, 0, 0), (57, 3, 6, 88, 3, 0), (60, 1, 2, 1, 0, 0), (61, 1, 3, 4, 0, 0), (62, 3, 6, 88, 3, 0), (65, 1, 0, 0, 0, 0), (66, 1, 3, 1, 0, 0), (67, 1, 3, 4, 0, 0), (68, 1, 2, 1, 0, 0), (69, 1, 16, 0, 0, 0), (70, 1, 11, 0, 0, 0), (71, 1, 2, 3, 0, 0), (72, 1, 11, 0, 0, 0), (73, 1, 0, 0, 0, 0), (74, 3, 1, 12, 46, 102), (77, 1, 2, 3, 0, 0), (78, 1, 10, 0, 0, 0), (79, 3, 13, 214, 96, 424), (82, 3, 9, 3, 1, 0), (85, 3, 8, 55, 0, 0)]) rfl) ?_
              refine xg_t (xg_iload (va := (0, 3)) rfl rfl) ?_
              refine xg_t (xg_const) ?_
              refine xg_t (xg_icF (u := 3) (v := 4) rfl xnm0 xnm0 (by decide)) ?_
              refine xg_t (xg_iload (va := (0, kr)) rfl rfl) ?_
              refine xg_t (xg_const) ?_
              refine xg_t (xg_icF (u := kr) (v := 4) rfl xnm0 xnm0 (xj_geF (by omega) (by omega))) ?_
              refine xg_t (xg_aload (va := (2, 82)) rfl rfl) ?_
              refine xg_t (xg_const) ?_
              refine xg_t (xg_const) ?_
              refine xg_t (xg_iload (va := (0, kr)) rfl rfl) ?_
              refine xg_t (xg_imul (u := 4) (v := kr) (z := 4 * kr) xnm0 xnm0 (by omega)) ?_
              refine xg_t (xg_iadd (u := 1) (v := 4 * kr) (z := 1 + (4 * kr)) xnm0 xnm0 (by omega)) ?_
              refine xg_t (xg_iload (va := (0, 3)) rfl rfl) ?_
              refine xg_t (xg_iadd (u := 1 + (4 * kr)) (v := 3) (z := (1 + (4 * kr)) + 3) xnm0 xnm0 (by omega)) ?_
              refine xg_t (xg_aload (va := (2, 82)) rfl rfl) ?_
              refine xg_t (xg_getf (va := (2, 113)) (hF2479.get (by decide) (hF2465.get (by decide) (hF2451.get (by decide) h82_2439))) rfl) ?_
              refine xg_t (xg_iload (va := (0, 3)) rfl rfl) ?_
              refine xg_ialdB (n := 3) (B := 4294967295) (((h113_2442.fr hF2451 (by decide)).fr hF2465 (by decide)).fr hF2479 (by decide)) (hb2443) xnm0 (by omega) (fun u2486 hu2487 he2488 => ?_)
              have hl2489 : fld w2476 82 14 ≤ 2000 := by omega
              refine xg_cVv mX12_rulePuts (vs := [(0, (1 + (4 * kr)) + 3), (0, u2486)]) (rest := []) (cn1 := 0) (sl1 := 0) rfl (mRulePuts (hI2478) (by omega) (by omega) (by omega)) rfl (hF2479.get (by decide) (hF2465.get (by decide) (hF2451.get (by decide) h82_2439))) rfl rfl rfl rfl rfl rfl (fun w2490 hq2491 => ?_)
              obtain ⟨hI2492, hF2493, hx2494⟩ := hq2491
              have hx2495 := hx2494
              have pk2496 : PK w w2490 := PK.tr pk2482 (PK.fr hF2493 (by decide) (by decide) pk2482.2.2.2)
              have ro2497 : ∀ l, l < fld w 82 14 → l < 16 → rwv w2490 112 (20 * l) = rwv w 112 (20 * l) := fun l hl h6 => ((hx2495 _ (by omega)).2 (by omega)).trans (ro2483 l hl h6)
              have hq2498 := pk2496
              unfold PK PS at hq2498
              have ms2499 : mu w2490 < mu w := Nat.lt_of_le_of_lt (PK.fr hF2493 (by decide) (by decide) pk2482.2.2.2).2.1 ms2485
              refine xg_t (xg_iinc (u := 3) (z := 4) (l1 := [(0, (2, 82)), (1, (0, kr)), (2, (0, mo))]) rfl rfl (by decide) rfl) ?_
              refine xg_t (xg_goto) ?_
              refine xg_t (xg_blk (b := [(55, 1, 2, 3, 0, 0), (56, 1, 3, 4, 0, 0), (57, 3, 6, 88, 3, 0), (60, 1, 2, 1, 0, 0), (61, 1, 3, 4, 0, 0), (62, 3, 6, 88, 3, 0), (65, 1, 0, 0, 0, 0), (66, 1, 3, 1, 0, 0), (67, 1, 3, 4, 0, 0), (68, 1, 2, 1, 0, 0), (69, 1, 16, 0, 0, 0), (70, 1, 11, 0, 0, 0), (71, 1, 2, 3, 0, 0), (72, 1, 11, 0, 0, 0), (73, 1, 0, 0, 0, 0), (74, 3, 1, 12, 46, 102), (77, 1, 2, 3, 0, 0), (78, 1, 10, 0, 0, 0), (79, 3, 13, 214, 96, 424), (82, 3, 9, 3, 1, 0), (85, 3, 8, 55, 0, 0)]) rfl) ?_
              refine xg_t (xg_iload (va := (0, 4)) rfl rfl) ?_
              refine xg_t (xg_const) ?_
              refine xg_t (xg_icT (u := 4) (v := 4) rfl xnm0 xnm0 (by decide)) ?_
              refine xg_t (xg_blk (b := [(88, 3, 9, 1, 1, 0), (91, 1, 0, 0, 0, 0), (92, 2, 4, 51, 0, 0), (94, 3, 13, 227, 96, 415), (97, 1, 15, 2, 0, 0), (98, 3, 8, 31, 0, 0)]) rfl) ?_
              refine xg_t (xg_iinc (u := kr) (z := kr + 1) (l1 := [(3, (0, 4)), (0, (2, 82)), (2, (0, mo))]) rfl rfl (by omega) rfl) ?_
              refine xg_t (xg_aload (va := (2, 82)) rfl rfl) ?_
              refine xg_t (xg_bip) ?_
              refine xg_cVi mX12_takes (vs := [(0, 51)]) (rest := []) (cn1 := 0) (sl1 := 0) rfl (mTakes (hI2492) (by omega) pk2496.2.2.2) rfl (hF2493.get (by decide) (hF2479.get (by decide) (hF2465.get (by decide) (hF2451.get (by decide) h82_2439)))) rfl rfl rfl rfl rfl rfl (fun n2504 w2500 hq2501 => ?_)
              obtain ⟨hn2505, hI2502, hF2503⟩ := hq2501
              obtain ⟨hn2506, hn2507, hn2508⟩ := hn2505
              have pk2509 : PK w w2500 := PK.tr pk2496 hn2507
              have ro2510 : ∀ l, l < fld w 82 14 → l < 16 → rwv w2500 112 (20 * l) = rwv w 112 (20 * l) := fun l hl h6 => (rwv_fr hF2503 (by decide)).trans (ro2497 l hl h6)
              have hq2511 := pk2509
              unfold PK PS at hq2511
              have ms2512 : mu w2500 < mu w := Nat.lt_of_le_of_lt hn2507.2.1 ms2499
              refine xg_t (xg_istore (l1 := [(1, (0, kr + 1)), (3, (0, 4)), (0, (2, 82))]) rfl rfl rfl) ?_
              refine xg_t (xg_goto) ?_
              refine xg_t (xg_drop (l1 := [(0, (2, 82)), (1, (0, kr + 1)), (2, (0, n2504))]) (List.forall_mem_cons.mpr ⟨List.mem_cons_of_mem _ (List.mem_cons_of_mem _ (List.mem_cons_of_mem _ (List.mem_cons_self))), List.forall_mem_cons.mpr ⟨List.mem_cons_of_mem _ (List.mem_cons_self), List.forall_mem_cons.mpr ⟨List.mem_cons_self, fun _ h => absurd h List.not_mem_nil⟩⟩⟩)) ?_
              exact ih1785 (kr + 1) n2504 w2500 (by omega) (by omega) (by omega) (hI2502) (((((((hF1789.tr (hF2403.up (by decide))).tr (hF2451.up (by decide))).tr (hF2465.up (by decide))).tr (hF2479.up (by decide))).tr (hF2493.up (by decide))).tr (hF2503.up (by decide)))) (⟨pk2509, ro2510, ms2512, by omega, by omega, fun _ => by omega, fun h => by omega⟩)
      exact key1784 _ 0 1 w1283 (Nat.lt_succ_self _) (by omega) (by omega) (hI1285) (((hF1276.up (by decide)).tr (hF1286.up (by decide)))) (⟨pk1292, ro1293, ms1783, by omega, by omega, fun _ => by omega, fun h => by omega⟩)
end XME
