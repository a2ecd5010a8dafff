/-! the model: rules -/
def RD (w : List (List xE)) : Prop := fld w 82 14 ≤ 16 ∧ ∀ l, l < fld w 82 14 → rwv w 112 (20 * l) ≤ 4
theorem rules_ok {f g h r : Nat → Nat} {L : Nat} (hf : okA f) (h1 : ∀ i, 0 ≤ i → i < 320 → g (1020 + i) = r i) (h2 : ∀ j, j < 1020 + 0 ∨ 1020 + 320 ≤ j → g j = f j) (hl : L ≤ 16) (hR : ∀ l, l < L → r (20 * l) ≤ 4) (h3 : h 902 = L) (h4 : ∀ j, j ≠ 902 → h j = g j) : okA h := by
  have e : ∀ j, j < 1020 → j ≠ 902 → h j = f j := fun j hj hn => by rw [h4 j hn, h2 j (by omega)]
  have e0 := e 0 (by decide) (by decide)
  have e1 := e 1 (by decide) (by decide)
  have e2 := e 2 (by decide) (by decide)
  have e3 := e 3 (by decide) (by decide)
  have e4 := e 4 (by decide) (by decide)
  have e5 := e 5 (by decide) (by decide)
  have e6 := e 6 (by decide) (by decide)
  have e7 := e 7 (by decide) (by decide)
  have e8 := e 8 (by decide) (by decide)
  have e9 := e 9 (by decide) (by decide)
  have e10 := e 10 (by decide) (by decide)
  have e13 := e 13 (by decide) (by decide)
  have e15 := e 15 (by decide) (by decide)
  have e900 := e 900 (by decide) (by decide)
  have e901 := e 901 (by decide) (by decide)
  obtain ⟨b0, b1, b2, b3, b4, b5, b6, b7, b8, b9, b10, b11, b12, b13, b14, b15, b16⟩ := hf.lits
  refine hf.mk0 (fun j hj => by rw [h4 j (by omega), h2 j (by omega)]) (okB.of0 ⟨by omega, by omega, by omega, by omega, by omega, by omega, by omega, by omega, by omega, by omega, by omega, by omega, by omega, by omega, by omega, by omega, by omega⟩ ?_ ?_ ?_ ?_)
  · intro k i hk hi
    rw [e _ (by omega) (by omega)]
    exact hf.lay (by omega) hi
  · intro k hk
    rw [e _ (by omega) (by omega)]
    exact hf.lif (by omega)
  · intro p i hk hi
    rw [e _ (by omega) (by omega)]
    exact hf.pic (by omega) hi
  · intro l hk
    rw [h4 _ (by omega), h1 (20 * l) (by omega) (by omega)]
    exact hR l (by omega)
theorem RD.fr {S : List Nat} {w w' : List (List xE)} (h : RD w) (hf : xFr S w w') (h1 : 112 ∉ S) (h2 : fld w' 82 14 = fld w 82 14) : RD w' := by
  refine ⟨by rw [h2]; exact h.1, fun l hl => ?_⟩
  rw [rwv_fr hf h1]
  exact h.2 l (by rw [← h2]; exact hl)
section XME
variable {d : Nat} {w : List (List xE)} {bd : List (Nat × Nat)} {fc : List (Nat × Nat × Bool)} {rr : Nat × Nat}
theorem mTakes {wq : Nat} (hI : xMnv w) (hwq : wq ≤ 4294967295) (hps : PS w) : xPi (d + 5) mX12_takes [(2, 82), (0, wq)] w bd fc rr (fun n w' => (n ≤ 1 ∧ PK w w' ∧ (n = 1 → mu w' < mu w)) ∧ xMnv w' ∧ xFr [82] w w') := by
  refine xPi.of ?_
  show xTo (d + 5) mX12_takes (0, [], [(0, (2, 82)), (1, (0, wq))], [], (w, bd, fc, 0, 0, rr)) (fun φ => ∃ n w', xEnd 4 [(0, n)] (w', bd, fc, 0, 0, rr) φ ∧ (n ≤ 1 ∧ PK w w' ∧ (n = 1 → mu w' < mu w)) ∧ xMnv w' ∧ xFr [82] w w')
  obtain ⟨f82_1, f82_3, f82_5, f82_7, f82_9, f82_11, f82_13, f82_15, f82_17, f82_19, f82_21, f82_22, f82_23, f82_25, f82_27, f82_29, h82_31, hb2, hb4, hb6, hb8, hb10, hb12, hb14, hb16, hb18, hb20, hb24, hb26, hb28, hb30, hb32⟩ := (hI 82 (by decide) (by decide) : cp82 (wget w 82))
  have hf33 : fld w 82 4 = f82_5 := fld_of h82_31
  have hf34 : fld w 82 5 = f82_7 := fld_of h82_31
  have hf35 : fld w 82 7 = f82_11 := fld_of h82_31
  have hf36 : fld w 82 10 = f82_17 := fld_of h82_31
  have hf37 : fld w 82 14 = f82_19 := fld_of h82_31
  have hps_ : fld w 82 10 = 0 ∨ FA w ≠ 0 := hps
  refine xg_t (xg_blk (b := [(0, 1, 0, 0, 0, 0), (1, 3, 1, 12, 10, 180), (4, 3, 7, 23, 1, 0), (7, 1, 0, 0, 0, 0), (8, 3, 1, 12, 7, 151), (11, 1, 3, 3, 0, 0), (12, 3, 6, 23, 1, 0), (15, 1, 0, 0, 0, 0), (16, 3, 1, 12, 9, 165), (19, 1, 2, 1, 0, 0), (20, 3, 6, 25, 0, 0)]) rfl) ?_
  refine xg_t (xg_aload (va := (2, 82)) rfl rfl) ?_
  refine xg_t (xg_getf (va := (0, f82_17)) h82_31 rfl) ?_
  by_cases hc38 : f82_17 = 0
  · refine xg_t (xg_ifF (u := f82_17) rfl xnm0 (xj_neF hc38)) ?_
    refine xg_t (xg_aload (va := (2, 82)) rfl rfl) ?_
    refine xg_t (xg_getf (va := (0, f82_11)) h82_31 rfl) ?_
    refine xg_t (xg_const) ?_
    by_cases hc39 : f82_11 = 3
    · refine xg_t (xg_icF (u := f82_11) (v := 3) rfl xnm0 xnm0 (xj_neF hc39)) ?_
      refine xg_t (xg_aload (va := (2, 82)) rfl rfl) ?_
      refine xg_t (xg_getf (va := (0, f82_15)) h82_31 rfl) ?_
      refine xg_t (xg_iload (va := (0, wq)) rfl rfl) ?_
      by_cases hc40 : f82_15 = wq
      · refine xg_t (xg_icT (u := f82_15) (v := wq) rfl xnm0 xnm0 (xj_eqT hc40)) ?_
        refine xg_t (xg_blk (b := [(25, 1, 0, 0, 0, 0), (26, 3, 13, 110, 96, 190), (29, 1, 3, 1, 0, 0), (30, 1, 12, 0, 1, 0)]) rfl) ?_
        refine xg_t (xg_aload (va := (2, 82)) rfl rfl) ?_
        refine xg_cVv mX12_advance (vs := []) (rest := []) (cn1 := 0) (sl1 := 0) rfl (mAdvance (hI)) rfl h82_31 rfl rfl rfl rfl rfl rfl (fun w41 hq42 => ?_)
        obtain ⟨hI43, hF44, hx45⟩ := hq42
        obtain ⟨hv46, hv47, hv48, hv49⟩ := hx45
        have hf50 := FA_fr hF44 (by decide)
        refine xg_t (xg_const) ?_
        exact xg_e ⟨1, w41, ⟨rfl, rfl⟩, ⟨by omega, ⟨fun _ => by omega, by omega, by omega, (show fld w41 82 10 = 0 ∨ FA w41 ≠ 0 by omega)⟩, fun _ => by omega⟩, hI43, (hF44.up (by decide))⟩
      · refine xg_t (xg_icF (u := f82_15) (v := wq) rfl xnm0 xnm0 (xj_eqF hc40)) ?_
        refine xg_t (xg_blk (b := [(23, 1, 3, 0, 0, 0), (24, 1, 12, 0, 1, 0)]) rfl) ?_
        refine xg_t (xg_const) ?_
        exact xg_e ⟨0, w, ⟨rfl, rfl⟩, ⟨by omega, PK.rf hps, fun _ => by omega⟩, hI, xFr.rf⟩
    · refine xg_t (xg_icT (u := f82_11) (v := 3) rfl xnm0 xnm0 (xj_neT hc39)) ?_
      refine xg_t (xg_blk (b := [(23, 1, 3, 0, 0, 0), (24, 1, 12, 0, 1, 0)]) rfl) ?_
      refine xg_t (xg_const) ?_
      exact xg_e ⟨0, w, ⟨rfl, rfl⟩, ⟨by omega, PK.rf hps, fun _ => by omega⟩, hI, xFr.rf⟩
  · refine xg_t (xg_ifT (u := f82_17) rfl xnm0 (xj_neT hc38)) ?_
    refine xg_t (xg_blk (b := [(23, 1, 3, 0, 0, 0), (24, 1, 12, 0, 1, 0)]) rfl) ?_
    refine xg_t (xg_const) ?_
    exact xg_e ⟨0, w, ⟨rfl, rfl⟩, ⟨by omega, PK.rf hps, fun _ => by omega⟩, hI, xFr.rf⟩
theorem mMust {cq : Nat} (hI : xMnv w) (hcq : cq ≤ 4294967295) (hps : PS w) : xPq (d + 5) mX12_must [(2, 82), (0, cq)] w bd fc rr [] (fun w' => xMnv w' ∧ xFr [82, 83] w w' ∧ (PK w w')) := by
  refine xPq.of ?_
  show xTo (d + 5) mX12_must (0, [], [(0, (2, 82)), (1, (0, cq))], [], (w, bd, fc, 0, 0, rr)) (fun φ => ∃ w', xEnd 0 [] (w', bd, fc, 0, 0, rr) φ ∧ xMnv w' ∧ xFr [82, 83] w w' ∧ (PK w w'))
  obtain ⟨f82_1, f82_3, f82_5, f82_7, f82_9, f82_11, f82_13, f82_15, f82_17, f82_19, f82_21, f82_22, f82_23, f82_25, f82_27, f82_29, h82_31, hb2, hb4, hb6, hb8, hb10, hb12, hb14, hb16, hb18, hb20, hb24, hb26, hb28, hb30, hb32⟩ := (hI 82 (by decide) (by decide) : cp82 (wget w 82))
  have hf33 : fld w 82 4 = f82_5 := fld_of h82_31
  have hf34 : fld w 82 5 = f82_7 := fld_of h82_31
  have hf35 : fld w 82 7 = f82_11 := fld_of h82_31
  have hf36 : fld w 82 10 = f82_17 := fld_of h82_31
  have hf37 : fld w 82 14 = f82_19 := fld_of h82_31
  have hps_ : fld w 82 10 = 0 ∨ FA w ≠ 0 := hps
  refine xg_t (xg_blk (b := [(0, 1, 0, 0, 0, 0), (1, 3, 1, 12, 10, 180), (4, 3, 7, 30, 1, 0), (7, 1, 0, 0, 0, 0), (8, 3, 1, 12, 7, 151), (11, 1, 3, 2, 0, 0), (12, 3, 6, 30, 1, 0), (15, 1, 0, 0, 0, 0), (16, 3, 1, 12, 3, 174), (19, 1, 2, 1, 0, 0), (20, 3, 6, 30, 1, 0), (23, 1, 0, 0, 0, 0), (24, 3, 13, 110, 96, 190), (27, 3, 8, 34, 0, 0)]) rfl) ?_
  refine xg_t (xg_aload (va := (2, 82)) rfl rfl) ?_
  refine xg_t (xg_getf (va := (0, f82_17)) h82_31 rfl) ?_
  by_cases hc38 : f82_17 = 0
  · refine xg_t (xg_ifF (u := f82_17) rfl xnm0 (xj_neF hc38)) ?_
    refine xg_t (xg_aload (va := (2, 82)) rfl rfl) ?_
    refine xg_t (xg_getf (va := (0, f82_11)) h82_31 rfl) ?_
    refine xg_t (xg_const) ?_
    by_cases hc39 : f82_11 = 2
    · refine xg_t (xg_icF (u := f82_11) (v := 2) rfl xnm0 xnm0 (xj_neF hc39)) ?_
      refine xg_t (xg_aload (va := (2, 82)) rfl rfl) ?_
      refine xg_t (xg_getf (va := (0, f82_3)) h82_31 rfl) ?_
      refine xg_t (xg_iload (va := (0, cq)) rfl rfl) ?_
      by_cases hc40 : f82_3 = cq
      · refine xg_t (xg_icF (u := f82_3) (v := cq) rfl xnm0 xnm0 (xj_neF hc40)) ?_
        refine xg_t (xg_aload (va := (2, 82)) rfl rfl) ?_
        refine xg_cVv mX12_advance (vs := []) (rest := []) (cn1 := 0) (sl1 := 0) rfl (mAdvance (hI)) rfl h82_31 rfl rfl rfl rfl rfl rfl (fun w41 hq42 => ?_)
        obtain ⟨hI43, hF44, hx45⟩ := hq42
        obtain ⟨hv46, hv47, hv48, hv49⟩ := hx45
        have hf50 := FA_fr hF44 (by decide)
        refine xg_t (xg_goto) ?_
        refine xg_t (xg_blk (b := [(34, 1, 12, 0, 0, 0)]) rfl) ?_
        exact xg_e ⟨w41, ⟨rfl, rfl⟩, hI43, (hF44.up (by decide)), ⟨fun _ => by omega, by omega, by omega, (show fld w41 82 10 = 0 ∨ FA w41 ≠ 0 by omega)⟩⟩
      · refine xg_t (xg_icT (u := f82_3) (v := cq) rfl xnm0 xnm0 (xj_neT hc40)) ?_
        refine xg_t (xg_blk (b := [(30, 1, 0, 0, 0, 0), (31, 3, 13, 140, 96, 183)]) rfl) ?_
        refine xg_t (xg_aload (va := (2, 82)) rfl rfl) ?_
        refine xg_cVv mX12_ends (vs := []) (rest := []) (cn1 := 0) (sl1 := 0) rfl (mEnds (hI) (show fld w 82 10 = 0 ∨ FA w ≠ 0 by omega)) rfl h82_31 rfl rfl rfl rfl rfl rfl (fun w51 hq52 => ?_)
        obtain ⟨hI53, hF54, hx55⟩ := hq52
        obtain ⟨hv56, hv57, hv58, hv59⟩ := hx55
        refine xg_t (xg_blk (b := [(34, 1, 12, 0, 0, 0)]) rfl) ?_
        exact xg_e ⟨w51, ⟨rfl, rfl⟩, hI53, (hF54.up (by decide)), ⟨fun _ => by omega, by omega, by omega, (show fld w51 82 10 = 0 ∨ FA w51 ≠ 0 by omega)⟩⟩
    · refine xg_t (xg_icT (u := f82_11) (v := 2) rfl xnm0 xnm0 (xj_neT hc39)) ?_
      refine xg_t (xg_blk (b := [(30, 1, 0, 0, 0, 0), (31, 3, 13, 140, 96, 183)]) rfl) ?_
      refine xg_t (xg_aload (va := (2, 82)) rfl rfl) ?_
      refine xg_cVv mX12_ends (vs := []) (rest := []) (cn1 := 0) (sl1 := 0) rfl (mEnds (hI) (show fld w 82 10 = 0 ∨ FA w ≠ 0 by omega)) rfl h82_31 rfl rfl rfl rfl rfl rfl (fun w60 hq61 => ?_)
      obtain ⟨hI62, hF63, hx64⟩ := hq61
      obtain ⟨hv65, hv66, hv67, hv68⟩ := hx64
      refine xg_t (xg_blk (b := [(34, 1, 12, 0, 0, 0)]) rfl) ?_
      exact xg_e ⟨w60, ⟨rfl, rfl⟩, hI62, (hF63.up (by decide)), ⟨fun _ => by omega, by omega, by omega, (show fld w60 82 10 = 0 ∨ FA w60 ≠ 0 by omega)⟩⟩
  · refine xg_t (xg_ifT (u := f82_17) rfl xnm0 (xj_neT hc38)) ?_
    refine xg_t (xg_blk (b := [(30, 1, 0, 0, 0, 0), (31, 3, 13, 140, 96, 183)]) rfl) ?_
    refine xg_t (xg_aload (va := (2, 82)) rfl rfl) ?_
    refine xg_cVv mX12_ends (vs := []) (rest := []) (cn1 := 0) (sl1 := 0) rfl (mEnds (hI) (show fld w 82 10 = 0 ∨ FA w ≠ 0 by omega)) rfl h82_31 rfl rfl rfl rfl rfl rfl (fun w69 hq70 => ?_)
    obtain ⟨hI71, hF72, hx73⟩ := hq70
    obtain ⟨hv74, hv75, hv76, hv77⟩ := hx73
    refine xg_t (xg_blk (b := [(34, 1, 12, 0, 0, 0)]) rfl) ?_
    exact xg_e ⟨w69, ⟨rfl, rfl⟩, hI71, (hF72.up (by decide)), ⟨fun _ => by omega, by omega, by omega, (show fld w69 82 10 = 0 ∨ FA w69 ≠ 0 by omega)⟩⟩
theorem mNumberNow (hI : xMnv w) (hps : PS w) : xPi (d + 5) mX12_numberNow [(2, 82)] w bd fc rr (fun n w' => (n ≤ 4294967295 ∧ PK w w') ∧ xMnv w' ∧ xFr [82, 83] w w') := by
  refine xPi.of ?_
  show xTo (d + 5) mX12_numberNow (0, [], [(0, (2, 82))], [], (w, bd, fc, 0, 0, rr)) (fun φ => ∃ n w', xEnd 1 [(0, n)] (w', bd, fc, 0, 0, rr) φ ∧ (n ≤ 4294967295 ∧ PK w w') ∧ xMnv w' ∧ xFr [82, 83] w w')
  obtain ⟨f82_1, f82_3, f82_5, f82_7, f82_9, f82_11, f82_13, f82_15, f82_17, f82_19, f82_21, f82_22, f82_23, f82_25, f82_27, f82_29, h82_31, hb2, hb4, hb6, hb8, hb10, hb12, hb14, hb16, hb18, hb20, hb24, hb26, hb28, hb30, hb32⟩ := (hI 82 (by decide) (by decide) : cp82 (wget w 82))
  have hf33 : fld w 82 4 = f82_5 := fld_of h82_31
  have hf34 : fld w 82 5 = f82_7 := fld_of h82_31
  have hf35 : fld w 82 7 = f82_11 := fld_of h82_31
  have hf36 : fld w 82 10 = f82_17 := fld_of h82_31
  have hf37 : fld w 82 14 = f82_19 := fld_of h82_31
  have hps_ : fld w 82 10 = 0 ∨ FA w ≠ 0 := hps
  refine xg_t (xg_blk (b := [(0, 1, 0, 0, 0, 0), (1, 3, 1, 12, 8, 171), (4, 1, 15, 1, 0, 0), (5, 1, 0, 0, 0, 0), (6, 3, 1, 12, 10, 180), (9, 3, 7, 27, 1, 0), (12, 1, 0, 0, 0, 0), (13, 3, 1, 12, 7, 151), (16, 1, 3, 1, 0, 0), (17, 3, 6, 27, 1, 0), (20, 1, 0, 0, 0, 0), (21, 3, 13, 110, 96, 190), (24, 3, 8, 31, 0, 0)]) rfl) ?_
  refine xg_t (xg_aload (va := (2, 82)) rfl rfl) ?_
  refine xg_t (xg_getf (va := (0, f82_13)) h82_31 rfl) ?_
  refine xg_t (xg_istore (l1 := [(0, (2, 82))]) rfl rfl rfl) ?_
  refine xg_t (xg_aload (va := (2, 82)) rfl rfl) ?_
  refine xg_t (xg_getf (va := (0, f82_17)) h82_31 rfl) ?_
  by_cases hc38 : f82_17 = 0
  · refine xg_t (xg_ifF (u := f82_17) rfl xnm0 (xj_neF hc38)) ?_
    refine xg_t (xg_aload (va := (2, 82)) rfl rfl) ?_
    refine xg_t (xg_getf (va := (0, f82_11)) h82_31 rfl) ?_
    refine xg_t (xg_const) ?_
    by_cases hc39 : f82_11 = 1
    · refine xg_t (xg_icF (u := f82_11) (v := 1) rfl xnm0 xnm0 (xj_neF hc39)) ?_
      refine xg_t (xg_aload (va := (2, 82)) rfl rfl) ?_
      refine xg_cVv mX12_advance (vs := []) (rest := []) (cn1 := 0) (sl1 := 0) rfl (mAdvance (hI)) rfl h82_31 rfl rfl rfl rfl rfl rfl (fun w40 hq41 => ?_)
      obtain ⟨hI42, hF43, hx44⟩ := hq41
      obtain ⟨hv45, hv46, hv47, hv48⟩ := hx44
      have hf49 := FA_fr hF43 (by decide)
      refine xg_t (xg_goto) ?_
      refine xg_t (xg_blk (b := [(31, 1, 2, 1, 0, 0), (32, 1, 12, 0, 1, 0)]) rfl) ?_
      refine xg_t (xg_iload (va := (0, f82_13)) rfl rfl) ?_
      exact xg_e ⟨f82_13, w40, ⟨rfl, rfl⟩, ⟨by omega, ⟨fun _ => by omega, by omega, by omega, (show fld w40 82 10 = 0 ∨ FA w40 ≠ 0 by omega)⟩⟩, hI42, (hF43.up (by decide))⟩
    · refine xg_t (xg_icT (u := f82_11) (v := 1) rfl xnm0 xnm0 (xj_neT hc39)) ?_
      refine xg_t (xg_blk (b := [(27, 1, 0, 0, 0, 0), (28, 3, 13, 140, 96, 183)]) rfl) ?_
      refine xg_t (xg_aload (va := (2, 82)) rfl rfl) ?_
      refine xg_cVv mX12_ends (vs := []) (rest := []) (cn1 := 0) (sl1 := 0) rfl (mEnds (hI) (show fld w 82 10 = 0 ∨ FA w ≠ 0 by omega)) rfl h82_31 rfl rfl rfl rfl rfl rfl (fun w50 hq51 => ?_)
      obtain ⟨hI52, hF53, hx54⟩ := hq51
      obtain ⟨hv55, hv56, hv57, hv58⟩ := hx54
      refine xg_t (xg_blk (b := [(31, 1, 2, 1, 0, 0), (32, 1, 12, 0, 1, 0)]) rfl) ?_
      refine xg_t (xg_iload (va := (0, f82_13)) rfl rfl) ?_
      exact xg_e ⟨f82_13, w50, ⟨rfl, rfl⟩, ⟨by omega, ⟨fun _ => by omega, by omega, by omega, (show fld w50 82 10 = 0 ∨ FA w50 ≠ 0 by omega)⟩⟩, hI52, (hF53.up (by decide))⟩
  · refine xg_t (xg_ifT (u := f82_17) rfl xnm0 (xj_neT hc38)) ?_
    refine xg_t (xg_blk (b := [(27, 1, 0, 0, 0, 0), (28, 3, 13, 140, 96, 183)]) rfl) ?_
    refine xg_t (xg_aload (va := (2, 82)) rfl rfl) ?_
    refine xg_cVv mX12_ends (vs := []) (rest := []) (cn1 := 0) (sl1 := 0) rfl (mEnds (hI) (show fld w 82 10 = 0 ∨ FA w ≠ 0 by omega)) rfl h82_31 rfl rfl rfl rfl rfl rfl (fun w59 hq60 => ?_)
    obtain ⟨hI61, hF62, hx63⟩ := hq60
    obtain ⟨hv64, hv65, hv66, hv67⟩ := hx63
    refine xg_t (xg_blk (b := [(31, 1, 2, 1, 0, 0), (32, 1, 12, 0, 1, 0)]) rfl) ?_
    refine xg_t (xg_iload (va := (0, f82_13)) rfl rfl) ?_
    exact xg_e ⟨f82_13, w59, ⟨rfl, rfl⟩, ⟨by omega, ⟨fun _ => by omega, by omega, by omega, (show fld w59 82 10 = 0 ∨ FA w59 ≠ 0 by omega)⟩⟩, hI61, (hF62.up (by decide))⟩
theorem mATest (hI : xMnv w) (hps : PS w) : xPq (d + 6) mX12_aTest [(2, 82)] w bd fc rr [] (fun w' => xMnv w' ∧ xFr [82, 83, 113] w w' ∧ (PK w w')) := by
  refine xPq.of ?_
  show xTo (d + 6) mX12_aTest (0, [], [(0, (2, 82))], [], (w, bd, fc, 0, 0, rr)) (fun φ => ∃ w', xEnd 0 [] (w', bd, fc, 0, 0, rr) φ ∧ xMnv w' ∧ xFr [82, 83, 113] w w' ∧ (PK w w'))
  obtain ⟨f82_1, f82_3, f82_5, f82_7, f82_9, f82_11, f82_13, f82_15, f82_17, f82_19, f82_21, f82_22, f82_23, f82_25, f82_27, f82_29, h82_31, hb2, hb4, hb6, hb8, hb10, hb12, hb14, hb16, hb18, hb20, hb24, hb26, hb28, hb30, hb32⟩ := (hI 82 (by decide) (by decide) : cp82 (wget w 82))
  have hf33 : fld w 82 4 = f82_5 := fld_of h82_31
  have hf34 : fld w 82 5 = f82_7 := fld_of h82_31
  have hf35 : fld w 82 7 = f82_11 := fld_of h82_31
  have hf36 : fld w 82 10 = f82_17 := fld_of h82_31
  have hf37 : fld w 82 14 = f82_19 := fld_of h82_31
  have hps_ : fld w 82 10 = 0 ∨ FA w ≠ 0 := hps
  obtain ⟨g113_38, h113_39, hb40⟩ := (hI 113 (by decide) (by decide) : cpI 4 80 4294967295 (wget w 113))
  have h113_39 : xRow w 113 4 80 g113_38 := h113_39
  refine xg_t (xg_blk (b := [(0, 1, 0, 0, 0, 0), (1, 3, 1, 12, 46, 102), (4, 1, 3, 0, 0, 0), (5, 1, 0, 0, 0, 0), (6, 2, 4, 52, 0, 0), (8, 3, 13, 227, 96, 415), (11, 3, 7, 18, 0, 0), (14, 1, 3, 1, 0, 0), (15, 3, 8, 19, 0, 0)]) rfl) ?_
  refine xg_t (xg_aload (va := (2, 82)) rfl rfl) ?_
  refine xg_t (xg_getf (va := (2, 113)) h82_31 rfl) ?_
  refine xg_t (xg_const) ?_
  refine xg_t (xg_aload (va := (2, 82)) rfl rfl) ?_
  refine xg_t (xg_bip) ?_
  refine xg_cVi mX12_takes (vs := [(0, 52)]) (rest := [(0, 0), (2, 113)]) (cn1 := 0) (sl1 := 0) rfl (mTakes (hI) (by omega) (show fld w 82 10 = 0 ∨ FA w ≠ 0 by omega)) rfl h82_31 rfl rfl rfl rfl rfl rfl (fun n45 w41 hq42 => ?_)
  obtain ⟨hn46, hI43, hF44⟩ := hq42
  obtain ⟨hn47, hn48, hn49⟩ := hn46
  have hq50 := hn48
  unfold PK PS at hq50
  by_cases hc51 : n45 = 0
  · refine xg_t (xg_ifT (u := n45) rfl xnm0 (xj_eqT hc51)) ?_
    refine xg_t (xg_blk (b := [(18, 1, 3, 0, 0, 0)]) rfl) ?_
    refine xg_t (xg_const) ?_
    refine xg_t (xg_blk (b := [(19, 1, 17, 0, 0, 0), (20, 1, 0, 0, 0, 0), (21, 3, 1, 12, 46, 102), (24, 1, 3, 1, 0, 0), (25, 1, 0, 0, 0, 0), (26, 3, 1, 12, 9, 165), (29, 1, 17, 0, 0, 0), (30, 1, 0, 0, 0, 0), (31, 3, 1, 12, 46, 102), (34, 1, 3, 2, 0, 0), (35, 2, 4, 61, 0, 0), (37, 1, 17, 0, 0, 0), (38, 1, 0, 0, 0, 0), (39, 3, 1, 12, 46, 102), (42, 1, 3, 3, 0, 0), (43, 1, 3, 1, 0, 0), (44, 1, 17, 0, 0, 0), (45, 1, 0, 0, 0, 0), (46, 3, 1, 12, 10, 180), (49, 3, 7, 74, 1, 0), (52, 1, 0, 0, 0, 0), (53, 3, 1, 12, 7, 151), (56, 1, 3, 3, 0, 0), (57, 3, 6, 74, 1, 0), (60, 1, 0, 0, 0, 0), (61, 3, 1, 12, 9, 165), (64, 2, 4, 20, 0, 0), (66, 2, 4, 30, 0, 0), (68, 3, 13, 161, 98, 105), (71, 3, 7, 79, 1, 0)]) rfl) ?_
    refine xg_iastK (n := 0) (u := 0) (h113_39.fr hF44 (by decide)) xnm0 xnm0 rfl (by omega) (fun w52 hr53 hb54 => ?_)
    have hf55 := FA_fr (xFr.of (S := [113]) hb54 (by decide)) (by decide)
    have hf56 := mu_fr (xFr.of (S := [113]) hb54 (by decide)) (by decide)
    have hf57 := fld_fr (c := 82) (j := 7) (xFr.of (S := [113]) hb54 (by decide)) (by decide)
    have hf58 := fld_fr (c := 82) (j := 10) (xFr.of (S := [113]) hb54 (by decide)) (by decide)
    have hf59 := fld_fr (c := 82) (j := 14) (xFr.of (S := [113]) hb54 (by decide)) (by decide)
    refine xg_t (xg_aload (va := (2, 82)) rfl rfl) ?_
    obtain ⟨f82_60, f82_62, f82_64, f82_66, f82_68, f82_70, f82_72, f82_74, f82_76, f82_78, f82_80, f82_81, f82_82, f82_84, f82_86, f82_88, h82_90, hb61, hb63, hb65, hb67, hb69, hb71, hb73, hb75, hb77, hb79, hb83, hb85, hb87, hb89, hb91⟩ := (hI43 82 (by decide) (by decide) : cp82 (wget w41 82))
    refine xg_t (xg_getf (va := (2, 113)) (hb54.get (by decide) h82_90) rfl) ?_
    refine xg_t (xg_const) ?_
    refine xg_t (xg_aload (va := (2, 82)) rfl rfl) ?_
    refine xg_t (xg_getf (va := (0, f82_74)) (hb54.get (by decide) h82_90) rfl) ?_
    refine xg_iastK (n := 1) (u := f82_74) hr53 xnm0 xnm0 rfl (by omega) (fun w92 hr93 hb94 => ?_)
    have hf95 := FA_fr (xFr.of (S := [113]) hb94 (by decide)) (by decide)
    have hf96 := mu_fr (xFr.of (S := [113]) hb94 (by decide)) (by decide)
    have hf97 := fld_fr (c := 82) (j := 7) (xFr.of (S := [113]) hb94 (by decide)) (by decide)
    have hf98 := fld_fr (c := 82) (j := 10) (xFr.of (S := [113]) hb94 (by decide)) (by decide)
    have hf99 := fld_fr (c := 82) (j := 14) (xFr.of (S := [113]) hb94 (by decide)) (by decide)
    refine xg_t (xg_aload (va := (2, 82)) rfl rfl) ?_
    refine xg_t (xg_getf (va := (2, 113)) (hb94.get (by decide) (hb54.get (by decide) h82_90)) rfl) ?_
    refine xg_t (xg_const) ?_
    refine xg_t (xg_bip) ?_
    refine xg_iastK (n := 2) (u := 61) hr93 xnm0 xnm0 rfl (by omega) (fun w100 hr101 hb102 => ?_)
    have hf103 := FA_fr (xFr.of (S := [113]) hb102 (by decide)) (by decide)
    have hf104 := mu_fr (xFr.of (S := [113]) hb102 (by decide)) (by decide)
    have hf105 := fld_fr (c := 82) (j := 7) (xFr.of (S := [113]) hb102 (by decide)) (by decide)
    have hf106 := fld_fr (c := 82) (j := 10) (xFr.of (S := [113]) hb102 (by decide)) (by decide)
    have hf107 := fld_fr (c := 82) (j := 14) (xFr.of (S := [113]) hb102 (by decide)) (by decide)
    refine xg_t (xg_aload (va := (2, 82)) rfl rfl) ?_
    refine xg_t (xg_getf (va := (2, 113)) (hb102.get (by decide) (hb94.get (by decide) (hb54.get (by decide) h82_90))) rfl) ?_
    refine xg_t (xg_const) ?_
    refine xg_t (xg_const) ?_
    refine xg_iastK (n := 3) (u := 1) hr101 xnm0 xnm0 rfl (by omega) (fun w108 hr109 hb110 => ?_)
    have hf111 := FA_fr (xFr.of (S := [113]) hb110 (by decide)) (by decide)
    have hf112 := mu_fr (xFr.of (S := [113]) hb110 (by decide)) (by decide)
    have hf113 := fld_fr (c := 82) (j := 7) (xFr.of (S := [113]) hb110 (by decide)) (by decide)
    have hf114 := fld_fr (c := 82) (j := 10) (xFr.of (S := [113]) hb110 (by decide)) (by decide)
    have hf115 := fld_fr (c := 82) (j := 14) (xFr.of (S := [113]) hb110 (by decide)) (by decide)
    refine xg_t (xg_aload (va := (2, 82)) rfl rfl) ?_
    refine xg_t (xg_getf (va := (0, f82_76)) (hb110.get (by decide) (hb102.get (by decide) (hb94.get (by decide) (hb54.get (by decide) h82_90)))) rfl) ?_
    by_cases hc116 : f82_76 = 0
    · refine xg_t (xg_ifF (u := f82_76) rfl xnm0 (xj_neF hc116)) ?_
      refine xg_t (xg_aload (va := (2, 82)) rfl rfl) ?_
      refine xg_t (xg_getf (va := (0, f82_70)) (hb110.get (by decide) (hb102.get (by decide) (hb94.get (by decide) (hb54.get (by decide) h82_90)))) rfl) ?_
      refine xg_t (xg_const) ?_
      by_cases hc117 : f82_70 = 3
      · refine xg_t (xg_icF (u := f82_70) (v := 3) rfl xnm0 xnm0 (xj_neF hc117)) ?_
        refine xg_t (xg_aload (va := (2, 82)) rfl rfl) ?_
        refine xg_t (xg_getf (va := (0, f82_74)) (hb110.get (by decide) (hb102.get (by decide) (hb94.get (by decide) (hb54.get (by decide) h82_90)))) rfl) ?_
        refine xg_t (xg_bip) ?_
        refine xg_t (xg_bip) ?_
        refine xg_t (xg_cSr mX12_isIn (vs := [(0, f82_74), (0, 20), (0, 30)]) (rest := []) (rs := [(0, if 20 ≤ f82_74 ∧ f82_74 ≤ 30 then 1 else 0)]) (cn1 := 0) (sl1 := 0) rfl (mIsIn (by omega) (by omega) (by omega)) rfl rfl rfl rfl rfl rfl rfl rfl) ?_
        by_cases hc118 : 20 ≤ f82_74 ∧ f82_74 ≤ 30
        · refine xg_t (xg_ifT (u := (if 20 ≤ f82_74 ∧ f82_74 ≤ 30 then 1 else 0)) rfl xnm0 (xj_neT (xite1 hc118))) ?_
          refine xg_t (xg_blk (b := [(79, 1, 0, 0, 0, 0), (80, 3, 13, 110, 96, 190), (83, 1, 0, 0, 0, 0), (84, 3, 1, 12, 46, 102), (87, 1, 3, 1, 0, 0), (88, 1, 10, 0, 0, 0), (89, 2, 4, 21, 0, 0), (91, 3, 6, 95, 4, 0), (94, 1, 12, 0, 0, 0)]) rfl) ?_
          refine xg_t (xg_aload (va := (2, 82)) rfl rfl) ?_
          refine xg_cVv mX12_advance (vs := []) (rest := []) (cn1 := 0) (sl1 := 0) rfl (mAdvance (xMnv.up (S := [113]) hI43 ((((xFr.of (S := [113]) hb54 (by decide)).tr (xFr.of (S := [113]) hb94 (by decide))).tr (xFr.of (S := [113]) hb102 (by decide))).tr (xFr.of (S := [113]) hb110 (by decide))) (List.forall_mem_cons.mpr ⟨(show cpI 4 80 4294967295 (wget w108 113) from ⟨_, hr109, xrb (by omega) (xrb (by omega) (xrb (by omega) (xrb (by omega) (hb40))))⟩), fun _ h => absurd h List.not_mem_nil⟩))) rfl (hb110.get (by decide) (hb102.get (by decide) (hb94.get (by decide) (hb54.get (by decide) h82_90)))) rfl rfl rfl rfl rfl rfl (fun w119 hq120 => ?_)
          obtain ⟨hI121, hF122, hx123⟩ := hq120
          obtain ⟨hv124, hv125, hv126, hv127⟩ := hx123
          have hf128 := FA_fr hF122 (by decide)
          refine xg_t (xg_aload (va := (2, 82)) rfl rfl) ?_
          obtain ⟨f82_129, f82_131, f82_133, f82_135, f82_137, f82_139, f82_141, f82_143, f82_145, f82_147, f82_149, f82_150, f82_151, f82_153, f82_155, f82_157, h82_159, hb130, hb132, hb134, hb136, hb138, hb140, hb142, hb144, hb146, hb148, hb152, hb154, hb156, hb158, hb160⟩ := (hI121 82 (by decide) (by decide) : cp82 (wget w119 82))
          refine xg_t (xg_getf (va := (2, 113)) h82_159 rfl) ?_
          refine xg_t (xg_const) ?_
          refine xg_ialdB (n := 1) (B := 4294967295) (hr109.fr hF122 (by decide)) (xrb (by omega) (xrb (by omega) (xrb (by omega) (xrb (by omega) (hb40))))) xnm0 (by omega) (fun u161 hu162 he163 => ?_)
          refine xg_t (xg_bip) ?_
          by_cases hc164 : xbs 21 < xbs u161
          · have hc164u := hc164
            unfold xbs at hc164u
            have hn165 : u161 ≤ 2147483647 := by omega
            refine xg_t (xg_icT (u := u161) (v := 21) rfl xnm0 xnm0 (xjs_gtT hc164)) ?_
            refine xg_t (xg_blk (b := [(95, 1, 0, 0, 0, 0), (96, 3, 1, 12, 46, 102), (99, 1, 3, 2, 0, 0), (100, 1, 0, 0, 0, 0), (101, 3, 1, 12, 3, 174), (104, 1, 17, 0, 0, 0), (105, 1, 0, 0, 0, 0), (106, 3, 1, 12, 7, 151), (109, 1, 3, 2, 0, 0), (110, 3, 6, 131, 1, 0), (113, 1, 0, 0, 0, 0), (114, 3, 1, 12, 3, 174), (117, 2, 4, 58, 0, 0), (119, 3, 6, 131, 0, 0), (122, 1, 0, 0, 0, 0), (123, 3, 1, 12, 3, 174), (126, 2, 4, 59, 0, 0), (128, 3, 6, 136, 1, 0)]) rfl) ?_
            refine xg_t (xg_aload (va := (2, 82)) rfl rfl) ?_
            refine xg_t (xg_getf (va := (2, 113)) h82_159 rfl) ?_
            refine xg_t (xg_const) ?_
            refine xg_t (xg_aload (va := (2, 82)) rfl rfl) ?_
            refine xg_t (xg_getf (va := (0, f82_131)) h82_159 rfl) ?_
            refine xg_iastK (n := 2) (u := f82_131) (hr109.fr hF122 (by decide)) xnm0 xnm0 rfl (by omega) (fun w166 hr167 hb168 => ?_)
            have hf169 := FA_fr (xFr.of (S := [113]) hb168 (by decide)) (by decide)
            have hf170 := mu_fr (xFr.of (S := [113]) hb168 (by decide)) (by decide)
            have hf171 := fld_fr (c := 82) (j := 7) (xFr.of (S := [113]) hb168 (by decide)) (by decide)
            have hf172 := fld_fr (c := 82) (j := 10) (xFr.of (S := [113]) hb168 (by decide)) (by decide)
            have hf173 := fld_fr (c := 82) (j := 14) (xFr.of (S := [113]) hb168 (by decide)) (by decide)
            refine xg_t (xg_aload (va := (2, 82)) rfl rfl) ?_
            refine xg_t (xg_getf (va := (0, f82_139)) (hb168.get (by decide) h82_159) rfl) ?_
            refine xg_t (xg_const) ?_
            by_cases hc174 : f82_139 = 2
            · refine xg_t (xg_icF (u := f82_139) (v := 2) rfl xnm0 xnm0 (xj_neF hc174)) ?_
              refine xg_t (xg_aload (va := (2, 82)) rfl rfl) ?_
              refine xg_t (xg_getf (va := (0, f82_131)) (hb168.get (by decide) h82_159) rfl) ?_
              refine xg_t (xg_bip) ?_
              by_cases hc175 : f82_131 = 58
              · refine xg_t (xg_icT (u := f82_131) (v := 58) rfl xnm0 xnm0 (xj_eqT hc175)) ?_
                refine xg_t (xg_blk (b := [(131, 1, 0, 0, 0, 0), (132, 3, 13, 140, 96, 183), (135, 1, 12, 0, 0, 0)]) rfl) ?_
                refine xg_t (xg_aload (va := (2, 82)) rfl rfl) ?_
                refine xg_cVv mX12_ends (vs := []) (rest := []) (cn1 := 0) (sl1 := 0) rfl (mEnds (xMnv.up (S := [113]) hI121 (xFr.of (S := [113]) hb168 (by decide)) (List.forall_mem_cons.mpr ⟨(show cpI 4 80 4294967295 (wget w166 113) from ⟨_, hr167, xrb (by omega) (xrb (by omega) (xrb (by omega) (xrb (by omega) (xrb (by omega) (hb40)))))⟩), fun _ h => absurd h List.not_mem_nil⟩)) (show fld w166 82 10 = 0 ∨ FA w166 ≠ 0 by omega)) rfl (hb168.get (by decide) h82_159) rfl rfl rfl rfl rfl rfl (fun w176 hq177 => ?_)
                obtain ⟨hI178, hF179, hx180⟩ := hq177
                obtain ⟨hv181, hv182, hv183, hv184⟩ := hx180
                exact xg_e ⟨w176, ⟨rfl, rfl⟩, hI178, (((((hF44.up (by decide)).tr ((((xFr.of (S := [82, 83, 113]) hb54 (by decide)).tr (xFr.of (S := [82, 83, 113]) hb94 (by decide))).tr (xFr.of (S := [82, 83, 113]) hb102 (by decide))).tr (xFr.of (S := [82, 83, 113]) hb110 (by decide)))).tr (hF122.up (by decide))).tr (xFr.of (S := [82, 83, 113]) hb168 (by decide))).tr (hF179.up (by decide))), ⟨fun _ => by omega, by omega, by omega, (show fld w176 82 10 = 0 ∨ FA w176 ≠ 0 by omega)⟩⟩
              · refine xg_t (xg_icF (u := f82_131) (v := 58) rfl xnm0 xnm0 (xj_eqF hc175)) ?_
                refine xg_t (xg_aload (va := (2, 82)) rfl rfl) ?_
                refine xg_t (xg_getf (va := (0, f82_131)) (hb168.get (by decide) h82_159) rfl) ?_
                refine xg_t (xg_bip) ?_
                by_cases hc185 : f82_131 = 59
                · refine xg_t (xg_icF (u := f82_131) (v := 59) rfl xnm0 xnm0 (xj_neF hc185)) ?_
                  refine xg_t (xg_blk (b := [(131, 1, 0, 0, 0, 0), (132, 3, 13, 140, 96, 183), (135, 1, 12, 0, 0, 0)]) rfl) ?_
                  refine xg_t (xg_aload (va := (2, 82)) rfl rfl) ?_
                  refine xg_cVv mX12_ends (vs := []) (rest := []) (cn1 := 0) (sl1 := 0) rfl (mEnds (xMnv.up (S := [113]) hI121 (xFr.of (S := [113]) hb168 (by decide)) (List.forall_mem_cons.mpr ⟨(show cpI 4 80 4294967295 (wget w166 113) from ⟨_, hr167, xrb (by omega) (xrb (by omega) (xrb (by omega) (xrb (by omega) (xrb (by omega) (hb40)))))⟩), fun _ h => absurd h List.not_mem_nil⟩)) (show fld w166 82 10 = 0 ∨ FA w166 ≠ 0 by omega)) rfl (hb168.get (by decide) h82_159) rfl rfl rfl rfl rfl rfl (fun w186 hq187 => ?_)
                  obtain ⟨hI188, hF189, hx190⟩ := hq187
                  obtain ⟨hv191, hv192, hv193, hv194⟩ := hx190
                  exact xg_e ⟨w186, ⟨rfl, rfl⟩, hI188, (((((hF44.up (by decide)).tr ((((xFr.of (S := [82, 83, 113]) hb54 (by decide)).tr (xFr.of (S := [82, 83, 113]) hb94 (by decide))).tr (xFr.of (S := [82, 83, 113]) hb102 (by decide))).tr (xFr.of (S := [82, 83, 113]) hb110 (by decide)))).tr (hF122.up (by decide))).tr (xFr.of (S := [82, 83, 113]) hb168 (by decide))).tr (hF189.up (by decide))), ⟨fun _ => by omega, by omega, by omega, (show fld w186 82 10 = 0 ∨ FA w186 ≠ 0 by omega)⟩⟩
                · refine xg_t (xg_icT (u := f82_131) (v := 59) rfl xnm0 xnm0 (xj_neT hc185)) ?_
                  refine xg_t (xg_blk (b := [(136, 1, 0, 0, 0, 0), (137, 3, 13, 110, 96, 190), (140, 1, 0, 0, 0, 0), (141, 3, 1, 12, 46, 102), (144, 1, 3, 3, 0, 0), (145, 1, 0, 0, 0, 0), (146, 3, 13, 198, 96, 418), (149, 1, 17, 0, 0, 0), (150, 1, 12, 0, 0, 0)]) rfl) ?_
                  refine xg_t (xg_aload (va := (2, 82)) rfl rfl) ?_
                  refine xg_cVv mX12_advance (vs := []) (rest := []) (cn1 := 0) (sl1 := 0) rfl (mAdvance (xMnv.up (S := [113]) hI121 (xFr.of (S := [113]) hb168 (by decide)) (List.forall_mem_cons.mpr ⟨(show cpI 4 80 4294967295 (wget w166 113) from ⟨_, hr167, xrb (by omega) (xrb (by omega) (xrb (by omega) (xrb (by omega) (xrb (by omega) (hb40)))))⟩), fun _ h => absurd h List.not_mem_nil⟩))) rfl (hb168.get (by decide) h82_159) rfl rfl rfl rfl rfl rfl (fun w195 hq196 => ?_)
                  obtain ⟨hI197, hF198, hx199⟩ := hq196
                  obtain ⟨hv200, hv201, hv202, hv203⟩ := hx199
                  have hf204 := FA_fr hF198 (by decide)
                  refine xg_t (xg_aload (va := (2, 82)) rfl rfl) ?_
                  obtain ⟨f82_205, f82_207, f82_209, f82_211, f82_213, f82_215, f82_217, f82_219, f82_221, f82_223, f82_225, f82_226, f82_227, f82_229, f82_231, f82_233, h82_235, hb206, hb208, hb210, hb212, hb214, hb216, hb218, hb220, hb222, hb224, hb228, hb230, hb232, hb234, hb236⟩ := (hI197 82 (by decide) (by decide) : cp82 (wget w195 82))
                  refine xg_t (xg_getf (va := (2, 113)) h82_235 rfl) ?_
                  refine xg_t (xg_const) ?_
                  refine xg_t (xg_aload (va := (2, 82)) rfl rfl) ?_
                  refine xg_cVi mX12_numberNow (vs := []) (rest := [(0, 3), (2, 113)]) (cn1 := 0) (sl1 := 0) rfl (mNumberNow (hI197) (show fld w195 82 10 = 0 ∨ FA w195 ≠ 0 by omega)) rfl h82_235 rfl rfl rfl rfl rfl rfl (fun n241 w237 hq238 => ?_)
                  obtain ⟨hn242, hI239, hF240⟩ := hq238
                  obtain ⟨hn243, hn244⟩ := hn242
                  have hq245 := hn244
                  unfold PK PS at hq245
                  refine xg_iastK (n := 3) (u := n241) ((hr167.fr hF198 (by decide)).fr hF240 (by decide)) xnm0 xnm0 rfl (by omega) (fun w246 hr247 hb248 => ?_)
                  have hf249 := FA_fr (xFr.of (S := [113]) hb248 (by decide)) (by decide)
                  have hf250 := mu_fr (xFr.of (S := [113]) hb248 (by decide)) (by decide)
                  have hf251 := fld_fr (c := 82) (j := 7) (xFr.of (S := [113]) hb248 (by decide)) (by decide)
                  have hf252 := fld_fr (c := 82) (j := 10) (xFr.of (S := [113]) hb248 (by decide)) (by decide)
                  have hf253 := fld_fr (c := 82) (j := 14) (xFr.of (S := [113]) hb248 (by decide)) (by decide)
                  exact xg_e ⟨w246, ⟨rfl, rfl⟩, xMnv.up (S := [113]) hI239 (xFr.of (S := [113]) hb248 (by decide)) (List.forall_mem_cons.mpr ⟨(show cpI 4 80 4294967295 (wget w246 113) from ⟨_, hr247, xrb (by omega) (xrb (by omega) (xrb (by omega) (xrb (by omega) (xrb (by omega) (xrb (by omega) (hb40))))))⟩), fun _ h => absurd h List.not_mem_nil⟩), (((((((hF44.up (by decide)).tr ((((xFr.of (S := [82, 83, 113]) hb54 (by decide)).tr (xFr.of (S := [82, 83, 113]) hb94 (by decide))).tr (xFr.of (S := [82, 83, 113]) hb102 (by decide))).tr (xFr.of (S := [82, 83, 113]) hb110 (by decide)))).tr (hF122.up (by decide))).tr (xFr.of (S := [82, 83, 113]) hb168 (by decide))).tr (hF198.up (by decide))).tr (hF240.up (by decide))).tr (xFr.of (S := [82, 83, 113]) hb248 (by decide))), ⟨fun _ => by omega, by omega, by omega, (show fld w246 82 10 = 0 ∨ FA w246 ≠ 0 by omega)⟩⟩
            · refine xg_t (xg_icT (u := f82_139) (v := 2) rfl xnm0 xnm0 (xj_neT hc174)) ?_
              refine xg_t (xg_blk (b := [(131, 1, 0, 0, 0, 0), (132, 3, 13, 140, 96, 183), (135, 1, 12, 0, 0, 0)]) rfl) ?_
              refine xg_t (xg_aload (va := (2, 82)) rfl rfl) ?_
              refine xg_cVv mX12_ends (vs := []) (rest := []) (cn1 := 0) (sl1 := 0) rfl (mEnds (xMnv.up (S := [113]) hI121 (xFr.of (S := [113]) hb168 (by decide)) (List.forall_mem_cons.mpr ⟨(show cpI 4 80 4294967295 (wget w166 113) from ⟨_, hr167, xrb (by omega) (xrb (by omega) (xrb (by omega) (xrb (by omega) (xrb (by omega) (hb40)))))⟩), fun _ h => absurd h List.not_mem_nil⟩)) (show fld w166 82 10 = 0 ∨ FA w166 ≠ 0 by omega)) rfl (hb168.get (by decide) h82_159) rfl rfl rfl rfl rfl rfl (fun w254 hq255 => ?_)
              obtain ⟨hI256, hF257, hx258⟩ := hq255
              obtain ⟨hv259, hv260, hv261, hv262⟩ := hx258
              exact xg_e ⟨w254, ⟨rfl, rfl⟩, hI256, (((((hF44.up (by decide)).tr ((((xFr.of (S := [82, 83, 113]) hb54 (by decide)).tr (xFr.of (S := [82, 83, 113]) hb94 (by decide))).tr (xFr.of (S := [82, 83, 113]) hb102 (by decide))).tr (xFr.of (S := [82, 83, 113]) hb110 (by decide)))).tr (hF122.up (by decide))).tr (xFr.of (S := [82, 83, 113]) hb168 (by decide))).tr (hF257.up (by decide))), ⟨fun _ => by omega, by omega, by omega, (show fld w254 82 10 = 0 ∨ FA w254 ≠ 0 by omega)⟩⟩
          · have hc164u := hc164
            unfold xbs at hc164u
            refine xg_t (xg_icF (u := u161) (v := 21) rfl xnm0 xnm0 (xjs_gtF hc164)) ?_
            exact xg_e ⟨w119, ⟨rfl, rfl⟩, hI121, (((hF44.up (by decide)).tr ((((xFr.of (S := [82, 83, 113]) hb54 (by decide)).tr (xFr.of (S := [82, 83, 113]) hb94 (by decide))).tr (xFr.of (S := [82, 83, 113]) hb102 (by decide))).tr (xFr.of (S := [82, 83, 113]) hb110 (by decide)))).tr (hF122.up (by decide))), ⟨fun _ => by omega, by omega, by omega, (show fld w119 82 10 = 0 ∨ FA w119 ≠ 0 by omega)⟩⟩
        · refine xg_t (xg_ifF (u := (if 20 ≤ f82_74 ∧ f82_74 ≤ 30 then 1 else 0)) rfl xnm0 (xj_neF (xite0 hc118))) ?_
          refine xg_t (xg_blk (b := [(74, 1, 0, 0, 0, 0), (75, 3, 13, 140, 96, 183), (78, 1, 12, 0, 0, 0)]) rfl) ?_
          refine xg_t (xg_aload (va := (2, 82)) rfl rfl) ?_
          refine xg_cVv mX12_ends (vs := []) (rest := []) (cn1 := 0) (sl1 := 0) rfl (mEnds (xMnv.up (S := [113]) hI43 ((((xFr.of (S := [113]) hb54 (by decide)).tr (xFr.of (S := [113]) hb94 (by decide))).tr (xFr.of (S := [113]) hb102 (by decide))).tr (xFr.of (S := [113]) hb110 (by decide))) (List.forall_mem_cons.mpr ⟨(show cpI 4 80 4294967295 (wget w108 113) from ⟨_, hr109, xrb (by omega) (xrb (by omega) (xrb (by omega) (xrb (by omega) (hb40))))⟩), fun _ h => absurd h List.not_mem_nil⟩)) (show fld w108 82 10 = 0 ∨ FA w108 ≠ 0 by omega)) rfl (hb110.get (by decide) (hb102.get (by decide) (hb94.get (by decide) (hb54.get (by decide) h82_90)))) rfl rfl rfl rfl rfl rfl (fun w263 hq264 => ?_)
          obtain ⟨hI265, hF266, hx267⟩ := hq264
          obtain ⟨hv268, hv269, hv270, hv271⟩ := hx267
          exact xg_e ⟨w263, ⟨rfl, rfl⟩, hI265, (((hF44.up (by decide)).tr ((((xFr.of (S := [82, 83, 113]) hb54 (by decide)).tr (xFr.of (S := [82, 83, 113]) hb94 (by decide))).tr (xFr.of (S := [82, 83, 113]) hb102 (by decide))).tr (xFr.of (S := [82, 83, 113]) hb110 (by decide)))).tr (hF266.up (by decide))), ⟨fun _ => by omega, by omega, by omega, (show fld w263 82 10 = 0 ∨ FA w263 ≠ 0 by omega)⟩⟩
      · refine xg_t (xg_icT (u := f82_70) (v := 3) rfl xnm0 xnm0 (xj_neT hc117)) ?_
        refine xg_t (xg_blk (b := [(74, 1, 0, 0, 0, 0), (75, 3, 13, 140, 96, 183), (78, 1, 12, 0, 0, 0)]) rfl) ?_
        refine xg_t (xg_aload (va := (2, 82)) rfl rfl) ?_
        refine xg_cVv mX12_ends (vs := []) (rest := []) (cn1 := 0) (sl1 := 0) rfl (mEnds (xMnv.up (S := [113]) hI43 ((((xFr.of (S := [113]) hb54 (by decide)).tr (xFr.of (S := [113]) hb94 (by decide))).tr (xFr.of (S := [113]) hb102 (by decide))).tr (xFr.of (S := [113]) hb110 (by decide))) (List.forall_mem_cons.mpr ⟨(show cpI 4 80 4294967295 (wget w108 113) from ⟨_, hr109, xrb (by omega) (xrb (by omega) (xrb (by omega) (xrb (by omega) (hb40))))⟩), fun _ h => absurd h List.not_mem_nil⟩)) (show fld w108 82 10 = 0 ∨ FA w108 ≠ 0 by omega)) rfl (hb110.get (by decide) (hb102.get (by decide) (hb94.get (by decide) (hb54.get (by decide) h82_90)))) rfl rfl rfl rfl rfl rfl (fun w272 hq273 => ?_)
        obtain ⟨hI274, hF275, hx276⟩ := hq273
        obtain ⟨hv277, hv278, hv279, hv280⟩ := hx276
        exact xg_e ⟨w272, ⟨rfl, rfl⟩, hI274, (((hF44.up (by decide)).tr ((((xFr.of (S := [82, 83, 113]) hb54 (by decide)).tr (xFr.of (S := [82, 83, 113]) hb94 (by decide))).tr (xFr.of (S := [82, 83, 113]) hb102 (by decide))).tr (xFr.of (S := [82, 83, 113]) hb110 (by decide)))).tr (hF275.up (by decide))), ⟨fun _ => by omega, by omega, by omega, (show fld w272 82 10 = 0 ∨ FA w272 ≠ 0 by omega)⟩⟩
    · refine xg_t (xg_ifT (u := f82_76) rfl xnm0 (xj_neT hc116)) ?_
      refine xg_t (xg_blk (b := [(74, 1, 0, 0, 0, 0), (75, 3, 13, 140, 96, 183), (78, 1, 12, 0, 0, 0)]) rfl) ?_
      refine xg_t (xg_aload (va := (2, 82)) rfl rfl) ?_
      refine xg_cVv mX12_ends (vs := []) (rest := []) (cn1 := 0) (sl1 := 0) rfl (mEnds (xMnv.up (S := [113]) hI43 ((((xFr.of (S := [113]) hb54 (by decide)).tr (xFr.of (S := [113]) hb94 (by decide))).tr (xFr.of (S := [113]) hb102 (by decide))).tr (xFr.of (S := [113]) hb110 (by decide))) (List.forall_mem_cons.mpr ⟨(show cpI 4 80 4294967295 (wget w108 113) from ⟨_, hr109, xrb (by omega) (xrb (by omega) (xrb (by omega) (xrb (by omega) (hb40))))⟩), fun _ h => absurd h List.not_mem_nil⟩)) (show fld w108 82 10 = 0 ∨ FA w108 ≠ 0 by omega)) rfl (hb110.get (by decide) (hb102.get (by decide) (hb94.get (by decide) (hb54.get (by decide) h82_90)))) rfl rfl rfl rfl rfl rfl (fun w281 hq282 => ?_)
      obtain ⟨hI283, hF284, hx285⟩ := hq282
      obtain ⟨hv286, hv287, hv288, hv289⟩ := hx285
      exact xg_e ⟨w281, ⟨rfl, rfl⟩, hI283, (((hF44.up (by decide)).tr ((((xFr.of (S := [82, 83, 113]) hb54 (by decide)).tr (xFr.of (S := [82, 83, 113]) hb94 (by decide))).tr (xFr.of (S := [82, 83, 113]) hb102 (by decide))).tr (xFr.of (S := [82, 83, 113]) hb110 (by decide)))).tr (hF284.up (by decide))), ⟨fun _ => by omega, by omega, by omega, (show fld w281 82 10 = 0 ∨ FA w281 ≠ 0 by omega)⟩⟩
  · refine xg_t (xg_ifF (u := n45) rfl xnm0 (xj_eqF hc51)) ?_
    refine xg_t (xg_const) ?_
    refine xg_t (xg_goto) ?_
    refine xg_t (xg_blk (b := [(19, 1, 17, 0, 0, 0), (20, 1, 0, 0, 0, 0), (21, 3, 1, 12, 46, 102), (24, 1, 3, 1, 0, 0), (25, 1, 0, 0, 0, 0), (26, 3, 1, 12, 9, 165), (29, 1, 17, 0, 0, 0), (30, 1, 0, 0, 0, 0), (31, 3, 1, 12, 46, 102), (34, 1, 3, 2, 0, 0), (35, 2, 4, 61, 0, 0), (37, 1, 17, 0, 0, 0), (38, 1, 0, 0, 0, 0), (39, 3, 1, 12, 46, 102), (42, 1, 3, 3, 0, 0), (43, 1, 3, 1, 0, 0), (44, 1, 17, 0, 0, 0), (45, 1, 0, 0, 0, 0), (46, 3, 1, 12, 10, 180), (49, 3, 7, 74, 1, 0), (52, 1, 0, 0, 0, 0), (53, 3, 1, 12, 7, 151), (56, 1, 3, 3, 0, 0), (57, 3, 6, 74, 1, 0), (60, 1, 0, 0, 0, 0), (61, 3, 1, 12, 9, 165), (64, 2, 4, 20, 0, 0), (66, 2, 4, 30, 0, 0), (68, 3, 13, 161, 98, 105), (71, 3, 7, 79, 1, 0)]) rfl) ?_
    refine xg_iastK (n := 0) (u := 1) (h113_39.fr hF44 (by decide)) xnm0 xnm0 rfl (by omega) (fun w290 hr291 hb292 => ?_)
    have hf293 := FA_fr (xFr.of (S := [113]) hb292 (by decide)) (by decide)
    have hf294 := mu_fr (xFr.of (S := [113]) hb292 (by decide)) (by decide)
    have hf295 := fld_fr (c := 82) (j := 7) (xFr.of (S := [113]) hb292 (by decide)) (by decide)
    have hf296 := fld_fr (c := 82) (j := 10) (xFr.of (S := [113]) hb292 (by decide)) (by decide)
    have hf297 := fld_fr (c := 82) (j := 14) (xFr.of (S := [113]) hb292 (by decide)) (by decide)
    refine xg_t (xg_aload (va := (2, 82)) rfl rfl) ?_
    obtain ⟨f82_298, f82_300, f82_302, f82_304, f82_306, f82_308, f82_310, f82_312, f82_314, f82_316, f82_318, f82_319, f82_320, f82_322, f82_324, f82_326, h82_328, hb299, hb301, hb303, hb305, hb307, hb309, hb311, hb313, hb315, hb317, hb321, hb323, hb325, hb327, hb329⟩ := (hI43 82 (by decide) (by decide) : cp82 (wget w41 82))
    refine xg_t (xg_getf (va := (2, 113)) (hb292.get (by decide) h82_328) rfl) ?_
    refine xg_t (xg_const) ?_
    refine xg_t (xg_aload (va := (2, 82)) rfl rfl) ?_
    refine xg_t (xg_getf (va := (0, f82_312)) (hb292.get (by decide) h82_328) rfl) ?_
    refine xg_iastK (n := 1) (u := f82_312) hr291 xnm0 xnm0 rfl (by omega) (fun w330 hr331 hb332 => ?_)
    have hf333 := FA_fr (xFr.of (S := [113]) hb332 (by decide)) (by decide)
    have hf334 := mu_fr (xFr.of (S := [113]) hb332 (by decide)) (by decide)
    have hf335 := fld_fr (c := 82) (j := 7) (xFr.of (S := [113]) hb332 (by decide)) (by decide)
    have hf336 := fld_fr (c := 82) (j := 10) (xFr.of (S := [113]) hb332 (by decide)) (by decide)
    have hf337 := fld_fr (c := 82) (j := 14) (xFr.of (S := [113]) hb332 (by decide)) (by decide)
    refine xg_t (xg_aload (va := (2, 82)) rfl rfl) ?_
    refine xg_t (xg_getf (va := (2, 113)) (hb332.get (by decide) (hb292.get (by decide) h82_328)) rfl) ?_
    refine xg_t (xg_const) ?_
    refine xg_t (xg_bip) ?_
    refine xg_iastK (n := 2) (u := 61) hr331 xnm0 xnm0 rfl (by omega) (fun w338 hr339 hb340 => ?_)
    have hf341 := FA_fr (xFr.of (S := [113]) hb340 (by decide)) (by decide)
    have hf342 := mu_fr (xFr.of (S := [113]) hb340 (by decide)) (by decide)
    have hf343 := fld_fr (c := 82) (j := 7) (xFr.of (S := [113]) hb340 (by decide)) (by decide)
    have hf344 := fld_fr (c := 82) (j := 10) (xFr.of (S := [113]) hb340 (by decide)) (by decide)
    have hf345 := fld_fr (c := 82) (j := 14) (xFr.of (S := [113]) hb340 (by decide)) (by decide)
    refine xg_t (xg_aload (va := (2, 82)) rfl rfl) ?_
    refine xg_t (xg_getf (va := (2, 113)) (hb340.get (by decide) (hb332.get (by decide) (hb292.get (by decide) h82_328))) rfl) ?_
    refine xg_t (xg_const) ?_
    refine xg_t (xg_const) ?_
    refine xg_iastK (n := 3) (u := 1) hr339 xnm0 xnm0 rfl (by omega) (fun w346 hr347 hb348 => ?_)
    have hf349 := FA_fr (xFr.of (S := [113]) hb348 (by decide)) (by decide)
    have hf350 := mu_fr (xFr.of (S := [113]) hb348 (by decide)) (by decide)
    have hf351 := fld_fr (c := 82) (j := 7) (xFr.of (S := [113]) hb348 (by decide)) (by decide)
    have hf352 := fld_fr (c := 82) (j := 10) (xFr.of (S := [113]) hb348 (by decide)) (by decide)
    have hf353 := fld_fr (c := 82) (j := 14) (xFr.of (S := [113]) hb348 (by decide)) (by decide)
    refine xg_t (xg_aload (va := (2, 82)) rfl rfl) ?_
    refine xg_t (xg_getf (va := (0, f82_314)) (hb348.get (by decide) (hb340.get (by decide) (hb332.get (by decide) (hb292.get (by decide) h82_328)))) rfl) ?_
    by_cases hc354 : f82_314 = 0
    · refine xg_t (xg_ifF (u := f82_314) rfl xnm0 (xj_neF hc354)) ?_
      refine xg_t (xg_aload (va := (2, 82)) rfl rfl) ?_
      refine xg_t (xg_getf (va := (0, f82_308)) (hb348.get (by decide) (hb340.get (by decide) (hb332.get (by decide) (hb292.get (by decide) h82_328)))) rfl) ?_
      refine xg_t (xg_const) ?_
      by_cases hc355 : f82_308 = 3
      · refine xg_t (xg_icF (u := f82_308) (v := 3) rfl xnm0 xnm0 (xj_neF hc355)) ?_
        refine xg_t (xg_aload (va := (2, 82)) rfl rfl) ?_
        refine xg_t (xg_getf (va := (0, f82_312)) (hb348.get (by decide) (hb340.get (by decide) (hb332.get (by decide) (hb292.get (by decide) h82_328)))) rfl) ?_
        refine xg_t (xg_bip) ?_
        refine xg_t (xg_bip) ?_
        refine xg_t (xg_cSr mX12_isIn (vs := [(0, f82_312), (0, 20), (0, 30)]) (rest := []) (rs := [(0, if 20 ≤ f82_312 ∧ f82_312 ≤ 30 then 1 else 0)]) (cn1 := 0) (sl1 := 0) rfl (mIsIn (by omega) (by omega) (by omega)) rfl rfl rfl rfl rfl rfl rfl rfl) ?_
        by_cases hc356 : 20 ≤ f82_312 ∧ f82_312 ≤ 30
        · refine xg_t (xg_ifT (u := (if 20 ≤ f82_312 ∧ f82_312 ≤ 30 then 1 else 0)) rfl xnm0 (xj_neT (xite1 hc356))) ?_
          refine xg_t (xg_blk (b := [(79, 1, 0, 0, 0, 0), (80, 3, 13, 110, 96, 190), (83, 1, 0, 0, 0, 0), (84, 3, 1, 12, 46, 102), (87, 1, 3, 1, 0, 0), (88, 1, 10, 0, 0, 0), (89, 2, 4, 21, 0, 0), (91, 3, 6, 95, 4, 0), (94, 1, 12, 0, 0, 0)]) rfl) ?_
          refine xg_t (xg_aload (va := (2, 82)) rfl rfl) ?_
          refine xg_cVv mX12_advance (vs := []) (rest := []) (cn1 := 0) (sl1 := 0) rfl (mAdvance (xMnv.up (S := [113]) hI43 ((((xFr.of (S := [113]) hb292 (by decide)).tr (xFr.of (S := [113]) hb332 (by decide))).tr (xFr.of (S := [113]) hb340 (by decide))).tr (xFr.of (S := [113]) hb348 (by decide))) (List.forall_mem_cons.mpr ⟨(show cpI 4 80 4294967295 (wget w346 113) from ⟨_, hr347, xrb (by omega) (xrb (by omega) (xrb (by omega) (xrb (by omega) (hb40))))⟩), fun _ h => absurd h List.not_mem_nil⟩))) rfl (hb348.get (by decide) (hb340.get (by decide) (hb332.get (by decide) (hb292.get (by decide) h82_328)))) rfl rfl rfl rfl rfl rfl (fun w357 hq358 => ?_)
          obtain ⟨hI359, hF360, hx361⟩ := hq358
          obtain ⟨hv362, hv363, hv364, hv365⟩ := hx361
          have hf366 := FA_fr hF360 (by decide)
          refine xg_t (xg_aload (va := (2, 82)) rfl rfl) ?_
          obtain ⟨f82_367, f82_369, f82_371, f82_373, f82_375, f82_377, f82_379, f82_381, f82_383, f82_385, f82_387, f82_388, f82_389, f82_391, f82_393, f82_395, h82_397, hb368, hb370, hb372, hb374, hb376, hb378, hb380, hb382, hb384, hb386, hb390, hb392, hb394, hb396, hb398⟩ := (hI359 82 (by decide) (by decide) : cp82 (wget w357 82))
          refine xg_t (xg_getf (va := (2, 113)) h82_397 rfl) ?_
          refine xg_t (xg_const) ?_
          refine xg_ialdB (n := 1) (B := 4294967295) (hr347.fr hF360 (by decide)) (xrb (by omega) (xrb (by omega) (xrb (by omega) (xrb (by omega) (hb40))))) xnm0 (by omega) (fun u399 hu400 he401 => ?_)
          refine xg_t (xg_bip) ?_
          by_cases hc402 : xbs 21 < xbs u399
          · have hc402u := hc402
            unfold xbs at hc402u
            have hn403 : u399 ≤ 2147483647 := by omega
            refine xg_t (xg_icT (u := u399) (v := 21) rfl xnm0 xnm0 (xjs_gtT hc402)) ?_
            refine xg_t (xg_blk (b := [(95, 1, 0, 0, 0, 0), (96, 3, 1, 12, 46, 102), (99, 1, 3, 2, 0, 0), (100, 1, 0, 0, 0, 0), (101, 3, 1, 12, 3, 174), (104, 1, 17, 0, 0, 0), (105, 1, 0, 0, 0, 0), (106, 3, 1, 12, 7, 151), (109, 1, 3, 2, 0, 0), (110, 3, 6, 131, 1, 0), (113, 1, 0, 0, 0, 0), (114, 3, 1, 12, 3, 174), (117, 2, 4, 58, 0, 0), (119, 3, 6, 131, 0, 0), (122, 1, 0, 0, 0, 0), (123, 3, 1, 12, 3, 174), (126, 2, 4, 59, 0, 0), (128, 3, 6, 136, 1, 0)]) rfl) ?_
            refine xg_t (xg_aload (va := (2, 82)) rfl rfl) ?_
            refine xg_t (xg_getf (va := (2, 113)) h82_397 rfl) ?_
            refine xg_t (xg_const) ?_
            refine xg_t (xg_aload (va := (2, 82)) rfl rfl) ?_
            refine xg_t (xg_getf (va := (0, f82_369)) h82_397 rfl) ?_
            refine xg_iastK (n := 2) (u := f82_369) (hr347.fr hF360 (by decide)) xnm0 xnm0 rfl (by omega) (fun w404 hr405 hb406 => ?_)
            have hf407 := FA_fr (xFr.of (S := [113]) hb406 (by decide)) (by decide)
            have hf408 := mu_fr (xFr.of (S := [113]) hb406 (by decide)) (by decide)
            have hf409 := fld_fr (c := 82) (j := 7) (xFr.of (S := [113]) hb406 (by decide)) (by decide)
            have hf410 := fld_fr (c := 82) (j := 10) (xFr.of (S := [113]) hb406 (by decide)) (by decide)
            have hf411 := fld_fr (c := 82) (j := 14) (xFr.of (S := [113]) hb406 (by decide)) (by decide)
            refine xg_t (xg_aload (va := (2, 82)) rfl rfl) ?_
            refine xg_t (xg_getf (va := (0, f82_377)) (hb406.get (by decide) h82_397) rfl) ?_
            refine xg_t (xg_const) ?_
            by_cases hc412 : f82_377 = 2
            · refine xg_t (xg_icF (u := f82_377) (v := 2) rfl xnm0 xnm0 (xj_neF hc412)) ?_
              refine xg_t (xg_aload (va := (2, 82)) rfl rfl) ?_
              refine xg_t (xg_getf (va := (0, f82_369)) (hb406.get (by decide) h82_397) rfl) ?_
              refine xg_t (xg_bip) ?_
              by_cases hc413 : f82_369 = 58
              · refine xg_t (xg_icT (u := f82_369) (v := 58) rfl xnm0 xnm0 (xj_eqT hc413)) ?_
                refine xg_t (xg_blk (b := [(131, 1, 0, 0, 0, 0), (132, 3, 13, 140, 96, 183), (135, 1, 12, 0, 0, 0)]) rfl) ?_
                refine xg_t (xg_aload (va := (2, 82)) rfl rfl) ?_
                refine xg_cVv mX12_ends (vs := []) (rest := []) (cn1 := 0) (sl1 := 0) rfl (mEnds (xMnv.up (S := [113]) hI359 (xFr.of (S := [113]) hb406 (by decide)) (List.forall_mem_cons.mpr ⟨(show cpI 4 80 4294967295 (wget w404 113) from ⟨_, hr405, xrb (by omega) (xrb (by omega) (xrb (by omega) (xrb (by omega) (xrb (by omega) (hb40)))))⟩), fun _ h => absurd h List.not_mem_nil⟩)) (show fld w404 82 10 = 0 ∨ FA w404 ≠ 0 by omega)) rfl (hb406.get (by decide) h82_397) rfl rfl rfl rfl rfl rfl (fun w414 hq415 => ?_)
                obtain ⟨hI416, hF417, hx418⟩ := hq415
                obtain ⟨hv419, hv420, hv421, hv422⟩ := hx418
                exact xg_e ⟨w414, ⟨rfl, rfl⟩, hI416, (((((hF44.up (by decide)).tr ((((xFr.of (S := [82, 83, 113]) hb292 (by decide)).tr (xFr.of (S := [82, 83, 113]) hb332 (by decide))).tr (xFr.of (S := [82, 83, 113]) hb340 (by decide))).tr (xFr.of (S := [82, 83, 113]) hb348 (by decide)))).tr (hF360.up (by decide))).tr (xFr.of (S := [82, 83, 113]) hb406 (by decide))).tr (hF417.up (by decide))), ⟨fun _ => by omega, by omega, by omega, (show fld w414 82 10 = 0 ∨ FA w414 ≠ 0 by omega)⟩⟩
              · refine xg_t (xg_icF (u := f82_369) (v := 58) rfl xnm0 xnm0 (xj_eqF hc413)) ?_
                refine xg_t (xg_aload (va := (2, 82)) rfl rfl) ?_
                refine xg_t (xg_getf (va := (0, f82_369)) (hb406.get (by decide) h82_397) rfl) ?_
                refine xg_t (xg_bip) ?_
                by_cases hc423 : f82_369 = 59
                · refine xg_t (xg_icF (u := f82_369) (v := 59) rfl xnm0 xnm0 (xj_neF hc423)) ?_
                  refine xg_t (xg_blk (b := [(131, 1, 0, 0, 0, 0), (132, 3, 13, 140, 96, 183), (135, 1, 12, 0, 0, 0)]) rfl) ?_
                  refine xg_t (xg_aload (va := (2, 82)) rfl rfl) ?_
                  refine xg_cVv mX12_ends (vs := []) (rest := []) (cn1 := 0) (sl1 := 0) rfl (mEnds (xMnv.up (S := [113]) hI359 (xFr.of (S := [113]) hb406 (by decide)) (List.forall_mem_cons.mpr ⟨(show cpI 4 80 4294967295 (wget w404 113) from ⟨_, hr405, xrb (by omega) (xrb (by omega) (xrb (by omega) (xrb (by omega) (xrb (by omega) (hb40)))))⟩), fun _ h => absurd h List.not_mem_nil⟩)) (show fld w404 82 10 = 0 ∨ FA w404 ≠ 0 by omega)) rfl (hb406.get (by decide) h82_397) rfl rfl rfl rfl rfl rfl (fun w424 hq425 => ?_)
                  obtain ⟨hI426, hF427, hx428⟩ := hq425
                  obtain ⟨hv429, hv430, hv431, hv432⟩ := hx428
                  exact xg_e ⟨w424, ⟨rfl, rfl⟩, hI426, (((((hF44.up (by decide)).tr ((((xFr.of (S := [82, 83, 113]) hb292 (by decide)).tr (xFr.of (S := [82, 83, 113]) hb332 (by decide))).tr (xFr.of (S := [82, 83, 113]) hb340 (by decide))).tr (xFr.of (S := [82, 83, 113]) hb348 (by decide)))).tr (hF360.up (by decide))).tr (xFr.of (S := [82, 83, 113]) hb406 (by decide))).tr (hF427.up (by decide))), ⟨fun _ => by omega, by omega, by omega, (show fld w424 82 10 = 0 ∨ FA w424 ≠ 0 by omega)⟩⟩
                · refine xg_t (xg_icT (u := f82_369) (v := 59) rfl xnm0 xnm0 (xj_neT hc423)) ?_
                  refine xg_t (xg_blk (b := [(136, 1, 0, 0, 0, 0), (137, 3, 13, 110, 96, 190), (140, 1, 0, 0, 0, 0), (141, 3, 1, 12, 46, 102), (144, 1, 3, 3, 0, 0), (145, 1, 0, 0, 0, 0), (146, 3, 13, 198, 96, 418), (149, 1, 17, 0, 0, 0), (150, 1, 12, 0, 0, 0)]) rfl) ?_
                  refine xg_t (xg_aload (va := (2, 82)) rfl rfl) ?_
                  refine xg_cVv mX12_advance (vs := []) (rest := []) (cn1 := 0) (sl1 := 0) rfl (mAdvance (xMnv.up (S := [113]) hI359 (xFr.of (S := [113]) hb406 (by decide)) (List.forall_mem_cons.mpr ⟨(show cpI 4 80 4294967295 (wget w404 113) from ⟨_, hr405, xrb (by omega) (xrb (by omega) (xrb (by omega) (xrb (by omega) (xrb (by omega) (hb40)))))⟩), fun _ h => absurd h List.not_mem_nil⟩))) rfl (hb406.get (by decide) h82_397) rfl rfl rfl rfl rfl rfl (fun w433 hq434 => ?_)
                  obtain ⟨hI435, hF436, hx437⟩ := hq434
                  obtain ⟨hv438, hv439, hv440, hv441⟩ := hx437
                  have hf442 := FA_fr hF436 (by decide)
                  refine xg_t (xg_aload (va := (2, 82)) rfl rfl) ?_
                  obtain ⟨f82_443, f82_445, f82_447, f82_449, f82_451, f82_453, f82_455, f82_457, f82_459, f82_461, f82_463, f82_464, f82_465, f82_467, f82_469, f82_471, h82_473, hb444, hb446, hb448, hb450, hb452, hb454, hb456, hb458, hb460, hb462, hb466, hb468, hb470, hb472, hb474⟩ := (hI435 82 (by decide) (by decide) : cp82 (wget w433 82))
                  refine xg_t (xg_getf (va := (2, 113)) h82_473 rfl) ?_
                  refine xg_t (xg_const) ?_
                  refine xg_t (xg_aload (va := (2, 82)) rfl rfl) ?_
                  refine xg_cVi mX12_numberNow (vs := []) (rest := [(0, 3), (2, 113)]) (cn1 := 0) (sl1 := 0) rfl (mNumberNow (hI435) (show fld w433 82 10 = 0 ∨ FA w433 ≠ 0 by omega)) rfl h82_473 rfl rfl rfl rfl rfl rfl (fun n479 w475 hq476 => ?_)
                  obtain ⟨hn480, hI477, hF478⟩ := hq476
                  obtain ⟨hn481, hn482⟩ := hn480
                  have hq483 := hn482
                  unfold PK PS at hq483
                  refine xg_iastK (n := 3) (u := n479) ((hr405.fr hF436 (by decide)).fr hF478 (by decide)) xnm0 xnm0 rfl (by omega) (fun w484 hr485 hb486 => ?_)
                  have hf487 := FA_fr (xFr.of (S := [113]) hb486 (by decide)) (by decide)
                  have hf488 := mu_fr (xFr.of (S := [113]) hb486 (by decide)) (by decide)
                  have hf489 := fld_fr (c := 82) (j := 7) (xFr.of (S := [113]) hb486 (by decide)) (by decide)
                  have hf490 := fld_fr (c := 82) (j := 10) (xFr.of (S := [113]) hb486 (by decide)) (by decide)
                  have hf491 := fld_fr (c := 82) (j := 14) (xFr.of (S := [113]) hb486 (by decide)) (by decide)
                  exact xg_e ⟨w484, ⟨rfl, rfl⟩, xMnv.up (S := [113]) hI477 (xFr.of (S := [113]) hb486 (by decide)) (List.forall_mem_cons.mpr ⟨(show cpI 4 80 4294967295 (wget w484 113) from ⟨_, hr485, xrb (by omega) (xrb (by omega) (xrb (by omega) (xrb (by omega) (xrb (by omega) (xrb (by omega) (hb40))))))⟩), fun _ h => absurd h List.not_mem_nil⟩), (((((((hF44.up (by decide)).tr ((((xFr.of (S := [82, 83, 113]) hb292 (by decide)).tr (xFr.of (S := [82, 83, 113]) hb332 (by decide))).tr (xFr.of (S := [82, 83, 113]) hb340 (by decide))).tr (xFr.of (S := [82, 83, 113]) hb348 (by decide)))).tr (hF360.up (by decide))).tr (xFr.of (S := [82, 83, 113]) hb406 (by decide))).tr (hF436.up (by decide))).tr (hF478.up (by decide))).tr (xFr.of (S := [82, 83, 113]) hb486 (by decide))), ⟨fun _ => by omega, by omega, by omega, (show fld w484 82 10 = 0 ∨ FA w484 ≠ 0 by omega)⟩⟩
            · refine xg_t (xg_icT (u := f82_377) (v := 2) rfl xnm0 xnm0 (xj_neT hc412)) ?_
              refine xg_t (xg_blk (b := [(131, 1, 0, 0, 0, 0), (132, 3, 13, 140, 96, 183), (135, 1, 12, 0, 0, 0)]) rfl) ?_
              refine xg_t (xg_aload (va := (2, 82)) rfl rfl) ?_
              refine xg_cVv mX12_ends (vs := []) (rest := []) (cn1 := 0) (sl1 := 0) rfl (mEnds (xMnv.up (S := [113]) hI359 (xFr.of (S := [113]) hb406 (by decide)) (List.forall_mem_cons.mpr ⟨(show cpI 4 80 4294967295 (wget w404 113) from ⟨_, hr405, xrb (by omega) (xrb (by omega) (xrb (by omega) (xrb (by omega) (xrb (by omega) (hb40)))))⟩), fun _ h => absurd h List.not_mem_nil⟩)) (show fld w404 82 10 = 0 ∨ FA w404 ≠ 0 by omega)) rfl (hb406.get (by decide) h82_397) rfl rfl rfl rfl rfl rfl (fun w492 hq493 => ?_)
              obtain ⟨hI494, hF495, hx496⟩ := hq493
              obtain ⟨hv497, hv498, hv499, hv500⟩ := hx496
              exact xg_e ⟨w492, ⟨rfl, rfl⟩, hI494, (((((hF44.up (by decide)).tr ((((xFr.of (S := [82, 83, 113]) hb292 (by decide)).tr (xFr.of (S := [82, 83, 113]) hb332 (by decide))).tr (xFr.of (S := [82, 83, 113]) hb340 (by decide))).tr (xFr.of (S := [82, 83, 113]) hb348 (by decide)))).tr (hF360.up (by decide))).tr (xFr.of (S := [82, 83, 113]) hb406 (by decide))).tr (hF495.up (by decide))), ⟨fun _ => by omega, by omega, by omega, (show fld w492 82 10 = 0 ∨ FA w492 ≠ 0 by omega)⟩⟩
          · have hc402u := hc402
            unfold xbs at hc402u
            refine xg_t (xg_icF (u := u399) (v := 21) rfl xnm0 xnm0 (xjs_gtF hc402)) ?_
            exact xg_e ⟨w357, ⟨rfl, rfl⟩, hI359, (((hF44.up (by decide)).tr ((((xFr.of (S := [82, 83, 113]) hb292 (by decide)).tr (xFr.of (S := [82, 83, 113]) hb332 (by decide))).tr (xFr.of (S := [82, 83, 113]) hb340 (by decide))).tr (xFr.of (S := [82, 83, 113]) hb348 (by decide)))).tr (hF360.up (by decide))), ⟨fun _ => by omega, by omega, by omega, (show fld w357 82 10 = 0 ∨ FA w357 ≠ 0 by omega)⟩⟩
        · refine xg_t (xg_ifF (u := (if 20 ≤ f82_312 ∧ f82_312 ≤ 30 then 1 else 0)) rfl xnm0 (xj_neF (xite0 hc356))) ?_
          refine xg_t (xg_blk (b := [(74, 1, 0, 0, 0, 0), (75, 3, 13, 140, 96, 183), (78, 1, 12, 0, 0, 0)]) rfl) ?_
          refine xg_t (xg_aload (va := (2, 82)) rfl rfl) ?_
          refine xg_cVv mX12_ends (vs := []) (rest := []) (cn1 := 0) (sl1 := 0) rfl (mEnds (xMnv.up (S := [113]) hI43 ((((xFr.of (S := [113]) hb292 (by decide)).tr (xFr.of (S := [113]) hb332 (by decide))).tr (xFr.of (S := [113]) hb340 (by decide))).tr (xFr.of (S := [113]) hb348 (by decide))) (List.forall_mem_cons.mpr ⟨(show cpI 4 80 4294967295 (wget w346 113) from ⟨_, hr347, xrb (by omega) (xrb (by omega) (xrb (by omega) (xrb (by omega) (hb40))))⟩), fun _ h => absurd h List.not_mem_nil⟩)) (show fld w346 82 10 = 0 ∨ FA w346 ≠ 0 by omega)) rfl (hb348.get (by decide) (hb340.get (by decide) (hb332.get (by decide) (hb292.get (by decide) h82_328)))) rfl rfl rfl rfl rfl rfl (fun w501 hq502 => ?_)
          obtain ⟨hI503, hF504, hx505⟩ := hq502
          obtain ⟨hv506, hv507, hv508, hv509⟩ := hx505
          exact xg_e ⟨w501, ⟨rfl, rfl⟩, hI503, (((hF44.up (by decide)).tr ((((xFr.of (S := [82, 83, 113]) hb292 (by decide)).tr (xFr.of (S := [82, 83, 113]) hb332 (by decide))).tr (xFr.of (S := [82, 83, 113]) hb340 (by decide))).tr (xFr.of (S := [82, 83, 113]) hb348 (by decide)))).tr (hF504.up (by decide))), ⟨fun _ => by omega, by omega, by omega, (show fld w501 82 10 = 0 ∨ FA w501 ≠ 0 by omega)⟩⟩
      · refine xg_t (xg_icT (u := f82_308) (v := 3) rfl xnm0 xnm0 (xj_neT hc355)) ?_
        refine xg_t (xg_blk (b := [(74, 1, 0, 0, 0, 0), (75, 3, 13, 140, 96, 183), (78, 1, 12, 0, 0, 0)]) rfl) ?_
        refine xg_t (xg_aload (va := (2, 82)) rfl rfl) ?_
        refine xg_cVv mX12_ends (vs := []) (rest := []) (cn1 := 0) (sl1 := 0) rfl (mEnds (xMnv.up (S := [113]) hI43 ((((xFr.of (S := [113]) hb292 (by decide)).tr (xFr.of (S := [113]) hb332 (by decide))).tr (xFr.of (S := [113]) hb340 (by decide))).tr (xFr.of (S := [113]) hb348 (by decide))) (List.forall_mem_cons.mpr ⟨(show cpI 4 80 4294967295 (wget w346 113) from ⟨_, hr347, xrb (by omega) (xrb (by omega) (xrb (by omega) (xrb (by omega) (hb40))))⟩), fun _ h => absurd h List.not_mem_nil⟩)) (show fld w346 82 10 = 0 ∨ FA w346 ≠ 0 by omega)) rfl (hb348.get (by decide) (hb340.get (by decide) (hb332.get (by decide) (hb292.get (by decide) h82_328)))) rfl rfl rfl rfl rfl rfl (fun w510 hq511 => ?_)
        obtain ⟨hI512, hF513, hx514⟩ := hq511
        obtain ⟨hv515, hv516, hv517, hv518⟩ := hx514
        exact xg_e ⟨w510, ⟨rfl, rfl⟩, hI512, (((hF44.up (by decide)).tr ((((xFr.of (S := [82, 83, 113]) hb292 (by decide)).tr (xFr.of (S := [82, 83, 113]) hb332 (by decide))).tr (xFr.of (S := [82, 83, 113]) hb340 (by decide))).tr (xFr.of (S := [82, 83, 113]) hb348 (by decide)))).tr (hF513.up (by decide))), ⟨fun _ => by omega, by omega, by omega, (show fld w510 82 10 = 0 ∨ FA w510 ≠ 0 by omega)⟩⟩
    · refine xg_t (xg_ifT (u := f82_314) rfl xnm0 (xj_neT hc354)) ?_
      refine xg_t (xg_blk (b := [(74, 1, 0, 0, 0, 0), (75, 3, 13, 140, 96, 183), (78, 1, 12, 0, 0, 0)]) rfl) ?_
      refine xg_t (xg_aload (va := (2, 82)) rfl rfl) ?_
      refine xg_cVv mX12_ends (vs := []) (rest := []) (cn1 := 0) (sl1 := 0) rfl (mEnds (xMnv.up (S := [113]) hI43 ((((xFr.of (S := [113]) hb292 (by decide)).tr (xFr.of (S := [113]) hb332 (by decide))).tr (xFr.of (S := [113]) hb340 (by decide))).tr (xFr.of (S := [113]) hb348 (by decide))) (List.forall_mem_cons.mpr ⟨(show cpI 4 80 4294967295 (wget w346 113) from ⟨_, hr347, xrb (by omega) (xrb (by omega) (xrb (by omega) (xrb (by omega) (hb40))))⟩), fun _ h => absurd h List.not_mem_nil⟩)) (show fld w346 82 10 = 0 ∨ FA w346 ≠ 0 by omega)) rfl (hb348.get (by decide) (hb340.get (by decide) (hb332.get (by decide) (hb292.get (by decide) h82_328)))) rfl rfl rfl rfl rfl rfl (fun w519 hq520 => ?_)
      obtain ⟨hI521, hF522, hx523⟩ := hq520
      obtain ⟨hv524, hv525, hv526, hv527⟩ := hx523
      exact xg_e ⟨w519, ⟨rfl, rfl⟩, hI521, (((hF44.up (by decide)).tr ((((xFr.of (S := [82, 83, 113]) hb292 (by decide)).tr (xFr.of (S := [82, 83, 113]) hb332 (by decide))).tr (xFr.of (S := [82, 83, 113]) hb340 (by decide))).tr (xFr.of (S := [82, 83, 113]) hb348 (by decide)))).tr (hF522.up (by decide))), ⟨fun _ => by omega, by omega, by omega, (show fld w519 82 10 = 0 ∨ FA w519 ≠ 0 by omega)⟩⟩
theorem mRulePuts {kk va : Nat} (hI : xMnv w) (hkk : kk ≤ 19) (hva : va ≤ 4294967295) (hln : fld w 82 14 ≤ 2000) : xPq d mX12_rulePuts [(2, 82), (0, kk), (0, va)] w bd fc rr [] (fun w' => xMnv w' ∧ xFr [112] w w' ∧ (∀ j, j < 320 → ((fld w 82 14 < 16 ∧ j = 20 * fld w 82 14 + kk) → rwv w' 112 j = va) ∧ (¬ (j = 20 * fld w 82 14 + kk) → rwv w' 112 j = rwv w 112 j))) := by
  refine xPq.of ?_
  show xTo d mX12_rulePuts (0, [], [(0, (2, 82)), (1, (0, kk)), (2, (0, va))], [], (w, bd, fc, 0, 0, rr)) (fun φ => ∃ w', xEnd 0 [] (w', bd, fc, 0, 0, rr) φ ∧ xMnv w' ∧ xFr [112] w w' ∧ (∀ j, j < 320 → ((fld w 82 14 < 16 ∧ j = 20 * fld w 82 14 + kk) → rwv w' 112 j = va) ∧ (¬ (j = 20 * fld w 82 14 + kk) → rwv w' 112 j = rwv w 112 j)))
  obtain ⟨f82_1, f82_3, f82_5, f82_7, f82_9, f82_11, f82_13, f82_15, f82_17, f82_19, f82_21, f82_22, f82_23, f82_25, f82_27, f82_29, h82_31, hb2, hb4, hb6, hb8, hb10, hb12, hb14, hb16, hb18, hb20, hb24, hb26, hb28, hb30, hb32⟩ := (hI 82 (by decide) (by decide) : cp82 (wget w 82))
  obtain ⟨g112_33, h112_34, hb35⟩ := (hI 112 (by decide) (by decide) : cpI 320 79 4294967295 (wget w 112))
  have h112_34 : xRow w 112 320 79 g112_33 := h112_34
  have hf36 : fld w 82 14 = f82_19 := fld_of h82_31
  have hl37 : f82_19 ≤ 2000 := by omega
  refine xg_t (xg_blk (b := [(0, 1, 0, 0, 0, 0), (1, 3, 1, 12, 14, 212), (4, 2, 4, 16, 0, 0), (6, 3, 6, 24, 3, 0), (9, 1, 0, 0, 0, 0), (10, 3, 1, 12, 45, 99), (13, 2, 4, 20, 0, 0), (15, 1, 0, 0, 0, 0), (16, 3, 1, 12, 14, 212), (19, 1, 16, 0, 0, 0), (20, 1, 2, 1, 0, 0), (21, 1, 11, 0, 0, 0), (22, 1, 2, 2, 0, 0), (23, 1, 17, 0, 0, 0)]) rfl) ?_
  refine xg_t (xg_aload (va := (2, 82)) rfl rfl) ?_
  refine xg_t (xg_getf (va := (0, f82_19)) h82_31 rfl) ?_
  refine xg_t (xg_bip) ?_
  by_cases hc38 : f82_19 < 16
  · refine xg_t (xg_icF (u := f82_19) (v := 16) rfl xnm0 xnm0 (xj_geF hc38 (by omega))) ?_
    refine xg_t (xg_aload (va := (2, 82)) rfl rfl) ?_
    refine xg_t (xg_getf (va := (2, 112)) h82_31 rfl) ?_
    refine xg_t (xg_bip) ?_
    refine xg_t (xg_aload (va := (2, 82)) rfl rfl) ?_
    refine xg_t (xg_getf (va := (0, f82_19)) h82_31 rfl) ?_
    refine xg_t (xg_imul (u := 20) (v := f82_19) (z := 20 * f82_19) xnm0 xnm0 (by omega)) ?_
    refine xg_t (xg_iload (va := (0, kk)) rfl rfl) ?_
    refine xg_t (xg_iadd (u := 20 * f82_19) (v := kk) (z := (20 * f82_19) + kk) xnm0 xnm0 (by omega)) ?_
    refine xg_t (xg_iload (va := (0, va)) rfl rfl) ?_
    refine xg_iastK (n := (20 * f82_19) + kk) (u := va) h112_34 xnm0 xnm0 rfl (by omega) (fun w39 hr40 hb41 => ?_)
    refine xg_t (xg_blk (b := [(24, 1, 12, 0, 0, 0)]) rfl) ?_
    exact xg_e ⟨w39, ⟨rfl, rfl⟩, xMnv.up (S := [112]) hI (xFr.of (S := [112]) hb41 (by decide)) (List.forall_mem_cons.mpr ⟨(show cpI 320 79 4294967295 (wget w39 112) from ⟨_, hr40, xrb (by omega) (hb35)⟩), fun _ h => absurd h List.not_mem_nil⟩), (xFr.of (S := [112]) hb41 (by decide)), fun j hj => ⟨fun h => (rwv_of hr40 hj).trans (if_pos (show j = (20 * f82_19) + kk by omega)), fun h => (rwv_of hr40 hj).trans ((if_neg (show ¬ j = (20 * f82_19) + kk by omega)).trans (rwv_of h112_34 hj).symm)⟩⟩
  · refine xg_t (xg_icT (u := f82_19) (v := 16) rfl xnm0 xnm0 (xj_geT (by omega) (by omega))) ?_
    refine xg_t (xg_blk (b := [(24, 1, 12, 0, 0, 0)]) rfl) ?_
    exact xg_e ⟨w, ⟨rfl, rfl⟩, hI, xFr.rf, fun j hj => ⟨fun h => absurd h.1 (by omega), fun _ => rfl⟩⟩
set_option maxHeartbeats 60000000 in
theorem mARule (hI : xMnv w) (hps : PS w) (hln : fld w 82 14 ≤ 1000) (hmu : mu w ≤ 1001) : xPq (d + 7) mX12_aRule [(2, 82)] w bd fc rr [] (fun w' => xMnv w' ∧ xFr [82, 83, 112, 113] w w' ∧ ((FA w ≠ 0 → FA w' ≠ 0) ∧ PS w' ∧ ((fld w' 82 10 = 1 ∧ mu w' ≤ mu w ∧ fld w' 82 14 = fld w 82 14) ∨ (mu w' < mu w ∧ fld w' 82 14 = fld w 82 14 + 1)) ∧ (FA w' ≠ 0 ∨ (RD w → RD w')))) := by
  refine xPq.of ?_
  show xTo (d + 7) mX12_aRule (0, [], [(0, (2, 82))], [], (w, bd, fc, 0, 0, rr)) (fun φ => ∃ w', xEnd 0 [] (w', bd, fc, 0, 0, rr) φ ∧ xMnv w' ∧ xFr [82, 83, 112, 113] w w' ∧ ((FA w ≠ 0 → FA w' ≠ 0) ∧ PS w' ∧ ((fld w' 82 10 = 1 ∧ mu w' ≤ mu w ∧ fld w' 82 14 = fld w 82 14) ∨ (mu w' < mu w ∧ fld w' 82 14 = fld w 82 14 + 1)) ∧ (FA w' ≠ 0 ∨ (RD w → RD w'))))
  obtain ⟨f82_1, f82_3, f82_5, f82_7, f82_9, f82_11, f82_13, f82_15, f82_17, f82_19, f82_21, f82_22, f82_23, f82_25, f82_27, f82_29, h82_31, hb2, hb4, hb6, hb8, hb10, hb12, hb14, hb16, hb18, hb20, hb24, hb26, hb28, hb30, hb32⟩ := (hI 82 (by decide) (by decide) : cp82 (wget w 82))
  have hf33 : fld w 82 4 = f82_5 := fld_of h82_31
  have hf34 : fld w 82 5 = f82_7 := fld_of h82_31
  have hf35 : fld w 82 7 = f82_11 := fld_of h82_31
  have hf36 : fld w 82 10 = f82_17 := fld_of h82_31
  have hf37 : fld w 82 14 = f82_19 := fld_of h82_31
  have hps_ : fld w 82 10 = 0 ∨ FA w ≠ 0 := hps
  obtain ⟨g113_38, h113_39, hb40⟩ := (hI 113 (by decide) (by decide) : cpI 4 80 4294967295 (wget w 113))
  have h113_39 : xRow w 113 4 80 g113_38 := h113_39
  have hl41 : f82_19 ≤ 1000 := by omega
  refine xg_t (xg_blk (b := [(0, 1, 0, 0, 0, 0), (1, 3, 1, 12, 14, 212), (4, 2, 4, 16, 0, 0), (6, 3, 6, 18, 2, 0), (9, 1, 0, 0, 0, 0), (10, 1, 3, 3, 0, 0), (11, 1, 0, 0, 0, 0), (12, 3, 1, 12, 6, 148), (15, 3, 13, 115, 96, 186)]) rfl) ?_
  refine xg_t (xg_aload (va := (2, 82)) rfl rfl) ?_
  refine xg_t (xg_getf (va := (0, f82_19)) h82_31 rfl) ?_
  refine xg_t (xg_bip) ?_
  by_cases hc42 : f82_19 < 16
  · refine xg_t (xg_icT (u := f82_19) (v := 16) rfl xnm0 xnm0 (xj_ltT hc42 (by omega))) ?_
    refine xg_t (xg_blk (b := [(18, 1, 3, 0, 0, 0), (19, 1, 15, 1, 0, 0), (20, 1, 0, 0, 0, 0), (21, 2, 4, 50, 0, 0), (23, 3, 13, 227, 96, 415), (26, 3, 7, 107, 0, 0), (29, 1, 3, 1, 0, 0), (30, 1, 15, 2, 0, 0)]) rfl) ?_
    refine xg_t (xg_const) ?_
    refine xg_t (xg_istore (l1 := [(0, (2, 82))]) rfl rfl rfl) ?_
    refine xg_t (xg_aload (va := (2, 82)) rfl rfl) ?_
    refine xg_t (xg_bip) ?_
    refine xg_cVi mX12_takes (vs := [(0, 50)]) (rest := []) (cn1 := 0) (sl1 := 0) rfl (mTakes (hI) (by omega) (PK.rf hps).2.2.2) rfl h82_31 rfl rfl rfl rfl rfl rfl (fun n47 w43 hq44 => ?_)
    obtain ⟨hn48, hI45, hF46⟩ := hq44
    obtain ⟨hn49, hn50, hn51⟩ := hn48
    have pk52 : PK w w43 := PK.tr (PK.rf hps) hn50
    have ro53 : ∀ l, l < fld w 82 14 → l < 16 → rwv w43 112 (20 * l) = rwv w 112 (20 * l) := fun l hl h6 => (rwv_fr hF46 (by decide)).trans ((fun l _ _ => rfl) l hl h6)
    have hq54 := pk52
    unfold PK PS at hq54
    by_cases hc55 : n47 = 0
    · refine xg_t (xg_ifT (u := n47) rfl xnm0 (xj_eqT hc55)) ?_
      refine xg_t (xg_blk (b := [(107, 1, 0, 0, 0, 0), (108, 3, 1, 12, 10, 180), (111, 3, 7, 136, 1, 0), (114, 1, 0, 0, 0, 0), (115, 3, 1, 12, 7, 151), (118, 1, 3, 3, 0, 0), (119, 3, 6, 136, 1, 0), (122, 1, 0, 0, 0, 0), (123, 3, 1, 12, 9, 165), (126, 2, 4, 40, 0, 0), (128, 2, 4, 42, 0, 0), (130, 3, 13, 161, 98, 105), (133, 3, 7, 141, 1, 0)]) rfl) ?_
      refine xg_t (xg_aload (va := (2, 82)) rfl rfl) ?_
      obtain ⟨f82_56, f82_58, f82_60, f82_62, f82_64, f82_66, f82_68, f82_70, f82_72, f82_74, f82_76, f82_77, f82_78, f82_80, f82_82, f82_84, h82_86, hb57, hb59, hb61, hb63, hb65, hb67, hb69, hb71, hb73, hb75, hb79, hb81, hb83, hb85, hb87⟩ := (hI45 82 (by decide) (by decide) : cp82 (wget w43 82))
      refine xg_t (xg_getf (va := (0, f82_72)) h82_86 rfl) ?_
      by_cases hc88 : f82_72 = 0
      · refine xg_t (xg_ifF (u := f82_72) rfl xnm0 (xj_neF hc88)) ?_
        refine xg_t (xg_aload (va := (2, 82)) rfl rfl) ?_
        refine xg_t (xg_getf (va := (0, f82_66)) h82_86 rfl) ?_
        refine xg_t (xg_const) ?_
        by_cases hc89 : f82_66 = 3
        · refine xg_t (xg_icF (u := f82_66) (v := 3) rfl xnm0 xnm0 (xj_neF hc89)) ?_
          refine xg_t (xg_aload (va := (2, 82)) rfl rfl) ?_
          refine xg_t (xg_getf (va := (0, f82_70)) h82_86 rfl) ?_
          refine xg_t (xg_bip) ?_
          refine xg_t (xg_bip) ?_
          refine xg_t (xg_cSr mX12_isIn (vs := [(0, f82_70), (0, 40), (0, 42)]) (rest := []) (rs := [(0, if 40 ≤ f82_70 ∧ f82_70 ≤ 42 then 1 else 0)]) (cn1 := 0) (sl1 := 0) rfl (mIsIn (by omega) (by omega) (by omega)) rfl rfl rfl rfl rfl rfl rfl rfl) ?_
          by_cases hc90 : 40 ≤ f82_70 ∧ f82_70 ≤ 42
          · refine xg_t (xg_ifT (u := (if 40 ≤ f82_70 ∧ f82_70 ≤ 42 then 1 else 0)) rfl xnm0 (xj_neT (xite1 hc90))) ?_
            refine xg_t (xg_blk (b := [(141, 1, 0, 0, 0, 0), (142, 3, 1, 12, 9, 165), (145, 1, 15, 2, 0, 0), (146, 1, 0, 0, 0, 0), (147, 3, 13, 110, 96, 190), (150, 1, 2, 2, 0, 0), (151, 2, 4, 40, 0, 0), (153, 3, 6, 160, 1, 0), (156, 1, 3, 0, 0, 0), (157, 3, 8, 164, 0, 0)]) rfl) ?_
            refine xg_t (xg_aload (va := (2, 82)) rfl rfl) ?_
            refine xg_t (xg_getf (va := (0, f82_70)) h82_86 rfl) ?_
            refine xg_t (xg_istore (l1 := [(1, (0, 0)), (0, (2, 82))]) rfl rfl rfl) ?_
            refine xg_t (xg_aload (va := (2, 82)) rfl rfl) ?_
            have hf91 : fld w43 82 7 = f82_66 := fld_of h82_86
            refine xg_cVv mX12_advance (vs := []) (rest := []) (cn1 := 0) (sl1 := 0) rfl (mAdvance (hI45)) rfl h82_86 rfl rfl rfl rfl rfl rfl (fun w92 hq93 => ?_)
            obtain ⟨hI94, hF95, hx96⟩ := hq93
            obtain ⟨hv97, hv98, hv99, hv100⟩ := hx96
            have hf101 := FA_fr hF95 (by decide)
            have pk102 : PK w43 w92 := ⟨fun _ => by omega, hv97, hv100, (show fld w92 82 10 = 0 ∨ FA w92 ≠ 0 by omega)⟩
            have pk103 : PK w w92 := PK.tr pk52 pk102
            have ro104 : ∀ l, l < fld w 82 14 → l < 16 → rwv w92 112 (20 * l) = rwv w 112 (20 * l) := fun l hl h6 => (rwv_fr hF95 (by decide)).trans (ro53 l hl h6)
            have hq105 := pk103
            unfold PK PS at hq105
            clear hq54
            have ms106 : mu w92 < mu w := Nat.lt_of_lt_of_le (hv98 (by omega)) pk52.2.1
            refine xg_t (xg_iload (va := (0, f82_70)) rfl rfl) ?_
            refine xg_t (xg_bip) ?_
            by_cases hc107 : f82_70 = 40
            · refine xg_t (xg_icF (u := f82_70) (v := 40) rfl xnm0 xnm0 (xj_neF hc107)) ?_
              refine xg_t (xg_const) ?_
              refine xg_t (xg_goto) ?_
              refine xg_t (xg_blk (b := [(164, 1, 15, 3, 0, 0), (165, 1, 0, 0, 0, 0), (166, 2, 4, 59, 0, 0), (168, 3, 13, 195, 96, 427), (171, 1, 0, 0, 0, 0), (172, 1, 3, 0, 0, 0), (173, 1, 2, 1, 0, 0), (174, 3, 13, 214, 96, 424), (177, 1, 0, 0, 0, 0), (178, 2, 4, 17, 0, 0), (180, 1, 2, 2, 0, 0), (181, 3, 13, 214, 96, 424), (184, 1, 0, 0, 0, 0), (185, 2, 4, 18, 0, 0), (187, 1, 2, 3, 0, 0), (188, 3, 13, 214, 96, 424), (191, 1, 0, 0, 0, 0), (192, 1, 19, 0, 0, 0), (193, 3, 1, 12, 14, 212), (196, 1, 3, 1, 0, 0), (197, 1, 11, 0, 0, 0), (198, 3, 14, 12, 14, 212), (201, 1, 12, 0, 0, 0)]) rfl) ?_
              refine xg_t (xg_istore (l1 := [(2, (0, f82_70)), (1, (0, 0)), (0, (2, 82))]) rfl rfl rfl) ?_
              refine xg_t (xg_aload (va := (2, 82)) rfl rfl) ?_
              refine xg_t (xg_bip) ?_
              obtain ⟨f82_108, f82_110, f82_112, f82_114, f82_116, f82_118, f82_120, f82_122, f82_124, f82_126, f82_128, f82_129, f82_130, f82_132, f82_134, f82_136, h82_138, hb109, hb111, hb113, hb115, hb117, hb119, hb121, hb123, hb125, hb127, hb131, hb133, hb135, hb137, hb139⟩ := (hI94 82 (by decide) (by decide) : cp82 (wget w92 82))
              refine xg_cVv mX12_must (vs := [(0, 59)]) (rest := []) (cn1 := 0) (sl1 := 0) rfl (mMust (hI94) (by omega) pk103.2.2.2) rfl h82_138 rfl rfl rfl rfl rfl rfl (fun w140 hq141 => ?_)
              obtain ⟨hI142, hF143, hx144⟩ := hq141
              have pk145 : PK w w140 := PK.tr pk103 hx144
              have ro146 : ∀ l, l < fld w 82 14 → l < 16 → rwv w140 112 (20 * l) = rwv w 112 (20 * l) := fun l hl h6 => (rwv_fr hF143 (by decide)).trans (ro104 l hl h6)
              have hq147 := pk145
              unfold PK PS at hq147
              clear hq105
              have ms148 : mu w140 < mu w := Nat.lt_of_le_of_lt hx144.2.1 ms106
              refine xg_t (xg_aload (va := (2, 82)) rfl rfl) ?_
              refine xg_t (xg_const) ?_
              refine xg_t (xg_iload (va := (0, 0)) rfl rfl) ?_
              have hl149 : fld w140 82 14 ≤ 2000 := by omega
              obtain ⟨f82_150, f82_152, f82_154, f82_156, f82_158, f82_160, f82_162, f82_164, f82_166, f82_168, f82_170, f82_171, f82_172, f82_174, f82_176, f82_178, h82_180, hb151, hb153, hb155, hb157, hb159, hb161, hb163, hb165, hb167, hb169, hb173, hb175, hb177, hb179, hb181⟩ := (hI142 82 (by decide) (by decide) : cp82 (wget w140 82))
              refine xg_cVv mX12_rulePuts (vs := [(0, 0), (0, 0)]) (rest := []) (cn1 := 0) (sl1 := 0) rfl (mRulePuts (hI142) (by omega) (by omega) (by omega)) rfl h82_180 rfl rfl rfl rfl rfl rfl (fun w182 hq183 => ?_)
              obtain ⟨hI184, hF185, hx186⟩ := hq183
              have hx187 := hx186
              have pk188 : PK w w182 := PK.tr pk145 (PK.fr hF185 (by decide) (by decide) pk145.2.2.2)
              have ro189 : ∀ l, l < fld w 82 14 → l < 16 → rwv w182 112 (20 * l) = rwv w 112 (20 * l) := fun l hl h6 => ((hx187 _ (by omega)).2 (by omega)).trans (ro146 l hl h6)
              have hq190 := pk188
              unfold PK PS at hq190
              clear hq147
              have ms191 : mu w182 < mu w := Nat.lt_of_le_of_lt (PK.fr hF185 (by decide) (by decide) pk145.2.2.2).2.1 ms148
              have rz192 : fld w 82 14 < 16 → rwv w182 112 (20 * fld w 82 14) = 0 := fun h6 => (hx187 _ (by omega)).1 ⟨by omega, by omega⟩
              refine xg_t (xg_aload (va := (2, 82)) rfl rfl) ?_
              refine xg_t (xg_bip) ?_
              refine xg_t (xg_iload (va := (0, f82_70)) rfl rfl) ?_
              have hl193 : fld w182 82 14 ≤ 2000 := by omega
              refine xg_cVv mX12_rulePuts (vs := [(0, 17), (0, f82_70)]) (rest := []) (cn1 := 0) (sl1 := 0) rfl (mRulePuts (hI184) (by omega) (by omega) (by omega)) rfl (hF185.get (by decide) h82_180) rfl rfl rfl rfl rfl rfl (fun w194 hq195 => ?_)
              obtain ⟨hI196, hF197, hx198⟩ := hq195
              have hx199 := hx198
              have pk200 : PK w w194 := PK.tr pk188 (PK.fr hF197 (by decide) (by decide) pk188.2.2.2)
              have ro201 : ∀ l, l < fld w 82 14 → l < 16 → rwv w194 112 (20 * l) = rwv w 112 (20 * l) := fun l hl h6 => ((hx199 _ (by omega)).2 (by omega)).trans (ro189 l hl h6)
              have hq202 := pk200
              unfold PK PS at hq202
              clear hq190
              have ms203 : mu w194 < mu w := Nat.lt_of_le_of_lt (PK.fr hF197 (by decide) (by decide) pk188.2.2.2).2.1 ms191
              have rz204 : fld w 82 14 < 16 → rwv w194 112 (20 * fld w 82 14) = 0 := fun h6 => ((hx199 _ (by omega)).2 (by omega)).trans (rz192 h6)
              refine xg_t (xg_aload (va := (2, 82)) rfl rfl) ?_
              refine xg_t (xg_bip) ?_
              refine xg_t (xg_iload (va := (0, 0)) rfl rfl) ?_
              have hl205 : fld w194 82 14 ≤ 2000 := by omega
              refine xg_cVv mX12_rulePuts (vs := [(0, 18), (0, 0)]) (rest := []) (cn1 := 0) (sl1 := 0) rfl (mRulePuts (hI196) (by omega) (by omega) (by omega)) rfl (hF197.get (by decide) (hF185.get (by decide) h82_180)) rfl rfl rfl rfl rfl rfl (fun w206 hq207 => ?_)
              obtain ⟨hI208, hF209, hx210⟩ := hq207
              have hx211 := hx210
              have pk212 : PK w w206 := PK.tr pk200 (PK.fr hF209 (by decide) (by decide) pk200.2.2.2)
              have ro213 : ∀ l, l < fld w 82 14 → l < 16 → rwv w206 112 (20 * l) = rwv w 112 (20 * l) := fun l hl h6 => ((hx211 _ (by omega)).2 (by omega)).trans (ro201 l hl h6)
              have hq214 := pk212
              unfold PK PS at hq214
              clear hq202
              have ms215 : mu w206 < mu w := Nat.lt_of_le_of_lt (PK.fr hF209 (by decide) (by decide) pk200.2.2.2).2.1 ms203
              have rz216 : fld w 82 14 < 16 → rwv w206 112 (20 * fld w 82 14) = 0 := fun h6 => ((hx211 _ (by omega)).2 (by omega)).trans (rz204 h6)
              have hf217 : fld w206 82 4 = f82_154 := fld_of (hF209.get (by decide) (hF197.get (by decide) (hF185.get (by decide) h82_180)))
              have hf218 : fld w206 82 5 = f82_156 := fld_of (hF209.get (by decide) (hF197.get (by decide) (hF185.get (by decide) h82_180)))
              have hf219 : fld w206 82 7 = f82_160 := fld_of (hF209.get (by decide) (hF197.get (by decide) (hF185.get (by decide) h82_180)))
              have hf220 : fld w206 82 10 = f82_166 := fld_of (hF209.get (by decide) (hF197.get (by decide) (hF185.get (by decide) h82_180)))
              have hf221 : fld w206 82 14 = f82_168 := fld_of (hF209.get (by decide) (hF197.get (by decide) (hF185.get (by decide) h82_180)))
              have hu222 : mu w206 = 2 * (fld w206 82 4 - fld w206 82 5) + min 1 (fld w206 82 7) := rfl
              have hl223 : f82_168 ≤ 1001 := by omega
              refine xg_t (xg_aload (va := (2, 82)) rfl rfl) ?_
              refine xg_t (xg_dup rfl) ?_
              refine xg_t (xg_getf (va := (0, f82_168)) (hF209.get (by decide) (hF197.get (by decide) (hF185.get (by decide) h82_180))) rfl) ?_
              refine xg_t (xg_const) ?_
              refine xg_t (xg_iadd (u := f82_168) (v := 1) (z := f82_168 + 1) xnm0 xnm0 (by omega)) ?_
              refine xg_putI (fl1 := [(2, 83), (2, 84), (0, f82_150), (0, f82_152), (0, f82_154), (0, f82_156), (0, f82_158), (0, f82_160), (0, f82_162), (0, f82_164), (0, f82_166), (2, 85), (2, 86), (2, 87), (0, f82_168 + 1), (2, 88), (2, 89), (2, 90), (2, 91), (2, 92), (2, 93), (2, 94), (4, f82_170), (4, f82_171), (0, f82_172), (2, 95), (2, 96), (2, 97), (2, 98), (2, 99), (2, 100), (2, 101), (2, 102), (0, f82_174), (2, 103), (2, 104), (2, 105), (2, 106), (2, 107), (2, 108), (2, 109), (0, f82_176), (0, f82_178), (2, 110), (2, 111), (2, 112), (2, 113)]) (hF209.get (by decide) (hF197.get (by decide) (hF185.get (by decide) h82_180))) rfl rfl rfl (fun w224 hk225 hb226 => ?_)
              have hF227 : xFr [82] w206 w224 := xFr.of hb226 (by decide)
              have hA228 := FA_fr hF227 (by decide)
              have hf229 : fld w224 82 4 = f82_154 := fld_of hk225
              have hf230 : fld w224 82 5 = f82_156 := fld_of hk225
              have hf231 : fld w224 82 7 = f82_160 := fld_of hk225
              have hf232 : fld w224 82 10 = f82_166 := fld_of hk225
              have hf233 : fld w224 82 14 = f82_168 + 1 := fld_of hk225
              have hu234 : mu w224 = 2 * (fld w224 82 4 - fld w224 82 5) + min 1 (fld w224 82 7) := rfl
              have hD235 : FA w224 ≠ 0 ∨ (RD w → RD w224) := by
                by_cases z : FA w224 ≠ 0
                · exact Or.inl z
                · refine Or.inr (fun hd => ⟨by omega, fun l hl => ?_⟩)
                  rw [rwv_fr hF227 (by decide)]
                  by_cases y : l = fld w 82 14
                  · rw [y, rz216 (by omega)]; omega
                  · rw [ro213 l (by omega) (by have := hd.1; omega)]; exact hd.2 l (by omega)
              exact xg_e ⟨w224, ⟨rfl, rfl⟩, xMnv.up (S := [82]) hI208 (xFr.of (S := [82]) hb226 (by decide)) (List.forall_mem_cons.mpr ⟨(show cp82 (wget w224 82) from ⟨f82_150, f82_152, f82_154, f82_156, f82_158, f82_160, f82_162, f82_164, f82_166, f82_168 + 1, f82_170, f82_171, f82_172, f82_174, f82_176, f82_178, hk225, by omega, by omega, by omega, by omega, by omega, by omega, by omega, by omega, by omega, by omega, by omega, by omega, by omega, by omega, by omega⟩), fun _ h => absurd h List.not_mem_nil⟩), (((((((hF46.up (by decide)).tr (hF95.up (by decide))).tr (hF143.up (by decide))).tr (hF185.up (by decide))).tr (hF197.up (by decide))).tr (hF209.up (by decide))).tr (xFr.of (S := [82, 83, 112, 113]) hb226 (by decide))), ⟨fun h => by have := pk212.1 h; omega, (show fld w224 82 10 = 0 ∨ FA w224 ≠ 0 by omega), Or.inr ⟨by have := ms215; omega, by omega⟩, hD235⟩⟩
            · refine xg_t (xg_icT (u := f82_70) (v := 40) rfl xnm0 xnm0 (xj_neT hc107)) ?_
              refine xg_t (xg_blk (b := [(160, 1, 0, 0, 0, 0), (161, 3, 13, 198, 96, 418)]) rfl) ?_
              refine xg_t (xg_aload (va := (2, 82)) rfl rfl) ?_
              obtain ⟨f82_236, f82_238, f82_240, f82_242, f82_244, f82_246, f82_248, f82_250, f82_252, f82_254, f82_256, f82_257, f82_258, f82_260, f82_262, f82_264, h82_266, hb237, hb239, hb241, hb243, hb245, hb247, hb249, hb251, hb253, hb255, hb259, hb261, hb263, hb265, hb267⟩ := (hI94 82 (by decide) (by decide) : cp82 (wget w92 82))
              refine xg_cVi mX12_numberNow (vs := []) (rest := []) (cn1 := 0) (sl1 := 0) rfl (mNumberNow (hI94) pk103.2.2.2) rfl h82_266 rfl rfl rfl rfl rfl rfl (fun n272 w268 hq269 => ?_)
              obtain ⟨hn273, hI270, hF271⟩ := hq269
              obtain ⟨hn274, hn275⟩ := hn273
              have pk276 : PK w w268 := PK.tr pk103 hn275
              have ro277 : ∀ l, l < fld w 82 14 → l < 16 → rwv w268 112 (20 * l) = rwv w 112 (20 * l) := fun l hl h6 => (rwv_fr hF271 (by decide)).trans (ro104 l hl h6)
              have hq278 := pk276
              unfold PK PS at hq278
              clear hq105
              have ms279 : mu w268 < mu w := Nat.lt_of_le_of_lt hn275.2.1 ms106
              refine xg_t (xg_blk (b := [(164, 1, 15, 3, 0, 0), (165, 1, 0, 0, 0, 0), (166, 2, 4, 59, 0, 0), (168, 3, 13, 195, 96, 427), (171, 1, 0, 0, 0, 0), (172, 1, 3, 0, 0, 0), (173, 1, 2, 1, 0, 0), (174, 3, 13, 214, 96, 424), (177, 1, 0, 0, 0, 0), (178, 2, 4, 17, 0, 0), (180, 1, 2, 2, 0, 0), (181, 3, 13, 214, 96, 424), (184, 1, 0, 0, 0, 0), (185, 2, 4, 18, 0, 0), (187, 1, 2, 3, 0, 0), (188, 3, 13, 214, 96, 424), (191, 1, 0, 0, 0, 0), (192, 1, 19, 0, 0, 0), (193, 3, 1, 12, 14, 212), (196, 1, 3, 1, 0, 0), (197, 1, 11, 0, 0, 0), (198, 3, 14, 12, 14, 212), (201, 1, 12, 0, 0, 0)]) rfl) ?_
              refine xg_t (xg_istore (l1 := [(2, (0, f82_70)), (1, (0, 0)), (0, (2, 82))]) rfl rfl rfl) ?_
              refine xg_t (xg_aload (va := (2, 82)) rfl rfl) ?_
              refine xg_t (xg_bip) ?_
              obtain ⟨f82_280, f82_282, f82_284, f82_286, f82_288, f82_290, f82_292, f82_294, f82_296, f82_298, f82_300, f82_301, f82_302, f82_304, f82_306, f82_308, h82_310, hb281, hb283, hb285, hb287, hb289, hb291, hb293, hb295, hb297, hb299, hb303, hb305, hb307, hb309, hb311⟩ := (hI270 82 (by decide) (by decide) : cp82 (wget w268 82))
              refine xg_cVv mX12_must (vs := [(0, 59)]) (rest := []) (cn1 := 0) (sl1 := 0) rfl (mMust (hI270) (by omega) pk276.2.2.2) rfl h82_310 rfl rfl rfl rfl rfl rfl (fun w312 hq313 => ?_)
              obtain ⟨hI314, hF315, hx316⟩ := hq313
              have pk317 : PK w w312 := PK.tr pk276 hx316
              have ro318 : ∀ l, l < fld w 82 14 → l < 16 → rwv w312 112 (20 * l) = rwv w 112 (20 * l) := fun l hl h6 => (rwv_fr hF315 (by decide)).trans (ro277 l hl h6)
              have hq319 := pk317
              unfold PK PS at hq319
              clear hq278
              have ms320 : mu w312 < mu w := Nat.lt_of_le_of_lt hx316.2.1 ms279
              refine xg_t (xg_aload (va := (2, 82)) rfl rfl) ?_
              refine xg_t (xg_const) ?_
              refine xg_t (xg_iload (va := (0, 0)) rfl rfl) ?_
              have hl321 : fld w312 82 14 ≤ 2000 := by omega
              obtain ⟨f82_322, f82_324, f82_326, f82_328, f82_330, f82_332, f82_334, f82_336, f82_338, f82_340, f82_342, f82_343, f82_344, f82_346, f82_348, f82_350, h82_352, hb323, hb325, hb327, hb329, hb331, hb333, hb335, hb337, hb339, hb341, hb345, hb347, hb349, hb351, hb353⟩ := (hI314 82 (by decide) (by decide) : cp82 (wget w312 82))
              refine xg_cVv mX12_rulePuts (vs := [(0, 0), (0, 0)]) (rest := []) (cn1 := 0) (sl1 := 0) rfl (mRulePuts (hI314) (by omega) (by omega) (by omega)) rfl h82_352 rfl rfl rfl rfl rfl rfl (fun w354 hq355 => ?_)
              obtain ⟨hI356, hF357, hx358⟩ := hq355
              have hx359 := hx358
              have pk360 : PK w w354 := PK.tr pk317 (PK.fr hF357 (by decide) (by decide) pk317.2.2.2)
              have ro361 : ∀ l, l < fld w 82 14 → l < 16 → rwv w354 112 (20 * l) = rwv w 112 (20 * l) := fun l hl h6 => ((hx359 _ (by omega)).2 (by omega)).trans (ro318 l hl h6)
              have hq362 := pk360
              unfold PK PS at hq362
              clear hq319
              have ms363 : mu w354 < mu w := Nat.lt_of_le_of_lt (PK.fr hF357 (by decide) (by decide) pk317.2.2.2).2.1 ms320
              have rz364 : fld w 82 14 < 16 → rwv w354 112 (20 * fld w 82 14) = 0 := fun h6 => (hx359 _ (by omega)).1 ⟨by omega, by omega⟩
              refine xg_t (xg_aload (va := (2, 82)) rfl rfl) ?_
              refine xg_t (xg_bip) ?_
              refine xg_t (xg_iload (va := (0, f82_70)) rfl rfl) ?_
              have hl365 : fld w354 82 14 ≤ 2000 := by omega
              refine xg_cVv mX12_rulePuts (vs := [(0, 17), (0, f82_70)]) (rest := []) (cn1 := 0) (sl1 := 0) rfl (mRulePuts (hI356) (by omega) (by omega) (by omega)) rfl (hF357.get (by decide) h82_352) rfl rfl rfl rfl rfl rfl (fun w366 hq367 => ?_)
              obtain ⟨hI368, hF369, hx370⟩ := hq367
              have hx371 := hx370
              have pk372 : PK w w366 := PK.tr pk360 (PK.fr hF369 (by decide) (by decide) pk360.2.2.2)
              have ro373 : ∀ l, l < fld w 82 14 → l < 16 → rwv w366 112 (20 * l) = rwv w 112 (20 * l) := fun l hl h6 => ((hx371 _ (by omega)).2 (by omega)).trans (ro361 l hl h6)
              have hq374 := pk372
              unfold PK PS at hq374
              clear hq362
              have ms375 : mu w366 < mu w := Nat.lt_of_le_of_lt (PK.fr hF369 (by decide) (by decide) pk360.2.2.2).2.1 ms363
              have rz376 : fld w 82 14 < 16 → rwv w366 112 (20 * fld w 82 14) = 0 := fun h6 => ((hx371 _ (by omega)).2 (by omega)).trans (rz364 h6)
              refine xg_t (xg_aload (va := (2, 82)) rfl rfl) ?_
              refine xg_t (xg_bip) ?_
              refine xg_t (xg_iload (va := (0, n272)) rfl rfl) ?_
              have hl377 : fld w366 82 14 ≤ 2000 := by omega
              refine xg_cVv mX12_rulePuts (vs := [(0, 18), (0, n272)]) (rest := []) (cn1 := 0) (sl1 := 0) rfl (mRulePuts (hI368) (by omega) (by omega) (by omega)) rfl (hF369.get (by decide) (hF357.get (by decide) h82_352)) rfl rfl rfl rfl rfl rfl (fun w378 hq379 => ?_)
              obtain ⟨hI380, hF381, hx382⟩ := hq379
              have hx383 := hx382
              have pk384 : PK w w378 := PK.tr pk372 (PK.fr hF381 (by decide) (by decide) pk372.2.2.2)
              have ro385 : ∀ l, l < fld w 82 14 → l < 16 → rwv w378 112 (20 * l) = rwv w 112 (20 * l) := fun l hl h6 => ((hx383 _ (by omega)).2 (by omega)).trans (ro373 l hl h6)
              have hq386 := pk384
              unfold PK PS at hq386
              clear hq374
              have ms387 : mu w378 < mu w := Nat.lt_of_le_of_lt (PK.fr hF381 (by decide) (by decide) pk372.2.2.2).2.1 ms375
              have rz388 : fld w 82 14 < 16 → rwv w378 112 (20 * fld w 82 14) = 0 := fun h6 => ((hx383 _ (by omega)).2 (by omega)).trans (rz376 h6)
              have hf389 : fld w378 82 4 = f82_326 := fld_of (hF381.get (by decide) (hF369.get (by decide) (hF357.get (by decide) h82_352)))
              have hf390 : fld w378 82 5 = f82_328 := fld_of (hF381.get (by decide) (hF369.get (by decide) (hF357.get (by decide) h82_352)))
              have hf391 : fld w378 82 7 = f82_332 := fld_of (hF381.get (by decide) (hF369.get (by decide) (hF357.get (by decide) h82_352)))
              have hf392 : fld w378 82 10 = f82_338 := fld_of (hF381.get (by decide) (hF369.get (by decide) (hF357.get (by decide) h82_352)))
              have hf393 : fld w378 82 14 = f82_340 := fld_of (hF381.get (by decide) (hF369.get (by decide) (hF357.get (by decide) h82_352)))
              have hu394 : mu w378 = 2 * (fld w378 82 4 - fld w378 82 5) + min 1 (fld w378 82 7) := rfl
              have hl395 : f82_340 ≤ 1001 := by omega
              refine xg_t (xg_aload (va := (2, 82)) rfl rfl) ?_
              refine xg_t (xg_dup rfl) ?_
              refine xg_t (xg_getf (va := (0, f82_340)) (hF381.get (by decide) (hF369.get (by decide) (hF357.get (by decide) h82_352))) rfl) ?_
              refine xg_t (xg_const) ?_
              refine xg_t (xg_iadd (u := f82_340) (v := 1) (z := f82_340 + 1) xnm0 xnm0 (by omega)) ?_
              refine xg_putI (fl1 := [(2, 83), (2, 84), (0, f82_322), (0, f82_324), (0, f82_326), (0, f82_328), (0, f82_330), (0, f82_332), (0, f82_334), (0, f82_336), (0, f82_338), (2, 85), (2, 86), (2, 87), (0, f82_340 + 1), (2, 88), (2, 89), (2, 90), (2, 91), (2, 92), (2, 93), (2, 94), (4, f82_342), (4, f82_343), (0, f82_344), (2, 95), (2, 96), (2, 97), (2, 98), (2, 99), (2, 100), (2, 101), (2, 102), (0, f82_346), (2, 103), (2, 104), (2, 105), (2, 106), (2, 107), (2, 108), (2, 109), (0, f82_348), (0, f82_350), (2, 110), (2, 111), (2, 112), (2, 113)]) (hF381.get (by decide) (hF369.get (by decide) (hF357.get (by decide) h82_352))) rfl rfl rfl (fun w396 hk397 hb398 => ?_)
              have hF399 : xFr [82] w378 w396 := xFr.of hb398 (by decide)
              have hA400 := FA_fr hF399 (by decide)
              have hf401 : fld w396 82 4 = f82_326 := fld_of hk397
              have hf402 : fld w396 82 5 = f82_328 := fld_of hk397
              have hf403 : fld w396 82 7 = f82_332 := fld_of hk397
              have hf404 : fld w396 82 10 = f82_338 := fld_of hk397
              have hf405 : fld w396 82 14 = f82_340 + 1 := fld_of hk397
              have hu406 : mu w396 = 2 * (fld w396 82 4 - fld w396 82 5) + min 1 (fld w396 82 7) := rfl
              have hD407 : FA w396 ≠ 0 ∨ (RD w → RD w396) := by
                by_cases z : FA w396 ≠ 0
                · exact Or.inl z
                · refine Or.inr (fun hd => ⟨by omega, fun l hl => ?_⟩)
                  rw [rwv_fr hF399 (by decide)]
                  by_cases y : l = fld w 82 14
                  · rw [y, rz388 (by omega)]; omega
                  · rw [ro385 l (by omega) (by have := hd.1; omega)]; exact hd.2 l (by omega)
              exact xg_e ⟨w396, ⟨rfl, rfl⟩, xMnv.up (S := [82]) hI380 (xFr.of (S := [82]) hb398 (by decide)) (List.forall_mem_cons.mpr ⟨(show cp82 (wget w396 82) from ⟨f82_322, f82_324, f82_326, f82_328, f82_330, f82_332, f82_334, f82_336, f82_338, f82_340 + 1, f82_342, f82_343, f82_344, f82_346, f82_348, f82_350, hk397, by omega, by omega, by omega, by omega, by omega, by omega, by omega, by omega, by omega, by omega, by omega, by omega, by omega, by omega, by omega⟩), fun _ h => absurd h List.not_mem_nil⟩), ((((((((hF46.up (by decide)).tr (hF95.up (by decide))).tr (hF271.up (by decide))).tr (hF315.up (by decide))).tr (hF357.up (by decide))).tr (hF369.up (by decide))).tr (hF381.up (by decide))).tr (xFr.of (S := [82, 83, 112, 113]) hb398 (by decide))), ⟨fun h => by have := pk384.1 h; omega, (show fld w396 82 10 = 0 ∨ FA w396 ≠ 0 by omega), Or.inr ⟨by have := ms387; omega, by omega⟩, hD407⟩⟩
          · refine xg_t (xg_ifF (u := (if 40 ≤ f82_70 ∧ f82_70 ≤ 42 then 1 else 0)) rfl xnm0 (xj_neF (xite0 hc90))) ?_
            refine xg_t (xg_blk (b := [(136, 1, 0, 0, 0, 0), (137, 3, 13, 140, 96, 183), (140, 1, 12, 0, 0, 0)]) rfl) ?_
            refine xg_t (xg_aload (va := (2, 82)) rfl rfl) ?_
            refine xg_cVv mX12_ends (vs := []) (rest := []) (cn1 := 0) (sl1 := 0) rfl (mEnds (hI45) pk52.2.2.2) rfl h82_86 rfl rfl rfl rfl rfl rfl (fun w408 hq409 => ?_)
            obtain ⟨hI410, hF411, hx412⟩ := hq409
            obtain ⟨hv413, hv414, hv415, hv416⟩ := hx412
            have pk417 : PK w43 w408 := ⟨fun _ => hv413, by omega, by omega, Or.inr hv413⟩
            have pk418 : PK w w408 := PK.tr pk52 pk417
            have ro419 : ∀ l, l < fld w 82 14 → l < 16 → rwv w408 112 (20 * l) = rwv w 112 (20 * l) := fun l hl h6 => (rwv_fr hF411 (by decide)).trans (ro53 l hl h6)
            have hq420 := pk418
            unfold PK PS at hq420
            clear hq54
            obtain ⟨f82_421, f82_423, f82_425, f82_427, f82_429, f82_431, f82_433, f82_435, f82_437, f82_439, f82_441, f82_442, f82_443, f82_445, f82_447, f82_449, h82_451, hb422, hb424, hb426, hb428, hb430, hb432, hb434, hb436, hb438, hb440, hb444, hb446, hb448, hb450, hb452⟩ := (hI410 82 (by decide) (by decide) : cp82 (wget w408 82))
            exact xg_e ⟨w408, ⟨rfl, rfl⟩, hI410, ((hF46.up (by decide)).tr (hF411.up (by decide))), ⟨pk418.1, pk418.2.2.2, Or.inl ⟨by omega, pk418.2.1, pk418.2.2.1⟩, Or.inl (by omega)⟩⟩
        · refine xg_t (xg_icT (u := f82_66) (v := 3) rfl xnm0 xnm0 (xj_neT hc89)) ?_
          refine xg_t (xg_blk (b := [(136, 1, 0, 0, 0, 0), (137, 3, 13, 140, 96, 183), (140, 1, 12, 0, 0, 0)]) rfl) ?_
          refine xg_t (xg_aload (va := (2, 82)) rfl rfl) ?_
          refine xg_cVv mX12_ends (vs := []) (rest := []) (cn1 := 0) (sl1 := 0) rfl (mEnds (hI45) pk52.2.2.2) rfl h82_86 rfl rfl rfl rfl rfl rfl (fun w453 hq454 => ?_)
          obtain ⟨hI455, hF456, hx457⟩ := hq454
          obtain ⟨hv458, hv459, hv460, hv461⟩ := hx457
          have pk462 : PK w43 w453 := ⟨fun _ => hv458, by omega, by omega, Or.inr hv458⟩
          have pk463 : PK w w453 := PK.tr pk52 pk462
          have ro464 : ∀ l, l < fld w 82 14 → l < 16 → rwv w453 112 (20 * l) = rwv w 112 (20 * l) := fun l hl h6 => (rwv_fr hF456 (by decide)).trans (ro53 l hl h6)
          have hq465 := pk463
          unfold PK PS at hq465
          clear hq54
          obtain ⟨f82_466, f82_468, f82_470, f82_472, f82_474, f82_476, f82_478, f82_480, f82_482, f82_484, f82_486, f82_487, f82_488, f82_490, f82_492, f82_494, h82_496, hb467, hb469, hb471, hb473, hb475, hb477, hb479, hb481, hb483, hb485, hb489, hb491, hb493, hb495, hb497⟩ := (hI455 82 (by decide) (by decide) : cp82 (wget w453 82))
          exact xg_e ⟨w453, ⟨rfl, rfl⟩, hI455, ((hF46.up (by decide)).tr (hF456.up (by decide))), ⟨pk463.1, pk463.2.2.2, Or.inl ⟨by omega, pk463.2.1, pk463.2.2.1⟩, Or.inl (by omega)⟩⟩
      · refine xg_t (xg_ifT (u := f82_72) rfl xnm0 (xj_neT hc88)) ?_
        refine xg_t (xg_blk (b := [(136, 1, 0, 0, 0, 0), (137, 3, 13, 140, 96, 183), (140, 1, 12, 0, 0, 0)]) rfl) ?_
        refine xg_t (xg_aload (va := (2, 82)) rfl rfl) ?_
        refine xg_cVv mX12_ends (vs := []) (rest := []) (cn1 := 0) (sl1 := 0) rfl (mEnds (hI45) pk52.2.2.2) rfl h82_86 rfl rfl rfl rfl rfl rfl (fun w498 hq499 => ?_)
        obtain ⟨hI500, hF501, hx502⟩ := hq499
        obtain ⟨hv503, hv504, hv505, hv506⟩ := hx502
        have pk507 : PK w43 w498 := ⟨fun _ => hv503, by omega, by omega, Or.inr hv503⟩
        have pk508 : PK w w498 := PK.tr pk52 pk507
        have ro509 : ∀ l, l < fld w 82 14 → l < 16 → rwv w498 112 (20 * l) = rwv w 112 (20 * l) := fun l hl h6 => (rwv_fr hF501 (by decide)).trans (ro53 l hl h6)
        have hq510 := pk508
        unfold PK PS at hq510
        clear hq54
        obtain ⟨f82_511, f82_513, f82_515, f82_517, f82_519, f82_521, f82_523, f82_525, f82_527, f82_529, f82_531, f82_532, f82_533, f82_535, f82_537, f82_539, h82_541, hb512, hb514, hb516, hb518, hb520, hb522, hb524, hb526, hb528, hb530, hb534, hb536, hb538, hb540, hb542⟩ := (hI500 82 (by decide) (by decide) : cp82 (wget w498 82))
        exact xg_e ⟨w498, ⟨rfl, rfl⟩, hI500, ((hF46.up (by decide)).tr (hF501.up (by decide))), ⟨pk508.1, pk508.2.2.2, Or.inl ⟨by omega, pk508.2.1, pk508.2.2.1⟩, Or.inl (by omega)⟩⟩
    · have ms543 : mu w43 < mu w := Nat.lt_of_lt_of_le (hn51 (by omega)) (PK.rf hps).2.1
      refine xg_t (xg_ifF (u := n47) rfl xnm0 (xj_eqF hc55)) ?_
      refine xg_t (xg_const) ?_
      refine xg_t (xg_istore (l1 := [(1, (0, 0)), (0, (2, 82))]) rfl rfl rfl) ?_
      refine xg_t (xg_drop (l1 := [(0, (2, 82)), (1, (0, 0)), (2, (0, 1))]) (List.forall_mem_cons.mpr ⟨List.mem_cons_of_mem _ (List.mem_cons_of_mem _ (List.mem_cons_self)), List.forall_mem_cons.mpr ⟨List.mem_cons_of_mem _ (List.mem_cons_self), List.forall_mem_cons.mpr ⟨List.mem_cons_self, fun _ h => absurd h List.not_mem_nil⟩⟩⟩)) ?_
      have key544 : ∀ (m546 : Nat) (kr mo : Nat) (w547 : List (List xE)), 2 * mu w547 + mo < m546 → kr ≤ 1002 → mo ≤ 1 → xMnv w547 → xFr [82, 83, 112, 113] w w547 → (PK w w547 ∧ (∀ l, l < fld w 82 14 → l < 16 → rwv w547 112 (20 * l) = rwv w 112 (20 * l)) ∧ mu w547 < mu w ∧ (FA w547 ≠ 0 ∨ kr ≤ 4) ∧ kr + mu w547 ≤ 1002 ∧ (mo = 1 → kr + mu w547 ≤ 1001) ∧ (16 ≤ fld w 82 14 → FA w547 ≠ 0)) → xTo (d + 7) mX12_aRule (31, [], [(0, (2, 82)), (1, (0, kr)), (2, (0, mo))], [], (w547, bd, fc, 0, 0, rr)) (fun φ => ∃ w', xEnd 0 [] (w', bd, fc, 0, 0, rr) φ ∧ xMnv w' ∧ xFr [82, 83, 112, 113] w w' ∧ ((FA w ≠ 0 → FA w' ≠ 0) ∧ PS w' ∧ ((fld w' 82 10 = 1 ∧ mu w' ≤ mu w ∧ fld w' 82 14 = fld w 82 14) ∨ (mu w' < mu w ∧ fld w' 82 14 = fld w 82 14 + 1)) ∧ (FA w' ≠ 0 ∨ (RD w → RD w')))) := by
        intro m546
        induction m546 with
        | zero => intro kr mo w547 hz; exact absurd hz (Nat.not_lt_zero _)
        | succ m546 ih545 =>
          intro kr mo w547 hm553 hn550 hn551 hI548 hF549 he552
          obtain ⟨hz554, hz555, hz556, hz557, hz558, hz559, hz560⟩ := he552
          have hq561 := hz554
          unfold PK PS at hq561
          obtain ⟨f82_562, f82_564, f82_566, f82_568, f82_570, f82_572, f82_574, f82_576, f82_578, f82_580, f82_582, f82_583, f82_584, f82_586, f82_588, f82_590, h82_592, hb563, hb565, hb567, hb569, hb571, hb573, hb575, hb577, hb579, hb581, hb585, hb587, hb589, hb591, hb593⟩ := (hI548 82 (by decide) (by decide) : cp82 (wget w547 82))
          refine xg_t (xg_blk (b := [(31, 1, 2, 2, 0, 0), (32, 3, 7, 101, 0, 0), (35, 1, 2, 1, 0, 0), (36, 1, 3, 3, 0, 0), (37, 3, 6, 49, 5, 0), (40, 1, 0, 0, 0, 0), (41, 1, 3, 3, 0, 0), (42, 1, 0, 0, 0, 0), (43, 3, 1, 12, 6, 148), (46, 3, 13, 115, 96, 186)]) rfl) ?_
          refine xg_t (xg_iload (va := (0, mo)) rfl rfl) ?_
          by_cases hc594 : mo = 0
          · refine xg_t (xg_ifT (u := mo) rfl xnm0 (xj_eqT hc594)) ?_
            refine xg_t (xg_blk (b := [(101, 1, 0, 0, 0, 0), (102, 2, 4, 58, 0, 0), (104, 3, 13, 195, 96, 427)]) rfl) ?_
            refine xg_t (xg_aload (va := (2, 82)) rfl rfl) ?_
            refine xg_t (xg_bip) ?_
            refine xg_cVv mX12_must (vs := [(0, 58)]) (rest := []) (cn1 := 0) (sl1 := 0) rfl (mMust (hI548) (by omega) hz554.2.2.2) rfl h82_592 rfl rfl rfl rfl rfl rfl (fun w595 hq596 => ?_)
            obtain ⟨hI597, hF598, hx599⟩ := hq596
            have pk600 : PK w w595 := PK.tr hz554 hx599
            have ro601 : ∀ l, l < fld w 82 14 → l < 16 → rwv w595 112 (20 * l) = rwv w 112 (20 * l) := fun l hl h6 => (rwv_fr hF598 (by decide)).trans (hz555 l hl h6)
            have hq602 := pk600
            unfold PK PS at hq602
            clear hq561
            have ms603 : mu w595 < mu w := Nat.lt_of_le_of_lt hx599.2.1 hz556
            refine xg_t (xg_blk (b := [(107, 1, 0, 0, 0, 0), (108, 3, 1, 12, 10, 180), (111, 3, 7, 136, 1, 0), (114, 1, 0, 0, 0, 0), (115, 3, 1, 12, 7, 151), (118, 1, 3, 3, 0, 0), (119, 3, 6, 136, 1, 0), (122, 1, 0, 0, 0, 0), (123, 3, 1, 12, 9, 165), (126, 2, 4, 40, 0, 0), (128, 2, 4, 42, 0, 0), (130, 3, 13, 161, 98, 105), (133, 3, 7, 141, 1, 0)]) rfl) ?_
            refine xg_t (xg_aload (va := (2, 82)) rfl rfl) ?_
            obtain ⟨f82_604, f82_606, f82_608, f82_610, f82_612, f82_614, f82_616, f82_618, f82_620, f82_622, f82_624, f82_625, f82_626, f82_628, f82_630, f82_632, h82_634, hb605, hb607, hb609, hb611, hb613, hb615, hb617, hb619, hb621, hb623, hb627, hb629, hb631, hb633, hb635⟩ := (hI597 82 (by decide) (by decide) : cp82 (wget w595 82))
            refine xg_t (xg_getf (va := (0, f82_620)) h82_634 rfl) ?_
            by_cases hc636 : f82_620 = 0
            · refine xg_t (xg_ifF (u := f82_620) rfl xnm0 (xj_neF hc636)) ?_
              refine xg_t (xg_aload (va := (2, 82)) rfl rfl) ?_
              refine xg_t (xg_getf (va := (0, f82_614)) h82_634 rfl) ?_
              refine xg_t (xg_const) ?_
              by_cases hc637 : f82_614 = 3
              · refine xg_t (xg_icF (u := f82_614) (v := 3) rfl xnm0 xnm0 (xj_neF hc637)) ?_
                refine xg_t (xg_aload (va := (2, 82)) rfl rfl) ?_
                refine xg_t (xg_getf (va := (0, f82_618)) h82_634 rfl) ?_
                refine xg_t (xg_bip) ?_
                refine xg_t (xg_bip) ?_
                refine xg_t (xg_cSr mX12_isIn (vs := [(0, f82_618), (0, 40), (0, 42)]) (rest := []) (rs := [(0, if 40 ≤ f82_618 ∧ f82_618 ≤ 42 then 1 else 0)]) (cn1 := 0) (sl1 := 0) rfl (mIsIn (by omega) (by omega) (by omega)) rfl rfl rfl rfl rfl rfl rfl rfl) ?_
                by_cases hc638 : 40 ≤ f82_618 ∧ f82_618 ≤ 42
                · refine xg_t (xg_ifT (u := (if 40 ≤ f82_618 ∧ f82_618 ≤ 42 then 1 else 0)) rfl xnm0 (xj_neT (xite1 hc638))) ?_
                  refine xg_t (xg_blk (b := [(141, 1, 0, 0, 0, 0), (142, 3, 1, 12, 9, 165), (145, 1, 15, 2, 0, 0), (146, 1, 0, 0, 0, 0), (147, 3, 13, 110, 96, 190), (150, 1, 2, 2, 0, 0), (151, 2, 4, 40, 0, 0), (153, 3, 6, 160, 1, 0), (156, 1, 3, 0, 0, 0), (157, 3, 8, 164, 0, 0)]) rfl) ?_
                  refine xg_t (xg_aload (va := (2, 82)) rfl rfl) ?_
                  refine xg_t (xg_getf (va := (0, f82_618)) h82_634 rfl) ?_
                  refine xg_t (xg_istore (l1 := [(0, (2, 82)), (1, (0, kr))]) rfl rfl rfl) ?_
                  refine xg_t (xg_aload (va := (2, 82)) rfl rfl) ?_
                  have hf639 : fld w595 82 7 = f82_614 := fld_of h82_634
                  refine xg_cVv mX12_advance (vs := []) (rest := []) (cn1 := 0) (sl1 := 0) rfl (mAdvance (hI597)) rfl h82_634 rfl rfl rfl rfl rfl rfl (fun w640 hq641 => ?_)
                  obtain ⟨hI642, hF643, hx644⟩ := hq641
                  obtain ⟨hv645, hv646, hv647, hv648⟩ := hx644
                  have hf649 := FA_fr hF643 (by decide)
                  have pk650 : PK w595 w640 := ⟨fun _ => by omega, hv645, hv648, (show fld w640 82 10 = 0 ∨ FA w640 ≠ 0 by omega)⟩
                  have pk651 : PK w w640 := PK.tr pk600 pk650
                  have ro652 : ∀ l, l < fld w 82 14 → l < 16 → rwv w640 112 (20 * l) = rwv w 112 (20 * l) := fun l hl h6 => (rwv_fr hF643 (by decide)).trans (ro601 l hl h6)
                  have hq653 := pk651
                  unfold PK PS at hq653
                  clear hq602
                  have ms654 : mu w640 < mu w := Nat.lt_of_le_of_lt pk650.2.1 ms603
                  refine xg_t (xg_iload (va := (0, f82_618)) rfl rfl) ?_
                  refine xg_t (xg_bip) ?_
                  by_cases hc655 : f82_618 = 40
                  · refine xg_t (xg_icF (u := f82_618) (v := 40) rfl xnm0 xnm0 (xj_neF hc655)) ?_
                    refine xg_t (xg_const) ?_
                    refine xg_t (xg_goto) ?_
                    refine xg_t (xg_blk (b := [(164, 1, 15, 3, 0, 0), (165, 1, 0, 0, 0, 0), (166, 2, 4, 59, 0, 0), (168, 3, 13, 195, 96, 427), (171, 1, 0, 0, 0, 0), (172, 1, 3, 0, 0, 0), (173, 1, 2, 1, 0, 0), (174, 3, 13, 214, 96, 424), (177, 1, 0, 0, 0, 0), (178, 2, 4, 17, 0, 0), (180, 1, 2, 2, 0, 0), (181, 3, 13, 214, 96, 424), (184, 1, 0, 0, 0, 0), (185, 2, 4, 18, 0, 0), (187, 1, 2, 3, 0, 0), (188, 3, 13, 214, 96, 424), (191, 1, 0, 0, 0, 0), (192, 1, 19, 0, 0, 0), (193, 3, 1, 12, 14, 212), (196, 1, 3, 1, 0, 0), (197, 1, 11, 0, 0, 0), (198, 3, 14, 12, 14, 212), (201, 1, 12, 0, 0, 0)]) rfl) ?_
                    refine xg_t (xg_istore (l1 := [(2, (0, f82_618)), (0, (2, 82)), (1, (0, kr))]) rfl rfl rfl) ?_
                    refine xg_t (xg_aload (va := (2, 82)) rfl rfl) ?_
                    refine xg_t (xg_bip) ?_
                    obtain ⟨f82_656, f82_658, f82_660, f82_662, f82_664, f82_666, f82_668, f82_670, f82_672, f82_674, f82_676, f82_677, f82_678, f82_680, f82_682, f82_684, h82_686, hb657, hb659, hb661, hb663, hb665, hb667, hb669, hb671, hb673, hb675, hb679, hb681, hb683, hb685, hb687⟩ := (hI642 82 (by decide) (by decide) : cp82 (wget w640 82))
                    refine xg_cVv mX12_must (vs := [(0, 59)]) (rest := []) (cn1 := 0) (sl1 := 0) rfl (mMust (hI642) (by omega) pk651.2.2.2) rfl h82_686 rfl rfl rfl rfl rfl rfl (fun w688 hq689 => ?_)
                    obtain ⟨hI690, hF691, hx692⟩ := hq689
                    have pk693 : PK w w688 := PK.tr pk651 hx692
                    have ro694 : ∀ l, l < fld w 82 14 → l < 16 → rwv w688 112 (20 * l) = rwv w 112 (20 * l) := fun l hl h6 => (rwv_fr hF691 (by decide)).trans (ro652 l hl h6)
                    have hq695 := pk693
                    unfold PK PS at hq695
                    clear hq653
                    have ms696 : mu w688 < mu w := Nat.lt_of_le_of_lt hx692.2.1 ms654
                    refine xg_t (xg_aload (va := (2, 82)) rfl rfl) ?_
                    refine xg_t (xg_const) ?_
                    refine xg_t (xg_iload (va := (0, kr)) rfl rfl) ?_
                    have hl697 : fld w688 82 14 ≤ 2000 := by omega
                    obtain ⟨f82_698, f82_700, f82_702, f82_704, f82_706, f82_708, f82_710, f82_712, f82_714, f82_716, f82_718, f82_719, f82_720, f82_722, f82_724, f82_726, h82_728, hb699, hb701, hb703, hb705, hb707, hb709, hb711, hb713, hb715, hb717, hb721, hb723, hb725, hb727, hb729⟩ := (hI690 82 (by decide) (by decide) : cp82 (wget w688 82))
                    refine xg_cVv mX12_rulePuts (vs := [(0, 0), (0, kr)]) (rest := []) (cn1 := 0) (sl1 := 0) rfl (mRulePuts (hI690) (by omega) (by omega) (by omega)) rfl h82_728 rfl rfl rfl rfl rfl rfl (fun w730 hq731 => ?_)
                    obtain ⟨hI732, hF733, hx734⟩ := hq731
                    have hx735 := hx734
                    have pk736 : PK w w730 := PK.tr pk693 (PK.fr hF733 (by decide) (by decide) pk693.2.2.2)
                    have ro737 : ∀ l, l < fld w 82 14 → l < 16 → rwv w730 112 (20 * l) = rwv w 112 (20 * l) := fun l hl h6 => ((hx735 _ (by omega)).2 (by omega)).trans (ro694 l hl h6)
                    have hq738 := pk736
                    unfold PK PS at hq738
                    clear hq695
                    have ms739 : mu w730 < mu w := Nat.lt_of_le_of_lt (PK.fr hF733 (by decide) (by decide) pk693.2.2.2).2.1 ms696
                    have rz740 : fld w 82 14 < 16 → rwv w730 112 (20 * fld w 82 14) = kr := fun h6 => (hx735 _ (by omega)).1 ⟨by omega, by omega⟩
                    refine xg_t (xg_aload (va := (2, 82)) rfl rfl) ?_
                    refine xg_t (xg_bip) ?_
                    refine xg_t (xg_iload (va := (0, f82_618)) rfl rfl) ?_
                    have hl741 : fld w730 82 14 ≤ 2000 := by omega
                    refine xg_cVv mX12_rulePuts (vs := [(0, 17), (0, f82_618)]) (rest := []) (cn1 := 0) (sl1 := 0) rfl (mRulePuts (hI732) (by omega) (by omega) (by omega)) rfl (hF733.get (by decide) h82_728) rfl rfl rfl rfl rfl rfl (fun w742 hq743 => ?_)
                    obtain ⟨hI744, hF745, hx746⟩ := hq743
                    have hx747 := hx746
                    have pk748 : PK w w742 := PK.tr pk736 (PK.fr hF745 (by decide) (by decide) pk736.2.2.2)
                    have ro749 : ∀ l, l < fld w 82 14 → l < 16 → rwv w742 112 (20 * l) = rwv w 112 (20 * l) := fun l hl h6 => ((hx747 _ (by omega)).2 (by omega)).trans (ro737 l hl h6)
                    have hq750 := pk748
                    unfold PK PS at hq750
                    clear hq738
                    have ms751 : mu w742 < mu w := Nat.lt_of_le_of_lt (PK.fr hF745 (by decide) (by decide) pk736.2.2.2).2.1 ms739
                    have rz752 : fld w 82 14 < 16 → rwv w742 112 (20 * fld w 82 14) = kr := fun h6 => ((hx747 _ (by omega)).2 (by omega)).trans (rz740 h6)
                    refine xg_t (xg_aload (va := (2, 82)) rfl rfl) ?_
                    refine xg_t (xg_bip) ?_
                    refine xg_t (xg_iload (va := (0, 0)) rfl rfl) ?_
                    have hl753 : fld w742 82 14 ≤ 2000 := by omega
                    refine xg_cVv mX12_rulePuts (vs := [(0, 18), (0, 0)]) (rest := []) (cn1 := 0) (sl1 := 0) rfl (mRulePuts (hI744) (by omega) (by omega) (by omega)) rfl (hF745.get (by decide) (hF733.get (by decide) h82_728)) rfl rfl rfl rfl rfl rfl (fun w754 hq755 => ?_)
                    obtain ⟨hI756, hF757, hx758⟩ := hq755
                    have hx759 := hx758
                    have pk760 : PK w w754 := PK.tr pk748 (PK.fr hF757 (by decide) (by decide) pk748.2.2.2)
                    have ro761 : ∀ l, l < fld w 82 14 → l < 16 → rwv w754 112 (20 * l) = rwv w 112 (20 * l) := fun l hl h6 => ((hx759 _ (by omega)).2 (by omega)).trans (ro749 l hl h6)
                    have hq762 := pk760
                    unfold PK PS at hq762
                    clear hq750
                    have ms763 : mu w754 < mu w := Nat.lt_of_le_of_lt (PK.fr hF757 (by decide) (by decide) pk748.2.2.2).2.1 ms751
                    have rz764 : fld w 82 14 < 16 → rwv w754 112 (20 * fld w 82 14) = kr := fun h6 => ((hx759 _ (by omega)).2 (by omega)).trans (rz752 h6)
                    have hf765 : fld w754 82 4 = f82_702 := fld_of (hF757.get (by decide) (hF745.get (by decide) (hF733.get (by decide) h82_728)))
                    have hf766 : fld w754 82 5 = f82_704 := fld_of (hF757.get (by decide) (hF745.get (by decide) (hF733.get (by decide) h82_728)))
                    have hf767 : fld w754 82 7 = f82_708 := fld_of (hF757.get (by decide) (hF745.get (by decide) (hF733.get (by decide) h82_728)))
                    have hf768 : fld w754 82 10 = f82_714 := fld_of (hF757.get (by decide) (hF745.get (by decide) (hF733.get (by decide) h82_728)))
                    have hf769 : fld w754 82 14 = f82_716 := fld_of (hF757.get (by decide) (hF745.get (by decide) (hF733.get (by decide) h82_728)))
                    have hu770 : mu w754 = 2 * (fld w754 82 4 - fld w754 82 5) + min 1 (fld w754 82 7) := rfl
                    have hl771 : f82_716 ≤ 1001 := by omega
                    refine xg_t (xg_aload (va := (2, 82)) rfl rfl) ?_
                    refine xg_t (xg_dup rfl) ?_
                    refine xg_t (xg_getf (va := (0, f82_716)) (hF757.get (by decide) (hF745.get (by decide) (hF733.get (by decide) h82_728))) rfl) ?_
                    refine xg_t (xg_const) ?_
                    refine xg_t (xg_iadd (u := f82_716) (v := 1) (z := f82_716 + 1) xnm0 xnm0 (by omega)) ?_
                    refine xg_putI (fl1 := [(2, 83), (2, 84), (0, f82_698), (0, f82_700), (0, f82_702), (0, f82_704), (0, f82_706), (0, f82_708), (0, f82_710), (0, f82_712), (0, f82_714), (2, 85), (2, 86), (2, 87), (0, f82_716 + 1), (2, 88), (2, 89), (2, 90), (2, 91), (2, 92), (2, 93), (2, 94), (4, f82_718), (4, f82_719), (0, f82_720), (2, 95), (2, 96), (2, 97), (2, 98), (2, 99), (2, 100), (2, 101), (2, 102), (0, f82_722), (2, 103), (2, 104), (2, 105), (2, 106), (2, 107), (2, 108), (2, 109), (0, f82_724), (0, f82_726), (2, 110), (2, 111), (2, 112), (2, 113)]) (hF757.get (by decide) (hF745.get (by decide) (hF733.get (by decide) h82_728))) rfl rfl rfl (fun w772 hk773 hb774 => ?_)
                    have hF775 : xFr [82] w754 w772 := xFr.of hb774 (by decide)
                    have hA776 := FA_fr hF775 (by decide)
                    have hf777 : fld w772 82 4 = f82_702 := fld_of hk773
                    have hf778 : fld w772 82 5 = f82_704 := fld_of hk773
                    have hf779 : fld w772 82 7 = f82_708 := fld_of hk773
                    have hf780 : fld w772 82 10 = f82_714 := fld_of hk773
                    have hf781 : fld w772 82 14 = f82_716 + 1 := fld_of hk773
                    have hu782 : mu w772 = 2 * (fld w772 82 4 - fld w772 82 5) + min 1 (fld w772 82 7) := rfl
                    have hD783 : FA w772 ≠ 0 ∨ (RD w → RD w772) := by
                      by_cases z : FA w772 ≠ 0
                      · exact Or.inl z
                      · refine Or.inr (fun hd => ⟨by omega, fun l hl => ?_⟩)
                        rw [rwv_fr hF775 (by decide)]
                        by_cases y : l = fld w 82 14
                        · rw [y, rz764 (by omega)]; omega
                        · rw [ro761 l (by omega) (by have := hd.1; omega)]; exact hd.2 l (by omega)
                    exact xg_e ⟨w772, ⟨rfl, rfl⟩, xMnv.up (S := [82]) hI756 (xFr.of (S := [82]) hb774 (by decide)) (List.forall_mem_cons.mpr ⟨(show cp82 (wget w772 82) from ⟨f82_698, f82_700, f82_702, f82_704, f82_706, f82_708, f82_710, f82_712, f82_714, f82_716 + 1, f82_718, f82_719, f82_720, f82_722, f82_724, f82_726, hk773, by omega, by omega, by omega, by omega, by omega, by omega, by omega, by omega, by omega, by omega, by omega, by omega, by omega, by omega, by omega⟩), fun _ h => absurd h List.not_mem_nil⟩), (((((((hF549.tr (hF598.up (by decide))).tr (hF643.up (by decide))).tr (hF691.up (by decide))).tr (hF733.up (by decide))).tr (hF745.up (by decide))).tr (hF757.up (by decide))).tr (xFr.of (S := [82, 83, 112, 113]) hb774 (by decide))), ⟨fun h => by have := pk760.1 h; omega, (show fld w772 82 10 = 0 ∨ FA w772 ≠ 0 by omega), Or.inr ⟨by have := ms763; omega, by omega⟩, hD783⟩⟩
                  · refine xg_t (xg_icT (u := f82_618) (v := 40) rfl xnm0 xnm0 (xj_neT hc655)) ?_
                    refine xg_t (xg_blk (b := [(160, 1, 0, 0, 0, 0), (161, 3, 13, 198, 96, 418)]) rfl) ?_
                    refine xg_t (xg_aload (va := (2, 82)) rfl rfl) ?_
                    obtain ⟨f82_784, f82_786, f82_788, f82_790, f82_792, f82_794, f82_796, f82_798, f82_800, f82_802, f82_804, f82_805, f82_806, f82_808, f82_810, f82_812, h82_814, hb785, hb787, hb789, hb791, hb793, hb795, hb797, hb799, hb801, hb803, hb807, hb809, hb811, hb813, hb815⟩ := (hI642 82 (by decide) (by decide) : cp82 (wget w640 82))
                    refine xg_cVi mX12_numberNow (vs := []) (rest := []) (cn1 := 0) (sl1 := 0) rfl (mNumberNow (hI642) pk651.2.2.2) rfl h82_814 rfl rfl rfl rfl rfl rfl (fun n820 w816 hq817 => ?_)
                    obtain ⟨hn821, hI818, hF819⟩ := hq817
                    obtain ⟨hn822, hn823⟩ := hn821
                    have pk824 : PK w w816 := PK.tr pk651 hn823
                    have ro825 : ∀ l, l < fld w 82 14 → l < 16 → rwv w816 112 (20 * l) = rwv w 112 (20 * l) := fun l hl h6 => (rwv_fr hF819 (by decide)).trans (ro652 l hl h6)
                    have hq826 := pk824
                    unfold PK PS at hq826
                    clear hq653
                    have ms827 : mu w816 < mu w := Nat.lt_of_le_of_lt hn823.2.1 ms654
                    refine xg_t (xg_blk (b := [(164, 1, 15, 3, 0, 0), (165, 1, 0, 0, 0, 0), (166, 2, 4, 59, 0, 0), (168, 3, 13, 195, 96, 427), (171, 1, 0, 0, 0, 0), (172, 1, 3, 0, 0, 0), (173, 1, 2, 1, 0, 0), (174, 3, 13, 214, 96, 424), (177, 1, 0, 0, 0, 0), (178, 2, 4, 17, 0, 0), (180, 1, 2, 2, 0, 0), (181, 3, 13, 214, 96, 424), (184, 1, 0, 0, 0, 0), (185, 2, 4, 18, 0, 0), (187, 1, 2, 3, 0, 0), (188, 3, 13, 214, 96, 424), (191, 1, 0, 0, 0, 0), (192, 1, 19, 0, 0, 0), (193, 3, 1, 12, 14, 212), (196, 1, 3, 1, 0, 0), (197, 1, 11, 0, 0, 0), (198, 3, 14, 12, 14, 212), (201, 1, 12, 0, 0, 0)]) rfl) ?_
                    refine xg_t (xg_istore (l1 := [(2, (0, f82_618)), (0, (2, 82)), (1, (0, kr))]) rfl rfl rfl) ?_
                    refine xg_t (xg_aload (va := (2, 82)) rfl rfl) ?_
                    refine xg_t (xg_bip) ?_
                    obtain ⟨f82_828, f82_830, f82_832, f82_834, f82_836, f82_838, f82_840, f82_842, f82_844, f82_846, f82_848, f82_849, f82_850, f82_852, f82_854, f82_856, h82_858, hb829, hb831, hb833, hb835, hb837, hb839, hb841, hb843, hb845, hb847, hb851, hb853, hb855, hb857, hb859⟩ := (hI818 82 (by decide) (by decide) : cp82 (wget w816 82))
                    refine xg_cVv mX12_must (vs := [(0, 59)]) (rest := []) (cn1 := 0) (sl1 := 0) rfl (mMust (hI818) (by omega) pk824.2.2.2) rfl h82_858 rfl rfl rfl rfl rfl rfl (fun w860 hq861 => ?_)
                    obtain ⟨hI862, hF863, hx864⟩ := hq861
                    have pk865 : PK w w860 := PK.tr pk824 hx864
                    have ro866 : ∀ l, l < fld w 82 14 → l < 16 → rwv w860 112 (20 * l) = rwv w 112 (20 * l) := fun l hl h6 => (rwv_fr hF863 (by decide)).trans (ro825 l hl h6)
                    have hq867 := pk865
                    unfold PK PS at hq867
                    clear hq826
                    have ms868 : mu w860 < mu w := Nat.lt_of_le_of_lt hx864.2.1 ms827
                    refine xg_t (xg_aload (va := (2, 82)) rfl rfl) ?_
                    refine xg_t (xg_const) ?_
                    refine xg_t (xg_iload (va := (0, kr)) rfl rfl) ?_
                    have hl869 : fld w860 82 14 ≤ 2000 := by omega
                    obtain ⟨f82_870, f82_872, f82_874, f82_876, f82_878, f82_880, f82_882, f82_884, f82_886, f82_888, f82_890, f82_891, f82_892, f82_894, f82_896, f82_898, h82_900, hb871, hb873, hb875, hb877, hb879, hb881, hb883, hb885, hb887, hb889, hb893, hb895, hb897, hb899, hb901⟩ := (hI862 82 (by decide) (by decide) : cp82 (wget w860 82))
                    refine xg_cVv mX12_rulePuts (vs := [(0, 0), (0, kr)]) (rest := []) (cn1 := 0) (sl1 := 0) rfl (mRulePuts (hI862) (by omega) (by omega) (by omega)) rfl h82_900 rfl rfl rfl rfl rfl rfl (fun w902 hq903 => ?_)
                    obtain ⟨hI904, hF905, hx906⟩ := hq903
                    have hx907 := hx906
                    have pk908 : PK w w902 := PK.tr pk865 (PK.fr hF905 (by decide) (by decide) pk865.2.2.2)
                    have ro909 : ∀ l, l < fld w 82 14 → l < 16 → rwv w902 112 (20 * l) = rwv w 112 (20 * l) := fun l hl h6 => ((hx907 _ (by omega)).2 (by omega)).trans (ro866 l hl h6)
                    have hq910 := pk908
                    unfold PK PS at hq910
                    clear hq867
                    have ms911 : mu w902 < mu w := Nat.lt_of_le_of_lt (PK.fr hF905 (by decide) (by decide) pk865.2.2.2).2.1 ms868
                    have rz912 : fld w 82 14 < 16 → rwv w902 112 (20 * fld w 82 14) = kr := fun h6 => (hx907 _ (by omega)).1 ⟨by omega, by omega⟩
                    refine xg_t (xg_aload (va := (2, 82)) rfl rfl) ?_
                    refine xg_t (xg_bip) ?_
                    refine xg_t (xg_iload (va := (0, f82_618)) rfl rfl) ?_
                    have hl913 : fld w902 82 14 ≤ 2000 := by omega
                    refine xg_cVv mX12_rulePuts (vs := [(0, 17), (0, f82_618)]) (rest := []) (cn1 := 0) (sl1 := 0) rfl (mRulePuts (hI904) (by omega) (by omega) (by omega)) rfl (hF905.get (by decide) h82_900) rfl rfl rfl rfl rfl rfl (fun w914 hq915 => ?_)
                    obtain ⟨hI916, hF917, hx918⟩ := hq915
                    have hx919 := hx918
                    have pk920 : PK w w914 := PK.tr pk908 (PK.fr hF917 (by decide) (by decide) pk908.2.2.2)
                    have ro921 : ∀ l, l < fld w 82 14 → l < 16 → rwv w914 112 (20 * l) = rwv w 112 (20 * l) := fun l hl h6 => ((hx919 _ (by omega)).2 (by omega)).trans (ro909 l hl h6)
                    have hq922 := pk920
                    unfold PK PS at hq922
                    clear hq910
                    have ms923 : mu w914 < mu w := Nat.lt_of_le_of_lt (PK.fr hF917 (by decide) (by decide) pk908.2.2.2).2.1 ms911
                    have rz924 : fld w 82 14 < 16 → rwv w914 112 (20 * fld w 82 14) = kr := fun h6 => ((hx919 _ (by omega)).2 (by omega)).trans (rz912 h6)
                    refine xg_t (xg_aload (va := (2, 82)) rfl rfl) ?_
                    refine xg_t (xg_bip) ?_
                    refine xg_t (xg_iload (va := (0, n820)) rfl rfl) ?_
                    have hl925 : fld w914 82 14 ≤ 2000 := by omega
                    refine xg_cVv mX12_rulePuts (vs := [(0, 18), (0, n820)]) (rest := []) (cn1 := 0) (sl1 := 0) rfl (mRulePuts (hI916) (by omega) (by omega) (by omega)) rfl (hF917.get (by decide) (hF905.get (by decide) h82_900)) rfl rfl rfl rfl rfl rfl (fun w926 hq927 => ?_)
                    obtain ⟨hI928, hF929, hx930⟩ := hq927
                    have hx931 := hx930
                    have pk932 : PK w w926 := PK.tr pk920 (PK.fr hF929 (by decide) (by decide) pk920.2.2.2)
                    have ro933 : ∀ l, l < fld w 82 14 → l < 16 → rwv w926 112 (20 * l) = rwv w 112 (20 * l) := fun l hl h6 => ((hx931 _ (by omega)).2 (by omega)).trans (ro921 l hl h6)
                    have hq934 := pk932
                    unfold PK PS at hq934
                    clear hq922
                    have ms935 : mu w926 < mu w := Nat.lt_of_le_of_lt (PK.fr hF929 (by decide) (by decide) pk920.2.2.2).2.1 ms923
                    have rz936 : fld w 82 14 < 16 → rwv w926 112 (20 * fld w 82 14) = kr := fun h6 => ((hx931 _ (by omega)).2 (by omega)).trans (rz924 h6)
                    have hf937 : fld w926 82 4 = f82_874 := fld_of (hF929.get (by decide) (hF917.get (by decide) (hF905.get (by decide) h82_900)))
                    have hf938 : fld w926 82 5 = f82_876 := fld_of (hF929.get (by decide) (hF917.get (by decide) (hF905.get (by decide) h82_900)))
                    have hf939 : fld w926 82 7 = f82_880 := fld_of (hF929.get (by decide) (hF917.get (by decide) (hF905.get (by decide) h82_900)))
                    have hf940 : fld w926 82 10 = f82_886 := fld_of (hF929.get (by decide) (hF917.get (by decide) (hF905.get (by decide) h82_900)))
                    have hf941 : fld w926 82 14 = f82_888 := fld_of (hF929.get (by decide) (hF917.get (by decide) (hF905.get (by decide) h82_900)))
                    have hu942 : mu w926 = 2 * (fld w926 82 4 - fld w926 82 5) + min 1 (fld w926 82 7) := rfl
                    have hl943 : f82_888 ≤ 1001 := by omega
                    refine xg_t (xg_aload (va := (2, 82)) rfl rfl) ?_
                    refine xg_t (xg_dup rfl) ?_
                    refine xg_t (xg_getf (va := (0, f82_888)) (hF929.get (by decide) (hF917.get (by decide) (hF905.get (by decide) h82_900))) rfl) ?_
                    refine xg_t (xg_const) ?_
                    refine xg_t (xg_iadd (u := f82_888) (v := 1) (z := f82_888 + 1) xnm0 xnm0 (by omega)) ?_
                    refine xg_putI (fl1 := [(2, 83), (2, 84), (0, f82_870), (0, f82_872), (0, f82_874), (0, f82_876), (0, f82_878), (0, f82_880), (0, f82_882), (0, f82_884), (0, f82_886), (2, 85), (2, 86), (2, 87), (0, f82_888 + 1), (2, 88), (2, 89), (2, 90), (2, 91), (2, 92), (2, 93), (2, 94), (4, f82_890), (4, f82_891), (0, f82_892), (2, 95), (2, 96), (2, 97), (2, 98), (2, 99), (2, 100), (2, 101), (2, 102), (0, f82_894), (2, 103), (2, 104), (2, 105), (2, 106), (2, 107), (2, 108), (2, 109), (0, f82_896), (0, f82_898), (2, 110), (2, 111), (2, 112), (2, 113)]) (hF929.get (by decide) (hF917.get (by decide) (hF905.get (by decide) h82_900))) rfl rfl rfl (fun w944 hk945 hb946 => ?_)
                    have hF947 : xFr [82] w926 w944 := xFr.of hb946 (by decide)
                    have hA948 := FA_fr hF947 (by decide)
                    have hf949 : fld w944 82 4 = f82_874 := fld_of hk945
                    have hf950 : fld w944 82 5 = f82_876 := fld_of hk945
                    have hf951 : fld w944 82 7 = f82_880 := fld_of hk945
                    have hf952 : fld w944 82 10 = f82_886 := fld_of hk945
                    have hf953 : fld w944 82 14 = f82_888 + 1 := fld_of hk945
                    have hu954 : mu w944 = 2 * (fld w944 82 4 - fld w944 82 5) + min 1 (fld w944 82 7) := rfl
                    have hD955 : FA w944 ≠ 0 ∨ (RD w → RD w944) := by
                      by_cases z : FA w944 ≠ 0
                      · exact Or.inl z
                      · refine Or.inr (fun hd => ⟨by omega, fun l hl => ?_⟩)
                        rw [rwv_fr hF947 (by decide)]
                        by_cases y : l = fld w 82 14
                        · rw [y, rz936 (by omega)]; omega
                        · rw [ro933 l (by omega) (by have := hd.1; omega)]; exact hd.2 l (by omega)
                    exact xg_e ⟨w944, ⟨rfl, rfl⟩, xMnv.up (S := [82]) hI928 (xFr.of (S := [82]) hb946 (by decide)) (List.forall_mem_cons.mpr ⟨(show cp82 (wget w944 82) from ⟨f82_870, f82_872, f82_874, f82_876, f82_878, f82_880, f82_882, f82_884, f82_886, f82_888 + 1, f82_890, f82_891, f82_892, f82_894, f82_896, f82_898, hk945, by omega, by omega, by omega, by omega, by omega, by omega, by omega, by omega, by omega, by omega, by omega, by omega, by omega, by omega, by omega⟩), fun _ h => absurd h List.not_mem_nil⟩), ((((((((hF549.tr (hF598.up (by decide))).tr (hF643.up (by decide))).tr (hF819.up (by decide))).tr (hF863.up (by decide))).tr (hF905.up (by decide))).tr (hF917.up (by decide))).tr (hF929.up (by decide))).tr (xFr.of (S := [82, 83, 112, 113]) hb946 (by decide))), ⟨fun h => by have := pk932.1 h; omega, (show fld w944 82 10 = 0 ∨ FA w944 ≠ 0 by omega), Or.inr ⟨by have := ms935; omega, by omega⟩, hD955⟩⟩
                · refine xg_t (xg_ifF (u := (if 40 ≤ f82_618 ∧ f82_618 ≤ 42 then 1 else 0)) rfl xnm0 (xj_neF (xite0 hc638))) ?_
                  refine xg_t (xg_blk (b := [(136, 1, 0, 0, 0, 0), (137, 3, 13, 140, 96, 183), (140, 1, 12, 0, 0, 0)]) rfl) ?_
                  refine xg_t (xg_aload (va := (2, 82)) rfl rfl) ?_
                  refine xg_cVv mX12_ends (vs := []) (rest := []) (cn1 := 0) (sl1 := 0) rfl (mEnds (hI597) pk600.2.2.2) rfl h82_634 rfl rfl rfl rfl rfl rfl (fun w956 hq957 => ?_)
                  obtain ⟨hI958, hF959, hx960⟩ := hq957
                  obtain ⟨hv961, hv962, hv963, hv964⟩ := hx960
                  have pk965 : PK w595 w956 := ⟨fun _ => hv961, by omega, by omega, Or.inr hv961⟩
                  have pk966 : PK w w956 := PK.tr pk600 pk965
                  have ro967 : ∀ l, l < fld w 82 14 → l < 16 → rwv w956 112 (20 * l) = rwv w 112 (20 * l) := fun l hl h6 => (rwv_fr hF959 (by decide)).trans (ro601 l hl h6)
                  have hq968 := pk966
                  unfold PK PS at hq968
                  clear hq602
                  have ms969 : mu w956 < mu w := Nat.lt_of_le_of_lt pk965.2.1 ms603
                  obtain ⟨f82_970, f82_972, f82_974, f82_976, f82_978, f82_980, f82_982, f82_984, f82_986, f82_988, f82_990, f82_991, f82_992, f82_994, f82_996, f82_998, h82_1000, hb971, hb973, hb975, hb977, hb979, hb981, hb983, hb985, hb987, hb989, hb993, hb995, hb997, hb999, hb1001⟩ := (hI958 82 (by decide) (by decide) : cp82 (wget w956 82))
                  exact xg_e ⟨w956, ⟨rfl, rfl⟩, hI958, ((hF549.tr (hF598.up (by decide))).tr (hF959.up (by decide))), ⟨pk966.1, pk966.2.2.2, Or.inl ⟨by omega, pk966.2.1, pk966.2.2.1⟩, Or.inl (by omega)⟩⟩
              · refine xg_t (xg_icT (u := f82_614) (v := 3) rfl xnm0 xnm0 (xj_neT hc637)) ?_
                refine xg_t (xg_blk (b := [(136, 1, 0, 0, 0, 0), (137, 3, 13, 140, 96, 183), (140, 1, 12, 0, 0, 0)]) rfl) ?_
                refine xg_t (xg_aload (va := (2, 82)) rfl rfl) ?_
                refine xg_cVv mX12_ends (vs := []) (rest := []) (cn1 := 0) (sl1 := 0) rfl (mEnds (hI597) pk600.2.2.2) rfl h82_634 rfl rfl rfl rfl rfl rfl (fun w1002 hq1003 => ?_)
                obtain ⟨hI1004, hF1005, hx1006⟩ := hq1003
                obtain ⟨hv1007, hv1008, hv1009, hv1010⟩ := hx1006
                have pk1011 : PK w595 w1002 := ⟨fun _ => hv1007, by omega, by omega, Or.inr hv1007⟩
                have pk1012 : PK w w1002 := PK.tr pk600 pk1011
                have ro1013 : ∀ l, l < fld w 82 14 → l < 16 → rwv w1002 112 (20 * l) = rwv w 112 (20 * l) := fun l hl h6 => (rwv_fr hF1005 (by decide)).trans (ro601 l hl h6)
                have hq1014 := pk1012
                unfold PK PS at hq1014
                clear hq602
                have ms1015 : mu w1002 < mu w := Nat.lt_of_le_of_lt pk1011.2.1 ms603
                obtain ⟨f82_1016, f82_1018, f82_1020, f82_1022, f82_1024, f82_1026, f82_1028, f82_1030, f82_1032, f82_1034, f82_1036, f82_1037, f82_1038, f82_1040, f82_1042, f82_1044, h82_1046, hb1017, hb1019, hb1021, hb1023, hb1025, hb1027, hb1029, hb1031, hb1033, hb1035, hb1039, hb1041, hb1043, hb1045, hb1047⟩ := (hI1004 82 (by decide) (by decide) : cp82 (wget w1002 82))
                exact xg_e ⟨w1002, ⟨rfl, rfl⟩, hI1004, ((hF549.tr (hF598.up (by decide))).tr (hF1005.up (by decide))), ⟨pk1012.1, pk1012.2.2.2, Or.inl ⟨by omega, pk1012.2.1, pk1012.2.2.1⟩, Or.inl (by omega)⟩⟩
            · refine xg_t (xg_ifT (u := f82_620) rfl xnm0 (xj_neT hc636)) ?_
              refine xg_t (xg_blk (b := [(136, 1, 0, 0, 0, 0), (137, 3, 13, 140, 96, 183), (140, 1, 12, 0, 0, 0)]) rfl) ?_
              refine xg_t (xg_aload (va := (2, 82)) rfl rfl) ?_
              refine xg_cVv mX12_ends (vs := []) (rest := []) (cn1 := 0) (sl1 := 0) rfl (mEnds (hI597) pk600.2.2.2) rfl h82_634 rfl rfl rfl rfl rfl rfl (fun w1048 hq1049 => ?_)
              obtain ⟨hI1050, hF1051, hx1052⟩ := hq1049
              obtain ⟨hv1053, hv1054, hv1055, hv1056⟩ := hx1052
              have pk1057 : PK w595 w1048 := ⟨fun _ => hv1053, by omega, by omega, Or.inr hv1053⟩
              have pk1058 : PK w w1048 := PK.tr pk600 pk1057
              have ro1059 : ∀ l, l < fld w 82 14 → l < 16 → rwv w1048 112 (20 * l) = rwv w 112 (20 * l) := fun l hl h6 => (rwv_fr hF1051 (by decide)).trans (ro601 l hl h6)
              have hq1060 := pk1058
              unfold PK PS at hq1060
              clear hq602
              have ms1061 : mu w1048 < mu w := Nat.lt_of_le_of_lt pk1057.2.1 ms603
              obtain ⟨f82_1062, f82_1064, f82_1066, f82_1068, f82_1070, f82_1072, f82_1074, f82_1076, f82_1078, f82_1080, f82_1082, f82_1083, f82_1084, f82_1086, f82_1088, f82_1090, h82_1092, hb1063, hb1065, hb1067, hb1069, hb1071, hb1073, hb1075, hb1077, hb1079, hb1081, hb1085, hb1087, hb1089, hb1091, hb1093⟩ := (hI1050 82 (by decide) (by decide) : cp82 (wget w1048 82))
              exact xg_e ⟨w1048, ⟨rfl, rfl⟩, hI1050, ((hF549.tr (hF598.up (by decide))).tr (hF1051.up (by decide))), ⟨pk1058.1, pk1058.2.2.2, Or.inl ⟨by omega, pk1058.2.1, pk1058.2.2.1⟩, Or.inl (by omega)⟩⟩
          · refine xg_t (xg_ifF (u := mo) rfl xnm0 (xj_eqF hc594)) ?_
            refine xg_t (xg_iload (va := (0, kr)) rfl rfl) ?_
            refine xg_t (xg_const) ?_
            by_cases hc1094 : 3 < kr
            · refine xg_t (xg_icF (u := kr) (v := 3) rfl xnm0 xnm0 (xj_leF hc1094 (by omega))) ?_
              refine xg_t (xg_aload (va := (2, 82)) rfl rfl) ?_
              refine xg_t (xg_const) ?_
              refine xg_t (xg_aload (va := (2, 82)) rfl rfl) ?_
              refine xg_t (xg_getf (va := (0, f82_570)) h82_592 rfl) ?_
              refine xg_cVv mX12_also (vs := [(0, 3), (0, f82_570)]) (rest := []) (cn1 := 0) (sl1 := 0) rfl (mAlso (hI548) (by omega) (by omega) (by omega) hz554.2.2.2) rfl h82_592 rfl rfl rfl rfl rfl rfl (fun w1095 hq1096 => ?_)
              obtain ⟨hI1097, hF1098, hx1099⟩ := hq1096
              have pk1100 : PK w547 w1095 := ⟨fun _ => hx1099, Nat.le_of_eq (mu_fr hF1098 (by decide)), fld_fr hF1098 (by decide), Or.inr hx1099⟩
              have hA1101 := hx1099
              have pk1102 : PK w w1095 := PK.tr hz554 pk1100
              have ro1103 : ∀ l, l < fld w 82 14 → l < 16 → rwv w1095 112 (20 * l) = rwv w 112 (20 * l) := fun l hl h6 => (rwv_fr hF1098 (by decide)).trans (hz555 l hl h6)
              have hq1104 := pk1102
              unfold PK PS at hq1104
              clear hq561
              have pj1105 : PK w547 w1095 := PK.tr (PK.rf hz554.2.2.2) pk1100
              have hq1106 := pj1105
              unfold PK PS at hq1106
              have ms1107 : mu w1095 < mu w := Nat.lt_of_le_of_lt pk1100.2.1 hz556
              refine xg_t (xg_blk (b := [(49, 1, 0, 0, 0, 0), (50, 3, 13, 109, 96, 421), (53, 1, 3, 0, 0, 0), (54, 1, 15, 3, 0, 0)]) rfl) ?_
              refine xg_t (xg_aload (va := (2, 82)) rfl rfl) ?_
              refine xg_cVv mX12_aTest (vs := []) (rest := []) (cn1 := 0) (sl1 := 0) rfl (mATest (hI1097) pk1102.2.2.2) rfl (hF1098.get (by decide) h82_592) rfl rfl rfl rfl rfl rfl (fun w1108 hq1109 => ?_)
              obtain ⟨hI1110, hF1111, hx1112⟩ := hq1109
              have pk1113 : PK w w1108 := PK.tr pk1102 hx1112
              have ro1114 : ∀ l, l < fld w 82 14 → l < 16 → rwv w1108 112 (20 * l) = rwv w 112 (20 * l) := fun l hl h6 => (rwv_fr hF1111 (by decide)).trans (ro1103 l hl h6)
              have hq1115 := pk1113
              unfold PK PS at hq1115
              clear hq1104
              have pj1116 : PK w547 w1108 := PK.tr pj1105 hx1112
              have hq1117 := pj1116
              unfold PK PS at hq1117
              clear hq1106
              have ms1118 : mu w1108 < mu w := Nat.lt_of_le_of_lt hx1112.2.1 ms1107
              refine xg_t (xg_const) ?_
              refine xg_t (xg_istore (l1 := [(0, (2, 82)), (1, (0, kr)), (2, (0, mo))]) rfl rfl rfl) ?_
              refine xg_t (xg_blk (b := [(55, 1, 2, 3, 0, 0), (56, 1, 3, 4, 0, 0), (57, 3, 6, 88, 3, 0), (60, 1, 2, 1, 0, 0), (61, 1, 3, 4, 0, 0), (62, 3, 6, 88, 3, 0), (65, 1, 0, 0, 0, 0), (66, 1, 3, 1, 0, 0), (67, 1, 3, 4, 0, 0), (68, 1, 2, 1, 0, 0), (69, 1, 16, 0, 0, 0), (70, 1, 11, 0, 0, 0), (71, 1, 2, 3, 0, 0), (72, 1, 11, 0, 0, 0), (73, 1, 0, 0, 0, 0), (74, 3, 1, 12, 46, 102), (77, 1, 2, 3, 0, 0), (78, 1, 10, 0, 0, 0), (79, 3, 13, 214, 96, 424), (82, 3, 9, 3, 1, 0), (85, 3, 8, 55, 0, 0)]) rfl) ?_
              refine xg_t (xg_iload (va := (0, 0)) rfl rfl) ?_
              refine xg_t (xg_const) ?_
              refine xg_t (xg_icF (u := 0) (v := 4) rfl xnm0 xnm0 (by decide)) ?_
              refine xg_t (xg_iload (va := (0, kr)) rfl rfl) ?_
              refine xg_t (xg_const) ?_
              refine xg_t (xg_icT (u := kr) (v := 4) rfl xnm0 xnm0 (xj_geT (by omega) (by omega))) ?_
              refine xg_t (xg_blk (b := [(88, 3, 9, 1, 1, 0), (91, 1, 0, 0, 0, 0), (92, 2, 4, 51, 0, 0), (94, 3, 13, 227, 96, 415), (97, 1, 15, 2, 0, 0), (98, 3, 8, 31, 0, 0)]) rfl) ?_
              refine xg_t (xg_iinc (u := kr) (z := kr + 1) (l1 := [(3, (0, 0)), (0, (2, 82)), (2, (0, mo))]) rfl rfl (by omega) rfl) ?_
              refine xg_t (xg_aload (va := (2, 82)) rfl rfl) ?_
              refine xg_t (xg_bip) ?_
              obtain ⟨f82_1119, f82_1121, f82_1123, f82_1125, f82_1127, f82_1129, f82_1131, f82_1133, f82_1135, f82_1137, f82_1139, f82_1140, f82_1141, f82_1143, f82_1145, f82_1147, h82_1149, hb1120, hb1122, hb1124, hb1126, hb1128, hb1130, hb1132, hb1134, hb1136, hb1138, hb1142, hb1144, hb1146, hb1148, hb1150⟩ := (hI1110 82 (by decide) (by decide) : cp82 (wget w1108 82))
              refine xg_cVi mX12_takes (vs := [(0, 51)]) (rest := []) (cn1 := 0) (sl1 := 0) rfl (mTakes (hI1110) (by omega) pk1113.2.2.2) rfl h82_1149 rfl rfl rfl rfl rfl rfl (fun n1155 w1151 hq1152 => ?_)
              obtain ⟨hn1156, hI1153, hF1154⟩ := hq1152
              obtain ⟨hn1157, hn1158, hn1159⟩ := hn1156
              have pk1160 : PK w w1151 := PK.tr pk1113 hn1158
              have ro1161 : ∀ l, l < fld w 82 14 → l < 16 → rwv w1151 112 (20 * l) = rwv w 112 (20 * l) := fun l hl h6 => (rwv_fr hF1154 (by decide)).trans (ro1114 l hl h6)
              have hq1162 := pk1160
              unfold PK PS at hq1162
              clear hq1115
              have pj1163 : PK w547 w1151 := PK.tr pj1116 hn1158
              have hq1164 := pj1163
              unfold PK PS at hq1164
              clear hq1117
              have ms1165 : mu w1151 < mu w := Nat.lt_of_le_of_lt hn1158.2.1 ms1118
              have hu1166 : n1155 = 1 → mu w1151 < mu w547 := fun h => Nat.lt_of_lt_of_le (hn1159 h) pj1116.2.1
              refine xg_t (xg_istore (l1 := [(1, (0, kr + 1)), (3, (0, 0)), (0, (2, 82))]) rfl rfl rfl) ?_
              refine xg_t (xg_goto) ?_
              refine xg_t (xg_drop (l1 := [(0, (2, 82)), (1, (0, kr + 1)), (2, (0, n1155))]) (List.forall_mem_cons.mpr ⟨List.mem_cons_of_mem _ (List.mem_cons_of_mem _ (List.mem_cons_of_mem _ (List.mem_cons_self))), List.forall_mem_cons.mpr ⟨List.mem_cons_of_mem _ (List.mem_cons_self), List.forall_mem_cons.mpr ⟨List.mem_cons_self, fun _ h => absurd h List.not_mem_nil⟩⟩⟩)) ?_
              exact ih545 (kr + 1) n1155 w1151 (by omega) (by omega) (by omega) (hI1153) ((((hF549.tr (hF1098.up (by decide))).tr (hF1111.up (by decide))).tr (hF1154.up (by decide)))) (⟨pk1160, ro1161, ms1165, by omega, by omega, fun _ => by omega, fun h => by omega⟩)
            · refine xg_t (xg_icT (u := kr) (v := 3) rfl xnm0 xnm0 (xj_leT (by omega) (by omega))) ?_
              refine xg_t (xg_blk (b := [(49, 1, 0, 0, 0, 0), (50, 3, 13, 109, 96, 421), (53, 1, 3, 0, 0, 0), (54, 1, 15, 3, 0, 0)]) rfl) ?_
              refine xg_t (xg_aload (va := (2, 82)) rfl rfl) ?_
              refine xg_cVv mX12_aTest (vs := []) (rest := []) (cn1 := 0) (sl1 := 0) rfl (mATest (hI548) hz554.2.2.2) rfl h82_592 rfl rfl rfl rfl rfl rfl (fun w1167 hq1168 => ?_)
              obtain ⟨hI1169, hF1170, hx1171⟩ := hq1168
              have pk1172 : PK w w1167 := PK.tr hz554 hx1171
              have ro1173 : ∀ l, l < fld w 82 14 → l < 16 → rwv w1167 112 (20 * l) = rwv w 112 (20 * l) := fun l hl h6 => (rwv_fr hF1170 (by decide)).trans (hz555 l hl h6)
              have hq1174 := pk1172
              unfold PK PS at hq1174
              clear hq561
              have pj1175 : PK w547 w1167 := PK.tr (PK.rf hz554.2.2.2) hx1171
              have hq1176 := pj1175
              unfold PK PS at hq1176
              have ms1177 : mu w1167 < mu w := Nat.lt_of_le_of_lt hx1171.2.1 hz556
              refine xg_t (xg_const) ?_
              refine xg_t (xg_istore (l1 := [(0, (2, 82)), (1, (0, kr)), (2, (0, mo))]) rfl rfl rfl) ?_
              refine xg_t (xg_blk (b := [(55, 1, 2, 3, 0, 0), (56, 1, 3, 4, 0, 0), (57, 3, 6, 88, 3, 0), (60, 1, 2, 1, 0, 0), (61, 1, 3, 4, 0, 0), (62, 3, 6, 88, 3, 0), (65, 1, 0, 0, 0, 0), (66, 1, 3, 1, 0, 0), (67, 1, 3, 4, 0, 0), (68, 1, 2, 1, 0, 0), (69, 1, 16, 0, 0, 0), (70, 1, 11, 0, 0, 0), (71, 1, 2, 3, 0, 0), (72, 1, 11, 0, 0, 0), (73, 1, 0, 0, 0, 0), (74, 3, 1, 12, 46, 102), (77, 1, 2, 3, 0, 0), (78, 1, 10, 0, 0, 0), (79, 3, 13, 214, 96, 424), (82, 3, 9, 3, 1, 0), (85, 3, 8, 55, 0, 0)]) rfl) ?_
              refine xg_t (xg_iload (va := (0, 0)) rfl rfl) ?_
              refine xg_t (xg_const) ?_
              refine xg_t (xg_icF (u := 0) (v := 4) rfl xnm0 xnm0 (by decide)) ?_
              refine xg_t (xg_iload (va := (0, kr)) rfl rfl) ?_
              refine xg_t (xg_const) ?_
              refine xg_t (xg_icF (u := kr) (v := 4) rfl xnm0 xnm0 (xj_geF (by omega) (by omega))) ?_
              refine xg_t (xg_aload (va := (2, 82)) rfl rfl) ?_
              refine xg_t (xg_const) ?_
              refine xg_t (xg_const) ?_
              refine xg_t (xg_iload (va := (0, kr)) rfl rfl) ?_
              refine xg_t (xg_imul (u := 4) (v := kr) (z := 4 * kr) xnm0 xnm0 (by omega)) ?_
              refine xg_t (xg_iadd (u := 1) (v := 4 * kr) (z := 1 + (4 * kr)) xnm0 xnm0 (by omega)) ?_
              refine xg_t (xg_iload (va := (0, 0)) rfl rfl) ?_
              refine xg_t (xg_iadd (u := 1 + (4 * kr)) (v := 0) (z := (1 + (4 * kr)) + 0) xnm0 xnm0 (by omega)) ?_
              refine xg_t (xg_aload (va := (2, 82)) rfl rfl) ?_
              obtain ⟨f82_1178, f82_1180, f82_1182, f82_1184, f82_1186, f82_1188, f82_1190, f82_1192, f82_1194, f82_1196, f82_1198, f82_1199, f82_1200, f82_1202, f82_1204, f82_1206, h82_1208, hb1179, hb1181, hb1183, hb1185, hb1187, hb1189, hb1191, hb1193, hb1195, hb1197, hb1201, hb1203, hb1205, hb1207, hb1209⟩ := (hI1169 82 (by decide) (by decide) : cp82 (wget w1167 82))
              refine xg_t (xg_getf (va := (2, 113)) h82_1208 rfl) ?_
              refine xg_t (xg_iload (va := (0, 0)) rfl rfl) ?_
              obtain ⟨g113_1210, h113_1211, hb1212⟩ := (hI1169 113 (by decide) (by decide) : cpI 4 80 4294967295 (wget w1167 113))
              have h113_1211 : xRow w1167 113 4 80 g113_1210 := h113_1211
              refine xg_ialdB (n := 0) (B := 4294967295) h113_1211 (hb1212) xnm0 (by omega) (fun u1213 hu1214 he1215 => ?_)
              have hl1216 : fld w1167 82 14 ≤ 2000 := by omega
              refine xg_cVv mX12_rulePuts (vs := [(0, (1 + (4 * kr)) + 0), (0, u1213)]) (rest := []) (cn1 := 0) (sl1 := 0) rfl (mRulePuts (hI1169) (by omega) (by omega) (by omega)) rfl h82_1208 rfl rfl rfl rfl rfl rfl (fun w1217 hq1218 => ?_)
              obtain ⟨hI1219, hF1220, hx1221⟩ := hq1218
              have hx1222 := hx1221
              have pk1223 : PK w w1217 := PK.tr pk1172 (PK.fr hF1220 (by decide) (by decide) pk1172.2.2.2)
              have ro1224 : ∀ l, l < fld w 82 14 → l < 16 → rwv w1217 112 (20 * l) = rwv w 112 (20 * l) := fun l hl h6 => ((hx1222 _ (by omega)).2 (by omega)).trans (ro1173 l hl h6)
              have hq1225 := pk1223
              unfold PK PS at hq1225
              clear hq1174
              have pj1226 : PK w547 w1217 := PK.tr pj1175 (PK.fr hF1220 (by decide) (by decide) pk1172.2.2.2)
              have hq1227 := pj1226
              unfold PK PS at hq1227
              clear hq1176
              have ms1228 : mu w1217 < mu w := Nat.lt_of_le_of_lt (PK.fr hF1220 (by decide) (by decide) pk1172.2.2.2).2.1 ms1177
              refine xg_t (xg_iinc (u := 0) (z := 1) (l1 := [(0, (2, 82)), (1, (0, kr)), (2, (0, mo))]) rfl rfl (by decide) rfl) ?_
              refine xg_t (xg_goto) ?_
              refine xg_t (xg_blk (b := [(55, 1, 2, 3, 0, 0), (56, 1, 3, 4, 0, 0), (57, 3, 6, 88, 3, 0), (60, 1, 2, 1, 0, 0), (61, 1, 3, 4, 0, 0), (62, 3, 6, 88, 3, 0), (65, 1, 0, 0, 0, 0), (66, 1, 3, 1, 0, 0), (67, 1, 3, 4, 0, 0), (68, 1, 2, 1, 0, 0), (69, 1, 16, 0, 0, 0), (70, 1, 11, 0, 0, 0), (71, 1, 2, 3, 0, 0), (72, 1, 11, 0, 0, 0), (73, 1, 0, 0, 0, 0), (74, 3, 1, 12, 46, 102), (77, 1, 2, 3, 0, 0), (78, 1, 10, 0, 0, 0), (79, 3, 13, 214, 96, 424), (82, 3, 9, 3, 1, 0), (85, 3, 8, 55, 0, 0)]) rfl) ?_
              refine xg_t (xg_iload (va := (0, 1)) rfl rfl) ?_
              refine xg_t (xg_const) ?_
              refine xg_t (xg_icF (u := 1) (v := 4) rfl xnm0 xnm0 (by decide)) ?_
              refine xg_t (xg_iload (va := (0, kr)) rfl rfl) ?_
              refine xg_t (xg_const) ?_
              refine xg_t (xg_icF (u := kr) (v := 4) rfl xnm0 xnm0 (xj_geF (by omega) (by omega))) ?_
              refine xg_t (xg_aload (va := (2, 82)) rfl rfl) ?_
              refine xg_t (xg_const) ?_
              refine xg_t (xg_const) ?_
              refine xg_t (xg_iload (va := (0, kr)) rfl rfl) ?_
              refine xg_t (xg_imul (u := 4) (v := kr) (z := 4 * kr) xnm0 xnm0 (by omega)) ?_
              refine xg_t (xg_iadd (u := 1) (v := 4 * kr) (z := 1 + (4 * kr)) xnm0 xnm0 (by omega)) ?_
              refine xg_t (xg_iload (va := (0, 1)) rfl rfl) ?_
              refine xg_t (xg_iadd (u := 1 + (4 * kr)) (v := 1) (z := (1 + (4 * kr)) + 1) xnm0 xnm0 (by omega)) ?_
              refine xg_t (xg_aload (va := (2, 82)) rfl rfl) ?_
              refine xg_t (xg_getf (va := (2, 113)) (hF1220.get (by decide) h82_1208) rfl) ?_
              refine xg_t (xg_iload (va := (0, 1)) rfl rfl) ?_
              refine xg_ialdB (n := 1) (B := 4294967295) (h113_1211.fr hF1220 (by decide)) (hb1212) xnm0 (by omega) (fun u1229 hu1230 he1231 => ?_)
              have hl1232 : fld w1217 82 14 ≤ 2000 := by omega
              refine xg_cVv mX12_rulePuts (vs := [(0, (1 + (4 * kr)) + 1), (0, u1229)]) (rest := []) (cn1 := 0) (sl1 := 0) rfl (mRulePuts (hI1219) (by omega) (by omega) (by omega)) rfl (hF1220.get (by decide) h82_1208) rfl rfl rfl rfl rfl rfl (fun w1233 hq1234 => ?_)
              obtain ⟨hI1235, hF1236, hx1237⟩ := hq1234
              have hx1238 := hx1237
              have pk1239 : PK w w1233 := PK.tr pk1223 (PK.fr hF1236 (by decide) (by decide) pk1223.2.2.2)
              have ro1240 : ∀ l, l < fld w 82 14 → l < 16 → rwv w1233 112 (20 * l) = rwv w 112 (20 * l) := fun l hl h6 => ((hx1238 _ (by omega)).2 (by omega)).trans (ro1224 l hl h6)
              have hq1241 := pk1239
              unfold PK PS at hq1241
              clear hq1225
              have pj1242 : PK w547 w1233 := PK.tr pj1226 (PK.fr hF1236 (by decide) (by decide) pk1223.2.2.2)
              have hq1243 := pj1242
              unfold PK PS at hq1243
              clear hq1227
              have ms1244 : mu w1233 < mu w := Nat.lt_of_le_of_lt (PK.fr hF1236 (by decide) (by decide) pk1223.2.2.2).2.1 ms1228
              refine xg_t (xg_iinc (u := 1) (z := 2) (l1 := [(0, (2, 82)), (1, (0, kr)), (2, (0, mo))]) rfl rfl (by decide) rfl) ?_
              refine xg_t (xg_goto) ?_
              refine xg_t (xg_blk (b := [(55, 1, 2, 3, 0, 0), (56, 1, 3, 4, 0, 0), (57, 3, 6, 88, 3, 0), (60, 1, 2, 1, 0, 0), (61, 1, 3, 4, 0, 0), (62, 3, 6, 88, 3, 0), (65, 1, 0, 0, 0, 0), (66, 1, 3, 1, 0, 0), (67, 1, 3, 4, 0, 0), (68, 1, 2, 1, 0, 0), (69, 1, 16, 0, 0, 0), (70, 1, 11, 0, 0, 0), (71, 1, 2, 3, 0, 0), (72, 1, 11, 0, 0, 0), (73, 1, 0, 0, 0, 0), (74, 3, 1, 12, 46, 102), (77, 1, 2, 3, 0, 0), (78, 1, 10, 0, 0, 0), (79, 3, 13, 214, 96, 424), (82, 3, 9, 3, 1, 0), (85, 3, 8, 55, 0, 0)]) rfl) ?_
              refine xg_t (xg_iload (va := (0, 2)) rfl rfl) ?_
              refine xg_t (xg_const) ?_
              refine xg_t (xg_icF (u := 2) (v := 4) rfl xnm0 xnm0 (by decide)) ?_
              refine xg_t (xg_iload (va := (0, kr)) rfl rfl) ?_
              refine xg_t (xg_const) ?_
              refine xg_t (xg_icF (u := kr) (v := 4) rfl xnm0 xnm0 (xj_geF (by omega) (by omega))) ?_
              refine xg_t (xg_aload (va := (2, 82)) rfl rfl) ?_
              refine xg_t (xg_const) ?_
              refine xg_t (xg_const) ?_
              refine xg_t (xg_iload (va := (0, kr)) rfl rfl) ?_
              refine xg_t (xg_imul (u := 4) (v := kr) (z := 4 * kr) xnm0 xnm0 (by omega)) ?_
              refine xg_t (xg_iadd (u := 1) (v := 4 * kr) (z := 1 + (4 * kr)) xnm0 xnm0 (by omega)) ?_
              refine xg_t (xg_iload (va := (0, 2)) rfl rfl) ?_
              refine xg_t (xg_iadd (u := 1 + (4 * kr)) (v := 2) (z := (1 + (4 * kr)) + 2) xnm0 xnm0 (by omega)) ?_
              refine xg_t (xg_aload (va := (2, 82)) rfl rfl) ?_
              refine xg_t (xg_getf (va := (2, 113)) (hF1236.get (by decide) (hF1220.get (by decide) h82_1208)) rfl) ?_
              refine xg_t (xg_iload (va := (0, 2)) rfl rfl) ?_
              refine xg_ialdB (n := 2) (B := 4294967295) ((h113_1211.fr hF1220 (by decide)).fr hF1236 (by decide)) (hb1212) xnm0 (by omega) (fun u1245 hu1246 he1247 => ?_)
              have hl1248 : fld w1233 82 14 ≤ 2000 := by omega
              refine xg_cVv mX12_rulePuts (vs := [(0, (1 + (4 * kr)) + 2), (0, u1245)]) (rest := []) (cn1 := 0) (sl1 := 0) rfl (mRulePuts (hI1235) (by omega) (by omega) (by omega)) rfl (hF1236.get (by decide) (hF1220.get (by decide) h82_1208)) rfl rfl rfl rfl rfl rfl (fun w1249 hq1250 => ?_)
              obtain ⟨hI1251, hF1252, hx1253⟩ := hq1250
              have hx1254 := hx1253
              have pk1255 : PK w w1249 := PK.tr pk1239 (PK.fr hF1252 (by decide) (by decide) pk1239.2.2.2)
              have ro1256 : ∀ l, l < fld w 82 14 → l < 16 → rwv w1249 112 (20 * l) = rwv w 112 (20 * l) := fun l hl h6 => ((hx1254 _ (by omega)).2 (by omega)).trans (ro1240 l hl h6)
              have hq1257 := pk1255
              unfold PK PS at hq1257
              clear hq1241
              have pj1258 : PK w547 w1249 := PK.tr pj1242 (PK.fr hF1252 (by decide) (by decide) pk1239.2.2.2)
              have hq1259 := pj1258
              unfold PK PS at hq1259
              clear hq1243
              have ms1260 : mu w1249 < mu w := Nat.lt_of_le_of_lt (PK.fr hF1252 (by decide) (by decide) pk1239.2.2.2).2.1 ms1244
              refine xg_t (xg_iinc (u := 2) (z := 3) (l1 := [(0, (2, 82)), (1, (0, kr)), (2, (0, mo))]) rfl rfl (by decide) rfl) ?_
              refine xg_t (xg_goto) ?_
              refine xg_t (xg_blk (b := [(55, 1, 2, 3, 0, 0), (56, 1, 3, 4, 0, 0), (57, 3, 6, 88, 3, 0), (60, 1, 2, 1, 0, 0), (61, 1, 3, 4, 0, 0), (62, 3, 6, 88, 3, 0), (65, 1, 0, 0, 0, 0), (66, 1, 3, 1, 0, 0), (67, 1, 3, 4, 0, 0), (68, 1, 2, 1, 0, 0), (69, 1, 16, 0, 0, 0), (70, 1, 11, 0, 0, 0), (71, 1, 2, 3, 0, 0), (72, 1, 11, 0, 0, 0), (73, 1, 0, 0, 0, 0), (74, 3, 1, 12, 46, 102), (77, 1, 2, 3, 0, 0), (78, 1, 10, 0, 0, 0), (79, 3, 13, 214, 96, 424), (82, 3, 9, 3, 1, 0), (85, 3, 8, 55, 0, 0)]) rfl) ?_
              refine xg_t (xg_iload (va := (0, 3)) rfl rfl) ?_
              refine xg_t (xg_const) ?_
              refine xg_t (xg_icF (u := 3) (v := 4) rfl xnm0 xnm0 (by decide)) ?_
              refine xg_t (xg_iload (va := (0, kr)) rfl rfl) ?_
              refine xg_t (xg_const) ?_
              refine xg_t (xg_icF (u := kr) (v := 4) rfl xnm0 xnm0 (xj_geF (by omega) (by omega))) ?_
              refine xg_t (xg_aload (va := (2, 82)) rfl rfl) ?_
              refine xg_t (xg_const) ?_
              refine xg_t (xg_const) ?_
              refine xg_t (xg_iload (va := (0, kr)) rfl rfl) ?_
              refine xg_t (xg_imul (u := 4) (v := kr) (z := 4 * kr) xnm0 xnm0 (by omega)) ?_
              refine xg_t (xg_iadd (u := 1) (v := 4 * kr) (z := 1 + (4 * kr)) xnm0 xnm0 (by omega)) ?_
              refine xg_t (xg_iload (va := (0, 3)) rfl rfl) ?_
              refine xg_t (xg_iadd (u := 1 + (4 * kr)) (v := 3) (z := (1 + (4 * kr)) + 3) xnm0 xnm0 (by omega)) ?_
              refine xg_t (xg_aload (va := (2, 82)) rfl rfl) ?_
              refine xg_t (xg_getf (va := (2, 113)) (hF1252.get (by decide) (hF1236.get (by decide) (hF1220.get (by decide) h82_1208))) rfl) ?_
              refine xg_t (xg_iload (va := (0, 3)) rfl rfl) ?_
              refine xg_ialdB (n := 3) (B := 4294967295) (((h113_1211.fr hF1220 (by decide)).fr hF1236 (by decide)).fr hF1252 (by decide)) (hb1212) xnm0 (by omega) (fun u1261 hu1262 he1263 => ?_)
              have hl1264 : fld w1249 82 14 ≤ 2000 := by omega
              refine xg_cVv mX12_rulePuts (vs := [(0, (1 + (4 * kr)) + 3), (0, u1261)]) (rest := []) (cn1 := 0) (sl1 := 0) rfl (mRulePuts (hI1251) (by omega) (by omega) (by omega)) rfl (hF1252.get (by decide) (hF1236.get (by decide) (hF1220.get (by decide) h82_1208))) rfl rfl rfl rfl rfl rfl (fun w1265 hq1266 => ?_)
              obtain ⟨hI1267, hF1268, hx1269⟩ := hq1266
              have hx1270 := hx1269
              have pk1271 : PK w w1265 := PK.tr pk1255 (PK.fr hF1268 (by decide) (by decide) pk1255.2.2.2)
              have ro1272 : ∀ l, l < fld w 82 14 → l < 16 → rwv w1265 112 (20 * l) = rwv w 112 (20 * l) := fun l hl h6 => ((hx1270 _ (by omega)).2 (by omega)).trans (ro1256 l hl h6)
              have hq1273 := pk1271
              unfold PK PS at hq1273
              clear hq1257
              have pj1274 : PK w547 w1265 := PK.tr pj1258 (PK.fr hF1268 (by decide) (by decide) pk1255.2.2.2)
              have hq1275 := pj1274
              unfold PK PS at hq1275
              clear hq1259
              have ms1276 : mu w1265 < mu w := Nat.lt_of_le_of_lt (PK.fr hF1268 (by decide) (by decide) pk1255.2.2.2).2.1 ms1260
              refine xg_t (xg_iinc (u := 3) (z := 4) (l1 := [(0, (2, 82)), (1, (0, kr)), (2, (0, mo))]) rfl rfl (by decide) rfl) ?_
              refine xg_t (xg_goto) ?_
              refine xg_t (xg_blk (b := [(55, 1, 2, 3, 0, 0), (56, 1, 3, 4, 0, 0), (57, 3, 6, 88, 3, 0), (60, 1, 2, 1, 0, 0), (61, 1, 3, 4, 0, 0), (62, 3, 6, 88, 3, 0), (65, 1, 0, 0, 0, 0), (66, 1, 3, 1, 0, 0), (67, 1, 3, 4, 0, 0), (68, 1, 2, 1, 0, 0), (69, 1, 16, 0, 0, 0), (70, 1, 11, 0, 0, 0), (71, 1, 2, 3, 0, 0), (72, 1, 11, 0, 0, 0), (73, 1, 0, 0, 0, 0), (74, 3, 1, 12, 46, 102), (77, 1, 2, 3, 0, 0), (78, 1, 10, 0, 0, 0), (79, 3, 13, 214, 96, 424), (82, 3, 9, 3, 1, 0), (85, 3, 8, 55, 0, 0)]) rfl) ?_
              refine xg_t (xg_iload (va := (0, 4)) rfl rfl) ?_
              refine xg_t (xg_const) ?_
              refine xg_t (xg_icT (u := 4) (v := 4) rfl xnm0 xnm0 (by decide)) ?_
              refine xg_t (xg_blk (b := [(88, 3, 9, 1, 1, 0), (91, 1, 0, 0, 0, 0), (92, 2, 4, 51, 0, 0), (94, 3, 13, 227, 96, 415), (97, 1, 15, 2, 0, 0), (98, 3, 8, 31, 0, 0)]) rfl) ?_
              refine xg_t (xg_iinc (u := kr) (z := kr + 1) (l1 := [(3, (0, 4)), (0, (2, 82)), (2, (0, mo))]) rfl rfl (by omega) rfl) ?_
              refine xg_t (xg_aload (va := (2, 82)) rfl rfl) ?_
              refine xg_t (xg_bip) ?_
              refine xg_cVi mX12_takes (vs := [(0, 51)]) (rest := []) (cn1 := 0) (sl1 := 0) rfl (mTakes (hI1267) (by omega) pk1271.2.2.2) rfl (hF1268.get (by decide) (hF1252.get (by decide) (hF1236.get (by decide) (hF1220.get (by decide) h82_1208)))) rfl rfl rfl rfl rfl rfl (fun n1281 w1277 hq1278 => ?_)
              obtain ⟨hn1282, hI1279, hF1280⟩ := hq1278
              obtain ⟨hn1283, hn1284, hn1285⟩ := hn1282
              have pk1286 : PK w w1277 := PK.tr pk1271 hn1284
              have ro1287 : ∀ l, l < fld w 82 14 → l < 16 → rwv w1277 112 (20 * l) = rwv w 112 (20 * l) := fun l hl h6 => (rwv_fr hF1280 (by decide)).trans (ro1272 l hl h6)
              have hq1288 := pk1286
              unfold PK PS at hq1288
              clear hq1273
              have pj1289 : PK w547 w1277 := PK.tr pj1274 hn1284
              have hq1290 := pj1289
              unfold PK PS at hq1290
              clear hq1275
              have ms1291 : mu w1277 < mu w := Nat.lt_of_le_of_lt hn1284.2.1 ms1276
              have hu1292 : n1281 = 1 → mu w1277 < mu w547 := fun h => Nat.lt_of_lt_of_le (hn1285 h) pj1274.2.1
              refine xg_t (xg_istore (l1 := [(1, (0, kr + 1)), (3, (0, 4)), (0, (2, 82))]) rfl rfl rfl) ?_
              refine xg_t (xg_goto) ?_
              refine xg_t (xg_drop (l1 := [(0, (2, 82)), (1, (0, kr + 1)), (2, (0, n1281))]) (List.forall_mem_cons.mpr ⟨List.mem_cons_of_mem _ (List.mem_cons_of_mem _ (List.mem_cons_of_mem _ (List.mem_cons_self))), List.forall_mem_cons.mpr ⟨List.mem_cons_of_mem _ (List.mem_cons_self), List.forall_mem_cons.mpr ⟨List.mem_cons_self, fun _ h => absurd h List.not_mem_nil⟩⟩⟩)) ?_
              exact ih545 (kr + 1) n1281 w1277 (by omega) (by omega) (by omega) (hI1279) (((((((hF549.tr (hF1170.up (by decide))).tr (hF1220.up (by decide))).tr (hF1236.up (by decide))).tr (hF1252.up (by decide))).tr (hF1268.up (by decide))).tr (hF1280.up (by decide)))) (⟨pk1286, ro1287, ms1291, by omega, by omega, fun _ => by omega, fun h => by omega⟩)
      exact key544 _ 0 1 w43 (Nat.lt_succ_self _) (by omega) (by omega) (hI45) ((hF46.up (by decide))) (⟨pk52, ro53, ms543, by omega, by omega, fun _ => by omega, fun h => by omega⟩)
  · refine xg_t (xg_icF (u := f82_19) (v := 16) rfl xnm0 xnm0 (xj_ltF (by omega) (by omega))) ?_
    refine xg_t (xg_aload (va := (2, 82)) rfl rfl) ?_
    refine xg_t (xg_const) ?_
    refine xg_t (xg_aload (va := (2, 82)) rfl rfl) ?_
    refine xg_t (xg_getf (va := (0, f82_9)) h82_31 rfl) ?_
    refine xg_cVv mX12_also (vs := [(0, 3), (0, f82_9)]) (rest := []) (cn1 := 0) (sl1 := 0) rfl (mAlso (hI) (by omega) (by omega) (by omega) (PK.rf hps).2.2.2) rfl h82_31 rfl rfl rfl rfl rfl rfl (fun w1293 hq1294 => ?_)
    obtain ⟨hI1295, hF1296, hx1297⟩ := hq1294
    have pk1298 : PK w w1293 := ⟨fun _ => hx1297, Nat.le_of_eq (mu_fr hF1296 (by decide)), fld_fr hF1296 (by decide), Or.inr hx1297⟩
    have hA1299 := hx1297
    have pk1300 : PK w w1293 := PK.tr (PK.rf hps) pk1298
    have ro1301 : ∀ l, l < fld w 82 14 → l < 16 → rwv w1293 112 (20 * l) = rwv w 112 (20 * l) := fun l hl h6 => (rwv_fr hF1296 (by decide)).trans ((fun l _ _ => rfl) l hl h6)
    have hq1302 := pk1300
    unfold PK PS at hq1302
    refine xg_t (xg_blk (b := [(18, 1, 3, 0, 0, 0), (19, 1, 15, 1, 0, 0), (20, 1, 0, 0, 0, 0), (21, 2, 4, 50, 0, 0), (23, 3, 13, 227, 96, 415), (26, 3, 7, 107, 0, 0), (29, 1, 3, 1, 0, 0), (30, 1, 15, 2, 0, 0)]) rfl) ?_
    refine xg_t (xg_const) ?_
    refine xg_t (xg_istore (l1 := [(0, (2, 82))]) rfl rfl rfl) ?_
    refine xg_t (xg_aload (va := (2, 82)) rfl rfl) ?_
    refine xg_t (xg_bip) ?_
    refine xg_cVi mX12_takes (vs := [(0, 50)]) (rest := []) (cn1 := 0) (sl1 := 0) rfl (mTakes (hI1295) (by omega) pk1300.2.2.2) rfl (hF1296.get (by decide) h82_31) rfl rfl rfl rfl rfl rfl (fun n1307 w1303 hq1304 => ?_)
    obtain ⟨hn1308, hI1305, hF1306⟩ := hq1304
    obtain ⟨hn1309, hn1310, hn1311⟩ := hn1308
    have pk1312 : PK w w1303 := PK.tr pk1300 hn1310
    have ro1313 : ∀ l, l < fld w 82 14 → l < 16 → rwv w1303 112 (20 * l) = rwv w 112 (20 * l) := fun l hl h6 => (rwv_fr hF1306 (by decide)).trans (ro1301 l hl h6)
    have hq1314 := pk1312
    unfold PK PS at hq1314
    clear hq1302
    by_cases hc1315 : n1307 = 0
    · refine xg_t (xg_ifT (u := n1307) rfl xnm0 (xj_eqT hc1315)) ?_
      refine xg_t (xg_blk (b := [(107, 1, 0, 0, 0, 0), (108, 3, 1, 12, 10, 180), (111, 3, 7, 136, 1, 0), (114, 1, 0, 0, 0, 0), (115, 3, 1, 12, 7, 151), (118, 1, 3, 3, 0, 0), (119, 3, 6, 136, 1, 0), (122, 1, 0, 0, 0, 0), (123, 3, 1, 12, 9, 165), (126, 2, 4, 40, 0, 0), (128, 2, 4, 42, 0, 0), (130, 3, 13, 161, 98, 105), (133, 3, 7, 141, 1, 0)]) rfl) ?_
      refine xg_t (xg_aload (va := (2, 82)) rfl rfl) ?_
      obtain ⟨f82_1316, f82_1318, f82_1320, f82_1322, f82_1324, f82_1326, f82_1328, f82_1330, f82_1332, f82_1334, f82_1336, f82_1337, f82_1338, f82_1340, f82_1342, f82_1344, h82_1346, hb1317, hb1319, hb1321, hb1323, hb1325, hb1327, hb1329, hb1331, hb1333, hb1335, hb1339, hb1341, hb1343, hb1345, hb1347⟩ := (hI1305 82 (by decide) (by decide) : cp82 (wget w1303 82))
      refine xg_t (xg_getf (va := (0, f82_1332)) h82_1346 rfl) ?_
      by_cases hc1348 : f82_1332 = 0
      · refine xg_t (xg_ifF (u := f82_1332) rfl xnm0 (xj_neF hc1348)) ?_
        refine xg_t (xg_aload (va := (2, 82)) rfl rfl) ?_
        refine xg_t (xg_getf (va := (0, f82_1326)) h82_1346 rfl) ?_
        refine xg_t (xg_const) ?_
        by_cases hc1349 : f82_1326 = 3
        · refine xg_t (xg_icF (u := f82_1326) (v := 3) rfl xnm0 xnm0 (xj_neF hc1349)) ?_
          refine xg_t (xg_aload (va := (2, 82)) rfl rfl) ?_
          refine xg_t (xg_getf (va := (0, f82_1330)) h82_1346 rfl) ?_
          refine xg_t (xg_bip) ?_
          refine xg_t (xg_bip) ?_
          refine xg_t (xg_cSr mX12_isIn (vs := [(0, f82_1330), (0, 40), (0, 42)]) (rest := []) (rs := [(0, if 40 ≤ f82_1330 ∧ f82_1330 ≤ 42 then 1 else 0)]) (cn1 := 0) (sl1 := 0) rfl (mIsIn (by omega) (by omega) (by omega)) rfl rfl rfl rfl rfl rfl rfl rfl) ?_
          by_cases hc1350 : 40 ≤ f82_1330 ∧ f82_1330 ≤ 42
          · refine xg_t (xg_ifT (u := (if 40 ≤ f82_1330 ∧ f82_1330 ≤ 42 then 1 else 0)) rfl xnm0 (xj_neT (xite1 hc1350))) ?_
            refine xg_t (xg_blk (b := [(141, 1, 0, 0, 0, 0), (142, 3, 1, 12, 9, 165), (145, 1, 15, 2, 0, 0), (146, 1, 0, 0, 0, 0), (147, 3, 13, 110, 96, 190), (150, 1, 2, 2, 0, 0), (151, 2, 4, 40, 0, 0), (153, 3, 6, 160, 1, 0), (156, 1, 3, 0, 0, 0), (157, 3, 8, 164, 0, 0)]) rfl) ?_
            refine xg_t (xg_aload (va := (2, 82)) rfl rfl) ?_
            refine xg_t (xg_getf (va := (0, f82_1330)) h82_1346 rfl) ?_
            refine xg_t (xg_istore (l1 := [(1, (0, 0)), (0, (2, 82))]) rfl rfl rfl) ?_
            refine xg_t (xg_aload (va := (2, 82)) rfl rfl) ?_
            have hf1351 : fld w1303 82 7 = f82_1326 := fld_of h82_1346
            refine xg_cVv mX12_advance (vs := []) (rest := []) (cn1 := 0) (sl1 := 0) rfl (mAdvance (hI1305)) rfl h82_1346 rfl rfl rfl rfl rfl rfl (fun w1352 hq1353 => ?_)
            obtain ⟨hI1354, hF1355, hx1356⟩ := hq1353
            obtain ⟨hv1357, hv1358, hv1359, hv1360⟩ := hx1356
            have hf1361 := FA_fr hF1355 (by decide)
            have pk1362 : PK w1303 w1352 := ⟨fun _ => by omega, hv1357, hv1360, (show fld w1352 82 10 = 0 ∨ FA w1352 ≠ 0 by omega)⟩
            have pk1363 : PK w w1352 := PK.tr pk1312 pk1362
            have ro1364 : ∀ l, l < fld w 82 14 → l < 16 → rwv w1352 112 (20 * l) = rwv w 112 (20 * l) := fun l hl h6 => (rwv_fr hF1355 (by decide)).trans (ro1313 l hl h6)
            have hq1365 := pk1363
            unfold PK PS at hq1365
            clear hq1314
            have ms1366 : mu w1352 < mu w := Nat.lt_of_lt_of_le (hv1358 (by omega)) pk1312.2.1
            refine xg_t (xg_iload (va := (0, f82_1330)) rfl rfl) ?_
            refine xg_t (xg_bip) ?_
            by_cases hc1367 : f82_1330 = 40
            · refine xg_t (xg_icF (u := f82_1330) (v := 40) rfl xnm0 xnm0 (xj_neF hc1367)) ?_
              refine xg_t (xg_const) ?_
              refine xg_t (xg_goto) ?_
              refine xg_t (xg_blk (b := [(164, 1, 15, 3, 0, 0), (165, 1, 0, 0, 0, 0), (166, 2, 4, 59, 0, 0), (168, 3, 13, 195, 96, 427), (171, 1, 0, 0, 0, 0), (172, 1, 3, 0, 0, 0), (173, 1, 2, 1, 0, 0), (174, 3, 13, 214, 96, 424), (177, 1, 0, 0, 0, 0), (178, 2, 4, 17, 0, 0), (180, 1, 2, 2, 0, 0), (181, 3, 13, 214, 96, 424), (184, 1, 0, 0, 0, 0), (185, 2, 4, 18, 0, 0), (187, 1, 2, 3, 0, 0), (188, 3, 13, 214, 96, 424), (191, 1, 0, 0, 0, 0), (192, 1, 19, 0, 0, 0), (193, 3, 1, 12, 14, 212), (196, 1, 3, 1, 0, 0), (197, 1, 11, 0, 0, 0), (198, 3, 14, 12, 14, 212), (201, 1, 12, 0, 0, 0)]) rfl) ?_
              refine xg_t (xg_istore (l1 := [(2, (0, f82_1330)), (1, (0, 0)), (0, (2, 82))]) rfl rfl rfl) ?_
              refine xg_t (xg_aload (va := (2, 82)) rfl rfl) ?_
              refine xg_t (xg_bip) ?_
              obtain ⟨f82_1368, f82_1370, f82_1372, f82_1374, f82_1376, f82_1378, f82_1380, f82_1382, f82_1384, f82_1386, f82_1388, f82_1389, f82_1390, f82_1392, f82_1394, f82_1396, h82_1398, hb1369, hb1371, hb1373, hb1375, hb1377, hb1379, hb1381, hb1383, hb1385, hb1387, hb1391, hb1393, hb1395, hb1397, hb1399⟩ := (hI1354 82 (by decide) (by decide) : cp82 (wget w1352 82))
              refine xg_cVv mX12_must (vs := [(0, 59)]) (rest := []) (cn1 := 0) (sl1 := 0) rfl (mMust (hI1354) (by omega) pk1363.2.2.2) rfl h82_1398 rfl rfl rfl rfl rfl rfl (fun w1400 hq1401 => ?_)
              obtain ⟨hI1402, hF1403, hx1404⟩ := hq1401
              have pk1405 : PK w w1400 := PK.tr pk1363 hx1404
              have ro1406 : ∀ l, l < fld w 82 14 → l < 16 → rwv w1400 112 (20 * l) = rwv w 112 (20 * l) := fun l hl h6 => (rwv_fr hF1403 (by decide)).trans (ro1364 l hl h6)
              have hq1407 := pk1405
              unfold PK PS at hq1407
              clear hq1365
              have ms1408 : mu w1400 < mu w := Nat.lt_of_le_of_lt hx1404.2.1 ms1366
              refine xg_t (xg_aload (va := (2, 82)) rfl rfl) ?_
              refine xg_t (xg_const) ?_
              refine xg_t (xg_iload (va := (0, 0)) rfl rfl) ?_
              have hl1409 : fld w1400 82 14 ≤ 2000 := by omega
              obtain ⟨f82_1410, f82_1412, f82_1414, f82_1416, f82_1418, f82_1420, f82_1422, f82_1424, f82_1426, f82_1428, f82_1430, f82_1431, f82_1432, f82_1434, f82_1436, f82_1438, h82_1440, hb1411, hb1413, hb1415, hb1417, hb1419, hb1421, hb1423, hb1425, hb1427, hb1429, hb1433, hb1435, hb1437, hb1439, hb1441⟩ := (hI1402 82 (by decide) (by decide) : cp82 (wget w1400 82))
              refine xg_cVv mX12_rulePuts (vs := [(0, 0), (0, 0)]) (rest := []) (cn1 := 0) (sl1 := 0) rfl (mRulePuts (hI1402) (by omega) (by omega) (by omega)) rfl h82_1440 rfl rfl rfl rfl rfl rfl (fun w1442 hq1443 => ?_)
              obtain ⟨hI1444, hF1445, hx1446⟩ := hq1443
              have hx1447 := hx1446
              have pk1448 : PK w w1442 := PK.tr pk1405 (PK.fr hF1445 (by decide) (by decide) pk1405.2.2.2)
              have ro1449 : ∀ l, l < fld w 82 14 → l < 16 → rwv w1442 112 (20 * l) = rwv w 112 (20 * l) := fun l hl h6 => ((hx1447 _ (by omega)).2 (by omega)).trans (ro1406 l hl h6)
              have hq1450 := pk1448
              unfold PK PS at hq1450
              clear hq1407
              have ms1451 : mu w1442 < mu w := Nat.lt_of_le_of_lt (PK.fr hF1445 (by decide) (by decide) pk1405.2.2.2).2.1 ms1408
              have rz1452 : fld w 82 14 < 16 → rwv w1442 112 (20 * fld w 82 14) = 0 := fun h6 => (hx1447 _ (by omega)).1 ⟨by omega, by omega⟩
              refine xg_t (xg_aload (va := (2, 82)) rfl rfl) ?_
              refine xg_t (xg_bip) ?_
              refine xg_t (xg_iload (va := (0, f82_1330)) rfl rfl) ?_
              have hl1453 : fld w1442 82 14 ≤ 2000 := by omega
              refine xg_cVv mX12_rulePuts (vs := [(0, 17), (0, f82_1330)]) (rest := []) (cn1 := 0) (sl1 := 0) rfl (mRulePuts (hI1444) (by omega) (by omega) (by omega)) rfl (hF1445.get (by decide) h82_1440) rfl rfl rfl rfl rfl rfl (fun w1454 hq1455 => ?_)
              obtain ⟨hI1456, hF1457, hx1458⟩ := hq1455
              have hx1459 := hx1458
              have pk1460 : PK w w1454 := PK.tr pk1448 (PK.fr hF1457 (by decide) (by decide) pk1448.2.2.2)
              have ro1461 : ∀ l, l < fld w 82 14 → l < 16 → rwv w1454 112 (20 * l) = rwv w 112 (20 * l) := fun l hl h6 => ((hx1459 _ (by omega)).2 (by omega)).trans (ro1449 l hl h6)
              have hq1462 := pk1460
              unfold PK PS at hq1462
              clear hq1450
              have ms1463 : mu w1454 < mu w := Nat.lt_of_le_of_lt (PK.fr hF1457 (by decide) (by decide) pk1448.2.2.2).2.1 ms1451
              have rz1464 : fld w 82 14 < 16 → rwv w1454 112 (20 * fld w 82 14) = 0 := fun h6 => ((hx1459 _ (by omega)).2 (by omega)).trans (rz1452 h6)
              refine xg_t (xg_aload (va := (2, 82)) rfl rfl) ?_
              refine xg_t (xg_bip) ?_
              refine xg_t (xg_iload (va := (0, 0)) rfl rfl) ?_
              have hl1465 : fld w1454 82 14 ≤ 2000 := by omega
              refine xg_cVv mX12_rulePuts (vs := [(0, 18), (0, 0)]) (rest := []) (cn1 := 0) (sl1 := 0) rfl (mRulePuts (hI1456) (by omega) (by omega) (by omega)) rfl (hF1457.get (by decide) (hF1445.get (by decide) h82_1440)) rfl rfl rfl rfl rfl rfl (fun w1466 hq1467 => ?_)
              obtain ⟨hI1468, hF1469, hx1470⟩ := hq1467
              have hx1471 := hx1470
              have pk1472 : PK w w1466 := PK.tr pk1460 (PK.fr hF1469 (by decide) (by decide) pk1460.2.2.2)
              have ro1473 : ∀ l, l < fld w 82 14 → l < 16 → rwv w1466 112 (20 * l) = rwv w 112 (20 * l) := fun l hl h6 => ((hx1471 _ (by omega)).2 (by omega)).trans (ro1461 l hl h6)
              have hq1474 := pk1472
              unfold PK PS at hq1474
              clear hq1462
              have ms1475 : mu w1466 < mu w := Nat.lt_of_le_of_lt (PK.fr hF1469 (by decide) (by decide) pk1460.2.2.2).2.1 ms1463
              have rz1476 : fld w 82 14 < 16 → rwv w1466 112 (20 * fld w 82 14) = 0 := fun h6 => ((hx1471 _ (by omega)).2 (by omega)).trans (rz1464 h6)
              have hf1477 : fld w1466 82 4 = f82_1414 := fld_of (hF1469.get (by decide) (hF1457.get (by decide) (hF1445.get (by decide) h82_1440)))
              have hf1478 : fld w1466 82 5 = f82_1416 := fld_of (hF1469.get (by decide) (hF1457.get (by decide) (hF1445.get (by decide) h82_1440)))
              have hf1479 : fld w1466 82 7 = f82_1420 := fld_of (hF1469.get (by decide) (hF1457.get (by decide) (hF1445.get (by decide) h82_1440)))
              have hf1480 : fld w1466 82 10 = f82_1426 := fld_of (hF1469.get (by decide) (hF1457.get (by decide) (hF1445.get (by decide) h82_1440)))
              have hf1481 : fld w1466 82 14 = f82_1428 := fld_of (hF1469.get (by decide) (hF1457.get (by decide) (hF1445.get (by decide) h82_1440)))
              have hu1482 : mu w1466 = 2 * (fld w1466 82 4 - fld w1466 82 5) + min 1 (fld w1466 82 7) := rfl
              have hl1483 : f82_1428 ≤ 1001 := by omega
              refine xg_t (xg_aload (va := (2, 82)) rfl rfl) ?_
              refine xg_t (xg_dup rfl) ?_
              refine xg_t (xg_getf (va := (0, f82_1428)) (hF1469.get (by decide) (hF1457.get (by decide) (hF1445.get (by decide) h82_1440))) rfl) ?_
              refine xg_t (xg_const) ?_
              refine xg_t (xg_iadd (u := f82_1428) (v := 1) (z := f82_1428 + 1) xnm0 xnm0 (by omega)) ?_
              refine xg_putI (fl1 := [(2, 83), (2, 84), (0, f82_1410), (0, f82_1412), (0, f82_1414), (0, f82_1416), (0, f82_1418), (0, f82_1420), (0, f82_1422), (0, f82_1424), (0, f82_1426), (2, 85), (2, 86), (2, 87), (0, f82_1428 + 1), (2, 88), (2, 89), (2, 90), (2, 91), (2, 92), (2, 93), (2, 94), (4, f82_1430), (4, f82_1431), (0, f82_1432), (2, 95), (2, 96), (2, 97), (2, 98), (2, 99), (2, 100), (2, 101), (2, 102), (0, f82_1434), (2, 103), (2, 104), (2, 105), (2, 106), (2, 107), (2, 108), (2, 109), (0, f82_1436), (0, f82_1438), (2, 110), (2, 111), (2, 112), (2, 113)]) (hF1469.get (by decide) (hF1457.get (by decide) (hF1445.get (by decide) h82_1440))) rfl rfl rfl (fun w1484 hk1485 hb1486 => ?_)
              have hF1487 : xFr [82] w1466 w1484 := xFr.of hb1486 (by decide)
              have hA1488 := FA_fr hF1487 (by decide)
              have hf1489 : fld w1484 82 4 = f82_1414 := fld_of hk1485
              have hf1490 : fld w1484 82 5 = f82_1416 := fld_of hk1485
              have hf1491 : fld w1484 82 7 = f82_1420 := fld_of hk1485
              have hf1492 : fld w1484 82 10 = f82_1426 := fld_of hk1485
              have hf1493 : fld w1484 82 14 = f82_1428 + 1 := fld_of hk1485
              have hu1494 : mu w1484 = 2 * (fld w1484 82 4 - fld w1484 82 5) + min 1 (fld w1484 82 7) := rfl
              have hD1495 : FA w1484 ≠ 0 ∨ (RD w → RD w1484) := by
                by_cases z : FA w1484 ≠ 0
                · exact Or.inl z
                · refine Or.inr (fun hd => ⟨by omega, fun l hl => ?_⟩)
                  rw [rwv_fr hF1487 (by decide)]
                  by_cases y : l = fld w 82 14
                  · rw [y, rz1476 (by omega)]; omega
                  · rw [ro1473 l (by omega) (by have := hd.1; omega)]; exact hd.2 l (by omega)
              exact xg_e ⟨w1484, ⟨rfl, rfl⟩, xMnv.up (S := [82]) hI1468 (xFr.of (S := [82]) hb1486 (by decide)) (List.forall_mem_cons.mpr ⟨(show cp82 (wget w1484 82) from ⟨f82_1410, f82_1412, f82_1414, f82_1416, f82_1418, f82_1420, f82_1422, f82_1424, f82_1426, f82_1428 + 1, f82_1430, f82_1431, f82_1432, f82_1434, f82_1436, f82_1438, hk1485, by omega, by omega, by omega, by omega, by omega, by omega, by omega, by omega, by omega, by omega, by omega, by omega, by omega, by omega, by omega⟩), fun _ h => absurd h List.not_mem_nil⟩), ((((((((hF1296.up (by decide)).tr (hF1306.up (by decide))).tr (hF1355.up (by decide))).tr (hF1403.up (by decide))).tr (hF1445.up (by decide))).tr (hF1457.up (by decide))).tr (hF1469.up (by decide))).tr (xFr.of (S := [82, 83, 112, 113]) hb1486 (by decide))), ⟨fun h => by have := pk1472.1 h; omega, (show fld w1484 82 10 = 0 ∨ FA w1484 ≠ 0 by omega), Or.inr ⟨by have := ms1475; omega, by omega⟩, hD1495⟩⟩
            · refine xg_t (xg_icT (u := f82_1330) (v := 40) rfl xnm0 xnm0 (xj_neT hc1367)) ?_
              refine xg_t (xg_blk (b := [(160, 1, 0, 0, 0, 0), (161, 3, 13, 198, 96, 418)]) rfl) ?_
              refine xg_t (xg_aload (va := (2, 82)) rfl rfl) ?_
              obtain ⟨f82_1496, f82_1498, f82_1500, f82_1502, f82_1504, f82_1506, f82_1508, f82_1510, f82_1512, f82_1514, f82_1516, f82_1517, f82_1518, f82_1520, f82_1522, f82_1524, h82_1526, hb1497, hb1499, hb1501, hb1503, hb1505, hb1507, hb1509, hb1511, hb1513, hb1515, hb1519, hb1521, hb1523, hb1525, hb1527⟩ := (hI1354 82 (by decide) (by decide) : cp82 (wget w1352 82))
              refine xg_cVi mX12_numberNow (vs := []) (rest := []) (cn1 := 0) (sl1 := 0) rfl (mNumberNow (hI1354) pk1363.2.2.2) rfl h82_1526 rfl rfl rfl rfl rfl rfl (fun n1532 w1528 hq1529 => ?_)
              obtain ⟨hn1533, hI1530, hF1531⟩ := hq1529
              obtain ⟨hn1534, hn1535⟩ := hn1533
              have pk1536 : PK w w1528 := PK.tr pk1363 hn1535
              have ro1537 : ∀ l, l < fld w 82 14 → l < 16 → rwv w1528 112 (20 * l) = rwv w 112 (20 * l) := fun l hl h6 => (rwv_fr hF1531 (by decide)).trans (ro1364 l hl h6)
              have hq1538 := pk1536
              unfold PK PS at hq1538
              clear hq1365
              have ms1539 : mu w1528 < mu w := Nat.lt_of_le_of_lt hn1535.2.1 ms1366
              refine xg_t (xg_blk (b := [(164, 1, 15, 3, 0, 0), (165, 1, 0, 0, 0, 0), (166, 2, 4, 59, 0, 0), (168, 3, 13, 195, 96, 427), (171, 1, 0, 0, 0, 0), (172, 1, 3, 0, 0, 0), (173, 1, 2, 1, 0, 0), (174, 3, 13, 214, 96, 424), (177, 1, 0, 0, 0, 0), (178, 2, 4, 17, 0, 0), (180, 1, 2, 2, 0, 0), (181, 3, 13, 214, 96, 424), (184, 1, 0, 0, 0, 0), (185, 2, 4, 18, 0, 0), (187, 1, 2, 3, 0, 0), (188, 3, 13, 214, 96, 424), (191, 1, 0, 0, 0, 0), (192, 1, 19, 0, 0, 0), (193, 3, 1, 12, 14, 212), (196, 1, 3, 1, 0, 0), (197, 1, 11, 0, 0, 0), (198, 3, 14, 12, 14, 212), (201, 1, 12, 0, 0, 0)]) rfl) ?_
              refine xg_t (xg_istore (l1 := [(2, (0, f82_1330)), (1, (0, 0)), (0, (2, 82))]) rfl rfl rfl) ?_
              refine xg_t (xg_aload (va := (2, 82)) rfl rfl) ?_
              refine xg_t (xg_bip) ?_
              obtain ⟨f82_1540, f82_1542, f82_1544, f82_1546, f82_1548, f82_1550, f82_1552, f82_1554, f82_1556, f82_1558, f82_1560, f82_1561, f82_1562, f82_1564, f82_1566, f82_1568, h82_1570, hb1541, hb1543, hb1545, hb1547, hb1549, hb1551, hb1553, hb1555, hb1557, hb1559, hb1563, hb1565, hb1567, hb1569, hb1571⟩ := (hI1530 82 (by decide) (by decide) : cp82 (wget w1528 82))
              refine xg_cVv mX12_must (vs := [(0, 59)]) (rest := []) (cn1 := 0) (sl1 := 0) rfl (mMust (hI1530) (by omega) pk1536.2.2.2) rfl h82_1570 rfl rfl rfl rfl rfl rfl (fun w1572 hq1573 => ?_)
              obtain ⟨hI1574, hF1575, hx1576⟩ := hq1573
              have pk1577 : PK w w1572 := PK.tr pk1536 hx1576
              have ro1578 : ∀ l, l < fld w 82 14 → l < 16 → rwv w1572 112 (20 * l) = rwv w 112 (20 * l) := fun l hl h6 => (rwv_fr hF1575 (by decide)).trans (ro1537 l hl h6)
              have hq1579 := pk1577
              unfold PK PS at hq1579
              clear hq1538
              have ms1580 : mu w1572 < mu w := Nat.lt_of_le_of_lt hx1576.2.1 ms1539
              refine xg_t (xg_aload (va := (2, 82)) rfl rfl) ?_
              refine xg_t (xg_const) ?_
              refine xg_t (xg_iload (va := (0, 0)) rfl rfl) ?_
              have hl1581 : fld w1572 82 14 ≤ 2000 := by omega
              obtain ⟨f82_1582, f82_1584, f82_1586, f82_1588, f82_1590, f82_1592, f82_1594, f82_1596, f82_1598, f82_1600, f82_1602, f82_1603, f82_1604, f82_1606, f82_1608, f82_1610, h82_1612, hb1583, hb1585, hb1587, hb1589, hb1591, hb1593, hb1595, hb1597, hb1599, hb1601, hb1605, hb1607, hb1609, hb1611, hb1613⟩ := (hI1574 82 (by decide) (by decide) : cp82 (wget w1572 82))
              refine xg_cVv mX12_rulePuts (vs := [(0, 0), (0, 0)]) (rest := []) (cn1 := 0) (sl1 := 0) rfl (mRulePuts (hI1574) (by omega) (by omega) (by omega)) rfl h82_1612 rfl rfl rfl rfl rfl rfl (fun w1614 hq1615 => ?_)
              obtain ⟨hI1616, hF1617, hx1618⟩ := hq1615
              have hx1619 := hx1618
              have pk1620 : PK w w1614 := PK.tr pk1577 (PK.fr hF1617 (by decide) (by decide) pk1577.2.2.2)
              have ro1621 : ∀ l, l < fld w 82 14 → l < 16 → rwv w1614 112 (20 * l) = rwv w 112 (20 * l) := fun l hl h6 => ((hx1619 _ (by omega)).2 (by omega)).trans (ro1578 l hl h6)
              have hq1622 := pk1620
              unfold PK PS at hq1622
              clear hq1579
              have ms1623 : mu w1614 < mu w := Nat.lt_of_le_of_lt (PK.fr hF1617 (by decide) (by decide) pk1577.2.2.2).2.1 ms1580
              have rz1624 : fld w 82 14 < 16 → rwv w1614 112 (20 * fld w 82 14) = 0 := fun h6 => (hx1619 _ (by omega)).1 ⟨by omega, by omega⟩
              refine xg_t (xg_aload (va := (2, 82)) rfl rfl) ?_
              refine xg_t (xg_bip) ?_
              refine xg_t (xg_iload (va := (0, f82_1330)) rfl rfl) ?_
              have hl1625 : fld w1614 82 14 ≤ 2000 := by omega
              refine xg_cVv mX12_rulePuts (vs := [(0, 17), (0, f82_1330)]) (rest := []) (cn1 := 0) (sl1 := 0) rfl (mRulePuts (hI1616) (by omega) (by omega) (by omega)) rfl (hF1617.get (by decide) h82_1612) rfl rfl rfl rfl rfl rfl (fun w1626 hq1627 => ?_)
              obtain ⟨hI1628, hF1629, hx1630⟩ := hq1627
              have hx1631 := hx1630
              have pk1632 : PK w w1626 := PK.tr pk1620 (PK.fr hF1629 (by decide) (by decide) pk1620.2.2.2)
              have ro1633 : ∀ l, l < fld w 82 14 → l < 16 → rwv w1626 112 (20 * l) = rwv w 112 (20 * l) := fun l hl h6 => ((hx1631 _ (by omega)).2 (by omega)).trans (ro1621 l hl h6)
              have hq1634 := pk1632
              unfold PK PS at hq1634
              clear hq1622
              have ms1635 : mu w1626 < mu w := Nat.lt_of_le_of_lt (PK.fr hF1629 (by decide) (by decide) pk1620.2.2.2).2.1 ms1623
              have rz1636 : fld w 82 14 < 16 → rwv w1626 112 (20 * fld w 82 14) = 0 := fun h6 => ((hx1631 _ (by omega)).2 (by omega)).trans (rz1624 h6)
              refine xg_t (xg_aload (va := (2, 82)) rfl rfl) ?_
              refine xg_t (xg_bip) ?_
              refine xg_t (xg_iload (va := (0, n1532)) rfl rfl) ?_
              have hl1637 : fld w1626 82 14 ≤ 2000 := by omega
              refine xg_cVv mX12_rulePuts (vs := [(0, 18), (0, n1532)]) (rest := []) (cn1 := 0) (sl1 := 0) rfl (mRulePuts (hI1628) (by omega) (by omega) (by omega)) rfl (hF1629.get (by decide) (hF1617.get (by decide) h82_1612)) rfl rfl rfl rfl rfl rfl (fun w1638 hq1639 => ?_)
              obtain ⟨hI1640, hF1641, hx1642⟩ := hq1639
              have hx1643 := hx1642
              have pk1644 : PK w w1638 := PK.tr pk1632 (PK.fr hF1641 (by decide) (by decide) pk1632.2.2.2)
              have ro1645 : ∀ l, l < fld w 82 14 → l < 16 → rwv w1638 112 (20 * l) = rwv w 112 (20 * l) := fun l hl h6 => ((hx1643 _ (by omega)).2 (by omega)).trans (ro1633 l hl h6)
              have hq1646 := pk1644
              unfold PK PS at hq1646
              clear hq1634
              have ms1647 : mu w1638 < mu w := Nat.lt_of_le_of_lt (PK.fr hF1641 (by decide) (by decide) pk1632.2.2.2).2.1 ms1635
              have rz1648 : fld w 82 14 < 16 → rwv w1638 112 (20 * fld w 82 14) = 0 := fun h6 => ((hx1643 _ (by omega)).2 (by omega)).trans (rz1636 h6)
              have hf1649 : fld w1638 82 4 = f82_1586 := fld_of (hF1641.get (by decide) (hF1629.get (by decide) (hF1617.get (by decide) h82_1612)))
              have hf1650 : fld w1638 82 5 = f82_1588 := fld_of (hF1641.get (by decide) (hF1629.get (by decide) (hF1617.get (by decide) h82_1612)))
              have hf1651 : fld w1638 82 7 = f82_1592 := fld_of (hF1641.get (by decide) (hF1629.get (by decide) (hF1617.get (by decide) h82_1612)))
              have hf1652 : fld w1638 82 10 = f82_1598 := fld_of (hF1641.get (by decide) (hF1629.get (by decide) (hF1617.get (by decide) h82_1612)))
              have hf1653 : fld w1638 82 14 = f82_1600 := fld_of (hF1641.get (by decide) (hF1629.get (by decide) (hF1617.get (by decide) h82_1612)))
              have hu1654 : mu w1638 = 2 * (fld w1638 82 4 - fld w1638 82 5) + min 1 (fld w1638 82 7) := rfl
              have hl1655 : f82_1600 ≤ 1001 := by omega
              refine xg_t (xg_aload (va := (2, 82)) rfl rfl) ?_
              refine xg_t (xg_dup rfl) ?_
              refine xg_t (xg_getf (va := (0, f82_1600)) (hF1641.get (by decide) (hF1629.get (by decide) (hF1617.get (by decide) h82_1612))) rfl) ?_
              refine xg_t (xg_const) ?_
              refine xg_t (xg_iadd (u := f82_1600) (v := 1) (z := f82_1600 + 1) xnm0 xnm0 (by omega)) ?_
              refine xg_putI (fl1 := [(2, 83), (2, 84), (0, f82_1582), (0, f82_1584), (0, f82_1586), (0, f82_1588), (0, f82_1590), (0, f82_1592), (0, f82_1594), (0, f82_1596), (0, f82_1598), (2, 85), (2, 86), (2, 87), (0, f82_1600 + 1), (2, 88), (2, 89), (2, 90), (2, 91), (2, 92), (2, 93), (2, 94), (4, f82_1602), (4, f82_1603), (0, f82_1604), (2, 95), (2, 96), (2, 97), (2, 98), (2, 99), (2, 100), (2, 101), (2, 102), (0, f82_1606), (2, 103), (2, 104), (2, 105), (2, 106), (2, 107), (2, 108), (2, 109), (0, f82_1608), (0, f82_1610), (2, 110), (2, 111), (2, 112), (2, 113)]) (hF1641.get (by decide) (hF1629.get (by decide) (hF1617.get (by decide) h82_1612))) rfl rfl rfl (fun w1656 hk1657 hb1658 => ?_)
              have hF1659 : xFr [82] w1638 w1656 := xFr.of hb1658 (by decide)
              have hA1660 := FA_fr hF1659 (by decide)
              have hf1661 : fld w1656 82 4 = f82_1586 := fld_of hk1657
              have hf1662 : fld w1656 82 5 = f82_1588 := fld_of hk1657
              have hf1663 : fld w1656 82 7 = f82_1592 := fld_of hk1657
              have hf1664 : fld w1656 82 10 = f82_1598 := fld_of hk1657
              have hf1665 : fld w1656 82 14 = f82_1600 + 1 := fld_of hk1657
              have hu1666 : mu w1656 = 2 * (fld w1656 82 4 - fld w1656 82 5) + min 1 (fld w1656 82 7) := rfl
              have hD1667 : FA w1656 ≠ 0 ∨ (RD w → RD w1656) := by
                by_cases z : FA w1656 ≠ 0
                · exact Or.inl z
                · refine Or.inr (fun hd => ⟨by omega, fun l hl => ?_⟩)
                  rw [rwv_fr hF1659 (by decide)]
                  by_cases y : l = fld w 82 14
                  · rw [y, rz1648 (by omega)]; omega
                  · rw [ro1645 l (by omega) (by have := hd.1; omega)]; exact hd.2 l (by omega)
              exact xg_e ⟨w1656, ⟨rfl, rfl⟩, xMnv.up (S := [82]) hI1640 (xFr.of (S := [82]) hb1658 (by decide)) (List.forall_mem_cons.mpr ⟨(show cp82 (wget w1656 82) from ⟨f82_1582, f82_1584, f82_1586, f82_1588, f82_1590, f82_1592, f82_1594, f82_1596, f82_1598, f82_1600 + 1, f82_1602, f82_1603, f82_1604, f82_1606, f82_1608, f82_1610, hk1657, by omega, by omega, by omega, by omega, by omega, by omega, by omega, by omega, by omega, by omega, by omega, by omega, by omega, by omega, by omega⟩), fun _ h => absurd h List.not_mem_nil⟩), (((((((((hF1296.up (by decide)).tr (hF1306.up (by decide))).tr (hF1355.up (by decide))).tr (hF1531.up (by decide))).tr (hF1575.up (by decide))).tr (hF1617.up (by decide))).tr (hF1629.up (by decide))).tr (hF1641.up (by decide))).tr (xFr.of (S := [82, 83, 112, 113]) hb1658 (by decide))), ⟨fun h => by have := pk1644.1 h; omega, (show fld w1656 82 10 = 0 ∨ FA w1656 ≠ 0 by omega), Or.inr ⟨by have := ms1647; omega, by omega⟩, hD1667⟩⟩
          · refine xg_t (xg_ifF (u := (if 40 ≤ f82_1330 ∧ f82_1330 ≤ 42 then 1 else 0)) rfl xnm0 (xj_neF (xite0 hc1350))) ?_
            refine xg_t (xg_blk (b := [(136, 1, 0, 0, 0, 0), (137, 3, 13, 140, 96, 183), (140, 1, 12, 0, 0, 0)]) rfl) ?_
            refine xg_t (xg_aload (va := (2, 82)) rfl rfl) ?_
            refine xg_cVv mX12_ends (vs := []) (rest := []) (cn1 := 0) (sl1 := 0) rfl (mEnds (hI1305) pk1312.2.2.2) rfl h82_1346 rfl rfl rfl rfl rfl rfl (fun w1668 hq1669 => ?_)
            obtain ⟨hI1670, hF1671, hx1672⟩ := hq1669
            obtain ⟨hv1673, hv1674, hv1675, hv1676⟩ := hx1672
            have pk1677 : PK w1303 w1668 := ⟨fun _ => hv1673, by omega, by omega, Or.inr hv1673⟩
            have pk1678 : PK w w1668 := PK.tr pk1312 pk1677
            have ro1679 : ∀ l, l < fld w 82 14 → l < 16 → rwv w1668 112 (20 * l) = rwv w 112 (20 * l) := fun l hl h6 => (rwv_fr hF1671 (by decide)).trans (ro1313 l hl h6)
            have hq1680 := pk1678
            unfold PK PS at hq1680
            clear hq1314
            obtain ⟨f82_1681, f82_1683, f82_1685, f82_1687, f82_1689, f82_1691, f82_1693, f82_1695, f82_1697, f82_1699, f82_1701, f82_1702, f82_1703, f82_1705, f82_1707, f82_1709, h82_1711, hb1682, hb1684, hb1686, hb1688, hb1690, hb1692, hb1694, hb1696, hb1698, hb1700, hb1704, hb1706, hb1708, hb1710, hb1712⟩ := (hI1670 82 (by decide) (by decide) : cp82 (wget w1668 82))
            exact xg_e ⟨w1668, ⟨rfl, rfl⟩, hI1670, (((hF1296.up (by decide)).tr (hF1306.up (by decide))).tr (hF1671.up (by decide))), ⟨pk1678.1, pk1678.2.2.2, Or.inl ⟨by omega, pk1678.2.1, pk1678.2.2.1⟩, Or.inl (by omega)⟩⟩
        · refine xg_t (xg_icT (u := f82_1326) (v := 3) rfl xnm0 xnm0 (xj_neT hc1349)) ?_
          refine xg_t (xg_blk (b := [(136, 1, 0, 0, 0, 0), (137, 3, 13, 140, 96, 183), (140, 1, 12, 0, 0, 0)]) rfl) ?_
          refine xg_t (xg_aload (va := (2, 82)) rfl rfl) ?_
          refine xg_cVv mX12_ends (vs := []) (rest := []) (cn1 := 0) (sl1 := 0) rfl (mEnds (hI1305) pk1312.2.2.2) rfl h82_1346 rfl rfl rfl rfl rfl rfl (fun w1713 hq1714 => ?_)
          obtain ⟨hI1715, hF1716, hx1717⟩ := hq1714
          obtain ⟨hv1718, hv1719, hv1720, hv1721⟩ := hx1717
          have pk1722 : PK w1303 w1713 := ⟨fun _ => hv1718, by omega, by omega, Or.inr hv1718⟩
          have pk1723 : PK w w1713 := PK.tr pk1312 pk1722
          have ro1724 : ∀ l, l < fld w 82 14 → l < 16 → rwv w1713 112 (20 * l) = rwv w 112 (20 * l) := fun l hl h6 => (rwv_fr hF1716 (by decide)).trans (ro1313 l hl h6)
          have hq1725 := pk1723
          unfold PK PS at hq1725
          clear hq1314
          obtain ⟨f82_1726, f82_1728, f82_1730, f82_1732, f82_1734, f82_1736, f82_1738, f82_1740, f82_1742, f82_1744, f82_1746, f82_1747, f82_1748, f82_1750, f82_1752, f82_1754, h82_1756, hb1727, hb1729, hb1731, hb1733, hb1735, hb1737, hb1739, hb1741, hb1743, hb1745, hb1749, hb1751, hb1753, hb1755, hb1757⟩ := (hI1715 82 (by decide) (by decide) : cp82 (wget w1713 82))
          exact xg_e ⟨w1713, ⟨rfl, rfl⟩, hI1715, (((hF1296.up (by decide)).tr (hF1306.up (by decide))).tr (hF1716.up (by decide))), ⟨pk1723.1, pk1723.2.2.2, Or.inl ⟨by omega, pk1723.2.1, pk1723.2.2.1⟩, Or.inl (by omega)⟩⟩
      · refine xg_t (xg_ifT (u := f82_1332) rfl xnm0 (xj_neT hc1348)) ?_
        refine xg_t (xg_blk (b := [(136, 1, 0, 0, 0, 0), (137, 3, 13, 140, 96, 183), (140, 1, 12, 0, 0, 0)]) rfl) ?_
        refine xg_t (xg_aload (va := (2, 82)) rfl rfl) ?_
        refine xg_cVv mX12_ends (vs := []) (rest := []) (cn1 := 0) (sl1 := 0) rfl (mEnds (hI1305) pk1312.2.2.2) rfl h82_1346 rfl rfl rfl rfl rfl rfl (fun w1758 hq1759 => ?_)
        obtain ⟨hI1760, hF1761, hx1762⟩ := hq1759
        obtain ⟨hv1763, hv1764, hv1765, hv1766⟩ := hx1762
        have pk1767 : PK w1303 w1758 := ⟨fun _ => hv1763, by omega, by omega, Or.inr hv1763⟩
        have pk1768 : PK w w1758 := PK.tr pk1312 pk1767
        have ro1769 : ∀ l, l < fld w 82 14 → l < 16 → rwv w1758 112 (20 * l) = rwv w 112 (20 * l) := fun l hl h6 => (rwv_fr hF1761 (by decide)).trans (ro1313 l hl h6)
        have hq1770 := pk1768
        unfold PK PS at hq1770
        clear hq1314
        obtain ⟨f82_1771, f82_1773, f82_1775, f82_1777, f82_1779, f82_1781, f82_1783, f82_1785, f82_1787, f82_1789, f82_1791, f82_1792, f82_1793, f82_1795, f82_1797, f82_1799, h82_1801, hb1772, hb1774, hb1776, hb1778, hb1780, hb1782, hb1784, hb1786, hb1788, hb1790, hb1794, hb1796, hb1798, hb1800, hb1802⟩ := (hI1760 82 (by decide) (by decide) : cp82 (wget w1758 82))
        exact xg_e ⟨w1758, ⟨rfl, rfl⟩, hI1760, (((hF1296.up (by decide)).tr (hF1306.up (by decide))).tr (hF1761.up (by decide))), ⟨pk1768.1, pk1768.2.2.2, Or.inl ⟨by omega, pk1768.2.1, pk1768.2.2.1⟩, Or.inl (by omega)⟩⟩
    · have ms1803 : mu w1303 < mu w := Nat.lt_of_lt_of_le (hn1311 (by omega)) pk1300.2.1
      refine xg_t (xg_ifF (u := n1307) rfl xnm0 (xj_eqF hc1315)) ?_
      refine xg_t (xg_const) ?_
      refine xg_t (xg_istore (l1 := [(1, (0, 0)), (0, (2, 82))]) rfl rfl rfl) ?_
      refine xg_t (xg_drop (l1 := [(0, (2, 82)), (1, (0, 0)), (2, (0, 1))]) (List.forall_mem_cons.mpr ⟨List.mem_cons_of_mem _ (List.mem_cons_of_mem _ (List.mem_cons_self)), List.forall_mem_cons.mpr ⟨List.mem_cons_of_mem _ (List.mem_cons_self), List.forall_mem_cons.mpr ⟨List.mem_cons_self, fun _ h => absurd h List.not_mem_nil⟩⟩⟩)) ?_
      have key1804 : ∀ (m1806 : Nat) (kr mo : Nat) (w1807 : List (List xE)), 2 * mu w1807 + mo < m1806 → kr ≤ 1002 → mo ≤ 1 → xMnv w1807 → xFr [82, 83, 112, 113] w w1807 → (PK w w1807 ∧ (∀ l, l < fld w 82 14 → l < 16 → rwv w1807 112 (20 * l) = rwv w 112 (20 * l)) ∧ mu w1807 < mu w ∧ (FA w1807 ≠ 0 ∨ kr ≤ 4) ∧ kr + mu w1807 ≤ 1002 ∧ (mo = 1 → kr + mu w1807 ≤ 1001) ∧ (16 ≤ fld w 82 14 → FA w1807 ≠ 0)) → xTo (d + 7) mX12_aRule (31, [], [(0, (2, 82)), (1, (0, kr)), (2, (0, mo))], [], (w1807, bd, fc, 0, 0, rr)) (fun φ => ∃ w', xEnd 0 [] (w', bd, fc, 0, 0, rr) φ ∧ xMnv w' ∧ xFr [82, 83, 112, 113] w w' ∧ ((FA w ≠ 0 → FA w' ≠ 0) ∧ PS w' ∧ ((fld w' 82 10 = 1 ∧ mu w' ≤ mu w ∧ fld w' 82 14 = fld w 82 14) ∨ (mu w' < mu w ∧ fld w' 82 14 = fld w 82 14 + 1)) ∧ (FA w' ≠ 0 ∨ (RD w → RD w')))) := by
        intro m1806
        induction m1806 with
        | zero => intro kr mo w1807 hz; exact absurd hz (Nat.not_lt_zero _)
        | succ m1806 ih1805 =>
          intro kr mo w1807 hm1813 hn1810 hn1811 hI1808 hF1809 he1812
          obtain ⟨hz1814, hz1815, hz1816, hz1817, hz1818, hz1819, hz1820⟩ := he1812
          have hq1821 := hz1814
          unfold PK PS at hq1821
          obtain ⟨f82_1822, f82_1824, f82_1826, f82_1828, f82_1830, f82_1832, f82_1834, f82_1836, f82_1838, f82_1840, f82_1842, f82_1843, f82_1844, f82_1846, f82_1848, f82_1850, h82_1852, hb1823, hb1825, hb1827, hb1829, hb1831, hb1833, hb1835, hb1837, hb1839, hb1841, hb1845, hb1847, hb1849, hb1851, hb1853⟩ := (hI1808 82 (by decide) (by decide) : cp82 (wget w1807 82))
          refine xg_t (xg_blk (b := [(31, 1, 2, 2, 0, 0), (32, 3, 7, 101, 0, 0), (35, 1, 2, 1, 0, 0), (36, 1, 3, 3, 0, 0), (37, 3, 6, 49, 5, 0), (40, 1, 0, 0, 0, 0), (41, 1, 3, 3, 0, 0), (42, 1, 0, 0, 0, 0), (43, 3, 1, 12, 6, 148), (46, 3, 13, 115, 96, 186)]) rfl) ?_
          refine xg_t (xg_iload (va := (0, mo)) rfl rfl) ?_
          by_cases hc1854 : mo = 0
          · refine xg_t (xg_ifT (u := mo) rfl xnm0 (xj_eqT hc1854)) ?_
            refine xg_t (xg_blk (b := [(101, 1, 0, 0, 0, 0), (102, 2, 4, 58, 0, 0), (104, 3, 13, 195, 96, 427)]) rfl) ?_
            refine xg_t (xg_aload (va := (2, 82)) rfl rfl) ?_
            refine xg_t (xg_bip) ?_
            refine xg_cVv mX12_must (vs := [(0, 58)]) (rest := []) (cn1 := 0) (sl1 := 0) rfl (mMust (hI1808) (by omega) hz1814.2.2.2) rfl h82_1852 rfl rfl rfl rfl rfl rfl (fun w1855 hq1856 => ?_)
            obtain ⟨hI1857, hF1858, hx1859⟩ := hq1856
            have pk1860 : PK w w1855 := PK.tr hz1814 hx1859
            have ro1861 : ∀ l, l < fld w 82 14 → l < 16 → rwv w1855 112 (20 * l) = rwv w 112 (20 * l) := fun l hl h6 => (rwv_fr hF1858 (by decide)).trans (hz1815 l hl h6)
            have hq1862 := pk1860
            unfold PK PS at hq1862
            clear hq1821
            have ms1863 : mu w1855 < mu w := Nat.lt_of_le_of_lt hx1859.2.1 hz1816
            refine xg_t (xg_blk (b := [(107, 1, 0, 0, 0, 0), (108, 3, 1, 12, 10, 180), (111, 3, 7, 136, 1, 0), (114, 1, 0, 0, 0, 0), (115, 3, 1, 12, 7, 151), (118, 1, 3, 3, 0, 0), (119, 3, 6, 136, 1, 0), (122, 1, 0, 0, 0, 0), (123, 3, 1, 12, 9, 165), (126, 2, 4, 40, 0, 0), (128, 2, 4, 42, 0, 0), (130, 3, 13, 161, 98, 105), (133, 3, 7, 141, 1, 0)]) rfl) ?_
            refine xg_t (xg_aload (va := (2, 82)) rfl rfl) ?_
            obtain ⟨f82_1864, f82_1866, f82_1868, f82_1870, f82_1872, f82_1874, f82_1876, f82_1878, f82_1880, f82_1882, f82_1884, f82_1885, f82_1886, f82_1888, f82_1890, f82_1892, h82_1894, hb1865, hb1867, hb1869, hb1871, hb1873, hb1875, hb1877, hb1879, hb1881, hb1883, hb1887, hb1889, hb1891, hb1893, hb1895⟩ := (hI1857 82 (by decide) (by decide) : cp82 (wget w1855 82))
            refine xg_t (xg_getf (va := (0, f82_1880)) h82_1894 rfl) ?_
            by_cases hc1896 : f82_1880 = 0
            · refine xg_t (xg_ifF (u := f82_1880) rfl xnm0 (xj_neF hc1896)) ?_
              refine xg_t (xg_aload (va := (2, 82)) rfl rfl) ?_
              refine xg_t (xg_getf (va := (0, f82_1874)) h82_1894 rfl) ?_
              refine xg_t (xg_const) ?_
              by_cases hc1897 : f82_1874 = 3
              · refine xg_t (xg_icF (u := f82_1874) (v := 3) rfl xnm0 xnm0 (xj_neF hc1897)) ?_
                refine xg_t (xg_aload (va := (2, 82)) rfl rfl) ?_
                refine xg_t (xg_getf (va := (0, f82_1878)) h82_1894 rfl) ?_
                refine xg_t (xg_bip) ?_
                refine xg_t (xg_bip) ?_
                refine xg_t (xg_cSr mX12_isIn (vs := [(0, f82_1878), (0, 40), (0, 42)]) (rest := []) (rs := [(0, if 40 ≤ f82_1878 ∧ f82_1878 ≤ 42 then 1 else 0)]) (cn1 := 0) (sl1 := 0) rfl (mIsIn (by omega) (by omega) (by omega)) rfl rfl rfl rfl rfl rfl rfl rfl) ?_
                by_cases hc1898 : 40 ≤ f82_1878 ∧ f82_1878 ≤ 42
                · refine xg_t (xg_ifT (u := (if 40 ≤ f82_1878 ∧ f82_1878 ≤ 42 then 1 else 0)) rfl xnm0 (xj_neT (xite1 hc1898))) ?_
                  refine xg_t (xg_blk (b := [(141, 1, 0, 0, 0, 0), (142, 3, 1, 12, 9, 165), (145, 1, 15, 2, 0, 0), (146, 1, 0, 0, 0, 0), (147, 3, 13, 110, 96, 190), (150, 1, 2, 2, 0, 0), (151, 2, 4, 40, 0, 0), (153, 3, 6, 160, 1, 0), (156, 1, 3, 0, 0, 0), (157, 3, 8, 164, 0, 0)]) rfl) ?_
                  refine xg_t (xg_aload (va := (2, 82)) rfl rfl) ?_
                  refine xg_t (xg_getf (va := (0, f82_1878)) h82_1894 rfl) ?_
                  refine xg_t (xg_istore (l1 := [(0, (2, 82)), (1, (0, kr))]) rfl rfl rfl) ?_
                  refine xg_t (xg_aload (va := (2, 82)) rfl rfl) ?_
                  have hf1899 : fld w1855 82 7 = f82_1874 := fld_of h82_1894
                  refine xg_cVv mX12_advance (vs := []) (rest := []) (cn1 := 0) (sl1 := 0) rfl (mAdvance (hI1857)) rfl h82_1894 rfl rfl rfl rfl rfl rfl (fun w1900 hq1901 => ?_)
                  obtain ⟨hI1902, hF1903, hx1904⟩ := hq1901
                  obtain ⟨hv1905, hv1906, hv1907, hv1908⟩ := hx1904
                  have hf1909 := FA_fr hF1903 (by decide)
                  have pk1910 : PK w1855 w1900 := ⟨fun _ => by omega, hv1905, hv1908, (show fld w1900 82 10 = 0 ∨ FA w1900 ≠ 0 by omega)⟩
                  have pk1911 : PK w w1900 := PK.tr pk1860 pk1910
                  have ro1912 : ∀ l, l < fld w 82 14 → l < 16 → rwv w1900 112 (20 * l) = rwv w 112 (20 * l) := fun l hl h6 => (rwv_fr hF1903 (by decide)).trans (ro1861 l hl h6)
                  have hq1913 := pk1911
                  unfold PK PS at hq1913
                  clear hq1862
                  have ms1914 : mu w1900 < mu w := Nat.lt_of_le_of_lt pk1910.2.1 ms1863
                  refine xg_t (xg_iload (va := (0, f82_1878)) rfl rfl) ?_
                  refine xg_t (xg_bip) ?_
                  by_cases hc1915 : f82_1878 = 40
                  · refine xg_t (xg_icF (u := f82_1878) (v := 40) rfl xnm0 xnm0 (xj_neF hc1915)) ?_
                    refine xg_t (xg_const) ?_
                    refine xg_t (xg_goto) ?_
                    refine xg_t (xg_blk (b := [(164, 1, 15, 3, 0, 0), (165, 1, 0, 0, 0, 0), (166, 2, 4, 59, 0, 0), (168, 3, 13, 195, 96, 427), (171, 1, 0, 0, 0, 0), (172, 1, 3, 0, 0, 0), (173, 1, 2, 1, 0, 0), (174, 3, 13, 214, 96, 424), (177, 1, 0, 0, 0, 0), (178, 2, 4, 17, 0, 0), (180, 1, 2, 2, 0, 0), (181, 3, 13, 214, 96, 424), (184, 1, 0, 0, 0, 0), (185, 2, 4, 18, 0, 0), (187, 1, 2, 3, 0, 0), (188, 3, 13, 214, 96, 424), (191, 1, 0, 0, 0, 0), (192, 1, 19, 0, 0, 0), (193, 3, 1, 12, 14, 212), (196, 1, 3, 1, 0, 0), (197, 1, 11, 0, 0, 0), (198, 3, 14, 12, 14, 212), (201, 1, 12, 0, 0, 0)]) rfl) ?_
                    refine xg_t (xg_istore (l1 := [(2, (0, f82_1878)), (0, (2, 82)), (1, (0, kr))]) rfl rfl rfl) ?_
                    refine xg_t (xg_aload (va := (2, 82)) rfl rfl) ?_
                    refine xg_t (xg_bip) ?_
                    obtain ⟨f82_1916, f82_1918, f82_1920, f82_1922, f82_1924, f82_1926, f82_1928, f82_1930, f82_1932, f82_1934, f82_1936, f82_1937, f82_1938, f82_1940, f82_1942, f82_1944, h82_1946, hb1917, hb1919, hb1921, hb1923, hb1925, hb1927, hb1929, hb1931, hb1933, hb1935, hb1939, hb1941, hb1943, hb1945, hb1947⟩ := (hI1902 82 (by decide) (by decide) : cp82 (wget w1900 82))
                    refine xg_cVv mX12_must (vs := [(0, 59)]) (rest := []) (cn1 := 0) (sl1 := 0) rfl (mMust (hI1902) (by omega) pk1911.2.2.2) rfl h82_1946 rfl rfl rfl rfl rfl rfl (fun w1948 hq1949 => ?_)
                    obtain ⟨hI1950, hF1951, hx1952⟩ := hq1949
                    have pk1953 : PK w w1948 := PK.tr pk1911 hx1952
                    have ro1954 : ∀ l, l < fld w 82 14 → l < 16 → rwv w1948 112 (20 * l) = rwv w 112 (20 * l) := fun l hl h6 => (rwv_fr hF1951 (by decide)).trans (ro1912 l hl h6)
                    have hq1955 := pk1953
                    unfold PK PS at hq1955
                    clear hq1913
                    have ms1956 : mu w1948 < mu w := Nat.lt_of_le_of_lt hx1952.2.1 ms1914
                    refine xg_t (xg_aload (va := (2, 82)) rfl rfl) ?_
                    refine xg_t (xg_const) ?_
                    refine xg_t (xg_iload (va := (0, kr)) rfl rfl) ?_
                    have hl1957 : fld w1948 82 14 ≤ 2000 := by omega
                    obtain ⟨f82_1958, f82_1960, f82_1962, f82_1964, f82_1966, f82_1968, f82_1970, f82_1972, f82_1974, f82_1976, f82_1978, f82_1979, f82_1980, f82_1982, f82_1984, f82_1986, h82_1988, hb1959, hb1961, hb1963, hb1965, hb1967, hb1969, hb1971, hb1973, hb1975, hb1977, hb1981, hb1983, hb1985, hb1987, hb1989⟩ := (hI1950 82 (by decide) (by decide) : cp82 (wget w1948 82))
                    refine xg_cVv mX12_rulePuts (vs := [(0, 0), (0, kr)]) (rest := []) (cn1 := 0) (sl1 := 0) rfl (mRulePuts (hI1950) (by omega) (by omega) (by omega)) rfl h82_1988 rfl rfl rfl rfl rfl rfl (fun w1990 hq1991 => ?_)
                    obtain ⟨hI1992, hF1993, hx1994⟩ := hq1991
                    have hx1995 := hx1994
                    have pk1996 : PK w w1990 := PK.tr pk1953 (PK.fr hF1993 (by decide) (by decide) pk1953.2.2.2)
                    have ro1997 : ∀ l, l < fld w 82 14 → l < 16 → rwv w1990 112 (20 * l) = rwv w 112 (20 * l) := fun l hl h6 => ((hx1995 _ (by omega)).2 (by omega)).trans (ro1954 l hl h6)
                    have hq1998 := pk1996
                    unfold PK PS at hq1998
                    clear hq1955
                    have ms1999 : mu w1990 < mu w := Nat.lt_of_le_of_lt (PK.fr hF1993 (by decide) (by decide) pk1953.2.2.2).2.1 ms1956
                    have rz2000 : fld w 82 14 < 16 → rwv w1990 112 (20 * fld w 82 14) = kr := fun h6 => (hx1995 _ (by omega)).1 ⟨by omega, by omega⟩
                    refine xg_t (xg_aload (va := (2, 82)) rfl rfl) ?_
                    refine xg_t (xg_bip) ?_
                    refine xg_t (xg_iload (va := (0, f82_1878)) rfl rfl) ?_
                    have hl2001 : fld w1990 82 14 ≤ 2000 := by omega
                    refine xg_cVv mX12_rulePuts (vs := [(0, 17), (0, f82_1878)]) (rest := []) (cn1 := 0) (sl1 := 0) rfl (mRulePuts (hI1992) (by omega) (by omega) (by omega)) rfl (hF1993.get (by decide) h82_1988) rfl rfl rfl rfl rfl rfl (fun w2002 hq2003 => ?_)
                    obtain ⟨hI2004, hF2005, hx2006⟩ := hq2003
                    have hx2007 := hx2006
                    have pk2008 : PK w w2002 := PK.tr pk1996 (PK.fr hF2005 (by decide) (by decide) pk1996.2.2.2)
                    have ro2009 : ∀ l, l < fld w 82 14 → l < 16 → rwv w2002 112 (20 * l) = rwv w 112 (20 * l) := fun l hl h6 => ((hx2007 _ (by omega)).2 (by omega)).trans (ro1997 l hl h6)
                    have hq2010 := pk2008
                    unfold PK PS at hq2010
                    clear hq1998
                    have ms2011 : mu w2002 < mu w := Nat.lt_of_le_of_lt (PK.fr hF2005 (by decide) (by decide) pk1996.2.2.2).2.1 ms1999
                    have rz2012 : fld w 82 14 < 16 → rwv w2002 112 (20 * fld w 82 14) = kr := fun h6 => ((hx2007 _ (by omega)).2 (by omega)).trans (rz2000 h6)
                    refine xg_t (xg_aload (va := (2, 82)) rfl rfl) ?_
                    refine xg_t (xg_bip) ?_
                    refine xg_t (xg_iload (va := (0, 0)) rfl rfl) ?_
                    have hl2013 : fld w2002 82 14 ≤ 2000 := by omega
                    refine xg_cVv mX12_rulePuts (vs := [(0, 18), (0, 0)]) (rest := []) (cn1 := 0) (sl1 := 0) rfl (mRulePuts (hI2004) (by omega) (by omega) (by omega)) rfl (hF2005.get (by decide) (hF1993.get (by decide) h82_1988)) rfl rfl rfl rfl rfl rfl (fun w2014 hq2015 => ?_)
                    obtain ⟨hI2016, hF2017, hx2018⟩ := hq2015
                    have hx2019 := hx2018
                    have pk2020 : PK w w2014 := PK.tr pk2008 (PK.fr hF2017 (by decide) (by decide) pk2008.2.2.2)
                    have ro2021 : ∀ l, l < fld w 82 14 → l < 16 → rwv w2014 112 (20 * l) = rwv w 112 (20 * l) := fun l hl h6 => ((hx2019 _ (by omega)).2 (by omega)).trans (ro2009 l hl h6)
                    have hq2022 := pk2020
                    unfold PK PS at hq2022
                    clear hq2010
                    have ms2023 : mu w2014 < mu w := Nat.lt_of_le_of_lt (PK.fr hF2017 (by decide) (by decide) pk2008.2.2.2).2.1 ms2011
                    have rz2024 : fld w 82 14 < 16 → rwv w2014 112 (20 * fld w 82 14) = kr := fun h6 => ((hx2019 _ (by omega)).2 (by omega)).trans (rz2012 h6)
                    have hf2025 : fld w2014 82 4 = f82_1962 := fld_of (hF2017.get (by decide) (hF2005.get (by decide) (hF1993.get (by decide) h82_1988)))
                    have hf2026 : fld w2014 82 5 = f82_1964 := fld_of (hF2017.get (by decide) (hF2005.get (by decide) (hF1993.get (by decide) h82_1988)))
                    have hf2027 : fld w2014 82 7 = f82_1968 := fld_of (hF2017.get (by decide) (hF2005.get (by decide) (hF1993.get (by decide) h82_1988)))
                    have hf2028 : fld w2014 82 10 = f82_1974 := fld_of (hF2017.get (by decide) (hF2005.get (by decide) (hF1993.get (by decide) h82_1988)))
                    have hf2029 : fld w2014 82 14 = f82_1976 := fld_of (hF2017.get (by decide) (hF2005.get (by decide) (hF1993.get (by decide) h82_1988)))
                    have hu2030 : mu w2014 = 2 * (fld w2014 82 4 - fld w2014 82 5) + min 1 (fld w2014 82 7) := rfl
                    have hl2031 : f82_1976 ≤ 1001 := by omega
                    refine xg_t (xg_aload (va := (2, 82)) rfl rfl) ?_
                    refine xg_t (xg_dup rfl) ?_
                    refine xg_t (xg_getf (va := (0, f82_1976)) (hF2017.get (by decide) (hF2005.get (by decide) (hF1993.get (by decide) h82_1988))) rfl) ?_
                    refine xg_t (xg_const) ?_
                    refine xg_t (xg_iadd (u := f82_1976) (v := 1) (z := f82_1976 + 1) xnm0 xnm0 (by omega)) ?_
                    refine xg_putI (fl1 := [(2, 83), (2, 84), (0, f82_1958), (0, f82_1960), (0, f82_1962), (0, f82_1964), (0, f82_1966), (0, f82_1968), (0, f82_1970), (0, f82_1972), (0, f82_1974), (2, 85), (2, 86), (2, 87), (0, f82_1976 + 1), (2, 88), (2, 89), (2, 90), (2, 91), (2, 92), (2, 93), (2, 94), (4, f82_1978), (4, f82_1979), (0, f82_1980), (2, 95), (2, 96), (2, 97), (2, 98), (2, 99), (2, 100), (2, 101), (2, 102), (0, f82_1982), (2, 103), (2, 104), (2, 105), (2, 106), (2, 107), (2, 108), (2, 109), (0, f82_1984), (0, f82_1986), (2, 110), (2, 111), (2, 112), (2, 113)]) (hF2017.get (by decide) (hF2005.get (by decide) (hF1993.get (by decide) h82_1988))) rfl rfl rfl (fun w2032 hk2033 hb2034 => ?_)
                    have hF2035 : xFr [82] w2014 w2032 := xFr.of hb2034 (by decide)
                    have hA2036 := FA_fr hF2035 (by decide)
                    have hf2037 : fld w2032 82 4 = f82_1962 := fld_of hk2033
                    have hf2038 : fld w2032 82 5 = f82_1964 := fld_of hk2033
                    have hf2039 : fld w2032 82 7 = f82_1968 := fld_of hk2033
                    have hf2040 : fld w2032 82 10 = f82_1974 := fld_of hk2033
                    have hf2041 : fld w2032 82 14 = f82_1976 + 1 := fld_of hk2033
                    have hu2042 : mu w2032 = 2 * (fld w2032 82 4 - fld w2032 82 5) + min 1 (fld w2032 82 7) := rfl
                    have hD2043 : FA w2032 ≠ 0 ∨ (RD w → RD w2032) := by
                      by_cases z : FA w2032 ≠ 0
                      · exact Or.inl z
                      · refine Or.inr (fun hd => ⟨by omega, fun l hl => ?_⟩)
                        rw [rwv_fr hF2035 (by decide)]
                        by_cases y : l = fld w 82 14
                        · rw [y, rz2024 (by omega)]; omega
                        · rw [ro2021 l (by omega) (by have := hd.1; omega)]; exact hd.2 l (by omega)
                    exact xg_e ⟨w2032, ⟨rfl, rfl⟩, xMnv.up (S := [82]) hI2016 (xFr.of (S := [82]) hb2034 (by decide)) (List.forall_mem_cons.mpr ⟨(show cp82 (wget w2032 82) from ⟨f82_1958, f82_1960, f82_1962, f82_1964, f82_1966, f82_1968, f82_1970, f82_1972, f82_1974, f82_1976 + 1, f82_1978, f82_1979, f82_1980, f82_1982, f82_1984, f82_1986, hk2033, by omega, by omega, by omega, by omega, by omega, by omega, by omega, by omega, by omega, by omega, by omega, by omega, by omega, by omega, by omega⟩), fun _ h => absurd h List.not_mem_nil⟩), (((((((hF1809.tr (hF1858.up (by decide))).tr (hF1903.up (by decide))).tr (hF1951.up (by decide))).tr (hF1993.up (by decide))).tr (hF2005.up (by decide))).tr (hF2017.up (by decide))).tr (xFr.of (S := [82, 83, 112, 113]) hb2034 (by decide))), ⟨fun h => by have := pk2020.1 h; omega, (show fld w2032 82 10 = 0 ∨ FA w2032 ≠ 0 by omega), Or.inr ⟨by have := ms2023; omega, by omega⟩, hD2043⟩⟩
                  · refine xg_t (xg_icT (u := f82_1878) (v := 40) rfl xnm0 xnm0 (xj_neT hc1915)) ?_
                    refine xg_t (xg_blk (b := [(160, 1, 0, 0, 0, 0), (161, 3, 13, 198, 96, 418)]) rfl) ?_
                    refine xg_t (xg_aload (va := (2, 82)) rfl rfl) ?_
                    obtain ⟨f82_2044, f82_2046, f82_2048, f82_2050, f82_2052, f82_2054, f82_2056, f82_2058, f82_2060, f82_2062, f82_2064, f82_2065, f82_2066, f82_2068, f82_2070, f82_2072, h82_2074, hb2045, hb2047, hb2049, hb2051, hb2053, hb2055, hb2057, hb2059, hb2061, hb2063, hb2067, hb2069, hb2071, hb2073, hb2075⟩ := (hI1902 82 (by decide) (by decide) : cp82 (wget w1900 82))
                    refine xg_cVi mX12_numberNow (vs := []) (rest := []) (cn1 := 0) (sl1 := 0) rfl (mNumberNow (hI1902) pk1911.2.2.2) rfl h82_2074 rfl rfl rfl rfl rfl rfl (fun n2080 w2076 hq2077 => ?_)
                    obtain ⟨hn2081, hI2078, hF2079⟩ := hq2077
                    obtain ⟨hn2082, hn2083⟩ := hn2081
                    have pk2084 : PK w w2076 := PK.tr pk1911 hn2083
                    have ro2085 : ∀ l, l < fld w 82 14 → l < 16 → rwv w2076 112 (20 * l) = rwv w 112 (20 * l) := fun l hl h6 => (rwv_fr hF2079 (by decide)).trans (ro1912 l hl h6)
                    have hq2086 := pk2084
                    unfold PK PS at hq2086
                    clear hq1913
                    have ms2087 : mu w2076 < mu w := Nat.lt_of_le_of_lt hn2083.2.1 ms1914
                    refine xg_t (xg_blk (b := [(164, 1, 15, 3, 0, 0), (165, 1, 0, 0, 0, 0), (166, 2, 4, 59, 0, 0), (168, 3, 13, 195, 96, 427), (171, 1, 0, 0, 0, 0), (172, 1, 3, 0, 0, 0), (173, 1, 2, 1, 0, 0), (174, 3, 13, 214, 96, 424), (177, 1, 0, 0, 0, 0), (178, 2, 4, 17, 0, 0), (180, 1, 2, 2, 0, 0), (181, 3, 13, 214, 96, 424), (184, 1, 0, 0, 0, 0), (185, 2, 4, 18, 0, 0), (187, 1, 2, 3, 0, 0), (188, 3, 13, 214, 96, 424), (191, 1, 0, 0, 0, 0), (192, 1, 19, 0, 0, 0), (193, 3, 1, 12, 14, 212), (196, 1, 3, 1, 0, 0), (197, 1, 11, 0, 0, 0), (198, 3, 14, 12, 14, 212), (201, 1, 12, 0, 0, 0)]) rfl) ?_
                    refine xg_t (xg_istore (l1 := [(2, (0, f82_1878)), (0, (2, 82)), (1, (0, kr))]) rfl rfl rfl) ?_
                    refine xg_t (xg_aload (va := (2, 82)) rfl rfl) ?_
                    refine xg_t (xg_bip) ?_
                    obtain ⟨f82_2088, f82_2090, f82_2092, f82_2094, f82_2096, f82_2098, f82_2100, f82_2102, f82_2104, f82_2106, f82_2108, f82_2109, f82_2110, f82_2112, f82_2114, f82_2116, h82_2118, hb2089, hb2091, hb2093, hb2095, hb2097, hb2099, hb2101, hb2103, hb2105, hb2107, hb2111, hb2113, hb2115, hb2117, hb2119⟩ := (hI2078 82 (by decide) (by decide) : cp82 (wget w2076 82))
                    refine xg_cVv mX12_must (vs := [(0, 59)]) (rest := []) (cn1 := 0) (sl1 := 0) rfl (mMust (hI2078) (by omega) pk2084.2.2.2) rfl h82_2118 rfl rfl rfl rfl rfl rfl (fun w2120 hq2121 => ?_)
                    obtain ⟨hI2122, hF2123, hx2124⟩ := hq2121
                    have pk2125 : PK w w2120 := PK.tr pk2084 hx2124
                    have ro2126 : ∀ l, l < fld w 82 14 → l < 16 → rwv w2120 112 (20 * l) = rwv w 112 (20 * l) := fun l hl h6 => (rwv_fr hF2123 (by decide)).trans (ro2085 l hl h6)
                    have hq2127 := pk2125
                    unfold PK PS at hq2127
                    clear hq2086
                    have ms2128 : mu w2120 < mu w := Nat.lt_of_le_of_lt hx2124.2.1 ms2087
                    refine xg_t (xg_aload (va := (2, 82)) rfl rfl) ?_
                    refine xg_t (xg_const) ?_
                    refine xg_t (xg_iload (va := (0, kr)) rfl rfl) ?_
                    have hl2129 : fld w2120 82 14 ≤ 2000 := by omega
                    obtain ⟨f82_2130, f82_2132, f82_2134, f82_2136, f82_2138, f82_2140, f82_2142, f82_2144, f82_2146, f82_2148, f82_2150, f82_2151, f82_2152, f82_2154, f82_2156, f82_2158, h82_2160, hb2131, hb2133, hb2135, hb2137, hb2139, hb2141, hb2143, hb2145, hb2147, hb2149, hb2153, hb2155, hb2157, hb2159, hb2161⟩ := (hI2122 82 (by decide) (by decide) : cp82 (wget w2120 82))
                    refine xg_cVv mX12_rulePuts (vs := [(0, 0), (0, kr)]) (rest := []) (cn1 := 0) (sl1 := 0) rfl (mRulePuts (hI2122) (by omega) (by omega) (by omega)) rfl h82_2160 rfl rfl rfl rfl rfl rfl (fun w2162 hq2163 => ?_)
                    obtain ⟨hI2164, hF2165, hx2166⟩ := hq2163
                    have hx2167 := hx2166
                    have pk2168 : PK w w2162 := PK.tr pk2125 (PK.fr hF2165 (by decide) (by decide) pk2125.2.2.2)
                    have ro2169 : ∀ l, l < fld w 82 14 → l < 16 → rwv w2162 112 (20 * l) = rwv w 112 (20 * l) := fun l hl h6 => ((hx2167 _ (by omega)).2 (by omega)).trans (ro2126 l hl h6)
                    have hq2170 := pk2168
                    unfold PK PS at hq2170
                    clear hq2127
                    have ms2171 : mu w2162 < mu w := Nat.lt_of_le_of_lt (PK.fr hF2165 (by decide) (by decide) pk2125.2.2.2).2.1 ms2128
                    have rz2172 : fld w 82 14 < 16 → rwv w2162 112 (20 * fld w 82 14) = kr := fun h6 => (hx2167 _ (by omega)).1 ⟨by omega, by omega⟩
                    refine xg_t (xg_aload (va := (2, 82)) rfl rfl) ?_
                    refine xg_t (xg_bip) ?_
                    refine xg_t (xg_iload (va := (0, f82_1878)) rfl rfl) ?_
                    have hl2173 : fld w2162 82 14 ≤ 2000 := by omega
                    refine xg_cVv mX12_rulePuts (vs := [(0, 17), (0, f82_1878)]) (rest := []) (cn1 := 0) (sl1 := 0) rfl (mRulePuts (hI2164) (by omega) (by omega) (by omega)) rfl (hF2165.get (by decide) h82_2160) rfl rfl rfl rfl rfl rfl (fun w2174 hq2175 => ?_)
                    obtain ⟨hI2176, hF2177, hx2178⟩ := hq2175
                    have hx2179 := hx2178
                    have pk2180 : PK w w2174 := PK.tr pk2168 (PK.fr hF2177 (by decide) (by decide) pk2168.2.2.2)
                    have ro2181 : ∀ l, l < fld w 82 14 → l < 16 → rwv w2174 112 (20 * l) = rwv w 112 (20 * l) := fun l hl h6 => ((hx2179 _ (by omega)).2 (by omega)).trans (ro2169 l hl h6)
                    have hq2182 := pk2180
                    unfold PK PS at hq2182
                    clear hq2170
                    have ms2183 : mu w2174 < mu w := Nat.lt_of_le_of_lt (PK.fr hF2177 (by decide) (by decide) pk2168.2.2.2).2.1 ms2171
                    have rz2184 : fld w 82 14 < 16 → rwv w2174 112 (20 * fld w 82 14) = kr := fun h6 => ((hx2179 _ (by omega)).2 (by omega)).trans (rz2172 h6)
                    refine xg_t (xg_aload (va := (2, 82)) rfl rfl) ?_
                    refine xg_t (xg_bip) ?_
                    refine xg_t (xg_iload (va := (0, n2080)) rfl rfl) ?_
                    have hl2185 : fld w2174 82 14 ≤ 2000 := by omega
                    refine xg_cVv mX12_rulePuts (vs := [(0, 18), (0, n2080)]) (rest := []) (cn1 := 0) (sl1 := 0) rfl (mRulePuts (hI2176) (by omega) (by omega) (by omega)) rfl (hF2177.get (by decide) (hF2165.get (by decide) h82_2160)) rfl rfl rfl rfl rfl rfl (fun w2186 hq2187 => ?_)
                    obtain ⟨hI2188, hF2189, hx2190⟩ := hq2187
                    have hx2191 := hx2190
                    have pk2192 : PK w w2186 := PK.tr pk2180 (PK.fr hF2189 (by decide) (by decide) pk2180.2.2.2)
                    have ro2193 : ∀ l, l < fld w 82 14 → l < 16 → rwv w2186 112 (20 * l) = rwv w 112 (20 * l) := fun l hl h6 => ((hx2191 _ (by omega)).2 (by omega)).trans (ro2181 l hl h6)
                    have hq2194 := pk2192
                    unfold PK PS at hq2194
                    clear hq2182
                    have ms2195 : mu w2186 < mu w := Nat.lt_of_le_of_lt (PK.fr hF2189 (by decide) (by decide) pk2180.2.2.2).2.1 ms2183
                    have rz2196 : fld w 82 14 < 16 → rwv w2186 112 (20 * fld w 82 14) = kr := fun h6 => ((hx2191 _ (by omega)).2 (by omega)).trans (rz2184 h6)
                    have hf2197 : fld w2186 82 4 = f82_2134 := fld_of (hF2189.get (by decide) (hF2177.get (by decide) (hF2165.get (by decide) h82_2160)))
                    have hf2198 : fld w2186 82 5 = f82_2136 := fld_of (hF2189.get (by decide) (hF2177.get (by decide) (hF2165.get (by decide) h82_2160)))
                    have hf2199 : fld w2186 82 7 = f82_2140 := fld_of (hF2189.get (by decide) (hF2177.get (by decide) (hF2165.get (by decide) h82_2160)))
                    have hf2200 : fld w2186 82 10 = f82_2146 := fld_of (hF2189.get (by decide) (hF2177.get (by decide) (hF2165.get (by decide) h82_2160)))
                    have hf2201 : fld w2186 82 14 = f82_2148 := fld_of (hF2189.get (by decide) (hF2177.get (by decide) (hF2165.get (by decide) h82_2160)))
                    have hu2202 : mu w2186 = 2 * (fld w2186 82 4 - fld w2186 82 5) + min 1 (fld w2186 82 7) := rfl
                    have hl2203 : f82_2148 ≤ 1001 := by omega
                    refine xg_t (xg_aload (va := (2, 82)) rfl rfl) ?_
                    refine xg_t (xg_dup rfl) ?_
                    refine xg_t (xg_getf (va := (0, f82_2148)) (hF2189.get (by decide) (hF2177.get (by decide) (hF2165.get (by decide) h82_2160))) rfl) ?_
                    refine xg_t (xg_const) ?_
                    refine xg_t (xg_iadd (u := f82_2148) (v := 1) (z := f82_2148 + 1) xnm0 xnm0 (by omega)) ?_
                    refine xg_putI (fl1 := [(2, 83), (2, 84), (0, f82_2130), (0, f82_2132), (0, f82_2134), (0, f82_2136), (0, f82_2138), (0, f82_2140), (0, f82_2142), (0, f82_2144), (0, f82_2146), (2, 85), (2, 86), (2, 87), (0, f82_2148 + 1), (2, 88), (2, 89), (2, 90), (2, 91), (2, 92), (2, 93), (2, 94), (4, f82_2150), (4, f82_2151), (0, f82_2152), (2, 95), (2, 96), (2, 97), (2, 98), (2, 99), (2, 100), (2, 101), (2, 102), (0, f82_2154), (2, 103), (2, 104), (2, 105), (2, 106), (2, 107), (2, 108), (2, 109), (0, f82_2156), (0, f82_2158), (2, 110), (2, 111), (2, 112), (2, 113)]) (hF2189.get (by decide) (hF2177.get (by decide) (hF2165.get (by decide) h82_2160))) rfl rfl rfl (fun w2204 hk2205 hb2206 => ?_)
                    have hF2207 : xFr [82] w2186 w2204 := xFr.of hb2206 (by decide)
                    have hA2208 := FA_fr hF2207 (by decide)
                    have hf2209 : fld w2204 82 4 = f82_2134 := fld_of hk2205
                    have hf2210 : fld w2204 82 5 = f82_2136 := fld_of hk2205
                    have hf2211 : fld w2204 82 7 = f82_2140 := fld_of hk2205
                    have hf2212 : fld w2204 82 10 = f82_2146 := fld_of hk2205
                    have hf2213 : fld w2204 82 14 = f82_2148 + 1 := fld_of hk2205
                    have hu2214 : mu w2204 = 2 * (fld w2204 82 4 - fld w2204 82 5) + min 1 (fld w2204 82 7) := rfl
                    have hD2215 : FA w2204 ≠ 0 ∨ (RD w → RD w2204) := by
                      by_cases z : FA w2204 ≠ 0
                      · exact Or.inl z
                      · refine Or.inr (fun hd => ⟨by omega, fun l hl => ?_⟩)
                        rw [rwv_fr hF2207 (by decide)]
                        by_cases y : l = fld w 82 14
                        · rw [y, rz2196 (by omega)]; omega
                        · rw [ro2193 l (by omega) (by have := hd.1; omega)]; exact hd.2 l (by omega)
                    exact xg_e ⟨w2204, ⟨rfl, rfl⟩, xMnv.up (S := [82]) hI2188 (xFr.of (S := [82]) hb2206 (by decide)) (List.forall_mem_cons.mpr ⟨(show cp82 (wget w2204 82) from ⟨f82_2130, f82_2132, f82_2134, f82_2136, f82_2138, f82_2140, f82_2142, f82_2144, f82_2146, f82_2148 + 1, f82_2150, f82_2151, f82_2152, f82_2154, f82_2156, f82_2158, hk2205, by omega, by omega, by omega, by omega, by omega, by omega, by omega, by omega, by omega, by omega, by omega, by omega, by omega, by omega, by omega⟩), fun _ h => absurd h List.not_mem_nil⟩), ((((((((hF1809.tr (hF1858.up (by decide))).tr (hF1903.up (by decide))).tr (hF2079.up (by decide))).tr (hF2123.up (by decide))).tr (hF2165.up (by decide))).tr (hF2177.up (by decide))).tr (hF2189.up (by decide))).tr (xFr.of (S := [82, 83, 112, 113]) hb2206 (by decide))), ⟨fun h => by have := pk2192.1 h; omega, (show fld w2204 82 10 = 0 ∨ FA w2204 ≠ 0 by omega), Or.inr ⟨by have := ms2195; omega, by omega⟩, hD2215⟩⟩
                · refine xg_t (xg_ifF (u := (if 40 ≤ f82_1878 ∧ f82_1878 ≤ 42 then 1 else 0)) rfl xnm0 (xj_neF (xite0 hc1898))) ?_
                  refine xg_t (xg_blk (b := [(136, 1, 0, 0, 0, 0), (137, 3, 13, 140, 96, 183), (140, 1, 12, 0, 0, 0)]) rfl) ?_
                  refine xg_t (xg_aload (va := (2, 82)) rfl rfl) ?_
                  refine xg_cVv mX12_ends (vs := []) (rest := []) (cn1 := 0) (sl1 := 0) rfl (mEnds (hI1857) pk1860.2.2.2) rfl h82_1894 rfl rfl rfl rfl rfl rfl (fun w2216 hq2217 => ?_)
                  obtain ⟨hI2218, hF2219, hx2220⟩ := hq2217
                  obtain ⟨hv2221, hv2222, hv2223, hv2224⟩ := hx2220
                  have pk2225 : PK w1855 w2216 := ⟨fun _ => hv2221, by omega, by omega, Or.inr hv2221⟩
                  have pk2226 : PK w w2216 := PK.tr pk1860 pk2225
                  have ro2227 : ∀ l, l < fld w 82 14 → l < 16 → rwv w2216 112 (20 * l) = rwv w 112 (20 * l) := fun l hl h6 => (rwv_fr hF2219 (by decide)).trans (ro1861 l hl h6)
                  have hq2228 := pk2226
                  unfold PK PS at hq2228
                  clear hq1862
                  have ms2229 : mu w2216 < mu w := Nat.lt_of_le_of_lt pk2225.2.1 ms1863
                  obtain ⟨f82_2230, f82_2232, f82_2234, f82_2236, f82_2238, f82_2240, f82_2242, f82_2244, f82_2246, f82_2248, f82_2250, f82_2251, f82_2252, f82_2254, f82_2256, f82_2258, h82_2260, hb2231, hb2233, hb2235, hb2237, hb2239, hb2241, hb2243, hb2245, hb2247, hb2249, hb2253, hb2255, hb2257, hb2259, hb2261⟩ := (hI2218 82 (by decide) (by decide) : cp82 (wget w2216 82))
                  exact xg_e ⟨w2216, ⟨rfl, rfl⟩, hI2218, ((hF1809.tr (hF1858.up (by decide))).tr (hF2219.up (by decide))), ⟨pk2226.1, pk2226.2.2.2, Or.inl ⟨by omega, pk2226.2.1, pk2226.2.2.1⟩, Or.inl (by omega)⟩⟩
              · refine xg_t (xg_icT (u := f82_1874) (v := 3) rfl xnm0 xnm0 (xj_neT hc1897)) ?_
                refine xg_t (xg_blk (b := [(136, 1, 0, 0, 0, 0), (137, 3, 13, 140, 96, 183), (140, 1, 12, 0, 0, 0)]) rfl) ?_
                refine xg_t (xg_aload (va := (2, 82)) rfl rfl) ?_
                refine xg_cVv mX12_ends (vs := []) (rest := []) (cn1 := 0) (sl1 := 0) rfl (mEnds (hI1857) pk1860.2.2.2) rfl h82_1894 rfl rfl rfl rfl rfl rfl (fun w2262 hq2263 => ?_)
                obtain ⟨hI2264, hF2265, hx2266⟩ := hq2263
                obtain ⟨hv2267, hv2268, hv2269, hv2270⟩ := hx2266
                have pk2271 : PK w1855 w2262 := ⟨fun _ => hv2267, by omega, by omega, Or.inr hv2267⟩
                have pk2272 : PK w w2262 := PK.tr pk1860 pk2271
                have ro2273 : ∀ l, l < fld w 82 14 → l < 16 → rwv w2262 112 (20 * l) = rwv w 112 (20 * l) := fun l hl h6 => (rwv_fr hF2265 (by decide)).trans (ro1861 l hl h6)
                have hq2274 := pk2272
                unfold PK PS at hq2274
                clear hq1862
                have ms2275 : mu w2262 < mu w := Nat.lt_of_le_of_lt pk2271.2.1 ms1863
                obtain ⟨f82_2276, f82_2278, f82_2280, f82_2282, f82_2284, f82_2286, f82_2288, f82_2290, f82_2292, f82_2294, f82_2296, f82_2297, f82_2298, f82_2300, f82_2302, f82_2304, h82_2306, hb2277, hb2279, hb2281, hb2283, hb2285, hb2287, hb2289, hb2291, hb2293, hb2295, hb2299, hb2301, hb2303, hb2305, hb2307⟩ := (hI2264 82 (by decide) (by decide) : cp82 (wget w2262 82))
                exact xg_e ⟨w2262, ⟨rfl, rfl⟩, hI2264, ((hF1809.tr (hF1858.up (by decide))).tr (hF2265.up (by decide))), ⟨pk2272.1, pk2272.2.2.2, Or.inl ⟨by omega, pk2272.2.1, pk2272.2.2.1⟩, Or.inl (by omega)⟩⟩
            · refine xg_t (xg_ifT (u := f82_1880) rfl xnm0 (xj_neT hc1896)) ?_
              refine xg_t (xg_blk (b := [(136, 1, 0, 0, 0, 0), (137, 3, 13, 140, 96, 183), (140, 1, 12, 0, 0, 0)]) rfl) ?_
              refine xg_t (xg_aload (va := (2, 82)) rfl rfl) ?_
              refine xg_cVv mX12_ends (vs := []) (rest := []) (cn1 := 0) (sl1 := 0) rfl (mEnds (hI1857) pk1860.2.2.2) rfl h82_1894 rfl rfl rfl rfl rfl rfl (fun w2308 hq2309 => ?_)
              obtain ⟨hI2310, hF2311, hx2312⟩ := hq2309
              obtain ⟨hv2313, hv2314, hv2315, hv2316⟩ := hx2312
              have pk2317 : PK w1855 w2308 := ⟨fun _ => hv2313, by omega, by omega, Or.inr hv2313⟩
              have pk2318 : PK w w2308 := PK.tr pk1860 pk2317
              have ro2319 : ∀ l, l < fld w 82 14 → l < 16 → rwv w2308 112 (20 * l) = rwv w 112 (20 * l) := fun l hl h6 => (rwv_fr hF2311 (by decide)).trans (ro1861 l hl h6)
              have hq2320 := pk2318
              unfold PK PS at hq2320
              clear hq1862
              have ms2321 : mu w2308 < mu w := Nat.lt_of_le_of_lt pk2317.2.1 ms1863
              obtain ⟨f82_2322, f82_2324, f82_2326, f82_2328, f82_2330, f82_2332, f82_2334, f82_2336, f82_2338, f82_2340, f82_2342, f82_2343, f82_2344, f82_2346, f82_2348, f82_2350, h82_2352, hb2323, hb2325, hb2327, hb2329, hb2331, hb2333, hb2335, hb2337, hb2339, hb2341, hb2345, hb2347, hb2349, hb2351, hb2353⟩ := (hI2310 82 (by decide) (by decide) : cp82 (wget w2308 82))
              exact xg_e ⟨w2308, ⟨rfl, rfl⟩, hI2310, ((hF1809.tr (hF1858.up (by decide))).tr (hF2311.up (by decide))), ⟨pk2318.1, pk2318.2.2.2, Or.inl ⟨by omega, pk2318.2.1, pk2318.2.2.1⟩, Or.inl (by omega)⟩⟩
          · refine xg_t (xg_ifF (u := mo) rfl xnm0 (xj_eqF hc1854)) ?_
            refine xg_t (xg_iload (va := (0, kr)) rfl rfl) ?_
            refine xg_t (xg_const) ?_
            by_cases hc2354 : 3 < kr
            · refine xg_t (xg_icF (u := kr) (v := 3) rfl xnm0 xnm0 (xj_leF hc2354 (by omega))) ?_
              refine xg_t (xg_aload (va := (2, 82)) rfl rfl) ?_
              refine xg_t (xg_const) ?_
              refine xg_t (xg_aload (va := (2, 82)) rfl rfl) ?_
              refine xg_t (xg_getf (va := (0, f82_1830)) h82_1852 rfl) ?_
              refine xg_cVv mX12_also (vs := [(0, 3), (0, f82_1830)]) (rest := []) (cn1 := 0) (sl1 := 0) rfl (mAlso (hI1808) (by omega) (by omega) (by omega) hz1814.2.2.2) rfl h82_1852 rfl rfl rfl rfl rfl rfl (fun w2355 hq2356 => ?_)
              obtain ⟨hI2357, hF2358, hx2359⟩ := hq2356
              have pk2360 : PK w1807 w2355 := ⟨fun _ => hx2359, Nat.le_of_eq (mu_fr hF2358 (by decide)), fld_fr hF2358 (by decide), Or.inr hx2359⟩
              have hA2361 := hx2359
              have pk2362 : PK w w2355 := PK.tr hz1814 pk2360
              have ro2363 : ∀ l, l < fld w 82 14 → l < 16 → rwv w2355 112 (20 * l) = rwv w 112 (20 * l) := fun l hl h6 => (rwv_fr hF2358 (by decide)).trans (hz1815 l hl h6)
              have hq2364 := pk2362
              unfold PK PS at hq2364
              clear hq1821
              have pj2365 : PK w1807 w2355 := PK.tr (PK.rf hz1814.2.2.2) pk2360
              have hq2366 := pj2365
              unfold PK PS at hq2366
              have ms2367 : mu w2355 < mu w := Nat.lt_of_le_of_lt pk2360.2.1 hz1816
              refine xg_t (xg_blk (b := [(49, 1, 0, 0, 0, 0), (50, 3, 13, 109, 96, 421), (53, 1, 3, 0, 0, 0), (54, 1, 15, 3, 0, 0)]) rfl) ?_
              refine xg_t (xg_aload (va := (2, 82)) rfl rfl) ?_
              refine xg_cVv mX12_aTest (vs := []) (rest := []) (cn1 := 0) (sl1 := 0) rfl (mATest (hI2357) pk2362.2.2.2) rfl (hF2358.get (by decide) h82_1852) rfl rfl rfl rfl rfl rfl (fun w2368 hq2369 => ?_)
              obtain ⟨hI2370, hF2371, hx2372⟩ := hq2369
              have pk2373 : PK w w2368 := PK.tr pk2362 hx2372
              have ro2374 : ∀ l, l < fld w 82 14 → l < 16 → rwv w2368 112 (20 * l) = rwv w 112 (20 * l) := fun l hl h6 => (rwv_fr hF2371 (by decide)).trans (ro2363 l hl h6)
              have hq2375 := pk2373
              unfold PK PS at hq2375
              clear hq2364
              have pj2376 : PK w1807 w2368 := PK.tr pj2365 hx2372
              have hq2377 := pj2376
              unfold PK PS at hq2377
              clear hq2366
              have ms2378 : mu w2368 < mu w := Nat.lt_of_le_of_lt hx2372.2.1 ms2367
              refine xg_t (xg_const) ?_
              refine xg_t (xg_istore (l1 := [(0, (2, 82)), (1, (0, kr)), (2, (0, mo))]) rfl rfl rfl) ?_
              refine xg_t (xg_blk (b := [(55, 1, 2, 3, 0, 0), (56, 1, 3, 4, 0, 0), (57, 3, 6, 88, 3, 0), (60, 1, 2, 1, 0, 0), (61, 1, 3, 4, 0, 0), (62, 3, 6, 88, 3, 0), (65, 1, 0, 0, 0, 0), (66, 1, 3, 1, 0, 0), (67, 1, 3, 4, 0, 0), (68, 1, 2, 1, 0, 0), (69, 1, 16, 0, 0, 0), (70, 1, 11, 0, 0, 0), (71, 1, 2, 3, 0, 0), (72, 1, 11, 0, 0, 0), (73, 1, 0, 0, 0, 0), (74, 3, 1, 12, 46, 102), (77, 1, 2, 3, 0, 0), (78, 1, 10, 0, 0, 0), (79, 3, 13, 214, 96, 424), (82, 3, 9, 3, 1, 0), (85, 3, 8, 55, 0, 0)]) rfl) ?_
              refine xg_t (xg_iload (va := (0, 0)) rfl rfl) ?_
              refine xg_t (xg_const) ?_
              refine xg_t (xg_icF (u := 0) (v := 4) rfl xnm0 xnm0 (by decide)) ?_
              refine xg_t (xg_iload (va := (0, kr)) rfl rfl) ?_
              refine xg_t (xg_const) ?_
              refine xg_t (xg_icT (u := kr) (v := 4) rfl xnm0 xnm0 (xj_geT (by omega) (by omega))) ?_
              refine xg_t (xg_blk (b := [(88, 3, 9, 1, 1, 0), (91, 1, 0, 0, 0, 0), (92, 2, 4, 51, 0, 0), (94, 3, 13, 227, 96, 415), (97, 1, 15, 2, 0, 0), (98, 3, 8, 31, 0, 0)]) rfl) ?_
              refine xg_t (xg_iinc (u := kr) (z := kr + 1) (l1 := [(3, (0, 0)), (0, (2, 82)), (2, (0, mo))]) rfl rfl (by omega) rfl) ?_
              refine xg_t (xg_aload (va := (2, 82)) rfl rfl) ?_
              refine xg_t (xg_bip) ?_
              obtain ⟨f82_2379, f82_2381, f82_2383, f82_2385, f82_2387, f82_2389, f82_2391, f82_2393, f82_2395, f82_2397, f82_2399, f82_2400, f82_2401, f82_2403, f82_2405, f82_2407, h82_2409, hb2380, hb2382, hb2384, hb2386, hb2388, hb2390, hb2392, hb2394, hb2396, hb2398, hb2402, hb2404, hb2406, hb2408, hb2410⟩ := (hI2370 82 (by decide) (by decide) : cp82 (wget w2368 82))
              refine xg_cVi mX12_takes (vs := [(0, 51)]) (rest := []) (cn1 := 0) (sl1 := 0) rfl (mTakes (hI2370) (by omega) pk2373.2.2.2) rfl h82_2409 rfl rfl rfl rfl rfl rfl (fun n2415 w2411 hq2412 => ?_)
              obtain ⟨hn2416, hI2413, hF2414⟩ := hq2412
              obtain ⟨hn2417, hn2418, hn2419⟩ := hn2416
              have pk2420 : PK w w2411 := PK.tr pk2373 hn2418
              have ro2421 : ∀ l, l < fld w 82 14 → l < 16 → rwv w2411 112 (20 * l) = rwv w 112 (20 * l) := fun l hl h6 => (rwv_fr hF2414 (by decide)).trans (ro2374 l hl h6)
              have hq2422 := pk2420
              unfold PK PS at hq2422
              clear hq2375
              have pj2423 : PK w1807 w2411 := PK.tr pj2376 hn2418
              have hq2424 := pj2423
              unfold PK PS at hq2424
              clear hq2377
              have ms2425 : mu w2411 < mu w := Nat.lt_of_le_of_lt hn2418.2.1 ms2378
              have hu2426 : n2415 = 1 → mu w2411 < mu w1807 := fun h => Nat.lt_of_lt_of_le (hn2419 h) pj2376.2.1
              refine xg_t (xg_istore (l1 := [(1, (0, kr + 1)), (3, (0, 0)), (0, (2, 82))]) rfl rfl rfl) ?_
              refine xg_t (xg_goto) ?_
              refine xg_t (xg_drop (l1 := [(0, (2, 82)), (1, (0, kr + 1)), (2, (0, n2415))]) (List.forall_mem_cons.mpr ⟨List.mem_cons_of_mem _ (List.mem_cons_of_mem _ (List.mem_cons_of_mem _ (List.mem_cons_self))), List.forall_mem_cons.mpr ⟨List.mem_cons_of_mem _ (List.mem_cons_self), List.forall_mem_cons.mpr ⟨List.mem_cons_self, fun _ h => absurd h List.not_mem_nil⟩⟩⟩)) ?_
              exact ih1805 (kr + 1) n2415 w2411 (by omega) (by omega) (by omega) (hI2413) ((((hF1809.tr (hF2358.up (by decide))).tr (hF2371.up (by decide))).tr (hF2414.up (by decide)))) (⟨pk2420, ro2421, ms2425, by omega, by omega, fun _ => by omega, fun h => by omega⟩)
            · refine xg_t (xg_icT (u := kr) (v := 3) rfl xnm0 xnm0 (xj_leT (by omega) (by omega))) ?_
              refine xg_t (xg_blk (b := [(49, 1, 0, 0, 0, 0), (50, 3, 13, 109, 96, 421), (53, 1, 3, 0, 0, 0), (54, 1, 15, 3, 0, 0)]) rfl) ?_
              refine xg_t (xg_aload (va := (2, 82)) rfl rfl) ?_
              refine xg_cVv mX12_aTest (vs := []) (rest := []) (cn1 := 0) (sl1 := 0) rfl (mATest (hI1808) hz1814.2.2.2) rfl h82_1852 rfl rfl rfl rfl rfl rfl (fun w2427 hq2428 => ?_)
              obtain ⟨hI2429, hF2430, hx2431⟩ := hq2428
              have pk2432 : PK w w2427 := PK.tr hz1814 hx2431
              have ro2433 : ∀ l, l < fld w 82 14 → l < 16 → rwv w2427 112 (20 * l) = rwv w 112 (20 * l) := fun l hl h6 => (rwv_fr hF2430 (by decide)).trans (hz1815 l hl h6)
              have hq2434 := pk2432
              unfold PK PS at hq2434
              clear hq1821
              have pj2435 : PK w1807 w2427 := PK.tr (PK.rf hz1814.2.2.2) hx2431
              have hq2436 := pj2435
              unfold PK PS at hq2436
              have ms2437 : mu w2427 < mu w := Nat.lt_of_le_of_lt hx2431.2.1 hz1816
              refine xg_t (xg_const) ?_
              refine xg_t (xg_istore (l1 := [(0, (2, 82)), (1, (0, kr)), (2, (0, mo))]) rfl rfl rfl) ?_
              refine xg_t (xg_blk (b := [(55, 1, 2, 3, 0, 0), (56, 1, 3, 4, 0, 0), (57, 3, 6, 88, 3, 0), (60, 1, 2, 1, 0, 0), (61, 1, 3, 4, 0, 0), (62, 3, 6, 88, 3, 0), (65, 1, 0, 0, 0, 0), (66, 1, 3, 1, 0, 0), (67, 1, 3, 4, 0, 0), (68, 1, 2, 1, 0, 0), (69, 1, 16, 0, 0, 0), (70, 1, 11, 0, 0, 0), (71, 1, 2, 3, 0, 0), (72, 1, 11, 0, 0, 0), (73, 1, 0, 0, 0, 0), (74, 3, 1, 12, 46, 102), (77, 1, 2, 3, 0, 0), (78, 1, 10, 0, 0, 0), (79, 3, 13, 214, 96, 424), (82, 3, 9, 3, 1, 0), (85, 3, 8, 55, 0, 0)]) rfl) ?_
              refine xg_t (xg_iload (va := (0, 0)) rfl rfl) ?_
              refine xg_t (xg_const) ?_
              refine xg_t (xg_icF (u := 0) (v := 4) rfl xnm0 xnm0 (by decide)) ?_
              refine xg_t (xg_iload (va := (0, kr)) rfl rfl) ?_
              refine xg_t (xg_const) ?_
              refine xg_t (xg_icF (u := kr) (v := 4) rfl xnm0 xnm0 (xj_geF (by omega) (by omega))) ?_
              refine xg_t (xg_aload (va := (2, 82)) rfl rfl) ?_
              refine xg_t (xg_const) ?_
              refine xg_t (xg_const) ?_
              refine xg_t (xg_iload (va := (0, kr)) rfl rfl) ?_
              refine xg_t (xg_imul (u := 4) (v := kr) (z := 4 * kr) xnm0 xnm0 (by omega)) ?_
              refine xg_t (xg_iadd (u := 1) (v := 4 * kr) (z := 1 + (4 * kr)) xnm0 xnm0 (by omega)) ?_
              refine xg_t (xg_iload (va := (0, 0)) rfl rfl) ?_
              refine xg_t (xg_iadd (u := 1 + (4 * kr)) (v := 0) (z := (1 + (4 * kr)) + 0) xnm0 xnm0 (by omega)) ?_
              refine xg_t (xg_aload (va := (2, 82)) rfl rfl) ?_
              obtain ⟨f82_2438, f82_2440, f82_2442, f82_2444, f82_2446, f82_2448, f82_2450, f82_2452, f82_2454, f82_2456, f82_2458, f82_2459, f82_2460, f82_2462, f82_2464, f82_2466, h82_2468, hb2439, hb2441, hb2443, hb2445, hb2447, hb2449, hb2451, hb2453, hb2455, hb2457, hb2461, hb2463, hb2465, hb2467, hb2469⟩ := (hI2429 82 (by decide) (by decide) : cp82 (wget w2427 82))
              refine xg_t (xg_getf (va := (2, 113)) h82_2468 rfl) ?_
              refine xg_t (xg_iload (va := (0, 0)) rfl rfl) ?_
              obtain ⟨g113_2470, h113_2471, hb2472⟩ := (hI2429 113 (by decide) (by decide) : cpI 4 80 4294967295 (wget w2427 113))
              have h113_2471 : xRow w2427 113 4 80 g113_2470 := h113_2471
              refine xg_ialdB (n := 0) (B := 4294967295) h113_2471 (hb2472) xnm0 (by omega) (fun u2473 hu2474 he2475 => ?_)
              have hl2476 : fld w2427 82 14 ≤ 2000 := by omega
              refine xg_cVv mX12_rulePuts (vs := [(0, (1 + (4 * kr)) + 0), (0, u2473)]) (rest := []) (cn1 := 0) (sl1 := 0) rfl (mRulePuts (hI2429) (by omega) (by omega) (by omega)) rfl h82_2468 rfl rfl rfl rfl rfl rfl (fun w2477 hq2478 => ?_)
              obtain ⟨hI2479, hF2480, hx2481⟩ := hq2478
              have hx2482 := hx2481
              have pk2483 : PK w w2477 := PK.tr pk2432 (PK.fr hF2480 (by decide) (by decide) pk2432.2.2.2)
              have ro2484 : ∀ l, l < fld w 82 14 → l < 16 → rwv w2477 112 (20 * l) = rwv w 112 (20 * l) := fun l hl h6 => ((hx2482 _ (by omega)).2 (by omega)).trans (ro2433 l hl h6)
              have hq2485 := pk2483
              unfold PK PS at hq2485
              clear hq2434
              have pj2486 : PK w1807 w2477 := PK.tr pj2435 (PK.fr hF2480 (by decide) (by decide) pk2432.2.2.2)
              have hq2487 := pj2486
              unfold PK PS at hq2487
              clear hq2436
              have ms2488 : mu w2477 < mu w := Nat.lt_of_le_of_lt (PK.fr hF2480 (by decide) (by decide) pk2432.2.2.2).2.1 ms2437
              refine xg_t (xg_iinc (u := 0) (z := 1) (l1 := [(0, (2, 82)), (1, (0, kr)), (2, (0, mo))]) rfl rfl (by decide) rfl) ?_
              refine xg_t (xg_goto) ?_
              refine xg_t (xg_blk (b := [(55, 1, 2, 3, 0, 0), (56, 1, 3, 4, 0, 0), (57, 3, 6, 88, 3, 0), (60, 1, 2, 1, 0, 0), (61, 1, 3, 4, 0, 0), (62, 3, 6, 88, 3, 0), (65, 1, 0, 0, 0, 0), (66, 1, 3, 1, 0, 0), (67, 1, 3, 4, 0, 0), (68, 1, 2, 1, 0, 0), (69, 1, 16, 0, 0, 0), (70, 1, 11, 0, 0, 0), (71, 1, 2, 3, 0, 0), (72, 1, 11, 0, 0, 0), (73, 1, 0, 0, 0, 0), (74, 3, 1, 12, 46, 102), (77, 1, 2, 3, 0, 0), (78, 1, 10, 0, 0, 0), (79, 3, 13, 214, 96, 424), (82, 3, 9, 3, 1, 0), (85, 3, 8, 55, 0, 0)]) rfl) ?_
              refine xg_t (xg_iload (va := (0, 1)) rfl rfl) ?_
              refine xg_t (xg_const) ?_
              refine xg_t (xg_icF (u := 1) (v := 4) rfl xnm0 xnm0 (by decide)) ?_
              refine xg_t (xg_iload (va := (0, kr)) rfl rfl) ?_
              refine xg_t (xg_const) ?_
              refine xg_t (xg_icF (u := kr) (v := 4) rfl xnm0 xnm0 (xj_geF (by omega) (by omega))) ?_
              refine xg_t (xg_aload (va := (2, 82)) rfl rfl) ?_
              refine xg_t (xg_const) ?_
              refine xg_t (xg_const) ?_
              refine xg_t (xg_iload (va := (0, kr)) rfl rfl) ?_
              refine xg_t (xg_imul (u := 4) (v := kr) (z := 4 * kr) xnm0 xnm0 (by omega)) ?_
              refine xg_t (xg_iadd (u := 1) (v := 4 * kr) (z := 1 + (4 * kr)) xnm0 xnm0 (by omega)) ?_
              refine xg_t (xg_iload (va := (0, 1)) rfl rfl) ?_
              refine xg_t (xg_iadd (u := 1 + (4 * kr)) (v := 1) (z := (1 + (4 * kr)) + 1) xnm0 xnm0 (by omega)) ?_
              refine xg_t (xg_aload (va := (2, 82)) rfl rfl) ?_
              refine xg_t (xg_getf (va := (2, 113)) (hF2480.get (by decide) h82_2468) rfl) ?_
              refine xg_t (xg_iload (va := (0, 1)) rfl rfl) ?_
              refine xg_ialdB (n := 1) (B := 4294967295) (h113_2471.fr hF2480 (by decide)) (hb2472) xnm0 (by omega) (fun u2489 hu2490 he2491 => ?_)
              have hl2492 : fld w2477 82 14 ≤ 2000 := by omega
              refine xg_cVv mX12_rulePuts (vs := [(0, (1 + (4 * kr)) + 1), (0, u2489)]) (rest := []) (cn1 := 0) (sl1 := 0) rfl (mRulePuts (hI2479) (by omega) (by omega) (by omega)) rfl (hF2480.get (by decide) h82_2468) rfl rfl rfl rfl rfl rfl (fun w2493 hq2494 => ?_)
              obtain ⟨hI2495, hF2496, hx2497⟩ := hq2494
              have hx2498 := hx2497
              have pk2499 : PK w w2493 := PK.tr pk2483 (PK.fr hF2496 (by decide) (by decide) pk2483.2.2.2)
              have ro2500 : ∀ l, l < fld w 82 14 → l < 16 → rwv w2493 112 (20 * l) = rwv w 112 (20 * l) := fun l hl h6 => ((hx2498 _ (by omega)).2 (by omega)).trans (ro2484 l hl h6)
              have hq2501 := pk2499
              unfold PK PS at hq2501
              clear hq2485
              have pj2502 : PK w1807 w2493 := PK.tr pj2486 (PK.fr hF2496 (by decide) (by decide) pk2483.2.2.2)
              have hq2503 := pj2502
              unfold PK PS at hq2503
              clear hq2487
              have ms2504 : mu w2493 < mu w := Nat.lt_of_le_of_lt (PK.fr hF2496 (by decide) (by decide) pk2483.2.2.2).2.1 ms2488
              refine xg_t (xg_iinc (u := 1) (z := 2) (l1 := [(0, (2, 82)), (1, (0, kr)), (2, (0, mo))]) rfl rfl (by decide) rfl) ?_
              refine xg_t (xg_goto) ?_
              refine xg_t (xg_blk (b := [(55, 1, 2, 3, 0, 0), (56, 1, 3, 4, 0, 0), (57, 3, 6, 88, 3, 0), (60, 1, 2, 1, 0, 0), (61, 1, 3, 4, 0, 0), (62, 3, 6, 88, 3, 0), (65, 1, 0, 0, 0, 0), (66, 1, 3, 1, 0, 0), (67, 1, 3, 4, 0, 0), (68, 1, 2, 1, 0, 0), (69, 1, 16, 0, 0, 0), (70, 1, 11, 0, 0, 0), (71, 1, 2, 3, 0, 0), (72, 1, 11, 0, 0, 0), (73, 1, 0, 0, 0, 0), (74, 3, 1, 12, 46, 102), (77, 1, 2, 3, 0, 0), (78, 1, 10, 0, 0, 0), (79, 3, 13, 214, 96, 424), (82, 3, 9, 3, 1, 0), (85, 3, 8, 55, 0, 0)]) rfl) ?_
              refine xg_t (xg_iload (va := (0, 2)) rfl rfl) ?_
              refine xg_t (xg_const) ?_
              refine xg_t (xg_icF (u := 2) (v := 4) rfl xnm0 xnm0 (by decide)) ?_
              refine xg_t (xg_iload (va := (0, kr)) rfl rfl) ?_
              refine xg_t (xg_const) ?_
              refine xg_t (xg_icF (u := kr) (v := 4) rfl xnm0 xnm0 (xj_geF (by omega) (by omega))) ?_
              refine xg_t (xg_aload (va := (2, 82)) rfl rfl) ?_
              refine xg_t (xg_const) ?_
              refine xg_t (xg_const) ?_
              refine xg_t (xg_iload (va := (0, kr)) rfl rfl) ?_
              refine xg_t (xg_imul (u := 4) (v := kr) (z := 4 * kr) xnm0 xnm0 (by omega)) ?_
              refine xg_t (xg_iadd (u := 1) (v := 4 * kr) (z := 1 + (4 * kr)) xnm0 xnm0 (by omega)) ?_
              refine xg_t (xg_iload (va := (0, 2)) rfl rfl) ?_
              refine xg_t (xg_iadd (u := 1 + (4 * kr)) (v := 2) (z := (1 + (4 * kr)) + 2) xnm0 xnm0 (by omega)) ?_
              refine xg_t (xg_aload (va := (2, 82)) rfl rfl) ?_
              refine xg_t (xg_getf (va := (2, 113)) (hF2496.get (by decide) (hF2480.get (by decide) h82_2468)) rfl) ?_
              refine xg_t (xg_iload (va := (0, 2)) rfl rfl) ?_
              refine xg_ialdB (n := 2) (B := 4294967295) ((h113_2471.fr hF2480 (by decide)).fr hF2496 (by decide)) (hb2472) xnm0 (by omega) (fun u2505 hu2506 he2507 => ?_)
              have hl2508 : fld w2493 82 14 ≤ 2000 := by omega
              refine xg_cVv mX12_rulePuts (vs := [(0, (1 + (4 * kr)) + 2), (0, u2505)]) (rest := []) (cn1 := 0) (sl1 := 0) rfl (mRulePuts (hI2495) (by omega) (by omega) (by omega)) rfl (hF2496.get (by decide) (hF2480.get (by decide) h82_2468)) rfl rfl rfl rfl rfl rfl (fun w2509 hq2510 => ?_)
              obtain ⟨hI2511, hF2512, hx2513⟩ := hq2510
              have hx2514 := hx2513
              have pk2515 : PK w w2509 := PK.tr pk2499 (PK.fr hF2512 (by decide) (by decide) pk2499.2.2.2)
              have ro2516 : ∀ l, l < fld w 82 14 → l < 16 → rwv w2509 112 (20 * l) = rwv w 112 (20 * l) := fun l hl h6 => ((hx2514 _ (by omega)).2 (by omega)).trans (ro2500 l hl h6)
              have hq2517 := pk2515
              unfold PK PS at hq2517
              clear hq2501
              have pj2518 : PK w1807 w2509 := PK.tr pj2502 (PK.fr hF2512 (by decide) (by decide) pk2499.2.2.2)
              have hq2519 := pj2518
              unfold PK PS at hq2519
              clear hq2503
              have ms2520 : mu w2509 < mu w := Nat.lt_of_le_of_lt (PK.fr hF2512 (by decide) (by decide) pk2499.2.2.2).2.1 ms2504
              refine xg_t (xg_iinc (u := 2) (z := 3) (l1 := [(0, (2, 82)), (1, (0, kr)), (2, (0, mo))]) rfl rfl (by decide) rfl) ?_
              refine xg_t (xg_goto) ?_
              refine xg_t (xg_blk (b := [(55, 1, 2, 3, 0, 0), (56, 1, 3, 4, 0, 0), (57, 3, 6, 88, 3, 0), (60, 1, 2, 1, 0, 0), (61, 1, 3, 4, 0, 0), (62, 3, 6, 88, 3, 0), (65, 1, 0, 0, 0, 0), (66, 1, 3, 1, 0, 0), (67, 1, 3, 4, 0, 0), (68, 1, 2, 1, 0, 0), (69, 1, 16, 0, 0, 0), (70, 1, 11, 0, 0, 0), (71, 1, 2, 3, 0, 0), (72, 1, 11, 0, 0, 0), (73, 1, 0, 0, 0, 0), (74, 3, 1, 12, 46, 102), (77, 1, 2, 3, 0, 0), (78, 1, 10, 0, 0, 0), (79, 3, 13, 214, 96, 424), (82, 3, 9, 3, 1, 0), (85, 3, 8, 55, 0, 0)]) rfl) ?_
              refine xg_t (xg_iload (va := (0, 3)) rfl rfl) ?_
              refine xg_t (xg_const) ?_
              refine xg_t (xg_icF (u := 3) (v := 4) rfl xnm0 xnm0 (by decide)) ?_
              refine xg_t (xg_iload (va := (0, kr)) rfl rfl) ?_
              refine xg_t (xg_const) ?_
              refine xg_t (xg_icF (u := kr) (v := 4) rfl xnm0 xnm0 (xj_geF (by omega) (by omega))) ?_
              refine xg_t (xg_aload (va := (2, 82)) rfl rfl) ?_
              refine xg_t (xg_const) ?_
              refine xg_t (xg_const) ?_
              refine xg_t (xg_iload (va := (0, kr)) rfl rfl) ?_
              refine xg_t (xg_imul (u := 4) (v := kr) (z := 4 * kr) xnm0 xnm0 (by omega)) ?_
              refine xg_t (xg_iadd (u := 1) (v := 4 * kr) (z := 1 + (4 * kr)) xnm0 xnm0 (by omega)) ?_
              refine xg_t (xg_iload (va := (0, 3)) rfl rfl) ?_
              refine xg_t (xg_iadd (u := 1 + (4 * kr)) (v := 3) (z := (1 + (4 * kr)) + 3) xnm0 xnm0 (by omega)) ?_
              refine xg_t (xg_aload (va := (2, 82)) rfl rfl) ?_
              refine xg_t (xg_getf (va := (2, 113)) (hF2512.get (by decide) (hF2496.get (by decide) (hF2480.get (by decide) h82_2468))) rfl) ?_
              refine xg_t (xg_iload (va := (0, 3)) rfl rfl) ?_
              refine xg_ialdB (n := 3) (B := 4294967295) (((h113_2471.fr hF2480 (by decide)).fr hF2496 (by decide)).fr hF2512 (by decide)) (hb2472) xnm0 (by omega) (fun u2521 hu2522 he2523 => ?_)
              have hl2524 : fld w2509 82 14 ≤ 2000 := by omega
              refine xg_cVv mX12_rulePuts (vs := [(0, (1 + (4 * kr)) + 3), (0, u2521)]) (rest := []) (cn1 := 0) (sl1 := 0) rfl (mRulePuts (hI2511) (by omega) (by omega) (by omega)) rfl (hF2512.get (by decide) (hF2496.get (by decide) (hF2480.get (by decide) h82_2468))) rfl rfl rfl rfl rfl rfl (fun w2525 hq2526 => ?_)
              obtain ⟨hI2527, hF2528, hx2529⟩ := hq2526
              have hx2530 := hx2529
              have pk2531 : PK w w2525 := PK.tr pk2515 (PK.fr hF2528 (by decide) (by decide) pk2515.2.2.2)
              have ro2532 : ∀ l, l < fld w 82 14 → l < 16 → rwv w2525 112 (20 * l) = rwv w 112 (20 * l) := fun l hl h6 => ((hx2530 _ (by omega)).2 (by omega)).trans (ro2516 l hl h6)
              have hq2533 := pk2531
              unfold PK PS at hq2533
              clear hq2517
              have pj2534 : PK w1807 w2525 := PK.tr pj2518 (PK.fr hF2528 (by decide) (by decide) pk2515.2.2.2)
              have hq2535 := pj2534
              unfold PK PS at hq2535
              clear hq2519
              have ms2536 : mu w2525 < mu w := Nat.lt_of_le_of_lt (PK.fr hF2528 (by decide) (by decide) pk2515.2.2.2).2.1 ms2520
              refine xg_t (xg_iinc (u := 3) (z := 4) (l1 := [(0, (2, 82)), (1, (0, kr)), (2, (0, mo))]) rfl rfl (by decide) rfl) ?_
              refine xg_t (xg_goto) ?_
              refine xg_t (xg_blk (b := [(55, 1, 2, 3, 0, 0), (56, 1, 3, 4, 0, 0), (57, 3, 6, 88, 3, 0), (60, 1, 2, 1, 0, 0), (61, 1, 3, 4, 0, 0), (62, 3, 6, 88, 3, 0), (65, 1, 0, 0, 0, 0), (66, 1, 3, 1, 0, 0), (67, 1, 3, 4, 0, 0), (68, 1, 2, 1, 0, 0), (69, 1, 16, 0, 0, 0), (70, 1, 11, 0, 0, 0), (71, 1, 2, 3, 0, 0), (72, 1, 11, 0, 0, 0), (73, 1, 0, 0, 0, 0), (74, 3, 1, 12, 46, 102), (77, 1, 2, 3, 0, 0), (78, 1, 10, 0, 0, 0), (79, 3, 13, 214, 96, 424), (82, 3, 9, 3, 1, 0), (85, 3, 8, 55, 0, 0)]) rfl) ?_
              refine xg_t (xg_iload (va := (0, 4)) rfl rfl) ?_
              refine xg_t (xg_const) ?_
              refine xg_t (xg_icT (u := 4) (v := 4) rfl xnm0 xnm0 (by decide)) ?_
              refine xg_t (xg_blk (b := [(88, 3, 9, 1, 1, 0), (91, 1, 0, 0, 0, 0), (92, 2, 4, 51, 0, 0), (94, 3, 13, 227, 96, 415), (97, 1, 15, 2, 0, 0), (98, 3, 8, 31, 0, 0)]) rfl) ?_
              refine xg_t (xg_iinc (u := kr) (z := kr + 1) (l1 := [(3, (0, 4)), (0, (2, 82)), (2, (0, mo))]) rfl rfl (by omega) rfl) ?_
              refine xg_t (xg_aload (va := (2, 82)) rfl rfl) ?_
              refine xg_t (xg_bip) ?_
              refine xg_cVi mX12_takes (vs := [(0, 51)]) (rest := []) (cn1 := 0) (sl1 := 0) rfl (mTakes (hI2527) (by omega) pk2531.2.2.2) rfl (hF2528.get (by decide) (hF2512.get (by decide) (hF2496.get (by decide) (hF2480.get (by decide) h82_2468)))) rfl rfl rfl rfl rfl rfl (fun n2541 w2537 hq2538 => ?_)
              obtain ⟨hn2542, hI2539, hF2540⟩ := hq2538
              obtain ⟨hn2543, hn2544, hn2545⟩ := hn2542
              have pk2546 : PK w w2537 := PK.tr pk2531 hn2544
              have ro2547 : ∀ l, l < fld w 82 14 → l < 16 → rwv w2537 112 (20 * l) = rwv w 112 (20 * l) := fun l hl h6 => (rwv_fr hF2540 (by decide)).trans (ro2532 l hl h6)
              have hq2548 := pk2546
              unfold PK PS at hq2548
              clear hq2533
              have pj2549 : PK w1807 w2537 := PK.tr pj2534 hn2544
              have hq2550 := pj2549
              unfold PK PS at hq2550
              clear hq2535
              have ms2551 : mu w2537 < mu w := Nat.lt_of_le_of_lt hn2544.2.1 ms2536
              have hu2552 : n2541 = 1 → mu w2537 < mu w1807 := fun h => Nat.lt_of_lt_of_le (hn2545 h) pj2534.2.1
              refine xg_t (xg_istore (l1 := [(1, (0, kr + 1)), (3, (0, 4)), (0, (2, 82))]) rfl rfl rfl) ?_
              refine xg_t (xg_goto) ?_
              refine xg_t (xg_drop (l1 := [(0, (2, 82)), (1, (0, kr + 1)), (2, (0, n2541))]) (List.forall_mem_cons.mpr ⟨List.mem_cons_of_mem _ (List.mem_cons_of_mem _ (List.mem_cons_of_mem _ (List.mem_cons_self))), List.forall_mem_cons.mpr ⟨List.mem_cons_of_mem _ (List.mem_cons_self), List.forall_mem_cons.mpr ⟨List.mem_cons_self, fun _ h => absurd h List.not_mem_nil⟩⟩⟩)) ?_
              exact ih1805 (kr + 1) n2541 w2537 (by omega) (by omega) (by omega) (hI2539) (((((((hF1809.tr (hF2430.up (by decide))).tr (hF2480.up (by decide))).tr (hF2496.up (by decide))).tr (hF2512.up (by decide))).tr (hF2528.up (by decide))).tr (hF2540.up (by decide)))) (⟨pk2546, ro2547, ms2551, by omega, by omega, fun _ => by omega, fun h => by omega⟩)
      exact key1804 _ 0 1 w1303 (Nat.lt_succ_self _) (by omega) (by omega) (hI1305) (((hF1296.up (by decide)).tr (hF1306.up (by decide)))) (⟨pk1312, ro1313, ms1803, by omega, by omega, fun _ => by omega, fun h => by omega⟩)
end XME
