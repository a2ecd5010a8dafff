/-! the model: rules -/
def RD (w : List (List xE)) : Prop := fld w 82 14 ≤ 16 ∧ ∀ l, l < fld w 82 14 → rwv w 112 (20 * l) ≤ 4
theorem rules_ok {f g h r : Nat → Nat} {L : Nat} (hf : okA f) (h1 : ∀ i, 0 ≤ i → i < 320 → g (1020 + i) = r i) (h2 : ∀ j, j < 1020 + 0 ∨ 1020 + 320 ≤ j → g j = f j) (hl : L ≤ 16) (hR : ∀ l, l < L → r (20 * l) ≤ 4) (h3 : h 902 = L) (h4 : ∀ j, j ≠ 902 → h j = g j) : okA h := by
  have e : ∀ j, j < 1020 → j ≠ 902 → h j = f j := fun j hj hn => by rw [h4 j hn, h2 j (by omega)]
  have e0 := e 0 (by decide) (by decide)
  have e1 := e 1 (by decide) (by decide)
  have e2 := e 2 (by decide) (by decide)
  have e3 := e 3 (by decide) (by decide)
  have e4 := e 4 (by decide) (by decide)
  have e5 := e 5 (by decide) (by decide)
  have e6 := e 6 (by decide) (by decide)
  have e7 := e 7 (by decide) (by decide)
  have e8 := e 8 (by decide) (by decide)
  have e9 := e 9 (by decide) (by decide)
  have e10 := e 10 (by decide) (by decide)
  have e13 := e 13 (by decide) (by decide)
  have e15 := e 15 (by decide) (by decide)
  have e900 := e 900 (by decide) (by decide)
  have e901 := e 901 (by decide) (by decide)
  obtain ⟨b0, b1, b2, b3, b4, b5, b6, b7, b8, b9, b10, b11, b12, b13, b14, b15, b16⟩ := hf.lits
  refine hf.mk0 (fun j hj => by rw [h4 j (by omega), h2 j (by omega)]) (okB.of0 ⟨by omega, by omega, by omega, by omega, by omega, by omega, by omega, by omega, by omega, by omega, by omega, by omega, by omega, by omega, by omega, by omega, by omega⟩ ?_ ?_ ?_ ?_)
  · intro k i hk hi
    rw [e _ (by omega) (by omega)]
    exact hf.lay (by omega) hi
  · intro k hk
    rw [e _ (by omega) (by omega)]
    exact hf.lif (by omega)
  · intro p i hk hi
    rw [e _ (by omega) (by omega)]
    exact hf.pic (by omega) hi
  · intro l hk
    rw [h4 _ (by omega), h1 (20 * l) (by omega) (by omega)]
    exact hR l (by omega)
theorem RD.fr {S : List Nat} {w w' : List (List xE)} (h : RD w) (hf : xFr S w w') (h1 : 112 ∉ S) (h2 : fld w' 82 14 = fld w 82 14) : RD w' := by
  refine ⟨by rw [h2]; exact h.1, fun l hl => ?_⟩
  rw [rwv_fr hf h1]
  exact h.2 l (by rw [← h2]; exact hl)
section XME
variable {d : Nat} {w : List (List xE)} {bd : List (Nat × Nat)} {fc : List (Nat × Nat × Bool)} {rr : Nat × Nat}
theorem mTakes {wq : Nat} (hI : xMnv w) (hwq : wq ≤ 4294967295) (hps : PS w) : xPi (d + 5) mX12_takes [(2, 82), (0, wq)] w bd fc rr (fun n w' => (n ≤ 1 ∧ PK w w' ∧ (n = 1 → mu w' < mu w)) ∧ xMnv w' ∧ xFr [82] w w') := by
  refine xPi.of ?_
  show xTo (d + 5) mX12_takes (0, [], [(0, (2, 82)), (1, (0, wq))], [], (w, bd, fc, 0, 0, rr)) (fun φ => ∃ n w', xEnd 4 [(0, n)] (w', bd, fc, 0, 0, rr) φ ∧ (n ≤ 1 ∧ PK w w' ∧ (n = 1 → mu w' < mu w)) ∧ xMnv w' ∧ xFr [82] w w')
  obtain ⟨f82_1, f82_3, f82_5, f82_7, f82_9, f82_11, f82_13, f82_15, f82_17, f82_19, f82_21, f82_22, f82_23, f82_25, f82_27, f82_29, h82_31, hb2, hb4, hb6, hb8, hb10, hb12, hb14, hb16, hb18, hb20, hb24, hb26, hb28, hb30, hb32⟩ := (hI 82 (by decide) (by decide) : cp82 (wget w 82))
  have hf33 : fld w 82 4 = f82_5 := fld_of h82_31
  have hf34 : fld w 82 5 = f82_7 := fld_of h82_31
  have hf35 : fld w 82 7 = f82_11 := fld_of h82_31
  have hf36 : fld w 82 10 = f82_17 := fld_of h82_31
  have hf37 : fld w 82 14 = f82_19 := fld_of h82_31
  have hps_ : fld w 82 10 = 0 ∨ FA w ≠ 0 := hps
  refine xg_t (xg_blk (b := [(0, 1, 0, 0, 0, 0), (1, 3, 1, 12, 10, 180), (4, 3, 7, 23, 1, 0), (7, 1, 0, 0, 0, 0), (8, 3, 1, 12, 7, 151), (11, 1, 3, 3, 0, 0), (12, 3, 6, 23, 1, 0), (15, 1, 0, 0, 0, 0), (16, 3, 1, 12, 9, 165), (19, 1, 2, 1, 0, 0), (20, 3, 6, 25, 0, 0)]) rfl) ?_
  refine xg_t (xg_aload (va := (2, 82)) rfl rfl) ?_
  refine xg_t (xg_getf (va := (0, f82_17)) h82_31 rfl) ?_
  by_cases hc38 : f82_17 = 0
  · refine xg_t (xg_ifF (u := f82_17) rfl xnm0 (xj_neF hc38)) ?_
    refine xg_t (xg_aload (va := (2, 82)) rfl rfl) ?_
    refine xg_t (xg_getf (va := (0, f82_11)) h82_31 rfl) ?_
    refine xg_t (xg_const) ?_
    by_cases hc39 : f82_11 = 3
    · refine xg_t (xg_icF (u := f82_11) (v := 3) rfl xnm0 xnm0 (xj_neF hc39)) ?_
      refine xg_t (xg_aload (va := (2, 82)) rfl rfl) ?_
      refine xg_t (xg_getf (va := (0, f82_15)) h82_31 rfl) ?_
      refine xg_t (xg_iload (va := (0, wq)) rfl rfl) ?_
      by_cases hc40 : f82_15 = wq
      · refine xg_t (xg_icT (u := f82_15) (v := wq) rfl xnm0 xnm0 (xj_eqT hc40)) ?_
        refine xg_t (xg_blk (b := [(25, 1, 0, 0, 0, 0), (26, 3, 13, 110, 96, 190), (29, 1, 3, 1, 0, 0), (30, 1, 12, 0, 1, 0)]) rfl) ?_
        refine xg_t (xg_aload (va := (2, 82)) rfl rfl) ?_
        refine xg_cVv mX12_advance (vs := []) (rest := []) (cn1 := 0) (sl1 := 0) rfl (mAdvance (hI)) rfl h82_31 rfl rfl rfl rfl rfl rfl (fun w41 hq42 => ?_)
        obtain ⟨hI43, hF44, hx45⟩ := hq42
        obtain ⟨hv46, hv47, hv48, hv49⟩ := hx45
        have hf50 := FA_fr hF44 (by decide)
        refine xg_t (xg_const) ?_
        exact xg_e ⟨1, w41, ⟨rfl, rfl⟩, ⟨by omega, ⟨fun _ => by omega, by omega, by omega, (show fld w41 82 10 = 0 ∨ FA w41 ≠ 0 by omega)⟩, fun _ => by omega⟩, hI43, (hF44.up (by decide))⟩
      · refine xg_t (xg_icF (u := f82_15) (v := wq) rfl xnm0 xnm0 (xj_eqF hc40)) ?_
        refine xg_t (xg_blk (b := [(23, 1, 3, 0, 0, 0), (24, 1, 12, 0, 1, 0)]) rfl) ?_
        refine xg_t (xg_const) ?_
        exact xg_e ⟨0, w, ⟨rfl, rfl⟩, ⟨by omega, PK.rf hps, fun _ => by omega⟩, hI, xFr.rf⟩
    · refine xg_t (xg_icT (u := f82_11) (v := 3) rfl xnm0 xnm0 (xj_neT hc39)) ?_
      refine xg_t (xg_blk (b := [(23, 1, 3, 0, 0, 0), (24, 1, 12, 0, 1, 0)]) rfl) ?_
      refine xg_t (xg_const) ?_
      exact xg_e ⟨0, w, ⟨rfl, rfl⟩, ⟨by omega, PK.rf hps, fun _ => by omega⟩, hI, xFr.rf⟩
  · refine xg_t (xg_ifT (u := f82_17) rfl xnm0 (xj_neT hc38)) ?_
    refine xg_t (xg_blk (b := [(23, 1, 3, 0, 0, 0), (24, 1, 12, 0, 1, 0)]) rfl) ?_
    refine xg_t (xg_const) ?_
    exact xg_e ⟨0, w, ⟨rfl, rfl⟩, ⟨by omega, PK.rf hps, fun _ => by omega⟩, hI, xFr.rf⟩
theorem mMust {cq : Nat} (hI : xMnv w) (hcq : cq ≤ 4294967295) (hps : PS w) : xPq (d + 5) mX12_must [(2, 82), (0, cq)] w bd fc rr [] (fun w' => xMnv w' ∧ xFr [82, 83] w w' ∧ (PK w w')) := by
  refine xPq.of ?_
  show xTo (d + 5) mX12_must (0, [], [(0, (2, 82)), (1, (0, cq))], [], (w, bd, fc, 0, 0, rr)) (fun φ => ∃ w', xEnd 0 [] (w', bd, fc, 0, 0, rr) φ ∧ xMnv w' ∧ xFr [82, 83] w w' ∧ (PK w w'))
  obtain ⟨f82_1, f82_3, f82_5, f82_7, f82_9, f82_11, f82_13, f82_15, f82_17, f82_19, f82_21, f82_22, f82_23, f82_25, f82_27, f82_29, h82_31, hb2, hb4, hb6, hb8, hb10, hb12, hb14, hb16, hb18, hb20, hb24, hb26, hb28, hb30, hb32⟩ := (hI 82 (by decide) (by decide) : cp82 (wget w 82))
  have hf33 : fld w 82 4 = f82_5 := fld_of h82_31
  have hf34 : fld w 82 5 = f82_7 := fld_of h82_31
  have hf35 : fld w 82 7 = f82_11 := fld_of h82_31
  have hf36 : fld w 82 10 = f82_17 := fld_of h82_31
  have hf37 : fld w 82 14 = f82_19 := fld_of h82_31
  have hps_ : fld w 82 10 = 0 ∨ FA w ≠ 0 := hps
  refine xg_t (xg_blk (b := [(0, 1, 0, 0, 0, 0), (1, 3, 1, 12, 10, 180), (4, 3, 7, 30, 1, 0), (7, 1, 0, 0, 0, 0), (8, 3, 1, 12, 7, 151), (11, 1, 3, 2, 0, 0), (12, 3, 6, 30, 1, 0), (15, 1, 0, 0, 0, 0), (16, 3, 1, 12, 3, 174), (19, 1, 2, 1, 0, 0), (20, 3, 6, 30, 1, 0), (23, 1, 0, 0, 0, 0), (24, 3, 13, 110, 96, 190), (27, 3, 8, 34, 0, 0)]) rfl) ?_
  refine xg_t (xg_aload (va := (2, 82)) rfl rfl) ?_
  refine xg_t (xg_getf (va := (0, f82_17)) h82_31 rfl) ?_
  by_cases hc38 : f82_17 = 0
  · refine xg_t (xg_ifF (u := f82_17) rfl xnm0 (xj_neF hc38)) ?_
    refine xg_t (xg_aload (va := (2, 82)) rfl rfl) ?_
    refine xg_t (xg_getf (va := (0, f82_11)) h82_31 rfl) ?_
    refine xg_t (xg_const) ?_
    by_cases hc39 : f82_11 = 2
    · refine xg_t (xg_icF (u := f82_11) (v := 2) rfl xnm0 xnm0 (xj_neF hc39)) ?_
      refine xg_t (xg_aload (va := (2, 82)) rfl rfl) ?_
      refine xg_t (xg_getf (va := (0, f82_3)) h82_31 rfl) ?_
      refine xg_t (xg_iload (va := (0, cq)) rfl rfl) ?_
      by_cases hc40 : f82_3 = cq
      · refine xg_t (xg_icF (u := f82_3) (v := cq) rfl xnm0 xnm0 (xj_neF hc40)) ?_
        refine xg_t (xg_aload (va := (2, 82)) rfl rfl) ?_
        refine xg_cVv mX12_advance (vs := []) (rest := []) (cn1 := 0) (sl1 := 0) rfl (mAdvance (hI)) rfl h82_31 rfl rfl rfl rfl rfl rfl (fun w41 hq42 => ?_)
        obtain ⟨hI43, hF44, hx45⟩ := hq42
        obtain ⟨hv46, hv47, hv48, hv49⟩ := hx45
        have hf50 := FA_fr hF44 (by decide)
        refine xg_t (xg_goto) ?_
        refine xg_t (xg_blk (b := [(34, 1, 12, 0, 0, 0)]) rfl) ?_
        exact xg_e ⟨w41, ⟨rfl, rfl⟩, hI43, (hF44.up (by decide)), ⟨fun _ => by omega, by omega, by omega, (show fld w41 82 10 = 0 ∨ FA w41 ≠ 0 by omega)⟩⟩
      · refine xg_t (xg_icT (u := f82_3) (v := cq) rfl xnm0 xnm0 (xj_neT hc40)) ?_
        refine xg_t (xg_blk (b := [(30, 1, 0, 0, 0, 0), (31, 3, 13, 140, 96, 183)]) rfl) ?_
        refine xg_t (xg_aload (va := (2, 82)) rfl rfl) ?_
        refine xg_cVv mX12_ends (vs := []) (rest := []) (cn1 := 0) (sl1 := 0) rfl (mEnds (hI) (show fld w 82 10 = 0 ∨ FA w ≠ 0 by omega)) rfl h82_31 rfl rfl rfl rfl rfl rfl (fun w51 hq52 => ?_)
        obtain ⟨hI53, hF54, hx55⟩ := hq52
        obtain ⟨hv56, hv57, hv58, hv59⟩ := hx55
        refine xg_t (xg_blk (b := [(34, 1, 12, 0, 0, 0)]) rfl) ?_
        exact xg_e ⟨w51, ⟨rfl, rfl⟩, hI53, (hF54.up (by decide)), ⟨fun _ => by omega, by omega, by omega, (show fld w51 82 10 = 0 ∨ FA w51 ≠ 0 by omega)⟩⟩
    · refine xg_t (xg_icT (u := f82_11) (v := 2) rfl xnm0 xnm0 (xj_neT hc39)) ?_
      refine xg_t (xg_blk (b := [(30, 1, 0, 0, 0, 0), (31, 3, 13, 140, 96, 183)]) rfl) ?_
      refine xg_t (xg_aload (va := (2, 82)) rfl rfl) ?_
      refine xg_cVv mX12_ends (vs := []) (rest := []) (cn1 := 0) (sl1 := 0) rfl (mEnds (hI) (show fld w 82 10 = 0 ∨ FA w ≠ 0 by omega)) rfl h82_31 rfl rfl rfl rfl rfl rfl (fun w60 hq61 => ?_)
      obtain ⟨hI62, hF63, hx64⟩ := hq61
      obtain ⟨hv65, hv66, hv67, hv68⟩ := hx64
      refine xg_t (xg_blk (b := [(34, 1, 12, 0, 0, 0)]) rfl) ?_
      exact xg_e ⟨w60, ⟨rfl, rfl⟩, hI62, (hF63.up (by decide)), ⟨fun _ => by omega, by omega, by omega, (show fld w60 82 10 = 0 ∨ FA w60 ≠ 0 by omega)⟩⟩
  · refine xg_t (xg_ifT (u := f82_17) rfl xnm0 (xj_neT hc38)) ?_
    refine xg_t (xg_blk (b := [(30, 1, 0, 0, 0, 0), (31, 3, 13, 140, 96, 183)]) rfl) ?_
    refine xg_t (xg_aload (va := (2, 82)) rfl rfl) ?_
    refine xg_cVv mX12_ends (vs := []) (rest := []) (cn1 := 0) (sl1 := 0) rfl (mEnds (hI) (show fld w 82 10 = 0 ∨ FA w ≠ 0 by omega)) rfl h82_31 rfl rfl rfl rfl rfl rfl (fun w69 hq70 => ?_)
    obtain ⟨hI71, hF72, hx73⟩ := hq70
    obtain ⟨hv74, hv75, hv76, hv77⟩ := hx73
    refine xg_t (xg_blk (b := [(34, 1, 12, 0, 0, 0)]) rfl) ?_
    exact xg_e ⟨w69, ⟨rfl, rfl⟩, hI71, (hF72.up (by decide)), ⟨fun _ => by omega, by omega, by omega, (show fld w69 82 10 = 0 ∨ FA w69 ≠ 0 by omega)⟩⟩
theorem mNumberNow (hI : xMnv w) (hps : PS w) : xPi (d + 5) mX12_numberNow [(2, 82)] w bd fc rr (fun n w' => (n ≤ 4294967295 ∧ PK w w') ∧ xMnv w' ∧ xFr [82, 83] w w') := by
  refine xPi.of ?_
  show xTo (d + 5) mX12_numberNow (0, [], [(0, (2, 82))], [], (w, bd, fc, 0, 0, rr)) (fun φ => ∃ n w', xEnd 1 [(0, n)] (w', bd, fc, 0, 0, rr) φ ∧ (n ≤ 4294967295 ∧ PK w w') ∧ xMnv w' ∧ xFr [82, 83] w w')
  obtain ⟨f82_1, f82_3, f82_5, f82_7, f82_9, f82_11, f82_13, f82_15, f82_17, f82_19, f82_21, f82_22, f82_23, f82_25, f82_27, f82_29, h82_31, hb2, hb4, hb6, hb8, hb10, hb12, hb14, hb16, hb18, hb20, hb24, hb26, hb28, hb30, hb32⟩ := (hI 82 (by decide) (by decide) : cp82 (wget w 82))
  have hf33 : fld w 82 4 = f82_5 := fld_of h82_31
  have hf34 : fld w 82 5 = f82_7 := fld_of h82_31
  have hf35 : fld w 82 7 = f82_11 := fld_of h82_31
  have hf36 : fld w 82 10 = f82_17 := fld_of h82_31
  have hf37 : fld w 82 14 = f82_19 := fld_of h82_31
  have hps_ : fld w 82 10 = 0 ∨ FA w ≠ 0 := hps
  refine xg_t (xg_blk (b := [(0, 1, 0, 0, 0, 0), (1, 3, 1, 12, 8, 171), (4, 1, 15, 1, 0, 0), (5, 1, 0, 0, 0, 0), (6, 3, 1, 12, 10, 180), (9, 3, 7, 27, 1, 0), (12, 1, 0, 0, 0, 0), (13, 3, 1, 12, 7, 151), (16, 1, 3, 1, 0, 0), (17, 3, 6, 27, 1, 0), (20, 1, 0, 0, 0, 0), (21, 3, 13, 110, 96, 190), (24, 3, 8, 31, 0, 0)]) rfl) ?_
  refine xg_t (xg_aload (va := (2, 82)) rfl rfl) ?_
  refine xg_t (xg_getf (va := (0, f82_13)) h82_31 rfl) ?_
  refine xg_t (xg_istore (l1 := [(0, (2, 82))]) rfl rfl rfl) ?_
  refine xg_t (xg_aload (va := (2, 82)) rfl rfl) ?_
  refine xg_t (xg_getf (va := (0, f82_17)) h82_31 rfl) ?_
  by_cases hc38 : f82_17 = 0
  · refine xg_t (xg_ifF (u := f82_17) rfl xnm0 (xj_neF hc38)) ?_
    refine xg_t (xg_aload (va := (2, 82)) rfl rfl) ?_
    refine xg_t (xg_getf (va := (0, f82_11)) h82_31 rfl) ?_
    refine xg_t (xg_const) ?_
    by_cases hc39 : f82_11 = 1
    · refine xg_t (xg_icF (u := f82_11) (v := 1) rfl xnm0 xnm0 (xj_neF hc39)) ?_
      refine xg_t (xg_aload (va := (2, 82)) rfl rfl) ?_
      refine xg_cVv mX12_advance (vs := []) (rest := []) (cn1 := 0) (sl1 := 0) rfl (mAdvance (hI)) rfl h82_31 rfl rfl rfl rfl rfl rfl (fun w40 hq41 => ?_)
      obtain ⟨hI42, hF43, hx44⟩ := hq41
      obtain ⟨hv45, hv46, hv47, hv48⟩ := hx44
      have hf49 := FA_fr hF43 (by decide)
      refine xg_t (xg_goto) ?_
      refine xg_t (xg_blk (b := [(31, 1, 2, 1, 0, 0), (32, 1, 12, 0, 1, 0)]) rfl) ?_
      refine xg_t (xg_iload (va := (0, f82_13)) rfl rfl) ?_
      exact xg_e ⟨f82_13, w40, ⟨rfl, rfl⟩, ⟨by omega, ⟨fun _ => by omega, by omega, by omega, (show fld w40 82 10 = 0 ∨ FA w40 ≠ 0 by omega)⟩⟩, hI42, (hF43.up (by decide))⟩
    · refine xg_t (xg_icT (u := f82_11) (v := 1) rfl xnm0 xnm0 (xj_neT hc39)) ?_
      refine xg_t (xg_blk (b := [(27, 1, 0, 0, 0, 0), (28, 3, 13, 140, 96, 183)]) rfl) ?_
      refine xg_t (xg_aload (va := (2, 82)) rfl rfl) ?_
      refine xg_cVv mX12_ends (vs := []) (rest := []) (cn1 := 0) (sl1 := 0) rfl (mEnds (hI) (show fld w 82 10 = 0 ∨ FA w ≠ 0 by omega)) rfl h82_31 rfl rfl rfl rfl rfl rfl (fun w50 hq51 => ?_)
      obtain ⟨hI52, hF53, hx54⟩ := hq51
      obtain ⟨hv55, hv56, hv57, hv58⟩ := hx54
      refine xg_t (xg_blk (b := [(31, 1, 2, 1, 0, 0), (32, 1, 12, 0, 1, 0)]) rfl) ?_
      refine xg_t (xg_iload (va := (0, f82_13)) rfl rfl) ?_
      exact xg_e ⟨f82_13, w50, ⟨rfl, rfl⟩, ⟨by omega, ⟨fun _ => by omega, by omega, by omega, (show fld w50 82 10 = 0 ∨ FA w50 ≠ 0 by omega)⟩⟩, hI52, (hF53.up (by decide))⟩
  · refine xg_t (xg_ifT (u := f82_17) rfl xnm0 (xj_neT hc38)) ?_
    refine xg_t (xg_blk (b := [(27, 1, 0, 0, 0, 0), (28, 3, 13, 140, 96, 183)]) rfl) ?_
    refine xg_t (xg_aload (va := (2, 82)) rfl rfl) ?_
    refine xg_cVv mX12_ends (vs := []) (rest := []) (cn1 := 0) (sl1 := 0) rfl (mEnds (hI) (show fld w 82 10 = 0 ∨ FA w ≠ 0 by omega)) rfl h82_31 rfl rfl rfl rfl rfl rfl (fun w59 hq60 => ?_)
    obtain ⟨hI61, hF62, hx63⟩ := hq60
    obtain ⟨hv64, hv65, hv66, hv67⟩ := hx63
    refine xg_t (xg_blk (b := [(31, 1, 2, 1, 0, 0), (32, 1, 12, 0, 1, 0)]) rfl) ?_
    refine xg_t (xg_iload (va := (0, f82_13)) rfl rfl) ?_
    exact xg_e ⟨f82_13, w59, ⟨rfl, rfl⟩, ⟨by omega, ⟨fun _ => by omega, by omega, by omega, (show fld w59 82 10 = 0 ∨ FA w59 ≠ 0 by omega)⟩⟩, hI61, (hF62.up (by decide))⟩
theorem mATest (hI : xMnv w) (hps : PS w) : xPq (d + 6) mX12_aTest [(2, 82)] w bd fc rr [] (fun w' => xMnv w' ∧ xFr [82, 83, 113] w w' ∧ (PK w w')) := by
  refine xPq.of ?_
  show xTo (d + 6) mX12_aTest (0, [], [(0, (2, 82))], [], (w, bd, fc, 0, 0, rr)) (fun φ => ∃ w', xEnd 0 [] (w', bd, fc, 0, 0, rr) φ ∧ xMnv w' ∧ xFr [82, 83, 113] w w' ∧ (PK w w'))
  obtain ⟨f82_1, f82_3, f82_5, f82_7, f82_9, f82_11, f82_13, f82_15, f82_17, f82_19, f82_21, f82_22, f82_23, f82_25, f82_27, f82_29, h82_31, hb2, hb4, hb6, hb8, hb10, hb12, hb14, hb16, hb18, hb20, hb24, hb26, hb28, hb30, hb32⟩ := (hI 82 (by decide) (by decide) : cp82 (wget w 82))
  have hf33 : fld w 82 4 = f82_5 := fld_of h82_31
  have hf34 : fld w 82 5 = f82_7 := fld_of h82_31
  have hf35 : fld w 82 7 = f82_11 := fld_of h82_31
  have hf36 : fld w 82 10 = f82_17 := fld_of h82_31
  have hf37 : fld w 82 14 = f82_19 := fld_of h82_31
  have hps_ : fld w 82 10 = 0 ∨ FA w ≠ 0 := hps
  obtain ⟨g113_38, h113_39, hb40⟩ := (hI 113 (by decide) (by decide) : cpI 4 80 4294967295 (wget w 113))
  have h113_39 : xRow w 113 4 80 g113_38 := h113_39
  refine xg_t (xg_blk (b := [(0, 1, 0, 0, 0, 0), (1, 3, 1, 12, 46, 102), (4, 1, 3, 0, 0, 0), (5, 1, 0, 0, 0, 0), (6, 2, 4, 52, 0, 0), (8, 3, 13, 227, 96, 415), (11, 3, 7, 18, 0, 0), (14, 1, 3, 1, 0, 0), (15, 3, 8, 19, 0, 0)]) rfl) ?_
  refine xg_t (xg_aload (va := (2, 82)) rfl rfl) ?_
  refine xg_t (xg_getf (va := (2, 113)) h82_31 rfl) ?_
  refine xg_t (xg_const) ?_
  refine xg_t (xg_aload (va := (2, 82)) rfl rfl) ?_
  refine xg_t (xg_bip) ?_
  refine xg_cVi mX12_takes (vs := [(0, 52)]) (rest := [(0, 0), (2, 113)]) (cn1 := 0) (sl1 := 0) rfl (mTakes (hI) (by omega) (show fld w 82 10 = 0 ∨ FA w ≠ 0 by omega)) rfl h82_31 rfl rfl rfl rfl rfl rfl (fun n45 w41 hq42 => ?_)
  obtain ⟨hn46, hI43, hF44⟩ := hq42
  obtain ⟨hn47, hn48, hn49⟩ := hn46
  have hq50 := hn48
  unfold PK PS at hq50
  by_cases hc51 : n45 = 0
  · refine xg_t (xg_ifT (u := n45) rfl xnm0 (xj_eqT hc51)) ?_
    refine xg_t (xg_blk (b := [(18, 1, 3, 0, 0, 0)]) rfl) ?_
    refine xg_t (xg_const) ?_
    refine xg_t (xg_blk (b := [(19, 1, 17, 0, 0, 0), (20, 1, 0, 0, 0, 0), (21, 3, 1, 12, 46, 102), (24, 1, 3, 1, 0, 0), (25, 1, 0, 0, 0, 0), (26, 3, 1, 12, 9, 165), (29, 1, 17, 0, 0, 0), (30, 1, 0, 0, 0, 0), (31, 3, 1, 12, 46, 102), (34, 1, 3, 2, 0, 0), (35, 2, 4, 61, 0, 0), (37, 1, 17, 0, 0, 0), (38, 1, 0, 0, 0, 0), (39, 3, 1, 12, 46, 102), (42, 1, 3, 3, 0, 0), (43, 1, 3, 1, 0, 0), (44, 1, 17, 0, 0, 0), (45, 1, 0, 0, 0, 0), (46, 3, 1, 12, 10, 180), (49, 3, 7, 74, 1, 0), (52, 1, 0, 0, 0, 0), (53, 3, 1, 12, 7, 151), (56, 1, 3, 3, 0, 0), (57, 3, 6, 74, 1, 0), (60, 1, 0, 0, 0, 0), (61, 3, 1, 12, 9, 165), (64, 2, 4, 20, 0, 0), (66, 2, 4, 30, 0, 0), (68, 3, 13, 161, 98, 105), (71, 3, 7, 79, 1, 0)]) rfl) ?_
    refine xg_iastK (n := 0) (u := 0) (h113_39.fr hF44 (by decide)) xnm0 xnm0 rfl (by omega) (fun w52 hr53 hb54 => ?_)
    have hf55 := FA_fr (xFr.of (S := [113]) hb54 (by decide)) (by decide)
    have hf56 := mu_fr (xFr.of (S := [113]) hb54 (by decide)) (by decide)
    have hf57 := fld_fr (c := 82) (j := 7) (xFr.of (S := [113]) hb54 (by decide)) (by decide)
    have hf58 := fld_fr (c := 82) (j := 10) (xFr.of (S := [113]) hb54 (by decide)) (by decide)
    have hf59 := fld_fr (c := 82) (j := 14) (xFr.of (S := [113]) hb54 (by decide)) (by decide)
    refine xg_t (xg_aload (va := (2, 82)) rfl rfl) ?_
    obtain ⟨f82_60, f82_62, f82_64, f82_66, f82_68, f82_70, f82_72, f82_74, f82_76, f82_78, f82_80, f82_81, f82_82, f82_84, f82_86, f82_88, h82_90, hb61, hb63, hb65, hb67, hb69, hb71, hb73, hb75, hb77, hb79, hb83, hb85, hb87, hb89, hb91⟩ := (hI43 82 (by decide) (by decide) : cp82 (wget w41 82))
    refine xg_t (xg_getf (va := (2, 113)) (hb54.get (by decide) h82_90) rfl) ?_
    refine xg_t (xg_const) ?_
    refine xg_t (xg_aload (va := (2, 82)) rfl rfl) ?_
    refine xg_t (xg_getf (va := (0, f82_74)) (hb54.get (by decide) h82_90) rfl) ?_
    refine xg_iastK (n := 1) (u := f82_74) hr53 xnm0 xnm0 rfl (by omega) (fun w92 hr93 hb94 => ?_)
    have hf95 := FA_fr (xFr.of (S := [113]) hb94 (by decide)) (by decide)
    have hf96 := mu_fr (xFr.of (S := [113]) hb94 (by decide)) (by decide)
    have hf97 := fld_fr (c := 82) (j := 7) (xFr.of (S := [113]) hb94 (by decide)) (by decide)
    have hf98 := fld_fr (c := 82) (j := 10) (xFr.of (S := [113]) hb94 (by decide)) (by decide)
    have hf99 := fld_fr (c := 82) (j := 14) (xFr.of (S := [113]) hb94 (by decide)) (by decide)
    refine xg_t (xg_aload (va := (2, 82)) rfl rfl) ?_
    refine xg_t (xg_getf (va := (2, 113)) (hb94.get (by decide) (hb54.get (by decide) h82_90)) rfl) ?_
    refine xg_t (xg_const) ?_
    refine xg_t (xg_bip) ?_
    refine xg_iastK (n := 2) (u := 61) hr93 xnm0 xnm0 rfl (by omega) (fun w100 hr101 hb102 => ?_)
    have hf103 := FA_fr (xFr.of (S := [113]) hb102 (by decide)) (by decide)
    have hf104 := mu_fr (xFr.of (S := [113]) hb102 (by decide)) (by decide)
    have hf105 := fld_fr (c := 82) (j := 7) (xFr.of (S := [113]) hb102 (by decide)) (by decide)
    have hf106 := fld_fr (c := 82) (j := 10) (xFr.of (S := [113]) hb102 (by decide)) (by decide)
    have hf107 := fld_fr (c := 82) (j := 14) (xFr.of (S := [113]) hb102 (by decide)) (by decide)
    refine xg_t (xg_aload (va := (2, 82)) rfl rfl) ?_
    refine xg_t (xg_getf (va := (2, 113)) (hb102.get (by decide) (hb94.get (by decide) (hb54.get (by decide) h82_90))) rfl) ?_
    refine xg_t (xg_const) ?_
    refine xg_t (xg_const) ?_
    refine xg_iastK (n := 3) (u := 1) hr101 xnm0 xnm0 rfl (by omega) (fun w108 hr109 hb110 => ?_)
    have hf111 := FA_fr (xFr.of (S := [113]) hb110 (by decide)) (by decide)
    have hf112 := mu_fr (xFr.of (S := [113]) hb110 (by decide)) (by decide)
    have hf113 := fld_fr (c := 82) (j := 7) (xFr.of (S := [113]) hb110 (by decide)) (by decide)
    have hf114 := fld_fr (c := 82) (j := 10) (xFr.of (S := [113]) hb110 (by decide)) (by decide)
    have hf115 := fld_fr (c := 82) (j := 14) (xFr.of (S := [113]) hb110 (by decide)) (by decide)
    refine xg_t (xg_aload (va := (2, 82)) rfl rfl) ?_
    refine xg_t (xg_getf (va := (0, f82_76)) (hb110.get (by decide) (hb102.get (by decide) (hb94.get (by decide) (hb54.get (by decide) h82_90)))) rfl) ?_
    by_cases hc116 : f82_76 = 0
    · refine xg_t (xg_ifF (u := f82_76) rfl xnm0 (xj_neF hc116)) ?_
      refine xg_t (xg_aload (va := (2, 82)) rfl rfl) ?_
      refine xg_t (xg_getf (va := (0, f82_70)) (hb110.get (by decide) (hb102.get (by decide) (hb94.get (by decide) (hb54.get (by decide) h82_90)))) rfl) ?_
      refine xg_t (xg_const) ?_
      by_cases hc117 : f82_70 = 3
      · refine xg_t (xg_icF (u := f82_70) (v := 3) rfl xnm0 xnm0 (xj_neF hc117)) ?_
        refine xg_t (xg_aload (va := (2, 82)) rfl rfl) ?_
        refine xg_t (xg_getf (va := (0, f82_74)) (hb110.get (by decide) (hb102.get (by decide) (hb94.get (by decide) (hb54.get (by decide) h82_90)))) rfl) ?_
        refine xg_t (xg_bip) ?_
        refine xg_t (xg_bip) ?_
        refine xg_t (xg_cSr mX12_isIn (vs := [(0, f82_74), (0, 20), (0, 30)]) (rest := []) (rs := [(0, if 20 ≤ f82_74 ∧ f82_74 ≤ 30 then 1 else 0)]) (cn1 := 0) (sl1 := 0) rfl (mIsIn (by omega) (by omega) (by omega)) rfl rfl rfl rfl rfl rfl rfl rfl) ?_
        by_cases hc118 : 20 ≤ f82_74 ∧ f82_74 ≤ 30
        · refine xg_t (xg_ifT (u := (if 20 ≤ f82_74 ∧ f82_74 ≤ 30 then 1 else 0)) rfl xnm0 (xj_neT (xite1 hc118))) ?_
          refine xg_t (xg_blk (b := [(79, 1, 0, 0, 0, 0), (80, 3, 13, 110, 96, 190), (83, 1, 0, 0, 0, 0), (84, 3, 1, 12, 46, 102), (87, 1, 3, 1, 0, 0), (88, 1, 10, 0, 0, 0), (89, 2, 4, 21, 0, 0), (91, 3, 6, 95, 4, 0), (94, 1, 12, 0, 0, 0)]) rfl) ?_
          refine xg_t (xg_aload (va := (2, 82)) rfl rfl) ?_
          refine xg_cVv mX12_advance (vs := []) (rest := []) (cn1 := 0) (sl1 := 0) rfl (mAdvance (xMnv.up (S := [113]) hI43 ((((xFr.of (S := [113]) hb54 (by decide)).tr (xFr.of (S := [113]) hb94 (by decide))).tr (xFr.of (S := [113]) hb102 (by decide))).tr (xFr.of (S := [113]) hb110 (by decide))) (List.forall_mem_cons.mpr ⟨(show cpI 4 80 4294967295 (wget w108 113) from ⟨_, hr109, xrb (by omega) (xrb (by omega) (xrb (by omega) (xrb (by omega) (hb40))))⟩), fun _ h => absurd h List.not_mem_nil⟩))) rfl (hb110.get (by decide) (hb102.get (by decide) (hb94.get (by decide) (hb54.get (by decide) h82_90)))) rfl rfl rfl rfl rfl rfl (fun w119 hq120 => ?_)
          obtain ⟨hI121, hF122, hx123⟩ := hq120
          obtain ⟨hv124, hv125, hv126, hv127⟩ := hx123
          have hf128 := FA_fr hF122 (by decide)
          refine xg_t (xg_aload (va := (2, 82)) rfl rfl) ?_
          obtain ⟨f82_129, f82_131, f82_133, f82_135, f82_137, f82_139, f82_141, f82_143, f82_145, f82_147, f82_149, f82_150, f82_151, f82_153, f82_155, f82_157, h82_159, hb130, hb132, hb134, hb136, hb138, hb140, hb142, hb144, hb146, hb148, hb152, hb154, hb156, hb158, hb160⟩ := (hI121 82 (by decide) (by decide) : cp82 (wget w119 82))
          refine xg_t (xg_getf (va := (2, 113)) h82_159 rfl) ?_
          refine xg_t (xg_const) ?_
          refine xg_ialdB (n := 1) (B := 4294967295) (hr109.fr hF122 (by decide)) (xrb (by omega) (xrb (by omega) (xrb (by omega) (xrb (by omega) (hb40))))) xnm0 (by omega) (fun u161 hu162 he163 => ?_)
          refine xg_t (xg_bip) ?_
          by_cases hc164 : xbs 21 < xbs u161
          · have hc164u := hc164
            unfold xbs at hc164u
            have hn165 : u161 ≤ 2147483647 := by omega
            refine xg_t (xg_icT (u := u161) (v := 21) rfl xnm0 xnm0 (xjs_gtT hc164)) ?_
            refine xg_t (xg_blk (b := [(95, 1, 0, 0, 0, 0), (96, 3, 1, 12, 46, 102), (99, 1, 3, 2, 0, 0), (100, 1, 0, 0, 0, 0), (101, 3, 1, 12, 3, 174), (104, 1, 17, 0, 0, 0), (105, 1, 0, 0, 0, 0), (106, 3, 1, 12, 7, 151), (109, 1, 3, 2, 0, 0), (110, 3, 6, 131, 1, 0), (113, 1, 0, 0, 0, 0), (114, 3, 1, 12, 3, 174), (117, 2, 4, 58, 0, 0), (119, 3, 6, 131, 0, 0), (122, 1, 0, 0, 0, 0), (123, 3, 1, 12, 3, 174), (126, 2, 4, 59, 0, 0), (128, 3, 6, 136, 1, 0)]) rfl) ?_
            refine xg_t (xg_aload (va := (2, 82)) rfl rfl) ?_
            refine xg_t (xg_getf (va := (2, 113)) h82_159 rfl) ?_
            refine xg_t (xg_const) ?_
            refine xg_t (xg_aload (va := (2, 82)) rfl rfl) ?_
            refine xg_t (xg_getf (va := (0, f82_131)) h82_159 rfl) ?_
            refine xg_iastK (n := 2) (u := f82_131) (hr109.fr hF122 (by decide)) xnm0 xnm0 rfl (by omega) (fun w166 hr167 hb168 => ?_)
            have hf169 := FA_fr (xFr.of (S := [113]) hb168 (by decide)) (by decide)
            have hf170 := mu_fr (xFr.of (S := [113]) hb168 (by decide)) (by decide)
            have hf171 := fld_fr (c := 82) (j := 7) (xFr.of (S := [113]) hb168 (by decide)) (by decide)
            have hf172 := fld_fr (c := 82) (j := 10) (xFr.of (S := [113]) hb168 (by decide)) (by decide)
            have hf173 := fld_fr (c := 82) (j := 14) (xFr.of (S := [113]) hb168 (by decide)) (by decide)
            refine xg_t (xg_aload (va := (2, 82)) rfl rfl) ?_
            refine xg_t (xg_getf (va := (0, f82_139)) (hb168.get (by decide) h82_159) rfl) ?_
            refine xg_t (xg_const) ?_
            by_cases hc174 : f82_139 = 2
            · refine xg_t (xg_icF (u := f82_139) (v := 2) rfl xnm0 xnm0 (xj_neF hc174)) ?_
              refine xg_t (xg_aload (va := (2, 82)) rfl rfl) ?_
              refine xg_t (xg_getf (va := (0, f82_131)) (hb168.get (by decide) h82_159) rfl) ?_
              refine xg_t (xg_bip) ?_
              by_cases hc175 : f82_131 = 58
              · refine xg_t (xg_icT (u := f82_131) (v := 58) rfl xnm0 xnm0 (xj_eqT hc175)) ?_
                refine xg_t (xg_blk (b := [(131, 1, 0, 0, 0, 0), (132, 3, 13, 140, 96, 183), (135, 1, 12, 0, 0, 0)]) rfl) ?_
                refine xg_t (xg_aload (va := (2, 82)) rfl rfl) ?_
                refine xg_cVv mX12_ends (vs := []) (rest := []) (cn1 := 0) (sl1 := 0) rfl (mEnds (xMnv.up (S := [113]) hI121 (xFr.of (S := [113]) hb168 (by decide)) (List.forall_mem_cons.mpr ⟨(show cpI 4 80 4294967295 (wget w166 113) from ⟨_, hr167, xrb (by omega) (xrb (by omega) (xrb (by omega) (xrb (by omega) (xrb (by omega) (hb40)))))⟩), fun _ h => absurd h List.not_mem_nil⟩)) (show fld w166 82 10 = 0 ∨ FA w166 ≠ 0 by omega)) rfl (hb168.get (by decide) h82_159) rfl rfl rfl rfl rfl rfl (fun w176 hq177 => ?_)
                obtain ⟨hI178, hF179, hx180⟩ := hq177
                obtain ⟨hv181, hv182, hv183, hv184⟩ := hx180
                exact xg_e ⟨w176, ⟨rfl, rfl⟩, hI178, (((((hF44.up (by decide)).tr ((((xFr.of (S := [82, 83, 113]) hb54 (by decide)).tr (xFr.of (S := [82, 83, 113]) hb94 (by decide))).tr (xFr.of (S := [82, 83, 113]) hb102 (by decide))).tr (xFr.of (S := [82, 83, 113]) hb110 (by decide)))).tr (hF122.up (by decide))).tr (xFr.of (S := [82, 83, 113]) hb168 (by decide))).tr (hF179.up (by decide))), ⟨fun _ => by omega, by omega, by omega, (show fld w176 82 10 = 0 ∨ FA w176 ≠ 0 by omega)⟩⟩
              · refine xg_t (xg_icF (u := f82_131) (v := 58) rfl xnm0 xnm0 (xj_eqF hc175)) ?_
                refine xg_t (xg_aload (va := (2, 82)) rfl rfl) ?_
                refine xg_t (xg_getf (va := (0, f82_131)) (hb168.get (by decide) h82_159) rfl) ?_
                refine xg_t (xg_bip) ?_
                by_cases hc185 : f82_131 = 59
                · refine xg_t (xg_icF (u := f82_131) (v := 59) rfl xnm0 xnm0 (xj_neF hc185)) ?_
                  refine xg_t (xg_blk (b := [(131, 1, 0, 0, 0, 0), (132, 3, 13, 140, 96, 183), (135, 1, 12, 0, 0, 0)]) rfl) ?_
                  refine xg_t (xg_aload (va := (2, 82)) rfl rfl) ?_
                  refine xg_cVv mX12_ends (vs := []) (rest := []) (cn1 := 0) (sl1 := 0) rfl (mEnds (xMnv.up (S := [113]) hI121 (xFr.of (S := [113]) hb168 (by decide)) (List.forall_mem_cons.mpr ⟨(show cpI 4 80 4294967295 (wget w166 113) from ⟨_, hr167, xrb (by omega) (xrb (by omega) (xrb (by omega) (xrb (by omega) (xrb (by omega) (hb40)))))⟩), fun _ h => absurd h List.not_mem_nil⟩)) (show fld w166 82 10 = 0 ∨ FA w166 ≠ 0 by omega)) rfl (hb168.get (by decide) h82_159) rfl rfl rfl rfl rfl rfl (fun w186 hq187 => ?_)
                  obtain ⟨hI188, hF189, hx190⟩ := hq187
                  obtain ⟨hv191, hv192, hv193, hv194⟩ := hx190
                  exact xg_e ⟨w186, ⟨rfl, rfl⟩, hI188, (((((hF44.up (by decide)).tr ((((xFr.of (S := [82, 83, 113]) hb54 (by decide)).tr (xFr.of (S := [82, 83, 113]) hb94 (by decide))).tr (xFr.of (S := [82, 83, 113]) hb102 (by decide))).tr (xFr.of (S := [82, 83, 113]) hb110 (by decide)))).tr (hF122.up (by decide))).tr (xFr.of (S := [82, 83, 113]) hb168 (by decide))).tr (hF189.up (by decide))), ⟨fun _ => by omega, by omega, by omega, (show fld w186 82 10 = 0 ∨ FA w186 ≠ 0 by omega)⟩⟩
                · refine xg_t (xg_icT (u := f82_131) (v := 59) rfl xnm0 xnm0 (xj_neT hc185)) ?_
                  refine xg_t (xg_blk (b := [(136, 1, 0, 0, 0, 0), (137, 3, 13, 110, 96, 190), (140, 1, 0, 0, 0, 0), (141, 3, 1, 12, 46, 102), (144, 1, 3, 3, 0, 0), (145, 1, 0, 0, 0, 0), (146, 3, 13, 198, 96, 418), (149, 1, 17, 0, 0, 0), (150, 1, 12, 0, 0, 0)]) rfl) ?_
                  refine xg_t (xg_aload (va := (2, 82)) rfl rfl) ?_
                  refine xg_cVv mX12_advance (vs := []) (rest := []) (cn1 := 0) (sl1 := 0) rfl (mAdvance (xMnv.up (S := [113]) hI121 (xFr.of (S := [113]) hb168 (by decide)) (List.forall_mem_cons.mpr ⟨(show cpI 4 80 4294967295 (wget w166 113) from ⟨_, hr167, xrb (by omega) (xrb (by omega) (xrb (by omega) (xrb (by omega) (xrb (by omega) (hb40)))))⟩), fun _ h => absurd h List.not_mem_nil⟩))) rfl (hb168.get (by decide) h82_159) rfl rfl rfl rfl rfl rfl (fun w195 hq196 => ?_)
                  obtain ⟨hI197, hF198, hx199⟩ := hq196
                  obtain ⟨hv200, hv201, hv202, hv203⟩ := hx199
                  have hf204 := FA_fr hF198 (by decide)
                  refine xg_t (xg_aload (va := (2, 82)) rfl rfl) ?_
                  obtain ⟨f82_205, f82_207, f82_209, f82_211, f82_213, f82_215, f82_217, f82_219, f82_221, f82_223, f82_225, f82_226, f82_227, f82_229, f82_231, f82_233, h82_235, hb206, hb208, hb210, hb212, hb214, hb216, hb218, hb220, hb222, hb224, hb228, hb230, hb232, hb234, hb236⟩ := (hI197 82 (by decide) (by decide) : cp82 (wget w195 82))
                  refine xg_t (xg_getf (va := (2, 113)) h82_235 rfl) ?_
                  refine xg_t (xg_const) ?_
                  refine xg_t (xg_aload (va := (2, 82)) rfl rfl) ?_
                  refine xg_cVi mX12_numberNow (vs := []) (rest := [(0, 3), (2, 113)]) (cn1 := 0) (sl1 := 0) rfl (mNumberNow (hI197) (show fld w195 82 10 = 0 ∨ FA w195 ≠ 0 by omega)) rfl h82_235 rfl rfl rfl rfl rfl rfl (fun n241 w237 hq238 => ?_)
                  obtain ⟨hn242, hI239, hF240⟩ := hq238
                  obtain ⟨hn243, hn244⟩ := hn242
                  have hq245 := hn244
                  unfold PK PS at hq245
                  refine xg_iastK (n := 3) (u := n241) ((hr167.fr hF198 (by decide)).fr hF240 (by decide)) xnm0 xnm0 rfl (by omega) (fun w246 hr247 hb248 => ?_)
                  have hf249 := FA_fr (xFr.of (S := [113]) hb248 (by decide)) (by decide)
                  have hf250 := mu_fr (xFr.of (S := [113]) hb248 (by decide)) (by decide)
                  have hf251 := fld_fr (c := 82) (j := 7) (xFr.of (S := [113]) hb248 (by decide)) (by decide)
                  have hf252 := fld_fr (c := 82) (j := 10) (xFr.of (S := [113]) hb248 (by decide)) (by decide)
                  have hf253 := fld_fr (c := 82) (j := 14) (xFr.of (S := [113]) hb248 (by decide)) (by decide)
                  exact xg_e ⟨w246, ⟨rfl, rfl⟩, xMnv.up (S := [113]) hI239 (xFr.of (S := [113]) hb248 (by decide)) (List.forall_mem_cons.mpr ⟨(show cpI 4 80 4294967295 (wget w246 113) from ⟨_, hr247, xrb (by omega) (xrb (by omega) (xrb (by omega) (xrb (by omega) (xrb (by omega) (xrb (by omega) (hb40))))))⟩), fun _ h => absurd h List.not_mem_nil⟩), (((((((hF44.up (by decide)).tr ((((xFr.of (S := [82, 83, 113]) hb54 (by decide)).tr (xFr.of (S := [82, 83, 113]) hb94 (by decide))).tr (xFr.of (S := [82, 83, 113]) hb102 (by decide))).tr (xFr.of (S := [82, 83, 113]) hb110 (by decide)))).tr (hF122.up (by decide))).tr (xFr.of (S := [82, 83, 113]) hb168 (by decide))).tr (hF198.up (by decide))).tr (hF240.up (by decide))).tr (xFr.of (S := [82, 83, 113]) hb248 (by decide))), ⟨fun _ => by omega, by omega, by omega, (show fld w246 82 10 = 0 ∨ FA w246 ≠ 0 by omega)⟩⟩
            · refine xg_t (xg_icT (u := f82_139) (v := 2) rfl xnm0 xnm0 (xj_neT hc174)) ?_
              refine xg_t (xg_blk (b := [(131, 1, 0, 0, 0, 0), (132, 3, 13, 140, 96, 183), (135, 1, 12, 0, 0, 0)]) rfl) ?_
              refine xg_t (xg_aload (va := (2, 82)) rfl rfl) ?_
              refine xg_cVv mX12_ends (vs := []) (rest := []) (cn1 := 0) (sl1 := 0) rfl (mEnds (xMnv.up (S := [113]) hI121 (xFr.of (S := [113]) hb168 (by decide)) (List.forall_mem_cons.mpr ⟨(show cpI 4 80 4294967295 (wget w166 113) from ⟨_, hr167, xrb (by omega) (xrb (by omega) (xrb (by omega) (xrb (by omega) (xrb (by omega) (hb40)))))⟩), fun _ h => absurd h List.not_mem_nil⟩)) (show fld w166 82 10 = 0 ∨ FA w166 ≠ 0 by omega)) rfl (hb168.get (by decide) h82_159) rfl rfl rfl rfl rfl rfl (fun w254 hq255 => ?_)
              obtain ⟨hI256, hF257, hx258⟩ := hq255
              obtain ⟨hv259, hv260, hv261, hv262⟩ := hx258
              exact xg_e ⟨w254, ⟨rfl, rfl⟩, hI256, (((((hF44.up (by decide)).tr ((((xFr.of (S := [82, 83, 113]) hb54 (by decide)).tr (xFr.of (S := [82, 83, 113]) hb94 (by decide))).tr (xFr.of (S := [82, 83, 113]) hb102 (by decide))).tr (xFr.of (S := [82, 83, 113]) hb110 (by decide)))).tr (hF122.up (by decide))).tr (xFr.of (S := [82, 83, 113]) hb168 (by decide))).tr (hF257.up (by decide))), ⟨fun _ => by omega, by omega, by omega, (show fld w254 82 10 = 0 ∨ FA w254 ≠ 0 by omega)⟩⟩
          · have hc164u := hc164
            unfold xbs at hc164u
            refine xg_t (xg_icF (u := u161) (v := 21) rfl xnm0 xnm0 (xjs_gtF hc164)) ?_
            exact xg_e ⟨w119, ⟨rfl, rfl⟩, hI121, (((hF44.up (by decide)).tr ((((xFr.of (S := [82, 83, 113]) hb54 (by decide)).tr (xFr.of (S := [82, 83, 113]) hb94 (by decide))).tr (xFr.of (S := [82, 83, 113]) hb102 (by decide))).tr (xFr.of (S := [82, 83, 113]) hb110 (by decide)))).tr (hF122.up (by decide))), ⟨fun _ => by omega, by omega, by omega, (show fld w119 82 10 = 0 ∨ FA w119 ≠ 0 by omega)⟩⟩
        · refine xg_t (xg_ifF (u := (if 20 ≤ f82_74 ∧ f82_74 ≤ 30 then 1 else 0)) rfl xnm0 (xj_neF (xite0 hc118))) ?_
          refine xg_t (xg_blk (b := [(74, 1, 0, 0, 0, 0), (75, 3, 13, 140, 96, 183), (78, 1, 12, 0, 0, 0)]) rfl) ?_
          refine xg_t (xg_aload (va := (2, 82)) rfl rfl) ?_
          refine xg_cVv mX12_ends (vs := []) (rest := []) (cn1 := 0) (sl1 := 0) rfl (mEnds (xMnv.up (S := [113]) hI43 ((((xFr.of (S := [113]) hb54 (by decide)).tr (xFr.of (S := [113]) hb94 (by decide))).tr (xFr.of (S := [113]) hb102 (by decide))).tr (xFr.of (S := [113]) hb110 (by decide))) (List.forall_mem_cons.mpr ⟨(show cpI 4 80 4294967295 (wget w108 113) from ⟨_, hr109, xrb (by omega) (xrb (by omega) (xrb (by omega) (xrb (by omega) (hb40))))⟩), fun _ h => absurd h List.not_mem_nil⟩)) (show fld w108 82 10 = 0 ∨ FA w108 ≠ 0 by omega)) rfl (hb110.get (by decide) (hb102.get (by decide) (hb94.get (by decide) (hb54.get (by decide) h82_90)))) rfl rfl rfl rfl rfl rfl (fun w263 hq264 => ?_)
          obtain ⟨hI265, hF266, hx267⟩ := hq264
          obtain ⟨hv268, hv269, hv270, hv271⟩ := hx267
          exact xg_e ⟨w263, ⟨rfl, rfl⟩, hI265, (((hF44.up (by decide)).tr ((((xFr.of (S := [82, 83, 113]) hb54 (by decide)).tr (xFr.of (S := [82, 83, 113]) hb94 (by decide))).tr (xFr.of (S := [82, 83, 113]) hb102 (by decide))).tr (xFr.of (S := [82, 83, 113]) hb110 (by decide)))).tr (hF266.up (by decide))), ⟨fun _ => by omega, by omega, by omega, (show fld w263 82 10 = 0 ∨ FA w263 ≠ 0 by omega)⟩⟩
      · refine xg_t (xg_icT (u := f82_70) (v := 3) rfl xnm0 xnm0 (xj_neT hc117)) ?_
        refine xg_t (xg_blk (b := [(74, 1, 0, 0, 0, 0), (75, 3, 13, 140, 96, 183), (78, 1, 12, 0, 0, 0)]) rfl) ?_
        refine xg_t (xg_aload (va := (2, 82)) rfl rfl) ?_
        refine xg_cVv mX12_ends (vs := []) (rest := []) (cn1 := 0) (sl1 := 0) rfl (mEnds (xMnv.up (S := [113]) hI43 ((((xFr.of (S := [113]) hb54 (by decide)).tr (xFr.of (S := [113]) hb94 (by decide))).tr (xFr.of (S := [113]) hb102 (by decide))).tr (xFr.of (S := [113]) hb110 (by decide))) (List.forall_mem_cons.mpr ⟨(show cpI 4 80 4294967295 (wget w108 113) from ⟨_, hr109, xrb (by omega) (xrb (by omega) (xrb (by omega) (xrb (by omega) (hb40))))⟩), fun _ h => absurd h List.not_mem_nil⟩)) (show fld w108 82 10 = 0 ∨ FA w108 ≠ 0 by omega)) rfl (hb110.get (by decide) (hb102.get (by decide) (hb94.get (by decide) (hb54.get (by decide) h82_90)))) rfl rfl rfl rfl rfl rfl (fun w272 hq273 => ?_)
        obtain ⟨hI274, hF275, hx276⟩ := hq273
        obtain ⟨hv277, hv278, hv279, hv280⟩ := hx276
        exact xg_e ⟨w272, ⟨rfl, rfl⟩, hI274, (((hF44.up (by decide)).tr ((((xFr.of (S := [82, 83, 113]) hb54 (by decide)).tr (xFr.of (S := [82, 83, 113]) hb94 (by decide))).tr (xFr.of (S := [82, 83, 113]) hb102 (by decide))).tr (xFr.of (S := [82, 83, 113]) hb110 (by decide)))).tr (hF275.up (by decide))), ⟨fun _ => by omega, by omega, by omega, (show fld w272 82 10 = 0 ∨ FA w272 ≠ 0 by omega)⟩⟩
    · refine xg_t (xg_ifT (u := f82_76) rfl xnm0 (xj_neT hc116)) ?_
      refine xg_t (xg_blk (b := [(74, 1, 0, 0, 0, 0), (75, 3, 13, 140, 96, 183), (78, 1, 12, 0, 0, 0)]) rfl) ?_
      refine xg_t (xg_aload (va := (2, 82)) rfl rfl) ?_
      refine xg_cVv mX12_ends (vs := []) (rest := []) (cn1 := 0) (sl1 := 0) rfl (mEnds (xMnv.up (S := [113]) hI43 ((((xFr.of (S := [113]) hb54 (by decide)).tr (xFr.of (S := [113]) hb94 (by decide))).tr (xFr.of (S := [113]) hb102 (by decide))).tr (xFr.of (S := [113]) hb110 (by decide))) (List.forall_mem_cons.mpr ⟨(show cpI 4 80 4294967295 (wget w108 113) from ⟨_, hr109, xrb (by omega) (xrb (by omega) (xrb (by omega) (xrb (by omega) (hb40))))⟩), fun _ h => absurd h List.not_mem_nil⟩)) (show fld w108 82 10 = 0 ∨ FA w108 ≠ 0 by omega)) rfl (hb110.get (by decide) (hb102.get (by decide) (hb94.get (by decide) (hb54.get (by decide) h82_90)))) rfl rfl rfl rfl rfl rfl (fun w281 hq282 => ?_)
      obtain ⟨hI283, hF284, hx285⟩ := hq282
      obtain ⟨hv286, hv287, hv288, hv289⟩ := hx285
      exact xg_e ⟨w281, ⟨rfl, rfl⟩, hI283, (((hF44.up (by decide)).tr ((((xFr.of (S := [82, 83, 113]) hb54 (by decide)).tr (xFr.of (S := [82, 83, 113]) hb94 (by decide))).tr (xFr.of (S := [82, 83, 113]) hb102 (by decide))).tr (xFr.of (S := [82, 83, 113]) hb110 (by decide)))).tr (hF284.up (by decide))), ⟨fun _ => by omega, by omega, by omega, (show fld w281 82 10 = 0 ∨ FA w281 ≠ 0 by omega)⟩⟩
  · refine xg_t (xg_ifF (u := n45) rfl xnm0 (xj_eqF hc51)) ?_
    refine xg_t (xg_const) ?_
    refine xg_t (xg_goto) ?_
    refine xg_t (xg_blk (b := [(19, 1, 17, 0, 0, 0), (20, 1, 0, 0, 0, 0), (21, 3, 1, 12, 46, 102), (24, 1, 3, 1, 0, 0), (25, 1, 0, 0, 0, 0), (26, 3, 1, 12, 9, 165), (29, 1, 17, 0, 0, 0), (30, 1, 0, 0, 0, 0), (31, 3, 1, 12, 46, 102), (34, 1, 3, 2, 0, 0), (35, 2, 4, 61, 0, 0), (37, 1, 17, 0, 0, 0), (38, 1, 0, 0, 0, 0), (39, 3, 1, 12, 46, 102), (42, 1, 3, 3, 0, 0), (43, 1, 3, 1, 0, 0), (44, 1, 17, 0, 0, 0), (45, 1, 0, 0, 0, 0), (46, 3, 1, 12, 10, 180), (49, 3, 7, 74, 1, 0), (52, 1, 0, 0, 0, 0), (53, 3, 1, 12, 7, 151), (56, 1, 3, 3, 0, 0), (57, 3, 6, 74, 1, 0), (60, 1, 0, 0, 0, 0), (61, 3, 1, 12, 9, 165), (64, 2, 4, 20, 0, 0), (66, 2, 4, 30, 0, 0), (68, 3, 13, 161, 98, 105), (71, 3, 7, 79, 1, 0)]) rfl) ?_
    refine xg_iastK (n := 0) (u := 1) (h113_39.fr hF44 (by decide)) xnm0 xnm0 rfl (by omega) (fun w290 hr291 hb292 => ?_)
    have hf293 := FA_fr (xFr.of (S := [113]) hb292 (by decide)) (by decide)
    have hf294 := mu_fr (xFr.of (S := [113]) hb292 (by decide)) (by decide)
    have hf295 := fld_fr (c := 82) (j := 7) (xFr.of (S := [113]) hb292 (by decide)) (by decide)
    have hf296 := fld_fr (c := 82) (j := 10) (xFr.of (S := [113]) hb292 (by decide)) (by decide)
    have hf297 := fld_fr (c := 82) (j := 14) (xFr.of (S := [113]) hb292 (by decide)) (by decide)
    refine xg_t (xg_aload (va := (2, 82)) rfl rfl) ?_
    obtain ⟨f82_298, f82_300, f82_302, f82_304, f82_306, f82_308, f82_310, f82_312, f82_314, f82_316, f82_318, f82_319, f82_320, f82_322, f82_324, f82_326, h82_328, hb299, hb301, hb303, hb305, hb307, hb309, hb311, hb313, hb315, hb317, hb321, hb323, hb325, hb327, hb329⟩ := (hI43 82 (by decide) (by decide) : cp82 (wget w41 82))
    refine xg_t (xg_getf (va := (2, 113)) (hb292.get (by decide) h82_328) rfl) ?_
    refine xg_t (xg_const) ?_
    refine xg_t (xg_aload (va := (2, 82)) rfl rfl) ?_
    refine xg_t (xg_getf (va := (0, f82_312)) (hb292.get (by decide) h82_328) rfl) ?_
    refine xg_iastK (n := 1) (u := f82_312) hr291 xnm0 xnm0 rfl (by omega) (fun w330 hr331 hb332 => ?_)
    have hf333 := FA_fr (xFr.of (S := [113]) hb332 (by decide)) (by decide)
    have hf334 := mu_fr (xFr.of (S := [113]) hb332 (by decide)) (by decide)
    have hf335 := fld_fr (c := 82) (j := 7) (xFr.of (S := [113]) hb332 (by decide)) (by decide)
    have hf336 := fld_fr (c := 82) (j := 10) (xFr.of (S := [113]) hb332 (by decide)) (by decide)
    have hf337 := fld_fr (c := 82) (j := 14) (xFr.of (S := [113]) hb332 (by decide)) (by decide)
    refine xg_t (xg_aload (va := (2, 82)) rfl rfl) ?_
    refine xg_t (xg_getf (va := (2, 113)) (hb332.get (by decide) (hb292.get (by decide) h82_328)) rfl) ?_
    refine xg_t (xg_const) ?_
    refine xg_t (xg_bip) ?_
    refine xg_iastK (n := 2) (u := 61) hr331 xnm0 xnm0 rfl (by omega) (fun w338 hr339 hb340 => ?_)
    have hf341 := FA_fr (xFr.of (S := [113]) hb340 (by decide)) (by decide)
    have hf342 := mu_fr (xFr.of (S := [113]) hb340 (by decide)) (by decide)
    have hf343 := fld_fr (c := 82) (j := 7) (xFr.of (S := [113]) hb340 (by decide)) (by decide)
    have hf344 := fld_fr (c := 82) (j := 10) (xFr.of (S := [113]) hb340 (by decide)) (by decide)
    have hf345 := fld_fr (c := 82) (j := 14) (xFr.of (S := [113]) hb340 (by decide)) (by decide)
    refine xg_t (xg_aload (va := (2, 82)) rfl rfl) ?_
    refine xg_t (xg_getf (va := (2, 113)) (hb340.get (by decide) (hb332.get (by decide) (hb292.get (by decide) h82_328))) rfl) ?_
    refine xg_t (xg_const) ?_
    refine xg_t (xg_const) ?_
    refine xg_iastK (n := 3) (u := 1) hr339 xnm0 xnm0 rfl (by omega) (fun w346 hr347 hb348 => ?_)
    have hf349 := FA_fr (xFr.of (S := [113]) hb348 (by decide)) (by decide)
    have hf350 := mu_fr (xFr.of (S := [113]) hb348 (by decide)) (by decide)
    have hf351 := fld_fr (c := 82) (j := 7) (xFr.of (S := [113]) hb348 (by decide)) (by decide)
    have hf352 := fld_fr (c := 82) (j := 10) (xFr.of (S := [113]) hb348 (by decide)) (by decide)
    have hf353 := fld_fr (c := 82) (j := 14) (xFr.of (S := [113]) hb348 (by decide)) (by decide)
    refine xg_t (xg_aload (va := (2, 82)) rfl rfl) ?_
    refine xg_t (xg_getf (va := (0, f82_314)) (hb348.get (by decide) (hb340.get (by decide) (hb332.get (by decide) (hb292.get (by decide) h82_328)))) rfl) ?_
    by_cases hc354 : f82_314 = 0
    · refine xg_t (xg_ifF (u := f82_314) rfl xnm0 (xj_neF hc354)) ?_
      refine xg_t (xg_aload (va := (2, 82)) rfl rfl) ?_
      refine xg_t (xg_getf (va := (0, f82_308)) (hb348.get (by decide) (hb340.get (by decide) (hb332.get (by decide) (hb292.get (by decide) h82_328)))) rfl) ?_
      refine xg_t (xg_const) ?_
      by_cases hc355 : f82_308 = 3
      · refine xg_t (xg_icF (u := f82_308) (v := 3) rfl xnm0 xnm0 (xj_neF hc355)) ?_
        refine xg_t (xg_aload (va := (2, 82)) rfl rfl) ?_
        refine xg_t (xg_getf (va := (0, f82_312)) (hb348.get (by decide) (hb340.get (by decide) (hb332.get (by decide) (hb292.get (by decide) h82_328)))) rfl) ?_
        refine xg_t (xg_bip) ?_
        refine xg_t (xg_bip) ?_
        refine xg_t (xg_cSr mX12_isIn (vs := [(0, f82_312), (0, 20), (0, 30)]) (rest := []) (rs := [(0, if 20 ≤ f82_312 ∧ f82_312 ≤ 30 then 1 else 0)]) (cn1 := 0) (sl1 := 0) rfl (mIsIn (by omega) (by omega) (by omega)) rfl rfl rfl rfl rfl rfl rfl rfl) ?_
        by_cases hc356 : 20 ≤ f82_312 ∧ f82_312 ≤ 30
        · refine xg_t (xg_ifT (u := (if 20 ≤ f82_312 ∧ f82_312 ≤ 30 then 1 else 0)) rfl xnm0 (xj_neT (xite1 hc356))) ?_
          refine xg_t (xg_blk (b := [(79, 1, 0, 0, 0, 0), (80, 3, 13, 110, 96, 190), (83, 1, 0, 0, 0, 0), (84, 3, 1, 12, 46, 102), (87, 1, 3, 1, 0, 0), (88, 1, 10, 0, 0, 0), (89, 2, 4, 21, 0, 0), (91, 3, 6, 95, 4, 0), (94, 1, 12, 0, 0, 0)]) rfl) ?_
          refine xg_t (xg_aload (va := (2, 82)) rfl rfl) ?_
          refine xg_cVv mX12_advance (vs := []) (rest := []) (cn1 := 0) (sl1 := 0) rfl (mAdvance (xMnv.up (S := [113]) hI43 ((((xFr.of (S := [113]) hb292 (by decide)).tr (xFr.of (S := [113]) hb332 (by decide))).tr (xFr.of (S := [113]) hb340 (by decide))).tr (xFr.of (S := [113]) hb348 (by decide))) (List.forall_mem_cons.mpr ⟨(show cpI 4 80 4294967295 (wget w346 113) from ⟨_, hr347, xrb (by omega) (xrb (by omega) (xrb (by omega) (xrb (by omega) (hb40))))⟩), fun _ h => absurd h List.not_mem_nil⟩))) rfl (hb348.get (by decide) (hb340.get (by decide) (hb332.get (by decide) (hb292.get (by decide) h82_328)))) rfl rfl rfl rfl rfl rfl (fun w357 hq358 => ?_)
          obtain ⟨hI359, hF360, hx361⟩ := hq358
          obtain ⟨hv362, hv363, hv364, hv365⟩ := hx361
          have hf366 := FA_fr hF360 (by decide)
          refine xg_t (xg_aload (va := (2, 82)) rfl rfl) ?_
          obtain ⟨f82_367, f82_369, f82_371, f82_373, f82_375, f82_377, f82_379, f82_381, f82_383, f82_385, f82_387, f82_388, f82_389, f82_391, f82_393, f82_395, h82_397, hb368, hb370, hb372, hb374, hb376, hb378, hb380, hb382, hb384, hb386, hb390, hb392, hb394, hb396, hb398⟩ := (hI359 82 (by decide) (by decide) : cp82 (wget w357 82))
          refine xg_t (xg_getf (va := (2, 113)) h82_397 rfl) ?_
          refine xg_t (xg_const) ?_
          refine xg_ialdB (n := 1) (B := 4294967295) (hr347.fr hF360 (by decide)) (xrb (by omega) (xrb (by omega) (xrb (by omega) (xrb (by omega) (hb40))))) xnm0 (by omega) (fun u399 hu400 he401 => ?_)
          refine xg_t (xg_bip) ?_
          by_cases hc402 : xbs 21 < xbs u399
          · have hc402u := hc402
            unfold xbs at hc402u
            have hn403 : u399 ≤ 2147483647 := by omega
            refine xg_t (xg_icT (u := u399) (v := 21) rfl xnm0 xnm0 (xjs_gtT hc402)) ?_
            refine xg_t (xg_blk (b := [(95, 1, 0, 0, 0, 0), (96, 3, 1, 12, 46, 102), (99, 1, 3, 2, 0, 0), (100, 1, 0, 0, 0, 0), (101, 3, 1, 12, 3, 174), (104, 1, 17, 0, 0, 0), (105, 1, 0, 0, 0, 0), (106, 3, 1, 12, 7, 151), (109, 1, 3, 2, 0, 0), (110, 3, 6, 131, 1, 0), (113, 1, 0, 0, 0, 0), (114, 3, 1, 12, 3, 174), (117, 2, 4, 58, 0, 0), (119, 3, 6, 131, 0, 0), (122, 1, 0, 0, 0, 0), (123, 3, 1, 12, 3, 174), (126, 2, 4, 59, 0, 0), (128, 3, 6, 136, 1, 0)]) rfl) ?_
            refine xg_t (xg_aload (va := (2, 82)) rfl rfl) ?_
            refine xg_t (xg_getf (va := (2, 113)) h82_397 rfl) ?_
            refine xg_t (xg_const) ?_
            refine xg_t (xg_aload (va := (2, 82)) rfl rfl) ?_
            refine xg_t (xg_getf (va := (0, f82_369)) h82_397 rfl) ?_
            refine xg_iastK (n := 2) (u := f82_369) (hr347.fr hF360 (by decide)) xnm0 xnm0 rfl (by omega) (fun w404 hr405 hb406 => ?_)
            have hf407 := FA_fr (xFr.of (S := [113]) hb406 (by decide)) (by decide)
            have hf408 := mu_fr (xFr.of (S := [113]) hb406 (by decide)) (by decide)
            have hf409 := fld_fr (c := 82) (j := 7) (xFr.of (S := [113]) hb406 (by decide)) (by decide)
            have hf410 := fld_fr (c := 82) (j := 10) (xFr.of (S := [113]) hb406 (by decide)) (by decide)
            have hf411 := fld_fr (c := 82) (j := 14) (xFr.of (S := [113]) hb406 (by decide)) (by decide)
            refine xg_t (xg_aload (va := (2, 82)) rfl rfl) ?_
            refine xg_t (xg_getf (va := (0, f82_377)) (hb406.get (by decide) h82_397) rfl) ?_
            refine xg_t (xg_const) ?_
            by_cases hc412 : f82_377 = 2
            · refine xg_t (xg_icF (u := f82_377) (v := 2) rfl xnm0 xnm0 (xj_neF hc412)) ?_
              refine xg_t (xg_aload (va := (2, 82)) rfl rfl) ?_
              refine xg_t (xg_getf (va := (0, f82_369)) (hb406.get (by decide) h82_397) rfl) ?_
              refine xg_t (xg_bip) ?_
              by_cases hc413 : f82_369 = 58
              · refine xg_t (xg_icT (u := f82_369) (v := 58) rfl xnm0 xnm0 (xj_eqT hc413)) ?_
                refine xg_t (xg_blk (b := [(131, 1, 0, 0, 0, 0), (132, 3, 13, 140, 96, 183), (135, 1, 12, 0, 0, 0)]) rfl) ?_
                refine xg_t (xg_aload (va := (2, 82)) rfl rfl) ?_
                refine xg_cVv mX12_ends (vs := []) (rest := []) (cn1 := 0) (sl1 := 0) rfl (mEnds (xMnv.up (S := [113]) hI359 (xFr.of (S := [113]) hb406 (by decide)) (List.forall_mem_cons.mpr ⟨(show cpI 4 80 4294967295 (wget w404 113) from ⟨_, hr405, xrb (by omega) (xrb (by omega) (xrb (by omega) (xrb (by omega) (xrb (by omega) (hb40)))))⟩), fun _ h => absurd h List.not_mem_nil⟩)) (show fld w404 82 10 = 0 ∨ FA w404 ≠ 0 by omega)) rfl (hb406.get (by decide) h82_397) rfl rfl rfl rfl rfl rfl (fun w414 hq415 => ?_)
                obtain ⟨hI416, hF417, hx418⟩ := hq415
                obtain ⟨hv419, hv420, hv421, hv422⟩ := hx418
                exact xg_e ⟨w414, ⟨rfl, rfl⟩, hI416, (((((hF44.up (by decide)).tr ((((xFr.of (S := [82, 83, 113]) hb292 (by decide)).tr (xFr.of (S := [82, 83, 113]) hb332 (by decide))).tr (xFr.of (S := [82, 83, 113]) hb340 (by decide))).tr (xFr.of (S := [82, 83, 113]) hb348 (by decide)))).tr (hF360.up (by decide))).tr (xFr.of (S := [82, 83, 113]) hb406 (by decide))).tr (hF417.up (by decide))), ⟨fun _ => by omega, by omega, by omega, (show fld w414 82 10 = 0 ∨ FA w414 ≠ 0 by omega)⟩⟩
              · refine xg_t (xg_icF (u := f82_369) (v := 58) rfl xnm0 xnm0 (xj_eqF hc413)) ?_
                refine xg_t (xg_aload (va := (2, 82)) rfl rfl) ?_
                refine xg_t (xg_getf (va := (0, f82_369)) (hb406.get (by decide) h82_397) rfl) ?_
                refine xg_t (xg_bip) ?_
                by_cases hc423 : f82_369 = 59
                · refine xg_t (xg_icF (u := f82_369) (v := 59) rfl xnm0 xnm0 (xj_neF hc423)) ?_
                  refine xg_t (xg_blk (b := [(131, 1, 0, 0, 0, 0), (132, 3, 13, 140, 96, 183), (135, 1, 12, 0, 0, 0)]) rfl) ?_
                  refine xg_t (xg_aload (va := (2, 82)) rfl rfl) ?_
                  refine xg_cVv mX12_ends (vs := []) (rest := []) (cn1 := 0) (sl1 := 0) rfl (mEnds (xMnv.up (S := [113]) hI359 (xFr.of (S := [113]) hb406 (by decide)) (List.forall_mem_cons.mpr ⟨(show cpI 4 80 4294967295 (wget w404 113) from ⟨_, hr405, xrb (by omega) (xrb (by omega) (xrb (by omega) (xrb (by omega) (xrb (by omega) (hb40)))))⟩), fun _ h => absurd h List.not_mem_nil⟩)) (show fld w404 82 10 = 0 ∨ FA w404 ≠ 0 by omega)) rfl (hb406.get (by decide) h82_397) rfl rfl rfl rfl rfl rfl (fun w424 hq425 => ?_)
                  obtain ⟨hI426, hF427, hx428⟩ := hq425
                  obtain ⟨hv429, hv430, hv431, hv432⟩ := hx428
                  exact xg_e ⟨w424, ⟨rfl, rfl⟩, hI426, (((((hF44.up (by decide)).tr ((((xFr.of (S := [82, 83, 113]) hb292 (by decide)).tr (xFr.of (S := [82, 83, 113]) hb332 (by decide))).tr (xFr.of (S := [82, 83, 113]) hb340 (by decide))).tr (xFr.of (S := [82, 83, 113]) hb348 (by decide)))).tr (hF360.up (by decide))).tr (xFr.of (S := [82, 83, 113]) hb406 (by decide))).tr (hF427.up (by decide))), ⟨fun _ => by omega, by omega, by omega, (show fld w424 82 10 = 0 ∨ FA w424 ≠ 0 by omega)⟩⟩
                · refine xg_t (xg_icT (u := f82_369) (v := 59) rfl xnm0 xnm0 (xj_neT hc423)) ?_
                  refine xg_t (xg_blk (b := [(136, 1, 0, 0, 0, 0), (137, 3, 13, 110, 96, 190), (140, 1, 0, 0, 0, 0), (141, 3, 1, 12, 46, 102), (144, 1, 3, 3, 0, 0), (145, 1, 0, 0, 0, 0), (146, 3, 13, 198, 96, 418), (149, 1, 17, 0, 0, 0), (150, 1, 12, 0, 0, 0)]) rfl) ?_
                  refine xg_t (xg_aload (va := (2, 82)) rfl rfl) ?_
                  refine xg_cVv mX12_advance (vs := []) (rest := []) (cn1 := 0) (sl1 := 0) rfl (mAdvance (xMnv.up (S := [113]) hI359 (xFr.of (S := [113]) hb406 (by decide)) (List.forall_mem_cons.mpr ⟨(show cpI 4 80 4294967295 (wget w404 113) from ⟨_, hr405, xrb (by omega) (xrb (by omega) (xrb (by omega) (xrb (by omega) (xrb (by omega) (hb40)))))⟩), fun _ h => absurd h List.not_mem_nil⟩))) rfl (hb406.get (by decide) h82_397) rfl rfl rfl rfl rfl rfl (fun w433 hq434 => ?_)
                  obtain ⟨hI435, hF436, hx437⟩ := hq434
                  obtain ⟨hv438, hv439, hv440, hv441⟩ := hx437
                  have hf442 := FA_fr hF436 (by decide)
                  refine xg_t (xg_aload (va := (2, 82)) rfl rfl) ?_
                  obtain ⟨f82_443, f82_445, f82_447, f82_449, f82_451, f82_453, f82_455, f82_457, f82_459, f82_461, f82_463, f82_464, f82_465, f82_467, f82_469, f82_471, h82_473, hb444, hb446, hb448, hb450, hb452, hb454, hb456, hb458, hb460, hb462, hb466, hb468, hb470, hb472, hb474⟩ := (hI435 82 (by decide) (by decide) : cp82 (wget w433 82))
                  refine xg_t (xg_getf (va := (2, 113)) h82_473 rfl) ?_
                  refine xg_t (xg_const) ?_
                  refine xg_t (xg_aload (va := (2, 82)) rfl rfl) ?_
                  refine xg_cVi mX12_numberNow (vs := []) (rest := [(0, 3), (2, 113)]) (cn1 := 0) (sl1 := 0) rfl (mNumberNow (hI435) (show fld w433 82 10 = 0 ∨ FA w433 ≠ 0 by omega)) rfl h82_473 rfl rfl rfl rfl rfl rfl (fun n479 w475 hq476 => ?_)
                  obtain ⟨hn480, hI477, hF478⟩ := hq476
                  obtain ⟨hn481, hn482⟩ := hn480
                  have hq483 := hn482
                  unfold PK PS at hq483
                  refine xg_iastK (n := 3) (u := n479) ((hr405.fr hF436 (by decide)).fr hF478 (by decide)) xnm0 xnm0 rfl (by omega) (fun w484 hr485 hb486 => ?_)
                  have hf487 := FA_fr (xFr.of (S := [113]) hb486 (by decide)) (by decide)
                  have hf488 := mu_fr (xFr.of (S := [113]) hb486 (by decide)) (by decide)
                  have hf489 := fld_fr (c := 82) (j := 7) (xFr.of (S := [113]) hb486 (by decide)) (by decide)
                  have hf490 := fld_fr (c := 82) (j := 10) (xFr.of (S := [113]) hb486 (by decide)) (by decide)
                  have hf491 := fld_fr (c := 82) (j := 14) (xFr.of (S := [113]) hb486 (by decide)) (by decide)
                  exact xg_e ⟨w484, ⟨rfl, rfl⟩, xMnv.up (S := [113]) hI477 (xFr.of (S := [113]) hb486 (by decide)) (List.forall_mem_cons.mpr ⟨(show cpI 4 80 4294967295 (wget w484 113) from ⟨_, hr485, xrb (by omega) (xrb (by omega) (xrb (by omega) (xrb (by omega) (xrb (by omega) (xrb (by omega) (hb40))))))⟩), fun _ h => absurd h List.not_mem_nil⟩), (((((((hF44.up (by decide)).tr ((((xFr.of (S := [82, 83, 113]) hb292 (by decide)).tr (xFr.of (S := [82, 83, 113]) hb332 (by decide))).tr (xFr.of (S := [82, 83, 113]) hb340 (by decide))).tr (xFr.of (S := [82, 83, 113]) hb348 (by decide)))).tr (hF360.up (by decide))).tr (xFr.of (S := [82, 83, 113]) hb406 (by decide))).tr (hF436.up (by decide))).tr (hF478.up (by decide))).tr (xFr.of (S := [82, 83, 113]) hb486 (by decide))), ⟨fun _ => by omega, by omega, by omega, (show fld w484 82 10 = 0 ∨ FA w484 ≠ 0 by omega)⟩⟩
            · refine xg_t (xg_icT (u := f82_377) (v := 2) rfl xnm0 xnm0 (xj_neT hc412)) ?_
              refine xg_t (xg_blk (b := [(131, 1, 0, 0, 0, 0), (132, 3, 13, 140, 96, 183), (135, 1, 12, 0, 0, 0)]) rfl) ?_
              refine xg_t (xg_aload (va := (2, 82)) rfl rfl) ?_
              refine xg_cVv mX12_ends (vs := []) (rest := []) (cn1 := 0) (sl1 := 0) rfl (mEnds (xMnv.up (S := [113]) hI359 (xFr.of (S := [113]) hb406 (by decide)) (List.forall_mem_cons.mpr ⟨(show cpI 4 80 4294967295 (wget w404 113) from ⟨_, hr405, xrb (by omega) (xrb (by omega) (xrb (by omega) (xrb (by omega) (xrb (by omega) (hb40)))))⟩), fun _ h => absurd h List.not_mem_nil⟩)) (show fld w404 82 10 = 0 ∨ FA w404 ≠ 0 by omega)) rfl (hb406.get (by decide) h82_397) rfl rfl rfl rfl rfl rfl (fun w492 hq493 => ?_)
              obtain ⟨hI494, hF495, hx496⟩ := hq493
              obtain ⟨hv497, hv498, hv499, hv500⟩ := hx496
              exact xg_e ⟨w492, ⟨rfl, rfl⟩, hI494, (((((hF44.up (by decide)).tr ((((xFr.of (S := [82, 83, 113]) hb292 (by decide)).tr (xFr.of (S := [82, 83, 113]) hb332 (by decide))).tr (xFr.of (S := [82, 83, 113]) hb340 (by decide))).tr (xFr.of (S := [82, 83, 113]) hb348 (by decide)))).tr (hF360.up (by decide))).tr (xFr.of (S := [82, 83, 113]) hb406 (by decide))).tr (hF495.up (by decide))), ⟨fun _ => by omega, by omega, by omega, (show fld w492 82 10 = 0 ∨ FA w492 ≠ 0 by omega)⟩⟩
          · have hc402u := hc402
            unfold xbs at hc402u
            refine xg_t (xg_icF (u := u399) (v := 21) rfl xnm0 xnm0 (xjs_gtF hc402)) ?_
            exact xg_e ⟨w357, ⟨rfl, rfl⟩, hI359, (((hF44.up (by decide)).tr ((((xFr.of (S := [82, 83, 113]) hb292 (by decide)).tr (xFr.of (S := [82, 83, 113]) hb332 (by decide))).tr (xFr.of (S := [82, 83, 113]) hb340 (by decide))).tr (xFr.of (S := [82, 83, 113]) hb348 (by decide)))).tr (hF360.up (by decide))), ⟨fun _ => by omega, by omega, by omega, (show fld w357 82 10 = 0 ∨ FA w357 ≠ 0 by omega)⟩⟩
        · refine xg_t (xg_ifF (u := (if 20 ≤ f82_312 ∧ f82_312 ≤ 30 then 1 else 0)) rfl xnm0 (xj_neF (xite0 hc356))) ?_
          refine xg_t (xg_blk (b := [(74, 1, 0, 0, 0, 0), (75, 3, 13, 140, 96, 183), (78, 1, 12, 0, 0, 0)]) rfl) ?_
          refine xg_t (xg_aload (va := (2, 82)) rfl rfl) ?_
          refine xg_cVv mX12_ends (vs := []) (rest := []) (cn1 := 0) (sl1 := 0) rfl (mEnds (xMnv.up (S := [113]) hI43 ((((xFr.of (S := [113]) hb292 (by decide)).tr (xFr.of (S := [113]) hb332 (by decide))).tr (xFr.of (S := [113]) hb340 (by decide))).tr (xFr.of (S := [113]) hb348 (by decide))) (List.forall_mem_cons.mpr ⟨(show cpI 4 80 4294967295 (wget w346 113) from ⟨_, hr347, xrb (by omega) (xrb (by omega) (xrb (by omega) (xrb (by omega) (hb40))))⟩), fun _ h => absurd h List.not_mem_nil⟩)) (show fld w346 82 10 = 0 ∨ FA w346 ≠ 0 by omega)) rfl (hb348.get (by decide) (hb340.get (by decide) (hb332.get (by decide) (hb292.get (by decide) h82_328)))) rfl rfl rfl rfl rfl rfl (fun w501 hq502 => ?_)
          obtain ⟨hI503, hF504, hx505⟩ := hq502
          obtain ⟨hv506, hv507, hv508, hv509⟩ := hx505
          exact xg_e ⟨w501, ⟨rfl, rfl⟩, hI503, (((hF44.up (by decide)).tr ((((xFr.of (S := [82, 83, 113]) hb292 (by decide)).tr (xFr.of (S := [82, 83, 113]) hb332 (by decide))).tr (xFr.of (S := [82, 83, 113]) hb340 (by decide))).tr (xFr.of (S := [82, 83, 113]) hb348 (by decide)))).tr (hF504.up (by decide))), ⟨fun _ => by omega, by omega, by omega, (show fld w501 82 10 = 0 ∨ FA w501 ≠ 0 by omega)⟩⟩
      · refine xg_t (xg_icT (u := f82_308) (v := 3) rfl xnm0 xnm0 (xj_neT hc355)) ?_
        refine xg_t (xg_blk (b := [(74, 1, 0, 0, 0, 0), (75, 3, 13, 140, 96, 183), (78, 1, 12, 0, 0, 0)]) rfl) ?_
        refine xg_t (xg_aload (va := (2, 82)) rfl rfl) ?_
        refine xg_cVv mX12_ends (vs := []) (rest := []) (cn1 := 0) (sl1 := 0) rfl (mEnds (xMnv.up (S := [113]) hI43 ((((xFr.of (S := [113]) hb292 (by decide)).tr (xFr.of (S := [113]) hb332 (by decide))).tr (xFr.of (S := [113]) hb340 (by decide))).tr (xFr.of (S := [113]) hb348 (by decide))) (List.forall_mem_cons.mpr ⟨(show cpI 4 80 4294967295 (wget w346 113) from ⟨_, hr347, xrb (by omega) (xrb (by omega) (xrb (by omega) (xrb (by omega) (hb40))))⟩), fun _ h => absurd h List.not_mem_nil⟩)) (show fld w346 82 10 = 0 ∨ FA w346 ≠ 0 by omega)) rfl (hb348.get (by decide) (hb340.get (by decide) (hb332.get (by decide) (hb292.get (by decide) h82_328)))) rfl rfl rfl rfl rfl rfl (fun w510 hq511 => ?_)
        obtain ⟨hI512, hF513, hx514⟩ := hq511
        obtain ⟨hv515, hv516, hv517, hv518⟩ := hx514
        exact xg_e ⟨w510, ⟨rfl, rfl⟩, hI512, (((hF44.up (by decide)).tr ((((xFr.of (S := [82, 83, 113]) hb292 (by decide)).tr (xFr.of (S := [82, 83, 113]) hb332 (by decide))).tr (xFr.of (S := [82, 83, 113]) hb340 (by decide))).tr (xFr.of (S := [82, 83, 113]) hb348 (by decide)))).tr (hF513.up (by decide))), ⟨fun _ => by omega, by omega, by omega, (show fld w510 82 10 = 0 ∨ FA w510 ≠ 0 by omega)⟩⟩
    · refine xg_t (xg_ifT (u := f82_314) rfl xnm0 (xj_neT hc354)) ?_
      refine xg_t (xg_blk (b := [(74, 1, 0, 0, 0, 0), (75, 3, 13, 140, 96, 183), (78, 1, 12, 0, 0, 0)]) rfl) ?_
      refine xg_t (xg_aload (va := (2, 82)) rfl rfl) ?_
      refine xg_cVv mX12_ends (vs := []) (rest := []) (cn1 := 0) (sl1 := 0) rfl (mEnds (xMnv.up (S := [113]) hI43 ((((xFr.of (S := [113]) hb292 (by decide)).tr (xFr.of (S := [113]) hb332 (by decide))).tr (xFr.of (S := [113]) hb340 (by decide))).tr (xFr.of (S := [113]) hb348 (by decide))) (List.forall_mem_cons.mpr ⟨(show cpI 4 80 4294967295 (wget w346 113) from ⟨_, hr347, xrb (by omega) (xrb (by omega) (xrb (by omega) (xrb (by omega) (hb40))))⟩), fun _ h => absurd h List.not_mem_nil⟩)) (show fld w346 82 10 = 0 ∨ FA w346 ≠ 0 by omega)) rfl (hb348.get (by decide) (hb340.get (by decide) (hb332.get (by decide) (hb292.get (by decide) h82_328)))) rfl rfl rfl rfl rfl rfl (fun w519 hq520 => ?_)
      obtain ⟨hI521, hF522, hx523⟩ := hq520
      obtain ⟨hv524, hv525, hv526, hv527⟩ := hx523
      exact xg_e ⟨w519, ⟨rfl, rfl⟩, hI521, (((hF44.up (by decide)).tr ((((xFr.of (S := [82, 83, 113]) hb292 (by decide)).tr (xFr.of (S := [82, 83, 113]) hb332 (by decide))).tr (xFr.of (S := [82, 83, 113]) hb340 (by decide))).tr (xFr.of (S := [82, 83, 113]) hb348 (by decide)))).tr (hF522.up (by decide))), ⟨fun _ => by omega, by omega, by omega, (show fld w519 82 10 = 0 ∨ FA w519 ≠ 0 by omega)⟩⟩
theorem mRulePuts {kk va : Nat} (hI : xMnv w) (hkk : kk ≤ 19) (hva : va ≤ 4294967295) (hln : fld w 82 14 ≤ 2000) : xPq d mX12_rulePuts [(2, 82), (0, kk), (0, va)] w bd fc rr [] (fun w' => xMnv w' ∧ xFr [112] w w' ∧ (∀ j, j < 320 → ((fld w 82 14 < 16 ∧ j = 20 * fld w 82 14 + kk) → rwv w' 112 j = va) ∧ (¬ (j = 20 * fld w 82 14 + kk) → rwv w' 112 j = rwv w 112 j))) := by
  refine xPq.of ?_
  show xTo d mX12_rulePuts (0, [], [(0, (2, 82)), (1, (0, kk)), (2, (0, va))], [], (w, bd, fc, 0, 0, rr)) (fun φ => ∃ w', xEnd 0 [] (w', bd, fc, 0, 0, rr) φ ∧ xMnv w' ∧ xFr [112] w w' ∧ (∀ j, j < 320 → ((fld w 82 14 < 16 ∧ j = 20 * fld w 82 14 + kk) → rwv w' 112 j = va) ∧ (¬ (j = 20 * fld w 82 14 + kk) → rwv w' 112 j = rwv w 112 j)))
  obtain ⟨f82_1, f82_3, f82_5, f82_7, f82_9, f82_11, f82_13, f82_15, f82_17, f82_19, f82_21, f82_22, f82_23, f82_25, f82_27, f82_29, h82_31, hb2, hb4, hb6, hb8, hb10, hb12, hb14, hb16, hb18, hb20, hb24, hb26, hb28, hb30, hb32⟩ := (hI 82 (by decide) (by decide) : cp82 (wget w 82))
  obtain ⟨g112_33, h112_34, hb35⟩ := (hI 112 (by decide) (by decide) : cpI 320 79 4294967295 (wget w 112))
  have h112_34 : xRow w 112 320 79 g112_33 := h112_34
  have hf36 : fld w 82 14 = f82_19 := fld_of h82_31
  have hl37 : f82_19 ≤ 2000 := by omega
  refine xg_t (xg_blk (b := [(0, 1, 0, 0, 0, 0), (1, 3, 1, 12, 14, 212), (4, 2, 4, 16, 0, 0), (6, 3, 6, 24, 3, 0), (9, 1, 0, 0, 0, 0), (10, 3, 1, 12, 45, 99), (13, 2, 4, 20, 0, 0), (15, 1, 0, 0, 0, 0), (16, 3, 1, 12, 14, 212), (19, 1, 16, 0, 0, 0), (20, 1, 2, 1, 0, 0), (21, 1, 11, 0, 0, 0), (22, 1, 2, 2, 0, 0), (23, 1, 17, 0, 0, 0)]) rfl) ?_
  refine xg_t (xg_aload (va := (2, 82)) rfl rfl) ?_
  refine xg_t (xg_getf (va := (0, f82_19)) h82_31 rfl) ?_
  refine xg_t (xg_bip) ?_
  by_cases hc38 : f82_19 < 16
  · refine xg_t (xg_icF (u := f82_19) (v := 16) rfl xnm0 xnm0 (xj_geF hc38 (by omega))) ?_
    refine xg_t (xg_aload (va := (2, 82)) rfl rfl) ?_
    refine xg_t (xg_getf (va := (2, 112)) h82_31 rfl) ?_
    refine xg_t (xg_bip) ?_
    refine xg_t (xg_aload (va := (2, 82)) rfl rfl) ?_
    refine xg_t (xg_getf (va := (0, f82_19)) h82_31 rfl) ?_
    refine xg_t (xg_imul (u := 20) (v := f82_19) (z := 20 * f82_19) xnm0 xnm0 (by omega)) ?_
    refine xg_t (xg_iload (va := (0, kk)) rfl rfl) ?_
    refine xg_t (xg_iadd (u := 20 * f82_19) (v := kk) (z := (20 * f82_19) + kk) xnm0 xnm0 (by omega)) ?_
    refine xg_t (xg_iload (va := (0, va)) rfl rfl) ?_
    refine xg_iastK (n := (20 * f82_19) + kk) (u := va) h112_34 xnm0 xnm0 rfl (by omega) (fun w39 hr40 hb41 => ?_)
    refine xg_t (xg_blk (b := [(24, 1, 12, 0, 0, 0)]) rfl) ?_
    exact xg_e ⟨w39, ⟨rfl, rfl⟩, xMnv.up (S := [112]) hI (xFr.of (S := [112]) hb41 (by decide)) (List.forall_mem_cons.mpr ⟨(show cpI 320 79 4294967295 (wget w39 112) from ⟨_, hr40, xrb (by omega) (hb35)⟩), fun _ h => absurd h List.not_mem_nil⟩), (xFr.of (S := [112]) hb41 (by decide)), fun j hj => ⟨fun h => (rwv_of hr40 hj).trans (if_pos (show j = (20 * f82_19) + kk by omega)), fun h => (rwv_of hr40 hj).trans ((if_neg (show ¬ j = (20 * f82_19) + kk by omega)).trans (rwv_of h112_34 hj).symm)⟩⟩
  · refine xg_t (xg_icT (u := f82_19) (v := 16) rfl xnm0 xnm0 (xj_geT (by omega) (by omega))) ?_
    refine xg_t (xg_blk (b := [(24, 1, 12, 0, 0, 0)]) rfl) ?_
    exact xg_e ⟨w, ⟨rfl, rfl⟩, hI, xFr.rf, fun j hj => ⟨fun h => absurd h.1 (by omega), fun _ => rfl⟩⟩
set_option maxHeartbeats 60000000 in
theorem mARule (hI : xMnv w) (hps : PS w) (hln : fld w 82 14 ≤ 1000) (hmu : mu w ≤ 1001) : xPq (d + 7) mX12_aRule [(2, 82)] w bd fc rr [] (fun w' => xMnv w' ∧ xFr [82, 83, 112, 113] w w' ∧ ((FA w ≠ 0 → FA w' ≠ 0) ∧ PS w' ∧ ((fld w' 82 10 = 1 ∧ mu w' ≤ mu w ∧ fld w' 82 14 = fld w 82 14) ∨ (mu w' < mu w ∧ fld w' 82 14 = fld w 82 14 + 1)) ∧ (FA w' ≠ 0 ∨ (RD w → RD w')))) := by
  refine xPq.of ?_
  show xTo (d + 7) mX12_aRule (0, [], [(0, (2, 82))], [], (w, bd, fc, 0, 0, rr)) (fun φ => ∃ w', xEnd 0 [] (w', bd, fc, 0, 0, rr) φ ∧ xMnv w' ∧ xFr [82, 83, 112, 113] w w' ∧ ((FA w ≠ 0 → FA w' ≠ 0) ∧ PS w' ∧ ((fld w' 82 10 = 1 ∧ mu w' ≤ mu w ∧ fld w' 82 14 = fld w 82 14) ∨ (mu w' < mu w ∧ fld w' 82 14 = fld w 82 14 + 1)) ∧ (FA w' ≠ 0 ∨ (RD w → RD w'))))
  obtain ⟨f82_1, f82_3, f82_5, f82_7, f82_9, f82_11, f82_13, f82_15, f82_17, f82_19, f82_21, f82_22, f82_23, f82_25, f82_27, f82_29, h82_31, hb2, hb4, hb6, hb8, hb10, hb12, hb14, hb16, hb18, hb20, hb24, hb26, hb28, hb30, hb32⟩ := (hI 82 (by decide) (by decide) : cp82 (wget w 82))
  have hf33 : fld w 82 4 = f82_5 := fld_of h82_31
  have hf34 : fld w 82 5 = f82_7 := fld_of h82_31
  have hf35 : fld w 82 7 = f82_11 := fld_of h82_31
  have hf36 : fld w 82 10 = f82_17 := fld_of h82_31
  have hf37 : fld w 82 14 = f82_19 := fld_of h82_31
  have hps_ : fld w 82 10 = 0 ∨ FA w ≠ 0 := hps
  obtain ⟨g113_38, h113_39, hb40⟩ := (hI 113 (by decide) (by decide) : cpI 4 80 4294967295 (wget w 113))
  have h113_39 : xRow w 113 4 80 g113_38 := h113_39
  have hl41 : f82_19 ≤ 1000 := by omega
  refine xg_t (xg_blk (b := [(0, 1, 0, 0, 0, 0), (1, 3, 1, 12, 14, 212), (4, 2, 4, 16, 0, 0), (6, 3, 6, 18, 2, 0), (9, 1, 0, 0, 0, 0), (10, 1, 3, 3, 0, 0), (11, 1, 0, 0, 0, 0), (12, 3, 1, 12, 6, 148), (15, 3, 13, 115, 96, 186)]) rfl) ?_
  refine xg_t (xg_aload (va := (2, 82)) rfl rfl) ?_
  refine xg_t (xg_getf (va := (0, f82_19)) h82_31 rfl) ?_
  refine xg_t (xg_bip) ?_
  by_cases hc42 : f82_19 < 16
  · refine xg_t (xg_icT (u := f82_19) (v := 16) rfl xnm0 xnm0 (xj_ltT hc42 (by omega))) ?_
    refine xg_t (xg_blk (b := [(18, 1, 3, 0, 0, 0), (19, 1, 15, 1, 0, 0), (20, 1, 0, 0, 0, 0), (21, 2, 4, 50, 0, 0), (23, 3, 13, 227, 96, 415), (26, 3, 7, 107, 0, 0), (29, 1, 3, 1, 0, 0), (30, 1, 15, 2, 0, 0)]) rfl) ?_
    refine xg_t (xg_const) ?_
    refine xg_t (xg_istore (l1 := [(0, (2, 82))]) rfl rfl rfl) ?_
    refine xg_t (xg_aload (va := (2, 82)) rfl rfl) ?_
    refine xg_t (xg_bip) ?_
    refine xg_cVi mX12_takes (vs := [(0, 50)]) (rest := []) (cn1 := 0) (sl1 := 0) rfl (mTakes (hI) (by omega) (PK.rf hps).2.2.2) rfl h82_31 rfl rfl rfl rfl rfl rfl (fun n47 w43 hq44 => ?_)
    obtain ⟨hn48, hI45, hF46⟩ := hq44
    obtain ⟨hn49, hn50, hn51⟩ := hn48
    have pk52 : PK w w43 := PK.tr (PK.rf hps) hn50
    have ro53 : ∀ l, l < fld w 82 14 → l < 16 → rwv w43 112 (20 * l) = rwv w 112 (20 * l) := fun l hl h6 => (rwv_fr hF46 (by decide)).trans ((fun l _ _ => rfl) l hl h6)
    have hq54 := pk52
    unfold PK PS at hq54
    by_cases hc55 : n47 = 0
    · refine xg_t (xg_ifT (u := n47) rfl xnm0 (xj_eqT hc55)) ?_
      refine xg_t (xg_blk (b := [(107, 1, 0, 0, 0, 0), (108, 3, 1, 12, 10, 180), (111, 3, 7, 136, 1, 0), (114, 1, 0, 0, 0, 0), (115, 3, 1, 12, 7, 151), (118, 1, 3, 3, 0, 0), (119, 3, 6, 136, 1, 0), (122, 1, 0, 0, 0, 0), (123, 3, 1, 12, 9, 165), (126, 2, 4, 40, 0, 0), (128, 2, 4, 42, 0, 0), (130, 3, 13, 161, 98, 105), (133, 3, 7, 141, 1, 0)]) rfl) ?_
      refine xg_t (xg_aload (va := (2, 82)) rfl rfl) ?_
      obtain ⟨f82_56, f82_58, f82_60, f82_62, f82_64, f82_66, f82_68, f82_70, f82_72, f82_74, f82_76, f82_77, f82_78, f82_80, f82_82, f82_84, h82_86, hb57, hb59, hb61, hb63, hb65, hb67, hb69, hb71, hb73, hb75, hb79, hb81, hb83, hb85, hb87⟩ := (hI45 82 (by decide) (by decide) : cp82 (wget w43 82))
      refine xg_t (xg_getf (va := (0, f82_72)) h82_86 rfl) ?_
      by_cases hc88 : f82_72 = 0
      · refine xg_t (xg_ifF (u := f82_72) rfl xnm0 (xj_neF hc88)) ?_
        refine xg_t (xg_aload (va := (2, 82)) rfl rfl) ?_
        refine xg_t (xg_getf (va := (0, f82_66)) h82_86 rfl) ?_
        refine xg_t (xg_const) ?_
        by_cases hc89 : f82_66 = 3
        · refine xg_t (xg_icF (u := f82_66) (v := 3) rfl xnm0 xnm0 (xj_neF hc89)) ?_
          refine xg_t (xg_aload (va := (2, 82)) rfl rfl) ?_
          refine xg_t (xg_getf (va := (0, f82_70)) h82_86 rfl) ?_
          refine xg_t (xg_bip) ?_
          refine xg_t (xg_bip) ?_
          refine xg_t (xg_cSr mX12_isIn (vs := [(0, f82_70), (0, 40), (0, 42)]) (rest := []) (rs := [(0, if 40 ≤ f82_70 ∧ f82_70 ≤ 42 then 1 else 0)]) (cn1 := 0) (sl1 := 0) rfl (mIsIn (by omega) (by omega) (by omega)) rfl rfl rfl rfl rfl rfl rfl rfl) ?_
          by_cases hc90 : 40 ≤ f82_70 ∧ f82_70 ≤ 42
          · refine xg_t (xg_ifT (u := (if 40 ≤ f82_70 ∧ f82_70 ≤ 42 then 1 else 0)) rfl xnm0 (xj_neT (xite1 hc90))) ?_
            refine xg_t (xg_blk (b := [(141, 1, 0, 0, 0, 0), (142, 3, 1, 12, 9, 165), (145, 1, 15, 2, 0, 0), (146, 1, 0, 0, 0, 0), (147, 3, 13, 110, 96, 190), (150, 1, 2, 2, 0, 0), (151, 2, 4, 40, 0, 0), (153, 3, 6, 160, 1, 0), (156, 1, 3, 0, 0, 0), (157, 3, 8, 164, 0, 0)]) rfl) ?_
            refine xg_t (xg_aload (va := (2, 82)) rfl rfl) ?_
            refine xg_t (xg_getf (va := (0, f82_70)) h82_86 rfl) ?_
            refine xg_t (xg_istore (l1 := [(1, (0, 0)), (0, (2, 82))]) rfl rfl rfl) ?_
            refine xg_t (xg_aload (va := (2, 82)) rfl rfl) ?_
            have hf91 : fld w43 82 7 = f82_66 := fld_of h82_86
            refine xg_cVv mX12_advance (vs := []) (rest := []) (cn1 := 0) (sl1 := 0) rfl (mAdvance (hI45)) rfl h82_86 rfl rfl rfl rfl rfl rfl (fun w92 hq93 => ?_)
            obtain ⟨hI94, hF95, hx96⟩ := hq93
            obtain ⟨hv97, hv98, hv99, hv100⟩ := hx96
            have hf101 := FA_fr hF95 (by decide)
            have pk102 : PK w43 w92 := ⟨fun _ => by omega, hv97, hv100, (show fld w92 82 10 = 0 ∨ FA w92 ≠ 0 by omega)⟩
            have pk103 : PK w w92 := PK.tr pk52 pk102
            have ro104 : ∀ l, l < fld w 82 14 → l < 16 → rwv w92 112 (20 * l) = rwv w 112 (20 * l) := fun l hl h6 => (rwv_fr hF95 (by decide)).trans (ro53 l hl h6)
            have hq105 := pk103
            unfold PK PS at hq105
            clear hq54
            have ms106 : mu w92 < mu w := Nat.lt_of_lt_of_le (hv98 (by omega)) pk52.2.1
            refine xg_t (xg_iload (va := (0, f82_70)) rfl rfl) ?_
            refine xg_t (xg_bip) ?_
            by_cases hc107 : f82_70 = 40
            · refine xg_t (xg_icF (u := f82_70) (v := 40) rfl xnm0 xnm0 (xj_neF hc107)) ?_
              refine xg_t (xg_const) ?_
              refine xg_t (xg_goto) ?_
              refine xg_t (xg_blk (b := [(164, 1, 15, 3, 0, 0), (165, 1, 0, 0, 0, 0), (166, 2, 4, 59, 0, 0), (168, 3, 13, 195, 96, 427), (171, 1, 0, 0, 0, 0), (172, 1, 3, 0, 0, 0), (173, 1, 2, 1, 0, 0), (174, 3, 13, 214, 96, 424), (177, 1, 0, 0, 0, 0), (178, 2, 4, 17, 0, 0), (180, 1, 2, 2, 0, 0), (181, 3, 13, 214, 96, 424), (184, 1, 0, 0, 0, 0), (185, 2, 4, 18, 0, 0), (187, 1, 2, 3, 0, 0), (188, 3, 13, 214, 96, 424), (191, 1, 0, 0, 0, 0), (192, 1, 19, 0, 0, 0), (193, 3, 1, 12, 14, 212), (196, 1, 3, 1, 0, 0), (197, 1, 11, 0, 0, 0), (198, 3, 14, 12, 14, 212), (201, 1, 12, 0, 0, 0)]) rfl) ?_
              refine xg_t (xg_istore (l1 := [(2, (0, f82_70)), (1, (0, 0)), (0, (2, 82))]) rfl rfl rfl) ?_
              refine xg_t (xg_aload (va := (2, 82)) rfl rfl) ?_
              refine xg_t (xg_bip) ?_
              obtain ⟨f82_108, f82_110, f82_112, f82_114, f82_116, f82_118, f82_120, f82_122, f82_124, f82_126, f82_128, f82_129, f82_130, f82_132, f82_134, f82_136, h82_138, hb109, hb111, hb113, hb115, hb117, hb119, hb121, hb123, hb125, hb127, hb131, hb133, hb135, hb137, hb139⟩ := (hI94 82 (by decide) (by decide) : cp82 (wget w92 82))
              refine xg_cVv mX12_must (vs := [(0, 59)]) (rest := []) (cn1 := 0) (sl1 := 0) rfl (mMust (hI94) (by omega) pk103.2.2.2) rfl h82_138 rfl rfl rfl rfl rfl rfl (fun w140 hq141 => ?_)
              obtain ⟨hI142, hF143, hx144⟩ := hq141
              have pk145 : PK w w140 := PK.tr pk103 hx144
              have ro146 : ∀ l, l < fld w 82 14 → l < 16 → rwv w140 112 (20 * l) = rwv w 112 (20 * l) := fun l hl h6 => (rwv_fr hF143 (by decide)).trans (ro104 l hl h6)
              have hq147 := pk145
              unfold PK PS at hq147
              clear hq105
              have ms148 : mu w140 < mu w := Nat.lt_of_le_of_lt hx144.2.1 ms106
              refine xg_t (xg_aload (va := (2, 82)) rfl rfl) ?_
              refine xg_t (xg_const) ?_
              refine xg_t (xg_iload (va := (0, 0)) rfl rfl) ?_
              have hl149 : fld w140 82 14 = fld w 82 14 := pk145.2.2.1
              have hl150 : fld w140 82 14 ≤ 2000 := by omega
              obtain ⟨f82_151, f82_153, f82_155, f82_157, f82_159, f82_161, f82_163, f82_165, f82_167, f82_169, f82_171, f82_172, f82_173, f82_175, f82_177, f82_179, h82_181, hb152, hb154, hb156, hb158, hb160, hb162, hb164, hb166, hb168, hb170, hb174, hb176, hb178, hb180, hb182⟩ := (hI142 82 (by decide) (by decide) : cp82 (wget w140 82))
              refine xg_cVv mX12_rulePuts (vs := [(0, 0), (0, 0)]) (rest := []) (cn1 := 0) (sl1 := 0) rfl (mRulePuts (hI142) (by omega) (by omega) (by omega)) rfl h82_181 rfl rfl rfl rfl rfl rfl (fun w183 hq184 => ?_)
              obtain ⟨hI185, hF186, hx187⟩ := hq184
              have hx188 := hx187
              have pk189 : PK w w183 := PK.tr pk145 (PK.fr hF186 (by decide) (by decide) pk145.2.2.2)
              have ro190 : ∀ l, l < fld w 82 14 → l < 16 → rwv w183 112 (20 * l) = rwv w 112 (20 * l) := fun l hl h6 => ((hx188 _ (by omega)).2 (by omega)).trans (ro146 l hl h6)
              have hq191 := pk189
              unfold PK PS at hq191
              clear hq147
              have ms192 : mu w183 < mu w := Nat.lt_of_le_of_lt (PK.fr hF186 (by decide) (by decide) pk145.2.2.2).2.1 ms148
              have rz193 : fld w 82 14 < 16 → rwv w183 112 (20 * fld w 82 14) = 0 := fun h6 => (hx188 _ (by omega)).1 ⟨by omega, by omega⟩
              refine xg_t (xg_aload (va := (2, 82)) rfl rfl) ?_
              refine xg_t (xg_bip) ?_
              refine xg_t (xg_iload (va := (0, f82_70)) rfl rfl) ?_
              have hl194 : fld w183 82 14 = fld w 82 14 := pk189.2.2.1
              have hl195 : fld w183 82 14 ≤ 2000 := by omega
              refine xg_cVv mX12_rulePuts (vs := [(0, 17), (0, f82_70)]) (rest := []) (cn1 := 0) (sl1 := 0) rfl (mRulePuts (hI185) (by omega) (by omega) (by omega)) rfl (hF186.get (by decide) h82_181) rfl rfl rfl rfl rfl rfl (fun w196 hq197 => ?_)
              obtain ⟨hI198, hF199, hx200⟩ := hq197
              have hx201 := hx200
              have pk202 : PK w w196 := PK.tr pk189 (PK.fr hF199 (by decide) (by decide) pk189.2.2.2)
              have ro203 : ∀ l, l < fld w 82 14 → l < 16 → rwv w196 112 (20 * l) = rwv w 112 (20 * l) := fun l hl h6 => ((hx201 _ (by omega)).2 (by omega)).trans (ro190 l hl h6)
              have hq204 := pk202
              unfold PK PS at hq204
              clear hq191
              have ms205 : mu w196 < mu w := Nat.lt_of_le_of_lt (PK.fr hF199 (by decide) (by decide) pk189.2.2.2).2.1 ms192
              have rz206 : fld w 82 14 < 16 → rwv w196 112 (20 * fld w 82 14) = 0 := fun h6 => ((hx201 _ (by omega)).2 (by omega)).trans (rz193 h6)
              refine xg_t (xg_aload (va := (2, 82)) rfl rfl) ?_
              refine xg_t (xg_bip) ?_
              refine xg_t (xg_iload (va := (0, 0)) rfl rfl) ?_
              have hl207 : fld w196 82 14 = fld w 82 14 := pk202.2.2.1
              have hl208 : fld w196 82 14 ≤ 2000 := by omega
              refine xg_cVv mX12_rulePuts (vs := [(0, 18), (0, 0)]) (rest := []) (cn1 := 0) (sl1 := 0) rfl (mRulePuts (hI198) (by omega) (by omega) (by omega)) rfl (hF199.get (by decide) (hF186.get (by decide) h82_181)) rfl rfl rfl rfl rfl rfl (fun w209 hq210 => ?_)
              obtain ⟨hI211, hF212, hx213⟩ := hq210
              have hx214 := hx213
              have pk215 : PK w w209 := PK.tr pk202 (PK.fr hF212 (by decide) (by decide) pk202.2.2.2)
              have ro216 : ∀ l, l < fld w 82 14 → l < 16 → rwv w209 112 (20 * l) = rwv w 112 (20 * l) := fun l hl h6 => ((hx214 _ (by omega)).2 (by omega)).trans (ro203 l hl h6)
              have hq217 := pk215
              unfold PK PS at hq217
              clear hq204
              have ms218 : mu w209 < mu w := Nat.lt_of_le_of_lt (PK.fr hF212 (by decide) (by decide) pk202.2.2.2).2.1 ms205
              have rz219 : fld w 82 14 < 16 → rwv w209 112 (20 * fld w 82 14) = 0 := fun h6 => ((hx214 _ (by omega)).2 (by omega)).trans (rz206 h6)
              have hf220 : fld w209 82 4 = f82_155 := fld_of (hF212.get (by decide) (hF199.get (by decide) (hF186.get (by decide) h82_181)))
              have hf221 : fld w209 82 5 = f82_157 := fld_of (hF212.get (by decide) (hF199.get (by decide) (hF186.get (by decide) h82_181)))
              have hf222 : fld w209 82 7 = f82_161 := fld_of (hF212.get (by decide) (hF199.get (by decide) (hF186.get (by decide) h82_181)))
              have hf223 : fld w209 82 10 = f82_167 := fld_of (hF212.get (by decide) (hF199.get (by decide) (hF186.get (by decide) h82_181)))
              have hf224 : fld w209 82 14 = f82_169 := fld_of (hF212.get (by decide) (hF199.get (by decide) (hF186.get (by decide) h82_181)))
              have hu225 : mu w209 = 2 * (fld w209 82 4 - fld w209 82 5) + min 1 (fld w209 82 7) := rfl
              have hl226 : f82_169 ≤ 1001 := by omega
              refine xg_t (xg_aload (va := (2, 82)) rfl rfl) ?_
              refine xg_t (xg_dup rfl) ?_
              refine xg_t (xg_getf (va := (0, f82_169)) (hF212.get (by decide) (hF199.get (by decide) (hF186.get (by decide) h82_181))) rfl) ?_
              refine xg_t (xg_const) ?_
              refine xg_t (xg_iadd (u := f82_169) (v := 1) (z := f82_169 + 1) xnm0 xnm0 (by omega)) ?_
              refine xg_putI (fl1 := [(2, 83), (2, 84), (0, f82_151), (0, f82_153), (0, f82_155), (0, f82_157), (0, f82_159), (0, f82_161), (0, f82_163), (0, f82_165), (0, f82_167), (2, 85), (2, 86), (2, 87), (0, f82_169 + 1), (2, 88), (2, 89), (2, 90), (2, 91), (2, 92), (2, 93), (2, 94), (4, f82_171), (4, f82_172), (0, f82_173), (2, 95), (2, 96), (2, 97), (2, 98), (2, 99), (2, 100), (2, 101), (2, 102), (0, f82_175), (2, 103), (2, 104), (2, 105), (2, 106), (2, 107), (2, 108), (2, 109), (0, f82_177), (0, f82_179), (2, 110), (2, 111), (2, 112), (2, 113)]) (hF212.get (by decide) (hF199.get (by decide) (hF186.get (by decide) h82_181))) rfl rfl rfl (fun w227 hk228 hb229 => ?_)
              have hF230 : xFr [82] w209 w227 := xFr.of hb229 (by decide)
              have hA231 := FA_fr hF230 (by decide)
              have hf232 : fld w227 82 4 = f82_155 := fld_of hk228
              have hf233 : fld w227 82 5 = f82_157 := fld_of hk228
              have hf234 : fld w227 82 7 = f82_161 := fld_of hk228
              have hf235 : fld w227 82 10 = f82_167 := fld_of hk228
              have hf236 : fld w227 82 14 = f82_169 + 1 := fld_of hk228
              have hu237 : mu w227 = 2 * (fld w227 82 4 - fld w227 82 5) + min 1 (fld w227 82 7) := rfl
              have hD238 : FA w227 ≠ 0 ∨ (RD w → RD w227) := by
                by_cases z : FA w227 ≠ 0
                · exact Or.inl z
                · refine Or.inr (fun hd => ⟨by omega, fun l hl => ?_⟩)
                  rw [rwv_fr hF230 (by decide)]
                  by_cases y : l = fld w 82 14
                  · rw [y, rz219 (by omega)]; omega
                  · rw [ro216 l (by omega) (by have := hd.1; omega)]; exact hd.2 l (by omega)
              exact xg_e ⟨w227, ⟨rfl, rfl⟩, xMnv.up (S := [82]) hI211 (xFr.of (S := [82]) hb229 (by decide)) (List.forall_mem_cons.mpr ⟨(show cp82 (wget w227 82) from ⟨f82_151, f82_153, f82_155, f82_157, f82_159, f82_161, f82_163, f82_165, f82_167, f82_169 + 1, f82_171, f82_172, f82_173, f82_175, f82_177, f82_179, hk228, by omega, by omega, by omega, by omega, by omega, by omega, by omega, by omega, by omega, by omega, by omega, by omega, by omega, by omega, by omega⟩), fun _ h => absurd h List.not_mem_nil⟩), (((((((hF46.up (by decide)).tr (hF95.up (by decide))).tr (hF143.up (by decide))).tr (hF186.up (by decide))).tr (hF199.up (by decide))).tr (hF212.up (by decide))).tr (xFr.of (S := [82, 83, 112, 113]) hb229 (by decide))), ⟨fun h => by have := pk215.1 h; omega, (show fld w227 82 10 = 0 ∨ FA w227 ≠ 0 by omega), Or.inr ⟨by have := ms218; omega, by omega⟩, hD238⟩⟩
            · refine xg_t (xg_icT (u := f82_70) (v := 40) rfl xnm0 xnm0 (xj_neT hc107)) ?_
              refine xg_t (xg_blk (b := [(160, 1, 0, 0, 0, 0), (161, 3, 13, 198, 96, 418)]) rfl) ?_
              refine xg_t (xg_aload (va := (2, 82)) rfl rfl) ?_
              obtain ⟨f82_239, f82_241, f82_243, f82_245, f82_247, f82_249, f82_251, f82_253, f82_255, f82_257, f82_259, f82_260, f82_261, f82_263, f82_265, f82_267, h82_269, hb240, hb242, hb244, hb246, hb248, hb250, hb252, hb254, hb256, hb258, hb262, hb264, hb266, hb268, hb270⟩ := (hI94 82 (by decide) (by decide) : cp82 (wget w92 82))
              refine xg_cVi mX12_numberNow (vs := []) (rest := []) (cn1 := 0) (sl1 := 0) rfl (mNumberNow (hI94) pk103.2.2.2) rfl h82_269 rfl rfl rfl rfl rfl rfl (fun n275 w271 hq272 => ?_)
              obtain ⟨hn276, hI273, hF274⟩ := hq272
              obtain ⟨hn277, hn278⟩ := hn276
              have pk279 : PK w w271 := PK.tr pk103 hn278
              have ro280 : ∀ l, l < fld w 82 14 → l < 16 → rwv w271 112 (20 * l) = rwv w 112 (20 * l) := fun l hl h6 => (rwv_fr hF274 (by decide)).trans (ro104 l hl h6)
              have hq281 := pk279
              unfold PK PS at hq281
              clear hq105
              have ms282 : mu w271 < mu w := Nat.lt_of_le_of_lt hn278.2.1 ms106
              refine xg_t (xg_blk (b := [(164, 1, 15, 3, 0, 0), (165, 1, 0, 0, 0, 0), (166, 2, 4, 59, 0, 0), (168, 3, 13, 195, 96, 427), (171, 1, 0, 0, 0, 0), (172, 1, 3, 0, 0, 0), (173, 1, 2, 1, 0, 0), (174, 3, 13, 214, 96, 424), (177, 1, 0, 0, 0, 0), (178, 2, 4, 17, 0, 0), (180, 1, 2, 2, 0, 0), (181, 3, 13, 214, 96, 424), (184, 1, 0, 0, 0, 0), (185, 2, 4, 18, 0, 0), (187, 1, 2, 3, 0, 0), (188, 3, 13, 214, 96, 424), (191, 1, 0, 0, 0, 0), (192, 1, 19, 0, 0, 0), (193, 3, 1, 12, 14, 212), (196, 1, 3, 1, 0, 0), (197, 1, 11, 0, 0, 0), (198, 3, 14, 12, 14, 212), (201, 1, 12, 0, 0, 0)]) rfl) ?_
              refine xg_t (xg_istore (l1 := [(2, (0, f82_70)), (1, (0, 0)), (0, (2, 82))]) rfl rfl rfl) ?_
              refine xg_t (xg_aload (va := (2, 82)) rfl rfl) ?_
              refine xg_t (xg_bip) ?_
              obtain ⟨f82_283, f82_285, f82_287, f82_289, f82_291, f82_293, f82_295, f82_297, f82_299, f82_301, f82_303, f82_304, f82_305, f82_307, f82_309, f82_311, h82_313, hb284, hb286, hb288, hb290, hb292, hb294, hb296, hb298, hb300, hb302, hb306, hb308, hb310, hb312, hb314⟩ := (hI273 82 (by decide) (by decide) : cp82 (wget w271 82))
              refine xg_cVv mX12_must (vs := [(0, 59)]) (rest := []) (cn1 := 0) (sl1 := 0) rfl (mMust (hI273) (by omega) pk279.2.2.2) rfl h82_313 rfl rfl rfl rfl rfl rfl (fun w315 hq316 => ?_)
              obtain ⟨hI317, hF318, hx319⟩ := hq316
              have pk320 : PK w w315 := PK.tr pk279 hx319
              have ro321 : ∀ l, l < fld w 82 14 → l < 16 → rwv w315 112 (20 * l) = rwv w 112 (20 * l) := fun l hl h6 => (rwv_fr hF318 (by decide)).trans (ro280 l hl h6)
              have hq322 := pk320
              unfold PK PS at hq322
              clear hq281
              have ms323 : mu w315 < mu w := Nat.lt_of_le_of_lt hx319.2.1 ms282
              refine xg_t (xg_aload (va := (2, 82)) rfl rfl) ?_
              refine xg_t (xg_const) ?_
              refine xg_t (xg_iload (va := (0, 0)) rfl rfl) ?_
              have hl324 : fld w315 82 14 = fld w 82 14 := pk320.2.2.1
              have hl325 : fld w315 82 14 ≤ 2000 := by omega
              obtain ⟨f82_326, f82_328, f82_330, f82_332, f82_334, f82_336, f82_338, f82_340, f82_342, f82_344, f82_346, f82_347, f82_348, f82_350, f82_352, f82_354, h82_356, hb327, hb329, hb331, hb333, hb335, hb337, hb339, hb341, hb343, hb345, hb349, hb351, hb353, hb355, hb357⟩ := (hI317 82 (by decide) (by decide) : cp82 (wget w315 82))
              refine xg_cVv mX12_rulePuts (vs := [(0, 0), (0, 0)]) (rest := []) (cn1 := 0) (sl1 := 0) rfl (mRulePuts (hI317) (by omega) (by omega) (by omega)) rfl h82_356 rfl rfl rfl rfl rfl rfl (fun w358 hq359 => ?_)
              obtain ⟨hI360, hF361, hx362⟩ := hq359
              have hx363 := hx362
              have pk364 : PK w w358 := PK.tr pk320 (PK.fr hF361 (by decide) (by decide) pk320.2.2.2)
              have ro365 : ∀ l, l < fld w 82 14 → l < 16 → rwv w358 112 (20 * l) = rwv w 112 (20 * l) := fun l hl h6 => ((hx363 _ (by omega)).2 (by omega)).trans (ro321 l hl h6)
              have hq366 := pk364
              unfold PK PS at hq366
              clear hq322
              have ms367 : mu w358 < mu w := Nat.lt_of_le_of_lt (PK.fr hF361 (by decide) (by decide) pk320.2.2.2).2.1 ms323
              have rz368 : fld w 82 14 < 16 → rwv w358 112 (20 * fld w 82 14) = 0 := fun h6 => (hx363 _ (by omega)).1 ⟨by omega, by omega⟩
              refine xg_t (xg_aload (va := (2, 82)) rfl rfl) ?_
              refine xg_t (xg_bip) ?_
              refine xg_t (xg_iload (va := (0, f82_70)) rfl rfl) ?_
              have hl369 : fld w358 82 14 = fld w 82 14 := pk364.2.2.1
              have hl370 : fld w358 82 14 ≤ 2000 := by omega
              refine xg_cVv mX12_rulePuts (vs := [(0, 17), (0, f82_70)]) (rest := []) (cn1 := 0) (sl1 := 0) rfl (mRulePuts (hI360) (by omega) (by omega) (by omega)) rfl (hF361.get (by decide) h82_356) rfl rfl rfl rfl rfl rfl (fun w371 hq372 => ?_)
              obtain ⟨hI373, hF374, hx375⟩ := hq372
              have hx376 := hx375
              have pk377 : PK w w371 := PK.tr pk364 (PK.fr hF374 (by decide) (by decide) pk364.2.2.2)
              have ro378 : ∀ l, l < fld w 82 14 → l < 16 → rwv w371 112 (20 * l) = rwv w 112 (20 * l) := fun l hl h6 => ((hx376 _ (by omega)).2 (by omega)).trans (ro365 l hl h6)
              have hq379 := pk377
              unfold PK PS at hq379
              clear hq366
              have ms380 : mu w371 < mu w := Nat.lt_of_le_of_lt (PK.fr hF374 (by decide) (by decide) pk364.2.2.2).2.1 ms367
              have rz381 : fld w 82 14 < 16 → rwv w371 112 (20 * fld w 82 14) = 0 := fun h6 => ((hx376 _ (by omega)).2 (by omega)).trans (rz368 h6)
              refine xg_t (xg_aload (va := (2, 82)) rfl rfl) ?_
              refine xg_t (xg_bip) ?_
              refine xg_t (xg_iload (va := (0, n275)) rfl rfl) ?_
              have hl382 : fld w371 82 14 = fld w 82 14 := pk377.2.2.1
              have hl383 : fld w371 82 14 ≤ 2000 := by omega
              refine xg_cVv mX12_rulePuts (vs := [(0, 18), (0, n275)]) (rest := []) (cn1 := 0) (sl1 := 0) rfl (mRulePuts (hI373) (by omega) (by omega) (by omega)) rfl (hF374.get (by decide) (hF361.get (by decide) h82_356)) rfl rfl rfl rfl rfl rfl (fun w384 hq385 => ?_)
              obtain ⟨hI386, hF387, hx388⟩ := hq385
              have hx389 := hx388
              have pk390 : PK w w384 := PK.tr pk377 (PK.fr hF387 (by decide) (by decide) pk377.2.2.2)
              have ro391 : ∀ l, l < fld w 82 14 → l < 16 → rwv w384 112 (20 * l) = rwv w 112 (20 * l) := fun l hl h6 => ((hx389 _ (by omega)).2 (by omega)).trans (ro378 l hl h6)
              have hq392 := pk390
              unfold PK PS at hq392
              clear hq379
              have ms393 : mu w384 < mu w := Nat.lt_of_le_of_lt (PK.fr hF387 (by decide) (by decide) pk377.2.2.2).2.1 ms380
              have rz394 : fld w 82 14 < 16 → rwv w384 112 (20 * fld w 82 14) = 0 := fun h6 => ((hx389 _ (by omega)).2 (by omega)).trans (rz381 h6)
              have hf395 : fld w384 82 4 = f82_330 := fld_of (hF387.get (by decide) (hF374.get (by decide) (hF361.get (by decide) h82_356)))
              have hf396 : fld w384 82 5 = f82_332 := fld_of (hF387.get (by decide) (hF374.get (by decide) (hF361.get (by decide) h82_356)))
              have hf397 : fld w384 82 7 = f82_336 := fld_of (hF387.get (by decide) (hF374.get (by decide) (hF361.get (by decide) h82_356)))
              have hf398 : fld w384 82 10 = f82_342 := fld_of (hF387.get (by decide) (hF374.get (by decide) (hF361.get (by decide) h82_356)))
              have hf399 : fld w384 82 14 = f82_344 := fld_of (hF387.get (by decide) (hF374.get (by decide) (hF361.get (by decide) h82_356)))
              have hu400 : mu w384 = 2 * (fld w384 82 4 - fld w384 82 5) + min 1 (fld w384 82 7) := rfl
              have hl401 : f82_344 ≤ 1001 := by omega
              refine xg_t (xg_aload (va := (2, 82)) rfl rfl) ?_
              refine xg_t (xg_dup rfl) ?_
              refine xg_t (xg_getf (va := (0, f82_344)) (hF387.get (by decide) (hF374.get (by decide) (hF361.get (by decide) h82_356))) rfl) ?_
              refine xg_t (xg_const) ?_
              refine xg_t (xg_iadd (u := f82_344) (v := 1) (z := f82_344 + 1) xnm0 xnm0 (by omega)) ?_
              refine xg_putI (fl1 := [(2, 83), (2, 84), (0, f82_326), (0, f82_328), (0, f82_330), (0, f82_332), (0, f82_334), (0, f82_336), (0, f82_338), (0, f82_340), (0, f82_342), (2, 85), (2, 86), (2, 87), (0, f82_344 + 1), (2, 88), (2, 89), (2, 90), (2, 91), (2, 92), (2, 93), (2, 94), (4, f82_346), (4, f82_347), (0, f82_348), (2, 95), (2, 96), (2, 97), (2, 98), (2, 99), (2, 100), (2, 101), (2, 102), (0, f82_350), (2, 103), (2, 104), (2, 105), (2, 106), (2, 107), (2, 108), (2, 109), (0, f82_352), (0, f82_354), (2, 110), (2, 111), (2, 112), (2, 113)]) (hF387.get (by decide) (hF374.get (by decide) (hF361.get (by decide) h82_356))) rfl rfl rfl (fun w402 hk403 hb404 => ?_)
              have hF405 : xFr [82] w384 w402 := xFr.of hb404 (by decide)
              have hA406 := FA_fr hF405 (by decide)
              have hf407 : fld w402 82 4 = f82_330 := fld_of hk403
              have hf408 : fld w402 82 5 = f82_332 := fld_of hk403
              have hf409 : fld w402 82 7 = f82_336 := fld_of hk403
              have hf410 : fld w402 82 10 = f82_342 := fld_of hk403
              have hf411 : fld w402 82 14 = f82_344 + 1 := fld_of hk403
              have hu412 : mu w402 = 2 * (fld w402 82 4 - fld w402 82 5) + min 1 (fld w402 82 7) := rfl
              have hD413 : FA w402 ≠ 0 ∨ (RD w → RD w402) := by
                by_cases z : FA w402 ≠ 0
                · exact Or.inl z
                · refine Or.inr (fun hd => ⟨by omega, fun l hl => ?_⟩)
                  rw [rwv_fr hF405 (by decide)]
                  by_cases y : l = fld w 82 14
                  · rw [y, rz394 (by omega)]; omega
                  · rw [ro391 l (by omega) (by have := hd.1; omega)]; exact hd.2 l (by omega)
              exact xg_e ⟨w402, ⟨rfl, rfl⟩, xMnv.up (S := [82]) hI386 (xFr.of (S := [82]) hb404 (by decide)) (List.forall_mem_cons.mpr ⟨(show cp82 (wget w402 82) from ⟨f82_326, f82_328, f82_330, f82_332, f82_334, f82_336, f82_338, f82_340, f82_342, f82_344 + 1, f82_346, f82_347, f82_348, f82_350, f82_352, f82_354, hk403, by omega, by omega, by omega, by omega, by omega, by omega, by omega, by omega, by omega, by omega, by omega, by omega, by omega, by omega, by omega⟩), fun _ h => absurd h List.not_mem_nil⟩), ((((((((hF46.up (by decide)).tr (hF95.up (by decide))).tr (hF274.up (by decide))).tr (hF318.up (by decide))).tr (hF361.up (by decide))).tr (hF374.up (by decide))).tr (hF387.up (by decide))).tr (xFr.of (S := [82, 83, 112, 113]) hb404 (by decide))), ⟨fun h => by have := pk390.1 h; omega, (show fld w402 82 10 = 0 ∨ FA w402 ≠ 0 by omega), Or.inr ⟨by have := ms393; omega, by omega⟩, hD413⟩⟩
          · refine xg_t (xg_ifF (u := (if 40 ≤ f82_70 ∧ f82_70 ≤ 42 then 1 else 0)) rfl xnm0 (xj_neF (xite0 hc90))) ?_
            refine xg_t (xg_blk (b := [(136, 1, 0, 0, 0, 0), (137, 3, 13, 140, 96, 183), (140, 1, 12, 0, 0, 0)]) rfl) ?_
            refine xg_t (xg_aload (va := (2, 82)) rfl rfl) ?_
            refine xg_cVv mX12_ends (vs := []) (rest := []) (cn1 := 0) (sl1 := 0) rfl (mEnds (hI45) pk52.2.2.2) rfl h82_86 rfl rfl rfl rfl rfl rfl (fun w414 hq415 => ?_)
            obtain ⟨hI416, hF417, hx418⟩ := hq415
            obtain ⟨hv419, hv420, hv421, hv422⟩ := hx418
            have pk423 : PK w43 w414 := ⟨fun _ => hv419, by omega, by omega, Or.inr hv419⟩
            have pk424 : PK w w414 := PK.tr pk52 pk423
            have ro425 : ∀ l, l < fld w 82 14 → l < 16 → rwv w414 112 (20 * l) = rwv w 112 (20 * l) := fun l hl h6 => (rwv_fr hF417 (by decide)).trans (ro53 l hl h6)
            have hq426 := pk424
            unfold PK PS at hq426
            clear hq54
            obtain ⟨f82_427, f82_429, f82_431, f82_433, f82_435, f82_437, f82_439, f82_441, f82_443, f82_445, f82_447, f82_448, f82_449, f82_451, f82_453, f82_455, h82_457, hb428, hb430, hb432, hb434, hb436, hb438, hb440, hb442, hb444, hb446, hb450, hb452, hb454, hb456, hb458⟩ := (hI416 82 (by decide) (by decide) : cp82 (wget w414 82))
            exact xg_e ⟨w414, ⟨rfl, rfl⟩, hI416, ((hF46.up (by decide)).tr (hF417.up (by decide))), ⟨pk424.1, pk424.2.2.2, Or.inl ⟨by omega, pk424.2.1, pk424.2.2.1⟩, Or.inl (by omega)⟩⟩
        · refine xg_t (xg_icT (u := f82_66) (v := 3) rfl xnm0 xnm0 (xj_neT hc89)) ?_
          refine xg_t (xg_blk (b := [(136, 1, 0, 0, 0, 0), (137, 3, 13, 140, 96, 183), (140, 1, 12, 0, 0, 0)]) rfl) ?_
          refine xg_t (xg_aload (va := (2, 82)) rfl rfl) ?_
          refine xg_cVv mX12_ends (vs := []) (rest := []) (cn1 := 0) (sl1 := 0) rfl (mEnds (hI45) pk52.2.2.2) rfl h82_86 rfl rfl rfl rfl rfl rfl (fun w459 hq460 => ?_)
          obtain ⟨hI461, hF462, hx463⟩ := hq460
          obtain ⟨hv464, hv465, hv466, hv467⟩ := hx463
          have pk468 : PK w43 w459 := ⟨fun _ => hv464, by omega, by omega, Or.inr hv464⟩
          have pk469 : PK w w459 := PK.tr pk52 pk468
          have ro470 : ∀ l, l < fld w 82 14 → l < 16 → rwv w459 112 (20 * l) = rwv w 112 (20 * l) := fun l hl h6 => (rwv_fr hF462 (by decide)).trans (ro53 l hl h6)
          have hq471 := pk469
          unfold PK PS at hq471
          clear hq54
          obtain ⟨f82_472, f82_474, f82_476, f82_478, f82_480, f82_482, f82_484, f82_486, f82_488, f82_490, f82_492, f82_493, f82_494, f82_496, f82_498, f82_500, h82_502, hb473, hb475, hb477, hb479, hb481, hb483, hb485, hb487, hb489, hb491, hb495, hb497, hb499, hb501, hb503⟩ := (hI461 82 (by decide) (by decide) : cp82 (wget w459 82))
          exact xg_e ⟨w459, ⟨rfl, rfl⟩, hI461, ((hF46.up (by decide)).tr (hF462.up (by decide))), ⟨pk469.1, pk469.2.2.2, Or.inl ⟨by omega, pk469.2.1, pk469.2.2.1⟩, Or.inl (by omega)⟩⟩
      · refine xg_t (xg_ifT (u := f82_72) rfl xnm0 (xj_neT hc88)) ?_
        refine xg_t (xg_blk (b := [(136, 1, 0, 0, 0, 0), (137, 3, 13, 140, 96, 183), (140, 1, 12, 0, 0, 0)]) rfl) ?_
        refine xg_t (xg_aload (va := (2, 82)) rfl rfl) ?_
        refine xg_cVv mX12_ends (vs := []) (rest := []) (cn1 := 0) (sl1 := 0) rfl (mEnds (hI45) pk52.2.2.2) rfl h82_86 rfl rfl rfl rfl rfl rfl (fun w504 hq505 => ?_)
        obtain ⟨hI506, hF507, hx508⟩ := hq505
        obtain ⟨hv509, hv510, hv511, hv512⟩ := hx508
        have pk513 : PK w43 w504 := ⟨fun _ => hv509, by omega, by omega, Or.inr hv509⟩
        have pk514 : PK w w504 := PK.tr pk52 pk513
        have ro515 : ∀ l, l < fld w 82 14 → l < 16 → rwv w504 112 (20 * l) = rwv w 112 (20 * l) := fun l hl h6 => (rwv_fr hF507 (by decide)).trans (ro53 l hl h6)
        have hq516 := pk514
        unfold PK PS at hq516
        clear hq54
        obtain ⟨f82_517, f82_519, f82_521, f82_523, f82_525, f82_527, f82_529, f82_531, f82_533, f82_535, f82_537, f82_538, f82_539, f82_541, f82_543, f82_545, h82_547, hb518, hb520, hb522, hb524, hb526, hb528, hb530, hb532, hb534, hb536, hb540, hb542, hb544, hb546, hb548⟩ := (hI506 82 (by decide) (by decide) : cp82 (wget w504 82))
        exact xg_e ⟨w504, ⟨rfl, rfl⟩, hI506, ((hF46.up (by decide)).tr (hF507.up (by decide))), ⟨pk514.1, pk514.2.2.2, Or.inl ⟨by omega, pk514.2.1, pk514.2.2.1⟩, Or.inl (by omega)⟩⟩
    · have ms549 : mu w43 < mu w := Nat.lt_of_lt_of_le (hn51 (by omega)) (PK.rf hps).2.1
      refine xg_t (xg_ifF (u := n47) rfl xnm0 (xj_eqF hc55)) ?_
      refine xg_t (xg_const) ?_
      refine xg_t (xg_istore (l1 := [(1, (0, 0)), (0, (2, 82))]) rfl rfl rfl) ?_
      refine xg_t (xg_drop (l1 := [(0, (2, 82)), (1, (0, 0)), (2, (0, 1))]) (List.forall_mem_cons.mpr ⟨List.mem_cons_of_mem _ (List.mem_cons_of_mem _ (List.mem_cons_self)), List.forall_mem_cons.mpr ⟨List.mem_cons_of_mem _ (List.mem_cons_self), List.forall_mem_cons.mpr ⟨List.mem_cons_self, fun _ h => absurd h List.not_mem_nil⟩⟩⟩)) ?_
      have key550 : ∀ (m552 : Nat) (kr mo : Nat) (w553 : List (List xE)), 2 * mu w553 + mo < m552 → kr ≤ 1002 → mo ≤ 1 → xMnv w553 → xFr [82, 83, 112, 113] w w553 → (PK w w553 ∧ (∀ l, l < fld w 82 14 → l < 16 → rwv w553 112 (20 * l) = rwv w 112 (20 * l)) ∧ mu w553 < mu w ∧ (FA w553 ≠ 0 ∨ kr ≤ 4) ∧ kr + mu w553 ≤ 1002 ∧ (mo = 1 → kr + mu w553 ≤ 1001) ∧ (16 ≤ fld w 82 14 → FA w553 ≠ 0)) → xTo (d + 7) mX12_aRule (31, [], [(0, (2, 82)), (1, (0, kr)), (2, (0, mo))], [], (w553, bd, fc, 0, 0, rr)) (fun φ => ∃ w', xEnd 0 [] (w', bd, fc, 0, 0, rr) φ ∧ xMnv w' ∧ xFr [82, 83, 112, 113] w w' ∧ ((FA w ≠ 0 → FA w' ≠ 0) ∧ PS w' ∧ ((fld w' 82 10 = 1 ∧ mu w' ≤ mu w ∧ fld w' 82 14 = fld w 82 14) ∨ (mu w' < mu w ∧ fld w' 82 14 = fld w 82 14 + 1)) ∧ (FA w' ≠ 0 ∨ (RD w → RD w')))) := by
        intro m552
        induction m552 with
        | zero => intro kr mo w553 hz; exact absurd hz (Nat.not_lt_zero _)
        | succ m552 ih551 =>
          intro kr mo w553 hm559 hn556 hn557 hI554 hF555 he558
          obtain ⟨hz560, hz561, hz562, hz563, hz564, hz565, hz566⟩ := he558
          have hq567 := hz560
          unfold PK PS at hq567
          obtain ⟨f82_568, f82_570, f82_572, f82_574, f82_576, f82_578, f82_580, f82_582, f82_584, f82_586, f82_588, f82_589, f82_590, f82_592, f82_594, f82_596, h82_598, hb569, hb571, hb573, hb575, hb577, hb579, hb581, hb583, hb585, hb587, hb591, hb593, hb595, hb597, hb599⟩ := (hI554 82 (by decide) (by decide) : cp82 (wget w553 82))
          refine xg_t (xg_blk (b := [(31, 1, 2, 2, 0, 0), (32, 3, 7, 101, 0, 0), (35, 1, 2, 1, 0, 0), (36, 1, 3, 3, 0, 0), (37, 3, 6, 49, 5, 0), (40, 1, 0, 0, 0, 0), (41, 1, 3, 3, 0, 0), (42, 1, 0, 0, 0, 0), (43, 3, 1, 12, 6, 148), (46, 3, 13, 115, 96, 186)]) rfl) ?_
          refine xg_t (xg_iload (va := (0, mo)) rfl rfl) ?_
          by_cases hc600 : mo = 0
          · refine xg_t (xg_ifT (u := mo) rfl xnm0 (xj_eqT hc600)) ?_
            refine xg_t (xg_blk (b := [(101, 1, 0, 0, 0, 0), (102, 2, 4, 58, 0, 0), (104, 3, 13, 195, 96, 427)]) rfl) ?_
            refine xg_t (xg_aload (va := (2, 82)) rfl rfl) ?_
            refine xg_t (xg_bip) ?_
            refine xg_cVv mX12_must (vs := [(0, 58)]) (rest := []) (cn1 := 0) (sl1 := 0) rfl (mMust (hI554) (by omega) hz560.2.2.2) rfl h82_598 rfl rfl rfl rfl rfl rfl (fun w601 hq602 => ?_)
            obtain ⟨hI603, hF604, hx605⟩ := hq602
            have pk606 : PK w w601 := PK.tr hz560 hx605
            have ro607 : ∀ l, l < fld w 82 14 → l < 16 → rwv w601 112 (20 * l) = rwv w 112 (20 * l) := fun l hl h6 => (rwv_fr hF604 (by decide)).trans (hz561 l hl h6)
            have hq608 := pk606
            unfold PK PS at hq608
            clear hq567
            have pj609 : PK w553 w601 := PK.tr (PK.rf hz560.2.2.2) hx605
            have hq610 := pj609
            unfold PK PS at hq610
            have ms611 : mu w601 < mu w := Nat.lt_of_le_of_lt hx605.2.1 hz562
            refine xg_t (xg_blk (b := [(107, 1, 0, 0, 0, 0), (108, 3, 1, 12, 10, 180), (111, 3, 7, 136, 1, 0), (114, 1, 0, 0, 0, 0), (115, 3, 1, 12, 7, 151), (118, 1, 3, 3, 0, 0), (119, 3, 6, 136, 1, 0), (122, 1, 0, 0, 0, 0), (123, 3, 1, 12, 9, 165), (126, 2, 4, 40, 0, 0), (128, 2, 4, 42, 0, 0), (130, 3, 13, 161, 98, 105), (133, 3, 7, 141, 1, 0)]) rfl) ?_
            refine xg_t (xg_aload (va := (2, 82)) rfl rfl) ?_
            obtain ⟨f82_612, f82_614, f82_616, f82_618, f82_620, f82_622, f82_624, f82_626, f82_628, f82_630, f82_632, f82_633, f82_634, f82_636, f82_638, f82_640, h82_642, hb613, hb615, hb617, hb619, hb621, hb623, hb625, hb627, hb629, hb631, hb635, hb637, hb639, hb641, hb643⟩ := (hI603 82 (by decide) (by decide) : cp82 (wget w601 82))
            refine xg_t (xg_getf (va := (0, f82_628)) h82_642 rfl) ?_
            by_cases hc644 : f82_628 = 0
            · refine xg_t (xg_ifF (u := f82_628) rfl xnm0 (xj_neF hc644)) ?_
              refine xg_t (xg_aload (va := (2, 82)) rfl rfl) ?_
              refine xg_t (xg_getf (va := (0, f82_622)) h82_642 rfl) ?_
              refine xg_t (xg_const) ?_
              by_cases hc645 : f82_622 = 3
              · refine xg_t (xg_icF (u := f82_622) (v := 3) rfl xnm0 xnm0 (xj_neF hc645)) ?_
                refine xg_t (xg_aload (va := (2, 82)) rfl rfl) ?_
                refine xg_t (xg_getf (va := (0, f82_626)) h82_642 rfl) ?_
                refine xg_t (xg_bip) ?_
                refine xg_t (xg_bip) ?_
                refine xg_t (xg_cSr mX12_isIn (vs := [(0, f82_626), (0, 40), (0, 42)]) (rest := []) (rs := [(0, if 40 ≤ f82_626 ∧ f82_626 ≤ 42 then 1 else 0)]) (cn1 := 0) (sl1 := 0) rfl (mIsIn (by omega) (by omega) (by omega)) rfl rfl rfl rfl rfl rfl rfl rfl) ?_
                by_cases hc646 : 40 ≤ f82_626 ∧ f82_626 ≤ 42
                · refine xg_t (xg_ifT (u := (if 40 ≤ f82_626 ∧ f82_626 ≤ 42 then 1 else 0)) rfl xnm0 (xj_neT (xite1 hc646))) ?_
                  refine xg_t (xg_blk (b := [(141, 1, 0, 0, 0, 0), (142, 3, 1, 12, 9, 165), (145, 1, 15, 2, 0, 0), (146, 1, 0, 0, 0, 0), (147, 3, 13, 110, 96, 190), (150, 1, 2, 2, 0, 0), (151, 2, 4, 40, 0, 0), (153, 3, 6, 160, 1, 0), (156, 1, 3, 0, 0, 0), (157, 3, 8, 164, 0, 0)]) rfl) ?_
                  refine xg_t (xg_aload (va := (2, 82)) rfl rfl) ?_
                  refine xg_t (xg_getf (va := (0, f82_626)) h82_642 rfl) ?_
                  refine xg_t (xg_istore (l1 := [(0, (2, 82)), (1, (0, kr))]) rfl rfl rfl) ?_
                  refine xg_t (xg_aload (va := (2, 82)) rfl rfl) ?_
                  have hf647 : fld w601 82 7 = f82_622 := fld_of h82_642
                  refine xg_cVv mX12_advance (vs := []) (rest := []) (cn1 := 0) (sl1 := 0) rfl (mAdvance (hI603)) rfl h82_642 rfl rfl rfl rfl rfl rfl (fun w648 hq649 => ?_)
                  obtain ⟨hI650, hF651, hx652⟩ := hq649
                  obtain ⟨hv653, hv654, hv655, hv656⟩ := hx652
                  have hf657 := FA_fr hF651 (by decide)
                  have pk658 : PK w601 w648 := ⟨fun _ => by omega, hv653, hv656, (show fld w648 82 10 = 0 ∨ FA w648 ≠ 0 by omega)⟩
                  have pk659 : PK w w648 := PK.tr pk606 pk658
                  have ro660 : ∀ l, l < fld w 82 14 → l < 16 → rwv w648 112 (20 * l) = rwv w 112 (20 * l) := fun l hl h6 => (rwv_fr hF651 (by decide)).trans (ro607 l hl h6)
                  have hq661 := pk659
                  unfold PK PS at hq661
                  clear hq608
                  have pj662 : PK w553 w648 := PK.tr pj609 pk658
                  have hq663 := pj662
                  unfold PK PS at hq663
                  clear hq610
                  have ms664 : mu w648 < mu w := Nat.lt_of_le_of_lt pk658.2.1 ms611
                  refine xg_t (xg_iload (va := (0, f82_626)) rfl rfl) ?_
                  refine xg_t (xg_bip) ?_
                  by_cases hc665 : f82_626 = 40
                  · refine xg_t (xg_icF (u := f82_626) (v := 40) rfl xnm0 xnm0 (xj_neF hc665)) ?_
                    refine xg_t (xg_const) ?_
                    refine xg_t (xg_goto) ?_
                    refine xg_t (xg_blk (b := [(164, 1, 15, 3, 0, 0), (165, 1, 0, 0, 0, 0), (166, 2, 4, 59, 0, 0), (168, 3, 13, 195, 96, 427), (171, 1, 0, 0, 0, 0), (172, 1, 3, 0, 0, 0), (173, 1, 2, 1, 0, 0), (174, 3, 13, 214, 96, 424), (177, 1, 0, 0, 0, 0), (178, 2, 4, 17, 0, 0), (180, 1, 2, 2, 0, 0), (181, 3, 13, 214, 96, 424), (184, 1, 0, 0, 0, 0), (185, 2, 4, 18, 0, 0), (187, 1, 2, 3, 0, 0), (188, 3, 13, 214, 96, 424), (191, 1, 0, 0, 0, 0), (192, 1, 19, 0, 0, 0), (193, 3, 1, 12, 14, 212), (196, 1, 3, 1, 0, 0), (197, 1, 11, 0, 0, 0), (198, 3, 14, 12, 14, 212), (201, 1, 12, 0, 0, 0)]) rfl) ?_
                    refine xg_t (xg_istore (l1 := [(2, (0, f82_626)), (0, (2, 82)), (1, (0, kr))]) rfl rfl rfl) ?_
                    refine xg_t (xg_aload (va := (2, 82)) rfl rfl) ?_
                    refine xg_t (xg_bip) ?_
                    obtain ⟨f82_666, f82_668, f82_670, f82_672, f82_674, f82_676, f82_678, f82_680, f82_682, f82_684, f82_686, f82_687, f82_688, f82_690, f82_692, f82_694, h82_696, hb667, hb669, hb671, hb673, hb675, hb677, hb679, hb681, hb683, hb685, hb689, hb691, hb693, hb695, hb697⟩ := (hI650 82 (by decide) (by decide) : cp82 (wget w648 82))
                    refine xg_cVv mX12_must (vs := [(0, 59)]) (rest := []) (cn1 := 0) (sl1 := 0) rfl (mMust (hI650) (by omega) pk659.2.2.2) rfl h82_696 rfl rfl rfl rfl rfl rfl (fun w698 hq699 => ?_)
                    obtain ⟨hI700, hF701, hx702⟩ := hq699
                    have pk703 : PK w w698 := PK.tr pk659 hx702
                    have ro704 : ∀ l, l < fld w 82 14 → l < 16 → rwv w698 112 (20 * l) = rwv w 112 (20 * l) := fun l hl h6 => (rwv_fr hF701 (by decide)).trans (ro660 l hl h6)
                    have hq705 := pk703
                    unfold PK PS at hq705
                    clear hq661
                    have pj706 : PK w553 w698 := PK.tr pj662 hx702
                    have hq707 := pj706
                    unfold PK PS at hq707
                    clear hq663
                    have ms708 : mu w698 < mu w := Nat.lt_of_le_of_lt hx702.2.1 ms664
                    refine xg_t (xg_aload (va := (2, 82)) rfl rfl) ?_
                    refine xg_t (xg_const) ?_
                    refine xg_t (xg_iload (va := (0, kr)) rfl rfl) ?_
                    have hl709 : fld w698 82 14 = fld w 82 14 := pk703.2.2.1
                    have hl710 : fld w698 82 14 ≤ 2000 := by omega
                    obtain ⟨f82_711, f82_713, f82_715, f82_717, f82_719, f82_721, f82_723, f82_725, f82_727, f82_729, f82_731, f82_732, f82_733, f82_735, f82_737, f82_739, h82_741, hb712, hb714, hb716, hb718, hb720, hb722, hb724, hb726, hb728, hb730, hb734, hb736, hb738, hb740, hb742⟩ := (hI700 82 (by decide) (by decide) : cp82 (wget w698 82))
                    refine xg_cVv mX12_rulePuts (vs := [(0, 0), (0, kr)]) (rest := []) (cn1 := 0) (sl1 := 0) rfl (mRulePuts (hI700) (by omega) (by omega) (by omega)) rfl h82_741 rfl rfl rfl rfl rfl rfl (fun w743 hq744 => ?_)
                    obtain ⟨hI745, hF746, hx747⟩ := hq744
                    have hx748 := hx747
                    have pk749 : PK w w743 := PK.tr pk703 (PK.fr hF746 (by decide) (by decide) pk703.2.2.2)
                    have ro750 : ∀ l, l < fld w 82 14 → l < 16 → rwv w743 112 (20 * l) = rwv w 112 (20 * l) := fun l hl h6 => ((hx748 _ (by omega)).2 (by omega)).trans (ro704 l hl h6)
                    have hq751 := pk749
                    unfold PK PS at hq751
                    clear hq705
                    have pj752 : PK w553 w743 := PK.tr pj706 (PK.fr hF746 (by decide) (by decide) pk703.2.2.2)
                    have hq753 := pj752
                    unfold PK PS at hq753
                    clear hq707
                    have ms754 : mu w743 < mu w := Nat.lt_of_le_of_lt (PK.fr hF746 (by decide) (by decide) pk703.2.2.2).2.1 ms708
                    have rz755 : fld w 82 14 < 16 → rwv w743 112 (20 * fld w 82 14) = kr := fun h6 => (hx748 _ (by omega)).1 ⟨by omega, by omega⟩
                    refine xg_t (xg_aload (va := (2, 82)) rfl rfl) ?_
                    refine xg_t (xg_bip) ?_
                    refine xg_t (xg_iload (va := (0, f82_626)) rfl rfl) ?_
                    have hl756 : fld w743 82 14 = fld w 82 14 := pk749.2.2.1
                    have hl757 : fld w743 82 14 ≤ 2000 := by omega
                    refine xg_cVv mX12_rulePuts (vs := [(0, 17), (0, f82_626)]) (rest := []) (cn1 := 0) (sl1 := 0) rfl (mRulePuts (hI745) (by omega) (by omega) (by omega)) rfl (hF746.get (by decide) h82_741) rfl rfl rfl rfl rfl rfl (fun w758 hq759 => ?_)
                    obtain ⟨hI760, hF761, hx762⟩ := hq759
                    have hx763 := hx762
                    have pk764 : PK w w758 := PK.tr pk749 (PK.fr hF761 (by decide) (by decide) pk749.2.2.2)
                    have ro765 : ∀ l, l < fld w 82 14 → l < 16 → rwv w758 112 (20 * l) = rwv w 112 (20 * l) := fun l hl h6 => ((hx763 _ (by omega)).2 (by omega)).trans (ro750 l hl h6)
                    have hq766 := pk764
                    unfold PK PS at hq766
                    clear hq751
                    have pj767 : PK w553 w758 := PK.tr pj752 (PK.fr hF761 (by decide) (by decide) pk749.2.2.2)
                    have hq768 := pj767
                    unfold PK PS at hq768
                    clear hq753
                    have ms769 : mu w758 < mu w := Nat.lt_of_le_of_lt (PK.fr hF761 (by decide) (by decide) pk749.2.2.2).2.1 ms754
                    have rz770 : fld w 82 14 < 16 → rwv w758 112 (20 * fld w 82 14) = kr := fun h6 => ((hx763 _ (by omega)).2 (by omega)).trans (rz755 h6)
                    refine xg_t (xg_aload (va := (2, 82)) rfl rfl) ?_
                    refine xg_t (xg_bip) ?_
                    refine xg_t (xg_iload (va := (0, 0)) rfl rfl) ?_
                    have hl771 : fld w758 82 14 = fld w 82 14 := pk764.2.2.1
                    have hl772 : fld w758 82 14 ≤ 2000 := by omega
                    refine xg_cVv mX12_rulePuts (vs := [(0, 18), (0, 0)]) (rest := []) (cn1 := 0) (sl1 := 0) rfl (mRulePuts (hI760) (by omega) (by omega) (by omega)) rfl (hF761.get (by decide) (hF746.get (by decide) h82_741)) rfl rfl rfl rfl rfl rfl (fun w773 hq774 => ?_)
                    obtain ⟨hI775, hF776, hx777⟩ := hq774
                    have hx778 := hx777
                    have pk779 : PK w w773 := PK.tr pk764 (PK.fr hF776 (by decide) (by decide) pk764.2.2.2)
                    have ro780 : ∀ l, l < fld w 82 14 → l < 16 → rwv w773 112 (20 * l) = rwv w 112 (20 * l) := fun l hl h6 => ((hx778 _ (by omega)).2 (by omega)).trans (ro765 l hl h6)
                    have hq781 := pk779
                    unfold PK PS at hq781
                    clear hq766
                    have pj782 : PK w553 w773 := PK.tr pj767 (PK.fr hF776 (by decide) (by decide) pk764.2.2.2)
                    have hq783 := pj782
                    unfold PK PS at hq783
                    clear hq768
                    have ms784 : mu w773 < mu w := Nat.lt_of_le_of_lt (PK.fr hF776 (by decide) (by decide) pk764.2.2.2).2.1 ms769
                    have rz785 : fld w 82 14 < 16 → rwv w773 112 (20 * fld w 82 14) = kr := fun h6 => ((hx778 _ (by omega)).2 (by omega)).trans (rz770 h6)
                    have hf786 : fld w773 82 4 = f82_715 := fld_of (hF776.get (by decide) (hF761.get (by decide) (hF746.get (by decide) h82_741)))
                    have hf787 : fld w773 82 5 = f82_717 := fld_of (hF776.get (by decide) (hF761.get (by decide) (hF746.get (by decide) h82_741)))
                    have hf788 : fld w773 82 7 = f82_721 := fld_of (hF776.get (by decide) (hF761.get (by decide) (hF746.get (by decide) h82_741)))
                    have hf789 : fld w773 82 10 = f82_727 := fld_of (hF776.get (by decide) (hF761.get (by decide) (hF746.get (by decide) h82_741)))
                    have hf790 : fld w773 82 14 = f82_729 := fld_of (hF776.get (by decide) (hF761.get (by decide) (hF746.get (by decide) h82_741)))
                    have hu791 : mu w773 = 2 * (fld w773 82 4 - fld w773 82 5) + min 1 (fld w773 82 7) := rfl
                    have hl792 : f82_729 ≤ 1001 := by omega
                    refine xg_t (xg_aload (va := (2, 82)) rfl rfl) ?_
                    refine xg_t (xg_dup rfl) ?_
                    refine xg_t (xg_getf (va := (0, f82_729)) (hF776.get (by decide) (hF761.get (by decide) (hF746.get (by decide) h82_741))) rfl) ?_
                    refine xg_t (xg_const) ?_
                    refine xg_t (xg_iadd (u := f82_729) (v := 1) (z := f82_729 + 1) xnm0 xnm0 (by omega)) ?_
                    refine xg_putI (fl1 := [(2, 83), (2, 84), (0, f82_711), (0, f82_713), (0, f82_715), (0, f82_717), (0, f82_719), (0, f82_721), (0, f82_723), (0, f82_725), (0, f82_727), (2, 85), (2, 86), (2, 87), (0, f82_729 + 1), (2, 88), (2, 89), (2, 90), (2, 91), (2, 92), (2, 93), (2, 94), (4, f82_731), (4, f82_732), (0, f82_733), (2, 95), (2, 96), (2, 97), (2, 98), (2, 99), (2, 100), (2, 101), (2, 102), (0, f82_735), (2, 103), (2, 104), (2, 105), (2, 106), (2, 107), (2, 108), (2, 109), (0, f82_737), (0, f82_739), (2, 110), (2, 111), (2, 112), (2, 113)]) (hF776.get (by decide) (hF761.get (by decide) (hF746.get (by decide) h82_741))) rfl rfl rfl (fun w793 hk794 hb795 => ?_)
                    have hF796 : xFr [82] w773 w793 := xFr.of hb795 (by decide)
                    have hA797 := FA_fr hF796 (by decide)
                    have hf798 : fld w793 82 4 = f82_715 := fld_of hk794
                    have hf799 : fld w793 82 5 = f82_717 := fld_of hk794
                    have hf800 : fld w793 82 7 = f82_721 := fld_of hk794
                    have hf801 : fld w793 82 10 = f82_727 := fld_of hk794
                    have hf802 : fld w793 82 14 = f82_729 + 1 := fld_of hk794
                    have hu803 : mu w793 = 2 * (fld w793 82 4 - fld w793 82 5) + min 1 (fld w793 82 7) := rfl
                    have hD804 : FA w793 ≠ 0 ∨ (RD w → RD w793) := by
                      by_cases z : FA w793 ≠ 0
                      · exact Or.inl z
                      · refine Or.inr (fun hd => ⟨by omega, fun l hl => ?_⟩)
                        rw [rwv_fr hF796 (by decide)]
                        by_cases y : l = fld w 82 14
                        · rw [y, rz785 (by omega)]; omega
                        · rw [ro780 l (by omega) (by have := hd.1; omega)]; exact hd.2 l (by omega)
                    exact xg_e ⟨w793, ⟨rfl, rfl⟩, xMnv.up (S := [82]) hI775 (xFr.of (S := [82]) hb795 (by decide)) (List.forall_mem_cons.mpr ⟨(show cp82 (wget w793 82) from ⟨f82_711, f82_713, f82_715, f82_717, f82_719, f82_721, f82_723, f82_725, f82_727, f82_729 + 1, f82_731, f82_732, f82_733, f82_735, f82_737, f82_739, hk794, by omega, by omega, by omega, by omega, by omega, by omega, by omega, by omega, by omega, by omega, by omega, by omega, by omega, by omega, by omega⟩), fun _ h => absurd h List.not_mem_nil⟩), (((((((hF555.tr (hF604.up (by decide))).tr (hF651.up (by decide))).tr (hF701.up (by decide))).tr (hF746.up (by decide))).tr (hF761.up (by decide))).tr (hF776.up (by decide))).tr (xFr.of (S := [82, 83, 112, 113]) hb795 (by decide))), ⟨fun h => by have := pk779.1 h; omega, (show fld w793 82 10 = 0 ∨ FA w793 ≠ 0 by omega), Or.inr ⟨by have := ms784; omega, by omega⟩, hD804⟩⟩
                  · refine xg_t (xg_icT (u := f82_626) (v := 40) rfl xnm0 xnm0 (xj_neT hc665)) ?_
                    refine xg_t (xg_blk (b := [(160, 1, 0, 0, 0, 0), (161, 3, 13, 198, 96, 418)]) rfl) ?_
                    refine xg_t (xg_aload (va := (2, 82)) rfl rfl) ?_
                    obtain ⟨f82_805, f82_807, f82_809, f82_811, f82_813, f82_815, f82_817, f82_819, f82_821, f82_823, f82_825, f82_826, f82_827, f82_829, f82_831, f82_833, h82_835, hb806, hb808, hb810, hb812, hb814, hb816, hb818, hb820, hb822, hb824, hb828, hb830, hb832, hb834, hb836⟩ := (hI650 82 (by decide) (by decide) : cp82 (wget w648 82))
                    refine xg_cVi mX12_numberNow (vs := []) (rest := []) (cn1 := 0) (sl1 := 0) rfl (mNumberNow (hI650) pk659.2.2.2) rfl h82_835 rfl rfl rfl rfl rfl rfl (fun n841 w837 hq838 => ?_)
                    obtain ⟨hn842, hI839, hF840⟩ := hq838
                    obtain ⟨hn843, hn844⟩ := hn842
                    have pk845 : PK w w837 := PK.tr pk659 hn844
                    have ro846 : ∀ l, l < fld w 82 14 → l < 16 → rwv w837 112 (20 * l) = rwv w 112 (20 * l) := fun l hl h6 => (rwv_fr hF840 (by decide)).trans (ro660 l hl h6)
                    have hq847 := pk845
                    unfold PK PS at hq847
                    clear hq661
                    have pj848 : PK w553 w837 := PK.tr pj662 hn844
                    have hq849 := pj848
                    unfold PK PS at hq849
                    clear hq663
                    have ms850 : mu w837 < mu w := Nat.lt_of_le_of_lt hn844.2.1 ms664
                    refine xg_t (xg_blk (b := [(164, 1, 15, 3, 0, 0), (165, 1, 0, 0, 0, 0), (166, 2, 4, 59, 0, 0), (168, 3, 13, 195, 96, 427), (171, 1, 0, 0, 0, 0), (172, 1, 3, 0, 0, 0), (173, 1, 2, 1, 0, 0), (174, 3, 13, 214, 96, 424), (177, 1, 0, 0, 0, 0), (178, 2, 4, 17, 0, 0), (180, 1, 2, 2, 0, 0), (181, 3, 13, 214, 96, 424), (184, 1, 0, 0, 0, 0), (185, 2, 4, 18, 0, 0), (187, 1, 2, 3, 0, 0), (188, 3, 13, 214, 96, 424), (191, 1, 0, 0, 0, 0), (192, 1, 19, 0, 0, 0), (193, 3, 1, 12, 14, 212), (196, 1, 3, 1, 0, 0), (197, 1, 11, 0, 0, 0), (198, 3, 14, 12, 14, 212), (201, 1, 12, 0, 0, 0)]) rfl) ?_
                    refine xg_t (xg_istore (l1 := [(2, (0, f82_626)), (0, (2, 82)), (1, (0, kr))]) rfl rfl rfl) ?_
                    refine xg_t (xg_aload (va := (2, 82)) rfl rfl) ?_
                    refine xg_t (xg_bip) ?_
                    obtain ⟨f82_851, f82_853, f82_855, f82_857, f82_859, f82_861, f82_863, f82_865, f82_867, f82_869, f82_871, f82_872, f82_873, f82_875, f82_877, f82_879, h82_881, hb852, hb854, hb856, hb858, hb860, hb862, hb864, hb866, hb868, hb870, hb874, hb876, hb878, hb880, hb882⟩ := (hI839 82 (by decide) (by decide) : cp82 (wget w837 82))
                    refine xg_cVv mX12_must (vs := [(0, 59)]) (rest := []) (cn1 := 0) (sl1 := 0) rfl (mMust (hI839) (by omega) pk845.2.2.2) rfl h82_881 rfl rfl rfl rfl rfl rfl (fun w883 hq884 => ?_)
                    obtain ⟨hI885, hF886, hx887⟩ := hq884
                    have pk888 : PK w w883 := PK.tr pk845 hx887
                    have ro889 : ∀ l, l < fld w 82 14 → l < 16 → rwv w883 112 (20 * l) = rwv w 112 (20 * l) := fun l hl h6 => (rwv_fr hF886 (by decide)).trans (ro846 l hl h6)
                    have hq890 := pk888
                    unfold PK PS at hq890
                    clear hq847
                    have pj891 : PK w553 w883 := PK.tr pj848 hx887
                    have hq892 := pj891
                    unfold PK PS at hq892
                    clear hq849
                    have ms893 : mu w883 < mu w := Nat.lt_of_le_of_lt hx887.2.1 ms850
                    refine xg_t (xg_aload (va := (2, 82)) rfl rfl) ?_
                    refine xg_t (xg_const) ?_
                    refine xg_t (xg_iload (va := (0, kr)) rfl rfl) ?_
                    have hl894 : fld w883 82 14 = fld w 82 14 := pk888.2.2.1
                    have hl895 : fld w883 82 14 ≤ 2000 := by omega
                    obtain ⟨f82_896, f82_898, f82_900, f82_902, f82_904, f82_906, f82_908, f82_910, f82_912, f82_914, f82_916, f82_917, f82_918, f82_920, f82_922, f82_924, h82_926, hb897, hb899, hb901, hb903, hb905, hb907, hb909, hb911, hb913, hb915, hb919, hb921, hb923, hb925, hb927⟩ := (hI885 82 (by decide) (by decide) : cp82 (wget w883 82))
                    refine xg_cVv mX12_rulePuts (vs := [(0, 0), (0, kr)]) (rest := []) (cn1 := 0) (sl1 := 0) rfl (mRulePuts (hI885) (by omega) (by omega) (by omega)) rfl h82_926 rfl rfl rfl rfl rfl rfl (fun w928 hq929 => ?_)
                    obtain ⟨hI930, hF931, hx932⟩ := hq929
                    have hx933 := hx932
                    have pk934 : PK w w928 := PK.tr pk888 (PK.fr hF931 (by decide) (by decide) pk888.2.2.2)
                    have ro935 : ∀ l, l < fld w 82 14 → l < 16 → rwv w928 112 (20 * l) = rwv w 112 (20 * l) := fun l hl h6 => ((hx933 _ (by omega)).2 (by omega)).trans (ro889 l hl h6)
                    have hq936 := pk934
                    unfold PK PS at hq936
                    clear hq890
                    have pj937 : PK w553 w928 := PK.tr pj891 (PK.fr hF931 (by decide) (by decide) pk888.2.2.2)
                    have hq938 := pj937
                    unfold PK PS at hq938
                    clear hq892
                    have ms939 : mu w928 < mu w := Nat.lt_of_le_of_lt (PK.fr hF931 (by decide) (by decide) pk888.2.2.2).2.1 ms893
                    have rz940 : fld w 82 14 < 16 → rwv w928 112 (20 * fld w 82 14) = kr := fun h6 => (hx933 _ (by omega)).1 ⟨by omega, by omega⟩
                    refine xg_t (xg_aload (va := (2, 82)) rfl rfl) ?_
                    refine xg_t (xg_bip) ?_
                    refine xg_t (xg_iload (va := (0, f82_626)) rfl rfl) ?_
                    have hl941 : fld w928 82 14 = fld w 82 14 := pk934.2.2.1
                    have hl942 : fld w928 82 14 ≤ 2000 := by omega
                    refine xg_cVv mX12_rulePuts (vs := [(0, 17), (0, f82_626)]) (rest := []) (cn1 := 0) (sl1 := 0) rfl (mRulePuts (hI930) (by omega) (by omega) (by omega)) rfl (hF931.get (by decide) h82_926) rfl rfl rfl rfl rfl rfl (fun w943 hq944 => ?_)
                    obtain ⟨hI945, hF946, hx947⟩ := hq944
                    have hx948 := hx947
                    have pk949 : PK w w943 := PK.tr pk934 (PK.fr hF946 (by decide) (by decide) pk934.2.2.2)
                    have ro950 : ∀ l, l < fld w 82 14 → l < 16 → rwv w943 112 (20 * l) = rwv w 112 (20 * l) := fun l hl h6 => ((hx948 _ (by omega)).2 (by omega)).trans (ro935 l hl h6)
                    have hq951 := pk949
                    unfold PK PS at hq951
                    clear hq936
                    have pj952 : PK w553 w943 := PK.tr pj937 (PK.fr hF946 (by decide) (by decide) pk934.2.2.2)
                    have hq953 := pj952
                    unfold PK PS at hq953
                    clear hq938
                    have ms954 : mu w943 < mu w := Nat.lt_of_le_of_lt (PK.fr hF946 (by decide) (by decide) pk934.2.2.2).2.1 ms939
                    have rz955 : fld w 82 14 < 16 → rwv w943 112 (20 * fld w 82 14) = kr := fun h6 => ((hx948 _ (by omega)).2 (by omega)).trans (rz940 h6)
                    refine xg_t (xg_aload (va := (2, 82)) rfl rfl) ?_
                    refine xg_t (xg_bip) ?_
                    refine xg_t (xg_iload (va := (0, n841)) rfl rfl) ?_
                    have hl956 : fld w943 82 14 = fld w 82 14 := pk949.2.2.1
                    have hl957 : fld w943 82 14 ≤ 2000 := by omega
                    refine xg_cVv mX12_rulePuts (vs := [(0, 18), (0, n841)]) (rest := []) (cn1 := 0) (sl1 := 0) rfl (mRulePuts (hI945) (by omega) (by omega) (by omega)) rfl (hF946.get (by decide) (hF931.get (by decide) h82_926)) rfl rfl rfl rfl rfl rfl (fun w958 hq959 => ?_)
                    obtain ⟨hI960, hF961, hx962⟩ := hq959
                    have hx963 := hx962
                    have pk964 : PK w w958 := PK.tr pk949 (PK.fr hF961 (by decide) (by decide) pk949.2.2.2)
                    have ro965 : ∀ l, l < fld w 82 14 → l < 16 → rwv w958 112 (20 * l) = rwv w 112 (20 * l) := fun l hl h6 => ((hx963 _ (by omega)).2 (by omega)).trans (ro950 l hl h6)
                    have hq966 := pk964
                    unfold PK PS at hq966
                    clear hq951
                    have pj967 : PK w553 w958 := PK.tr pj952 (PK.fr hF961 (by decide) (by decide) pk949.2.2.2)
                    have hq968 := pj967
                    unfold PK PS at hq968
                    clear hq953
                    have ms969 : mu w958 < mu w := Nat.lt_of_le_of_lt (PK.fr hF961 (by decide) (by decide) pk949.2.2.2).2.1 ms954
                    have rz970 : fld w 82 14 < 16 → rwv w958 112 (20 * fld w 82 14) = kr := fun h6 => ((hx963 _ (by omega)).2 (by omega)).trans (rz955 h6)
                    have hf971 : fld w958 82 4 = f82_900 := fld_of (hF961.get (by decide) (hF946.get (by decide) (hF931.get (by decide) h82_926)))
                    have hf972 : fld w958 82 5 = f82_902 := fld_of (hF961.get (by decide) (hF946.get (by decide) (hF931.get (by decide) h82_926)))
                    have hf973 : fld w958 82 7 = f82_906 := fld_of (hF961.get (by decide) (hF946.get (by decide) (hF931.get (by decide) h82_926)))
                    have hf974 : fld w958 82 10 = f82_912 := fld_of (hF961.get (by decide) (hF946.get (by decide) (hF931.get (by decide) h82_926)))
                    have hf975 : fld w958 82 14 = f82_914 := fld_of (hF961.get (by decide) (hF946.get (by decide) (hF931.get (by decide) h82_926)))
                    have hu976 : mu w958 = 2 * (fld w958 82 4 - fld w958 82 5) + min 1 (fld w958 82 7) := rfl
                    have hl977 : f82_914 ≤ 1001 := by omega
                    refine xg_t (xg_aload (va := (2, 82)) rfl rfl) ?_
                    refine xg_t (xg_dup rfl) ?_
                    refine xg_t (xg_getf (va := (0, f82_914)) (hF961.get (by decide) (hF946.get (by decide) (hF931.get (by decide) h82_926))) rfl) ?_
                    refine xg_t (xg_const) ?_
                    refine xg_t (xg_iadd (u := f82_914) (v := 1) (z := f82_914 + 1) xnm0 xnm0 (by omega)) ?_
                    refine xg_putI (fl1 := [(2, 83), (2, 84), (0, f82_896), (0, f82_898), (0, f82_900), (0, f82_902), (0, f82_904), (0, f82_906), (0, f82_908), (0, f82_910), (0, f82_912), (2, 85), (2, 86), (2, 87), (0, f82_914 + 1), (2, 88), (2, 89), (2, 90), (2, 91), (2, 92), (2, 93), (2, 94), (4, f82_916), (4, f82_917), (0, f82_918), (2, 95), (2, 96), (2, 97), (2, 98), (2, 99), (2, 100), (2, 101), (2, 102), (0, f82_920), (2, 103), (2, 104), (2, 105), (2, 106), (2, 107), (2, 108), (2, 109), (0, f82_922), (0, f82_924), (2, 110), (2, 111), (2, 112), (2, 113)]) (hF961.get (by decide) (hF946.get (by decide) (hF931.get (by decide) h82_926))) rfl rfl rfl (fun w978 hk979 hb980 => ?_)
                    have hF981 : xFr [82] w958 w978 := xFr.of hb980 (by decide)
                    have hA982 := FA_fr hF981 (by decide)
                    have hf983 : fld w978 82 4 = f82_900 := fld_of hk979
                    have hf984 : fld w978 82 5 = f82_902 := fld_of hk979
                    have hf985 : fld w978 82 7 = f82_906 := fld_of hk979
                    have hf986 : fld w978 82 10 = f82_912 := fld_of hk979
                    have hf987 : fld w978 82 14 = f82_914 + 1 := fld_of hk979
                    have hu988 : mu w978 = 2 * (fld w978 82 4 - fld w978 82 5) + min 1 (fld w978 82 7) := rfl
                    have hD989 : FA w978 ≠ 0 ∨ (RD w → RD w978) := by
                      by_cases z : FA w978 ≠ 0
                      · exact Or.inl z
                      · refine Or.inr (fun hd => ⟨by omega, fun l hl => ?_⟩)
                        rw [rwv_fr hF981 (by decide)]
                        by_cases y : l = fld w 82 14
                        · rw [y, rz970 (by omega)]; omega
                        · rw [ro965 l (by omega) (by have := hd.1; omega)]; exact hd.2 l (by omega)
                    exact xg_e ⟨w978, ⟨rfl, rfl⟩, xMnv.up (S := [82]) hI960 (xFr.of (S := [82]) hb980 (by decide)) (List.forall_mem_cons.mpr ⟨(show cp82 (wget w978 82) from ⟨f82_896, f82_898, f82_900, f82_902, f82_904, f82_906, f82_908, f82_910, f82_912, f82_914 + 1, f82_916, f82_917, f82_918, f82_920, f82_922, f82_924, hk979, by omega, by omega, by omega, by omega, by omega, by omega, by omega, by omega, by omega, by omega, by omega, by omega, by omega, by omega, by omega⟩), fun _ h => absurd h List.not_mem_nil⟩), ((((((((hF555.tr (hF604.up (by decide))).tr (hF651.up (by decide))).tr (hF840.up (by decide))).tr (hF886.up (by decide))).tr (hF931.up (by decide))).tr (hF946.up (by decide))).tr (hF961.up (by decide))).tr (xFr.of (S := [82, 83, 112, 113]) hb980 (by decide))), ⟨fun h => by have := pk964.1 h; omega, (show fld w978 82 10 = 0 ∨ FA w978 ≠ 0 by omega), Or.inr ⟨by have := ms969; omega, by omega⟩, hD989⟩⟩
                · refine xg_t (xg_ifF (u := (if 40 ≤ f82_626 ∧ f82_626 ≤ 42 then 1 else 0)) rfl xnm0 (xj_neF (xite0 hc646))) ?_
                  refine xg_t (xg_blk (b := [(136, 1, 0, 0, 0, 0), (137, 3, 13, 140, 96, 183), (140, 1, 12, 0, 0, 0)]) rfl) ?_
                  refine xg_t (xg_aload (va := (2, 82)) rfl rfl) ?_
                  refine xg_cVv mX12_ends (vs := []) (rest := []) (cn1 := 0) (sl1 := 0) rfl (mEnds (hI603) pk606.2.2.2) rfl h82_642 rfl rfl rfl rfl rfl rfl (fun w990 hq991 => ?_)
                  obtain ⟨hI992, hF993, hx994⟩ := hq991
                  obtain ⟨hv995, hv996, hv997, hv998⟩ := hx994
                  have pk999 : PK w601 w990 := ⟨fun _ => hv995, by omega, by omega, Or.inr hv995⟩
                  have pk1000 : PK w w990 := PK.tr pk606 pk999
                  have ro1001 : ∀ l, l < fld w 82 14 → l < 16 → rwv w990 112 (20 * l) = rwv w 112 (20 * l) := fun l hl h6 => (rwv_fr hF993 (by decide)).trans (ro607 l hl h6)
                  have hq1002 := pk1000
                  unfold PK PS at hq1002
                  clear hq608
                  have pj1003 : PK w553 w990 := PK.tr pj609 pk999
                  have hq1004 := pj1003
                  unfold PK PS at hq1004
                  clear hq610
                  have ms1005 : mu w990 < mu w := Nat.lt_of_le_of_lt pk999.2.1 ms611
                  obtain ⟨f82_1006, f82_1008, f82_1010, f82_1012, f82_1014, f82_1016, f82_1018, f82_1020, f82_1022, f82_1024, f82_1026, f82_1027, f82_1028, f82_1030, f82_1032, f82_1034, h82_1036, hb1007, hb1009, hb1011, hb1013, hb1015, hb1017, hb1019, hb1021, hb1023, hb1025, hb1029, hb1031, hb1033, hb1035, hb1037⟩ := (hI992 82 (by decide) (by decide) : cp82 (wget w990 82))
                  exact xg_e ⟨w990, ⟨rfl, rfl⟩, hI992, ((hF555.tr (hF604.up (by decide))).tr (hF993.up (by decide))), ⟨pk1000.1, pk1000.2.2.2, Or.inl ⟨by omega, pk1000.2.1, pk1000.2.2.1⟩, Or.inl (by omega)⟩⟩
              · refine xg_t (xg_icT (u := f82_622) (v := 3) rfl xnm0 xnm0 (xj_neT hc645)) ?_
                refine xg_t (xg_blk (b := [(136, 1, 0, 0, 0, 0), (137, 3, 13, 140, 96, 183), (140, 1, 12, 0, 0, 0)]) rfl) ?_
                refine xg_t (xg_aload (va := (2, 82)) rfl rfl) ?_
                refine xg_cVv mX12_ends (vs := []) (rest := []) (cn1 := 0) (sl1 := 0) rfl (mEnds (hI603) pk606.2.2.2) rfl h82_642 rfl rfl rfl rfl rfl rfl (fun w1038 hq1039 => ?_)
                obtain ⟨hI1040, hF1041, hx1042⟩ := hq1039
                obtain ⟨hv1043, hv1044, hv1045, hv1046⟩ := hx1042
                have pk1047 : PK w601 w1038 := ⟨fun _ => hv1043, by omega, by omega, Or.inr hv1043⟩
                have pk1048 : PK w w1038 := PK.tr pk606 pk1047
                have ro1049 : ∀ l, l < fld w 82 14 → l < 16 → rwv w1038 112 (20 * l) = rwv w 112 (20 * l) := fun l hl h6 => (rwv_fr hF1041 (by decide)).trans (ro607 l hl h6)
                have hq1050 := pk1048
                unfold PK PS at hq1050
                clear hq608
                have pj1051 : PK w553 w1038 := PK.tr pj609 pk1047
                have hq1052 := pj1051
                unfold PK PS at hq1052
                clear hq610
                have ms1053 : mu w1038 < mu w := Nat.lt_of_le_of_lt pk1047.2.1 ms611
                obtain ⟨f82_1054, f82_1056, f82_1058, f82_1060, f82_1062, f82_1064, f82_1066, f82_1068, f82_1070, f82_1072, f82_1074, f82_1075, f82_1076, f82_1078, f82_1080, f82_1082, h82_1084, hb1055, hb1057, hb1059, hb1061, hb1063, hb1065, hb1067, hb1069, hb1071, hb1073, hb1077, hb1079, hb1081, hb1083, hb1085⟩ := (hI1040 82 (by decide) (by decide) : cp82 (wget w1038 82))
                exact xg_e ⟨w1038, ⟨rfl, rfl⟩, hI1040, ((hF555.tr (hF604.up (by decide))).tr (hF1041.up (by decide))), ⟨pk1048.1, pk1048.2.2.2, Or.inl ⟨by omega, pk1048.2.1, pk1048.2.2.1⟩, Or.inl (by omega)⟩⟩
            · refine xg_t (xg_ifT (u := f82_628) rfl xnm0 (xj_neT hc644)) ?_
              refine xg_t (xg_blk (b := [(136, 1, 0, 0, 0, 0), (137, 3, 13, 140, 96, 183), (140, 1, 12, 0, 0, 0)]) rfl) ?_
              refine xg_t (xg_aload (va := (2, 82)) rfl rfl) ?_
              refine xg_cVv mX12_ends (vs := []) (rest := []) (cn1 := 0) (sl1 := 0) rfl (mEnds (hI603) pk606.2.2.2) rfl h82_642 rfl rfl rfl rfl rfl rfl (fun w1086 hq1087 => ?_)
              obtain ⟨hI1088, hF1089, hx1090⟩ := hq1087
              obtain ⟨hv1091, hv1092, hv1093, hv1094⟩ := hx1090
              have pk1095 : PK w601 w1086 := ⟨fun _ => hv1091, by omega, by omega, Or.inr hv1091⟩
              have pk1096 : PK w w1086 := PK.tr pk606 pk1095
              have ro1097 : ∀ l, l < fld w 82 14 → l < 16 → rwv w1086 112 (20 * l) = rwv w 112 (20 * l) := fun l hl h6 => (rwv_fr hF1089 (by decide)).trans (ro607 l hl h6)
              have hq1098 := pk1096
              unfold PK PS at hq1098
              clear hq608
              have pj1099 : PK w553 w1086 := PK.tr pj609 pk1095
              have hq1100 := pj1099
              unfold PK PS at hq1100
              clear hq610
              have ms1101 : mu w1086 < mu w := Nat.lt_of_le_of_lt pk1095.2.1 ms611
              obtain ⟨f82_1102, f82_1104, f82_1106, f82_1108, f82_1110, f82_1112, f82_1114, f82_1116, f82_1118, f82_1120, f82_1122, f82_1123, f82_1124, f82_1126, f82_1128, f82_1130, h82_1132, hb1103, hb1105, hb1107, hb1109, hb1111, hb1113, hb1115, hb1117, hb1119, hb1121, hb1125, hb1127, hb1129, hb1131, hb1133⟩ := (hI1088 82 (by decide) (by decide) : cp82 (wget w1086 82))
              exact xg_e ⟨w1086, ⟨rfl, rfl⟩, hI1088, ((hF555.tr (hF604.up (by decide))).tr (hF1089.up (by decide))), ⟨pk1096.1, pk1096.2.2.2, Or.inl ⟨by omega, pk1096.2.1, pk1096.2.2.1⟩, Or.inl (by omega)⟩⟩
          · refine xg_t (xg_ifF (u := mo) rfl xnm0 (xj_eqF hc600)) ?_
            refine xg_t (xg_iload (va := (0, kr)) rfl rfl) ?_
            refine xg_t (xg_const) ?_
            by_cases hc1134 : 3 < kr
            · refine xg_t (xg_icF (u := kr) (v := 3) rfl xnm0 xnm0 (xj_leF hc1134 (by omega))) ?_
              refine xg_t (xg_aload (va := (2, 82)) rfl rfl) ?_
              refine xg_t (xg_const) ?_
              refine xg_t (xg_aload (va := (2, 82)) rfl rfl) ?_
              refine xg_t (xg_getf (va := (0, f82_576)) h82_598 rfl) ?_
              refine xg_cVv mX12_also (vs := [(0, 3), (0, f82_576)]) (rest := []) (cn1 := 0) (sl1 := 0) rfl (mAlso (hI554) (by omega) (by omega) (by omega) hz560.2.2.2) rfl h82_598 rfl rfl rfl rfl rfl rfl (fun w1135 hq1136 => ?_)
              obtain ⟨hI1137, hF1138, hx1139⟩ := hq1136
              have pk1140 : PK w553 w1135 := ⟨fun _ => hx1139, Nat.le_of_eq (mu_fr hF1138 (by decide)), fld_fr hF1138 (by decide), Or.inr hx1139⟩
              have pk1141 : PK w w1135 := PK.tr hz560 pk1140
              have ro1142 : ∀ l, l < fld w 82 14 → l < 16 → rwv w1135 112 (20 * l) = rwv w 112 (20 * l) := fun l hl h6 => (rwv_fr hF1138 (by decide)).trans (hz561 l hl h6)
              have hq1143 := pk1141
              unfold PK PS at hq1143
              clear hq567
              have pj1144 : PK w553 w1135 := PK.tr (PK.rf hz560.2.2.2) pk1140
              have hq1145 := pj1144
              unfold PK PS at hq1145
              have ms1146 : mu w1135 < mu w := Nat.lt_of_le_of_lt pk1140.2.1 hz562
              have fa1147 : FA w1135 ≠ 0 := hx1139
              refine xg_t (xg_blk (b := [(49, 1, 0, 0, 0, 0), (50, 3, 13, 109, 96, 421), (53, 1, 3, 0, 0, 0), (54, 1, 15, 3, 0, 0)]) rfl) ?_
              refine xg_t (xg_aload (va := (2, 82)) rfl rfl) ?_
              refine xg_cVv mX12_aTest (vs := []) (rest := []) (cn1 := 0) (sl1 := 0) rfl (mATest (hI1137) pk1141.2.2.2) rfl (hF1138.get (by decide) h82_598) rfl rfl rfl rfl rfl rfl (fun w1148 hq1149 => ?_)
              obtain ⟨hI1150, hF1151, hx1152⟩ := hq1149
              have pk1153 : PK w w1148 := PK.tr pk1141 hx1152
              have ro1154 : ∀ l, l < fld w 82 14 → l < 16 → rwv w1148 112 (20 * l) = rwv w 112 (20 * l) := fun l hl h6 => (rwv_fr hF1151 (by decide)).trans (ro1142 l hl h6)
              have hq1155 := pk1153
              unfold PK PS at hq1155
              clear hq1143
              have pj1156 : PK w553 w1148 := PK.tr pj1144 hx1152
              have hq1157 := pj1156
              unfold PK PS at hq1157
              clear hq1145
              have fa1158 : FA w1148 ≠ 0 := hx1152.1 fa1147
              have ms1159 : mu w1148 < mu w := Nat.lt_of_le_of_lt hx1152.2.1 ms1146
              refine xg_t (xg_const) ?_
              refine xg_t (xg_istore (l1 := [(0, (2, 82)), (1, (0, kr)), (2, (0, mo))]) rfl rfl rfl) ?_
              refine xg_t (xg_blk (b := [(55, 1, 2, 3, 0, 0), (56, 1, 3, 4, 0, 0), (57, 3, 6, 88, 3, 0), (60, 1, 2, 1, 0, 0), (61, 1, 3, 4, 0, 0), (62, 3, 6, 88, 3, 0), (65, 1, 0, 0, 0, 0), (66, 1, 3, 1, 0, 0), (67, 1, 3, 4, 0, 0), (68, 1, 2, 1, 0, 0), (69, 1, 16, 0, 0, 0), (70, 1, 11, 0, 0, 0), (71, 1, 2, 3, 0, 0), (72, 1, 11, 0, 0, 0), (73, 1, 0, 0, 0, 0), (74, 3, 1, 12, 46, 102), (77, 1, 2, 3, 0, 0), (78, 1, 10, 0, 0, 0), (79, 3, 13, 214, 96, 424), (82, 3, 9, 3, 1, 0), (85, 3, 8, 55, 0, 0)]) rfl) ?_
              refine xg_t (xg_iload (va := (0, 0)) rfl rfl) ?_
              refine xg_t (xg_const) ?_
              refine xg_t (xg_icF (u := 0) (v := 4) rfl xnm0 xnm0 (by decide)) ?_
              refine xg_t (xg_iload (va := (0, kr)) rfl rfl) ?_
              refine xg_t (xg_const) ?_
              refine xg_t (xg_icT (u := kr) (v := 4) rfl xnm0 xnm0 (xj_geT (by omega) (by omega))) ?_
              refine xg_t (xg_blk (b := [(88, 3, 9, 1, 1, 0), (91, 1, 0, 0, 0, 0), (92, 2, 4, 51, 0, 0), (94, 3, 13, 227, 96, 415), (97, 1, 15, 2, 0, 0), (98, 3, 8, 31, 0, 0)]) rfl) ?_
              refine xg_t (xg_iinc (u := kr) (z := kr + 1) (l1 := [(3, (0, 0)), (0, (2, 82)), (2, (0, mo))]) rfl rfl (by omega) rfl) ?_
              refine xg_t (xg_aload (va := (2, 82)) rfl rfl) ?_
              refine xg_t (xg_bip) ?_
              obtain ⟨f82_1160, f82_1162, f82_1164, f82_1166, f82_1168, f82_1170, f82_1172, f82_1174, f82_1176, f82_1178, f82_1180, f82_1181, f82_1182, f82_1184, f82_1186, f82_1188, h82_1190, hb1161, hb1163, hb1165, hb1167, hb1169, hb1171, hb1173, hb1175, hb1177, hb1179, hb1183, hb1185, hb1187, hb1189, hb1191⟩ := (hI1150 82 (by decide) (by decide) : cp82 (wget w1148 82))
              refine xg_cVi mX12_takes (vs := [(0, 51)]) (rest := []) (cn1 := 0) (sl1 := 0) rfl (mTakes (hI1150) (by omega) pk1153.2.2.2) rfl h82_1190 rfl rfl rfl rfl rfl rfl (fun n1196 w1192 hq1193 => ?_)
              obtain ⟨hn1197, hI1194, hF1195⟩ := hq1193
              obtain ⟨hn1198, hn1199, hn1200⟩ := hn1197
              have pk1201 : PK w w1192 := PK.tr pk1153 hn1199
              have ro1202 : ∀ l, l < fld w 82 14 → l < 16 → rwv w1192 112 (20 * l) = rwv w 112 (20 * l) := fun l hl h6 => (rwv_fr hF1195 (by decide)).trans (ro1154 l hl h6)
              have hq1203 := pk1201
              unfold PK PS at hq1203
              clear hq1155
              have pj1204 : PK w553 w1192 := PK.tr pj1156 hn1199
              have hq1205 := pj1204
              unfold PK PS at hq1205
              clear hq1157
              have fa1206 : FA w1192 ≠ 0 := hn1199.1 fa1158
              have ms1207 : mu w1192 < mu w := Nat.lt_of_le_of_lt hn1199.2.1 ms1159
              have hu1208 : n1196 = 1 → mu w1192 < mu w553 := fun h => Nat.lt_of_lt_of_le (hn1200 h) pj1156.2.1
              refine xg_t (xg_istore (l1 := [(1, (0, kr + 1)), (3, (0, 0)), (0, (2, 82))]) rfl rfl rfl) ?_
              refine xg_t (xg_goto) ?_
              refine xg_t (xg_drop (l1 := [(0, (2, 82)), (1, (0, kr + 1)), (2, (0, n1196))]) (List.forall_mem_cons.mpr ⟨List.mem_cons_of_mem _ (List.mem_cons_of_mem _ (List.mem_cons_of_mem _ (List.mem_cons_self))), List.forall_mem_cons.mpr ⟨List.mem_cons_of_mem _ (List.mem_cons_self), List.forall_mem_cons.mpr ⟨List.mem_cons_self, fun _ h => absurd h List.not_mem_nil⟩⟩⟩)) ?_
              exact ih551 (kr + 1) n1196 w1192 (by omega) (by omega) (by omega) (hI1194) ((((hF555.tr (hF1138.up (by decide))).tr (hF1151.up (by decide))).tr (hF1195.up (by decide)))) (⟨pk1201, ro1202, ms1207, by omega, by omega, fun _ => by omega, fun h => by omega⟩)
            · refine xg_t (xg_icT (u := kr) (v := 3) rfl xnm0 xnm0 (xj_leT (by omega) (by omega))) ?_
              refine xg_t (xg_blk (b := [(49, 1, 0, 0, 0, 0), (50, 3, 13, 109, 96, 421), (53, 1, 3, 0, 0, 0), (54, 1, 15, 3, 0, 0)]) rfl) ?_
              refine xg_t (xg_aload (va := (2, 82)) rfl rfl) ?_
              refine xg_cVv mX12_aTest (vs := []) (rest := []) (cn1 := 0) (sl1 := 0) rfl (mATest (hI554) hz560.2.2.2) rfl h82_598 rfl rfl rfl rfl rfl rfl (fun w1209 hq1210 => ?_)
              obtain ⟨hI1211, hF1212, hx1213⟩ := hq1210
              have pk1214 : PK w w1209 := PK.tr hz560 hx1213
              have ro1215 : ∀ l, l < fld w 82 14 → l < 16 → rwv w1209 112 (20 * l) = rwv w 112 (20 * l) := fun l hl h6 => (rwv_fr hF1212 (by decide)).trans (hz561 l hl h6)
              have hq1216 := pk1214
              unfold PK PS at hq1216
              clear hq567
              have pj1217 : PK w553 w1209 := PK.tr (PK.rf hz560.2.2.2) hx1213
              have hq1218 := pj1217
              unfold PK PS at hq1218
              have ms1219 : mu w1209 < mu w := Nat.lt_of_le_of_lt hx1213.2.1 hz562
              refine xg_t (xg_const) ?_
              refine xg_t (xg_istore (l1 := [(0, (2, 82)), (1, (0, kr)), (2, (0, mo))]) rfl rfl rfl) ?_
              refine xg_t (xg_blk (b := [(55, 1, 2, 3, 0, 0), (56, 1, 3, 4, 0, 0), (57, 3, 6, 88, 3, 0), (60, 1, 2, 1, 0, 0), (61, 1, 3, 4, 0, 0), (62, 3, 6, 88, 3, 0), (65, 1, 0, 0, 0, 0), (66, 1, 3, 1, 0, 0), (67, 1, 3, 4, 0, 0), (68, 1, 2, 1, 0, 0), (69, 1, 16, 0, 0, 0), (70, 1, 11, 0, 0, 0), (71, 1, 2, 3, 0, 0), (72, 1, 11, 0, 0, 0), (73, 1, 0, 0, 0, 0), (74, 3, 1, 12, 46, 102), (77, 1, 2, 3, 0, 0), (78, 1, 10, 0, 0, 0), (79, 3, 13, 214, 96, 424), (82, 3, 9, 3, 1, 0), (85, 3, 8, 55, 0, 0)]) rfl) ?_
              refine xg_t (xg_iload (va := (0, 0)) rfl rfl) ?_
              refine xg_t (xg_const) ?_
              refine xg_t (xg_icF (u := 0) (v := 4) rfl xnm0 xnm0 (by decide)) ?_
              refine xg_t (xg_iload (va := (0, kr)) rfl rfl) ?_
              refine xg_t (xg_const) ?_
              refine xg_t (xg_icF (u := kr) (v := 4) rfl xnm0 xnm0 (xj_geF (by omega) (by omega))) ?_
              refine xg_t (xg_aload (va := (2, 82)) rfl rfl) ?_
              refine xg_t (xg_const) ?_
              refine xg_t (xg_const) ?_
              refine xg_t (xg_iload (va := (0, kr)) rfl rfl) ?_
              refine xg_t (xg_imul (u := 4) (v := kr) (z := 4 * kr) xnm0 xnm0 (by omega)) ?_
              refine xg_t (xg_iadd (u := 1) (v := 4 * kr) (z := 1 + (4 * kr)) xnm0 xnm0 (by omega)) ?_
              refine xg_t (xg_iload (va := (0, 0)) rfl rfl) ?_
              refine xg_t (xg_iadd (u := 1 + (4 * kr)) (v := 0) (z := (1 + (4 * kr)) + 0) xnm0 xnm0 (by omega)) ?_
              refine xg_t (xg_aload (va := (2, 82)) rfl rfl) ?_
              obtain ⟨f82_1220, f82_1222, f82_1224, f82_1226, f82_1228, f82_1230, f82_1232, f82_1234, f82_1236, f82_1238, f82_1240, f82_1241, f82_1242, f82_1244, f82_1246, f82_1248, h82_1250, hb1221, hb1223, hb1225, hb1227, hb1229, hb1231, hb1233, hb1235, hb1237, hb1239, hb1243, hb1245, hb1247, hb1249, hb1251⟩ := (hI1211 82 (by decide) (by decide) : cp82 (wget w1209 82))
              refine xg_t (xg_getf (va := (2, 113)) h82_1250 rfl) ?_
              refine xg_t (xg_iload (va := (0, 0)) rfl rfl) ?_
              obtain ⟨g113_1252, h113_1253, hb1254⟩ := (hI1211 113 (by decide) (by decide) : cpI 4 80 4294967295 (wget w1209 113))
              have h113_1253 : xRow w1209 113 4 80 g113_1252 := h113_1253
              refine xg_ialdB (n := 0) (B := 4294967295) h113_1253 (hb1254) xnm0 (by omega) (fun u1255 hu1256 he1257 => ?_)
              have hl1258 : fld w1209 82 14 = fld w 82 14 := pk1214.2.2.1
              have hl1259 : fld w1209 82 14 ≤ 2000 := by omega
              refine xg_cVv mX12_rulePuts (vs := [(0, (1 + (4 * kr)) + 0), (0, u1255)]) (rest := []) (cn1 := 0) (sl1 := 0) rfl (mRulePuts (hI1211) (by omega) (by omega) (by omega)) rfl h82_1250 rfl rfl rfl rfl rfl rfl (fun w1260 hq1261 => ?_)
              obtain ⟨hI1262, hF1263, hx1264⟩ := hq1261
              have hx1265 := hx1264
              have pk1266 : PK w w1260 := PK.tr pk1214 (PK.fr hF1263 (by decide) (by decide) pk1214.2.2.2)
              have ro1267 : ∀ l, l < fld w 82 14 → l < 16 → rwv w1260 112 (20 * l) = rwv w 112 (20 * l) := fun l hl h6 => ((hx1265 _ (by omega)).2 (by omega)).trans (ro1215 l hl h6)
              have hq1268 := pk1266
              unfold PK PS at hq1268
              clear hq1216
              have pj1269 : PK w553 w1260 := PK.tr pj1217 (PK.fr hF1263 (by decide) (by decide) pk1214.2.2.2)
              have hq1270 := pj1269
              unfold PK PS at hq1270
              clear hq1218
              have ms1271 : mu w1260 < mu w := Nat.lt_of_le_of_lt (PK.fr hF1263 (by decide) (by decide) pk1214.2.2.2).2.1 ms1219
              refine xg_t (xg_iinc (u := 0) (z := 1) (l1 := [(0, (2, 82)), (1, (0, kr)), (2, (0, mo))]) rfl rfl (by decide) rfl) ?_
              refine xg_t (xg_goto) ?_
              refine xg_t (xg_blk (b := [(55, 1, 2, 3, 0, 0), (56, 1, 3, 4, 0, 0), (57, 3, 6, 88, 3, 0), (60, 1, 2, 1, 0, 0), (61, 1, 3, 4, 0, 0), (62, 3, 6, 88, 3, 0), (65, 1, 0, 0, 0, 0), (66, 1, 3, 1, 0, 0), (67, 1, 3, 4, 0, 0), (68, 1, 2, 1, 0, 0), (69, 1, 16, 0, 0, 0), (70, 1, 11, 0, 0, 0), (71, 1, 2, 3, 0, 0), (72, 1, 11, 0, 0, 0), (73, 1, 0, 0, 0, 0), (74, 3, 1, 12, 46, 102), (77, 1, 2, 3, 0, 0), (78, 1, 10, 0, 0, 0), (79, 3, 13, 214, 96, 424), (82, 3, 9, 3, 1, 0), (85, 3, 8, 55, 0, 0)]) rfl) ?_
              refine xg_t (xg_iload (va := (0, 1)) rfl rfl) ?_
              refine xg_t (xg_const) ?_
              refine xg_t (xg_icF (u := 1) (v := 4) rfl xnm0 xnm0 (by decide)) ?_
              refine xg_t (xg_iload (va := (0, kr)) rfl rfl) ?_
              refine xg_t (xg_const) ?_
              refine xg_t (xg_icF (u := kr) (v := 4) rfl xnm0 xnm0 (xj_geF (by omega) (by omega))) ?_
              refine xg_t (xg_aload (va := (2, 82)) rfl rfl) ?_
              refine xg_t (xg_const) ?_
              refine xg_t (xg_const) ?_
              refine xg_t (xg_iload (va := (0, kr)) rfl rfl) ?_
              refine xg_t (xg_imul (u := 4) (v := kr) (z := 4 * kr) xnm0 xnm0 (by omega)) ?_
              refine xg_t (xg_iadd (u := 1) (v := 4 * kr) (z := 1 + (4 * kr)) xnm0 xnm0 (by omega)) ?_
              refine xg_t (xg_iload (va := (0, 1)) rfl rfl) ?_
              refine xg_t (xg_iadd (u := 1 + (4 * kr)) (v := 1) (z := (1 + (4 * kr)) + 1) xnm0 xnm0 (by omega)) ?_
              refine xg_t (xg_aload (va := (2, 82)) rfl rfl) ?_
              refine xg_t (xg_getf (va := (2, 113)) (hF1263.get (by decide) h82_1250) rfl) ?_
              refine xg_t (xg_iload (va := (0, 1)) rfl rfl) ?_
              refine xg_ialdB (n := 1) (B := 4294967295) (h113_1253.fr hF1263 (by decide)) (hb1254) xnm0 (by omega) (fun u1272 hu1273 he1274 => ?_)
              have hl1275 : fld w1260 82 14 = fld w 82 14 := pk1266.2.2.1
              have hl1276 : fld w1260 82 14 ≤ 2000 := by omega
              refine xg_cVv mX12_rulePuts (vs := [(0, (1 + (4 * kr)) + 1), (0, u1272)]) (rest := []) (cn1 := 0) (sl1 := 0) rfl (mRulePuts (hI1262) (by omega) (by omega) (by omega)) rfl (hF1263.get (by decide) h82_1250) rfl rfl rfl rfl rfl rfl (fun w1277 hq1278 => ?_)
              obtain ⟨hI1279, hF1280, hx1281⟩ := hq1278
              have hx1282 := hx1281
              have pk1283 : PK w w1277 := PK.tr pk1266 (PK.fr hF1280 (by decide) (by decide) pk1266.2.2.2)
              have ro1284 : ∀ l, l < fld w 82 14 → l < 16 → rwv w1277 112 (20 * l) = rwv w 112 (20 * l) := fun l hl h6 => ((hx1282 _ (by omega)).2 (by omega)).trans (ro1267 l hl h6)
              have hq1285 := pk1283
              unfold PK PS at hq1285
              clear hq1268
              have pj1286 : PK w553 w1277 := PK.tr pj1269 (PK.fr hF1280 (by decide) (by decide) pk1266.2.2.2)
              have hq1287 := pj1286
              unfold PK PS at hq1287
              clear hq1270
              have ms1288 : mu w1277 < mu w := Nat.lt_of_le_of_lt (PK.fr hF1280 (by decide) (by decide) pk1266.2.2.2).2.1 ms1271
              refine xg_t (xg_iinc (u := 1) (z := 2) (l1 := [(0, (2, 82)), (1, (0, kr)), (2, (0, mo))]) rfl rfl (by decide) rfl) ?_
              refine xg_t (xg_goto) ?_
              refine xg_t (xg_blk (b := [(55, 1, 2, 3, 0, 0), (56, 1, 3, 4, 0, 0), (57, 3, 6, 88, 3, 0), (60, 1, 2, 1, 0, 0), (61, 1, 3, 4, 0, 0), (62, 3, 6, 88, 3, 0), (65, 1, 0, 0, 0, 0), (66, 1, 3, 1, 0, 0), (67, 1, 3, 4, 0, 0), (68, 1, 2, 1, 0, 0), (69, 1, 16, 0, 0, 0), (70, 1, 11, 0, 0, 0), (71, 1, 2, 3, 0, 0), (72, 1, 11, 0, 0, 0), (73, 1, 0, 0, 0, 0), (74, 3, 1, 12, 46, 102), (77, 1, 2, 3, 0, 0), (78, 1, 10, 0, 0, 0), (79, 3, 13, 214, 96, 424), (82, 3, 9, 3, 1, 0), (85, 3, 8, 55, 0, 0)]) rfl) ?_
              refine xg_t (xg_iload (va := (0, 2)) rfl rfl) ?_
              refine xg_t (xg_const) ?_
              refine xg_t (xg_icF (u := 2) (v := 4) rfl xnm0 xnm0 (by decide)) ?_
              refine xg_t (xg_iload (va := (0, kr)) rfl rfl) ?_
              refine xg_t (xg_const) ?_
              refine xg_t (xg_icF (u := kr) (v := 4) rfl xnm0 xnm0 (xj_geF (by omega) (by omega))) ?_
              refine xg_t (xg_aload (va := (2, 82)) rfl rfl) ?_
              refine xg_t (xg_const) ?_
              refine xg_t (xg_const) ?_
              refine xg_t (xg_iload (va := (0, kr)) rfl rfl) ?_
              refine xg_t (xg_imul (u := 4) (v := kr) (z := 4 * kr) xnm0 xnm0 (by omega)) ?_
              refine xg_t (xg_iadd (u := 1) (v := 4 * kr) (z := 1 + (4 * kr)) xnm0 xnm0 (by omega)) ?_
              refine xg_t (xg_iload (va := (0, 2)) rfl rfl) ?_
              refine xg_t (xg_iadd (u := 1 + (4 * kr)) (v := 2) (z := (1 + (4 * kr)) + 2) xnm0 xnm0 (by omega)) ?_
              refine xg_t (xg_aload (va := (2, 82)) rfl rfl) ?_
              refine xg_t (xg_getf (va := (2, 113)) (hF1280.get (by decide) (hF1263.get (by decide) h82_1250)) rfl) ?_
              refine xg_t (xg_iload (va := (0, 2)) rfl rfl) ?_
              refine xg_ialdB (n := 2) (B := 4294967295) ((h113_1253.fr hF1263 (by decide)).fr hF1280 (by decide)) (hb1254) xnm0 (by omega) (fun u1289 hu1290 he1291 => ?_)
              have hl1292 : fld w1277 82 14 = fld w 82 14 := pk1283.2.2.1
              have hl1293 : fld w1277 82 14 ≤ 2000 := by omega
              refine xg_cVv mX12_rulePuts (vs := [(0, (1 + (4 * kr)) + 2), (0, u1289)]) (rest := []) (cn1 := 0) (sl1 := 0) rfl (mRulePuts (hI1279) (by omega) (by omega) (by omega)) rfl (hF1280.get (by decide) (hF1263.get (by decide) h82_1250)) rfl rfl rfl rfl rfl rfl (fun w1294 hq1295 => ?_)
              obtain ⟨hI1296, hF1297, hx1298⟩ := hq1295
              have hx1299 := hx1298
              have pk1300 : PK w w1294 := PK.tr pk1283 (PK.fr hF1297 (by decide) (by decide) pk1283.2.2.2)
              have ro1301 : ∀ l, l < fld w 82 14 → l < 16 → rwv w1294 112 (20 * l) = rwv w 112 (20 * l) := fun l hl h6 => ((hx1299 _ (by omega)).2 (by omega)).trans (ro1284 l hl h6)
              have hq1302 := pk1300
              unfold PK PS at hq1302
              clear hq1285
              have pj1303 : PK w553 w1294 := PK.tr pj1286 (PK.fr hF1297 (by decide) (by decide) pk1283.2.2.2)
              have hq1304 := pj1303
              unfold PK PS at hq1304
              clear hq1287
              have ms1305 : mu w1294 < mu w := Nat.lt_of_le_of_lt (PK.fr hF1297 (by decide) (by decide) pk1283.2.2.2).2.1 ms1288
              refine xg_t (xg_iinc (u := 2) (z := 3) (l1 := [(0, (2, 82)), (1, (0, kr)), (2, (0, mo))]) rfl rfl (by decide) rfl) ?_
              refine xg_t (xg_goto) ?_
              refine xg_t (xg_blk (b := [(55, 1, 2, 3, 0, 0), (56, 1, 3, 4, 0, 0), (57, 3, 6, 88, 3, 0), (60, 1, 2, 1, 0, 0), (61, 1, 3, 4, 0, 0), (62, 3, 6, 88, 3, 0), (65, 1, 0, 0, 0, 0), (66, 1, 3, 1, 0, 0), (67, 1, 3, 4, 0, 0), (68, 1, 2, 1, 0, 0), (69, 1, 16, 0, 0, 0), (70, 1, 11, 0, 0, 0), (71, 1, 2, 3, 0, 0), (72, 1, 11, 0, 0, 0), (73, 1, 0, 0, 0, 0), (74, 3, 1, 12, 46, 102), (77, 1, 2, 3, 0, 0), (78, 1, 10, 0, 0, 0), (79, 3, 13, 214, 96, 424), (82, 3, 9, 3, 1, 0), (85, 3, 8, 55, 0, 0)]) rfl) ?_
              refine xg_t (xg_iload (va := (0, 3)) rfl rfl) ?_
              refine xg_t (xg_const) ?_
              refine xg_t (xg_icF (u := 3) (v := 4) rfl xnm0 xnm0 (by decide)) ?_
              refine xg_t (xg_iload (va := (0, kr)) rfl rfl) ?_
              refine xg_t (xg_const) ?_
              refine xg_t (xg_icF (u := kr) (v := 4) rfl xnm0 xnm0 (xj_geF (by omega) (by omega))) ?_
              refine xg_t (xg_aload (va := (2, 82)) rfl rfl) ?_
              refine xg_t (xg_const) ?_
              refine xg_t (xg_const) ?_
              refine xg_t (xg_iload (va := (0, kr)) rfl rfl) ?_
              refine xg_t (xg_imul (u := 4) (v := kr) (z := 4 * kr) xnm0 xnm0 (by omega)) ?_
              refine xg_t (xg_iadd (u := 1) (v := 4 * kr) (z := 1 + (4 * kr)) xnm0 xnm0 (by omega)) ?_
              refine xg_t (xg_iload (va := (0, 3)) rfl rfl) ?_
              refine xg_t (xg_iadd (u := 1 + (4 * kr)) (v := 3) (z := (1 + (4 * kr)) + 3) xnm0 xnm0 (by omega)) ?_
              refine xg_t (xg_aload (va := (2, 82)) rfl rfl) ?_
              refine xg_t (xg_getf (va := (2, 113)) (hF1297.get (by decide) (hF1280.get (by decide) (hF1263.get (by decide) h82_1250))) rfl) ?_
              refine xg_t (xg_iload (va := (0, 3)) rfl rfl) ?_
              refine xg_ialdB (n := 3) (B := 4294967295) (((h113_1253.fr hF1263 (by decide)).fr hF1280 (by decide)).fr hF1297 (by decide)) (hb1254) xnm0 (by omega) (fun u1306 hu1307 he1308 => ?_)
              have hl1309 : fld w1294 82 14 = fld w 82 14 := pk1300.2.2.1
              have hl1310 : fld w1294 82 14 ≤ 2000 := by omega
              refine xg_cVv mX12_rulePuts (vs := [(0, (1 + (4 * kr)) + 3), (0, u1306)]) (rest := []) (cn1 := 0) (sl1 := 0) rfl (mRulePuts (hI1296) (by omega) (by omega) (by omega)) rfl (hF1297.get (by decide) (hF1280.get (by decide) (hF1263.get (by decide) h82_1250))) rfl rfl rfl rfl rfl rfl (fun w1311 hq1312 => ?_)
              obtain ⟨hI1313, hF1314, hx1315⟩ := hq1312
              have hx1316 := hx1315
              have pk1317 : PK w w1311 := PK.tr pk1300 (PK.fr hF1314 (by decide) (by decide) pk1300.2.2.2)
              have ro1318 : ∀ l, l < fld w 82 14 → l < 16 → rwv w1311 112 (20 * l) = rwv w 112 (20 * l) := fun l hl h6 => ((hx1316 _ (by omega)).2 (by omega)).trans (ro1301 l hl h6)
              have hq1319 := pk1317
              unfold PK PS at hq1319
              clear hq1302
              have pj1320 : PK w553 w1311 := PK.tr pj1303 (PK.fr hF1314 (by decide) (by decide) pk1300.2.2.2)
              have hq1321 := pj1320
              unfold PK PS at hq1321
              clear hq1304
              have ms1322 : mu w1311 < mu w := Nat.lt_of_le_of_lt (PK.fr hF1314 (by decide) (by decide) pk1300.2.2.2).2.1 ms1305
              refine xg_t (xg_iinc (u := 3) (z := 4) (l1 := [(0, (2, 82)), (1, (0, kr)), (2, (0, mo))]) rfl rfl (by decide) rfl) ?_
              refine xg_t (xg_goto) ?_
              refine xg_t (xg_blk (b := [(55, 1, 2, 3, 0, 0), (56, 1, 3, 4, 0, 0), (57, 3, 6, 88, 3, 0), (60, 1, 2, 1, 0, 0), (61, 1, 3, 4, 0, 0), (62, 3, 6, 88, 3, 0), (65, 1, 0, 0, 0, 0), (66, 1, 3, 1, 0, 0), (67, 1, 3, 4, 0, 0), (68, 1, 2, 1, 0, 0), (69, 1, 16, 0, 0, 0), (70, 1, 11, 0, 0, 0), (71, 1, 2, 3, 0, 0), (72, 1, 11, 0, 0, 0), (73, 1, 0, 0, 0, 0), (74, 3, 1, 12, 46, 102), (77, 1, 2, 3, 0, 0), (78, 1, 10, 0, 0, 0), (79, 3, 13, 214, 96, 424), (82, 3, 9, 3, 1, 0), (85, 3, 8, 55, 0, 0)]) rfl) ?_
              refine xg_t (xg_iload (va := (0, 4)) rfl rfl) ?_
              refine xg_t (xg_const) ?_
              refine xg_t (xg_icT (u := 4) (v := 4) rfl xnm0 xnm0 (by decide)) ?_
              refine xg_t (xg_blk (b := [(88, 3, 9, 1, 1, 0), (91, 1, 0, 0, 0, 0), (92, 2, 4, 51, 0, 0), (94, 3, 13, 227, 96, 415), (97, 1, 15, 2, 0, 0), (98, 3, 8, 31, 0, 0)]) rfl) ?_
              refine xg_t (xg_iinc (u := kr) (z := kr + 1) (l1 := [(3, (0, 4)), (0, (2, 82)), (2, (0, mo))]) rfl rfl (by omega) rfl) ?_
              refine xg_t (xg_aload (va := (2, 82)) rfl rfl) ?_
              refine xg_t (xg_bip) ?_
              refine xg_cVi mX12_takes (vs := [(0, 51)]) (rest := []) (cn1 := 0) (sl1 := 0) rfl (mTakes (hI1313) (by omega) pk1317.2.2.2) rfl (hF1314.get (by decide) (hF1297.get (by decide) (hF1280.get (by decide) (hF1263.get (by decide) h82_1250)))) rfl rfl rfl rfl rfl rfl (fun n1327 w1323 hq1324 => ?_)
              obtain ⟨hn1328, hI1325, hF1326⟩ := hq1324
              obtain ⟨hn1329, hn1330, hn1331⟩ := hn1328
              have pk1332 : PK w w1323 := PK.tr pk1317 hn1330
              have ro1333 : ∀ l, l < fld w 82 14 → l < 16 → rwv w1323 112 (20 * l) = rwv w 112 (20 * l) := fun l hl h6 => (rwv_fr hF1326 (by decide)).trans (ro1318 l hl h6)
              have hq1334 := pk1332
              unfold PK PS at hq1334
              clear hq1319
              have pj1335 : PK w553 w1323 := PK.tr pj1320 hn1330
              have hq1336 := pj1335
              unfold PK PS at hq1336
              clear hq1321
              have ms1337 : mu w1323 < mu w := Nat.lt_of_le_of_lt hn1330.2.1 ms1322
              have hu1338 : n1327 = 1 → mu w1323 < mu w553 := fun h => Nat.lt_of_lt_of_le (hn1331 h) pj1320.2.1
              refine xg_t (xg_istore (l1 := [(1, (0, kr + 1)), (3, (0, 4)), (0, (2, 82))]) rfl rfl rfl) ?_
              refine xg_t (xg_goto) ?_
              refine xg_t (xg_drop (l1 := [(0, (2, 82)), (1, (0, kr + 1)), (2, (0, n1327))]) (List.forall_mem_cons.mpr ⟨List.mem_cons_of_mem _ (List.mem_cons_of_mem _ (List.mem_cons_of_mem _ (List.mem_cons_self))), List.forall_mem_cons.mpr ⟨List.mem_cons_of_mem _ (List.mem_cons_self), List.forall_mem_cons.mpr ⟨List.mem_cons_self, fun _ h => absurd h List.not_mem_nil⟩⟩⟩)) ?_
              exact ih551 (kr + 1) n1327 w1323 (by omega) (by omega) (by omega) (hI1325) (((((((hF555.tr (hF1212.up (by decide))).tr (hF1263.up (by decide))).tr (hF1280.up (by decide))).tr (hF1297.up (by decide))).tr (hF1314.up (by decide))).tr (hF1326.up (by decide)))) (⟨pk1332, ro1333, ms1337, by omega, by omega, fun _ => by omega, fun h => by omega⟩)
      exact key550 _ 0 1 w43 (Nat.lt_succ_self _) (by omega) (by omega) (hI45) ((hF46.up (by decide))) (⟨pk52, ro53, ms549, by omega, by omega, fun _ => by omega, fun h => by omega⟩)
  · refine xg_t (xg_icF (u := f82_19) (v := 16) rfl xnm0 xnm0 (xj_ltF (by omega) (by omega))) ?_
    refine xg_t (xg_aload (va := (2, 82)) rfl rfl) ?_
    refine xg_t (xg_const) ?_
    refine xg_t (xg_aload (va := (2, 82)) rfl rfl) ?_
    refine xg_t (xg_getf (va := (0, f82_9)) h82_31 rfl) ?_
    refine xg_cVv mX12_also (vs := [(0, 3), (0, f82_9)]) (rest := []) (cn1 := 0) (sl1 := 0) rfl (mAlso (hI) (by omega) (by omega) (by omega) (PK.rf hps).2.2.2) rfl h82_31 rfl rfl rfl rfl rfl rfl (fun w1339 hq1340 => ?_)
    obtain ⟨hI1341, hF1342, hx1343⟩ := hq1340
    have pk1344 : PK w w1339 := ⟨fun _ => hx1343, Nat.le_of_eq (mu_fr hF1342 (by decide)), fld_fr hF1342 (by decide), Or.inr hx1343⟩
    have pk1345 : PK w w1339 := PK.tr (PK.rf hps) pk1344
    have ro1346 : ∀ l, l < fld w 82 14 → l < 16 → rwv w1339 112 (20 * l) = rwv w 112 (20 * l) := fun l hl h6 => (rwv_fr hF1342 (by decide)).trans ((fun l _ _ => rfl) l hl h6)
    have hq1347 := pk1345
    unfold PK PS at hq1347
    have fa1348 : FA w1339 ≠ 0 := hx1343
    refine xg_t (xg_blk (b := [(18, 1, 3, 0, 0, 0), (19, 1, 15, 1, 0, 0), (20, 1, 0, 0, 0, 0), (21, 2, 4, 50, 0, 0), (23, 3, 13, 227, 96, 415), (26, 3, 7, 107, 0, 0), (29, 1, 3, 1, 0, 0), (30, 1, 15, 2, 0, 0)]) rfl) ?_
    refine xg_t (xg_const) ?_
    refine xg_t (xg_istore (l1 := [(0, (2, 82))]) rfl rfl rfl) ?_
    refine xg_t (xg_aload (va := (2, 82)) rfl rfl) ?_
    refine xg_t (xg_bip) ?_
    refine xg_cVi mX12_takes (vs := [(0, 50)]) (rest := []) (cn1 := 0) (sl1 := 0) rfl (mTakes (hI1341) (by omega) pk1345.2.2.2) rfl (hF1342.get (by decide) h82_31) rfl rfl rfl rfl rfl rfl (fun n1353 w1349 hq1350 => ?_)
    obtain ⟨hn1354, hI1351, hF1352⟩ := hq1350
    obtain ⟨hn1355, hn1356, hn1357⟩ := hn1354
    have pk1358 : PK w w1349 := PK.tr pk1345 hn1356
    have ro1359 : ∀ l, l < fld w 82 14 → l < 16 → rwv w1349 112 (20 * l) = rwv w 112 (20 * l) := fun l hl h6 => (rwv_fr hF1352 (by decide)).trans (ro1346 l hl h6)
    have hq1360 := pk1358
    unfold PK PS at hq1360
    clear hq1347
    have fa1361 : FA w1349 ≠ 0 := hn1356.1 fa1348
    by_cases hc1362 : n1353 = 0
    · refine xg_t (xg_ifT (u := n1353) rfl xnm0 (xj_eqT hc1362)) ?_
      refine xg_t (xg_blk (b := [(107, 1, 0, 0, 0, 0), (108, 3, 1, 12, 10, 180), (111, 3, 7, 136, 1, 0), (114, 1, 0, 0, 0, 0), (115, 3, 1, 12, 7, 151), (118, 1, 3, 3, 0, 0), (119, 3, 6, 136, 1, 0), (122, 1, 0, 0, 0, 0), (123, 3, 1, 12, 9, 165), (126, 2, 4, 40, 0, 0), (128, 2, 4, 42, 0, 0), (130, 3, 13, 161, 98, 105), (133, 3, 7, 141, 1, 0)]) rfl) ?_
      refine xg_t (xg_aload (va := (2, 82)) rfl rfl) ?_
      obtain ⟨f82_1363, f82_1365, f82_1367, f82_1369, f82_1371, f82_1373, f82_1375, f82_1377, f82_1379, f82_1381, f82_1383, f82_1384, f82_1385, f82_1387, f82_1389, f82_1391, h82_1393, hb1364, hb1366, hb1368, hb1370, hb1372, hb1374, hb1376, hb1378, hb1380, hb1382, hb1386, hb1388, hb1390, hb1392, hb1394⟩ := (hI1351 82 (by decide) (by decide) : cp82 (wget w1349 82))
      refine xg_t (xg_getf (va := (0, f82_1379)) h82_1393 rfl) ?_
      by_cases hc1395 : f82_1379 = 0
      · refine xg_t (xg_ifF (u := f82_1379) rfl xnm0 (xj_neF hc1395)) ?_
        refine xg_t (xg_aload (va := (2, 82)) rfl rfl) ?_
        refine xg_t (xg_getf (va := (0, f82_1373)) h82_1393 rfl) ?_
        refine xg_t (xg_const) ?_
        by_cases hc1396 : f82_1373 = 3
        · refine xg_t (xg_icF (u := f82_1373) (v := 3) rfl xnm0 xnm0 (xj_neF hc1396)) ?_
          refine xg_t (xg_aload (va := (2, 82)) rfl rfl) ?_
          refine xg_t (xg_getf (va := (0, f82_1377)) h82_1393 rfl) ?_
          refine xg_t (xg_bip) ?_
          refine xg_t (xg_bip) ?_
          refine xg_t (xg_cSr mX12_isIn (vs := [(0, f82_1377), (0, 40), (0, 42)]) (rest := []) (rs := [(0, if 40 ≤ f82_1377 ∧ f82_1377 ≤ 42 then 1 else 0)]) (cn1 := 0) (sl1 := 0) rfl (mIsIn (by omega) (by omega) (by omega)) rfl rfl rfl rfl rfl rfl rfl rfl) ?_
          by_cases hc1397 : 40 ≤ f82_1377 ∧ f82_1377 ≤ 42
          · refine xg_t (xg_ifT (u := (if 40 ≤ f82_1377 ∧ f82_1377 ≤ 42 then 1 else 0)) rfl xnm0 (xj_neT (xite1 hc1397))) ?_
            refine xg_t (xg_blk (b := [(141, 1, 0, 0, 0, 0), (142, 3, 1, 12, 9, 165), (145, 1, 15, 2, 0, 0), (146, 1, 0, 0, 0, 0), (147, 3, 13, 110, 96, 190), (150, 1, 2, 2, 0, 0), (151, 2, 4, 40, 0, 0), (153, 3, 6, 160, 1, 0), (156, 1, 3, 0, 0, 0), (157, 3, 8, 164, 0, 0)]) rfl) ?_
            refine xg_t (xg_aload (va := (2, 82)) rfl rfl) ?_
            refine xg_t (xg_getf (va := (0, f82_1377)) h82_1393 rfl) ?_
            refine xg_t (xg_istore (l1 := [(1, (0, 0)), (0, (2, 82))]) rfl rfl rfl) ?_
            refine xg_t (xg_aload (va := (2, 82)) rfl rfl) ?_
            have hf1398 : fld w1349 82 7 = f82_1373 := fld_of h82_1393
            refine xg_cVv mX12_advance (vs := []) (rest := []) (cn1 := 0) (sl1 := 0) rfl (mAdvance (hI1351)) rfl h82_1393 rfl rfl rfl rfl rfl rfl (fun w1399 hq1400 => ?_)
            obtain ⟨hI1401, hF1402, hx1403⟩ := hq1400
            obtain ⟨hv1404, hv1405, hv1406, hv1407⟩ := hx1403
            have hf1408 := FA_fr hF1402 (by decide)
            have pk1409 : PK w1349 w1399 := ⟨fun _ => by omega, hv1404, hv1407, (show fld w1399 82 10 = 0 ∨ FA w1399 ≠ 0 by omega)⟩
            have pk1410 : PK w w1399 := PK.tr pk1358 pk1409
            have ro1411 : ∀ l, l < fld w 82 14 → l < 16 → rwv w1399 112 (20 * l) = rwv w 112 (20 * l) := fun l hl h6 => (rwv_fr hF1402 (by decide)).trans (ro1359 l hl h6)
            have hq1412 := pk1410
            unfold PK PS at hq1412
            clear hq1360
            have fa1413 : FA w1399 ≠ 0 := pk1409.1 fa1361
            have ms1414 : mu w1399 < mu w := Nat.lt_of_lt_of_le (hv1405 (by omega)) pk1358.2.1
            refine xg_t (xg_iload (va := (0, f82_1377)) rfl rfl) ?_
            refine xg_t (xg_bip) ?_
            by_cases hc1415 : f82_1377 = 40
            · refine xg_t (xg_icF (u := f82_1377) (v := 40) rfl xnm0 xnm0 (xj_neF hc1415)) ?_
              refine xg_t (xg_const) ?_
              refine xg_t (xg_goto) ?_
              refine xg_t (xg_blk (b := [(164, 1, 15, 3, 0, 0), (165, 1, 0, 0, 0, 0), (166, 2, 4, 59, 0, 0), (168, 3, 13, 195, 96, 427), (171, 1, 0, 0, 0, 0), (172, 1, 3, 0, 0, 0), (173, 1, 2, 1, 0, 0), (174, 3, 13, 214, 96, 424), (177, 1, 0, 0, 0, 0), (178, 2, 4, 17, 0, 0), (180, 1, 2, 2, 0, 0), (181, 3, 13, 214, 96, 424), (184, 1, 0, 0, 0, 0), (185, 2, 4, 18, 0, 0), (187, 1, 2, 3, 0, 0), (188, 3, 13, 214, 96, 424), (191, 1, 0, 0, 0, 0), (192, 1, 19, 0, 0, 0), (193, 3, 1, 12, 14, 212), (196, 1, 3, 1, 0, 0), (197, 1, 11, 0, 0, 0), (198, 3, 14, 12, 14, 212), (201, 1, 12, 0, 0, 0)]) rfl) ?_
              refine xg_t (xg_istore (l1 := [(2, (0, f82_1377)), (1, (0, 0)), (0, (2, 82))]) rfl rfl rfl) ?_
              refine xg_t (xg_aload (va := (2, 82)) rfl rfl) ?_
              refine xg_t (xg_bip) ?_
              obtain ⟨f82_1416, f82_1418, f82_1420, f82_1422, f82_1424, f82_1426, f82_1428, f82_1430, f82_1432, f82_1434, f82_1436, f82_1437, f82_1438, f82_1440, f82_1442, f82_1444, h82_1446, hb1417, hb1419, hb1421, hb1423, hb1425, hb1427, hb1429, hb1431, hb1433, hb1435, hb1439, hb1441, hb1443, hb1445, hb1447⟩ := (hI1401 82 (by decide) (by decide) : cp82 (wget w1399 82))
              refine xg_cVv mX12_must (vs := [(0, 59)]) (rest := []) (cn1 := 0) (sl1 := 0) rfl (mMust (hI1401) (by omega) pk1410.2.2.2) rfl h82_1446 rfl rfl rfl rfl rfl rfl (fun w1448 hq1449 => ?_)
              obtain ⟨hI1450, hF1451, hx1452⟩ := hq1449
              have pk1453 : PK w w1448 := PK.tr pk1410 hx1452
              have ro1454 : ∀ l, l < fld w 82 14 → l < 16 → rwv w1448 112 (20 * l) = rwv w 112 (20 * l) := fun l hl h6 => (rwv_fr hF1451 (by decide)).trans (ro1411 l hl h6)
              have hq1455 := pk1453
              unfold PK PS at hq1455
              clear hq1412
              have fa1456 : FA w1448 ≠ 0 := hx1452.1 fa1413
              have ms1457 : mu w1448 < mu w := Nat.lt_of_le_of_lt hx1452.2.1 ms1414
              refine xg_t (xg_aload (va := (2, 82)) rfl rfl) ?_
              refine xg_t (xg_const) ?_
              refine xg_t (xg_iload (va := (0, 0)) rfl rfl) ?_
              have hl1458 : fld w1448 82 14 = fld w 82 14 := pk1453.2.2.1
              have hl1459 : fld w1448 82 14 ≤ 2000 := by omega
              obtain ⟨f82_1460, f82_1462, f82_1464, f82_1466, f82_1468, f82_1470, f82_1472, f82_1474, f82_1476, f82_1478, f82_1480, f82_1481, f82_1482, f82_1484, f82_1486, f82_1488, h82_1490, hb1461, hb1463, hb1465, hb1467, hb1469, hb1471, hb1473, hb1475, hb1477, hb1479, hb1483, hb1485, hb1487, hb1489, hb1491⟩ := (hI1450 82 (by decide) (by decide) : cp82 (wget w1448 82))
              refine xg_cVv mX12_rulePuts (vs := [(0, 0), (0, 0)]) (rest := []) (cn1 := 0) (sl1 := 0) rfl (mRulePuts (hI1450) (by omega) (by omega) (by omega)) rfl h82_1490 rfl rfl rfl rfl rfl rfl (fun w1492 hq1493 => ?_)
              obtain ⟨hI1494, hF1495, hx1496⟩ := hq1493
              have hx1497 := hx1496
              have pk1498 : PK w w1492 := PK.tr pk1453 (PK.fr hF1495 (by decide) (by decide) pk1453.2.2.2)
              have ro1499 : ∀ l, l < fld w 82 14 → l < 16 → rwv w1492 112 (20 * l) = rwv w 112 (20 * l) := fun l hl h6 => ((hx1497 _ (by omega)).2 (by omega)).trans (ro1454 l hl h6)
              have hq1500 := pk1498
              unfold PK PS at hq1500
              clear hq1455
              have fa1501 : FA w1492 ≠ 0 := (PK.fr hF1495 (by decide) (by decide) pk1453.2.2.2).1 fa1456
              have ms1502 : mu w1492 < mu w := Nat.lt_of_le_of_lt (PK.fr hF1495 (by decide) (by decide) pk1453.2.2.2).2.1 ms1457
              have rz1503 : fld w 82 14 < 16 → rwv w1492 112 (20 * fld w 82 14) = 0 := fun h6 => (hx1497 _ (by omega)).1 ⟨by omega, by omega⟩
              refine xg_t (xg_aload (va := (2, 82)) rfl rfl) ?_
              refine xg_t (xg_bip) ?_
              refine xg_t (xg_iload (va := (0, f82_1377)) rfl rfl) ?_
              have hl1504 : fld w1492 82 14 = fld w 82 14 := pk1498.2.2.1
              have hl1505 : fld w1492 82 14 ≤ 2000 := by omega
              refine xg_cVv mX12_rulePuts (vs := [(0, 17), (0, f82_1377)]) (rest := []) (cn1 := 0) (sl1 := 0) rfl (mRulePuts (hI1494) (by omega) (by omega) (by omega)) rfl (hF1495.get (by decide) h82_1490) rfl rfl rfl rfl rfl rfl (fun w1506 hq1507 => ?_)
              obtain ⟨hI1508, hF1509, hx1510⟩ := hq1507
              have hx1511 := hx1510
              have pk1512 : PK w w1506 := PK.tr pk1498 (PK.fr hF1509 (by decide) (by decide) pk1498.2.2.2)
              have ro1513 : ∀ l, l < fld w 82 14 → l < 16 → rwv w1506 112 (20 * l) = rwv w 112 (20 * l) := fun l hl h6 => ((hx1511 _ (by omega)).2 (by omega)).trans (ro1499 l hl h6)
              have hq1514 := pk1512
              unfold PK PS at hq1514
              clear hq1500
              have fa1515 : FA w1506 ≠ 0 := (PK.fr hF1509 (by decide) (by decide) pk1498.2.2.2).1 fa1501
              have ms1516 : mu w1506 < mu w := Nat.lt_of_le_of_lt (PK.fr hF1509 (by decide) (by decide) pk1498.2.2.2).2.1 ms1502
              have rz1517 : fld w 82 14 < 16 → rwv w1506 112 (20 * fld w 82 14) = 0 := fun h6 => ((hx1511 _ (by omega)).2 (by omega)).trans (rz1503 h6)
              refine xg_t (xg_aload (va := (2, 82)) rfl rfl) ?_
              refine xg_t (xg_bip) ?_
              refine xg_t (xg_iload (va := (0, 0)) rfl rfl) ?_
              have hl1518 : fld w1506 82 14 = fld w 82 14 := pk1512.2.2.1
              have hl1519 : fld w1506 82 14 ≤ 2000 := by omega
              refine xg_cVv mX12_rulePuts (vs := [(0, 18), (0, 0)]) (rest := []) (cn1 := 0) (sl1 := 0) rfl (mRulePuts (hI1508) (by omega) (by omega) (by omega)) rfl (hF1509.get (by decide) (hF1495.get (by decide) h82_1490)) rfl rfl rfl rfl rfl rfl (fun w1520 hq1521 => ?_)
              obtain ⟨hI1522, hF1523, hx1524⟩ := hq1521
              have hx1525 := hx1524
              have pk1526 : PK w w1520 := PK.tr pk1512 (PK.fr hF1523 (by decide) (by decide) pk1512.2.2.2)
              have ro1527 : ∀ l, l < fld w 82 14 → l < 16 → rwv w1520 112 (20 * l) = rwv w 112 (20 * l) := fun l hl h6 => ((hx1525 _ (by omega)).2 (by omega)).trans (ro1513 l hl h6)
              have hq1528 := pk1526
              unfold PK PS at hq1528
              clear hq1514
              have fa1529 : FA w1520 ≠ 0 := (PK.fr hF1523 (by decide) (by decide) pk1512.2.2.2).1 fa1515
              have ms1530 : mu w1520 < mu w := Nat.lt_of_le_of_lt (PK.fr hF1523 (by decide) (by decide) pk1512.2.2.2).2.1 ms1516
              have rz1531 : fld w 82 14 < 16 → rwv w1520 112 (20 * fld w 82 14) = 0 := fun h6 => ((hx1525 _ (by omega)).2 (by omega)).trans (rz1517 h6)
              have hf1532 : fld w1520 82 4 = f82_1464 := fld_of (hF1523.get (by decide) (hF1509.get (by decide) (hF1495.get (by decide) h82_1490)))
              have hf1533 : fld w1520 82 5 = f82_1466 := fld_of (hF1523.get (by decide) (hF1509.get (by decide) (hF1495.get (by decide) h82_1490)))
              have hf1534 : fld w1520 82 7 = f82_1470 := fld_of (hF1523.get (by decide) (hF1509.get (by decide) (hF1495.get (by decide) h82_1490)))
              have hf1535 : fld w1520 82 10 = f82_1476 := fld_of (hF1523.get (by decide) (hF1509.get (by decide) (hF1495.get (by decide) h82_1490)))
              have hf1536 : fld w1520 82 14 = f82_1478 := fld_of (hF1523.get (by decide) (hF1509.get (by decide) (hF1495.get (by decide) h82_1490)))
              have hu1537 : mu w1520 = 2 * (fld w1520 82 4 - fld w1520 82 5) + min 1 (fld w1520 82 7) := rfl
              have hl1538 : f82_1478 ≤ 1001 := by omega
              refine xg_t (xg_aload (va := (2, 82)) rfl rfl) ?_
              refine xg_t (xg_dup rfl) ?_
              refine xg_t (xg_getf (va := (0, f82_1478)) (hF1523.get (by decide) (hF1509.get (by decide) (hF1495.get (by decide) h82_1490))) rfl) ?_
              refine xg_t (xg_const) ?_
              refine xg_t (xg_iadd (u := f82_1478) (v := 1) (z := f82_1478 + 1) xnm0 xnm0 (by omega)) ?_
              refine xg_putI (fl1 := [(2, 83), (2, 84), (0, f82_1460), (0, f82_1462), (0, f82_1464), (0, f82_1466), (0, f82_1468), (0, f82_1470), (0, f82_1472), (0, f82_1474), (0, f82_1476), (2, 85), (2, 86), (2, 87), (0, f82_1478 + 1), (2, 88), (2, 89), (2, 90), (2, 91), (2, 92), (2, 93), (2, 94), (4, f82_1480), (4, f82_1481), (0, f82_1482), (2, 95), (2, 96), (2, 97), (2, 98), (2, 99), (2, 100), (2, 101), (2, 102), (0, f82_1484), (2, 103), (2, 104), (2, 105), (2, 106), (2, 107), (2, 108), (2, 109), (0, f82_1486), (0, f82_1488), (2, 110), (2, 111), (2, 112), (2, 113)]) (hF1523.get (by decide) (hF1509.get (by decide) (hF1495.get (by decide) h82_1490))) rfl rfl rfl (fun w1539 hk1540 hb1541 => ?_)
              have hF1542 : xFr [82] w1520 w1539 := xFr.of hb1541 (by decide)
              have hA1543 := FA_fr hF1542 (by decide)
              have hf1544 : fld w1539 82 4 = f82_1464 := fld_of hk1540
              have hf1545 : fld w1539 82 5 = f82_1466 := fld_of hk1540
              have hf1546 : fld w1539 82 7 = f82_1470 := fld_of hk1540
              have hf1547 : fld w1539 82 10 = f82_1476 := fld_of hk1540
              have hf1548 : fld w1539 82 14 = f82_1478 + 1 := fld_of hk1540
              have hu1549 : mu w1539 = 2 * (fld w1539 82 4 - fld w1539 82 5) + min 1 (fld w1539 82 7) := rfl
              have hD1550 : FA w1539 ≠ 0 ∨ (RD w → RD w1539) := by
                by_cases z : FA w1539 ≠ 0
                · exact Or.inl z
                · refine Or.inr (fun hd => ⟨by omega, fun l hl => ?_⟩)
                  rw [rwv_fr hF1542 (by decide)]
                  by_cases y : l = fld w 82 14
                  · rw [y, rz1531 (by omega)]; omega
                  · rw [ro1527 l (by omega) (by have := hd.1; omega)]; exact hd.2 l (by omega)
              exact xg_e ⟨w1539, ⟨rfl, rfl⟩, xMnv.up (S := [82]) hI1522 (xFr.of (S := [82]) hb1541 (by decide)) (List.forall_mem_cons.mpr ⟨(show cp82 (wget w1539 82) from ⟨f82_1460, f82_1462, f82_1464, f82_1466, f82_1468, f82_1470, f82_1472, f82_1474, f82_1476, f82_1478 + 1, f82_1480, f82_1481, f82_1482, f82_1484, f82_1486, f82_1488, hk1540, by omega, by omega, by omega, by omega, by omega, by omega, by omega, by omega, by omega, by omega, by omega, by omega, by omega, by omega, by omega⟩), fun _ h => absurd h List.not_mem_nil⟩), ((((((((hF1342.up (by decide)).tr (hF1352.up (by decide))).tr (hF1402.up (by decide))).tr (hF1451.up (by decide))).tr (hF1495.up (by decide))).tr (hF1509.up (by decide))).tr (hF1523.up (by decide))).tr (xFr.of (S := [82, 83, 112, 113]) hb1541 (by decide))), ⟨fun h => by have := pk1526.1 h; omega, (show fld w1539 82 10 = 0 ∨ FA w1539 ≠ 0 by omega), Or.inr ⟨by have := ms1530; omega, by omega⟩, hD1550⟩⟩
            · refine xg_t (xg_icT (u := f82_1377) (v := 40) rfl xnm0 xnm0 (xj_neT hc1415)) ?_
              refine xg_t (xg_blk (b := [(160, 1, 0, 0, 0, 0), (161, 3, 13, 198, 96, 418)]) rfl) ?_
              refine xg_t (xg_aload (va := (2, 82)) rfl rfl) ?_
              obtain ⟨f82_1551, f82_1553, f82_1555, f82_1557, f82_1559, f82_1561, f82_1563, f82_1565, f82_1567, f82_1569, f82_1571, f82_1572, f82_1573, f82_1575, f82_1577, f82_1579, h82_1581, hb1552, hb1554, hb1556, hb1558, hb1560, hb1562, hb1564, hb1566, hb1568, hb1570, hb1574, hb1576, hb1578, hb1580, hb1582⟩ := (hI1401 82 (by decide) (by decide) : cp82 (wget w1399 82))
              refine xg_cVi mX12_numberNow (vs := []) (rest := []) (cn1 := 0) (sl1 := 0) rfl (mNumberNow (hI1401) pk1410.2.2.2) rfl h82_1581 rfl rfl rfl rfl rfl rfl (fun n1587 w1583 hq1584 => ?_)
              obtain ⟨hn1588, hI1585, hF1586⟩ := hq1584
              obtain ⟨hn1589, hn1590⟩ := hn1588
              have pk1591 : PK w w1583 := PK.tr pk1410 hn1590
              have ro1592 : ∀ l, l < fld w 82 14 → l < 16 → rwv w1583 112 (20 * l) = rwv w 112 (20 * l) := fun l hl h6 => (rwv_fr hF1586 (by decide)).trans (ro1411 l hl h6)
              have hq1593 := pk1591
              unfold PK PS at hq1593
              clear hq1412
              have fa1594 : FA w1583 ≠ 0 := hn1590.1 fa1413
              have ms1595 : mu w1583 < mu w := Nat.lt_of_le_of_lt hn1590.2.1 ms1414
              refine xg_t (xg_blk (b := [(164, 1, 15, 3, 0, 0), (165, 1, 0, 0, 0, 0), (166, 2, 4, 59, 0, 0), (168, 3, 13, 195, 96, 427), (171, 1, 0, 0, 0, 0), (172, 1, 3, 0, 0, 0), (173, 1, 2, 1, 0, 0), (174, 3, 13, 214, 96, 424), (177, 1, 0, 0, 0, 0), (178, 2, 4, 17, 0, 0), (180, 1, 2, 2, 0, 0), (181, 3, 13, 214, 96, 424), (184, 1, 0, 0, 0, 0), (185, 2, 4, 18, 0, 0), (187, 1, 2, 3, 0, 0), (188, 3, 13, 214, 96, 424), (191, 1, 0, 0, 0, 0), (192, 1, 19, 0, 0, 0), (193, 3, 1, 12, 14, 212), (196, 1, 3, 1, 0, 0), (197, 1, 11, 0, 0, 0), (198, 3, 14, 12, 14, 212), (201, 1, 12, 0, 0, 0)]) rfl) ?_
              refine xg_t (xg_istore (l1 := [(2, (0, f82_1377)), (1, (0, 0)), (0, (2, 82))]) rfl rfl rfl) ?_
              refine xg_t (xg_aload (va := (2, 82)) rfl rfl) ?_
              refine xg_t (xg_bip) ?_
              obtain ⟨f82_1596, f82_1598, f82_1600, f82_1602, f82_1604, f82_1606, f82_1608, f82_1610, f82_1612, f82_1614, f82_1616, f82_1617, f82_1618, f82_1620, f82_1622, f82_1624, h82_1626, hb1597, hb1599, hb1601, hb1603, hb1605, hb1607, hb1609, hb1611, hb1613, hb1615, hb1619, hb1621, hb1623, hb1625, hb1627⟩ := (hI1585 82 (by decide) (by decide) : cp82 (wget w1583 82))
              refine xg_cVv mX12_must (vs := [(0, 59)]) (rest := []) (cn1 := 0) (sl1 := 0) rfl (mMust (hI1585) (by omega) pk1591.2.2.2) rfl h82_1626 rfl rfl rfl rfl rfl rfl (fun w1628 hq1629 => ?_)
              obtain ⟨hI1630, hF1631, hx1632⟩ := hq1629
              have pk1633 : PK w w1628 := PK.tr pk1591 hx1632
              have ro1634 : ∀ l, l < fld w 82 14 → l < 16 → rwv w1628 112 (20 * l) = rwv w 112 (20 * l) := fun l hl h6 => (rwv_fr hF1631 (by decide)).trans (ro1592 l hl h6)
              have hq1635 := pk1633
              unfold PK PS at hq1635
              clear hq1593
              have fa1636 : FA w1628 ≠ 0 := hx1632.1 fa1594
              have ms1637 : mu w1628 < mu w := Nat.lt_of_le_of_lt hx1632.2.1 ms1595
              refine xg_t (xg_aload (va := (2, 82)) rfl rfl) ?_
              refine xg_t (xg_const) ?_
              refine xg_t (xg_iload (va := (0, 0)) rfl rfl) ?_
              have hl1638 : fld w1628 82 14 = fld w 82 14 := pk1633.2.2.1
              have hl1639 : fld w1628 82 14 ≤ 2000 := by omega
              obtain ⟨f82_1640, f82_1642, f82_1644, f82_1646, f82_1648, f82_1650, f82_1652, f82_1654, f82_1656, f82_1658, f82_1660, f82_1661, f82_1662, f82_1664, f82_1666, f82_1668, h82_1670, hb1641, hb1643, hb1645, hb1647, hb1649, hb1651, hb1653, hb1655, hb1657, hb1659, hb1663, hb1665, hb1667, hb1669, hb1671⟩ := (hI1630 82 (by decide) (by decide) : cp82 (wget w1628 82))
              refine xg_cVv mX12_rulePuts (vs := [(0, 0), (0, 0)]) (rest := []) (cn1 := 0) (sl1 := 0) rfl (mRulePuts (hI1630) (by omega) (by omega) (by omega)) rfl h82_1670 rfl rfl rfl rfl rfl rfl (fun w1672 hq1673 => ?_)
              obtain ⟨hI1674, hF1675, hx1676⟩ := hq1673
              have hx1677 := hx1676
              have pk1678 : PK w w1672 := PK.tr pk1633 (PK.fr hF1675 (by decide) (by decide) pk1633.2.2.2)
              have ro1679 : ∀ l, l < fld w 82 14 → l < 16 → rwv w1672 112 (20 * l) = rwv w 112 (20 * l) := fun l hl h6 => ((hx1677 _ (by omega)).2 (by omega)).trans (ro1634 l hl h6)
              have hq1680 := pk1678
              unfold PK PS at hq1680
              clear hq1635
              have fa1681 : FA w1672 ≠ 0 := (PK.fr hF1675 (by decide) (by decide) pk1633.2.2.2).1 fa1636
              have ms1682 : mu w1672 < mu w := Nat.lt_of_le_of_lt (PK.fr hF1675 (by decide) (by decide) pk1633.2.2.2).2.1 ms1637
              have rz1683 : fld w 82 14 < 16 → rwv w1672 112 (20 * fld w 82 14) = 0 := fun h6 => (hx1677 _ (by omega)).1 ⟨by omega, by omega⟩
              refine xg_t (xg_aload (va := (2, 82)) rfl rfl) ?_
              refine xg_t (xg_bip) ?_
              refine xg_t (xg_iload (va := (0, f82_1377)) rfl rfl) ?_
              have hl1684 : fld w1672 82 14 = fld w 82 14 := pk1678.2.2.1
              have hl1685 : fld w1672 82 14 ≤ 2000 := by omega
              refine xg_cVv mX12_rulePuts (vs := [(0, 17), (0, f82_1377)]) (rest := []) (cn1 := 0) (sl1 := 0) rfl (mRulePuts (hI1674) (by omega) (by omega) (by omega)) rfl (hF1675.get (by decide) h82_1670) rfl rfl rfl rfl rfl rfl (fun w1686 hq1687 => ?_)
              obtain ⟨hI1688, hF1689, hx1690⟩ := hq1687
              have hx1691 := hx1690
              have pk1692 : PK w w1686 := PK.tr pk1678 (PK.fr hF1689 (by decide) (by decide) pk1678.2.2.2)
              have ro1693 : ∀ l, l < fld w 82 14 → l < 16 → rwv w1686 112 (20 * l) = rwv w 112 (20 * l) := fun l hl h6 => ((hx1691 _ (by omega)).2 (by omega)).trans (ro1679 l hl h6)
              have hq1694 := pk1692
              unfold PK PS at hq1694
              clear hq1680
              have fa1695 : FA w1686 ≠ 0 := (PK.fr hF1689 (by decide) (by decide) pk1678.2.2.2).1 fa1681
              have ms1696 : mu w1686 < mu w := Nat.lt_of_le_of_lt (PK.fr hF1689 (by decide) (by decide) pk1678.2.2.2).2.1 ms1682
              have rz1697 : fld w 82 14 < 16 → rwv w1686 112 (20 * fld w 82 14) = 0 := fun h6 => ((hx1691 _ (by omega)).2 (by omega)).trans (rz1683 h6)
              refine xg_t (xg_aload (va := (2, 82)) rfl rfl) ?_
              refine xg_t (xg_bip) ?_
              refine xg_t (xg_iload (va := (0, n1587)) rfl rfl) ?_
              have hl1698 : fld w1686 82 14 = fld w 82 14 := pk1692.2.2.1
              have hl1699 : fld w1686 82 14 ≤ 2000 := by omega
              refine xg_cVv mX12_rulePuts (vs := [(0, 18), (0, n1587)]) (rest := []) (cn1 := 0) (sl1 := 0) rfl (mRulePuts (hI1688) (by omega) (by omega) (by omega)) rfl (hF1689.get (by decide) (hF1675.get (by decide) h82_1670)) rfl rfl rfl rfl rfl rfl (fun w1700 hq1701 => ?_)
              obtain ⟨hI1702, hF1703, hx1704⟩ := hq1701
              have hx1705 := hx1704
              have pk1706 : PK w w1700 := PK.tr pk1692 (PK.fr hF1703 (by decide) (by decide) pk1692.2.2.2)
              have ro1707 : ∀ l, l < fld w 82 14 → l < 16 → rwv w1700 112 (20 * l) = rwv w 112 (20 * l) := fun l hl h6 => ((hx1705 _ (by omega)).2 (by omega)).trans (ro1693 l hl h6)
              have hq1708 := pk1706
              unfold PK PS at hq1708
              clear hq1694
              have fa1709 : FA w1700 ≠ 0 := (PK.fr hF1703 (by decide) (by decide) pk1692.2.2.2).1 fa1695
              have ms1710 : mu w1700 < mu w := Nat.lt_of_le_of_lt (PK.fr hF1703 (by decide) (by decide) pk1692.2.2.2).2.1 ms1696
              have rz1711 : fld w 82 14 < 16 → rwv w1700 112 (20 * fld w 82 14) = 0 := fun h6 => ((hx1705 _ (by omega)).2 (by omega)).trans (rz1697 h6)
              have hf1712 : fld w1700 82 4 = f82_1644 := fld_of (hF1703.get (by decide) (hF1689.get (by decide) (hF1675.get (by decide) h82_1670)))
              have hf1713 : fld w1700 82 5 = f82_1646 := fld_of (hF1703.get (by decide) (hF1689.get (by decide) (hF1675.get (by decide) h82_1670)))
              have hf1714 : fld w1700 82 7 = f82_1650 := fld_of (hF1703.get (by decide) (hF1689.get (by decide) (hF1675.get (by decide) h82_1670)))
              have hf1715 : fld w1700 82 10 = f82_1656 := fld_of (hF1703.get (by decide) (hF1689.get (by decide) (hF1675.get (by decide) h82_1670)))
              have hf1716 : fld w1700 82 14 = f82_1658 := fld_of (hF1703.get (by decide) (hF1689.get (by decide) (hF1675.get (by decide) h82_1670)))
              have hu1717 : mu w1700 = 2 * (fld w1700 82 4 - fld w1700 82 5) + min 1 (fld w1700 82 7) := rfl
              have hl1718 : f82_1658 ≤ 1001 := by omega
              refine xg_t (xg_aload (va := (2, 82)) rfl rfl) ?_
              refine xg_t (xg_dup rfl) ?_
              refine xg_t (xg_getf (va := (0, f82_1658)) (hF1703.get (by decide) (hF1689.get (by decide) (hF1675.get (by decide) h82_1670))) rfl) ?_
              refine xg_t (xg_const) ?_
              refine xg_t (xg_iadd (u := f82_1658) (v := 1) (z := f82_1658 + 1) xnm0 xnm0 (by omega)) ?_
              refine xg_putI (fl1 := [(2, 83), (2, 84), (0, f82_1640), (0, f82_1642), (0, f82_1644), (0, f82_1646), (0, f82_1648), (0, f82_1650), (0, f82_1652), (0, f82_1654), (0, f82_1656), (2, 85), (2, 86), (2, 87), (0, f82_1658 + 1), (2, 88), (2, 89), (2, 90), (2, 91), (2, 92), (2, 93), (2, 94), (4, f82_1660), (4, f82_1661), (0, f82_1662), (2, 95), (2, 96), (2, 97), (2, 98), (2, 99), (2, 100), (2, 101), (2, 102), (0, f82_1664), (2, 103), (2, 104), (2, 105), (2, 106), (2, 107), (2, 108), (2, 109), (0, f82_1666), (0, f82_1668), (2, 110), (2, 111), (2, 112), (2, 113)]) (hF1703.get (by decide) (hF1689.get (by decide) (hF1675.get (by decide) h82_1670))) rfl rfl rfl (fun w1719 hk1720 hb1721 => ?_)
              have hF1722 : xFr [82] w1700 w1719 := xFr.of hb1721 (by decide)
              have hA1723 := FA_fr hF1722 (by decide)
              have hf1724 : fld w1719 82 4 = f82_1644 := fld_of hk1720
              have hf1725 : fld w1719 82 5 = f82_1646 := fld_of hk1720
              have hf1726 : fld w1719 82 7 = f82_1650 := fld_of hk1720
              have hf1727 : fld w1719 82 10 = f82_1656 := fld_of hk1720
              have hf1728 : fld w1719 82 14 = f82_1658 + 1 := fld_of hk1720
              have hu1729 : mu w1719 = 2 * (fld w1719 82 4 - fld w1719 82 5) + min 1 (fld w1719 82 7) := rfl
              have hD1730 : FA w1719 ≠ 0 ∨ (RD w → RD w1719) := by
                by_cases z : FA w1719 ≠ 0
                · exact Or.inl z
                · refine Or.inr (fun hd => ⟨by omega, fun l hl => ?_⟩)
                  rw [rwv_fr hF1722 (by decide)]
                  by_cases y : l = fld w 82 14
                  · rw [y, rz1711 (by omega)]; omega
                  · rw [ro1707 l (by omega) (by have := hd.1; omega)]; exact hd.2 l (by omega)
              exact xg_e ⟨w1719, ⟨rfl, rfl⟩, xMnv.up (S := [82]) hI1702 (xFr.of (S := [82]) hb1721 (by decide)) (List.forall_mem_cons.mpr ⟨(show cp82 (wget w1719 82) from ⟨f82_1640, f82_1642, f82_1644, f82_1646, f82_1648, f82_1650, f82_1652, f82_1654, f82_1656, f82_1658 + 1, f82_1660, f82_1661, f82_1662, f82_1664, f82_1666, f82_1668, hk1720, by omega, by omega, by omega, by omega, by omega, by omega, by omega, by omega, by omega, by omega, by omega, by omega, by omega, by omega, by omega⟩), fun _ h => absurd h List.not_mem_nil⟩), (((((((((hF1342.up (by decide)).tr (hF1352.up (by decide))).tr (hF1402.up (by decide))).tr (hF1586.up (by decide))).tr (hF1631.up (by decide))).tr (hF1675.up (by decide))).tr (hF1689.up (by decide))).tr (hF1703.up (by decide))).tr (xFr.of (S := [82, 83, 112, 113]) hb1721 (by decide))), ⟨fun h => by have := pk1706.1 h; omega, (show fld w1719 82 10 = 0 ∨ FA w1719 ≠ 0 by omega), Or.inr ⟨by have := ms1710; omega, by omega⟩, hD1730⟩⟩
          · refine xg_t (xg_ifF (u := (if 40 ≤ f82_1377 ∧ f82_1377 ≤ 42 then 1 else 0)) rfl xnm0 (xj_neF (xite0 hc1397))) ?_
            refine xg_t (xg_blk (b := [(136, 1, 0, 0, 0, 0), (137, 3, 13, 140, 96, 183), (140, 1, 12, 0, 0, 0)]) rfl) ?_
            refine xg_t (xg_aload (va := (2, 82)) rfl rfl) ?_
            refine xg_cVv mX12_ends (vs := []) (rest := []) (cn1 := 0) (sl1 := 0) rfl (mEnds (hI1351) pk1358.2.2.2) rfl h82_1393 rfl rfl rfl rfl rfl rfl (fun w1731 hq1732 => ?_)
            obtain ⟨hI1733, hF1734, hx1735⟩ := hq1732
            obtain ⟨hv1736, hv1737, hv1738, hv1739⟩ := hx1735
            have pk1740 : PK w1349 w1731 := ⟨fun _ => hv1736, by omega, by omega, Or.inr hv1736⟩
            have pk1741 : PK w w1731 := PK.tr pk1358 pk1740
            have ro1742 : ∀ l, l < fld w 82 14 → l < 16 → rwv w1731 112 (20 * l) = rwv w 112 (20 * l) := fun l hl h6 => (rwv_fr hF1734 (by decide)).trans (ro1359 l hl h6)
            have hq1743 := pk1741
            unfold PK PS at hq1743
            clear hq1360
            have fa1744 : FA w1731 ≠ 0 := pk1740.1 fa1361
            obtain ⟨f82_1745, f82_1747, f82_1749, f82_1751, f82_1753, f82_1755, f82_1757, f82_1759, f82_1761, f82_1763, f82_1765, f82_1766, f82_1767, f82_1769, f82_1771, f82_1773, h82_1775, hb1746, hb1748, hb1750, hb1752, hb1754, hb1756, hb1758, hb1760, hb1762, hb1764, hb1768, hb1770, hb1772, hb1774, hb1776⟩ := (hI1733 82 (by decide) (by decide) : cp82 (wget w1731 82))
            exact xg_e ⟨w1731, ⟨rfl, rfl⟩, hI1733, (((hF1342.up (by decide)).tr (hF1352.up (by decide))).tr (hF1734.up (by decide))), ⟨pk1741.1, pk1741.2.2.2, Or.inl ⟨by omega, pk1741.2.1, pk1741.2.2.1⟩, Or.inl (by omega)⟩⟩
        · refine xg_t (xg_icT (u := f82_1373) (v := 3) rfl xnm0 xnm0 (xj_neT hc1396)) ?_
          refine xg_t (xg_blk (b := [(136, 1, 0, 0, 0, 0), (137, 3, 13, 140, 96, 183), (140, 1, 12, 0, 0, 0)]) rfl) ?_
          refine xg_t (xg_aload (va := (2, 82)) rfl rfl) ?_
          refine xg_cVv mX12_ends (vs := []) (rest := []) (cn1 := 0) (sl1 := 0) rfl (mEnds (hI1351) pk1358.2.2.2) rfl h82_1393 rfl rfl rfl rfl rfl rfl (fun w1777 hq1778 => ?_)
          obtain ⟨hI1779, hF1780, hx1781⟩ := hq1778
          obtain ⟨hv1782, hv1783, hv1784, hv1785⟩ := hx1781
          have pk1786 : PK w1349 w1777 := ⟨fun _ => hv1782, by omega, by omega, Or.inr hv1782⟩
          have pk1787 : PK w w1777 := PK.tr pk1358 pk1786
          have ro1788 : ∀ l, l < fld w 82 14 → l < 16 → rwv w1777 112 (20 * l) = rwv w 112 (20 * l) := fun l hl h6 => (rwv_fr hF1780 (by decide)).trans (ro1359 l hl h6)
          have hq1789 := pk1787
          unfold PK PS at hq1789
          clear hq1360
          have fa1790 : FA w1777 ≠ 0 := pk1786.1 fa1361
          obtain ⟨f82_1791, f82_1793, f82_1795, f82_1797, f82_1799, f82_1801, f82_1803, f82_1805, f82_1807, f82_1809, f82_1811, f82_1812, f82_1813, f82_1815, f82_1817, f82_1819, h82_1821, hb1792, hb1794, hb1796, hb1798, hb1800, hb1802, hb1804, hb1806, hb1808, hb1810, hb1814, hb1816, hb1818, hb1820, hb1822⟩ := (hI1779 82 (by decide) (by decide) : cp82 (wget w1777 82))
          exact xg_e ⟨w1777, ⟨rfl, rfl⟩, hI1779, (((hF1342.up (by decide)).tr (hF1352.up (by decide))).tr (hF1780.up (by decide))), ⟨pk1787.1, pk1787.2.2.2, Or.inl ⟨by omega, pk1787.2.1, pk1787.2.2.1⟩, Or.inl (by omega)⟩⟩
      · refine xg_t (xg_ifT (u := f82_1379) rfl xnm0 (xj_neT hc1395)) ?_
        refine xg_t (xg_blk (b := [(136, 1, 0, 0, 0, 0), (137, 3, 13, 140, 96, 183), (140, 1, 12, 0, 0, 0)]) rfl) ?_
        refine xg_t (xg_aload (va := (2, 82)) rfl rfl) ?_
        refine xg_cVv mX12_ends (vs := []) (rest := []) (cn1 := 0) (sl1 := 0) rfl (mEnds (hI1351) pk1358.2.2.2) rfl h82_1393 rfl rfl rfl rfl rfl rfl (fun w1823 hq1824 => ?_)
        obtain ⟨hI1825, hF1826, hx1827⟩ := hq1824
        obtain ⟨hv1828, hv1829, hv1830, hv1831⟩ := hx1827
        have pk1832 : PK w1349 w1823 := ⟨fun _ => hv1828, by omega, by omega, Or.inr hv1828⟩
        have pk1833 : PK w w1823 := PK.tr pk1358 pk1832
        have ro1834 : ∀ l, l < fld w 82 14 → l < 16 → rwv w1823 112 (20 * l) = rwv w 112 (20 * l) := fun l hl h6 => (rwv_fr hF1826 (by decide)).trans (ro1359 l hl h6)
        have hq1835 := pk1833
        unfold PK PS at hq1835
        clear hq1360
        have fa1836 : FA w1823 ≠ 0 := pk1832.1 fa1361
        obtain ⟨f82_1837, f82_1839, f82_1841, f82_1843, f82_1845, f82_1847, f82_1849, f82_1851, f82_1853, f82_1855, f82_1857, f82_1858, f82_1859, f82_1861, f82_1863, f82_1865, h82_1867, hb1838, hb1840, hb1842, hb1844, hb1846, hb1848, hb1850, hb1852, hb1854, hb1856, hb1860, hb1862, hb1864, hb1866, hb1868⟩ := (hI1825 82 (by decide) (by decide) : cp82 (wget w1823 82))
        exact xg_e ⟨w1823, ⟨rfl, rfl⟩, hI1825, (((hF1342.up (by decide)).tr (hF1352.up (by decide))).tr (hF1826.up (by decide))), ⟨pk1833.1, pk1833.2.2.2, Or.inl ⟨by omega, pk1833.2.1, pk1833.2.2.1⟩, Or.inl (by omega)⟩⟩
    · have ms1869 : mu w1349 < mu w := Nat.lt_of_lt_of_le (hn1357 (by omega)) pk1345.2.1
      refine xg_t (xg_ifF (u := n1353) rfl xnm0 (xj_eqF hc1362)) ?_
      refine xg_t (xg_const) ?_
      refine xg_t (xg_istore (l1 := [(1, (0, 0)), (0, (2, 82))]) rfl rfl rfl) ?_
      refine xg_t (xg_drop (l1 := [(0, (2, 82)), (1, (0, 0)), (2, (0, 1))]) (List.forall_mem_cons.mpr ⟨List.mem_cons_of_mem _ (List.mem_cons_of_mem _ (List.mem_cons_self)), List.forall_mem_cons.mpr ⟨List.mem_cons_of_mem _ (List.mem_cons_self), List.forall_mem_cons.mpr ⟨List.mem_cons_self, fun _ h => absurd h List.not_mem_nil⟩⟩⟩)) ?_
      have key1870 : ∀ (m1872 : Nat) (kr mo : Nat) (w1873 : List (List xE)), 2 * mu w1873 + mo < m1872 → kr ≤ 1002 → mo ≤ 1 → xMnv w1873 → xFr [82, 83, 112, 113] w w1873 → (PK w w1873 ∧ (∀ l, l < fld w 82 14 → l < 16 → rwv w1873 112 (20 * l) = rwv w 112 (20 * l)) ∧ mu w1873 < mu w ∧ (FA w1873 ≠ 0 ∨ kr ≤ 4) ∧ kr + mu w1873 ≤ 1002 ∧ (mo = 1 → kr + mu w1873 ≤ 1001) ∧ (16 ≤ fld w 82 14 → FA w1873 ≠ 0)) → xTo (d + 7) mX12_aRule (31, [], [(0, (2, 82)), (1, (0, kr)), (2, (0, mo))], [], (w1873, bd, fc, 0, 0, rr)) (fun φ => ∃ w', xEnd 0 [] (w', bd, fc, 0, 0, rr) φ ∧ xMnv w' ∧ xFr [82, 83, 112, 113] w w' ∧ ((FA w ≠ 0 → FA w' ≠ 0) ∧ PS w' ∧ ((fld w' 82 10 = 1 ∧ mu w' ≤ mu w ∧ fld w' 82 14 = fld w 82 14) ∨ (mu w' < mu w ∧ fld w' 82 14 = fld w 82 14 + 1)) ∧ (FA w' ≠ 0 ∨ (RD w → RD w')))) := by
        intro m1872
        induction m1872 with
        | zero => intro kr mo w1873 hz; exact absurd hz (Nat.not_lt_zero _)
        | succ m1872 ih1871 =>
          intro kr mo w1873 hm1879 hn1876 hn1877 hI1874 hF1875 he1878
          obtain ⟨hz1880, hz1881, hz1882, hz1883, hz1884, hz1885, hz1886⟩ := he1878
          have hq1887 := hz1880
          unfold PK PS at hq1887
          obtain ⟨f82_1888, f82_1890, f82_1892, f82_1894, f82_1896, f82_1898, f82_1900, f82_1902, f82_1904, f82_1906, f82_1908, f82_1909, f82_1910, f82_1912, f82_1914, f82_1916, h82_1918, hb1889, hb1891, hb1893, hb1895, hb1897, hb1899, hb1901, hb1903, hb1905, hb1907, hb1911, hb1913, hb1915, hb1917, hb1919⟩ := (hI1874 82 (by decide) (by decide) : cp82 (wget w1873 82))
          refine xg_t (xg_blk (b := [(31, 1, 2, 2, 0, 0), (32, 3, 7, 101, 0, 0), (35, 1, 2, 1, 0, 0), (36, 1, 3, 3, 0, 0), (37, 3, 6, 49, 5, 0), (40, 1, 0, 0, 0, 0), (41, 1, 3, 3, 0, 0), (42, 1, 0, 0, 0, 0), (43, 3, 1, 12, 6, 148), (46, 3, 13, 115, 96, 186)]) rfl) ?_
          refine xg_t (xg_iload (va := (0, mo)) rfl rfl) ?_
          by_cases hc1920 : mo = 0
          · refine xg_t (xg_ifT (u := mo) rfl xnm0 (xj_eqT hc1920)) ?_
            refine xg_t (xg_blk (b := [(101, 1, 0, 0, 0, 0), (102, 2, 4, 58, 0, 0), (104, 3, 13, 195, 96, 427)]) rfl) ?_
            refine xg_t (xg_aload (va := (2, 82)) rfl rfl) ?_
            refine xg_t (xg_bip) ?_
            refine xg_cVv mX12_must (vs := [(0, 58)]) (rest := []) (cn1 := 0) (sl1 := 0) rfl (mMust (hI1874) (by omega) hz1880.2.2.2) rfl h82_1918 rfl rfl rfl rfl rfl rfl (fun w1921 hq1922 => ?_)
            obtain ⟨hI1923, hF1924, hx1925⟩ := hq1922
            have pk1926 : PK w w1921 := PK.tr hz1880 hx1925
            have ro1927 : ∀ l, l < fld w 82 14 → l < 16 → rwv w1921 112 (20 * l) = rwv w 112 (20 * l) := fun l hl h6 => (rwv_fr hF1924 (by decide)).trans (hz1881 l hl h6)
            have hq1928 := pk1926
            unfold PK PS at hq1928
            clear hq1887
            have pj1929 : PK w1873 w1921 := PK.tr (PK.rf hz1880.2.2.2) hx1925
            have hq1930 := pj1929
            unfold PK PS at hq1930
            have ms1931 : mu w1921 < mu w := Nat.lt_of_le_of_lt hx1925.2.1 hz1882
            refine xg_t (xg_blk (b := [(107, 1, 0, 0, 0, 0), (108, 3, 1, 12, 10, 180), (111, 3, 7, 136, 1, 0), (114, 1, 0, 0, 0, 0), (115, 3, 1, 12, 7, 151), (118, 1, 3, 3, 0, 0), (119, 3, 6, 136, 1, 0), (122, 1, 0, 0, 0, 0), (123, 3, 1, 12, 9, 165), (126, 2, 4, 40, 0, 0), (128, 2, 4, 42, 0, 0), (130, 3, 13, 161, 98, 105), (133, 3, 7, 141, 1, 0)]) rfl) ?_
            refine xg_t (xg_aload (va := (2, 82)) rfl rfl) ?_
            obtain ⟨f82_1932, f82_1934, f82_1936, f82_1938, f82_1940, f82_1942, f82_1944, f82_1946, f82_1948, f82_1950, f82_1952, f82_1953, f82_1954, f82_1956, f82_1958, f82_1960, h82_1962, hb1933, hb1935, hb1937, hb1939, hb1941, hb1943, hb1945, hb1947, hb1949, hb1951, hb1955, hb1957, hb1959, hb1961, hb1963⟩ := (hI1923 82 (by decide) (by decide) : cp82 (wget w1921 82))
            refine xg_t (xg_getf (va := (0, f82_1948)) h82_1962 rfl) ?_
            by_cases hc1964 : f82_1948 = 0
            · refine xg_t (xg_ifF (u := f82_1948) rfl xnm0 (xj_neF hc1964)) ?_
              refine xg_t (xg_aload (va := (2, 82)) rfl rfl) ?_
              refine xg_t (xg_getf (va := (0, f82_1942)) h82_1962 rfl) ?_
              refine xg_t (xg_const) ?_
              by_cases hc1965 : f82_1942 = 3
              · refine xg_t (xg_icF (u := f82_1942) (v := 3) rfl xnm0 xnm0 (xj_neF hc1965)) ?_
                refine xg_t (xg_aload (va := (2, 82)) rfl rfl) ?_
                refine xg_t (xg_getf (va := (0, f82_1946)) h82_1962 rfl) ?_
                refine xg_t (xg_bip) ?_
                refine xg_t (xg_bip) ?_
                refine xg_t (xg_cSr mX12_isIn (vs := [(0, f82_1946), (0, 40), (0, 42)]) (rest := []) (rs := [(0, if 40 ≤ f82_1946 ∧ f82_1946 ≤ 42 then 1 else 0)]) (cn1 := 0) (sl1 := 0) rfl (mIsIn (by omega) (by omega) (by omega)) rfl rfl rfl rfl rfl rfl rfl rfl) ?_
                by_cases hc1966 : 40 ≤ f82_1946 ∧ f82_1946 ≤ 42
                · refine xg_t (xg_ifT (u := (if 40 ≤ f82_1946 ∧ f82_1946 ≤ 42 then 1 else 0)) rfl xnm0 (xj_neT (xite1 hc1966))) ?_
                  refine xg_t (xg_blk (b := [(141, 1, 0, 0, 0, 0), (142, 3, 1, 12, 9, 165), (145, 1, 15, 2, 0, 0), (146, 1, 0, 0, 0, 0), (147, 3, 13, 110, 96, 190), (150, 1, 2, 2, 0, 0), (151, 2, 4, 40, 0, 0), (153, 3, 6, 160, 1, 0), (156, 1, 3, 0, 0, 0), (157, 3, 8, 164, 0, 0)]) rfl) ?_
                  refine xg_t (xg_aload (va := (2, 82)) rfl rfl) ?_
                  refine xg_t (xg_getf (va := (0, f82_1946)) h82_1962 rfl) ?_
                  refine xg_t (xg_istore (l1 := [(0, (2, 82)), (1, (0, kr))]) rfl rfl rfl) ?_
                  refine xg_t (xg_aload (va := (2, 82)) rfl rfl) ?_
                  have hf1967 : fld w1921 82 7 = f82_1942 := fld_of h82_1962
                  refine xg_cVv mX12_advance (vs := []) (rest := []) (cn1 := 0) (sl1 := 0) rfl (mAdvance (hI1923)) rfl h82_1962 rfl rfl rfl rfl rfl rfl (fun w1968 hq1969 => ?_)
                  obtain ⟨hI1970, hF1971, hx1972⟩ := hq1969
                  obtain ⟨hv1973, hv1974, hv1975, hv1976⟩ := hx1972
                  have hf1977 := FA_fr hF1971 (by decide)
                  have pk1978 : PK w1921 w1968 := ⟨fun _ => by omega, hv1973, hv1976, (show fld w1968 82 10 = 0 ∨ FA w1968 ≠ 0 by omega)⟩
                  have pk1979 : PK w w1968 := PK.tr pk1926 pk1978
                  have ro1980 : ∀ l, l < fld w 82 14 → l < 16 → rwv w1968 112 (20 * l) = rwv w 112 (20 * l) := fun l hl h6 => (rwv_fr hF1971 (by decide)).trans (ro1927 l hl h6)
                  have hq1981 := pk1979
                  unfold PK PS at hq1981
                  clear hq1928
                  have pj1982 : PK w1873 w1968 := PK.tr pj1929 pk1978
                  have hq1983 := pj1982
                  unfold PK PS at hq1983
                  clear hq1930
                  have ms1984 : mu w1968 < mu w := Nat.lt_of_le_of_lt pk1978.2.1 ms1931
                  refine xg_t (xg_iload (va := (0, f82_1946)) rfl rfl) ?_
                  refine xg_t (xg_bip) ?_
                  by_cases hc1985 : f82_1946 = 40
                  · refine xg_t (xg_icF (u := f82_1946) (v := 40) rfl xnm0 xnm0 (xj_neF hc1985)) ?_
                    refine xg_t (xg_const) ?_
                    refine xg_t (xg_goto) ?_
                    refine xg_t (xg_blk (b := [(164, 1, 15, 3, 0, 0), (165, 1, 0, 0, 0, 0), (166, 2, 4, 59, 0, 0), (168, 3, 13, 195, 96, 427), (171, 1, 0, 0, 0, 0), (172, 1, 3, 0, 0, 0), (173, 1, 2, 1, 0, 0), (174, 3, 13, 214, 96, 424), (177, 1, 0, 0, 0, 0), (178, 2, 4, 17, 0, 0), (180, 1, 2, 2, 0, 0), (181, 3, 13, 214, 96, 424), (184, 1, 0, 0, 0, 0), (185, 2, 4, 18, 0, 0), (187, 1, 2, 3, 0, 0), (188, 3, 13, 214, 96, 424), (191, 1, 0, 0, 0, 0), (192, 1, 19, 0, 0, 0), (193, 3, 1, 12, 14, 212), (196, 1, 3, 1, 0, 0), (197, 1, 11, 0, 0, 0), (198, 3, 14, 12, 14, 212), (201, 1, 12, 0, 0, 0)]) rfl) ?_
                    refine xg_t (xg_istore (l1 := [(2, (0, f82_1946)), (0, (2, 82)), (1, (0, kr))]) rfl rfl rfl) ?_
                    refine xg_t (xg_aload (va := (2, 82)) rfl rfl) ?_
                    refine xg_t (xg_bip) ?_
                    obtain ⟨f82_1986, f82_1988, f82_1990, f82_1992, f82_1994, f82_1996, f82_1998, f82_2000, f82_2002, f82_2004, f82_2006, f82_2007, f82_2008, f82_2010, f82_2012, f82_2014, h82_2016, hb1987, hb1989, hb1991, hb1993, hb1995, hb1997, hb1999, hb2001, hb2003, hb2005, hb2009, hb2011, hb2013, hb2015, hb2017⟩ := (hI1970 82 (by decide) (by decide) : cp82 (wget w1968 82))
                    refine xg_cVv mX12_must (vs := [(0, 59)]) (rest := []) (cn1 := 0) (sl1 := 0) rfl (mMust (hI1970) (by omega) pk1979.2.2.2) rfl h82_2016 rfl rfl rfl rfl rfl rfl (fun w2018 hq2019 => ?_)
                    obtain ⟨hI2020, hF2021, hx2022⟩ := hq2019
                    have pk2023 : PK w w2018 := PK.tr pk1979 hx2022
                    have ro2024 : ∀ l, l < fld w 82 14 → l < 16 → rwv w2018 112 (20 * l) = rwv w 112 (20 * l) := fun l hl h6 => (rwv_fr hF2021 (by decide)).trans (ro1980 l hl h6)
                    have hq2025 := pk2023
                    unfold PK PS at hq2025
                    clear hq1981
                    have pj2026 : PK w1873 w2018 := PK.tr pj1982 hx2022
                    have hq2027 := pj2026
                    unfold PK PS at hq2027
                    clear hq1983
                    have ms2028 : mu w2018 < mu w := Nat.lt_of_le_of_lt hx2022.2.1 ms1984
                    refine xg_t (xg_aload (va := (2, 82)) rfl rfl) ?_
                    refine xg_t (xg_const) ?_
                    refine xg_t (xg_iload (va := (0, kr)) rfl rfl) ?_
                    have hl2029 : fld w2018 82 14 = fld w 82 14 := pk2023.2.2.1
                    have hl2030 : fld w2018 82 14 ≤ 2000 := by omega
                    obtain ⟨f82_2031, f82_2033, f82_2035, f82_2037, f82_2039, f82_2041, f82_2043, f82_2045, f82_2047, f82_2049, f82_2051, f82_2052, f82_2053, f82_2055, f82_2057, f82_2059, h82_2061, hb2032, hb2034, hb2036, hb2038, hb2040, hb2042, hb2044, hb2046, hb2048, hb2050, hb2054, hb2056, hb2058, hb2060, hb2062⟩ := (hI2020 82 (by decide) (by decide) : cp82 (wget w2018 82))
                    refine xg_cVv mX12_rulePuts (vs := [(0, 0), (0, kr)]) (rest := []) (cn1 := 0) (sl1 := 0) rfl (mRulePuts (hI2020) (by omega) (by omega) (by omega)) rfl h82_2061 rfl rfl rfl rfl rfl rfl (fun w2063 hq2064 => ?_)
                    obtain ⟨hI2065, hF2066, hx2067⟩ := hq2064
                    have hx2068 := hx2067
                    have pk2069 : PK w w2063 := PK.tr pk2023 (PK.fr hF2066 (by decide) (by decide) pk2023.2.2.2)
                    have ro2070 : ∀ l, l < fld w 82 14 → l < 16 → rwv w2063 112 (20 * l) = rwv w 112 (20 * l) := fun l hl h6 => ((hx2068 _ (by omega)).2 (by omega)).trans (ro2024 l hl h6)
                    have hq2071 := pk2069
                    unfold PK PS at hq2071
                    clear hq2025
                    have pj2072 : PK w1873 w2063 := PK.tr pj2026 (PK.fr hF2066 (by decide) (by decide) pk2023.2.2.2)
                    have hq2073 := pj2072
                    unfold PK PS at hq2073
                    clear hq2027
                    have ms2074 : mu w2063 < mu w := Nat.lt_of_le_of_lt (PK.fr hF2066 (by decide) (by decide) pk2023.2.2.2).2.1 ms2028
                    have rz2075 : fld w 82 14 < 16 → rwv w2063 112 (20 * fld w 82 14) = kr := fun h6 => (hx2068 _ (by omega)).1 ⟨by omega, by omega⟩
                    refine xg_t (xg_aload (va := (2, 82)) rfl rfl) ?_
                    refine xg_t (xg_bip) ?_
                    refine xg_t (xg_iload (va := (0, f82_1946)) rfl rfl) ?_
                    have hl2076 : fld w2063 82 14 = fld w 82 14 := pk2069.2.2.1
                    have hl2077 : fld w2063 82 14 ≤ 2000 := by omega
                    refine xg_cVv mX12_rulePuts (vs := [(0, 17), (0, f82_1946)]) (rest := []) (cn1 := 0) (sl1 := 0) rfl (mRulePuts (hI2065) (by omega) (by omega) (by omega)) rfl (hF2066.get (by decide) h82_2061) rfl rfl rfl rfl rfl rfl (fun w2078 hq2079 => ?_)
                    obtain ⟨hI2080, hF2081, hx2082⟩ := hq2079
                    have hx2083 := hx2082
                    have pk2084 : PK w w2078 := PK.tr pk2069 (PK.fr hF2081 (by decide) (by decide) pk2069.2.2.2)
                    have ro2085 : ∀ l, l < fld w 82 14 → l < 16 → rwv w2078 112 (20 * l) = rwv w 112 (20 * l) := fun l hl h6 => ((hx2083 _ (by omega)).2 (by omega)).trans (ro2070 l hl h6)
                    have hq2086 := pk2084
                    unfold PK PS at hq2086
                    clear hq2071
                    have pj2087 : PK w1873 w2078 := PK.tr pj2072 (PK.fr hF2081 (by decide) (by decide) pk2069.2.2.2)
                    have hq2088 := pj2087
                    unfold PK PS at hq2088
                    clear hq2073
                    have ms2089 : mu w2078 < mu w := Nat.lt_of_le_of_lt (PK.fr hF2081 (by decide) (by decide) pk2069.2.2.2).2.1 ms2074
                    have rz2090 : fld w 82 14 < 16 → rwv w2078 112 (20 * fld w 82 14) = kr := fun h6 => ((hx2083 _ (by omega)).2 (by omega)).trans (rz2075 h6)
                    refine xg_t (xg_aload (va := (2, 82)) rfl rfl) ?_
                    refine xg_t (xg_bip) ?_
                    refine xg_t (xg_iload (va := (0, 0)) rfl rfl) ?_
                    have hl2091 : fld w2078 82 14 = fld w 82 14 := pk2084.2.2.1
                    have hl2092 : fld w2078 82 14 ≤ 2000 := by omega
                    refine xg_cVv mX12_rulePuts (vs := [(0, 18), (0, 0)]) (rest := []) (cn1 := 0) (sl1 := 0) rfl (mRulePuts (hI2080) (by omega) (by omega) (by omega)) rfl (hF2081.get (by decide) (hF2066.get (by decide) h82_2061)) rfl rfl rfl rfl rfl rfl (fun w2093 hq2094 => ?_)
                    obtain ⟨hI2095, hF2096, hx2097⟩ := hq2094
                    have hx2098 := hx2097
                    have pk2099 : PK w w2093 := PK.tr pk2084 (PK.fr hF2096 (by decide) (by decide) pk2084.2.2.2)
                    have ro2100 : ∀ l, l < fld w 82 14 → l < 16 → rwv w2093 112 (20 * l) = rwv w 112 (20 * l) := fun l hl h6 => ((hx2098 _ (by omega)).2 (by omega)).trans (ro2085 l hl h6)
                    have hq2101 := pk2099
                    unfold PK PS at hq2101
                    clear hq2086
                    have pj2102 : PK w1873 w2093 := PK.tr pj2087 (PK.fr hF2096 (by decide) (by decide) pk2084.2.2.2)
                    have hq2103 := pj2102
                    unfold PK PS at hq2103
                    clear hq2088
                    have ms2104 : mu w2093 < mu w := Nat.lt_of_le_of_lt (PK.fr hF2096 (by decide) (by decide) pk2084.2.2.2).2.1 ms2089
                    have rz2105 : fld w 82 14 < 16 → rwv w2093 112 (20 * fld w 82 14) = kr := fun h6 => ((hx2098 _ (by omega)).2 (by omega)).trans (rz2090 h6)
                    have hf2106 : fld w2093 82 4 = f82_2035 := fld_of (hF2096.get (by decide) (hF2081.get (by decide) (hF2066.get (by decide) h82_2061)))
                    have hf2107 : fld w2093 82 5 = f82_2037 := fld_of (hF2096.get (by decide) (hF2081.get (by decide) (hF2066.get (by decide) h82_2061)))
                    have hf2108 : fld w2093 82 7 = f82_2041 := fld_of (hF2096.get (by decide) (hF2081.get (by decide) (hF2066.get (by decide) h82_2061)))
                    have hf2109 : fld w2093 82 10 = f82_2047 := fld_of (hF2096.get (by decide) (hF2081.get (by decide) (hF2066.get (by decide) h82_2061)))
                    have hf2110 : fld w2093 82 14 = f82_2049 := fld_of (hF2096.get (by decide) (hF2081.get (by decide) (hF2066.get (by decide) h82_2061)))
                    have hu2111 : mu w2093 = 2 * (fld w2093 82 4 - fld w2093 82 5) + min 1 (fld w2093 82 7) := rfl
                    have hl2112 : f82_2049 ≤ 1001 := by omega
                    refine xg_t (xg_aload (va := (2, 82)) rfl rfl) ?_
                    refine xg_t (xg_dup rfl) ?_
                    refine xg_t (xg_getf (va := (0, f82_2049)) (hF2096.get (by decide) (hF2081.get (by decide) (hF2066.get (by decide) h82_2061))) rfl) ?_
                    refine xg_t (xg_const) ?_
                    refine xg_t (xg_iadd (u := f82_2049) (v := 1) (z := f82_2049 + 1) xnm0 xnm0 (by omega)) ?_
                    refine xg_putI (fl1 := [(2, 83), (2, 84), (0, f82_2031), (0, f82_2033), (0, f82_2035), (0, f82_2037), (0, f82_2039), (0, f82_2041), (0, f82_2043), (0, f82_2045), (0, f82_2047), (2, 85), (2, 86), (2, 87), (0, f82_2049 + 1), (2, 88), (2, 89), (2, 90), (2, 91), (2, 92), (2, 93), (2, 94), (4, f82_2051), (4, f82_2052), (0, f82_2053), (2, 95), (2, 96), (2, 97), (2, 98), (2, 99), (2, 100), (2, 101), (2, 102), (0, f82_2055), (2, 103), (2, 104), (2, 105), (2, 106), (2, 107), (2, 108), (2, 109), (0, f82_2057), (0, f82_2059), (2, 110), (2, 111), (2, 112), (2, 113)]) (hF2096.get (by decide) (hF2081.get (by decide) (hF2066.get (by decide) h82_2061))) rfl rfl rfl (fun w2113 hk2114 hb2115 => ?_)
                    have hF2116 : xFr [82] w2093 w2113 := xFr.of hb2115 (by decide)
                    have hA2117 := FA_fr hF2116 (by decide)
                    have hf2118 : fld w2113 82 4 = f82_2035 := fld_of hk2114
                    have hf2119 : fld w2113 82 5 = f82_2037 := fld_of hk2114
                    have hf2120 : fld w2113 82 7 = f82_2041 := fld_of hk2114
                    have hf2121 : fld w2113 82 10 = f82_2047 := fld_of hk2114
                    have hf2122 : fld w2113 82 14 = f82_2049 + 1 := fld_of hk2114
                    have hu2123 : mu w2113 = 2 * (fld w2113 82 4 - fld w2113 82 5) + min 1 (fld w2113 82 7) := rfl
                    have hD2124 : FA w2113 ≠ 0 ∨ (RD w → RD w2113) := by
                      by_cases z : FA w2113 ≠ 0
                      · exact Or.inl z
                      · refine Or.inr (fun hd => ⟨by omega, fun l hl => ?_⟩)
                        rw [rwv_fr hF2116 (by decide)]
                        by_cases y : l = fld w 82 14
                        · rw [y, rz2105 (by omega)]; omega
                        · rw [ro2100 l (by omega) (by have := hd.1; omega)]; exact hd.2 l (by omega)
                    exact xg_e ⟨w2113, ⟨rfl, rfl⟩, xMnv.up (S := [82]) hI2095 (xFr.of (S := [82]) hb2115 (by decide)) (List.forall_mem_cons.mpr ⟨(show cp82 (wget w2113 82) from ⟨f82_2031, f82_2033, f82_2035, f82_2037, f82_2039, f82_2041, f82_2043, f82_2045, f82_2047, f82_2049 + 1, f82_2051, f82_2052, f82_2053, f82_2055, f82_2057, f82_2059, hk2114, by omega, by omega, by omega, by omega, by omega, by omega, by omega, by omega, by omega, by omega, by omega, by omega, by omega, by omega, by omega⟩), fun _ h => absurd h List.not_mem_nil⟩), (((((((hF1875.tr (hF1924.up (by decide))).tr (hF1971.up (by decide))).tr (hF2021.up (by decide))).tr (hF2066.up (by decide))).tr (hF2081.up (by decide))).tr (hF2096.up (by decide))).tr (xFr.of (S := [82, 83, 112, 113]) hb2115 (by decide))), ⟨fun h => by have := pk2099.1 h; omega, (show fld w2113 82 10 = 0 ∨ FA w2113 ≠ 0 by omega), Or.inr ⟨by have := ms2104; omega, by omega⟩, hD2124⟩⟩
                  · refine xg_t (xg_icT (u := f82_1946) (v := 40) rfl xnm0 xnm0 (xj_neT hc1985)) ?_
                    refine xg_t (xg_blk (b := [(160, 1, 0, 0, 0, 0), (161, 3, 13, 198, 96, 418)]) rfl) ?_
                    refine xg_t (xg_aload (va := (2, 82)) rfl rfl) ?_
                    obtain ⟨f82_2125, f82_2127, f82_2129, f82_2131, f82_2133, f82_2135, f82_2137, f82_2139, f82_2141, f82_2143, f82_2145, f82_2146, f82_2147, f82_2149, f82_2151, f82_2153, h82_2155, hb2126, hb2128, hb2130, hb2132, hb2134, hb2136, hb2138, hb2140, hb2142, hb2144, hb2148, hb2150, hb2152, hb2154, hb2156⟩ := (hI1970 82 (by decide) (by decide) : cp82 (wget w1968 82))
                    refine xg_cVi mX12_numberNow (vs := []) (rest := []) (cn1 := 0) (sl1 := 0) rfl (mNumberNow (hI1970) pk1979.2.2.2) rfl h82_2155 rfl rfl rfl rfl rfl rfl (fun n2161 w2157 hq2158 => ?_)
                    obtain ⟨hn2162, hI2159, hF2160⟩ := hq2158
                    obtain ⟨hn2163, hn2164⟩ := hn2162
                    have pk2165 : PK w w2157 := PK.tr pk1979 hn2164
                    have ro2166 : ∀ l, l < fld w 82 14 → l < 16 → rwv w2157 112 (20 * l) = rwv w 112 (20 * l) := fun l hl h6 => (rwv_fr hF2160 (by decide)).trans (ro1980 l hl h6)
                    have hq2167 := pk2165
                    unfold PK PS at hq2167
                    clear hq1981
                    have pj2168 : PK w1873 w2157 := PK.tr pj1982 hn2164
                    have hq2169 := pj2168
                    unfold PK PS at hq2169
                    clear hq1983
                    have ms2170 : mu w2157 < mu w := Nat.lt_of_le_of_lt hn2164.2.1 ms1984
                    refine xg_t (xg_blk (b := [(164, 1, 15, 3, 0, 0), (165, 1, 0, 0, 0, 0), (166, 2, 4, 59, 0, 0), (168, 3, 13, 195, 96, 427), (171, 1, 0, 0, 0, 0), (172, 1, 3, 0, 0, 0), (173, 1, 2, 1, 0, 0), (174, 3, 13, 214, 96, 424), (177, 1, 0, 0, 0, 0), (178, 2, 4, 17, 0, 0), (180, 1, 2, 2, 0, 0), (181, 3, 13, 214, 96, 424), (184, 1, 0, 0, 0, 0), (185, 2, 4, 18, 0, 0), (187, 1, 2, 3, 0, 0), (188, 3, 13, 214, 96, 424), (191, 1, 0, 0, 0, 0), (192, 1, 19, 0, 0, 0), (193, 3, 1, 12, 14, 212), (196, 1, 3, 1, 0, 0), (197, 1, 11, 0, 0, 0), (198, 3, 14, 12, 14, 212), (201, 1, 12, 0, 0, 0)]) rfl) ?_
                    refine xg_t (xg_istore (l1 := [(2, (0, f82_1946)), (0, (2, 82)), (1, (0, kr))]) rfl rfl rfl) ?_
                    refine xg_t (xg_aload (va := (2, 82)) rfl rfl) ?_
                    refine xg_t (xg_bip) ?_
                    obtain ⟨f82_2171, f82_2173, f82_2175, f82_2177, f82_2179, f82_2181, f82_2183, f82_2185, f82_2187, f82_2189, f82_2191, f82_2192, f82_2193, f82_2195, f82_2197, f82_2199, h82_2201, hb2172, hb2174, hb2176, hb2178, hb2180, hb2182, hb2184, hb2186, hb2188, hb2190, hb2194, hb2196, hb2198, hb2200, hb2202⟩ := (hI2159 82 (by decide) (by decide) : cp82 (wget w2157 82))
                    refine xg_cVv mX12_must (vs := [(0, 59)]) (rest := []) (cn1 := 0) (sl1 := 0) rfl (mMust (hI2159) (by omega) pk2165.2.2.2) rfl h82_2201 rfl rfl rfl rfl rfl rfl (fun w2203 hq2204 => ?_)
                    obtain ⟨hI2205, hF2206, hx2207⟩ := hq2204
                    have pk2208 : PK w w2203 := PK.tr pk2165 hx2207
                    have ro2209 : ∀ l, l < fld w 82 14 → l < 16 → rwv w2203 112 (20 * l) = rwv w 112 (20 * l) := fun l hl h6 => (rwv_fr hF2206 (by decide)).trans (ro2166 l hl h6)
                    have hq2210 := pk2208
                    unfold PK PS at hq2210
                    clear hq2167
                    have pj2211 : PK w1873 w2203 := PK.tr pj2168 hx2207
                    have hq2212 := pj2211
                    unfold PK PS at hq2212
                    clear hq2169
                    have ms2213 : mu w2203 < mu w := Nat.lt_of_le_of_lt hx2207.2.1 ms2170
                    refine xg_t (xg_aload (va := (2, 82)) rfl rfl) ?_
                    refine xg_t (xg_const) ?_
                    refine xg_t (xg_iload (va := (0, kr)) rfl rfl) ?_
                    have hl2214 : fld w2203 82 14 = fld w 82 14 := pk2208.2.2.1
                    have hl2215 : fld w2203 82 14 ≤ 2000 := by omega
                    obtain ⟨f82_2216, f82_2218, f82_2220, f82_2222, f82_2224, f82_2226, f82_2228, f82_2230, f82_2232, f82_2234, f82_2236, f82_2237, f82_2238, f82_2240, f82_2242, f82_2244, h82_2246, hb2217, hb2219, hb2221, hb2223, hb2225, hb2227, hb2229, hb2231, hb2233, hb2235, hb2239, hb2241, hb2243, hb2245, hb2247⟩ := (hI2205 82 (by decide) (by decide) : cp82 (wget w2203 82))
                    refine xg_cVv mX12_rulePuts (vs := [(0, 0), (0, kr)]) (rest := []) (cn1 := 0) (sl1 := 0) rfl (mRulePuts (hI2205) (by omega) (by omega) (by omega)) rfl h82_2246 rfl rfl rfl rfl rfl rfl (fun w2248 hq2249 => ?_)
                    obtain ⟨hI2250, hF2251, hx2252⟩ := hq2249
                    have hx2253 := hx2252
                    have pk2254 : PK w w2248 := PK.tr pk2208 (PK.fr hF2251 (by decide) (by decide) pk2208.2.2.2)
                    have ro2255 : ∀ l, l < fld w 82 14 → l < 16 → rwv w2248 112 (20 * l) = rwv w 112 (20 * l) := fun l hl h6 => ((hx2253 _ (by omega)).2 (by omega)).trans (ro2209 l hl h6)
                    have hq2256 := pk2254
                    unfold PK PS at hq2256
                    clear hq2210
                    have pj2257 : PK w1873 w2248 := PK.tr pj2211 (PK.fr hF2251 (by decide) (by decide) pk2208.2.2.2)
                    have hq2258 := pj2257
                    unfold PK PS at hq2258
                    clear hq2212
                    have ms2259 : mu w2248 < mu w := Nat.lt_of_le_of_lt (PK.fr hF2251 (by decide) (by decide) pk2208.2.2.2).2.1 ms2213
                    have rz2260 : fld w 82 14 < 16 → rwv w2248 112 (20 * fld w 82 14) = kr := fun h6 => (hx2253 _ (by omega)).1 ⟨by omega, by omega⟩
                    refine xg_t (xg_aload (va := (2, 82)) rfl rfl) ?_
                    refine xg_t (xg_bip) ?_
                    refine xg_t (xg_iload (va := (0, f82_1946)) rfl rfl) ?_
                    have hl2261 : fld w2248 82 14 = fld w 82 14 := pk2254.2.2.1
                    have hl2262 : fld w2248 82 14 ≤ 2000 := by omega
                    refine xg_cVv mX12_rulePuts (vs := [(0, 17), (0, f82_1946)]) (rest := []) (cn1 := 0) (sl1 := 0) rfl (mRulePuts (hI2250) (by omega) (by omega) (by omega)) rfl (hF2251.get (by decide) h82_2246) rfl rfl rfl rfl rfl rfl (fun w2263 hq2264 => ?_)
                    obtain ⟨hI2265, hF2266, hx2267⟩ := hq2264
                    have hx2268 := hx2267
                    have pk2269 : PK w w2263 := PK.tr pk2254 (PK.fr hF2266 (by decide) (by decide) pk2254.2.2.2)
                    have ro2270 : ∀ l, l < fld w 82 14 → l < 16 → rwv w2263 112 (20 * l) = rwv w 112 (20 * l) := fun l hl h6 => ((hx2268 _ (by omega)).2 (by omega)).trans (ro2255 l hl h6)
                    have hq2271 := pk2269
                    unfold PK PS at hq2271
                    clear hq2256
                    have pj2272 : PK w1873 w2263 := PK.tr pj2257 (PK.fr hF2266 (by decide) (by decide) pk2254.2.2.2)
                    have hq2273 := pj2272
                    unfold PK PS at hq2273
                    clear hq2258
                    have ms2274 : mu w2263 < mu w := Nat.lt_of_le_of_lt (PK.fr hF2266 (by decide) (by decide) pk2254.2.2.2).2.1 ms2259
                    have rz2275 : fld w 82 14 < 16 → rwv w2263 112 (20 * fld w 82 14) = kr := fun h6 => ((hx2268 _ (by omega)).2 (by omega)).trans (rz2260 h6)
                    refine xg_t (xg_aload (va := (2, 82)) rfl rfl) ?_
                    refine xg_t (xg_bip) ?_
                    refine xg_t (xg_iload (va := (0, n2161)) rfl rfl) ?_
                    have hl2276 : fld w2263 82 14 = fld w 82 14 := pk2269.2.2.1
                    have hl2277 : fld w2263 82 14 ≤ 2000 := by omega
                    refine xg_cVv mX12_rulePuts (vs := [(0, 18), (0, n2161)]) (rest := []) (cn1 := 0) (sl1 := 0) rfl (mRulePuts (hI2265) (by omega) (by omega) (by omega)) rfl (hF2266.get (by decide) (hF2251.get (by decide) h82_2246)) rfl rfl rfl rfl rfl rfl (fun w2278 hq2279 => ?_)
                    obtain ⟨hI2280, hF2281, hx2282⟩ := hq2279
                    have hx2283 := hx2282
                    have pk2284 : PK w w2278 := PK.tr pk2269 (PK.fr hF2281 (by decide) (by decide) pk2269.2.2.2)
                    have ro2285 : ∀ l, l < fld w 82 14 → l < 16 → rwv w2278 112 (20 * l) = rwv w 112 (20 * l) := fun l hl h6 => ((hx2283 _ (by omega)).2 (by omega)).trans (ro2270 l hl h6)
                    have hq2286 := pk2284
                    unfold PK PS at hq2286
                    clear hq2271
                    have pj2287 : PK w1873 w2278 := PK.tr pj2272 (PK.fr hF2281 (by decide) (by decide) pk2269.2.2.2)
                    have hq2288 := pj2287
                    unfold PK PS at hq2288
                    clear hq2273
                    have ms2289 : mu w2278 < mu w := Nat.lt_of_le_of_lt (PK.fr hF2281 (by decide) (by decide) pk2269.2.2.2).2.1 ms2274
                    have rz2290 : fld w 82 14 < 16 → rwv w2278 112 (20 * fld w 82 14) = kr := fun h6 => ((hx2283 _ (by omega)).2 (by omega)).trans (rz2275 h6)
                    have hf2291 : fld w2278 82 4 = f82_2220 := fld_of (hF2281.get (by decide) (hF2266.get (by decide) (hF2251.get (by decide) h82_2246)))
                    have hf2292 : fld w2278 82 5 = f82_2222 := fld_of (hF2281.get (by decide) (hF2266.get (by decide) (hF2251.get (by decide) h82_2246)))
                    have hf2293 : fld w2278 82 7 = f82_2226 := fld_of (hF2281.get (by decide) (hF2266.get (by decide) (hF2251.get (by decide) h82_2246)))
                    have hf2294 : fld w2278 82 10 = f82_2232 := fld_of (hF2281.get (by decide) (hF2266.get (by decide) (hF2251.get (by decide) h82_2246)))
                    have hf2295 : fld w2278 82 14 = f82_2234 := fld_of (hF2281.get (by decide) (hF2266.get (by decide) (hF2251.get (by decide) h82_2246)))
                    have hu2296 : mu w2278 = 2 * (fld w2278 82 4 - fld w2278 82 5) + min 1 (fld w2278 82 7) := rfl
                    have hl2297 : f82_2234 ≤ 1001 := by omega
                    refine xg_t (xg_aload (va := (2, 82)) rfl rfl) ?_
                    refine xg_t (xg_dup rfl) ?_
                    refine xg_t (xg_getf (va := (0, f82_2234)) (hF2281.get (by decide) (hF2266.get (by decide) (hF2251.get (by decide) h82_2246))) rfl) ?_
                    refine xg_t (xg_const) ?_
                    refine xg_t (xg_iadd (u := f82_2234) (v := 1) (z := f82_2234 + 1) xnm0 xnm0 (by omega)) ?_
                    refine xg_putI (fl1 := [(2, 83), (2, 84), (0, f82_2216), (0, f82_2218), (0, f82_2220), (0, f82_2222), (0, f82_2224), (0, f82_2226), (0, f82_2228), (0, f82_2230), (0, f82_2232), (2, 85), (2, 86), (2, 87), (0, f82_2234 + 1), (2, 88), (2, 89), (2, 90), (2, 91), (2, 92), (2, 93), (2, 94), (4, f82_2236), (4, f82_2237), (0, f82_2238), (2, 95), (2, 96), (2, 97), (2, 98), (2, 99), (2, 100), (2, 101), (2, 102), (0, f82_2240), (2, 103), (2, 104), (2, 105), (2, 106), (2, 107), (2, 108), (2, 109), (0, f82_2242), (0, f82_2244), (2, 110), (2, 111), (2, 112), (2, 113)]) (hF2281.get (by decide) (hF2266.get (by decide) (hF2251.get (by decide) h82_2246))) rfl rfl rfl (fun w2298 hk2299 hb2300 => ?_)
                    have hF2301 : xFr [82] w2278 w2298 := xFr.of hb2300 (by decide)
                    have hA2302 := FA_fr hF2301 (by decide)
                    have hf2303 : fld w2298 82 4 = f82_2220 := fld_of hk2299
                    have hf2304 : fld w2298 82 5 = f82_2222 := fld_of hk2299
                    have hf2305 : fld w2298 82 7 = f82_2226 := fld_of hk2299
                    have hf2306 : fld w2298 82 10 = f82_2232 := fld_of hk2299
                    have hf2307 : fld w2298 82 14 = f82_2234 + 1 := fld_of hk2299
                    have hu2308 : mu w2298 = 2 * (fld w2298 82 4 - fld w2298 82 5) + min 1 (fld w2298 82 7) := rfl
                    have hD2309 : FA w2298 ≠ 0 ∨ (RD w → RD w2298) := by
                      by_cases z : FA w2298 ≠ 0
                      · exact Or.inl z
                      · refine Or.inr (fun hd => ⟨by omega, fun l hl => ?_⟩)
                        rw [rwv_fr hF2301 (by decide)]
                        by_cases y : l = fld w 82 14
                        · rw [y, rz2290 (by omega)]; omega
                        · rw [ro2285 l (by omega) (by have := hd.1; omega)]; exact hd.2 l (by omega)
                    exact xg_e ⟨w2298, ⟨rfl, rfl⟩, xMnv.up (S := [82]) hI2280 (xFr.of (S := [82]) hb2300 (by decide)) (List.forall_mem_cons.mpr ⟨(show cp82 (wget w2298 82) from ⟨f82_2216, f82_2218, f82_2220, f82_2222, f82_2224, f82_2226, f82_2228, f82_2230, f82_2232, f82_2234 + 1, f82_2236, f82_2237, f82_2238, f82_2240, f82_2242, f82_2244, hk2299, by omega, by omega, by omega, by omega, by omega, by omega, by omega, by omega, by omega, by omega, by omega, by omega, by omega, by omega, by omega⟩), fun _ h => absurd h List.not_mem_nil⟩), ((((((((hF1875.tr (hF1924.up (by decide))).tr (hF1971.up (by decide))).tr (hF2160.up (by decide))).tr (hF2206.up (by decide))).tr (hF2251.up (by decide))).tr (hF2266.up (by decide))).tr (hF2281.up (by decide))).tr (xFr.of (S := [82, 83, 112, 113]) hb2300 (by decide))), ⟨fun h => by have := pk2284.1 h; omega, (show fld w2298 82 10 = 0 ∨ FA w2298 ≠ 0 by omega), Or.inr ⟨by have := ms2289; omega, by omega⟩, hD2309⟩⟩
                · refine xg_t (xg_ifF (u := (if 40 ≤ f82_1946 ∧ f82_1946 ≤ 42 then 1 else 0)) rfl xnm0 (xj_neF (xite0 hc1966))) ?_
                  refine xg_t (xg_blk (b := [(136, 1, 0, 0, 0, 0), (137, 3, 13, 140, 96, 183), (140, 1, 12, 0, 0, 0)]) rfl) ?_
                  refine xg_t (xg_aload (va := (2, 82)) rfl rfl) ?_
                  refine xg_cVv mX12_ends (vs := []) (rest := []) (cn1 := 0) (sl1 := 0) rfl (mEnds (hI1923) pk1926.2.2.2) rfl h82_1962 rfl rfl rfl rfl rfl rfl (fun w2310 hq2311 => ?_)
                  obtain ⟨hI2312, hF2313, hx2314⟩ := hq2311
                  obtain ⟨hv2315, hv2316, hv2317, hv2318⟩ := hx2314
                  have pk2319 : PK w1921 w2310 := ⟨fun _ => hv2315, by omega, by omega, Or.inr hv2315⟩
                  have pk2320 : PK w w2310 := PK.tr pk1926 pk2319
                  have ro2321 : ∀ l, l < fld w 82 14 → l < 16 → rwv w2310 112 (20 * l) = rwv w 112 (20 * l) := fun l hl h6 => (rwv_fr hF2313 (by decide)).trans (ro1927 l hl h6)
                  have hq2322 := pk2320
                  unfold PK PS at hq2322
                  clear hq1928
                  have pj2323 : PK w1873 w2310 := PK.tr pj1929 pk2319
                  have hq2324 := pj2323
                  unfold PK PS at hq2324
                  clear hq1930
                  have ms2325 : mu w2310 < mu w := Nat.lt_of_le_of_lt pk2319.2.1 ms1931
                  obtain ⟨f82_2326, f82_2328, f82_2330, f82_2332, f82_2334, f82_2336, f82_2338, f82_2340, f82_2342, f82_2344, f82_2346, f82_2347, f82_2348, f82_2350, f82_2352, f82_2354, h82_2356, hb2327, hb2329, hb2331, hb2333, hb2335, hb2337, hb2339, hb2341, hb2343, hb2345, hb2349, hb2351, hb2353, hb2355, hb2357⟩ := (hI2312 82 (by decide) (by decide) : cp82 (wget w2310 82))
                  exact xg_e ⟨w2310, ⟨rfl, rfl⟩, hI2312, ((hF1875.tr (hF1924.up (by decide))).tr (hF2313.up (by decide))), ⟨pk2320.1, pk2320.2.2.2, Or.inl ⟨by omega, pk2320.2.1, pk2320.2.2.1⟩, Or.inl (by omega)⟩⟩
              · refine xg_t (xg_icT (u := f82_1942) (v := 3) rfl xnm0 xnm0 (xj_neT hc1965)) ?_
                refine xg_t (xg_blk (b := [(136, 1, 0, 0, 0, 0), (137, 3, 13, 140, 96, 183), (140, 1, 12, 0, 0, 0)]) rfl) ?_
                refine xg_t (xg_aload (va := (2, 82)) rfl rfl) ?_
                refine xg_cVv mX12_ends (vs := []) (rest := []) (cn1 := 0) (sl1 := 0) rfl (mEnds (hI1923) pk1926.2.2.2) rfl h82_1962 rfl rfl rfl rfl rfl rfl (fun w2358 hq2359 => ?_)
                obtain ⟨hI2360, hF2361, hx2362⟩ := hq2359
                obtain ⟨hv2363, hv2364, hv2365, hv2366⟩ := hx2362
                have pk2367 : PK w1921 w2358 := ⟨fun _ => hv2363, by omega, by omega, Or.inr hv2363⟩
                have pk2368 : PK w w2358 := PK.tr pk1926 pk2367
                have ro2369 : ∀ l, l < fld w 82 14 → l < 16 → rwv w2358 112 (20 * l) = rwv w 112 (20 * l) := fun l hl h6 => (rwv_fr hF2361 (by decide)).trans (ro1927 l hl h6)
                have hq2370 := pk2368
                unfold PK PS at hq2370
                clear hq1928
                have pj2371 : PK w1873 w2358 := PK.tr pj1929 pk2367
                have hq2372 := pj2371
                unfold PK PS at hq2372
                clear hq1930
                have ms2373 : mu w2358 < mu w := Nat.lt_of_le_of_lt pk2367.2.1 ms1931
                obtain ⟨f82_2374, f82_2376, f82_2378, f82_2380, f82_2382, f82_2384, f82_2386, f82_2388, f82_2390, f82_2392, f82_2394, f82_2395, f82_2396, f82_2398, f82_2400, f82_2402, h82_2404, hb2375, hb2377, hb2379, hb2381, hb2383, hb2385, hb2387, hb2389, hb2391, hb2393, hb2397, hb2399, hb2401, hb2403, hb2405⟩ := (hI2360 82 (by decide) (by decide) : cp82 (wget w2358 82))
                exact xg_e ⟨w2358, ⟨rfl, rfl⟩, hI2360, ((hF1875.tr (hF1924.up (by decide))).tr (hF2361.up (by decide))), ⟨pk2368.1, pk2368.2.2.2, Or.inl ⟨by omega, pk2368.2.1, pk2368.2.2.1⟩, Or.inl (by omega)⟩⟩
            · refine xg_t (xg_ifT (u := f82_1948) rfl xnm0 (xj_neT hc1964)) ?_
              refine xg_t (xg_blk (b := [(136, 1, 0, 0, 0, 0), (137, 3, 13, 140, 96, 183), (140, 1, 12, 0, 0, 0)]) rfl) ?_
              refine xg_t (xg_aload (va := (2, 82)) rfl rfl) ?_
              refine xg_cVv mX12_ends (vs := []) (rest := []) (cn1 := 0) (sl1 := 0) rfl (mEnds (hI1923) pk1926.2.2.2) rfl h82_1962 rfl rfl rfl rfl rfl rfl (fun w2406 hq2407 => ?_)
              obtain ⟨hI2408, hF2409, hx2410⟩ := hq2407
              obtain ⟨hv2411, hv2412, hv2413, hv2414⟩ := hx2410
              have pk2415 : PK w1921 w2406 := ⟨fun _ => hv2411, by omega, by omega, Or.inr hv2411⟩
              have pk2416 : PK w w2406 := PK.tr pk1926 pk2415
              have ro2417 : ∀ l, l < fld w 82 14 → l < 16 → rwv w2406 112 (20 * l) = rwv w 112 (20 * l) := fun l hl h6 => (rwv_fr hF2409 (by decide)).trans (ro1927 l hl h6)
              have hq2418 := pk2416
              unfold PK PS at hq2418
              clear hq1928
              have pj2419 : PK w1873 w2406 := PK.tr pj1929 pk2415
              have hq2420 := pj2419
              unfold PK PS at hq2420
              clear hq1930
              have ms2421 : mu w2406 < mu w := Nat.lt_of_le_of_lt pk2415.2.1 ms1931
              obtain ⟨f82_2422, f82_2424, f82_2426, f82_2428, f82_2430, f82_2432, f82_2434, f82_2436, f82_2438, f82_2440, f82_2442, f82_2443, f82_2444, f82_2446, f82_2448, f82_2450, h82_2452, hb2423, hb2425, hb2427, hb2429, hb2431, hb2433, hb2435, hb2437, hb2439, hb2441, hb2445, hb2447, hb2449, hb2451, hb2453⟩ := (hI2408 82 (by decide) (by decide) : cp82 (wget w2406 82))
              exact xg_e ⟨w2406, ⟨rfl, rfl⟩, hI2408, ((hF1875.tr (hF1924.up (by decide))).tr (hF2409.up (by decide))), ⟨pk2416.1, pk2416.2.2.2, Or.inl ⟨by omega, pk2416.2.1, pk2416.2.2.1⟩, Or.inl (by omega)⟩⟩
          · refine xg_t (xg_ifF (u := mo) rfl xnm0 (xj_eqF hc1920)) ?_
            refine xg_t (xg_iload (va := (0, kr)) rfl rfl) ?_
            refine xg_t (xg_const) ?_
            by_cases hc2454 : 3 < kr
            · refine xg_t (xg_icF (u := kr) (v := 3) rfl xnm0 xnm0 (xj_leF hc2454 (by omega))) ?_
              refine xg_t (xg_aload (va := (2, 82)) rfl rfl) ?_
              refine xg_t (xg_const) ?_
              refine xg_t (xg_aload (va := (2, 82)) rfl rfl) ?_
              refine xg_t (xg_getf (va := (0, f82_1896)) h82_1918 rfl) ?_
              refine xg_cVv mX12_also (vs := [(0, 3), (0, f82_1896)]) (rest := []) (cn1 := 0) (sl1 := 0) rfl (mAlso (hI1874) (by omega) (by omega) (by omega) hz1880.2.2.2) rfl h82_1918 rfl rfl rfl rfl rfl rfl (fun w2455 hq2456 => ?_)
              obtain ⟨hI2457, hF2458, hx2459⟩ := hq2456
              have pk2460 : PK w1873 w2455 := ⟨fun _ => hx2459, Nat.le_of_eq (mu_fr hF2458 (by decide)), fld_fr hF2458 (by decide), Or.inr hx2459⟩
              have pk2461 : PK w w2455 := PK.tr hz1880 pk2460
              have ro2462 : ∀ l, l < fld w 82 14 → l < 16 → rwv w2455 112 (20 * l) = rwv w 112 (20 * l) := fun l hl h6 => (rwv_fr hF2458 (by decide)).trans (hz1881 l hl h6)
              have hq2463 := pk2461
              unfold PK PS at hq2463
              clear hq1887
              have pj2464 : PK w1873 w2455 := PK.tr (PK.rf hz1880.2.2.2) pk2460
              have hq2465 := pj2464
              unfold PK PS at hq2465
              have ms2466 : mu w2455 < mu w := Nat.lt_of_le_of_lt pk2460.2.1 hz1882
              have fa2467 : FA w2455 ≠ 0 := hx2459
              refine xg_t (xg_blk (b := [(49, 1, 0, 0, 0, 0), (50, 3, 13, 109, 96, 421), (53, 1, 3, 0, 0, 0), (54, 1, 15, 3, 0, 0)]) rfl) ?_
              refine xg_t (xg_aload (va := (2, 82)) rfl rfl) ?_
              refine xg_cVv mX12_aTest (vs := []) (rest := []) (cn1 := 0) (sl1 := 0) rfl (mATest (hI2457) pk2461.2.2.2) rfl (hF2458.get (by decide) h82_1918) rfl rfl rfl rfl rfl rfl (fun w2468 hq2469 => ?_)
              obtain ⟨hI2470, hF2471, hx2472⟩ := hq2469
              have pk2473 : PK w w2468 := PK.tr pk2461 hx2472
              have ro2474 : ∀ l, l < fld w 82 14 → l < 16 → rwv w2468 112 (20 * l) = rwv w 112 (20 * l) := fun l hl h6 => (rwv_fr hF2471 (by decide)).trans (ro2462 l hl h6)
              have hq2475 := pk2473
              unfold PK PS at hq2475
              clear hq2463
              have pj2476 : PK w1873 w2468 := PK.tr pj2464 hx2472
              have hq2477 := pj2476
              unfold PK PS at hq2477
              clear hq2465
              have fa2478 : FA w2468 ≠ 0 := hx2472.1 fa2467
              have ms2479 : mu w2468 < mu w := Nat.lt_of_le_of_lt hx2472.2.1 ms2466
              refine xg_t (xg_const) ?_
              refine xg_t (xg_istore (l1 := [(0, (2, 82)), (1, (0, kr)), (2, (0, mo))]) rfl rfl rfl) ?_
              refine xg_t (xg_blk (b := [(55, 1, 2, 3, 0, 0), (56, 1, 3, 4, 0, 0), (57, 3, 6, 88, 3, 0), (60, 1, 2, 1, 0, 0), (61, 1, 3, 4, 0, 0), (62, 3, 6, 88, 3, 0), (65, 1, 0, 0, 0, 0), (66, 1, 3, 1, 0, 0), (67, 1, 3, 4, 0, 0), (68, 1, 2, 1, 0, 0), (69, 1, 16, 0, 0, 0), (70, 1, 11, 0, 0, 0), (71, 1, 2, 3, 0, 0), (72, 1, 11, 0, 0, 0), (73, 1, 0, 0, 0, 0), (74, 3, 1, 12, 46, 102), (77, 1, 2, 3, 0, 0), (78, 1, 10, 0, 0, 0), (79, 3, 13, 214, 96, 424), (82, 3, 9, 3, 1, 0), (85, 3, 8, 55, 0, 0)]) rfl) ?_
              refine xg_t (xg_iload (va := (0, 0)) rfl rfl) ?_
              refine xg_t (xg_const) ?_
              refine xg_t (xg_icF (u := 0) (v := 4) rfl xnm0 xnm0 (by decide)) ?_
              refine xg_t (xg_iload (va := (0, kr)) rfl rfl) ?_
              refine xg_t (xg_const) ?_
              refine xg_t (xg_icT (u := kr) (v := 4) rfl xnm0 xnm0 (xj_geT (by omega) (by omega))) ?_
              refine xg_t (xg_blk (b := [(88, 3, 9, 1, 1, 0), (91, 1, 0, 0, 0, 0), (92, 2, 4, 51, 0, 0), (94, 3, 13, 227, 96, 415), (97, 1, 15, 2, 0, 0), (98, 3, 8, 31, 0, 0)]) rfl) ?_
              refine xg_t (xg_iinc (u := kr) (z := kr + 1) (l1 := [(3, (0, 0)), (0, (2, 82)), (2, (0, mo))]) rfl rfl (by omega) rfl) ?_
              refine xg_t (xg_aload (va := (2, 82)) rfl rfl) ?_
              refine xg_t (xg_bip) ?_
              obtain ⟨f82_2480, f82_2482, f82_2484, f82_2486, f82_2488, f82_2490, f82_2492, f82_2494, f82_2496, f82_2498, f82_2500, f82_2501, f82_2502, f82_2504, f82_2506, f82_2508, h82_2510, hb2481, hb2483, hb2485, hb2487, hb2489, hb2491, hb2493, hb2495, hb2497, hb2499, hb2503, hb2505, hb2507, hb2509, hb2511⟩ := (hI2470 82 (by decide) (by decide) : cp82 (wget w2468 82))
              refine xg_cVi mX12_takes (vs := [(0, 51)]) (rest := []) (cn1 := 0) (sl1 := 0) rfl (mTakes (hI2470) (by omega) pk2473.2.2.2) rfl h82_2510 rfl rfl rfl rfl rfl rfl (fun n2516 w2512 hq2513 => ?_)
              obtain ⟨hn2517, hI2514, hF2515⟩ := hq2513
              obtain ⟨hn2518, hn2519, hn2520⟩ := hn2517
              have pk2521 : PK w w2512 := PK.tr pk2473 hn2519
              have ro2522 : ∀ l, l < fld w 82 14 → l < 16 → rwv w2512 112 (20 * l) = rwv w 112 (20 * l) := fun l hl h6 => (rwv_fr hF2515 (by decide)).trans (ro2474 l hl h6)
              have hq2523 := pk2521
              unfold PK PS at hq2523
              clear hq2475
              have pj2524 : PK w1873 w2512 := PK.tr pj2476 hn2519
              have hq2525 := pj2524
              unfold PK PS at hq2525
              clear hq2477
              have fa2526 : FA w2512 ≠ 0 := hn2519.1 fa2478
              have ms2527 : mu w2512 < mu w := Nat.lt_of_le_of_lt hn2519.2.1 ms2479
              have hu2528 : n2516 = 1 → mu w2512 < mu w1873 := fun h => Nat.lt_of_lt_of_le (hn2520 h) pj2476.2.1
              refine xg_t (xg_istore (l1 := [(1, (0, kr + 1)), (3, (0, 0)), (0, (2, 82))]) rfl rfl rfl) ?_
              refine xg_t (xg_goto) ?_
              refine xg_t (xg_drop (l1 := [(0, (2, 82)), (1, (0, kr + 1)), (2, (0, n2516))]) (List.forall_mem_cons.mpr ⟨List.mem_cons_of_mem _ (List.mem_cons_of_mem _ (List.mem_cons_of_mem _ (List.mem_cons_self))), List.forall_mem_cons.mpr ⟨List.mem_cons_of_mem _ (List.mem_cons_self), List.forall_mem_cons.mpr ⟨List.mem_cons_self, fun _ h => absurd h List.not_mem_nil⟩⟩⟩)) ?_
              exact ih1871 (kr + 1) n2516 w2512 (by omega) (by omega) (by omega) (hI2514) ((((hF1875.tr (hF2458.up (by decide))).tr (hF2471.up (by decide))).tr (hF2515.up (by decide)))) (⟨pk2521, ro2522, ms2527, by omega, by omega, fun _ => by omega, fun h => by omega⟩)
            · refine xg_t (xg_icT (u := kr) (v := 3) rfl xnm0 xnm0 (xj_leT (by omega) (by omega))) ?_
              refine xg_t (xg_blk (b := [(49, 1, 0, 0, 0, 0), (50, 3, 13, 109, 96, 421), (53, 1, 3, 0, 0, 0), (54, 1, 15, 3, 0, 0)]) rfl) ?_
              refine xg_t (xg_aload (va := (2, 82)) rfl rfl) ?_
              refine xg_cVv mX12_aTest (vs := []) (rest := []) (cn1 := 0) (sl1 := 0) rfl (mATest (hI1874) hz1880.2.2.2) rfl h82_1918 rfl rfl rfl rfl rfl rfl (fun w2529 hq2530 => ?_)
              obtain ⟨hI2531, hF2532, hx2533⟩ := hq2530
              have pk2534 : PK w w2529 := PK.tr hz1880 hx2533
              have ro2535 : ∀ l, l < fld w 82 14 → l < 16 → rwv w2529 112 (20 * l) = rwv w 112 (20 * l) := fun l hl h6 => (rwv_fr hF2532 (by decide)).trans (hz1881 l hl h6)
              have hq2536 := pk2534
              unfold PK PS at hq2536
              clear hq1887
              have pj2537 : PK w1873 w2529 := PK.tr (PK.rf hz1880.2.2.2) hx2533
              have hq2538 := pj2537
              unfold PK PS at hq2538
              have ms2539 : mu w2529 < mu w := Nat.lt_of_le_of_lt hx2533.2.1 hz1882
              refine xg_t (xg_const) ?_
              refine xg_t (xg_istore (l1 := [(0, (2, 82)), (1, (0, kr)), (2, (0, mo))]) rfl rfl rfl) ?_
              refine xg_t (xg_blk (b := [(55, 1, 2, 3, 0, 0), (56, 1, 3, 4, 0, 0), (57, 3, 6, 88, 3, 0), (60, 1, 2, 1, 0, 0), (61, 1, 3, 4, 0, 0), (62, 3, 6, 88, 3, 0), (65, 1, 0, 0, 0, 0), (66, 1, 3, 1, 0, 0), (67, 1, 3, 4, 0, 0), (68, 1, 2, 1, 0, 0), (69, 1, 16, 0, 0, 0), (70, 1, 11, 0, 0, 0), (71, 1, 2, 3, 0, 0), (72, 1, 11, 0, 0, 0), (73, 1, 0, 0, 0, 0), (74, 3, 1, 12, 46, 102), (77, 1, 2, 3, 0, 0), (78, 1, 10, 0, 0, 0), (79, 3, 13, 214, 96, 424), (82, 3, 9, 3, 1, 0), (85, 3, 8, 55, 0, 0)]) rfl) ?_
              refine xg_t (xg_iload (va := (0, 0)) rfl rfl) ?_
              refine xg_t (xg_const) ?_
              refine xg_t (xg_icF (u := 0) (v := 4) rfl xnm0 xnm0 (by decide)) ?_
              refine xg_t (xg_iload (va := (0, kr)) rfl rfl) ?_
              refine xg_t (xg_const) ?_
              refine xg_t (xg_icF (u := kr) (v := 4) rfl xnm0 xnm0 (xj_geF (by omega) (by omega))) ?_
              refine xg_t (xg_aload (va := (2, 82)) rfl rfl) ?_
              refine xg_t (xg_const) ?_
              refine xg_t (xg_const) ?_
              refine xg_t (xg_iload (va := (0, kr)) rfl rfl) ?_
              refine xg_t (xg_imul (u := 4) (v := kr) (z := 4 * kr) xnm0 xnm0 (by omega)) ?_
              refine xg_t (xg_iadd (u := 1) (v := 4 * kr) (z := 1 + (4 * kr)) xnm0 xnm0 (by omega)) ?_
              refine xg_t (xg_iload (va := (0, 0)) rfl rfl) ?_
              refine xg_t (xg_iadd (u := 1 + (4 * kr)) (v := 0) (z := (1 + (4 * kr)) + 0) xnm0 xnm0 (by omega)) ?_
              refine xg_t (xg_aload (va := (2, 82)) rfl rfl) ?_
              obtain ⟨f82_2540, f82_2542, f82_2544, f82_2546, f82_2548, f82_2550, f82_2552, f82_2554, f82_2556, f82_2558, f82_2560, f82_2561, f82_2562, f82_2564, f82_2566, f82_2568, h82_2570, hb2541, hb2543, hb2545, hb2547, hb2549, hb2551, hb2553, hb2555, hb2557, hb2559, hb2563, hb2565, hb2567, hb2569, hb2571⟩ := (hI2531 82 (by decide) (by decide) : cp82 (wget w2529 82))
              refine xg_t (xg_getf (va := (2, 113)) h82_2570 rfl) ?_
              refine xg_t (xg_iload (va := (0, 0)) rfl rfl) ?_
              obtain ⟨g113_2572, h113_2573, hb2574⟩ := (hI2531 113 (by decide) (by decide) : cpI 4 80 4294967295 (wget w2529 113))
              have h113_2573 : xRow w2529 113 4 80 g113_2572 := h113_2573
              refine xg_ialdB (n := 0) (B := 4294967295) h113_2573 (hb2574) xnm0 (by omega) (fun u2575 hu2576 he2577 => ?_)
              have hl2578 : fld w2529 82 14 = fld w 82 14 := pk2534.2.2.1
              have hl2579 : fld w2529 82 14 ≤ 2000 := by omega
              refine xg_cVv mX12_rulePuts (vs := [(0, (1 + (4 * kr)) + 0), (0, u2575)]) (rest := []) (cn1 := 0) (sl1 := 0) rfl (mRulePuts (hI2531) (by omega) (by omega) (by omega)) rfl h82_2570 rfl rfl rfl rfl rfl rfl (fun w2580 hq2581 => ?_)
              obtain ⟨hI2582, hF2583, hx2584⟩ := hq2581
              have hx2585 := hx2584
              have pk2586 : PK w w2580 := PK.tr pk2534 (PK.fr hF2583 (by decide) (by decide) pk2534.2.2.2)
              have ro2587 : ∀ l, l < fld w 82 14 → l < 16 → rwv w2580 112 (20 * l) = rwv w 112 (20 * l) := fun l hl h6 => ((hx2585 _ (by omega)).2 (by omega)).trans (ro2535 l hl h6)
              have hq2588 := pk2586
              unfold PK PS at hq2588
              clear hq2536
              have pj2589 : PK w1873 w2580 := PK.tr pj2537 (PK.fr hF2583 (by decide) (by decide) pk2534.2.2.2)
              have hq2590 := pj2589
              unfold PK PS at hq2590
              clear hq2538
              have ms2591 : mu w2580 < mu w := Nat.lt_of_le_of_lt (PK.fr hF2583 (by decide) (by decide) pk2534.2.2.2).2.1 ms2539
              refine xg_t (xg_iinc (u := 0) (z := 1) (l1 := [(0, (2, 82)), (1, (0, kr)), (2, (0, mo))]) rfl rfl (by decide) rfl) ?_
              refine xg_t (xg_goto) ?_
              refine xg_t (xg_blk (b := [(55, 1, 2, 3, 0, 0), (56, 1, 3, 4, 0, 0), (57, 3, 6, 88, 3, 0), (60, 1, 2, 1, 0, 0), (61, 1, 3, 4, 0, 0), (62, 3, 6, 88, 3, 0), (65, 1, 0, 0, 0, 0), (66, 1, 3, 1, 0, 0), (67, 1, 3, 4, 0, 0), (68, 1, 2, 1, 0, 0), (69, 1, 16, 0, 0, 0), (70, 1, 11, 0, 0, 0), (71, 1, 2, 3, 0, 0), (72, 1, 11, 0, 0, 0), (73, 1, 0, 0, 0, 0), (74, 3, 1, 12, 46, 102), (77, 1, 2, 3, 0, 0), (78, 1, 10, 0, 0, 0), (79, 3, 13, 214, 96, 424), (82, 3, 9, 3, 1, 0), (85, 3, 8, 55, 0, 0)]) rfl) ?_
              refine xg_t (xg_iload (va := (0, 1)) rfl rfl) ?_
              refine xg_t (xg_const) ?_
              refine xg_t (xg_icF (u := 1) (v := 4) rfl xnm0 xnm0 (by decide)) ?_
              refine xg_t (xg_iload (va := (0, kr)) rfl rfl) ?_
              refine xg_t (xg_const) ?_
              refine xg_t (xg_icF (u := kr) (v := 4) rfl xnm0 xnm0 (xj_geF (by omega) (by omega))) ?_
              refine xg_t (xg_aload (va := (2, 82)) rfl rfl) ?_
              refine xg_t (xg_const) ?_
              refine xg_t (xg_const) ?_
              refine xg_t (xg_iload (va := (0, kr)) rfl rfl) ?_
              refine xg_t (xg_imul (u := 4) (v := kr) (z := 4 * kr) xnm0 xnm0 (by omega)) ?_
              refine xg_t (xg_iadd (u := 1) (v := 4 * kr) (z := 1 + (4 * kr)) xnm0 xnm0 (by omega)) ?_
              refine xg_t (xg_iload (va := (0, 1)) rfl rfl) ?_
              refine xg_t (xg_iadd (u := 1 + (4 * kr)) (v := 1) (z := (1 + (4 * kr)) + 1) xnm0 xnm0 (by omega)) ?_
              refine xg_t (xg_aload (va := (2, 82)) rfl rfl) ?_
              refine xg_t (xg_getf (va := (2, 113)) (hF2583.get (by decide) h82_2570) rfl) ?_
              refine xg_t (xg_iload (va := (0, 1)) rfl rfl) ?_
              refine xg_ialdB (n := 1) (B := 4294967295) (h113_2573.fr hF2583 (by decide)) (hb2574) xnm0 (by omega) (fun u2592 hu2593 he2594 => ?_)
              have hl2595 : fld w2580 82 14 = fld w 82 14 := pk2586.2.2.1
              have hl2596 : fld w2580 82 14 ≤ 2000 := by omega
              refine xg_cVv mX12_rulePuts (vs := [(0, (1 + (4 * kr)) + 1), (0, u2592)]) (rest := []) (cn1 := 0) (sl1 := 0) rfl (mRulePuts (hI2582) (by omega) (by omega) (by omega)) rfl (hF2583.get (by decide) h82_2570) rfl rfl rfl rfl rfl rfl (fun w2597 hq2598 => ?_)
              obtain ⟨hI2599, hF2600, hx2601⟩ := hq2598
              have hx2602 := hx2601
              have pk2603 : PK w w2597 := PK.tr pk2586 (PK.fr hF2600 (by decide) (by decide) pk2586.2.2.2)
              have ro2604 : ∀ l, l < fld w 82 14 → l < 16 → rwv w2597 112 (20 * l) = rwv w 112 (20 * l) := fun l hl h6 => ((hx2602 _ (by omega)).2 (by omega)).trans (ro2587 l hl h6)
              have hq2605 := pk2603
              unfold PK PS at hq2605
              clear hq2588
              have pj2606 : PK w1873 w2597 := PK.tr pj2589 (PK.fr hF2600 (by decide) (by decide) pk2586.2.2.2)
              have hq2607 := pj2606
              unfold PK PS at hq2607
              clear hq2590
              have ms2608 : mu w2597 < mu w := Nat.lt_of_le_of_lt (PK.fr hF2600 (by decide) (by decide) pk2586.2.2.2).2.1 ms2591
              refine xg_t (xg_iinc (u := 1) (z := 2) (l1 := [(0, (2, 82)), (1, (0, kr)), (2, (0, mo))]) rfl rfl (by decide) rfl) ?_
              refine xg_t (xg_goto) ?_
              refine xg_t (xg_blk (b := [(55, 1, 2, 3, 0, 0), (56, 1, 3, 4, 0, 0), (57, 3, 6, 88, 3, 0), (60, 1, 2, 1, 0, 0), (61, 1, 3, 4, 0, 0), (62, 3, 6, 88, 3, 0), (65, 1, 0, 0, 0, 0), (66, 1, 3, 1, 0, 0), (67, 1, 3, 4, 0, 0), (68, 1, 2, 1, 0, 0), (69, 1, 16, 0, 0, 0), (70, 1, 11, 0, 0, 0), (71, 1, 2, 3, 0, 0), (72, 1, 11, 0, 0, 0), (73, 1, 0, 0, 0, 0), (74, 3, 1, 12, 46, 102), (77, 1, 2, 3, 0, 0), (78, 1, 10, 0, 0, 0), (79, 3, 13, 214, 96, 424), (82, 3, 9, 3, 1, 0), (85, 3, 8, 55, 0, 0)]) rfl) ?_
              refine xg_t (xg_iload (va := (0, 2)) rfl rfl) ?_
              refine xg_t (xg_const) ?_
              refine xg_t (xg_icF (u := 2) (v := 4) rfl xnm0 xnm0 (by decide)) ?_
              refine xg_t (xg_iload (va := (0, kr)) rfl rfl) ?_
              refine xg_t (xg_const) ?_
              refine xg_t (xg_icF (u := kr) (v := 4) rfl xnm0 xnm0 (xj_geF (by omega) (by omega))) ?_
              refine xg_t (xg_aload (va := (2, 82)) rfl rfl) ?_
              refine xg_t (xg_const) ?_
              refine xg_t (xg_const) ?_
              refine xg_t (xg_iload (va := (0, kr)) rfl rfl) ?_
              refine xg_t (xg_imul (u := 4) (v := kr) (z := 4 * kr) xnm0 xnm0 (by omega)) ?_
              refine xg_t (xg_iadd (u := 1) (v := 4 * kr) (z := 1 + (4 * kr)) xnm0 xnm0 (by omega)) ?_
              refine xg_t (xg_iload (va := (0, 2)) rfl rfl) ?_
              refine xg_t (xg_iadd (u := 1 + (4 * kr)) (v := 2) (z := (1 + (4 * kr)) + 2) xnm0 xnm0 (by omega)) ?_
              refine xg_t (xg_aload (va := (2, 82)) rfl rfl) ?_
              refine xg_t (xg_getf (va := (2, 113)) (hF2600.get (by decide) (hF2583.get (by decide) h82_2570)) rfl) ?_
              refine xg_t (xg_iload (va := (0, 2)) rfl rfl) ?_
              refine xg_ialdB (n := 2) (B := 4294967295) ((h113_2573.fr hF2583 (by decide)).fr hF2600 (by decide)) (hb2574) xnm0 (by omega) (fun u2609 hu2610 he2611 => ?_)
              have hl2612 : fld w2597 82 14 = fld w 82 14 := pk2603.2.2.1
              have hl2613 : fld w2597 82 14 ≤ 2000 := by omega
              refine xg_cVv mX12_rulePuts (vs := [(0, (1 + (4 * kr)) + 2), (0, u2609)]) (rest := []) (cn1 := 0) (sl1 := 0) rfl (mRulePuts (hI2599) (by omega) (by omega) (by omega)) rfl (hF2600.get (by decide) (hF2583.get (by decide) h82_2570)) rfl rfl rfl rfl rfl rfl (fun w2614 hq2615 => ?_)
              obtain ⟨hI2616, hF2617, hx2618⟩ := hq2615
              have hx2619 := hx2618
              have pk2620 : PK w w2614 := PK.tr pk2603 (PK.fr hF2617 (by decide) (by decide) pk2603.2.2.2)
              have ro2621 : ∀ l, l < fld w 82 14 → l < 16 → rwv w2614 112 (20 * l) = rwv w 112 (20 * l) := fun l hl h6 => ((hx2619 _ (by omega)).2 (by omega)).trans (ro2604 l hl h6)
              have hq2622 := pk2620
              unfold PK PS at hq2622
              clear hq2605
              have pj2623 : PK w1873 w2614 := PK.tr pj2606 (PK.fr hF2617 (by decide) (by decide) pk2603.2.2.2)
              have hq2624 := pj2623
              unfold PK PS at hq2624
              clear hq2607
              have ms2625 : mu w2614 < mu w := Nat.lt_of_le_of_lt (PK.fr hF2617 (by decide) (by decide) pk2603.2.2.2).2.1 ms2608
              refine xg_t (xg_iinc (u := 2) (z := 3) (l1 := [(0, (2, 82)), (1, (0, kr)), (2, (0, mo))]) rfl rfl (by decide) rfl) ?_
              refine xg_t (xg_goto) ?_
              refine xg_t (xg_blk (b := [(55, 1, 2, 3, 0, 0), (56, 1, 3, 4, 0, 0), (57, 3, 6, 88, 3, 0), (60, 1, 2, 1, 0, 0), (61, 1, 3, 4, 0, 0), (62, 3, 6, 88, 3, 0), (65, 1, 0, 0, 0, 0), (66, 1, 3, 1, 0, 0), (67, 1, 3, 4, 0, 0), (68, 1, 2, 1, 0, 0), (69, 1, 16, 0, 0, 0), (70, 1, 11, 0, 0, 0), (71, 1, 2, 3, 0, 0), (72, 1, 11, 0, 0, 0), (73, 1, 0, 0, 0, 0), (74, 3, 1, 12, 46, 102), (77, 1, 2, 3, 0, 0), (78, 1, 10, 0, 0, 0), (79, 3, 13, 214, 96, 424), (82, 3, 9, 3, 1, 0), (85, 3, 8, 55, 0, 0)]) rfl) ?_
              refine xg_t (xg_iload (va := (0, 3)) rfl rfl) ?_
              refine xg_t (xg_const) ?_
              refine xg_t (xg_icF (u := 3) (v := 4) rfl xnm0 xnm0 (by decide)) ?_
              refine xg_t (xg_iload (va := (0, kr)) rfl rfl) ?_
              refine xg_t (xg_const) ?_
              refine xg_t (xg_icF (u := kr) (v := 4) rfl xnm0 xnm0 (xj_geF (by omega) (by omega))) ?_
              refine xg_t (xg_aload (va := (2, 82)) rfl rfl) ?_
              refine xg_t (xg_const) ?_
              refine xg_t (xg_const) ?_
              refine xg_t (xg_iload (va := (0, kr)) rfl rfl) ?_
              refine xg_t (xg_imul (u := 4) (v := kr) (z := 4 * kr) xnm0 xnm0 (by omega)) ?_
              refine xg_t (xg_iadd (u := 1) (v := 4 * kr) (z := 1 + (4 * kr)) xnm0 xnm0 (by omega)) ?_
              refine xg_t (xg_iload (va := (0, 3)) rfl rfl) ?_
              refine xg_t (xg_iadd (u := 1 + (4 * kr)) (v := 3) (z := (1 + (4 * kr)) + 3) xnm0 xnm0 (by omega)) ?_
              refine xg_t (xg_aload (va := (2, 82)) rfl rfl) ?_
              refine xg_t (xg_getf (va := (2, 113)) (hF2617.get (by decide) (hF2600.get (by decide) (hF2583.get (by decide) h82_2570))) rfl) ?_
              refine xg_t (xg_iload (va := (0, 3)) rfl rfl) ?_
              refine xg_ialdB (n := 3) (B := 4294967295) (((h113_2573.fr hF2583 (by decide)).fr hF2600 (by decide)).fr hF2617 (by decide)) (hb2574) xnm0 (by omega) (fun u2626 hu2627 he2628 => ?_)
              have hl2629 : fld w2614 82 14 = fld w 82 14 := pk2620.2.2.1
              have hl2630 : fld w2614 82 14 ≤ 2000 := by omega
              refine xg_cVv mX12_rulePuts (vs := [(0, (1 + (4 * kr)) + 3), (0, u2626)]) (rest := []) (cn1 := 0) (sl1 := 0) rfl (mRulePuts (hI2616) (by omega) (by omega) (by omega)) rfl (hF2617.get (by decide) (hF2600.get (by decide) (hF2583.get (by decide) h82_2570))) rfl rfl rfl rfl rfl rfl (fun w2631 hq2632 => ?_)
              obtain ⟨hI2633, hF2634, hx2635⟩ := hq2632
              have hx2636 := hx2635
              have pk2637 : PK w w2631 := PK.tr pk2620 (PK.fr hF2634 (by decide) (by decide) pk2620.2.2.2)
              have ro2638 : ∀ l, l < fld w 82 14 → l < 16 → rwv w2631 112 (20 * l) = rwv w 112 (20 * l) := fun l hl h6 => ((hx2636 _ (by omega)).2 (by omega)).trans (ro2621 l hl h6)
              have hq2639 := pk2637
              unfold PK PS at hq2639
              clear hq2622
              have pj2640 : PK w1873 w2631 := PK.tr pj2623 (PK.fr hF2634 (by decide) (by decide) pk2620.2.2.2)
              have hq2641 := pj2640
              unfold PK PS at hq2641
              clear hq2624
              have ms2642 : mu w2631 < mu w := Nat.lt_of_le_of_lt (PK.fr hF2634 (by decide) (by decide) pk2620.2.2.2).2.1 ms2625
              refine xg_t (xg_iinc (u := 3) (z := 4) (l1 := [(0, (2, 82)), (1, (0, kr)), (2, (0, mo))]) rfl rfl (by decide) rfl) ?_
              refine xg_t (xg_goto) ?_
              refine xg_t (xg_blk (b := [(55, 1, 2, 3, 0, 0), (56, 1, 3, 4, 0, 0), (57, 3, 6, 88, 3, 0), (60, 1, 2, 1, 0, 0), (61, 1, 3, 4, 0, 0), (62, 3, 6, 88, 3, 0), (65, 1, 0, 0, 0, 0), (66, 1, 3, 1, 0, 0), (67, 1, 3, 4, 0, 0), (68, 1, 2, 1, 0, 0), (69, 1, 16, 0, 0, 0), (70, 1, 11, 0, 0, 0), (71, 1, 2, 3, 0, 0), (72, 1, 11, 0, 0, 0), (73, 1, 0, 0, 0, 0), (74, 3, 1, 12, 46, 102), (77, 1, 2, 3, 0, 0), (78, 1, 10, 0, 0, 0), (79, 3, 13, 214, 96, 424), (82, 3, 9, 3, 1, 0), (85, 3, 8, 55, 0, 0)]) rfl) ?_
              refine xg_t (xg_iload (va := (0, 4)) rfl rfl) ?_
              refine xg_t (xg_const) ?_
              refine xg_t (xg_icT (u := 4) (v := 4) rfl xnm0 xnm0 (by decide)) ?_
              refine xg_t (xg_blk (b := [(88, 3, 9, 1, 1, 0), (91, 1, 0, 0, 0, 0), (92, 2, 4, 51, 0, 0), (94, 3, 13, 227, 96, 415), (97, 1, 15, 2, 0, 0), (98, 3, 8, 31, 0, 0)]) rfl) ?_
              refine xg_t (xg_iinc (u := kr) (z := kr + 1) (l1 := [(3, (0, 4)), (0, (2, 82)), (2, (0, mo))]) rfl rfl (by omega) rfl) ?_
              refine xg_t (xg_aload (va := (2, 82)) rfl rfl) ?_
              refine xg_t (xg_bip) ?_
              refine xg_cVi mX12_takes (vs := [(0, 51)]) (rest := []) (cn1 := 0) (sl1 := 0) rfl (mTakes (hI2633) (by omega) pk2637.2.2.2) rfl (hF2634.get (by decide) (hF2617.get (by decide) (hF2600.get (by decide) (hF2583.get (by decide) h82_2570)))) rfl rfl rfl rfl rfl rfl (fun n2647 w2643 hq2644 => ?_)
              obtain ⟨hn2648, hI2645, hF2646⟩ := hq2644
              obtain ⟨hn2649, hn2650, hn2651⟩ := hn2648
              have pk2652 : PK w w2643 := PK.tr pk2637 hn2650
              have ro2653 : ∀ l, l < fld w 82 14 → l < 16 → rwv w2643 112 (20 * l) = rwv w 112 (20 * l) := fun l hl h6 => (rwv_fr hF2646 (by decide)).trans (ro2638 l hl h6)
              have hq2654 := pk2652
              unfold PK PS at hq2654
              clear hq2639
              have pj2655 : PK w1873 w2643 := PK.tr pj2640 hn2650
              have hq2656 := pj2655
              unfold PK PS at hq2656
              clear hq2641
              have ms2657 : mu w2643 < mu w := Nat.lt_of_le_of_lt hn2650.2.1 ms2642
              have hu2658 : n2647 = 1 → mu w2643 < mu w1873 := fun h => Nat.lt_of_lt_of_le (hn2651 h) pj2640.2.1
              refine xg_t (xg_istore (l1 := [(1, (0, kr + 1)), (3, (0, 4)), (0, (2, 82))]) rfl rfl rfl) ?_
              refine xg_t (xg_goto) ?_
              refine xg_t (xg_drop (l1 := [(0, (2, 82)), (1, (0, kr + 1)), (2, (0, n2647))]) (List.forall_mem_cons.mpr ⟨List.mem_cons_of_mem _ (List.mem_cons_of_mem _ (List.mem_cons_of_mem _ (List.mem_cons_self))), List.forall_mem_cons.mpr ⟨List.mem_cons_of_mem _ (List.mem_cons_self), List.forall_mem_cons.mpr ⟨List.mem_cons_self, fun _ h => absurd h List.not_mem_nil⟩⟩⟩)) ?_
              exact ih1871 (kr + 1) n2647 w2643 (by omega) (by omega) (by omega) (hI2645) (((((((hF1875.tr (hF2532.up (by decide))).tr (hF2583.up (by decide))).tr (hF2600.up (by decide))).tr (hF2617.up (by decide))).tr (hF2634.up (by decide))).tr (hF2646.up (by decide)))) (⟨pk2652, ro2653, ms2657, by omega, by omega, fun _ => by omega, fun h => by omega⟩)
      exact key1870 _ 0 1 w1349 (Nat.lt_succ_self _) (by omega) (by omega) (hI1351) (((hF1342.up (by decide)).tr (hF1352.up (by decide)))) (⟨pk1358, ro1359, ms1869, by omega, by omega, fun _ => by omega, fun h => by omega⟩)
end XME
