/-! the model: rules -/
def RD (w : List (List xE)) : Prop := fld w 82 14 ≤ 16 ∧ ∀ l, l < fld w 82 14 → rwv w 112 (20 * l) ≤ 4
theorem rules_ok {f g h r : Nat → Nat} {L : Nat} (hf : okA f) (h1 : ∀ i, 0 ≤ i → i < 320 → g (1020 + i) = r i) (h2 : ∀ j, j < 1020 + 0 ∨ 1020 + 320 ≤ j → g j = f j) (hl : L ≤ 16) (hR : ∀ l, l < L → r (20 * l) ≤ 4) (h3 : h 902 = L) (h4 : ∀ j, j ≠ 902 → h j = g j) : okA h := by
  have e : ∀ j, j < 1020 → j ≠ 902 → h j = f j := fun j hj hn => by rw [h4 j hn, h2 j (by omega)]
  have e0 := e 0 (by decide) (by decide)
  have e1 := e 1 (by decide) (by decide)
  have e2 := e 2 (by decide) (by decide)
  have e3 := e 3 (by decide) (by decide)
  have e4 := e 4 (by decide) (by decide)
  have e5 := e 5 (by decide) (by decide)
  have e6 := e 6 (by decide) (by decide)
  have e7 := e 7 (by decide) (by decide)
  have e8 := e 8 (by decide) (by decide)
  have e9 := e 9 (by decide) (by decide)
  have e10 := e 10 (by decide) (by decide)
  have e13 := e 13 (by decide) (by decide)
  have e15 := e 15 (by decide) (by decide)
  have e900 := e 900 (by decide) (by decide)
  have e901 := e 901 (by decide) (by decide)
  obtain ⟨b0, b1, b2, b3, b4, b5, b6, b7, b8, b9, b10, b11, b12, b13, b14, b15, b16⟩ := hf.lits
  refine hf.mk0 (fun j hj => by rw [h4 j (by omega), h2 j (by omega)]) (okB.of0 ⟨by omega, by omega, by omega, by omega, by omega, by omega, by omega, by omega, by omega, by omega, by omega, by omega, by omega, by omega, by omega, by omega, by omega⟩ ?_ ?_ ?_ ?_)
  · intro k i hk hi
    rw [e _ (by omega) (by omega)]
    exact hf.lay (by omega) hi
  · intro k hk
    rw [e _ (by omega) (by omega)]
    exact hf.lif (by omega)
  · intro p i hk hi
    rw [e _ (by omega) (by omega)]
    exact hf.pic (by omega) hi
  · intro l hk
    rw [h4 _ (by omega), h1 (20 * l) (by omega) (by omega)]
    exact hR l (by omega)
theorem RD.fr {S : List Nat} {w w' : List (List xE)} (h : RD w) (hf : xFr S w w') (h1 : 112 ∉ S) (h2 : fld w' 82 14 = fld w 82 14) : RD w' := by
  refine ⟨by rw [h2]; exact h.1, fun l hl => ?_⟩
  rw [rwv_fr hf h1]
  exact h.2 l (by rw [← h2]; exact hl)
section XME
variable {d : Nat} {w : List (List xE)} {bd : List (Nat × Nat)} {fc : List (Nat × Nat × Bool)} {rr : Nat × Nat}
theorem mTakes {wq : Nat} (hI : xMnv w) (hwq : wq ≤ 4294967295) (hps : PS w) : xPi (d + 5) mX12_takes [(2, 82), (0, wq)] w bd fc rr (fun n w' => (n ≤ 1 ∧ PK w w' ∧ (n = 1 → mu w' < mu w)) ∧ xMnv w' ∧ xFr [82] w w') := by
  refine xPi.of ?_
  show xTo (d + 5) mX12_takes (0, [], [(0, (2, 82)), (1, (0, wq))], [], (w, bd, fc, 0, 0, rr)) (fun φ => ∃ n w', xEnd 4 [(0, n)] (w', bd, fc, 0, 0, rr) φ ∧ (n ≤ 1 ∧ PK w w' ∧ (n = 1 → mu w' < mu w)) ∧ xMnv w' ∧ xFr [82] w w')
  obtain ⟨f82_1, f82_3, f82_5, f82_7, f82_9, f82_11, f82_13, f82_15, f82_17, f82_19, f82_21, f82_22, f82_23, f82_25, f82_27, f82_29, h82_31, hb2, hb4, hb6, hb8, hb10, hb12, hb14, hb16, hb18, hb20, hb24, hb26, hb28, hb30, hb32⟩ := (hI 82 (by decide) (by decide) : cp82 (wget w 82))
  have hf33 : fld w 82 4 = f82_5 := fld_of h82_31
  have hf34 : fld w 82 5 = f82_7 := fld_of h82_31
  have hf35 : fld w 82 7 = f82_11 := fld_of h82_31
  have hf36 : fld w 82 10 = f82_17 := fld_of h82_31
  have hf37 : fld w 82 14 = f82_19 := fld_of h82_31
  have hps_ : fld w 82 10 = 0 ∨ FA w ≠ 0 := hps
  refine xg_t (xg_blk (b := [(0, 1, 0, 0, 0, 0), (1, 3, 1, 12, 10, 180), (4, 3, 7, 23, 1, 0), (7, 1, 0, 0, 0, 0), (8, 3, 1, 12, 7, 151), (11, 1, 3, 3, 0, 0), (12, 3, 6, 23, 1, 0), (15, 1, 0, 0, 0, 0), (16, 3, 1, 12, 9, 165), (19, 1, 2, 1, 0, 0), (20, 3, 6, 25, 0, 0)]) rfl) ?_
  refine xg_t (xg_aload (va := (2, 82)) rfl rfl) ?_
  refine xg_t (xg_getf (va := (0, f82_17)) h82_31 rfl) ?_
  by_cases hc38 : f82_17 = 0
  · refine xg_t (xg_ifF (u := f82_17) rfl xnm0 (xj_neF hc38)) ?_
    refine xg_t (xg_aload (va := (2, 82)) rfl rfl) ?_
    refine xg_t (xg_getf (va := (0, f82_11)) h82_31 rfl) ?_
    refine xg_t (xg_const) ?_
    by_cases hc39 : f82_11 = 3
    · refine xg_t (xg_icF (u := f82_11) (v := 3) rfl xnm0 xnm0 (xj_neF hc39)) ?_
      refine xg_t (xg_aload (va := (2, 82)) rfl rfl) ?_
      refine xg_t (xg_getf (va := (0, f82_15)) h82_31 rfl) ?_
      refine xg_t (xg_iload (va := (0, wq)) rfl rfl) ?_
      by_cases hc40 : f82_15 = wq
      · refine xg_t (xg_icT (u := f82_15) (v := wq) rfl xnm0 xnm0 (xj_eqT hc40)) ?_
        refine xg_t (xg_blk (b := [(25, 1, 0, 0, 0, 0), (26, 3, 13, 110, 96, 190), (29, 1, 3, 1, 0, 0), (30, 1, 12, 0, 1, 0)]) rfl) ?_
        refine xg_t (xg_aload (va := (2, 82)) rfl rfl) ?_
        refine xg_cVv mX12_advance (vs := []) (rest := []) (cn1 := 0) (sl1 := 0) rfl (mAdvance (hI)) rfl h82_31 rfl rfl rfl rfl rfl rfl (fun w41 hq42 => ?_)
        obtain ⟨hI43, hF44, hx45⟩ := hq42
        obtain ⟨hv46, hv47, hv48, hv49⟩ := hx45
        have hf50 := FA_fr hF44 (by decide)
        refine xg_t (xg_const) ?_
        exact xg_e ⟨1, w41, ⟨rfl, rfl⟩, ⟨by omega, ⟨fun _ => by omega, by omega, by omega, (show fld w41 82 10 = 0 ∨ FA w41 ≠ 0 by omega)⟩, fun _ => by omega⟩, hI43, (hF44.up (by decide))⟩
      · refine xg_t (xg_icF (u := f82_15) (v := wq) rfl xnm0 xnm0 (xj_eqF hc40)) ?_
        refine xg_t (xg_blk (b := [(23, 1, 3, 0, 0, 0), (24, 1, 12, 0, 1, 0)]) rfl) ?_
        refine xg_t (xg_const) ?_
        exact xg_e ⟨0, w, ⟨rfl, rfl⟩, ⟨by omega, PK.rf hps, fun _ => by omega⟩, hI, xFr.rf⟩
    · refine xg_t (xg_icT (u := f82_11) (v := 3) rfl xnm0 xnm0 (xj_neT hc39)) ?_
      refine xg_t (xg_blk (b := [(23, 1, 3, 0, 0, 0), (24, 1, 12, 0, 1, 0)]) rfl) ?_
      refine xg_t (xg_const) ?_
      exact xg_e ⟨0, w, ⟨rfl, rfl⟩, ⟨by omega, PK.rf hps, fun _ => by omega⟩, hI, xFr.rf⟩
  · refine xg_t (xg_ifT (u := f82_17) rfl xnm0 (xj_neT hc38)) ?_
    refine xg_t (xg_blk (b := [(23, 1, 3, 0, 0, 0), (24, 1, 12, 0, 1, 0)]) rfl) ?_
    refine xg_t (xg_const) ?_
    exact xg_e ⟨0, w, ⟨rfl, rfl⟩, ⟨by omega, PK.rf hps, fun _ => by omega⟩, hI, xFr.rf⟩
theorem mMust {cq : Nat} (hI : xMnv w) (hcq : cq ≤ 4294967295) (hps : PS w) : xPq (d + 5) mX12_must [(2, 82), (0, cq)] w bd fc rr [] (fun w' => xMnv w' ∧ xFr [82, 83] w w' ∧ (PK w w')) := by
  refine xPq.of ?_
  show xTo (d + 5) mX12_must (0, [], [(0, (2, 82)), (1, (0, cq))], [], (w, bd, fc, 0, 0, rr)) (fun φ => ∃ w', xEnd 0 [] (w', bd, fc, 0, 0, rr) φ ∧ xMnv w' ∧ xFr [82, 83] w w' ∧ (PK w w'))
  obtain ⟨f82_1, f82_3, f82_5, f82_7, f82_9, f82_11, f82_13, f82_15, f82_17, f82_19, f82_21, f82_22, f82_23, f82_25, f82_27, f82_29, h82_31, hb2, hb4, hb6, hb8, hb10, hb12, hb14, hb16, hb18, hb20, hb24, hb26, hb28, hb30, hb32⟩ := (hI 82 (by decide) (by decide) : cp82 (wget w 82))
  have hf33 : fld w 82 4 = f82_5 := fld_of h82_31
  have hf34 : fld w 82 5 = f82_7 := fld_of h82_31
  have hf35 : fld w 82 7 = f82_11 := fld_of h82_31
  have hf36 : fld w 82 10 = f82_17 := fld_of h82_31
  have hf37 : fld w 82 14 = f82_19 := fld_of h82_31
  have hps_ : fld w 82 10 = 0 ∨ FA w ≠ 0 := hps
  refine xg_t (xg_blk (b := [(0, 1, 0, 0, 0, 0), (1, 3, 1, 12, 10, 180), (4, 3, 7, 30, 1, 0), (7, 1, 0, 0, 0, 0), (8, 3, 1, 12, 7, 151), (11, 1, 3, 2, 0, 0), (12, 3, 6, 30, 1, 0), (15, 1, 0, 0, 0, 0), (16, 3, 1, 12, 3, 174), (19, 1, 2, 1, 0, 0), (20, 3, 6, 30, 1, 0), (23, 1, 0, 0, 0, 0), (24, 3, 13, 110, 96, 190), (27, 3, 8, 34, 0, 0)]) rfl) ?_
  refine xg_t (xg_aload (va := (2, 82)) rfl rfl) ?_
  refine xg_t (xg_getf (va := (0, f82_17)) h82_31 rfl) ?_
  by_cases hc38 : f82_17 = 0
  · refine xg_t (xg_ifF (u := f82_17) rfl xnm0 (xj_neF hc38)) ?_
    refine xg_t (xg_aload (va := (2, 82)) rfl rfl) ?_
    refine xg_t (xg_getf (va := (0, f82_11)) h82_31 rfl) ?_
    refine xg_t (xg_const) ?_
    by_cases hc39 : f82_11 = 2
    · refine xg_t (xg_icF (u := f82_11) (v := 2) rfl xnm0 xnm0 (xj_neF hc39)) ?_
      refine xg_t (xg_aload (va := (2, 82)) rfl rfl) ?_
      refine xg_t (xg_getf (va := (0, f82_3)) h82_31 rfl) ?_
      refine xg_t (xg_iload (va := (0, cq)) rfl rfl) ?_
      by_cases hc40 : f82_3 = cq
      · refine xg_t (xg_icF (u := f82_3) (v := cq) rfl xnm0 xnm0 (xj_neF hc40)) ?_
        refine xg_t (xg_aload (va := (2, 82)) rfl rfl) ?_
        refine xg_cVv mX12_advance (vs := []) (rest := []) (cn1 := 0) (sl1 := 0) rfl (mAdvance (hI)) rfl h82_31 rfl rfl rfl rfl rfl rfl (fun w41 hq42 => ?_)
        obtain ⟨hI43, hF44, hx45⟩ := hq42
        obtain ⟨hv46, hv47, hv48, hv49⟩ := hx45
        have hf50 := FA_fr hF44 (by decide)
        refine xg_t (xg_goto) ?_
        refine xg_t (xg_blk (b := [(34, 1, 12, 0, 0, 0)]) rfl) ?_
        exact xg_e ⟨w41, ⟨rfl, rfl⟩, hI43, (hF44.up (by decide)), ⟨fun _ => by omega, by omega, by omega, (show fld w41 82 10 = 0 ∨ FA w41 ≠ 0 by omega)⟩⟩
      · refine xg_t (xg_icT (u := f82_3) (v := cq) rfl xnm0 xnm0 (xj_neT hc40)) ?_
        refine xg_t (xg_blk (b := [(30, 1, 0, 0, 0, 0), (31, 3, 13, 140, 96, 183)]) rfl) ?_
        refine xg_t (xg_aload (va := (2, 82)) rfl rfl) ?_
        refine xg_cVv mX12_ends (vs := []) (rest := []) (cn1 := 0) (sl1 := 0) rfl (mEnds (hI) (show fld w 82 10 = 0 ∨ FA w ≠ 0 by omega)) rfl h82_31 rfl rfl rfl rfl rfl rfl (fun w51 hq52 => ?_)
        obtain ⟨hI53, hF54, hx55⟩ := hq52
        obtain ⟨hv56, hv57, hv58, hv59⟩ := hx55
        refine xg_t (xg_blk (b := [(34, 1, 12, 0, 0, 0)]) rfl) ?_
        exact xg_e ⟨w51, ⟨rfl, rfl⟩, hI53, (hF54.up (by decide)), ⟨fun _ => by omega, by omega, by omega, (show fld w51 82 10 = 0 ∨ FA w51 ≠ 0 by omega)⟩⟩
    · refine xg_t (xg_icT (u := f82_11) (v := 2) rfl xnm0 xnm0 (xj_neT hc39)) ?_
      refine xg_t (xg_blk (b := [(30, 1, 0, 0, 0, 0), (31, 3, 13, 140, 96, 183)]) rfl) ?_
      refine xg_t (xg_aload (va := (2, 82)) rfl rfl) ?_
      refine xg_cVv mX12_ends (vs := []) (rest := []) (cn1 := 0) (sl1 := 0) rfl (mEnds (hI) (show fld w 82 10 = 0 ∨ FA w ≠ 0 by omega)) rfl h82_31 rfl rfl rfl rfl rfl rfl (fun w60 hq61 => ?_)
      obtain ⟨hI62, hF63, hx64⟩ := hq61
      obtain ⟨hv65, hv66, hv67, hv68⟩ := hx64
      refine xg_t (xg_blk (b := [(34, 1, 12, 0, 0, 0)]) rfl) ?_
      exact xg_e ⟨w60, ⟨rfl, rfl⟩, hI62, (hF63.up (by decide)), ⟨fun _ => by omega, by omega, by omega, (show fld w60 82 10 = 0 ∨ FA w60 ≠ 0 by omega)⟩⟩
  · refine xg_t (xg_ifT (u := f82_17) rfl xnm0 (xj_neT hc38)) ?_
    refine xg_t (xg_blk (b := [(30, 1, 0, 0, 0, 0), (31, 3, 13, 140, 96, 183)]) rfl) ?_
    refine xg_t (xg_aload (va := (2, 82)) rfl rfl) ?_
    refine xg_cVv mX12_ends (vs := []) (rest := []) (cn1 := 0) (sl1 := 0) rfl (mEnds (hI) (show fld w 82 10 = 0 ∨ FA w ≠ 0 by omega)) rfl h82_31 rfl rfl rfl rfl rfl rfl (fun w69 hq70 => ?_)
    obtain ⟨hI71, hF72, hx73⟩ := hq70
    obtain ⟨hv74, hv75, hv76, hv77⟩ := hx73
    refine xg_t (xg_blk (b := [(34, 1, 12, 0, 0, 0)]) rfl) ?_
    exact xg_e ⟨w69, ⟨rfl, rfl⟩, hI71, (hF72.up (by decide)), ⟨fun _ => by omega, by omega, by omega, (show fld w69 82 10 = 0 ∨ FA w69 ≠ 0 by omega)⟩⟩
theorem mNumberNow (hI : xMnv w) (hps : PS w) : xPi (d + 5) mX12_numberNow [(2, 82)] w bd fc rr (fun n w' => (n ≤ 4294967295 ∧ PK w w') ∧ xMnv w' ∧ xFr [82, 83] w w') := by
  refine xPi.of ?_
  show xTo (d + 5) mX12_numberNow (0, [], [(0, (2, 82))], [], (w, bd, fc, 0, 0, rr)) (fun φ => ∃ n w', xEnd 1 [(0, n)] (w', bd, fc, 0, 0, rr) φ ∧ (n ≤ 4294967295 ∧ PK w w') ∧ xMnv w' ∧ xFr [82, 83] w w')
  obtain ⟨f82_1, f82_3, f82_5, f82_7, f82_9, f82_11, f82_13, f82_15, f82_17, f82_19, f82_21, f82_22, f82_23, f82_25, f82_27, f82_29, h82_31, hb2, hb4, hb6, hb8, hb10, hb12, hb14, hb16, hb18, hb20, hb24, hb26, hb28, hb30, hb32⟩ := (hI 82 (by decide) (by decide) : cp82 (wget w 82))
  have hf33 : fld w 82 4 = f82_5 := fld_of h82_31
  have hf34 : fld w 82 5 = f82_7 := fld_of h82_31
  have hf35 : fld w 82 7 = f82_11 := fld_of h82_31
  have hf36 : fld w 82 10 = f82_17 := fld_of h82_31
  have hf37 : fld w 82 14 = f82_19 := fld_of h82_31
  have hps_ : fld w 82 10 = 0 ∨ FA w ≠ 0 := hps
  refine xg_t (xg_blk (b := [(0, 1, 0, 0, 0, 0), (1, 3, 1, 12, 8, 171), (4, 1, 15, 1, 0, 0), (5, 1, 0, 0, 0, 0), (6, 3, 1, 12, 10, 180), (9, 3, 7, 27, 1, 0), (12, 1, 0, 0, 0, 0), (13, 3, 1, 12, 7, 151), (16, 1, 3, 1, 0, 0), (17, 3, 6, 27, 1, 0), (20, 1, 0, 0, 0, 0), (21, 3, 13, 110, 96, 190), (24, 3, 8, 31, 0, 0)]) rfl) ?_
  refine xg_t (xg_aload (va := (2, 82)) rfl rfl) ?_
  refine xg_t (xg_getf (va := (0, f82_13)) h82_31 rfl) ?_
  refine xg_t (xg_istore (l1 := [(0, (2, 82))]) rfl rfl rfl) ?_
  refine xg_t (xg_aload (va := (2, 82)) rfl rfl) ?_
  refine xg_t (xg_getf (va := (0, f82_17)) h82_31 rfl) ?_
  by_cases hc38 : f82_17 = 0
  · refine xg_t (xg_ifF (u := f82_17) rfl xnm0 (xj_neF hc38)) ?_
    refine xg_t (xg_aload (va := (2, 82)) rfl rfl) ?_
    refine xg_t (xg_getf (va := (0, f82_11)) h82_31 rfl) ?_
    refine xg_t (xg_const) ?_
    by_cases hc39 : f82_11 = 1
    · refine xg_t (xg_icF (u := f82_11) (v := 1) rfl xnm0 xnm0 (xj_neF hc39)) ?_
      refine xg_t (xg_aload (va := (2, 82)) rfl rfl) ?_
      refine xg_cVv mX12_advance (vs := []) (rest := []) (cn1 := 0) (sl1 := 0) rfl (mAdvance (hI)) rfl h82_31 rfl rfl rfl rfl rfl rfl (fun w40 hq41 => ?_)
      obtain ⟨hI42, hF43, hx44⟩ := hq41
      obtain ⟨hv45, hv46, hv47, hv48⟩ := hx44
      have hf49 := FA_fr hF43 (by decide)
      refine xg_t (xg_goto) ?_
      refine xg_t (xg_blk (b := [(31, 1, 2, 1, 0, 0), (32, 1, 12, 0, 1, 0)]) rfl) ?_
      refine xg_t (xg_iload (va := (0, f82_13)) rfl rfl) ?_
      exact xg_e ⟨f82_13, w40, ⟨rfl, rfl⟩, ⟨by omega, ⟨fun _ => by omega, by omega, by omega, (show fld w40 82 10 = 0 ∨ FA w40 ≠ 0 by omega)⟩⟩, hI42, (hF43.up (by decide))⟩
    · refine xg_t (xg_icT (u := f82_11) (v := 1) rfl xnm0 xnm0 (xj_neT hc39)) ?_
      refine xg_t (xg_blk (b := [(27, 1, 0, 0, 0, 0), (28, 3, 13, 140, 96, 183)]) rfl) ?_
      refine xg_t (xg_aload (va := (2, 82)) rfl rfl) ?_
      refine xg_cVv mX12_ends (vs := []) (rest := []) (cn1 := 0) (sl1 := 0) rfl (mEnds (hI) (show fld w 82 10 = 0 ∨ FA w ≠ 0 by omega)) rfl h82_31 rfl rfl rfl rfl rfl rfl (fun w50 hq51 => ?_)
      obtain ⟨hI52, hF53, hx54⟩ := hq51
      obtain ⟨hv55, hv56, hv57, hv58⟩ := hx54
      refine xg_t (xg_blk (b := [(31, 1, 2, 1, 0, 0), (32, 1, 12, 0, 1, 0)]) rfl) ?_
      refine xg_t (xg_iload (va := (0, f82_13)) rfl rfl) ?_
      exact xg_e ⟨f82_13, w50, ⟨rfl, rfl⟩, ⟨by omega, ⟨fun _ => by omega, by omega, by omega, (show fld w50 82 10 = 0 ∨ FA w50 ≠ 0 by omega)⟩⟩, hI52, (hF53.up (by decide))⟩
  · refine xg_t (xg_ifT (u := f82_17) rfl xnm0 (xj_neT hc38)) ?_
    refine xg_t (xg_blk (b := [(27, 1, 0, 0, 0, 0), (28, 3, 13, 140, 96, 183)]) rfl) ?_
    refine xg_t (xg_aload (va := (2, 82)) rfl rfl) ?_
    refine xg_cVv mX12_ends (vs := []) (rest := []) (cn1 := 0) (sl1 := 0) rfl (mEnds (hI) (show fld w 82 10 = 0 ∨ FA w ≠ 0 by omega)) rfl h82_31 rfl rfl rfl rfl rfl rfl (fun w59 hq60 => ?_)
    obtain ⟨hI61, hF62, hx63⟩ := hq60
    obtain ⟨hv64, hv65, hv66, hv67⟩ := hx63
    refine xg_t (xg_blk (b := [(31, 1, 2, 1, 0, 0), (32, 1, 12, 0, 1, 0)]) rfl) ?_
    refine xg_t (xg_iload (va := (0, f82_13)) rfl rfl) ?_
    exact xg_e ⟨f82_13, w59, ⟨rfl, rfl⟩, ⟨by omega, ⟨fun _ => by omega, by omega, by omega, (show fld w59 82 10 = 0 ∨ FA w59 ≠ 0 by omega)⟩⟩, hI61, (hF62.up (by decide))⟩
theorem mATest (hI : xMnv w) (hps : PS w) : xPq (d + 6) mX12_aTest [(2, 82)] w bd fc rr [] (fun w' => xMnv w' ∧ xFr [82, 83, 113] w w' ∧ (PK w w')) := by
  refine xPq.of ?_
  show xTo (d + 6) mX12_aTest (0, [], [(0, (2, 82))], [], (w, bd, fc, 0, 0, rr)) (fun φ => ∃ w', xEnd 0 [] (w', bd, fc, 0, 0, rr) φ ∧ xMnv w' ∧ xFr [82, 83, 113] w w' ∧ (PK w w'))
  obtain ⟨f82_1, f82_3, f82_5, f82_7, f82_9, f82_11, f82_13, f82_15, f82_17, f82_19, f82_21, f82_22, f82_23, f82_25, f82_27, f82_29, h82_31, hb2, hb4, hb6, hb8, hb10, hb12, hb14, hb16, hb18, hb20, hb24, hb26, hb28, hb30, hb32⟩ := (hI 82 (by decide) (by decide) : cp82 (wget w 82))
  have hf33 : fld w 82 4 = f82_5 := fld_of h82_31
  have hf34 : fld w 82 5 = f82_7 := fld_of h82_31
  have hf35 : fld w 82 7 = f82_11 := fld_of h82_31
  have hf36 : fld w 82 10 = f82_17 := fld_of h82_31
  have hf37 : fld w 82 14 = f82_19 := fld_of h82_31
  have hps_ : fld w 82 10 = 0 ∨ FA w ≠ 0 := hps
  obtain ⟨g113_38, h113_39, hb40⟩ := (hI 113 (by decide) (by decide) : cpI 4 80 4294967295 (wget w 113))
  have h113_39 : xRow w 113 4 80 g113_38 := h113_39
  refine xg_t (xg_blk (b := [(0, 1, 0, 0, 0, 0), (1, 3, 1, 12, 46, 102), (4, 1, 3, 0, 0, 0), (5, 1, 0, 0, 0, 0), (6, 2, 4, 52, 0, 0), (8, 3, 13, 227, 96, 415), (11, 3, 7, 18, 0, 0), (14, 1, 3, 1, 0, 0), (15, 3, 8, 19, 0, 0)]) rfl) ?_
  refine xg_t (xg_aload (va := (2, 82)) rfl rfl) ?_
  refine xg_t (xg_getf (va := (2, 113)) h82_31 rfl) ?_
  refine xg_t (xg_const) ?_
  refine xg_t (xg_aload (va := (2, 82)) rfl rfl) ?_
  refine xg_t (xg_bip) ?_
  refine xg_cVi mX12_takes (vs := [(0, 52)]) (rest := [(0, 0), (2, 113)]) (cn1 := 0) (sl1 := 0) rfl (mTakes (hI) (by omega) (show fld w 82 10 = 0 ∨ FA w ≠ 0 by omega)) rfl h82_31 rfl rfl rfl rfl rfl rfl (fun n45 w41 hq42 => ?_)
  obtain ⟨hn46, hI43, hF44⟩ := hq42
  obtain ⟨hn47, hn48, hn49⟩ := hn46
  have hq50 := hn48
  unfold PK PS at hq50
  by_cases hc51 : n45 = 0
  · refine xg_t (xg_ifT (u := n45) rfl xnm0 (xj_eqT hc51)) ?_
    refine xg_t (xg_blk (b := [(18, 1, 3, 0, 0, 0)]) rfl) ?_
    refine xg_t (xg_const) ?_
    refine xg_t (xg_blk (b := [(19, 1, 17, 0, 0, 0), (20, 1, 0, 0, 0, 0), (21, 3, 1, 12, 46, 102), (24, 1, 3, 1, 0, 0), (25, 1, 0, 0, 0, 0), (26, 3, 1, 12, 9, 165), (29, 1, 17, 0, 0, 0), (30, 1, 0, 0, 0, 0), (31, 3, 1, 12, 46, 102), (34, 1, 3, 2, 0, 0), (35, 2, 4, 61, 0, 0), (37, 1, 17, 0, 0, 0), (38, 1, 0, 0, 0, 0), (39, 3, 1, 12, 46, 102), (42, 1, 3, 3, 0, 0), (43, 1, 3, 1, 0, 0), (44, 1, 17, 0, 0, 0), (45, 1, 0, 0, 0, 0), (46, 3, 1, 12, 10, 180), (49, 3, 7, 74, 1, 0), (52, 1, 0, 0, 0, 0), (53, 3, 1, 12, 7, 151), (56, 1, 3, 3, 0, 0), (57, 3, 6, 74, 1, 0), (60, 1, 0, 0, 0, 0), (61, 3, 1, 12, 9, 165), (64, 2, 4, 20, 0, 0), (66, 2, 4, 30, 0, 0), (68, 3, 13, 161, 98, 105), (71, 3, 7, 79, 1, 0)]) rfl) ?_
    refine xg_iastK (n := 0) (u := 0) (h113_39.fr hF44 (by decide)) xnm0 xnm0 rfl (by omega) (fun w52 hr53 hb54 => ?_)
    have hf55 := FA_fr (xFr.of (S := [113]) hb54 (by decide)) (by decide)
    have hf56 := mu_fr (xFr.of (S := [113]) hb54 (by decide)) (by decide)
    have hf57 := fld_fr (c := 82) (j := 7) (xFr.of (S := [113]) hb54 (by decide)) (by decide)
    have hf58 := fld_fr (c := 82) (j := 10) (xFr.of (S := [113]) hb54 (by decide)) (by decide)
    have hf59 := fld_fr (c := 82) (j := 14) (xFr.of (S := [113]) hb54 (by decide)) (by decide)
    refine xg_t (xg_aload (va := (2, 82)) rfl rfl) ?_
    obtain ⟨f82_60, f82_62, f82_64, f82_66, f82_68, f82_70, f82_72, f82_74, f82_76, f82_78, f82_80, f82_81, f82_82, f82_84, f82_86, f82_88, h82_90, hb61, hb63, hb65, hb67, hb69, hb71, hb73, hb75, hb77, hb79, hb83, hb85, hb87, hb89, hb91⟩ := (hI43 82 (by decide) (by decide) : cp82 (wget w41 82))
    refine xg_t (xg_getf (va := (2, 113)) (hb54.get (by decide) h82_90) rfl) ?_
    refine xg_t (xg_const) ?_
    refine xg_t (xg_aload (va := (2, 82)) rfl rfl) ?_
    refine xg_t (xg_getf (va := (0, f82_74)) (hb54.get (by decide) h82_90) rfl) ?_
    refine xg_iastK (n := 1) (u := f82_74) hr53 xnm0 xnm0 rfl (by omega) (fun w92 hr93 hb94 => ?_)
    have hf95 := FA_fr (xFr.of (S := [113]) hb94 (by decide)) (by decide)
    have hf96 := mu_fr (xFr.of (S := [113]) hb94 (by decide)) (by decide)
    have hf97 := fld_fr (c := 82) (j := 7) (xFr.of (S := [113]) hb94 (by decide)) (by decide)
    have hf98 := fld_fr (c := 82) (j := 10) (xFr.of (S := [113]) hb94 (by decide)) (by decide)
    have hf99 := fld_fr (c := 82) (j := 14) (xFr.of (S := [113]) hb94 (by decide)) (by decide)
    refine xg_t (xg_aload (va := (2, 82)) rfl rfl) ?_
    refine xg_t (xg_getf (va := (2, 113)) (hb94.get (by decide) (hb54.get (by decide) h82_90)) rfl) ?_
    refine xg_t (xg_const) ?_
    refine xg_t (xg_bip) ?_
    refine xg_iastK (n := 2) (u := 61) hr93 xnm0 xnm0 rfl (by omega) (fun w100 hr101 hb102 => ?_)
    have hf103 := FA_fr (xFr.of (S := [113]) hb102 (by decide)) (by decide)
    have hf104 := mu_fr (xFr.of (S := [113]) hb102 (by decide)) (by decide)
    have hf105 := fld_fr (c := 82) (j := 7) (xFr.of (S := [113]) hb102 (by decide)) (by decide)
    have hf106 := fld_fr (c := 82) (j := 10) (xFr.of (S := [113]) hb102 (by decide)) (by decide)
    have hf107 := fld_fr (c := 82) (j := 14) (xFr.of (S := [113]) hb102 (by decide)) (by decide)
    refine xg_t (xg_aload (va := (2, 82)) rfl rfl) ?_
    refine xg_t (xg_getf (va := (2, 113)) (hb102.get (by decide) (hb94.get (by decide) (hb54.get (by decide) h82_90))) rfl) ?_
    refine xg_t (xg_const) ?_
    refine xg_t (xg_const) ?_
    refine xg_iastK (n := 3) (u := 1) hr101 xnm0 xnm0 rfl (by omega) (fun w108 hr109 hb110 => ?_)
    have hf111 := FA_fr (xFr.of (S := [113]) hb110 (by decide)) (by decide)
    have hf112 := mu_fr (xFr.of (S := [113]) hb110 (by decide)) (by decide)
    have hf113 := fld_fr (c := 82) (j := 7) (xFr.of (S := [113]) hb110 (by decide)) (by decide)
    have hf114 := fld_fr (c := 82) (j := 10) (xFr.of (S := [113]) hb110 (by decide)) (by decide)
    have hf115 := fld_fr (c := 82) (j := 14) (xFr.of (S := [113]) hb110 (by decide)) (by decide)
    refine xg_t (xg_aload (va := (2, 82)) rfl rfl) ?_
    refine xg_t (xg_getf (va := (0, f82_76)) (hb110.get (by decide) (hb102.get (by decide) (hb94.get (by decide) (hb54.get (by decide) h82_90)))) rfl) ?_
    by_cases hc116 : f82_76 = 0
    · refine xg_t (xg_ifF (u := f82_76) rfl xnm0 (xj_neF hc116)) ?_
      refine xg_t (xg_aload (va := (2, 82)) rfl rfl) ?_
      refine xg_t (xg_getf (va := (0, f82_70)) (hb110.get (by decide) (hb102.get (by decide) (hb94.get (by decide) (hb54.get (by decide) h82_90)))) rfl) ?_
      refine xg_t (xg_const) ?_
      by_cases hc117 : f82_70 = 3
      · refine xg_t (xg_icF (u := f82_70) (v := 3) rfl xnm0 xnm0 (xj_neF hc117)) ?_
        refine xg_t (xg_aload (va := (2, 82)) rfl rfl) ?_
        refine xg_t (xg_getf (va := (0, f82_74)) (hb110.get (by decide) (hb102.get (by decide) (hb94.get (by decide) (hb54.get (by decide) h82_90)))) rfl) ?_
        refine xg_t (xg_bip) ?_
        refine xg_t (xg_bip) ?_
        refine xg_t (xg_cSr mX12_isIn (vs := [(0, f82_74), (0, 20), (0, 30)]) (rest := []) (rs := [(0, if 20 ≤ f82_74 ∧ f82_74 ≤ 30 then 1 else 0)]) (cn1 := 0) (sl1 := 0) rfl (mIsIn (by omega) (by omega) (by omega)) rfl rfl rfl rfl rfl rfl rfl rfl) ?_
        by_cases hc118 : 20 ≤ f82_74 ∧ f82_74 ≤ 30
        · refine xg_t (xg_ifT (u := (if 20 ≤ f82_74 ∧ f82_74 ≤ 30 then 1 else 0)) rfl xnm0 (xj_neT (xite1 hc118))) ?_
          refine xg_t (xg_blk (b := [(79, 1, 0, 0, 0, 0), (80, 3, 13, 110, 96, 190), (83, 1, 0, 0, 0, 0), (84, 3, 1, 12, 46, 102), (87, 1, 3, 1, 0, 0), (88, 1, 10, 0, 0, 0), (89, 2, 4, 21, 0, 0), (91, 3, 6, 95, 4, 0), (94, 1, 12, 0, 0, 0)]) rfl) ?_
          refine xg_t (xg_aload (va := (2, 82)) rfl rfl) ?_
          refine xg_cVv mX12_advance (vs := []) (rest := []) (cn1 := 0) (sl1 := 0) rfl (mAdvance (xMnv.up (S := [113]) hI43 ((((xFr.of (S := [113]) hb54 (by decide)).tr (xFr.of (S := [113]) hb94 (by decide))).tr (xFr.of (S := [113]) hb102 (by decide))).tr (xFr.of (S := [113]) hb110 (by decide))) (List.forall_mem_cons.mpr ⟨(show cpI 4 80 4294967295 (wget w108 113) from ⟨_, hr109, xrb (by omega) (xrb (by omega) (xrb (by omega) (xrb (by omega) (hb40))))⟩), fun _ h => absurd h List.not_mem_nil⟩))) rfl (hb110.get (by decide) (hb102.get (by decide) (hb94.get (by decide) (hb54.get (by decide) h82_90)))) rfl rfl rfl rfl rfl rfl (fun w119 hq120 => ?_)
          obtain ⟨hI121, hF122, hx123⟩ := hq120
          obtain ⟨hv124, hv125, hv126, hv127⟩ := hx123
          have hf128 := FA_fr hF122 (by decide)
          refine xg_t (xg_aload (va := (2, 82)) rfl rfl) ?_
          obtain ⟨f82_129, f82_131, f82_133, f82_135, f82_137, f82_139, f82_141, f82_143, f82_145, f82_147, f82_149, f82_150, f82_151, f82_153, f82_155, f82_157, h82_159, hb130, hb132, hb134, hb136, hb138, hb140, hb142, hb144, hb146, hb148, hb152, hb154, hb156, hb158, hb160⟩ := (hI121 82 (by decide) (by decide) : cp82 (wget w119 82))
          refine xg_t (xg_getf (va := (2, 113)) h82_159 rfl) ?_
          refine xg_t (xg_const) ?_
          refine xg_ialdB (n := 1) (B := 4294967295) (hr109.fr hF122 (by decide)) (xrb (by omega) (xrb (by omega) (xrb (by omega) (xrb (by omega) (hb40))))) xnm0 (by omega) (fun u161 hu162 he163 => ?_)
          refine xg_t (xg_bip) ?_
          by_cases hc164 : xbs 21 < xbs u161
          · have hc164u := hc164
            unfold xbs at hc164u
            have hn165 : u161 ≤ 2147483647 := by omega
            refine xg_t (xg_icT (u := u161) (v := 21) rfl xnm0 xnm0 (xjs_gtT hc164)) ?_
            refine xg_t (xg_blk (b := [(95, 1, 0, 0, 0, 0), (96, 3, 1, 12, 46, 102), (99, 1, 3, 2, 0, 0), (100, 1, 0, 0, 0, 0), (101, 3, 1, 12, 3, 174), (104, 1, 17, 0, 0, 0), (105, 1, 0, 0, 0, 0), (106, 3, 1, 12, 7, 151), (109, 1, 3, 2, 0, 0), (110, 3, 6, 131, 1, 0), (113, 1, 0, 0, 0, 0), (114, 3, 1, 12, 3, 174), (117, 2, 4, 58, 0, 0), (119, 3, 6, 131, 0, 0), (122, 1, 0, 0, 0, 0), (123, 3, 1, 12, 3, 174), (126, 2, 4, 59, 0, 0), (128, 3, 6, 136, 1, 0)]) rfl) ?_
            refine xg_t (xg_aload (va := (2, 82)) rfl rfl) ?_
            refine xg_t (xg_getf (va := (2, 113)) h82_159 rfl) ?_
            refine xg_t (xg_const) ?_
            refine xg_t (xg_aload (va := (2, 82)) rfl rfl) ?_
            refine xg_t (xg_getf (va := (0, f82_131)) h82_159 rfl) ?_
            refine xg_iastK (n := 2) (u := f82_131) (hr109.fr hF122 (by decide)) xnm0 xnm0 rfl (by omega) (fun w166 hr167 hb168 => ?_)
            have hf169 := FA_fr (xFr.of (S := [113]) hb168 (by decide)) (by decide)
            have hf170 := mu_fr (xFr.of (S := [113]) hb168 (by decide)) (by decide)
            have hf171 := fld_fr (c := 82) (j := 7) (xFr.of (S := [113]) hb168 (by decide)) (by decide)
            have hf172 := fld_fr (c := 82) (j := 10) (xFr.of (S := [113]) hb168 (by decide)) (by decide)
            have hf173 := fld_fr (c := 82) (j := 14) (xFr.of (S := [113]) hb168 (by decide)) (by decide)
            refine xg_t (xg_aload (va := (2, 82)) rfl rfl) ?_
            refine xg_t (xg_getf (va := (0, f82_139)) (hb168.get (by decide) h82_159) rfl) ?_
            refine xg_t (xg_const) ?_
            by_cases hc174 : f82_139 = 2
            · refine xg_t (xg_icF (u := f82_139) (v := 2) rfl xnm0 xnm0 (xj_neF hc174)) ?_
              refine xg_t (xg_aload (va := (2, 82)) rfl rfl) ?_
              refine xg_t (xg_getf (va := (0, f82_131)) (hb168.get (by decide) h82_159) rfl) ?_
              refine xg_t (xg_bip) ?_
              by_cases hc175 : f82_131 = 58
              · refine xg_t (xg_icT (u := f82_131) (v := 58) rfl xnm0 xnm0 (xj_eqT hc175)) ?_
                refine xg_t (xg_blk (b := [(131, 1, 0, 0, 0, 0), (132, 3, 13, 140, 96, 183), (135, 1, 12, 0, 0, 0)]) rfl) ?_
                refine xg_t (xg_aload (va := (2, 82)) rfl rfl) ?_
                refine xg_cVv mX12_ends (vs := []) (rest := []) (cn1 := 0) (sl1 := 0) rfl (mEnds (xMnv.up (S := [113]) hI121 (xFr.of (S := [113]) hb168 (by decide)) (List.forall_mem_cons.mpr ⟨(show cpI 4 80 4294967295 (wget w166 113) from ⟨_, hr167, xrb (by omega) (xrb (by omega) (xrb (by omega) (xrb (by omega) (xrb (by omega) (hb40)))))⟩), fun _ h => absurd h List.not_mem_nil⟩)) (show fld w166 82 10 = 0 ∨ FA w166 ≠ 0 by omega)) rfl (hb168.get (by decide) h82_159) rfl rfl rfl rfl rfl rfl (fun w176 hq177 => ?_)
                obtain ⟨hI178, hF179, hx180⟩ := hq177
                obtain ⟨hv181, hv182, hv183, hv184⟩ := hx180
                exact xg_e ⟨w176, ⟨rfl, rfl⟩, hI178, (((((hF44.up (by decide)).tr ((((xFr.of (S := [82, 83, 113]) hb54 (by decide)).tr (xFr.of (S := [82, 83, 113]) hb94 (by decide))).tr (xFr.of (S := [82, 83, 113]) hb102 (by decide))).tr (xFr.of (S := [82, 83, 113]) hb110 (by decide)))).tr (hF122.up (by decide))).tr (xFr.of (S := [82, 83, 113]) hb168 (by decide))).tr (hF179.up (by decide))), ⟨fun _ => by omega, by omega, by omega, (show fld w176 82 10 = 0 ∨ FA w176 ≠ 0 by omega)⟩⟩
              · refine xg_t (xg_icF (u := f82_131) (v := 58) rfl xnm0 xnm0 (xj_eqF hc175)) ?_
                refine xg_t (xg_aload (va := (2, 82)) rfl rfl) ?_
                refine xg_t (xg_getf (va := (0, f82_131)) (hb168.get (by decide) h82_159) rfl) ?_
                refine xg_t (xg_bip) ?_
                by_cases hc185 : f82_131 = 59
                · refine xg_t (xg_icF (u := f82_131) (v := 59) rfl xnm0 xnm0 (xj_neF hc185)) ?_
                  refine xg_t (xg_blk (b := [(131, 1, 0, 0, 0, 0), (132, 3, 13, 140, 96, 183), (135, 1, 12, 0, 0, 0)]) rfl) ?_
                  refine xg_t (xg_aload (va := (2, 82)) rfl rfl) ?_
                  refine xg_cVv mX12_ends (vs := []) (rest := []) (cn1 := 0) (sl1 := 0) rfl (mEnds (xMnv.up (S := [113]) hI121 (xFr.of (S := [113]) hb168 (by decide)) (List.forall_mem_cons.mpr ⟨(show cpI 4 80 4294967295 (wget w166 113) from ⟨_, hr167, xrb (by omega) (xrb (by omega) (xrb (by omega) (xrb (by omega) (xrb (by omega) (hb40)))))⟩), fun _ h => absurd h List.not_mem_nil⟩)) (show fld w166 82 10 = 0 ∨ FA w166 ≠ 0 by omega)) rfl (hb168.get (by decide) h82_159) rfl rfl rfl rfl rfl rfl (fun w186 hq187 => ?_)
                  obtain ⟨hI188, hF189, hx190⟩ := hq187
                  obtain ⟨hv191, hv192, hv193, hv194⟩ := hx190
                  exact xg_e ⟨w186, ⟨rfl, rfl⟩, hI188, (((((hF44.up (by decide)).tr ((((xFr.of (S := [82, 83, 113]) hb54 (by decide)).tr (xFr.of (S := [82, 83, 113]) hb94 (by decide))).tr (xFr.of (S := [82, 83, 113]) hb102 (by decide))).tr (xFr.of (S := [82, 83, 113]) hb110 (by decide)))).tr (hF122.up (by decide))).tr (xFr.of (S := [82, 83, 113]) hb168 (by decide))).tr (hF189.up (by decide))), ⟨fun _ => by omega, by omega, by omega, (show fld w186 82 10 = 0 ∨ FA w186 ≠ 0 by omega)⟩⟩
                · refine xg_t (xg_icT (u := f82_131) (v := 59) rfl xnm0 xnm0 (xj_neT hc185)) ?_
                  refine xg_t (xg_blk (b := [(136, 1, 0, 0, 0, 0), (137, 3, 13, 110, 96, 190), (140, 1, 0, 0, 0, 0), (141, 3, 1, 12, 46, 102), (144, 1, 3, 3, 0, 0), (145, 1, 0, 0, 0, 0), (146, 3, 13, 198, 96, 418), (149, 1, 17, 0, 0, 0), (150, 1, 12, 0, 0, 0)]) rfl) ?_
                  refine xg_t (xg_aload (va := (2, 82)) rfl rfl) ?_
                  refine xg_cVv mX12_advance (vs := []) (rest := []) (cn1 := 0) (sl1 := 0) rfl (mAdvance (xMnv.up (S := [113]) hI121 (xFr.of (S := [113]) hb168 (by decide)) (List.forall_mem_cons.mpr ⟨(show cpI 4 80 4294967295 (wget w166 113) from ⟨_, hr167, xrb (by omega) (xrb (by omega) (xrb (by omega) (xrb (by omega) (xrb (by omega) (hb40)))))⟩), fun _ h => absurd h List.not_mem_nil⟩))) rfl (hb168.get (by decide) h82_159) rfl rfl rfl rfl rfl rfl (fun w195 hq196 => ?_)
                  obtain ⟨hI197, hF198, hx199⟩ := hq196
                  obtain ⟨hv200, hv201, hv202, hv203⟩ := hx199
                  have hf204 := FA_fr hF198 (by decide)
                  refine xg_t (xg_aload (va := (2, 82)) rfl rfl) ?_
                  obtain ⟨f82_205, f82_207, f82_209, f82_211, f82_213, f82_215, f82_217, f82_219, f82_221, f82_223, f82_225, f82_226, f82_227, f82_229, f82_231, f82_233, h82_235, hb206, hb208, hb210, hb212, hb214, hb216, hb218, hb220, hb222, hb224, hb228, hb230, hb232, hb234, hb236⟩ := (hI197 82 (by decide) (by decide) : cp82 (wget w195 82))
                  refine xg_t (xg_getf (va := (2, 113)) h82_235 rfl) ?_
                  refine xg_t (xg_const) ?_
                  refine xg_t (xg_aload (va := (2, 82)) rfl rfl) ?_
                  refine xg_cVi mX12_numberNow (vs := []) (rest := [(0, 3), (2, 113)]) (cn1 := 0) (sl1 := 0) rfl (mNumberNow (hI197) (show fld w195 82 10 = 0 ∨ FA w195 ≠ 0 by omega)) rfl h82_235 rfl rfl rfl rfl rfl rfl (fun n241 w237 hq238 => ?_)
                  obtain ⟨hn242, hI239, hF240⟩ := hq238
                  obtain ⟨hn243, hn244⟩ := hn242
                  have hq245 := hn244
                  unfold PK PS at hq245
                  refine xg_iastK (n := 3) (u := n241) ((hr167.fr hF198 (by decide)).fr hF240 (by decide)) xnm0 xnm0 rfl (by omega) (fun w246 hr247 hb248 => ?_)
                  have hf249 := FA_fr (xFr.of (S := [113]) hb248 (by decide)) (by decide)
                  have hf250 := mu_fr (xFr.of (S := [113]) hb248 (by decide)) (by decide)
                  have hf251 := fld_fr (c := 82) (j := 7) (xFr.of (S := [113]) hb248 (by decide)) (by decide)
                  have hf252 := fld_fr (c := 82) (j := 10) (xFr.of (S := [113]) hb248 (by decide)) (by decide)
                  have hf253 := fld_fr (c := 82) (j := 14) (xFr.of (S := [113]) hb248 (by decide)) (by decide)
                  exact xg_e ⟨w246, ⟨rfl, rfl⟩, xMnv.up (S := [113]) hI239 (xFr.of (S := [113]) hb248 (by decide)) (List.forall_mem_cons.mpr ⟨(show cpI 4 80 4294967295 (wget w246 113) from ⟨_, hr247, xrb (by omega) (xrb (by omega) (xrb (by omega) (xrb (by omega) (xrb (by omega) (xrb (by omega) (hb40))))))⟩), fun _ h => absurd h List.not_mem_nil⟩), (((((((hF44.up (by decide)).tr ((((xFr.of (S := [82, 83, 113]) hb54 (by decide)).tr (xFr.of (S := [82, 83, 113]) hb94 (by decide))).tr (xFr.of (S := [82, 83, 113]) hb102 (by decide))).tr (xFr.of (S := [82, 83, 113]) hb110 (by decide)))).tr (hF122.up (by decide))).tr (xFr.of (S := [82, 83, 113]) hb168 (by decide))).tr (hF198.up (by decide))).tr (hF240.up (by decide))).tr (xFr.of (S := [82, 83, 113]) hb248 (by decide))), ⟨fun _ => by omega, by omega, by omega, (show fld w246 82 10 = 0 ∨ FA w246 ≠ 0 by omega)⟩⟩
            · refine xg_t (xg_icT (u := f82_139) (v := 2) rfl xnm0 xnm0 (xj_neT hc174)) ?_
              refine xg_t (xg_blk (b := [(131, 1, 0, 0, 0, 0), (132, 3, 13, 140, 96, 183), (135, 1, 12, 0, 0, 0)]) rfl) ?_
              refine xg_t (xg_aload (va := (2, 82)) rfl rfl) ?_
              refine xg_cVv mX12_ends (vs := []) (rest := []) (cn1 := 0) (sl1 := 0) rfl (mEnds (xMnv.up (S := [113]) hI121 (xFr.of (S := [113]) hb168 (by decide)) (List.forall_mem_cons.mpr ⟨(show cpI 4 80 4294967295 (wget w166 113) from ⟨_, hr167, xrb (by omega) (xrb (by omega) (xrb (by omega) (xrb (by omega) (xrb (by omega) (hb40)))))⟩), fun _ h => absurd h List.not_mem_nil⟩)) (show fld w166 82 10 = 0 ∨ FA w166 ≠ 0 by omega)) rfl (hb168.get (by decide) h82_159) rfl rfl rfl rfl rfl rfl (fun w254 hq255 => ?_)
              obtain ⟨hI256, hF257, hx258⟩ := hq255
              obtain ⟨hv259, hv260, hv261, hv262⟩ := hx258
              exact xg_e ⟨w254, ⟨rfl, rfl⟩, hI256, (((((hF44.up (by decide)).tr ((((xFr.of (S := [82, 83, 113]) hb54 (by decide)).tr (xFr.of (S := [82, 83, 113]) hb94 (by decide))).tr (xFr.of (S := [82, 83, 113]) hb102 (by decide))).tr (xFr.of (S := [82, 83, 113]) hb110 (by decide)))).tr (hF122.up (by decide))).tr (xFr.of (S := [82, 83, 113]) hb168 (by decide))).tr (hF257.up (by decide))), ⟨fun _ => by omega, by omega, by omega, (show fld w254 82 10 = 0 ∨ FA w254 ≠ 0 by omega)⟩⟩
          · have hc164u := hc164
            unfold xbs at hc164u
            refine xg_t (xg_icF (u := u161) (v := 21) rfl xnm0 xnm0 (xjs_gtF hc164)) ?_
            exact xg_e ⟨w119, ⟨rfl, rfl⟩, hI121, (((hF44.up (by decide)).tr ((((xFr.of (S := [82, 83, 113]) hb54 (by decide)).tr (xFr.of (S := [82, 83, 113]) hb94 (by decide))).tr (xFr.of (S := [82, 83, 113]) hb102 (by decide))).tr (xFr.of (S := [82, 83, 113]) hb110 (by decide)))).tr (hF122.up (by decide))), ⟨fun _ => by omega, by omega, by omega, (show fld w119 82 10 = 0 ∨ FA w119 ≠ 0 by omega)⟩⟩
        · refine xg_t (xg_ifF (u := (if 20 ≤ f82_74 ∧ f82_74 ≤ 30 then 1 else 0)) rfl xnm0 (xj_neF (xite0 hc118))) ?_
          refine xg_t (xg_blk (b := [(74, 1, 0, 0, 0, 0), (75, 3, 13, 140, 96, 183), (78, 1, 12, 0, 0, 0)]) rfl) ?_
          refine xg_t (xg_aload (va := (2, 82)) rfl rfl) ?_
          refine xg_cVv mX12_ends (vs := []) (rest := []) (cn1 := 0) (sl1 := 0) rfl (mEnds (xMnv.up (S := [113]) hI43 ((((xFr.of (S := [113]) hb54 (by decide)).tr (xFr.of (S := [113]) hb94 (by decide))).tr (xFr.of (S := [113]) hb102 (by decide))).tr (xFr.of (S := [113]) hb110 (by decide))) (List.forall_mem_cons.mpr ⟨(show cpI 4 80 4294967295 (wget w108 113) from ⟨_, hr109, xrb (by omega) (xrb (by omega) (xrb (by omega) (xrb (by omega) (hb40))))⟩), fun _ h => absurd h List.not_mem_nil⟩)) (show fld w108 82 10 = 0 ∨ FA w108 ≠ 0 by omega)) rfl (hb110.get (by decide) (hb102.get (by decide) (hb94.get (by decide) (hb54.get (by decide) h82_90)))) rfl rfl rfl rfl rfl rfl (fun w263 hq264 => ?_)
          obtain ⟨hI265, hF266, hx267⟩ := hq264
          obtain ⟨hv268, hv269, hv270, hv271⟩ := hx267
          exact xg_e ⟨w263, ⟨rfl, rfl⟩, hI265, (((hF44.up (by decide)).tr ((((xFr.of (S := [82, 83, 113]) hb54 (by decide)).tr (xFr.of (S := [82, 83, 113]) hb94 (by decide))).tr (xFr.of (S := [82, 83, 113]) hb102 (by decide))).tr (xFr.of (S := [82, 83, 113]) hb110 (by decide)))).tr (hF266.up (by decide))), ⟨fun _ => by omega, by omega, by omega, (show fld w263 82 10 = 0 ∨ FA w263 ≠ 0 by omega)⟩⟩
      · refine xg_t (xg_icT (u := f82_70) (v := 3) rfl xnm0 xnm0 (xj_neT hc117)) ?_
        refine xg_t (xg_blk (b := [(74, 1, 0, 0, 0, 0), (75, 3, 13, 140, 96, 183), (78, 1, 12, 0, 0, 0)]) rfl) ?_
        refine xg_t (xg_aload (va := (2, 82)) rfl rfl) ?_
        refine xg_cVv mX12_ends (vs := []) (rest := []) (cn1 := 0) (sl1 := 0) rfl (mEnds (xMnv.up (S := [113]) hI43 ((((xFr.of (S := [113]) hb54 (by decide)).tr (xFr.of (S := [113]) hb94 (by decide))).tr (xFr.of (S := [113]) hb102 (by decide))).tr (xFr.of (S := [113]) hb110 (by decide))) (List.forall_mem_cons.mpr ⟨(show cpI 4 80 4294967295 (wget w108 113) from ⟨_, hr109, xrb (by omega) (xrb (by omega) (xrb (by omega) (xrb (by omega) (hb40))))⟩), fun _ h => absurd h List.not_mem_nil⟩)) (show fld w108 82 10 = 0 ∨ FA w108 ≠ 0 by omega)) rfl (hb110.get (by decide) (hb102.get (by decide) (hb94.get (by decide) (hb54.get (by decide) h82_90)))) rfl rfl rfl rfl rfl rfl (fun w272 hq273 => ?_)
        obtain ⟨hI274, hF275, hx276⟩ := hq273
        obtain ⟨hv277, hv278, hv279, hv280⟩ := hx276
        exact xg_e ⟨w272, ⟨rfl, rfl⟩, hI274, (((hF44.up (by decide)).tr ((((xFr.of (S := [82, 83, 113]) hb54 (by decide)).tr (xFr.of (S := [82, 83, 113]) hb94 (by decide))).tr (xFr.of (S := [82, 83, 113]) hb102 (by decide))).tr (xFr.of (S := [82, 83, 113]) hb110 (by decide)))).tr (hF275.up (by decide))), ⟨fun _ => by omega, by omega, by omega, (show fld w272 82 10 = 0 ∨ FA w272 ≠ 0 by omega)⟩⟩
    · refine xg_t (xg_ifT (u := f82_76) rfl xnm0 (xj_neT hc116)) ?_
      refine xg_t (xg_blk (b := [(74, 1, 0, 0, 0, 0), (75, 3, 13, 140, 96, 183), (78, 1, 12, 0, 0, 0)]) rfl) ?_
      refine xg_t (xg_aload (va := (2, 82)) rfl rfl) ?_
      refine xg_cVv mX12_ends (vs := []) (rest := []) (cn1 := 0) (sl1 := 0) rfl (mEnds (xMnv.up (S := [113]) hI43 ((((xFr.of (S := [113]) hb54 (by decide)).tr (xFr.of (S := [113]) hb94 (by decide))).tr (xFr.of (S := [113]) hb102 (by decide))).tr (xFr.of (S := [113]) hb110 (by decide))) (List.forall_mem_cons.mpr ⟨(show cpI 4 80 4294967295 (wget w108 113) from ⟨_, hr109, xrb (by omega) (xrb (by omega) (xrb (by omega) (xrb (by omega) (hb40))))⟩), fun _ h => absurd h List.not_mem_nil⟩)) (show fld w108 82 10 = 0 ∨ FA w108 ≠ 0 by omega)) rfl (hb110.get (by decide) (hb102.get (by decide) (hb94.get (by decide) (hb54.get (by decide) h82_90)))) rfl rfl rfl rfl rfl rfl (fun w281 hq282 => ?_)
      obtain ⟨hI283, hF284, hx285⟩ := hq282
      obtain ⟨hv286, hv287, hv288, hv289⟩ := hx285
      exact xg_e ⟨w281, ⟨rfl, rfl⟩, hI283, (((hF44.up (by decide)).tr ((((xFr.of (S := [82, 83, 113]) hb54 (by decide)).tr (xFr.of (S := [82, 83, 113]) hb94 (by decide))).tr (xFr.of (S := [82, 83, 113]) hb102 (by decide))).tr (xFr.of (S := [82, 83, 113]) hb110 (by decide)))).tr (hF284.up (by decide))), ⟨fun _ => by omega, by omega, by omega, (show fld w281 82 10 = 0 ∨ FA w281 ≠ 0 by omega)⟩⟩
  · refine xg_t (xg_ifF (u := n45) rfl xnm0 (xj_eqF hc51)) ?_
    refine xg_t (xg_const) ?_
    refine xg_t (xg_goto) ?_
    refine xg_t (xg_blk (b := [(19, 1, 17, 0, 0, 0), (20, 1, 0, 0, 0, 0), (21, 3, 1, 12, 46, 102), (24, 1, 3, 1, 0, 0), (25, 1, 0, 0, 0, 0), (26, 3, 1, 12, 9, 165), (29, 1, 17, 0, 0, 0), (30, 1, 0, 0, 0, 0), (31, 3, 1, 12, 46, 102), (34, 1, 3, 2, 0, 0), (35, 2, 4, 61, 0, 0), (37, 1, 17, 0, 0, 0), (38, 1, 0, 0, 0, 0), (39, 3, 1, 12, 46, 102), (42, 1, 3, 3, 0, 0), (43, 1, 3, 1, 0, 0), (44, 1, 17, 0, 0, 0), (45, 1, 0, 0, 0, 0), (46, 3, 1, 12, 10, 180), (49, 3, 7, 74, 1, 0), (52, 1, 0, 0, 0, 0), (53, 3, 1, 12, 7, 151), (56, 1, 3, 3, 0, 0), (57, 3, 6, 74, 1, 0), (60, 1, 0, 0, 0, 0), (61, 3, 1, 12, 9, 165), (64, 2, 4, 20, 0, 0), (66, 2, 4, 30, 0, 0), (68, 3, 13, 161, 98, 105), (71, 3, 7, 79, 1, 0)]) rfl) ?_
    refine xg_iastK (n := 0) (u := 1) (h113_39.fr hF44 (by decide)) xnm0 xnm0 rfl (by omega) (fun w290 hr291 hb292 => ?_)
    have hf293 := FA_fr (xFr.of (S := [113]) hb292 (by decide)) (by decide)
    have hf294 := mu_fr (xFr.of (S := [113]) hb292 (by decide)) (by decide)
    have hf295 := fld_fr (c := 82) (j := 7) (xFr.of (S := [113]) hb292 (by decide)) (by decide)
    have hf296 := fld_fr (c := 82) (j := 10) (xFr.of (S := [113]) hb292 (by decide)) (by decide)
    have hf297 := fld_fr (c := 82) (j := 14) (xFr.of (S := [113]) hb292 (by decide)) (by decide)
    refine xg_t (xg_aload (va := (2, 82)) rfl rfl) ?_
    obtain ⟨f82_298, f82_300, f82_302, f82_304, f82_306, f82_308, f82_310, f82_312, f82_314, f82_316, f82_318, f82_319, f82_320, f82_322, f82_324, f82_326, h82_328, hb299, hb301, hb303, hb305, hb307, hb309, hb311, hb313, hb315, hb317, hb321, hb323, hb325, hb327, hb329⟩ := (hI43 82 (by decide) (by decide) : cp82 (wget w41 82))
    refine xg_t (xg_getf (va := (2, 113)) (hb292.get (by decide) h82_328) rfl) ?_
    refine xg_t (xg_const) ?_
    refine xg_t (xg_aload (va := (2, 82)) rfl rfl) ?_
    refine xg_t (xg_getf (va := (0, f82_312)) (hb292.get (by decide) h82_328) rfl) ?_
    refine xg_iastK (n := 1) (u := f82_312) hr291 xnm0 xnm0 rfl (by omega) (fun w330 hr331 hb332 => ?_)
    have hf333 := FA_fr (xFr.of (S := [113]) hb332 (by decide)) (by decide)
    have hf334 := mu_fr (xFr.of (S := [113]) hb332 (by decide)) (by decide)
    have hf335 := fld_fr (c := 82) (j := 7) (xFr.of (S := [113]) hb332 (by decide)) (by decide)
    have hf336 := fld_fr (c := 82) (j := 10) (xFr.of (S := [113]) hb332 (by decide)) (by decide)
    have hf337 := fld_fr (c := 82) (j := 14) (xFr.of (S := [113]) hb332 (by decide)) (by decide)
    refine xg_t (xg_aload (va := (2, 82)) rfl rfl) ?_
    refine xg_t (xg_getf (va := (2, 113)) (hb332.get (by decide) (hb292.get (by decide) h82_328)) rfl) ?_
    refine xg_t (xg_const) ?_
    refine xg_t (xg_bip) ?_
    refine xg_iastK (n := 2) (u := 61) hr331 xnm0 xnm0 rfl (by omega) (fun w338 hr339 hb340 => ?_)
    have hf341 := FA_fr (xFr.of (S := [113]) hb340 (by decide)) (by decide)
    have hf342 := mu_fr (xFr.of (S := [113]) hb340 (by decide)) (by decide)
    have hf343 := fld_fr (c := 82) (j := 7) (xFr.of (S := [113]) hb340 (by decide)) (by decide)
    have hf344 := fld_fr (c := 82) (j := 10) (xFr.of (S := [113]) hb340 (by decide)) (by decide)
    have hf345 := fld_fr (c := 82) (j := 14) (xFr.of (S := [113]) hb340 (by decide)) (by decide)
    refine xg_t (xg_aload (va := (2, 82)) rfl rfl) ?_
    refine xg_t (xg_getf (va := (2, 113)) (hb340.get (by decide) (hb332.get (by decide) (hb292.get (by decide) h82_328))) rfl) ?_
    refine xg_t (xg_const) ?_
    refine xg_t (xg_const) ?_
    refine xg_iastK (n := 3) (u := 1) hr339 xnm0 xnm0 rfl (by omega) (fun w346 hr347 hb348 => ?_)
    have hf349 := FA_fr (xFr.of (S := [113]) hb348 (by decide)) (by decide)
    have hf350 := mu_fr (xFr.of (S := [113]) hb348 (by decide)) (by decide)
    have hf351 := fld_fr (c := 82) (j := 7) (xFr.of (S := [113]) hb348 (by decide)) (by decide)
    have hf352 := fld_fr (c := 82) (j := 10) (xFr.of (S := [113]) hb348 (by decide)) (by decide)
    have hf353 := fld_fr (c := 82) (j := 14) (xFr.of (S := [113]) hb348 (by decide)) (by decide)
    refine xg_t (xg_aload (va := (2, 82)) rfl rfl) ?_
    refine xg_t (xg_getf (va := (0, f82_314)) (hb348.get (by decide) (hb340.get (by decide) (hb332.get (by decide) (hb292.get (by decide) h82_328)))) rfl) ?_
    by_cases hc354 : f82_314 = 0
    · refine xg_t (xg_ifF (u := f82_314) rfl xnm0 (xj_neF hc354)) ?_
      refine xg_t (xg_aload (va := (2, 82)) rfl rfl) ?_
      refine xg_t (xg_getf (va := (0, f82_308)) (hb348.get (by decide) (hb340.get (by decide) (hb332.get (by decide) (hb292.get (by decide) h82_328)))) rfl) ?_
      refine xg_t (xg_const) ?_
      by_cases hc355 : f82_308 = 3
      · refine xg_t (xg_icF (u := f82_308) (v := 3) rfl xnm0 xnm0 (xj_neF hc355)) ?_
        refine xg_t (xg_aload (va := (2, 82)) rfl rfl) ?_
        refine xg_t (xg_getf (va := (0, f82_312)) (hb348.get (by decide) (hb340.get (by decide) (hb332.get (by decide) (hb292.get (by decide) h82_328)))) rfl) ?_
        refine xg_t (xg_bip) ?_
        refine xg_t (xg_bip) ?_
        refine xg_t (xg_cSr mX12_isIn (vs := [(0, f82_312), (0, 20), (0, 30)]) (rest := []) (rs := [(0, if 20 ≤ f82_312 ∧ f82_312 ≤ 30 then 1 else 0)]) (cn1 := 0) (sl1 := 0) rfl (mIsIn (by omega) (by omega) (by omega)) rfl rfl rfl rfl rfl rfl rfl rfl) ?_
        by_cases hc356 : 20 ≤ f82_312 ∧ f82_312 ≤ 30
        · refine xg_t (xg_ifT (u := (if 20 ≤ f82_312 ∧ f82_312 ≤ 30 then 1 else 0)) rfl xnm0 (xj_neT (xite1 hc356))) ?_
          refine xg_t (xg_blk (b := [(79, 1, 0, 0, 0, 0), (80, 3, 13, 110, 96, 190), (83, 1, 0, 0, 0, 0), (84, 3, 1, 12, 46, 102), (87, 1, 3, 1, 0, 0), (88, 1, 10, 0, 0, 0), (89, 2, 4, 21, 0, 0), (91, 3, 6, 95, 4, 0), (94, 1, 12, 0, 0, 0)]) rfl) ?_
          refine xg_t (xg_aload (va := (2, 82)) rfl rfl) ?_
          refine xg_cVv mX12_advance (vs := []) (rest := []) (cn1 := 0) (sl1 := 0) rfl (mAdvance (xMnv.up (S := [113]) hI43 ((((xFr.of (S := [113]) hb292 (by decide)).tr (xFr.of (S := [113]) hb332 (by decide))).tr (xFr.of (S := [113]) hb340 (by decide))).tr (xFr.of (S := [113]) hb348 (by decide))) (List.forall_mem_cons.mpr ⟨(show cpI 4 80 4294967295 (wget w346 113) from ⟨_, hr347, xrb (by omega) (xrb (by omega) (xrb (by omega) (xrb (by omega) (hb40))))⟩), fun _ h => absurd h List.not_mem_nil⟩))) rfl (hb348.get (by decide) (hb340.get (by decide) (hb332.get (by decide) (hb292.get (by decide) h82_328)))) rfl rfl rfl rfl rfl rfl (fun w357 hq358 => ?_)
          obtain ⟨hI359, hF360, hx361⟩ := hq358
          obtain ⟨hv362, hv363, hv364, hv365⟩ := hx361
          have hf366 := FA_fr hF360 (by decide)
          refine xg_t (xg_aload (va := (2, 82)) rfl rfl) ?_
          obtain ⟨f82_367, f82_369, f82_371, f82_373, f82_375, f82_377, f82_379, f82_381, f82_383, f82_385, f82_387, f82_388, f82_389, f82_391, f82_393, f82_395, h82_397, hb368, hb370, hb372, hb374, hb376, hb378, hb380, hb382, hb384, hb386, hb390, hb392, hb394, hb396, hb398⟩ := (hI359 82 (by decide) (by decide) : cp82 (wget w357 82))
          refine xg_t (xg_getf (va := (2, 113)) h82_397 rfl) ?_
          refine xg_t (xg_const) ?_
          refine xg_ialdB (n := 1) (B := 4294967295) (hr347.fr hF360 (by decide)) (xrb (by omega) (xrb (by omega) (xrb (by omega) (xrb (by omega) (hb40))))) xnm0 (by omega) (fun u399 hu400 he401 => ?_)
          refine xg_t (xg_bip) ?_
          by_cases hc402 : xbs 21 < xbs u399
          · have hc402u := hc402
            unfold xbs at hc402u
            have hn403 : u399 ≤ 2147483647 := by omega
            refine xg_t (xg_icT (u := u399) (v := 21) rfl xnm0 xnm0 (xjs_gtT hc402)) ?_
            refine xg_t (xg_blk (b := [(95, 1, 0, 0, 0, 0), (96, 3, 1, 12, 46, 102), (99, 1, 3, 2, 0, 0), (100, 1, 0, 0, 0, 0), (101, 3, 1, 12, 3, 174), (104, 1, 17, 0, 0, 0), (105, 1, 0, 0, 0, 0), (106, 3, 1, 12, 7, 151), (109, 1, 3, 2, 0, 0), (110, 3, 6, 131, 1, 0), (113, 1, 0, 0, 0, 0), (114, 3, 1, 12, 3, 174), (117, 2, 4, 58, 0, 0), (119, 3, 6, 131, 0, 0), (122, 1, 0, 0, 0, 0), (123, 3, 1, 12, 3, 174), (126, 2, 4, 59, 0, 0), (128, 3, 6, 136, 1, 0)]) rfl) ?_
            refine xg_t (xg_aload (va := (2, 82)) rfl rfl) ?_
            refine xg_t (xg_getf (va := (2, 113)) h82_397 rfl) ?_
            refine xg_t (xg_const) ?_
            refine xg_t (xg_aload (va := (2, 82)) rfl rfl) ?_
            refine xg_t (xg_getf (va := (0, f82_369)) h82_397 rfl) ?_
            refine xg_iastK (n := 2) (u := f82_369) (hr347.fr hF360 (by decide)) xnm0 xnm0 rfl (by omega) (fun w404 hr405 hb406 => ?_)
            have hf407 := FA_fr (xFr.of (S := [113]) hb406 (by decide)) (by decide)
            have hf408 := mu_fr (xFr.of (S := [113]) hb406 (by decide)) (by decide)
            have hf409 := fld_fr (c := 82) (j := 7) (xFr.of (S := [113]) hb406 (by decide)) (by decide)
            have hf410 := fld_fr (c := 82) (j := 10) (xFr.of (S := [113]) hb406 (by decide)) (by decide)
            have hf411 := fld_fr (c := 82) (j := 14) (xFr.of (S := [113]) hb406 (by decide)) (by decide)
            refine xg_t (xg_aload (va := (2, 82)) rfl rfl) ?_
            refine xg_t (xg_getf (va := (0, f82_377)) (hb406.get (by decide) h82_397) rfl) ?_
            refine xg_t (xg_const) ?_
            by_cases hc412 : f82_377 = 2
            · refine xg_t (xg_icF (u := f82_377) (v := 2) rfl xnm0 xnm0 (xj_neF hc412)) ?_
              refine xg_t (xg_aload (va := (2, 82)) rfl rfl) ?_
              refine xg_t (xg_getf (va := (0, f82_369)) (hb406.get (by decide) h82_397) rfl) ?_
              refine xg_t (xg_bip) ?_
              by_cases hc413 : f82_369 = 58
              · refine xg_t (xg_icT (u := f82_369) (v := 58) rfl xnm0 xnm0 (xj_eqT hc413)) ?_
                refine xg_t (xg_blk (b := [(131, 1, 0, 0, 0, 0), (132, 3, 13, 140, 96, 183), (135, 1, 12, 0, 0, 0)]) rfl) ?_
                refine xg_t (xg_aload (va := (2, 82)) rfl rfl) ?_
                refine xg_cVv mX12_ends (vs := []) (rest := []) (cn1 := 0) (sl1 := 0) rfl (mEnds (xMnv.up (S := [113]) hI359 (xFr.of (S := [113]) hb406 (by decide)) (List.forall_mem_cons.mpr ⟨(show cpI 4 80 4294967295 (wget w404 113) from ⟨_, hr405, xrb (by omega) (xrb (by omega) (xrb (by omega) (xrb (by omega) (xrb (by omega) (hb40)))))⟩), fun _ h => absurd h List.not_mem_nil⟩)) (show fld w404 82 10 = 0 ∨ FA w404 ≠ 0 by omega)) rfl (hb406.get (by decide) h82_397) rfl rfl rfl rfl rfl rfl (fun w414 hq415 => ?_)
                obtain ⟨hI416, hF417, hx418⟩ := hq415
                obtain ⟨hv419, hv420, hv421, hv422⟩ := hx418
                exact xg_e ⟨w414, ⟨rfl, rfl⟩, hI416, (((((hF44.up (by decide)).tr ((((xFr.of (S := [82, 83, 113]) hb292 (by decide)).tr (xFr.of (S := [82, 83, 113]) hb332 (by decide))).tr (xFr.of (S := [82, 83, 113]) hb340 (by decide))).tr (xFr.of (S := [82, 83, 113]) hb348 (by decide)))).tr (hF360.up (by decide))).tr (xFr.of (S := [82, 83, 113]) hb406 (by decide))).tr (hF417.up (by decide))), ⟨fun _ => by omega, by omega, by omega, (show fld w414 82 10 = 0 ∨ FA w414 ≠ 0 by omega)⟩⟩
              · refine xg_t (xg_icF (u := f82_369) (v := 58) rfl xnm0 xnm0 (xj_eqF hc413)) ?_
                refine xg_t (xg_aload (va := (2, 82)) rfl rfl) ?_
                refine xg_t (xg_getf (va := (0, f82_369)) (hb406.get (by decide) h82_397) rfl) ?_
                refine xg_t (xg_bip) ?_
                by_cases hc423 : f82_369 = 59
                · refine xg_t (xg_icF (u := f82_369) (v := 59) rfl xnm0 xnm0 (xj_neF hc423)) ?_
                  refine xg_t (xg_blk (b := [(131, 1, 0, 0, 0, 0), (132, 3, 13, 140, 96, 183), (135, 1, 12, 0, 0, 0)]) rfl) ?_
                  refine xg_t (xg_aload (va := (2, 82)) rfl rfl) ?_
                  refine xg_cVv mX12_ends (vs := []) (rest := []) (cn1 := 0) (sl1 := 0) rfl (mEnds (xMnv.up (S := [113]) hI359 (xFr.of (S := [113]) hb406 (by decide)) (List.forall_mem_cons.mpr ⟨(show cpI 4 80 4294967295 (wget w404 113) from ⟨_, hr405, xrb (by omega) (xrb (by omega) (xrb (by omega) (xrb (by omega) (xrb (by omega) (hb40)))))⟩), fun _ h => absurd h List.not_mem_nil⟩)) (show fld w404 82 10 = 0 ∨ FA w404 ≠ 0 by omega)) rfl (hb406.get (by decide) h82_397) rfl rfl rfl rfl rfl rfl (fun w424 hq425 => ?_)
                  obtain ⟨hI426, hF427, hx428⟩ := hq425
                  obtain ⟨hv429, hv430, hv431, hv432⟩ := hx428
                  exact xg_e ⟨w424, ⟨rfl, rfl⟩, hI426, (((((hF44.up (by decide)).tr ((((xFr.of (S := [82, 83, 113]) hb292 (by decide)).tr (xFr.of (S := [82, 83, 113]) hb332 (by decide))).tr (xFr.of (S := [82, 83, 113]) hb340 (by decide))).tr (xFr.of (S := [82, 83, 113]) hb348 (by decide)))).tr (hF360.up (by decide))).tr (xFr.of (S := [82, 83, 113]) hb406 (by decide))).tr (hF427.up (by decide))), ⟨fun _ => by omega, by omega, by omega, (show fld w424 82 10 = 0 ∨ FA w424 ≠ 0 by omega)⟩⟩
                · refine xg_t (xg_icT (u := f82_369) (v := 59) rfl xnm0 xnm0 (xj_neT hc423)) ?_
                  refine xg_t (xg_blk (b := [(136, 1, 0, 0, 0, 0), (137, 3, 13, 110, 96, 190), (140, 1, 0, 0, 0, 0), (141, 3, 1, 12, 46, 102), (144, 1, 3, 3, 0, 0), (145, 1, 0, 0, 0, 0), (146, 3, 13, 198, 96, 418), (149, 1, 17, 0, 0, 0), (150, 1, 12, 0, 0, 0)]) rfl) ?_
                  refine xg_t (xg_aload (va := (2, 82)) rfl rfl) ?_
                  refine xg_cVv mX12_advance (vs := []) (rest := []) (cn1 := 0) (sl1 := 0) rfl (mAdvance (xMnv.up (S := [113]) hI359 (xFr.of (S := [113]) hb406 (by decide)) (List.forall_mem_cons.mpr ⟨(show cpI 4 80 4294967295 (wget w404 113) from ⟨_, hr405, xrb (by omega) (xrb (by omega) (xrb (by omega) (xrb (by omega) (xrb (by omega) (hb40)))))⟩), fun _ h => absurd h List.not_mem_nil⟩))) rfl (hb406.get (by decide) h82_397) rfl rfl rfl rfl rfl rfl (fun w433 hq434 => ?_)
                  obtain ⟨hI435, hF436, hx437⟩ := hq434
                  obtain ⟨hv438, hv439, hv440, hv441⟩ := hx437
                  have hf442 := FA_fr hF436 (by decide)
                  refine xg_t (xg_aload (va := (2, 82)) rfl rfl) ?_
                  obtain ⟨f82_443, f82_445, f82_447, f82_449, f82_451, f82_453, f82_455, f82_457, f82_459, f82_461, f82_463, f82_464, f82_465, f82_467, f82_469, f82_471, h82_473, hb444, hb446, hb448, hb450, hb452, hb454, hb456, hb458, hb460, hb462, hb466, hb468, hb470, hb472, hb474⟩ := (hI435 82 (by decide) (by decide) : cp82 (wget w433 82))
                  refine xg_t (xg_getf (va := (2, 113)) h82_473 rfl) ?_
                  refine xg_t (xg_const) ?_
                  refine xg_t (xg_aload (va := (2, 82)) rfl rfl) ?_
                  refine xg_cVi mX12_numberNow (vs := []) (rest := [(0, 3), (2, 113)]) (cn1 := 0) (sl1 := 0) rfl (mNumberNow (hI435) (show fld w433 82 10 = 0 ∨ FA w433 ≠ 0 by omega)) rfl h82_473 rfl rfl rfl rfl rfl rfl (fun n479 w475 hq476 => ?_)
                  obtain ⟨hn480, hI477, hF478⟩ := hq476
                  obtain ⟨hn481, hn482⟩ := hn480
                  have hq483 := hn482
                  unfold PK PS at hq483
                  refine xg_iastK (n := 3) (u := n479) ((hr405.fr hF436 (by decide)).fr hF478 (by decide)) xnm0 xnm0 rfl (by omega) (fun w484 hr485 hb486 => ?_)
                  have hf487 := FA_fr (xFr.of (S := [113]) hb486 (by decide)) (by decide)
                  have hf488 := mu_fr (xFr.of (S := [113]) hb486 (by decide)) (by decide)
                  have hf489 := fld_fr (c := 82) (j := 7) (xFr.of (S := [113]) hb486 (by decide)) (by decide)
                  have hf490 := fld_fr (c := 82) (j := 10) (xFr.of (S := [113]) hb486 (by decide)) (by decide)
                  have hf491 := fld_fr (c := 82) (j := 14) (xFr.of (S := [113]) hb486 (by decide)) (by decide)
                  exact xg_e ⟨w484, ⟨rfl, rfl⟩, xMnv.up (S := [113]) hI477 (xFr.of (S := [113]) hb486 (by decide)) (List.forall_mem_cons.mpr ⟨(show cpI 4 80 4294967295 (wget w484 113) from ⟨_, hr485, xrb (by omega) (xrb (by omega) (xrb (by omega) (xrb (by omega) (xrb (by omega) (xrb (by omega) (hb40))))))⟩), fun _ h => absurd h List.not_mem_nil⟩), (((((((hF44.up (by decide)).tr ((((xFr.of (S := [82, 83, 113]) hb292 (by decide)).tr (xFr.of (S := [82, 83, 113]) hb332 (by decide))).tr (xFr.of (S := [82, 83, 113]) hb340 (by decide))).tr (xFr.of (S := [82, 83, 113]) hb348 (by decide)))).tr (hF360.up (by decide))).tr (xFr.of (S := [82, 83, 113]) hb406 (by decide))).tr (hF436.up (by decide))).tr (hF478.up (by decide))).tr (xFr.of (S := [82, 83, 113]) hb486 (by decide))), ⟨fun _ => by omega, by omega, by omega, (show fld w484 82 10 = 0 ∨ FA w484 ≠ 0 by omega)⟩⟩
            · refine xg_t (xg_icT (u := f82_377) (v := 2) rfl xnm0 xnm0 (xj_neT hc412)) ?_
              refine xg_t (xg_blk (b := [(131, 1, 0, 0, 0, 0), (132, 3, 13, 140, 96, 183), (135, 1, 12, 0, 0, 0)]) rfl) ?_
              refine xg_t (xg_aload (va := (2, 82)) rfl rfl) ?_
              refine xg_cVv mX12_ends (vs := []) (rest := []) (cn1 := 0) (sl1 := 0) rfl (mEnds (xMnv.up (S := [113]) hI359 (xFr.of (S := [113]) hb406 (by decide)) (List.forall_mem_cons.mpr ⟨(show cpI 4 80 4294967295 (wget w404 113) from ⟨_, hr405, xrb (by omega) (xrb (by omega) (xrb (by omega) (xrb (by omega) (xrb (by omega) (hb40)))))⟩), fun _ h => absurd h List.not_mem_nil⟩)) (show fld w404 82 10 = 0 ∨ FA w404 ≠ 0 by omega)) rfl (hb406.get (by decide) h82_397) rfl rfl rfl rfl rfl rfl (fun w492 hq493 => ?_)
              obtain ⟨hI494, hF495, hx496⟩ := hq493
              obtain ⟨hv497, hv498, hv499, hv500⟩ := hx496
              exact xg_e ⟨w492, ⟨rfl, rfl⟩, hI494, (((((hF44.up (by decide)).tr ((((xFr.of (S := [82, 83, 113]) hb292 (by decide)).tr (xFr.of (S := [82, 83, 113]) hb332 (by decide))).tr (xFr.of (S := [82, 83, 113]) hb340 (by decide))).tr (xFr.of (S := [82, 83, 113]) hb348 (by decide)))).tr (hF360.up (by decide))).tr (xFr.of (S := [82, 83, 113]) hb406 (by decide))).tr (hF495.up (by decide))), ⟨fun _ => by omega, by omega, by omega, (show fld w492 82 10 = 0 ∨ FA w492 ≠ 0 by omega)⟩⟩
          · have hc402u := hc402
            unfold xbs at hc402u
            refine xg_t (xg_icF (u := u399) (v := 21) rfl xnm0 xnm0 (xjs_gtF hc402)) ?_
            exact xg_e ⟨w357, ⟨rfl, rfl⟩, hI359, (((hF44.up (by decide)).tr ((((xFr.of (S := [82, 83, 113]) hb292 (by decide)).tr (xFr.of (S := [82, 83, 113]) hb332 (by decide))).tr (xFr.of (S := [82, 83, 113]) hb340 (by decide))).tr (xFr.of (S := [82, 83, 113]) hb348 (by decide)))).tr (hF360.up (by decide))), ⟨fun _ => by omega, by omega, by omega, (show fld w357 82 10 = 0 ∨ FA w357 ≠ 0 by omega)⟩⟩
        · refine xg_t (xg_ifF (u := (if 20 ≤ f82_312 ∧ f82_312 ≤ 30 then 1 else 0)) rfl xnm0 (xj_neF (xite0 hc356))) ?_
          refine xg_t (xg_blk (b := [(74, 1, 0, 0, 0, 0), (75, 3, 13, 140, 96, 183), (78, 1, 12, 0, 0, 0)]) rfl) ?_
          refine xg_t (xg_aload (va := (2, 82)) rfl rfl) ?_
          refine xg_cVv mX12_ends (vs := []) (rest := []) (cn1 := 0) (sl1 := 0) rfl (mEnds (xMnv.up (S := [113]) hI43 ((((xFr.of (S := [113]) hb292 (by decide)).tr (xFr.of (S := [113]) hb332 (by decide))).tr (xFr.of (S := [113]) hb340 (by decide))).tr (xFr.of (S := [113]) hb348 (by decide))) (List.forall_mem_cons.mpr ⟨(show cpI 4 80 4294967295 (wget w346 113) from ⟨_, hr347, xrb (by omega) (xrb (by omega) (xrb (by omega) (xrb (by omega) (hb40))))⟩), fun _ h => absurd h List.not_mem_nil⟩)) (show fld w346 82 10 = 0 ∨ FA w346 ≠ 0 by omega)) rfl (hb348.get (by decide) (hb340.get (by decide) (hb332.get (by decide) (hb292.get (by decide) h82_328)))) rfl rfl rfl rfl rfl rfl (fun w501 hq502 => ?_)
          obtain ⟨hI503, hF504, hx505⟩ := hq502
          obtain ⟨hv506, hv507, hv508, hv509⟩ := hx505
          exact xg_e ⟨w501, ⟨rfl, rfl⟩, hI503, (((hF44.up (by decide)).tr ((((xFr.of (S := [82, 83, 113]) hb292 (by decide)).tr (xFr.of (S := [82, 83, 113]) hb332 (by decide))).tr (xFr.of (S := [82, 83, 113]) hb340 (by decide))).tr (xFr.of (S := [82, 83, 113]) hb348 (by decide)))).tr (hF504.up (by decide))), ⟨fun _ => by omega, by omega, by omega, (show fld w501 82 10 = 0 ∨ FA w501 ≠ 0 by omega)⟩⟩
      · refine xg_t (xg_icT (u := f82_308) (v := 3) rfl xnm0 xnm0 (xj_neT hc355)) ?_
        refine xg_t (xg_blk (b := [(74, 1, 0, 0, 0, 0), (75, 3, 13, 140, 96, 183), (78, 1, 12, 0, 0, 0)]) rfl) ?_
        refine xg_t (xg_aload (va := (2, 82)) rfl rfl) ?_
        refine xg_cVv mX12_ends (vs := []) (rest := []) (cn1 := 0) (sl1 := 0) rfl (mEnds (xMnv.up (S := [113]) hI43 ((((xFr.of (S := [113]) hb292 (by decide)).tr (xFr.of (S := [113]) hb332 (by decide))).tr (xFr.of (S := [113]) hb340 (by decide))).tr (xFr.of (S := [113]) hb348 (by decide))) (List.forall_mem_cons.mpr ⟨(show cpI 4 80 4294967295 (wget w346 113) from ⟨_, hr347, xrb (by omega) (xrb (by omega) (xrb (by omega) (xrb (by omega) (hb40))))⟩), fun _ h => absurd h List.not_mem_nil⟩)) (show fld w346 82 10 = 0 ∨ FA w346 ≠ 0 by omega)) rfl (hb348.get (by decide) (hb340.get (by decide) (hb332.get (by decide) (hb292.get (by decide) h82_328)))) rfl rfl rfl rfl rfl rfl (fun w510 hq511 => ?_)
        obtain ⟨hI512, hF513, hx514⟩ := hq511
        obtain ⟨hv515, hv516, hv517, hv518⟩ := hx514
        exact xg_e ⟨w510, ⟨rfl, rfl⟩, hI512, (((hF44.up (by decide)).tr ((((xFr.of (S := [82, 83, 113]) hb292 (by decide)).tr (xFr.of (S := [82, 83, 113]) hb332 (by decide))).tr (xFr.of (S := [82, 83, 113]) hb340 (by decide))).tr (xFr.of (S := [82, 83, 113]) hb348 (by decide)))).tr (hF513.up (by decide))), ⟨fun _ => by omega, by omega, by omega, (show fld w510 82 10 = 0 ∨ FA w510 ≠ 0 by omega)⟩⟩
    · refine xg_t (xg_ifT (u := f82_314) rfl xnm0 (xj_neT hc354)) ?_
      refine xg_t (xg_blk (b := [(74, 1, 0, 0, 0, 0), (75, 3, 13, 140, 96, 183), (78, 1, 12, 0, 0, 0)]) rfl) ?_
      refine xg_t (xg_aload (va := (2, 82)) rfl rfl) ?_
      refine xg_cVv mX12_ends (vs := []) (rest := []) (cn1 := 0) (sl1 := 0) rfl (mEnds (xMnv.up (S := [113]) hI43 ((((xFr.of (S := [113]) hb292 (by decide)).tr (xFr.of (S := [113]) hb332 (by decide))).tr (xFr.of (S := [113]) hb340 (by decide))).tr (xFr.of (S := [113]) hb348 (by decide))) (List.forall_mem_cons.mpr ⟨(show cpI 4 80 4294967295 (wget w346 113) from ⟨_, hr347, xrb (by omega) (xrb (by omega) (xrb (by omega) (xrb (by omega) (hb40))))⟩), fun _ h => absurd h List.not_mem_nil⟩)) (show fld w346 82 10 = 0 ∨ FA w346 ≠ 0 by omega)) rfl (hb348.get (by decide) (hb340.get (by decide) (hb332.get (by decide) (hb292.get (by decide) h82_328)))) rfl rfl rfl rfl rfl rfl (fun w519 hq520 => ?_)
      obtain ⟨hI521, hF522, hx523⟩ := hq520
      obtain ⟨hv524, hv525, hv526, hv527⟩ := hx523
      exact xg_e ⟨w519, ⟨rfl, rfl⟩, hI521, (((hF44.up (by decide)).tr ((((xFr.of (S := [82, 83, 113]) hb292 (by decide)).tr (xFr.of (S := [82, 83, 113]) hb332 (by decide))).tr (xFr.of (S := [82, 83, 113]) hb340 (by decide))).tr (xFr.of (S := [82, 83, 113]) hb348 (by decide)))).tr (hF522.up (by decide))), ⟨fun _ => by omega, by omega, by omega, (show fld w519 82 10 = 0 ∨ FA w519 ≠ 0 by omega)⟩⟩
theorem mRulePuts {kk va : Nat} (hI : xMnv w) (hkk : kk ≤ 19) (hva : va ≤ 4294967295) (hln : fld w 82 14 ≤ 2000) : xPq d mX12_rulePuts [(2, 82), (0, kk), (0, va)] w bd fc rr [] (fun w' => xMnv w' ∧ xFr [112] w w' ∧ (∀ j, j < 320 → ((fld w 82 14 < 16 ∧ j = 20 * fld w 82 14 + kk) → rwv w' 112 j = va) ∧ (¬ (j = 20 * fld w 82 14 + kk) → rwv w' 112 j = rwv w 112 j))) := by
  refine xPq.of ?_
  show xTo d mX12_rulePuts (0, [], [(0, (2, 82)), (1, (0, kk)), (2, (0, va))], [], (w, bd, fc, 0, 0, rr)) (fun φ => ∃ w', xEnd 0 [] (w', bd, fc, 0, 0, rr) φ ∧ xMnv w' ∧ xFr [112] w w' ∧ (∀ j, j < 320 → ((fld w 82 14 < 16 ∧ j = 20 * fld w 82 14 + kk) → rwv w' 112 j = va) ∧ (¬ (j = 20 * fld w 82 14 + kk) → rwv w' 112 j = rwv w 112 j)))
  obtain ⟨f82_1, f82_3, f82_5, f82_7, f82_9, f82_11, f82_13, f82_15, f82_17, f82_19, f82_21, f82_22, f82_23, f82_25, f82_27, f82_29, h82_31, hb2, hb4, hb6, hb8, hb10, hb12, hb14, hb16, hb18, hb20, hb24, hb26, hb28, hb30, hb32⟩ := (hI 82 (by decide) (by decide) : cp82 (wget w 82))
  obtain ⟨g112_33, h112_34, hb35⟩ := (hI 112 (by decide) (by decide) : cpI 320 79 4294967295 (wget w 112))
  have h112_34 : xRow w 112 320 79 g112_33 := h112_34
  have hf36 : fld w 82 14 = f82_19 := fld_of h82_31
  have hl37 : f82_19 ≤ 2000 := by omega
  refine xg_t (xg_blk (b := [(0, 1, 0, 0, 0, 0), (1, 3, 1, 12, 14, 212), (4, 2, 4, 16, 0, 0), (6, 3, 6, 24, 3, 0), (9, 1, 0, 0, 0, 0), (10, 3, 1, 12, 45, 99), (13, 2, 4, 20, 0, 0), (15, 1, 0, 0, 0, 0), (16, 3, 1, 12, 14, 212), (19, 1, 16, 0, 0, 0), (20, 1, 2, 1, 0, 0), (21, 1, 11, 0, 0, 0), (22, 1, 2, 2, 0, 0), (23, 1, 17, 0, 0, 0)]) rfl) ?_
  refine xg_t (xg_aload (va := (2, 82)) rfl rfl) ?_
  refine xg_t (xg_getf (va := (0, f82_19)) h82_31 rfl) ?_
  refine xg_t (xg_bip) ?_
  by_cases hc38 : f82_19 < 16
  · refine xg_t (xg_icF (u := f82_19) (v := 16) rfl xnm0 xnm0 (xj_geF hc38 (by omega))) ?_
    refine xg_t (xg_aload (va := (2, 82)) rfl rfl) ?_
    refine xg_t (xg_getf (va := (2, 112)) h82_31 rfl) ?_
    refine xg_t (xg_bip) ?_
    refine xg_t (xg_aload (va := (2, 82)) rfl rfl) ?_
    refine xg_t (xg_getf (va := (0, f82_19)) h82_31 rfl) ?_
    refine xg_t (xg_imul (u := 20) (v := f82_19) (z := 20 * f82_19) xnm0 xnm0 (by omega)) ?_
    refine xg_t (xg_iload (va := (0, kk)) rfl rfl) ?_
    refine xg_t (xg_iadd (u := 20 * f82_19) (v := kk) (z := (20 * f82_19) + kk) xnm0 xnm0 (by omega)) ?_
    refine xg_t (xg_iload (va := (0, va)) rfl rfl) ?_
    refine xg_iastK (n := (20 * f82_19) + kk) (u := va) h112_34 xnm0 xnm0 rfl (by omega) (fun w39 hr40 hb41 => ?_)
    refine xg_t (xg_blk (b := [(24, 1, 12, 0, 0, 0)]) rfl) ?_
    exact xg_e ⟨w39, ⟨rfl, rfl⟩, xMnv.up (S := [112]) hI (xFr.of (S := [112]) hb41 (by decide)) (List.forall_mem_cons.mpr ⟨(show cpI 320 79 4294967295 (wget w39 112) from ⟨_, hr40, xrb (by omega) (hb35)⟩), fun _ h => absurd h List.not_mem_nil⟩), (xFr.of (S := [112]) hb41 (by decide)), fun j hj => ⟨fun h => (rwv_of hr40 hj).trans (if_pos (show j = (20 * f82_19) + kk by omega)), fun h => (rwv_of hr40 hj).trans ((if_neg (show ¬ j = (20 * f82_19) + kk by omega)).trans (rwv_of h112_34 hj).symm)⟩⟩
  · refine xg_t (xg_icT (u := f82_19) (v := 16) rfl xnm0 xnm0 (xj_geT (by omega) (by omega))) ?_
    refine xg_t (xg_blk (b := [(24, 1, 12, 0, 0, 0)]) rfl) ?_
    exact xg_e ⟨w, ⟨rfl, rfl⟩, hI, xFr.rf, fun j hj => ⟨fun h => absurd h.1 (by omega), fun _ => rfl⟩⟩
set_option maxHeartbeats 60000000 in
theorem mARuleT {kr : Nat} (hI : xMnv w) (hps : PS w) (hln : fld w 82 14 ≤ 1000) (hk : FA w ≠ 0 ∨ kr ≤ 4) (hkr : kr ≤ 1002) (h16 : 16 ≤ fld w 82 14 → FA w ≠ 0) : xTo (d + 7) mX12_aRule (107, [], [(0, (2, 82)), (1, (0, kr))], [], (w, bd, fc, 0, 0, rr)) (fun φ => ∃ w', xEnd 0 [] (w', bd, fc, 0, 0, rr) φ ∧ xMnv w' ∧ xFr [82, 83, 112, 113] w w' ∧ ((FA w ≠ 0 → FA w' ≠ 0) ∧ PS w' ∧ ((fld w' 82 10 = 1 ∧ mu w' ≤ mu w ∧ fld w' 82 14 = fld w 82 14) ∨ (mu w' < mu w ∧ fld w' 82 14 = fld w 82 14 + 1)) ∧ (FA w' ≠ 0 ∨ (RD w → RD w')))) := by
  obtain ⟨f82_1, f82_3, f82_5, f82_7, f82_9, f82_11, f82_13, f82_15, f82_17, f82_19, f82_21, f82_22, f82_23, f82_25, f82_27, f82_29, h82_31, hb2, hb4, hb6, hb8, hb10, hb12, hb14, hb16, hb18, hb20, hb24, hb26, hb28, hb30, hb32⟩ := (hI 82 (by decide) (by decide) : cp82 (wget w 82))
  have hf33 : fld w 82 4 = f82_5 := fld_of h82_31
  have hf34 : fld w 82 5 = f82_7 := fld_of h82_31
  have hf35 : fld w 82 7 = f82_11 := fld_of h82_31
  have hf36 : fld w 82 10 = f82_17 := fld_of h82_31
  have hf37 : fld w 82 14 = f82_19 := fld_of h82_31
  have hps_ : fld w 82 10 = 0 ∨ FA w ≠ 0 := hps
  obtain ⟨g113_38, h113_39, hb40⟩ := (hI 113 (by decide) (by decide) : cpI 4 80 4294967295 (wget w 113))
  have h113_39 : xRow w 113 4 80 g113_38 := h113_39
  have hl41 : f82_19 ≤ 1000 := by omega
  refine xg_t (xg_blk (b := [(107, 1, 0, 0, 0, 0), (108, 3, 1, 12, 10, 180), (111, 3, 7, 136, 1, 0), (114, 1, 0, 0, 0, 0), (115, 3, 1, 12, 7, 151), (118, 1, 3, 3, 0, 0), (119, 3, 6, 136, 1, 0), (122, 1, 0, 0, 0, 0), (123, 3, 1, 12, 9, 165), (126, 2, 4, 40, 0, 0), (128, 2, 4, 42, 0, 0), (130, 3, 13, 161, 98, 105), (133, 3, 7, 141, 1, 0)]) rfl) ?_
  refine xg_t (xg_aload (va := (2, 82)) rfl rfl) ?_
  refine xg_t (xg_getf (va := (0, f82_17)) h82_31 rfl) ?_
  by_cases hc42 : f82_17 = 0
  · refine xg_t (xg_ifF (u := f82_17) rfl xnm0 (xj_neF hc42)) ?_
    refine xg_t (xg_aload (va := (2, 82)) rfl rfl) ?_
    refine xg_t (xg_getf (va := (0, f82_11)) h82_31 rfl) ?_
    refine xg_t (xg_const) ?_
    by_cases hc43 : f82_11 = 3
    · refine xg_t (xg_icF (u := f82_11) (v := 3) rfl xnm0 xnm0 (xj_neF hc43)) ?_
      refine xg_t (xg_aload (va := (2, 82)) rfl rfl) ?_
      refine xg_t (xg_getf (va := (0, f82_15)) h82_31 rfl) ?_
      refine xg_t (xg_bip) ?_
      refine xg_t (xg_bip) ?_
      refine xg_t (xg_cSr mX12_isIn (vs := [(0, f82_15), (0, 40), (0, 42)]) (rest := []) (rs := [(0, if 40 ≤ f82_15 ∧ f82_15 ≤ 42 then 1 else 0)]) (cn1 := 0) (sl1 := 0) rfl (mIsIn (by omega) (by omega) (by omega)) rfl rfl rfl rfl rfl rfl rfl rfl) ?_
      by_cases hc44 : 40 ≤ f82_15 ∧ f82_15 ≤ 42
      · refine xg_t (xg_ifT (u := (if 40 ≤ f82_15 ∧ f82_15 ≤ 42 then 1 else 0)) rfl xnm0 (xj_neT (xite1 hc44))) ?_
        refine xg_t (xg_blk (b := [(141, 1, 0, 0, 0, 0), (142, 3, 1, 12, 9, 165), (145, 1, 15, 2, 0, 0), (146, 1, 0, 0, 0, 0), (147, 3, 13, 110, 96, 190), (150, 1, 2, 2, 0, 0), (151, 2, 4, 40, 0, 0), (153, 3, 6, 160, 1, 0), (156, 1, 3, 0, 0, 0), (157, 3, 8, 164, 0, 0)]) rfl) ?_
        refine xg_t (xg_aload (va := (2, 82)) rfl rfl) ?_
        refine xg_t (xg_getf (va := (0, f82_15)) h82_31 rfl) ?_
        refine xg_t (xg_istore (l1 := [(0, (2, 82)), (1, (0, kr))]) rfl rfl rfl) ?_
        refine xg_t (xg_aload (va := (2, 82)) rfl rfl) ?_
        have hf45 : fld w 82 7 = f82_11 := fld_of h82_31
        refine xg_cVv mX12_advance (vs := []) (rest := []) (cn1 := 0) (sl1 := 0) rfl (mAdvance (hI)) rfl h82_31 rfl rfl rfl rfl rfl rfl (fun w46 hq47 => ?_)
        obtain ⟨hI48, hF49, hx50⟩ := hq47
        clear hb2 hb4 hb6 hb8 hb10 hb12 hb14 hb18 hb20 hb24 hb26 hb28 hb30
        obtain ⟨hv51, hv52, hv53, hv54⟩ := hx50
        have hf55 := FA_fr hF49 (by decide)
        have pk56 : PK w w46 := ⟨fun _ => by omega, hv51, hv54, (show fld w46 82 10 = 0 ∨ FA w46 ≠ 0 by omega)⟩
        have pk57 : PK w w46 := PK.tr (PK.rf hps) pk56
        have ro58 : ∀ l, l < fld w 82 14 → l < 16 → rwv w46 112 (20 * l) = rwv w 112 (20 * l) := fun l hl h6 => (rwv_fr hF49 (by decide)).trans ((fun l _ _ => rfl) l hl h6)
        have hq59 := pk57
        unfold PK PS at hq59
        have ms60 : mu w46 < mu w := Nat.lt_of_lt_of_le (hv52 (by omega)) (PK.rf hps).2.1
        refine xg_t (xg_iload (va := (0, f82_15)) rfl rfl) ?_
        refine xg_t (xg_bip) ?_
        by_cases hc61 : f82_15 = 40
        · refine xg_t (xg_icF (u := f82_15) (v := 40) rfl xnm0 xnm0 (xj_neF hc61)) ?_
          refine xg_t (xg_const) ?_
          refine xg_t (xg_goto) ?_
          refine xg_t (xg_blk (b := [(164, 1, 15, 3, 0, 0), (165, 1, 0, 0, 0, 0), (166, 2, 4, 59, 0, 0), (168, 3, 13, 195, 96, 427), (171, 1, 0, 0, 0, 0), (172, 1, 3, 0, 0, 0), (173, 1, 2, 1, 0, 0), (174, 3, 13, 214, 96, 424), (177, 1, 0, 0, 0, 0), (178, 2, 4, 17, 0, 0), (180, 1, 2, 2, 0, 0), (181, 3, 13, 214, 96, 424), (184, 1, 0, 0, 0, 0), (185, 2, 4, 18, 0, 0), (187, 1, 2, 3, 0, 0), (188, 3, 13, 214, 96, 424), (191, 1, 0, 0, 0, 0), (192, 1, 19, 0, 0, 0), (193, 3, 1, 12, 14, 212), (196, 1, 3, 1, 0, 0), (197, 1, 11, 0, 0, 0), (198, 3, 14, 12, 14, 212), (201, 1, 12, 0, 0, 0)]) rfl) ?_
          refine xg_t (xg_istore (l1 := [(2, (0, f82_15)), (0, (2, 82)), (1, (0, kr))]) rfl rfl rfl) ?_
          refine xg_t (xg_aload (va := (2, 82)) rfl rfl) ?_
          refine xg_t (xg_bip) ?_
          obtain ⟨f82_62, f82_64, f82_66, f82_68, f82_70, f82_72, f82_74, f82_76, f82_78, f82_80, f82_82, f82_83, f82_84, f82_86, f82_88, f82_90, h82_92, hb63, hb65, hb67, hb69, hb71, hb73, hb75, hb77, hb79, hb81, hb85, hb87, hb89, hb91, hb93⟩ := (hI48 82 (by decide) (by decide) : cp82 (wget w46 82))
          refine xg_cVv mX12_must (vs := [(0, 59)]) (rest := []) (cn1 := 0) (sl1 := 0) rfl (mMust (hI48) (by omega) pk57.2.2.2) rfl h82_92 rfl rfl rfl rfl rfl rfl (fun w94 hq95 => ?_)
          obtain ⟨hI96, hF97, hx98⟩ := hq95
          clear hb63 hb65 hb67 hb69 hb71 hb73 hb75 hb77 hb79 hb81 hb85 hb87 hb89 hb91
          have pk99 : PK w w94 := PK.tr pk57 hx98
          have ro100 : ∀ l, l < fld w 82 14 → l < 16 → rwv w94 112 (20 * l) = rwv w 112 (20 * l) := fun l hl h6 => (rwv_fr hF97 (by decide)).trans (ro58 l hl h6)
          have hq101 := pk99
          unfold PK PS at hq101
          clear hq59
          have ms102 : mu w94 < mu w := Nat.lt_of_le_of_lt hx98.2.1 ms60
          refine xg_t (xg_aload (va := (2, 82)) rfl rfl) ?_
          refine xg_t (xg_const) ?_
          refine xg_t (xg_iload (va := (0, kr)) rfl rfl) ?_
          have hl103 : fld w94 82 14 = fld w 82 14 := pk99.2.2.1
          have hl104 : fld w94 82 14 ≤ 2000 := by omega
          obtain ⟨f82_105, f82_107, f82_109, f82_111, f82_113, f82_115, f82_117, f82_119, f82_121, f82_123, f82_125, f82_126, f82_127, f82_129, f82_131, f82_133, h82_135, hb106, hb108, hb110, hb112, hb114, hb116, hb118, hb120, hb122, hb124, hb128, hb130, hb132, hb134, hb136⟩ := (hI96 82 (by decide) (by decide) : cp82 (wget w94 82))
          refine xg_cVv mX12_rulePuts (vs := [(0, 0), (0, kr)]) (rest := []) (cn1 := 0) (sl1 := 0) rfl (mRulePuts (hI96) (by omega) (by omega) (by omega)) rfl h82_135 rfl rfl rfl rfl rfl rfl (fun w137 hq138 => ?_)
          obtain ⟨hI139, hF140, hx141⟩ := hq138
          have hx142 := hx141
          have pk143 : PK w w137 := PK.tr pk99 (PK.fr hF140 (by decide) (by decide) pk99.2.2.2)
          have ro144 : ∀ l, l < fld w 82 14 → l < 16 → rwv w137 112 (20 * l) = rwv w 112 (20 * l) := fun l hl h6 => ((hx142 _ (by omega)).2 (by omega)).trans (ro100 l hl h6)
          have hq145 := pk143
          unfold PK PS at hq145
          clear hq101
          have ms146 : mu w137 < mu w := Nat.lt_of_le_of_lt (PK.fr hF140 (by decide) (by decide) pk99.2.2.2).2.1 ms102
          have rz147 : fld w 82 14 < 16 → rwv w137 112 (20 * fld w 82 14) = kr := fun h6 => (hx142 _ (by omega)).1 ⟨by omega, by omega⟩
          refine xg_t (xg_aload (va := (2, 82)) rfl rfl) ?_
          refine xg_t (xg_bip) ?_
          refine xg_t (xg_iload (va := (0, f82_15)) rfl rfl) ?_
          have hl148 : fld w137 82 14 = fld w 82 14 := pk143.2.2.1
          have hl149 : fld w137 82 14 ≤ 2000 := by omega
          refine xg_cVv mX12_rulePuts (vs := [(0, 17), (0, f82_15)]) (rest := []) (cn1 := 0) (sl1 := 0) rfl (mRulePuts (hI139) (by omega) (by omega) (by omega)) rfl (hF140.get (by decide) h82_135) rfl rfl rfl rfl rfl rfl (fun w150 hq151 => ?_)
          obtain ⟨hI152, hF153, hx154⟩ := hq151
          have hx155 := hx154
          have pk156 : PK w w150 := PK.tr pk143 (PK.fr hF153 (by decide) (by decide) pk143.2.2.2)
          have ro157 : ∀ l, l < fld w 82 14 → l < 16 → rwv w150 112 (20 * l) = rwv w 112 (20 * l) := fun l hl h6 => ((hx155 _ (by omega)).2 (by omega)).trans (ro144 l hl h6)
          have hq158 := pk156
          unfold PK PS at hq158
          clear hq145
          have ms159 : mu w150 < mu w := Nat.lt_of_le_of_lt (PK.fr hF153 (by decide) (by decide) pk143.2.2.2).2.1 ms146
          have rz160 : fld w 82 14 < 16 → rwv w150 112 (20 * fld w 82 14) = kr := fun h6 => ((hx155 _ (by omega)).2 (by omega)).trans (rz147 h6)
          refine xg_t (xg_aload (va := (2, 82)) rfl rfl) ?_
          refine xg_t (xg_bip) ?_
          refine xg_t (xg_iload (va := (0, 0)) rfl rfl) ?_
          have hl161 : fld w150 82 14 = fld w 82 14 := pk156.2.2.1
          have hl162 : fld w150 82 14 ≤ 2000 := by omega
          refine xg_cVv mX12_rulePuts (vs := [(0, 18), (0, 0)]) (rest := []) (cn1 := 0) (sl1 := 0) rfl (mRulePuts (hI152) (by omega) (by omega) (by omega)) rfl (hF153.get (by decide) (hF140.get (by decide) h82_135)) rfl rfl rfl rfl rfl rfl (fun w163 hq164 => ?_)
          obtain ⟨hI165, hF166, hx167⟩ := hq164
          have hx168 := hx167
          have pk169 : PK w w163 := PK.tr pk156 (PK.fr hF166 (by decide) (by decide) pk156.2.2.2)
          have ro170 : ∀ l, l < fld w 82 14 → l < 16 → rwv w163 112 (20 * l) = rwv w 112 (20 * l) := fun l hl h6 => ((hx168 _ (by omega)).2 (by omega)).trans (ro157 l hl h6)
          have hq171 := pk169
          unfold PK PS at hq171
          clear hq158
          have ms172 : mu w163 < mu w := Nat.lt_of_le_of_lt (PK.fr hF166 (by decide) (by decide) pk156.2.2.2).2.1 ms159
          have rz173 : fld w 82 14 < 16 → rwv w163 112 (20 * fld w 82 14) = kr := fun h6 => ((hx168 _ (by omega)).2 (by omega)).trans (rz160 h6)
          have hf174 : fld w163 82 4 = f82_109 := fld_of (hF166.get (by decide) (hF153.get (by decide) (hF140.get (by decide) h82_135)))
          have hf175 : fld w163 82 5 = f82_111 := fld_of (hF166.get (by decide) (hF153.get (by decide) (hF140.get (by decide) h82_135)))
          have hf176 : fld w163 82 7 = f82_115 := fld_of (hF166.get (by decide) (hF153.get (by decide) (hF140.get (by decide) h82_135)))
          have hf177 : fld w163 82 10 = f82_121 := fld_of (hF166.get (by decide) (hF153.get (by decide) (hF140.get (by decide) h82_135)))
          have hf178 : fld w163 82 14 = f82_123 := fld_of (hF166.get (by decide) (hF153.get (by decide) (hF140.get (by decide) h82_135)))
          have hu179 : mu w163 = 2 * (fld w163 82 4 - fld w163 82 5) + min 1 (fld w163 82 7) := rfl
          have hl180 : f82_123 ≤ 1001 := by omega
          refine xg_t (xg_aload (va := (2, 82)) rfl rfl) ?_
          refine xg_t (xg_dup rfl) ?_
          refine xg_t (xg_getf (va := (0, f82_123)) (hF166.get (by decide) (hF153.get (by decide) (hF140.get (by decide) h82_135))) rfl) ?_
          refine xg_t (xg_const) ?_
          refine xg_t (xg_iadd (u := f82_123) (v := 1) (z := f82_123 + 1) xnm0 xnm0 (by omega)) ?_
          refine xg_putI (fl1 := [(2, 83), (2, 84), (0, f82_105), (0, f82_107), (0, f82_109), (0, f82_111), (0, f82_113), (0, f82_115), (0, f82_117), (0, f82_119), (0, f82_121), (2, 85), (2, 86), (2, 87), (0, f82_123 + 1), (2, 88), (2, 89), (2, 90), (2, 91), (2, 92), (2, 93), (2, 94), (4, f82_125), (4, f82_126), (0, f82_127), (2, 95), (2, 96), (2, 97), (2, 98), (2, 99), (2, 100), (2, 101), (2, 102), (0, f82_129), (2, 103), (2, 104), (2, 105), (2, 106), (2, 107), (2, 108), (2, 109), (0, f82_131), (0, f82_133), (2, 110), (2, 111), (2, 112), (2, 113)]) (hF166.get (by decide) (hF153.get (by decide) (hF140.get (by decide) h82_135))) rfl rfl rfl (fun w181 hk182 hb183 => ?_)
          have hF184 : xFr [82] w163 w181 := xFr.of hb183 (by decide)
          have hA185 := FA_fr hF184 (by decide)
          have hf186 : fld w181 82 4 = f82_109 := fld_of hk182
          have hf187 : fld w181 82 5 = f82_111 := fld_of hk182
          have hf188 : fld w181 82 7 = f82_115 := fld_of hk182
          have hf189 : fld w181 82 10 = f82_121 := fld_of hk182
          have hf190 : fld w181 82 14 = f82_123 + 1 := fld_of hk182
          have hu191 : mu w181 = 2 * (fld w181 82 4 - fld w181 82 5) + min 1 (fld w181 82 7) := rfl
          have hD192 : FA w181 ≠ 0 ∨ (RD w → RD w181) := by
            by_cases z : FA w181 ≠ 0
            · exact Or.inl z
            · refine Or.inr (fun hd => ⟨by omega, fun l hl => ?_⟩)
              rw [rwv_fr hF184 (by decide)]
              by_cases y : l = fld w 82 14
              · rw [y, rz173 (by omega)]; omega
              · rw [ro170 l (by omega) (by have := hd.1; omega)]; exact hd.2 l (by omega)
          exact xg_e ⟨w181, ⟨rfl, rfl⟩, xMnv.up (S := [82]) hI165 (xFr.of (S := [82]) hb183 (by decide)) (List.forall_mem_cons.mpr ⟨(show cp82 (wget w181 82) from ⟨f82_105, f82_107, f82_109, f82_111, f82_113, f82_115, f82_117, f82_119, f82_121, f82_123 + 1, f82_125, f82_126, f82_127, f82_129, f82_131, f82_133, hk182, hb106, hb108, hb110, hb112, hb114, hb116, hb118, hb120, hb122, by omega, hb128, hb130, hb132, hb134, by omega⟩), fun _ h => absurd h List.not_mem_nil⟩), ((((((hF49.up (by decide)).tr (hF97.up (by decide))).tr (hF140.up (by decide))).tr (hF153.up (by decide))).tr (hF166.up (by decide))).tr (xFr.of (S := [82, 83, 112, 113]) hb183 (by decide))), ⟨fun h => by have := pk169.1 h; omega, (show fld w181 82 10 = 0 ∨ FA w181 ≠ 0 by omega), Or.inr ⟨by have := ms172; omega, by omega⟩, hD192⟩⟩
        · refine xg_t (xg_icT (u := f82_15) (v := 40) rfl xnm0 xnm0 (xj_neT hc61)) ?_
          refine xg_t (xg_blk (b := [(160, 1, 0, 0, 0, 0), (161, 3, 13, 198, 96, 418)]) rfl) ?_
          refine xg_t (xg_aload (va := (2, 82)) rfl rfl) ?_
          obtain ⟨f82_193, f82_195, f82_197, f82_199, f82_201, f82_203, f82_205, f82_207, f82_209, f82_211, f82_213, f82_214, f82_215, f82_217, f82_219, f82_221, h82_223, hb194, hb196, hb198, hb200, hb202, hb204, hb206, hb208, hb210, hb212, hb216, hb218, hb220, hb222, hb224⟩ := (hI48 82 (by decide) (by decide) : cp82 (wget w46 82))
          refine xg_cVi mX12_numberNow (vs := []) (rest := []) (cn1 := 0) (sl1 := 0) rfl (mNumberNow (hI48) pk57.2.2.2) rfl h82_223 rfl rfl rfl rfl rfl rfl (fun n229 w225 hq226 => ?_)
          obtain ⟨hn230, hI227, hF228⟩ := hq226
          clear hb194 hb196 hb198 hb200 hb202 hb204 hb206 hb208 hb210 hb212 hb216 hb218 hb220 hb222
          obtain ⟨hn231, hn232⟩ := hn230
          have pk233 : PK w w225 := PK.tr pk57 hn232
          have ro234 : ∀ l, l < fld w 82 14 → l < 16 → rwv w225 112 (20 * l) = rwv w 112 (20 * l) := fun l hl h6 => (rwv_fr hF228 (by decide)).trans (ro58 l hl h6)
          have hq235 := pk233
          unfold PK PS at hq235
          clear hq59
          have ms236 : mu w225 < mu w := Nat.lt_of_le_of_lt hn232.2.1 ms60
          refine xg_t (xg_blk (b := [(164, 1, 15, 3, 0, 0), (165, 1, 0, 0, 0, 0), (166, 2, 4, 59, 0, 0), (168, 3, 13, 195, 96, 427), (171, 1, 0, 0, 0, 0), (172, 1, 3, 0, 0, 0), (173, 1, 2, 1, 0, 0), (174, 3, 13, 214, 96, 424), (177, 1, 0, 0, 0, 0), (178, 2, 4, 17, 0, 0), (180, 1, 2, 2, 0, 0), (181, 3, 13, 214, 96, 424), (184, 1, 0, 0, 0, 0), (185, 2, 4, 18, 0, 0), (187, 1, 2, 3, 0, 0), (188, 3, 13, 214, 96, 424), (191, 1, 0, 0, 0, 0), (192, 1, 19, 0, 0, 0), (193, 3, 1, 12, 14, 212), (196, 1, 3, 1, 0, 0), (197, 1, 11, 0, 0, 0), (198, 3, 14, 12, 14, 212), (201, 1, 12, 0, 0, 0)]) rfl) ?_
          refine xg_t (xg_istore (l1 := [(2, (0, f82_15)), (0, (2, 82)), (1, (0, kr))]) rfl rfl rfl) ?_
          refine xg_t (xg_aload (va := (2, 82)) rfl rfl) ?_
          refine xg_t (xg_bip) ?_
          obtain ⟨f82_237, f82_239, f82_241, f82_243, f82_245, f82_247, f82_249, f82_251, f82_253, f82_255, f82_257, f82_258, f82_259, f82_261, f82_263, f82_265, h82_267, hb238, hb240, hb242, hb244, hb246, hb248, hb250, hb252, hb254, hb256, hb260, hb262, hb264, hb266, hb268⟩ := (hI227 82 (by decide) (by decide) : cp82 (wget w225 82))
          refine xg_cVv mX12_must (vs := [(0, 59)]) (rest := []) (cn1 := 0) (sl1 := 0) rfl (mMust (hI227) (by omega) pk233.2.2.2) rfl h82_267 rfl rfl rfl rfl rfl rfl (fun w269 hq270 => ?_)
          obtain ⟨hI271, hF272, hx273⟩ := hq270
          clear hb238 hb240 hb242 hb244 hb246 hb248 hb250 hb252 hb254 hb256 hb260 hb262 hb264 hb266
          have pk274 : PK w w269 := PK.tr pk233 hx273
          have ro275 : ∀ l, l < fld w 82 14 → l < 16 → rwv w269 112 (20 * l) = rwv w 112 (20 * l) := fun l hl h6 => (rwv_fr hF272 (by decide)).trans (ro234 l hl h6)
          have hq276 := pk274
          unfold PK PS at hq276
          clear hq235
          have ms277 : mu w269 < mu w := Nat.lt_of_le_of_lt hx273.2.1 ms236
          refine xg_t (xg_aload (va := (2, 82)) rfl rfl) ?_
          refine xg_t (xg_const) ?_
          refine xg_t (xg_iload (va := (0, kr)) rfl rfl) ?_
          have hl278 : fld w269 82 14 = fld w 82 14 := pk274.2.2.1
          have hl279 : fld w269 82 14 ≤ 2000 := by omega
          obtain ⟨f82_280, f82_282, f82_284, f82_286, f82_288, f82_290, f82_292, f82_294, f82_296, f82_298, f82_300, f82_301, f82_302, f82_304, f82_306, f82_308, h82_310, hb281, hb283, hb285, hb287, hb289, hb291, hb293, hb295, hb297, hb299, hb303, hb305, hb307, hb309, hb311⟩ := (hI271 82 (by decide) (by decide) : cp82 (wget w269 82))
          refine xg_cVv mX12_rulePuts (vs := [(0, 0), (0, kr)]) (rest := []) (cn1 := 0) (sl1 := 0) rfl (mRulePuts (hI271) (by omega) (by omega) (by omega)) rfl h82_310 rfl rfl rfl rfl rfl rfl (fun w312 hq313 => ?_)
          obtain ⟨hI314, hF315, hx316⟩ := hq313
          have hx317 := hx316
          have pk318 : PK w w312 := PK.tr pk274 (PK.fr hF315 (by decide) (by decide) pk274.2.2.2)
          have ro319 : ∀ l, l < fld w 82 14 → l < 16 → rwv w312 112 (20 * l) = rwv w 112 (20 * l) := fun l hl h6 => ((hx317 _ (by omega)).2 (by omega)).trans (ro275 l hl h6)
          have hq320 := pk318
          unfold PK PS at hq320
          clear hq276
          have ms321 : mu w312 < mu w := Nat.lt_of_le_of_lt (PK.fr hF315 (by decide) (by decide) pk274.2.2.2).2.1 ms277
          have rz322 : fld w 82 14 < 16 → rwv w312 112 (20 * fld w 82 14) = kr := fun h6 => (hx317 _ (by omega)).1 ⟨by omega, by omega⟩
          refine xg_t (xg_aload (va := (2, 82)) rfl rfl) ?_
          refine xg_t (xg_bip) ?_
          refine xg_t (xg_iload (va := (0, f82_15)) rfl rfl) ?_
          have hl323 : fld w312 82 14 = fld w 82 14 := pk318.2.2.1
          have hl324 : fld w312 82 14 ≤ 2000 := by omega
          refine xg_cVv mX12_rulePuts (vs := [(0, 17), (0, f82_15)]) (rest := []) (cn1 := 0) (sl1 := 0) rfl (mRulePuts (hI314) (by omega) (by omega) (by omega)) rfl (hF315.get (by decide) h82_310) rfl rfl rfl rfl rfl rfl (fun w325 hq326 => ?_)
          obtain ⟨hI327, hF328, hx329⟩ := hq326
          have hx330 := hx329
          have pk331 : PK w w325 := PK.tr pk318 (PK.fr hF328 (by decide) (by decide) pk318.2.2.2)
          have ro332 : ∀ l, l < fld w 82 14 → l < 16 → rwv w325 112 (20 * l) = rwv w 112 (20 * l) := fun l hl h6 => ((hx330 _ (by omega)).2 (by omega)).trans (ro319 l hl h6)
          have hq333 := pk331
          unfold PK PS at hq333
          clear hq320
          have ms334 : mu w325 < mu w := Nat.lt_of_le_of_lt (PK.fr hF328 (by decide) (by decide) pk318.2.2.2).2.1 ms321
          have rz335 : fld w 82 14 < 16 → rwv w325 112 (20 * fld w 82 14) = kr := fun h6 => ((hx330 _ (by omega)).2 (by omega)).trans (rz322 h6)
          refine xg_t (xg_aload (va := (2, 82)) rfl rfl) ?_
          refine xg_t (xg_bip) ?_
          refine xg_t (xg_iload (va := (0, n229)) rfl rfl) ?_
          have hl336 : fld w325 82 14 = fld w 82 14 := pk331.2.2.1
          have hl337 : fld w325 82 14 ≤ 2000 := by omega
          refine xg_cVv mX12_rulePuts (vs := [(0, 18), (0, n229)]) (rest := []) (cn1 := 0) (sl1 := 0) rfl (mRulePuts (hI327) (by omega) (by omega) (by omega)) rfl (hF328.get (by decide) (hF315.get (by decide) h82_310)) rfl rfl rfl rfl rfl rfl (fun w338 hq339 => ?_)
          obtain ⟨hI340, hF341, hx342⟩ := hq339
          have hx343 := hx342
          have pk344 : PK w w338 := PK.tr pk331 (PK.fr hF341 (by decide) (by decide) pk331.2.2.2)
          have ro345 : ∀ l, l < fld w 82 14 → l < 16 → rwv w338 112 (20 * l) = rwv w 112 (20 * l) := fun l hl h6 => ((hx343 _ (by omega)).2 (by omega)).trans (ro332 l hl h6)
          have hq346 := pk344
          unfold PK PS at hq346
          clear hq333
          have ms347 : mu w338 < mu w := Nat.lt_of_le_of_lt (PK.fr hF341 (by decide) (by decide) pk331.2.2.2).2.1 ms334
          have rz348 : fld w 82 14 < 16 → rwv w338 112 (20 * fld w 82 14) = kr := fun h6 => ((hx343 _ (by omega)).2 (by omega)).trans (rz335 h6)
          have hf349 : fld w338 82 4 = f82_284 := fld_of (hF341.get (by decide) (hF328.get (by decide) (hF315.get (by decide) h82_310)))
          have hf350 : fld w338 82 5 = f82_286 := fld_of (hF341.get (by decide) (hF328.get (by decide) (hF315.get (by decide) h82_310)))
          have hf351 : fld w338 82 7 = f82_290 := fld_of (hF341.get (by decide) (hF328.get (by decide) (hF315.get (by decide) h82_310)))
          have hf352 : fld w338 82 10 = f82_296 := fld_of (hF341.get (by decide) (hF328.get (by decide) (hF315.get (by decide) h82_310)))
          have hf353 : fld w338 82 14 = f82_298 := fld_of (hF341.get (by decide) (hF328.get (by decide) (hF315.get (by decide) h82_310)))
          have hu354 : mu w338 = 2 * (fld w338 82 4 - fld w338 82 5) + min 1 (fld w338 82 7) := rfl
          have hl355 : f82_298 ≤ 1001 := by omega
          refine xg_t (xg_aload (va := (2, 82)) rfl rfl) ?_
          refine xg_t (xg_dup rfl) ?_
          refine xg_t (xg_getf (va := (0, f82_298)) (hF341.get (by decide) (hF328.get (by decide) (hF315.get (by decide) h82_310))) rfl) ?_
          refine xg_t (xg_const) ?_
          refine xg_t (xg_iadd (u := f82_298) (v := 1) (z := f82_298 + 1) xnm0 xnm0 (by omega)) ?_
          refine xg_putI (fl1 := [(2, 83), (2, 84), (0, f82_280), (0, f82_282), (0, f82_284), (0, f82_286), (0, f82_288), (0, f82_290), (0, f82_292), (0, f82_294), (0, f82_296), (2, 85), (2, 86), (2, 87), (0, f82_298 + 1), (2, 88), (2, 89), (2, 90), (2, 91), (2, 92), (2, 93), (2, 94), (4, f82_300), (4, f82_301), (0, f82_302), (2, 95), (2, 96), (2, 97), (2, 98), (2, 99), (2, 100), (2, 101), (2, 102), (0, f82_304), (2, 103), (2, 104), (2, 105), (2, 106), (2, 107), (2, 108), (2, 109), (0, f82_306), (0, f82_308), (2, 110), (2, 111), (2, 112), (2, 113)]) (hF341.get (by decide) (hF328.get (by decide) (hF315.get (by decide) h82_310))) rfl rfl rfl (fun w356 hk357 hb358 => ?_)
          have hF359 : xFr [82] w338 w356 := xFr.of hb358 (by decide)
          have hA360 := FA_fr hF359 (by decide)
          have hf361 : fld w356 82 4 = f82_284 := fld_of hk357
          have hf362 : fld w356 82 5 = f82_286 := fld_of hk357
          have hf363 : fld w356 82 7 = f82_290 := fld_of hk357
          have hf364 : fld w356 82 10 = f82_296 := fld_of hk357
          have hf365 : fld w356 82 14 = f82_298 + 1 := fld_of hk357
          have hu366 : mu w356 = 2 * (fld w356 82 4 - fld w356 82 5) + min 1 (fld w356 82 7) := rfl
          have hD367 : FA w356 ≠ 0 ∨ (RD w → RD w356) := by
            by_cases z : FA w356 ≠ 0
            · exact Or.inl z
            · refine Or.inr (fun hd => ⟨by omega, fun l hl => ?_⟩)
              rw [rwv_fr hF359 (by decide)]
              by_cases y : l = fld w 82 14
              · rw [y, rz348 (by omega)]; omega
              · rw [ro345 l (by omega) (by have := hd.1; omega)]; exact hd.2 l (by omega)
          exact xg_e ⟨w356, ⟨rfl, rfl⟩, xMnv.up (S := [82]) hI340 (xFr.of (S := [82]) hb358 (by decide)) (List.forall_mem_cons.mpr ⟨(show cp82 (wget w356 82) from ⟨f82_280, f82_282, f82_284, f82_286, f82_288, f82_290, f82_292, f82_294, f82_296, f82_298 + 1, f82_300, f82_301, f82_302, f82_304, f82_306, f82_308, hk357, hb281, hb283, hb285, hb287, hb289, hb291, hb293, hb295, hb297, by omega, hb303, hb305, hb307, hb309, by omega⟩), fun _ h => absurd h List.not_mem_nil⟩), (((((((hF49.up (by decide)).tr (hF228.up (by decide))).tr (hF272.up (by decide))).tr (hF315.up (by decide))).tr (hF328.up (by decide))).tr (hF341.up (by decide))).tr (xFr.of (S := [82, 83, 112, 113]) hb358 (by decide))), ⟨fun h => by have := pk344.1 h; omega, (show fld w356 82 10 = 0 ∨ FA w356 ≠ 0 by omega), Or.inr ⟨by have := ms347; omega, by omega⟩, hD367⟩⟩
      · refine xg_t (xg_ifF (u := (if 40 ≤ f82_15 ∧ f82_15 ≤ 42 then 1 else 0)) rfl xnm0 (xj_neF (xite0 hc44))) ?_
        refine xg_t (xg_blk (b := [(136, 1, 0, 0, 0, 0), (137, 3, 13, 140, 96, 183), (140, 1, 12, 0, 0, 0)]) rfl) ?_
        refine xg_t (xg_aload (va := (2, 82)) rfl rfl) ?_
        refine xg_cVv mX12_ends (vs := []) (rest := []) (cn1 := 0) (sl1 := 0) rfl (mEnds (hI) (PK.rf hps).2.2.2) rfl h82_31 rfl rfl rfl rfl rfl rfl (fun w368 hq369 => ?_)
        obtain ⟨hI370, hF371, hx372⟩ := hq369
        clear hb2 hb4 hb6 hb8 hb10 hb12 hb14 hb16 hb18 hb20 hb24 hb26 hb28 hb30
        obtain ⟨hv373, hv374, hv375, hv376⟩ := hx372
        have pk377 : PK w w368 := ⟨fun _ => hv373, by omega, by omega, Or.inr hv373⟩
        have pk378 : PK w w368 := PK.tr (PK.rf hps) pk377
        have ro379 : ∀ l, l < fld w 82 14 → l < 16 → rwv w368 112 (20 * l) = rwv w 112 (20 * l) := fun l hl h6 => (rwv_fr hF371 (by decide)).trans ((fun l _ _ => rfl) l hl h6)
        have hq380 := pk378
        unfold PK PS at hq380
        obtain ⟨f82_381, f82_383, f82_385, f82_387, f82_389, f82_391, f82_393, f82_395, f82_397, f82_399, f82_401, f82_402, f82_403, f82_405, f82_407, f82_409, h82_411, hb382, hb384, hb386, hb388, hb390, hb392, hb394, hb396, hb398, hb400, hb404, hb406, hb408, hb410, hb412⟩ := (hI370 82 (by decide) (by decide) : cp82 (wget w368 82))
        exact xg_e ⟨w368, ⟨rfl, rfl⟩, hI370, (hF371.up (by decide)), ⟨pk378.1, pk378.2.2.2, Or.inl ⟨by omega, pk378.2.1, pk378.2.2.1⟩, Or.inl (by omega)⟩⟩
    · refine xg_t (xg_icT (u := f82_11) (v := 3) rfl xnm0 xnm0 (xj_neT hc43)) ?_
      refine xg_t (xg_blk (b := [(136, 1, 0, 0, 0, 0), (137, 3, 13, 140, 96, 183), (140, 1, 12, 0, 0, 0)]) rfl) ?_
      refine xg_t (xg_aload (va := (2, 82)) rfl rfl) ?_
      refine xg_cVv mX12_ends (vs := []) (rest := []) (cn1 := 0) (sl1 := 0) rfl (mEnds (hI) (PK.rf hps).2.2.2) rfl h82_31 rfl rfl rfl rfl rfl rfl (fun w413 hq414 => ?_)
      obtain ⟨hI415, hF416, hx417⟩ := hq414
      clear hb2 hb4 hb6 hb8 hb10 hb12 hb14 hb16 hb18 hb20 hb24 hb26 hb28 hb30
      obtain ⟨hv418, hv419, hv420, hv421⟩ := hx417
      have pk422 : PK w w413 := ⟨fun _ => hv418, by omega, by omega, Or.inr hv418⟩
      have pk423 : PK w w413 := PK.tr (PK.rf hps) pk422
      have ro424 : ∀ l, l < fld w 82 14 → l < 16 → rwv w413 112 (20 * l) = rwv w 112 (20 * l) := fun l hl h6 => (rwv_fr hF416 (by decide)).trans ((fun l _ _ => rfl) l hl h6)
      have hq425 := pk423
      unfold PK PS at hq425
      obtain ⟨f82_426, f82_428, f82_430, f82_432, f82_434, f82_436, f82_438, f82_440, f82_442, f82_444, f82_446, f82_447, f82_448, f82_450, f82_452, f82_454, h82_456, hb427, hb429, hb431, hb433, hb435, hb437, hb439, hb441, hb443, hb445, hb449, hb451, hb453, hb455, hb457⟩ := (hI415 82 (by decide) (by decide) : cp82 (wget w413 82))
      exact xg_e ⟨w413, ⟨rfl, rfl⟩, hI415, (hF416.up (by decide)), ⟨pk423.1, pk423.2.2.2, Or.inl ⟨by omega, pk423.2.1, pk423.2.2.1⟩, Or.inl (by omega)⟩⟩
  · refine xg_t (xg_ifT (u := f82_17) rfl xnm0 (xj_neT hc42)) ?_
    refine xg_t (xg_blk (b := [(136, 1, 0, 0, 0, 0), (137, 3, 13, 140, 96, 183), (140, 1, 12, 0, 0, 0)]) rfl) ?_
    refine xg_t (xg_aload (va := (2, 82)) rfl rfl) ?_
    refine xg_cVv mX12_ends (vs := []) (rest := []) (cn1 := 0) (sl1 := 0) rfl (mEnds (hI) (PK.rf hps).2.2.2) rfl h82_31 rfl rfl rfl rfl rfl rfl (fun w458 hq459 => ?_)
    obtain ⟨hI460, hF461, hx462⟩ := hq459
    clear hb2 hb4 hb6 hb8 hb10 hb12 hb14 hb16 hb18 hb20 hb24 hb26 hb28 hb30
    obtain ⟨hv463, hv464, hv465, hv466⟩ := hx462
    have pk467 : PK w w458 := ⟨fun _ => hv463, by omega, by omega, Or.inr hv463⟩
    have pk468 : PK w w458 := PK.tr (PK.rf hps) pk467
    have ro469 : ∀ l, l < fld w 82 14 → l < 16 → rwv w458 112 (20 * l) = rwv w 112 (20 * l) := fun l hl h6 => (rwv_fr hF461 (by decide)).trans ((fun l _ _ => rfl) l hl h6)
    have hq470 := pk468
    unfold PK PS at hq470
    obtain ⟨f82_471, f82_473, f82_475, f82_477, f82_479, f82_481, f82_483, f82_485, f82_487, f82_489, f82_491, f82_492, f82_493, f82_495, f82_497, f82_499, h82_501, hb472, hb474, hb476, hb478, hb480, hb482, hb484, hb486, hb488, hb490, hb494, hb496, hb498, hb500, hb502⟩ := (hI460 82 (by decide) (by decide) : cp82 (wget w458 82))
    exact xg_e ⟨w458, ⟨rfl, rfl⟩, hI460, (hF461.up (by decide)), ⟨pk468.1, pk468.2.2.2, Or.inl ⟨by omega, pk468.2.1, pk468.2.2.1⟩, Or.inl (by omega)⟩⟩
set_option maxHeartbeats 60000000 in
theorem mARule (hI : xMnv w) (hps : PS w) (hln : fld w 82 14 ≤ 1000) (hmu : mu w ≤ 1001) : xPq (d + 7) mX12_aRule [(2, 82)] w bd fc rr [] (fun w' => xMnv w' ∧ xFr [82, 83, 112, 113] w w' ∧ ((FA w ≠ 0 → FA w' ≠ 0) ∧ PS w' ∧ ((fld w' 82 10 = 1 ∧ mu w' ≤ mu w ∧ fld w' 82 14 = fld w 82 14) ∨ (mu w' < mu w ∧ fld w' 82 14 = fld w 82 14 + 1)) ∧ (FA w' ≠ 0 ∨ (RD w → RD w')))) := by
  refine xPq.of ?_
  show xTo (d + 7) mX12_aRule (0, [], [(0, (2, 82))], [], (w, bd, fc, 0, 0, rr)) (fun φ => ∃ w', xEnd 0 [] (w', bd, fc, 0, 0, rr) φ ∧ xMnv w' ∧ xFr [82, 83, 112, 113] w w' ∧ ((FA w ≠ 0 → FA w' ≠ 0) ∧ PS w' ∧ ((fld w' 82 10 = 1 ∧ mu w' ≤ mu w ∧ fld w' 82 14 = fld w 82 14) ∨ (mu w' < mu w ∧ fld w' 82 14 = fld w 82 14 + 1)) ∧ (FA w' ≠ 0 ∨ (RD w → RD w'))))
  obtain ⟨f82_1, f82_3, f82_5, f82_7, f82_9, f82_11, f82_13, f82_15, f82_17, f82_19, f82_21, f82_22, f82_23, f82_25, f82_27, f82_29, h82_31, hb2, hb4, hb6, hb8, hb10, hb12, hb14, hb16, hb18, hb20, hb24, hb26, hb28, hb30, hb32⟩ := (hI 82 (by decide) (by decide) : cp82 (wget w 82))
  have hf33 : fld w 82 4 = f82_5 := fld_of h82_31
  have hf34 : fld w 82 5 = f82_7 := fld_of h82_31
  have hf35 : fld w 82 7 = f82_11 := fld_of h82_31
  have hf36 : fld w 82 10 = f82_17 := fld_of h82_31
  have hf37 : fld w 82 14 = f82_19 := fld_of h82_31
  have hps_ : fld w 82 10 = 0 ∨ FA w ≠ 0 := hps
  obtain ⟨g113_38, h113_39, hb40⟩ := (hI 113 (by decide) (by decide) : cpI 4 80 4294967295 (wget w 113))
  have h113_39 : xRow w 113 4 80 g113_38 := h113_39
  have hl41 : f82_19 ≤ 1000 := by omega
  refine xg_t (xg_blk (b := [(0, 1, 0, 0, 0, 0), (1, 3, 1, 12, 14, 212), (4, 2, 4, 16, 0, 0), (6, 3, 6, 18, 2, 0), (9, 1, 0, 0, 0, 0), (10, 1, 3, 3, 0, 0), (11, 1, 0, 0, 0, 0), (12, 3, 1, 12, 6, 148), (15, 3, 13, 115, 96, 186)]) rfl) ?_
  refine xg_t (xg_aload (va := (2, 82)) rfl rfl) ?_
  refine xg_t (xg_getf (va := (0, f82_19)) h82_31 rfl) ?_
  refine xg_t (xg_bip) ?_
  by_cases hc42 : f82_19 < 16
  · refine xg_t (xg_icT (u := f82_19) (v := 16) rfl xnm0 xnm0 (xj_ltT hc42 (by omega))) ?_
    refine xg_t (xg_blk (b := [(18, 1, 3, 0, 0, 0), (19, 1, 15, 1, 0, 0), (20, 1, 0, 0, 0, 0), (21, 2, 4, 50, 0, 0), (23, 3, 13, 227, 96, 415), (26, 3, 7, 107, 0, 0), (29, 1, 3, 1, 0, 0), (30, 1, 15, 2, 0, 0)]) rfl) ?_
    refine xg_t (xg_const) ?_
    refine xg_t (xg_istore (l1 := [(0, (2, 82))]) rfl rfl rfl) ?_
    refine xg_t (xg_aload (va := (2, 82)) rfl rfl) ?_
    refine xg_t (xg_bip) ?_
    refine xg_cVi mX12_takes (vs := [(0, 50)]) (rest := []) (cn1 := 0) (sl1 := 0) rfl (mTakes (hI) (by omega) (PK.rf hps).2.2.2) rfl h82_31 rfl rfl rfl rfl rfl rfl (fun n47 w43 hq44 => ?_)
    obtain ⟨hn48, hI45, hF46⟩ := hq44
    clear hb2 hb4 hb6 hb8 hb10 hb12 hb14 hb16 hb18 hb20 hb24 hb26 hb28 hb30
    obtain ⟨hn49, hn50, hn51⟩ := hn48
    have pk52 : PK w w43 := PK.tr (PK.rf hps) hn50
    have ro53 : ∀ l, l < fld w 82 14 → l < 16 → rwv w43 112 (20 * l) = rwv w 112 (20 * l) := fun l hl h6 => (rwv_fr hF46 (by decide)).trans ((fun l _ _ => rfl) l hl h6)
    have hq54 := pk52
    unfold PK PS at hq54
    by_cases hc55 : n47 = 0
    · refine xg_t (xg_ifT (u := n47) rfl xnm0 (xj_eqT hc55)) ?_
      refine xg_t (xg_drop (l1 := [(0, (2, 82)), (1, (0, 0))]) (List.forall_mem_cons.mpr ⟨List.mem_cons_of_mem _ (List.mem_cons_self), List.forall_mem_cons.mpr ⟨List.mem_cons_self, fun _ h => absurd h List.not_mem_nil⟩⟩)) ?_
      refine (mARuleT (hI45) pk52.2.2.2 (by omega) (by omega) (by omega) (fun _ => by omega)).imp (fun φ h => ?_)
      obtain ⟨w', e1, e2, e3, e4, e5, e6, e7⟩ := h
      refine ⟨w', e1, e2, ((hF46.up (by decide))).tr (e3.up (by decide)), fun z => e4 (pk52.1 z), e5, ?_, ?_⟩
      · have q1 := pk52.2.1
        have q2 := pk52.2.2.1
        rcases e6 with ⟨c1, c2, c3⟩ | ⟨c1, c2⟩
        · exact Or.inl ⟨c1, by omega, by omega⟩
        · exact Or.inr ⟨by omega, by omega⟩
      · rcases e7 with r | r
        · exact Or.inl r
        · refine Or.inr (fun hd => r ⟨by rw [pk52.2.2.1]; exact hd.1, fun l hl => ?_⟩)
          have q2 := pk52.2.2.1
          rw [ro53 l (by omega) (by have := hd.1; omega)]
          exact hd.2 l (by omega)
    · have ms56 : mu w43 < mu w := Nat.lt_of_lt_of_le (hn51 (by omega)) (PK.rf hps).2.1
      refine xg_t (xg_ifF (u := n47) rfl xnm0 (xj_eqF hc55)) ?_
      refine xg_t (xg_const) ?_
      refine xg_t (xg_istore (l1 := [(1, (0, 0)), (0, (2, 82))]) rfl rfl rfl) ?_
      refine xg_t (xg_drop (l1 := [(0, (2, 82)), (1, (0, 0)), (2, (0, 1))]) (List.forall_mem_cons.mpr ⟨List.mem_cons_of_mem _ (List.mem_cons_of_mem _ (List.mem_cons_self)), List.forall_mem_cons.mpr ⟨List.mem_cons_of_mem _ (List.mem_cons_self), List.forall_mem_cons.mpr ⟨List.mem_cons_self, fun _ h => absurd h List.not_mem_nil⟩⟩⟩)) ?_
      have key57 : ∀ (m59 : Nat) (kr mo : Nat) (w60 : List (List xE)), 2 * mu w60 + mo < m59 → kr ≤ 1002 → mo ≤ 1 → xMnv w60 → xFr [82, 83, 112, 113] w w60 → (PK w w60 ∧ (∀ l, l < fld w 82 14 → l < 16 → rwv w60 112 (20 * l) = rwv w 112 (20 * l)) ∧ mu w60 < mu w ∧ (FA w60 ≠ 0 ∨ kr ≤ 4) ∧ kr + mu w60 ≤ 1002 ∧ (mo = 1 → kr + mu w60 ≤ 1001) ∧ (16 ≤ fld w 82 14 → FA w60 ≠ 0)) → xTo (d + 7) mX12_aRule (31, [], [(0, (2, 82)), (1, (0, kr)), (2, (0, mo))], [], (w60, bd, fc, 0, 0, rr)) (fun φ => ∃ w', xEnd 0 [] (w', bd, fc, 0, 0, rr) φ ∧ xMnv w' ∧ xFr [82, 83, 112, 113] w w' ∧ ((FA w ≠ 0 → FA w' ≠ 0) ∧ PS w' ∧ ((fld w' 82 10 = 1 ∧ mu w' ≤ mu w ∧ fld w' 82 14 = fld w 82 14) ∨ (mu w' < mu w ∧ fld w' 82 14 = fld w 82 14 + 1)) ∧ (FA w' ≠ 0 ∨ (RD w → RD w')))) := by
        intro m59
        induction m59 with
        | zero => intro kr mo w60 hz; exact absurd hz (Nat.not_lt_zero _)
        | succ m59 ih58 =>
          intro kr mo w60 hm66 hn63 hn64 hI61 hF62 he65
          obtain ⟨hz67, hz68, hz69, hz70, hz71, hz72, hz73⟩ := he65
          have hq74 := hz67
          unfold PK PS at hq74
          obtain ⟨f82_75, f82_77, f82_79, f82_81, f82_83, f82_85, f82_87, f82_89, f82_91, f82_93, f82_95, f82_96, f82_97, f82_99, f82_101, f82_103, h82_105, hb76, hb78, hb80, hb82, hb84, hb86, hb88, hb90, hb92, hb94, hb98, hb100, hb102, hb104, hb106⟩ := (hI61 82 (by decide) (by decide) : cp82 (wget w60 82))
          refine xg_t (xg_blk (b := [(31, 1, 2, 2, 0, 0), (32, 3, 7, 101, 0, 0), (35, 1, 2, 1, 0, 0), (36, 1, 3, 3, 0, 0), (37, 3, 6, 49, 5, 0), (40, 1, 0, 0, 0, 0), (41, 1, 3, 3, 0, 0), (42, 1, 0, 0, 0, 0), (43, 3, 1, 12, 6, 148), (46, 3, 13, 115, 96, 186)]) rfl) ?_
          refine xg_t (xg_iload (va := (0, mo)) rfl rfl) ?_
          by_cases hc107 : mo = 0
          · refine xg_t (xg_ifT (u := mo) rfl xnm0 (xj_eqT hc107)) ?_
            refine xg_t (xg_blk (b := [(101, 1, 0, 0, 0, 0), (102, 2, 4, 58, 0, 0), (104, 3, 13, 195, 96, 427)]) rfl) ?_
            refine xg_t (xg_aload (va := (2, 82)) rfl rfl) ?_
            refine xg_t (xg_bip) ?_
            refine xg_cVv mX12_must (vs := [(0, 58)]) (rest := []) (cn1 := 0) (sl1 := 0) rfl (mMust (hI61) (by omega) hz67.2.2.2) rfl h82_105 rfl rfl rfl rfl rfl rfl (fun w108 hq109 => ?_)
            obtain ⟨hI110, hF111, hx112⟩ := hq109
            clear hb76 hb78 hb80 hb82 hb84 hb86 hb88 hb90 hb92 hb94 hb98 hb100 hb102 hb104
            have pk113 : PK w w108 := PK.tr hz67 hx112
            have ro114 : ∀ l, l < fld w 82 14 → l < 16 → rwv w108 112 (20 * l) = rwv w 112 (20 * l) := fun l hl h6 => (rwv_fr hF111 (by decide)).trans (hz68 l hl h6)
            have hq115 := pk113
            unfold PK PS at hq115
            clear hq74
            have pj116 : PK w60 w108 := PK.tr (PK.rf hz67.2.2.2) hx112
            have hq117 := pj116
            unfold PK PS at hq117
            have ms118 : mu w108 < mu w := Nat.lt_of_le_of_lt hx112.2.1 hz69
            refine xg_t (xg_drop (l1 := [(0, (2, 82)), (1, (0, kr))]) (List.forall_mem_cons.mpr ⟨List.mem_cons_self, List.forall_mem_cons.mpr ⟨List.mem_cons_of_mem _ (List.mem_cons_self), fun _ h => absurd h List.not_mem_nil⟩⟩)) ?_
            refine (mARuleT (hI110) pk113.2.2.2 (by omega) (by omega) (by omega) (fun _ => by omega)).imp (fun φ h => ?_)
            obtain ⟨w', e1, e2, e3, e4, e5, e6, e7⟩ := h
            refine ⟨w', e1, e2, ((hF62.tr (hF111.up (by decide)))).tr (e3.up (by decide)), fun z => e4 (pk113.1 z), e5, ?_, ?_⟩
            · have q1 := pk113.2.1
              have q2 := pk113.2.2.1
              rcases e6 with ⟨c1, c2, c3⟩ | ⟨c1, c2⟩
              · exact Or.inl ⟨c1, by omega, by omega⟩
              · exact Or.inr ⟨by omega, by omega⟩
            · rcases e7 with r | r
              · exact Or.inl r
              · refine Or.inr (fun hd => r ⟨by rw [pk113.2.2.1]; exact hd.1, fun l hl => ?_⟩)
                have q2 := pk113.2.2.1
                rw [ro114 l (by omega) (by have := hd.1; omega)]
                exact hd.2 l (by omega)
          · refine xg_t (xg_ifF (u := mo) rfl xnm0 (xj_eqF hc107)) ?_
            refine xg_t (xg_iload (va := (0, kr)) rfl rfl) ?_
            refine xg_t (xg_const) ?_
            by_cases hc119 : 3 < kr
            · refine xg_t (xg_icF (u := kr) (v := 3) rfl xnm0 xnm0 (xj_leF hc119 (by omega))) ?_
              refine xg_t (xg_aload (va := (2, 82)) rfl rfl) ?_
              refine xg_t (xg_const) ?_
              refine xg_t (xg_aload (va := (2, 82)) rfl rfl) ?_
              refine xg_t (xg_getf (va := (0, f82_83)) h82_105 rfl) ?_
              refine xg_cVv mX12_also (vs := [(0, 3), (0, f82_83)]) (rest := []) (cn1 := 0) (sl1 := 0) rfl (mAlso (hI61) (by omega) (by omega) (by omega) hz67.2.2.2) rfl h82_105 rfl rfl rfl rfl rfl rfl (fun w120 hq121 => ?_)
              obtain ⟨hI122, hF123, hx124⟩ := hq121
              have pk125 : PK w60 w120 := ⟨fun _ => hx124, Nat.le_of_eq (mu_fr hF123 (by decide)), fld_fr hF123 (by decide), Or.inr hx124⟩
              have pk126 : PK w w120 := PK.tr hz67 pk125
              have ro127 : ∀ l, l < fld w 82 14 → l < 16 → rwv w120 112 (20 * l) = rwv w 112 (20 * l) := fun l hl h6 => (rwv_fr hF123 (by decide)).trans (hz68 l hl h6)
              have hq128 := pk126
              unfold PK PS at hq128
              clear hq74
              have pj129 : PK w60 w120 := PK.tr (PK.rf hz67.2.2.2) pk125
              have hq130 := pj129
              unfold PK PS at hq130
              have ms131 : mu w120 < mu w := Nat.lt_of_le_of_lt pk125.2.1 hz69
              have fa132 : FA w120 ≠ 0 := hx124
              refine xg_t (xg_blk (b := [(49, 1, 0, 0, 0, 0), (50, 3, 13, 109, 96, 421), (53, 1, 3, 0, 0, 0), (54, 1, 15, 3, 0, 0)]) rfl) ?_
              refine xg_t (xg_aload (va := (2, 82)) rfl rfl) ?_
              refine xg_cVv mX12_aTest (vs := []) (rest := []) (cn1 := 0) (sl1 := 0) rfl (mATest (hI122) pk126.2.2.2) rfl (hF123.get (by decide) h82_105) rfl rfl rfl rfl rfl rfl (fun w133 hq134 => ?_)
              obtain ⟨hI135, hF136, hx137⟩ := hq134
              clear hb76 hb78 hb80 hb82 hb84 hb86 hb88 hb90 hb92 hb94 hb98 hb100 hb102 hb104
              have pk138 : PK w w133 := PK.tr pk126 hx137
              have ro139 : ∀ l, l < fld w 82 14 → l < 16 → rwv w133 112 (20 * l) = rwv w 112 (20 * l) := fun l hl h6 => (rwv_fr hF136 (by decide)).trans (ro127 l hl h6)
              have hq140 := pk138
              unfold PK PS at hq140
              clear hq128
              have pj141 : PK w60 w133 := PK.tr pj129 hx137
              have hq142 := pj141
              unfold PK PS at hq142
              clear hq130
              have fa143 : FA w133 ≠ 0 := hx137.1 fa132
              have ms144 : mu w133 < mu w := Nat.lt_of_le_of_lt hx137.2.1 ms131
              refine xg_t (xg_const) ?_
              refine xg_t (xg_istore (l1 := [(0, (2, 82)), (1, (0, kr)), (2, (0, mo))]) rfl rfl rfl) ?_
              refine xg_t (xg_blk (b := [(55, 1, 2, 3, 0, 0), (56, 1, 3, 4, 0, 0), (57, 3, 6, 88, 3, 0), (60, 1, 2, 1, 0, 0), (61, 1, 3, 4, 0, 0), (62, 3, 6, 88, 3, 0), (65, 1, 0, 0, 0, 0), (66, 1, 3, 1, 0, 0), (67, 1, 3, 4, 0, 0), (68, 1, 2, 1, 0, 0), (69, 1, 16, 0, 0, 0), (70, 1, 11, 0, 0, 0), (71, 1, 2, 3, 0, 0), (72, 1, 11, 0, 0, 0), (73, 1, 0, 0, 0, 0), (74, 3, 1, 12, 46, 102), (77, 1, 2, 3, 0, 0), (78, 1, 10, 0, 0, 0), (79, 3, 13, 214, 96, 424), (82, 3, 9, 3, 1, 0), (85, 3, 8, 55, 0, 0)]) rfl) ?_
              refine xg_t (xg_iload (va := (0, 0)) rfl rfl) ?_
              refine xg_t (xg_const) ?_
              refine xg_t (xg_icF (u := 0) (v := 4) rfl xnm0 xnm0 (by decide)) ?_
              refine xg_t (xg_iload (va := (0, kr)) rfl rfl) ?_
              refine xg_t (xg_const) ?_
              refine xg_t (xg_icT (u := kr) (v := 4) rfl xnm0 xnm0 (xj_geT (by omega) (by omega))) ?_
              refine xg_t (xg_blk (b := [(88, 3, 9, 1, 1, 0), (91, 1, 0, 0, 0, 0), (92, 2, 4, 51, 0, 0), (94, 3, 13, 227, 96, 415), (97, 1, 15, 2, 0, 0), (98, 3, 8, 31, 0, 0)]) rfl) ?_
              refine xg_t (xg_iinc (u := kr) (z := kr + 1) (l1 := [(3, (0, 0)), (0, (2, 82)), (2, (0, mo))]) rfl rfl (by omega) rfl) ?_
              refine xg_t (xg_aload (va := (2, 82)) rfl rfl) ?_
              refine xg_t (xg_bip) ?_
              obtain ⟨f82_145, f82_147, f82_149, f82_151, f82_153, f82_155, f82_157, f82_159, f82_161, f82_163, f82_165, f82_166, f82_167, f82_169, f82_171, f82_173, h82_175, hb146, hb148, hb150, hb152, hb154, hb156, hb158, hb160, hb162, hb164, hb168, hb170, hb172, hb174, hb176⟩ := (hI135 82 (by decide) (by decide) : cp82 (wget w133 82))
              refine xg_cVi mX12_takes (vs := [(0, 51)]) (rest := []) (cn1 := 0) (sl1 := 0) rfl (mTakes (hI135) (by omega) pk138.2.2.2) rfl h82_175 rfl rfl rfl rfl rfl rfl (fun n181 w177 hq178 => ?_)
              obtain ⟨hn182, hI179, hF180⟩ := hq178
              clear hb146 hb148 hb150 hb152 hb154 hb156 hb158 hb160 hb162 hb164 hb168 hb170 hb172 hb174
              obtain ⟨hn183, hn184, hn185⟩ := hn182
              have pk186 : PK w w177 := PK.tr pk138 hn184
              have ro187 : ∀ l, l < fld w 82 14 → l < 16 → rwv w177 112 (20 * l) = rwv w 112 (20 * l) := fun l hl h6 => (rwv_fr hF180 (by decide)).trans (ro139 l hl h6)
              have hq188 := pk186
              unfold PK PS at hq188
              clear hq140
              have pj189 : PK w60 w177 := PK.tr pj141 hn184
              have hq190 := pj189
              unfold PK PS at hq190
              clear hq142
              have fa191 : FA w177 ≠ 0 := hn184.1 fa143
              have ms192 : mu w177 < mu w := Nat.lt_of_le_of_lt hn184.2.1 ms144
              have hu193 : n181 = 1 → mu w177 < mu w60 := fun h => Nat.lt_of_lt_of_le (hn185 h) pj141.2.1
              refine xg_t (xg_istore (l1 := [(1, (0, kr + 1)), (3, (0, 0)), (0, (2, 82))]) rfl rfl rfl) ?_
              refine xg_t (xg_goto) ?_
              refine xg_t (xg_drop (l1 := [(0, (2, 82)), (1, (0, kr + 1)), (2, (0, n181))]) (List.forall_mem_cons.mpr ⟨List.mem_cons_of_mem _ (List.mem_cons_of_mem _ (List.mem_cons_of_mem _ (List.mem_cons_self))), List.forall_mem_cons.mpr ⟨List.mem_cons_of_mem _ (List.mem_cons_self), List.forall_mem_cons.mpr ⟨List.mem_cons_self, fun _ h => absurd h List.not_mem_nil⟩⟩⟩)) ?_
              exact ih58 (kr + 1) n181 w177 (by omega) (by omega) (by omega) (hI179) ((((hF62.tr (hF123.up (by decide))).tr (hF136.up (by decide))).tr (hF180.up (by decide)))) (⟨pk186, ro187, ms192, by omega, by omega, fun _ => by omega, fun h => by omega⟩)
            · refine xg_t (xg_icT (u := kr) (v := 3) rfl xnm0 xnm0 (xj_leT (by omega) (by omega))) ?_
              refine xg_t (xg_blk (b := [(49, 1, 0, 0, 0, 0), (50, 3, 13, 109, 96, 421), (53, 1, 3, 0, 0, 0), (54, 1, 15, 3, 0, 0)]) rfl) ?_
              refine xg_t (xg_aload (va := (2, 82)) rfl rfl) ?_
              refine xg_cVv mX12_aTest (vs := []) (rest := []) (cn1 := 0) (sl1 := 0) rfl (mATest (hI61) hz67.2.2.2) rfl h82_105 rfl rfl rfl rfl rfl rfl (fun w194 hq195 => ?_)
              obtain ⟨hI196, hF197, hx198⟩ := hq195
              clear hb76 hb78 hb80 hb82 hb84 hb86 hb88 hb90 hb92 hb94 hb98 hb100 hb102 hb104
              have pk199 : PK w w194 := PK.tr hz67 hx198
              have ro200 : ∀ l, l < fld w 82 14 → l < 16 → rwv w194 112 (20 * l) = rwv w 112 (20 * l) := fun l hl h6 => (rwv_fr hF197 (by decide)).trans (hz68 l hl h6)
              have hq201 := pk199
              unfold PK PS at hq201
              clear hq74
              have pj202 : PK w60 w194 := PK.tr (PK.rf hz67.2.2.2) hx198
              have hq203 := pj202
              unfold PK PS at hq203
              have ms204 : mu w194 < mu w := Nat.lt_of_le_of_lt hx198.2.1 hz69
              refine xg_t (xg_const) ?_
              refine xg_t (xg_istore (l1 := [(0, (2, 82)), (1, (0, kr)), (2, (0, mo))]) rfl rfl rfl) ?_
              refine xg_t (xg_blk (b := [(55, 1, 2, 3, 0, 0), (56, 1, 3, 4, 0, 0), (57, 3, 6, 88, 3, 0), (60, 1, 2, 1, 0, 0), (61, 1, 3, 4, 0, 0), (62, 3, 6, 88, 3, 0), (65, 1, 0, 0, 0, 0), (66, 1, 3, 1, 0, 0), (67, 1, 3, 4, 0, 0), (68, 1, 2, 1, 0, 0), (69, 1, 16, 0, 0, 0), (70, 1, 11, 0, 0, 0), (71, 1, 2, 3, 0, 0), (72, 1, 11, 0, 0, 0), (73, 1, 0, 0, 0, 0), (74, 3, 1, 12, 46, 102), (77, 1, 2, 3, 0, 0), (78, 1, 10, 0, 0, 0), (79, 3, 13, 214, 96, 424), (82, 3, 9, 3, 1, 0), (85, 3, 8, 55, 0, 0)]) rfl) ?_
              refine xg_t (xg_iload (va := (0, 0)) rfl rfl) ?_
              refine xg_t (xg_const) ?_
              refine xg_t (xg_icF (u := 0) (v := 4) rfl xnm0 xnm0 (by decide)) ?_
              refine xg_t (xg_iload (va := (0, kr)) rfl rfl) ?_
              refine xg_t (xg_const) ?_
              refine xg_t (xg_icF (u := kr) (v := 4) rfl xnm0 xnm0 (xj_geF (by omega) (by omega))) ?_
              refine xg_t (xg_aload (va := (2, 82)) rfl rfl) ?_
              refine xg_t (xg_const) ?_
              refine xg_t (xg_const) ?_
              refine xg_t (xg_iload (va := (0, kr)) rfl rfl) ?_
              refine xg_t (xg_imul (u := 4) (v := kr) (z := 4 * kr) xnm0 xnm0 (by omega)) ?_
              refine xg_t (xg_iadd (u := 1) (v := 4 * kr) (z := 1 + (4 * kr)) xnm0 xnm0 (by omega)) ?_
              refine xg_t (xg_iload (va := (0, 0)) rfl rfl) ?_
              refine xg_t (xg_iadd (u := 1 + (4 * kr)) (v := 0) (z := (1 + (4 * kr)) + 0) xnm0 xnm0 (by omega)) ?_
              refine xg_t (xg_aload (va := (2, 82)) rfl rfl) ?_
              obtain ⟨f82_205, f82_207, f82_209, f82_211, f82_213, f82_215, f82_217, f82_219, f82_221, f82_223, f82_225, f82_226, f82_227, f82_229, f82_231, f82_233, h82_235, hb206, hb208, hb210, hb212, hb214, hb216, hb218, hb220, hb222, hb224, hb228, hb230, hb232, hb234, hb236⟩ := (hI196 82 (by decide) (by decide) : cp82 (wget w194 82))
              refine xg_t (xg_getf (va := (2, 113)) h82_235 rfl) ?_
              refine xg_t (xg_iload (va := (0, 0)) rfl rfl) ?_
              obtain ⟨g113_237, h113_238, hb239⟩ := (hI196 113 (by decide) (by decide) : cpI 4 80 4294967295 (wget w194 113))
              have h113_238 : xRow w194 113 4 80 g113_237 := h113_238
              refine xg_ialdB (n := 0) (B := 4294967295) h113_238 (hb239) xnm0 (by omega) (fun u240 hu241 he242 => ?_)
              have hl243 : fld w194 82 14 = fld w 82 14 := pk199.2.2.1
              have hl244 : fld w194 82 14 ≤ 2000 := by omega
              refine xg_cVv mX12_rulePuts (vs := [(0, (1 + (4 * kr)) + 0), (0, u240)]) (rest := []) (cn1 := 0) (sl1 := 0) rfl (mRulePuts (hI196) (by omega) (by omega) (by omega)) rfl h82_235 rfl rfl rfl rfl rfl rfl (fun w245 hq246 => ?_)
              obtain ⟨hI247, hF248, hx249⟩ := hq246
              have hx250 := hx249
              have pk251 : PK w w245 := PK.tr pk199 (PK.fr hF248 (by decide) (by decide) pk199.2.2.2)
              have ro252 : ∀ l, l < fld w 82 14 → l < 16 → rwv w245 112 (20 * l) = rwv w 112 (20 * l) := fun l hl h6 => ((hx250 _ (by omega)).2 (by omega)).trans (ro200 l hl h6)
              have hq253 := pk251
              unfold PK PS at hq253
              clear hq201
              have pj254 : PK w60 w245 := PK.tr pj202 (PK.fr hF248 (by decide) (by decide) pk199.2.2.2)
              have hq255 := pj254
              unfold PK PS at hq255
              clear hq203
              have ms256 : mu w245 < mu w := Nat.lt_of_le_of_lt (PK.fr hF248 (by decide) (by decide) pk199.2.2.2).2.1 ms204
              refine xg_t (xg_iinc (u := 0) (z := 1) (l1 := [(0, (2, 82)), (1, (0, kr)), (2, (0, mo))]) rfl rfl (by decide) rfl) ?_
              refine xg_t (xg_goto) ?_
              refine xg_t (xg_blk (b := [(55, 1, 2, 3, 0, 0), (56, 1, 3, 4, 0, 0), (57, 3, 6, 88, 3, 0), (60, 1, 2, 1, 0, 0), (61, 1, 3, 4, 0, 0), (62, 3, 6, 88, 3, 0), (65, 1, 0, 0, 0, 0), (66, 1, 3, 1, 0, 0), (67, 1, 3, 4, 0, 0), (68, 1, 2, 1, 0, 0), (69, 1, 16, 0, 0, 0), (70, 1, 11, 0, 0, 0), (71, 1, 2, 3, 0, 0), (72, 1, 11, 0, 0, 0), (73, 1, 0, 0, 0, 0), (74, 3, 1, 12, 46, 102), (77, 1, 2, 3, 0, 0), (78, 1, 10, 0, 0, 0), (79, 3, 13, 214, 96, 424), (82, 3, 9, 3, 1, 0), (85, 3, 8, 55, 0, 0)]) rfl) ?_
              refine xg_t (xg_iload (va := (0, 1)) rfl rfl) ?_
              refine xg_t (xg_const) ?_
              refine xg_t (xg_icF (u := 1) (v := 4) rfl xnm0 xnm0 (by decide)) ?_
              refine xg_t (xg_iload (va := (0, kr)) rfl rfl) ?_
              refine xg_t (xg_const) ?_
              refine xg_t (xg_icF (u := kr) (v := 4) rfl xnm0 xnm0 (xj_geF (by omega) (by omega))) ?_
              refine xg_t (xg_aload (va := (2, 82)) rfl rfl) ?_
              refine xg_t (xg_const) ?_
              refine xg_t (xg_const) ?_
              refine xg_t (xg_iload (va := (0, kr)) rfl rfl) ?_
              refine xg_t (xg_imul (u := 4) (v := kr) (z := 4 * kr) xnm0 xnm0 (by omega)) ?_
              refine xg_t (xg_iadd (u := 1) (v := 4 * kr) (z := 1 + (4 * kr)) xnm0 xnm0 (by omega)) ?_
              refine xg_t (xg_iload (va := (0, 1)) rfl rfl) ?_
              refine xg_t (xg_iadd (u := 1 + (4 * kr)) (v := 1) (z := (1 + (4 * kr)) + 1) xnm0 xnm0 (by omega)) ?_
              refine xg_t (xg_aload (va := (2, 82)) rfl rfl) ?_
              refine xg_t (xg_getf (va := (2, 113)) (hF248.get (by decide) h82_235) rfl) ?_
              refine xg_t (xg_iload (va := (0, 1)) rfl rfl) ?_
              refine xg_ialdB (n := 1) (B := 4294967295) (h113_238.fr hF248 (by decide)) (hb239) xnm0 (by omega) (fun u257 hu258 he259 => ?_)
              have hl260 : fld w245 82 14 = fld w 82 14 := pk251.2.2.1
              have hl261 : fld w245 82 14 ≤ 2000 := by omega
              refine xg_cVv mX12_rulePuts (vs := [(0, (1 + (4 * kr)) + 1), (0, u257)]) (rest := []) (cn1 := 0) (sl1 := 0) rfl (mRulePuts (hI247) (by omega) (by omega) (by omega)) rfl (hF248.get (by decide) h82_235) rfl rfl rfl rfl rfl rfl (fun w262 hq263 => ?_)
              obtain ⟨hI264, hF265, hx266⟩ := hq263
              have hx267 := hx266
              have pk268 : PK w w262 := PK.tr pk251 (PK.fr hF265 (by decide) (by decide) pk251.2.2.2)
              have ro269 : ∀ l, l < fld w 82 14 → l < 16 → rwv w262 112 (20 * l) = rwv w 112 (20 * l) := fun l hl h6 => ((hx267 _ (by omega)).2 (by omega)).trans (ro252 l hl h6)
              have hq270 := pk268
              unfold PK PS at hq270
              clear hq253
              have pj271 : PK w60 w262 := PK.tr pj254 (PK.fr hF265 (by decide) (by decide) pk251.2.2.2)
              have hq272 := pj271
              unfold PK PS at hq272
              clear hq255
              have ms273 : mu w262 < mu w := Nat.lt_of_le_of_lt (PK.fr hF265 (by decide) (by decide) pk251.2.2.2).2.1 ms256
              refine xg_t (xg_iinc (u := 1) (z := 2) (l1 := [(0, (2, 82)), (1, (0, kr)), (2, (0, mo))]) rfl rfl (by decide) rfl) ?_
              refine xg_t (xg_goto) ?_
              refine xg_t (xg_blk (b := [(55, 1, 2, 3, 0, 0), (56, 1, 3, 4, 0, 0), (57, 3, 6, 88, 3, 0), (60, 1, 2, 1, 0, 0), (61, 1, 3, 4, 0, 0), (62, 3, 6, 88, 3, 0), (65, 1, 0, 0, 0, 0), (66, 1, 3, 1, 0, 0), (67, 1, 3, 4, 0, 0), (68, 1, 2, 1, 0, 0), (69, 1, 16, 0, 0, 0), (70, 1, 11, 0, 0, 0), (71, 1, 2, 3, 0, 0), (72, 1, 11, 0, 0, 0), (73, 1, 0, 0, 0, 0), (74, 3, 1, 12, 46, 102), (77, 1, 2, 3, 0, 0), (78, 1, 10, 0, 0, 0), (79, 3, 13, 214, 96, 424), (82, 3, 9, 3, 1, 0), (85, 3, 8, 55, 0, 0)]) rfl) ?_
              refine xg_t (xg_iload (va := (0, 2)) rfl rfl) ?_
              refine xg_t (xg_const) ?_
              refine xg_t (xg_icF (u := 2) (v := 4) rfl xnm0 xnm0 (by decide)) ?_
              refine xg_t (xg_iload (va := (0, kr)) rfl rfl) ?_
              refine xg_t (xg_const) ?_
              refine xg_t (xg_icF (u := kr) (v := 4) rfl xnm0 xnm0 (xj_geF (by omega) (by omega))) ?_
              refine xg_t (xg_aload (va := (2, 82)) rfl rfl) ?_
              refine xg_t (xg_const) ?_
              refine xg_t (xg_const) ?_
              refine xg_t (xg_iload (va := (0, kr)) rfl rfl) ?_
              refine xg_t (xg_imul (u := 4) (v := kr) (z := 4 * kr) xnm0 xnm0 (by omega)) ?_
              refine xg_t (xg_iadd (u := 1) (v := 4 * kr) (z := 1 + (4 * kr)) xnm0 xnm0 (by omega)) ?_
              refine xg_t (xg_iload (va := (0, 2)) rfl rfl) ?_
              refine xg_t (xg_iadd (u := 1 + (4 * kr)) (v := 2) (z := (1 + (4 * kr)) + 2) xnm0 xnm0 (by omega)) ?_
              refine xg_t (xg_aload (va := (2, 82)) rfl rfl) ?_
              refine xg_t (xg_getf (va := (2, 113)) (hF265.get (by decide) (hF248.get (by decide) h82_235)) rfl) ?_
              refine xg_t (xg_iload (va := (0, 2)) rfl rfl) ?_
              refine xg_ialdB (n := 2) (B := 4294967295) ((h113_238.fr hF248 (by decide)).fr hF265 (by decide)) (hb239) xnm0 (by omega) (fun u274 hu275 he276 => ?_)
              have hl277 : fld w262 82 14 = fld w 82 14 := pk268.2.2.1
              have hl278 : fld w262 82 14 ≤ 2000 := by omega
              refine xg_cVv mX12_rulePuts (vs := [(0, (1 + (4 * kr)) + 2), (0, u274)]) (rest := []) (cn1 := 0) (sl1 := 0) rfl (mRulePuts (hI264) (by omega) (by omega) (by omega)) rfl (hF265.get (by decide) (hF248.get (by decide) h82_235)) rfl rfl rfl rfl rfl rfl (fun w279 hq280 => ?_)
              obtain ⟨hI281, hF282, hx283⟩ := hq280
              have hx284 := hx283
              have pk285 : PK w w279 := PK.tr pk268 (PK.fr hF282 (by decide) (by decide) pk268.2.2.2)
              have ro286 : ∀ l, l < fld w 82 14 → l < 16 → rwv w279 112 (20 * l) = rwv w 112 (20 * l) := fun l hl h6 => ((hx284 _ (by omega)).2 (by omega)).trans (ro269 l hl h6)
              have hq287 := pk285
              unfold PK PS at hq287
              clear hq270
              have pj288 : PK w60 w279 := PK.tr pj271 (PK.fr hF282 (by decide) (by decide) pk268.2.2.2)
              have hq289 := pj288
              unfold PK PS at hq289
              clear hq272
              have ms290 : mu w279 < mu w := Nat.lt_of_le_of_lt (PK.fr hF282 (by decide) (by decide) pk268.2.2.2).2.1 ms273
              refine xg_t (xg_iinc (u := 2) (z := 3) (l1 := [(0, (2, 82)), (1, (0, kr)), (2, (0, mo))]) rfl rfl (by decide) rfl) ?_
              refine xg_t (xg_goto) ?_
              refine xg_t (xg_blk (b := [(55, 1, 2, 3, 0, 0), (56, 1, 3, 4, 0, 0), (57, 3, 6, 88, 3, 0), (60, 1, 2, 1, 0, 0), (61, 1, 3, 4, 0, 0), (62, 3, 6, 88, 3, 0), (65, 1, 0, 0, 0, 0), (66, 1, 3, 1, 0, 0), (67, 1, 3, 4, 0, 0), (68, 1, 2, 1, 0, 0), (69, 1, 16, 0, 0, 0), (70, 1, 11, 0, 0, 0), (71, 1, 2, 3, 0, 0), (72, 1, 11, 0, 0, 0), (73, 1, 0, 0, 0, 0), (74, 3, 1, 12, 46, 102), (77, 1, 2, 3, 0, 0), (78, 1, 10, 0, 0, 0), (79, 3, 13, 214, 96, 424), (82, 3, 9, 3, 1, 0), (85, 3, 8, 55, 0, 0)]) rfl) ?_
              refine xg_t (xg_iload (va := (0, 3)) rfl rfl) ?_
              refine xg_t (xg_const) ?_
              refine xg_t (xg_icF (u := 3) (v := 4) rfl xnm0 xnm0 (by decide)) ?_
              refine xg_t (xg_iload (va := (0, kr)) rfl rfl) ?_
              refine xg_t (xg_const) ?_
              refine xg_t (xg_icF (u := kr) (v := 4) rfl xnm0 xnm0 (xj_geF (by omega) (by omega))) ?_
              refine xg_t (xg_aload (va := (2, 82)) rfl rfl) ?_
              refine xg_t (xg_const) ?_
              refine xg_t (xg_const) ?_
              refine xg_t (xg_iload (va := (0, kr)) rfl rfl) ?_
              refine xg_t (xg_imul (u := 4) (v := kr) (z := 4 * kr) xnm0 xnm0 (by omega)) ?_
              refine xg_t (xg_iadd (u := 1) (v := 4 * kr) (z := 1 + (4 * kr)) xnm0 xnm0 (by omega)) ?_
              refine xg_t (xg_iload (va := (0, 3)) rfl rfl) ?_
              refine xg_t (xg_iadd (u := 1 + (4 * kr)) (v := 3) (z := (1 + (4 * kr)) + 3) xnm0 xnm0 (by omega)) ?_
              refine xg_t (xg_aload (va := (2, 82)) rfl rfl) ?_
              refine xg_t (xg_getf (va := (2, 113)) (hF282.get (by decide) (hF265.get (by decide) (hF248.get (by decide) h82_235))) rfl) ?_
              refine xg_t (xg_iload (va := (0, 3)) rfl rfl) ?_
              refine xg_ialdB (n := 3) (B := 4294967295) (((h113_238.fr hF248 (by decide)).fr hF265 (by decide)).fr hF282 (by decide)) (hb239) xnm0 (by omega) (fun u291 hu292 he293 => ?_)
              have hl294 : fld w279 82 14 = fld w 82 14 := pk285.2.2.1
              have hl295 : fld w279 82 14 ≤ 2000 := by omega
              refine xg_cVv mX12_rulePuts (vs := [(0, (1 + (4 * kr)) + 3), (0, u291)]) (rest := []) (cn1 := 0) (sl1 := 0) rfl (mRulePuts (hI281) (by omega) (by omega) (by omega)) rfl (hF282.get (by decide) (hF265.get (by decide) (hF248.get (by decide) h82_235))) rfl rfl rfl rfl rfl rfl (fun w296 hq297 => ?_)
              obtain ⟨hI298, hF299, hx300⟩ := hq297
              have hx301 := hx300
              have pk302 : PK w w296 := PK.tr pk285 (PK.fr hF299 (by decide) (by decide) pk285.2.2.2)
              have ro303 : ∀ l, l < fld w 82 14 → l < 16 → rwv w296 112 (20 * l) = rwv w 112 (20 * l) := fun l hl h6 => ((hx301 _ (by omega)).2 (by omega)).trans (ro286 l hl h6)
              have hq304 := pk302
              unfold PK PS at hq304
              clear hq287
              have pj305 : PK w60 w296 := PK.tr pj288 (PK.fr hF299 (by decide) (by decide) pk285.2.2.2)
              have hq306 := pj305
              unfold PK PS at hq306
              clear hq289
              have ms307 : mu w296 < mu w := Nat.lt_of_le_of_lt (PK.fr hF299 (by decide) (by decide) pk285.2.2.2).2.1 ms290
              refine xg_t (xg_iinc (u := 3) (z := 4) (l1 := [(0, (2, 82)), (1, (0, kr)), (2, (0, mo))]) rfl rfl (by decide) rfl) ?_
              refine xg_t (xg_goto) ?_
              refine xg_t (xg_blk (b := [(55, 1, 2, 3, 0, 0), (56, 1, 3, 4, 0, 0), (57, 3, 6, 88, 3, 0), (60, 1, 2, 1, 0, 0), (61, 1, 3, 4, 0, 0), (62, 3, 6, 88, 3, 0), (65, 1, 0, 0, 0, 0), (66, 1, 3, 1, 0, 0), (67, 1, 3, 4, 0, 0), (68, 1, 2, 1, 0, 0), (69, 1, 16, 0, 0, 0), (70, 1, 11, 0, 0, 0), (71, 1, 2, 3, 0, 0), (72, 1, 11, 0, 0, 0), (73, 1, 0, 0, 0, 0), (74, 3, 1, 12, 46, 102), (77, 1, 2, 3, 0, 0), (78, 1, 10, 0, 0, 0), (79, 3, 13, 214, 96, 424), (82, 3, 9, 3, 1, 0), (85, 3, 8, 55, 0, 0)]) rfl) ?_
              refine xg_t (xg_iload (va := (0, 4)) rfl rfl) ?_
              refine xg_t (xg_const) ?_
              refine xg_t (xg_icT (u := 4) (v := 4) rfl xnm0 xnm0 (by decide)) ?_
              refine xg_t (xg_blk (b := [(88, 3, 9, 1, 1, 0), (91, 1, 0, 0, 0, 0), (92, 2, 4, 51, 0, 0), (94, 3, 13, 227, 96, 415), (97, 1, 15, 2, 0, 0), (98, 3, 8, 31, 0, 0)]) rfl) ?_
              refine xg_t (xg_iinc (u := kr) (z := kr + 1) (l1 := [(3, (0, 4)), (0, (2, 82)), (2, (0, mo))]) rfl rfl (by omega) rfl) ?_
              refine xg_t (xg_aload (va := (2, 82)) rfl rfl) ?_
              refine xg_t (xg_bip) ?_
              refine xg_cVi mX12_takes (vs := [(0, 51)]) (rest := []) (cn1 := 0) (sl1 := 0) rfl (mTakes (hI298) (by omega) pk302.2.2.2) rfl (hF299.get (by decide) (hF282.get (by decide) (hF265.get (by decide) (hF248.get (by decide) h82_235)))) rfl rfl rfl rfl rfl rfl (fun n312 w308 hq309 => ?_)
              obtain ⟨hn313, hI310, hF311⟩ := hq309
              clear hb206 hb208 hb210 hb212 hb214 hb216 hb218 hb220 hb222 hb224 hb228 hb230 hb232 hb234
              obtain ⟨hn314, hn315, hn316⟩ := hn313
              have pk317 : PK w w308 := PK.tr pk302 hn315
              have ro318 : ∀ l, l < fld w 82 14 → l < 16 → rwv w308 112 (20 * l) = rwv w 112 (20 * l) := fun l hl h6 => (rwv_fr hF311 (by decide)).trans (ro303 l hl h6)
              have hq319 := pk317
              unfold PK PS at hq319
              clear hq304
              have pj320 : PK w60 w308 := PK.tr pj305 hn315
              have hq321 := pj320
              unfold PK PS at hq321
              clear hq306
              have ms322 : mu w308 < mu w := Nat.lt_of_le_of_lt hn315.2.1 ms307
              have hu323 : n312 = 1 → mu w308 < mu w60 := fun h => Nat.lt_of_lt_of_le (hn316 h) pj305.2.1
              refine xg_t (xg_istore (l1 := [(1, (0, kr + 1)), (3, (0, 4)), (0, (2, 82))]) rfl rfl rfl) ?_
              refine xg_t (xg_goto) ?_
              refine xg_t (xg_drop (l1 := [(0, (2, 82)), (1, (0, kr + 1)), (2, (0, n312))]) (List.forall_mem_cons.mpr ⟨List.mem_cons_of_mem _ (List.mem_cons_of_mem _ (List.mem_cons_of_mem _ (List.mem_cons_self))), List.forall_mem_cons.mpr ⟨List.mem_cons_of_mem _ (List.mem_cons_self), List.forall_mem_cons.mpr ⟨List.mem_cons_self, fun _ h => absurd h List.not_mem_nil⟩⟩⟩)) ?_
              exact ih58 (kr + 1) n312 w308 (by omega) (by omega) (by omega) (hI310) (((((((hF62.tr (hF197.up (by decide))).tr (hF248.up (by decide))).tr (hF265.up (by decide))).tr (hF282.up (by decide))).tr (hF299.up (by decide))).tr (hF311.up (by decide)))) (⟨pk317, ro318, ms322, by omega, by omega, fun _ => by omega, fun h => by omega⟩)
      exact key57 _ 0 1 w43 (Nat.lt_succ_self _) (by omega) (by omega) (hI45) ((hF46.up (by decide))) (⟨pk52, ro53, ms56, by omega, by omega, fun _ => by omega, fun h => by omega⟩)
  · refine xg_t (xg_icF (u := f82_19) (v := 16) rfl xnm0 xnm0 (xj_ltF (by omega) (by omega))) ?_
    refine xg_t (xg_aload (va := (2, 82)) rfl rfl) ?_
    refine xg_t (xg_const) ?_
    refine xg_t (xg_aload (va := (2, 82)) rfl rfl) ?_
    refine xg_t (xg_getf (va := (0, f82_9)) h82_31 rfl) ?_
    refine xg_cVv mX12_also (vs := [(0, 3), (0, f82_9)]) (rest := []) (cn1 := 0) (sl1 := 0) rfl (mAlso (hI) (by omega) (by omega) (by omega) (PK.rf hps).2.2.2) rfl h82_31 rfl rfl rfl rfl rfl rfl (fun w324 hq325 => ?_)
    obtain ⟨hI326, hF327, hx328⟩ := hq325
    have pk329 : PK w w324 := ⟨fun _ => hx328, Nat.le_of_eq (mu_fr hF327 (by decide)), fld_fr hF327 (by decide), Or.inr hx328⟩
    have pk330 : PK w w324 := PK.tr (PK.rf hps) pk329
    have ro331 : ∀ l, l < fld w 82 14 → l < 16 → rwv w324 112 (20 * l) = rwv w 112 (20 * l) := fun l hl h6 => (rwv_fr hF327 (by decide)).trans ((fun l _ _ => rfl) l hl h6)
    have hq332 := pk330
    unfold PK PS at hq332
    have fa333 : FA w324 ≠ 0 := hx328
    refine xg_t (xg_blk (b := [(18, 1, 3, 0, 0, 0), (19, 1, 15, 1, 0, 0), (20, 1, 0, 0, 0, 0), (21, 2, 4, 50, 0, 0), (23, 3, 13, 227, 96, 415), (26, 3, 7, 107, 0, 0), (29, 1, 3, 1, 0, 0), (30, 1, 15, 2, 0, 0)]) rfl) ?_
    refine xg_t (xg_const) ?_
    refine xg_t (xg_istore (l1 := [(0, (2, 82))]) rfl rfl rfl) ?_
    refine xg_t (xg_aload (va := (2, 82)) rfl rfl) ?_
    refine xg_t (xg_bip) ?_
    refine xg_cVi mX12_takes (vs := [(0, 50)]) (rest := []) (cn1 := 0) (sl1 := 0) rfl (mTakes (hI326) (by omega) pk330.2.2.2) rfl (hF327.get (by decide) h82_31) rfl rfl rfl rfl rfl rfl (fun n338 w334 hq335 => ?_)
    obtain ⟨hn339, hI336, hF337⟩ := hq335
    clear hb2 hb4 hb6 hb8 hb10 hb12 hb14 hb16 hb18 hb20 hb24 hb26 hb28 hb30
    obtain ⟨hn340, hn341, hn342⟩ := hn339
    have pk343 : PK w w334 := PK.tr pk330 hn341
    have ro344 : ∀ l, l < fld w 82 14 → l < 16 → rwv w334 112 (20 * l) = rwv w 112 (20 * l) := fun l hl h6 => (rwv_fr hF337 (by decide)).trans (ro331 l hl h6)
    have hq345 := pk343
    unfold PK PS at hq345
    clear hq332
    have fa346 : FA w334 ≠ 0 := hn341.1 fa333
    by_cases hc347 : n338 = 0
    · refine xg_t (xg_ifT (u := n338) rfl xnm0 (xj_eqT hc347)) ?_
      refine xg_t (xg_drop (l1 := [(0, (2, 82)), (1, (0, 0))]) (List.forall_mem_cons.mpr ⟨List.mem_cons_of_mem _ (List.mem_cons_self), List.forall_mem_cons.mpr ⟨List.mem_cons_self, fun _ h => absurd h List.not_mem_nil⟩⟩)) ?_
      refine (mARuleT (hI336) pk343.2.2.2 (by omega) (by omega) (by omega) (fun _ => by omega)).imp (fun φ h => ?_)
      obtain ⟨w', e1, e2, e3, e4, e5, e6, e7⟩ := h
      refine ⟨w', e1, e2, (((hF327.up (by decide)).tr (hF337.up (by decide)))).tr (e3.up (by decide)), fun z => e4 (pk343.1 z), e5, ?_, ?_⟩
      · have q1 := pk343.2.1
        have q2 := pk343.2.2.1
        rcases e6 with ⟨c1, c2, c3⟩ | ⟨c1, c2⟩
        · exact Or.inl ⟨c1, by omega, by omega⟩
        · exact Or.inr ⟨by omega, by omega⟩
      · rcases e7 with r | r
        · exact Or.inl r
        · refine Or.inr (fun hd => r ⟨by rw [pk343.2.2.1]; exact hd.1, fun l hl => ?_⟩)
          have q2 := pk343.2.2.1
          rw [ro344 l (by omega) (by have := hd.1; omega)]
          exact hd.2 l (by omega)
    · have ms348 : mu w334 < mu w := Nat.lt_of_lt_of_le (hn342 (by omega)) pk330.2.1
      refine xg_t (xg_ifF (u := n338) rfl xnm0 (xj_eqF hc347)) ?_
      refine xg_t (xg_const) ?_
      refine xg_t (xg_istore (l1 := [(1, (0, 0)), (0, (2, 82))]) rfl rfl rfl) ?_
      refine xg_t (xg_drop (l1 := [(0, (2, 82)), (1, (0, 0)), (2, (0, 1))]) (List.forall_mem_cons.mpr ⟨List.mem_cons_of_mem _ (List.mem_cons_of_mem _ (List.mem_cons_self)), List.forall_mem_cons.mpr ⟨List.mem_cons_of_mem _ (List.mem_cons_self), List.forall_mem_cons.mpr ⟨List.mem_cons_self, fun _ h => absurd h List.not_mem_nil⟩⟩⟩)) ?_
      have key349 : ∀ (m351 : Nat) (kr mo : Nat) (w352 : List (List xE)), 2 * mu w352 + mo < m351 → kr ≤ 1002 → mo ≤ 1 → xMnv w352 → xFr [82, 83, 112, 113] w w352 → (PK w w352 ∧ (∀ l, l < fld w 82 14 → l < 16 → rwv w352 112 (20 * l) = rwv w 112 (20 * l)) ∧ mu w352 < mu w ∧ (FA w352 ≠ 0 ∨ kr ≤ 4) ∧ kr + mu w352 ≤ 1002 ∧ (mo = 1 → kr + mu w352 ≤ 1001) ∧ (16 ≤ fld w 82 14 → FA w352 ≠ 0)) → xTo (d + 7) mX12_aRule (31, [], [(0, (2, 82)), (1, (0, kr)), (2, (0, mo))], [], (w352, bd, fc, 0, 0, rr)) (fun φ => ∃ w', xEnd 0 [] (w', bd, fc, 0, 0, rr) φ ∧ xMnv w' ∧ xFr [82, 83, 112, 113] w w' ∧ ((FA w ≠ 0 → FA w' ≠ 0) ∧ PS w' ∧ ((fld w' 82 10 = 1 ∧ mu w' ≤ mu w ∧ fld w' 82 14 = fld w 82 14) ∨ (mu w' < mu w ∧ fld w' 82 14 = fld w 82 14 + 1)) ∧ (FA w' ≠ 0 ∨ (RD w → RD w')))) := by
        intro m351
        induction m351 with
        | zero => intro kr mo w352 hz; exact absurd hz (Nat.not_lt_zero _)
        | succ m351 ih350 =>
          intro kr mo w352 hm358 hn355 hn356 hI353 hF354 he357
          obtain ⟨hz359, hz360, hz361, hz362, hz363, hz364, hz365⟩ := he357
          have hq366 := hz359
          unfold PK PS at hq366
          obtain ⟨f82_367, f82_369, f82_371, f82_373, f82_375, f82_377, f82_379, f82_381, f82_383, f82_385, f82_387, f82_388, f82_389, f82_391, f82_393, f82_395, h82_397, hb368, hb370, hb372, hb374, hb376, hb378, hb380, hb382, hb384, hb386, hb390, hb392, hb394, hb396, hb398⟩ := (hI353 82 (by decide) (by decide) : cp82 (wget w352 82))
          refine xg_t (xg_blk (b := [(31, 1, 2, 2, 0, 0), (32, 3, 7, 101, 0, 0), (35, 1, 2, 1, 0, 0), (36, 1, 3, 3, 0, 0), (37, 3, 6, 49, 5, 0), (40, 1, 0, 0, 0, 0), (41, 1, 3, 3, 0, 0), (42, 1, 0, 0, 0, 0), (43, 3, 1, 12, 6, 148), (46, 3, 13, 115, 96, 186)]) rfl) ?_
          refine xg_t (xg_iload (va := (0, mo)) rfl rfl) ?_
          by_cases hc399 : mo = 0
          · refine xg_t (xg_ifT (u := mo) rfl xnm0 (xj_eqT hc399)) ?_
            refine xg_t (xg_blk (b := [(101, 1, 0, 0, 0, 0), (102, 2, 4, 58, 0, 0), (104, 3, 13, 195, 96, 427)]) rfl) ?_
            refine xg_t (xg_aload (va := (2, 82)) rfl rfl) ?_
            refine xg_t (xg_bip) ?_
            refine xg_cVv mX12_must (vs := [(0, 58)]) (rest := []) (cn1 := 0) (sl1 := 0) rfl (mMust (hI353) (by omega) hz359.2.2.2) rfl h82_397 rfl rfl rfl rfl rfl rfl (fun w400 hq401 => ?_)
            obtain ⟨hI402, hF403, hx404⟩ := hq401
            clear hb368 hb370 hb372 hb374 hb376 hb378 hb380 hb382 hb384 hb386 hb390 hb392 hb394 hb396
            have pk405 : PK w w400 := PK.tr hz359 hx404
            have ro406 : ∀ l, l < fld w 82 14 → l < 16 → rwv w400 112 (20 * l) = rwv w 112 (20 * l) := fun l hl h6 => (rwv_fr hF403 (by decide)).trans (hz360 l hl h6)
            have hq407 := pk405
            unfold PK PS at hq407
            clear hq366
            have pj408 : PK w352 w400 := PK.tr (PK.rf hz359.2.2.2) hx404
            have hq409 := pj408
            unfold PK PS at hq409
            have ms410 : mu w400 < mu w := Nat.lt_of_le_of_lt hx404.2.1 hz361
            refine xg_t (xg_drop (l1 := [(0, (2, 82)), (1, (0, kr))]) (List.forall_mem_cons.mpr ⟨List.mem_cons_self, List.forall_mem_cons.mpr ⟨List.mem_cons_of_mem _ (List.mem_cons_self), fun _ h => absurd h List.not_mem_nil⟩⟩)) ?_
            refine (mARuleT (hI402) pk405.2.2.2 (by omega) (by omega) (by omega) (fun _ => by omega)).imp (fun φ h => ?_)
            obtain ⟨w', e1, e2, e3, e4, e5, e6, e7⟩ := h
            refine ⟨w', e1, e2, ((hF354.tr (hF403.up (by decide)))).tr (e3.up (by decide)), fun z => e4 (pk405.1 z), e5, ?_, ?_⟩
            · have q1 := pk405.2.1
              have q2 := pk405.2.2.1
              rcases e6 with ⟨c1, c2, c3⟩ | ⟨c1, c2⟩
              · exact Or.inl ⟨c1, by omega, by omega⟩
              · exact Or.inr ⟨by omega, by omega⟩
            · rcases e7 with r | r
              · exact Or.inl r
              · refine Or.inr (fun hd => r ⟨by rw [pk405.2.2.1]; exact hd.1, fun l hl => ?_⟩)
                have q2 := pk405.2.2.1
                rw [ro406 l (by omega) (by have := hd.1; omega)]
                exact hd.2 l (by omega)
          · refine xg_t (xg_ifF (u := mo) rfl xnm0 (xj_eqF hc399)) ?_
            refine xg_t (xg_iload (va := (0, kr)) rfl rfl) ?_
            refine xg_t (xg_const) ?_
            by_cases hc411 : 3 < kr
            · refine xg_t (xg_icF (u := kr) (v := 3) rfl xnm0 xnm0 (xj_leF hc411 (by omega))) ?_
              refine xg_t (xg_aload (va := (2, 82)) rfl rfl) ?_
              refine xg_t (xg_const) ?_
              refine xg_t (xg_aload (va := (2, 82)) rfl rfl) ?_
              refine xg_t (xg_getf (va := (0, f82_375)) h82_397 rfl) ?_
              refine xg_cVv mX12_also (vs := [(0, 3), (0, f82_375)]) (rest := []) (cn1 := 0) (sl1 := 0) rfl (mAlso (hI353) (by omega) (by omega) (by omega) hz359.2.2.2) rfl h82_397 rfl rfl rfl rfl rfl rfl (fun w412 hq413 => ?_)
              obtain ⟨hI414, hF415, hx416⟩ := hq413
              have pk417 : PK w352 w412 := ⟨fun _ => hx416, Nat.le_of_eq (mu_fr hF415 (by decide)), fld_fr hF415 (by decide), Or.inr hx416⟩
              have pk418 : PK w w412 := PK.tr hz359 pk417
              have ro419 : ∀ l, l < fld w 82 14 → l < 16 → rwv w412 112 (20 * l) = rwv w 112 (20 * l) := fun l hl h6 => (rwv_fr hF415 (by decide)).trans (hz360 l hl h6)
              have hq420 := pk418
              unfold PK PS at hq420
              clear hq366
              have pj421 : PK w352 w412 := PK.tr (PK.rf hz359.2.2.2) pk417
              have hq422 := pj421
              unfold PK PS at hq422
              have ms423 : mu w412 < mu w := Nat.lt_of_le_of_lt pk417.2.1 hz361
              have fa424 : FA w412 ≠ 0 := hx416
              refine xg_t (xg_blk (b := [(49, 1, 0, 0, 0, 0), (50, 3, 13, 109, 96, 421), (53, 1, 3, 0, 0, 0), (54, 1, 15, 3, 0, 0)]) rfl) ?_
              refine xg_t (xg_aload (va := (2, 82)) rfl rfl) ?_
              refine xg_cVv mX12_aTest (vs := []) (rest := []) (cn1 := 0) (sl1 := 0) rfl (mATest (hI414) pk418.2.2.2) rfl (hF415.get (by decide) h82_397) rfl rfl rfl rfl rfl rfl (fun w425 hq426 => ?_)
              obtain ⟨hI427, hF428, hx429⟩ := hq426
              clear hb368 hb370 hb372 hb374 hb376 hb378 hb380 hb382 hb384 hb386 hb390 hb392 hb394 hb396
              have pk430 : PK w w425 := PK.tr pk418 hx429
              have ro431 : ∀ l, l < fld w 82 14 → l < 16 → rwv w425 112 (20 * l) = rwv w 112 (20 * l) := fun l hl h6 => (rwv_fr hF428 (by decide)).trans (ro419 l hl h6)
              have hq432 := pk430
              unfold PK PS at hq432
              clear hq420
              have pj433 : PK w352 w425 := PK.tr pj421 hx429
              have hq434 := pj433
              unfold PK PS at hq434
              clear hq422
              have fa435 : FA w425 ≠ 0 := hx429.1 fa424
              have ms436 : mu w425 < mu w := Nat.lt_of_le_of_lt hx429.2.1 ms423
              refine xg_t (xg_const) ?_
              refine xg_t (xg_istore (l1 := [(0, (2, 82)), (1, (0, kr)), (2, (0, mo))]) rfl rfl rfl) ?_
              refine xg_t (xg_blk (b := [(55, 1, 2, 3, 0, 0), (56, 1, 3, 4, 0, 0), (57, 3, 6, 88, 3, 0), (60, 1, 2, 1, 0, 0), (61, 1, 3, 4, 0, 0), (62, 3, 6, 88, 3, 0), (65, 1, 0, 0, 0, 0), (66, 1, 3, 1, 0, 0), (67, 1, 3, 4, 0, 0), (68, 1, 2, 1, 0, 0), (69, 1, 16, 0, 0, 0), (70, 1, 11, 0, 0, 0), (71, 1, 2, 3, 0, 0), (72, 1, 11, 0, 0, 0), (73, 1, 0, 0, 0, 0), (74, 3, 1, 12, 46, 102), (77, 1, 2, 3, 0, 0), (78, 1, 10, 0, 0, 0), (79, 3, 13, 214, 96, 424), (82, 3, 9, 3, 1, 0), (85, 3, 8, 55, 0, 0)]) rfl) ?_
              refine xg_t (xg_iload (va := (0, 0)) rfl rfl) ?_
              refine xg_t (xg_const) ?_
              refine xg_t (xg_icF (u := 0) (v := 4) rfl xnm0 xnm0 (by decide)) ?_
              refine xg_t (xg_iload (va := (0, kr)) rfl rfl) ?_
              refine xg_t (xg_const) ?_
              refine xg_t (xg_icT (u := kr) (v := 4) rfl xnm0 xnm0 (xj_geT (by omega) (by omega))) ?_
              refine xg_t (xg_blk (b := [(88, 3, 9, 1, 1, 0), (91, 1, 0, 0, 0, 0), (92, 2, 4, 51, 0, 0), (94, 3, 13, 227, 96, 415), (97, 1, 15, 2, 0, 0), (98, 3, 8, 31, 0, 0)]) rfl) ?_
              refine xg_t (xg_iinc (u := kr) (z := kr + 1) (l1 := [(3, (0, 0)), (0, (2, 82)), (2, (0, mo))]) rfl rfl (by omega) rfl) ?_
              refine xg_t (xg_aload (va := (2, 82)) rfl rfl) ?_
              refine xg_t (xg_bip) ?_
              obtain ⟨f82_437, f82_439, f82_441, f82_443, f82_445, f82_447, f82_449, f82_451, f82_453, f82_455, f82_457, f82_458, f82_459, f82_461, f82_463, f82_465, h82_467, hb438, hb440, hb442, hb444, hb446, hb448, hb450, hb452, hb454, hb456, hb460, hb462, hb464, hb466, hb468⟩ := (hI427 82 (by decide) (by decide) : cp82 (wget w425 82))
              refine xg_cVi mX12_takes (vs := [(0, 51)]) (rest := []) (cn1 := 0) (sl1 := 0) rfl (mTakes (hI427) (by omega) pk430.2.2.2) rfl h82_467 rfl rfl rfl rfl rfl rfl (fun n473 w469 hq470 => ?_)
              obtain ⟨hn474, hI471, hF472⟩ := hq470
              clear hb438 hb440 hb442 hb444 hb446 hb448 hb450 hb452 hb454 hb456 hb460 hb462 hb464 hb466
              obtain ⟨hn475, hn476, hn477⟩ := hn474
              have pk478 : PK w w469 := PK.tr pk430 hn476
              have ro479 : ∀ l, l < fld w 82 14 → l < 16 → rwv w469 112 (20 * l) = rwv w 112 (20 * l) := fun l hl h6 => (rwv_fr hF472 (by decide)).trans (ro431 l hl h6)
              have hq480 := pk478
              unfold PK PS at hq480
              clear hq432
              have pj481 : PK w352 w469 := PK.tr pj433 hn476
              have hq482 := pj481
              unfold PK PS at hq482
              clear hq434
              have fa483 : FA w469 ≠ 0 := hn476.1 fa435
              have ms484 : mu w469 < mu w := Nat.lt_of_le_of_lt hn476.2.1 ms436
              have hu485 : n473 = 1 → mu w469 < mu w352 := fun h => Nat.lt_of_lt_of_le (hn477 h) pj433.2.1
              refine xg_t (xg_istore (l1 := [(1, (0, kr + 1)), (3, (0, 0)), (0, (2, 82))]) rfl rfl rfl) ?_
              refine xg_t (xg_goto) ?_
              refine xg_t (xg_drop (l1 := [(0, (2, 82)), (1, (0, kr + 1)), (2, (0, n473))]) (List.forall_mem_cons.mpr ⟨List.mem_cons_of_mem _ (List.mem_cons_of_mem _ (List.mem_cons_of_mem _ (List.mem_cons_self))), List.forall_mem_cons.mpr ⟨List.mem_cons_of_mem _ (List.mem_cons_self), List.forall_mem_cons.mpr ⟨List.mem_cons_self, fun _ h => absurd h List.not_mem_nil⟩⟩⟩)) ?_
              exact ih350 (kr + 1) n473 w469 (by omega) (by omega) (by omega) (hI471) ((((hF354.tr (hF415.up (by decide))).tr (hF428.up (by decide))).tr (hF472.up (by decide)))) (⟨pk478, ro479, ms484, by omega, by omega, fun _ => by omega, fun h => by omega⟩)
            · refine xg_t (xg_icT (u := kr) (v := 3) rfl xnm0 xnm0 (xj_leT (by omega) (by omega))) ?_
              refine xg_t (xg_blk (b := [(49, 1, 0, 0, 0, 0), (50, 3, 13, 109, 96, 421), (53, 1, 3, 0, 0, 0), (54, 1, 15, 3, 0, 0)]) rfl) ?_
              refine xg_t (xg_aload (va := (2, 82)) rfl rfl) ?_
              refine xg_cVv mX12_aTest (vs := []) (rest := []) (cn1 := 0) (sl1 := 0) rfl (mATest (hI353) hz359.2.2.2) rfl h82_397 rfl rfl rfl rfl rfl rfl (fun w486 hq487 => ?_)
              obtain ⟨hI488, hF489, hx490⟩ := hq487
              clear hb368 hb370 hb372 hb374 hb376 hb378 hb380 hb382 hb384 hb386 hb390 hb392 hb394 hb396
              have pk491 : PK w w486 := PK.tr hz359 hx490
              have ro492 : ∀ l, l < fld w 82 14 → l < 16 → rwv w486 112 (20 * l) = rwv w 112 (20 * l) := fun l hl h6 => (rwv_fr hF489 (by decide)).trans (hz360 l hl h6)
              have hq493 := pk491
              unfold PK PS at hq493
              clear hq366
              have pj494 : PK w352 w486 := PK.tr (PK.rf hz359.2.2.2) hx490
              have hq495 := pj494
              unfold PK PS at hq495
              have ms496 : mu w486 < mu w := Nat.lt_of_le_of_lt hx490.2.1 hz361
              refine xg_t (xg_const) ?_
              refine xg_t (xg_istore (l1 := [(0, (2, 82)), (1, (0, kr)), (2, (0, mo))]) rfl rfl rfl) ?_
              refine xg_t (xg_blk (b := [(55, 1, 2, 3, 0, 0), (56, 1, 3, 4, 0, 0), (57, 3, 6, 88, 3, 0), (60, 1, 2, 1, 0, 0), (61, 1, 3, 4, 0, 0), (62, 3, 6, 88, 3, 0), (65, 1, 0, 0, 0, 0), (66, 1, 3, 1, 0, 0), (67, 1, 3, 4, 0, 0), (68, 1, 2, 1, 0, 0), (69, 1, 16, 0, 0, 0), (70, 1, 11, 0, 0, 0), (71, 1, 2, 3, 0, 0), (72, 1, 11, 0, 0, 0), (73, 1, 0, 0, 0, 0), (74, 3, 1, 12, 46, 102), (77, 1, 2, 3, 0, 0), (78, 1, 10, 0, 0, 0), (79, 3, 13, 214, 96, 424), (82, 3, 9, 3, 1, 0), (85, 3, 8, 55, 0, 0)]) rfl) ?_
              refine xg_t (xg_iload (va := (0, 0)) rfl rfl) ?_
              refine xg_t (xg_const) ?_
              refine xg_t (xg_icF (u := 0) (v := 4) rfl xnm0 xnm0 (by decide)) ?_
              refine xg_t (xg_iload (va := (0, kr)) rfl rfl) ?_
              refine xg_t (xg_const) ?_
              refine xg_t (xg_icF (u := kr) (v := 4) rfl xnm0 xnm0 (xj_geF (by omega) (by omega))) ?_
              refine xg_t (xg_aload (va := (2, 82)) rfl rfl) ?_
              refine xg_t (xg_const) ?_
              refine xg_t (xg_const) ?_
              refine xg_t (xg_iload (va := (0, kr)) rfl rfl) ?_
              refine xg_t (xg_imul (u := 4) (v := kr) (z := 4 * kr) xnm0 xnm0 (by omega)) ?_
              refine xg_t (xg_iadd (u := 1) (v := 4 * kr) (z := 1 + (4 * kr)) xnm0 xnm0 (by omega)) ?_
              refine xg_t (xg_iload (va := (0, 0)) rfl rfl) ?_
              refine xg_t (xg_iadd (u := 1 + (4 * kr)) (v := 0) (z := (1 + (4 * kr)) + 0) xnm0 xnm0 (by omega)) ?_
              refine xg_t (xg_aload (va := (2, 82)) rfl rfl) ?_
              obtain ⟨f82_497, f82_499, f82_501, f82_503, f82_505, f82_507, f82_509, f82_511, f82_513, f82_515, f82_517, f82_518, f82_519, f82_521, f82_523, f82_525, h82_527, hb498, hb500, hb502, hb504, hb506, hb508, hb510, hb512, hb514, hb516, hb520, hb522, hb524, hb526, hb528⟩ := (hI488 82 (by decide) (by decide) : cp82 (wget w486 82))
              refine xg_t (xg_getf (va := (2, 113)) h82_527 rfl) ?_
              refine xg_t (xg_iload (va := (0, 0)) rfl rfl) ?_
              obtain ⟨g113_529, h113_530, hb531⟩ := (hI488 113 (by decide) (by decide) : cpI 4 80 4294967295 (wget w486 113))
              have h113_530 : xRow w486 113 4 80 g113_529 := h113_530
              refine xg_ialdB (n := 0) (B := 4294967295) h113_530 (hb531) xnm0 (by omega) (fun u532 hu533 he534 => ?_)
              have hl535 : fld w486 82 14 = fld w 82 14 := pk491.2.2.1
              have hl536 : fld w486 82 14 ≤ 2000 := by omega
              refine xg_cVv mX12_rulePuts (vs := [(0, (1 + (4 * kr)) + 0), (0, u532)]) (rest := []) (cn1 := 0) (sl1 := 0) rfl (mRulePuts (hI488) (by omega) (by omega) (by omega)) rfl h82_527 rfl rfl rfl rfl rfl rfl (fun w537 hq538 => ?_)
              obtain ⟨hI539, hF540, hx541⟩ := hq538
              have hx542 := hx541
              have pk543 : PK w w537 := PK.tr pk491 (PK.fr hF540 (by decide) (by decide) pk491.2.2.2)
              have ro544 : ∀ l, l < fld w 82 14 → l < 16 → rwv w537 112 (20 * l) = rwv w 112 (20 * l) := fun l hl h6 => ((hx542 _ (by omega)).2 (by omega)).trans (ro492 l hl h6)
              have hq545 := pk543
              unfold PK PS at hq545
              clear hq493
              have pj546 : PK w352 w537 := PK.tr pj494 (PK.fr hF540 (by decide) (by decide) pk491.2.2.2)
              have hq547 := pj546
              unfold PK PS at hq547
              clear hq495
              have ms548 : mu w537 < mu w := Nat.lt_of_le_of_lt (PK.fr hF540 (by decide) (by decide) pk491.2.2.2).2.1 ms496
              refine xg_t (xg_iinc (u := 0) (z := 1) (l1 := [(0, (2, 82)), (1, (0, kr)), (2, (0, mo))]) rfl rfl (by decide) rfl) ?_
              refine xg_t (xg_goto) ?_
              refine xg_t (xg_blk (b := [(55, 1, 2, 3, 0, 0), (56, 1, 3, 4, 0, 0), (57, 3, 6, 88, 3, 0), (60, 1, 2, 1, 0, 0), (61, 1, 3, 4, 0, 0), (62, 3, 6, 88, 3, 0), (65, 1, 0, 0, 0, 0), (66, 1, 3, 1, 0, 0), (67, 1, 3, 4, 0, 0), (68, 1, 2, 1, 0, 0), (69, 1, 16, 0, 0, 0), (70, 1, 11, 0, 0, 0), (71, 1, 2, 3, 0, 0), (72, 1, 11, 0, 0, 0), (73, 1, 0, 0, 0, 0), (74, 3, 1, 12, 46, 102), (77, 1, 2, 3, 0, 0), (78, 1, 10, 0, 0, 0), (79, 3, 13, 214, 96, 424), (82, 3, 9, 3, 1, 0), (85, 3, 8, 55, 0, 0)]) rfl) ?_
              refine xg_t (xg_iload (va := (0, 1)) rfl rfl) ?_
              refine xg_t (xg_const) ?_
              refine xg_t (xg_icF (u := 1) (v := 4) rfl xnm0 xnm0 (by decide)) ?_
              refine xg_t (xg_iload (va := (0, kr)) rfl rfl) ?_
              refine xg_t (xg_const) ?_
              refine xg_t (xg_icF (u := kr) (v := 4) rfl xnm0 xnm0 (xj_geF (by omega) (by omega))) ?_
              refine xg_t (xg_aload (va := (2, 82)) rfl rfl) ?_
              refine xg_t (xg_const) ?_
              refine xg_t (xg_const) ?_
              refine xg_t (xg_iload (va := (0, kr)) rfl rfl) ?_
              refine xg_t (xg_imul (u := 4) (v := kr) (z := 4 * kr) xnm0 xnm0 (by omega)) ?_
              refine xg_t (xg_iadd (u := 1) (v := 4 * kr) (z := 1 + (4 * kr)) xnm0 xnm0 (by omega)) ?_
              refine xg_t (xg_iload (va := (0, 1)) rfl rfl) ?_
              refine xg_t (xg_iadd (u := 1 + (4 * kr)) (v := 1) (z := (1 + (4 * kr)) + 1) xnm0 xnm0 (by omega)) ?_
              refine xg_t (xg_aload (va := (2, 82)) rfl rfl) ?_
              refine xg_t (xg_getf (va := (2, 113)) (hF540.get (by decide) h82_527) rfl) ?_
              refine xg_t (xg_iload (va := (0, 1)) rfl rfl) ?_
              refine xg_ialdB (n := 1) (B := 4294967295) (h113_530.fr hF540 (by decide)) (hb531) xnm0 (by omega) (fun u549 hu550 he551 => ?_)
              have hl552 : fld w537 82 14 = fld w 82 14 := pk543.2.2.1
              have hl553 : fld w537 82 14 ≤ 2000 := by omega
              refine xg_cVv mX12_rulePuts (vs := [(0, (1 + (4 * kr)) + 1), (0, u549)]) (rest := []) (cn1 := 0) (sl1 := 0) rfl (mRulePuts (hI539) (by omega) (by omega) (by omega)) rfl (hF540.get (by decide) h82_527) rfl rfl rfl rfl rfl rfl (fun w554 hq555 => ?_)
              obtain ⟨hI556, hF557, hx558⟩ := hq555
              have hx559 := hx558
              have pk560 : PK w w554 := PK.tr pk543 (PK.fr hF557 (by decide) (by decide) pk543.2.2.2)
              have ro561 : ∀ l, l < fld w 82 14 → l < 16 → rwv w554 112 (20 * l) = rwv w 112 (20 * l) := fun l hl h6 => ((hx559 _ (by omega)).2 (by omega)).trans (ro544 l hl h6)
              have hq562 := pk560
              unfold PK PS at hq562
              clear hq545
              have pj563 : PK w352 w554 := PK.tr pj546 (PK.fr hF557 (by decide) (by decide) pk543.2.2.2)
              have hq564 := pj563
              unfold PK PS at hq564
              clear hq547
              have ms565 : mu w554 < mu w := Nat.lt_of_le_of_lt (PK.fr hF557 (by decide) (by decide) pk543.2.2.2).2.1 ms548
              refine xg_t (xg_iinc (u := 1) (z := 2) (l1 := [(0, (2, 82)), (1, (0, kr)), (2, (0, mo))]) rfl rfl (by decide) rfl) ?_
              refine xg_t (xg_goto) ?_
              refine xg_t (xg_blk (b := [(55, 1, 2, 3, 0, 0), (56, 1, 3, 4, 0, 0), (57, 3, 6, 88, 3, 0), (60, 1, 2, 1, 0, 0), (61, 1, 3, 4, 0, 0), (62, 3, 6, 88, 3, 0), (65, 1, 0, 0, 0, 0), (66, 1, 3, 1, 0, 0), (67, 1, 3, 4, 0, 0), (68, 1, 2, 1, 0, 0), (69, 1, 16, 0, 0, 0), (70, 1, 11, 0, 0, 0), (71, 1, 2, 3, 0, 0), (72, 1, 11, 0, 0, 0), (73, 1, 0, 0, 0, 0), (74, 3, 1, 12, 46, 102), (77, 1, 2, 3, 0, 0), (78, 1, 10, 0, 0, 0), (79, 3, 13, 214, 96, 424), (82, 3, 9, 3, 1, 0), (85, 3, 8, 55, 0, 0)]) rfl) ?_
              refine xg_t (xg_iload (va := (0, 2)) rfl rfl) ?_
              refine xg_t (xg_const) ?_
              refine xg_t (xg_icF (u := 2) (v := 4) rfl xnm0 xnm0 (by decide)) ?_
              refine xg_t (xg_iload (va := (0, kr)) rfl rfl) ?_
              refine xg_t (xg_const) ?_
              refine xg_t (xg_icF (u := kr) (v := 4) rfl xnm0 xnm0 (xj_geF (by omega) (by omega))) ?_
              refine xg_t (xg_aload (va := (2, 82)) rfl rfl) ?_
              refine xg_t (xg_const) ?_
              refine xg_t (xg_const) ?_
              refine xg_t (xg_iload (va := (0, kr)) rfl rfl) ?_
              refine xg_t (xg_imul (u := 4) (v := kr) (z := 4 * kr) xnm0 xnm0 (by omega)) ?_
              refine xg_t (xg_iadd (u := 1) (v := 4 * kr) (z := 1 + (4 * kr)) xnm0 xnm0 (by omega)) ?_
              refine xg_t (xg_iload (va := (0, 2)) rfl rfl) ?_
              refine xg_t (xg_iadd (u := 1 + (4 * kr)) (v := 2) (z := (1 + (4 * kr)) + 2) xnm0 xnm0 (by omega)) ?_
              refine xg_t (xg_aload (va := (2, 82)) rfl rfl) ?_
              refine xg_t (xg_getf (va := (2, 113)) (hF557.get (by decide) (hF540.get (by decide) h82_527)) rfl) ?_
              refine xg_t (xg_iload (va := (0, 2)) rfl rfl) ?_
              refine xg_ialdB (n := 2) (B := 4294967295) ((h113_530.fr hF540 (by decide)).fr hF557 (by decide)) (hb531) xnm0 (by omega) (fun u566 hu567 he568 => ?_)
              have hl569 : fld w554 82 14 = fld w 82 14 := pk560.2.2.1
              have hl570 : fld w554 82 14 ≤ 2000 := by omega
              refine xg_cVv mX12_rulePuts (vs := [(0, (1 + (4 * kr)) + 2), (0, u566)]) (rest := []) (cn1 := 0) (sl1 := 0) rfl (mRulePuts (hI556) (by omega) (by omega) (by omega)) rfl (hF557.get (by decide) (hF540.get (by decide) h82_527)) rfl rfl rfl rfl rfl rfl (fun w571 hq572 => ?_)
              obtain ⟨hI573, hF574, hx575⟩ := hq572
              have hx576 := hx575
              have pk577 : PK w w571 := PK.tr pk560 (PK.fr hF574 (by decide) (by decide) pk560.2.2.2)
              have ro578 : ∀ l, l < fld w 82 14 → l < 16 → rwv w571 112 (20 * l) = rwv w 112 (20 * l) := fun l hl h6 => ((hx576 _ (by omega)).2 (by omega)).trans (ro561 l hl h6)
              have hq579 := pk577
              unfold PK PS at hq579
              clear hq562
              have pj580 : PK w352 w571 := PK.tr pj563 (PK.fr hF574 (by decide) (by decide) pk560.2.2.2)
              have hq581 := pj580
              unfold PK PS at hq581
              clear hq564
              have ms582 : mu w571 < mu w := Nat.lt_of_le_of_lt (PK.fr hF574 (by decide) (by decide) pk560.2.2.2).2.1 ms565
              refine xg_t (xg_iinc (u := 2) (z := 3) (l1 := [(0, (2, 82)), (1, (0, kr)), (2, (0, mo))]) rfl rfl (by decide) rfl) ?_
              refine xg_t (xg_goto) ?_
              refine xg_t (xg_blk (b := [(55, 1, 2, 3, 0, 0), (56, 1, 3, 4, 0, 0), (57, 3, 6, 88, 3, 0), (60, 1, 2, 1, 0, 0), (61, 1, 3, 4, 0, 0), (62, 3, 6, 88, 3, 0), (65, 1, 0, 0, 0, 0), (66, 1, 3, 1, 0, 0), (67, 1, 3, 4, 0, 0), (68, 1, 2, 1, 0, 0), (69, 1, 16, 0, 0, 0), (70, 1, 11, 0, 0, 0), (71, 1, 2, 3, 0, 0), (72, 1, 11, 0, 0, 0), (73, 1, 0, 0, 0, 0), (74, 3, 1, 12, 46, 102), (77, 1, 2, 3, 0, 0), (78, 1, 10, 0, 0, 0), (79, 3, 13, 214, 96, 424), (82, 3, 9, 3, 1, 0), (85, 3, 8, 55, 0, 0)]) rfl) ?_
              refine xg_t (xg_iload (va := (0, 3)) rfl rfl) ?_
              refine xg_t (xg_const) ?_
              refine xg_t (xg_icF (u := 3) (v := 4) rfl xnm0 xnm0 (by decide)) ?_
              refine xg_t (xg_iload (va := (0, kr)) rfl rfl) ?_
              refine xg_t (xg_const) ?_
              refine xg_t (xg_icF (u := kr) (v := 4) rfl xnm0 xnm0 (xj_geF (by omega) (by omega))) ?_
              refine xg_t (xg_aload (va := (2, 82)) rfl rfl) ?_
              refine xg_t (xg_const) ?_
              refine xg_t (xg_const) ?_
              refine xg_t (xg_iload (va := (0, kr)) rfl rfl) ?_
              refine xg_t (xg_imul (u := 4) (v := kr) (z := 4 * kr) xnm0 xnm0 (by omega)) ?_
              refine xg_t (xg_iadd (u := 1) (v := 4 * kr) (z := 1 + (4 * kr)) xnm0 xnm0 (by omega)) ?_
              refine xg_t (xg_iload (va := (0, 3)) rfl rfl) ?_
              refine xg_t (xg_iadd (u := 1 + (4 * kr)) (v := 3) (z := (1 + (4 * kr)) + 3) xnm0 xnm0 (by omega)) ?_
              refine xg_t (xg_aload (va := (2, 82)) rfl rfl) ?_
              refine xg_t (xg_getf (va := (2, 113)) (hF574.get (by decide) (hF557.get (by decide) (hF540.get (by decide) h82_527))) rfl) ?_
              refine xg_t (xg_iload (va := (0, 3)) rfl rfl) ?_
              refine xg_ialdB (n := 3) (B := 4294967295) (((h113_530.fr hF540 (by decide)).fr hF557 (by decide)).fr hF574 (by decide)) (hb531) xnm0 (by omega) (fun u583 hu584 he585 => ?_)
              have hl586 : fld w571 82 14 = fld w 82 14 := pk577.2.2.1
              have hl587 : fld w571 82 14 ≤ 2000 := by omega
              refine xg_cVv mX12_rulePuts (vs := [(0, (1 + (4 * kr)) + 3), (0, u583)]) (rest := []) (cn1 := 0) (sl1 := 0) rfl (mRulePuts (hI573) (by omega) (by omega) (by omega)) rfl (hF574.get (by decide) (hF557.get (by decide) (hF540.get (by decide) h82_527))) rfl rfl rfl rfl rfl rfl (fun w588 hq589 => ?_)
              obtain ⟨hI590, hF591, hx592⟩ := hq589
              have hx593 := hx592
              have pk594 : PK w w588 := PK.tr pk577 (PK.fr hF591 (by decide) (by decide) pk577.2.2.2)
              have ro595 : ∀ l, l < fld w 82 14 → l < 16 → rwv w588 112 (20 * l) = rwv w 112 (20 * l) := fun l hl h6 => ((hx593 _ (by omega)).2 (by omega)).trans (ro578 l hl h6)
              have hq596 := pk594
              unfold PK PS at hq596
              clear hq579
              have pj597 : PK w352 w588 := PK.tr pj580 (PK.fr hF591 (by decide) (by decide) pk577.2.2.2)
              have hq598 := pj597
              unfold PK PS at hq598
              clear hq581
              have ms599 : mu w588 < mu w := Nat.lt_of_le_of_lt (PK.fr hF591 (by decide) (by decide) pk577.2.2.2).2.1 ms582
              refine xg_t (xg_iinc (u := 3) (z := 4) (l1 := [(0, (2, 82)), (1, (0, kr)), (2, (0, mo))]) rfl rfl (by decide) rfl) ?_
              refine xg_t (xg_goto) ?_
              refine xg_t (xg_blk (b := [(55, 1, 2, 3, 0, 0), (56, 1, 3, 4, 0, 0), (57, 3, 6, 88, 3, 0), (60, 1, 2, 1, 0, 0), (61, 1, 3, 4, 0, 0), (62, 3, 6, 88, 3, 0), (65, 1, 0, 0, 0, 0), (66, 1, 3, 1, 0, 0), (67, 1, 3, 4, 0, 0), (68, 1, 2, 1, 0, 0), (69, 1, 16, 0, 0, 0), (70, 1, 11, 0, 0, 0), (71, 1, 2, 3, 0, 0), (72, 1, 11, 0, 0, 0), (73, 1, 0, 0, 0, 0), (74, 3, 1, 12, 46, 102), (77, 1, 2, 3, 0, 0), (78, 1, 10, 0, 0, 0), (79, 3, 13, 214, 96, 424), (82, 3, 9, 3, 1, 0), (85, 3, 8, 55, 0, 0)]) rfl) ?_
              refine xg_t (xg_iload (va := (0, 4)) rfl rfl) ?_
              refine xg_t (xg_const) ?_
              refine xg_t (xg_icT (u := 4) (v := 4) rfl xnm0 xnm0 (by decide)) ?_
              refine xg_t (xg_blk (b := [(88, 3, 9, 1, 1, 0), (91, 1, 0, 0, 0, 0), (92, 2, 4, 51, 0, 0), (94, 3, 13, 227, 96, 415), (97, 1, 15, 2, 0, 0), (98, 3, 8, 31, 0, 0)]) rfl) ?_
              refine xg_t (xg_iinc (u := kr) (z := kr + 1) (l1 := [(3, (0, 4)), (0, (2, 82)), (2, (0, mo))]) rfl rfl (by omega) rfl) ?_
              refine xg_t (xg_aload (va := (2, 82)) rfl rfl) ?_
              refine xg_t (xg_bip) ?_
              refine xg_cVi mX12_takes (vs := [(0, 51)]) (rest := []) (cn1 := 0) (sl1 := 0) rfl (mTakes (hI590) (by omega) pk594.2.2.2) rfl (hF591.get (by decide) (hF574.get (by decide) (hF557.get (by decide) (hF540.get (by decide) h82_527)))) rfl rfl rfl rfl rfl rfl (fun n604 w600 hq601 => ?_)
              obtain ⟨hn605, hI602, hF603⟩ := hq601
              clear hb498 hb500 hb502 hb504 hb506 hb508 hb510 hb512 hb514 hb516 hb520 hb522 hb524 hb526
              obtain ⟨hn606, hn607, hn608⟩ := hn605
              have pk609 : PK w w600 := PK.tr pk594 hn607
              have ro610 : ∀ l, l < fld w 82 14 → l < 16 → rwv w600 112 (20 * l) = rwv w 112 (20 * l) := fun l hl h6 => (rwv_fr hF603 (by decide)).trans (ro595 l hl h6)
              have hq611 := pk609
              unfold PK PS at hq611
              clear hq596
              have pj612 : PK w352 w600 := PK.tr pj597 hn607
              have hq613 := pj612
              unfold PK PS at hq613
              clear hq598
              have ms614 : mu w600 < mu w := Nat.lt_of_le_of_lt hn607.2.1 ms599
              have hu615 : n604 = 1 → mu w600 < mu w352 := fun h => Nat.lt_of_lt_of_le (hn608 h) pj597.2.1
              refine xg_t (xg_istore (l1 := [(1, (0, kr + 1)), (3, (0, 4)), (0, (2, 82))]) rfl rfl rfl) ?_
              refine xg_t (xg_goto) ?_
              refine xg_t (xg_drop (l1 := [(0, (2, 82)), (1, (0, kr + 1)), (2, (0, n604))]) (List.forall_mem_cons.mpr ⟨List.mem_cons_of_mem _ (List.mem_cons_of_mem _ (List.mem_cons_of_mem _ (List.mem_cons_self))), List.forall_mem_cons.mpr ⟨List.mem_cons_of_mem _ (List.mem_cons_self), List.forall_mem_cons.mpr ⟨List.mem_cons_self, fun _ h => absurd h List.not_mem_nil⟩⟩⟩)) ?_
              exact ih350 (kr + 1) n604 w600 (by omega) (by omega) (by omega) (hI602) (((((((hF354.tr (hF489.up (by decide))).tr (hF540.up (by decide))).tr (hF557.up (by decide))).tr (hF574.up (by decide))).tr (hF591.up (by decide))).tr (hF603.up (by decide)))) (⟨pk609, ro610, ms614, by omega, by omega, fun _ => by omega, fun h => by omega⟩)
      exact key349 _ 0 1 w334 (Nat.lt_succ_self _) (by omega) (by omega) (hI336) (((hF327.up (by decide)).tr (hF337.up (by decide)))) (⟨pk343, ro344, ms348, by omega, by omega, fun _ => by omega, fun h => by omega⟩)
end XME
