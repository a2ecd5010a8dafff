section
/-! the model: rules -/
def RD (w : List (List xE)) : Prop := fld w 82 14 ≤ 16 ∧ ∀ l, l < fld w 82 14 → rwv w 112 (20 * l) ≤ 4
theorem rules_ok {f g h r : Nat → Nat} {L : Nat} (hf : okA f) (h1 : ∀ i, 0 ≤ i → i < 320 → g (1020 + i) = r i) (h2 : ∀ j, j < 1020 + 0 ∨ 1020 + 320 ≤ j → g j = f j) (hl : L ≤ 16) (hR : ∀ l, l < L → r (20 * l) ≤ 4) (h3 : h 902 = L) (h4 : ∀ j, j ≠ 902 → h j = g j) : okA h := by
  have e : ∀ j, j < 1020 → j ≠ 902 → h j = f j := fun j hj hn => by rw [h4 j hn, h2 j (by omega)]
  have e0 := e 0 (by decide) (by decide)
  have e1 := e 1 (by decide) (by decide)
  have e2 := e 2 (by decide) (by decide)
  have e3 := e 3 (by decide) (by decide)
  have e4 := e 4 (by decide) (by decide)
  have e5 := e 5 (by decide) (by decide)
  have e6 := e 6 (by decide) (by decide)
  have e7 := e 7 (by decide) (by decide)
  have e8 := e 8 (by decide) (by decide)
  have e9 := e 9 (by decide) (by decide)
  have e10 := e 10 (by decide) (by decide)
  have e13 := e 13 (by decide) (by decide)
  have e15 := e 15 (by decide) (by decide)
  have e900 := e 900 (by decide) (by decide)
  have e901 := e 901 (by decide) (by decide)
  obtain ⟨b0, b1, b2, b3, b4, b5, b6, b7, b8, b9, b10, b11, b12, b13, b14, b15, b16⟩ := hf.lits
  refine hf.mk0 (fun j hj => by rw [h4 j (by omega), h2 j (by omega)]) (okB.of0 ⟨by omega, by omega, by omega, by omega, by omega, by omega, by omega, by omega, by omega, by omega, by omega, by omega, by omega, by omega, by omega, by omega, by omega⟩ ?_ ?_ ?_ ?_)
  · intro k i hk hi
    rw [e _ (by omega) (by omega)]
    exact hf.lay (by omega) hi
  · intro k hk
    rw [e _ (by omega) (by omega)]
    exact hf.lif (by omega)
  · intro p i hk hi
    rw [e _ (by omega) (by omega)]
    exact hf.pic (by omega) hi
  · intro l hk
    rw [h4 _ (by omega), h1 (20 * l) (by omega) (by omega)]
    exact hR l (by omega)
theorem RD.fr {S : List Nat} {w w' : List (List xE)} (h : RD w) (hf : xFr S w w') (h1 : 112 ∉ S) (h2 : fld w' 82 14 = fld w 82 14) : RD w' := by
  refine ⟨by rw [h2]; exact h.1, fun l hl => ?_⟩
  rw [rwv_fr hf h1]
  exact h.2 l (by rw [← h2]; exact hl)
section XME
variable {d : Nat} {w : List (List xE)} {bd : List (Nat × Nat)} {fc : List (Nat × Nat × Bool)} {rr : Nat × Nat}
theorem mTakes {wq : Nat} (hI : xMnv w) (hwq : wq ≤ 4294967295) (hps : PS w) : xPi (d + 5) mX12_takes [(2, 82), (0, wq)] w bd fc rr (fun n w' => (n ≤ 1 ∧ PK w w' ∧ (n = 1 → mu w' < mu w)) ∧ xMnv w' ∧ xFr [82] w w') := by
  refine xPi.of ?_
  show xTo (d + 5) mX12_takes (0, [], [(0, (2, 82)), (1, (0, wq))], [], (w, bd, fc, 0, 0, rr)) (fun φ => ∃ n w', xEnd 4 [(0, n)] (w', bd, fc, 0, 0, rr) φ ∧ (n ≤ 1 ∧ PK w w' ∧ (n = 1 → mu w' < mu w)) ∧ xMnv w' ∧ xFr [82] w w')
  refine xoCh82 (xqc82 hI : cp82 (wget w 82)) (fun f82_1 f82_3 f82_5 f82_7 f82_9 f82_11 f82_13 f82_15 f82_17 f82_19 f82_21 f82_22 f82_23 f82_25 f82_27 f82_29 h82_31 hb2 hb4 hb6 hb8 hb10 hb12 hb14 hb16 hb18 hb20 hb24 hb26 hb28 hb30 hb32 => ?_)
  have hf33 : fld w 82 4 = f82_5 := fld_of h82_31
  have hf34 : fld w 82 5 = f82_7 := fld_of h82_31
  have hf35 : fld w 82 7 = f82_11 := fld_of h82_31
  have hf36 : fld w 82 10 = f82_17 := fld_of h82_31
  have hf37 : fld w 82 14 = f82_19 := fld_of h82_31
  have hps_ : fld w 82 10 = 0 ∨ FA w ≠ 0 := hps
  refine xg_t (xg_blq rfl) ?_
  refine xg_t (xg_aload (va := (2, 82)) rfl rfl) ?_
  refine xg_t (xg_getf (va := (0, f82_17)) h82_31 rfl) ?_
  by_cases hc38 : f82_17 = 0
  · refine xg_t (xg_ifF (u := f82_17) rfl xnm0 (xj_neF hc38)) ?_
    refine xg_t (xg_aload (va := (2, 82)) rfl rfl) ?_
    refine xg_t (xg_getf (va := (0, f82_11)) h82_31 rfl) ?_
    refine xg_t (xg_const) ?_
    by_cases hc39 : f82_11 = 3
    · refine xg_t (xg_icF (u := f82_11) (v := 3) rfl xnm0 xnm0 (xj_neF hc39)) ?_
      refine xg_t (xg_aload (va := (2, 82)) rfl rfl) ?_
      refine xg_t (xg_getf (va := (0, f82_15)) h82_31 rfl) ?_
      have hn40 : f82_15 ≤ 4294967295 := hb16
      refine xg_t (xg_iload (va := (0, wq)) rfl rfl) ?_
      by_cases hc41 : f82_15 = wq
      · refine xg_t (xg_icT (u := f82_15) (v := wq) rfl xnm0 xnm0 (xj_eqT hc41)) ?_
        refine xg_t (xg_blq rfl) ?_
        refine xg_t (xg_aload (va := (2, 82)) rfl rfl) ?_
        refine xg_cVv mX12_advance (vs := []) (rest := []) (cn1 := 0) (sl1 := 0) rfl (mAdvance (hI)) rfl h82_31 rfl rfl rfl rfl rfl rfl (fun w42 hq43 => ?_)
        obtain ⟨hI44, hF45, hx46⟩ := hq43
        obtain ⟨hv47, hv48, hv49, hv50⟩ := hx46
        have hf51 := FA_fr hF45 (by decide)
        refine xg_t (xg_const) ?_
        exact xg_e ⟨1, w42, ⟨rfl, rfl⟩, ⟨by omega, ⟨fun _ => by omega, by omega, by omega, (show fld w42 82 10 = 0 ∨ FA w42 ≠ 0 by omega), (K83.fr hF45 (by decide))⟩, fun _ => by omega⟩, hI44, (hF45.up (by decide))⟩
      · refine xg_t (xg_icF (u := f82_15) (v := wq) rfl xnm0 xnm0 (xj_eqF hc41)) ?_
        refine xg_t (xg_blq rfl) ?_
        refine xg_t (xg_const) ?_
        exact xg_e ⟨0, w, ⟨rfl, rfl⟩, ⟨by omega, PK.rf hps, fun _ => by omega⟩, hI, xFr.rf⟩
    · refine xg_t (xg_icT (u := f82_11) (v := 3) rfl xnm0 xnm0 (xj_neT hc39)) ?_
      refine xg_t (xg_blq rfl) ?_
      refine xg_t (xg_const) ?_
      exact xg_e ⟨0, w, ⟨rfl, rfl⟩, ⟨by omega, PK.rf hps, fun _ => by omega⟩, hI, xFr.rf⟩
  · refine xg_t (xg_ifT (u := f82_17) rfl xnm0 (xj_neT hc38)) ?_
    refine xg_t (xg_blq rfl) ?_
    refine xg_t (xg_const) ?_
    exact xg_e ⟨0, w, ⟨rfl, rfl⟩, ⟨by omega, PK.rf hps, fun _ => by omega⟩, hI, xFr.rf⟩
theorem mMust {cq : Nat} (hI : xMnv w) (hcq : cq ≤ 4294967295) (hps : PS w) : xPq (d + 5) mX12_must [(2, 82), (0, cq)] w bd fc rr [] (fun w' => xMnv w' ∧ xFr [82, 83] w w' ∧ (PK w w')) := by
  refine xPq.of ?_
  show xTo (d + 5) mX12_must (0, [], [(0, (2, 82)), (1, (0, cq))], [], (w, bd, fc, 0, 0, rr)) (fun φ => ∃ w', xEnd 0 [] (w', bd, fc, 0, 0, rr) φ ∧ xMnv w' ∧ xFr [82, 83] w w' ∧ (PK w w'))
  refine xoCh82 (xqc82 hI : cp82 (wget w 82)) (fun f82_1 f82_3 f82_5 f82_7 f82_9 f82_11 f82_13 f82_15 f82_17 f82_19 f82_21 f82_22 f82_23 f82_25 f82_27 f82_29 h82_31 hb2 hb4 hb6 hb8 hb10 hb12 hb14 hb16 hb18 hb20 hb24 hb26 hb28 hb30 hb32 => ?_)
  have hf33 : fld w 82 4 = f82_5 := fld_of h82_31
  have hf34 : fld w 82 5 = f82_7 := fld_of h82_31
  have hf35 : fld w 82 7 = f82_11 := fld_of h82_31
  have hf36 : fld w 82 10 = f82_17 := fld_of h82_31
  have hf37 : fld w 82 14 = f82_19 := fld_of h82_31
  have hps_ : fld w 82 10 = 0 ∨ FA w ≠ 0 := hps
  refine xg_t (xg_blq rfl) ?_
  refine xg_t (xg_aload (va := (2, 82)) rfl rfl) ?_
  refine xg_t (xg_getf (va := (0, f82_17)) h82_31 rfl) ?_
  by_cases hc38 : f82_17 = 0
  · refine xg_t (xg_ifF (u := f82_17) rfl xnm0 (xj_neF hc38)) ?_
    refine xg_t (xg_aload (va := (2, 82)) rfl rfl) ?_
    refine xg_t (xg_getf (va := (0, f82_11)) h82_31 rfl) ?_
    refine xg_t (xg_const) ?_
    by_cases hc39 : f82_11 = 2
    · refine xg_t (xg_icF (u := f82_11) (v := 2) rfl xnm0 xnm0 (xj_neF hc39)) ?_
      refine xg_t (xg_aload (va := (2, 82)) rfl rfl) ?_
      refine xg_t (xg_getf (va := (0, f82_3)) h82_31 rfl) ?_
      have hn40 : f82_3 ≤ 4294967295 := hb4
      refine xg_t (xg_iload (va := (0, cq)) rfl rfl) ?_
      by_cases hc41 : f82_3 = cq
      · refine xg_t (xg_icF (u := f82_3) (v := cq) rfl xnm0 xnm0 (xj_neF hc41)) ?_
        refine xg_t (xg_aload (va := (2, 82)) rfl rfl) ?_
        refine xg_cVv mX12_advance (vs := []) (rest := []) (cn1 := 0) (sl1 := 0) rfl (mAdvance (hI)) rfl h82_31 rfl rfl rfl rfl rfl rfl (fun w42 hq43 => ?_)
        obtain ⟨hI44, hF45, hx46⟩ := hq43
        obtain ⟨hv47, hv48, hv49, hv50⟩ := hx46
        have hf51 := FA_fr hF45 (by decide)
        refine xg_t (xg_goto) ?_
        refine xg_t (xg_blq rfl) ?_
        exact xg_e ⟨w42, ⟨rfl, rfl⟩, hI44, (hF45.up (by decide)), ⟨fun _ => by omega, by omega, by omega, (show fld w42 82 10 = 0 ∨ FA w42 ≠ 0 by omega), (K83.fr hF45 (by decide))⟩⟩
      · refine xg_t (xg_icT (u := f82_3) (v := cq) rfl xnm0 xnm0 (xj_neT hc41)) ?_
        refine xg_t (xg_blq rfl) ?_
        refine xg_t (xg_aload (va := (2, 82)) rfl rfl) ?_
        refine xg_cVv mX12_ends (vs := []) (rest := []) (cn1 := 0) (sl1 := 0) rfl (mEnds (hI) (show fld w 82 10 = 0 ∨ FA w ≠ 0 by omega)) rfl h82_31 rfl rfl rfl rfl rfl rfl (fun w52 hq53 => ?_)
        obtain ⟨hI54, hF55, hx56⟩ := hq53
        obtain ⟨hv57, hv58, hv59, hv60, hv61⟩ := hx56
        refine xg_t (xg_blq rfl) ?_
        exact xg_e ⟨w52, ⟨rfl, rfl⟩, hI54, (hF55.up (by decide)), ⟨fun _ => by omega, by omega, by omega, (show fld w52 82 10 = 0 ∨ FA w52 ≠ 0 by omega), hv61⟩⟩
    · refine xg_t (xg_icT (u := f82_11) (v := 2) rfl xnm0 xnm0 (xj_neT hc39)) ?_
      refine xg_t (xg_blq rfl) ?_
      refine xg_t (xg_aload (va := (2, 82)) rfl rfl) ?_
      refine xg_cVv mX12_ends (vs := []) (rest := []) (cn1 := 0) (sl1 := 0) rfl (mEnds (hI) (show fld w 82 10 = 0 ∨ FA w ≠ 0 by omega)) rfl h82_31 rfl rfl rfl rfl rfl rfl (fun w62 hq63 => ?_)
      obtain ⟨hI64, hF65, hx66⟩ := hq63
      obtain ⟨hv67, hv68, hv69, hv70, hv71⟩ := hx66
      refine xg_t (xg_blq rfl) ?_
      exact xg_e ⟨w62, ⟨rfl, rfl⟩, hI64, (hF65.up (by decide)), ⟨fun _ => by omega, by omega, by omega, (show fld w62 82 10 = 0 ∨ FA w62 ≠ 0 by omega), hv71⟩⟩
  · refine xg_t (xg_ifT (u := f82_17) rfl xnm0 (xj_neT hc38)) ?_
    refine xg_t (xg_blq rfl) ?_
    refine xg_t (xg_aload (va := (2, 82)) rfl rfl) ?_
    refine xg_cVv mX12_ends (vs := []) (rest := []) (cn1 := 0) (sl1 := 0) rfl (mEnds (hI) (show fld w 82 10 = 0 ∨ FA w ≠ 0 by omega)) rfl h82_31 rfl rfl rfl rfl rfl rfl (fun w72 hq73 => ?_)
    obtain ⟨hI74, hF75, hx76⟩ := hq73
    obtain ⟨hv77, hv78, hv79, hv80, hv81⟩ := hx76
    refine xg_t (xg_blq rfl) ?_
    exact xg_e ⟨w72, ⟨rfl, rfl⟩, hI74, (hF75.up (by decide)), ⟨fun _ => by omega, by omega, by omega, (show fld w72 82 10 = 0 ∨ FA w72 ≠ 0 by omega), hv81⟩⟩
theorem mNumberNow (hI : xMnv w) (hps : PS w) : xPi (d + 5) mX12_numberNow [(2, 82)] w bd fc rr (fun n w' => (n ≤ 4294967295 ∧ PK w w') ∧ xMnv w' ∧ xFr [82, 83] w w') := by
  refine xPi.of ?_
  show xTo (d + 5) mX12_numberNow (0, [], [(0, (2, 82))], [], (w, bd, fc, 0, 0, rr)) (fun φ => ∃ n w', xEnd 1 [(0, n)] (w', bd, fc, 0, 0, rr) φ ∧ (n ≤ 4294967295 ∧ PK w w') ∧ xMnv w' ∧ xFr [82, 83] w w')
  refine xoCh82 (xqc82 hI : cp82 (wget w 82)) (fun f82_1 f82_3 f82_5 f82_7 f82_9 f82_11 f82_13 f82_15 f82_17 f82_19 f82_21 f82_22 f82_23 f82_25 f82_27 f82_29 h82_31 hb2 hb4 hb6 hb8 hb10 hb12 hb14 hb16 hb18 hb20 hb24 hb26 hb28 hb30 hb32 => ?_)
  have hf33 : fld w 82 4 = f82_5 := fld_of h82_31
  have hf34 : fld w 82 5 = f82_7 := fld_of h82_31
  have hf35 : fld w 82 7 = f82_11 := fld_of h82_31
  have hf36 : fld w 82 10 = f82_17 := fld_of h82_31
  have hf37 : fld w 82 14 = f82_19 := fld_of h82_31
  have hps_ : fld w 82 10 = 0 ∨ FA w ≠ 0 := hps
  refine xg_t (xg_blq rfl) ?_
  refine xg_t (xg_aload (va := (2, 82)) rfl rfl) ?_
  refine xg_t (xg_getf (va := (0, f82_13)) h82_31 rfl) ?_
  have hn38 : f82_13 ≤ 4294967295 := hb14
  refine xg_t (xg_istore (l1 := [(0, (2, 82))]) rfl rfl rfl) ?_
  refine xg_t (xg_aload (va := (2, 82)) rfl rfl) ?_
  refine xg_t (xg_getf (va := (0, f82_17)) h82_31 rfl) ?_
  by_cases hc39 : f82_17 = 0
  · refine xg_t (xg_ifF (u := f82_17) rfl xnm0 (xj_neF hc39)) ?_
    refine xg_t (xg_aload (va := (2, 82)) rfl rfl) ?_
    refine xg_t (xg_getf (va := (0, f82_11)) h82_31 rfl) ?_
    refine xg_t (xg_const) ?_
    by_cases hc40 : f82_11 = 1
    · refine xg_t (xg_icF (u := f82_11) (v := 1) rfl xnm0 xnm0 (xj_neF hc40)) ?_
      refine xg_t (xg_aload (va := (2, 82)) rfl rfl) ?_
      refine xg_cVv mX12_advance (vs := []) (rest := []) (cn1 := 0) (sl1 := 0) rfl (mAdvance (hI)) rfl h82_31 rfl rfl rfl rfl rfl rfl (fun w41 hq42 => ?_)
      obtain ⟨hI43, hF44, hx45⟩ := hq42
      obtain ⟨hv46, hv47, hv48, hv49⟩ := hx45
      have hf50 := FA_fr hF44 (by decide)
      refine xg_t (xg_goto) ?_
      refine xg_t (xg_blq rfl) ?_
      refine xg_t (xg_iload (va := (0, f82_13)) rfl rfl) ?_
      exact xg_e ⟨f82_13, w41, ⟨rfl, rfl⟩, ⟨by omega, ⟨fun _ => by omega, by omega, by omega, (show fld w41 82 10 = 0 ∨ FA w41 ≠ 0 by omega), (K83.fr hF44 (by decide))⟩⟩, hI43, (hF44.up (by decide))⟩
    · refine xg_t (xg_icT (u := f82_11) (v := 1) rfl xnm0 xnm0 (xj_neT hc40)) ?_
      refine xg_t (xg_blq rfl) ?_
      refine xg_t (xg_aload (va := (2, 82)) rfl rfl) ?_
      refine xg_cVv mX12_ends (vs := []) (rest := []) (cn1 := 0) (sl1 := 0) rfl (mEnds (hI) (show fld w 82 10 = 0 ∨ FA w ≠ 0 by omega)) rfl h82_31 rfl rfl rfl rfl rfl rfl (fun w51 hq52 => ?_)
      obtain ⟨hI53, hF54, hx55⟩ := hq52
      obtain ⟨hv56, hv57, hv58, hv59, hv60⟩ := hx55
      refine xg_t (xg_blq rfl) ?_
      refine xg_t (xg_iload (va := (0, f82_13)) rfl rfl) ?_
      exact xg_e ⟨f82_13, w51, ⟨rfl, rfl⟩, ⟨by omega, ⟨fun _ => by omega, by omega, by omega, (show fld w51 82 10 = 0 ∨ FA w51 ≠ 0 by omega), hv60⟩⟩, hI53, (hF54.up (by decide))⟩
  · refine xg_t (xg_ifT (u := f82_17) rfl xnm0 (xj_neT hc39)) ?_
    refine xg_t (xg_blq rfl) ?_
    refine xg_t (xg_aload (va := (2, 82)) rfl rfl) ?_
    refine xg_cVv mX12_ends (vs := []) (rest := []) (cn1 := 0) (sl1 := 0) rfl (mEnds (hI) (show fld w 82 10 = 0 ∨ FA w ≠ 0 by omega)) rfl h82_31 rfl rfl rfl rfl rfl rfl (fun w61 hq62 => ?_)
    obtain ⟨hI63, hF64, hx65⟩ := hq62
    obtain ⟨hv66, hv67, hv68, hv69, hv70⟩ := hx65
    refine xg_t (xg_blq rfl) ?_
    refine xg_t (xg_iload (va := (0, f82_13)) rfl rfl) ?_
    exact xg_e ⟨f82_13, w61, ⟨rfl, rfl⟩, ⟨by omega, ⟨fun _ => by omega, by omega, by omega, (show fld w61 82 10 = 0 ∨ FA w61 ≠ 0 by omega), hv70⟩⟩, hI63, (hF64.up (by decide))⟩
theorem mATest (hI : xMnv w) (hps : PS w) : xPq (d + 6) mX12_aTest [(2, 82)] w bd fc rr [] (fun w' => xMnv w' ∧ xFr [82, 83, 113] w w' ∧ (PK w w')) := by
  refine xPq.of ?_
  show xTo (d + 6) mX12_aTest (0, [], [(0, (2, 82))], [], (w, bd, fc, 0, 0, rr)) (fun φ => ∃ w', xEnd 0 [] (w', bd, fc, 0, 0, rr) φ ∧ xMnv w' ∧ xFr [82, 83, 113] w w' ∧ (PK w w'))
  refine xoCh82 (xqc82 hI : cp82 (wget w 82)) (fun f82_1 f82_3 f82_5 f82_7 f82_9 f82_11 f82_13 f82_15 f82_17 f82_19 f82_21 f82_22 f82_23 f82_25 f82_27 f82_29 h82_31 hb2 hb4 hb6 hb8 hb10 hb12 hb14 hb16 hb18 hb20 hb24 hb26 hb28 hb30 hb32 => ?_)
  have hf33 : fld w 82 4 = f82_5 := fld_of h82_31
  have hf34 : fld w 82 5 = f82_7 := fld_of h82_31
  have hf35 : fld w 82 7 = f82_11 := fld_of h82_31
  have hf36 : fld w 82 10 = f82_17 := fld_of h82_31
  have hf37 : fld w 82 14 = f82_19 := fld_of h82_31
  have hps_ : fld w 82 10 = 0 ∨ FA w ≠ 0 := hps
  refine xoI (xqc113 hI : cpI 4 80 4294967295 (wget w 113)) (fun g113_38 h113_39 hb40 => ?_)
  refine xg_t (xg_blq rfl) ?_
  refine xg_t (xg_aload (va := (2, 82)) rfl rfl) ?_
  refine xg_t (xg_getf (va := (2, 113)) h82_31 rfl) ?_
  refine xg_t (xg_const) ?_
  refine xg_t (xg_aload (va := (2, 82)) rfl rfl) ?_
  refine xg_t (xg_bip) ?_
  refine xg_cVi mX12_takes (vs := [(0, 52)]) (rest := [(0, 0), (2, 113)]) (cn1 := 0) (sl1 := 0) rfl (mTakes (hI) (by omega) (show fld w 82 10 = 0 ∨ FA w ≠ 0 by omega)) rfl h82_31 rfl rfl rfl rfl rfl rfl (fun n45 w41 hq42 => ?_)
  obtain ⟨hn46, hI43, hF44⟩ := hq42
  obtain ⟨hn47, hn48, hn49⟩ := hn46
  have hq50 := hn48
  unfold PK PS at hq50
  by_cases hc51 : n45 = 0
  · refine xg_t (xg_ifT (u := n45) rfl xnm0 (xj_eqT hc51)) ?_
    refine xg_t (xg_blq rfl) ?_
    refine xg_t (xg_const) ?_
    refine xg_t (xg_blq rfl) ?_
    refine xg_iastK (n := 0) (u := 0) (h113_39.fr hF44 (by decide)) xnm0 xnm0 rfl (by first | decide | omega) (fun w52 hr53 hb54 => ?_)
    have hf55 := FA_fr (xFr.of (S := [113]) hb54 (by decide)) (by decide)
    have hf56 := mu_fr (xFr.of (S := [113]) hb54 (by decide)) (by decide)
    have hf57 := fld_fr (c := 82) (j := 7) (xFr.of (S := [113]) hb54 (by decide)) (by decide)
    have hf58 := fld_fr (c := 82) (j := 10) (xFr.of (S := [113]) hb54 (by decide)) (by decide)
    have hf59 := fld_fr (c := 82) (j := 14) (xFr.of (S := [113]) hb54 (by decide)) (by decide)
    refine xg_t (xg_aload (va := (2, 82)) rfl rfl) ?_
    refine xoCh82 (xqc82 hI43 : cp82 (wget w41 82)) (fun f82_60 f82_62 f82_64 f82_66 f82_68 f82_70 f82_72 f82_74 f82_76 f82_78 f82_80 f82_81 f82_82 f82_84 f82_86 f82_88 h82_90 hb61 hb63 hb65 hb67 hb69 hb71 hb73 hb75 hb77 hb79 hb83 hb85 hb87 hb89 hb91 => ?_)
    refine xg_t (xg_getf (va := (2, 113)) (hb54.get (by decide) h82_90) rfl) ?_
    refine xg_t (xg_const) ?_
    refine xg_t (xg_aload (va := (2, 82)) rfl rfl) ?_
    refine xg_t (xg_getf (va := (0, f82_74)) (hb54.get (by decide) h82_90) rfl) ?_
    have hn92 : f82_74 ≤ 4294967295 := hb75
    refine xg_iastK (n := 1) (u := f82_74) hr53 xnm0 xnm0 rfl (by first | decide | omega) (fun w93 hr94 hb95 => ?_)
    have hf96 := FA_fr (xFr.of (S := [113]) hb95 (by decide)) (by decide)
    have hf97 := mu_fr (xFr.of (S := [113]) hb95 (by decide)) (by decide)
    have hf98 := fld_fr (c := 82) (j := 7) (xFr.of (S := [113]) hb95 (by decide)) (by decide)
    have hf99 := fld_fr (c := 82) (j := 10) (xFr.of (S := [113]) hb95 (by decide)) (by decide)
    have hf100 := fld_fr (c := 82) (j := 14) (xFr.of (S := [113]) hb95 (by decide)) (by decide)
    refine xg_t (xg_aload (va := (2, 82)) rfl rfl) ?_
    refine xg_t (xg_getf (va := (2, 113)) (hb95.get (by decide) (hb54.get (by decide) h82_90)) rfl) ?_
    refine xg_t (xg_const) ?_
    refine xg_t (xg_bip) ?_
    refine xg_iastK (n := 2) (u := 61) hr94 xnm0 xnm0 rfl (by first | decide | omega) (fun w101 hr102 hb103 => ?_)
    have hf104 := FA_fr (xFr.of (S := [113]) hb103 (by decide)) (by decide)
    have hf105 := mu_fr (xFr.of (S := [113]) hb103 (by decide)) (by decide)
    have hf106 := fld_fr (c := 82) (j := 7) (xFr.of (S := [113]) hb103 (by decide)) (by decide)
    have hf107 := fld_fr (c := 82) (j := 10) (xFr.of (S := [113]) hb103 (by decide)) (by decide)
    have hf108 := fld_fr (c := 82) (j := 14) (xFr.of (S := [113]) hb103 (by decide)) (by decide)
    refine xg_t (xg_aload (va := (2, 82)) rfl rfl) ?_
    refine xg_t (xg_getf (va := (2, 113)) (hb103.get (by decide) (hb95.get (by decide) (hb54.get (by decide) h82_90))) rfl) ?_
    refine xg_t (xg_const) ?_
    refine xg_t (xg_const) ?_
    refine xg_iastK (n := 3) (u := 1) hr102 xnm0 xnm0 rfl (by first | decide | omega) (fun w109 hr110 hb111 => ?_)
    have hf112 := FA_fr (xFr.of (S := [113]) hb111 (by decide)) (by decide)
    have hf113 := mu_fr (xFr.of (S := [113]) hb111 (by decide)) (by decide)
    have hf114 := fld_fr (c := 82) (j := 7) (xFr.of (S := [113]) hb111 (by decide)) (by decide)
    have hf115 := fld_fr (c := 82) (j := 10) (xFr.of (S := [113]) hb111 (by decide)) (by decide)
    have hf116 := fld_fr (c := 82) (j := 14) (xFr.of (S := [113]) hb111 (by decide)) (by decide)
    refine xg_t (xg_aload (va := (2, 82)) rfl rfl) ?_
    refine xg_t (xg_getf (va := (0, f82_76)) (hb111.get (by decide) (hb103.get (by decide) (hb95.get (by decide) (hb54.get (by decide) h82_90)))) rfl) ?_
    by_cases hc117 : f82_76 = 0
    · refine xg_t (xg_ifF (u := f82_76) rfl xnm0 (xj_neF hc117)) ?_
      refine xg_t (xg_aload (va := (2, 82)) rfl rfl) ?_
      refine xg_t (xg_getf (va := (0, f82_70)) (hb111.get (by decide) (hb103.get (by decide) (hb95.get (by decide) (hb54.get (by decide) h82_90)))) rfl) ?_
      refine xg_t (xg_const) ?_
      by_cases hc118 : f82_70 = 3
      · refine xg_t (xg_icF (u := f82_70) (v := 3) rfl xnm0 xnm0 (xj_neF hc118)) ?_
        refine xg_t (xg_aload (va := (2, 82)) rfl rfl) ?_
        refine xg_t (xg_getf (va := (0, f82_74)) (hb111.get (by decide) (hb103.get (by decide) (hb95.get (by decide) (hb54.get (by decide) h82_90)))) rfl) ?_
        refine xg_t (xg_bip) ?_
        refine xg_t (xg_bip) ?_
        refine xg_t (xg_cSr mX12_isIn (vs := [(0, f82_74), (0, 20), (0, 30)]) (rest := []) (rs := [(0, if 20 ≤ f82_74 ∧ f82_74 ≤ 30 then 1 else 0)]) (cn1 := 0) (sl1 := 0) rfl (mIsIn (by omega) (by omega) (by omega)) rfl rfl rfl rfl rfl rfl rfl rfl) ?_
        by_cases hc119 : 20 ≤ f82_74 ∧ f82_74 ≤ 30
        · refine xg_t (xg_ifT (u := (if 20 ≤ f82_74 ∧ f82_74 ≤ 30 then 1 else 0)) rfl xnm0 (xj_neT (xite1 hc119))) ?_
          refine xg_t (xg_blq rfl) ?_
          refine xg_t (xg_aload (va := (2, 82)) rfl rfl) ?_
          refine xg_cVv mX12_advance (vs := []) (rest := []) (cn1 := 0) (sl1 := 0) rfl (mAdvance (xMnv.up (S := [113]) hI43 ((((xFr.of (S := [113]) hb54 (by decide)).tr (xFr.of (S := [113]) hb95 (by decide))).tr (xFr.of (S := [113]) hb103 (by decide))).tr (xFr.of (S := [113]) hb111 (by decide))) (List.forall_mem_cons.mpr ⟨xqu113 (show cpI 4 80 4294967295 (wget w109 113) from ⟨_, hr110, xrb (by omega) (xrb (by omega) (xrb (by omega) (xrb (by omega) (hb40))))⟩), fun _ h => absurd h List.not_mem_nil⟩))) rfl (hb111.get (by decide) (hb103.get (by decide) (hb95.get (by decide) (hb54.get (by decide) h82_90)))) rfl rfl rfl rfl rfl rfl (fun w120 hq121 => ?_)
          obtain ⟨hI122, hF123, hx124⟩ := hq121
          obtain ⟨hv125, hv126, hv127, hv128⟩ := hx124
          have hf129 := FA_fr hF123 (by decide)
          refine xg_t (xg_aload (va := (2, 82)) rfl rfl) ?_
          refine xoCh82 (xqc82 hI122 : cp82 (wget w120 82)) (fun f82_130 f82_132 f82_134 f82_136 f82_138 f82_140 f82_142 f82_144 f82_146 f82_148 f82_150 f82_151 f82_152 f82_154 f82_156 f82_158 h82_160 hb131 hb133 hb135 hb137 hb139 hb141 hb143 hb145 hb147 hb149 hb153 hb155 hb157 hb159 hb161 => ?_)
          refine xg_t (xg_getf (va := (2, 113)) h82_160 rfl) ?_
          refine xg_t (xg_const) ?_
          refine xg_ialdB (n := 1) (B := 4294967295) (hr110.fr hF123 (by decide)) (xrb (by omega) (xrb (by omega) (xrb (by omega) (xrb (by omega) (hb40))))) xnm0 (by first | decide | omega) (fun u162 hu163 he164 => ?_)
          refine xg_t (xg_bip) ?_
          by_cases hc165 : xbs 21 < xbs u162
          · have hc165u := hc165
            unfold xbs at hc165u
            have hn166 : u162 ≤ 2147483647 := by omega
            refine xg_t (xg_icT (u := u162) (v := 21) rfl xnm0 xnm0 (xjs_gtT hc165)) ?_
            refine xg_t (xg_blq rfl) ?_
            refine xg_t (xg_aload (va := (2, 82)) rfl rfl) ?_
            refine xg_t (xg_getf (va := (2, 113)) h82_160 rfl) ?_
            refine xg_t (xg_const) ?_
            refine xg_t (xg_aload (va := (2, 82)) rfl rfl) ?_
            refine xg_t (xg_getf (va := (0, f82_132)) h82_160 rfl) ?_
            have hn167 : f82_132 ≤ 4294967295 := hb133
            refine xg_iastK (n := 2) (u := f82_132) (hr110.fr hF123 (by decide)) xnm0 xnm0 rfl (by first | decide | omega) (fun w168 hr169 hb170 => ?_)
            have hf171 := FA_fr (xFr.of (S := [113]) hb170 (by decide)) (by decide)
            have hf172 := mu_fr (xFr.of (S := [113]) hb170 (by decide)) (by decide)
            have hf173 := fld_fr (c := 82) (j := 7) (xFr.of (S := [113]) hb170 (by decide)) (by decide)
            have hf174 := fld_fr (c := 82) (j := 10) (xFr.of (S := [113]) hb170 (by decide)) (by decide)
            have hf175 := fld_fr (c := 82) (j := 14) (xFr.of (S := [113]) hb170 (by decide)) (by decide)
            refine xg_t (xg_aload (va := (2, 82)) rfl rfl) ?_
            refine xg_t (xg_getf (va := (0, f82_140)) (hb170.get (by decide) h82_160) rfl) ?_
            refine xg_t (xg_const) ?_
            by_cases hc176 : f82_140 = 2
            · refine xg_t (xg_icF (u := f82_140) (v := 2) rfl xnm0 xnm0 (xj_neF hc176)) ?_
              refine xg_t (xg_aload (va := (2, 82)) rfl rfl) ?_
              refine xg_t (xg_getf (va := (0, f82_132)) (hb170.get (by decide) h82_160) rfl) ?_
              refine xg_t (xg_bip) ?_
              by_cases hc177 : f82_132 = 58
              · refine xg_t (xg_icT (u := f82_132) (v := 58) rfl xnm0 xnm0 (xj_eqT hc177)) ?_
                refine xg_t (xg_blq rfl) ?_
                refine xg_t (xg_aload (va := (2, 82)) rfl rfl) ?_
                refine xg_cVv mX12_ends (vs := []) (rest := []) (cn1 := 0) (sl1 := 0) rfl (mEnds (xMnv.up (S := [113]) hI122 (xFr.of (S := [113]) hb170 (by decide)) (List.forall_mem_cons.mpr ⟨xqu113 (show cpI 4 80 4294967295 (wget w168 113) from ⟨_, hr169, xrb (by omega) (xrb (by omega) (xrb (by omega) (xrb (by omega) (xrb (by omega) (hb40)))))⟩), fun _ h => absurd h List.not_mem_nil⟩)) (show fld w168 82 10 = 0 ∨ FA w168 ≠ 0 by omega)) rfl (hb170.get (by decide) h82_160) rfl rfl rfl rfl rfl rfl (fun w178 hq179 => ?_)
                obtain ⟨hI180, hF181, hx182⟩ := hq179
                obtain ⟨hv183, hv184, hv185, hv186, hv187⟩ := hx182
                exact xg_e ⟨w178, ⟨rfl, rfl⟩, hI180, (((((hF44.up (by decide)).tr ((((xFr.of (S := [82, 83, 113]) hb54 (by decide)).tr (xFr.of (S := [82, 83, 113]) hb95 (by decide))).tr (xFr.of (S := [82, 83, 113]) hb103 (by decide))).tr (xFr.of (S := [82, 83, 113]) hb111 (by decide)))).tr (hF123.up (by decide))).tr (xFr.of (S := [82, 83, 113]) hb170 (by decide))).tr (hF181.up (by decide))), ⟨fun _ => by omega, by omega, by omega, (show fld w178 82 10 = 0 ∨ FA w178 ≠ 0 by omega), ((((((((K83.fr hF44 (by decide)).tr (K83.but hb54 (by decide))).tr (K83.but hb95 (by decide))).tr (K83.but hb103 (by decide))).tr (K83.but hb111 (by decide))).tr (K83.fr hF123 (by decide))).tr (K83.but hb170 (by decide))).tr hv187)⟩⟩
              · refine xg_t (xg_icF (u := f82_132) (v := 58) rfl xnm0 xnm0 (xj_eqF hc177)) ?_
                refine xg_t (xg_aload (va := (2, 82)) rfl rfl) ?_
                refine xg_t (xg_getf (va := (0, f82_132)) (hb170.get (by decide) h82_160) rfl) ?_
                refine xg_t (xg_bip) ?_
                by_cases hc188 : f82_132 = 59
                · refine xg_t (xg_icF (u := f82_132) (v := 59) rfl xnm0 xnm0 (xj_neF hc188)) ?_
                  refine xg_t (xg_blq rfl) ?_
                  refine xg_t (xg_aload (va := (2, 82)) rfl rfl) ?_
                  refine xg_cVv mX12_ends (vs := []) (rest := []) (cn1 := 0) (sl1 := 0) rfl (mEnds (xMnv.up (S := [113]) hI122 (xFr.of (S := [113]) hb170 (by decide)) (List.forall_mem_cons.mpr ⟨xqu113 (show cpI 4 80 4294967295 (wget w168 113) from ⟨_, hr169, xrb (by omega) (xrb (by omega) (xrb (by omega) (xrb (by omega) (xrb (by omega) (hb40)))))⟩), fun _ h => absurd h List.not_mem_nil⟩)) (show fld w168 82 10 = 0 ∨ FA w168 ≠ 0 by omega)) rfl (hb170.get (by decide) h82_160) rfl rfl rfl rfl rfl rfl (fun w189 hq190 => ?_)
                  obtain ⟨hI191, hF192, hx193⟩ := hq190
                  obtain ⟨hv194, hv195, hv196, hv197, hv198⟩ := hx193
                  exact xg_e ⟨w189, ⟨rfl, rfl⟩, hI191, (((((hF44.up (by decide)).tr ((((xFr.of (S := [82, 83, 113]) hb54 (by decide)).tr (xFr.of (S := [82, 83, 113]) hb95 (by decide))).tr (xFr.of (S := [82, 83, 113]) hb103 (by decide))).tr (xFr.of (S := [82, 83, 113]) hb111 (by decide)))).tr (hF123.up (by decide))).tr (xFr.of (S := [82, 83, 113]) hb170 (by decide))).tr (hF192.up (by decide))), ⟨fun _ => by omega, by omega, by omega, (show fld w189 82 10 = 0 ∨ FA w189 ≠ 0 by omega), ((((((((K83.fr hF44 (by decide)).tr (K83.but hb54 (by decide))).tr (K83.but hb95 (by decide))).tr (K83.but hb103 (by decide))).tr (K83.but hb111 (by decide))).tr (K83.fr hF123 (by decide))).tr (K83.but hb170 (by decide))).tr hv198)⟩⟩
                · refine xg_t (xg_icT (u := f82_132) (v := 59) rfl xnm0 xnm0 (xj_neT hc188)) ?_
                  refine xg_t (xg_blq rfl) ?_
                  refine xg_t (xg_aload (va := (2, 82)) rfl rfl) ?_
                  refine xg_cVv mX12_advance (vs := []) (rest := []) (cn1 := 0) (sl1 := 0) rfl (mAdvance (xMnv.up (S := [113]) hI122 (xFr.of (S := [113]) hb170 (by decide)) (List.forall_mem_cons.mpr ⟨xqu113 (show cpI 4 80 4294967295 (wget w168 113) from ⟨_, hr169, xrb (by omega) (xrb (by omega) (xrb (by omega) (xrb (by omega) (xrb (by omega) (hb40)))))⟩), fun _ h => absurd h List.not_mem_nil⟩))) rfl (hb170.get (by decide) h82_160) rfl rfl rfl rfl rfl rfl (fun w199 hq200 => ?_)
                  obtain ⟨hI201, hF202, hx203⟩ := hq200
                  obtain ⟨hv204, hv205, hv206, hv207⟩ := hx203
                  have hf208 := FA_fr hF202 (by decide)
                  refine xg_t (xg_aload (va := (2, 82)) rfl rfl) ?_
                  refine xoCh82 (xqc82 hI201 : cp82 (wget w199 82)) (fun f82_209 f82_211 f82_213 f82_215 f82_217 f82_219 f82_221 f82_223 f82_225 f82_227 f82_229 f82_230 f82_231 f82_233 f82_235 f82_237 h82_239 hb210 hb212 hb214 hb216 hb218 hb220 hb222 hb224 hb226 hb228 hb232 hb234 hb236 hb238 hb240 => ?_)
                  refine xg_t (xg_getf (va := (2, 113)) h82_239 rfl) ?_
                  refine xg_t (xg_const) ?_
                  refine xg_t (xg_aload (va := (2, 82)) rfl rfl) ?_
                  refine xg_cVi mX12_numberNow (vs := []) (rest := [(0, 3), (2, 113)]) (cn1 := 0) (sl1 := 0) rfl (mNumberNow (hI201) (show fld w199 82 10 = 0 ∨ FA w199 ≠ 0 by omega)) rfl h82_239 rfl rfl rfl rfl rfl rfl (fun n245 w241 hq242 => ?_)
                  obtain ⟨hn246, hI243, hF244⟩ := hq242
                  obtain ⟨hn247, hn248⟩ := hn246
                  have hq249 := hn248
                  unfold PK PS at hq249
                  refine xg_iastK (n := 3) (u := n245) ((hr169.fr hF202 (by decide)).fr hF244 (by decide)) xnm0 xnm0 rfl (by first | decide | omega) (fun w250 hr251 hb252 => ?_)
                  have hf253 := FA_fr (xFr.of (S := [113]) hb252 (by decide)) (by decide)
                  have hf254 := mu_fr (xFr.of (S := [113]) hb252 (by decide)) (by decide)
                  have hf255 := fld_fr (c := 82) (j := 7) (xFr.of (S := [113]) hb252 (by decide)) (by decide)
                  have hf256 := fld_fr (c := 82) (j := 10) (xFr.of (S := [113]) hb252 (by decide)) (by decide)
                  have hf257 := fld_fr (c := 82) (j := 14) (xFr.of (S := [113]) hb252 (by decide)) (by decide)
                  exact xg_e ⟨w250, ⟨rfl, rfl⟩, xMnv.up (S := [113]) hI243 (xFr.of (S := [113]) hb252 (by decide)) (List.forall_mem_cons.mpr ⟨xqu113 (show cpI 4 80 4294967295 (wget w250 113) from ⟨_, hr251, xrb (by omega) (xrb (by omega) (xrb (by omega) (xrb (by omega) (xrb (by omega) (xrb (by omega) (hb40))))))⟩), fun _ h => absurd h List.not_mem_nil⟩), (((((((hF44.up (by decide)).tr ((((xFr.of (S := [82, 83, 113]) hb54 (by decide)).tr (xFr.of (S := [82, 83, 113]) hb95 (by decide))).tr (xFr.of (S := [82, 83, 113]) hb103 (by decide))).tr (xFr.of (S := [82, 83, 113]) hb111 (by decide)))).tr (hF123.up (by decide))).tr (xFr.of (S := [82, 83, 113]) hb170 (by decide))).tr (hF202.up (by decide))).tr (hF244.up (by decide))).tr (xFr.of (S := [82, 83, 113]) hb252 (by decide))), ⟨fun _ => by omega, by omega, by omega, (show fld w250 82 10 = 0 ∨ FA w250 ≠ 0 by omega), ((((((((((K83.fr hF44 (by decide)).tr (K83.but hb54 (by decide))).tr (K83.but hb95 (by decide))).tr (K83.but hb103 (by decide))).tr (K83.but hb111 (by decide))).tr (K83.fr hF123 (by decide))).tr (K83.but hb170 (by decide))).tr (K83.fr hF202 (by decide))).tr hn248.2.2.2.2).tr (K83.but hb252 (by decide)))⟩⟩
            · refine xg_t (xg_icT (u := f82_140) (v := 2) rfl xnm0 xnm0 (xj_neT hc176)) ?_
              refine xg_t (xg_blq rfl) ?_
              refine xg_t (xg_aload (va := (2, 82)) rfl rfl) ?_
              refine xg_cVv mX12_ends (vs := []) (rest := []) (cn1 := 0) (sl1 := 0) rfl (mEnds (xMnv.up (S := [113]) hI122 (xFr.of (S := [113]) hb170 (by decide)) (List.forall_mem_cons.mpr ⟨xqu113 (show cpI 4 80 4294967295 (wget w168 113) from ⟨_, hr169, xrb (by omega) (xrb (by omega) (xrb (by omega) (xrb (by omega) (xrb (by omega) (hb40)))))⟩), fun _ h => absurd h List.not_mem_nil⟩)) (show fld w168 82 10 = 0 ∨ FA w168 ≠ 0 by omega)) rfl (hb170.get (by decide) h82_160) rfl rfl rfl rfl rfl rfl (fun w258 hq259 => ?_)
              obtain ⟨hI260, hF261, hx262⟩ := hq259
              obtain ⟨hv263, hv264, hv265, hv266, hv267⟩ := hx262
              exact xg_e ⟨w258, ⟨rfl, rfl⟩, hI260, (((((hF44.up (by decide)).tr ((((xFr.of (S := [82, 83, 113]) hb54 (by decide)).tr (xFr.of (S := [82, 83, 113]) hb95 (by decide))).tr (xFr.of (S := [82, 83, 113]) hb103 (by decide))).tr (xFr.of (S := [82, 83, 113]) hb111 (by decide)))).tr (hF123.up (by decide))).tr (xFr.of (S := [82, 83, 113]) hb170 (by decide))).tr (hF261.up (by decide))), ⟨fun _ => by omega, by omega, by omega, (show fld w258 82 10 = 0 ∨ FA w258 ≠ 0 by omega), ((((((((K83.fr hF44 (by decide)).tr (K83.but hb54 (by decide))).tr (K83.but hb95 (by decide))).tr (K83.but hb103 (by decide))).tr (K83.but hb111 (by decide))).tr (K83.fr hF123 (by decide))).tr (K83.but hb170 (by decide))).tr hv267)⟩⟩
          · have hc165u := hc165
            unfold xbs at hc165u
            refine xg_t (xg_icF (u := u162) (v := 21) rfl xnm0 xnm0 (xjs_gtF hc165)) ?_
            exact xg_e ⟨w120, ⟨rfl, rfl⟩, hI122, (((hF44.up (by decide)).tr ((((xFr.of (S := [82, 83, 113]) hb54 (by decide)).tr (xFr.of (S := [82, 83, 113]) hb95 (by decide))).tr (xFr.of (S := [82, 83, 113]) hb103 (by decide))).tr (xFr.of (S := [82, 83, 113]) hb111 (by decide)))).tr (hF123.up (by decide))), ⟨fun _ => by omega, by omega, by omega, (show fld w120 82 10 = 0 ∨ FA w120 ≠ 0 by omega), ((((((K83.fr hF44 (by decide)).tr (K83.but hb54 (by decide))).tr (K83.but hb95 (by decide))).tr (K83.but hb103 (by decide))).tr (K83.but hb111 (by decide))).tr (K83.fr hF123 (by decide)))⟩⟩
        · refine xg_t (xg_ifF (u := (if 20 ≤ f82_74 ∧ f82_74 ≤ 30 then 1 else 0)) rfl xnm0 (xj_neF (xite0 hc119))) ?_
          refine xg_t (xg_blq rfl) ?_
          refine xg_t (xg_aload (va := (2, 82)) rfl rfl) ?_
          refine xg_cVv mX12_ends (vs := []) (rest := []) (cn1 := 0) (sl1 := 0) rfl (mEnds (xMnv.up (S := [113]) hI43 ((((xFr.of (S := [113]) hb54 (by decide)).tr (xFr.of (S := [113]) hb95 (by decide))).tr (xFr.of (S := [113]) hb103 (by decide))).tr (xFr.of (S := [113]) hb111 (by decide))) (List.forall_mem_cons.mpr ⟨xqu113 (show cpI 4 80 4294967295 (wget w109 113) from ⟨_, hr110, xrb (by omega) (xrb (by omega) (xrb (by omega) (xrb (by omega) (hb40))))⟩), fun _ h => absurd h List.not_mem_nil⟩)) (show fld w109 82 10 = 0 ∨ FA w109 ≠ 0 by omega)) rfl (hb111.get (by decide) (hb103.get (by decide) (hb95.get (by decide) (hb54.get (by decide) h82_90)))) rfl rfl rfl rfl rfl rfl (fun w268 hq269 => ?_)
          obtain ⟨hI270, hF271, hx272⟩ := hq269
          obtain ⟨hv273, hv274, hv275, hv276, hv277⟩ := hx272
          exact xg_e ⟨w268, ⟨rfl, rfl⟩, hI270, (((hF44.up (by decide)).tr ((((xFr.of (S := [82, 83, 113]) hb54 (by decide)).tr (xFr.of (S := [82, 83, 113]) hb95 (by decide))).tr (xFr.of (S := [82, 83, 113]) hb103 (by decide))).tr (xFr.of (S := [82, 83, 113]) hb111 (by decide)))).tr (hF271.up (by decide))), ⟨fun _ => by omega, by omega, by omega, (show fld w268 82 10 = 0 ∨ FA w268 ≠ 0 by omega), ((((((K83.fr hF44 (by decide)).tr (K83.but hb54 (by decide))).tr (K83.but hb95 (by decide))).tr (K83.but hb103 (by decide))).tr (K83.but hb111 (by decide))).tr hv277)⟩⟩
      · refine xg_t (xg_icT (u := f82_70) (v := 3) rfl xnm0 xnm0 (xj_neT hc118)) ?_
        refine xg_t (xg_blq rfl) ?_
        refine xg_t (xg_aload (va := (2, 82)) rfl rfl) ?_
        refine xg_cVv mX12_ends (vs := []) (rest := []) (cn1 := 0) (sl1 := 0) rfl (mEnds (xMnv.up (S := [113]) hI43 ((((xFr.of (S := [113]) hb54 (by decide)).tr (xFr.of (S := [113]) hb95 (by decide))).tr (xFr.of (S := [113]) hb103 (by decide))).tr (xFr.of (S := [113]) hb111 (by decide))) (List.forall_mem_cons.mpr ⟨xqu113 (show cpI 4 80 4294967295 (wget w109 113) from ⟨_, hr110, xrb (by omega) (xrb (by omega) (xrb (by omega) (xrb (by omega) (hb40))))⟩), fun _ h => absurd h List.not_mem_nil⟩)) (show fld w109 82 10 = 0 ∨ FA w109 ≠ 0 by omega)) rfl (hb111.get (by decide) (hb103.get (by decide) (hb95.get (by decide) (hb54.get (by decide) h82_90)))) rfl rfl rfl rfl rfl rfl (fun w278 hq279 => ?_)
        obtain ⟨hI280, hF281, hx282⟩ := hq279
        obtain ⟨hv283, hv284, hv285, hv286, hv287⟩ := hx282
        exact xg_e ⟨w278, ⟨rfl, rfl⟩, hI280, (((hF44.up (by decide)).tr ((((xFr.of (S := [82, 83, 113]) hb54 (by decide)).tr (xFr.of (S := [82, 83, 113]) hb95 (by decide))).tr (xFr.of (S := [82, 83, 113]) hb103 (by decide))).tr (xFr.of (S := [82, 83, 113]) hb111 (by decide)))).tr (hF281.up (by decide))), ⟨fun _ => by omega, by omega, by omega, (show fld w278 82 10 = 0 ∨ FA w278 ≠ 0 by omega), ((((((K83.fr hF44 (by decide)).tr (K83.but hb54 (by decide))).tr (K83.but hb95 (by decide))).tr (K83.but hb103 (by decide))).tr (K83.but hb111 (by decide))).tr hv287)⟩⟩
    · refine xg_t (xg_ifT (u := f82_76) rfl xnm0 (xj_neT hc117)) ?_
      refine xg_t (xg_blq rfl) ?_
      refine xg_t (xg_aload (va := (2, 82)) rfl rfl) ?_
      refine xg_cVv mX12_ends (vs := []) (rest := []) (cn1 := 0) (sl1 := 0) rfl (mEnds (xMnv.up (S := [113]) hI43 ((((xFr.of (S := [113]) hb54 (by decide)).tr (xFr.of (S := [113]) hb95 (by decide))).tr (xFr.of (S := [113]) hb103 (by decide))).tr (xFr.of (S := [113]) hb111 (by decide))) (List.forall_mem_cons.mpr ⟨xqu113 (show cpI 4 80 4294967295 (wget w109 113) from ⟨_, hr110, xrb (by omega) (xrb (by omega) (xrb (by omega) (xrb (by omega) (hb40))))⟩), fun _ h => absurd h List.not_mem_nil⟩)) (show fld w109 82 10 = 0 ∨ FA w109 ≠ 0 by omega)) rfl (hb111.get (by decide) (hb103.get (by decide) (hb95.get (by decide) (hb54.get (by decide) h82_90)))) rfl rfl rfl rfl rfl rfl (fun w288 hq289 => ?_)
      obtain ⟨hI290, hF291, hx292⟩ := hq289
      obtain ⟨hv293, hv294, hv295, hv296, hv297⟩ := hx292
      exact xg_e ⟨w288, ⟨rfl, rfl⟩, hI290, (((hF44.up (by decide)).tr ((((xFr.of (S := [82, 83, 113]) hb54 (by decide)).tr (xFr.of (S := [82, 83, 113]) hb95 (by decide))).tr (xFr.of (S := [82, 83, 113]) hb103 (by decide))).tr (xFr.of (S := [82, 83, 113]) hb111 (by decide)))).tr (hF291.up (by decide))), ⟨fun _ => by omega, by omega, by omega, (show fld w288 82 10 = 0 ∨ FA w288 ≠ 0 by omega), ((((((K83.fr hF44 (by decide)).tr (K83.but hb54 (by decide))).tr (K83.but hb95 (by decide))).tr (K83.but hb103 (by decide))).tr (K83.but hb111 (by decide))).tr hv297)⟩⟩
  · refine xg_t (xg_ifF (u := n45) rfl xnm0 (xj_eqF hc51)) ?_
    refine xg_t (xg_const) ?_
    refine xg_t (xg_goto) ?_
    refine xg_t (xg_blq rfl) ?_
    refine xg_iastK (n := 0) (u := 1) (h113_39.fr hF44 (by decide)) xnm0 xnm0 rfl (by first | decide | omega) (fun w298 hr299 hb300 => ?_)
    have hf301 := FA_fr (xFr.of (S := [113]) hb300 (by decide)) (by decide)
    have hf302 := mu_fr (xFr.of (S := [113]) hb300 (by decide)) (by decide)
    have hf303 := fld_fr (c := 82) (j := 7) (xFr.of (S := [113]) hb300 (by decide)) (by decide)
    have hf304 := fld_fr (c := 82) (j := 10) (xFr.of (S := [113]) hb300 (by decide)) (by decide)
    have hf305 := fld_fr (c := 82) (j := 14) (xFr.of (S := [113]) hb300 (by decide)) (by decide)
    refine xg_t (xg_aload (va := (2, 82)) rfl rfl) ?_
    refine xoCh82 (xqc82 hI43 : cp82 (wget w41 82)) (fun f82_306 f82_308 f82_310 f82_312 f82_314 f82_316 f82_318 f82_320 f82_322 f82_324 f82_326 f82_327 f82_328 f82_330 f82_332 f82_334 h82_336 hb307 hb309 hb311 hb313 hb315 hb317 hb319 hb321 hb323 hb325 hb329 hb331 hb333 hb335 hb337 => ?_)
    refine xg_t (xg_getf (va := (2, 113)) (hb300.get (by decide) h82_336) rfl) ?_
    refine xg_t (xg_const) ?_
    refine xg_t (xg_aload (va := (2, 82)) rfl rfl) ?_
    refine xg_t (xg_getf (va := (0, f82_320)) (hb300.get (by decide) h82_336) rfl) ?_
    have hn338 : f82_320 ≤ 4294967295 := hb321
    refine xg_iastK (n := 1) (u := f82_320) hr299 xnm0 xnm0 rfl (by first | decide | omega) (fun w339 hr340 hb341 => ?_)
    have hf342 := FA_fr (xFr.of (S := [113]) hb341 (by decide)) (by decide)
    have hf343 := mu_fr (xFr.of (S := [113]) hb341 (by decide)) (by decide)
    have hf344 := fld_fr (c := 82) (j := 7) (xFr.of (S := [113]) hb341 (by decide)) (by decide)
    have hf345 := fld_fr (c := 82) (j := 10) (xFr.of (S := [113]) hb341 (by decide)) (by decide)
    have hf346 := fld_fr (c := 82) (j := 14) (xFr.of (S := [113]) hb341 (by decide)) (by decide)
    refine xg_t (xg_aload (va := (2, 82)) rfl rfl) ?_
    refine xg_t (xg_getf (va := (2, 113)) (hb341.get (by decide) (hb300.get (by decide) h82_336)) rfl) ?_
    refine xg_t (xg_const) ?_
    refine xg_t (xg_bip) ?_
    refine xg_iastK (n := 2) (u := 61) hr340 xnm0 xnm0 rfl (by first | decide | omega) (fun w347 hr348 hb349 => ?_)
    have hf350 := FA_fr (xFr.of (S := [113]) hb349 (by decide)) (by decide)
    have hf351 := mu_fr (xFr.of (S := [113]) hb349 (by decide)) (by decide)
    have hf352 := fld_fr (c := 82) (j := 7) (xFr.of (S := [113]) hb349 (by decide)) (by decide)
    have hf353 := fld_fr (c := 82) (j := 10) (xFr.of (S := [113]) hb349 (by decide)) (by decide)
    have hf354 := fld_fr (c := 82) (j := 14) (xFr.of (S := [113]) hb349 (by decide)) (by decide)
    refine xg_t (xg_aload (va := (2, 82)) rfl rfl) ?_
    refine xg_t (xg_getf (va := (2, 113)) (hb349.get (by decide) (hb341.get (by decide) (hb300.get (by decide) h82_336))) rfl) ?_
    refine xg_t (xg_const) ?_
    refine xg_t (xg_const) ?_
    refine xg_iastK (n := 3) (u := 1) hr348 xnm0 xnm0 rfl (by first | decide | omega) (fun w355 hr356 hb357 => ?_)
    have hf358 := FA_fr (xFr.of (S := [113]) hb357 (by decide)) (by decide)
    have hf359 := mu_fr (xFr.of (S := [113]) hb357 (by decide)) (by decide)
    have hf360 := fld_fr (c := 82) (j := 7) (xFr.of (S := [113]) hb357 (by decide)) (by decide)
    have hf361 := fld_fr (c := 82) (j := 10) (xFr.of (S := [113]) hb357 (by decide)) (by decide)
    have hf362 := fld_fr (c := 82) (j := 14) (xFr.of (S := [113]) hb357 (by decide)) (by decide)
    refine xg_t (xg_aload (va := (2, 82)) rfl rfl) ?_
    refine xg_t (xg_getf (va := (0, f82_322)) (hb357.get (by decide) (hb349.get (by decide) (hb341.get (by decide) (hb300.get (by decide) h82_336)))) rfl) ?_
    by_cases hc363 : f82_322 = 0
    · refine xg_t (xg_ifF (u := f82_322) rfl xnm0 (xj_neF hc363)) ?_
      refine xg_t (xg_aload (va := (2, 82)) rfl rfl) ?_
      refine xg_t (xg_getf (va := (0, f82_316)) (hb357.get (by decide) (hb349.get (by decide) (hb341.get (by decide) (hb300.get (by decide) h82_336)))) rfl) ?_
      refine xg_t (xg_const) ?_
      by_cases hc364 : f82_316 = 3
      · refine xg_t (xg_icF (u := f82_316) (v := 3) rfl xnm0 xnm0 (xj_neF hc364)) ?_
        refine xg_t (xg_aload (va := (2, 82)) rfl rfl) ?_
        refine xg_t (xg_getf (va := (0, f82_320)) (hb357.get (by decide) (hb349.get (by decide) (hb341.get (by decide) (hb300.get (by decide) h82_336)))) rfl) ?_
        refine xg_t (xg_bip) ?_
        refine xg_t (xg_bip) ?_
        refine xg_t (xg_cSr mX12_isIn (vs := [(0, f82_320), (0, 20), (0, 30)]) (rest := []) (rs := [(0, if 20 ≤ f82_320 ∧ f82_320 ≤ 30 then 1 else 0)]) (cn1 := 0) (sl1 := 0) rfl (mIsIn (by omega) (by omega) (by omega)) rfl rfl rfl rfl rfl rfl rfl rfl) ?_
        by_cases hc365 : 20 ≤ f82_320 ∧ f82_320 ≤ 30
        · refine xg_t (xg_ifT (u := (if 20 ≤ f82_320 ∧ f82_320 ≤ 30 then 1 else 0)) rfl xnm0 (xj_neT (xite1 hc365))) ?_
          refine xg_t (xg_blq rfl) ?_
          refine xg_t (xg_aload (va := (2, 82)) rfl rfl) ?_
          refine xg_cVv mX12_advance (vs := []) (rest := []) (cn1 := 0) (sl1 := 0) rfl (mAdvance (xMnv.up (S := [113]) hI43 ((((xFr.of (S := [113]) hb300 (by decide)).tr (xFr.of (S := [113]) hb341 (by decide))).tr (xFr.of (S := [113]) hb349 (by decide))).tr (xFr.of (S := [113]) hb357 (by decide))) (List.forall_mem_cons.mpr ⟨xqu113 (show cpI 4 80 4294967295 (wget w355 113) from ⟨_, hr356, xrb (by omega) (xrb (by omega) (xrb (by omega) (xrb (by omega) (hb40))))⟩), fun _ h => absurd h List.not_mem_nil⟩))) rfl (hb357.get (by decide) (hb349.get (by decide) (hb341.get (by decide) (hb300.get (by decide) h82_336)))) rfl rfl rfl rfl rfl rfl (fun w366 hq367 => ?_)
          obtain ⟨hI368, hF369, hx370⟩ := hq367
          obtain ⟨hv371, hv372, hv373, hv374⟩ := hx370
          have hf375 := FA_fr hF369 (by decide)
          refine xg_t (xg_aload (va := (2, 82)) rfl rfl) ?_
          refine xoCh82 (xqc82 hI368 : cp82 (wget w366 82)) (fun f82_376 f82_378 f82_380 f82_382 f82_384 f82_386 f82_388 f82_390 f82_392 f82_394 f82_396 f82_397 f82_398 f82_400 f82_402 f82_404 h82_406 hb377 hb379 hb381 hb383 hb385 hb387 hb389 hb391 hb393 hb395 hb399 hb401 hb403 hb405 hb407 => ?_)
          refine xg_t (xg_getf (va := (2, 113)) h82_406 rfl) ?_
          refine xg_t (xg_const) ?_
          refine xg_ialdB (n := 1) (B := 4294967295) (hr356.fr hF369 (by decide)) (xrb (by omega) (xrb (by omega) (xrb (by omega) (xrb (by omega) (hb40))))) xnm0 (by first | decide | omega) (fun u408 hu409 he410 => ?_)
          refine xg_t (xg_bip) ?_
          by_cases hc411 : xbs 21 < xbs u408
          · have hc411u := hc411
            unfold xbs at hc411u
            have hn412 : u408 ≤ 2147483647 := by omega
            refine xg_t (xg_icT (u := u408) (v := 21) rfl xnm0 xnm0 (xjs_gtT hc411)) ?_
            refine xg_t (xg_blq rfl) ?_
            refine xg_t (xg_aload (va := (2, 82)) rfl rfl) ?_
            refine xg_t (xg_getf (va := (2, 113)) h82_406 rfl) ?_
            refine xg_t (xg_const) ?_
            refine xg_t (xg_aload (va := (2, 82)) rfl rfl) ?_
            refine xg_t (xg_getf (va := (0, f82_378)) h82_406 rfl) ?_
            have hn413 : f82_378 ≤ 4294967295 := hb379
            refine xg_iastK (n := 2) (u := f82_378) (hr356.fr hF369 (by decide)) xnm0 xnm0 rfl (by first | decide | omega) (fun w414 hr415 hb416 => ?_)
            have hf417 := FA_fr (xFr.of (S := [113]) hb416 (by decide)) (by decide)
            have hf418 := mu_fr (xFr.of (S := [113]) hb416 (by decide)) (by decide)
            have hf419 := fld_fr (c := 82) (j := 7) (xFr.of (S := [113]) hb416 (by decide)) (by decide)
            have hf420 := fld_fr (c := 82) (j := 10) (xFr.of (S := [113]) hb416 (by decide)) (by decide)
            have hf421 := fld_fr (c := 82) (j := 14) (xFr.of (S := [113]) hb416 (by decide)) (by decide)
            refine xg_t (xg_aload (va := (2, 82)) rfl rfl) ?_
            refine xg_t (xg_getf (va := (0, f82_386)) (hb416.get (by decide) h82_406) rfl) ?_
            refine xg_t (xg_const) ?_
            by_cases hc422 : f82_386 = 2
            · refine xg_t (xg_icF (u := f82_386) (v := 2) rfl xnm0 xnm0 (xj_neF hc422)) ?_
              refine xg_t (xg_aload (va := (2, 82)) rfl rfl) ?_
              refine xg_t (xg_getf (va := (0, f82_378)) (hb416.get (by decide) h82_406) rfl) ?_
              refine xg_t (xg_bip) ?_
              by_cases hc423 : f82_378 = 58
              · refine xg_t (xg_icT (u := f82_378) (v := 58) rfl xnm0 xnm0 (xj_eqT hc423)) ?_
                refine xg_t (xg_blq rfl) ?_
                refine xg_t (xg_aload (va := (2, 82)) rfl rfl) ?_
                refine xg_cVv mX12_ends (vs := []) (rest := []) (cn1 := 0) (sl1 := 0) rfl (mEnds (xMnv.up (S := [113]) hI368 (xFr.of (S := [113]) hb416 (by decide)) (List.forall_mem_cons.mpr ⟨xqu113 (show cpI 4 80 4294967295 (wget w414 113) from ⟨_, hr415, xrb (by omega) (xrb (by omega) (xrb (by omega) (xrb (by omega) (xrb (by omega) (hb40)))))⟩), fun _ h => absurd h List.not_mem_nil⟩)) (show fld w414 82 10 = 0 ∨ FA w414 ≠ 0 by omega)) rfl (hb416.get (by decide) h82_406) rfl rfl rfl rfl rfl rfl (fun w424 hq425 => ?_)
                obtain ⟨hI426, hF427, hx428⟩ := hq425
                obtain ⟨hv429, hv430, hv431, hv432, hv433⟩ := hx428
                exact xg_e ⟨w424, ⟨rfl, rfl⟩, hI426, (((((hF44.up (by decide)).tr ((((xFr.of (S := [82, 83, 113]) hb300 (by decide)).tr (xFr.of (S := [82, 83, 113]) hb341 (by decide))).tr (xFr.of (S := [82, 83, 113]) hb349 (by decide))).tr (xFr.of (S := [82, 83, 113]) hb357 (by decide)))).tr (hF369.up (by decide))).tr (xFr.of (S := [82, 83, 113]) hb416 (by decide))).tr (hF427.up (by decide))), ⟨fun _ => by omega, by omega, by omega, (show fld w424 82 10 = 0 ∨ FA w424 ≠ 0 by omega), ((((((((K83.fr hF44 (by decide)).tr (K83.but hb300 (by decide))).tr (K83.but hb341 (by decide))).tr (K83.but hb349 (by decide))).tr (K83.but hb357 (by decide))).tr (K83.fr hF369 (by decide))).tr (K83.but hb416 (by decide))).tr hv433)⟩⟩
              · refine xg_t (xg_icF (u := f82_378) (v := 58) rfl xnm0 xnm0 (xj_eqF hc423)) ?_
                refine xg_t (xg_aload (va := (2, 82)) rfl rfl) ?_
                refine xg_t (xg_getf (va := (0, f82_378)) (hb416.get (by decide) h82_406) rfl) ?_
                refine xg_t (xg_bip) ?_
                by_cases hc434 : f82_378 = 59
                · refine xg_t (xg_icF (u := f82_378) (v := 59) rfl xnm0 xnm0 (xj_neF hc434)) ?_
                  refine xg_t (xg_blq rfl) ?_
                  refine xg_t (xg_aload (va := (2, 82)) rfl rfl) ?_
                  refine xg_cVv mX12_ends (vs := []) (rest := []) (cn1 := 0) (sl1 := 0) rfl (mEnds (xMnv.up (S := [113]) hI368 (xFr.of (S := [113]) hb416 (by decide)) (List.forall_mem_cons.mpr ⟨xqu113 (show cpI 4 80 4294967295 (wget w414 113) from ⟨_, hr415, xrb (by omega) (xrb (by omega) (xrb (by omega) (xrb (by omega) (xrb (by omega) (hb40)))))⟩), fun _ h => absurd h List.not_mem_nil⟩)) (show fld w414 82 10 = 0 ∨ FA w414 ≠ 0 by omega)) rfl (hb416.get (by decide) h82_406) rfl rfl rfl rfl rfl rfl (fun w435 hq436 => ?_)
                  obtain ⟨hI437, hF438, hx439⟩ := hq436
                  obtain ⟨hv440, hv441, hv442, hv443, hv444⟩ := hx439
                  exact xg_e ⟨w435, ⟨rfl, rfl⟩, hI437, (((((hF44.up (by decide)).tr ((((xFr.of (S := [82, 83, 113]) hb300 (by decide)).tr (xFr.of (S := [82, 83, 113]) hb341 (by decide))).tr (xFr.of (S := [82, 83, 113]) hb349 (by decide))).tr (xFr.of (S := [82, 83, 113]) hb357 (by decide)))).tr (hF369.up (by decide))).tr (xFr.of (S := [82, 83, 113]) hb416 (by decide))).tr (hF438.up (by decide))), ⟨fun _ => by omega, by omega, by omega, (show fld w435 82 10 = 0 ∨ FA w435 ≠ 0 by omega), ((((((((K83.fr hF44 (by decide)).tr (K83.but hb300 (by decide))).tr (K83.but hb341 (by decide))).tr (K83.but hb349 (by decide))).tr (K83.but hb357 (by decide))).tr (K83.fr hF369 (by decide))).tr (K83.but hb416 (by decide))).tr hv444)⟩⟩
                · refine xg_t (xg_icT (u := f82_378) (v := 59) rfl xnm0 xnm0 (xj_neT hc434)) ?_
                  refine xg_t (xg_blq rfl) ?_
                  refine xg_t (xg_aload (va := (2, 82)) rfl rfl) ?_
                  refine xg_cVv mX12_advance (vs := []) (rest := []) (cn1 := 0) (sl1 := 0) rfl (mAdvance (xMnv.up (S := [113]) hI368 (xFr.of (S := [113]) hb416 (by decide)) (List.forall_mem_cons.mpr ⟨xqu113 (show cpI 4 80 4294967295 (wget w414 113) from ⟨_, hr415, xrb (by omega) (xrb (by omega) (xrb (by omega) (xrb (by omega) (xrb (by omega) (hb40)))))⟩), fun _ h => absurd h List.not_mem_nil⟩))) rfl (hb416.get (by decide) h82_406) rfl rfl rfl rfl rfl rfl (fun w445 hq446 => ?_)
                  obtain ⟨hI447, hF448, hx449⟩ := hq446
                  obtain ⟨hv450, hv451, hv452, hv453⟩ := hx449
                  have hf454 := FA_fr hF448 (by decide)
                  refine xg_t (xg_aload (va := (2, 82)) rfl rfl) ?_
                  refine xoCh82 (xqc82 hI447 : cp82 (wget w445 82)) (fun f82_455 f82_457 f82_459 f82_461 f82_463 f82_465 f82_467 f82_469 f82_471 f82_473 f82_475 f82_476 f82_477 f82_479 f82_481 f82_483 h82_485 hb456 hb458 hb460 hb462 hb464 hb466 hb468 hb470 hb472 hb474 hb478 hb480 hb482 hb484 hb486 => ?_)
                  refine xg_t (xg_getf (va := (2, 113)) h82_485 rfl) ?_
                  refine xg_t (xg_const) ?_
                  refine xg_t (xg_aload (va := (2, 82)) rfl rfl) ?_
                  refine xg_cVi mX12_numberNow (vs := []) (rest := [(0, 3), (2, 113)]) (cn1 := 0) (sl1 := 0) rfl (mNumberNow (hI447) (show fld w445 82 10 = 0 ∨ FA w445 ≠ 0 by omega)) rfl h82_485 rfl rfl rfl rfl rfl rfl (fun n491 w487 hq488 => ?_)
                  obtain ⟨hn492, hI489, hF490⟩ := hq488
                  obtain ⟨hn493, hn494⟩ := hn492
                  have hq495 := hn494
                  unfold PK PS at hq495
                  refine xg_iastK (n := 3) (u := n491) ((hr415.fr hF448 (by decide)).fr hF490 (by decide)) xnm0 xnm0 rfl (by first | decide | omega) (fun w496 hr497 hb498 => ?_)
                  have hf499 := FA_fr (xFr.of (S := [113]) hb498 (by decide)) (by decide)
                  have hf500 := mu_fr (xFr.of (S := [113]) hb498 (by decide)) (by decide)
                  have hf501 := fld_fr (c := 82) (j := 7) (xFr.of (S := [113]) hb498 (by decide)) (by decide)
                  have hf502 := fld_fr (c := 82) (j := 10) (xFr.of (S := [113]) hb498 (by decide)) (by decide)
                  have hf503 := fld_fr (c := 82) (j := 14) (xFr.of (S := [113]) hb498 (by decide)) (by decide)
                  exact xg_e ⟨w496, ⟨rfl, rfl⟩, xMnv.up (S := [113]) hI489 (xFr.of (S := [113]) hb498 (by decide)) (List.forall_mem_cons.mpr ⟨xqu113 (show cpI 4 80 4294967295 (wget w496 113) from ⟨_, hr497, xrb (by omega) (xrb (by omega) (xrb (by omega) (xrb (by omega) (xrb (by omega) (xrb (by omega) (hb40))))))⟩), fun _ h => absurd h List.not_mem_nil⟩), (((((((hF44.up (by decide)).tr ((((xFr.of (S := [82, 83, 113]) hb300 (by decide)).tr (xFr.of (S := [82, 83, 113]) hb341 (by decide))).tr (xFr.of (S := [82, 83, 113]) hb349 (by decide))).tr (xFr.of (S := [82, 83, 113]) hb357 (by decide)))).tr (hF369.up (by decide))).tr (xFr.of (S := [82, 83, 113]) hb416 (by decide))).tr (hF448.up (by decide))).tr (hF490.up (by decide))).tr (xFr.of (S := [82, 83, 113]) hb498 (by decide))), ⟨fun _ => by omega, by omega, by omega, (show fld w496 82 10 = 0 ∨ FA w496 ≠ 0 by omega), ((((((((((K83.fr hF44 (by decide)).tr (K83.but hb300 (by decide))).tr (K83.but hb341 (by decide))).tr (K83.but hb349 (by decide))).tr (K83.but hb357 (by decide))).tr (K83.fr hF369 (by decide))).tr (K83.but hb416 (by decide))).tr (K83.fr hF448 (by decide))).tr hn494.2.2.2.2).tr (K83.but hb498 (by decide)))⟩⟩
            · refine xg_t (xg_icT (u := f82_386) (v := 2) rfl xnm0 xnm0 (xj_neT hc422)) ?_
              refine xg_t (xg_blq rfl) ?_
              refine xg_t (xg_aload (va := (2, 82)) rfl rfl) ?_
              refine xg_cVv mX12_ends (vs := []) (rest := []) (cn1 := 0) (sl1 := 0) rfl (mEnds (xMnv.up (S := [113]) hI368 (xFr.of (S := [113]) hb416 (by decide)) (List.forall_mem_cons.mpr ⟨xqu113 (show cpI 4 80 4294967295 (wget w414 113) from ⟨_, hr415, xrb (by omega) (xrb (by omega) (xrb (by omega) (xrb (by omega) (xrb (by omega) (hb40)))))⟩), fun _ h => absurd h List.not_mem_nil⟩)) (show fld w414 82 10 = 0 ∨ FA w414 ≠ 0 by omega)) rfl (hb416.get (by decide) h82_406) rfl rfl rfl rfl rfl rfl (fun w504 hq505 => ?_)
              obtain ⟨hI506, hF507, hx508⟩ := hq505
              obtain ⟨hv509, hv510, hv511, hv512, hv513⟩ := hx508
              exact xg_e ⟨w504, ⟨rfl, rfl⟩, hI506, (((((hF44.up (by decide)).tr ((((xFr.of (S := [82, 83, 113]) hb300 (by decide)).tr (xFr.of (S := [82, 83, 113]) hb341 (by decide))).tr (xFr.of (S := [82, 83, 113]) hb349 (by decide))).tr (xFr.of (S := [82, 83, 113]) hb357 (by decide)))).tr (hF369.up (by decide))).tr (xFr.of (S := [82, 83, 113]) hb416 (by decide))).tr (hF507.up (by decide))), ⟨fun _ => by omega, by omega, by omega, (show fld w504 82 10 = 0 ∨ FA w504 ≠ 0 by omega), ((((((((K83.fr hF44 (by decide)).tr (K83.but hb300 (by decide))).tr (K83.but hb341 (by decide))).tr (K83.but hb349 (by decide))).tr (K83.but hb357 (by decide))).tr (K83.fr hF369 (by decide))).tr (K83.but hb416 (by decide))).tr hv513)⟩⟩
          · have hc411u := hc411
            unfold xbs at hc411u
            refine xg_t (xg_icF (u := u408) (v := 21) rfl xnm0 xnm0 (xjs_gtF hc411)) ?_
            exact xg_e ⟨w366, ⟨rfl, rfl⟩, hI368, (((hF44.up (by decide)).tr ((((xFr.of (S := [82, 83, 113]) hb300 (by decide)).tr (xFr.of (S := [82, 83, 113]) hb341 (by decide))).tr (xFr.of (S := [82, 83, 113]) hb349 (by decide))).tr (xFr.of (S := [82, 83, 113]) hb357 (by decide)))).tr (hF369.up (by decide))), ⟨fun _ => by omega, by omega, by omega, (show fld w366 82 10 = 0 ∨ FA w366 ≠ 0 by omega), ((((((K83.fr hF44 (by decide)).tr (K83.but hb300 (by decide))).tr (K83.but hb341 (by decide))).tr (K83.but hb349 (by decide))).tr (K83.but hb357 (by decide))).tr (K83.fr hF369 (by decide)))⟩⟩
        · refine xg_t (xg_ifF (u := (if 20 ≤ f82_320 ∧ f82_320 ≤ 30 then 1 else 0)) rfl xnm0 (xj_neF (xite0 hc365))) ?_
          refine xg_t (xg_blq rfl) ?_
          refine xg_t (xg_aload (va := (2, 82)) rfl rfl) ?_
          refine xg_cVv mX12_ends (vs := []) (rest := []) (cn1 := 0) (sl1 := 0) rfl (mEnds (xMnv.up (S := [113]) hI43 ((((xFr.of (S := [113]) hb300 (by decide)).tr (xFr.of (S := [113]) hb341 (by decide))).tr (xFr.of (S := [113]) hb349 (by decide))).tr (xFr.of (S := [113]) hb357 (by decide))) (List.forall_mem_cons.mpr ⟨xqu113 (show cpI 4 80 4294967295 (wget w355 113) from ⟨_, hr356, xrb (by omega) (xrb (by omega) (xrb (by omega) (xrb (by omega) (hb40))))⟩), fun _ h => absurd h List.not_mem_nil⟩)) (show fld w355 82 10 = 0 ∨ FA w355 ≠ 0 by omega)) rfl (hb357.get (by decide) (hb349.get (by decide) (hb341.get (by decide) (hb300.get (by decide) h82_336)))) rfl rfl rfl rfl rfl rfl (fun w514 hq515 => ?_)
          obtain ⟨hI516, hF517, hx518⟩ := hq515
          obtain ⟨hv519, hv520, hv521, hv522, hv523⟩ := hx518
          exact xg_e ⟨w514, ⟨rfl, rfl⟩, hI516, (((hF44.up (by decide)).tr ((((xFr.of (S := [82, 83, 113]) hb300 (by decide)).tr (xFr.of (S := [82, 83, 113]) hb341 (by decide))).tr (xFr.of (S := [82, 83, 113]) hb349 (by decide))).tr (xFr.of (S := [82, 83, 113]) hb357 (by decide)))).tr (hF517.up (by decide))), ⟨fun _ => by omega, by omega, by omega, (show fld w514 82 10 = 0 ∨ FA w514 ≠ 0 by omega), ((((((K83.fr hF44 (by decide)).tr (K83.but hb300 (by decide))).tr (K83.but hb341 (by decide))).tr (K83.but hb349 (by decide))).tr (K83.but hb357 (by decide))).tr hv523)⟩⟩
      · refine xg_t (xg_icT (u := f82_316) (v := 3) rfl xnm0 xnm0 (xj_neT hc364)) ?_
        refine xg_t (xg_blq rfl) ?_
        refine xg_t (xg_aload (va := (2, 82)) rfl rfl) ?_
        refine xg_cVv mX12_ends (vs := []) (rest := []) (cn1 := 0) (sl1 := 0) rfl (mEnds (xMnv.up (S := [113]) hI43 ((((xFr.of (S := [113]) hb300 (by decide)).tr (xFr.of (S := [113]) hb341 (by decide))).tr (xFr.of (S := [113]) hb349 (by decide))).tr (xFr.of (S := [113]) hb357 (by decide))) (List.forall_mem_cons.mpr ⟨xqu113 (show cpI 4 80 4294967295 (wget w355 113) from ⟨_, hr356, xrb (by omega) (xrb (by omega) (xrb (by omega) (xrb (by omega) (hb40))))⟩), fun _ h => absurd h List.not_mem_nil⟩)) (show fld w355 82 10 = 0 ∨ FA w355 ≠ 0 by omega)) rfl (hb357.get (by decide) (hb349.get (by decide) (hb341.get (by decide) (hb300.get (by decide) h82_336)))) rfl rfl rfl rfl rfl rfl (fun w524 hq525 => ?_)
        obtain ⟨hI526, hF527, hx528⟩ := hq525
        obtain ⟨hv529, hv530, hv531, hv532, hv533⟩ := hx528
        exact xg_e ⟨w524, ⟨rfl, rfl⟩, hI526, (((hF44.up (by decide)).tr ((((xFr.of (S := [82, 83, 113]) hb300 (by decide)).tr (xFr.of (S := [82, 83, 113]) hb341 (by decide))).tr (xFr.of (S := [82, 83, 113]) hb349 (by decide))).tr (xFr.of (S := [82, 83, 113]) hb357 (by decide)))).tr (hF527.up (by decide))), ⟨fun _ => by omega, by omega, by omega, (show fld w524 82 10 = 0 ∨ FA w524 ≠ 0 by omega), ((((((K83.fr hF44 (by decide)).tr (K83.but hb300 (by decide))).tr (K83.but hb341 (by decide))).tr (K83.but hb349 (by decide))).tr (K83.but hb357 (by decide))).tr hv533)⟩⟩
    · refine xg_t (xg_ifT (u := f82_322) rfl xnm0 (xj_neT hc363)) ?_
      refine xg_t (xg_blq rfl) ?_
      refine xg_t (xg_aload (va := (2, 82)) rfl rfl) ?_
      refine xg_cVv mX12_ends (vs := []) (rest := []) (cn1 := 0) (sl1 := 0) rfl (mEnds (xMnv.up (S := [113]) hI43 ((((xFr.of (S := [113]) hb300 (by decide)).tr (xFr.of (S := [113]) hb341 (by decide))).tr (xFr.of (S := [113]) hb349 (by decide))).tr (xFr.of (S := [113]) hb357 (by decide))) (List.forall_mem_cons.mpr ⟨xqu113 (show cpI 4 80 4294967295 (wget w355 113) from ⟨_, hr356, xrb (by omega) (xrb (by omega) (xrb (by omega) (xrb (by omega) (hb40))))⟩), fun _ h => absurd h List.not_mem_nil⟩)) (show fld w355 82 10 = 0 ∨ FA w355 ≠ 0 by omega)) rfl (hb357.get (by decide) (hb349.get (by decide) (hb341.get (by decide) (hb300.get (by decide) h82_336)))) rfl rfl rfl rfl rfl rfl (fun w534 hq535 => ?_)
      obtain ⟨hI536, hF537, hx538⟩ := hq535
      obtain ⟨hv539, hv540, hv541, hv542, hv543⟩ := hx538
      exact xg_e ⟨w534, ⟨rfl, rfl⟩, hI536, (((hF44.up (by decide)).tr ((((xFr.of (S := [82, 83, 113]) hb300 (by decide)).tr (xFr.of (S := [82, 83, 113]) hb341 (by decide))).tr (xFr.of (S := [82, 83, 113]) hb349 (by decide))).tr (xFr.of (S := [82, 83, 113]) hb357 (by decide)))).tr (hF537.up (by decide))), ⟨fun _ => by omega, by omega, by omega, (show fld w534 82 10 = 0 ∨ FA w534 ≠ 0 by omega), ((((((K83.fr hF44 (by decide)).tr (K83.but hb300 (by decide))).tr (K83.but hb341 (by decide))).tr (K83.but hb349 (by decide))).tr (K83.but hb357 (by decide))).tr hv543)⟩⟩
theorem mRulePuts {kk va : Nat} (hI : xMnv w) (hkk : kk ≤ 19) (hva : va ≤ 4294967295) (hln : fld w 82 14 ≤ 2000) : xPq d mX12_rulePuts [(2, 82), (0, kk), (0, va)] w bd fc rr [] (fun w' => xMnv w' ∧ xFr [112] w w' ∧ (∀ j, j < 320 → ((fld w 82 14 < 16 ∧ j = 20 * fld w 82 14 + kk) → rwv w' 112 j = va) ∧ (¬ (j = 20 * fld w 82 14 + kk) → rwv w' 112 j = rwv w 112 j))) := by
  refine xPq.of ?_
  show xTo d mX12_rulePuts (0, [], [(0, (2, 82)), (1, (0, kk)), (2, (0, va))], [], (w, bd, fc, 0, 0, rr)) (fun φ => ∃ w', xEnd 0 [] (w', bd, fc, 0, 0, rr) φ ∧ xMnv w' ∧ xFr [112] w w' ∧ (∀ j, j < 320 → ((fld w 82 14 < 16 ∧ j = 20 * fld w 82 14 + kk) → rwv w' 112 j = va) ∧ (¬ (j = 20 * fld w 82 14 + kk) → rwv w' 112 j = rwv w 112 j)))
  refine xoCh82 (xqc82 hI : cp82 (wget w 82)) (fun f82_1 f82_3 f82_5 f82_7 f82_9 f82_11 f82_13 f82_15 f82_17 f82_19 f82_21 f82_22 f82_23 f82_25 f82_27 f82_29 h82_31 hb2 hb4 hb6 hb8 hb10 hb12 hb14 hb16 hb18 hb20 hb24 hb26 hb28 hb30 hb32 => ?_)
  refine xoI (xqc112 hI : cpI 320 79 4294967295 (wget w 112)) (fun g112_33 h112_34 hb35 => ?_)
  have hf36 : fld w 82 14 = f82_19 := fld_of h82_31
  have hl37 : f82_19 ≤ 2000 := by omega
  refine xg_t (xg_blq rfl) ?_
  refine xg_t (xg_aload (va := (2, 82)) rfl rfl) ?_
  refine xg_t (xg_getf (va := (0, f82_19)) h82_31 rfl) ?_
  have hn38 := id hb20
  unfold xHid at hn38
  refine xg_t (xg_bip) ?_
  by_cases hc39 : f82_19 < 16
  · refine xg_t (xg_icF (u := f82_19) (v := 16) rfl xnm0 xnm0 (xj_geF hc39 (by omega))) ?_
    refine xg_t (xg_aload (va := (2, 82)) rfl rfl) ?_
    refine xg_t (xg_getf (va := (2, 112)) h82_31 rfl) ?_
    refine xg_t (xg_bip) ?_
    refine xg_t (xg_aload (va := (2, 82)) rfl rfl) ?_
    refine xg_t (xg_getf (va := (0, f82_19)) h82_31 rfl) ?_
    refine xg_t (xg_imul (u := 20) (v := f82_19) (z := 20 * f82_19) xnm0 xnm0 (by omega)) ?_
    refine xg_t (xg_iload (va := (0, kk)) rfl rfl) ?_
    refine xg_t (xg_iadd (u := 20 * f82_19) (v := kk) (z := (20 * f82_19) + kk) xnm0 xnm0 (by omega)) ?_
    refine xg_t (xg_iload (va := (0, va)) rfl rfl) ?_
    refine xg_iastK (n := (20 * f82_19) + kk) (u := va) h112_34 xnm0 xnm0 rfl (by omega) (fun w40 hr41 hb42 => ?_)
    refine xg_t (xg_blq rfl) ?_
    exact xg_e ⟨w40, ⟨rfl, rfl⟩, xMnv.up (S := [112]) hI (xFr.of (S := [112]) hb42 (by decide)) (List.forall_mem_cons.mpr ⟨xqu112 (show cpI 320 79 4294967295 (wget w40 112) from ⟨_, hr41, xrb (by omega) (hb35)⟩), fun _ h => absurd h List.not_mem_nil⟩), (xFr.of (S := [112]) hb42 (by decide)), fun j hj => ⟨fun h => (rwv_of hr41 hj).trans (if_pos (show j = (20 * f82_19) + kk by omega)), fun h => (rwv_of hr41 hj).trans ((if_neg (show ¬ j = (20 * f82_19) + kk by omega)).trans (rwv_of h112_34 hj).symm)⟩⟩
  · refine xg_t (xg_icT (u := f82_19) (v := 16) rfl xnm0 xnm0 (xj_geT (by omega) (by omega))) ?_
    refine xg_t (xg_blq rfl) ?_
    exact xg_e ⟨w, ⟨rfl, rfl⟩, hI, xFr.rf, fun j hj => ⟨fun h => absurd h.1 (by omega), fun _ => rfl⟩⟩
set_option maxHeartbeats 60000000 in
theorem mARuleT {kr : Nat} (hI : xMnv w) (hps : PS w) (hln : fld w 82 14 ≤ 1000) (hk : FA w ≠ 0 ∨ kr ≤ 4) (hkr : kr ≤ 1002) (h16 : 16 ≤ fld w 82 14 → FA w ≠ 0) : xTo (d + 7) mX12_aRule (107, [], [(0, (2, 82)), (1, (0, kr))], [], (w, bd, fc, 0, 0, rr)) (fun φ => ∃ w', xEnd 0 [] (w', bd, fc, 0, 0, rr) φ ∧ xMnv w' ∧ xFr [82, 83, 112, 113] w w' ∧ ((FA w ≠ 0 → FA w' ≠ 0) ∧ PS w' ∧ ((fld w' 82 10 = 1 ∧ mu w' ≤ mu w ∧ fld w' 82 14 = fld w 82 14) ∨ (mu w' < mu w ∧ fld w' 82 14 = fld w 82 14 + 1)) ∧ (FA w' ≠ 0 ∨ (RD w → RD w')) ∧ K83 w w')) := by
  refine xoCh82 (xqc82 hI : cp82 (wget w 82)) (fun f82_1 f82_3 f82_5 f82_7 f82_9 f82_11 f82_13 f82_15 f82_17 f82_19 f82_21 f82_22 f82_23 f82_25 f82_27 f82_29 h82_31 hb2 hb4 hb6 hb8 hb10 hb12 hb14 hb16 hb18 hb20 hb24 hb26 hb28 hb30 hb32 => ?_)
  have hf33 : fld w 82 4 = f82_5 := fld_of h82_31
  have hf34 : fld w 82 5 = f82_7 := fld_of h82_31
  have hf35 : fld w 82 7 = f82_11 := fld_of h82_31
  have hf36 : fld w 82 10 = f82_17 := fld_of h82_31
  have hf37 : fld w 82 14 = f82_19 := fld_of h82_31
  have hps_ : fld w 82 10 = 0 ∨ FA w ≠ 0 := hps
  refine xoI (xqc113 hI : cpI 4 80 4294967295 (wget w 113)) (fun g113_38 h113_39 hb40 => ?_)
  have hl41 : f82_19 ≤ 1000 := by omega
  refine xg_t (xg_blq rfl) ?_
  refine xg_t (xg_aload (va := (2, 82)) rfl rfl) ?_
  refine xg_t (xg_getf (va := (0, f82_17)) h82_31 rfl) ?_
  by_cases hc42 : f82_17 = 0
  · refine xg_t (xg_ifF (u := f82_17) rfl xnm0 (xj_neF hc42)) ?_
    refine xg_t (xg_aload (va := (2, 82)) rfl rfl) ?_
    refine xg_t (xg_getf (va := (0, f82_11)) h82_31 rfl) ?_
    refine xg_t (xg_const) ?_
    by_cases hc43 : f82_11 = 3
    · refine xg_t (xg_icF (u := f82_11) (v := 3) rfl xnm0 xnm0 (xj_neF hc43)) ?_
      refine xg_t (xg_aload (va := (2, 82)) rfl rfl) ?_
      refine xg_t (xg_getf (va := (0, f82_15)) h82_31 rfl) ?_
      have hn44 : f82_15 ≤ 4294967295 := hb16
      refine xg_t (xg_bip) ?_
      refine xg_t (xg_bip) ?_
      refine xg_t (xg_cSr mX12_isIn (vs := [(0, f82_15), (0, 40), (0, 42)]) (rest := []) (rs := [(0, if 40 ≤ f82_15 ∧ f82_15 ≤ 42 then 1 else 0)]) (cn1 := 0) (sl1 := 0) rfl (mIsIn (by omega) (by omega) (by omega)) rfl rfl rfl rfl rfl rfl rfl rfl) ?_
      by_cases hc45 : 40 ≤ f82_15 ∧ f82_15 ≤ 42
      · refine xg_t (xg_ifT (u := (if 40 ≤ f82_15 ∧ f82_15 ≤ 42 then 1 else 0)) rfl xnm0 (xj_neT (xite1 hc45))) ?_
        refine xg_t (xg_blq rfl) ?_
        refine xg_t (xg_aload (va := (2, 82)) rfl rfl) ?_
        refine xg_t (xg_getf (va := (0, f82_15)) h82_31 rfl) ?_
        refine xg_t (xg_istore (l1 := [(0, (2, 82)), (1, (0, kr))]) rfl rfl rfl) ?_
        refine xg_t (xg_aload (va := (2, 82)) rfl rfl) ?_
        have hf46 : fld w 82 7 = f82_11 := fld_of h82_31
        refine xg_cVv mX12_advance (vs := []) (rest := []) (cn1 := 0) (sl1 := 0) rfl (mAdvance (hI)) rfl h82_31 rfl rfl rfl rfl rfl rfl (fun w47 hq48 => ?_)
        obtain ⟨hI49, hF50, hx51⟩ := hq48
        clear hb2 hb4 hb6 hb8 hb10 hb12 hb14 hb18 hb20 hb24 hb26 hb28 hb30
        obtain ⟨hv52, hv53, hv54, hv55⟩ := hx51
        have hf56 := FA_fr hF50 (by decide)
        have pk57 : PK w w47 := ⟨fun _ => by omega, hv52, hv55, (show fld w47 82 10 = 0 ∨ FA w47 ≠ 0 by omega), K83.fr hF50 (by decide)⟩
        have pk58 : PK w w47 := PK.tr (PK.rf hps) pk57
        have ro59 : ∀ l, l < fld w 82 14 → l < 16 → rwv w47 112 (20 * l) = rwv w 112 (20 * l) := fun l hl h6 => (rwv_fr hF50 (by decide)).trans ((fun l _ _ => rfl) l hl h6)
        have hq60 := pk58
        unfold PK PS at hq60
        have ms61 : mu w47 < mu w := Nat.lt_of_lt_of_le (hv53 (by omega)) (PK.rf hps).2.1
        refine xg_t (xg_iload (va := (0, f82_15)) rfl rfl) ?_
        refine xg_t (xg_bip) ?_
        by_cases hc62 : f82_15 = 40
        · refine xg_t (xg_icF (u := f82_15) (v := 40) rfl xnm0 xnm0 (xj_neF hc62)) ?_
          refine xg_t (xg_const) ?_
          refine xg_t (xg_goto) ?_
          refine xg_t (xg_blq rfl) ?_
          refine xg_t (xg_istore (l1 := [(2, (0, f82_15)), (0, (2, 82)), (1, (0, kr))]) rfl rfl rfl) ?_
          refine xg_t (xg_aload (va := (2, 82)) rfl rfl) ?_
          refine xg_t (xg_bip) ?_
          refine xoCh82 (xqc82 hI49 : cp82 (wget w47 82)) (fun f82_63 f82_65 f82_67 f82_69 f82_71 f82_73 f82_75 f82_77 f82_79 f82_81 f82_83 f82_84 f82_85 f82_87 f82_89 f82_91 h82_93 hb64 hb66 hb68 hb70 hb72 hb74 hb76 hb78 hb80 hb82 hb86 hb88 hb90 hb92 hb94 => ?_)
          refine xg_cVv mX12_must (vs := [(0, 59)]) (rest := []) (cn1 := 0) (sl1 := 0) rfl (mMust (hI49) (by omega) pk58.2.2.2.1) rfl h82_93 rfl rfl rfl rfl rfl rfl (fun w95 hq96 => ?_)
          obtain ⟨hI97, hF98, hx99⟩ := hq96
          clear hb64 hb66 hb68 hb70 hb72 hb74 hb76 hb78 hb80 hb82 hb86 hb88 hb90 hb92
          have pk100 : PK w w95 := PK.tr pk58 hx99
          have ro101 : ∀ l, l < fld w 82 14 → l < 16 → rwv w95 112 (20 * l) = rwv w 112 (20 * l) := fun l hl h6 => (rwv_fr hF98 (by decide)).trans (ro59 l hl h6)
          have hq102 := pk100
          unfold PK PS at hq102
          clear hq60
          have ms103 : mu w95 < mu w := Nat.lt_of_le_of_lt hx99.2.1 ms61
          refine xg_t (xg_aload (va := (2, 82)) rfl rfl) ?_
          refine xg_t (xg_const) ?_
          refine xg_t (xg_iload (va := (0, kr)) rfl rfl) ?_
          have hl104 : fld w95 82 14 = fld w 82 14 := pk100.2.2.1
          have hl105 : fld w95 82 14 ≤ 2000 := by omega
          refine xoCh82 (xqc82 hI97 : cp82 (wget w95 82)) (fun f82_106 f82_108 f82_110 f82_112 f82_114 f82_116 f82_118 f82_120 f82_122 f82_124 f82_126 f82_127 f82_128 f82_130 f82_132 f82_134 h82_136 hb107 hb109 hb111 hb113 hb115 hb117 hb119 hb121 hb123 hb125 hb129 hb131 hb133 hb135 hb137 => ?_)
          refine xg_cVv mX12_rulePuts (vs := [(0, 0), (0, kr)]) (rest := []) (cn1 := 0) (sl1 := 0) rfl (mRulePuts (hI97) (by omega) (by omega) (by omega)) rfl h82_136 rfl rfl rfl rfl rfl rfl (fun w138 hq139 => ?_)
          obtain ⟨hI140, hF141, hx142⟩ := hq139
          have hx143 := hx142
          have pk144 : PK w w138 := PK.tr pk100 (PK.fr hF141 (by decide) (by decide) pk100.2.2.2.1)
          have ro145 : ∀ l, l < fld w 82 14 → l < 16 → rwv w138 112 (20 * l) = rwv w 112 (20 * l) := fun l hl h6 => ((hx143 _ (by omega)).2 (by omega)).trans (ro101 l hl h6)
          have hq146 := pk144
          unfold PK PS at hq146
          clear hq102
          have ms147 : mu w138 < mu w := Nat.lt_of_le_of_lt (PK.fr hF141 (by decide) (by decide) pk100.2.2.2.1).2.1 ms103
          have rz148 : fld w 82 14 < 16 → rwv w138 112 (20 * fld w 82 14) = kr := fun h6 => (hx143 _ (by omega)).1 ⟨by omega, by omega⟩
          refine xg_t (xg_aload (va := (2, 82)) rfl rfl) ?_
          refine xg_t (xg_bip) ?_
          refine xg_t (xg_iload (va := (0, f82_15)) rfl rfl) ?_
          have hl149 : fld w138 82 14 = fld w 82 14 := pk144.2.2.1
          have hl150 : fld w138 82 14 ≤ 2000 := by omega
          refine xg_cVv mX12_rulePuts (vs := [(0, 17), (0, f82_15)]) (rest := []) (cn1 := 0) (sl1 := 0) rfl (mRulePuts (hI140) (by omega) (by omega) (by omega)) rfl (hF141.get (by decide) h82_136) rfl rfl rfl rfl rfl rfl (fun w151 hq152 => ?_)
          obtain ⟨hI153, hF154, hx155⟩ := hq152
          have hx156 := hx155
          have pk157 : PK w w151 := PK.tr pk144 (PK.fr hF154 (by decide) (by decide) pk144.2.2.2.1)
          have ro158 : ∀ l, l < fld w 82 14 → l < 16 → rwv w151 112 (20 * l) = rwv w 112 (20 * l) := fun l hl h6 => ((hx156 _ (by omega)).2 (by omega)).trans (ro145 l hl h6)
          have hq159 := pk157
          unfold PK PS at hq159
          clear hq146
          have ms160 : mu w151 < mu w := Nat.lt_of_le_of_lt (PK.fr hF154 (by decide) (by decide) pk144.2.2.2.1).2.1 ms147
          have rz161 : fld w 82 14 < 16 → rwv w151 112 (20 * fld w 82 14) = kr := fun h6 => ((hx156 _ (by omega)).2 (by omega)).trans (rz148 h6)
          refine xg_t (xg_aload (va := (2, 82)) rfl rfl) ?_
          refine xg_t (xg_bip) ?_
          refine xg_t (xg_iload (va := (0, 0)) rfl rfl) ?_
          have hl162 : fld w151 82 14 = fld w 82 14 := pk157.2.2.1
          have hl163 : fld w151 82 14 ≤ 2000 := by omega
          refine xg_cVv mX12_rulePuts (vs := [(0, 18), (0, 0)]) (rest := []) (cn1 := 0) (sl1 := 0) rfl (mRulePuts (hI153) (by omega) (by omega) (by omega)) rfl (hF154.get (by decide) (hF141.get (by decide) h82_136)) rfl rfl rfl rfl rfl rfl (fun w164 hq165 => ?_)
          obtain ⟨hI166, hF167, hx168⟩ := hq165
          have hx169 := hx168
          have pk170 : PK w w164 := PK.tr pk157 (PK.fr hF167 (by decide) (by decide) pk157.2.2.2.1)
          have ro171 : ∀ l, l < fld w 82 14 → l < 16 → rwv w164 112 (20 * l) = rwv w 112 (20 * l) := fun l hl h6 => ((hx169 _ (by omega)).2 (by omega)).trans (ro158 l hl h6)
          have hq172 := pk170
          unfold PK PS at hq172
          clear hq159
          have ms173 : mu w164 < mu w := Nat.lt_of_le_of_lt (PK.fr hF167 (by decide) (by decide) pk157.2.2.2.1).2.1 ms160
          have rz174 : fld w 82 14 < 16 → rwv w164 112 (20 * fld w 82 14) = kr := fun h6 => ((hx169 _ (by omega)).2 (by omega)).trans (rz161 h6)
          have hf175 : fld w164 82 10 = f82_122 := fld_of (hF167.get (by decide) (hF154.get (by decide) (hF141.get (by decide) h82_136)))
          have hf176 : fld w164 82 14 = f82_124 := fld_of (hF167.get (by decide) (hF154.get (by decide) (hF141.get (by decide) h82_136)))
          have hl177 : f82_124 ≤ 1001 := by omega
          refine xg_t (xg_aload (va := (2, 82)) rfl rfl) ?_
          refine xg_t (xg_dup rfl) ?_
          refine xg_t (xg_getf (va := (0, f82_124)) (hF167.get (by decide) (hF154.get (by decide) (hF141.get (by decide) h82_136))) rfl) ?_
          have hn178 := id hb125
          unfold xHid at hn178
          refine xg_t (xg_const) ?_
          refine xg_t (xg_iadd (u := f82_124) (v := 1) (z := f82_124 + 1) xnm0 xnm0 (by omega)) ?_
          refine xg_putI (fl1 := [(2, 83), (2, 84), (0, f82_106), (0, f82_108), (0, f82_110), (0, f82_112), (0, f82_114), (0, f82_116), (0, f82_118), (0, f82_120), (0, f82_122), (2, 85), (2, 86), (2, 87), (0, f82_124 + 1), (2, 88), (2, 89), (2, 90), (2, 91), (2, 92), (2, 93), (2, 94), (4, f82_126), (4, f82_127), (0, f82_128), (2, 95), (2, 96), (2, 97), (2, 98), (2, 99), (2, 100), (2, 101), (2, 102), (0, f82_130), (2, 103), (2, 104), (2, 105), (2, 106), (2, 107), (2, 108), (2, 109), (0, f82_132), (0, f82_134), (2, 110), (2, 111), (2, 112), (2, 113)]) (hF167.get (by decide) (hF154.get (by decide) (hF141.get (by decide) h82_136))) rfl rfl rfl (fun w179 hk180 hb181 => ?_)
          have hF182 : xFr [82] w164 w179 := xFr.of hb181 (by decide)
          have hA183 := FA_fr hF182 (by decide)
          have hf184 : fld w179 82 10 = f82_122 := fld_of hk180
          have hf185 : fld w179 82 14 = f82_124 + 1 := fld_of hk180
          have hu186 : mu w179 = mu w164 := mu_cg ((show fld w179 82 4 = f82_110 from fld_of hk180).trans (show fld w164 82 4 = f82_110 from fld_of (hF167.get (by decide) (hF154.get (by decide) (hF141.get (by decide) h82_136)))).symm) ((show fld w179 82 5 = f82_112 from fld_of hk180).trans (show fld w164 82 5 = f82_112 from fld_of (hF167.get (by decide) (hF154.get (by decide) (hF141.get (by decide) h82_136)))).symm) ((show fld w179 82 7 = f82_116 from fld_of hk180).trans (show fld w164 82 7 = f82_116 from fld_of (hF167.get (by decide) (hF154.get (by decide) (hF141.get (by decide) h82_136)))).symm)
          have hD187 : FA w179 ≠ 0 ∨ (RD w → RD w179) := by
            by_cases z : FA w179 ≠ 0
            · exact Or.inl z
            · refine Or.inr (fun hd => ⟨by omega, fun l hl => ?_⟩)
              rw [rwv_fr hF182 (by decide)]
              by_cases y : l = fld w 82 14
              · rw [y, rz174 (by omega)]; omega
              · rw [ro171 l (by omega) (by have := hd.1; omega)]; exact hd.2 l (by omega)
          exact xg_e ⟨w179, ⟨rfl, rfl⟩, xMnv.up (S := [82]) hI166 (xFr.of (S := [82]) hb181 (by decide)) (List.forall_mem_cons.mpr ⟨xqu82 (show cp82 (wget w179 82) from xmC82 f82_106 f82_108 f82_110 f82_112 f82_114 f82_116 f82_118 f82_120 f82_122 (f82_124 + 1) f82_126 f82_127 f82_128 f82_130 f82_132 f82_134 hk180 hb107 hb109 hb111 hb113 hb115 hb117 hb119 hb121 hb123 (by omega) hb129 hb131 hb133 hb135 (by omega)), fun _ h => absurd h List.not_mem_nil⟩), ((((((hF50.up (by decide)).tr (hF98.up (by decide))).tr (hF141.up (by decide))).tr (hF154.up (by decide))).tr (hF167.up (by decide))).tr (xFr.of (S := [82, 83, 112, 113]) hb181 (by decide))), ⟨fun h => by have := pk170.1 h; omega, (show fld w179 82 10 = 0 ∨ FA w179 ≠ 0 by omega), Or.inr ⟨by have := ms173; omega, by omega⟩, hD187, pk170.2.2.2.2.tr (K83.fr hF182 (by decide))⟩⟩
        · refine xg_t (xg_icT (u := f82_15) (v := 40) rfl xnm0 xnm0 (xj_neT hc62)) ?_
          refine xg_t (xg_blq rfl) ?_
          refine xg_t (xg_aload (va := (2, 82)) rfl rfl) ?_
          refine xoCh82 (xqc82 hI49 : cp82 (wget w47 82)) (fun f82_188 f82_190 f82_192 f82_194 f82_196 f82_198 f82_200 f82_202 f82_204 f82_206 f82_208 f82_209 f82_210 f82_212 f82_214 f82_216 h82_218 hb189 hb191 hb193 hb195 hb197 hb199 hb201 hb203 hb205 hb207 hb211 hb213 hb215 hb217 hb219 => ?_)
          refine xg_cVi mX12_numberNow (vs := []) (rest := []) (cn1 := 0) (sl1 := 0) rfl (mNumberNow (hI49) pk58.2.2.2.1) rfl h82_218 rfl rfl rfl rfl rfl rfl (fun n224 w220 hq221 => ?_)
          obtain ⟨hn225, hI222, hF223⟩ := hq221
          clear hb189 hb191 hb193 hb195 hb197 hb199 hb201 hb203 hb205 hb207 hb211 hb213 hb215 hb217
          obtain ⟨hn226, hn227⟩ := hn225
          have pk228 : PK w w220 := PK.tr pk58 hn227
          have ro229 : ∀ l, l < fld w 82 14 → l < 16 → rwv w220 112 (20 * l) = rwv w 112 (20 * l) := fun l hl h6 => (rwv_fr hF223 (by decide)).trans (ro59 l hl h6)
          have hq230 := pk228
          unfold PK PS at hq230
          clear hq60
          have ms231 : mu w220 < mu w := Nat.lt_of_le_of_lt hn227.2.1 ms61
          refine xg_t (xg_blq rfl) ?_
          refine xg_t (xg_istore (l1 := [(2, (0, f82_15)), (0, (2, 82)), (1, (0, kr))]) rfl rfl rfl) ?_
          refine xg_t (xg_aload (va := (2, 82)) rfl rfl) ?_
          refine xg_t (xg_bip) ?_
          refine xoCh82 (xqc82 hI222 : cp82 (wget w220 82)) (fun f82_232 f82_234 f82_236 f82_238 f82_240 f82_242 f82_244 f82_246 f82_248 f82_250 f82_252 f82_253 f82_254 f82_256 f82_258 f82_260 h82_262 hb233 hb235 hb237 hb239 hb241 hb243 hb245 hb247 hb249 hb251 hb255 hb257 hb259 hb261 hb263 => ?_)
          refine xg_cVv mX12_must (vs := [(0, 59)]) (rest := []) (cn1 := 0) (sl1 := 0) rfl (mMust (hI222) (by omega) pk228.2.2.2.1) rfl h82_262 rfl rfl rfl rfl rfl rfl (fun w264 hq265 => ?_)
          obtain ⟨hI266, hF267, hx268⟩ := hq265
          clear hb233 hb235 hb237 hb239 hb241 hb243 hb245 hb247 hb249 hb251 hb255 hb257 hb259 hb261
          have pk269 : PK w w264 := PK.tr pk228 hx268
          have ro270 : ∀ l, l < fld w 82 14 → l < 16 → rwv w264 112 (20 * l) = rwv w 112 (20 * l) := fun l hl h6 => (rwv_fr hF267 (by decide)).trans (ro229 l hl h6)
          have hq271 := pk269
          unfold PK PS at hq271
          clear hq230
          have ms272 : mu w264 < mu w := Nat.lt_of_le_of_lt hx268.2.1 ms231
          refine xg_t (xg_aload (va := (2, 82)) rfl rfl) ?_
          refine xg_t (xg_const) ?_
          refine xg_t (xg_iload (va := (0, kr)) rfl rfl) ?_
          have hl273 : fld w264 82 14 = fld w 82 14 := pk269.2.2.1
          have hl274 : fld w264 82 14 ≤ 2000 := by omega
          refine xoCh82 (xqc82 hI266 : cp82 (wget w264 82)) (fun f82_275 f82_277 f82_279 f82_281 f82_283 f82_285 f82_287 f82_289 f82_291 f82_293 f82_295 f82_296 f82_297 f82_299 f82_301 f82_303 h82_305 hb276 hb278 hb280 hb282 hb284 hb286 hb288 hb290 hb292 hb294 hb298 hb300 hb302 hb304 hb306 => ?_)
          refine xg_cVv mX12_rulePuts (vs := [(0, 0), (0, kr)]) (rest := []) (cn1 := 0) (sl1 := 0) rfl (mRulePuts (hI266) (by omega) (by omega) (by omega)) rfl h82_305 rfl rfl rfl rfl rfl rfl (fun w307 hq308 => ?_)
          obtain ⟨hI309, hF310, hx311⟩ := hq308
          have hx312 := hx311
          have pk313 : PK w w307 := PK.tr pk269 (PK.fr hF310 (by decide) (by decide) pk269.2.2.2.1)
          have ro314 : ∀ l, l < fld w 82 14 → l < 16 → rwv w307 112 (20 * l) = rwv w 112 (20 * l) := fun l hl h6 => ((hx312 _ (by omega)).2 (by omega)).trans (ro270 l hl h6)
          have hq315 := pk313
          unfold PK PS at hq315
          clear hq271
          have ms316 : mu w307 < mu w := Nat.lt_of_le_of_lt (PK.fr hF310 (by decide) (by decide) pk269.2.2.2.1).2.1 ms272
          have rz317 : fld w 82 14 < 16 → rwv w307 112 (20 * fld w 82 14) = kr := fun h6 => (hx312 _ (by omega)).1 ⟨by omega, by omega⟩
          refine xg_t (xg_aload (va := (2, 82)) rfl rfl) ?_
          refine xg_t (xg_bip) ?_
          refine xg_t (xg_iload (va := (0, f82_15)) rfl rfl) ?_
          have hl318 : fld w307 82 14 = fld w 82 14 := pk313.2.2.1
          have hl319 : fld w307 82 14 ≤ 2000 := by omega
          refine xg_cVv mX12_rulePuts (vs := [(0, 17), (0, f82_15)]) (rest := []) (cn1 := 0) (sl1 := 0) rfl (mRulePuts (hI309) (by omega) (by omega) (by omega)) rfl (hF310.get (by decide) h82_305) rfl rfl rfl rfl rfl rfl (fun w320 hq321 => ?_)
          obtain ⟨hI322, hF323, hx324⟩ := hq321
          have hx325 := hx324
          have pk326 : PK w w320 := PK.tr pk313 (PK.fr hF323 (by decide) (by decide) pk313.2.2.2.1)
          have ro327 : ∀ l, l < fld w 82 14 → l < 16 → rwv w320 112 (20 * l) = rwv w 112 (20 * l) := fun l hl h6 => ((hx325 _ (by omega)).2 (by omega)).trans (ro314 l hl h6)
          have hq328 := pk326
          unfold PK PS at hq328
          clear hq315
          have ms329 : mu w320 < mu w := Nat.lt_of_le_of_lt (PK.fr hF323 (by decide) (by decide) pk313.2.2.2.1).2.1 ms316
          have rz330 : fld w 82 14 < 16 → rwv w320 112 (20 * fld w 82 14) = kr := fun h6 => ((hx325 _ (by omega)).2 (by omega)).trans (rz317 h6)
          refine xg_t (xg_aload (va := (2, 82)) rfl rfl) ?_
          refine xg_t (xg_bip) ?_
          refine xg_t (xg_iload (va := (0, n224)) rfl rfl) ?_
          have hl331 : fld w320 82 14 = fld w 82 14 := pk326.2.2.1
          have hl332 : fld w320 82 14 ≤ 2000 := by omega
          refine xg_cVv mX12_rulePuts (vs := [(0, 18), (0, n224)]) (rest := []) (cn1 := 0) (sl1 := 0) rfl (mRulePuts (hI322) (by omega) (by omega) (by omega)) rfl (hF323.get (by decide) (hF310.get (by decide) h82_305)) rfl rfl rfl rfl rfl rfl (fun w333 hq334 => ?_)
          obtain ⟨hI335, hF336, hx337⟩ := hq334
          have hx338 := hx337
          have pk339 : PK w w333 := PK.tr pk326 (PK.fr hF336 (by decide) (by decide) pk326.2.2.2.1)
          have ro340 : ∀ l, l < fld w 82 14 → l < 16 → rwv w333 112 (20 * l) = rwv w 112 (20 * l) := fun l hl h6 => ((hx338 _ (by omega)).2 (by omega)).trans (ro327 l hl h6)
          have hq341 := pk339
          unfold PK PS at hq341
          clear hq328
          have ms342 : mu w333 < mu w := Nat.lt_of_le_of_lt (PK.fr hF336 (by decide) (by decide) pk326.2.2.2.1).2.1 ms329
          have rz343 : fld w 82 14 < 16 → rwv w333 112 (20 * fld w 82 14) = kr := fun h6 => ((hx338 _ (by omega)).2 (by omega)).trans (rz330 h6)
          have hf344 : fld w333 82 10 = f82_291 := fld_of (hF336.get (by decide) (hF323.get (by decide) (hF310.get (by decide) h82_305)))
          have hf345 : fld w333 82 14 = f82_293 := fld_of (hF336.get (by decide) (hF323.get (by decide) (hF310.get (by decide) h82_305)))
          have hl346 : f82_293 ≤ 1001 := by omega
          refine xg_t (xg_aload (va := (2, 82)) rfl rfl) ?_
          refine xg_t (xg_dup rfl) ?_
          refine xg_t (xg_getf (va := (0, f82_293)) (hF336.get (by decide) (hF323.get (by decide) (hF310.get (by decide) h82_305))) rfl) ?_
          have hn347 := id hb294
          unfold xHid at hn347
          refine xg_t (xg_const) ?_
          refine xg_t (xg_iadd (u := f82_293) (v := 1) (z := f82_293 + 1) xnm0 xnm0 (by omega)) ?_
          refine xg_putI (fl1 := [(2, 83), (2, 84), (0, f82_275), (0, f82_277), (0, f82_279), (0, f82_281), (0, f82_283), (0, f82_285), (0, f82_287), (0, f82_289), (0, f82_291), (2, 85), (2, 86), (2, 87), (0, f82_293 + 1), (2, 88), (2, 89), (2, 90), (2, 91), (2, 92), (2, 93), (2, 94), (4, f82_295), (4, f82_296), (0, f82_297), (2, 95), (2, 96), (2, 97), (2, 98), (2, 99), (2, 100), (2, 101), (2, 102), (0, f82_299), (2, 103), (2, 104), (2, 105), (2, 106), (2, 107), (2, 108), (2, 109), (0, f82_301), (0, f82_303), (2, 110), (2, 111), (2, 112), (2, 113)]) (hF336.get (by decide) (hF323.get (by decide) (hF310.get (by decide) h82_305))) rfl rfl rfl (fun w348 hk349 hb350 => ?_)
          have hF351 : xFr [82] w333 w348 := xFr.of hb350 (by decide)
          have hA352 := FA_fr hF351 (by decide)
          have hf353 : fld w348 82 10 = f82_291 := fld_of hk349
          have hf354 : fld w348 82 14 = f82_293 + 1 := fld_of hk349
          have hu355 : mu w348 = mu w333 := mu_cg ((show fld w348 82 4 = f82_279 from fld_of hk349).trans (show fld w333 82 4 = f82_279 from fld_of (hF336.get (by decide) (hF323.get (by decide) (hF310.get (by decide) h82_305)))).symm) ((show fld w348 82 5 = f82_281 from fld_of hk349).trans (show fld w333 82 5 = f82_281 from fld_of (hF336.get (by decide) (hF323.get (by decide) (hF310.get (by decide) h82_305)))).symm) ((show fld w348 82 7 = f82_285 from fld_of hk349).trans (show fld w333 82 7 = f82_285 from fld_of (hF336.get (by decide) (hF323.get (by decide) (hF310.get (by decide) h82_305)))).symm)
          have hD356 : FA w348 ≠ 0 ∨ (RD w → RD w348) := by
            by_cases z : FA w348 ≠ 0
            · exact Or.inl z
            · refine Or.inr (fun hd => ⟨by omega, fun l hl => ?_⟩)
              rw [rwv_fr hF351 (by decide)]
              by_cases y : l = fld w 82 14
              · rw [y, rz343 (by omega)]; omega
              · rw [ro340 l (by omega) (by have := hd.1; omega)]; exact hd.2 l (by omega)
          exact xg_e ⟨w348, ⟨rfl, rfl⟩, xMnv.up (S := [82]) hI335 (xFr.of (S := [82]) hb350 (by decide)) (List.forall_mem_cons.mpr ⟨xqu82 (show cp82 (wget w348 82) from xmC82 f82_275 f82_277 f82_279 f82_281 f82_283 f82_285 f82_287 f82_289 f82_291 (f82_293 + 1) f82_295 f82_296 f82_297 f82_299 f82_301 f82_303 hk349 hb276 hb278 hb280 hb282 hb284 hb286 hb288 hb290 hb292 (by omega) hb298 hb300 hb302 hb304 (by omega)), fun _ h => absurd h List.not_mem_nil⟩), (((((((hF50.up (by decide)).tr (hF223.up (by decide))).tr (hF267.up (by decide))).tr (hF310.up (by decide))).tr (hF323.up (by decide))).tr (hF336.up (by decide))).tr (xFr.of (S := [82, 83, 112, 113]) hb350 (by decide))), ⟨fun h => by have := pk339.1 h; omega, (show fld w348 82 10 = 0 ∨ FA w348 ≠ 0 by omega), Or.inr ⟨by have := ms342; omega, by omega⟩, hD356, pk339.2.2.2.2.tr (K83.fr hF351 (by decide))⟩⟩
      · refine xg_t (xg_ifF (u := (if 40 ≤ f82_15 ∧ f82_15 ≤ 42 then 1 else 0)) rfl xnm0 (xj_neF (xite0 hc45))) ?_
        refine xg_t (xg_blq rfl) ?_
        refine xg_t (xg_aload (va := (2, 82)) rfl rfl) ?_
        refine xg_cVv mX12_ends (vs := []) (rest := []) (cn1 := 0) (sl1 := 0) rfl (mEnds (hI) (PK.rf hps).2.2.2.1) rfl h82_31 rfl rfl rfl rfl rfl rfl (fun w357 hq358 => ?_)
        obtain ⟨hI359, hF360, hx361⟩ := hq358
        clear hb2 hb4 hb6 hb8 hb10 hb12 hb14 hb16 hb18 hb20 hb24 hb26 hb28 hb30
        obtain ⟨hv362, hv363, hv364, hv365, hv366⟩ := hx361
        have pk367 : PK w w357 := ⟨fun _ => hv362, by omega, by omega, Or.inr hv362, hv366⟩
        have pk368 : PK w w357 := PK.tr (PK.rf hps) pk367
        have ro369 : ∀ l, l < fld w 82 14 → l < 16 → rwv w357 112 (20 * l) = rwv w 112 (20 * l) := fun l hl h6 => (rwv_fr hF360 (by decide)).trans ((fun l _ _ => rfl) l hl h6)
        have hq370 := pk368
        unfold PK PS at hq370
        refine xoCh82 (xqc82 hI359 : cp82 (wget w357 82)) (fun f82_371 f82_373 f82_375 f82_377 f82_379 f82_381 f82_383 f82_385 f82_387 f82_389 f82_391 f82_392 f82_393 f82_395 f82_397 f82_399 h82_401 hb372 hb374 hb376 hb378 hb380 hb382 hb384 hb386 hb388 hb390 hb394 hb396 hb398 hb400 hb402 => ?_)
        exact xg_e ⟨w357, ⟨rfl, rfl⟩, hI359, (hF360.up (by decide)), ⟨pk368.1, pk368.2.2.2.1, Or.inl ⟨by omega, pk368.2.1, pk368.2.2.1⟩, Or.inl (by omega), pk368.2.2.2.2⟩⟩
    · refine xg_t (xg_icT (u := f82_11) (v := 3) rfl xnm0 xnm0 (xj_neT hc43)) ?_
      refine xg_t (xg_blq rfl) ?_
      refine xg_t (xg_aload (va := (2, 82)) rfl rfl) ?_
      refine xg_cVv mX12_ends (vs := []) (rest := []) (cn1 := 0) (sl1 := 0) rfl (mEnds (hI) (PK.rf hps).2.2.2.1) rfl h82_31 rfl rfl rfl rfl rfl rfl (fun w403 hq404 => ?_)
      obtain ⟨hI405, hF406, hx407⟩ := hq404
      clear hb2 hb4 hb6 hb8 hb10 hb12 hb14 hb16 hb18 hb20 hb24 hb26 hb28 hb30
      obtain ⟨hv408, hv409, hv410, hv411, hv412⟩ := hx407
      have pk413 : PK w w403 := ⟨fun _ => hv408, by omega, by omega, Or.inr hv408, hv412⟩
      have pk414 : PK w w403 := PK.tr (PK.rf hps) pk413
      have ro415 : ∀ l, l < fld w 82 14 → l < 16 → rwv w403 112 (20 * l) = rwv w 112 (20 * l) := fun l hl h6 => (rwv_fr hF406 (by decide)).trans ((fun l _ _ => rfl) l hl h6)
      have hq416 := pk414
      unfold PK PS at hq416
      refine xoCh82 (xqc82 hI405 : cp82 (wget w403 82)) (fun f82_417 f82_419 f82_421 f82_423 f82_425 f82_427 f82_429 f82_431 f82_433 f82_435 f82_437 f82_438 f82_439 f82_441 f82_443 f82_445 h82_447 hb418 hb420 hb422 hb424 hb426 hb428 hb430 hb432 hb434 hb436 hb440 hb442 hb444 hb446 hb448 => ?_)
      exact xg_e ⟨w403, ⟨rfl, rfl⟩, hI405, (hF406.up (by decide)), ⟨pk414.1, pk414.2.2.2.1, Or.inl ⟨by omega, pk414.2.1, pk414.2.2.1⟩, Or.inl (by omega), pk414.2.2.2.2⟩⟩
  · refine xg_t (xg_ifT (u := f82_17) rfl xnm0 (xj_neT hc42)) ?_
    refine xg_t (xg_blq rfl) ?_
    refine xg_t (xg_aload (va := (2, 82)) rfl rfl) ?_
    refine xg_cVv mX12_ends (vs := []) (rest := []) (cn1 := 0) (sl1 := 0) rfl (mEnds (hI) (PK.rf hps).2.2.2.1) rfl h82_31 rfl rfl rfl rfl rfl rfl (fun w449 hq450 => ?_)
    obtain ⟨hI451, hF452, hx453⟩ := hq450
    clear hb2 hb4 hb6 hb8 hb10 hb12 hb14 hb16 hb18 hb20 hb24 hb26 hb28 hb30
    obtain ⟨hv454, hv455, hv456, hv457, hv458⟩ := hx453
    have pk459 : PK w w449 := ⟨fun _ => hv454, by omega, by omega, Or.inr hv454, hv458⟩
    have pk460 : PK w w449 := PK.tr (PK.rf hps) pk459
    have ro461 : ∀ l, l < fld w 82 14 → l < 16 → rwv w449 112 (20 * l) = rwv w 112 (20 * l) := fun l hl h6 => (rwv_fr hF452 (by decide)).trans ((fun l _ _ => rfl) l hl h6)
    have hq462 := pk460
    unfold PK PS at hq462
    refine xoCh82 (xqc82 hI451 : cp82 (wget w449 82)) (fun f82_463 f82_465 f82_467 f82_469 f82_471 f82_473 f82_475 f82_477 f82_479 f82_481 f82_483 f82_484 f82_485 f82_487 f82_489 f82_491 h82_493 hb464 hb466 hb468 hb470 hb472 hb474 hb476 hb478 hb480 hb482 hb486 hb488 hb490 hb492 hb494 => ?_)
    exact xg_e ⟨w449, ⟨rfl, rfl⟩, hI451, (hF452.up (by decide)), ⟨pk460.1, pk460.2.2.2.1, Or.inl ⟨by omega, pk460.2.1, pk460.2.2.1⟩, Or.inl (by omega), pk460.2.2.2.2⟩⟩
set_option maxHeartbeats 60000000 in
theorem mARule (hI : xMnv w) (hps : PS w) (hln : fld w 82 14 ≤ 1000) (hmu : mu w ≤ 1001) : xPq (d + 7) mX12_aRule [(2, 82)] w bd fc rr [] (fun w' => xMnv w' ∧ xFr [82, 83, 112, 113] w w' ∧ ((FA w ≠ 0 → FA w' ≠ 0) ∧ PS w' ∧ ((fld w' 82 10 = 1 ∧ mu w' ≤ mu w ∧ fld w' 82 14 = fld w 82 14) ∨ (mu w' < mu w ∧ fld w' 82 14 = fld w 82 14 + 1)) ∧ (FA w' ≠ 0 ∨ (RD w → RD w')) ∧ K83 w w')) := by
  refine xPq.of ?_
  show xTo (d + 7) mX12_aRule (0, [], [(0, (2, 82))], [], (w, bd, fc, 0, 0, rr)) (fun φ => ∃ w', xEnd 0 [] (w', bd, fc, 0, 0, rr) φ ∧ xMnv w' ∧ xFr [82, 83, 112, 113] w w' ∧ ((FA w ≠ 0 → FA w' ≠ 0) ∧ PS w' ∧ ((fld w' 82 10 = 1 ∧ mu w' ≤ mu w ∧ fld w' 82 14 = fld w 82 14) ∨ (mu w' < mu w ∧ fld w' 82 14 = fld w 82 14 + 1)) ∧ (FA w' ≠ 0 ∨ (RD w → RD w')) ∧ K83 w w'))
  refine xoCh82 (xqc82 hI : cp82 (wget w 82)) (fun f82_1 f82_3 f82_5 f82_7 f82_9 f82_11 f82_13 f82_15 f82_17 f82_19 f82_21 f82_22 f82_23 f82_25 f82_27 f82_29 h82_31 hb2 hb4 hb6 hb8 hb10 hb12 hb14 hb16 hb18 hb20 hb24 hb26 hb28 hb30 hb32 => ?_)
  have hf33 : fld w 82 4 = f82_5 := fld_of h82_31
  have hf34 : fld w 82 5 = f82_7 := fld_of h82_31
  have hf35 : fld w 82 7 = f82_11 := fld_of h82_31
  have hf36 : fld w 82 10 = f82_17 := fld_of h82_31
  have hf37 : fld w 82 14 = f82_19 := fld_of h82_31
  have hps_ : fld w 82 10 = 0 ∨ FA w ≠ 0 := hps
  refine xoI (xqc113 hI : cpI 4 80 4294967295 (wget w 113)) (fun g113_38 h113_39 hb40 => ?_)
  have hl41 : f82_19 ≤ 1000 := by omega
  refine xg_t (xg_blq rfl) ?_
  refine xg_t (xg_aload (va := (2, 82)) rfl rfl) ?_
  refine xg_t (xg_getf (va := (0, f82_19)) h82_31 rfl) ?_
  have hn42 := id hb20
  unfold xHid at hn42
  refine xg_t (xg_bip) ?_
  by_cases hc43 : f82_19 < 16
  · refine xg_t (xg_icT (u := f82_19) (v := 16) rfl xnm0 xnm0 (xj_ltT hc43 (by omega))) ?_
    refine xg_t (xg_blq rfl) ?_
    refine xg_t (xg_const) ?_
    refine xg_t (xg_istore (l1 := [(0, (2, 82))]) rfl rfl rfl) ?_
    refine xg_t (xg_aload (va := (2, 82)) rfl rfl) ?_
    refine xg_t (xg_bip) ?_
    refine xg_cVi mX12_takes (vs := [(0, 50)]) (rest := []) (cn1 := 0) (sl1 := 0) rfl (mTakes (hI) (by omega) (PK.rf hps).2.2.2.1) rfl h82_31 rfl rfl rfl rfl rfl rfl (fun n48 w44 hq45 => ?_)
    obtain ⟨hn49, hI46, hF47⟩ := hq45
    clear hb2 hb4 hb6 hb8 hb10 hb12 hb14 hb16 hb18 hb20 hb24 hb26 hb28 hb30
    obtain ⟨hn50, hn51, hn52⟩ := hn49
    have pk53 : PK w w44 := PK.tr (PK.rf hps) hn51
    have ro54 : ∀ l, l < fld w 82 14 → l < 16 → rwv w44 112 (20 * l) = rwv w 112 (20 * l) := fun l hl h6 => (rwv_fr hF47 (by decide)).trans ((fun l _ _ => rfl) l hl h6)
    have hq55 := pk53
    unfold PK PS at hq55
    by_cases hc56 : n48 = 0
    · refine xg_t (xg_ifT (u := n48) rfl xnm0 (xj_eqT hc56)) ?_
      refine xg_t (xg_drop (l1 := [(0, (2, 82)), (1, (0, 0))]) (List.forall_mem_cons.mpr ⟨List.mem_cons_of_mem _ (List.mem_cons_self), List.forall_mem_cons.mpr ⟨List.mem_cons_self, fun _ h => absurd h List.not_mem_nil⟩⟩)) ?_
      refine (mARuleT (hI46) pk53.2.2.2.1 (by omega) (by omega) (by omega) (fun _ => by omega)).imp (fun φ h => ?_)
      obtain ⟨w', e1, e2, e3, e4, e5, e6, e7, e8⟩ := h
      refine ⟨w', e1, e2, ((hF47.up (by decide))).tr (e3.up (by decide)), fun z => e4 (pk53.1 z), e5, ?_, ?_, pk53.2.2.2.2.tr e8⟩
      · have q1 := pk53.2.1
        have q2 := pk53.2.2.1
        rcases e6 with ⟨c1, c2, c3⟩ | ⟨c1, c2⟩
        · exact Or.inl ⟨c1, by omega, by omega⟩
        · exact Or.inr ⟨by omega, by omega⟩
      · rcases e7 with r | r
        · exact Or.inl r
        · refine Or.inr (fun hd => r ⟨by rw [pk53.2.2.1]; exact hd.1, fun l hl => ?_⟩)
          have q2 := pk53.2.2.1
          rw [ro54 l (by omega) (by have := hd.1; omega)]
          exact hd.2 l (by omega)
    · have ms57 : mu w44 < mu w := Nat.lt_of_lt_of_le (hn52 (by omega)) (PK.rf hps).2.1
      refine xg_t (xg_ifF (u := n48) rfl xnm0 (xj_eqF hc56)) ?_
      refine xg_t (xg_const) ?_
      refine xg_t (xg_istore (l1 := [(1, (0, 0)), (0, (2, 82))]) rfl rfl rfl) ?_
      refine xg_t (xg_drop (l1 := [(0, (2, 82)), (1, (0, 0)), (2, (0, 1))]) (List.forall_mem_cons.mpr ⟨List.mem_cons_of_mem _ (List.mem_cons_of_mem _ (List.mem_cons_self)), List.forall_mem_cons.mpr ⟨List.mem_cons_of_mem _ (List.mem_cons_self), List.forall_mem_cons.mpr ⟨List.mem_cons_self, fun _ h => absurd h List.not_mem_nil⟩⟩⟩)) ?_
      have key58 : ∀ (m60 : Nat) (kr mo : Nat) (w61 : List (List xE)), 2 * mu w61 + mo < m60 → kr ≤ 1002 → mo ≤ 1 → xMnv w61 → xFr [82, 83, 112, 113] w w61 → (PK w w61 ∧ (∀ l, l < fld w 82 14 → l < 16 → rwv w61 112 (20 * l) = rwv w 112 (20 * l)) ∧ mu w61 < mu w ∧ (FA w61 ≠ 0 ∨ kr ≤ 4) ∧ kr + mu w61 ≤ 1002 ∧ (mo = 1 → kr + mu w61 ≤ 1001) ∧ (16 ≤ fld w 82 14 → FA w61 ≠ 0)) → xTo (d + 7) mX12_aRule (31, [], [(0, (2, 82)), (1, (0, kr)), (2, (0, mo))], [], (w61, bd, fc, 0, 0, rr)) (fun φ => ∃ w', xEnd 0 [] (w', bd, fc, 0, 0, rr) φ ∧ xMnv w' ∧ xFr [82, 83, 112, 113] w w' ∧ ((FA w ≠ 0 → FA w' ≠ 0) ∧ PS w' ∧ ((fld w' 82 10 = 1 ∧ mu w' ≤ mu w ∧ fld w' 82 14 = fld w 82 14) ∨ (mu w' < mu w ∧ fld w' 82 14 = fld w 82 14 + 1)) ∧ (FA w' ≠ 0 ∨ (RD w → RD w')) ∧ K83 w w')) := by
        intro m60
        induction m60 with
        | zero => intro kr mo w61 hz; exact absurd hz (Nat.not_lt_zero _)
        | succ m60 ih59 =>
          intro kr mo w61 hm67 hn64 hn65 hI62 hF63 he66
          obtain ⟨hz68, hz69, hz70, hz71, hz72, hz73, hz74⟩ := he66
          have hq75 := hz68
          unfold PK PS at hq75
          refine xoCh82 (xqc82 hI62 : cp82 (wget w61 82)) (fun f82_76 f82_78 f82_80 f82_82 f82_84 f82_86 f82_88 f82_90 f82_92 f82_94 f82_96 f82_97 f82_98 f82_100 f82_102 f82_104 h82_106 hb77 hb79 hb81 hb83 hb85 hb87 hb89 hb91 hb93 hb95 hb99 hb101 hb103 hb105 hb107 => ?_)
          refine xg_t (xg_blq rfl) ?_
          refine xg_t (xg_iload (va := (0, mo)) rfl rfl) ?_
          by_cases hc108 : mo = 0
          · refine xg_t (xg_ifT (u := mo) rfl xnm0 (xj_eqT hc108)) ?_
            refine xg_t (xg_blq rfl) ?_
            refine xg_t (xg_aload (va := (2, 82)) rfl rfl) ?_
            refine xg_t (xg_bip) ?_
            refine xg_cVv mX12_must (vs := [(0, 58)]) (rest := []) (cn1 := 0) (sl1 := 0) rfl (mMust (hI62) (by omega) hz68.2.2.2.1) rfl h82_106 rfl rfl rfl rfl rfl rfl (fun w109 hq110 => ?_)
            obtain ⟨hI111, hF112, hx113⟩ := hq110
            clear hb77 hb79 hb81 hb83 hb85 hb87 hb89 hb91 hb93 hb95 hb99 hb101 hb103 hb105
            have pk114 : PK w w109 := PK.tr hz68 hx113
            have ro115 : ∀ l, l < fld w 82 14 → l < 16 → rwv w109 112 (20 * l) = rwv w 112 (20 * l) := fun l hl h6 => (rwv_fr hF112 (by decide)).trans (hz69 l hl h6)
            have hq116 := pk114
            unfold PK PS at hq116
            clear hq75
            have pj117 : PK w61 w109 := PK.tr (PK.rf hz68.2.2.2.1) hx113
            have hq118 := pj117
            unfold PK PS at hq118
            have ms119 : mu w109 < mu w := Nat.lt_of_le_of_lt hx113.2.1 hz70
            refine xg_t (xg_drop (l1 := [(0, (2, 82)), (1, (0, kr))]) (List.forall_mem_cons.mpr ⟨List.mem_cons_self, List.forall_mem_cons.mpr ⟨List.mem_cons_of_mem _ (List.mem_cons_self), fun _ h => absurd h List.not_mem_nil⟩⟩)) ?_
            refine (mARuleT (hI111) pk114.2.2.2.1 (by omega) (by omega) (by omega) (fun _ => by omega)).imp (fun φ h => ?_)
            obtain ⟨w', e1, e2, e3, e4, e5, e6, e7, e8⟩ := h
            refine ⟨w', e1, e2, ((hF63.tr (hF112.up (by decide)))).tr (e3.up (by decide)), fun z => e4 (pk114.1 z), e5, ?_, ?_, pk114.2.2.2.2.tr e8⟩
            · have q1 := pk114.2.1
              have q2 := pk114.2.2.1
              rcases e6 with ⟨c1, c2, c3⟩ | ⟨c1, c2⟩
              · exact Or.inl ⟨c1, by omega, by omega⟩
              · exact Or.inr ⟨by omega, by omega⟩
            · rcases e7 with r | r
              · exact Or.inl r
              · refine Or.inr (fun hd => r ⟨by rw [pk114.2.2.1]; exact hd.1, fun l hl => ?_⟩)
                have q2 := pk114.2.2.1
                rw [ro115 l (by omega) (by have := hd.1; omega)]
                exact hd.2 l (by omega)
          · refine xg_t (xg_ifF (u := mo) rfl xnm0 (xj_eqF hc108)) ?_
            refine xg_t (xg_iload (va := (0, kr)) rfl rfl) ?_
            refine xg_t (xg_const) ?_
            by_cases hc120 : 3 < kr
            · refine xg_t (xg_icF (u := kr) (v := 3) rfl xnm0 xnm0 (xj_leF hc120 (by omega))) ?_
              refine xg_t (xg_aload (va := (2, 82)) rfl rfl) ?_
              refine xg_t (xg_const) ?_
              refine xg_t (xg_aload (va := (2, 82)) rfl rfl) ?_
              refine xg_t (xg_getf (va := (0, f82_84)) h82_106 rfl) ?_
              have hn121 : f82_84 ≤ 4294967295 := hb85
              refine xg_cVv mX12_also (vs := [(0, 3), (0, f82_84)]) (rest := []) (cn1 := 0) (sl1 := 0) rfl (mAlso (hI62) (by omega) (by omega) (by omega) hz68.2.2.2.1) rfl h82_106 rfl rfl rfl rfl rfl rfl (fun w122 hq123 => ?_)
              obtain ⟨hI124, hF125, hx126⟩ := hq123
              obtain ⟨hv128, hv129⟩ := hx126
              have pk127 : PK w61 w122 := ⟨fun _ => hv128, Nat.le_of_eq (mu_fr hF125 (by decide)), fld_fr hF125 (by decide), Or.inr hv128, hv129⟩
              have pk130 : PK w w122 := PK.tr hz68 pk127
              have ro131 : ∀ l, l < fld w 82 14 → l < 16 → rwv w122 112 (20 * l) = rwv w 112 (20 * l) := fun l hl h6 => (rwv_fr hF125 (by decide)).trans (hz69 l hl h6)
              have hq132 := pk130
              unfold PK PS at hq132
              clear hq75
              have pj133 : PK w61 w122 := PK.tr (PK.rf hz68.2.2.2.1) pk127
              have hq134 := pj133
              unfold PK PS at hq134
              have ms135 : mu w122 < mu w := Nat.lt_of_le_of_lt pk127.2.1 hz70
              have fa136 : FA w122 ≠ 0 := hv128
              refine xg_t (xg_blq rfl) ?_
              refine xg_t (xg_aload (va := (2, 82)) rfl rfl) ?_
              refine xg_cVv mX12_aTest (vs := []) (rest := []) (cn1 := 0) (sl1 := 0) rfl (mATest (hI124) pk130.2.2.2.1) rfl (hF125.get (by decide) h82_106) rfl rfl rfl rfl rfl rfl (fun w137 hq138 => ?_)
              obtain ⟨hI139, hF140, hx141⟩ := hq138
              clear hb77 hb79 hb81 hb83 hb85 hb87 hb89 hb91 hb93 hb95 hb99 hb101 hb103 hb105
              have pk142 : PK w w137 := PK.tr pk130 hx141
              have ro143 : ∀ l, l < fld w 82 14 → l < 16 → rwv w137 112 (20 * l) = rwv w 112 (20 * l) := fun l hl h6 => (rwv_fr hF140 (by decide)).trans (ro131 l hl h6)
              have hq144 := pk142
              unfold PK PS at hq144
              clear hq132
              have pj145 : PK w61 w137 := PK.tr pj133 hx141
              have hq146 := pj145
              unfold PK PS at hq146
              clear hq134
              have fa147 : FA w137 ≠ 0 := hx141.1 fa136
              have ms148 : mu w137 < mu w := Nat.lt_of_le_of_lt hx141.2.1 ms135
              refine xg_t (xg_const) ?_
              refine xg_t (xg_istore (l1 := [(0, (2, 82)), (1, (0, kr)), (2, (0, mo))]) rfl rfl rfl) ?_
              refine xg_t (xg_blq rfl) ?_
              refine xg_t (xg_iload (va := (0, 0)) rfl rfl) ?_
              refine xg_t (xg_const) ?_
              refine xg_t (xg_icF (u := 0) (v := 4) rfl xnm0 xnm0 (by decide)) ?_
              refine xg_t (xg_iload (va := (0, kr)) rfl rfl) ?_
              refine xg_t (xg_const) ?_
              refine xg_t (xg_icT (u := kr) (v := 4) rfl xnm0 xnm0 (xj_geT (by omega) (by omega))) ?_
              refine xg_t (xg_blq rfl) ?_
              refine xg_t (xg_iinc (u := kr) (z := kr + 1) (l1 := [(3, (0, 0)), (0, (2, 82)), (2, (0, mo))]) rfl rfl (by omega) rfl) ?_
              refine xg_t (xg_aload (va := (2, 82)) rfl rfl) ?_
              refine xg_t (xg_bip) ?_
              refine xoCh82 (xqc82 hI139 : cp82 (wget w137 82)) (fun f82_149 f82_151 f82_153 f82_155 f82_157 f82_159 f82_161 f82_163 f82_165 f82_167 f82_169 f82_170 f82_171 f82_173 f82_175 f82_177 h82_179 hb150 hb152 hb154 hb156 hb158 hb160 hb162 hb164 hb166 hb168 hb172 hb174 hb176 hb178 hb180 => ?_)
              refine xg_cVi mX12_takes (vs := [(0, 51)]) (rest := []) (cn1 := 0) (sl1 := 0) rfl (mTakes (hI139) (by omega) pk142.2.2.2.1) rfl h82_179 rfl rfl rfl rfl rfl rfl (fun n185 w181 hq182 => ?_)
              obtain ⟨hn186, hI183, hF184⟩ := hq182
              clear hb150 hb152 hb154 hb156 hb158 hb160 hb162 hb164 hb166 hb168 hb172 hb174 hb176 hb178
              obtain ⟨hn187, hn188, hn189⟩ := hn186
              have pk190 : PK w w181 := PK.tr pk142 hn188
              have ro191 : ∀ l, l < fld w 82 14 → l < 16 → rwv w181 112 (20 * l) = rwv w 112 (20 * l) := fun l hl h6 => (rwv_fr hF184 (by decide)).trans (ro143 l hl h6)
              have hq192 := pk190
              unfold PK PS at hq192
              clear hq144
              have pj193 : PK w61 w181 := PK.tr pj145 hn188
              have hq194 := pj193
              unfold PK PS at hq194
              clear hq146
              have fa195 : FA w181 ≠ 0 := hn188.1 fa147
              have ms196 : mu w181 < mu w := Nat.lt_of_le_of_lt hn188.2.1 ms148
              have hu197 : n185 = 1 → mu w181 < mu w61 := fun h => Nat.lt_of_lt_of_le (hn189 h) pj145.2.1
              refine xg_t (xg_istore (l1 := [(1, (0, kr + 1)), (3, (0, 0)), (0, (2, 82))]) rfl rfl rfl) ?_
              refine xg_t (xg_goto) ?_
              refine xg_t (xg_drop (l1 := [(0, (2, 82)), (1, (0, kr + 1)), (2, (0, n185))]) (List.forall_mem_cons.mpr ⟨List.mem_cons_of_mem _ (List.mem_cons_of_mem _ (List.mem_cons_of_mem _ (List.mem_cons_self))), List.forall_mem_cons.mpr ⟨List.mem_cons_of_mem _ (List.mem_cons_self), List.forall_mem_cons.mpr ⟨List.mem_cons_self, fun _ h => absurd h List.not_mem_nil⟩⟩⟩)) ?_
              exact ih59 (kr + 1) n185 w181 (by omega) (by omega) (by omega) (hI183) ((((hF63.tr (hF125.up (by decide))).tr (hF140.up (by decide))).tr (hF184.up (by decide)))) (⟨pk190, ro191, ms196, by omega, by omega, fun _ => by omega, fun h => by omega⟩)
            · refine xg_t (xg_icT (u := kr) (v := 3) rfl xnm0 xnm0 (xj_leT (by omega) (by omega))) ?_
              refine xg_t (xg_blq rfl) ?_
              refine xg_t (xg_aload (va := (2, 82)) rfl rfl) ?_
              refine xg_cVv mX12_aTest (vs := []) (rest := []) (cn1 := 0) (sl1 := 0) rfl (mATest (hI62) hz68.2.2.2.1) rfl h82_106 rfl rfl rfl rfl rfl rfl (fun w198 hq199 => ?_)
              obtain ⟨hI200, hF201, hx202⟩ := hq199
              clear hb77 hb79 hb81 hb83 hb85 hb87 hb89 hb91 hb93 hb95 hb99 hb101 hb103 hb105
              have pk203 : PK w w198 := PK.tr hz68 hx202
              have ro204 : ∀ l, l < fld w 82 14 → l < 16 → rwv w198 112 (20 * l) = rwv w 112 (20 * l) := fun l hl h6 => (rwv_fr hF201 (by decide)).trans (hz69 l hl h6)
              have hq205 := pk203
              unfold PK PS at hq205
              clear hq75
              have pj206 : PK w61 w198 := PK.tr (PK.rf hz68.2.2.2.1) hx202
              have hq207 := pj206
              unfold PK PS at hq207
              have ms208 : mu w198 < mu w := Nat.lt_of_le_of_lt hx202.2.1 hz70
              refine xg_t (xg_const) ?_
              refine xg_t (xg_istore (l1 := [(0, (2, 82)), (1, (0, kr)), (2, (0, mo))]) rfl rfl rfl) ?_
              refine xg_t (xg_blq rfl) ?_
              refine xg_t (xg_iload (va := (0, 0)) rfl rfl) ?_
              refine xg_t (xg_const) ?_
              refine xg_t (xg_icF (u := 0) (v := 4) rfl xnm0 xnm0 (by decide)) ?_
              refine xg_t (xg_iload (va := (0, kr)) rfl rfl) ?_
              refine xg_t (xg_const) ?_
              refine xg_t (xg_icF (u := kr) (v := 4) rfl xnm0 xnm0 (xj_geF (by omega) (by omega))) ?_
              refine xg_t (xg_aload (va := (2, 82)) rfl rfl) ?_
              refine xg_t (xg_const) ?_
              refine xg_t (xg_const) ?_
              refine xg_t (xg_iload (va := (0, kr)) rfl rfl) ?_
              refine xg_t (xg_imul (u := 4) (v := kr) (z := 4 * kr) xnm0 xnm0 (by omega)) ?_
              refine xg_t (xg_iadd (u := 1) (v := 4 * kr) (z := 1 + (4 * kr)) xnm0 xnm0 (by omega)) ?_
              refine xg_t (xg_iload (va := (0, 0)) rfl rfl) ?_
              refine xg_t (xg_iadd (u := 1 + (4 * kr)) (v := 0) (z := (1 + (4 * kr)) + 0) xnm0 xnm0 (by omega)) ?_
              refine xg_t (xg_aload (va := (2, 82)) rfl rfl) ?_
              refine xoCh82 (xqc82 hI200 : cp82 (wget w198 82)) (fun f82_209 f82_211 f82_213 f82_215 f82_217 f82_219 f82_221 f82_223 f82_225 f82_227 f82_229 f82_230 f82_231 f82_233 f82_235 f82_237 h82_239 hb210 hb212 hb214 hb216 hb218 hb220 hb222 hb224 hb226 hb228 hb232 hb234 hb236 hb238 hb240 => ?_)
              refine xg_t (xg_getf (va := (2, 113)) h82_239 rfl) ?_
              refine xg_t (xg_iload (va := (0, 0)) rfl rfl) ?_
              refine xoI (xqc113 hI200 : cpI 4 80 4294967295 (wget w198 113)) (fun g113_241 h113_242 hb243 => ?_)
              refine xg_ialdB (n := 0) (B := 4294967295) h113_242 (hb243) xnm0 (by first | decide | omega) (fun u244 hu245 he246 => ?_)
              have hl247 : fld w198 82 14 = fld w 82 14 := pk203.2.2.1
              have hl248 : fld w198 82 14 ≤ 2000 := by omega
              refine xg_cVv mX12_rulePuts (vs := [(0, (1 + (4 * kr)) + 0), (0, u244)]) (rest := []) (cn1 := 0) (sl1 := 0) rfl (mRulePuts (hI200) (by omega) (by omega) (by omega)) rfl h82_239 rfl rfl rfl rfl rfl rfl (fun w249 hq250 => ?_)
              obtain ⟨hI251, hF252, hx253⟩ := hq250
              have hx254 := hx253
              have pk255 : PK w w249 := PK.tr pk203 (PK.fr hF252 (by decide) (by decide) pk203.2.2.2.1)
              have ro256 : ∀ l, l < fld w 82 14 → l < 16 → rwv w249 112 (20 * l) = rwv w 112 (20 * l) := fun l hl h6 => ((hx254 _ (by omega)).2 (by omega)).trans (ro204 l hl h6)
              have hq257 := pk255
              unfold PK PS at hq257
              clear hq205
              have pj258 : PK w61 w249 := PK.tr pj206 (PK.fr hF252 (by decide) (by decide) pk203.2.2.2.1)
              have hq259 := pj258
              unfold PK PS at hq259
              clear hq207
              have ms260 : mu w249 < mu w := Nat.lt_of_le_of_lt (PK.fr hF252 (by decide) (by decide) pk203.2.2.2.1).2.1 ms208
              refine xg_t (xg_iinc (u := 0) (z := 1) (l1 := [(0, (2, 82)), (1, (0, kr)), (2, (0, mo))]) rfl rfl (by decide) rfl) ?_
              refine xg_t (xg_goto) ?_
              refine xg_t (xg_blq rfl) ?_
              refine xg_t (xg_iload (va := (0, 1)) rfl rfl) ?_
              refine xg_t (xg_const) ?_
              refine xg_t (xg_icF (u := 1) (v := 4) rfl xnm0 xnm0 (by decide)) ?_
              refine xg_t (xg_iload (va := (0, kr)) rfl rfl) ?_
              refine xg_t (xg_const) ?_
              refine xg_t (xg_icF (u := kr) (v := 4) rfl xnm0 xnm0 (xj_geF (by omega) (by omega))) ?_
              refine xg_t (xg_aload (va := (2, 82)) rfl rfl) ?_
              refine xg_t (xg_const) ?_
              refine xg_t (xg_const) ?_
              refine xg_t (xg_iload (va := (0, kr)) rfl rfl) ?_
              refine xg_t (xg_imul (u := 4) (v := kr) (z := 4 * kr) xnm0 xnm0 (by omega)) ?_
              refine xg_t (xg_iadd (u := 1) (v := 4 * kr) (z := 1 + (4 * kr)) xnm0 xnm0 (by omega)) ?_
              refine xg_t (xg_iload (va := (0, 1)) rfl rfl) ?_
              refine xg_t (xg_iadd (u := 1 + (4 * kr)) (v := 1) (z := (1 + (4 * kr)) + 1) xnm0 xnm0 (by omega)) ?_
              refine xg_t (xg_aload (va := (2, 82)) rfl rfl) ?_
              refine xg_t (xg_getf (va := (2, 113)) (hF252.get (by decide) h82_239) rfl) ?_
              refine xg_t (xg_iload (va := (0, 1)) rfl rfl) ?_
              refine xg_ialdB (n := 1) (B := 4294967295) (h113_242.fr hF252 (by decide)) (hb243) xnm0 (by first | decide | omega) (fun u261 hu262 he263 => ?_)
              have hl264 : fld w249 82 14 = fld w 82 14 := pk255.2.2.1
              have hl265 : fld w249 82 14 ≤ 2000 := by omega
              refine xg_cVv mX12_rulePuts (vs := [(0, (1 + (4 * kr)) + 1), (0, u261)]) (rest := []) (cn1 := 0) (sl1 := 0) rfl (mRulePuts (hI251) (by omega) (by omega) (by omega)) rfl (hF252.get (by decide) h82_239) rfl rfl rfl rfl rfl rfl (fun w266 hq267 => ?_)
              obtain ⟨hI268, hF269, hx270⟩ := hq267
              have hx271 := hx270
              have pk272 : PK w w266 := PK.tr pk255 (PK.fr hF269 (by decide) (by decide) pk255.2.2.2.1)
              have ro273 : ∀ l, l < fld w 82 14 → l < 16 → rwv w266 112 (20 * l) = rwv w 112 (20 * l) := fun l hl h6 => ((hx271 _ (by omega)).2 (by omega)).trans (ro256 l hl h6)
              have hq274 := pk272
              unfold PK PS at hq274
              clear hq257
              have pj275 : PK w61 w266 := PK.tr pj258 (PK.fr hF269 (by decide) (by decide) pk255.2.2.2.1)
              have hq276 := pj275
              unfold PK PS at hq276
              clear hq259
              have ms277 : mu w266 < mu w := Nat.lt_of_le_of_lt (PK.fr hF269 (by decide) (by decide) pk255.2.2.2.1).2.1 ms260
              refine xg_t (xg_iinc (u := 1) (z := 2) (l1 := [(0, (2, 82)), (1, (0, kr)), (2, (0, mo))]) rfl rfl (by decide) rfl) ?_
              refine xg_t (xg_goto) ?_
              refine xg_t (xg_blq rfl) ?_
              refine xg_t (xg_iload (va := (0, 2)) rfl rfl) ?_
              refine xg_t (xg_const) ?_
              refine xg_t (xg_icF (u := 2) (v := 4) rfl xnm0 xnm0 (by decide)) ?_
              refine xg_t (xg_iload (va := (0, kr)) rfl rfl) ?_
              refine xg_t (xg_const) ?_
              refine xg_t (xg_icF (u := kr) (v := 4) rfl xnm0 xnm0 (xj_geF (by omega) (by omega))) ?_
              refine xg_t (xg_aload (va := (2, 82)) rfl rfl) ?_
              refine xg_t (xg_const) ?_
              refine xg_t (xg_const) ?_
              refine xg_t (xg_iload (va := (0, kr)) rfl rfl) ?_
              refine xg_t (xg_imul (u := 4) (v := kr) (z := 4 * kr) xnm0 xnm0 (by omega)) ?_
              refine xg_t (xg_iadd (u := 1) (v := 4 * kr) (z := 1 + (4 * kr)) xnm0 xnm0 (by omega)) ?_
              refine xg_t (xg_iload (va := (0, 2)) rfl rfl) ?_
              refine xg_t (xg_iadd (u := 1 + (4 * kr)) (v := 2) (z := (1 + (4 * kr)) + 2) xnm0 xnm0 (by omega)) ?_
              refine xg_t (xg_aload (va := (2, 82)) rfl rfl) ?_
              refine xg_t (xg_getf (va := (2, 113)) (hF269.get (by decide) (hF252.get (by decide) h82_239)) rfl) ?_
              refine xg_t (xg_iload (va := (0, 2)) rfl rfl) ?_
              refine xg_ialdB (n := 2) (B := 4294967295) ((h113_242.fr hF252 (by decide)).fr hF269 (by decide)) (hb243) xnm0 (by first | decide | omega) (fun u278 hu279 he280 => ?_)
              have hl281 : fld w266 82 14 = fld w 82 14 := pk272.2.2.1
              have hl282 : fld w266 82 14 ≤ 2000 := by omega
              refine xg_cVv mX12_rulePuts (vs := [(0, (1 + (4 * kr)) + 2), (0, u278)]) (rest := []) (cn1 := 0) (sl1 := 0) rfl (mRulePuts (hI268) (by omega) (by omega) (by omega)) rfl (hF269.get (by decide) (hF252.get (by decide) h82_239)) rfl rfl rfl rfl rfl rfl (fun w283 hq284 => ?_)
              obtain ⟨hI285, hF286, hx287⟩ := hq284
              have hx288 := hx287
              have pk289 : PK w w283 := PK.tr pk272 (PK.fr hF286 (by decide) (by decide) pk272.2.2.2.1)
              have ro290 : ∀ l, l < fld w 82 14 → l < 16 → rwv w283 112 (20 * l) = rwv w 112 (20 * l) := fun l hl h6 => ((hx288 _ (by omega)).2 (by omega)).trans (ro273 l hl h6)
              have hq291 := pk289
              unfold PK PS at hq291
              clear hq274
              have pj292 : PK w61 w283 := PK.tr pj275 (PK.fr hF286 (by decide) (by decide) pk272.2.2.2.1)
              have hq293 := pj292
              unfold PK PS at hq293
              clear hq276
              have ms294 : mu w283 < mu w := Nat.lt_of_le_of_lt (PK.fr hF286 (by decide) (by decide) pk272.2.2.2.1).2.1 ms277
              refine xg_t (xg_iinc (u := 2) (z := 3) (l1 := [(0, (2, 82)), (1, (0, kr)), (2, (0, mo))]) rfl rfl (by decide) rfl) ?_
              refine xg_t (xg_goto) ?_
              refine xg_t (xg_blq rfl) ?_
              refine xg_t (xg_iload (va := (0, 3)) rfl rfl) ?_
              refine xg_t (xg_const) ?_
              refine xg_t (xg_icF (u := 3) (v := 4) rfl xnm0 xnm0 (by decide)) ?_
              refine xg_t (xg_iload (va := (0, kr)) rfl rfl) ?_
              refine xg_t (xg_const) ?_
              refine xg_t (xg_icF (u := kr) (v := 4) rfl xnm0 xnm0 (xj_geF (by omega) (by omega))) ?_
              refine xg_t (xg_aload (va := (2, 82)) rfl rfl) ?_
              refine xg_t (xg_const) ?_
              refine xg_t (xg_const) ?_
              refine xg_t (xg_iload (va := (0, kr)) rfl rfl) ?_
              refine xg_t (xg_imul (u := 4) (v := kr) (z := 4 * kr) xnm0 xnm0 (by omega)) ?_
              refine xg_t (xg_iadd (u := 1) (v := 4 * kr) (z := 1 + (4 * kr)) xnm0 xnm0 (by omega)) ?_
              refine xg_t (xg_iload (va := (0, 3)) rfl rfl) ?_
              refine xg_t (xg_iadd (u := 1 + (4 * kr)) (v := 3) (z := (1 + (4 * kr)) + 3) xnm0 xnm0 (by omega)) ?_
              refine xg_t (xg_aload (va := (2, 82)) rfl rfl) ?_
              refine xg_t (xg_getf (va := (2, 113)) (hF286.get (by decide) (hF269.get (by decide) (hF252.get (by decide) h82_239))) rfl) ?_
              refine xg_t (xg_iload (va := (0, 3)) rfl rfl) ?_
              refine xg_ialdB (n := 3) (B := 4294967295) (((h113_242.fr hF252 (by decide)).fr hF269 (by decide)).fr hF286 (by decide)) (hb243) xnm0 (by first | decide | omega) (fun u295 hu296 he297 => ?_)
              have hl298 : fld w283 82 14 = fld w 82 14 := pk289.2.2.1
              have hl299 : fld w283 82 14 ≤ 2000 := by omega
              refine xg_cVv mX12_rulePuts (vs := [(0, (1 + (4 * kr)) + 3), (0, u295)]) (rest := []) (cn1 := 0) (sl1 := 0) rfl (mRulePuts (hI285) (by omega) (by omega) (by omega)) rfl (hF286.get (by decide) (hF269.get (by decide) (hF252.get (by decide) h82_239))) rfl rfl rfl rfl rfl rfl (fun w300 hq301 => ?_)
              obtain ⟨hI302, hF303, hx304⟩ := hq301
              have hx305 := hx304
              have pk306 : PK w w300 := PK.tr pk289 (PK.fr hF303 (by decide) (by decide) pk289.2.2.2.1)
              have ro307 : ∀ l, l < fld w 82 14 → l < 16 → rwv w300 112 (20 * l) = rwv w 112 (20 * l) := fun l hl h6 => ((hx305 _ (by omega)).2 (by omega)).trans (ro290 l hl h6)
              have hq308 := pk306
              unfold PK PS at hq308
              clear hq291
              have pj309 : PK w61 w300 := PK.tr pj292 (PK.fr hF303 (by decide) (by decide) pk289.2.2.2.1)
              have hq310 := pj309
              unfold PK PS at hq310
              clear hq293
              have ms311 : mu w300 < mu w := Nat.lt_of_le_of_lt (PK.fr hF303 (by decide) (by decide) pk289.2.2.2.1).2.1 ms294
              refine xg_t (xg_iinc (u := 3) (z := 4) (l1 := [(0, (2, 82)), (1, (0, kr)), (2, (0, mo))]) rfl rfl (by decide) rfl) ?_
              refine xg_t (xg_goto) ?_
              refine xg_t (xg_blq rfl) ?_
              refine xg_t (xg_iload (va := (0, 4)) rfl rfl) ?_
              refine xg_t (xg_const) ?_
              refine xg_t (xg_icT (u := 4) (v := 4) rfl xnm0 xnm0 (by decide)) ?_
              refine xg_t (xg_blq rfl) ?_
              refine xg_t (xg_iinc (u := kr) (z := kr + 1) (l1 := [(3, (0, 4)), (0, (2, 82)), (2, (0, mo))]) rfl rfl (by omega) rfl) ?_
              refine xg_t (xg_aload (va := (2, 82)) rfl rfl) ?_
              refine xg_t (xg_bip) ?_
              refine xg_cVi mX12_takes (vs := [(0, 51)]) (rest := []) (cn1 := 0) (sl1 := 0) rfl (mTakes (hI302) (by omega) pk306.2.2.2.1) rfl (hF303.get (by decide) (hF286.get (by decide) (hF269.get (by decide) (hF252.get (by decide) h82_239)))) rfl rfl rfl rfl rfl rfl (fun n316 w312 hq313 => ?_)
              obtain ⟨hn317, hI314, hF315⟩ := hq313
              clear hb210 hb212 hb214 hb216 hb218 hb220 hb222 hb224 hb226 hb228 hb232 hb234 hb236 hb238
              obtain ⟨hn318, hn319, hn320⟩ := hn317
              have pk321 : PK w w312 := PK.tr pk306 hn319
              have ro322 : ∀ l, l < fld w 82 14 → l < 16 → rwv w312 112 (20 * l) = rwv w 112 (20 * l) := fun l hl h6 => (rwv_fr hF315 (by decide)).trans (ro307 l hl h6)
              have hq323 := pk321
              unfold PK PS at hq323
              clear hq308
              have pj324 : PK w61 w312 := PK.tr pj309 hn319
              have hq325 := pj324
              unfold PK PS at hq325
              clear hq310
              have ms326 : mu w312 < mu w := Nat.lt_of_le_of_lt hn319.2.1 ms311
              have hu327 : n316 = 1 → mu w312 < mu w61 := fun h => Nat.lt_of_lt_of_le (hn320 h) pj309.2.1
              refine xg_t (xg_istore (l1 := [(1, (0, kr + 1)), (3, (0, 4)), (0, (2, 82))]) rfl rfl rfl) ?_
              refine xg_t (xg_goto) ?_
              refine xg_t (xg_drop (l1 := [(0, (2, 82)), (1, (0, kr + 1)), (2, (0, n316))]) (List.forall_mem_cons.mpr ⟨List.mem_cons_of_mem _ (List.mem_cons_of_mem _ (List.mem_cons_of_mem _ (List.mem_cons_self))), List.forall_mem_cons.mpr ⟨List.mem_cons_of_mem _ (List.mem_cons_self), List.forall_mem_cons.mpr ⟨List.mem_cons_self, fun _ h => absurd h List.not_mem_nil⟩⟩⟩)) ?_
              exact ih59 (kr + 1) n316 w312 (by omega) (by omega) (by omega) (hI314) (((((((hF63.tr (hF201.up (by decide))).tr (hF252.up (by decide))).tr (hF269.up (by decide))).tr (hF286.up (by decide))).tr (hF303.up (by decide))).tr (hF315.up (by decide)))) (⟨pk321, ro322, ms326, by omega, by omega, fun _ => by omega, fun h => by omega⟩)
      exact key58 _ 0 1 w44 (Nat.lt_succ_self _) (by omega) (by omega) (hI46) ((hF47.up (by decide))) (⟨pk53, ro54, ms57, by omega, by omega, fun _ => by omega, fun h => by omega⟩)
  · refine xg_t (xg_icF (u := f82_19) (v := 16) rfl xnm0 xnm0 (xj_ltF (by omega) (by omega))) ?_
    refine xg_t (xg_aload (va := (2, 82)) rfl rfl) ?_
    refine xg_t (xg_const) ?_
    refine xg_t (xg_aload (va := (2, 82)) rfl rfl) ?_
    refine xg_t (xg_getf (va := (0, f82_9)) h82_31 rfl) ?_
    have hn328 : f82_9 ≤ 4294967295 := hb10
    refine xg_cVv mX12_also (vs := [(0, 3), (0, f82_9)]) (rest := []) (cn1 := 0) (sl1 := 0) rfl (mAlso (hI) (by omega) (by omega) (by omega) (PK.rf hps).2.2.2.1) rfl h82_31 rfl rfl rfl rfl rfl rfl (fun w329 hq330 => ?_)
    obtain ⟨hI331, hF332, hx333⟩ := hq330
    obtain ⟨hv335, hv336⟩ := hx333
    have pk334 : PK w w329 := ⟨fun _ => hv335, Nat.le_of_eq (mu_fr hF332 (by decide)), fld_fr hF332 (by decide), Or.inr hv335, hv336⟩
    have pk337 : PK w w329 := PK.tr (PK.rf hps) pk334
    have ro338 : ∀ l, l < fld w 82 14 → l < 16 → rwv w329 112 (20 * l) = rwv w 112 (20 * l) := fun l hl h6 => (rwv_fr hF332 (by decide)).trans ((fun l _ _ => rfl) l hl h6)
    have hq339 := pk337
    unfold PK PS at hq339
    have fa340 : FA w329 ≠ 0 := hv335
    refine xg_t (xg_blq rfl) ?_
    refine xg_t (xg_const) ?_
    refine xg_t (xg_istore (l1 := [(0, (2, 82))]) rfl rfl rfl) ?_
    refine xg_t (xg_aload (va := (2, 82)) rfl rfl) ?_
    refine xg_t (xg_bip) ?_
    refine xg_cVi mX12_takes (vs := [(0, 50)]) (rest := []) (cn1 := 0) (sl1 := 0) rfl (mTakes (hI331) (by omega) pk337.2.2.2.1) rfl (hF332.get (by decide) h82_31) rfl rfl rfl rfl rfl rfl (fun n345 w341 hq342 => ?_)
    obtain ⟨hn346, hI343, hF344⟩ := hq342
    clear hb2 hb4 hb6 hb8 hb10 hb12 hb14 hb16 hb18 hb20 hb24 hb26 hb28 hb30
    obtain ⟨hn347, hn348, hn349⟩ := hn346
    have pk350 : PK w w341 := PK.tr pk337 hn348
    have ro351 : ∀ l, l < fld w 82 14 → l < 16 → rwv w341 112 (20 * l) = rwv w 112 (20 * l) := fun l hl h6 => (rwv_fr hF344 (by decide)).trans (ro338 l hl h6)
    have hq352 := pk350
    unfold PK PS at hq352
    clear hq339
    have fa353 : FA w341 ≠ 0 := hn348.1 fa340
    by_cases hc354 : n345 = 0
    · refine xg_t (xg_ifT (u := n345) rfl xnm0 (xj_eqT hc354)) ?_
      refine xg_t (xg_drop (l1 := [(0, (2, 82)), (1, (0, 0))]) (List.forall_mem_cons.mpr ⟨List.mem_cons_of_mem _ (List.mem_cons_self), List.forall_mem_cons.mpr ⟨List.mem_cons_self, fun _ h => absurd h List.not_mem_nil⟩⟩)) ?_
      refine (mARuleT (hI343) pk350.2.2.2.1 (by omega) (by omega) (by omega) (fun _ => by omega)).imp (fun φ h => ?_)
      obtain ⟨w', e1, e2, e3, e4, e5, e6, e7, e8⟩ := h
      refine ⟨w', e1, e2, (((hF332.up (by decide)).tr (hF344.up (by decide)))).tr (e3.up (by decide)), fun z => e4 (pk350.1 z), e5, ?_, ?_, pk350.2.2.2.2.tr e8⟩
      · have q1 := pk350.2.1
        have q2 := pk350.2.2.1
        rcases e6 with ⟨c1, c2, c3⟩ | ⟨c1, c2⟩
        · exact Or.inl ⟨c1, by omega, by omega⟩
        · exact Or.inr ⟨by omega, by omega⟩
      · rcases e7 with r | r
        · exact Or.inl r
        · refine Or.inr (fun hd => r ⟨by rw [pk350.2.2.1]; exact hd.1, fun l hl => ?_⟩)
          have q2 := pk350.2.2.1
          rw [ro351 l (by omega) (by have := hd.1; omega)]
          exact hd.2 l (by omega)
    · have ms355 : mu w341 < mu w := Nat.lt_of_lt_of_le (hn349 (by omega)) pk337.2.1
      refine xg_t (xg_ifF (u := n345) rfl xnm0 (xj_eqF hc354)) ?_
      refine xg_t (xg_const) ?_
      refine xg_t (xg_istore (l1 := [(1, (0, 0)), (0, (2, 82))]) rfl rfl rfl) ?_
      refine xg_t (xg_drop (l1 := [(0, (2, 82)), (1, (0, 0)), (2, (0, 1))]) (List.forall_mem_cons.mpr ⟨List.mem_cons_of_mem _ (List.mem_cons_of_mem _ (List.mem_cons_self)), List.forall_mem_cons.mpr ⟨List.mem_cons_of_mem _ (List.mem_cons_self), List.forall_mem_cons.mpr ⟨List.mem_cons_self, fun _ h => absurd h List.not_mem_nil⟩⟩⟩)) ?_
      have key356 : ∀ (m358 : Nat) (kr mo : Nat) (w359 : List (List xE)), 2 * mu w359 + mo < m358 → kr ≤ 1002 → mo ≤ 1 → xMnv w359 → xFr [82, 83, 112, 113] w w359 → (PK w w359 ∧ (∀ l, l < fld w 82 14 → l < 16 → rwv w359 112 (20 * l) = rwv w 112 (20 * l)) ∧ mu w359 < mu w ∧ (FA w359 ≠ 0 ∨ kr ≤ 4) ∧ kr + mu w359 ≤ 1002 ∧ (mo = 1 → kr + mu w359 ≤ 1001) ∧ (16 ≤ fld w 82 14 → FA w359 ≠ 0)) → xTo (d + 7) mX12_aRule (31, [], [(0, (2, 82)), (1, (0, kr)), (2, (0, mo))], [], (w359, bd, fc, 0, 0, rr)) (fun φ => ∃ w', xEnd 0 [] (w', bd, fc, 0, 0, rr) φ ∧ xMnv w' ∧ xFr [82, 83, 112, 113] w w' ∧ ((FA w ≠ 0 → FA w' ≠ 0) ∧ PS w' ∧ ((fld w' 82 10 = 1 ∧ mu w' ≤ mu w ∧ fld w' 82 14 = fld w 82 14) ∨ (mu w' < mu w ∧ fld w' 82 14 = fld w 82 14 + 1)) ∧ (FA w' ≠ 0 ∨ (RD w → RD w')) ∧ K83 w w')) := by
        intro m358
        induction m358 with
        | zero => intro kr mo w359 hz; exact absurd hz (Nat.not_lt_zero _)
        | succ m358 ih357 =>
          intro kr mo w359 hm365 hn362 hn363 hI360 hF361 he364
          obtain ⟨hz366, hz367, hz368, hz369, hz370, hz371, hz372⟩ := he364
          have hq373 := hz366
          unfold PK PS at hq373
          refine xoCh82 (xqc82 hI360 : cp82 (wget w359 82)) (fun f82_374 f82_376 f82_378 f82_380 f82_382 f82_384 f82_386 f82_388 f82_390 f82_392 f82_394 f82_395 f82_396 f82_398 f82_400 f82_402 h82_404 hb375 hb377 hb379 hb381 hb383 hb385 hb387 hb389 hb391 hb393 hb397 hb399 hb401 hb403 hb405 => ?_)
          refine xg_t (xg_blq rfl) ?_
          refine xg_t (xg_iload (va := (0, mo)) rfl rfl) ?_
          by_cases hc406 : mo = 0
          · refine xg_t (xg_ifT (u := mo) rfl xnm0 (xj_eqT hc406)) ?_
            refine xg_t (xg_blq rfl) ?_
            refine xg_t (xg_aload (va := (2, 82)) rfl rfl) ?_
            refine xg_t (xg_bip) ?_
            refine xg_cVv mX12_must (vs := [(0, 58)]) (rest := []) (cn1 := 0) (sl1 := 0) rfl (mMust (hI360) (by omega) hz366.2.2.2.1) rfl h82_404 rfl rfl rfl rfl rfl rfl (fun w407 hq408 => ?_)
            obtain ⟨hI409, hF410, hx411⟩ := hq408
            clear hb375 hb377 hb379 hb381 hb383 hb385 hb387 hb389 hb391 hb393 hb397 hb399 hb401 hb403
            have pk412 : PK w w407 := PK.tr hz366 hx411
            have ro413 : ∀ l, l < fld w 82 14 → l < 16 → rwv w407 112 (20 * l) = rwv w 112 (20 * l) := fun l hl h6 => (rwv_fr hF410 (by decide)).trans (hz367 l hl h6)
            have hq414 := pk412
            unfold PK PS at hq414
            clear hq373
            have pj415 : PK w359 w407 := PK.tr (PK.rf hz366.2.2.2.1) hx411
            have hq416 := pj415
            unfold PK PS at hq416
            have ms417 : mu w407 < mu w := Nat.lt_of_le_of_lt hx411.2.1 hz368
            refine xg_t (xg_drop (l1 := [(0, (2, 82)), (1, (0, kr))]) (List.forall_mem_cons.mpr ⟨List.mem_cons_self, List.forall_mem_cons.mpr ⟨List.mem_cons_of_mem _ (List.mem_cons_self), fun _ h => absurd h List.not_mem_nil⟩⟩)) ?_
            refine (mARuleT (hI409) pk412.2.2.2.1 (by omega) (by omega) (by omega) (fun _ => by omega)).imp (fun φ h => ?_)
            obtain ⟨w', e1, e2, e3, e4, e5, e6, e7, e8⟩ := h
            refine ⟨w', e1, e2, ((hF361.tr (hF410.up (by decide)))).tr (e3.up (by decide)), fun z => e4 (pk412.1 z), e5, ?_, ?_, pk412.2.2.2.2.tr e8⟩
            · have q1 := pk412.2.1
              have q2 := pk412.2.2.1
              rcases e6 with ⟨c1, c2, c3⟩ | ⟨c1, c2⟩
              · exact Or.inl ⟨c1, by omega, by omega⟩
              · exact Or.inr ⟨by omega, by omega⟩
            · rcases e7 with r | r
              · exact Or.inl r
              · refine Or.inr (fun hd => r ⟨by rw [pk412.2.2.1]; exact hd.1, fun l hl => ?_⟩)
                have q2 := pk412.2.2.1
                rw [ro413 l (by omega) (by have := hd.1; omega)]
                exact hd.2 l (by omega)
          · refine xg_t (xg_ifF (u := mo) rfl xnm0 (xj_eqF hc406)) ?_
            refine xg_t (xg_iload (va := (0, kr)) rfl rfl) ?_
            refine xg_t (xg_const) ?_
            by_cases hc418 : 3 < kr
            · refine xg_t (xg_icF (u := kr) (v := 3) rfl xnm0 xnm0 (xj_leF hc418 (by omega))) ?_
              refine xg_t (xg_aload (va := (2, 82)) rfl rfl) ?_
              refine xg_t (xg_const) ?_
              refine xg_t (xg_aload (va := (2, 82)) rfl rfl) ?_
              refine xg_t (xg_getf (va := (0, f82_382)) h82_404 rfl) ?_
              have hn419 : f82_382 ≤ 4294967295 := hb383
              refine xg_cVv mX12_also (vs := [(0, 3), (0, f82_382)]) (rest := []) (cn1 := 0) (sl1 := 0) rfl (mAlso (hI360) (by omega) (by omega) (by omega) hz366.2.2.2.1) rfl h82_404 rfl rfl rfl rfl rfl rfl (fun w420 hq421 => ?_)
              obtain ⟨hI422, hF423, hx424⟩ := hq421
              obtain ⟨hv426, hv427⟩ := hx424
              have pk425 : PK w359 w420 := ⟨fun _ => hv426, Nat.le_of_eq (mu_fr hF423 (by decide)), fld_fr hF423 (by decide), Or.inr hv426, hv427⟩
              have pk428 : PK w w420 := PK.tr hz366 pk425
              have ro429 : ∀ l, l < fld w 82 14 → l < 16 → rwv w420 112 (20 * l) = rwv w 112 (20 * l) := fun l hl h6 => (rwv_fr hF423 (by decide)).trans (hz367 l hl h6)
              have hq430 := pk428
              unfold PK PS at hq430
              clear hq373
              have pj431 : PK w359 w420 := PK.tr (PK.rf hz366.2.2.2.1) pk425
              have hq432 := pj431
              unfold PK PS at hq432
              have ms433 : mu w420 < mu w := Nat.lt_of_le_of_lt pk425.2.1 hz368
              have fa434 : FA w420 ≠ 0 := hv426
              refine xg_t (xg_blq rfl) ?_
              refine xg_t (xg_aload (va := (2, 82)) rfl rfl) ?_
              refine xg_cVv mX12_aTest (vs := []) (rest := []) (cn1 := 0) (sl1 := 0) rfl (mATest (hI422) pk428.2.2.2.1) rfl (hF423.get (by decide) h82_404) rfl rfl rfl rfl rfl rfl (fun w435 hq436 => ?_)
              obtain ⟨hI437, hF438, hx439⟩ := hq436
              clear hb375 hb377 hb379 hb381 hb383 hb385 hb387 hb389 hb391 hb393 hb397 hb399 hb401 hb403
              have pk440 : PK w w435 := PK.tr pk428 hx439
              have ro441 : ∀ l, l < fld w 82 14 → l < 16 → rwv w435 112 (20 * l) = rwv w 112 (20 * l) := fun l hl h6 => (rwv_fr hF438 (by decide)).trans (ro429 l hl h6)
              have hq442 := pk440
              unfold PK PS at hq442
              clear hq430
              have pj443 : PK w359 w435 := PK.tr pj431 hx439
              have hq444 := pj443
              unfold PK PS at hq444
              clear hq432
              have fa445 : FA w435 ≠ 0 := hx439.1 fa434
              have ms446 : mu w435 < mu w := Nat.lt_of_le_of_lt hx439.2.1 ms433
              refine xg_t (xg_const) ?_
              refine xg_t (xg_istore (l1 := [(0, (2, 82)), (1, (0, kr)), (2, (0, mo))]) rfl rfl rfl) ?_
              refine xg_t (xg_blq rfl) ?_
              refine xg_t (xg_iload (va := (0, 0)) rfl rfl) ?_
              refine xg_t (xg_const) ?_
              refine xg_t (xg_icF (u := 0) (v := 4) rfl xnm0 xnm0 (by decide)) ?_
              refine xg_t (xg_iload (va := (0, kr)) rfl rfl) ?_
              refine xg_t (xg_const) ?_
              refine xg_t (xg_icT (u := kr) (v := 4) rfl xnm0 xnm0 (xj_geT (by omega) (by omega))) ?_
              refine xg_t (xg_blq rfl) ?_
              refine xg_t (xg_iinc (u := kr) (z := kr + 1) (l1 := [(3, (0, 0)), (0, (2, 82)), (2, (0, mo))]) rfl rfl (by omega) rfl) ?_
              refine xg_t (xg_aload (va := (2, 82)) rfl rfl) ?_
              refine xg_t (xg_bip) ?_
              refine xoCh82 (xqc82 hI437 : cp82 (wget w435 82)) (fun f82_447 f82_449 f82_451 f82_453 f82_455 f82_457 f82_459 f82_461 f82_463 f82_465 f82_467 f82_468 f82_469 f82_471 f82_473 f82_475 h82_477 hb448 hb450 hb452 hb454 hb456 hb458 hb460 hb462 hb464 hb466 hb470 hb472 hb474 hb476 hb478 => ?_)
              refine xg_cVi mX12_takes (vs := [(0, 51)]) (rest := []) (cn1 := 0) (sl1 := 0) rfl (mTakes (hI437) (by omega) pk440.2.2.2.1) rfl h82_477 rfl rfl rfl rfl rfl rfl (fun n483 w479 hq480 => ?_)
              obtain ⟨hn484, hI481, hF482⟩ := hq480
              clear hb448 hb450 hb452 hb454 hb456 hb458 hb460 hb462 hb464 hb466 hb470 hb472 hb474 hb476
              obtain ⟨hn485, hn486, hn487⟩ := hn484
              have pk488 : PK w w479 := PK.tr pk440 hn486
              have ro489 : ∀ l, l < fld w 82 14 → l < 16 → rwv w479 112 (20 * l) = rwv w 112 (20 * l) := fun l hl h6 => (rwv_fr hF482 (by decide)).trans (ro441 l hl h6)
              have hq490 := pk488
              unfold PK PS at hq490
              clear hq442
              have pj491 : PK w359 w479 := PK.tr pj443 hn486
              have hq492 := pj491
              unfold PK PS at hq492
              clear hq444
              have fa493 : FA w479 ≠ 0 := hn486.1 fa445
              have ms494 : mu w479 < mu w := Nat.lt_of_le_of_lt hn486.2.1 ms446
              have hu495 : n483 = 1 → mu w479 < mu w359 := fun h => Nat.lt_of_lt_of_le (hn487 h) pj443.2.1
              refine xg_t (xg_istore (l1 := [(1, (0, kr + 1)), (3, (0, 0)), (0, (2, 82))]) rfl rfl rfl) ?_
              refine xg_t (xg_goto) ?_
              refine xg_t (xg_drop (l1 := [(0, (2, 82)), (1, (0, kr + 1)), (2, (0, n483))]) (List.forall_mem_cons.mpr ⟨List.mem_cons_of_mem _ (List.mem_cons_of_mem _ (List.mem_cons_of_mem _ (List.mem_cons_self))), List.forall_mem_cons.mpr ⟨List.mem_cons_of_mem _ (List.mem_cons_self), List.forall_mem_cons.mpr ⟨List.mem_cons_self, fun _ h => absurd h List.not_mem_nil⟩⟩⟩)) ?_
              exact ih357 (kr + 1) n483 w479 (by omega) (by omega) (by omega) (hI481) ((((hF361.tr (hF423.up (by decide))).tr (hF438.up (by decide))).tr (hF482.up (by decide)))) (⟨pk488, ro489, ms494, by omega, by omega, fun _ => by omega, fun h => by omega⟩)
            · refine xg_t (xg_icT (u := kr) (v := 3) rfl xnm0 xnm0 (xj_leT (by omega) (by omega))) ?_
              refine xg_t (xg_blq rfl) ?_
              refine xg_t (xg_aload (va := (2, 82)) rfl rfl) ?_
              refine xg_cVv mX12_aTest (vs := []) (rest := []) (cn1 := 0) (sl1 := 0) rfl (mATest (hI360) hz366.2.2.2.1) rfl h82_404 rfl rfl rfl rfl rfl rfl (fun w496 hq497 => ?_)
              obtain ⟨hI498, hF499, hx500⟩ := hq497
              clear hb375 hb377 hb379 hb381 hb383 hb385 hb387 hb389 hb391 hb393 hb397 hb399 hb401 hb403
              have pk501 : PK w w496 := PK.tr hz366 hx500
              have ro502 : ∀ l, l < fld w 82 14 → l < 16 → rwv w496 112 (20 * l) = rwv w 112 (20 * l) := fun l hl h6 => (rwv_fr hF499 (by decide)).trans (hz367 l hl h6)
              have hq503 := pk501
              unfold PK PS at hq503
              clear hq373
              have pj504 : PK w359 w496 := PK.tr (PK.rf hz366.2.2.2.1) hx500
              have hq505 := pj504
              unfold PK PS at hq505
              have ms506 : mu w496 < mu w := Nat.lt_of_le_of_lt hx500.2.1 hz368
              refine xg_t (xg_const) ?_
              refine xg_t (xg_istore (l1 := [(0, (2, 82)), (1, (0, kr)), (2, (0, mo))]) rfl rfl rfl) ?_
              refine xg_t (xg_blq rfl) ?_
              refine xg_t (xg_iload (va := (0, 0)) rfl rfl) ?_
              refine xg_t (xg_const) ?_
              refine xg_t (xg_icF (u := 0) (v := 4) rfl xnm0 xnm0 (by decide)) ?_
              refine xg_t (xg_iload (va := (0, kr)) rfl rfl) ?_
              refine xg_t (xg_const) ?_
              refine xg_t (xg_icF (u := kr) (v := 4) rfl xnm0 xnm0 (xj_geF (by omega) (by omega))) ?_
              refine xg_t (xg_aload (va := (2, 82)) rfl rfl) ?_
              refine xg_t (xg_const) ?_
              refine xg_t (xg_const) ?_
              refine xg_t (xg_iload (va := (0, kr)) rfl rfl) ?_
              refine xg_t (xg_imul (u := 4) (v := kr) (z := 4 * kr) xnm0 xnm0 (by omega)) ?_
              refine xg_t (xg_iadd (u := 1) (v := 4 * kr) (z := 1 + (4 * kr)) xnm0 xnm0 (by omega)) ?_
              refine xg_t (xg_iload (va := (0, 0)) rfl rfl) ?_
              refine xg_t (xg_iadd (u := 1 + (4 * kr)) (v := 0) (z := (1 + (4 * kr)) + 0) xnm0 xnm0 (by omega)) ?_
              refine xg_t (xg_aload (va := (2, 82)) rfl rfl) ?_
              refine xoCh82 (xqc82 hI498 : cp82 (wget w496 82)) (fun f82_507 f82_509 f82_511 f82_513 f82_515 f82_517 f82_519 f82_521 f82_523 f82_525 f82_527 f82_528 f82_529 f82_531 f82_533 f82_535 h82_537 hb508 hb510 hb512 hb514 hb516 hb518 hb520 hb522 hb524 hb526 hb530 hb532 hb534 hb536 hb538 => ?_)
              refine xg_t (xg_getf (va := (2, 113)) h82_537 rfl) ?_
              refine xg_t (xg_iload (va := (0, 0)) rfl rfl) ?_
              refine xoI (xqc113 hI498 : cpI 4 80 4294967295 (wget w496 113)) (fun g113_539 h113_540 hb541 => ?_)
              refine xg_ialdB (n := 0) (B := 4294967295) h113_540 (hb541) xnm0 (by first | decide | omega) (fun u542 hu543 he544 => ?_)
              have hl545 : fld w496 82 14 = fld w 82 14 := pk501.2.2.1
              have hl546 : fld w496 82 14 ≤ 2000 := by omega
              refine xg_cVv mX12_rulePuts (vs := [(0, (1 + (4 * kr)) + 0), (0, u542)]) (rest := []) (cn1 := 0) (sl1 := 0) rfl (mRulePuts (hI498) (by omega) (by omega) (by omega)) rfl h82_537 rfl rfl rfl rfl rfl rfl (fun w547 hq548 => ?_)
              obtain ⟨hI549, hF550, hx551⟩ := hq548
              have hx552 := hx551
              have pk553 : PK w w547 := PK.tr pk501 (PK.fr hF550 (by decide) (by decide) pk501.2.2.2.1)
              have ro554 : ∀ l, l < fld w 82 14 → l < 16 → rwv w547 112 (20 * l) = rwv w 112 (20 * l) := fun l hl h6 => ((hx552 _ (by omega)).2 (by omega)).trans (ro502 l hl h6)
              have hq555 := pk553
              unfold PK PS at hq555
              clear hq503
              have pj556 : PK w359 w547 := PK.tr pj504 (PK.fr hF550 (by decide) (by decide) pk501.2.2.2.1)
              have hq557 := pj556
              unfold PK PS at hq557
              clear hq505
              have ms558 : mu w547 < mu w := Nat.lt_of_le_of_lt (PK.fr hF550 (by decide) (by decide) pk501.2.2.2.1).2.1 ms506
              refine xg_t (xg_iinc (u := 0) (z := 1) (l1 := [(0, (2, 82)), (1, (0, kr)), (2, (0, mo))]) rfl rfl (by decide) rfl) ?_
              refine xg_t (xg_goto) ?_
              refine xg_t (xg_blq rfl) ?_
              refine xg_t (xg_iload (va := (0, 1)) rfl rfl) ?_
              refine xg_t (xg_const) ?_
              refine xg_t (xg_icF (u := 1) (v := 4) rfl xnm0 xnm0 (by decide)) ?_
              refine xg_t (xg_iload (va := (0, kr)) rfl rfl) ?_
              refine xg_t (xg_const) ?_
              refine xg_t (xg_icF (u := kr) (v := 4) rfl xnm0 xnm0 (xj_geF (by omega) (by omega))) ?_
              refine xg_t (xg_aload (va := (2, 82)) rfl rfl) ?_
              refine xg_t (xg_const) ?_
              refine xg_t (xg_const) ?_
              refine xg_t (xg_iload (va := (0, kr)) rfl rfl) ?_
              refine xg_t (xg_imul (u := 4) (v := kr) (z := 4 * kr) xnm0 xnm0 (by omega)) ?_
              refine xg_t (xg_iadd (u := 1) (v := 4 * kr) (z := 1 + (4 * kr)) xnm0 xnm0 (by omega)) ?_
              refine xg_t (xg_iload (va := (0, 1)) rfl rfl) ?_
              refine xg_t (xg_iadd (u := 1 + (4 * kr)) (v := 1) (z := (1 + (4 * kr)) + 1) xnm0 xnm0 (by omega)) ?_
              refine xg_t (xg_aload (va := (2, 82)) rfl rfl) ?_
              refine xg_t (xg_getf (va := (2, 113)) (hF550.get (by decide) h82_537) rfl) ?_
              refine xg_t (xg_iload (va := (0, 1)) rfl rfl) ?_
              refine xg_ialdB (n := 1) (B := 4294967295) (h113_540.fr hF550 (by decide)) (hb541) xnm0 (by first | decide | omega) (fun u559 hu560 he561 => ?_)
              have hl562 : fld w547 82 14 = fld w 82 14 := pk553.2.2.1
              have hl563 : fld w547 82 14 ≤ 2000 := by omega
              refine xg_cVv mX12_rulePuts (vs := [(0, (1 + (4 * kr)) + 1), (0, u559)]) (rest := []) (cn1 := 0) (sl1 := 0) rfl (mRulePuts (hI549) (by omega) (by omega) (by omega)) rfl (hF550.get (by decide) h82_537) rfl rfl rfl rfl rfl rfl (fun w564 hq565 => ?_)
              obtain ⟨hI566, hF567, hx568⟩ := hq565
              have hx569 := hx568
              have pk570 : PK w w564 := PK.tr pk553 (PK.fr hF567 (by decide) (by decide) pk553.2.2.2.1)
              have ro571 : ∀ l, l < fld w 82 14 → l < 16 → rwv w564 112 (20 * l) = rwv w 112 (20 * l) := fun l hl h6 => ((hx569 _ (by omega)).2 (by omega)).trans (ro554 l hl h6)
              have hq572 := pk570
              unfold PK PS at hq572
              clear hq555
              have pj573 : PK w359 w564 := PK.tr pj556 (PK.fr hF567 (by decide) (by decide) pk553.2.2.2.1)
              have hq574 := pj573
              unfold PK PS at hq574
              clear hq557
              have ms575 : mu w564 < mu w := Nat.lt_of_le_of_lt (PK.fr hF567 (by decide) (by decide) pk553.2.2.2.1).2.1 ms558
              refine xg_t (xg_iinc (u := 1) (z := 2) (l1 := [(0, (2, 82)), (1, (0, kr)), (2, (0, mo))]) rfl rfl (by decide) rfl) ?_
              refine xg_t (xg_goto) ?_
              refine xg_t (xg_blq rfl) ?_
              refine xg_t (xg_iload (va := (0, 2)) rfl rfl) ?_
              refine xg_t (xg_const) ?_
              refine xg_t (xg_icF (u := 2) (v := 4) rfl xnm0 xnm0 (by decide)) ?_
              refine xg_t (xg_iload (va := (0, kr)) rfl rfl) ?_
              refine xg_t (xg_const) ?_
              refine xg_t (xg_icF (u := kr) (v := 4) rfl xnm0 xnm0 (xj_geF (by omega) (by omega))) ?_
              refine xg_t (xg_aload (va := (2, 82)) rfl rfl) ?_
              refine xg_t (xg_const) ?_
              refine xg_t (xg_const) ?_
              refine xg_t (xg_iload (va := (0, kr)) rfl rfl) ?_
              refine xg_t (xg_imul (u := 4) (v := kr) (z := 4 * kr) xnm0 xnm0 (by omega)) ?_
              refine xg_t (xg_iadd (u := 1) (v := 4 * kr) (z := 1 + (4 * kr)) xnm0 xnm0 (by omega)) ?_
              refine xg_t (xg_iload (va := (0, 2)) rfl rfl) ?_
              refine xg_t (xg_iadd (u := 1 + (4 * kr)) (v := 2) (z := (1 + (4 * kr)) + 2) xnm0 xnm0 (by omega)) ?_
              refine xg_t (xg_aload (va := (2, 82)) rfl rfl) ?_
              refine xg_t (xg_getf (va := (2, 113)) (hF567.get (by decide) (hF550.get (by decide) h82_537)) rfl) ?_
              refine xg_t (xg_iload (va := (0, 2)) rfl rfl) ?_
              refine xg_ialdB (n := 2) (B := 4294967295) ((h113_540.fr hF550 (by decide)).fr hF567 (by decide)) (hb541) xnm0 (by first | decide | omega) (fun u576 hu577 he578 => ?_)
              have hl579 : fld w564 82 14 = fld w 82 14 := pk570.2.2.1
              have hl580 : fld w564 82 14 ≤ 2000 := by omega
              refine xg_cVv mX12_rulePuts (vs := [(0, (1 + (4 * kr)) + 2), (0, u576)]) (rest := []) (cn1 := 0) (sl1 := 0) rfl (mRulePuts (hI566) (by omega) (by omega) (by omega)) rfl (hF567.get (by decide) (hF550.get (by decide) h82_537)) rfl rfl rfl rfl rfl rfl (fun w581 hq582 => ?_)
              obtain ⟨hI583, hF584, hx585⟩ := hq582
              have hx586 := hx585
              have pk587 : PK w w581 := PK.tr pk570 (PK.fr hF584 (by decide) (by decide) pk570.2.2.2.1)
              have ro588 : ∀ l, l < fld w 82 14 → l < 16 → rwv w581 112 (20 * l) = rwv w 112 (20 * l) := fun l hl h6 => ((hx586 _ (by omega)).2 (by omega)).trans (ro571 l hl h6)
              have hq589 := pk587
              unfold PK PS at hq589
              clear hq572
              have pj590 : PK w359 w581 := PK.tr pj573 (PK.fr hF584 (by decide) (by decide) pk570.2.2.2.1)
              have hq591 := pj590
              unfold PK PS at hq591
              clear hq574
              have ms592 : mu w581 < mu w := Nat.lt_of_le_of_lt (PK.fr hF584 (by decide) (by decide) pk570.2.2.2.1).2.1 ms575
              refine xg_t (xg_iinc (u := 2) (z := 3) (l1 := [(0, (2, 82)), (1, (0, kr)), (2, (0, mo))]) rfl rfl (by decide) rfl) ?_
              refine xg_t (xg_goto) ?_
              refine xg_t (xg_blq rfl) ?_
              refine xg_t (xg_iload (va := (0, 3)) rfl rfl) ?_
              refine xg_t (xg_const) ?_
              refine xg_t (xg_icF (u := 3) (v := 4) rfl xnm0 xnm0 (by decide)) ?_
              refine xg_t (xg_iload (va := (0, kr)) rfl rfl) ?_
              refine xg_t (xg_const) ?_
              refine xg_t (xg_icF (u := kr) (v := 4) rfl xnm0 xnm0 (xj_geF (by omega) (by omega))) ?_
              refine xg_t (xg_aload (va := (2, 82)) rfl rfl) ?_
              refine xg_t (xg_const) ?_
              refine xg_t (xg_const) ?_
              refine xg_t (xg_iload (va := (0, kr)) rfl rfl) ?_
              refine xg_t (xg_imul (u := 4) (v := kr) (z := 4 * kr) xnm0 xnm0 (by omega)) ?_
              refine xg_t (xg_iadd (u := 1) (v := 4 * kr) (z := 1 + (4 * kr)) xnm0 xnm0 (by omega)) ?_
              refine xg_t (xg_iload (va := (0, 3)) rfl rfl) ?_
              refine xg_t (xg_iadd (u := 1 + (4 * kr)) (v := 3) (z := (1 + (4 * kr)) + 3) xnm0 xnm0 (by omega)) ?_
              refine xg_t (xg_aload (va := (2, 82)) rfl rfl) ?_
              refine xg_t (xg_getf (va := (2, 113)) (hF584.get (by decide) (hF567.get (by decide) (hF550.get (by decide) h82_537))) rfl) ?_
              refine xg_t (xg_iload (va := (0, 3)) rfl rfl) ?_
              refine xg_ialdB (n := 3) (B := 4294967295) (((h113_540.fr hF550 (by decide)).fr hF567 (by decide)).fr hF584 (by decide)) (hb541) xnm0 (by first | decide | omega) (fun u593 hu594 he595 => ?_)
              have hl596 : fld w581 82 14 = fld w 82 14 := pk587.2.2.1
              have hl597 : fld w581 82 14 ≤ 2000 := by omega
              refine xg_cVv mX12_rulePuts (vs := [(0, (1 + (4 * kr)) + 3), (0, u593)]) (rest := []) (cn1 := 0) (sl1 := 0) rfl (mRulePuts (hI583) (by omega) (by omega) (by omega)) rfl (hF584.get (by decide) (hF567.get (by decide) (hF550.get (by decide) h82_537))) rfl rfl rfl rfl rfl rfl (fun w598 hq599 => ?_)
              obtain ⟨hI600, hF601, hx602⟩ := hq599
              have hx603 := hx602
              have pk604 : PK w w598 := PK.tr pk587 (PK.fr hF601 (by decide) (by decide) pk587.2.2.2.1)
              have ro605 : ∀ l, l < fld w 82 14 → l < 16 → rwv w598 112 (20 * l) = rwv w 112 (20 * l) := fun l hl h6 => ((hx603 _ (by omega)).2 (by omega)).trans (ro588 l hl h6)
              have hq606 := pk604
              unfold PK PS at hq606
              clear hq589
              have pj607 : PK w359 w598 := PK.tr pj590 (PK.fr hF601 (by decide) (by decide) pk587.2.2.2.1)
              have hq608 := pj607
              unfold PK PS at hq608
              clear hq591
              have ms609 : mu w598 < mu w := Nat.lt_of_le_of_lt (PK.fr hF601 (by decide) (by decide) pk587.2.2.2.1).2.1 ms592
              refine xg_t (xg_iinc (u := 3) (z := 4) (l1 := [(0, (2, 82)), (1, (0, kr)), (2, (0, mo))]) rfl rfl (by decide) rfl) ?_
              refine xg_t (xg_goto) ?_
              refine xg_t (xg_blq rfl) ?_
              refine xg_t (xg_iload (va := (0, 4)) rfl rfl) ?_
              refine xg_t (xg_const) ?_
              refine xg_t (xg_icT (u := 4) (v := 4) rfl xnm0 xnm0 (by decide)) ?_
              refine xg_t (xg_blq rfl) ?_
              refine xg_t (xg_iinc (u := kr) (z := kr + 1) (l1 := [(3, (0, 4)), (0, (2, 82)), (2, (0, mo))]) rfl rfl (by omega) rfl) ?_
              refine xg_t (xg_aload (va := (2, 82)) rfl rfl) ?_
              refine xg_t (xg_bip) ?_
              refine xg_cVi mX12_takes (vs := [(0, 51)]) (rest := []) (cn1 := 0) (sl1 := 0) rfl (mTakes (hI600) (by omega) pk604.2.2.2.1) rfl (hF601.get (by decide) (hF584.get (by decide) (hF567.get (by decide) (hF550.get (by decide) h82_537)))) rfl rfl rfl rfl rfl rfl (fun n614 w610 hq611 => ?_)
              obtain ⟨hn615, hI612, hF613⟩ := hq611
              clear hb508 hb510 hb512 hb514 hb516 hb518 hb520 hb522 hb524 hb526 hb530 hb532 hb534 hb536
              obtain ⟨hn616, hn617, hn618⟩ := hn615
              have pk619 : PK w w610 := PK.tr pk604 hn617
              have ro620 : ∀ l, l < fld w 82 14 → l < 16 → rwv w610 112 (20 * l) = rwv w 112 (20 * l) := fun l hl h6 => (rwv_fr hF613 (by decide)).trans (ro605 l hl h6)
              have hq621 := pk619
              unfold PK PS at hq621
              clear hq606
              have pj622 : PK w359 w610 := PK.tr pj607 hn617
              have hq623 := pj622
              unfold PK PS at hq623
              clear hq608
              have ms624 : mu w610 < mu w := Nat.lt_of_le_of_lt hn617.2.1 ms609
              have hu625 : n614 = 1 → mu w610 < mu w359 := fun h => Nat.lt_of_lt_of_le (hn618 h) pj607.2.1
              refine xg_t (xg_istore (l1 := [(1, (0, kr + 1)), (3, (0, 4)), (0, (2, 82))]) rfl rfl rfl) ?_
              refine xg_t (xg_goto) ?_
              refine xg_t (xg_drop (l1 := [(0, (2, 82)), (1, (0, kr + 1)), (2, (0, n614))]) (List.forall_mem_cons.mpr ⟨List.mem_cons_of_mem _ (List.mem_cons_of_mem _ (List.mem_cons_of_mem _ (List.mem_cons_self))), List.forall_mem_cons.mpr ⟨List.mem_cons_of_mem _ (List.mem_cons_self), List.forall_mem_cons.mpr ⟨List.mem_cons_self, fun _ h => absurd h List.not_mem_nil⟩⟩⟩)) ?_
              exact ih357 (kr + 1) n614 w610 (by omega) (by omega) (by omega) (hI612) (((((((hF361.tr (hF499.up (by decide))).tr (hF550.up (by decide))).tr (hF567.up (by decide))).tr (hF584.up (by decide))).tr (hF601.up (by decide))).tr (hF613.up (by decide)))) (⟨pk619, ro620, ms624, by omega, by omega, fun _ => by omega, fun h => by omega⟩)
      exact key356 _ 0 1 w341 (Nat.lt_succ_self _) (by omega) (by omega) (hI343) (((hF332.up (by decide)).tr (hF344.up (by decide)))) (⟨pk350, ro351, ms355, by omega, by omega, fun _ => by omega, fun h => by omega⟩)
end XME
end
section
/-! the model: rules told, asked -/
section XMF
variable {d : Nat} {w : List (List xE)} {bd : List (Nat × Nat)} {fc : List (Nat × Nat × Bool)} {rr : Nat × Nat}
set_option maxHeartbeats 60000000 in
theorem mRules (hI : xMnv w)  : xPi (d + 8) mX12_rules [(2, 82)] w bd fc rr (fun n w' => (n ≤ 4294967295 ∧ rwv w' 83 15 = 0 ∧ ∀ j, (j < 15 ∨ 17 < j) → j ≠ 902 → (j < 1020 ∨ 1340 ≤ j) → j < 5360 → rwv w' 83 j = rwv w 83 j) ∧ xMnv w' ∧ xFr [82, 83, 112, 113] w w') := by
  refine xPi.of ?_
  show xTo (d + 8) mX12_rules (0, [], [(0, (2, 82))], [], (w, bd, fc, 0, 0, rr)) (fun φ => ∃ n w', xEnd 1 [(0, n)] (w', bd, fc, 0, 0, rr) φ ∧ (n ≤ 4294967295 ∧ rwv w' 83 15 = 0 ∧ ∀ j, (j < 15 ∨ 17 < j) → j ≠ 902 → (j < 1020 ∨ 1340 ≤ j) → j < 5360 → rwv w' 83 j = rwv w 83 j) ∧ xMnv w' ∧ xFr [82, 83, 112, 113] w w')
  refine xoCh82 (xqc82 hI : cp82 (wget w 82)) (fun f82_1 f82_3 f82_5 f82_7 f82_9 f82_11 f82_13 f82_15 f82_17 f82_19 f82_21 f82_22 f82_23 f82_25 f82_27 f82_29 h82_31 hb2 hb4 hb6 hb8 hb10 hb12 hb14 hb16 hb18 hb20 hb24 hb26 hb28 hb30 hb32 => ?_)
  refine xg_t (xg_blq rfl) ?_
  refine xg_t (xg_aload (va := (2, 82)) rfl rfl) ?_
  refine xg_t (xg_const) ?_
  refine xg_cVv mX12_begins (vs := [(0, 1)]) (rest := []) (cn1 := 0) (sl1 := 0) rfl (mBegins1 (hI)) rfl h82_31 rfl rfl rfl rfl rfl rfl (fun w33 hq34 => ?_)
  obtain ⟨hI35, hF36, hx37⟩ := hq34
  obtain ⟨hg38, hg39, hg40, hg41, hg42⟩ := hx37
  refine xg_t (xg_aload (va := (2, 82)) rfl rfl) ?_
  refine xoCh82 (xqc82 hI35 : cp82 (wget w33 82)) (fun f82_43 f82_45 f82_47 f82_49 f82_51 f82_53 f82_55 f82_57 f82_59 f82_61 f82_63 f82_64 f82_65 f82_67 f82_69 f82_71 h82_73 hb44 hb46 hb48 hb50 hb52 hb54 hb56 hb58 hb60 hb62 hb66 hb68 hb70 hb72 hb74 => ?_)
  refine xg_cVv mX12_advance (vs := []) (rest := []) (cn1 := 0) (sl1 := 0) rfl (mAdvance (hI35)) rfl h82_73 rfl rfl rfl rfl rfl rfl (fun w75 hq76 => ?_)
  obtain ⟨hI77, hF78, hx79⟩ := hq76
  obtain ⟨hv80, hv81, hv82, hv83⟩ := hx79
  have hf84 := FA_fr hF78 (by decide)
  have kk85 := hg42.k (K83.fr hF78 (by decide))
  have hD86 : RD w75 := ⟨by omega, fun l hl => by omega⟩
  have key87 : ∀ (m89 : Nat) (w90 : List (List xE)), 2 * mu w90 + (1 - fld w90 82 10) < m89 → xMnv w90 → xFr [82, 83, 112, 113] w w90 → (PS w90 ∧ fld w90 82 14 + mu w90 ≤ 1001 ∧ (FA w90 ≠ 0 ∨ RD w90) ∧ K15 w w90) → xTo (d + 8) mX12_rules (9, [], [(0, (2, 82))], [], (w90, bd, fc, 0, 0, rr)) (fun φ => ∃ n w', xEnd 1 [(0, n)] (w', bd, fc, 0, 0, rr) φ ∧ (n ≤ 4294967295 ∧ rwv w' 83 15 = 0 ∧ ∀ j, (j < 15 ∨ 17 < j) → j ≠ 902 → (j < 1020 ∨ 1340 ≤ j) → j < 5360 → rwv w' 83 j = rwv w 83 j) ∧ xMnv w' ∧ xFr [82, 83, 112, 113] w w') := by
    intro m89
    induction m89 with
    | zero => intro w90 hz; exact absurd hz (Nat.not_lt_zero _)
    | succ m89 ih88 =>
      intro w90 hm94 hI91 hF92 he93
      obtain ⟨hz95, hz96, hz97, hz98⟩ := he93
      unfold PS at hz95
      refine xoCh82 (xqc82 hI91 : cp82 (wget w90 82)) (fun f82_99 f82_101 f82_103 f82_105 f82_107 f82_109 f82_111 f82_113 f82_115 f82_117 f82_119 f82_120 f82_121 f82_123 f82_125 f82_127 h82_129 hb100 hb102 hb104 hb106 hb108 hb110 hb112 hb114 hb116 hb118 hb122 hb124 hb126 hb128 hb130 => ?_)
      have hf131 : fld w90 82 4 = f82_103 := fld_of h82_129
      have hf132 : fld w90 82 5 = f82_105 := fld_of h82_129
      have hf133 : fld w90 82 7 = f82_109 := fld_of h82_129
      have hf134 : fld w90 82 10 = f82_115 := fld_of h82_129
      have hf135 : fld w90 82 14 = f82_117 := fld_of h82_129
      have hu136 : mu w90 = 2 * (fld w90 82 4 - fld w90 82 5) + min 1 (fld w90 82 7) := rfl
      refine xg_t (xg_blq rfl) ?_
      refine xg_t (xg_aload (va := (2, 82)) rfl rfl) ?_
      refine xg_t (xg_getf (va := (0, f82_115)) h82_129 rfl) ?_
      by_cases hc137 : f82_115 = 0
      · refine xg_t (xg_ifF (u := f82_115) rfl xnm0 (xj_neF hc137)) ?_
        refine xg_t (xg_aload (va := (2, 82)) rfl rfl) ?_
        refine xg_t (xg_getf (va := (0, f82_109)) h82_129 rfl) ?_
        by_cases hc138 : f82_109 = 0
        · refine xg_t (xg_ifT (u := f82_109) rfl xnm0 (xj_eqT hc138)) ?_
          refine xg_t (xg_blq rfl) ?_
          refine xoX83 (xqc83 hI91 : cpx83 (wget w90 83)) (fun g83_139 h83_140 hb141 hx142 => ?_)
          have hA143 : FA w90 = g83_139 16 := rwv_of h83_140 (by decide)
          refine xoI (xqc112 hI91 : cpI 320 79 4294967295 (wget w90 112)) (fun g112_144 h112_145 hb146 => ?_)
          refine xg_t (xg_aload (va := (2, 82)) rfl rfl) ?_
          refine xg_t (xg_getf (va := (2, 83)) h82_129 rfl) ?_
          refine xg_t (xg_bip) ?_
          refine xg_ialdB (n := 16) (B := 4294967295) h83_140 (hb141) xnm0 (by first | decide | omega) (fun u147 hu148 he149 => ?_)
          by_cases hc150 : u147 = 0
          · refine xg_t (xg_ifT (u := u147) rfl xnm0 (xj_eqT hc150)) ?_
            refine xg_t (xg_blq rfl) ?_
            have hRD := hz97.resolve_left (by omega)
            refine xg_t (xg_const) ?_
            refine xg_t (xg_istore (l1 := [(0, (2, 82))]) rfl rfl rfl) ?_
            refine xg_t (xg_drop (l1 := [(0, (2, 82)), (1, (0, 0))]) (List.forall_mem_cons.mpr ⟨List.mem_cons_of_mem _ (List.mem_cons_self), List.forall_mem_cons.mpr ⟨List.mem_cons_self, fun _ h => absurd h List.not_mem_nil⟩⟩)) ?_
            refine cpRul 320 0 w90 g83_139 (by decide) h83_140 hb141 h112_145 hb146 h82_129 (fun w151 g152 hc153 hc154 hc155 hc156 hc157 => ?_)
            refine xg_t (xg_blq rfl) ?_
            refine xg_t (xg_aload (va := (2, 82)) rfl rfl) ?_
            refine xg_t (xg_getf (va := (2, 83)) (hc155.get (by decide) h82_129) rfl) ?_
            refine xg_t (xg_sip) ?_
            refine xg_t (xg_aload (va := (2, 82)) rfl rfl) ?_
            refine xg_t (xg_getf (va := (0, f82_117)) (hc155.get (by decide) h82_129) rfl) ?_
            have hn158 : f82_117 ≤ 4294967295 := hb118
            refine xg_iastK (n := 902) (u := f82_117) hc153 xnm0 xnm0 rfl (by first | decide | omega) (fun w159 hr160 hb161 => ?_)
            have hb162 : ∀ j, (fun j => if j = 902 then f82_117 else g152 j) j ≤ 4294967295 := xrb (by omega) (hc154)
            obtain ⟨g163, hg164⟩ : ∃ g : Nat → Nat, g = (fun j => if j = 902 then f82_117 else g152 j) := ⟨_, rfl⟩
            rw [← hg164] at hr160
            have he165 : g163 902 = f82_117 := by rw [hg164]; exact if_pos rfl
            have hk166 : ∀ j, j ≠ 902 → g163 j = g152 j := fun j hj => by rw [hg164]; exact if_neg hj
            rw [← hg164] at hb162
            have hR168 : ∀ l, l < f82_117 → g112_144 (20 * l) ≤ 4 := fun l hl => by
              have q1 := hRD.1
              rw [← rwv_of h112_145 (show 20 * l < 320 by omega)]
              exact hRD.2 l (by omega)
            have hx167 : okA g163 := rules_ok hx142 hc156 hc157 (by have q1 := hRD.1; omega) hR168 he165 hk166
            refine xg_t (xg_aload (va := (2, 82)) rfl rfl) ?_
            refine xg_t (xg_getf (va := (0, f82_117)) (hb161.get (by decide) (hc155.get (by decide) h82_129)) rfl) ?_
            have ho169 : ∀ j, j ≠ 902 → (j < 1020 ∨ 1340 ≤ j) → g163 j = g83_139 j := fun j h1 h2 => (hk166 j h1).trans (hc157 j (by omega))
            exact xg_e ⟨f82_117, w159, ⟨rfl, rfl⟩, ⟨by omega, (rwv_of hr160 (by decide)).trans ((ho169 15 (by omega) (by omega)).trans ((rwv_of h83_140 (by decide)).symm.trans hz98.1)), fun j h1 h2 h3 h4 => (rwv_of hr160 h4).trans ((ho169 j h2 h3).trans ((rwv_of h83_140 h4).symm.trans (hz98.2 j h4 (by omega) (by omega) (by omega))))⟩, xMnv.up (S := [83]) hI91 ((xFr.of (S := [83]) hc155 (by decide)).tr (xFr.of (S := [83]) hb161 (by decide))) (List.forall_mem_cons.mpr ⟨xqu83 (show cpx83 (wget w159 83) from ⟨_, hr160, hb162, hx167⟩), fun _ h => absurd h List.not_mem_nil⟩), (hF92.tr ((xFr.of (S := [82, 83, 112, 113]) hc155 (by decide)).tr (xFr.of (S := [82, 83, 112, 113]) hb161 (by decide))))⟩
          · refine xg_t (xg_ifF (u := u147) rfl xnm0 (xj_eqF hc150)) ?_
            refine xg_t (xg_const) ?_
            exact xg_e ⟨4294967295, w90, ⟨rfl, rfl⟩, ⟨by omega, hz98.1, fun j h1 h2 h3 h4 => hz98.2 j h4 (by omega) (by omega) (by omega)⟩, hI91, hF92⟩
        · refine xg_t (xg_ifF (u := f82_109) rfl xnm0 (xj_eqF hc138)) ?_
          refine xg_t (xg_aload (va := (2, 82)) rfl rfl) ?_
          refine xg_cVv mX12_aRule (vs := []) (rest := []) (cn1 := 0) (sl1 := 0) rfl (mARule (hI91) hz95 (by omega) (by omega)) rfl h82_129 rfl rfl rfl rfl rfl rfl (fun w170 hq171 => ?_)
          obtain ⟨hI172, hF173, hx174⟩ := hq171
          obtain ⟨ha175, ha176, ha177, ha178, ha179⟩ := hx174
          have kk180 := hz98.k ha179
          have hD181 : FA w170 ≠ 0 ∨ RD w170 := by
            rcases hz97 with q | q
            · exact Or.inl (ha175 q)
            · rcases ha178 with r | r
              · exact Or.inl r
              · exact Or.inr (r q)
          refine xg_t (xg_goto) ?_
          exact ih88 w170 (by rcases ha177 with ⟨c1, c2, c3⟩ | ⟨c1, c2⟩ <;> omega) (hI172) ((hF92.tr (hF173.up (by decide)))) (⟨ha176, by rcases ha177 with ⟨c1, c2, c3⟩ | ⟨c1, c2⟩ <;> omega, hD181, kk180⟩)
      · refine xg_t (xg_ifT (u := f82_115) rfl xnm0 (xj_neT hc137)) ?_
        refine xg_t (xg_blq rfl) ?_
        refine xoX83 (xqc83 hI91 : cpx83 (wget w90 83)) (fun g83_182 h83_183 hb184 hx185 => ?_)
        have hA186 : FA w90 = g83_182 16 := rwv_of h83_183 (by decide)
        refine xoI (xqc112 hI91 : cpI 320 79 4294967295 (wget w90 112)) (fun g112_187 h112_188 hb189 => ?_)
        refine xg_t (xg_aload (va := (2, 82)) rfl rfl) ?_
        refine xg_t (xg_getf (va := (2, 83)) h82_129 rfl) ?_
        refine xg_t (xg_bip) ?_
        refine xg_ialdB (n := 16) (B := 4294967295) h83_183 (hb184) xnm0 (by first | decide | omega) (fun u190 hu191 he192 => ?_)
        by_cases hc193 : u190 = 0
        · refine xg_t (xg_ifT (u := u190) rfl xnm0 (xj_eqT hc193)) ?_
          refine xg_t (xg_blq rfl) ?_
          have hRD := hz97.resolve_left (by omega)
          refine xg_t (xg_const) ?_
          refine xg_t (xg_istore (l1 := [(0, (2, 82))]) rfl rfl rfl) ?_
          refine xg_t (xg_drop (l1 := [(0, (2, 82)), (1, (0, 0))]) (List.forall_mem_cons.mpr ⟨List.mem_cons_of_mem _ (List.mem_cons_self), List.forall_mem_cons.mpr ⟨List.mem_cons_self, fun _ h => absurd h List.not_mem_nil⟩⟩)) ?_
          refine cpRul 320 0 w90 g83_182 (by decide) h83_183 hb184 h112_188 hb189 h82_129 (fun w194 g195 hc196 hc197 hc198 hc199 hc200 => ?_)
          refine xg_t (xg_blq rfl) ?_
          refine xg_t (xg_aload (va := (2, 82)) rfl rfl) ?_
          refine xg_t (xg_getf (va := (2, 83)) (hc198.get (by decide) h82_129) rfl) ?_
          refine xg_t (xg_sip) ?_
          refine xg_t (xg_aload (va := (2, 82)) rfl rfl) ?_
          refine xg_t (xg_getf (va := (0, f82_117)) (hc198.get (by decide) h82_129) rfl) ?_
          have hn201 : f82_117 ≤ 4294967295 := hb118
          refine xg_iastK (n := 902) (u := f82_117) hc196 xnm0 xnm0 rfl (by first | decide | omega) (fun w202 hr203 hb204 => ?_)
          have hb205 : ∀ j, (fun j => if j = 902 then f82_117 else g195 j) j ≤ 4294967295 := xrb (by omega) (hc197)
          obtain ⟨g206, hg207⟩ : ∃ g : Nat → Nat, g = (fun j => if j = 902 then f82_117 else g195 j) := ⟨_, rfl⟩
          rw [← hg207] at hr203
          have he208 : g206 902 = f82_117 := by rw [hg207]; exact if_pos rfl
          have hk209 : ∀ j, j ≠ 902 → g206 j = g195 j := fun j hj => by rw [hg207]; exact if_neg hj
          rw [← hg207] at hb205
          have hR211 : ∀ l, l < f82_117 → g112_187 (20 * l) ≤ 4 := fun l hl => by
            have q1 := hRD.1
            rw [← rwv_of h112_188 (show 20 * l < 320 by omega)]
            exact hRD.2 l (by omega)
          have hx210 : okA g206 := rules_ok hx185 hc199 hc200 (by have q1 := hRD.1; omega) hR211 he208 hk209
          refine xg_t (xg_aload (va := (2, 82)) rfl rfl) ?_
          refine xg_t (xg_getf (va := (0, f82_117)) (hb204.get (by decide) (hc198.get (by decide) h82_129)) rfl) ?_
          have ho212 : ∀ j, j ≠ 902 → (j < 1020 ∨ 1340 ≤ j) → g206 j = g83_182 j := fun j h1 h2 => (hk209 j h1).trans (hc200 j (by omega))
          exact xg_e ⟨f82_117, w202, ⟨rfl, rfl⟩, ⟨by omega, (rwv_of hr203 (by decide)).trans ((ho212 15 (by omega) (by omega)).trans ((rwv_of h83_183 (by decide)).symm.trans hz98.1)), fun j h1 h2 h3 h4 => (rwv_of hr203 h4).trans ((ho212 j h2 h3).trans ((rwv_of h83_183 h4).symm.trans (hz98.2 j h4 (by omega) (by omega) (by omega))))⟩, xMnv.up (S := [83]) hI91 ((xFr.of (S := [83]) hc198 (by decide)).tr (xFr.of (S := [83]) hb204 (by decide))) (List.forall_mem_cons.mpr ⟨xqu83 (show cpx83 (wget w202 83) from ⟨_, hr203, hb205, hx210⟩), fun _ h => absurd h List.not_mem_nil⟩), (hF92.tr ((xFr.of (S := [82, 83, 112, 113]) hc198 (by decide)).tr (xFr.of (S := [82, 83, 112, 113]) hb204 (by decide))))⟩
        · refine xg_t (xg_ifF (u := u190) rfl xnm0 (xj_eqF hc193)) ?_
          refine xg_t (xg_const) ?_
          exact xg_e ⟨4294967295, w90, ⟨rfl, rfl⟩, ⟨by omega, hz98.1, fun j h1 h2 h3 h4 => hz98.2 j h4 (by omega) (by omega) (by omega)⟩, hI91, hF92⟩
  exact key87 _ w75 (Nat.lt_succ_self _) (hI77) (((hF36.up (by decide)).tr (hF78.up (by decide)))) (⟨(show fld w75 82 10 = 0 ∨ FA w75 ≠ 0 by omega), by omega, Or.inr hD86, kk85⟩)
theorem mSlides (hI : xMnv w)  : xPi d mX12_slides [(2, 82)] w bd fc rr (fun n w' => (n ≤ 4294967295) ∧ xMnv w' ∧ xFr [] w w') := by
  refine xPi.of ?_
  show xTo d mX12_slides (0, [], [(0, (2, 82))], [], (w, bd, fc, 0, 0, rr)) (fun φ => ∃ n w', xEnd 1 [(0, n)] (w', bd, fc, 0, 0, rr) φ ∧ (n ≤ 4294967295) ∧ xMnv w' ∧ xFr [] w w')
  refine xoCh82 (xqc82 hI : cp82 (wget w 82)) (fun f82_1 f82_3 f82_5 f82_7 f82_9 f82_11 f82_13 f82_15 f82_17 f82_19 f82_21 f82_22 f82_23 f82_25 f82_27 f82_29 h82_31 hb2 hb4 hb6 hb8 hb10 hb12 hb14 hb16 hb18 hb20 hb24 hb26 hb28 hb30 hb32 => ?_)
  refine xoX83 (xqc83 hI : cpx83 (wget w 83)) (fun g83_33 h83_34 hb35 hx36 => ?_)
  refine xg_t (xg_blq rfl) ?_
  refine xg_t (xg_const) ?_
  refine xg_t (xg_istore (l1 := [(0, (2, 82))]) rfl rfl rfl) ?_
  refine xg_t (xg_const) ?_
  refine xg_t (xg_istore (l1 := [(1, (0, 0)), (0, (2, 82))]) rfl rfl rfl) ?_
  refine xg_t (xg_drop (l1 := [(0, (2, 82)), (1, (0, 0)), (2, (0, 0))]) (List.forall_mem_cons.mpr ⟨List.mem_cons_of_mem _ (List.mem_cons_of_mem _ (List.mem_cons_self)), List.forall_mem_cons.mpr ⟨List.mem_cons_of_mem _ (List.mem_cons_self), List.forall_mem_cons.mpr ⟨List.mem_cons_self, fun _ h => absurd h List.not_mem_nil⟩⟩⟩)) ?_
  have key37 : ∀ (m39 : Nat) (is_ ki : Nat) (w40 : List (List xE)), 6 - ki < m39 → is_ ≤ 4294967295 → ki ≤ 6 → xMnv w40 → xFr [] w w40 → xTo d mX12_slides (4, [], [(0, (2, 82)), (1, (0, is_)), (2, (0, ki))], [], (w40, bd, fc, 0, 0, rr)) (fun φ => ∃ n w', xEnd 1 [(0, n)] (w', bd, fc, 0, 0, rr) φ ∧ (n ≤ 4294967295) ∧ xMnv w' ∧ xFr [] w w') := by
    intro m39
    induction m39 with
    | zero => intro is_ ki w40 hz; exact absurd hz (Nat.not_lt_zero _)
    | succ m39 ih38 =>
      intro is_ ki w40 hm45 hn43 hn44 hI41 hF42
      refine xg_t (xg_blq rfl) ?_
      refine xg_t (xg_iload (va := (0, ki)) rfl rfl) ?_
      refine xg_t (xg_aload (va := (2, 82)) rfl rfl) ?_
      refine xg_t (xg_getf (va := (2, 83)) (hF42.get (by decide) h82_31) rfl) ?_
      refine xg_t (xg_const) ?_
      refine xg_ialdB (n := 0) (B := 4294967295) (h83_34.fr hF42 (by decide)) (hb35) xnm0 (by first | decide | omega) (fun u46 hu47 he48 => ?_)
      have hl49 : u46 ≤ 6 := by rw [← he48]; exact hx36.l0
      refine xg_t (xg_const) ?_
      by_cases hc50 : 1 ≤ u46
      · refine xg_t (xg_isub (u := u46) (v := 1) (z := u46 - 1) xnm0 xnm0 (by omega)) ?_
        by_cases hc51 : ki < (u46 - 1)
        · refine xg_t (xg_icF (u := ki) (v := u46 - 1) rfl xnm0 xnm0 (xj_geF hc51 (by omega))) ?_
          refine xg_t (xg_iload (va := (0, is_)) rfl rfl) ?_
          refine xg_t (xg_aload (va := (2, 82)) rfl rfl) ?_
          refine xg_t (xg_getf (va := (2, 83)) (hF42.get (by decide) h82_31) rfl) ?_
          refine xg_t (xg_bip) ?_
          refine xg_t (xg_const) ?_
          refine xg_t (xg_iload (va := (0, ki)) rfl rfl) ?_
          refine xg_t (xg_imul (u := 4) (v := ki) (z := 4 * ki) xnm0 xnm0 (by omega)) ?_
          refine xg_t (xg_iadd (u := 20) (v := 4 * ki) (z := 20 + (4 * ki)) xnm0 xnm0 (by omega)) ?_
          refine xg_t (xg_const) ?_
          refine xg_t (xg_iadd (u := 20 + (4 * ki)) (v := 3) (z := (20 + (4 * ki)) + 3) xnm0 xnm0 (by omega)) ?_
          refine xg_ialdB (n := (20 + (4 * ki)) + 3) (B := 4294967295) (h83_34.fr hF42 (by decide)) (hb35) xnm0 (by omega) (fun u52 hu53 he54 => ?_)
          refine xg_k (xg_ior (z := Nat.lor is_ u52) (u := is_) (v := u52) xnm0 xnm0 rfl) (xlor_lt (by omega) (by omega)) (fun z55 hz56 => ?_)
          refine xg_t (xg_istore (l1 := [(0, (2, 82)), (2, (0, ki))]) rfl rfl rfl) ?_
          refine xg_t (xg_iinc (u := ki) (z := ki + 1) (l1 := [(1, (0, z55)), (0, (2, 82))]) rfl rfl (by omega) rfl) ?_
          refine xg_t (xg_goto) ?_
          refine xg_t (xg_drop (l1 := [(0, (2, 82)), (1, (0, z55)), (2, (0, ki + 1))]) (List.forall_mem_cons.mpr ⟨List.mem_cons_of_mem _ (List.mem_cons_of_mem _ (List.mem_cons_self)), List.forall_mem_cons.mpr ⟨List.mem_cons_of_mem _ (List.mem_cons_self), List.forall_mem_cons.mpr ⟨List.mem_cons_self, fun _ h => absurd h List.not_mem_nil⟩⟩⟩)) ?_
          exact ih38 z55 (ki + 1) w40 (by omega) (by omega) (by omega) (hI41) (hF42)
        · refine xg_t (xg_icT (u := ki) (v := u46 - 1) rfl xnm0 xnm0 (xj_geT (by omega) (by omega))) ?_
          refine xg_t (xg_blq rfl) ?_
          refine xg_t (xg_iload (va := (0, is_)) rfl rfl) ?_
          exact xg_e ⟨is_, w40, ⟨rfl, rfl⟩, by omega, hI41, hF42⟩
      · have hz59 : 4294967295 ≤ (u46 + (4294967296 - 1)) % 4294967296 := by omega
        refine xg_t (xg_isub (u := u46) (v := 1) (z := (u46 + (4294967296 - 1)) % 4294967296) xnm0 xnm0 rfl) ?_
        have hz58 : (u46 + (4294967296 - 1)) % 4294967296 < 4294967296 := Nat.mod_lt _ (by decide)
        generalize (u46 + (4294967296 - 1)) % 4294967296 = z57 at hz59 hz58 ⊢
        refine xg_t (xg_icT (u := ki) (v := z57) rfl xnm0 xnm0 (xjs_geT (by unfold xbs; omega))) ?_
        refine xg_t (xg_blq rfl) ?_
        refine xg_t (xg_iload (va := (0, is_)) rfl rfl) ?_
        exact xg_e ⟨is_, w40, ⟨rfl, rfl⟩, by omega, hI41, hF42⟩
  exact key37 _ 0 0 w (Nat.lt_succ_self _) (by omega) (by omega) (hI) (xFr.rf)
theorem mCount {wh : Nat} (hI : xMnv w) (hwh : wh ≤ 4294967295) : xPi (d + 1) mX12_count [(2, 82), (0, wh)] w bd fc rr (fun n w' => (n ≤ 4294967295) ∧ xMnv w' ∧ xFr [] w w') := by
  refine xPi.of ?_
  show xTo (d + 1) mX12_count (0, [], [(0, (2, 82)), (1, (0, wh))], [], (w, bd, fc, 0, 0, rr)) (fun φ => ∃ n w', xEnd 1 [(0, n)] (w', bd, fc, 0, 0, rr) φ ∧ (n ≤ 4294967295) ∧ xMnv w' ∧ xFr [] w w')
  refine xoCh82 (xqc82 hI : cp82 (wget w 82)) (fun f82_1 f82_3 f82_5 f82_7 f82_9 f82_11 f82_13 f82_15 f82_17 f82_19 f82_21 f82_22 f82_23 f82_25 f82_27 f82_29 h82_31 hb2 hb4 hb6 hb8 hb10 hb12 hb14 hb16 hb18 hb20 hb24 hb26 hb28 hb30 hb32 => ?_)
  refine xoX83 (xqc83 hI : cpx83 (wget w 83)) (fun g83_33 h83_34 hb35 hx36 => ?_)
  refine xg_t (xg_blq rfl) ?_
  refine xg_t (xg_iload (va := (0, wh)) rfl rfl) ?_
  by_cases hc37 : wh = 15
  · refine xg_t (xg_swt (ks := [(15, 32), (16, 41), (17, 50), (18, 59)]) (u := wh) (z := 32) rfl rfl rfl xnm0 (xsw_y hc37)) ?_
    refine xg_t (xg_blq rfl) ?_
    refine xg_t (xg_aload (va := (2, 82)) rfl rfl) ?_
    refine xg_t (xg_getf (va := (2, 83)) h82_31 rfl) ?_
    refine xg_t (xg_sip) ?_
    refine xg_ialdB (n := 900) (B := 4294967295) h83_34 (hb35) xnm0 (by first | decide | omega) (fun u38 hu39 he40 => ?_)
    have hl41 : u38 ≤ 4 := by rw [← he40]; exact hx36.l900
    exact xg_e ⟨u38, w, ⟨rfl, rfl⟩, by omega, hI, xFr.rf⟩
  · by_cases hc42 : wh = 16
    · refine xg_t (xg_swt (ks := [(15, 32), (16, 41), (17, 50), (18, 59)]) (u := wh) (z := 41) rfl rfl rfl xnm0 (xsw_n hc37 (xsw_y hc42))) ?_
      refine xg_t (xg_blq rfl) ?_
      refine xg_t (xg_aload (va := (2, 82)) rfl rfl) ?_
      refine xg_t (xg_getf (va := (2, 83)) h82_31 rfl) ?_
      refine xg_t (xg_sip) ?_
      refine xg_ialdB (n := 901) (B := 4294967295) h83_34 (hb35) xnm0 (by first | decide | omega) (fun u43 hu44 he45 => ?_)
      have hl46 : u43 ≤ 12 := by rw [← he45]; exact hx36.l901
      exact xg_e ⟨u43, w, ⟨rfl, rfl⟩, by omega, hI, xFr.rf⟩
    · by_cases hc47 : wh = 17
      · refine xg_t (xg_swt (ks := [(15, 32), (16, 41), (17, 50), (18, 59)]) (u := wh) (z := 50) rfl rfl rfl xnm0 (xsw_n hc37 (xsw_n hc42 (xsw_y hc47)))) ?_
        refine xg_t (xg_blq rfl) ?_
        refine xg_t (xg_aload (va := (2, 82)) rfl rfl) ?_
        refine xg_t (xg_getf (va := (2, 83)) h82_31 rfl) ?_
        refine xg_t (xg_sip) ?_
        refine xg_ialdB (n := 902) (B := 4294967295) h83_34 (hb35) xnm0 (by first | decide | omega) (fun u48 hu49 he50 => ?_)
        have hl51 : u48 ≤ 16 := by rw [← he50]; exact hx36.l902
        exact xg_e ⟨u48, w, ⟨rfl, rfl⟩, by omega, hI, xFr.rf⟩
      · by_cases hc52 : wh = 18
        · refine xg_t (xg_swt (ks := [(15, 32), (16, 41), (17, 50), (18, 59)]) (u := wh) (z := 59) rfl rfl rfl xnm0 (xsw_n hc37 (xsw_n hc42 (xsw_n hc47 (xsw_y hc52))))) ?_
          refine xg_t (xg_blq rfl) ?_
          refine xg_t (xg_aload (va := (2, 82)) rfl rfl) ?_
          refine xg_cVi mX12_cracksSeen (vs := []) (rest := []) (cn1 := 0) (sl1 := 0) rfl (mSeen (hI)) rfl h82_31 rfl rfl rfl rfl rfl rfl (fun n57 w53 hq54 => ?_)
          obtain ⟨hn58, hI55, hF56⟩ := hq54
          exact xg_e ⟨n57, w53, ⟨rfl, rfl⟩, by omega, hI55, (hF56.up (by decide))⟩
        · refine xg_t (xg_swt (ks := [(15, 32), (16, 41), (17, 50), (18, 59)]) (u := wh) (z := 64) rfl rfl rfl xnm0 (xsw_n hc37 (xsw_n hc42 (xsw_n hc47 (xsw_n hc52 (xsw_d)))))) ?_
          refine xg_t (xg_blq rfl) ?_
          refine xg_t (xg_iload (va := (0, wh)) rfl rfl) ?_
          refine xg_t (xg_const) ?_
          refine xg_t (xg_bip) ?_
          refine xg_t (xg_cSr mX12_isIn (vs := [(0, wh), (0, 0), (0, 14)]) (rest := []) (rs := [(0, if 0 ≤ wh ∧ wh ≤ 14 then 1 else 0)]) (cn1 := 0) (sl1 := 0) rfl (mIsIn (by omega) (by omega) (by omega)) rfl rfl rfl rfl rfl rfl rfl rfl) ?_
          by_cases hc59 : 0 ≤ wh ∧ wh ≤ 14
          · refine xg_t (xg_ifF (u := (if 0 ≤ wh ∧ wh ≤ 14 then 1 else 0)) rfl xnm0 (xj_eqF (xite1 hc59))) ?_
            refine xg_t (xg_aload (va := (2, 82)) rfl rfl) ?_
            refine xg_t (xg_getf (va := (2, 83)) h82_31 rfl) ?_
            refine xg_t (xg_iload (va := (0, wh)) rfl rfl) ?_
            refine xg_ialdB (n := wh) (B := 4294967295) h83_34 (hb35) xnm0 (by omega) (fun u60 hu61 he62 => ?_)
            refine xg_t (xg_goto) ?_
            refine xg_t (xg_blq rfl) ?_
            exact xg_e ⟨u60, w, ⟨rfl, rfl⟩, by omega, hI, xFr.rf⟩
          · refine xg_t (xg_ifT (u := (if 0 ≤ wh ∧ wh ≤ 14 then 1 else 0)) rfl xnm0 (xj_eqT (xite0 hc59))) ?_
            refine xg_t (xg_blq rfl) ?_
            refine xg_t (xg_bip) ?_
            refine xg_t (xg_blq rfl) ?_
            exact xg_e ⟨4294967294, w, ⟨rfl, rfl⟩, by first | decide | omega, hI, xFr.rf⟩
theorem mAsked {wh : Nat} (hI : xMnv w) (hwh : wh ≤ 4294967295) : xPi (d + 7) mX12_asked [(2, 82), (0, wh)] w bd fc rr (fun n w' => (n ≤ 4294967295) ∧ xMnv w' ∧ xFr [82, 88, 90, 91, 92, 93, 94, 95, 96, 97, 98, 99, 100, 101, 102, 103, 104, 105, 106, 107, 111] w w') := by
  refine xPi.of ?_
  show xTo (d + 7) mX12_asked (0, [], [(0, (2, 82)), (1, (0, wh))], [], (w, bd, fc, 0, 0, rr)) (fun φ => ∃ n w', xEnd 1 [(0, n)] (w', bd, fc, 0, 0, rr) φ ∧ (n ≤ 4294967295) ∧ xMnv w' ∧ xFr [82, 88, 90, 91, 92, 93, 94, 95, 96, 97, 98, 99, 100, 101, 102, 103, 104, 105, 106, 107, 111] w w')
  refine xoCh82 (xqc82 hI : cp82 (wget w 82)) (fun f82_1 f82_3 f82_5 f82_7 f82_9 f82_11 f82_13 f82_15 f82_17 f82_19 f82_21 f82_22 f82_23 f82_25 f82_27 f82_29 h82_31 hb2 hb4 hb6 hb8 hb10 hb12 hb14 hb16 hb18 hb20 hb24 hb26 hb28 hb30 hb32 => ?_)
  refine xoX83 (xqc83 hI : cpx83 (wget w 83)) (fun g83_33 h83_34 hb35 hx36 => ?_)
  refine xg_t (xg_blq rfl) ?_
  refine xg_t (xg_iload (va := (0, wh)) rfl rfl) ?_
  by_cases hc37 : wh = 20
  · refine xg_t (xg_swt (ks := [(20, 56), (21, 61), (22, 74), (23, 81), (24, 99), (25, 106), (26, 111), (27, 116), (28, 152), (29, 157)]) (u := wh) (z := 56) rfl rfl rfl xnm0 (xsw_y hc37)) ?_
    refine xg_t (xg_blq rfl) ?_
    refine xg_t (xg_aload (va := (2, 82)) rfl rfl) ?_
    refine xg_cVi mX12_slides (vs := []) (rest := []) (cn1 := 0) (sl1 := 0) rfl (mSlides (hI)) rfl h82_31 rfl rfl rfl rfl rfl rfl (fun n42 w38 hq39 => ?_)
    obtain ⟨hn43, hI40, hF41⟩ := hq39
    exact xg_e ⟨n42, w38, ⟨rfl, rfl⟩, by omega, hI40, (hF41.up (by decide))⟩
  · by_cases hc44 : wh = 21
    · refine xg_t (xg_swt (ks := [(20, 56), (21, 61), (22, 74), (23, 81), (24, 99), (25, 106), (26, 111), (27, 116), (28, 152), (29, 157)]) (u := wh) (z := 61) rfl rfl rfl xnm0 (xsw_n hc37 (xsw_y hc44))) ?_
      refine xg_t (xg_blq rfl) ?_
      refine xg_t (xg_aload (va := (2, 82)) rfl rfl) ?_
      refine xg_cVi mX12_cracksSeen (vs := []) (rest := []) (cn1 := 0) (sl1 := 0) rfl (mSeen (hI)) rfl h82_31 rfl rfl rfl rfl rfl rfl (fun n49 w45 hq46 => ?_)
      obtain ⟨hn50, hI47, hF48⟩ := hq46
      by_cases hc51 : n49 = 0
      · refine xg_t (xg_ifF (u := n49) rfl xnm0 (xj_neF hc51)) ?_
        refine xg_t (xg_const) ?_
        refine xg_t (xg_goto) ?_
        refine xg_t (xg_blq rfl) ?_
        exact xg_e ⟨1, w45, ⟨rfl, rfl⟩, by first | decide | omega, hI47, (hF48.up (by decide))⟩
      · refine xg_t (xg_ifT (u := n49) rfl xnm0 (xj_neT hc51)) ?_
        refine xg_t (xg_blq rfl) ?_
        refine xg_t (xg_const) ?_
        refine xg_t (xg_blq rfl) ?_
        exact xg_e ⟨0, w45, ⟨rfl, rfl⟩, by first | decide | omega, hI47, (hF48.up (by decide))⟩
    · by_cases hc52 : wh = 22
      · refine xg_t (xg_swt (ks := [(20, 56), (21, 61), (22, 74), (23, 81), (24, 99), (25, 106), (26, 111), (27, 116), (28, 152), (29, 157)]) (u := wh) (z := 74) rfl rfl rfl xnm0 (xsw_n hc37 (xsw_n hc44 (xsw_y hc52)))) ?_
        refine xg_t (xg_blq rfl) ?_
        refine xg_t (xg_aload (va := (2, 82)) rfl rfl) ?_
        refine xg_t (xg_getf (va := (2, 83)) h82_31 rfl) ?_
        refine xg_t (xg_const) ?_
        refine xg_ialdB (n := 0) (B := 4294967295) h83_34 (hb35) xnm0 (by first | decide | omega) (fun u53 hu54 he55 => ?_)
        have hl56 : u53 ≤ 6 := by rw [← he55]; exact hx36.l0
        exact xg_e ⟨u53, w, ⟨rfl, rfl⟩, by omega, hI, xFr.rf⟩
      · by_cases hc57 : wh = 23
        · refine xg_t (xg_swt (ks := [(20, 56), (21, 61), (22, 74), (23, 81), (24, 99), (25, 106), (26, 111), (27, 116), (28, 152), (29, 157)]) (u := wh) (z := 81) rfl rfl rfl xnm0 (xsw_n hc37 (xsw_n hc44 (xsw_n hc52 (xsw_y hc57))))) ?_
          refine xg_t (xg_blq rfl) ?_
          refine xg_t (xg_aload (va := (2, 82)) rfl rfl) ?_
          refine xg_t (xg_getf (va := (2, 83)) h82_31 rfl) ?_
          refine xg_t (xg_const) ?_
          refine xg_ialdB (n := 0) (B := 4294967295) h83_34 (hb35) xnm0 (by first | decide | omega) (fun u58 hu59 he60 => ?_)
          have hl61 : u58 ≤ 6 := by rw [← he60]; exact hx36.l0
          by_cases hc62 : u58 = 0
          · refine xg_t (xg_ifF (u := u58) rfl xnm0 (xj_neF hc62)) ?_
            refine xg_t (xg_const) ?_
            refine xg_t (xg_goto) ?_
            refine xg_t (xg_blq rfl) ?_
            exact xg_e ⟨0, w, ⟨rfl, rfl⟩, by first | decide | omega, hI, xFr.rf⟩
          · refine xg_t (xg_ifT (u := u58) rfl xnm0 (xj_neT hc62)) ?_
            refine xg_t (xg_blq rfl) ?_
            refine xg_t (xg_aload (va := (2, 82)) rfl rfl) ?_
            refine xg_cVi mX12_least (vs := []) (rest := []) (cn1 := 0) (sl1 := 0) rfl (mLeast (hI)) rfl h82_31 rfl rfl rfl rfl rfl rfl (fun n67 w63 hq64 => ?_)
            obtain ⟨hn68, hI65, hF66⟩ := hq64
            refine xg_t (xg_blq rfl) ?_
            exact xg_e ⟨n67, w63, ⟨rfl, rfl⟩, by omega, hI65, (hF66.up (by decide))⟩
        · by_cases hc69 : wh = 24
          · refine xg_t (xg_swt (ks := [(20, 56), (21, 61), (22, 74), (23, 81), (24, 99), (25, 106), (26, 111), (27, 116), (28, 152), (29, 157)]) (u := wh) (z := 99) rfl rfl rfl xnm0 (xsw_n hc37 (xsw_n hc44 (xsw_n hc52 (xsw_n hc57 (xsw_y hc69)))))) ?_
            refine xg_t (xg_blq rfl) ?_
            refine xg_t (xg_aload (va := (2, 82)) rfl rfl) ?_
            refine xg_t (xg_getf (va := (2, 83)) h82_31 rfl) ?_
            refine xg_t (xg_const) ?_
            refine xg_ialdB (n := 5) (B := 4294967295) h83_34 (hb35) xnm0 (by first | decide | omega) (fun u70 hu71 he72 => ?_)
            have hl73 : u70 ≤ 6 := by rw [← he72]; exact hx36.l5
            exact xg_e ⟨u70, w, ⟨rfl, rfl⟩, by omega, hI, xFr.rf⟩
          · by_cases hc74 : wh = 25
            · refine xg_t (xg_swt (ks := [(20, 56), (21, 61), (22, 74), (23, 81), (24, 99), (25, 106), (26, 111), (27, 116), (28, 152), (29, 157)]) (u := wh) (z := 106) rfl rfl rfl xnm0 (xsw_n hc37 (xsw_n hc44 (xsw_n hc52 (xsw_n hc57 (xsw_n hc69 (xsw_y hc74))))))) ?_
              refine xg_t (xg_blq rfl) ?_
              refine xg_t (xg_aload (va := (2, 82)) rfl rfl) ?_
              refine xg_cVi mX12_most (vs := []) (rest := []) (cn1 := 0) (sl1 := 0) rfl (mMost (hI)) rfl h82_31 rfl rfl rfl rfl rfl rfl (fun n79 w75 hq76 => ?_)
              obtain ⟨hn80, hI77, hF78⟩ := hq76
              exact xg_e ⟨n79, w75, ⟨rfl, rfl⟩, by omega, hI77, (hF78.up (by decide))⟩
            · by_cases hc81 : wh = 26
              · refine xg_t (xg_swt (ks := [(20, 56), (21, 61), (22, 74), (23, 81), (24, 99), (25, 106), (26, 111), (27, 116), (28, 152), (29, 157)]) (u := wh) (z := 111) rfl rfl rfl xnm0 (xsw_n hc37 (xsw_n hc44 (xsw_n hc52 (xsw_n hc57 (xsw_n hc69 (xsw_n hc74 (xsw_y hc81)))))))) ?_
                refine xg_t (xg_blq rfl) ?_
                refine xg_t (xg_aload (va := (2, 82)) rfl rfl) ?_
                refine xg_cVi mX12_darks (vs := []) (rest := []) (cn1 := 0) (sl1 := 0) rfl (mDarks (hI)) rfl h82_31 rfl rfl rfl rfl rfl rfl (fun n86 w82 hq83 => ?_)
                obtain ⟨hn87, hI84, hF85⟩ := hq83
                exact xg_e ⟨n86, w82, ⟨rfl, rfl⟩, by omega, hI84, (hF85.up (by decide))⟩
              · by_cases hc88 : wh = 27
                · refine xg_t (xg_swt (ks := [(20, 56), (21, 61), (22, 74), (23, 81), (24, 99), (25, 106), (26, 111), (27, 116), (28, 152), (29, 157)]) (u := wh) (z := 116) rfl rfl rfl xnm0 (xsw_n hc37 (xsw_n hc44 (xsw_n hc52 (xsw_n hc57 (xsw_n hc69 (xsw_n hc74 (xsw_n hc81 (xsw_y hc88))))))))) ?_
                  refine xg_t (xg_blq rfl) ?_
                  refine xg_t (xg_aload (va := (2, 82)) rfl rfl) ?_
                  refine xg_t (xg_const) ?_
                  refine xg_t (xg_const) ?_
                  refine xg_t (xg_aload (va := (2, 82)) rfl rfl) ?_
                  refine xg_t (xg_getf (va := (2, 83)) h82_31 rfl) ?_
                  refine xg_t (xg_bip) ?_
                  refine xg_ialdB (n := 7) (B := 4294967295) h83_34 (hb35) xnm0 (by first | decide | omega) (fun u89 hu90 he91 => ?_)
                  have hl92 : u89 ≤ 10 := by rw [← he91]; exact hx36.l7
                  refine xg_t (xg_aload (va := (2, 82)) rfl rfl) ?_
                  refine xg_t (xg_getf (va := (2, 83)) h82_31 rfl) ?_
                  refine xg_t (xg_bip) ?_
                  refine xg_ialdB (n := 8) (B := 4294967295) h83_34 (hb35) xnm0 (by first | decide | omega) (fun u93 hu94 he95 => ?_)
                  have hl96 : u93 ≤ 10 := by rw [← he95]; exact hx36.l8
                  refine xg_cVi mX12_value (vs := [(0, 0), (0, 0), (0, u89), (0, u93)]) (rest := []) (cn1 := 0) (sl1 := 0) rfl (mValue (hI) (by omega) (by omega) (by omega) (by omega)) rfl h82_31 rfl rfl rfl rfl rfl rfl (fun n101 w97 hq98 => ?_)
                  obtain ⟨hn102, hI99, hF100⟩ := hq98
                  refine xg_t (xg_istore (l1 := [(0, (2, 82)), (1, (0, wh))]) rfl rfl rfl) ?_
                  refine xg_t (xg_iload (va := (0, n101)) rfl rfl) ?_
                  refine xg_t (xg_sip) ?_
                  by_cases hc103 : xbs 9999 < xbs n101
                  · have hc103u := hc103
                    unfold xbs at hc103u
                    have hn104 : n101 ≤ 2147483647 := by omega
                    refine xg_t (xg_icF (u := n101) (v := 9999) rfl xnm0 xnm0 (xjs_leF hc103)) ?_
                    refine xg_t (xg_sip) ?_
                    refine xg_t (xg_goto) ?_
                    refine xg_t (xg_blq rfl) ?_
                    exact xg_e ⟨9999, w97, ⟨rfl, rfl⟩, by first | decide | omega, hI99, (hF100.up (by decide))⟩
                  · have hc103u := hc103
                    unfold xbs at hc103u
                    refine xg_t (xg_icT (u := n101) (v := 9999) rfl xnm0 xnm0 (xjs_leT hc103)) ?_
                    refine xg_t (xg_blq rfl) ?_
                    refine xg_t (xg_iload (va := (0, n101)) rfl rfl) ?_
                    refine xg_t (xg_blq rfl) ?_
                    exact xg_e ⟨n101, w97, ⟨rfl, rfl⟩, by omega, hI99, (hF100.up (by decide))⟩
                · by_cases hc105 : wh = 28
                  · refine xg_t (xg_swt (ks := [(20, 56), (21, 61), (22, 74), (23, 81), (24, 99), (25, 106), (26, 111), (27, 116), (28, 152), (29, 157)]) (u := wh) (z := 152) rfl rfl rfl xnm0 (xsw_n hc37 (xsw_n hc44 (xsw_n hc52 (xsw_n hc57 (xsw_n hc69 (xsw_n hc74 (xsw_n hc81 (xsw_n hc88 (xsw_y hc105)))))))))) ?_
                    refine xg_t (xg_blq rfl) ?_
                    refine xg_t (xg_aload (va := (2, 82)) rfl rfl) ?_
                    refine xg_cVi mX12_cracksSeen (vs := []) (rest := []) (cn1 := 0) (sl1 := 0) rfl (mSeen (hI)) rfl h82_31 rfl rfl rfl rfl rfl rfl (fun n110 w106 hq107 => ?_)
                    obtain ⟨hn111, hI108, hF109⟩ := hq107
                    exact xg_e ⟨n110, w106, ⟨rfl, rfl⟩, by omega, hI108, (hF109.up (by decide))⟩
                  · by_cases hc112 : wh = 29
                    · refine xg_t (xg_swt (ks := [(20, 56), (21, 61), (22, 74), (23, 81), (24, 99), (25, 106), (26, 111), (27, 116), (28, 152), (29, 157)]) (u := wh) (z := 157) rfl rfl rfl xnm0 (xsw_n hc37 (xsw_n hc44 (xsw_n hc52 (xsw_n hc57 (xsw_n hc69 (xsw_n hc74 (xsw_n hc81 (xsw_n hc88 (xsw_n hc105 (xsw_y hc112))))))))))) ?_
                      refine xg_t (xg_blq rfl) ?_
                      refine xg_t (xg_aload (va := (2, 82)) rfl rfl) ?_
                      refine xg_cVi mX12_manyKept (vs := []) (rest := []) (cn1 := 0) (sl1 := 0) rfl (mManyKept (hI)) rfl h82_31 rfl rfl rfl rfl rfl rfl (fun n117 w113 hq114 => ?_)
                      obtain ⟨hn118, hI115, hF116⟩ := hq114
                      exact xg_e ⟨n117, w113, ⟨rfl, rfl⟩, by omega, hI115, (hF116.up (by decide))⟩
                    · refine xg_t (xg_swt (ks := [(20, 56), (21, 61), (22, 74), (23, 81), (24, 99), (25, 106), (26, 111), (27, 116), (28, 152), (29, 157)]) (u := wh) (z := 162) rfl rfl rfl xnm0 (xsw_n hc37 (xsw_n hc44 (xsw_n hc52 (xsw_n hc57 (xsw_n hc69 (xsw_n hc74 (xsw_n hc81 (xsw_n hc88 (xsw_n hc105 (xsw_n hc112 (xsw_d)))))))))))) ?_
                      refine xg_t (xg_blq rfl) ?_
                      refine xg_t (xg_aload (va := (2, 82)) rfl rfl) ?_
                      refine xg_t (xg_getf (va := (2, 83)) h82_31 rfl) ?_
                      refine xg_t (xg_bip) ?_
                      refine xg_ialdB (n := 11) (B := 4294967295) h83_34 (hb35) xnm0 (by first | decide | omega) (fun u119 hu120 he121 => ?_)
                      exact xg_e ⟨u119, w, ⟨rfl, rfl⟩, by omega, hI, xFr.rf⟩
theorem mHolds {g0 : Nat → Nat} {li : Nat} (hI : xMnv w) (hl15 : li ≤ 15) (hli : li < g0 902) (hR83 : xRow w 83 5360 50 g0) (hgb : ∀ j, g0 j ≤ 4294967295) (hok : okA g0) : xPi (d + 8) mX12_holds [(2, 82), (0, li)] w bd fc rr (fun n w' => (n ≤ 1) ∧ xMnv w' ∧ xFr [82, 88, 90, 91, 92, 93, 94, 95, 96, 97, 98, 99, 100, 101, 102, 103, 104, 105, 106, 107, 111] w w') := by
  refine xPi.of ?_
  show xTo (d + 8) mX12_holds (0, [], [(0, (2, 82)), (1, (0, li))], [], (w, bd, fc, 0, 0, rr)) (fun φ => ∃ n w', xEnd 4 [(0, n)] (w', bd, fc, 0, 0, rr) φ ∧ (n ≤ 1) ∧ xMnv w' ∧ xFr [82, 88, 90, 91, 92, 93, 94, 95, 96, 97, 98, 99, 100, 101, 102, 103, 104, 105, 106, 107, 111] w w')
  refine xoCh82 (xqc82 hI : cp82 (wget w 82)) (fun f82_1 f82_3 f82_5 f82_7 f82_9 f82_11 f82_13 f82_15 f82_17 f82_19 f82_21 f82_22 f82_23 f82_25 f82_27 f82_29 h82_31 hb2 hb4 hb6 hb8 hb10 hb12 hb14 hb16 hb18 hb20 hb24 hb26 hb28 hb30 hb32 => ?_)
  refine xg_t (xg_blq rfl) ?_
  refine xg_t (xg_sip) ?_
  refine xg_t (xg_bip) ?_
  refine xg_t (xg_iload (va := (0, li)) rfl rfl) ?_
  refine xg_t (xg_imul (u := 20) (v := li) (z := 20 * li) xnm0 xnm0 (by omega)) ?_
  refine xg_t (xg_iadd (u := 1020) (v := 20 * li) (z := 1020 + (20 * li)) xnm0 xnm0 (by omega)) ?_
  refine xg_t (xg_istore (l1 := [(0, (2, 82)), (1, (0, li))]) rfl rfl rfl) ?_
  refine xg_t (xg_const) ?_
  refine xg_t (xg_istore (l1 := [(2, (0, 1020 + (20 * li))), (0, (2, 82)), (1, (0, li))]) rfl rfl rfl) ?_
  refine xg_t (xg_const) ?_
  refine xg_t (xg_istore (l1 := [(3, (0, 1)), (2, (0, 1020 + (20 * li))), (0, (2, 82)), (1, (0, li))]) rfl rfl rfl) ?_
  refine xg_t (xg_drop (l1 := [(0, (2, 82)), (1, (0, li)), (2, (0, 1020 + (20 * li))), (3, (0, 1)), (4, (0, 0))]) (List.forall_mem_cons.mpr ⟨List.mem_cons_of_mem _ (List.mem_cons_of_mem _ (List.mem_cons_of_mem _ (List.mem_cons_self))), List.forall_mem_cons.mpr ⟨List.mem_cons_of_mem _ (List.mem_cons_of_mem _ (List.mem_cons_of_mem _ (List.mem_cons_of_mem _ (List.mem_cons_self)))), List.forall_mem_cons.mpr ⟨List.mem_cons_of_mem _ (List.mem_cons_of_mem _ (List.mem_cons_self)), List.forall_mem_cons.mpr ⟨List.mem_cons_of_mem _ (List.mem_cons_self), List.forall_mem_cons.mpr ⟨List.mem_cons_self, fun _ h => absurd h List.not_mem_nil⟩⟩⟩⟩⟩)) ?_
  have key33 : ∀ (m35 : Nat) (is_ ti : Nat) (w36 : List (List xE)), 4 - ti < m35 → is_ ≤ 1 → ti ≤ 4 → xMnv w36 → xFr [82, 88, 90, 91, 92, 93, 94, 95, 96, 97, 98, 99, 100, 101, 102, 103, 104, 105, 106, 107, 111] w w36 → xTo (d + 8) mX12_holds (14, [], [(0, (2, 82)), (1, (0, li)), (2, (0, 1020 + (20 * li))), (3, (0, is_)), (4, (0, ti))], [], (w36, bd, fc, 0, 0, rr)) (fun φ => ∃ n w', xEnd 4 [(0, n)] (w', bd, fc, 0, 0, rr) φ ∧ (n ≤ 1) ∧ xMnv w' ∧ xFr [82, 88, 90, 91, 92, 93, 94, 95, 96, 97, 98, 99, 100, 101, 102, 103, 104, 105, 106, 107, 111] w w') := by
    intro m35
    induction m35 with
    | zero => intro is_ ti w36 hz; exact absurd hz (Nat.not_lt_zero _)
    | succ m35 ih34 =>
      intro is_ ti w36 hm41 hn39 hn40 hI37 hF38
      refine xg_t (xg_blq rfl) ?_
      refine xg_t (xg_iload (va := (0, ti)) rfl rfl) ?_
      refine xg_t (xg_aload (va := (2, 82)) rfl rfl) ?_
      refine xoCh82 (xqc82 hI37 : cp82 (wget w36 82)) (fun f82_42 f82_44 f82_46 f82_48 f82_50 f82_52 f82_54 f82_56 f82_58 f82_60 f82_62 f82_63 f82_64 f82_66 f82_68 f82_70 h82_72 hb43 hb45 hb47 hb49 hb51 hb53 hb55 hb57 hb59 hb61 hb65 hb67 hb69 hb71 hb73 => ?_)
      refine xg_t (xg_getf (va := (2, 83)) h82_72 rfl) ?_
      refine xg_t (xg_iload (va := (0, 1020 + (20 * li))) rfl rfl) ?_
      refine xg_ialdB (n := 1020 + (20 * li)) (B := 4294967295) (hR83.fr hF38 (by decide)) (hgb) xnm0 (by omega) (fun u74 hu75 he76 => ?_)
      have hl77 : u74 ≤ 4 := by rw [← he76]; exact hok.rul hli
      by_cases hc78 : ti < u74
      · refine xg_t (xg_icF (u := ti) (v := u74) rfl xnm0 xnm0 (xj_geF hc78 (by omega))) ?_
        refine xg_t (xg_iload (va := (0, is_)) rfl rfl) ?_
        by_cases hc79 : is_ = 0
        · refine xg_t (xg_ifT (u := is_) rfl xnm0 (xj_eqT hc79)) ?_
          refine xg_t (xg_blq rfl) ?_
          refine xg_t (xg_iload (va := (0, is_)) rfl rfl) ?_
          exact xg_e ⟨is_, w36, ⟨xret_b (by omega), rfl⟩, by omega, hI37, hF38⟩
        · refine xg_t (xg_ifF (u := is_) rfl xnm0 (xj_eqF hc79)) ?_
          refine xg_t (xg_iload (va := (0, 1020 + (20 * li))) rfl rfl) ?_
          refine xg_t (xg_const) ?_
          refine xg_t (xg_iadd (u := 1020 + (20 * li)) (v := 1) (z := (1020 + (20 * li)) + 1) xnm0 xnm0 (by omega)) ?_
          refine xg_t (xg_const) ?_
          refine xg_t (xg_iload (va := (0, ti)) rfl rfl) ?_
          refine xg_t (xg_imul (u := 4) (v := ti) (z := 4 * ti) xnm0 xnm0 (by omega)) ?_
          refine xg_t (xg_iadd (u := (1020 + (20 * li)) + 1) (v := 4 * ti) (z := ((1020 + (20 * li)) + 1) + (4 * ti)) xnm0 xnm0 (by omega)) ?_
          refine xg_t (xg_istore (l1 := [(0, (2, 82)), (1, (0, li)), (2, (0, 1020 + (20 * li))), (3, (0, is_)), (4, (0, ti))]) rfl rfl rfl) ?_
          refine xg_t (xg_aload (va := (2, 82)) rfl rfl) ?_
          refine xg_t (xg_aload (va := (2, 82)) rfl rfl) ?_
          refine xg_t (xg_getf (va := (2, 83)) h82_72 rfl) ?_
          refine xg_t (xg_iload (va := (0, ((1020 + (20 * li)) + 1) + (4 * ti))) rfl rfl) ?_
          refine xg_t (xg_const) ?_
          refine xg_t (xg_iadd (u := ((1020 + (20 * li)) + 1) + (4 * ti)) (v := 1) (z := (((1020 + (20 * li)) + 1) + (4 * ti)) + 1) xnm0 xnm0 (by omega)) ?_
          refine xg_ialdB (n := (((1020 + (20 * li)) + 1) + (4 * ti)) + 1) (B := 4294967295) (hR83.fr hF38 (by decide)) (hgb) xnm0 (by omega) (fun u80 hu81 he82 => ?_)
          refine xg_cVi mX12_asked (vs := [(0, u80)]) (rest := []) (cn1 := 0) (sl1 := 0) rfl (mAsked (hI37) (by omega)) rfl h82_72 rfl rfl rfl rfl rfl rfl (fun n87 w83 hq84 => ?_)
          obtain ⟨hn88, hI85, hF86⟩ := hq84
          refine xg_t (xg_istore (l1 := [(5, (0, ((1020 + (20 * li)) + 1) + (4 * ti))), (0, (2, 82)), (1, (0, li)), (2, (0, 1020 + (20 * li))), (3, (0, is_)), (4, (0, ti))]) rfl rfl rfl) ?_
          refine xg_t (xg_aload (va := (2, 82)) rfl rfl) ?_
          refine xoCh82 (xqc82 hI85 : cp82 (wget w83 82)) (fun f82_89 f82_91 f82_93 f82_95 f82_97 f82_99 f82_101 f82_103 f82_105 f82_107 f82_109 f82_110 f82_111 f82_113 f82_115 f82_117 h82_119 hb90 hb92 hb94 hb96 hb98 hb100 hb102 hb104 hb106 hb108 hb112 hb114 hb116 hb118 hb120 => ?_)
          refine xg_t (xg_getf (va := (2, 83)) h82_119 rfl) ?_
          refine xg_t (xg_iload (va := (0, ((1020 + (20 * li)) + 1) + (4 * ti))) rfl rfl) ?_
          refine xg_t (xg_const) ?_
          refine xg_t (xg_iadd (u := ((1020 + (20 * li)) + 1) + (4 * ti)) (v := 3) (z := (((1020 + (20 * li)) + 1) + (4 * ti)) + 3) xnm0 xnm0 (by omega)) ?_
          refine xg_ialdB (n := (((1020 + (20 * li)) + 1) + (4 * ti)) + 3) (B := 4294967295) ((hR83.fr hF38 (by decide)).fr hF86 (by decide)) (hgb) xnm0 (by omega) (fun u121 hu122 he123 => ?_)
          refine xg_t (xg_istore (l1 := [(6, (0, n87)), (5, (0, ((1020 + (20 * li)) + 1) + (4 * ti))), (0, (2, 82)), (1, (0, li)), (2, (0, 1020 + (20 * li))), (3, (0, is_)), (4, (0, ti))]) rfl rfl rfl) ?_
          refine xg_t (xg_aload (va := (2, 82)) rfl rfl) ?_
          refine xg_t (xg_getf (va := (2, 83)) h82_119 rfl) ?_
          refine xg_t (xg_iload (va := (0, ((1020 + (20 * li)) + 1) + (4 * ti))) rfl rfl) ?_
          refine xg_t (xg_const) ?_
          refine xg_t (xg_iadd (u := ((1020 + (20 * li)) + 1) + (4 * ti)) (v := 2) (z := (((1020 + (20 * li)) + 1) + (4 * ti)) + 2) xnm0 xnm0 (by omega)) ?_
          refine xg_ialdB (n := (((1020 + (20 * li)) + 1) + (4 * ti)) + 2) (B := 4294967295) ((hR83.fr hF38 (by decide)).fr hF86 (by decide)) (hgb) xnm0 (by omega) (fun u124 hu125 he126 => ?_)
          refine xg_t (xg_bip) ?_
          by_cases hc127 : u124 = 60
          · refine xg_t (xg_icF (u := u124) (v := 60) rfl xnm0 xnm0 (xj_neF hc127)) ?_
            refine xg_t (xg_iload (va := (0, n87)) rfl rfl) ?_
            refine xg_t (xg_iload (va := (0, u121)) rfl rfl) ?_
            by_cases hc128 : xbs n87 < xbs u121
            · have hc128u := hc128
              unfold xbs at hc128u
              refine xg_t (xg_icF (u := n87) (v := u121) rfl xnm0 xnm0 (xjs_geF hc128)) ?_
              refine xg_t (xg_const) ?_
              refine xg_t (xg_goto) ?_
              refine xg_t (xg_blq rfl) ?_
              refine xg_t (xg_istore (l1 := [(7, (0, u121)), (6, (0, n87)), (5, (0, ((1020 + (20 * li)) + 1) + (4 * ti))), (0, (2, 82)), (1, (0, li)), (2, (0, 1020 + (20 * li))), (3, (0, is_)), (4, (0, ti))]) rfl rfl rfl) ?_
              refine xg_t (xg_iload (va := (0, 1)) rfl rfl) ?_
              refine xg_t (xg_aload (va := (2, 82)) rfl rfl) ?_
              refine xg_t (xg_getf (va := (2, 83)) h82_119 rfl) ?_
              refine xg_t (xg_iload (va := (0, ((1020 + (20 * li)) + 1) + (4 * ti))) rfl rfl) ?_
              refine xg_ialdB (n := ((1020 + (20 * li)) + 1) + (4 * ti)) (B := 4294967295) ((hR83.fr hF38 (by decide)).fr hF86 (by decide)) (hgb) xnm0 (by omega) (fun u129 hu130 he131 => ?_)
              refine xg_t (xg_const) ?_
              by_cases hc132 : u129 = 1
              · refine xg_t (xg_icF (u := u129) (v := 1) rfl xnm0 xnm0 (xj_neF hc132)) ?_
                refine xg_t (xg_const) ?_
                refine xg_t (xg_goto) ?_
                refine xg_t (xg_blq rfl) ?_
                refine xg_t (xg_icT (u := 1) (v := 1) rfl xnm0 xnm0 (by decide)) ?_
                refine xg_t (xg_blq rfl) ?_
                refine xg_t (xg_const) ?_
                refine xg_t (xg_blq rfl) ?_
                refine xg_t (xg_istore (l1 := [(8, (0, 1)), (7, (0, u121)), (6, (0, n87)), (5, (0, ((1020 + (20 * li)) + 1) + (4 * ti))), (0, (2, 82)), (1, (0, li)), (2, (0, 1020 + (20 * li))), (4, (0, ti))]) rfl rfl rfl) ?_
                refine xg_t (xg_iinc (u := ti) (z := ti + 1) (l1 := [(3, (0, 0)), (8, (0, 1)), (7, (0, u121)), (6, (0, n87)), (5, (0, ((1020 + (20 * li)) + 1) + (4 * ti))), (0, (2, 82)), (1, (0, li)), (2, (0, 1020 + (20 * li)))]) rfl rfl (by omega) rfl) ?_
                refine xg_t (xg_goto) ?_
                refine xg_t (xg_drop (l1 := [(0, (2, 82)), (1, (0, li)), (2, (0, 1020 + (20 * li))), (3, (0, 0)), (4, (0, ti + 1))]) (List.forall_mem_cons.mpr ⟨List.mem_cons_of_mem _ (List.mem_cons_of_mem _ (List.mem_cons_of_mem _ (List.mem_cons_of_mem _ (List.mem_cons_of_mem _ (List.mem_cons_of_mem _ (List.mem_cons_self)))))), List.forall_mem_cons.mpr ⟨List.mem_cons_of_mem _ (List.mem_cons_of_mem _ (List.mem_cons_of_mem _ (List.mem_cons_of_mem _ (List.mem_cons_of_mem _ (List.mem_cons_of_mem _ (List.mem_cons_of_mem _ (List.mem_cons_self))))))), List.forall_mem_cons.mpr ⟨List.mem_cons_of_mem _ (List.mem_cons_of_mem _ (List.mem_cons_of_mem _ (List.mem_cons_of_mem _ (List.mem_cons_of_mem _ (List.mem_cons_of_mem _ (List.mem_cons_of_mem _ (List.mem_cons_of_mem _ (List.mem_cons_self)))))))), List.forall_mem_cons.mpr ⟨List.mem_cons_of_mem _ (List.mem_cons_self), List.forall_mem_cons.mpr ⟨List.mem_cons_self, fun _ h => absurd h List.not_mem_nil⟩⟩⟩⟩⟩)) ?_
                exact ih34 0 (ti + 1) w83 (by omega) (by omega) (by omega) (hI85) ((hF38.tr (hF86.up (by decide))))
              · refine xg_t (xg_icT (u := u129) (v := 1) rfl xnm0 xnm0 (xj_neT hc132)) ?_
                refine xg_t (xg_blq rfl) ?_
                refine xg_t (xg_const) ?_
                refine xg_t (xg_blq rfl) ?_
                refine xg_t (xg_icF (u := 1) (v := 0) rfl xnm0 xnm0 (by decide)) ?_
                refine xg_t (xg_const) ?_
                refine xg_t (xg_goto) ?_
                refine xg_t (xg_blq rfl) ?_
                refine xg_t (xg_istore (l1 := [(8, (0, 1)), (7, (0, u121)), (6, (0, n87)), (5, (0, ((1020 + (20 * li)) + 1) + (4 * ti))), (0, (2, 82)), (1, (0, li)), (2, (0, 1020 + (20 * li))), (4, (0, ti))]) rfl rfl rfl) ?_
                refine xg_t (xg_iinc (u := ti) (z := ti + 1) (l1 := [(3, (0, 1)), (8, (0, 1)), (7, (0, u121)), (6, (0, n87)), (5, (0, ((1020 + (20 * li)) + 1) + (4 * ti))), (0, (2, 82)), (1, (0, li)), (2, (0, 1020 + (20 * li)))]) rfl rfl (by omega) rfl) ?_
                refine xg_t (xg_goto) ?_
                refine xg_t (xg_drop (l1 := [(0, (2, 82)), (1, (0, li)), (2, (0, 1020 + (20 * li))), (3, (0, 1)), (4, (0, ti + 1))]) (List.forall_mem_cons.mpr ⟨List.mem_cons_of_mem _ (List.mem_cons_of_mem _ (List.mem_cons_of_mem _ (List.mem_cons_of_mem _ (List.mem_cons_of_mem _ (List.mem_cons_of_mem _ (List.mem_cons_self)))))), List.forall_mem_cons.mpr ⟨List.mem_cons_of_mem _ (List.mem_cons_of_mem _ (List.mem_cons_of_mem _ (List.mem_cons_of_mem _ (List.mem_cons_of_mem _ (List.mem_cons_of_mem _ (List.mem_cons_of_mem _ (List.mem_cons_self))))))), List.forall_mem_cons.mpr ⟨List.mem_cons_of_mem _ (List.mem_cons_of_mem _ (List.mem_cons_of_mem _ (List.mem_cons_of_mem _ (List.mem_cons_of_mem _ (List.mem_cons_of_mem _ (List.mem_cons_of_mem _ (List.mem_cons_of_mem _ (List.mem_cons_self)))))))), List.forall_mem_cons.mpr ⟨List.mem_cons_of_mem _ (List.mem_cons_self), List.forall_mem_cons.mpr ⟨List.mem_cons_self, fun _ h => absurd h List.not_mem_nil⟩⟩⟩⟩⟩)) ?_
                exact ih34 1 (ti + 1) w83 (by omega) (by omega) (by omega) (hI85) ((hF38.tr (hF86.up (by decide))))
            · have hc128u := hc128
              unfold xbs at hc128u
              refine xg_t (xg_icT (u := n87) (v := u121) rfl xnm0 xnm0 (xjs_geT hc128)) ?_
              refine xg_t (xg_blq rfl) ?_
              refine xg_t (xg_const) ?_
              refine xg_t (xg_goto) ?_
              refine xg_t (xg_blq rfl) ?_
              refine xg_t (xg_istore (l1 := [(7, (0, u121)), (6, (0, n87)), (5, (0, ((1020 + (20 * li)) + 1) + (4 * ti))), (0, (2, 82)), (1, (0, li)), (2, (0, 1020 + (20 * li))), (3, (0, is_)), (4, (0, ti))]) rfl rfl rfl) ?_
              refine xg_t (xg_iload (va := (0, 0)) rfl rfl) ?_
              refine xg_t (xg_aload (va := (2, 82)) rfl rfl) ?_
              refine xg_t (xg_getf (va := (2, 83)) h82_119 rfl) ?_
              refine xg_t (xg_iload (va := (0, ((1020 + (20 * li)) + 1) + (4 * ti))) rfl rfl) ?_
              refine xg_ialdB (n := ((1020 + (20 * li)) + 1) + (4 * ti)) (B := 4294967295) ((hR83.fr hF38 (by decide)).fr hF86 (by decide)) (hgb) xnm0 (by omega) (fun u133 hu134 he135 => ?_)
              refine xg_t (xg_const) ?_
              by_cases hc136 : u133 = 1
              · refine xg_t (xg_icF (u := u133) (v := 1) rfl xnm0 xnm0 (xj_neF hc136)) ?_
                refine xg_t (xg_const) ?_
                refine xg_t (xg_goto) ?_
                refine xg_t (xg_blq rfl) ?_
                refine xg_t (xg_icF (u := 0) (v := 1) rfl xnm0 xnm0 (by decide)) ?_
                refine xg_t (xg_const) ?_
                refine xg_t (xg_goto) ?_
                refine xg_t (xg_blq rfl) ?_
                refine xg_t (xg_istore (l1 := [(8, (0, 0)), (7, (0, u121)), (6, (0, n87)), (5, (0, ((1020 + (20 * li)) + 1) + (4 * ti))), (0, (2, 82)), (1, (0, li)), (2, (0, 1020 + (20 * li))), (4, (0, ti))]) rfl rfl rfl) ?_
                refine xg_t (xg_iinc (u := ti) (z := ti + 1) (l1 := [(3, (0, 1)), (8, (0, 0)), (7, (0, u121)), (6, (0, n87)), (5, (0, ((1020 + (20 * li)) + 1) + (4 * ti))), (0, (2, 82)), (1, (0, li)), (2, (0, 1020 + (20 * li)))]) rfl rfl (by omega) rfl) ?_
                refine xg_t (xg_goto) ?_
                refine xg_t (xg_drop (l1 := [(0, (2, 82)), (1, (0, li)), (2, (0, 1020 + (20 * li))), (3, (0, 1)), (4, (0, ti + 1))]) (List.forall_mem_cons.mpr ⟨List.mem_cons_of_mem _ (List.mem_cons_of_mem _ (List.mem_cons_of_mem _ (List.mem_cons_of_mem _ (List.mem_cons_of_mem _ (List.mem_cons_of_mem _ (List.mem_cons_self)))))), List.forall_mem_cons.mpr ⟨List.mem_cons_of_mem _ (List.mem_cons_of_mem _ (List.mem_cons_of_mem _ (List.mem_cons_of_mem _ (List.mem_cons_of_mem _ (List.mem_cons_of_mem _ (List.mem_cons_of_mem _ (List.mem_cons_self))))))), List.forall_mem_cons.mpr ⟨List.mem_cons_of_mem _ (List.mem_cons_of_mem _ (List.mem_cons_of_mem _ (List.mem_cons_of_mem _ (List.mem_cons_of_mem _ (List.mem_cons_of_mem _ (List.mem_cons_of_mem _ (List.mem_cons_of_mem _ (List.mem_cons_self)))))))), List.forall_mem_cons.mpr ⟨List.mem_cons_of_mem _ (List.mem_cons_self), List.forall_mem_cons.mpr ⟨List.mem_cons_self, fun _ h => absurd h List.not_mem_nil⟩⟩⟩⟩⟩)) ?_
                exact ih34 1 (ti + 1) w83 (by omega) (by omega) (by omega) (hI85) ((hF38.tr (hF86.up (by decide))))
              · refine xg_t (xg_icT (u := u133) (v := 1) rfl xnm0 xnm0 (xj_neT hc136)) ?_
                refine xg_t (xg_blq rfl) ?_
                refine xg_t (xg_const) ?_
                refine xg_t (xg_blq rfl) ?_
                refine xg_t (xg_icT (u := 0) (v := 0) rfl xnm0 xnm0 (by decide)) ?_
                refine xg_t (xg_blq rfl) ?_
                refine xg_t (xg_const) ?_
                refine xg_t (xg_blq rfl) ?_
                refine xg_t (xg_istore (l1 := [(8, (0, 0)), (7, (0, u121)), (6, (0, n87)), (5, (0, ((1020 + (20 * li)) + 1) + (4 * ti))), (0, (2, 82)), (1, (0, li)), (2, (0, 1020 + (20 * li))), (4, (0, ti))]) rfl rfl rfl) ?_
                refine xg_t (xg_iinc (u := ti) (z := ti + 1) (l1 := [(3, (0, 0)), (8, (0, 0)), (7, (0, u121)), (6, (0, n87)), (5, (0, ((1020 + (20 * li)) + 1) + (4 * ti))), (0, (2, 82)), (1, (0, li)), (2, (0, 1020 + (20 * li)))]) rfl rfl (by omega) rfl) ?_
                refine xg_t (xg_goto) ?_
                refine xg_t (xg_drop (l1 := [(0, (2, 82)), (1, (0, li)), (2, (0, 1020 + (20 * li))), (3, (0, 0)), (4, (0, ti + 1))]) (List.forall_mem_cons.mpr ⟨List.mem_cons_of_mem _ (List.mem_cons_of_mem _ (List.mem_cons_of_mem _ (List.mem_cons_of_mem _ (List.mem_cons_of_mem _ (List.mem_cons_of_mem _ (List.mem_cons_self)))))), List.forall_mem_cons.mpr ⟨List.mem_cons_of_mem _ (List.mem_cons_of_mem _ (List.mem_cons_of_mem _ (List.mem_cons_of_mem _ (List.mem_cons_of_mem _ (List.mem_cons_of_mem _ (List.mem_cons_of_mem _ (List.mem_cons_self))))))), List.forall_mem_cons.mpr ⟨List.mem_cons_of_mem _ (List.mem_cons_of_mem _ (List.mem_cons_of_mem _ (List.mem_cons_of_mem _ (List.mem_cons_of_mem _ (List.mem_cons_of_mem _ (List.mem_cons_of_mem _ (List.mem_cons_of_mem _ (List.mem_cons_self)))))))), List.forall_mem_cons.mpr ⟨List.mem_cons_of_mem _ (List.mem_cons_self), List.forall_mem_cons.mpr ⟨List.mem_cons_self, fun _ h => absurd h List.not_mem_nil⟩⟩⟩⟩⟩)) ?_
                exact ih34 0 (ti + 1) w83 (by omega) (by omega) (by omega) (hI85) ((hF38.tr (hF86.up (by decide))))
          · refine xg_t (xg_icT (u := u124) (v := 60) rfl xnm0 xnm0 (xj_neT hc127)) ?_
            refine xg_t (xg_blq rfl) ?_
            refine xg_t (xg_aload (va := (2, 82)) rfl rfl) ?_
            refine xg_t (xg_getf (va := (2, 83)) h82_119 rfl) ?_
            refine xg_t (xg_iload (va := (0, ((1020 + (20 * li)) + 1) + (4 * ti))) rfl rfl) ?_
            refine xg_t (xg_const) ?_
            refine xg_t (xg_iadd (u := ((1020 + (20 * li)) + 1) + (4 * ti)) (v := 2) (z := (((1020 + (20 * li)) + 1) + (4 * ti)) + 2) xnm0 xnm0 (by omega)) ?_
            refine xg_ialdB (n := (((1020 + (20 * li)) + 1) + (4 * ti)) + 2) (B := 4294967295) ((hR83.fr hF38 (by decide)).fr hF86 (by decide)) (hgb) xnm0 (by omega) (fun u137 hu138 he139 => ?_)
            refine xg_t (xg_bip) ?_
            by_cases hc140 : u137 = 62
            · refine xg_t (xg_icF (u := u137) (v := 62) rfl xnm0 xnm0 (xj_neF hc140)) ?_
              refine xg_t (xg_iload (va := (0, n87)) rfl rfl) ?_
              refine xg_t (xg_iload (va := (0, u121)) rfl rfl) ?_
              by_cases hc141 : xbs u121 < xbs n87
              · have hc141u := hc141
                unfold xbs at hc141u
                refine xg_t (xg_icF (u := n87) (v := u121) rfl xnm0 xnm0 (xjs_leF hc141)) ?_
                refine xg_t (xg_const) ?_
                refine xg_t (xg_goto) ?_
                refine xg_t (xg_blq rfl) ?_
                refine xg_t (xg_istore (l1 := [(7, (0, u121)), (6, (0, n87)), (5, (0, ((1020 + (20 * li)) + 1) + (4 * ti))), (0, (2, 82)), (1, (0, li)), (2, (0, 1020 + (20 * li))), (3, (0, is_)), (4, (0, ti))]) rfl rfl rfl) ?_
                refine xg_t (xg_iload (va := (0, 1)) rfl rfl) ?_
                refine xg_t (xg_aload (va := (2, 82)) rfl rfl) ?_
                refine xg_t (xg_getf (va := (2, 83)) h82_119 rfl) ?_
                refine xg_t (xg_iload (va := (0, ((1020 + (20 * li)) + 1) + (4 * ti))) rfl rfl) ?_
                refine xg_ialdB (n := ((1020 + (20 * li)) + 1) + (4 * ti)) (B := 4294967295) ((hR83.fr hF38 (by decide)).fr hF86 (by decide)) (hgb) xnm0 (by omega) (fun u142 hu143 he144 => ?_)
                refine xg_t (xg_const) ?_
                by_cases hc145 : u142 = 1
                · refine xg_t (xg_icF (u := u142) (v := 1) rfl xnm0 xnm0 (xj_neF hc145)) ?_
                  refine xg_t (xg_const) ?_
                  refine xg_t (xg_goto) ?_
                  refine xg_t (xg_blq rfl) ?_
                  refine xg_t (xg_icT (u := 1) (v := 1) rfl xnm0 xnm0 (by decide)) ?_
                  refine xg_t (xg_blq rfl) ?_
                  refine xg_t (xg_const) ?_
                  refine xg_t (xg_blq rfl) ?_
                  refine xg_t (xg_istore (l1 := [(8, (0, 1)), (7, (0, u121)), (6, (0, n87)), (5, (0, ((1020 + (20 * li)) + 1) + (4 * ti))), (0, (2, 82)), (1, (0, li)), (2, (0, 1020 + (20 * li))), (4, (0, ti))]) rfl rfl rfl) ?_
                  refine xg_t (xg_iinc (u := ti) (z := ti + 1) (l1 := [(3, (0, 0)), (8, (0, 1)), (7, (0, u121)), (6, (0, n87)), (5, (0, ((1020 + (20 * li)) + 1) + (4 * ti))), (0, (2, 82)), (1, (0, li)), (2, (0, 1020 + (20 * li)))]) rfl rfl (by omega) rfl) ?_
                  refine xg_t (xg_goto) ?_
                  refine xg_t (xg_drop (l1 := [(0, (2, 82)), (1, (0, li)), (2, (0, 1020 + (20 * li))), (3, (0, 0)), (4, (0, ti + 1))]) (List.forall_mem_cons.mpr ⟨List.mem_cons_of_mem _ (List.mem_cons_of_mem _ (List.mem_cons_of_mem _ (List.mem_cons_of_mem _ (List.mem_cons_of_mem _ (List.mem_cons_of_mem _ (List.mem_cons_self)))))), List.forall_mem_cons.mpr ⟨List.mem_cons_of_mem _ (List.mem_cons_of_mem _ (List.mem_cons_of_mem _ (List.mem_cons_of_mem _ (List.mem_cons_of_mem _ (List.mem_cons_of_mem _ (List.mem_cons_of_mem _ (List.mem_cons_self))))))), List.forall_mem_cons.mpr ⟨List.mem_cons_of_mem _ (List.mem_cons_of_mem _ (List.mem_cons_of_mem _ (List.mem_cons_of_mem _ (List.mem_cons_of_mem _ (List.mem_cons_of_mem _ (List.mem_cons_of_mem _ (List.mem_cons_of_mem _ (List.mem_cons_self)))))))), List.forall_mem_cons.mpr ⟨List.mem_cons_of_mem _ (List.mem_cons_self), List.forall_mem_cons.mpr ⟨List.mem_cons_self, fun _ h => absurd h List.not_mem_nil⟩⟩⟩⟩⟩)) ?_
                  exact ih34 0 (ti + 1) w83 (by omega) (by omega) (by omega) (hI85) ((hF38.tr (hF86.up (by decide))))
                · refine xg_t (xg_icT (u := u142) (v := 1) rfl xnm0 xnm0 (xj_neT hc145)) ?_
                  refine xg_t (xg_blq rfl) ?_
                  refine xg_t (xg_const) ?_
                  refine xg_t (xg_blq rfl) ?_
                  refine xg_t (xg_icF (u := 1) (v := 0) rfl xnm0 xnm0 (by decide)) ?_
                  refine xg_t (xg_const) ?_
                  refine xg_t (xg_goto) ?_
                  refine xg_t (xg_blq rfl) ?_
                  refine xg_t (xg_istore (l1 := [(8, (0, 1)), (7, (0, u121)), (6, (0, n87)), (5, (0, ((1020 + (20 * li)) + 1) + (4 * ti))), (0, (2, 82)), (1, (0, li)), (2, (0, 1020 + (20 * li))), (4, (0, ti))]) rfl rfl rfl) ?_
                  refine xg_t (xg_iinc (u := ti) (z := ti + 1) (l1 := [(3, (0, 1)), (8, (0, 1)), (7, (0, u121)), (6, (0, n87)), (5, (0, ((1020 + (20 * li)) + 1) + (4 * ti))), (0, (2, 82)), (1, (0, li)), (2, (0, 1020 + (20 * li)))]) rfl rfl (by omega) rfl) ?_
                  refine xg_t (xg_goto) ?_
                  refine xg_t (xg_drop (l1 := [(0, (2, 82)), (1, (0, li)), (2, (0, 1020 + (20 * li))), (3, (0, 1)), (4, (0, ti + 1))]) (List.forall_mem_cons.mpr ⟨List.mem_cons_of_mem _ (List.mem_cons_of_mem _ (List.mem_cons_of_mem _ (List.mem_cons_of_mem _ (List.mem_cons_of_mem _ (List.mem_cons_of_mem _ (List.mem_cons_self)))))), List.forall_mem_cons.mpr ⟨List.mem_cons_of_mem _ (List.mem_cons_of_mem _ (List.mem_cons_of_mem _ (List.mem_cons_of_mem _ (List.mem_cons_of_mem _ (List.mem_cons_of_mem _ (List.mem_cons_of_mem _ (List.mem_cons_self))))))), List.forall_mem_cons.mpr ⟨List.mem_cons_of_mem _ (List.mem_cons_of_mem _ (List.mem_cons_of_mem _ (List.mem_cons_of_mem _ (List.mem_cons_of_mem _ (List.mem_cons_of_mem _ (List.mem_cons_of_mem _ (List.mem_cons_of_mem _ (List.mem_cons_self)))))))), List.forall_mem_cons.mpr ⟨List.mem_cons_of_mem _ (List.mem_cons_self), List.forall_mem_cons.mpr ⟨List.mem_cons_self, fun _ h => absurd h List.not_mem_nil⟩⟩⟩⟩⟩)) ?_
                  exact ih34 1 (ti + 1) w83 (by omega) (by omega) (by omega) (hI85) ((hF38.tr (hF86.up (by decide))))
              · have hc141u := hc141
                unfold xbs at hc141u
                refine xg_t (xg_icT (u := n87) (v := u121) rfl xnm0 xnm0 (xjs_leT hc141)) ?_
                refine xg_t (xg_blq rfl) ?_
                refine xg_t (xg_const) ?_
                refine xg_t (xg_goto) ?_
                refine xg_t (xg_blq rfl) ?_
                refine xg_t (xg_istore (l1 := [(7, (0, u121)), (6, (0, n87)), (5, (0, ((1020 + (20 * li)) + 1) + (4 * ti))), (0, (2, 82)), (1, (0, li)), (2, (0, 1020 + (20 * li))), (3, (0, is_)), (4, (0, ti))]) rfl rfl rfl) ?_
                refine xg_t (xg_iload (va := (0, 0)) rfl rfl) ?_
                refine xg_t (xg_aload (va := (2, 82)) rfl rfl) ?_
                refine xg_t (xg_getf (va := (2, 83)) h82_119 rfl) ?_
                refine xg_t (xg_iload (va := (0, ((1020 + (20 * li)) + 1) + (4 * ti))) rfl rfl) ?_
                refine xg_ialdB (n := ((1020 + (20 * li)) + 1) + (4 * ti)) (B := 4294967295) ((hR83.fr hF38 (by decide)).fr hF86 (by decide)) (hgb) xnm0 (by omega) (fun u146 hu147 he148 => ?_)
                refine xg_t (xg_const) ?_
                by_cases hc149 : u146 = 1
                · refine xg_t (xg_icF (u := u146) (v := 1) rfl xnm0 xnm0 (xj_neF hc149)) ?_
                  refine xg_t (xg_const) ?_
                  refine xg_t (xg_goto) ?_
                  refine xg_t (xg_blq rfl) ?_
                  refine xg_t (xg_icF (u := 0) (v := 1) rfl xnm0 xnm0 (by decide)) ?_
                  refine xg_t (xg_const) ?_
                  refine xg_t (xg_goto) ?_
                  refine xg_t (xg_blq rfl) ?_
                  refine xg_t (xg_istore (l1 := [(8, (0, 0)), (7, (0, u121)), (6, (0, n87)), (5, (0, ((1020 + (20 * li)) + 1) + (4 * ti))), (0, (2, 82)), (1, (0, li)), (2, (0, 1020 + (20 * li))), (4, (0, ti))]) rfl rfl rfl) ?_
                  refine xg_t (xg_iinc (u := ti) (z := ti + 1) (l1 := [(3, (0, 1)), (8, (0, 0)), (7, (0, u121)), (6, (0, n87)), (5, (0, ((1020 + (20 * li)) + 1) + (4 * ti))), (0, (2, 82)), (1, (0, li)), (2, (0, 1020 + (20 * li)))]) rfl rfl (by omega) rfl) ?_
                  refine xg_t (xg_goto) ?_
                  refine xg_t (xg_drop (l1 := [(0, (2, 82)), (1, (0, li)), (2, (0, 1020 + (20 * li))), (3, (0, 1)), (4, (0, ti + 1))]) (List.forall_mem_cons.mpr ⟨List.mem_cons_of_mem _ (List.mem_cons_of_mem _ (List.mem_cons_of_mem _ (List.mem_cons_of_mem _ (List.mem_cons_of_mem _ (List.mem_cons_of_mem _ (List.mem_cons_self)))))), List.forall_mem_cons.mpr ⟨List.mem_cons_of_mem _ (List.mem_cons_of_mem _ (List.mem_cons_of_mem _ (List.mem_cons_of_mem _ (List.mem_cons_of_mem _ (List.mem_cons_of_mem _ (List.mem_cons_of_mem _ (List.mem_cons_self))))))), List.forall_mem_cons.mpr ⟨List.mem_cons_of_mem _ (List.mem_cons_of_mem _ (List.mem_cons_of_mem _ (List.mem_cons_of_mem _ (List.mem_cons_of_mem _ (List.mem_cons_of_mem _ (List.mem_cons_of_mem _ (List.mem_cons_of_mem _ (List.mem_cons_self)))))))), List.forall_mem_cons.mpr ⟨List.mem_cons_of_mem _ (List.mem_cons_self), List.forall_mem_cons.mpr ⟨List.mem_cons_self, fun _ h => absurd h List.not_mem_nil⟩⟩⟩⟩⟩)) ?_
                  exact ih34 1 (ti + 1) w83 (by omega) (by omega) (by omega) (hI85) ((hF38.tr (hF86.up (by decide))))
                · refine xg_t (xg_icT (u := u146) (v := 1) rfl xnm0 xnm0 (xj_neT hc149)) ?_
                  refine xg_t (xg_blq rfl) ?_
                  refine xg_t (xg_const) ?_
                  refine xg_t (xg_blq rfl) ?_
                  refine xg_t (xg_icT (u := 0) (v := 0) rfl xnm0 xnm0 (by decide)) ?_
                  refine xg_t (xg_blq rfl) ?_
                  refine xg_t (xg_const) ?_
                  refine xg_t (xg_blq rfl) ?_
                  refine xg_t (xg_istore (l1 := [(8, (0, 0)), (7, (0, u121)), (6, (0, n87)), (5, (0, ((1020 + (20 * li)) + 1) + (4 * ti))), (0, (2, 82)), (1, (0, li)), (2, (0, 1020 + (20 * li))), (4, (0, ti))]) rfl rfl rfl) ?_
                  refine xg_t (xg_iinc (u := ti) (z := ti + 1) (l1 := [(3, (0, 0)), (8, (0, 0)), (7, (0, u121)), (6, (0, n87)), (5, (0, ((1020 + (20 * li)) + 1) + (4 * ti))), (0, (2, 82)), (1, (0, li)), (2, (0, 1020 + (20 * li)))]) rfl rfl (by omega) rfl) ?_
                  refine xg_t (xg_goto) ?_
                  refine xg_t (xg_drop (l1 := [(0, (2, 82)), (1, (0, li)), (2, (0, 1020 + (20 * li))), (3, (0, 0)), (4, (0, ti + 1))]) (List.forall_mem_cons.mpr ⟨List.mem_cons_of_mem _ (List.mem_cons_of_mem _ (List.mem_cons_of_mem _ (List.mem_cons_of_mem _ (List.mem_cons_of_mem _ (List.mem_cons_of_mem _ (List.mem_cons_self)))))), List.forall_mem_cons.mpr ⟨List.mem_cons_of_mem _ (List.mem_cons_of_mem _ (List.mem_cons_of_mem _ (List.mem_cons_of_mem _ (List.mem_cons_of_mem _ (List.mem_cons_of_mem _ (List.mem_cons_of_mem _ (List.mem_cons_self))))))), List.forall_mem_cons.mpr ⟨List.mem_cons_of_mem _ (List.mem_cons_of_mem _ (List.mem_cons_of_mem _ (List.mem_cons_of_mem _ (List.mem_cons_of_mem _ (List.mem_cons_of_mem _ (List.mem_cons_of_mem _ (List.mem_cons_of_mem _ (List.mem_cons_self)))))))), List.forall_mem_cons.mpr ⟨List.mem_cons_of_mem _ (List.mem_cons_self), List.forall_mem_cons.mpr ⟨List.mem_cons_self, fun _ h => absurd h List.not_mem_nil⟩⟩⟩⟩⟩)) ?_
                  exact ih34 0 (ti + 1) w83 (by omega) (by omega) (by omega) (hI85) ((hF38.tr (hF86.up (by decide))))
            · refine xg_t (xg_icT (u := u137) (v := 62) rfl xnm0 xnm0 (xj_neT hc140)) ?_
              refine xg_t (xg_blq rfl) ?_
              refine xg_t (xg_iload (va := (0, n87)) rfl rfl) ?_
              refine xg_t (xg_iload (va := (0, u121)) rfl rfl) ?_
              by_cases hc150 : n87 = u121
              · refine xg_t (xg_icF (u := n87) (v := u121) rfl xnm0 xnm0 (xj_neF hc150)) ?_
                refine xg_t (xg_const) ?_
                refine xg_t (xg_goto) ?_
                refine xg_t (xg_blq rfl) ?_
                refine xg_t (xg_istore (l1 := [(7, (0, u121)), (6, (0, n87)), (5, (0, ((1020 + (20 * li)) + 1) + (4 * ti))), (0, (2, 82)), (1, (0, li)), (2, (0, 1020 + (20 * li))), (3, (0, is_)), (4, (0, ti))]) rfl rfl rfl) ?_
                refine xg_t (xg_iload (va := (0, 1)) rfl rfl) ?_
                refine xg_t (xg_aload (va := (2, 82)) rfl rfl) ?_
                refine xg_t (xg_getf (va := (2, 83)) h82_119 rfl) ?_
                refine xg_t (xg_iload (va := (0, ((1020 + (20 * li)) + 1) + (4 * ti))) rfl rfl) ?_
                refine xg_ialdB (n := ((1020 + (20 * li)) + 1) + (4 * ti)) (B := 4294967295) ((hR83.fr hF38 (by decide)).fr hF86 (by decide)) (hgb) xnm0 (by omega) (fun u151 hu152 he153 => ?_)
                refine xg_t (xg_const) ?_
                by_cases hc154 : u151 = 1
                · refine xg_t (xg_icF (u := u151) (v := 1) rfl xnm0 xnm0 (xj_neF hc154)) ?_
                  refine xg_t (xg_const) ?_
                  refine xg_t (xg_goto) ?_
                  refine xg_t (xg_blq rfl) ?_
                  refine xg_t (xg_icT (u := 1) (v := 1) rfl xnm0 xnm0 (by decide)) ?_
                  refine xg_t (xg_blq rfl) ?_
                  refine xg_t (xg_const) ?_
                  refine xg_t (xg_blq rfl) ?_
                  refine xg_t (xg_istore (l1 := [(8, (0, 1)), (7, (0, u121)), (6, (0, n87)), (5, (0, ((1020 + (20 * li)) + 1) + (4 * ti))), (0, (2, 82)), (1, (0, li)), (2, (0, 1020 + (20 * li))), (4, (0, ti))]) rfl rfl rfl) ?_
                  refine xg_t (xg_iinc (u := ti) (z := ti + 1) (l1 := [(3, (0, 0)), (8, (0, 1)), (7, (0, u121)), (6, (0, n87)), (5, (0, ((1020 + (20 * li)) + 1) + (4 * ti))), (0, (2, 82)), (1, (0, li)), (2, (0, 1020 + (20 * li)))]) rfl rfl (by omega) rfl) ?_
                  refine xg_t (xg_goto) ?_
                  refine xg_t (xg_drop (l1 := [(0, (2, 82)), (1, (0, li)), (2, (0, 1020 + (20 * li))), (3, (0, 0)), (4, (0, ti + 1))]) (List.forall_mem_cons.mpr ⟨List.mem_cons_of_mem _ (List.mem_cons_of_mem _ (List.mem_cons_of_mem _ (List.mem_cons_of_mem _ (List.mem_cons_of_mem _ (List.mem_cons_of_mem _ (List.mem_cons_self)))))), List.forall_mem_cons.mpr ⟨List.mem_cons_of_mem _ (List.mem_cons_of_mem _ (List.mem_cons_of_mem _ (List.mem_cons_of_mem _ (List.mem_cons_of_mem _ (List.mem_cons_of_mem _ (List.mem_cons_of_mem _ (List.mem_cons_self))))))), List.forall_mem_cons.mpr ⟨List.mem_cons_of_mem _ (List.mem_cons_of_mem _ (List.mem_cons_of_mem _ (List.mem_cons_of_mem _ (List.mem_cons_of_mem _ (List.mem_cons_of_mem _ (List.mem_cons_of_mem _ (List.mem_cons_of_mem _ (List.mem_cons_self)))))))), List.forall_mem_cons.mpr ⟨List.mem_cons_of_mem _ (List.mem_cons_self), List.forall_mem_cons.mpr ⟨List.mem_cons_self, fun _ h => absurd h List.not_mem_nil⟩⟩⟩⟩⟩)) ?_
                  exact ih34 0 (ti + 1) w83 (by omega) (by omega) (by omega) (hI85) ((hF38.tr (hF86.up (by decide))))
                · refine xg_t (xg_icT (u := u151) (v := 1) rfl xnm0 xnm0 (xj_neT hc154)) ?_
                  refine xg_t (xg_blq rfl) ?_
                  refine xg_t (xg_const) ?_
                  refine xg_t (xg_blq rfl) ?_
                  refine xg_t (xg_icF (u := 1) (v := 0) rfl xnm0 xnm0 (by decide)) ?_
                  refine xg_t (xg_const) ?_
                  refine xg_t (xg_goto) ?_
                  refine xg_t (xg_blq rfl) ?_
                  refine xg_t (xg_istore (l1 := [(8, (0, 1)), (7, (0, u121)), (6, (0, n87)), (5, (0, ((1020 + (20 * li)) + 1) + (4 * ti))), (0, (2, 82)), (1, (0, li)), (2, (0, 1020 + (20 * li))), (4, (0, ti))]) rfl rfl rfl) ?_
                  refine xg_t (xg_iinc (u := ti) (z := ti + 1) (l1 := [(3, (0, 1)), (8, (0, 1)), (7, (0, u121)), (6, (0, n87)), (5, (0, ((1020 + (20 * li)) + 1) + (4 * ti))), (0, (2, 82)), (1, (0, li)), (2, (0, 1020 + (20 * li)))]) rfl rfl (by omega) rfl) ?_
                  refine xg_t (xg_goto) ?_
                  refine xg_t (xg_drop (l1 := [(0, (2, 82)), (1, (0, li)), (2, (0, 1020 + (20 * li))), (3, (0, 1)), (4, (0, ti + 1))]) (List.forall_mem_cons.mpr ⟨List.mem_cons_of_mem _ (List.mem_cons_of_mem _ (List.mem_cons_of_mem _ (List.mem_cons_of_mem _ (List.mem_cons_of_mem _ (List.mem_cons_of_mem _ (List.mem_cons_self)))))), List.forall_mem_cons.mpr ⟨List.mem_cons_of_mem _ (List.mem_cons_of_mem _ (List.mem_cons_of_mem _ (List.mem_cons_of_mem _ (List.mem_cons_of_mem _ (List.mem_cons_of_mem _ (List.mem_cons_of_mem _ (List.mem_cons_self))))))), List.forall_mem_cons.mpr ⟨List.mem_cons_of_mem _ (List.mem_cons_of_mem _ (List.mem_cons_of_mem _ (List.mem_cons_of_mem _ (List.mem_cons_of_mem _ (List.mem_cons_of_mem _ (List.mem_cons_of_mem _ (List.mem_cons_of_mem _ (List.mem_cons_self)))))))), List.forall_mem_cons.mpr ⟨List.mem_cons_of_mem _ (List.mem_cons_self), List.forall_mem_cons.mpr ⟨List.mem_cons_self, fun _ h => absurd h List.not_mem_nil⟩⟩⟩⟩⟩)) ?_
                  exact ih34 1 (ti + 1) w83 (by omega) (by omega) (by omega) (hI85) ((hF38.tr (hF86.up (by decide))))
              · refine xg_t (xg_icT (u := n87) (v := u121) rfl xnm0 xnm0 (xj_neT hc150)) ?_
                refine xg_t (xg_blq rfl) ?_
                refine xg_t (xg_const) ?_
                refine xg_t (xg_blq rfl) ?_
                refine xg_t (xg_istore (l1 := [(7, (0, u121)), (6, (0, n87)), (5, (0, ((1020 + (20 * li)) + 1) + (4 * ti))), (0, (2, 82)), (1, (0, li)), (2, (0, 1020 + (20 * li))), (3, (0, is_)), (4, (0, ti))]) rfl rfl rfl) ?_
                refine xg_t (xg_iload (va := (0, 0)) rfl rfl) ?_
                refine xg_t (xg_aload (va := (2, 82)) rfl rfl) ?_
                refine xg_t (xg_getf (va := (2, 83)) h82_119 rfl) ?_
                refine xg_t (xg_iload (va := (0, ((1020 + (20 * li)) + 1) + (4 * ti))) rfl rfl) ?_
                refine xg_ialdB (n := ((1020 + (20 * li)) + 1) + (4 * ti)) (B := 4294967295) ((hR83.fr hF38 (by decide)).fr hF86 (by decide)) (hgb) xnm0 (by omega) (fun u155 hu156 he157 => ?_)
                refine xg_t (xg_const) ?_
                by_cases hc158 : u155 = 1
                · refine xg_t (xg_icF (u := u155) (v := 1) rfl xnm0 xnm0 (xj_neF hc158)) ?_
                  refine xg_t (xg_const) ?_
                  refine xg_t (xg_goto) ?_
                  refine xg_t (xg_blq rfl) ?_
                  refine xg_t (xg_icF (u := 0) (v := 1) rfl xnm0 xnm0 (by decide)) ?_
                  refine xg_t (xg_const) ?_
                  refine xg_t (xg_goto) ?_
                  refine xg_t (xg_blq rfl) ?_
                  refine xg_t (xg_istore (l1 := [(8, (0, 0)), (7, (0, u121)), (6, (0, n87)), (5, (0, ((1020 + (20 * li)) + 1) + (4 * ti))), (0, (2, 82)), (1, (0, li)), (2, (0, 1020 + (20 * li))), (4, (0, ti))]) rfl rfl rfl) ?_
                  refine xg_t (xg_iinc (u := ti) (z := ti + 1) (l1 := [(3, (0, 1)), (8, (0, 0)), (7, (0, u121)), (6, (0, n87)), (5, (0, ((1020 + (20 * li)) + 1) + (4 * ti))), (0, (2, 82)), (1, (0, li)), (2, (0, 1020 + (20 * li)))]) rfl rfl (by omega) rfl) ?_
                  refine xg_t (xg_goto) ?_
                  refine xg_t (xg_drop (l1 := [(0, (2, 82)), (1, (0, li)), (2, (0, 1020 + (20 * li))), (3, (0, 1)), (4, (0, ti + 1))]) (List.forall_mem_cons.mpr ⟨List.mem_cons_of_mem _ (List.mem_cons_of_mem _ (List.mem_cons_of_mem _ (List.mem_cons_of_mem _ (List.mem_cons_of_mem _ (List.mem_cons_of_mem _ (List.mem_cons_self)))))), List.forall_mem_cons.mpr ⟨List.mem_cons_of_mem _ (List.mem_cons_of_mem _ (List.mem_cons_of_mem _ (List.mem_cons_of_mem _ (List.mem_cons_of_mem _ (List.mem_cons_of_mem _ (List.mem_cons_of_mem _ (List.mem_cons_self))))))), List.forall_mem_cons.mpr ⟨List.mem_cons_of_mem _ (List.mem_cons_of_mem _ (List.mem_cons_of_mem _ (List.mem_cons_of_mem _ (List.mem_cons_of_mem _ (List.mem_cons_of_mem _ (List.mem_cons_of_mem _ (List.mem_cons_of_mem _ (List.mem_cons_self)))))))), List.forall_mem_cons.mpr ⟨List.mem_cons_of_mem _ (List.mem_cons_self), List.forall_mem_cons.mpr ⟨List.mem_cons_self, fun _ h => absurd h List.not_mem_nil⟩⟩⟩⟩⟩)) ?_
                  exact ih34 1 (ti + 1) w83 (by omega) (by omega) (by omega) (hI85) ((hF38.tr (hF86.up (by decide))))
                · refine xg_t (xg_icT (u := u155) (v := 1) rfl xnm0 xnm0 (xj_neT hc158)) ?_
                  refine xg_t (xg_blq rfl) ?_
                  refine xg_t (xg_const) ?_
                  refine xg_t (xg_blq rfl) ?_
                  refine xg_t (xg_icT (u := 0) (v := 0) rfl xnm0 xnm0 (by decide)) ?_
                  refine xg_t (xg_blq rfl) ?_
                  refine xg_t (xg_const) ?_
                  refine xg_t (xg_blq rfl) ?_
                  refine xg_t (xg_istore (l1 := [(8, (0, 0)), (7, (0, u121)), (6, (0, n87)), (5, (0, ((1020 + (20 * li)) + 1) + (4 * ti))), (0, (2, 82)), (1, (0, li)), (2, (0, 1020 + (20 * li))), (4, (0, ti))]) rfl rfl rfl) ?_
                  refine xg_t (xg_iinc (u := ti) (z := ti + 1) (l1 := [(3, (0, 0)), (8, (0, 0)), (7, (0, u121)), (6, (0, n87)), (5, (0, ((1020 + (20 * li)) + 1) + (4 * ti))), (0, (2, 82)), (1, (0, li)), (2, (0, 1020 + (20 * li)))]) rfl rfl (by omega) rfl) ?_
                  refine xg_t (xg_goto) ?_
                  refine xg_t (xg_drop (l1 := [(0, (2, 82)), (1, (0, li)), (2, (0, 1020 + (20 * li))), (3, (0, 0)), (4, (0, ti + 1))]) (List.forall_mem_cons.mpr ⟨List.mem_cons_of_mem _ (List.mem_cons_of_mem _ (List.mem_cons_of_mem _ (List.mem_cons_of_mem _ (List.mem_cons_of_mem _ (List.mem_cons_of_mem _ (List.mem_cons_self)))))), List.forall_mem_cons.mpr ⟨List.mem_cons_of_mem _ (List.mem_cons_of_mem _ (List.mem_cons_of_mem _ (List.mem_cons_of_mem _ (List.mem_cons_of_mem _ (List.mem_cons_of_mem _ (List.mem_cons_of_mem _ (List.mem_cons_self))))))), List.forall_mem_cons.mpr ⟨List.mem_cons_of_mem _ (List.mem_cons_of_mem _ (List.mem_cons_of_mem _ (List.mem_cons_of_mem _ (List.mem_cons_of_mem _ (List.mem_cons_of_mem _ (List.mem_cons_of_mem _ (List.mem_cons_of_mem _ (List.mem_cons_self)))))))), List.forall_mem_cons.mpr ⟨List.mem_cons_of_mem _ (List.mem_cons_self), List.forall_mem_cons.mpr ⟨List.mem_cons_self, fun _ h => absurd h List.not_mem_nil⟩⟩⟩⟩⟩)) ?_
                  exact ih34 0 (ti + 1) w83 (by omega) (by omega) (by omega) (hI85) ((hF38.tr (hF86.up (by decide))))
      · refine xg_t (xg_icT (u := ti) (v := u74) rfl xnm0 xnm0 (xj_geT (by omega) (by omega))) ?_
        refine xg_t (xg_blq rfl) ?_
        refine xg_t (xg_iload (va := (0, is_)) rfl rfl) ?_
        exact xg_e ⟨is_, w36, ⟨xret_b (by omega), rfl⟩, by omega, hI37, hF38⟩
  exact key33 _ 1 0 w (Nat.lt_succ_self _) (by omega) (by omega) (hI) (xFr.rf)
theorem mBarred (hI : xMnv w)  : xPi (d + 9) mX12_barred [(2, 82)] w bd fc rr (fun n w' => (n ≤ 4294967295) ∧ xMnv w' ∧ xFr [82, 88, 90, 91, 92, 93, 94, 95, 96, 97, 98, 99, 100, 101, 102, 103, 104, 105, 106, 107, 111] w w') := by
  refine xPi.of ?_
  show xTo (d + 9) mX12_barred (0, [], [(0, (2, 82))], [], (w, bd, fc, 0, 0, rr)) (fun φ => ∃ n w', xEnd 1 [(0, n)] (w', bd, fc, 0, 0, rr) φ ∧ (n ≤ 4294967295) ∧ xMnv w' ∧ xFr [82, 88, 90, 91, 92, 93, 94, 95, 96, 97, 98, 99, 100, 101, 102, 103, 104, 105, 106, 107, 111] w w')
  refine xoCh82 (xqc82 hI : cp82 (wget w 82)) (fun f82_1 f82_3 f82_5 f82_7 f82_9 f82_11 f82_13 f82_15 f82_17 f82_19 f82_21 f82_22 f82_23 f82_25 f82_27 f82_29 h82_31 hb2 hb4 hb6 hb8 hb10 hb12 hb14 hb16 hb18 hb20 hb24 hb26 hb28 hb30 hb32 => ?_)
  refine xoX83 (xqc83 hI : cpx83 (wget w 83)) (fun g83_33 h83_34 hb35 hx36 => ?_)
  refine xg_t (xg_blq rfl) ?_
  refine xg_t (xg_const) ?_
  refine xg_t (xg_istore (l1 := [(0, (2, 82))]) rfl rfl rfl) ?_
  refine xg_t (xg_drop (l1 := [(0, (2, 82)), (1, (0, 0))]) (List.forall_mem_cons.mpr ⟨List.mem_cons_of_mem _ (List.mem_cons_self), List.forall_mem_cons.mpr ⟨List.mem_cons_self, fun _ h => absurd h List.not_mem_nil⟩⟩)) ?_
  have key37 : ∀ (m39 : Nat) (ki : Nat) (w40 : List (List xE)), 16 - ki < m39 → ki ≤ 16 → xMnv w40 → xFr [82, 88, 90, 91, 92, 93, 94, 95, 96, 97, 98, 99, 100, 101, 102, 103, 104, 105, 106, 107, 111] w w40 → xTo (d + 9) mX12_barred (2, [], [(0, (2, 82)), (1, (0, ki))], [], (w40, bd, fc, 0, 0, rr)) (fun φ => ∃ n w', xEnd 1 [(0, n)] (w', bd, fc, 0, 0, rr) φ ∧ (n ≤ 4294967295) ∧ xMnv w' ∧ xFr [82, 88, 90, 91, 92, 93, 94, 95, 96, 97, 98, 99, 100, 101, 102, 103, 104, 105, 106, 107, 111] w w') := by
    intro m39
    induction m39 with
    | zero => intro ki w40 hz; exact absurd hz (Nat.not_lt_zero _)
    | succ m39 ih38 =>
      intro ki w40 hm44 hn43 hI41 hF42
      refine xg_t (xg_blq rfl) ?_
      refine xg_t (xg_iload (va := (0, ki)) rfl rfl) ?_
      refine xg_t (xg_aload (va := (2, 82)) rfl rfl) ?_
      refine xoCh82 (xqc82 hI41 : cp82 (wget w40 82)) (fun f82_45 f82_47 f82_49 f82_51 f82_53 f82_55 f82_57 f82_59 f82_61 f82_63 f82_65 f82_66 f82_67 f82_69 f82_71 f82_73 h82_75 hb46 hb48 hb50 hb52 hb54 hb56 hb58 hb60 hb62 hb64 hb68 hb70 hb72 hb74 hb76 => ?_)
      refine xg_t (xg_getf (va := (2, 83)) h82_75 rfl) ?_
      refine xg_t (xg_sip) ?_
      refine xg_ialdB (n := 902) (B := 4294967295) (h83_34.fr hF42 (by decide)) (hb35) xnm0 (by first | decide | omega) (fun u77 hu78 he79 => ?_)
      have hl80 : u77 ≤ 16 := by rw [← he79]; exact hx36.l902
      by_cases hc81 : ki < u77
      · refine xg_t (xg_icF (u := ki) (v := u77) rfl xnm0 xnm0 (xj_geF hc81 (by omega))) ?_
        refine xg_t (xg_aload (va := (2, 82)) rfl rfl) ?_
        refine xg_t (xg_getf (va := (2, 83)) h82_75 rfl) ?_
        refine xg_t (xg_sip) ?_
        refine xg_t (xg_bip) ?_
        refine xg_t (xg_iload (va := (0, ki)) rfl rfl) ?_
        refine xg_t (xg_imul (u := 20) (v := ki) (z := 20 * ki) xnm0 xnm0 (by omega)) ?_
        refine xg_t (xg_iadd (u := 1020) (v := 20 * ki) (z := 1020 + (20 * ki)) xnm0 xnm0 (by omega)) ?_
        refine xg_t (xg_bip) ?_
        refine xg_t (xg_iadd (u := 1020 + (20 * ki)) (v := 17) (z := (1020 + (20 * ki)) + 17) xnm0 xnm0 (by omega)) ?_
        refine xg_ialdB (n := (1020 + (20 * ki)) + 17) (B := 4294967295) (h83_34.fr hF42 (by decide)) (hb35) xnm0 (by omega) (fun u82 hu83 he84 => ?_)
        refine xg_t (xg_bip) ?_
        by_cases hc85 : u82 = 40
        · refine xg_t (xg_icF (u := u82) (v := 40) rfl xnm0 xnm0 (xj_neF hc85)) ?_
          refine xg_t (xg_aload (va := (2, 82)) rfl rfl) ?_
          refine xg_t (xg_iload (va := (0, ki)) rfl rfl) ?_
          have hl86 := hx36.l902
          refine xg_cVi mX12_holds (vs := [(0, ki)]) (rest := []) (cn1 := 0) (sl1 := 0) rfl (mHolds (hI41) (by omega) (by omega) (h83_34.fr hF42 (by decide)) hb35 hx36) rfl h82_75 rfl rfl rfl rfl rfl rfl (fun n91 w87 hq88 => ?_)
          obtain ⟨hn92, hI89, hF90⟩ := hq88
          by_cases hc93 : n91 = 0
          · refine xg_t (xg_ifT (u := n91) rfl xnm0 (xj_eqT hc93)) ?_
            refine xg_t (xg_blq rfl) ?_
            refine xg_t (xg_iinc (u := ki) (z := ki + 1) (l1 := [(0, (2, 82))]) rfl rfl (by omega) rfl) ?_
            refine xg_t (xg_goto) ?_
            refine xg_t (xg_drop (l1 := [(0, (2, 82)), (1, (0, ki + 1))]) (List.forall_mem_cons.mpr ⟨List.mem_cons_of_mem _ (List.mem_cons_self), List.forall_mem_cons.mpr ⟨List.mem_cons_self, fun _ h => absurd h List.not_mem_nil⟩⟩)) ?_
            exact ih38 (ki + 1) w87 (by omega) (by omega) (hI89) ((hF42.tr (hF90.up (by decide))))
          · refine xg_t (xg_ifF (u := n91) rfl xnm0 (xj_eqF hc93)) ?_
            refine xg_t (xg_iload (va := (0, ki)) rfl rfl) ?_
            exact xg_e ⟨ki, w87, ⟨rfl, rfl⟩, by omega, hI89, (hF42.tr (hF90.up (by decide)))⟩
        · refine xg_t (xg_icT (u := u82) (v := 40) rfl xnm0 xnm0 (xj_neT hc85)) ?_
          refine xg_t (xg_blq rfl) ?_
          refine xg_t (xg_iinc (u := ki) (z := ki + 1) (l1 := [(0, (2, 82))]) rfl rfl (by omega) rfl) ?_
          refine xg_t (xg_goto) ?_
          refine xg_t (xg_drop (l1 := [(0, (2, 82)), (1, (0, ki + 1))]) (List.forall_mem_cons.mpr ⟨List.mem_cons_of_mem _ (List.mem_cons_self), List.forall_mem_cons.mpr ⟨List.mem_cons_self, fun _ h => absurd h List.not_mem_nil⟩⟩)) ?_
          exact ih38 (ki + 1) w40 (by omega) (by omega) (hI41) (hF42)
      · refine xg_t (xg_icT (u := ki) (v := u77) rfl xnm0 xnm0 (xj_geT (by omega) (by omega))) ?_
        refine xg_t (xg_blq rfl) ?_
        refine xg_t (xg_const) ?_
        exact xg_e ⟨4294967295, w40, ⟨rfl, rfl⟩, by first | decide | omega, hI41, hF42⟩
  exact key37 _ 0 w (Nat.lt_succ_self _) (by omega) (hI) (xFr.rf)
theorem mPrice (hI : xMnv w)  : xPi (d + 9) mX12_price [(2, 82)] w bd fc rr (fun n w' => (n ≤ 4294967295) ∧ xMnv w' ∧ xFr [82, 88, 90, 91, 92, 93, 94, 95, 96, 97, 98, 99, 100, 101, 102, 103, 104, 105, 106, 107, 111] w w') := by
  refine xPi.of ?_
  show xTo (d + 9) mX12_price (0, [], [(0, (2, 82))], [], (w, bd, fc, 0, 0, rr)) (fun φ => ∃ n w', xEnd 1 [(0, n)] (w', bd, fc, 0, 0, rr) φ ∧ (n ≤ 4294967295) ∧ xMnv w' ∧ xFr [82, 88, 90, 91, 92, 93, 94, 95, 96, 97, 98, 99, 100, 101, 102, 103, 104, 105, 106, 107, 111] w w')
  refine xoCh82 (xqc82 hI : cp82 (wget w 82)) (fun f82_1 f82_3 f82_5 f82_7 f82_9 f82_11 f82_13 f82_15 f82_17 f82_19 f82_21 f82_22 f82_23 f82_25 f82_27 f82_29 h82_31 hb2 hb4 hb6 hb8 hb10 hb12 hb14 hb16 hb18 hb20 hb24 hb26 hb28 hb30 hb32 => ?_)
  refine xoX83 (xqc83 hI : cpx83 (wget w 83)) (fun g83_33 h83_34 hb35 hx36 => ?_)
  refine xg_t (xg_blq rfl) ?_
  refine xg_t (xg_const) ?_
  refine xg_t (xg_istore (l1 := [(0, (2, 82))]) rfl rfl rfl) ?_
  refine xg_t (xg_const) ?_
  refine xg_t (xg_istore (l1 := [(1, (0, 0)), (0, (2, 82))]) rfl rfl rfl) ?_
  refine xg_t (xg_drop (l1 := [(0, (2, 82)), (1, (0, 0)), (2, (0, 0))]) (List.forall_mem_cons.mpr ⟨List.mem_cons_of_mem _ (List.mem_cons_of_mem _ (List.mem_cons_self)), List.forall_mem_cons.mpr ⟨List.mem_cons_of_mem _ (List.mem_cons_self), List.forall_mem_cons.mpr ⟨List.mem_cons_self, fun _ h => absurd h List.not_mem_nil⟩⟩⟩)) ?_
  have key37 : ∀ (m39 : Nat) (su ki : Nat) (w40 : List (List xE)), 16 - ki < m39 → su ≤ 4294967295 → ki ≤ 16 → xMnv w40 → xFr [82, 88, 90, 91, 92, 93, 94, 95, 96, 97, 98, 99, 100, 101, 102, 103, 104, 105, 106, 107, 111] w w40 → xTo (d + 9) mX12_price (4, [], [(0, (2, 82)), (1, (0, su)), (2, (0, ki))], [], (w40, bd, fc, 0, 0, rr)) (fun φ => ∃ n w', xEnd 1 [(0, n)] (w', bd, fc, 0, 0, rr) φ ∧ (n ≤ 4294967295) ∧ xMnv w' ∧ xFr [82, 88, 90, 91, 92, 93, 94, 95, 96, 97, 98, 99, 100, 101, 102, 103, 104, 105, 106, 107, 111] w w') := by
    intro m39
    induction m39 with
    | zero => intro su ki w40 hz; exact absurd hz (Nat.not_lt_zero _)
    | succ m39 ih38 =>
      intro su ki w40 hm45 hn43 hn44 hI41 hF42
      refine xg_t (xg_blq rfl) ?_
      refine xg_t (xg_iload (va := (0, ki)) rfl rfl) ?_
      refine xg_t (xg_aload (va := (2, 82)) rfl rfl) ?_
      refine xoCh82 (xqc82 hI41 : cp82 (wget w40 82)) (fun f82_46 f82_48 f82_50 f82_52 f82_54 f82_56 f82_58 f82_60 f82_62 f82_64 f82_66 f82_67 f82_68 f82_70 f82_72 f82_74 h82_76 hb47 hb49 hb51 hb53 hb55 hb57 hb59 hb61 hb63 hb65 hb69 hb71 hb73 hb75 hb77 => ?_)
      refine xg_t (xg_getf (va := (2, 83)) h82_76 rfl) ?_
      refine xg_t (xg_sip) ?_
      refine xg_ialdB (n := 902) (B := 4294967295) (h83_34.fr hF42 (by decide)) (hb35) xnm0 (by first | decide | omega) (fun u78 hu79 he80 => ?_)
      have hl81 : u78 ≤ 16 := by rw [← he80]; exact hx36.l902
      by_cases hc82 : ki < u78
      · refine xg_t (xg_icF (u := ki) (v := u78) rfl xnm0 xnm0 (xj_geF hc82 (by omega))) ?_
        refine xg_t (xg_aload (va := (2, 82)) rfl rfl) ?_
        refine xg_t (xg_getf (va := (2, 83)) h82_76 rfl) ?_
        refine xg_t (xg_sip) ?_
        refine xg_t (xg_bip) ?_
        refine xg_t (xg_iload (va := (0, ki)) rfl rfl) ?_
        refine xg_t (xg_imul (u := 20) (v := ki) (z := 20 * ki) xnm0 xnm0 (by omega)) ?_
        refine xg_t (xg_iadd (u := 1020) (v := 20 * ki) (z := 1020 + (20 * ki)) xnm0 xnm0 (by omega)) ?_
        refine xg_t (xg_bip) ?_
        refine xg_t (xg_iadd (u := 1020 + (20 * ki)) (v := 17) (z := (1020 + (20 * ki)) + 17) xnm0 xnm0 (by omega)) ?_
        refine xg_ialdB (n := (1020 + (20 * ki)) + 17) (B := 4294967295) (h83_34.fr hF42 (by decide)) (hb35) xnm0 (by omega) (fun u83 hu84 he85 => ?_)
        refine xg_t (xg_istore (l1 := [(0, (2, 82)), (1, (0, su)), (2, (0, ki))]) rfl rfl rfl) ?_
        refine xg_t (xg_iload (va := (0, u83)) rfl rfl) ?_
        refine xg_t (xg_bip) ?_
        by_cases hc86 : u83 = 40
        · refine xg_t (xg_icT (u := u83) (v := 40) rfl xnm0 xnm0 (xj_eqT hc86)) ?_
          refine xg_t (xg_blq rfl) ?_
          refine xg_t (xg_iinc (u := ki) (z := ki + 1) (l1 := [(3, (0, u83)), (0, (2, 82)), (1, (0, su))]) rfl rfl (by omega) rfl) ?_
          refine xg_t (xg_goto) ?_
          refine xg_t (xg_drop (l1 := [(0, (2, 82)), (1, (0, su)), (2, (0, ki + 1))]) (List.forall_mem_cons.mpr ⟨List.mem_cons_of_mem _ (List.mem_cons_of_mem _ (List.mem_cons_self)), List.forall_mem_cons.mpr ⟨List.mem_cons_of_mem _ (List.mem_cons_of_mem _ (List.mem_cons_of_mem _ (List.mem_cons_self))), List.forall_mem_cons.mpr ⟨List.mem_cons_self, fun _ h => absurd h List.not_mem_nil⟩⟩⟩)) ?_
          exact ih38 su (ki + 1) w40 (by omega) (by omega) (by omega) (hI41) (hF42)
        · refine xg_t (xg_icF (u := u83) (v := 40) rfl xnm0 xnm0 (xj_eqF hc86)) ?_
          refine xg_t (xg_aload (va := (2, 82)) rfl rfl) ?_
          refine xg_t (xg_iload (va := (0, ki)) rfl rfl) ?_
          have hl87 := hx36.l902
          refine xg_cVi mX12_holds (vs := [(0, ki)]) (rest := []) (cn1 := 0) (sl1 := 0) rfl (mHolds (hI41) (by omega) (by omega) (h83_34.fr hF42 (by decide)) hb35 hx36) rfl h82_76 rfl rfl rfl rfl rfl rfl (fun n92 w88 hq89 => ?_)
          obtain ⟨hn93, hI90, hF91⟩ := hq89
          by_cases hc94 : n92 = 0
          · refine xg_t (xg_ifT (u := n92) rfl xnm0 (xj_eqT hc94)) ?_
            refine xg_t (xg_blq rfl) ?_
            refine xg_t (xg_iinc (u := ki) (z := ki + 1) (l1 := [(3, (0, u83)), (0, (2, 82)), (1, (0, su))]) rfl rfl (by omega) rfl) ?_
            refine xg_t (xg_goto) ?_
            refine xg_t (xg_drop (l1 := [(0, (2, 82)), (1, (0, su)), (2, (0, ki + 1))]) (List.forall_mem_cons.mpr ⟨List.mem_cons_of_mem _ (List.mem_cons_of_mem _ (List.mem_cons_self)), List.forall_mem_cons.mpr ⟨List.mem_cons_of_mem _ (List.mem_cons_of_mem _ (List.mem_cons_of_mem _ (List.mem_cons_self))), List.forall_mem_cons.mpr ⟨List.mem_cons_self, fun _ h => absurd h List.not_mem_nil⟩⟩⟩)) ?_
            exact ih38 su (ki + 1) w88 (by omega) (by omega) (by omega) (hI90) ((hF42.tr (hF91.up (by decide))))
          · refine xg_t (xg_ifF (u := n92) rfl xnm0 (xj_eqF hc94)) ?_
            refine xg_t (xg_iload (va := (0, su)) rfl rfl) ?_
            refine xg_t (xg_iload (va := (0, u83)) rfl rfl) ?_
            refine xg_t (xg_bip) ?_
            by_cases hc95 : u83 = 41
            · refine xg_t (xg_icF (u := u83) (v := 41) rfl xnm0 xnm0 (xj_neF hc95)) ?_
              refine xg_t (xg_aload (va := (2, 82)) rfl rfl) ?_
              refine xoCh82 (xqc82 hI90 : cp82 (wget w88 82)) (fun f82_96 f82_98 f82_100 f82_102 f82_104 f82_106 f82_108 f82_110 f82_112 f82_114 f82_116 f82_117 f82_118 f82_120 f82_122 f82_124 h82_126 hb97 hb99 hb101 hb103 hb105 hb107 hb109 hb111 hb113 hb115 hb119 hb121 hb123 hb125 hb127 => ?_)
              refine xg_t (xg_getf (va := (2, 83)) h82_126 rfl) ?_
              refine xg_t (xg_sip) ?_
              refine xg_t (xg_bip) ?_
              refine xg_t (xg_iload (va := (0, ki)) rfl rfl) ?_
              refine xg_t (xg_imul (u := 20) (v := ki) (z := 20 * ki) xnm0 xnm0 (by omega)) ?_
              refine xg_t (xg_iadd (u := 1020) (v := 20 * ki) (z := 1020 + (20 * ki)) xnm0 xnm0 (by omega)) ?_
              refine xg_t (xg_bip) ?_
              refine xg_t (xg_iadd (u := 1020 + (20 * ki)) (v := 18) (z := (1020 + (20 * ki)) + 18) xnm0 xnm0 (by omega)) ?_
              refine xg_ialdB (n := (1020 + (20 * ki)) + 18) (B := 4294967295) ((h83_34.fr hF42 (by decide)).fr hF91 (by decide)) (hb35) xnm0 (by omega) (fun u128 hu129 he130 => ?_)
              refine xg_t (xg_goto) ?_
              refine xg_t (xg_blq rfl) ?_
              refine xg_k (xg_iadd (u := su) (v := u128) (z := (su + u128) % 4294967296) xnm0 xnm0 rfl) (Nat.mod_lt _ (by decide)) (fun z131 hz132 => ?_)
              refine xg_t (xg_istore (l1 := [(3, (0, u83)), (0, (2, 82)), (2, (0, ki))]) rfl rfl rfl) ?_
              refine xg_t (xg_blq rfl) ?_
              refine xg_t (xg_iinc (u := ki) (z := ki + 1) (l1 := [(1, (0, z131)), (3, (0, u83)), (0, (2, 82))]) rfl rfl (by omega) rfl) ?_
              refine xg_t (xg_goto) ?_
              refine xg_t (xg_drop (l1 := [(0, (2, 82)), (1, (0, z131)), (2, (0, ki + 1))]) (List.forall_mem_cons.mpr ⟨List.mem_cons_of_mem _ (List.mem_cons_of_mem _ (List.mem_cons_of_mem _ (List.mem_cons_self))), List.forall_mem_cons.mpr ⟨List.mem_cons_of_mem _ (List.mem_cons_self), List.forall_mem_cons.mpr ⟨List.mem_cons_self, fun _ h => absurd h List.not_mem_nil⟩⟩⟩)) ?_
              exact ih38 z131 (ki + 1) w88 (by omega) (by omega) (by omega) (hI90) ((hF42.tr (hF91.up (by decide))))
            · refine xg_t (xg_icT (u := u83) (v := 41) rfl xnm0 xnm0 (xj_neT hc95)) ?_
              refine xg_t (xg_blq rfl) ?_
              refine xg_t (xg_aload (va := (2, 82)) rfl rfl) ?_
              refine xoCh82 (xqc82 hI90 : cp82 (wget w88 82)) (fun f82_133 f82_135 f82_137 f82_139 f82_141 f82_143 f82_145 f82_147 f82_149 f82_151 f82_153 f82_154 f82_155 f82_157 f82_159 f82_161 h82_163 hb134 hb136 hb138 hb140 hb142 hb144 hb146 hb148 hb150 hb152 hb156 hb158 hb160 hb162 hb164 => ?_)
              refine xg_t (xg_getf (va := (2, 83)) h82_163 rfl) ?_
              refine xg_t (xg_sip) ?_
              refine xg_t (xg_bip) ?_
              refine xg_t (xg_iload (va := (0, ki)) rfl rfl) ?_
              refine xg_t (xg_imul (u := 20) (v := ki) (z := 20 * ki) xnm0 xnm0 (by omega)) ?_
              refine xg_t (xg_iadd (u := 1020) (v := 20 * ki) (z := 1020 + (20 * ki)) xnm0 xnm0 (by omega)) ?_
              refine xg_t (xg_bip) ?_
              refine xg_t (xg_iadd (u := 1020 + (20 * ki)) (v := 18) (z := (1020 + (20 * ki)) + 18) xnm0 xnm0 (by omega)) ?_
              refine xg_ialdB (n := (1020 + (20 * ki)) + 18) (B := 4294967295) ((h83_34.fr hF42 (by decide)).fr hF91 (by decide)) (hb35) xnm0 (by omega) (fun u165 hu166 he167 => ?_)
              refine xg_k (xg_ineg (u := u165) xnm0) (xpt_lt _) (fun z168 hz169 => ?_)
              refine xg_t (xg_blq rfl) ?_
              refine xg_k (xg_iadd (u := su) (v := z168) (z := (su + z168) % 4294967296) xnm0 xnm0 rfl) (Nat.mod_lt _ (by decide)) (fun z170 hz171 => ?_)
              refine xg_t (xg_istore (l1 := [(3, (0, u83)), (0, (2, 82)), (2, (0, ki))]) rfl rfl rfl) ?_
              refine xg_t (xg_blq rfl) ?_
              refine xg_t (xg_iinc (u := ki) (z := ki + 1) (l1 := [(1, (0, z170)), (3, (0, u83)), (0, (2, 82))]) rfl rfl (by omega) rfl) ?_
              refine xg_t (xg_goto) ?_
              refine xg_t (xg_drop (l1 := [(0, (2, 82)), (1, (0, z170)), (2, (0, ki + 1))]) (List.forall_mem_cons.mpr ⟨List.mem_cons_of_mem _ (List.mem_cons_of_mem _ (List.mem_cons_of_mem _ (List.mem_cons_self))), List.forall_mem_cons.mpr ⟨List.mem_cons_of_mem _ (List.mem_cons_self), List.forall_mem_cons.mpr ⟨List.mem_cons_self, fun _ h => absurd h List.not_mem_nil⟩⟩⟩)) ?_
              exact ih38 z170 (ki + 1) w88 (by omega) (by omega) (by omega) (hI90) ((hF42.tr (hF91.up (by decide))))
      · refine xg_t (xg_icT (u := ki) (v := u78) rfl xnm0 xnm0 (xj_geT (by omega) (by omega))) ?_
        refine xg_t (xg_blq rfl) ?_
        refine xg_t (xg_iload (va := (0, su)) rfl rfl) ?_
        by_cases hc172 : su < 2147483648
        · refine xg_t (xg_ifT (u := su) rfl xnm0 (xjz_geT hc172)) ?_
          refine xg_t (xg_blq rfl) ?_
          refine xg_t (xg_iload (va := (0, su)) rfl rfl) ?_
          refine xg_t (xg_blq rfl) ?_
          exact xg_e ⟨su, w40, ⟨rfl, rfl⟩, by omega, hI41, hF42⟩
        · refine xg_t (xg_ifF (u := su) rfl xnm0 (xjz_geF (by omega) (by omega))) ?_
          refine xg_t (xg_const) ?_
          refine xg_t (xg_goto) ?_
          refine xg_t (xg_blq rfl) ?_
          exact xg_e ⟨0, w40, ⟨rfl, rfl⟩, by first | decide | omega, hI41, hF42⟩
  exact key37 _ 0 0 w (Nat.lt_succ_self _) (by omega) (by omega) (hI) (xFr.rf)
end XMF
end
section
/-! rows of bytes copied -/
theorem fits_by {u : Nat} (h : xby u) : fits .byte (.int (nI u)) = true := by
  have k1 : ∀ u, u ≤ 127 → fits .byte (.int (nI u)) = true := by decide +kernel
  have k2 : ∀ k, k ≤ 127 → fits .byte (.int (nI (4294967168 + k))) = true := by decide +kernel
  rcases h with h | ⟨h, h'⟩
  · exact k1 u h
  · have e : u = 4294967168 + (u - 4294967168) := by omega
    rw [e]
    exact k2 _ (by omega)
section XCY
variable {d p0 pc ln x y ix n k0 k1 L0 L1 t0 t1 : Nat} {M : xM} {tl : List xI} {lo : xLo} {st : List xV} {hr : xHr} {va : xV} {P : xS → Prop} {w : List (List xE)} {f g : Nat → Nat}
theorem xg_copyY (h0 : xRk 1 0 w k0 L0 t0 f) (h1 : xRk 1 0 w k1 L1 t1 g) (hby : ∀ j, xby (f j)) (ha : xnm hr.1 va = (0, n)) (hn0 : n ≤ L0) (hn1 : n ≤ L1) (hst : st.length ≤ 4) (K : ∀ w', xRk 1 0 w' k1 L1 t1 (fun j => if j < n then f j else g j) → xBut k1 w w' → xTo (d + 1) M (pc + ln, tl, lo, st, (w', hr)) P) : xTo (d + 1) M (p0, (pc, ln, 58, x, y, ix) :: tl, lo, va :: (0, 0) :: (2, k1) :: (0, 0) :: (2, k0) :: st, (w, hr)) P := by
  obtain ⟨us0, e0, f0⟩ := h0
  obtain ⟨us1, e1, f1⟩ := h1
  have hrow : xRk 1 0 (wset (.inr (1, L1, t1, xcpl f n us1)) w k1) k1 L1 t1 (fun j => if j < n then f j else g j) := by
    refine ⟨_, wget_set_self e1, fun j hj => ?_⟩
    have hj1 := f1 j hj
    unfold xat at hj1 ⊢
    rw [xcpl_find]
    show _ = (0, if j < n then f j else g j)
    by_cases hc : j < n
    · rw [if_pos hc, if_pos hc]
    · rw [if_neg hc, if_neg hc]
      exact hj1
  refine xg_t (τ := (pc + ln, tl, lo, st, (wset (.inr (1, L1, t1, xcpl f n us1)) w k1, hr))) ?_ (K _ hrow (xBut.set e1))
  intro hM hpos p l e R s m args below meth c D A gg cw0 tys0 io0 Q C hQ cw tys io H locs ls lv sv hE hK hP hD hS hlv hlo hsv hh
  obtain ⟨q1, q2, q3, q4⟩ := hpos
  have q1 : pc = p0 := q1
  subst q1
  obtain ⟨t', z3, hdec, c0⟩ := q2
  have z4 : xget xopi 58 = some (fun e => .invokestatic e.2.2.2.2.2, xPcp) := rfl
  have z3 : xget xopi 58 = some t' := z3
  rw [z4] at z3
  cases z3
  obtain ⟨a1, c1⟩ := c0
  have a1 : ln = 3 := a1
  subst a1
  have hdec : decode M.2.1 pc = .ok (.invokestatic ix, 3) := hdec
  have c1 : Cond.methodLink M.1.cls ix arraycopyName ∈ lw_gt := c1
  obtain ⟨wn, sv1, rfl, r1, hs1⟩ := xrel_cons hsv
  obtain ⟨wd, sv2, rfl, r2, hs2⟩ := xrel_cons hs1
  obtain ⟨wr, sv3, rfl, r3, hs3⟩ := xrel_cons hs2
  obtain ⟨wp, sv4, rfl, r4, hs4⟩ := xrel_cons hs3
  obtain ⟨w0, sv5, rfl, r5, hs5⟩ := xrel_cons hs4
  obtain ⟨a, e', g1, rfl⟩ := xRv2 r3
  obtain ⟨a0, e0', j1, rfl⟩ := xRv2 r5
  obtain ⟨q', g2, g3⟩ := hh.1.get e1
  rw [g1] at g2
  cases g2
  obtain ⟨q0', j2, j3⟩ := hh.1.get e0
  rw [j1] at j2
  cases j2
  obtain ⟨cA, F1, ty, rfl, hl1, ht1, ⟨rfl, hf1, rfl⟩, hall⟩ := xarr_get g3
  obtain ⟨cA0, F0', ty0, rfl, hl0, ht0, ⟨rfl, hf0, rfl⟩, hall0⟩ := xarr_get j3
  obtain ⟨qf, g8, g9⟩ := wfl_get g1
  obtain ⟨qf0, j8, -⟩ := wfl_get j1
  have y1 := xnm_ok hh.2.1 r1
  have y1 : xRv gg cw io (xnm hr.1 va) wn := y1
  rw [ha] at y1
  obtain ⟨-, rfl⟩ := y1
  obtain ⟨-, rfl⟩ := r2
  obtain ⟨-, rfl⟩ := r4
  have hcn : (nI (0, n).2).toNatClampNeg = n := nI_clamp (by show n < 2147483648; omega)
  have hc0 : (nI (0, 0).2).toNatClampNeg = 0 := nI_clamp (by decide)
  have hlen := xrel_len hs5
  have hcs := xcats sv5
  have hcw := xcopyw
  obtain ⟨hx, hb, hml, hown, hts, hA, hR, -, -⟩ := id C
  refine va_copyi hx hb (by rw [hml, hlv.1]) hown (hts _ c1) (hts _ xt_cn) (hts _ xt_cs) (hts _ xt_sys) hK hP hD hS qf0 qf t0 t1 j8 g8 ht0 ht1 rfl (nI_pos (by decide)) (nI_pos (by decide)) (nI_pos (by show n < 2147483648; omega)) ?_ ?_ (fun i hi => ?_) (by omega) (by omega) hdec fun H1 locs1 hP1 hD1 hS1 => ?_
  · rw [hcn, hc0]
    omega
  · rw [hcn, hc0]
    omega
  · rw [hc0, Nat.zero_add]
    rw [hcn] at hi
    have q := xat_ok (hall0 i)
    rw [f0 i (by omega)] at q
    have q2 : hf0 i = nI (f i) := by
      have := q.2
      injection this
    rw [q2]
    exact fits_by (hby i)
  · rw [hcn, hc0] at hP1 hD1
    rw [g9] at hP1 hD1
    have E : xExt cw tys io (wset (a, .inl (cA, L1, .inl (va_cpy hf0 hf1 0 0 n))) cw k1) tys io := xExt.set g1
    have hnew : xRe gg cw tys io (.inr (1, L1, t1, xcpl f n us1)) (.inl (cA, L1, .inl (va_cpy hf0 hf1 0 0 n))) := by
      refine ⟨rfl, hl1, .byte, ht1, ⟨rfl, _, rfl⟩, fun j => ?_⟩
      show xRa gg cw io 1 (xcpl f n us1) (.inl (va_cpy hf0 hf1 0 0 n)) j
      have hj := hall j
      unfold xRa at hj ⊢
      rw [xcpl_find]
      by_cases hc : j < n
      · rw [if_pos hc]
        have ev : va_cpy hf0 hf1 0 0 n j = hf0 j := by
          unfold va_cpy
          rw [if_pos ⟨Nat.zero_le j, by omega⟩, Nat.sub_zero, Nat.zero_add]
        show xRv gg cw io (0, f j) (.int (va_cpy hf0 hf1 0 0 n j))
        rw [ev, ← f0 j (by omega)]
        exact xat_ok (hall0 j)
      · rw [if_neg hc]
        have ev : va_cpy hf0 hf1 0 0 n j = hf1 j := by
          unfold va_cpy
          rw [if_neg (by omega)]
        show match xfind us1 j with
          | some v => xRv gg cw io v (.int (va_cpy hf0 hf1 0 0 n j))
          | none => Value.int (va_cpy hf0 hf1 0 0 n j) = xdef 0
        rw [ev]
        exact hj
    refine hQ _ List.mem_cons_self ⟨?_, q4⟩ _ tys io H1 locs1 ls lv sv5 (hE.tr E) hK hP1 hD1 hS1 hlv (xrel_imp (fun _ _ q => ⟨q.1, q.2.ext E⟩) hlo) (xrel_imp (fun _ _ q => q.ext E) hs5) ⟨hh.1.set e1 g1 hnew, hh.2⟩
    cases tl with
    | nil => trivial
    | cons a b => exact q3
end XCY
end
