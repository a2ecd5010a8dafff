/-! the model: what the calls do to tape, day, hands, tests -/
section XME2
variable {d : Nat} {w : List (List xE)} {bd : List (Nat × Nat)} {fc : List (Nat × Nat × Bool)} {rr : Nat × Nat}
theorem mIsInX {a b c : Nat} (hI : xMnv w) (ha : a ≤ 4294967295) (hb : b ≤ 4294967295) (hc : c ≤ 4294967295) : xPi d mX12_isIn [(0, a), (0, b), (0, c)] w bd fc rr (fun n w' => ((n = 1 ∧ ¬ xbs a < xbs b ∧ ¬ xbs c < xbs a) ∨ (n = 0 ∧ (xbs a < xbs b ∨ xbs c < xbs a))) ∧ xMnv w' ∧ xFr [] w w') := by
  refine xPi.of ?_
  show xTo d mX12_isIn (0, [], [(0, (0, a)), (1, (0, b)), (2, (0, c))], [], (w, bd, fc, 0, 0, rr)) (fun φ => ∃ n w', xEnd 4 [(0, n)] (w', bd, fc, 0, 0, rr) φ ∧ ((n = 1 ∧ ¬ xbs a < xbs b ∧ ¬ xbs c < xbs a) ∨ (n = 0 ∧ (xbs a < xbs b ∨ xbs c < xbs a))) ∧ xMnv w' ∧ xFr [] w w')
  refine xg_t (xg_blq rfl) ?_
  refine xg_t (xg_iload (va := (0, a)) rfl rfl) ?_
  refine xg_t (xg_iload (va := (0, b)) rfl rfl) ?_
  by_cases hc1 : xbs a < xbs b
  · have hc1u := hc1
    unfold xbs at hc1u
    refine xg_t (xg_icT (u := a) (v := b) rfl xnm0 xnm0 (xjs_ltT hc1)) ?_
    refine xg_t (xg_blq rfl) ?_
    refine xg_t (xg_const) ?_
    refine xg_t (xg_blq rfl) ?_
    exact xg_e ⟨0, w, ⟨rfl, rfl⟩, by first | decide | omega, hI, xFr.rf⟩
  · have hc1u := hc1
    unfold xbs at hc1u
    refine xg_t (xg_icF (u := a) (v := b) rfl xnm0 xnm0 (xjs_ltF hc1)) ?_
    refine xg_t (xg_iload (va := (0, a)) rfl rfl) ?_
    refine xg_t (xg_iload (va := (0, c)) rfl rfl) ?_
    by_cases hc2 : xbs c < xbs a
    · have hc2u := hc2
      unfold xbs at hc2u
      refine xg_t (xg_icT (u := a) (v := c) rfl xnm0 xnm0 (xjs_gtT hc2)) ?_
      refine xg_t (xg_blq rfl) ?_
      refine xg_t (xg_const) ?_
      refine xg_t (xg_blq rfl) ?_
      exact xg_e ⟨0, w, ⟨rfl, rfl⟩, by first | decide | omega, hI, xFr.rf⟩
    · have hc2u := hc2
      unfold xbs at hc2u
      refine xg_t (xg_icF (u := a) (v := c) rfl xnm0 xnm0 (xjs_gtF hc2)) ?_
      refine xg_t (xg_const) ?_
      refine xg_t (xg_goto) ?_
      refine xg_t (xg_blq rfl) ?_
      exact xg_e ⟨1, w, ⟨rfl, rfl⟩, by first | decide | omega, hI, xFr.rf⟩
theorem mIsRoundX {ra : Nat} (hI : xMnv w) (hra : ra ≤ 4294967295) : xPi (d + 1) mX12_isRound [(2, 82), (0, ra)] w bd fc rr (fun n w' => ((n = 1 ∧ 1 ≤ ra ∧ ra ≤ 9999) ∨ (n = 0 ∧ ¬ (1 ≤ ra ∧ ra ≤ 9999))) ∧ xMnv w' ∧ xFr [] w w') := by
  refine xPi.of ?_
  show xTo (d + 1) mX12_isRound (0, [], [(0, (2, 82)), (1, (0, ra))], [], (w, bd, fc, 0, 0, rr)) (fun φ => ∃ n w', xEnd 4 [(0, n)] (w', bd, fc, 0, 0, rr) φ ∧ ((n = 1 ∧ 1 ≤ ra ∧ ra ≤ 9999) ∨ (n = 0 ∧ ¬ (1 ≤ ra ∧ ra ≤ 9999))) ∧ xMnv w' ∧ xFr [] w w')
  refine xg_t (xg_blq rfl) ?_
  refine xg_t (xg_iload (va := (0, ra)) rfl rfl) ?_
  refine xg_t (xg_const) ?_
  refine xg_t (xg_sip) ?_
  refine xg_t (xg_cSr mX12_isIn (vs := [(0, ra), (0, 1), (0, 9999)]) (rest := []) (rs := [(0, if 1 ≤ ra ∧ ra ≤ 9999 then 1 else 0)]) (cn1 := 0) (sl1 := 0) rfl (mIsIn (by omega) (by omega) (by omega)) rfl rfl rfl rfl rfl rfl rfl rfl) ?_
  by_cases hc1 : 1 ≤ ra ∧ ra ≤ 9999
  · rw [if_pos hc1]
    exact xg_e ⟨1, w, ⟨rfl, rfl⟩, by first | decide | omega, hI, xFr.rf⟩
  · rw [if_neg hc1]
    exact xg_e ⟨0, w, ⟨rfl, rfl⟩, by first | decide | omega, hI, xFr.rf⟩
theorem mDayX {da : Nat} (hI : xMnv w) (hda : da ≤ 4294967295) : xPi (d + 1) mX12_day [(2, 82), (0, da)] w bd fc rr (fun n w' => (((n = 1 ∧ ¬ xbs da < xbs (rwv w 83 11) ∧ ¬ xbs 999 < xbs da ∧ rwv w' 83 11 = da) ∨ (n = 0 ∧ (xbs da < xbs (rwv w 83 11) ∨ xbs 999 < xbs da) ∧ rwv w' 83 11 = rwv w 83 11)) ∧ (∀ j, (j ≠ 11) → j < 5360 → rwv w' 83 j = rwv w 83 j)) ∧ xMnv w' ∧ xFr [83] w w') := by
  refine xPi.of ?_
  show xTo (d + 1) mX12_day (0, [], [(0, (2, 82)), (1, (0, da))], [], (w, bd, fc, 0, 0, rr)) (fun φ => ∃ n w', xEnd 4 [(0, n)] (w', bd, fc, 0, 0, rr) φ ∧ (((n = 1 ∧ ¬ xbs da < xbs (rwv w 83 11) ∧ ¬ xbs 999 < xbs da ∧ rwv w' 83 11 = da) ∨ (n = 0 ∧ (xbs da < xbs (rwv w 83 11) ∨ xbs 999 < xbs da) ∧ rwv w' 83 11 = rwv w 83 11)) ∧ (∀ j, (j ≠ 11) → j < 5360 → rwv w' 83 j = rwv w 83 j)) ∧ xMnv w' ∧ xFr [83] w w')
  refine xoCh82 (xqc82 hI : cp82 (wget w 82)) (fun f82_1 f82_3 f82_5 f82_7 f82_9 f82_11 f82_13 f82_15 f82_17 f82_19 f82_21 f82_22 f82_23 f82_25 f82_27 f82_29 h82_31 hb2 hb4 hb6 hb8 hb10 hb12 hb14 hb16 hb18 hb20 hb24 hb26 hb28 hb30 hb32 => ?_)
  refine xoX83 (xqc83 hI : cpx83 (wget w 83)) (fun g83_33 h83_34 hb35 hx36 => ?_)
  refine xg_t (xg_blq rfl) ?_
  refine xg_t (xg_iload (va := (0, da)) rfl rfl) ?_
  refine xg_t (xg_aload (va := (2, 82)) rfl rfl) ?_
  refine xg_t (xg_getf (va := (2, 83)) h82_31 rfl) ?_
  refine xg_t (xg_bip) ?_
  refine xg_ialdB (n := 11) (B := 4294967295) h83_34 (hb35) xnm0 (by first | decide | omega) (fun u37 hu38 he39 => ?_)
  refine xg_t (xg_sip) ?_
  refine xg_cSi mX12_isIn (vs := [(0, da), (0, u37), (0, 999)]) (rest := []) (cn1 := 0) (sl1 := 0) rfl (mIsInX (hI) (by omega) (by omega) (by omega)) rfl rfl rfl rfl rfl rfl rfl (fun n44 w40 hq41 => ?_)
  obtain ⟨hn45, hI42, hF43⟩ := hq41
  by_cases hc46 : n44 = 0
  · refine xg_t (xg_ifF (u := n44) rfl xnm0 (xj_neF hc46)) ?_
    refine xg_t (xg_const) ?_
    have hq47 : rwv w 83 11 = g83_33 11 := rwv_of h83_34 (by decide)
    have hq48 : xbs (rwv w 83 11) = xbs u37 := congrArg xbs (hq47.trans he39)
    have hq49 : rwv w40 83 11 = g83_33 11 := rwv_of (h83_34.fr hF43 (by decide)) (by decide)
    exact xg_e ⟨0, w40, ⟨rfl, rfl⟩, ⟨by omega, fun j _ h => (rwv_of (h83_34.fr hF43 (by decide)) h).trans (rwv_of h83_34 h).symm⟩, hI42, (hF43.up (by decide))⟩
  · refine xg_t (xg_ifT (u := n44) rfl xnm0 (xj_neT hc46)) ?_
    refine xg_t (xg_blq rfl) ?_
    refine xg_t (xg_aload (va := (2, 82)) rfl rfl) ?_
    refine xg_t (xg_getf (va := (2, 83)) (hF43.get (by decide) h82_31) rfl) ?_
    refine xg_t (xg_bip) ?_
    refine xg_t (xg_iload (va := (0, da)) rfl rfl) ?_
    refine xg_iastK (n := 11) (u := da) (h83_34.fr hF43 (by decide)) xnm0 xnm0 rfl (by first | decide | omega) (fun w50 hr51 hb52 => ?_)
    have hx53 : okA (fun j => if j = 11 then da else g83_33 j) := hx36.upd (by omega) (by omega) (by omega) (fun _ => by omega) (by omega) (fun _ => by omega) (fun _ => by omega) (fun _ => by omega) (fun _ => by omega) (by omega) (fun _ _ => by omega)
    have hb54 : ∀ j, (fun j => if j = 11 then da else g83_33 j) j ≤ 4294967295 := xrb (by omega) (hb35)
    obtain ⟨g55, hg56⟩ : ∃ g : Nat → Nat, g = (fun j => if j = 11 then da else g83_33 j) := ⟨_, rfl⟩
    rw [← hg56] at hr51
    have he57 : g55 11 = da := by rw [hg56]; exact if_pos rfl
    have hk58 : ∀ j, j ≠ 11 → g55 j = g83_33 j := fun j hj => by rw [hg56]; exact if_neg hj
    rw [← hg56] at hx53
    rw [← hg56] at hb54
    refine xg_t (xg_const) ?_
    have hq59 : rwv w 83 11 = g83_33 11 := rwv_of h83_34 (by decide)
    have hq60 : xbs (rwv w 83 11) = xbs u37 := congrArg xbs (hq59.trans he39)
    have hq61 : g55 11 = da := he57
    have hq62 : rwv w50 83 11 = g55 11 := rwv_of hr51 (by decide)
    exact xg_e ⟨1, w50, ⟨rfl, rfl⟩, ⟨by omega, fun j hj h => (rwv_of hr51 h).trans (Eq.trans (by rw [hk58 j (by omega)]) (rwv_of h83_34 h).symm)⟩, xMnv.up (S := [83]) hI42 (xFr.of (S := [83]) hb52 (by decide)) (List.forall_mem_cons.mpr ⟨xqu83 (show cpx83 (wget w50 83) from ⟨_, hr51, hb54, hx53⟩), fun _ h => absurd h List.not_mem_nil⟩), ((hF43.up (by decide)).tr (xFr.of (S := [83]) hb52 (by decide)))⟩
theorem mViewX {da : Nat} (hI : xMnv w) (hda : da ≤ 4294967295) : xPi (d + 1) mX12_view [(2, 82), (0, da)] w bd fc rr (fun n w' => (((n = 1 ∧ (da = 4294967295 ∨ (¬ xbs da < xbs 0 ∧ ¬ xbs (rwv w 83 11) < xbs da)) ∧ rwv w' 83 12 = da) ∨ (n = 0 ∧ ¬ da = 4294967295 ∧ (xbs da < xbs 0 ∨ xbs (rwv w 83 11) < xbs da) ∧ rwv w' 83 12 = rwv w 83 12)) ∧ (∀ j, (j ≠ 12) → j < 5360 → rwv w' 83 j = rwv w 83 j)) ∧ xMnv w' ∧ xFr [83] w w') := by
  refine xPi.of ?_
  show xTo (d + 1) mX12_view (0, [], [(0, (2, 82)), (1, (0, da))], [], (w, bd, fc, 0, 0, rr)) (fun φ => ∃ n w', xEnd 4 [(0, n)] (w', bd, fc, 0, 0, rr) φ ∧ (((n = 1 ∧ (da = 4294967295 ∨ (¬ xbs da < xbs 0 ∧ ¬ xbs (rwv w 83 11) < xbs da)) ∧ rwv w' 83 12 = da) ∨ (n = 0 ∧ ¬ da = 4294967295 ∧ (xbs da < xbs 0 ∨ xbs (rwv w 83 11) < xbs da) ∧ rwv w' 83 12 = rwv w 83 12)) ∧ (∀ j, (j ≠ 12) → j < 5360 → rwv w' 83 j = rwv w 83 j)) ∧ xMnv w' ∧ xFr [83] w w')
  refine xoCh82 (xqc82 hI : cp82 (wget w 82)) (fun f82_1 f82_3 f82_5 f82_7 f82_9 f82_11 f82_13 f82_15 f82_17 f82_19 f82_21 f82_22 f82_23 f82_25 f82_27 f82_29 h82_31 hb2 hb4 hb6 hb8 hb10 hb12 hb14 hb16 hb18 hb20 hb24 hb26 hb28 hb30 hb32 => ?_)
  refine xoX83 (xqc83 hI : cpx83 (wget w 83)) (fun g83_33 h83_34 hb35 hx36 => ?_)
  refine xg_t (xg_blq rfl) ?_
  refine xg_t (xg_iload (va := (0, da)) rfl rfl) ?_
  refine xg_t (xg_const) ?_
  by_cases hc37 : da = 4294967295
  · refine xg_t (xg_icT (u := da) (v := 4294967295) rfl xnm0 xnm0 (xj_eqT hc37)) ?_
    refine xg_t (xg_blq rfl) ?_
    refine xg_t (xg_aload (va := (2, 82)) rfl rfl) ?_
    refine xg_t (xg_getf (va := (2, 83)) h82_31 rfl) ?_
    refine xg_t (xg_bip) ?_
    refine xg_t (xg_iload (va := (0, da)) rfl rfl) ?_
    refine xg_iastK (n := 12) (u := da) h83_34 xnm0 xnm0 rfl (by first | decide | omega) (fun w38 hr39 hb40 => ?_)
    have hx41 : okA (fun j => if j = 12 then da else g83_33 j) := hx36.upd (by omega) (by omega) (by omega) (fun _ => by omega) (by omega) (fun _ => by omega) (fun _ => by omega) (fun _ => by omega) (fun _ => by omega) (by omega) (fun _ _ => by omega)
    have hb42 : ∀ j, (fun j => if j = 12 then da else g83_33 j) j ≤ 4294967295 := xrb (by omega) (hb35)
    obtain ⟨g43, hg44⟩ : ∃ g : Nat → Nat, g = (fun j => if j = 12 then da else g83_33 j) := ⟨_, rfl⟩
    rw [← hg44] at hr39
    have he45 : g43 12 = da := by rw [hg44]; exact if_pos rfl
    have hk46 : ∀ j, j ≠ 12 → g43 j = g83_33 j := fun j hj => by rw [hg44]; exact if_neg hj
    rw [← hg44] at hx41
    rw [← hg44] at hb42
    refine xg_t (xg_const) ?_
    have hq47 : rwv w 83 11 = g83_33 11 := rwv_of h83_34 (by decide)
    have hq48 : g43 11 = g83_33 11 := hk46 11 (by omega)
    have hq49 : rwv w38 83 11 = g43 11 := rwv_of hr39 (by decide)
    have hq50 : rwv w 83 12 = g83_33 12 := rwv_of h83_34 (by decide)
    have hq51 : g43 12 = da := he45
    have hq52 : rwv w38 83 12 = g43 12 := rwv_of hr39 (by decide)
    exact xg_e ⟨1, w38, ⟨rfl, rfl⟩, ⟨by omega, fun j hj h => (rwv_of hr39 h).trans (Eq.trans (by rw [hk46 j (by omega)]) (rwv_of h83_34 h).symm)⟩, xMnv.up (S := [83]) hI (xFr.of (S := [83]) hb40 (by decide)) (List.forall_mem_cons.mpr ⟨xqu83 (show cpx83 (wget w38 83) from ⟨_, hr39, hb42, hx41⟩), fun _ h => absurd h List.not_mem_nil⟩), (xFr.of (S := [83]) hb40 (by decide))⟩
  · refine xg_t (xg_icF (u := da) (v := 4294967295) rfl xnm0 xnm0 (xj_eqF hc37)) ?_
    refine xg_t (xg_iload (va := (0, da)) rfl rfl) ?_
    refine xg_t (xg_const) ?_
    refine xg_t (xg_aload (va := (2, 82)) rfl rfl) ?_
    refine xg_t (xg_getf (va := (2, 83)) h82_31 rfl) ?_
    refine xg_t (xg_bip) ?_
    refine xg_ialdB (n := 11) (B := 4294967295) h83_34 (hb35) xnm0 (by first | decide | omega) (fun u53 hu54 he55 => ?_)
    refine xg_cSi mX12_isIn (vs := [(0, da), (0, 0), (0, u53)]) (rest := []) (cn1 := 0) (sl1 := 0) rfl (mIsInX (hI) (by omega) (by omega) (by omega)) rfl rfl rfl rfl rfl rfl rfl (fun n60 w56 hq57 => ?_)
    obtain ⟨hn61, hI58, hF59⟩ := hq57
    by_cases hc62 : n60 = 0
    · refine xg_t (xg_ifF (u := n60) rfl xnm0 (xj_neF hc62)) ?_
      refine xg_t (xg_const) ?_
      have hq63 : rwv w 83 11 = g83_33 11 := rwv_of h83_34 (by decide)
      have hq64 : xbs (rwv w 83 11) = xbs u53 := congrArg xbs (hq63.trans he55)
      have hq65 : rwv w56 83 11 = g83_33 11 := rwv_of (h83_34.fr hF59 (by decide)) (by decide)
      have hq66 : rwv w 83 12 = g83_33 12 := rwv_of h83_34 (by decide)
      have hq67 : rwv w56 83 12 = g83_33 12 := rwv_of (h83_34.fr hF59 (by decide)) (by decide)
      exact xg_e ⟨0, w56, ⟨rfl, rfl⟩, ⟨by omega, fun j _ h => (rwv_of (h83_34.fr hF59 (by decide)) h).trans (rwv_of h83_34 h).symm⟩, hI58, (hF59.up (by decide))⟩
    · refine xg_t (xg_ifT (u := n60) rfl xnm0 (xj_neT hc62)) ?_
      refine xg_t (xg_blq rfl) ?_
      refine xg_t (xg_aload (va := (2, 82)) rfl rfl) ?_
      refine xg_t (xg_getf (va := (2, 83)) (hF59.get (by decide) h82_31) rfl) ?_
      refine xg_t (xg_bip) ?_
      refine xg_t (xg_iload (va := (0, da)) rfl rfl) ?_
      refine xg_iastK (n := 12) (u := da) (h83_34.fr hF59 (by decide)) xnm0 xnm0 rfl (by first | decide | omega) (fun w68 hr69 hb70 => ?_)
      have hx71 : okA (fun j => if j = 12 then da else g83_33 j) := hx36.upd (by omega) (by omega) (by omega) (fun _ => by omega) (by omega) (fun _ => by omega) (fun _ => by omega) (fun _ => by omega) (fun _ => by omega) (by omega) (fun _ _ => by omega)
      have hb72 : ∀ j, (fun j => if j = 12 then da else g83_33 j) j ≤ 4294967295 := xrb (by omega) (hb35)
      obtain ⟨g73, hg74⟩ : ∃ g : Nat → Nat, g = (fun j => if j = 12 then da else g83_33 j) := ⟨_, rfl⟩
      rw [← hg74] at hr69
      have he75 : g73 12 = da := by rw [hg74]; exact if_pos rfl
      have hk76 : ∀ j, j ≠ 12 → g73 j = g83_33 j := fun j hj => by rw [hg74]; exact if_neg hj
      rw [← hg74] at hx71
      rw [← hg74] at hb72
      refine xg_t (xg_const) ?_
      have hq77 : rwv w 83 11 = g83_33 11 := rwv_of h83_34 (by decide)
      have hq78 : xbs (rwv w 83 11) = xbs u53 := congrArg xbs (hq77.trans he55)
      have hq79 : g73 11 = g83_33 11 := hk76 11 (by omega)
      have hq80 : rwv w68 83 11 = g73 11 := rwv_of hr69 (by decide)
      have hq81 : rwv w 83 12 = g83_33 12 := rwv_of h83_34 (by decide)
      have hq82 : g73 12 = da := he75
      have hq83 : rwv w68 83 12 = g73 12 := rwv_of hr69 (by decide)
      exact xg_e ⟨1, w68, ⟨rfl, rfl⟩, ⟨by omega, fun j hj h => (rwv_of hr69 h).trans (Eq.trans (by rw [hk76 j (by omega)]) (rwv_of h83_34 h).symm)⟩, xMnv.up (S := [83]) hI58 (xFr.of (S := [83]) hb70 (by decide)) (List.forall_mem_cons.mpr ⟨xqu83 (show cpx83 (wget w68 83) from ⟨_, hr69, hb72, hx71⟩), fun _ h => absurd h List.not_mem_nil⟩), ((hF59.up (by decide)).tr (xFr.of (S := [83]) hb70 (by decide)))⟩
theorem mEndX {nn : Nat} (hI : xMnv w) (hnn : nn ≤ 4294967295) : xPi d mX12_end [(2, 82), (0, nn)] w bd fc rr (fun n w' => (((n = nn ∧ nn ≤ rwv w 83 15 ∧ rwv w' 83 15 = nn) ∨ (n = 4294967295 ∧ ¬ nn ≤ rwv w 83 15 ∧ rwv w' 83 15 = rwv w 83 15)) ∧ (∀ j, (j ≠ 15) → j < 5360 → rwv w' 83 j = rwv w 83 j)) ∧ xMnv w' ∧ xFr [83] w w') := by
  refine xPi.of ?_
  show xTo d mX12_end (0, [], [(0, (2, 82)), (1, (0, nn))], [], (w, bd, fc, 0, 0, rr)) (fun φ => ∃ n w', xEnd 1 [(0, n)] (w', bd, fc, 0, 0, rr) φ ∧ (((n = nn ∧ nn ≤ rwv w 83 15 ∧ rwv w' 83 15 = nn) ∨ (n = 4294967295 ∧ ¬ nn ≤ rwv w 83 15 ∧ rwv w' 83 15 = rwv w 83 15)) ∧ (∀ j, (j ≠ 15) → j < 5360 → rwv w' 83 j = rwv w 83 j)) ∧ xMnv w' ∧ xFr [83] w w')
  refine xoCh82 (xqc82 hI : cp82 (wget w 82)) (fun f82_1 f82_3 f82_5 f82_7 f82_9 f82_11 f82_13 f82_15 f82_17 f82_19 f82_21 f82_22 f82_23 f82_25 f82_27 f82_29 h82_31 hb2 hb4 hb6 hb8 hb10 hb12 hb14 hb16 hb18 hb20 hb24 hb26 hb28 hb30 hb32 => ?_)
  refine xoX83 (xqc83 hI : cpx83 (wget w 83)) (fun g83_33 h83_34 hb35 hx36 => ?_)
  refine xg_t (xg_blq rfl) ?_
  refine xg_t (xg_iload (va := (0, nn)) rfl rfl) ?_
  by_cases hc37 : nn < 2147483648
  · refine xg_t (xg_ifF (u := nn) rfl xnm0 (xjz_ltF hc37)) ?_
    refine xg_t (xg_iload (va := (0, nn)) rfl rfl) ?_
    refine xg_t (xg_aload (va := (2, 82)) rfl rfl) ?_
    refine xg_t (xg_getf (va := (2, 83)) h82_31 rfl) ?_
    refine xg_t (xg_bip) ?_
    refine xg_ialdB (n := 15) (B := 4294967295) h83_34 (hb35) xnm0 (by first | decide | omega) (fun u38 hu39 he40 => ?_)
    have hl41 : u38 ≤ 500 := by rw [← he40]; exact hx36.l15
    by_cases hc42 : u38 < nn
    · refine xg_t (xg_icF (u := nn) (v := u38) rfl xnm0 xnm0 (xj_leF hc42 (by omega))) ?_
      refine xg_t (xg_blq rfl) ?_
      refine xg_t (xg_const) ?_
      have hq43 : rwv w 83 15 = g83_33 15 := rwv_of h83_34 (by decide)
      have hq44 : g83_33 15 ≤ 500 := hx36.l15
      have hq45 : rwv w 83 15 = g83_33 15 := rwv_of h83_34 (by decide)
      exact xg_e ⟨4294967295, w, ⟨rfl, rfl⟩, ⟨by omega, fun j _ h => (rwv_of h83_34 h).trans (rwv_of h83_34 h).symm⟩, hI, xFr.rf⟩
    · refine xg_t (xg_icT (u := nn) (v := u38) rfl xnm0 xnm0 (xj_leT (by omega) (by omega))) ?_
      refine xg_t (xg_blq rfl) ?_
      refine xg_t (xg_aload (va := (2, 82)) rfl rfl) ?_
      refine xg_t (xg_getf (va := (2, 83)) h82_31 rfl) ?_
      refine xg_t (xg_bip) ?_
      refine xg_t (xg_iload (va := (0, nn)) rfl rfl) ?_
      refine xg_iastK (n := 15) (u := nn) h83_34 xnm0 xnm0 rfl (by first | decide | omega) (fun w46 hr47 hb48 => ?_)
      have hx49 : okA (fun j => if j = 15 then nn else g83_33 j) := hx36.upd (by omega) (by omega) (by omega) (fun _ => by omega) (by omega) (fun _ => by omega) (fun _ => by omega) (fun _ => by omega) (fun _ => by omega) (by omega) (fun _ _ => by omega)
      have hb50 : ∀ j, (fun j => if j = 15 then nn else g83_33 j) j ≤ 4294967295 := xrb (by omega) (hb35)
      obtain ⟨g51, hg52⟩ : ∃ g : Nat → Nat, g = (fun j => if j = 15 then nn else g83_33 j) := ⟨_, rfl⟩
      rw [← hg52] at hr47
      have he53 : g51 15 = nn := by rw [hg52]; exact if_pos rfl
      have hk54 : ∀ j, j ≠ 15 → g51 j = g83_33 j := fun j hj => by rw [hg52]; exact if_neg hj
      rw [← hg52] at hx49
      rw [← hg52] at hb50
      refine xg_t (xg_iload (va := (0, nn)) rfl rfl) ?_
      have hq55 : rwv w 83 15 = g83_33 15 := rwv_of h83_34 (by decide)
      have hq56 : g83_33 15 ≤ 500 := hx36.l15
      have hq57 : g51 15 = nn := he53
      have hq58 : rwv w46 83 15 = g51 15 := rwv_of hr47 (by decide)
      exact xg_e ⟨nn, w46, ⟨rfl, rfl⟩, ⟨by omega, fun j hj h => (rwv_of hr47 h).trans (Eq.trans (by rw [hk54 j (by omega)]) (rwv_of h83_34 h).symm)⟩, xMnv.up (S := [83]) hI (xFr.of (S := [83]) hb48 (by decide)) (List.forall_mem_cons.mpr ⟨xqu83 (show cpx83 (wget w46 83) from ⟨_, hr47, hb50, hx49⟩), fun _ h => absurd h List.not_mem_nil⟩), (xFr.of (S := [83]) hb48 (by decide))⟩
  · refine xg_t (xg_ifT (u := nn) rfl xnm0 (xjz_ltT (by omega) (by omega))) ?_
    refine xg_t (xg_blq rfl) ?_
    refine xg_t (xg_const) ?_
    have hq59 : rwv w 83 15 = g83_33 15 := rwv_of h83_34 (by decide)
    have hq60 : g83_33 15 ≤ 500 := hx36.l15
    have hq61 : rwv w 83 15 = g83_33 15 := rwv_of h83_34 (by decide)
    exact xg_e ⟨4294967295, w, ⟨rfl, rfl⟩, ⟨by omega, fun j _ h => (rwv_of h83_34 h).trans (rwv_of h83_34 h).symm⟩, hI, xFr.rf⟩
theorem mHandX {fi fo ro : Nat} (hI : xMnv w) (hfi : fi ≤ 4294967295) (hfo : fo ≤ 4294967295) (hro : ro ≤ 4294967295) : xPi (d + 2) mX12_hand [(2, 82), (0, fi), (0, fo), (0, ro)] w bd fc rr (fun n w' => (((n = rwv w 83 900 ∧ rwv w 83 900 < 4 ∧ ((1 ≤ fi ∧ fi ≤ 999) ∧ (1 ≤ fo ∧ fo ≤ 999) ∧ (1 ≤ ro ∧ ro ≤ 9999)) ∧ rwv w' 83 900 = rwv w 83 900 + 1) ∨ (n = 4294967295 ∧ ¬ (rwv w 83 900 < 4 ∧ ((1 ≤ fi ∧ fi ≤ 999) ∧ (1 ≤ fo ∧ fo ≤ 999) ∧ (1 ≤ ro ∧ ro ≤ 9999))) ∧ rwv w' 83 900 = rwv w 83 900)) ∧ (n ≠ 4294967295 → rwv w' 83 (950 + 3 * rwv w 83 900) = fi ∧ rwv w' 83 (950 + 3 * rwv w 83 900 + 1) = fo ∧ rwv w' 83 (950 + 3 * rwv w 83 900 + 2) = ro) ∧ (∀ j, (j ≠ 900 ∧ (j < 950 ∨ 962 ≤ j)) → j < 5360 → rwv w' 83 j = rwv w 83 j)) ∧ xMnv w' ∧ xFr [83] w w') := by
  refine xPi.of ?_
  show xTo (d + 2) mX12_hand (0, [], [(0, (2, 82)), (1, (0, fi)), (2, (0, fo)), (3, (0, ro))], [], (w, bd, fc, 0, 0, rr)) (fun φ => ∃ n w', xEnd 1 [(0, n)] (w', bd, fc, 0, 0, rr) φ ∧ (((n = rwv w 83 900 ∧ rwv w 83 900 < 4 ∧ ((1 ≤ fi ∧ fi ≤ 999) ∧ (1 ≤ fo ∧ fo ≤ 999) ∧ (1 ≤ ro ∧ ro ≤ 9999)) ∧ rwv w' 83 900 = rwv w 83 900 + 1) ∨ (n = 4294967295 ∧ ¬ (rwv w 83 900 < 4 ∧ ((1 ≤ fi ∧ fi ≤ 999) ∧ (1 ≤ fo ∧ fo ≤ 999) ∧ (1 ≤ ro ∧ ro ≤ 9999))) ∧ rwv w' 83 900 = rwv w 83 900)) ∧ (n ≠ 4294967295 → rwv w' 83 (950 + 3 * rwv w 83 900) = fi ∧ rwv w' 83 (950 + 3 * rwv w 83 900 + 1) = fo ∧ rwv w' 83 (950 + 3 * rwv w 83 900 + 2) = ro) ∧ (∀ j, (j ≠ 900 ∧ (j < 950 ∨ 962 ≤ j)) → j < 5360 → rwv w' 83 j = rwv w 83 j)) ∧ xMnv w' ∧ xFr [83] w w')
  refine xoCh82 (xqc82 hI : cp82 (wget w 82)) (fun f82_1 f82_3 f82_5 f82_7 f82_9 f82_11 f82_13 f82_15 f82_17 f82_19 f82_21 f82_22 f82_23 f82_25 f82_27 f82_29 h82_31 hb2 hb4 hb6 hb8 hb10 hb12 hb14 hb16 hb18 hb20 hb24 hb26 hb28 hb30 hb32 => ?_)
  refine xoX83 (xqc83 hI : cpx83 (wget w 83)) (fun g83_33 h83_34 hb35 hx36 => ?_)
  refine xg_t (xg_blq rfl) ?_
  refine xg_t (xg_aload (va := (2, 82)) rfl rfl) ?_
  refine xg_t (xg_getf (va := (2, 83)) h82_31 rfl) ?_
  refine xg_t (xg_sip) ?_
  refine xg_ialdB (n := 900) (B := 4294967295) h83_34 (hb35) xnm0 (by first | decide | omega) (fun u37 hu38 he39 => ?_)
  have hl40 : u37 ≤ 4 := by rw [← he39]; exact hx36.l900
  refine xg_t (xg_const) ?_
  by_cases hc41 : u37 = 4
  · refine xg_t (xg_icT (u := u37) (v := 4) rfl xnm0 xnm0 (xj_eqT hc41)) ?_
    refine xg_t (xg_blq rfl) ?_
    refine xg_t (xg_const) ?_
    have hq42 : rwv w 83 900 = g83_33 900 := rwv_of h83_34 (by decide)
    have hq43 : g83_33 900 ≤ 4 := hx36.l900
    have hq44 : rwv w 83 900 = g83_33 900 := rwv_of h83_34 (by decide)
    exact xg_e ⟨4294967295, w, ⟨rfl, rfl⟩, ⟨by omega, fun h => absurd h (by omega), fun j _ h => (rwv_of h83_34 h).trans (rwv_of h83_34 h).symm⟩, hI, xFr.rf⟩
  · refine xg_t (xg_icF (u := u37) (v := 4) rfl xnm0 xnm0 (xj_eqF hc41)) ?_
    refine xg_t (xg_iload (va := (0, fi)) rfl rfl) ?_
    refine xg_t (xg_const) ?_
    refine xg_t (xg_sip) ?_
    refine xg_t (xg_cSr mX12_isIn (vs := [(0, fi), (0, 1), (0, 999)]) (rest := []) (rs := [(0, if 1 ≤ fi ∧ fi ≤ 999 then 1 else 0)]) (cn1 := 0) (sl1 := 0) rfl (mIsIn (by omega) (by omega) (by omega)) rfl rfl rfl rfl rfl rfl rfl rfl) ?_
    by_cases hc45 : 1 ≤ fi ∧ fi ≤ 999
    · refine xg_t (xg_ifF (u := (if 1 ≤ fi ∧ fi ≤ 999 then 1 else 0)) rfl xnm0 (xj_eqF (xite1 hc45))) ?_
      refine xg_t (xg_iload (va := (0, fo)) rfl rfl) ?_
      refine xg_t (xg_const) ?_
      refine xg_t (xg_sip) ?_
      refine xg_t (xg_cSr mX12_isIn (vs := [(0, fo), (0, 1), (0, 999)]) (rest := []) (rs := [(0, if 1 ≤ fo ∧ fo ≤ 999 then 1 else 0)]) (cn1 := 0) (sl1 := 0) rfl (mIsIn (by omega) (by omega) (by omega)) rfl rfl rfl rfl rfl rfl rfl rfl) ?_
      by_cases hc46 : 1 ≤ fo ∧ fo ≤ 999
      · refine xg_t (xg_ifF (u := (if 1 ≤ fo ∧ fo ≤ 999 then 1 else 0)) rfl xnm0 (xj_eqF (xite1 hc46))) ?_
        refine xg_t (xg_aload (va := (2, 82)) rfl rfl) ?_
        refine xg_t (xg_iload (va := (0, ro)) rfl rfl) ?_
        refine xg_cVi mX12_isRound (vs := [(0, ro)]) (rest := []) (cn1 := 0) (sl1 := 0) rfl (mIsRoundX (hI) (by omega)) rfl h82_31 rfl rfl rfl rfl rfl rfl (fun n51 w47 hq48 => ?_)
        obtain ⟨hn52, hI49, hF50⟩ := hq48
        by_cases hc53 : n51 = 0
        · refine xg_t (xg_ifF (u := n51) rfl xnm0 (xj_neF hc53)) ?_
          refine xg_t (xg_blq rfl) ?_
          refine xg_t (xg_const) ?_
          have hq54 : rwv w 83 900 = g83_33 900 := rwv_of h83_34 (by decide)
          have hq55 : g83_33 900 ≤ 4 := hx36.l900
          have hq56 : rwv w47 83 900 = g83_33 900 := rwv_of (h83_34.fr hF50 (by decide)) (by decide)
          exact xg_e ⟨4294967295, w47, ⟨rfl, rfl⟩, ⟨by omega, fun h => absurd h (by omega), fun j _ h => (rwv_of (h83_34.fr hF50 (by decide)) h).trans (rwv_of h83_34 h).symm⟩, hI49, (hF50.up (by decide))⟩
        · refine xg_t (xg_ifT (u := n51) rfl xnm0 (xj_neT hc53)) ?_
          refine xg_t (xg_blq rfl) ?_
          refine xg_t (xg_sip) ?_
          refine xg_t (xg_const) ?_
          refine xg_t (xg_aload (va := (2, 82)) rfl rfl) ?_
          refine xg_t (xg_getf (va := (2, 83)) (hF50.get (by decide) h82_31) rfl) ?_
          refine xg_t (xg_sip) ?_
          refine xg_ialdB (n := 900) (B := 4294967295) (h83_34.fr hF50 (by decide)) (hb35) xnm0 (by first | decide | omega) (fun u57 hu58 he59 => ?_)
          have hl60 : u57 ≤ 4 := by rw [← he59]; exact hx36.l900
          refine xg_t (xg_imul (u := 3) (v := u57) (z := 3 * u57) xnm0 xnm0 (by omega)) ?_
          refine xg_t (xg_iadd (u := 950) (v := 3 * u57) (z := 950 + (3 * u57)) xnm0 xnm0 (by omega)) ?_
          refine xg_t (xg_istore (l1 := [(0, (2, 82)), (1, (0, fi)), (2, (0, fo)), (3, (0, ro))]) rfl rfl rfl) ?_
          refine xg_t (xg_aload (va := (2, 82)) rfl rfl) ?_
          refine xg_t (xg_getf (va := (2, 83)) (hF50.get (by decide) h82_31) rfl) ?_
          refine xg_t (xg_iload (va := (0, 950 + (3 * u57))) rfl rfl) ?_
          refine xg_t (xg_iload (va := (0, fi)) rfl rfl) ?_
          refine xg_iastK (n := 950 + (3 * u57)) (u := fi) (h83_34.fr hF50 (by decide)) xnm0 xnm0 rfl (by omega) (fun w61 hr62 hb63 => ?_)
          have hx64 : okA (fun j => if j = 950 + (3 * u57) then fi else g83_33 j) := hx36.upd (by omega) (by omega) (by omega) (fun _ => by omega) (by omega) (fun _ => by omega) (fun _ => by omega) (fun _ => by omega) (fun _ => by omega) (by omega) (fun _ _ => by omega)
          have hb65 : ∀ j, (fun j => if j = 950 + (3 * u57) then fi else g83_33 j) j ≤ 4294967295 := xrb (by omega) (hb35)
          obtain ⟨g66, hg67⟩ : ∃ g : Nat → Nat, g = (fun j => if j = 950 + (3 * u57) then fi else g83_33 j) := ⟨_, rfl⟩
          rw [← hg67] at hr62
          have he68 : g66 (950 + (3 * u57)) = fi := by rw [hg67]; exact if_pos rfl
          have hk69 : ∀ j, j ≠ 950 + (3 * u57) → g66 j = g83_33 j := fun j hj => by rw [hg67]; exact if_neg hj
          rw [← hg67] at hx64
          rw [← hg67] at hb65
          have hk70 : g66 900 = g83_33 900 := hk69 900 (by omega)
          refine xg_t (xg_aload (va := (2, 82)) rfl rfl) ?_
          refine xg_t (xg_getf (va := (2, 83)) (hb63.get (by decide) (hF50.get (by decide) h82_31)) rfl) ?_
          refine xg_t (xg_iload (va := (0, 950 + (3 * u57))) rfl rfl) ?_
          refine xg_t (xg_const) ?_
          refine xg_t (xg_iadd (u := 950 + (3 * u57)) (v := 1) (z := (950 + (3 * u57)) + 1) xnm0 xnm0 (by omega)) ?_
          refine xg_t (xg_iload (va := (0, fo)) rfl rfl) ?_
          refine xg_iastK (n := (950 + (3 * u57)) + 1) (u := fo) hr62 xnm0 xnm0 rfl (by omega) (fun w71 hr72 hb73 => ?_)
          have hx74 : okA (fun j => if j = (950 + (3 * u57)) + 1 then fo else g66 j) := hx64.upd (by omega) (by omega) (by omega) (fun _ => by omega) (by omega) (fun _ => by omega) (fun _ => by omega) (fun _ => by omega) (fun _ => by omega) (by omega) (fun _ _ => by omega)
          have hb75 : ∀ j, (fun j => if j = (950 + (3 * u57)) + 1 then fo else g66 j) j ≤ 4294967295 := xrb (by omega) (hb65)
          obtain ⟨g76, hg77⟩ : ∃ g : Nat → Nat, g = (fun j => if j = (950 + (3 * u57)) + 1 then fo else g66 j) := ⟨_, rfl⟩
          rw [← hg77] at hr72
          have he78 : g76 ((950 + (3 * u57)) + 1) = fo := by rw [hg77]; exact if_pos rfl
          have hk79 : ∀ j, j ≠ (950 + (3 * u57)) + 1 → g76 j = g66 j := fun j hj => by rw [hg77]; exact if_neg hj
          rw [← hg77] at hx74
          rw [← hg77] at hb75
          have hk80 : g76 900 = g66 900 := hk79 900 (by omega)
          refine xg_t (xg_aload (va := (2, 82)) rfl rfl) ?_
          refine xg_t (xg_getf (va := (2, 83)) (hb73.get (by decide) (hb63.get (by decide) (hF50.get (by decide) h82_31))) rfl) ?_
          refine xg_t (xg_iload (va := (0, 950 + (3 * u57))) rfl rfl) ?_
          refine xg_t (xg_const) ?_
          refine xg_t (xg_iadd (u := 950 + (3 * u57)) (v := 2) (z := (950 + (3 * u57)) + 2) xnm0 xnm0 (by omega)) ?_
          refine xg_t (xg_iload (va := (0, ro)) rfl rfl) ?_
          refine xg_iastK (n := (950 + (3 * u57)) + 2) (u := ro) hr72 xnm0 xnm0 rfl (by omega) (fun w81 hr82 hb83 => ?_)
          have hx84 : okA (fun j => if j = (950 + (3 * u57)) + 2 then ro else g76 j) := hx74.upd (by omega) (by omega) (by omega) (fun _ => by omega) (by omega) (fun _ => by omega) (fun _ => by omega) (fun _ => by omega) (fun _ => by omega) (by omega) (fun _ _ => by omega)
          have hb85 : ∀ j, (fun j => if j = (950 + (3 * u57)) + 2 then ro else g76 j) j ≤ 4294967295 := xrb (by omega) (hb75)
          obtain ⟨g86, hg87⟩ : ∃ g : Nat → Nat, g = (fun j => if j = (950 + (3 * u57)) + 2 then ro else g76 j) := ⟨_, rfl⟩
          rw [← hg87] at hr82
          have he88 : g86 ((950 + (3 * u57)) + 2) = ro := by rw [hg87]; exact if_pos rfl
          have hk89 : ∀ j, j ≠ (950 + (3 * u57)) + 2 → g86 j = g76 j := fun j hj => by rw [hg87]; exact if_neg hj
          rw [← hg87] at hx84
          rw [← hg87] at hb85
          have hk90 : g86 900 = g76 900 := hk89 900 (by omega)
          refine xg_t (xg_aload (va := (2, 82)) rfl rfl) ?_
          refine xg_t (xg_getf (va := (2, 83)) (hb83.get (by decide) (hb73.get (by decide) (hb63.get (by decide) (hF50.get (by decide) h82_31)))) rfl) ?_
          refine xg_t (xg_sip) ?_
          refine xg_t (xg_dup2 rfl) ?_
          refine xg_ialdB (n := 900) (B := 4294967295) hr82 (hb85) xnm0 (by first | decide | omega) (fun u91 hu92 he93 => ?_)
          have hl94 : u91 ≤ 4 := by rw [← he93]; exact hx84.l900
          refine xg_t (xg_const) ?_
          refine xg_t (xg_iadd (u := u91) (v := 1) (z := u91 + 1) xnm0 xnm0 (by omega)) ?_
          refine xg_iastK (n := 900) (u := u91 + 1) hr82 xnm0 xnm0 rfl (by first | decide | omega) (fun w95 hr96 hb97 => ?_)
          have hx98 : okA (fun j => if j = 900 then u91 + 1 else g86 j) := hx84.upd (by omega) (by omega) (by omega) (fun _ => by omega) (by omega) (fun _ => by omega) (fun _ => by omega) (fun _ => by omega) (fun _ => by omega) (by omega) (fun _ _ => by omega)
          have hb99 : ∀ j, (fun j => if j = 900 then u91 + 1 else g86 j) j ≤ 4294967295 := xrb (by omega) (hb85)
          obtain ⟨g100, hg101⟩ : ∃ g : Nat → Nat, g = (fun j => if j = 900 then u91 + 1 else g86 j) := ⟨_, rfl⟩
          rw [← hg101] at hr96
          have he102 : g100 900 = u91 + 1 := by rw [hg101]; exact if_pos rfl
          have hk103 : ∀ j, j ≠ 900 → g100 j = g86 j := fun j hj => by rw [hg101]; exact if_neg hj
          rw [← hg101] at hx98
          rw [← hg101] at hb99
          refine xg_t (xg_aload (va := (2, 82)) rfl rfl) ?_
          refine xg_t (xg_getf (va := (2, 83)) (hb97.get (by decide) (hb83.get (by decide) (hb73.get (by decide) (hb63.get (by decide) (hF50.get (by decide) h82_31))))) rfl) ?_
          refine xg_t (xg_sip) ?_
          refine xg_ialdB (n := 900) (B := 4294967295) hr96 (hb99) xnm0 (by first | decide | omega) (fun u104 hu105 he106 => ?_)
          have hl107 : u104 ≤ 4 := by rw [← he106]; exact hx98.l900
          refine xg_t (xg_const) ?_
          by_cases hc108 : 1 ≤ u104
          · refine xg_t (xg_isub (u := u104) (v := 1) (z := u104 - 1) xnm0 xnm0 (by omega)) ?_
            have hq109 : rwv w 83 900 = g83_33 900 := rwv_of h83_34 (by decide)
            have hq110 : g83_33 900 ≤ 4 := hx36.l900
            have hq111 : g66 900 = g83_33 900 := hk69 900 (by omega)
            have hq112 : g76 900 = g66 900 := hk79 900 (by omega)
            have hq113 : g86 900 = g76 900 := hk89 900 (by omega)
            have hq114 : g100 900 = u91 + 1 := he102
            have hq115 : rwv w95 83 900 = g100 900 := rwv_of hr96 (by decide)
            have hq117 : 950 + 3 * rwv w 83 900 = 950 + (3 * u57) := by omega
            have hq116 : rwv w95 83 (950 + 3 * rwv w 83 900) = fi := by
              rw [hq117, rwv_of hr96 (by omega), hk103 _ (by omega), hk89 _ (by omega), hk79 _ (by omega), he68]
            have hq119 : 950 + 3 * rwv w 83 900 + 1 = (950 + (3 * u57)) + 1 := by omega
            have hq118 : rwv w95 83 (950 + 3 * rwv w 83 900 + 1) = fo := by
              rw [hq119, rwv_of hr96 (by omega), hk103 _ (by omega), hk89 _ (by omega), he78]
            have hq121 : 950 + 3 * rwv w 83 900 + 2 = (950 + (3 * u57)) + 2 := by omega
            have hq120 : rwv w95 83 (950 + 3 * rwv w 83 900 + 2) = ro := by
              rw [hq121, rwv_of hr96 (by omega), hk103 _ (by omega), he88]
            exact xg_e ⟨u104 - 1, w95, ⟨rfl, rfl⟩, ⟨by omega, fun _ => ⟨hq116, hq118, hq120⟩, fun j hj h => (rwv_of hr96 h).trans (Eq.trans (by rw [hk103 j (by omega), hk89 j (by omega), hk79 j (by omega), hk69 j (by omega)]) (rwv_of h83_34 h).symm)⟩, xMnv.up (S := [83]) hI49 ((((xFr.of (S := [83]) hb63 (by decide)).tr (xFr.of (S := [83]) hb73 (by decide))).tr (xFr.of (S := [83]) hb83 (by decide))).tr (xFr.of (S := [83]) hb97 (by decide))) (List.forall_mem_cons.mpr ⟨xqu83 (show cpx83 (wget w95 83) from ⟨_, hr96, hb99, hx98⟩), fun _ h => absurd h List.not_mem_nil⟩), ((hF50.up (by decide)).tr ((((xFr.of (S := [83]) hb63 (by decide)).tr (xFr.of (S := [83]) hb73 (by decide))).tr (xFr.of (S := [83]) hb83 (by decide))).tr (xFr.of (S := [83]) hb97 (by decide))))⟩
          · have hz124 : 4294967295 ≤ (u104 + (4294967296 - 1)) % 4294967296 := by omega
            refine xg_t (xg_isub (u := u104) (v := 1) (z := (u104 + (4294967296 - 1)) % 4294967296) xnm0 xnm0 rfl) ?_
            have hz123 : (u104 + (4294967296 - 1)) % 4294967296 < 4294967296 := Nat.mod_lt _ (by decide)
            generalize (u104 + (4294967296 - 1)) % 4294967296 = z122 at hz124 hz123 ⊢
            have hq125 : rwv w 83 900 = g83_33 900 := rwv_of h83_34 (by decide)
            have hq126 : g83_33 900 ≤ 4 := hx36.l900
            have hq127 : g66 900 = g83_33 900 := hk69 900 (by omega)
            have hq128 : g76 900 = g66 900 := hk79 900 (by omega)
            have hq129 : g86 900 = g76 900 := hk89 900 (by omega)
            have hq130 : g100 900 = u91 + 1 := he102
            have hq131 : rwv w95 83 900 = g100 900 := rwv_of hr96 (by decide)
            have hq133 : 950 + 3 * rwv w 83 900 = 950 + (3 * u57) := by omega
            have hq132 : rwv w95 83 (950 + 3 * rwv w 83 900) = fi := by
              rw [hq133, rwv_of hr96 (by omega), hk103 _ (by omega), hk89 _ (by omega), hk79 _ (by omega), he68]
            have hq135 : 950 + 3 * rwv w 83 900 + 1 = (950 + (3 * u57)) + 1 := by omega
            have hq134 : rwv w95 83 (950 + 3 * rwv w 83 900 + 1) = fo := by
              rw [hq135, rwv_of hr96 (by omega), hk103 _ (by omega), hk89 _ (by omega), he78]
            have hq137 : 950 + 3 * rwv w 83 900 + 2 = (950 + (3 * u57)) + 2 := by omega
            have hq136 : rwv w95 83 (950 + 3 * rwv w 83 900 + 2) = ro := by
              rw [hq137, rwv_of hr96 (by omega), hk103 _ (by omega), he88]
            exact xg_e ⟨z122, w95, ⟨rfl, rfl⟩, ⟨by omega, fun _ => ⟨hq132, hq134, hq136⟩, fun j hj h => (rwv_of hr96 h).trans (Eq.trans (by rw [hk103 j (by omega), hk89 j (by omega), hk79 j (by omega), hk69 j (by omega)]) (rwv_of h83_34 h).symm)⟩, xMnv.up (S := [83]) hI49 ((((xFr.of (S := [83]) hb63 (by decide)).tr (xFr.of (S := [83]) hb73 (by decide))).tr (xFr.of (S := [83]) hb83 (by decide))).tr (xFr.of (S := [83]) hb97 (by decide))) (List.forall_mem_cons.mpr ⟨xqu83 (show cpx83 (wget w95 83) from ⟨_, hr96, hb99, hx98⟩), fun _ h => absurd h List.not_mem_nil⟩), ((hF50.up (by decide)).tr ((((xFr.of (S := [83]) hb63 (by decide)).tr (xFr.of (S := [83]) hb73 (by decide))).tr (xFr.of (S := [83]) hb83 (by decide))).tr (xFr.of (S := [83]) hb97 (by decide))))⟩
      · refine xg_t (xg_ifT (u := (if 1 ≤ fo ∧ fo ≤ 999 then 1 else 0)) rfl xnm0 (xj_eqT (xite0 hc46))) ?_
        refine xg_t (xg_blq rfl) ?_
        refine xg_t (xg_const) ?_
        have hq138 : rwv w 83 900 = g83_33 900 := rwv_of h83_34 (by decide)
        have hq139 : g83_33 900 ≤ 4 := hx36.l900
        have hq140 : rwv w 83 900 = g83_33 900 := rwv_of h83_34 (by decide)
        exact xg_e ⟨4294967295, w, ⟨rfl, rfl⟩, ⟨by omega, fun h => absurd h (by omega), fun j _ h => (rwv_of h83_34 h).trans (rwv_of h83_34 h).symm⟩, hI, xFr.rf⟩
    · refine xg_t (xg_ifT (u := (if 1 ≤ fi ∧ fi ≤ 999 then 1 else 0)) rfl xnm0 (xj_eqT (xite0 hc45))) ?_
      refine xg_t (xg_blq rfl) ?_
      refine xg_t (xg_const) ?_
      have hq141 : rwv w 83 900 = g83_33 900 := rwv_of h83_34 (by decide)
      have hq142 : g83_33 900 ≤ 4 := hx36.l900
      have hq143 : rwv w 83 900 = g83_33 900 := rwv_of h83_34 (by decide)
      exact xg_e ⟨4294967295, w, ⟨rfl, rfl⟩, ⟨by omega, fun h => absurd h (by omega), fun j _ h => (rwv_of h83_34 h).trans (rwv_of h83_34 h).symm⟩, hI, xFr.rf⟩
theorem mTestX {sp fo fi ck : Nat} (hI : xMnv w) (hsp : sp ≤ 4294967295) (hfo : fo ≤ 4294967295) (hfi : fi ≤ 4294967295) (hck : ck ≤ 4294967295) : xPi (d + 1) mX12_test [(2, 82), (0, sp), (0, fo), (0, fi), (0, ck)] w bd fc rr (fun n w' => (((n = rwv w 83 901 ∧ rwv w 83 901 < 12 ∧ ((1 ≤ sp ∧ sp ≤ 9) ∧ (1 ≤ fo ∧ fo ≤ 999999) ∧ (1 ≤ fi ∧ fi ≤ 99) ∧ ck ≤ fi) ∧ rwv w' 83 901 = rwv w 83 901 + 1) ∨ (n = 4294967295 ∧ ¬ (rwv w 83 901 < 12 ∧ ((1 ≤ sp ∧ sp ≤ 9) ∧ (1 ≤ fo ∧ fo ≤ 999999) ∧ (1 ≤ fi ∧ fi ≤ 99) ∧ ck ≤ fi)) ∧ rwv w' 83 901 = rwv w 83 901)) ∧ (n ≠ 4294967295 → rwv w' 83 (970 + 4 * rwv w 83 901) = sp ∧ rwv w' 83 (970 + 4 * rwv w 83 901 + 1) = fo ∧ rwv w' 83 (970 + 4 * rwv w 83 901 + 2) = fi ∧ rwv w' 83 (970 + 4 * rwv w 83 901 + 3) = ck) ∧ (∀ j, (j ≠ 901 ∧ (j < 970 + 4 * rwv w 83 901 ∨ 974 + 4 * rwv w 83 901 ≤ j)) → j < 5360 → rwv w' 83 j = rwv w 83 j)) ∧ xMnv w' ∧ xFr [83] w w') := by
  refine xPi.of ?_
  show xTo (d + 1) mX12_test (0, [], [(0, (2, 82)), (1, (0, sp)), (2, (0, fo)), (3, (0, fi)), (4, (0, ck))], [], (w, bd, fc, 0, 0, rr)) (fun φ => ∃ n w', xEnd 1 [(0, n)] (w', bd, fc, 0, 0, rr) φ ∧ (((n = rwv w 83 901 ∧ rwv w 83 901 < 12 ∧ ((1 ≤ sp ∧ sp ≤ 9) ∧ (1 ≤ fo ∧ fo ≤ 999999) ∧ (1 ≤ fi ∧ fi ≤ 99) ∧ ck ≤ fi) ∧ rwv w' 83 901 = rwv w 83 901 + 1) ∨ (n = 4294967295 ∧ ¬ (rwv w 83 901 < 12 ∧ ((1 ≤ sp ∧ sp ≤ 9) ∧ (1 ≤ fo ∧ fo ≤ 999999) ∧ (1 ≤ fi ∧ fi ≤ 99) ∧ ck ≤ fi)) ∧ rwv w' 83 901 = rwv w 83 901)) ∧ (n ≠ 4294967295 → rwv w' 83 (970 + 4 * rwv w 83 901) = sp ∧ rwv w' 83 (970 + 4 * rwv w 83 901 + 1) = fo ∧ rwv w' 83 (970 + 4 * rwv w 83 901 + 2) = fi ∧ rwv w' 83 (970 + 4 * rwv w 83 901 + 3) = ck) ∧ (∀ j, (j ≠ 901 ∧ (j < 970 + 4 * rwv w 83 901 ∨ 974 + 4 * rwv w 83 901 ≤ j)) → j < 5360 → rwv w' 83 j = rwv w 83 j)) ∧ xMnv w' ∧ xFr [83] w w')
  refine xoCh82 (xqc82 hI : cp82 (wget w 82)) (fun f82_1 f82_3 f82_5 f82_7 f82_9 f82_11 f82_13 f82_15 f82_17 f82_19 f82_21 f82_22 f82_23 f82_25 f82_27 f82_29 h82_31 hb2 hb4 hb6 hb8 hb10 hb12 hb14 hb16 hb18 hb20 hb24 hb26 hb28 hb30 hb32 => ?_)
  refine xoX83 (xqc83 hI : cpx83 (wget w 83)) (fun g83_33 h83_34 hb35 hx36 => ?_)
  refine xg_t (xg_blq rfl) ?_
  refine xg_t (xg_aload (va := (2, 82)) rfl rfl) ?_
  refine xg_t (xg_getf (va := (2, 83)) h82_31 rfl) ?_
  refine xg_t (xg_sip) ?_
  refine xg_ialdB (n := 901) (B := 4294967295) h83_34 (hb35) xnm0 (by first | decide | omega) (fun u37 hu38 he39 => ?_)
  have hl40 : u37 ≤ 12 := by rw [← he39]; exact hx36.l901
  refine xg_t (xg_bip) ?_
  by_cases hc41 : u37 = 12
  · refine xg_t (xg_icT (u := u37) (v := 12) rfl xnm0 xnm0 (xj_eqT hc41)) ?_
    refine xg_t (xg_blq rfl) ?_
    refine xg_t (xg_const) ?_
    have hq42 : rwv w 83 901 = g83_33 901 := rwv_of h83_34 (by decide)
    have hq43 : g83_33 901 ≤ 12 := hx36.l901
    have hq44 : rwv w 83 901 = g83_33 901 := rwv_of h83_34 (by decide)
    exact xg_e ⟨4294967295, w, ⟨rfl, rfl⟩, ⟨by omega, fun h => absurd h (by omega), fun j _ h => (rwv_of h83_34 h).trans (rwv_of h83_34 h).symm⟩, hI, xFr.rf⟩
  · refine xg_t (xg_icF (u := u37) (v := 12) rfl xnm0 xnm0 (xj_eqF hc41)) ?_
    refine xg_t (xg_iload (va := (0, sp)) rfl rfl) ?_
    refine xg_t (xg_const) ?_
    refine xg_t (xg_bip) ?_
    refine xg_t (xg_cSr mX12_isIn (vs := [(0, sp), (0, 1), (0, 9)]) (rest := []) (rs := [(0, if 1 ≤ sp ∧ sp ≤ 9 then 1 else 0)]) (cn1 := 0) (sl1 := 0) rfl (mIsIn (by omega) (by omega) (by omega)) rfl rfl rfl rfl rfl rfl rfl rfl) ?_
    by_cases hc45 : 1 ≤ sp ∧ sp ≤ 9
    · refine xg_t (xg_ifF (u := (if 1 ≤ sp ∧ sp ≤ 9 then 1 else 0)) rfl xnm0 (xj_eqF (xite1 hc45))) ?_
      refine xg_t (xg_iload (va := (0, fo)) rfl rfl) ?_
      refine xg_t (xg_const) ?_
      refine xg_t (xg_ldcw) ?_
      refine xg_t (xg_cSr mX12_isIn (vs := [(0, fo), (0, 1), (0, 999999)]) (rest := []) (rs := [(0, if 1 ≤ fo ∧ fo ≤ 999999 then 1 else 0)]) (cn1 := 0) (sl1 := 0) rfl (mIsIn (by omega) (by omega) (by omega)) rfl rfl rfl rfl rfl rfl rfl rfl) ?_
      by_cases hc46 : 1 ≤ fo ∧ fo ≤ 999999
      · refine xg_t (xg_ifF (u := (if 1 ≤ fo ∧ fo ≤ 999999 then 1 else 0)) rfl xnm0 (xj_eqF (xite1 hc46))) ?_
        refine xg_t (xg_iload (va := (0, fi)) rfl rfl) ?_
        refine xg_t (xg_const) ?_
        refine xg_t (xg_bip) ?_
        refine xg_t (xg_cSr mX12_isIn (vs := [(0, fi), (0, 1), (0, 99)]) (rest := []) (rs := [(0, if 1 ≤ fi ∧ fi ≤ 99 then 1 else 0)]) (cn1 := 0) (sl1 := 0) rfl (mIsIn (by omega) (by omega) (by omega)) rfl rfl rfl rfl rfl rfl rfl rfl) ?_
        by_cases hc47 : 1 ≤ fi ∧ fi ≤ 99
        · refine xg_t (xg_ifF (u := (if 1 ≤ fi ∧ fi ≤ 99 then 1 else 0)) rfl xnm0 (xj_eqF (xite1 hc47))) ?_
          refine xg_t (xg_iload (va := (0, ck)) rfl rfl) ?_
          refine xg_t (xg_const) ?_
          refine xg_t (xg_iload (va := (0, fi)) rfl rfl) ?_
          refine xg_t (xg_cSr mX12_isIn (vs := [(0, ck), (0, 0), (0, fi)]) (rest := []) (rs := [(0, if 0 ≤ ck ∧ ck ≤ fi then 1 else 0)]) (cn1 := 0) (sl1 := 0) rfl (mIsIn (by omega) (by omega) (by omega)) rfl rfl rfl rfl rfl rfl rfl rfl) ?_
          by_cases hc48 : 0 ≤ ck ∧ ck ≤ fi
          · refine xg_t (xg_ifT (u := (if 0 ≤ ck ∧ ck ≤ fi then 1 else 0)) rfl xnm0 (xj_neT (xite1 hc48))) ?_
            refine xg_t (xg_blq rfl) ?_
            refine xg_t (xg_sip) ?_
            refine xg_t (xg_const) ?_
            refine xg_t (xg_aload (va := (2, 82)) rfl rfl) ?_
            refine xg_t (xg_getf (va := (2, 83)) h82_31 rfl) ?_
            refine xg_t (xg_sip) ?_
            refine xg_ialdB (n := 901) (B := 4294967295) h83_34 (hb35) xnm0 (by first | decide | omega) (fun u49 hu50 he51 => ?_)
            have hl52 : u49 ≤ 12 := by rw [← he51]; exact hx36.l901
            refine xg_t (xg_imul (u := 4) (v := u49) (z := 4 * u49) xnm0 xnm0 (by omega)) ?_
            refine xg_t (xg_iadd (u := 970) (v := 4 * u49) (z := 970 + (4 * u49)) xnm0 xnm0 (by omega)) ?_
            refine xg_t (xg_istore (l1 := [(0, (2, 82)), (1, (0, sp)), (2, (0, fo)), (3, (0, fi)), (4, (0, ck))]) rfl rfl rfl) ?_
            refine xg_t (xg_aload (va := (2, 82)) rfl rfl) ?_
            refine xg_t (xg_getf (va := (2, 83)) h82_31 rfl) ?_
            refine xg_t (xg_iload (va := (0, 970 + (4 * u49))) rfl rfl) ?_
            refine xg_t (xg_iload (va := (0, sp)) rfl rfl) ?_
            refine xg_iastK (n := 970 + (4 * u49)) (u := sp) h83_34 xnm0 xnm0 rfl (by omega) (fun w53 hr54 hb55 => ?_)
            have hx56 : okA (fun j => if j = 970 + (4 * u49) then sp else g83_33 j) := hx36.upd (by omega) (by omega) (by omega) (fun _ => by omega) (by omega) (fun _ => by omega) (fun _ => by omega) (fun _ => by omega) (fun _ => by omega) (by omega) (fun _ _ => by omega)
            have hb57 : ∀ j, (fun j => if j = 970 + (4 * u49) then sp else g83_33 j) j ≤ 4294967295 := xrb (by omega) (hb35)
            obtain ⟨g58, hg59⟩ : ∃ g : Nat → Nat, g = (fun j => if j = 970 + (4 * u49) then sp else g83_33 j) := ⟨_, rfl⟩
            rw [← hg59] at hr54
            have he60 : g58 (970 + (4 * u49)) = sp := by rw [hg59]; exact if_pos rfl
            have hk61 : ∀ j, j ≠ 970 + (4 * u49) → g58 j = g83_33 j := fun j hj => by rw [hg59]; exact if_neg hj
            rw [← hg59] at hx56
            rw [← hg59] at hb57
            have hk62 : g58 901 = g83_33 901 := hk61 901 (by omega)
            refine xg_t (xg_aload (va := (2, 82)) rfl rfl) ?_
            refine xg_t (xg_getf (va := (2, 83)) (hb55.get (by decide) h82_31) rfl) ?_
            refine xg_t (xg_iload (va := (0, 970 + (4 * u49))) rfl rfl) ?_
            refine xg_t (xg_const) ?_
            refine xg_t (xg_iadd (u := 970 + (4 * u49)) (v := 1) (z := (970 + (4 * u49)) + 1) xnm0 xnm0 (by omega)) ?_
            refine xg_t (xg_iload (va := (0, fo)) rfl rfl) ?_
            refine xg_iastK (n := (970 + (4 * u49)) + 1) (u := fo) hr54 xnm0 xnm0 rfl (by omega) (fun w63 hr64 hb65 => ?_)
            have hx66 : okA (fun j => if j = (970 + (4 * u49)) + 1 then fo else g58 j) := hx56.upd (by omega) (by omega) (by omega) (fun _ => by omega) (by omega) (fun _ => by omega) (fun _ => by omega) (fun _ => by omega) (fun _ => by omega) (by omega) (fun _ _ => by omega)
            have hb67 : ∀ j, (fun j => if j = (970 + (4 * u49)) + 1 then fo else g58 j) j ≤ 4294967295 := xrb (by omega) (hb57)
            obtain ⟨g68, hg69⟩ : ∃ g : Nat → Nat, g = (fun j => if j = (970 + (4 * u49)) + 1 then fo else g58 j) := ⟨_, rfl⟩
            rw [← hg69] at hr64
            have he70 : g68 ((970 + (4 * u49)) + 1) = fo := by rw [hg69]; exact if_pos rfl
            have hk71 : ∀ j, j ≠ (970 + (4 * u49)) + 1 → g68 j = g58 j := fun j hj => by rw [hg69]; exact if_neg hj
            rw [← hg69] at hx66
            rw [← hg69] at hb67
            have hk72 : g68 901 = g58 901 := hk71 901 (by omega)
            refine xg_t (xg_aload (va := (2, 82)) rfl rfl) ?_
            refine xg_t (xg_getf (va := (2, 83)) (hb65.get (by decide) (hb55.get (by decide) h82_31)) rfl) ?_
            refine xg_t (xg_iload (va := (0, 970 + (4 * u49))) rfl rfl) ?_
            refine xg_t (xg_const) ?_
            refine xg_t (xg_iadd (u := 970 + (4 * u49)) (v := 2) (z := (970 + (4 * u49)) + 2) xnm0 xnm0 (by omega)) ?_
            refine xg_t (xg_iload (va := (0, fi)) rfl rfl) ?_
            refine xg_iastK (n := (970 + (4 * u49)) + 2) (u := fi) hr64 xnm0 xnm0 rfl (by omega) (fun w73 hr74 hb75 => ?_)
            have hx76 : okA (fun j => if j = (970 + (4 * u49)) + 2 then fi else g68 j) := hx66.upd (by omega) (by omega) (by omega) (fun _ => by omega) (by omega) (fun _ => by omega) (fun _ => by omega) (fun _ => by omega) (fun _ => by omega) (by omega) (fun _ _ => by omega)
            have hb77 : ∀ j, (fun j => if j = (970 + (4 * u49)) + 2 then fi else g68 j) j ≤ 4294967295 := xrb (by omega) (hb67)
            obtain ⟨g78, hg79⟩ : ∃ g : Nat → Nat, g = (fun j => if j = (970 + (4 * u49)) + 2 then fi else g68 j) := ⟨_, rfl⟩
            rw [← hg79] at hr74
            have he80 : g78 ((970 + (4 * u49)) + 2) = fi := by rw [hg79]; exact if_pos rfl
            have hk81 : ∀ j, j ≠ (970 + (4 * u49)) + 2 → g78 j = g68 j := fun j hj => by rw [hg79]; exact if_neg hj
            rw [← hg79] at hx76
            rw [← hg79] at hb77
            have hk82 : g78 901 = g68 901 := hk81 901 (by omega)
            refine xg_t (xg_aload (va := (2, 82)) rfl rfl) ?_
            refine xg_t (xg_getf (va := (2, 83)) (hb75.get (by decide) (hb65.get (by decide) (hb55.get (by decide) h82_31))) rfl) ?_
            refine xg_t (xg_iload (va := (0, 970 + (4 * u49))) rfl rfl) ?_
            refine xg_t (xg_const) ?_
            refine xg_t (xg_iadd (u := 970 + (4 * u49)) (v := 3) (z := (970 + (4 * u49)) + 3) xnm0 xnm0 (by omega)) ?_
            refine xg_t (xg_iload (va := (0, ck)) rfl rfl) ?_
            refine xg_iastK (n := (970 + (4 * u49)) + 3) (u := ck) hr74 xnm0 xnm0 rfl (by omega) (fun w83 hr84 hb85 => ?_)
            have hx86 : okA (fun j => if j = (970 + (4 * u49)) + 3 then ck else g78 j) := hx76.upd (by omega) (by omega) (by omega) (fun _ => by omega) (by omega) (fun _ => by omega) (fun _ => by omega) (fun _ => by omega) (fun _ => by omega) (by omega) (fun _ _ => by omega)
            have hb87 : ∀ j, (fun j => if j = (970 + (4 * u49)) + 3 then ck else g78 j) j ≤ 4294967295 := xrb (by omega) (hb77)
            obtain ⟨g88, hg89⟩ : ∃ g : Nat → Nat, g = (fun j => if j = (970 + (4 * u49)) + 3 then ck else g78 j) := ⟨_, rfl⟩
            rw [← hg89] at hr84
            have he90 : g88 ((970 + (4 * u49)) + 3) = ck := by rw [hg89]; exact if_pos rfl
            have hk91 : ∀ j, j ≠ (970 + (4 * u49)) + 3 → g88 j = g78 j := fun j hj => by rw [hg89]; exact if_neg hj
            rw [← hg89] at hx86
            rw [← hg89] at hb87
            have hk92 : g88 901 = g78 901 := hk91 901 (by omega)
            refine xg_t (xg_aload (va := (2, 82)) rfl rfl) ?_
            refine xg_t (xg_getf (va := (2, 83)) (hb85.get (by decide) (hb75.get (by decide) (hb65.get (by decide) (hb55.get (by decide) h82_31)))) rfl) ?_
            refine xg_t (xg_sip) ?_
            refine xg_t (xg_dup2 rfl) ?_
            refine xg_ialdB (n := 901) (B := 4294967295) hr84 (hb87) xnm0 (by first | decide | omega) (fun u93 hu94 he95 => ?_)
            have hl96 : u93 ≤ 12 := by rw [← he95]; exact hx86.l901
            refine xg_t (xg_const) ?_
            refine xg_t (xg_iadd (u := u93) (v := 1) (z := u93 + 1) xnm0 xnm0 (by omega)) ?_
            refine xg_iastK (n := 901) (u := u93 + 1) hr84 xnm0 xnm0 rfl (by first | decide | omega) (fun w97 hr98 hb99 => ?_)
            have hx100 : okA (fun j => if j = 901 then u93 + 1 else g88 j) := hx86.upd (by omega) (by omega) (by omega) (fun _ => by omega) (by omega) (fun _ => by omega) (fun _ => by omega) (fun _ => by omega) (fun _ => by omega) (by omega) (fun _ _ => by omega)
            have hb101 : ∀ j, (fun j => if j = 901 then u93 + 1 else g88 j) j ≤ 4294967295 := xrb (by omega) (hb87)
            obtain ⟨g102, hg103⟩ : ∃ g : Nat → Nat, g = (fun j => if j = 901 then u93 + 1 else g88 j) := ⟨_, rfl⟩
            rw [← hg103] at hr98
            have he104 : g102 901 = u93 + 1 := by rw [hg103]; exact if_pos rfl
            have hk105 : ∀ j, j ≠ 901 → g102 j = g88 j := fun j hj => by rw [hg103]; exact if_neg hj
            rw [← hg103] at hx100
            rw [← hg103] at hb101
            refine xg_t (xg_aload (va := (2, 82)) rfl rfl) ?_
            refine xg_t (xg_getf (va := (2, 83)) (hb99.get (by decide) (hb85.get (by decide) (hb75.get (by decide) (hb65.get (by decide) (hb55.get (by decide) h82_31))))) rfl) ?_
            refine xg_t (xg_sip) ?_
            refine xg_ialdB (n := 901) (B := 4294967295) hr98 (hb101) xnm0 (by first | decide | omega) (fun u106 hu107 he108 => ?_)
            have hl109 : u106 ≤ 12 := by rw [← he108]; exact hx100.l901
            refine xg_t (xg_const) ?_
            by_cases hc110 : 1 ≤ u106
            · refine xg_t (xg_isub (u := u106) (v := 1) (z := u106 - 1) xnm0 xnm0 (by omega)) ?_
              have hq111 : rwv w 83 901 = g83_33 901 := rwv_of h83_34 (by decide)
              have hq112 : g83_33 901 ≤ 12 := hx36.l901
              have hq113 : g58 901 = g83_33 901 := hk61 901 (by omega)
              have hq114 : g68 901 = g58 901 := hk71 901 (by omega)
              have hq115 : g78 901 = g68 901 := hk81 901 (by omega)
              have hq116 : g88 901 = g78 901 := hk91 901 (by omega)
              have hq117 : g102 901 = u93 + 1 := he104
              have hq118 : rwv w97 83 901 = g102 901 := rwv_of hr98 (by decide)
              have hq120 : 970 + 4 * rwv w 83 901 = 970 + (4 * u49) := by omega
              have hq119 : rwv w97 83 (970 + 4 * rwv w 83 901) = sp := by
                rw [hq120, rwv_of hr98 (by omega), hk105 _ (by omega), hk91 _ (by omega), hk81 _ (by omega), hk71 _ (by omega), he60]
              have hq122 : 970 + 4 * rwv w 83 901 + 1 = (970 + (4 * u49)) + 1 := by omega
              have hq121 : rwv w97 83 (970 + 4 * rwv w 83 901 + 1) = fo := by
                rw [hq122, rwv_of hr98 (by omega), hk105 _ (by omega), hk91 _ (by omega), hk81 _ (by omega), he70]
              have hq124 : 970 + 4 * rwv w 83 901 + 2 = (970 + (4 * u49)) + 2 := by omega
              have hq123 : rwv w97 83 (970 + 4 * rwv w 83 901 + 2) = fi := by
                rw [hq124, rwv_of hr98 (by omega), hk105 _ (by omega), hk91 _ (by omega), he80]
              have hq126 : 970 + 4 * rwv w 83 901 + 3 = (970 + (4 * u49)) + 3 := by omega
              have hq125 : rwv w97 83 (970 + 4 * rwv w 83 901 + 3) = ck := by
                rw [hq126, rwv_of hr98 (by omega), hk105 _ (by omega), he90]
              exact xg_e ⟨u106 - 1, w97, ⟨rfl, rfl⟩, ⟨by omega, fun _ => ⟨hq119, hq121, hq123, hq125⟩, fun j hj h => (rwv_of hr98 h).trans (Eq.trans (by rw [hk105 j (by omega), hk91 j (by omega), hk81 j (by omega), hk71 j (by omega), hk61 j (by omega)]) (rwv_of h83_34 h).symm)⟩, xMnv.up (S := [83]) hI (((((xFr.of (S := [83]) hb55 (by decide)).tr (xFr.of (S := [83]) hb65 (by decide))).tr (xFr.of (S := [83]) hb75 (by decide))).tr (xFr.of (S := [83]) hb85 (by decide))).tr (xFr.of (S := [83]) hb99 (by decide))) (List.forall_mem_cons.mpr ⟨xqu83 (show cpx83 (wget w97 83) from ⟨_, hr98, hb101, hx100⟩), fun _ h => absurd h List.not_mem_nil⟩), (((((xFr.of (S := [83]) hb55 (by decide)).tr (xFr.of (S := [83]) hb65 (by decide))).tr (xFr.of (S := [83]) hb75 (by decide))).tr (xFr.of (S := [83]) hb85 (by decide))).tr (xFr.of (S := [83]) hb99 (by decide)))⟩
            · have hz129 : 4294967295 ≤ (u106 + (4294967296 - 1)) % 4294967296 := by omega
              refine xg_t (xg_isub (u := u106) (v := 1) (z := (u106 + (4294967296 - 1)) % 4294967296) xnm0 xnm0 rfl) ?_
              have hz128 : (u106 + (4294967296 - 1)) % 4294967296 < 4294967296 := Nat.mod_lt _ (by decide)
              generalize (u106 + (4294967296 - 1)) % 4294967296 = z127 at hz129 hz128 ⊢
              have hq130 : rwv w 83 901 = g83_33 901 := rwv_of h83_34 (by decide)
              have hq131 : g83_33 901 ≤ 12 := hx36.l901
              have hq132 : g58 901 = g83_33 901 := hk61 901 (by omega)
              have hq133 : g68 901 = g58 901 := hk71 901 (by omega)
              have hq134 : g78 901 = g68 901 := hk81 901 (by omega)
              have hq135 : g88 901 = g78 901 := hk91 901 (by omega)
              have hq136 : g102 901 = u93 + 1 := he104
              have hq137 : rwv w97 83 901 = g102 901 := rwv_of hr98 (by decide)
              have hq139 : 970 + 4 * rwv w 83 901 = 970 + (4 * u49) := by omega
              have hq138 : rwv w97 83 (970 + 4 * rwv w 83 901) = sp := by
                rw [hq139, rwv_of hr98 (by omega), hk105 _ (by omega), hk91 _ (by omega), hk81 _ (by omega), hk71 _ (by omega), he60]
              have hq141 : 970 + 4 * rwv w 83 901 + 1 = (970 + (4 * u49)) + 1 := by omega
              have hq140 : rwv w97 83 (970 + 4 * rwv w 83 901 + 1) = fo := by
                rw [hq141, rwv_of hr98 (by omega), hk105 _ (by omega), hk91 _ (by omega), hk81 _ (by omega), he70]
              have hq143 : 970 + 4 * rwv w 83 901 + 2 = (970 + (4 * u49)) + 2 := by omega
              have hq142 : rwv w97 83 (970 + 4 * rwv w 83 901 + 2) = fi := by
                rw [hq143, rwv_of hr98 (by omega), hk105 _ (by omega), hk91 _ (by omega), he80]
              have hq145 : 970 + 4 * rwv w 83 901 + 3 = (970 + (4 * u49)) + 3 := by omega
              have hq144 : rwv w97 83 (970 + 4 * rwv w 83 901 + 3) = ck := by
                rw [hq145, rwv_of hr98 (by omega), hk105 _ (by omega), he90]
              exact xg_e ⟨z127, w97, ⟨rfl, rfl⟩, ⟨by omega, fun _ => ⟨hq138, hq140, hq142, hq144⟩, fun j hj h => (rwv_of hr98 h).trans (Eq.trans (by rw [hk105 j (by omega), hk91 j (by omega), hk81 j (by omega), hk71 j (by omega), hk61 j (by omega)]) (rwv_of h83_34 h).symm)⟩, xMnv.up (S := [83]) hI (((((xFr.of (S := [83]) hb55 (by decide)).tr (xFr.of (S := [83]) hb65 (by decide))).tr (xFr.of (S := [83]) hb75 (by decide))).tr (xFr.of (S := [83]) hb85 (by decide))).tr (xFr.of (S := [83]) hb99 (by decide))) (List.forall_mem_cons.mpr ⟨xqu83 (show cpx83 (wget w97 83) from ⟨_, hr98, hb101, hx100⟩), fun _ h => absurd h List.not_mem_nil⟩), (((((xFr.of (S := [83]) hb55 (by decide)).tr (xFr.of (S := [83]) hb65 (by decide))).tr (xFr.of (S := [83]) hb75 (by decide))).tr (xFr.of (S := [83]) hb85 (by decide))).tr (xFr.of (S := [83]) hb99 (by decide)))⟩
          · refine xg_t (xg_ifF (u := (if 0 ≤ ck ∧ ck ≤ fi then 1 else 0)) rfl xnm0 (xj_neF (xite0 hc48))) ?_
            refine xg_t (xg_blq rfl) ?_
            refine xg_t (xg_const) ?_
            have hq146 : rwv w 83 901 = g83_33 901 := rwv_of h83_34 (by decide)
            have hq147 : g83_33 901 ≤ 12 := hx36.l901
            have hq148 : rwv w 83 901 = g83_33 901 := rwv_of h83_34 (by decide)
            exact xg_e ⟨4294967295, w, ⟨rfl, rfl⟩, ⟨by omega, fun h => absurd h (by omega), fun j _ h => (rwv_of h83_34 h).trans (rwv_of h83_34 h).symm⟩, hI, xFr.rf⟩
        · refine xg_t (xg_ifT (u := (if 1 ≤ fi ∧ fi ≤ 99 then 1 else 0)) rfl xnm0 (xj_eqT (xite0 hc47))) ?_
          refine xg_t (xg_blq rfl) ?_
          refine xg_t (xg_const) ?_
          have hq149 : rwv w 83 901 = g83_33 901 := rwv_of h83_34 (by decide)
          have hq150 : g83_33 901 ≤ 12 := hx36.l901
          have hq151 : rwv w 83 901 = g83_33 901 := rwv_of h83_34 (by decide)
          exact xg_e ⟨4294967295, w, ⟨rfl, rfl⟩, ⟨by omega, fun h => absurd h (by omega), fun j _ h => (rwv_of h83_34 h).trans (rwv_of h83_34 h).symm⟩, hI, xFr.rf⟩
      · refine xg_t (xg_ifT (u := (if 1 ≤ fo ∧ fo ≤ 999999 then 1 else 0)) rfl xnm0 (xj_eqT (xite0 hc46))) ?_
        refine xg_t (xg_blq rfl) ?_
        refine xg_t (xg_const) ?_
        have hq152 : rwv w 83 901 = g83_33 901 := rwv_of h83_34 (by decide)
        have hq153 : g83_33 901 ≤ 12 := hx36.l901
        have hq154 : rwv w 83 901 = g83_33 901 := rwv_of h83_34 (by decide)
        exact xg_e ⟨4294967295, w, ⟨rfl, rfl⟩, ⟨by omega, fun h => absurd h (by omega), fun j _ h => (rwv_of h83_34 h).trans (rwv_of h83_34 h).symm⟩, hI, xFr.rf⟩
    · refine xg_t (xg_ifT (u := (if 1 ≤ sp ∧ sp ≤ 9 then 1 else 0)) rfl xnm0 (xj_eqT (xite0 hc45))) ?_
      refine xg_t (xg_blq rfl) ?_
      refine xg_t (xg_const) ?_
      have hq155 : rwv w 83 901 = g83_33 901 := rwv_of h83_34 (by decide)
      have hq156 : g83_33 901 ≤ 12 := hx36.l901
      have hq157 : rwv w 83 901 = g83_33 901 := rwv_of h83_34 (by decide)
      exact xg_e ⟨4294967295, w, ⟨rfl, rfl⟩, ⟨by omega, fun h => absurd h (by omega), fun j _ h => (rwv_of h83_34 h).trans (rwv_of h83_34 h).symm⟩, hI, xFr.rf⟩
theorem mWetK {dy : Nat} (hI : xMnv w) (hdy : dy ≤ 4294967295) : xPi (d + 1) mX12_wet [(2, 82), (0, dy)] w bd fc rr (fun n w' => (((dy ≤ 200 ∧ n = 1 ∧ rwv w' 83 13 = dy) ∨ (¬ dy ≤ 200 ∧ n = 0 ∧ rwv w' 83 13 = rwv w 83 13)) ∧ (∀ j, (j ≠ 13) → j < 5360 → rwv w' 83 j = rwv w 83 j)) ∧ xMnv w' ∧ xFr [83] w w') := by
  refine xPi.of ?_
  show xTo (d + 1) mX12_wet (0, [], [(0, (2, 82)), (1, (0, dy))], [], (w, bd, fc, 0, 0, rr)) (fun φ => ∃ n w', xEnd 4 [(0, n)] (w', bd, fc, 0, 0, rr) φ ∧ (((dy ≤ 200 ∧ n = 1 ∧ rwv w' 83 13 = dy) ∨ (¬ dy ≤ 200 ∧ n = 0 ∧ rwv w' 83 13 = rwv w 83 13)) ∧ (∀ j, (j ≠ 13) → j < 5360 → rwv w' 83 j = rwv w 83 j)) ∧ xMnv w' ∧ xFr [83] w w')
  refine xoCh82 (xqc82 hI : cp82 (wget w 82)) (fun f82_1 f82_3 f82_5 f82_7 f82_9 f82_11 f82_13 f82_15 f82_17 f82_19 f82_21 f82_22 f82_23 f82_25 f82_27 f82_29 h82_31 hb2 hb4 hb6 hb8 hb10 hb12 hb14 hb16 hb18 hb20 hb24 hb26 hb28 hb30 hb32 => ?_)
  refine xoX83 (xqc83 hI : cpx83 (wget w 83)) (fun g83_33 h83_34 hb35 hx36 => ?_)
  refine xg_t (xg_blq rfl) ?_
  refine xg_t (xg_iload (va := (0, dy)) rfl rfl) ?_
  refine xg_t (xg_const) ?_
  refine xg_t (xg_sip) ?_
  refine xg_t (xg_cSr mX12_isIn (vs := [(0, dy), (0, 0), (0, 200)]) (rest := []) (rs := [(0, if 0 ≤ dy ∧ dy ≤ 200 then 1 else 0)]) (cn1 := 0) (sl1 := 0) rfl (mIsIn (by omega) (by omega) (by omega)) rfl rfl rfl rfl rfl rfl rfl rfl) ?_
  by_cases hc37 : 0 ≤ dy ∧ dy ≤ 200
  · refine xg_t (xg_ifT (u := (if 0 ≤ dy ∧ dy ≤ 200 then 1 else 0)) rfl xnm0 (xj_neT (xite1 hc37))) ?_
    refine xg_t (xg_blq rfl) ?_
    refine xg_t (xg_aload (va := (2, 82)) rfl rfl) ?_
    refine xg_t (xg_getf (va := (2, 83)) h82_31 rfl) ?_
    refine xg_t (xg_bip) ?_
    refine xg_t (xg_iload (va := (0, dy)) rfl rfl) ?_
    refine xg_iastK (n := 13) (u := dy) h83_34 xnm0 xnm0 rfl (by first | decide | omega) (fun w38 hr39 hb40 => ?_)
    have hx41 : okA (fun j => if j = 13 then dy else g83_33 j) := hx36.upd (by omega) (by omega) (by omega) (fun _ => by omega) (by omega) (fun _ => by omega) (fun _ => by omega) (fun _ => by omega) (fun _ => by omega) (by omega) (fun _ _ => by omega)
    have hb42 : ∀ j, (fun j => if j = 13 then dy else g83_33 j) j ≤ 4294967295 := xrb (by omega) (hb35)
    obtain ⟨g43, hg44⟩ : ∃ g : Nat → Nat, g = (fun j => if j = 13 then dy else g83_33 j) := ⟨_, rfl⟩
    rw [← hg44] at hr39
    have he45 : g43 13 = dy := by rw [hg44]; exact if_pos rfl
    have hk46 : ∀ j, j ≠ 13 → g43 j = g83_33 j := fun j hj => by rw [hg44]; exact if_neg hj
    rw [← hg44] at hx41
    rw [← hg44] at hb42
    refine xg_t (xg_const) ?_
    have hq47 : rwv w 83 13 = g83_33 13 := rwv_of h83_34 (by decide)
    have hq48 : g83_33 13 ≤ 200 := hx36.l13
    have hq49 : g43 13 = dy := he45
    have hq50 : rwv w38 83 13 = g43 13 := rwv_of hr39 (by decide)
    exact xg_e ⟨1, w38, ⟨rfl, rfl⟩, ⟨by omega, fun j hj h => (rwv_of hr39 h).trans (Eq.trans (by rw [hk46 j (by omega)]) (rwv_of h83_34 h).symm)⟩, xMnv.up (S := [83]) hI (xFr.of (S := [83]) hb40 (by decide)) (List.forall_mem_cons.mpr ⟨xqu83 (show cpx83 (wget w38 83) from ⟨_, hr39, hb42, hx41⟩), fun _ h => absurd h List.not_mem_nil⟩), (xFr.of (S := [83]) hb40 (by decide))⟩
  · refine xg_t (xg_ifF (u := (if 0 ≤ dy ∧ dy ≤ 200 then 1 else 0)) rfl xnm0 (xj_neF (xite0 hc37))) ?_
    refine xg_t (xg_const) ?_
    have hq51 : rwv w 83 13 = g83_33 13 := rwv_of h83_34 (by decide)
    have hq52 : g83_33 13 ≤ 200 := hx36.l13
    have hq53 : rwv w 83 13 = g83_33 13 := rwv_of h83_34 (by decide)
    exact xg_e ⟨0, w, ⟨rfl, rfl⟩, ⟨by omega, fun j _ h => (rwv_of h83_34 h).trans (rwv_of h83_34 h).symm⟩, hI, xFr.rf⟩
theorem mCostK {ck co : Nat} (hI : xMnv w) (hck : ck ≤ 4294967295) (hco : co ≤ 4294967295) : xPi (d + 2) mX12_cost [(2, 82), (0, ck), (0, co)] w bd fc rr (fun n w' => (n ≤ 1 ∧ (∀ j, ((j < 910 ∨ 950 ≤ j)) → j < 5360 → rwv w' 83 j = rwv w 83 j)) ∧ xMnv w' ∧ xFr [83] w w') := by
  refine xPi.of ?_
  show xTo (d + 2) mX12_cost (0, [], [(0, (2, 82)), (1, (0, ck)), (2, (0, co))], [], (w, bd, fc, 0, 0, rr)) (fun φ => ∃ n w', xEnd 4 [(0, n)] (w', bd, fc, 0, 0, rr) φ ∧ (n ≤ 1 ∧ (∀ j, ((j < 910 ∨ 950 ≤ j)) → j < 5360 → rwv w' 83 j = rwv w 83 j)) ∧ xMnv w' ∧ xFr [83] w w')
  refine xoCh82 (xqc82 hI : cp82 (wget w 82)) (fun f82_1 f82_3 f82_5 f82_7 f82_9 f82_11 f82_13 f82_15 f82_17 f82_19 f82_21 f82_22 f82_23 f82_25 f82_27 f82_29 h82_31 hb2 hb4 hb6 hb8 hb10 hb12 hb14 hb16 hb18 hb20 hb24 hb26 hb28 hb30 hb32 => ?_)
  refine xoX83 (xqc83 hI : cpx83 (wget w 83)) (fun g83_33 h83_34 hb35 hx36 => ?_)
  refine xg_t (xg_blq rfl) ?_
  refine xg_t (xg_aload (va := (2, 82)) rfl rfl) ?_
  refine xg_t (xg_iload (va := (0, ck)) rfl rfl) ?_
  refine xg_t (xg_bip) ?_
  have hl37 := hx36.l9
  refine xg_cVi mX12_isOf (vs := [(0, ck), (0, 9)]) (rest := []) (cn1 := 0) (sl1 := 0) rfl (mOf9 (hI) (by omega) h83_34 hb35 hx36) rfl h82_31 rfl rfl rfl rfl rfl rfl (fun n42 w38 hq39 => ?_)
  obtain ⟨hn43, hI40, hF41⟩ := hq39
  by_cases hc44 : n42 = 0
  · refine xg_t (xg_ifT (u := n42) rfl xnm0 (xj_eqT hc44)) ?_
    refine xg_t (xg_blq rfl) ?_
    refine xg_t (xg_const) ?_
    exact xg_e ⟨0, w38, ⟨rfl, rfl⟩, ⟨by omega, fun j _ h => (rwv_of (h83_34.fr hF41 (by decide)) h).trans (rwv_of h83_34 h).symm⟩, hI40, (hF41.up (by decide))⟩
  · refine xg_t (xg_ifF (u := n42) rfl xnm0 (xj_eqF hc44)) ?_
    refine xg_t (xg_iload (va := (0, co)) rfl rfl) ?_
    refine xg_t (xg_const) ?_
    refine xg_t (xg_bip) ?_
    refine xg_t (xg_cSr mX12_isIn (vs := [(0, co), (0, 1), (0, 99)]) (rest := []) (rs := [(0, if 1 ≤ co ∧ co ≤ 99 then 1 else 0)]) (cn1 := 0) (sl1 := 0) rfl (mIsIn (by omega) (by omega) (by omega)) rfl rfl rfl rfl rfl rfl rfl rfl) ?_
    by_cases hc45 : 1 ≤ co ∧ co ≤ 99
    · refine xg_t (xg_ifT (u := (if 1 ≤ co ∧ co ≤ 99 then 1 else 0)) rfl xnm0 (xj_neT (xite1 hc45))) ?_
      refine xg_t (xg_blq rfl) ?_
      refine xg_t (xg_aload (va := (2, 82)) rfl rfl) ?_
      refine xg_t (xg_getf (va := (2, 83)) (hF41.get (by decide) h82_31) rfl) ?_
      refine xg_t (xg_sip) ?_
      refine xg_t (xg_iload (va := (0, ck)) rfl rfl) ?_
      refine xg_t (xg_iadd (u := 910) (v := ck) (z := 910 + ck) xnm0 xnm0 (by omega)) ?_
      refine xg_t (xg_iload (va := (0, co)) rfl rfl) ?_
      refine xg_iastK (n := 910 + ck) (u := co) (h83_34.fr hF41 (by decide)) xnm0 xnm0 rfl (by omega) (fun w46 hr47 hb48 => ?_)
      have hx49 : okA (fun j => if j = 910 + ck then co else g83_33 j) := hx36.upd (by omega) (by omega) (by omega) (fun _ => by omega) (by omega) (fun _ => by omega) (fun _ => by omega) (fun _ => by omega) (fun _ => by omega) (by omega) (fun _ _ => by omega)
      have hb50 : ∀ j, (fun j => if j = 910 + ck then co else g83_33 j) j ≤ 4294967295 := xrb (by omega) (hb35)
      obtain ⟨g51, hg52⟩ : ∃ g : Nat → Nat, g = (fun j => if j = 910 + ck then co else g83_33 j) := ⟨_, rfl⟩
      rw [← hg52] at hr47
      have he53 : g51 (910 + ck) = co := by rw [hg52]; exact if_pos rfl
      have hk54 : ∀ j, j ≠ 910 + ck → g51 j = g83_33 j := fun j hj => by rw [hg52]; exact if_neg hj
      rw [← hg52] at hx49
      rw [← hg52] at hb50
      refine xg_t (xg_const) ?_
      exact xg_e ⟨1, w46, ⟨rfl, rfl⟩, ⟨by omega, fun j hj h => (rwv_of hr47 h).trans (Eq.trans (by rw [hk54 j (by omega)]) (rwv_of h83_34 h).symm)⟩, xMnv.up (S := [83]) hI40 (xFr.of (S := [83]) hb48 (by decide)) (List.forall_mem_cons.mpr ⟨xqu83 (show cpx83 (wget w46 83) from ⟨_, hr47, hb50, hx49⟩), fun _ h => absurd h List.not_mem_nil⟩), ((hF41.up (by decide)).tr (xFr.of (S := [83]) hb48 (by decide)))⟩
    · refine xg_t (xg_ifF (u := (if 1 ≤ co ∧ co ≤ 99 then 1 else 0)) rfl xnm0 (xj_neF (xite0 hc45))) ?_
      refine xg_t (xg_blq rfl) ?_
      refine xg_t (xg_const) ?_
      exact xg_e ⟨0, w38, ⟨rfl, rfl⟩, ⟨by omega, fun j _ h => (rwv_of (h83_34.fr hF41 (by decide)) h).trans (rwv_of h83_34 h).symm⟩, hI40, (hF41.up (by decide))⟩
theorem mCrackK {la ra ca : Nat} (hI : xMnv w) (hla : la ≤ 1) (hra : ra ≤ 4294967295) (hca : ca ≤ 4294967295) : xPi (d + 2) mX12_crack [(2, 82), (0, la), (0, ra), (0, ca)] w bd fc rr (fun n w' => (n ≤ 1 ∧ (∀ j, (j ≠ 9 ∧ (j < 140 ∨ 300 ≤ j) ∧ (j < 910 ∨ 950 ≤ j)) → j < 5360 → rwv w' 83 j = rwv w 83 j)) ∧ xMnv w' ∧ xFr [83] w w') := by
  refine xPi.of ?_
  show xTo (d + 2) mX12_crack (0, [], [(0, (2, 82)), (1, (0, la)), (2, (0, ra)), (3, (0, ca))], [], (w, bd, fc, 0, 0, rr)) (fun φ => ∃ n w', xEnd 4 [(0, n)] (w', bd, fc, 0, 0, rr) φ ∧ (n ≤ 1 ∧ (∀ j, (j ≠ 9 ∧ (j < 140 ∨ 300 ≤ j) ∧ (j < 910 ∨ 950 ≤ j)) → j < 5360 → rwv w' 83 j = rwv w 83 j)) ∧ xMnv w' ∧ xFr [83] w w')
  refine xoCh82 (xqc82 hI : cp82 (wget w 82)) (fun f82_1 f82_3 f82_5 f82_7 f82_9 f82_11 f82_13 f82_15 f82_17 f82_19 f82_21 f82_22 f82_23 f82_25 f82_27 f82_29 h82_31 hb2 hb4 hb6 hb8 hb10 hb12 hb14 hb16 hb18 hb20 hb24 hb26 hb28 hb30 hb32 => ?_)
  refine xoX83 (xqc83 hI : cpx83 (wget w 83)) (fun g83_33 h83_34 hb35 hx36 => ?_)
  refine xg_t (xg_blq rfl) ?_
  refine xg_t (xg_aload (va := (2, 82)) rfl rfl) ?_
  refine xg_t (xg_getf (va := (2, 83)) h82_31 rfl) ?_
  refine xg_t (xg_bip) ?_
  refine xg_ialdB (n := 9) (B := 4294967295) h83_34 (hb35) xnm0 (by first | decide | omega) (fun u37 hu38 he39 => ?_)
  have hl40 : u37 ≤ 40 := by rw [← he39]; exact hx36.l9
  refine xg_t (xg_bip) ?_
  by_cases hc41 : u37 = 40
  · refine xg_t (xg_icT (u := u37) (v := 40) rfl xnm0 xnm0 (xj_eqT hc41)) ?_
    refine xg_t (xg_blq rfl) ?_
    refine xg_t (xg_const) ?_
    exact xg_e ⟨0, w, ⟨rfl, rfl⟩, ⟨by omega, fun j _ h => (rwv_of h83_34 h).trans (rwv_of h83_34 h).symm⟩, hI, xFr.rf⟩
  · refine xg_t (xg_icF (u := u37) (v := 40) rfl xnm0 xnm0 (xj_eqF hc41)) ?_
    refine xg_t (xg_aload (va := (2, 82)) rfl rfl) ?_
    refine xg_t (xg_iload (va := (0, la)) rfl rfl) ?_
    refine xg_t (xg_iload (va := (0, ra)) rfl rfl) ?_
    refine xg_t (xg_iload (va := (0, ca)) rfl rfl) ?_
    refine xg_cVi mX12_isThere (vs := [(0, la), (0, ra), (0, ca)]) (rest := []) (cn1 := 0) (sl1 := 0) rfl (mThere (hI) (by omega) (by omega) (by omega) h83_34 hb35 hx36) rfl h82_31 rfl rfl rfl rfl rfl rfl (fun n46 w42 hq43 => ?_)
    obtain ⟨hn47, hI44, hF45⟩ := hq43
    by_cases hc48 : n46 = 0
    · refine xg_t (xg_ifT (u := n46) rfl xnm0 (xj_eqT hc48)) ?_
      refine xg_t (xg_blq rfl) ?_
      refine xg_t (xg_const) ?_
      exact xg_e ⟨0, w42, ⟨rfl, rfl⟩, ⟨by omega, fun j _ h => (rwv_of (h83_34.fr hF45 (by decide)) h).trans (rwv_of h83_34 h).symm⟩, hI44, (hF45.up (by decide))⟩
    · refine xg_t (xg_ifF (u := n46) rfl xnm0 (xj_eqF hc48)) ?_
      refine xg_t (xg_aload (va := (2, 82)) rfl rfl) ?_
      refine xg_t (xg_iload (va := (0, la)) rfl rfl) ?_
      refine xg_t (xg_iload (va := (0, ra)) rfl rfl) ?_
      refine xg_t (xg_iload (va := (0, ca)) rfl rfl) ?_
      refine xg_t (xg_const) ?_
      refine xg_cVi mX12_isCracked (vs := [(0, la), (0, ra), (0, ca), (0, 4294967295)]) (rest := []) (cn1 := 0) (sl1 := 0) rfl (mCracked (hI44) (by omega) (by omega) (by omega) (by omega)) rfl (hF45.get (by decide) h82_31) rfl rfl rfl rfl rfl rfl (fun n53 w49 hq50 => ?_)
      obtain ⟨hn54, hI51, hF52⟩ := hq50
      by_cases hc55 : n53 = 0
      · refine xg_t (xg_ifT (u := n53) rfl xnm0 (xj_eqT hc55)) ?_
        refine xg_t (xg_blq rfl) ?_
        refine xg_t (xg_sip) ?_
        refine xg_t (xg_const) ?_
        refine xg_t (xg_aload (va := (2, 82)) rfl rfl) ?_
        refine xg_t (xg_getf (va := (2, 83)) (hF52.get (by decide) (hF45.get (by decide) h82_31)) rfl) ?_
        refine xg_t (xg_bip) ?_
        refine xg_ialdB (n := 9) (B := 4294967295) ((h83_34.fr hF45 (by decide)).fr hF52 (by decide)) (hb35) xnm0 (by first | decide | omega) (fun u56 hu57 he58 => ?_)
        have hl59 : u56 ≤ 40 := by rw [← he58]; exact hx36.l9
        refine xg_t (xg_imul (u := 4) (v := u56) (z := 4 * u56) xnm0 xnm0 (by omega)) ?_
        refine xg_t (xg_iadd (u := 140) (v := 4 * u56) (z := 140 + (4 * u56)) xnm0 xnm0 (by omega)) ?_
        refine xg_t (xg_istore (l1 := [(0, (2, 82)), (1, (0, la)), (2, (0, ra)), (3, (0, ca))]) rfl rfl rfl) ?_
        refine xg_t (xg_aload (va := (2, 82)) rfl rfl) ?_
        refine xg_t (xg_getf (va := (2, 83)) (hF52.get (by decide) (hF45.get (by decide) h82_31)) rfl) ?_
        refine xg_t (xg_iload (va := (0, 140 + (4 * u56))) rfl rfl) ?_
        refine xg_t (xg_iload (va := (0, la)) rfl rfl) ?_
        by_cases hc60 : la = 0
        · refine xg_t (xg_ifT (u := la) rfl xnm0 (xj_eqT hc60)) ?_
          refine xg_t (xg_blq rfl) ?_
          refine xg_t (xg_const) ?_
          refine xg_t (xg_blq rfl) ?_
          refine xg_iastK (n := 140 + (4 * u56)) (u := 0) ((h83_34.fr hF45 (by decide)).fr hF52 (by decide)) xnm0 xnm0 rfl (by omega) (fun w61 hr62 hb63 => ?_)
          have hx64 : okA (fun j => if j = 140 + (4 * u56) then 0 else g83_33 j) := hx36.upd (by omega) (by omega) (by omega) (fun _ => by omega) (by omega) (fun _ => by omega) (fun _ => by omega) (fun _ => by omega) (fun _ => by omega) (by omega) (fun _ _ => by omega)
          have hb65 : ∀ j, (fun j => if j = 140 + (4 * u56) then 0 else g83_33 j) j ≤ 4294967295 := xrb (by omega) (hb35)
          obtain ⟨g66, hg67⟩ : ∃ g : Nat → Nat, g = (fun j => if j = 140 + (4 * u56) then 0 else g83_33 j) := ⟨_, rfl⟩
          rw [← hg67] at hr62
          have he68 : g66 (140 + (4 * u56)) = 0 := by rw [hg67]; exact if_pos rfl
          have hk69 : ∀ j, j ≠ 140 + (4 * u56) → g66 j = g83_33 j := fun j hj => by rw [hg67]; exact if_neg hj
          rw [← hg67] at hx64
          rw [← hg67] at hb65
          have hk70 : g66 9 = g83_33 9 := hk69 9 (by omega)
          refine xg_t (xg_aload (va := (2, 82)) rfl rfl) ?_
          refine xg_t (xg_getf (va := (2, 83)) (hb63.get (by decide) (hF52.get (by decide) (hF45.get (by decide) h82_31))) rfl) ?_
          refine xg_t (xg_iload (va := (0, 140 + (4 * u56))) rfl rfl) ?_
          refine xg_t (xg_const) ?_
          refine xg_t (xg_iadd (u := 140 + (4 * u56)) (v := 1) (z := (140 + (4 * u56)) + 1) xnm0 xnm0 (by omega)) ?_
          refine xg_t (xg_iload (va := (0, ra)) rfl rfl) ?_
          refine xg_iastK (n := (140 + (4 * u56)) + 1) (u := ra) hr62 xnm0 xnm0 rfl (by omega) (fun w71 hr72 hb73 => ?_)
          have hx74 : okA (fun j => if j = (140 + (4 * u56)) + 1 then ra else g66 j) := hx64.upd (by omega) (by omega) (by omega) (fun _ => by omega) (by omega) (fun _ => by omega) (fun _ => by omega) (fun _ => by omega) (fun _ => by omega) (by omega) (fun _ _ => by omega)
          have hb75 : ∀ j, (fun j => if j = (140 + (4 * u56)) + 1 then ra else g66 j) j ≤ 4294967295 := xrb (by omega) (hb65)
          obtain ⟨g76, hg77⟩ : ∃ g : Nat → Nat, g = (fun j => if j = (140 + (4 * u56)) + 1 then ra else g66 j) := ⟨_, rfl⟩
          rw [← hg77] at hr72
          have he78 : g76 ((140 + (4 * u56)) + 1) = ra := by rw [hg77]; exact if_pos rfl
          have hk79 : ∀ j, j ≠ (140 + (4 * u56)) + 1 → g76 j = g66 j := fun j hj => by rw [hg77]; exact if_neg hj
          rw [← hg77] at hx74
          rw [← hg77] at hb75
          have hk80 : g76 9 = g66 9 := hk79 9 (by omega)
          refine xg_t (xg_aload (va := (2, 82)) rfl rfl) ?_
          refine xg_t (xg_getf (va := (2, 83)) (hb73.get (by decide) (hb63.get (by decide) (hF52.get (by decide) (hF45.get (by decide) h82_31)))) rfl) ?_
          refine xg_t (xg_iload (va := (0, 140 + (4 * u56))) rfl rfl) ?_
          refine xg_t (xg_const) ?_
          refine xg_t (xg_iadd (u := 140 + (4 * u56)) (v := 2) (z := (140 + (4 * u56)) + 2) xnm0 xnm0 (by omega)) ?_
          refine xg_t (xg_iload (va := (0, ca)) rfl rfl) ?_
          refine xg_iastK (n := (140 + (4 * u56)) + 2) (u := ca) hr72 xnm0 xnm0 rfl (by omega) (fun w81 hr82 hb83 => ?_)
          have hx84 : okA (fun j => if j = (140 + (4 * u56)) + 2 then ca else g76 j) := hx74.upd (by omega) (by omega) (by omega) (fun _ => by omega) (by omega) (fun _ => by omega) (fun _ => by omega) (fun _ => by omega) (fun _ => by omega) (by omega) (fun _ _ => by omega)
          have hb85 : ∀ j, (fun j => if j = (140 + (4 * u56)) + 2 then ca else g76 j) j ≤ 4294967295 := xrb (by omega) (hb75)
          obtain ⟨g86, hg87⟩ : ∃ g : Nat → Nat, g = (fun j => if j = (140 + (4 * u56)) + 2 then ca else g76 j) := ⟨_, rfl⟩
          rw [← hg87] at hr82
          have he88 : g86 ((140 + (4 * u56)) + 2) = ca := by rw [hg87]; exact if_pos rfl
          have hk89 : ∀ j, j ≠ (140 + (4 * u56)) + 2 → g86 j = g76 j := fun j hj => by rw [hg87]; exact if_neg hj
          rw [← hg87] at hx84
          rw [← hg87] at hb85
          have hk90 : g86 9 = g76 9 := hk89 9 (by omega)
          refine xg_t (xg_aload (va := (2, 82)) rfl rfl) ?_
          refine xg_t (xg_getf (va := (2, 83)) (hb83.get (by decide) (hb73.get (by decide) (hb63.get (by decide) (hF52.get (by decide) (hF45.get (by decide) h82_31))))) rfl) ?_
          refine xg_t (xg_iload (va := (0, 140 + (4 * u56))) rfl rfl) ?_
          refine xg_t (xg_const) ?_
          refine xg_t (xg_iadd (u := 140 + (4 * u56)) (v := 3) (z := (140 + (4 * u56)) + 3) xnm0 xnm0 (by omega)) ?_
          refine xg_t (xg_aload (va := (2, 82)) rfl rfl) ?_
          refine xg_t (xg_getf (va := (2, 83)) (hb83.get (by decide) (hb73.get (by decide) (hb63.get (by decide) (hF52.get (by decide) (hF45.get (by decide) h82_31))))) rfl) ?_
          refine xg_t (xg_bip) ?_
          refine xg_ialdB (n := 11) (B := 4294967295) hr82 (hb85) xnm0 (by first | decide | omega) (fun u91 hu92 he93 => ?_)
          refine xg_iastK (n := (140 + (4 * u56)) + 3) (u := u91) hr82 xnm0 xnm0 rfl (by omega) (fun w94 hr95 hb96 => ?_)
          have hx97 : okA (fun j => if j = (140 + (4 * u56)) + 3 then u91 else g86 j) := hx84.upd (by omega) (by omega) (by omega) (fun _ => by omega) (by omega) (fun _ => by omega) (fun _ => by omega) (fun _ => by omega) (fun _ => by omega) (by omega) (fun _ _ => by omega)
          have hb98 : ∀ j, (fun j => if j = (140 + (4 * u56)) + 3 then u91 else g86 j) j ≤ 4294967295 := xrb (by omega) (hb85)
          obtain ⟨g99, hg100⟩ : ∃ g : Nat → Nat, g = (fun j => if j = (140 + (4 * u56)) + 3 then u91 else g86 j) := ⟨_, rfl⟩
          rw [← hg100] at hr95
          have he101 : g99 ((140 + (4 * u56)) + 3) = u91 := by rw [hg100]; exact if_pos rfl
          have hk102 : ∀ j, j ≠ (140 + (4 * u56)) + 3 → g99 j = g86 j := fun j hj => by rw [hg100]; exact if_neg hj
          rw [← hg100] at hx97
          rw [← hg100] at hb98
          have hk103 : g99 9 = g86 9 := hk102 9 (by omega)
          refine xg_t (xg_aload (va := (2, 82)) rfl rfl) ?_
          refine xg_t (xg_getf (va := (2, 83)) (hb96.get (by decide) (hb83.get (by decide) (hb73.get (by decide) (hb63.get (by decide) (hF52.get (by decide) (hF45.get (by decide) h82_31)))))) rfl) ?_
          refine xg_t (xg_sip) ?_
          refine xg_t (xg_aload (va := (2, 82)) rfl rfl) ?_
          refine xg_t (xg_getf (va := (2, 83)) (hb96.get (by decide) (hb83.get (by decide) (hb73.get (by decide) (hb63.get (by decide) (hF52.get (by decide) (hF45.get (by decide) h82_31)))))) rfl) ?_
          refine xg_t (xg_bip) ?_
          refine xg_ialdB (n := 9) (B := 4294967295) hr95 (hb98) xnm0 (by first | decide | omega) (fun u104 hu105 he106 => ?_)
          have hl107 : u104 ≤ 40 := by rw [← he106]; exact hx97.l9
          refine xg_t (xg_iadd (u := 910) (v := u104) (z := 910 + u104) xnm0 xnm0 (by omega)) ?_
          refine xg_t (xg_const) ?_
          refine xg_iastK (n := 910 + u104) (u := 1) hr95 xnm0 xnm0 rfl (by omega) (fun w108 hr109 hb110 => ?_)
          have hx111 : okA (fun j => if j = 910 + u104 then 1 else g99 j) := hx97.upd (by omega) (by omega) (by omega) (fun _ => by omega) (by omega) (fun _ => by omega) (fun _ => by omega) (fun _ => by omega) (fun _ => by omega) (by omega) (fun _ _ => by omega)
          have hb112 : ∀ j, (fun j => if j = 910 + u104 then 1 else g99 j) j ≤ 4294967295 := xrb (by omega) (hb98)
          obtain ⟨g113, hg114⟩ : ∃ g : Nat → Nat, g = (fun j => if j = 910 + u104 then 1 else g99 j) := ⟨_, rfl⟩
          rw [← hg114] at hr109
          have he115 : g113 (910 + u104) = 1 := by rw [hg114]; exact if_pos rfl
          have hk116 : ∀ j, j ≠ 910 + u104 → g113 j = g99 j := fun j hj => by rw [hg114]; exact if_neg hj
          rw [← hg114] at hx111
          rw [← hg114] at hb112
          have hk117 : g113 9 = g99 9 := hk116 9 (by omega)
          refine xg_t (xg_aload (va := (2, 82)) rfl rfl) ?_
          refine xg_t (xg_getf (va := (2, 83)) (hb110.get (by decide) (hb96.get (by decide) (hb83.get (by decide) (hb73.get (by decide) (hb63.get (by decide) (hF52.get (by decide) (hF45.get (by decide) h82_31))))))) rfl) ?_
          refine xg_t (xg_bip) ?_
          refine xg_t (xg_dup2 rfl) ?_
          refine xg_ialdB (n := 9) (B := 4294967295) hr109 (hb112) xnm0 (by first | decide | omega) (fun u118 hu119 he120 => ?_)
          have hl121 : u118 ≤ 40 := by rw [← he120]; exact hx111.l9
          refine xg_t (xg_const) ?_
          refine xg_t (xg_iadd (u := u118) (v := 1) (z := u118 + 1) xnm0 xnm0 (by omega)) ?_
          refine xg_iastK (n := 9) (u := u118 + 1) hr109 xnm0 xnm0 rfl (by first | decide | omega) (fun w122 hr123 hb124 => ?_)
          have hx125 : okA (fun j => if j = 9 then u118 + 1 else g113 j) := hx111.upd (by omega) (by omega) (by omega) (fun _ => by omega) (by omega) (fun _ => by omega) (fun _ => by omega) (fun _ => by omega) (fun _ => by omega) (by omega) (fun _ _ => by omega)
          have hb126 : ∀ j, (fun j => if j = 9 then u118 + 1 else g113 j) j ≤ 4294967295 := xrb (by omega) (hb112)
          obtain ⟨g127, hg128⟩ : ∃ g : Nat → Nat, g = (fun j => if j = 9 then u118 + 1 else g113 j) := ⟨_, rfl⟩
          rw [← hg128] at hr123
          have he129 : g127 9 = u118 + 1 := by rw [hg128]; exact if_pos rfl
          have hk130 : ∀ j, j ≠ 9 → g127 j = g113 j := fun j hj => by rw [hg128]; exact if_neg hj
          rw [← hg128] at hx125
          rw [← hg128] at hb126
          refine xg_t (xg_const) ?_
          exact xg_e ⟨1, w122, ⟨rfl, rfl⟩, ⟨by omega, fun j hj h => (rwv_of hr123 h).trans (Eq.trans (by rw [hk130 j (by omega), hk116 j (by omega), hk102 j (by omega), hk89 j (by omega), hk79 j (by omega), hk69 j (by omega)]) (rwv_of h83_34 h).symm)⟩, xMnv.up (S := [83]) hI51 ((((((xFr.of (S := [83]) hb63 (by decide)).tr (xFr.of (S := [83]) hb73 (by decide))).tr (xFr.of (S := [83]) hb83 (by decide))).tr (xFr.of (S := [83]) hb96 (by decide))).tr (xFr.of (S := [83]) hb110 (by decide))).tr (xFr.of (S := [83]) hb124 (by decide))) (List.forall_mem_cons.mpr ⟨xqu83 (show cpx83 (wget w122 83) from ⟨_, hr123, hb126, hx125⟩), fun _ h => absurd h List.not_mem_nil⟩), (((hF45.up (by decide)).tr (hF52.up (by decide))).tr ((((((xFr.of (S := [83]) hb63 (by decide)).tr (xFr.of (S := [83]) hb73 (by decide))).tr (xFr.of (S := [83]) hb83 (by decide))).tr (xFr.of (S := [83]) hb96 (by decide))).tr (xFr.of (S := [83]) hb110 (by decide))).tr (xFr.of (S := [83]) hb124 (by decide))))⟩
        · refine xg_t (xg_ifF (u := la) rfl xnm0 (xj_eqF hc60)) ?_
          refine xg_t (xg_const) ?_
          refine xg_t (xg_goto) ?_
          refine xg_t (xg_blq rfl) ?_
          refine xg_iastK (n := 140 + (4 * u56)) (u := 1) ((h83_34.fr hF45 (by decide)).fr hF52 (by decide)) xnm0 xnm0 rfl (by omega) (fun w131 hr132 hb133 => ?_)
          have hx134 : okA (fun j => if j = 140 + (4 * u56) then 1 else g83_33 j) := hx36.upd (by omega) (by omega) (by omega) (fun _ => by omega) (by omega) (fun _ => by omega) (fun _ => by omega) (fun _ => by omega) (fun _ => by omega) (by omega) (fun _ _ => by omega)
          have hb135 : ∀ j, (fun j => if j = 140 + (4 * u56) then 1 else g83_33 j) j ≤ 4294967295 := xrb (by omega) (hb35)
          obtain ⟨g136, hg137⟩ : ∃ g : Nat → Nat, g = (fun j => if j = 140 + (4 * u56) then 1 else g83_33 j) := ⟨_, rfl⟩
          rw [← hg137] at hr132
          have he138 : g136 (140 + (4 * u56)) = 1 := by rw [hg137]; exact if_pos rfl
          have hk139 : ∀ j, j ≠ 140 + (4 * u56) → g136 j = g83_33 j := fun j hj => by rw [hg137]; exact if_neg hj
          rw [← hg137] at hx134
          rw [← hg137] at hb135
          have hk140 : g136 9 = g83_33 9 := hk139 9 (by omega)
          refine xg_t (xg_aload (va := (2, 82)) rfl rfl) ?_
          refine xg_t (xg_getf (va := (2, 83)) (hb133.get (by decide) (hF52.get (by decide) (hF45.get (by decide) h82_31))) rfl) ?_
          refine xg_t (xg_iload (va := (0, 140 + (4 * u56))) rfl rfl) ?_
          refine xg_t (xg_const) ?_
          refine xg_t (xg_iadd (u := 140 + (4 * u56)) (v := 1) (z := (140 + (4 * u56)) + 1) xnm0 xnm0 (by omega)) ?_
          refine xg_t (xg_iload (va := (0, ra)) rfl rfl) ?_
          refine xg_iastK (n := (140 + (4 * u56)) + 1) (u := ra) hr132 xnm0 xnm0 rfl (by omega) (fun w141 hr142 hb143 => ?_)
          have hx144 : okA (fun j => if j = (140 + (4 * u56)) + 1 then ra else g136 j) := hx134.upd (by omega) (by omega) (by omega) (fun _ => by omega) (by omega) (fun _ => by omega) (fun _ => by omega) (fun _ => by omega) (fun _ => by omega) (by omega) (fun _ _ => by omega)
          have hb145 : ∀ j, (fun j => if j = (140 + (4 * u56)) + 1 then ra else g136 j) j ≤ 4294967295 := xrb (by omega) (hb135)
          obtain ⟨g146, hg147⟩ : ∃ g : Nat → Nat, g = (fun j => if j = (140 + (4 * u56)) + 1 then ra else g136 j) := ⟨_, rfl⟩
          rw [← hg147] at hr142
          have he148 : g146 ((140 + (4 * u56)) + 1) = ra := by rw [hg147]; exact if_pos rfl
          have hk149 : ∀ j, j ≠ (140 + (4 * u56)) + 1 → g146 j = g136 j := fun j hj => by rw [hg147]; exact if_neg hj
          rw [← hg147] at hx144
          rw [← hg147] at hb145
          have hk150 : g146 9 = g136 9 := hk149 9 (by omega)
          refine xg_t (xg_aload (va := (2, 82)) rfl rfl) ?_
          refine xg_t (xg_getf (va := (2, 83)) (hb143.get (by decide) (hb133.get (by decide) (hF52.get (by decide) (hF45.get (by decide) h82_31)))) rfl) ?_
          refine xg_t (xg_iload (va := (0, 140 + (4 * u56))) rfl rfl) ?_
          refine xg_t (xg_const) ?_
          refine xg_t (xg_iadd (u := 140 + (4 * u56)) (v := 2) (z := (140 + (4 * u56)) + 2) xnm0 xnm0 (by omega)) ?_
          refine xg_t (xg_iload (va := (0, ca)) rfl rfl) ?_
          refine xg_iastK (n := (140 + (4 * u56)) + 2) (u := ca) hr142 xnm0 xnm0 rfl (by omega) (fun w151 hr152 hb153 => ?_)
          have hx154 : okA (fun j => if j = (140 + (4 * u56)) + 2 then ca else g146 j) := hx144.upd (by omega) (by omega) (by omega) (fun _ => by omega) (by omega) (fun _ => by omega) (fun _ => by omega) (fun _ => by omega) (fun _ => by omega) (by omega) (fun _ _ => by omega)
          have hb155 : ∀ j, (fun j => if j = (140 + (4 * u56)) + 2 then ca else g146 j) j ≤ 4294967295 := xrb (by omega) (hb145)
          obtain ⟨g156, hg157⟩ : ∃ g : Nat → Nat, g = (fun j => if j = (140 + (4 * u56)) + 2 then ca else g146 j) := ⟨_, rfl⟩
          rw [← hg157] at hr152
          have he158 : g156 ((140 + (4 * u56)) + 2) = ca := by rw [hg157]; exact if_pos rfl
          have hk159 : ∀ j, j ≠ (140 + (4 * u56)) + 2 → g156 j = g146 j := fun j hj => by rw [hg157]; exact if_neg hj
          rw [← hg157] at hx154
          rw [← hg157] at hb155
          have hk160 : g156 9 = g146 9 := hk159 9 (by omega)
          refine xg_t (xg_aload (va := (2, 82)) rfl rfl) ?_
          refine xg_t (xg_getf (va := (2, 83)) (hb153.get (by decide) (hb143.get (by decide) (hb133.get (by decide) (hF52.get (by decide) (hF45.get (by decide) h82_31))))) rfl) ?_
          refine xg_t (xg_iload (va := (0, 140 + (4 * u56))) rfl rfl) ?_
          refine xg_t (xg_const) ?_
          refine xg_t (xg_iadd (u := 140 + (4 * u56)) (v := 3) (z := (140 + (4 * u56)) + 3) xnm0 xnm0 (by omega)) ?_
          refine xg_t (xg_aload (va := (2, 82)) rfl rfl) ?_
          refine xg_t (xg_getf (va := (2, 83)) (hb153.get (by decide) (hb143.get (by decide) (hb133.get (by decide) (hF52.get (by decide) (hF45.get (by decide) h82_31))))) rfl) ?_
          refine xg_t (xg_bip) ?_
          refine xg_ialdB (n := 11) (B := 4294967295) hr152 (hb155) xnm0 (by first | decide | omega) (fun u161 hu162 he163 => ?_)
          refine xg_iastK (n := (140 + (4 * u56)) + 3) (u := u161) hr152 xnm0 xnm0 rfl (by omega) (fun w164 hr165 hb166 => ?_)
          have hx167 : okA (fun j => if j = (140 + (4 * u56)) + 3 then u161 else g156 j) := hx154.upd (by omega) (by omega) (by omega) (fun _ => by omega) (by omega) (fun _ => by omega) (fun _ => by omega) (fun _ => by omega) (fun _ => by omega) (by omega) (fun _ _ => by omega)
          have hb168 : ∀ j, (fun j => if j = (140 + (4 * u56)) + 3 then u161 else g156 j) j ≤ 4294967295 := xrb (by omega) (hb155)
          obtain ⟨g169, hg170⟩ : ∃ g : Nat → Nat, g = (fun j => if j = (140 + (4 * u56)) + 3 then u161 else g156 j) := ⟨_, rfl⟩
          rw [← hg170] at hr165
          have he171 : g169 ((140 + (4 * u56)) + 3) = u161 := by rw [hg170]; exact if_pos rfl
          have hk172 : ∀ j, j ≠ (140 + (4 * u56)) + 3 → g169 j = g156 j := fun j hj => by rw [hg170]; exact if_neg hj
          rw [← hg170] at hx167
          rw [← hg170] at hb168
          have hk173 : g169 9 = g156 9 := hk172 9 (by omega)
          refine xg_t (xg_aload (va := (2, 82)) rfl rfl) ?_
          refine xg_t (xg_getf (va := (2, 83)) (hb166.get (by decide) (hb153.get (by decide) (hb143.get (by decide) (hb133.get (by decide) (hF52.get (by decide) (hF45.get (by decide) h82_31)))))) rfl) ?_
          refine xg_t (xg_sip) ?_
          refine xg_t (xg_aload (va := (2, 82)) rfl rfl) ?_
          refine xg_t (xg_getf (va := (2, 83)) (hb166.get (by decide) (hb153.get (by decide) (hb143.get (by decide) (hb133.get (by decide) (hF52.get (by decide) (hF45.get (by decide) h82_31)))))) rfl) ?_
          refine xg_t (xg_bip) ?_
          refine xg_ialdB (n := 9) (B := 4294967295) hr165 (hb168) xnm0 (by first | decide | omega) (fun u174 hu175 he176 => ?_)
          have hl177 : u174 ≤ 40 := by rw [← he176]; exact hx167.l9
          refine xg_t (xg_iadd (u := 910) (v := u174) (z := 910 + u174) xnm0 xnm0 (by omega)) ?_
          refine xg_t (xg_const) ?_
          refine xg_iastK (n := 910 + u174) (u := 1) hr165 xnm0 xnm0 rfl (by omega) (fun w178 hr179 hb180 => ?_)
          have hx181 : okA (fun j => if j = 910 + u174 then 1 else g169 j) := hx167.upd (by omega) (by omega) (by omega) (fun _ => by omega) (by omega) (fun _ => by omega) (fun _ => by omega) (fun _ => by omega) (fun _ => by omega) (by omega) (fun _ _ => by omega)
          have hb182 : ∀ j, (fun j => if j = 910 + u174 then 1 else g169 j) j ≤ 4294967295 := xrb (by omega) (hb168)
          obtain ⟨g183, hg184⟩ : ∃ g : Nat → Nat, g = (fun j => if j = 910 + u174 then 1 else g169 j) := ⟨_, rfl⟩
          rw [← hg184] at hr179
          have he185 : g183 (910 + u174) = 1 := by rw [hg184]; exact if_pos rfl
          have hk186 : ∀ j, j ≠ 910 + u174 → g183 j = g169 j := fun j hj => by rw [hg184]; exact if_neg hj
          rw [← hg184] at hx181
          rw [← hg184] at hb182
          have hk187 : g183 9 = g169 9 := hk186 9 (by omega)
          refine xg_t (xg_aload (va := (2, 82)) rfl rfl) ?_
          refine xg_t (xg_getf (va := (2, 83)) (hb180.get (by decide) (hb166.get (by decide) (hb153.get (by decide) (hb143.get (by decide) (hb133.get (by decide) (hF52.get (by decide) (hF45.get (by decide) h82_31))))))) rfl) ?_
          refine xg_t (xg_bip) ?_
          refine xg_t (xg_dup2 rfl) ?_
          refine xg_ialdB (n := 9) (B := 4294967295) hr179 (hb182) xnm0 (by first | decide | omega) (fun u188 hu189 he190 => ?_)
          have hl191 : u188 ≤ 40 := by rw [← he190]; exact hx181.l9
          refine xg_t (xg_const) ?_
          refine xg_t (xg_iadd (u := u188) (v := 1) (z := u188 + 1) xnm0 xnm0 (by omega)) ?_
          refine xg_iastK (n := 9) (u := u188 + 1) hr179 xnm0 xnm0 rfl (by first | decide | omega) (fun w192 hr193 hb194 => ?_)
          have hx195 : okA (fun j => if j = 9 then u188 + 1 else g183 j) := hx181.upd (by omega) (by omega) (by omega) (fun _ => by omega) (by omega) (fun _ => by omega) (fun _ => by omega) (fun _ => by omega) (fun _ => by omega) (by omega) (fun _ _ => by omega)
          have hb196 : ∀ j, (fun j => if j = 9 then u188 + 1 else g183 j) j ≤ 4294967295 := xrb (by omega) (hb182)
          obtain ⟨g197, hg198⟩ : ∃ g : Nat → Nat, g = (fun j => if j = 9 then u188 + 1 else g183 j) := ⟨_, rfl⟩
          rw [← hg198] at hr193
          have he199 : g197 9 = u188 + 1 := by rw [hg198]; exact if_pos rfl
          have hk200 : ∀ j, j ≠ 9 → g197 j = g183 j := fun j hj => by rw [hg198]; exact if_neg hj
          rw [← hg198] at hx195
          rw [← hg198] at hb196
          refine xg_t (xg_const) ?_
          exact xg_e ⟨1, w192, ⟨rfl, rfl⟩, ⟨by omega, fun j hj h => (rwv_of hr193 h).trans (Eq.trans (by rw [hk200 j (by omega), hk186 j (by omega), hk172 j (by omega), hk159 j (by omega), hk149 j (by omega), hk139 j (by omega)]) (rwv_of h83_34 h).symm)⟩, xMnv.up (S := [83]) hI51 ((((((xFr.of (S := [83]) hb133 (by decide)).tr (xFr.of (S := [83]) hb143 (by decide))).tr (xFr.of (S := [83]) hb153 (by decide))).tr (xFr.of (S := [83]) hb166 (by decide))).tr (xFr.of (S := [83]) hb180 (by decide))).tr (xFr.of (S := [83]) hb194 (by decide))) (List.forall_mem_cons.mpr ⟨xqu83 (show cpx83 (wget w192 83) from ⟨_, hr193, hb196, hx195⟩), fun _ h => absurd h List.not_mem_nil⟩), (((hF45.up (by decide)).tr (hF52.up (by decide))).tr ((((((xFr.of (S := [83]) hb133 (by decide)).tr (xFr.of (S := [83]) hb143 (by decide))).tr (xFr.of (S := [83]) hb153 (by decide))).tr (xFr.of (S := [83]) hb166 (by decide))).tr (xFr.of (S := [83]) hb180 (by decide))).tr (xFr.of (S := [83]) hb194 (by decide))))⟩
      · refine xg_t (xg_ifF (u := n53) rfl xnm0 (xj_eqF hc55)) ?_
        refine xg_t (xg_blq rfl) ?_
        refine xg_t (xg_const) ?_
        exact xg_e ⟨0, w49, ⟨rfl, rfl⟩, ⟨by omega, fun j _ h => (rwv_of ((h83_34.fr hF45 (by decide)).fr hF52 (by decide)) h).trans (rwv_of h83_34 h).symm⟩, hI51, ((hF45.up (by decide)).tr (hF52.up (by decide)))⟩
theorem mPictureK {pa pb pc_ pd pl ph : Nat} (hI : xMnv w) (hpa : pa ≤ 4294967295) (hpb : pb ≤ 4294967295) (hpc_ : pc_ ≤ 4294967295) (hpd : pd ≤ 4294967295) (hpl : pl ≤ 4294967295) (hph : ph ≤ 4294967295) : xPi (d + 1) mX12_picture [(2, 82), (0, pa), (0, pb), (0, pc_), (0, pd), (0, pl), (0, ph)] w bd fc rr (fun n w' => (n ≤ 4294967295 ∧ (∀ j, (j ≠ 10 ∧ (j < 300 ∨ 372 ≤ j)) → j < 5360 → rwv w' 83 j = rwv w 83 j)) ∧ xMnv w' ∧ xFr [83] w w') := by
  refine xPi.of ?_
  show xTo (d + 1) mX12_picture (0, [], [(0, (2, 82)), (1, (0, pa)), (2, (0, pb)), (3, (0, pc_)), (4, (0, pd)), (5, (0, pl)), (6, (0, ph))], [], (w, bd, fc, 0, 0, rr)) (fun φ => ∃ n w', xEnd 1 [(0, n)] (w', bd, fc, 0, 0, rr) φ ∧ (n ≤ 4294967295 ∧ (∀ j, (j ≠ 10 ∧ (j < 300 ∨ 372 ≤ j)) → j < 5360 → rwv w' 83 j = rwv w 83 j)) ∧ xMnv w' ∧ xFr [83] w w')
  refine xoCh82 (xqc82 hI : cp82 (wget w 82)) (fun f82_1 f82_3 f82_5 f82_7 f82_9 f82_11 f82_13 f82_15 f82_17 f82_19 f82_21 f82_22 f82_23 f82_25 f82_27 f82_29 h82_31 hb2 hb4 hb6 hb8 hb10 hb12 hb14 hb16 hb18 hb20 hb24 hb26 hb28 hb30 hb32 => ?_)
  refine xoX83 (xqc83 hI : cpx83 (wget w 83)) (fun g83_33 h83_34 hb35 hx36 => ?_)
  refine xg_t (xg_blq rfl) ?_
  refine xg_t (xg_aload (va := (2, 82)) rfl rfl) ?_
  refine xg_t (xg_getf (va := (2, 83)) h82_31 rfl) ?_
  refine xg_t (xg_bip) ?_
  refine xg_ialdB (n := 10) (B := 4294967295) h83_34 (hb35) xnm0 (by first | decide | omega) (fun u37 hu38 he39 => ?_)
  have hl40 : u37 ≤ 12 := by rw [← he39]; exact hx36.l10
  refine xg_t (xg_bip) ?_
  by_cases hc41 : u37 = 12
  · refine xg_t (xg_icT (u := u37) (v := 12) rfl xnm0 xnm0 (xj_eqT hc41)) ?_
    refine xg_t (xg_blq rfl) ?_
    refine xg_t (xg_const) ?_
    exact xg_e ⟨4294967295, w, ⟨rfl, rfl⟩, ⟨by omega, fun j _ h => (rwv_of h83_34 h).trans (rwv_of h83_34 h).symm⟩, hI, xFr.rf⟩
  · refine xg_t (xg_icF (u := u37) (v := 12) rfl xnm0 xnm0 (xj_eqF hc41)) ?_
    refine xg_t (xg_iload (va := (0, pa)) rfl rfl) ?_
    refine xg_t (xg_const) ?_
    refine xg_t (xg_aload (va := (2, 82)) rfl rfl) ?_
    refine xg_t (xg_getf (va := (2, 83)) h82_31 rfl) ?_
    refine xg_t (xg_const) ?_
    refine xg_ialdB (n := 5) (B := 4294967295) h83_34 (hb35) xnm0 (by first | decide | omega) (fun u42 hu43 he44 => ?_)
    have hl45 : u42 ≤ 6 := by rw [← he44]; exact hx36.l5
    refine xg_t (xg_const) ?_
    by_cases hc46 : 1 ≤ u42
    · refine xg_t (xg_isub (u := u42) (v := 1) (z := u42 - 1) xnm0 xnm0 (by omega)) ?_
      refine xg_t (xg_cSr mX12_isIn (vs := [(0, pa), (0, 0), (0, u42 - 1)]) (rest := []) (rs := [(0, if 0 ≤ pa ∧ pa ≤ u42 - 1 then 1 else 0)]) (cn1 := 0) (sl1 := 0) rfl (mIsIn (by omega) (by omega) (by omega)) rfl rfl rfl rfl rfl rfl rfl rfl) ?_
      by_cases hc47 : 0 ≤ pa ∧ pa ≤ u42 - 1
      · refine xg_t (xg_ifF (u := (if 0 ≤ pa ∧ pa ≤ u42 - 1 then 1 else 0)) rfl xnm0 (xj_eqF (xite1 hc47))) ?_
        refine xg_t (xg_iload (va := (0, pb)) rfl rfl) ?_
        refine xg_t (xg_iload (va := (0, pa)) rfl rfl) ?_
        refine xg_t (xg_aload (va := (2, 82)) rfl rfl) ?_
        refine xg_t (xg_getf (va := (2, 83)) h82_31 rfl) ?_
        refine xg_t (xg_const) ?_
        refine xg_ialdB (n := 5) (B := 4294967295) h83_34 (hb35) xnm0 (by first | decide | omega) (fun u48 hu49 he50 => ?_)
        have hl51 : u48 ≤ 6 := by rw [← he50]; exact hx36.l5
        refine xg_t (xg_const) ?_
        by_cases hc52 : 1 ≤ u48
        · refine xg_t (xg_isub (u := u48) (v := 1) (z := u48 - 1) xnm0 xnm0 (by omega)) ?_
          refine xg_t (xg_cSr mX12_isIn (vs := [(0, pb), (0, pa), (0, u48 - 1)]) (rest := []) (rs := [(0, if pa ≤ pb ∧ pb ≤ u48 - 1 then 1 else 0)]) (cn1 := 0) (sl1 := 0) rfl (mIsIn (by omega) (by omega) (by omega)) rfl rfl rfl rfl rfl rfl rfl rfl) ?_
          by_cases hc53 : pa ≤ pb ∧ pb ≤ u48 - 1
          · refine xg_t (xg_ifF (u := (if pa ≤ pb ∧ pb ≤ u48 - 1 then 1 else 0)) rfl xnm0 (xj_eqF (xite1 hc53))) ?_
            refine xg_t (xg_iload (va := (0, pc_)) rfl rfl) ?_
            refine xg_t (xg_const) ?_
            refine xg_t (xg_aload (va := (2, 82)) rfl rfl) ?_
            refine xg_t (xg_getf (va := (2, 83)) h82_31 rfl) ?_
            refine xg_t (xg_bip) ?_
            refine xg_ialdB (n := 6) (B := 4294967295) h83_34 (hb35) xnm0 (by first | decide | omega) (fun u54 hu55 he56 => ?_)
            have hl57 : u54 ≤ 6 := by rw [← he56]; exact hx36.l6
            refine xg_t (xg_const) ?_
            by_cases hc58 : 1 ≤ u54
            · refine xg_t (xg_isub (u := u54) (v := 1) (z := u54 - 1) xnm0 xnm0 (by omega)) ?_
              refine xg_t (xg_cSr mX12_isIn (vs := [(0, pc_), (0, 0), (0, u54 - 1)]) (rest := []) (rs := [(0, if 0 ≤ pc_ ∧ pc_ ≤ u54 - 1 then 1 else 0)]) (cn1 := 0) (sl1 := 0) rfl (mIsIn (by omega) (by omega) (by omega)) rfl rfl rfl rfl rfl rfl rfl rfl) ?_
              by_cases hc59 : 0 ≤ pc_ ∧ pc_ ≤ u54 - 1
              · refine xg_t (xg_ifF (u := (if 0 ≤ pc_ ∧ pc_ ≤ u54 - 1 then 1 else 0)) rfl xnm0 (xj_eqF (xite1 hc59))) ?_
                refine xg_t (xg_iload (va := (0, pd)) rfl rfl) ?_
                refine xg_t (xg_iload (va := (0, pc_)) rfl rfl) ?_
                refine xg_t (xg_aload (va := (2, 82)) rfl rfl) ?_
                refine xg_t (xg_getf (va := (2, 83)) h82_31 rfl) ?_
                refine xg_t (xg_bip) ?_
                refine xg_ialdB (n := 6) (B := 4294967295) h83_34 (hb35) xnm0 (by first | decide | omega) (fun u60 hu61 he62 => ?_)
                have hl63 : u60 ≤ 6 := by rw [← he62]; exact hx36.l6
                refine xg_t (xg_const) ?_
                by_cases hc64 : 1 ≤ u60
                · refine xg_t (xg_isub (u := u60) (v := 1) (z := u60 - 1) xnm0 xnm0 (by omega)) ?_
                  refine xg_t (xg_cSr mX12_isIn (vs := [(0, pd), (0, pc_), (0, u60 - 1)]) (rest := []) (rs := [(0, if pc_ ≤ pd ∧ pd ≤ u60 - 1 then 1 else 0)]) (cn1 := 0) (sl1 := 0) rfl (mIsIn (by omega) (by omega) (by omega)) rfl rfl rfl rfl rfl rfl rfl rfl) ?_
                  by_cases hc65 : pc_ ≤ pd ∧ pd ≤ u60 - 1
                  · refine xg_t (xg_ifF (u := (if pc_ ≤ pd ∧ pd ≤ u60 - 1 then 1 else 0)) rfl xnm0 (xj_eqF (xite1 hc65))) ?_
                    refine xg_t (xg_iload (va := (0, pl)) rfl rfl) ?_
                    refine xg_t (xg_const) ?_
                    refine xg_t (xg_bip) ?_
                    refine xg_t (xg_cSr mX12_isIn (vs := [(0, pl), (0, 1), (0, 9)]) (rest := []) (rs := [(0, if 1 ≤ pl ∧ pl ≤ 9 then 1 else 0)]) (cn1 := 0) (sl1 := 0) rfl (mIsIn (by omega) (by omega) (by omega)) rfl rfl rfl rfl rfl rfl rfl rfl) ?_
                    by_cases hc66 : 1 ≤ pl ∧ pl ≤ 9
                    · refine xg_t (xg_ifF (u := (if 1 ≤ pl ∧ pl ≤ 9 then 1 else 0)) rfl xnm0 (xj_eqF (xite1 hc66))) ?_
                      refine xg_t (xg_iload (va := (0, ph)) rfl rfl) ?_
                      refine xg_t (xg_const) ?_
                      refine xg_t (xg_sip) ?_
                      refine xg_t (xg_cSr mX12_isIn (vs := [(0, ph), (0, 1), (0, 999)]) (rest := []) (rs := [(0, if 1 ≤ ph ∧ ph ≤ 999 then 1 else 0)]) (cn1 := 0) (sl1 := 0) rfl (mIsIn (by omega) (by omega) (by omega)) rfl rfl rfl rfl rfl rfl rfl rfl) ?_
                      by_cases hc67 : 1 ≤ ph ∧ ph ≤ 999
                      · refine xg_t (xg_ifT (u := (if 1 ≤ ph ∧ ph ≤ 999 then 1 else 0)) rfl xnm0 (xj_neT (xite1 hc67))) ?_
                        refine xg_t (xg_blq rfl) ?_
                        refine xg_t (xg_sip) ?_
                        refine xg_t (xg_bip) ?_
                        refine xg_t (xg_aload (va := (2, 82)) rfl rfl) ?_
                        refine xg_t (xg_getf (va := (2, 83)) h82_31 rfl) ?_
                        refine xg_t (xg_bip) ?_
                        refine xg_ialdB (n := 10) (B := 4294967295) h83_34 (hb35) xnm0 (by first | decide | omega) (fun u68 hu69 he70 => ?_)
                        have hl71 : u68 ≤ 12 := by rw [← he70]; exact hx36.l10
                        refine xg_t (xg_imul (u := 6) (v := u68) (z := 6 * u68) xnm0 xnm0 (by omega)) ?_
                        refine xg_t (xg_iadd (u := 300) (v := 6 * u68) (z := 300 + (6 * u68)) xnm0 xnm0 (by omega)) ?_
                        refine xg_t (xg_istore (l1 := [(0, (2, 82)), (1, (0, pa)), (2, (0, pb)), (3, (0, pc_)), (4, (0, pd)), (5, (0, pl)), (6, (0, ph))]) rfl rfl rfl) ?_
                        refine xg_t (xg_aload (va := (2, 82)) rfl rfl) ?_
                        refine xg_t (xg_getf (va := (2, 83)) h82_31 rfl) ?_
                        refine xg_t (xg_iload (va := (0, 300 + (6 * u68))) rfl rfl) ?_
                        refine xg_t (xg_iload (va := (0, pa)) rfl rfl) ?_
                        refine xg_iastK (n := 300 + (6 * u68)) (u := pa) h83_34 xnm0 xnm0 rfl (by omega) (fun w72 hr73 hb74 => ?_)
                        have hx75 : okA (fun j => if j = 300 + (6 * u68) then pa else g83_33 j) := hx36.upd (by omega) (by omega) (by omega) (fun _ => by omega) (by omega) (fun _ => by omega) (fun _ => by omega) (fun _ => by omega) (fun _ => by omega) (by omega) (fun _ _ => by omega)
                        have hb76 : ∀ j, (fun j => if j = 300 + (6 * u68) then pa else g83_33 j) j ≤ 4294967295 := xrb (by omega) (hb35)
                        obtain ⟨g77, hg78⟩ : ∃ g : Nat → Nat, g = (fun j => if j = 300 + (6 * u68) then pa else g83_33 j) := ⟨_, rfl⟩
                        rw [← hg78] at hr73
                        have he79 : g77 (300 + (6 * u68)) = pa := by rw [hg78]; exact if_pos rfl
                        have hk80 : ∀ j, j ≠ 300 + (6 * u68) → g77 j = g83_33 j := fun j hj => by rw [hg78]; exact if_neg hj
                        rw [← hg78] at hx75
                        rw [← hg78] at hb76
                        have hk81 : g77 10 = g83_33 10 := hk80 10 (by omega)
                        refine xg_t (xg_aload (va := (2, 82)) rfl rfl) ?_
                        refine xg_t (xg_getf (va := (2, 83)) (hb74.get (by decide) h82_31) rfl) ?_
                        refine xg_t (xg_iload (va := (0, 300 + (6 * u68))) rfl rfl) ?_
                        refine xg_t (xg_const) ?_
                        refine xg_t (xg_iadd (u := 300 + (6 * u68)) (v := 1) (z := (300 + (6 * u68)) + 1) xnm0 xnm0 (by omega)) ?_
                        refine xg_t (xg_iload (va := (0, pb)) rfl rfl) ?_
                        refine xg_iastK (n := (300 + (6 * u68)) + 1) (u := pb) hr73 xnm0 xnm0 rfl (by omega) (fun w82 hr83 hb84 => ?_)
                        have hx85 : okA (fun j => if j = (300 + (6 * u68)) + 1 then pb else g77 j) := hx75.upd (by omega) (by omega) (by omega) (fun _ => by omega) (by omega) (fun _ => by omega) (fun _ => by omega) (fun _ => by omega) (fun _ => by omega) (by omega) (fun _ _ => by omega)
                        have hb86 : ∀ j, (fun j => if j = (300 + (6 * u68)) + 1 then pb else g77 j) j ≤ 4294967295 := xrb (by omega) (hb76)
                        obtain ⟨g87, hg88⟩ : ∃ g : Nat → Nat, g = (fun j => if j = (300 + (6 * u68)) + 1 then pb else g77 j) := ⟨_, rfl⟩
                        rw [← hg88] at hr83
                        have he89 : g87 ((300 + (6 * u68)) + 1) = pb := by rw [hg88]; exact if_pos rfl
                        have hk90 : ∀ j, j ≠ (300 + (6 * u68)) + 1 → g87 j = g77 j := fun j hj => by rw [hg88]; exact if_neg hj
                        rw [← hg88] at hx85
                        rw [← hg88] at hb86
                        have hk91 : g87 10 = g77 10 := hk90 10 (by omega)
                        refine xg_t (xg_aload (va := (2, 82)) rfl rfl) ?_
                        refine xg_t (xg_getf (va := (2, 83)) (hb84.get (by decide) (hb74.get (by decide) h82_31)) rfl) ?_
                        refine xg_t (xg_iload (va := (0, 300 + (6 * u68))) rfl rfl) ?_
                        refine xg_t (xg_const) ?_
                        refine xg_t (xg_iadd (u := 300 + (6 * u68)) (v := 2) (z := (300 + (6 * u68)) + 2) xnm0 xnm0 (by omega)) ?_
                        refine xg_t (xg_iload (va := (0, pc_)) rfl rfl) ?_
                        refine xg_iastK (n := (300 + (6 * u68)) + 2) (u := pc_) hr83 xnm0 xnm0 rfl (by omega) (fun w92 hr93 hb94 => ?_)
                        have hx95 : okA (fun j => if j = (300 + (6 * u68)) + 2 then pc_ else g87 j) := hx85.upd (by omega) (by omega) (by omega) (fun _ => by omega) (by omega) (fun _ => by omega) (fun _ => by omega) (fun _ => by omega) (fun _ => by omega) (by omega) (fun _ _ => by omega)
                        have hb96 : ∀ j, (fun j => if j = (300 + (6 * u68)) + 2 then pc_ else g87 j) j ≤ 4294967295 := xrb (by omega) (hb86)
                        obtain ⟨g97, hg98⟩ : ∃ g : Nat → Nat, g = (fun j => if j = (300 + (6 * u68)) + 2 then pc_ else g87 j) := ⟨_, rfl⟩
                        rw [← hg98] at hr93
                        have he99 : g97 ((300 + (6 * u68)) + 2) = pc_ := by rw [hg98]; exact if_pos rfl
                        have hk100 : ∀ j, j ≠ (300 + (6 * u68)) + 2 → g97 j = g87 j := fun j hj => by rw [hg98]; exact if_neg hj
                        rw [← hg98] at hx95
                        rw [← hg98] at hb96
                        have hk101 : g97 10 = g87 10 := hk100 10 (by omega)
                        refine xg_t (xg_aload (va := (2, 82)) rfl rfl) ?_
                        refine xg_t (xg_getf (va := (2, 83)) (hb94.get (by decide) (hb84.get (by decide) (hb74.get (by decide) h82_31))) rfl) ?_
                        refine xg_t (xg_iload (va := (0, 300 + (6 * u68))) rfl rfl) ?_
                        refine xg_t (xg_const) ?_
                        refine xg_t (xg_iadd (u := 300 + (6 * u68)) (v := 3) (z := (300 + (6 * u68)) + 3) xnm0 xnm0 (by omega)) ?_
                        refine xg_t (xg_iload (va := (0, pd)) rfl rfl) ?_
                        refine xg_iastK (n := (300 + (6 * u68)) + 3) (u := pd) hr93 xnm0 xnm0 rfl (by omega) (fun w102 hr103 hb104 => ?_)
                        have hx105 : okA (fun j => if j = (300 + (6 * u68)) + 3 then pd else g97 j) := hx95.upd (by omega) (by omega) (by omega) (fun _ => by omega) (by omega) (fun _ => by omega) (fun _ => by omega) (fun _ => by omega) (fun _ => by omega) (by omega) (fun _ _ => by omega)
                        have hb106 : ∀ j, (fun j => if j = (300 + (6 * u68)) + 3 then pd else g97 j) j ≤ 4294967295 := xrb (by omega) (hb96)
                        obtain ⟨g107, hg108⟩ : ∃ g : Nat → Nat, g = (fun j => if j = (300 + (6 * u68)) + 3 then pd else g97 j) := ⟨_, rfl⟩
                        rw [← hg108] at hr103
                        have he109 : g107 ((300 + (6 * u68)) + 3) = pd := by rw [hg108]; exact if_pos rfl
                        have hk110 : ∀ j, j ≠ (300 + (6 * u68)) + 3 → g107 j = g97 j := fun j hj => by rw [hg108]; exact if_neg hj
                        rw [← hg108] at hx105
                        rw [← hg108] at hb106
                        have hk111 : g107 10 = g97 10 := hk110 10 (by omega)
                        refine xg_t (xg_aload (va := (2, 82)) rfl rfl) ?_
                        refine xg_t (xg_getf (va := (2, 83)) (hb104.get (by decide) (hb94.get (by decide) (hb84.get (by decide) (hb74.get (by decide) h82_31)))) rfl) ?_
                        refine xg_t (xg_iload (va := (0, 300 + (6 * u68))) rfl rfl) ?_
                        refine xg_t (xg_const) ?_
                        refine xg_t (xg_iadd (u := 300 + (6 * u68)) (v := 4) (z := (300 + (6 * u68)) + 4) xnm0 xnm0 (by omega)) ?_
                        refine xg_t (xg_iload (va := (0, pl)) rfl rfl) ?_
                        refine xg_iastK (n := (300 + (6 * u68)) + 4) (u := pl) hr103 xnm0 xnm0 rfl (by omega) (fun w112 hr113 hb114 => ?_)
                        have hx115 : okA (fun j => if j = (300 + (6 * u68)) + 4 then pl else g107 j) := hx105.upd (by omega) (by omega) (by omega) (fun _ => by omega) (by omega) (fun _ => by omega) (fun _ => by omega) (fun _ => by omega) (fun _ => by omega) (by omega) (fun _ _ => by omega)
                        have hb116 : ∀ j, (fun j => if j = (300 + (6 * u68)) + 4 then pl else g107 j) j ≤ 4294967295 := xrb (by omega) (hb106)
                        obtain ⟨g117, hg118⟩ : ∃ g : Nat → Nat, g = (fun j => if j = (300 + (6 * u68)) + 4 then pl else g107 j) := ⟨_, rfl⟩
                        rw [← hg118] at hr113
                        have he119 : g117 ((300 + (6 * u68)) + 4) = pl := by rw [hg118]; exact if_pos rfl
                        have hk120 : ∀ j, j ≠ (300 + (6 * u68)) + 4 → g117 j = g107 j := fun j hj => by rw [hg118]; exact if_neg hj
                        rw [← hg118] at hx115
                        rw [← hg118] at hb116
                        have hk121 : g117 10 = g107 10 := hk120 10 (by omega)
                        refine xg_t (xg_aload (va := (2, 82)) rfl rfl) ?_
                        refine xg_t (xg_getf (va := (2, 83)) (hb114.get (by decide) (hb104.get (by decide) (hb94.get (by decide) (hb84.get (by decide) (hb74.get (by decide) h82_31))))) rfl) ?_
                        refine xg_t (xg_iload (va := (0, 300 + (6 * u68))) rfl rfl) ?_
                        refine xg_t (xg_const) ?_
                        refine xg_t (xg_iadd (u := 300 + (6 * u68)) (v := 5) (z := (300 + (6 * u68)) + 5) xnm0 xnm0 (by omega)) ?_
                        refine xg_t (xg_iload (va := (0, ph)) rfl rfl) ?_
                        refine xg_iastK (n := (300 + (6 * u68)) + 5) (u := ph) hr113 xnm0 xnm0 rfl (by omega) (fun w122 hr123 hb124 => ?_)
                        have hx125 : okA (fun j => if j = (300 + (6 * u68)) + 5 then ph else g117 j) := hx115.upd (by omega) (by omega) (by omega) (fun _ => by omega) (by omega) (fun _ => by omega) (fun _ => by omega) (fun _ => by omega) (fun _ => by omega) (by omega) (fun _ _ => by omega)
                        have hb126 : ∀ j, (fun j => if j = (300 + (6 * u68)) + 5 then ph else g117 j) j ≤ 4294967295 := xrb (by omega) (hb116)
                        obtain ⟨g127, hg128⟩ : ∃ g : Nat → Nat, g = (fun j => if j = (300 + (6 * u68)) + 5 then ph else g117 j) := ⟨_, rfl⟩
                        rw [← hg128] at hr123
                        have he129 : g127 ((300 + (6 * u68)) + 5) = ph := by rw [hg128]; exact if_pos rfl
                        have hk130 : ∀ j, j ≠ (300 + (6 * u68)) + 5 → g127 j = g117 j := fun j hj => by rw [hg128]; exact if_neg hj
                        rw [← hg128] at hx125
                        rw [← hg128] at hb126
                        have hk131 : g127 10 = g117 10 := hk130 10 (by omega)
                        refine xg_t (xg_aload (va := (2, 82)) rfl rfl) ?_
                        refine xg_t (xg_getf (va := (2, 83)) (hb124.get (by decide) (hb114.get (by decide) (hb104.get (by decide) (hb94.get (by decide) (hb84.get (by decide) (hb74.get (by decide) h82_31)))))) rfl) ?_
                        refine xg_t (xg_bip) ?_
                        refine xg_t (xg_dup2 rfl) ?_
                        refine xg_ialdB (n := 10) (B := 4294967295) hr123 (hb126) xnm0 (by first | decide | omega) (fun u132 hu133 he134 => ?_)
                        have hl135 : u132 ≤ 12 := by rw [← he134]; exact hx125.l10
                        refine xg_t (xg_const) ?_
                        refine xg_t (xg_iadd (u := u132) (v := 1) (z := u132 + 1) xnm0 xnm0 (by omega)) ?_
                        refine xg_iastK (n := 10) (u := u132 + 1) hr123 xnm0 xnm0 rfl (by first | decide | omega) (fun w136 hr137 hb138 => ?_)
                        have hp140 : g127 (300 + 6 * u68 + 0) ≤ 5 := by
                          have e : 300 + 6 * u68 + 0 = 300 + (6 * u68) := by omega
                          rw [e, hk130 _ (by omega), hk120 _ (by omega), hk110 _ (by omega), hk100 _ (by omega), hk90 _ (by omega), he79]; omega
                        have hp141 : g127 (300 + 6 * u68 + 1) ≤ 5 := by
                          have e : 300 + 6 * u68 + 1 = (300 + (6 * u68)) + 1 := by omega
                          rw [e, hk130 _ (by omega), hk120 _ (by omega), hk110 _ (by omega), hk100 _ (by omega), he89]; omega
                        have hp142 : g127 (300 + 6 * u68 + 2) ≤ 5 := by
                          have e : 300 + 6 * u68 + 2 = (300 + (6 * u68)) + 2 := by omega
                          rw [e, hk130 _ (by omega), hk120 _ (by omega), hk110 _ (by omega), he99]; omega
                        have hp143 : g127 (300 + 6 * u68 + 3) ≤ 5 := by
                          have e : 300 + 6 * u68 + 3 = (300 + (6 * u68)) + 3 := by omega
                          rw [e, hk130 _ (by omega), hk120 _ (by omega), he109]; omega
                        have hp144 : g127 10 = u68 := by rw [hk130 10 (by omega), hk120 10 (by omega), hk110 10 (by omega), hk100 10 (by omega), hk90 10 (by omega), hk80 10 (by omega)]; omega
                        have hp145 : ∀ p t, p < u132 + 1 → t < 4 → g127 (300 + 6 * p + t) ≤ 5 := by
                          intro p t hp ht
                          by_cases z : p < u68
                          · exact hx125.pic (by omega) ht
                          · have e : p = u68 := by omega
                            subst e
                            rcases (show t = 0 ∨ t = 1 ∨ t = 2 ∨ t = 3 by omega) with rfl | rfl | rfl | rfl
                            · exact hp140
                            · exact hp141
                            · exact hp142
                            · exact hp143
                        have hx139 : okA (fun j => if j = 10 then u132 + 1 else g127 j) := hx125.updP (by omega) hp145
                        have hb146 : ∀ j, (fun j => if j = 10 then u132 + 1 else g127 j) j ≤ 4294967295 := xrb (by omega) (hb126)
                        obtain ⟨g147, hg148⟩ : ∃ g : Nat → Nat, g = (fun j => if j = 10 then u132 + 1 else g127 j) := ⟨_, rfl⟩
                        rw [← hg148] at hr137
                        have he149 : g147 10 = u132 + 1 := by rw [hg148]; exact if_pos rfl
                        have hk150 : ∀ j, j ≠ 10 → g147 j = g127 j := fun j hj => by rw [hg148]; exact if_neg hj
                        rw [← hg148] at hx139
                        rw [← hg148] at hb146
                        refine xg_t (xg_aload (va := (2, 82)) rfl rfl) ?_
                        refine xg_t (xg_getf (va := (2, 83)) (hb138.get (by decide) (hb124.get (by decide) (hb114.get (by decide) (hb104.get (by decide) (hb94.get (by decide) (hb84.get (by decide) (hb74.get (by decide) h82_31))))))) rfl) ?_
                        refine xg_t (xg_bip) ?_
                        refine xg_ialdB (n := 10) (B := 4294967295) hr137 (hb146) xnm0 (by first | decide | omega) (fun u151 hu152 he153 => ?_)
                        have hl154 : u151 ≤ 12 := by rw [← he153]; exact hx139.l10
                        exact xg_e ⟨u151, w136, ⟨rfl, rfl⟩, ⟨by omega, fun j hj h => (rwv_of hr137 h).trans (Eq.trans (by rw [hk150 j (by omega), hk130 j (by omega), hk120 j (by omega), hk110 j (by omega), hk100 j (by omega), hk90 j (by omega), hk80 j (by omega)]) (rwv_of h83_34 h).symm)⟩, xMnv.up (S := [83]) hI (((((((xFr.of (S := [83]) hb74 (by decide)).tr (xFr.of (S := [83]) hb84 (by decide))).tr (xFr.of (S := [83]) hb94 (by decide))).tr (xFr.of (S := [83]) hb104 (by decide))).tr (xFr.of (S := [83]) hb114 (by decide))).tr (xFr.of (S := [83]) hb124 (by decide))).tr (xFr.of (S := [83]) hb138 (by decide))) (List.forall_mem_cons.mpr ⟨xqu83 (show cpx83 (wget w136 83) from ⟨_, hr137, hb146, hx139⟩), fun _ h => absurd h List.not_mem_nil⟩), (((((((xFr.of (S := [83]) hb74 (by decide)).tr (xFr.of (S := [83]) hb84 (by decide))).tr (xFr.of (S := [83]) hb94 (by decide))).tr (xFr.of (S := [83]) hb104 (by decide))).tr (xFr.of (S := [83]) hb114 (by decide))).tr (xFr.of (S := [83]) hb124 (by decide))).tr (xFr.of (S := [83]) hb138 (by decide)))⟩
                      · refine xg_t (xg_ifF (u := (if 1 ≤ ph ∧ ph ≤ 999 then 1 else 0)) rfl xnm0 (xj_neF (xite0 hc67))) ?_
                        refine xg_t (xg_blq rfl) ?_
                        refine xg_t (xg_const) ?_
                        exact xg_e ⟨4294967295, w, ⟨rfl, rfl⟩, ⟨by omega, fun j _ h => (rwv_of h83_34 h).trans (rwv_of h83_34 h).symm⟩, hI, xFr.rf⟩
                    · refine xg_t (xg_ifT (u := (if 1 ≤ pl ∧ pl ≤ 9 then 1 else 0)) rfl xnm0 (xj_eqT (xite0 hc66))) ?_
                      refine xg_t (xg_blq rfl) ?_
                      refine xg_t (xg_const) ?_
                      exact xg_e ⟨4294967295, w, ⟨rfl, rfl⟩, ⟨by omega, fun j _ h => (rwv_of h83_34 h).trans (rwv_of h83_34 h).symm⟩, hI, xFr.rf⟩
                  · refine xg_t (xg_ifT (u := (if pc_ ≤ pd ∧ pd ≤ u60 - 1 then 1 else 0)) rfl xnm0 (xj_eqT (xite0 hc65))) ?_
                    refine xg_t (xg_blq rfl) ?_
                    refine xg_t (xg_const) ?_
                    exact xg_e ⟨4294967295, w, ⟨rfl, rfl⟩, ⟨by omega, fun j _ h => (rwv_of h83_34 h).trans (rwv_of h83_34 h).symm⟩, hI, xFr.rf⟩
                · have hz157 : 4294967295 ≤ (u60 + (4294967296 - 1)) % 4294967296 := by omega
                  refine xg_t (xg_isub (u := u60) (v := 1) (z := (u60 + (4294967296 - 1)) % 4294967296) xnm0 xnm0 rfl) ?_
                  have hz156 : (u60 + (4294967296 - 1)) % 4294967296 < 4294967296 := Nat.mod_lt _ (by decide)
                  generalize (u60 + (4294967296 - 1)) % 4294967296 = z155 at hz157 hz156 ⊢
                  refine xg_t (xg_cSr mX12_isIn (vs := [(0, pd), (0, pc_), (0, z155)]) (rest := []) (rs := [(0, 0)]) (cn1 := 0) (sl1 := 0) rfl (mIsInN (by omega) (by omega) (by omega) (by omega)) rfl rfl rfl rfl rfl rfl rfl rfl) ?_
                  refine xg_t (xg_ifT (u := 0) rfl xnm0 (by decide)) ?_
                  refine xg_t (xg_blq rfl) ?_
                  refine xg_t (xg_const) ?_
                  exact xg_e ⟨4294967295, w, ⟨rfl, rfl⟩, ⟨by omega, fun j _ h => (rwv_of h83_34 h).trans (rwv_of h83_34 h).symm⟩, hI, xFr.rf⟩
              · refine xg_t (xg_ifT (u := (if 0 ≤ pc_ ∧ pc_ ≤ u54 - 1 then 1 else 0)) rfl xnm0 (xj_eqT (xite0 hc59))) ?_
                refine xg_t (xg_blq rfl) ?_
                refine xg_t (xg_const) ?_
                exact xg_e ⟨4294967295, w, ⟨rfl, rfl⟩, ⟨by omega, fun j _ h => (rwv_of h83_34 h).trans (rwv_of h83_34 h).symm⟩, hI, xFr.rf⟩
            · have hz160 : 4294967295 ≤ (u54 + (4294967296 - 1)) % 4294967296 := by omega
              refine xg_t (xg_isub (u := u54) (v := 1) (z := (u54 + (4294967296 - 1)) % 4294967296) xnm0 xnm0 rfl) ?_
              have hz159 : (u54 + (4294967296 - 1)) % 4294967296 < 4294967296 := Nat.mod_lt _ (by decide)
              generalize (u54 + (4294967296 - 1)) % 4294967296 = z158 at hz160 hz159 ⊢
              refine xg_t (xg_cSr mX12_isIn (vs := [(0, pc_), (0, 0), (0, z158)]) (rest := []) (rs := [(0, 0)]) (cn1 := 0) (sl1 := 0) rfl (mIsInN (by omega) (by omega) (by omega) (by omega)) rfl rfl rfl rfl rfl rfl rfl rfl) ?_
              refine xg_t (xg_ifT (u := 0) rfl xnm0 (by decide)) ?_
              refine xg_t (xg_blq rfl) ?_
              refine xg_t (xg_const) ?_
              exact xg_e ⟨4294967295, w, ⟨rfl, rfl⟩, ⟨by omega, fun j _ h => (rwv_of h83_34 h).trans (rwv_of h83_34 h).symm⟩, hI, xFr.rf⟩
          · refine xg_t (xg_ifT (u := (if pa ≤ pb ∧ pb ≤ u48 - 1 then 1 else 0)) rfl xnm0 (xj_eqT (xite0 hc53))) ?_
            refine xg_t (xg_blq rfl) ?_
            refine xg_t (xg_const) ?_
            exact xg_e ⟨4294967295, w, ⟨rfl, rfl⟩, ⟨by omega, fun j _ h => (rwv_of h83_34 h).trans (rwv_of h83_34 h).symm⟩, hI, xFr.rf⟩
        · have hz163 : 4294967295 ≤ (u48 + (4294967296 - 1)) % 4294967296 := by omega
          refine xg_t (xg_isub (u := u48) (v := 1) (z := (u48 + (4294967296 - 1)) % 4294967296) xnm0 xnm0 rfl) ?_
          have hz162 : (u48 + (4294967296 - 1)) % 4294967296 < 4294967296 := Nat.mod_lt _ (by decide)
          generalize (u48 + (4294967296 - 1)) % 4294967296 = z161 at hz163 hz162 ⊢
          refine xg_t (xg_cSr mX12_isIn (vs := [(0, pb), (0, pa), (0, z161)]) (rest := []) (rs := [(0, 0)]) (cn1 := 0) (sl1 := 0) rfl (mIsInN (by omega) (by omega) (by omega) (by omega)) rfl rfl rfl rfl rfl rfl rfl rfl) ?_
          refine xg_t (xg_ifT (u := 0) rfl xnm0 (by decide)) ?_
          refine xg_t (xg_blq rfl) ?_
          refine xg_t (xg_const) ?_
          exact xg_e ⟨4294967295, w, ⟨rfl, rfl⟩, ⟨by omega, fun j _ h => (rwv_of h83_34 h).trans (rwv_of h83_34 h).symm⟩, hI, xFr.rf⟩
      · refine xg_t (xg_ifT (u := (if 0 ≤ pa ∧ pa ≤ u42 - 1 then 1 else 0)) rfl xnm0 (xj_eqT (xite0 hc47))) ?_
        refine xg_t (xg_blq rfl) ?_
        refine xg_t (xg_const) ?_
        exact xg_e ⟨4294967295, w, ⟨rfl, rfl⟩, ⟨by omega, fun j _ h => (rwv_of h83_34 h).trans (rwv_of h83_34 h).symm⟩, hI, xFr.rf⟩
    · have hz166 : 4294967295 ≤ (u42 + (4294967296 - 1)) % 4294967296 := by omega
      refine xg_t (xg_isub (u := u42) (v := 1) (z := (u42 + (4294967296 - 1)) % 4294967296) xnm0 xnm0 rfl) ?_
      have hz165 : (u42 + (4294967296 - 1)) % 4294967296 < 4294967296 := Nat.mod_lt _ (by decide)
      generalize (u42 + (4294967296 - 1)) % 4294967296 = z164 at hz166 hz165 ⊢
      refine xg_t (xg_cSr mX12_isIn (vs := [(0, pa), (0, 0), (0, z164)]) (rest := []) (rs := [(0, 0)]) (cn1 := 0) (sl1 := 0) rfl (mIsInN (by omega) (by omega) (by omega) (by omega)) rfl rfl rfl rfl rfl rfl rfl rfl) ?_
      refine xg_t (xg_ifT (u := 0) rfl xnm0 (by decide)) ?_
      refine xg_t (xg_blq rfl) ?_
      refine xg_t (xg_const) ?_
      exact xg_e ⟨4294967295, w, ⟨rfl, rfl⟩, ⟨by omega, fun j _ h => (rwv_of h83_34 h).trans (rwv_of h83_34 h).symm⟩, hI, xFr.rf⟩
theorem mFeedX {fa fb fc_ fd fe : Nat} (hI : xMnv w) (hfa : fa ≤ 4294967295) (hfb : fb ≤ 4294967295) (hfc_ : fc_ ≤ 4294967295) (hfd : fd ≤ 4294967295) (hfe : fe ≤ 4294967295) : xPi d mX12_feed [(2, 82), (0, fa), (0, fb), (0, fc_), (0, fd), (0, fe)] w bd fc rr (fun n w' => (((n = rwv w 83 15 + 20 ∧ rwv w 83 15 ≤ 480 ∧ rwv w' 83 15 = rwv w 83 15 + 20) ∨ (n = 4294967295 ∧ ¬ rwv w 83 15 ≤ 480 ∧ rwv w' 83 15 = rwv w 83 15)) ∧ (∀ j, (j ≠ 15 ∧ (j < 400 ∨ 900 ≤ j)) → j < 5360 → rwv w' 83 j = rwv w 83 j)) ∧ xMnv w' ∧ xFr [83] w w') := by
  refine xPi.of ?_
  show xTo d mX12_feed (0, [], [(0, (2, 82)), (1, (0, fa)), (2, (0, fb)), (3, (0, fc_)), (4, (0, fd)), (5, (0, fe))], [], (w, bd, fc, 0, 0, rr)) (fun φ => ∃ n w', xEnd 1 [(0, n)] (w', bd, fc, 0, 0, rr) φ ∧ (((n = rwv w 83 15 + 20 ∧ rwv w 83 15 ≤ 480 ∧ rwv w' 83 15 = rwv w 83 15 + 20) ∨ (n = 4294967295 ∧ ¬ rwv w 83 15 ≤ 480 ∧ rwv w' 83 15 = rwv w 83 15)) ∧ (∀ j, (j ≠ 15 ∧ (j < 400 ∨ 900 ≤ j)) → j < 5360 → rwv w' 83 j = rwv w 83 j)) ∧ xMnv w' ∧ xFr [83] w w')
  refine xoCh82 (xqc82 hI : cp82 (wget w 82)) (fun f82_1 f82_3 f82_5 f82_7 f82_9 f82_11 f82_13 f82_15 f82_17 f82_19 f82_21 f82_22 f82_23 f82_25 f82_27 f82_29 h82_31 hb2 hb4 hb6 hb8 hb10 hb12 hb14 hb16 hb18 hb20 hb24 hb26 hb28 hb30 hb32 => ?_)
  refine xoX83 (xqc83 hI : cpx83 (wget w 83)) (fun g83_33 h83_34 hb35 hx36 => ?_)
  refine xg_t (xg_blq rfl) ?_
  refine xg_t (xg_aload (va := (2, 82)) rfl rfl) ?_
  refine xg_t (xg_getf (va := (2, 83)) h82_31 rfl) ?_
  refine xg_t (xg_bip) ?_
  refine xg_ialdB (n := 15) (B := 4294967295) h83_34 (hb35) xnm0 (by first | decide | omega) (fun u37 hu38 he39 => ?_)
  have hl40 : u37 ≤ 500 := by rw [← he39]; exact hx36.l15
  refine xg_t (xg_bip) ?_
  refine xg_t (xg_iadd (u := u37) (v := 20) (z := u37 + 20) xnm0 xnm0 (by omega)) ?_
  refine xg_t (xg_sip) ?_
  by_cases hc41 : 500 < (u37 + 20)
  · refine xg_t (xg_icF (u := u37 + 20) (v := 500) rfl xnm0 xnm0 (xj_leF hc41 (by omega))) ?_
    refine xg_t (xg_const) ?_
    have hq42 : rwv w 83 15 = g83_33 15 := rwv_of h83_34 (by decide)
    have hq43 : g83_33 15 ≤ 500 := hx36.l15
    have hq44 : rwv w 83 15 = g83_33 15 := rwv_of h83_34 (by decide)
    exact xg_e ⟨4294967295, w, ⟨rfl, rfl⟩, ⟨by omega, fun j _ h => (rwv_of h83_34 h).trans (rwv_of h83_34 h).symm⟩, hI, xFr.rf⟩
  · refine xg_t (xg_icT (u := u37 + 20) (v := 500) rfl xnm0 xnm0 (xj_leT (by omega) (by omega))) ?_
    refine xg_t (xg_blq rfl) ?_
    refine xg_t (xg_const) ?_
    refine xg_t (xg_istore (l1 := [(0, (2, 82)), (1, (0, fa)), (2, (0, fb)), (3, (0, fc_)), (4, (0, fd)), (5, (0, fe))]) rfl rfl rfl) ?_
    refine xg_t (xg_drop (l1 := [(0, (2, 82)), (1, (0, fa)), (2, (0, fb)), (3, (0, fc_)), (4, (0, fd)), (5, (0, fe)), (6, (0, 0))]) (List.forall_mem_cons.mpr ⟨List.mem_cons_of_mem _ (List.mem_cons_self), List.forall_mem_cons.mpr ⟨List.mem_cons_of_mem _ (List.mem_cons_of_mem _ (List.mem_cons_self)), List.forall_mem_cons.mpr ⟨List.mem_cons_of_mem _ (List.mem_cons_of_mem _ (List.mem_cons_of_mem _ (List.mem_cons_self))), List.forall_mem_cons.mpr ⟨List.mem_cons_of_mem _ (List.mem_cons_of_mem _ (List.mem_cons_of_mem _ (List.mem_cons_of_mem _ (List.mem_cons_self)))), List.forall_mem_cons.mpr ⟨List.mem_cons_of_mem _ (List.mem_cons_of_mem _ (List.mem_cons_of_mem _ (List.mem_cons_of_mem _ (List.mem_cons_of_mem _ (List.mem_cons_self))))), List.forall_mem_cons.mpr ⟨List.mem_cons_of_mem _ (List.mem_cons_of_mem _ (List.mem_cons_of_mem _ (List.mem_cons_of_mem _ (List.mem_cons_of_mem _ (List.mem_cons_of_mem _ (List.mem_cons_self)))))), List.forall_mem_cons.mpr ⟨List.mem_cons_self, fun _ h => absurd h List.not_mem_nil⟩⟩⟩⟩⟩⟩⟩)) ?_
    have key45 : ∀ (m47 : Nat) (ii : Nat) (w48 : List (List xE)), 20 - ii < m47 → ii ≤ 20 → xMnv w48 → xFr [83] w w48 → (∃ f : Nat → Nat, xRow w48 83 5360 50 f ∧ (f 15 = g83_33 15 + ii ∧ g83_33 15 + 20 ≤ 500 ∧ ∀ j, j < 5360 → (j ≠ 15 ∧ (j < 400 ∨ 900 ≤ j)) → f j = g83_33 j)) → xTo d mX12_feed (21, [], [(0, (2, 82)), (1, (0, fa)), (2, (0, fb)), (3, (0, fc_)), (4, (0, fd)), (5, (0, fe)), (6, (0, ii))], [], (w48, bd, fc, 0, 0, rr)) (fun φ => ∃ n w', xEnd 1 [(0, n)] (w', bd, fc, 0, 0, rr) φ ∧ (((n = rwv w 83 15 + 20 ∧ rwv w 83 15 ≤ 480 ∧ rwv w' 83 15 = rwv w 83 15 + 20) ∨ (n = 4294967295 ∧ ¬ rwv w 83 15 ≤ 480 ∧ rwv w' 83 15 = rwv w 83 15)) ∧ (∀ j, (j ≠ 15 ∧ (j < 400 ∨ 900 ≤ j)) → j < 5360 → rwv w' 83 j = rwv w 83 j)) ∧ xMnv w' ∧ xFr [83] w w') := by
      intro m47
      induction m47 with
      | zero => intro ii w48 hz; exact absurd hz (Nat.not_lt_zero _)
      | succ m47 ih46 =>
        intro ii w48 hm53 hn51 hI49 hF50 he52
        refine xoX83 (xqc83 hI49 : cpx83 (wget w48 83)) (fun g83_54 h83_55 hb56 hx57 => ?_)
        obtain ⟨g58, hr59, he60, he61, he62⟩ := he52
        have hd63 : g58 15 = g83_54 15 := xRow.det hr59 h83_55 15 (by omega)
        have hk64 : ∀ j, j < 5360 → (j ≠ 15 ∧ (j < 400 ∨ 900 ≤ j)) → g83_54 j = g83_33 j := fun j hl hj => (xRow.det h83_55 hr59 j hl).trans (he62 j hl hj)
        refine xg_t (xg_blq rfl) ?_
        refine xg_t (xg_iload (va := (0, ii)) rfl rfl) ?_
        refine xg_t (xg_bip) ?_
        by_cases hc65 : ii < 20
        · refine xg_t (xg_icF (u := ii) (v := 20) rfl xnm0 xnm0 (xj_geF hc65 (by omega))) ?_
          refine xg_t (xg_iload (va := (0, ii)) rfl rfl) ?_
          refine xg_t (xg_const) ?_
          by_cases hc66 : ii < 4
          · refine xg_t (xg_icF (u := ii) (v := 4) rfl xnm0 xnm0 (xj_geF hc66 (by omega))) ?_
            refine xg_t (xg_iload (va := (0, fa)) rfl rfl) ?_
            refine xg_t (xg_goto) ?_
            refine xg_t (xg_blq rfl) ?_
            refine xg_t (xg_istore (l1 := [(0, (2, 82)), (1, (0, fa)), (2, (0, fb)), (3, (0, fc_)), (4, (0, fd)), (5, (0, fe)), (6, (0, ii))]) rfl rfl rfl) ?_
            refine xg_t (xg_aload (va := (2, 82)) rfl rfl) ?_
            refine xg_t (xg_getf (va := (2, 83)) (hF50.get (by decide) h82_31) rfl) ?_
            refine xg_t (xg_sip) ?_
            refine xg_t (xg_aload (va := (2, 82)) rfl rfl) ?_
            refine xg_t (xg_getf (va := (2, 83)) (hF50.get (by decide) h82_31) rfl) ?_
            refine xg_t (xg_bip) ?_
            refine xg_ialdB (n := 15) (B := 4294967295) h83_55 (hb56) xnm0 (by first | decide | omega) (fun u67 hu68 he69 => ?_)
            have hl70 : u67 ≤ 500 := by rw [← he69]; exact hx57.l15
            refine xg_t (xg_iadd (u := 400) (v := u67) (z := 400 + u67) xnm0 xnm0 (by omega)) ?_
            refine xg_t (xg_iload (va := (0, fa)) rfl rfl) ?_
            refine xg_t (xg_bip) ?_
            refine xg_t (xg_bip) ?_
            refine xg_t (xg_iload (va := (0, ii)) rfl rfl) ?_
            refine xg_t (xg_const) ?_
            refine xg_t (xg_irem (u := ii) (v := 4) (z := ii % 4) xnm0 xnm0 (by omega) (by decide) (by decide) (rfl)) ?_
            refine xg_t (xg_imul (u := 8) (v := ii % 4) (z := 8 * (ii % 4)) xnm0 xnm0 (by omega)) ?_
            refine xg_t (xg_isub (u := 24) (v := 8 * (ii % 4)) (z := 24 - (8 * (ii % 4))) xnm0 xnm0 (by omega)) ?_
            refine xg_k (xg_ishrG (u := fa) (v := 24 - (8 * (ii % 4))) xnm0 xnm0) (xpt_lt _) (fun z71 hz72 => ?_)
            refine xg_t (xg_sip) ?_
            refine xg_k (xg_iand (z := Nat.land z71 255) (u := z71) (v := 255) xnm0 xnm0 rfl) (xland_lt (by omega)) (fun z73 hz74 => ?_)
            refine xg_iastK (n := 400 + u67) (u := z73) h83_55 xnm0 xnm0 rfl (by omega) (fun w75 hr76 hb77 => ?_)
            have hx78 : okA (fun j => if j = 400 + u67 then z73 else g83_54 j) := hx57.upd (by omega) (by omega) (by omega) (fun _ => by omega) (by omega) (fun _ => by omega) (fun _ => by omega) (fun _ => by omega) (fun _ => by omega) (by omega) (fun _ _ => by omega)
            have hb79 : ∀ j, (fun j => if j = 400 + u67 then z73 else g83_54 j) j ≤ 4294967295 := xrb (by omega) (hb56)
            obtain ⟨g80, hg81⟩ : ∃ g : Nat → Nat, g = (fun j => if j = 400 + u67 then z73 else g83_54 j) := ⟨_, rfl⟩
            rw [← hg81] at hr76
            have he82 : g80 (400 + u67) = z73 := by rw [hg81]; exact if_pos rfl
            have hk83 : ∀ j, j ≠ 400 + u67 → g80 j = g83_54 j := fun j hj => by rw [hg81]; exact if_neg hj
            rw [← hg81] at hx78
            rw [← hg81] at hb79
            have hk84 : g80 15 = g83_54 15 := hk83 15 (by omega)
            refine xg_t (xg_aload (va := (2, 82)) rfl rfl) ?_
            refine xg_t (xg_getf (va := (2, 83)) (hb77.get (by decide) (hF50.get (by decide) h82_31)) rfl) ?_
            refine xg_t (xg_bip) ?_
            refine xg_t (xg_dup2 rfl) ?_
            refine xg_ialdB (n := 15) (B := 4294967295) hr76 (hb79) xnm0 (by first | decide | omega) (fun u85 hu86 he87 => ?_)
            have hl88 : u85 ≤ 500 := by rw [← he87]; exact hx78.l15
            refine xg_t (xg_const) ?_
            refine xg_t (xg_iadd (u := u85) (v := 1) (z := u85 + 1) xnm0 xnm0 (by omega)) ?_
            refine xg_iastK (n := 15) (u := u85 + 1) hr76 xnm0 xnm0 rfl (by first | decide | omega) (fun w89 hr90 hb91 => ?_)
            have hx92 : okA (fun j => if j = 15 then u85 + 1 else g80 j) := hx78.upd (by omega) (by omega) (by omega) (fun _ => by omega) (by omega) (fun _ => by omega) (fun _ => by omega) (fun _ => by omega) (fun _ => by omega) (by omega) (fun _ _ => by omega)
            have hb93 : ∀ j, (fun j => if j = 15 then u85 + 1 else g80 j) j ≤ 4294967295 := xrb (by omega) (hb79)
            obtain ⟨g94, hg95⟩ : ∃ g : Nat → Nat, g = (fun j => if j = 15 then u85 + 1 else g80 j) := ⟨_, rfl⟩
            rw [← hg95] at hr90
            have he96 : g94 15 = u85 + 1 := by rw [hg95]; exact if_pos rfl
            have hk97 : ∀ j, j ≠ 15 → g94 j = g80 j := fun j hj => by rw [hg95]; exact if_neg hj
            rw [← hg95] at hx92
            rw [← hg95] at hb93
            refine xg_t (xg_iinc (u := ii) (z := ii + 1) (l1 := [(7, (0, fa)), (0, (2, 82)), (1, (0, fa)), (2, (0, fb)), (3, (0, fc_)), (4, (0, fd)), (5, (0, fe))]) rfl rfl (by omega) rfl) ?_
            refine xg_t (xg_goto) ?_
            refine xg_t (xg_drop (l1 := [(0, (2, 82)), (1, (0, fa)), (2, (0, fb)), (3, (0, fc_)), (4, (0, fd)), (5, (0, fe)), (6, (0, ii + 1))]) (List.forall_mem_cons.mpr ⟨List.mem_cons_of_mem _ (List.mem_cons_of_mem _ (List.mem_cons_self)), List.forall_mem_cons.mpr ⟨List.mem_cons_of_mem _ (List.mem_cons_of_mem _ (List.mem_cons_of_mem _ (List.mem_cons_self))), List.forall_mem_cons.mpr ⟨List.mem_cons_of_mem _ (List.mem_cons_of_mem _ (List.mem_cons_of_mem _ (List.mem_cons_of_mem _ (List.mem_cons_self)))), List.forall_mem_cons.mpr ⟨List.mem_cons_of_mem _ (List.mem_cons_of_mem _ (List.mem_cons_of_mem _ (List.mem_cons_of_mem _ (List.mem_cons_of_mem _ (List.mem_cons_self))))), List.forall_mem_cons.mpr ⟨List.mem_cons_of_mem _ (List.mem_cons_of_mem _ (List.mem_cons_of_mem _ (List.mem_cons_of_mem _ (List.mem_cons_of_mem _ (List.mem_cons_of_mem _ (List.mem_cons_self)))))), List.forall_mem_cons.mpr ⟨List.mem_cons_of_mem _ (List.mem_cons_of_mem _ (List.mem_cons_of_mem _ (List.mem_cons_of_mem _ (List.mem_cons_of_mem _ (List.mem_cons_of_mem _ (List.mem_cons_of_mem _ (List.mem_cons_self))))))), List.forall_mem_cons.mpr ⟨List.mem_cons_self, fun _ h => absurd h List.not_mem_nil⟩⟩⟩⟩⟩⟩⟩)) ?_
            exact ih46 (ii + 1) w89 (by omega) (by omega) (xMnv.up (S := [83]) hI49 ((xFr.of (S := [83]) hb77 (by decide)).tr (xFr.of (S := [83]) hb91 (by decide))) (List.forall_mem_cons.mpr ⟨xqu83 (show cpx83 (wget w89 83) from ⟨_, hr90, hb93, hx92⟩), fun _ h => absurd h List.not_mem_nil⟩)) ((hF50.tr ((xFr.of (S := [83]) hb77 (by decide)).tr (xFr.of (S := [83]) hb91 (by decide))))) (⟨_, hr90, by omega, by omega, fun j hl hj => by rw [hk97 j (by omega), hk83 j (by omega)]; exact hk64 j hl hj⟩)
          · refine xg_t (xg_icT (u := ii) (v := 4) rfl xnm0 xnm0 (xj_geT (by omega) (by omega))) ?_
            refine xg_t (xg_blq rfl) ?_
            refine xg_t (xg_iload (va := (0, ii)) rfl rfl) ?_
            refine xg_t (xg_bip) ?_
            by_cases hc98 : ii < 8
            · refine xg_t (xg_icF (u := ii) (v := 8) rfl xnm0 xnm0 (xj_geF hc98 (by omega))) ?_
              refine xg_t (xg_iload (va := (0, fb)) rfl rfl) ?_
              refine xg_t (xg_goto) ?_
              refine xg_t (xg_blq rfl) ?_
              refine xg_t (xg_istore (l1 := [(0, (2, 82)), (1, (0, fa)), (2, (0, fb)), (3, (0, fc_)), (4, (0, fd)), (5, (0, fe)), (6, (0, ii))]) rfl rfl rfl) ?_
              refine xg_t (xg_aload (va := (2, 82)) rfl rfl) ?_
              refine xg_t (xg_getf (va := (2, 83)) (hF50.get (by decide) h82_31) rfl) ?_
              refine xg_t (xg_sip) ?_
              refine xg_t (xg_aload (va := (2, 82)) rfl rfl) ?_
              refine xg_t (xg_getf (va := (2, 83)) (hF50.get (by decide) h82_31) rfl) ?_
              refine xg_t (xg_bip) ?_
              refine xg_ialdB (n := 15) (B := 4294967295) h83_55 (hb56) xnm0 (by first | decide | omega) (fun u99 hu100 he101 => ?_)
              have hl102 : u99 ≤ 500 := by rw [← he101]; exact hx57.l15
              refine xg_t (xg_iadd (u := 400) (v := u99) (z := 400 + u99) xnm0 xnm0 (by omega)) ?_
              refine xg_t (xg_iload (va := (0, fb)) rfl rfl) ?_
              refine xg_t (xg_bip) ?_
              refine xg_t (xg_bip) ?_
              refine xg_t (xg_iload (va := (0, ii)) rfl rfl) ?_
              refine xg_t (xg_const) ?_
              refine xg_t (xg_irem (u := ii) (v := 4) (z := ii % 4) xnm0 xnm0 (by omega) (by decide) (by decide) (rfl)) ?_
              refine xg_t (xg_imul (u := 8) (v := ii % 4) (z := 8 * (ii % 4)) xnm0 xnm0 (by omega)) ?_
              refine xg_t (xg_isub (u := 24) (v := 8 * (ii % 4)) (z := 24 - (8 * (ii % 4))) xnm0 xnm0 (by omega)) ?_
              refine xg_k (xg_ishrG (u := fb) (v := 24 - (8 * (ii % 4))) xnm0 xnm0) (xpt_lt _) (fun z103 hz104 => ?_)
              refine xg_t (xg_sip) ?_
              refine xg_k (xg_iand (z := Nat.land z103 255) (u := z103) (v := 255) xnm0 xnm0 rfl) (xland_lt (by omega)) (fun z105 hz106 => ?_)
              refine xg_iastK (n := 400 + u99) (u := z105) h83_55 xnm0 xnm0 rfl (by omega) (fun w107 hr108 hb109 => ?_)
              have hx110 : okA (fun j => if j = 400 + u99 then z105 else g83_54 j) := hx57.upd (by omega) (by omega) (by omega) (fun _ => by omega) (by omega) (fun _ => by omega) (fun _ => by omega) (fun _ => by omega) (fun _ => by omega) (by omega) (fun _ _ => by omega)
              have hb111 : ∀ j, (fun j => if j = 400 + u99 then z105 else g83_54 j) j ≤ 4294967295 := xrb (by omega) (hb56)
              obtain ⟨g112, hg113⟩ : ∃ g : Nat → Nat, g = (fun j => if j = 400 + u99 then z105 else g83_54 j) := ⟨_, rfl⟩
              rw [← hg113] at hr108
              have he114 : g112 (400 + u99) = z105 := by rw [hg113]; exact if_pos rfl
              have hk115 : ∀ j, j ≠ 400 + u99 → g112 j = g83_54 j := fun j hj => by rw [hg113]; exact if_neg hj
              rw [← hg113] at hx110
              rw [← hg113] at hb111
              have hk116 : g112 15 = g83_54 15 := hk115 15 (by omega)
              refine xg_t (xg_aload (va := (2, 82)) rfl rfl) ?_
              refine xg_t (xg_getf (va := (2, 83)) (hb109.get (by decide) (hF50.get (by decide) h82_31)) rfl) ?_
              refine xg_t (xg_bip) ?_
              refine xg_t (xg_dup2 rfl) ?_
              refine xg_ialdB (n := 15) (B := 4294967295) hr108 (hb111) xnm0 (by first | decide | omega) (fun u117 hu118 he119 => ?_)
              have hl120 : u117 ≤ 500 := by rw [← he119]; exact hx110.l15
              refine xg_t (xg_const) ?_
              refine xg_t (xg_iadd (u := u117) (v := 1) (z := u117 + 1) xnm0 xnm0 (by omega)) ?_
              refine xg_iastK (n := 15) (u := u117 + 1) hr108 xnm0 xnm0 rfl (by first | decide | omega) (fun w121 hr122 hb123 => ?_)
              have hx124 : okA (fun j => if j = 15 then u117 + 1 else g112 j) := hx110.upd (by omega) (by omega) (by omega) (fun _ => by omega) (by omega) (fun _ => by omega) (fun _ => by omega) (fun _ => by omega) (fun _ => by omega) (by omega) (fun _ _ => by omega)
              have hb125 : ∀ j, (fun j => if j = 15 then u117 + 1 else g112 j) j ≤ 4294967295 := xrb (by omega) (hb111)
              obtain ⟨g126, hg127⟩ : ∃ g : Nat → Nat, g = (fun j => if j = 15 then u117 + 1 else g112 j) := ⟨_, rfl⟩
              rw [← hg127] at hr122
              have he128 : g126 15 = u117 + 1 := by rw [hg127]; exact if_pos rfl
              have hk129 : ∀ j, j ≠ 15 → g126 j = g112 j := fun j hj => by rw [hg127]; exact if_neg hj
              rw [← hg127] at hx124
              rw [← hg127] at hb125
              refine xg_t (xg_iinc (u := ii) (z := ii + 1) (l1 := [(7, (0, fb)), (0, (2, 82)), (1, (0, fa)), (2, (0, fb)), (3, (0, fc_)), (4, (0, fd)), (5, (0, fe))]) rfl rfl (by omega) rfl) ?_
              refine xg_t (xg_goto) ?_
              refine xg_t (xg_drop (l1 := [(0, (2, 82)), (1, (0, fa)), (2, (0, fb)), (3, (0, fc_)), (4, (0, fd)), (5, (0, fe)), (6, (0, ii + 1))]) (List.forall_mem_cons.mpr ⟨List.mem_cons_of_mem _ (List.mem_cons_of_mem _ (List.mem_cons_self)), List.forall_mem_cons.mpr ⟨List.mem_cons_of_mem _ (List.mem_cons_of_mem _ (List.mem_cons_of_mem _ (List.mem_cons_self))), List.forall_mem_cons.mpr ⟨List.mem_cons_of_mem _ (List.mem_cons_of_mem _ (List.mem_cons_of_mem _ (List.mem_cons_of_mem _ (List.mem_cons_self)))), List.forall_mem_cons.mpr ⟨List.mem_cons_of_mem _ (List.mem_cons_of_mem _ (List.mem_cons_of_mem _ (List.mem_cons_of_mem _ (List.mem_cons_of_mem _ (List.mem_cons_self))))), List.forall_mem_cons.mpr ⟨List.mem_cons_of_mem _ (List.mem_cons_of_mem _ (List.mem_cons_of_mem _ (List.mem_cons_of_mem _ (List.mem_cons_of_mem _ (List.mem_cons_of_mem _ (List.mem_cons_self)))))), List.forall_mem_cons.mpr ⟨List.mem_cons_of_mem _ (List.mem_cons_of_mem _ (List.mem_cons_of_mem _ (List.mem_cons_of_mem _ (List.mem_cons_of_mem _ (List.mem_cons_of_mem _ (List.mem_cons_of_mem _ (List.mem_cons_self))))))), List.forall_mem_cons.mpr ⟨List.mem_cons_self, fun _ h => absurd h List.not_mem_nil⟩⟩⟩⟩⟩⟩⟩)) ?_
              exact ih46 (ii + 1) w121 (by omega) (by omega) (xMnv.up (S := [83]) hI49 ((xFr.of (S := [83]) hb109 (by decide)).tr (xFr.of (S := [83]) hb123 (by decide))) (List.forall_mem_cons.mpr ⟨xqu83 (show cpx83 (wget w121 83) from ⟨_, hr122, hb125, hx124⟩), fun _ h => absurd h List.not_mem_nil⟩)) ((hF50.tr ((xFr.of (S := [83]) hb109 (by decide)).tr (xFr.of (S := [83]) hb123 (by decide))))) (⟨_, hr122, by omega, by omega, fun j hl hj => by rw [hk129 j (by omega), hk115 j (by omega)]; exact hk64 j hl hj⟩)
            · refine xg_t (xg_icT (u := ii) (v := 8) rfl xnm0 xnm0 (xj_geT (by omega) (by omega))) ?_
              refine xg_t (xg_blq rfl) ?_
              refine xg_t (xg_iload (va := (0, ii)) rfl rfl) ?_
              refine xg_t (xg_bip) ?_
              by_cases hc130 : ii < 12
              · refine xg_t (xg_icF (u := ii) (v := 12) rfl xnm0 xnm0 (xj_geF hc130 (by omega))) ?_
                refine xg_t (xg_iload (va := (0, fc_)) rfl rfl) ?_
                refine xg_t (xg_goto) ?_
                refine xg_t (xg_blq rfl) ?_
                refine xg_t (xg_istore (l1 := [(0, (2, 82)), (1, (0, fa)), (2, (0, fb)), (3, (0, fc_)), (4, (0, fd)), (5, (0, fe)), (6, (0, ii))]) rfl rfl rfl) ?_
                refine xg_t (xg_aload (va := (2, 82)) rfl rfl) ?_
                refine xg_t (xg_getf (va := (2, 83)) (hF50.get (by decide) h82_31) rfl) ?_
                refine xg_t (xg_sip) ?_
                refine xg_t (xg_aload (va := (2, 82)) rfl rfl) ?_
                refine xg_t (xg_getf (va := (2, 83)) (hF50.get (by decide) h82_31) rfl) ?_
                refine xg_t (xg_bip) ?_
                refine xg_ialdB (n := 15) (B := 4294967295) h83_55 (hb56) xnm0 (by first | decide | omega) (fun u131 hu132 he133 => ?_)
                have hl134 : u131 ≤ 500 := by rw [← he133]; exact hx57.l15
                refine xg_t (xg_iadd (u := 400) (v := u131) (z := 400 + u131) xnm0 xnm0 (by omega)) ?_
                refine xg_t (xg_iload (va := (0, fc_)) rfl rfl) ?_
                refine xg_t (xg_bip) ?_
                refine xg_t (xg_bip) ?_
                refine xg_t (xg_iload (va := (0, ii)) rfl rfl) ?_
                refine xg_t (xg_const) ?_
                refine xg_t (xg_irem (u := ii) (v := 4) (z := ii % 4) xnm0 xnm0 (by omega) (by decide) (by decide) (rfl)) ?_
                refine xg_t (xg_imul (u := 8) (v := ii % 4) (z := 8 * (ii % 4)) xnm0 xnm0 (by omega)) ?_
                refine xg_t (xg_isub (u := 24) (v := 8 * (ii % 4)) (z := 24 - (8 * (ii % 4))) xnm0 xnm0 (by omega)) ?_
                refine xg_k (xg_ishrG (u := fc_) (v := 24 - (8 * (ii % 4))) xnm0 xnm0) (xpt_lt _) (fun z135 hz136 => ?_)
                refine xg_t (xg_sip) ?_
                refine xg_k (xg_iand (z := Nat.land z135 255) (u := z135) (v := 255) xnm0 xnm0 rfl) (xland_lt (by omega)) (fun z137 hz138 => ?_)
                refine xg_iastK (n := 400 + u131) (u := z137) h83_55 xnm0 xnm0 rfl (by omega) (fun w139 hr140 hb141 => ?_)
                have hx142 : okA (fun j => if j = 400 + u131 then z137 else g83_54 j) := hx57.upd (by omega) (by omega) (by omega) (fun _ => by omega) (by omega) (fun _ => by omega) (fun _ => by omega) (fun _ => by omega) (fun _ => by omega) (by omega) (fun _ _ => by omega)
                have hb143 : ∀ j, (fun j => if j = 400 + u131 then z137 else g83_54 j) j ≤ 4294967295 := xrb (by omega) (hb56)
                obtain ⟨g144, hg145⟩ : ∃ g : Nat → Nat, g = (fun j => if j = 400 + u131 then z137 else g83_54 j) := ⟨_, rfl⟩
                rw [← hg145] at hr140
                have he146 : g144 (400 + u131) = z137 := by rw [hg145]; exact if_pos rfl
                have hk147 : ∀ j, j ≠ 400 + u131 → g144 j = g83_54 j := fun j hj => by rw [hg145]; exact if_neg hj
                rw [← hg145] at hx142
                rw [← hg145] at hb143
                have hk148 : g144 15 = g83_54 15 := hk147 15 (by omega)
                refine xg_t (xg_aload (va := (2, 82)) rfl rfl) ?_
                refine xg_t (xg_getf (va := (2, 83)) (hb141.get (by decide) (hF50.get (by decide) h82_31)) rfl) ?_
                refine xg_t (xg_bip) ?_
                refine xg_t (xg_dup2 rfl) ?_
                refine xg_ialdB (n := 15) (B := 4294967295) hr140 (hb143) xnm0 (by first | decide | omega) (fun u149 hu150 he151 => ?_)
                have hl152 : u149 ≤ 500 := by rw [← he151]; exact hx142.l15
                refine xg_t (xg_const) ?_
                refine xg_t (xg_iadd (u := u149) (v := 1) (z := u149 + 1) xnm0 xnm0 (by omega)) ?_
                refine xg_iastK (n := 15) (u := u149 + 1) hr140 xnm0 xnm0 rfl (by first | decide | omega) (fun w153 hr154 hb155 => ?_)
                have hx156 : okA (fun j => if j = 15 then u149 + 1 else g144 j) := hx142.upd (by omega) (by omega) (by omega) (fun _ => by omega) (by omega) (fun _ => by omega) (fun _ => by omega) (fun _ => by omega) (fun _ => by omega) (by omega) (fun _ _ => by omega)
                have hb157 : ∀ j, (fun j => if j = 15 then u149 + 1 else g144 j) j ≤ 4294967295 := xrb (by omega) (hb143)
                obtain ⟨g158, hg159⟩ : ∃ g : Nat → Nat, g = (fun j => if j = 15 then u149 + 1 else g144 j) := ⟨_, rfl⟩
                rw [← hg159] at hr154
                have he160 : g158 15 = u149 + 1 := by rw [hg159]; exact if_pos rfl
                have hk161 : ∀ j, j ≠ 15 → g158 j = g144 j := fun j hj => by rw [hg159]; exact if_neg hj
                rw [← hg159] at hx156
                rw [← hg159] at hb157
                refine xg_t (xg_iinc (u := ii) (z := ii + 1) (l1 := [(7, (0, fc_)), (0, (2, 82)), (1, (0, fa)), (2, (0, fb)), (3, (0, fc_)), (4, (0, fd)), (5, (0, fe))]) rfl rfl (by omega) rfl) ?_
                refine xg_t (xg_goto) ?_
                refine xg_t (xg_drop (l1 := [(0, (2, 82)), (1, (0, fa)), (2, (0, fb)), (3, (0, fc_)), (4, (0, fd)), (5, (0, fe)), (6, (0, ii + 1))]) (List.forall_mem_cons.mpr ⟨List.mem_cons_of_mem _ (List.mem_cons_of_mem _ (List.mem_cons_self)), List.forall_mem_cons.mpr ⟨List.mem_cons_of_mem _ (List.mem_cons_of_mem _ (List.mem_cons_of_mem _ (List.mem_cons_self))), List.forall_mem_cons.mpr ⟨List.mem_cons_of_mem _ (List.mem_cons_of_mem _ (List.mem_cons_of_mem _ (List.mem_cons_of_mem _ (List.mem_cons_self)))), List.forall_mem_cons.mpr ⟨List.mem_cons_of_mem _ (List.mem_cons_of_mem _ (List.mem_cons_of_mem _ (List.mem_cons_of_mem _ (List.mem_cons_of_mem _ (List.mem_cons_self))))), List.forall_mem_cons.mpr ⟨List.mem_cons_of_mem _ (List.mem_cons_of_mem _ (List.mem_cons_of_mem _ (List.mem_cons_of_mem _ (List.mem_cons_of_mem _ (List.mem_cons_of_mem _ (List.mem_cons_self)))))), List.forall_mem_cons.mpr ⟨List.mem_cons_of_mem _ (List.mem_cons_of_mem _ (List.mem_cons_of_mem _ (List.mem_cons_of_mem _ (List.mem_cons_of_mem _ (List.mem_cons_of_mem _ (List.mem_cons_of_mem _ (List.mem_cons_self))))))), List.forall_mem_cons.mpr ⟨List.mem_cons_self, fun _ h => absurd h List.not_mem_nil⟩⟩⟩⟩⟩⟩⟩)) ?_
                exact ih46 (ii + 1) w153 (by omega) (by omega) (xMnv.up (S := [83]) hI49 ((xFr.of (S := [83]) hb141 (by decide)).tr (xFr.of (S := [83]) hb155 (by decide))) (List.forall_mem_cons.mpr ⟨xqu83 (show cpx83 (wget w153 83) from ⟨_, hr154, hb157, hx156⟩), fun _ h => absurd h List.not_mem_nil⟩)) ((hF50.tr ((xFr.of (S := [83]) hb141 (by decide)).tr (xFr.of (S := [83]) hb155 (by decide))))) (⟨_, hr154, by omega, by omega, fun j hl hj => by rw [hk161 j (by omega), hk147 j (by omega)]; exact hk64 j hl hj⟩)
              · refine xg_t (xg_icT (u := ii) (v := 12) rfl xnm0 xnm0 (xj_geT (by omega) (by omega))) ?_
                refine xg_t (xg_blq rfl) ?_
                refine xg_t (xg_iload (va := (0, ii)) rfl rfl) ?_
                refine xg_t (xg_bip) ?_
                by_cases hc162 : ii < 16
                · refine xg_t (xg_icF (u := ii) (v := 16) rfl xnm0 xnm0 (xj_geF hc162 (by omega))) ?_
                  refine xg_t (xg_iload (va := (0, fd)) rfl rfl) ?_
                  refine xg_t (xg_goto) ?_
                  refine xg_t (xg_blq rfl) ?_
                  refine xg_t (xg_istore (l1 := [(0, (2, 82)), (1, (0, fa)), (2, (0, fb)), (3, (0, fc_)), (4, (0, fd)), (5, (0, fe)), (6, (0, ii))]) rfl rfl rfl) ?_
                  refine xg_t (xg_aload (va := (2, 82)) rfl rfl) ?_
                  refine xg_t (xg_getf (va := (2, 83)) (hF50.get (by decide) h82_31) rfl) ?_
                  refine xg_t (xg_sip) ?_
                  refine xg_t (xg_aload (va := (2, 82)) rfl rfl) ?_
                  refine xg_t (xg_getf (va := (2, 83)) (hF50.get (by decide) h82_31) rfl) ?_
                  refine xg_t (xg_bip) ?_
                  refine xg_ialdB (n := 15) (B := 4294967295) h83_55 (hb56) xnm0 (by first | decide | omega) (fun u163 hu164 he165 => ?_)
                  have hl166 : u163 ≤ 500 := by rw [← he165]; exact hx57.l15
                  refine xg_t (xg_iadd (u := 400) (v := u163) (z := 400 + u163) xnm0 xnm0 (by omega)) ?_
                  refine xg_t (xg_iload (va := (0, fd)) rfl rfl) ?_
                  refine xg_t (xg_bip) ?_
                  refine xg_t (xg_bip) ?_
                  refine xg_t (xg_iload (va := (0, ii)) rfl rfl) ?_
                  refine xg_t (xg_const) ?_
                  refine xg_t (xg_irem (u := ii) (v := 4) (z := ii % 4) xnm0 xnm0 (by omega) (by decide) (by decide) (rfl)) ?_
                  refine xg_t (xg_imul (u := 8) (v := ii % 4) (z := 8 * (ii % 4)) xnm0 xnm0 (by omega)) ?_
                  refine xg_t (xg_isub (u := 24) (v := 8 * (ii % 4)) (z := 24 - (8 * (ii % 4))) xnm0 xnm0 (by omega)) ?_
                  refine xg_k (xg_ishrG (u := fd) (v := 24 - (8 * (ii % 4))) xnm0 xnm0) (xpt_lt _) (fun z167 hz168 => ?_)
                  refine xg_t (xg_sip) ?_
                  refine xg_k (xg_iand (z := Nat.land z167 255) (u := z167) (v := 255) xnm0 xnm0 rfl) (xland_lt (by omega)) (fun z169 hz170 => ?_)
                  refine xg_iastK (n := 400 + u163) (u := z169) h83_55 xnm0 xnm0 rfl (by omega) (fun w171 hr172 hb173 => ?_)
                  have hx174 : okA (fun j => if j = 400 + u163 then z169 else g83_54 j) := hx57.upd (by omega) (by omega) (by omega) (fun _ => by omega) (by omega) (fun _ => by omega) (fun _ => by omega) (fun _ => by omega) (fun _ => by omega) (by omega) (fun _ _ => by omega)
                  have hb175 : ∀ j, (fun j => if j = 400 + u163 then z169 else g83_54 j) j ≤ 4294967295 := xrb (by omega) (hb56)
                  obtain ⟨g176, hg177⟩ : ∃ g : Nat → Nat, g = (fun j => if j = 400 + u163 then z169 else g83_54 j) := ⟨_, rfl⟩
                  rw [← hg177] at hr172
                  have he178 : g176 (400 + u163) = z169 := by rw [hg177]; exact if_pos rfl
                  have hk179 : ∀ j, j ≠ 400 + u163 → g176 j = g83_54 j := fun j hj => by rw [hg177]; exact if_neg hj
                  rw [← hg177] at hx174
                  rw [← hg177] at hb175
                  have hk180 : g176 15 = g83_54 15 := hk179 15 (by omega)
                  refine xg_t (xg_aload (va := (2, 82)) rfl rfl) ?_
                  refine xg_t (xg_getf (va := (2, 83)) (hb173.get (by decide) (hF50.get (by decide) h82_31)) rfl) ?_
                  refine xg_t (xg_bip) ?_
                  refine xg_t (xg_dup2 rfl) ?_
                  refine xg_ialdB (n := 15) (B := 4294967295) hr172 (hb175) xnm0 (by first | decide | omega) (fun u181 hu182 he183 => ?_)
                  have hl184 : u181 ≤ 500 := by rw [← he183]; exact hx174.l15
                  refine xg_t (xg_const) ?_
                  refine xg_t (xg_iadd (u := u181) (v := 1) (z := u181 + 1) xnm0 xnm0 (by omega)) ?_
                  refine xg_iastK (n := 15) (u := u181 + 1) hr172 xnm0 xnm0 rfl (by first | decide | omega) (fun w185 hr186 hb187 => ?_)
                  have hx188 : okA (fun j => if j = 15 then u181 + 1 else g176 j) := hx174.upd (by omega) (by omega) (by omega) (fun _ => by omega) (by omega) (fun _ => by omega) (fun _ => by omega) (fun _ => by omega) (fun _ => by omega) (by omega) (fun _ _ => by omega)
                  have hb189 : ∀ j, (fun j => if j = 15 then u181 + 1 else g176 j) j ≤ 4294967295 := xrb (by omega) (hb175)
                  obtain ⟨g190, hg191⟩ : ∃ g : Nat → Nat, g = (fun j => if j = 15 then u181 + 1 else g176 j) := ⟨_, rfl⟩
                  rw [← hg191] at hr186
                  have he192 : g190 15 = u181 + 1 := by rw [hg191]; exact if_pos rfl
                  have hk193 : ∀ j, j ≠ 15 → g190 j = g176 j := fun j hj => by rw [hg191]; exact if_neg hj
                  rw [← hg191] at hx188
                  rw [← hg191] at hb189
                  refine xg_t (xg_iinc (u := ii) (z := ii + 1) (l1 := [(7, (0, fd)), (0, (2, 82)), (1, (0, fa)), (2, (0, fb)), (3, (0, fc_)), (4, (0, fd)), (5, (0, fe))]) rfl rfl (by omega) rfl) ?_
                  refine xg_t (xg_goto) ?_
                  refine xg_t (xg_drop (l1 := [(0, (2, 82)), (1, (0, fa)), (2, (0, fb)), (3, (0, fc_)), (4, (0, fd)), (5, (0, fe)), (6, (0, ii + 1))]) (List.forall_mem_cons.mpr ⟨List.mem_cons_of_mem _ (List.mem_cons_of_mem _ (List.mem_cons_self)), List.forall_mem_cons.mpr ⟨List.mem_cons_of_mem _ (List.mem_cons_of_mem _ (List.mem_cons_of_mem _ (List.mem_cons_self))), List.forall_mem_cons.mpr ⟨List.mem_cons_of_mem _ (List.mem_cons_of_mem _ (List.mem_cons_of_mem _ (List.mem_cons_of_mem _ (List.mem_cons_self)))), List.forall_mem_cons.mpr ⟨List.mem_cons_of_mem _ (List.mem_cons_of_mem _ (List.mem_cons_of_mem _ (List.mem_cons_of_mem _ (List.mem_cons_of_mem _ (List.mem_cons_self))))), List.forall_mem_cons.mpr ⟨List.mem_cons_of_mem _ (List.mem_cons_of_mem _ (List.mem_cons_of_mem _ (List.mem_cons_of_mem _ (List.mem_cons_of_mem _ (List.mem_cons_of_mem _ (List.mem_cons_self)))))), List.forall_mem_cons.mpr ⟨List.mem_cons_of_mem _ (List.mem_cons_of_mem _ (List.mem_cons_of_mem _ (List.mem_cons_of_mem _ (List.mem_cons_of_mem _ (List.mem_cons_of_mem _ (List.mem_cons_of_mem _ (List.mem_cons_self))))))), List.forall_mem_cons.mpr ⟨List.mem_cons_self, fun _ h => absurd h List.not_mem_nil⟩⟩⟩⟩⟩⟩⟩)) ?_
                  exact ih46 (ii + 1) w185 (by omega) (by omega) (xMnv.up (S := [83]) hI49 ((xFr.of (S := [83]) hb173 (by decide)).tr (xFr.of (S := [83]) hb187 (by decide))) (List.forall_mem_cons.mpr ⟨xqu83 (show cpx83 (wget w185 83) from ⟨_, hr186, hb189, hx188⟩), fun _ h => absurd h List.not_mem_nil⟩)) ((hF50.tr ((xFr.of (S := [83]) hb173 (by decide)).tr (xFr.of (S := [83]) hb187 (by decide))))) (⟨_, hr186, by omega, by omega, fun j hl hj => by rw [hk193 j (by omega), hk179 j (by omega)]; exact hk64 j hl hj⟩)
                · refine xg_t (xg_icT (u := ii) (v := 16) rfl xnm0 xnm0 (xj_geT (by omega) (by omega))) ?_
                  refine xg_t (xg_blq rfl) ?_
                  refine xg_t (xg_iload (va := (0, fe)) rfl rfl) ?_
                  refine xg_t (xg_blq rfl) ?_
                  refine xg_t (xg_istore (l1 := [(0, (2, 82)), (1, (0, fa)), (2, (0, fb)), (3, (0, fc_)), (4, (0, fd)), (5, (0, fe)), (6, (0, ii))]) rfl rfl rfl) ?_
                  refine xg_t (xg_aload (va := (2, 82)) rfl rfl) ?_
                  refine xg_t (xg_getf (va := (2, 83)) (hF50.get (by decide) h82_31) rfl) ?_
                  refine xg_t (xg_sip) ?_
                  refine xg_t (xg_aload (va := (2, 82)) rfl rfl) ?_
                  refine xg_t (xg_getf (va := (2, 83)) (hF50.get (by decide) h82_31) rfl) ?_
                  refine xg_t (xg_bip) ?_
                  refine xg_ialdB (n := 15) (B := 4294967295) h83_55 (hb56) xnm0 (by first | decide | omega) (fun u194 hu195 he196 => ?_)
                  have hl197 : u194 ≤ 500 := by rw [← he196]; exact hx57.l15
                  refine xg_t (xg_iadd (u := 400) (v := u194) (z := 400 + u194) xnm0 xnm0 (by omega)) ?_
                  refine xg_t (xg_iload (va := (0, fe)) rfl rfl) ?_
                  refine xg_t (xg_bip) ?_
                  refine xg_t (xg_bip) ?_
                  refine xg_t (xg_iload (va := (0, ii)) rfl rfl) ?_
                  refine xg_t (xg_const) ?_
                  refine xg_t (xg_irem (u := ii) (v := 4) (z := ii % 4) xnm0 xnm0 (by omega) (by decide) (by decide) (rfl)) ?_
                  refine xg_t (xg_imul (u := 8) (v := ii % 4) (z := 8 * (ii % 4)) xnm0 xnm0 (by omega)) ?_
                  refine xg_t (xg_isub (u := 24) (v := 8 * (ii % 4)) (z := 24 - (8 * (ii % 4))) xnm0 xnm0 (by omega)) ?_
                  refine xg_k (xg_ishrG (u := fe) (v := 24 - (8 * (ii % 4))) xnm0 xnm0) (xpt_lt _) (fun z198 hz199 => ?_)
                  refine xg_t (xg_sip) ?_
                  refine xg_k (xg_iand (z := Nat.land z198 255) (u := z198) (v := 255) xnm0 xnm0 rfl) (xland_lt (by omega)) (fun z200 hz201 => ?_)
                  refine xg_iastK (n := 400 + u194) (u := z200) h83_55 xnm0 xnm0 rfl (by omega) (fun w202 hr203 hb204 => ?_)
                  have hx205 : okA (fun j => if j = 400 + u194 then z200 else g83_54 j) := hx57.upd (by omega) (by omega) (by omega) (fun _ => by omega) (by omega) (fun _ => by omega) (fun _ => by omega) (fun _ => by omega) (fun _ => by omega) (by omega) (fun _ _ => by omega)
                  have hb206 : ∀ j, (fun j => if j = 400 + u194 then z200 else g83_54 j) j ≤ 4294967295 := xrb (by omega) (hb56)
                  obtain ⟨g207, hg208⟩ : ∃ g : Nat → Nat, g = (fun j => if j = 400 + u194 then z200 else g83_54 j) := ⟨_, rfl⟩
                  rw [← hg208] at hr203
                  have he209 : g207 (400 + u194) = z200 := by rw [hg208]; exact if_pos rfl
                  have hk210 : ∀ j, j ≠ 400 + u194 → g207 j = g83_54 j := fun j hj => by rw [hg208]; exact if_neg hj
                  rw [← hg208] at hx205
                  rw [← hg208] at hb206
                  have hk211 : g207 15 = g83_54 15 := hk210 15 (by omega)
                  refine xg_t (xg_aload (va := (2, 82)) rfl rfl) ?_
                  refine xg_t (xg_getf (va := (2, 83)) (hb204.get (by decide) (hF50.get (by decide) h82_31)) rfl) ?_
                  refine xg_t (xg_bip) ?_
                  refine xg_t (xg_dup2 rfl) ?_
                  refine xg_ialdB (n := 15) (B := 4294967295) hr203 (hb206) xnm0 (by first | decide | omega) (fun u212 hu213 he214 => ?_)
                  have hl215 : u212 ≤ 500 := by rw [← he214]; exact hx205.l15
                  refine xg_t (xg_const) ?_
                  refine xg_t (xg_iadd (u := u212) (v := 1) (z := u212 + 1) xnm0 xnm0 (by omega)) ?_
                  refine xg_iastK (n := 15) (u := u212 + 1) hr203 xnm0 xnm0 rfl (by first | decide | omega) (fun w216 hr217 hb218 => ?_)
                  have hx219 : okA (fun j => if j = 15 then u212 + 1 else g207 j) := hx205.upd (by omega) (by omega) (by omega) (fun _ => by omega) (by omega) (fun _ => by omega) (fun _ => by omega) (fun _ => by omega) (fun _ => by omega) (by omega) (fun _ _ => by omega)
                  have hb220 : ∀ j, (fun j => if j = 15 then u212 + 1 else g207 j) j ≤ 4294967295 := xrb (by omega) (hb206)
                  obtain ⟨g221, hg222⟩ : ∃ g : Nat → Nat, g = (fun j => if j = 15 then u212 + 1 else g207 j) := ⟨_, rfl⟩
                  rw [← hg222] at hr217
                  have he223 : g221 15 = u212 + 1 := by rw [hg222]; exact if_pos rfl
                  have hk224 : ∀ j, j ≠ 15 → g221 j = g207 j := fun j hj => by rw [hg222]; exact if_neg hj
                  rw [← hg222] at hx219
                  rw [← hg222] at hb220
                  refine xg_t (xg_iinc (u := ii) (z := ii + 1) (l1 := [(7, (0, fe)), (0, (2, 82)), (1, (0, fa)), (2, (0, fb)), (3, (0, fc_)), (4, (0, fd)), (5, (0, fe))]) rfl rfl (by omega) rfl) ?_
                  refine xg_t (xg_goto) ?_
                  refine xg_t (xg_drop (l1 := [(0, (2, 82)), (1, (0, fa)), (2, (0, fb)), (3, (0, fc_)), (4, (0, fd)), (5, (0, fe)), (6, (0, ii + 1))]) (List.forall_mem_cons.mpr ⟨List.mem_cons_of_mem _ (List.mem_cons_of_mem _ (List.mem_cons_self)), List.forall_mem_cons.mpr ⟨List.mem_cons_of_mem _ (List.mem_cons_of_mem _ (List.mem_cons_of_mem _ (List.mem_cons_self))), List.forall_mem_cons.mpr ⟨List.mem_cons_of_mem _ (List.mem_cons_of_mem _ (List.mem_cons_of_mem _ (List.mem_cons_of_mem _ (List.mem_cons_self)))), List.forall_mem_cons.mpr ⟨List.mem_cons_of_mem _ (List.mem_cons_of_mem _ (List.mem_cons_of_mem _ (List.mem_cons_of_mem _ (List.mem_cons_of_mem _ (List.mem_cons_self))))), List.forall_mem_cons.mpr ⟨List.mem_cons_of_mem _ (List.mem_cons_of_mem _ (List.mem_cons_of_mem _ (List.mem_cons_of_mem _ (List.mem_cons_of_mem _ (List.mem_cons_of_mem _ (List.mem_cons_self)))))), List.forall_mem_cons.mpr ⟨List.mem_cons_of_mem _ (List.mem_cons_of_mem _ (List.mem_cons_of_mem _ (List.mem_cons_of_mem _ (List.mem_cons_of_mem _ (List.mem_cons_of_mem _ (List.mem_cons_of_mem _ (List.mem_cons_self))))))), List.forall_mem_cons.mpr ⟨List.mem_cons_self, fun _ h => absurd h List.not_mem_nil⟩⟩⟩⟩⟩⟩⟩)) ?_
                  exact ih46 (ii + 1) w216 (by omega) (by omega) (xMnv.up (S := [83]) hI49 ((xFr.of (S := [83]) hb204 (by decide)).tr (xFr.of (S := [83]) hb218 (by decide))) (List.forall_mem_cons.mpr ⟨xqu83 (show cpx83 (wget w216 83) from ⟨_, hr217, hb220, hx219⟩), fun _ h => absurd h List.not_mem_nil⟩)) ((hF50.tr ((xFr.of (S := [83]) hb204 (by decide)).tr (xFr.of (S := [83]) hb218 (by decide))))) (⟨_, hr217, by omega, by omega, fun j hl hj => by rw [hk224 j (by omega), hk210 j (by omega)]; exact hk64 j hl hj⟩)
        · refine xg_t (xg_icT (u := ii) (v := 20) rfl xnm0 xnm0 (xj_geT (by omega) (by omega))) ?_
          refine xg_t (xg_blq rfl) ?_
          refine xg_t (xg_aload (va := (2, 82)) rfl rfl) ?_
          refine xg_t (xg_getf (va := (2, 83)) (hF50.get (by decide) h82_31) rfl) ?_
          refine xg_t (xg_bip) ?_
          refine xg_ialdB (n := 15) (B := 4294967295) h83_55 (hb56) xnm0 (by first | decide | omega) (fun u225 hu226 he227 => ?_)
          have hl228 : u225 ≤ 500 := by rw [← he227]; exact hx57.l15
          have hq229 : rwv w 83 15 = g83_33 15 := rwv_of h83_34 (by decide)
          have hq230 : rwv w48 83 15 = g83_54 15 := rwv_of h83_55 (by decide)
          exact xg_e ⟨u225, w48, ⟨rfl, rfl⟩, ⟨by omega, fun j hj h => (rwv_of h83_55 h).trans ((hk64 j h (by omega)).trans (rwv_of h83_34 h).symm)⟩, hI49, hF50⟩
    exact key45 _ 0 w (Nat.lt_succ_self _) (by omega) (hI) (xFr.rf) (⟨_, h83_34, by omega, by omega, fun j _ _ => rfl⟩)
theorem mImageX {kk : Nat} (hI : xMnv w) (hkk : kk ≤ 4294967295) : xPi (d + 1) mX12_image [(2, 82), (0, kk)] w bd fc rr (fun n w' => (((kk ≤ 2 ∧ n = 1) ∨ (¬ kk ≤ 2 ∧ n = 0)) ∧ (∀ j, j < 3 → rwk w' 84 j = if j = kk then 1 else rwk w 84 j) ∧ (∀ i, i < 1340 → kk ≤ 2 → rwv w' 83 (1340 * (kk + 1) + i) = rwv w 83 i) ∧ (∀ j, j < 5360 → (j < 1340 * (kk + 1) ∨ 1340 * (kk + 2) ≤ j) → rwv w' 83 j = rwv w 83 j)) ∧ xMnv w' ∧ xFr [83, 84] w w') := by
  refine xPi.of ?_
  show xTo (d + 1) mX12_image (0, [], [(0, (2, 82)), (1, (0, kk))], [], (w, bd, fc, 0, 0, rr)) (fun φ => ∃ n w', xEnd 4 [(0, n)] (w', bd, fc, 0, 0, rr) φ ∧ (((kk ≤ 2 ∧ n = 1) ∨ (¬ kk ≤ 2 ∧ n = 0)) ∧ (∀ j, j < 3 → rwk w' 84 j = if j = kk then 1 else rwk w 84 j) ∧ (∀ i, i < 1340 → kk ≤ 2 → rwv w' 83 (1340 * (kk + 1) + i) = rwv w 83 i) ∧ (∀ j, j < 5360 → (j < 1340 * (kk + 1) ∨ 1340 * (kk + 2) ≤ j) → rwv w' 83 j = rwv w 83 j)) ∧ xMnv w' ∧ xFr [83, 84] w w')
  refine xoCh82 (xqc82 hI : cp82 (wget w 82)) (fun f82_1 f82_3 f82_5 f82_7 f82_9 f82_11 f82_13 f82_15 f82_17 f82_19 f82_21 f82_22 f82_23 f82_25 f82_27 f82_29 h82_31 hb2 hb4 hb6 hb8 hb10 hb12 hb14 hb16 hb18 hb20 hb24 hb26 hb28 hb30 hb32 => ?_)
  refine xoX83 (xqc83 hI : cpx83 (wget w 83)) (fun g83_33 h83_34 hb35 hx36 => ?_)
  refine xg_t (xg_blq rfl) ?_
  refine xg_t (xg_iload (va := (0, kk)) rfl rfl) ?_
  refine xg_t (xg_const) ?_
  refine xg_t (xg_const) ?_
  refine xg_t (xg_cSr mX12_isIn (vs := [(0, kk), (0, 0), (0, 2)]) (rest := []) (rs := [(0, if 0 ≤ kk ∧ kk ≤ 2 then 1 else 0)]) (cn1 := 0) (sl1 := 0) rfl (mIsIn (by omega) (by omega) (by omega)) rfl rfl rfl rfl rfl rfl rfl rfl) ?_
  by_cases hc37 : 0 ≤ kk ∧ kk ≤ 2
  · refine xg_t (xg_ifT (u := (if 0 ≤ kk ∧ kk ≤ 2 then 1 else 0)) rfl xnm0 (xj_neT (xite1 hc37))) ?_
    refine xg_t (xg_blq rfl) ?_
    rcases (show kk = 0 ∨ kk = 1 ∨ kk = 2 by omega) with rfl | rfl | rfl
    · refine xg_t (xg_aload (va := (2, 82)) rfl rfl) ?_
      refine xg_t (xg_getf (va := (2, 84)) h82_31 rfl) ?_
      refine xg_t (xg_iload (va := (0, 0)) rfl rfl) ?_
      refine xg_t (xg_const) ?_
      obtain ⟨g84_38, h84_39, hb40⟩ := (xqc84 hI : cpK 2 0 3 51 1 (wget w 84))
      have h84_39 : xRk 2 0 w 84 3 51 g84_38 := h84_39
      refine xg_bastZ (n := 0) (u := 1) h84_39 xnm0 xnm0 rfl (by omega) (by omega) (fun w41 hr42 hb43 => ?_)
      refine xg_t (xg_const) ?_
      refine xg_t (xg_istore (l1 := [(0, (2, 82)), (1, (0, 0))]) rfl rfl rfl) ?_
      refine xg_t (xg_drop (l1 := [(0, (2, 82)), (1, (0, 0)), (2, (0, 0))]) (List.forall_mem_cons.mpr ⟨List.mem_cons_of_mem _ (List.mem_cons_self), List.forall_mem_cons.mpr ⟨List.mem_cons_of_mem _ (List.mem_cons_of_mem _ (List.mem_cons_self)), List.forall_mem_cons.mpr ⟨List.mem_cons_self, fun _ h => absurd h List.not_mem_nil⟩⟩⟩)) ?_
      refine cpImg0 1340 0 w41 g83_33 (by decide) (h83_34.but hb43 (by decide)) hb35 (hb43.get (by decide) h82_31) (fun w44 g45 hc46 hc47 hc48 hc49 hc50 => ?_)
      have hx51 : okA g45 := okA.copy hx36 (B := 1340) (by decide) hc49 hc50
      refine xg_t (xg_blq rfl) ?_
      refine xg_t (xg_const) ?_
      exact xg_e ⟨1, w44, ⟨rfl, rfl⟩, ⟨by omega, fun j hj => (rwk_of (hr42.but hc48 (by decide)) hj).trans (by show (if j = 0 then 1 else g84_38 j) = _; rw [rwk_of h84_39 hj]), fun i h _ => (rwv_of hc46 (by omega)).trans ((hc49 i (Nat.zero_le _) h).trans (rwv_of h83_34 (by omega)).symm), fun j h hj => (rwv_of hc46 h).trans ((hc50 j (by omega)).trans (rwv_of h83_34 h).symm)⟩, xMnv.up (S := [84, 83]) hI ((xFr.of (S := [84, 83]) hb43 (by decide)).tr (xFr.of (S := [84, 83]) hc48 (by decide))) (List.forall_mem_cons.mpr ⟨xqu84 (show cpK 2 0 3 51 1 (wget w44 84) from ⟨_, (hr42.but hc48 (by decide)), xrb (by omega) (hb40)⟩), List.forall_mem_cons.mpr ⟨xqu83 (show cpx83 (wget w44 83) from ⟨_, hc46, hc47, hx51⟩), fun _ h => absurd h List.not_mem_nil⟩⟩), ((xFr.of (S := [83, 84]) hb43 (by decide)).tr (xFr.of (S := [83, 84]) hc48 (by decide)))⟩
    · refine xg_t (xg_aload (va := (2, 82)) rfl rfl) ?_
      refine xg_t (xg_getf (va := (2, 84)) h82_31 rfl) ?_
      refine xg_t (xg_iload (va := (0, 1)) rfl rfl) ?_
      refine xg_t (xg_const) ?_
      obtain ⟨g84_52, h84_53, hb54⟩ := (xqc84 hI : cpK 2 0 3 51 1 (wget w 84))
      have h84_53 : xRk 2 0 w 84 3 51 g84_52 := h84_53
      refine xg_bastZ (n := 1) (u := 1) h84_53 xnm0 xnm0 rfl (by omega) (by omega) (fun w55 hr56 hb57 => ?_)
      refine xg_t (xg_const) ?_
      refine xg_t (xg_istore (l1 := [(0, (2, 82)), (1, (0, 1))]) rfl rfl rfl) ?_
      refine xg_t (xg_drop (l1 := [(0, (2, 82)), (1, (0, 1)), (2, (0, 0))]) (List.forall_mem_cons.mpr ⟨List.mem_cons_of_mem _ (List.mem_cons_self), List.forall_mem_cons.mpr ⟨List.mem_cons_of_mem _ (List.mem_cons_of_mem _ (List.mem_cons_self)), List.forall_mem_cons.mpr ⟨List.mem_cons_self, fun _ h => absurd h List.not_mem_nil⟩⟩⟩)) ?_
      refine cpImg1 1340 0 w55 g83_33 (by decide) (h83_34.but hb57 (by decide)) hb35 (hb57.get (by decide) h82_31) (fun w58 g59 hc60 hc61 hc62 hc63 hc64 => ?_)
      have hx65 : okA g59 := okA.copy hx36 (B := 2680) (by decide) hc63 hc64
      refine xg_t (xg_blq rfl) ?_
      refine xg_t (xg_const) ?_
      exact xg_e ⟨1, w58, ⟨rfl, rfl⟩, ⟨by omega, fun j hj => (rwk_of (hr56.but hc62 (by decide)) hj).trans (by show (if j = 1 then 1 else g84_52 j) = _; rw [rwk_of h84_53 hj]), fun i h _ => (rwv_of hc60 (by omega)).trans ((hc63 i (Nat.zero_le _) h).trans (rwv_of h83_34 (by omega)).symm), fun j h hj => (rwv_of hc60 h).trans ((hc64 j (by omega)).trans (rwv_of h83_34 h).symm)⟩, xMnv.up (S := [84, 83]) hI ((xFr.of (S := [84, 83]) hb57 (by decide)).tr (xFr.of (S := [84, 83]) hc62 (by decide))) (List.forall_mem_cons.mpr ⟨xqu84 (show cpK 2 0 3 51 1 (wget w58 84) from ⟨_, (hr56.but hc62 (by decide)), xrb (by omega) (hb54)⟩), List.forall_mem_cons.mpr ⟨xqu83 (show cpx83 (wget w58 83) from ⟨_, hc60, hc61, hx65⟩), fun _ h => absurd h List.not_mem_nil⟩⟩), ((xFr.of (S := [83, 84]) hb57 (by decide)).tr (xFr.of (S := [83, 84]) hc62 (by decide)))⟩
    · refine xg_t (xg_aload (va := (2, 82)) rfl rfl) ?_
      refine xg_t (xg_getf (va := (2, 84)) h82_31 rfl) ?_
      refine xg_t (xg_iload (va := (0, 2)) rfl rfl) ?_
      refine xg_t (xg_const) ?_
      obtain ⟨g84_66, h84_67, hb68⟩ := (xqc84 hI : cpK 2 0 3 51 1 (wget w 84))
      have h84_67 : xRk 2 0 w 84 3 51 g84_66 := h84_67
      refine xg_bastZ (n := 2) (u := 1) h84_67 xnm0 xnm0 rfl (by omega) (by omega) (fun w69 hr70 hb71 => ?_)
      refine xg_t (xg_const) ?_
      refine xg_t (xg_istore (l1 := [(0, (2, 82)), (1, (0, 2))]) rfl rfl rfl) ?_
      refine xg_t (xg_drop (l1 := [(0, (2, 82)), (1, (0, 2)), (2, (0, 0))]) (List.forall_mem_cons.mpr ⟨List.mem_cons_of_mem _ (List.mem_cons_self), List.forall_mem_cons.mpr ⟨List.mem_cons_of_mem _ (List.mem_cons_of_mem _ (List.mem_cons_self)), List.forall_mem_cons.mpr ⟨List.mem_cons_self, fun _ h => absurd h List.not_mem_nil⟩⟩⟩)) ?_
      refine cpImg2 1340 0 w69 g83_33 (by decide) (h83_34.but hb71 (by decide)) hb35 (hb71.get (by decide) h82_31) (fun w72 g73 hc74 hc75 hc76 hc77 hc78 => ?_)
      have hx79 : okA g73 := okA.copy hx36 (B := 4020) (by decide) hc77 hc78
      refine xg_t (xg_blq rfl) ?_
      refine xg_t (xg_const) ?_
      exact xg_e ⟨1, w72, ⟨rfl, rfl⟩, ⟨by omega, fun j hj => (rwk_of (hr70.but hc76 (by decide)) hj).trans (by show (if j = 2 then 1 else g84_66 j) = _; rw [rwk_of h84_67 hj]), fun i h _ => (rwv_of hc74 (by omega)).trans ((hc77 i (Nat.zero_le _) h).trans (rwv_of h83_34 (by omega)).symm), fun j h hj => (rwv_of hc74 h).trans ((hc78 j (by omega)).trans (rwv_of h83_34 h).symm)⟩, xMnv.up (S := [84, 83]) hI ((xFr.of (S := [84, 83]) hb71 (by decide)).tr (xFr.of (S := [84, 83]) hc76 (by decide))) (List.forall_mem_cons.mpr ⟨xqu84 (show cpK 2 0 3 51 1 (wget w72 84) from ⟨_, (hr70.but hc76 (by decide)), xrb (by omega) (hb68)⟩), List.forall_mem_cons.mpr ⟨xqu83 (show cpx83 (wget w72 83) from ⟨_, hc74, hc75, hx79⟩), fun _ h => absurd h List.not_mem_nil⟩⟩), ((xFr.of (S := [83, 84]) hb71 (by decide)).tr (xFr.of (S := [83, 84]) hc76 (by decide)))⟩
  · refine xg_t (xg_ifF (u := (if 0 ≤ kk ∧ kk ≤ 2 then 1 else 0)) rfl xnm0 (xj_neF (xite0 hc37))) ?_
    refine xg_t (xg_const) ?_
    exact xg_e ⟨0, w, ⟨rfl, rfl⟩, ⟨by omega, fun j hj => by rw [if_neg (by omega)], fun i _ h => absurd h (by omega), fun j _ _ => rfl⟩, hI, xFr.rf⟩
theorem mAgainX {kk : Nat} (hI : xMnv w) (hkk : kk ≤ 4294967295) : xPi (d + 1) mX12_again [(2, 82), (0, kk)] w bd fc rr (fun n w' => (((n = 1 ∧ kk ≤ 2 ∧ rwk w 84 kk ≠ 0) ∨ (n = 0 ∧ ¬ (kk ≤ 2 ∧ rwk w 84 kk ≠ 0))) ∧ (n = 1 → ∀ i, i < 1340 → rwv w' 83 i = rwv w 83 (1340 * (kk + 1) + i)) ∧ (∀ j, 1340 ≤ j → j < 5360 → rwv w' 83 j = rwv w 83 j) ∧ (n = 0 → w' = w)) ∧ xMnv w' ∧ xFr [83] w w') := by
  refine xPi.of ?_
  show xTo (d + 1) mX12_again (0, [], [(0, (2, 82)), (1, (0, kk))], [], (w, bd, fc, 0, 0, rr)) (fun φ => ∃ n w', xEnd 4 [(0, n)] (w', bd, fc, 0, 0, rr) φ ∧ (((n = 1 ∧ kk ≤ 2 ∧ rwk w 84 kk ≠ 0) ∨ (n = 0 ∧ ¬ (kk ≤ 2 ∧ rwk w 84 kk ≠ 0))) ∧ (n = 1 → ∀ i, i < 1340 → rwv w' 83 i = rwv w 83 (1340 * (kk + 1) + i)) ∧ (∀ j, 1340 ≤ j → j < 5360 → rwv w' 83 j = rwv w 83 j) ∧ (n = 0 → w' = w)) ∧ xMnv w' ∧ xFr [83] w w')
  refine xoCh82 (xqc82 hI : cp82 (wget w 82)) (fun f82_1 f82_3 f82_5 f82_7 f82_9 f82_11 f82_13 f82_15 f82_17 f82_19 f82_21 f82_22 f82_23 f82_25 f82_27 f82_29 h82_31 hb2 hb4 hb6 hb8 hb10 hb12 hb14 hb16 hb18 hb20 hb24 hb26 hb28 hb30 hb32 => ?_)
  refine xoX83 (xqc83 hI : cpx83 (wget w 83)) (fun g83_33 h83_34 hb35 hx36 => ?_)
  refine xg_t (xg_blq rfl) ?_
  refine xg_t (xg_iload (va := (0, kk)) rfl rfl) ?_
  refine xg_t (xg_const) ?_
  refine xg_t (xg_const) ?_
  refine xg_t (xg_cSr mX12_isIn (vs := [(0, kk), (0, 0), (0, 2)]) (rest := []) (rs := [(0, if 0 ≤ kk ∧ kk ≤ 2 then 1 else 0)]) (cn1 := 0) (sl1 := 0) rfl (mIsIn (by omega) (by omega) (by omega)) rfl rfl rfl rfl rfl rfl rfl rfl) ?_
  by_cases hc37 : 0 ≤ kk ∧ kk ≤ 2
  · refine xg_t (xg_ifF (u := (if 0 ≤ kk ∧ kk ≤ 2 then 1 else 0)) rfl xnm0 (xj_eqF (xite1 hc37))) ?_
    rcases (show kk = 0 ∨ kk = 1 ∨ kk = 2 by omega) with rfl | rfl | rfl
    · refine xg_t (xg_aload (va := (2, 82)) rfl rfl) ?_
      refine xg_t (xg_getf (va := (2, 84)) h82_31 rfl) ?_
      refine xg_t (xg_iload (va := (0, 0)) rfl rfl) ?_
      obtain ⟨g84_38, h84_39, hb40⟩ := (xqc84 hI : cpK 2 0 3 51 1 (wget w 84))
      have h84_39 : xRk 2 0 w 84 3 51 g84_38 := h84_39
      refine xg_baldB (n := 0) (B := 1) h84_39 rfl (hb40) xnm0 (by omega) (fun u41 hu42 he43 => ?_)
      by_cases hc44 : u41 = 0
      · refine xg_t (xg_ifF (u := u41) rfl xnm0 (xj_neF hc44)) ?_
        refine xg_t (xg_blq rfl) ?_
        refine xg_t (xg_const) ?_
        have hq45 := rwk_of h84_39 (show 0 < 3 by decide)
        exact xg_e ⟨0, w, ⟨rfl, rfl⟩, ⟨by omega, fun h => by omega, fun j _ _ => rfl, fun _ => rfl⟩, hI, xFr.rf⟩
      · refine xg_t (xg_ifT (u := u41) rfl xnm0 (xj_neT hc44)) ?_
        refine xg_t (xg_blq rfl) ?_
        refine xg_t (xg_const) ?_
        refine xg_t (xg_istore (l1 := [(0, (2, 82)), (1, (0, 0))]) rfl rfl rfl) ?_
        refine xg_t (xg_drop (l1 := [(0, (2, 82)), (1, (0, 0)), (2, (0, 0))]) (List.forall_mem_cons.mpr ⟨List.mem_cons_of_mem _ (List.mem_cons_self), List.forall_mem_cons.mpr ⟨List.mem_cons_of_mem _ (List.mem_cons_of_mem _ (List.mem_cons_self)), List.forall_mem_cons.mpr ⟨List.mem_cons_self, fun _ h => absurd h List.not_mem_nil⟩⟩⟩)) ?_
        refine cpAgn0 1340 0 w g83_33 (by decide) h83_34 hb35 h82_31 (fun w46 g47 hc48 hc49 hc50 hc51 hc52 => ?_)
        have hx53 : okA g47 := okA.back hx36 (B := 1340) (by decide) hc51 hc52
        refine xg_t (xg_blq rfl) ?_
        refine xg_t (xg_const) ?_
        have hq54 := rwk_of h84_39 (show 0 < 3 by decide)
        exact xg_e ⟨1, w46, ⟨rfl, rfl⟩, ⟨by omega, fun _ i h => (rwv_of hc48 (by omega)).trans ((hc51 i (Nat.zero_le _) h).trans (rwv_of h83_34 (by omega)).symm), fun j h hj => (rwv_of hc48 hj).trans ((hc52 j (by omega)).trans (rwv_of h83_34 hj).symm), fun h => by omega⟩, xMnv.up (S := [83]) hI (xFr.of (S := [83]) hc50 (by decide)) (List.forall_mem_cons.mpr ⟨xqu83 (show cpx83 (wget w46 83) from ⟨_, hc48, hc49, hx53⟩), fun _ h => absurd h List.not_mem_nil⟩), (xFr.of (S := [83]) hc50 (by decide))⟩
    · refine xg_t (xg_aload (va := (2, 82)) rfl rfl) ?_
      refine xg_t (xg_getf (va := (2, 84)) h82_31 rfl) ?_
      refine xg_t (xg_iload (va := (0, 1)) rfl rfl) ?_
      obtain ⟨g84_55, h84_56, hb57⟩ := (xqc84 hI : cpK 2 0 3 51 1 (wget w 84))
      have h84_56 : xRk 2 0 w 84 3 51 g84_55 := h84_56
      refine xg_baldB (n := 1) (B := 1) h84_56 rfl (hb57) xnm0 (by omega) (fun u58 hu59 he60 => ?_)
      by_cases hc61 : u58 = 0
      · refine xg_t (xg_ifF (u := u58) rfl xnm0 (xj_neF hc61)) ?_
        refine xg_t (xg_blq rfl) ?_
        refine xg_t (xg_const) ?_
        have hq62 := rwk_of h84_56 (show 1 < 3 by decide)
        exact xg_e ⟨0, w, ⟨rfl, rfl⟩, ⟨by omega, fun h => by omega, fun j _ _ => rfl, fun _ => rfl⟩, hI, xFr.rf⟩
      · refine xg_t (xg_ifT (u := u58) rfl xnm0 (xj_neT hc61)) ?_
        refine xg_t (xg_blq rfl) ?_
        refine xg_t (xg_const) ?_
        refine xg_t (xg_istore (l1 := [(0, (2, 82)), (1, (0, 1))]) rfl rfl rfl) ?_
        refine xg_t (xg_drop (l1 := [(0, (2, 82)), (1, (0, 1)), (2, (0, 0))]) (List.forall_mem_cons.mpr ⟨List.mem_cons_of_mem _ (List.mem_cons_self), List.forall_mem_cons.mpr ⟨List.mem_cons_of_mem _ (List.mem_cons_of_mem _ (List.mem_cons_self)), List.forall_mem_cons.mpr ⟨List.mem_cons_self, fun _ h => absurd h List.not_mem_nil⟩⟩⟩)) ?_
        refine cpAgn1 1340 0 w g83_33 (by decide) h83_34 hb35 h82_31 (fun w63 g64 hc65 hc66 hc67 hc68 hc69 => ?_)
        have hx70 : okA g64 := okA.back hx36 (B := 2680) (by decide) hc68 hc69
        refine xg_t (xg_blq rfl) ?_
        refine xg_t (xg_const) ?_
        have hq71 := rwk_of h84_56 (show 1 < 3 by decide)
        exact xg_e ⟨1, w63, ⟨rfl, rfl⟩, ⟨by omega, fun _ i h => (rwv_of hc65 (by omega)).trans ((hc68 i (Nat.zero_le _) h).trans (rwv_of h83_34 (by omega)).symm), fun j h hj => (rwv_of hc65 hj).trans ((hc69 j (by omega)).trans (rwv_of h83_34 hj).symm), fun h => by omega⟩, xMnv.up (S := [83]) hI (xFr.of (S := [83]) hc67 (by decide)) (List.forall_mem_cons.mpr ⟨xqu83 (show cpx83 (wget w63 83) from ⟨_, hc65, hc66, hx70⟩), fun _ h => absurd h List.not_mem_nil⟩), (xFr.of (S := [83]) hc67 (by decide))⟩
    · refine xg_t (xg_aload (va := (2, 82)) rfl rfl) ?_
      refine xg_t (xg_getf (va := (2, 84)) h82_31 rfl) ?_
      refine xg_t (xg_iload (va := (0, 2)) rfl rfl) ?_
      obtain ⟨g84_72, h84_73, hb74⟩ := (xqc84 hI : cpK 2 0 3 51 1 (wget w 84))
      have h84_73 : xRk 2 0 w 84 3 51 g84_72 := h84_73
      refine xg_baldB (n := 2) (B := 1) h84_73 rfl (hb74) xnm0 (by omega) (fun u75 hu76 he77 => ?_)
      by_cases hc78 : u75 = 0
      · refine xg_t (xg_ifF (u := u75) rfl xnm0 (xj_neF hc78)) ?_
        refine xg_t (xg_blq rfl) ?_
        refine xg_t (xg_const) ?_
        have hq79 := rwk_of h84_73 (show 2 < 3 by decide)
        exact xg_e ⟨0, w, ⟨rfl, rfl⟩, ⟨by omega, fun h => by omega, fun j _ _ => rfl, fun _ => rfl⟩, hI, xFr.rf⟩
      · refine xg_t (xg_ifT (u := u75) rfl xnm0 (xj_neT hc78)) ?_
        refine xg_t (xg_blq rfl) ?_
        refine xg_t (xg_const) ?_
        refine xg_t (xg_istore (l1 := [(0, (2, 82)), (1, (0, 2))]) rfl rfl rfl) ?_
        refine xg_t (xg_drop (l1 := [(0, (2, 82)), (1, (0, 2)), (2, (0, 0))]) (List.forall_mem_cons.mpr ⟨List.mem_cons_of_mem _ (List.mem_cons_self), List.forall_mem_cons.mpr ⟨List.mem_cons_of_mem _ (List.mem_cons_of_mem _ (List.mem_cons_self)), List.forall_mem_cons.mpr ⟨List.mem_cons_self, fun _ h => absurd h List.not_mem_nil⟩⟩⟩)) ?_
        refine cpAgn2 1340 0 w g83_33 (by decide) h83_34 hb35 h82_31 (fun w80 g81 hc82 hc83 hc84 hc85 hc86 => ?_)
        have hx87 : okA g81 := okA.back hx36 (B := 4020) (by decide) hc85 hc86
        refine xg_t (xg_blq rfl) ?_
        refine xg_t (xg_const) ?_
        have hq88 := rwk_of h84_73 (show 2 < 3 by decide)
        exact xg_e ⟨1, w80, ⟨rfl, rfl⟩, ⟨by omega, fun _ i h => (rwv_of hc82 (by omega)).trans ((hc85 i (Nat.zero_le _) h).trans (rwv_of h83_34 (by omega)).symm), fun j h hj => (rwv_of hc82 hj).trans ((hc86 j (by omega)).trans (rwv_of h83_34 hj).symm), fun h => by omega⟩, xMnv.up (S := [83]) hI (xFr.of (S := [83]) hc84 (by decide)) (List.forall_mem_cons.mpr ⟨xqu83 (show cpx83 (wget w80 83) from ⟨_, hc82, hc83, hx87⟩), fun _ h => absurd h List.not_mem_nil⟩), (xFr.of (S := [83]) hc84 (by decide))⟩
  · refine xg_t (xg_ifT (u := (if 0 ≤ kk ∧ kk ≤ 2 then 1 else 0)) rfl xnm0 (xj_eqT (xite0 hc37))) ?_
    refine xg_t (xg_blq rfl) ?_
    refine xg_t (xg_const) ?_
    exact xg_e ⟨0, w, ⟨rfl, rfl⟩, ⟨by omega, fun h => by omega, fun j _ _ => rfl, fun _ => rfl⟩, hI, xFr.rf⟩
end XME2
