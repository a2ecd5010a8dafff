/-! the model: lines of films, to the last number -/
section XFMB
variable {d : Nat} {w : List (List xE)} {bd : List (Nat × Nat)} {fc : List (Nat × Nat × Bool)} {rr : Nat × Nat}
theorem mEndsX (hI : xMnv w) (h10 : fld w 82 10 = 0) : xPq d mX12_ends [(2, 82)] w bd fc rr [] (fun w' => xMnv w' ∧ xFr [82, 83] w w' ∧ (fld w' 82 10 = 1 ∧ rwv w' 83 16 = 1 ∧ rwv w' 83 17 = fld w 82 6 ∧ fld w' 82 14 = fld w 82 14 ∧ K83 w w')) := by
  refine xPq.of ?_
  show xTo d mX12_ends (0, [], [(0, (2, 82))], [], (w, bd, fc, 0, 0, rr)) (fun φ => ∃ w', xEnd 0 [] (w', bd, fc, 0, 0, rr) φ ∧ xMnv w' ∧ xFr [82, 83] w w' ∧ (fld w' 82 10 = 1 ∧ rwv w' 83 16 = 1 ∧ rwv w' 83 17 = fld w 82 6 ∧ fld w' 82 14 = fld w 82 14 ∧ K83 w w'))
  obtain ⟨f82_1, f82_3, f82_5, f82_7, f82_9, f82_11, f82_13, f82_15, f82_17, f82_19, f82_21, f82_22, f82_23, f82_25, f82_27, f82_29, h82_31, hb2, hb4, hb6, hb8, hb10, hb12, hb14, hb16, hb18, hb20, hb24, hb26, hb28, hb30, hb32⟩ := (hI 82 (by decide) (by decide) : cp82 (wget w 82))
  replace hb4 := xHid.of hb4
  replace hb10 := xHid.of hb10
  replace hb14 := xHid.of hb14
  replace hb16 := xHid.of hb16
  replace hb20 := xHid.of hb20
  replace hb24 := xHid.of hb24
  replace hb26 := xHid.of hb26
  replace hb28 := xHid.of hb28
  replace hb30 := xHid.of hb30
  obtain ⟨g83_33, h83_34, hb35, hx36⟩ := (hI 83 (by decide) (by decide) : cpx83 (wget w 83))
  have h83_34 : xRow w 83 5360 50 g83_33 := h83_34
  have hf37 : fld w 82 6 = f82_9 := fld_of h82_31
  have hf38 : fld w 82 10 = f82_17 := fld_of h82_31
  have hf39 : fld w 82 14 = f82_19 := fld_of h82_31
  refine xg_t (xg_blk (b := [(0, 1, 0, 0, 0, 0), (1, 3, 1, 12, 10, 180), (4, 3, 7, 8, 0, 0), (7, 1, 12, 0, 0, 0)]) rfl) ?_
  refine xg_t (xg_aload (va := (2, 82)) rfl rfl) ?_
  refine xg_t (xg_getf (va := (0, f82_17)) h82_31 rfl) ?_
  refine xg_t (xg_ifT (u := f82_17) rfl xnm0 (xj_eqT (by omega))) ?_
  refine xg_t (xg_blk (b := [(8, 1, 0, 0, 0, 0), (9, 1, 3, 1, 0, 0), (10, 3, 59, 12, 10, 180), (13, 1, 0, 0, 0, 0), (14, 3, 1, 12, 0, 7), (17, 2, 4, 16, 0, 0), (19, 1, 3, 1, 0, 0), (20, 1, 17, 0, 0, 0), (21, 1, 0, 0, 0, 0), (22, 3, 1, 12, 0, 7), (25, 2, 4, 17, 0, 0), (27, 1, 0, 0, 0, 0), (28, 3, 1, 12, 6, 148), (31, 1, 17, 0, 0, 0), (32, 1, 12, 0, 0, 0)]) rfl) ?_
  refine xg_t (xg_aload (va := (2, 82)) rfl rfl) ?_
  refine xg_t (xg_const) ?_
  refine xg_putZ (fl1 := [(2, 83), (2, 84), (0, f82_1), (0, f82_3), (0, f82_5), (0, f82_7), (0, f82_9), (0, f82_11), (0, f82_13), (0, f82_15), (0, 1), (2, 85), (2, 86), (2, 87), (0, f82_19), (2, 88), (2, 89), (2, 90), (2, 91), (2, 92), (2, 93), (2, 94), (4, f82_21), (4, f82_22), (0, f82_23), (2, 95), (2, 96), (2, 97), (2, 98), (2, 99), (2, 100), (2, 101), (2, 102), (0, f82_25), (2, 103), (2, 104), (2, 105), (2, 106), (2, 107), (2, 108), (2, 109), (0, f82_27), (0, f82_29), (2, 110), (2, 111), (2, 112), (2, 113)]) h82_31 rfl rfl rfl (fun w40 hk41 hb42 => ?_)
  refine xg_t (xg_aload (va := (2, 82)) rfl rfl) ?_
  refine xg_t (xg_getf (va := (2, 83)) hk41 rfl) ?_
  refine xg_t (xg_bip) ?_
  refine xg_t (xg_const) ?_
  refine xg_iastK (n := 16) (u := 1) (h83_34.but hb42 (by decide)) xnm0 xnm0 rfl (by omega) (fun w43 hr44 hb45 => ?_)
  have hx46 : okA (fun j => if j = 16 then 1 else g83_33 j) := hx36.upd (by omega) (by omega) (by omega) (fun _ => by omega) (by omega) (fun _ => by omega) (fun _ => by omega) (fun _ => by omega) (fun _ => by omega) (by omega) (fun _ _ => by omega)
  have hb47 : ∀ j, (fun j => if j = 16 then 1 else g83_33 j) j ≤ 4294967295 := xrb (by omega) (hb35)
  obtain ⟨g48, hg49⟩ : ∃ g : Nat → Nat, g = (fun j => if j = 16 then 1 else g83_33 j) := ⟨_, rfl⟩
  rw [← hg49] at hr44
  have he50 : g48 16 = 1 := by rw [hg49]; exact if_pos rfl
  have hk51 : ∀ j, j ≠ 16 → g48 j = g83_33 j := fun j hj => by rw [hg49]; exact if_neg hj
  rw [← hg49] at hx46
  rw [← hg49] at hb47
  refine xg_t (xg_aload (va := (2, 82)) rfl rfl) ?_
  refine xg_t (xg_getf (va := (2, 83)) (hb45.get (by decide) hk41) rfl) ?_
  refine xg_t (xg_bip) ?_
  refine xg_t (xg_aload (va := (2, 82)) rfl rfl) ?_
  refine xg_t (xg_getf (va := (0, f82_9)) (hb45.get (by decide) hk41) rfl) ?_
  have hn52 : f82_9 ≤ 4294967295 := hb10
  refine xg_iastK (n := 17) (u := f82_9) hr44 xnm0 xnm0 rfl (by omega) (fun w53 hr54 hb55 => ?_)
  have hx56 : okA (fun j => if j = 17 then f82_9 else g48 j) := hx46.upd (by omega) (by omega) (by omega) (fun _ => by omega) (by omega) (fun _ => by omega) (fun _ => by omega) (fun _ => by omega) (fun _ => by omega) (by omega) (fun _ _ => by omega)
  have hb57 : ∀ j, (fun j => if j = 17 then f82_9 else g48 j) j ≤ 4294967295 := xrb (by omega) (hb47)
  obtain ⟨g58, hg59⟩ : ∃ g : Nat → Nat, g = (fun j => if j = 17 then f82_9 else g48 j) := ⟨_, rfl⟩
  rw [← hg59] at hr54
  have he60 : g58 17 = f82_9 := by rw [hg59]; exact if_pos rfl
  have hk61 : ∀ j, j ≠ 17 → g58 j = g48 j := fun j hj => by rw [hg59]; exact if_neg hj
  rw [← hg59] at hx56
  rw [← hg59] at hb57
  have hk62 : g58 16 = g48 16 := hk61 16 (by omega)
  have hq63 : rwv w53 83 16 = 1 := (rwv_of hr54 (by decide)).trans ((hk61 16 (by decide)).trans he50)
  have hq64 : rwv w53 83 17 = f82_9 := (rwv_of hr54 (by decide)).trans he60
  have hf65 : fld w53 82 10 = 1 := fld_of (hb55.get (by decide) (hb45.get (by decide) hk41))
  have hf66 : fld w53 82 14 = f82_19 := fld_of (hb55.get (by decide) (hb45.get (by decide) hk41))
  exact xg_e ⟨w53, ⟨rfl, rfl⟩, xMnv.up (S := [82, 83]) hI (((xFr.of (S := [82, 83]) hb42 (by decide)).tr (xFr.of (S := [82, 83]) hb45 (by decide))).tr (xFr.of (S := [82, 83]) hb55 (by decide))) (List.forall_mem_cons.mpr ⟨(show cp82 (wget w53 82) from ⟨f82_1, f82_3, f82_5, f82_7, f82_9, f82_11, f82_13, f82_15, 1, f82_19, f82_21, f82_22, f82_23, f82_25, f82_27, f82_29, (hb55.get (by decide) (hb45.get (by decide) hk41)), by omega, hb4, by omega, by omega, hb10, by omega, hb14, hb16, by omega, hb20, hb24, hb26, hb28, hb30, by omega⟩), List.forall_mem_cons.mpr ⟨(show cpx83 (wget w53 83) from ⟨_, hr54, hb57, hx56⟩), fun _ h => absurd h List.not_mem_nil⟩⟩), (((xFr.of (S := [82, 83]) hb42 (by decide)).tr (xFr.of (S := [82, 83]) hb45 (by decide))).tr (xFr.of (S := [82, 83]) hb55 (by decide))), ⟨by omega, by omega, by omega, by omega, K83.st h83_34 hr54 (fun j h16 h17 => by rw [hk61 j (by omega), hk51 j (by omega)])⟩⟩
theorem mEndsW (hI : xMnv w) (h10 : fld w 82 10 ≠ 0) : xPq d mX12_ends [(2, 82)] w bd fc rr [] (fun w' => xMnv w' ∧ xFr [] w w') := by
  refine xPq.of ?_
  show xTo d mX12_ends (0, [], [(0, (2, 82))], [], (w, bd, fc, 0, 0, rr)) (fun φ => ∃ w', xEnd 0 [] (w', bd, fc, 0, 0, rr) φ ∧ xMnv w' ∧ xFr [] w w')
  obtain ⟨f82_1, f82_3, f82_5, f82_7, f82_9, f82_11, f82_13, f82_15, f82_17, f82_19, f82_21, f82_22, f82_23, f82_25, f82_27, f82_29, h82_31, hb2, hb4, hb6, hb8, hb10, hb12, hb14, hb16, hb18, hb20, hb24, hb26, hb28, hb30, hb32⟩ := (hI 82 (by decide) (by decide) : cp82 (wget w 82))
  replace hb4 := xHid.of hb4
  replace hb10 := xHid.of hb10
  replace hb14 := xHid.of hb14
  replace hb16 := xHid.of hb16
  replace hb20 := xHid.of hb20
  replace hb24 := xHid.of hb24
  replace hb26 := xHid.of hb26
  replace hb28 := xHid.of hb28
  replace hb30 := xHid.of hb30
  have hf33 : fld w 82 10 = f82_17 := fld_of h82_31
  refine xg_t (xg_blk (b := [(0, 1, 0, 0, 0, 0), (1, 3, 1, 12, 10, 180), (4, 3, 7, 8, 0, 0), (7, 1, 12, 0, 0, 0)]) rfl) ?_
  refine xg_t (xg_aload (va := (2, 82)) rfl rfl) ?_
  refine xg_t (xg_getf (va := (0, f82_17)) h82_31 rfl) ?_
  refine xg_t (xg_ifF (u := f82_17) rfl xnm0 (xj_eqF (by omega))) ?_
  exact xg_e ⟨w, ⟨rfl, rfl⟩, hI, xFr.rf⟩
theorem mAlsoX {fp : Nat × Nat} {ki at_ : Nat} (hI : xMnv w) (hki : ki ≤ 9) (hk1 : 1 ≤ ki) (hat : at_ ≤ 500) (h10 : fld w 82 10 = 0) (hf : FP w fp) : xPq d mX12_also [(2, 82), (0, ki), (0, at_)] w bd fc rr [] (fun w' => xMnv w' ∧ xFr [83] w w' ∧ (FP w' (alo fp ki at_) ∧ K83 w w')) := by
  refine xPq.of ?_
  show xTo d mX12_also (0, [], [(0, (2, 82)), (1, (0, ki)), (2, (0, at_))], [], (w, bd, fc, 0, 0, rr)) (fun φ => ∃ w', xEnd 0 [] (w', bd, fc, 0, 0, rr) φ ∧ xMnv w' ∧ xFr [83] w w' ∧ (FP w' (alo fp ki at_) ∧ K83 w w'))
  obtain ⟨f82_1, f82_3, f82_5, f82_7, f82_9, f82_11, f82_13, f82_15, f82_17, f82_19, f82_21, f82_22, f82_23, f82_25, f82_27, f82_29, h82_31, hb2, hb4, hb6, hb8, hb10, hb12, hb14, hb16, hb18, hb20, hb24, hb26, hb28, hb30, hb32⟩ := (hI 82 (by decide) (by decide) : cp82 (wget w 82))
  replace hb4 := xHid.of hb4
  replace hb10 := xHid.of hb10
  replace hb14 := xHid.of hb14
  replace hb16 := xHid.of hb16
  replace hb20 := xHid.of hb20
  replace hb24 := xHid.of hb24
  replace hb26 := xHid.of hb26
  replace hb28 := xHid.of hb28
  replace hb30 := xHid.of hb30
  obtain ⟨g83_33, h83_34, hb35, hx36⟩ := (hI 83 (by decide) (by decide) : cpx83 (wget w 83))
  have h83_34 : xRow w 83 5360 50 g83_33 := h83_34
  have hf37 : fld w 82 10 = f82_17 := fld_of h82_31
  obtain ⟨hf1, hf2, hf3, -⟩ := id hf
  refine xg_t (xg_blk (b := [(0, 1, 0, 0, 0, 0), (1, 3, 1, 12, 10, 180), (4, 3, 7, 50, 1, 0), (7, 1, 0, 0, 0, 0), (8, 3, 1, 12, 0, 7), (11, 2, 4, 16, 0, 0), (13, 1, 10, 0, 0, 0), (14, 3, 7, 51, 0, 0), (17, 1, 0, 0, 0, 0), (18, 3, 1, 12, 0, 7), (21, 2, 4, 17, 0, 0), (23, 1, 10, 0, 0, 0), (24, 1, 2, 2, 0, 0), (25, 3, 6, 50, 2, 0), (28, 1, 0, 0, 0, 0), (29, 3, 1, 12, 0, 7), (32, 2, 4, 17, 0, 0), (34, 1, 10, 0, 0, 0), (35, 1, 2, 2, 0, 0), (36, 3, 6, 51, 1, 0), (39, 1, 0, 0, 0, 0), (40, 3, 1, 12, 0, 7), (43, 2, 4, 16, 0, 0), (45, 1, 10, 0, 0, 0), (46, 1, 2, 1, 0, 0), (47, 3, 6, 51, 4, 0)]) rfl) ?_
  refine xg_t (xg_aload (va := (2, 82)) rfl rfl) ?_
  refine xg_t (xg_getf (va := (0, f82_17)) h82_31 rfl) ?_
  refine xg_t (xg_ifF (u := f82_17) rfl xnm0 (xj_neF (by omega))) ?_
  refine xg_t (xg_aload (va := (2, 82)) rfl rfl) ?_
  refine xg_t (xg_getf (va := (2, 83)) h82_31 rfl) ?_
  refine xg_t (xg_bip) ?_
  refine xg_ialdB (n := 16) (B := 4294967295) h83_34 (hb35) xnm0 (by omega) (fun u38 hu39 he40 => ?_)
  have hq41 : rwv w 83 16 = u38 := (rwv_of h83_34 (by decide)).trans he40
  have hq42 : rwv w 83 16 = u38 := (rwv_of h83_34 (by decide)).trans he40
  have hl43 : u38 ≤ 9 := by omega
  by_cases hc44 : u38 = 0
  · refine xg_t (xg_ifT (u := u38) rfl xnm0 (xj_eqT hc44)) ?_
    refine xg_t (xg_blk (b := [(51, 1, 0, 0, 0, 0), (52, 3, 1, 12, 0, 7), (55, 2, 4, 16, 0, 0), (57, 1, 2, 1, 0, 0), (58, 1, 17, 0, 0, 0), (59, 1, 0, 0, 0, 0), (60, 3, 1, 12, 0, 7), (63, 2, 4, 17, 0, 0), (65, 1, 2, 2, 0, 0), (66, 1, 17, 0, 0, 0), (67, 1, 12, 0, 0, 0)]) rfl) ?_
    refine xg_t (xg_aload (va := (2, 82)) rfl rfl) ?_
    refine xg_t (xg_getf (va := (2, 83)) h82_31 rfl) ?_
    refine xg_t (xg_bip) ?_
    refine xg_t (xg_iload (va := (0, ki)) rfl rfl) ?_
    refine xg_iastK (n := 16) (u := ki) h83_34 xnm0 xnm0 rfl (by omega) (fun w45 hr46 hb47 => ?_)
    have hx48 : okA (fun j => if j = 16 then ki else g83_33 j) := hx36.upd (by omega) (by omega) (by omega) (fun _ => by omega) (by omega) (fun _ => by omega) (fun _ => by omega) (fun _ => by omega) (fun _ => by omega) (by omega) (fun _ _ => by omega)
    have hb49 : ∀ j, (fun j => if j = 16 then ki else g83_33 j) j ≤ 4294967295 := xrb (by omega) (hb35)
    obtain ⟨g50, hg51⟩ : ∃ g : Nat → Nat, g = (fun j => if j = 16 then ki else g83_33 j) := ⟨_, rfl⟩
    rw [← hg51] at hr46
    have he52 : g50 16 = ki := by rw [hg51]; exact if_pos rfl
    have hk53 : ∀ j, j ≠ 16 → g50 j = g83_33 j := fun j hj => by rw [hg51]; exact if_neg hj
    rw [← hg51] at hx48
    rw [← hg51] at hb49
    refine xg_t (xg_aload (va := (2, 82)) rfl rfl) ?_
    refine xg_t (xg_getf (va := (2, 83)) (hb47.get (by decide) h82_31) rfl) ?_
    refine xg_t (xg_bip) ?_
    refine xg_t (xg_iload (va := (0, at_)) rfl rfl) ?_
    refine xg_iastK (n := 17) (u := at_) hr46 xnm0 xnm0 rfl (by omega) (fun w54 hr55 hb56 => ?_)
    have hx57 : okA (fun j => if j = 17 then at_ else g50 j) := hx48.upd (by omega) (by omega) (by omega) (fun _ => by omega) (by omega) (fun _ => by omega) (fun _ => by omega) (fun _ => by omega) (fun _ => by omega) (by omega) (fun _ _ => by omega)
    have hb58 : ∀ j, (fun j => if j = 17 then at_ else g50 j) j ≤ 4294967295 := xrb (by omega) (hb49)
    obtain ⟨g59, hg60⟩ : ∃ g : Nat → Nat, g = (fun j => if j = 17 then at_ else g50 j) := ⟨_, rfl⟩
    rw [← hg60] at hr55
    have he61 : g59 17 = at_ := by rw [hg60]; exact if_pos rfl
    have hk62 : ∀ j, j ≠ 17 → g59 j = g50 j := fun j hj => by rw [hg60]; exact if_neg hj
    rw [← hg60] at hx57
    rw [← hg60] at hb58
    have hq63 : rwv w54 83 16 = ki := (rwv_of hr55 (by decide)).trans ((hk62 16 (by decide)).trans he52)
    have hq64 : rwv w54 83 17 = at_ := (rwv_of hr55 (by decide)).trans he61
    exact xg_e ⟨w54, ⟨rfl, rfl⟩, xMnv.up (S := [83]) hI ((xFr.of (S := [83]) hb47 (by decide)).tr (xFr.of (S := [83]) hb56 (by decide))) (List.forall_mem_cons.mpr ⟨(show cpx83 (wget w54 83) from ⟨_, hr55, hb58, hx57⟩), fun _ h => absurd h List.not_mem_nil⟩), ((xFr.of (S := [83]) hb47 (by decide)).tr (xFr.of (S := [83]) hb56 (by decide))), ⟨by rw [alo_n (fun z => by omega)]; exact ⟨hq63, fun _ => ⟨hq64, hat⟩, hki, fun z => absurd z (show ¬ ki = 0 by omega)⟩, K83.st h83_34 hr55 (fun j h16 h17 => by rw [hk62 j (by omega), hk53 j (by omega)])⟩⟩
  · refine xg_t (xg_ifF (u := u38) rfl xnm0 (xj_eqF hc44)) ?_
    have hp_ := hf2 (by omega)
    refine xg_t (xg_aload (va := (2, 82)) rfl rfl) ?_
    refine xg_t (xg_getf (va := (2, 83)) h82_31 rfl) ?_
    refine xg_t (xg_bip) ?_
    refine xg_ialdB (n := 17) (B := 4294967295) h83_34 (hb35) xnm0 (by omega) (fun u65 hu66 he67 => ?_)
    have hq68 : rwv w 83 17 = u65 := (rwv_of h83_34 (by decide)).trans he67
    have hq69 : rwv w 83 17 = u65 := (rwv_of h83_34 (by decide)).trans he67
    have hl70 : u65 ≤ 500 := by omega
    refine xg_t (xg_iload (va := (0, at_)) rfl rfl) ?_
    by_cases hc71 : u65 < at_
    · refine xg_t (xg_icT (u := u65) (v := at_) rfl xnm0 xnm0 (xj_ltT hc71 (by omega))) ?_
      refine xg_t (xg_blk (b := [(50, 1, 12, 0, 0, 0)]) rfl) ?_
      exact xg_e ⟨w, ⟨rfl, rfl⟩, hI, xFr.rf, ⟨by rw [alo_y ⟨by omega, by omega⟩]; exact hf, K83.rf⟩⟩
    · refine xg_t (xg_icF (u := u65) (v := at_) rfl xnm0 xnm0 (xj_ltF (by omega) (by omega))) ?_
      refine xg_t (xg_aload (va := (2, 82)) rfl rfl) ?_
      refine xg_t (xg_getf (va := (2, 83)) h82_31 rfl) ?_
      refine xg_t (xg_bip) ?_
      refine xg_ialdB (n := 17) (B := 4294967295) h83_34 (hb35) xnm0 (by omega) (fun u72 hu73 he74 => ?_)
      have hq75 : rwv w 83 17 = u72 := (rwv_of h83_34 (by decide)).trans he74
      have hl76 : u72 ≤ 500 := by omega
      refine xg_t (xg_iload (va := (0, at_)) rfl rfl) ?_
      by_cases hc77 : u72 = at_
      · refine xg_t (xg_icF (u := u72) (v := at_) rfl xnm0 xnm0 (xj_neF hc77)) ?_
        refine xg_t (xg_aload (va := (2, 82)) rfl rfl) ?_
        refine xg_t (xg_getf (va := (2, 83)) h82_31 rfl) ?_
        refine xg_t (xg_bip) ?_
        refine xg_ialdB (n := 16) (B := 4294967295) h83_34 (hb35) xnm0 (by omega) (fun u78 hu79 he80 => ?_)
        have hq81 : rwv w 83 16 = u78 := (rwv_of h83_34 (by decide)).trans he80
        have hl82 : u78 ≤ 9 := by omega
        refine xg_t (xg_iload (va := (0, ki)) rfl rfl) ?_
        by_cases hc83 : ki < u78
        · refine xg_t (xg_icT (u := u78) (v := ki) rfl xnm0 xnm0 (xj_gtT hc83 (by omega))) ?_
          refine xg_t (xg_blk (b := [(51, 1, 0, 0, 0, 0), (52, 3, 1, 12, 0, 7), (55, 2, 4, 16, 0, 0), (57, 1, 2, 1, 0, 0), (58, 1, 17, 0, 0, 0), (59, 1, 0, 0, 0, 0), (60, 3, 1, 12, 0, 7), (63, 2, 4, 17, 0, 0), (65, 1, 2, 2, 0, 0), (66, 1, 17, 0, 0, 0), (67, 1, 12, 0, 0, 0)]) rfl) ?_
          refine xg_t (xg_aload (va := (2, 82)) rfl rfl) ?_
          refine xg_t (xg_getf (va := (2, 83)) h82_31 rfl) ?_
          refine xg_t (xg_bip) ?_
          refine xg_t (xg_iload (va := (0, ki)) rfl rfl) ?_
          refine xg_iastK (n := 16) (u := ki) h83_34 xnm0 xnm0 rfl (by omega) (fun w84 hr85 hb86 => ?_)
          have hx87 : okA (fun j => if j = 16 then ki else g83_33 j) := hx36.upd (by omega) (by omega) (by omega) (fun _ => by omega) (by omega) (fun _ => by omega) (fun _ => by omega) (fun _ => by omega) (fun _ => by omega) (by omega) (fun _ _ => by omega)
          have hb88 : ∀ j, (fun j => if j = 16 then ki else g83_33 j) j ≤ 4294967295 := xrb (by omega) (hb35)
          obtain ⟨g89, hg90⟩ : ∃ g : Nat → Nat, g = (fun j => if j = 16 then ki else g83_33 j) := ⟨_, rfl⟩
          rw [← hg90] at hr85
          have he91 : g89 16 = ki := by rw [hg90]; exact if_pos rfl
          have hk92 : ∀ j, j ≠ 16 → g89 j = g83_33 j := fun j hj => by rw [hg90]; exact if_neg hj
          rw [← hg90] at hx87
          rw [← hg90] at hb88
          refine xg_t (xg_aload (va := (2, 82)) rfl rfl) ?_
          refine xg_t (xg_getf (va := (2, 83)) (hb86.get (by decide) h82_31) rfl) ?_
          refine xg_t (xg_bip) ?_
          refine xg_t (xg_iload (va := (0, at_)) rfl rfl) ?_
          refine xg_iastK (n := 17) (u := at_) hr85 xnm0 xnm0 rfl (by omega) (fun w93 hr94 hb95 => ?_)
          have hx96 : okA (fun j => if j = 17 then at_ else g89 j) := hx87.upd (by omega) (by omega) (by omega) (fun _ => by omega) (by omega) (fun _ => by omega) (fun _ => by omega) (fun _ => by omega) (fun _ => by omega) (by omega) (fun _ _ => by omega)
          have hb97 : ∀ j, (fun j => if j = 17 then at_ else g89 j) j ≤ 4294967295 := xrb (by omega) (hb88)
          obtain ⟨g98, hg99⟩ : ∃ g : Nat → Nat, g = (fun j => if j = 17 then at_ else g89 j) := ⟨_, rfl⟩
          rw [← hg99] at hr94
          have he100 : g98 17 = at_ := by rw [hg99]; exact if_pos rfl
          have hk101 : ∀ j, j ≠ 17 → g98 j = g89 j := fun j hj => by rw [hg99]; exact if_neg hj
          rw [← hg99] at hx96
          rw [← hg99] at hb97
          have hq102 : rwv w93 83 16 = ki := (rwv_of hr94 (by decide)).trans ((hk101 16 (by decide)).trans he91)
          have hq103 : rwv w93 83 17 = at_ := (rwv_of hr94 (by decide)).trans he100
          exact xg_e ⟨w93, ⟨rfl, rfl⟩, xMnv.up (S := [83]) hI ((xFr.of (S := [83]) hb86 (by decide)).tr (xFr.of (S := [83]) hb95 (by decide))) (List.forall_mem_cons.mpr ⟨(show cpx83 (wget w93 83) from ⟨_, hr94, hb97, hx96⟩), fun _ h => absurd h List.not_mem_nil⟩), ((xFr.of (S := [83]) hb86 (by decide)).tr (xFr.of (S := [83]) hb95 (by decide))), ⟨by rw [alo_n (fun z => by omega)]; exact ⟨hq102, fun _ => ⟨hq103, hat⟩, hki, fun z => absurd z (show ¬ ki = 0 by omega)⟩, K83.st h83_34 hr94 (fun j h16 h17 => by rw [hk101 j (by omega), hk92 j (by omega)])⟩⟩
        · refine xg_t (xg_icF (u := u78) (v := ki) rfl xnm0 xnm0 (xj_gtF (by omega) (by omega))) ?_
          refine xg_t (xg_blk (b := [(50, 1, 12, 0, 0, 0)]) rfl) ?_
          exact xg_e ⟨w, ⟨rfl, rfl⟩, hI, xFr.rf, ⟨by rw [alo_y ⟨by omega, by omega⟩]; exact hf, K83.rf⟩⟩
      · refine xg_t (xg_icT (u := u72) (v := at_) rfl xnm0 xnm0 (xj_neT hc77)) ?_
        refine xg_t (xg_blk (b := [(51, 1, 0, 0, 0, 0), (52, 3, 1, 12, 0, 7), (55, 2, 4, 16, 0, 0), (57, 1, 2, 1, 0, 0), (58, 1, 17, 0, 0, 0), (59, 1, 0, 0, 0, 0), (60, 3, 1, 12, 0, 7), (63, 2, 4, 17, 0, 0), (65, 1, 2, 2, 0, 0), (66, 1, 17, 0, 0, 0), (67, 1, 12, 0, 0, 0)]) rfl) ?_
        refine xg_t (xg_aload (va := (2, 82)) rfl rfl) ?_
        refine xg_t (xg_getf (va := (2, 83)) h82_31 rfl) ?_
        refine xg_t (xg_bip) ?_
        refine xg_t (xg_iload (va := (0, ki)) rfl rfl) ?_
        refine xg_iastK (n := 16) (u := ki) h83_34 xnm0 xnm0 rfl (by omega) (fun w104 hr105 hb106 => ?_)
        have hx107 : okA (fun j => if j = 16 then ki else g83_33 j) := hx36.upd (by omega) (by omega) (by omega) (fun _ => by omega) (by omega) (fun _ => by omega) (fun _ => by omega) (fun _ => by omega) (fun _ => by omega) (by omega) (fun _ _ => by omega)
        have hb108 : ∀ j, (fun j => if j = 16 then ki else g83_33 j) j ≤ 4294967295 := xrb (by omega) (hb35)
        obtain ⟨g109, hg110⟩ : ∃ g : Nat → Nat, g = (fun j => if j = 16 then ki else g83_33 j) := ⟨_, rfl⟩
        rw [← hg110] at hr105
        have he111 : g109 16 = ki := by rw [hg110]; exact if_pos rfl
        have hk112 : ∀ j, j ≠ 16 → g109 j = g83_33 j := fun j hj => by rw [hg110]; exact if_neg hj
        rw [← hg110] at hx107
        rw [← hg110] at hb108
        refine xg_t (xg_aload (va := (2, 82)) rfl rfl) ?_
        refine xg_t (xg_getf (va := (2, 83)) (hb106.get (by decide) h82_31) rfl) ?_
        refine xg_t (xg_bip) ?_
        refine xg_t (xg_iload (va := (0, at_)) rfl rfl) ?_
        refine xg_iastK (n := 17) (u := at_) hr105 xnm0 xnm0 rfl (by omega) (fun w113 hr114 hb115 => ?_)
        have hx116 : okA (fun j => if j = 17 then at_ else g109 j) := hx107.upd (by omega) (by omega) (by omega) (fun _ => by omega) (by omega) (fun _ => by omega) (fun _ => by omega) (fun _ => by omega) (fun _ => by omega) (by omega) (fun _ _ => by omega)
        have hb117 : ∀ j, (fun j => if j = 17 then at_ else g109 j) j ≤ 4294967295 := xrb (by omega) (hb108)
        obtain ⟨g118, hg119⟩ : ∃ g : Nat → Nat, g = (fun j => if j = 17 then at_ else g109 j) := ⟨_, rfl⟩
        rw [← hg119] at hr114
        have he120 : g118 17 = at_ := by rw [hg119]; exact if_pos rfl
        have hk121 : ∀ j, j ≠ 17 → g118 j = g109 j := fun j hj => by rw [hg119]; exact if_neg hj
        rw [← hg119] at hx116
        rw [← hg119] at hb117
        have hq122 : rwv w113 83 16 = ki := (rwv_of hr114 (by decide)).trans ((hk121 16 (by decide)).trans he111)
        have hq123 : rwv w113 83 17 = at_ := (rwv_of hr114 (by decide)).trans he120
        exact xg_e ⟨w113, ⟨rfl, rfl⟩, xMnv.up (S := [83]) hI ((xFr.of (S := [83]) hb106 (by decide)).tr (xFr.of (S := [83]) hb115 (by decide))) (List.forall_mem_cons.mpr ⟨(show cpx83 (wget w113 83) from ⟨_, hr114, hb117, hx116⟩), fun _ h => absurd h List.not_mem_nil⟩), ((xFr.of (S := [83]) hb106 (by decide)).tr (xFr.of (S := [83]) hb115 (by decide))), ⟨by rw [alo_n (fun z => by omega)]; exact ⟨hq122, fun _ => ⟨hq123, hat⟩, hki, fun z => absurd z (show ¬ ki = 0 by omega)⟩, K83.st h83_34 hr114 (fun j h16 h17 => by rw [hk121 j (by omega), hk112 j (by omega)])⟩⟩
theorem mAlsoW {ki at_ : Nat} (hI : xMnv w) (hki : ki ≤ 9) (hat : at_ ≤ 4294967295) (h10 : fld w 82 10 ≠ 0) : xPq (d + 1) mX12_also [(2, 82), (0, ki), (0, at_)] w bd fc rr [] (fun w' => xMnv w' ∧ xFr [] w w') := by
  refine xPq.of ?_
  show xTo (d + 1) mX12_also (0, [], [(0, (2, 82)), (1, (0, ki)), (2, (0, at_))], [], (w, bd, fc, 0, 0, rr)) (fun φ => ∃ w', xEnd 0 [] (w', bd, fc, 0, 0, rr) φ ∧ xMnv w' ∧ xFr [] w w')
  obtain ⟨f82_1, f82_3, f82_5, f82_7, f82_9, f82_11, f82_13, f82_15, f82_17, f82_19, f82_21, f82_22, f82_23, f82_25, f82_27, f82_29, h82_31, hb2, hb4, hb6, hb8, hb10, hb12, hb14, hb16, hb18, hb20, hb24, hb26, hb28, hb30, hb32⟩ := (hI 82 (by decide) (by decide) : cp82 (wget w 82))
  replace hb4 := xHid.of hb4
  replace hb10 := xHid.of hb10
  replace hb14 := xHid.of hb14
  replace hb16 := xHid.of hb16
  replace hb20 := xHid.of hb20
  replace hb24 := xHid.of hb24
  replace hb26 := xHid.of hb26
  replace hb28 := xHid.of hb28
  replace hb30 := xHid.of hb30
  have hf33 : fld w 82 10 = f82_17 := fld_of h82_31
  refine xg_t (xg_blk (b := [(0, 1, 0, 0, 0, 0), (1, 3, 1, 12, 10, 180), (4, 3, 7, 50, 1, 0), (7, 1, 0, 0, 0, 0), (8, 3, 1, 12, 0, 7), (11, 2, 4, 16, 0, 0), (13, 1, 10, 0, 0, 0), (14, 3, 7, 51, 0, 0), (17, 1, 0, 0, 0, 0), (18, 3, 1, 12, 0, 7), (21, 2, 4, 17, 0, 0), (23, 1, 10, 0, 0, 0), (24, 1, 2, 2, 0, 0), (25, 3, 6, 50, 2, 0), (28, 1, 0, 0, 0, 0), (29, 3, 1, 12, 0, 7), (32, 2, 4, 17, 0, 0), (34, 1, 10, 0, 0, 0), (35, 1, 2, 2, 0, 0), (36, 3, 6, 51, 1, 0), (39, 1, 0, 0, 0, 0), (40, 3, 1, 12, 0, 7), (43, 2, 4, 16, 0, 0), (45, 1, 10, 0, 0, 0), (46, 1, 2, 1, 0, 0), (47, 3, 6, 51, 4, 0)]) rfl) ?_
  refine xg_t (xg_aload (va := (2, 82)) rfl rfl) ?_
  refine xg_t (xg_getf (va := (0, f82_17)) h82_31 rfl) ?_
  refine xg_t (xg_ifT (u := f82_17) rfl xnm0 (xj_neT (by omega))) ?_
  refine xg_t (xg_blk (b := [(50, 1, 12, 0, 0, 0)]) rfl) ?_
  exact xg_e ⟨w, ⟨rfl, rfl⟩, hI, xFr.rf⟩
theorem mNumX {fp : Nat × Nat} {B : Nat → Nat} {nn ir p : Nat} {le mo : Nat} (hI : xMnv w) (hle : le ≤ 9999) (hmo : mo ≤ 9999) (hB : bsm w B nn) (h10 : fld w 82 10 = 0) (hT : TKM ir B nn w p) (hf : FP w fp) : xPi (d + 5) mX12_numbered [(2, 82), (0, le), (0, mo)] w bd fc rr (fun n w' => (((n = 0 ∧ tkd B nn p ≠ 2 ∧ WRG w' (tq B nn p)) ∨ (n = tnu B nn p ∧ n ≤ 9999 ∧ tkd B nn p = 2 ∧ fld w' 82 10 = 0 ∧ TKM ir B nn w' (tf B nn p) ∧ FP w' (chk fp le mo (tnu B nn p) (tq B nn p)))) ∧ fld w' 82 14 = fld w 82 14 ∧ K83 w w') ∧ xMnv w' ∧ xFr [82, 83] w w') := by
  refine xPi.of ?_
  show xTo (d + 5) mX12_numbered (0, [], [(0, (2, 82)), (1, (0, le)), (2, (0, mo))], [], (w, bd, fc, 0, 0, rr)) (fun φ => ∃ n w', xEnd 1 [(0, n)] (w', bd, fc, 0, 0, rr) φ ∧ (((n = 0 ∧ tkd B nn p ≠ 2 ∧ WRG w' (tq B nn p)) ∨ (n = tnu B nn p ∧ n ≤ 9999 ∧ tkd B nn p = 2 ∧ fld w' 82 10 = 0 ∧ TKM ir B nn w' (tf B nn p) ∧ FP w' (chk fp le mo (tnu B nn p) (tq B nn p)))) ∧ fld w' 82 14 = fld w 82 14 ∧ K83 w w') ∧ xMnv w' ∧ xFr [82, 83] w w')
  obtain ⟨f82_1, f82_3, f82_5, f82_7, f82_9, f82_11, f82_13, f82_15, f82_17, f82_19, f82_21, f82_22, f82_23, f82_25, f82_27, f82_29, h82_31, hb2, hb4, hb6, hb8, hb10, hb12, hb14, hb16, hb18, hb20, hb24, hb26, hb28, hb30, hb32⟩ := (hI 82 (by decide) (by decide) : cp82 (wget w 82))
  replace hb4 := xHid.of hb4
  replace hb10 := xHid.of hb10
  replace hb14 := xHid.of hb14
  replace hb16 := xHid.of hb16
  replace hb20 := xHid.of hb20
  replace hb24 := xHid.of hb24
  replace hb26 := xHid.of hb26
  replace hb28 := xHid.of hb28
  replace hb30 := xHid.of hb30
  obtain ⟨g83_33, h83_34, hb35, hx36⟩ := (hI 83 (by decide) (by decide) : cpx83 (wget w 83))
  have h83_34 : xRow w 83 5360 50 g83_33 := h83_34
  obtain ⟨⟨ht37, ht38, ht39, ht40, ht41, ht42⟩, ht43, ht44, ht45⟩ := id hT
  have hf46 : fld w 82 6 = f82_9 := fld_of h82_31
  have hf47 : fld w 82 7 = f82_11 := fld_of h82_31
  have hf48 : fld w 82 8 = f82_13 := fld_of h82_31
  have hf49 : fld w 82 10 = f82_17 := fld_of h82_31
  have hmk := (mkd_of (ir := ir) (B := B) (n := nn) (p := p)).2.1
  refine xg_t (xg_blk (b := [(0, 1, 0, 0, 0, 0), (1, 3, 1, 12, 10, 180), (4, 3, 7, 15, 1, 0), (7, 1, 0, 0, 0, 0), (8, 3, 1, 12, 7, 151), (11, 1, 3, 1, 0, 0), (12, 3, 6, 21, 0, 0)]) rfl) ?_
  refine xg_t (xg_aload (va := (2, 82)) rfl rfl) ?_
  refine xg_t (xg_getf (va := (0, f82_17)) h82_31 rfl) ?_
  refine xg_t (xg_ifF (u := f82_17) rfl xnm0 (xj_neF (by omega))) ?_
  refine xg_t (xg_aload (va := (2, 82)) rfl rfl) ?_
  refine xg_t (xg_getf (va := (0, f82_11)) h82_31 rfl) ?_
  refine xg_t (xg_const) ?_
  by_cases hc50 : f82_11 = 1
  · refine xg_t (xg_icT (u := f82_11) (v := 1) rfl xnm0 xnm0 (xj_eqT hc50)) ?_
    refine xg_t (xg_blk (b := [(21, 1, 0, 0, 0, 0), (22, 3, 1, 12, 8, 171), (25, 1, 15, 3, 0, 0), (26, 1, 2, 3, 0, 0), (27, 1, 2, 1, 0, 0), (28, 1, 2, 2, 0, 0), (29, 3, 13, 161, 98, 105), (32, 3, 7, 44, 1, 0), (35, 1, 0, 0, 0, 0), (36, 1, 3, 2, 0, 0), (37, 1, 0, 0, 0, 0), (38, 3, 1, 12, 6, 148), (41, 3, 13, 115, 96, 186)]) rfl) ?_
    have hk2 : tkd B nn p = 2 := by omega
    have hn_ := ht43 hk2
    have hz := tf_gt (B := B) (n := nn) (p := p) (by omega)
    have hBn := hB.1
    refine xg_t (xg_aload (va := (2, 82)) rfl rfl) ?_
    refine xg_t (xg_getf (va := (0, f82_13)) h82_31 rfl) ?_
    have hn51 : f82_13 ≤ 4294967295 := hb14
    refine xg_t (xg_istore (l1 := [(0, (2, 82)), (1, (0, le)), (2, (0, mo))]) rfl rfl rfl) ?_
    refine xg_t (xg_iload (va := (0, f82_13)) rfl rfl) ?_
    refine xg_t (xg_iload (va := (0, le)) rfl rfl) ?_
    refine xg_t (xg_iload (va := (0, mo)) rfl rfl) ?_
    refine xg_t (xg_cSr mX12_isIn (vs := [(0, f82_13), (0, le), (0, mo)]) (rest := []) (rs := [(0, if le ≤ f82_13 ∧ f82_13 ≤ mo then 1 else 0)]) (cn1 := 0) (sl1 := 0) rfl (mIsIn (by omega) (by omega) (by omega)) rfl rfl rfl rfl rfl rfl rfl rfl) ?_
    by_cases hc52 : le ≤ f82_13 ∧ f82_13 ≤ mo
    · refine xg_t (xg_ifT (u := (if le ≤ f82_13 ∧ f82_13 ≤ mo then 1 else 0)) rfl xnm0 (xj_neT (xite1 hc52))) ?_
      refine xg_t (xg_blk (b := [(44, 1, 0, 0, 0, 0), (45, 3, 13, 110, 96, 190), (48, 1, 2, 3, 0, 0), (49, 1, 12, 0, 1, 0)]) rfl) ?_
      refine xg_t (xg_aload (va := (2, 82)) rfl rfl) ?_
      obtain ⟨⟨ht53, ht54, ht55, ht56, ht57, ht58⟩, -⟩ := id hT
      have hk59 := h10
      have hk60 := (rfl : fld w 82 14 = fld w 82 14)
      refine xg_cVv mX12_advance (vs := []) (rest := []) (cn1 := 0) (sl1 := 0) rfl (mAdvX (hI) hB ht53 ht54 (by rw [ht55]; exact tf_le ht58)) rfl h82_31 rfl rfl rfl rfl rfl rfl (fun w61 hq62 => ?_)
      obtain ⟨hI63, hF64, hx65⟩ := hq62
      obtain ⟨hz66, hz67, hz68⟩ := hx65
      rw [ht55] at hz66
      clear ht53 ht54 ht55 ht56 ht57 ht58
      obtain ⟨p_69, hp70⟩ : ∃ x, x = tf B nn p := ⟨_, rfl⟩
      rw [← hp70] at hz66
      have k10_71 := hz67.trans hk59
      have k14_72 := hz68.trans hk60
      clear hz67 hz68 hk59 hk60
      refine xg_t (xg_iload (va := (0, f82_13)) rfl rfl) ?_
      exact xg_e ⟨f82_13, w61, ⟨rfl, rfl⟩, ⟨Or.inr ⟨by omega, by have q := tnu_le (B := B) (n := nn) (p := p) hk2; omega, hk2, k10_71, by rw [← hp70]; exact hz66, by rw [chk_y (by omega)]; exact (hf.k83 (rwv_eq (hF64.1 83 (by decide))) (rwv_eq (hF64.1 83 (by decide))))⟩, k14_72, (K83.fr hF64 (by decide))⟩, hI63, (hF64.up (by decide))⟩
    · refine xg_t (xg_ifF (u := (if le ≤ f82_13 ∧ f82_13 ≤ mo then 1 else 0)) rfl xnm0 (xj_neF (xite0 hc52))) ?_
      refine xg_t (xg_aload (va := (2, 82)) rfl rfl) ?_
      refine xg_t (xg_const) ?_
      refine xg_t (xg_aload (va := (2, 82)) rfl rfl) ?_
      refine xg_t (xg_getf (va := (0, f82_9)) h82_31 rfl) ?_
      have hn73 : f82_9 ≤ 4294967295 := hb10
      refine xg_cVv mX12_also (vs := [(0, 2), (0, f82_9)]) (rest := []) (cn1 := 0) (sl1 := 0) rfl (mAlsoX (hI) (by omega) (by omega) (by omega) h10 hf) rfl h82_31 rfl rfl rfl rfl rfl rfl (fun w74 hq75 => ?_)
      obtain ⟨hI76, hF77, hx78⟩ := hq75
      obtain ⟨hv79, hv80⟩ := hx78
      refine xg_t (xg_blk (b := [(44, 1, 0, 0, 0, 0), (45, 3, 13, 110, 96, 190), (48, 1, 2, 3, 0, 0), (49, 1, 12, 0, 1, 0)]) rfl) ?_
      refine xg_t (xg_aload (va := (2, 82)) rfl rfl) ?_
      obtain ⟨⟨ht81, ht82, ht83, ht84, ht85, ht86⟩, -⟩ := id (hT.fr (hF77.1 82 (by decide)))
      have hk87 := ((fld_eq (j := 10) (hF77.1 82 (by decide))).trans h10)
      have hk88 := ((fld_eq (j := 14) (hF77.1 82 (by decide))).trans rfl)
      refine xg_cVv mX12_advance (vs := []) (rest := []) (cn1 := 0) (sl1 := 0) rfl (mAdvX (hI76) (hB.fr (fun j h4 h9 => hv80 j (by omega) (by omega) (by omega))) ht81 ht82 (by rw [ht83]; exact tf_le ht86)) rfl (hF77.get (by decide) h82_31) rfl rfl rfl rfl rfl rfl (fun w89 hq90 => ?_)
      obtain ⟨hI91, hF92, hx93⟩ := hq90
      obtain ⟨hz94, hz95, hz96⟩ := hx93
      rw [ht83] at hz94
      clear ht81 ht82 ht83 ht84 ht85 ht86
      obtain ⟨p_97, hp98⟩ : ∃ x, x = tf B nn p := ⟨_, rfl⟩
      rw [← hp98] at hz94
      have k10_99 := hz95.trans hk87
      have k14_100 := hz96.trans hk88
      clear hz95 hz96 hk87 hk88
      refine xg_t (xg_iload (va := (0, f82_13)) rfl rfl) ?_
      exact xg_e ⟨f82_13, w89, ⟨rfl, rfl⟩, ⟨Or.inr ⟨by omega, by have q := tnu_le (B := B) (n := nn) (p := p) hk2; omega, hk2, k10_99, by rw [← hp98]; exact hz94, by rw [chk_n (by omega)]; exact (by have q := (hv79.k83 (rwv_eq (hF92.1 83 (by decide))) (rwv_eq (hF92.1 83 (by decide)))); rw [show f82_9 = tq B nn p by omega] at q; exact q)⟩, k14_100, (hv80.tr (K83.fr hF92 (by decide)))⟩, hI91, ((hF77.up (by decide)).tr (hF92.up (by decide)))⟩
  · refine xg_t (xg_icF (u := f82_11) (v := 1) rfl xnm0 xnm0 (xj_eqF hc50)) ?_
    refine xg_t (xg_blk (b := [(15, 1, 0, 0, 0, 0), (16, 3, 13, 140, 96, 183), (19, 1, 3, 0, 0, 0), (20, 1, 12, 0, 1, 0)]) rfl) ?_
    refine xg_t (xg_aload (va := (2, 82)) rfl rfl) ?_
    refine xg_cVv mX12_ends (vs := []) (rest := []) (cn1 := 0) (sl1 := 0) rfl (mEndsX (hI) h10) rfl h82_31 rfl rfl rfl rfl rfl rfl (fun w101 hq102 => ?_)
    obtain ⟨hI103, hF104, hx105⟩ := hq102
    obtain ⟨hv106, hv107, hv108, hv109, hv110⟩ := hx105
    refine xg_t (xg_const) ?_
    exact xg_e ⟨0, w101, ⟨rfl, rfl⟩, ⟨Or.inl ⟨rfl, by omega, ⟨hv106, hv107, by omega⟩⟩, hv109, hv110⟩, hI103, (hF104.up (by decide))⟩
theorem mNumW {le mo : Nat} (hI : xMnv w) (hle : le ≤ 9999) (hmo : mo ≤ 9999) (h10 : fld w 82 10 ≠ 0) : xPi (d + 3) mX12_numbered [(2, 82), (0, le), (0, mo)] w bd fc rr (fun n w' => (n = 0) ∧ xMnv w' ∧ xFr [] w w') := by
  refine xPi.of ?_
  show xTo (d + 3) mX12_numbered (0, [], [(0, (2, 82)), (1, (0, le)), (2, (0, mo))], [], (w, bd, fc, 0, 0, rr)) (fun φ => ∃ n w', xEnd 1 [(0, n)] (w', bd, fc, 0, 0, rr) φ ∧ (n = 0) ∧ xMnv w' ∧ xFr [] w w')
  obtain ⟨f82_1, f82_3, f82_5, f82_7, f82_9, f82_11, f82_13, f82_15, f82_17, f82_19, f82_21, f82_22, f82_23, f82_25, f82_27, f82_29, h82_31, hb2, hb4, hb6, hb8, hb10, hb12, hb14, hb16, hb18, hb20, hb24, hb26, hb28, hb30, hb32⟩ := (hI 82 (by decide) (by decide) : cp82 (wget w 82))
  replace hb4 := xHid.of hb4
  replace hb10 := xHid.of hb10
  replace hb14 := xHid.of hb14
  replace hb16 := xHid.of hb16
  replace hb20 := xHid.of hb20
  replace hb24 := xHid.of hb24
  replace hb26 := xHid.of hb26
  replace hb28 := xHid.of hb28
  replace hb30 := xHid.of hb30
  have hf33 : fld w 82 10 = f82_17 := fld_of h82_31
  refine xg_t (xg_blk (b := [(0, 1, 0, 0, 0, 0), (1, 3, 1, 12, 10, 180), (4, 3, 7, 15, 1, 0), (7, 1, 0, 0, 0, 0), (8, 3, 1, 12, 7, 151), (11, 1, 3, 1, 0, 0), (12, 3, 6, 21, 0, 0)]) rfl) ?_
  refine xg_t (xg_aload (va := (2, 82)) rfl rfl) ?_
  refine xg_t (xg_getf (va := (0, f82_17)) h82_31 rfl) ?_
  refine xg_t (xg_ifT (u := f82_17) rfl xnm0 (xj_neT (by omega))) ?_
  refine xg_t (xg_blk (b := [(15, 1, 0, 0, 0, 0), (16, 3, 13, 140, 96, 183), (19, 1, 3, 0, 0, 0), (20, 1, 12, 0, 1, 0)]) rfl) ?_
  refine xg_t (xg_aload (va := (2, 82)) rfl rfl) ?_
  refine xg_cVv mX12_ends (vs := []) (rest := []) (cn1 := 0) (sl1 := 0) rfl (mEndsW (hI) h10) rfl h82_31 rfl rfl rfl rfl rfl rfl (fun w34 hq35 => ?_)
  obtain ⟨hI36, hF37⟩ := hq35
  refine xg_t (xg_const) ?_
  exact xg_e ⟨0, w34, ⟨rfl, rfl⟩, by omega, hI36, (hF37.up (by decide))⟩
theorem mLifeX {sa kk : Nat} (hI : xMnv w) (hsa : sa ≤ 4294967295) (hkk : kk ≤ 1001) : xPi d mX12_isLifeTold [(2, 82), (0, sa), (0, kk)] w bd fc rr (fun n w' => ((n = 1 ∧ ∃ m, m < kk ∧ m < 4 ∧ rwv w 86 (50 + 2 * m) = sa) ∨ (n = 0 ∧ ∀ m, m < kk → m < 4 → rwv w 86 (50 + 2 * m) ≠ sa)) ∧ xMnv w' ∧ xFr [] w w') := by
  refine xPi.of ?_
  show xTo d mX12_isLifeTold (0, [], [(0, (2, 82)), (1, (0, sa)), (2, (0, kk))], [], (w, bd, fc, 0, 0, rr)) (fun φ => ∃ n w', xEnd 4 [(0, n)] (w', bd, fc, 0, 0, rr) φ ∧ ((n = 1 ∧ ∃ m, m < kk ∧ m < 4 ∧ rwv w 86 (50 + 2 * m) = sa) ∨ (n = 0 ∧ ∀ m, m < kk → m < 4 → rwv w 86 (50 + 2 * m) ≠ sa)) ∧ xMnv w' ∧ xFr [] w w')
  obtain ⟨f82_1, f82_3, f82_5, f82_7, f82_9, f82_11, f82_13, f82_15, f82_17, f82_19, f82_21, f82_22, f82_23, f82_25, f82_27, f82_29, h82_31, hb2, hb4, hb6, hb8, hb10, hb12, hb14, hb16, hb18, hb20, hb24, hb26, hb28, hb30, hb32⟩ := (hI 82 (by decide) (by decide) : cp82 (wget w 82))
  replace hb4 := xHid.of hb4
  replace hb10 := xHid.of hb10
  replace hb14 := xHid.of hb14
  replace hb16 := xHid.of hb16
  replace hb20 := xHid.of hb20
  replace hb24 := xHid.of hb24
  replace hb26 := xHid.of hb26
  replace hb28 := xHid.of hb28
  replace hb30 := xHid.of hb30
  obtain ⟨g86_33, h86_34, hb35⟩ := (hI 86 (by decide) (by decide) : cpI 140 53 4294967295 (wget w 86))
  have h86_34 : xRow w 86 140 53 g86_33 := h86_34
  refine xg_t (xg_blk (b := [(0, 1, 3, 0, 0, 0), (1, 1, 15, 3, 0, 0), (2, 1, 3, 0, 0, 0), (3, 2, 15, 4, 0, 0)]) rfl) ?_
  refine xg_t (xg_const) ?_
  refine xg_t (xg_istore (l1 := [(0, (2, 82)), (1, (0, sa)), (2, (0, kk))]) rfl rfl rfl) ?_
  refine xg_t (xg_const) ?_
  refine xg_t (xg_istore (l1 := [(3, (0, 0)), (0, (2, 82)), (1, (0, sa)), (2, (0, kk))]) rfl rfl rfl) ?_
  refine xg_t (xg_drop (l1 := [(0, (2, 82)), (1, (0, sa)), (2, (0, kk)), (3, (0, 0)), (4, (0, 0))]) (List.forall_mem_cons.mpr ⟨List.mem_cons_of_mem _ (List.mem_cons_of_mem _ (List.mem_cons_self)), List.forall_mem_cons.mpr ⟨List.mem_cons_of_mem _ (List.mem_cons_of_mem _ (List.mem_cons_of_mem _ (List.mem_cons_self))), List.forall_mem_cons.mpr ⟨List.mem_cons_of_mem _ (List.mem_cons_of_mem _ (List.mem_cons_of_mem _ (List.mem_cons_of_mem _ (List.mem_cons_self)))), List.forall_mem_cons.mpr ⟨List.mem_cons_of_mem _ (List.mem_cons_self), List.forall_mem_cons.mpr ⟨List.mem_cons_self, fun _ h => absurd h List.not_mem_nil⟩⟩⟩⟩⟩)) ?_
  have key36 : ∀ (m38 : Nat) (is_ ji : Nat) (w39 : List (List xE)), 4 - ji < m38 → is_ ≤ 1 → ji ≤ 4 → xMnv w39 → xFr [] w w39 → ((is_ = 1 ∧ ∃ m, m < ji ∧ rwv w 86 (50 + 2 * m) = sa) ∨ (is_ = 0 ∧ ∀ m, m < ji → rwv w 86 (50 + 2 * m) ≠ sa)) ∧ ji ≤ kk → xTo d mX12_isLifeTold (5, [], [(0, (2, 82)), (1, (0, sa)), (2, (0, kk)), (3, (0, is_)), (4, (0, ji))], [], (w39, bd, fc, 0, 0, rr)) (fun φ => ∃ n w', xEnd 4 [(0, n)] (w', bd, fc, 0, 0, rr) φ ∧ ((n = 1 ∧ ∃ m, m < kk ∧ m < 4 ∧ rwv w 86 (50 + 2 * m) = sa) ∨ (n = 0 ∧ ∀ m, m < kk → m < 4 → rwv w 86 (50 + 2 * m) ≠ sa)) ∧ xMnv w' ∧ xFr [] w w') := by
    intro m38
    induction m38 with
    | zero => intro is_ ji w39 hz; exact absurd hz (Nat.not_lt_zero _)
    | succ m38 ih37 =>
      intro is_ ji w39 hm45 hn42 hn43 hI40 hF41 he44
      obtain ⟨he46, he47⟩ := he44
      refine xg_t (xg_blk (b := [(5, 2, 2, 4, 0, 0), (7, 1, 2, 2, 0, 0), (8, 3, 6, 49, 3, 0), (11, 2, 2, 4, 0, 0), (13, 1, 3, 4, 0, 0), (14, 3, 6, 49, 3, 0), (17, 1, 2, 3, 0, 0), (18, 3, 7, 37, 1, 0), (21, 1, 0, 0, 0, 0), (22, 3, 1, 12, 12, 20), (25, 2, 4, 50, 0, 0), (27, 1, 3, 2, 0, 0), (28, 2, 2, 4, 0, 0), (30, 1, 16, 0, 0, 0), (31, 1, 11, 0, 0, 0), (32, 1, 10, 0, 0, 0), (33, 1, 2, 1, 0, 0), (34, 3, 6, 41, 1, 0)]) rfl) ?_
      refine xg_t (xg_iload (va := (0, ji)) rfl rfl) ?_
      refine xg_t (xg_iload (va := (0, kk)) rfl rfl) ?_
      by_cases hc48 : ji < kk
      · refine xg_t (xg_icF (u := ji) (v := kk) rfl xnm0 xnm0 (xj_geF hc48 (by omega))) ?_
        refine xg_t (xg_iload (va := (0, ji)) rfl rfl) ?_
        refine xg_t (xg_const) ?_
        by_cases hc49 : ji < 4
        · refine xg_t (xg_icF (u := ji) (v := 4) rfl xnm0 xnm0 (xj_geF hc49 (by omega))) ?_
          refine xg_t (xg_iload (va := (0, is_)) rfl rfl) ?_
          by_cases hc50 : is_ = 0
          · refine xg_t (xg_ifF (u := is_) rfl xnm0 (xj_neF hc50)) ?_
            refine xg_t (xg_aload (va := (2, 82)) rfl rfl) ?_
            refine xg_t (xg_getf (va := (2, 86)) (hF41.get (by decide) h82_31) rfl) ?_
            refine xg_t (xg_bip) ?_
            refine xg_t (xg_const) ?_
            refine xg_t (xg_iload (va := (0, ji)) rfl rfl) ?_
            refine xg_t (xg_imul (u := 2) (v := ji) (z := 2 * ji) xnm0 xnm0 (by omega)) ?_
            refine xg_t (xg_iadd (u := 50) (v := 2 * ji) (z := 50 + (2 * ji)) xnm0 xnm0 (by omega)) ?_
            refine xg_ialdB (n := 50 + (2 * ji)) (B := 4294967295) (h86_34.fr hF41 (by decide)) (hb35) xnm0 (by omega) (fun u51 hu52 he53 => ?_)
            have hq54 : rwv w 86 (50 + 2 * ji) = u51 := (rwv_of h86_34 (by omega)).trans he53
            refine xg_t (xg_iload (va := (0, sa)) rfl rfl) ?_
            by_cases hc55 : u51 = sa
            · refine xg_t (xg_icF (u := u51) (v := sa) rfl xnm0 xnm0 (xj_neF hc55)) ?_
              refine xg_t (xg_blk (b := [(37, 1, 3, 1, 0, 0), (38, 3, 8, 42, 0, 0)]) rfl) ?_
              refine xg_t (xg_const) ?_
              refine xg_t (xg_goto) ?_
              refine xg_t (xg_blk (b := [(42, 1, 15, 3, 0, 0), (43, 3, 9, 4, 1, 0), (46, 3, 8, 5, 0, 0)]) rfl) ?_
              refine xg_t (xg_istore (l1 := [(0, (2, 82)), (1, (0, sa)), (2, (0, kk)), (4, (0, ji))]) rfl rfl rfl) ?_
              refine xg_t (xg_iinc (u := ji) (z := ji + 1) (l1 := [(3, (0, 1)), (0, (2, 82)), (1, (0, sa)), (2, (0, kk))]) rfl rfl (by omega) rfl) ?_
              refine xg_t (xg_goto) ?_
              refine xg_t (xg_drop (l1 := [(0, (2, 82)), (1, (0, sa)), (2, (0, kk)), (3, (0, 1)), (4, (0, ji + 1))]) (List.forall_mem_cons.mpr ⟨List.mem_cons_of_mem _ (List.mem_cons_of_mem _ (List.mem_cons_self)), List.forall_mem_cons.mpr ⟨List.mem_cons_of_mem _ (List.mem_cons_of_mem _ (List.mem_cons_of_mem _ (List.mem_cons_self))), List.forall_mem_cons.mpr ⟨List.mem_cons_of_mem _ (List.mem_cons_of_mem _ (List.mem_cons_of_mem _ (List.mem_cons_of_mem _ (List.mem_cons_self)))), List.forall_mem_cons.mpr ⟨List.mem_cons_of_mem _ (List.mem_cons_self), List.forall_mem_cons.mpr ⟨List.mem_cons_self, fun _ h => absurd h List.not_mem_nil⟩⟩⟩⟩⟩)) ?_
              exact ih37 1 (ji + 1) w39 (by omega) (by omega) (by omega) (hI40) (hF41) (⟨Or.inl ⟨rfl, ji, by omega, by omega⟩, by omega⟩)
            · refine xg_t (xg_icT (u := u51) (v := sa) rfl xnm0 xnm0 (xj_neT hc55)) ?_
              refine xg_t (xg_blk (b := [(41, 1, 3, 0, 0, 0)]) rfl) ?_
              refine xg_t (xg_const) ?_
              refine xg_t (xg_blk (b := [(42, 1, 15, 3, 0, 0), (43, 3, 9, 4, 1, 0), (46, 3, 8, 5, 0, 0)]) rfl) ?_
              refine xg_t (xg_istore (l1 := [(0, (2, 82)), (1, (0, sa)), (2, (0, kk)), (4, (0, ji))]) rfl rfl rfl) ?_
              refine xg_t (xg_iinc (u := ji) (z := ji + 1) (l1 := [(3, (0, 0)), (0, (2, 82)), (1, (0, sa)), (2, (0, kk))]) rfl rfl (by omega) rfl) ?_
              refine xg_t (xg_goto) ?_
              refine xg_t (xg_drop (l1 := [(0, (2, 82)), (1, (0, sa)), (2, (0, kk)), (3, (0, 0)), (4, (0, ji + 1))]) (List.forall_mem_cons.mpr ⟨List.mem_cons_of_mem _ (List.mem_cons_of_mem _ (List.mem_cons_self)), List.forall_mem_cons.mpr ⟨List.mem_cons_of_mem _ (List.mem_cons_of_mem _ (List.mem_cons_of_mem _ (List.mem_cons_self))), List.forall_mem_cons.mpr ⟨List.mem_cons_of_mem _ (List.mem_cons_of_mem _ (List.mem_cons_of_mem _ (List.mem_cons_of_mem _ (List.mem_cons_self)))), List.forall_mem_cons.mpr ⟨List.mem_cons_of_mem _ (List.mem_cons_self), List.forall_mem_cons.mpr ⟨List.mem_cons_self, fun _ h => absurd h List.not_mem_nil⟩⟩⟩⟩⟩)) ?_
              have hy57 : ∀ m, m < ji + 1 → rwv w 86 (50 + 2 * m) ≠ sa := fun m hm => by
                rcases he46 with ⟨z, -⟩ | ⟨-, z⟩
                · omega
                · by_cases e : m = ji
                  · rw [e]; omega
                  · exact z m (by omega)
              exact ih37 0 (ji + 1) w39 (by omega) (by omega) (by omega) (hI40) (hF41) (⟨Or.inr ⟨rfl, hy57⟩, by omega⟩)
          · refine xg_t (xg_ifT (u := is_) rfl xnm0 (xj_neT hc50)) ?_
            refine xg_t (xg_blk (b := [(37, 1, 3, 1, 0, 0), (38, 3, 8, 42, 0, 0)]) rfl) ?_
            refine xg_t (xg_const) ?_
            refine xg_t (xg_goto) ?_
            refine xg_t (xg_blk (b := [(42, 1, 15, 3, 0, 0), (43, 3, 9, 4, 1, 0), (46, 3, 8, 5, 0, 0)]) rfl) ?_
            refine xg_t (xg_istore (l1 := [(0, (2, 82)), (1, (0, sa)), (2, (0, kk)), (4, (0, ji))]) rfl rfl rfl) ?_
            refine xg_t (xg_iinc (u := ji) (z := ji + 1) (l1 := [(3, (0, 1)), (0, (2, 82)), (1, (0, sa)), (2, (0, kk))]) rfl rfl (by omega) rfl) ?_
            refine xg_t (xg_goto) ?_
            refine xg_t (xg_drop (l1 := [(0, (2, 82)), (1, (0, sa)), (2, (0, kk)), (3, (0, 1)), (4, (0, ji + 1))]) (List.forall_mem_cons.mpr ⟨List.mem_cons_of_mem _ (List.mem_cons_of_mem _ (List.mem_cons_self)), List.forall_mem_cons.mpr ⟨List.mem_cons_of_mem _ (List.mem_cons_of_mem _ (List.mem_cons_of_mem _ (List.mem_cons_self))), List.forall_mem_cons.mpr ⟨List.mem_cons_of_mem _ (List.mem_cons_of_mem _ (List.mem_cons_of_mem _ (List.mem_cons_of_mem _ (List.mem_cons_self)))), List.forall_mem_cons.mpr ⟨List.mem_cons_of_mem _ (List.mem_cons_self), List.forall_mem_cons.mpr ⟨List.mem_cons_self, fun _ h => absurd h List.not_mem_nil⟩⟩⟩⟩⟩)) ?_
            have hy58 : ∃ m, m < ji ∧ rwv w 86 (50 + 2 * m) = sa := by
              rcases he46 with ⟨-, z⟩ | ⟨z, -⟩
              · exact z
              · omega
            exact ih37 1 (ji + 1) w39 (by omega) (by omega) (by omega) (hI40) (hF41) (⟨Or.inl ⟨rfl, hy58.elim (fun m z => ⟨m, by omega, z.2⟩)⟩, by omega⟩)
        · refine xg_t (xg_icT (u := ji) (v := 4) rfl xnm0 xnm0 (xj_geT (by omega) (by omega))) ?_
          refine xg_t (xg_blk (b := [(49, 1, 2, 3, 0, 0), (50, 1, 12, 0, 1, 0)]) rfl) ?_
          refine xg_t (xg_iload (va := (0, is_)) rfl rfl) ?_
          have hy59 : (is_ = 1 ∧ ∃ m, m < kk ∧ m < 4 ∧ rwv w 86 (50 + 2 * m) = sa) ∨ (is_ = 0 ∧ ∀ m, m < kk → m < 4 → rwv w 86 (50 + 2 * m) ≠ sa) := by
            rcases he46 with ⟨z1, m, z2, z3⟩ | ⟨z1, z2⟩
            · exact Or.inl ⟨z1, m, by omega, by omega, z3⟩
            · exact Or.inr ⟨z1, fun m a b => z2 m (by omega)⟩
          exact xg_e ⟨is_, w39, ⟨xret_b (by omega), rfl⟩, hy59, hI40, hF41⟩
      · refine xg_t (xg_icT (u := ji) (v := kk) rfl xnm0 xnm0 (xj_geT (by omega) (by omega))) ?_
        refine xg_t (xg_blk (b := [(49, 1, 2, 3, 0, 0), (50, 1, 12, 0, 1, 0)]) rfl) ?_
        refine xg_t (xg_iload (va := (0, is_)) rfl rfl) ?_
        have hy60 : (is_ = 1 ∧ ∃ m, m < kk ∧ m < 4 ∧ rwv w 86 (50 + 2 * m) = sa) ∨ (is_ = 0 ∧ ∀ m, m < kk → m < 4 → rwv w 86 (50 + 2 * m) ≠ sa) := by
          rcases he46 with ⟨z1, m, z2, z3⟩ | ⟨z1, z2⟩
          · exact Or.inl ⟨z1, m, by omega, by omega, z3⟩
          · exact Or.inr ⟨z1, fun m a b => z2 m (by omega)⟩
        exact xg_e ⟨is_, w39, ⟨xret_b (by omega), rfl⟩, hy60, hI40, hF41⟩
  exact key36 _ 0 0 w (Nat.lt_succ_self _) (by omega) (by omega) (hI) (xFr.rf) (⟨Or.inr ⟨rfl, fun m hm => absurd hm (Nat.not_lt_zero _)⟩, Nat.zero_le _⟩)
end XFMB
