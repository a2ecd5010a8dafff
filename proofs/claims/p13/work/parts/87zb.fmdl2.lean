section
/-! the model: lines of films, to the last number -/
section XFMB
variable {d : Nat} {w : List (List xE)} {bd : List (Nat × Nat)} {fc : List (Nat × Nat × Bool)} {rr : Nat × Nat}
theorem mEndsX (hI : xMnv w) (h10 : fld w 82 10 = 0) : xPq d mX12_ends [(2, 82)] w bd fc rr [] (fun w' => xMnv w' ∧ xFr [82, 83] w w' ∧ (fld w' 82 10 = 1 ∧ rwv w' 83 16 = 1 ∧ rwv w' 83 17 = fld w 82 6 ∧ fld w' 82 14 = fld w 82 14 ∧ K83 w w')) := by
  refine xPq.of ?_
  show xTo d mX12_ends (0, [], [(0, (2, 82))], [], (w, bd, fc, 0, 0, rr)) (fun φ => ∃ w', xEnd 0 [] (w', bd, fc, 0, 0, rr) φ ∧ xMnv w' ∧ xFr [82, 83] w w' ∧ (fld w' 82 10 = 1 ∧ rwv w' 83 16 = 1 ∧ rwv w' 83 17 = fld w 82 6 ∧ fld w' 82 14 = fld w 82 14 ∧ K83 w w'))
  refine xoCh82 (hI 82 (by decide) (by decide) : cp82 (wget w 82)) (fun f82_1 f82_3 f82_5 f82_7 f82_9 f82_11 f82_13 f82_15 f82_17 f82_19 f82_21 f82_22 f82_23 f82_25 f82_27 f82_29 h82_31 hb2 hb4 hb6 hb8 hb10 hb12 hb14 hb16 hb18 hb20 hb24 hb26 hb28 hb30 hb32 => ?_)
  refine xoX83 (hI 83 (by decide) (by decide) : cpx83 (wget w 83)) (fun g83_33 h83_34 hb35 hx36 => ?_)
  have hf37 : fld w 82 6 = f82_9 := fld_of h82_31
  have hf38 : fld w 82 10 = f82_17 := fld_of h82_31
  have hf39 : fld w 82 14 = f82_19 := fld_of h82_31
  refine xg_t (xg_blk (b := [(0, 1, 0, 0, 0, 0), (1, 3, 1, 12, 10, 180), (4, 3, 7, 8, 0, 0), (7, 1, 12, 0, 0, 0)]) rfl) ?_
  refine xg_t (xg_aload (va := (2, 82)) rfl rfl) ?_
  refine xg_t (xg_getf (va := (0, f82_17)) h82_31 rfl) ?_
  refine xg_t (xg_ifT (u := f82_17) rfl xnm0 (xj_eqT (by omega))) ?_
  refine xg_t (xg_blk (b := [(8, 1, 0, 0, 0, 0), (9, 1, 3, 1, 0, 0), (10, 3, 59, 12, 10, 180), (13, 1, 0, 0, 0, 0), (14, 3, 1, 12, 0, 7), (17, 2, 4, 16, 0, 0), (19, 1, 3, 1, 0, 0), (20, 1, 17, 0, 0, 0), (21, 1, 0, 0, 0, 0), (22, 3, 1, 12, 0, 7), (25, 2, 4, 17, 0, 0), (27, 1, 0, 0, 0, 0), (28, 3, 1, 12, 6, 148), (31, 1, 17, 0, 0, 0), (32, 1, 12, 0, 0, 0)]) rfl) ?_
  refine xg_t (xg_aload (va := (2, 82)) rfl rfl) ?_
  refine xg_t (xg_const) ?_
  refine xg_putZ (fl1 := [(2, 83), (2, 84), (0, f82_1), (0, f82_3), (0, f82_5), (0, f82_7), (0, f82_9), (0, f82_11), (0, f82_13), (0, f82_15), (0, 1), (2, 85), (2, 86), (2, 87), (0, f82_19), (2, 88), (2, 89), (2, 90), (2, 91), (2, 92), (2, 93), (2, 94), (4, f82_21), (4, f82_22), (0, f82_23), (2, 95), (2, 96), (2, 97), (2, 98), (2, 99), (2, 100), (2, 101), (2, 102), (0, f82_25), (2, 103), (2, 104), (2, 105), (2, 106), (2, 107), (2, 108), (2, 109), (0, f82_27), (0, f82_29), (2, 110), (2, 111), (2, 112), (2, 113)]) h82_31 rfl rfl rfl (fun w40 hk41 hb42 => ?_)
  refine xg_t (xg_aload (va := (2, 82)) rfl rfl) ?_
  refine xg_t (xg_getf (va := (2, 83)) hk41 rfl) ?_
  refine xg_t (xg_bip) ?_
  refine xg_t (xg_const) ?_
  refine xg_iastK (n := 16) (u := 1) (h83_34.but hb42 (by decide)) xnm0 xnm0 rfl (by first | decide | omega) (fun w43 hr44 hb45 => ?_)
  have hx46 : okA (fun j => if j = 16 then 1 else g83_33 j) := hx36.upd (by omega) (by omega) (by omega) (fun _ => by omega) (by omega) (fun _ => by omega) (fun _ => by omega) (fun _ => by omega) (fun _ => by omega) (by omega) (fun _ _ => by omega)
  have hb47 : ∀ j, (fun j => if j = 16 then 1 else g83_33 j) j ≤ 4294967295 := xrb (by omega) (hb35)
  obtain ⟨g48, hg49⟩ : ∃ g : Nat → Nat, g = (fun j => if j = 16 then 1 else g83_33 j) := ⟨_, rfl⟩
  rw [← hg49] at hr44
  have he50 : g48 16 = 1 := by rw [hg49]; exact if_pos rfl
  have hk51 : ∀ j, j ≠ 16 → g48 j = g83_33 j := fun j hj => by rw [hg49]; exact if_neg hj
  rw [← hg49] at hx46
  rw [← hg49] at hb47
  refine xg_t (xg_aload (va := (2, 82)) rfl rfl) ?_
  refine xg_t (xg_getf (va := (2, 83)) (hb45.get (by decide) hk41) rfl) ?_
  refine xg_t (xg_bip) ?_
  refine xg_t (xg_aload (va := (2, 82)) rfl rfl) ?_
  refine xg_t (xg_getf (va := (0, f82_9)) (hb45.get (by decide) hk41) rfl) ?_
  have hn52 : f82_9 ≤ 4294967295 := hb10
  refine xg_iastK (n := 17) (u := f82_9) hr44 xnm0 xnm0 rfl (by first | decide | omega) (fun w53 hr54 hb55 => ?_)
  have hx56 : okA (fun j => if j = 17 then f82_9 else g48 j) := hx46.upd (by omega) (by omega) (by omega) (fun _ => by omega) (by omega) (fun _ => by omega) (fun _ => by omega) (fun _ => by omega) (fun _ => by omega) (by omega) (fun _ _ => by omega)
  have hb57 : ∀ j, (fun j => if j = 17 then f82_9 else g48 j) j ≤ 4294967295 := xrb (by omega) (hb47)
  obtain ⟨g58, hg59⟩ : ∃ g : Nat → Nat, g = (fun j => if j = 17 then f82_9 else g48 j) := ⟨_, rfl⟩
  rw [← hg59] at hr54
  have he60 : g58 17 = f82_9 := by rw [hg59]; exact if_pos rfl
  have hk61 : ∀ j, j ≠ 17 → g58 j = g48 j := fun j hj => by rw [hg59]; exact if_neg hj
  rw [← hg59] at hx56
  rw [← hg59] at hb57
  have hk62 : g58 16 = g48 16 := hk61 16 (by omega)
  have hq63 : rwv w53 83 16 = 1 := (rwv_of hr54 (by decide)).trans ((hk61 16 (by decide)).trans he50)
  have hq64 : rwv w53 83 17 = f82_9 := (rwv_of hr54 (by decide)).trans he60
  have hf65 : fld w53 82 10 = 1 := fld_of (hb55.get (by decide) (hb45.get (by decide) hk41))
  have hf66 : fld w53 82 14 = f82_19 := fld_of (hb55.get (by decide) (hb45.get (by decide) hk41))
  exact xg_e ⟨w53, ⟨rfl, rfl⟩, xMnv.up (S := [82, 83]) hI (((xFr.of (S := [82, 83]) hb42 (by decide)).tr (xFr.of (S := [82, 83]) hb45 (by decide))).tr (xFr.of (S := [82, 83]) hb55 (by decide))) (List.forall_mem_cons.mpr ⟨(show cp82 (wget w53 82) from xmC82 f82_1 f82_3 f82_5 f82_7 f82_9 f82_11 f82_13 f82_15 1 f82_19 f82_21 f82_22 f82_23 f82_25 f82_27 f82_29 (hb55.get (by decide) (hb45.get (by decide) hk41)) hb2 hb4 hb6 hb8 hb10 hb12 hb14 hb16 (by decide) hb20 hb24 hb26 hb28 hb30 (by omega)), List.forall_mem_cons.mpr ⟨(show cpx83 (wget w53 83) from ⟨_, hr54, hb57, hx56⟩), fun _ h => absurd h List.not_mem_nil⟩⟩), (((xFr.of (S := [82, 83]) hb42 (by decide)).tr (xFr.of (S := [82, 83]) hb45 (by decide))).tr (xFr.of (S := [82, 83]) hb55 (by decide))), ⟨by omega, by omega, by omega, by omega, K83.st h83_34 hr54 (fun j h16 h17 => by rw [hk61 j (by omega), hk51 j (by omega)])⟩⟩
theorem mEndsW (hI : xMnv w) (h10 : fld w 82 10 ≠ 0) : xPq d mX12_ends [(2, 82)] w bd fc rr [] (fun w' => xMnv w' ∧ xFr [] w w') := by
  refine xPq.of ?_
  show xTo d mX12_ends (0, [], [(0, (2, 82))], [], (w, bd, fc, 0, 0, rr)) (fun φ => ∃ w', xEnd 0 [] (w', bd, fc, 0, 0, rr) φ ∧ xMnv w' ∧ xFr [] w w')
  refine xoCh82 (hI 82 (by decide) (by decide) : cp82 (wget w 82)) (fun f82_1 f82_3 f82_5 f82_7 f82_9 f82_11 f82_13 f82_15 f82_17 f82_19 f82_21 f82_22 f82_23 f82_25 f82_27 f82_29 h82_31 hb2 hb4 hb6 hb8 hb10 hb12 hb14 hb16 hb18 hb20 hb24 hb26 hb28 hb30 hb32 => ?_)
  have hf33 : fld w 82 10 = f82_17 := fld_of h82_31
  refine xg_t (xg_blk (b := [(0, 1, 0, 0, 0, 0), (1, 3, 1, 12, 10, 180), (4, 3, 7, 8, 0, 0), (7, 1, 12, 0, 0, 0)]) rfl) ?_
  refine xg_t (xg_aload (va := (2, 82)) rfl rfl) ?_
  refine xg_t (xg_getf (va := (0, f82_17)) h82_31 rfl) ?_
  refine xg_t (xg_ifF (u := f82_17) rfl xnm0 (xj_eqF (by omega))) ?_
  exact xg_e ⟨w, ⟨rfl, rfl⟩, hI, xFr.rf⟩
theorem mAlsoX {fp : Nat × Nat} {ki at_ : Nat} (hI : xMnv w) (hki : ki ≤ 9) (hk1 : 1 ≤ ki) (hat : at_ ≤ 500) (h10 : fld w 82 10 = 0) (hf : FP w fp) : xPq d mX12_also [(2, 82), (0, ki), (0, at_)] w bd fc rr [] (fun w' => xMnv w' ∧ xFr [83] w w' ∧ (FP w' (alo fp ki at_) ∧ K83 w w')) := by
  refine xPq.of ?_
  show xTo d mX12_also (0, [], [(0, (2, 82)), (1, (0, ki)), (2, (0, at_))], [], (w, bd, fc, 0, 0, rr)) (fun φ => ∃ w', xEnd 0 [] (w', bd, fc, 0, 0, rr) φ ∧ xMnv w' ∧ xFr [83] w w' ∧ (FP w' (alo fp ki at_) ∧ K83 w w'))
  refine xoCh82 (hI 82 (by decide) (by decide) : cp82 (wget w 82)) (fun f82_1 f82_3 f82_5 f82_7 f82_9 f82_11 f82_13 f82_15 f82_17 f82_19 f82_21 f82_22 f82_23 f82_25 f82_27 f82_29 h82_31 hb2 hb4 hb6 hb8 hb10 hb12 hb14 hb16 hb18 hb20 hb24 hb26 hb28 hb30 hb32 => ?_)
  refine xoX83 (hI 83 (by decide) (by decide) : cpx83 (wget w 83)) (fun g83_33 h83_34 hb35 hx36 => ?_)
  have hf37 : fld w 82 10 = f82_17 := fld_of h82_31
  obtain ⟨hf1, hf2, hf3, -⟩ := id hf
  refine xg_t (xg_blk (b := [(0, 1, 0, 0, 0, 0), (1, 3, 1, 12, 10, 180), (4, 3, 7, 50, 1, 0), (7, 1, 0, 0, 0, 0), (8, 3, 1, 12, 0, 7), (11, 2, 4, 16, 0, 0), (13, 1, 10, 0, 0, 0), (14, 3, 7, 51, 0, 0), (17, 1, 0, 0, 0, 0), (18, 3, 1, 12, 0, 7), (21, 2, 4, 17, 0, 0), (23, 1, 10, 0, 0, 0), (24, 1, 2, 2, 0, 0), (25, 3, 6, 50, 2, 0), (28, 1, 0, 0, 0, 0), (29, 3, 1, 12, 0, 7), (32, 2, 4, 17, 0, 0), (34, 1, 10, 0, 0, 0), (35, 1, 2, 2, 0, 0), (36, 3, 6, 51, 1, 0), (39, 1, 0, 0, 0, 0), (40, 3, 1, 12, 0, 7), (43, 2, 4, 16, 0, 0), (45, 1, 10, 0, 0, 0), (46, 1, 2, 1, 0, 0), (47, 3, 6, 51, 4, 0)]) rfl) ?_
  refine xg_t (xg_aload (va := (2, 82)) rfl rfl) ?_
  refine xg_t (xg_getf (va := (0, f82_17)) h82_31 rfl) ?_
  refine xg_t (xg_ifF (u := f82_17) rfl xnm0 (xj_neF (by omega))) ?_
  refine xg_t (xg_aload (va := (2, 82)) rfl rfl) ?_
  refine xg_t (xg_getf (va := (2, 83)) h82_31 rfl) ?_
  refine xg_t (xg_bip) ?_
  refine xg_ialdB (n := 16) (B := 4294967295) h83_34 (hb35) xnm0 (by first | decide | omega) (fun u38 hu39 he40 => ?_)
  have hq41 : rwv w 83 16 = u38 := (rwv_of h83_34 (by decide)).trans he40
  have hq42 : rwv w 83 16 = u38 := (rwv_of h83_34 (by decide)).trans he40
  have hl43 : u38 ≤ 9 := by omega
  by_cases hc44 : u38 = 0
  · refine xg_t (xg_ifT (u := u38) rfl xnm0 (xj_eqT hc44)) ?_
    refine xg_t (xg_blk (b := [(51, 1, 0, 0, 0, 0), (52, 3, 1, 12, 0, 7), (55, 2, 4, 16, 0, 0), (57, 1, 2, 1, 0, 0), (58, 1, 17, 0, 0, 0), (59, 1, 0, 0, 0, 0), (60, 3, 1, 12, 0, 7), (63, 2, 4, 17, 0, 0), (65, 1, 2, 2, 0, 0), (66, 1, 17, 0, 0, 0), (67, 1, 12, 0, 0, 0)]) rfl) ?_
    refine xg_t (xg_aload (va := (2, 82)) rfl rfl) ?_
    refine xg_t (xg_getf (va := (2, 83)) h82_31 rfl) ?_
    refine xg_t (xg_bip) ?_
    refine xg_t (xg_iload (va := (0, ki)) rfl rfl) ?_
    refine xg_iastK (n := 16) (u := ki) h83_34 xnm0 xnm0 rfl (by first | decide | omega) (fun w45 hr46 hb47 => ?_)
    have hx48 : okA (fun j => if j = 16 then ki else g83_33 j) := hx36.upd (by omega) (by omega) (by omega) (fun _ => by omega) (by omega) (fun _ => by omega) (fun _ => by omega) (fun _ => by omega) (fun _ => by omega) (by omega) (fun _ _ => by omega)
    have hb49 : ∀ j, (fun j => if j = 16 then ki else g83_33 j) j ≤ 4294967295 := xrb (by omega) (hb35)
    obtain ⟨g50, hg51⟩ : ∃ g : Nat → Nat, g = (fun j => if j = 16 then ki else g83_33 j) := ⟨_, rfl⟩
    rw [← hg51] at hr46
    have he52 : g50 16 = ki := by rw [hg51]; exact if_pos rfl
    have hk53 : ∀ j, j ≠ 16 → g50 j = g83_33 j := fun j hj => by rw [hg51]; exact if_neg hj
    rw [← hg51] at hx48
    rw [← hg51] at hb49
    refine xg_t (xg_aload (va := (2, 82)) rfl rfl) ?_
    refine xg_t (xg_getf (va := (2, 83)) (hb47.get (by decide) h82_31) rfl) ?_
    refine xg_t (xg_bip) ?_
    refine xg_t (xg_iload (va := (0, at_)) rfl rfl) ?_
    refine xg_iastK (n := 17) (u := at_) hr46 xnm0 xnm0 rfl (by first | decide | omega) (fun w54 hr55 hb56 => ?_)
    have hx57 : okA (fun j => if j = 17 then at_ else g50 j) := hx48.upd (by omega) (by omega) (by omega) (fun _ => by omega) (by omega) (fun _ => by omega) (fun _ => by omega) (fun _ => by omega) (fun _ => by omega) (by omega) (fun _ _ => by omega)
    have hb58 : ∀ j, (fun j => if j = 17 then at_ else g50 j) j ≤ 4294967295 := xrb (by omega) (hb49)
    obtain ⟨g59, hg60⟩ : ∃ g : Nat → Nat, g = (fun j => if j = 17 then at_ else g50 j) := ⟨_, rfl⟩
    rw [← hg60] at hr55
    have he61 : g59 17 = at_ := by rw [hg60]; exact if_pos rfl
    have hk62 : ∀ j, j ≠ 17 → g59 j = g50 j := fun j hj => by rw [hg60]; exact if_neg hj
    rw [← hg60] at hx57
    rw [← hg60] at hb58
    have hq63 : rwv w54 83 16 = ki := (rwv_of hr55 (by decide)).trans ((hk62 16 (by decide)).trans he52)
    have hq64 : rwv w54 83 17 = at_ := (rwv_of hr55 (by decide)).trans he61
    exact xg_e ⟨w54, ⟨rfl, rfl⟩, xMnv.up (S := [83]) hI ((xFr.of (S := [83]) hb47 (by decide)).tr (xFr.of (S := [83]) hb56 (by decide))) (List.forall_mem_cons.mpr ⟨(show cpx83 (wget w54 83) from ⟨_, hr55, hb58, hx57⟩), fun _ h => absurd h List.not_mem_nil⟩), ((xFr.of (S := [83]) hb47 (by decide)).tr (xFr.of (S := [83]) hb56 (by decide))), ⟨by rw [alo_n (fun z => by omega)]; exact ⟨hq63, fun _ => ⟨hq64, hat⟩, hki, fun z => absurd z (show ¬ ki = 0 by omega)⟩, K83.st h83_34 hr55 (fun j h16 h17 => by rw [hk62 j (by omega), hk53 j (by omega)])⟩⟩
  · refine xg_t (xg_ifF (u := u38) rfl xnm0 (xj_eqF hc44)) ?_
    have hp_ := hf2 (by omega)
    refine xg_t (xg_aload (va := (2, 82)) rfl rfl) ?_
    refine xg_t (xg_getf (va := (2, 83)) h82_31 rfl) ?_
    refine xg_t (xg_bip) ?_
    refine xg_ialdB (n := 17) (B := 4294967295) h83_34 (hb35) xnm0 (by first | decide | omega) (fun u65 hu66 he67 => ?_)
    have hq68 : rwv w 83 17 = u65 := (rwv_of h83_34 (by decide)).trans he67
    have hq69 : rwv w 83 17 = u65 := (rwv_of h83_34 (by decide)).trans he67
    have hl70 : u65 ≤ 500 := by omega
    refine xg_t (xg_iload (va := (0, at_)) rfl rfl) ?_
    by_cases hc71 : u65 < at_
    · refine xg_t (xg_icT (u := u65) (v := at_) rfl xnm0 xnm0 (xj_ltT hc71 (by omega))) ?_
      refine xg_t (xg_blk (b := [(50, 1, 12, 0, 0, 0)]) rfl) ?_
      exact xg_e ⟨w, ⟨rfl, rfl⟩, hI, xFr.rf, ⟨by rw [alo_y ⟨by omega, by omega⟩]; exact hf, K83.rf⟩⟩
    · refine xg_t (xg_icF (u := u65) (v := at_) rfl xnm0 xnm0 (xj_ltF (by omega) (by omega))) ?_
      refine xg_t (xg_aload (va := (2, 82)) rfl rfl) ?_
      refine xg_t (xg_getf (va := (2, 83)) h82_31 rfl) ?_
      refine xg_t (xg_bip) ?_
      refine xg_ialdB (n := 17) (B := 4294967295) h83_34 (hb35) xnm0 (by first | decide | omega) (fun u72 hu73 he74 => ?_)
      have hq75 : rwv w 83 17 = u72 := (rwv_of h83_34 (by decide)).trans he74
      have hl76 : u72 ≤ 500 := by omega
      refine xg_t (xg_iload (va := (0, at_)) rfl rfl) ?_
      by_cases hc77 : u72 = at_
      · refine xg_t (xg_icF (u := u72) (v := at_) rfl xnm0 xnm0 (xj_neF hc77)) ?_
        refine xg_t (xg_aload (va := (2, 82)) rfl rfl) ?_
        refine xg_t (xg_getf (va := (2, 83)) h82_31 rfl) ?_
        refine xg_t (xg_bip) ?_
        refine xg_ialdB (n := 16) (B := 4294967295) h83_34 (hb35) xnm0 (by first | decide | omega) (fun u78 hu79 he80 => ?_)
        have hq81 : rwv w 83 16 = u78 := (rwv_of h83_34 (by decide)).trans he80
        have hl82 : u78 ≤ 9 := by omega
        refine xg_t (xg_iload (va := (0, ki)) rfl rfl) ?_
        by_cases hc83 : ki < u78
        · refine xg_t (xg_icT (u := u78) (v := ki) rfl xnm0 xnm0 (xj_gtT hc83 (by omega))) ?_
          refine xg_t (xg_blk (b := [(51, 1, 0, 0, 0, 0), (52, 3, 1, 12, 0, 7), (55, 2, 4, 16, 0, 0), (57, 1, 2, 1, 0, 0), (58, 1, 17, 0, 0, 0), (59, 1, 0, 0, 0, 0), (60, 3, 1, 12, 0, 7), (63, 2, 4, 17, 0, 0), (65, 1, 2, 2, 0, 0), (66, 1, 17, 0, 0, 0), (67, 1, 12, 0, 0, 0)]) rfl) ?_
          refine xg_t (xg_aload (va := (2, 82)) rfl rfl) ?_
          refine xg_t (xg_getf (va := (2, 83)) h82_31 rfl) ?_
          refine xg_t (xg_bip) ?_
          refine xg_t (xg_iload (va := (0, ki)) rfl rfl) ?_
          refine xg_iastK (n := 16) (u := ki) h83_34 xnm0 xnm0 rfl (by first | decide | omega) (fun w84 hr85 hb86 => ?_)
          have hx87 : okA (fun j => if j = 16 then ki else g83_33 j) := hx36.upd (by omega) (by omega) (by omega) (fun _ => by omega) (by omega) (fun _ => by omega) (fun _ => by omega) (fun _ => by omega) (fun _ => by omega) (by omega) (fun _ _ => by omega)
          have hb88 : ∀ j, (fun j => if j = 16 then ki else g83_33 j) j ≤ 4294967295 := xrb (by omega) (hb35)
          obtain ⟨g89, hg90⟩ : ∃ g : Nat → Nat, g = (fun j => if j = 16 then ki else g83_33 j) := ⟨_, rfl⟩
          rw [← hg90] at hr85
          have he91 : g89 16 = ki := by rw [hg90]; exact if_pos rfl
          have hk92 : ∀ j, j ≠ 16 → g89 j = g83_33 j := fun j hj => by rw [hg90]; exact if_neg hj
          rw [← hg90] at hx87
          rw [← hg90] at hb88
          refine xg_t (xg_aload (va := (2, 82)) rfl rfl) ?_
          refine xg_t (xg_getf (va := (2, 83)) (hb86.get (by decide) h82_31) rfl) ?_
          refine xg_t (xg_bip) ?_
          refine xg_t (xg_iload (va := (0, at_)) rfl rfl) ?_
          refine xg_iastK (n := 17) (u := at_) hr85 xnm0 xnm0 rfl (by first | decide | omega) (fun w93 hr94 hb95 => ?_)
          have hx96 : okA (fun j => if j = 17 then at_ else g89 j) := hx87.upd (by omega) (by omega) (by omega) (fun _ => by omega) (by omega) (fun _ => by omega) (fun _ => by omega) (fun _ => by omega) (fun _ => by omega) (by omega) (fun _ _ => by omega)
          have hb97 : ∀ j, (fun j => if j = 17 then at_ else g89 j) j ≤ 4294967295 := xrb (by omega) (hb88)
          obtain ⟨g98, hg99⟩ : ∃ g : Nat → Nat, g = (fun j => if j = 17 then at_ else g89 j) := ⟨_, rfl⟩
          rw [← hg99] at hr94
          have he100 : g98 17 = at_ := by rw [hg99]; exact if_pos rfl
          have hk101 : ∀ j, j ≠ 17 → g98 j = g89 j := fun j hj => by rw [hg99]; exact if_neg hj
          rw [← hg99] at hx96
          rw [← hg99] at hb97
          have hq102 : rwv w93 83 16 = ki := (rwv_of hr94 (by decide)).trans ((hk101 16 (by decide)).trans he91)
          have hq103 : rwv w93 83 17 = at_ := (rwv_of hr94 (by decide)).trans he100
          exact xg_e ⟨w93, ⟨rfl, rfl⟩, xMnv.up (S := [83]) hI ((xFr.of (S := [83]) hb86 (by decide)).tr (xFr.of (S := [83]) hb95 (by decide))) (List.forall_mem_cons.mpr ⟨(show cpx83 (wget w93 83) from ⟨_, hr94, hb97, hx96⟩), fun _ h => absurd h List.not_mem_nil⟩), ((xFr.of (S := [83]) hb86 (by decide)).tr (xFr.of (S := [83]) hb95 (by decide))), ⟨by rw [alo_n (fun z => by omega)]; exact ⟨hq102, fun _ => ⟨hq103, hat⟩, hki, fun z => absurd z (show ¬ ki = 0 by omega)⟩, K83.st h83_34 hr94 (fun j h16 h17 => by rw [hk101 j (by omega), hk92 j (by omega)])⟩⟩
        · refine xg_t (xg_icF (u := u78) (v := ki) rfl xnm0 xnm0 (xj_gtF (by omega) (by omega))) ?_
          refine xg_t (xg_blk (b := [(50, 1, 12, 0, 0, 0)]) rfl) ?_
          exact xg_e ⟨w, ⟨rfl, rfl⟩, hI, xFr.rf, ⟨by rw [alo_y ⟨by omega, by omega⟩]; exact hf, K83.rf⟩⟩
      · refine xg_t (xg_icT (u := u72) (v := at_) rfl xnm0 xnm0 (xj_neT hc77)) ?_
        refine xg_t (xg_blk (b := [(51, 1, 0, 0, 0, 0), (52, 3, 1, 12, 0, 7), (55, 2, 4, 16, 0, 0), (57, 1, 2, 1, 0, 0), (58, 1, 17, 0, 0, 0), (59, 1, 0, 0, 0, 0), (60, 3, 1, 12, 0, 7), (63, 2, 4, 17, 0, 0), (65, 1, 2, 2, 0, 0), (66, 1, 17, 0, 0, 0), (67, 1, 12, 0, 0, 0)]) rfl) ?_
        refine xg_t (xg_aload (va := (2, 82)) rfl rfl) ?_
        refine xg_t (xg_getf (va := (2, 83)) h82_31 rfl) ?_
        refine xg_t (xg_bip) ?_
        refine xg_t (xg_iload (va := (0, ki)) rfl rfl) ?_
        refine xg_iastK (n := 16) (u := ki) h83_34 xnm0 xnm0 rfl (by first | decide | omega) (fun w104 hr105 hb106 => ?_)
        have hx107 : okA (fun j => if j = 16 then ki else g83_33 j) := hx36.upd (by omega) (by omega) (by omega) (fun _ => by omega) (by omega) (fun _ => by omega) (fun _ => by omega) (fun _ => by omega) (fun _ => by omega) (by omega) (fun _ _ => by omega)
        have hb108 : ∀ j, (fun j => if j = 16 then ki else g83_33 j) j ≤ 4294967295 := xrb (by omega) (hb35)
        obtain ⟨g109, hg110⟩ : ∃ g : Nat → Nat, g = (fun j => if j = 16 then ki else g83_33 j) := ⟨_, rfl⟩
        rw [← hg110] at hr105
        have he111 : g109 16 = ki := by rw [hg110]; exact if_pos rfl
        have hk112 : ∀ j, j ≠ 16 → g109 j = g83_33 j := fun j hj => by rw [hg110]; exact if_neg hj
        rw [← hg110] at hx107
        rw [← hg110] at hb108
        refine xg_t (xg_aload (va := (2, 82)) rfl rfl) ?_
        refine xg_t (xg_getf (va := (2, 83)) (hb106.get (by decide) h82_31) rfl) ?_
        refine xg_t (xg_bip) ?_
        refine xg_t (xg_iload (va := (0, at_)) rfl rfl) ?_
        refine xg_iastK (n := 17) (u := at_) hr105 xnm0 xnm0 rfl (by first | decide | omega) (fun w113 hr114 hb115 => ?_)
        have hx116 : okA (fun j => if j = 17 then at_ else g109 j) := hx107.upd (by omega) (by omega) (by omega) (fun _ => by omega) (by omega) (fun _ => by omega) (fun _ => by omega) (fun _ => by omega) (fun _ => by omega) (by omega) (fun _ _ => by omega)
        have hb117 : ∀ j, (fun j => if j = 17 then at_ else g109 j) j ≤ 4294967295 := xrb (by omega) (hb108)
        obtain ⟨g118, hg119⟩ : ∃ g : Nat → Nat, g = (fun j => if j = 17 then at_ else g109 j) := ⟨_, rfl⟩
        rw [← hg119] at hr114
        have he120 : g118 17 = at_ := by rw [hg119]; exact if_pos rfl
        have hk121 : ∀ j, j ≠ 17 → g118 j = g109 j := fun j hj => by rw [hg119]; exact if_neg hj
        rw [← hg119] at hx116
        rw [← hg119] at hb117
        have hq122 : rwv w113 83 16 = ki := (rwv_of hr114 (by decide)).trans ((hk121 16 (by decide)).trans he111)
        have hq123 : rwv w113 83 17 = at_ := (rwv_of hr114 (by decide)).trans he120
        exact xg_e ⟨w113, ⟨rfl, rfl⟩, xMnv.up (S := [83]) hI ((xFr.of (S := [83]) hb106 (by decide)).tr (xFr.of (S := [83]) hb115 (by decide))) (List.forall_mem_cons.mpr ⟨(show cpx83 (wget w113 83) from ⟨_, hr114, hb117, hx116⟩), fun _ h => absurd h List.not_mem_nil⟩), ((xFr.of (S := [83]) hb106 (by decide)).tr (xFr.of (S := [83]) hb115 (by decide))), ⟨by rw [alo_n (fun z => by omega)]; exact ⟨hq122, fun _ => ⟨hq123, hat⟩, hki, fun z => absurd z (show ¬ ki = 0 by omega)⟩, K83.st h83_34 hr114 (fun j h16 h17 => by rw [hk121 j (by omega), hk112 j (by omega)])⟩⟩
theorem mAlsoW {ki at_ : Nat} (hI : xMnv w) (hki : ki ≤ 9) (hat : at_ ≤ 4294967295) (h10 : fld w 82 10 ≠ 0) : xPq (d + 1) mX12_also [(2, 82), (0, ki), (0, at_)] w bd fc rr [] (fun w' => xMnv w' ∧ xFr [] w w') := by
  refine xPq.of ?_
  show xTo (d + 1) mX12_also (0, [], [(0, (2, 82)), (1, (0, ki)), (2, (0, at_))], [], (w, bd, fc, 0, 0, rr)) (fun φ => ∃ w', xEnd 0 [] (w', bd, fc, 0, 0, rr) φ ∧ xMnv w' ∧ xFr [] w w')
  refine xoCh82 (hI 82 (by decide) (by decide) : cp82 (wget w 82)) (fun f82_1 f82_3 f82_5 f82_7 f82_9 f82_11 f82_13 f82_15 f82_17 f82_19 f82_21 f82_22 f82_23 f82_25 f82_27 f82_29 h82_31 hb2 hb4 hb6 hb8 hb10 hb12 hb14 hb16 hb18 hb20 hb24 hb26 hb28 hb30 hb32 => ?_)
  have hf33 : fld w 82 10 = f82_17 := fld_of h82_31
  refine xg_t (xg_blk (b := [(0, 1, 0, 0, 0, 0), (1, 3, 1, 12, 10, 180), (4, 3, 7, 50, 1, 0), (7, 1, 0, 0, 0, 0), (8, 3, 1, 12, 0, 7), (11, 2, 4, 16, 0, 0), (13, 1, 10, 0, 0, 0), (14, 3, 7, 51, 0, 0), (17, 1, 0, 0, 0, 0), (18, 3, 1, 12, 0, 7), (21, 2, 4, 17, 0, 0), (23, 1, 10, 0, 0, 0), (24, 1, 2, 2, 0, 0), (25, 3, 6, 50, 2, 0), (28, 1, 0, 0, 0, 0), (29, 3, 1, 12, 0, 7), (32, 2, 4, 17, 0, 0), (34, 1, 10, 0, 0, 0), (35, 1, 2, 2, 0, 0), (36, 3, 6, 51, 1, 0), (39, 1, 0, 0, 0, 0), (40, 3, 1, 12, 0, 7), (43, 2, 4, 16, 0, 0), (45, 1, 10, 0, 0, 0), (46, 1, 2, 1, 0, 0), (47, 3, 6, 51, 4, 0)]) rfl) ?_
  refine xg_t (xg_aload (va := (2, 82)) rfl rfl) ?_
  refine xg_t (xg_getf (va := (0, f82_17)) h82_31 rfl) ?_
  refine xg_t (xg_ifT (u := f82_17) rfl xnm0 (xj_neT (by omega))) ?_
  refine xg_t (xg_blk (b := [(50, 1, 12, 0, 0, 0)]) rfl) ?_
  exact xg_e ⟨w, ⟨rfl, rfl⟩, hI, xFr.rf⟩
theorem mNumX {fp : Nat × Nat} {B : Nat → Nat} {nn ir p : Nat} {le mo : Nat} (hI : xMnv w) (hle : le ≤ 9999) (hmo : mo ≤ 9999) (hB : bsm w B nn) (h10 : fld w 82 10 = 0) (hT : TKM ir B nn w p) (hf : FP w fp) : xPi (d + 5) mX12_numbered [(2, 82), (0, le), (0, mo)] w bd fc rr (fun n w' => (((n = 0 ∧ tkd B nn p ≠ 2 ∧ WRG w' (tq B nn p)) ∨ (n = tnu B nn p ∧ n ≤ 9999 ∧ tkd B nn p = 2 ∧ fld w' 82 10 = 0 ∧ TKM ir B nn w' (tf B nn p) ∧ FP w' (chk fp le mo (tnu B nn p) (tq B nn p)))) ∧ fld w' 82 14 = fld w 82 14 ∧ K83 w w') ∧ xMnv w' ∧ xFr [82, 83] w w') := by
  refine xPi.of ?_
  show xTo (d + 5) mX12_numbered (0, [], [(0, (2, 82)), (1, (0, le)), (2, (0, mo))], [], (w, bd, fc, 0, 0, rr)) (fun φ => ∃ n w', xEnd 1 [(0, n)] (w', bd, fc, 0, 0, rr) φ ∧ (((n = 0 ∧ tkd B nn p ≠ 2 ∧ WRG w' (tq B nn p)) ∨ (n = tnu B nn p ∧ n ≤ 9999 ∧ tkd B nn p = 2 ∧ fld w' 82 10 = 0 ∧ TKM ir B nn w' (tf B nn p) ∧ FP w' (chk fp le mo (tnu B nn p) (tq B nn p)))) ∧ fld w' 82 14 = fld w 82 14 ∧ K83 w w') ∧ xMnv w' ∧ xFr [82, 83] w w')
  refine xoCh82 (hI 82 (by decide) (by decide) : cp82 (wget w 82)) (fun f82_1 f82_3 f82_5 f82_7 f82_9 f82_11 f82_13 f82_15 f82_17 f82_19 f82_21 f82_22 f82_23 f82_25 f82_27 f82_29 h82_31 hb2 hb4 hb6 hb8 hb10 hb12 hb14 hb16 hb18 hb20 hb24 hb26 hb28 hb30 hb32 => ?_)
  refine xoX83 (hI 83 (by decide) (by decide) : cpx83 (wget w 83)) (fun g83_33 h83_34 hb35 hx36 => ?_)
  obtain ⟨⟨ht37, ht38, ht39, ht40, ht41, ht42⟩, ht43, ht44, ht45⟩ := id hT
  have hf46 : fld w 82 6 = f82_9 := fld_of h82_31
  have hf47 : fld w 82 7 = f82_11 := fld_of h82_31
  have hf48 : fld w 82 8 = f82_13 := fld_of h82_31
  have hf49 : fld w 82 10 = f82_17 := fld_of h82_31
  have hmk := (mkd_of (ir := ir) (B := B) (n := nn) (p := p)).2.1
  refine xg_t (xg_blk (b := [(0, 1, 0, 0, 0, 0), (1, 3, 1, 12, 10, 180), (4, 3, 7, 15, 1, 0), (7, 1, 0, 0, 0, 0), (8, 3, 1, 12, 7, 151), (11, 1, 3, 1, 0, 0), (12, 3, 6, 21, 0, 0)]) rfl) ?_
  refine xg_t (xg_aload (va := (2, 82)) rfl rfl) ?_
  refine xg_t (xg_getf (va := (0, f82_17)) h82_31 rfl) ?_
  refine xg_t (xg_ifF (u := f82_17) rfl xnm0 (xj_neF (by omega))) ?_
  refine xg_t (xg_aload (va := (2, 82)) rfl rfl) ?_
  refine xg_t (xg_getf (va := (0, f82_11)) h82_31 rfl) ?_
  refine xg_t (xg_const) ?_
  by_cases hc50 : f82_11 = 1
  · refine xg_t (xg_icT (u := f82_11) (v := 1) rfl xnm0 xnm0 (xj_eqT hc50)) ?_
    refine xg_t (xg_blk (b := [(21, 1, 0, 0, 0, 0), (22, 3, 1, 12, 8, 171), (25, 1, 15, 3, 0, 0), (26, 1, 2, 3, 0, 0), (27, 1, 2, 1, 0, 0), (28, 1, 2, 2, 0, 0), (29, 3, 13, 161, 98, 105), (32, 3, 7, 44, 1, 0), (35, 1, 0, 0, 0, 0), (36, 1, 3, 2, 0, 0), (37, 1, 0, 0, 0, 0), (38, 3, 1, 12, 6, 148), (41, 3, 13, 115, 96, 186)]) rfl) ?_
    have hk2 : tkd B nn p = 2 := by omega
    have hn_ := ht43 hk2
    have hz := tf_gt (B := B) (n := nn) (p := p) (by omega)
    have hBn := hB.1
    refine xg_t (xg_aload (va := (2, 82)) rfl rfl) ?_
    refine xg_t (xg_getf (va := (0, f82_13)) h82_31 rfl) ?_
    have hn51 : f82_13 ≤ 4294967295 := hb14
    refine xg_t (xg_istore (l1 := [(0, (2, 82)), (1, (0, le)), (2, (0, mo))]) rfl rfl rfl) ?_
    refine xg_t (xg_iload (va := (0, f82_13)) rfl rfl) ?_
    refine xg_t (xg_iload (va := (0, le)) rfl rfl) ?_
    refine xg_t (xg_iload (va := (0, mo)) rfl rfl) ?_
    refine xg_t (xg_cSr mX12_isIn (vs := [(0, f82_13), (0, le), (0, mo)]) (rest := []) (rs := [(0, if le ≤ f82_13 ∧ f82_13 ≤ mo then 1 else 0)]) (cn1 := 0) (sl1 := 0) rfl (mIsIn (by omega) (by omega) (by omega)) rfl rfl rfl rfl rfl rfl rfl rfl) ?_
    by_cases hc52 : le ≤ f82_13 ∧ f82_13 ≤ mo
    · refine xg_t (xg_ifT (u := (if le ≤ f82_13 ∧ f82_13 ≤ mo then 1 else 0)) rfl xnm0 (xj_neT (xite1 hc52))) ?_
      refine xg_t (xg_blk (b := [(44, 1, 0, 0, 0, 0), (45, 3, 13, 110, 96, 190), (48, 1, 2, 3, 0, 0), (49, 1, 12, 0, 1, 0)]) rfl) ?_
      refine xg_t (xg_aload (va := (2, 82)) rfl rfl) ?_
      obtain ⟨⟨ht53, ht54, ht55, ht56, ht57, ht58⟩, -⟩ := id hT
      have hk59 := h10
      have hk60 := (rfl : fld w 82 14 = fld w 82 14)
      refine xg_cVv mX12_advance (vs := []) (rest := []) (cn1 := 0) (sl1 := 0) rfl (mAdvX (hI) hB ht53 ht54 (by rw [ht55]; exact tf_le ht58)) rfl h82_31 rfl rfl rfl rfl rfl rfl (fun w61 hq62 => ?_)
      obtain ⟨hI63, hF64, hx65⟩ := hq62
      obtain ⟨hz66, hz67, hz68⟩ := hx65
      rw [ht55] at hz66
      clear ht53 ht54 ht55 ht56 ht57 ht58
      obtain ⟨p_69, hp70⟩ : ∃ x, x = tf B nn p := ⟨_, rfl⟩
      rw [← hp70] at hz66
      have k10_71 := hz67.trans hk59
      have k14_72 := hz68.trans hk60
      clear hz67 hz68 hk59 hk60
      refine xg_t (xg_iload (va := (0, f82_13)) rfl rfl) ?_
      exact xg_e ⟨f82_13, w61, ⟨rfl, rfl⟩, ⟨Or.inr ⟨by omega, by have q := tnu_le (B := B) (n := nn) (p := p) hk2; omega, hk2, k10_71, by rw [← hp70]; exact hz66, by rw [chk_y (by omega)]; exact (hf.k83 (rwv_eq (hF64.1 83 (by decide))) (rwv_eq (hF64.1 83 (by decide))))⟩, k14_72, (K83.fr hF64 (by decide))⟩, hI63, (hF64.up (by decide))⟩
    · refine xg_t (xg_ifF (u := (if le ≤ f82_13 ∧ f82_13 ≤ mo then 1 else 0)) rfl xnm0 (xj_neF (xite0 hc52))) ?_
      refine xg_t (xg_aload (va := (2, 82)) rfl rfl) ?_
      refine xg_t (xg_const) ?_
      refine xg_t (xg_aload (va := (2, 82)) rfl rfl) ?_
      refine xg_t (xg_getf (va := (0, f82_9)) h82_31 rfl) ?_
      have hn73 : f82_9 ≤ 4294967295 := hb10
      refine xg_cVv mX12_also (vs := [(0, 2), (0, f82_9)]) (rest := []) (cn1 := 0) (sl1 := 0) rfl (mAlsoX (hI) (by omega) (by omega) (by omega) h10 hf) rfl h82_31 rfl rfl rfl rfl rfl rfl (fun w74 hq75 => ?_)
      obtain ⟨hI76, hF77, hx78⟩ := hq75
      obtain ⟨hv79, hv80⟩ := hx78
      refine xg_t (xg_blk (b := [(44, 1, 0, 0, 0, 0), (45, 3, 13, 110, 96, 190), (48, 1, 2, 3, 0, 0), (49, 1, 12, 0, 1, 0)]) rfl) ?_
      refine xg_t (xg_aload (va := (2, 82)) rfl rfl) ?_
      obtain ⟨⟨ht81, ht82, ht83, ht84, ht85, ht86⟩, -⟩ := id (hT.fr (hF77.1 82 (by decide)))
      have hk87 := ((fld_eq (j := 10) (hF77.1 82 (by decide))).trans h10)
      have hk88 := ((fld_eq (j := 14) (hF77.1 82 (by decide))).trans rfl)
      refine xg_cVv mX12_advance (vs := []) (rest := []) (cn1 := 0) (sl1 := 0) rfl (mAdvX (hI76) (hB.fr (fun j h4 h9 => hv80 j (by omega) (by omega) (by omega))) ht81 ht82 (by rw [ht83]; exact tf_le ht86)) rfl (hF77.get (by decide) h82_31) rfl rfl rfl rfl rfl rfl (fun w89 hq90 => ?_)
      obtain ⟨hI91, hF92, hx93⟩ := hq90
      obtain ⟨hz94, hz95, hz96⟩ := hx93
      rw [ht83] at hz94
      clear ht81 ht82 ht83 ht84 ht85 ht86
      obtain ⟨p_97, hp98⟩ : ∃ x, x = tf B nn p := ⟨_, rfl⟩
      rw [← hp98] at hz94
      have k10_99 := hz95.trans hk87
      have k14_100 := hz96.trans hk88
      clear hz95 hz96 hk87 hk88
      refine xg_t (xg_iload (va := (0, f82_13)) rfl rfl) ?_
      exact xg_e ⟨f82_13, w89, ⟨rfl, rfl⟩, ⟨Or.inr ⟨by omega, by have q := tnu_le (B := B) (n := nn) (p := p) hk2; omega, hk2, k10_99, by rw [← hp98]; exact hz94, by rw [chk_n (by omega)]; exact (by have q := (hv79.k83 (rwv_eq (hF92.1 83 (by decide))) (rwv_eq (hF92.1 83 (by decide)))); rw [show f82_9 = tq B nn p by omega] at q; exact q)⟩, k14_100, (hv80.tr (K83.fr hF92 (by decide)))⟩, hI91, ((hF77.up (by decide)).tr (hF92.up (by decide)))⟩
  · refine xg_t (xg_icF (u := f82_11) (v := 1) rfl xnm0 xnm0 (xj_eqF hc50)) ?_
    refine xg_t (xg_blk (b := [(15, 1, 0, 0, 0, 0), (16, 3, 13, 140, 96, 183), (19, 1, 3, 0, 0, 0), (20, 1, 12, 0, 1, 0)]) rfl) ?_
    refine xg_t (xg_aload (va := (2, 82)) rfl rfl) ?_
    refine xg_cVv mX12_ends (vs := []) (rest := []) (cn1 := 0) (sl1 := 0) rfl (mEndsX (hI) h10) rfl h82_31 rfl rfl rfl rfl rfl rfl (fun w101 hq102 => ?_)
    obtain ⟨hI103, hF104, hx105⟩ := hq102
    obtain ⟨hv106, hv107, hv108, hv109, hv110⟩ := hx105
    refine xg_t (xg_const) ?_
    exact xg_e ⟨0, w101, ⟨rfl, rfl⟩, ⟨Or.inl ⟨rfl, by omega, ⟨hv106, hv107, by omega⟩⟩, hv109, hv110⟩, hI103, (hF104.up (by decide))⟩
theorem mNumW {le mo : Nat} (hI : xMnv w) (hle : le ≤ 9999) (hmo : mo ≤ 9999) (h10 : fld w 82 10 ≠ 0) : xPi (d + 3) mX12_numbered [(2, 82), (0, le), (0, mo)] w bd fc rr (fun n w' => (n = 0) ∧ xMnv w' ∧ xFr [] w w') := by
  refine xPi.of ?_
  show xTo (d + 3) mX12_numbered (0, [], [(0, (2, 82)), (1, (0, le)), (2, (0, mo))], [], (w, bd, fc, 0, 0, rr)) (fun φ => ∃ n w', xEnd 1 [(0, n)] (w', bd, fc, 0, 0, rr) φ ∧ (n = 0) ∧ xMnv w' ∧ xFr [] w w')
  refine xoCh82 (hI 82 (by decide) (by decide) : cp82 (wget w 82)) (fun f82_1 f82_3 f82_5 f82_7 f82_9 f82_11 f82_13 f82_15 f82_17 f82_19 f82_21 f82_22 f82_23 f82_25 f82_27 f82_29 h82_31 hb2 hb4 hb6 hb8 hb10 hb12 hb14 hb16 hb18 hb20 hb24 hb26 hb28 hb30 hb32 => ?_)
  have hf33 : fld w 82 10 = f82_17 := fld_of h82_31
  refine xg_t (xg_blk (b := [(0, 1, 0, 0, 0, 0), (1, 3, 1, 12, 10, 180), (4, 3, 7, 15, 1, 0), (7, 1, 0, 0, 0, 0), (8, 3, 1, 12, 7, 151), (11, 1, 3, 1, 0, 0), (12, 3, 6, 21, 0, 0)]) rfl) ?_
  refine xg_t (xg_aload (va := (2, 82)) rfl rfl) ?_
  refine xg_t (xg_getf (va := (0, f82_17)) h82_31 rfl) ?_
  refine xg_t (xg_ifT (u := f82_17) rfl xnm0 (xj_neT (by omega))) ?_
  refine xg_t (xg_blk (b := [(15, 1, 0, 0, 0, 0), (16, 3, 13, 140, 96, 183), (19, 1, 3, 0, 0, 0), (20, 1, 12, 0, 1, 0)]) rfl) ?_
  refine xg_t (xg_aload (va := (2, 82)) rfl rfl) ?_
  refine xg_cVv mX12_ends (vs := []) (rest := []) (cn1 := 0) (sl1 := 0) rfl (mEndsW (hI) h10) rfl h82_31 rfl rfl rfl rfl rfl rfl (fun w34 hq35 => ?_)
  obtain ⟨hI36, hF37⟩ := hq35
  refine xg_t (xg_const) ?_
  exact xg_e ⟨0, w34, ⟨rfl, rfl⟩, by first | decide | omega, hI36, (hF37.up (by decide))⟩
theorem mLifeX {sa kk : Nat} (hI : xMnv w) (hsa : sa ≤ 4294967295) (hkk : kk ≤ 1001) : xPi d mX12_isLifeTold [(2, 82), (0, sa), (0, kk)] w bd fc rr (fun n w' => ((n = 1 ∧ ∃ m, m < kk ∧ m < 4 ∧ rwv w 86 (50 + 2 * m) = sa) ∨ (n = 0 ∧ ∀ m, m < kk → m < 4 → rwv w 86 (50 + 2 * m) ≠ sa)) ∧ xMnv w' ∧ xFr [] w w') := by
  refine xPi.of ?_
  show xTo d mX12_isLifeTold (0, [], [(0, (2, 82)), (1, (0, sa)), (2, (0, kk))], [], (w, bd, fc, 0, 0, rr)) (fun φ => ∃ n w', xEnd 4 [(0, n)] (w', bd, fc, 0, 0, rr) φ ∧ ((n = 1 ∧ ∃ m, m < kk ∧ m < 4 ∧ rwv w 86 (50 + 2 * m) = sa) ∨ (n = 0 ∧ ∀ m, m < kk → m < 4 → rwv w 86 (50 + 2 * m) ≠ sa)) ∧ xMnv w' ∧ xFr [] w w')
  refine xoCh82 (hI 82 (by decide) (by decide) : cp82 (wget w 82)) (fun f82_1 f82_3 f82_5 f82_7 f82_9 f82_11 f82_13 f82_15 f82_17 f82_19 f82_21 f82_22 f82_23 f82_25 f82_27 f82_29 h82_31 hb2 hb4 hb6 hb8 hb10 hb12 hb14 hb16 hb18 hb20 hb24 hb26 hb28 hb30 hb32 => ?_)
  refine xoI (hI 86 (by decide) (by decide) : cpI 140 53 4294967295 (wget w 86)) (fun g86_33 h86_34 hb35 => ?_)
  refine xg_t (xg_blk (b := [(0, 1, 3, 0, 0, 0), (1, 1, 15, 3, 0, 0), (2, 1, 3, 0, 0, 0), (3, 2, 15, 4, 0, 0)]) rfl) ?_
  refine xg_t (xg_const) ?_
  refine xg_t (xg_istore (l1 := [(0, (2, 82)), (1, (0, sa)), (2, (0, kk))]) rfl rfl rfl) ?_
  refine xg_t (xg_const) ?_
  refine xg_t (xg_istore (l1 := [(3, (0, 0)), (0, (2, 82)), (1, (0, sa)), (2, (0, kk))]) rfl rfl rfl) ?_
  refine xg_t (xg_drop (l1 := [(0, (2, 82)), (1, (0, sa)), (2, (0, kk)), (3, (0, 0)), (4, (0, 0))]) (List.forall_mem_cons.mpr ⟨List.mem_cons_of_mem _ (List.mem_cons_of_mem _ (List.mem_cons_self)), List.forall_mem_cons.mpr ⟨List.mem_cons_of_mem _ (List.mem_cons_of_mem _ (List.mem_cons_of_mem _ (List.mem_cons_self))), List.forall_mem_cons.mpr ⟨List.mem_cons_of_mem _ (List.mem_cons_of_mem _ (List.mem_cons_of_mem _ (List.mem_cons_of_mem _ (List.mem_cons_self)))), List.forall_mem_cons.mpr ⟨List.mem_cons_of_mem _ (List.mem_cons_self), List.forall_mem_cons.mpr ⟨List.mem_cons_self, fun _ h => absurd h List.not_mem_nil⟩⟩⟩⟩⟩)) ?_
  have key36 : ∀ (m38 : Nat) (is_ ji : Nat) (w39 : List (List xE)), 4 - ji < m38 → is_ ≤ 1 → ji ≤ 4 → xMnv w39 → xFr [] w w39 → ((is_ = 1 ∧ ∃ m, m < ji ∧ rwv w 86 (50 + 2 * m) = sa) ∨ (is_ = 0 ∧ ∀ m, m < ji → rwv w 86 (50 + 2 * m) ≠ sa)) ∧ ji ≤ kk → xTo d mX12_isLifeTold (5, [], [(0, (2, 82)), (1, (0, sa)), (2, (0, kk)), (3, (0, is_)), (4, (0, ji))], [], (w39, bd, fc, 0, 0, rr)) (fun φ => ∃ n w', xEnd 4 [(0, n)] (w', bd, fc, 0, 0, rr) φ ∧ ((n = 1 ∧ ∃ m, m < kk ∧ m < 4 ∧ rwv w 86 (50 + 2 * m) = sa) ∨ (n = 0 ∧ ∀ m, m < kk → m < 4 → rwv w 86 (50 + 2 * m) ≠ sa)) ∧ xMnv w' ∧ xFr [] w w') := by
    intro m38
    induction m38 with
    | zero => intro is_ ji w39 hz; exact absurd hz (Nat.not_lt_zero _)
    | succ m38 ih37 =>
      intro is_ ji w39 hm45 hn42 hn43 hI40 hF41 he44
      obtain ⟨he46, he47⟩ := he44
      refine xg_t (xg_blk (b := [(5, 2, 2, 4, 0, 0), (7, 1, 2, 2, 0, 0), (8, 3, 6, 49, 3, 0), (11, 2, 2, 4, 0, 0), (13, 1, 3, 4, 0, 0), (14, 3, 6, 49, 3, 0), (17, 1, 2, 3, 0, 0), (18, 3, 7, 37, 1, 0), (21, 1, 0, 0, 0, 0), (22, 3, 1, 12, 12, 20), (25, 2, 4, 50, 0, 0), (27, 1, 3, 2, 0, 0), (28, 2, 2, 4, 0, 0), (30, 1, 16, 0, 0, 0), (31, 1, 11, 0, 0, 0), (32, 1, 10, 0, 0, 0), (33, 1, 2, 1, 0, 0), (34, 3, 6, 41, 1, 0)]) rfl) ?_
      refine xg_t (xg_iload (va := (0, ji)) rfl rfl) ?_
      refine xg_t (xg_iload (va := (0, kk)) rfl rfl) ?_
      by_cases hc48 : ji < kk
      · refine xg_t (xg_icF (u := ji) (v := kk) rfl xnm0 xnm0 (xj_geF hc48 (by omega))) ?_
        refine xg_t (xg_iload (va := (0, ji)) rfl rfl) ?_
        refine xg_t (xg_const) ?_
        by_cases hc49 : ji < 4
        · refine xg_t (xg_icF (u := ji) (v := 4) rfl xnm0 xnm0 (xj_geF hc49 (by omega))) ?_
          refine xg_t (xg_iload (va := (0, is_)) rfl rfl) ?_
          by_cases hc50 : is_ = 0
          · refine xg_t (xg_ifF (u := is_) rfl xnm0 (xj_neF hc50)) ?_
            refine xg_t (xg_aload (va := (2, 82)) rfl rfl) ?_
            refine xg_t (xg_getf (va := (2, 86)) (hF41.get (by decide) h82_31) rfl) ?_
            refine xg_t (xg_bip) ?_
            refine xg_t (xg_const) ?_
            refine xg_t (xg_iload (va := (0, ji)) rfl rfl) ?_
            refine xg_t (xg_imul (u := 2) (v := ji) (z := 2 * ji) xnm0 xnm0 (by omega)) ?_
            refine xg_t (xg_iadd (u := 50) (v := 2 * ji) (z := 50 + (2 * ji)) xnm0 xnm0 (by omega)) ?_
            refine xg_ialdB (n := 50 + (2 * ji)) (B := 4294967295) (h86_34.fr hF41 (by decide)) (hb35) xnm0 (by omega) (fun u51 hu52 he53 => ?_)
            have hq54 : rwv w 86 (50 + 2 * ji) = u51 := (rwv_of h86_34 (by omega)).trans he53
            refine xg_t (xg_iload (va := (0, sa)) rfl rfl) ?_
            by_cases hc55 : u51 = sa
            · refine xg_t (xg_icF (u := u51) (v := sa) rfl xnm0 xnm0 (xj_neF hc55)) ?_
              refine xg_t (xg_blk (b := [(37, 1, 3, 1, 0, 0), (38, 3, 8, 42, 0, 0)]) rfl) ?_
              refine xg_t (xg_const) ?_
              refine xg_t (xg_goto) ?_
              refine xg_t (xg_blk (b := [(42, 1, 15, 3, 0, 0), (43, 3, 9, 4, 1, 0), (46, 3, 8, 5, 0, 0)]) rfl) ?_
              refine xg_t (xg_istore (l1 := [(0, (2, 82)), (1, (0, sa)), (2, (0, kk)), (4, (0, ji))]) rfl rfl rfl) ?_
              refine xg_t (xg_iinc (u := ji) (z := ji + 1) (l1 := [(3, (0, 1)), (0, (2, 82)), (1, (0, sa)), (2, (0, kk))]) rfl rfl (by omega) rfl) ?_
              refine xg_t (xg_goto) ?_
              refine xg_t (xg_drop (l1 := [(0, (2, 82)), (1, (0, sa)), (2, (0, kk)), (3, (0, 1)), (4, (0, ji + 1))]) (List.forall_mem_cons.mpr ⟨List.mem_cons_of_mem _ (List.mem_cons_of_mem _ (List.mem_cons_self)), List.forall_mem_cons.mpr ⟨List.mem_cons_of_mem _ (List.mem_cons_of_mem _ (List.mem_cons_of_mem _ (List.mem_cons_self))), List.forall_mem_cons.mpr ⟨List.mem_cons_of_mem _ (List.mem_cons_of_mem _ (List.mem_cons_of_mem _ (List.mem_cons_of_mem _ (List.mem_cons_self)))), List.forall_mem_cons.mpr ⟨List.mem_cons_of_mem _ (List.mem_cons_self), List.forall_mem_cons.mpr ⟨List.mem_cons_self, fun _ h => absurd h List.not_mem_nil⟩⟩⟩⟩⟩)) ?_
              exact ih37 1 (ji + 1) w39 (by omega) (by omega) (by omega) (hI40) (hF41) (⟨Or.inl ⟨rfl, ji, by omega, by omega⟩, by omega⟩)
            · refine xg_t (xg_icT (u := u51) (v := sa) rfl xnm0 xnm0 (xj_neT hc55)) ?_
              refine xg_t (xg_blk (b := [(41, 1, 3, 0, 0, 0)]) rfl) ?_
              refine xg_t (xg_const) ?_
              refine xg_t (xg_blk (b := [(42, 1, 15, 3, 0, 0), (43, 3, 9, 4, 1, 0), (46, 3, 8, 5, 0, 0)]) rfl) ?_
              refine xg_t (xg_istore (l1 := [(0, (2, 82)), (1, (0, sa)), (2, (0, kk)), (4, (0, ji))]) rfl rfl rfl) ?_
              refine xg_t (xg_iinc (u := ji) (z := ji + 1) (l1 := [(3, (0, 0)), (0, (2, 82)), (1, (0, sa)), (2, (0, kk))]) rfl rfl (by omega) rfl) ?_
              refine xg_t (xg_goto) ?_
              refine xg_t (xg_drop (l1 := [(0, (2, 82)), (1, (0, sa)), (2, (0, kk)), (3, (0, 0)), (4, (0, ji + 1))]) (List.forall_mem_cons.mpr ⟨List.mem_cons_of_mem _ (List.mem_cons_of_mem _ (List.mem_cons_self)), List.forall_mem_cons.mpr ⟨List.mem_cons_of_mem _ (List.mem_cons_of_mem _ (List.mem_cons_of_mem _ (List.mem_cons_self))), List.forall_mem_cons.mpr ⟨List.mem_cons_of_mem _ (List.mem_cons_of_mem _ (List.mem_cons_of_mem _ (List.mem_cons_of_mem _ (List.mem_cons_self)))), List.forall_mem_cons.mpr ⟨List.mem_cons_of_mem _ (List.mem_cons_self), List.forall_mem_cons.mpr ⟨List.mem_cons_self, fun _ h => absurd h List.not_mem_nil⟩⟩⟩⟩⟩)) ?_
              have hy57 : ∀ m, m < ji + 1 → rwv w 86 (50 + 2 * m) ≠ sa := fun m hm => by
                rcases he46 with ⟨z, -⟩ | ⟨-, z⟩
                · omega
                · by_cases e : m = ji
                  · rw [e]; omega
                  · exact z m (by omega)
              exact ih37 0 (ji + 1) w39 (by omega) (by omega) (by omega) (hI40) (hF41) (⟨Or.inr ⟨rfl, hy57⟩, by omega⟩)
          · refine xg_t (xg_ifT (u := is_) rfl xnm0 (xj_neT hc50)) ?_
            refine xg_t (xg_blk (b := [(37, 1, 3, 1, 0, 0), (38, 3, 8, 42, 0, 0)]) rfl) ?_
            refine xg_t (xg_const) ?_
            refine xg_t (xg_goto) ?_
            refine xg_t (xg_blk (b := [(42, 1, 15, 3, 0, 0), (43, 3, 9, 4, 1, 0), (46, 3, 8, 5, 0, 0)]) rfl) ?_
            refine xg_t (xg_istore (l1 := [(0, (2, 82)), (1, (0, sa)), (2, (0, kk)), (4, (0, ji))]) rfl rfl rfl) ?_
            refine xg_t (xg_iinc (u := ji) (z := ji + 1) (l1 := [(3, (0, 1)), (0, (2, 82)), (1, (0, sa)), (2, (0, kk))]) rfl rfl (by omega) rfl) ?_
            refine xg_t (xg_goto) ?_
            refine xg_t (xg_drop (l1 := [(0, (2, 82)), (1, (0, sa)), (2, (0, kk)), (3, (0, 1)), (4, (0, ji + 1))]) (List.forall_mem_cons.mpr ⟨List.mem_cons_of_mem _ (List.mem_cons_of_mem _ (List.mem_cons_self)), List.forall_mem_cons.mpr ⟨List.mem_cons_of_mem _ (List.mem_cons_of_mem _ (List.mem_cons_of_mem _ (List.mem_cons_self))), List.forall_mem_cons.mpr ⟨List.mem_cons_of_mem _ (List.mem_cons_of_mem _ (List.mem_cons_of_mem _ (List.mem_cons_of_mem _ (List.mem_cons_self)))), List.forall_mem_cons.mpr ⟨List.mem_cons_of_mem _ (List.mem_cons_self), List.forall_mem_cons.mpr ⟨List.mem_cons_self, fun _ h => absurd h List.not_mem_nil⟩⟩⟩⟩⟩)) ?_
            have hy58 : ∃ m, m < ji ∧ rwv w 86 (50 + 2 * m) = sa := by
              rcases he46 with ⟨-, z⟩ | ⟨z, -⟩
              · exact z
              · omega
            exact ih37 1 (ji + 1) w39 (by omega) (by omega) (by omega) (hI40) (hF41) (⟨Or.inl ⟨rfl, hy58.elim (fun m z => ⟨m, by omega, z.2⟩)⟩, by omega⟩)
        · refine xg_t (xg_icT (u := ji) (v := 4) rfl xnm0 xnm0 (xj_geT (by omega) (by omega))) ?_
          refine xg_t (xg_blk (b := [(49, 1, 2, 3, 0, 0), (50, 1, 12, 0, 1, 0)]) rfl) ?_
          refine xg_t (xg_iload (va := (0, is_)) rfl rfl) ?_
          have hy59 : (is_ = 1 ∧ ∃ m, m < kk ∧ m < 4 ∧ rwv w 86 (50 + 2 * m) = sa) ∨ (is_ = 0 ∧ ∀ m, m < kk → m < 4 → rwv w 86 (50 + 2 * m) ≠ sa) := by
            rcases he46 with ⟨z1, m, z2, z3⟩ | ⟨z1, z2⟩
            · exact Or.inl ⟨z1, m, by omega, by omega, z3⟩
            · exact Or.inr ⟨z1, fun m a b => z2 m (by omega)⟩
          exact xg_e ⟨is_, w39, ⟨xret_b (by omega), rfl⟩, hy59, hI40, hF41⟩
      · refine xg_t (xg_icT (u := ji) (v := kk) rfl xnm0 xnm0 (xj_geT (by omega) (by omega))) ?_
        refine xg_t (xg_blk (b := [(49, 1, 2, 3, 0, 0), (50, 1, 12, 0, 1, 0)]) rfl) ?_
        refine xg_t (xg_iload (va := (0, is_)) rfl rfl) ?_
        have hy60 : (is_ = 1 ∧ ∃ m, m < kk ∧ m < 4 ∧ rwv w 86 (50 + 2 * m) = sa) ∨ (is_ = 0 ∧ ∀ m, m < kk → m < 4 → rwv w 86 (50 + 2 * m) ≠ sa) := by
          rcases he46 with ⟨z1, m, z2, z3⟩ | ⟨z1, z2⟩
          · exact Or.inl ⟨z1, m, by omega, by omega, z3⟩
          · exact Or.inr ⟨z1, fun m a b => z2 m (by omega)⟩
        exact xg_e ⟨is_, w39, ⟨xret_b (by omega), rfl⟩, hy60, hI40, hF41⟩
  exact key36 _ 0 0 w (Nat.lt_succ_self _) (by omega) (by omega) (hI) (xFr.rf) (⟨Or.inr ⟨rfl, fun m hm => absurd hm (Nat.not_lt_zero _)⟩, Nat.zero_le _⟩)
end XFMB
end
section
/-! the model: lines of films -/
section XFMC
variable {B : Nat → Nat} {n k : Nat} {w w' : List (List xE)}
/-- what was read, by sort, line and place -/
noncomputable def XM (w : List (List xE)) : Nat → Nat → Nat → Nat := fun s m t => if s = 0 then rwv w 86 (20 + 4 * m + t) else if s = 1 then rwv w 86 (50 + 2 * m + t) else if s = 2 then rwv w 86 (60 + 2 * m + t) else if s = 3 then rwv w 86 (80 + 3 * m + t) else if s = 4 then rwv w 86 (100 + 2 * m + t) else if s = 5 then rwv w 86 (7 + t) else if s = 6 then rwv w 86 (5 + t) else 0
theorem FP.cg {w : List (List xE)} {a b : Nat × Nat} (h : FP w a) (e1 : a.1 = b.1) (e2 : b.1 ≠ 0 → a.2 = b.2) : FP w b := by
  obtain ⟨h1, h2, h3, h4⟩ := h
  refine ⟨h1.trans e1, fun z => ?_, by omega, fun z => h4 (by omega)⟩
  obtain ⟨q1, q2⟩ := h2 (by omega)
  have := e2 z
  omega
/-- the reading behind k lines -/
def MST (B : Nat → Nat) (n : Nat) (w : List (List xE)) (k : Nat) : Prop := (fld w 82 10 = 0 ∧ fld w 82 14 = k ∧ FP w (flA B n k) ∧ ((flA B n k).1 ≠ 0 → (flA B n k).2 < tq B n (lnP B n k))) ∧ (∀ s, s < 7 → rwv w 85 s = lnC B n s k) ∧ ((flA B n k).1 = 0 → RCN B n k (XM w) ∧ ∀ i, i < k → slt B n (lnP B n i) = 4 → rwv w 87 (lnC B n 4 i) = tq B n (lnP B n i))
/-- the places of a line go on -/
def ORD (B : Nat → Nat) (n k s q : Nat) : Prop := tq B n (lnP B n k) < tq B n (vlp B n (lnP B n k) 0) ∧ tq B n (vlp B n (lnP B n k) 0) < tq B n (vlp B n (lnP B n k) 1) ∧ (nnm s = 3 → tq B n (vlp B n (lnP B n k) 1) < tq B n (vlp B n (lnP B n k) 2)) ∧ tq B n (vlp B n (lnP B n k) 1) < q ∧ (nnm s = 3 → tq B n (vlp B n (lnP B n k) 2) < q)
theorem MSTok0 (hS : MST B n w k) (hs : slt B n (lnP B n k) = 0) (h10 : fld w' 82 10 = 0) (h14 : fld w' 82 14 = k + 1) (hF : FP w' (mfl B n k 0 (flA B n k))) (hO : ORD B n k 0 (tq B n (lnP B n (k + 1)))) (m1 : rwv w' 85 0 = lnC B n 0 k + 1) (m2 : ∀ s, s < 7 → s ≠ 0 → rwv w' 85 s = rwv w 85 s) (r1 : lnC B n 0 k < 6 → ∀ t, t < 4 → XM w' 0 (lnC B n 0 k) t = vln B n (lnP B n k) t) (r2 : ∀ j, (j < 20 + 4 * lnC B n 0 k ∨ 20 + 4 * (lnC B n 0 k + 1) ≤ j) → j < 140 → rwv w' 86 j = rwv w 86 j) (a1 : ∀ j, j < 20 → rwv w' 87 j = rwv w 87 j) : MST B n w' (k + 1) := by
  obtain ⟨⟨z10, z14, zF, zp⟩, hm, hR⟩ := hS
  obtain ⟨o1, o2, o3, o4, o5⟩ := hO
  obtain ⟨e1, e2⟩ := mfl_A hs zp o1 o2 o3
  refine ⟨⟨h10, h14, hF.cg e1 e2, flA_pl zp o1 o2 (by rw [hs]; exact o3) o4 (by rw [hs]; exact o5)⟩, fun s h7 => ?_, fun h0 => ?_⟩
  · by_cases e : s = 0
    · subst e
      rw [lnC_y hs]
      exact m1
    · rw [lnC_n (fun z => e (z.symm.trans hs)), m2 s h7 e]
      exact hm s h7
  · by_cases f0 : (flA B n k).1 = 0
    · obtain ⟨hR1, hR2⟩ := hR f0
      have hf : (flt B n k).1 = 0 := by rw [← flA_y f0]; exact h0
      have hlm : lnC B n 0 k < 6 := Nat.lt_of_not_le (flt_v hs hf).1
      have hl : ∀ s, 1 ≤ lim s → lnC B n s k ≤ lim s := fun s h => lnC_lim f0 h
      have l0 : lnC B n 0 k ≤ 6 := hl 0 (by decide)
      have l1 : lnC B n 1 k ≤ 4 := hl 1 (by decide)
      have l2 : lnC B n 2 k ≤ 6 := hl 2 (by decide)
      have l3 : lnC B n 3 k ≤ 4 := hl 3 (by decide)
      have l4 : lnC B n 4 k ≤ 20 := hl 4 (by decide)
      have l5 : lnC B n 5 k ≤ 1 := hl 5 (by decide)
      have l6 : lnC B n 6 k ≤ 1 := hl 6 (by decide)
      refine ⟨hR1.up hs (fun s' m t hm' ht => ?_) (r1 hlm) (fun s' h56 hne hc => ?_), fun i hi hsi => ?_⟩
      · unfold XM
        by_cases x0 : s' = 0
        · subst x0
          rw [if_pos rfl, if_pos rfl]
          have ht : t < 4 := ht
          exact r2 _ (by omega) (by omega)
        by_cases x1 : s' = 1
        · subst x1
          rw [if_neg (show ¬ 1 = 0 by decide), if_neg (show ¬ 1 = 0 by decide), if_pos rfl, if_pos rfl]
          have ht : t < 2 := ht
          exact r2 _ (by omega) (by omega)
        by_cases x2 : s' = 2
        · subst x2
          rw [if_neg (show ¬ 2 = 0 by decide), if_neg (show ¬ 2 = 0 by decide), if_neg (show ¬ 2 = 1 by decide), if_neg (show ¬ 2 = 1 by decide), if_pos rfl, if_pos rfl]
          have ht : t < 2 := ht
          exact r2 _ (by omega) (by omega)
        by_cases x3 : s' = 3
        · subst x3
          rw [if_neg (show ¬ 3 = 0 by decide), if_neg (show ¬ 3 = 0 by decide), if_neg (show ¬ 3 = 1 by decide), if_neg (show ¬ 3 = 1 by decide), if_neg (show ¬ 3 = 2 by decide), if_neg (show ¬ 3 = 2 by decide), if_pos rfl, if_pos rfl]
          have ht : t < 3 := ht
          exact r2 _ (by omega) (by omega)
        by_cases x4 : s' = 4
        · subst x4
          rw [if_neg (show ¬ 4 = 0 by decide), if_neg (show ¬ 4 = 0 by decide), if_neg (show ¬ 4 = 1 by decide), if_neg (show ¬ 4 = 1 by decide), if_neg (show ¬ 4 = 2 by decide), if_neg (show ¬ 4 = 2 by decide), if_neg (show ¬ 4 = 3 by decide), if_neg (show ¬ 4 = 3 by decide), if_pos rfl, if_pos rfl]
          have ht : t < 2 := ht
          exact r2 _ (by omega) (by omega)
        by_cases x5 : s' = 5
        · subst x5
          rw [if_neg (show ¬ 5 = 0 by decide), if_neg (show ¬ 5 = 0 by decide), if_neg (show ¬ 5 = 1 by decide), if_neg (show ¬ 5 = 1 by decide), if_neg (show ¬ 5 = 2 by decide), if_neg (show ¬ 5 = 2 by decide), if_neg (show ¬ 5 = 3 by decide), if_neg (show ¬ 5 = 3 by decide), if_neg (show ¬ 5 = 4 by decide), if_neg (show ¬ 5 = 4 by decide), if_pos rfl, if_pos rfl]
          have ht : t < 2 := ht
          exact r2 _ (by omega) (by omega)
        by_cases x6 : s' = 6
        · subst x6
          rw [if_neg (show ¬ 6 = 0 by decide), if_neg (show ¬ 6 = 0 by decide), if_neg (show ¬ 6 = 1 by decide), if_neg (show ¬ 6 = 1 by decide), if_neg (show ¬ 6 = 2 by decide), if_neg (show ¬ 6 = 2 by decide), if_neg (show ¬ 6 = 3 by decide), if_neg (show ¬ 6 = 3 by decide), if_neg (show ¬ 6 = 4 by decide), if_neg (show ¬ 6 = 4 by decide), if_neg (show ¬ 6 = 5 by decide), if_neg (show ¬ 6 = 5 by decide), if_pos rfl, if_pos rfl]
          have ht : t < 2 := ht
          exact r2 _ (by omega) (by omega)
        · rw [if_neg x0, if_neg x0, if_neg x1, if_neg x1, if_neg x2, if_neg x2, if_neg x3, if_neg x3, if_neg x4, if_neg x4, if_neg x5, if_neg x5, if_neg x6, if_neg x6]
      · unfold XM
        rcases h56 with rfl | rfl
        · rw [if_neg (show ¬ 5 = 0 by decide), if_neg (show ¬ 5 = 1 by decide), if_neg (show ¬ 5 = 2 by decide), if_neg (show ¬ 5 = 3 by decide), if_neg (show ¬ 5 = 4 by decide), if_pos rfl, if_neg (show ¬ 5 = 0 by decide), if_neg (show ¬ 5 = 1 by decide), if_neg (show ¬ 5 = 2 by decide), if_neg (show ¬ 5 = 3 by decide), if_neg (show ¬ 5 = 4 by decide), if_pos rfl, if_neg (show ¬ 5 = 0 by decide), if_neg (show ¬ 5 = 1 by decide), if_neg (show ¬ 5 = 2 by decide), if_neg (show ¬ 5 = 3 by decide), if_neg (show ¬ 5 = 4 by decide), if_pos rfl, if_neg (show ¬ 5 = 0 by decide), if_neg (show ¬ 5 = 1 by decide), if_neg (show ¬ 5 = 2 by decide), if_neg (show ¬ 5 = 3 by decide), if_neg (show ¬ 5 = 4 by decide), if_pos rfl]
          exact ⟨r2 _ (by omega) (by decide), r2 _ (by omega) (by decide)⟩
        · rw [if_neg (show ¬ 6 = 0 by decide), if_neg (show ¬ 6 = 1 by decide), if_neg (show ¬ 6 = 2 by decide), if_neg (show ¬ 6 = 3 by decide), if_neg (show ¬ 6 = 4 by decide), if_neg (show ¬ 6 = 5 by decide), if_pos rfl, if_neg (show ¬ 6 = 0 by decide), if_neg (show ¬ 6 = 1 by decide), if_neg (show ¬ 6 = 2 by decide), if_neg (show ¬ 6 = 3 by decide), if_neg (show ¬ 6 = 4 by decide), if_neg (show ¬ 6 = 5 by decide), if_pos rfl, if_neg (show ¬ 6 = 0 by decide), if_neg (show ¬ 6 = 1 by decide), if_neg (show ¬ 6 = 2 by decide), if_neg (show ¬ 6 = 3 by decide), if_neg (show ¬ 6 = 4 by decide), if_neg (show ¬ 6 = 5 by decide), if_pos rfl, if_neg (show ¬ 6 = 0 by decide), if_neg (show ¬ 6 = 1 by decide), if_neg (show ¬ 6 = 2 by decide), if_neg (show ¬ 6 = 3 by decide), if_neg (show ¬ 6 = 4 by decide), if_neg (show ¬ 6 = 5 by decide), if_pos rfl]
          exact ⟨r2 _ (by omega) (by decide), r2 _ (by omega) (by decide)⟩
      · by_cases e : i = k
        · subst e
          rw [hs] at hsi
          exact absurd hsi (by decide)
        · have q := lnC_lt (B := B) (n := n) (show i < k by omega) hsi
          rw [a1 _ (by omega)]
          exact hR2 i (by omega) hsi
    · rw [flA_n f0] at h0
      exact absurd h0 f0
theorem MSTok1 (hS : MST B n w k) (hs : slt B n (lnP B n k) = 1) (h10 : fld w' 82 10 = 0) (h14 : fld w' 82 14 = k + 1) (hF : FP w' (mfl B n k 1 (flA B n k))) (hO : ORD B n k 1 (tq B n (lnP B n (k + 1)))) (m1 : rwv w' 85 1 = lnC B n 1 k + 1) (m2 : ∀ s, s < 7 → s ≠ 1 → rwv w' 85 s = rwv w 85 s) (r1 : lnC B n 1 k < 4 → ∀ t, t < 2 → XM w' 1 (lnC B n 1 k) t = vln B n (lnP B n k) t) (r2 : ∀ j, (j < 50 + 2 * lnC B n 1 k ∨ 50 + 2 * (lnC B n 1 k + 1) ≤ j) → j < 140 → rwv w' 86 j = rwv w 86 j) (a1 : ∀ j, j < 20 → rwv w' 87 j = rwv w 87 j) : MST B n w' (k + 1) := by
  obtain ⟨⟨z10, z14, zF, zp⟩, hm, hR⟩ := hS
  obtain ⟨o1, o2, o3, o4, o5⟩ := hO
  obtain ⟨e1, e2⟩ := mfl_A hs zp o1 o2 o3
  refine ⟨⟨h10, h14, hF.cg e1 e2, flA_pl zp o1 o2 (by rw [hs]; exact o3) o4 (by rw [hs]; exact o5)⟩, fun s h7 => ?_, fun h0 => ?_⟩
  · by_cases e : s = 1
    · subst e
      rw [lnC_y hs]
      exact m1
    · rw [lnC_n (fun z => e (z.symm.trans hs)), m2 s h7 e]
      exact hm s h7
  · by_cases f0 : (flA B n k).1 = 0
    · obtain ⟨hR1, hR2⟩ := hR f0
      have hf : (flt B n k).1 = 0 := by rw [← flA_y f0]; exact h0
      have hlm : lnC B n 1 k < 4 := Nat.lt_of_not_le (flt_v hs hf).1
      have hl : ∀ s, 1 ≤ lim s → lnC B n s k ≤ lim s := fun s h => lnC_lim f0 h
      have l0 : lnC B n 0 k ≤ 6 := hl 0 (by decide)
      have l1 : lnC B n 1 k ≤ 4 := hl 1 (by decide)
      have l2 : lnC B n 2 k ≤ 6 := hl 2 (by decide)
      have l3 : lnC B n 3 k ≤ 4 := hl 3 (by decide)
      have l4 : lnC B n 4 k ≤ 20 := hl 4 (by decide)
      have l5 : lnC B n 5 k ≤ 1 := hl 5 (by decide)
      have l6 : lnC B n 6 k ≤ 1 := hl 6 (by decide)
      refine ⟨hR1.up hs (fun s' m t hm' ht => ?_) (r1 hlm) (fun s' h56 hne hc => ?_), fun i hi hsi => ?_⟩
      · unfold XM
        by_cases x0 : s' = 0
        · subst x0
          rw [if_pos rfl, if_pos rfl]
          have ht : t < 4 := ht
          exact r2 _ (by omega) (by omega)
        by_cases x1 : s' = 1
        · subst x1
          rw [if_neg (show ¬ 1 = 0 by decide), if_neg (show ¬ 1 = 0 by decide), if_pos rfl, if_pos rfl]
          have ht : t < 2 := ht
          exact r2 _ (by omega) (by omega)
        by_cases x2 : s' = 2
        · subst x2
          rw [if_neg (show ¬ 2 = 0 by decide), if_neg (show ¬ 2 = 0 by decide), if_neg (show ¬ 2 = 1 by decide), if_neg (show ¬ 2 = 1 by decide), if_pos rfl, if_pos rfl]
          have ht : t < 2 := ht
          exact r2 _ (by omega) (by omega)
        by_cases x3 : s' = 3
        · subst x3
          rw [if_neg (show ¬ 3 = 0 by decide), if_neg (show ¬ 3 = 0 by decide), if_neg (show ¬ 3 = 1 by decide), if_neg (show ¬ 3 = 1 by decide), if_neg (show ¬ 3 = 2 by decide), if_neg (show ¬ 3 = 2 by decide), if_pos rfl, if_pos rfl]
          have ht : t < 3 := ht
          exact r2 _ (by omega) (by omega)
        by_cases x4 : s' = 4
        · subst x4
          rw [if_neg (show ¬ 4 = 0 by decide), if_neg (show ¬ 4 = 0 by decide), if_neg (show ¬ 4 = 1 by decide), if_neg (show ¬ 4 = 1 by decide), if_neg (show ¬ 4 = 2 by decide), if_neg (show ¬ 4 = 2 by decide), if_neg (show ¬ 4 = 3 by decide), if_neg (show ¬ 4 = 3 by decide), if_pos rfl, if_pos rfl]
          have ht : t < 2 := ht
          exact r2 _ (by omega) (by omega)
        by_cases x5 : s' = 5
        · subst x5
          rw [if_neg (show ¬ 5 = 0 by decide), if_neg (show ¬ 5 = 0 by decide), if_neg (show ¬ 5 = 1 by decide), if_neg (show ¬ 5 = 1 by decide), if_neg (show ¬ 5 = 2 by decide), if_neg (show ¬ 5 = 2 by decide), if_neg (show ¬ 5 = 3 by decide), if_neg (show ¬ 5 = 3 by decide), if_neg (show ¬ 5 = 4 by decide), if_neg (show ¬ 5 = 4 by decide), if_pos rfl, if_pos rfl]
          have ht : t < 2 := ht
          exact r2 _ (by omega) (by omega)
        by_cases x6 : s' = 6
        · subst x6
          rw [if_neg (show ¬ 6 = 0 by decide), if_neg (show ¬ 6 = 0 by decide), if_neg (show ¬ 6 = 1 by decide), if_neg (show ¬ 6 = 1 by decide), if_neg (show ¬ 6 = 2 by decide), if_neg (show ¬ 6 = 2 by decide), if_neg (show ¬ 6 = 3 by decide), if_neg (show ¬ 6 = 3 by decide), if_neg (show ¬ 6 = 4 by decide), if_neg (show ¬ 6 = 4 by decide), if_neg (show ¬ 6 = 5 by decide), if_neg (show ¬ 6 = 5 by decide), if_pos rfl, if_pos rfl]
          have ht : t < 2 := ht
          exact r2 _ (by omega) (by omega)
        · rw [if_neg x0, if_neg x0, if_neg x1, if_neg x1, if_neg x2, if_neg x2, if_neg x3, if_neg x3, if_neg x4, if_neg x4, if_neg x5, if_neg x5, if_neg x6, if_neg x6]
      · unfold XM
        rcases h56 with rfl | rfl
        · rw [if_neg (show ¬ 5 = 0 by decide), if_neg (show ¬ 5 = 1 by decide), if_neg (show ¬ 5 = 2 by decide), if_neg (show ¬ 5 = 3 by decide), if_neg (show ¬ 5 = 4 by decide), if_pos rfl, if_neg (show ¬ 5 = 0 by decide), if_neg (show ¬ 5 = 1 by decide), if_neg (show ¬ 5 = 2 by decide), if_neg (show ¬ 5 = 3 by decide), if_neg (show ¬ 5 = 4 by decide), if_pos rfl, if_neg (show ¬ 5 = 0 by decide), if_neg (show ¬ 5 = 1 by decide), if_neg (show ¬ 5 = 2 by decide), if_neg (show ¬ 5 = 3 by decide), if_neg (show ¬ 5 = 4 by decide), if_pos rfl, if_neg (show ¬ 5 = 0 by decide), if_neg (show ¬ 5 = 1 by decide), if_neg (show ¬ 5 = 2 by decide), if_neg (show ¬ 5 = 3 by decide), if_neg (show ¬ 5 = 4 by decide), if_pos rfl]
          exact ⟨r2 _ (by omega) (by decide), r2 _ (by omega) (by decide)⟩
        · rw [if_neg (show ¬ 6 = 0 by decide), if_neg (show ¬ 6 = 1 by decide), if_neg (show ¬ 6 = 2 by decide), if_neg (show ¬ 6 = 3 by decide), if_neg (show ¬ 6 = 4 by decide), if_neg (show ¬ 6 = 5 by decide), if_pos rfl, if_neg (show ¬ 6 = 0 by decide), if_neg (show ¬ 6 = 1 by decide), if_neg (show ¬ 6 = 2 by decide), if_neg (show ¬ 6 = 3 by decide), if_neg (show ¬ 6 = 4 by decide), if_neg (show ¬ 6 = 5 by decide), if_pos rfl, if_neg (show ¬ 6 = 0 by decide), if_neg (show ¬ 6 = 1 by decide), if_neg (show ¬ 6 = 2 by decide), if_neg (show ¬ 6 = 3 by decide), if_neg (show ¬ 6 = 4 by decide), if_neg (show ¬ 6 = 5 by decide), if_pos rfl, if_neg (show ¬ 6 = 0 by decide), if_neg (show ¬ 6 = 1 by decide), if_neg (show ¬ 6 = 2 by decide), if_neg (show ¬ 6 = 3 by decide), if_neg (show ¬ 6 = 4 by decide), if_neg (show ¬ 6 = 5 by decide), if_pos rfl]
          exact ⟨r2 _ (by omega) (by decide), r2 _ (by omega) (by decide)⟩
      · by_cases e : i = k
        · subst e
          rw [hs] at hsi
          exact absurd hsi (by decide)
        · have q := lnC_lt (B := B) (n := n) (show i < k by omega) hsi
          rw [a1 _ (by omega)]
          exact hR2 i (by omega) hsi
    · rw [flA_n f0] at h0
      exact absurd h0 f0
theorem MSTok2 (hS : MST B n w k) (hs : slt B n (lnP B n k) = 2) (h10 : fld w' 82 10 = 0) (h14 : fld w' 82 14 = k + 1) (hF : FP w' (mfl B n k 2 (flA B n k))) (hO : ORD B n k 2 (tq B n (lnP B n (k + 1)))) (m1 : rwv w' 85 2 = lnC B n 2 k + 1) (m2 : ∀ s, s < 7 → s ≠ 2 → rwv w' 85 s = rwv w 85 s) (r1 : lnC B n 2 k < 6 → ∀ t, t < 2 → XM w' 2 (lnC B n 2 k) t = vln B n (lnP B n k) t) (r2 : ∀ j, (j < 60 + 2 * lnC B n 2 k ∨ 60 + 2 * (lnC B n 2 k + 1) ≤ j) → j < 140 → rwv w' 86 j = rwv w 86 j) (a1 : ∀ j, j < 20 → rwv w' 87 j = rwv w 87 j) : MST B n w' (k + 1) := by
  obtain ⟨⟨z10, z14, zF, zp⟩, hm, hR⟩ := hS
  obtain ⟨o1, o2, o3, o4, o5⟩ := hO
  obtain ⟨e1, e2⟩ := mfl_A hs zp o1 o2 o3
  refine ⟨⟨h10, h14, hF.cg e1 e2, flA_pl zp o1 o2 (by rw [hs]; exact o3) o4 (by rw [hs]; exact o5)⟩, fun s h7 => ?_, fun h0 => ?_⟩
  · by_cases e : s = 2
    · subst e
      rw [lnC_y hs]
      exact m1
    · rw [lnC_n (fun z => e (z.symm.trans hs)), m2 s h7 e]
      exact hm s h7
  · by_cases f0 : (flA B n k).1 = 0
    · obtain ⟨hR1, hR2⟩ := hR f0
      have hf : (flt B n k).1 = 0 := by rw [← flA_y f0]; exact h0
      have hlm : lnC B n 2 k < 6 := Nat.lt_of_not_le (flt_v hs hf).1
      have hl : ∀ s, 1 ≤ lim s → lnC B n s k ≤ lim s := fun s h => lnC_lim f0 h
      have l0 : lnC B n 0 k ≤ 6 := hl 0 (by decide)
      have l1 : lnC B n 1 k ≤ 4 := hl 1 (by decide)
      have l2 : lnC B n 2 k ≤ 6 := hl 2 (by decide)
      have l3 : lnC B n 3 k ≤ 4 := hl 3 (by decide)
      have l4 : lnC B n 4 k ≤ 20 := hl 4 (by decide)
      have l5 : lnC B n 5 k ≤ 1 := hl 5 (by decide)
      have l6 : lnC B n 6 k ≤ 1 := hl 6 (by decide)
      refine ⟨hR1.up hs (fun s' m t hm' ht => ?_) (r1 hlm) (fun s' h56 hne hc => ?_), fun i hi hsi => ?_⟩
      · unfold XM
        by_cases x0 : s' = 0
        · subst x0
          rw [if_pos rfl, if_pos rfl]
          have ht : t < 4 := ht
          exact r2 _ (by omega) (by omega)
        by_cases x1 : s' = 1
        · subst x1
          rw [if_neg (show ¬ 1 = 0 by decide), if_neg (show ¬ 1 = 0 by decide), if_pos rfl, if_pos rfl]
          have ht : t < 2 := ht
          exact r2 _ (by omega) (by omega)
        by_cases x2 : s' = 2
        · subst x2
          rw [if_neg (show ¬ 2 = 0 by decide), if_neg (show ¬ 2 = 0 by decide), if_neg (show ¬ 2 = 1 by decide), if_neg (show ¬ 2 = 1 by decide), if_pos rfl, if_pos rfl]
          have ht : t < 2 := ht
          exact r2 _ (by omega) (by omega)
        by_cases x3 : s' = 3
        · subst x3
          rw [if_neg (show ¬ 3 = 0 by decide), if_neg (show ¬ 3 = 0 by decide), if_neg (show ¬ 3 = 1 by decide), if_neg (show ¬ 3 = 1 by decide), if_neg (show ¬ 3 = 2 by decide), if_neg (show ¬ 3 = 2 by decide), if_pos rfl, if_pos rfl]
          have ht : t < 3 := ht
          exact r2 _ (by omega) (by omega)
        by_cases x4 : s' = 4
        · subst x4
          rw [if_neg (show ¬ 4 = 0 by decide), if_neg (show ¬ 4 = 0 by decide), if_neg (show ¬ 4 = 1 by decide), if_neg (show ¬ 4 = 1 by decide), if_neg (show ¬ 4 = 2 by decide), if_neg (show ¬ 4 = 2 by decide), if_neg (show ¬ 4 = 3 by decide), if_neg (show ¬ 4 = 3 by decide), if_pos rfl, if_pos rfl]
          have ht : t < 2 := ht
          exact r2 _ (by omega) (by omega)
        by_cases x5 : s' = 5
        · subst x5
          rw [if_neg (show ¬ 5 = 0 by decide), if_neg (show ¬ 5 = 0 by decide), if_neg (show ¬ 5 = 1 by decide), if_neg (show ¬ 5 = 1 by decide), if_neg (show ¬ 5 = 2 by decide), if_neg (show ¬ 5 = 2 by decide), if_neg (show ¬ 5 = 3 by decide), if_neg (show ¬ 5 = 3 by decide), if_neg (show ¬ 5 = 4 by decide), if_neg (show ¬ 5 = 4 by decide), if_pos rfl, if_pos rfl]
          have ht : t < 2 := ht
          exact r2 _ (by omega) (by omega)
        by_cases x6 : s' = 6
        · subst x6
          rw [if_neg (show ¬ 6 = 0 by decide), if_neg (show ¬ 6 = 0 by decide), if_neg (show ¬ 6 = 1 by decide), if_neg (show ¬ 6 = 1 by decide), if_neg (show ¬ 6 = 2 by decide), if_neg (show ¬ 6 = 2 by decide), if_neg (show ¬ 6 = 3 by decide), if_neg (show ¬ 6 = 3 by decide), if_neg (show ¬ 6 = 4 by decide), if_neg (show ¬ 6 = 4 by decide), if_neg (show ¬ 6 = 5 by decide), if_neg (show ¬ 6 = 5 by decide), if_pos rfl, if_pos rfl]
          have ht : t < 2 := ht
          exact r2 _ (by omega) (by omega)
        · rw [if_neg x0, if_neg x0, if_neg x1, if_neg x1, if_neg x2, if_neg x2, if_neg x3, if_neg x3, if_neg x4, if_neg x4, if_neg x5, if_neg x5, if_neg x6, if_neg x6]
      · unfold XM
        rcases h56 with rfl | rfl
        · rw [if_neg (show ¬ 5 = 0 by decide), if_neg (show ¬ 5 = 1 by decide), if_neg (show ¬ 5 = 2 by decide), if_neg (show ¬ 5 = 3 by decide), if_neg (show ¬ 5 = 4 by decide), if_pos rfl, if_neg (show ¬ 5 = 0 by decide), if_neg (show ¬ 5 = 1 by decide), if_neg (show ¬ 5 = 2 by decide), if_neg (show ¬ 5 = 3 by decide), if_neg (show ¬ 5 = 4 by decide), if_pos rfl, if_neg (show ¬ 5 = 0 by decide), if_neg (show ¬ 5 = 1 by decide), if_neg (show ¬ 5 = 2 by decide), if_neg (show ¬ 5 = 3 by decide), if_neg (show ¬ 5 = 4 by decide), if_pos rfl, if_neg (show ¬ 5 = 0 by decide), if_neg (show ¬ 5 = 1 by decide), if_neg (show ¬ 5 = 2 by decide), if_neg (show ¬ 5 = 3 by decide), if_neg (show ¬ 5 = 4 by decide), if_pos rfl]
          exact ⟨r2 _ (by omega) (by decide), r2 _ (by omega) (by decide)⟩
        · rw [if_neg (show ¬ 6 = 0 by decide), if_neg (show ¬ 6 = 1 by decide), if_neg (show ¬ 6 = 2 by decide), if_neg (show ¬ 6 = 3 by decide), if_neg (show ¬ 6 = 4 by decide), if_neg (show ¬ 6 = 5 by decide), if_pos rfl, if_neg (show ¬ 6 = 0 by decide), if_neg (show ¬ 6 = 1 by decide), if_neg (show ¬ 6 = 2 by decide), if_neg (show ¬ 6 = 3 by decide), if_neg (show ¬ 6 = 4 by decide), if_neg (show ¬ 6 = 5 by decide), if_pos rfl, if_neg (show ¬ 6 = 0 by decide), if_neg (show ¬ 6 = 1 by decide), if_neg (show ¬ 6 = 2 by decide), if_neg (show ¬ 6 = 3 by decide), if_neg (show ¬ 6 = 4 by decide), if_neg (show ¬ 6 = 5 by decide), if_pos rfl, if_neg (show ¬ 6 = 0 by decide), if_neg (show ¬ 6 = 1 by decide), if_neg (show ¬ 6 = 2 by decide), if_neg (show ¬ 6 = 3 by decide), if_neg (show ¬ 6 = 4 by decide), if_neg (show ¬ 6 = 5 by decide), if_pos rfl]
          exact ⟨r2 _ (by omega) (by decide), r2 _ (by omega) (by decide)⟩
      · by_cases e : i = k
        · subst e
          rw [hs] at hsi
          exact absurd hsi (by decide)
        · have q := lnC_lt (B := B) (n := n) (show i < k by omega) hsi
          rw [a1 _ (by omega)]
          exact hR2 i (by omega) hsi
    · rw [flA_n f0] at h0
      exact absurd h0 f0
theorem MSTok3 (hS : MST B n w k) (hs : slt B n (lnP B n k) = 3) (h10 : fld w' 82 10 = 0) (h14 : fld w' 82 14 = k + 1) (hF : FP w' (mfl B n k 3 (flA B n k))) (hO : ORD B n k 3 (tq B n (lnP B n (k + 1)))) (m1 : rwv w' 85 3 = lnC B n 3 k + 1) (m2 : ∀ s, s < 7 → s ≠ 3 → rwv w' 85 s = rwv w 85 s) (r1 : lnC B n 3 k < 4 → ∀ t, t < 3 → XM w' 3 (lnC B n 3 k) t = vln B n (lnP B n k) t) (r2 : ∀ j, (j < 80 + 3 * lnC B n 3 k ∨ 80 + 3 * (lnC B n 3 k + 1) ≤ j) → j < 140 → rwv w' 86 j = rwv w 86 j) (a1 : ∀ j, j < 20 → rwv w' 87 j = rwv w 87 j) : MST B n w' (k + 1) := by
  obtain ⟨⟨z10, z14, zF, zp⟩, hm, hR⟩ := hS
  obtain ⟨o1, o2, o3, o4, o5⟩ := hO
  obtain ⟨e1, e2⟩ := mfl_A hs zp o1 o2 o3
  refine ⟨⟨h10, h14, hF.cg e1 e2, flA_pl zp o1 o2 (by rw [hs]; exact o3) o4 (by rw [hs]; exact o5)⟩, fun s h7 => ?_, fun h0 => ?_⟩
  · by_cases e : s = 3
    · subst e
      rw [lnC_y hs]
      exact m1
    · rw [lnC_n (fun z => e (z.symm.trans hs)), m2 s h7 e]
      exact hm s h7
  · by_cases f0 : (flA B n k).1 = 0
    · obtain ⟨hR1, hR2⟩ := hR f0
      have hf : (flt B n k).1 = 0 := by rw [← flA_y f0]; exact h0
      have hlm : lnC B n 3 k < 4 := Nat.lt_of_not_le (flt_v hs hf).1
      have hl : ∀ s, 1 ≤ lim s → lnC B n s k ≤ lim s := fun s h => lnC_lim f0 h
      have l0 : lnC B n 0 k ≤ 6 := hl 0 (by decide)
      have l1 : lnC B n 1 k ≤ 4 := hl 1 (by decide)
      have l2 : lnC B n 2 k ≤ 6 := hl 2 (by decide)
      have l3 : lnC B n 3 k ≤ 4 := hl 3 (by decide)
      have l4 : lnC B n 4 k ≤ 20 := hl 4 (by decide)
      have l5 : lnC B n 5 k ≤ 1 := hl 5 (by decide)
      have l6 : lnC B n 6 k ≤ 1 := hl 6 (by decide)
      refine ⟨hR1.up hs (fun s' m t hm' ht => ?_) (r1 hlm) (fun s' h56 hne hc => ?_), fun i hi hsi => ?_⟩
      · unfold XM
        by_cases x0 : s' = 0
        · subst x0
          rw [if_pos rfl, if_pos rfl]
          have ht : t < 4 := ht
          exact r2 _ (by omega) (by omega)
        by_cases x1 : s' = 1
        · subst x1
          rw [if_neg (show ¬ 1 = 0 by decide), if_neg (show ¬ 1 = 0 by decide), if_pos rfl, if_pos rfl]
          have ht : t < 2 := ht
          exact r2 _ (by omega) (by omega)
        by_cases x2 : s' = 2
        · subst x2
          rw [if_neg (show ¬ 2 = 0 by decide), if_neg (show ¬ 2 = 0 by decide), if_neg (show ¬ 2 = 1 by decide), if_neg (show ¬ 2 = 1 by decide), if_pos rfl, if_pos rfl]
          have ht : t < 2 := ht
          exact r2 _ (by omega) (by omega)
        by_cases x3 : s' = 3
        · subst x3
          rw [if_neg (show ¬ 3 = 0 by decide), if_neg (show ¬ 3 = 0 by decide), if_neg (show ¬ 3 = 1 by decide), if_neg (show ¬ 3 = 1 by decide), if_neg (show ¬ 3 = 2 by decide), if_neg (show ¬ 3 = 2 by decide), if_pos rfl, if_pos rfl]
          have ht : t < 3 := ht
          exact r2 _ (by omega) (by omega)
        by_cases x4 : s' = 4
        · subst x4
          rw [if_neg (show ¬ 4 = 0 by decide), if_neg (show ¬ 4 = 0 by decide), if_neg (show ¬ 4 = 1 by decide), if_neg (show ¬ 4 = 1 by decide), if_neg (show ¬ 4 = 2 by decide), if_neg (show ¬ 4 = 2 by decide), if_neg (show ¬ 4 = 3 by decide), if_neg (show ¬ 4 = 3 by decide), if_pos rfl, if_pos rfl]
          have ht : t < 2 := ht
          exact r2 _ (by omega) (by omega)
        by_cases x5 : s' = 5
        · subst x5
          rw [if_neg (show ¬ 5 = 0 by decide), if_neg (show ¬ 5 = 0 by decide), if_neg (show ¬ 5 = 1 by decide), if_neg (show ¬ 5 = 1 by decide), if_neg (show ¬ 5 = 2 by decide), if_neg (show ¬ 5 = 2 by decide), if_neg (show ¬ 5 = 3 by decide), if_neg (show ¬ 5 = 3 by decide), if_neg (show ¬ 5 = 4 by decide), if_neg (show ¬ 5 = 4 by decide), if_pos rfl, if_pos rfl]
          have ht : t < 2 := ht
          exact r2 _ (by omega) (by omega)
        by_cases x6 : s' = 6
        · subst x6
          rw [if_neg (show ¬ 6 = 0 by decide), if_neg (show ¬ 6 = 0 by decide), if_neg (show ¬ 6 = 1 by decide), if_neg (show ¬ 6 = 1 by decide), if_neg (show ¬ 6 = 2 by decide), if_neg (show ¬ 6 = 2 by decide), if_neg (show ¬ 6 = 3 by decide), if_neg (show ¬ 6 = 3 by decide), if_neg (show ¬ 6 = 4 by decide), if_neg (show ¬ 6 = 4 by decide), if_neg (show ¬ 6 = 5 by decide), if_neg (show ¬ 6 = 5 by decide), if_pos rfl, if_pos rfl]
          have ht : t < 2 := ht
          exact r2 _ (by omega) (by omega)
        · rw [if_neg x0, if_neg x0, if_neg x1, if_neg x1, if_neg x2, if_neg x2, if_neg x3, if_neg x3, if_neg x4, if_neg x4, if_neg x5, if_neg x5, if_neg x6, if_neg x6]
      · unfold XM
        rcases h56 with rfl | rfl
        · rw [if_neg (show ¬ 5 = 0 by decide), if_neg (show ¬ 5 = 1 by decide), if_neg (show ¬ 5 = 2 by decide), if_neg (show ¬ 5 = 3 by decide), if_neg (show ¬ 5 = 4 by decide), if_pos rfl, if_neg (show ¬ 5 = 0 by decide), if_neg (show ¬ 5 = 1 by decide), if_neg (show ¬ 5 = 2 by decide), if_neg (show ¬ 5 = 3 by decide), if_neg (show ¬ 5 = 4 by decide), if_pos rfl, if_neg (show ¬ 5 = 0 by decide), if_neg (show ¬ 5 = 1 by decide), if_neg (show ¬ 5 = 2 by decide), if_neg (show ¬ 5 = 3 by decide), if_neg (show ¬ 5 = 4 by decide), if_pos rfl, if_neg (show ¬ 5 = 0 by decide), if_neg (show ¬ 5 = 1 by decide), if_neg (show ¬ 5 = 2 by decide), if_neg (show ¬ 5 = 3 by decide), if_neg (show ¬ 5 = 4 by decide), if_pos rfl]
          exact ⟨r2 _ (by omega) (by decide), r2 _ (by omega) (by decide)⟩
        · rw [if_neg (show ¬ 6 = 0 by decide), if_neg (show ¬ 6 = 1 by decide), if_neg (show ¬ 6 = 2 by decide), if_neg (show ¬ 6 = 3 by decide), if_neg (show ¬ 6 = 4 by decide), if_neg (show ¬ 6 = 5 by decide), if_pos rfl, if_neg (show ¬ 6 = 0 by decide), if_neg (show ¬ 6 = 1 by decide), if_neg (show ¬ 6 = 2 by decide), if_neg (show ¬ 6 = 3 by decide), if_neg (show ¬ 6 = 4 by decide), if_neg (show ¬ 6 = 5 by decide), if_pos rfl, if_neg (show ¬ 6 = 0 by decide), if_neg (show ¬ 6 = 1 by decide), if_neg (show ¬ 6 = 2 by decide), if_neg (show ¬ 6 = 3 by decide), if_neg (show ¬ 6 = 4 by decide), if_neg (show ¬ 6 = 5 by decide), if_pos rfl, if_neg (show ¬ 6 = 0 by decide), if_neg (show ¬ 6 = 1 by decide), if_neg (show ¬ 6 = 2 by decide), if_neg (show ¬ 6 = 3 by decide), if_neg (show ¬ 6 = 4 by decide), if_neg (show ¬ 6 = 5 by decide), if_pos rfl]
          exact ⟨r2 _ (by omega) (by decide), r2 _ (by omega) (by decide)⟩
      · by_cases e : i = k
        · subst e
          rw [hs] at hsi
          exact absurd hsi (by decide)
        · have q := lnC_lt (B := B) (n := n) (show i < k by omega) hsi
          rw [a1 _ (by omega)]
          exact hR2 i (by omega) hsi
    · rw [flA_n f0] at h0
      exact absurd h0 f0
theorem MSTok4 (hS : MST B n w k) (hs : slt B n (lnP B n k) = 4) (h10 : fld w' 82 10 = 0) (h14 : fld w' 82 14 = k + 1) (hF : FP w' (mfl B n k 4 (flA B n k))) (hO : ORD B n k 4 (tq B n (lnP B n (k + 1)))) (m1 : rwv w' 85 4 = lnC B n 4 k + 1) (m2 : ∀ s, s < 7 → s ≠ 4 → rwv w' 85 s = rwv w 85 s) (r1 : lnC B n 4 k < 20 → ∀ t, t < 2 → XM w' 4 (lnC B n 4 k) t = vln B n (lnP B n k) t) (r2 : ∀ j, (j < 100 + 2 * lnC B n 4 k ∨ 100 + 2 * (lnC B n 4 k + 1) ≤ j) → j < 140 → rwv w' 86 j = rwv w 86 j) (a1 : (lnC B n 4 k < 20 → rwv w' 87 (lnC B n 4 k) = tq B n (lnP B n k)) ∧ ∀ j, j ≠ lnC B n 4 k → j < 20 → rwv w' 87 j = rwv w 87 j) : MST B n w' (k + 1) := by
  obtain ⟨⟨z10, z14, zF, zp⟩, hm, hR⟩ := hS
  obtain ⟨o1, o2, o3, o4, o5⟩ := hO
  obtain ⟨e1, e2⟩ := mfl_A hs zp o1 o2 o3
  refine ⟨⟨h10, h14, hF.cg e1 e2, flA_pl zp o1 o2 (by rw [hs]; exact o3) o4 (by rw [hs]; exact o5)⟩, fun s h7 => ?_, fun h0 => ?_⟩
  · by_cases e : s = 4
    · subst e
      rw [lnC_y hs]
      exact m1
    · rw [lnC_n (fun z => e (z.symm.trans hs)), m2 s h7 e]
      exact hm s h7
  · by_cases f0 : (flA B n k).1 = 0
    · obtain ⟨hR1, hR2⟩ := hR f0
      have hf : (flt B n k).1 = 0 := by rw [← flA_y f0]; exact h0
      have hlm : lnC B n 4 k < 20 := Nat.lt_of_not_le (flt_v hs hf).1
      have hl : ∀ s, 1 ≤ lim s → lnC B n s k ≤ lim s := fun s h => lnC_lim f0 h
      have l0 : lnC B n 0 k ≤ 6 := hl 0 (by decide)
      have l1 : lnC B n 1 k ≤ 4 := hl 1 (by decide)
      have l2 : lnC B n 2 k ≤ 6 := hl 2 (by decide)
      have l3 : lnC B n 3 k ≤ 4 := hl 3 (by decide)
      have l4 : lnC B n 4 k ≤ 20 := hl 4 (by decide)
      have l5 : lnC B n 5 k ≤ 1 := hl 5 (by decide)
      have l6 : lnC B n 6 k ≤ 1 := hl 6 (by decide)
      refine ⟨hR1.up hs (fun s' m t hm' ht => ?_) (r1 hlm) (fun s' h56 hne hc => ?_), fun i hi hsi => ?_⟩
      · unfold XM
        by_cases x0 : s' = 0
        · subst x0
          rw [if_pos rfl, if_pos rfl]
          have ht : t < 4 := ht
          exact r2 _ (by omega) (by omega)
        by_cases x1 : s' = 1
        · subst x1
          rw [if_neg (show ¬ 1 = 0 by decide), if_neg (show ¬ 1 = 0 by decide), if_pos rfl, if_pos rfl]
          have ht : t < 2 := ht
          exact r2 _ (by omega) (by omega)
        by_cases x2 : s' = 2
        · subst x2
          rw [if_neg (show ¬ 2 = 0 by decide), if_neg (show ¬ 2 = 0 by decide), if_neg (show ¬ 2 = 1 by decide), if_neg (show ¬ 2 = 1 by decide), if_pos rfl, if_pos rfl]
          have ht : t < 2 := ht
          exact r2 _ (by omega) (by omega)
        by_cases x3 : s' = 3
        · subst x3
          rw [if_neg (show ¬ 3 = 0 by decide), if_neg (show ¬ 3 = 0 by decide), if_neg (show ¬ 3 = 1 by decide), if_neg (show ¬ 3 = 1 by decide), if_neg (show ¬ 3 = 2 by decide), if_neg (show ¬ 3 = 2 by decide), if_pos rfl, if_pos rfl]
          have ht : t < 3 := ht
          exact r2 _ (by omega) (by omega)
        by_cases x4 : s' = 4
        · subst x4
          rw [if_neg (show ¬ 4 = 0 by decide), if_neg (show ¬ 4 = 0 by decide), if_neg (show ¬ 4 = 1 by decide), if_neg (show ¬ 4 = 1 by decide), if_neg (show ¬ 4 = 2 by decide), if_neg (show ¬ 4 = 2 by decide), if_neg (show ¬ 4 = 3 by decide), if_neg (show ¬ 4 = 3 by decide), if_pos rfl, if_pos rfl]
          have ht : t < 2 := ht
          exact r2 _ (by omega) (by omega)
        by_cases x5 : s' = 5
        · subst x5
          rw [if_neg (show ¬ 5 = 0 by decide), if_neg (show ¬ 5 = 0 by decide), if_neg (show ¬ 5 = 1 by decide), if_neg (show ¬ 5 = 1 by decide), if_neg (show ¬ 5 = 2 by decide), if_neg (show ¬ 5 = 2 by decide), if_neg (show ¬ 5 = 3 by decide), if_neg (show ¬ 5 = 3 by decide), if_neg (show ¬ 5 = 4 by decide), if_neg (show ¬ 5 = 4 by decide), if_pos rfl, if_pos rfl]
          have ht : t < 2 := ht
          exact r2 _ (by omega) (by omega)
        by_cases x6 : s' = 6
        · subst x6
          rw [if_neg (show ¬ 6 = 0 by decide), if_neg (show ¬ 6 = 0 by decide), if_neg (show ¬ 6 = 1 by decide), if_neg (show ¬ 6 = 1 by decide), if_neg (show ¬ 6 = 2 by decide), if_neg (show ¬ 6 = 2 by decide), if_neg (show ¬ 6 = 3 by decide), if_neg (show ¬ 6 = 3 by decide), if_neg (show ¬ 6 = 4 by decide), if_neg (show ¬ 6 = 4 by decide), if_neg (show ¬ 6 = 5 by decide), if_neg (show ¬ 6 = 5 by decide), if_pos rfl, if_pos rfl]
          have ht : t < 2 := ht
          exact r2 _ (by omega) (by omega)
        · rw [if_neg x0, if_neg x0, if_neg x1, if_neg x1, if_neg x2, if_neg x2, if_neg x3, if_neg x3, if_neg x4, if_neg x4, if_neg x5, if_neg x5, if_neg x6, if_neg x6]
      · unfold XM
        rcases h56 with rfl | rfl
        · rw [if_neg (show ¬ 5 = 0 by decide), if_neg (show ¬ 5 = 1 by decide), if_neg (show ¬ 5 = 2 by decide), if_neg (show ¬ 5 = 3 by decide), if_neg (show ¬ 5 = 4 by decide), if_pos rfl, if_neg (show ¬ 5 = 0 by decide), if_neg (show ¬ 5 = 1 by decide), if_neg (show ¬ 5 = 2 by decide), if_neg (show ¬ 5 = 3 by decide), if_neg (show ¬ 5 = 4 by decide), if_pos rfl, if_neg (show ¬ 5 = 0 by decide), if_neg (show ¬ 5 = 1 by decide), if_neg (show ¬ 5 = 2 by decide), if_neg (show ¬ 5 = 3 by decide), if_neg (show ¬ 5 = 4 by decide), if_pos rfl, if_neg (show ¬ 5 = 0 by decide), if_neg (show ¬ 5 = 1 by decide), if_neg (show ¬ 5 = 2 by decide), if_neg (show ¬ 5 = 3 by decide), if_neg (show ¬ 5 = 4 by decide), if_pos rfl]
          exact ⟨r2 _ (by omega) (by decide), r2 _ (by omega) (by decide)⟩
        · rw [if_neg (show ¬ 6 = 0 by decide), if_neg (show ¬ 6 = 1 by decide), if_neg (show ¬ 6 = 2 by decide), if_neg (show ¬ 6 = 3 by decide), if_neg (show ¬ 6 = 4 by decide), if_neg (show ¬ 6 = 5 by decide), if_pos rfl, if_neg (show ¬ 6 = 0 by decide), if_neg (show ¬ 6 = 1 by decide), if_neg (show ¬ 6 = 2 by decide), if_neg (show ¬ 6 = 3 by decide), if_neg (show ¬ 6 = 4 by decide), if_neg (show ¬ 6 = 5 by decide), if_pos rfl, if_neg (show ¬ 6 = 0 by decide), if_neg (show ¬ 6 = 1 by decide), if_neg (show ¬ 6 = 2 by decide), if_neg (show ¬ 6 = 3 by decide), if_neg (show ¬ 6 = 4 by decide), if_neg (show ¬ 6 = 5 by decide), if_pos rfl, if_neg (show ¬ 6 = 0 by decide), if_neg (show ¬ 6 = 1 by decide), if_neg (show ¬ 6 = 2 by decide), if_neg (show ¬ 6 = 3 by decide), if_neg (show ¬ 6 = 4 by decide), if_neg (show ¬ 6 = 5 by decide), if_pos rfl]
          exact ⟨r2 _ (by omega) (by decide), r2 _ (by omega) (by decide)⟩
      · by_cases e : i = k
        · subst e
          exact a1.1 hlm
        · have q := lnC_lt (B := B) (n := n) (show i < k by omega) hsi
          rw [a1.2 _ (by omega) (by omega)]
          exact hR2 i (by omega) hsi
    · rw [flA_n f0] at h0
      exact absurd h0 f0
theorem MSTok5 (hS : MST B n w k) (hs : slt B n (lnP B n k) = 5) (h10 : fld w' 82 10 = 0) (h14 : fld w' 82 14 = k + 1) (hF : FP w' (mfl B n k 5 (flA B n k))) (hO : ORD B n k 5 (tq B n (lnP B n (k + 1)))) (m1 : rwv w' 85 5 = lnC B n 5 k + 1) (m2 : ∀ s, s < 7 → s ≠ 5 → rwv w' 85 s = rwv w 85 s) (r1 : lnC B n 5 k < 1 → ∀ t, t < 2 → XM w' 5 (lnC B n 5 k) t = vln B n (lnP B n k) t) (r2 : ∀ j, (j < 7 ∨ 9 ≤ j) → j < 140 → rwv w' 86 j = rwv w 86 j) (a1 : ∀ j, j < 20 → rwv w' 87 j = rwv w 87 j) : MST B n w' (k + 1) := by
  obtain ⟨⟨z10, z14, zF, zp⟩, hm, hR⟩ := hS
  obtain ⟨o1, o2, o3, o4, o5⟩ := hO
  obtain ⟨e1, e2⟩ := mfl_A hs zp o1 o2 o3
  refine ⟨⟨h10, h14, hF.cg e1 e2, flA_pl zp o1 o2 (by rw [hs]; exact o3) o4 (by rw [hs]; exact o5)⟩, fun s h7 => ?_, fun h0 => ?_⟩
  · by_cases e : s = 5
    · subst e
      rw [lnC_y hs]
      exact m1
    · rw [lnC_n (fun z => e (z.symm.trans hs)), m2 s h7 e]
      exact hm s h7
  · by_cases f0 : (flA B n k).1 = 0
    · obtain ⟨hR1, hR2⟩ := hR f0
      have hf : (flt B n k).1 = 0 := by rw [← flA_y f0]; exact h0
      have hlm : lnC B n 5 k < 1 := Nat.lt_of_not_le (flt_v hs hf).1
      have hl : ∀ s, 1 ≤ lim s → lnC B n s k ≤ lim s := fun s h => lnC_lim f0 h
      have l0 : lnC B n 0 k ≤ 6 := hl 0 (by decide)
      have l1 : lnC B n 1 k ≤ 4 := hl 1 (by decide)
      have l2 : lnC B n 2 k ≤ 6 := hl 2 (by decide)
      have l3 : lnC B n 3 k ≤ 4 := hl 3 (by decide)
      have l4 : lnC B n 4 k ≤ 20 := hl 4 (by decide)
      have l5 : lnC B n 5 k ≤ 1 := hl 5 (by decide)
      have l6 : lnC B n 6 k ≤ 1 := hl 6 (by decide)
      refine ⟨hR1.up hs (fun s' m t hm' ht => ?_) (r1 hlm) (fun s' h56 hne hc => ?_), fun i hi hsi => ?_⟩
      · unfold XM
        by_cases x0 : s' = 0
        · subst x0
          rw [if_pos rfl, if_pos rfl]
          have ht : t < 4 := ht
          exact r2 _ (by omega) (by omega)
        by_cases x1 : s' = 1
        · subst x1
          rw [if_neg (show ¬ 1 = 0 by decide), if_neg (show ¬ 1 = 0 by decide), if_pos rfl, if_pos rfl]
          have ht : t < 2 := ht
          exact r2 _ (by omega) (by omega)
        by_cases x2 : s' = 2
        · subst x2
          rw [if_neg (show ¬ 2 = 0 by decide), if_neg (show ¬ 2 = 0 by decide), if_neg (show ¬ 2 = 1 by decide), if_neg (show ¬ 2 = 1 by decide), if_pos rfl, if_pos rfl]
          have ht : t < 2 := ht
          exact r2 _ (by omega) (by omega)
        by_cases x3 : s' = 3
        · subst x3
          rw [if_neg (show ¬ 3 = 0 by decide), if_neg (show ¬ 3 = 0 by decide), if_neg (show ¬ 3 = 1 by decide), if_neg (show ¬ 3 = 1 by decide), if_neg (show ¬ 3 = 2 by decide), if_neg (show ¬ 3 = 2 by decide), if_pos rfl, if_pos rfl]
          have ht : t < 3 := ht
          exact r2 _ (by omega) (by omega)
        by_cases x4 : s' = 4
        · subst x4
          rw [if_neg (show ¬ 4 = 0 by decide), if_neg (show ¬ 4 = 0 by decide), if_neg (show ¬ 4 = 1 by decide), if_neg (show ¬ 4 = 1 by decide), if_neg (show ¬ 4 = 2 by decide), if_neg (show ¬ 4 = 2 by decide), if_neg (show ¬ 4 = 3 by decide), if_neg (show ¬ 4 = 3 by decide), if_pos rfl, if_pos rfl]
          have ht : t < 2 := ht
          exact r2 _ (by omega) (by omega)
        by_cases x5 : s' = 5
        · subst x5
          rw [if_neg (show ¬ 5 = 0 by decide), if_neg (show ¬ 5 = 0 by decide), if_neg (show ¬ 5 = 1 by decide), if_neg (show ¬ 5 = 1 by decide), if_neg (show ¬ 5 = 2 by decide), if_neg (show ¬ 5 = 2 by decide), if_neg (show ¬ 5 = 3 by decide), if_neg (show ¬ 5 = 3 by decide), if_neg (show ¬ 5 = 4 by decide), if_neg (show ¬ 5 = 4 by decide), if_pos rfl, if_pos rfl]
          have ht : t < 2 := ht
          exact r2 _ (by omega) (by omega)
        by_cases x6 : s' = 6
        · subst x6
          rw [if_neg (show ¬ 6 = 0 by decide), if_neg (show ¬ 6 = 0 by decide), if_neg (show ¬ 6 = 1 by decide), if_neg (show ¬ 6 = 1 by decide), if_neg (show ¬ 6 = 2 by decide), if_neg (show ¬ 6 = 2 by decide), if_neg (show ¬ 6 = 3 by decide), if_neg (show ¬ 6 = 3 by decide), if_neg (show ¬ 6 = 4 by decide), if_neg (show ¬ 6 = 4 by decide), if_neg (show ¬ 6 = 5 by decide), if_neg (show ¬ 6 = 5 by decide), if_pos rfl, if_pos rfl]
          have ht : t < 2 := ht
          exact r2 _ (by omega) (by omega)
        · rw [if_neg x0, if_neg x0, if_neg x1, if_neg x1, if_neg x2, if_neg x2, if_neg x3, if_neg x3, if_neg x4, if_neg x4, if_neg x5, if_neg x5, if_neg x6, if_neg x6]
      · unfold XM
        rcases h56 with rfl | rfl
        · exact absurd rfl hne
        · rw [if_neg (show ¬ 6 = 0 by decide), if_neg (show ¬ 6 = 1 by decide), if_neg (show ¬ 6 = 2 by decide), if_neg (show ¬ 6 = 3 by decide), if_neg (show ¬ 6 = 4 by decide), if_neg (show ¬ 6 = 5 by decide), if_pos rfl, if_neg (show ¬ 6 = 0 by decide), if_neg (show ¬ 6 = 1 by decide), if_neg (show ¬ 6 = 2 by decide), if_neg (show ¬ 6 = 3 by decide), if_neg (show ¬ 6 = 4 by decide), if_neg (show ¬ 6 = 5 by decide), if_pos rfl, if_neg (show ¬ 6 = 0 by decide), if_neg (show ¬ 6 = 1 by decide), if_neg (show ¬ 6 = 2 by decide), if_neg (show ¬ 6 = 3 by decide), if_neg (show ¬ 6 = 4 by decide), if_neg (show ¬ 6 = 5 by decide), if_pos rfl, if_neg (show ¬ 6 = 0 by decide), if_neg (show ¬ 6 = 1 by decide), if_neg (show ¬ 6 = 2 by decide), if_neg (show ¬ 6 = 3 by decide), if_neg (show ¬ 6 = 4 by decide), if_neg (show ¬ 6 = 5 by decide), if_pos rfl]
          exact ⟨r2 _ (by omega) (by decide), r2 _ (by omega) (by decide)⟩
      · by_cases e : i = k
        · subst e
          rw [hs] at hsi
          exact absurd hsi (by decide)
        · have q := lnC_lt (B := B) (n := n) (show i < k by omega) hsi
          rw [a1 _ (by omega)]
          exact hR2 i (by omega) hsi
    · rw [flA_n f0] at h0
      exact absurd h0 f0
theorem MSTok6 (hS : MST B n w k) (hs : slt B n (lnP B n k) = 6) (h10 : fld w' 82 10 = 0) (h14 : fld w' 82 14 = k + 1) (hF : FP w' (mfl B n k 6 (flA B n k))) (hO : ORD B n k 6 (tq B n (lnP B n (k + 1)))) (m1 : rwv w' 85 6 = lnC B n 6 k + 1) (m2 : ∀ s, s < 7 → s ≠ 6 → rwv w' 85 s = rwv w 85 s) (r1 : lnC B n 6 k < 1 → ∀ t, t < 2 → XM w' 6 (lnC B n 6 k) t = vln B n (lnP B n k) t) (r2 : ∀ j, (j < 5 ∨ 7 ≤ j) → j < 140 → rwv w' 86 j = rwv w 86 j) (a1 : ∀ j, j < 20 → rwv w' 87 j = rwv w 87 j) : MST B n w' (k + 1) := by
  obtain ⟨⟨z10, z14, zF, zp⟩, hm, hR⟩ := hS
  obtain ⟨o1, o2, o3, o4, o5⟩ := hO
  obtain ⟨e1, e2⟩ := mfl_A hs zp o1 o2 o3
  refine ⟨⟨h10, h14, hF.cg e1 e2, flA_pl zp o1 o2 (by rw [hs]; exact o3) o4 (by rw [hs]; exact o5)⟩, fun s h7 => ?_, fun h0 => ?_⟩
  · by_cases e : s = 6
    · subst e
      rw [lnC_y hs]
      exact m1
    · rw [lnC_n (fun z => e (z.symm.trans hs)), m2 s h7 e]
      exact hm s h7
  · by_cases f0 : (flA B n k).1 = 0
    · obtain ⟨hR1, hR2⟩ := hR f0
      have hf : (flt B n k).1 = 0 := by rw [← flA_y f0]; exact h0
      have hlm : lnC B n 6 k < 1 := Nat.lt_of_not_le (flt_v hs hf).1
      have hl : ∀ s, 1 ≤ lim s → lnC B n s k ≤ lim s := fun s h => lnC_lim f0 h
      have l0 : lnC B n 0 k ≤ 6 := hl 0 (by decide)
      have l1 : lnC B n 1 k ≤ 4 := hl 1 (by decide)
      have l2 : lnC B n 2 k ≤ 6 := hl 2 (by decide)
      have l3 : lnC B n 3 k ≤ 4 := hl 3 (by decide)
      have l4 : lnC B n 4 k ≤ 20 := hl 4 (by decide)
      have l5 : lnC B n 5 k ≤ 1 := hl 5 (by decide)
      have l6 : lnC B n 6 k ≤ 1 := hl 6 (by decide)
      refine ⟨hR1.up hs (fun s' m t hm' ht => ?_) (r1 hlm) (fun s' h56 hne hc => ?_), fun i hi hsi => ?_⟩
      · unfold XM
        by_cases x0 : s' = 0
        · subst x0
          rw [if_pos rfl, if_pos rfl]
          have ht : t < 4 := ht
          exact r2 _ (by omega) (by omega)
        by_cases x1 : s' = 1
        · subst x1
          rw [if_neg (show ¬ 1 = 0 by decide), if_neg (show ¬ 1 = 0 by decide), if_pos rfl, if_pos rfl]
          have ht : t < 2 := ht
          exact r2 _ (by omega) (by omega)
        by_cases x2 : s' = 2
        · subst x2
          rw [if_neg (show ¬ 2 = 0 by decide), if_neg (show ¬ 2 = 0 by decide), if_neg (show ¬ 2 = 1 by decide), if_neg (show ¬ 2 = 1 by decide), if_pos rfl, if_pos rfl]
          have ht : t < 2 := ht
          exact r2 _ (by omega) (by omega)
        by_cases x3 : s' = 3
        · subst x3
          rw [if_neg (show ¬ 3 = 0 by decide), if_neg (show ¬ 3 = 0 by decide), if_neg (show ¬ 3 = 1 by decide), if_neg (show ¬ 3 = 1 by decide), if_neg (show ¬ 3 = 2 by decide), if_neg (show ¬ 3 = 2 by decide), if_pos rfl, if_pos rfl]
          have ht : t < 3 := ht
          exact r2 _ (by omega) (by omega)
        by_cases x4 : s' = 4
        · subst x4
          rw [if_neg (show ¬ 4 = 0 by decide), if_neg (show ¬ 4 = 0 by decide), if_neg (show ¬ 4 = 1 by decide), if_neg (show ¬ 4 = 1 by decide), if_neg (show ¬ 4 = 2 by decide), if_neg (show ¬ 4 = 2 by decide), if_neg (show ¬ 4 = 3 by decide), if_neg (show ¬ 4 = 3 by decide), if_pos rfl, if_pos rfl]
          have ht : t < 2 := ht
          exact r2 _ (by omega) (by omega)
        by_cases x5 : s' = 5
        · subst x5
          rw [if_neg (show ¬ 5 = 0 by decide), if_neg (show ¬ 5 = 0 by decide), if_neg (show ¬ 5 = 1 by decide), if_neg (show ¬ 5 = 1 by decide), if_neg (show ¬ 5 = 2 by decide), if_neg (show ¬ 5 = 2 by decide), if_neg (show ¬ 5 = 3 by decide), if_neg (show ¬ 5 = 3 by decide), if_neg (show ¬ 5 = 4 by decide), if_neg (show ¬ 5 = 4 by decide), if_pos rfl, if_pos rfl]
          have ht : t < 2 := ht
          exact r2 _ (by omega) (by omega)
        by_cases x6 : s' = 6
        · subst x6
          rw [if_neg (show ¬ 6 = 0 by decide), if_neg (show ¬ 6 = 0 by decide), if_neg (show ¬ 6 = 1 by decide), if_neg (show ¬ 6 = 1 by decide), if_neg (show ¬ 6 = 2 by decide), if_neg (show ¬ 6 = 2 by decide), if_neg (show ¬ 6 = 3 by decide), if_neg (show ¬ 6 = 3 by decide), if_neg (show ¬ 6 = 4 by decide), if_neg (show ¬ 6 = 4 by decide), if_neg (show ¬ 6 = 5 by decide), if_neg (show ¬ 6 = 5 by decide), if_pos rfl, if_pos rfl]
          have ht : t < 2 := ht
          exact r2 _ (by omega) (by omega)
        · rw [if_neg x0, if_neg x0, if_neg x1, if_neg x1, if_neg x2, if_neg x2, if_neg x3, if_neg x3, if_neg x4, if_neg x4, if_neg x5, if_neg x5, if_neg x6, if_neg x6]
      · unfold XM
        rcases h56 with rfl | rfl
        · rw [if_neg (show ¬ 5 = 0 by decide), if_neg (show ¬ 5 = 1 by decide), if_neg (show ¬ 5 = 2 by decide), if_neg (show ¬ 5 = 3 by decide), if_neg (show ¬ 5 = 4 by decide), if_pos rfl, if_neg (show ¬ 5 = 0 by decide), if_neg (show ¬ 5 = 1 by decide), if_neg (show ¬ 5 = 2 by decide), if_neg (show ¬ 5 = 3 by decide), if_neg (show ¬ 5 = 4 by decide), if_pos rfl, if_neg (show ¬ 5 = 0 by decide), if_neg (show ¬ 5 = 1 by decide), if_neg (show ¬ 5 = 2 by decide), if_neg (show ¬ 5 = 3 by decide), if_neg (show ¬ 5 = 4 by decide), if_pos rfl, if_neg (show ¬ 5 = 0 by decide), if_neg (show ¬ 5 = 1 by decide), if_neg (show ¬ 5 = 2 by decide), if_neg (show ¬ 5 = 3 by decide), if_neg (show ¬ 5 = 4 by decide), if_pos rfl]
          exact ⟨r2 _ (by omega) (by decide), r2 _ (by omega) (by decide)⟩
        · exact absurd rfl hne
      · by_cases e : i = k
        · subst e
          rw [hs] at hsi
          exact absurd hsi (by decide)
        · have q := lnC_lt (B := B) (n := n) (show i < k by omega) hsi
          rw [a1 _ (by omega)]
          exact hR2 i (by omega) hsi
    · rw [flA_n f0] at h0
      exact absurd h0 f0
theorem mlf_iff {K v : Nat} (h : RCN B n k (XM w)) (hK : K = lnC B n 1 k) (h4 : K ≤ 4) : (∃ m, m < K ∧ m < 4 ∧ rwv w 86 (50 + 2 * m) = v) ↔ lfB B n v k = true := by
  subst hK
  refine ⟨fun z => ?_, fun z => ?_⟩
  · obtain ⟨m, h1, -, h2⟩ := z
    obtain ⟨i, i1, i2, i3⟩ := lnC_hit (B := B) (n := n) (s := 1) k h1
    have q := h.1 i i1 0 (by rw [i2]; decide)
    rw [i2, i3] at q
    have q : rwv w 86 (50 + 2 * m + 0) = vln B n (lnP B n i) 0 := q
    exact lfB_t i1 i2 (q.symm.trans h2)
  · by_cases e : ∃ m, m < lnC B n 1 k ∧ m < 4 ∧ rwv w 86 (50 + 2 * m) = v
    · exact e
    · exfalso
      have f := lfB_f (B := B) (n := n) (v := v) k (fun i hi hs hv => e ⟨lnC B n 1 i, lnC_lt hi hs, by have := lnC_lt (B := B) (n := n) hi hs; omega, by
        have q := h.1 i hi 0 (by rw [hs]; decide)
        rw [hs] at q
        have q : rwv w 86 (50 + 2 * lnC B n 1 i + 0) = vln B n (lnP B n i) 0 := q
        exact q.trans hv⟩)
      rw [f] at z
      exact Bool.false_ne_true z
end XFMC
section XFMD
variable {d : Nat} {w : List (List xE)} {bd : List (Nat × Nat)} {fc : List (Nat × Nat × Bool)} {rr : Nat × Nat}
set_option maxHeartbeats 60000000 in
theorem mALayX {fp : Nat × Nat} {B : Nat → Nat} {nn p : Nat} {kk : Nat} (hI : xMnv w) (hkk : kk ≤ 1001) (hB : bsm w B nn) (h10 : fld w 82 10 = 0) (hT : TKM 0 B nn w p) (hf : FP w fp) : xPq (d + 6) mX12_aLayer [(2, 82), (0, kk)] w bd fc rr [] (fun w' => xMnv w' ∧ xFr [82, 83, 86] w w' ∧ (((∃ q, lnN B nn 0 3 p = (false, q) ∧ WRG w' (tq B nn q)) ∨ (∃ p2 p3 p4 q, p2 = tf B nn p ∧ p3 = tf B nn p2 ∧ p4 = tf B nn p3 ∧ q = tf B nn p4 ∧ tkd B nn p = 2 ∧ tkd B nn p2 = 2 ∧ tkd B nn p3 = 2 ∧ tkd B nn p4 = 1 ∧ lnN B nn 0 3 p = lnS B nn q ∧ fld w' 82 10 = 0 ∧ TKM 0 B nn w' q ∧ FP w' (chk (chk (chk fp 1 99 (tnu B nn p) (tq B nn p)) 1 99 (tnu B nn p2) (tq B nn p2)) 1 99 (tnu B nn p3) (tq B nn p3)) ∧ (kk < 6 → rwv w' 86 (20 + 4 * kk + 0) = tnu B nn p ∧ rwv w' 86 (20 + 4 * kk + 1) = tnu B nn p2 ∧ rwv w' 86 (20 + 4 * kk + 2) = tnu B nn p3 ∧ rwv w' 86 (20 + 4 * kk + 3) = (if twk B nn p4 = 20325509 then 1 else 0)))) ∧ fld w' 82 14 = fld w 82 14 ∧ K83 w w' ∧ (∀ j, (j < 20 + 4 * kk ∨ 24 + 4 * kk ≤ j) → j < 140 → rwv w' 86 j = rwv w 86 j))) := by
  refine xPq.of ?_
  show xTo (d + 6) mX12_aLayer (0, [], [(0, (2, 82)), (1, (0, kk))], [], (w, bd, fc, 0, 0, rr)) (fun φ => ∃ w', xEnd 0 [] (w', bd, fc, 0, 0, rr) φ ∧ xMnv w' ∧ xFr [82, 83, 86] w w' ∧ (((∃ q, lnN B nn 0 3 p = (false, q) ∧ WRG w' (tq B nn q)) ∨ (∃ p2 p3 p4 q, p2 = tf B nn p ∧ p3 = tf B nn p2 ∧ p4 = tf B nn p3 ∧ q = tf B nn p4 ∧ tkd B nn p = 2 ∧ tkd B nn p2 = 2 ∧ tkd B nn p3 = 2 ∧ tkd B nn p4 = 1 ∧ lnN B nn 0 3 p = lnS B nn q ∧ fld w' 82 10 = 0 ∧ TKM 0 B nn w' q ∧ FP w' (chk (chk (chk fp 1 99 (tnu B nn p) (tq B nn p)) 1 99 (tnu B nn p2) (tq B nn p2)) 1 99 (tnu B nn p3) (tq B nn p3)) ∧ (kk < 6 → rwv w' 86 (20 + 4 * kk + 0) = tnu B nn p ∧ rwv w' 86 (20 + 4 * kk + 1) = tnu B nn p2 ∧ rwv w' 86 (20 + 4 * kk + 2) = tnu B nn p3 ∧ rwv w' 86 (20 + 4 * kk + 3) = (if twk B nn p4 = 20325509 then 1 else 0)))) ∧ fld w' 82 14 = fld w 82 14 ∧ K83 w w' ∧ (∀ j, (j < 20 + 4 * kk ∨ 24 + 4 * kk ≤ j) → j < 140 → rwv w' 86 j = rwv w 86 j)))
  refine xoCh82 (hI 82 (by decide) (by decide) : cp82 (wget w 82)) (fun f82_1 f82_3 f82_5 f82_7 f82_9 f82_11 f82_13 f82_15 f82_17 f82_19 f82_21 f82_22 f82_23 f82_25 f82_27 f82_29 h82_31 hb2 hb4 hb6 hb8 hb10 hb12 hb14 hb16 hb18 hb20 hb24 hb26 hb28 hb30 hb32 => ?_)
  refine xoI (hI 86 (by decide) (by decide) : cpI 140 53 4294967295 (wget w 86)) (fun g86_33 h86_34 hb35 => ?_)
  refine xg_t (xg_blk (b := [(0, 1, 3, 0, 0, 0), (1, 1, 15, 2, 0, 0)]) rfl) ?_
  refine xg_t (xg_const) ?_
  refine xg_t (xg_istore (l1 := [(0, (2, 82)), (1, (0, kk))]) rfl rfl rfl) ?_
  refine xg_t (xg_blk (b := [(2, 1, 2, 2, 0, 0), (3, 1, 3, 3, 0, 0), (4, 3, 6, 34, 3, 0), (7, 1, 0, 0, 0, 0), (8, 1, 3, 0, 0, 0), (9, 1, 2, 1, 0, 0), (10, 2, 4, 20, 0, 0), (12, 1, 3, 4, 0, 0), (13, 1, 2, 1, 0, 0), (14, 1, 16, 0, 0, 0), (15, 1, 11, 0, 0, 0), (16, 1, 2, 2, 0, 0), (17, 1, 11, 0, 0, 0), (18, 1, 0, 0, 0, 0), (19, 1, 3, 1, 0, 0), (20, 2, 4, 99, 0, 0), (22, 3, 13, 199, 96, 196), (25, 3, 13, 211, 96, 200), (28, 3, 9, 2, 1, 0), (31, 3, 8, 2, 0, 0)]) rfl) ?_
  refine xg_t (xg_iload (va := (0, 0)) rfl rfl) ?_
  refine xg_t (xg_const) ?_
  refine xg_t (xg_icF (u := 0) (v := 3) rfl xnm0 xnm0 (by decide)) ?_
  refine xg_t (xg_aload (va := (2, 82)) rfl rfl) ?_
  refine xg_t (xg_const) ?_
  refine xg_t (xg_iload (va := (0, kk)) rfl rfl) ?_
  refine xg_t (xg_bip) ?_
  refine xg_t (xg_const) ?_
  refine xg_t (xg_iload (va := (0, kk)) rfl rfl) ?_
  refine xg_t (xg_imul (u := 4) (v := kk) (z := 4 * kk) xnm0 xnm0 (by omega)) ?_
  refine xg_t (xg_iadd (u := 20) (v := 4 * kk) (z := 20 + (4 * kk)) xnm0 xnm0 (by omega)) ?_
  refine xg_t (xg_iload (va := (0, 0)) rfl rfl) ?_
  refine xg_t (xg_iadd (u := 20 + (4 * kk)) (v := 0) (z := (20 + (4 * kk)) + 0) xnm0 xnm0 (by omega)) ?_
  refine xg_t (xg_aload (va := (2, 82)) rfl rfl) ?_
  refine xg_t (xg_const) ?_
  refine xg_t (xg_bip) ?_
  have hk36 := (rfl : fld w 82 14 = fld w 82 14)
  refine xg_cVi mX12_numbered (vs := [(0, 1), (0, 99)]) (rest := [(0, (20 + (4 * kk)) + 0), (0, kk), (0, 0), (2, 82)]) (cn1 := 0) (sl1 := 0) rfl (mNumX (ir := 0) (hI) (by omega) (by omega) hB h10 hT hf) rfl h82_31 rfl rfl rfl rfl rfl rfl (fun n41 w37 hq38 => ?_)
  obtain ⟨hn42, hI39, hF40⟩ := hq38
  obtain ⟨hx45, h14_43, k8_44⟩ := hn42
  have k14_46 := h14_43.trans hk36
  rcases hx45 with ⟨rfl, hk47, hW48⟩ | ⟨hv49, h9_50, hk47, k10_51, hT_52, hF_53⟩
  · have lf54 : lnN B nn 0 3 p = (false, p) := (lnN_n (k := 2) hk47)
    refine xoCh82 (hI39 82 (by decide) (by decide) : cp82 (wget w37 82)) (fun f82_55 f82_57 f82_59 f82_61 f82_63 f82_65 f82_67 f82_69 f82_71 f82_73 f82_75 f82_76 f82_77 f82_79 f82_81 f82_83 h82_85 hb56 hb58 hb60 hb62 hb64 hb66 hb68 hb70 hb72 hb74 hb78 hb80 hb82 hb84 hb86 => ?_)
    refine xg_cVv mX12_puts (vs := [(0, 0), (0, kk), (0, (20 + (4 * kk)) + 0), (0, 0)]) (rest := []) (cn1 := 0) (sl1 := 0) rfl (mPuts0 (hI39) (by omega) (by omega) (by omega) (fun _ => by omega)) rfl h82_85 rfl rfl rfl rfl rfl rfl (fun w87 hq88 => ?_)
    obtain ⟨hI89, hF90, hx91⟩ := hq88
    obtain ⟨hp92, hp93⟩ := hx91
    refine xg_t (xg_iinc (u := 0) (z := 1) (l1 := [(0, (2, 82)), (1, (0, kk))]) rfl rfl (by decide) rfl) ?_
    refine xg_t (xg_goto) ?_
    refine xg_t (xg_blk (b := [(2, 1, 2, 2, 0, 0), (3, 1, 3, 3, 0, 0), (4, 3, 6, 34, 3, 0), (7, 1, 0, 0, 0, 0), (8, 1, 3, 0, 0, 0), (9, 1, 2, 1, 0, 0), (10, 2, 4, 20, 0, 0), (12, 1, 3, 4, 0, 0), (13, 1, 2, 1, 0, 0), (14, 1, 16, 0, 0, 0), (15, 1, 11, 0, 0, 0), (16, 1, 2, 2, 0, 0), (17, 1, 11, 0, 0, 0), (18, 1, 0, 0, 0, 0), (19, 1, 3, 1, 0, 0), (20, 2, 4, 99, 0, 0), (22, 3, 13, 199, 96, 196), (25, 3, 13, 211, 96, 200), (28, 3, 9, 2, 1, 0), (31, 3, 8, 2, 0, 0)]) rfl) ?_
    refine xg_t (xg_iload (va := (0, 1)) rfl rfl) ?_
    refine xg_t (xg_const) ?_
    refine xg_t (xg_icF (u := 1) (v := 3) rfl xnm0 xnm0 (by decide)) ?_
    refine xg_t (xg_aload (va := (2, 82)) rfl rfl) ?_
    refine xg_t (xg_const) ?_
    refine xg_t (xg_iload (va := (0, kk)) rfl rfl) ?_
    refine xg_t (xg_bip) ?_
    refine xg_t (xg_const) ?_
    refine xg_t (xg_iload (va := (0, kk)) rfl rfl) ?_
    refine xg_t (xg_imul (u := 4) (v := kk) (z := 4 * kk) xnm0 xnm0 (by omega)) ?_
    refine xg_t (xg_iadd (u := 20) (v := 4 * kk) (z := 20 + (4 * kk)) xnm0 xnm0 (by omega)) ?_
    refine xg_t (xg_iload (va := (0, 1)) rfl rfl) ?_
    refine xg_t (xg_iadd (u := 20 + (4 * kk)) (v := 1) (z := (20 + (4 * kk)) + 1) xnm0 xnm0 (by omega)) ?_
    refine xg_t (xg_aload (va := (2, 82)) rfl rfl) ?_
    refine xg_t (xg_const) ?_
    refine xg_t (xg_bip) ?_
    refine xg_cVi mX12_numbered (vs := [(0, 1), (0, 99)]) (rest := [(0, (20 + (4 * kk)) + 1), (0, kk), (0, 0), (2, 82)]) (cn1 := 0) (sl1 := 0) rfl (mNumW (hI89) (by omega) (by omega) (by have q := hW48.1; have q2 := fld_eq (j := 10) (hF90.1 82 (by decide)); omega)) rfl (hF90.get (by decide) h82_85) rfl rfl rfl rfl rfl rfl (fun n98 w94 hq95 => ?_)
    obtain ⟨hn99, hI96, hF97⟩ := hq95
    obtain rfl := hn99
    refine xg_cVv mX12_puts (vs := [(0, 0), (0, kk), (0, (20 + (4 * kk)) + 1), (0, 0)]) (rest := []) (cn1 := 0) (sl1 := 0) rfl (mPuts0 (hI96) (by omega) (by omega) (by omega) (fun _ => by omega)) rfl (hF97.get (by decide) (hF90.get (by decide) h82_85)) rfl rfl rfl rfl rfl rfl (fun w100 hq101 => ?_)
    obtain ⟨hI102, hF103, hx104⟩ := hq101
    obtain ⟨hp105, hp106⟩ := hx104
    refine xg_t (xg_iinc (u := 1) (z := 2) (l1 := [(0, (2, 82)), (1, (0, kk))]) rfl rfl (by decide) rfl) ?_
    refine xg_t (xg_goto) ?_
    refine xg_t (xg_blk (b := [(2, 1, 2, 2, 0, 0), (3, 1, 3, 3, 0, 0), (4, 3, 6, 34, 3, 0), (7, 1, 0, 0, 0, 0), (8, 1, 3, 0, 0, 0), (9, 1, 2, 1, 0, 0), (10, 2, 4, 20, 0, 0), (12, 1, 3, 4, 0, 0), (13, 1, 2, 1, 0, 0), (14, 1, 16, 0, 0, 0), (15, 1, 11, 0, 0, 0), (16, 1, 2, 2, 0, 0), (17, 1, 11, 0, 0, 0), (18, 1, 0, 0, 0, 0), (19, 1, 3, 1, 0, 0), (20, 2, 4, 99, 0, 0), (22, 3, 13, 199, 96, 196), (25, 3, 13, 211, 96, 200), (28, 3, 9, 2, 1, 0), (31, 3, 8, 2, 0, 0)]) rfl) ?_
    refine xg_t (xg_iload (va := (0, 2)) rfl rfl) ?_
    refine xg_t (xg_const) ?_
    refine xg_t (xg_icF (u := 2) (v := 3) rfl xnm0 xnm0 (by decide)) ?_
    refine xg_t (xg_aload (va := (2, 82)) rfl rfl) ?_
    refine xg_t (xg_const) ?_
    refine xg_t (xg_iload (va := (0, kk)) rfl rfl) ?_
    refine xg_t (xg_bip) ?_
    refine xg_t (xg_const) ?_
    refine xg_t (xg_iload (va := (0, kk)) rfl rfl) ?_
    refine xg_t (xg_imul (u := 4) (v := kk) (z := 4 * kk) xnm0 xnm0 (by omega)) ?_
    refine xg_t (xg_iadd (u := 20) (v := 4 * kk) (z := 20 + (4 * kk)) xnm0 xnm0 (by omega)) ?_
    refine xg_t (xg_iload (va := (0, 2)) rfl rfl) ?_
    refine xg_t (xg_iadd (u := 20 + (4 * kk)) (v := 2) (z := (20 + (4 * kk)) + 2) xnm0 xnm0 (by omega)) ?_
    refine xg_t (xg_aload (va := (2, 82)) rfl rfl) ?_
    refine xg_t (xg_const) ?_
    refine xg_t (xg_bip) ?_
    refine xg_cVi mX12_numbered (vs := [(0, 1), (0, 99)]) (rest := [(0, (20 + (4 * kk)) + 2), (0, kk), (0, 0), (2, 82)]) (cn1 := 0) (sl1 := 0) rfl (mNumW (hI102) (by omega) (by omega) (by have q := hW48.1; have q2 := fld_eq (j := 10) ((hF103.1 82 (by decide)).trans ((hF97.1 82 (by decide)).trans (hF90.1 82 (by decide)))); omega)) rfl (hF103.get (by decide) (hF97.get (by decide) (hF90.get (by decide) h82_85))) rfl rfl rfl rfl rfl rfl (fun n111 w107 hq108 => ?_)
    obtain ⟨hn112, hI109, hF110⟩ := hq108
    obtain rfl := hn112
    refine xg_cVv mX12_puts (vs := [(0, 0), (0, kk), (0, (20 + (4 * kk)) + 2), (0, 0)]) (rest := []) (cn1 := 0) (sl1 := 0) rfl (mPuts0 (hI109) (by omega) (by omega) (by omega) (fun _ => by omega)) rfl (hF110.get (by decide) (hF103.get (by decide) (hF97.get (by decide) (hF90.get (by decide) h82_85)))) rfl rfl rfl rfl rfl rfl (fun w113 hq114 => ?_)
    obtain ⟨hI115, hF116, hx117⟩ := hq114
    obtain ⟨hp118, hp119⟩ := hx117
    refine xg_t (xg_iinc (u := 2) (z := 3) (l1 := [(0, (2, 82)), (1, (0, kk))]) rfl rfl (by decide) rfl) ?_
    refine xg_t (xg_goto) ?_
    refine xg_t (xg_blk (b := [(2, 1, 2, 2, 0, 0), (3, 1, 3, 3, 0, 0), (4, 3, 6, 34, 3, 0), (7, 1, 0, 0, 0, 0), (8, 1, 3, 0, 0, 0), (9, 1, 2, 1, 0, 0), (10, 2, 4, 20, 0, 0), (12, 1, 3, 4, 0, 0), (13, 1, 2, 1, 0, 0), (14, 1, 16, 0, 0, 0), (15, 1, 11, 0, 0, 0), (16, 1, 2, 2, 0, 0), (17, 1, 11, 0, 0, 0), (18, 1, 0, 0, 0, 0), (19, 1, 3, 1, 0, 0), (20, 2, 4, 99, 0, 0), (22, 3, 13, 199, 96, 196), (25, 3, 13, 211, 96, 200), (28, 3, 9, 2, 1, 0), (31, 3, 8, 2, 0, 0)]) rfl) ?_
    refine xg_t (xg_iload (va := (0, 3)) rfl rfl) ?_
    refine xg_t (xg_const) ?_
    refine xg_t (xg_icT (u := 3) (v := 3) rfl xnm0 xnm0 (by decide)) ?_
    refine xg_t (xg_blk (b := [(34, 1, 0, 0, 0, 0), (35, 3, 1, 12, 10, 180), (38, 3, 7, 67, 1, 0), (41, 1, 0, 0, 0, 0), (42, 3, 1, 12, 7, 151), (45, 1, 3, 3, 0, 0), (46, 3, 6, 67, 1, 0), (49, 1, 0, 0, 0, 0), (50, 3, 1, 12, 9, 165), (53, 2, 4, 7, 0, 0), (55, 3, 6, 72, 0, 0), (58, 1, 0, 0, 0, 0), (59, 3, 1, 12, 9, 165), (62, 2, 4, 8, 0, 0), (64, 3, 6, 72, 0, 0)]) rfl) ?_
    refine xg_t (xg_aload (va := (2, 82)) rfl rfl) ?_
    refine xg_t (xg_getf (va := (0, f82_71)) (hF116.get (by decide) (hF110.get (by decide) (hF103.get (by decide) (hF97.get (by decide) (hF90.get (by decide) h82_85))))) rfl) ?_
    have hf120 : fld w113 82 10 = f82_71 := fld_of (hF116.get (by decide) (hF110.get (by decide) (hF103.get (by decide) (hF97.get (by decide) (hF90.get (by decide) h82_85)))))
    have hk121 : fld w113 82 10 ≠ 0 := (by have q := hW48.1; have q2 := fld_eq (j := 10) ((hF116.1 82 (by decide)).trans ((hF110.1 82 (by decide)).trans ((hF103.1 82 (by decide)).trans ((hF97.1 82 (by decide)).trans (hF90.1 82 (by decide)))))); omega)
    refine xg_t (xg_ifT (u := f82_71) rfl xnm0 (xj_neT (by omega))) ?_
    refine xg_t (xg_blk (b := [(67, 1, 0, 0, 0, 0), (68, 3, 13, 140, 96, 183), (71, 1, 12, 0, 0, 0)]) rfl) ?_
    refine xg_t (xg_aload (va := (2, 82)) rfl rfl) ?_
    refine xg_cVv mX12_ends (vs := []) (rest := []) (cn1 := 0) (sl1 := 0) rfl (mEndsW (hI115) (by have q := hW48.1; have q2 := fld_eq (j := 10) ((hF116.1 82 (by decide)).trans ((hF110.1 82 (by decide)).trans ((hF103.1 82 (by decide)).trans ((hF97.1 82 (by decide)).trans (hF90.1 82 (by decide)))))); omega)) rfl (hF116.get (by decide) (hF110.get (by decide) (hF103.get (by decide) (hF97.get (by decide) (hF90.get (by decide) h82_85))))) rfl rfl rfl rfl rfl rfl (fun w122 hq123 => ?_)
    obtain ⟨hI124, hF125⟩ := hq123
    exact xg_e ⟨w122, ⟨rfl, rfl⟩, hI124, (((((((hF40.up (by decide)).tr (hF90.up (by decide))).tr (hF97.up (by decide))).tr (hF103.up (by decide))).tr (hF110.up (by decide))).tr (hF116.up (by decide))).tr (hF125.up (by decide))), ⟨Or.inl ⟨p, lf54, ⟨(fld_eq (j := 10) ((hF125.1 82 (by decide)).trans ((hF116.1 82 (by decide)).trans ((hF110.1 82 (by decide)).trans ((hF103.1 82 (by decide)).trans ((hF97.1 82 (by decide)).trans (hF90.1 82 (by decide)))))))).trans hW48.1, (rwv_eq (j := 16) ((hF125.1 83 (by decide)).trans ((hF116.1 83 (by decide)).trans ((hF110.1 83 (by decide)).trans ((hF103.1 83 (by decide)).trans ((hF97.1 83 (by decide)).trans (hF90.1 83 (by decide)))))))).trans hW48.2.1, (rwv_eq (j := 17) ((hF125.1 83 (by decide)).trans ((hF116.1 83 (by decide)).trans ((hF110.1 83 (by decide)).trans ((hF103.1 83 (by decide)).trans ((hF97.1 83 (by decide)).trans (hF90.1 83 (by decide)))))))).trans hW48.2.2⟩⟩, ((fld_eq (j := 14) ((hF125.1 82 (by decide)).trans ((hF116.1 82 (by decide)).trans ((hF110.1 82 (by decide)).trans ((hF103.1 82 (by decide)).trans ((hF97.1 82 (by decide)).trans (hF90.1 82 (by decide)))))))).trans k14_46), ((((((k8_44.tr (K83.fr hF90 (by decide))).tr (K83.fr hF97 (by decide))).tr (K83.fr hF103 (by decide))).tr (K83.fr hF110 (by decide))).tr (K83.fr hF116 (by decide))).tr (K83.fr hF125 (by decide))), (fun j hj hl => ((rwv_eq (hF125.1 86 (by decide))).trans ((hp119 j (by omega) hl).trans ((rwv_eq (hF110.1 86 (by decide))).trans ((hp106 j (by omega) hl).trans ((rwv_eq (hF97.1 86 (by decide))).trans ((hp93 j (by omega) hl).trans (rwv_eq (hF40.1 86 (by decide))))))))))⟩⟩
  · obtain ⟨p_126, hp127⟩ : ∃ x, x = tf B nn p := ⟨_, rfl⟩
    rw [← hp127] at hT_52
    have ln128 : lnN B nn 0 3 p = lnN B nn 0 2 p_126 := by rw [hp127]; exact (lnN_y (k := 2) hk47)
    refine xoCh82 (hI39 82 (by decide) (by decide) : cp82 (wget w37 82)) (fun f82_129 f82_131 f82_133 f82_135 f82_137 f82_139 f82_141 f82_143 f82_145 f82_147 f82_149 f82_150 f82_151 f82_153 f82_155 f82_157 h82_159 hb130 hb132 hb134 hb136 hb138 hb140 hb142 hb144 hb146 hb148 hb152 hb154 hb156 hb158 hb160 => ?_)
    refine xg_cVv mX12_puts (vs := [(0, 0), (0, kk), (0, (20 + (4 * kk)) + 0), (0, n41)]) (rest := []) (cn1 := 0) (sl1 := 0) rfl (mPuts0 (hI39) (by omega) (by omega) (by omega) (fun _ => by omega)) rfl h82_159 rfl rfl rfl rfl rfl rfl (fun w161 hq162 => ?_)
    obtain ⟨hI163, hF164, hx165⟩ := hq162
    obtain ⟨hp166, hp167⟩ := hx165
    refine xg_t (xg_iinc (u := 0) (z := 1) (l1 := [(0, (2, 82)), (1, (0, kk))]) rfl rfl (by decide) rfl) ?_
    refine xg_t (xg_goto) ?_
    refine xg_t (xg_blk (b := [(2, 1, 2, 2, 0, 0), (3, 1, 3, 3, 0, 0), (4, 3, 6, 34, 3, 0), (7, 1, 0, 0, 0, 0), (8, 1, 3, 0, 0, 0), (9, 1, 2, 1, 0, 0), (10, 2, 4, 20, 0, 0), (12, 1, 3, 4, 0, 0), (13, 1, 2, 1, 0, 0), (14, 1, 16, 0, 0, 0), (15, 1, 11, 0, 0, 0), (16, 1, 2, 2, 0, 0), (17, 1, 11, 0, 0, 0), (18, 1, 0, 0, 0, 0), (19, 1, 3, 1, 0, 0), (20, 2, 4, 99, 0, 0), (22, 3, 13, 199, 96, 196), (25, 3, 13, 211, 96, 200), (28, 3, 9, 2, 1, 0), (31, 3, 8, 2, 0, 0)]) rfl) ?_
    refine xg_t (xg_iload (va := (0, 1)) rfl rfl) ?_
    refine xg_t (xg_const) ?_
    refine xg_t (xg_icF (u := 1) (v := 3) rfl xnm0 xnm0 (by decide)) ?_
    refine xg_t (xg_aload (va := (2, 82)) rfl rfl) ?_
    refine xg_t (xg_const) ?_
    refine xg_t (xg_iload (va := (0, kk)) rfl rfl) ?_
    refine xg_t (xg_bip) ?_
    refine xg_t (xg_const) ?_
    refine xg_t (xg_iload (va := (0, kk)) rfl rfl) ?_
    refine xg_t (xg_imul (u := 4) (v := kk) (z := 4 * kk) xnm0 xnm0 (by omega)) ?_
    refine xg_t (xg_iadd (u := 20) (v := 4 * kk) (z := 20 + (4 * kk)) xnm0 xnm0 (by omega)) ?_
    refine xg_t (xg_iload (va := (0, 1)) rfl rfl) ?_
    refine xg_t (xg_iadd (u := 20 + (4 * kk)) (v := 1) (z := (20 + (4 * kk)) + 1) xnm0 xnm0 (by omega)) ?_
    refine xg_t (xg_aload (va := (2, 82)) rfl rfl) ?_
    refine xg_t (xg_const) ?_
    refine xg_t (xg_bip) ?_
    have hk168 := ((fld_eq (j := 14) (hF164.1 82 (by decide))).trans k14_46)
    refine xg_cVi mX12_numbered (vs := [(0, 1), (0, 99)]) (rest := [(0, (20 + (4 * kk)) + 1), (0, kk), (0, 0), (2, 82)]) (cn1 := 0) (sl1 := 0) rfl (mNumX (ir := 0) (hI163) (by omega) (by omega) (hB.fr (fun j h4 h9 => (k8_44.tr (K83.fr hF164 (by decide))) j (by omega) (by omega) (by omega))) ((fld_eq (j := 10) (hF164.1 82 (by decide))).trans k10_51) (hT_52.fr (hF164.1 82 (by decide))) (hF_53.k83 (rwv_eq (hF164.1 83 (by decide))) (rwv_eq (hF164.1 83 (by decide))))) rfl (hF164.get (by decide) h82_159) rfl rfl rfl rfl rfl rfl (fun n173 w169 hq170 => ?_)
    obtain ⟨hn174, hI171, hF172⟩ := hq170
    obtain ⟨hx177, h14_175, k8_176⟩ := hn174
    have k14_178 := h14_175.trans hk168
    rcases hx177 with ⟨rfl, hk179, hW180⟩ | ⟨hv181, h9_182, hk179, k10_183, hT_184, hF_185⟩
    · have lf186 : lnN B nn 0 3 p = (false, p_126) := ln128.trans (lnN_n (k := 1) hk179)
      refine xoCh82 (hI171 82 (by decide) (by decide) : cp82 (wget w169 82)) (fun f82_187 f82_189 f82_191 f82_193 f82_195 f82_197 f82_199 f82_201 f82_203 f82_205 f82_207 f82_208 f82_209 f82_211 f82_213 f82_215 h82_217 hb188 hb190 hb192 hb194 hb196 hb198 hb200 hb202 hb204 hb206 hb210 hb212 hb214 hb216 hb218 => ?_)
      refine xg_cVv mX12_puts (vs := [(0, 0), (0, kk), (0, (20 + (4 * kk)) + 1), (0, 0)]) (rest := []) (cn1 := 0) (sl1 := 0) rfl (mPuts0 (hI171) (by omega) (by omega) (by omega) (fun _ => by omega)) rfl h82_217 rfl rfl rfl rfl rfl rfl (fun w219 hq220 => ?_)
      obtain ⟨hI221, hF222, hx223⟩ := hq220
      obtain ⟨hp224, hp225⟩ := hx223
      refine xg_t (xg_iinc (u := 1) (z := 2) (l1 := [(0, (2, 82)), (1, (0, kk))]) rfl rfl (by decide) rfl) ?_
      refine xg_t (xg_goto) ?_
      refine xg_t (xg_blk (b := [(2, 1, 2, 2, 0, 0), (3, 1, 3, 3, 0, 0), (4, 3, 6, 34, 3, 0), (7, 1, 0, 0, 0, 0), (8, 1, 3, 0, 0, 0), (9, 1, 2, 1, 0, 0), (10, 2, 4, 20, 0, 0), (12, 1, 3, 4, 0, 0), (13, 1, 2, 1, 0, 0), (14, 1, 16, 0, 0, 0), (15, 1, 11, 0, 0, 0), (16, 1, 2, 2, 0, 0), (17, 1, 11, 0, 0, 0), (18, 1, 0, 0, 0, 0), (19, 1, 3, 1, 0, 0), (20, 2, 4, 99, 0, 0), (22, 3, 13, 199, 96, 196), (25, 3, 13, 211, 96, 200), (28, 3, 9, 2, 1, 0), (31, 3, 8, 2, 0, 0)]) rfl) ?_
      refine xg_t (xg_iload (va := (0, 2)) rfl rfl) ?_
      refine xg_t (xg_const) ?_
      refine xg_t (xg_icF (u := 2) (v := 3) rfl xnm0 xnm0 (by decide)) ?_
      refine xg_t (xg_aload (va := (2, 82)) rfl rfl) ?_
      refine xg_t (xg_const) ?_
      refine xg_t (xg_iload (va := (0, kk)) rfl rfl) ?_
      refine xg_t (xg_bip) ?_
      refine xg_t (xg_const) ?_
      refine xg_t (xg_iload (va := (0, kk)) rfl rfl) ?_
      refine xg_t (xg_imul (u := 4) (v := kk) (z := 4 * kk) xnm0 xnm0 (by omega)) ?_
      refine xg_t (xg_iadd (u := 20) (v := 4 * kk) (z := 20 + (4 * kk)) xnm0 xnm0 (by omega)) ?_
      refine xg_t (xg_iload (va := (0, 2)) rfl rfl) ?_
      refine xg_t (xg_iadd (u := 20 + (4 * kk)) (v := 2) (z := (20 + (4 * kk)) + 2) xnm0 xnm0 (by omega)) ?_
      refine xg_t (xg_aload (va := (2, 82)) rfl rfl) ?_
      refine xg_t (xg_const) ?_
      refine xg_t (xg_bip) ?_
      refine xg_cVi mX12_numbered (vs := [(0, 1), (0, 99)]) (rest := [(0, (20 + (4 * kk)) + 2), (0, kk), (0, 0), (2, 82)]) (cn1 := 0) (sl1 := 0) rfl (mNumW (hI221) (by omega) (by omega) (by have q := hW180.1; have q2 := fld_eq (j := 10) (hF222.1 82 (by decide)); omega)) rfl (hF222.get (by decide) h82_217) rfl rfl rfl rfl rfl rfl (fun n230 w226 hq227 => ?_)
      obtain ⟨hn231, hI228, hF229⟩ := hq227
      obtain rfl := hn231
      refine xg_cVv mX12_puts (vs := [(0, 0), (0, kk), (0, (20 + (4 * kk)) + 2), (0, 0)]) (rest := []) (cn1 := 0) (sl1 := 0) rfl (mPuts0 (hI228) (by omega) (by omega) (by omega) (fun _ => by omega)) rfl (hF229.get (by decide) (hF222.get (by decide) h82_217)) rfl rfl rfl rfl rfl rfl (fun w232 hq233 => ?_)
      obtain ⟨hI234, hF235, hx236⟩ := hq233
      obtain ⟨hp237, hp238⟩ := hx236
      refine xg_t (xg_iinc (u := 2) (z := 3) (l1 := [(0, (2, 82)), (1, (0, kk))]) rfl rfl (by decide) rfl) ?_
      refine xg_t (xg_goto) ?_
      refine xg_t (xg_blk (b := [(2, 1, 2, 2, 0, 0), (3, 1, 3, 3, 0, 0), (4, 3, 6, 34, 3, 0), (7, 1, 0, 0, 0, 0), (8, 1, 3, 0, 0, 0), (9, 1, 2, 1, 0, 0), (10, 2, 4, 20, 0, 0), (12, 1, 3, 4, 0, 0), (13, 1, 2, 1, 0, 0), (14, 1, 16, 0, 0, 0), (15, 1, 11, 0, 0, 0), (16, 1, 2, 2, 0, 0), (17, 1, 11, 0, 0, 0), (18, 1, 0, 0, 0, 0), (19, 1, 3, 1, 0, 0), (20, 2, 4, 99, 0, 0), (22, 3, 13, 199, 96, 196), (25, 3, 13, 211, 96, 200), (28, 3, 9, 2, 1, 0), (31, 3, 8, 2, 0, 0)]) rfl) ?_
      refine xg_t (xg_iload (va := (0, 3)) rfl rfl) ?_
      refine xg_t (xg_const) ?_
      refine xg_t (xg_icT (u := 3) (v := 3) rfl xnm0 xnm0 (by decide)) ?_
      refine xg_t (xg_blk (b := [(34, 1, 0, 0, 0, 0), (35, 3, 1, 12, 10, 180), (38, 3, 7, 67, 1, 0), (41, 1, 0, 0, 0, 0), (42, 3, 1, 12, 7, 151), (45, 1, 3, 3, 0, 0), (46, 3, 6, 67, 1, 0), (49, 1, 0, 0, 0, 0), (50, 3, 1, 12, 9, 165), (53, 2, 4, 7, 0, 0), (55, 3, 6, 72, 0, 0), (58, 1, 0, 0, 0, 0), (59, 3, 1, 12, 9, 165), (62, 2, 4, 8, 0, 0), (64, 3, 6, 72, 0, 0)]) rfl) ?_
      refine xg_t (xg_aload (va := (2, 82)) rfl rfl) ?_
      refine xg_t (xg_getf (va := (0, f82_203)) (hF235.get (by decide) (hF229.get (by decide) (hF222.get (by decide) h82_217))) rfl) ?_
      have hf239 : fld w232 82 10 = f82_203 := fld_of (hF235.get (by decide) (hF229.get (by decide) (hF222.get (by decide) h82_217)))
      have hk240 : fld w232 82 10 ≠ 0 := (by have q := hW180.1; have q2 := fld_eq (j := 10) ((hF235.1 82 (by decide)).trans ((hF229.1 82 (by decide)).trans (hF222.1 82 (by decide)))); omega)
      refine xg_t (xg_ifT (u := f82_203) rfl xnm0 (xj_neT (by omega))) ?_
      refine xg_t (xg_blk (b := [(67, 1, 0, 0, 0, 0), (68, 3, 13, 140, 96, 183), (71, 1, 12, 0, 0, 0)]) rfl) ?_
      refine xg_t (xg_aload (va := (2, 82)) rfl rfl) ?_
      refine xg_cVv mX12_ends (vs := []) (rest := []) (cn1 := 0) (sl1 := 0) rfl (mEndsW (hI234) (by have q := hW180.1; have q2 := fld_eq (j := 10) ((hF235.1 82 (by decide)).trans ((hF229.1 82 (by decide)).trans (hF222.1 82 (by decide)))); omega)) rfl (hF235.get (by decide) (hF229.get (by decide) (hF222.get (by decide) h82_217))) rfl rfl rfl rfl rfl rfl (fun w241 hq242 => ?_)
      obtain ⟨hI243, hF244⟩ := hq242
      exact xg_e ⟨w241, ⟨rfl, rfl⟩, hI243, (((((((hF40.up (by decide)).tr (hF164.up (by decide))).tr (hF172.up (by decide))).tr (hF222.up (by decide))).tr (hF229.up (by decide))).tr (hF235.up (by decide))).tr (hF244.up (by decide))), ⟨Or.inl ⟨p_126, lf186, ⟨(fld_eq (j := 10) ((hF244.1 82 (by decide)).trans ((hF235.1 82 (by decide)).trans ((hF229.1 82 (by decide)).trans (hF222.1 82 (by decide)))))).trans hW180.1, (rwv_eq (j := 16) ((hF244.1 83 (by decide)).trans ((hF235.1 83 (by decide)).trans ((hF229.1 83 (by decide)).trans (hF222.1 83 (by decide)))))).trans hW180.2.1, (rwv_eq (j := 17) ((hF244.1 83 (by decide)).trans ((hF235.1 83 (by decide)).trans ((hF229.1 83 (by decide)).trans (hF222.1 83 (by decide)))))).trans hW180.2.2⟩⟩, ((fld_eq (j := 14) ((hF244.1 82 (by decide)).trans ((hF235.1 82 (by decide)).trans ((hF229.1 82 (by decide)).trans (hF222.1 82 (by decide)))))).trans k14_178), ((((((k8_44.tr (K83.fr hF164 (by decide))).tr k8_176).tr (K83.fr hF222 (by decide))).tr (K83.fr hF229 (by decide))).tr (K83.fr hF235 (by decide))).tr (K83.fr hF244 (by decide))), (fun j hj hl => ((rwv_eq (hF244.1 86 (by decide))).trans ((hp238 j (by omega) hl).trans ((rwv_eq (hF229.1 86 (by decide))).trans ((hp225 j (by omega) hl).trans ((rwv_eq (hF172.1 86 (by decide))).trans ((hp167 j (by omega) hl).trans (rwv_eq (hF40.1 86 (by decide))))))))))⟩⟩
    · obtain ⟨p_245, hp246⟩ : ∃ x, x = tf B nn p_126 := ⟨_, rfl⟩
      rw [← hp246] at hT_184
      have ln247 : lnN B nn 0 3 p = lnN B nn 0 1 p_245 := by rw [hp246]; exact ln128.trans (lnN_y (k := 1) hk179)
      refine xoCh82 (hI171 82 (by decide) (by decide) : cp82 (wget w169 82)) (fun f82_248 f82_250 f82_252 f82_254 f82_256 f82_258 f82_260 f82_262 f82_264 f82_266 f82_268 f82_269 f82_270 f82_272 f82_274 f82_276 h82_278 hb249 hb251 hb253 hb255 hb257 hb259 hb261 hb263 hb265 hb267 hb271 hb273 hb275 hb277 hb279 => ?_)
      refine xg_cVv mX12_puts (vs := [(0, 0), (0, kk), (0, (20 + (4 * kk)) + 1), (0, n173)]) (rest := []) (cn1 := 0) (sl1 := 0) rfl (mPuts0 (hI171) (by omega) (by omega) (by omega) (fun _ => by omega)) rfl h82_278 rfl rfl rfl rfl rfl rfl (fun w280 hq281 => ?_)
      obtain ⟨hI282, hF283, hx284⟩ := hq281
      obtain ⟨hp285, hp286⟩ := hx284
      refine xg_t (xg_iinc (u := 1) (z := 2) (l1 := [(0, (2, 82)), (1, (0, kk))]) rfl rfl (by decide) rfl) ?_
      refine xg_t (xg_goto) ?_
      refine xg_t (xg_blk (b := [(2, 1, 2, 2, 0, 0), (3, 1, 3, 3, 0, 0), (4, 3, 6, 34, 3, 0), (7, 1, 0, 0, 0, 0), (8, 1, 3, 0, 0, 0), (9, 1, 2, 1, 0, 0), (10, 2, 4, 20, 0, 0), (12, 1, 3, 4, 0, 0), (13, 1, 2, 1, 0, 0), (14, 1, 16, 0, 0, 0), (15, 1, 11, 0, 0, 0), (16, 1, 2, 2, 0, 0), (17, 1, 11, 0, 0, 0), (18, 1, 0, 0, 0, 0), (19, 1, 3, 1, 0, 0), (20, 2, 4, 99, 0, 0), (22, 3, 13, 199, 96, 196), (25, 3, 13, 211, 96, 200), (28, 3, 9, 2, 1, 0), (31, 3, 8, 2, 0, 0)]) rfl) ?_
      refine xg_t (xg_iload (va := (0, 2)) rfl rfl) ?_
      refine xg_t (xg_const) ?_
      refine xg_t (xg_icF (u := 2) (v := 3) rfl xnm0 xnm0 (by decide)) ?_
      refine xg_t (xg_aload (va := (2, 82)) rfl rfl) ?_
      refine xg_t (xg_const) ?_
      refine xg_t (xg_iload (va := (0, kk)) rfl rfl) ?_
      refine xg_t (xg_bip) ?_
      refine xg_t (xg_const) ?_
      refine xg_t (xg_iload (va := (0, kk)) rfl rfl) ?_
      refine xg_t (xg_imul (u := 4) (v := kk) (z := 4 * kk) xnm0 xnm0 (by omega)) ?_
      refine xg_t (xg_iadd (u := 20) (v := 4 * kk) (z := 20 + (4 * kk)) xnm0 xnm0 (by omega)) ?_
      refine xg_t (xg_iload (va := (0, 2)) rfl rfl) ?_
      refine xg_t (xg_iadd (u := 20 + (4 * kk)) (v := 2) (z := (20 + (4 * kk)) + 2) xnm0 xnm0 (by omega)) ?_
      refine xg_t (xg_aload (va := (2, 82)) rfl rfl) ?_
      refine xg_t (xg_const) ?_
      refine xg_t (xg_bip) ?_
      have hk287 := ((fld_eq (j := 14) (hF283.1 82 (by decide))).trans k14_178)
      refine xg_cVi mX12_numbered (vs := [(0, 1), (0, 99)]) (rest := [(0, (20 + (4 * kk)) + 2), (0, kk), (0, 0), (2, 82)]) (cn1 := 0) (sl1 := 0) rfl (mNumX (ir := 0) (hI282) (by omega) (by omega) (hB.fr (fun j h4 h9 => (((k8_44.tr (K83.fr hF164 (by decide))).tr k8_176).tr (K83.fr hF283 (by decide))) j (by omega) (by omega) (by omega))) ((fld_eq (j := 10) (hF283.1 82 (by decide))).trans k10_183) (hT_184.fr (hF283.1 82 (by decide))) (hF_185.k83 (rwv_eq (hF283.1 83 (by decide))) (rwv_eq (hF283.1 83 (by decide))))) rfl (hF283.get (by decide) h82_278) rfl rfl rfl rfl rfl rfl (fun n292 w288 hq289 => ?_)
      obtain ⟨hn293, hI290, hF291⟩ := hq289
      obtain ⟨hx296, h14_294, k8_295⟩ := hn293
      have k14_297 := h14_294.trans hk287
      rcases hx296 with ⟨rfl, hk298, hW299⟩ | ⟨hv300, h9_301, hk298, k10_302, hT_303, hF_304⟩
      · have lf305 : lnN B nn 0 3 p = (false, p_245) := ln247.trans (lnN_n (k := 0) hk298)
        refine xoCh82 (hI290 82 (by decide) (by decide) : cp82 (wget w288 82)) (fun f82_306 f82_308 f82_310 f82_312 f82_314 f82_316 f82_318 f82_320 f82_322 f82_324 f82_326 f82_327 f82_328 f82_330 f82_332 f82_334 h82_336 hb307 hb309 hb311 hb313 hb315 hb317 hb319 hb321 hb323 hb325 hb329 hb331 hb333 hb335 hb337 => ?_)
        refine xg_cVv mX12_puts (vs := [(0, 0), (0, kk), (0, (20 + (4 * kk)) + 2), (0, 0)]) (rest := []) (cn1 := 0) (sl1 := 0) rfl (mPuts0 (hI290) (by omega) (by omega) (by omega) (fun _ => by omega)) rfl h82_336 rfl rfl rfl rfl rfl rfl (fun w338 hq339 => ?_)
        obtain ⟨hI340, hF341, hx342⟩ := hq339
        obtain ⟨hp343, hp344⟩ := hx342
        refine xg_t (xg_iinc (u := 2) (z := 3) (l1 := [(0, (2, 82)), (1, (0, kk))]) rfl rfl (by decide) rfl) ?_
        refine xg_t (xg_goto) ?_
        refine xg_t (xg_blk (b := [(2, 1, 2, 2, 0, 0), (3, 1, 3, 3, 0, 0), (4, 3, 6, 34, 3, 0), (7, 1, 0, 0, 0, 0), (8, 1, 3, 0, 0, 0), (9, 1, 2, 1, 0, 0), (10, 2, 4, 20, 0, 0), (12, 1, 3, 4, 0, 0), (13, 1, 2, 1, 0, 0), (14, 1, 16, 0, 0, 0), (15, 1, 11, 0, 0, 0), (16, 1, 2, 2, 0, 0), (17, 1, 11, 0, 0, 0), (18, 1, 0, 0, 0, 0), (19, 1, 3, 1, 0, 0), (20, 2, 4, 99, 0, 0), (22, 3, 13, 199, 96, 196), (25, 3, 13, 211, 96, 200), (28, 3, 9, 2, 1, 0), (31, 3, 8, 2, 0, 0)]) rfl) ?_
        refine xg_t (xg_iload (va := (0, 3)) rfl rfl) ?_
        refine xg_t (xg_const) ?_
        refine xg_t (xg_icT (u := 3) (v := 3) rfl xnm0 xnm0 (by decide)) ?_
        refine xg_t (xg_blk (b := [(34, 1, 0, 0, 0, 0), (35, 3, 1, 12, 10, 180), (38, 3, 7, 67, 1, 0), (41, 1, 0, 0, 0, 0), (42, 3, 1, 12, 7, 151), (45, 1, 3, 3, 0, 0), (46, 3, 6, 67, 1, 0), (49, 1, 0, 0, 0, 0), (50, 3, 1, 12, 9, 165), (53, 2, 4, 7, 0, 0), (55, 3, 6, 72, 0, 0), (58, 1, 0, 0, 0, 0), (59, 3, 1, 12, 9, 165), (62, 2, 4, 8, 0, 0), (64, 3, 6, 72, 0, 0)]) rfl) ?_
        refine xg_t (xg_aload (va := (2, 82)) rfl rfl) ?_
        refine xg_t (xg_getf (va := (0, f82_322)) (hF341.get (by decide) h82_336) rfl) ?_
        have hf345 : fld w338 82 10 = f82_322 := fld_of (hF341.get (by decide) h82_336)
        have hk346 : fld w338 82 10 ≠ 0 := (by have q := hW299.1; have q2 := fld_eq (j := 10) (hF341.1 82 (by decide)); omega)
        refine xg_t (xg_ifT (u := f82_322) rfl xnm0 (xj_neT (by omega))) ?_
        refine xg_t (xg_blk (b := [(67, 1, 0, 0, 0, 0), (68, 3, 13, 140, 96, 183), (71, 1, 12, 0, 0, 0)]) rfl) ?_
        refine xg_t (xg_aload (va := (2, 82)) rfl rfl) ?_
        refine xg_cVv mX12_ends (vs := []) (rest := []) (cn1 := 0) (sl1 := 0) rfl (mEndsW (hI340) (by have q := hW299.1; have q2 := fld_eq (j := 10) (hF341.1 82 (by decide)); omega)) rfl (hF341.get (by decide) h82_336) rfl rfl rfl rfl rfl rfl (fun w347 hq348 => ?_)
        obtain ⟨hI349, hF350⟩ := hq348
        exact xg_e ⟨w347, ⟨rfl, rfl⟩, hI349, (((((((hF40.up (by decide)).tr (hF164.up (by decide))).tr (hF172.up (by decide))).tr (hF283.up (by decide))).tr (hF291.up (by decide))).tr (hF341.up (by decide))).tr (hF350.up (by decide))), ⟨Or.inl ⟨p_245, lf305, ⟨(fld_eq (j := 10) ((hF350.1 82 (by decide)).trans (hF341.1 82 (by decide)))).trans hW299.1, (rwv_eq (j := 16) ((hF350.1 83 (by decide)).trans (hF341.1 83 (by decide)))).trans hW299.2.1, (rwv_eq (j := 17) ((hF350.1 83 (by decide)).trans (hF341.1 83 (by decide)))).trans hW299.2.2⟩⟩, ((fld_eq (j := 14) ((hF350.1 82 (by decide)).trans (hF341.1 82 (by decide)))).trans k14_297), ((((((k8_44.tr (K83.fr hF164 (by decide))).tr k8_176).tr (K83.fr hF283 (by decide))).tr k8_295).tr (K83.fr hF341 (by decide))).tr (K83.fr hF350 (by decide))), (fun j hj hl => ((rwv_eq (hF350.1 86 (by decide))).trans ((hp344 j (by omega) hl).trans ((rwv_eq (hF291.1 86 (by decide))).trans ((hp286 j (by omega) hl).trans ((rwv_eq (hF172.1 86 (by decide))).trans ((hp167 j (by omega) hl).trans (rwv_eq (hF40.1 86 (by decide))))))))))⟩⟩
      · obtain ⟨p_351, hp352⟩ : ∃ x, x = tf B nn p_245 := ⟨_, rfl⟩
        rw [← hp352] at hT_303
        have ln353 : lnN B nn 0 3 p = lnN B nn 0 0 p_351 := by rw [hp352]; exact ln247.trans (lnN_y (k := 0) hk298)
        refine xoCh82 (hI290 82 (by decide) (by decide) : cp82 (wget w288 82)) (fun f82_354 f82_356 f82_358 f82_360 f82_362 f82_364 f82_366 f82_368 f82_370 f82_372 f82_374 f82_375 f82_376 f82_378 f82_380 f82_382 h82_384 hb355 hb357 hb359 hb361 hb363 hb365 hb367 hb369 hb371 hb373 hb377 hb379 hb381 hb383 hb385 => ?_)
        refine xg_cVv mX12_puts (vs := [(0, 0), (0, kk), (0, (20 + (4 * kk)) + 2), (0, n292)]) (rest := []) (cn1 := 0) (sl1 := 0) rfl (mPuts0 (hI290) (by omega) (by omega) (by omega) (fun _ => by omega)) rfl h82_384 rfl rfl rfl rfl rfl rfl (fun w386 hq387 => ?_)
        obtain ⟨hI388, hF389, hx390⟩ := hq387
        obtain ⟨hp391, hp392⟩ := hx390
        refine xg_t (xg_iinc (u := 2) (z := 3) (l1 := [(0, (2, 82)), (1, (0, kk))]) rfl rfl (by decide) rfl) ?_
        refine xg_t (xg_goto) ?_
        refine xg_t (xg_blk (b := [(2, 1, 2, 2, 0, 0), (3, 1, 3, 3, 0, 0), (4, 3, 6, 34, 3, 0), (7, 1, 0, 0, 0, 0), (8, 1, 3, 0, 0, 0), (9, 1, 2, 1, 0, 0), (10, 2, 4, 20, 0, 0), (12, 1, 3, 4, 0, 0), (13, 1, 2, 1, 0, 0), (14, 1, 16, 0, 0, 0), (15, 1, 11, 0, 0, 0), (16, 1, 2, 2, 0, 0), (17, 1, 11, 0, 0, 0), (18, 1, 0, 0, 0, 0), (19, 1, 3, 1, 0, 0), (20, 2, 4, 99, 0, 0), (22, 3, 13, 199, 96, 196), (25, 3, 13, 211, 96, 200), (28, 3, 9, 2, 1, 0), (31, 3, 8, 2, 0, 0)]) rfl) ?_
        refine xg_t (xg_iload (va := (0, 3)) rfl rfl) ?_
        refine xg_t (xg_const) ?_
        refine xg_t (xg_icT (u := 3) (v := 3) rfl xnm0 xnm0 (by decide)) ?_
        refine xg_t (xg_blk (b := [(34, 1, 0, 0, 0, 0), (35, 3, 1, 12, 10, 180), (38, 3, 7, 67, 1, 0), (41, 1, 0, 0, 0, 0), (42, 3, 1, 12, 7, 151), (45, 1, 3, 3, 0, 0), (46, 3, 6, 67, 1, 0), (49, 1, 0, 0, 0, 0), (50, 3, 1, 12, 9, 165), (53, 2, 4, 7, 0, 0), (55, 3, 6, 72, 0, 0), (58, 1, 0, 0, 0, 0), (59, 3, 1, 12, 9, 165), (62, 2, 4, 8, 0, 0), (64, 3, 6, 72, 0, 0)]) rfl) ?_
        refine xg_t (xg_aload (va := (2, 82)) rfl rfl) ?_
        refine xg_t (xg_getf (va := (0, f82_370)) (hF389.get (by decide) h82_384) rfl) ?_
        have hf393 : fld w386 82 10 = f82_370 := fld_of (hF389.get (by decide) h82_384)
        have hk394 : fld w386 82 10 = 0 := ((fld_eq (j := 10) (hF389.1 82 (by decide))).trans k10_302)
        refine xg_t (xg_ifF (u := f82_370) rfl xnm0 (xj_neF (by omega))) ?_
        obtain ⟨⟨ht395, ht396, ht397, ht398, ht399, ht400⟩, ht401, ht402, ht403⟩ := id (hT_303.fr (hF389.1 82 (by decide)))
        have hf404 : fld w386 82 6 = f82_362 := fld_of (hF389.get (by decide) h82_384)
        have hf405 : fld w386 82 7 = f82_364 := fld_of (hF389.get (by decide) h82_384)
        have hf406 : fld w386 82 8 = f82_366 := fld_of (hF389.get (by decide) h82_384)
        have hf407 : fld w386 82 9 = f82_368 := fld_of (hF389.get (by decide) h82_384)
        have hf408 : fld w386 82 3 = f82_356 := fld_of (hF389.get (by decide) h82_384)
        have hmk409 := mkd_of (ir := 0) (B := B) (n := nn) (p := p_351)
        have hg410 := glw (B := B) (n := nn) (p := p_351)
        refine xg_t (xg_aload (va := (2, 82)) rfl rfl) ?_
        refine xg_t (xg_getf (va := (0, f82_364)) (hF389.get (by decide) h82_384) rfl) ?_
        refine xg_t (xg_const) ?_
        by_cases hc411 : f82_364 = 3
        · refine xg_t (xg_icF (u := f82_364) (v := 3) rfl xnm0 xnm0 (xj_neF hc411)) ?_
          refine xg_t (xg_aload (va := (2, 82)) rfl rfl) ?_
          refine xg_t (xg_getf (va := (0, f82_368)) (hF389.get (by decide) h82_384) rfl) ?_
          have hn412 : f82_368 ≤ 4294967295 := hb369
          refine xg_t (xg_bip) ?_
          by_cases hc413 : f82_368 = 7
          · refine xg_t (xg_icT (u := f82_368) (v := 7) rfl xnm0 xnm0 (xj_eqT hc413)) ?_
            refine xg_t (xg_blk (b := [(72, 1, 0, 0, 0, 0), (73, 1, 3, 0, 0, 0), (74, 1, 2, 1, 0, 0), (75, 2, 4, 20, 0, 0), (77, 1, 3, 4, 0, 0), (78, 1, 2, 1, 0, 0), (79, 1, 16, 0, 0, 0), (80, 1, 11, 0, 0, 0), (81, 1, 3, 3, 0, 0), (82, 1, 11, 0, 0, 0), (83, 1, 0, 0, 0, 0), (84, 3, 1, 12, 9, 165), (87, 2, 4, 8, 0, 0), (89, 3, 6, 96, 1, 0), (92, 1, 3, 1, 0, 0), (93, 3, 8, 97, 0, 0)]) rfl) ?_
            have hg4141 : tkd B nn p_351 = 1 := by omega
            have hg4142 := ht402 hg4141
            have hg414 : twk B nn p_351 = 277892 ∨ twk B nn p_351 = 20325509 := by omega
            refine xg_t (xg_aload (va := (2, 82)) rfl rfl) ?_
            refine xg_t (xg_const) ?_
            refine xg_t (xg_iload (va := (0, kk)) rfl rfl) ?_
            refine xg_t (xg_bip) ?_
            refine xg_t (xg_const) ?_
            refine xg_t (xg_iload (va := (0, kk)) rfl rfl) ?_
            refine xg_t (xg_imul (u := 4) (v := kk) (z := 4 * kk) xnm0 xnm0 (by omega)) ?_
            refine xg_t (xg_iadd (u := 20) (v := 4 * kk) (z := 20 + (4 * kk)) xnm0 xnm0 (by omega)) ?_
            refine xg_t (xg_const) ?_
            refine xg_t (xg_iadd (u := 20 + (4 * kk)) (v := 3) (z := (20 + (4 * kk)) + 3) xnm0 xnm0 (by omega)) ?_
            refine xg_t (xg_aload (va := (2, 82)) rfl rfl) ?_
            refine xg_t (xg_getf (va := (0, f82_368)) (hF389.get (by decide) h82_384) rfl) ?_
            refine xg_t (xg_bip) ?_
            refine xg_t (xg_icT (u := f82_368) (v := 8) rfl xnm0 xnm0 (xj_neT (by omega))) ?_
            refine xg_t (xg_blk (b := [(96, 1, 3, 0, 0, 0)]) rfl) ?_
            refine xg_t (xg_const) ?_
            refine xg_t (xg_blk (b := [(97, 3, 13, 211, 96, 200), (100, 1, 0, 0, 0, 0), (101, 3, 13, 110, 96, 190), (104, 1, 12, 0, 0, 0)]) rfl) ?_
            refine xg_cVv mX12_puts (vs := [(0, 0), (0, kk), (0, (20 + (4 * kk)) + 3), (0, 0)]) (rest := []) (cn1 := 0) (sl1 := 0) rfl (mPuts0 (hI388) (by omega) (by omega) (by omega) (fun _ => by omega)) rfl (hF389.get (by decide) h82_384) rfl rfl rfl rfl rfl rfl (fun w415 hq416 => ?_)
            obtain ⟨hI417, hF418, hx419⟩ := hq416
            obtain ⟨hp420, hp421⟩ := hx419
            refine xg_t (xg_aload (va := (2, 82)) rfl rfl) ?_
            have sl422 : (if twk B nn p_351 = 20325509 then 1 else 0) = 0 := by
              by_cases y : twk B nn p_351 = 20325509
              · rw [if_pos y] <;> omega
              · rw [if_neg y] <;> omega
            clear ht395 ht396 ht397 ht398 ht399 ht400 ht401 ht402 ht403 hf404 hf405 hf406 hf407 hf408 hmk409 hg410
            obtain ⟨⟨ht423, ht424, ht425, ht426, ht427, ht428⟩, -⟩ := id (hT_303.fr ((hF418.1 82 (by decide)).trans (hF389.1 82 (by decide))))
            have hk429 := ((fld_eq (j := 10) ((hF418.1 82 (by decide)).trans (hF389.1 82 (by decide)))).trans k10_302)
            have hk430 := ((fld_eq (j := 14) ((hF418.1 82 (by decide)).trans (hF389.1 82 (by decide)))).trans k14_297)
            refine xg_cVv mX12_advance (vs := []) (rest := []) (cn1 := 0) (sl1 := 0) rfl (mAdvX (hI417) (hB.fr (fun j h4 h9 => ((((((k8_44.tr (K83.fr hF164 (by decide))).tr k8_176).tr (K83.fr hF283 (by decide))).tr k8_295).tr (K83.fr hF389 (by decide))).tr (K83.fr hF418 (by decide))) j (by omega) (by omega) (by omega))) ht423 ht424 (by rw [ht425]; exact tf_le ht428)) rfl (hF418.get (by decide) (hF389.get (by decide) h82_384)) rfl rfl rfl rfl rfl rfl (fun w431 hq432 => ?_)
            obtain ⟨hI433, hF434, hx435⟩ := hq432
            obtain ⟨hz436, hz437, hz438⟩ := hx435
            rw [ht425] at hz436
            clear ht423 ht424 ht425 ht426 ht427 ht428
            obtain ⟨p_439, hp440⟩ : ∃ x, x = tf B nn p_351 := ⟨_, rfl⟩
            rw [← hp440] at hz436
            have k10_441 := hz437.trans hk429
            have k14_442 := hz438.trans hk430
            clear hz437 hz438 hk429 hk430
            have ln443 : lnN B nn 0 3 p = lnS B nn p_439 := by rw [hp440]; exact ln353.trans (lnN_g hg414)
            have hr444 : kk < 6 → rwv w431 86 (20 + 4 * kk + 0) = tnu B nn p := fun hlt => by
              rw [show 20 + 4 * kk + 0 = (20 + (4 * kk)) + 0 by omega]
              exact ((rwv_eq (hF434.1 86 (by decide))).trans ((hp421 ((20 + (4 * kk)) + 0) (by omega) (by omega)).trans ((hp392 ((20 + (4 * kk)) + 0) (by omega) (by omega)).trans ((rwv_eq (hF291.1 86 (by decide))).trans ((hp286 ((20 + (4 * kk)) + 0) (by omega) (by omega)).trans (rwv_eq (hF172.1 86 (by decide)))))))).trans ((hp166 hlt).trans hv49)
            have hr445 : kk < 6 → rwv w431 86 (20 + 4 * kk + 1) = tnu B nn p_126 := fun hlt => by
              rw [show 20 + 4 * kk + 1 = (20 + (4 * kk)) + 1 by omega]
              exact ((rwv_eq (hF434.1 86 (by decide))).trans ((hp421 ((20 + (4 * kk)) + 1) (by omega) (by omega)).trans ((hp392 ((20 + (4 * kk)) + 1) (by omega) (by omega)).trans (rwv_eq (hF291.1 86 (by decide)))))).trans ((hp285 hlt).trans hv181)
            have hr446 : kk < 6 → rwv w431 86 (20 + 4 * kk + 2) = tnu B nn p_245 := fun hlt => by
              rw [show 20 + 4 * kk + 2 = (20 + (4 * kk)) + 2 by omega]
              exact ((rwv_eq (hF434.1 86 (by decide))).trans (hp421 ((20 + (4 * kk)) + 2) (by omega) (by omega))).trans ((hp391 hlt).trans hv300)
            have hr447 : kk < 6 → rwv w431 86 (20 + 4 * kk + 3) = (if twk B nn p_351 = 20325509 then 1 else 0) := fun hlt => by
              rw [show 20 + 4 * kk + 3 = (20 + (4 * kk)) + 3 by omega]
              exact (rwv_eq (hF434.1 86 (by decide))).trans ((hp420 hlt).trans sl422.symm)
            exact xg_e ⟨w431, ⟨rfl, rfl⟩, hI433, ((((((((hF40.up (by decide)).tr (hF164.up (by decide))).tr (hF172.up (by decide))).tr (hF283.up (by decide))).tr (hF291.up (by decide))).tr (hF389.up (by decide))).tr (hF418.up (by decide))).tr (hF434.up (by decide))), ⟨Or.inr ⟨p_126, p_245, p_351, p_439, hp127, hp246, hp352, hp440, hk47, hk179, hk298, hg4141, ln443, k10_441, hz436, (hF_304.k83 (rwv_eq ((hF434.1 83 (by decide)).trans ((hF418.1 83 (by decide)).trans (hF389.1 83 (by decide))))) (rwv_eq ((hF434.1 83 (by decide)).trans ((hF418.1 83 (by decide)).trans (hF389.1 83 (by decide)))))), fun hlt => ⟨hr444 hlt, hr445 hlt, hr446 hlt, hr447 hlt⟩⟩, k14_442, (((((((k8_44.tr (K83.fr hF164 (by decide))).tr k8_176).tr (K83.fr hF283 (by decide))).tr k8_295).tr (K83.fr hF389 (by decide))).tr (K83.fr hF418 (by decide))).tr (K83.fr hF434 (by decide))), (fun j hj hl => ((rwv_eq (hF434.1 86 (by decide))).trans ((hp421 j (by omega) hl).trans ((hp392 j (by omega) hl).trans ((rwv_eq (hF291.1 86 (by decide))).trans ((hp286 j (by omega) hl).trans ((rwv_eq (hF172.1 86 (by decide))).trans ((hp167 j (by omega) hl).trans (rwv_eq (hF40.1 86 (by decide)))))))))))⟩⟩
          · refine xg_t (xg_icF (u := f82_368) (v := 7) rfl xnm0 xnm0 (xj_eqF hc413)) ?_
            refine xg_t (xg_aload (va := (2, 82)) rfl rfl) ?_
            refine xg_t (xg_getf (va := (0, f82_368)) (hF389.get (by decide) h82_384) rfl) ?_
            refine xg_t (xg_bip) ?_
            by_cases hc448 : f82_368 = 8
            · refine xg_t (xg_icT (u := f82_368) (v := 8) rfl xnm0 xnm0 (xj_eqT hc448)) ?_
              refine xg_t (xg_blk (b := [(72, 1, 0, 0, 0, 0), (73, 1, 3, 0, 0, 0), (74, 1, 2, 1, 0, 0), (75, 2, 4, 20, 0, 0), (77, 1, 3, 4, 0, 0), (78, 1, 2, 1, 0, 0), (79, 1, 16, 0, 0, 0), (80, 1, 11, 0, 0, 0), (81, 1, 3, 3, 0, 0), (82, 1, 11, 0, 0, 0), (83, 1, 0, 0, 0, 0), (84, 3, 1, 12, 9, 165), (87, 2, 4, 8, 0, 0), (89, 3, 6, 96, 1, 0), (92, 1, 3, 1, 0, 0), (93, 3, 8, 97, 0, 0)]) rfl) ?_
              have hg4491 : tkd B nn p_351 = 1 := by omega
              have hg4492 := ht402 hg4491
              have hg449 : twk B nn p_351 = 277892 ∨ twk B nn p_351 = 20325509 := by omega
              refine xg_t (xg_aload (va := (2, 82)) rfl rfl) ?_
              refine xg_t (xg_const) ?_
              refine xg_t (xg_iload (va := (0, kk)) rfl rfl) ?_
              refine xg_t (xg_bip) ?_
              refine xg_t (xg_const) ?_
              refine xg_t (xg_iload (va := (0, kk)) rfl rfl) ?_
              refine xg_t (xg_imul (u := 4) (v := kk) (z := 4 * kk) xnm0 xnm0 (by omega)) ?_
              refine xg_t (xg_iadd (u := 20) (v := 4 * kk) (z := 20 + (4 * kk)) xnm0 xnm0 (by omega)) ?_
              refine xg_t (xg_const) ?_
              refine xg_t (xg_iadd (u := 20 + (4 * kk)) (v := 3) (z := (20 + (4 * kk)) + 3) xnm0 xnm0 (by omega)) ?_
              refine xg_t (xg_aload (va := (2, 82)) rfl rfl) ?_
              refine xg_t (xg_getf (va := (0, f82_368)) (hF389.get (by decide) h82_384) rfl) ?_
              refine xg_t (xg_bip) ?_
              by_cases hc450 : f82_368 = 8
              · refine xg_t (xg_icF (u := f82_368) (v := 8) rfl xnm0 xnm0 (xj_neF hc450)) ?_
                refine xg_t (xg_const) ?_
                refine xg_t (xg_goto) ?_
                refine xg_t (xg_blk (b := [(97, 3, 13, 211, 96, 200), (100, 1, 0, 0, 0, 0), (101, 3, 13, 110, 96, 190), (104, 1, 12, 0, 0, 0)]) rfl) ?_
                refine xg_cVv mX12_puts (vs := [(0, 0), (0, kk), (0, (20 + (4 * kk)) + 3), (0, 1)]) (rest := []) (cn1 := 0) (sl1 := 0) rfl (mPuts0 (hI388) (by omega) (by omega) (by omega) (fun _ => by omega)) rfl (hF389.get (by decide) h82_384) rfl rfl rfl rfl rfl rfl (fun w451 hq452 => ?_)
                obtain ⟨hI453, hF454, hx455⟩ := hq452
                obtain ⟨hp456, hp457⟩ := hx455
                refine xg_t (xg_aload (va := (2, 82)) rfl rfl) ?_
                have sl458 : (if twk B nn p_351 = 20325509 then 1 else 0) = 1 := by
                  by_cases y : twk B nn p_351 = 20325509
                  · rw [if_pos y] <;> omega
                  · rw [if_neg y] <;> omega
                clear ht395 ht396 ht397 ht398 ht399 ht400 ht401 ht402 ht403 hf404 hf405 hf406 hf407 hf408 hmk409 hg410
                obtain ⟨⟨ht459, ht460, ht461, ht462, ht463, ht464⟩, -⟩ := id (hT_303.fr ((hF454.1 82 (by decide)).trans (hF389.1 82 (by decide))))
                have hk465 := ((fld_eq (j := 10) ((hF454.1 82 (by decide)).trans (hF389.1 82 (by decide)))).trans k10_302)
                have hk466 := ((fld_eq (j := 14) ((hF454.1 82 (by decide)).trans (hF389.1 82 (by decide)))).trans k14_297)
                refine xg_cVv mX12_advance (vs := []) (rest := []) (cn1 := 0) (sl1 := 0) rfl (mAdvX (hI453) (hB.fr (fun j h4 h9 => ((((((k8_44.tr (K83.fr hF164 (by decide))).tr k8_176).tr (K83.fr hF283 (by decide))).tr k8_295).tr (K83.fr hF389 (by decide))).tr (K83.fr hF454 (by decide))) j (by omega) (by omega) (by omega))) ht459 ht460 (by rw [ht461]; exact tf_le ht464)) rfl (hF454.get (by decide) (hF389.get (by decide) h82_384)) rfl rfl rfl rfl rfl rfl (fun w467 hq468 => ?_)
                obtain ⟨hI469, hF470, hx471⟩ := hq468
                obtain ⟨hz472, hz473, hz474⟩ := hx471
                rw [ht461] at hz472
                clear ht459 ht460 ht461 ht462 ht463 ht464
                obtain ⟨p_475, hp476⟩ : ∃ x, x = tf B nn p_351 := ⟨_, rfl⟩
                rw [← hp476] at hz472
                have k10_477 := hz473.trans hk465
                have k14_478 := hz474.trans hk466
                clear hz473 hz474 hk465 hk466
                have ln479 : lnN B nn 0 3 p = lnS B nn p_475 := by rw [hp476]; exact ln353.trans (lnN_g hg449)
                have hr480 : kk < 6 → rwv w467 86 (20 + 4 * kk + 0) = tnu B nn p := fun hlt => by
                  rw [show 20 + 4 * kk + 0 = (20 + (4 * kk)) + 0 by omega]
                  exact ((rwv_eq (hF470.1 86 (by decide))).trans ((hp457 ((20 + (4 * kk)) + 0) (by omega) (by omega)).trans ((hp392 ((20 + (4 * kk)) + 0) (by omega) (by omega)).trans ((rwv_eq (hF291.1 86 (by decide))).trans ((hp286 ((20 + (4 * kk)) + 0) (by omega) (by omega)).trans (rwv_eq (hF172.1 86 (by decide)))))))).trans ((hp166 hlt).trans hv49)
                have hr481 : kk < 6 → rwv w467 86 (20 + 4 * kk + 1) = tnu B nn p_126 := fun hlt => by
                  rw [show 20 + 4 * kk + 1 = (20 + (4 * kk)) + 1 by omega]
                  exact ((rwv_eq (hF470.1 86 (by decide))).trans ((hp457 ((20 + (4 * kk)) + 1) (by omega) (by omega)).trans ((hp392 ((20 + (4 * kk)) + 1) (by omega) (by omega)).trans (rwv_eq (hF291.1 86 (by decide)))))).trans ((hp285 hlt).trans hv181)
                have hr482 : kk < 6 → rwv w467 86 (20 + 4 * kk + 2) = tnu B nn p_245 := fun hlt => by
                  rw [show 20 + 4 * kk + 2 = (20 + (4 * kk)) + 2 by omega]
                  exact ((rwv_eq (hF470.1 86 (by decide))).trans (hp457 ((20 + (4 * kk)) + 2) (by omega) (by omega))).trans ((hp391 hlt).trans hv300)
                have hr483 : kk < 6 → rwv w467 86 (20 + 4 * kk + 3) = (if twk B nn p_351 = 20325509 then 1 else 0) := fun hlt => by
                  rw [show 20 + 4 * kk + 3 = (20 + (4 * kk)) + 3 by omega]
                  exact (rwv_eq (hF470.1 86 (by decide))).trans ((hp456 hlt).trans sl458.symm)
                exact xg_e ⟨w467, ⟨rfl, rfl⟩, hI469, ((((((((hF40.up (by decide)).tr (hF164.up (by decide))).tr (hF172.up (by decide))).tr (hF283.up (by decide))).tr (hF291.up (by decide))).tr (hF389.up (by decide))).tr (hF454.up (by decide))).tr (hF470.up (by decide))), ⟨Or.inr ⟨p_126, p_245, p_351, p_475, hp127, hp246, hp352, hp476, hk47, hk179, hk298, hg4491, ln479, k10_477, hz472, (hF_304.k83 (rwv_eq ((hF470.1 83 (by decide)).trans ((hF454.1 83 (by decide)).trans (hF389.1 83 (by decide))))) (rwv_eq ((hF470.1 83 (by decide)).trans ((hF454.1 83 (by decide)).trans (hF389.1 83 (by decide)))))), fun hlt => ⟨hr480 hlt, hr481 hlt, hr482 hlt, hr483 hlt⟩⟩, k14_478, (((((((k8_44.tr (K83.fr hF164 (by decide))).tr k8_176).tr (K83.fr hF283 (by decide))).tr k8_295).tr (K83.fr hF389 (by decide))).tr (K83.fr hF454 (by decide))).tr (K83.fr hF470 (by decide))), (fun j hj hl => ((rwv_eq (hF470.1 86 (by decide))).trans ((hp457 j (by omega) hl).trans ((hp392 j (by omega) hl).trans ((rwv_eq (hF291.1 86 (by decide))).trans ((hp286 j (by omega) hl).trans ((rwv_eq (hF172.1 86 (by decide))).trans ((hp167 j (by omega) hl).trans (rwv_eq (hF40.1 86 (by decide)))))))))))⟩⟩
              · refine xg_t (xg_icT (u := f82_368) (v := 8) rfl xnm0 xnm0 (xj_neT hc450)) ?_
                refine xg_t (xg_blk (b := [(96, 1, 3, 0, 0, 0)]) rfl) ?_
                refine xg_t (xg_const) ?_
                refine xg_t (xg_blk (b := [(97, 3, 13, 211, 96, 200), (100, 1, 0, 0, 0, 0), (101, 3, 13, 110, 96, 190), (104, 1, 12, 0, 0, 0)]) rfl) ?_
                refine xg_cVv mX12_puts (vs := [(0, 0), (0, kk), (0, (20 + (4 * kk)) + 3), (0, 0)]) (rest := []) (cn1 := 0) (sl1 := 0) rfl (mPuts0 (hI388) (by omega) (by omega) (by omega) (fun _ => by omega)) rfl (hF389.get (by decide) h82_384) rfl rfl rfl rfl rfl rfl (fun w484 hq485 => ?_)
                obtain ⟨hI486, hF487, hx488⟩ := hq485
                obtain ⟨hp489, hp490⟩ := hx488
                refine xg_t (xg_aload (va := (2, 82)) rfl rfl) ?_
                have sl491 : (if twk B nn p_351 = 20325509 then 1 else 0) = 0 := by
                  by_cases y : twk B nn p_351 = 20325509
                  · rw [if_pos y] <;> omega
                  · rw [if_neg y] <;> omega
                clear ht395 ht396 ht397 ht398 ht399 ht400 ht401 ht402 ht403 hf404 hf405 hf406 hf407 hf408 hmk409 hg410
                obtain ⟨⟨ht492, ht493, ht494, ht495, ht496, ht497⟩, -⟩ := id (hT_303.fr ((hF487.1 82 (by decide)).trans (hF389.1 82 (by decide))))
                have hk498 := ((fld_eq (j := 10) ((hF487.1 82 (by decide)).trans (hF389.1 82 (by decide)))).trans k10_302)
                have hk499 := ((fld_eq (j := 14) ((hF487.1 82 (by decide)).trans (hF389.1 82 (by decide)))).trans k14_297)
                refine xg_cVv mX12_advance (vs := []) (rest := []) (cn1 := 0) (sl1 := 0) rfl (mAdvX (hI486) (hB.fr (fun j h4 h9 => ((((((k8_44.tr (K83.fr hF164 (by decide))).tr k8_176).tr (K83.fr hF283 (by decide))).tr k8_295).tr (K83.fr hF389 (by decide))).tr (K83.fr hF487 (by decide))) j (by omega) (by omega) (by omega))) ht492 ht493 (by rw [ht494]; exact tf_le ht497)) rfl (hF487.get (by decide) (hF389.get (by decide) h82_384)) rfl rfl rfl rfl rfl rfl (fun w500 hq501 => ?_)
                obtain ⟨hI502, hF503, hx504⟩ := hq501
                obtain ⟨hz505, hz506, hz507⟩ := hx504
                rw [ht494] at hz505
                clear ht492 ht493 ht494 ht495 ht496 ht497
                obtain ⟨p_508, hp509⟩ : ∃ x, x = tf B nn p_351 := ⟨_, rfl⟩
                rw [← hp509] at hz505
                have k10_510 := hz506.trans hk498
                have k14_511 := hz507.trans hk499
                clear hz506 hz507 hk498 hk499
                have ln512 : lnN B nn 0 3 p = lnS B nn p_508 := by rw [hp509]; exact ln353.trans (lnN_g hg449)
                have hr513 : kk < 6 → rwv w500 86 (20 + 4 * kk + 0) = tnu B nn p := fun hlt => by
                  rw [show 20 + 4 * kk + 0 = (20 + (4 * kk)) + 0 by omega]
                  exact ((rwv_eq (hF503.1 86 (by decide))).trans ((hp490 ((20 + (4 * kk)) + 0) (by omega) (by omega)).trans ((hp392 ((20 + (4 * kk)) + 0) (by omega) (by omega)).trans ((rwv_eq (hF291.1 86 (by decide))).trans ((hp286 ((20 + (4 * kk)) + 0) (by omega) (by omega)).trans (rwv_eq (hF172.1 86 (by decide)))))))).trans ((hp166 hlt).trans hv49)
                have hr514 : kk < 6 → rwv w500 86 (20 + 4 * kk + 1) = tnu B nn p_126 := fun hlt => by
                  rw [show 20 + 4 * kk + 1 = (20 + (4 * kk)) + 1 by omega]
                  exact ((rwv_eq (hF503.1 86 (by decide))).trans ((hp490 ((20 + (4 * kk)) + 1) (by omega) (by omega)).trans ((hp392 ((20 + (4 * kk)) + 1) (by omega) (by omega)).trans (rwv_eq (hF291.1 86 (by decide)))))).trans ((hp285 hlt).trans hv181)
                have hr515 : kk < 6 → rwv w500 86 (20 + 4 * kk + 2) = tnu B nn p_245 := fun hlt => by
                  rw [show 20 + 4 * kk + 2 = (20 + (4 * kk)) + 2 by omega]
                  exact ((rwv_eq (hF503.1 86 (by decide))).trans (hp490 ((20 + (4 * kk)) + 2) (by omega) (by omega))).trans ((hp391 hlt).trans hv300)
                have hr516 : kk < 6 → rwv w500 86 (20 + 4 * kk + 3) = (if twk B nn p_351 = 20325509 then 1 else 0) := fun hlt => by
                  rw [show 20 + 4 * kk + 3 = (20 + (4 * kk)) + 3 by omega]
                  exact (rwv_eq (hF503.1 86 (by decide))).trans ((hp489 hlt).trans sl491.symm)
                exact xg_e ⟨w500, ⟨rfl, rfl⟩, hI502, ((((((((hF40.up (by decide)).tr (hF164.up (by decide))).tr (hF172.up (by decide))).tr (hF283.up (by decide))).tr (hF291.up (by decide))).tr (hF389.up (by decide))).tr (hF487.up (by decide))).tr (hF503.up (by decide))), ⟨Or.inr ⟨p_126, p_245, p_351, p_508, hp127, hp246, hp352, hp509, hk47, hk179, hk298, hg4491, ln512, k10_510, hz505, (hF_304.k83 (rwv_eq ((hF503.1 83 (by decide)).trans ((hF487.1 83 (by decide)).trans (hF389.1 83 (by decide))))) (rwv_eq ((hF503.1 83 (by decide)).trans ((hF487.1 83 (by decide)).trans (hF389.1 83 (by decide)))))), fun hlt => ⟨hr513 hlt, hr514 hlt, hr515 hlt, hr516 hlt⟩⟩, k14_511, (((((((k8_44.tr (K83.fr hF164 (by decide))).tr k8_176).tr (K83.fr hF283 (by decide))).tr k8_295).tr (K83.fr hF389 (by decide))).tr (K83.fr hF487 (by decide))).tr (K83.fr hF503 (by decide))), (fun j hj hl => ((rwv_eq (hF503.1 86 (by decide))).trans ((hp490 j (by omega) hl).trans ((hp392 j (by omega) hl).trans ((rwv_eq (hF291.1 86 (by decide))).trans ((hp286 j (by omega) hl).trans ((rwv_eq (hF172.1 86 (by decide))).trans ((hp167 j (by omega) hl).trans (rwv_eq (hF40.1 86 (by decide)))))))))))⟩⟩
            · refine xg_t (xg_icF (u := f82_368) (v := 8) rfl xnm0 xnm0 (xj_eqF hc448)) ?_
              refine xg_t (xg_blk (b := [(67, 1, 0, 0, 0, 0), (68, 3, 13, 140, 96, 183), (71, 1, 12, 0, 0, 0)]) rfl) ?_
              have lf517n : ¬ (twk B nn p_351 = 277892 ∨ twk B nn p_351 = 20325509) := fun z => by
                by_cases y : tkd B nn p_351 = 1
                · have y2 := ht402 y
                  omega
                · omega
              have lf517 : lnN B nn 0 3 p = (false, p_351) := ln353.trans (lnN_gn lf517n)
              refine xg_t (xg_aload (va := (2, 82)) rfl rfl) ?_
              have hk518 := ((fld_eq (j := 14) (hF389.1 82 (by decide))).trans k14_297)
              have hk519 := (hT_303.fr (hF389.1 82 (by decide))).1.2.2.2.1
              clear ht395 ht396 ht397 ht398 ht399 ht400 ht401 ht402 ht403 hf404 hf405 hf406 hf407 hf408 hmk409 hg410
              refine xg_cVv mX12_ends (vs := []) (rest := []) (cn1 := 0) (sl1 := 0) rfl (mEndsX (hI388) ((fld_eq (j := 10) (hF389.1 82 (by decide))).trans k10_302)) rfl (hF389.get (by decide) h82_384) rfl rfl rfl rfl rfl rfl (fun w520 hq521 => ?_)
              obtain ⟨hI522, hF523, hx524⟩ := hq521
              obtain ⟨hv525, hv526, hv527, hv528, hv529⟩ := hx524
              have hW530 : WRG w520 (tq B nn p_351) := ⟨hv525, hv526, hv527.trans hk519⟩
              have k14_531 := hv528.trans hk518
              exact xg_e ⟨w520, ⟨rfl, rfl⟩, hI522, (((((((hF40.up (by decide)).tr (hF164.up (by decide))).tr (hF172.up (by decide))).tr (hF283.up (by decide))).tr (hF291.up (by decide))).tr (hF389.up (by decide))).tr (hF523.up (by decide))), ⟨Or.inl ⟨p_351, lf517, hW530⟩, k14_531, ((((((k8_44.tr (K83.fr hF164 (by decide))).tr k8_176).tr (K83.fr hF283 (by decide))).tr k8_295).tr (K83.fr hF389 (by decide))).tr hv529), (fun j hj hl => ((rwv_eq (hF523.1 86 (by decide))).trans ((hp392 j (by omega) hl).trans ((rwv_eq (hF291.1 86 (by decide))).trans ((hp286 j (by omega) hl).trans ((rwv_eq (hF172.1 86 (by decide))).trans ((hp167 j (by omega) hl).trans (rwv_eq (hF40.1 86 (by decide))))))))))⟩⟩
        · refine xg_t (xg_icT (u := f82_364) (v := 3) rfl xnm0 xnm0 (xj_neT hc411)) ?_
          refine xg_t (xg_blk (b := [(67, 1, 0, 0, 0, 0), (68, 3, 13, 140, 96, 183), (71, 1, 12, 0, 0, 0)]) rfl) ?_
          have lf532n : ¬ (twk B nn p_351 = 277892 ∨ twk B nn p_351 = 20325509) := fun z => by
            by_cases y : tkd B nn p_351 = 1
            · have y2 := ht402 y
              omega
            · omega
          have lf532 : lnN B nn 0 3 p = (false, p_351) := ln353.trans (lnN_gn lf532n)
          refine xg_t (xg_aload (va := (2, 82)) rfl rfl) ?_
          have hk533 := ((fld_eq (j := 14) (hF389.1 82 (by decide))).trans k14_297)
          have hk534 := (hT_303.fr (hF389.1 82 (by decide))).1.2.2.2.1
          clear ht395 ht396 ht397 ht398 ht399 ht400 ht401 ht402 ht403 hf404 hf405 hf406 hf407 hf408 hmk409 hg410
          refine xg_cVv mX12_ends (vs := []) (rest := []) (cn1 := 0) (sl1 := 0) rfl (mEndsX (hI388) ((fld_eq (j := 10) (hF389.1 82 (by decide))).trans k10_302)) rfl (hF389.get (by decide) h82_384) rfl rfl rfl rfl rfl rfl (fun w535 hq536 => ?_)
          obtain ⟨hI537, hF538, hx539⟩ := hq536
          obtain ⟨hv540, hv541, hv542, hv543, hv544⟩ := hx539
          have hW545 : WRG w535 (tq B nn p_351) := ⟨hv540, hv541, hv542.trans hk534⟩
          have k14_546 := hv543.trans hk533
          exact xg_e ⟨w535, ⟨rfl, rfl⟩, hI537, (((((((hF40.up (by decide)).tr (hF164.up (by decide))).tr (hF172.up (by decide))).tr (hF283.up (by decide))).tr (hF291.up (by decide))).tr (hF389.up (by decide))).tr (hF538.up (by decide))), ⟨Or.inl ⟨p_351, lf532, hW545⟩, k14_546, ((((((k8_44.tr (K83.fr hF164 (by decide))).tr k8_176).tr (K83.fr hF283 (by decide))).tr k8_295).tr (K83.fr hF389 (by decide))).tr hv544), (fun j hj hl => ((rwv_eq (hF538.1 86 (by decide))).trans ((hp392 j (by omega) hl).trans ((rwv_eq (hF291.1 86 (by decide))).trans ((hp286 j (by omega) hl).trans ((rwv_eq (hF172.1 86 (by decide))).trans ((hp167 j (by omega) hl).trans (rwv_eq (hF40.1 86 (by decide))))))))))⟩⟩
end XFMD
end
