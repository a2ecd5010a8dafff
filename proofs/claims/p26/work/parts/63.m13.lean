/-! the model: film -/
section XMD
variable {d : Nat} {w : List (List xE)} {bd : List (Nat × Nat)} {fc : List (Nat × Nat × Bool)} {rr : Nat × Nat}
theorem mBegins0 (hI : xMnv w)  : xPq d mX12_begins [(2, 82), (0, 0)] w bd fc rr [] (fun w' => xMnv w' ∧ xFr [82, 83] w w' ∧ (FA w' = 0 ∧ fld w' 82 10 = 0 ∧ fld w' 82 14 = 0 ∧ mu w' ≤ 1001)) := by
  refine xPq.of ?_
  show xTo d mX12_begins (0, [], [(0, (2, 82)), (1, (0, 0))], [], (w, bd, fc, 0, 0, rr)) (fun φ => ∃ w', xEnd 0 [] (w', bd, fc, 0, 0, rr) φ ∧ xMnv w' ∧ xFr [82, 83] w w' ∧ (FA w' = 0 ∧ fld w' 82 10 = 0 ∧ fld w' 82 14 = 0 ∧ mu w' ≤ 1001))
  obtain ⟨f82_1, f82_3, f82_5, f82_7, f82_9, f82_11, f82_13, f82_15, f82_17, f82_19, f82_21, f82_22, f82_23, f82_25, f82_27, f82_29, h82_31, hb2, hb4, hb6, hb8, hb10, hb12, hb14, hb16, hb18, hb20, hb24, hb26, hb28, hb30, hb32⟩ := (hI 82 (by decide) (by decide) : cp82 (wget w 82))
  obtain ⟨g83_33, h83_34, hb35, hx36⟩ := (hI 83 (by decide) (by decide) : cpx83 (wget w 83))
  have h83_34 : xRow w 83 5360 50 g83_33 := h83_34
  refine xg_t (xg_blk (b := [(0, 1, 0, 0, 0, 0), (1, 1, 2, 1, 0, 0), (2, 3, 59, 12, 2, 137), (5, 1, 0, 0, 0, 0), (6, 1, 0, 0, 0, 0), (7, 3, 1, 12, 0, 7), (10, 2, 4, 15, 0, 0), (12, 1, 10, 0, 0, 0), (13, 3, 14, 12, 4, 109), (16, 1, 0, 0, 0, 0), (17, 3, 1, 12, 0, 7), (20, 2, 4, 15, 0, 0), (22, 1, 3, 0, 0, 0), (23, 1, 17, 0, 0, 0), (24, 1, 0, 0, 0, 0), (25, 1, 3, 0, 0, 0), (26, 3, 14, 12, 5, 141), (29, 1, 0, 0, 0, 0), (30, 3, 1, 12, 0, 7), (33, 2, 4, 16, 0, 0), (35, 1, 3, 0, 0, 0), (36, 1, 17, 0, 0, 0), (37, 1, 0, 0, 0, 0), (38, 3, 1, 12, 0, 7), (41, 2, 4, 17, 0, 0), (43, 1, 3, 4294967295, 0, 0), (44, 1, 17, 0, 0, 0), (45, 1, 0, 0, 0, 0), (46, 1, 3, 0, 0, 0), (47, 3, 59, 12, 10, 180), (50, 1, 0, 0, 0, 0), (51, 1, 3, 0, 0, 0), (52, 3, 14, 12, 14, 212), (55, 1, 12, 0, 0, 0)]) rfl) ?_
  refine xg_t (xg_aload (va := (2, 82)) rfl rfl) ?_
  refine xg_t (xg_iload (va := (0, 0)) rfl rfl) ?_
  refine xg_putZ (fl1 := [(2, 83), (2, 84), (0, 0), (0, f82_3), (0, f82_5), (0, f82_7), (0, f82_9), (0, f82_11), (0, f82_13), (0, f82_15), (0, f82_17), (2, 85), (2, 86), (2, 87), (0, f82_19), (2, 88), (2, 89), (2, 90), (2, 91), (2, 92), (2, 93), (2, 94), (4, f82_21), (4, f82_22), (0, f82_23), (2, 95), (2, 96), (2, 97), (2, 98), (2, 99), (2, 100), (2, 101), (2, 102), (0, f82_25), (2, 103), (2, 104), (2, 105), (2, 106), (2, 107), (2, 108), (2, 109), (0, f82_27), (0, f82_29), (2, 110), (2, 111), (2, 112), (2, 113)]) h82_31 rfl rfl rfl (fun w37 hk38 hb39 => ?_)
  refine xg_t (xg_aload (va := (2, 82)) rfl rfl) ?_
  refine xg_t (xg_aload (va := (2, 82)) rfl rfl) ?_
  refine xg_t (xg_getf (va := (2, 83)) hk38 rfl) ?_
  refine xg_t (xg_bip) ?_
  refine xg_ialdB (n := 15) (B := 4294967295) (h83_34.but hb39 (by decide)) (hb35) xnm0 (by omega) (fun u40 hu41 he42 => ?_)
  have hl43 : u40 ≤ 500 := by rw [← he42]; exact hx36.l15
  refine xg_putI (fl1 := [(2, 83), (2, 84), (0, 0), (0, f82_3), (0, u40), (0, f82_7), (0, f82_9), (0, f82_11), (0, f82_13), (0, f82_15), (0, f82_17), (2, 85), (2, 86), (2, 87), (0, f82_19), (2, 88), (2, 89), (2, 90), (2, 91), (2, 92), (2, 93), (2, 94), (4, f82_21), (4, f82_22), (0, f82_23), (2, 95), (2, 96), (2, 97), (2, 98), (2, 99), (2, 100), (2, 101), (2, 102), (0, f82_25), (2, 103), (2, 104), (2, 105), (2, 106), (2, 107), (2, 108), (2, 109), (0, f82_27), (0, f82_29), (2, 110), (2, 111), (2, 112), (2, 113)]) hk38 rfl rfl rfl (fun w44 hk45 hb46 => ?_)
  refine xg_t (xg_aload (va := (2, 82)) rfl rfl) ?_
  refine xg_t (xg_getf (va := (2, 83)) hk45 rfl) ?_
  refine xg_t (xg_bip) ?_
  refine xg_t (xg_const) ?_
  refine xg_iastK (n := 15) (u := 0) ((h83_34.but hb39 (by decide)).but hb46 (by decide)) xnm0 xnm0 rfl (by omega) (fun w47 hr48 hb49 => ?_)
  have hx50 : okA (fun j => if j = 15 then 0 else g83_33 j) := hx36.upd (by omega) (by omega) (by omega) (fun _ => by omega) (by omega) (fun _ => by omega) (fun _ => by omega) (fun _ => by omega) (fun _ => by omega) (by omega) (fun _ _ => by omega)
  have hb51 : ∀ j, (fun j => if j = 15 then 0 else g83_33 j) j ≤ 4294967295 := xrb (by omega) (hb35)
  obtain ⟨g52, hg53⟩ : ∃ g : Nat → Nat, g = (fun j => if j = 15 then 0 else g83_33 j) := ⟨_, rfl⟩
  rw [← hg53] at hr48
  have he54 : g52 15 = 0 := by rw [hg53]; exact if_pos rfl
  have hk55 : ∀ j, j ≠ 15 → g52 j = g83_33 j := fun j hj => by rw [hg53]; exact if_neg hj
  rw [← hg53] at hx50
  rw [← hg53] at hb51
  have hk56 : g52 16 = g83_33 16 := hk55 16 (by omega)
  refine xg_t (xg_aload (va := (2, 82)) rfl rfl) ?_
  refine xg_t (xg_const) ?_
  refine xg_putI (fl1 := [(2, 83), (2, 84), (0, 0), (0, f82_3), (0, u40), (0, 0), (0, f82_9), (0, f82_11), (0, f82_13), (0, f82_15), (0, f82_17), (2, 85), (2, 86), (2, 87), (0, f82_19), (2, 88), (2, 89), (2, 90), (2, 91), (2, 92), (2, 93), (2, 94), (4, f82_21), (4, f82_22), (0, f82_23), (2, 95), (2, 96), (2, 97), (2, 98), (2, 99), (2, 100), (2, 101), (2, 102), (0, f82_25), (2, 103), (2, 104), (2, 105), (2, 106), (2, 107), (2, 108), (2, 109), (0, f82_27), (0, f82_29), (2, 110), (2, 111), (2, 112), (2, 113)]) (hb49.get (by decide) hk45) rfl rfl rfl (fun w57 hk58 hb59 => ?_)
  refine xg_t (xg_aload (va := (2, 82)) rfl rfl) ?_
  refine xg_t (xg_getf (va := (2, 83)) hk58 rfl) ?_
  refine xg_t (xg_bip) ?_
  refine xg_t (xg_const) ?_
  refine xg_iastK (n := 16) (u := 0) (hr48.but hb59 (by decide)) xnm0 xnm0 rfl (by omega) (fun w60 hr61 hb62 => ?_)
  have hx63 : okA (fun j => if j = 16 then 0 else g52 j) := hx50.upd (by omega) (by omega) (by omega) (fun _ => by omega) (by omega) (fun _ => by omega) (fun _ => by omega) (fun _ => by omega) (fun _ => by omega) (by omega) (fun _ _ => by omega)
  have hb64 : ∀ j, (fun j => if j = 16 then 0 else g52 j) j ≤ 4294967295 := xrb (by omega) (hb51)
  obtain ⟨g65, hg66⟩ : ∃ g : Nat → Nat, g = (fun j => if j = 16 then 0 else g52 j) := ⟨_, rfl⟩
  rw [← hg66] at hr61
  have he67 : g65 16 = 0 := by rw [hg66]; exact if_pos rfl
  have hk68 : ∀ j, j ≠ 16 → g65 j = g52 j := fun j hj => by rw [hg66]; exact if_neg hj
  rw [← hg66] at hx63
  rw [← hg66] at hb64
  refine xg_t (xg_aload (va := (2, 82)) rfl rfl) ?_
  refine xg_t (xg_getf (va := (2, 83)) (hb62.get (by decide) hk58) rfl) ?_
  refine xg_t (xg_bip) ?_
  refine xg_t (xg_const) ?_
  refine xg_iastK (n := 17) (u := 4294967295) hr61 xnm0 xnm0 rfl (by omega) (fun w69 hr70 hb71 => ?_)
  have hx72 : okA (fun j => if j = 17 then 4294967295 else g65 j) := hx63.upd (by omega) (by omega) (by omega) (fun _ => by omega) (by omega) (fun _ => by omega) (fun _ => by omega) (fun _ => by omega) (fun _ => by omega) (by omega) (fun _ _ => by omega)
  have hb73 : ∀ j, (fun j => if j = 17 then 4294967295 else g65 j) j ≤ 4294967295 := xrb (by omega) (hb64)
  obtain ⟨g74, hg75⟩ : ∃ g : Nat → Nat, g = (fun j => if j = 17 then 4294967295 else g65 j) := ⟨_, rfl⟩
  rw [← hg75] at hr70
  have he76 : g74 17 = 4294967295 := by rw [hg75]; exact if_pos rfl
  have hk77 : ∀ j, j ≠ 17 → g74 j = g65 j := fun j hj => by rw [hg75]; exact if_neg hj
  rw [← hg75] at hx72
  rw [← hg75] at hb73
  have hk78 : g74 16 = g65 16 := hk77 16 (by omega)
  refine xg_t (xg_aload (va := (2, 82)) rfl rfl) ?_
  refine xg_t (xg_const) ?_
  refine xg_putZ (fl1 := [(2, 83), (2, 84), (0, 0), (0, f82_3), (0, u40), (0, 0), (0, f82_9), (0, f82_11), (0, f82_13), (0, f82_15), (0, 0), (2, 85), (2, 86), (2, 87), (0, f82_19), (2, 88), (2, 89), (2, 90), (2, 91), (2, 92), (2, 93), (2, 94), (4, f82_21), (4, f82_22), (0, f82_23), (2, 95), (2, 96), (2, 97), (2, 98), (2, 99), (2, 100), (2, 101), (2, 102), (0, f82_25), (2, 103), (2, 104), (2, 105), (2, 106), (2, 107), (2, 108), (2, 109), (0, f82_27), (0, f82_29), (2, 110), (2, 111), (2, 112), (2, 113)]) (hb71.get (by decide) (hb62.get (by decide) hk58)) rfl rfl rfl (fun w79 hk80 hb81 => ?_)
  refine xg_t (xg_aload (va := (2, 82)) rfl rfl) ?_
  refine xg_t (xg_const) ?_
  refine xg_putI (fl1 := [(2, 83), (2, 84), (0, 0), (0, f82_3), (0, u40), (0, 0), (0, f82_9), (0, f82_11), (0, f82_13), (0, f82_15), (0, 0), (2, 85), (2, 86), (2, 87), (0, 0), (2, 88), (2, 89), (2, 90), (2, 91), (2, 92), (2, 93), (2, 94), (4, f82_21), (4, f82_22), (0, f82_23), (2, 95), (2, 96), (2, 97), (2, 98), (2, 99), (2, 100), (2, 101), (2, 102), (0, f82_25), (2, 103), (2, 104), (2, 105), (2, 106), (2, 107), (2, 108), (2, 109), (0, f82_27), (0, f82_29), (2, 110), (2, 111), (2, 112), (2, 113)]) hk80 rfl rfl rfl (fun w82 hk83 hb84 => ?_)
  have hf85 : fld w82 82 4 = u40 := fld_of hk83
  have hf86 : fld w82 82 5 = 0 := fld_of hk83
  have hf87 : fld w82 82 7 = f82_11 := fld_of hk83
  have hf88 : fld w82 82 10 = 0 := fld_of hk83
  have hf89 : fld w82 82 14 = 0 := fld_of hk83
  have hu90 : mu w82 = 2 * (fld w82 82 4 - fld w82 82 5) + min 1 (fld w82 82 7) := rfl
  have hA91 : FA w82 = g74 16 := rwv_of ((hr70.but hb81 (by decide)).but hb84 (by decide)) (by decide)
  exact xg_e ⟨w82, ⟨rfl, rfl⟩, xMnv.up (S := [82, 83]) hI ((((((((xFr.of (S := [82, 83]) hb39 (by decide)).tr (xFr.of (S := [82, 83]) hb46 (by decide))).tr (xFr.of (S := [82, 83]) hb49 (by decide))).tr (xFr.of (S := [82, 83]) hb59 (by decide))).tr (xFr.of (S := [82, 83]) hb62 (by decide))).tr (xFr.of (S := [82, 83]) hb71 (by decide))).tr (xFr.of (S := [82, 83]) hb81 (by decide))).tr (xFr.of (S := [82, 83]) hb84 (by decide))) (List.forall_mem_cons.mpr ⟨(show cp82 (wget w82 82) from ⟨0, f82_3, u40, 0, f82_9, f82_11, f82_13, f82_15, 0, 0, f82_21, f82_22, f82_23, f82_25, f82_27, f82_29, hk83, by omega, by omega, by omega, by omega, by omega, by omega, by omega, by omega, by omega, by omega, by omega, by omega, by omega, by omega, by omega⟩), List.forall_mem_cons.mpr ⟨(show cpx83 (wget w82 83) from ⟨_, ((hr70.but hb81 (by decide)).but hb84 (by decide)), hb73, hx72⟩), fun _ h => absurd h List.not_mem_nil⟩⟩), ((((((((xFr.of (S := [82, 83]) hb39 (by decide)).tr (xFr.of (S := [82, 83]) hb46 (by decide))).tr (xFr.of (S := [82, 83]) hb49 (by decide))).tr (xFr.of (S := [82, 83]) hb59 (by decide))).tr (xFr.of (S := [82, 83]) hb62 (by decide))).tr (xFr.of (S := [82, 83]) hb71 (by decide))).tr (xFr.of (S := [82, 83]) hb81 (by decide))).tr (xFr.of (S := [82, 83]) hb84 (by decide))), ⟨by omega, by omega, by omega, by omega⟩⟩
theorem mBegins1 (hI : xMnv w)  : xPq d mX12_begins [(2, 82), (0, 1)] w bd fc rr [] (fun w' => xMnv w' ∧ xFr [82, 83] w w' ∧ (FA w' = 0 ∧ fld w' 82 10 = 0 ∧ fld w' 82 14 = 0 ∧ mu w' ≤ 1001)) := by
  refine xPq.of ?_
  show xTo d mX12_begins (0, [], [(0, (2, 82)), (1, (0, 1))], [], (w, bd, fc, 0, 0, rr)) (fun φ => ∃ w', xEnd 0 [] (w', bd, fc, 0, 0, rr) φ ∧ xMnv w' ∧ xFr [82, 83] w w' ∧ (FA w' = 0 ∧ fld w' 82 10 = 0 ∧ fld w' 82 14 = 0 ∧ mu w' ≤ 1001))
  obtain ⟨f82_1, f82_3, f82_5, f82_7, f82_9, f82_11, f82_13, f82_15, f82_17, f82_19, f82_21, f82_22, f82_23, f82_25, f82_27, f82_29, h82_31, hb2, hb4, hb6, hb8, hb10, hb12, hb14, hb16, hb18, hb20, hb24, hb26, hb28, hb30, hb32⟩ := (hI 82 (by decide) (by decide) : cp82 (wget w 82))
  obtain ⟨g83_33, h83_34, hb35, hx36⟩ := (hI 83 (by decide) (by decide) : cpx83 (wget w 83))
  have h83_34 : xRow w 83 5360 50 g83_33 := h83_34
  refine xg_t (xg_blk (b := [(0, 1, 0, 0, 0, 0), (1, 1, 2, 1, 0, 0), (2, 3, 59, 12, 2, 137), (5, 1, 0, 0, 0, 0), (6, 1, 0, 0, 0, 0), (7, 3, 1, 12, 0, 7), (10, 2, 4, 15, 0, 0), (12, 1, 10, 0, 0, 0), (13, 3, 14, 12, 4, 109), (16, 1, 0, 0, 0, 0), (17, 3, 1, 12, 0, 7), (20, 2, 4, 15, 0, 0), (22, 1, 3, 0, 0, 0), (23, 1, 17, 0, 0, 0), (24, 1, 0, 0, 0, 0), (25, 1, 3, 0, 0, 0), (26, 3, 14, 12, 5, 141), (29, 1, 0, 0, 0, 0), (30, 3, 1, 12, 0, 7), (33, 2, 4, 16, 0, 0), (35, 1, 3, 0, 0, 0), (36, 1, 17, 0, 0, 0), (37, 1, 0, 0, 0, 0), (38, 3, 1, 12, 0, 7), (41, 2, 4, 17, 0, 0), (43, 1, 3, 4294967295, 0, 0), (44, 1, 17, 0, 0, 0), (45, 1, 0, 0, 0, 0), (46, 1, 3, 0, 0, 0), (47, 3, 59, 12, 10, 180), (50, 1, 0, 0, 0, 0), (51, 1, 3, 0, 0, 0), (52, 3, 14, 12, 14, 212), (55, 1, 12, 0, 0, 0)]) rfl) ?_
  refine xg_t (xg_aload (va := (2, 82)) rfl rfl) ?_
  refine xg_t (xg_iload (va := (0, 1)) rfl rfl) ?_
  refine xg_putZ (fl1 := [(2, 83), (2, 84), (0, 1), (0, f82_3), (0, f82_5), (0, f82_7), (0, f82_9), (0, f82_11), (0, f82_13), (0, f82_15), (0, f82_17), (2, 85), (2, 86), (2, 87), (0, f82_19), (2, 88), (2, 89), (2, 90), (2, 91), (2, 92), (2, 93), (2, 94), (4, f82_21), (4, f82_22), (0, f82_23), (2, 95), (2, 96), (2, 97), (2, 98), (2, 99), (2, 100), (2, 101), (2, 102), (0, f82_25), (2, 103), (2, 104), (2, 105), (2, 106), (2, 107), (2, 108), (2, 109), (0, f82_27), (0, f82_29), (2, 110), (2, 111), (2, 112), (2, 113)]) h82_31 rfl rfl rfl (fun w37 hk38 hb39 => ?_)
  refine xg_t (xg_aload (va := (2, 82)) rfl rfl) ?_
  refine xg_t (xg_aload (va := (2, 82)) rfl rfl) ?_
  refine xg_t (xg_getf (va := (2, 83)) hk38 rfl) ?_
  refine xg_t (xg_bip) ?_
  refine xg_ialdB (n := 15) (B := 4294967295) (h83_34.but hb39 (by decide)) (hb35) xnm0 (by omega) (fun u40 hu41 he42 => ?_)
  have hl43 : u40 ≤ 500 := by rw [← he42]; exact hx36.l15
  refine xg_putI (fl1 := [(2, 83), (2, 84), (0, 1), (0, f82_3), (0, u40), (0, f82_7), (0, f82_9), (0, f82_11), (0, f82_13), (0, f82_15), (0, f82_17), (2, 85), (2, 86), (2, 87), (0, f82_19), (2, 88), (2, 89), (2, 90), (2, 91), (2, 92), (2, 93), (2, 94), (4, f82_21), (4, f82_22), (0, f82_23), (2, 95), (2, 96), (2, 97), (2, 98), (2, 99), (2, 100), (2, 101), (2, 102), (0, f82_25), (2, 103), (2, 104), (2, 105), (2, 106), (2, 107), (2, 108), (2, 109), (0, f82_27), (0, f82_29), (2, 110), (2, 111), (2, 112), (2, 113)]) hk38 rfl rfl rfl (fun w44 hk45 hb46 => ?_)
  refine xg_t (xg_aload (va := (2, 82)) rfl rfl) ?_
  refine xg_t (xg_getf (va := (2, 83)) hk45 rfl) ?_
  refine xg_t (xg_bip) ?_
  refine xg_t (xg_const) ?_
  refine xg_iastK (n := 15) (u := 0) ((h83_34.but hb39 (by decide)).but hb46 (by decide)) xnm0 xnm0 rfl (by omega) (fun w47 hr48 hb49 => ?_)
  have hx50 : okA (fun j => if j = 15 then 0 else g83_33 j) := hx36.upd (by omega) (by omega) (by omega) (fun _ => by omega) (by omega) (fun _ => by omega) (fun _ => by omega) (fun _ => by omega) (fun _ => by omega) (by omega) (fun _ _ => by omega)
  have hb51 : ∀ j, (fun j => if j = 15 then 0 else g83_33 j) j ≤ 4294967295 := xrb (by omega) (hb35)
  obtain ⟨g52, hg53⟩ : ∃ g : Nat → Nat, g = (fun j => if j = 15 then 0 else g83_33 j) := ⟨_, rfl⟩
  rw [← hg53] at hr48
  have he54 : g52 15 = 0 := by rw [hg53]; exact if_pos rfl
  have hk55 : ∀ j, j ≠ 15 → g52 j = g83_33 j := fun j hj => by rw [hg53]; exact if_neg hj
  rw [← hg53] at hx50
  rw [← hg53] at hb51
  have hk56 : g52 16 = g83_33 16 := hk55 16 (by omega)
  refine xg_t (xg_aload (va := (2, 82)) rfl rfl) ?_
  refine xg_t (xg_const) ?_
  refine xg_putI (fl1 := [(2, 83), (2, 84), (0, 1), (0, f82_3), (0, u40), (0, 0), (0, f82_9), (0, f82_11), (0, f82_13), (0, f82_15), (0, f82_17), (2, 85), (2, 86), (2, 87), (0, f82_19), (2, 88), (2, 89), (2, 90), (2, 91), (2, 92), (2, 93), (2, 94), (4, f82_21), (4, f82_22), (0, f82_23), (2, 95), (2, 96), (2, 97), (2, 98), (2, 99), (2, 100), (2, 101), (2, 102), (0, f82_25), (2, 103), (2, 104), (2, 105), (2, 106), (2, 107), (2, 108), (2, 109), (0, f82_27), (0, f82_29), (2, 110), (2, 111), (2, 112), (2, 113)]) (hb49.get (by decide) hk45) rfl rfl rfl (fun w57 hk58 hb59 => ?_)
  refine xg_t (xg_aload (va := (2, 82)) rfl rfl) ?_
  refine xg_t (xg_getf (va := (2, 83)) hk58 rfl) ?_
  refine xg_t (xg_bip) ?_
  refine xg_t (xg_const) ?_
  refine xg_iastK (n := 16) (u := 0) (hr48.but hb59 (by decide)) xnm0 xnm0 rfl (by omega) (fun w60 hr61 hb62 => ?_)
  have hx63 : okA (fun j => if j = 16 then 0 else g52 j) := hx50.upd (by omega) (by omega) (by omega) (fun _ => by omega) (by omega) (fun _ => by omega) (fun _ => by omega) (fun _ => by omega) (fun _ => by omega) (by omega) (fun _ _ => by omega)
  have hb64 : ∀ j, (fun j => if j = 16 then 0 else g52 j) j ≤ 4294967295 := xrb (by omega) (hb51)
  obtain ⟨g65, hg66⟩ : ∃ g : Nat → Nat, g = (fun j => if j = 16 then 0 else g52 j) := ⟨_, rfl⟩
  rw [← hg66] at hr61
  have he67 : g65 16 = 0 := by rw [hg66]; exact if_pos rfl
  have hk68 : ∀ j, j ≠ 16 → g65 j = g52 j := fun j hj => by rw [hg66]; exact if_neg hj
  rw [← hg66] at hx63
  rw [← hg66] at hb64
  refine xg_t (xg_aload (va := (2, 82)) rfl rfl) ?_
  refine xg_t (xg_getf (va := (2, 83)) (hb62.get (by decide) hk58) rfl) ?_
  refine xg_t (xg_bip) ?_
  refine xg_t (xg_const) ?_
  refine xg_iastK (n := 17) (u := 4294967295) hr61 xnm0 xnm0 rfl (by omega) (fun w69 hr70 hb71 => ?_)
  have hx72 : okA (fun j => if j = 17 then 4294967295 else g65 j) := hx63.upd (by omega) (by omega) (by omega) (fun _ => by omega) (by omega) (fun _ => by omega) (fun _ => by omega) (fun _ => by omega) (fun _ => by omega) (by omega) (fun _ _ => by omega)
  have hb73 : ∀ j, (fun j => if j = 17 then 4294967295 else g65 j) j ≤ 4294967295 := xrb (by omega) (hb64)
  obtain ⟨g74, hg75⟩ : ∃ g : Nat → Nat, g = (fun j => if j = 17 then 4294967295 else g65 j) := ⟨_, rfl⟩
  rw [← hg75] at hr70
  have he76 : g74 17 = 4294967295 := by rw [hg75]; exact if_pos rfl
  have hk77 : ∀ j, j ≠ 17 → g74 j = g65 j := fun j hj => by rw [hg75]; exact if_neg hj
  rw [← hg75] at hx72
  rw [← hg75] at hb73
  have hk78 : g74 16 = g65 16 := hk77 16 (by omega)
  refine xg_t (xg_aload (va := (2, 82)) rfl rfl) ?_
  refine xg_t (xg_const) ?_
  refine xg_putZ (fl1 := [(2, 83), (2, 84), (0, 1), (0, f82_3), (0, u40), (0, 0), (0, f82_9), (0, f82_11), (0, f82_13), (0, f82_15), (0, 0), (2, 85), (2, 86), (2, 87), (0, f82_19), (2, 88), (2, 89), (2, 90), (2, 91), (2, 92), (2, 93), (2, 94), (4, f82_21), (4, f82_22), (0, f82_23), (2, 95), (2, 96), (2, 97), (2, 98), (2, 99), (2, 100), (2, 101), (2, 102), (0, f82_25), (2, 103), (2, 104), (2, 105), (2, 106), (2, 107), (2, 108), (2, 109), (0, f82_27), (0, f82_29), (2, 110), (2, 111), (2, 112), (2, 113)]) (hb71.get (by decide) (hb62.get (by decide) hk58)) rfl rfl rfl (fun w79 hk80 hb81 => ?_)
  refine xg_t (xg_aload (va := (2, 82)) rfl rfl) ?_
  refine xg_t (xg_const) ?_
  refine xg_putI (fl1 := [(2, 83), (2, 84), (0, 1), (0, f82_3), (0, u40), (0, 0), (0, f82_9), (0, f82_11), (0, f82_13), (0, f82_15), (0, 0), (2, 85), (2, 86), (2, 87), (0, 0), (2, 88), (2, 89), (2, 90), (2, 91), (2, 92), (2, 93), (2, 94), (4, f82_21), (4, f82_22), (0, f82_23), (2, 95), (2, 96), (2, 97), (2, 98), (2, 99), (2, 100), (2, 101), (2, 102), (0, f82_25), (2, 103), (2, 104), (2, 105), (2, 106), (2, 107), (2, 108), (2, 109), (0, f82_27), (0, f82_29), (2, 110), (2, 111), (2, 112), (2, 113)]) hk80 rfl rfl rfl (fun w82 hk83 hb84 => ?_)
  have hf85 : fld w82 82 4 = u40 := fld_of hk83
  have hf86 : fld w82 82 5 = 0 := fld_of hk83
  have hf87 : fld w82 82 7 = f82_11 := fld_of hk83
  have hf88 : fld w82 82 10 = 0 := fld_of hk83
  have hf89 : fld w82 82 14 = 0 := fld_of hk83
  have hu90 : mu w82 = 2 * (fld w82 82 4 - fld w82 82 5) + min 1 (fld w82 82 7) := rfl
  have hA91 : FA w82 = g74 16 := rwv_of ((hr70.but hb81 (by decide)).but hb84 (by decide)) (by decide)
  exact xg_e ⟨w82, ⟨rfl, rfl⟩, xMnv.up (S := [82, 83]) hI ((((((((xFr.of (S := [82, 83]) hb39 (by decide)).tr (xFr.of (S := [82, 83]) hb46 (by decide))).tr (xFr.of (S := [82, 83]) hb49 (by decide))).tr (xFr.of (S := [82, 83]) hb59 (by decide))).tr (xFr.of (S := [82, 83]) hb62 (by decide))).tr (xFr.of (S := [82, 83]) hb71 (by decide))).tr (xFr.of (S := [82, 83]) hb81 (by decide))).tr (xFr.of (S := [82, 83]) hb84 (by decide))) (List.forall_mem_cons.mpr ⟨(show cp82 (wget w82 82) from ⟨1, f82_3, u40, 0, f82_9, f82_11, f82_13, f82_15, 0, 0, f82_21, f82_22, f82_23, f82_25, f82_27, f82_29, hk83, by omega, by omega, by omega, by omega, by omega, by omega, by omega, by omega, by omega, by omega, by omega, by omega, by omega, by omega, by omega⟩), List.forall_mem_cons.mpr ⟨(show cpx83 (wget w82 83) from ⟨_, ((hr70.but hb81 (by decide)).but hb84 (by decide)), hb73, hx72⟩), fun _ h => absurd h List.not_mem_nil⟩⟩), ((((((((xFr.of (S := [82, 83]) hb39 (by decide)).tr (xFr.of (S := [82, 83]) hb46 (by decide))).tr (xFr.of (S := [82, 83]) hb49 (by decide))).tr (xFr.of (S := [82, 83]) hb59 (by decide))).tr (xFr.of (S := [82, 83]) hb62 (by decide))).tr (xFr.of (S := [82, 83]) hb71 (by decide))).tr (xFr.of (S := [82, 83]) hb81 (by decide))).tr (xFr.of (S := [82, 83]) hb84 (by decide))), ⟨by omega, by omega, by omega, by omega⟩⟩
set_option maxHeartbeats 60000000 in
theorem mFilm (hI : xMnv w)  : xPi (d + 8) mX12_film [(2, 82)] w bd fc rr (fun n w' => (n ≤ 4294967295) ∧ xMnv w' ∧ xFr [82, 83, 85, 86, 87] w w') := by
  refine xPi.of ?_
  show xTo (d + 8) mX12_film (0, [], [(0, (2, 82))], [], (w, bd, fc, 0, 0, rr)) (fun φ => ∃ n w', xEnd 1 [(0, n)] (w', bd, fc, 0, 0, rr) φ ∧ (n ≤ 4294967295) ∧ xMnv w' ∧ xFr [82, 83, 85, 86, 87] w w')
  obtain ⟨f82_1, f82_3, f82_5, f82_7, f82_9, f82_11, f82_13, f82_15, f82_17, f82_19, f82_21, f82_22, f82_23, f82_25, f82_27, f82_29, h82_31, hb2, hb4, hb6, hb8, hb10, hb12, hb14, hb16, hb18, hb20, hb24, hb26, hb28, hb30, hb32⟩ := (hI 82 (by decide) (by decide) : cp82 (wget w 82))
  refine xg_t (xg_blk (b := [(0, 1, 0, 0, 0, 0), (1, 1, 3, 0, 0, 0), (2, 3, 13, 121, 96, 215), (5, 1, 3, 0, 0, 0), (6, 1, 15, 1, 0, 0)]) rfl) ?_
  refine xg_t (xg_aload (va := (2, 82)) rfl rfl) ?_
  refine xg_t (xg_const) ?_
  refine xg_cVv mX12_begins (vs := [(0, 0)]) (rest := []) (cn1 := 0) (sl1 := 0) rfl (mBegins0 (hI)) rfl h82_31 rfl rfl rfl rfl rfl rfl (fun w33 hq34 => ?_)
  obtain ⟨hI35, hF36, hx37⟩ := hq34
  obtain ⟨hg38, hg39, hg40, hg41⟩ := hx37
  refine xg_t (xg_const) ?_
  refine xg_t (xg_istore (l1 := [(0, (2, 82))]) rfl rfl rfl) ?_
  refine xg_t (xg_drop (l1 := [(0, (2, 82)), (1, (0, 0))]) (List.forall_mem_cons.mpr ⟨List.mem_cons_of_mem _ (List.mem_cons_self), List.forall_mem_cons.mpr ⟨List.mem_cons_self, fun _ h => absurd h List.not_mem_nil⟩⟩)) ?_
  have key42 : ∀ (m44 : Nat) (ki : Nat) (w45 : List (List xE)), 7 - ki < m44 → ki ≤ 7 → xMnv w45 → xFr [82, 83, 85, 86, 87] w w45 → ((∀ s, s < ki → rwv w45 85 s = 0) ∧ FA w45 = 0 ∧ fld w45 82 10 = 0 ∧ fld w45 82 14 = 0 ∧ mu w45 ≤ 1001) → xTo (d + 8) mX12_film (7, [], [(0, (2, 82)), (1, (0, ki))], [], (w45, bd, fc, 0, 0, rr)) (fun φ => ∃ n w', xEnd 1 [(0, n)] (w', bd, fc, 0, 0, rr) φ ∧ (n ≤ 4294967295) ∧ xMnv w' ∧ xFr [82, 83, 85, 86, 87] w w') := by
    intro m44
    induction m44 with
    | zero => intro ki w45 hz; exact absurd hz (Nat.not_lt_zero _)
    | succ m44 ih43 =>
      intro ki w45 hm50 hn48 hI46 hF47 he49
      obtain ⟨hz51, hz52, hz53, hz54, hz55⟩ := he49
      obtain ⟨g85_56, h85_57, hb58⟩ := (hI46 85 (by decide) (by decide) : cpI 7 52 4294967295 (wget w45 85))
      have h85_57 : xRow w45 85 7 52 g85_56 := h85_57
      refine xg_t (xg_blk (b := [(7, 1, 2, 1, 0, 0), (8, 2, 4, 7, 0, 0), (10, 3, 6, 26, 3, 0), (13, 1, 0, 0, 0, 0), (14, 3, 1, 12, 11, 17), (17, 1, 2, 1, 0, 0), (18, 1, 3, 0, 0, 0), (19, 1, 17, 0, 0, 0), (20, 3, 9, 1, 1, 0), (23, 3, 8, 7, 0, 0)]) rfl) ?_
      refine xg_t (xg_iload (va := (0, ki)) rfl rfl) ?_
      refine xg_t (xg_bip) ?_
      by_cases hc59 : ki < 7
      · refine xg_t (xg_icF (u := ki) (v := 7) rfl xnm0 xnm0 (xj_geF hc59 (by omega))) ?_
        refine xg_t (xg_aload (va := (2, 82)) rfl rfl) ?_
        obtain ⟨f82_60, f82_62, f82_64, f82_66, f82_68, f82_70, f82_72, f82_74, f82_76, f82_78, f82_80, f82_81, f82_82, f82_84, f82_86, f82_88, h82_90, hb61, hb63, hb65, hb67, hb69, hb71, hb73, hb75, hb77, hb79, hb83, hb85, hb87, hb89, hb91⟩ := (hI46 82 (by decide) (by decide) : cp82 (wget w45 82))
        refine xg_t (xg_getf (va := (2, 85)) h82_90 rfl) ?_
        refine xg_t (xg_iload (va := (0, ki)) rfl rfl) ?_
        refine xg_t (xg_const) ?_
        refine xg_iastK (n := ki) (u := 0) h85_57 xnm0 xnm0 rfl (by omega) (fun w92 hr93 hb94 => ?_)
        refine xg_t (xg_iinc (u := ki) (z := ki + 1) (l1 := [(0, (2, 82))]) rfl rfl (by omega) rfl) ?_
        refine xg_t (xg_goto) ?_
        refine xg_t (xg_drop (l1 := [(0, (2, 82)), (1, (0, ki + 1))]) (List.forall_mem_cons.mpr ⟨List.mem_cons_of_mem _ (List.mem_cons_self), List.forall_mem_cons.mpr ⟨List.mem_cons_self, fun _ h => absurd h List.not_mem_nil⟩⟩)) ?_
        have hF95 : xFr [85] w45 w92 := xFr.of hb94 (by decide)
        exact ih43 (ki + 1) w92 (by omega) (by omega) (xMnv.up (S := [85]) hI46 (xFr.of (S := [85]) hb94 (by decide)) (List.forall_mem_cons.mpr ⟨(show cpI 7 52 4294967295 (wget w92 85) from ⟨_, hr93, xrb (by omega) (hb58)⟩), fun _ h => absurd h List.not_mem_nil⟩)) ((hF47.tr (xFr.of (S := [82, 83, 85, 86, 87]) hb94 (by decide)))) (⟨fun s hs => (rwv_of hr93 (by omega)).trans (by by_cases z : s = ki; exact if_pos z; exact (if_neg z).trans ((rwv_of h85_57 (by omega)).symm.trans (hz51 s (by omega)))), (FA_fr hF95 (by decide)).trans hz52, (fld_fr hF95 (by decide)).trans hz53, (fld_fr hF95 (by decide)).trans hz54, by rw [mu_fr hF95 (by decide)]; exact hz55⟩)
      · refine xg_t (xg_icT (u := ki) (v := 7) rfl xnm0 xnm0 (xj_geT (by omega) (by omega))) ?_
        refine xg_t (xg_blk (b := [(26, 1, 0, 0, 0, 0), (27, 3, 1, 12, 12, 20), (30, 1, 3, 5, 0, 0), (31, 1, 3, 1, 0, 0), (32, 1, 17, 0, 0, 0), (33, 1, 0, 0, 0, 0), (34, 3, 1, 12, 12, 20), (37, 2, 4, 6, 0, 0), (39, 1, 3, 1, 0, 0), (40, 1, 17, 0, 0, 0), (41, 1, 0, 0, 0, 0), (42, 3, 1, 12, 12, 20), (45, 2, 4, 7, 0, 0), (47, 1, 3, 1, 0, 0), (48, 1, 17, 0, 0, 0), (49, 1, 0, 0, 0, 0), (50, 3, 1, 12, 12, 20), (53, 2, 4, 8, 0, 0), (55, 1, 3, 1, 0, 0), (56, 1, 17, 0, 0, 0), (57, 1, 0, 0, 0, 0), (58, 3, 13, 110, 96, 190)]) rfl) ?_
        refine xg_t (xg_aload (va := (2, 82)) rfl rfl) ?_
        obtain ⟨f82_96, f82_98, f82_100, f82_102, f82_104, f82_106, f82_108, f82_110, f82_112, f82_114, f82_116, f82_117, f82_118, f82_120, f82_122, f82_124, h82_126, hb97, hb99, hb101, hb103, hb105, hb107, hb109, hb111, hb113, hb115, hb119, hb121, hb123, hb125, hb127⟩ := (hI46 82 (by decide) (by decide) : cp82 (wget w45 82))
        refine xg_t (xg_getf (va := (2, 86)) h82_126 rfl) ?_
        refine xg_t (xg_const) ?_
        refine xg_t (xg_const) ?_
        obtain ⟨g86_128, h86_129, hb130⟩ := (hI46 86 (by decide) (by decide) : cpI 140 53 4294967295 (wget w45 86))
        have h86_129 : xRow w45 86 140 53 g86_128 := h86_129
        refine xg_iastK (n := 5) (u := 1) h86_129 xnm0 xnm0 rfl (by omega) (fun w131 hr132 hb133 => ?_)
        refine xg_t (xg_aload (va := (2, 82)) rfl rfl) ?_
        refine xg_t (xg_getf (va := (2, 86)) (hb133.get (by decide) h82_126) rfl) ?_
        refine xg_t (xg_bip) ?_
        refine xg_t (xg_const) ?_
        refine xg_iastK (n := 6) (u := 1) hr132 xnm0 xnm0 rfl (by omega) (fun w134 hr135 hb136 => ?_)
        refine xg_t (xg_aload (va := (2, 82)) rfl rfl) ?_
        refine xg_t (xg_getf (va := (2, 86)) (hb136.get (by decide) (hb133.get (by decide) h82_126)) rfl) ?_
        refine xg_t (xg_bip) ?_
        refine xg_t (xg_const) ?_
        refine xg_iastK (n := 7) (u := 1) hr135 xnm0 xnm0 rfl (by omega) (fun w137 hr138 hb139 => ?_)
        refine xg_t (xg_aload (va := (2, 82)) rfl rfl) ?_
        refine xg_t (xg_getf (va := (2, 86)) (hb139.get (by decide) (hb136.get (by decide) (hb133.get (by decide) h82_126))) rfl) ?_
        refine xg_t (xg_bip) ?_
        refine xg_t (xg_const) ?_
        refine xg_iastK (n := 8) (u := 1) hr138 xnm0 xnm0 rfl (by omega) (fun w140 hr141 hb142 => ?_)
        refine xg_t (xg_aload (va := (2, 82)) rfl rfl) ?_
        have hF143 : xFr [86] w45 w140 := ((((xFr.of (S := [86]) hb133 (by decide)).tr (xFr.of (S := [86]) hb136 (by decide))).tr (xFr.of (S := [86]) hb139 (by decide))).tr (xFr.of (S := [86]) hb142 (by decide)))
        have he144 : rwv w140 85 0 = 0 := (rwv_fr hF143 (by decide)).trans (hz51 0 (by omega))
        have he145 : rwv w140 85 1 = 0 := (rwv_fr hF143 (by decide)).trans (hz51 1 (by omega))
        have he146 : rwv w140 85 2 = 0 := (rwv_fr hF143 (by decide)).trans (hz51 2 (by omega))
        have he147 : rwv w140 85 3 = 0 := (rwv_fr hF143 (by decide)).trans (hz51 3 (by omega))
        have he148 : rwv w140 85 4 = 0 := (rwv_fr hF143 (by decide)).trans (hz51 4 (by omega))
        have he149 : rwv w140 85 5 = 0 := (rwv_fr hF143 (by decide)).trans (hz51 5 (by omega))
        have he150 : rwv w140 85 6 = 0 := (rwv_fr hF143 (by decide)).trans (hz51 6 (by omega))
        have he151 : rwv w140 86 5 = 1 := rwv_of hr141 (by decide)
        have he152 : rwv w140 86 6 = 1 := rwv_of hr141 (by decide)
        have he153 : rwv w140 86 7 = 1 := rwv_of hr141 (by decide)
        have he154 : rwv w140 86 8 = 1 := rwv_of hr141 (by decide)
        have hD155 : DATA w140 := ⟨by omega, by omega, by omega, by omega, by omega, by omega, by omega, by omega, by omega, fun k i hk hi => by omega, fun k hk => by omega⟩
        have hf156 := FA_fr hF143 (by decide)
        have hf157 := fld_fr (c := 82) (j := 10) hF143 (by decide)
        have hf158 := fld_fr (c := 82) (j := 14) hF143 (by decide)
        have hf159 := mu_fr hF143 (by decide)
        refine xg_cVv mX12_advance (vs := []) (rest := []) (cn1 := 0) (sl1 := 0) rfl (mAdvance (xMnv.up (S := [86]) hI46 ((((xFr.of (S := [86]) hb133 (by decide)).tr (xFr.of (S := [86]) hb136 (by decide))).tr (xFr.of (S := [86]) hb139 (by decide))).tr (xFr.of (S := [86]) hb142 (by decide))) (List.forall_mem_cons.mpr ⟨(show cpI 140 53 4294967295 (wget w140 86) from ⟨_, hr141, xrb (by omega) (xrb (by omega) (xrb (by omega) (xrb (by omega) (hb130))))⟩), fun _ h => absurd h List.not_mem_nil⟩))) rfl (hb142.get (by decide) (hb139.get (by decide) (hb136.get (by decide) (hb133.get (by decide) h82_126)))) rfl rfl rfl rfl rfl rfl (fun w160 hq161 => ?_)
        obtain ⟨hI162, hF163, hx164⟩ := hq161
        obtain ⟨hv165, hv166, hv167, hv168⟩ := hx164
        have hf169 := FA_fr hF163 (by decide)
        have hD170 := hD155.fr hF163 (by decide) (by decide)
        have hM171 : ∀ s, s < 7 → rwv w160 85 s ≤ fld w160 82 14 := fun s hs => by
          rw [rwv_fr hF163 (by decide)]
          rcases (show s = 0 ∨ s = 1 ∨ s = 2 ∨ s = 3 ∨ s = 4 ∨ s = 5 ∨ s = 6 by omega) with rfl | rfl | rfl | rfl | rfl | rfl | rfl <;> omega
        refine xg_t (xg_drop (l1 := [(0, (2, 82))]) (List.forall_mem_cons.mpr ⟨List.mem_cons_self, fun _ h => absurd h List.not_mem_nil⟩)) ?_
        have key172 : ∀ (m174 : Nat) (w175 : List (List xE)), 2 * mu w175 + (1 - fld w175 82 10) < m174 → xMnv w175 → xFr [82, 83, 85, 86, 87] w w175 → (PS w175 ∧ fld w175 82 14 + mu w175 ≤ 1001 ∧ (∀ s, s < 7 → rwv w175 85 s ≤ fld w175 82 14) ∧ (FA w175 ≠ 0 ∨ DATA w175)) → xTo (d + 8) mX12_film (61, [], [(0, (2, 82))], [], (w175, bd, fc, 0, 0, rr)) (fun φ => ∃ n w', xEnd 1 [(0, n)] (w', bd, fc, 0, 0, rr) φ ∧ (n ≤ 4294967295) ∧ xMnv w' ∧ xFr [82, 83, 85, 86, 87] w w') := by
          intro m174
          induction m174 with
          | zero => intro w175 hz; exact absurd hz (Nat.not_lt_zero _)
          | succ m174 ih173 =>
            intro w175 hm179 hI176 hF177 he178
            obtain ⟨hz180, hz181, hz182, hz183⟩ := he178
            unfold PS at hz180
            obtain ⟨f82_184, f82_186, f82_188, f82_190, f82_192, f82_194, f82_196, f82_198, f82_200, f82_202, f82_204, f82_205, f82_206, f82_208, f82_210, f82_212, h82_214, hb185, hb187, hb189, hb191, hb193, hb195, hb197, hb199, hb201, hb203, hb207, hb209, hb211, hb213, hb215⟩ := (hI176 82 (by decide) (by decide) : cp82 (wget w175 82))
            have hf216 : fld w175 82 4 = f82_188 := fld_of h82_214
            have hf217 : fld w175 82 5 = f82_190 := fld_of h82_214
            have hf218 : fld w175 82 7 = f82_194 := fld_of h82_214
            have hf219 : fld w175 82 10 = f82_200 := fld_of h82_214
            have hf220 : fld w175 82 14 = f82_202 := fld_of h82_214
            have hu221 : mu w175 = 2 * (fld w175 82 4 - fld w175 82 5) + min 1 (fld w175 82 7) := rfl
            refine xg_t (xg_blk (b := [(61, 1, 0, 0, 0, 0), (62, 3, 1, 12, 10, 180), (65, 3, 7, 82, 1, 0), (68, 1, 0, 0, 0, 0), (69, 3, 1, 12, 7, 151), (72, 3, 7, 82, 0, 0), (75, 1, 0, 0, 0, 0), (76, 3, 13, 107, 96, 219), (79, 3, 8, 61, 0, 0)]) rfl) ?_
            refine xg_t (xg_aload (va := (2, 82)) rfl rfl) ?_
            refine xg_t (xg_getf (va := (0, f82_200)) h82_214 rfl) ?_
            by_cases hc222 : f82_200 = 0
            · refine xg_t (xg_ifF (u := f82_200) rfl xnm0 (xj_neF hc222)) ?_
              refine xg_t (xg_aload (va := (2, 82)) rfl rfl) ?_
              refine xg_t (xg_getf (va := (0, f82_194)) h82_214 rfl) ?_
              by_cases hc223 : f82_194 = 0
              · refine xg_t (xg_ifT (u := f82_194) rfl xnm0 (xj_eqT hc223)) ?_
                refine xg_t (xg_blk (b := [(82, 1, 3, 0, 0, 0), (83, 1, 15, 1, 0, 0)]) rfl) ?_
                refine xg_t (xg_const) ?_
                refine xg_t (xg_istore (l1 := [(0, (2, 82))]) rfl rfl rfl) ?_
                refine xg_t (xg_drop (l1 := [(0, (2, 82)), (1, (0, 0))]) (List.forall_mem_cons.mpr ⟨List.mem_cons_of_mem _ (List.mem_cons_self), List.forall_mem_cons.mpr ⟨List.mem_cons_self, fun _ h => absurd h List.not_mem_nil⟩⟩)) ?_
                have key224 : ∀ (m226 : Nat) (kf : Nat) (w227 : List (List xE)), 20 - kf < m226 → kf ≤ 20 → xMnv w227 → xFr [82, 83, 85, 86, 87] w w227 → (PS w227 ∧ (FA w227 ≠ 0 ∨ DATA w227)) → xTo (d + 8) mX12_film (84, [], [(0, (2, 82)), (1, (0, kf))], [], (w227, bd, fc, 0, 0, rr)) (fun φ => ∃ n w', xEnd 1 [(0, n)] (w', bd, fc, 0, 0, rr) φ ∧ (n ≤ 4294967295) ∧ xMnv w' ∧ xFr [82, 83, 85, 86, 87] w w') := by
                  intro m226
                  induction m226 with
                  | zero => intro kf w227 hz; exact absurd hz (Nat.not_lt_zero _)
                  | succ m226 ih225 =>
                    intro kf w227 hm232 hn230 hI228 hF229 he231
                    obtain ⟨hz233, hz234⟩ := he231
                    unfold PS at hz233
                    obtain ⟨f82_235, f82_237, f82_239, f82_241, f82_243, f82_245, f82_247, f82_249, f82_251, f82_253, f82_255, f82_256, f82_257, f82_259, f82_261, f82_263, h82_265, hb236, hb238, hb240, hb242, hb244, hb246, hb248, hb250, hb252, hb254, hb258, hb260, hb262, hb264, hb266⟩ := (hI228 82 (by decide) (by decide) : cp82 (wget w227 82))
                    obtain ⟨g83_267, h83_268, hb269, hx270⟩ := (hI228 83 (by decide) (by decide) : cpx83 (wget w227 83))
                    have h83_268 : xRow w227 83 5360 50 g83_267 := h83_268
                    have hf271 : fld w227 82 10 = f82_251 := fld_of h82_265
                    have hA272 : FA w227 = g83_267 16 := rwv_of h83_268 (by decide)
                    obtain ⟨g85_273, h85_274, hb275⟩ := (hI228 85 (by decide) (by decide) : cpI 7 52 4294967295 (wget w227 85))
                    have h85_274 : xRow w227 85 7 52 g85_273 := h85_274
                    obtain ⟨g86_276, h86_277, hb278⟩ := (hI228 86 (by decide) (by decide) : cpI 140 53 4294967295 (wget w227 86))
                    have h86_277 : xRow w227 86 140 53 g86_276 := h86_277
                    obtain ⟨g87_279, h87_280, hb281⟩ := (hI228 87 (by decide) (by decide) : cpI 20 54 4294967295 (wget w227 87))
                    have h87_280 : xRow w227 87 20 54 g87_279 := h87_280
                    have hm282 : rwv w227 85 4 = g85_273 4 := rwv_of h85_274 (by decide)
                    refine xg_t (xg_blk (b := [(84, 1, 2, 1, 0, 0), (85, 1, 0, 0, 0, 0), (86, 3, 1, 12, 11, 17), (89, 1, 3, 4, 0, 0), (90, 1, 10, 0, 0, 0), (91, 3, 6, 165, 3, 0), (94, 1, 0, 0, 0, 0), (95, 3, 1, 12, 0, 7), (98, 2, 4, 16, 0, 0), (100, 1, 10, 0, 0, 0), (101, 3, 7, 165, 1, 0), (104, 1, 0, 0, 0, 0), (105, 3, 1, 12, 12, 20), (108, 2, 4, 100, 0, 0), (110, 1, 3, 2, 0, 0), (111, 1, 2, 1, 0, 0), (112, 1, 16, 0, 0, 0), (113, 1, 11, 0, 0, 0), (114, 1, 10, 0, 0, 0), (115, 1, 0, 0, 0, 0), (116, 3, 1, 12, 12, 20), (119, 2, 4, 7, 0, 0), (121, 1, 10, 0, 0, 0), (122, 3, 6, 148, 3, 0), (125, 1, 0, 0, 0, 0), (126, 3, 1, 12, 12, 20), (129, 2, 4, 100, 0, 0), (131, 1, 3, 2, 0, 0), (132, 1, 2, 1, 0, 0), (133, 1, 16, 0, 0, 0), (134, 1, 11, 0, 0, 0), (135, 1, 3, 1, 0, 0), (136, 1, 11, 0, 0, 0), (137, 1, 10, 0, 0, 0), (138, 1, 0, 0, 0, 0), (139, 3, 1, 12, 12, 20), (142, 2, 4, 8, 0, 0), (144, 1, 10, 0, 0, 0), (145, 3, 6, 159, 2, 0)]) rfl) ?_
                    refine xg_t (xg_iload (va := (0, kf)) rfl rfl) ?_
                    refine xg_t (xg_aload (va := (2, 82)) rfl rfl) ?_
                    refine xg_t (xg_getf (va := (2, 85)) h82_265 rfl) ?_
                    refine xg_t (xg_const) ?_
                    refine xg_ialdB (n := 4) (B := 4294967295) h85_274 (hb275) xnm0 (by omega) (fun u283 hu284 he285 => ?_)
                    by_cases hc286 : xbs kf < xbs u283
                    · have hc286u := hc286
                      unfold xbs at hc286u
                      have hn287 : kf ≤ 20 := by omega
                      have hn288 : u283 ≤ 2147483647 := by omega
                      refine xg_t (xg_icF (u := kf) (v := u283) rfl xnm0 xnm0 (xjs_geF hc286)) ?_
                      refine xg_t (xg_aload (va := (2, 82)) rfl rfl) ?_
                      refine xg_t (xg_getf (va := (2, 83)) h82_265 rfl) ?_
                      refine xg_t (xg_bip) ?_
                      refine xg_ialdB (n := 16) (B := 4294967295) h83_268 (hb269) xnm0 (by omega) (fun u289 hu290 he291 => ?_)
                      by_cases hc292 : u289 = 0
                      · refine xg_t (xg_ifF (u := u289) rfl xnm0 (xj_neF hc292)) ?_
                        refine xg_t (xg_aload (va := (2, 82)) rfl rfl) ?_
                        have hD293 := (hz234.resolve_left (by omega)).2.2.2.2.1
                        have hl294 : kf ≤ 19 := by omega
                        refine xg_t (xg_getf (va := (2, 86)) h82_265 rfl) ?_
                        refine xg_t (xg_bip) ?_
                        refine xg_t (xg_const) ?_
                        refine xg_t (xg_iload (va := (0, kf)) rfl rfl) ?_
                        refine xg_t (xg_imul (u := 2) (v := kf) (z := 2 * kf) xnm0 xnm0 (by omega)) ?_
                        refine xg_t (xg_iadd (u := 100) (v := 2 * kf) (z := 100 + (2 * kf)) xnm0 xnm0 (by omega)) ?_
                        refine xg_ialdB (n := 100 + (2 * kf)) (B := 4294967295) h86_277 (hb278) xnm0 (by omega) (fun u295 hu296 he297 => ?_)
                        refine xg_t (xg_aload (va := (2, 82)) rfl rfl) ?_
                        refine xg_t (xg_getf (va := (2, 86)) h82_265 rfl) ?_
                        refine xg_t (xg_bip) ?_
                        refine xg_ialdB (n := 7) (B := 4294967295) h86_277 (hb278) xnm0 (by omega) (fun u298 hu299 he300 => ?_)
                        by_cases hc301 : xbs u295 < xbs u298
                        · have hc301u := hc301
                          unfold xbs at hc301u
                          refine xg_t (xg_icF (u := u295) (v := u298) rfl xnm0 xnm0 (xjs_geF hc301)) ?_
                          refine xg_t (xg_aload (va := (2, 82)) rfl rfl) ?_
                          refine xg_t (xg_getf (va := (2, 86)) h82_265 rfl) ?_
                          refine xg_t (xg_bip) ?_
                          refine xg_t (xg_const) ?_
                          refine xg_t (xg_iload (va := (0, kf)) rfl rfl) ?_
                          refine xg_t (xg_imul (u := 2) (v := kf) (z := 2 * kf) xnm0 xnm0 (by omega)) ?_
                          refine xg_t (xg_iadd (u := 100) (v := 2 * kf) (z := 100 + (2 * kf)) xnm0 xnm0 (by omega)) ?_
                          refine xg_t (xg_const) ?_
                          refine xg_t (xg_iadd (u := 100 + (2 * kf)) (v := 1) (z := (100 + (2 * kf)) + 1) xnm0 xnm0 (by omega)) ?_
                          refine xg_ialdB (n := (100 + (2 * kf)) + 1) (B := 4294967295) h86_277 (hb278) xnm0 (by omega) (fun u302 hu303 he304 => ?_)
                          refine xg_t (xg_aload (va := (2, 82)) rfl rfl) ?_
                          refine xg_t (xg_getf (va := (2, 86)) h82_265 rfl) ?_
                          refine xg_t (xg_bip) ?_
                          refine xg_ialdB (n := 8) (B := 4294967295) h86_277 (hb278) xnm0 (by omega) (fun u305 hu306 he307 => ?_)
                          by_cases hc308 : xbs u302 < xbs u305
                          · have hc308u := hc308
                            unfold xbs at hc308u
                            refine xg_t (xg_icT (u := u302) (v := u305) rfl xnm0 xnm0 (xjs_ltT hc308)) ?_
                            refine xg_t (xg_blk (b := [(159, 3, 9, 1, 1, 0), (162, 3, 8, 84, 0, 0)]) rfl) ?_
                            refine xg_t (xg_iinc (u := kf) (z := kf + 1) (l1 := [(0, (2, 82))]) rfl rfl (by omega) rfl) ?_
                            refine xg_t (xg_goto) ?_
                            refine xg_t (xg_drop (l1 := [(0, (2, 82)), (1, (0, kf + 1))]) (List.forall_mem_cons.mpr ⟨List.mem_cons_of_mem _ (List.mem_cons_self), List.forall_mem_cons.mpr ⟨List.mem_cons_self, fun _ h => absurd h List.not_mem_nil⟩⟩)) ?_
                            exact ih225 (kf + 1) w227 (by omega) (by omega) (hI228) (hF229) (⟨(show fld w227 82 10 = 0 ∨ FA w227 ≠ 0 by omega), hz234⟩)
                          · have hc308u := hc308
                            unfold xbs at hc308u
                            refine xg_t (xg_icF (u := u302) (v := u305) rfl xnm0 xnm0 (xjs_ltF hc308)) ?_
                            refine xg_t (xg_blk (b := [(148, 1, 0, 0, 0, 0), (149, 1, 3, 4, 0, 0), (150, 1, 0, 0, 0, 0), (151, 3, 1, 12, 13, 23), (154, 1, 2, 1, 0, 0), (155, 1, 10, 0, 0, 0), (156, 3, 13, 115, 96, 186)]) rfl) ?_
                            refine xg_t (xg_aload (va := (2, 82)) rfl rfl) ?_
                            refine xg_t (xg_const) ?_
                            refine xg_t (xg_aload (va := (2, 82)) rfl rfl) ?_
                            refine xg_t (xg_getf (va := (2, 87)) h82_265 rfl) ?_
                            refine xg_t (xg_iload (va := (0, kf)) rfl rfl) ?_
                            refine xg_ialdB (n := kf) (B := 4294967295) h87_280 (hb281) xnm0 (by omega) (fun u309 hu310 he311 => ?_)
                            refine xg_cVv mX12_also (vs := [(0, 4), (0, u309)]) (rest := []) (cn1 := 0) (sl1 := 0) rfl (mAlso (hI228) (by omega) (by omega) (by omega) (show fld w227 82 10 = 0 ∨ FA w227 ≠ 0 by omega)) rfl h82_265 rfl rfl rfl rfl rfl rfl (fun w312 hq313 => ?_)
                            obtain ⟨hI314, hF315, hx316⟩ := hq313
                            have hv317 := hx316
                            have hf318 := fld_fr (c := 82) (j := 7) hF315 (by decide)
                            have hf319 := fld_fr (c := 82) (j := 10) hF315 (by decide)
                            have hf320 := fld_fr (c := 82) (j := 14) hF315 (by decide)
                            have hf321 := mu_fr hF315 (by decide)
                            refine xg_t (xg_blk (b := [(159, 3, 9, 1, 1, 0), (162, 3, 8, 84, 0, 0)]) rfl) ?_
                            refine xg_t (xg_iinc (u := kf) (z := kf + 1) (l1 := [(0, (2, 82))]) rfl rfl (by omega) rfl) ?_
                            refine xg_t (xg_goto) ?_
                            refine xg_t (xg_drop (l1 := [(0, (2, 82)), (1, (0, kf + 1))]) (List.forall_mem_cons.mpr ⟨List.mem_cons_of_mem _ (List.mem_cons_self), List.forall_mem_cons.mpr ⟨List.mem_cons_self, fun _ h => absurd h List.not_mem_nil⟩⟩)) ?_
                            exact ih225 (kf + 1) w312 (by omega) (by omega) (hI314) ((hF229.tr (hF315.up (by decide)))) (⟨(show fld w312 82 10 = 0 ∨ FA w312 ≠ 0 by omega), Or.inl (by omega)⟩)
                        · have hc301u := hc301
                          unfold xbs at hc301u
                          refine xg_t (xg_icT (u := u295) (v := u298) rfl xnm0 xnm0 (xjs_geT hc301)) ?_
                          refine xg_t (xg_blk (b := [(148, 1, 0, 0, 0, 0), (149, 1, 3, 4, 0, 0), (150, 1, 0, 0, 0, 0), (151, 3, 1, 12, 13, 23), (154, 1, 2, 1, 0, 0), (155, 1, 10, 0, 0, 0), (156, 3, 13, 115, 96, 186)]) rfl) ?_
                          refine xg_t (xg_aload (va := (2, 82)) rfl rfl) ?_
                          refine xg_t (xg_const) ?_
                          refine xg_t (xg_aload (va := (2, 82)) rfl rfl) ?_
                          refine xg_t (xg_getf (va := (2, 87)) h82_265 rfl) ?_
                          refine xg_t (xg_iload (va := (0, kf)) rfl rfl) ?_
                          refine xg_ialdB (n := kf) (B := 4294967295) h87_280 (hb281) xnm0 (by omega) (fun u322 hu323 he324 => ?_)
                          refine xg_cVv mX12_also (vs := [(0, 4), (0, u322)]) (rest := []) (cn1 := 0) (sl1 := 0) rfl (mAlso (hI228) (by omega) (by omega) (by omega) (show fld w227 82 10 = 0 ∨ FA w227 ≠ 0 by omega)) rfl h82_265 rfl rfl rfl rfl rfl rfl (fun w325 hq326 => ?_)
                          obtain ⟨hI327, hF328, hx329⟩ := hq326
                          have hv330 := hx329
                          have hf331 := fld_fr (c := 82) (j := 7) hF328 (by decide)
                          have hf332 := fld_fr (c := 82) (j := 10) hF328 (by decide)
                          have hf333 := fld_fr (c := 82) (j := 14) hF328 (by decide)
                          have hf334 := mu_fr hF328 (by decide)
                          refine xg_t (xg_blk (b := [(159, 3, 9, 1, 1, 0), (162, 3, 8, 84, 0, 0)]) rfl) ?_
                          refine xg_t (xg_iinc (u := kf) (z := kf + 1) (l1 := [(0, (2, 82))]) rfl rfl (by omega) rfl) ?_
                          refine xg_t (xg_goto) ?_
                          refine xg_t (xg_drop (l1 := [(0, (2, 82)), (1, (0, kf + 1))]) (List.forall_mem_cons.mpr ⟨List.mem_cons_of_mem _ (List.mem_cons_self), List.forall_mem_cons.mpr ⟨List.mem_cons_self, fun _ h => absurd h List.not_mem_nil⟩⟩)) ?_
                          exact ih225 (kf + 1) w325 (by omega) (by omega) (hI327) ((hF229.tr (hF328.up (by decide)))) (⟨(show fld w325 82 10 = 0 ∨ FA w325 ≠ 0 by omega), Or.inl (by omega)⟩)
                      · refine xg_t (xg_ifT (u := u289) rfl xnm0 (xj_neT hc292)) ?_
                        refine xg_t (xg_blk (b := [(165, 1, 0, 0, 0, 0), (166, 3, 1, 12, 0, 7), (169, 2, 4, 16, 0, 0), (171, 1, 10, 0, 0, 0), (172, 3, 7, 177, 0, 0), (175, 1, 3, 4294967295, 0, 0), (176, 1, 12, 0, 1, 0)]) rfl) ?_
                        refine xg_t (xg_aload (va := (2, 82)) rfl rfl) ?_
                        refine xg_t (xg_getf (va := (2, 83)) h82_265 rfl) ?_
                        refine xg_t (xg_bip) ?_
                        refine xg_ialdB (n := 16) (B := 4294967295) h83_268 (hb269) xnm0 (by omega) (fun u335 hu336 he337 => ?_)
                        by_cases hc338 : u335 = 0
                        · refine xg_t (xg_ifT (u := u335) rfl xnm0 (xj_eqT hc338)) ?_
                          refine xg_t (xg_blk (b := [(177, 1, 3, 0, 0, 0), (178, 1, 15, 1, 0, 0)]) rfl) ?_
                          have hDD := hz234.resolve_left (by omega)
                          have hdt := hDD.toDt h85_274 h86_277
                          refine xg_t (xg_const) ?_
                          refine xg_t (xg_istore (l1 := [(0, (2, 82))]) rfl rfl rfl) ?_
                          refine xg_t (xg_blk (b := [(179, 1, 2, 1, 0, 0), (180, 1, 3, 5, 0, 0), (181, 3, 6, 202, 3, 0), (184, 1, 0, 0, 0, 0), (185, 3, 1, 12, 0, 7), (188, 1, 2, 1, 0, 0), (189, 1, 0, 0, 0, 0), (190, 3, 1, 12, 11, 17), (193, 1, 2, 1, 0, 0), (194, 1, 10, 0, 0, 0), (195, 1, 17, 0, 0, 0), (196, 3, 9, 1, 1, 0), (199, 3, 8, 179, 0, 0)]) rfl) ?_
                          refine xg_t (xg_iload (va := (0, 0)) rfl rfl) ?_
                          refine xg_t (xg_const) ?_
                          refine xg_t (xg_icF (u := 0) (v := 5) rfl xnm0 xnm0 (by decide)) ?_
                          refine xg_t (xg_aload (va := (2, 82)) rfl rfl) ?_
                          refine xg_t (xg_getf (va := (2, 83)) h82_265 rfl) ?_
                          refine xg_t (xg_iload (va := (0, 0)) rfl rfl) ?_
                          refine xg_t (xg_aload (va := (2, 82)) rfl rfl) ?_
                          refine xg_t (xg_getf (va := (2, 85)) h82_265 rfl) ?_
                          refine xg_t (xg_iload (va := (0, 0)) rfl rfl) ?_
                          refine xg_ialdB (n := 0) (B := 4294967295) h85_274 (hb275) xnm0 (by omega) (fun u339 hu340 he341 => ?_)
                          refine xg_iastK (n := 0) (u := u339) h83_268 xnm0 xnm0 rfl (by omega) (fun w342 hr343 hb344 => ?_)
                          have hb345 : ∀ j, (fun j => if j = 0 then u339 else g83_267 j) j ≤ 4294967295 := xrb (by omega) (hb269)
                          obtain ⟨g346, hg347⟩ : ∃ g : Nat → Nat, g = (fun j => if j = 0 then u339 else g83_267 j) := ⟨_, rfl⟩
                          rw [← hg347] at hr343
                          have he348 : g346 0 = u339 := by rw [hg347]; exact if_pos rfl
                          have hk349 : ∀ j, j ≠ 0 → g346 j = g83_267 j := fun j hj => by rw [hg347]; exact if_neg hj
                          rw [← hg347] at hb345
                          refine xg_t (xg_iinc (u := 0) (z := 1) (l1 := [(0, (2, 82))]) rfl rfl (by decide) rfl) ?_
                          refine xg_t (xg_goto) ?_
                          refine xg_t (xg_blk (b := [(179, 1, 2, 1, 0, 0), (180, 1, 3, 5, 0, 0), (181, 3, 6, 202, 3, 0), (184, 1, 0, 0, 0, 0), (185, 3, 1, 12, 0, 7), (188, 1, 2, 1, 0, 0), (189, 1, 0, 0, 0, 0), (190, 3, 1, 12, 11, 17), (193, 1, 2, 1, 0, 0), (194, 1, 10, 0, 0, 0), (195, 1, 17, 0, 0, 0), (196, 3, 9, 1, 1, 0), (199, 3, 8, 179, 0, 0)]) rfl) ?_
                          refine xg_t (xg_iload (va := (0, 1)) rfl rfl) ?_
                          refine xg_t (xg_const) ?_
                          refine xg_t (xg_icF (u := 1) (v := 5) rfl xnm0 xnm0 (by decide)) ?_
                          refine xg_t (xg_aload (va := (2, 82)) rfl rfl) ?_
                          refine xg_t (xg_getf (va := (2, 83)) (hb344.get (by decide) h82_265) rfl) ?_
                          refine xg_t (xg_iload (va := (0, 1)) rfl rfl) ?_
                          refine xg_t (xg_aload (va := (2, 82)) rfl rfl) ?_
                          refine xg_t (xg_getf (va := (2, 85)) (hb344.get (by decide) h82_265) rfl) ?_
                          refine xg_t (xg_iload (va := (0, 1)) rfl rfl) ?_
                          refine xg_ialdB (n := 1) (B := 4294967295) (h85_274.but hb344 (by decide)) (hb275) xnm0 (by omega) (fun u350 hu351 he352 => ?_)
                          refine xg_iastK (n := 1) (u := u350) hr343 xnm0 xnm0 rfl (by omega) (fun w353 hr354 hb355 => ?_)
                          have hb356 : ∀ j, (fun j => if j = 1 then u350 else g346 j) j ≤ 4294967295 := xrb (by omega) (hb345)
                          obtain ⟨g357, hg358⟩ : ∃ g : Nat → Nat, g = (fun j => if j = 1 then u350 else g346 j) := ⟨_, rfl⟩
                          rw [← hg358] at hr354
                          have he359 : g357 1 = u350 := by rw [hg358]; exact if_pos rfl
                          have hk360 : ∀ j, j ≠ 1 → g357 j = g346 j := fun j hj => by rw [hg358]; exact if_neg hj
                          rw [← hg358] at hb356
                          refine xg_t (xg_iinc (u := 1) (z := 2) (l1 := [(0, (2, 82))]) rfl rfl (by decide) rfl) ?_
                          refine xg_t (xg_goto) ?_
                          refine xg_t (xg_blk (b := [(179, 1, 2, 1, 0, 0), (180, 1, 3, 5, 0, 0), (181, 3, 6, 202, 3, 0), (184, 1, 0, 0, 0, 0), (185, 3, 1, 12, 0, 7), (188, 1, 2, 1, 0, 0), (189, 1, 0, 0, 0, 0), (190, 3, 1, 12, 11, 17), (193, 1, 2, 1, 0, 0), (194, 1, 10, 0, 0, 0), (195, 1, 17, 0, 0, 0), (196, 3, 9, 1, 1, 0), (199, 3, 8, 179, 0, 0)]) rfl) ?_
                          refine xg_t (xg_iload (va := (0, 2)) rfl rfl) ?_
                          refine xg_t (xg_const) ?_
                          refine xg_t (xg_icF (u := 2) (v := 5) rfl xnm0 xnm0 (by decide)) ?_
                          refine xg_t (xg_aload (va := (2, 82)) rfl rfl) ?_
                          refine xg_t (xg_getf (va := (2, 83)) (hb355.get (by decide) (hb344.get (by decide) h82_265)) rfl) ?_
                          refine xg_t (xg_iload (va := (0, 2)) rfl rfl) ?_
                          refine xg_t (xg_aload (va := (2, 82)) rfl rfl) ?_
                          refine xg_t (xg_getf (va := (2, 85)) (hb355.get (by decide) (hb344.get (by decide) h82_265)) rfl) ?_
                          refine xg_t (xg_iload (va := (0, 2)) rfl rfl) ?_
                          refine xg_ialdB (n := 2) (B := 4294967295) ((h85_274.but hb344 (by decide)).but hb355 (by decide)) (hb275) xnm0 (by omega) (fun u361 hu362 he363 => ?_)
                          refine xg_iastK (n := 2) (u := u361) hr354 xnm0 xnm0 rfl (by omega) (fun w364 hr365 hb366 => ?_)
                          have hb367 : ∀ j, (fun j => if j = 2 then u361 else g357 j) j ≤ 4294967295 := xrb (by omega) (hb356)
                          obtain ⟨g368, hg369⟩ : ∃ g : Nat → Nat, g = (fun j => if j = 2 then u361 else g357 j) := ⟨_, rfl⟩
                          rw [← hg369] at hr365
                          have he370 : g368 2 = u361 := by rw [hg369]; exact if_pos rfl
                          have hk371 : ∀ j, j ≠ 2 → g368 j = g357 j := fun j hj => by rw [hg369]; exact if_neg hj
                          rw [← hg369] at hb367
                          refine xg_t (xg_iinc (u := 2) (z := 3) (l1 := [(0, (2, 82))]) rfl rfl (by decide) rfl) ?_
                          refine xg_t (xg_goto) ?_
                          refine xg_t (xg_blk (b := [(179, 1, 2, 1, 0, 0), (180, 1, 3, 5, 0, 0), (181, 3, 6, 202, 3, 0), (184, 1, 0, 0, 0, 0), (185, 3, 1, 12, 0, 7), (188, 1, 2, 1, 0, 0), (189, 1, 0, 0, 0, 0), (190, 3, 1, 12, 11, 17), (193, 1, 2, 1, 0, 0), (194, 1, 10, 0, 0, 0), (195, 1, 17, 0, 0, 0), (196, 3, 9, 1, 1, 0), (199, 3, 8, 179, 0, 0)]) rfl) ?_
                          refine xg_t (xg_iload (va := (0, 3)) rfl rfl) ?_
                          refine xg_t (xg_const) ?_
                          refine xg_t (xg_icF (u := 3) (v := 5) rfl xnm0 xnm0 (by decide)) ?_
                          refine xg_t (xg_aload (va := (2, 82)) rfl rfl) ?_
                          refine xg_t (xg_getf (va := (2, 83)) (hb366.get (by decide) (hb355.get (by decide) (hb344.get (by decide) h82_265))) rfl) ?_
                          refine xg_t (xg_iload (va := (0, 3)) rfl rfl) ?_
                          refine xg_t (xg_aload (va := (2, 82)) rfl rfl) ?_
                          refine xg_t (xg_getf (va := (2, 85)) (hb366.get (by decide) (hb355.get (by decide) (hb344.get (by decide) h82_265))) rfl) ?_
                          refine xg_t (xg_iload (va := (0, 3)) rfl rfl) ?_
                          refine xg_ialdB (n := 3) (B := 4294967295) (((h85_274.but hb344 (by decide)).but hb355 (by decide)).but hb366 (by decide)) (hb275) xnm0 (by omega) (fun u372 hu373 he374 => ?_)
                          refine xg_iastK (n := 3) (u := u372) hr365 xnm0 xnm0 rfl (by omega) (fun w375 hr376 hb377 => ?_)
                          have hb378 : ∀ j, (fun j => if j = 3 then u372 else g368 j) j ≤ 4294967295 := xrb (by omega) (hb367)
                          obtain ⟨g379, hg380⟩ : ∃ g : Nat → Nat, g = (fun j => if j = 3 then u372 else g368 j) := ⟨_, rfl⟩
                          rw [← hg380] at hr376
                          have he381 : g379 3 = u372 := by rw [hg380]; exact if_pos rfl
                          have hk382 : ∀ j, j ≠ 3 → g379 j = g368 j := fun j hj => by rw [hg380]; exact if_neg hj
                          rw [← hg380] at hb378
                          refine xg_t (xg_iinc (u := 3) (z := 4) (l1 := [(0, (2, 82))]) rfl rfl (by decide) rfl) ?_
                          refine xg_t (xg_goto) ?_
                          refine xg_t (xg_blk (b := [(179, 1, 2, 1, 0, 0), (180, 1, 3, 5, 0, 0), (181, 3, 6, 202, 3, 0), (184, 1, 0, 0, 0, 0), (185, 3, 1, 12, 0, 7), (188, 1, 2, 1, 0, 0), (189, 1, 0, 0, 0, 0), (190, 3, 1, 12, 11, 17), (193, 1, 2, 1, 0, 0), (194, 1, 10, 0, 0, 0), (195, 1, 17, 0, 0, 0), (196, 3, 9, 1, 1, 0), (199, 3, 8, 179, 0, 0)]) rfl) ?_
                          refine xg_t (xg_iload (va := (0, 4)) rfl rfl) ?_
                          refine xg_t (xg_const) ?_
                          refine xg_t (xg_icF (u := 4) (v := 5) rfl xnm0 xnm0 (by decide)) ?_
                          refine xg_t (xg_aload (va := (2, 82)) rfl rfl) ?_
                          refine xg_t (xg_getf (va := (2, 83)) (hb377.get (by decide) (hb366.get (by decide) (hb355.get (by decide) (hb344.get (by decide) h82_265)))) rfl) ?_
                          refine xg_t (xg_iload (va := (0, 4)) rfl rfl) ?_
                          refine xg_t (xg_aload (va := (2, 82)) rfl rfl) ?_
                          refine xg_t (xg_getf (va := (2, 85)) (hb377.get (by decide) (hb366.get (by decide) (hb355.get (by decide) (hb344.get (by decide) h82_265)))) rfl) ?_
                          refine xg_t (xg_iload (va := (0, 4)) rfl rfl) ?_
                          refine xg_ialdB (n := 4) (B := 4294967295) ((((h85_274.but hb344 (by decide)).but hb355 (by decide)).but hb366 (by decide)).but hb377 (by decide)) (hb275) xnm0 (by omega) (fun u383 hu384 he385 => ?_)
                          refine xg_iastK (n := 4) (u := u383) hr376 xnm0 xnm0 rfl (by omega) (fun w386 hr387 hb388 => ?_)
                          have hb389 : ∀ j, (fun j => if j = 4 then u383 else g379 j) j ≤ 4294967295 := xrb (by omega) (hb378)
                          obtain ⟨g390, hg391⟩ : ∃ g : Nat → Nat, g = (fun j => if j = 4 then u383 else g379 j) := ⟨_, rfl⟩
                          rw [← hg391] at hr387
                          have he392 : g390 4 = u383 := by rw [hg391]; exact if_pos rfl
                          have hk393 : ∀ j, j ≠ 4 → g390 j = g379 j := fun j hj => by rw [hg391]; exact if_neg hj
                          rw [← hg391] at hb389
                          refine xg_t (xg_iinc (u := 4) (z := 5) (l1 := [(0, (2, 82))]) rfl rfl (by decide) rfl) ?_
                          refine xg_t (xg_goto) ?_
                          refine xg_t (xg_blk (b := [(179, 1, 2, 1, 0, 0), (180, 1, 3, 5, 0, 0), (181, 3, 6, 202, 3, 0), (184, 1, 0, 0, 0, 0), (185, 3, 1, 12, 0, 7), (188, 1, 2, 1, 0, 0), (189, 1, 0, 0, 0, 0), (190, 3, 1, 12, 11, 17), (193, 1, 2, 1, 0, 0), (194, 1, 10, 0, 0, 0), (195, 1, 17, 0, 0, 0), (196, 3, 9, 1, 1, 0), (199, 3, 8, 179, 0, 0)]) rfl) ?_
                          refine xg_t (xg_iload (va := (0, 5)) rfl rfl) ?_
                          refine xg_t (xg_const) ?_
                          refine xg_t (xg_icT (u := 5) (v := 5) rfl xnm0 xnm0 (by decide)) ?_
                          refine xg_t (xg_blk (b := [(202, 1, 3, 5, 0, 0), (203, 1, 15, 1, 0, 0)]) rfl) ?_
                          refine xg_t (xg_const) ?_
                          refine xg_t (xg_istore (l1 := [(0, (2, 82))]) rfl rfl rfl) ?_
                          refine xg_t (xg_blk (b := [(204, 1, 2, 1, 0, 0), (205, 2, 4, 8, 0, 0), (207, 3, 6, 228, 4, 0), (210, 1, 0, 0, 0, 0), (211, 3, 1, 12, 0, 7), (214, 1, 2, 1, 0, 0), (215, 1, 0, 0, 0, 0), (216, 3, 1, 12, 12, 20), (219, 1, 2, 1, 0, 0), (220, 1, 10, 0, 0, 0), (221, 1, 17, 0, 0, 0), (222, 3, 9, 1, 1, 0), (225, 3, 8, 204, 0, 0)]) rfl) ?_
                          refine xg_t (xg_iload (va := (0, 5)) rfl rfl) ?_
                          refine xg_t (xg_bip) ?_
                          refine xg_t (xg_icF (u := 5) (v := 8) rfl xnm0 xnm0 (by decide)) ?_
                          refine xg_t (xg_aload (va := (2, 82)) rfl rfl) ?_
                          refine xg_t (xg_getf (va := (2, 83)) (hb388.get (by decide) (hb377.get (by decide) (hb366.get (by decide) (hb355.get (by decide) (hb344.get (by decide) h82_265))))) rfl) ?_
                          refine xg_t (xg_iload (va := (0, 5)) rfl rfl) ?_
                          refine xg_t (xg_aload (va := (2, 82)) rfl rfl) ?_
                          refine xg_t (xg_getf (va := (2, 86)) (hb388.get (by decide) (hb377.get (by decide) (hb366.get (by decide) (hb355.get (by decide) (hb344.get (by decide) h82_265))))) rfl) ?_
                          refine xg_t (xg_iload (va := (0, 5)) rfl rfl) ?_
                          refine xg_ialdB (n := 5) (B := 4294967295) (((((h86_277.but hb344 (by decide)).but hb355 (by decide)).but hb366 (by decide)).but hb377 (by decide)).but hb388 (by decide)) (hb278) xnm0 (by omega) (fun u394 hu395 he396 => ?_)
                          refine xg_iastK (n := 5) (u := u394) hr387 xnm0 xnm0 rfl (by omega) (fun w397 hr398 hb399 => ?_)
                          have hb400 : ∀ j, (fun j => if j = 5 then u394 else g390 j) j ≤ 4294967295 := xrb (by omega) (hb389)
                          obtain ⟨g401, hg402⟩ : ∃ g : Nat → Nat, g = (fun j => if j = 5 then u394 else g390 j) := ⟨_, rfl⟩
                          rw [← hg402] at hr398
                          have he403 : g401 5 = u394 := by rw [hg402]; exact if_pos rfl
                          have hk404 : ∀ j, j ≠ 5 → g401 j = g390 j := fun j hj => by rw [hg402]; exact if_neg hj
                          rw [← hg402] at hb400
                          refine xg_t (xg_iinc (u := 5) (z := 6) (l1 := [(0, (2, 82))]) rfl rfl (by decide) rfl) ?_
                          refine xg_t (xg_goto) ?_
                          refine xg_t (xg_blk (b := [(204, 1, 2, 1, 0, 0), (205, 2, 4, 8, 0, 0), (207, 3, 6, 228, 4, 0), (210, 1, 0, 0, 0, 0), (211, 3, 1, 12, 0, 7), (214, 1, 2, 1, 0, 0), (215, 1, 0, 0, 0, 0), (216, 3, 1, 12, 12, 20), (219, 1, 2, 1, 0, 0), (220, 1, 10, 0, 0, 0), (221, 1, 17, 0, 0, 0), (222, 3, 9, 1, 1, 0), (225, 3, 8, 204, 0, 0)]) rfl) ?_
                          refine xg_t (xg_iload (va := (0, 6)) rfl rfl) ?_
                          refine xg_t (xg_bip) ?_
                          refine xg_t (xg_icF (u := 6) (v := 8) rfl xnm0 xnm0 (by decide)) ?_
                          refine xg_t (xg_aload (va := (2, 82)) rfl rfl) ?_
                          refine xg_t (xg_getf (va := (2, 83)) (hb399.get (by decide) (hb388.get (by decide) (hb377.get (by decide) (hb366.get (by decide) (hb355.get (by decide) (hb344.get (by decide) h82_265)))))) rfl) ?_
                          refine xg_t (xg_iload (va := (0, 6)) rfl rfl) ?_
                          refine xg_t (xg_aload (va := (2, 82)) rfl rfl) ?_
                          refine xg_t (xg_getf (va := (2, 86)) (hb399.get (by decide) (hb388.get (by decide) (hb377.get (by decide) (hb366.get (by decide) (hb355.get (by decide) (hb344.get (by decide) h82_265)))))) rfl) ?_
                          refine xg_t (xg_iload (va := (0, 6)) rfl rfl) ?_
                          refine xg_ialdB (n := 6) (B := 4294967295) ((((((h86_277.but hb344 (by decide)).but hb355 (by decide)).but hb366 (by decide)).but hb377 (by decide)).but hb388 (by decide)).but hb399 (by decide)) (hb278) xnm0 (by omega) (fun u405 hu406 he407 => ?_)
                          refine xg_iastK (n := 6) (u := u405) hr398 xnm0 xnm0 rfl (by omega) (fun w408 hr409 hb410 => ?_)
                          have hb411 : ∀ j, (fun j => if j = 6 then u405 else g401 j) j ≤ 4294967295 := xrb (by omega) (hb400)
                          obtain ⟨g412, hg413⟩ : ∃ g : Nat → Nat, g = (fun j => if j = 6 then u405 else g401 j) := ⟨_, rfl⟩
                          rw [← hg413] at hr409
                          have he414 : g412 6 = u405 := by rw [hg413]; exact if_pos rfl
                          have hk415 : ∀ j, j ≠ 6 → g412 j = g401 j := fun j hj => by rw [hg413]; exact if_neg hj
                          rw [← hg413] at hb411
                          refine xg_t (xg_iinc (u := 6) (z := 7) (l1 := [(0, (2, 82))]) rfl rfl (by decide) rfl) ?_
                          refine xg_t (xg_goto) ?_
                          refine xg_t (xg_blk (b := [(204, 1, 2, 1, 0, 0), (205, 2, 4, 8, 0, 0), (207, 3, 6, 228, 4, 0), (210, 1, 0, 0, 0, 0), (211, 3, 1, 12, 0, 7), (214, 1, 2, 1, 0, 0), (215, 1, 0, 0, 0, 0), (216, 3, 1, 12, 12, 20), (219, 1, 2, 1, 0, 0), (220, 1, 10, 0, 0, 0), (221, 1, 17, 0, 0, 0), (222, 3, 9, 1, 1, 0), (225, 3, 8, 204, 0, 0)]) rfl) ?_
                          refine xg_t (xg_iload (va := (0, 7)) rfl rfl) ?_
                          refine xg_t (xg_bip) ?_
                          refine xg_t (xg_icF (u := 7) (v := 8) rfl xnm0 xnm0 (by decide)) ?_
                          refine xg_t (xg_aload (va := (2, 82)) rfl rfl) ?_
                          refine xg_t (xg_getf (va := (2, 83)) (hb410.get (by decide) (hb399.get (by decide) (hb388.get (by decide) (hb377.get (by decide) (hb366.get (by decide) (hb355.get (by decide) (hb344.get (by decide) h82_265))))))) rfl) ?_
                          refine xg_t (xg_iload (va := (0, 7)) rfl rfl) ?_
                          refine xg_t (xg_aload (va := (2, 82)) rfl rfl) ?_
                          refine xg_t (xg_getf (va := (2, 86)) (hb410.get (by decide) (hb399.get (by decide) (hb388.get (by decide) (hb377.get (by decide) (hb366.get (by decide) (hb355.get (by decide) (hb344.get (by decide) h82_265))))))) rfl) ?_
                          refine xg_t (xg_iload (va := (0, 7)) rfl rfl) ?_
                          refine xg_ialdB (n := 7) (B := 4294967295) (((((((h86_277.but hb344 (by decide)).but hb355 (by decide)).but hb366 (by decide)).but hb377 (by decide)).but hb388 (by decide)).but hb399 (by decide)).but hb410 (by decide)) (hb278) xnm0 (by omega) (fun u416 hu417 he418 => ?_)
                          refine xg_iastK (n := 7) (u := u416) hr409 xnm0 xnm0 rfl (by omega) (fun w419 hr420 hb421 => ?_)
                          have hb422 : ∀ j, (fun j => if j = 7 then u416 else g412 j) j ≤ 4294967295 := xrb (by omega) (hb411)
                          obtain ⟨g423, hg424⟩ : ∃ g : Nat → Nat, g = (fun j => if j = 7 then u416 else g412 j) := ⟨_, rfl⟩
                          rw [← hg424] at hr420
                          have he425 : g423 7 = u416 := by rw [hg424]; exact if_pos rfl
                          have hk426 : ∀ j, j ≠ 7 → g423 j = g412 j := fun j hj => by rw [hg424]; exact if_neg hj
                          rw [← hg424] at hb422
                          refine xg_t (xg_iinc (u := 7) (z := 8) (l1 := [(0, (2, 82))]) rfl rfl (by decide) rfl) ?_
                          refine xg_t (xg_goto) ?_
                          refine xg_t (xg_blk (b := [(204, 1, 2, 1, 0, 0), (205, 2, 4, 8, 0, 0), (207, 3, 6, 228, 4, 0), (210, 1, 0, 0, 0, 0), (211, 3, 1, 12, 0, 7), (214, 1, 2, 1, 0, 0), (215, 1, 0, 0, 0, 0), (216, 3, 1, 12, 12, 20), (219, 1, 2, 1, 0, 0), (220, 1, 10, 0, 0, 0), (221, 1, 17, 0, 0, 0), (222, 3, 9, 1, 1, 0), (225, 3, 8, 204, 0, 0)]) rfl) ?_
                          refine xg_t (xg_iload (va := (0, 8)) rfl rfl) ?_
                          refine xg_t (xg_bip) ?_
                          refine xg_t (xg_icF (u := 8) (v := 8) rfl xnm0 xnm0 (by decide)) ?_
                          refine xg_t (xg_aload (va := (2, 82)) rfl rfl) ?_
                          refine xg_t (xg_getf (va := (2, 83)) (hb421.get (by decide) (hb410.get (by decide) (hb399.get (by decide) (hb388.get (by decide) (hb377.get (by decide) (hb366.get (by decide) (hb355.get (by decide) (hb344.get (by decide) h82_265)))))))) rfl) ?_
                          refine xg_t (xg_iload (va := (0, 8)) rfl rfl) ?_
                          refine xg_t (xg_aload (va := (2, 82)) rfl rfl) ?_
                          refine xg_t (xg_getf (va := (2, 86)) (hb421.get (by decide) (hb410.get (by decide) (hb399.get (by decide) (hb388.get (by decide) (hb377.get (by decide) (hb366.get (by decide) (hb355.get (by decide) (hb344.get (by decide) h82_265)))))))) rfl) ?_
                          refine xg_t (xg_iload (va := (0, 8)) rfl rfl) ?_
                          refine xg_ialdB (n := 8) (B := 4294967295) ((((((((h86_277.but hb344 (by decide)).but hb355 (by decide)).but hb366 (by decide)).but hb377 (by decide)).but hb388 (by decide)).but hb399 (by decide)).but hb410 (by decide)).but hb421 (by decide)) (hb278) xnm0 (by omega) (fun u427 hu428 he429 => ?_)
                          refine xg_iastK (n := 8) (u := u427) hr420 xnm0 xnm0 rfl (by omega) (fun w430 hr431 hb432 => ?_)
                          have hb433 : ∀ j, (fun j => if j = 8 then u427 else g423 j) j ≤ 4294967295 := xrb (by omega) (hb422)
                          obtain ⟨g434, hg435⟩ : ∃ g : Nat → Nat, g = (fun j => if j = 8 then u427 else g423 j) := ⟨_, rfl⟩
                          rw [← hg435] at hr431
                          have he436 : g434 8 = u427 := by rw [hg435]; exact if_pos rfl
                          have hk437 : ∀ j, j ≠ 8 → g434 j = g423 j := fun j hj => by rw [hg435]; exact if_neg hj
                          rw [← hg435] at hb433
                          refine xg_t (xg_iinc (u := 8) (z := 9) (l1 := [(0, (2, 82))]) rfl rfl (by decide) rfl) ?_
                          refine xg_t (xg_goto) ?_
                          refine xg_t (xg_blk (b := [(204, 1, 2, 1, 0, 0), (205, 2, 4, 8, 0, 0), (207, 3, 6, 228, 4, 0), (210, 1, 0, 0, 0, 0), (211, 3, 1, 12, 0, 7), (214, 1, 2, 1, 0, 0), (215, 1, 0, 0, 0, 0), (216, 3, 1, 12, 12, 20), (219, 1, 2, 1, 0, 0), (220, 1, 10, 0, 0, 0), (221, 1, 17, 0, 0, 0), (222, 3, 9, 1, 1, 0), (225, 3, 8, 204, 0, 0)]) rfl) ?_
                          refine xg_t (xg_iload (va := (0, 9)) rfl rfl) ?_
                          refine xg_t (xg_bip) ?_
                          refine xg_t (xg_icT (u := 9) (v := 8) rfl xnm0 xnm0 (by decide)) ?_
                          refine xg_t (xg_blk (b := [(228, 2, 4, 20, 0, 0), (230, 1, 15, 1, 0, 0)]) rfl) ?_
                          refine xg_t (xg_bip) ?_
                          refine xg_t (xg_istore (l1 := [(0, (2, 82))]) rfl rfl rfl) ?_
                          refine xg_t (xg_drop (l1 := [(0, (2, 82)), (1, (0, 20))]) (List.forall_mem_cons.mpr ⟨List.mem_cons_of_mem _ (List.mem_cons_self), List.forall_mem_cons.mpr ⟨List.mem_cons_self, fun _ h => absurd h List.not_mem_nil⟩⟩)) ?_
                          refine cpFilm 120 20 w430 g434 (by decide) hr431 hb433 (((((((((h86_277.but hb344 (by decide)).but hb355 (by decide)).but hb366 (by decide)).but hb377 (by decide)).but hb388 (by decide)).but hb399 (by decide)).but hb410 (by decide)).but hb421 (by decide)).but hb432 (by decide)) hb278 (hb432.get (by decide) (hb421.get (by decide) (hb410.get (by decide) (hb399.get (by decide) (hb388.get (by decide) (hb377.get (by decide) (hb366.get (by decide) (hb355.get (by decide) (hb344.get (by decide) h82_265))))))))) (fun w438 g439 hc440 hc441 hc442 hc443 hc444 => ?_)
                          refine xg_t (xg_blk (b := [(256, 1, 0, 0, 0, 0), (257, 3, 1, 12, 0, 7), (260, 2, 4, 9, 0, 0), (262, 1, 3, 0, 0, 0), (263, 1, 17, 0, 0, 0), (264, 1, 0, 0, 0, 0), (265, 3, 1, 12, 0, 7), (268, 2, 4, 10, 0, 0), (270, 1, 3, 0, 0, 0), (271, 1, 17, 0, 0, 0), (272, 1, 0, 0, 0, 0), (273, 3, 1, 12, 0, 7), (276, 2, 4, 14, 0, 0), (278, 1, 0, 0, 0, 0), (279, 3, 1, 12, 14, 212), (282, 1, 17, 0, 0, 0), (283, 1, 0, 0, 0, 0), (284, 3, 1, 12, 14, 212), (287, 1, 12, 0, 1, 0)]) rfl) ?_
                          refine xg_t (xg_aload (va := (2, 82)) rfl rfl) ?_
                          refine xg_t (xg_getf (va := (2, 83)) (hc442.get (by decide) (hb432.get (by decide) (hb421.get (by decide) (hb410.get (by decide) (hb399.get (by decide) (hb388.get (by decide) (hb377.get (by decide) (hb366.get (by decide) (hb355.get (by decide) (hb344.get (by decide) h82_265)))))))))) rfl) ?_
                          refine xg_t (xg_bip) ?_
                          refine xg_t (xg_const) ?_
                          refine xg_iastK (n := 9) (u := 0) hc440 xnm0 xnm0 rfl (by omega) (fun w445 hr446 hb447 => ?_)
                          have hb448 : ∀ j, (fun j => if j = 9 then 0 else g439 j) j ≤ 4294967295 := xrb (by omega) (hc441)
                          obtain ⟨g449, hg450⟩ : ∃ g : Nat → Nat, g = (fun j => if j = 9 then 0 else g439 j) := ⟨_, rfl⟩
                          rw [← hg450] at hr446
                          have he451 : g449 9 = 0 := by rw [hg450]; exact if_pos rfl
                          have hk452 : ∀ j, j ≠ 9 → g449 j = g439 j := fun j hj => by rw [hg450]; exact if_neg hj
                          rw [← hg450] at hb448
                          refine xg_t (xg_aload (va := (2, 82)) rfl rfl) ?_
                          refine xg_t (xg_getf (va := (2, 83)) (hb447.get (by decide) (hc442.get (by decide) (hb432.get (by decide) (hb421.get (by decide) (hb410.get (by decide) (hb399.get (by decide) (hb388.get (by decide) (hb377.get (by decide) (hb366.get (by decide) (hb355.get (by decide) (hb344.get (by decide) h82_265))))))))))) rfl) ?_
                          refine xg_t (xg_bip) ?_
                          refine xg_t (xg_const) ?_
                          refine xg_iastK (n := 10) (u := 0) hr446 xnm0 xnm0 rfl (by omega) (fun w453 hr454 hb455 => ?_)
                          have hb456 : ∀ j, (fun j => if j = 10 then 0 else g449 j) j ≤ 4294967295 := xrb (by omega) (hb448)
                          obtain ⟨g457, hg458⟩ : ∃ g : Nat → Nat, g = (fun j => if j = 10 then 0 else g449 j) := ⟨_, rfl⟩
                          rw [← hg458] at hr454
                          have he459 : g457 10 = 0 := by rw [hg458]; exact if_pos rfl
                          have hk460 : ∀ j, j ≠ 10 → g457 j = g449 j := fun j hj => by rw [hg458]; exact if_neg hj
                          rw [← hg458] at hb456
                          refine xg_t (xg_aload (va := (2, 82)) rfl rfl) ?_
                          refine xg_t (xg_getf (va := (2, 83)) (hb455.get (by decide) (hb447.get (by decide) (hc442.get (by decide) (hb432.get (by decide) (hb421.get (by decide) (hb410.get (by decide) (hb399.get (by decide) (hb388.get (by decide) (hb377.get (by decide) (hb366.get (by decide) (hb355.get (by decide) (hb344.get (by decide) h82_265)))))))))))) rfl) ?_
                          refine xg_t (xg_bip) ?_
                          refine xg_t (xg_aload (va := (2, 82)) rfl rfl) ?_
                          refine xg_t (xg_getf (va := (0, f82_253)) (hb455.get (by decide) (hb447.get (by decide) (hc442.get (by decide) (hb432.get (by decide) (hb421.get (by decide) (hb410.get (by decide) (hb399.get (by decide) (hb388.get (by decide) (hb377.get (by decide) (hb366.get (by decide) (hb355.get (by decide) (hb344.get (by decide) h82_265)))))))))))) rfl) ?_
                          refine xg_iastK (n := 14) (u := f82_253) hr454 xnm0 xnm0 rfl (by omega) (fun w461 hr462 hb463 => ?_)
                          have hb464 : ∀ j, (fun j => if j = 14 then f82_253 else g457 j) j ≤ 4294967295 := xrb (by omega) (hb456)
                          obtain ⟨g465, hg466⟩ : ∃ g : Nat → Nat, g = (fun j => if j = 14 then f82_253 else g457 j) := ⟨_, rfl⟩
                          rw [← hg466] at hr462
                          have he467 : g465 14 = f82_253 := by rw [hg466]; exact if_pos rfl
                          have hk468 : ∀ j, j ≠ 14 → g465 j = g457 j := fun j hj => by rw [hg466]; exact if_neg hj
                          rw [← hg466] at hb464
                          have hq469 : g465 0 = u339 := by rw [hk468 0 (by omega), hk460 0 (by omega), hk452 0 (by omega), hc444 0 (by omega), hk437 0 (by omega), hk426 0 (by omega), hk415 0 (by omega), hk404 0 (by omega), hk393 0 (by omega), hk382 0 (by omega), hk371 0 (by omega), hk360 0 (by omega), he348]
                          have hq470 : g465 1 = u350 := by rw [hk468 1 (by omega), hk460 1 (by omega), hk452 1 (by omega), hc444 1 (by omega), hk437 1 (by omega), hk426 1 (by omega), hk415 1 (by omega), hk404 1 (by omega), hk393 1 (by omega), hk382 1 (by omega), hk371 1 (by omega), he359]
                          have hq471 : g465 2 = u361 := by rw [hk468 2 (by omega), hk460 2 (by omega), hk452 2 (by omega), hc444 2 (by omega), hk437 2 (by omega), hk426 2 (by omega), hk415 2 (by omega), hk404 2 (by omega), hk393 2 (by omega), hk382 2 (by omega), he370]
                          have hq472 : g465 3 = u372 := by rw [hk468 3 (by omega), hk460 3 (by omega), hk452 3 (by omega), hc444 3 (by omega), hk437 3 (by omega), hk426 3 (by omega), hk415 3 (by omega), hk404 3 (by omega), hk393 3 (by omega), he381]
                          have hq473 : g465 4 = u383 := by rw [hk468 4 (by omega), hk460 4 (by omega), hk452 4 (by omega), hc444 4 (by omega), hk437 4 (by omega), hk426 4 (by omega), hk415 4 (by omega), hk404 4 (by omega), he392]
                          have hq474 : g465 5 = u394 := by rw [hk468 5 (by omega), hk460 5 (by omega), hk452 5 (by omega), hc444 5 (by omega), hk437 5 (by omega), hk426 5 (by omega), hk415 5 (by omega), he403]
                          have hq475 : g465 6 = u405 := by rw [hk468 6 (by omega), hk460 6 (by omega), hk452 6 (by omega), hc444 6 (by omega), hk437 6 (by omega), hk426 6 (by omega), he414]
                          have hq476 : g465 7 = u416 := by rw [hk468 7 (by omega), hk460 7 (by omega), hk452 7 (by omega), hc444 7 (by omega), hk437 7 (by omega), he425]
                          have hq477 : g465 8 = u427 := by rw [hk468 8 (by omega), hk460 8 (by omega), hk452 8 (by omega), hc444 8 (by omega), he436]
                          have hq478 : g465 9 = 0 := by rw [hk468 9 (by omega), hk460 9 (by omega), he451]
                          have hq479 : g465 10 = 0 := by rw [hk468 10 (by omega), he459]
                          have hq480 : ∀ j, 20 ≤ j → j < 140 → g465 j = g86_276 j := fun j h1 h2 => by rw [hk468 j (by omega), hk460 j (by omega), hk452 j (by omega)]; exact hc443 j h1 h2
                          have hq481 : ∀ j, 140 ≤ j ∨ j = 13 ∨ j = 15 → g465 j = g83_267 j := fun j hj => by rw [hk468 j (by omega), hk460 j (by omega), hk452 j (by omega), hc444 j (by omega), hk437 j (by omega), hk426 j (by omega), hk415 j (by omega), hk404 j (by omega), hk393 j (by omega), hk382 j (by omega), hk371 j (by omega), hk360 j (by omega), hk349 j (by omega)]
                          have hx482 : okA g465 := film_ok hx270 hdt (by omega) (by omega) (by omega) (by omega) (by omega) (by omega) (by omega) (by omega) (by omega) (by omega) (by omega) hq480 hq481
                          refine xg_t (xg_aload (va := (2, 82)) rfl rfl) ?_
                          refine xg_t (xg_getf (va := (0, f82_253)) (hb463.get (by decide) (hb455.get (by decide) (hb447.get (by decide) (hc442.get (by decide) (hb432.get (by decide) (hb421.get (by decide) (hb410.get (by decide) (hb399.get (by decide) (hb388.get (by decide) (hb377.get (by decide) (hb366.get (by decide) (hb355.get (by decide) (hb344.get (by decide) h82_265))))))))))))) rfl) ?_
                          exact xg_e ⟨f82_253, w461, ⟨rfl, rfl⟩, by omega, xMnv.up (S := [83]) hI228 (((((((((((((xFr.of (S := [83]) hb344 (by decide)).tr (xFr.of (S := [83]) hb355 (by decide))).tr (xFr.of (S := [83]) hb366 (by decide))).tr (xFr.of (S := [83]) hb377 (by decide))).tr (xFr.of (S := [83]) hb388 (by decide))).tr (xFr.of (S := [83]) hb399 (by decide))).tr (xFr.of (S := [83]) hb410 (by decide))).tr (xFr.of (S := [83]) hb421 (by decide))).tr (xFr.of (S := [83]) hb432 (by decide))).tr (xFr.of (S := [83]) hc442 (by decide))).tr (xFr.of (S := [83]) hb447 (by decide))).tr (xFr.of (S := [83]) hb455 (by decide))).tr (xFr.of (S := [83]) hb463 (by decide))) (List.forall_mem_cons.mpr ⟨(show cpx83 (wget w461 83) from ⟨_, hr462, hb464, hx482⟩), fun _ h => absurd h List.not_mem_nil⟩), (hF229.tr (((((((((((((xFr.of (S := [82, 83, 85, 86, 87]) hb344 (by decide)).tr (xFr.of (S := [82, 83, 85, 86, 87]) hb355 (by decide))).tr (xFr.of (S := [82, 83, 85, 86, 87]) hb366 (by decide))).tr (xFr.of (S := [82, 83, 85, 86, 87]) hb377 (by decide))).tr (xFr.of (S := [82, 83, 85, 86, 87]) hb388 (by decide))).tr (xFr.of (S := [82, 83, 85, 86, 87]) hb399 (by decide))).tr (xFr.of (S := [82, 83, 85, 86, 87]) hb410 (by decide))).tr (xFr.of (S := [82, 83, 85, 86, 87]) hb421 (by decide))).tr (xFr.of (S := [82, 83, 85, 86, 87]) hb432 (by decide))).tr (xFr.of (S := [82, 83, 85, 86, 87]) hc442 (by decide))).tr (xFr.of (S := [82, 83, 85, 86, 87]) hb447 (by decide))).tr (xFr.of (S := [82, 83, 85, 86, 87]) hb455 (by decide))).tr (xFr.of (S := [82, 83, 85, 86, 87]) hb463 (by decide))))⟩
                        · refine xg_t (xg_ifF (u := u335) rfl xnm0 (xj_eqF hc338)) ?_
                          refine xg_t (xg_const) ?_
                          exact xg_e ⟨4294967295, w227, ⟨rfl, rfl⟩, by omega, hI228, hF229⟩
                    · have hc286u := hc286
                      unfold xbs at hc286u
                      have hn483 : kf ≤ 20 := by omega
                      refine xg_t (xg_icT (u := kf) (v := u283) rfl xnm0 xnm0 (xjs_geT hc286)) ?_
                      refine xg_t (xg_blk (b := [(165, 1, 0, 0, 0, 0), (166, 3, 1, 12, 0, 7), (169, 2, 4, 16, 0, 0), (171, 1, 10, 0, 0, 0), (172, 3, 7, 177, 0, 0), (175, 1, 3, 4294967295, 0, 0), (176, 1, 12, 0, 1, 0)]) rfl) ?_
                      refine xg_t (xg_aload (va := (2, 82)) rfl rfl) ?_
                      refine xg_t (xg_getf (va := (2, 83)) h82_265 rfl) ?_
                      refine xg_t (xg_bip) ?_
                      refine xg_ialdB (n := 16) (B := 4294967295) h83_268 (hb269) xnm0 (by omega) (fun u484 hu485 he486 => ?_)
                      by_cases hc487 : u484 = 0
                      · refine xg_t (xg_ifT (u := u484) rfl xnm0 (xj_eqT hc487)) ?_
                        refine xg_t (xg_blk (b := [(177, 1, 3, 0, 0, 0), (178, 1, 15, 1, 0, 0)]) rfl) ?_
                        have hDD := hz234.resolve_left (by omega)
                        have hdt := hDD.toDt h85_274 h86_277
                        refine xg_t (xg_const) ?_
                        refine xg_t (xg_istore (l1 := [(0, (2, 82))]) rfl rfl rfl) ?_
                        refine xg_t (xg_blk (b := [(179, 1, 2, 1, 0, 0), (180, 1, 3, 5, 0, 0), (181, 3, 6, 202, 3, 0), (184, 1, 0, 0, 0, 0), (185, 3, 1, 12, 0, 7), (188, 1, 2, 1, 0, 0), (189, 1, 0, 0, 0, 0), (190, 3, 1, 12, 11, 17), (193, 1, 2, 1, 0, 0), (194, 1, 10, 0, 0, 0), (195, 1, 17, 0, 0, 0), (196, 3, 9, 1, 1, 0), (199, 3, 8, 179, 0, 0)]) rfl) ?_
                        refine xg_t (xg_iload (va := (0, 0)) rfl rfl) ?_
                        refine xg_t (xg_const) ?_
                        refine xg_t (xg_icF (u := 0) (v := 5) rfl xnm0 xnm0 (by decide)) ?_
                        refine xg_t (xg_aload (va := (2, 82)) rfl rfl) ?_
                        refine xg_t (xg_getf (va := (2, 83)) h82_265 rfl) ?_
                        refine xg_t (xg_iload (va := (0, 0)) rfl rfl) ?_
                        refine xg_t (xg_aload (va := (2, 82)) rfl rfl) ?_
                        refine xg_t (xg_getf (va := (2, 85)) h82_265 rfl) ?_
                        refine xg_t (xg_iload (va := (0, 0)) rfl rfl) ?_
                        refine xg_ialdB (n := 0) (B := 4294967295) h85_274 (hb275) xnm0 (by omega) (fun u488 hu489 he490 => ?_)
                        refine xg_iastK (n := 0) (u := u488) h83_268 xnm0 xnm0 rfl (by omega) (fun w491 hr492 hb493 => ?_)
                        have hb494 : ∀ j, (fun j => if j = 0 then u488 else g83_267 j) j ≤ 4294967295 := xrb (by omega) (hb269)
                        obtain ⟨g495, hg496⟩ : ∃ g : Nat → Nat, g = (fun j => if j = 0 then u488 else g83_267 j) := ⟨_, rfl⟩
                        rw [← hg496] at hr492
                        have he497 : g495 0 = u488 := by rw [hg496]; exact if_pos rfl
                        have hk498 : ∀ j, j ≠ 0 → g495 j = g83_267 j := fun j hj => by rw [hg496]; exact if_neg hj
                        rw [← hg496] at hb494
                        refine xg_t (xg_iinc (u := 0) (z := 1) (l1 := [(0, (2, 82))]) rfl rfl (by decide) rfl) ?_
                        refine xg_t (xg_goto) ?_
                        refine xg_t (xg_blk (b := [(179, 1, 2, 1, 0, 0), (180, 1, 3, 5, 0, 0), (181, 3, 6, 202, 3, 0), (184, 1, 0, 0, 0, 0), (185, 3, 1, 12, 0, 7), (188, 1, 2, 1, 0, 0), (189, 1, 0, 0, 0, 0), (190, 3, 1, 12, 11, 17), (193, 1, 2, 1, 0, 0), (194, 1, 10, 0, 0, 0), (195, 1, 17, 0, 0, 0), (196, 3, 9, 1, 1, 0), (199, 3, 8, 179, 0, 0)]) rfl) ?_
                        refine xg_t (xg_iload (va := (0, 1)) rfl rfl) ?_
                        refine xg_t (xg_const) ?_
                        refine xg_t (xg_icF (u := 1) (v := 5) rfl xnm0 xnm0 (by decide)) ?_
                        refine xg_t (xg_aload (va := (2, 82)) rfl rfl) ?_
                        refine xg_t (xg_getf (va := (2, 83)) (hb493.get (by decide) h82_265) rfl) ?_
                        refine xg_t (xg_iload (va := (0, 1)) rfl rfl) ?_
                        refine xg_t (xg_aload (va := (2, 82)) rfl rfl) ?_
                        refine xg_t (xg_getf (va := (2, 85)) (hb493.get (by decide) h82_265) rfl) ?_
                        refine xg_t (xg_iload (va := (0, 1)) rfl rfl) ?_
                        refine xg_ialdB (n := 1) (B := 4294967295) (h85_274.but hb493 (by decide)) (hb275) xnm0 (by omega) (fun u499 hu500 he501 => ?_)
                        refine xg_iastK (n := 1) (u := u499) hr492 xnm0 xnm0 rfl (by omega) (fun w502 hr503 hb504 => ?_)
                        have hb505 : ∀ j, (fun j => if j = 1 then u499 else g495 j) j ≤ 4294967295 := xrb (by omega) (hb494)
                        obtain ⟨g506, hg507⟩ : ∃ g : Nat → Nat, g = (fun j => if j = 1 then u499 else g495 j) := ⟨_, rfl⟩
                        rw [← hg507] at hr503
                        have he508 : g506 1 = u499 := by rw [hg507]; exact if_pos rfl
                        have hk509 : ∀ j, j ≠ 1 → g506 j = g495 j := fun j hj => by rw [hg507]; exact if_neg hj
                        rw [← hg507] at hb505
                        refine xg_t (xg_iinc (u := 1) (z := 2) (l1 := [(0, (2, 82))]) rfl rfl (by decide) rfl) ?_
                        refine xg_t (xg_goto) ?_
                        refine xg_t (xg_blk (b := [(179, 1, 2, 1, 0, 0), (180, 1, 3, 5, 0, 0), (181, 3, 6, 202, 3, 0), (184, 1, 0, 0, 0, 0), (185, 3, 1, 12, 0, 7), (188, 1, 2, 1, 0, 0), (189, 1, 0, 0, 0, 0), (190, 3, 1, 12, 11, 17), (193, 1, 2, 1, 0, 0), (194, 1, 10, 0, 0, 0), (195, 1, 17, 0, 0, 0), (196, 3, 9, 1, 1, 0), (199, 3, 8, 179, 0, 0)]) rfl) ?_
                        refine xg_t (xg_iload (va := (0, 2)) rfl rfl) ?_
                        refine xg_t (xg_const) ?_
                        refine xg_t (xg_icF (u := 2) (v := 5) rfl xnm0 xnm0 (by decide)) ?_
                        refine xg_t (xg_aload (va := (2, 82)) rfl rfl) ?_
                        refine xg_t (xg_getf (va := (2, 83)) (hb504.get (by decide) (hb493.get (by decide) h82_265)) rfl) ?_
                        refine xg_t (xg_iload (va := (0, 2)) rfl rfl) ?_
                        refine xg_t (xg_aload (va := (2, 82)) rfl rfl) ?_
                        refine xg_t (xg_getf (va := (2, 85)) (hb504.get (by decide) (hb493.get (by decide) h82_265)) rfl) ?_
                        refine xg_t (xg_iload (va := (0, 2)) rfl rfl) ?_
                        refine xg_ialdB (n := 2) (B := 4294967295) ((h85_274.but hb493 (by decide)).but hb504 (by decide)) (hb275) xnm0 (by omega) (fun u510 hu511 he512 => ?_)
                        refine xg_iastK (n := 2) (u := u510) hr503 xnm0 xnm0 rfl (by omega) (fun w513 hr514 hb515 => ?_)
                        have hb516 : ∀ j, (fun j => if j = 2 then u510 else g506 j) j ≤ 4294967295 := xrb (by omega) (hb505)
                        obtain ⟨g517, hg518⟩ : ∃ g : Nat → Nat, g = (fun j => if j = 2 then u510 else g506 j) := ⟨_, rfl⟩
                        rw [← hg518] at hr514
                        have he519 : g517 2 = u510 := by rw [hg518]; exact if_pos rfl
                        have hk520 : ∀ j, j ≠ 2 → g517 j = g506 j := fun j hj => by rw [hg518]; exact if_neg hj
                        rw [← hg518] at hb516
                        refine xg_t (xg_iinc (u := 2) (z := 3) (l1 := [(0, (2, 82))]) rfl rfl (by decide) rfl) ?_
                        refine xg_t (xg_goto) ?_
                        refine xg_t (xg_blk (b := [(179, 1, 2, 1, 0, 0), (180, 1, 3, 5, 0, 0), (181, 3, 6, 202, 3, 0), (184, 1, 0, 0, 0, 0), (185, 3, 1, 12, 0, 7), (188, 1, 2, 1, 0, 0), (189, 1, 0, 0, 0, 0), (190, 3, 1, 12, 11, 17), (193, 1, 2, 1, 0, 0), (194, 1, 10, 0, 0, 0), (195, 1, 17, 0, 0, 0), (196, 3, 9, 1, 1, 0), (199, 3, 8, 179, 0, 0)]) rfl) ?_
                        refine xg_t (xg_iload (va := (0, 3)) rfl rfl) ?_
                        refine xg_t (xg_const) ?_
                        refine xg_t (xg_icF (u := 3) (v := 5) rfl xnm0 xnm0 (by decide)) ?_
                        refine xg_t (xg_aload (va := (2, 82)) rfl rfl) ?_
                        refine xg_t (xg_getf (va := (2, 83)) (hb515.get (by decide) (hb504.get (by decide) (hb493.get (by decide) h82_265))) rfl) ?_
                        refine xg_t (xg_iload (va := (0, 3)) rfl rfl) ?_
                        refine xg_t (xg_aload (va := (2, 82)) rfl rfl) ?_
                        refine xg_t (xg_getf (va := (2, 85)) (hb515.get (by decide) (hb504.get (by decide) (hb493.get (by decide) h82_265))) rfl) ?_
                        refine xg_t (xg_iload (va := (0, 3)) rfl rfl) ?_
                        refine xg_ialdB (n := 3) (B := 4294967295) (((h85_274.but hb493 (by decide)).but hb504 (by decide)).but hb515 (by decide)) (hb275) xnm0 (by omega) (fun u521 hu522 he523 => ?_)
                        refine xg_iastK (n := 3) (u := u521) hr514 xnm0 xnm0 rfl (by omega) (fun w524 hr525 hb526 => ?_)
                        have hb527 : ∀ j, (fun j => if j = 3 then u521 else g517 j) j ≤ 4294967295 := xrb (by omega) (hb516)
                        obtain ⟨g528, hg529⟩ : ∃ g : Nat → Nat, g = (fun j => if j = 3 then u521 else g517 j) := ⟨_, rfl⟩
                        rw [← hg529] at hr525
                        have he530 : g528 3 = u521 := by rw [hg529]; exact if_pos rfl
                        have hk531 : ∀ j, j ≠ 3 → g528 j = g517 j := fun j hj => by rw [hg529]; exact if_neg hj
                        rw [← hg529] at hb527
                        refine xg_t (xg_iinc (u := 3) (z := 4) (l1 := [(0, (2, 82))]) rfl rfl (by decide) rfl) ?_
                        refine xg_t (xg_goto) ?_
                        refine xg_t (xg_blk (b := [(179, 1, 2, 1, 0, 0), (180, 1, 3, 5, 0, 0), (181, 3, 6, 202, 3, 0), (184, 1, 0, 0, 0, 0), (185, 3, 1, 12, 0, 7), (188, 1, 2, 1, 0, 0), (189, 1, 0, 0, 0, 0), (190, 3, 1, 12, 11, 17), (193, 1, 2, 1, 0, 0), (194, 1, 10, 0, 0, 0), (195, 1, 17, 0, 0, 0), (196, 3, 9, 1, 1, 0), (199, 3, 8, 179, 0, 0)]) rfl) ?_
                        refine xg_t (xg_iload (va := (0, 4)) rfl rfl) ?_
                        refine xg_t (xg_const) ?_
                        refine xg_t (xg_icF (u := 4) (v := 5) rfl xnm0 xnm0 (by decide)) ?_
                        refine xg_t (xg_aload (va := (2, 82)) rfl rfl) ?_
                        refine xg_t (xg_getf (va := (2, 83)) (hb526.get (by decide) (hb515.get (by decide) (hb504.get (by decide) (hb493.get (by decide) h82_265)))) rfl) ?_
                        refine xg_t (xg_iload (va := (0, 4)) rfl rfl) ?_
                        refine xg_t (xg_aload (va := (2, 82)) rfl rfl) ?_
                        refine xg_t (xg_getf (va := (2, 85)) (hb526.get (by decide) (hb515.get (by decide) (hb504.get (by decide) (hb493.get (by decide) h82_265)))) rfl) ?_
                        refine xg_t (xg_iload (va := (0, 4)) rfl rfl) ?_
                        refine xg_ialdB (n := 4) (B := 4294967295) ((((h85_274.but hb493 (by decide)).but hb504 (by decide)).but hb515 (by decide)).but hb526 (by decide)) (hb275) xnm0 (by omega) (fun u532 hu533 he534 => ?_)
                        refine xg_iastK (n := 4) (u := u532) hr525 xnm0 xnm0 rfl (by omega) (fun w535 hr536 hb537 => ?_)
                        have hb538 : ∀ j, (fun j => if j = 4 then u532 else g528 j) j ≤ 4294967295 := xrb (by omega) (hb527)
                        obtain ⟨g539, hg540⟩ : ∃ g : Nat → Nat, g = (fun j => if j = 4 then u532 else g528 j) := ⟨_, rfl⟩
                        rw [← hg540] at hr536
                        have he541 : g539 4 = u532 := by rw [hg540]; exact if_pos rfl
                        have hk542 : ∀ j, j ≠ 4 → g539 j = g528 j := fun j hj => by rw [hg540]; exact if_neg hj
                        rw [← hg540] at hb538
                        refine xg_t (xg_iinc (u := 4) (z := 5) (l1 := [(0, (2, 82))]) rfl rfl (by decide) rfl) ?_
                        refine xg_t (xg_goto) ?_
                        refine xg_t (xg_blk (b := [(179, 1, 2, 1, 0, 0), (180, 1, 3, 5, 0, 0), (181, 3, 6, 202, 3, 0), (184, 1, 0, 0, 0, 0), (185, 3, 1, 12, 0, 7), (188, 1, 2, 1, 0, 0), (189, 1, 0, 0, 0, 0), (190, 3, 1, 12, 11, 17), (193, 1, 2, 1, 0, 0), (194, 1, 10, 0, 0, 0), (195, 1, 17, 0, 0, 0), (196, 3, 9, 1, 1, 0), (199, 3, 8, 179, 0, 0)]) rfl) ?_
                        refine xg_t (xg_iload (va := (0, 5)) rfl rfl) ?_
                        refine xg_t (xg_const) ?_
                        refine xg_t (xg_icT (u := 5) (v := 5) rfl xnm0 xnm0 (by decide)) ?_
                        refine xg_t (xg_blk (b := [(202, 1, 3, 5, 0, 0), (203, 1, 15, 1, 0, 0)]) rfl) ?_
                        refine xg_t (xg_const) ?_
                        refine xg_t (xg_istore (l1 := [(0, (2, 82))]) rfl rfl rfl) ?_
                        refine xg_t (xg_blk (b := [(204, 1, 2, 1, 0, 0), (205, 2, 4, 8, 0, 0), (207, 3, 6, 228, 4, 0), (210, 1, 0, 0, 0, 0), (211, 3, 1, 12, 0, 7), (214, 1, 2, 1, 0, 0), (215, 1, 0, 0, 0, 0), (216, 3, 1, 12, 12, 20), (219, 1, 2, 1, 0, 0), (220, 1, 10, 0, 0, 0), (221, 1, 17, 0, 0, 0), (222, 3, 9, 1, 1, 0), (225, 3, 8, 204, 0, 0)]) rfl) ?_
                        refine xg_t (xg_iload (va := (0, 5)) rfl rfl) ?_
                        refine xg_t (xg_bip) ?_
                        refine xg_t (xg_icF (u := 5) (v := 8) rfl xnm0 xnm0 (by decide)) ?_
                        refine xg_t (xg_aload (va := (2, 82)) rfl rfl) ?_
                        refine xg_t (xg_getf (va := (2, 83)) (hb537.get (by decide) (hb526.get (by decide) (hb515.get (by decide) (hb504.get (by decide) (hb493.get (by decide) h82_265))))) rfl) ?_
                        refine xg_t (xg_iload (va := (0, 5)) rfl rfl) ?_
                        refine xg_t (xg_aload (va := (2, 82)) rfl rfl) ?_
                        refine xg_t (xg_getf (va := (2, 86)) (hb537.get (by decide) (hb526.get (by decide) (hb515.get (by decide) (hb504.get (by decide) (hb493.get (by decide) h82_265))))) rfl) ?_
                        refine xg_t (xg_iload (va := (0, 5)) rfl rfl) ?_
                        refine xg_ialdB (n := 5) (B := 4294967295) (((((h86_277.but hb493 (by decide)).but hb504 (by decide)).but hb515 (by decide)).but hb526 (by decide)).but hb537 (by decide)) (hb278) xnm0 (by omega) (fun u543 hu544 he545 => ?_)
                        refine xg_iastK (n := 5) (u := u543) hr536 xnm0 xnm0 rfl (by omega) (fun w546 hr547 hb548 => ?_)
                        have hb549 : ∀ j, (fun j => if j = 5 then u543 else g539 j) j ≤ 4294967295 := xrb (by omega) (hb538)
                        obtain ⟨g550, hg551⟩ : ∃ g : Nat → Nat, g = (fun j => if j = 5 then u543 else g539 j) := ⟨_, rfl⟩
                        rw [← hg551] at hr547
                        have he552 : g550 5 = u543 := by rw [hg551]; exact if_pos rfl
                        have hk553 : ∀ j, j ≠ 5 → g550 j = g539 j := fun j hj => by rw [hg551]; exact if_neg hj
                        rw [← hg551] at hb549
                        refine xg_t (xg_iinc (u := 5) (z := 6) (l1 := [(0, (2, 82))]) rfl rfl (by decide) rfl) ?_
                        refine xg_t (xg_goto) ?_
                        refine xg_t (xg_blk (b := [(204, 1, 2, 1, 0, 0), (205, 2, 4, 8, 0, 0), (207, 3, 6, 228, 4, 0), (210, 1, 0, 0, 0, 0), (211, 3, 1, 12, 0, 7), (214, 1, 2, 1, 0, 0), (215, 1, 0, 0, 0, 0), (216, 3, 1, 12, 12, 20), (219, 1, 2, 1, 0, 0), (220, 1, 10, 0, 0, 0), (221, 1, 17, 0, 0, 0), (222, 3, 9, 1, 1, 0), (225, 3, 8, 204, 0, 0)]) rfl) ?_
                        refine xg_t (xg_iload (va := (0, 6)) rfl rfl) ?_
                        refine xg_t (xg_bip) ?_
                        refine xg_t (xg_icF (u := 6) (v := 8) rfl xnm0 xnm0 (by decide)) ?_
                        refine xg_t (xg_aload (va := (2, 82)) rfl rfl) ?_
                        refine xg_t (xg_getf (va := (2, 83)) (hb548.get (by decide) (hb537.get (by decide) (hb526.get (by decide) (hb515.get (by decide) (hb504.get (by decide) (hb493.get (by decide) h82_265)))))) rfl) ?_
                        refine xg_t (xg_iload (va := (0, 6)) rfl rfl) ?_
                        refine xg_t (xg_aload (va := (2, 82)) rfl rfl) ?_
                        refine xg_t (xg_getf (va := (2, 86)) (hb548.get (by decide) (hb537.get (by decide) (hb526.get (by decide) (hb515.get (by decide) (hb504.get (by decide) (hb493.get (by decide) h82_265)))))) rfl) ?_
                        refine xg_t (xg_iload (va := (0, 6)) rfl rfl) ?_
                        refine xg_ialdB (n := 6) (B := 4294967295) ((((((h86_277.but hb493 (by decide)).but hb504 (by decide)).but hb515 (by decide)).but hb526 (by decide)).but hb537 (by decide)).but hb548 (by decide)) (hb278) xnm0 (by omega) (fun u554 hu555 he556 => ?_)
                        refine xg_iastK (n := 6) (u := u554) hr547 xnm0 xnm0 rfl (by omega) (fun w557 hr558 hb559 => ?_)
                        have hb560 : ∀ j, (fun j => if j = 6 then u554 else g550 j) j ≤ 4294967295 := xrb (by omega) (hb549)
                        obtain ⟨g561, hg562⟩ : ∃ g : Nat → Nat, g = (fun j => if j = 6 then u554 else g550 j) := ⟨_, rfl⟩
                        rw [← hg562] at hr558
                        have he563 : g561 6 = u554 := by rw [hg562]; exact if_pos rfl
                        have hk564 : ∀ j, j ≠ 6 → g561 j = g550 j := fun j hj => by rw [hg562]; exact if_neg hj
                        rw [← hg562] at hb560
                        refine xg_t (xg_iinc (u := 6) (z := 7) (l1 := [(0, (2, 82))]) rfl rfl (by decide) rfl) ?_
                        refine xg_t (xg_goto) ?_
                        refine xg_t (xg_blk (b := [(204, 1, 2, 1, 0, 0), (205, 2, 4, 8, 0, 0), (207, 3, 6, 228, 4, 0), (210, 1, 0, 0, 0, 0), (211, 3, 1, 12, 0, 7), (214, 1, 2, 1, 0, 0), (215, 1, 0, 0, 0, 0), (216, 3, 1, 12, 12, 20), (219, 1, 2, 1, 0, 0), (220, 1, 10, 0, 0, 0), (221, 1, 17, 0, 0, 0), (222, 3, 9, 1, 1, 0), (225, 3, 8, 204, 0, 0)]) rfl) ?_
                        refine xg_t (xg_iload (va := (0, 7)) rfl rfl) ?_
                        refine xg_t (xg_bip) ?_
                        refine xg_t (xg_icF (u := 7) (v := 8) rfl xnm0 xnm0 (by decide)) ?_
                        refine xg_t (xg_aload (va := (2, 82)) rfl rfl) ?_
                        refine xg_t (xg_getf (va := (2, 83)) (hb559.get (by decide) (hb548.get (by decide) (hb537.get (by decide) (hb526.get (by decide) (hb515.get (by decide) (hb504.get (by decide) (hb493.get (by decide) h82_265))))))) rfl) ?_
                        refine xg_t (xg_iload (va := (0, 7)) rfl rfl) ?_
                        refine xg_t (xg_aload (va := (2, 82)) rfl rfl) ?_
                        refine xg_t (xg_getf (va := (2, 86)) (hb559.get (by decide) (hb548.get (by decide) (hb537.get (by decide) (hb526.get (by decide) (hb515.get (by decide) (hb504.get (by decide) (hb493.get (by decide) h82_265))))))) rfl) ?_
                        refine xg_t (xg_iload (va := (0, 7)) rfl rfl) ?_
                        refine xg_ialdB (n := 7) (B := 4294967295) (((((((h86_277.but hb493 (by decide)).but hb504 (by decide)).but hb515 (by decide)).but hb526 (by decide)).but hb537 (by decide)).but hb548 (by decide)).but hb559 (by decide)) (hb278) xnm0 (by omega) (fun u565 hu566 he567 => ?_)
                        refine xg_iastK (n := 7) (u := u565) hr558 xnm0 xnm0 rfl (by omega) (fun w568 hr569 hb570 => ?_)
                        have hb571 : ∀ j, (fun j => if j = 7 then u565 else g561 j) j ≤ 4294967295 := xrb (by omega) (hb560)
                        obtain ⟨g572, hg573⟩ : ∃ g : Nat → Nat, g = (fun j => if j = 7 then u565 else g561 j) := ⟨_, rfl⟩
                        rw [← hg573] at hr569
                        have he574 : g572 7 = u565 := by rw [hg573]; exact if_pos rfl
                        have hk575 : ∀ j, j ≠ 7 → g572 j = g561 j := fun j hj => by rw [hg573]; exact if_neg hj
                        rw [← hg573] at hb571
                        refine xg_t (xg_iinc (u := 7) (z := 8) (l1 := [(0, (2, 82))]) rfl rfl (by decide) rfl) ?_
                        refine xg_t (xg_goto) ?_
                        refine xg_t (xg_blk (b := [(204, 1, 2, 1, 0, 0), (205, 2, 4, 8, 0, 0), (207, 3, 6, 228, 4, 0), (210, 1, 0, 0, 0, 0), (211, 3, 1, 12, 0, 7), (214, 1, 2, 1, 0, 0), (215, 1, 0, 0, 0, 0), (216, 3, 1, 12, 12, 20), (219, 1, 2, 1, 0, 0), (220, 1, 10, 0, 0, 0), (221, 1, 17, 0, 0, 0), (222, 3, 9, 1, 1, 0), (225, 3, 8, 204, 0, 0)]) rfl) ?_
                        refine xg_t (xg_iload (va := (0, 8)) rfl rfl) ?_
                        refine xg_t (xg_bip) ?_
                        refine xg_t (xg_icF (u := 8) (v := 8) rfl xnm0 xnm0 (by decide)) ?_
                        refine xg_t (xg_aload (va := (2, 82)) rfl rfl) ?_
                        refine xg_t (xg_getf (va := (2, 83)) (hb570.get (by decide) (hb559.get (by decide) (hb548.get (by decide) (hb537.get (by decide) (hb526.get (by decide) (hb515.get (by decide) (hb504.get (by decide) (hb493.get (by decide) h82_265)))))))) rfl) ?_
                        refine xg_t (xg_iload (va := (0, 8)) rfl rfl) ?_
                        refine xg_t (xg_aload (va := (2, 82)) rfl rfl) ?_
                        refine xg_t (xg_getf (va := (2, 86)) (hb570.get (by decide) (hb559.get (by decide) (hb548.get (by decide) (hb537.get (by decide) (hb526.get (by decide) (hb515.get (by decide) (hb504.get (by decide) (hb493.get (by decide) h82_265)))))))) rfl) ?_
                        refine xg_t (xg_iload (va := (0, 8)) rfl rfl) ?_
                        refine xg_ialdB (n := 8) (B := 4294967295) ((((((((h86_277.but hb493 (by decide)).but hb504 (by decide)).but hb515 (by decide)).but hb526 (by decide)).but hb537 (by decide)).but hb548 (by decide)).but hb559 (by decide)).but hb570 (by decide)) (hb278) xnm0 (by omega) (fun u576 hu577 he578 => ?_)
                        refine xg_iastK (n := 8) (u := u576) hr569 xnm0 xnm0 rfl (by omega) (fun w579 hr580 hb581 => ?_)
                        have hb582 : ∀ j, (fun j => if j = 8 then u576 else g572 j) j ≤ 4294967295 := xrb (by omega) (hb571)
                        obtain ⟨g583, hg584⟩ : ∃ g : Nat → Nat, g = (fun j => if j = 8 then u576 else g572 j) := ⟨_, rfl⟩
                        rw [← hg584] at hr580
                        have he585 : g583 8 = u576 := by rw [hg584]; exact if_pos rfl
                        have hk586 : ∀ j, j ≠ 8 → g583 j = g572 j := fun j hj => by rw [hg584]; exact if_neg hj
                        rw [← hg584] at hb582
                        refine xg_t (xg_iinc (u := 8) (z := 9) (l1 := [(0, (2, 82))]) rfl rfl (by decide) rfl) ?_
                        refine xg_t (xg_goto) ?_
                        refine xg_t (xg_blk (b := [(204, 1, 2, 1, 0, 0), (205, 2, 4, 8, 0, 0), (207, 3, 6, 228, 4, 0), (210, 1, 0, 0, 0, 0), (211, 3, 1, 12, 0, 7), (214, 1, 2, 1, 0, 0), (215, 1, 0, 0, 0, 0), (216, 3, 1, 12, 12, 20), (219, 1, 2, 1, 0, 0), (220, 1, 10, 0, 0, 0), (221, 1, 17, 0, 0, 0), (222, 3, 9, 1, 1, 0), (225, 3, 8, 204, 0, 0)]) rfl) ?_
                        refine xg_t (xg_iload (va := (0, 9)) rfl rfl) ?_
                        refine xg_t (xg_bip) ?_
                        refine xg_t (xg_icT (u := 9) (v := 8) rfl xnm0 xnm0 (by decide)) ?_
                        refine xg_t (xg_blk (b := [(228, 2, 4, 20, 0, 0), (230, 1, 15, 1, 0, 0)]) rfl) ?_
                        refine xg_t (xg_bip) ?_
                        refine xg_t (xg_istore (l1 := [(0, (2, 82))]) rfl rfl rfl) ?_
                        refine xg_t (xg_drop (l1 := [(0, (2, 82)), (1, (0, 20))]) (List.forall_mem_cons.mpr ⟨List.mem_cons_of_mem _ (List.mem_cons_self), List.forall_mem_cons.mpr ⟨List.mem_cons_self, fun _ h => absurd h List.not_mem_nil⟩⟩)) ?_
                        refine cpFilm 120 20 w579 g583 (by decide) hr580 hb582 (((((((((h86_277.but hb493 (by decide)).but hb504 (by decide)).but hb515 (by decide)).but hb526 (by decide)).but hb537 (by decide)).but hb548 (by decide)).but hb559 (by decide)).but hb570 (by decide)).but hb581 (by decide)) hb278 (hb581.get (by decide) (hb570.get (by decide) (hb559.get (by decide) (hb548.get (by decide) (hb537.get (by decide) (hb526.get (by decide) (hb515.get (by decide) (hb504.get (by decide) (hb493.get (by decide) h82_265))))))))) (fun w587 g588 hc589 hc590 hc591 hc592 hc593 => ?_)
                        refine xg_t (xg_blk (b := [(256, 1, 0, 0, 0, 0), (257, 3, 1, 12, 0, 7), (260, 2, 4, 9, 0, 0), (262, 1, 3, 0, 0, 0), (263, 1, 17, 0, 0, 0), (264, 1, 0, 0, 0, 0), (265, 3, 1, 12, 0, 7), (268, 2, 4, 10, 0, 0), (270, 1, 3, 0, 0, 0), (271, 1, 17, 0, 0, 0), (272, 1, 0, 0, 0, 0), (273, 3, 1, 12, 0, 7), (276, 2, 4, 14, 0, 0), (278, 1, 0, 0, 0, 0), (279, 3, 1, 12, 14, 212), (282, 1, 17, 0, 0, 0), (283, 1, 0, 0, 0, 0), (284, 3, 1, 12, 14, 212), (287, 1, 12, 0, 1, 0)]) rfl) ?_
                        refine xg_t (xg_aload (va := (2, 82)) rfl rfl) ?_
                        refine xg_t (xg_getf (va := (2, 83)) (hc591.get (by decide) (hb581.get (by decide) (hb570.get (by decide) (hb559.get (by decide) (hb548.get (by decide) (hb537.get (by decide) (hb526.get (by decide) (hb515.get (by decide) (hb504.get (by decide) (hb493.get (by decide) h82_265)))))))))) rfl) ?_
                        refine xg_t (xg_bip) ?_
                        refine xg_t (xg_const) ?_
                        refine xg_iastK (n := 9) (u := 0) hc589 xnm0 xnm0 rfl (by omega) (fun w594 hr595 hb596 => ?_)
                        have hb597 : ∀ j, (fun j => if j = 9 then 0 else g588 j) j ≤ 4294967295 := xrb (by omega) (hc590)
                        obtain ⟨g598, hg599⟩ : ∃ g : Nat → Nat, g = (fun j => if j = 9 then 0 else g588 j) := ⟨_, rfl⟩
                        rw [← hg599] at hr595
                        have he600 : g598 9 = 0 := by rw [hg599]; exact if_pos rfl
                        have hk601 : ∀ j, j ≠ 9 → g598 j = g588 j := fun j hj => by rw [hg599]; exact if_neg hj
                        rw [← hg599] at hb597
                        refine xg_t (xg_aload (va := (2, 82)) rfl rfl) ?_
                        refine xg_t (xg_getf (va := (2, 83)) (hb596.get (by decide) (hc591.get (by decide) (hb581.get (by decide) (hb570.get (by decide) (hb559.get (by decide) (hb548.get (by decide) (hb537.get (by decide) (hb526.get (by decide) (hb515.get (by decide) (hb504.get (by decide) (hb493.get (by decide) h82_265))))))))))) rfl) ?_
                        refine xg_t (xg_bip) ?_
                        refine xg_t (xg_const) ?_
                        refine xg_iastK (n := 10) (u := 0) hr595 xnm0 xnm0 rfl (by omega) (fun w602 hr603 hb604 => ?_)
                        have hb605 : ∀ j, (fun j => if j = 10 then 0 else g598 j) j ≤ 4294967295 := xrb (by omega) (hb597)
                        obtain ⟨g606, hg607⟩ : ∃ g : Nat → Nat, g = (fun j => if j = 10 then 0 else g598 j) := ⟨_, rfl⟩
                        rw [← hg607] at hr603
                        have he608 : g606 10 = 0 := by rw [hg607]; exact if_pos rfl
                        have hk609 : ∀ j, j ≠ 10 → g606 j = g598 j := fun j hj => by rw [hg607]; exact if_neg hj
                        rw [← hg607] at hb605
                        refine xg_t (xg_aload (va := (2, 82)) rfl rfl) ?_
                        refine xg_t (xg_getf (va := (2, 83)) (hb604.get (by decide) (hb596.get (by decide) (hc591.get (by decide) (hb581.get (by decide) (hb570.get (by decide) (hb559.get (by decide) (hb548.get (by decide) (hb537.get (by decide) (hb526.get (by decide) (hb515.get (by decide) (hb504.get (by decide) (hb493.get (by decide) h82_265)))))))))))) rfl) ?_
                        refine xg_t (xg_bip) ?_
                        refine xg_t (xg_aload (va := (2, 82)) rfl rfl) ?_
                        refine xg_t (xg_getf (va := (0, f82_253)) (hb604.get (by decide) (hb596.get (by decide) (hc591.get (by decide) (hb581.get (by decide) (hb570.get (by decide) (hb559.get (by decide) (hb548.get (by decide) (hb537.get (by decide) (hb526.get (by decide) (hb515.get (by decide) (hb504.get (by decide) (hb493.get (by decide) h82_265)))))))))))) rfl) ?_
                        refine xg_iastK (n := 14) (u := f82_253) hr603 xnm0 xnm0 rfl (by omega) (fun w610 hr611 hb612 => ?_)
                        have hb613 : ∀ j, (fun j => if j = 14 then f82_253 else g606 j) j ≤ 4294967295 := xrb (by omega) (hb605)
                        obtain ⟨g614, hg615⟩ : ∃ g : Nat → Nat, g = (fun j => if j = 14 then f82_253 else g606 j) := ⟨_, rfl⟩
                        rw [← hg615] at hr611
                        have he616 : g614 14 = f82_253 := by rw [hg615]; exact if_pos rfl
                        have hk617 : ∀ j, j ≠ 14 → g614 j = g606 j := fun j hj => by rw [hg615]; exact if_neg hj
                        rw [← hg615] at hb613
                        have hq618 : g614 0 = u488 := by rw [hk617 0 (by omega), hk609 0 (by omega), hk601 0 (by omega), hc593 0 (by omega), hk586 0 (by omega), hk575 0 (by omega), hk564 0 (by omega), hk553 0 (by omega), hk542 0 (by omega), hk531 0 (by omega), hk520 0 (by omega), hk509 0 (by omega), he497]
                        have hq619 : g614 1 = u499 := by rw [hk617 1 (by omega), hk609 1 (by omega), hk601 1 (by omega), hc593 1 (by omega), hk586 1 (by omega), hk575 1 (by omega), hk564 1 (by omega), hk553 1 (by omega), hk542 1 (by omega), hk531 1 (by omega), hk520 1 (by omega), he508]
                        have hq620 : g614 2 = u510 := by rw [hk617 2 (by omega), hk609 2 (by omega), hk601 2 (by omega), hc593 2 (by omega), hk586 2 (by omega), hk575 2 (by omega), hk564 2 (by omega), hk553 2 (by omega), hk542 2 (by omega), hk531 2 (by omega), he519]
                        have hq621 : g614 3 = u521 := by rw [hk617 3 (by omega), hk609 3 (by omega), hk601 3 (by omega), hc593 3 (by omega), hk586 3 (by omega), hk575 3 (by omega), hk564 3 (by omega), hk553 3 (by omega), hk542 3 (by omega), he530]
                        have hq622 : g614 4 = u532 := by rw [hk617 4 (by omega), hk609 4 (by omega), hk601 4 (by omega), hc593 4 (by omega), hk586 4 (by omega), hk575 4 (by omega), hk564 4 (by omega), hk553 4 (by omega), he541]
                        have hq623 : g614 5 = u543 := by rw [hk617 5 (by omega), hk609 5 (by omega), hk601 5 (by omega), hc593 5 (by omega), hk586 5 (by omega), hk575 5 (by omega), hk564 5 (by omega), he552]
                        have hq624 : g614 6 = u554 := by rw [hk617 6 (by omega), hk609 6 (by omega), hk601 6 (by omega), hc593 6 (by omega), hk586 6 (by omega), hk575 6 (by omega), he563]
                        have hq625 : g614 7 = u565 := by rw [hk617 7 (by omega), hk609 7 (by omega), hk601 7 (by omega), hc593 7 (by omega), hk586 7 (by omega), he574]
                        have hq626 : g614 8 = u576 := by rw [hk617 8 (by omega), hk609 8 (by omega), hk601 8 (by omega), hc593 8 (by omega), he585]
                        have hq627 : g614 9 = 0 := by rw [hk617 9 (by omega), hk609 9 (by omega), he600]
                        have hq628 : g614 10 = 0 := by rw [hk617 10 (by omega), he608]
                        have hq629 : ∀ j, 20 ≤ j → j < 140 → g614 j = g86_276 j := fun j h1 h2 => by rw [hk617 j (by omega), hk609 j (by omega), hk601 j (by omega)]; exact hc592 j h1 h2
                        have hq630 : ∀ j, 140 ≤ j ∨ j = 13 ∨ j = 15 → g614 j = g83_267 j := fun j hj => by rw [hk617 j (by omega), hk609 j (by omega), hk601 j (by omega), hc593 j (by omega), hk586 j (by omega), hk575 j (by omega), hk564 j (by omega), hk553 j (by omega), hk542 j (by omega), hk531 j (by omega), hk520 j (by omega), hk509 j (by omega), hk498 j (by omega)]
                        have hx631 : okA g614 := film_ok hx270 hdt (by omega) (by omega) (by omega) (by omega) (by omega) (by omega) (by omega) (by omega) (by omega) (by omega) (by omega) hq629 hq630
                        refine xg_t (xg_aload (va := (2, 82)) rfl rfl) ?_
                        refine xg_t (xg_getf (va := (0, f82_253)) (hb612.get (by decide) (hb604.get (by decide) (hb596.get (by decide) (hc591.get (by decide) (hb581.get (by decide) (hb570.get (by decide) (hb559.get (by decide) (hb548.get (by decide) (hb537.get (by decide) (hb526.get (by decide) (hb515.get (by decide) (hb504.get (by decide) (hb493.get (by decide) h82_265))))))))))))) rfl) ?_
                        exact xg_e ⟨f82_253, w610, ⟨rfl, rfl⟩, by omega, xMnv.up (S := [83]) hI228 (((((((((((((xFr.of (S := [83]) hb493 (by decide)).tr (xFr.of (S := [83]) hb504 (by decide))).tr (xFr.of (S := [83]) hb515 (by decide))).tr (xFr.of (S := [83]) hb526 (by decide))).tr (xFr.of (S := [83]) hb537 (by decide))).tr (xFr.of (S := [83]) hb548 (by decide))).tr (xFr.of (S := [83]) hb559 (by decide))).tr (xFr.of (S := [83]) hb570 (by decide))).tr (xFr.of (S := [83]) hb581 (by decide))).tr (xFr.of (S := [83]) hc591 (by decide))).tr (xFr.of (S := [83]) hb596 (by decide))).tr (xFr.of (S := [83]) hb604 (by decide))).tr (xFr.of (S := [83]) hb612 (by decide))) (List.forall_mem_cons.mpr ⟨(show cpx83 (wget w610 83) from ⟨_, hr611, hb613, hx631⟩), fun _ h => absurd h List.not_mem_nil⟩), (hF229.tr (((((((((((((xFr.of (S := [82, 83, 85, 86, 87]) hb493 (by decide)).tr (xFr.of (S := [82, 83, 85, 86, 87]) hb504 (by decide))).tr (xFr.of (S := [82, 83, 85, 86, 87]) hb515 (by decide))).tr (xFr.of (S := [82, 83, 85, 86, 87]) hb526 (by decide))).tr (xFr.of (S := [82, 83, 85, 86, 87]) hb537 (by decide))).tr (xFr.of (S := [82, 83, 85, 86, 87]) hb548 (by decide))).tr (xFr.of (S := [82, 83, 85, 86, 87]) hb559 (by decide))).tr (xFr.of (S := [82, 83, 85, 86, 87]) hb570 (by decide))).tr (xFr.of (S := [82, 83, 85, 86, 87]) hb581 (by decide))).tr (xFr.of (S := [82, 83, 85, 86, 87]) hc591 (by decide))).tr (xFr.of (S := [82, 83, 85, 86, 87]) hb596 (by decide))).tr (xFr.of (S := [82, 83, 85, 86, 87]) hb604 (by decide))).tr (xFr.of (S := [82, 83, 85, 86, 87]) hb612 (by decide))))⟩
                      · refine xg_t (xg_ifF (u := u484) rfl xnm0 (xj_eqF hc487)) ?_
                        refine xg_t (xg_const) ?_
                        exact xg_e ⟨4294967295, w227, ⟨rfl, rfl⟩, by omega, hI228, hF229⟩
                exact key224 _ 0 w175 (Nat.lt_succ_self _) (by omega) (hI176) (hF177) (⟨hz180, hz183⟩)
              · refine xg_t (xg_ifF (u := f82_194) rfl xnm0 (xj_eqF hc223)) ?_
                refine xg_t (xg_aload (va := (2, 82)) rfl rfl) ?_
                refine xg_cVv mX12_aLine (vs := []) (rest := []) (cn1 := 0) (sl1 := 0) rfl (mALine (hI176) hz180 (fun s hs => by have q := hz182 s hs; omega) (by omega)) rfl h82_214 rfl rfl rfl rfl rfl rfl (fun w632 hq633 => ?_)
                obtain ⟨hI634, hF635, hx636⟩ := hq633
                obtain ⟨ha637, ha638, ha639, ha640⟩ := hx636
                have hM641 : ∀ s, s < 7 → rwv w632 85 s ≤ fld w632 82 14 := fun s hs => by
                  have q := hz182 s hs
                  rcases ha639 with ⟨c1, c2, c3, c4⟩ | ⟨c1, c2, c3⟩
                  · have := c4 s hs; omega
                  · have := c3 s hs; omega
                have hD642 : FA w632 ≠ 0 ∨ DATA w632 := by
                  rcases hz183 with q | q
                  · exact Or.inl (ha637 q)
                  · rcases ha640 with r | r
                    · exact Or.inl r
                    · exact Or.inr (r q)
                refine xg_t (xg_goto) ?_
                exact ih173 w632 (by rcases ha639 with ⟨c1, c2, c3, -⟩ | ⟨c1, c2, -⟩ <;> omega) (hI634) ((hF177.tr (hF635.up (by decide)))) (⟨ha638, by rcases ha639 with ⟨c1, c2, c3, -⟩ | ⟨c1, c2, -⟩ <;> omega, hM641, hD642⟩)
            · refine xg_t (xg_ifT (u := f82_200) rfl xnm0 (xj_neT hc222)) ?_
              refine xg_t (xg_blk (b := [(82, 1, 3, 0, 0, 0), (83, 1, 15, 1, 0, 0)]) rfl) ?_
              refine xg_t (xg_const) ?_
              refine xg_t (xg_istore (l1 := [(0, (2, 82))]) rfl rfl rfl) ?_
              refine xg_t (xg_drop (l1 := [(0, (2, 82)), (1, (0, 0))]) (List.forall_mem_cons.mpr ⟨List.mem_cons_of_mem _ (List.mem_cons_self), List.forall_mem_cons.mpr ⟨List.mem_cons_self, fun _ h => absurd h List.not_mem_nil⟩⟩)) ?_
              have key643 : ∀ (m645 : Nat) (kf : Nat) (w646 : List (List xE)), 20 - kf < m645 → kf ≤ 20 → xMnv w646 → xFr [82, 83, 85, 86, 87] w w646 → (PS w646 ∧ (FA w646 ≠ 0 ∨ DATA w646)) → xTo (d + 8) mX12_film (84, [], [(0, (2, 82)), (1, (0, kf))], [], (w646, bd, fc, 0, 0, rr)) (fun φ => ∃ n w', xEnd 1 [(0, n)] (w', bd, fc, 0, 0, rr) φ ∧ (n ≤ 4294967295) ∧ xMnv w' ∧ xFr [82, 83, 85, 86, 87] w w') := by
                intro m645
                induction m645 with
                | zero => intro kf w646 hz; exact absurd hz (Nat.not_lt_zero _)
                | succ m645 ih644 =>
                  intro kf w646 hm651 hn649 hI647 hF648 he650
                  obtain ⟨hz652, hz653⟩ := he650
                  unfold PS at hz652
                  obtain ⟨f82_654, f82_656, f82_658, f82_660, f82_662, f82_664, f82_666, f82_668, f82_670, f82_672, f82_674, f82_675, f82_676, f82_678, f82_680, f82_682, h82_684, hb655, hb657, hb659, hb661, hb663, hb665, hb667, hb669, hb671, hb673, hb677, hb679, hb681, hb683, hb685⟩ := (hI647 82 (by decide) (by decide) : cp82 (wget w646 82))
                  obtain ⟨g83_686, h83_687, hb688, hx689⟩ := (hI647 83 (by decide) (by decide) : cpx83 (wget w646 83))
                  have h83_687 : xRow w646 83 5360 50 g83_686 := h83_687
                  have hf690 : fld w646 82 10 = f82_670 := fld_of h82_684
                  have hA691 : FA w646 = g83_686 16 := rwv_of h83_687 (by decide)
                  obtain ⟨g85_692, h85_693, hb694⟩ := (hI647 85 (by decide) (by decide) : cpI 7 52 4294967295 (wget w646 85))
                  have h85_693 : xRow w646 85 7 52 g85_692 := h85_693
                  obtain ⟨g86_695, h86_696, hb697⟩ := (hI647 86 (by decide) (by decide) : cpI 140 53 4294967295 (wget w646 86))
                  have h86_696 : xRow w646 86 140 53 g86_695 := h86_696
                  obtain ⟨g87_698, h87_699, hb700⟩ := (hI647 87 (by decide) (by decide) : cpI 20 54 4294967295 (wget w646 87))
                  have h87_699 : xRow w646 87 20 54 g87_698 := h87_699
                  have hm701 : rwv w646 85 4 = g85_692 4 := rwv_of h85_693 (by decide)
                  refine xg_t (xg_blk (b := [(84, 1, 2, 1, 0, 0), (85, 1, 0, 0, 0, 0), (86, 3, 1, 12, 11, 17), (89, 1, 3, 4, 0, 0), (90, 1, 10, 0, 0, 0), (91, 3, 6, 165, 3, 0), (94, 1, 0, 0, 0, 0), (95, 3, 1, 12, 0, 7), (98, 2, 4, 16, 0, 0), (100, 1, 10, 0, 0, 0), (101, 3, 7, 165, 1, 0), (104, 1, 0, 0, 0, 0), (105, 3, 1, 12, 12, 20), (108, 2, 4, 100, 0, 0), (110, 1, 3, 2, 0, 0), (111, 1, 2, 1, 0, 0), (112, 1, 16, 0, 0, 0), (113, 1, 11, 0, 0, 0), (114, 1, 10, 0, 0, 0), (115, 1, 0, 0, 0, 0), (116, 3, 1, 12, 12, 20), (119, 2, 4, 7, 0, 0), (121, 1, 10, 0, 0, 0), (122, 3, 6, 148, 3, 0), (125, 1, 0, 0, 0, 0), (126, 3, 1, 12, 12, 20), (129, 2, 4, 100, 0, 0), (131, 1, 3, 2, 0, 0), (132, 1, 2, 1, 0, 0), (133, 1, 16, 0, 0, 0), (134, 1, 11, 0, 0, 0), (135, 1, 3, 1, 0, 0), (136, 1, 11, 0, 0, 0), (137, 1, 10, 0, 0, 0), (138, 1, 0, 0, 0, 0), (139, 3, 1, 12, 12, 20), (142, 2, 4, 8, 0, 0), (144, 1, 10, 0, 0, 0), (145, 3, 6, 159, 2, 0)]) rfl) ?_
                  refine xg_t (xg_iload (va := (0, kf)) rfl rfl) ?_
                  refine xg_t (xg_aload (va := (2, 82)) rfl rfl) ?_
                  refine xg_t (xg_getf (va := (2, 85)) h82_684 rfl) ?_
                  refine xg_t (xg_const) ?_
                  refine xg_ialdB (n := 4) (B := 4294967295) h85_693 (hb694) xnm0 (by omega) (fun u702 hu703 he704 => ?_)
                  by_cases hc705 : xbs kf < xbs u702
                  · have hc705u := hc705
                    unfold xbs at hc705u
                    have hn706 : kf ≤ 20 := by omega
                    have hn707 : u702 ≤ 2147483647 := by omega
                    refine xg_t (xg_icF (u := kf) (v := u702) rfl xnm0 xnm0 (xjs_geF hc705)) ?_
                    refine xg_t (xg_aload (va := (2, 82)) rfl rfl) ?_
                    refine xg_t (xg_getf (va := (2, 83)) h82_684 rfl) ?_
                    refine xg_t (xg_bip) ?_
                    refine xg_ialdB (n := 16) (B := 4294967295) h83_687 (hb688) xnm0 (by omega) (fun u708 hu709 he710 => ?_)
                    by_cases hc711 : u708 = 0
                    · refine xg_t (xg_ifF (u := u708) rfl xnm0 (xj_neF hc711)) ?_
                      refine xg_t (xg_aload (va := (2, 82)) rfl rfl) ?_
                      have hD712 := (hz653.resolve_left (by omega)).2.2.2.2.1
                      have hl713 : kf ≤ 19 := by omega
                      refine xg_t (xg_getf (va := (2, 86)) h82_684 rfl) ?_
                      refine xg_t (xg_bip) ?_
                      refine xg_t (xg_const) ?_
                      refine xg_t (xg_iload (va := (0, kf)) rfl rfl) ?_
                      refine xg_t (xg_imul (u := 2) (v := kf) (z := 2 * kf) xnm0 xnm0 (by omega)) ?_
                      refine xg_t (xg_iadd (u := 100) (v := 2 * kf) (z := 100 + (2 * kf)) xnm0 xnm0 (by omega)) ?_
                      refine xg_ialdB (n := 100 + (2 * kf)) (B := 4294967295) h86_696 (hb697) xnm0 (by omega) (fun u714 hu715 he716 => ?_)
                      refine xg_t (xg_aload (va := (2, 82)) rfl rfl) ?_
                      refine xg_t (xg_getf (va := (2, 86)) h82_684 rfl) ?_
                      refine xg_t (xg_bip) ?_
                      refine xg_ialdB (n := 7) (B := 4294967295) h86_696 (hb697) xnm0 (by omega) (fun u717 hu718 he719 => ?_)
                      by_cases hc720 : xbs u714 < xbs u717
                      · have hc720u := hc720
                        unfold xbs at hc720u
                        refine xg_t (xg_icF (u := u714) (v := u717) rfl xnm0 xnm0 (xjs_geF hc720)) ?_
                        refine xg_t (xg_aload (va := (2, 82)) rfl rfl) ?_
                        refine xg_t (xg_getf (va := (2, 86)) h82_684 rfl) ?_
                        refine xg_t (xg_bip) ?_
                        refine xg_t (xg_const) ?_
                        refine xg_t (xg_iload (va := (0, kf)) rfl rfl) ?_
                        refine xg_t (xg_imul (u := 2) (v := kf) (z := 2 * kf) xnm0 xnm0 (by omega)) ?_
                        refine xg_t (xg_iadd (u := 100) (v := 2 * kf) (z := 100 + (2 * kf)) xnm0 xnm0 (by omega)) ?_
                        refine xg_t (xg_const) ?_
                        refine xg_t (xg_iadd (u := 100 + (2 * kf)) (v := 1) (z := (100 + (2 * kf)) + 1) xnm0 xnm0 (by omega)) ?_
                        refine xg_ialdB (n := (100 + (2 * kf)) + 1) (B := 4294967295) h86_696 (hb697) xnm0 (by omega) (fun u721 hu722 he723 => ?_)
                        refine xg_t (xg_aload (va := (2, 82)) rfl rfl) ?_
                        refine xg_t (xg_getf (va := (2, 86)) h82_684 rfl) ?_
                        refine xg_t (xg_bip) ?_
                        refine xg_ialdB (n := 8) (B := 4294967295) h86_696 (hb697) xnm0 (by omega) (fun u724 hu725 he726 => ?_)
                        by_cases hc727 : xbs u721 < xbs u724
                        · have hc727u := hc727
                          unfold xbs at hc727u
                          refine xg_t (xg_icT (u := u721) (v := u724) rfl xnm0 xnm0 (xjs_ltT hc727)) ?_
                          refine xg_t (xg_blk (b := [(159, 3, 9, 1, 1, 0), (162, 3, 8, 84, 0, 0)]) rfl) ?_
                          refine xg_t (xg_iinc (u := kf) (z := kf + 1) (l1 := [(0, (2, 82))]) rfl rfl (by omega) rfl) ?_
                          refine xg_t (xg_goto) ?_
                          refine xg_t (xg_drop (l1 := [(0, (2, 82)), (1, (0, kf + 1))]) (List.forall_mem_cons.mpr ⟨List.mem_cons_of_mem _ (List.mem_cons_self), List.forall_mem_cons.mpr ⟨List.mem_cons_self, fun _ h => absurd h List.not_mem_nil⟩⟩)) ?_
                          exact ih644 (kf + 1) w646 (by omega) (by omega) (hI647) (hF648) (⟨(show fld w646 82 10 = 0 ∨ FA w646 ≠ 0 by omega), hz653⟩)
                        · have hc727u := hc727
                          unfold xbs at hc727u
                          refine xg_t (xg_icF (u := u721) (v := u724) rfl xnm0 xnm0 (xjs_ltF hc727)) ?_
                          refine xg_t (xg_blk (b := [(148, 1, 0, 0, 0, 0), (149, 1, 3, 4, 0, 0), (150, 1, 0, 0, 0, 0), (151, 3, 1, 12, 13, 23), (154, 1, 2, 1, 0, 0), (155, 1, 10, 0, 0, 0), (156, 3, 13, 115, 96, 186)]) rfl) ?_
                          refine xg_t (xg_aload (va := (2, 82)) rfl rfl) ?_
                          refine xg_t (xg_const) ?_
                          refine xg_t (xg_aload (va := (2, 82)) rfl rfl) ?_
                          refine xg_t (xg_getf (va := (2, 87)) h82_684 rfl) ?_
                          refine xg_t (xg_iload (va := (0, kf)) rfl rfl) ?_
                          refine xg_ialdB (n := kf) (B := 4294967295) h87_699 (hb700) xnm0 (by omega) (fun u728 hu729 he730 => ?_)
                          refine xg_cVv mX12_also (vs := [(0, 4), (0, u728)]) (rest := []) (cn1 := 0) (sl1 := 0) rfl (mAlso (hI647) (by omega) (by omega) (by omega) (show fld w646 82 10 = 0 ∨ FA w646 ≠ 0 by omega)) rfl h82_684 rfl rfl rfl rfl rfl rfl (fun w731 hq732 => ?_)
                          obtain ⟨hI733, hF734, hx735⟩ := hq732
                          have hv736 := hx735
                          have hf737 := fld_fr (c := 82) (j := 7) hF734 (by decide)
                          have hf738 := fld_fr (c := 82) (j := 10) hF734 (by decide)
                          have hf739 := fld_fr (c := 82) (j := 14) hF734 (by decide)
                          have hf740 := mu_fr hF734 (by decide)
                          refine xg_t (xg_blk (b := [(159, 3, 9, 1, 1, 0), (162, 3, 8, 84, 0, 0)]) rfl) ?_
                          refine xg_t (xg_iinc (u := kf) (z := kf + 1) (l1 := [(0, (2, 82))]) rfl rfl (by omega) rfl) ?_
                          refine xg_t (xg_goto) ?_
                          refine xg_t (xg_drop (l1 := [(0, (2, 82)), (1, (0, kf + 1))]) (List.forall_mem_cons.mpr ⟨List.mem_cons_of_mem _ (List.mem_cons_self), List.forall_mem_cons.mpr ⟨List.mem_cons_self, fun _ h => absurd h List.not_mem_nil⟩⟩)) ?_
                          exact ih644 (kf + 1) w731 (by omega) (by omega) (hI733) ((hF648.tr (hF734.up (by decide)))) (⟨(show fld w731 82 10 = 0 ∨ FA w731 ≠ 0 by omega), Or.inl (by omega)⟩)
                      · have hc720u := hc720
                        unfold xbs at hc720u
                        refine xg_t (xg_icT (u := u714) (v := u717) rfl xnm0 xnm0 (xjs_geT hc720)) ?_
                        refine xg_t (xg_blk (b := [(148, 1, 0, 0, 0, 0), (149, 1, 3, 4, 0, 0), (150, 1, 0, 0, 0, 0), (151, 3, 1, 12, 13, 23), (154, 1, 2, 1, 0, 0), (155, 1, 10, 0, 0, 0), (156, 3, 13, 115, 96, 186)]) rfl) ?_
                        refine xg_t (xg_aload (va := (2, 82)) rfl rfl) ?_
                        refine xg_t (xg_const) ?_
                        refine xg_t (xg_aload (va := (2, 82)) rfl rfl) ?_
                        refine xg_t (xg_getf (va := (2, 87)) h82_684 rfl) ?_
                        refine xg_t (xg_iload (va := (0, kf)) rfl rfl) ?_
                        refine xg_ialdB (n := kf) (B := 4294967295) h87_699 (hb700) xnm0 (by omega) (fun u741 hu742 he743 => ?_)
                        refine xg_cVv mX12_also (vs := [(0, 4), (0, u741)]) (rest := []) (cn1 := 0) (sl1 := 0) rfl (mAlso (hI647) (by omega) (by omega) (by omega) (show fld w646 82 10 = 0 ∨ FA w646 ≠ 0 by omega)) rfl h82_684 rfl rfl rfl rfl rfl rfl (fun w744 hq745 => ?_)
                        obtain ⟨hI746, hF747, hx748⟩ := hq745
                        have hv749 := hx748
                        have hf750 := fld_fr (c := 82) (j := 7) hF747 (by decide)
                        have hf751 := fld_fr (c := 82) (j := 10) hF747 (by decide)
                        have hf752 := fld_fr (c := 82) (j := 14) hF747 (by decide)
                        have hf753 := mu_fr hF747 (by decide)
                        refine xg_t (xg_blk (b := [(159, 3, 9, 1, 1, 0), (162, 3, 8, 84, 0, 0)]) rfl) ?_
                        refine xg_t (xg_iinc (u := kf) (z := kf + 1) (l1 := [(0, (2, 82))]) rfl rfl (by omega) rfl) ?_
                        refine xg_t (xg_goto) ?_
                        refine xg_t (xg_drop (l1 := [(0, (2, 82)), (1, (0, kf + 1))]) (List.forall_mem_cons.mpr ⟨List.mem_cons_of_mem _ (List.mem_cons_self), List.forall_mem_cons.mpr ⟨List.mem_cons_self, fun _ h => absurd h List.not_mem_nil⟩⟩)) ?_
                        exact ih644 (kf + 1) w744 (by omega) (by omega) (hI746) ((hF648.tr (hF747.up (by decide)))) (⟨(show fld w744 82 10 = 0 ∨ FA w744 ≠ 0 by omega), Or.inl (by omega)⟩)
                    · refine xg_t (xg_ifT (u := u708) rfl xnm0 (xj_neT hc711)) ?_
                      refine xg_t (xg_blk (b := [(165, 1, 0, 0, 0, 0), (166, 3, 1, 12, 0, 7), (169, 2, 4, 16, 0, 0), (171, 1, 10, 0, 0, 0), (172, 3, 7, 177, 0, 0), (175, 1, 3, 4294967295, 0, 0), (176, 1, 12, 0, 1, 0)]) rfl) ?_
                      refine xg_t (xg_aload (va := (2, 82)) rfl rfl) ?_
                      refine xg_t (xg_getf (va := (2, 83)) h82_684 rfl) ?_
                      refine xg_t (xg_bip) ?_
                      refine xg_ialdB (n := 16) (B := 4294967295) h83_687 (hb688) xnm0 (by omega) (fun u754 hu755 he756 => ?_)
                      by_cases hc757 : u754 = 0
                      · refine xg_t (xg_ifT (u := u754) rfl xnm0 (xj_eqT hc757)) ?_
                        refine xg_t (xg_blk (b := [(177, 1, 3, 0, 0, 0), (178, 1, 15, 1, 0, 0)]) rfl) ?_
                        have hDD := hz653.resolve_left (by omega)
                        have hdt := hDD.toDt h85_693 h86_696
                        refine xg_t (xg_const) ?_
                        refine xg_t (xg_istore (l1 := [(0, (2, 82))]) rfl rfl rfl) ?_
                        refine xg_t (xg_blk (b := [(179, 1, 2, 1, 0, 0), (180, 1, 3, 5, 0, 0), (181, 3, 6, 202, 3, 0), (184, 1, 0, 0, 0, 0), (185, 3, 1, 12, 0, 7), (188, 1, 2, 1, 0, 0), (189, 1, 0, 0, 0, 0), (190, 3, 1, 12, 11, 17), (193, 1, 2, 1, 0, 0), (194, 1, 10, 0, 0, 0), (195, 1, 17, 0, 0, 0), (196, 3, 9, 1, 1, 0), (199, 3, 8, 179, 0, 0)]) rfl) ?_
                        refine xg_t (xg_iload (va := (0, 0)) rfl rfl) ?_
                        refine xg_t (xg_const) ?_
                        refine xg_t (xg_icF (u := 0) (v := 5) rfl xnm0 xnm0 (by decide)) ?_
                        refine xg_t (xg_aload (va := (2, 82)) rfl rfl) ?_
                        refine xg_t (xg_getf (va := (2, 83)) h82_684 rfl) ?_
                        refine xg_t (xg_iload (va := (0, 0)) rfl rfl) ?_
                        refine xg_t (xg_aload (va := (2, 82)) rfl rfl) ?_
                        refine xg_t (xg_getf (va := (2, 85)) h82_684 rfl) ?_
                        refine xg_t (xg_iload (va := (0, 0)) rfl rfl) ?_
                        refine xg_ialdB (n := 0) (B := 4294967295) h85_693 (hb694) xnm0 (by omega) (fun u758 hu759 he760 => ?_)
                        refine xg_iastK (n := 0) (u := u758) h83_687 xnm0 xnm0 rfl (by omega) (fun w761 hr762 hb763 => ?_)
                        have hb764 : ∀ j, (fun j => if j = 0 then u758 else g83_686 j) j ≤ 4294967295 := xrb (by omega) (hb688)
                        obtain ⟨g765, hg766⟩ : ∃ g : Nat → Nat, g = (fun j => if j = 0 then u758 else g83_686 j) := ⟨_, rfl⟩
                        rw [← hg766] at hr762
                        have he767 : g765 0 = u758 := by rw [hg766]; exact if_pos rfl
                        have hk768 : ∀ j, j ≠ 0 → g765 j = g83_686 j := fun j hj => by rw [hg766]; exact if_neg hj
                        rw [← hg766] at hb764
                        refine xg_t (xg_iinc (u := 0) (z := 1) (l1 := [(0, (2, 82))]) rfl rfl (by decide) rfl) ?_
                        refine xg_t (xg_goto) ?_
                        refine xg_t (xg_blk (b := [(179, 1, 2, 1, 0, 0), (180, 1, 3, 5, 0, 0), (181, 3, 6, 202, 3, 0), (184, 1, 0, 0, 0, 0), (185, 3, 1, 12, 0, 7), (188, 1, 2, 1, 0, 0), (189, 1, 0, 0, 0, 0), (190, 3, 1, 12, 11, 17), (193, 1, 2, 1, 0, 0), (194, 1, 10, 0, 0, 0), (195, 1, 17, 0, 0, 0), (196, 3, 9, 1, 1, 0), (199, 3, 8, 179, 0, 0)]) rfl) ?_
                        refine xg_t (xg_iload (va := (0, 1)) rfl rfl) ?_
                        refine xg_t (xg_const) ?_
                        refine xg_t (xg_icF (u := 1) (v := 5) rfl xnm0 xnm0 (by decide)) ?_
                        refine xg_t (xg_aload (va := (2, 82)) rfl rfl) ?_
                        refine xg_t (xg_getf (va := (2, 83)) (hb763.get (by decide) h82_684) rfl) ?_
                        refine xg_t (xg_iload (va := (0, 1)) rfl rfl) ?_
                        refine xg_t (xg_aload (va := (2, 82)) rfl rfl) ?_
                        refine xg_t (xg_getf (va := (2, 85)) (hb763.get (by decide) h82_684) rfl) ?_
                        refine xg_t (xg_iload (va := (0, 1)) rfl rfl) ?_
                        refine xg_ialdB (n := 1) (B := 4294967295) (h85_693.but hb763 (by decide)) (hb694) xnm0 (by omega) (fun u769 hu770 he771 => ?_)
                        refine xg_iastK (n := 1) (u := u769) hr762 xnm0 xnm0 rfl (by omega) (fun w772 hr773 hb774 => ?_)
                        have hb775 : ∀ j, (fun j => if j = 1 then u769 else g765 j) j ≤ 4294967295 := xrb (by omega) (hb764)
                        obtain ⟨g776, hg777⟩ : ∃ g : Nat → Nat, g = (fun j => if j = 1 then u769 else g765 j) := ⟨_, rfl⟩
                        rw [← hg777] at hr773
                        have he778 : g776 1 = u769 := by rw [hg777]; exact if_pos rfl
                        have hk779 : ∀ j, j ≠ 1 → g776 j = g765 j := fun j hj => by rw [hg777]; exact if_neg hj
                        rw [← hg777] at hb775
                        refine xg_t (xg_iinc (u := 1) (z := 2) (l1 := [(0, (2, 82))]) rfl rfl (by decide) rfl) ?_
                        refine xg_t (xg_goto) ?_
                        refine xg_t (xg_blk (b := [(179, 1, 2, 1, 0, 0), (180, 1, 3, 5, 0, 0), (181, 3, 6, 202, 3, 0), (184, 1, 0, 0, 0, 0), (185, 3, 1, 12, 0, 7), (188, 1, 2, 1, 0, 0), (189, 1, 0, 0, 0, 0), (190, 3, 1, 12, 11, 17), (193, 1, 2, 1, 0, 0), (194, 1, 10, 0, 0, 0), (195, 1, 17, 0, 0, 0), (196, 3, 9, 1, 1, 0), (199, 3, 8, 179, 0, 0)]) rfl) ?_
                        refine xg_t (xg_iload (va := (0, 2)) rfl rfl) ?_
                        refine xg_t (xg_const) ?_
                        refine xg_t (xg_icF (u := 2) (v := 5) rfl xnm0 xnm0 (by decide)) ?_
                        refine xg_t (xg_aload (va := (2, 82)) rfl rfl) ?_
                        refine xg_t (xg_getf (va := (2, 83)) (hb774.get (by decide) (hb763.get (by decide) h82_684)) rfl) ?_
                        refine xg_t (xg_iload (va := (0, 2)) rfl rfl) ?_
                        refine xg_t (xg_aload (va := (2, 82)) rfl rfl) ?_
                        refine xg_t (xg_getf (va := (2, 85)) (hb774.get (by decide) (hb763.get (by decide) h82_684)) rfl) ?_
                        refine xg_t (xg_iload (va := (0, 2)) rfl rfl) ?_
                        refine xg_ialdB (n := 2) (B := 4294967295) ((h85_693.but hb763 (by decide)).but hb774 (by decide)) (hb694) xnm0 (by omega) (fun u780 hu781 he782 => ?_)
                        refine xg_iastK (n := 2) (u := u780) hr773 xnm0 xnm0 rfl (by omega) (fun w783 hr784 hb785 => ?_)
                        have hb786 : ∀ j, (fun j => if j = 2 then u780 else g776 j) j ≤ 4294967295 := xrb (by omega) (hb775)
                        obtain ⟨g787, hg788⟩ : ∃ g : Nat → Nat, g = (fun j => if j = 2 then u780 else g776 j) := ⟨_, rfl⟩
                        rw [← hg788] at hr784
                        have he789 : g787 2 = u780 := by rw [hg788]; exact if_pos rfl
                        have hk790 : ∀ j, j ≠ 2 → g787 j = g776 j := fun j hj => by rw [hg788]; exact if_neg hj
                        rw [← hg788] at hb786
                        refine xg_t (xg_iinc (u := 2) (z := 3) (l1 := [(0, (2, 82))]) rfl rfl (by decide) rfl) ?_
                        refine xg_t (xg_goto) ?_
                        refine xg_t (xg_blk (b := [(179, 1, 2, 1, 0, 0), (180, 1, 3, 5, 0, 0), (181, 3, 6, 202, 3, 0), (184, 1, 0, 0, 0, 0), (185, 3, 1, 12, 0, 7), (188, 1, 2, 1, 0, 0), (189, 1, 0, 0, 0, 0), (190, 3, 1, 12, 11, 17), (193, 1, 2, 1, 0, 0), (194, 1, 10, 0, 0, 0), (195, 1, 17, 0, 0, 0), (196, 3, 9, 1, 1, 0), (199, 3, 8, 179, 0, 0)]) rfl) ?_
                        refine xg_t (xg_iload (va := (0, 3)) rfl rfl) ?_
                        refine xg_t (xg_const) ?_
                        refine xg_t (xg_icF (u := 3) (v := 5) rfl xnm0 xnm0 (by decide)) ?_
                        refine xg_t (xg_aload (va := (2, 82)) rfl rfl) ?_
                        refine xg_t (xg_getf (va := (2, 83)) (hb785.get (by decide) (hb774.get (by decide) (hb763.get (by decide) h82_684))) rfl) ?_
                        refine xg_t (xg_iload (va := (0, 3)) rfl rfl) ?_
                        refine xg_t (xg_aload (va := (2, 82)) rfl rfl) ?_
                        refine xg_t (xg_getf (va := (2, 85)) (hb785.get (by decide) (hb774.get (by decide) (hb763.get (by decide) h82_684))) rfl) ?_
                        refine xg_t (xg_iload (va := (0, 3)) rfl rfl) ?_
                        refine xg_ialdB (n := 3) (B := 4294967295) (((h85_693.but hb763 (by decide)).but hb774 (by decide)).but hb785 (by decide)) (hb694) xnm0 (by omega) (fun u791 hu792 he793 => ?_)
                        refine xg_iastK (n := 3) (u := u791) hr784 xnm0 xnm0 rfl (by omega) (fun w794 hr795 hb796 => ?_)
                        have hb797 : ∀ j, (fun j => if j = 3 then u791 else g787 j) j ≤ 4294967295 := xrb (by omega) (hb786)
                        obtain ⟨g798, hg799⟩ : ∃ g : Nat → Nat, g = (fun j => if j = 3 then u791 else g787 j) := ⟨_, rfl⟩
                        rw [← hg799] at hr795
                        have he800 : g798 3 = u791 := by rw [hg799]; exact if_pos rfl
                        have hk801 : ∀ j, j ≠ 3 → g798 j = g787 j := fun j hj => by rw [hg799]; exact if_neg hj
                        rw [← hg799] at hb797
                        refine xg_t (xg_iinc (u := 3) (z := 4) (l1 := [(0, (2, 82))]) rfl rfl (by decide) rfl) ?_
                        refine xg_t (xg_goto) ?_
                        refine xg_t (xg_blk (b := [(179, 1, 2, 1, 0, 0), (180, 1, 3, 5, 0, 0), (181, 3, 6, 202, 3, 0), (184, 1, 0, 0, 0, 0), (185, 3, 1, 12, 0, 7), (188, 1, 2, 1, 0, 0), (189, 1, 0, 0, 0, 0), (190, 3, 1, 12, 11, 17), (193, 1, 2, 1, 0, 0), (194, 1, 10, 0, 0, 0), (195, 1, 17, 0, 0, 0), (196, 3, 9, 1, 1, 0), (199, 3, 8, 179, 0, 0)]) rfl) ?_
                        refine xg_t (xg_iload (va := (0, 4)) rfl rfl) ?_
                        refine xg_t (xg_const) ?_
                        refine xg_t (xg_icF (u := 4) (v := 5) rfl xnm0 xnm0 (by decide)) ?_
                        refine xg_t (xg_aload (va := (2, 82)) rfl rfl) ?_
                        refine xg_t (xg_getf (va := (2, 83)) (hb796.get (by decide) (hb785.get (by decide) (hb774.get (by decide) (hb763.get (by decide) h82_684)))) rfl) ?_
                        refine xg_t (xg_iload (va := (0, 4)) rfl rfl) ?_
                        refine xg_t (xg_aload (va := (2, 82)) rfl rfl) ?_
                        refine xg_t (xg_getf (va := (2, 85)) (hb796.get (by decide) (hb785.get (by decide) (hb774.get (by decide) (hb763.get (by decide) h82_684)))) rfl) ?_
                        refine xg_t (xg_iload (va := (0, 4)) rfl rfl) ?_
                        refine xg_ialdB (n := 4) (B := 4294967295) ((((h85_693.but hb763 (by decide)).but hb774 (by decide)).but hb785 (by decide)).but hb796 (by decide)) (hb694) xnm0 (by omega) (fun u802 hu803 he804 => ?_)
                        refine xg_iastK (n := 4) (u := u802) hr795 xnm0 xnm0 rfl (by omega) (fun w805 hr806 hb807 => ?_)
                        have hb808 : ∀ j, (fun j => if j = 4 then u802 else g798 j) j ≤ 4294967295 := xrb (by omega) (hb797)
                        obtain ⟨g809, hg810⟩ : ∃ g : Nat → Nat, g = (fun j => if j = 4 then u802 else g798 j) := ⟨_, rfl⟩
                        rw [← hg810] at hr806
                        have he811 : g809 4 = u802 := by rw [hg810]; exact if_pos rfl
                        have hk812 : ∀ j, j ≠ 4 → g809 j = g798 j := fun j hj => by rw [hg810]; exact if_neg hj
                        rw [← hg810] at hb808
                        refine xg_t (xg_iinc (u := 4) (z := 5) (l1 := [(0, (2, 82))]) rfl rfl (by decide) rfl) ?_
                        refine xg_t (xg_goto) ?_
                        refine xg_t (xg_blk (b := [(179, 1, 2, 1, 0, 0), (180, 1, 3, 5, 0, 0), (181, 3, 6, 202, 3, 0), (184, 1, 0, 0, 0, 0), (185, 3, 1, 12, 0, 7), (188, 1, 2, 1, 0, 0), (189, 1, 0, 0, 0, 0), (190, 3, 1, 12, 11, 17), (193, 1, 2, 1, 0, 0), (194, 1, 10, 0, 0, 0), (195, 1, 17, 0, 0, 0), (196, 3, 9, 1, 1, 0), (199, 3, 8, 179, 0, 0)]) rfl) ?_
                        refine xg_t (xg_iload (va := (0, 5)) rfl rfl) ?_
                        refine xg_t (xg_const) ?_
                        refine xg_t (xg_icT (u := 5) (v := 5) rfl xnm0 xnm0 (by decide)) ?_
                        refine xg_t (xg_blk (b := [(202, 1, 3, 5, 0, 0), (203, 1, 15, 1, 0, 0)]) rfl) ?_
                        refine xg_t (xg_const) ?_
                        refine xg_t (xg_istore (l1 := [(0, (2, 82))]) rfl rfl rfl) ?_
                        refine xg_t (xg_blk (b := [(204, 1, 2, 1, 0, 0), (205, 2, 4, 8, 0, 0), (207, 3, 6, 228, 4, 0), (210, 1, 0, 0, 0, 0), (211, 3, 1, 12, 0, 7), (214, 1, 2, 1, 0, 0), (215, 1, 0, 0, 0, 0), (216, 3, 1, 12, 12, 20), (219, 1, 2, 1, 0, 0), (220, 1, 10, 0, 0, 0), (221, 1, 17, 0, 0, 0), (222, 3, 9, 1, 1, 0), (225, 3, 8, 204, 0, 0)]) rfl) ?_
                        refine xg_t (xg_iload (va := (0, 5)) rfl rfl) ?_
                        refine xg_t (xg_bip) ?_
                        refine xg_t (xg_icF (u := 5) (v := 8) rfl xnm0 xnm0 (by decide)) ?_
                        refine xg_t (xg_aload (va := (2, 82)) rfl rfl) ?_
                        refine xg_t (xg_getf (va := (2, 83)) (hb807.get (by decide) (hb796.get (by decide) (hb785.get (by decide) (hb774.get (by decide) (hb763.get (by decide) h82_684))))) rfl) ?_
                        refine xg_t (xg_iload (va := (0, 5)) rfl rfl) ?_
                        refine xg_t (xg_aload (va := (2, 82)) rfl rfl) ?_
                        refine xg_t (xg_getf (va := (2, 86)) (hb807.get (by decide) (hb796.get (by decide) (hb785.get (by decide) (hb774.get (by decide) (hb763.get (by decide) h82_684))))) rfl) ?_
                        refine xg_t (xg_iload (va := (0, 5)) rfl rfl) ?_
                        refine xg_ialdB (n := 5) (B := 4294967295) (((((h86_696.but hb763 (by decide)).but hb774 (by decide)).but hb785 (by decide)).but hb796 (by decide)).but hb807 (by decide)) (hb697) xnm0 (by omega) (fun u813 hu814 he815 => ?_)
                        refine xg_iastK (n := 5) (u := u813) hr806 xnm0 xnm0 rfl (by omega) (fun w816 hr817 hb818 => ?_)
                        have hb819 : ∀ j, (fun j => if j = 5 then u813 else g809 j) j ≤ 4294967295 := xrb (by omega) (hb808)
                        obtain ⟨g820, hg821⟩ : ∃ g : Nat → Nat, g = (fun j => if j = 5 then u813 else g809 j) := ⟨_, rfl⟩
                        rw [← hg821] at hr817
                        have he822 : g820 5 = u813 := by rw [hg821]; exact if_pos rfl
                        have hk823 : ∀ j, j ≠ 5 → g820 j = g809 j := fun j hj => by rw [hg821]; exact if_neg hj
                        rw [← hg821] at hb819
                        refine xg_t (xg_iinc (u := 5) (z := 6) (l1 := [(0, (2, 82))]) rfl rfl (by decide) rfl) ?_
                        refine xg_t (xg_goto) ?_
                        refine xg_t (xg_blk (b := [(204, 1, 2, 1, 0, 0), (205, 2, 4, 8, 0, 0), (207, 3, 6, 228, 4, 0), (210, 1, 0, 0, 0, 0), (211, 3, 1, 12, 0, 7), (214, 1, 2, 1, 0, 0), (215, 1, 0, 0, 0, 0), (216, 3, 1, 12, 12, 20), (219, 1, 2, 1, 0, 0), (220, 1, 10, 0, 0, 0), (221, 1, 17, 0, 0, 0), (222, 3, 9, 1, 1, 0), (225, 3, 8, 204, 0, 0)]) rfl) ?_
                        refine xg_t (xg_iload (va := (0, 6)) rfl rfl) ?_
                        refine xg_t (xg_bip) ?_
                        refine xg_t (xg_icF (u := 6) (v := 8) rfl xnm0 xnm0 (by decide)) ?_
                        refine xg_t (xg_aload (va := (2, 82)) rfl rfl) ?_
                        refine xg_t (xg_getf (va := (2, 83)) (hb818.get (by decide) (hb807.get (by decide) (hb796.get (by decide) (hb785.get (by decide) (hb774.get (by decide) (hb763.get (by decide) h82_684)))))) rfl) ?_
                        refine xg_t (xg_iload (va := (0, 6)) rfl rfl) ?_
                        refine xg_t (xg_aload (va := (2, 82)) rfl rfl) ?_
                        refine xg_t (xg_getf (va := (2, 86)) (hb818.get (by decide) (hb807.get (by decide) (hb796.get (by decide) (hb785.get (by decide) (hb774.get (by decide) (hb763.get (by decide) h82_684)))))) rfl) ?_
                        refine xg_t (xg_iload (va := (0, 6)) rfl rfl) ?_
                        refine xg_ialdB (n := 6) (B := 4294967295) ((((((h86_696.but hb763 (by decide)).but hb774 (by decide)).but hb785 (by decide)).but hb796 (by decide)).but hb807 (by decide)).but hb818 (by decide)) (hb697) xnm0 (by omega) (fun u824 hu825 he826 => ?_)
                        refine xg_iastK (n := 6) (u := u824) hr817 xnm0 xnm0 rfl (by omega) (fun w827 hr828 hb829 => ?_)
                        have hb830 : ∀ j, (fun j => if j = 6 then u824 else g820 j) j ≤ 4294967295 := xrb (by omega) (hb819)
                        obtain ⟨g831, hg832⟩ : ∃ g : Nat → Nat, g = (fun j => if j = 6 then u824 else g820 j) := ⟨_, rfl⟩
                        rw [← hg832] at hr828
                        have he833 : g831 6 = u824 := by rw [hg832]; exact if_pos rfl
                        have hk834 : ∀ j, j ≠ 6 → g831 j = g820 j := fun j hj => by rw [hg832]; exact if_neg hj
                        rw [← hg832] at hb830
                        refine xg_t (xg_iinc (u := 6) (z := 7) (l1 := [(0, (2, 82))]) rfl rfl (by decide) rfl) ?_
                        refine xg_t (xg_goto) ?_
                        refine xg_t (xg_blk (b := [(204, 1, 2, 1, 0, 0), (205, 2, 4, 8, 0, 0), (207, 3, 6, 228, 4, 0), (210, 1, 0, 0, 0, 0), (211, 3, 1, 12, 0, 7), (214, 1, 2, 1, 0, 0), (215, 1, 0, 0, 0, 0), (216, 3, 1, 12, 12, 20), (219, 1, 2, 1, 0, 0), (220, 1, 10, 0, 0, 0), (221, 1, 17, 0, 0, 0), (222, 3, 9, 1, 1, 0), (225, 3, 8, 204, 0, 0)]) rfl) ?_
                        refine xg_t (xg_iload (va := (0, 7)) rfl rfl) ?_
                        refine xg_t (xg_bip) ?_
                        refine xg_t (xg_icF (u := 7) (v := 8) rfl xnm0 xnm0 (by decide)) ?_
                        refine xg_t (xg_aload (va := (2, 82)) rfl rfl) ?_
                        refine xg_t (xg_getf (va := (2, 83)) (hb829.get (by decide) (hb818.get (by decide) (hb807.get (by decide) (hb796.get (by decide) (hb785.get (by decide) (hb774.get (by decide) (hb763.get (by decide) h82_684))))))) rfl) ?_
                        refine xg_t (xg_iload (va := (0, 7)) rfl rfl) ?_
                        refine xg_t (xg_aload (va := (2, 82)) rfl rfl) ?_
                        refine xg_t (xg_getf (va := (2, 86)) (hb829.get (by decide) (hb818.get (by decide) (hb807.get (by decide) (hb796.get (by decide) (hb785.get (by decide) (hb774.get (by decide) (hb763.get (by decide) h82_684))))))) rfl) ?_
                        refine xg_t (xg_iload (va := (0, 7)) rfl rfl) ?_
                        refine xg_ialdB (n := 7) (B := 4294967295) (((((((h86_696.but hb763 (by decide)).but hb774 (by decide)).but hb785 (by decide)).but hb796 (by decide)).but hb807 (by decide)).but hb818 (by decide)).but hb829 (by decide)) (hb697) xnm0 (by omega) (fun u835 hu836 he837 => ?_)
                        refine xg_iastK (n := 7) (u := u835) hr828 xnm0 xnm0 rfl (by omega) (fun w838 hr839 hb840 => ?_)
                        have hb841 : ∀ j, (fun j => if j = 7 then u835 else g831 j) j ≤ 4294967295 := xrb (by omega) (hb830)
                        obtain ⟨g842, hg843⟩ : ∃ g : Nat → Nat, g = (fun j => if j = 7 then u835 else g831 j) := ⟨_, rfl⟩
                        rw [← hg843] at hr839
                        have he844 : g842 7 = u835 := by rw [hg843]; exact if_pos rfl
                        have hk845 : ∀ j, j ≠ 7 → g842 j = g831 j := fun j hj => by rw [hg843]; exact if_neg hj
                        rw [← hg843] at hb841
                        refine xg_t (xg_iinc (u := 7) (z := 8) (l1 := [(0, (2, 82))]) rfl rfl (by decide) rfl) ?_
                        refine xg_t (xg_goto) ?_
                        refine xg_t (xg_blk (b := [(204, 1, 2, 1, 0, 0), (205, 2, 4, 8, 0, 0), (207, 3, 6, 228, 4, 0), (210, 1, 0, 0, 0, 0), (211, 3, 1, 12, 0, 7), (214, 1, 2, 1, 0, 0), (215, 1, 0, 0, 0, 0), (216, 3, 1, 12, 12, 20), (219, 1, 2, 1, 0, 0), (220, 1, 10, 0, 0, 0), (221, 1, 17, 0, 0, 0), (222, 3, 9, 1, 1, 0), (225, 3, 8, 204, 0, 0)]) rfl) ?_
                        refine xg_t (xg_iload (va := (0, 8)) rfl rfl) ?_
                        refine xg_t (xg_bip) ?_
                        refine xg_t (xg_icF (u := 8) (v := 8) rfl xnm0 xnm0 (by decide)) ?_
                        refine xg_t (xg_aload (va := (2, 82)) rfl rfl) ?_
                        refine xg_t (xg_getf (va := (2, 83)) (hb840.get (by decide) (hb829.get (by decide) (hb818.get (by decide) (hb807.get (by decide) (hb796.get (by decide) (hb785.get (by decide) (hb774.get (by decide) (hb763.get (by decide) h82_684)))))))) rfl) ?_
                        refine xg_t (xg_iload (va := (0, 8)) rfl rfl) ?_
                        refine xg_t (xg_aload (va := (2, 82)) rfl rfl) ?_
                        refine xg_t (xg_getf (va := (2, 86)) (hb840.get (by decide) (hb829.get (by decide) (hb818.get (by decide) (hb807.get (by decide) (hb796.get (by decide) (hb785.get (by decide) (hb774.get (by decide) (hb763.get (by decide) h82_684)))))))) rfl) ?_
                        refine xg_t (xg_iload (va := (0, 8)) rfl rfl) ?_
                        refine xg_ialdB (n := 8) (B := 4294967295) ((((((((h86_696.but hb763 (by decide)).but hb774 (by decide)).but hb785 (by decide)).but hb796 (by decide)).but hb807 (by decide)).but hb818 (by decide)).but hb829 (by decide)).but hb840 (by decide)) (hb697) xnm0 (by omega) (fun u846 hu847 he848 => ?_)
                        refine xg_iastK (n := 8) (u := u846) hr839 xnm0 xnm0 rfl (by omega) (fun w849 hr850 hb851 => ?_)
                        have hb852 : ∀ j, (fun j => if j = 8 then u846 else g842 j) j ≤ 4294967295 := xrb (by omega) (hb841)
                        obtain ⟨g853, hg854⟩ : ∃ g : Nat → Nat, g = (fun j => if j = 8 then u846 else g842 j) := ⟨_, rfl⟩
                        rw [← hg854] at hr850
                        have he855 : g853 8 = u846 := by rw [hg854]; exact if_pos rfl
                        have hk856 : ∀ j, j ≠ 8 → g853 j = g842 j := fun j hj => by rw [hg854]; exact if_neg hj
                        rw [← hg854] at hb852
                        refine xg_t (xg_iinc (u := 8) (z := 9) (l1 := [(0, (2, 82))]) rfl rfl (by decide) rfl) ?_
                        refine xg_t (xg_goto) ?_
                        refine xg_t (xg_blk (b := [(204, 1, 2, 1, 0, 0), (205, 2, 4, 8, 0, 0), (207, 3, 6, 228, 4, 0), (210, 1, 0, 0, 0, 0), (211, 3, 1, 12, 0, 7), (214, 1, 2, 1, 0, 0), (215, 1, 0, 0, 0, 0), (216, 3, 1, 12, 12, 20), (219, 1, 2, 1, 0, 0), (220, 1, 10, 0, 0, 0), (221, 1, 17, 0, 0, 0), (222, 3, 9, 1, 1, 0), (225, 3, 8, 204, 0, 0)]) rfl) ?_
                        refine xg_t (xg_iload (va := (0, 9)) rfl rfl) ?_
                        refine xg_t (xg_bip) ?_
                        refine xg_t (xg_icT (u := 9) (v := 8) rfl xnm0 xnm0 (by decide)) ?_
                        refine xg_t (xg_blk (b := [(228, 2, 4, 20, 0, 0), (230, 1, 15, 1, 0, 0)]) rfl) ?_
                        refine xg_t (xg_bip) ?_
                        refine xg_t (xg_istore (l1 := [(0, (2, 82))]) rfl rfl rfl) ?_
                        refine xg_t (xg_drop (l1 := [(0, (2, 82)), (1, (0, 20))]) (List.forall_mem_cons.mpr ⟨List.mem_cons_of_mem _ (List.mem_cons_self), List.forall_mem_cons.mpr ⟨List.mem_cons_self, fun _ h => absurd h List.not_mem_nil⟩⟩)) ?_
                        refine cpFilm 120 20 w849 g853 (by decide) hr850 hb852 (((((((((h86_696.but hb763 (by decide)).but hb774 (by decide)).but hb785 (by decide)).but hb796 (by decide)).but hb807 (by decide)).but hb818 (by decide)).but hb829 (by decide)).but hb840 (by decide)).but hb851 (by decide)) hb697 (hb851.get (by decide) (hb840.get (by decide) (hb829.get (by decide) (hb818.get (by decide) (hb807.get (by decide) (hb796.get (by decide) (hb785.get (by decide) (hb774.get (by decide) (hb763.get (by decide) h82_684))))))))) (fun w857 g858 hc859 hc860 hc861 hc862 hc863 => ?_)
                        refine xg_t (xg_blk (b := [(256, 1, 0, 0, 0, 0), (257, 3, 1, 12, 0, 7), (260, 2, 4, 9, 0, 0), (262, 1, 3, 0, 0, 0), (263, 1, 17, 0, 0, 0), (264, 1, 0, 0, 0, 0), (265, 3, 1, 12, 0, 7), (268, 2, 4, 10, 0, 0), (270, 1, 3, 0, 0, 0), (271, 1, 17, 0, 0, 0), (272, 1, 0, 0, 0, 0), (273, 3, 1, 12, 0, 7), (276, 2, 4, 14, 0, 0), (278, 1, 0, 0, 0, 0), (279, 3, 1, 12, 14, 212), (282, 1, 17, 0, 0, 0), (283, 1, 0, 0, 0, 0), (284, 3, 1, 12, 14, 212), (287, 1, 12, 0, 1, 0)]) rfl) ?_
                        refine xg_t (xg_aload (va := (2, 82)) rfl rfl) ?_
                        refine xg_t (xg_getf (va := (2, 83)) (hc861.get (by decide) (hb851.get (by decide) (hb840.get (by decide) (hb829.get (by decide) (hb818.get (by decide) (hb807.get (by decide) (hb796.get (by decide) (hb785.get (by decide) (hb774.get (by decide) (hb763.get (by decide) h82_684)))))))))) rfl) ?_
                        refine xg_t (xg_bip) ?_
                        refine xg_t (xg_const) ?_
                        refine xg_iastK (n := 9) (u := 0) hc859 xnm0 xnm0 rfl (by omega) (fun w864 hr865 hb866 => ?_)
                        have hb867 : ∀ j, (fun j => if j = 9 then 0 else g858 j) j ≤ 4294967295 := xrb (by omega) (hc860)
                        obtain ⟨g868, hg869⟩ : ∃ g : Nat → Nat, g = (fun j => if j = 9 then 0 else g858 j) := ⟨_, rfl⟩
                        rw [← hg869] at hr865
                        have he870 : g868 9 = 0 := by rw [hg869]; exact if_pos rfl
                        have hk871 : ∀ j, j ≠ 9 → g868 j = g858 j := fun j hj => by rw [hg869]; exact if_neg hj
                        rw [← hg869] at hb867
                        refine xg_t (xg_aload (va := (2, 82)) rfl rfl) ?_
                        refine xg_t (xg_getf (va := (2, 83)) (hb866.get (by decide) (hc861.get (by decide) (hb851.get (by decide) (hb840.get (by decide) (hb829.get (by decide) (hb818.get (by decide) (hb807.get (by decide) (hb796.get (by decide) (hb785.get (by decide) (hb774.get (by decide) (hb763.get (by decide) h82_684))))))))))) rfl) ?_
                        refine xg_t (xg_bip) ?_
                        refine xg_t (xg_const) ?_
                        refine xg_iastK (n := 10) (u := 0) hr865 xnm0 xnm0 rfl (by omega) (fun w872 hr873 hb874 => ?_)
                        have hb875 : ∀ j, (fun j => if j = 10 then 0 else g868 j) j ≤ 4294967295 := xrb (by omega) (hb867)
                        obtain ⟨g876, hg877⟩ : ∃ g : Nat → Nat, g = (fun j => if j = 10 then 0 else g868 j) := ⟨_, rfl⟩
                        rw [← hg877] at hr873
                        have he878 : g876 10 = 0 := by rw [hg877]; exact if_pos rfl
                        have hk879 : ∀ j, j ≠ 10 → g876 j = g868 j := fun j hj => by rw [hg877]; exact if_neg hj
                        rw [← hg877] at hb875
                        refine xg_t (xg_aload (va := (2, 82)) rfl rfl) ?_
                        refine xg_t (xg_getf (va := (2, 83)) (hb874.get (by decide) (hb866.get (by decide) (hc861.get (by decide) (hb851.get (by decide) (hb840.get (by decide) (hb829.get (by decide) (hb818.get (by decide) (hb807.get (by decide) (hb796.get (by decide) (hb785.get (by decide) (hb774.get (by decide) (hb763.get (by decide) h82_684)))))))))))) rfl) ?_
                        refine xg_t (xg_bip) ?_
                        refine xg_t (xg_aload (va := (2, 82)) rfl rfl) ?_
                        refine xg_t (xg_getf (va := (0, f82_672)) (hb874.get (by decide) (hb866.get (by decide) (hc861.get (by decide) (hb851.get (by decide) (hb840.get (by decide) (hb829.get (by decide) (hb818.get (by decide) (hb807.get (by decide) (hb796.get (by decide) (hb785.get (by decide) (hb774.get (by decide) (hb763.get (by decide) h82_684)))))))))))) rfl) ?_
                        refine xg_iastK (n := 14) (u := f82_672) hr873 xnm0 xnm0 rfl (by omega) (fun w880 hr881 hb882 => ?_)
                        have hb883 : ∀ j, (fun j => if j = 14 then f82_672 else g876 j) j ≤ 4294967295 := xrb (by omega) (hb875)
                        obtain ⟨g884, hg885⟩ : ∃ g : Nat → Nat, g = (fun j => if j = 14 then f82_672 else g876 j) := ⟨_, rfl⟩
                        rw [← hg885] at hr881
                        have he886 : g884 14 = f82_672 := by rw [hg885]; exact if_pos rfl
                        have hk887 : ∀ j, j ≠ 14 → g884 j = g876 j := fun j hj => by rw [hg885]; exact if_neg hj
                        rw [← hg885] at hb883
                        have hq888 : g884 0 = u758 := by rw [hk887 0 (by omega), hk879 0 (by omega), hk871 0 (by omega), hc863 0 (by omega), hk856 0 (by omega), hk845 0 (by omega), hk834 0 (by omega), hk823 0 (by omega), hk812 0 (by omega), hk801 0 (by omega), hk790 0 (by omega), hk779 0 (by omega), he767]
                        have hq889 : g884 1 = u769 := by rw [hk887 1 (by omega), hk879 1 (by omega), hk871 1 (by omega), hc863 1 (by omega), hk856 1 (by omega), hk845 1 (by omega), hk834 1 (by omega), hk823 1 (by omega), hk812 1 (by omega), hk801 1 (by omega), hk790 1 (by omega), he778]
                        have hq890 : g884 2 = u780 := by rw [hk887 2 (by omega), hk879 2 (by omega), hk871 2 (by omega), hc863 2 (by omega), hk856 2 (by omega), hk845 2 (by omega), hk834 2 (by omega), hk823 2 (by omega), hk812 2 (by omega), hk801 2 (by omega), he789]
                        have hq891 : g884 3 = u791 := by rw [hk887 3 (by omega), hk879 3 (by omega), hk871 3 (by omega), hc863 3 (by omega), hk856 3 (by omega), hk845 3 (by omega), hk834 3 (by omega), hk823 3 (by omega), hk812 3 (by omega), he800]
                        have hq892 : g884 4 = u802 := by rw [hk887 4 (by omega), hk879 4 (by omega), hk871 4 (by omega), hc863 4 (by omega), hk856 4 (by omega), hk845 4 (by omega), hk834 4 (by omega), hk823 4 (by omega), he811]
                        have hq893 : g884 5 = u813 := by rw [hk887 5 (by omega), hk879 5 (by omega), hk871 5 (by omega), hc863 5 (by omega), hk856 5 (by omega), hk845 5 (by omega), hk834 5 (by omega), he822]
                        have hq894 : g884 6 = u824 := by rw [hk887 6 (by omega), hk879 6 (by omega), hk871 6 (by omega), hc863 6 (by omega), hk856 6 (by omega), hk845 6 (by omega), he833]
                        have hq895 : g884 7 = u835 := by rw [hk887 7 (by omega), hk879 7 (by omega), hk871 7 (by omega), hc863 7 (by omega), hk856 7 (by omega), he844]
                        have hq896 : g884 8 = u846 := by rw [hk887 8 (by omega), hk879 8 (by omega), hk871 8 (by omega), hc863 8 (by omega), he855]
                        have hq897 : g884 9 = 0 := by rw [hk887 9 (by omega), hk879 9 (by omega), he870]
                        have hq898 : g884 10 = 0 := by rw [hk887 10 (by omega), he878]
                        have hq899 : ∀ j, 20 ≤ j → j < 140 → g884 j = g86_695 j := fun j h1 h2 => by rw [hk887 j (by omega), hk879 j (by omega), hk871 j (by omega)]; exact hc862 j h1 h2
                        have hq900 : ∀ j, 140 ≤ j ∨ j = 13 ∨ j = 15 → g884 j = g83_686 j := fun j hj => by rw [hk887 j (by omega), hk879 j (by omega), hk871 j (by omega), hc863 j (by omega), hk856 j (by omega), hk845 j (by omega), hk834 j (by omega), hk823 j (by omega), hk812 j (by omega), hk801 j (by omega), hk790 j (by omega), hk779 j (by omega), hk768 j (by omega)]
                        have hx901 : okA g884 := film_ok hx689 hdt (by omega) (by omega) (by omega) (by omega) (by omega) (by omega) (by omega) (by omega) (by omega) (by omega) (by omega) hq899 hq900
                        refine xg_t (xg_aload (va := (2, 82)) rfl rfl) ?_
                        refine xg_t (xg_getf (va := (0, f82_672)) (hb882.get (by decide) (hb874.get (by decide) (hb866.get (by decide) (hc861.get (by decide) (hb851.get (by decide) (hb840.get (by decide) (hb829.get (by decide) (hb818.get (by decide) (hb807.get (by decide) (hb796.get (by decide) (hb785.get (by decide) (hb774.get (by decide) (hb763.get (by decide) h82_684))))))))))))) rfl) ?_
                        exact xg_e ⟨f82_672, w880, ⟨rfl, rfl⟩, by omega, xMnv.up (S := [83]) hI647 (((((((((((((xFr.of (S := [83]) hb763 (by decide)).tr (xFr.of (S := [83]) hb774 (by decide))).tr (xFr.of (S := [83]) hb785 (by decide))).tr (xFr.of (S := [83]) hb796 (by decide))).tr (xFr.of (S := [83]) hb807 (by decide))).tr (xFr.of (S := [83]) hb818 (by decide))).tr (xFr.of (S := [83]) hb829 (by decide))).tr (xFr.of (S := [83]) hb840 (by decide))).tr (xFr.of (S := [83]) hb851 (by decide))).tr (xFr.of (S := [83]) hc861 (by decide))).tr (xFr.of (S := [83]) hb866 (by decide))).tr (xFr.of (S := [83]) hb874 (by decide))).tr (xFr.of (S := [83]) hb882 (by decide))) (List.forall_mem_cons.mpr ⟨(show cpx83 (wget w880 83) from ⟨_, hr881, hb883, hx901⟩), fun _ h => absurd h List.not_mem_nil⟩), (hF648.tr (((((((((((((xFr.of (S := [82, 83, 85, 86, 87]) hb763 (by decide)).tr (xFr.of (S := [82, 83, 85, 86, 87]) hb774 (by decide))).tr (xFr.of (S := [82, 83, 85, 86, 87]) hb785 (by decide))).tr (xFr.of (S := [82, 83, 85, 86, 87]) hb796 (by decide))).tr (xFr.of (S := [82, 83, 85, 86, 87]) hb807 (by decide))).tr (xFr.of (S := [82, 83, 85, 86, 87]) hb818 (by decide))).tr (xFr.of (S := [82, 83, 85, 86, 87]) hb829 (by decide))).tr (xFr.of (S := [82, 83, 85, 86, 87]) hb840 (by decide))).tr (xFr.of (S := [82, 83, 85, 86, 87]) hb851 (by decide))).tr (xFr.of (S := [82, 83, 85, 86, 87]) hc861 (by decide))).tr (xFr.of (S := [82, 83, 85, 86, 87]) hb866 (by decide))).tr (xFr.of (S := [82, 83, 85, 86, 87]) hb874 (by decide))).tr (xFr.of (S := [82, 83, 85, 86, 87]) hb882 (by decide))))⟩
                      · refine xg_t (xg_ifF (u := u754) rfl xnm0 (xj_eqF hc757)) ?_
                        refine xg_t (xg_const) ?_
                        exact xg_e ⟨4294967295, w646, ⟨rfl, rfl⟩, by omega, hI647, hF648⟩
                  · have hc705u := hc705
                    unfold xbs at hc705u
                    have hn902 : kf ≤ 20 := by omega
                    refine xg_t (xg_icT (u := kf) (v := u702) rfl xnm0 xnm0 (xjs_geT hc705)) ?_
                    refine xg_t (xg_blk (b := [(165, 1, 0, 0, 0, 0), (166, 3, 1, 12, 0, 7), (169, 2, 4, 16, 0, 0), (171, 1, 10, 0, 0, 0), (172, 3, 7, 177, 0, 0), (175, 1, 3, 4294967295, 0, 0), (176, 1, 12, 0, 1, 0)]) rfl) ?_
                    refine xg_t (xg_aload (va := (2, 82)) rfl rfl) ?_
                    refine xg_t (xg_getf (va := (2, 83)) h82_684 rfl) ?_
                    refine xg_t (xg_bip) ?_
                    refine xg_ialdB (n := 16) (B := 4294967295) h83_687 (hb688) xnm0 (by omega) (fun u903 hu904 he905 => ?_)
                    by_cases hc906 : u903 = 0
                    · refine xg_t (xg_ifT (u := u903) rfl xnm0 (xj_eqT hc906)) ?_
                      refine xg_t (xg_blk (b := [(177, 1, 3, 0, 0, 0), (178, 1, 15, 1, 0, 0)]) rfl) ?_
                      have hDD := hz653.resolve_left (by omega)
                      have hdt := hDD.toDt h85_693 h86_696
                      refine xg_t (xg_const) ?_
                      refine xg_t (xg_istore (l1 := [(0, (2, 82))]) rfl rfl rfl) ?_
                      refine xg_t (xg_blk (b := [(179, 1, 2, 1, 0, 0), (180, 1, 3, 5, 0, 0), (181, 3, 6, 202, 3, 0), (184, 1, 0, 0, 0, 0), (185, 3, 1, 12, 0, 7), (188, 1, 2, 1, 0, 0), (189, 1, 0, 0, 0, 0), (190, 3, 1, 12, 11, 17), (193, 1, 2, 1, 0, 0), (194, 1, 10, 0, 0, 0), (195, 1, 17, 0, 0, 0), (196, 3, 9, 1, 1, 0), (199, 3, 8, 179, 0, 0)]) rfl) ?_
                      refine xg_t (xg_iload (va := (0, 0)) rfl rfl) ?_
                      refine xg_t (xg_const) ?_
                      refine xg_t (xg_icF (u := 0) (v := 5) rfl xnm0 xnm0 (by decide)) ?_
                      refine xg_t (xg_aload (va := (2, 82)) rfl rfl) ?_
                      refine xg_t (xg_getf (va := (2, 83)) h82_684 rfl) ?_
                      refine xg_t (xg_iload (va := (0, 0)) rfl rfl) ?_
                      refine xg_t (xg_aload (va := (2, 82)) rfl rfl) ?_
                      refine xg_t (xg_getf (va := (2, 85)) h82_684 rfl) ?_
                      refine xg_t (xg_iload (va := (0, 0)) rfl rfl) ?_
                      refine xg_ialdB (n := 0) (B := 4294967295) h85_693 (hb694) xnm0 (by omega) (fun u907 hu908 he909 => ?_)
                      refine xg_iastK (n := 0) (u := u907) h83_687 xnm0 xnm0 rfl (by omega) (fun w910 hr911 hb912 => ?_)
                      have hb913 : ∀ j, (fun j => if j = 0 then u907 else g83_686 j) j ≤ 4294967295 := xrb (by omega) (hb688)
                      obtain ⟨g914, hg915⟩ : ∃ g : Nat → Nat, g = (fun j => if j = 0 then u907 else g83_686 j) := ⟨_, rfl⟩
                      rw [← hg915] at hr911
                      have he916 : g914 0 = u907 := by rw [hg915]; exact if_pos rfl
                      have hk917 : ∀ j, j ≠ 0 → g914 j = g83_686 j := fun j hj => by rw [hg915]; exact if_neg hj
                      rw [← hg915] at hb913
                      refine xg_t (xg_iinc (u := 0) (z := 1) (l1 := [(0, (2, 82))]) rfl rfl (by decide) rfl) ?_
                      refine xg_t (xg_goto) ?_
                      refine xg_t (xg_blk (b := [(179, 1, 2, 1, 0, 0), (180, 1, 3, 5, 0, 0), (181, 3, 6, 202, 3, 0), (184, 1, 0, 0, 0, 0), (185, 3, 1, 12, 0, 7), (188, 1, 2, 1, 0, 0), (189, 1, 0, 0, 0, 0), (190, 3, 1, 12, 11, 17), (193, 1, 2, 1, 0, 0), (194, 1, 10, 0, 0, 0), (195, 1, 17, 0, 0, 0), (196, 3, 9, 1, 1, 0), (199, 3, 8, 179, 0, 0)]) rfl) ?_
                      refine xg_t (xg_iload (va := (0, 1)) rfl rfl) ?_
                      refine xg_t (xg_const) ?_
                      refine xg_t (xg_icF (u := 1) (v := 5) rfl xnm0 xnm0 (by decide)) ?_
                      refine xg_t (xg_aload (va := (2, 82)) rfl rfl) ?_
                      refine xg_t (xg_getf (va := (2, 83)) (hb912.get (by decide) h82_684) rfl) ?_
                      refine xg_t (xg_iload (va := (0, 1)) rfl rfl) ?_
                      refine xg_t (xg_aload (va := (2, 82)) rfl rfl) ?_
                      refine xg_t (xg_getf (va := (2, 85)) (hb912.get (by decide) h82_684) rfl) ?_
                      refine xg_t (xg_iload (va := (0, 1)) rfl rfl) ?_
                      refine xg_ialdB (n := 1) (B := 4294967295) (h85_693.but hb912 (by decide)) (hb694) xnm0 (by omega) (fun u918 hu919 he920 => ?_)
                      refine xg_iastK (n := 1) (u := u918) hr911 xnm0 xnm0 rfl (by omega) (fun w921 hr922 hb923 => ?_)
                      have hb924 : ∀ j, (fun j => if j = 1 then u918 else g914 j) j ≤ 4294967295 := xrb (by omega) (hb913)
                      obtain ⟨g925, hg926⟩ : ∃ g : Nat → Nat, g = (fun j => if j = 1 then u918 else g914 j) := ⟨_, rfl⟩
                      rw [← hg926] at hr922
                      have he927 : g925 1 = u918 := by rw [hg926]; exact if_pos rfl
                      have hk928 : ∀ j, j ≠ 1 → g925 j = g914 j := fun j hj => by rw [hg926]; exact if_neg hj
                      rw [← hg926] at hb924
                      refine xg_t (xg_iinc (u := 1) (z := 2) (l1 := [(0, (2, 82))]) rfl rfl (by decide) rfl) ?_
                      refine xg_t (xg_goto) ?_
                      refine xg_t (xg_blk (b := [(179, 1, 2, 1, 0, 0), (180, 1, 3, 5, 0, 0), (181, 3, 6, 202, 3, 0), (184, 1, 0, 0, 0, 0), (185, 3, 1, 12, 0, 7), (188, 1, 2, 1, 0, 0), (189, 1, 0, 0, 0, 0), (190, 3, 1, 12, 11, 17), (193, 1, 2, 1, 0, 0), (194, 1, 10, 0, 0, 0), (195, 1, 17, 0, 0, 0), (196, 3, 9, 1, 1, 0), (199, 3, 8, 179, 0, 0)]) rfl) ?_
                      refine xg_t (xg_iload (va := (0, 2)) rfl rfl) ?_
                      refine xg_t (xg_const) ?_
                      refine xg_t (xg_icF (u := 2) (v := 5) rfl xnm0 xnm0 (by decide)) ?_
                      refine xg_t (xg_aload (va := (2, 82)) rfl rfl) ?_
                      refine xg_t (xg_getf (va := (2, 83)) (hb923.get (by decide) (hb912.get (by decide) h82_684)) rfl) ?_
                      refine xg_t (xg_iload (va := (0, 2)) rfl rfl) ?_
                      refine xg_t (xg_aload (va := (2, 82)) rfl rfl) ?_
                      refine xg_t (xg_getf (va := (2, 85)) (hb923.get (by decide) (hb912.get (by decide) h82_684)) rfl) ?_
                      refine xg_t (xg_iload (va := (0, 2)) rfl rfl) ?_
                      refine xg_ialdB (n := 2) (B := 4294967295) ((h85_693.but hb912 (by decide)).but hb923 (by decide)) (hb694) xnm0 (by omega) (fun u929 hu930 he931 => ?_)
                      refine xg_iastK (n := 2) (u := u929) hr922 xnm0 xnm0 rfl (by omega) (fun w932 hr933 hb934 => ?_)
                      have hb935 : ∀ j, (fun j => if j = 2 then u929 else g925 j) j ≤ 4294967295 := xrb (by omega) (hb924)
                      obtain ⟨g936, hg937⟩ : ∃ g : Nat → Nat, g = (fun j => if j = 2 then u929 else g925 j) := ⟨_, rfl⟩
                      rw [← hg937] at hr933
                      have he938 : g936 2 = u929 := by rw [hg937]; exact if_pos rfl
                      have hk939 : ∀ j, j ≠ 2 → g936 j = g925 j := fun j hj => by rw [hg937]; exact if_neg hj
                      rw [← hg937] at hb935
                      refine xg_t (xg_iinc (u := 2) (z := 3) (l1 := [(0, (2, 82))]) rfl rfl (by decide) rfl) ?_
                      refine xg_t (xg_goto) ?_
                      refine xg_t (xg_blk (b := [(179, 1, 2, 1, 0, 0), (180, 1, 3, 5, 0, 0), (181, 3, 6, 202, 3, 0), (184, 1, 0, 0, 0, 0), (185, 3, 1, 12, 0, 7), (188, 1, 2, 1, 0, 0), (189, 1, 0, 0, 0, 0), (190, 3, 1, 12, 11, 17), (193, 1, 2, 1, 0, 0), (194, 1, 10, 0, 0, 0), (195, 1, 17, 0, 0, 0), (196, 3, 9, 1, 1, 0), (199, 3, 8, 179, 0, 0)]) rfl) ?_
                      refine xg_t (xg_iload (va := (0, 3)) rfl rfl) ?_
                      refine xg_t (xg_const) ?_
                      refine xg_t (xg_icF (u := 3) (v := 5) rfl xnm0 xnm0 (by decide)) ?_
                      refine xg_t (xg_aload (va := (2, 82)) rfl rfl) ?_
                      refine xg_t (xg_getf (va := (2, 83)) (hb934.get (by decide) (hb923.get (by decide) (hb912.get (by decide) h82_684))) rfl) ?_
                      refine xg_t (xg_iload (va := (0, 3)) rfl rfl) ?_
                      refine xg_t (xg_aload (va := (2, 82)) rfl rfl) ?_
                      refine xg_t (xg_getf (va := (2, 85)) (hb934.get (by decide) (hb923.get (by decide) (hb912.get (by decide) h82_684))) rfl) ?_
                      refine xg_t (xg_iload (va := (0, 3)) rfl rfl) ?_
                      refine xg_ialdB (n := 3) (B := 4294967295) (((h85_693.but hb912 (by decide)).but hb923 (by decide)).but hb934 (by decide)) (hb694) xnm0 (by omega) (fun u940 hu941 he942 => ?_)
                      refine xg_iastK (n := 3) (u := u940) hr933 xnm0 xnm0 rfl (by omega) (fun w943 hr944 hb945 => ?_)
                      have hb946 : ∀ j, (fun j => if j = 3 then u940 else g936 j) j ≤ 4294967295 := xrb (by omega) (hb935)
                      obtain ⟨g947, hg948⟩ : ∃ g : Nat → Nat, g = (fun j => if j = 3 then u940 else g936 j) := ⟨_, rfl⟩
                      rw [← hg948] at hr944
                      have he949 : g947 3 = u940 := by rw [hg948]; exact if_pos rfl
                      have hk950 : ∀ j, j ≠ 3 → g947 j = g936 j := fun j hj => by rw [hg948]; exact if_neg hj
                      rw [← hg948] at hb946
                      refine xg_t (xg_iinc (u := 3) (z := 4) (l1 := [(0, (2, 82))]) rfl rfl (by decide) rfl) ?_
                      refine xg_t (xg_goto) ?_
                      refine xg_t (xg_blk (b := [(179, 1, 2, 1, 0, 0), (180, 1, 3, 5, 0, 0), (181, 3, 6, 202, 3, 0), (184, 1, 0, 0, 0, 0), (185, 3, 1, 12, 0, 7), (188, 1, 2, 1, 0, 0), (189, 1, 0, 0, 0, 0), (190, 3, 1, 12, 11, 17), (193, 1, 2, 1, 0, 0), (194, 1, 10, 0, 0, 0), (195, 1, 17, 0, 0, 0), (196, 3, 9, 1, 1, 0), (199, 3, 8, 179, 0, 0)]) rfl) ?_
                      refine xg_t (xg_iload (va := (0, 4)) rfl rfl) ?_
                      refine xg_t (xg_const) ?_
                      refine xg_t (xg_icF (u := 4) (v := 5) rfl xnm0 xnm0 (by decide)) ?_
                      refine xg_t (xg_aload (va := (2, 82)) rfl rfl) ?_
                      refine xg_t (xg_getf (va := (2, 83)) (hb945.get (by decide) (hb934.get (by decide) (hb923.get (by decide) (hb912.get (by decide) h82_684)))) rfl) ?_
                      refine xg_t (xg_iload (va := (0, 4)) rfl rfl) ?_
                      refine xg_t (xg_aload (va := (2, 82)) rfl rfl) ?_
                      refine xg_t (xg_getf (va := (2, 85)) (hb945.get (by decide) (hb934.get (by decide) (hb923.get (by decide) (hb912.get (by decide) h82_684)))) rfl) ?_
                      refine xg_t (xg_iload (va := (0, 4)) rfl rfl) ?_
                      refine xg_ialdB (n := 4) (B := 4294967295) ((((h85_693.but hb912 (by decide)).but hb923 (by decide)).but hb934 (by decide)).but hb945 (by decide)) (hb694) xnm0 (by omega) (fun u951 hu952 he953 => ?_)
                      refine xg_iastK (n := 4) (u := u951) hr944 xnm0 xnm0 rfl (by omega) (fun w954 hr955 hb956 => ?_)
                      have hb957 : ∀ j, (fun j => if j = 4 then u951 else g947 j) j ≤ 4294967295 := xrb (by omega) (hb946)
                      obtain ⟨g958, hg959⟩ : ∃ g : Nat → Nat, g = (fun j => if j = 4 then u951 else g947 j) := ⟨_, rfl⟩
                      rw [← hg959] at hr955
                      have he960 : g958 4 = u951 := by rw [hg959]; exact if_pos rfl
                      have hk961 : ∀ j, j ≠ 4 → g958 j = g947 j := fun j hj => by rw [hg959]; exact if_neg hj
                      rw [← hg959] at hb957
                      refine xg_t (xg_iinc (u := 4) (z := 5) (l1 := [(0, (2, 82))]) rfl rfl (by decide) rfl) ?_
                      refine xg_t (xg_goto) ?_
                      refine xg_t (xg_blk (b := [(179, 1, 2, 1, 0, 0), (180, 1, 3, 5, 0, 0), (181, 3, 6, 202, 3, 0), (184, 1, 0, 0, 0, 0), (185, 3, 1, 12, 0, 7), (188, 1, 2, 1, 0, 0), (189, 1, 0, 0, 0, 0), (190, 3, 1, 12, 11, 17), (193, 1, 2, 1, 0, 0), (194, 1, 10, 0, 0, 0), (195, 1, 17, 0, 0, 0), (196, 3, 9, 1, 1, 0), (199, 3, 8, 179, 0, 0)]) rfl) ?_
                      refine xg_t (xg_iload (va := (0, 5)) rfl rfl) ?_
                      refine xg_t (xg_const) ?_
                      refine xg_t (xg_icT (u := 5) (v := 5) rfl xnm0 xnm0 (by decide)) ?_
                      refine xg_t (xg_blk (b := [(202, 1, 3, 5, 0, 0), (203, 1, 15, 1, 0, 0)]) rfl) ?_
                      refine xg_t (xg_const) ?_
                      refine xg_t (xg_istore (l1 := [(0, (2, 82))]) rfl rfl rfl) ?_
                      refine xg_t (xg_blk (b := [(204, 1, 2, 1, 0, 0), (205, 2, 4, 8, 0, 0), (207, 3, 6, 228, 4, 0), (210, 1, 0, 0, 0, 0), (211, 3, 1, 12, 0, 7), (214, 1, 2, 1, 0, 0), (215, 1, 0, 0, 0, 0), (216, 3, 1, 12, 12, 20), (219, 1, 2, 1, 0, 0), (220, 1, 10, 0, 0, 0), (221, 1, 17, 0, 0, 0), (222, 3, 9, 1, 1, 0), (225, 3, 8, 204, 0, 0)]) rfl) ?_
                      refine xg_t (xg_iload (va := (0, 5)) rfl rfl) ?_
                      refine xg_t (xg_bip) ?_
                      refine xg_t (xg_icF (u := 5) (v := 8) rfl xnm0 xnm0 (by decide)) ?_
                      refine xg_t (xg_aload (va := (2, 82)) rfl rfl) ?_
                      refine xg_t (xg_getf (va := (2, 83)) (hb956.get (by decide) (hb945.get (by decide) (hb934.get (by decide) (hb923.get (by decide) (hb912.get (by decide) h82_684))))) rfl) ?_
                      refine xg_t (xg_iload (va := (0, 5)) rfl rfl) ?_
                      refine xg_t (xg_aload (va := (2, 82)) rfl rfl) ?_
                      refine xg_t (xg_getf (va := (2, 86)) (hb956.get (by decide) (hb945.get (by decide) (hb934.get (by decide) (hb923.get (by decide) (hb912.get (by decide) h82_684))))) rfl) ?_
                      refine xg_t (xg_iload (va := (0, 5)) rfl rfl) ?_
                      refine xg_ialdB (n := 5) (B := 4294967295) (((((h86_696.but hb912 (by decide)).but hb923 (by decide)).but hb934 (by decide)).but hb945 (by decide)).but hb956 (by decide)) (hb697) xnm0 (by omega) (fun u962 hu963 he964 => ?_)
                      refine xg_iastK (n := 5) (u := u962) hr955 xnm0 xnm0 rfl (by omega) (fun w965 hr966 hb967 => ?_)
                      have hb968 : ∀ j, (fun j => if j = 5 then u962 else g958 j) j ≤ 4294967295 := xrb (by omega) (hb957)
                      obtain ⟨g969, hg970⟩ : ∃ g : Nat → Nat, g = (fun j => if j = 5 then u962 else g958 j) := ⟨_, rfl⟩
                      rw [← hg970] at hr966
                      have he971 : g969 5 = u962 := by rw [hg970]; exact if_pos rfl
                      have hk972 : ∀ j, j ≠ 5 → g969 j = g958 j := fun j hj => by rw [hg970]; exact if_neg hj
                      rw [← hg970] at hb968
                      refine xg_t (xg_iinc (u := 5) (z := 6) (l1 := [(0, (2, 82))]) rfl rfl (by decide) rfl) ?_
                      refine xg_t (xg_goto) ?_
                      refine xg_t (xg_blk (b := [(204, 1, 2, 1, 0, 0), (205, 2, 4, 8, 0, 0), (207, 3, 6, 228, 4, 0), (210, 1, 0, 0, 0, 0), (211, 3, 1, 12, 0, 7), (214, 1, 2, 1, 0, 0), (215, 1, 0, 0, 0, 0), (216, 3, 1, 12, 12, 20), (219, 1, 2, 1, 0, 0), (220, 1, 10, 0, 0, 0), (221, 1, 17, 0, 0, 0), (222, 3, 9, 1, 1, 0), (225, 3, 8, 204, 0, 0)]) rfl) ?_
                      refine xg_t (xg_iload (va := (0, 6)) rfl rfl) ?_
                      refine xg_t (xg_bip) ?_
                      refine xg_t (xg_icF (u := 6) (v := 8) rfl xnm0 xnm0 (by decide)) ?_
                      refine xg_t (xg_aload (va := (2, 82)) rfl rfl) ?_
                      refine xg_t (xg_getf (va := (2, 83)) (hb967.get (by decide) (hb956.get (by decide) (hb945.get (by decide) (hb934.get (by decide) (hb923.get (by decide) (hb912.get (by decide) h82_684)))))) rfl) ?_
                      refine xg_t (xg_iload (va := (0, 6)) rfl rfl) ?_
                      refine xg_t (xg_aload (va := (2, 82)) rfl rfl) ?_
                      refine xg_t (xg_getf (va := (2, 86)) (hb967.get (by decide) (hb956.get (by decide) (hb945.get (by decide) (hb934.get (by decide) (hb923.get (by decide) (hb912.get (by decide) h82_684)))))) rfl) ?_
                      refine xg_t (xg_iload (va := (0, 6)) rfl rfl) ?_
                      refine xg_ialdB (n := 6) (B := 4294967295) ((((((h86_696.but hb912 (by decide)).but hb923 (by decide)).but hb934 (by decide)).but hb945 (by decide)).but hb956 (by decide)).but hb967 (by decide)) (hb697) xnm0 (by omega) (fun u973 hu974 he975 => ?_)
                      refine xg_iastK (n := 6) (u := u973) hr966 xnm0 xnm0 rfl (by omega) (fun w976 hr977 hb978 => ?_)
                      have hb979 : ∀ j, (fun j => if j = 6 then u973 else g969 j) j ≤ 4294967295 := xrb (by omega) (hb968)
                      obtain ⟨g980, hg981⟩ : ∃ g : Nat → Nat, g = (fun j => if j = 6 then u973 else g969 j) := ⟨_, rfl⟩
                      rw [← hg981] at hr977
                      have he982 : g980 6 = u973 := by rw [hg981]; exact if_pos rfl
                      have hk983 : ∀ j, j ≠ 6 → g980 j = g969 j := fun j hj => by rw [hg981]; exact if_neg hj
                      rw [← hg981] at hb979
                      refine xg_t (xg_iinc (u := 6) (z := 7) (l1 := [(0, (2, 82))]) rfl rfl (by decide) rfl) ?_
                      refine xg_t (xg_goto) ?_
                      refine xg_t (xg_blk (b := [(204, 1, 2, 1, 0, 0), (205, 2, 4, 8, 0, 0), (207, 3, 6, 228, 4, 0), (210, 1, 0, 0, 0, 0), (211, 3, 1, 12, 0, 7), (214, 1, 2, 1, 0, 0), (215, 1, 0, 0, 0, 0), (216, 3, 1, 12, 12, 20), (219, 1, 2, 1, 0, 0), (220, 1, 10, 0, 0, 0), (221, 1, 17, 0, 0, 0), (222, 3, 9, 1, 1, 0), (225, 3, 8, 204, 0, 0)]) rfl) ?_
                      refine xg_t (xg_iload (va := (0, 7)) rfl rfl) ?_
                      refine xg_t (xg_bip) ?_
                      refine xg_t (xg_icF (u := 7) (v := 8) rfl xnm0 xnm0 (by decide)) ?_
                      refine xg_t (xg_aload (va := (2, 82)) rfl rfl) ?_
                      refine xg_t (xg_getf (va := (2, 83)) (hb978.get (by decide) (hb967.get (by decide) (hb956.get (by decide) (hb945.get (by decide) (hb934.get (by decide) (hb923.get (by decide) (hb912.get (by decide) h82_684))))))) rfl) ?_
                      refine xg_t (xg_iload (va := (0, 7)) rfl rfl) ?_
                      refine xg_t (xg_aload (va := (2, 82)) rfl rfl) ?_
                      refine xg_t (xg_getf (va := (2, 86)) (hb978.get (by decide) (hb967.get (by decide) (hb956.get (by decide) (hb945.get (by decide) (hb934.get (by decide) (hb923.get (by decide) (hb912.get (by decide) h82_684))))))) rfl) ?_
                      refine xg_t (xg_iload (va := (0, 7)) rfl rfl) ?_
                      refine xg_ialdB (n := 7) (B := 4294967295) (((((((h86_696.but hb912 (by decide)).but hb923 (by decide)).but hb934 (by decide)).but hb945 (by decide)).but hb956 (by decide)).but hb967 (by decide)).but hb978 (by decide)) (hb697) xnm0 (by omega) (fun u984 hu985 he986 => ?_)
                      refine xg_iastK (n := 7) (u := u984) hr977 xnm0 xnm0 rfl (by omega) (fun w987 hr988 hb989 => ?_)
                      have hb990 : ∀ j, (fun j => if j = 7 then u984 else g980 j) j ≤ 4294967295 := xrb (by omega) (hb979)
                      obtain ⟨g991, hg992⟩ : ∃ g : Nat → Nat, g = (fun j => if j = 7 then u984 else g980 j) := ⟨_, rfl⟩
                      rw [← hg992] at hr988
                      have he993 : g991 7 = u984 := by rw [hg992]; exact if_pos rfl
                      have hk994 : ∀ j, j ≠ 7 → g991 j = g980 j := fun j hj => by rw [hg992]; exact if_neg hj
                      rw [← hg992] at hb990
                      refine xg_t (xg_iinc (u := 7) (z := 8) (l1 := [(0, (2, 82))]) rfl rfl (by decide) rfl) ?_
                      refine xg_t (xg_goto) ?_
                      refine xg_t (xg_blk (b := [(204, 1, 2, 1, 0, 0), (205, 2, 4, 8, 0, 0), (207, 3, 6, 228, 4, 0), (210, 1, 0, 0, 0, 0), (211, 3, 1, 12, 0, 7), (214, 1, 2, 1, 0, 0), (215, 1, 0, 0, 0, 0), (216, 3, 1, 12, 12, 20), (219, 1, 2, 1, 0, 0), (220, 1, 10, 0, 0, 0), (221, 1, 17, 0, 0, 0), (222, 3, 9, 1, 1, 0), (225, 3, 8, 204, 0, 0)]) rfl) ?_
                      refine xg_t (xg_iload (va := (0, 8)) rfl rfl) ?_
                      refine xg_t (xg_bip) ?_
                      refine xg_t (xg_icF (u := 8) (v := 8) rfl xnm0 xnm0 (by decide)) ?_
                      refine xg_t (xg_aload (va := (2, 82)) rfl rfl) ?_
                      refine xg_t (xg_getf (va := (2, 83)) (hb989.get (by decide) (hb978.get (by decide) (hb967.get (by decide) (hb956.get (by decide) (hb945.get (by decide) (hb934.get (by decide) (hb923.get (by decide) (hb912.get (by decide) h82_684)))))))) rfl) ?_
                      refine xg_t (xg_iload (va := (0, 8)) rfl rfl) ?_
                      refine xg_t (xg_aload (va := (2, 82)) rfl rfl) ?_
                      refine xg_t (xg_getf (va := (2, 86)) (hb989.get (by decide) (hb978.get (by decide) (hb967.get (by decide) (hb956.get (by decide) (hb945.get (by decide) (hb934.get (by decide) (hb923.get (by decide) (hb912.get (by decide) h82_684)))))))) rfl) ?_
                      refine xg_t (xg_iload (va := (0, 8)) rfl rfl) ?_
                      refine xg_ialdB (n := 8) (B := 4294967295) ((((((((h86_696.but hb912 (by decide)).but hb923 (by decide)).but hb934 (by decide)).but hb945 (by decide)).but hb956 (by decide)).but hb967 (by decide)).but hb978 (by decide)).but hb989 (by decide)) (hb697) xnm0 (by omega) (fun u995 hu996 he997 => ?_)
                      refine xg_iastK (n := 8) (u := u995) hr988 xnm0 xnm0 rfl (by omega) (fun w998 hr999 hb1000 => ?_)
                      have hb1001 : ∀ j, (fun j => if j = 8 then u995 else g991 j) j ≤ 4294967295 := xrb (by omega) (hb990)
                      obtain ⟨g1002, hg1003⟩ : ∃ g : Nat → Nat, g = (fun j => if j = 8 then u995 else g991 j) := ⟨_, rfl⟩
                      rw [← hg1003] at hr999
                      have he1004 : g1002 8 = u995 := by rw [hg1003]; exact if_pos rfl
                      have hk1005 : ∀ j, j ≠ 8 → g1002 j = g991 j := fun j hj => by rw [hg1003]; exact if_neg hj
                      rw [← hg1003] at hb1001
                      refine xg_t (xg_iinc (u := 8) (z := 9) (l1 := [(0, (2, 82))]) rfl rfl (by decide) rfl) ?_
                      refine xg_t (xg_goto) ?_
                      refine xg_t (xg_blk (b := [(204, 1, 2, 1, 0, 0), (205, 2, 4, 8, 0, 0), (207, 3, 6, 228, 4, 0), (210, 1, 0, 0, 0, 0), (211, 3, 1, 12, 0, 7), (214, 1, 2, 1, 0, 0), (215, 1, 0, 0, 0, 0), (216, 3, 1, 12, 12, 20), (219, 1, 2, 1, 0, 0), (220, 1, 10, 0, 0, 0), (221, 1, 17, 0, 0, 0), (222, 3, 9, 1, 1, 0), (225, 3, 8, 204, 0, 0)]) rfl) ?_
                      refine xg_t (xg_iload (va := (0, 9)) rfl rfl) ?_
                      refine xg_t (xg_bip) ?_
                      refine xg_t (xg_icT (u := 9) (v := 8) rfl xnm0 xnm0 (by decide)) ?_
                      refine xg_t (xg_blk (b := [(228, 2, 4, 20, 0, 0), (230, 1, 15, 1, 0, 0)]) rfl) ?_
                      refine xg_t (xg_bip) ?_
                      refine xg_t (xg_istore (l1 := [(0, (2, 82))]) rfl rfl rfl) ?_
                      refine xg_t (xg_drop (l1 := [(0, (2, 82)), (1, (0, 20))]) (List.forall_mem_cons.mpr ⟨List.mem_cons_of_mem _ (List.mem_cons_self), List.forall_mem_cons.mpr ⟨List.mem_cons_self, fun _ h => absurd h List.not_mem_nil⟩⟩)) ?_
                      refine cpFilm 120 20 w998 g1002 (by decide) hr999 hb1001 (((((((((h86_696.but hb912 (by decide)).but hb923 (by decide)).but hb934 (by decide)).but hb945 (by decide)).but hb956 (by decide)).but hb967 (by decide)).but hb978 (by decide)).but hb989 (by decide)).but hb1000 (by decide)) hb697 (hb1000.get (by decide) (hb989.get (by decide) (hb978.get (by decide) (hb967.get (by decide) (hb956.get (by decide) (hb945.get (by decide) (hb934.get (by decide) (hb923.get (by decide) (hb912.get (by decide) h82_684))))))))) (fun w1006 g1007 hc1008 hc1009 hc1010 hc1011 hc1012 => ?_)
                      refine xg_t (xg_blk (b := [(256, 1, 0, 0, 0, 0), (257, 3, 1, 12, 0, 7), (260, 2, 4, 9, 0, 0), (262, 1, 3, 0, 0, 0), (263, 1, 17, 0, 0, 0), (264, 1, 0, 0, 0, 0), (265, 3, 1, 12, 0, 7), (268, 2, 4, 10, 0, 0), (270, 1, 3, 0, 0, 0), (271, 1, 17, 0, 0, 0), (272, 1, 0, 0, 0, 0), (273, 3, 1, 12, 0, 7), (276, 2, 4, 14, 0, 0), (278, 1, 0, 0, 0, 0), (279, 3, 1, 12, 14, 212), (282, 1, 17, 0, 0, 0), (283, 1, 0, 0, 0, 0), (284, 3, 1, 12, 14, 212), (287, 1, 12, 0, 1, 0)]) rfl) ?_
                      refine xg_t (xg_aload (va := (2, 82)) rfl rfl) ?_
                      refine xg_t (xg_getf (va := (2, 83)) (hc1010.get (by decide) (hb1000.get (by decide) (hb989.get (by decide) (hb978.get (by decide) (hb967.get (by decide) (hb956.get (by decide) (hb945.get (by decide) (hb934.get (by decide) (hb923.get (by decide) (hb912.get (by decide) h82_684)))))))))) rfl) ?_
                      refine xg_t (xg_bip) ?_
                      refine xg_t (xg_const) ?_
                      refine xg_iastK (n := 9) (u := 0) hc1008 xnm0 xnm0 rfl (by omega) (fun w1013 hr1014 hb1015 => ?_)
                      have hb1016 : ∀ j, (fun j => if j = 9 then 0 else g1007 j) j ≤ 4294967295 := xrb (by omega) (hc1009)
                      obtain ⟨g1017, hg1018⟩ : ∃ g : Nat → Nat, g = (fun j => if j = 9 then 0 else g1007 j) := ⟨_, rfl⟩
                      rw [← hg1018] at hr1014
                      have he1019 : g1017 9 = 0 := by rw [hg1018]; exact if_pos rfl
                      have hk1020 : ∀ j, j ≠ 9 → g1017 j = g1007 j := fun j hj => by rw [hg1018]; exact if_neg hj
                      rw [← hg1018] at hb1016
                      refine xg_t (xg_aload (va := (2, 82)) rfl rfl) ?_
                      refine xg_t (xg_getf (va := (2, 83)) (hb1015.get (by decide) (hc1010.get (by decide) (hb1000.get (by decide) (hb989.get (by decide) (hb978.get (by decide) (hb967.get (by decide) (hb956.get (by decide) (hb945.get (by decide) (hb934.get (by decide) (hb923.get (by decide) (hb912.get (by decide) h82_684))))))))))) rfl) ?_
                      refine xg_t (xg_bip) ?_
                      refine xg_t (xg_const) ?_
                      refine xg_iastK (n := 10) (u := 0) hr1014 xnm0 xnm0 rfl (by omega) (fun w1021 hr1022 hb1023 => ?_)
                      have hb1024 : ∀ j, (fun j => if j = 10 then 0 else g1017 j) j ≤ 4294967295 := xrb (by omega) (hb1016)
                      obtain ⟨g1025, hg1026⟩ : ∃ g : Nat → Nat, g = (fun j => if j = 10 then 0 else g1017 j) := ⟨_, rfl⟩
                      rw [← hg1026] at hr1022
                      have he1027 : g1025 10 = 0 := by rw [hg1026]; exact if_pos rfl
                      have hk1028 : ∀ j, j ≠ 10 → g1025 j = g1017 j := fun j hj => by rw [hg1026]; exact if_neg hj
                      rw [← hg1026] at hb1024
                      refine xg_t (xg_aload (va := (2, 82)) rfl rfl) ?_
                      refine xg_t (xg_getf (va := (2, 83)) (hb1023.get (by decide) (hb1015.get (by decide) (hc1010.get (by decide) (hb1000.get (by decide) (hb989.get (by decide) (hb978.get (by decide) (hb967.get (by decide) (hb956.get (by decide) (hb945.get (by decide) (hb934.get (by decide) (hb923.get (by decide) (hb912.get (by decide) h82_684)))))))))))) rfl) ?_
                      refine xg_t (xg_bip) ?_
                      refine xg_t (xg_aload (va := (2, 82)) rfl rfl) ?_
                      refine xg_t (xg_getf (va := (0, f82_672)) (hb1023.get (by decide) (hb1015.get (by decide) (hc1010.get (by decide) (hb1000.get (by decide) (hb989.get (by decide) (hb978.get (by decide) (hb967.get (by decide) (hb956.get (by decide) (hb945.get (by decide) (hb934.get (by decide) (hb923.get (by decide) (hb912.get (by decide) h82_684)))))))))))) rfl) ?_
                      refine xg_iastK (n := 14) (u := f82_672) hr1022 xnm0 xnm0 rfl (by omega) (fun w1029 hr1030 hb1031 => ?_)
                      have hb1032 : ∀ j, (fun j => if j = 14 then f82_672 else g1025 j) j ≤ 4294967295 := xrb (by omega) (hb1024)
                      obtain ⟨g1033, hg1034⟩ : ∃ g : Nat → Nat, g = (fun j => if j = 14 then f82_672 else g1025 j) := ⟨_, rfl⟩
                      rw [← hg1034] at hr1030
                      have he1035 : g1033 14 = f82_672 := by rw [hg1034]; exact if_pos rfl
                      have hk1036 : ∀ j, j ≠ 14 → g1033 j = g1025 j := fun j hj => by rw [hg1034]; exact if_neg hj
                      rw [← hg1034] at hb1032
                      have hq1037 : g1033 0 = u907 := by rw [hk1036 0 (by omega), hk1028 0 (by omega), hk1020 0 (by omega), hc1012 0 (by omega), hk1005 0 (by omega), hk994 0 (by omega), hk983 0 (by omega), hk972 0 (by omega), hk961 0 (by omega), hk950 0 (by omega), hk939 0 (by omega), hk928 0 (by omega), he916]
                      have hq1038 : g1033 1 = u918 := by rw [hk1036 1 (by omega), hk1028 1 (by omega), hk1020 1 (by omega), hc1012 1 (by omega), hk1005 1 (by omega), hk994 1 (by omega), hk983 1 (by omega), hk972 1 (by omega), hk961 1 (by omega), hk950 1 (by omega), hk939 1 (by omega), he927]
                      have hq1039 : g1033 2 = u929 := by rw [hk1036 2 (by omega), hk1028 2 (by omega), hk1020 2 (by omega), hc1012 2 (by omega), hk1005 2 (by omega), hk994 2 (by omega), hk983 2 (by omega), hk972 2 (by omega), hk961 2 (by omega), hk950 2 (by omega), he938]
                      have hq1040 : g1033 3 = u940 := by rw [hk1036 3 (by omega), hk1028 3 (by omega), hk1020 3 (by omega), hc1012 3 (by omega), hk1005 3 (by omega), hk994 3 (by omega), hk983 3 (by omega), hk972 3 (by omega), hk961 3 (by omega), he949]
                      have hq1041 : g1033 4 = u951 := by rw [hk1036 4 (by omega), hk1028 4 (by omega), hk1020 4 (by omega), hc1012 4 (by omega), hk1005 4 (by omega), hk994 4 (by omega), hk983 4 (by omega), hk972 4 (by omega), he960]
                      have hq1042 : g1033 5 = u962 := by rw [hk1036 5 (by omega), hk1028 5 (by omega), hk1020 5 (by omega), hc1012 5 (by omega), hk1005 5 (by omega), hk994 5 (by omega), hk983 5 (by omega), he971]
                      have hq1043 : g1033 6 = u973 := by rw [hk1036 6 (by omega), hk1028 6 (by omega), hk1020 6 (by omega), hc1012 6 (by omega), hk1005 6 (by omega), hk994 6 (by omega), he982]
                      have hq1044 : g1033 7 = u984 := by rw [hk1036 7 (by omega), hk1028 7 (by omega), hk1020 7 (by omega), hc1012 7 (by omega), hk1005 7 (by omega), he993]
                      have hq1045 : g1033 8 = u995 := by rw [hk1036 8 (by omega), hk1028 8 (by omega), hk1020 8 (by omega), hc1012 8 (by omega), he1004]
                      have hq1046 : g1033 9 = 0 := by rw [hk1036 9 (by omega), hk1028 9 (by omega), he1019]
                      have hq1047 : g1033 10 = 0 := by rw [hk1036 10 (by omega), he1027]
                      have hq1048 : ∀ j, 20 ≤ j → j < 140 → g1033 j = g86_695 j := fun j h1 h2 => by rw [hk1036 j (by omega), hk1028 j (by omega), hk1020 j (by omega)]; exact hc1011 j h1 h2
                      have hq1049 : ∀ j, 140 ≤ j ∨ j = 13 ∨ j = 15 → g1033 j = g83_686 j := fun j hj => by rw [hk1036 j (by omega), hk1028 j (by omega), hk1020 j (by omega), hc1012 j (by omega), hk1005 j (by omega), hk994 j (by omega), hk983 j (by omega), hk972 j (by omega), hk961 j (by omega), hk950 j (by omega), hk939 j (by omega), hk928 j (by omega), hk917 j (by omega)]
                      have hx1050 : okA g1033 := film_ok hx689 hdt (by omega) (by omega) (by omega) (by omega) (by omega) (by omega) (by omega) (by omega) (by omega) (by omega) (by omega) hq1048 hq1049
                      refine xg_t (xg_aload (va := (2, 82)) rfl rfl) ?_
                      refine xg_t (xg_getf (va := (0, f82_672)) (hb1031.get (by decide) (hb1023.get (by decide) (hb1015.get (by decide) (hc1010.get (by decide) (hb1000.get (by decide) (hb989.get (by decide) (hb978.get (by decide) (hb967.get (by decide) (hb956.get (by decide) (hb945.get (by decide) (hb934.get (by decide) (hb923.get (by decide) (hb912.get (by decide) h82_684))))))))))))) rfl) ?_
                      exact xg_e ⟨f82_672, w1029, ⟨rfl, rfl⟩, by omega, xMnv.up (S := [83]) hI647 (((((((((((((xFr.of (S := [83]) hb912 (by decide)).tr (xFr.of (S := [83]) hb923 (by decide))).tr (xFr.of (S := [83]) hb934 (by decide))).tr (xFr.of (S := [83]) hb945 (by decide))).tr (xFr.of (S := [83]) hb956 (by decide))).tr (xFr.of (S := [83]) hb967 (by decide))).tr (xFr.of (S := [83]) hb978 (by decide))).tr (xFr.of (S := [83]) hb989 (by decide))).tr (xFr.of (S := [83]) hb1000 (by decide))).tr (xFr.of (S := [83]) hc1010 (by decide))).tr (xFr.of (S := [83]) hb1015 (by decide))).tr (xFr.of (S := [83]) hb1023 (by decide))).tr (xFr.of (S := [83]) hb1031 (by decide))) (List.forall_mem_cons.mpr ⟨(show cpx83 (wget w1029 83) from ⟨_, hr1030, hb1032, hx1050⟩), fun _ h => absurd h List.not_mem_nil⟩), (hF648.tr (((((((((((((xFr.of (S := [82, 83, 85, 86, 87]) hb912 (by decide)).tr (xFr.of (S := [82, 83, 85, 86, 87]) hb923 (by decide))).tr (xFr.of (S := [82, 83, 85, 86, 87]) hb934 (by decide))).tr (xFr.of (S := [82, 83, 85, 86, 87]) hb945 (by decide))).tr (xFr.of (S := [82, 83, 85, 86, 87]) hb956 (by decide))).tr (xFr.of (S := [82, 83, 85, 86, 87]) hb967 (by decide))).tr (xFr.of (S := [82, 83, 85, 86, 87]) hb978 (by decide))).tr (xFr.of (S := [82, 83, 85, 86, 87]) hb989 (by decide))).tr (xFr.of (S := [82, 83, 85, 86, 87]) hb1000 (by decide))).tr (xFr.of (S := [82, 83, 85, 86, 87]) hc1010 (by decide))).tr (xFr.of (S := [82, 83, 85, 86, 87]) hb1015 (by decide))).tr (xFr.of (S := [82, 83, 85, 86, 87]) hb1023 (by decide))).tr (xFr.of (S := [82, 83, 85, 86, 87]) hb1031 (by decide))))⟩
                    · refine xg_t (xg_ifF (u := u903) rfl xnm0 (xj_eqF hc906)) ?_
                      refine xg_t (xg_const) ?_
                      exact xg_e ⟨4294967295, w646, ⟨rfl, rfl⟩, by omega, hI647, hF648⟩
              exact key643 _ 0 w175 (Nat.lt_succ_self _) (by omega) (hI176) (hF177) (⟨hz180, hz183⟩)
        exact key172 _ w160 (Nat.lt_succ_self _) (hI162) (((hF47.tr ((((xFr.of (S := [82, 83, 85, 86, 87]) hb133 (by decide)).tr (xFr.of (S := [82, 83, 85, 86, 87]) hb136 (by decide))).tr (xFr.of (S := [82, 83, 85, 86, 87]) hb139 (by decide))).tr (xFr.of (S := [82, 83, 85, 86, 87]) hb142 (by decide)))).tr (hF163.up (by decide)))) (⟨(show fld w160 82 10 = 0 ∨ FA w160 ≠ 0 by omega), by omega, hM171, (Or.inr hD170)⟩)
  exact key42 _ 0 w33 (Nat.lt_succ_self _) (by omega) (hI35) ((hF36.up (by decide))) (⟨fun s hs => absurd hs (Nat.not_lt_zero _), hg38, hg39, hg40, hg41⟩)
end XMD
