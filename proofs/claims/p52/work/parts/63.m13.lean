/-! the model: film -/
/-- behind a text: the tape is empty, the rest of row 83 as it was, but for the fault and its place -/
def K15 (w w' : List (List xE)) : Prop := rwv w' 83 15 = 0 ∧ ∀ j, j < 5360 → j ≠ 15 → j ≠ 16 → j ≠ 17 → rwv w' 83 j = rwv w 83 j
theorem K15.k {w1 w2 w3 : List (List xE)} (h : K15 w1 w2) (k : K83 w2 w3) : K15 w1 w3 := ⟨(k 15 (by decide) (by decide) (by decide)).trans h.1, fun j a b c d => (k j a c d).trans (h.2 j a b c d)⟩
section XMD
variable {d : Nat} {w : List (List xE)} {bd : List (Nat × Nat)} {fc : List (Nat × Nat × Bool)} {rr : Nat × Nat}
theorem mBegins0 (hI : xMnv w)  : xPq d mX12_begins [(2, 82), (0, 0)] w bd fc rr [] (fun w' => xMnv w' ∧ xFr [82, 83] w w' ∧ (FA w' = 0 ∧ fld w' 82 10 = 0 ∧ fld w' 82 14 = 0 ∧ mu w' ≤ 1001 ∧ K15 w w')) := by
  refine xPq.of ?_
  show xTo d mX12_begins (0, [], [(0, (2, 82)), (1, (0, 0))], [], (w, bd, fc, 0, 0, rr)) (fun φ => ∃ w', xEnd 0 [] (w', bd, fc, 0, 0, rr) φ ∧ xMnv w' ∧ xFr [82, 83] w w' ∧ (FA w' = 0 ∧ fld w' 82 10 = 0 ∧ fld w' 82 14 = 0 ∧ mu w' ≤ 1001 ∧ K15 w w'))
  obtain ⟨f82_1, f82_3, f82_5, f82_7, f82_9, f82_11, f82_13, f82_15, f82_17, f82_19, f82_21, f82_22, f82_23, f82_25, f82_27, f82_29, h82_31, hb2, hb4, hb6, hb8, hb10, hb12, hb14, hb16, hb18, hb20, hb24, hb26, hb28, hb30, hb32⟩ := (hI 82 (by decide) (by decide) : cp82 (wget w 82))
  obtain ⟨g83_33, h83_34, hb35, hx36⟩ := (hI 83 (by decide) (by decide) : cpx83 (wget w 83))
  have h83_34 : xRow w 83 5360 50 g83_33 := h83_34
  refine xg_t (xg_blk (b := [(0, 1, 0, 0, 0, 0), (1, 1, 2, 1, 0, 0), (2, 3, 59, 12, 2, 137), (5, 1, 0, 0, 0, 0), (6, 1, 0, 0, 0, 0), (7, 3, 1, 12, 0, 7), (10, 2, 4, 15, 0, 0), (12, 1, 10, 0, 0, 0), (13, 3, 14, 12, 4, 109), (16, 1, 0, 0, 0, 0), (17, 3, 1, 12, 0, 7), (20, 2, 4, 15, 0, 0), (22, 1, 3, 0, 0, 0), (23, 1, 17, 0, 0, 0), (24, 1, 0, 0, 0, 0), (25, 1, 3, 0, 0, 0), (26, 3, 14, 12, 5, 141), (29, 1, 0, 0, 0, 0), (30, 3, 1, 12, 0, 7), (33, 2, 4, 16, 0, 0), (35, 1, 3, 0, 0, 0), (36, 1, 17, 0, 0, 0), (37, 1, 0, 0, 0, 0), (38, 3, 1, 12, 0, 7), (41, 2, 4, 17, 0, 0), (43, 1, 3, 4294967295, 0, 0), (44, 1, 17, 0, 0, 0), (45, 1, 0, 0, 0, 0), (46, 1, 3, 0, 0, 0), (47, 3, 59, 12, 10, 180), (50, 1, 0, 0, 0, 0), (51, 1, 3, 0, 0, 0), (52, 3, 14, 12, 14, 212), (55, 1, 12, 0, 0, 0)]) rfl) ?_
  refine xg_t (xg_aload (va := (2, 82)) rfl rfl) ?_
  refine xg_t (xg_iload (va := (0, 0)) rfl rfl) ?_
  refine xg_putZ (fl1 := [(2, 83), (2, 84), (0, 0), (0, f82_3), (0, f82_5), (0, f82_7), (0, f82_9), (0, f82_11), (0, f82_13), (0, f82_15), (0, f82_17), (2, 85), (2, 86), (2, 87), (0, f82_19), (2, 88), (2, 89), (2, 90), (2, 91), (2, 92), (2, 93), (2, 94), (4, f82_21), (4, f82_22), (0, f82_23), (2, 95), (2, 96), (2, 97), (2, 98), (2, 99), (2, 100), (2, 101), (2, 102), (0, f82_25), (2, 103), (2, 104), (2, 105), (2, 106), (2, 107), (2, 108), (2, 109), (0, f82_27), (0, f82_29), (2, 110), (2, 111), (2, 112), (2, 113)]) h82_31 rfl rfl rfl (fun w37 hk38 hb39 => ?_)
  refine xg_t (xg_aload (va := (2, 82)) rfl rfl) ?_
  refine xg_t (xg_aload (va := (2, 82)) rfl rfl) ?_
  refine xg_t (xg_getf (va := (2, 83)) hk38 rfl) ?_
  refine xg_t (xg_bip) ?_
  refine xg_ialdB (n := 15) (B := 4294967295) (h83_34.but hb39 (by decide)) (hb35) xnm0 (by omega) (fun u40 hu41 he42 => ?_)
  have hl43 : u40 ≤ 500 := by rw [← he42]; exact hx36.l15
  refine xg_putI (fl1 := [(2, 83), (2, 84), (0, 0), (0, f82_3), (0, u40), (0, f82_7), (0, f82_9), (0, f82_11), (0, f82_13), (0, f82_15), (0, f82_17), (2, 85), (2, 86), (2, 87), (0, f82_19), (2, 88), (2, 89), (2, 90), (2, 91), (2, 92), (2, 93), (2, 94), (4, f82_21), (4, f82_22), (0, f82_23), (2, 95), (2, 96), (2, 97), (2, 98), (2, 99), (2, 100), (2, 101), (2, 102), (0, f82_25), (2, 103), (2, 104), (2, 105), (2, 106), (2, 107), (2, 108), (2, 109), (0, f82_27), (0, f82_29), (2, 110), (2, 111), (2, 112), (2, 113)]) hk38 rfl rfl rfl (fun w44 hk45 hb46 => ?_)
  refine xg_t (xg_aload (va := (2, 82)) rfl rfl) ?_
  refine xg_t (xg_getf (va := (2, 83)) hk45 rfl) ?_
  refine xg_t (xg_bip) ?_
  refine xg_t (xg_const) ?_
  refine xg_iastK (n := 15) (u := 0) ((h83_34.but hb39 (by decide)).but hb46 (by decide)) xnm0 xnm0 rfl (by omega) (fun w47 hr48 hb49 => ?_)
  have hx50 : okA (fun j => if j = 15 then 0 else g83_33 j) := hx36.upd (by omega) (by omega) (by omega) (fun _ => by omega) (by omega) (fun _ => by omega) (fun _ => by omega) (fun _ => by omega) (fun _ => by omega) (by omega) (fun _ _ => by omega)
  have hb51 : ∀ j, (fun j => if j = 15 then 0 else g83_33 j) j ≤ 4294967295 := xrb (by omega) (hb35)
  obtain ⟨g52, hg53⟩ : ∃ g : Nat → Nat, g = (fun j => if j = 15 then 0 else g83_33 j) := ⟨_, rfl⟩
  rw [← hg53] at hr48
  have he54 : g52 15 = 0 := by rw [hg53]; exact if_pos rfl
  have hk55 : ∀ j, j ≠ 15 → g52 j = g83_33 j := fun j hj => by rw [hg53]; exact if_neg hj
  rw [← hg53] at hx50
  rw [← hg53] at hb51
  have hk56 : g52 16 = g83_33 16 := hk55 16 (by omega)
  refine xg_t (xg_aload (va := (2, 82)) rfl rfl) ?_
  refine xg_t (xg_const) ?_
  refine xg_putI (fl1 := [(2, 83), (2, 84), (0, 0), (0, f82_3), (0, u40), (0, 0), (0, f82_9), (0, f82_11), (0, f82_13), (0, f82_15), (0, f82_17), (2, 85), (2, 86), (2, 87), (0, f82_19), (2, 88), (2, 89), (2, 90), (2, 91), (2, 92), (2, 93), (2, 94), (4, f82_21), (4, f82_22), (0, f82_23), (2, 95), (2, 96), (2, 97), (2, 98), (2, 99), (2, 100), (2, 101), (2, 102), (0, f82_25), (2, 103), (2, 104), (2, 105), (2, 106), (2, 107), (2, 108), (2, 109), (0, f82_27), (0, f82_29), (2, 110), (2, 111), (2, 112), (2, 113)]) (hb49.get (by decide) hk45) rfl rfl rfl (fun w57 hk58 hb59 => ?_)
  refine xg_t (xg_aload (va := (2, 82)) rfl rfl) ?_
  refine xg_t (xg_getf (va := (2, 83)) hk58 rfl) ?_
  refine xg_t (xg_bip) ?_
  refine xg_t (xg_const) ?_
  refine xg_iastK (n := 16) (u := 0) (hr48.but hb59 (by decide)) xnm0 xnm0 rfl (by omega) (fun w60 hr61 hb62 => ?_)
  have hx63 : okA (fun j => if j = 16 then 0 else g52 j) := hx50.upd (by omega) (by omega) (by omega) (fun _ => by omega) (by omega) (fun _ => by omega) (fun _ => by omega) (fun _ => by omega) (fun _ => by omega) (by omega) (fun _ _ => by omega)
  have hb64 : ∀ j, (fun j => if j = 16 then 0 else g52 j) j ≤ 4294967295 := xrb (by omega) (hb51)
  obtain ⟨g65, hg66⟩ : ∃ g : Nat → Nat, g = (fun j => if j = 16 then 0 else g52 j) := ⟨_, rfl⟩
  rw [← hg66] at hr61
  have he67 : g65 16 = 0 := by rw [hg66]; exact if_pos rfl
  have hk68 : ∀ j, j ≠ 16 → g65 j = g52 j := fun j hj => by rw [hg66]; exact if_neg hj
  rw [← hg66] at hx63
  rw [← hg66] at hb64
  refine xg_t (xg_aload (va := (2, 82)) rfl rfl) ?_
  refine xg_t (xg_getf (va := (2, 83)) (hb62.get (by decide) hk58) rfl) ?_
  refine xg_t (xg_bip) ?_
  refine xg_t (xg_const) ?_
  refine xg_iastK (n := 17) (u := 4294967295) hr61 xnm0 xnm0 rfl (by omega) (fun w69 hr70 hb71 => ?_)
  have hx72 : okA (fun j => if j = 17 then 4294967295 else g65 j) := hx63.upd (by omega) (by omega) (by omega) (fun _ => by omega) (by omega) (fun _ => by omega) (fun _ => by omega) (fun _ => by omega) (fun _ => by omega) (by omega) (fun _ _ => by omega)
  have hb73 : ∀ j, (fun j => if j = 17 then 4294967295 else g65 j) j ≤ 4294967295 := xrb (by omega) (hb64)
  obtain ⟨g74, hg75⟩ : ∃ g : Nat → Nat, g = (fun j => if j = 17 then 4294967295 else g65 j) := ⟨_, rfl⟩
  rw [← hg75] at hr70
  have he76 : g74 17 = 4294967295 := by rw [hg75]; exact if_pos rfl
  have hk77 : ∀ j, j ≠ 17 → g74 j = g65 j := fun j hj => by rw [hg75]; exact if_neg hj
  rw [← hg75] at hx72
  rw [← hg75] at hb73
  have hk78 : g74 16 = g65 16 := hk77 16 (by omega)
  refine xg_t (xg_aload (va := (2, 82)) rfl rfl) ?_
  refine xg_t (xg_const) ?_
  refine xg_putZ (fl1 := [(2, 83), (2, 84), (0, 0), (0, f82_3), (0, u40), (0, 0), (0, f82_9), (0, f82_11), (0, f82_13), (0, f82_15), (0, 0), (2, 85), (2, 86), (2, 87), (0, f82_19), (2, 88), (2, 89), (2, 90), (2, 91), (2, 92), (2, 93), (2, 94), (4, f82_21), (4, f82_22), (0, f82_23), (2, 95), (2, 96), (2, 97), (2, 98), (2, 99), (2, 100), (2, 101), (2, 102), (0, f82_25), (2, 103), (2, 104), (2, 105), (2, 106), (2, 107), (2, 108), (2, 109), (0, f82_27), (0, f82_29), (2, 110), (2, 111), (2, 112), (2, 113)]) (hb71.get (by decide) (hb62.get (by decide) hk58)) rfl rfl rfl (fun w79 hk80 hb81 => ?_)
  refine xg_t (xg_aload (va := (2, 82)) rfl rfl) ?_
  refine xg_t (xg_const) ?_
  refine xg_putI (fl1 := [(2, 83), (2, 84), (0, 0), (0, f82_3), (0, u40), (0, 0), (0, f82_9), (0, f82_11), (0, f82_13), (0, f82_15), (0, 0), (2, 85), (2, 86), (2, 87), (0, 0), (2, 88), (2, 89), (2, 90), (2, 91), (2, 92), (2, 93), (2, 94), (4, f82_21), (4, f82_22), (0, f82_23), (2, 95), (2, 96), (2, 97), (2, 98), (2, 99), (2, 100), (2, 101), (2, 102), (0, f82_25), (2, 103), (2, 104), (2, 105), (2, 106), (2, 107), (2, 108), (2, 109), (0, f82_27), (0, f82_29), (2, 110), (2, 111), (2, 112), (2, 113)]) hk80 rfl rfl rfl (fun w82 hk83 hb84 => ?_)
  have hf85 : fld w82 82 4 = u40 := fld_of hk83
  have hf86 : fld w82 82 5 = 0 := fld_of hk83
  have hf87 : fld w82 82 7 = f82_11 := fld_of hk83
  have hf88 : fld w82 82 10 = 0 := fld_of hk83
  have hf89 : fld w82 82 14 = 0 := fld_of hk83
  have hu90 : mu w82 = 2 * (fld w82 82 4 - fld w82 82 5) + min 1 (fld w82 82 7) := rfl
  have hA91 : FA w82 = g74 16 := rwv_of ((hr70.but hb81 (by decide)).but hb84 (by decide)) (by decide)
  exact xg_e ⟨w82, ⟨rfl, rfl⟩, xMnv.up (S := [82, 83]) hI ((((((((xFr.of (S := [82, 83]) hb39 (by decide)).tr (xFr.of (S := [82, 83]) hb46 (by decide))).tr (xFr.of (S := [82, 83]) hb49 (by decide))).tr (xFr.of (S := [82, 83]) hb59 (by decide))).tr (xFr.of (S := [82, 83]) hb62 (by decide))).tr (xFr.of (S := [82, 83]) hb71 (by decide))).tr (xFr.of (S := [82, 83]) hb81 (by decide))).tr (xFr.of (S := [82, 83]) hb84 (by decide))) (List.forall_mem_cons.mpr ⟨(show cp82 (wget w82 82) from ⟨0, f82_3, u40, 0, f82_9, f82_11, f82_13, f82_15, 0, 0, f82_21, f82_22, f82_23, f82_25, f82_27, f82_29, hk83, by omega, by omega, by omega, by omega, by omega, by omega, by omega, by omega, by omega, by omega, by omega, by omega, by omega, by omega, by omega⟩), List.forall_mem_cons.mpr ⟨(show cpx83 (wget w82 83) from ⟨_, ((hr70.but hb81 (by decide)).but hb84 (by decide)), hb73, hx72⟩), fun _ h => absurd h List.not_mem_nil⟩⟩), ((((((((xFr.of (S := [82, 83]) hb39 (by decide)).tr (xFr.of (S := [82, 83]) hb46 (by decide))).tr (xFr.of (S := [82, 83]) hb49 (by decide))).tr (xFr.of (S := [82, 83]) hb59 (by decide))).tr (xFr.of (S := [82, 83]) hb62 (by decide))).tr (xFr.of (S := [82, 83]) hb71 (by decide))).tr (xFr.of (S := [82, 83]) hb81 (by decide))).tr (xFr.of (S := [82, 83]) hb84 (by decide))), ⟨by omega, by omega, by omega, by omega, ⟨(rwv_of ((hr70.but hb81 (by decide)).but hb84 (by decide)) (by decide)).trans (by rw [hk77 15 (by decide), hk68 15 (by decide), he54]), fun j a b c d => (rwv_of ((hr70.but hb81 (by decide)).but hb84 (by decide)) a).trans (Eq.trans (by rw [hk77 j (by omega), hk68 j (by omega), hk55 j (by omega)]) (rwv_of h83_34 a).symm)⟩⟩⟩
theorem mBegins1 (hI : xMnv w)  : xPq d mX12_begins [(2, 82), (0, 1)] w bd fc rr [] (fun w' => xMnv w' ∧ xFr [82, 83] w w' ∧ (FA w' = 0 ∧ fld w' 82 10 = 0 ∧ fld w' 82 14 = 0 ∧ mu w' ≤ 1001 ∧ K15 w w')) := by
  refine xPq.of ?_
  show xTo d mX12_begins (0, [], [(0, (2, 82)), (1, (0, 1))], [], (w, bd, fc, 0, 0, rr)) (fun φ => ∃ w', xEnd 0 [] (w', bd, fc, 0, 0, rr) φ ∧ xMnv w' ∧ xFr [82, 83] w w' ∧ (FA w' = 0 ∧ fld w' 82 10 = 0 ∧ fld w' 82 14 = 0 ∧ mu w' ≤ 1001 ∧ K15 w w'))
  obtain ⟨f82_1, f82_3, f82_5, f82_7, f82_9, f82_11, f82_13, f82_15, f82_17, f82_19, f82_21, f82_22, f82_23, f82_25, f82_27, f82_29, h82_31, hb2, hb4, hb6, hb8, hb10, hb12, hb14, hb16, hb18, hb20, hb24, hb26, hb28, hb30, hb32⟩ := (hI 82 (by decide) (by decide) : cp82 (wget w 82))
  obtain ⟨g83_33, h83_34, hb35, hx36⟩ := (hI 83 (by decide) (by decide) : cpx83 (wget w 83))
  have h83_34 : xRow w 83 5360 50 g83_33 := h83_34
  refine xg_t (xg_blk (b := [(0, 1, 0, 0, 0, 0), (1, 1, 2, 1, 0, 0), (2, 3, 59, 12, 2, 137), (5, 1, 0, 0, 0, 0), (6, 1, 0, 0, 0, 0), (7, 3, 1, 12, 0, 7), (10, 2, 4, 15, 0, 0), (12, 1, 10, 0, 0, 0), (13, 3, 14, 12, 4, 109), (16, 1, 0, 0, 0, 0), (17, 3, 1, 12, 0, 7), (20, 2, 4, 15, 0, 0), (22, 1, 3, 0, 0, 0), (23, 1, 17, 0, 0, 0), (24, 1, 0, 0, 0, 0), (25, 1, 3, 0, 0, 0), (26, 3, 14, 12, 5, 141), (29, 1, 0, 0, 0, 0), (30, 3, 1, 12, 0, 7), (33, 2, 4, 16, 0, 0), (35, 1, 3, 0, 0, 0), (36, 1, 17, 0, 0, 0), (37, 1, 0, 0, 0, 0), (38, 3, 1, 12, 0, 7), (41, 2, 4, 17, 0, 0), (43, 1, 3, 4294967295, 0, 0), (44, 1, 17, 0, 0, 0), (45, 1, 0, 0, 0, 0), (46, 1, 3, 0, 0, 0), (47, 3, 59, 12, 10, 180), (50, 1, 0, 0, 0, 0), (51, 1, 3, 0, 0, 0), (52, 3, 14, 12, 14, 212), (55, 1, 12, 0, 0, 0)]) rfl) ?_
  refine xg_t (xg_aload (va := (2, 82)) rfl rfl) ?_
  refine xg_t (xg_iload (va := (0, 1)) rfl rfl) ?_
  refine xg_putZ (fl1 := [(2, 83), (2, 84), (0, 1), (0, f82_3), (0, f82_5), (0, f82_7), (0, f82_9), (0, f82_11), (0, f82_13), (0, f82_15), (0, f82_17), (2, 85), (2, 86), (2, 87), (0, f82_19), (2, 88), (2, 89), (2, 90), (2, 91), (2, 92), (2, 93), (2, 94), (4, f82_21), (4, f82_22), (0, f82_23), (2, 95), (2, 96), (2, 97), (2, 98), (2, 99), (2, 100), (2, 101), (2, 102), (0, f82_25), (2, 103), (2, 104), (2, 105), (2, 106), (2, 107), (2, 108), (2, 109), (0, f82_27), (0, f82_29), (2, 110), (2, 111), (2, 112), (2, 113)]) h82_31 rfl rfl rfl (fun w37 hk38 hb39 => ?_)
  refine xg_t (xg_aload (va := (2, 82)) rfl rfl) ?_
  refine xg_t (xg_aload (va := (2, 82)) rfl rfl) ?_
  refine xg_t (xg_getf (va := (2, 83)) hk38 rfl) ?_
  refine xg_t (xg_bip) ?_
  refine xg_ialdB (n := 15) (B := 4294967295) (h83_34.but hb39 (by decide)) (hb35) xnm0 (by omega) (fun u40 hu41 he42 => ?_)
  have hl43 : u40 ≤ 500 := by rw [← he42]; exact hx36.l15
  refine xg_putI (fl1 := [(2, 83), (2, 84), (0, 1), (0, f82_3), (0, u40), (0, f82_7), (0, f82_9), (0, f82_11), (0, f82_13), (0, f82_15), (0, f82_17), (2, 85), (2, 86), (2, 87), (0, f82_19), (2, 88), (2, 89), (2, 90), (2, 91), (2, 92), (2, 93), (2, 94), (4, f82_21), (4, f82_22), (0, f82_23), (2, 95), (2, 96), (2, 97), (2, 98), (2, 99), (2, 100), (2, 101), (2, 102), (0, f82_25), (2, 103), (2, 104), (2, 105), (2, 106), (2, 107), (2, 108), (2, 109), (0, f82_27), (0, f82_29), (2, 110), (2, 111), (2, 112), (2, 113)]) hk38 rfl rfl rfl (fun w44 hk45 hb46 => ?_)
  refine xg_t (xg_aload (va := (2, 82)) rfl rfl) ?_
  refine xg_t (xg_getf (va := (2, 83)) hk45 rfl) ?_
  refine xg_t (xg_bip) ?_
  refine xg_t (xg_const) ?_
  refine xg_iastK (n := 15) (u := 0) ((h83_34.but hb39 (by decide)).but hb46 (by decide)) xnm0 xnm0 rfl (by omega) (fun w47 hr48 hb49 => ?_)
  have hx50 : okA (fun j => if j = 15 then 0 else g83_33 j) := hx36.upd (by omega) (by omega) (by omega) (fun _ => by omega) (by omega) (fun _ => by omega) (fun _ => by omega) (fun _ => by omega) (fun _ => by omega) (by omega) (fun _ _ => by omega)
  have hb51 : ∀ j, (fun j => if j = 15 then 0 else g83_33 j) j ≤ 4294967295 := xrb (by omega) (hb35)
  obtain ⟨g52, hg53⟩ : ∃ g : Nat → Nat, g = (fun j => if j = 15 then 0 else g83_33 j) := ⟨_, rfl⟩
  rw [← hg53] at hr48
  have he54 : g52 15 = 0 := by rw [hg53]; exact if_pos rfl
  have hk55 : ∀ j, j ≠ 15 → g52 j = g83_33 j := fun j hj => by rw [hg53]; exact if_neg hj
  rw [← hg53] at hx50
  rw [← hg53] at hb51
  have hk56 : g52 16 = g83_33 16 := hk55 16 (by omega)
  refine xg_t (xg_aload (va := (2, 82)) rfl rfl) ?_
  refine xg_t (xg_const) ?_
  refine xg_putI (fl1 := [(2, 83), (2, 84), (0, 1), (0, f82_3), (0, u40), (0, 0), (0, f82_9), (0, f82_11), (0, f82_13), (0, f82_15), (0, f82_17), (2, 85), (2, 86), (2, 87), (0, f82_19), (2, 88), (2, 89), (2, 90), (2, 91), (2, 92), (2, 93), (2, 94), (4, f82_21), (4, f82_22), (0, f82_23), (2, 95), (2, 96), (2, 97), (2, 98), (2, 99), (2, 100), (2, 101), (2, 102), (0, f82_25), (2, 103), (2, 104), (2, 105), (2, 106), (2, 107), (2, 108), (2, 109), (0, f82_27), (0, f82_29), (2, 110), (2, 111), (2, 112), (2, 113)]) (hb49.get (by decide) hk45) rfl rfl rfl (fun w57 hk58 hb59 => ?_)
  refine xg_t (xg_aload (va := (2, 82)) rfl rfl) ?_
  refine xg_t (xg_getf (va := (2, 83)) hk58 rfl) ?_
  refine xg_t (xg_bip) ?_
  refine xg_t (xg_const) ?_
  refine xg_iastK (n := 16) (u := 0) (hr48.but hb59 (by decide)) xnm0 xnm0 rfl (by omega) (fun w60 hr61 hb62 => ?_)
  have hx63 : okA (fun j => if j = 16 then 0 else g52 j) := hx50.upd (by omega) (by omega) (by omega) (fun _ => by omega) (by omega) (fun _ => by omega) (fun _ => by omega) (fun _ => by omega) (fun _ => by omega) (by omega) (fun _ _ => by omega)
  have hb64 : ∀ j, (fun j => if j = 16 then 0 else g52 j) j ≤ 4294967295 := xrb (by omega) (hb51)
  obtain ⟨g65, hg66⟩ : ∃ g : Nat → Nat, g = (fun j => if j = 16 then 0 else g52 j) := ⟨_, rfl⟩
  rw [← hg66] at hr61
  have he67 : g65 16 = 0 := by rw [hg66]; exact if_pos rfl
  have hk68 : ∀ j, j ≠ 16 → g65 j = g52 j := fun j hj => by rw [hg66]; exact if_neg hj
  rw [← hg66] at hx63
  rw [← hg66] at hb64
  refine xg_t (xg_aload (va := (2, 82)) rfl rfl) ?_
  refine xg_t (xg_getf (va := (2, 83)) (hb62.get (by decide) hk58) rfl) ?_
  refine xg_t (xg_bip) ?_
  refine xg_t (xg_const) ?_
  refine xg_iastK (n := 17) (u := 4294967295) hr61 xnm0 xnm0 rfl (by omega) (fun w69 hr70 hb71 => ?_)
  have hx72 : okA (fun j => if j = 17 then 4294967295 else g65 j) := hx63.upd (by omega) (by omega) (by omega) (fun _ => by omega) (by omega) (fun _ => by omega) (fun _ => by omega) (fun _ => by omega) (fun _ => by omega) (by omega) (fun _ _ => by omega)
  have hb73 : ∀ j, (fun j => if j = 17 then 4294967295 else g65 j) j ≤ 4294967295 := xrb (by omega) (hb64)
  obtain ⟨g74, hg75⟩ : ∃ g : Nat → Nat, g = (fun j => if j = 17 then 4294967295 else g65 j) := ⟨_, rfl⟩
  rw [← hg75] at hr70
  have he76 : g74 17 = 4294967295 := by rw [hg75]; exact if_pos rfl
  have hk77 : ∀ j, j ≠ 17 → g74 j = g65 j := fun j hj => by rw [hg75]; exact if_neg hj
  rw [← hg75] at hx72
  rw [← hg75] at hb73
  have hk78 : g74 16 = g65 16 := hk77 16 (by omega)
  refine xg_t (xg_aload (va := (2, 82)) rfl rfl) ?_
  refine xg_t (xg_const) ?_
  refine xg_putZ (fl1 := [(2, 83), (2, 84), (0, 1), (0, f82_3), (0, u40), (0, 0), (0, f82_9), (0, f82_11), (0, f82_13), (0, f82_15), (0, 0), (2, 85), (2, 86), (2, 87), (0, f82_19), (2, 88), (2, 89), (2, 90), (2, 91), (2, 92), (2, 93), (2, 94), (4, f82_21), (4, f82_22), (0, f82_23), (2, 95), (2, 96), (2, 97), (2, 98), (2, 99), (2, 100), (2, 101), (2, 102), (0, f82_25), (2, 103), (2, 104), (2, 105), (2, 106), (2, 107), (2, 108), (2, 109), (0, f82_27), (0, f82_29), (2, 110), (2, 111), (2, 112), (2, 113)]) (hb71.get (by decide) (hb62.get (by decide) hk58)) rfl rfl rfl (fun w79 hk80 hb81 => ?_)
  refine xg_t (xg_aload (va := (2, 82)) rfl rfl) ?_
  refine xg_t (xg_const) ?_
  refine xg_putI (fl1 := [(2, 83), (2, 84), (0, 1), (0, f82_3), (0, u40), (0, 0), (0, f82_9), (0, f82_11), (0, f82_13), (0, f82_15), (0, 0), (2, 85), (2, 86), (2, 87), (0, 0), (2, 88), (2, 89), (2, 90), (2, 91), (2, 92), (2, 93), (2, 94), (4, f82_21), (4, f82_22), (0, f82_23), (2, 95), (2, 96), (2, 97), (2, 98), (2, 99), (2, 100), (2, 101), (2, 102), (0, f82_25), (2, 103), (2, 104), (2, 105), (2, 106), (2, 107), (2, 108), (2, 109), (0, f82_27), (0, f82_29), (2, 110), (2, 111), (2, 112), (2, 113)]) hk80 rfl rfl rfl (fun w82 hk83 hb84 => ?_)
  have hf85 : fld w82 82 4 = u40 := fld_of hk83
  have hf86 : fld w82 82 5 = 0 := fld_of hk83
  have hf87 : fld w82 82 7 = f82_11 := fld_of hk83
  have hf88 : fld w82 82 10 = 0 := fld_of hk83
  have hf89 : fld w82 82 14 = 0 := fld_of hk83
  have hu90 : mu w82 = 2 * (fld w82 82 4 - fld w82 82 5) + min 1 (fld w82 82 7) := rfl
  have hA91 : FA w82 = g74 16 := rwv_of ((hr70.but hb81 (by decide)).but hb84 (by decide)) (by decide)
  exact xg_e ⟨w82, ⟨rfl, rfl⟩, xMnv.up (S := [82, 83]) hI ((((((((xFr.of (S := [82, 83]) hb39 (by decide)).tr (xFr.of (S := [82, 83]) hb46 (by decide))).tr (xFr.of (S := [82, 83]) hb49 (by decide))).tr (xFr.of (S := [82, 83]) hb59 (by decide))).tr (xFr.of (S := [82, 83]) hb62 (by decide))).tr (xFr.of (S := [82, 83]) hb71 (by decide))).tr (xFr.of (S := [82, 83]) hb81 (by decide))).tr (xFr.of (S := [82, 83]) hb84 (by decide))) (List.forall_mem_cons.mpr ⟨(show cp82 (wget w82 82) from ⟨1, f82_3, u40, 0, f82_9, f82_11, f82_13, f82_15, 0, 0, f82_21, f82_22, f82_23, f82_25, f82_27, f82_29, hk83, by omega, by omega, by omega, by omega, by omega, by omega, by omega, by omega, by omega, by omega, by omega, by omega, by omega, by omega, by omega⟩), List.forall_mem_cons.mpr ⟨(show cpx83 (wget w82 83) from ⟨_, ((hr70.but hb81 (by decide)).but hb84 (by decide)), hb73, hx72⟩), fun _ h => absurd h List.not_mem_nil⟩⟩), ((((((((xFr.of (S := [82, 83]) hb39 (by decide)).tr (xFr.of (S := [82, 83]) hb46 (by decide))).tr (xFr.of (S := [82, 83]) hb49 (by decide))).tr (xFr.of (S := [82, 83]) hb59 (by decide))).tr (xFr.of (S := [82, 83]) hb62 (by decide))).tr (xFr.of (S := [82, 83]) hb71 (by decide))).tr (xFr.of (S := [82, 83]) hb81 (by decide))).tr (xFr.of (S := [82, 83]) hb84 (by decide))), ⟨by omega, by omega, by omega, by omega, ⟨(rwv_of ((hr70.but hb81 (by decide)).but hb84 (by decide)) (by decide)).trans (by rw [hk77 15 (by decide), hk68 15 (by decide), he54]), fun j a b c d => (rwv_of ((hr70.but hb81 (by decide)).but hb84 (by decide)) a).trans (Eq.trans (by rw [hk77 j (by omega), hk68 j (by omega), hk55 j (by omega)]) (rwv_of h83_34 a).symm)⟩⟩⟩
set_option maxHeartbeats 60000000 in
theorem mFilm (hI : xMnv w)  : xPi (d + 8) mX12_film [(2, 82)] w bd fc rr (fun n w' => (n ≤ 4294967295 ∧ rwv w' 83 15 = 0 ∧ ∀ j, (140 ≤ j ∨ j = 11 ∨ j = 12 ∨ j = 13) → j < 5360 → rwv w' 83 j = rwv w 83 j) ∧ xMnv w' ∧ xFr [82, 83, 85, 86, 87] w w') := by
  refine xPi.of ?_
  show xTo (d + 8) mX12_film (0, [], [(0, (2, 82))], [], (w, bd, fc, 0, 0, rr)) (fun φ => ∃ n w', xEnd 1 [(0, n)] (w', bd, fc, 0, 0, rr) φ ∧ (n ≤ 4294967295 ∧ rwv w' 83 15 = 0 ∧ ∀ j, (140 ≤ j ∨ j = 11 ∨ j = 12 ∨ j = 13) → j < 5360 → rwv w' 83 j = rwv w 83 j) ∧ xMnv w' ∧ xFr [82, 83, 85, 86, 87] w w')
  obtain ⟨f82_1, f82_3, f82_5, f82_7, f82_9, f82_11, f82_13, f82_15, f82_17, f82_19, f82_21, f82_22, f82_23, f82_25, f82_27, f82_29, h82_31, hb2, hb4, hb6, hb8, hb10, hb12, hb14, hb16, hb18, hb20, hb24, hb26, hb28, hb30, hb32⟩ := (hI 82 (by decide) (by decide) : cp82 (wget w 82))
  refine xg_t (xg_blk (b := [(0, 1, 0, 0, 0, 0), (1, 1, 3, 0, 0, 0), (2, 3, 13, 121, 96, 215), (5, 1, 3, 0, 0, 0), (6, 1, 15, 1, 0, 0)]) rfl) ?_
  refine xg_t (xg_aload (va := (2, 82)) rfl rfl) ?_
  refine xg_t (xg_const) ?_
  refine xg_cVv mX12_begins (vs := [(0, 0)]) (rest := []) (cn1 := 0) (sl1 := 0) rfl (mBegins0 (hI)) rfl h82_31 rfl rfl rfl rfl rfl rfl (fun w33 hq34 => ?_)
  obtain ⟨hI35, hF36, hx37⟩ := hq34
  obtain ⟨hg38, hg39, hg40, hg41, hg42⟩ := hx37
  refine xg_t (xg_const) ?_
  refine xg_t (xg_istore (l1 := [(0, (2, 82))]) rfl rfl rfl) ?_
  refine xg_t (xg_drop (l1 := [(0, (2, 82)), (1, (0, 0))]) (List.forall_mem_cons.mpr ⟨List.mem_cons_of_mem _ (List.mem_cons_self), List.forall_mem_cons.mpr ⟨List.mem_cons_self, fun _ h => absurd h List.not_mem_nil⟩⟩)) ?_
  have key43 : ∀ (m45 : Nat) (ki : Nat) (w46 : List (List xE)), 7 - ki < m45 → ki ≤ 7 → xMnv w46 → xFr [82, 83, 85, 86, 87] w w46 → ((∀ s, s < ki → rwv w46 85 s = 0) ∧ FA w46 = 0 ∧ fld w46 82 10 = 0 ∧ fld w46 82 14 = 0 ∧ mu w46 ≤ 1001 ∧ K15 w w46) → xTo (d + 8) mX12_film (7, [], [(0, (2, 82)), (1, (0, ki))], [], (w46, bd, fc, 0, 0, rr)) (fun φ => ∃ n w', xEnd 1 [(0, n)] (w', bd, fc, 0, 0, rr) φ ∧ (n ≤ 4294967295 ∧ rwv w' 83 15 = 0 ∧ ∀ j, (140 ≤ j ∨ j = 11 ∨ j = 12 ∨ j = 13) → j < 5360 → rwv w' 83 j = rwv w 83 j) ∧ xMnv w' ∧ xFr [82, 83, 85, 86, 87] w w') := by
    intro m45
    induction m45 with
    | zero => intro ki w46 hz; exact absurd hz (Nat.not_lt_zero _)
    | succ m45 ih44 =>
      intro ki w46 hm51 hn49 hI47 hF48 he50
      obtain ⟨hz52, hz53, hz54, hz55, hz56, hz57⟩ := he50
      obtain ⟨g85_58, h85_59, hb60⟩ := (hI47 85 (by decide) (by decide) : cpI 7 52 4294967295 (wget w46 85))
      have h85_59 : xRow w46 85 7 52 g85_58 := h85_59
      refine xg_t (xg_blk (b := [(7, 1, 2, 1, 0, 0), (8, 2, 4, 7, 0, 0), (10, 3, 6, 26, 3, 0), (13, 1, 0, 0, 0, 0), (14, 3, 1, 12, 11, 17), (17, 1, 2, 1, 0, 0), (18, 1, 3, 0, 0, 0), (19, 1, 17, 0, 0, 0), (20, 3, 9, 1, 1, 0), (23, 3, 8, 7, 0, 0)]) rfl) ?_
      refine xg_t (xg_iload (va := (0, ki)) rfl rfl) ?_
      refine xg_t (xg_bip) ?_
      by_cases hc61 : ki < 7
      · refine xg_t (xg_icF (u := ki) (v := 7) rfl xnm0 xnm0 (xj_geF hc61 (by omega))) ?_
        refine xg_t (xg_aload (va := (2, 82)) rfl rfl) ?_
        obtain ⟨f82_62, f82_64, f82_66, f82_68, f82_70, f82_72, f82_74, f82_76, f82_78, f82_80, f82_82, f82_83, f82_84, f82_86, f82_88, f82_90, h82_92, hb63, hb65, hb67, hb69, hb71, hb73, hb75, hb77, hb79, hb81, hb85, hb87, hb89, hb91, hb93⟩ := (hI47 82 (by decide) (by decide) : cp82 (wget w46 82))
        refine xg_t (xg_getf (va := (2, 85)) h82_92 rfl) ?_
        refine xg_t (xg_iload (va := (0, ki)) rfl rfl) ?_
        refine xg_t (xg_const) ?_
        refine xg_iastK (n := ki) (u := 0) h85_59 xnm0 xnm0 rfl (by omega) (fun w94 hr95 hb96 => ?_)
        refine xg_t (xg_iinc (u := ki) (z := ki + 1) (l1 := [(0, (2, 82))]) rfl rfl (by omega) rfl) ?_
        refine xg_t (xg_goto) ?_
        refine xg_t (xg_drop (l1 := [(0, (2, 82)), (1, (0, ki + 1))]) (List.forall_mem_cons.mpr ⟨List.mem_cons_of_mem _ (List.mem_cons_self), List.forall_mem_cons.mpr ⟨List.mem_cons_self, fun _ h => absurd h List.not_mem_nil⟩⟩)) ?_
        have hF97 : xFr [85] w46 w94 := xFr.of hb96 (by decide)
        exact ih44 (ki + 1) w94 (by omega) (by omega) (xMnv.up (S := [85]) hI47 (xFr.of (S := [85]) hb96 (by decide)) (List.forall_mem_cons.mpr ⟨(show cpI 7 52 4294967295 (wget w94 85) from ⟨_, hr95, xrb (by omega) (hb60)⟩), fun _ h => absurd h List.not_mem_nil⟩)) ((hF48.tr (xFr.of (S := [82, 83, 85, 86, 87]) hb96 (by decide)))) (⟨fun s hs => (rwv_of hr95 (by omega)).trans (by by_cases z : s = ki; exact if_pos z; exact (if_neg z).trans ((rwv_of h85_59 (by omega)).symm.trans (hz52 s (by omega)))), (FA_fr hF97 (by decide)).trans hz53, (fld_fr hF97 (by decide)).trans hz54, (fld_fr hF97 (by decide)).trans hz55, by rw [mu_fr hF97 (by decide)]; exact hz56, hz57.k (K83.fr hF97 (by decide))⟩)
      · refine xg_t (xg_icT (u := ki) (v := 7) rfl xnm0 xnm0 (xj_geT (by omega) (by omega))) ?_
        refine xg_t (xg_blk (b := [(26, 1, 0, 0, 0, 0), (27, 3, 1, 12, 12, 20), (30, 1, 3, 5, 0, 0), (31, 1, 3, 1, 0, 0), (32, 1, 17, 0, 0, 0), (33, 1, 0, 0, 0, 0), (34, 3, 1, 12, 12, 20), (37, 2, 4, 6, 0, 0), (39, 1, 3, 1, 0, 0), (40, 1, 17, 0, 0, 0), (41, 1, 0, 0, 0, 0), (42, 3, 1, 12, 12, 20), (45, 2, 4, 7, 0, 0), (47, 1, 3, 1, 0, 0), (48, 1, 17, 0, 0, 0), (49, 1, 0, 0, 0, 0), (50, 3, 1, 12, 12, 20), (53, 2, 4, 8, 0, 0), (55, 1, 3, 1, 0, 0), (56, 1, 17, 0, 0, 0), (57, 1, 0, 0, 0, 0), (58, 3, 13, 110, 96, 190)]) rfl) ?_
        refine xg_t (xg_aload (va := (2, 82)) rfl rfl) ?_
        obtain ⟨f82_98, f82_100, f82_102, f82_104, f82_106, f82_108, f82_110, f82_112, f82_114, f82_116, f82_118, f82_119, f82_120, f82_122, f82_124, f82_126, h82_128, hb99, hb101, hb103, hb105, hb107, hb109, hb111, hb113, hb115, hb117, hb121, hb123, hb125, hb127, hb129⟩ := (hI47 82 (by decide) (by decide) : cp82 (wget w46 82))
        refine xg_t (xg_getf (va := (2, 86)) h82_128 rfl) ?_
        refine xg_t (xg_const) ?_
        refine xg_t (xg_const) ?_
        obtain ⟨g86_130, h86_131, hb132⟩ := (hI47 86 (by decide) (by decide) : cpI 140 53 4294967295 (wget w46 86))
        have h86_131 : xRow w46 86 140 53 g86_130 := h86_131
        refine xg_iastK (n := 5) (u := 1) h86_131 xnm0 xnm0 rfl (by omega) (fun w133 hr134 hb135 => ?_)
        refine xg_t (xg_aload (va := (2, 82)) rfl rfl) ?_
        refine xg_t (xg_getf (va := (2, 86)) (hb135.get (by decide) h82_128) rfl) ?_
        refine xg_t (xg_bip) ?_
        refine xg_t (xg_const) ?_
        refine xg_iastK (n := 6) (u := 1) hr134 xnm0 xnm0 rfl (by omega) (fun w136 hr137 hb138 => ?_)
        refine xg_t (xg_aload (va := (2, 82)) rfl rfl) ?_
        refine xg_t (xg_getf (va := (2, 86)) (hb138.get (by decide) (hb135.get (by decide) h82_128)) rfl) ?_
        refine xg_t (xg_bip) ?_
        refine xg_t (xg_const) ?_
        refine xg_iastK (n := 7) (u := 1) hr137 xnm0 xnm0 rfl (by omega) (fun w139 hr140 hb141 => ?_)
        refine xg_t (xg_aload (va := (2, 82)) rfl rfl) ?_
        refine xg_t (xg_getf (va := (2, 86)) (hb141.get (by decide) (hb138.get (by decide) (hb135.get (by decide) h82_128))) rfl) ?_
        refine xg_t (xg_bip) ?_
        refine xg_t (xg_const) ?_
        refine xg_iastK (n := 8) (u := 1) hr140 xnm0 xnm0 rfl (by omega) (fun w142 hr143 hb144 => ?_)
        refine xg_t (xg_aload (va := (2, 82)) rfl rfl) ?_
        have hF145 : xFr [86] w46 w142 := ((((xFr.of (S := [86]) hb135 (by decide)).tr (xFr.of (S := [86]) hb138 (by decide))).tr (xFr.of (S := [86]) hb141 (by decide))).tr (xFr.of (S := [86]) hb144 (by decide)))
        have he146 : rwv w142 85 0 = 0 := (rwv_fr hF145 (by decide)).trans (hz52 0 (by omega))
        have he147 : rwv w142 85 1 = 0 := (rwv_fr hF145 (by decide)).trans (hz52 1 (by omega))
        have he148 : rwv w142 85 2 = 0 := (rwv_fr hF145 (by decide)).trans (hz52 2 (by omega))
        have he149 : rwv w142 85 3 = 0 := (rwv_fr hF145 (by decide)).trans (hz52 3 (by omega))
        have he150 : rwv w142 85 4 = 0 := (rwv_fr hF145 (by decide)).trans (hz52 4 (by omega))
        have he151 : rwv w142 85 5 = 0 := (rwv_fr hF145 (by decide)).trans (hz52 5 (by omega))
        have he152 : rwv w142 85 6 = 0 := (rwv_fr hF145 (by decide)).trans (hz52 6 (by omega))
        have he153 : rwv w142 86 5 = 1 := rwv_of hr143 (by decide)
        have he154 : rwv w142 86 6 = 1 := rwv_of hr143 (by decide)
        have he155 : rwv w142 86 7 = 1 := rwv_of hr143 (by decide)
        have he156 : rwv w142 86 8 = 1 := rwv_of hr143 (by decide)
        have hD157 : DATA w142 := ⟨by omega, by omega, by omega, by omega, by omega, by omega, by omega, by omega, by omega, fun k i hk hi => by omega, fun k hk => by omega⟩
        have hf158 := FA_fr hF145 (by decide)
        have hf159 := fld_fr (c := 82) (j := 10) hF145 (by decide)
        have hf160 := fld_fr (c := 82) (j := 14) hF145 (by decide)
        have hf161 := mu_fr hF145 (by decide)
        have kk162 := hz57.k (K83.fr hF145 (by decide))
        refine xg_cVv mX12_advance (vs := []) (rest := []) (cn1 := 0) (sl1 := 0) rfl (mAdvance (xMnv.up (S := [86]) hI47 ((((xFr.of (S := [86]) hb135 (by decide)).tr (xFr.of (S := [86]) hb138 (by decide))).tr (xFr.of (S := [86]) hb141 (by decide))).tr (xFr.of (S := [86]) hb144 (by decide))) (List.forall_mem_cons.mpr ⟨(show cpI 140 53 4294967295 (wget w142 86) from ⟨_, hr143, xrb (by omega) (xrb (by omega) (xrb (by omega) (xrb (by omega) (hb132))))⟩), fun _ h => absurd h List.not_mem_nil⟩))) rfl (hb144.get (by decide) (hb141.get (by decide) (hb138.get (by decide) (hb135.get (by decide) h82_128)))) rfl rfl rfl rfl rfl rfl (fun w163 hq164 => ?_)
        obtain ⟨hI165, hF166, hx167⟩ := hq164
        obtain ⟨hv168, hv169, hv170, hv171⟩ := hx167
        have hf172 := FA_fr hF166 (by decide)
        have hD173 := hD157.fr hF166 (by decide) (by decide)
        have hM174 : ∀ s, s < 7 → rwv w163 85 s ≤ fld w163 82 14 := fun s hs => by
          rw [rwv_fr hF166 (by decide)]
          rcases (show s = 0 ∨ s = 1 ∨ s = 2 ∨ s = 3 ∨ s = 4 ∨ s = 5 ∨ s = 6 by omega) with rfl | rfl | rfl | rfl | rfl | rfl | rfl <;> omega
        have kk175 := kk162.k (K83.fr hF166 (by decide))
        refine xg_t (xg_drop (l1 := [(0, (2, 82))]) (List.forall_mem_cons.mpr ⟨List.mem_cons_self, fun _ h => absurd h List.not_mem_nil⟩)) ?_
        have key176 : ∀ (m178 : Nat) (w179 : List (List xE)), 2 * mu w179 + (1 - fld w179 82 10) < m178 → xMnv w179 → xFr [82, 83, 85, 86, 87] w w179 → (PS w179 ∧ fld w179 82 14 + mu w179 ≤ 1001 ∧ (∀ s, s < 7 → rwv w179 85 s ≤ fld w179 82 14) ∧ (FA w179 ≠ 0 ∨ DATA w179) ∧ K15 w w179) → xTo (d + 8) mX12_film (61, [], [(0, (2, 82))], [], (w179, bd, fc, 0, 0, rr)) (fun φ => ∃ n w', xEnd 1 [(0, n)] (w', bd, fc, 0, 0, rr) φ ∧ (n ≤ 4294967295 ∧ rwv w' 83 15 = 0 ∧ ∀ j, (140 ≤ j ∨ j = 11 ∨ j = 12 ∨ j = 13) → j < 5360 → rwv w' 83 j = rwv w 83 j) ∧ xMnv w' ∧ xFr [82, 83, 85, 86, 87] w w') := by
          intro m178
          induction m178 with
          | zero => intro w179 hz; exact absurd hz (Nat.not_lt_zero _)
          | succ m178 ih177 =>
            intro w179 hm183 hI180 hF181 he182
            obtain ⟨hz184, hz185, hz186, hz187, hz188⟩ := he182
            unfold PS at hz184
            obtain ⟨f82_189, f82_191, f82_193, f82_195, f82_197, f82_199, f82_201, f82_203, f82_205, f82_207, f82_209, f82_210, f82_211, f82_213, f82_215, f82_217, h82_219, hb190, hb192, hb194, hb196, hb198, hb200, hb202, hb204, hb206, hb208, hb212, hb214, hb216, hb218, hb220⟩ := (hI180 82 (by decide) (by decide) : cp82 (wget w179 82))
            have hf221 : fld w179 82 4 = f82_193 := fld_of h82_219
            have hf222 : fld w179 82 5 = f82_195 := fld_of h82_219
            have hf223 : fld w179 82 7 = f82_199 := fld_of h82_219
            have hf224 : fld w179 82 10 = f82_205 := fld_of h82_219
            have hf225 : fld w179 82 14 = f82_207 := fld_of h82_219
            have hu226 : mu w179 = 2 * (fld w179 82 4 - fld w179 82 5) + min 1 (fld w179 82 7) := rfl
            refine xg_t (xg_blk (b := [(61, 1, 0, 0, 0, 0), (62, 3, 1, 12, 10, 180), (65, 3, 7, 82, 1, 0), (68, 1, 0, 0, 0, 0), (69, 3, 1, 12, 7, 151), (72, 3, 7, 82, 0, 0), (75, 1, 0, 0, 0, 0), (76, 3, 13, 107, 96, 219), (79, 3, 8, 61, 0, 0)]) rfl) ?_
            refine xg_t (xg_aload (va := (2, 82)) rfl rfl) ?_
            refine xg_t (xg_getf (va := (0, f82_205)) h82_219 rfl) ?_
            by_cases hc227 : f82_205 = 0
            · refine xg_t (xg_ifF (u := f82_205) rfl xnm0 (xj_neF hc227)) ?_
              refine xg_t (xg_aload (va := (2, 82)) rfl rfl) ?_
              refine xg_t (xg_getf (va := (0, f82_199)) h82_219 rfl) ?_
              by_cases hc228 : f82_199 = 0
              · refine xg_t (xg_ifT (u := f82_199) rfl xnm0 (xj_eqT hc228)) ?_
                refine xg_t (xg_blk (b := [(82, 1, 3, 0, 0, 0), (83, 1, 15, 1, 0, 0)]) rfl) ?_
                refine xg_t (xg_const) ?_
                refine xg_t (xg_istore (l1 := [(0, (2, 82))]) rfl rfl rfl) ?_
                refine xg_t (xg_drop (l1 := [(0, (2, 82)), (1, (0, 0))]) (List.forall_mem_cons.mpr ⟨List.mem_cons_of_mem _ (List.mem_cons_self), List.forall_mem_cons.mpr ⟨List.mem_cons_self, fun _ h => absurd h List.not_mem_nil⟩⟩)) ?_
                have key229 : ∀ (m231 : Nat) (kf : Nat) (w232 : List (List xE)), 20 - kf < m231 → kf ≤ 20 → xMnv w232 → xFr [82, 83, 85, 86, 87] w w232 → (PS w232 ∧ (FA w232 ≠ 0 ∨ DATA w232) ∧ K15 w w232) → xTo (d + 8) mX12_film (84, [], [(0, (2, 82)), (1, (0, kf))], [], (w232, bd, fc, 0, 0, rr)) (fun φ => ∃ n w', xEnd 1 [(0, n)] (w', bd, fc, 0, 0, rr) φ ∧ (n ≤ 4294967295 ∧ rwv w' 83 15 = 0 ∧ ∀ j, (140 ≤ j ∨ j = 11 ∨ j = 12 ∨ j = 13) → j < 5360 → rwv w' 83 j = rwv w 83 j) ∧ xMnv w' ∧ xFr [82, 83, 85, 86, 87] w w') := by
                  intro m231
                  induction m231 with
                  | zero => intro kf w232 hz; exact absurd hz (Nat.not_lt_zero _)
                  | succ m231 ih230 =>
                    intro kf w232 hm237 hn235 hI233 hF234 he236
                    obtain ⟨hz238, hz239, hz240⟩ := he236
                    unfold PS at hz238
                    obtain ⟨f82_241, f82_243, f82_245, f82_247, f82_249, f82_251, f82_253, f82_255, f82_257, f82_259, f82_261, f82_262, f82_263, f82_265, f82_267, f82_269, h82_271, hb242, hb244, hb246, hb248, hb250, hb252, hb254, hb256, hb258, hb260, hb264, hb266, hb268, hb270, hb272⟩ := (hI233 82 (by decide) (by decide) : cp82 (wget w232 82))
                    obtain ⟨g83_273, h83_274, hb275, hx276⟩ := (hI233 83 (by decide) (by decide) : cpx83 (wget w232 83))
                    have h83_274 : xRow w232 83 5360 50 g83_273 := h83_274
                    have hf277 : fld w232 82 10 = f82_257 := fld_of h82_271
                    have hA278 : FA w232 = g83_273 16 := rwv_of h83_274 (by decide)
                    obtain ⟨g85_279, h85_280, hb281⟩ := (hI233 85 (by decide) (by decide) : cpI 7 52 4294967295 (wget w232 85))
                    have h85_280 : xRow w232 85 7 52 g85_279 := h85_280
                    obtain ⟨g86_282, h86_283, hb284⟩ := (hI233 86 (by decide) (by decide) : cpI 140 53 4294967295 (wget w232 86))
                    have h86_283 : xRow w232 86 140 53 g86_282 := h86_283
                    obtain ⟨g87_285, h87_286, hb287⟩ := (hI233 87 (by decide) (by decide) : cpI 20 54 4294967295 (wget w232 87))
                    have h87_286 : xRow w232 87 20 54 g87_285 := h87_286
                    have hm288 : rwv w232 85 4 = g85_279 4 := rwv_of h85_280 (by decide)
                    refine xg_t (xg_blk (b := [(84, 1, 2, 1, 0, 0), (85, 1, 0, 0, 0, 0), (86, 3, 1, 12, 11, 17), (89, 1, 3, 4, 0, 0), (90, 1, 10, 0, 0, 0), (91, 3, 6, 165, 3, 0), (94, 1, 0, 0, 0, 0), (95, 3, 1, 12, 0, 7), (98, 2, 4, 16, 0, 0), (100, 1, 10, 0, 0, 0), (101, 3, 7, 165, 1, 0), (104, 1, 0, 0, 0, 0), (105, 3, 1, 12, 12, 20), (108, 2, 4, 100, 0, 0), (110, 1, 3, 2, 0, 0), (111, 1, 2, 1, 0, 0), (112, 1, 16, 0, 0, 0), (113, 1, 11, 0, 0, 0), (114, 1, 10, 0, 0, 0), (115, 1, 0, 0, 0, 0), (116, 3, 1, 12, 12, 20), (119, 2, 4, 7, 0, 0), (121, 1, 10, 0, 0, 0), (122, 3, 6, 148, 3, 0), (125, 1, 0, 0, 0, 0), (126, 3, 1, 12, 12, 20), (129, 2, 4, 100, 0, 0), (131, 1, 3, 2, 0, 0), (132, 1, 2, 1, 0, 0), (133, 1, 16, 0, 0, 0), (134, 1, 11, 0, 0, 0), (135, 1, 3, 1, 0, 0), (136, 1, 11, 0, 0, 0), (137, 1, 10, 0, 0, 0), (138, 1, 0, 0, 0, 0), (139, 3, 1, 12, 12, 20), (142, 2, 4, 8, 0, 0), (144, 1, 10, 0, 0, 0), (145, 3, 6, 159, 2, 0)]) rfl) ?_
                    refine xg_t (xg_iload (va := (0, kf)) rfl rfl) ?_
                    refine xg_t (xg_aload (va := (2, 82)) rfl rfl) ?_
                    refine xg_t (xg_getf (va := (2, 85)) h82_271 rfl) ?_
                    refine xg_t (xg_const) ?_
                    refine xg_ialdB (n := 4) (B := 4294967295) h85_280 (hb281) xnm0 (by omega) (fun u289 hu290 he291 => ?_)
                    by_cases hc292 : xbs kf < xbs u289
                    · have hc292u := hc292
                      unfold xbs at hc292u
                      have hn293 : kf ≤ 20 := by omega
                      have hn294 : u289 ≤ 2147483647 := by omega
                      refine xg_t (xg_icF (u := kf) (v := u289) rfl xnm0 xnm0 (xjs_geF hc292)) ?_
                      refine xg_t (xg_aload (va := (2, 82)) rfl rfl) ?_
                      refine xg_t (xg_getf (va := (2, 83)) h82_271 rfl) ?_
                      refine xg_t (xg_bip) ?_
                      refine xg_ialdB (n := 16) (B := 4294967295) h83_274 (hb275) xnm0 (by omega) (fun u295 hu296 he297 => ?_)
                      by_cases hc298 : u295 = 0
                      · refine xg_t (xg_ifF (u := u295) rfl xnm0 (xj_neF hc298)) ?_
                        refine xg_t (xg_aload (va := (2, 82)) rfl rfl) ?_
                        have hD299 := (hz239.resolve_left (by omega)).2.2.2.2.1
                        have hl300 : kf ≤ 19 := by omega
                        refine xg_t (xg_getf (va := (2, 86)) h82_271 rfl) ?_
                        refine xg_t (xg_bip) ?_
                        refine xg_t (xg_const) ?_
                        refine xg_t (xg_iload (va := (0, kf)) rfl rfl) ?_
                        refine xg_t (xg_imul (u := 2) (v := kf) (z := 2 * kf) xnm0 xnm0 (by omega)) ?_
                        refine xg_t (xg_iadd (u := 100) (v := 2 * kf) (z := 100 + (2 * kf)) xnm0 xnm0 (by omega)) ?_
                        refine xg_ialdB (n := 100 + (2 * kf)) (B := 4294967295) h86_283 (hb284) xnm0 (by omega) (fun u301 hu302 he303 => ?_)
                        refine xg_t (xg_aload (va := (2, 82)) rfl rfl) ?_
                        refine xg_t (xg_getf (va := (2, 86)) h82_271 rfl) ?_
                        refine xg_t (xg_bip) ?_
                        refine xg_ialdB (n := 7) (B := 4294967295) h86_283 (hb284) xnm0 (by omega) (fun u304 hu305 he306 => ?_)
                        by_cases hc307 : xbs u301 < xbs u304
                        · have hc307u := hc307
                          unfold xbs at hc307u
                          refine xg_t (xg_icF (u := u301) (v := u304) rfl xnm0 xnm0 (xjs_geF hc307)) ?_
                          refine xg_t (xg_aload (va := (2, 82)) rfl rfl) ?_
                          refine xg_t (xg_getf (va := (2, 86)) h82_271 rfl) ?_
                          refine xg_t (xg_bip) ?_
                          refine xg_t (xg_const) ?_
                          refine xg_t (xg_iload (va := (0, kf)) rfl rfl) ?_
                          refine xg_t (xg_imul (u := 2) (v := kf) (z := 2 * kf) xnm0 xnm0 (by omega)) ?_
                          refine xg_t (xg_iadd (u := 100) (v := 2 * kf) (z := 100 + (2 * kf)) xnm0 xnm0 (by omega)) ?_
                          refine xg_t (xg_const) ?_
                          refine xg_t (xg_iadd (u := 100 + (2 * kf)) (v := 1) (z := (100 + (2 * kf)) + 1) xnm0 xnm0 (by omega)) ?_
                          refine xg_ialdB (n := (100 + (2 * kf)) + 1) (B := 4294967295) h86_283 (hb284) xnm0 (by omega) (fun u308 hu309 he310 => ?_)
                          refine xg_t (xg_aload (va := (2, 82)) rfl rfl) ?_
                          refine xg_t (xg_getf (va := (2, 86)) h82_271 rfl) ?_
                          refine xg_t (xg_bip) ?_
                          refine xg_ialdB (n := 8) (B := 4294967295) h86_283 (hb284) xnm0 (by omega) (fun u311 hu312 he313 => ?_)
                          by_cases hc314 : xbs u308 < xbs u311
                          · have hc314u := hc314
                            unfold xbs at hc314u
                            refine xg_t (xg_icT (u := u308) (v := u311) rfl xnm0 xnm0 (xjs_ltT hc314)) ?_
                            refine xg_t (xg_blk (b := [(159, 3, 9, 1, 1, 0), (162, 3, 8, 84, 0, 0)]) rfl) ?_
                            refine xg_t (xg_iinc (u := kf) (z := kf + 1) (l1 := [(0, (2, 82))]) rfl rfl (by omega) rfl) ?_
                            refine xg_t (xg_goto) ?_
                            refine xg_t (xg_drop (l1 := [(0, (2, 82)), (1, (0, kf + 1))]) (List.forall_mem_cons.mpr ⟨List.mem_cons_of_mem _ (List.mem_cons_self), List.forall_mem_cons.mpr ⟨List.mem_cons_self, fun _ h => absurd h List.not_mem_nil⟩⟩)) ?_
                            exact ih230 (kf + 1) w232 (by omega) (by omega) (hI233) (hF234) (⟨(show fld w232 82 10 = 0 ∨ FA w232 ≠ 0 by omega), hz239, hz240.k K83.rf⟩)
                          · have hc314u := hc314
                            unfold xbs at hc314u
                            refine xg_t (xg_icF (u := u308) (v := u311) rfl xnm0 xnm0 (xjs_ltF hc314)) ?_
                            refine xg_t (xg_blk (b := [(148, 1, 0, 0, 0, 0), (149, 1, 3, 4, 0, 0), (150, 1, 0, 0, 0, 0), (151, 3, 1, 12, 13, 23), (154, 1, 2, 1, 0, 0), (155, 1, 10, 0, 0, 0), (156, 3, 13, 115, 96, 186)]) rfl) ?_
                            refine xg_t (xg_aload (va := (2, 82)) rfl rfl) ?_
                            refine xg_t (xg_const) ?_
                            refine xg_t (xg_aload (va := (2, 82)) rfl rfl) ?_
                            refine xg_t (xg_getf (va := (2, 87)) h82_271 rfl) ?_
                            refine xg_t (xg_iload (va := (0, kf)) rfl rfl) ?_
                            refine xg_ialdB (n := kf) (B := 4294967295) h87_286 (hb287) xnm0 (by omega) (fun u315 hu316 he317 => ?_)
                            refine xg_cVv mX12_also (vs := [(0, 4), (0, u315)]) (rest := []) (cn1 := 0) (sl1 := 0) rfl (mAlso (hI233) (by omega) (by omega) (by omega) (show fld w232 82 10 = 0 ∨ FA w232 ≠ 0 by omega)) rfl h82_271 rfl rfl rfl rfl rfl rfl (fun w318 hq319 => ?_)
                            obtain ⟨hI320, hF321, hx322⟩ := hq319
                            obtain ⟨hv323, hv324⟩ := hx322
                            have hf325 := fld_fr (c := 82) (j := 7) hF321 (by decide)
                            have hf326 := fld_fr (c := 82) (j := 10) hF321 (by decide)
                            have hf327 := fld_fr (c := 82) (j := 14) hF321 (by decide)
                            have hf328 := mu_fr hF321 (by decide)
                            refine xg_t (xg_blk (b := [(159, 3, 9, 1, 1, 0), (162, 3, 8, 84, 0, 0)]) rfl) ?_
                            refine xg_t (xg_iinc (u := kf) (z := kf + 1) (l1 := [(0, (2, 82))]) rfl rfl (by omega) rfl) ?_
                            refine xg_t (xg_goto) ?_
                            refine xg_t (xg_drop (l1 := [(0, (2, 82)), (1, (0, kf + 1))]) (List.forall_mem_cons.mpr ⟨List.mem_cons_of_mem _ (List.mem_cons_self), List.forall_mem_cons.mpr ⟨List.mem_cons_self, fun _ h => absurd h List.not_mem_nil⟩⟩)) ?_
                            exact ih230 (kf + 1) w318 (by omega) (by omega) (hI320) ((hF234.tr (hF321.up (by decide)))) (⟨(show fld w318 82 10 = 0 ∨ FA w318 ≠ 0 by omega), Or.inl (by omega), hz240.k hv324⟩)
                        · have hc307u := hc307
                          unfold xbs at hc307u
                          refine xg_t (xg_icT (u := u301) (v := u304) rfl xnm0 xnm0 (xjs_geT hc307)) ?_
                          refine xg_t (xg_blk (b := [(148, 1, 0, 0, 0, 0), (149, 1, 3, 4, 0, 0), (150, 1, 0, 0, 0, 0), (151, 3, 1, 12, 13, 23), (154, 1, 2, 1, 0, 0), (155, 1, 10, 0, 0, 0), (156, 3, 13, 115, 96, 186)]) rfl) ?_
                          refine xg_t (xg_aload (va := (2, 82)) rfl rfl) ?_
                          refine xg_t (xg_const) ?_
                          refine xg_t (xg_aload (va := (2, 82)) rfl rfl) ?_
                          refine xg_t (xg_getf (va := (2, 87)) h82_271 rfl) ?_
                          refine xg_t (xg_iload (va := (0, kf)) rfl rfl) ?_
                          refine xg_ialdB (n := kf) (B := 4294967295) h87_286 (hb287) xnm0 (by omega) (fun u329 hu330 he331 => ?_)
                          refine xg_cVv mX12_also (vs := [(0, 4), (0, u329)]) (rest := []) (cn1 := 0) (sl1 := 0) rfl (mAlso (hI233) (by omega) (by omega) (by omega) (show fld w232 82 10 = 0 ∨ FA w232 ≠ 0 by omega)) rfl h82_271 rfl rfl rfl rfl rfl rfl (fun w332 hq333 => ?_)
                          obtain ⟨hI334, hF335, hx336⟩ := hq333
                          obtain ⟨hv337, hv338⟩ := hx336
                          have hf339 := fld_fr (c := 82) (j := 7) hF335 (by decide)
                          have hf340 := fld_fr (c := 82) (j := 10) hF335 (by decide)
                          have hf341 := fld_fr (c := 82) (j := 14) hF335 (by decide)
                          have hf342 := mu_fr hF335 (by decide)
                          refine xg_t (xg_blk (b := [(159, 3, 9, 1, 1, 0), (162, 3, 8, 84, 0, 0)]) rfl) ?_
                          refine xg_t (xg_iinc (u := kf) (z := kf + 1) (l1 := [(0, (2, 82))]) rfl rfl (by omega) rfl) ?_
                          refine xg_t (xg_goto) ?_
                          refine xg_t (xg_drop (l1 := [(0, (2, 82)), (1, (0, kf + 1))]) (List.forall_mem_cons.mpr ⟨List.mem_cons_of_mem _ (List.mem_cons_self), List.forall_mem_cons.mpr ⟨List.mem_cons_self, fun _ h => absurd h List.not_mem_nil⟩⟩)) ?_
                          exact ih230 (kf + 1) w332 (by omega) (by omega) (hI334) ((hF234.tr (hF335.up (by decide)))) (⟨(show fld w332 82 10 = 0 ∨ FA w332 ≠ 0 by omega), Or.inl (by omega), hz240.k hv338⟩)
                      · refine xg_t (xg_ifT (u := u295) rfl xnm0 (xj_neT hc298)) ?_
                        refine xg_t (xg_blk (b := [(165, 1, 0, 0, 0, 0), (166, 3, 1, 12, 0, 7), (169, 2, 4, 16, 0, 0), (171, 1, 10, 0, 0, 0), (172, 3, 7, 177, 0, 0), (175, 1, 3, 4294967295, 0, 0), (176, 1, 12, 0, 1, 0)]) rfl) ?_
                        refine xg_t (xg_aload (va := (2, 82)) rfl rfl) ?_
                        refine xg_t (xg_getf (va := (2, 83)) h82_271 rfl) ?_
                        refine xg_t (xg_bip) ?_
                        refine xg_ialdB (n := 16) (B := 4294967295) h83_274 (hb275) xnm0 (by omega) (fun u343 hu344 he345 => ?_)
                        by_cases hc346 : u343 = 0
                        · refine xg_t (xg_ifT (u := u343) rfl xnm0 (xj_eqT hc346)) ?_
                          refine xg_t (xg_blk (b := [(177, 1, 3, 0, 0, 0), (178, 1, 15, 1, 0, 0)]) rfl) ?_
                          have hDD := hz239.resolve_left (by omega)
                          have hdt := hDD.toDt h85_280 h86_283
                          refine xg_t (xg_const) ?_
                          refine xg_t (xg_istore (l1 := [(0, (2, 82))]) rfl rfl rfl) ?_
                          refine xg_t (xg_blk (b := [(179, 1, 2, 1, 0, 0), (180, 1, 3, 5, 0, 0), (181, 3, 6, 202, 3, 0), (184, 1, 0, 0, 0, 0), (185, 3, 1, 12, 0, 7), (188, 1, 2, 1, 0, 0), (189, 1, 0, 0, 0, 0), (190, 3, 1, 12, 11, 17), (193, 1, 2, 1, 0, 0), (194, 1, 10, 0, 0, 0), (195, 1, 17, 0, 0, 0), (196, 3, 9, 1, 1, 0), (199, 3, 8, 179, 0, 0)]) rfl) ?_
                          refine xg_t (xg_iload (va := (0, 0)) rfl rfl) ?_
                          refine xg_t (xg_const) ?_
                          refine xg_t (xg_icF (u := 0) (v := 5) rfl xnm0 xnm0 (by decide)) ?_
                          refine xg_t (xg_aload (va := (2, 82)) rfl rfl) ?_
                          refine xg_t (xg_getf (va := (2, 83)) h82_271 rfl) ?_
                          refine xg_t (xg_iload (va := (0, 0)) rfl rfl) ?_
                          refine xg_t (xg_aload (va := (2, 82)) rfl rfl) ?_
                          refine xg_t (xg_getf (va := (2, 85)) h82_271 rfl) ?_
                          refine xg_t (xg_iload (va := (0, 0)) rfl rfl) ?_
                          refine xg_ialdB (n := 0) (B := 4294967295) h85_280 (hb281) xnm0 (by omega) (fun u347 hu348 he349 => ?_)
                          refine xg_iastK (n := 0) (u := u347) h83_274 xnm0 xnm0 rfl (by omega) (fun w350 hr351 hb352 => ?_)
                          have hb353 : ∀ j, (fun j => if j = 0 then u347 else g83_273 j) j ≤ 4294967295 := xrb (by omega) (hb275)
                          obtain ⟨g354, hg355⟩ : ∃ g : Nat → Nat, g = (fun j => if j = 0 then u347 else g83_273 j) := ⟨_, rfl⟩
                          rw [← hg355] at hr351
                          have he356 : g354 0 = u347 := by rw [hg355]; exact if_pos rfl
                          have hk357 : ∀ j, j ≠ 0 → g354 j = g83_273 j := fun j hj => by rw [hg355]; exact if_neg hj
                          rw [← hg355] at hb353
                          refine xg_t (xg_iinc (u := 0) (z := 1) (l1 := [(0, (2, 82))]) rfl rfl (by decide) rfl) ?_
                          refine xg_t (xg_goto) ?_
                          refine xg_t (xg_blk (b := [(179, 1, 2, 1, 0, 0), (180, 1, 3, 5, 0, 0), (181, 3, 6, 202, 3, 0), (184, 1, 0, 0, 0, 0), (185, 3, 1, 12, 0, 7), (188, 1, 2, 1, 0, 0), (189, 1, 0, 0, 0, 0), (190, 3, 1, 12, 11, 17), (193, 1, 2, 1, 0, 0), (194, 1, 10, 0, 0, 0), (195, 1, 17, 0, 0, 0), (196, 3, 9, 1, 1, 0), (199, 3, 8, 179, 0, 0)]) rfl) ?_
                          refine xg_t (xg_iload (va := (0, 1)) rfl rfl) ?_
                          refine xg_t (xg_const) ?_
                          refine xg_t (xg_icF (u := 1) (v := 5) rfl xnm0 xnm0 (by decide)) ?_
                          refine xg_t (xg_aload (va := (2, 82)) rfl rfl) ?_
                          refine xg_t (xg_getf (va := (2, 83)) (hb352.get (by decide) h82_271) rfl) ?_
                          refine xg_t (xg_iload (va := (0, 1)) rfl rfl) ?_
                          refine xg_t (xg_aload (va := (2, 82)) rfl rfl) ?_
                          refine xg_t (xg_getf (va := (2, 85)) (hb352.get (by decide) h82_271) rfl) ?_
                          refine xg_t (xg_iload (va := (0, 1)) rfl rfl) ?_
                          refine xg_ialdB (n := 1) (B := 4294967295) (h85_280.but hb352 (by decide)) (hb281) xnm0 (by omega) (fun u358 hu359 he360 => ?_)
                          refine xg_iastK (n := 1) (u := u358) hr351 xnm0 xnm0 rfl (by omega) (fun w361 hr362 hb363 => ?_)
                          have hb364 : ∀ j, (fun j => if j = 1 then u358 else g354 j) j ≤ 4294967295 := xrb (by omega) (hb353)
                          obtain ⟨g365, hg366⟩ : ∃ g : Nat → Nat, g = (fun j => if j = 1 then u358 else g354 j) := ⟨_, rfl⟩
                          rw [← hg366] at hr362
                          have he367 : g365 1 = u358 := by rw [hg366]; exact if_pos rfl
                          have hk368 : ∀ j, j ≠ 1 → g365 j = g354 j := fun j hj => by rw [hg366]; exact if_neg hj
                          rw [← hg366] at hb364
                          refine xg_t (xg_iinc (u := 1) (z := 2) (l1 := [(0, (2, 82))]) rfl rfl (by decide) rfl) ?_
                          refine xg_t (xg_goto) ?_
                          refine xg_t (xg_blk (b := [(179, 1, 2, 1, 0, 0), (180, 1, 3, 5, 0, 0), (181, 3, 6, 202, 3, 0), (184, 1, 0, 0, 0, 0), (185, 3, 1, 12, 0, 7), (188, 1, 2, 1, 0, 0), (189, 1, 0, 0, 0, 0), (190, 3, 1, 12, 11, 17), (193, 1, 2, 1, 0, 0), (194, 1, 10, 0, 0, 0), (195, 1, 17, 0, 0, 0), (196, 3, 9, 1, 1, 0), (199, 3, 8, 179, 0, 0)]) rfl) ?_
                          refine xg_t (xg_iload (va := (0, 2)) rfl rfl) ?_
                          refine xg_t (xg_const) ?_
                          refine xg_t (xg_icF (u := 2) (v := 5) rfl xnm0 xnm0 (by decide)) ?_
                          refine xg_t (xg_aload (va := (2, 82)) rfl rfl) ?_
                          refine xg_t (xg_getf (va := (2, 83)) (hb363.get (by decide) (hb352.get (by decide) h82_271)) rfl) ?_
                          refine xg_t (xg_iload (va := (0, 2)) rfl rfl) ?_
                          refine xg_t (xg_aload (va := (2, 82)) rfl rfl) ?_
                          refine xg_t (xg_getf (va := (2, 85)) (hb363.get (by decide) (hb352.get (by decide) h82_271)) rfl) ?_
                          refine xg_t (xg_iload (va := (0, 2)) rfl rfl) ?_
                          refine xg_ialdB (n := 2) (B := 4294967295) ((h85_280.but hb352 (by decide)).but hb363 (by decide)) (hb281) xnm0 (by omega) (fun u369 hu370 he371 => ?_)
                          refine xg_iastK (n := 2) (u := u369) hr362 xnm0 xnm0 rfl (by omega) (fun w372 hr373 hb374 => ?_)
                          have hb375 : ∀ j, (fun j => if j = 2 then u369 else g365 j) j ≤ 4294967295 := xrb (by omega) (hb364)
                          obtain ⟨g376, hg377⟩ : ∃ g : Nat → Nat, g = (fun j => if j = 2 then u369 else g365 j) := ⟨_, rfl⟩
                          rw [← hg377] at hr373
                          have he378 : g376 2 = u369 := by rw [hg377]; exact if_pos rfl
                          have hk379 : ∀ j, j ≠ 2 → g376 j = g365 j := fun j hj => by rw [hg377]; exact if_neg hj
                          rw [← hg377] at hb375
                          refine xg_t (xg_iinc (u := 2) (z := 3) (l1 := [(0, (2, 82))]) rfl rfl (by decide) rfl) ?_
                          refine xg_t (xg_goto) ?_
                          refine xg_t (xg_blk (b := [(179, 1, 2, 1, 0, 0), (180, 1, 3, 5, 0, 0), (181, 3, 6, 202, 3, 0), (184, 1, 0, 0, 0, 0), (185, 3, 1, 12, 0, 7), (188, 1, 2, 1, 0, 0), (189, 1, 0, 0, 0, 0), (190, 3, 1, 12, 11, 17), (193, 1, 2, 1, 0, 0), (194, 1, 10, 0, 0, 0), (195, 1, 17, 0, 0, 0), (196, 3, 9, 1, 1, 0), (199, 3, 8, 179, 0, 0)]) rfl) ?_
                          refine xg_t (xg_iload (va := (0, 3)) rfl rfl) ?_
                          refine xg_t (xg_const) ?_
                          refine xg_t (xg_icF (u := 3) (v := 5) rfl xnm0 xnm0 (by decide)) ?_
                          refine xg_t (xg_aload (va := (2, 82)) rfl rfl) ?_
                          refine xg_t (xg_getf (va := (2, 83)) (hb374.get (by decide) (hb363.get (by decide) (hb352.get (by decide) h82_271))) rfl) ?_
                          refine xg_t (xg_iload (va := (0, 3)) rfl rfl) ?_
                          refine xg_t (xg_aload (va := (2, 82)) rfl rfl) ?_
                          refine xg_t (xg_getf (va := (2, 85)) (hb374.get (by decide) (hb363.get (by decide) (hb352.get (by decide) h82_271))) rfl) ?_
                          refine xg_t (xg_iload (va := (0, 3)) rfl rfl) ?_
                          refine xg_ialdB (n := 3) (B := 4294967295) (((h85_280.but hb352 (by decide)).but hb363 (by decide)).but hb374 (by decide)) (hb281) xnm0 (by omega) (fun u380 hu381 he382 => ?_)
                          refine xg_iastK (n := 3) (u := u380) hr373 xnm0 xnm0 rfl (by omega) (fun w383 hr384 hb385 => ?_)
                          have hb386 : ∀ j, (fun j => if j = 3 then u380 else g376 j) j ≤ 4294967295 := xrb (by omega) (hb375)
                          obtain ⟨g387, hg388⟩ : ∃ g : Nat → Nat, g = (fun j => if j = 3 then u380 else g376 j) := ⟨_, rfl⟩
                          rw [← hg388] at hr384
                          have he389 : g387 3 = u380 := by rw [hg388]; exact if_pos rfl
                          have hk390 : ∀ j, j ≠ 3 → g387 j = g376 j := fun j hj => by rw [hg388]; exact if_neg hj
                          rw [← hg388] at hb386
                          refine xg_t (xg_iinc (u := 3) (z := 4) (l1 := [(0, (2, 82))]) rfl rfl (by decide) rfl) ?_
                          refine xg_t (xg_goto) ?_
                          refine xg_t (xg_blk (b := [(179, 1, 2, 1, 0, 0), (180, 1, 3, 5, 0, 0), (181, 3, 6, 202, 3, 0), (184, 1, 0, 0, 0, 0), (185, 3, 1, 12, 0, 7), (188, 1, 2, 1, 0, 0), (189, 1, 0, 0, 0, 0), (190, 3, 1, 12, 11, 17), (193, 1, 2, 1, 0, 0), (194, 1, 10, 0, 0, 0), (195, 1, 17, 0, 0, 0), (196, 3, 9, 1, 1, 0), (199, 3, 8, 179, 0, 0)]) rfl) ?_
                          refine xg_t (xg_iload (va := (0, 4)) rfl rfl) ?_
                          refine xg_t (xg_const) ?_
                          refine xg_t (xg_icF (u := 4) (v := 5) rfl xnm0 xnm0 (by decide)) ?_
                          refine xg_t (xg_aload (va := (2, 82)) rfl rfl) ?_
                          refine xg_t (xg_getf (va := (2, 83)) (hb385.get (by decide) (hb374.get (by decide) (hb363.get (by decide) (hb352.get (by decide) h82_271)))) rfl) ?_
                          refine xg_t (xg_iload (va := (0, 4)) rfl rfl) ?_
                          refine xg_t (xg_aload (va := (2, 82)) rfl rfl) ?_
                          refine xg_t (xg_getf (va := (2, 85)) (hb385.get (by decide) (hb374.get (by decide) (hb363.get (by decide) (hb352.get (by decide) h82_271)))) rfl) ?_
                          refine xg_t (xg_iload (va := (0, 4)) rfl rfl) ?_
                          refine xg_ialdB (n := 4) (B := 4294967295) ((((h85_280.but hb352 (by decide)).but hb363 (by decide)).but hb374 (by decide)).but hb385 (by decide)) (hb281) xnm0 (by omega) (fun u391 hu392 he393 => ?_)
                          refine xg_iastK (n := 4) (u := u391) hr384 xnm0 xnm0 rfl (by omega) (fun w394 hr395 hb396 => ?_)
                          have hb397 : ∀ j, (fun j => if j = 4 then u391 else g387 j) j ≤ 4294967295 := xrb (by omega) (hb386)
                          obtain ⟨g398, hg399⟩ : ∃ g : Nat → Nat, g = (fun j => if j = 4 then u391 else g387 j) := ⟨_, rfl⟩
                          rw [← hg399] at hr395
                          have he400 : g398 4 = u391 := by rw [hg399]; exact if_pos rfl
                          have hk401 : ∀ j, j ≠ 4 → g398 j = g387 j := fun j hj => by rw [hg399]; exact if_neg hj
                          rw [← hg399] at hb397
                          refine xg_t (xg_iinc (u := 4) (z := 5) (l1 := [(0, (2, 82))]) rfl rfl (by decide) rfl) ?_
                          refine xg_t (xg_goto) ?_
                          refine xg_t (xg_blk (b := [(179, 1, 2, 1, 0, 0), (180, 1, 3, 5, 0, 0), (181, 3, 6, 202, 3, 0), (184, 1, 0, 0, 0, 0), (185, 3, 1, 12, 0, 7), (188, 1, 2, 1, 0, 0), (189, 1, 0, 0, 0, 0), (190, 3, 1, 12, 11, 17), (193, 1, 2, 1, 0, 0), (194, 1, 10, 0, 0, 0), (195, 1, 17, 0, 0, 0), (196, 3, 9, 1, 1, 0), (199, 3, 8, 179, 0, 0)]) rfl) ?_
                          refine xg_t (xg_iload (va := (0, 5)) rfl rfl) ?_
                          refine xg_t (xg_const) ?_
                          refine xg_t (xg_icT (u := 5) (v := 5) rfl xnm0 xnm0 (by decide)) ?_
                          refine xg_t (xg_blk (b := [(202, 1, 3, 5, 0, 0), (203, 1, 15, 1, 0, 0)]) rfl) ?_
                          refine xg_t (xg_const) ?_
                          refine xg_t (xg_istore (l1 := [(0, (2, 82))]) rfl rfl rfl) ?_
                          refine xg_t (xg_blk (b := [(204, 1, 2, 1, 0, 0), (205, 2, 4, 8, 0, 0), (207, 3, 6, 228, 4, 0), (210, 1, 0, 0, 0, 0), (211, 3, 1, 12, 0, 7), (214, 1, 2, 1, 0, 0), (215, 1, 0, 0, 0, 0), (216, 3, 1, 12, 12, 20), (219, 1, 2, 1, 0, 0), (220, 1, 10, 0, 0, 0), (221, 1, 17, 0, 0, 0), (222, 3, 9, 1, 1, 0), (225, 3, 8, 204, 0, 0)]) rfl) ?_
                          refine xg_t (xg_iload (va := (0, 5)) rfl rfl) ?_
                          refine xg_t (xg_bip) ?_
                          refine xg_t (xg_icF (u := 5) (v := 8) rfl xnm0 xnm0 (by decide)) ?_
                          refine xg_t (xg_aload (va := (2, 82)) rfl rfl) ?_
                          refine xg_t (xg_getf (va := (2, 83)) (hb396.get (by decide) (hb385.get (by decide) (hb374.get (by decide) (hb363.get (by decide) (hb352.get (by decide) h82_271))))) rfl) ?_
                          refine xg_t (xg_iload (va := (0, 5)) rfl rfl) ?_
                          refine xg_t (xg_aload (va := (2, 82)) rfl rfl) ?_
                          refine xg_t (xg_getf (va := (2, 86)) (hb396.get (by decide) (hb385.get (by decide) (hb374.get (by decide) (hb363.get (by decide) (hb352.get (by decide) h82_271))))) rfl) ?_
                          refine xg_t (xg_iload (va := (0, 5)) rfl rfl) ?_
                          refine xg_ialdB (n := 5) (B := 4294967295) (((((h86_283.but hb352 (by decide)).but hb363 (by decide)).but hb374 (by decide)).but hb385 (by decide)).but hb396 (by decide)) (hb284) xnm0 (by omega) (fun u402 hu403 he404 => ?_)
                          refine xg_iastK (n := 5) (u := u402) hr395 xnm0 xnm0 rfl (by omega) (fun w405 hr406 hb407 => ?_)
                          have hb408 : ∀ j, (fun j => if j = 5 then u402 else g398 j) j ≤ 4294967295 := xrb (by omega) (hb397)
                          obtain ⟨g409, hg410⟩ : ∃ g : Nat → Nat, g = (fun j => if j = 5 then u402 else g398 j) := ⟨_, rfl⟩
                          rw [← hg410] at hr406
                          have he411 : g409 5 = u402 := by rw [hg410]; exact if_pos rfl
                          have hk412 : ∀ j, j ≠ 5 → g409 j = g398 j := fun j hj => by rw [hg410]; exact if_neg hj
                          rw [← hg410] at hb408
                          refine xg_t (xg_iinc (u := 5) (z := 6) (l1 := [(0, (2, 82))]) rfl rfl (by decide) rfl) ?_
                          refine xg_t (xg_goto) ?_
                          refine xg_t (xg_blk (b := [(204, 1, 2, 1, 0, 0), (205, 2, 4, 8, 0, 0), (207, 3, 6, 228, 4, 0), (210, 1, 0, 0, 0, 0), (211, 3, 1, 12, 0, 7), (214, 1, 2, 1, 0, 0), (215, 1, 0, 0, 0, 0), (216, 3, 1, 12, 12, 20), (219, 1, 2, 1, 0, 0), (220, 1, 10, 0, 0, 0), (221, 1, 17, 0, 0, 0), (222, 3, 9, 1, 1, 0), (225, 3, 8, 204, 0, 0)]) rfl) ?_
                          refine xg_t (xg_iload (va := (0, 6)) rfl rfl) ?_
                          refine xg_t (xg_bip) ?_
                          refine xg_t (xg_icF (u := 6) (v := 8) rfl xnm0 xnm0 (by decide)) ?_
                          refine xg_t (xg_aload (va := (2, 82)) rfl rfl) ?_
                          refine xg_t (xg_getf (va := (2, 83)) (hb407.get (by decide) (hb396.get (by decide) (hb385.get (by decide) (hb374.get (by decide) (hb363.get (by decide) (hb352.get (by decide) h82_271)))))) rfl) ?_
                          refine xg_t (xg_iload (va := (0, 6)) rfl rfl) ?_
                          refine xg_t (xg_aload (va := (2, 82)) rfl rfl) ?_
                          refine xg_t (xg_getf (va := (2, 86)) (hb407.get (by decide) (hb396.get (by decide) (hb385.get (by decide) (hb374.get (by decide) (hb363.get (by decide) (hb352.get (by decide) h82_271)))))) rfl) ?_
                          refine xg_t (xg_iload (va := (0, 6)) rfl rfl) ?_
                          refine xg_ialdB (n := 6) (B := 4294967295) ((((((h86_283.but hb352 (by decide)).but hb363 (by decide)).but hb374 (by decide)).but hb385 (by decide)).but hb396 (by decide)).but hb407 (by decide)) (hb284) xnm0 (by omega) (fun u413 hu414 he415 => ?_)
                          refine xg_iastK (n := 6) (u := u413) hr406 xnm0 xnm0 rfl (by omega) (fun w416 hr417 hb418 => ?_)
                          have hb419 : ∀ j, (fun j => if j = 6 then u413 else g409 j) j ≤ 4294967295 := xrb (by omega) (hb408)
                          obtain ⟨g420, hg421⟩ : ∃ g : Nat → Nat, g = (fun j => if j = 6 then u413 else g409 j) := ⟨_, rfl⟩
                          rw [← hg421] at hr417
                          have he422 : g420 6 = u413 := by rw [hg421]; exact if_pos rfl
                          have hk423 : ∀ j, j ≠ 6 → g420 j = g409 j := fun j hj => by rw [hg421]; exact if_neg hj
                          rw [← hg421] at hb419
                          refine xg_t (xg_iinc (u := 6) (z := 7) (l1 := [(0, (2, 82))]) rfl rfl (by decide) rfl) ?_
                          refine xg_t (xg_goto) ?_
                          refine xg_t (xg_blk (b := [(204, 1, 2, 1, 0, 0), (205, 2, 4, 8, 0, 0), (207, 3, 6, 228, 4, 0), (210, 1, 0, 0, 0, 0), (211, 3, 1, 12, 0, 7), (214, 1, 2, 1, 0, 0), (215, 1, 0, 0, 0, 0), (216, 3, 1, 12, 12, 20), (219, 1, 2, 1, 0, 0), (220, 1, 10, 0, 0, 0), (221, 1, 17, 0, 0, 0), (222, 3, 9, 1, 1, 0), (225, 3, 8, 204, 0, 0)]) rfl) ?_
                          refine xg_t (xg_iload (va := (0, 7)) rfl rfl) ?_
                          refine xg_t (xg_bip) ?_
                          refine xg_t (xg_icF (u := 7) (v := 8) rfl xnm0 xnm0 (by decide)) ?_
                          refine xg_t (xg_aload (va := (2, 82)) rfl rfl) ?_
                          refine xg_t (xg_getf (va := (2, 83)) (hb418.get (by decide) (hb407.get (by decide) (hb396.get (by decide) (hb385.get (by decide) (hb374.get (by decide) (hb363.get (by decide) (hb352.get (by decide) h82_271))))))) rfl) ?_
                          refine xg_t (xg_iload (va := (0, 7)) rfl rfl) ?_
                          refine xg_t (xg_aload (va := (2, 82)) rfl rfl) ?_
                          refine xg_t (xg_getf (va := (2, 86)) (hb418.get (by decide) (hb407.get (by decide) (hb396.get (by decide) (hb385.get (by decide) (hb374.get (by decide) (hb363.get (by decide) (hb352.get (by decide) h82_271))))))) rfl) ?_
                          refine xg_t (xg_iload (va := (0, 7)) rfl rfl) ?_
                          refine xg_ialdB (n := 7) (B := 4294967295) (((((((h86_283.but hb352 (by decide)).but hb363 (by decide)).but hb374 (by decide)).but hb385 (by decide)).but hb396 (by decide)).but hb407 (by decide)).but hb418 (by decide)) (hb284) xnm0 (by omega) (fun u424 hu425 he426 => ?_)
                          refine xg_iastK (n := 7) (u := u424) hr417 xnm0 xnm0 rfl (by omega) (fun w427 hr428 hb429 => ?_)
                          have hb430 : ∀ j, (fun j => if j = 7 then u424 else g420 j) j ≤ 4294967295 := xrb (by omega) (hb419)
                          obtain ⟨g431, hg432⟩ : ∃ g : Nat → Nat, g = (fun j => if j = 7 then u424 else g420 j) := ⟨_, rfl⟩
                          rw [← hg432] at hr428
                          have he433 : g431 7 = u424 := by rw [hg432]; exact if_pos rfl
                          have hk434 : ∀ j, j ≠ 7 → g431 j = g420 j := fun j hj => by rw [hg432]; exact if_neg hj
                          rw [← hg432] at hb430
                          refine xg_t (xg_iinc (u := 7) (z := 8) (l1 := [(0, (2, 82))]) rfl rfl (by decide) rfl) ?_
                          refine xg_t (xg_goto) ?_
                          refine xg_t (xg_blk (b := [(204, 1, 2, 1, 0, 0), (205, 2, 4, 8, 0, 0), (207, 3, 6, 228, 4, 0), (210, 1, 0, 0, 0, 0), (211, 3, 1, 12, 0, 7), (214, 1, 2, 1, 0, 0), (215, 1, 0, 0, 0, 0), (216, 3, 1, 12, 12, 20), (219, 1, 2, 1, 0, 0), (220, 1, 10, 0, 0, 0), (221, 1, 17, 0, 0, 0), (222, 3, 9, 1, 1, 0), (225, 3, 8, 204, 0, 0)]) rfl) ?_
                          refine xg_t (xg_iload (va := (0, 8)) rfl rfl) ?_
                          refine xg_t (xg_bip) ?_
                          refine xg_t (xg_icF (u := 8) (v := 8) rfl xnm0 xnm0 (by decide)) ?_
                          refine xg_t (xg_aload (va := (2, 82)) rfl rfl) ?_
                          refine xg_t (xg_getf (va := (2, 83)) (hb429.get (by decide) (hb418.get (by decide) (hb407.get (by decide) (hb396.get (by decide) (hb385.get (by decide) (hb374.get (by decide) (hb363.get (by decide) (hb352.get (by decide) h82_271)))))))) rfl) ?_
                          refine xg_t (xg_iload (va := (0, 8)) rfl rfl) ?_
                          refine xg_t (xg_aload (va := (2, 82)) rfl rfl) ?_
                          refine xg_t (xg_getf (va := (2, 86)) (hb429.get (by decide) (hb418.get (by decide) (hb407.get (by decide) (hb396.get (by decide) (hb385.get (by decide) (hb374.get (by decide) (hb363.get (by decide) (hb352.get (by decide) h82_271)))))))) rfl) ?_
                          refine xg_t (xg_iload (va := (0, 8)) rfl rfl) ?_
                          refine xg_ialdB (n := 8) (B := 4294967295) ((((((((h86_283.but hb352 (by decide)).but hb363 (by decide)).but hb374 (by decide)).but hb385 (by decide)).but hb396 (by decide)).but hb407 (by decide)).but hb418 (by decide)).but hb429 (by decide)) (hb284) xnm0 (by omega) (fun u435 hu436 he437 => ?_)
                          refine xg_iastK (n := 8) (u := u435) hr428 xnm0 xnm0 rfl (by omega) (fun w438 hr439 hb440 => ?_)
                          have hb441 : ∀ j, (fun j => if j = 8 then u435 else g431 j) j ≤ 4294967295 := xrb (by omega) (hb430)
                          obtain ⟨g442, hg443⟩ : ∃ g : Nat → Nat, g = (fun j => if j = 8 then u435 else g431 j) := ⟨_, rfl⟩
                          rw [← hg443] at hr439
                          have he444 : g442 8 = u435 := by rw [hg443]; exact if_pos rfl
                          have hk445 : ∀ j, j ≠ 8 → g442 j = g431 j := fun j hj => by rw [hg443]; exact if_neg hj
                          rw [← hg443] at hb441
                          refine xg_t (xg_iinc (u := 8) (z := 9) (l1 := [(0, (2, 82))]) rfl rfl (by decide) rfl) ?_
                          refine xg_t (xg_goto) ?_
                          refine xg_t (xg_blk (b := [(204, 1, 2, 1, 0, 0), (205, 2, 4, 8, 0, 0), (207, 3, 6, 228, 4, 0), (210, 1, 0, 0, 0, 0), (211, 3, 1, 12, 0, 7), (214, 1, 2, 1, 0, 0), (215, 1, 0, 0, 0, 0), (216, 3, 1, 12, 12, 20), (219, 1, 2, 1, 0, 0), (220, 1, 10, 0, 0, 0), (221, 1, 17, 0, 0, 0), (222, 3, 9, 1, 1, 0), (225, 3, 8, 204, 0, 0)]) rfl) ?_
                          refine xg_t (xg_iload (va := (0, 9)) rfl rfl) ?_
                          refine xg_t (xg_bip) ?_
                          refine xg_t (xg_icT (u := 9) (v := 8) rfl xnm0 xnm0 (by decide)) ?_
                          refine xg_t (xg_blk (b := [(228, 2, 4, 20, 0, 0), (230, 1, 15, 1, 0, 0)]) rfl) ?_
                          refine xg_t (xg_bip) ?_
                          refine xg_t (xg_istore (l1 := [(0, (2, 82))]) rfl rfl rfl) ?_
                          refine xg_t (xg_drop (l1 := [(0, (2, 82)), (1, (0, 20))]) (List.forall_mem_cons.mpr ⟨List.mem_cons_of_mem _ (List.mem_cons_self), List.forall_mem_cons.mpr ⟨List.mem_cons_self, fun _ h => absurd h List.not_mem_nil⟩⟩)) ?_
                          refine cpFilm 120 20 w438 g442 (by decide) hr439 hb441 (((((((((h86_283.but hb352 (by decide)).but hb363 (by decide)).but hb374 (by decide)).but hb385 (by decide)).but hb396 (by decide)).but hb407 (by decide)).but hb418 (by decide)).but hb429 (by decide)).but hb440 (by decide)) hb284 (hb440.get (by decide) (hb429.get (by decide) (hb418.get (by decide) (hb407.get (by decide) (hb396.get (by decide) (hb385.get (by decide) (hb374.get (by decide) (hb363.get (by decide) (hb352.get (by decide) h82_271))))))))) (fun w446 g447 hc448 hc449 hc450 hc451 hc452 => ?_)
                          refine xg_t (xg_blk (b := [(256, 1, 0, 0, 0, 0), (257, 3, 1, 12, 0, 7), (260, 2, 4, 9, 0, 0), (262, 1, 3, 0, 0, 0), (263, 1, 17, 0, 0, 0), (264, 1, 0, 0, 0, 0), (265, 3, 1, 12, 0, 7), (268, 2, 4, 10, 0, 0), (270, 1, 3, 0, 0, 0), (271, 1, 17, 0, 0, 0), (272, 1, 0, 0, 0, 0), (273, 3, 1, 12, 0, 7), (276, 2, 4, 14, 0, 0), (278, 1, 0, 0, 0, 0), (279, 3, 1, 12, 14, 212), (282, 1, 17, 0, 0, 0), (283, 1, 0, 0, 0, 0), (284, 3, 1, 12, 14, 212), (287, 1, 12, 0, 1, 0)]) rfl) ?_
                          refine xg_t (xg_aload (va := (2, 82)) rfl rfl) ?_
                          refine xg_t (xg_getf (va := (2, 83)) (hc450.get (by decide) (hb440.get (by decide) (hb429.get (by decide) (hb418.get (by decide) (hb407.get (by decide) (hb396.get (by decide) (hb385.get (by decide) (hb374.get (by decide) (hb363.get (by decide) (hb352.get (by decide) h82_271)))))))))) rfl) ?_
                          refine xg_t (xg_bip) ?_
                          refine xg_t (xg_const) ?_
                          refine xg_iastK (n := 9) (u := 0) hc448 xnm0 xnm0 rfl (by omega) (fun w453 hr454 hb455 => ?_)
                          have hb456 : ∀ j, (fun j => if j = 9 then 0 else g447 j) j ≤ 4294967295 := xrb (by omega) (hc449)
                          obtain ⟨g457, hg458⟩ : ∃ g : Nat → Nat, g = (fun j => if j = 9 then 0 else g447 j) := ⟨_, rfl⟩
                          rw [← hg458] at hr454
                          have he459 : g457 9 = 0 := by rw [hg458]; exact if_pos rfl
                          have hk460 : ∀ j, j ≠ 9 → g457 j = g447 j := fun j hj => by rw [hg458]; exact if_neg hj
                          rw [← hg458] at hb456
                          refine xg_t (xg_aload (va := (2, 82)) rfl rfl) ?_
                          refine xg_t (xg_getf (va := (2, 83)) (hb455.get (by decide) (hc450.get (by decide) (hb440.get (by decide) (hb429.get (by decide) (hb418.get (by decide) (hb407.get (by decide) (hb396.get (by decide) (hb385.get (by decide) (hb374.get (by decide) (hb363.get (by decide) (hb352.get (by decide) h82_271))))))))))) rfl) ?_
                          refine xg_t (xg_bip) ?_
                          refine xg_t (xg_const) ?_
                          refine xg_iastK (n := 10) (u := 0) hr454 xnm0 xnm0 rfl (by omega) (fun w461 hr462 hb463 => ?_)
                          have hb464 : ∀ j, (fun j => if j = 10 then 0 else g457 j) j ≤ 4294967295 := xrb (by omega) (hb456)
                          obtain ⟨g465, hg466⟩ : ∃ g : Nat → Nat, g = (fun j => if j = 10 then 0 else g457 j) := ⟨_, rfl⟩
                          rw [← hg466] at hr462
                          have he467 : g465 10 = 0 := by rw [hg466]; exact if_pos rfl
                          have hk468 : ∀ j, j ≠ 10 → g465 j = g457 j := fun j hj => by rw [hg466]; exact if_neg hj
                          rw [← hg466] at hb464
                          refine xg_t (xg_aload (va := (2, 82)) rfl rfl) ?_
                          refine xg_t (xg_getf (va := (2, 83)) (hb463.get (by decide) (hb455.get (by decide) (hc450.get (by decide) (hb440.get (by decide) (hb429.get (by decide) (hb418.get (by decide) (hb407.get (by decide) (hb396.get (by decide) (hb385.get (by decide) (hb374.get (by decide) (hb363.get (by decide) (hb352.get (by decide) h82_271)))))))))))) rfl) ?_
                          refine xg_t (xg_bip) ?_
                          refine xg_t (xg_aload (va := (2, 82)) rfl rfl) ?_
                          refine xg_t (xg_getf (va := (0, f82_259)) (hb463.get (by decide) (hb455.get (by decide) (hc450.get (by decide) (hb440.get (by decide) (hb429.get (by decide) (hb418.get (by decide) (hb407.get (by decide) (hb396.get (by decide) (hb385.get (by decide) (hb374.get (by decide) (hb363.get (by decide) (hb352.get (by decide) h82_271)))))))))))) rfl) ?_
                          refine xg_iastK (n := 14) (u := f82_259) hr462 xnm0 xnm0 rfl (by omega) (fun w469 hr470 hb471 => ?_)
                          have hb472 : ∀ j, (fun j => if j = 14 then f82_259 else g465 j) j ≤ 4294967295 := xrb (by omega) (hb464)
                          obtain ⟨g473, hg474⟩ : ∃ g : Nat → Nat, g = (fun j => if j = 14 then f82_259 else g465 j) := ⟨_, rfl⟩
                          rw [← hg474] at hr470
                          have he475 : g473 14 = f82_259 := by rw [hg474]; exact if_pos rfl
                          have hk476 : ∀ j, j ≠ 14 → g473 j = g465 j := fun j hj => by rw [hg474]; exact if_neg hj
                          rw [← hg474] at hb472
                          have hq477 : g473 0 = u347 := by rw [hk476 0 (by omega), hk468 0 (by omega), hk460 0 (by omega), hc452 0 (by omega), hk445 0 (by omega), hk434 0 (by omega), hk423 0 (by omega), hk412 0 (by omega), hk401 0 (by omega), hk390 0 (by omega), hk379 0 (by omega), hk368 0 (by omega), he356]
                          have hq478 : g473 1 = u358 := by rw [hk476 1 (by omega), hk468 1 (by omega), hk460 1 (by omega), hc452 1 (by omega), hk445 1 (by omega), hk434 1 (by omega), hk423 1 (by omega), hk412 1 (by omega), hk401 1 (by omega), hk390 1 (by omega), hk379 1 (by omega), he367]
                          have hq479 : g473 2 = u369 := by rw [hk476 2 (by omega), hk468 2 (by omega), hk460 2 (by omega), hc452 2 (by omega), hk445 2 (by omega), hk434 2 (by omega), hk423 2 (by omega), hk412 2 (by omega), hk401 2 (by omega), hk390 2 (by omega), he378]
                          have hq480 : g473 3 = u380 := by rw [hk476 3 (by omega), hk468 3 (by omega), hk460 3 (by omega), hc452 3 (by omega), hk445 3 (by omega), hk434 3 (by omega), hk423 3 (by omega), hk412 3 (by omega), hk401 3 (by omega), he389]
                          have hq481 : g473 4 = u391 := by rw [hk476 4 (by omega), hk468 4 (by omega), hk460 4 (by omega), hc452 4 (by omega), hk445 4 (by omega), hk434 4 (by omega), hk423 4 (by omega), hk412 4 (by omega), he400]
                          have hq482 : g473 5 = u402 := by rw [hk476 5 (by omega), hk468 5 (by omega), hk460 5 (by omega), hc452 5 (by omega), hk445 5 (by omega), hk434 5 (by omega), hk423 5 (by omega), he411]
                          have hq483 : g473 6 = u413 := by rw [hk476 6 (by omega), hk468 6 (by omega), hk460 6 (by omega), hc452 6 (by omega), hk445 6 (by omega), hk434 6 (by omega), he422]
                          have hq484 : g473 7 = u424 := by rw [hk476 7 (by omega), hk468 7 (by omega), hk460 7 (by omega), hc452 7 (by omega), hk445 7 (by omega), he433]
                          have hq485 : g473 8 = u435 := by rw [hk476 8 (by omega), hk468 8 (by omega), hk460 8 (by omega), hc452 8 (by omega), he444]
                          have hq486 : g473 9 = 0 := by rw [hk476 9 (by omega), hk468 9 (by omega), he459]
                          have hq487 : g473 10 = 0 := by rw [hk476 10 (by omega), he467]
                          have hq488 : ∀ j, 20 ≤ j → j < 140 → g473 j = g86_282 j := fun j h1 h2 => by rw [hk476 j (by omega), hk468 j (by omega), hk460 j (by omega)]; exact hc451 j h1 h2
                          have hq489 : ∀ j, 140 ≤ j ∨ j = 11 ∨ j = 12 ∨ j = 13 ∨ j = 15 → g473 j = g83_273 j := fun j hj => by rw [hk476 j (by omega), hk468 j (by omega), hk460 j (by omega), hc452 j (by omega), hk445 j (by omega), hk434 j (by omega), hk423 j (by omega), hk412 j (by omega), hk401 j (by omega), hk390 j (by omega), hk379 j (by omega), hk368 j (by omega), hk357 j (by omega)]
                          have hx490 : okA g473 := film_ok hx276 hdt (by omega) (by omega) (by omega) (by omega) (by omega) (by omega) (by omega) (by omega) (by omega) (by omega) (by omega) hq488 (fun j hj => hq489 j (by omega))
                          refine xg_t (xg_aload (va := (2, 82)) rfl rfl) ?_
                          refine xg_t (xg_getf (va := (0, f82_259)) (hb471.get (by decide) (hb463.get (by decide) (hb455.get (by decide) (hc450.get (by decide) (hb440.get (by decide) (hb429.get (by decide) (hb418.get (by decide) (hb407.get (by decide) (hb396.get (by decide) (hb385.get (by decide) (hb374.get (by decide) (hb363.get (by decide) (hb352.get (by decide) h82_271))))))))))))) rfl) ?_
                          have kk491 := (hz240.k K83.rf)
                          exact xg_e ⟨f82_259, w469, ⟨rfl, rfl⟩, ⟨by omega, (rwv_of hr470 (by decide)).trans ((hq489 15 (by omega)).trans ((rwv_of h83_274 (by decide)).symm.trans kk491.1)), fun j h1 h2 => (rwv_of hr470 h2).trans ((hq489 j (by omega)).trans ((rwv_of h83_274 h2).symm.trans (kk491.2 j h2 (by omega) (by omega) (by omega))))⟩, xMnv.up (S := [83]) hI233 (((((((((((((xFr.of (S := [83]) hb352 (by decide)).tr (xFr.of (S := [83]) hb363 (by decide))).tr (xFr.of (S := [83]) hb374 (by decide))).tr (xFr.of (S := [83]) hb385 (by decide))).tr (xFr.of (S := [83]) hb396 (by decide))).tr (xFr.of (S := [83]) hb407 (by decide))).tr (xFr.of (S := [83]) hb418 (by decide))).tr (xFr.of (S := [83]) hb429 (by decide))).tr (xFr.of (S := [83]) hb440 (by decide))).tr (xFr.of (S := [83]) hc450 (by decide))).tr (xFr.of (S := [83]) hb455 (by decide))).tr (xFr.of (S := [83]) hb463 (by decide))).tr (xFr.of (S := [83]) hb471 (by decide))) (List.forall_mem_cons.mpr ⟨(show cpx83 (wget w469 83) from ⟨_, hr470, hb472, hx490⟩), fun _ h => absurd h List.not_mem_nil⟩), (hF234.tr (((((((((((((xFr.of (S := [82, 83, 85, 86, 87]) hb352 (by decide)).tr (xFr.of (S := [82, 83, 85, 86, 87]) hb363 (by decide))).tr (xFr.of (S := [82, 83, 85, 86, 87]) hb374 (by decide))).tr (xFr.of (S := [82, 83, 85, 86, 87]) hb385 (by decide))).tr (xFr.of (S := [82, 83, 85, 86, 87]) hb396 (by decide))).tr (xFr.of (S := [82, 83, 85, 86, 87]) hb407 (by decide))).tr (xFr.of (S := [82, 83, 85, 86, 87]) hb418 (by decide))).tr (xFr.of (S := [82, 83, 85, 86, 87]) hb429 (by decide))).tr (xFr.of (S := [82, 83, 85, 86, 87]) hb440 (by decide))).tr (xFr.of (S := [82, 83, 85, 86, 87]) hc450 (by decide))).tr (xFr.of (S := [82, 83, 85, 86, 87]) hb455 (by decide))).tr (xFr.of (S := [82, 83, 85, 86, 87]) hb463 (by decide))).tr (xFr.of (S := [82, 83, 85, 86, 87]) hb471 (by decide))))⟩
                        · refine xg_t (xg_ifF (u := u343) rfl xnm0 (xj_eqF hc346)) ?_
                          refine xg_t (xg_const) ?_
                          have kk492 := hz240.k K83.rf
                          exact xg_e ⟨4294967295, w232, ⟨rfl, rfl⟩, ⟨by omega, kk492.1, fun j h1 h2 => kk492.2 j h2 (by omega) (by omega) (by omega)⟩, hI233, hF234⟩
                    · have hc292u := hc292
                      unfold xbs at hc292u
                      have hn493 : kf ≤ 20 := by omega
                      refine xg_t (xg_icT (u := kf) (v := u289) rfl xnm0 xnm0 (xjs_geT hc292)) ?_
                      refine xg_t (xg_blk (b := [(165, 1, 0, 0, 0, 0), (166, 3, 1, 12, 0, 7), (169, 2, 4, 16, 0, 0), (171, 1, 10, 0, 0, 0), (172, 3, 7, 177, 0, 0), (175, 1, 3, 4294967295, 0, 0), (176, 1, 12, 0, 1, 0)]) rfl) ?_
                      refine xg_t (xg_aload (va := (2, 82)) rfl rfl) ?_
                      refine xg_t (xg_getf (va := (2, 83)) h82_271 rfl) ?_
                      refine xg_t (xg_bip) ?_
                      refine xg_ialdB (n := 16) (B := 4294967295) h83_274 (hb275) xnm0 (by omega) (fun u494 hu495 he496 => ?_)
                      by_cases hc497 : u494 = 0
                      · refine xg_t (xg_ifT (u := u494) rfl xnm0 (xj_eqT hc497)) ?_
                        refine xg_t (xg_blk (b := [(177, 1, 3, 0, 0, 0), (178, 1, 15, 1, 0, 0)]) rfl) ?_
                        have hDD := hz239.resolve_left (by omega)
                        have hdt := hDD.toDt h85_280 h86_283
                        refine xg_t (xg_const) ?_
                        refine xg_t (xg_istore (l1 := [(0, (2, 82))]) rfl rfl rfl) ?_
                        refine xg_t (xg_blk (b := [(179, 1, 2, 1, 0, 0), (180, 1, 3, 5, 0, 0), (181, 3, 6, 202, 3, 0), (184, 1, 0, 0, 0, 0), (185, 3, 1, 12, 0, 7), (188, 1, 2, 1, 0, 0), (189, 1, 0, 0, 0, 0), (190, 3, 1, 12, 11, 17), (193, 1, 2, 1, 0, 0), (194, 1, 10, 0, 0, 0), (195, 1, 17, 0, 0, 0), (196, 3, 9, 1, 1, 0), (199, 3, 8, 179, 0, 0)]) rfl) ?_
                        refine xg_t (xg_iload (va := (0, 0)) rfl rfl) ?_
                        refine xg_t (xg_const) ?_
                        refine xg_t (xg_icF (u := 0) (v := 5) rfl xnm0 xnm0 (by decide)) ?_
                        refine xg_t (xg_aload (va := (2, 82)) rfl rfl) ?_
                        refine xg_t (xg_getf (va := (2, 83)) h82_271 rfl) ?_
                        refine xg_t (xg_iload (va := (0, 0)) rfl rfl) ?_
                        refine xg_t (xg_aload (va := (2, 82)) rfl rfl) ?_
                        refine xg_t (xg_getf (va := (2, 85)) h82_271 rfl) ?_
                        refine xg_t (xg_iload (va := (0, 0)) rfl rfl) ?_
                        refine xg_ialdB (n := 0) (B := 4294967295) h85_280 (hb281) xnm0 (by omega) (fun u498 hu499 he500 => ?_)
                        refine xg_iastK (n := 0) (u := u498) h83_274 xnm0 xnm0 rfl (by omega) (fun w501 hr502 hb503 => ?_)
                        have hb504 : ∀ j, (fun j => if j = 0 then u498 else g83_273 j) j ≤ 4294967295 := xrb (by omega) (hb275)
                        obtain ⟨g505, hg506⟩ : ∃ g : Nat → Nat, g = (fun j => if j = 0 then u498 else g83_273 j) := ⟨_, rfl⟩
                        rw [← hg506] at hr502
                        have he507 : g505 0 = u498 := by rw [hg506]; exact if_pos rfl
                        have hk508 : ∀ j, j ≠ 0 → g505 j = g83_273 j := fun j hj => by rw [hg506]; exact if_neg hj
                        rw [← hg506] at hb504
                        refine xg_t (xg_iinc (u := 0) (z := 1) (l1 := [(0, (2, 82))]) rfl rfl (by decide) rfl) ?_
                        refine xg_t (xg_goto) ?_
                        refine xg_t (xg_blk (b := [(179, 1, 2, 1, 0, 0), (180, 1, 3, 5, 0, 0), (181, 3, 6, 202, 3, 0), (184, 1, 0, 0, 0, 0), (185, 3, 1, 12, 0, 7), (188, 1, 2, 1, 0, 0), (189, 1, 0, 0, 0, 0), (190, 3, 1, 12, 11, 17), (193, 1, 2, 1, 0, 0), (194, 1, 10, 0, 0, 0), (195, 1, 17, 0, 0, 0), (196, 3, 9, 1, 1, 0), (199, 3, 8, 179, 0, 0)]) rfl) ?_
                        refine xg_t (xg_iload (va := (0, 1)) rfl rfl) ?_
                        refine xg_t (xg_const) ?_
                        refine xg_t (xg_icF (u := 1) (v := 5) rfl xnm0 xnm0 (by decide)) ?_
                        refine xg_t (xg_aload (va := (2, 82)) rfl rfl) ?_
                        refine xg_t (xg_getf (va := (2, 83)) (hb503.get (by decide) h82_271) rfl) ?_
                        refine xg_t (xg_iload (va := (0, 1)) rfl rfl) ?_
                        refine xg_t (xg_aload (va := (2, 82)) rfl rfl) ?_
                        refine xg_t (xg_getf (va := (2, 85)) (hb503.get (by decide) h82_271) rfl) ?_
                        refine xg_t (xg_iload (va := (0, 1)) rfl rfl) ?_
                        refine xg_ialdB (n := 1) (B := 4294967295) (h85_280.but hb503 (by decide)) (hb281) xnm0 (by omega) (fun u509 hu510 he511 => ?_)
                        refine xg_iastK (n := 1) (u := u509) hr502 xnm0 xnm0 rfl (by omega) (fun w512 hr513 hb514 => ?_)
                        have hb515 : ∀ j, (fun j => if j = 1 then u509 else g505 j) j ≤ 4294967295 := xrb (by omega) (hb504)
                        obtain ⟨g516, hg517⟩ : ∃ g : Nat → Nat, g = (fun j => if j = 1 then u509 else g505 j) := ⟨_, rfl⟩
                        rw [← hg517] at hr513
                        have he518 : g516 1 = u509 := by rw [hg517]; exact if_pos rfl
                        have hk519 : ∀ j, j ≠ 1 → g516 j = g505 j := fun j hj => by rw [hg517]; exact if_neg hj
                        rw [← hg517] at hb515
                        refine xg_t (xg_iinc (u := 1) (z := 2) (l1 := [(0, (2, 82))]) rfl rfl (by decide) rfl) ?_
                        refine xg_t (xg_goto) ?_
                        refine xg_t (xg_blk (b := [(179, 1, 2, 1, 0, 0), (180, 1, 3, 5, 0, 0), (181, 3, 6, 202, 3, 0), (184, 1, 0, 0, 0, 0), (185, 3, 1, 12, 0, 7), (188, 1, 2, 1, 0, 0), (189, 1, 0, 0, 0, 0), (190, 3, 1, 12, 11, 17), (193, 1, 2, 1, 0, 0), (194, 1, 10, 0, 0, 0), (195, 1, 17, 0, 0, 0), (196, 3, 9, 1, 1, 0), (199, 3, 8, 179, 0, 0)]) rfl) ?_
                        refine xg_t (xg_iload (va := (0, 2)) rfl rfl) ?_
                        refine xg_t (xg_const) ?_
                        refine xg_t (xg_icF (u := 2) (v := 5) rfl xnm0 xnm0 (by decide)) ?_
                        refine xg_t (xg_aload (va := (2, 82)) rfl rfl) ?_
                        refine xg_t (xg_getf (va := (2, 83)) (hb514.get (by decide) (hb503.get (by decide) h82_271)) rfl) ?_
                        refine xg_t (xg_iload (va := (0, 2)) rfl rfl) ?_
                        refine xg_t (xg_aload (va := (2, 82)) rfl rfl) ?_
                        refine xg_t (xg_getf (va := (2, 85)) (hb514.get (by decide) (hb503.get (by decide) h82_271)) rfl) ?_
                        refine xg_t (xg_iload (va := (0, 2)) rfl rfl) ?_
                        refine xg_ialdB (n := 2) (B := 4294967295) ((h85_280.but hb503 (by decide)).but hb514 (by decide)) (hb281) xnm0 (by omega) (fun u520 hu521 he522 => ?_)
                        refine xg_iastK (n := 2) (u := u520) hr513 xnm0 xnm0 rfl (by omega) (fun w523 hr524 hb525 => ?_)
                        have hb526 : ∀ j, (fun j => if j = 2 then u520 else g516 j) j ≤ 4294967295 := xrb (by omega) (hb515)
                        obtain ⟨g527, hg528⟩ : ∃ g : Nat → Nat, g = (fun j => if j = 2 then u520 else g516 j) := ⟨_, rfl⟩
                        rw [← hg528] at hr524
                        have he529 : g527 2 = u520 := by rw [hg528]; exact if_pos rfl
                        have hk530 : ∀ j, j ≠ 2 → g527 j = g516 j := fun j hj => by rw [hg528]; exact if_neg hj
                        rw [← hg528] at hb526
                        refine xg_t (xg_iinc (u := 2) (z := 3) (l1 := [(0, (2, 82))]) rfl rfl (by decide) rfl) ?_
                        refine xg_t (xg_goto) ?_
                        refine xg_t (xg_blk (b := [(179, 1, 2, 1, 0, 0), (180, 1, 3, 5, 0, 0), (181, 3, 6, 202, 3, 0), (184, 1, 0, 0, 0, 0), (185, 3, 1, 12, 0, 7), (188, 1, 2, 1, 0, 0), (189, 1, 0, 0, 0, 0), (190, 3, 1, 12, 11, 17), (193, 1, 2, 1, 0, 0), (194, 1, 10, 0, 0, 0), (195, 1, 17, 0, 0, 0), (196, 3, 9, 1, 1, 0), (199, 3, 8, 179, 0, 0)]) rfl) ?_
                        refine xg_t (xg_iload (va := (0, 3)) rfl rfl) ?_
                        refine xg_t (xg_const) ?_
                        refine xg_t (xg_icF (u := 3) (v := 5) rfl xnm0 xnm0 (by decide)) ?_
                        refine xg_t (xg_aload (va := (2, 82)) rfl rfl) ?_
                        refine xg_t (xg_getf (va := (2, 83)) (hb525.get (by decide) (hb514.get (by decide) (hb503.get (by decide) h82_271))) rfl) ?_
                        refine xg_t (xg_iload (va := (0, 3)) rfl rfl) ?_
                        refine xg_t (xg_aload (va := (2, 82)) rfl rfl) ?_
                        refine xg_t (xg_getf (va := (2, 85)) (hb525.get (by decide) (hb514.get (by decide) (hb503.get (by decide) h82_271))) rfl) ?_
                        refine xg_t (xg_iload (va := (0, 3)) rfl rfl) ?_
                        refine xg_ialdB (n := 3) (B := 4294967295) (((h85_280.but hb503 (by decide)).but hb514 (by decide)).but hb525 (by decide)) (hb281) xnm0 (by omega) (fun u531 hu532 he533 => ?_)
                        refine xg_iastK (n := 3) (u := u531) hr524 xnm0 xnm0 rfl (by omega) (fun w534 hr535 hb536 => ?_)
                        have hb537 : ∀ j, (fun j => if j = 3 then u531 else g527 j) j ≤ 4294967295 := xrb (by omega) (hb526)
                        obtain ⟨g538, hg539⟩ : ∃ g : Nat → Nat, g = (fun j => if j = 3 then u531 else g527 j) := ⟨_, rfl⟩
                        rw [← hg539] at hr535
                        have he540 : g538 3 = u531 := by rw [hg539]; exact if_pos rfl
                        have hk541 : ∀ j, j ≠ 3 → g538 j = g527 j := fun j hj => by rw [hg539]; exact if_neg hj
                        rw [← hg539] at hb537
                        refine xg_t (xg_iinc (u := 3) (z := 4) (l1 := [(0, (2, 82))]) rfl rfl (by decide) rfl) ?_
                        refine xg_t (xg_goto) ?_
                        refine xg_t (xg_blk (b := [(179, 1, 2, 1, 0, 0), (180, 1, 3, 5, 0, 0), (181, 3, 6, 202, 3, 0), (184, 1, 0, 0, 0, 0), (185, 3, 1, 12, 0, 7), (188, 1, 2, 1, 0, 0), (189, 1, 0, 0, 0, 0), (190, 3, 1, 12, 11, 17), (193, 1, 2, 1, 0, 0), (194, 1, 10, 0, 0, 0), (195, 1, 17, 0, 0, 0), (196, 3, 9, 1, 1, 0), (199, 3, 8, 179, 0, 0)]) rfl) ?_
                        refine xg_t (xg_iload (va := (0, 4)) rfl rfl) ?_
                        refine xg_t (xg_const) ?_
                        refine xg_t (xg_icF (u := 4) (v := 5) rfl xnm0 xnm0 (by decide)) ?_
                        refine xg_t (xg_aload (va := (2, 82)) rfl rfl) ?_
                        refine xg_t (xg_getf (va := (2, 83)) (hb536.get (by decide) (hb525.get (by decide) (hb514.get (by decide) (hb503.get (by decide) h82_271)))) rfl) ?_
                        refine xg_t (xg_iload (va := (0, 4)) rfl rfl) ?_
                        refine xg_t (xg_aload (va := (2, 82)) rfl rfl) ?_
                        refine xg_t (xg_getf (va := (2, 85)) (hb536.get (by decide) (hb525.get (by decide) (hb514.get (by decide) (hb503.get (by decide) h82_271)))) rfl) ?_
                        refine xg_t (xg_iload (va := (0, 4)) rfl rfl) ?_
                        refine xg_ialdB (n := 4) (B := 4294967295) ((((h85_280.but hb503 (by decide)).but hb514 (by decide)).but hb525 (by decide)).but hb536 (by decide)) (hb281) xnm0 (by omega) (fun u542 hu543 he544 => ?_)
                        refine xg_iastK (n := 4) (u := u542) hr535 xnm0 xnm0 rfl (by omega) (fun w545 hr546 hb547 => ?_)
                        have hb548 : ∀ j, (fun j => if j = 4 then u542 else g538 j) j ≤ 4294967295 := xrb (by omega) (hb537)
                        obtain ⟨g549, hg550⟩ : ∃ g : Nat → Nat, g = (fun j => if j = 4 then u542 else g538 j) := ⟨_, rfl⟩
                        rw [← hg550] at hr546
                        have he551 : g549 4 = u542 := by rw [hg550]; exact if_pos rfl
                        have hk552 : ∀ j, j ≠ 4 → g549 j = g538 j := fun j hj => by rw [hg550]; exact if_neg hj
                        rw [← hg550] at hb548
                        refine xg_t (xg_iinc (u := 4) (z := 5) (l1 := [(0, (2, 82))]) rfl rfl (by decide) rfl) ?_
                        refine xg_t (xg_goto) ?_
                        refine xg_t (xg_blk (b := [(179, 1, 2, 1, 0, 0), (180, 1, 3, 5, 0, 0), (181, 3, 6, 202, 3, 0), (184, 1, 0, 0, 0, 0), (185, 3, 1, 12, 0, 7), (188, 1, 2, 1, 0, 0), (189, 1, 0, 0, 0, 0), (190, 3, 1, 12, 11, 17), (193, 1, 2, 1, 0, 0), (194, 1, 10, 0, 0, 0), (195, 1, 17, 0, 0, 0), (196, 3, 9, 1, 1, 0), (199, 3, 8, 179, 0, 0)]) rfl) ?_
                        refine xg_t (xg_iload (va := (0, 5)) rfl rfl) ?_
                        refine xg_t (xg_const) ?_
                        refine xg_t (xg_icT (u := 5) (v := 5) rfl xnm0 xnm0 (by decide)) ?_
                        refine xg_t (xg_blk (b := [(202, 1, 3, 5, 0, 0), (203, 1, 15, 1, 0, 0)]) rfl) ?_
                        refine xg_t (xg_const) ?_
                        refine xg_t (xg_istore (l1 := [(0, (2, 82))]) rfl rfl rfl) ?_
                        refine xg_t (xg_blk (b := [(204, 1, 2, 1, 0, 0), (205, 2, 4, 8, 0, 0), (207, 3, 6, 228, 4, 0), (210, 1, 0, 0, 0, 0), (211, 3, 1, 12, 0, 7), (214, 1, 2, 1, 0, 0), (215, 1, 0, 0, 0, 0), (216, 3, 1, 12, 12, 20), (219, 1, 2, 1, 0, 0), (220, 1, 10, 0, 0, 0), (221, 1, 17, 0, 0, 0), (222, 3, 9, 1, 1, 0), (225, 3, 8, 204, 0, 0)]) rfl) ?_
                        refine xg_t (xg_iload (va := (0, 5)) rfl rfl) ?_
                        refine xg_t (xg_bip) ?_
                        refine xg_t (xg_icF (u := 5) (v := 8) rfl xnm0 xnm0 (by decide)) ?_
                        refine xg_t (xg_aload (va := (2, 82)) rfl rfl) ?_
                        refine xg_t (xg_getf (va := (2, 83)) (hb547.get (by decide) (hb536.get (by decide) (hb525.get (by decide) (hb514.get (by decide) (hb503.get (by decide) h82_271))))) rfl) ?_
                        refine xg_t (xg_iload (va := (0, 5)) rfl rfl) ?_
                        refine xg_t (xg_aload (va := (2, 82)) rfl rfl) ?_
                        refine xg_t (xg_getf (va := (2, 86)) (hb547.get (by decide) (hb536.get (by decide) (hb525.get (by decide) (hb514.get (by decide) (hb503.get (by decide) h82_271))))) rfl) ?_
                        refine xg_t (xg_iload (va := (0, 5)) rfl rfl) ?_
                        refine xg_ialdB (n := 5) (B := 4294967295) (((((h86_283.but hb503 (by decide)).but hb514 (by decide)).but hb525 (by decide)).but hb536 (by decide)).but hb547 (by decide)) (hb284) xnm0 (by omega) (fun u553 hu554 he555 => ?_)
                        refine xg_iastK (n := 5) (u := u553) hr546 xnm0 xnm0 rfl (by omega) (fun w556 hr557 hb558 => ?_)
                        have hb559 : ∀ j, (fun j => if j = 5 then u553 else g549 j) j ≤ 4294967295 := xrb (by omega) (hb548)
                        obtain ⟨g560, hg561⟩ : ∃ g : Nat → Nat, g = (fun j => if j = 5 then u553 else g549 j) := ⟨_, rfl⟩
                        rw [← hg561] at hr557
                        have he562 : g560 5 = u553 := by rw [hg561]; exact if_pos rfl
                        have hk563 : ∀ j, j ≠ 5 → g560 j = g549 j := fun j hj => by rw [hg561]; exact if_neg hj
                        rw [← hg561] at hb559
                        refine xg_t (xg_iinc (u := 5) (z := 6) (l1 := [(0, (2, 82))]) rfl rfl (by decide) rfl) ?_
                        refine xg_t (xg_goto) ?_
                        refine xg_t (xg_blk (b := [(204, 1, 2, 1, 0, 0), (205, 2, 4, 8, 0, 0), (207, 3, 6, 228, 4, 0), (210, 1, 0, 0, 0, 0), (211, 3, 1, 12, 0, 7), (214, 1, 2, 1, 0, 0), (215, 1, 0, 0, 0, 0), (216, 3, 1, 12, 12, 20), (219, 1, 2, 1, 0, 0), (220, 1, 10, 0, 0, 0), (221, 1, 17, 0, 0, 0), (222, 3, 9, 1, 1, 0), (225, 3, 8, 204, 0, 0)]) rfl) ?_
                        refine xg_t (xg_iload (va := (0, 6)) rfl rfl) ?_
                        refine xg_t (xg_bip) ?_
                        refine xg_t (xg_icF (u := 6) (v := 8) rfl xnm0 xnm0 (by decide)) ?_
                        refine xg_t (xg_aload (va := (2, 82)) rfl rfl) ?_
                        refine xg_t (xg_getf (va := (2, 83)) (hb558.get (by decide) (hb547.get (by decide) (hb536.get (by decide) (hb525.get (by decide) (hb514.get (by decide) (hb503.get (by decide) h82_271)))))) rfl) ?_
                        refine xg_t (xg_iload (va := (0, 6)) rfl rfl) ?_
                        refine xg_t (xg_aload (va := (2, 82)) rfl rfl) ?_
                        refine xg_t (xg_getf (va := (2, 86)) (hb558.get (by decide) (hb547.get (by decide) (hb536.get (by decide) (hb525.get (by decide) (hb514.get (by decide) (hb503.get (by decide) h82_271)))))) rfl) ?_
                        refine xg_t (xg_iload (va := (0, 6)) rfl rfl) ?_
                        refine xg_ialdB (n := 6) (B := 4294967295) ((((((h86_283.but hb503 (by decide)).but hb514 (by decide)).but hb525 (by decide)).but hb536 (by decide)).but hb547 (by decide)).but hb558 (by decide)) (hb284) xnm0 (by omega) (fun u564 hu565 he566 => ?_)
                        refine xg_iastK (n := 6) (u := u564) hr557 xnm0 xnm0 rfl (by omega) (fun w567 hr568 hb569 => ?_)
                        have hb570 : ∀ j, (fun j => if j = 6 then u564 else g560 j) j ≤ 4294967295 := xrb (by omega) (hb559)
                        obtain ⟨g571, hg572⟩ : ∃ g : Nat → Nat, g = (fun j => if j = 6 then u564 else g560 j) := ⟨_, rfl⟩
                        rw [← hg572] at hr568
                        have he573 : g571 6 = u564 := by rw [hg572]; exact if_pos rfl
                        have hk574 : ∀ j, j ≠ 6 → g571 j = g560 j := fun j hj => by rw [hg572]; exact if_neg hj
                        rw [← hg572] at hb570
                        refine xg_t (xg_iinc (u := 6) (z := 7) (l1 := [(0, (2, 82))]) rfl rfl (by decide) rfl) ?_
                        refine xg_t (xg_goto) ?_
                        refine xg_t (xg_blk (b := [(204, 1, 2, 1, 0, 0), (205, 2, 4, 8, 0, 0), (207, 3, 6, 228, 4, 0), (210, 1, 0, 0, 0, 0), (211, 3, 1, 12, 0, 7), (214, 1, 2, 1, 0, 0), (215, 1, 0, 0, 0, 0), (216, 3, 1, 12, 12, 20), (219, 1, 2, 1, 0, 0), (220, 1, 10, 0, 0, 0), (221, 1, 17, 0, 0, 0), (222, 3, 9, 1, 1, 0), (225, 3, 8, 204, 0, 0)]) rfl) ?_
                        refine xg_t (xg_iload (va := (0, 7)) rfl rfl) ?_
                        refine xg_t (xg_bip) ?_
                        refine xg_t (xg_icF (u := 7) (v := 8) rfl xnm0 xnm0 (by decide)) ?_
                        refine xg_t (xg_aload (va := (2, 82)) rfl rfl) ?_
                        refine xg_t (xg_getf (va := (2, 83)) (hb569.get (by decide) (hb558.get (by decide) (hb547.get (by decide) (hb536.get (by decide) (hb525.get (by decide) (hb514.get (by decide) (hb503.get (by decide) h82_271))))))) rfl) ?_
                        refine xg_t (xg_iload (va := (0, 7)) rfl rfl) ?_
                        refine xg_t (xg_aload (va := (2, 82)) rfl rfl) ?_
                        refine xg_t (xg_getf (va := (2, 86)) (hb569.get (by decide) (hb558.get (by decide) (hb547.get (by decide) (hb536.get (by decide) (hb525.get (by decide) (hb514.get (by decide) (hb503.get (by decide) h82_271))))))) rfl) ?_
                        refine xg_t (xg_iload (va := (0, 7)) rfl rfl) ?_
                        refine xg_ialdB (n := 7) (B := 4294967295) (((((((h86_283.but hb503 (by decide)).but hb514 (by decide)).but hb525 (by decide)).but hb536 (by decide)).but hb547 (by decide)).but hb558 (by decide)).but hb569 (by decide)) (hb284) xnm0 (by omega) (fun u575 hu576 he577 => ?_)
                        refine xg_iastK (n := 7) (u := u575) hr568 xnm0 xnm0 rfl (by omega) (fun w578 hr579 hb580 => ?_)
                        have hb581 : ∀ j, (fun j => if j = 7 then u575 else g571 j) j ≤ 4294967295 := xrb (by omega) (hb570)
                        obtain ⟨g582, hg583⟩ : ∃ g : Nat → Nat, g = (fun j => if j = 7 then u575 else g571 j) := ⟨_, rfl⟩
                        rw [← hg583] at hr579
                        have he584 : g582 7 = u575 := by rw [hg583]; exact if_pos rfl
                        have hk585 : ∀ j, j ≠ 7 → g582 j = g571 j := fun j hj => by rw [hg583]; exact if_neg hj
                        rw [← hg583] at hb581
                        refine xg_t (xg_iinc (u := 7) (z := 8) (l1 := [(0, (2, 82))]) rfl rfl (by decide) rfl) ?_
                        refine xg_t (xg_goto) ?_
                        refine xg_t (xg_blk (b := [(204, 1, 2, 1, 0, 0), (205, 2, 4, 8, 0, 0), (207, 3, 6, 228, 4, 0), (210, 1, 0, 0, 0, 0), (211, 3, 1, 12, 0, 7), (214, 1, 2, 1, 0, 0), (215, 1, 0, 0, 0, 0), (216, 3, 1, 12, 12, 20), (219, 1, 2, 1, 0, 0), (220, 1, 10, 0, 0, 0), (221, 1, 17, 0, 0, 0), (222, 3, 9, 1, 1, 0), (225, 3, 8, 204, 0, 0)]) rfl) ?_
                        refine xg_t (xg_iload (va := (0, 8)) rfl rfl) ?_
                        refine xg_t (xg_bip) ?_
                        refine xg_t (xg_icF (u := 8) (v := 8) rfl xnm0 xnm0 (by decide)) ?_
                        refine xg_t (xg_aload (va := (2, 82)) rfl rfl) ?_
                        refine xg_t (xg_getf (va := (2, 83)) (hb580.get (by decide) (hb569.get (by decide) (hb558.get (by decide) (hb547.get (by decide) (hb536.get (by decide) (hb525.get (by decide) (hb514.get (by decide) (hb503.get (by decide) h82_271)))))))) rfl) ?_
                        refine xg_t (xg_iload (va := (0, 8)) rfl rfl) ?_
                        refine xg_t (xg_aload (va := (2, 82)) rfl rfl) ?_
                        refine xg_t (xg_getf (va := (2, 86)) (hb580.get (by decide) (hb569.get (by decide) (hb558.get (by decide) (hb547.get (by decide) (hb536.get (by decide) (hb525.get (by decide) (hb514.get (by decide) (hb503.get (by decide) h82_271)))))))) rfl) ?_
                        refine xg_t (xg_iload (va := (0, 8)) rfl rfl) ?_
                        refine xg_ialdB (n := 8) (B := 4294967295) ((((((((h86_283.but hb503 (by decide)).but hb514 (by decide)).but hb525 (by decide)).but hb536 (by decide)).but hb547 (by decide)).but hb558 (by decide)).but hb569 (by decide)).but hb580 (by decide)) (hb284) xnm0 (by omega) (fun u586 hu587 he588 => ?_)
                        refine xg_iastK (n := 8) (u := u586) hr579 xnm0 xnm0 rfl (by omega) (fun w589 hr590 hb591 => ?_)
                        have hb592 : ∀ j, (fun j => if j = 8 then u586 else g582 j) j ≤ 4294967295 := xrb (by omega) (hb581)
                        obtain ⟨g593, hg594⟩ : ∃ g : Nat → Nat, g = (fun j => if j = 8 then u586 else g582 j) := ⟨_, rfl⟩
                        rw [← hg594] at hr590
                        have he595 : g593 8 = u586 := by rw [hg594]; exact if_pos rfl
                        have hk596 : ∀ j, j ≠ 8 → g593 j = g582 j := fun j hj => by rw [hg594]; exact if_neg hj
                        rw [← hg594] at hb592
                        refine xg_t (xg_iinc (u := 8) (z := 9) (l1 := [(0, (2, 82))]) rfl rfl (by decide) rfl) ?_
                        refine xg_t (xg_goto) ?_
                        refine xg_t (xg_blk (b := [(204, 1, 2, 1, 0, 0), (205, 2, 4, 8, 0, 0), (207, 3, 6, 228, 4, 0), (210, 1, 0, 0, 0, 0), (211, 3, 1, 12, 0, 7), (214, 1, 2, 1, 0, 0), (215, 1, 0, 0, 0, 0), (216, 3, 1, 12, 12, 20), (219, 1, 2, 1, 0, 0), (220, 1, 10, 0, 0, 0), (221, 1, 17, 0, 0, 0), (222, 3, 9, 1, 1, 0), (225, 3, 8, 204, 0, 0)]) rfl) ?_
                        refine xg_t (xg_iload (va := (0, 9)) rfl rfl) ?_
                        refine xg_t (xg_bip) ?_
                        refine xg_t (xg_icT (u := 9) (v := 8) rfl xnm0 xnm0 (by decide)) ?_
                        refine xg_t (xg_blk (b := [(228, 2, 4, 20, 0, 0), (230, 1, 15, 1, 0, 0)]) rfl) ?_
                        refine xg_t (xg_bip) ?_
                        refine xg_t (xg_istore (l1 := [(0, (2, 82))]) rfl rfl rfl) ?_
                        refine xg_t (xg_drop (l1 := [(0, (2, 82)), (1, (0, 20))]) (List.forall_mem_cons.mpr ⟨List.mem_cons_of_mem _ (List.mem_cons_self), List.forall_mem_cons.mpr ⟨List.mem_cons_self, fun _ h => absurd h List.not_mem_nil⟩⟩)) ?_
                        refine cpFilm 120 20 w589 g593 (by decide) hr590 hb592 (((((((((h86_283.but hb503 (by decide)).but hb514 (by decide)).but hb525 (by decide)).but hb536 (by decide)).but hb547 (by decide)).but hb558 (by decide)).but hb569 (by decide)).but hb580 (by decide)).but hb591 (by decide)) hb284 (hb591.get (by decide) (hb580.get (by decide) (hb569.get (by decide) (hb558.get (by decide) (hb547.get (by decide) (hb536.get (by decide) (hb525.get (by decide) (hb514.get (by decide) (hb503.get (by decide) h82_271))))))))) (fun w597 g598 hc599 hc600 hc601 hc602 hc603 => ?_)
                        refine xg_t (xg_blk (b := [(256, 1, 0, 0, 0, 0), (257, 3, 1, 12, 0, 7), (260, 2, 4, 9, 0, 0), (262, 1, 3, 0, 0, 0), (263, 1, 17, 0, 0, 0), (264, 1, 0, 0, 0, 0), (265, 3, 1, 12, 0, 7), (268, 2, 4, 10, 0, 0), (270, 1, 3, 0, 0, 0), (271, 1, 17, 0, 0, 0), (272, 1, 0, 0, 0, 0), (273, 3, 1, 12, 0, 7), (276, 2, 4, 14, 0, 0), (278, 1, 0, 0, 0, 0), (279, 3, 1, 12, 14, 212), (282, 1, 17, 0, 0, 0), (283, 1, 0, 0, 0, 0), (284, 3, 1, 12, 14, 212), (287, 1, 12, 0, 1, 0)]) rfl) ?_
                        refine xg_t (xg_aload (va := (2, 82)) rfl rfl) ?_
                        refine xg_t (xg_getf (va := (2, 83)) (hc601.get (by decide) (hb591.get (by decide) (hb580.get (by decide) (hb569.get (by decide) (hb558.get (by decide) (hb547.get (by decide) (hb536.get (by decide) (hb525.get (by decide) (hb514.get (by decide) (hb503.get (by decide) h82_271)))))))))) rfl) ?_
                        refine xg_t (xg_bip) ?_
                        refine xg_t (xg_const) ?_
                        refine xg_iastK (n := 9) (u := 0) hc599 xnm0 xnm0 rfl (by omega) (fun w604 hr605 hb606 => ?_)
                        have hb607 : ∀ j, (fun j => if j = 9 then 0 else g598 j) j ≤ 4294967295 := xrb (by omega) (hc600)
                        obtain ⟨g608, hg609⟩ : ∃ g : Nat → Nat, g = (fun j => if j = 9 then 0 else g598 j) := ⟨_, rfl⟩
                        rw [← hg609] at hr605
                        have he610 : g608 9 = 0 := by rw [hg609]; exact if_pos rfl
                        have hk611 : ∀ j, j ≠ 9 → g608 j = g598 j := fun j hj => by rw [hg609]; exact if_neg hj
                        rw [← hg609] at hb607
                        refine xg_t (xg_aload (va := (2, 82)) rfl rfl) ?_
                        refine xg_t (xg_getf (va := (2, 83)) (hb606.get (by decide) (hc601.get (by decide) (hb591.get (by decide) (hb580.get (by decide) (hb569.get (by decide) (hb558.get (by decide) (hb547.get (by decide) (hb536.get (by decide) (hb525.get (by decide) (hb514.get (by decide) (hb503.get (by decide) h82_271))))))))))) rfl) ?_
                        refine xg_t (xg_bip) ?_
                        refine xg_t (xg_const) ?_
                        refine xg_iastK (n := 10) (u := 0) hr605 xnm0 xnm0 rfl (by omega) (fun w612 hr613 hb614 => ?_)
                        have hb615 : ∀ j, (fun j => if j = 10 then 0 else g608 j) j ≤ 4294967295 := xrb (by omega) (hb607)
                        obtain ⟨g616, hg617⟩ : ∃ g : Nat → Nat, g = (fun j => if j = 10 then 0 else g608 j) := ⟨_, rfl⟩
                        rw [← hg617] at hr613
                        have he618 : g616 10 = 0 := by rw [hg617]; exact if_pos rfl
                        have hk619 : ∀ j, j ≠ 10 → g616 j = g608 j := fun j hj => by rw [hg617]; exact if_neg hj
                        rw [← hg617] at hb615
                        refine xg_t (xg_aload (va := (2, 82)) rfl rfl) ?_
                        refine xg_t (xg_getf (va := (2, 83)) (hb614.get (by decide) (hb606.get (by decide) (hc601.get (by decide) (hb591.get (by decide) (hb580.get (by decide) (hb569.get (by decide) (hb558.get (by decide) (hb547.get (by decide) (hb536.get (by decide) (hb525.get (by decide) (hb514.get (by decide) (hb503.get (by decide) h82_271)))))))))))) rfl) ?_
                        refine xg_t (xg_bip) ?_
                        refine xg_t (xg_aload (va := (2, 82)) rfl rfl) ?_
                        refine xg_t (xg_getf (va := (0, f82_259)) (hb614.get (by decide) (hb606.get (by decide) (hc601.get (by decide) (hb591.get (by decide) (hb580.get (by decide) (hb569.get (by decide) (hb558.get (by decide) (hb547.get (by decide) (hb536.get (by decide) (hb525.get (by decide) (hb514.get (by decide) (hb503.get (by decide) h82_271)))))))))))) rfl) ?_
                        refine xg_iastK (n := 14) (u := f82_259) hr613 xnm0 xnm0 rfl (by omega) (fun w620 hr621 hb622 => ?_)
                        have hb623 : ∀ j, (fun j => if j = 14 then f82_259 else g616 j) j ≤ 4294967295 := xrb (by omega) (hb615)
                        obtain ⟨g624, hg625⟩ : ∃ g : Nat → Nat, g = (fun j => if j = 14 then f82_259 else g616 j) := ⟨_, rfl⟩
                        rw [← hg625] at hr621
                        have he626 : g624 14 = f82_259 := by rw [hg625]; exact if_pos rfl
                        have hk627 : ∀ j, j ≠ 14 → g624 j = g616 j := fun j hj => by rw [hg625]; exact if_neg hj
                        rw [← hg625] at hb623
                        have hq628 : g624 0 = u498 := by rw [hk627 0 (by omega), hk619 0 (by omega), hk611 0 (by omega), hc603 0 (by omega), hk596 0 (by omega), hk585 0 (by omega), hk574 0 (by omega), hk563 0 (by omega), hk552 0 (by omega), hk541 0 (by omega), hk530 0 (by omega), hk519 0 (by omega), he507]
                        have hq629 : g624 1 = u509 := by rw [hk627 1 (by omega), hk619 1 (by omega), hk611 1 (by omega), hc603 1 (by omega), hk596 1 (by omega), hk585 1 (by omega), hk574 1 (by omega), hk563 1 (by omega), hk552 1 (by omega), hk541 1 (by omega), hk530 1 (by omega), he518]
                        have hq630 : g624 2 = u520 := by rw [hk627 2 (by omega), hk619 2 (by omega), hk611 2 (by omega), hc603 2 (by omega), hk596 2 (by omega), hk585 2 (by omega), hk574 2 (by omega), hk563 2 (by omega), hk552 2 (by omega), hk541 2 (by omega), he529]
                        have hq631 : g624 3 = u531 := by rw [hk627 3 (by omega), hk619 3 (by omega), hk611 3 (by omega), hc603 3 (by omega), hk596 3 (by omega), hk585 3 (by omega), hk574 3 (by omega), hk563 3 (by omega), hk552 3 (by omega), he540]
                        have hq632 : g624 4 = u542 := by rw [hk627 4 (by omega), hk619 4 (by omega), hk611 4 (by omega), hc603 4 (by omega), hk596 4 (by omega), hk585 4 (by omega), hk574 4 (by omega), hk563 4 (by omega), he551]
                        have hq633 : g624 5 = u553 := by rw [hk627 5 (by omega), hk619 5 (by omega), hk611 5 (by omega), hc603 5 (by omega), hk596 5 (by omega), hk585 5 (by omega), hk574 5 (by omega), he562]
                        have hq634 : g624 6 = u564 := by rw [hk627 6 (by omega), hk619 6 (by omega), hk611 6 (by omega), hc603 6 (by omega), hk596 6 (by omega), hk585 6 (by omega), he573]
                        have hq635 : g624 7 = u575 := by rw [hk627 7 (by omega), hk619 7 (by omega), hk611 7 (by omega), hc603 7 (by omega), hk596 7 (by omega), he584]
                        have hq636 : g624 8 = u586 := by rw [hk627 8 (by omega), hk619 8 (by omega), hk611 8 (by omega), hc603 8 (by omega), he595]
                        have hq637 : g624 9 = 0 := by rw [hk627 9 (by omega), hk619 9 (by omega), he610]
                        have hq638 : g624 10 = 0 := by rw [hk627 10 (by omega), he618]
                        have hq639 : ∀ j, 20 ≤ j → j < 140 → g624 j = g86_282 j := fun j h1 h2 => by rw [hk627 j (by omega), hk619 j (by omega), hk611 j (by omega)]; exact hc602 j h1 h2
                        have hq640 : ∀ j, 140 ≤ j ∨ j = 11 ∨ j = 12 ∨ j = 13 ∨ j = 15 → g624 j = g83_273 j := fun j hj => by rw [hk627 j (by omega), hk619 j (by omega), hk611 j (by omega), hc603 j (by omega), hk596 j (by omega), hk585 j (by omega), hk574 j (by omega), hk563 j (by omega), hk552 j (by omega), hk541 j (by omega), hk530 j (by omega), hk519 j (by omega), hk508 j (by omega)]
                        have hx641 : okA g624 := film_ok hx276 hdt (by omega) (by omega) (by omega) (by omega) (by omega) (by omega) (by omega) (by omega) (by omega) (by omega) (by omega) hq639 (fun j hj => hq640 j (by omega))
                        refine xg_t (xg_aload (va := (2, 82)) rfl rfl) ?_
                        refine xg_t (xg_getf (va := (0, f82_259)) (hb622.get (by decide) (hb614.get (by decide) (hb606.get (by decide) (hc601.get (by decide) (hb591.get (by decide) (hb580.get (by decide) (hb569.get (by decide) (hb558.get (by decide) (hb547.get (by decide) (hb536.get (by decide) (hb525.get (by decide) (hb514.get (by decide) (hb503.get (by decide) h82_271))))))))))))) rfl) ?_
                        have kk642 := (hz240.k K83.rf)
                        exact xg_e ⟨f82_259, w620, ⟨rfl, rfl⟩, ⟨by omega, (rwv_of hr621 (by decide)).trans ((hq640 15 (by omega)).trans ((rwv_of h83_274 (by decide)).symm.trans kk642.1)), fun j h1 h2 => (rwv_of hr621 h2).trans ((hq640 j (by omega)).trans ((rwv_of h83_274 h2).symm.trans (kk642.2 j h2 (by omega) (by omega) (by omega))))⟩, xMnv.up (S := [83]) hI233 (((((((((((((xFr.of (S := [83]) hb503 (by decide)).tr (xFr.of (S := [83]) hb514 (by decide))).tr (xFr.of (S := [83]) hb525 (by decide))).tr (xFr.of (S := [83]) hb536 (by decide))).tr (xFr.of (S := [83]) hb547 (by decide))).tr (xFr.of (S := [83]) hb558 (by decide))).tr (xFr.of (S := [83]) hb569 (by decide))).tr (xFr.of (S := [83]) hb580 (by decide))).tr (xFr.of (S := [83]) hb591 (by decide))).tr (xFr.of (S := [83]) hc601 (by decide))).tr (xFr.of (S := [83]) hb606 (by decide))).tr (xFr.of (S := [83]) hb614 (by decide))).tr (xFr.of (S := [83]) hb622 (by decide))) (List.forall_mem_cons.mpr ⟨(show cpx83 (wget w620 83) from ⟨_, hr621, hb623, hx641⟩), fun _ h => absurd h List.not_mem_nil⟩), (hF234.tr (((((((((((((xFr.of (S := [82, 83, 85, 86, 87]) hb503 (by decide)).tr (xFr.of (S := [82, 83, 85, 86, 87]) hb514 (by decide))).tr (xFr.of (S := [82, 83, 85, 86, 87]) hb525 (by decide))).tr (xFr.of (S := [82, 83, 85, 86, 87]) hb536 (by decide))).tr (xFr.of (S := [82, 83, 85, 86, 87]) hb547 (by decide))).tr (xFr.of (S := [82, 83, 85, 86, 87]) hb558 (by decide))).tr (xFr.of (S := [82, 83, 85, 86, 87]) hb569 (by decide))).tr (xFr.of (S := [82, 83, 85, 86, 87]) hb580 (by decide))).tr (xFr.of (S := [82, 83, 85, 86, 87]) hb591 (by decide))).tr (xFr.of (S := [82, 83, 85, 86, 87]) hc601 (by decide))).tr (xFr.of (S := [82, 83, 85, 86, 87]) hb606 (by decide))).tr (xFr.of (S := [82, 83, 85, 86, 87]) hb614 (by decide))).tr (xFr.of (S := [82, 83, 85, 86, 87]) hb622 (by decide))))⟩
                      · refine xg_t (xg_ifF (u := u494) rfl xnm0 (xj_eqF hc497)) ?_
                        refine xg_t (xg_const) ?_
                        have kk643 := hz240.k K83.rf
                        exact xg_e ⟨4294967295, w232, ⟨rfl, rfl⟩, ⟨by omega, kk643.1, fun j h1 h2 => kk643.2 j h2 (by omega) (by omega) (by omega)⟩, hI233, hF234⟩
                exact key229 _ 0 w179 (Nat.lt_succ_self _) (by omega) (hI180) (hF181) (⟨hz184, hz187, hz188⟩)
              · refine xg_t (xg_ifF (u := f82_199) rfl xnm0 (xj_eqF hc228)) ?_
                refine xg_t (xg_aload (va := (2, 82)) rfl rfl) ?_
                refine xg_cVv mX12_aLine (vs := []) (rest := []) (cn1 := 0) (sl1 := 0) rfl (mALine (hI180) hz184 (fun s hs => by have q := hz186 s hs; omega) (by omega)) rfl h82_219 rfl rfl rfl rfl rfl rfl (fun w644 hq645 => ?_)
                obtain ⟨hI646, hF647, hx648⟩ := hq645
                obtain ⟨ha649, ha650, ha651, ha652, ha653⟩ := hx648
                have kk654 := hz188.k ha653
                have hM655 : ∀ s, s < 7 → rwv w644 85 s ≤ fld w644 82 14 := fun s hs => by
                  have q := hz186 s hs
                  rcases ha651 with ⟨c1, c2, c3, c4⟩ | ⟨c1, c2, c3⟩
                  · have := c4 s hs; omega
                  · have := c3 s hs; omega
                have hD656 : FA w644 ≠ 0 ∨ DATA w644 := by
                  rcases hz187 with q | q
                  · exact Or.inl (ha649 q)
                  · rcases ha652 with r | r
                    · exact Or.inl r
                    · exact Or.inr (r q)
                refine xg_t (xg_goto) ?_
                exact ih177 w644 (by rcases ha651 with ⟨c1, c2, c3, -⟩ | ⟨c1, c2, -⟩ <;> omega) (hI646) ((hF181.tr (hF647.up (by decide)))) (⟨ha650, by rcases ha651 with ⟨c1, c2, c3, -⟩ | ⟨c1, c2, -⟩ <;> omega, hM655, hD656, kk654⟩)
            · refine xg_t (xg_ifT (u := f82_205) rfl xnm0 (xj_neT hc227)) ?_
              refine xg_t (xg_blk (b := [(82, 1, 3, 0, 0, 0), (83, 1, 15, 1, 0, 0)]) rfl) ?_
              refine xg_t (xg_const) ?_
              refine xg_t (xg_istore (l1 := [(0, (2, 82))]) rfl rfl rfl) ?_
              refine xg_t (xg_drop (l1 := [(0, (2, 82)), (1, (0, 0))]) (List.forall_mem_cons.mpr ⟨List.mem_cons_of_mem _ (List.mem_cons_self), List.forall_mem_cons.mpr ⟨List.mem_cons_self, fun _ h => absurd h List.not_mem_nil⟩⟩)) ?_
              have key657 : ∀ (m659 : Nat) (kf : Nat) (w660 : List (List xE)), 20 - kf < m659 → kf ≤ 20 → xMnv w660 → xFr [82, 83, 85, 86, 87] w w660 → (PS w660 ∧ (FA w660 ≠ 0 ∨ DATA w660) ∧ K15 w w660) → xTo (d + 8) mX12_film (84, [], [(0, (2, 82)), (1, (0, kf))], [], (w660, bd, fc, 0, 0, rr)) (fun φ => ∃ n w', xEnd 1 [(0, n)] (w', bd, fc, 0, 0, rr) φ ∧ (n ≤ 4294967295 ∧ rwv w' 83 15 = 0 ∧ ∀ j, (140 ≤ j ∨ j = 11 ∨ j = 12 ∨ j = 13) → j < 5360 → rwv w' 83 j = rwv w 83 j) ∧ xMnv w' ∧ xFr [82, 83, 85, 86, 87] w w') := by
                intro m659
                induction m659 with
                | zero => intro kf w660 hz; exact absurd hz (Nat.not_lt_zero _)
                | succ m659 ih658 =>
                  intro kf w660 hm665 hn663 hI661 hF662 he664
                  obtain ⟨hz666, hz667, hz668⟩ := he664
                  unfold PS at hz666
                  obtain ⟨f82_669, f82_671, f82_673, f82_675, f82_677, f82_679, f82_681, f82_683, f82_685, f82_687, f82_689, f82_690, f82_691, f82_693, f82_695, f82_697, h82_699, hb670, hb672, hb674, hb676, hb678, hb680, hb682, hb684, hb686, hb688, hb692, hb694, hb696, hb698, hb700⟩ := (hI661 82 (by decide) (by decide) : cp82 (wget w660 82))
                  obtain ⟨g83_701, h83_702, hb703, hx704⟩ := (hI661 83 (by decide) (by decide) : cpx83 (wget w660 83))
                  have h83_702 : xRow w660 83 5360 50 g83_701 := h83_702
                  have hf705 : fld w660 82 10 = f82_685 := fld_of h82_699
                  have hA706 : FA w660 = g83_701 16 := rwv_of h83_702 (by decide)
                  obtain ⟨g85_707, h85_708, hb709⟩ := (hI661 85 (by decide) (by decide) : cpI 7 52 4294967295 (wget w660 85))
                  have h85_708 : xRow w660 85 7 52 g85_707 := h85_708
                  obtain ⟨g86_710, h86_711, hb712⟩ := (hI661 86 (by decide) (by decide) : cpI 140 53 4294967295 (wget w660 86))
                  have h86_711 : xRow w660 86 140 53 g86_710 := h86_711
                  obtain ⟨g87_713, h87_714, hb715⟩ := (hI661 87 (by decide) (by decide) : cpI 20 54 4294967295 (wget w660 87))
                  have h87_714 : xRow w660 87 20 54 g87_713 := h87_714
                  have hm716 : rwv w660 85 4 = g85_707 4 := rwv_of h85_708 (by decide)
                  refine xg_t (xg_blk (b := [(84, 1, 2, 1, 0, 0), (85, 1, 0, 0, 0, 0), (86, 3, 1, 12, 11, 17), (89, 1, 3, 4, 0, 0), (90, 1, 10, 0, 0, 0), (91, 3, 6, 165, 3, 0), (94, 1, 0, 0, 0, 0), (95, 3, 1, 12, 0, 7), (98, 2, 4, 16, 0, 0), (100, 1, 10, 0, 0, 0), (101, 3, 7, 165, 1, 0), (104, 1, 0, 0, 0, 0), (105, 3, 1, 12, 12, 20), (108, 2, 4, 100, 0, 0), (110, 1, 3, 2, 0, 0), (111, 1, 2, 1, 0, 0), (112, 1, 16, 0, 0, 0), (113, 1, 11, 0, 0, 0), (114, 1, 10, 0, 0, 0), (115, 1, 0, 0, 0, 0), (116, 3, 1, 12, 12, 20), (119, 2, 4, 7, 0, 0), (121, 1, 10, 0, 0, 0), (122, 3, 6, 148, 3, 0), (125, 1, 0, 0, 0, 0), (126, 3, 1, 12, 12, 20), (129, 2, 4, 100, 0, 0), (131, 1, 3, 2, 0, 0), (132, 1, 2, 1, 0, 0), (133, 1, 16, 0, 0, 0), (134, 1, 11, 0, 0, 0), (135, 1, 3, 1, 0, 0), (136, 1, 11, 0, 0, 0), (137, 1, 10, 0, 0, 0), (138, 1, 0, 0, 0, 0), (139, 3, 1, 12, 12, 20), (142, 2, 4, 8, 0, 0), (144, 1, 10, 0, 0, 0), (145, 3, 6, 159, 2, 0)]) rfl) ?_
                  refine xg_t (xg_iload (va := (0, kf)) rfl rfl) ?_
                  refine xg_t (xg_aload (va := (2, 82)) rfl rfl) ?_
                  refine xg_t (xg_getf (va := (2, 85)) h82_699 rfl) ?_
                  refine xg_t (xg_const) ?_
                  refine xg_ialdB (n := 4) (B := 4294967295) h85_708 (hb709) xnm0 (by omega) (fun u717 hu718 he719 => ?_)
                  by_cases hc720 : xbs kf < xbs u717
                  · have hc720u := hc720
                    unfold xbs at hc720u
                    have hn721 : kf ≤ 20 := by omega
                    have hn722 : u717 ≤ 2147483647 := by omega
                    refine xg_t (xg_icF (u := kf) (v := u717) rfl xnm0 xnm0 (xjs_geF hc720)) ?_
                    refine xg_t (xg_aload (va := (2, 82)) rfl rfl) ?_
                    refine xg_t (xg_getf (va := (2, 83)) h82_699 rfl) ?_
                    refine xg_t (xg_bip) ?_
                    refine xg_ialdB (n := 16) (B := 4294967295) h83_702 (hb703) xnm0 (by omega) (fun u723 hu724 he725 => ?_)
                    by_cases hc726 : u723 = 0
                    · refine xg_t (xg_ifF (u := u723) rfl xnm0 (xj_neF hc726)) ?_
                      refine xg_t (xg_aload (va := (2, 82)) rfl rfl) ?_
                      have hD727 := (hz667.resolve_left (by omega)).2.2.2.2.1
                      have hl728 : kf ≤ 19 := by omega
                      refine xg_t (xg_getf (va := (2, 86)) h82_699 rfl) ?_
                      refine xg_t (xg_bip) ?_
                      refine xg_t (xg_const) ?_
                      refine xg_t (xg_iload (va := (0, kf)) rfl rfl) ?_
                      refine xg_t (xg_imul (u := 2) (v := kf) (z := 2 * kf) xnm0 xnm0 (by omega)) ?_
                      refine xg_t (xg_iadd (u := 100) (v := 2 * kf) (z := 100 + (2 * kf)) xnm0 xnm0 (by omega)) ?_
                      refine xg_ialdB (n := 100 + (2 * kf)) (B := 4294967295) h86_711 (hb712) xnm0 (by omega) (fun u729 hu730 he731 => ?_)
                      refine xg_t (xg_aload (va := (2, 82)) rfl rfl) ?_
                      refine xg_t (xg_getf (va := (2, 86)) h82_699 rfl) ?_
                      refine xg_t (xg_bip) ?_
                      refine xg_ialdB (n := 7) (B := 4294967295) h86_711 (hb712) xnm0 (by omega) (fun u732 hu733 he734 => ?_)
                      by_cases hc735 : xbs u729 < xbs u732
                      · have hc735u := hc735
                        unfold xbs at hc735u
                        refine xg_t (xg_icF (u := u729) (v := u732) rfl xnm0 xnm0 (xjs_geF hc735)) ?_
                        refine xg_t (xg_aload (va := (2, 82)) rfl rfl) ?_
                        refine xg_t (xg_getf (va := (2, 86)) h82_699 rfl) ?_
                        refine xg_t (xg_bip) ?_
                        refine xg_t (xg_const) ?_
                        refine xg_t (xg_iload (va := (0, kf)) rfl rfl) ?_
                        refine xg_t (xg_imul (u := 2) (v := kf) (z := 2 * kf) xnm0 xnm0 (by omega)) ?_
                        refine xg_t (xg_iadd (u := 100) (v := 2 * kf) (z := 100 + (2 * kf)) xnm0 xnm0 (by omega)) ?_
                        refine xg_t (xg_const) ?_
                        refine xg_t (xg_iadd (u := 100 + (2 * kf)) (v := 1) (z := (100 + (2 * kf)) + 1) xnm0 xnm0 (by omega)) ?_
                        refine xg_ialdB (n := (100 + (2 * kf)) + 1) (B := 4294967295) h86_711 (hb712) xnm0 (by omega) (fun u736 hu737 he738 => ?_)
                        refine xg_t (xg_aload (va := (2, 82)) rfl rfl) ?_
                        refine xg_t (xg_getf (va := (2, 86)) h82_699 rfl) ?_
                        refine xg_t (xg_bip) ?_
                        refine xg_ialdB (n := 8) (B := 4294967295) h86_711 (hb712) xnm0 (by omega) (fun u739 hu740 he741 => ?_)
                        by_cases hc742 : xbs u736 < xbs u739
                        · have hc742u := hc742
                          unfold xbs at hc742u
                          refine xg_t (xg_icT (u := u736) (v := u739) rfl xnm0 xnm0 (xjs_ltT hc742)) ?_
                          refine xg_t (xg_blk (b := [(159, 3, 9, 1, 1, 0), (162, 3, 8, 84, 0, 0)]) rfl) ?_
                          refine xg_t (xg_iinc (u := kf) (z := kf + 1) (l1 := [(0, (2, 82))]) rfl rfl (by omega) rfl) ?_
                          refine xg_t (xg_goto) ?_
                          refine xg_t (xg_drop (l1 := [(0, (2, 82)), (1, (0, kf + 1))]) (List.forall_mem_cons.mpr ⟨List.mem_cons_of_mem _ (List.mem_cons_self), List.forall_mem_cons.mpr ⟨List.mem_cons_self, fun _ h => absurd h List.not_mem_nil⟩⟩)) ?_
                          exact ih658 (kf + 1) w660 (by omega) (by omega) (hI661) (hF662) (⟨(show fld w660 82 10 = 0 ∨ FA w660 ≠ 0 by omega), hz667, hz668.k K83.rf⟩)
                        · have hc742u := hc742
                          unfold xbs at hc742u
                          refine xg_t (xg_icF (u := u736) (v := u739) rfl xnm0 xnm0 (xjs_ltF hc742)) ?_
                          refine xg_t (xg_blk (b := [(148, 1, 0, 0, 0, 0), (149, 1, 3, 4, 0, 0), (150, 1, 0, 0, 0, 0), (151, 3, 1, 12, 13, 23), (154, 1, 2, 1, 0, 0), (155, 1, 10, 0, 0, 0), (156, 3, 13, 115, 96, 186)]) rfl) ?_
                          refine xg_t (xg_aload (va := (2, 82)) rfl rfl) ?_
                          refine xg_t (xg_const) ?_
                          refine xg_t (xg_aload (va := (2, 82)) rfl rfl) ?_
                          refine xg_t (xg_getf (va := (2, 87)) h82_699 rfl) ?_
                          refine xg_t (xg_iload (va := (0, kf)) rfl rfl) ?_
                          refine xg_ialdB (n := kf) (B := 4294967295) h87_714 (hb715) xnm0 (by omega) (fun u743 hu744 he745 => ?_)
                          refine xg_cVv mX12_also (vs := [(0, 4), (0, u743)]) (rest := []) (cn1 := 0) (sl1 := 0) rfl (mAlso (hI661) (by omega) (by omega) (by omega) (show fld w660 82 10 = 0 ∨ FA w660 ≠ 0 by omega)) rfl h82_699 rfl rfl rfl rfl rfl rfl (fun w746 hq747 => ?_)
                          obtain ⟨hI748, hF749, hx750⟩ := hq747
                          obtain ⟨hv751, hv752⟩ := hx750
                          have hf753 := fld_fr (c := 82) (j := 7) hF749 (by decide)
                          have hf754 := fld_fr (c := 82) (j := 10) hF749 (by decide)
                          have hf755 := fld_fr (c := 82) (j := 14) hF749 (by decide)
                          have hf756 := mu_fr hF749 (by decide)
                          refine xg_t (xg_blk (b := [(159, 3, 9, 1, 1, 0), (162, 3, 8, 84, 0, 0)]) rfl) ?_
                          refine xg_t (xg_iinc (u := kf) (z := kf + 1) (l1 := [(0, (2, 82))]) rfl rfl (by omega) rfl) ?_
                          refine xg_t (xg_goto) ?_
                          refine xg_t (xg_drop (l1 := [(0, (2, 82)), (1, (0, kf + 1))]) (List.forall_mem_cons.mpr ⟨List.mem_cons_of_mem _ (List.mem_cons_self), List.forall_mem_cons.mpr ⟨List.mem_cons_self, fun _ h => absurd h List.not_mem_nil⟩⟩)) ?_
                          exact ih658 (kf + 1) w746 (by omega) (by omega) (hI748) ((hF662.tr (hF749.up (by decide)))) (⟨(show fld w746 82 10 = 0 ∨ FA w746 ≠ 0 by omega), Or.inl (by omega), hz668.k hv752⟩)
                      · have hc735u := hc735
                        unfold xbs at hc735u
                        refine xg_t (xg_icT (u := u729) (v := u732) rfl xnm0 xnm0 (xjs_geT hc735)) ?_
                        refine xg_t (xg_blk (b := [(148, 1, 0, 0, 0, 0), (149, 1, 3, 4, 0, 0), (150, 1, 0, 0, 0, 0), (151, 3, 1, 12, 13, 23), (154, 1, 2, 1, 0, 0), (155, 1, 10, 0, 0, 0), (156, 3, 13, 115, 96, 186)]) rfl) ?_
                        refine xg_t (xg_aload (va := (2, 82)) rfl rfl) ?_
                        refine xg_t (xg_const) ?_
                        refine xg_t (xg_aload (va := (2, 82)) rfl rfl) ?_
                        refine xg_t (xg_getf (va := (2, 87)) h82_699 rfl) ?_
                        refine xg_t (xg_iload (va := (0, kf)) rfl rfl) ?_
                        refine xg_ialdB (n := kf) (B := 4294967295) h87_714 (hb715) xnm0 (by omega) (fun u757 hu758 he759 => ?_)
                        refine xg_cVv mX12_also (vs := [(0, 4), (0, u757)]) (rest := []) (cn1 := 0) (sl1 := 0) rfl (mAlso (hI661) (by omega) (by omega) (by omega) (show fld w660 82 10 = 0 ∨ FA w660 ≠ 0 by omega)) rfl h82_699 rfl rfl rfl rfl rfl rfl (fun w760 hq761 => ?_)
                        obtain ⟨hI762, hF763, hx764⟩ := hq761
                        obtain ⟨hv765, hv766⟩ := hx764
                        have hf767 := fld_fr (c := 82) (j := 7) hF763 (by decide)
                        have hf768 := fld_fr (c := 82) (j := 10) hF763 (by decide)
                        have hf769 := fld_fr (c := 82) (j := 14) hF763 (by decide)
                        have hf770 := mu_fr hF763 (by decide)
                        refine xg_t (xg_blk (b := [(159, 3, 9, 1, 1, 0), (162, 3, 8, 84, 0, 0)]) rfl) ?_
                        refine xg_t (xg_iinc (u := kf) (z := kf + 1) (l1 := [(0, (2, 82))]) rfl rfl (by omega) rfl) ?_
                        refine xg_t (xg_goto) ?_
                        refine xg_t (xg_drop (l1 := [(0, (2, 82)), (1, (0, kf + 1))]) (List.forall_mem_cons.mpr ⟨List.mem_cons_of_mem _ (List.mem_cons_self), List.forall_mem_cons.mpr ⟨List.mem_cons_self, fun _ h => absurd h List.not_mem_nil⟩⟩)) ?_
                        exact ih658 (kf + 1) w760 (by omega) (by omega) (hI762) ((hF662.tr (hF763.up (by decide)))) (⟨(show fld w760 82 10 = 0 ∨ FA w760 ≠ 0 by omega), Or.inl (by omega), hz668.k hv766⟩)
                    · refine xg_t (xg_ifT (u := u723) rfl xnm0 (xj_neT hc726)) ?_
                      refine xg_t (xg_blk (b := [(165, 1, 0, 0, 0, 0), (166, 3, 1, 12, 0, 7), (169, 2, 4, 16, 0, 0), (171, 1, 10, 0, 0, 0), (172, 3, 7, 177, 0, 0), (175, 1, 3, 4294967295, 0, 0), (176, 1, 12, 0, 1, 0)]) rfl) ?_
                      refine xg_t (xg_aload (va := (2, 82)) rfl rfl) ?_
                      refine xg_t (xg_getf (va := (2, 83)) h82_699 rfl) ?_
                      refine xg_t (xg_bip) ?_
                      refine xg_ialdB (n := 16) (B := 4294967295) h83_702 (hb703) xnm0 (by omega) (fun u771 hu772 he773 => ?_)
                      by_cases hc774 : u771 = 0
                      · refine xg_t (xg_ifT (u := u771) rfl xnm0 (xj_eqT hc774)) ?_
                        refine xg_t (xg_blk (b := [(177, 1, 3, 0, 0, 0), (178, 1, 15, 1, 0, 0)]) rfl) ?_
                        have hDD := hz667.resolve_left (by omega)
                        have hdt := hDD.toDt h85_708 h86_711
                        refine xg_t (xg_const) ?_
                        refine xg_t (xg_istore (l1 := [(0, (2, 82))]) rfl rfl rfl) ?_
                        refine xg_t (xg_blk (b := [(179, 1, 2, 1, 0, 0), (180, 1, 3, 5, 0, 0), (181, 3, 6, 202, 3, 0), (184, 1, 0, 0, 0, 0), (185, 3, 1, 12, 0, 7), (188, 1, 2, 1, 0, 0), (189, 1, 0, 0, 0, 0), (190, 3, 1, 12, 11, 17), (193, 1, 2, 1, 0, 0), (194, 1, 10, 0, 0, 0), (195, 1, 17, 0, 0, 0), (196, 3, 9, 1, 1, 0), (199, 3, 8, 179, 0, 0)]) rfl) ?_
                        refine xg_t (xg_iload (va := (0, 0)) rfl rfl) ?_
                        refine xg_t (xg_const) ?_
                        refine xg_t (xg_icF (u := 0) (v := 5) rfl xnm0 xnm0 (by decide)) ?_
                        refine xg_t (xg_aload (va := (2, 82)) rfl rfl) ?_
                        refine xg_t (xg_getf (va := (2, 83)) h82_699 rfl) ?_
                        refine xg_t (xg_iload (va := (0, 0)) rfl rfl) ?_
                        refine xg_t (xg_aload (va := (2, 82)) rfl rfl) ?_
                        refine xg_t (xg_getf (va := (2, 85)) h82_699 rfl) ?_
                        refine xg_t (xg_iload (va := (0, 0)) rfl rfl) ?_
                        refine xg_ialdB (n := 0) (B := 4294967295) h85_708 (hb709) xnm0 (by omega) (fun u775 hu776 he777 => ?_)
                        refine xg_iastK (n := 0) (u := u775) h83_702 xnm0 xnm0 rfl (by omega) (fun w778 hr779 hb780 => ?_)
                        have hb781 : ∀ j, (fun j => if j = 0 then u775 else g83_701 j) j ≤ 4294967295 := xrb (by omega) (hb703)
                        obtain ⟨g782, hg783⟩ : ∃ g : Nat → Nat, g = (fun j => if j = 0 then u775 else g83_701 j) := ⟨_, rfl⟩
                        rw [← hg783] at hr779
                        have he784 : g782 0 = u775 := by rw [hg783]; exact if_pos rfl
                        have hk785 : ∀ j, j ≠ 0 → g782 j = g83_701 j := fun j hj => by rw [hg783]; exact if_neg hj
                        rw [← hg783] at hb781
                        refine xg_t (xg_iinc (u := 0) (z := 1) (l1 := [(0, (2, 82))]) rfl rfl (by decide) rfl) ?_
                        refine xg_t (xg_goto) ?_
                        refine xg_t (xg_blk (b := [(179, 1, 2, 1, 0, 0), (180, 1, 3, 5, 0, 0), (181, 3, 6, 202, 3, 0), (184, 1, 0, 0, 0, 0), (185, 3, 1, 12, 0, 7), (188, 1, 2, 1, 0, 0), (189, 1, 0, 0, 0, 0), (190, 3, 1, 12, 11, 17), (193, 1, 2, 1, 0, 0), (194, 1, 10, 0, 0, 0), (195, 1, 17, 0, 0, 0), (196, 3, 9, 1, 1, 0), (199, 3, 8, 179, 0, 0)]) rfl) ?_
                        refine xg_t (xg_iload (va := (0, 1)) rfl rfl) ?_
                        refine xg_t (xg_const) ?_
                        refine xg_t (xg_icF (u := 1) (v := 5) rfl xnm0 xnm0 (by decide)) ?_
                        refine xg_t (xg_aload (va := (2, 82)) rfl rfl) ?_
                        refine xg_t (xg_getf (va := (2, 83)) (hb780.get (by decide) h82_699) rfl) ?_
                        refine xg_t (xg_iload (va := (0, 1)) rfl rfl) ?_
                        refine xg_t (xg_aload (va := (2, 82)) rfl rfl) ?_
                        refine xg_t (xg_getf (va := (2, 85)) (hb780.get (by decide) h82_699) rfl) ?_
                        refine xg_t (xg_iload (va := (0, 1)) rfl rfl) ?_
                        refine xg_ialdB (n := 1) (B := 4294967295) (h85_708.but hb780 (by decide)) (hb709) xnm0 (by omega) (fun u786 hu787 he788 => ?_)
                        refine xg_iastK (n := 1) (u := u786) hr779 xnm0 xnm0 rfl (by omega) (fun w789 hr790 hb791 => ?_)
                        have hb792 : ∀ j, (fun j => if j = 1 then u786 else g782 j) j ≤ 4294967295 := xrb (by omega) (hb781)
                        obtain ⟨g793, hg794⟩ : ∃ g : Nat → Nat, g = (fun j => if j = 1 then u786 else g782 j) := ⟨_, rfl⟩
                        rw [← hg794] at hr790
                        have he795 : g793 1 = u786 := by rw [hg794]; exact if_pos rfl
                        have hk796 : ∀ j, j ≠ 1 → g793 j = g782 j := fun j hj => by rw [hg794]; exact if_neg hj
                        rw [← hg794] at hb792
                        refine xg_t (xg_iinc (u := 1) (z := 2) (l1 := [(0, (2, 82))]) rfl rfl (by decide) rfl) ?_
                        refine xg_t (xg_goto) ?_
                        refine xg_t (xg_blk (b := [(179, 1, 2, 1, 0, 0), (180, 1, 3, 5, 0, 0), (181, 3, 6, 202, 3, 0), (184, 1, 0, 0, 0, 0), (185, 3, 1, 12, 0, 7), (188, 1, 2, 1, 0, 0), (189, 1, 0, 0, 0, 0), (190, 3, 1, 12, 11, 17), (193, 1, 2, 1, 0, 0), (194, 1, 10, 0, 0, 0), (195, 1, 17, 0, 0, 0), (196, 3, 9, 1, 1, 0), (199, 3, 8, 179, 0, 0)]) rfl) ?_
                        refine xg_t (xg_iload (va := (0, 2)) rfl rfl) ?_
                        refine xg_t (xg_const) ?_
                        refine xg_t (xg_icF (u := 2) (v := 5) rfl xnm0 xnm0 (by decide)) ?_
                        refine xg_t (xg_aload (va := (2, 82)) rfl rfl) ?_
                        refine xg_t (xg_getf (va := (2, 83)) (hb791.get (by decide) (hb780.get (by decide) h82_699)) rfl) ?_
                        refine xg_t (xg_iload (va := (0, 2)) rfl rfl) ?_
                        refine xg_t (xg_aload (va := (2, 82)) rfl rfl) ?_
                        refine xg_t (xg_getf (va := (2, 85)) (hb791.get (by decide) (hb780.get (by decide) h82_699)) rfl) ?_
                        refine xg_t (xg_iload (va := (0, 2)) rfl rfl) ?_
                        refine xg_ialdB (n := 2) (B := 4294967295) ((h85_708.but hb780 (by decide)).but hb791 (by decide)) (hb709) xnm0 (by omega) (fun u797 hu798 he799 => ?_)
                        refine xg_iastK (n := 2) (u := u797) hr790 xnm0 xnm0 rfl (by omega) (fun w800 hr801 hb802 => ?_)
                        have hb803 : ∀ j, (fun j => if j = 2 then u797 else g793 j) j ≤ 4294967295 := xrb (by omega) (hb792)
                        obtain ⟨g804, hg805⟩ : ∃ g : Nat → Nat, g = (fun j => if j = 2 then u797 else g793 j) := ⟨_, rfl⟩
                        rw [← hg805] at hr801
                        have he806 : g804 2 = u797 := by rw [hg805]; exact if_pos rfl
                        have hk807 : ∀ j, j ≠ 2 → g804 j = g793 j := fun j hj => by rw [hg805]; exact if_neg hj
                        rw [← hg805] at hb803
                        refine xg_t (xg_iinc (u := 2) (z := 3) (l1 := [(0, (2, 82))]) rfl rfl (by decide) rfl) ?_
                        refine xg_t (xg_goto) ?_
                        refine xg_t (xg_blk (b := [(179, 1, 2, 1, 0, 0), (180, 1, 3, 5, 0, 0), (181, 3, 6, 202, 3, 0), (184, 1, 0, 0, 0, 0), (185, 3, 1, 12, 0, 7), (188, 1, 2, 1, 0, 0), (189, 1, 0, 0, 0, 0), (190, 3, 1, 12, 11, 17), (193, 1, 2, 1, 0, 0), (194, 1, 10, 0, 0, 0), (195, 1, 17, 0, 0, 0), (196, 3, 9, 1, 1, 0), (199, 3, 8, 179, 0, 0)]) rfl) ?_
                        refine xg_t (xg_iload (va := (0, 3)) rfl rfl) ?_
                        refine xg_t (xg_const) ?_
                        refine xg_t (xg_icF (u := 3) (v := 5) rfl xnm0 xnm0 (by decide)) ?_
                        refine xg_t (xg_aload (va := (2, 82)) rfl rfl) ?_
                        refine xg_t (xg_getf (va := (2, 83)) (hb802.get (by decide) (hb791.get (by decide) (hb780.get (by decide) h82_699))) rfl) ?_
                        refine xg_t (xg_iload (va := (0, 3)) rfl rfl) ?_
                        refine xg_t (xg_aload (va := (2, 82)) rfl rfl) ?_
                        refine xg_t (xg_getf (va := (2, 85)) (hb802.get (by decide) (hb791.get (by decide) (hb780.get (by decide) h82_699))) rfl) ?_
                        refine xg_t (xg_iload (va := (0, 3)) rfl rfl) ?_
                        refine xg_ialdB (n := 3) (B := 4294967295) (((h85_708.but hb780 (by decide)).but hb791 (by decide)).but hb802 (by decide)) (hb709) xnm0 (by omega) (fun u808 hu809 he810 => ?_)
                        refine xg_iastK (n := 3) (u := u808) hr801 xnm0 xnm0 rfl (by omega) (fun w811 hr812 hb813 => ?_)
                        have hb814 : ∀ j, (fun j => if j = 3 then u808 else g804 j) j ≤ 4294967295 := xrb (by omega) (hb803)
                        obtain ⟨g815, hg816⟩ : ∃ g : Nat → Nat, g = (fun j => if j = 3 then u808 else g804 j) := ⟨_, rfl⟩
                        rw [← hg816] at hr812
                        have he817 : g815 3 = u808 := by rw [hg816]; exact if_pos rfl
                        have hk818 : ∀ j, j ≠ 3 → g815 j = g804 j := fun j hj => by rw [hg816]; exact if_neg hj
                        rw [← hg816] at hb814
                        refine xg_t (xg_iinc (u := 3) (z := 4) (l1 := [(0, (2, 82))]) rfl rfl (by decide) rfl) ?_
                        refine xg_t (xg_goto) ?_
                        refine xg_t (xg_blk (b := [(179, 1, 2, 1, 0, 0), (180, 1, 3, 5, 0, 0), (181, 3, 6, 202, 3, 0), (184, 1, 0, 0, 0, 0), (185, 3, 1, 12, 0, 7), (188, 1, 2, 1, 0, 0), (189, 1, 0, 0, 0, 0), (190, 3, 1, 12, 11, 17), (193, 1, 2, 1, 0, 0), (194, 1, 10, 0, 0, 0), (195, 1, 17, 0, 0, 0), (196, 3, 9, 1, 1, 0), (199, 3, 8, 179, 0, 0)]) rfl) ?_
                        refine xg_t (xg_iload (va := (0, 4)) rfl rfl) ?_
                        refine xg_t (xg_const) ?_
                        refine xg_t (xg_icF (u := 4) (v := 5) rfl xnm0 xnm0 (by decide)) ?_
                        refine xg_t (xg_aload (va := (2, 82)) rfl rfl) ?_
                        refine xg_t (xg_getf (va := (2, 83)) (hb813.get (by decide) (hb802.get (by decide) (hb791.get (by decide) (hb780.get (by decide) h82_699)))) rfl) ?_
                        refine xg_t (xg_iload (va := (0, 4)) rfl rfl) ?_
                        refine xg_t (xg_aload (va := (2, 82)) rfl rfl) ?_
                        refine xg_t (xg_getf (va := (2, 85)) (hb813.get (by decide) (hb802.get (by decide) (hb791.get (by decide) (hb780.get (by decide) h82_699)))) rfl) ?_
                        refine xg_t (xg_iload (va := (0, 4)) rfl rfl) ?_
                        refine xg_ialdB (n := 4) (B := 4294967295) ((((h85_708.but hb780 (by decide)).but hb791 (by decide)).but hb802 (by decide)).but hb813 (by decide)) (hb709) xnm0 (by omega) (fun u819 hu820 he821 => ?_)
                        refine xg_iastK (n := 4) (u := u819) hr812 xnm0 xnm0 rfl (by omega) (fun w822 hr823 hb824 => ?_)
                        have hb825 : ∀ j, (fun j => if j = 4 then u819 else g815 j) j ≤ 4294967295 := xrb (by omega) (hb814)
                        obtain ⟨g826, hg827⟩ : ∃ g : Nat → Nat, g = (fun j => if j = 4 then u819 else g815 j) := ⟨_, rfl⟩
                        rw [← hg827] at hr823
                        have he828 : g826 4 = u819 := by rw [hg827]; exact if_pos rfl
                        have hk829 : ∀ j, j ≠ 4 → g826 j = g815 j := fun j hj => by rw [hg827]; exact if_neg hj
                        rw [← hg827] at hb825
                        refine xg_t (xg_iinc (u := 4) (z := 5) (l1 := [(0, (2, 82))]) rfl rfl (by decide) rfl) ?_
                        refine xg_t (xg_goto) ?_
                        refine xg_t (xg_blk (b := [(179, 1, 2, 1, 0, 0), (180, 1, 3, 5, 0, 0), (181, 3, 6, 202, 3, 0), (184, 1, 0, 0, 0, 0), (185, 3, 1, 12, 0, 7), (188, 1, 2, 1, 0, 0), (189, 1, 0, 0, 0, 0), (190, 3, 1, 12, 11, 17), (193, 1, 2, 1, 0, 0), (194, 1, 10, 0, 0, 0), (195, 1, 17, 0, 0, 0), (196, 3, 9, 1, 1, 0), (199, 3, 8, 179, 0, 0)]) rfl) ?_
                        refine xg_t (xg_iload (va := (0, 5)) rfl rfl) ?_
                        refine xg_t (xg_const) ?_
                        refine xg_t (xg_icT (u := 5) (v := 5) rfl xnm0 xnm0 (by decide)) ?_
                        refine xg_t (xg_blk (b := [(202, 1, 3, 5, 0, 0), (203, 1, 15, 1, 0, 0)]) rfl) ?_
                        refine xg_t (xg_const) ?_
                        refine xg_t (xg_istore (l1 := [(0, (2, 82))]) rfl rfl rfl) ?_
                        refine xg_t (xg_blk (b := [(204, 1, 2, 1, 0, 0), (205, 2, 4, 8, 0, 0), (207, 3, 6, 228, 4, 0), (210, 1, 0, 0, 0, 0), (211, 3, 1, 12, 0, 7), (214, 1, 2, 1, 0, 0), (215, 1, 0, 0, 0, 0), (216, 3, 1, 12, 12, 20), (219, 1, 2, 1, 0, 0), (220, 1, 10, 0, 0, 0), (221, 1, 17, 0, 0, 0), (222, 3, 9, 1, 1, 0), (225, 3, 8, 204, 0, 0)]) rfl) ?_
                        refine xg_t (xg_iload (va := (0, 5)) rfl rfl) ?_
                        refine xg_t (xg_bip) ?_
                        refine xg_t (xg_icF (u := 5) (v := 8) rfl xnm0 xnm0 (by decide)) ?_
                        refine xg_t (xg_aload (va := (2, 82)) rfl rfl) ?_
                        refine xg_t (xg_getf (va := (2, 83)) (hb824.get (by decide) (hb813.get (by decide) (hb802.get (by decide) (hb791.get (by decide) (hb780.get (by decide) h82_699))))) rfl) ?_
                        refine xg_t (xg_iload (va := (0, 5)) rfl rfl) ?_
                        refine xg_t (xg_aload (va := (2, 82)) rfl rfl) ?_
                        refine xg_t (xg_getf (va := (2, 86)) (hb824.get (by decide) (hb813.get (by decide) (hb802.get (by decide) (hb791.get (by decide) (hb780.get (by decide) h82_699))))) rfl) ?_
                        refine xg_t (xg_iload (va := (0, 5)) rfl rfl) ?_
                        refine xg_ialdB (n := 5) (B := 4294967295) (((((h86_711.but hb780 (by decide)).but hb791 (by decide)).but hb802 (by decide)).but hb813 (by decide)).but hb824 (by decide)) (hb712) xnm0 (by omega) (fun u830 hu831 he832 => ?_)
                        refine xg_iastK (n := 5) (u := u830) hr823 xnm0 xnm0 rfl (by omega) (fun w833 hr834 hb835 => ?_)
                        have hb836 : ∀ j, (fun j => if j = 5 then u830 else g826 j) j ≤ 4294967295 := xrb (by omega) (hb825)
                        obtain ⟨g837, hg838⟩ : ∃ g : Nat → Nat, g = (fun j => if j = 5 then u830 else g826 j) := ⟨_, rfl⟩
                        rw [← hg838] at hr834
                        have he839 : g837 5 = u830 := by rw [hg838]; exact if_pos rfl
                        have hk840 : ∀ j, j ≠ 5 → g837 j = g826 j := fun j hj => by rw [hg838]; exact if_neg hj
                        rw [← hg838] at hb836
                        refine xg_t (xg_iinc (u := 5) (z := 6) (l1 := [(0, (2, 82))]) rfl rfl (by decide) rfl) ?_
                        refine xg_t (xg_goto) ?_
                        refine xg_t (xg_blk (b := [(204, 1, 2, 1, 0, 0), (205, 2, 4, 8, 0, 0), (207, 3, 6, 228, 4, 0), (210, 1, 0, 0, 0, 0), (211, 3, 1, 12, 0, 7), (214, 1, 2, 1, 0, 0), (215, 1, 0, 0, 0, 0), (216, 3, 1, 12, 12, 20), (219, 1, 2, 1, 0, 0), (220, 1, 10, 0, 0, 0), (221, 1, 17, 0, 0, 0), (222, 3, 9, 1, 1, 0), (225, 3, 8, 204, 0, 0)]) rfl) ?_
                        refine xg_t (xg_iload (va := (0, 6)) rfl rfl) ?_
                        refine xg_t (xg_bip) ?_
                        refine xg_t (xg_icF (u := 6) (v := 8) rfl xnm0 xnm0 (by decide)) ?_
                        refine xg_t (xg_aload (va := (2, 82)) rfl rfl) ?_
                        refine xg_t (xg_getf (va := (2, 83)) (hb835.get (by decide) (hb824.get (by decide) (hb813.get (by decide) (hb802.get (by decide) (hb791.get (by decide) (hb780.get (by decide) h82_699)))))) rfl) ?_
                        refine xg_t (xg_iload (va := (0, 6)) rfl rfl) ?_
                        refine xg_t (xg_aload (va := (2, 82)) rfl rfl) ?_
                        refine xg_t (xg_getf (va := (2, 86)) (hb835.get (by decide) (hb824.get (by decide) (hb813.get (by decide) (hb802.get (by decide) (hb791.get (by decide) (hb780.get (by decide) h82_699)))))) rfl) ?_
                        refine xg_t (xg_iload (va := (0, 6)) rfl rfl) ?_
                        refine xg_ialdB (n := 6) (B := 4294967295) ((((((h86_711.but hb780 (by decide)).but hb791 (by decide)).but hb802 (by decide)).but hb813 (by decide)).but hb824 (by decide)).but hb835 (by decide)) (hb712) xnm0 (by omega) (fun u841 hu842 he843 => ?_)
                        refine xg_iastK (n := 6) (u := u841) hr834 xnm0 xnm0 rfl (by omega) (fun w844 hr845 hb846 => ?_)
                        have hb847 : ∀ j, (fun j => if j = 6 then u841 else g837 j) j ≤ 4294967295 := xrb (by omega) (hb836)
                        obtain ⟨g848, hg849⟩ : ∃ g : Nat → Nat, g = (fun j => if j = 6 then u841 else g837 j) := ⟨_, rfl⟩
                        rw [← hg849] at hr845
                        have he850 : g848 6 = u841 := by rw [hg849]; exact if_pos rfl
                        have hk851 : ∀ j, j ≠ 6 → g848 j = g837 j := fun j hj => by rw [hg849]; exact if_neg hj
                        rw [← hg849] at hb847
                        refine xg_t (xg_iinc (u := 6) (z := 7) (l1 := [(0, (2, 82))]) rfl rfl (by decide) rfl) ?_
                        refine xg_t (xg_goto) ?_
                        refine xg_t (xg_blk (b := [(204, 1, 2, 1, 0, 0), (205, 2, 4, 8, 0, 0), (207, 3, 6, 228, 4, 0), (210, 1, 0, 0, 0, 0), (211, 3, 1, 12, 0, 7), (214, 1, 2, 1, 0, 0), (215, 1, 0, 0, 0, 0), (216, 3, 1, 12, 12, 20), (219, 1, 2, 1, 0, 0), (220, 1, 10, 0, 0, 0), (221, 1, 17, 0, 0, 0), (222, 3, 9, 1, 1, 0), (225, 3, 8, 204, 0, 0)]) rfl) ?_
                        refine xg_t (xg_iload (va := (0, 7)) rfl rfl) ?_
                        refine xg_t (xg_bip) ?_
                        refine xg_t (xg_icF (u := 7) (v := 8) rfl xnm0 xnm0 (by decide)) ?_
                        refine xg_t (xg_aload (va := (2, 82)) rfl rfl) ?_
                        refine xg_t (xg_getf (va := (2, 83)) (hb846.get (by decide) (hb835.get (by decide) (hb824.get (by decide) (hb813.get (by decide) (hb802.get (by decide) (hb791.get (by decide) (hb780.get (by decide) h82_699))))))) rfl) ?_
                        refine xg_t (xg_iload (va := (0, 7)) rfl rfl) ?_
                        refine xg_t (xg_aload (va := (2, 82)) rfl rfl) ?_
                        refine xg_t (xg_getf (va := (2, 86)) (hb846.get (by decide) (hb835.get (by decide) (hb824.get (by decide) (hb813.get (by decide) (hb802.get (by decide) (hb791.get (by decide) (hb780.get (by decide) h82_699))))))) rfl) ?_
                        refine xg_t (xg_iload (va := (0, 7)) rfl rfl) ?_
                        refine xg_ialdB (n := 7) (B := 4294967295) (((((((h86_711.but hb780 (by decide)).but hb791 (by decide)).but hb802 (by decide)).but hb813 (by decide)).but hb824 (by decide)).but hb835 (by decide)).but hb846 (by decide)) (hb712) xnm0 (by omega) (fun u852 hu853 he854 => ?_)
                        refine xg_iastK (n := 7) (u := u852) hr845 xnm0 xnm0 rfl (by omega) (fun w855 hr856 hb857 => ?_)
                        have hb858 : ∀ j, (fun j => if j = 7 then u852 else g848 j) j ≤ 4294967295 := xrb (by omega) (hb847)
                        obtain ⟨g859, hg860⟩ : ∃ g : Nat → Nat, g = (fun j => if j = 7 then u852 else g848 j) := ⟨_, rfl⟩
                        rw [← hg860] at hr856
                        have he861 : g859 7 = u852 := by rw [hg860]; exact if_pos rfl
                        have hk862 : ∀ j, j ≠ 7 → g859 j = g848 j := fun j hj => by rw [hg860]; exact if_neg hj
                        rw [← hg860] at hb858
                        refine xg_t (xg_iinc (u := 7) (z := 8) (l1 := [(0, (2, 82))]) rfl rfl (by decide) rfl) ?_
                        refine xg_t (xg_goto) ?_
                        refine xg_t (xg_blk (b := [(204, 1, 2, 1, 0, 0), (205, 2, 4, 8, 0, 0), (207, 3, 6, 228, 4, 0), (210, 1, 0, 0, 0, 0), (211, 3, 1, 12, 0, 7), (214, 1, 2, 1, 0, 0), (215, 1, 0, 0, 0, 0), (216, 3, 1, 12, 12, 20), (219, 1, 2, 1, 0, 0), (220, 1, 10, 0, 0, 0), (221, 1, 17, 0, 0, 0), (222, 3, 9, 1, 1, 0), (225, 3, 8, 204, 0, 0)]) rfl) ?_
                        refine xg_t (xg_iload (va := (0, 8)) rfl rfl) ?_
                        refine xg_t (xg_bip) ?_
                        refine xg_t (xg_icF (u := 8) (v := 8) rfl xnm0 xnm0 (by decide)) ?_
                        refine xg_t (xg_aload (va := (2, 82)) rfl rfl) ?_
                        refine xg_t (xg_getf (va := (2, 83)) (hb857.get (by decide) (hb846.get (by decide) (hb835.get (by decide) (hb824.get (by decide) (hb813.get (by decide) (hb802.get (by decide) (hb791.get (by decide) (hb780.get (by decide) h82_699)))))))) rfl) ?_
                        refine xg_t (xg_iload (va := (0, 8)) rfl rfl) ?_
                        refine xg_t (xg_aload (va := (2, 82)) rfl rfl) ?_
                        refine xg_t (xg_getf (va := (2, 86)) (hb857.get (by decide) (hb846.get (by decide) (hb835.get (by decide) (hb824.get (by decide) (hb813.get (by decide) (hb802.get (by decide) (hb791.get (by decide) (hb780.get (by decide) h82_699)))))))) rfl) ?_
                        refine xg_t (xg_iload (va := (0, 8)) rfl rfl) ?_
                        refine xg_ialdB (n := 8) (B := 4294967295) ((((((((h86_711.but hb780 (by decide)).but hb791 (by decide)).but hb802 (by decide)).but hb813 (by decide)).but hb824 (by decide)).but hb835 (by decide)).but hb846 (by decide)).but hb857 (by decide)) (hb712) xnm0 (by omega) (fun u863 hu864 he865 => ?_)
                        refine xg_iastK (n := 8) (u := u863) hr856 xnm0 xnm0 rfl (by omega) (fun w866 hr867 hb868 => ?_)
                        have hb869 : ∀ j, (fun j => if j = 8 then u863 else g859 j) j ≤ 4294967295 := xrb (by omega) (hb858)
                        obtain ⟨g870, hg871⟩ : ∃ g : Nat → Nat, g = (fun j => if j = 8 then u863 else g859 j) := ⟨_, rfl⟩
                        rw [← hg871] at hr867
                        have he872 : g870 8 = u863 := by rw [hg871]; exact if_pos rfl
                        have hk873 : ∀ j, j ≠ 8 → g870 j = g859 j := fun j hj => by rw [hg871]; exact if_neg hj
                        rw [← hg871] at hb869
                        refine xg_t (xg_iinc (u := 8) (z := 9) (l1 := [(0, (2, 82))]) rfl rfl (by decide) rfl) ?_
                        refine xg_t (xg_goto) ?_
                        refine xg_t (xg_blk (b := [(204, 1, 2, 1, 0, 0), (205, 2, 4, 8, 0, 0), (207, 3, 6, 228, 4, 0), (210, 1, 0, 0, 0, 0), (211, 3, 1, 12, 0, 7), (214, 1, 2, 1, 0, 0), (215, 1, 0, 0, 0, 0), (216, 3, 1, 12, 12, 20), (219, 1, 2, 1, 0, 0), (220, 1, 10, 0, 0, 0), (221, 1, 17, 0, 0, 0), (222, 3, 9, 1, 1, 0), (225, 3, 8, 204, 0, 0)]) rfl) ?_
                        refine xg_t (xg_iload (va := (0, 9)) rfl rfl) ?_
                        refine xg_t (xg_bip) ?_
                        refine xg_t (xg_icT (u := 9) (v := 8) rfl xnm0 xnm0 (by decide)) ?_
                        refine xg_t (xg_blk (b := [(228, 2, 4, 20, 0, 0), (230, 1, 15, 1, 0, 0)]) rfl) ?_
                        refine xg_t (xg_bip) ?_
                        refine xg_t (xg_istore (l1 := [(0, (2, 82))]) rfl rfl rfl) ?_
                        refine xg_t (xg_drop (l1 := [(0, (2, 82)), (1, (0, 20))]) (List.forall_mem_cons.mpr ⟨List.mem_cons_of_mem _ (List.mem_cons_self), List.forall_mem_cons.mpr ⟨List.mem_cons_self, fun _ h => absurd h List.not_mem_nil⟩⟩)) ?_
                        refine cpFilm 120 20 w866 g870 (by decide) hr867 hb869 (((((((((h86_711.but hb780 (by decide)).but hb791 (by decide)).but hb802 (by decide)).but hb813 (by decide)).but hb824 (by decide)).but hb835 (by decide)).but hb846 (by decide)).but hb857 (by decide)).but hb868 (by decide)) hb712 (hb868.get (by decide) (hb857.get (by decide) (hb846.get (by decide) (hb835.get (by decide) (hb824.get (by decide) (hb813.get (by decide) (hb802.get (by decide) (hb791.get (by decide) (hb780.get (by decide) h82_699))))))))) (fun w874 g875 hc876 hc877 hc878 hc879 hc880 => ?_)
                        refine xg_t (xg_blk (b := [(256, 1, 0, 0, 0, 0), (257, 3, 1, 12, 0, 7), (260, 2, 4, 9, 0, 0), (262, 1, 3, 0, 0, 0), (263, 1, 17, 0, 0, 0), (264, 1, 0, 0, 0, 0), (265, 3, 1, 12, 0, 7), (268, 2, 4, 10, 0, 0), (270, 1, 3, 0, 0, 0), (271, 1, 17, 0, 0, 0), (272, 1, 0, 0, 0, 0), (273, 3, 1, 12, 0, 7), (276, 2, 4, 14, 0, 0), (278, 1, 0, 0, 0, 0), (279, 3, 1, 12, 14, 212), (282, 1, 17, 0, 0, 0), (283, 1, 0, 0, 0, 0), (284, 3, 1, 12, 14, 212), (287, 1, 12, 0, 1, 0)]) rfl) ?_
                        refine xg_t (xg_aload (va := (2, 82)) rfl rfl) ?_
                        refine xg_t (xg_getf (va := (2, 83)) (hc878.get (by decide) (hb868.get (by decide) (hb857.get (by decide) (hb846.get (by decide) (hb835.get (by decide) (hb824.get (by decide) (hb813.get (by decide) (hb802.get (by decide) (hb791.get (by decide) (hb780.get (by decide) h82_699)))))))))) rfl) ?_
                        refine xg_t (xg_bip) ?_
                        refine xg_t (xg_const) ?_
                        refine xg_iastK (n := 9) (u := 0) hc876 xnm0 xnm0 rfl (by omega) (fun w881 hr882 hb883 => ?_)
                        have hb884 : ∀ j, (fun j => if j = 9 then 0 else g875 j) j ≤ 4294967295 := xrb (by omega) (hc877)
                        obtain ⟨g885, hg886⟩ : ∃ g : Nat → Nat, g = (fun j => if j = 9 then 0 else g875 j) := ⟨_, rfl⟩
                        rw [← hg886] at hr882
                        have he887 : g885 9 = 0 := by rw [hg886]; exact if_pos rfl
                        have hk888 : ∀ j, j ≠ 9 → g885 j = g875 j := fun j hj => by rw [hg886]; exact if_neg hj
                        rw [← hg886] at hb884
                        refine xg_t (xg_aload (va := (2, 82)) rfl rfl) ?_
                        refine xg_t (xg_getf (va := (2, 83)) (hb883.get (by decide) (hc878.get (by decide) (hb868.get (by decide) (hb857.get (by decide) (hb846.get (by decide) (hb835.get (by decide) (hb824.get (by decide) (hb813.get (by decide) (hb802.get (by decide) (hb791.get (by decide) (hb780.get (by decide) h82_699))))))))))) rfl) ?_
                        refine xg_t (xg_bip) ?_
                        refine xg_t (xg_const) ?_
                        refine xg_iastK (n := 10) (u := 0) hr882 xnm0 xnm0 rfl (by omega) (fun w889 hr890 hb891 => ?_)
                        have hb892 : ∀ j, (fun j => if j = 10 then 0 else g885 j) j ≤ 4294967295 := xrb (by omega) (hb884)
                        obtain ⟨g893, hg894⟩ : ∃ g : Nat → Nat, g = (fun j => if j = 10 then 0 else g885 j) := ⟨_, rfl⟩
                        rw [← hg894] at hr890
                        have he895 : g893 10 = 0 := by rw [hg894]; exact if_pos rfl
                        have hk896 : ∀ j, j ≠ 10 → g893 j = g885 j := fun j hj => by rw [hg894]; exact if_neg hj
                        rw [← hg894] at hb892
                        refine xg_t (xg_aload (va := (2, 82)) rfl rfl) ?_
                        refine xg_t (xg_getf (va := (2, 83)) (hb891.get (by decide) (hb883.get (by decide) (hc878.get (by decide) (hb868.get (by decide) (hb857.get (by decide) (hb846.get (by decide) (hb835.get (by decide) (hb824.get (by decide) (hb813.get (by decide) (hb802.get (by decide) (hb791.get (by decide) (hb780.get (by decide) h82_699)))))))))))) rfl) ?_
                        refine xg_t (xg_bip) ?_
                        refine xg_t (xg_aload (va := (2, 82)) rfl rfl) ?_
                        refine xg_t (xg_getf (va := (0, f82_687)) (hb891.get (by decide) (hb883.get (by decide) (hc878.get (by decide) (hb868.get (by decide) (hb857.get (by decide) (hb846.get (by decide) (hb835.get (by decide) (hb824.get (by decide) (hb813.get (by decide) (hb802.get (by decide) (hb791.get (by decide) (hb780.get (by decide) h82_699)))))))))))) rfl) ?_
                        refine xg_iastK (n := 14) (u := f82_687) hr890 xnm0 xnm0 rfl (by omega) (fun w897 hr898 hb899 => ?_)
                        have hb900 : ∀ j, (fun j => if j = 14 then f82_687 else g893 j) j ≤ 4294967295 := xrb (by omega) (hb892)
                        obtain ⟨g901, hg902⟩ : ∃ g : Nat → Nat, g = (fun j => if j = 14 then f82_687 else g893 j) := ⟨_, rfl⟩
                        rw [← hg902] at hr898
                        have he903 : g901 14 = f82_687 := by rw [hg902]; exact if_pos rfl
                        have hk904 : ∀ j, j ≠ 14 → g901 j = g893 j := fun j hj => by rw [hg902]; exact if_neg hj
                        rw [← hg902] at hb900
                        have hq905 : g901 0 = u775 := by rw [hk904 0 (by omega), hk896 0 (by omega), hk888 0 (by omega), hc880 0 (by omega), hk873 0 (by omega), hk862 0 (by omega), hk851 0 (by omega), hk840 0 (by omega), hk829 0 (by omega), hk818 0 (by omega), hk807 0 (by omega), hk796 0 (by omega), he784]
                        have hq906 : g901 1 = u786 := by rw [hk904 1 (by omega), hk896 1 (by omega), hk888 1 (by omega), hc880 1 (by omega), hk873 1 (by omega), hk862 1 (by omega), hk851 1 (by omega), hk840 1 (by omega), hk829 1 (by omega), hk818 1 (by omega), hk807 1 (by omega), he795]
                        have hq907 : g901 2 = u797 := by rw [hk904 2 (by omega), hk896 2 (by omega), hk888 2 (by omega), hc880 2 (by omega), hk873 2 (by omega), hk862 2 (by omega), hk851 2 (by omega), hk840 2 (by omega), hk829 2 (by omega), hk818 2 (by omega), he806]
                        have hq908 : g901 3 = u808 := by rw [hk904 3 (by omega), hk896 3 (by omega), hk888 3 (by omega), hc880 3 (by omega), hk873 3 (by omega), hk862 3 (by omega), hk851 3 (by omega), hk840 3 (by omega), hk829 3 (by omega), he817]
                        have hq909 : g901 4 = u819 := by rw [hk904 4 (by omega), hk896 4 (by omega), hk888 4 (by omega), hc880 4 (by omega), hk873 4 (by omega), hk862 4 (by omega), hk851 4 (by omega), hk840 4 (by omega), he828]
                        have hq910 : g901 5 = u830 := by rw [hk904 5 (by omega), hk896 5 (by omega), hk888 5 (by omega), hc880 5 (by omega), hk873 5 (by omega), hk862 5 (by omega), hk851 5 (by omega), he839]
                        have hq911 : g901 6 = u841 := by rw [hk904 6 (by omega), hk896 6 (by omega), hk888 6 (by omega), hc880 6 (by omega), hk873 6 (by omega), hk862 6 (by omega), he850]
                        have hq912 : g901 7 = u852 := by rw [hk904 7 (by omega), hk896 7 (by omega), hk888 7 (by omega), hc880 7 (by omega), hk873 7 (by omega), he861]
                        have hq913 : g901 8 = u863 := by rw [hk904 8 (by omega), hk896 8 (by omega), hk888 8 (by omega), hc880 8 (by omega), he872]
                        have hq914 : g901 9 = 0 := by rw [hk904 9 (by omega), hk896 9 (by omega), he887]
                        have hq915 : g901 10 = 0 := by rw [hk904 10 (by omega), he895]
                        have hq916 : ∀ j, 20 ≤ j → j < 140 → g901 j = g86_710 j := fun j h1 h2 => by rw [hk904 j (by omega), hk896 j (by omega), hk888 j (by omega)]; exact hc879 j h1 h2
                        have hq917 : ∀ j, 140 ≤ j ∨ j = 11 ∨ j = 12 ∨ j = 13 ∨ j = 15 → g901 j = g83_701 j := fun j hj => by rw [hk904 j (by omega), hk896 j (by omega), hk888 j (by omega), hc880 j (by omega), hk873 j (by omega), hk862 j (by omega), hk851 j (by omega), hk840 j (by omega), hk829 j (by omega), hk818 j (by omega), hk807 j (by omega), hk796 j (by omega), hk785 j (by omega)]
                        have hx918 : okA g901 := film_ok hx704 hdt (by omega) (by omega) (by omega) (by omega) (by omega) (by omega) (by omega) (by omega) (by omega) (by omega) (by omega) hq916 (fun j hj => hq917 j (by omega))
                        refine xg_t (xg_aload (va := (2, 82)) rfl rfl) ?_
                        refine xg_t (xg_getf (va := (0, f82_687)) (hb899.get (by decide) (hb891.get (by decide) (hb883.get (by decide) (hc878.get (by decide) (hb868.get (by decide) (hb857.get (by decide) (hb846.get (by decide) (hb835.get (by decide) (hb824.get (by decide) (hb813.get (by decide) (hb802.get (by decide) (hb791.get (by decide) (hb780.get (by decide) h82_699))))))))))))) rfl) ?_
                        have kk919 := (hz668.k K83.rf)
                        exact xg_e ⟨f82_687, w897, ⟨rfl, rfl⟩, ⟨by omega, (rwv_of hr898 (by decide)).trans ((hq917 15 (by omega)).trans ((rwv_of h83_702 (by decide)).symm.trans kk919.1)), fun j h1 h2 => (rwv_of hr898 h2).trans ((hq917 j (by omega)).trans ((rwv_of h83_702 h2).symm.trans (kk919.2 j h2 (by omega) (by omega) (by omega))))⟩, xMnv.up (S := [83]) hI661 (((((((((((((xFr.of (S := [83]) hb780 (by decide)).tr (xFr.of (S := [83]) hb791 (by decide))).tr (xFr.of (S := [83]) hb802 (by decide))).tr (xFr.of (S := [83]) hb813 (by decide))).tr (xFr.of (S := [83]) hb824 (by decide))).tr (xFr.of (S := [83]) hb835 (by decide))).tr (xFr.of (S := [83]) hb846 (by decide))).tr (xFr.of (S := [83]) hb857 (by decide))).tr (xFr.of (S := [83]) hb868 (by decide))).tr (xFr.of (S := [83]) hc878 (by decide))).tr (xFr.of (S := [83]) hb883 (by decide))).tr (xFr.of (S := [83]) hb891 (by decide))).tr (xFr.of (S := [83]) hb899 (by decide))) (List.forall_mem_cons.mpr ⟨(show cpx83 (wget w897 83) from ⟨_, hr898, hb900, hx918⟩), fun _ h => absurd h List.not_mem_nil⟩), (hF662.tr (((((((((((((xFr.of (S := [82, 83, 85, 86, 87]) hb780 (by decide)).tr (xFr.of (S := [82, 83, 85, 86, 87]) hb791 (by decide))).tr (xFr.of (S := [82, 83, 85, 86, 87]) hb802 (by decide))).tr (xFr.of (S := [82, 83, 85, 86, 87]) hb813 (by decide))).tr (xFr.of (S := [82, 83, 85, 86, 87]) hb824 (by decide))).tr (xFr.of (S := [82, 83, 85, 86, 87]) hb835 (by decide))).tr (xFr.of (S := [82, 83, 85, 86, 87]) hb846 (by decide))).tr (xFr.of (S := [82, 83, 85, 86, 87]) hb857 (by decide))).tr (xFr.of (S := [82, 83, 85, 86, 87]) hb868 (by decide))).tr (xFr.of (S := [82, 83, 85, 86, 87]) hc878 (by decide))).tr (xFr.of (S := [82, 83, 85, 86, 87]) hb883 (by decide))).tr (xFr.of (S := [82, 83, 85, 86, 87]) hb891 (by decide))).tr (xFr.of (S := [82, 83, 85, 86, 87]) hb899 (by decide))))⟩
                      · refine xg_t (xg_ifF (u := u771) rfl xnm0 (xj_eqF hc774)) ?_
                        refine xg_t (xg_const) ?_
                        have kk920 := hz668.k K83.rf
                        exact xg_e ⟨4294967295, w660, ⟨rfl, rfl⟩, ⟨by omega, kk920.1, fun j h1 h2 => kk920.2 j h2 (by omega) (by omega) (by omega)⟩, hI661, hF662⟩
                  · have hc720u := hc720
                    unfold xbs at hc720u
                    have hn921 : kf ≤ 20 := by omega
                    refine xg_t (xg_icT (u := kf) (v := u717) rfl xnm0 xnm0 (xjs_geT hc720)) ?_
                    refine xg_t (xg_blk (b := [(165, 1, 0, 0, 0, 0), (166, 3, 1, 12, 0, 7), (169, 2, 4, 16, 0, 0), (171, 1, 10, 0, 0, 0), (172, 3, 7, 177, 0, 0), (175, 1, 3, 4294967295, 0, 0), (176, 1, 12, 0, 1, 0)]) rfl) ?_
                    refine xg_t (xg_aload (va := (2, 82)) rfl rfl) ?_
                    refine xg_t (xg_getf (va := (2, 83)) h82_699 rfl) ?_
                    refine xg_t (xg_bip) ?_
                    refine xg_ialdB (n := 16) (B := 4294967295) h83_702 (hb703) xnm0 (by omega) (fun u922 hu923 he924 => ?_)
                    by_cases hc925 : u922 = 0
                    · refine xg_t (xg_ifT (u := u922) rfl xnm0 (xj_eqT hc925)) ?_
                      refine xg_t (xg_blk (b := [(177, 1, 3, 0, 0, 0), (178, 1, 15, 1, 0, 0)]) rfl) ?_
                      have hDD := hz667.resolve_left (by omega)
                      have hdt := hDD.toDt h85_708 h86_711
                      refine xg_t (xg_const) ?_
                      refine xg_t (xg_istore (l1 := [(0, (2, 82))]) rfl rfl rfl) ?_
                      refine xg_t (xg_blk (b := [(179, 1, 2, 1, 0, 0), (180, 1, 3, 5, 0, 0), (181, 3, 6, 202, 3, 0), (184, 1, 0, 0, 0, 0), (185, 3, 1, 12, 0, 7), (188, 1, 2, 1, 0, 0), (189, 1, 0, 0, 0, 0), (190, 3, 1, 12, 11, 17), (193, 1, 2, 1, 0, 0), (194, 1, 10, 0, 0, 0), (195, 1, 17, 0, 0, 0), (196, 3, 9, 1, 1, 0), (199, 3, 8, 179, 0, 0)]) rfl) ?_
                      refine xg_t (xg_iload (va := (0, 0)) rfl rfl) ?_
                      refine xg_t (xg_const) ?_
                      refine xg_t (xg_icF (u := 0) (v := 5) rfl xnm0 xnm0 (by decide)) ?_
                      refine xg_t (xg_aload (va := (2, 82)) rfl rfl) ?_
                      refine xg_t (xg_getf (va := (2, 83)) h82_699 rfl) ?_
                      refine xg_t (xg_iload (va := (0, 0)) rfl rfl) ?_
                      refine xg_t (xg_aload (va := (2, 82)) rfl rfl) ?_
                      refine xg_t (xg_getf (va := (2, 85)) h82_699 rfl) ?_
                      refine xg_t (xg_iload (va := (0, 0)) rfl rfl) ?_
                      refine xg_ialdB (n := 0) (B := 4294967295) h85_708 (hb709) xnm0 (by omega) (fun u926 hu927 he928 => ?_)
                      refine xg_iastK (n := 0) (u := u926) h83_702 xnm0 xnm0 rfl (by omega) (fun w929 hr930 hb931 => ?_)
                      have hb932 : ∀ j, (fun j => if j = 0 then u926 else g83_701 j) j ≤ 4294967295 := xrb (by omega) (hb703)
                      obtain ⟨g933, hg934⟩ : ∃ g : Nat → Nat, g = (fun j => if j = 0 then u926 else g83_701 j) := ⟨_, rfl⟩
                      rw [← hg934] at hr930
                      have he935 : g933 0 = u926 := by rw [hg934]; exact if_pos rfl
                      have hk936 : ∀ j, j ≠ 0 → g933 j = g83_701 j := fun j hj => by rw [hg934]; exact if_neg hj
                      rw [← hg934] at hb932
                      refine xg_t (xg_iinc (u := 0) (z := 1) (l1 := [(0, (2, 82))]) rfl rfl (by decide) rfl) ?_
                      refine xg_t (xg_goto) ?_
                      refine xg_t (xg_blk (b := [(179, 1, 2, 1, 0, 0), (180, 1, 3, 5, 0, 0), (181, 3, 6, 202, 3, 0), (184, 1, 0, 0, 0, 0), (185, 3, 1, 12, 0, 7), (188, 1, 2, 1, 0, 0), (189, 1, 0, 0, 0, 0), (190, 3, 1, 12, 11, 17), (193, 1, 2, 1, 0, 0), (194, 1, 10, 0, 0, 0), (195, 1, 17, 0, 0, 0), (196, 3, 9, 1, 1, 0), (199, 3, 8, 179, 0, 0)]) rfl) ?_
                      refine xg_t (xg_iload (va := (0, 1)) rfl rfl) ?_
                      refine xg_t (xg_const) ?_
                      refine xg_t (xg_icF (u := 1) (v := 5) rfl xnm0 xnm0 (by decide)) ?_
                      refine xg_t (xg_aload (va := (2, 82)) rfl rfl) ?_
                      refine xg_t (xg_getf (va := (2, 83)) (hb931.get (by decide) h82_699) rfl) ?_
                      refine xg_t (xg_iload (va := (0, 1)) rfl rfl) ?_
                      refine xg_t (xg_aload (va := (2, 82)) rfl rfl) ?_
                      refine xg_t (xg_getf (va := (2, 85)) (hb931.get (by decide) h82_699) rfl) ?_
                      refine xg_t (xg_iload (va := (0, 1)) rfl rfl) ?_
                      refine xg_ialdB (n := 1) (B := 4294967295) (h85_708.but hb931 (by decide)) (hb709) xnm0 (by omega) (fun u937 hu938 he939 => ?_)
                      refine xg_iastK (n := 1) (u := u937) hr930 xnm0 xnm0 rfl (by omega) (fun w940 hr941 hb942 => ?_)
                      have hb943 : ∀ j, (fun j => if j = 1 then u937 else g933 j) j ≤ 4294967295 := xrb (by omega) (hb932)
                      obtain ⟨g944, hg945⟩ : ∃ g : Nat → Nat, g = (fun j => if j = 1 then u937 else g933 j) := ⟨_, rfl⟩
                      rw [← hg945] at hr941
                      have he946 : g944 1 = u937 := by rw [hg945]; exact if_pos rfl
                      have hk947 : ∀ j, j ≠ 1 → g944 j = g933 j := fun j hj => by rw [hg945]; exact if_neg hj
                      rw [← hg945] at hb943
                      refine xg_t (xg_iinc (u := 1) (z := 2) (l1 := [(0, (2, 82))]) rfl rfl (by decide) rfl) ?_
                      refine xg_t (xg_goto) ?_
                      refine xg_t (xg_blk (b := [(179, 1, 2, 1, 0, 0), (180, 1, 3, 5, 0, 0), (181, 3, 6, 202, 3, 0), (184, 1, 0, 0, 0, 0), (185, 3, 1, 12, 0, 7), (188, 1, 2, 1, 0, 0), (189, 1, 0, 0, 0, 0), (190, 3, 1, 12, 11, 17), (193, 1, 2, 1, 0, 0), (194, 1, 10, 0, 0, 0), (195, 1, 17, 0, 0, 0), (196, 3, 9, 1, 1, 0), (199, 3, 8, 179, 0, 0)]) rfl) ?_
                      refine xg_t (xg_iload (va := (0, 2)) rfl rfl) ?_
                      refine xg_t (xg_const) ?_
                      refine xg_t (xg_icF (u := 2) (v := 5) rfl xnm0 xnm0 (by decide)) ?_
                      refine xg_t (xg_aload (va := (2, 82)) rfl rfl) ?_
                      refine xg_t (xg_getf (va := (2, 83)) (hb942.get (by decide) (hb931.get (by decide) h82_699)) rfl) ?_
                      refine xg_t (xg_iload (va := (0, 2)) rfl rfl) ?_
                      refine xg_t (xg_aload (va := (2, 82)) rfl rfl) ?_
                      refine xg_t (xg_getf (va := (2, 85)) (hb942.get (by decide) (hb931.get (by decide) h82_699)) rfl) ?_
                      refine xg_t (xg_iload (va := (0, 2)) rfl rfl) ?_
                      refine xg_ialdB (n := 2) (B := 4294967295) ((h85_708.but hb931 (by decide)).but hb942 (by decide)) (hb709) xnm0 (by omega) (fun u948 hu949 he950 => ?_)
                      refine xg_iastK (n := 2) (u := u948) hr941 xnm0 xnm0 rfl (by omega) (fun w951 hr952 hb953 => ?_)
                      have hb954 : ∀ j, (fun j => if j = 2 then u948 else g944 j) j ≤ 4294967295 := xrb (by omega) (hb943)
                      obtain ⟨g955, hg956⟩ : ∃ g : Nat → Nat, g = (fun j => if j = 2 then u948 else g944 j) := ⟨_, rfl⟩
                      rw [← hg956] at hr952
                      have he957 : g955 2 = u948 := by rw [hg956]; exact if_pos rfl
                      have hk958 : ∀ j, j ≠ 2 → g955 j = g944 j := fun j hj => by rw [hg956]; exact if_neg hj
                      rw [← hg956] at hb954
                      refine xg_t (xg_iinc (u := 2) (z := 3) (l1 := [(0, (2, 82))]) rfl rfl (by decide) rfl) ?_
                      refine xg_t (xg_goto) ?_
                      refine xg_t (xg_blk (b := [(179, 1, 2, 1, 0, 0), (180, 1, 3, 5, 0, 0), (181, 3, 6, 202, 3, 0), (184, 1, 0, 0, 0, 0), (185, 3, 1, 12, 0, 7), (188, 1, 2, 1, 0, 0), (189, 1, 0, 0, 0, 0), (190, 3, 1, 12, 11, 17), (193, 1, 2, 1, 0, 0), (194, 1, 10, 0, 0, 0), (195, 1, 17, 0, 0, 0), (196, 3, 9, 1, 1, 0), (199, 3, 8, 179, 0, 0)]) rfl) ?_
                      refine xg_t (xg_iload (va := (0, 3)) rfl rfl) ?_
                      refine xg_t (xg_const) ?_
                      refine xg_t (xg_icF (u := 3) (v := 5) rfl xnm0 xnm0 (by decide)) ?_
                      refine xg_t (xg_aload (va := (2, 82)) rfl rfl) ?_
                      refine xg_t (xg_getf (va := (2, 83)) (hb953.get (by decide) (hb942.get (by decide) (hb931.get (by decide) h82_699))) rfl) ?_
                      refine xg_t (xg_iload (va := (0, 3)) rfl rfl) ?_
                      refine xg_t (xg_aload (va := (2, 82)) rfl rfl) ?_
                      refine xg_t (xg_getf (va := (2, 85)) (hb953.get (by decide) (hb942.get (by decide) (hb931.get (by decide) h82_699))) rfl) ?_
                      refine xg_t (xg_iload (va := (0, 3)) rfl rfl) ?_
                      refine xg_ialdB (n := 3) (B := 4294967295) (((h85_708.but hb931 (by decide)).but hb942 (by decide)).but hb953 (by decide)) (hb709) xnm0 (by omega) (fun u959 hu960 he961 => ?_)
                      refine xg_iastK (n := 3) (u := u959) hr952 xnm0 xnm0 rfl (by omega) (fun w962 hr963 hb964 => ?_)
                      have hb965 : ∀ j, (fun j => if j = 3 then u959 else g955 j) j ≤ 4294967295 := xrb (by omega) (hb954)
                      obtain ⟨g966, hg967⟩ : ∃ g : Nat → Nat, g = (fun j => if j = 3 then u959 else g955 j) := ⟨_, rfl⟩
                      rw [← hg967] at hr963
                      have he968 : g966 3 = u959 := by rw [hg967]; exact if_pos rfl
                      have hk969 : ∀ j, j ≠ 3 → g966 j = g955 j := fun j hj => by rw [hg967]; exact if_neg hj
                      rw [← hg967] at hb965
                      refine xg_t (xg_iinc (u := 3) (z := 4) (l1 := [(0, (2, 82))]) rfl rfl (by decide) rfl) ?_
                      refine xg_t (xg_goto) ?_
                      refine xg_t (xg_blk (b := [(179, 1, 2, 1, 0, 0), (180, 1, 3, 5, 0, 0), (181, 3, 6, 202, 3, 0), (184, 1, 0, 0, 0, 0), (185, 3, 1, 12, 0, 7), (188, 1, 2, 1, 0, 0), (189, 1, 0, 0, 0, 0), (190, 3, 1, 12, 11, 17), (193, 1, 2, 1, 0, 0), (194, 1, 10, 0, 0, 0), (195, 1, 17, 0, 0, 0), (196, 3, 9, 1, 1, 0), (199, 3, 8, 179, 0, 0)]) rfl) ?_
                      refine xg_t (xg_iload (va := (0, 4)) rfl rfl) ?_
                      refine xg_t (xg_const) ?_
                      refine xg_t (xg_icF (u := 4) (v := 5) rfl xnm0 xnm0 (by decide)) ?_
                      refine xg_t (xg_aload (va := (2, 82)) rfl rfl) ?_
                      refine xg_t (xg_getf (va := (2, 83)) (hb964.get (by decide) (hb953.get (by decide) (hb942.get (by decide) (hb931.get (by decide) h82_699)))) rfl) ?_
                      refine xg_t (xg_iload (va := (0, 4)) rfl rfl) ?_
                      refine xg_t (xg_aload (va := (2, 82)) rfl rfl) ?_
                      refine xg_t (xg_getf (va := (2, 85)) (hb964.get (by decide) (hb953.get (by decide) (hb942.get (by decide) (hb931.get (by decide) h82_699)))) rfl) ?_
                      refine xg_t (xg_iload (va := (0, 4)) rfl rfl) ?_
                      refine xg_ialdB (n := 4) (B := 4294967295) ((((h85_708.but hb931 (by decide)).but hb942 (by decide)).but hb953 (by decide)).but hb964 (by decide)) (hb709) xnm0 (by omega) (fun u970 hu971 he972 => ?_)
                      refine xg_iastK (n := 4) (u := u970) hr963 xnm0 xnm0 rfl (by omega) (fun w973 hr974 hb975 => ?_)
                      have hb976 : ∀ j, (fun j => if j = 4 then u970 else g966 j) j ≤ 4294967295 := xrb (by omega) (hb965)
                      obtain ⟨g977, hg978⟩ : ∃ g : Nat → Nat, g = (fun j => if j = 4 then u970 else g966 j) := ⟨_, rfl⟩
                      rw [← hg978] at hr974
                      have he979 : g977 4 = u970 := by rw [hg978]; exact if_pos rfl
                      have hk980 : ∀ j, j ≠ 4 → g977 j = g966 j := fun j hj => by rw [hg978]; exact if_neg hj
                      rw [← hg978] at hb976
                      refine xg_t (xg_iinc (u := 4) (z := 5) (l1 := [(0, (2, 82))]) rfl rfl (by decide) rfl) ?_
                      refine xg_t (xg_goto) ?_
                      refine xg_t (xg_blk (b := [(179, 1, 2, 1, 0, 0), (180, 1, 3, 5, 0, 0), (181, 3, 6, 202, 3, 0), (184, 1, 0, 0, 0, 0), (185, 3, 1, 12, 0, 7), (188, 1, 2, 1, 0, 0), (189, 1, 0, 0, 0, 0), (190, 3, 1, 12, 11, 17), (193, 1, 2, 1, 0, 0), (194, 1, 10, 0, 0, 0), (195, 1, 17, 0, 0, 0), (196, 3, 9, 1, 1, 0), (199, 3, 8, 179, 0, 0)]) rfl) ?_
                      refine xg_t (xg_iload (va := (0, 5)) rfl rfl) ?_
                      refine xg_t (xg_const) ?_
                      refine xg_t (xg_icT (u := 5) (v := 5) rfl xnm0 xnm0 (by decide)) ?_
                      refine xg_t (xg_blk (b := [(202, 1, 3, 5, 0, 0), (203, 1, 15, 1, 0, 0)]) rfl) ?_
                      refine xg_t (xg_const) ?_
                      refine xg_t (xg_istore (l1 := [(0, (2, 82))]) rfl rfl rfl) ?_
                      refine xg_t (xg_blk (b := [(204, 1, 2, 1, 0, 0), (205, 2, 4, 8, 0, 0), (207, 3, 6, 228, 4, 0), (210, 1, 0, 0, 0, 0), (211, 3, 1, 12, 0, 7), (214, 1, 2, 1, 0, 0), (215, 1, 0, 0, 0, 0), (216, 3, 1, 12, 12, 20), (219, 1, 2, 1, 0, 0), (220, 1, 10, 0, 0, 0), (221, 1, 17, 0, 0, 0), (222, 3, 9, 1, 1, 0), (225, 3, 8, 204, 0, 0)]) rfl) ?_
                      refine xg_t (xg_iload (va := (0, 5)) rfl rfl) ?_
                      refine xg_t (xg_bip) ?_
                      refine xg_t (xg_icF (u := 5) (v := 8) rfl xnm0 xnm0 (by decide)) ?_
                      refine xg_t (xg_aload (va := (2, 82)) rfl rfl) ?_
                      refine xg_t (xg_getf (va := (2, 83)) (hb975.get (by decide) (hb964.get (by decide) (hb953.get (by decide) (hb942.get (by decide) (hb931.get (by decide) h82_699))))) rfl) ?_
                      refine xg_t (xg_iload (va := (0, 5)) rfl rfl) ?_
                      refine xg_t (xg_aload (va := (2, 82)) rfl rfl) ?_
                      refine xg_t (xg_getf (va := (2, 86)) (hb975.get (by decide) (hb964.get (by decide) (hb953.get (by decide) (hb942.get (by decide) (hb931.get (by decide) h82_699))))) rfl) ?_
                      refine xg_t (xg_iload (va := (0, 5)) rfl rfl) ?_
                      refine xg_ialdB (n := 5) (B := 4294967295) (((((h86_711.but hb931 (by decide)).but hb942 (by decide)).but hb953 (by decide)).but hb964 (by decide)).but hb975 (by decide)) (hb712) xnm0 (by omega) (fun u981 hu982 he983 => ?_)
                      refine xg_iastK (n := 5) (u := u981) hr974 xnm0 xnm0 rfl (by omega) (fun w984 hr985 hb986 => ?_)
                      have hb987 : ∀ j, (fun j => if j = 5 then u981 else g977 j) j ≤ 4294967295 := xrb (by omega) (hb976)
                      obtain ⟨g988, hg989⟩ : ∃ g : Nat → Nat, g = (fun j => if j = 5 then u981 else g977 j) := ⟨_, rfl⟩
                      rw [← hg989] at hr985
                      have he990 : g988 5 = u981 := by rw [hg989]; exact if_pos rfl
                      have hk991 : ∀ j, j ≠ 5 → g988 j = g977 j := fun j hj => by rw [hg989]; exact if_neg hj
                      rw [← hg989] at hb987
                      refine xg_t (xg_iinc (u := 5) (z := 6) (l1 := [(0, (2, 82))]) rfl rfl (by decide) rfl) ?_
                      refine xg_t (xg_goto) ?_
                      refine xg_t (xg_blk (b := [(204, 1, 2, 1, 0, 0), (205, 2, 4, 8, 0, 0), (207, 3, 6, 228, 4, 0), (210, 1, 0, 0, 0, 0), (211, 3, 1, 12, 0, 7), (214, 1, 2, 1, 0, 0), (215, 1, 0, 0, 0, 0), (216, 3, 1, 12, 12, 20), (219, 1, 2, 1, 0, 0), (220, 1, 10, 0, 0, 0), (221, 1, 17, 0, 0, 0), (222, 3, 9, 1, 1, 0), (225, 3, 8, 204, 0, 0)]) rfl) ?_
                      refine xg_t (xg_iload (va := (0, 6)) rfl rfl) ?_
                      refine xg_t (xg_bip) ?_
                      refine xg_t (xg_icF (u := 6) (v := 8) rfl xnm0 xnm0 (by decide)) ?_
                      refine xg_t (xg_aload (va := (2, 82)) rfl rfl) ?_
                      refine xg_t (xg_getf (va := (2, 83)) (hb986.get (by decide) (hb975.get (by decide) (hb964.get (by decide) (hb953.get (by decide) (hb942.get (by decide) (hb931.get (by decide) h82_699)))))) rfl) ?_
                      refine xg_t (xg_iload (va := (0, 6)) rfl rfl) ?_
                      refine xg_t (xg_aload (va := (2, 82)) rfl rfl) ?_
                      refine xg_t (xg_getf (va := (2, 86)) (hb986.get (by decide) (hb975.get (by decide) (hb964.get (by decide) (hb953.get (by decide) (hb942.get (by decide) (hb931.get (by decide) h82_699)))))) rfl) ?_
                      refine xg_t (xg_iload (va := (0, 6)) rfl rfl) ?_
                      refine xg_ialdB (n := 6) (B := 4294967295) ((((((h86_711.but hb931 (by decide)).but hb942 (by decide)).but hb953 (by decide)).but hb964 (by decide)).but hb975 (by decide)).but hb986 (by decide)) (hb712) xnm0 (by omega) (fun u992 hu993 he994 => ?_)
                      refine xg_iastK (n := 6) (u := u992) hr985 xnm0 xnm0 rfl (by omega) (fun w995 hr996 hb997 => ?_)
                      have hb998 : ∀ j, (fun j => if j = 6 then u992 else g988 j) j ≤ 4294967295 := xrb (by omega) (hb987)
                      obtain ⟨g999, hg1000⟩ : ∃ g : Nat → Nat, g = (fun j => if j = 6 then u992 else g988 j) := ⟨_, rfl⟩
                      rw [← hg1000] at hr996
                      have he1001 : g999 6 = u992 := by rw [hg1000]; exact if_pos rfl
                      have hk1002 : ∀ j, j ≠ 6 → g999 j = g988 j := fun j hj => by rw [hg1000]; exact if_neg hj
                      rw [← hg1000] at hb998
                      refine xg_t (xg_iinc (u := 6) (z := 7) (l1 := [(0, (2, 82))]) rfl rfl (by decide) rfl) ?_
                      refine xg_t (xg_goto) ?_
                      refine xg_t (xg_blk (b := [(204, 1, 2, 1, 0, 0), (205, 2, 4, 8, 0, 0), (207, 3, 6, 228, 4, 0), (210, 1, 0, 0, 0, 0), (211, 3, 1, 12, 0, 7), (214, 1, 2, 1, 0, 0), (215, 1, 0, 0, 0, 0), (216, 3, 1, 12, 12, 20), (219, 1, 2, 1, 0, 0), (220, 1, 10, 0, 0, 0), (221, 1, 17, 0, 0, 0), (222, 3, 9, 1, 1, 0), (225, 3, 8, 204, 0, 0)]) rfl) ?_
                      refine xg_t (xg_iload (va := (0, 7)) rfl rfl) ?_
                      refine xg_t (xg_bip) ?_
                      refine xg_t (xg_icF (u := 7) (v := 8) rfl xnm0 xnm0 (by decide)) ?_
                      refine xg_t (xg_aload (va := (2, 82)) rfl rfl) ?_
                      refine xg_t (xg_getf (va := (2, 83)) (hb997.get (by decide) (hb986.get (by decide) (hb975.get (by decide) (hb964.get (by decide) (hb953.get (by decide) (hb942.get (by decide) (hb931.get (by decide) h82_699))))))) rfl) ?_
                      refine xg_t (xg_iload (va := (0, 7)) rfl rfl) ?_
                      refine xg_t (xg_aload (va := (2, 82)) rfl rfl) ?_
                      refine xg_t (xg_getf (va := (2, 86)) (hb997.get (by decide) (hb986.get (by decide) (hb975.get (by decide) (hb964.get (by decide) (hb953.get (by decide) (hb942.get (by decide) (hb931.get (by decide) h82_699))))))) rfl) ?_
                      refine xg_t (xg_iload (va := (0, 7)) rfl rfl) ?_
                      refine xg_ialdB (n := 7) (B := 4294967295) (((((((h86_711.but hb931 (by decide)).but hb942 (by decide)).but hb953 (by decide)).but hb964 (by decide)).but hb975 (by decide)).but hb986 (by decide)).but hb997 (by decide)) (hb712) xnm0 (by omega) (fun u1003 hu1004 he1005 => ?_)
                      refine xg_iastK (n := 7) (u := u1003) hr996 xnm0 xnm0 rfl (by omega) (fun w1006 hr1007 hb1008 => ?_)
                      have hb1009 : ∀ j, (fun j => if j = 7 then u1003 else g999 j) j ≤ 4294967295 := xrb (by omega) (hb998)
                      obtain ⟨g1010, hg1011⟩ : ∃ g : Nat → Nat, g = (fun j => if j = 7 then u1003 else g999 j) := ⟨_, rfl⟩
                      rw [← hg1011] at hr1007
                      have he1012 : g1010 7 = u1003 := by rw [hg1011]; exact if_pos rfl
                      have hk1013 : ∀ j, j ≠ 7 → g1010 j = g999 j := fun j hj => by rw [hg1011]; exact if_neg hj
                      rw [← hg1011] at hb1009
                      refine xg_t (xg_iinc (u := 7) (z := 8) (l1 := [(0, (2, 82))]) rfl rfl (by decide) rfl) ?_
                      refine xg_t (xg_goto) ?_
                      refine xg_t (xg_blk (b := [(204, 1, 2, 1, 0, 0), (205, 2, 4, 8, 0, 0), (207, 3, 6, 228, 4, 0), (210, 1, 0, 0, 0, 0), (211, 3, 1, 12, 0, 7), (214, 1, 2, 1, 0, 0), (215, 1, 0, 0, 0, 0), (216, 3, 1, 12, 12, 20), (219, 1, 2, 1, 0, 0), (220, 1, 10, 0, 0, 0), (221, 1, 17, 0, 0, 0), (222, 3, 9, 1, 1, 0), (225, 3, 8, 204, 0, 0)]) rfl) ?_
                      refine xg_t (xg_iload (va := (0, 8)) rfl rfl) ?_
                      refine xg_t (xg_bip) ?_
                      refine xg_t (xg_icF (u := 8) (v := 8) rfl xnm0 xnm0 (by decide)) ?_
                      refine xg_t (xg_aload (va := (2, 82)) rfl rfl) ?_
                      refine xg_t (xg_getf (va := (2, 83)) (hb1008.get (by decide) (hb997.get (by decide) (hb986.get (by decide) (hb975.get (by decide) (hb964.get (by decide) (hb953.get (by decide) (hb942.get (by decide) (hb931.get (by decide) h82_699)))))))) rfl) ?_
                      refine xg_t (xg_iload (va := (0, 8)) rfl rfl) ?_
                      refine xg_t (xg_aload (va := (2, 82)) rfl rfl) ?_
                      refine xg_t (xg_getf (va := (2, 86)) (hb1008.get (by decide) (hb997.get (by decide) (hb986.get (by decide) (hb975.get (by decide) (hb964.get (by decide) (hb953.get (by decide) (hb942.get (by decide) (hb931.get (by decide) h82_699)))))))) rfl) ?_
                      refine xg_t (xg_iload (va := (0, 8)) rfl rfl) ?_
                      refine xg_ialdB (n := 8) (B := 4294967295) ((((((((h86_711.but hb931 (by decide)).but hb942 (by decide)).but hb953 (by decide)).but hb964 (by decide)).but hb975 (by decide)).but hb986 (by decide)).but hb997 (by decide)).but hb1008 (by decide)) (hb712) xnm0 (by omega) (fun u1014 hu1015 he1016 => ?_)
                      refine xg_iastK (n := 8) (u := u1014) hr1007 xnm0 xnm0 rfl (by omega) (fun w1017 hr1018 hb1019 => ?_)
                      have hb1020 : ∀ j, (fun j => if j = 8 then u1014 else g1010 j) j ≤ 4294967295 := xrb (by omega) (hb1009)
                      obtain ⟨g1021, hg1022⟩ : ∃ g : Nat → Nat, g = (fun j => if j = 8 then u1014 else g1010 j) := ⟨_, rfl⟩
                      rw [← hg1022] at hr1018
                      have he1023 : g1021 8 = u1014 := by rw [hg1022]; exact if_pos rfl
                      have hk1024 : ∀ j, j ≠ 8 → g1021 j = g1010 j := fun j hj => by rw [hg1022]; exact if_neg hj
                      rw [← hg1022] at hb1020
                      refine xg_t (xg_iinc (u := 8) (z := 9) (l1 := [(0, (2, 82))]) rfl rfl (by decide) rfl) ?_
                      refine xg_t (xg_goto) ?_
                      refine xg_t (xg_blk (b := [(204, 1, 2, 1, 0, 0), (205, 2, 4, 8, 0, 0), (207, 3, 6, 228, 4, 0), (210, 1, 0, 0, 0, 0), (211, 3, 1, 12, 0, 7), (214, 1, 2, 1, 0, 0), (215, 1, 0, 0, 0, 0), (216, 3, 1, 12, 12, 20), (219, 1, 2, 1, 0, 0), (220, 1, 10, 0, 0, 0), (221, 1, 17, 0, 0, 0), (222, 3, 9, 1, 1, 0), (225, 3, 8, 204, 0, 0)]) rfl) ?_
                      refine xg_t (xg_iload (va := (0, 9)) rfl rfl) ?_
                      refine xg_t (xg_bip) ?_
                      refine xg_t (xg_icT (u := 9) (v := 8) rfl xnm0 xnm0 (by decide)) ?_
                      refine xg_t (xg_blk (b := [(228, 2, 4, 20, 0, 0), (230, 1, 15, 1, 0, 0)]) rfl) ?_
                      refine xg_t (xg_bip) ?_
                      refine xg_t (xg_istore (l1 := [(0, (2, 82))]) rfl rfl rfl) ?_
                      refine xg_t (xg_drop (l1 := [(0, (2, 82)), (1, (0, 20))]) (List.forall_mem_cons.mpr ⟨List.mem_cons_of_mem _ (List.mem_cons_self), List.forall_mem_cons.mpr ⟨List.mem_cons_self, fun _ h => absurd h List.not_mem_nil⟩⟩)) ?_
                      refine cpFilm 120 20 w1017 g1021 (by decide) hr1018 hb1020 (((((((((h86_711.but hb931 (by decide)).but hb942 (by decide)).but hb953 (by decide)).but hb964 (by decide)).but hb975 (by decide)).but hb986 (by decide)).but hb997 (by decide)).but hb1008 (by decide)).but hb1019 (by decide)) hb712 (hb1019.get (by decide) (hb1008.get (by decide) (hb997.get (by decide) (hb986.get (by decide) (hb975.get (by decide) (hb964.get (by decide) (hb953.get (by decide) (hb942.get (by decide) (hb931.get (by decide) h82_699))))))))) (fun w1025 g1026 hc1027 hc1028 hc1029 hc1030 hc1031 => ?_)
                      refine xg_t (xg_blk (b := [(256, 1, 0, 0, 0, 0), (257, 3, 1, 12, 0, 7), (260, 2, 4, 9, 0, 0), (262, 1, 3, 0, 0, 0), (263, 1, 17, 0, 0, 0), (264, 1, 0, 0, 0, 0), (265, 3, 1, 12, 0, 7), (268, 2, 4, 10, 0, 0), (270, 1, 3, 0, 0, 0), (271, 1, 17, 0, 0, 0), (272, 1, 0, 0, 0, 0), (273, 3, 1, 12, 0, 7), (276, 2, 4, 14, 0, 0), (278, 1, 0, 0, 0, 0), (279, 3, 1, 12, 14, 212), (282, 1, 17, 0, 0, 0), (283, 1, 0, 0, 0, 0), (284, 3, 1, 12, 14, 212), (287, 1, 12, 0, 1, 0)]) rfl) ?_
                      refine xg_t (xg_aload (va := (2, 82)) rfl rfl) ?_
                      refine xg_t (xg_getf (va := (2, 83)) (hc1029.get (by decide) (hb1019.get (by decide) (hb1008.get (by decide) (hb997.get (by decide) (hb986.get (by decide) (hb975.get (by decide) (hb964.get (by decide) (hb953.get (by decide) (hb942.get (by decide) (hb931.get (by decide) h82_699)))))))))) rfl) ?_
                      refine xg_t (xg_bip) ?_
                      refine xg_t (xg_const) ?_
                      refine xg_iastK (n := 9) (u := 0) hc1027 xnm0 xnm0 rfl (by omega) (fun w1032 hr1033 hb1034 => ?_)
                      have hb1035 : ∀ j, (fun j => if j = 9 then 0 else g1026 j) j ≤ 4294967295 := xrb (by omega) (hc1028)
                      obtain ⟨g1036, hg1037⟩ : ∃ g : Nat → Nat, g = (fun j => if j = 9 then 0 else g1026 j) := ⟨_, rfl⟩
                      rw [← hg1037] at hr1033
                      have he1038 : g1036 9 = 0 := by rw [hg1037]; exact if_pos rfl
                      have hk1039 : ∀ j, j ≠ 9 → g1036 j = g1026 j := fun j hj => by rw [hg1037]; exact if_neg hj
                      rw [← hg1037] at hb1035
                      refine xg_t (xg_aload (va := (2, 82)) rfl rfl) ?_
                      refine xg_t (xg_getf (va := (2, 83)) (hb1034.get (by decide) (hc1029.get (by decide) (hb1019.get (by decide) (hb1008.get (by decide) (hb997.get (by decide) (hb986.get (by decide) (hb975.get (by decide) (hb964.get (by decide) (hb953.get (by decide) (hb942.get (by decide) (hb931.get (by decide) h82_699))))))))))) rfl) ?_
                      refine xg_t (xg_bip) ?_
                      refine xg_t (xg_const) ?_
                      refine xg_iastK (n := 10) (u := 0) hr1033 xnm0 xnm0 rfl (by omega) (fun w1040 hr1041 hb1042 => ?_)
                      have hb1043 : ∀ j, (fun j => if j = 10 then 0 else g1036 j) j ≤ 4294967295 := xrb (by omega) (hb1035)
                      obtain ⟨g1044, hg1045⟩ : ∃ g : Nat → Nat, g = (fun j => if j = 10 then 0 else g1036 j) := ⟨_, rfl⟩
                      rw [← hg1045] at hr1041
                      have he1046 : g1044 10 = 0 := by rw [hg1045]; exact if_pos rfl
                      have hk1047 : ∀ j, j ≠ 10 → g1044 j = g1036 j := fun j hj => by rw [hg1045]; exact if_neg hj
                      rw [← hg1045] at hb1043
                      refine xg_t (xg_aload (va := (2, 82)) rfl rfl) ?_
                      refine xg_t (xg_getf (va := (2, 83)) (hb1042.get (by decide) (hb1034.get (by decide) (hc1029.get (by decide) (hb1019.get (by decide) (hb1008.get (by decide) (hb997.get (by decide) (hb986.get (by decide) (hb975.get (by decide) (hb964.get (by decide) (hb953.get (by decide) (hb942.get (by decide) (hb931.get (by decide) h82_699)))))))))))) rfl) ?_
                      refine xg_t (xg_bip) ?_
                      refine xg_t (xg_aload (va := (2, 82)) rfl rfl) ?_
                      refine xg_t (xg_getf (va := (0, f82_687)) (hb1042.get (by decide) (hb1034.get (by decide) (hc1029.get (by decide) (hb1019.get (by decide) (hb1008.get (by decide) (hb997.get (by decide) (hb986.get (by decide) (hb975.get (by decide) (hb964.get (by decide) (hb953.get (by decide) (hb942.get (by decide) (hb931.get (by decide) h82_699)))))))))))) rfl) ?_
                      refine xg_iastK (n := 14) (u := f82_687) hr1041 xnm0 xnm0 rfl (by omega) (fun w1048 hr1049 hb1050 => ?_)
                      have hb1051 : ∀ j, (fun j => if j = 14 then f82_687 else g1044 j) j ≤ 4294967295 := xrb (by omega) (hb1043)
                      obtain ⟨g1052, hg1053⟩ : ∃ g : Nat → Nat, g = (fun j => if j = 14 then f82_687 else g1044 j) := ⟨_, rfl⟩
                      rw [← hg1053] at hr1049
                      have he1054 : g1052 14 = f82_687 := by rw [hg1053]; exact if_pos rfl
                      have hk1055 : ∀ j, j ≠ 14 → g1052 j = g1044 j := fun j hj => by rw [hg1053]; exact if_neg hj
                      rw [← hg1053] at hb1051
                      have hq1056 : g1052 0 = u926 := by rw [hk1055 0 (by omega), hk1047 0 (by omega), hk1039 0 (by omega), hc1031 0 (by omega), hk1024 0 (by omega), hk1013 0 (by omega), hk1002 0 (by omega), hk991 0 (by omega), hk980 0 (by omega), hk969 0 (by omega), hk958 0 (by omega), hk947 0 (by omega), he935]
                      have hq1057 : g1052 1 = u937 := by rw [hk1055 1 (by omega), hk1047 1 (by omega), hk1039 1 (by omega), hc1031 1 (by omega), hk1024 1 (by omega), hk1013 1 (by omega), hk1002 1 (by omega), hk991 1 (by omega), hk980 1 (by omega), hk969 1 (by omega), hk958 1 (by omega), he946]
                      have hq1058 : g1052 2 = u948 := by rw [hk1055 2 (by omega), hk1047 2 (by omega), hk1039 2 (by omega), hc1031 2 (by omega), hk1024 2 (by omega), hk1013 2 (by omega), hk1002 2 (by omega), hk991 2 (by omega), hk980 2 (by omega), hk969 2 (by omega), he957]
                      have hq1059 : g1052 3 = u959 := by rw [hk1055 3 (by omega), hk1047 3 (by omega), hk1039 3 (by omega), hc1031 3 (by omega), hk1024 3 (by omega), hk1013 3 (by omega), hk1002 3 (by omega), hk991 3 (by omega), hk980 3 (by omega), he968]
                      have hq1060 : g1052 4 = u970 := by rw [hk1055 4 (by omega), hk1047 4 (by omega), hk1039 4 (by omega), hc1031 4 (by omega), hk1024 4 (by omega), hk1013 4 (by omega), hk1002 4 (by omega), hk991 4 (by omega), he979]
                      have hq1061 : g1052 5 = u981 := by rw [hk1055 5 (by omega), hk1047 5 (by omega), hk1039 5 (by omega), hc1031 5 (by omega), hk1024 5 (by omega), hk1013 5 (by omega), hk1002 5 (by omega), he990]
                      have hq1062 : g1052 6 = u992 := by rw [hk1055 6 (by omega), hk1047 6 (by omega), hk1039 6 (by omega), hc1031 6 (by omega), hk1024 6 (by omega), hk1013 6 (by omega), he1001]
                      have hq1063 : g1052 7 = u1003 := by rw [hk1055 7 (by omega), hk1047 7 (by omega), hk1039 7 (by omega), hc1031 7 (by omega), hk1024 7 (by omega), he1012]
                      have hq1064 : g1052 8 = u1014 := by rw [hk1055 8 (by omega), hk1047 8 (by omega), hk1039 8 (by omega), hc1031 8 (by omega), he1023]
                      have hq1065 : g1052 9 = 0 := by rw [hk1055 9 (by omega), hk1047 9 (by omega), he1038]
                      have hq1066 : g1052 10 = 0 := by rw [hk1055 10 (by omega), he1046]
                      have hq1067 : ∀ j, 20 ≤ j → j < 140 → g1052 j = g86_710 j := fun j h1 h2 => by rw [hk1055 j (by omega), hk1047 j (by omega), hk1039 j (by omega)]; exact hc1030 j h1 h2
                      have hq1068 : ∀ j, 140 ≤ j ∨ j = 11 ∨ j = 12 ∨ j = 13 ∨ j = 15 → g1052 j = g83_701 j := fun j hj => by rw [hk1055 j (by omega), hk1047 j (by omega), hk1039 j (by omega), hc1031 j (by omega), hk1024 j (by omega), hk1013 j (by omega), hk1002 j (by omega), hk991 j (by omega), hk980 j (by omega), hk969 j (by omega), hk958 j (by omega), hk947 j (by omega), hk936 j (by omega)]
                      have hx1069 : okA g1052 := film_ok hx704 hdt (by omega) (by omega) (by omega) (by omega) (by omega) (by omega) (by omega) (by omega) (by omega) (by omega) (by omega) hq1067 (fun j hj => hq1068 j (by omega))
                      refine xg_t (xg_aload (va := (2, 82)) rfl rfl) ?_
                      refine xg_t (xg_getf (va := (0, f82_687)) (hb1050.get (by decide) (hb1042.get (by decide) (hb1034.get (by decide) (hc1029.get (by decide) (hb1019.get (by decide) (hb1008.get (by decide) (hb997.get (by decide) (hb986.get (by decide) (hb975.get (by decide) (hb964.get (by decide) (hb953.get (by decide) (hb942.get (by decide) (hb931.get (by decide) h82_699))))))))))))) rfl) ?_
                      have kk1070 := (hz668.k K83.rf)
                      exact xg_e ⟨f82_687, w1048, ⟨rfl, rfl⟩, ⟨by omega, (rwv_of hr1049 (by decide)).trans ((hq1068 15 (by omega)).trans ((rwv_of h83_702 (by decide)).symm.trans kk1070.1)), fun j h1 h2 => (rwv_of hr1049 h2).trans ((hq1068 j (by omega)).trans ((rwv_of h83_702 h2).symm.trans (kk1070.2 j h2 (by omega) (by omega) (by omega))))⟩, xMnv.up (S := [83]) hI661 (((((((((((((xFr.of (S := [83]) hb931 (by decide)).tr (xFr.of (S := [83]) hb942 (by decide))).tr (xFr.of (S := [83]) hb953 (by decide))).tr (xFr.of (S := [83]) hb964 (by decide))).tr (xFr.of (S := [83]) hb975 (by decide))).tr (xFr.of (S := [83]) hb986 (by decide))).tr (xFr.of (S := [83]) hb997 (by decide))).tr (xFr.of (S := [83]) hb1008 (by decide))).tr (xFr.of (S := [83]) hb1019 (by decide))).tr (xFr.of (S := [83]) hc1029 (by decide))).tr (xFr.of (S := [83]) hb1034 (by decide))).tr (xFr.of (S := [83]) hb1042 (by decide))).tr (xFr.of (S := [83]) hb1050 (by decide))) (List.forall_mem_cons.mpr ⟨(show cpx83 (wget w1048 83) from ⟨_, hr1049, hb1051, hx1069⟩), fun _ h => absurd h List.not_mem_nil⟩), (hF662.tr (((((((((((((xFr.of (S := [82, 83, 85, 86, 87]) hb931 (by decide)).tr (xFr.of (S := [82, 83, 85, 86, 87]) hb942 (by decide))).tr (xFr.of (S := [82, 83, 85, 86, 87]) hb953 (by decide))).tr (xFr.of (S := [82, 83, 85, 86, 87]) hb964 (by decide))).tr (xFr.of (S := [82, 83, 85, 86, 87]) hb975 (by decide))).tr (xFr.of (S := [82, 83, 85, 86, 87]) hb986 (by decide))).tr (xFr.of (S := [82, 83, 85, 86, 87]) hb997 (by decide))).tr (xFr.of (S := [82, 83, 85, 86, 87]) hb1008 (by decide))).tr (xFr.of (S := [82, 83, 85, 86, 87]) hb1019 (by decide))).tr (xFr.of (S := [82, 83, 85, 86, 87]) hc1029 (by decide))).tr (xFr.of (S := [82, 83, 85, 86, 87]) hb1034 (by decide))).tr (xFr.of (S := [82, 83, 85, 86, 87]) hb1042 (by decide))).tr (xFr.of (S := [82, 83, 85, 86, 87]) hb1050 (by decide))))⟩
                    · refine xg_t (xg_ifF (u := u922) rfl xnm0 (xj_eqF hc925)) ?_
                      refine xg_t (xg_const) ?_
                      have kk1071 := hz668.k K83.rf
                      exact xg_e ⟨4294967295, w660, ⟨rfl, rfl⟩, ⟨by omega, kk1071.1, fun j h1 h2 => kk1071.2 j h2 (by omega) (by omega) (by omega)⟩, hI661, hF662⟩
              exact key657 _ 0 w179 (Nat.lt_succ_self _) (by omega) (hI180) (hF181) (⟨hz184, hz187, hz188⟩)
        exact key176 _ w163 (Nat.lt_succ_self _) (hI165) (((hF48.tr ((((xFr.of (S := [82, 83, 85, 86, 87]) hb135 (by decide)).tr (xFr.of (S := [82, 83, 85, 86, 87]) hb138 (by decide))).tr (xFr.of (S := [82, 83, 85, 86, 87]) hb141 (by decide))).tr (xFr.of (S := [82, 83, 85, 86, 87]) hb144 (by decide)))).tr (hF166.up (by decide)))) (⟨(show fld w163 82 10 = 0 ∨ FA w163 ≠ 0 by omega), by omega, hM174, (Or.inr hD173), kk175⟩)
  exact key43 _ 0 w33 (Nat.lt_succ_self _) (by omega) (hI35) ((hF36.up (by decide))) (⟨fun s hs => absurd hs (Nat.not_lt_zero _), hg38, hg39, hg40, hg41, hg42⟩)
end XMD
