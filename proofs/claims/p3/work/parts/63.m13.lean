section
/-! the model: film -/
/-- behind a text: the tape is empty, the rest of row 83 as it was, but for the fault and its place -/
def K15 (w w' : List (List xE)) : Prop := rwv w' 83 15 = 0 ∧ ∀ j, j < 5360 → j ≠ 15 → j ≠ 16 → j ≠ 17 → rwv w' 83 j = rwv w 83 j
theorem K15.k {w1 w2 w3 : List (List xE)} (h : K15 w1 w2) (k : K83 w2 w3) : K15 w1 w3 := ⟨(k 15 (by decide) (by decide) (by decide)).trans h.1, fun j a b c d => (k j a c d).trans (h.2 j a b c d)⟩
section XMD
variable {d : Nat} {w : List (List xE)} {bd : List (Nat × Nat)} {fc : List (Nat × Nat × Bool)} {rr : Nat × Nat}
theorem mBegins0 (hI : xMnv w)  : xPq d mX12_begins [(2, 82), (0, 0)] w bd fc rr [] (fun w' => xMnv w' ∧ xFr [82, 83] w w' ∧ (FA w' = 0 ∧ fld w' 82 10 = 0 ∧ fld w' 82 14 = 0 ∧ mu w' ≤ 1001 ∧ K15 w w')) := by
  refine xPq.of ?_
  show xTo d mX12_begins (0, [], [(0, (2, 82)), (1, (0, 0))], [], (w, bd, fc, 0, 0, rr)) (fun φ => ∃ w', xEnd 0 [] (w', bd, fc, 0, 0, rr) φ ∧ xMnv w' ∧ xFr [82, 83] w w' ∧ (FA w' = 0 ∧ fld w' 82 10 = 0 ∧ fld w' 82 14 = 0 ∧ mu w' ≤ 1001 ∧ K15 w w'))
  refine xoCh82 (xqc82 hI : cp82 (wget w 82)) (fun f82_1 f82_3 f82_5 f82_7 f82_9 f82_11 f82_13 f82_15 f82_17 f82_19 f82_21 f82_22 f82_23 f82_25 f82_27 f82_29 h82_31 hb2 hb4 hb6 hb8 hb10 hb12 hb14 hb16 hb18 hb20 hb24 hb26 hb28 hb30 hb32 => ?_)
  refine xoX83 (xqc83 hI : cpx83 (wget w 83)) (fun g83_33 h83_34 hb35 hx36 => ?_)
  refine xg_t (xg_blq rfl) ?_
  refine xg_t (xg_aload (va := (2, 82)) rfl rfl) ?_
  refine xg_t (xg_iload (va := (0, 0)) rfl rfl) ?_
  refine xg_putZ (fl1 := [(2, 83), (2, 84), (0, 0), (0, f82_3), (0, f82_5), (0, f82_7), (0, f82_9), (0, f82_11), (0, f82_13), (0, f82_15), (0, f82_17), (2, 85), (2, 86), (2, 87), (0, f82_19), (2, 88), (2, 89), (2, 90), (2, 91), (2, 92), (2, 93), (2, 94), (4, f82_21), (4, f82_22), (0, f82_23), (2, 95), (2, 96), (2, 97), (2, 98), (2, 99), (2, 100), (2, 101), (2, 102), (0, f82_25), (2, 103), (2, 104), (2, 105), (2, 106), (2, 107), (2, 108), (2, 109), (0, f82_27), (0, f82_29), (2, 110), (2, 111), (2, 112), (2, 113)]) h82_31 rfl rfl rfl (fun w37 hk38 hb39 => ?_)
  refine xg_t (xg_aload (va := (2, 82)) rfl rfl) ?_
  refine xg_t (xg_aload (va := (2, 82)) rfl rfl) ?_
  refine xg_t (xg_getf (va := (2, 83)) hk38 rfl) ?_
  refine xg_t (xg_bip) ?_
  refine xg_ialdB (n := 15) (B := 4294967295) (h83_34.but hb39 (by decide)) (hb35) xnm0 (by first | decide | omega) (fun u40 hu41 he42 => ?_)
  have hl43 : u40 ≤ 500 := by rw [← he42]; exact hx36.l15
  refine xg_putI (fl1 := [(2, 83), (2, 84), (0, 0), (0, f82_3), (0, u40), (0, f82_7), (0, f82_9), (0, f82_11), (0, f82_13), (0, f82_15), (0, f82_17), (2, 85), (2, 86), (2, 87), (0, f82_19), (2, 88), (2, 89), (2, 90), (2, 91), (2, 92), (2, 93), (2, 94), (4, f82_21), (4, f82_22), (0, f82_23), (2, 95), (2, 96), (2, 97), (2, 98), (2, 99), (2, 100), (2, 101), (2, 102), (0, f82_25), (2, 103), (2, 104), (2, 105), (2, 106), (2, 107), (2, 108), (2, 109), (0, f82_27), (0, f82_29), (2, 110), (2, 111), (2, 112), (2, 113)]) hk38 rfl rfl rfl (fun w44 hk45 hb46 => ?_)
  refine xg_t (xg_aload (va := (2, 82)) rfl rfl) ?_
  refine xg_t (xg_getf (va := (2, 83)) hk45 rfl) ?_
  refine xg_t (xg_bip) ?_
  refine xg_t (xg_const) ?_
  refine xg_iastK (n := 15) (u := 0) ((h83_34.but hb39 (by decide)).but hb46 (by decide)) xnm0 xnm0 rfl (by first | decide | omega) (fun w47 hr48 hb49 => ?_)
  have hx50 : okA (fun j => if j = 15 then 0 else g83_33 j) := hx36.upd (by omega) (by omega) (by omega) (fun _ => by omega) (by omega) (fun _ => by omega) (fun _ => by omega) (fun _ => by omega) (fun _ => by omega) (by omega) (fun _ _ => by omega)
  have hb51 : ∀ j, (fun j => if j = 15 then 0 else g83_33 j) j ≤ 4294967295 := xrb (by omega) (hb35)
  obtain ⟨g52, hg53⟩ : ∃ g : Nat → Nat, g = (fun j => if j = 15 then 0 else g83_33 j) := ⟨_, rfl⟩
  rw [← hg53] at hr48
  have he54 : g52 15 = 0 := by rw [hg53]; exact if_pos rfl
  have hk55 : ∀ j, j ≠ 15 → g52 j = g83_33 j := fun j hj => by rw [hg53]; exact if_neg hj
  rw [← hg53] at hx50
  rw [← hg53] at hb51
  have hk56 : g52 16 = g83_33 16 := hk55 16 (by omega)
  refine xg_t (xg_aload (va := (2, 82)) rfl rfl) ?_
  refine xg_t (xg_const) ?_
  refine xg_putI (fl1 := [(2, 83), (2, 84), (0, 0), (0, f82_3), (0, u40), (0, 0), (0, f82_9), (0, f82_11), (0, f82_13), (0, f82_15), (0, f82_17), (2, 85), (2, 86), (2, 87), (0, f82_19), (2, 88), (2, 89), (2, 90), (2, 91), (2, 92), (2, 93), (2, 94), (4, f82_21), (4, f82_22), (0, f82_23), (2, 95), (2, 96), (2, 97), (2, 98), (2, 99), (2, 100), (2, 101), (2, 102), (0, f82_25), (2, 103), (2, 104), (2, 105), (2, 106), (2, 107), (2, 108), (2, 109), (0, f82_27), (0, f82_29), (2, 110), (2, 111), (2, 112), (2, 113)]) (hb49.get (by decide) hk45) rfl rfl rfl (fun w57 hk58 hb59 => ?_)
  refine xg_t (xg_aload (va := (2, 82)) rfl rfl) ?_
  refine xg_t (xg_getf (va := (2, 83)) hk58 rfl) ?_
  refine xg_t (xg_bip) ?_
  refine xg_t (xg_const) ?_
  refine xg_iastK (n := 16) (u := 0) (hr48.but hb59 (by decide)) xnm0 xnm0 rfl (by first | decide | omega) (fun w60 hr61 hb62 => ?_)
  have hx63 : okA (fun j => if j = 16 then 0 else g52 j) := hx50.upd (by omega) (by omega) (by omega) (fun _ => by omega) (by omega) (fun _ => by omega) (fun _ => by omega) (fun _ => by omega) (fun _ => by omega) (by omega) (fun _ _ => by omega)
  have hb64 : ∀ j, (fun j => if j = 16 then 0 else g52 j) j ≤ 4294967295 := xrb (by omega) (hb51)
  obtain ⟨g65, hg66⟩ : ∃ g : Nat → Nat, g = (fun j => if j = 16 then 0 else g52 j) := ⟨_, rfl⟩
  rw [← hg66] at hr61
  have he67 : g65 16 = 0 := by rw [hg66]; exact if_pos rfl
  have hk68 : ∀ j, j ≠ 16 → g65 j = g52 j := fun j hj => by rw [hg66]; exact if_neg hj
  rw [← hg66] at hx63
  rw [← hg66] at hb64
  refine xg_t (xg_aload (va := (2, 82)) rfl rfl) ?_
  refine xg_t (xg_getf (va := (2, 83)) (hb62.get (by decide) hk58) rfl) ?_
  refine xg_t (xg_bip) ?_
  refine xg_t (xg_const) ?_
  refine xg_iastK (n := 17) (u := 4294967295) hr61 xnm0 xnm0 rfl (by first | decide | omega) (fun w69 hr70 hb71 => ?_)
  have hx72 : okA (fun j => if j = 17 then 4294967295 else g65 j) := hx63.upd (by omega) (by omega) (by omega) (fun _ => by omega) (by omega) (fun _ => by omega) (fun _ => by omega) (fun _ => by omega) (fun _ => by omega) (by omega) (fun _ _ => by omega)
  have hb73 : ∀ j, (fun j => if j = 17 then 4294967295 else g65 j) j ≤ 4294967295 := xrb (by omega) (hb64)
  obtain ⟨g74, hg75⟩ : ∃ g : Nat → Nat, g = (fun j => if j = 17 then 4294967295 else g65 j) := ⟨_, rfl⟩
  rw [← hg75] at hr70
  have he76 : g74 17 = 4294967295 := by rw [hg75]; exact if_pos rfl
  have hk77 : ∀ j, j ≠ 17 → g74 j = g65 j := fun j hj => by rw [hg75]; exact if_neg hj
  rw [← hg75] at hx72
  rw [← hg75] at hb73
  have hk78 : g74 16 = g65 16 := hk77 16 (by omega)
  refine xg_t (xg_aload (va := (2, 82)) rfl rfl) ?_
  refine xg_t (xg_const) ?_
  refine xg_putZ (fl1 := [(2, 83), (2, 84), (0, 0), (0, f82_3), (0, u40), (0, 0), (0, f82_9), (0, f82_11), (0, f82_13), (0, f82_15), (0, 0), (2, 85), (2, 86), (2, 87), (0, f82_19), (2, 88), (2, 89), (2, 90), (2, 91), (2, 92), (2, 93), (2, 94), (4, f82_21), (4, f82_22), (0, f82_23), (2, 95), (2, 96), (2, 97), (2, 98), (2, 99), (2, 100), (2, 101), (2, 102), (0, f82_25), (2, 103), (2, 104), (2, 105), (2, 106), (2, 107), (2, 108), (2, 109), (0, f82_27), (0, f82_29), (2, 110), (2, 111), (2, 112), (2, 113)]) (hb71.get (by decide) (hb62.get (by decide) hk58)) rfl rfl rfl (fun w79 hk80 hb81 => ?_)
  refine xg_t (xg_aload (va := (2, 82)) rfl rfl) ?_
  refine xg_t (xg_const) ?_
  refine xg_putI (fl1 := [(2, 83), (2, 84), (0, 0), (0, f82_3), (0, u40), (0, 0), (0, f82_9), (0, f82_11), (0, f82_13), (0, f82_15), (0, 0), (2, 85), (2, 86), (2, 87), (0, 0), (2, 88), (2, 89), (2, 90), (2, 91), (2, 92), (2, 93), (2, 94), (4, f82_21), (4, f82_22), (0, f82_23), (2, 95), (2, 96), (2, 97), (2, 98), (2, 99), (2, 100), (2, 101), (2, 102), (0, f82_25), (2, 103), (2, 104), (2, 105), (2, 106), (2, 107), (2, 108), (2, 109), (0, f82_27), (0, f82_29), (2, 110), (2, 111), (2, 112), (2, 113)]) hk80 rfl rfl rfl (fun w82 hk83 hb84 => ?_)
  have hf85 : fld w82 82 4 = u40 := fld_of hk83
  have hf86 : fld w82 82 5 = 0 := fld_of hk83
  have hf87 : fld w82 82 7 = f82_11 := fld_of hk83
  have hf88 : fld w82 82 10 = 0 := fld_of hk83
  have hf89 : fld w82 82 14 = 0 := fld_of hk83
  have hu90 : mu w82 = 2 * (fld w82 82 4 - fld w82 82 5) + min 1 (fld w82 82 7) := rfl
  have hA91 : FA w82 = g74 16 := rwv_of ((hr70.but hb81 (by decide)).but hb84 (by decide)) (by decide)
  exact xg_e ⟨w82, ⟨rfl, rfl⟩, xMnv.up (S := [82, 83]) hI ((((((((xFr.of (S := [82, 83]) hb39 (by decide)).tr (xFr.of (S := [82, 83]) hb46 (by decide))).tr (xFr.of (S := [82, 83]) hb49 (by decide))).tr (xFr.of (S := [82, 83]) hb59 (by decide))).tr (xFr.of (S := [82, 83]) hb62 (by decide))).tr (xFr.of (S := [82, 83]) hb71 (by decide))).tr (xFr.of (S := [82, 83]) hb81 (by decide))).tr (xFr.of (S := [82, 83]) hb84 (by decide))) (List.forall_mem_cons.mpr ⟨xqu82 (show cp82 (wget w82 82) from xmC82 0 f82_3 u40 0 f82_9 f82_11 f82_13 f82_15 0 0 f82_21 f82_22 f82_23 f82_25 f82_27 f82_29 hk83 (by decide) hb4 (by omega) (by decide) hb10 hb12 hb14 hb16 (by decide) (by decide) hb24 hb26 hb28 hb30 (by omega)), List.forall_mem_cons.mpr ⟨xqu83 (show cpx83 (wget w82 83) from ⟨_, ((hr70.but hb81 (by decide)).but hb84 (by decide)), hb73, hx72⟩), fun _ h => absurd h List.not_mem_nil⟩⟩), ((((((((xFr.of (S := [82, 83]) hb39 (by decide)).tr (xFr.of (S := [82, 83]) hb46 (by decide))).tr (xFr.of (S := [82, 83]) hb49 (by decide))).tr (xFr.of (S := [82, 83]) hb59 (by decide))).tr (xFr.of (S := [82, 83]) hb62 (by decide))).tr (xFr.of (S := [82, 83]) hb71 (by decide))).tr (xFr.of (S := [82, 83]) hb81 (by decide))).tr (xFr.of (S := [82, 83]) hb84 (by decide))), ⟨by omega, by omega, by omega, by omega, ⟨(rwv_of ((hr70.but hb81 (by decide)).but hb84 (by decide)) (by decide)).trans (by rw [hk77 15 (by decide), hk68 15 (by decide), he54]), fun j a b c d => (rwv_of ((hr70.but hb81 (by decide)).but hb84 (by decide)) a).trans (Eq.trans (by rw [hk77 j (by omega), hk68 j (by omega), hk55 j (by omega)]) (rwv_of h83_34 a).symm)⟩⟩⟩
theorem mBegins1 (hI : xMnv w)  : xPq d mX12_begins [(2, 82), (0, 1)] w bd fc rr [] (fun w' => xMnv w' ∧ xFr [82, 83] w w' ∧ (FA w' = 0 ∧ fld w' 82 10 = 0 ∧ fld w' 82 14 = 0 ∧ mu w' ≤ 1001 ∧ K15 w w')) := by
  refine xPq.of ?_
  show xTo d mX12_begins (0, [], [(0, (2, 82)), (1, (0, 1))], [], (w, bd, fc, 0, 0, rr)) (fun φ => ∃ w', xEnd 0 [] (w', bd, fc, 0, 0, rr) φ ∧ xMnv w' ∧ xFr [82, 83] w w' ∧ (FA w' = 0 ∧ fld w' 82 10 = 0 ∧ fld w' 82 14 = 0 ∧ mu w' ≤ 1001 ∧ K15 w w'))
  refine xoCh82 (xqc82 hI : cp82 (wget w 82)) (fun f82_1 f82_3 f82_5 f82_7 f82_9 f82_11 f82_13 f82_15 f82_17 f82_19 f82_21 f82_22 f82_23 f82_25 f82_27 f82_29 h82_31 hb2 hb4 hb6 hb8 hb10 hb12 hb14 hb16 hb18 hb20 hb24 hb26 hb28 hb30 hb32 => ?_)
  refine xoX83 (xqc83 hI : cpx83 (wget w 83)) (fun g83_33 h83_34 hb35 hx36 => ?_)
  refine xg_t (xg_blq rfl) ?_
  refine xg_t (xg_aload (va := (2, 82)) rfl rfl) ?_
  refine xg_t (xg_iload (va := (0, 1)) rfl rfl) ?_
  refine xg_putZ (fl1 := [(2, 83), (2, 84), (0, 1), (0, f82_3), (0, f82_5), (0, f82_7), (0, f82_9), (0, f82_11), (0, f82_13), (0, f82_15), (0, f82_17), (2, 85), (2, 86), (2, 87), (0, f82_19), (2, 88), (2, 89), (2, 90), (2, 91), (2, 92), (2, 93), (2, 94), (4, f82_21), (4, f82_22), (0, f82_23), (2, 95), (2, 96), (2, 97), (2, 98), (2, 99), (2, 100), (2, 101), (2, 102), (0, f82_25), (2, 103), (2, 104), (2, 105), (2, 106), (2, 107), (2, 108), (2, 109), (0, f82_27), (0, f82_29), (2, 110), (2, 111), (2, 112), (2, 113)]) h82_31 rfl rfl rfl (fun w37 hk38 hb39 => ?_)
  refine xg_t (xg_aload (va := (2, 82)) rfl rfl) ?_
  refine xg_t (xg_aload (va := (2, 82)) rfl rfl) ?_
  refine xg_t (xg_getf (va := (2, 83)) hk38 rfl) ?_
  refine xg_t (xg_bip) ?_
  refine xg_ialdB (n := 15) (B := 4294967295) (h83_34.but hb39 (by decide)) (hb35) xnm0 (by first | decide | omega) (fun u40 hu41 he42 => ?_)
  have hl43 : u40 ≤ 500 := by rw [← he42]; exact hx36.l15
  refine xg_putI (fl1 := [(2, 83), (2, 84), (0, 1), (0, f82_3), (0, u40), (0, f82_7), (0, f82_9), (0, f82_11), (0, f82_13), (0, f82_15), (0, f82_17), (2, 85), (2, 86), (2, 87), (0, f82_19), (2, 88), (2, 89), (2, 90), (2, 91), (2, 92), (2, 93), (2, 94), (4, f82_21), (4, f82_22), (0, f82_23), (2, 95), (2, 96), (2, 97), (2, 98), (2, 99), (2, 100), (2, 101), (2, 102), (0, f82_25), (2, 103), (2, 104), (2, 105), (2, 106), (2, 107), (2, 108), (2, 109), (0, f82_27), (0, f82_29), (2, 110), (2, 111), (2, 112), (2, 113)]) hk38 rfl rfl rfl (fun w44 hk45 hb46 => ?_)
  refine xg_t (xg_aload (va := (2, 82)) rfl rfl) ?_
  refine xg_t (xg_getf (va := (2, 83)) hk45 rfl) ?_
  refine xg_t (xg_bip) ?_
  refine xg_t (xg_const) ?_
  refine xg_iastK (n := 15) (u := 0) ((h83_34.but hb39 (by decide)).but hb46 (by decide)) xnm0 xnm0 rfl (by first | decide | omega) (fun w47 hr48 hb49 => ?_)
  have hx50 : okA (fun j => if j = 15 then 0 else g83_33 j) := hx36.upd (by omega) (by omega) (by omega) (fun _ => by omega) (by omega) (fun _ => by omega) (fun _ => by omega) (fun _ => by omega) (fun _ => by omega) (by omega) (fun _ _ => by omega)
  have hb51 : ∀ j, (fun j => if j = 15 then 0 else g83_33 j) j ≤ 4294967295 := xrb (by omega) (hb35)
  obtain ⟨g52, hg53⟩ : ∃ g : Nat → Nat, g = (fun j => if j = 15 then 0 else g83_33 j) := ⟨_, rfl⟩
  rw [← hg53] at hr48
  have he54 : g52 15 = 0 := by rw [hg53]; exact if_pos rfl
  have hk55 : ∀ j, j ≠ 15 → g52 j = g83_33 j := fun j hj => by rw [hg53]; exact if_neg hj
  rw [← hg53] at hx50
  rw [← hg53] at hb51
  have hk56 : g52 16 = g83_33 16 := hk55 16 (by omega)
  refine xg_t (xg_aload (va := (2, 82)) rfl rfl) ?_
  refine xg_t (xg_const) ?_
  refine xg_putI (fl1 := [(2, 83), (2, 84), (0, 1), (0, f82_3), (0, u40), (0, 0), (0, f82_9), (0, f82_11), (0, f82_13), (0, f82_15), (0, f82_17), (2, 85), (2, 86), (2, 87), (0, f82_19), (2, 88), (2, 89), (2, 90), (2, 91), (2, 92), (2, 93), (2, 94), (4, f82_21), (4, f82_22), (0, f82_23), (2, 95), (2, 96), (2, 97), (2, 98), (2, 99), (2, 100), (2, 101), (2, 102), (0, f82_25), (2, 103), (2, 104), (2, 105), (2, 106), (2, 107), (2, 108), (2, 109), (0, f82_27), (0, f82_29), (2, 110), (2, 111), (2, 112), (2, 113)]) (hb49.get (by decide) hk45) rfl rfl rfl (fun w57 hk58 hb59 => ?_)
  refine xg_t (xg_aload (va := (2, 82)) rfl rfl) ?_
  refine xg_t (xg_getf (va := (2, 83)) hk58 rfl) ?_
  refine xg_t (xg_bip) ?_
  refine xg_t (xg_const) ?_
  refine xg_iastK (n := 16) (u := 0) (hr48.but hb59 (by decide)) xnm0 xnm0 rfl (by first | decide | omega) (fun w60 hr61 hb62 => ?_)
  have hx63 : okA (fun j => if j = 16 then 0 else g52 j) := hx50.upd (by omega) (by omega) (by omega) (fun _ => by omega) (by omega) (fun _ => by omega) (fun _ => by omega) (fun _ => by omega) (fun _ => by omega) (by omega) (fun _ _ => by omega)
  have hb64 : ∀ j, (fun j => if j = 16 then 0 else g52 j) j ≤ 4294967295 := xrb (by omega) (hb51)
  obtain ⟨g65, hg66⟩ : ∃ g : Nat → Nat, g = (fun j => if j = 16 then 0 else g52 j) := ⟨_, rfl⟩
  rw [← hg66] at hr61
  have he67 : g65 16 = 0 := by rw [hg66]; exact if_pos rfl
  have hk68 : ∀ j, j ≠ 16 → g65 j = g52 j := fun j hj => by rw [hg66]; exact if_neg hj
  rw [← hg66] at hx63
  rw [← hg66] at hb64
  refine xg_t (xg_aload (va := (2, 82)) rfl rfl) ?_
  refine xg_t (xg_getf (va := (2, 83)) (hb62.get (by decide) hk58) rfl) ?_
  refine xg_t (xg_bip) ?_
  refine xg_t (xg_const) ?_
  refine xg_iastK (n := 17) (u := 4294967295) hr61 xnm0 xnm0 rfl (by first | decide | omega) (fun w69 hr70 hb71 => ?_)
  have hx72 : okA (fun j => if j = 17 then 4294967295 else g65 j) := hx63.upd (by omega) (by omega) (by omega) (fun _ => by omega) (by omega) (fun _ => by omega) (fun _ => by omega) (fun _ => by omega) (fun _ => by omega) (by omega) (fun _ _ => by omega)
  have hb73 : ∀ j, (fun j => if j = 17 then 4294967295 else g65 j) j ≤ 4294967295 := xrb (by omega) (hb64)
  obtain ⟨g74, hg75⟩ : ∃ g : Nat → Nat, g = (fun j => if j = 17 then 4294967295 else g65 j) := ⟨_, rfl⟩
  rw [← hg75] at hr70
  have he76 : g74 17 = 4294967295 := by rw [hg75]; exact if_pos rfl
  have hk77 : ∀ j, j ≠ 17 → g74 j = g65 j := fun j hj => by rw [hg75]; exact if_neg hj
  rw [← hg75] at hx72
  rw [← hg75] at hb73
  have hk78 : g74 16 = g65 16 := hk77 16 (by omega)
  refine xg_t (xg_aload (va := (2, 82)) rfl rfl) ?_
  refine xg_t (xg_const) ?_
  refine xg_putZ (fl1 := [(2, 83), (2, 84), (0, 1), (0, f82_3), (0, u40), (0, 0), (0, f82_9), (0, f82_11), (0, f82_13), (0, f82_15), (0, 0), (2, 85), (2, 86), (2, 87), (0, f82_19), (2, 88), (2, 89), (2, 90), (2, 91), (2, 92), (2, 93), (2, 94), (4, f82_21), (4, f82_22), (0, f82_23), (2, 95), (2, 96), (2, 97), (2, 98), (2, 99), (2, 100), (2, 101), (2, 102), (0, f82_25), (2, 103), (2, 104), (2, 105), (2, 106), (2, 107), (2, 108), (2, 109), (0, f82_27), (0, f82_29), (2, 110), (2, 111), (2, 112), (2, 113)]) (hb71.get (by decide) (hb62.get (by decide) hk58)) rfl rfl rfl (fun w79 hk80 hb81 => ?_)
  refine xg_t (xg_aload (va := (2, 82)) rfl rfl) ?_
  refine xg_t (xg_const) ?_
  refine xg_putI (fl1 := [(2, 83), (2, 84), (0, 1), (0, f82_3), (0, u40), (0, 0), (0, f82_9), (0, f82_11), (0, f82_13), (0, f82_15), (0, 0), (2, 85), (2, 86), (2, 87), (0, 0), (2, 88), (2, 89), (2, 90), (2, 91), (2, 92), (2, 93), (2, 94), (4, f82_21), (4, f82_22), (0, f82_23), (2, 95), (2, 96), (2, 97), (2, 98), (2, 99), (2, 100), (2, 101), (2, 102), (0, f82_25), (2, 103), (2, 104), (2, 105), (2, 106), (2, 107), (2, 108), (2, 109), (0, f82_27), (0, f82_29), (2, 110), (2, 111), (2, 112), (2, 113)]) hk80 rfl rfl rfl (fun w82 hk83 hb84 => ?_)
  have hf85 : fld w82 82 4 = u40 := fld_of hk83
  have hf86 : fld w82 82 5 = 0 := fld_of hk83
  have hf87 : fld w82 82 7 = f82_11 := fld_of hk83
  have hf88 : fld w82 82 10 = 0 := fld_of hk83
  have hf89 : fld w82 82 14 = 0 := fld_of hk83
  have hu90 : mu w82 = 2 * (fld w82 82 4 - fld w82 82 5) + min 1 (fld w82 82 7) := rfl
  have hA91 : FA w82 = g74 16 := rwv_of ((hr70.but hb81 (by decide)).but hb84 (by decide)) (by decide)
  exact xg_e ⟨w82, ⟨rfl, rfl⟩, xMnv.up (S := [82, 83]) hI ((((((((xFr.of (S := [82, 83]) hb39 (by decide)).tr (xFr.of (S := [82, 83]) hb46 (by decide))).tr (xFr.of (S := [82, 83]) hb49 (by decide))).tr (xFr.of (S := [82, 83]) hb59 (by decide))).tr (xFr.of (S := [82, 83]) hb62 (by decide))).tr (xFr.of (S := [82, 83]) hb71 (by decide))).tr (xFr.of (S := [82, 83]) hb81 (by decide))).tr (xFr.of (S := [82, 83]) hb84 (by decide))) (List.forall_mem_cons.mpr ⟨xqu82 (show cp82 (wget w82 82) from xmC82 1 f82_3 u40 0 f82_9 f82_11 f82_13 f82_15 0 0 f82_21 f82_22 f82_23 f82_25 f82_27 f82_29 hk83 (by decide) hb4 (by omega) (by decide) hb10 hb12 hb14 hb16 (by decide) (by decide) hb24 hb26 hb28 hb30 (by omega)), List.forall_mem_cons.mpr ⟨xqu83 (show cpx83 (wget w82 83) from ⟨_, ((hr70.but hb81 (by decide)).but hb84 (by decide)), hb73, hx72⟩), fun _ h => absurd h List.not_mem_nil⟩⟩), ((((((((xFr.of (S := [82, 83]) hb39 (by decide)).tr (xFr.of (S := [82, 83]) hb46 (by decide))).tr (xFr.of (S := [82, 83]) hb49 (by decide))).tr (xFr.of (S := [82, 83]) hb59 (by decide))).tr (xFr.of (S := [82, 83]) hb62 (by decide))).tr (xFr.of (S := [82, 83]) hb71 (by decide))).tr (xFr.of (S := [82, 83]) hb81 (by decide))).tr (xFr.of (S := [82, 83]) hb84 (by decide))), ⟨by omega, by omega, by omega, by omega, ⟨(rwv_of ((hr70.but hb81 (by decide)).but hb84 (by decide)) (by decide)).trans (by rw [hk77 15 (by decide), hk68 15 (by decide), he54]), fun j a b c d => (rwv_of ((hr70.but hb81 (by decide)).but hb84 (by decide)) a).trans (Eq.trans (by rw [hk77 j (by omega), hk68 j (by omega), hk55 j (by omega)]) (rwv_of h83_34 a).symm)⟩⟩⟩
set_option maxHeartbeats 60000000 in
theorem mFilm (hI : xMnv w)  : xPi (d + 8) mX12_film [(2, 82)] w bd fc rr (fun n w' => (n ≤ 4294967295 ∧ rwv w' 83 15 = 0 ∧ ∀ j, (140 ≤ j ∨ j = 11 ∨ j = 12 ∨ j = 13) → j < 5360 → rwv w' 83 j = rwv w 83 j) ∧ xMnv w' ∧ xFr [82, 83, 85, 86, 87] w w') := by
  refine xPi.of ?_
  show xTo (d + 8) mX12_film (0, [], [(0, (2, 82))], [], (w, bd, fc, 0, 0, rr)) (fun φ => ∃ n w', xEnd 1 [(0, n)] (w', bd, fc, 0, 0, rr) φ ∧ (n ≤ 4294967295 ∧ rwv w' 83 15 = 0 ∧ ∀ j, (140 ≤ j ∨ j = 11 ∨ j = 12 ∨ j = 13) → j < 5360 → rwv w' 83 j = rwv w 83 j) ∧ xMnv w' ∧ xFr [82, 83, 85, 86, 87] w w')
  refine xoCh82 (xqc82 hI : cp82 (wget w 82)) (fun f82_1 f82_3 f82_5 f82_7 f82_9 f82_11 f82_13 f82_15 f82_17 f82_19 f82_21 f82_22 f82_23 f82_25 f82_27 f82_29 h82_31 hb2 hb4 hb6 hb8 hb10 hb12 hb14 hb16 hb18 hb20 hb24 hb26 hb28 hb30 hb32 => ?_)
  refine xg_t (xg_blq rfl) ?_
  refine xg_t (xg_aload (va := (2, 82)) rfl rfl) ?_
  refine xg_t (xg_const) ?_
  refine xg_cVv mX12_begins (vs := [(0, 0)]) (rest := []) (cn1 := 0) (sl1 := 0) rfl (mBegins0 (hI)) rfl h82_31 rfl rfl rfl rfl rfl rfl (fun w33 hq34 => ?_)
  obtain ⟨hI35, hF36, hx37⟩ := hq34
  obtain ⟨hg38, hg39, hg40, hg41, hg42⟩ := hx37
  refine xg_t (xg_const) ?_
  refine xg_t (xg_istore (l1 := [(0, (2, 82))]) rfl rfl rfl) ?_
  refine xg_t (xg_drop (l1 := [(0, (2, 82)), (1, (0, 0))]) (List.forall_mem_cons.mpr ⟨List.mem_cons_of_mem _ (List.mem_cons_self), List.forall_mem_cons.mpr ⟨List.mem_cons_self, fun _ h => absurd h List.not_mem_nil⟩⟩)) ?_
  have key43 : ∀ (m45 : Nat) (ki : Nat) (w46 : List (List xE)), 7 - ki < m45 → ki ≤ 7 → xMnv w46 → xFr [82, 83, 85, 86, 87] w w46 → ((∀ s, s < ki → rwv w46 85 s = 0) ∧ FA w46 = 0 ∧ fld w46 82 10 = 0 ∧ fld w46 82 14 = 0 ∧ mu w46 ≤ 1001 ∧ K15 w w46) → xTo (d + 8) mX12_film (7, [], [(0, (2, 82)), (1, (0, ki))], [], (w46, bd, fc, 0, 0, rr)) (fun φ => ∃ n w', xEnd 1 [(0, n)] (w', bd, fc, 0, 0, rr) φ ∧ (n ≤ 4294967295 ∧ rwv w' 83 15 = 0 ∧ ∀ j, (140 ≤ j ∨ j = 11 ∨ j = 12 ∨ j = 13) → j < 5360 → rwv w' 83 j = rwv w 83 j) ∧ xMnv w' ∧ xFr [82, 83, 85, 86, 87] w w') := by
    intro m45
    induction m45 with
    | zero => intro ki w46 hz; exact absurd hz (Nat.not_lt_zero _)
    | succ m45 ih44 =>
      intro ki w46 hm51 hn49 hI47 hF48 he50
      obtain ⟨hz52, hz53, hz54, hz55, hz56, hz57⟩ := he50
      refine xoI (xqc85 hI47 : cpI 7 52 4294967295 (wget w46 85)) (fun g85_58 h85_59 hb60 => ?_)
      refine xg_t (xg_blq rfl) ?_
      refine xg_t (xg_iload (va := (0, ki)) rfl rfl) ?_
      refine xg_t (xg_bip) ?_
      by_cases hc61 : ki < 7
      · refine xg_t (xg_icF (u := ki) (v := 7) rfl xnm0 xnm0 (xj_geF hc61 (by omega))) ?_
        refine xg_t (xg_aload (va := (2, 82)) rfl rfl) ?_
        refine xoCh82 (xqc82 hI47 : cp82 (wget w46 82)) (fun f82_62 f82_64 f82_66 f82_68 f82_70 f82_72 f82_74 f82_76 f82_78 f82_80 f82_82 f82_83 f82_84 f82_86 f82_88 f82_90 h82_92 hb63 hb65 hb67 hb69 hb71 hb73 hb75 hb77 hb79 hb81 hb85 hb87 hb89 hb91 hb93 => ?_)
        refine xg_t (xg_getf (va := (2, 85)) h82_92 rfl) ?_
        refine xg_t (xg_iload (va := (0, ki)) rfl rfl) ?_
        refine xg_t (xg_const) ?_
        refine xg_iastK (n := ki) (u := 0) h85_59 xnm0 xnm0 rfl (by omega) (fun w94 hr95 hb96 => ?_)
        refine xg_t (xg_iinc (u := ki) (z := ki + 1) (l1 := [(0, (2, 82))]) rfl rfl (by omega) rfl) ?_
        refine xg_t (xg_goto) ?_
        refine xg_t (xg_drop (l1 := [(0, (2, 82)), (1, (0, ki + 1))]) (List.forall_mem_cons.mpr ⟨List.mem_cons_of_mem _ (List.mem_cons_self), List.forall_mem_cons.mpr ⟨List.mem_cons_self, fun _ h => absurd h List.not_mem_nil⟩⟩)) ?_
        have hF97 : xFr [85] w46 w94 := xFr.of hb96 (by decide)
        exact ih44 (ki + 1) w94 (by omega) (by omega) (xMnv.up (S := [85]) hI47 (xFr.of (S := [85]) hb96 (by decide)) (List.forall_mem_cons.mpr ⟨xqu85 (show cpI 7 52 4294967295 (wget w94 85) from ⟨_, hr95, xrb (by omega) (hb60)⟩), fun _ h => absurd h List.not_mem_nil⟩)) ((hF48.tr (xFr.of (S := [82, 83, 85, 86, 87]) hb96 (by decide)))) (⟨fun s hs => (rwv_of hr95 (by omega)).trans (by by_cases z : s = ki; exact if_pos z; exact (if_neg z).trans ((rwv_of h85_59 (by omega)).symm.trans (hz52 s (by omega)))), (FA_fr hF97 (by decide)).trans hz53, (fld_fr hF97 (by decide)).trans hz54, (fld_fr hF97 (by decide)).trans hz55, by rw [mu_fr hF97 (by decide)]; exact hz56, hz57.k (K83.fr hF97 (by decide))⟩)
      · refine xg_t (xg_icT (u := ki) (v := 7) rfl xnm0 xnm0 (xj_geT (by omega) (by omega))) ?_
        refine xg_t (xg_blq rfl) ?_
        refine xg_t (xg_aload (va := (2, 82)) rfl rfl) ?_
        refine xoCh82 (xqc82 hI47 : cp82 (wget w46 82)) (fun f82_98 f82_100 f82_102 f82_104 f82_106 f82_108 f82_110 f82_112 f82_114 f82_116 f82_118 f82_119 f82_120 f82_122 f82_124 f82_126 h82_128 hb99 hb101 hb103 hb105 hb107 hb109 hb111 hb113 hb115 hb117 hb121 hb123 hb125 hb127 hb129 => ?_)
        refine xg_t (xg_getf (va := (2, 86)) h82_128 rfl) ?_
        refine xg_t (xg_const) ?_
        refine xg_t (xg_const) ?_
        refine xoI (xqc86 hI47 : cpI 140 53 4294967295 (wget w46 86)) (fun g86_130 h86_131 hb132 => ?_)
        refine xg_iastK (n := 5) (u := 1) h86_131 xnm0 xnm0 rfl (by first | decide | omega) (fun w133 hr134 hb135 => ?_)
        refine xg_t (xg_aload (va := (2, 82)) rfl rfl) ?_
        refine xg_t (xg_getf (va := (2, 86)) (hb135.get (by decide) h82_128) rfl) ?_
        refine xg_t (xg_bip) ?_
        refine xg_t (xg_const) ?_
        refine xg_iastK (n := 6) (u := 1) hr134 xnm0 xnm0 rfl (by first | decide | omega) (fun w136 hr137 hb138 => ?_)
        refine xg_t (xg_aload (va := (2, 82)) rfl rfl) ?_
        refine xg_t (xg_getf (va := (2, 86)) (hb138.get (by decide) (hb135.get (by decide) h82_128)) rfl) ?_
        refine xg_t (xg_bip) ?_
        refine xg_t (xg_const) ?_
        refine xg_iastK (n := 7) (u := 1) hr137 xnm0 xnm0 rfl (by first | decide | omega) (fun w139 hr140 hb141 => ?_)
        refine xg_t (xg_aload (va := (2, 82)) rfl rfl) ?_
        refine xg_t (xg_getf (va := (2, 86)) (hb141.get (by decide) (hb138.get (by decide) (hb135.get (by decide) h82_128))) rfl) ?_
        refine xg_t (xg_bip) ?_
        refine xg_t (xg_const) ?_
        refine xg_iastK (n := 8) (u := 1) hr140 xnm0 xnm0 rfl (by first | decide | omega) (fun w142 hr143 hb144 => ?_)
        refine xg_t (xg_aload (va := (2, 82)) rfl rfl) ?_
        have hF145 : xFr [86] w46 w142 := ((((xFr.of (S := [86]) hb135 (by decide)).tr (xFr.of (S := [86]) hb138 (by decide))).tr (xFr.of (S := [86]) hb141 (by decide))).tr (xFr.of (S := [86]) hb144 (by decide)))
        have he146 : rwv w142 85 0 = 0 := (rwv_fr hF145 (by decide)).trans (hz52 0 (by omega))
        have he147 : rwv w142 85 1 = 0 := (rwv_fr hF145 (by decide)).trans (hz52 1 (by omega))
        have he148 : rwv w142 85 2 = 0 := (rwv_fr hF145 (by decide)).trans (hz52 2 (by omega))
        have he149 : rwv w142 85 3 = 0 := (rwv_fr hF145 (by decide)).trans (hz52 3 (by omega))
        have he150 : rwv w142 85 4 = 0 := (rwv_fr hF145 (by decide)).trans (hz52 4 (by omega))
        have he151 : rwv w142 85 5 = 0 := (rwv_fr hF145 (by decide)).trans (hz52 5 (by omega))
        have he152 : rwv w142 85 6 = 0 := (rwv_fr hF145 (by decide)).trans (hz52 6 (by omega))
        have he153 : rwv w142 86 5 = 1 := rwv_of hr143 (by decide)
        have he154 : rwv w142 86 6 = 1 := rwv_of hr143 (by decide)
        have he155 : rwv w142 86 7 = 1 := rwv_of hr143 (by decide)
        have he156 : rwv w142 86 8 = 1 := rwv_of hr143 (by decide)
        have hD157 : DATA w142 := ⟨by omega, by omega, by omega, by omega, by omega, by omega, by omega, by omega, by omega, fun k i hk hi => by omega, fun k hk => by omega⟩
        have hf158 := FA_fr hF145 (by decide)
        have hf159 := fld_fr (c := 82) (j := 10) hF145 (by decide)
        have hf160 := fld_fr (c := 82) (j := 14) hF145 (by decide)
        have hf161 := mu_fr hF145 (by decide)
        have kk162 := hz57.k (K83.fr hF145 (by decide))
        refine xg_cVv mX12_advance (vs := []) (rest := []) (cn1 := 0) (sl1 := 0) rfl (mAdvance (xMnv.up (S := [86]) hI47 ((((xFr.of (S := [86]) hb135 (by decide)).tr (xFr.of (S := [86]) hb138 (by decide))).tr (xFr.of (S := [86]) hb141 (by decide))).tr (xFr.of (S := [86]) hb144 (by decide))) (List.forall_mem_cons.mpr ⟨xqu86 (show cpI 140 53 4294967295 (wget w142 86) from ⟨_, hr143, xrb (by omega) (xrb (by omega) (xrb (by omega) (xrb (by omega) (hb132))))⟩), fun _ h => absurd h List.not_mem_nil⟩))) rfl (hb144.get (by decide) (hb141.get (by decide) (hb138.get (by decide) (hb135.get (by decide) h82_128)))) rfl rfl rfl rfl rfl rfl (fun w163 hq164 => ?_)
        obtain ⟨hI165, hF166, hx167⟩ := hq164
        obtain ⟨hv168, hv169, hv170, hv171⟩ := hx167
        have hf172 := FA_fr hF166 (by decide)
        have hD173 := hD157.fr hF166 (by decide) (by decide)
        have hM174 : ∀ s, s < 7 → rwv w163 85 s ≤ fld w163 82 14 := fun s hs => by
          rw [rwv_fr hF166 (by decide)]
          rcases (show s = 0 ∨ s = 1 ∨ s = 2 ∨ s = 3 ∨ s = 4 ∨ s = 5 ∨ s = 6 by omega) with rfl | rfl | rfl | rfl | rfl | rfl | rfl <;> omega
        have kk175 := kk162.k (K83.fr hF166 (by decide))
        refine xg_t (xg_drop (l1 := [(0, (2, 82))]) (List.forall_mem_cons.mpr ⟨List.mem_cons_self, fun _ h => absurd h List.not_mem_nil⟩)) ?_
        have key176 : ∀ (m178 : Nat) (w179 : List (List xE)), 2 * mu w179 + (1 - fld w179 82 10) < m178 → xMnv w179 → xFr [82, 83, 85, 86, 87] w w179 → (PS w179 ∧ fld w179 82 14 + mu w179 ≤ 1001 ∧ (∀ s, s < 7 → rwv w179 85 s ≤ fld w179 82 14) ∧ (FA w179 ≠ 0 ∨ DATA w179) ∧ K15 w w179) → xTo (d + 8) mX12_film (61, [], [(0, (2, 82))], [], (w179, bd, fc, 0, 0, rr)) (fun φ => ∃ n w', xEnd 1 [(0, n)] (w', bd, fc, 0, 0, rr) φ ∧ (n ≤ 4294967295 ∧ rwv w' 83 15 = 0 ∧ ∀ j, (140 ≤ j ∨ j = 11 ∨ j = 12 ∨ j = 13) → j < 5360 → rwv w' 83 j = rwv w 83 j) ∧ xMnv w' ∧ xFr [82, 83, 85, 86, 87] w w') := by
          intro m178
          induction m178 with
          | zero => intro w179 hz; exact absurd hz (Nat.not_lt_zero _)
          | succ m178 ih177 =>
            intro w179 hm183 hI180 hF181 he182
            obtain ⟨hz184, hz185, hz186, hz187, hz188⟩ := he182
            unfold PS at hz184
            refine xoCh82 (xqc82 hI180 : cp82 (wget w179 82)) (fun f82_189 f82_191 f82_193 f82_195 f82_197 f82_199 f82_201 f82_203 f82_205 f82_207 f82_209 f82_210 f82_211 f82_213 f82_215 f82_217 h82_219 hb190 hb192 hb194 hb196 hb198 hb200 hb202 hb204 hb206 hb208 hb212 hb214 hb216 hb218 hb220 => ?_)
            have hf221 : fld w179 82 4 = f82_193 := fld_of h82_219
            have hf222 : fld w179 82 5 = f82_195 := fld_of h82_219
            have hf223 : fld w179 82 7 = f82_199 := fld_of h82_219
            have hf224 : fld w179 82 10 = f82_205 := fld_of h82_219
            have hf225 : fld w179 82 14 = f82_207 := fld_of h82_219
            have hu226 : mu w179 = 2 * (fld w179 82 4 - fld w179 82 5) + min 1 (fld w179 82 7) := rfl
            refine xg_t (xg_blq rfl) ?_
            refine xg_t (xg_aload (va := (2, 82)) rfl rfl) ?_
            refine xg_t (xg_getf (va := (0, f82_205)) h82_219 rfl) ?_
            by_cases hc227 : f82_205 = 0
            · refine xg_t (xg_ifF (u := f82_205) rfl xnm0 (xj_neF hc227)) ?_
              refine xg_t (xg_aload (va := (2, 82)) rfl rfl) ?_
              refine xg_t (xg_getf (va := (0, f82_199)) h82_219 rfl) ?_
              by_cases hc228 : f82_199 = 0
              · refine xg_t (xg_ifT (u := f82_199) rfl xnm0 (xj_eqT hc228)) ?_
                refine xg_t (xg_blq rfl) ?_
                refine xg_t (xg_const) ?_
                refine xg_t (xg_istore (l1 := [(0, (2, 82))]) rfl rfl rfl) ?_
                refine xg_t (xg_drop (l1 := [(0, (2, 82)), (1, (0, 0))]) (List.forall_mem_cons.mpr ⟨List.mem_cons_of_mem _ (List.mem_cons_self), List.forall_mem_cons.mpr ⟨List.mem_cons_self, fun _ h => absurd h List.not_mem_nil⟩⟩)) ?_
                have key229 : ∀ (m231 : Nat) (kf : Nat) (w232 : List (List xE)), 20 - kf < m231 → kf ≤ 20 → xMnv w232 → xFr [82, 83, 85, 86, 87] w w232 → (PS w232 ∧ (FA w232 ≠ 0 ∨ DATA w232) ∧ K15 w w232) → xTo (d + 8) mX12_film (84, [], [(0, (2, 82)), (1, (0, kf))], [], (w232, bd, fc, 0, 0, rr)) (fun φ => ∃ n w', xEnd 1 [(0, n)] (w', bd, fc, 0, 0, rr) φ ∧ (n ≤ 4294967295 ∧ rwv w' 83 15 = 0 ∧ ∀ j, (140 ≤ j ∨ j = 11 ∨ j = 12 ∨ j = 13) → j < 5360 → rwv w' 83 j = rwv w 83 j) ∧ xMnv w' ∧ xFr [82, 83, 85, 86, 87] w w') := by
                  intro m231
                  induction m231 with
                  | zero => intro kf w232 hz; exact absurd hz (Nat.not_lt_zero _)
                  | succ m231 ih230 =>
                    intro kf w232 hm237 hn235 hI233 hF234 he236
                    obtain ⟨hz238, hz239, hz240⟩ := he236
                    unfold PS at hz238
                    refine xoCh82 (xqc82 hI233 : cp82 (wget w232 82)) (fun f82_241 f82_243 f82_245 f82_247 f82_249 f82_251 f82_253 f82_255 f82_257 f82_259 f82_261 f82_262 f82_263 f82_265 f82_267 f82_269 h82_271 hb242 hb244 hb246 hb248 hb250 hb252 hb254 hb256 hb258 hb260 hb264 hb266 hb268 hb270 hb272 => ?_)
                    refine xoX83 (xqc83 hI233 : cpx83 (wget w232 83)) (fun g83_273 h83_274 hb275 hx276 => ?_)
                    have hf277 : fld w232 82 10 = f82_257 := fld_of h82_271
                    have hA278 : FA w232 = g83_273 16 := rwv_of h83_274 (by decide)
                    refine xoI (xqc85 hI233 : cpI 7 52 4294967295 (wget w232 85)) (fun g85_279 h85_280 hb281 => ?_)
                    refine xoI (xqc86 hI233 : cpI 140 53 4294967295 (wget w232 86)) (fun g86_282 h86_283 hb284 => ?_)
                    refine xoI (xqc87 hI233 : cpI 20 54 4294967295 (wget w232 87)) (fun g87_285 h87_286 hb287 => ?_)
                    have hm288 : rwv w232 85 4 = g85_279 4 := rwv_of h85_280 (by decide)
                    refine xg_t (xg_blq rfl) ?_
                    refine xg_t (xg_iload (va := (0, kf)) rfl rfl) ?_
                    refine xg_t (xg_aload (va := (2, 82)) rfl rfl) ?_
                    refine xg_t (xg_getf (va := (2, 85)) h82_271 rfl) ?_
                    refine xg_t (xg_const) ?_
                    refine xg_ialdB (n := 4) (B := 4294967295) h85_280 (hb281) xnm0 (by first | decide | omega) (fun u289 hu290 he291 => ?_)
                    by_cases hc292 : xbs kf < xbs u289
                    · have hc292u := hc292
                      unfold xbs at hc292u
                      have hn293 : kf ≤ 20 := by omega
                      have hn294 : u289 ≤ 2147483647 := by omega
                      refine xg_t (xg_icF (u := kf) (v := u289) rfl xnm0 xnm0 (xjs_geF hc292)) ?_
                      refine xg_t (xg_aload (va := (2, 82)) rfl rfl) ?_
                      refine xg_t (xg_getf (va := (2, 83)) h82_271 rfl) ?_
                      refine xg_t (xg_bip) ?_
                      refine xg_ialdB (n := 16) (B := 4294967295) h83_274 (hb275) xnm0 (by first | decide | omega) (fun u295 hu296 he297 => ?_)
                      by_cases hc298 : u295 = 0
                      · refine xg_t (xg_ifF (u := u295) rfl xnm0 (xj_neF hc298)) ?_
                        refine xg_t (xg_aload (va := (2, 82)) rfl rfl) ?_
                        have hD299 := (hz239.resolve_left (by omega)).2.2.2.2.1
                        have hl300 : kf ≤ 19 := by omega
                        refine xg_t (xg_getf (va := (2, 86)) h82_271 rfl) ?_
                        refine xg_t (xg_bip) ?_
                        refine xg_t (xg_const) ?_
                        refine xg_t (xg_iload (va := (0, kf)) rfl rfl) ?_
                        refine xg_t (xg_imul (u := 2) (v := kf) (z := 2 * kf) xnm0 xnm0 (by omega)) ?_
                        refine xg_t (xg_iadd (u := 100) (v := 2 * kf) (z := 100 + (2 * kf)) xnm0 xnm0 (by omega)) ?_
                        refine xg_ialdB (n := 100 + (2 * kf)) (B := 4294967295) h86_283 (hb284) xnm0 (by omega) (fun u301 hu302 he303 => ?_)
                        refine xg_t (xg_aload (va := (2, 82)) rfl rfl) ?_
                        refine xg_t (xg_getf (va := (2, 86)) h82_271 rfl) ?_
                        refine xg_t (xg_bip) ?_
                        refine xg_ialdB (n := 7) (B := 4294967295) h86_283 (hb284) xnm0 (by first | decide | omega) (fun u304 hu305 he306 => ?_)
                        by_cases hc307 : xbs u301 < xbs u304
                        · have hc307u := hc307
                          unfold xbs at hc307u
                          refine xg_t (xg_icF (u := u301) (v := u304) rfl xnm0 xnm0 (xjs_geF hc307)) ?_
                          refine xg_t (xg_aload (va := (2, 82)) rfl rfl) ?_
                          refine xg_t (xg_getf (va := (2, 86)) h82_271 rfl) ?_
                          refine xg_t (xg_bip) ?_
                          refine xg_t (xg_const) ?_
                          refine xg_t (xg_iload (va := (0, kf)) rfl rfl) ?_
                          refine xg_t (xg_imul (u := 2) (v := kf) (z := 2 * kf) xnm0 xnm0 (by omega)) ?_
                          refine xg_t (xg_iadd (u := 100) (v := 2 * kf) (z := 100 + (2 * kf)) xnm0 xnm0 (by omega)) ?_
                          refine xg_t (xg_const) ?_
                          refine xg_t (xg_iadd (u := 100 + (2 * kf)) (v := 1) (z := (100 + (2 * kf)) + 1) xnm0 xnm0 (by omega)) ?_
                          refine xg_ialdB (n := (100 + (2 * kf)) + 1) (B := 4294967295) h86_283 (hb284) xnm0 (by omega) (fun u308 hu309 he310 => ?_)
                          refine xg_t (xg_aload (va := (2, 82)) rfl rfl) ?_
                          refine xg_t (xg_getf (va := (2, 86)) h82_271 rfl) ?_
                          refine xg_t (xg_bip) ?_
                          refine xg_ialdB (n := 8) (B := 4294967295) h86_283 (hb284) xnm0 (by first | decide | omega) (fun u311 hu312 he313 => ?_)
                          by_cases hc314 : xbs u308 < xbs u311
                          · have hc314u := hc314
                            unfold xbs at hc314u
                            refine xg_t (xg_icT (u := u308) (v := u311) rfl xnm0 xnm0 (xjs_ltT hc314)) ?_
                            refine xg_t (xg_blq rfl) ?_
                            refine xg_t (xg_iinc (u := kf) (z := kf + 1) (l1 := [(0, (2, 82))]) rfl rfl (by omega) rfl) ?_
                            refine xg_t (xg_goto) ?_
                            refine xg_t (xg_drop (l1 := [(0, (2, 82)), (1, (0, kf + 1))]) (List.forall_mem_cons.mpr ⟨List.mem_cons_of_mem _ (List.mem_cons_self), List.forall_mem_cons.mpr ⟨List.mem_cons_self, fun _ h => absurd h List.not_mem_nil⟩⟩)) ?_
                            exact ih230 (kf + 1) w232 (by omega) (by omega) (hI233) (hF234) (⟨(show fld w232 82 10 = 0 ∨ FA w232 ≠ 0 by omega), hz239, hz240.k K83.rf⟩)
                          · have hc314u := hc314
                            unfold xbs at hc314u
                            refine xg_t (xg_icF (u := u308) (v := u311) rfl xnm0 xnm0 (xjs_ltF hc314)) ?_
                            refine xg_t (xg_blq rfl) ?_
                            refine xg_t (xg_aload (va := (2, 82)) rfl rfl) ?_
                            refine xg_t (xg_const) ?_
                            refine xg_t (xg_aload (va := (2, 82)) rfl rfl) ?_
                            refine xg_t (xg_getf (va := (2, 87)) h82_271 rfl) ?_
                            refine xg_t (xg_iload (va := (0, kf)) rfl rfl) ?_
                            refine xg_ialdB (n := kf) (B := 4294967295) h87_286 (hb287) xnm0 (by omega) (fun u315 hu316 he317 => ?_)
                            refine xg_cVv mX12_also (vs := [(0, 4), (0, u315)]) (rest := []) (cn1 := 0) (sl1 := 0) rfl (mAlso (hI233) (by omega) (by omega) (by omega) (show fld w232 82 10 = 0 ∨ FA w232 ≠ 0 by omega)) rfl h82_271 rfl rfl rfl rfl rfl rfl (fun w318 hq319 => ?_)
                            obtain ⟨hI320, hF321, hx322⟩ := hq319
                            obtain ⟨hv323, hv324⟩ := hx322
                            have hf325 := fld_fr (c := 82) (j := 7) hF321 (by decide)
                            have hf326 := fld_fr (c := 82) (j := 10) hF321 (by decide)
                            have hf327 := fld_fr (c := 82) (j := 14) hF321 (by decide)
                            have hf328 := mu_fr hF321 (by decide)
                            refine xg_t (xg_blq rfl) ?_
                            refine xg_t (xg_iinc (u := kf) (z := kf + 1) (l1 := [(0, (2, 82))]) rfl rfl (by omega) rfl) ?_
                            refine xg_t (xg_goto) ?_
                            refine xg_t (xg_drop (l1 := [(0, (2, 82)), (1, (0, kf + 1))]) (List.forall_mem_cons.mpr ⟨List.mem_cons_of_mem _ (List.mem_cons_self), List.forall_mem_cons.mpr ⟨List.mem_cons_self, fun _ h => absurd h List.not_mem_nil⟩⟩)) ?_
                            exact ih230 (kf + 1) w318 (by omega) (by omega) (hI320) ((hF234.tr (hF321.up (by decide)))) (⟨(show fld w318 82 10 = 0 ∨ FA w318 ≠ 0 by omega), Or.inl (by omega), hz240.k hv324⟩)
                        · have hc307u := hc307
                          unfold xbs at hc307u
                          refine xg_t (xg_icT (u := u301) (v := u304) rfl xnm0 xnm0 (xjs_geT hc307)) ?_
                          refine xg_t (xg_blq rfl) ?_
                          refine xg_t (xg_aload (va := (2, 82)) rfl rfl) ?_
                          refine xg_t (xg_const) ?_
                          refine xg_t (xg_aload (va := (2, 82)) rfl rfl) ?_
                          refine xg_t (xg_getf (va := (2, 87)) h82_271 rfl) ?_
                          refine xg_t (xg_iload (va := (0, kf)) rfl rfl) ?_
                          refine xg_ialdB (n := kf) (B := 4294967295) h87_286 (hb287) xnm0 (by omega) (fun u329 hu330 he331 => ?_)
                          refine xg_cVv mX12_also (vs := [(0, 4), (0, u329)]) (rest := []) (cn1 := 0) (sl1 := 0) rfl (mAlso (hI233) (by omega) (by omega) (by omega) (show fld w232 82 10 = 0 ∨ FA w232 ≠ 0 by omega)) rfl h82_271 rfl rfl rfl rfl rfl rfl (fun w332 hq333 => ?_)
                          obtain ⟨hI334, hF335, hx336⟩ := hq333
                          obtain ⟨hv337, hv338⟩ := hx336
                          have hf339 := fld_fr (c := 82) (j := 7) hF335 (by decide)
                          have hf340 := fld_fr (c := 82) (j := 10) hF335 (by decide)
                          have hf341 := fld_fr (c := 82) (j := 14) hF335 (by decide)
                          have hf342 := mu_fr hF335 (by decide)
                          refine xg_t (xg_blq rfl) ?_
                          refine xg_t (xg_iinc (u := kf) (z := kf + 1) (l1 := [(0, (2, 82))]) rfl rfl (by omega) rfl) ?_
                          refine xg_t (xg_goto) ?_
                          refine xg_t (xg_drop (l1 := [(0, (2, 82)), (1, (0, kf + 1))]) (List.forall_mem_cons.mpr ⟨List.mem_cons_of_mem _ (List.mem_cons_self), List.forall_mem_cons.mpr ⟨List.mem_cons_self, fun _ h => absurd h List.not_mem_nil⟩⟩)) ?_
                          exact ih230 (kf + 1) w332 (by omega) (by omega) (hI334) ((hF234.tr (hF335.up (by decide)))) (⟨(show fld w332 82 10 = 0 ∨ FA w332 ≠ 0 by omega), Or.inl (by omega), hz240.k hv338⟩)
                      · refine xg_t (xg_ifT (u := u295) rfl xnm0 (xj_neT hc298)) ?_
                        refine xg_t (xg_blq rfl) ?_
                        refine xg_t (xg_aload (va := (2, 82)) rfl rfl) ?_
                        refine xg_t (xg_getf (va := (2, 83)) h82_271 rfl) ?_
                        refine xg_t (xg_bip) ?_
                        refine xg_ialdB (n := 16) (B := 4294967295) h83_274 (hb275) xnm0 (by first | decide | omega) (fun u343 hu344 he345 => ?_)
                        by_cases hc346 : u343 = 0
                        · refine xg_t (xg_ifT (u := u343) rfl xnm0 (xj_eqT hc346)) ?_
                          refine xg_t (xg_blq rfl) ?_
                          have hDD := hz239.resolve_left (by omega)
                          have hdt := hDD.toDt h85_280 h86_283
                          refine xg_t (xg_const) ?_
                          refine xg_t (xg_istore (l1 := [(0, (2, 82))]) rfl rfl rfl) ?_
                          refine xg_t (xg_blq rfl) ?_
                          refine xg_t (xg_iload (va := (0, 0)) rfl rfl) ?_
                          refine xg_t (xg_const) ?_
                          refine xg_t (xg_icF (u := 0) (v := 5) rfl xnm0 xnm0 (by decide)) ?_
                          refine xg_t (xg_aload (va := (2, 82)) rfl rfl) ?_
                          refine xg_t (xg_getf (va := (2, 83)) h82_271 rfl) ?_
                          refine xg_t (xg_iload (va := (0, 0)) rfl rfl) ?_
                          refine xg_t (xg_aload (va := (2, 82)) rfl rfl) ?_
                          refine xg_t (xg_getf (va := (2, 85)) h82_271 rfl) ?_
                          refine xg_t (xg_iload (va := (0, 0)) rfl rfl) ?_
                          refine xg_ialdB (n := 0) (B := 4294967295) h85_280 (hb281) xnm0 (by first | decide | omega) (fun u347 hu348 he349 => ?_)
                          refine xg_iastK (n := 0) (u := u347) h83_274 xnm0 xnm0 rfl (by first | decide | omega) (fun w350 hr351 hb352 => ?_)
                          have hb353 : ∀ j, (fun j => if j = 0 then u347 else g83_273 j) j ≤ 4294967295 := xrb (by omega) (hb275)
                          obtain ⟨g354, hg355⟩ : ∃ g : Nat → Nat, g = (fun j => if j = 0 then u347 else g83_273 j) := ⟨_, rfl⟩
                          rw [← hg355] at hr351
                          have he356 : g354 0 = u347 := by rw [hg355]; exact if_pos rfl
                          have hk357 : ∀ j, j ≠ 0 → g354 j = g83_273 j := fun j hj => by rw [hg355]; exact if_neg hj
                          rw [← hg355] at hb353
                          refine xg_t (xg_iinc (u := 0) (z := 1) (l1 := [(0, (2, 82))]) rfl rfl (by decide) rfl) ?_
                          refine xg_t (xg_goto) ?_
                          refine xg_t (xg_blq rfl) ?_
                          refine xg_t (xg_iload (va := (0, 1)) rfl rfl) ?_
                          refine xg_t (xg_const) ?_
                          refine xg_t (xg_icF (u := 1) (v := 5) rfl xnm0 xnm0 (by decide)) ?_
                          refine xg_t (xg_aload (va := (2, 82)) rfl rfl) ?_
                          refine xg_t (xg_getf (va := (2, 83)) (hb352.get (by decide) h82_271) rfl) ?_
                          refine xg_t (xg_iload (va := (0, 1)) rfl rfl) ?_
                          refine xg_t (xg_aload (va := (2, 82)) rfl rfl) ?_
                          refine xg_t (xg_getf (va := (2, 85)) (hb352.get (by decide) h82_271) rfl) ?_
                          refine xg_t (xg_iload (va := (0, 1)) rfl rfl) ?_
                          refine xg_ialdB (n := 1) (B := 4294967295) (h85_280.but hb352 (by decide)) (hb281) xnm0 (by first | decide | omega) (fun u358 hu359 he360 => ?_)
                          refine xg_iastK (n := 1) (u := u358) hr351 xnm0 xnm0 rfl (by first | decide | omega) (fun w361 hr362 hb363 => ?_)
                          have hb364 : ∀ j, (fun j => if j = 1 then u358 else g354 j) j ≤ 4294967295 := xrb (by omega) (hb353)
                          obtain ⟨g365, hg366⟩ : ∃ g : Nat → Nat, g = (fun j => if j = 1 then u358 else g354 j) := ⟨_, rfl⟩
                          rw [← hg366] at hr362
                          have he367 : g365 1 = u358 := by rw [hg366]; exact if_pos rfl
                          have hk368 : ∀ j, j ≠ 1 → g365 j = g354 j := fun j hj => by rw [hg366]; exact if_neg hj
                          rw [← hg366] at hb364
                          refine xg_t (xg_iinc (u := 1) (z := 2) (l1 := [(0, (2, 82))]) rfl rfl (by decide) rfl) ?_
                          refine xg_t (xg_goto) ?_
                          refine xg_t (xg_blq rfl) ?_
                          refine xg_t (xg_iload (va := (0, 2)) rfl rfl) ?_
                          refine xg_t (xg_const) ?_
                          refine xg_t (xg_icF (u := 2) (v := 5) rfl xnm0 xnm0 (by decide)) ?_
                          refine xg_t (xg_aload (va := (2, 82)) rfl rfl) ?_
                          refine xg_t (xg_getf (va := (2, 83)) (hb363.get (by decide) (hb352.get (by decide) h82_271)) rfl) ?_
                          refine xg_t (xg_iload (va := (0, 2)) rfl rfl) ?_
                          refine xg_t (xg_aload (va := (2, 82)) rfl rfl) ?_
                          refine xg_t (xg_getf (va := (2, 85)) (hb363.get (by decide) (hb352.get (by decide) h82_271)) rfl) ?_
                          refine xg_t (xg_iload (va := (0, 2)) rfl rfl) ?_
                          refine xg_ialdB (n := 2) (B := 4294967295) ((h85_280.but hb352 (by decide)).but hb363 (by decide)) (hb281) xnm0 (by first | decide | omega) (fun u369 hu370 he371 => ?_)
                          refine xg_iastK (n := 2) (u := u369) hr362 xnm0 xnm0 rfl (by first | decide | omega) (fun w372 hr373 hb374 => ?_)
                          have hb375 : ∀ j, (fun j => if j = 2 then u369 else g365 j) j ≤ 4294967295 := xrb (by omega) (hb364)
                          obtain ⟨g376, hg377⟩ : ∃ g : Nat → Nat, g = (fun j => if j = 2 then u369 else g365 j) := ⟨_, rfl⟩
                          rw [← hg377] at hr373
                          have he378 : g376 2 = u369 := by rw [hg377]; exact if_pos rfl
                          have hk379 : ∀ j, j ≠ 2 → g376 j = g365 j := fun j hj => by rw [hg377]; exact if_neg hj
                          rw [← hg377] at hb375
                          refine xg_t (xg_iinc (u := 2) (z := 3) (l1 := [(0, (2, 82))]) rfl rfl (by decide) rfl) ?_
                          refine xg_t (xg_goto) ?_
                          refine xg_t (xg_blq rfl) ?_
                          refine xg_t (xg_iload (va := (0, 3)) rfl rfl) ?_
                          refine xg_t (xg_const) ?_
                          refine xg_t (xg_icF (u := 3) (v := 5) rfl xnm0 xnm0 (by decide)) ?_
                          refine xg_t (xg_aload (va := (2, 82)) rfl rfl) ?_
                          refine xg_t (xg_getf (va := (2, 83)) (hb374.get (by decide) (hb363.get (by decide) (hb352.get (by decide) h82_271))) rfl) ?_
                          refine xg_t (xg_iload (va := (0, 3)) rfl rfl) ?_
                          refine xg_t (xg_aload (va := (2, 82)) rfl rfl) ?_
                          refine xg_t (xg_getf (va := (2, 85)) (hb374.get (by decide) (hb363.get (by decide) (hb352.get (by decide) h82_271))) rfl) ?_
                          refine xg_t (xg_iload (va := (0, 3)) rfl rfl) ?_
                          refine xg_ialdB (n := 3) (B := 4294967295) (((h85_280.but hb352 (by decide)).but hb363 (by decide)).but hb374 (by decide)) (hb281) xnm0 (by first | decide | omega) (fun u380 hu381 he382 => ?_)
                          refine xg_iastK (n := 3) (u := u380) hr373 xnm0 xnm0 rfl (by first | decide | omega) (fun w383 hr384 hb385 => ?_)
                          have hb386 : ∀ j, (fun j => if j = 3 then u380 else g376 j) j ≤ 4294967295 := xrb (by omega) (hb375)
                          obtain ⟨g387, hg388⟩ : ∃ g : Nat → Nat, g = (fun j => if j = 3 then u380 else g376 j) := ⟨_, rfl⟩
                          rw [← hg388] at hr384
                          have he389 : g387 3 = u380 := by rw [hg388]; exact if_pos rfl
                          have hk390 : ∀ j, j ≠ 3 → g387 j = g376 j := fun j hj => by rw [hg388]; exact if_neg hj
                          rw [← hg388] at hb386
                          refine xg_t (xg_iinc (u := 3) (z := 4) (l1 := [(0, (2, 82))]) rfl rfl (by decide) rfl) ?_
                          refine xg_t (xg_goto) ?_
                          refine xg_t (xg_blq rfl) ?_
                          refine xg_t (xg_iload (va := (0, 4)) rfl rfl) ?_
                          refine xg_t (xg_const) ?_
                          refine xg_t (xg_icF (u := 4) (v := 5) rfl xnm0 xnm0 (by decide)) ?_
                          refine xg_t (xg_aload (va := (2, 82)) rfl rfl) ?_
                          refine xg_t (xg_getf (va := (2, 83)) (hb385.get (by decide) (hb374.get (by decide) (hb363.get (by decide) (hb352.get (by decide) h82_271)))) rfl) ?_
                          refine xg_t (xg_iload (va := (0, 4)) rfl rfl) ?_
                          refine xg_t (xg_aload (va := (2, 82)) rfl rfl) ?_
                          refine xg_t (xg_getf (va := (2, 85)) (hb385.get (by decide) (hb374.get (by decide) (hb363.get (by decide) (hb352.get (by decide) h82_271)))) rfl) ?_
                          refine xg_t (xg_iload (va := (0, 4)) rfl rfl) ?_
                          refine xg_ialdB (n := 4) (B := 4294967295) ((((h85_280.but hb352 (by decide)).but hb363 (by decide)).but hb374 (by decide)).but hb385 (by decide)) (hb281) xnm0 (by first | decide | omega) (fun u391 hu392 he393 => ?_)
                          refine xg_iastK (n := 4) (u := u391) hr384 xnm0 xnm0 rfl (by first | decide | omega) (fun w394 hr395 hb396 => ?_)
                          have hb397 : ∀ j, (fun j => if j = 4 then u391 else g387 j) j ≤ 4294967295 := xrb (by omega) (hb386)
                          obtain ⟨g398, hg399⟩ : ∃ g : Nat → Nat, g = (fun j => if j = 4 then u391 else g387 j) := ⟨_, rfl⟩
                          rw [← hg399] at hr395
                          have he400 : g398 4 = u391 := by rw [hg399]; exact if_pos rfl
                          have hk401 : ∀ j, j ≠ 4 → g398 j = g387 j := fun j hj => by rw [hg399]; exact if_neg hj
                          rw [← hg399] at hb397
                          refine xg_t (xg_iinc (u := 4) (z := 5) (l1 := [(0, (2, 82))]) rfl rfl (by decide) rfl) ?_
                          refine xg_t (xg_goto) ?_
                          refine xg_t (xg_blq rfl) ?_
                          refine xg_t (xg_iload (va := (0, 5)) rfl rfl) ?_
                          refine xg_t (xg_const) ?_
                          refine xg_t (xg_icT (u := 5) (v := 5) rfl xnm0 xnm0 (by decide)) ?_
                          refine xg_t (xg_blq rfl) ?_
                          refine xg_t (xg_const) ?_
                          refine xg_t (xg_istore (l1 := [(0, (2, 82))]) rfl rfl rfl) ?_
                          refine xg_t (xg_blq rfl) ?_
                          refine xg_t (xg_iload (va := (0, 5)) rfl rfl) ?_
                          refine xg_t (xg_bip) ?_
                          refine xg_t (xg_icF (u := 5) (v := 8) rfl xnm0 xnm0 (by decide)) ?_
                          refine xg_t (xg_aload (va := (2, 82)) rfl rfl) ?_
                          refine xg_t (xg_getf (va := (2, 83)) (hb396.get (by decide) (hb385.get (by decide) (hb374.get (by decide) (hb363.get (by decide) (hb352.get (by decide) h82_271))))) rfl) ?_
                          refine xg_t (xg_iload (va := (0, 5)) rfl rfl) ?_
                          refine xg_t (xg_aload (va := (2, 82)) rfl rfl) ?_
                          refine xg_t (xg_getf (va := (2, 86)) (hb396.get (by decide) (hb385.get (by decide) (hb374.get (by decide) (hb363.get (by decide) (hb352.get (by decide) h82_271))))) rfl) ?_
                          refine xg_t (xg_iload (va := (0, 5)) rfl rfl) ?_
                          refine xg_ialdB (n := 5) (B := 4294967295) (((((h86_283.but hb352 (by decide)).but hb363 (by decide)).but hb374 (by decide)).but hb385 (by decide)).but hb396 (by decide)) (hb284) xnm0 (by first | decide | omega) (fun u402 hu403 he404 => ?_)
                          refine xg_iastK (n := 5) (u := u402) hr395 xnm0 xnm0 rfl (by first | decide | omega) (fun w405 hr406 hb407 => ?_)
                          have hb408 : ∀ j, (fun j => if j = 5 then u402 else g398 j) j ≤ 4294967295 := xrb (by omega) (hb397)
                          obtain ⟨g409, hg410⟩ : ∃ g : Nat → Nat, g = (fun j => if j = 5 then u402 else g398 j) := ⟨_, rfl⟩
                          rw [← hg410] at hr406
                          have he411 : g409 5 = u402 := by rw [hg410]; exact if_pos rfl
                          have hk412 : ∀ j, j ≠ 5 → g409 j = g398 j := fun j hj => by rw [hg410]; exact if_neg hj
                          rw [← hg410] at hb408
                          refine xg_t (xg_iinc (u := 5) (z := 6) (l1 := [(0, (2, 82))]) rfl rfl (by decide) rfl) ?_
                          refine xg_t (xg_goto) ?_
                          refine xg_t (xg_blq rfl) ?_
                          refine xg_t (xg_iload (va := (0, 6)) rfl rfl) ?_
                          refine xg_t (xg_bip) ?_
                          refine xg_t (xg_icF (u := 6) (v := 8) rfl xnm0 xnm0 (by decide)) ?_
                          refine xg_t (xg_aload (va := (2, 82)) rfl rfl) ?_
                          refine xg_t (xg_getf (va := (2, 83)) (hb407.get (by decide) (hb396.get (by decide) (hb385.get (by decide) (hb374.get (by decide) (hb363.get (by decide) (hb352.get (by decide) h82_271)))))) rfl) ?_
                          refine xg_t (xg_iload (va := (0, 6)) rfl rfl) ?_
                          refine xg_t (xg_aload (va := (2, 82)) rfl rfl) ?_
                          refine xg_t (xg_getf (va := (2, 86)) (hb407.get (by decide) (hb396.get (by decide) (hb385.get (by decide) (hb374.get (by decide) (hb363.get (by decide) (hb352.get (by decide) h82_271)))))) rfl) ?_
                          refine xg_t (xg_iload (va := (0, 6)) rfl rfl) ?_
                          refine xg_ialdB (n := 6) (B := 4294967295) ((((((h86_283.but hb352 (by decide)).but hb363 (by decide)).but hb374 (by decide)).but hb385 (by decide)).but hb396 (by decide)).but hb407 (by decide)) (hb284) xnm0 (by first | decide | omega) (fun u413 hu414 he415 => ?_)
                          refine xg_iastK (n := 6) (u := u413) hr406 xnm0 xnm0 rfl (by first | decide | omega) (fun w416 hr417 hb418 => ?_)
                          have hb419 : ∀ j, (fun j => if j = 6 then u413 else g409 j) j ≤ 4294967295 := xrb (by omega) (hb408)
                          obtain ⟨g420, hg421⟩ : ∃ g : Nat → Nat, g = (fun j => if j = 6 then u413 else g409 j) := ⟨_, rfl⟩
                          rw [← hg421] at hr417
                          have he422 : g420 6 = u413 := by rw [hg421]; exact if_pos rfl
                          have hk423 : ∀ j, j ≠ 6 → g420 j = g409 j := fun j hj => by rw [hg421]; exact if_neg hj
                          rw [← hg421] at hb419
                          refine xg_t (xg_iinc (u := 6) (z := 7) (l1 := [(0, (2, 82))]) rfl rfl (by decide) rfl) ?_
                          refine xg_t (xg_goto) ?_
                          refine xg_t (xg_blq rfl) ?_
                          refine xg_t (xg_iload (va := (0, 7)) rfl rfl) ?_
                          refine xg_t (xg_bip) ?_
                          refine xg_t (xg_icF (u := 7) (v := 8) rfl xnm0 xnm0 (by decide)) ?_
                          refine xg_t (xg_aload (va := (2, 82)) rfl rfl) ?_
                          refine xg_t (xg_getf (va := (2, 83)) (hb418.get (by decide) (hb407.get (by decide) (hb396.get (by decide) (hb385.get (by decide) (hb374.get (by decide) (hb363.get (by decide) (hb352.get (by decide) h82_271))))))) rfl) ?_
                          refine xg_t (xg_iload (va := (0, 7)) rfl rfl) ?_
                          refine xg_t (xg_aload (va := (2, 82)) rfl rfl) ?_
                          refine xg_t (xg_getf (va := (2, 86)) (hb418.get (by decide) (hb407.get (by decide) (hb396.get (by decide) (hb385.get (by decide) (hb374.get (by decide) (hb363.get (by decide) (hb352.get (by decide) h82_271))))))) rfl) ?_
                          refine xg_t (xg_iload (va := (0, 7)) rfl rfl) ?_
                          refine xg_ialdB (n := 7) (B := 4294967295) (((((((h86_283.but hb352 (by decide)).but hb363 (by decide)).but hb374 (by decide)).but hb385 (by decide)).but hb396 (by decide)).but hb407 (by decide)).but hb418 (by decide)) (hb284) xnm0 (by first | decide | omega) (fun u424 hu425 he426 => ?_)
                          refine xg_iastK (n := 7) (u := u424) hr417 xnm0 xnm0 rfl (by first | decide | omega) (fun w427 hr428 hb429 => ?_)
                          have hb430 : ∀ j, (fun j => if j = 7 then u424 else g420 j) j ≤ 4294967295 := xrb (by omega) (hb419)
                          obtain ⟨g431, hg432⟩ : ∃ g : Nat → Nat, g = (fun j => if j = 7 then u424 else g420 j) := ⟨_, rfl⟩
                          rw [← hg432] at hr428
                          have he433 : g431 7 = u424 := by rw [hg432]; exact if_pos rfl
                          have hk434 : ∀ j, j ≠ 7 → g431 j = g420 j := fun j hj => by rw [hg432]; exact if_neg hj
                          rw [← hg432] at hb430
                          refine xg_t (xg_iinc (u := 7) (z := 8) (l1 := [(0, (2, 82))]) rfl rfl (by decide) rfl) ?_
                          refine xg_t (xg_goto) ?_
                          refine xg_t (xg_blq rfl) ?_
                          refine xg_t (xg_iload (va := (0, 8)) rfl rfl) ?_
                          refine xg_t (xg_bip) ?_
                          refine xg_t (xg_icF (u := 8) (v := 8) rfl xnm0 xnm0 (by decide)) ?_
                          refine xg_t (xg_aload (va := (2, 82)) rfl rfl) ?_
                          refine xg_t (xg_getf (va := (2, 83)) (hb429.get (by decide) (hb418.get (by decide) (hb407.get (by decide) (hb396.get (by decide) (hb385.get (by decide) (hb374.get (by decide) (hb363.get (by decide) (hb352.get (by decide) h82_271)))))))) rfl) ?_
                          refine xg_t (xg_iload (va := (0, 8)) rfl rfl) ?_
                          refine xg_t (xg_aload (va := (2, 82)) rfl rfl) ?_
                          refine xg_t (xg_getf (va := (2, 86)) (hb429.get (by decide) (hb418.get (by decide) (hb407.get (by decide) (hb396.get (by decide) (hb385.get (by decide) (hb374.get (by decide) (hb363.get (by decide) (hb352.get (by decide) h82_271)))))))) rfl) ?_
                          refine xg_t (xg_iload (va := (0, 8)) rfl rfl) ?_
                          refine xg_ialdB (n := 8) (B := 4294967295) ((((((((h86_283.but hb352 (by decide)).but hb363 (by decide)).but hb374 (by decide)).but hb385 (by decide)).but hb396 (by decide)).but hb407 (by decide)).but hb418 (by decide)).but hb429 (by decide)) (hb284) xnm0 (by first | decide | omega) (fun u435 hu436 he437 => ?_)
                          refine xg_iastK (n := 8) (u := u435) hr428 xnm0 xnm0 rfl (by first | decide | omega) (fun w438 hr439 hb440 => ?_)
                          have hb441 : ∀ j, (fun j => if j = 8 then u435 else g431 j) j ≤ 4294967295 := xrb (by omega) (hb430)
                          obtain ⟨g442, hg443⟩ : ∃ g : Nat → Nat, g = (fun j => if j = 8 then u435 else g431 j) := ⟨_, rfl⟩
                          rw [← hg443] at hr439
                          have he444 : g442 8 = u435 := by rw [hg443]; exact if_pos rfl
                          have hk445 : ∀ j, j ≠ 8 → g442 j = g431 j := fun j hj => by rw [hg443]; exact if_neg hj
                          rw [← hg443] at hb441
                          refine xg_t (xg_iinc (u := 8) (z := 9) (l1 := [(0, (2, 82))]) rfl rfl (by decide) rfl) ?_
                          refine xg_t (xg_goto) ?_
                          refine xg_t (xg_blq rfl) ?_
                          refine xg_t (xg_iload (va := (0, 9)) rfl rfl) ?_
                          refine xg_t (xg_bip) ?_
                          refine xg_t (xg_icT (u := 9) (v := 8) rfl xnm0 xnm0 (by decide)) ?_
                          refine xg_t (xg_blq rfl) ?_
                          refine xg_t (xg_bip) ?_
                          refine xg_t (xg_istore (l1 := [(0, (2, 82))]) rfl rfl rfl) ?_
                          refine xg_t (xg_drop (l1 := [(0, (2, 82)), (1, (0, 20))]) (List.forall_mem_cons.mpr ⟨List.mem_cons_of_mem _ (List.mem_cons_self), List.forall_mem_cons.mpr ⟨List.mem_cons_self, fun _ h => absurd h List.not_mem_nil⟩⟩)) ?_
                          refine cpFilm 120 20 w438 g442 (by decide) hr439 hb441 (((((((((h86_283.but hb352 (by decide)).but hb363 (by decide)).but hb374 (by decide)).but hb385 (by decide)).but hb396 (by decide)).but hb407 (by decide)).but hb418 (by decide)).but hb429 (by decide)).but hb440 (by decide)) hb284 (hb440.get (by decide) (hb429.get (by decide) (hb418.get (by decide) (hb407.get (by decide) (hb396.get (by decide) (hb385.get (by decide) (hb374.get (by decide) (hb363.get (by decide) (hb352.get (by decide) h82_271))))))))) (fun w446 g447 hc448 hc449 hc450 hc451 hc452 => ?_)
                          refine xg_t (xg_blq rfl) ?_
                          refine xg_t (xg_aload (va := (2, 82)) rfl rfl) ?_
                          refine xg_t (xg_getf (va := (2, 83)) (hc450.get (by decide) (hb440.get (by decide) (hb429.get (by decide) (hb418.get (by decide) (hb407.get (by decide) (hb396.get (by decide) (hb385.get (by decide) (hb374.get (by decide) (hb363.get (by decide) (hb352.get (by decide) h82_271)))))))))) rfl) ?_
                          refine xg_t (xg_bip) ?_
                          refine xg_t (xg_const) ?_
                          refine xg_iastK (n := 9) (u := 0) hc448 xnm0 xnm0 rfl (by first | decide | omega) (fun w453 hr454 hb455 => ?_)
                          have hb456 : ∀ j, (fun j => if j = 9 then 0 else g447 j) j ≤ 4294967295 := xrb (by omega) (hc449)
                          obtain ⟨g457, hg458⟩ : ∃ g : Nat → Nat, g = (fun j => if j = 9 then 0 else g447 j) := ⟨_, rfl⟩
                          rw [← hg458] at hr454
                          have he459 : g457 9 = 0 := by rw [hg458]; exact if_pos rfl
                          have hk460 : ∀ j, j ≠ 9 → g457 j = g447 j := fun j hj => by rw [hg458]; exact if_neg hj
                          rw [← hg458] at hb456
                          refine xg_t (xg_aload (va := (2, 82)) rfl rfl) ?_
                          refine xg_t (xg_getf (va := (2, 83)) (hb455.get (by decide) (hc450.get (by decide) (hb440.get (by decide) (hb429.get (by decide) (hb418.get (by decide) (hb407.get (by decide) (hb396.get (by decide) (hb385.get (by decide) (hb374.get (by decide) (hb363.get (by decide) (hb352.get (by decide) h82_271))))))))))) rfl) ?_
                          refine xg_t (xg_bip) ?_
                          refine xg_t (xg_const) ?_
                          refine xg_iastK (n := 10) (u := 0) hr454 xnm0 xnm0 rfl (by first | decide | omega) (fun w461 hr462 hb463 => ?_)
                          have hb464 : ∀ j, (fun j => if j = 10 then 0 else g457 j) j ≤ 4294967295 := xrb (by omega) (hb456)
                          obtain ⟨g465, hg466⟩ : ∃ g : Nat → Nat, g = (fun j => if j = 10 then 0 else g457 j) := ⟨_, rfl⟩
                          rw [← hg466] at hr462
                          have he467 : g465 10 = 0 := by rw [hg466]; exact if_pos rfl
                          have hk468 : ∀ j, j ≠ 10 → g465 j = g457 j := fun j hj => by rw [hg466]; exact if_neg hj
                          rw [← hg466] at hb464
                          refine xg_t (xg_aload (va := (2, 82)) rfl rfl) ?_
                          refine xg_t (xg_getf (va := (2, 83)) (hb463.get (by decide) (hb455.get (by decide) (hc450.get (by decide) (hb440.get (by decide) (hb429.get (by decide) (hb418.get (by decide) (hb407.get (by decide) (hb396.get (by decide) (hb385.get (by decide) (hb374.get (by decide) (hb363.get (by decide) (hb352.get (by decide) h82_271)))))))))))) rfl) ?_
                          refine xg_t (xg_bip) ?_
                          refine xg_t (xg_aload (va := (2, 82)) rfl rfl) ?_
                          refine xg_t (xg_getf (va := (0, f82_259)) (hb463.get (by decide) (hb455.get (by decide) (hc450.get (by decide) (hb440.get (by decide) (hb429.get (by decide) (hb418.get (by decide) (hb407.get (by decide) (hb396.get (by decide) (hb385.get (by decide) (hb374.get (by decide) (hb363.get (by decide) (hb352.get (by decide) h82_271)))))))))))) rfl) ?_
                          have hn469 : f82_259 ≤ 4294967295 := hb260
                          refine xg_iastK (n := 14) (u := f82_259) hr462 xnm0 xnm0 rfl (by first | decide | omega) (fun w470 hr471 hb472 => ?_)
                          have hb473 : ∀ j, (fun j => if j = 14 then f82_259 else g465 j) j ≤ 4294967295 := xrb (by omega) (hb464)
                          obtain ⟨g474, hg475⟩ : ∃ g : Nat → Nat, g = (fun j => if j = 14 then f82_259 else g465 j) := ⟨_, rfl⟩
                          rw [← hg475] at hr471
                          have he476 : g474 14 = f82_259 := by rw [hg475]; exact if_pos rfl
                          have hk477 : ∀ j, j ≠ 14 → g474 j = g465 j := fun j hj => by rw [hg475]; exact if_neg hj
                          rw [← hg475] at hb473
                          have hq478 : g474 0 = u347 := by rw [hk477 0 (by omega), hk468 0 (by omega), hk460 0 (by omega), hc452 0 (by omega), hk445 0 (by omega), hk434 0 (by omega), hk423 0 (by omega), hk412 0 (by omega), hk401 0 (by omega), hk390 0 (by omega), hk379 0 (by omega), hk368 0 (by omega), he356]
                          have hq479 : g474 1 = u358 := by rw [hk477 1 (by omega), hk468 1 (by omega), hk460 1 (by omega), hc452 1 (by omega), hk445 1 (by omega), hk434 1 (by omega), hk423 1 (by omega), hk412 1 (by omega), hk401 1 (by omega), hk390 1 (by omega), hk379 1 (by omega), he367]
                          have hq480 : g474 2 = u369 := by rw [hk477 2 (by omega), hk468 2 (by omega), hk460 2 (by omega), hc452 2 (by omega), hk445 2 (by omega), hk434 2 (by omega), hk423 2 (by omega), hk412 2 (by omega), hk401 2 (by omega), hk390 2 (by omega), he378]
                          have hq481 : g474 3 = u380 := by rw [hk477 3 (by omega), hk468 3 (by omega), hk460 3 (by omega), hc452 3 (by omega), hk445 3 (by omega), hk434 3 (by omega), hk423 3 (by omega), hk412 3 (by omega), hk401 3 (by omega), he389]
                          have hq482 : g474 4 = u391 := by rw [hk477 4 (by omega), hk468 4 (by omega), hk460 4 (by omega), hc452 4 (by omega), hk445 4 (by omega), hk434 4 (by omega), hk423 4 (by omega), hk412 4 (by omega), he400]
                          have hq483 : g474 5 = u402 := by rw [hk477 5 (by omega), hk468 5 (by omega), hk460 5 (by omega), hc452 5 (by omega), hk445 5 (by omega), hk434 5 (by omega), hk423 5 (by omega), he411]
                          have hq484 : g474 6 = u413 := by rw [hk477 6 (by omega), hk468 6 (by omega), hk460 6 (by omega), hc452 6 (by omega), hk445 6 (by omega), hk434 6 (by omega), he422]
                          have hq485 : g474 7 = u424 := by rw [hk477 7 (by omega), hk468 7 (by omega), hk460 7 (by omega), hc452 7 (by omega), hk445 7 (by omega), he433]
                          have hq486 : g474 8 = u435 := by rw [hk477 8 (by omega), hk468 8 (by omega), hk460 8 (by omega), hc452 8 (by omega), he444]
                          have hq487 : g474 9 = 0 := by rw [hk477 9 (by omega), hk468 9 (by omega), he459]
                          have hq488 : g474 10 = 0 := by rw [hk477 10 (by omega), he467]
                          have hq489 : ∀ j, 20 ≤ j → j < 140 → g474 j = g86_282 j := fun j h1 h2 => by rw [hk477 j (by omega), hk468 j (by omega), hk460 j (by omega)]; exact hc451 j h1 h2
                          have hq490 : ∀ j, 140 ≤ j ∨ j = 11 ∨ j = 12 ∨ j = 13 ∨ j = 15 → g474 j = g83_273 j := fun j hj => by rw [hk477 j (by omega), hk468 j (by omega), hk460 j (by omega), hc452 j (by omega), hk445 j (by omega), hk434 j (by omega), hk423 j (by omega), hk412 j (by omega), hk401 j (by omega), hk390 j (by omega), hk379 j (by omega), hk368 j (by omega), hk357 j (by omega)]
                          have hx491 : okA g474 := film_ok hx276 hdt (by omega) (by omega) (by omega) (by omega) (by omega) (by omega) (by omega) (by omega) (by omega) (by omega) (by omega) hq489 (fun j hj => hq490 j (by omega))
                          refine xg_t (xg_aload (va := (2, 82)) rfl rfl) ?_
                          refine xg_t (xg_getf (va := (0, f82_259)) (hb472.get (by decide) (hb463.get (by decide) (hb455.get (by decide) (hc450.get (by decide) (hb440.get (by decide) (hb429.get (by decide) (hb418.get (by decide) (hb407.get (by decide) (hb396.get (by decide) (hb385.get (by decide) (hb374.get (by decide) (hb363.get (by decide) (hb352.get (by decide) h82_271))))))))))))) rfl) ?_
                          have kk492 := (hz240.k K83.rf)
                          exact xg_e ⟨f82_259, w470, ⟨rfl, rfl⟩, ⟨by omega, (rwv_of hr471 (by decide)).trans ((hq490 15 (by omega)).trans ((rwv_of h83_274 (by decide)).symm.trans kk492.1)), fun j h1 h2 => (rwv_of hr471 h2).trans ((hq490 j (by omega)).trans ((rwv_of h83_274 h2).symm.trans (kk492.2 j h2 (by omega) (by omega) (by omega))))⟩, xMnv.up (S := [83]) hI233 (((((((((((((xFr.of (S := [83]) hb352 (by decide)).tr (xFr.of (S := [83]) hb363 (by decide))).tr (xFr.of (S := [83]) hb374 (by decide))).tr (xFr.of (S := [83]) hb385 (by decide))).tr (xFr.of (S := [83]) hb396 (by decide))).tr (xFr.of (S := [83]) hb407 (by decide))).tr (xFr.of (S := [83]) hb418 (by decide))).tr (xFr.of (S := [83]) hb429 (by decide))).tr (xFr.of (S := [83]) hb440 (by decide))).tr (xFr.of (S := [83]) hc450 (by decide))).tr (xFr.of (S := [83]) hb455 (by decide))).tr (xFr.of (S := [83]) hb463 (by decide))).tr (xFr.of (S := [83]) hb472 (by decide))) (List.forall_mem_cons.mpr ⟨xqu83 (show cpx83 (wget w470 83) from ⟨_, hr471, hb473, hx491⟩), fun _ h => absurd h List.not_mem_nil⟩), (hF234.tr (((((((((((((xFr.of (S := [82, 83, 85, 86, 87]) hb352 (by decide)).tr (xFr.of (S := [82, 83, 85, 86, 87]) hb363 (by decide))).tr (xFr.of (S := [82, 83, 85, 86, 87]) hb374 (by decide))).tr (xFr.of (S := [82, 83, 85, 86, 87]) hb385 (by decide))).tr (xFr.of (S := [82, 83, 85, 86, 87]) hb396 (by decide))).tr (xFr.of (S := [82, 83, 85, 86, 87]) hb407 (by decide))).tr (xFr.of (S := [82, 83, 85, 86, 87]) hb418 (by decide))).tr (xFr.of (S := [82, 83, 85, 86, 87]) hb429 (by decide))).tr (xFr.of (S := [82, 83, 85, 86, 87]) hb440 (by decide))).tr (xFr.of (S := [82, 83, 85, 86, 87]) hc450 (by decide))).tr (xFr.of (S := [82, 83, 85, 86, 87]) hb455 (by decide))).tr (xFr.of (S := [82, 83, 85, 86, 87]) hb463 (by decide))).tr (xFr.of (S := [82, 83, 85, 86, 87]) hb472 (by decide))))⟩
                        · refine xg_t (xg_ifF (u := u343) rfl xnm0 (xj_eqF hc346)) ?_
                          refine xg_t (xg_const) ?_
                          have kk493 := hz240.k K83.rf
                          exact xg_e ⟨4294967295, w232, ⟨rfl, rfl⟩, ⟨by omega, kk493.1, fun j h1 h2 => kk493.2 j h2 (by omega) (by omega) (by omega)⟩, hI233, hF234⟩
                    · have hc292u := hc292
                      unfold xbs at hc292u
                      have hn494 : kf ≤ 20 := by omega
                      refine xg_t (xg_icT (u := kf) (v := u289) rfl xnm0 xnm0 (xjs_geT hc292)) ?_
                      refine xg_t (xg_blq rfl) ?_
                      refine xg_t (xg_aload (va := (2, 82)) rfl rfl) ?_
                      refine xg_t (xg_getf (va := (2, 83)) h82_271 rfl) ?_
                      refine xg_t (xg_bip) ?_
                      refine xg_ialdB (n := 16) (B := 4294967295) h83_274 (hb275) xnm0 (by first | decide | omega) (fun u495 hu496 he497 => ?_)
                      by_cases hc498 : u495 = 0
                      · refine xg_t (xg_ifT (u := u495) rfl xnm0 (xj_eqT hc498)) ?_
                        refine xg_t (xg_blq rfl) ?_
                        have hDD := hz239.resolve_left (by omega)
                        have hdt := hDD.toDt h85_280 h86_283
                        refine xg_t (xg_const) ?_
                        refine xg_t (xg_istore (l1 := [(0, (2, 82))]) rfl rfl rfl) ?_
                        refine xg_t (xg_blq rfl) ?_
                        refine xg_t (xg_iload (va := (0, 0)) rfl rfl) ?_
                        refine xg_t (xg_const) ?_
                        refine xg_t (xg_icF (u := 0) (v := 5) rfl xnm0 xnm0 (by decide)) ?_
                        refine xg_t (xg_aload (va := (2, 82)) rfl rfl) ?_
                        refine xg_t (xg_getf (va := (2, 83)) h82_271 rfl) ?_
                        refine xg_t (xg_iload (va := (0, 0)) rfl rfl) ?_
                        refine xg_t (xg_aload (va := (2, 82)) rfl rfl) ?_
                        refine xg_t (xg_getf (va := (2, 85)) h82_271 rfl) ?_
                        refine xg_t (xg_iload (va := (0, 0)) rfl rfl) ?_
                        refine xg_ialdB (n := 0) (B := 4294967295) h85_280 (hb281) xnm0 (by first | decide | omega) (fun u499 hu500 he501 => ?_)
                        refine xg_iastK (n := 0) (u := u499) h83_274 xnm0 xnm0 rfl (by first | decide | omega) (fun w502 hr503 hb504 => ?_)
                        have hb505 : ∀ j, (fun j => if j = 0 then u499 else g83_273 j) j ≤ 4294967295 := xrb (by omega) (hb275)
                        obtain ⟨g506, hg507⟩ : ∃ g : Nat → Nat, g = (fun j => if j = 0 then u499 else g83_273 j) := ⟨_, rfl⟩
                        rw [← hg507] at hr503
                        have he508 : g506 0 = u499 := by rw [hg507]; exact if_pos rfl
                        have hk509 : ∀ j, j ≠ 0 → g506 j = g83_273 j := fun j hj => by rw [hg507]; exact if_neg hj
                        rw [← hg507] at hb505
                        refine xg_t (xg_iinc (u := 0) (z := 1) (l1 := [(0, (2, 82))]) rfl rfl (by decide) rfl) ?_
                        refine xg_t (xg_goto) ?_
                        refine xg_t (xg_blq rfl) ?_
                        refine xg_t (xg_iload (va := (0, 1)) rfl rfl) ?_
                        refine xg_t (xg_const) ?_
                        refine xg_t (xg_icF (u := 1) (v := 5) rfl xnm0 xnm0 (by decide)) ?_
                        refine xg_t (xg_aload (va := (2, 82)) rfl rfl) ?_
                        refine xg_t (xg_getf (va := (2, 83)) (hb504.get (by decide) h82_271) rfl) ?_
                        refine xg_t (xg_iload (va := (0, 1)) rfl rfl) ?_
                        refine xg_t (xg_aload (va := (2, 82)) rfl rfl) ?_
                        refine xg_t (xg_getf (va := (2, 85)) (hb504.get (by decide) h82_271) rfl) ?_
                        refine xg_t (xg_iload (va := (0, 1)) rfl rfl) ?_
                        refine xg_ialdB (n := 1) (B := 4294967295) (h85_280.but hb504 (by decide)) (hb281) xnm0 (by first | decide | omega) (fun u510 hu511 he512 => ?_)
                        refine xg_iastK (n := 1) (u := u510) hr503 xnm0 xnm0 rfl (by first | decide | omega) (fun w513 hr514 hb515 => ?_)
                        have hb516 : ∀ j, (fun j => if j = 1 then u510 else g506 j) j ≤ 4294967295 := xrb (by omega) (hb505)
                        obtain ⟨g517, hg518⟩ : ∃ g : Nat → Nat, g = (fun j => if j = 1 then u510 else g506 j) := ⟨_, rfl⟩
                        rw [← hg518] at hr514
                        have he519 : g517 1 = u510 := by rw [hg518]; exact if_pos rfl
                        have hk520 : ∀ j, j ≠ 1 → g517 j = g506 j := fun j hj => by rw [hg518]; exact if_neg hj
                        rw [← hg518] at hb516
                        refine xg_t (xg_iinc (u := 1) (z := 2) (l1 := [(0, (2, 82))]) rfl rfl (by decide) rfl) ?_
                        refine xg_t (xg_goto) ?_
                        refine xg_t (xg_blq rfl) ?_
                        refine xg_t (xg_iload (va := (0, 2)) rfl rfl) ?_
                        refine xg_t (xg_const) ?_
                        refine xg_t (xg_icF (u := 2) (v := 5) rfl xnm0 xnm0 (by decide)) ?_
                        refine xg_t (xg_aload (va := (2, 82)) rfl rfl) ?_
                        refine xg_t (xg_getf (va := (2, 83)) (hb515.get (by decide) (hb504.get (by decide) h82_271)) rfl) ?_
                        refine xg_t (xg_iload (va := (0, 2)) rfl rfl) ?_
                        refine xg_t (xg_aload (va := (2, 82)) rfl rfl) ?_
                        refine xg_t (xg_getf (va := (2, 85)) (hb515.get (by decide) (hb504.get (by decide) h82_271)) rfl) ?_
                        refine xg_t (xg_iload (va := (0, 2)) rfl rfl) ?_
                        refine xg_ialdB (n := 2) (B := 4294967295) ((h85_280.but hb504 (by decide)).but hb515 (by decide)) (hb281) xnm0 (by first | decide | omega) (fun u521 hu522 he523 => ?_)
                        refine xg_iastK (n := 2) (u := u521) hr514 xnm0 xnm0 rfl (by first | decide | omega) (fun w524 hr525 hb526 => ?_)
                        have hb527 : ∀ j, (fun j => if j = 2 then u521 else g517 j) j ≤ 4294967295 := xrb (by omega) (hb516)
                        obtain ⟨g528, hg529⟩ : ∃ g : Nat → Nat, g = (fun j => if j = 2 then u521 else g517 j) := ⟨_, rfl⟩
                        rw [← hg529] at hr525
                        have he530 : g528 2 = u521 := by rw [hg529]; exact if_pos rfl
                        have hk531 : ∀ j, j ≠ 2 → g528 j = g517 j := fun j hj => by rw [hg529]; exact if_neg hj
                        rw [← hg529] at hb527
                        refine xg_t (xg_iinc (u := 2) (z := 3) (l1 := [(0, (2, 82))]) rfl rfl (by decide) rfl) ?_
                        refine xg_t (xg_goto) ?_
                        refine xg_t (xg_blq rfl) ?_
                        refine xg_t (xg_iload (va := (0, 3)) rfl rfl) ?_
                        refine xg_t (xg_const) ?_
                        refine xg_t (xg_icF (u := 3) (v := 5) rfl xnm0 xnm0 (by decide)) ?_
                        refine xg_t (xg_aload (va := (2, 82)) rfl rfl) ?_
                        refine xg_t (xg_getf (va := (2, 83)) (hb526.get (by decide) (hb515.get (by decide) (hb504.get (by decide) h82_271))) rfl) ?_
                        refine xg_t (xg_iload (va := (0, 3)) rfl rfl) ?_
                        refine xg_t (xg_aload (va := (2, 82)) rfl rfl) ?_
                        refine xg_t (xg_getf (va := (2, 85)) (hb526.get (by decide) (hb515.get (by decide) (hb504.get (by decide) h82_271))) rfl) ?_
                        refine xg_t (xg_iload (va := (0, 3)) rfl rfl) ?_
                        refine xg_ialdB (n := 3) (B := 4294967295) (((h85_280.but hb504 (by decide)).but hb515 (by decide)).but hb526 (by decide)) (hb281) xnm0 (by first | decide | omega) (fun u532 hu533 he534 => ?_)
                        refine xg_iastK (n := 3) (u := u532) hr525 xnm0 xnm0 rfl (by first | decide | omega) (fun w535 hr536 hb537 => ?_)
                        have hb538 : ∀ j, (fun j => if j = 3 then u532 else g528 j) j ≤ 4294967295 := xrb (by omega) (hb527)
                        obtain ⟨g539, hg540⟩ : ∃ g : Nat → Nat, g = (fun j => if j = 3 then u532 else g528 j) := ⟨_, rfl⟩
                        rw [← hg540] at hr536
                        have he541 : g539 3 = u532 := by rw [hg540]; exact if_pos rfl
                        have hk542 : ∀ j, j ≠ 3 → g539 j = g528 j := fun j hj => by rw [hg540]; exact if_neg hj
                        rw [← hg540] at hb538
                        refine xg_t (xg_iinc (u := 3) (z := 4) (l1 := [(0, (2, 82))]) rfl rfl (by decide) rfl) ?_
                        refine xg_t (xg_goto) ?_
                        refine xg_t (xg_blq rfl) ?_
                        refine xg_t (xg_iload (va := (0, 4)) rfl rfl) ?_
                        refine xg_t (xg_const) ?_
                        refine xg_t (xg_icF (u := 4) (v := 5) rfl xnm0 xnm0 (by decide)) ?_
                        refine xg_t (xg_aload (va := (2, 82)) rfl rfl) ?_
                        refine xg_t (xg_getf (va := (2, 83)) (hb537.get (by decide) (hb526.get (by decide) (hb515.get (by decide) (hb504.get (by decide) h82_271)))) rfl) ?_
                        refine xg_t (xg_iload (va := (0, 4)) rfl rfl) ?_
                        refine xg_t (xg_aload (va := (2, 82)) rfl rfl) ?_
                        refine xg_t (xg_getf (va := (2, 85)) (hb537.get (by decide) (hb526.get (by decide) (hb515.get (by decide) (hb504.get (by decide) h82_271)))) rfl) ?_
                        refine xg_t (xg_iload (va := (0, 4)) rfl rfl) ?_
                        refine xg_ialdB (n := 4) (B := 4294967295) ((((h85_280.but hb504 (by decide)).but hb515 (by decide)).but hb526 (by decide)).but hb537 (by decide)) (hb281) xnm0 (by first | decide | omega) (fun u543 hu544 he545 => ?_)
                        refine xg_iastK (n := 4) (u := u543) hr536 xnm0 xnm0 rfl (by first | decide | omega) (fun w546 hr547 hb548 => ?_)
                        have hb549 : ∀ j, (fun j => if j = 4 then u543 else g539 j) j ≤ 4294967295 := xrb (by omega) (hb538)
                        obtain ⟨g550, hg551⟩ : ∃ g : Nat → Nat, g = (fun j => if j = 4 then u543 else g539 j) := ⟨_, rfl⟩
                        rw [← hg551] at hr547
                        have he552 : g550 4 = u543 := by rw [hg551]; exact if_pos rfl
                        have hk553 : ∀ j, j ≠ 4 → g550 j = g539 j := fun j hj => by rw [hg551]; exact if_neg hj
                        rw [← hg551] at hb549
                        refine xg_t (xg_iinc (u := 4) (z := 5) (l1 := [(0, (2, 82))]) rfl rfl (by decide) rfl) ?_
                        refine xg_t (xg_goto) ?_
                        refine xg_t (xg_blq rfl) ?_
                        refine xg_t (xg_iload (va := (0, 5)) rfl rfl) ?_
                        refine xg_t (xg_const) ?_
                        refine xg_t (xg_icT (u := 5) (v := 5) rfl xnm0 xnm0 (by decide)) ?_
                        refine xg_t (xg_blq rfl) ?_
                        refine xg_t (xg_const) ?_
                        refine xg_t (xg_istore (l1 := [(0, (2, 82))]) rfl rfl rfl) ?_
                        refine xg_t (xg_blq rfl) ?_
                        refine xg_t (xg_iload (va := (0, 5)) rfl rfl) ?_
                        refine xg_t (xg_bip) ?_
                        refine xg_t (xg_icF (u := 5) (v := 8) rfl xnm0 xnm0 (by decide)) ?_
                        refine xg_t (xg_aload (va := (2, 82)) rfl rfl) ?_
                        refine xg_t (xg_getf (va := (2, 83)) (hb548.get (by decide) (hb537.get (by decide) (hb526.get (by decide) (hb515.get (by decide) (hb504.get (by decide) h82_271))))) rfl) ?_
                        refine xg_t (xg_iload (va := (0, 5)) rfl rfl) ?_
                        refine xg_t (xg_aload (va := (2, 82)) rfl rfl) ?_
                        refine xg_t (xg_getf (va := (2, 86)) (hb548.get (by decide) (hb537.get (by decide) (hb526.get (by decide) (hb515.get (by decide) (hb504.get (by decide) h82_271))))) rfl) ?_
                        refine xg_t (xg_iload (va := (0, 5)) rfl rfl) ?_
                        refine xg_ialdB (n := 5) (B := 4294967295) (((((h86_283.but hb504 (by decide)).but hb515 (by decide)).but hb526 (by decide)).but hb537 (by decide)).but hb548 (by decide)) (hb284) xnm0 (by first | decide | omega) (fun u554 hu555 he556 => ?_)
                        refine xg_iastK (n := 5) (u := u554) hr547 xnm0 xnm0 rfl (by first | decide | omega) (fun w557 hr558 hb559 => ?_)
                        have hb560 : ∀ j, (fun j => if j = 5 then u554 else g550 j) j ≤ 4294967295 := xrb (by omega) (hb549)
                        obtain ⟨g561, hg562⟩ : ∃ g : Nat → Nat, g = (fun j => if j = 5 then u554 else g550 j) := ⟨_, rfl⟩
                        rw [← hg562] at hr558
                        have he563 : g561 5 = u554 := by rw [hg562]; exact if_pos rfl
                        have hk564 : ∀ j, j ≠ 5 → g561 j = g550 j := fun j hj => by rw [hg562]; exact if_neg hj
                        rw [← hg562] at hb560
                        refine xg_t (xg_iinc (u := 5) (z := 6) (l1 := [(0, (2, 82))]) rfl rfl (by decide) rfl) ?_
                        refine xg_t (xg_goto) ?_
                        refine xg_t (xg_blq rfl) ?_
                        refine xg_t (xg_iload (va := (0, 6)) rfl rfl) ?_
                        refine xg_t (xg_bip) ?_
                        refine xg_t (xg_icF (u := 6) (v := 8) rfl xnm0 xnm0 (by decide)) ?_
                        refine xg_t (xg_aload (va := (2, 82)) rfl rfl) ?_
                        refine xg_t (xg_getf (va := (2, 83)) (hb559.get (by decide) (hb548.get (by decide) (hb537.get (by decide) (hb526.get (by decide) (hb515.get (by decide) (hb504.get (by decide) h82_271)))))) rfl) ?_
                        refine xg_t (xg_iload (va := (0, 6)) rfl rfl) ?_
                        refine xg_t (xg_aload (va := (2, 82)) rfl rfl) ?_
                        refine xg_t (xg_getf (va := (2, 86)) (hb559.get (by decide) (hb548.get (by decide) (hb537.get (by decide) (hb526.get (by decide) (hb515.get (by decide) (hb504.get (by decide) h82_271)))))) rfl) ?_
                        refine xg_t (xg_iload (va := (0, 6)) rfl rfl) ?_
                        refine xg_ialdB (n := 6) (B := 4294967295) ((((((h86_283.but hb504 (by decide)).but hb515 (by decide)).but hb526 (by decide)).but hb537 (by decide)).but hb548 (by decide)).but hb559 (by decide)) (hb284) xnm0 (by first | decide | omega) (fun u565 hu566 he567 => ?_)
                        refine xg_iastK (n := 6) (u := u565) hr558 xnm0 xnm0 rfl (by first | decide | omega) (fun w568 hr569 hb570 => ?_)
                        have hb571 : ∀ j, (fun j => if j = 6 then u565 else g561 j) j ≤ 4294967295 := xrb (by omega) (hb560)
                        obtain ⟨g572, hg573⟩ : ∃ g : Nat → Nat, g = (fun j => if j = 6 then u565 else g561 j) := ⟨_, rfl⟩
                        rw [← hg573] at hr569
                        have he574 : g572 6 = u565 := by rw [hg573]; exact if_pos rfl
                        have hk575 : ∀ j, j ≠ 6 → g572 j = g561 j := fun j hj => by rw [hg573]; exact if_neg hj
                        rw [← hg573] at hb571
                        refine xg_t (xg_iinc (u := 6) (z := 7) (l1 := [(0, (2, 82))]) rfl rfl (by decide) rfl) ?_
                        refine xg_t (xg_goto) ?_
                        refine xg_t (xg_blq rfl) ?_
                        refine xg_t (xg_iload (va := (0, 7)) rfl rfl) ?_
                        refine xg_t (xg_bip) ?_
                        refine xg_t (xg_icF (u := 7) (v := 8) rfl xnm0 xnm0 (by decide)) ?_
                        refine xg_t (xg_aload (va := (2, 82)) rfl rfl) ?_
                        refine xg_t (xg_getf (va := (2, 83)) (hb570.get (by decide) (hb559.get (by decide) (hb548.get (by decide) (hb537.get (by decide) (hb526.get (by decide) (hb515.get (by decide) (hb504.get (by decide) h82_271))))))) rfl) ?_
                        refine xg_t (xg_iload (va := (0, 7)) rfl rfl) ?_
                        refine xg_t (xg_aload (va := (2, 82)) rfl rfl) ?_
                        refine xg_t (xg_getf (va := (2, 86)) (hb570.get (by decide) (hb559.get (by decide) (hb548.get (by decide) (hb537.get (by decide) (hb526.get (by decide) (hb515.get (by decide) (hb504.get (by decide) h82_271))))))) rfl) ?_
                        refine xg_t (xg_iload (va := (0, 7)) rfl rfl) ?_
                        refine xg_ialdB (n := 7) (B := 4294967295) (((((((h86_283.but hb504 (by decide)).but hb515 (by decide)).but hb526 (by decide)).but hb537 (by decide)).but hb548 (by decide)).but hb559 (by decide)).but hb570 (by decide)) (hb284) xnm0 (by first | decide | omega) (fun u576 hu577 he578 => ?_)
                        refine xg_iastK (n := 7) (u := u576) hr569 xnm0 xnm0 rfl (by first | decide | omega) (fun w579 hr580 hb581 => ?_)
                        have hb582 : ∀ j, (fun j => if j = 7 then u576 else g572 j) j ≤ 4294967295 := xrb (by omega) (hb571)
                        obtain ⟨g583, hg584⟩ : ∃ g : Nat → Nat, g = (fun j => if j = 7 then u576 else g572 j) := ⟨_, rfl⟩
                        rw [← hg584] at hr580
                        have he585 : g583 7 = u576 := by rw [hg584]; exact if_pos rfl
                        have hk586 : ∀ j, j ≠ 7 → g583 j = g572 j := fun j hj => by rw [hg584]; exact if_neg hj
                        rw [← hg584] at hb582
                        refine xg_t (xg_iinc (u := 7) (z := 8) (l1 := [(0, (2, 82))]) rfl rfl (by decide) rfl) ?_
                        refine xg_t (xg_goto) ?_
                        refine xg_t (xg_blq rfl) ?_
                        refine xg_t (xg_iload (va := (0, 8)) rfl rfl) ?_
                        refine xg_t (xg_bip) ?_
                        refine xg_t (xg_icF (u := 8) (v := 8) rfl xnm0 xnm0 (by decide)) ?_
                        refine xg_t (xg_aload (va := (2, 82)) rfl rfl) ?_
                        refine xg_t (xg_getf (va := (2, 83)) (hb581.get (by decide) (hb570.get (by decide) (hb559.get (by decide) (hb548.get (by decide) (hb537.get (by decide) (hb526.get (by decide) (hb515.get (by decide) (hb504.get (by decide) h82_271)))))))) rfl) ?_
                        refine xg_t (xg_iload (va := (0, 8)) rfl rfl) ?_
                        refine xg_t (xg_aload (va := (2, 82)) rfl rfl) ?_
                        refine xg_t (xg_getf (va := (2, 86)) (hb581.get (by decide) (hb570.get (by decide) (hb559.get (by decide) (hb548.get (by decide) (hb537.get (by decide) (hb526.get (by decide) (hb515.get (by decide) (hb504.get (by decide) h82_271)))))))) rfl) ?_
                        refine xg_t (xg_iload (va := (0, 8)) rfl rfl) ?_
                        refine xg_ialdB (n := 8) (B := 4294967295) ((((((((h86_283.but hb504 (by decide)).but hb515 (by decide)).but hb526 (by decide)).but hb537 (by decide)).but hb548 (by decide)).but hb559 (by decide)).but hb570 (by decide)).but hb581 (by decide)) (hb284) xnm0 (by first | decide | omega) (fun u587 hu588 he589 => ?_)
                        refine xg_iastK (n := 8) (u := u587) hr580 xnm0 xnm0 rfl (by first | decide | omega) (fun w590 hr591 hb592 => ?_)
                        have hb593 : ∀ j, (fun j => if j = 8 then u587 else g583 j) j ≤ 4294967295 := xrb (by omega) (hb582)
                        obtain ⟨g594, hg595⟩ : ∃ g : Nat → Nat, g = (fun j => if j = 8 then u587 else g583 j) := ⟨_, rfl⟩
                        rw [← hg595] at hr591
                        have he596 : g594 8 = u587 := by rw [hg595]; exact if_pos rfl
                        have hk597 : ∀ j, j ≠ 8 → g594 j = g583 j := fun j hj => by rw [hg595]; exact if_neg hj
                        rw [← hg595] at hb593
                        refine xg_t (xg_iinc (u := 8) (z := 9) (l1 := [(0, (2, 82))]) rfl rfl (by decide) rfl) ?_
                        refine xg_t (xg_goto) ?_
                        refine xg_t (xg_blq rfl) ?_
                        refine xg_t (xg_iload (va := (0, 9)) rfl rfl) ?_
                        refine xg_t (xg_bip) ?_
                        refine xg_t (xg_icT (u := 9) (v := 8) rfl xnm0 xnm0 (by decide)) ?_
                        refine xg_t (xg_blq rfl) ?_
                        refine xg_t (xg_bip) ?_
                        refine xg_t (xg_istore (l1 := [(0, (2, 82))]) rfl rfl rfl) ?_
                        refine xg_t (xg_drop (l1 := [(0, (2, 82)), (1, (0, 20))]) (List.forall_mem_cons.mpr ⟨List.mem_cons_of_mem _ (List.mem_cons_self), List.forall_mem_cons.mpr ⟨List.mem_cons_self, fun _ h => absurd h List.not_mem_nil⟩⟩)) ?_
                        refine cpFilm 120 20 w590 g594 (by decide) hr591 hb593 (((((((((h86_283.but hb504 (by decide)).but hb515 (by decide)).but hb526 (by decide)).but hb537 (by decide)).but hb548 (by decide)).but hb559 (by decide)).but hb570 (by decide)).but hb581 (by decide)).but hb592 (by decide)) hb284 (hb592.get (by decide) (hb581.get (by decide) (hb570.get (by decide) (hb559.get (by decide) (hb548.get (by decide) (hb537.get (by decide) (hb526.get (by decide) (hb515.get (by decide) (hb504.get (by decide) h82_271))))))))) (fun w598 g599 hc600 hc601 hc602 hc603 hc604 => ?_)
                        refine xg_t (xg_blq rfl) ?_
                        refine xg_t (xg_aload (va := (2, 82)) rfl rfl) ?_
                        refine xg_t (xg_getf (va := (2, 83)) (hc602.get (by decide) (hb592.get (by decide) (hb581.get (by decide) (hb570.get (by decide) (hb559.get (by decide) (hb548.get (by decide) (hb537.get (by decide) (hb526.get (by decide) (hb515.get (by decide) (hb504.get (by decide) h82_271)))))))))) rfl) ?_
                        refine xg_t (xg_bip) ?_
                        refine xg_t (xg_const) ?_
                        refine xg_iastK (n := 9) (u := 0) hc600 xnm0 xnm0 rfl (by first | decide | omega) (fun w605 hr606 hb607 => ?_)
                        have hb608 : ∀ j, (fun j => if j = 9 then 0 else g599 j) j ≤ 4294967295 := xrb (by omega) (hc601)
                        obtain ⟨g609, hg610⟩ : ∃ g : Nat → Nat, g = (fun j => if j = 9 then 0 else g599 j) := ⟨_, rfl⟩
                        rw [← hg610] at hr606
                        have he611 : g609 9 = 0 := by rw [hg610]; exact if_pos rfl
                        have hk612 : ∀ j, j ≠ 9 → g609 j = g599 j := fun j hj => by rw [hg610]; exact if_neg hj
                        rw [← hg610] at hb608
                        refine xg_t (xg_aload (va := (2, 82)) rfl rfl) ?_
                        refine xg_t (xg_getf (va := (2, 83)) (hb607.get (by decide) (hc602.get (by decide) (hb592.get (by decide) (hb581.get (by decide) (hb570.get (by decide) (hb559.get (by decide) (hb548.get (by decide) (hb537.get (by decide) (hb526.get (by decide) (hb515.get (by decide) (hb504.get (by decide) h82_271))))))))))) rfl) ?_
                        refine xg_t (xg_bip) ?_
                        refine xg_t (xg_const) ?_
                        refine xg_iastK (n := 10) (u := 0) hr606 xnm0 xnm0 rfl (by first | decide | omega) (fun w613 hr614 hb615 => ?_)
                        have hb616 : ∀ j, (fun j => if j = 10 then 0 else g609 j) j ≤ 4294967295 := xrb (by omega) (hb608)
                        obtain ⟨g617, hg618⟩ : ∃ g : Nat → Nat, g = (fun j => if j = 10 then 0 else g609 j) := ⟨_, rfl⟩
                        rw [← hg618] at hr614
                        have he619 : g617 10 = 0 := by rw [hg618]; exact if_pos rfl
                        have hk620 : ∀ j, j ≠ 10 → g617 j = g609 j := fun j hj => by rw [hg618]; exact if_neg hj
                        rw [← hg618] at hb616
                        refine xg_t (xg_aload (va := (2, 82)) rfl rfl) ?_
                        refine xg_t (xg_getf (va := (2, 83)) (hb615.get (by decide) (hb607.get (by decide) (hc602.get (by decide) (hb592.get (by decide) (hb581.get (by decide) (hb570.get (by decide) (hb559.get (by decide) (hb548.get (by decide) (hb537.get (by decide) (hb526.get (by decide) (hb515.get (by decide) (hb504.get (by decide) h82_271)))))))))))) rfl) ?_
                        refine xg_t (xg_bip) ?_
                        refine xg_t (xg_aload (va := (2, 82)) rfl rfl) ?_
                        refine xg_t (xg_getf (va := (0, f82_259)) (hb615.get (by decide) (hb607.get (by decide) (hc602.get (by decide) (hb592.get (by decide) (hb581.get (by decide) (hb570.get (by decide) (hb559.get (by decide) (hb548.get (by decide) (hb537.get (by decide) (hb526.get (by decide) (hb515.get (by decide) (hb504.get (by decide) h82_271)))))))))))) rfl) ?_
                        have hn621 : f82_259 ≤ 4294967295 := hb260
                        refine xg_iastK (n := 14) (u := f82_259) hr614 xnm0 xnm0 rfl (by first | decide | omega) (fun w622 hr623 hb624 => ?_)
                        have hb625 : ∀ j, (fun j => if j = 14 then f82_259 else g617 j) j ≤ 4294967295 := xrb (by omega) (hb616)
                        obtain ⟨g626, hg627⟩ : ∃ g : Nat → Nat, g = (fun j => if j = 14 then f82_259 else g617 j) := ⟨_, rfl⟩
                        rw [← hg627] at hr623
                        have he628 : g626 14 = f82_259 := by rw [hg627]; exact if_pos rfl
                        have hk629 : ∀ j, j ≠ 14 → g626 j = g617 j := fun j hj => by rw [hg627]; exact if_neg hj
                        rw [← hg627] at hb625
                        have hq630 : g626 0 = u499 := by rw [hk629 0 (by omega), hk620 0 (by omega), hk612 0 (by omega), hc604 0 (by omega), hk597 0 (by omega), hk586 0 (by omega), hk575 0 (by omega), hk564 0 (by omega), hk553 0 (by omega), hk542 0 (by omega), hk531 0 (by omega), hk520 0 (by omega), he508]
                        have hq631 : g626 1 = u510 := by rw [hk629 1 (by omega), hk620 1 (by omega), hk612 1 (by omega), hc604 1 (by omega), hk597 1 (by omega), hk586 1 (by omega), hk575 1 (by omega), hk564 1 (by omega), hk553 1 (by omega), hk542 1 (by omega), hk531 1 (by omega), he519]
                        have hq632 : g626 2 = u521 := by rw [hk629 2 (by omega), hk620 2 (by omega), hk612 2 (by omega), hc604 2 (by omega), hk597 2 (by omega), hk586 2 (by omega), hk575 2 (by omega), hk564 2 (by omega), hk553 2 (by omega), hk542 2 (by omega), he530]
                        have hq633 : g626 3 = u532 := by rw [hk629 3 (by omega), hk620 3 (by omega), hk612 3 (by omega), hc604 3 (by omega), hk597 3 (by omega), hk586 3 (by omega), hk575 3 (by omega), hk564 3 (by omega), hk553 3 (by omega), he541]
                        have hq634 : g626 4 = u543 := by rw [hk629 4 (by omega), hk620 4 (by omega), hk612 4 (by omega), hc604 4 (by omega), hk597 4 (by omega), hk586 4 (by omega), hk575 4 (by omega), hk564 4 (by omega), he552]
                        have hq635 : g626 5 = u554 := by rw [hk629 5 (by omega), hk620 5 (by omega), hk612 5 (by omega), hc604 5 (by omega), hk597 5 (by omega), hk586 5 (by omega), hk575 5 (by omega), he563]
                        have hq636 : g626 6 = u565 := by rw [hk629 6 (by omega), hk620 6 (by omega), hk612 6 (by omega), hc604 6 (by omega), hk597 6 (by omega), hk586 6 (by omega), he574]
                        have hq637 : g626 7 = u576 := by rw [hk629 7 (by omega), hk620 7 (by omega), hk612 7 (by omega), hc604 7 (by omega), hk597 7 (by omega), he585]
                        have hq638 : g626 8 = u587 := by rw [hk629 8 (by omega), hk620 8 (by omega), hk612 8 (by omega), hc604 8 (by omega), he596]
                        have hq639 : g626 9 = 0 := by rw [hk629 9 (by omega), hk620 9 (by omega), he611]
                        have hq640 : g626 10 = 0 := by rw [hk629 10 (by omega), he619]
                        have hq641 : ∀ j, 20 ≤ j → j < 140 → g626 j = g86_282 j := fun j h1 h2 => by rw [hk629 j (by omega), hk620 j (by omega), hk612 j (by omega)]; exact hc603 j h1 h2
                        have hq642 : ∀ j, 140 ≤ j ∨ j = 11 ∨ j = 12 ∨ j = 13 ∨ j = 15 → g626 j = g83_273 j := fun j hj => by rw [hk629 j (by omega), hk620 j (by omega), hk612 j (by omega), hc604 j (by omega), hk597 j (by omega), hk586 j (by omega), hk575 j (by omega), hk564 j (by omega), hk553 j (by omega), hk542 j (by omega), hk531 j (by omega), hk520 j (by omega), hk509 j (by omega)]
                        have hx643 : okA g626 := film_ok hx276 hdt (by omega) (by omega) (by omega) (by omega) (by omega) (by omega) (by omega) (by omega) (by omega) (by omega) (by omega) hq641 (fun j hj => hq642 j (by omega))
                        refine xg_t (xg_aload (va := (2, 82)) rfl rfl) ?_
                        refine xg_t (xg_getf (va := (0, f82_259)) (hb624.get (by decide) (hb615.get (by decide) (hb607.get (by decide) (hc602.get (by decide) (hb592.get (by decide) (hb581.get (by decide) (hb570.get (by decide) (hb559.get (by decide) (hb548.get (by decide) (hb537.get (by decide) (hb526.get (by decide) (hb515.get (by decide) (hb504.get (by decide) h82_271))))))))))))) rfl) ?_
                        have kk644 := (hz240.k K83.rf)
                        exact xg_e ⟨f82_259, w622, ⟨rfl, rfl⟩, ⟨by omega, (rwv_of hr623 (by decide)).trans ((hq642 15 (by omega)).trans ((rwv_of h83_274 (by decide)).symm.trans kk644.1)), fun j h1 h2 => (rwv_of hr623 h2).trans ((hq642 j (by omega)).trans ((rwv_of h83_274 h2).symm.trans (kk644.2 j h2 (by omega) (by omega) (by omega))))⟩, xMnv.up (S := [83]) hI233 (((((((((((((xFr.of (S := [83]) hb504 (by decide)).tr (xFr.of (S := [83]) hb515 (by decide))).tr (xFr.of (S := [83]) hb526 (by decide))).tr (xFr.of (S := [83]) hb537 (by decide))).tr (xFr.of (S := [83]) hb548 (by decide))).tr (xFr.of (S := [83]) hb559 (by decide))).tr (xFr.of (S := [83]) hb570 (by decide))).tr (xFr.of (S := [83]) hb581 (by decide))).tr (xFr.of (S := [83]) hb592 (by decide))).tr (xFr.of (S := [83]) hc602 (by decide))).tr (xFr.of (S := [83]) hb607 (by decide))).tr (xFr.of (S := [83]) hb615 (by decide))).tr (xFr.of (S := [83]) hb624 (by decide))) (List.forall_mem_cons.mpr ⟨xqu83 (show cpx83 (wget w622 83) from ⟨_, hr623, hb625, hx643⟩), fun _ h => absurd h List.not_mem_nil⟩), (hF234.tr (((((((((((((xFr.of (S := [82, 83, 85, 86, 87]) hb504 (by decide)).tr (xFr.of (S := [82, 83, 85, 86, 87]) hb515 (by decide))).tr (xFr.of (S := [82, 83, 85, 86, 87]) hb526 (by decide))).tr (xFr.of (S := [82, 83, 85, 86, 87]) hb537 (by decide))).tr (xFr.of (S := [82, 83, 85, 86, 87]) hb548 (by decide))).tr (xFr.of (S := [82, 83, 85, 86, 87]) hb559 (by decide))).tr (xFr.of (S := [82, 83, 85, 86, 87]) hb570 (by decide))).tr (xFr.of (S := [82, 83, 85, 86, 87]) hb581 (by decide))).tr (xFr.of (S := [82, 83, 85, 86, 87]) hb592 (by decide))).tr (xFr.of (S := [82, 83, 85, 86, 87]) hc602 (by decide))).tr (xFr.of (S := [82, 83, 85, 86, 87]) hb607 (by decide))).tr (xFr.of (S := [82, 83, 85, 86, 87]) hb615 (by decide))).tr (xFr.of (S := [82, 83, 85, 86, 87]) hb624 (by decide))))⟩
                      · refine xg_t (xg_ifF (u := u495) rfl xnm0 (xj_eqF hc498)) ?_
                        refine xg_t (xg_const) ?_
                        have kk645 := hz240.k K83.rf
                        exact xg_e ⟨4294967295, w232, ⟨rfl, rfl⟩, ⟨by omega, kk645.1, fun j h1 h2 => kk645.2 j h2 (by omega) (by omega) (by omega)⟩, hI233, hF234⟩
                exact key229 _ 0 w179 (Nat.lt_succ_self _) (by omega) (hI180) (hF181) (⟨hz184, hz187, hz188⟩)
              · refine xg_t (xg_ifF (u := f82_199) rfl xnm0 (xj_eqF hc228)) ?_
                refine xg_t (xg_aload (va := (2, 82)) rfl rfl) ?_
                refine xg_cVv mX12_aLine (vs := []) (rest := []) (cn1 := 0) (sl1 := 0) rfl (mALine (hI180) hz184 (fun s hs => by have q := hz186 s hs; omega) (by omega)) rfl h82_219 rfl rfl rfl rfl rfl rfl (fun w646 hq647 => ?_)
                obtain ⟨hI648, hF649, hx650⟩ := hq647
                obtain ⟨ha651, ha652, ha653, ha654, ha655⟩ := hx650
                have kk656 := hz188.k ha655
                have hM657 : ∀ s, s < 7 → rwv w646 85 s ≤ fld w646 82 14 := fun s hs => by
                  have q := hz186 s hs
                  rcases ha653 with ⟨c1, c2, c3, c4⟩ | ⟨c1, c2, c3⟩
                  · have := c4 s hs; omega
                  · have := c3 s hs; omega
                have hD658 : FA w646 ≠ 0 ∨ DATA w646 := by
                  rcases hz187 with q | q
                  · exact Or.inl (ha651 q)
                  · rcases ha654 with r | r
                    · exact Or.inl r
                    · exact Or.inr (r q)
                refine xg_t (xg_goto) ?_
                exact ih177 w646 (by rcases ha653 with ⟨c1, c2, c3, -⟩ | ⟨c1, c2, -⟩ <;> omega) (hI648) ((hF181.tr (hF649.up (by decide)))) (⟨ha652, by rcases ha653 with ⟨c1, c2, c3, -⟩ | ⟨c1, c2, -⟩ <;> omega, hM657, hD658, kk656⟩)
            · refine xg_t (xg_ifT (u := f82_205) rfl xnm0 (xj_neT hc227)) ?_
              refine xg_t (xg_blq rfl) ?_
              refine xg_t (xg_const) ?_
              refine xg_t (xg_istore (l1 := [(0, (2, 82))]) rfl rfl rfl) ?_
              refine xg_t (xg_drop (l1 := [(0, (2, 82)), (1, (0, 0))]) (List.forall_mem_cons.mpr ⟨List.mem_cons_of_mem _ (List.mem_cons_self), List.forall_mem_cons.mpr ⟨List.mem_cons_self, fun _ h => absurd h List.not_mem_nil⟩⟩)) ?_
              have key659 : ∀ (m661 : Nat) (kf : Nat) (w662 : List (List xE)), 20 - kf < m661 → kf ≤ 20 → xMnv w662 → xFr [82, 83, 85, 86, 87] w w662 → (PS w662 ∧ (FA w662 ≠ 0 ∨ DATA w662) ∧ K15 w w662) → xTo (d + 8) mX12_film (84, [], [(0, (2, 82)), (1, (0, kf))], [], (w662, bd, fc, 0, 0, rr)) (fun φ => ∃ n w', xEnd 1 [(0, n)] (w', bd, fc, 0, 0, rr) φ ∧ (n ≤ 4294967295 ∧ rwv w' 83 15 = 0 ∧ ∀ j, (140 ≤ j ∨ j = 11 ∨ j = 12 ∨ j = 13) → j < 5360 → rwv w' 83 j = rwv w 83 j) ∧ xMnv w' ∧ xFr [82, 83, 85, 86, 87] w w') := by
                intro m661
                induction m661 with
                | zero => intro kf w662 hz; exact absurd hz (Nat.not_lt_zero _)
                | succ m661 ih660 =>
                  intro kf w662 hm667 hn665 hI663 hF664 he666
                  obtain ⟨hz668, hz669, hz670⟩ := he666
                  unfold PS at hz668
                  refine xoCh82 (xqc82 hI663 : cp82 (wget w662 82)) (fun f82_671 f82_673 f82_675 f82_677 f82_679 f82_681 f82_683 f82_685 f82_687 f82_689 f82_691 f82_692 f82_693 f82_695 f82_697 f82_699 h82_701 hb672 hb674 hb676 hb678 hb680 hb682 hb684 hb686 hb688 hb690 hb694 hb696 hb698 hb700 hb702 => ?_)
                  refine xoX83 (xqc83 hI663 : cpx83 (wget w662 83)) (fun g83_703 h83_704 hb705 hx706 => ?_)
                  have hf707 : fld w662 82 10 = f82_687 := fld_of h82_701
                  have hA708 : FA w662 = g83_703 16 := rwv_of h83_704 (by decide)
                  refine xoI (xqc85 hI663 : cpI 7 52 4294967295 (wget w662 85)) (fun g85_709 h85_710 hb711 => ?_)
                  refine xoI (xqc86 hI663 : cpI 140 53 4294967295 (wget w662 86)) (fun g86_712 h86_713 hb714 => ?_)
                  refine xoI (xqc87 hI663 : cpI 20 54 4294967295 (wget w662 87)) (fun g87_715 h87_716 hb717 => ?_)
                  have hm718 : rwv w662 85 4 = g85_709 4 := rwv_of h85_710 (by decide)
                  refine xg_t (xg_blq rfl) ?_
                  refine xg_t (xg_iload (va := (0, kf)) rfl rfl) ?_
                  refine xg_t (xg_aload (va := (2, 82)) rfl rfl) ?_
                  refine xg_t (xg_getf (va := (2, 85)) h82_701 rfl) ?_
                  refine xg_t (xg_const) ?_
                  refine xg_ialdB (n := 4) (B := 4294967295) h85_710 (hb711) xnm0 (by first | decide | omega) (fun u719 hu720 he721 => ?_)
                  by_cases hc722 : xbs kf < xbs u719
                  · have hc722u := hc722
                    unfold xbs at hc722u
                    have hn723 : kf ≤ 20 := by omega
                    have hn724 : u719 ≤ 2147483647 := by omega
                    refine xg_t (xg_icF (u := kf) (v := u719) rfl xnm0 xnm0 (xjs_geF hc722)) ?_
                    refine xg_t (xg_aload (va := (2, 82)) rfl rfl) ?_
                    refine xg_t (xg_getf (va := (2, 83)) h82_701 rfl) ?_
                    refine xg_t (xg_bip) ?_
                    refine xg_ialdB (n := 16) (B := 4294967295) h83_704 (hb705) xnm0 (by first | decide | omega) (fun u725 hu726 he727 => ?_)
                    by_cases hc728 : u725 = 0
                    · refine xg_t (xg_ifF (u := u725) rfl xnm0 (xj_neF hc728)) ?_
                      refine xg_t (xg_aload (va := (2, 82)) rfl rfl) ?_
                      have hD729 := (hz669.resolve_left (by omega)).2.2.2.2.1
                      have hl730 : kf ≤ 19 := by omega
                      refine xg_t (xg_getf (va := (2, 86)) h82_701 rfl) ?_
                      refine xg_t (xg_bip) ?_
                      refine xg_t (xg_const) ?_
                      refine xg_t (xg_iload (va := (0, kf)) rfl rfl) ?_
                      refine xg_t (xg_imul (u := 2) (v := kf) (z := 2 * kf) xnm0 xnm0 (by omega)) ?_
                      refine xg_t (xg_iadd (u := 100) (v := 2 * kf) (z := 100 + (2 * kf)) xnm0 xnm0 (by omega)) ?_
                      refine xg_ialdB (n := 100 + (2 * kf)) (B := 4294967295) h86_713 (hb714) xnm0 (by omega) (fun u731 hu732 he733 => ?_)
                      refine xg_t (xg_aload (va := (2, 82)) rfl rfl) ?_
                      refine xg_t (xg_getf (va := (2, 86)) h82_701 rfl) ?_
                      refine xg_t (xg_bip) ?_
                      refine xg_ialdB (n := 7) (B := 4294967295) h86_713 (hb714) xnm0 (by first | decide | omega) (fun u734 hu735 he736 => ?_)
                      by_cases hc737 : xbs u731 < xbs u734
                      · have hc737u := hc737
                        unfold xbs at hc737u
                        refine xg_t (xg_icF (u := u731) (v := u734) rfl xnm0 xnm0 (xjs_geF hc737)) ?_
                        refine xg_t (xg_aload (va := (2, 82)) rfl rfl) ?_
                        refine xg_t (xg_getf (va := (2, 86)) h82_701 rfl) ?_
                        refine xg_t (xg_bip) ?_
                        refine xg_t (xg_const) ?_
                        refine xg_t (xg_iload (va := (0, kf)) rfl rfl) ?_
                        refine xg_t (xg_imul (u := 2) (v := kf) (z := 2 * kf) xnm0 xnm0 (by omega)) ?_
                        refine xg_t (xg_iadd (u := 100) (v := 2 * kf) (z := 100 + (2 * kf)) xnm0 xnm0 (by omega)) ?_
                        refine xg_t (xg_const) ?_
                        refine xg_t (xg_iadd (u := 100 + (2 * kf)) (v := 1) (z := (100 + (2 * kf)) + 1) xnm0 xnm0 (by omega)) ?_
                        refine xg_ialdB (n := (100 + (2 * kf)) + 1) (B := 4294967295) h86_713 (hb714) xnm0 (by omega) (fun u738 hu739 he740 => ?_)
                        refine xg_t (xg_aload (va := (2, 82)) rfl rfl) ?_
                        refine xg_t (xg_getf (va := (2, 86)) h82_701 rfl) ?_
                        refine xg_t (xg_bip) ?_
                        refine xg_ialdB (n := 8) (B := 4294967295) h86_713 (hb714) xnm0 (by first | decide | omega) (fun u741 hu742 he743 => ?_)
                        by_cases hc744 : xbs u738 < xbs u741
                        · have hc744u := hc744
                          unfold xbs at hc744u
                          refine xg_t (xg_icT (u := u738) (v := u741) rfl xnm0 xnm0 (xjs_ltT hc744)) ?_
                          refine xg_t (xg_blq rfl) ?_
                          refine xg_t (xg_iinc (u := kf) (z := kf + 1) (l1 := [(0, (2, 82))]) rfl rfl (by omega) rfl) ?_
                          refine xg_t (xg_goto) ?_
                          refine xg_t (xg_drop (l1 := [(0, (2, 82)), (1, (0, kf + 1))]) (List.forall_mem_cons.mpr ⟨List.mem_cons_of_mem _ (List.mem_cons_self), List.forall_mem_cons.mpr ⟨List.mem_cons_self, fun _ h => absurd h List.not_mem_nil⟩⟩)) ?_
                          exact ih660 (kf + 1) w662 (by omega) (by omega) (hI663) (hF664) (⟨(show fld w662 82 10 = 0 ∨ FA w662 ≠ 0 by omega), hz669, hz670.k K83.rf⟩)
                        · have hc744u := hc744
                          unfold xbs at hc744u
                          refine xg_t (xg_icF (u := u738) (v := u741) rfl xnm0 xnm0 (xjs_ltF hc744)) ?_
                          refine xg_t (xg_blq rfl) ?_
                          refine xg_t (xg_aload (va := (2, 82)) rfl rfl) ?_
                          refine xg_t (xg_const) ?_
                          refine xg_t (xg_aload (va := (2, 82)) rfl rfl) ?_
                          refine xg_t (xg_getf (va := (2, 87)) h82_701 rfl) ?_
                          refine xg_t (xg_iload (va := (0, kf)) rfl rfl) ?_
                          refine xg_ialdB (n := kf) (B := 4294967295) h87_716 (hb717) xnm0 (by omega) (fun u745 hu746 he747 => ?_)
                          refine xg_cVv mX12_also (vs := [(0, 4), (0, u745)]) (rest := []) (cn1 := 0) (sl1 := 0) rfl (mAlso (hI663) (by omega) (by omega) (by omega) (show fld w662 82 10 = 0 ∨ FA w662 ≠ 0 by omega)) rfl h82_701 rfl rfl rfl rfl rfl rfl (fun w748 hq749 => ?_)
                          obtain ⟨hI750, hF751, hx752⟩ := hq749
                          obtain ⟨hv753, hv754⟩ := hx752
                          have hf755 := fld_fr (c := 82) (j := 7) hF751 (by decide)
                          have hf756 := fld_fr (c := 82) (j := 10) hF751 (by decide)
                          have hf757 := fld_fr (c := 82) (j := 14) hF751 (by decide)
                          have hf758 := mu_fr hF751 (by decide)
                          refine xg_t (xg_blq rfl) ?_
                          refine xg_t (xg_iinc (u := kf) (z := kf + 1) (l1 := [(0, (2, 82))]) rfl rfl (by omega) rfl) ?_
                          refine xg_t (xg_goto) ?_
                          refine xg_t (xg_drop (l1 := [(0, (2, 82)), (1, (0, kf + 1))]) (List.forall_mem_cons.mpr ⟨List.mem_cons_of_mem _ (List.mem_cons_self), List.forall_mem_cons.mpr ⟨List.mem_cons_self, fun _ h => absurd h List.not_mem_nil⟩⟩)) ?_
                          exact ih660 (kf + 1) w748 (by omega) (by omega) (hI750) ((hF664.tr (hF751.up (by decide)))) (⟨(show fld w748 82 10 = 0 ∨ FA w748 ≠ 0 by omega), Or.inl (by omega), hz670.k hv754⟩)
                      · have hc737u := hc737
                        unfold xbs at hc737u
                        refine xg_t (xg_icT (u := u731) (v := u734) rfl xnm0 xnm0 (xjs_geT hc737)) ?_
                        refine xg_t (xg_blq rfl) ?_
                        refine xg_t (xg_aload (va := (2, 82)) rfl rfl) ?_
                        refine xg_t (xg_const) ?_
                        refine xg_t (xg_aload (va := (2, 82)) rfl rfl) ?_
                        refine xg_t (xg_getf (va := (2, 87)) h82_701 rfl) ?_
                        refine xg_t (xg_iload (va := (0, kf)) rfl rfl) ?_
                        refine xg_ialdB (n := kf) (B := 4294967295) h87_716 (hb717) xnm0 (by omega) (fun u759 hu760 he761 => ?_)
                        refine xg_cVv mX12_also (vs := [(0, 4), (0, u759)]) (rest := []) (cn1 := 0) (sl1 := 0) rfl (mAlso (hI663) (by omega) (by omega) (by omega) (show fld w662 82 10 = 0 ∨ FA w662 ≠ 0 by omega)) rfl h82_701 rfl rfl rfl rfl rfl rfl (fun w762 hq763 => ?_)
                        obtain ⟨hI764, hF765, hx766⟩ := hq763
                        obtain ⟨hv767, hv768⟩ := hx766
                        have hf769 := fld_fr (c := 82) (j := 7) hF765 (by decide)
                        have hf770 := fld_fr (c := 82) (j := 10) hF765 (by decide)
                        have hf771 := fld_fr (c := 82) (j := 14) hF765 (by decide)
                        have hf772 := mu_fr hF765 (by decide)
                        refine xg_t (xg_blq rfl) ?_
                        refine xg_t (xg_iinc (u := kf) (z := kf + 1) (l1 := [(0, (2, 82))]) rfl rfl (by omega) rfl) ?_
                        refine xg_t (xg_goto) ?_
                        refine xg_t (xg_drop (l1 := [(0, (2, 82)), (1, (0, kf + 1))]) (List.forall_mem_cons.mpr ⟨List.mem_cons_of_mem _ (List.mem_cons_self), List.forall_mem_cons.mpr ⟨List.mem_cons_self, fun _ h => absurd h List.not_mem_nil⟩⟩)) ?_
                        exact ih660 (kf + 1) w762 (by omega) (by omega) (hI764) ((hF664.tr (hF765.up (by decide)))) (⟨(show fld w762 82 10 = 0 ∨ FA w762 ≠ 0 by omega), Or.inl (by omega), hz670.k hv768⟩)
                    · refine xg_t (xg_ifT (u := u725) rfl xnm0 (xj_neT hc728)) ?_
                      refine xg_t (xg_blq rfl) ?_
                      refine xg_t (xg_aload (va := (2, 82)) rfl rfl) ?_
                      refine xg_t (xg_getf (va := (2, 83)) h82_701 rfl) ?_
                      refine xg_t (xg_bip) ?_
                      refine xg_ialdB (n := 16) (B := 4294967295) h83_704 (hb705) xnm0 (by first | decide | omega) (fun u773 hu774 he775 => ?_)
                      by_cases hc776 : u773 = 0
                      · refine xg_t (xg_ifT (u := u773) rfl xnm0 (xj_eqT hc776)) ?_
                        refine xg_t (xg_blq rfl) ?_
                        have hDD := hz669.resolve_left (by omega)
                        have hdt := hDD.toDt h85_710 h86_713
                        refine xg_t (xg_const) ?_
                        refine xg_t (xg_istore (l1 := [(0, (2, 82))]) rfl rfl rfl) ?_
                        refine xg_t (xg_blq rfl) ?_
                        refine xg_t (xg_iload (va := (0, 0)) rfl rfl) ?_
                        refine xg_t (xg_const) ?_
                        refine xg_t (xg_icF (u := 0) (v := 5) rfl xnm0 xnm0 (by decide)) ?_
                        refine xg_t (xg_aload (va := (2, 82)) rfl rfl) ?_
                        refine xg_t (xg_getf (va := (2, 83)) h82_701 rfl) ?_
                        refine xg_t (xg_iload (va := (0, 0)) rfl rfl) ?_
                        refine xg_t (xg_aload (va := (2, 82)) rfl rfl) ?_
                        refine xg_t (xg_getf (va := (2, 85)) h82_701 rfl) ?_
                        refine xg_t (xg_iload (va := (0, 0)) rfl rfl) ?_
                        refine xg_ialdB (n := 0) (B := 4294967295) h85_710 (hb711) xnm0 (by first | decide | omega) (fun u777 hu778 he779 => ?_)
                        refine xg_iastK (n := 0) (u := u777) h83_704 xnm0 xnm0 rfl (by first | decide | omega) (fun w780 hr781 hb782 => ?_)
                        have hb783 : ∀ j, (fun j => if j = 0 then u777 else g83_703 j) j ≤ 4294967295 := xrb (by omega) (hb705)
                        obtain ⟨g784, hg785⟩ : ∃ g : Nat → Nat, g = (fun j => if j = 0 then u777 else g83_703 j) := ⟨_, rfl⟩
                        rw [← hg785] at hr781
                        have he786 : g784 0 = u777 := by rw [hg785]; exact if_pos rfl
                        have hk787 : ∀ j, j ≠ 0 → g784 j = g83_703 j := fun j hj => by rw [hg785]; exact if_neg hj
                        rw [← hg785] at hb783
                        refine xg_t (xg_iinc (u := 0) (z := 1) (l1 := [(0, (2, 82))]) rfl rfl (by decide) rfl) ?_
                        refine xg_t (xg_goto) ?_
                        refine xg_t (xg_blq rfl) ?_
                        refine xg_t (xg_iload (va := (0, 1)) rfl rfl) ?_
                        refine xg_t (xg_const) ?_
                        refine xg_t (xg_icF (u := 1) (v := 5) rfl xnm0 xnm0 (by decide)) ?_
                        refine xg_t (xg_aload (va := (2, 82)) rfl rfl) ?_
                        refine xg_t (xg_getf (va := (2, 83)) (hb782.get (by decide) h82_701) rfl) ?_
                        refine xg_t (xg_iload (va := (0, 1)) rfl rfl) ?_
                        refine xg_t (xg_aload (va := (2, 82)) rfl rfl) ?_
                        refine xg_t (xg_getf (va := (2, 85)) (hb782.get (by decide) h82_701) rfl) ?_
                        refine xg_t (xg_iload (va := (0, 1)) rfl rfl) ?_
                        refine xg_ialdB (n := 1) (B := 4294967295) (h85_710.but hb782 (by decide)) (hb711) xnm0 (by first | decide | omega) (fun u788 hu789 he790 => ?_)
                        refine xg_iastK (n := 1) (u := u788) hr781 xnm0 xnm0 rfl (by first | decide | omega) (fun w791 hr792 hb793 => ?_)
                        have hb794 : ∀ j, (fun j => if j = 1 then u788 else g784 j) j ≤ 4294967295 := xrb (by omega) (hb783)
                        obtain ⟨g795, hg796⟩ : ∃ g : Nat → Nat, g = (fun j => if j = 1 then u788 else g784 j) := ⟨_, rfl⟩
                        rw [← hg796] at hr792
                        have he797 : g795 1 = u788 := by rw [hg796]; exact if_pos rfl
                        have hk798 : ∀ j, j ≠ 1 → g795 j = g784 j := fun j hj => by rw [hg796]; exact if_neg hj
                        rw [← hg796] at hb794
                        refine xg_t (xg_iinc (u := 1) (z := 2) (l1 := [(0, (2, 82))]) rfl rfl (by decide) rfl) ?_
                        refine xg_t (xg_goto) ?_
                        refine xg_t (xg_blq rfl) ?_
                        refine xg_t (xg_iload (va := (0, 2)) rfl rfl) ?_
                        refine xg_t (xg_const) ?_
                        refine xg_t (xg_icF (u := 2) (v := 5) rfl xnm0 xnm0 (by decide)) ?_
                        refine xg_t (xg_aload (va := (2, 82)) rfl rfl) ?_
                        refine xg_t (xg_getf (va := (2, 83)) (hb793.get (by decide) (hb782.get (by decide) h82_701)) rfl) ?_
                        refine xg_t (xg_iload (va := (0, 2)) rfl rfl) ?_
                        refine xg_t (xg_aload (va := (2, 82)) rfl rfl) ?_
                        refine xg_t (xg_getf (va := (2, 85)) (hb793.get (by decide) (hb782.get (by decide) h82_701)) rfl) ?_
                        refine xg_t (xg_iload (va := (0, 2)) rfl rfl) ?_
                        refine xg_ialdB (n := 2) (B := 4294967295) ((h85_710.but hb782 (by decide)).but hb793 (by decide)) (hb711) xnm0 (by first | decide | omega) (fun u799 hu800 he801 => ?_)
                        refine xg_iastK (n := 2) (u := u799) hr792 xnm0 xnm0 rfl (by first | decide | omega) (fun w802 hr803 hb804 => ?_)
                        have hb805 : ∀ j, (fun j => if j = 2 then u799 else g795 j) j ≤ 4294967295 := xrb (by omega) (hb794)
                        obtain ⟨g806, hg807⟩ : ∃ g : Nat → Nat, g = (fun j => if j = 2 then u799 else g795 j) := ⟨_, rfl⟩
                        rw [← hg807] at hr803
                        have he808 : g806 2 = u799 := by rw [hg807]; exact if_pos rfl
                        have hk809 : ∀ j, j ≠ 2 → g806 j = g795 j := fun j hj => by rw [hg807]; exact if_neg hj
                        rw [← hg807] at hb805
                        refine xg_t (xg_iinc (u := 2) (z := 3) (l1 := [(0, (2, 82))]) rfl rfl (by decide) rfl) ?_
                        refine xg_t (xg_goto) ?_
                        refine xg_t (xg_blq rfl) ?_
                        refine xg_t (xg_iload (va := (0, 3)) rfl rfl) ?_
                        refine xg_t (xg_const) ?_
                        refine xg_t (xg_icF (u := 3) (v := 5) rfl xnm0 xnm0 (by decide)) ?_
                        refine xg_t (xg_aload (va := (2, 82)) rfl rfl) ?_
                        refine xg_t (xg_getf (va := (2, 83)) (hb804.get (by decide) (hb793.get (by decide) (hb782.get (by decide) h82_701))) rfl) ?_
                        refine xg_t (xg_iload (va := (0, 3)) rfl rfl) ?_
                        refine xg_t (xg_aload (va := (2, 82)) rfl rfl) ?_
                        refine xg_t (xg_getf (va := (2, 85)) (hb804.get (by decide) (hb793.get (by decide) (hb782.get (by decide) h82_701))) rfl) ?_
                        refine xg_t (xg_iload (va := (0, 3)) rfl rfl) ?_
                        refine xg_ialdB (n := 3) (B := 4294967295) (((h85_710.but hb782 (by decide)).but hb793 (by decide)).but hb804 (by decide)) (hb711) xnm0 (by first | decide | omega) (fun u810 hu811 he812 => ?_)
                        refine xg_iastK (n := 3) (u := u810) hr803 xnm0 xnm0 rfl (by first | decide | omega) (fun w813 hr814 hb815 => ?_)
                        have hb816 : ∀ j, (fun j => if j = 3 then u810 else g806 j) j ≤ 4294967295 := xrb (by omega) (hb805)
                        obtain ⟨g817, hg818⟩ : ∃ g : Nat → Nat, g = (fun j => if j = 3 then u810 else g806 j) := ⟨_, rfl⟩
                        rw [← hg818] at hr814
                        have he819 : g817 3 = u810 := by rw [hg818]; exact if_pos rfl
                        have hk820 : ∀ j, j ≠ 3 → g817 j = g806 j := fun j hj => by rw [hg818]; exact if_neg hj
                        rw [← hg818] at hb816
                        refine xg_t (xg_iinc (u := 3) (z := 4) (l1 := [(0, (2, 82))]) rfl rfl (by decide) rfl) ?_
                        refine xg_t (xg_goto) ?_
                        refine xg_t (xg_blq rfl) ?_
                        refine xg_t (xg_iload (va := (0, 4)) rfl rfl) ?_
                        refine xg_t (xg_const) ?_
                        refine xg_t (xg_icF (u := 4) (v := 5) rfl xnm0 xnm0 (by decide)) ?_
                        refine xg_t (xg_aload (va := (2, 82)) rfl rfl) ?_
                        refine xg_t (xg_getf (va := (2, 83)) (hb815.get (by decide) (hb804.get (by decide) (hb793.get (by decide) (hb782.get (by decide) h82_701)))) rfl) ?_
                        refine xg_t (xg_iload (va := (0, 4)) rfl rfl) ?_
                        refine xg_t (xg_aload (va := (2, 82)) rfl rfl) ?_
                        refine xg_t (xg_getf (va := (2, 85)) (hb815.get (by decide) (hb804.get (by decide) (hb793.get (by decide) (hb782.get (by decide) h82_701)))) rfl) ?_
                        refine xg_t (xg_iload (va := (0, 4)) rfl rfl) ?_
                        refine xg_ialdB (n := 4) (B := 4294967295) ((((h85_710.but hb782 (by decide)).but hb793 (by decide)).but hb804 (by decide)).but hb815 (by decide)) (hb711) xnm0 (by first | decide | omega) (fun u821 hu822 he823 => ?_)
                        refine xg_iastK (n := 4) (u := u821) hr814 xnm0 xnm0 rfl (by first | decide | omega) (fun w824 hr825 hb826 => ?_)
                        have hb827 : ∀ j, (fun j => if j = 4 then u821 else g817 j) j ≤ 4294967295 := xrb (by omega) (hb816)
                        obtain ⟨g828, hg829⟩ : ∃ g : Nat → Nat, g = (fun j => if j = 4 then u821 else g817 j) := ⟨_, rfl⟩
                        rw [← hg829] at hr825
                        have he830 : g828 4 = u821 := by rw [hg829]; exact if_pos rfl
                        have hk831 : ∀ j, j ≠ 4 → g828 j = g817 j := fun j hj => by rw [hg829]; exact if_neg hj
                        rw [← hg829] at hb827
                        refine xg_t (xg_iinc (u := 4) (z := 5) (l1 := [(0, (2, 82))]) rfl rfl (by decide) rfl) ?_
                        refine xg_t (xg_goto) ?_
                        refine xg_t (xg_blq rfl) ?_
                        refine xg_t (xg_iload (va := (0, 5)) rfl rfl) ?_
                        refine xg_t (xg_const) ?_
                        refine xg_t (xg_icT (u := 5) (v := 5) rfl xnm0 xnm0 (by decide)) ?_
                        refine xg_t (xg_blq rfl) ?_
                        refine xg_t (xg_const) ?_
                        refine xg_t (xg_istore (l1 := [(0, (2, 82))]) rfl rfl rfl) ?_
                        refine xg_t (xg_blq rfl) ?_
                        refine xg_t (xg_iload (va := (0, 5)) rfl rfl) ?_
                        refine xg_t (xg_bip) ?_
                        refine xg_t (xg_icF (u := 5) (v := 8) rfl xnm0 xnm0 (by decide)) ?_
                        refine xg_t (xg_aload (va := (2, 82)) rfl rfl) ?_
                        refine xg_t (xg_getf (va := (2, 83)) (hb826.get (by decide) (hb815.get (by decide) (hb804.get (by decide) (hb793.get (by decide) (hb782.get (by decide) h82_701))))) rfl) ?_
                        refine xg_t (xg_iload (va := (0, 5)) rfl rfl) ?_
                        refine xg_t (xg_aload (va := (2, 82)) rfl rfl) ?_
                        refine xg_t (xg_getf (va := (2, 86)) (hb826.get (by decide) (hb815.get (by decide) (hb804.get (by decide) (hb793.get (by decide) (hb782.get (by decide) h82_701))))) rfl) ?_
                        refine xg_t (xg_iload (va := (0, 5)) rfl rfl) ?_
                        refine xg_ialdB (n := 5) (B := 4294967295) (((((h86_713.but hb782 (by decide)).but hb793 (by decide)).but hb804 (by decide)).but hb815 (by decide)).but hb826 (by decide)) (hb714) xnm0 (by first | decide | omega) (fun u832 hu833 he834 => ?_)
                        refine xg_iastK (n := 5) (u := u832) hr825 xnm0 xnm0 rfl (by first | decide | omega) (fun w835 hr836 hb837 => ?_)
                        have hb838 : ∀ j, (fun j => if j = 5 then u832 else g828 j) j ≤ 4294967295 := xrb (by omega) (hb827)
                        obtain ⟨g839, hg840⟩ : ∃ g : Nat → Nat, g = (fun j => if j = 5 then u832 else g828 j) := ⟨_, rfl⟩
                        rw [← hg840] at hr836
                        have he841 : g839 5 = u832 := by rw [hg840]; exact if_pos rfl
                        have hk842 : ∀ j, j ≠ 5 → g839 j = g828 j := fun j hj => by rw [hg840]; exact if_neg hj
                        rw [← hg840] at hb838
                        refine xg_t (xg_iinc (u := 5) (z := 6) (l1 := [(0, (2, 82))]) rfl rfl (by decide) rfl) ?_
                        refine xg_t (xg_goto) ?_
                        refine xg_t (xg_blq rfl) ?_
                        refine xg_t (xg_iload (va := (0, 6)) rfl rfl) ?_
                        refine xg_t (xg_bip) ?_
                        refine xg_t (xg_icF (u := 6) (v := 8) rfl xnm0 xnm0 (by decide)) ?_
                        refine xg_t (xg_aload (va := (2, 82)) rfl rfl) ?_
                        refine xg_t (xg_getf (va := (2, 83)) (hb837.get (by decide) (hb826.get (by decide) (hb815.get (by decide) (hb804.get (by decide) (hb793.get (by decide) (hb782.get (by decide) h82_701)))))) rfl) ?_
                        refine xg_t (xg_iload (va := (0, 6)) rfl rfl) ?_
                        refine xg_t (xg_aload (va := (2, 82)) rfl rfl) ?_
                        refine xg_t (xg_getf (va := (2, 86)) (hb837.get (by decide) (hb826.get (by decide) (hb815.get (by decide) (hb804.get (by decide) (hb793.get (by decide) (hb782.get (by decide) h82_701)))))) rfl) ?_
                        refine xg_t (xg_iload (va := (0, 6)) rfl rfl) ?_
                        refine xg_ialdB (n := 6) (B := 4294967295) ((((((h86_713.but hb782 (by decide)).but hb793 (by decide)).but hb804 (by decide)).but hb815 (by decide)).but hb826 (by decide)).but hb837 (by decide)) (hb714) xnm0 (by first | decide | omega) (fun u843 hu844 he845 => ?_)
                        refine xg_iastK (n := 6) (u := u843) hr836 xnm0 xnm0 rfl (by first | decide | omega) (fun w846 hr847 hb848 => ?_)
                        have hb849 : ∀ j, (fun j => if j = 6 then u843 else g839 j) j ≤ 4294967295 := xrb (by omega) (hb838)
                        obtain ⟨g850, hg851⟩ : ∃ g : Nat → Nat, g = (fun j => if j = 6 then u843 else g839 j) := ⟨_, rfl⟩
                        rw [← hg851] at hr847
                        have he852 : g850 6 = u843 := by rw [hg851]; exact if_pos rfl
                        have hk853 : ∀ j, j ≠ 6 → g850 j = g839 j := fun j hj => by rw [hg851]; exact if_neg hj
                        rw [← hg851] at hb849
                        refine xg_t (xg_iinc (u := 6) (z := 7) (l1 := [(0, (2, 82))]) rfl rfl (by decide) rfl) ?_
                        refine xg_t (xg_goto) ?_
                        refine xg_t (xg_blq rfl) ?_
                        refine xg_t (xg_iload (va := (0, 7)) rfl rfl) ?_
                        refine xg_t (xg_bip) ?_
                        refine xg_t (xg_icF (u := 7) (v := 8) rfl xnm0 xnm0 (by decide)) ?_
                        refine xg_t (xg_aload (va := (2, 82)) rfl rfl) ?_
                        refine xg_t (xg_getf (va := (2, 83)) (hb848.get (by decide) (hb837.get (by decide) (hb826.get (by decide) (hb815.get (by decide) (hb804.get (by decide) (hb793.get (by decide) (hb782.get (by decide) h82_701))))))) rfl) ?_
                        refine xg_t (xg_iload (va := (0, 7)) rfl rfl) ?_
                        refine xg_t (xg_aload (va := (2, 82)) rfl rfl) ?_
                        refine xg_t (xg_getf (va := (2, 86)) (hb848.get (by decide) (hb837.get (by decide) (hb826.get (by decide) (hb815.get (by decide) (hb804.get (by decide) (hb793.get (by decide) (hb782.get (by decide) h82_701))))))) rfl) ?_
                        refine xg_t (xg_iload (va := (0, 7)) rfl rfl) ?_
                        refine xg_ialdB (n := 7) (B := 4294967295) (((((((h86_713.but hb782 (by decide)).but hb793 (by decide)).but hb804 (by decide)).but hb815 (by decide)).but hb826 (by decide)).but hb837 (by decide)).but hb848 (by decide)) (hb714) xnm0 (by first | decide | omega) (fun u854 hu855 he856 => ?_)
                        refine xg_iastK (n := 7) (u := u854) hr847 xnm0 xnm0 rfl (by first | decide | omega) (fun w857 hr858 hb859 => ?_)
                        have hb860 : ∀ j, (fun j => if j = 7 then u854 else g850 j) j ≤ 4294967295 := xrb (by omega) (hb849)
                        obtain ⟨g861, hg862⟩ : ∃ g : Nat → Nat, g = (fun j => if j = 7 then u854 else g850 j) := ⟨_, rfl⟩
                        rw [← hg862] at hr858
                        have he863 : g861 7 = u854 := by rw [hg862]; exact if_pos rfl
                        have hk864 : ∀ j, j ≠ 7 → g861 j = g850 j := fun j hj => by rw [hg862]; exact if_neg hj
                        rw [← hg862] at hb860
                        refine xg_t (xg_iinc (u := 7) (z := 8) (l1 := [(0, (2, 82))]) rfl rfl (by decide) rfl) ?_
                        refine xg_t (xg_goto) ?_
                        refine xg_t (xg_blq rfl) ?_
                        refine xg_t (xg_iload (va := (0, 8)) rfl rfl) ?_
                        refine xg_t (xg_bip) ?_
                        refine xg_t (xg_icF (u := 8) (v := 8) rfl xnm0 xnm0 (by decide)) ?_
                        refine xg_t (xg_aload (va := (2, 82)) rfl rfl) ?_
                        refine xg_t (xg_getf (va := (2, 83)) (hb859.get (by decide) (hb848.get (by decide) (hb837.get (by decide) (hb826.get (by decide) (hb815.get (by decide) (hb804.get (by decide) (hb793.get (by decide) (hb782.get (by decide) h82_701)))))))) rfl) ?_
                        refine xg_t (xg_iload (va := (0, 8)) rfl rfl) ?_
                        refine xg_t (xg_aload (va := (2, 82)) rfl rfl) ?_
                        refine xg_t (xg_getf (va := (2, 86)) (hb859.get (by decide) (hb848.get (by decide) (hb837.get (by decide) (hb826.get (by decide) (hb815.get (by decide) (hb804.get (by decide) (hb793.get (by decide) (hb782.get (by decide) h82_701)))))))) rfl) ?_
                        refine xg_t (xg_iload (va := (0, 8)) rfl rfl) ?_
                        refine xg_ialdB (n := 8) (B := 4294967295) ((((((((h86_713.but hb782 (by decide)).but hb793 (by decide)).but hb804 (by decide)).but hb815 (by decide)).but hb826 (by decide)).but hb837 (by decide)).but hb848 (by decide)).but hb859 (by decide)) (hb714) xnm0 (by first | decide | omega) (fun u865 hu866 he867 => ?_)
                        refine xg_iastK (n := 8) (u := u865) hr858 xnm0 xnm0 rfl (by first | decide | omega) (fun w868 hr869 hb870 => ?_)
                        have hb871 : ∀ j, (fun j => if j = 8 then u865 else g861 j) j ≤ 4294967295 := xrb (by omega) (hb860)
                        obtain ⟨g872, hg873⟩ : ∃ g : Nat → Nat, g = (fun j => if j = 8 then u865 else g861 j) := ⟨_, rfl⟩
                        rw [← hg873] at hr869
                        have he874 : g872 8 = u865 := by rw [hg873]; exact if_pos rfl
                        have hk875 : ∀ j, j ≠ 8 → g872 j = g861 j := fun j hj => by rw [hg873]; exact if_neg hj
                        rw [← hg873] at hb871
                        refine xg_t (xg_iinc (u := 8) (z := 9) (l1 := [(0, (2, 82))]) rfl rfl (by decide) rfl) ?_
                        refine xg_t (xg_goto) ?_
                        refine xg_t (xg_blq rfl) ?_
                        refine xg_t (xg_iload (va := (0, 9)) rfl rfl) ?_
                        refine xg_t (xg_bip) ?_
                        refine xg_t (xg_icT (u := 9) (v := 8) rfl xnm0 xnm0 (by decide)) ?_
                        refine xg_t (xg_blq rfl) ?_
                        refine xg_t (xg_bip) ?_
                        refine xg_t (xg_istore (l1 := [(0, (2, 82))]) rfl rfl rfl) ?_
                        refine xg_t (xg_drop (l1 := [(0, (2, 82)), (1, (0, 20))]) (List.forall_mem_cons.mpr ⟨List.mem_cons_of_mem _ (List.mem_cons_self), List.forall_mem_cons.mpr ⟨List.mem_cons_self, fun _ h => absurd h List.not_mem_nil⟩⟩)) ?_
                        refine cpFilm 120 20 w868 g872 (by decide) hr869 hb871 (((((((((h86_713.but hb782 (by decide)).but hb793 (by decide)).but hb804 (by decide)).but hb815 (by decide)).but hb826 (by decide)).but hb837 (by decide)).but hb848 (by decide)).but hb859 (by decide)).but hb870 (by decide)) hb714 (hb870.get (by decide) (hb859.get (by decide) (hb848.get (by decide) (hb837.get (by decide) (hb826.get (by decide) (hb815.get (by decide) (hb804.get (by decide) (hb793.get (by decide) (hb782.get (by decide) h82_701))))))))) (fun w876 g877 hc878 hc879 hc880 hc881 hc882 => ?_)
                        refine xg_t (xg_blq rfl) ?_
                        refine xg_t (xg_aload (va := (2, 82)) rfl rfl) ?_
                        refine xg_t (xg_getf (va := (2, 83)) (hc880.get (by decide) (hb870.get (by decide) (hb859.get (by decide) (hb848.get (by decide) (hb837.get (by decide) (hb826.get (by decide) (hb815.get (by decide) (hb804.get (by decide) (hb793.get (by decide) (hb782.get (by decide) h82_701)))))))))) rfl) ?_
                        refine xg_t (xg_bip) ?_
                        refine xg_t (xg_const) ?_
                        refine xg_iastK (n := 9) (u := 0) hc878 xnm0 xnm0 rfl (by first | decide | omega) (fun w883 hr884 hb885 => ?_)
                        have hb886 : ∀ j, (fun j => if j = 9 then 0 else g877 j) j ≤ 4294967295 := xrb (by omega) (hc879)
                        obtain ⟨g887, hg888⟩ : ∃ g : Nat → Nat, g = (fun j => if j = 9 then 0 else g877 j) := ⟨_, rfl⟩
                        rw [← hg888] at hr884
                        have he889 : g887 9 = 0 := by rw [hg888]; exact if_pos rfl
                        have hk890 : ∀ j, j ≠ 9 → g887 j = g877 j := fun j hj => by rw [hg888]; exact if_neg hj
                        rw [← hg888] at hb886
                        refine xg_t (xg_aload (va := (2, 82)) rfl rfl) ?_
                        refine xg_t (xg_getf (va := (2, 83)) (hb885.get (by decide) (hc880.get (by decide) (hb870.get (by decide) (hb859.get (by decide) (hb848.get (by decide) (hb837.get (by decide) (hb826.get (by decide) (hb815.get (by decide) (hb804.get (by decide) (hb793.get (by decide) (hb782.get (by decide) h82_701))))))))))) rfl) ?_
                        refine xg_t (xg_bip) ?_
                        refine xg_t (xg_const) ?_
                        refine xg_iastK (n := 10) (u := 0) hr884 xnm0 xnm0 rfl (by first | decide | omega) (fun w891 hr892 hb893 => ?_)
                        have hb894 : ∀ j, (fun j => if j = 10 then 0 else g887 j) j ≤ 4294967295 := xrb (by omega) (hb886)
                        obtain ⟨g895, hg896⟩ : ∃ g : Nat → Nat, g = (fun j => if j = 10 then 0 else g887 j) := ⟨_, rfl⟩
                        rw [← hg896] at hr892
                        have he897 : g895 10 = 0 := by rw [hg896]; exact if_pos rfl
                        have hk898 : ∀ j, j ≠ 10 → g895 j = g887 j := fun j hj => by rw [hg896]; exact if_neg hj
                        rw [← hg896] at hb894
                        refine xg_t (xg_aload (va := (2, 82)) rfl rfl) ?_
                        refine xg_t (xg_getf (va := (2, 83)) (hb893.get (by decide) (hb885.get (by decide) (hc880.get (by decide) (hb870.get (by decide) (hb859.get (by decide) (hb848.get (by decide) (hb837.get (by decide) (hb826.get (by decide) (hb815.get (by decide) (hb804.get (by decide) (hb793.get (by decide) (hb782.get (by decide) h82_701)))))))))))) rfl) ?_
                        refine xg_t (xg_bip) ?_
                        refine xg_t (xg_aload (va := (2, 82)) rfl rfl) ?_
                        refine xg_t (xg_getf (va := (0, f82_689)) (hb893.get (by decide) (hb885.get (by decide) (hc880.get (by decide) (hb870.get (by decide) (hb859.get (by decide) (hb848.get (by decide) (hb837.get (by decide) (hb826.get (by decide) (hb815.get (by decide) (hb804.get (by decide) (hb793.get (by decide) (hb782.get (by decide) h82_701)))))))))))) rfl) ?_
                        have hn899 : f82_689 ≤ 4294967295 := hb690
                        refine xg_iastK (n := 14) (u := f82_689) hr892 xnm0 xnm0 rfl (by first | decide | omega) (fun w900 hr901 hb902 => ?_)
                        have hb903 : ∀ j, (fun j => if j = 14 then f82_689 else g895 j) j ≤ 4294967295 := xrb (by omega) (hb894)
                        obtain ⟨g904, hg905⟩ : ∃ g : Nat → Nat, g = (fun j => if j = 14 then f82_689 else g895 j) := ⟨_, rfl⟩
                        rw [← hg905] at hr901
                        have he906 : g904 14 = f82_689 := by rw [hg905]; exact if_pos rfl
                        have hk907 : ∀ j, j ≠ 14 → g904 j = g895 j := fun j hj => by rw [hg905]; exact if_neg hj
                        rw [← hg905] at hb903
                        have hq908 : g904 0 = u777 := by rw [hk907 0 (by omega), hk898 0 (by omega), hk890 0 (by omega), hc882 0 (by omega), hk875 0 (by omega), hk864 0 (by omega), hk853 0 (by omega), hk842 0 (by omega), hk831 0 (by omega), hk820 0 (by omega), hk809 0 (by omega), hk798 0 (by omega), he786]
                        have hq909 : g904 1 = u788 := by rw [hk907 1 (by omega), hk898 1 (by omega), hk890 1 (by omega), hc882 1 (by omega), hk875 1 (by omega), hk864 1 (by omega), hk853 1 (by omega), hk842 1 (by omega), hk831 1 (by omega), hk820 1 (by omega), hk809 1 (by omega), he797]
                        have hq910 : g904 2 = u799 := by rw [hk907 2 (by omega), hk898 2 (by omega), hk890 2 (by omega), hc882 2 (by omega), hk875 2 (by omega), hk864 2 (by omega), hk853 2 (by omega), hk842 2 (by omega), hk831 2 (by omega), hk820 2 (by omega), he808]
                        have hq911 : g904 3 = u810 := by rw [hk907 3 (by omega), hk898 3 (by omega), hk890 3 (by omega), hc882 3 (by omega), hk875 3 (by omega), hk864 3 (by omega), hk853 3 (by omega), hk842 3 (by omega), hk831 3 (by omega), he819]
                        have hq912 : g904 4 = u821 := by rw [hk907 4 (by omega), hk898 4 (by omega), hk890 4 (by omega), hc882 4 (by omega), hk875 4 (by omega), hk864 4 (by omega), hk853 4 (by omega), hk842 4 (by omega), he830]
                        have hq913 : g904 5 = u832 := by rw [hk907 5 (by omega), hk898 5 (by omega), hk890 5 (by omega), hc882 5 (by omega), hk875 5 (by omega), hk864 5 (by omega), hk853 5 (by omega), he841]
                        have hq914 : g904 6 = u843 := by rw [hk907 6 (by omega), hk898 6 (by omega), hk890 6 (by omega), hc882 6 (by omega), hk875 6 (by omega), hk864 6 (by omega), he852]
                        have hq915 : g904 7 = u854 := by rw [hk907 7 (by omega), hk898 7 (by omega), hk890 7 (by omega), hc882 7 (by omega), hk875 7 (by omega), he863]
                        have hq916 : g904 8 = u865 := by rw [hk907 8 (by omega), hk898 8 (by omega), hk890 8 (by omega), hc882 8 (by omega), he874]
                        have hq917 : g904 9 = 0 := by rw [hk907 9 (by omega), hk898 9 (by omega), he889]
                        have hq918 : g904 10 = 0 := by rw [hk907 10 (by omega), he897]
                        have hq919 : ∀ j, 20 ≤ j → j < 140 → g904 j = g86_712 j := fun j h1 h2 => by rw [hk907 j (by omega), hk898 j (by omega), hk890 j (by omega)]; exact hc881 j h1 h2
                        have hq920 : ∀ j, 140 ≤ j ∨ j = 11 ∨ j = 12 ∨ j = 13 ∨ j = 15 → g904 j = g83_703 j := fun j hj => by rw [hk907 j (by omega), hk898 j (by omega), hk890 j (by omega), hc882 j (by omega), hk875 j (by omega), hk864 j (by omega), hk853 j (by omega), hk842 j (by omega), hk831 j (by omega), hk820 j (by omega), hk809 j (by omega), hk798 j (by omega), hk787 j (by omega)]
                        have hx921 : okA g904 := film_ok hx706 hdt (by omega) (by omega) (by omega) (by omega) (by omega) (by omega) (by omega) (by omega) (by omega) (by omega) (by omega) hq919 (fun j hj => hq920 j (by omega))
                        refine xg_t (xg_aload (va := (2, 82)) rfl rfl) ?_
                        refine xg_t (xg_getf (va := (0, f82_689)) (hb902.get (by decide) (hb893.get (by decide) (hb885.get (by decide) (hc880.get (by decide) (hb870.get (by decide) (hb859.get (by decide) (hb848.get (by decide) (hb837.get (by decide) (hb826.get (by decide) (hb815.get (by decide) (hb804.get (by decide) (hb793.get (by decide) (hb782.get (by decide) h82_701))))))))))))) rfl) ?_
                        have kk922 := (hz670.k K83.rf)
                        exact xg_e ⟨f82_689, w900, ⟨rfl, rfl⟩, ⟨by omega, (rwv_of hr901 (by decide)).trans ((hq920 15 (by omega)).trans ((rwv_of h83_704 (by decide)).symm.trans kk922.1)), fun j h1 h2 => (rwv_of hr901 h2).trans ((hq920 j (by omega)).trans ((rwv_of h83_704 h2).symm.trans (kk922.2 j h2 (by omega) (by omega) (by omega))))⟩, xMnv.up (S := [83]) hI663 (((((((((((((xFr.of (S := [83]) hb782 (by decide)).tr (xFr.of (S := [83]) hb793 (by decide))).tr (xFr.of (S := [83]) hb804 (by decide))).tr (xFr.of (S := [83]) hb815 (by decide))).tr (xFr.of (S := [83]) hb826 (by decide))).tr (xFr.of (S := [83]) hb837 (by decide))).tr (xFr.of (S := [83]) hb848 (by decide))).tr (xFr.of (S := [83]) hb859 (by decide))).tr (xFr.of (S := [83]) hb870 (by decide))).tr (xFr.of (S := [83]) hc880 (by decide))).tr (xFr.of (S := [83]) hb885 (by decide))).tr (xFr.of (S := [83]) hb893 (by decide))).tr (xFr.of (S := [83]) hb902 (by decide))) (List.forall_mem_cons.mpr ⟨xqu83 (show cpx83 (wget w900 83) from ⟨_, hr901, hb903, hx921⟩), fun _ h => absurd h List.not_mem_nil⟩), (hF664.tr (((((((((((((xFr.of (S := [82, 83, 85, 86, 87]) hb782 (by decide)).tr (xFr.of (S := [82, 83, 85, 86, 87]) hb793 (by decide))).tr (xFr.of (S := [82, 83, 85, 86, 87]) hb804 (by decide))).tr (xFr.of (S := [82, 83, 85, 86, 87]) hb815 (by decide))).tr (xFr.of (S := [82, 83, 85, 86, 87]) hb826 (by decide))).tr (xFr.of (S := [82, 83, 85, 86, 87]) hb837 (by decide))).tr (xFr.of (S := [82, 83, 85, 86, 87]) hb848 (by decide))).tr (xFr.of (S := [82, 83, 85, 86, 87]) hb859 (by decide))).tr (xFr.of (S := [82, 83, 85, 86, 87]) hb870 (by decide))).tr (xFr.of (S := [82, 83, 85, 86, 87]) hc880 (by decide))).tr (xFr.of (S := [82, 83, 85, 86, 87]) hb885 (by decide))).tr (xFr.of (S := [82, 83, 85, 86, 87]) hb893 (by decide))).tr (xFr.of (S := [82, 83, 85, 86, 87]) hb902 (by decide))))⟩
                      · refine xg_t (xg_ifF (u := u773) rfl xnm0 (xj_eqF hc776)) ?_
                        refine xg_t (xg_const) ?_
                        have kk923 := hz670.k K83.rf
                        exact xg_e ⟨4294967295, w662, ⟨rfl, rfl⟩, ⟨by omega, kk923.1, fun j h1 h2 => kk923.2 j h2 (by omega) (by omega) (by omega)⟩, hI663, hF664⟩
                  · have hc722u := hc722
                    unfold xbs at hc722u
                    have hn924 : kf ≤ 20 := by omega
                    refine xg_t (xg_icT (u := kf) (v := u719) rfl xnm0 xnm0 (xjs_geT hc722)) ?_
                    refine xg_t (xg_blq rfl) ?_
                    refine xg_t (xg_aload (va := (2, 82)) rfl rfl) ?_
                    refine xg_t (xg_getf (va := (2, 83)) h82_701 rfl) ?_
                    refine xg_t (xg_bip) ?_
                    refine xg_ialdB (n := 16) (B := 4294967295) h83_704 (hb705) xnm0 (by first | decide | omega) (fun u925 hu926 he927 => ?_)
                    by_cases hc928 : u925 = 0
                    · refine xg_t (xg_ifT (u := u925) rfl xnm0 (xj_eqT hc928)) ?_
                      refine xg_t (xg_blq rfl) ?_
                      have hDD := hz669.resolve_left (by omega)
                      have hdt := hDD.toDt h85_710 h86_713
                      refine xg_t (xg_const) ?_
                      refine xg_t (xg_istore (l1 := [(0, (2, 82))]) rfl rfl rfl) ?_
                      refine xg_t (xg_blq rfl) ?_
                      refine xg_t (xg_iload (va := (0, 0)) rfl rfl) ?_
                      refine xg_t (xg_const) ?_
                      refine xg_t (xg_icF (u := 0) (v := 5) rfl xnm0 xnm0 (by decide)) ?_
                      refine xg_t (xg_aload (va := (2, 82)) rfl rfl) ?_
                      refine xg_t (xg_getf (va := (2, 83)) h82_701 rfl) ?_
                      refine xg_t (xg_iload (va := (0, 0)) rfl rfl) ?_
                      refine xg_t (xg_aload (va := (2, 82)) rfl rfl) ?_
                      refine xg_t (xg_getf (va := (2, 85)) h82_701 rfl) ?_
                      refine xg_t (xg_iload (va := (0, 0)) rfl rfl) ?_
                      refine xg_ialdB (n := 0) (B := 4294967295) h85_710 (hb711) xnm0 (by first | decide | omega) (fun u929 hu930 he931 => ?_)
                      refine xg_iastK (n := 0) (u := u929) h83_704 xnm0 xnm0 rfl (by first | decide | omega) (fun w932 hr933 hb934 => ?_)
                      have hb935 : ∀ j, (fun j => if j = 0 then u929 else g83_703 j) j ≤ 4294967295 := xrb (by omega) (hb705)
                      obtain ⟨g936, hg937⟩ : ∃ g : Nat → Nat, g = (fun j => if j = 0 then u929 else g83_703 j) := ⟨_, rfl⟩
                      rw [← hg937] at hr933
                      have he938 : g936 0 = u929 := by rw [hg937]; exact if_pos rfl
                      have hk939 : ∀ j, j ≠ 0 → g936 j = g83_703 j := fun j hj => by rw [hg937]; exact if_neg hj
                      rw [← hg937] at hb935
                      refine xg_t (xg_iinc (u := 0) (z := 1) (l1 := [(0, (2, 82))]) rfl rfl (by decide) rfl) ?_
                      refine xg_t (xg_goto) ?_
                      refine xg_t (xg_blq rfl) ?_
                      refine xg_t (xg_iload (va := (0, 1)) rfl rfl) ?_
                      refine xg_t (xg_const) ?_
                      refine xg_t (xg_icF (u := 1) (v := 5) rfl xnm0 xnm0 (by decide)) ?_
                      refine xg_t (xg_aload (va := (2, 82)) rfl rfl) ?_
                      refine xg_t (xg_getf (va := (2, 83)) (hb934.get (by decide) h82_701) rfl) ?_
                      refine xg_t (xg_iload (va := (0, 1)) rfl rfl) ?_
                      refine xg_t (xg_aload (va := (2, 82)) rfl rfl) ?_
                      refine xg_t (xg_getf (va := (2, 85)) (hb934.get (by decide) h82_701) rfl) ?_
                      refine xg_t (xg_iload (va := (0, 1)) rfl rfl) ?_
                      refine xg_ialdB (n := 1) (B := 4294967295) (h85_710.but hb934 (by decide)) (hb711) xnm0 (by first | decide | omega) (fun u940 hu941 he942 => ?_)
                      refine xg_iastK (n := 1) (u := u940) hr933 xnm0 xnm0 rfl (by first | decide | omega) (fun w943 hr944 hb945 => ?_)
                      have hb946 : ∀ j, (fun j => if j = 1 then u940 else g936 j) j ≤ 4294967295 := xrb (by omega) (hb935)
                      obtain ⟨g947, hg948⟩ : ∃ g : Nat → Nat, g = (fun j => if j = 1 then u940 else g936 j) := ⟨_, rfl⟩
                      rw [← hg948] at hr944
                      have he949 : g947 1 = u940 := by rw [hg948]; exact if_pos rfl
                      have hk950 : ∀ j, j ≠ 1 → g947 j = g936 j := fun j hj => by rw [hg948]; exact if_neg hj
                      rw [← hg948] at hb946
                      refine xg_t (xg_iinc (u := 1) (z := 2) (l1 := [(0, (2, 82))]) rfl rfl (by decide) rfl) ?_
                      refine xg_t (xg_goto) ?_
                      refine xg_t (xg_blq rfl) ?_
                      refine xg_t (xg_iload (va := (0, 2)) rfl rfl) ?_
                      refine xg_t (xg_const) ?_
                      refine xg_t (xg_icF (u := 2) (v := 5) rfl xnm0 xnm0 (by decide)) ?_
                      refine xg_t (xg_aload (va := (2, 82)) rfl rfl) ?_
                      refine xg_t (xg_getf (va := (2, 83)) (hb945.get (by decide) (hb934.get (by decide) h82_701)) rfl) ?_
                      refine xg_t (xg_iload (va := (0, 2)) rfl rfl) ?_
                      refine xg_t (xg_aload (va := (2, 82)) rfl rfl) ?_
                      refine xg_t (xg_getf (va := (2, 85)) (hb945.get (by decide) (hb934.get (by decide) h82_701)) rfl) ?_
                      refine xg_t (xg_iload (va := (0, 2)) rfl rfl) ?_
                      refine xg_ialdB (n := 2) (B := 4294967295) ((h85_710.but hb934 (by decide)).but hb945 (by decide)) (hb711) xnm0 (by first | decide | omega) (fun u951 hu952 he953 => ?_)
                      refine xg_iastK (n := 2) (u := u951) hr944 xnm0 xnm0 rfl (by first | decide | omega) (fun w954 hr955 hb956 => ?_)
                      have hb957 : ∀ j, (fun j => if j = 2 then u951 else g947 j) j ≤ 4294967295 := xrb (by omega) (hb946)
                      obtain ⟨g958, hg959⟩ : ∃ g : Nat → Nat, g = (fun j => if j = 2 then u951 else g947 j) := ⟨_, rfl⟩
                      rw [← hg959] at hr955
                      have he960 : g958 2 = u951 := by rw [hg959]; exact if_pos rfl
                      have hk961 : ∀ j, j ≠ 2 → g958 j = g947 j := fun j hj => by rw [hg959]; exact if_neg hj
                      rw [← hg959] at hb957
                      refine xg_t (xg_iinc (u := 2) (z := 3) (l1 := [(0, (2, 82))]) rfl rfl (by decide) rfl) ?_
                      refine xg_t (xg_goto) ?_
                      refine xg_t (xg_blq rfl) ?_
                      refine xg_t (xg_iload (va := (0, 3)) rfl rfl) ?_
                      refine xg_t (xg_const) ?_
                      refine xg_t (xg_icF (u := 3) (v := 5) rfl xnm0 xnm0 (by decide)) ?_
                      refine xg_t (xg_aload (va := (2, 82)) rfl rfl) ?_
                      refine xg_t (xg_getf (va := (2, 83)) (hb956.get (by decide) (hb945.get (by decide) (hb934.get (by decide) h82_701))) rfl) ?_
                      refine xg_t (xg_iload (va := (0, 3)) rfl rfl) ?_
                      refine xg_t (xg_aload (va := (2, 82)) rfl rfl) ?_
                      refine xg_t (xg_getf (va := (2, 85)) (hb956.get (by decide) (hb945.get (by decide) (hb934.get (by decide) h82_701))) rfl) ?_
                      refine xg_t (xg_iload (va := (0, 3)) rfl rfl) ?_
                      refine xg_ialdB (n := 3) (B := 4294967295) (((h85_710.but hb934 (by decide)).but hb945 (by decide)).but hb956 (by decide)) (hb711) xnm0 (by first | decide | omega) (fun u962 hu963 he964 => ?_)
                      refine xg_iastK (n := 3) (u := u962) hr955 xnm0 xnm0 rfl (by first | decide | omega) (fun w965 hr966 hb967 => ?_)
                      have hb968 : ∀ j, (fun j => if j = 3 then u962 else g958 j) j ≤ 4294967295 := xrb (by omega) (hb957)
                      obtain ⟨g969, hg970⟩ : ∃ g : Nat → Nat, g = (fun j => if j = 3 then u962 else g958 j) := ⟨_, rfl⟩
                      rw [← hg970] at hr966
                      have he971 : g969 3 = u962 := by rw [hg970]; exact if_pos rfl
                      have hk972 : ∀ j, j ≠ 3 → g969 j = g958 j := fun j hj => by rw [hg970]; exact if_neg hj
                      rw [← hg970] at hb968
                      refine xg_t (xg_iinc (u := 3) (z := 4) (l1 := [(0, (2, 82))]) rfl rfl (by decide) rfl) ?_
                      refine xg_t (xg_goto) ?_
                      refine xg_t (xg_blq rfl) ?_
                      refine xg_t (xg_iload (va := (0, 4)) rfl rfl) ?_
                      refine xg_t (xg_const) ?_
                      refine xg_t (xg_icF (u := 4) (v := 5) rfl xnm0 xnm0 (by decide)) ?_
                      refine xg_t (xg_aload (va := (2, 82)) rfl rfl) ?_
                      refine xg_t (xg_getf (va := (2, 83)) (hb967.get (by decide) (hb956.get (by decide) (hb945.get (by decide) (hb934.get (by decide) h82_701)))) rfl) ?_
                      refine xg_t (xg_iload (va := (0, 4)) rfl rfl) ?_
                      refine xg_t (xg_aload (va := (2, 82)) rfl rfl) ?_
                      refine xg_t (xg_getf (va := (2, 85)) (hb967.get (by decide) (hb956.get (by decide) (hb945.get (by decide) (hb934.get (by decide) h82_701)))) rfl) ?_
                      refine xg_t (xg_iload (va := (0, 4)) rfl rfl) ?_
                      refine xg_ialdB (n := 4) (B := 4294967295) ((((h85_710.but hb934 (by decide)).but hb945 (by decide)).but hb956 (by decide)).but hb967 (by decide)) (hb711) xnm0 (by first | decide | omega) (fun u973 hu974 he975 => ?_)
                      refine xg_iastK (n := 4) (u := u973) hr966 xnm0 xnm0 rfl (by first | decide | omega) (fun w976 hr977 hb978 => ?_)
                      have hb979 : ∀ j, (fun j => if j = 4 then u973 else g969 j) j ≤ 4294967295 := xrb (by omega) (hb968)
                      obtain ⟨g980, hg981⟩ : ∃ g : Nat → Nat, g = (fun j => if j = 4 then u973 else g969 j) := ⟨_, rfl⟩
                      rw [← hg981] at hr977
                      have he982 : g980 4 = u973 := by rw [hg981]; exact if_pos rfl
                      have hk983 : ∀ j, j ≠ 4 → g980 j = g969 j := fun j hj => by rw [hg981]; exact if_neg hj
                      rw [← hg981] at hb979
                      refine xg_t (xg_iinc (u := 4) (z := 5) (l1 := [(0, (2, 82))]) rfl rfl (by decide) rfl) ?_
                      refine xg_t (xg_goto) ?_
                      refine xg_t (xg_blq rfl) ?_
                      refine xg_t (xg_iload (va := (0, 5)) rfl rfl) ?_
                      refine xg_t (xg_const) ?_
                      refine xg_t (xg_icT (u := 5) (v := 5) rfl xnm0 xnm0 (by decide)) ?_
                      refine xg_t (xg_blq rfl) ?_
                      refine xg_t (xg_const) ?_
                      refine xg_t (xg_istore (l1 := [(0, (2, 82))]) rfl rfl rfl) ?_
                      refine xg_t (xg_blq rfl) ?_
                      refine xg_t (xg_iload (va := (0, 5)) rfl rfl) ?_
                      refine xg_t (xg_bip) ?_
                      refine xg_t (xg_icF (u := 5) (v := 8) rfl xnm0 xnm0 (by decide)) ?_
                      refine xg_t (xg_aload (va := (2, 82)) rfl rfl) ?_
                      refine xg_t (xg_getf (va := (2, 83)) (hb978.get (by decide) (hb967.get (by decide) (hb956.get (by decide) (hb945.get (by decide) (hb934.get (by decide) h82_701))))) rfl) ?_
                      refine xg_t (xg_iload (va := (0, 5)) rfl rfl) ?_
                      refine xg_t (xg_aload (va := (2, 82)) rfl rfl) ?_
                      refine xg_t (xg_getf (va := (2, 86)) (hb978.get (by decide) (hb967.get (by decide) (hb956.get (by decide) (hb945.get (by decide) (hb934.get (by decide) h82_701))))) rfl) ?_
                      refine xg_t (xg_iload (va := (0, 5)) rfl rfl) ?_
                      refine xg_ialdB (n := 5) (B := 4294967295) (((((h86_713.but hb934 (by decide)).but hb945 (by decide)).but hb956 (by decide)).but hb967 (by decide)).but hb978 (by decide)) (hb714) xnm0 (by first | decide | omega) (fun u984 hu985 he986 => ?_)
                      refine xg_iastK (n := 5) (u := u984) hr977 xnm0 xnm0 rfl (by first | decide | omega) (fun w987 hr988 hb989 => ?_)
                      have hb990 : ∀ j, (fun j => if j = 5 then u984 else g980 j) j ≤ 4294967295 := xrb (by omega) (hb979)
                      obtain ⟨g991, hg992⟩ : ∃ g : Nat → Nat, g = (fun j => if j = 5 then u984 else g980 j) := ⟨_, rfl⟩
                      rw [← hg992] at hr988
                      have he993 : g991 5 = u984 := by rw [hg992]; exact if_pos rfl
                      have hk994 : ∀ j, j ≠ 5 → g991 j = g980 j := fun j hj => by rw [hg992]; exact if_neg hj
                      rw [← hg992] at hb990
                      refine xg_t (xg_iinc (u := 5) (z := 6) (l1 := [(0, (2, 82))]) rfl rfl (by decide) rfl) ?_
                      refine xg_t (xg_goto) ?_
                      refine xg_t (xg_blq rfl) ?_
                      refine xg_t (xg_iload (va := (0, 6)) rfl rfl) ?_
                      refine xg_t (xg_bip) ?_
                      refine xg_t (xg_icF (u := 6) (v := 8) rfl xnm0 xnm0 (by decide)) ?_
                      refine xg_t (xg_aload (va := (2, 82)) rfl rfl) ?_
                      refine xg_t (xg_getf (va := (2, 83)) (hb989.get (by decide) (hb978.get (by decide) (hb967.get (by decide) (hb956.get (by decide) (hb945.get (by decide) (hb934.get (by decide) h82_701)))))) rfl) ?_
                      refine xg_t (xg_iload (va := (0, 6)) rfl rfl) ?_
                      refine xg_t (xg_aload (va := (2, 82)) rfl rfl) ?_
                      refine xg_t (xg_getf (va := (2, 86)) (hb989.get (by decide) (hb978.get (by decide) (hb967.get (by decide) (hb956.get (by decide) (hb945.get (by decide) (hb934.get (by decide) h82_701)))))) rfl) ?_
                      refine xg_t (xg_iload (va := (0, 6)) rfl rfl) ?_
                      refine xg_ialdB (n := 6) (B := 4294967295) ((((((h86_713.but hb934 (by decide)).but hb945 (by decide)).but hb956 (by decide)).but hb967 (by decide)).but hb978 (by decide)).but hb989 (by decide)) (hb714) xnm0 (by first | decide | omega) (fun u995 hu996 he997 => ?_)
                      refine xg_iastK (n := 6) (u := u995) hr988 xnm0 xnm0 rfl (by first | decide | omega) (fun w998 hr999 hb1000 => ?_)
                      have hb1001 : ∀ j, (fun j => if j = 6 then u995 else g991 j) j ≤ 4294967295 := xrb (by omega) (hb990)
                      obtain ⟨g1002, hg1003⟩ : ∃ g : Nat → Nat, g = (fun j => if j = 6 then u995 else g991 j) := ⟨_, rfl⟩
                      rw [← hg1003] at hr999
                      have he1004 : g1002 6 = u995 := by rw [hg1003]; exact if_pos rfl
                      have hk1005 : ∀ j, j ≠ 6 → g1002 j = g991 j := fun j hj => by rw [hg1003]; exact if_neg hj
                      rw [← hg1003] at hb1001
                      refine xg_t (xg_iinc (u := 6) (z := 7) (l1 := [(0, (2, 82))]) rfl rfl (by decide) rfl) ?_
                      refine xg_t (xg_goto) ?_
                      refine xg_t (xg_blq rfl) ?_
                      refine xg_t (xg_iload (va := (0, 7)) rfl rfl) ?_
                      refine xg_t (xg_bip) ?_
                      refine xg_t (xg_icF (u := 7) (v := 8) rfl xnm0 xnm0 (by decide)) ?_
                      refine xg_t (xg_aload (va := (2, 82)) rfl rfl) ?_
                      refine xg_t (xg_getf (va := (2, 83)) (hb1000.get (by decide) (hb989.get (by decide) (hb978.get (by decide) (hb967.get (by decide) (hb956.get (by decide) (hb945.get (by decide) (hb934.get (by decide) h82_701))))))) rfl) ?_
                      refine xg_t (xg_iload (va := (0, 7)) rfl rfl) ?_
                      refine xg_t (xg_aload (va := (2, 82)) rfl rfl) ?_
                      refine xg_t (xg_getf (va := (2, 86)) (hb1000.get (by decide) (hb989.get (by decide) (hb978.get (by decide) (hb967.get (by decide) (hb956.get (by decide) (hb945.get (by decide) (hb934.get (by decide) h82_701))))))) rfl) ?_
                      refine xg_t (xg_iload (va := (0, 7)) rfl rfl) ?_
                      refine xg_ialdB (n := 7) (B := 4294967295) (((((((h86_713.but hb934 (by decide)).but hb945 (by decide)).but hb956 (by decide)).but hb967 (by decide)).but hb978 (by decide)).but hb989 (by decide)).but hb1000 (by decide)) (hb714) xnm0 (by first | decide | omega) (fun u1006 hu1007 he1008 => ?_)
                      refine xg_iastK (n := 7) (u := u1006) hr999 xnm0 xnm0 rfl (by first | decide | omega) (fun w1009 hr1010 hb1011 => ?_)
                      have hb1012 : ∀ j, (fun j => if j = 7 then u1006 else g1002 j) j ≤ 4294967295 := xrb (by omega) (hb1001)
                      obtain ⟨g1013, hg1014⟩ : ∃ g : Nat → Nat, g = (fun j => if j = 7 then u1006 else g1002 j) := ⟨_, rfl⟩
                      rw [← hg1014] at hr1010
                      have he1015 : g1013 7 = u1006 := by rw [hg1014]; exact if_pos rfl
                      have hk1016 : ∀ j, j ≠ 7 → g1013 j = g1002 j := fun j hj => by rw [hg1014]; exact if_neg hj
                      rw [← hg1014] at hb1012
                      refine xg_t (xg_iinc (u := 7) (z := 8) (l1 := [(0, (2, 82))]) rfl rfl (by decide) rfl) ?_
                      refine xg_t (xg_goto) ?_
                      refine xg_t (xg_blq rfl) ?_
                      refine xg_t (xg_iload (va := (0, 8)) rfl rfl) ?_
                      refine xg_t (xg_bip) ?_
                      refine xg_t (xg_icF (u := 8) (v := 8) rfl xnm0 xnm0 (by decide)) ?_
                      refine xg_t (xg_aload (va := (2, 82)) rfl rfl) ?_
                      refine xg_t (xg_getf (va := (2, 83)) (hb1011.get (by decide) (hb1000.get (by decide) (hb989.get (by decide) (hb978.get (by decide) (hb967.get (by decide) (hb956.get (by decide) (hb945.get (by decide) (hb934.get (by decide) h82_701)))))))) rfl) ?_
                      refine xg_t (xg_iload (va := (0, 8)) rfl rfl) ?_
                      refine xg_t (xg_aload (va := (2, 82)) rfl rfl) ?_
                      refine xg_t (xg_getf (va := (2, 86)) (hb1011.get (by decide) (hb1000.get (by decide) (hb989.get (by decide) (hb978.get (by decide) (hb967.get (by decide) (hb956.get (by decide) (hb945.get (by decide) (hb934.get (by decide) h82_701)))))))) rfl) ?_
                      refine xg_t (xg_iload (va := (0, 8)) rfl rfl) ?_
                      refine xg_ialdB (n := 8) (B := 4294967295) ((((((((h86_713.but hb934 (by decide)).but hb945 (by decide)).but hb956 (by decide)).but hb967 (by decide)).but hb978 (by decide)).but hb989 (by decide)).but hb1000 (by decide)).but hb1011 (by decide)) (hb714) xnm0 (by first | decide | omega) (fun u1017 hu1018 he1019 => ?_)
                      refine xg_iastK (n := 8) (u := u1017) hr1010 xnm0 xnm0 rfl (by first | decide | omega) (fun w1020 hr1021 hb1022 => ?_)
                      have hb1023 : ∀ j, (fun j => if j = 8 then u1017 else g1013 j) j ≤ 4294967295 := xrb (by omega) (hb1012)
                      obtain ⟨g1024, hg1025⟩ : ∃ g : Nat → Nat, g = (fun j => if j = 8 then u1017 else g1013 j) := ⟨_, rfl⟩
                      rw [← hg1025] at hr1021
                      have he1026 : g1024 8 = u1017 := by rw [hg1025]; exact if_pos rfl
                      have hk1027 : ∀ j, j ≠ 8 → g1024 j = g1013 j := fun j hj => by rw [hg1025]; exact if_neg hj
                      rw [← hg1025] at hb1023
                      refine xg_t (xg_iinc (u := 8) (z := 9) (l1 := [(0, (2, 82))]) rfl rfl (by decide) rfl) ?_
                      refine xg_t (xg_goto) ?_
                      refine xg_t (xg_blq rfl) ?_
                      refine xg_t (xg_iload (va := (0, 9)) rfl rfl) ?_
                      refine xg_t (xg_bip) ?_
                      refine xg_t (xg_icT (u := 9) (v := 8) rfl xnm0 xnm0 (by decide)) ?_
                      refine xg_t (xg_blq rfl) ?_
                      refine xg_t (xg_bip) ?_
                      refine xg_t (xg_istore (l1 := [(0, (2, 82))]) rfl rfl rfl) ?_
                      refine xg_t (xg_drop (l1 := [(0, (2, 82)), (1, (0, 20))]) (List.forall_mem_cons.mpr ⟨List.mem_cons_of_mem _ (List.mem_cons_self), List.forall_mem_cons.mpr ⟨List.mem_cons_self, fun _ h => absurd h List.not_mem_nil⟩⟩)) ?_
                      refine cpFilm 120 20 w1020 g1024 (by decide) hr1021 hb1023 (((((((((h86_713.but hb934 (by decide)).but hb945 (by decide)).but hb956 (by decide)).but hb967 (by decide)).but hb978 (by decide)).but hb989 (by decide)).but hb1000 (by decide)).but hb1011 (by decide)).but hb1022 (by decide)) hb714 (hb1022.get (by decide) (hb1011.get (by decide) (hb1000.get (by decide) (hb989.get (by decide) (hb978.get (by decide) (hb967.get (by decide) (hb956.get (by decide) (hb945.get (by decide) (hb934.get (by decide) h82_701))))))))) (fun w1028 g1029 hc1030 hc1031 hc1032 hc1033 hc1034 => ?_)
                      refine xg_t (xg_blq rfl) ?_
                      refine xg_t (xg_aload (va := (2, 82)) rfl rfl) ?_
                      refine xg_t (xg_getf (va := (2, 83)) (hc1032.get (by decide) (hb1022.get (by decide) (hb1011.get (by decide) (hb1000.get (by decide) (hb989.get (by decide) (hb978.get (by decide) (hb967.get (by decide) (hb956.get (by decide) (hb945.get (by decide) (hb934.get (by decide) h82_701)))))))))) rfl) ?_
                      refine xg_t (xg_bip) ?_
                      refine xg_t (xg_const) ?_
                      refine xg_iastK (n := 9) (u := 0) hc1030 xnm0 xnm0 rfl (by first | decide | omega) (fun w1035 hr1036 hb1037 => ?_)
                      have hb1038 : ∀ j, (fun j => if j = 9 then 0 else g1029 j) j ≤ 4294967295 := xrb (by omega) (hc1031)
                      obtain ⟨g1039, hg1040⟩ : ∃ g : Nat → Nat, g = (fun j => if j = 9 then 0 else g1029 j) := ⟨_, rfl⟩
                      rw [← hg1040] at hr1036
                      have he1041 : g1039 9 = 0 := by rw [hg1040]; exact if_pos rfl
                      have hk1042 : ∀ j, j ≠ 9 → g1039 j = g1029 j := fun j hj => by rw [hg1040]; exact if_neg hj
                      rw [← hg1040] at hb1038
                      refine xg_t (xg_aload (va := (2, 82)) rfl rfl) ?_
                      refine xg_t (xg_getf (va := (2, 83)) (hb1037.get (by decide) (hc1032.get (by decide) (hb1022.get (by decide) (hb1011.get (by decide) (hb1000.get (by decide) (hb989.get (by decide) (hb978.get (by decide) (hb967.get (by decide) (hb956.get (by decide) (hb945.get (by decide) (hb934.get (by decide) h82_701))))))))))) rfl) ?_
                      refine xg_t (xg_bip) ?_
                      refine xg_t (xg_const) ?_
                      refine xg_iastK (n := 10) (u := 0) hr1036 xnm0 xnm0 rfl (by first | decide | omega) (fun w1043 hr1044 hb1045 => ?_)
                      have hb1046 : ∀ j, (fun j => if j = 10 then 0 else g1039 j) j ≤ 4294967295 := xrb (by omega) (hb1038)
                      obtain ⟨g1047, hg1048⟩ : ∃ g : Nat → Nat, g = (fun j => if j = 10 then 0 else g1039 j) := ⟨_, rfl⟩
                      rw [← hg1048] at hr1044
                      have he1049 : g1047 10 = 0 := by rw [hg1048]; exact if_pos rfl
                      have hk1050 : ∀ j, j ≠ 10 → g1047 j = g1039 j := fun j hj => by rw [hg1048]; exact if_neg hj
                      rw [← hg1048] at hb1046
                      refine xg_t (xg_aload (va := (2, 82)) rfl rfl) ?_
                      refine xg_t (xg_getf (va := (2, 83)) (hb1045.get (by decide) (hb1037.get (by decide) (hc1032.get (by decide) (hb1022.get (by decide) (hb1011.get (by decide) (hb1000.get (by decide) (hb989.get (by decide) (hb978.get (by decide) (hb967.get (by decide) (hb956.get (by decide) (hb945.get (by decide) (hb934.get (by decide) h82_701)))))))))))) rfl) ?_
                      refine xg_t (xg_bip) ?_
                      refine xg_t (xg_aload (va := (2, 82)) rfl rfl) ?_
                      refine xg_t (xg_getf (va := (0, f82_689)) (hb1045.get (by decide) (hb1037.get (by decide) (hc1032.get (by decide) (hb1022.get (by decide) (hb1011.get (by decide) (hb1000.get (by decide) (hb989.get (by decide) (hb978.get (by decide) (hb967.get (by decide) (hb956.get (by decide) (hb945.get (by decide) (hb934.get (by decide) h82_701)))))))))))) rfl) ?_
                      have hn1051 : f82_689 ≤ 4294967295 := hb690
                      refine xg_iastK (n := 14) (u := f82_689) hr1044 xnm0 xnm0 rfl (by first | decide | omega) (fun w1052 hr1053 hb1054 => ?_)
                      have hb1055 : ∀ j, (fun j => if j = 14 then f82_689 else g1047 j) j ≤ 4294967295 := xrb (by omega) (hb1046)
                      obtain ⟨g1056, hg1057⟩ : ∃ g : Nat → Nat, g = (fun j => if j = 14 then f82_689 else g1047 j) := ⟨_, rfl⟩
                      rw [← hg1057] at hr1053
                      have he1058 : g1056 14 = f82_689 := by rw [hg1057]; exact if_pos rfl
                      have hk1059 : ∀ j, j ≠ 14 → g1056 j = g1047 j := fun j hj => by rw [hg1057]; exact if_neg hj
                      rw [← hg1057] at hb1055
                      have hq1060 : g1056 0 = u929 := by rw [hk1059 0 (by omega), hk1050 0 (by omega), hk1042 0 (by omega), hc1034 0 (by omega), hk1027 0 (by omega), hk1016 0 (by omega), hk1005 0 (by omega), hk994 0 (by omega), hk983 0 (by omega), hk972 0 (by omega), hk961 0 (by omega), hk950 0 (by omega), he938]
                      have hq1061 : g1056 1 = u940 := by rw [hk1059 1 (by omega), hk1050 1 (by omega), hk1042 1 (by omega), hc1034 1 (by omega), hk1027 1 (by omega), hk1016 1 (by omega), hk1005 1 (by omega), hk994 1 (by omega), hk983 1 (by omega), hk972 1 (by omega), hk961 1 (by omega), he949]
                      have hq1062 : g1056 2 = u951 := by rw [hk1059 2 (by omega), hk1050 2 (by omega), hk1042 2 (by omega), hc1034 2 (by omega), hk1027 2 (by omega), hk1016 2 (by omega), hk1005 2 (by omega), hk994 2 (by omega), hk983 2 (by omega), hk972 2 (by omega), he960]
                      have hq1063 : g1056 3 = u962 := by rw [hk1059 3 (by omega), hk1050 3 (by omega), hk1042 3 (by omega), hc1034 3 (by omega), hk1027 3 (by omega), hk1016 3 (by omega), hk1005 3 (by omega), hk994 3 (by omega), hk983 3 (by omega), he971]
                      have hq1064 : g1056 4 = u973 := by rw [hk1059 4 (by omega), hk1050 4 (by omega), hk1042 4 (by omega), hc1034 4 (by omega), hk1027 4 (by omega), hk1016 4 (by omega), hk1005 4 (by omega), hk994 4 (by omega), he982]
                      have hq1065 : g1056 5 = u984 := by rw [hk1059 5 (by omega), hk1050 5 (by omega), hk1042 5 (by omega), hc1034 5 (by omega), hk1027 5 (by omega), hk1016 5 (by omega), hk1005 5 (by omega), he993]
                      have hq1066 : g1056 6 = u995 := by rw [hk1059 6 (by omega), hk1050 6 (by omega), hk1042 6 (by omega), hc1034 6 (by omega), hk1027 6 (by omega), hk1016 6 (by omega), he1004]
                      have hq1067 : g1056 7 = u1006 := by rw [hk1059 7 (by omega), hk1050 7 (by omega), hk1042 7 (by omega), hc1034 7 (by omega), hk1027 7 (by omega), he1015]
                      have hq1068 : g1056 8 = u1017 := by rw [hk1059 8 (by omega), hk1050 8 (by omega), hk1042 8 (by omega), hc1034 8 (by omega), he1026]
                      have hq1069 : g1056 9 = 0 := by rw [hk1059 9 (by omega), hk1050 9 (by omega), he1041]
                      have hq1070 : g1056 10 = 0 := by rw [hk1059 10 (by omega), he1049]
                      have hq1071 : ∀ j, 20 ≤ j → j < 140 → g1056 j = g86_712 j := fun j h1 h2 => by rw [hk1059 j (by omega), hk1050 j (by omega), hk1042 j (by omega)]; exact hc1033 j h1 h2
                      have hq1072 : ∀ j, 140 ≤ j ∨ j = 11 ∨ j = 12 ∨ j = 13 ∨ j = 15 → g1056 j = g83_703 j := fun j hj => by rw [hk1059 j (by omega), hk1050 j (by omega), hk1042 j (by omega), hc1034 j (by omega), hk1027 j (by omega), hk1016 j (by omega), hk1005 j (by omega), hk994 j (by omega), hk983 j (by omega), hk972 j (by omega), hk961 j (by omega), hk950 j (by omega), hk939 j (by omega)]
                      have hx1073 : okA g1056 := film_ok hx706 hdt (by omega) (by omega) (by omega) (by omega) (by omega) (by omega) (by omega) (by omega) (by omega) (by omega) (by omega) hq1071 (fun j hj => hq1072 j (by omega))
                      refine xg_t (xg_aload (va := (2, 82)) rfl rfl) ?_
                      refine xg_t (xg_getf (va := (0, f82_689)) (hb1054.get (by decide) (hb1045.get (by decide) (hb1037.get (by decide) (hc1032.get (by decide) (hb1022.get (by decide) (hb1011.get (by decide) (hb1000.get (by decide) (hb989.get (by decide) (hb978.get (by decide) (hb967.get (by decide) (hb956.get (by decide) (hb945.get (by decide) (hb934.get (by decide) h82_701))))))))))))) rfl) ?_
                      have kk1074 := (hz670.k K83.rf)
                      exact xg_e ⟨f82_689, w1052, ⟨rfl, rfl⟩, ⟨by omega, (rwv_of hr1053 (by decide)).trans ((hq1072 15 (by omega)).trans ((rwv_of h83_704 (by decide)).symm.trans kk1074.1)), fun j h1 h2 => (rwv_of hr1053 h2).trans ((hq1072 j (by omega)).trans ((rwv_of h83_704 h2).symm.trans (kk1074.2 j h2 (by omega) (by omega) (by omega))))⟩, xMnv.up (S := [83]) hI663 (((((((((((((xFr.of (S := [83]) hb934 (by decide)).tr (xFr.of (S := [83]) hb945 (by decide))).tr (xFr.of (S := [83]) hb956 (by decide))).tr (xFr.of (S := [83]) hb967 (by decide))).tr (xFr.of (S := [83]) hb978 (by decide))).tr (xFr.of (S := [83]) hb989 (by decide))).tr (xFr.of (S := [83]) hb1000 (by decide))).tr (xFr.of (S := [83]) hb1011 (by decide))).tr (xFr.of (S := [83]) hb1022 (by decide))).tr (xFr.of (S := [83]) hc1032 (by decide))).tr (xFr.of (S := [83]) hb1037 (by decide))).tr (xFr.of (S := [83]) hb1045 (by decide))).tr (xFr.of (S := [83]) hb1054 (by decide))) (List.forall_mem_cons.mpr ⟨xqu83 (show cpx83 (wget w1052 83) from ⟨_, hr1053, hb1055, hx1073⟩), fun _ h => absurd h List.not_mem_nil⟩), (hF664.tr (((((((((((((xFr.of (S := [82, 83, 85, 86, 87]) hb934 (by decide)).tr (xFr.of (S := [82, 83, 85, 86, 87]) hb945 (by decide))).tr (xFr.of (S := [82, 83, 85, 86, 87]) hb956 (by decide))).tr (xFr.of (S := [82, 83, 85, 86, 87]) hb967 (by decide))).tr (xFr.of (S := [82, 83, 85, 86, 87]) hb978 (by decide))).tr (xFr.of (S := [82, 83, 85, 86, 87]) hb989 (by decide))).tr (xFr.of (S := [82, 83, 85, 86, 87]) hb1000 (by decide))).tr (xFr.of (S := [82, 83, 85, 86, 87]) hb1011 (by decide))).tr (xFr.of (S := [82, 83, 85, 86, 87]) hb1022 (by decide))).tr (xFr.of (S := [82, 83, 85, 86, 87]) hc1032 (by decide))).tr (xFr.of (S := [82, 83, 85, 86, 87]) hb1037 (by decide))).tr (xFr.of (S := [82, 83, 85, 86, 87]) hb1045 (by decide))).tr (xFr.of (S := [82, 83, 85, 86, 87]) hb1054 (by decide))))⟩
                    · refine xg_t (xg_ifF (u := u925) rfl xnm0 (xj_eqF hc928)) ?_
                      refine xg_t (xg_const) ?_
                      have kk1075 := hz670.k K83.rf
                      exact xg_e ⟨4294967295, w662, ⟨rfl, rfl⟩, ⟨by omega, kk1075.1, fun j h1 h2 => kk1075.2 j h2 (by omega) (by omega) (by omega)⟩, hI663, hF664⟩
              exact key659 _ 0 w179 (Nat.lt_succ_self _) (by omega) (hI180) (hF181) (⟨hz184, hz187, hz188⟩)
        exact key176 _ w163 (Nat.lt_succ_self _) (hI165) (((hF48.tr ((((xFr.of (S := [82, 83, 85, 86, 87]) hb135 (by decide)).tr (xFr.of (S := [82, 83, 85, 86, 87]) hb138 (by decide))).tr (xFr.of (S := [82, 83, 85, 86, 87]) hb141 (by decide))).tr (xFr.of (S := [82, 83, 85, 86, 87]) hb144 (by decide)))).tr (hF166.up (by decide)))) (⟨(show fld w163 82 10 = 0 ∨ FA w163 ≠ 0 by omega), by omega, hM174, (Or.inr hD173), kk175⟩)
  exact key43 _ 0 w33 (Nat.lt_succ_self _) (by omega) (hI35) ((hF36.up (by decide))) (⟨fun s hs => absurd hs (Nat.not_lt_zero _), hg38, hg39, hg40, hg41, hg42⟩)
end XMD
end
section
/-! the law, and the world behind both constructors -/
def bLk_0 : Nat × List xI := (0, [(0, 3, 24, 11, 0, 7), (3, 1, 19, 0, 0, 0), (4, 3, 13, 67, 92, 9), (7, 1, 27, 1, 0, 0), (8, 3, 24, 12, 0, 10), (11, 1, 19, 0, 0, 0), (12, 3, 13, 156, 100, 12), (15, 1, 27, 2, 0, 0), (16, 1, 3, 0, 0, 0), (17, 1, 15, 3, 0, 0)])
def bLk_1 : Nat × List xI := (18, [(18, 1, 2, 3, 0, 0), (19, 1, 0, 0, 0, 0), (20, 1, 31, 0, 0, 0), (21, 2, 4, 7, 0, 0), (23, 1, 18, 0, 0, 0), (24, 3, 6, 1711, 4, 0), (27, 1, 0, 0, 0, 0), (28, 1, 2, 3, 0, 0), (29, 1, 10, 0, 0, 0), (30, 2, 4, 63, 0, 0), (32, 1, 30, 0, 0, 0)])
def bLk_2 : Nat × List xI := (252, [(252, 1, 0, 1, 0, 0), (253, 1, 0, 0, 0, 0), (254, 1, 2, 3, 0, 0), (255, 1, 3, 1, 0, 0), (256, 1, 11, 0, 0, 0), (257, 1, 10, 0, 0, 0), (258, 1, 0, 0, 0, 0), (259, 1, 2, 3, 0, 0), (260, 1, 3, 2, 0, 0), (261, 1, 11, 0, 0, 0), (262, 1, 10, 0, 0, 0), (263, 1, 0, 0, 0, 0), (264, 1, 2, 3, 0, 0), (265, 1, 3, 3, 0, 0), (266, 1, 11, 0, 0, 0), (267, 1, 10, 0, 0, 0), (268, 1, 0, 0, 0, 0), (269, 1, 2, 3, 0, 0), (270, 1, 3, 4, 0, 0), (271, 1, 11, 0, 0, 0), (272, 1, 10, 0, 0, 0), (273, 1, 0, 0, 0, 0), (274, 1, 2, 3, 0, 0), (275, 1, 3, 5, 0, 0), (276, 1, 11, 0, 0, 0), (277, 1, 10, 0, 0, 0), (278, 3, 13, 59, 88, 13), (281, 1, 40, 0, 0, 0), (282, 1, 0, 2, 0, 0), (283, 1, 0, 0, 0, 0), (284, 1, 2, 3, 0, 0), (285, 1, 3, 1, 0, 0), (286, 1, 11, 0, 0, 0), (287, 1, 10, 0, 0, 0), (288, 1, 0, 0, 0, 0), (289, 1, 2, 3, 0, 0), (290, 1, 3, 2, 0, 0), (291, 1, 11, 0, 0, 0), (292, 1, 10, 0, 0, 0), (293, 1, 0, 0, 0, 0), (294, 1, 2, 3, 0, 0), (295, 1, 3, 3, 0, 0), (296, 1, 11, 0, 0, 0), (297, 1, 10, 0, 0, 0), (298, 1, 0, 0, 0, 0), (299, 1, 2, 3, 0, 0), (300, 1, 3, 4, 0, 0), (301, 1, 11, 0, 0, 0), (302, 1, 10, 0, 0, 0), (303, 1, 0, 0, 0, 0), (304, 1, 2, 3, 0, 0), (305, 1, 3, 5, 0, 0), (306, 1, 11, 0, 0, 0), (307, 1, 10, 0, 0, 0), (308, 3, 13, 144, 96, 17), (311, 1, 40, 0, 0, 0), (312, 3, 8, 1705, 0, 0)])
def bLk_3 : Nat × List xI := (315, [(315, 1, 0, 1, 0, 0), (316, 1, 0, 0, 0, 0), (317, 1, 2, 3, 0, 0), (318, 1, 3, 1, 0, 0), (319, 1, 11, 0, 0, 0), (320, 1, 10, 0, 0, 0), (321, 3, 13, 56, 88, 18), (324, 1, 0, 2, 0, 0), (325, 1, 0, 0, 0, 0), (326, 1, 2, 3, 0, 0), (327, 1, 3, 1, 0, 0), (328, 1, 11, 0, 0, 0), (329, 1, 10, 0, 0, 0), (330, 3, 13, 139, 96, 22), (333, 3, 6, 1705, 0, 0), (336, 1, 3, 0, 0, 0), (337, 1, 12, 0, 1, 0)])
def bLk_4 : Nat × List xI := (338, [(338, 1, 0, 1, 0, 0), (339, 3, 13, 60, 88, 23), (342, 1, 40, 0, 0, 0), (343, 1, 0, 2, 0, 0), (344, 3, 13, 145, 96, 27), (347, 1, 40, 0, 0, 0), (348, 3, 8, 1705, 0, 0)])
def bLk_5 : Nat × List xI := (351, [(351, 1, 0, 1, 0, 0), (352, 1, 0, 0, 0, 0), (353, 1, 2, 3, 0, 0), (354, 1, 3, 1, 0, 0), (355, 1, 11, 0, 0, 0), (356, 1, 10, 0, 0, 0), (357, 3, 13, 57, 88, 28), (360, 1, 40, 0, 0, 0), (361, 1, 0, 2, 0, 0), (362, 1, 0, 0, 0, 0), (363, 1, 2, 3, 0, 0), (364, 1, 3, 1, 0, 0), (365, 1, 11, 0, 0, 0), (366, 1, 10, 0, 0, 0), (367, 3, 13, 141, 96, 31), (370, 1, 40, 0, 0, 0), (371, 3, 8, 1705, 0, 0)])
def bLk_6 : Nat × List xI := (374, [(374, 1, 0, 1, 0, 0), (375, 1, 0, 0, 0, 0), (376, 1, 2, 3, 0, 0), (377, 1, 3, 1, 0, 0), (378, 1, 11, 0, 0, 0), (379, 1, 10, 0, 0, 0), (380, 1, 0, 0, 0, 0), (381, 1, 2, 3, 0, 0), (382, 1, 3, 2, 0, 0), (383, 1, 11, 0, 0, 0), (384, 1, 10, 0, 0, 0), (385, 3, 13, 76, 88, 32), (388, 1, 40, 0, 0, 0), (389, 1, 0, 2, 0, 0), (390, 1, 0, 0, 0, 0), (391, 1, 2, 3, 0, 0), (392, 1, 3, 1, 0, 0), (393, 1, 11, 0, 0, 0), (394, 1, 10, 0, 0, 0), (395, 1, 0, 0, 0, 0), (396, 1, 2, 3, 0, 0), (397, 1, 3, 2, 0, 0), (398, 1, 11, 0, 0, 0), (399, 1, 10, 0, 0, 0), (400, 3, 13, 180, 96, 36), (403, 1, 40, 0, 0, 0), (404, 3, 8, 1705, 0, 0)])
def bLk_7 : Nat × List xI := (407, [(407, 1, 0, 1, 0, 0), (408, 1, 0, 0, 0, 0), (409, 1, 2, 3, 0, 0), (410, 1, 3, 1, 0, 0), (411, 1, 11, 0, 0, 0), (412, 1, 10, 0, 0, 0), (413, 3, 13, 83, 88, 37), (416, 1, 40, 0, 0, 0), (417, 1, 0, 2, 0, 0), (418, 1, 0, 0, 0, 0), (419, 1, 2, 3, 0, 0), (420, 1, 3, 1, 0, 0), (421, 1, 11, 0, 0, 0), (422, 1, 10, 0, 0, 0), (423, 3, 13, 196, 96, 40), (426, 1, 40, 0, 0, 0), (427, 3, 8, 1705, 0, 0)])
def bLk_8 : Nat × List xI := (430, [(430, 1, 0, 1, 0, 0), (431, 1, 0, 0, 0, 0), (432, 1, 2, 3, 0, 0), (433, 1, 3, 1, 0, 0), (434, 1, 11, 0, 0, 0), (435, 1, 10, 0, 0, 0), (436, 1, 0, 0, 0, 0), (437, 1, 2, 3, 0, 0), (438, 1, 3, 2, 0, 0), (439, 1, 11, 0, 0, 0), (440, 1, 10, 0, 0, 0), (441, 3, 13, 97, 88, 41), (444, 1, 40, 0, 0, 0), (445, 1, 0, 2, 0, 0), (446, 1, 0, 0, 0, 0), (447, 1, 2, 3, 0, 0), (448, 1, 3, 1, 0, 0), (449, 1, 11, 0, 0, 0), (450, 1, 10, 0, 0, 0), (451, 1, 0, 0, 0, 0), (452, 1, 2, 3, 0, 0), (453, 1, 3, 2, 0, 0), (454, 1, 11, 0, 0, 0), (455, 1, 10, 0, 0, 0), (456, 3, 13, 225, 96, 44), (459, 1, 40, 0, 0, 0), (460, 3, 8, 1705, 0, 0)])
def bLk_9 : Nat × List xI := (463, [(463, 1, 0, 1, 0, 0), (464, 1, 0, 0, 0, 0), (465, 1, 2, 3, 0, 0), (466, 1, 3, 1, 0, 0), (467, 1, 11, 0, 0, 0), (468, 1, 10, 0, 0, 0), (469, 1, 0, 0, 0, 0), (470, 1, 2, 3, 0, 0), (471, 1, 3, 2, 0, 0), (472, 1, 11, 0, 0, 0), (473, 1, 10, 0, 0, 0), (474, 3, 13, 39, 88, 45), (477, 1, 40, 0, 0, 0), (478, 1, 0, 2, 0, 0), (479, 1, 0, 0, 0, 0), (480, 1, 2, 3, 0, 0), (481, 1, 3, 1, 0, 0), (482, 1, 11, 0, 0, 0), (483, 1, 10, 0, 0, 0), (484, 1, 0, 0, 0, 0), (485, 1, 2, 3, 0, 0), (486, 1, 3, 2, 0, 0), (487, 1, 11, 0, 0, 0), (488, 1, 10, 0, 0, 0), (489, 3, 13, 120, 96, 49), (492, 1, 40, 0, 0, 0), (493, 3, 8, 1705, 0, 0)])
def bLk_10 : Nat × List xI := (496, [(496, 1, 0, 1, 0, 0), (497, 3, 13, 78, 88, 50), (500, 1, 40, 0, 0, 0), (501, 1, 0, 2, 0, 0), (502, 3, 13, 184, 96, 53), (505, 1, 40, 0, 0, 0), (506, 3, 8, 1705, 0, 0)])
def bLk_11 : Nat × List xI := (509, [(509, 1, 0, 1, 0, 0), (510, 1, 0, 0, 0, 0), (511, 1, 2, 3, 0, 0), (512, 1, 3, 1, 0, 0), (513, 1, 11, 0, 0, 0), (514, 1, 10, 0, 0, 0), (515, 3, 13, 105, 88, 54), (518, 1, 40, 0, 0, 0), (519, 1, 0, 2, 0, 0), (520, 1, 0, 0, 0, 0), (521, 1, 2, 3, 0, 0), (522, 1, 3, 1, 0, 0), (523, 1, 11, 0, 0, 0), (524, 1, 10, 0, 0, 0), (525, 3, 13, 239, 96, 57), (528, 1, 40, 0, 0, 0), (529, 3, 8, 1705, 0, 0)])
def bLk_12 : Nat × List xI := (532, [(532, 1, 0, 1, 0, 0), (533, 1, 0, 0, 0, 0), (534, 1, 2, 3, 0, 0), (535, 1, 3, 1, 0, 0), (536, 1, 11, 0, 0, 0), (537, 1, 10, 0, 0, 0), (538, 3, 13, 85, 88, 58), (541, 1, 40, 0, 0, 0), (542, 1, 0, 2, 0, 0), (543, 1, 0, 0, 0, 0), (544, 1, 2, 3, 0, 0), (545, 1, 3, 1, 0, 0), (546, 1, 11, 0, 0, 0), (547, 1, 10, 0, 0, 0), (548, 3, 13, 201, 96, 61), (551, 1, 40, 0, 0, 0), (552, 3, 8, 1705, 0, 0)])
def bLk_13 : Nat × List xI := (555, [(555, 1, 0, 1, 0, 0), (556, 1, 0, 0, 0, 0), (557, 1, 2, 3, 0, 0), (558, 1, 3, 1, 0, 0), (559, 1, 11, 0, 0, 0), (560, 1, 10, 0, 0, 0), (561, 1, 0, 0, 0, 0), (562, 1, 2, 3, 0, 0), (563, 1, 3, 2, 0, 0), (564, 1, 11, 0, 0, 0), (565, 1, 10, 0, 0, 0), (566, 3, 13, 100, 88, 62), (569, 1, 40, 0, 0, 0), (570, 1, 0, 2, 0, 0), (571, 1, 0, 0, 0, 0), (572, 1, 2, 3, 0, 0), (573, 1, 3, 1, 0, 0), (574, 1, 11, 0, 0, 0), (575, 1, 10, 0, 0, 0), (576, 1, 0, 0, 0, 0), (577, 1, 2, 3, 0, 0), (578, 1, 3, 2, 0, 0), (579, 1, 11, 0, 0, 0), (580, 1, 10, 0, 0, 0), (581, 3, 13, 230, 96, 65), (584, 1, 40, 0, 0, 0), (585, 3, 8, 1705, 0, 0)])
def bLk_14 : Nat × List xI := (588, [(588, 1, 0, 1, 0, 0), (589, 1, 0, 0, 0, 0), (590, 1, 2, 3, 0, 0), (591, 1, 3, 1, 0, 0), (592, 1, 11, 0, 0, 0), (593, 1, 10, 0, 0, 0), (594, 3, 13, 48, 88, 66), (597, 1, 40, 0, 0, 0), (598, 1, 0, 2, 0, 0), (599, 1, 0, 0, 0, 0), (600, 1, 2, 3, 0, 0), (601, 1, 3, 1, 0, 0), (602, 1, 11, 0, 0, 0), (603, 1, 10, 0, 0, 0), (604, 3, 13, 129, 96, 69), (607, 1, 40, 0, 0, 0), (608, 3, 8, 1705, 0, 0)])
def bLk_15 : Nat × List xI := (611, [(611, 1, 0, 1, 0, 0), (612, 1, 0, 0, 0, 0), (613, 1, 2, 3, 0, 0), (614, 1, 3, 1, 0, 0), (615, 1, 11, 0, 0, 0), (616, 1, 10, 0, 0, 0), (617, 3, 13, 54, 88, 70), (620, 1, 40, 0, 0, 0), (621, 1, 0, 2, 0, 0), (622, 1, 0, 0, 0, 0), (623, 1, 2, 3, 0, 0), (624, 1, 3, 1, 0, 0), (625, 1, 11, 0, 0, 0), (626, 1, 10, 0, 0, 0), (627, 3, 13, 138, 96, 74), (630, 1, 40, 0, 0, 0), (631, 3, 8, 1705, 0, 0)])
def bLk_16 : Nat × List xI := (634, [(634, 1, 0, 1, 0, 0), (635, 1, 0, 0, 0, 0), (636, 1, 2, 3, 0, 0), (637, 1, 3, 1, 0, 0), (638, 1, 11, 0, 0, 0), (639, 1, 10, 0, 0, 0), (640, 3, 13, 103, 88, 75), (643, 1, 40, 0, 0, 0), (644, 1, 0, 2, 0, 0), (645, 1, 0, 0, 0, 0), (646, 1, 2, 3, 0, 0), (647, 1, 3, 1, 0, 0), (648, 1, 11, 0, 0, 0), (649, 1, 10, 0, 0, 0), (650, 3, 13, 235, 96, 78), (653, 1, 40, 0, 0, 0), (654, 3, 8, 1705, 0, 0)])
def bLk_17 : Nat × List xI := (657, [(657, 1, 0, 1, 0, 0), (658, 1, 0, 0, 0, 0), (659, 1, 2, 3, 0, 0), (660, 1, 3, 1, 0, 0), (661, 1, 11, 0, 0, 0), (662, 1, 10, 0, 0, 0), (663, 3, 7, 670, 0, 0), (666, 1, 3, 1, 0, 0), (667, 3, 8, 671, 0, 0)])
def bLk_18 : Nat × List xI := (670, [(670, 1, 3, 0, 0, 0)])
def bLk_19 : Nat × List xI := (671, [(671, 1, 0, 0, 0, 0), (672, 1, 2, 3, 0, 0), (673, 1, 3, 2, 0, 0), (674, 1, 11, 0, 0, 0), (675, 1, 10, 0, 0, 0), (676, 1, 0, 0, 0, 0), (677, 1, 2, 3, 0, 0), (678, 1, 3, 3, 0, 0), (679, 1, 11, 0, 0, 0), (680, 1, 10, 0, 0, 0), (681, 3, 13, 47, 88, 79), (684, 1, 40, 0, 0, 0), (685, 1, 0, 2, 0, 0), (686, 1, 0, 0, 0, 0), (687, 1, 2, 3, 0, 0), (688, 1, 3, 1, 0, 0), (689, 1, 11, 0, 0, 0), (690, 1, 10, 0, 0, 0), (691, 3, 7, 698, 0, 0), (694, 1, 3, 1, 0, 0), (695, 3, 8, 699, 0, 0)])
def bLk_20 : Nat × List xI := (698, [(698, 1, 3, 0, 0, 0)])
def bLk_21 : Nat × List xI := (699, [(699, 1, 0, 0, 0, 0), (700, 1, 2, 3, 0, 0), (701, 1, 3, 2, 0, 0), (702, 1, 11, 0, 0, 0), (703, 1, 10, 0, 0, 0), (704, 1, 0, 0, 0, 0), (705, 1, 2, 3, 0, 0), (706, 1, 3, 3, 0, 0), (707, 1, 11, 0, 0, 0), (708, 1, 10, 0, 0, 0), (709, 3, 13, 128, 96, 83), (712, 1, 40, 0, 0, 0), (713, 3, 8, 1705, 0, 0)])
def bLk_22 : Nat × List xI := (716, [(716, 1, 0, 1, 0, 0), (717, 1, 0, 0, 0, 0), (718, 1, 2, 3, 0, 0), (719, 1, 3, 1, 0, 0), (720, 1, 11, 0, 0, 0), (721, 1, 10, 0, 0, 0), (722, 3, 7, 729, 0, 0), (725, 1, 3, 1, 0, 0), (726, 3, 8, 730, 0, 0)])
def bLk_23 : Nat × List xI := (729, [(729, 1, 3, 0, 0, 0)])
def bLk_24 : Nat × List xI := (730, [(730, 1, 0, 0, 0, 0), (731, 1, 2, 3, 0, 0), (732, 1, 3, 2, 0, 0), (733, 1, 11, 0, 0, 0), (734, 1, 10, 0, 0, 0), (735, 1, 0, 0, 0, 0), (736, 1, 2, 3, 0, 0), (737, 1, 3, 3, 0, 0), (738, 1, 11, 0, 0, 0), (739, 1, 10, 0, 0, 0), (740, 3, 13, 77, 88, 84), (743, 1, 40, 0, 0, 0), (744, 1, 0, 2, 0, 0), (745, 1, 0, 0, 0, 0), (746, 1, 2, 3, 0, 0), (747, 1, 3, 1, 0, 0), (748, 1, 11, 0, 0, 0), (749, 1, 10, 0, 0, 0), (750, 3, 7, 757, 0, 0), (753, 1, 3, 1, 0, 0), (754, 3, 8, 758, 0, 0)])
def bLk_25 : Nat × List xI := (757, [(757, 1, 3, 0, 0, 0)])
def bLk_26 : Nat × List xI := (758, [(758, 1, 0, 0, 0, 0), (759, 1, 2, 3, 0, 0), (760, 1, 3, 2, 0, 0), (761, 1, 11, 0, 0, 0), (762, 1, 10, 0, 0, 0), (763, 1, 0, 0, 0, 0), (764, 1, 2, 3, 0, 0), (765, 1, 3, 3, 0, 0), (766, 1, 11, 0, 0, 0), (767, 1, 10, 0, 0, 0), (768, 3, 13, 183, 96, 87), (771, 1, 40, 0, 0, 0), (772, 3, 8, 1705, 0, 0)])
def bLk_27 : Nat × List xI := (775, [(775, 1, 0, 1, 0, 0), (776, 3, 13, 82, 88, 88), (779, 1, 40, 0, 0, 0), (780, 1, 0, 2, 0, 0), (781, 3, 13, 193, 96, 91), (784, 1, 40, 0, 0, 0), (785, 3, 8, 1705, 0, 0)])
def bLk_28 : Nat × List xI := (788, [(788, 1, 0, 1, 0, 0), (789, 1, 0, 0, 0, 0), (790, 1, 2, 3, 0, 0), (791, 1, 3, 1, 0, 0), (792, 1, 11, 0, 0, 0), (793, 1, 10, 0, 0, 0), (794, 3, 13, 58, 88, 92), (797, 1, 40, 0, 0, 0), (798, 1, 0, 2, 0, 0), (799, 1, 0, 0, 0, 0), (800, 1, 2, 3, 0, 0), (801, 1, 3, 1, 0, 0), (802, 1, 11, 0, 0, 0), (803, 1, 10, 0, 0, 0), (804, 3, 13, 142, 96, 95), (807, 1, 40, 0, 0, 0), (808, 3, 8, 1705, 0, 0)])
def bLk_29 : Nat × List xI := (811, [(811, 1, 0, 1, 0, 0), (812, 1, 0, 0, 0, 0), (813, 1, 2, 3, 0, 0), (814, 1, 3, 1, 0, 0), (815, 1, 11, 0, 0, 0), (816, 1, 10, 0, 0, 0), (817, 3, 13, 50, 88, 96), (820, 1, 40, 0, 0, 0), (821, 1, 0, 2, 0, 0), (822, 1, 0, 0, 0, 0), (823, 1, 2, 3, 0, 0), (824, 1, 3, 1, 0, 0), (825, 1, 11, 0, 0, 0), (826, 1, 10, 0, 0, 0), (827, 3, 13, 131, 96, 99), (830, 1, 40, 0, 0, 0), (831, 3, 8, 1705, 0, 0)])
def bLk_30 : Nat × List xI := (834, [(834, 1, 0, 1, 0, 0), (835, 1, 0, 0, 0, 0), (836, 1, 2, 3, 0, 0), (837, 1, 3, 1, 0, 0), (838, 1, 11, 0, 0, 0), (839, 1, 10, 0, 0, 0), (840, 1, 0, 0, 0, 0), (841, 1, 2, 3, 0, 0), (842, 1, 3, 2, 0, 0), (843, 1, 11, 0, 0, 0), (844, 1, 10, 0, 0, 0), (845, 1, 0, 0, 0, 0), (846, 1, 2, 3, 0, 0), (847, 1, 3, 3, 0, 0), (848, 1, 11, 0, 0, 0), (849, 1, 10, 0, 0, 0), (850, 3, 13, 66, 88, 100), (853, 1, 40, 0, 0, 0), (854, 1, 0, 2, 0, 0), (855, 1, 0, 0, 0, 0), (856, 1, 2, 3, 0, 0), (857, 1, 3, 1, 0, 0), (858, 1, 11, 0, 0, 0), (859, 1, 10, 0, 0, 0), (860, 1, 0, 0, 0, 0), (861, 1, 2, 3, 0, 0), (862, 1, 3, 2, 0, 0), (863, 1, 11, 0, 0, 0), (864, 1, 10, 0, 0, 0), (865, 1, 0, 0, 0, 0), (866, 1, 2, 3, 0, 0), (867, 1, 3, 3, 0, 0), (868, 1, 11, 0, 0, 0), (869, 1, 10, 0, 0, 0), (870, 3, 13, 154, 96, 104), (873, 1, 40, 0, 0, 0), (874, 3, 8, 1705, 0, 0)])
def bLk_31 : Nat × List xI := (877, [(877, 1, 0, 1, 0, 0), (878, 1, 0, 0, 0, 0), (879, 1, 2, 3, 0, 0), (880, 1, 3, 1, 0, 0), (881, 1, 11, 0, 0, 0), (882, 1, 10, 0, 0, 0), (883, 1, 0, 0, 0, 0), (884, 1, 2, 3, 0, 0), (885, 1, 3, 2, 0, 0), (886, 1, 11, 0, 0, 0), (887, 1, 10, 0, 0, 0), (888, 1, 0, 0, 0, 0), (889, 1, 2, 3, 0, 0), (890, 1, 3, 3, 0, 0), (891, 1, 11, 0, 0, 0), (892, 1, 10, 0, 0, 0), (893, 1, 0, 0, 0, 0), (894, 1, 2, 3, 0, 0), (895, 1, 3, 4, 0, 0), (896, 1, 11, 0, 0, 0), (897, 1, 10, 0, 0, 0), (898, 1, 0, 0, 0, 0), (899, 1, 2, 3, 0, 0), (900, 1, 3, 5, 0, 0), (901, 1, 11, 0, 0, 0), (902, 1, 10, 0, 0, 0), (903, 1, 0, 0, 0, 0), (904, 1, 2, 3, 0, 0), (905, 2, 4, 6, 0, 0), (907, 1, 11, 0, 0, 0), (908, 1, 10, 0, 0, 0), (909, 3, 13, 88, 88, 105), (912, 1, 40, 0, 0, 0), (913, 1, 0, 2, 0, 0), (914, 1, 0, 0, 0, 0), (915, 1, 2, 3, 0, 0), (916, 1, 3, 1, 0, 0), (917, 1, 11, 0, 0, 0), (918, 1, 10, 0, 0, 0), (919, 1, 0, 0, 0, 0), (920, 1, 2, 3, 0, 0), (921, 1, 3, 2, 0, 0), (922, 1, 11, 0, 0, 0), (923, 1, 10, 0, 0, 0), (924, 1, 0, 0, 0, 0), (925, 1, 2, 3, 0, 0), (926, 1, 3, 3, 0, 0), (927, 1, 11, 0, 0, 0), (928, 1, 10, 0, 0, 0), (929, 1, 0, 0, 0, 0), (930, 1, 2, 3, 0, 0), (931, 1, 3, 4, 0, 0), (932, 1, 11, 0, 0, 0), (933, 1, 10, 0, 0, 0), (934, 1, 0, 0, 0, 0), (935, 1, 2, 3, 0, 0), (936, 1, 3, 5, 0, 0), (937, 1, 11, 0, 0, 0), (938, 1, 10, 0, 0, 0), (939, 1, 0, 0, 0, 0), (940, 1, 2, 3, 0, 0), (941, 2, 4, 6, 0, 0), (943, 1, 11, 0, 0, 0), (944, 1, 10, 0, 0, 0), (945, 3, 13, 205, 96, 109), (948, 1, 40, 0, 0, 0), (949, 3, 8, 1705, 0, 0)])
def bLk_32 : Nat × List xI := (952, [(952, 1, 0, 1, 0, 0), (953, 1, 0, 0, 0, 0), (954, 1, 2, 3, 0, 0), (955, 1, 3, 1, 0, 0), (956, 1, 11, 0, 0, 0), (957, 1, 10, 0, 0, 0), (958, 1, 0, 0, 0, 0), (959, 1, 2, 3, 0, 0), (960, 1, 3, 2, 0, 0), (961, 1, 11, 0, 0, 0), (962, 1, 10, 0, 0, 0), (963, 3, 13, 79, 88, 110), (966, 1, 40, 0, 0, 0), (967, 1, 0, 2, 0, 0), (968, 1, 0, 0, 0, 0), (969, 1, 2, 3, 0, 0), (970, 1, 3, 1, 0, 0), (971, 1, 11, 0, 0, 0), (972, 1, 10, 0, 0, 0), (973, 1, 0, 0, 0, 0), (974, 1, 2, 3, 0, 0), (975, 1, 3, 2, 0, 0), (976, 1, 11, 0, 0, 0), (977, 1, 10, 0, 0, 0), (978, 3, 13, 186, 96, 113), (981, 1, 40, 0, 0, 0), (982, 3, 8, 1705, 0, 0)])
def bLk_33 : Nat × List xI := (985, [(985, 1, 0, 1, 0, 0), (986, 3, 13, 101, 88, 114), (989, 1, 40, 0, 0, 0), (990, 1, 0, 2, 0, 0), (991, 3, 13, 232, 96, 117), (994, 1, 40, 0, 0, 0), (995, 3, 8, 1705, 0, 0)])
def bLk_34 : Nat × List xI := (998, [(998, 1, 0, 1, 0, 0), (999, 1, 0, 0, 0, 0), (1000, 1, 2, 3, 0, 0), (1001, 1, 3, 1, 0, 0), (1002, 1, 11, 0, 0, 0), (1003, 1, 10, 0, 0, 0), (1004, 3, 13, 104, 88, 118), (1007, 1, 40, 0, 0, 0), (1008, 1, 0, 2, 0, 0), (1009, 1, 0, 0, 0, 0), (1010, 1, 2, 3, 0, 0), (1011, 1, 3, 1, 0, 0), (1012, 1, 11, 0, 0, 0), (1013, 1, 10, 0, 0, 0), (1014, 3, 13, 236, 96, 121), (1017, 1, 40, 0, 0, 0), (1018, 3, 8, 1705, 0, 0)])
def bLk_35 : Nat × List xI := (1021, [(1021, 1, 0, 1, 0, 0), (1022, 1, 0, 0, 0, 0), (1023, 1, 2, 3, 0, 0), (1024, 1, 3, 1, 0, 0), (1025, 1, 11, 0, 0, 0), (1026, 1, 10, 0, 0, 0), (1027, 1, 0, 0, 0, 0), (1028, 1, 2, 3, 0, 0), (1029, 1, 3, 2, 0, 0), (1030, 1, 11, 0, 0, 0), (1031, 1, 10, 0, 0, 0), (1032, 3, 13, 51, 88, 122), (1035, 1, 40, 0, 0, 0), (1036, 1, 0, 2, 0, 0), (1037, 1, 0, 0, 0, 0), (1038, 1, 2, 3, 0, 0), (1039, 1, 3, 1, 0, 0), (1040, 1, 11, 0, 0, 0), (1041, 1, 10, 0, 0, 0), (1042, 1, 0, 0, 0, 0), (1043, 1, 2, 3, 0, 0), (1044, 1, 3, 2, 0, 0), (1045, 1, 11, 0, 0, 0), (1046, 1, 10, 0, 0, 0), (1047, 3, 13, 133, 96, 125), (1050, 1, 40, 0, 0, 0), (1051, 3, 8, 1705, 0, 0)])
def bLk_36 : Nat × List xI := (1054, [(1054, 1, 0, 1, 0, 0), (1055, 1, 0, 0, 0, 0), (1056, 1, 2, 3, 0, 0), (1057, 1, 3, 1, 0, 0), (1058, 1, 11, 0, 0, 0), (1059, 1, 10, 0, 0, 0), (1060, 1, 0, 0, 0, 0), (1061, 1, 2, 3, 0, 0), (1062, 1, 3, 2, 0, 0), (1063, 1, 11, 0, 0, 0), (1064, 1, 10, 0, 0, 0), (1065, 3, 13, 52, 88, 126), (1068, 1, 40, 0, 0, 0), (1069, 1, 0, 2, 0, 0), (1070, 1, 0, 0, 0, 0), (1071, 1, 2, 3, 0, 0), (1072, 1, 3, 1, 0, 0), (1073, 1, 11, 0, 0, 0), (1074, 1, 10, 0, 0, 0), (1075, 1, 0, 0, 0, 0), (1076, 1, 2, 3, 0, 0), (1077, 1, 3, 2, 0, 0), (1078, 1, 11, 0, 0, 0), (1079, 1, 10, 0, 0, 0), (1080, 3, 13, 135, 96, 129), (1083, 1, 40, 0, 0, 0), (1084, 3, 8, 1705, 0, 0)])
def bLk_37 : Nat × List xI := (1087, [(1087, 1, 0, 1, 0, 0), (1088, 3, 13, 53, 88, 130), (1091, 1, 40, 0, 0, 0), (1092, 1, 0, 2, 0, 0), (1093, 3, 13, 137, 96, 133), (1096, 1, 40, 0, 0, 0), (1097, 3, 8, 1705, 0, 0)])
def bLk_38 : Nat × List xI := (1100, [(1100, 1, 0, 1, 0, 0), (1101, 1, 0, 0, 0, 0), (1102, 1, 2, 3, 0, 0), (1103, 1, 3, 1, 0, 0), (1104, 1, 11, 0, 0, 0), (1105, 1, 10, 0, 0, 0), (1106, 1, 0, 0, 0, 0), (1107, 1, 2, 3, 0, 0), (1108, 1, 3, 2, 0, 0), (1109, 1, 11, 0, 0, 0), (1110, 1, 10, 0, 0, 0), (1111, 1, 0, 0, 0, 0), (1112, 1, 2, 3, 0, 0), (1113, 1, 3, 3, 0, 0), (1114, 1, 11, 0, 0, 0), (1115, 1, 10, 0, 0, 0), (1116, 1, 0, 0, 0, 0), (1117, 1, 2, 3, 0, 0), (1118, 1, 3, 4, 0, 0), (1119, 1, 11, 0, 0, 0), (1120, 1, 10, 0, 0, 0), (1121, 3, 13, 102, 88, 134), (1124, 1, 40, 0, 0, 0), (1125, 1, 0, 2, 0, 0), (1126, 1, 0, 0, 0, 0), (1127, 1, 2, 3, 0, 0), (1128, 1, 3, 1, 0, 0), (1129, 1, 11, 0, 0, 0), (1130, 1, 10, 0, 0, 0), (1131, 1, 0, 0, 0, 0), (1132, 1, 2, 3, 0, 0), (1133, 1, 3, 2, 0, 0), (1134, 1, 11, 0, 0, 0), (1135, 1, 10, 0, 0, 0), (1136, 1, 0, 0, 0, 0), (1137, 1, 2, 3, 0, 0), (1138, 1, 3, 3, 0, 0), (1139, 1, 11, 0, 0, 0), (1140, 1, 10, 0, 0, 0), (1141, 1, 0, 0, 0, 0), (1142, 1, 2, 3, 0, 0), (1143, 1, 3, 4, 0, 0), (1144, 1, 11, 0, 0, 0), (1145, 1, 10, 0, 0, 0), (1146, 3, 13, 233, 96, 138), (1149, 1, 40, 0, 0, 0), (1150, 3, 8, 1705, 0, 0)])
def bLk_39 : Nat × List xI := (1153, [(1153, 1, 0, 1, 0, 0), (1154, 3, 13, 87, 88, 139), (1157, 1, 40, 0, 0, 0), (1158, 1, 0, 2, 0, 0), (1159, 3, 13, 204, 96, 142), (1162, 1, 40, 0, 0, 0), (1163, 3, 8, 1705, 0, 0)])
def bLk_40 : Nat × List xI := (1166, [(1166, 1, 0, 1, 0, 0), (1167, 1, 0, 0, 0, 0), (1168, 1, 2, 3, 0, 0), (1169, 1, 3, 1, 0, 0), (1170, 1, 11, 0, 0, 0), (1171, 1, 10, 0, 0, 0), (1172, 1, 0, 0, 0, 0), (1173, 1, 2, 3, 0, 0), (1174, 1, 3, 2, 0, 0), (1175, 1, 11, 0, 0, 0), (1176, 1, 10, 0, 0, 0), (1177, 3, 13, 86, 88, 143), (1180, 1, 40, 0, 0, 0), (1181, 1, 0, 2, 0, 0), (1182, 1, 0, 0, 0, 0), (1183, 1, 2, 3, 0, 0), (1184, 1, 3, 1, 0, 0), (1185, 1, 11, 0, 0, 0), (1186, 1, 10, 0, 0, 0), (1187, 1, 0, 0, 0, 0), (1188, 1, 2, 3, 0, 0), (1189, 1, 3, 2, 0, 0), (1190, 1, 11, 0, 0, 0), (1191, 1, 10, 0, 0, 0), (1192, 3, 13, 202, 96, 146), (1195, 1, 40, 0, 0, 0), (1196, 3, 8, 1705, 0, 0)])
def bLk_41 : Nat × List xI := (1199, [(1199, 1, 0, 1, 0, 0), (1200, 1, 0, 0, 0, 0), (1201, 1, 2, 3, 0, 0), (1202, 1, 3, 1, 0, 0), (1203, 1, 11, 0, 0, 0), (1204, 1, 10, 0, 0, 0), (1205, 1, 0, 0, 0, 0), (1206, 1, 2, 3, 0, 0), (1207, 1, 3, 2, 0, 0), (1208, 1, 11, 0, 0, 0), (1209, 1, 10, 0, 0, 0), (1210, 3, 13, 42, 88, 147), (1213, 1, 40, 0, 0, 0), (1214, 1, 0, 2, 0, 0), (1215, 1, 0, 0, 0, 0), (1216, 1, 2, 3, 0, 0), (1217, 1, 3, 1, 0, 0), (1218, 1, 11, 0, 0, 0), (1219, 1, 10, 0, 0, 0), (1220, 1, 0, 0, 0, 0), (1221, 1, 2, 3, 0, 0), (1222, 1, 3, 2, 0, 0), (1223, 1, 11, 0, 0, 0), (1224, 1, 10, 0, 0, 0), (1225, 3, 13, 126, 96, 150), (1228, 1, 40, 0, 0, 0), (1229, 3, 8, 1705, 0, 0)])
def bLk_42 : Nat × List xI := (1232, [(1232, 1, 0, 1, 0, 0), (1233, 1, 0, 0, 0, 0), (1234, 1, 2, 3, 0, 0), (1235, 1, 3, 1, 0, 0), (1236, 1, 11, 0, 0, 0), (1237, 1, 10, 0, 0, 0), (1238, 3, 13, 81, 88, 151), (1241, 1, 40, 0, 0, 0), (1242, 1, 0, 2, 0, 0), (1243, 1, 0, 0, 0, 0), (1244, 1, 2, 3, 0, 0), (1245, 1, 3, 1, 0, 0), (1246, 1, 11, 0, 0, 0), (1247, 1, 10, 0, 0, 0), (1248, 3, 13, 192, 96, 154), (1251, 1, 40, 0, 0, 0), (1252, 3, 8, 1705, 0, 0)])
def bLk_43 : Nat × List xI := (1255, [(1255, 1, 0, 1, 0, 0), (1256, 1, 0, 0, 0, 0), (1257, 1, 2, 3, 0, 0), (1258, 1, 3, 1, 0, 0), (1259, 1, 11, 0, 0, 0), (1260, 1, 10, 0, 0, 0), (1261, 1, 0, 0, 0, 0), (1262, 1, 2, 3, 0, 0), (1263, 1, 3, 2, 0, 0), (1264, 1, 11, 0, 0, 0), (1265, 1, 10, 0, 0, 0), (1266, 1, 0, 0, 0, 0), (1267, 1, 2, 3, 0, 0), (1268, 1, 3, 3, 0, 0), (1269, 1, 11, 0, 0, 0), (1270, 1, 10, 0, 0, 0), (1271, 3, 13, 62, 88, 155), (1274, 1, 40, 0, 0, 0), (1275, 1, 0, 2, 0, 0), (1276, 1, 0, 0, 0, 0), (1277, 1, 2, 3, 0, 0), (1278, 1, 3, 1, 0, 0), (1279, 1, 11, 0, 0, 0), (1280, 1, 10, 0, 0, 0), (1281, 1, 0, 0, 0, 0), (1282, 1, 2, 3, 0, 0), (1283, 1, 3, 2, 0, 0), (1284, 1, 11, 0, 0, 0), (1285, 1, 10, 0, 0, 0), (1286, 1, 0, 0, 0, 0), (1287, 1, 2, 3, 0, 0), (1288, 1, 3, 3, 0, 0), (1289, 1, 11, 0, 0, 0), (1290, 1, 10, 0, 0, 0), (1291, 3, 13, 150, 96, 159), (1294, 1, 40, 0, 0, 0), (1295, 3, 8, 1705, 0, 0)])
def bLk_44 : Nat × List xI := (1298, [(1298, 1, 0, 1, 0, 0), (1299, 1, 0, 0, 0, 0), (1300, 1, 2, 3, 0, 0), (1301, 1, 3, 1, 0, 0), (1302, 1, 11, 0, 0, 0), (1303, 1, 10, 0, 0, 0), (1304, 1, 0, 0, 0, 0), (1305, 1, 2, 3, 0, 0), (1306, 1, 3, 2, 0, 0), (1307, 1, 11, 0, 0, 0), (1308, 1, 10, 0, 0, 0), (1309, 3, 13, 40, 88, 160), (1312, 1, 40, 0, 0, 0), (1313, 1, 0, 2, 0, 0), (1314, 1, 0, 0, 0, 0), (1315, 1, 2, 3, 0, 0), (1316, 1, 3, 1, 0, 0), (1317, 1, 11, 0, 0, 0), (1318, 1, 10, 0, 0, 0), (1319, 1, 0, 0, 0, 0), (1320, 1, 2, 3, 0, 0), (1321, 1, 3, 2, 0, 0), (1322, 1, 11, 0, 0, 0), (1323, 1, 10, 0, 0, 0), (1324, 3, 13, 124, 96, 163), (1327, 1, 40, 0, 0, 0), (1328, 3, 8, 1705, 0, 0)])
def bLk_45 : Nat × List xI := (1331, [(1331, 1, 0, 1, 0, 0), (1332, 1, 0, 0, 0, 0), (1333, 1, 2, 3, 0, 0), (1334, 1, 3, 1, 0, 0), (1335, 1, 11, 0, 0, 0), (1336, 1, 10, 0, 0, 0), (1337, 3, 13, 94, 88, 164), (1340, 1, 40, 0, 0, 0), (1341, 1, 0, 2, 0, 0), (1342, 1, 0, 0, 0, 0), (1343, 1, 2, 3, 0, 0), (1344, 1, 3, 1, 0, 0), (1345, 1, 11, 0, 0, 0), (1346, 1, 10, 0, 0, 0), (1347, 3, 13, 217, 96, 167), (1350, 1, 40, 0, 0, 0), (1351, 3, 8, 1705, 0, 0)])
def bLk_46 : Nat × List xI := (1354, [(1354, 1, 0, 1, 0, 0), (1355, 1, 0, 0, 0, 0), (1356, 1, 2, 3, 0, 0), (1357, 1, 3, 1, 0, 0), (1358, 1, 11, 0, 0, 0), (1359, 1, 10, 0, 0, 0), (1360, 3, 13, 90, 88, 168), (1363, 1, 40, 0, 0, 0), (1364, 1, 0, 2, 0, 0), (1365, 1, 0, 0, 0, 0), (1366, 1, 2, 3, 0, 0), (1367, 1, 3, 1, 0, 0), (1368, 1, 11, 0, 0, 0), (1369, 1, 10, 0, 0, 0), (1370, 3, 13, 210, 96, 171), (1373, 1, 40, 0, 0, 0), (1374, 3, 8, 1705, 0, 0)])
def bLk_47 : Nat × List xI := (1377, [(1377, 1, 0, 1, 0, 0), (1378, 1, 0, 0, 0, 0), (1379, 1, 2, 3, 0, 0), (1380, 1, 3, 1, 0, 0), (1381, 1, 11, 0, 0, 0), (1382, 1, 10, 0, 0, 0), (1383, 3, 13, 74, 88, 172), (1386, 1, 40, 0, 0, 0), (1387, 1, 0, 2, 0, 0), (1388, 1, 0, 0, 0, 0), (1389, 1, 2, 3, 0, 0), (1390, 1, 3, 1, 0, 0), (1391, 1, 11, 0, 0, 0), (1392, 1, 10, 0, 0, 0), (1393, 3, 13, 176, 96, 175), (1396, 1, 40, 0, 0, 0), (1397, 3, 8, 1705, 0, 0)])
def bLk_48 : Nat × List xI := (1400, [(1400, 1, 0, 1, 0, 0), (1401, 3, 13, 95, 88, 176), (1404, 1, 40, 0, 0, 0), (1405, 1, 0, 2, 0, 0), (1406, 3, 13, 219, 96, 179), (1409, 1, 40, 0, 0, 0), (1410, 3, 8, 1705, 0, 0)])
def bLk_49 : Nat × List xI := (1413, [(1413, 1, 0, 1, 0, 0), (1414, 1, 0, 0, 0, 0), (1415, 1, 2, 3, 0, 0), (1416, 1, 3, 1, 0, 0), (1417, 1, 11, 0, 0, 0), (1418, 1, 10, 0, 0, 0), (1419, 1, 0, 0, 0, 0), (1420, 1, 2, 3, 0, 0), (1421, 1, 3, 2, 0, 0), (1422, 1, 11, 0, 0, 0), (1423, 1, 10, 0, 0, 0), (1424, 1, 0, 0, 0, 0), (1425, 1, 2, 3, 0, 0), (1426, 1, 3, 3, 0, 0), (1427, 1, 11, 0, 0, 0), (1428, 1, 10, 0, 0, 0), (1429, 1, 0, 0, 0, 0), (1430, 1, 2, 3, 0, 0), (1431, 1, 3, 4, 0, 0), (1432, 1, 11, 0, 0, 0), (1433, 1, 10, 0, 0, 0), (1434, 3, 13, 98, 88, 180), (1437, 1, 40, 0, 0, 0), (1438, 1, 0, 2, 0, 0), (1439, 1, 0, 0, 0, 0), (1440, 1, 2, 3, 0, 0), (1441, 1, 3, 1, 0, 0), (1442, 1, 11, 0, 0, 0), (1443, 1, 10, 0, 0, 0), (1444, 1, 0, 0, 0, 0), (1445, 1, 2, 3, 0, 0), (1446, 1, 3, 2, 0, 0), (1447, 1, 11, 0, 0, 0), (1448, 1, 10, 0, 0, 0), (1449, 1, 0, 0, 0, 0), (1450, 1, 2, 3, 0, 0), (1451, 1, 3, 3, 0, 0), (1452, 1, 11, 0, 0, 0), (1453, 1, 10, 0, 0, 0), (1454, 1, 0, 0, 0, 0), (1455, 1, 2, 3, 0, 0), (1456, 1, 3, 4, 0, 0), (1457, 1, 11, 0, 0, 0), (1458, 1, 10, 0, 0, 0), (1459, 3, 13, 228, 96, 183), (1462, 1, 40, 0, 0, 0), (1463, 3, 8, 1705, 0, 0)])
def bLk_50 : Nat × List xI := (1466, [(1466, 1, 0, 1, 0, 0), (1467, 3, 13, 73, 88, 184), (1470, 1, 40, 0, 0, 0), (1471, 1, 0, 2, 0, 0), (1472, 3, 13, 175, 96, 187), (1475, 1, 40, 0, 0, 0), (1476, 3, 8, 1705, 0, 0)])
def bLk_51 : Nat × List xI := (1479, [(1479, 1, 0, 1, 0, 0), (1480, 1, 0, 0, 0, 0), (1481, 1, 2, 3, 0, 0), (1482, 1, 3, 1, 0, 0), (1483, 1, 11, 0, 0, 0), (1484, 1, 10, 0, 0, 0), (1485, 3, 13, 75, 88, 188), (1488, 1, 40, 0, 0, 0), (1489, 1, 0, 2, 0, 0), (1490, 1, 0, 0, 0, 0), (1491, 1, 2, 3, 0, 0), (1492, 1, 3, 1, 0, 0), (1493, 1, 11, 0, 0, 0), (1494, 1, 10, 0, 0, 0), (1495, 3, 13, 178, 96, 191), (1498, 1, 40, 0, 0, 0), (1499, 3, 8, 1705, 0, 0)])
def bLk_52 : Nat × List xI := (1502, [(1502, 1, 0, 1, 0, 0), (1503, 1, 0, 0, 0, 0), (1504, 1, 2, 3, 0, 0), (1505, 1, 3, 1, 0, 0), (1506, 1, 11, 0, 0, 0), (1507, 1, 10, 0, 0, 0), (1508, 1, 0, 0, 0, 0), (1509, 1, 2, 3, 0, 0), (1510, 1, 3, 2, 0, 0), (1511, 1, 11, 0, 0, 0), (1512, 1, 10, 0, 0, 0), (1513, 3, 7, 1520, 0, 0), (1516, 1, 3, 1, 0, 0), (1517, 3, 8, 1521, 0, 0)])
def bLk_53 : Nat × List xI := (1520, [(1520, 1, 3, 0, 0, 0)])
def bLk_54 : Nat × List xI := (1521, [(1521, 3, 13, 96, 88, 192), (1524, 1, 40, 0, 0, 0), (1525, 1, 0, 2, 0, 0), (1526, 1, 0, 0, 0, 0), (1527, 1, 2, 3, 0, 0), (1528, 1, 3, 1, 0, 0), (1529, 1, 11, 0, 0, 0), (1530, 1, 10, 0, 0, 0), (1531, 1, 0, 0, 0, 0), (1532, 1, 2, 3, 0, 0), (1533, 1, 3, 2, 0, 0), (1534, 1, 11, 0, 0, 0), (1535, 1, 10, 0, 0, 0), (1536, 3, 7, 1543, 0, 0), (1539, 1, 3, 1, 0, 0), (1540, 3, 8, 1544, 0, 0)])
def bLk_55 : Nat × List xI := (1543, [(1543, 1, 3, 0, 0, 0)])
def bLk_56 : Nat × List xI := (1544, [(1544, 3, 13, 223, 96, 196), (1547, 1, 40, 0, 0, 0), (1548, 3, 8, 1705, 0, 0)])
def bLk_57 : Nat × List xI := (1551, [(1551, 1, 0, 1, 0, 0), (1552, 1, 0, 0, 0, 0), (1553, 1, 2, 3, 0, 0), (1554, 1, 3, 1, 0, 0), (1555, 1, 11, 0, 0, 0), (1556, 1, 10, 0, 0, 0), (1557, 3, 13, 91, 88, 197), (1560, 1, 40, 0, 0, 0), (1561, 1, 0, 2, 0, 0), (1562, 1, 0, 0, 0, 0), (1563, 1, 2, 3, 0, 0), (1564, 1, 3, 1, 0, 0), (1565, 1, 11, 0, 0, 0), (1566, 1, 10, 0, 0, 0), (1567, 3, 13, 212, 96, 200), (1570, 1, 40, 0, 0, 0), (1571, 3, 8, 1705, 0, 0)])
def bLk_58 : Nat × List xI := (1574, [(1574, 1, 0, 1, 0, 0), (1575, 1, 0, 0, 0, 0), (1576, 1, 2, 3, 0, 0), (1577, 1, 3, 1, 0, 0), (1578, 1, 11, 0, 0, 0), (1579, 1, 10, 0, 0, 0), (1580, 3, 13, 84, 88, 201), (1583, 1, 40, 0, 0, 0), (1584, 1, 0, 2, 0, 0), (1585, 1, 0, 0, 0, 0), (1586, 1, 2, 3, 0, 0), (1587, 1, 3, 1, 0, 0), (1588, 1, 11, 0, 0, 0), (1589, 1, 10, 0, 0, 0), (1590, 3, 13, 197, 96, 204), (1593, 1, 40, 0, 0, 0), (1594, 3, 8, 1705, 0, 0)])
def bLk_59 : Nat × List xI := (1597, [(1597, 1, 0, 1, 0, 0), (1598, 3, 13, 93, 88, 205), (1601, 1, 40, 0, 0, 0), (1602, 1, 0, 2, 0, 0), (1603, 3, 13, 216, 96, 208), (1606, 1, 40, 0, 0, 0), (1607, 3, 8, 1705, 0, 0)])
def bLk_60 : Nat × List xI := (1610, [(1610, 1, 0, 1, 0, 0), (1611, 3, 13, 38, 88, 209), (1614, 1, 40, 0, 0, 0), (1615, 1, 0, 2, 0, 0), (1616, 3, 13, 119, 96, 212), (1619, 1, 40, 0, 0, 0), (1620, 3, 8, 1705, 0, 0)])
def bLk_61 : Nat × List xI := (1623, [(1623, 1, 0, 1, 0, 0), (1624, 3, 13, 89, 88, 213), (1627, 1, 40, 0, 0, 0), (1628, 1, 0, 2, 0, 0), (1629, 3, 13, 209, 96, 216), (1632, 1, 40, 0, 0, 0), (1633, 3, 8, 1705, 0, 0)])
def bLk_62 : Nat × List xI := (1636, [(1636, 1, 0, 1, 0, 0), (1637, 1, 0, 0, 0, 0), (1638, 1, 2, 3, 0, 0), (1639, 1, 3, 1, 0, 0), (1640, 1, 11, 0, 0, 0), (1641, 1, 10, 0, 0, 0), (1642, 3, 13, 44, 88, 217), (1645, 1, 40, 0, 0, 0), (1646, 1, 0, 2, 0, 0), (1647, 1, 0, 0, 0, 0), (1648, 1, 2, 3, 0, 0), (1649, 1, 3, 1, 0, 0), (1650, 1, 11, 0, 0, 0), (1651, 1, 10, 0, 0, 0), (1652, 3, 13, 127, 96, 220), (1655, 1, 40, 0, 0, 0), (1656, 3, 8, 1705, 0, 0)])
def bLk_63 : Nat × List xI := (1659, [(1659, 1, 0, 1, 0, 0), (1660, 1, 0, 0, 0, 0), (1661, 1, 2, 3, 0, 0), (1662, 1, 3, 1, 0, 0), (1663, 1, 11, 0, 0, 0), (1664, 1, 10, 0, 0, 0), (1665, 3, 13, 65, 88, 221), (1668, 1, 40, 0, 0, 0), (1669, 1, 0, 2, 0, 0), (1670, 1, 0, 0, 0, 0), (1671, 1, 2, 3, 0, 0), (1672, 1, 3, 1, 0, 0), (1673, 1, 11, 0, 0, 0), (1674, 1, 10, 0, 0, 0), (1675, 3, 13, 153, 96, 224), (1678, 1, 40, 0, 0, 0), (1679, 3, 8, 1705, 0, 0)])
def bLk_64 : Nat × List xI := (1682, [(1682, 1, 0, 1, 0, 0), (1683, 1, 0, 0, 0, 0), (1684, 1, 2, 3, 0, 0), (1685, 1, 3, 1, 0, 0), (1686, 1, 11, 0, 0, 0), (1687, 1, 10, 0, 0, 0), (1688, 3, 13, 37, 88, 225), (1691, 1, 40, 0, 0, 0), (1692, 1, 0, 2, 0, 0), (1693, 1, 0, 0, 0, 0), (1694, 1, 2, 3, 0, 0), (1695, 1, 3, 1, 0, 0), (1696, 1, 11, 0, 0, 0), (1697, 1, 10, 0, 0, 0), (1698, 3, 13, 111, 96, 228), (1701, 1, 40, 0, 0, 0), (1702, 3, 8, 1705, 0, 0)])
def bLk_65 : Nat × List xI := (1705, [(1705, 3, 9, 3, 7, 0), (1708, 3, 8, 18, 0, 0)])
def bLk_66 : Nat × List xI := (1711, [(1711, 1, 3, 1, 0, 0), (1712, 1, 12, 0, 1, 0)])
def bL_p : List (Nat × List xI) := [bLk_0]
def bL_a : List (Nat × List xI) := [bLk_0, bLk_1, bLk_2, bLk_3, bLk_4, bLk_5, bLk_6, bLk_7, bLk_8, bLk_9, bLk_10, bLk_11, bLk_12, bLk_13, bLk_14, bLk_15, bLk_16, bLk_17, bLk_18, bLk_19, bLk_20, bLk_21, bLk_22, bLk_23, bLk_24, bLk_25, bLk_26, bLk_27, bLk_28, bLk_29, bLk_30, bLk_31, bLk_32, bLk_33, bLk_34, bLk_35, bLk_36, bLk_37, bLk_38, bLk_39, bLk_40, bLk_41, bLk_42, bLk_43, bLk_44, bLk_45, bLk_46, bLk_47, bLk_48, bLk_49, bLk_50, bLk_51, bLk_52, bLk_53, bLk_54, bLk_55, bLk_56, bLk_57, bLk_58, bLk_59, bLk_60, bLk_61, bLk_62, bLk_63, bLk_64, bLk_65, bLk_66]
def mLp : xM := (yL_law, cL_law, 4, some .boolean, 1, 4, 600000, 7302250, bL_p)
def mLa : xM := (yL_law, cL_law, 4, some .boolean, 1, 4, 600000, 7302250, bL_a)
def xW0 : List (List xE) := [[.inl (11, [(2, 1), (2, 26), (2, 27), (2, 43), (2, 49), (2, 58), (2, 68), (2, 72), (2, 76), (2, 80), (2, 81)]), .inl (9, [(2, 2), (0, 0), (0, 0), (0, 4294967295), (2, 3), (2, 14), (0, 0), (0, 4294967295), (2, 16), (0, 0), (2, 18), (2, 20), (2, 22), (2, 24)]), .inr (1, 500, 0, []), .inl (1, [(2, 4), (2, 6), (2, 8), (2, 10), (2, 12), (0, 1), (0, 1), (0, 1), (0, 1), (0, 0)]), .inl (5, [(0, 6), (0, 4), (2, 5), (0, 0)]), .inr (0, 24, 1, []), .inl (5, [(0, 4), (0, 2), (2, 7), (0, 0)]), .inr (0, 8, 2, []), .inl (5, [(0, 6), (0, 2), (2, 9), (0, 0)]), .inr (0, 12, 3, [])],
  [.inl (5, [(0, 4), (0, 3), (2, 11), (0, 0)]), .inr (0, 12, 4, []), .inl (5, [(0, 20), (0, 2), (2, 13), (0, 0)]), .inr (0, 40, 5, []), .inl (5, [(0, 40), (0, 5), (2, 15), (0, 0)]), .inr (0, 200, 6, []), .inl (5, [(0, 12), (0, 5), (2, 17), (0, 0)]), .inr (0, 60, 7, []), .inl (5, [(0, 4), (0, 3), (2, 19), (0, 0)]), .inr (0, 12, 8, [])],
  [.inl (5, [(0, 12), (0, 4), (2, 21), (0, 0)]), .inr (0, 48, 9, []), .inl (5, [(0, 16), (0, 2), (2, 23), (0, 0)]), .inr (0, 32, 10, []), .inl (5, [(0, 64), (0, 5), (2, 25), (0, 0)]), .inr (0, 320, 11, []), .inr (4, 3, 12, []), .inl (2, [(2, 1), (2, 42), (2, 28), (2, 39), (2, 40), (2, 41), (0, 0), (0, 0), (0, 0), (0, 0), (0, 0)]), .inl (1, [(2, 29), (2, 31), (2, 33), (2, 35), (2, 37), (0, 1), (0, 1), (0, 1), (0, 1), (0, 0)]), .inl (5, [(0, 6), (0, 4), (2, 30), (0, 0)])],
  [.inr (0, 24, 13, []), .inl (5, [(0, 4), (0, 2), (2, 32), (0, 0)]), .inr (0, 8, 14, []), .inl (5, [(0, 6), (0, 2), (2, 34), (0, 0)]), .inr (0, 12, 15, []), .inl (5, [(0, 4), (0, 3), (2, 36), (0, 0)]), .inr (0, 12, 16, []), .inl (5, [(0, 20), (0, 2), (2, 38), (0, 0)]), .inr (0, 40, 17, []), .inr (0, 3, 18, [])],
  [.inr (0, 3, 19, []), .inr (0, 20, 20, []), .inl (8, [(2, 2), (0, 0), (0, 0), (0, 0), (0, 0), (0, 0)]), .inl (6, [(2, 1), (2, 48), (2, 44), (2, 46), (0, 0), (0, 0)]), .inl (5, [(0, 16), (0, 2), (2, 45), (0, 0)]), .inr (0, 32, 21, []), .inl (5, [(0, 64), (0, 5), (2, 47), (0, 0)]), .inr (0, 320, 22, []), .inl (8, [(2, 2), (0, 0), (0, 0), (0, 0), (0, 0), (0, 0)]), .inl (0, [(2, 3), (2, 50), (2, 51), (2, 52), (2, 53), (2, 54), (2, 55), (2, 56), (2, 57), (0, 0), (0, 0)])],
  [.inr (0, 6, 23, []), .inr (0, 6, 24, []), .inr (0, 6, 25, []), .inr (3, 6, 26, []), .inr (3, 6, 27, []), .inr (3, 6, 28, []), .inr (3, 4, 29, []), .inr (0, 6, 30, []), .inl (10, [(2, 1), (2, 59), (2, 60), (2, 61), (2, 62), (2, 63), (2, 64), (2, 65), (2, 66), (2, 67), (0, 0), (0, 0), (0, 0)]), .inr (2, 36, 31, [])],
  [.inr (2, 36, 32, []), .inr (0, 36, 33, []), .inr (0, 36, 34, []), .inr (2, 6, 35, []), .inr (2, 6, 36, []), .inr (2, 6, 37, []), .inr (0, 36, 38, []), .inr (0, 36, 39, []), .inl (3, [(2, 1), (2, 69), (2, 70), (2, 71), (0, 0), (0, 0)]), .inr (0, 36, 40, [])],
  [.inr (0, 36, 41, []), .inr (0, 36, 42, []), .inl (7, [(2, 3), (2, 73), (2, 74), (0, 0), (0, 0)]), .inr (0, 3025, 43, []), .inl (5, [(0, 100), (0, 3), (2, 75), (0, 0)]), .inr (0, 300, 44, []), .inl (4, [(2, 20), (2, 77), (2, 78), (2, 79), (0, 0), (0, 0), (0, 0), (0, 0), (0, 0), (0, 0), (0, 0), (0, 0)]), .inr (0, 240, 45, []), .inr (0, 15, 46, []), .inr (0, 15, 47, [])],
  [.inr (0, 11, 48, []), .inr (2, 16, 49, []), .inl (12, [(2, 83), (2, 84), (0, 0), (0, 0), (0, 0), (0, 0), (0, 0), (0, 0), (0, 0), (0, 0), (0, 0), (2, 85), (2, 86), (2, 87), (0, 0), (2, 88), (2, 89), (2, 90), (2, 91), (2, 92), (2, 93), (2, 94), (4, 0), (4, 0), (0, 0), (2, 95), (2, 96), (2, 97), (2, 98), (2, 99), (2, 100), (2, 101), (2, 102), (0, 0), (2, 103), (2, 104), (2, 105), (2, 106), (2, 107), (2, 108), (2, 109), (0, 0), (0, 0), (2, 110), (2, 111), (2, 112), (2, 113)]), .inr (0, 5360, 50, [(8, (0, 1)), (7, (0, 1)), (6, (0, 1)), (5, (0, 1)), (17, (0, 4294967295)), (12, (0, 4294967295))]), .inr (2, 3, 51, []), .inr (0, 7, 52, []), .inr (0, 140, 53, []), .inr (0, 20, 54, []), .inr (0, 6, 55, []), .inr (0, 6, 56, [])],
  [.inr (0, 6, 57, []), .inr (0, 6, 58, []), .inr (3, 6, 59, []), .inr (3, 6, 60, []), .inr (3, 6, 61, []), .inr (0, 36, 62, []), .inr (0, 36, 63, []), .inr (0, 6, 64, []), .inr (0, 6, 65, []), .inr (2, 36, 66, [])],
  [.inr (2, 36, 67, []), .inr (0, 36, 68, []), .inr (0, 36, 69, []), .inr (0, 36, 70, []), .inr (0, 36, 71, []), .inr (0, 36, 72, []), .inr (0, 14641, 73, []), .inr (2, 14641, 74, []), .inr (0, 200, 75, []), .inr (0, 300, 76, [])],
  [.inr (0, 36, 77, []), .inr (0, 240, 78, []), .inr (0, 320, 79, []), .inr (0, 4, 80, [])]]
def xbd0 : List (Nat × Nat) := [(0, 4294967295), (0, 4294967295), (0, 4294967295), (0, 4294967295), (0, 4294967295), (0, 4294967295), (0, 4294967295)]
def xhp0 : xH := (xW0, xbd0, [], 114, 46853, 81, 114)
def xlo0 (v : xV) : xLo := [(3, (0, 0)), (2, (2, 82)), (1, (2, 0)), (0, v)]
end
section
theorem lw_lk_0 : xLq RL (3, 24, 11, 0, 7) := ⟨by decide, _, rfl, ⟨rfl, (RX11, TX11, 11), rfl, xtc1 22 rfl rfl, xtc1 23 rfl rfl, xtc1 1 rfl rfl⟩⟩
theorem lw_lk_1 : xLq RL (3, 13, 67, 92, 9) := ⟨by decide, _, rfl, ⟨rfl, mX11_init, rfl, xtc1 24 rfl rfl, rfl, rfl, rfl, xtc1 25 rfl rfl⟩⟩
theorem lw_lk_2 : xLq RL (3, 24, 12, 0, 10) := ⟨by decide, _, rfl, ⟨rfl, (RX12, TX12, 47), rfl, xtc6 207 rfl rfl, xtc6 208 rfl rfl, xtc1 13 rfl rfl⟩⟩
theorem lw_lk_3 : xLq RL (3, 13, 156, 100, 12) := ⟨by decide, _, rfl, ⟨rfl, mX12_init, rfl, xtc6 209 rfl rfl, rfl, rfl, rfl, xtc6 210 rfl rfl⟩⟩
theorem lw_lk_4 : xLq RL (3, 13, 59, 88, 13) := ⟨by decide, _, rfl, ⟨rfl, mX11_feed, rfl, xtc3 49 rfl rfl, xtc3 50 rfl rfl, xtc3 51 rfl rfl, (RX11, TX11, 11), rfl, rfl⟩⟩
theorem lw_lk_5 : xLq RL (3, 13, 144, 96, 17) := ⟨by decide, _, rfl, ⟨rfl, mX12_feed, rfl, xtc7 115 rfl rfl, xtc7 116 rfl rfl, xtc7 117 rfl rfl, (RX12, TX12, 47), rfl, rfl⟩⟩
theorem lw_lk_6 : xLq RL (3, 13, 56, 88, 18) := ⟨by decide, _, rfl, ⟨rfl, mX11_end, rfl, xtc3 57 rfl rfl, xtc3 58 rfl rfl, xtc3 59 rfl rfl, (RX11, TX11, 11), rfl, rfl⟩⟩
theorem lw_lk_7 : xLq RL (3, 13, 139, 96, 22) := ⟨by decide, _, rfl, ⟨rfl, mX12_end, rfl, xtc7 119 rfl rfl, xtc7 120 rfl rfl, xtc7 121 rfl rfl, (RX12, TX12, 47), rfl, rfl⟩⟩
theorem lw_lk_8 : xLq RL (3, 13, 60, 88, 23) := ⟨by decide, _, rfl, ⟨rfl, mX11_film, rfl, xtc3 61 rfl rfl, xtc3 62 rfl rfl, xtc3 63 rfl rfl, (RX11, TX11, 11), rfl, rfl⟩⟩
theorem lw_lk_9 : xLq RL (3, 13, 145, 96, 27) := ⟨by decide, _, rfl, ⟨rfl, mX12_film, rfl, xtc7 123 rfl rfl, xtc7 124 rfl rfl, xtc7 125 rfl rfl, (RX12, TX12, 47), rfl, rfl⟩⟩
theorem lw_lk_10 : xLq RL (3, 13, 57, 88, 28) := ⟨by decide, _, rfl, ⟨rfl, mX11_fault, rfl, xtc4 33 rfl rfl, xtc4 34 rfl rfl, xtc4 35 rfl rfl, (RX11, TX11, 11), rfl, rfl⟩⟩
theorem lw_lk_11 : xLq RL (3, 13, 141, 96, 31) := ⟨by decide, _, rfl, ⟨rfl, mX12_fault, rfl, xtc7 205 rfl rfl, xtc7 206 rfl rfl, xtc7 207 rfl rfl, (RX12, TX12, 47), rfl, rfl⟩⟩
theorem lw_lk_12 : xLq RL (3, 13, 76, 88, 32) := ⟨by decide, _, rfl, ⟨rfl, mX11_layer, rfl, xtc4 37 rfl rfl, xtc4 38 rfl rfl, xtc4 39 rfl rfl, (RX11, TX11, 11), rfl, rfl⟩⟩
theorem lw_lk_13 : xLq RL (3, 13, 180, 96, 36) := ⟨by decide, _, rfl, ⟨rfl, mX12_layer, rfl, xtc7 209 rfl rfl, xtc7 210 rfl rfl, xtc7 211 rfl rfl, (RX12, TX12, 47), rfl, rfl⟩⟩
theorem lw_lk_14 : xLq RL (3, 13, 83, 88, 37) := ⟨by decide, _, rfl, ⟨rfl, mX11_neutral, rfl, xtc4 56 rfl rfl, xtc4 57 rfl rfl, xtc4 58 rfl rfl, (RX11, TX11, 11), rfl, rfl⟩⟩
theorem lw_lk_15 : xLq RL (3, 13, 196, 96, 40) := ⟨by decide, _, rfl, ⟨rfl, mX12_neutral, rfl, xtc7 237 rfl rfl, xtc7 238 rfl rfl, xtc7 239 rfl rfl, (RX12, TX12, 47), rfl, rfl⟩⟩
theorem lw_lk_16 : xLq RL (3, 13, 97, 88, 41) := ⟨by decide, _, rfl, ⟨rfl, mX11_stretch, rfl, xtc4 68 rfl rfl, xtc4 69 rfl rfl, xtc4 70 rfl rfl, (RX11, TX11, 11), rfl, rfl⟩⟩
theorem lw_lk_17 : xLq RL (3, 13, 225, 96, 44) := ⟨by decide, _, rfl, ⟨rfl, mX12_stretch, rfl, xtc8 2 rfl rfl, xtc8 3 rfl rfl, xtc8 4 rfl rfl, (RX12, TX12, 47), rfl, rfl⟩⟩
theorem lw_lk_18 : xLq RL (3, 13, 39, 88, 45) := ⟨by decide, _, rfl, ⟨rfl, mX11_bears, rfl, xtc4 82 rfl rfl, xtc4 83 rfl rfl, xtc4 84 rfl rfl, (RX11, TX11, 11), rfl, rfl⟩⟩
theorem lw_lk_19 : xLq RL (3, 13, 120, 96, 49) := ⟨by decide, _, rfl, ⟨rfl, mX12_bears, rfl, xtc8 12 rfl rfl, xtc8 13 rfl rfl, xtc8 14 rfl rfl, (RX12, TX12, 47), rfl, rfl⟩⟩
theorem lw_lk_20 : xLq RL (3, 13, 78, 88, 50) := ⟨by decide, _, rfl, ⟨rfl, mX11_least, rfl, xtc4 94 rfl rfl, xtc4 95 rfl rfl, xtc4 96 rfl rfl, (RX11, TX11, 11), rfl, rfl⟩⟩
theorem lw_lk_21 : xLq RL (3, 13, 184, 96, 53) := ⟨by decide, _, rfl, ⟨rfl, mX12_least, rfl, xtc8 16 rfl rfl, xtc8 17 rfl rfl, xtc8 18 rfl rfl, (RX12, TX12, 47), rfl, rfl⟩⟩
theorem lw_lk_22 : xLq RL (3, 13, 105, 88, 54) := ⟨by decide, _, rfl, ⟨rfl, mX11_worst, rfl, xtc4 109 rfl rfl, xtc4 110 rfl rfl, xtc4 111 rfl rfl, (RX11, TX11, 11), rfl, rfl⟩⟩
theorem lw_lk_23 : xLq RL (3, 13, 239, 96, 57) := ⟨by decide, _, rfl, ⟨rfl, mX12_worst, rfl, xtc8 25 rfl rfl, xtc8 26 rfl rfl, xtc8 27 rfl rfl, (RX12, TX12, 47), rfl, rfl⟩⟩
theorem lw_lk_24 : xLq RL (3, 13, 85, 88, 58) := ⟨by decide, _, rfl, ⟨rfl, mX11_order, rfl, xtc4 117 rfl rfl, xtc4 118 rfl rfl, xtc4 119 rfl rfl, (RX11, TX11, 11), rfl, rfl⟩⟩
theorem lw_lk_25 : xLq RL (3, 13, 201, 96, 61) := ⟨by decide, _, rfl, ⟨rfl, mX12_order, rfl, xtc8 29 rfl rfl, xtc8 30 rfl rfl, xtc8 31 rfl rfl, (RX12, TX12, 47), rfl, rfl⟩⟩
theorem lw_lk_26 : xLq RL (3, 13, 100, 88, 62) := ⟨by decide, _, rfl, ⟨rfl, mX11_tired, rfl, xtc4 140 rfl rfl, xtc4 141 rfl rfl, xtc4 142 rfl rfl, (RX11, TX11, 11), rfl, rfl⟩⟩
theorem lw_lk_27 : xLq RL (3, 13, 230, 96, 65) := ⟨by decide, _, rfl, ⟨rfl, mX12_tired, rfl, xtc8 41 rfl rfl, xtc8 42 rfl rfl, xtc8 43 rfl rfl, (RX12, TX12, 47), rfl, rfl⟩⟩
theorem lw_lk_28 : xLq RL (3, 13, 48, 88, 66) := ⟨by decide, _, rfl, ⟨rfl, mX11_cracks, rfl, xtc4 171 rfl rfl, xtc4 172 rfl rfl, xtc4 173 rfl rfl, (RX11, TX11, 11), rfl, rfl⟩⟩
theorem lw_lk_29 : xLq RL (3, 13, 129, 96, 69) := ⟨by decide, _, rfl, ⟨rfl, mX12_cracks, rfl, xtc8 53 rfl rfl, xtc8 54 rfl rfl, xtc8 55 rfl rfl, (RX12, TX12, 47), rfl, rfl⟩⟩
theorem lw_lk_30 : xLq RL (3, 13, 54, 88, 70) := ⟨by decide, _, rfl, ⟨rfl, mX11_day, rfl, xtc4 179 rfl rfl, xtc4 180 rfl rfl, xtc4 181 rfl rfl, (RX11, TX11, 11), rfl, rfl⟩⟩
theorem lw_lk_31 : xLq RL (3, 13, 138, 96, 74) := ⟨by decide, _, rfl, ⟨rfl, mX12_day, rfl, xtc8 57 rfl rfl, xtc8 58 rfl rfl, xtc8 59 rfl rfl, (RX12, TX12, 47), rfl, rfl⟩⟩
theorem lw_lk_32 : xLq RL (3, 13, 103, 88, 75) := ⟨by decide, _, rfl, ⟨rfl, mX11_view, rfl, xtc4 183 rfl rfl, xtc4 184 rfl rfl, xtc4 185 rfl rfl, (RX11, TX11, 11), rfl, rfl⟩⟩
theorem lw_lk_33 : xLq RL (3, 13, 235, 96, 78) := ⟨by decide, _, rfl, ⟨rfl, mX12_view, rfl, xtc8 61 rfl rfl, xtc8 62 rfl rfl, xtc8 63 rfl rfl, (RX12, TX12, 47), rfl, rfl⟩⟩
theorem lw_lk_34 : xLq RL (3, 13, 47, 88, 79) := ⟨by decide, _, rfl, ⟨rfl, mX11_crack, rfl, xtc4 187 rfl rfl, xtc4 188 rfl rfl, xtc4 189 rfl rfl, (RX11, TX11, 11), rfl, rfl⟩⟩
theorem lw_lk_35 : xLq RL (3, 13, 128, 96, 83) := ⟨by decide, _, rfl, ⟨rfl, mX12_crack, rfl, xtc8 65 rfl rfl, xtc8 66 rfl rfl, xtc8 67 rfl rfl, (RX12, TX12, 47), rfl, rfl⟩⟩
theorem lw_lk_36 : xLq RL (3, 13, 77, 88, 84) := ⟨by decide, _, rfl, ⟨rfl, mX11_leads, rfl, xtc4 207 rfl rfl, xtc4 208 rfl rfl, xtc4 209 rfl rfl, (RX11, TX11, 11), rfl, rfl⟩⟩
theorem lw_lk_37 : xLq RL (3, 13, 183, 96, 87) := ⟨by decide, _, rfl, ⟨rfl, mX12_leads, rfl, xtc8 77 rfl rfl, xtc8 78 rfl rfl, xtc8 79 rfl rfl, (RX12, TX12, 47), rfl, rfl⟩⟩
theorem lw_lk_38 : xLq RL (3, 13, 82, 88, 88) := ⟨by decide, _, rfl, ⟨rfl, mX11_most, rfl, xtc4 215 rfl rfl, xtc4 216 rfl rfl, xtc4 217 rfl rfl, (RX11, TX11, 11), rfl, rfl⟩⟩
theorem lw_lk_39 : xLq RL (3, 13, 193, 96, 91) := ⟨by decide, _, rfl, ⟨rfl, mX12_most, rfl, xtc8 85 rfl rfl, xtc8 86 rfl rfl, xtc8 87 rfl rfl, (RX12, TX12, 47), rfl, rfl⟩⟩
theorem lw_lk_40 : xLq RL (3, 13, 58, 88, 92) := ⟨by decide, _, rfl, ⟨rfl, mX11_fed, rfl, xtc5 16 rfl rfl, xtc5 17 rfl rfl, xtc5 18 rfl rfl, (RX11, TX11, 11), rfl, rfl⟩⟩
theorem lw_lk_41 : xLq RL (3, 13, 142, 96, 95) := ⟨by decide, _, rfl, ⟨rfl, mX12_fed, rfl, xtc8 113 rfl rfl, xtc8 114 rfl rfl, xtc8 115 rfl rfl, (RX12, TX12, 47), rfl, rfl⟩⟩
theorem lw_lk_42 : xLq RL (3, 13, 50, 88, 96) := ⟨by decide, _, rfl, ⟨rfl, mX11_cut, rfl, xtc5 20 rfl rfl, xtc5 21 rfl rfl, xtc5 22 rfl rfl, (RX11, TX11, 11), rfl, rfl⟩⟩
theorem lw_lk_43 : xLq RL (3, 13, 131, 96, 99) := ⟨by decide, _, rfl, ⟨rfl, mX12_cut, rfl, xtc8 121 rfl rfl, xtc8 122 rfl rfl, xtc8 123 rfl rfl, (RX12, TX12, 47), rfl, rfl⟩⟩
theorem lw_lk_44 : xLq RL (3, 13, 66, 88, 100) := ⟨by decide, _, rfl, ⟨rfl, mX11_inCut, rfl, xtc5 32 rfl rfl, xtc5 33 rfl rfl, xtc5 34 rfl rfl, (RX11, TX11, 11), rfl, rfl⟩⟩
theorem lw_lk_45 : xLq RL (3, 13, 154, 96, 104) := ⟨by decide, _, rfl, ⟨rfl, mX12_inCut, rfl, xtc8 137 rfl rfl, xtc8 138 rfl rfl, xtc8 139 rfl rfl, (RX12, TX12, 47), rfl, rfl⟩⟩
theorem lw_lk_46 : xLq RL (3, 13, 88, 88, 105) := ⟨by decide, _, rfl, ⟨rfl, mX11_picture, rfl, xtc5 59 rfl rfl, xtc5 60 rfl rfl, xtc5 61 rfl rfl, (RX11, TX11, 11), rfl, rfl⟩⟩
theorem lw_lk_47 : xLq RL (3, 13, 205, 96, 109) := ⟨by decide, _, rfl, ⟨rfl, mX12_picture, rfl, xtc8 141 rfl rfl, xtc8 142 rfl rfl, xtc8 143 rfl rfl, (RX12, TX12, 47), rfl, rfl⟩⟩
theorem lw_lk_48 : xLq RL (3, 13, 79, 88, 110) := ⟨by decide, _, rfl, ⟨rfl, mX11_left, rfl, xtc5 63 rfl rfl, xtc5 64 rfl rfl, xtc5 65 rfl rfl, (RX11, TX11, 11), rfl, rfl⟩⟩
theorem lw_lk_49 : xLq RL (3, 13, 186, 96, 113) := ⟨by decide, _, rfl, ⟨rfl, mX12_left, rfl, xtc8 145 rfl rfl, xtc8 146 rfl rfl, xtc8 147 rfl rfl, (RX12, TX12, 47), rfl, rfl⟩⟩
theorem lw_lk_50 : xLq RL (3, 13, 101, 88, 114) := ⟨by decide, _, rfl, ⟨rfl, mX11_unlike, rfl, xtc5 85 rfl rfl, xtc5 86 rfl rfl, xtc5 87 rfl rfl, (RX11, TX11, 11), rfl, rfl⟩⟩
theorem lw_lk_51 : xLq RL (3, 13, 232, 96, 117) := ⟨by decide, _, rfl, ⟨rfl, mX12_unlike, rfl, xtc8 161 rfl rfl, xtc8 162 rfl rfl, xtc8 163 rfl rfl, (RX12, TX12, 47), rfl, rfl⟩⟩
theorem lw_lk_52 : xLq RL (3, 13, 104, 88, 118) := ⟨by decide, _, rfl, ⟨rfl, mX11_wet, rfl, xtc5 94 rfl rfl, xtc5 95 rfl rfl, xtc5 96 rfl rfl, (RX11, TX11, 11), rfl, rfl⟩⟩
theorem lw_lk_53 : xLq RL (3, 13, 236, 96, 121) := ⟨by decide, _, rfl, ⟨rfl, mX12_wet, rfl, xtc8 165 rfl rfl, xtc8 166 rfl rfl, xtc8 167 rfl rfl, (RX12, TX12, 47), rfl, rfl⟩⟩
theorem lw_lk_54 : xLq RL (3, 13, 51, 88, 122) := ⟨by decide, _, rfl, ⟨rfl, mX11_damp, rfl, xtc5 98 rfl rfl, xtc5 99 rfl rfl, xtc5 100 rfl rfl, (RX11, TX11, 11), rfl, rfl⟩⟩
theorem lw_lk_55 : xLq RL (3, 13, 133, 96, 125) := ⟨by decide, _, rfl, ⟨rfl, mX12_damp, rfl, xtc8 169 rfl rfl, xtc8 170 rfl rfl, xtc8 171 rfl rfl, (RX12, TX12, 47), rfl, rfl⟩⟩
theorem lw_lk_56 : xLq RL (3, 13, 52, 88, 126) := ⟨by decide, _, rfl, ⟨rfl, mX11_dark, rfl, xtc5 115 rfl rfl, xtc5 116 rfl rfl, xtc5 117 rfl rfl, (RX11, TX11, 11), rfl, rfl⟩⟩
theorem lw_lk_57 : xLq RL (3, 13, 135, 96, 129) := ⟨by decide, _, rfl, ⟨rfl, mX12_dark, rfl, xtc8 181 rfl rfl, xtc8 182 rfl rfl, xtc8 183 rfl rfl, (RX12, TX12, 47), rfl, rfl⟩⟩
theorem lw_lk_58 : xLq RL (3, 13, 53, 88, 130) := ⟨by decide, _, rfl, ⟨rfl, mX11_darks, rfl, xtc5 131 rfl rfl, xtc5 132 rfl rfl, xtc5 133 rfl rfl, (RX11, TX11, 11), rfl, rfl⟩⟩
theorem lw_lk_59 : xLq RL (3, 13, 137, 96, 133) := ⟨by decide, _, rfl, ⟨rfl, mX12_darks, rfl, xtc8 193 rfl rfl, xtc8 194 rfl rfl, xtc8 195 rfl rfl, (RX12, TX12, 47), rfl, rfl⟩⟩
theorem lw_lk_60 : xLq RL (3, 13, 102, 88, 134) := ⟨by decide, _, rfl, ⟨rfl, mX11_value, rfl, xtc5 159 rfl rfl, xtc5 160 rfl rfl, xtc5 161 rfl rfl, (RX11, TX11, 11), rfl, rfl⟩⟩
theorem lw_lk_61 : xLq RL (3, 13, 233, 96, 138) := ⟨by decide, _, rfl, ⟨rfl, mX12_value, rfl, xtc8 197 rfl rfl, xtc8 198 rfl rfl, xtc8 199 rfl rfl, (RX12, TX12, 47), rfl, rfl⟩⟩
theorem lw_lk_62 : xLq RL (3, 13, 87, 88, 139) := ⟨by decide, _, rfl, ⟨rfl, mX11_panels, rfl, xtc5 198 rfl rfl, xtc5 199 rfl rfl, xtc5 200 rfl rfl, (RX11, TX11, 11), rfl, rfl⟩⟩
theorem lw_lk_63 : xLq RL (3, 13, 204, 96, 142) := ⟨by decide, _, rfl, ⟨rfl, mX12_panels, rfl, xtc8 220 rfl rfl, xtc8 221 rfl rfl, xtc8 222 rfl rfl, (RX12, TX12, 47), rfl, rfl⟩⟩
theorem lw_lk_64 : xLq RL (3, 13, 86, 88, 143) := ⟨by decide, _, rfl, ⟨rfl, mX11_panel, rfl, xtc5 218 rfl rfl, xtc5 219 rfl rfl, xtc5 220 rfl rfl, (RX11, TX11, 11), rfl, rfl⟩⟩
theorem lw_lk_65 : xLq RL (3, 13, 202, 96, 146) := ⟨by decide, _, rfl, ⟨rfl, mX12_panel, rfl, xtc8 236 rfl rfl, xtc8 237 rfl rfl, xtc8 238 rfl rfl, (RX12, TX12, 47), rfl, rfl⟩⟩
theorem lw_lk_66 : xLq RL (3, 13, 42, 88, 147) := ⟨by decide, _, rfl, ⟨rfl, mX11_cost, rfl, xtc5 37 rfl rfl, xtc5 38 rfl rfl, xtc5 39 rfl rfl, (RX11, TX11, 11), rfl, rfl⟩⟩
theorem lw_lk_67 : xLq RL (3, 13, 126, 96, 150) := ⟨by decide, _, rfl, ⟨rfl, mX12_cost, rfl, xtc9 0 rfl rfl, xtc9 1 rfl rfl, xtc9 2 rfl rfl, (RX12, TX12, 47), rfl, rfl⟩⟩
theorem lw_lk_68 : xLq RL (3, 13, 81, 88, 151) := ⟨by decide, _, rfl, ⟨rfl, mX11_mend, rfl, xtc5 41 rfl rfl, xtc5 42 rfl rfl, xtc5 43 rfl rfl, (RX11, TX11, 11), rfl, rfl⟩⟩
theorem lw_lk_69 : xLq RL (3, 13, 192, 96, 154) := ⟨by decide, _, rfl, ⟨rfl, mX12_mend, rfl, xtc9 4 rfl rfl, xtc9 5 rfl rfl, xtc9 6 rfl rfl, (RX12, TX12, 47), rfl, rfl⟩⟩
theorem lw_lk_70 : xLq RL (3, 13, 62, 88, 155) := ⟨by decide, _, rfl, ⟨rfl, mX11_hand, rfl, xtc5 222 rfl rfl, xtc5 223 rfl rfl, xtc5 224 rfl rfl, (RX11, TX11, 11), rfl, rfl⟩⟩
theorem lw_lk_71 : xLq RL (3, 13, 150, 96, 159) := ⟨by decide, _, rfl, ⟨rfl, mX12_hand, rfl, xtc9 19 rfl rfl, xtc9 20 rfl rfl, xtc9 21 rfl rfl, (RX12, TX12, 47), rfl, rfl⟩⟩
theorem lw_lk_72 : xLq RL (3, 13, 40, 88, 160) := ⟨by decide, _, rfl, ⟨rfl, mX11_broken, rfl, xtc5 226 rfl rfl, xtc5 227 rfl rfl, xtc5 228 rfl rfl, (RX11, TX11, 11), rfl, rfl⟩⟩
theorem lw_lk_73 : xLq RL (3, 13, 124, 96, 163) := ⟨by decide, _, rfl, ⟨rfl, mX12_broken, rfl, xtc9 23 rfl rfl, xtc9 24 rfl rfl, xtc9 25 rfl rfl, (RX12, TX12, 47), rfl, rfl⟩⟩
theorem lw_lk_74 : xLq RL (3, 13, 94, 88, 164) := ⟨by decide, _, rfl, ⟨rfl, mX11_share, rfl, xtc6 2 rfl rfl, xtc6 3 rfl rfl, xtc6 4 rfl rfl, (RX11, TX11, 11), rfl, rfl⟩⟩
theorem lw_lk_75 : xLq RL (3, 13, 217, 96, 167) := ⟨by decide, _, rfl, ⟨rfl, mX12_share, rfl, xtc9 32 rfl rfl, xtc9 33 rfl rfl, xtc9 34 rfl rfl, (RX12, TX12, 47), rfl, rfl⟩⟩
theorem lw_lk_76 : xLq RL (3, 13, 90, 88, 168) := ⟨by decide, _, rfl, ⟨rfl, mX11_promise, rfl, xtc6 12 rfl rfl, xtc6 13 rfl rfl, xtc6 14 rfl rfl, (RX11, TX11, 11), rfl, rfl⟩⟩
theorem lw_lk_77 : xLq RL (3, 13, 210, 96, 171) := ⟨by decide, _, rfl, ⟨rfl, mX12_promise, rfl, xtc9 40 rfl rfl, xtc9 41 rfl rfl, xtc9 42 rfl rfl, (RX12, TX12, 47), rfl, rfl⟩⟩
theorem lw_lk_78 : xLq RL (3, 13, 74, 88, 172) := ⟨by decide, _, rfl, ⟨rfl, mX11_lasts, rfl, xtc5 139 rfl rfl, xtc5 140 rfl rfl, xtc5 141 rfl rfl, (RX11, TX11, 11), rfl, rfl⟩⟩
theorem lw_lk_79 : xLq RL (3, 13, 176, 96, 175) := ⟨by decide, _, rfl, ⟨rfl, mX12_lasts, rfl, xtc9 44 rfl rfl, xtc9 45 rfl rfl, xtc9 46 rfl rfl, (RX12, TX12, 47), rfl, rfl⟩⟩
theorem lw_lk_80 : xLq RL (3, 13, 95, 88, 176) := ⟨by decide, _, rfl, ⟨rfl, mX11_shift, rfl, xtc5 155 rfl rfl, xtc5 156 rfl rfl, xtc5 157 rfl rfl, (RX11, TX11, 11), rfl, rfl⟩⟩
theorem lw_lk_81 : xLq RL (3, 13, 219, 96, 179) := ⟨by decide, _, rfl, ⟨rfl, mX12_shift, rfl, xtc9 52 rfl rfl, xtc9 53 rfl rfl, xtc9 54 rfl rfl, (RX12, TX12, 47), rfl, rfl⟩⟩
theorem lw_lk_82 : xLq RL (3, 13, 98, 88, 180) := ⟨by decide, _, rfl, ⟨rfl, mX11_test, rfl, xtc6 16 rfl rfl, xtc6 17 rfl rfl, xtc6 18 rfl rfl, (RX11, TX11, 11), rfl, rfl⟩⟩
theorem lw_lk_83 : xLq RL (3, 13, 228, 96, 183) := ⟨by decide, _, rfl, ⟨rfl, mX12_test, rfl, xtc9 56 rfl rfl, xtc9 57 rfl rfl, xtc9 58 rfl rfl, (RX12, TX12, 47), rfl, rfl⟩⟩
theorem lw_lk_84 : xLq RL (3, 13, 73, 88, 184) := ⟨by decide, _, rfl, ⟨rfl, mX11_kept, rfl, xtc6 25 rfl rfl, xtc6 26 rfl rfl, xtc6 27 rfl rfl, (RX11, TX11, 11), rfl, rfl⟩⟩
theorem lw_lk_85 : xLq RL (3, 13, 175, 96, 187) := ⟨by decide, _, rfl, ⟨rfl, mX12_kept, rfl, xtc9 61 rfl rfl, xtc9 62 rfl rfl, xtc9 63 rfl rfl, (RX12, TX12, 47), rfl, rfl⟩⟩
theorem lw_lk_86 : xLq RL (3, 13, 75, 88, 188) := ⟨by decide, _, rfl, ⟨rfl, mX11_law, rfl, xtc6 44 rfl rfl, xtc6 45 rfl rfl, xtc6 46 rfl rfl, (RX11, TX11, 11), rfl, rfl⟩⟩
theorem lw_lk_87 : xLq RL (3, 13, 178, 96, 191) := ⟨by decide, _, rfl, ⟨rfl, mX12_law, rfl, xtc9 84 rfl rfl, xtc9 85 rfl rfl, xtc9 86 rfl rfl, (RX12, TX12, 47), rfl, rfl⟩⟩
theorem lw_lk_88 : xLq RL (3, 13, 96, 88, 192) := ⟨by decide, _, rfl, ⟨rfl, mX11_span, rfl, xtc6 52 rfl rfl, xtc6 53 rfl rfl, xtc6 54 rfl rfl, (RX11, TX11, 11), rfl, rfl⟩⟩
theorem lw_lk_89 : xLq RL (3, 13, 223, 96, 196) := ⟨by decide, _, rfl, ⟨rfl, mX12_span, rfl, xtc9 88 rfl rfl, xtc9 89 rfl rfl, xtc9 90 rfl rfl, (RX12, TX12, 47), rfl, rfl⟩⟩
theorem lw_lk_90 : xLq RL (3, 13, 91, 88, 197) := ⟨by decide, _, rfl, ⟨rfl, mX11_quarrel, rfl, xtc6 67 rfl rfl, xtc6 68 rfl rfl, xtc6 69 rfl rfl, (RX11, TX11, 11), rfl, rfl⟩⟩
theorem lw_lk_91 : xLq RL (3, 13, 212, 96, 200) := ⟨by decide, _, rfl, ⟨rfl, mX12_quarrel, rfl, xtc9 92 rfl rfl, xtc9 93 rfl rfl, xtc9 94 rfl rfl, (RX12, TX12, 47), rfl, rfl⟩⟩
theorem lw_lk_92 : xLq RL (3, 13, 84, 88, 201) := ⟨by decide, _, rfl, ⟨rfl, mX11_next, rfl, xtc6 84 rfl rfl, xtc6 85 rfl rfl, xtc6 86 rfl rfl, (RX11, TX11, 11), rfl, rfl⟩⟩
theorem lw_lk_93 : xLq RL (3, 13, 197, 96, 204) := ⟨by decide, _, rfl, ⟨rfl, mX12_next, rfl, xtc9 100 rfl rfl, xtc9 101 rfl rfl, xtc9 102 rfl rfl, (RX12, TX12, 47), rfl, rfl⟩⟩
theorem lw_lk_94 : xLq RL (3, 13, 93, 88, 205) := ⟨by decide, _, rfl, ⟨rfl, mX11_rules, rfl, xtc6 97 rfl rfl, xtc6 98 rfl rfl, xtc6 99 rfl rfl, (RX11, TX11, 11), rfl, rfl⟩⟩
theorem lw_lk_95 : xLq RL (3, 13, 216, 96, 208) := ⟨by decide, _, rfl, ⟨rfl, mX12_rules, rfl, xtc9 104 rfl rfl, xtc9 105 rfl rfl, xtc9 106 rfl rfl, (RX12, TX12, 47), rfl, rfl⟩⟩
theorem lw_lk_96 : xLq RL (3, 13, 38, 88, 209) := ⟨by decide, _, rfl, ⟨rfl, mX11_barred, rfl, xtc6 156 rfl rfl, xtc6 157 rfl rfl, xtc6 158 rfl rfl, (RX11, TX11, 11), rfl, rfl⟩⟩
theorem lw_lk_97 : xLq RL (3, 13, 119, 96, 212) := ⟨by decide, _, rfl, ⟨rfl, mX12_barred, rfl, xtc9 132 rfl rfl, xtc9 133 rfl rfl, xtc9 134 rfl rfl, (RX12, TX12, 47), rfl, rfl⟩⟩
theorem lw_lk_98 : xLq RL (3, 13, 89, 88, 213) := ⟨by decide, _, rfl, ⟨rfl, mX11_price, rfl, xtc6 178 rfl rfl, xtc6 179 rfl rfl, xtc6 180 rfl rfl, (RX11, TX11, 11), rfl, rfl⟩⟩
theorem lw_lk_99 : xLq RL (3, 13, 209, 96, 216) := ⟨by decide, _, rfl, ⟨rfl, mX12_price, rfl, xtc9 152 rfl rfl, xtc9 153 rfl rfl, xtc9 154 rfl rfl, (RX12, TX12, 47), rfl, rfl⟩⟩
theorem lw_lk_100 : xLq RL (3, 13, 44, 88, 217) := ⟨by decide, _, rfl, ⟨rfl, mX11_count, rfl, xtc6 183 rfl rfl, xtc6 184 rfl rfl, xtc6 185 rfl rfl, (RX11, TX11, 11), rfl, rfl⟩⟩
theorem lw_lk_101 : xLq RL (3, 13, 127, 96, 220) := ⟨by decide, _, rfl, ⟨rfl, mX12_count, rfl, xtc9 156 rfl rfl, xtc9 157 rfl rfl, xtc9 158 rfl rfl, (RX12, TX12, 47), rfl, rfl⟩⟩
theorem lw_lk_102 : xLq RL (3, 13, 65, 88, 221) := ⟨by decide, _, rfl, ⟨rfl, mX11_image, rfl, xtc6 192 rfl rfl, xtc6 193 rfl rfl, xtc6 194 rfl rfl, (RX11, TX11, 11), rfl, rfl⟩⟩
theorem lw_lk_103 : xLq RL (3, 13, 153, 96, 224) := ⟨by decide, _, rfl, ⟨rfl, mX12_image, rfl, xtc9 160 rfl rfl, xtc9 161 rfl rfl, xtc9 162 rfl rfl, (RX12, TX12, 47), rfl, rfl⟩⟩
theorem lw_lk_104 : xLq RL (3, 13, 37, 88, 225) := ⟨by decide, _, rfl, ⟨rfl, mX11_again, rfl, xtc6 203 rfl rfl, xtc6 204 rfl rfl, xtc6 205 rfl rfl, (RX11, TX11, 11), rfl, rfl⟩⟩
theorem lw_lk_105 : xLq RL (3, 13, 111, 96, 228) := ⟨by decide, _, rfl, ⟨rfl, mX12_again, rfl, xtc9 164 rfl rfl, xtc9 165 rfl rfl, xtc9 166 rfl rfl, (RX12, TX12, 47), rfl, rfl⟩⟩
end
