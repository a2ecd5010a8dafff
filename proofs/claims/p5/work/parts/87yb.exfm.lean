/-! the model: the bytes that feed writes -/
section XFDM
variable {d : Nat} {w : List (List xE)} {bd : List (Nat × Nat)} {fc : List (Nat × Nat × Bool)} {rr : Nat × Nat}
theorem mFeedB {fa fb fc_ fd fe : Nat} (hI : xMnv w) (hfa : fa ≤ 4294967295) (hfb : fb ≤ 4294967295) (hfc_ : fc_ ≤ 4294967295) (hfd : fd ≤ 4294967295) (hfe : fe ≤ 4294967295) : xPi d mX12_feed [(2, 82), (0, fa), (0, fb), (0, fc_), (0, fd), (0, fe)] w bd fc rr (fun n w' => (((n = rwv w 83 15 + 20 ∧ rwv w 83 15 ≤ 480 ∧ rwv w' 83 15 = rwv w 83 15 + 20 ∧ (∀ i, i < 20 → rwv w' 83 (400 + rwv w 83 15 + i) = fdB fa fb fc_ fd fe i)) ∨ (n = 4294967295 ∧ ¬ rwv w 83 15 ≤ 480 ∧ rwv w' 83 15 = rwv w 83 15)) ∧ ∀ j, j < 5360 → (j ≠ 15 ∧ (j < 400 + rwv w 83 15 ∨ 900 ≤ j)) → rwv w' 83 j = rwv w 83 j) ∧ xMnv w' ∧ xFr [83] w w') := by
  refine xPi.of ?_
  show xTo d mX12_feed (0, [], [(0, (2, 82)), (1, (0, fa)), (2, (0, fb)), (3, (0, fc_)), (4, (0, fd)), (5, (0, fe))], [], (w, bd, fc, 0, 0, rr)) (fun φ => ∃ n w', xEnd 1 [(0, n)] (w', bd, fc, 0, 0, rr) φ ∧ (((n = rwv w 83 15 + 20 ∧ rwv w 83 15 ≤ 480 ∧ rwv w' 83 15 = rwv w 83 15 + 20 ∧ (∀ i, i < 20 → rwv w' 83 (400 + rwv w 83 15 + i) = fdB fa fb fc_ fd fe i)) ∨ (n = 4294967295 ∧ ¬ rwv w 83 15 ≤ 480 ∧ rwv w' 83 15 = rwv w 83 15)) ∧ ∀ j, j < 5360 → (j ≠ 15 ∧ (j < 400 + rwv w 83 15 ∨ 900 ≤ j)) → rwv w' 83 j = rwv w 83 j) ∧ xMnv w' ∧ xFr [83] w w')
  obtain ⟨f82_1, f82_3, f82_5, f82_7, f82_9, f82_11, f82_13, f82_15, f82_17, f82_19, f82_21, f82_22, f82_23, f82_25, f82_27, f82_29, h82_31, hb2, hb4, hb6, hb8, hb10, hb12, hb14, hb16, hb18, hb20, hb24, hb26, hb28, hb30, hb32⟩ := (hI 82 (by decide) (by decide) : cp82 (wget w 82))
  replace hb4 := xHid.of hb4
  replace hb10 := xHid.of hb10
  replace hb14 := xHid.of hb14
  replace hb16 := xHid.of hb16
  replace hb20 := xHid.of hb20
  replace hb24 := xHid.of hb24
  replace hb26 := xHid.of hb26
  replace hb28 := xHid.of hb28
  replace hb30 := xHid.of hb30
  obtain ⟨g83_33, h83_34, hb35, hx36⟩ := (hI 83 (by decide) (by decide) : cpx83 (wget w 83))
  have h83_34 : xRow w 83 5360 50 g83_33 := h83_34
  refine xg_t (xg_blk (b := [(0, 1, 0, 0, 0, 0), (1, 3, 1, 12, 0, 7), (4, 2, 4, 15, 0, 0), (6, 1, 10, 0, 0, 0), (7, 2, 4, 20, 0, 0), (9, 1, 11, 0, 0, 0), (10, 3, 5, 500, 0, 0), (13, 3, 6, 18, 5, 0), (16, 1, 3, 4294967295, 0, 0), (17, 1, 12, 0, 1, 0)]) rfl) ?_
  refine xg_t (xg_aload (va := (2, 82)) rfl rfl) ?_
  refine xg_t (xg_getf (va := (2, 83)) h82_31 rfl) ?_
  refine xg_t (xg_bip) ?_
  refine xg_ialdB (n := 15) (B := 4294967295) h83_34 (hb35) xnm0 (by omega) (fun u37 hu38 he39 => ?_)
  have hl40 : u37 ≤ 500 := by rw [← he39]; exact hx36.l15
  refine xg_t (xg_bip) ?_
  refine xg_t (xg_iadd (u := u37) (v := 20) (z := u37 + 20) xnm0 xnm0 (by omega)) ?_
  refine xg_t (xg_sip) ?_
  by_cases hc41 : 500 < (u37 + 20)
  · refine xg_t (xg_icF (u := u37 + 20) (v := 500) rfl xnm0 xnm0 (xj_leF hc41 (by omega))) ?_
    refine xg_t (xg_const) ?_
    have hq42 : rwv w 83 15 = g83_33 15 := rwv_of h83_34 (by decide)
    exact xg_e ⟨4294967295, w, ⟨rfl, rfl⟩, ⟨Or.inr ⟨rfl, by omega, rfl⟩, fun j _ _ => rfl⟩, hI, xFr.rf⟩
  · refine xg_t (xg_icT (u := u37 + 20) (v := 500) rfl xnm0 xnm0 (xj_leT (by omega) (by omega))) ?_
    refine xg_t (xg_blk (b := [(18, 1, 3, 0, 0, 0), (19, 2, 15, 6, 0, 0)]) rfl) ?_
    refine xg_t (xg_const) ?_
    refine xg_t (xg_istore (l1 := [(0, (2, 82)), (1, (0, fa)), (2, (0, fb)), (3, (0, fc_)), (4, (0, fd)), (5, (0, fe))]) rfl rfl rfl) ?_
    refine xg_t (xg_drop (l1 := [(0, (2, 82)), (1, (0, fa)), (2, (0, fb)), (3, (0, fc_)), (4, (0, fd)), (5, (0, fe)), (6, (0, 0))]) (List.forall_mem_cons.mpr ⟨List.mem_cons_of_mem _ (List.mem_cons_self), List.forall_mem_cons.mpr ⟨List.mem_cons_of_mem _ (List.mem_cons_of_mem _ (List.mem_cons_self)), List.forall_mem_cons.mpr ⟨List.mem_cons_of_mem _ (List.mem_cons_of_mem _ (List.mem_cons_of_mem _ (List.mem_cons_self))), List.forall_mem_cons.mpr ⟨List.mem_cons_of_mem _ (List.mem_cons_of_mem _ (List.mem_cons_of_mem _ (List.mem_cons_of_mem _ (List.mem_cons_self)))), List.forall_mem_cons.mpr ⟨List.mem_cons_of_mem _ (List.mem_cons_of_mem _ (List.mem_cons_of_mem _ (List.mem_cons_of_mem _ (List.mem_cons_of_mem _ (List.mem_cons_self))))), List.forall_mem_cons.mpr ⟨List.mem_cons_of_mem _ (List.mem_cons_of_mem _ (List.mem_cons_of_mem _ (List.mem_cons_of_mem _ (List.mem_cons_of_mem _ (List.mem_cons_of_mem _ (List.mem_cons_self)))))), List.forall_mem_cons.mpr ⟨List.mem_cons_self, fun _ h => absurd h List.not_mem_nil⟩⟩⟩⟩⟩⟩⟩)) ?_
    have key43 : ∀ (m45 : Nat) (ii : Nat) (w46 : List (List xE)), 20 - ii < m45 → ii ≤ 20 → xMnv w46 → xFr [83] w w46 → (∃ f : Nat → Nat, xRow w46 83 5360 50 f ∧ (f 15 = g83_33 15 + ii ∧ g83_33 15 + 20 ≤ 500 ∧ (∀ i, i < ii → f (400 + g83_33 15 + i) = fdB fa fb fc_ fd fe i) ∧ (∀ j, j < 5360 → (j ≠ 15 ∧ (j < 400 + g83_33 15 ∨ 900 ≤ j)) → f j = g83_33 j))) → xTo d mX12_feed (21, [], [(0, (2, 82)), (1, (0, fa)), (2, (0, fb)), (3, (0, fc_)), (4, (0, fd)), (5, (0, fe)), (6, (0, ii))], [], (w46, bd, fc, 0, 0, rr)) (fun φ => ∃ n w', xEnd 1 [(0, n)] (w', bd, fc, 0, 0, rr) φ ∧ (((n = rwv w 83 15 + 20 ∧ rwv w 83 15 ≤ 480 ∧ rwv w' 83 15 = rwv w 83 15 + 20 ∧ (∀ i, i < 20 → rwv w' 83 (400 + rwv w 83 15 + i) = fdB fa fb fc_ fd fe i)) ∨ (n = 4294967295 ∧ ¬ rwv w 83 15 ≤ 480 ∧ rwv w' 83 15 = rwv w 83 15)) ∧ ∀ j, j < 5360 → (j ≠ 15 ∧ (j < 400 + rwv w 83 15 ∨ 900 ≤ j)) → rwv w' 83 j = rwv w 83 j) ∧ xMnv w' ∧ xFr [83] w w') := by
      intro m45
      induction m45 with
      | zero => intro ii w46 hz; exact absurd hz (Nat.not_lt_zero _)
      | succ m45 ih44 =>
        intro ii w46 hm51 hn49 hI47 hF48 he50
        obtain ⟨g83_52, h83_53, hb54, hx55⟩ := (hI47 83 (by decide) (by decide) : cpx83 (wget w46 83))
        have h83_53 : xRow w46 83 5360 50 g83_52 := h83_53
        obtain ⟨g56, he57, he58, he59, he60, he61⟩ := he50
        have hd62 : g56 15 = g83_52 15 := xRow.det he57 h83_53 15 (by omega)
        have hk63 : ∀ j, j < 5360 → (j ≠ 15 ∧ (j < 400 + g83_33 15 ∨ 900 ≤ j)) → g83_52 j = g83_33 j := fun j hl hj => (xRow.det h83_53 he57 j hl).trans (he61 j hl hj)
        have hk64 : ∀ i, i < ii → g83_52 (400 + g83_33 15 + i) = fdB fa fb fc_ fd fe i := fun i hi => (xRow.det h83_53 he57 _ (by omega)).trans (he60 i hi)
        refine xg_t (xg_blk (b := [(21, 2, 2, 6, 0, 0), (23, 2, 4, 20, 0, 0), (25, 3, 6, 126, 3, 0), (28, 2, 2, 6, 0, 0), (30, 1, 3, 4, 0, 0), (31, 3, 6, 38, 3, 0), (34, 1, 2, 1, 0, 0), (35, 3, 8, 74, 0, 0)]) rfl) ?_
        refine xg_t (xg_iload (va := (0, ii)) rfl rfl) ?_
        refine xg_t (xg_bip) ?_
        by_cases hc65 : ii < 20
        · refine xg_t (xg_icF (u := ii) (v := 20) rfl xnm0 xnm0 (xj_geF hc65 (by omega))) ?_
          refine xg_t (xg_iload (va := (0, ii)) rfl rfl) ?_
          refine xg_t (xg_const) ?_
          by_cases hc66 : ii < 4
          · refine xg_t (xg_icF (u := ii) (v := 4) rfl xnm0 xnm0 (xj_geF hc66 (by omega))) ?_
            refine xg_t (xg_iload (va := (0, fa)) rfl rfl) ?_
            refine xg_t (xg_goto) ?_
            refine xg_t (xg_blk (b := [(74, 2, 15, 7, 0, 0), (76, 1, 0, 0, 0, 0), (77, 3, 1, 12, 0, 7), (80, 3, 5, 400, 0, 0), (83, 1, 0, 0, 0, 0), (84, 3, 1, 12, 0, 7), (87, 2, 4, 15, 0, 0), (89, 1, 10, 0, 0, 0), (90, 1, 11, 0, 0, 0), (91, 2, 2, 7, 0, 0), (93, 2, 4, 24, 0, 0), (95, 2, 4, 8, 0, 0), (97, 2, 2, 6, 0, 0), (99, 1, 3, 4, 0, 0), (100, 1, 21, 0, 0, 0), (101, 1, 16, 0, 0, 0), (102, 1, 18, 0, 0, 0), (103, 1, 29, 0, 0, 0), (104, 3, 5, 255, 0, 0), (107, 1, 30, 0, 0, 0), (108, 1, 17, 0, 0, 0), (109, 1, 0, 0, 0, 0), (110, 3, 1, 12, 0, 7), (113, 2, 4, 15, 0, 0), (115, 1, 39, 0, 0, 0), (116, 1, 10, 0, 0, 0), (117, 1, 3, 1, 0, 0), (118, 1, 11, 0, 0, 0), (119, 1, 17, 0, 0, 0), (120, 3, 9, 6, 1, 0), (123, 3, 8, 21, 0, 0)]) rfl) ?_
            refine xg_t (xg_istore (l1 := [(0, (2, 82)), (1, (0, fa)), (2, (0, fb)), (3, (0, fc_)), (4, (0, fd)), (5, (0, fe)), (6, (0, ii))]) rfl rfl rfl) ?_
            refine xg_t (xg_aload (va := (2, 82)) rfl rfl) ?_
            refine xg_t (xg_getf (va := (2, 83)) (hF48.get (by decide) h82_31) rfl) ?_
            refine xg_t (xg_sip) ?_
            refine xg_t (xg_aload (va := (2, 82)) rfl rfl) ?_
            refine xg_t (xg_getf (va := (2, 83)) (hF48.get (by decide) h82_31) rfl) ?_
            refine xg_t (xg_bip) ?_
            refine xg_ialdB (n := 15) (B := 4294967295) h83_53 (hb54) xnm0 (by omega) (fun u67 hu68 he69 => ?_)
            have hl70 : u67 ≤ 500 := by rw [← he69]; exact hx55.l15
            refine xg_t (xg_iadd (u := 400) (v := u67) (z := 400 + u67) xnm0 xnm0 (by omega)) ?_
            refine xg_t (xg_iload (va := (0, fa)) rfl rfl) ?_
            refine xg_t (xg_bip) ?_
            refine xg_t (xg_bip) ?_
            refine xg_t (xg_iload (va := (0, ii)) rfl rfl) ?_
            refine xg_t (xg_const) ?_
            refine xg_t (xg_irem (u := ii) (v := 4) (z := ii % 4) xnm0 xnm0 (by omega) (by decide) (by decide) (rfl)) ?_
            refine xg_t (xg_imul (u := 8) (v := ii % 4) (z := 8 * (ii % 4)) xnm0 xnm0 (by omega)) ?_
            refine xg_t (xg_isub (u := 24) (v := 8 * (ii % 4)) (z := 24 - (8 * (ii % 4))) xnm0 xnm0 (by omega)) ?_
            refine xg_kE (xg_ishrG (u := fa) (v := 24 - (8 * (ii % 4))) xnm0 xnm0) (xpt_lt _) (fun z71 hz72 hE73 => ?_)
            refine xg_t (xg_sip) ?_
            refine xg_kE (xg_iand (z := Nat.land z71 255) (u := z71) (v := 255) xnm0 xnm0 rfl) (xland_lt (by omega)) (fun z74 hz75 hE76 => ?_)
            refine xg_iastK (n := 400 + u67) (u := z74) h83_53 xnm0 xnm0 rfl (by omega) (fun w77 hr78 hb79 => ?_)
            have hx80 : okA (fun j => if j = 400 + u67 then z74 else g83_52 j) := hx55.upd (by omega) (by omega) (by omega) (fun _ => by omega) (by omega) (fun _ => by omega) (fun _ => by omega) (fun _ => by omega) (fun _ => by omega) (by omega) (fun _ _ => by omega)
            have hb81 : ∀ j, (fun j => if j = 400 + u67 then z74 else g83_52 j) j ≤ 4294967295 := xrb (by omega) (hb54)
            obtain ⟨g82, hg83⟩ : ∃ g : Nat → Nat, g = (fun j => if j = 400 + u67 then z74 else g83_52 j) := ⟨_, rfl⟩
            rw [← hg83] at hr78
            have he84 : g82 (400 + u67) = z74 := by rw [hg83]; exact if_pos rfl
            have hk85 : ∀ j, j ≠ 400 + u67 → g82 j = g83_52 j := fun j hj => by rw [hg83]; exact if_neg hj
            rw [← hg83] at hx80
            rw [← hg83] at hb81
            have hk86 : g82 15 = g83_52 15 := hk85 15 (by omega)
            refine xg_t (xg_aload (va := (2, 82)) rfl rfl) ?_
            refine xg_t (xg_getf (va := (2, 83)) (hb79.get (by decide) (hF48.get (by decide) h82_31)) rfl) ?_
            refine xg_t (xg_bip) ?_
            refine xg_t (xg_dup2 rfl) ?_
            refine xg_ialdB (n := 15) (B := 4294967295) hr78 (hb81) xnm0 (by omega) (fun u87 hu88 he89 => ?_)
            have hl90 : u87 ≤ 500 := by rw [← he89]; exact hx80.l15
            refine xg_t (xg_const) ?_
            refine xg_t (xg_iadd (u := u87) (v := 1) (z := u87 + 1) xnm0 xnm0 (by omega)) ?_
            refine xg_iastK (n := 15) (u := u87 + 1) hr78 xnm0 xnm0 rfl (by omega) (fun w91 hr92 hb93 => ?_)
            have hx94 : okA (fun j => if j = 15 then u87 + 1 else g82 j) := hx80.upd (by omega) (by omega) (by omega) (fun _ => by omega) (by omega) (fun _ => by omega) (fun _ => by omega) (fun _ => by omega) (fun _ => by omega) (by omega) (fun _ _ => by omega)
            have hb95 : ∀ j, (fun j => if j = 15 then u87 + 1 else g82 j) j ≤ 4294967295 := xrb (by omega) (hb81)
            obtain ⟨g96, hg97⟩ : ∃ g : Nat → Nat, g = (fun j => if j = 15 then u87 + 1 else g82 j) := ⟨_, rfl⟩
            rw [← hg97] at hr92
            have he98 : g96 15 = u87 + 1 := by rw [hg97]; exact if_pos rfl
            have hk99 : ∀ j, j ≠ 15 → g96 j = g82 j := fun j hj => by rw [hg97]; exact if_neg hj
            rw [← hg97] at hx94
            rw [← hg97] at hb95
            refine xg_t (xg_iinc (u := ii) (z := ii + 1) (l1 := [(7, (0, fa)), (0, (2, 82)), (1, (0, fa)), (2, (0, fb)), (3, (0, fc_)), (4, (0, fd)), (5, (0, fe))]) rfl rfl (by omega) rfl) ?_
            refine xg_t (xg_goto) ?_
            refine xg_t (xg_drop (l1 := [(0, (2, 82)), (1, (0, fa)), (2, (0, fb)), (3, (0, fc_)), (4, (0, fd)), (5, (0, fe)), (6, (0, ii + 1))]) (List.forall_mem_cons.mpr ⟨List.mem_cons_of_mem _ (List.mem_cons_of_mem _ (List.mem_cons_self)), List.forall_mem_cons.mpr ⟨List.mem_cons_of_mem _ (List.mem_cons_of_mem _ (List.mem_cons_of_mem _ (List.mem_cons_self))), List.forall_mem_cons.mpr ⟨List.mem_cons_of_mem _ (List.mem_cons_of_mem _ (List.mem_cons_of_mem _ (List.mem_cons_of_mem _ (List.mem_cons_self)))), List.forall_mem_cons.mpr ⟨List.mem_cons_of_mem _ (List.mem_cons_of_mem _ (List.mem_cons_of_mem _ (List.mem_cons_of_mem _ (List.mem_cons_of_mem _ (List.mem_cons_self))))), List.forall_mem_cons.mpr ⟨List.mem_cons_of_mem _ (List.mem_cons_of_mem _ (List.mem_cons_of_mem _ (List.mem_cons_of_mem _ (List.mem_cons_of_mem _ (List.mem_cons_of_mem _ (List.mem_cons_self)))))), List.forall_mem_cons.mpr ⟨List.mem_cons_of_mem _ (List.mem_cons_of_mem _ (List.mem_cons_of_mem _ (List.mem_cons_of_mem _ (List.mem_cons_of_mem _ (List.mem_cons_of_mem _ (List.mem_cons_of_mem _ (List.mem_cons_self))))))), List.forall_mem_cons.mpr ⟨List.mem_cons_self, fun _ h => absurd h List.not_mem_nil⟩⟩⟩⟩⟩⟩⟩)) ?_
            have hv100 : z74 = fdB fa fb fc_ fd fe ii := by
              unfold fdB
              rw [if_pos (by omega), ← hE76, xland255, ← hE73, xpt_shr (by omega)]
            have hb101 : ∀ i, i < ii + 1 → g96 (400 + g83_33 15 + i) = fdB fa fb fc_ fd fe i := fun i hi => by
              by_cases e : i = ii
              · rw [e, show 400 + g83_33 15 + ii = 400 + u67 by omega, hk99 _ (by omega), he84]
                exact hv100
              · rw [hk99 _ (by omega), hk85 _ (by omega)]
                exact hk64 i (by omega)
            exact ih44 (ii + 1) w91 (by omega) (by omega) (xMnv.up (S := [83]) hI47 ((xFr.of (S := [83]) hb79 (by decide)).tr (xFr.of (S := [83]) hb93 (by decide))) (List.forall_mem_cons.mpr ⟨(show cpx83 (wget w91 83) from ⟨_, hr92, hb95, hx94⟩), fun _ h => absurd h List.not_mem_nil⟩)) ((hF48.tr ((xFr.of (S := [83]) hb79 (by decide)).tr (xFr.of (S := [83]) hb93 (by decide))))) (⟨_, hr92, by omega, by omega, hb101, fun j hl hj => by rw [hk99 j (by omega), hk85 j (by omega)]; exact hk63 j hl hj⟩)
          · refine xg_t (xg_icT (u := ii) (v := 4) rfl xnm0 xnm0 (xj_geT (by omega) (by omega))) ?_
            refine xg_t (xg_blk (b := [(38, 2, 2, 6, 0, 0), (40, 2, 4, 8, 0, 0), (42, 3, 6, 49, 3, 0), (45, 1, 2, 2, 0, 0), (46, 3, 8, 74, 0, 0)]) rfl) ?_
            refine xg_t (xg_iload (va := (0, ii)) rfl rfl) ?_
            refine xg_t (xg_bip) ?_
            by_cases hc102 : ii < 8
            · refine xg_t (xg_icF (u := ii) (v := 8) rfl xnm0 xnm0 (xj_geF hc102 (by omega))) ?_
              refine xg_t (xg_iload (va := (0, fb)) rfl rfl) ?_
              refine xg_t (xg_goto) ?_
              refine xg_t (xg_blk (b := [(74, 2, 15, 7, 0, 0), (76, 1, 0, 0, 0, 0), (77, 3, 1, 12, 0, 7), (80, 3, 5, 400, 0, 0), (83, 1, 0, 0, 0, 0), (84, 3, 1, 12, 0, 7), (87, 2, 4, 15, 0, 0), (89, 1, 10, 0, 0, 0), (90, 1, 11, 0, 0, 0), (91, 2, 2, 7, 0, 0), (93, 2, 4, 24, 0, 0), (95, 2, 4, 8, 0, 0), (97, 2, 2, 6, 0, 0), (99, 1, 3, 4, 0, 0), (100, 1, 21, 0, 0, 0), (101, 1, 16, 0, 0, 0), (102, 1, 18, 0, 0, 0), (103, 1, 29, 0, 0, 0), (104, 3, 5, 255, 0, 0), (107, 1, 30, 0, 0, 0), (108, 1, 17, 0, 0, 0), (109, 1, 0, 0, 0, 0), (110, 3, 1, 12, 0, 7), (113, 2, 4, 15, 0, 0), (115, 1, 39, 0, 0, 0), (116, 1, 10, 0, 0, 0), (117, 1, 3, 1, 0, 0), (118, 1, 11, 0, 0, 0), (119, 1, 17, 0, 0, 0), (120, 3, 9, 6, 1, 0), (123, 3, 8, 21, 0, 0)]) rfl) ?_
              refine xg_t (xg_istore (l1 := [(0, (2, 82)), (1, (0, fa)), (2, (0, fb)), (3, (0, fc_)), (4, (0, fd)), (5, (0, fe)), (6, (0, ii))]) rfl rfl rfl) ?_
              refine xg_t (xg_aload (va := (2, 82)) rfl rfl) ?_
              refine xg_t (xg_getf (va := (2, 83)) (hF48.get (by decide) h82_31) rfl) ?_
              refine xg_t (xg_sip) ?_
              refine xg_t (xg_aload (va := (2, 82)) rfl rfl) ?_
              refine xg_t (xg_getf (va := (2, 83)) (hF48.get (by decide) h82_31) rfl) ?_
              refine xg_t (xg_bip) ?_
              refine xg_ialdB (n := 15) (B := 4294967295) h83_53 (hb54) xnm0 (by omega) (fun u103 hu104 he105 => ?_)
              have hl106 : u103 ≤ 500 := by rw [← he105]; exact hx55.l15
              refine xg_t (xg_iadd (u := 400) (v := u103) (z := 400 + u103) xnm0 xnm0 (by omega)) ?_
              refine xg_t (xg_iload (va := (0, fb)) rfl rfl) ?_
              refine xg_t (xg_bip) ?_
              refine xg_t (xg_bip) ?_
              refine xg_t (xg_iload (va := (0, ii)) rfl rfl) ?_
              refine xg_t (xg_const) ?_
              refine xg_t (xg_irem (u := ii) (v := 4) (z := ii % 4) xnm0 xnm0 (by omega) (by decide) (by decide) (rfl)) ?_
              refine xg_t (xg_imul (u := 8) (v := ii % 4) (z := 8 * (ii % 4)) xnm0 xnm0 (by omega)) ?_
              refine xg_t (xg_isub (u := 24) (v := 8 * (ii % 4)) (z := 24 - (8 * (ii % 4))) xnm0 xnm0 (by omega)) ?_
              refine xg_kE (xg_ishrG (u := fb) (v := 24 - (8 * (ii % 4))) xnm0 xnm0) (xpt_lt _) (fun z107 hz108 hE109 => ?_)
              refine xg_t (xg_sip) ?_
              refine xg_kE (xg_iand (z := Nat.land z107 255) (u := z107) (v := 255) xnm0 xnm0 rfl) (xland_lt (by omega)) (fun z110 hz111 hE112 => ?_)
              refine xg_iastK (n := 400 + u103) (u := z110) h83_53 xnm0 xnm0 rfl (by omega) (fun w113 hr114 hb115 => ?_)
              have hx116 : okA (fun j => if j = 400 + u103 then z110 else g83_52 j) := hx55.upd (by omega) (by omega) (by omega) (fun _ => by omega) (by omega) (fun _ => by omega) (fun _ => by omega) (fun _ => by omega) (fun _ => by omega) (by omega) (fun _ _ => by omega)
              have hb117 : ∀ j, (fun j => if j = 400 + u103 then z110 else g83_52 j) j ≤ 4294967295 := xrb (by omega) (hb54)
              obtain ⟨g118, hg119⟩ : ∃ g : Nat → Nat, g = (fun j => if j = 400 + u103 then z110 else g83_52 j) := ⟨_, rfl⟩
              rw [← hg119] at hr114
              have he120 : g118 (400 + u103) = z110 := by rw [hg119]; exact if_pos rfl
              have hk121 : ∀ j, j ≠ 400 + u103 → g118 j = g83_52 j := fun j hj => by rw [hg119]; exact if_neg hj
              rw [← hg119] at hx116
              rw [← hg119] at hb117
              have hk122 : g118 15 = g83_52 15 := hk121 15 (by omega)
              refine xg_t (xg_aload (va := (2, 82)) rfl rfl) ?_
              refine xg_t (xg_getf (va := (2, 83)) (hb115.get (by decide) (hF48.get (by decide) h82_31)) rfl) ?_
              refine xg_t (xg_bip) ?_
              refine xg_t (xg_dup2 rfl) ?_
              refine xg_ialdB (n := 15) (B := 4294967295) hr114 (hb117) xnm0 (by omega) (fun u123 hu124 he125 => ?_)
              have hl126 : u123 ≤ 500 := by rw [← he125]; exact hx116.l15
              refine xg_t (xg_const) ?_
              refine xg_t (xg_iadd (u := u123) (v := 1) (z := u123 + 1) xnm0 xnm0 (by omega)) ?_
              refine xg_iastK (n := 15) (u := u123 + 1) hr114 xnm0 xnm0 rfl (by omega) (fun w127 hr128 hb129 => ?_)
              have hx130 : okA (fun j => if j = 15 then u123 + 1 else g118 j) := hx116.upd (by omega) (by omega) (by omega) (fun _ => by omega) (by omega) (fun _ => by omega) (fun _ => by omega) (fun _ => by omega) (fun _ => by omega) (by omega) (fun _ _ => by omega)
              have hb131 : ∀ j, (fun j => if j = 15 then u123 + 1 else g118 j) j ≤ 4294967295 := xrb (by omega) (hb117)
              obtain ⟨g132, hg133⟩ : ∃ g : Nat → Nat, g = (fun j => if j = 15 then u123 + 1 else g118 j) := ⟨_, rfl⟩
              rw [← hg133] at hr128
              have he134 : g132 15 = u123 + 1 := by rw [hg133]; exact if_pos rfl
              have hk135 : ∀ j, j ≠ 15 → g132 j = g118 j := fun j hj => by rw [hg133]; exact if_neg hj
              rw [← hg133] at hx130
              rw [← hg133] at hb131
              refine xg_t (xg_iinc (u := ii) (z := ii + 1) (l1 := [(7, (0, fb)), (0, (2, 82)), (1, (0, fa)), (2, (0, fb)), (3, (0, fc_)), (4, (0, fd)), (5, (0, fe))]) rfl rfl (by omega) rfl) ?_
              refine xg_t (xg_goto) ?_
              refine xg_t (xg_drop (l1 := [(0, (2, 82)), (1, (0, fa)), (2, (0, fb)), (3, (0, fc_)), (4, (0, fd)), (5, (0, fe)), (6, (0, ii + 1))]) (List.forall_mem_cons.mpr ⟨List.mem_cons_of_mem _ (List.mem_cons_of_mem _ (List.mem_cons_self)), List.forall_mem_cons.mpr ⟨List.mem_cons_of_mem _ (List.mem_cons_of_mem _ (List.mem_cons_of_mem _ (List.mem_cons_self))), List.forall_mem_cons.mpr ⟨List.mem_cons_of_mem _ (List.mem_cons_of_mem _ (List.mem_cons_of_mem _ (List.mem_cons_of_mem _ (List.mem_cons_self)))), List.forall_mem_cons.mpr ⟨List.mem_cons_of_mem _ (List.mem_cons_of_mem _ (List.mem_cons_of_mem _ (List.mem_cons_of_mem _ (List.mem_cons_of_mem _ (List.mem_cons_self))))), List.forall_mem_cons.mpr ⟨List.mem_cons_of_mem _ (List.mem_cons_of_mem _ (List.mem_cons_of_mem _ (List.mem_cons_of_mem _ (List.mem_cons_of_mem _ (List.mem_cons_of_mem _ (List.mem_cons_self)))))), List.forall_mem_cons.mpr ⟨List.mem_cons_of_mem _ (List.mem_cons_of_mem _ (List.mem_cons_of_mem _ (List.mem_cons_of_mem _ (List.mem_cons_of_mem _ (List.mem_cons_of_mem _ (List.mem_cons_of_mem _ (List.mem_cons_self))))))), List.forall_mem_cons.mpr ⟨List.mem_cons_self, fun _ h => absurd h List.not_mem_nil⟩⟩⟩⟩⟩⟩⟩)) ?_
              have hv136 : z110 = fdB fa fb fc_ fd fe ii := by
                unfold fdB
                rw [if_neg (by omega), if_pos (by omega), ← hE112, xland255, ← hE109, xpt_shr (by omega)]
              have hb137 : ∀ i, i < ii + 1 → g132 (400 + g83_33 15 + i) = fdB fa fb fc_ fd fe i := fun i hi => by
                by_cases e : i = ii
                · rw [e, show 400 + g83_33 15 + ii = 400 + u103 by omega, hk135 _ (by omega), he120]
                  exact hv136
                · rw [hk135 _ (by omega), hk121 _ (by omega)]
                  exact hk64 i (by omega)
              exact ih44 (ii + 1) w127 (by omega) (by omega) (xMnv.up (S := [83]) hI47 ((xFr.of (S := [83]) hb115 (by decide)).tr (xFr.of (S := [83]) hb129 (by decide))) (List.forall_mem_cons.mpr ⟨(show cpx83 (wget w127 83) from ⟨_, hr128, hb131, hx130⟩), fun _ h => absurd h List.not_mem_nil⟩)) ((hF48.tr ((xFr.of (S := [83]) hb115 (by decide)).tr (xFr.of (S := [83]) hb129 (by decide))))) (⟨_, hr128, by omega, by omega, hb137, fun j hl hj => by rw [hk135 j (by omega), hk121 j (by omega)]; exact hk63 j hl hj⟩)
            · refine xg_t (xg_icT (u := ii) (v := 8) rfl xnm0 xnm0 (xj_geT (by omega) (by omega))) ?_
              refine xg_t (xg_blk (b := [(49, 2, 2, 6, 0, 0), (51, 2, 4, 12, 0, 0), (53, 3, 6, 60, 3, 0), (56, 1, 2, 3, 0, 0), (57, 3, 8, 74, 0, 0)]) rfl) ?_
              refine xg_t (xg_iload (va := (0, ii)) rfl rfl) ?_
              refine xg_t (xg_bip) ?_
              by_cases hc138 : ii < 12
              · refine xg_t (xg_icF (u := ii) (v := 12) rfl xnm0 xnm0 (xj_geF hc138 (by omega))) ?_
                refine xg_t (xg_iload (va := (0, fc_)) rfl rfl) ?_
                refine xg_t (xg_goto) ?_
                refine xg_t (xg_blk (b := [(74, 2, 15, 7, 0, 0), (76, 1, 0, 0, 0, 0), (77, 3, 1, 12, 0, 7), (80, 3, 5, 400, 0, 0), (83, 1, 0, 0, 0, 0), (84, 3, 1, 12, 0, 7), (87, 2, 4, 15, 0, 0), (89, 1, 10, 0, 0, 0), (90, 1, 11, 0, 0, 0), (91, 2, 2, 7, 0, 0), (93, 2, 4, 24, 0, 0), (95, 2, 4, 8, 0, 0), (97, 2, 2, 6, 0, 0), (99, 1, 3, 4, 0, 0), (100, 1, 21, 0, 0, 0), (101, 1, 16, 0, 0, 0), (102, 1, 18, 0, 0, 0), (103, 1, 29, 0, 0, 0), (104, 3, 5, 255, 0, 0), (107, 1, 30, 0, 0, 0), (108, 1, 17, 0, 0, 0), (109, 1, 0, 0, 0, 0), (110, 3, 1, 12, 0, 7), (113, 2, 4, 15, 0, 0), (115, 1, 39, 0, 0, 0), (116, 1, 10, 0, 0, 0), (117, 1, 3, 1, 0, 0), (118, 1, 11, 0, 0, 0), (119, 1, 17, 0, 0, 0), (120, 3, 9, 6, 1, 0), (123, 3, 8, 21, 0, 0)]) rfl) ?_
                refine xg_t (xg_istore (l1 := [(0, (2, 82)), (1, (0, fa)), (2, (0, fb)), (3, (0, fc_)), (4, (0, fd)), (5, (0, fe)), (6, (0, ii))]) rfl rfl rfl) ?_
                refine xg_t (xg_aload (va := (2, 82)) rfl rfl) ?_
                refine xg_t (xg_getf (va := (2, 83)) (hF48.get (by decide) h82_31) rfl) ?_
                refine xg_t (xg_sip) ?_
                refine xg_t (xg_aload (va := (2, 82)) rfl rfl) ?_
                refine xg_t (xg_getf (va := (2, 83)) (hF48.get (by decide) h82_31) rfl) ?_
                refine xg_t (xg_bip) ?_
                refine xg_ialdB (n := 15) (B := 4294967295) h83_53 (hb54) xnm0 (by omega) (fun u139 hu140 he141 => ?_)
                have hl142 : u139 ≤ 500 := by rw [← he141]; exact hx55.l15
                refine xg_t (xg_iadd (u := 400) (v := u139) (z := 400 + u139) xnm0 xnm0 (by omega)) ?_
                refine xg_t (xg_iload (va := (0, fc_)) rfl rfl) ?_
                refine xg_t (xg_bip) ?_
                refine xg_t (xg_bip) ?_
                refine xg_t (xg_iload (va := (0, ii)) rfl rfl) ?_
                refine xg_t (xg_const) ?_
                refine xg_t (xg_irem (u := ii) (v := 4) (z := ii % 4) xnm0 xnm0 (by omega) (by decide) (by decide) (rfl)) ?_
                refine xg_t (xg_imul (u := 8) (v := ii % 4) (z := 8 * (ii % 4)) xnm0 xnm0 (by omega)) ?_
                refine xg_t (xg_isub (u := 24) (v := 8 * (ii % 4)) (z := 24 - (8 * (ii % 4))) xnm0 xnm0 (by omega)) ?_
                refine xg_kE (xg_ishrG (u := fc_) (v := 24 - (8 * (ii % 4))) xnm0 xnm0) (xpt_lt _) (fun z143 hz144 hE145 => ?_)
                refine xg_t (xg_sip) ?_
                refine xg_kE (xg_iand (z := Nat.land z143 255) (u := z143) (v := 255) xnm0 xnm0 rfl) (xland_lt (by omega)) (fun z146 hz147 hE148 => ?_)
                refine xg_iastK (n := 400 + u139) (u := z146) h83_53 xnm0 xnm0 rfl (by omega) (fun w149 hr150 hb151 => ?_)
                have hx152 : okA (fun j => if j = 400 + u139 then z146 else g83_52 j) := hx55.upd (by omega) (by omega) (by omega) (fun _ => by omega) (by omega) (fun _ => by omega) (fun _ => by omega) (fun _ => by omega) (fun _ => by omega) (by omega) (fun _ _ => by omega)
                have hb153 : ∀ j, (fun j => if j = 400 + u139 then z146 else g83_52 j) j ≤ 4294967295 := xrb (by omega) (hb54)
                obtain ⟨g154, hg155⟩ : ∃ g : Nat → Nat, g = (fun j => if j = 400 + u139 then z146 else g83_52 j) := ⟨_, rfl⟩
                rw [← hg155] at hr150
                have he156 : g154 (400 + u139) = z146 := by rw [hg155]; exact if_pos rfl
                have hk157 : ∀ j, j ≠ 400 + u139 → g154 j = g83_52 j := fun j hj => by rw [hg155]; exact if_neg hj
                rw [← hg155] at hx152
                rw [← hg155] at hb153
                have hk158 : g154 15 = g83_52 15 := hk157 15 (by omega)
                refine xg_t (xg_aload (va := (2, 82)) rfl rfl) ?_
                refine xg_t (xg_getf (va := (2, 83)) (hb151.get (by decide) (hF48.get (by decide) h82_31)) rfl) ?_
                refine xg_t (xg_bip) ?_
                refine xg_t (xg_dup2 rfl) ?_
                refine xg_ialdB (n := 15) (B := 4294967295) hr150 (hb153) xnm0 (by omega) (fun u159 hu160 he161 => ?_)
                have hl162 : u159 ≤ 500 := by rw [← he161]; exact hx152.l15
                refine xg_t (xg_const) ?_
                refine xg_t (xg_iadd (u := u159) (v := 1) (z := u159 + 1) xnm0 xnm0 (by omega)) ?_
                refine xg_iastK (n := 15) (u := u159 + 1) hr150 xnm0 xnm0 rfl (by omega) (fun w163 hr164 hb165 => ?_)
                have hx166 : okA (fun j => if j = 15 then u159 + 1 else g154 j) := hx152.upd (by omega) (by omega) (by omega) (fun _ => by omega) (by omega) (fun _ => by omega) (fun _ => by omega) (fun _ => by omega) (fun _ => by omega) (by omega) (fun _ _ => by omega)
                have hb167 : ∀ j, (fun j => if j = 15 then u159 + 1 else g154 j) j ≤ 4294967295 := xrb (by omega) (hb153)
                obtain ⟨g168, hg169⟩ : ∃ g : Nat → Nat, g = (fun j => if j = 15 then u159 + 1 else g154 j) := ⟨_, rfl⟩
                rw [← hg169] at hr164
                have he170 : g168 15 = u159 + 1 := by rw [hg169]; exact if_pos rfl
                have hk171 : ∀ j, j ≠ 15 → g168 j = g154 j := fun j hj => by rw [hg169]; exact if_neg hj
                rw [← hg169] at hx166
                rw [← hg169] at hb167
                refine xg_t (xg_iinc (u := ii) (z := ii + 1) (l1 := [(7, (0, fc_)), (0, (2, 82)), (1, (0, fa)), (2, (0, fb)), (3, (0, fc_)), (4, (0, fd)), (5, (0, fe))]) rfl rfl (by omega) rfl) ?_
                refine xg_t (xg_goto) ?_
                refine xg_t (xg_drop (l1 := [(0, (2, 82)), (1, (0, fa)), (2, (0, fb)), (3, (0, fc_)), (4, (0, fd)), (5, (0, fe)), (6, (0, ii + 1))]) (List.forall_mem_cons.mpr ⟨List.mem_cons_of_mem _ (List.mem_cons_of_mem _ (List.mem_cons_self)), List.forall_mem_cons.mpr ⟨List.mem_cons_of_mem _ (List.mem_cons_of_mem _ (List.mem_cons_of_mem _ (List.mem_cons_self))), List.forall_mem_cons.mpr ⟨List.mem_cons_of_mem _ (List.mem_cons_of_mem _ (List.mem_cons_of_mem _ (List.mem_cons_of_mem _ (List.mem_cons_self)))), List.forall_mem_cons.mpr ⟨List.mem_cons_of_mem _ (List.mem_cons_of_mem _ (List.mem_cons_of_mem _ (List.mem_cons_of_mem _ (List.mem_cons_of_mem _ (List.mem_cons_self))))), List.forall_mem_cons.mpr ⟨List.mem_cons_of_mem _ (List.mem_cons_of_mem _ (List.mem_cons_of_mem _ (List.mem_cons_of_mem _ (List.mem_cons_of_mem _ (List.mem_cons_of_mem _ (List.mem_cons_self)))))), List.forall_mem_cons.mpr ⟨List.mem_cons_of_mem _ (List.mem_cons_of_mem _ (List.mem_cons_of_mem _ (List.mem_cons_of_mem _ (List.mem_cons_of_mem _ (List.mem_cons_of_mem _ (List.mem_cons_of_mem _ (List.mem_cons_self))))))), List.forall_mem_cons.mpr ⟨List.mem_cons_self, fun _ h => absurd h List.not_mem_nil⟩⟩⟩⟩⟩⟩⟩)) ?_
                have hv172 : z146 = fdB fa fb fc_ fd fe ii := by
                  unfold fdB
                  rw [if_neg (by omega), if_neg (by omega), if_pos (by omega), ← hE148, xland255, ← hE145, xpt_shr (by omega)]
                have hb173 : ∀ i, i < ii + 1 → g168 (400 + g83_33 15 + i) = fdB fa fb fc_ fd fe i := fun i hi => by
                  by_cases e : i = ii
                  · rw [e, show 400 + g83_33 15 + ii = 400 + u139 by omega, hk171 _ (by omega), he156]
                    exact hv172
                  · rw [hk171 _ (by omega), hk157 _ (by omega)]
                    exact hk64 i (by omega)
                exact ih44 (ii + 1) w163 (by omega) (by omega) (xMnv.up (S := [83]) hI47 ((xFr.of (S := [83]) hb151 (by decide)).tr (xFr.of (S := [83]) hb165 (by decide))) (List.forall_mem_cons.mpr ⟨(show cpx83 (wget w163 83) from ⟨_, hr164, hb167, hx166⟩), fun _ h => absurd h List.not_mem_nil⟩)) ((hF48.tr ((xFr.of (S := [83]) hb151 (by decide)).tr (xFr.of (S := [83]) hb165 (by decide))))) (⟨_, hr164, by omega, by omega, hb173, fun j hl hj => by rw [hk171 j (by omega), hk157 j (by omega)]; exact hk63 j hl hj⟩)
              · refine xg_t (xg_icT (u := ii) (v := 12) rfl xnm0 xnm0 (xj_geT (by omega) (by omega))) ?_
                refine xg_t (xg_blk (b := [(60, 2, 2, 6, 0, 0), (62, 2, 4, 16, 0, 0), (64, 3, 6, 72, 3, 0), (67, 2, 2, 4, 0, 0), (69, 3, 8, 74, 0, 0)]) rfl) ?_
                refine xg_t (xg_iload (va := (0, ii)) rfl rfl) ?_
                refine xg_t (xg_bip) ?_
                by_cases hc174 : ii < 16
                · refine xg_t (xg_icF (u := ii) (v := 16) rfl xnm0 xnm0 (xj_geF hc174 (by omega))) ?_
                  refine xg_t (xg_iload (va := (0, fd)) rfl rfl) ?_
                  refine xg_t (xg_goto) ?_
                  refine xg_t (xg_blk (b := [(74, 2, 15, 7, 0, 0), (76, 1, 0, 0, 0, 0), (77, 3, 1, 12, 0, 7), (80, 3, 5, 400, 0, 0), (83, 1, 0, 0, 0, 0), (84, 3, 1, 12, 0, 7), (87, 2, 4, 15, 0, 0), (89, 1, 10, 0, 0, 0), (90, 1, 11, 0, 0, 0), (91, 2, 2, 7, 0, 0), (93, 2, 4, 24, 0, 0), (95, 2, 4, 8, 0, 0), (97, 2, 2, 6, 0, 0), (99, 1, 3, 4, 0, 0), (100, 1, 21, 0, 0, 0), (101, 1, 16, 0, 0, 0), (102, 1, 18, 0, 0, 0), (103, 1, 29, 0, 0, 0), (104, 3, 5, 255, 0, 0), (107, 1, 30, 0, 0, 0), (108, 1, 17, 0, 0, 0), (109, 1, 0, 0, 0, 0), (110, 3, 1, 12, 0, 7), (113, 2, 4, 15, 0, 0), (115, 1, 39, 0, 0, 0), (116, 1, 10, 0, 0, 0), (117, 1, 3, 1, 0, 0), (118, 1, 11, 0, 0, 0), (119, 1, 17, 0, 0, 0), (120, 3, 9, 6, 1, 0), (123, 3, 8, 21, 0, 0)]) rfl) ?_
                  refine xg_t (xg_istore (l1 := [(0, (2, 82)), (1, (0, fa)), (2, (0, fb)), (3, (0, fc_)), (4, (0, fd)), (5, (0, fe)), (6, (0, ii))]) rfl rfl rfl) ?_
                  refine xg_t (xg_aload (va := (2, 82)) rfl rfl) ?_
                  refine xg_t (xg_getf (va := (2, 83)) (hF48.get (by decide) h82_31) rfl) ?_
                  refine xg_t (xg_sip) ?_
                  refine xg_t (xg_aload (va := (2, 82)) rfl rfl) ?_
                  refine xg_t (xg_getf (va := (2, 83)) (hF48.get (by decide) h82_31) rfl) ?_
                  refine xg_t (xg_bip) ?_
                  refine xg_ialdB (n := 15) (B := 4294967295) h83_53 (hb54) xnm0 (by omega) (fun u175 hu176 he177 => ?_)
                  have hl178 : u175 ≤ 500 := by rw [← he177]; exact hx55.l15
                  refine xg_t (xg_iadd (u := 400) (v := u175) (z := 400 + u175) xnm0 xnm0 (by omega)) ?_
                  refine xg_t (xg_iload (va := (0, fd)) rfl rfl) ?_
                  refine xg_t (xg_bip) ?_
                  refine xg_t (xg_bip) ?_
                  refine xg_t (xg_iload (va := (0, ii)) rfl rfl) ?_
                  refine xg_t (xg_const) ?_
                  refine xg_t (xg_irem (u := ii) (v := 4) (z := ii % 4) xnm0 xnm0 (by omega) (by decide) (by decide) (rfl)) ?_
                  refine xg_t (xg_imul (u := 8) (v := ii % 4) (z := 8 * (ii % 4)) xnm0 xnm0 (by omega)) ?_
                  refine xg_t (xg_isub (u := 24) (v := 8 * (ii % 4)) (z := 24 - (8 * (ii % 4))) xnm0 xnm0 (by omega)) ?_
                  refine xg_kE (xg_ishrG (u := fd) (v := 24 - (8 * (ii % 4))) xnm0 xnm0) (xpt_lt _) (fun z179 hz180 hE181 => ?_)
                  refine xg_t (xg_sip) ?_
                  refine xg_kE (xg_iand (z := Nat.land z179 255) (u := z179) (v := 255) xnm0 xnm0 rfl) (xland_lt (by omega)) (fun z182 hz183 hE184 => ?_)
                  refine xg_iastK (n := 400 + u175) (u := z182) h83_53 xnm0 xnm0 rfl (by omega) (fun w185 hr186 hb187 => ?_)
                  have hx188 : okA (fun j => if j = 400 + u175 then z182 else g83_52 j) := hx55.upd (by omega) (by omega) (by omega) (fun _ => by omega) (by omega) (fun _ => by omega) (fun _ => by omega) (fun _ => by omega) (fun _ => by omega) (by omega) (fun _ _ => by omega)
                  have hb189 : ∀ j, (fun j => if j = 400 + u175 then z182 else g83_52 j) j ≤ 4294967295 := xrb (by omega) (hb54)
                  obtain ⟨g190, hg191⟩ : ∃ g : Nat → Nat, g = (fun j => if j = 400 + u175 then z182 else g83_52 j) := ⟨_, rfl⟩
                  rw [← hg191] at hr186
                  have he192 : g190 (400 + u175) = z182 := by rw [hg191]; exact if_pos rfl
                  have hk193 : ∀ j, j ≠ 400 + u175 → g190 j = g83_52 j := fun j hj => by rw [hg191]; exact if_neg hj
                  rw [← hg191] at hx188
                  rw [← hg191] at hb189
                  have hk194 : g190 15 = g83_52 15 := hk193 15 (by omega)
                  refine xg_t (xg_aload (va := (2, 82)) rfl rfl) ?_
                  refine xg_t (xg_getf (va := (2, 83)) (hb187.get (by decide) (hF48.get (by decide) h82_31)) rfl) ?_
                  refine xg_t (xg_bip) ?_
                  refine xg_t (xg_dup2 rfl) ?_
                  refine xg_ialdB (n := 15) (B := 4294967295) hr186 (hb189) xnm0 (by omega) (fun u195 hu196 he197 => ?_)
                  have hl198 : u195 ≤ 500 := by rw [← he197]; exact hx188.l15
                  refine xg_t (xg_const) ?_
                  refine xg_t (xg_iadd (u := u195) (v := 1) (z := u195 + 1) xnm0 xnm0 (by omega)) ?_
                  refine xg_iastK (n := 15) (u := u195 + 1) hr186 xnm0 xnm0 rfl (by omega) (fun w199 hr200 hb201 => ?_)
                  have hx202 : okA (fun j => if j = 15 then u195 + 1 else g190 j) := hx188.upd (by omega) (by omega) (by omega) (fun _ => by omega) (by omega) (fun _ => by omega) (fun _ => by omega) (fun _ => by omega) (fun _ => by omega) (by omega) (fun _ _ => by omega)
                  have hb203 : ∀ j, (fun j => if j = 15 then u195 + 1 else g190 j) j ≤ 4294967295 := xrb (by omega) (hb189)
                  obtain ⟨g204, hg205⟩ : ∃ g : Nat → Nat, g = (fun j => if j = 15 then u195 + 1 else g190 j) := ⟨_, rfl⟩
                  rw [← hg205] at hr200
                  have he206 : g204 15 = u195 + 1 := by rw [hg205]; exact if_pos rfl
                  have hk207 : ∀ j, j ≠ 15 → g204 j = g190 j := fun j hj => by rw [hg205]; exact if_neg hj
                  rw [← hg205] at hx202
                  rw [← hg205] at hb203
                  refine xg_t (xg_iinc (u := ii) (z := ii + 1) (l1 := [(7, (0, fd)), (0, (2, 82)), (1, (0, fa)), (2, (0, fb)), (3, (0, fc_)), (4, (0, fd)), (5, (0, fe))]) rfl rfl (by omega) rfl) ?_
                  refine xg_t (xg_goto) ?_
                  refine xg_t (xg_drop (l1 := [(0, (2, 82)), (1, (0, fa)), (2, (0, fb)), (3, (0, fc_)), (4, (0, fd)), (5, (0, fe)), (6, (0, ii + 1))]) (List.forall_mem_cons.mpr ⟨List.mem_cons_of_mem _ (List.mem_cons_of_mem _ (List.mem_cons_self)), List.forall_mem_cons.mpr ⟨List.mem_cons_of_mem _ (List.mem_cons_of_mem _ (List.mem_cons_of_mem _ (List.mem_cons_self))), List.forall_mem_cons.mpr ⟨List.mem_cons_of_mem _ (List.mem_cons_of_mem _ (List.mem_cons_of_mem _ (List.mem_cons_of_mem _ (List.mem_cons_self)))), List.forall_mem_cons.mpr ⟨List.mem_cons_of_mem _ (List.mem_cons_of_mem _ (List.mem_cons_of_mem _ (List.mem_cons_of_mem _ (List.mem_cons_of_mem _ (List.mem_cons_self))))), List.forall_mem_cons.mpr ⟨List.mem_cons_of_mem _ (List.mem_cons_of_mem _ (List.mem_cons_of_mem _ (List.mem_cons_of_mem _ (List.mem_cons_of_mem _ (List.mem_cons_of_mem _ (List.mem_cons_self)))))), List.forall_mem_cons.mpr ⟨List.mem_cons_of_mem _ (List.mem_cons_of_mem _ (List.mem_cons_of_mem _ (List.mem_cons_of_mem _ (List.mem_cons_of_mem _ (List.mem_cons_of_mem _ (List.mem_cons_of_mem _ (List.mem_cons_self))))))), List.forall_mem_cons.mpr ⟨List.mem_cons_self, fun _ h => absurd h List.not_mem_nil⟩⟩⟩⟩⟩⟩⟩)) ?_
                  have hv208 : z182 = fdB fa fb fc_ fd fe ii := by
                    unfold fdB
                    rw [if_neg (by omega), if_neg (by omega), if_neg (by omega), if_pos (by omega), ← hE184, xland255, ← hE181, xpt_shr (by omega)]
                  have hb209 : ∀ i, i < ii + 1 → g204 (400 + g83_33 15 + i) = fdB fa fb fc_ fd fe i := fun i hi => by
                    by_cases e : i = ii
                    · rw [e, show 400 + g83_33 15 + ii = 400 + u175 by omega, hk207 _ (by omega), he192]
                      exact hv208
                    · rw [hk207 _ (by omega), hk193 _ (by omega)]
                      exact hk64 i (by omega)
                  exact ih44 (ii + 1) w199 (by omega) (by omega) (xMnv.up (S := [83]) hI47 ((xFr.of (S := [83]) hb187 (by decide)).tr (xFr.of (S := [83]) hb201 (by decide))) (List.forall_mem_cons.mpr ⟨(show cpx83 (wget w199 83) from ⟨_, hr200, hb203, hx202⟩), fun _ h => absurd h List.not_mem_nil⟩)) ((hF48.tr ((xFr.of (S := [83]) hb187 (by decide)).tr (xFr.of (S := [83]) hb201 (by decide))))) (⟨_, hr200, by omega, by omega, hb209, fun j hl hj => by rw [hk207 j (by omega), hk193 j (by omega)]; exact hk63 j hl hj⟩)
                · refine xg_t (xg_icT (u := ii) (v := 16) rfl xnm0 xnm0 (xj_geT (by omega) (by omega))) ?_
                  refine xg_t (xg_blk (b := [(72, 2, 2, 5, 0, 0)]) rfl) ?_
                  refine xg_t (xg_iload (va := (0, fe)) rfl rfl) ?_
                  refine xg_t (xg_blk (b := [(74, 2, 15, 7, 0, 0), (76, 1, 0, 0, 0, 0), (77, 3, 1, 12, 0, 7), (80, 3, 5, 400, 0, 0), (83, 1, 0, 0, 0, 0), (84, 3, 1, 12, 0, 7), (87, 2, 4, 15, 0, 0), (89, 1, 10, 0, 0, 0), (90, 1, 11, 0, 0, 0), (91, 2, 2, 7, 0, 0), (93, 2, 4, 24, 0, 0), (95, 2, 4, 8, 0, 0), (97, 2, 2, 6, 0, 0), (99, 1, 3, 4, 0, 0), (100, 1, 21, 0, 0, 0), (101, 1, 16, 0, 0, 0), (102, 1, 18, 0, 0, 0), (103, 1, 29, 0, 0, 0), (104, 3, 5, 255, 0, 0), (107, 1, 30, 0, 0, 0), (108, 1, 17, 0, 0, 0), (109, 1, 0, 0, 0, 0), (110, 3, 1, 12, 0, 7), (113, 2, 4, 15, 0, 0), (115, 1, 39, 0, 0, 0), (116, 1, 10, 0, 0, 0), (117, 1, 3, 1, 0, 0), (118, 1, 11, 0, 0, 0), (119, 1, 17, 0, 0, 0), (120, 3, 9, 6, 1, 0), (123, 3, 8, 21, 0, 0)]) rfl) ?_
                  refine xg_t (xg_istore (l1 := [(0, (2, 82)), (1, (0, fa)), (2, (0, fb)), (3, (0, fc_)), (4, (0, fd)), (5, (0, fe)), (6, (0, ii))]) rfl rfl rfl) ?_
                  refine xg_t (xg_aload (va := (2, 82)) rfl rfl) ?_
                  refine xg_t (xg_getf (va := (2, 83)) (hF48.get (by decide) h82_31) rfl) ?_
                  refine xg_t (xg_sip) ?_
                  refine xg_t (xg_aload (va := (2, 82)) rfl rfl) ?_
                  refine xg_t (xg_getf (va := (2, 83)) (hF48.get (by decide) h82_31) rfl) ?_
                  refine xg_t (xg_bip) ?_
                  refine xg_ialdB (n := 15) (B := 4294967295) h83_53 (hb54) xnm0 (by omega) (fun u210 hu211 he212 => ?_)
                  have hl213 : u210 ≤ 500 := by rw [← he212]; exact hx55.l15
                  refine xg_t (xg_iadd (u := 400) (v := u210) (z := 400 + u210) xnm0 xnm0 (by omega)) ?_
                  refine xg_t (xg_iload (va := (0, fe)) rfl rfl) ?_
                  refine xg_t (xg_bip) ?_
                  refine xg_t (xg_bip) ?_
                  refine xg_t (xg_iload (va := (0, ii)) rfl rfl) ?_
                  refine xg_t (xg_const) ?_
                  refine xg_t (xg_irem (u := ii) (v := 4) (z := ii % 4) xnm0 xnm0 (by omega) (by decide) (by decide) (rfl)) ?_
                  refine xg_t (xg_imul (u := 8) (v := ii % 4) (z := 8 * (ii % 4)) xnm0 xnm0 (by omega)) ?_
                  refine xg_t (xg_isub (u := 24) (v := 8 * (ii % 4)) (z := 24 - (8 * (ii % 4))) xnm0 xnm0 (by omega)) ?_
                  refine xg_kE (xg_ishrG (u := fe) (v := 24 - (8 * (ii % 4))) xnm0 xnm0) (xpt_lt _) (fun z214 hz215 hE216 => ?_)
                  refine xg_t (xg_sip) ?_
                  refine xg_kE (xg_iand (z := Nat.land z214 255) (u := z214) (v := 255) xnm0 xnm0 rfl) (xland_lt (by omega)) (fun z217 hz218 hE219 => ?_)
                  refine xg_iastK (n := 400 + u210) (u := z217) h83_53 xnm0 xnm0 rfl (by omega) (fun w220 hr221 hb222 => ?_)
                  have hx223 : okA (fun j => if j = 400 + u210 then z217 else g83_52 j) := hx55.upd (by omega) (by omega) (by omega) (fun _ => by omega) (by omega) (fun _ => by omega) (fun _ => by omega) (fun _ => by omega) (fun _ => by omega) (by omega) (fun _ _ => by omega)
                  have hb224 : ∀ j, (fun j => if j = 400 + u210 then z217 else g83_52 j) j ≤ 4294967295 := xrb (by omega) (hb54)
                  obtain ⟨g225, hg226⟩ : ∃ g : Nat → Nat, g = (fun j => if j = 400 + u210 then z217 else g83_52 j) := ⟨_, rfl⟩
                  rw [← hg226] at hr221
                  have he227 : g225 (400 + u210) = z217 := by rw [hg226]; exact if_pos rfl
                  have hk228 : ∀ j, j ≠ 400 + u210 → g225 j = g83_52 j := fun j hj => by rw [hg226]; exact if_neg hj
                  rw [← hg226] at hx223
                  rw [← hg226] at hb224
                  have hk229 : g225 15 = g83_52 15 := hk228 15 (by omega)
                  refine xg_t (xg_aload (va := (2, 82)) rfl rfl) ?_
                  refine xg_t (xg_getf (va := (2, 83)) (hb222.get (by decide) (hF48.get (by decide) h82_31)) rfl) ?_
                  refine xg_t (xg_bip) ?_
                  refine xg_t (xg_dup2 rfl) ?_
                  refine xg_ialdB (n := 15) (B := 4294967295) hr221 (hb224) xnm0 (by omega) (fun u230 hu231 he232 => ?_)
                  have hl233 : u230 ≤ 500 := by rw [← he232]; exact hx223.l15
                  refine xg_t (xg_const) ?_
                  refine xg_t (xg_iadd (u := u230) (v := 1) (z := u230 + 1) xnm0 xnm0 (by omega)) ?_
                  refine xg_iastK (n := 15) (u := u230 + 1) hr221 xnm0 xnm0 rfl (by omega) (fun w234 hr235 hb236 => ?_)
                  have hx237 : okA (fun j => if j = 15 then u230 + 1 else g225 j) := hx223.upd (by omega) (by omega) (by omega) (fun _ => by omega) (by omega) (fun _ => by omega) (fun _ => by omega) (fun _ => by omega) (fun _ => by omega) (by omega) (fun _ _ => by omega)
                  have hb238 : ∀ j, (fun j => if j = 15 then u230 + 1 else g225 j) j ≤ 4294967295 := xrb (by omega) (hb224)
                  obtain ⟨g239, hg240⟩ : ∃ g : Nat → Nat, g = (fun j => if j = 15 then u230 + 1 else g225 j) := ⟨_, rfl⟩
                  rw [← hg240] at hr235
                  have he241 : g239 15 = u230 + 1 := by rw [hg240]; exact if_pos rfl
                  have hk242 : ∀ j, j ≠ 15 → g239 j = g225 j := fun j hj => by rw [hg240]; exact if_neg hj
                  rw [← hg240] at hx237
                  rw [← hg240] at hb238
                  refine xg_t (xg_iinc (u := ii) (z := ii + 1) (l1 := [(7, (0, fe)), (0, (2, 82)), (1, (0, fa)), (2, (0, fb)), (3, (0, fc_)), (4, (0, fd)), (5, (0, fe))]) rfl rfl (by omega) rfl) ?_
                  refine xg_t (xg_goto) ?_
                  refine xg_t (xg_drop (l1 := [(0, (2, 82)), (1, (0, fa)), (2, (0, fb)), (3, (0, fc_)), (4, (0, fd)), (5, (0, fe)), (6, (0, ii + 1))]) (List.forall_mem_cons.mpr ⟨List.mem_cons_of_mem _ (List.mem_cons_of_mem _ (List.mem_cons_self)), List.forall_mem_cons.mpr ⟨List.mem_cons_of_mem _ (List.mem_cons_of_mem _ (List.mem_cons_of_mem _ (List.mem_cons_self))), List.forall_mem_cons.mpr ⟨List.mem_cons_of_mem _ (List.mem_cons_of_mem _ (List.mem_cons_of_mem _ (List.mem_cons_of_mem _ (List.mem_cons_self)))), List.forall_mem_cons.mpr ⟨List.mem_cons_of_mem _ (List.mem_cons_of_mem _ (List.mem_cons_of_mem _ (List.mem_cons_of_mem _ (List.mem_cons_of_mem _ (List.mem_cons_self))))), List.forall_mem_cons.mpr ⟨List.mem_cons_of_mem _ (List.mem_cons_of_mem _ (List.mem_cons_of_mem _ (List.mem_cons_of_mem _ (List.mem_cons_of_mem _ (List.mem_cons_of_mem _ (List.mem_cons_self)))))), List.forall_mem_cons.mpr ⟨List.mem_cons_of_mem _ (List.mem_cons_of_mem _ (List.mem_cons_of_mem _ (List.mem_cons_of_mem _ (List.mem_cons_of_mem _ (List.mem_cons_of_mem _ (List.mem_cons_of_mem _ (List.mem_cons_self))))))), List.forall_mem_cons.mpr ⟨List.mem_cons_self, fun _ h => absurd h List.not_mem_nil⟩⟩⟩⟩⟩⟩⟩)) ?_
                  have hv243 : z217 = fdB fa fb fc_ fd fe ii := by
                    unfold fdB
                    rw [if_neg (by omega), if_neg (by omega), if_neg (by omega), if_neg (by omega), ← hE219, xland255, ← hE216, xpt_shr (by omega)]
                  have hb244 : ∀ i, i < ii + 1 → g239 (400 + g83_33 15 + i) = fdB fa fb fc_ fd fe i := fun i hi => by
                    by_cases e : i = ii
                    · rw [e, show 400 + g83_33 15 + ii = 400 + u210 by omega, hk242 _ (by omega), he227]
                      exact hv243
                    · rw [hk242 _ (by omega), hk228 _ (by omega)]
                      exact hk64 i (by omega)
                  exact ih44 (ii + 1) w234 (by omega) (by omega) (xMnv.up (S := [83]) hI47 ((xFr.of (S := [83]) hb222 (by decide)).tr (xFr.of (S := [83]) hb236 (by decide))) (List.forall_mem_cons.mpr ⟨(show cpx83 (wget w234 83) from ⟨_, hr235, hb238, hx237⟩), fun _ h => absurd h List.not_mem_nil⟩)) ((hF48.tr ((xFr.of (S := [83]) hb222 (by decide)).tr (xFr.of (S := [83]) hb236 (by decide))))) (⟨_, hr235, by omega, by omega, hb244, fun j hl hj => by rw [hk242 j (by omega), hk228 j (by omega)]; exact hk63 j hl hj⟩)
        · refine xg_t (xg_icT (u := ii) (v := 20) rfl xnm0 xnm0 (xj_geT (by omega) (by omega))) ?_
          refine xg_t (xg_blk (b := [(126, 1, 0, 0, 0, 0), (127, 3, 1, 12, 0, 7), (130, 2, 4, 15, 0, 0), (132, 1, 10, 0, 0, 0), (133, 1, 12, 0, 1, 0)]) rfl) ?_
          refine xg_t (xg_aload (va := (2, 82)) rfl rfl) ?_
          refine xg_t (xg_getf (va := (2, 83)) (hF48.get (by decide) h82_31) rfl) ?_
          refine xg_t (xg_bip) ?_
          refine xg_ialdB (n := 15) (B := 4294967295) h83_53 (hb54) xnm0 (by omega) (fun u245 hu246 he247 => ?_)
          have hl248 : u245 ≤ 500 := by rw [← he247]; exact hx55.l15
          have hq249 : rwv w 83 15 = g83_33 15 := rwv_of h83_34 (by decide)
          have hq250 : rwv w46 83 15 = g83_52 15 := rwv_of h83_53 (by decide)
          exact xg_e ⟨u245, w46, ⟨rfl, rfl⟩, ⟨Or.inl ⟨by omega, by omega, by omega, fun i hi => (rwv_of h83_53 (by omega)).trans (by rw [show rwv w 83 15 = g83_33 15 by omega]; exact hk64 i (by omega))⟩, fun j h hj => (rwv_of h83_53 h).trans ((hk63 j h (by omega)).trans (rwv_of h83_34 h).symm)⟩, hI47, hF48⟩
    exact key43 _ 0 w (Nat.lt_succ_self _) (by omega) (hI) (xFr.rf) (⟨_, h83_34, by omega, by omega, fun i hi => absurd hi (Nat.not_lt_zero _), fun j _ _ => rfl⟩)
end XFDM
