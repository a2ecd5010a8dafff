section
/-! the model: the bytes that feed writes -/
section XFDM
variable {d : Nat} {w : List (List xE)} {bd : List (Nat × Nat)} {fc : List (Nat × Nat × Bool)} {rr : Nat × Nat}
theorem mFeedB {fa fb fc_ fd fe : Nat} (hI : xMnv w) (hfa : fa ≤ 4294967295) (hfb : fb ≤ 4294967295) (hfc_ : fc_ ≤ 4294967295) (hfd : fd ≤ 4294967295) (hfe : fe ≤ 4294967295) : xPi d mX12_feed [(2, 82), (0, fa), (0, fb), (0, fc_), (0, fd), (0, fe)] w bd fc rr (fun n w' => (((n = rwv w 83 15 + 20 ∧ rwv w 83 15 ≤ 480 ∧ rwv w' 83 15 = rwv w 83 15 + 20 ∧ (∀ i, i < 20 → rwv w' 83 (400 + rwv w 83 15 + i) = fdB fa fb fc_ fd fe i)) ∨ (n = 4294967295 ∧ ¬ rwv w 83 15 ≤ 480 ∧ rwv w' 83 15 = rwv w 83 15)) ∧ ∀ j, j < 5360 → (j ≠ 15 ∧ (j < 400 + rwv w 83 15 ∨ 900 ≤ j)) → rwv w' 83 j = rwv w 83 j) ∧ xMnv w' ∧ xFr [83] w w') := by
  refine xPi.of ?_
  show xTo d mX12_feed (0, [], [(0, (2, 82)), (1, (0, fa)), (2, (0, fb)), (3, (0, fc_)), (4, (0, fd)), (5, (0, fe))], [], (w, bd, fc, 0, 0, rr)) (fun φ => ∃ n w', xEnd 1 [(0, n)] (w', bd, fc, 0, 0, rr) φ ∧ (((n = rwv w 83 15 + 20 ∧ rwv w 83 15 ≤ 480 ∧ rwv w' 83 15 = rwv w 83 15 + 20 ∧ (∀ i, i < 20 → rwv w' 83 (400 + rwv w 83 15 + i) = fdB fa fb fc_ fd fe i)) ∨ (n = 4294967295 ∧ ¬ rwv w 83 15 ≤ 480 ∧ rwv w' 83 15 = rwv w 83 15)) ∧ ∀ j, j < 5360 → (j ≠ 15 ∧ (j < 400 + rwv w 83 15 ∨ 900 ≤ j)) → rwv w' 83 j = rwv w 83 j) ∧ xMnv w' ∧ xFr [83] w w')
  refine xoCh82 (xqc82 hI : cp82 (wget w 82)) (fun f82_1 f82_3 f82_5 f82_7 f82_9 f82_11 f82_13 f82_15 f82_17 f82_19 f82_21 f82_22 f82_23 f82_25 f82_27 f82_29 h82_31 hb2 hb4 hb6 hb8 hb10 hb12 hb14 hb16 hb18 hb20 hb24 hb26 hb28 hb30 hb32 => ?_)
  refine xoX83 (xqc83 hI : cpx83 (wget w 83)) (fun g83_33 h83_34 hb35 hx36 => ?_)
  refine xg_t (xg_blq rfl) ?_
  refine xg_t (xg_aload (va := (2, 82)) rfl rfl) ?_
  refine xg_t (xg_getf (va := (2, 83)) h82_31 rfl) ?_
  refine xg_t (xg_bip) ?_
  refine xg_ialdB (n := 15) (B := 4294967295) h83_34 (hb35) xnm0 (by first | decide | omega) (fun u37 hu38 he39 => ?_)
  have hl40 : u37 ≤ 500 := by rw [← he39]; exact hx36.l15
  refine xg_t (xg_bip) ?_
  refine xg_t (xg_iadd (u := u37) (v := 20) (z := u37 + 20) xnm0 xnm0 (by omega)) ?_
  refine xg_t (xg_sip) ?_
  by_cases hc41 : 500 < (u37 + 20)
  · refine xg_t (xg_icF (u := u37 + 20) (v := 500) rfl xnm0 xnm0 (xj_leF hc41 (by omega))) ?_
    refine xg_t (xg_const) ?_
    have hq42 : rwv w 83 15 = g83_33 15 := rwv_of h83_34 (by decide)
    exact xg_e ⟨4294967295, w, ⟨rfl, rfl⟩, ⟨Or.inr ⟨rfl, by omega, rfl⟩, fun j _ _ => rfl⟩, hI, xFr.rf⟩
  · refine xg_t (xg_icT (u := u37 + 20) (v := 500) rfl xnm0 xnm0 (xj_leT (by omega) (by omega))) ?_
    refine xg_t (xg_blq rfl) ?_
    refine xg_t (xg_const) ?_
    refine xg_t (xg_istore (l1 := [(0, (2, 82)), (1, (0, fa)), (2, (0, fb)), (3, (0, fc_)), (4, (0, fd)), (5, (0, fe))]) rfl rfl rfl) ?_
    refine xg_t (xg_drop (l1 := [(0, (2, 82)), (1, (0, fa)), (2, (0, fb)), (3, (0, fc_)), (4, (0, fd)), (5, (0, fe)), (6, (0, 0))]) (List.forall_mem_cons.mpr ⟨List.mem_cons_of_mem _ (List.mem_cons_self), List.forall_mem_cons.mpr ⟨List.mem_cons_of_mem _ (List.mem_cons_of_mem _ (List.mem_cons_self)), List.forall_mem_cons.mpr ⟨List.mem_cons_of_mem _ (List.mem_cons_of_mem _ (List.mem_cons_of_mem _ (List.mem_cons_self))), List.forall_mem_cons.mpr ⟨List.mem_cons_of_mem _ (List.mem_cons_of_mem _ (List.mem_cons_of_mem _ (List.mem_cons_of_mem _ (List.mem_cons_self)))), List.forall_mem_cons.mpr ⟨List.mem_cons_of_mem _ (List.mem_cons_of_mem _ (List.mem_cons_of_mem _ (List.mem_cons_of_mem _ (List.mem_cons_of_mem _ (List.mem_cons_self))))), List.forall_mem_cons.mpr ⟨List.mem_cons_of_mem _ (List.mem_cons_of_mem _ (List.mem_cons_of_mem _ (List.mem_cons_of_mem _ (List.mem_cons_of_mem _ (List.mem_cons_of_mem _ (List.mem_cons_self)))))), List.forall_mem_cons.mpr ⟨List.mem_cons_self, fun _ h => absurd h List.not_mem_nil⟩⟩⟩⟩⟩⟩⟩)) ?_
    have key43 : ∀ (m45 : Nat) (ii : Nat) (w46 : List (List xE)), 20 - ii < m45 → ii ≤ 20 → xMnv w46 → xFr [83] w w46 → (∃ f : Nat → Nat, xRow w46 83 5360 50 f ∧ (f 15 = g83_33 15 + ii ∧ g83_33 15 + 20 ≤ 500 ∧ (∀ i, i < ii → f (400 + g83_33 15 + i) = fdB fa fb fc_ fd fe i) ∧ (∀ j, j < 5360 → (j ≠ 15 ∧ (j < 400 + g83_33 15 ∨ 900 ≤ j)) → f j = g83_33 j))) → xTo d mX12_feed (21, [], [(0, (2, 82)), (1, (0, fa)), (2, (0, fb)), (3, (0, fc_)), (4, (0, fd)), (5, (0, fe)), (6, (0, ii))], [], (w46, bd, fc, 0, 0, rr)) (fun φ => ∃ n w', xEnd 1 [(0, n)] (w', bd, fc, 0, 0, rr) φ ∧ (((n = rwv w 83 15 + 20 ∧ rwv w 83 15 ≤ 480 ∧ rwv w' 83 15 = rwv w 83 15 + 20 ∧ (∀ i, i < 20 → rwv w' 83 (400 + rwv w 83 15 + i) = fdB fa fb fc_ fd fe i)) ∨ (n = 4294967295 ∧ ¬ rwv w 83 15 ≤ 480 ∧ rwv w' 83 15 = rwv w 83 15)) ∧ ∀ j, j < 5360 → (j ≠ 15 ∧ (j < 400 + rwv w 83 15 ∨ 900 ≤ j)) → rwv w' 83 j = rwv w 83 j) ∧ xMnv w' ∧ xFr [83] w w') := by
      intro m45
      induction m45 with
      | zero => intro ii w46 hz; exact absurd hz (Nat.not_lt_zero _)
      | succ m45 ih44 =>
        intro ii w46 hm51 hn49 hI47 hF48 he50
        refine xoX83 (xqc83 hI47 : cpx83 (wget w46 83)) (fun g83_52 h83_53 hb54 hx55 => ?_)
        obtain ⟨g56, he57, he58, he59, he60, he61⟩ := he50
        have hd62 : g56 15 = g83_52 15 := xRow.det he57 h83_53 15 (by omega)
        have hk63 : ∀ j, j < 5360 → (j ≠ 15 ∧ (j < 400 + g83_33 15 ∨ 900 ≤ j)) → g83_52 j = g83_33 j := fun j hl hj => (xRow.det h83_53 he57 j hl).trans (he61 j hl hj)
        have hk64 : ∀ i, i < ii → g83_52 (400 + g83_33 15 + i) = fdB fa fb fc_ fd fe i := fun i hi => (xRow.det h83_53 he57 _ (by omega)).trans (he60 i hi)
        refine xg_t (xg_blq rfl) ?_
        refine xg_t (xg_iload (va := (0, ii)) rfl rfl) ?_
        refine xg_t (xg_bip) ?_
        by_cases hc65 : ii < 20
        · refine xg_t (xg_icF (u := ii) (v := 20) rfl xnm0 xnm0 (xj_geF hc65 (by omega))) ?_
          refine xg_t (xg_iload (va := (0, ii)) rfl rfl) ?_
          refine xg_t (xg_const) ?_
          by_cases hc66 : ii < 4
          · refine xg_t (xg_icF (u := ii) (v := 4) rfl xnm0 xnm0 (xj_geF hc66 (by omega))) ?_
            refine xg_t (xg_iload (va := (0, fa)) rfl rfl) ?_
            refine xg_t (xg_goto) ?_
            refine xg_t (xg_blq rfl) ?_
            refine xg_t (xg_istore (l1 := [(0, (2, 82)), (1, (0, fa)), (2, (0, fb)), (3, (0, fc_)), (4, (0, fd)), (5, (0, fe)), (6, (0, ii))]) rfl rfl rfl) ?_
            refine xg_t (xg_aload (va := (2, 82)) rfl rfl) ?_
            refine xg_t (xg_getf (va := (2, 83)) (hF48.get (by decide) h82_31) rfl) ?_
            refine xg_t (xg_sip) ?_
            refine xg_t (xg_aload (va := (2, 82)) rfl rfl) ?_
            refine xg_t (xg_getf (va := (2, 83)) (hF48.get (by decide) h82_31) rfl) ?_
            refine xg_t (xg_bip) ?_
            refine xg_ialdB (n := 15) (B := 4294967295) h83_53 (hb54) xnm0 (by first | decide | omega) (fun u67 hu68 he69 => ?_)
            have hl70 : u67 ≤ 500 := by rw [← he69]; exact hx55.l15
            refine xg_t (xg_iadd (u := 400) (v := u67) (z := 400 + u67) xnm0 xnm0 (by omega)) ?_
            refine xg_t (xg_iload (va := (0, fa)) rfl rfl) ?_
            refine xg_t (xg_bip) ?_
            refine xg_t (xg_bip) ?_
            refine xg_t (xg_iload (va := (0, ii)) rfl rfl) ?_
            refine xg_t (xg_const) ?_
            refine xg_t (xg_irem (u := ii) (v := 4) (z := ii % 4) xnm0 xnm0 (by omega) (by decide) (by decide) (rfl)) ?_
            refine xg_t (xg_imul (u := 8) (v := ii % 4) (z := 8 * (ii % 4)) xnm0 xnm0 (by omega)) ?_
            refine xg_t (xg_isub (u := 24) (v := 8 * (ii % 4)) (z := 24 - (8 * (ii % 4))) xnm0 xnm0 (by omega)) ?_
            refine xg_kE (xg_ishrG (u := fa) (v := 24 - (8 * (ii % 4))) xnm0 xnm0) (xpt_lt _) (fun z71 hz72 hE73 => ?_)
            refine xg_t (xg_sip) ?_
            refine xg_kE (xg_iand (z := Nat.land z71 255) (u := z71) (v := 255) xnm0 xnm0 rfl) (xland_lt (by omega)) (fun z74 hz75 hE76 => ?_)
            refine xg_iastK (n := 400 + u67) (u := z74) h83_53 xnm0 xnm0 rfl (by omega) (fun w77 hr78 hb79 => ?_)
            have hx80 : okA (fun j => if j = 400 + u67 then z74 else g83_52 j) := hx55.upd (by omega) (by omega) (by omega) (fun _ => by omega) (by omega) (fun _ => by omega) (fun _ => by omega) (fun _ => by omega) (fun _ => by omega) (by omega) (fun _ _ => by omega)
            have hb81 : ∀ j, (fun j => if j = 400 + u67 then z74 else g83_52 j) j ≤ 4294967295 := xrb (by omega) (hb54)
            obtain ⟨g82, hg83⟩ : ∃ g : Nat → Nat, g = (fun j => if j = 400 + u67 then z74 else g83_52 j) := ⟨_, rfl⟩
            rw [← hg83] at hr78
            have he84 : g82 (400 + u67) = z74 := by rw [hg83]; exact if_pos rfl
            have hk85 : ∀ j, j ≠ 400 + u67 → g82 j = g83_52 j := fun j hj => by rw [hg83]; exact if_neg hj
            rw [← hg83] at hx80
            rw [← hg83] at hb81
            have hk86 : g82 15 = g83_52 15 := hk85 15 (by omega)
            refine xg_t (xg_aload (va := (2, 82)) rfl rfl) ?_
            refine xg_t (xg_getf (va := (2, 83)) (hb79.get (by decide) (hF48.get (by decide) h82_31)) rfl) ?_
            refine xg_t (xg_bip) ?_
            refine xg_t (xg_dup2 rfl) ?_
            refine xg_ialdB (n := 15) (B := 4294967295) hr78 (hb81) xnm0 (by first | decide | omega) (fun u87 hu88 he89 => ?_)
            have hl90 : u87 ≤ 500 := by rw [← he89]; exact hx80.l15
            refine xg_t (xg_const) ?_
            refine xg_t (xg_iadd (u := u87) (v := 1) (z := u87 + 1) xnm0 xnm0 (by omega)) ?_
            refine xg_iastK (n := 15) (u := u87 + 1) hr78 xnm0 xnm0 rfl (by first | decide | omega) (fun w91 hr92 hb93 => ?_)
            have hx94 : okA (fun j => if j = 15 then u87 + 1 else g82 j) := hx80.upd (by omega) (by omega) (by omega) (fun _ => by omega) (by omega) (fun _ => by omega) (fun _ => by omega) (fun _ => by omega) (fun _ => by omega) (by omega) (fun _ _ => by omega)
            have hb95 : ∀ j, (fun j => if j = 15 then u87 + 1 else g82 j) j ≤ 4294967295 := xrb (by omega) (hb81)
            obtain ⟨g96, hg97⟩ : ∃ g : Nat → Nat, g = (fun j => if j = 15 then u87 + 1 else g82 j) := ⟨_, rfl⟩
            rw [← hg97] at hr92
            have he98 : g96 15 = u87 + 1 := by rw [hg97]; exact if_pos rfl
            have hk99 : ∀ j, j ≠ 15 → g96 j = g82 j := fun j hj => by rw [hg97]; exact if_neg hj
            rw [← hg97] at hx94
            rw [← hg97] at hb95
            refine xg_t (xg_iinc (u := ii) (z := ii + 1) (l1 := [(7, (0, fa)), (0, (2, 82)), (1, (0, fa)), (2, (0, fb)), (3, (0, fc_)), (4, (0, fd)), (5, (0, fe))]) rfl rfl (by omega) rfl) ?_
            refine xg_t (xg_goto) ?_
            refine xg_t (xg_drop (l1 := [(0, (2, 82)), (1, (0, fa)), (2, (0, fb)), (3, (0, fc_)), (4, (0, fd)), (5, (0, fe)), (6, (0, ii + 1))]) (List.forall_mem_cons.mpr ⟨List.mem_cons_of_mem _ (List.mem_cons_of_mem _ (List.mem_cons_self)), List.forall_mem_cons.mpr ⟨List.mem_cons_of_mem _ (List.mem_cons_of_mem _ (List.mem_cons_of_mem _ (List.mem_cons_self))), List.forall_mem_cons.mpr ⟨List.mem_cons_of_mem _ (List.mem_cons_of_mem _ (List.mem_cons_of_mem _ (List.mem_cons_of_mem _ (List.mem_cons_self)))), List.forall_mem_cons.mpr ⟨List.mem_cons_of_mem _ (List.mem_cons_of_mem _ (List.mem_cons_of_mem _ (List.mem_cons_of_mem _ (List.mem_cons_of_mem _ (List.mem_cons_self))))), List.forall_mem_cons.mpr ⟨List.mem_cons_of_mem _ (List.mem_cons_of_mem _ (List.mem_cons_of_mem _ (List.mem_cons_of_mem _ (List.mem_cons_of_mem _ (List.mem_cons_of_mem _ (List.mem_cons_self)))))), List.forall_mem_cons.mpr ⟨List.mem_cons_of_mem _ (List.mem_cons_of_mem _ (List.mem_cons_of_mem _ (List.mem_cons_of_mem _ (List.mem_cons_of_mem _ (List.mem_cons_of_mem _ (List.mem_cons_of_mem _ (List.mem_cons_self))))))), List.forall_mem_cons.mpr ⟨List.mem_cons_self, fun _ h => absurd h List.not_mem_nil⟩⟩⟩⟩⟩⟩⟩)) ?_
            have hv100 : z74 = fdB fa fb fc_ fd fe ii := by
              unfold fdB
              rw [if_pos (by omega), ← hE76, xland255, ← hE73, xpt_shr (by omega)]
            have hb101 : ∀ i, i < ii + 1 → g96 (400 + g83_33 15 + i) = fdB fa fb fc_ fd fe i := fun i hi => by
              by_cases e : i = ii
              · rw [e, show 400 + g83_33 15 + ii = 400 + u67 by omega, hk99 _ (by omega), he84]
                exact hv100
              · rw [hk99 _ (by omega), hk85 _ (by omega)]
                exact hk64 i (by omega)
            exact ih44 (ii + 1) w91 (by omega) (by omega) (xMnv.up (S := [83]) hI47 ((xFr.of (S := [83]) hb79 (by decide)).tr (xFr.of (S := [83]) hb93 (by decide))) (List.forall_mem_cons.mpr ⟨xqu83 (show cpx83 (wget w91 83) from ⟨_, hr92, hb95, hx94⟩), fun _ h => absurd h List.not_mem_nil⟩)) ((hF48.tr ((xFr.of (S := [83]) hb79 (by decide)).tr (xFr.of (S := [83]) hb93 (by decide))))) (⟨_, hr92, by omega, by omega, hb101, fun j hl hj => by rw [hk99 j (by omega), hk85 j (by omega)]; exact hk63 j hl hj⟩)
          · refine xg_t (xg_icT (u := ii) (v := 4) rfl xnm0 xnm0 (xj_geT (by omega) (by omega))) ?_
            refine xg_t (xg_blq rfl) ?_
            refine xg_t (xg_iload (va := (0, ii)) rfl rfl) ?_
            refine xg_t (xg_bip) ?_
            by_cases hc102 : ii < 8
            · refine xg_t (xg_icF (u := ii) (v := 8) rfl xnm0 xnm0 (xj_geF hc102 (by omega))) ?_
              refine xg_t (xg_iload (va := (0, fb)) rfl rfl) ?_
              refine xg_t (xg_goto) ?_
              refine xg_t (xg_blq rfl) ?_
              refine xg_t (xg_istore (l1 := [(0, (2, 82)), (1, (0, fa)), (2, (0, fb)), (3, (0, fc_)), (4, (0, fd)), (5, (0, fe)), (6, (0, ii))]) rfl rfl rfl) ?_
              refine xg_t (xg_aload (va := (2, 82)) rfl rfl) ?_
              refine xg_t (xg_getf (va := (2, 83)) (hF48.get (by decide) h82_31) rfl) ?_
              refine xg_t (xg_sip) ?_
              refine xg_t (xg_aload (va := (2, 82)) rfl rfl) ?_
              refine xg_t (xg_getf (va := (2, 83)) (hF48.get (by decide) h82_31) rfl) ?_
              refine xg_t (xg_bip) ?_
              refine xg_ialdB (n := 15) (B := 4294967295) h83_53 (hb54) xnm0 (by first | decide | omega) (fun u103 hu104 he105 => ?_)
              have hl106 : u103 ≤ 500 := by rw [← he105]; exact hx55.l15
              refine xg_t (xg_iadd (u := 400) (v := u103) (z := 400 + u103) xnm0 xnm0 (by omega)) ?_
              refine xg_t (xg_iload (va := (0, fb)) rfl rfl) ?_
              refine xg_t (xg_bip) ?_
              refine xg_t (xg_bip) ?_
              refine xg_t (xg_iload (va := (0, ii)) rfl rfl) ?_
              refine xg_t (xg_const) ?_
              refine xg_t (xg_irem (u := ii) (v := 4) (z := ii % 4) xnm0 xnm0 (by omega) (by decide) (by decide) (rfl)) ?_
              refine xg_t (xg_imul (u := 8) (v := ii % 4) (z := 8 * (ii % 4)) xnm0 xnm0 (by omega)) ?_
              refine xg_t (xg_isub (u := 24) (v := 8 * (ii % 4)) (z := 24 - (8 * (ii % 4))) xnm0 xnm0 (by omega)) ?_
              refine xg_kE (xg_ishrG (u := fb) (v := 24 - (8 * (ii % 4))) xnm0 xnm0) (xpt_lt _) (fun z107 hz108 hE109 => ?_)
              refine xg_t (xg_sip) ?_
              refine xg_kE (xg_iand (z := Nat.land z107 255) (u := z107) (v := 255) xnm0 xnm0 rfl) (xland_lt (by omega)) (fun z110 hz111 hE112 => ?_)
              refine xg_iastK (n := 400 + u103) (u := z110) h83_53 xnm0 xnm0 rfl (by omega) (fun w113 hr114 hb115 => ?_)
              have hx116 : okA (fun j => if j = 400 + u103 then z110 else g83_52 j) := hx55.upd (by omega) (by omega) (by omega) (fun _ => by omega) (by omega) (fun _ => by omega) (fun _ => by omega) (fun _ => by omega) (fun _ => by omega) (by omega) (fun _ _ => by omega)
              have hb117 : ∀ j, (fun j => if j = 400 + u103 then z110 else g83_52 j) j ≤ 4294967295 := xrb (by omega) (hb54)
              obtain ⟨g118, hg119⟩ : ∃ g : Nat → Nat, g = (fun j => if j = 400 + u103 then z110 else g83_52 j) := ⟨_, rfl⟩
              rw [← hg119] at hr114
              have he120 : g118 (400 + u103) = z110 := by rw [hg119]; exact if_pos rfl
              have hk121 : ∀ j, j ≠ 400 + u103 → g118 j = g83_52 j := fun j hj => by rw [hg119]; exact if_neg hj
              rw [← hg119] at hx116
              rw [← hg119] at hb117
              have hk122 : g118 15 = g83_52 15 := hk121 15 (by omega)
              refine xg_t (xg_aload (va := (2, 82)) rfl rfl) ?_
              refine xg_t (xg_getf (va := (2, 83)) (hb115.get (by decide) (hF48.get (by decide) h82_31)) rfl) ?_
              refine xg_t (xg_bip) ?_
              refine xg_t (xg_dup2 rfl) ?_
              refine xg_ialdB (n := 15) (B := 4294967295) hr114 (hb117) xnm0 (by first | decide | omega) (fun u123 hu124 he125 => ?_)
              have hl126 : u123 ≤ 500 := by rw [← he125]; exact hx116.l15
              refine xg_t (xg_const) ?_
              refine xg_t (xg_iadd (u := u123) (v := 1) (z := u123 + 1) xnm0 xnm0 (by omega)) ?_
              refine xg_iastK (n := 15) (u := u123 + 1) hr114 xnm0 xnm0 rfl (by first | decide | omega) (fun w127 hr128 hb129 => ?_)
              have hx130 : okA (fun j => if j = 15 then u123 + 1 else g118 j) := hx116.upd (by omega) (by omega) (by omega) (fun _ => by omega) (by omega) (fun _ => by omega) (fun _ => by omega) (fun _ => by omega) (fun _ => by omega) (by omega) (fun _ _ => by omega)
              have hb131 : ∀ j, (fun j => if j = 15 then u123 + 1 else g118 j) j ≤ 4294967295 := xrb (by omega) (hb117)
              obtain ⟨g132, hg133⟩ : ∃ g : Nat → Nat, g = (fun j => if j = 15 then u123 + 1 else g118 j) := ⟨_, rfl⟩
              rw [← hg133] at hr128
              have he134 : g132 15 = u123 + 1 := by rw [hg133]; exact if_pos rfl
              have hk135 : ∀ j, j ≠ 15 → g132 j = g118 j := fun j hj => by rw [hg133]; exact if_neg hj
              rw [← hg133] at hx130
              rw [← hg133] at hb131
              refine xg_t (xg_iinc (u := ii) (z := ii + 1) (l1 := [(7, (0, fb)), (0, (2, 82)), (1, (0, fa)), (2, (0, fb)), (3, (0, fc_)), (4, (0, fd)), (5, (0, fe))]) rfl rfl (by omega) rfl) ?_
              refine xg_t (xg_goto) ?_
              refine xg_t (xg_drop (l1 := [(0, (2, 82)), (1, (0, fa)), (2, (0, fb)), (3, (0, fc_)), (4, (0, fd)), (5, (0, fe)), (6, (0, ii + 1))]) (List.forall_mem_cons.mpr ⟨List.mem_cons_of_mem _ (List.mem_cons_of_mem _ (List.mem_cons_self)), List.forall_mem_cons.mpr ⟨List.mem_cons_of_mem _ (List.mem_cons_of_mem _ (List.mem_cons_of_mem _ (List.mem_cons_self))), List.forall_mem_cons.mpr ⟨List.mem_cons_of_mem _ (List.mem_cons_of_mem _ (List.mem_cons_of_mem _ (List.mem_cons_of_mem _ (List.mem_cons_self)))), List.forall_mem_cons.mpr ⟨List.mem_cons_of_mem _ (List.mem_cons_of_mem _ (List.mem_cons_of_mem _ (List.mem_cons_of_mem _ (List.mem_cons_of_mem _ (List.mem_cons_self))))), List.forall_mem_cons.mpr ⟨List.mem_cons_of_mem _ (List.mem_cons_of_mem _ (List.mem_cons_of_mem _ (List.mem_cons_of_mem _ (List.mem_cons_of_mem _ (List.mem_cons_of_mem _ (List.mem_cons_self)))))), List.forall_mem_cons.mpr ⟨List.mem_cons_of_mem _ (List.mem_cons_of_mem _ (List.mem_cons_of_mem _ (List.mem_cons_of_mem _ (List.mem_cons_of_mem _ (List.mem_cons_of_mem _ (List.mem_cons_of_mem _ (List.mem_cons_self))))))), List.forall_mem_cons.mpr ⟨List.mem_cons_self, fun _ h => absurd h List.not_mem_nil⟩⟩⟩⟩⟩⟩⟩)) ?_
              have hv136 : z110 = fdB fa fb fc_ fd fe ii := by
                unfold fdB
                rw [if_neg (by omega), if_pos (by omega), ← hE112, xland255, ← hE109, xpt_shr (by omega)]
              have hb137 : ∀ i, i < ii + 1 → g132 (400 + g83_33 15 + i) = fdB fa fb fc_ fd fe i := fun i hi => by
                by_cases e : i = ii
                · rw [e, show 400 + g83_33 15 + ii = 400 + u103 by omega, hk135 _ (by omega), he120]
                  exact hv136
                · rw [hk135 _ (by omega), hk121 _ (by omega)]
                  exact hk64 i (by omega)
              exact ih44 (ii + 1) w127 (by omega) (by omega) (xMnv.up (S := [83]) hI47 ((xFr.of (S := [83]) hb115 (by decide)).tr (xFr.of (S := [83]) hb129 (by decide))) (List.forall_mem_cons.mpr ⟨xqu83 (show cpx83 (wget w127 83) from ⟨_, hr128, hb131, hx130⟩), fun _ h => absurd h List.not_mem_nil⟩)) ((hF48.tr ((xFr.of (S := [83]) hb115 (by decide)).tr (xFr.of (S := [83]) hb129 (by decide))))) (⟨_, hr128, by omega, by omega, hb137, fun j hl hj => by rw [hk135 j (by omega), hk121 j (by omega)]; exact hk63 j hl hj⟩)
            · refine xg_t (xg_icT (u := ii) (v := 8) rfl xnm0 xnm0 (xj_geT (by omega) (by omega))) ?_
              refine xg_t (xg_blq rfl) ?_
              refine xg_t (xg_iload (va := (0, ii)) rfl rfl) ?_
              refine xg_t (xg_bip) ?_
              by_cases hc138 : ii < 12
              · refine xg_t (xg_icF (u := ii) (v := 12) rfl xnm0 xnm0 (xj_geF hc138 (by omega))) ?_
                refine xg_t (xg_iload (va := (0, fc_)) rfl rfl) ?_
                refine xg_t (xg_goto) ?_
                refine xg_t (xg_blq rfl) ?_
                refine xg_t (xg_istore (l1 := [(0, (2, 82)), (1, (0, fa)), (2, (0, fb)), (3, (0, fc_)), (4, (0, fd)), (5, (0, fe)), (6, (0, ii))]) rfl rfl rfl) ?_
                refine xg_t (xg_aload (va := (2, 82)) rfl rfl) ?_
                refine xg_t (xg_getf (va := (2, 83)) (hF48.get (by decide) h82_31) rfl) ?_
                refine xg_t (xg_sip) ?_
                refine xg_t (xg_aload (va := (2, 82)) rfl rfl) ?_
                refine xg_t (xg_getf (va := (2, 83)) (hF48.get (by decide) h82_31) rfl) ?_
                refine xg_t (xg_bip) ?_
                refine xg_ialdB (n := 15) (B := 4294967295) h83_53 (hb54) xnm0 (by first | decide | omega) (fun u139 hu140 he141 => ?_)
                have hl142 : u139 ≤ 500 := by rw [← he141]; exact hx55.l15
                refine xg_t (xg_iadd (u := 400) (v := u139) (z := 400 + u139) xnm0 xnm0 (by omega)) ?_
                refine xg_t (xg_iload (va := (0, fc_)) rfl rfl) ?_
                refine xg_t (xg_bip) ?_
                refine xg_t (xg_bip) ?_
                refine xg_t (xg_iload (va := (0, ii)) rfl rfl) ?_
                refine xg_t (xg_const) ?_
                refine xg_t (xg_irem (u := ii) (v := 4) (z := ii % 4) xnm0 xnm0 (by omega) (by decide) (by decide) (rfl)) ?_
                refine xg_t (xg_imul (u := 8) (v := ii % 4) (z := 8 * (ii % 4)) xnm0 xnm0 (by omega)) ?_
                refine xg_t (xg_isub (u := 24) (v := 8 * (ii % 4)) (z := 24 - (8 * (ii % 4))) xnm0 xnm0 (by omega)) ?_
                refine xg_kE (xg_ishrG (u := fc_) (v := 24 - (8 * (ii % 4))) xnm0 xnm0) (xpt_lt _) (fun z143 hz144 hE145 => ?_)
                refine xg_t (xg_sip) ?_
                refine xg_kE (xg_iand (z := Nat.land z143 255) (u := z143) (v := 255) xnm0 xnm0 rfl) (xland_lt (by omega)) (fun z146 hz147 hE148 => ?_)
                refine xg_iastK (n := 400 + u139) (u := z146) h83_53 xnm0 xnm0 rfl (by omega) (fun w149 hr150 hb151 => ?_)
                have hx152 : okA (fun j => if j = 400 + u139 then z146 else g83_52 j) := hx55.upd (by omega) (by omega) (by omega) (fun _ => by omega) (by omega) (fun _ => by omega) (fun _ => by omega) (fun _ => by omega) (fun _ => by omega) (by omega) (fun _ _ => by omega)
                have hb153 : ∀ j, (fun j => if j = 400 + u139 then z146 else g83_52 j) j ≤ 4294967295 := xrb (by omega) (hb54)
                obtain ⟨g154, hg155⟩ : ∃ g : Nat → Nat, g = (fun j => if j = 400 + u139 then z146 else g83_52 j) := ⟨_, rfl⟩
                rw [← hg155] at hr150
                have he156 : g154 (400 + u139) = z146 := by rw [hg155]; exact if_pos rfl
                have hk157 : ∀ j, j ≠ 400 + u139 → g154 j = g83_52 j := fun j hj => by rw [hg155]; exact if_neg hj
                rw [← hg155] at hx152
                rw [← hg155] at hb153
                have hk158 : g154 15 = g83_52 15 := hk157 15 (by omega)
                refine xg_t (xg_aload (va := (2, 82)) rfl rfl) ?_
                refine xg_t (xg_getf (va := (2, 83)) (hb151.get (by decide) (hF48.get (by decide) h82_31)) rfl) ?_
                refine xg_t (xg_bip) ?_
                refine xg_t (xg_dup2 rfl) ?_
                refine xg_ialdB (n := 15) (B := 4294967295) hr150 (hb153) xnm0 (by first | decide | omega) (fun u159 hu160 he161 => ?_)
                have hl162 : u159 ≤ 500 := by rw [← he161]; exact hx152.l15
                refine xg_t (xg_const) ?_
                refine xg_t (xg_iadd (u := u159) (v := 1) (z := u159 + 1) xnm0 xnm0 (by omega)) ?_
                refine xg_iastK (n := 15) (u := u159 + 1) hr150 xnm0 xnm0 rfl (by first | decide | omega) (fun w163 hr164 hb165 => ?_)
                have hx166 : okA (fun j => if j = 15 then u159 + 1 else g154 j) := hx152.upd (by omega) (by omega) (by omega) (fun _ => by omega) (by omega) (fun _ => by omega) (fun _ => by omega) (fun _ => by omega) (fun _ => by omega) (by omega) (fun _ _ => by omega)
                have hb167 : ∀ j, (fun j => if j = 15 then u159 + 1 else g154 j) j ≤ 4294967295 := xrb (by omega) (hb153)
                obtain ⟨g168, hg169⟩ : ∃ g : Nat → Nat, g = (fun j => if j = 15 then u159 + 1 else g154 j) := ⟨_, rfl⟩
                rw [← hg169] at hr164
                have he170 : g168 15 = u159 + 1 := by rw [hg169]; exact if_pos rfl
                have hk171 : ∀ j, j ≠ 15 → g168 j = g154 j := fun j hj => by rw [hg169]; exact if_neg hj
                rw [← hg169] at hx166
                rw [← hg169] at hb167
                refine xg_t (xg_iinc (u := ii) (z := ii + 1) (l1 := [(7, (0, fc_)), (0, (2, 82)), (1, (0, fa)), (2, (0, fb)), (3, (0, fc_)), (4, (0, fd)), (5, (0, fe))]) rfl rfl (by omega) rfl) ?_
                refine xg_t (xg_goto) ?_
                refine xg_t (xg_drop (l1 := [(0, (2, 82)), (1, (0, fa)), (2, (0, fb)), (3, (0, fc_)), (4, (0, fd)), (5, (0, fe)), (6, (0, ii + 1))]) (List.forall_mem_cons.mpr ⟨List.mem_cons_of_mem _ (List.mem_cons_of_mem _ (List.mem_cons_self)), List.forall_mem_cons.mpr ⟨List.mem_cons_of_mem _ (List.mem_cons_of_mem _ (List.mem_cons_of_mem _ (List.mem_cons_self))), List.forall_mem_cons.mpr ⟨List.mem_cons_of_mem _ (List.mem_cons_of_mem _ (List.mem_cons_of_mem _ (List.mem_cons_of_mem _ (List.mem_cons_self)))), List.forall_mem_cons.mpr ⟨List.mem_cons_of_mem _ (List.mem_cons_of_mem _ (List.mem_cons_of_mem _ (List.mem_cons_of_mem _ (List.mem_cons_of_mem _ (List.mem_cons_self))))), List.forall_mem_cons.mpr ⟨List.mem_cons_of_mem _ (List.mem_cons_of_mem _ (List.mem_cons_of_mem _ (List.mem_cons_of_mem _ (List.mem_cons_of_mem _ (List.mem_cons_of_mem _ (List.mem_cons_self)))))), List.forall_mem_cons.mpr ⟨List.mem_cons_of_mem _ (List.mem_cons_of_mem _ (List.mem_cons_of_mem _ (List.mem_cons_of_mem _ (List.mem_cons_of_mem _ (List.mem_cons_of_mem _ (List.mem_cons_of_mem _ (List.mem_cons_self))))))), List.forall_mem_cons.mpr ⟨List.mem_cons_self, fun _ h => absurd h List.not_mem_nil⟩⟩⟩⟩⟩⟩⟩)) ?_
                have hv172 : z146 = fdB fa fb fc_ fd fe ii := by
                  unfold fdB
                  rw [if_neg (by omega), if_neg (by omega), if_pos (by omega), ← hE148, xland255, ← hE145, xpt_shr (by omega)]
                have hb173 : ∀ i, i < ii + 1 → g168 (400 + g83_33 15 + i) = fdB fa fb fc_ fd fe i := fun i hi => by
                  by_cases e : i = ii
                  · rw [e, show 400 + g83_33 15 + ii = 400 + u139 by omega, hk171 _ (by omega), he156]
                    exact hv172
                  · rw [hk171 _ (by omega), hk157 _ (by omega)]
                    exact hk64 i (by omega)
                exact ih44 (ii + 1) w163 (by omega) (by omega) (xMnv.up (S := [83]) hI47 ((xFr.of (S := [83]) hb151 (by decide)).tr (xFr.of (S := [83]) hb165 (by decide))) (List.forall_mem_cons.mpr ⟨xqu83 (show cpx83 (wget w163 83) from ⟨_, hr164, hb167, hx166⟩), fun _ h => absurd h List.not_mem_nil⟩)) ((hF48.tr ((xFr.of (S := [83]) hb151 (by decide)).tr (xFr.of (S := [83]) hb165 (by decide))))) (⟨_, hr164, by omega, by omega, hb173, fun j hl hj => by rw [hk171 j (by omega), hk157 j (by omega)]; exact hk63 j hl hj⟩)
              · refine xg_t (xg_icT (u := ii) (v := 12) rfl xnm0 xnm0 (xj_geT (by omega) (by omega))) ?_
                refine xg_t (xg_blq rfl) ?_
                refine xg_t (xg_iload (va := (0, ii)) rfl rfl) ?_
                refine xg_t (xg_bip) ?_
                by_cases hc174 : ii < 16
                · refine xg_t (xg_icF (u := ii) (v := 16) rfl xnm0 xnm0 (xj_geF hc174 (by omega))) ?_
                  refine xg_t (xg_iload (va := (0, fd)) rfl rfl) ?_
                  refine xg_t (xg_goto) ?_
                  refine xg_t (xg_blq rfl) ?_
                  refine xg_t (xg_istore (l1 := [(0, (2, 82)), (1, (0, fa)), (2, (0, fb)), (3, (0, fc_)), (4, (0, fd)), (5, (0, fe)), (6, (0, ii))]) rfl rfl rfl) ?_
                  refine xg_t (xg_aload (va := (2, 82)) rfl rfl) ?_
                  refine xg_t (xg_getf (va := (2, 83)) (hF48.get (by decide) h82_31) rfl) ?_
                  refine xg_t (xg_sip) ?_
                  refine xg_t (xg_aload (va := (2, 82)) rfl rfl) ?_
                  refine xg_t (xg_getf (va := (2, 83)) (hF48.get (by decide) h82_31) rfl) ?_
                  refine xg_t (xg_bip) ?_
                  refine xg_ialdB (n := 15) (B := 4294967295) h83_53 (hb54) xnm0 (by first | decide | omega) (fun u175 hu176 he177 => ?_)
                  have hl178 : u175 ≤ 500 := by rw [← he177]; exact hx55.l15
                  refine xg_t (xg_iadd (u := 400) (v := u175) (z := 400 + u175) xnm0 xnm0 (by omega)) ?_
                  refine xg_t (xg_iload (va := (0, fd)) rfl rfl) ?_
                  refine xg_t (xg_bip) ?_
                  refine xg_t (xg_bip) ?_
                  refine xg_t (xg_iload (va := (0, ii)) rfl rfl) ?_
                  refine xg_t (xg_const) ?_
                  refine xg_t (xg_irem (u := ii) (v := 4) (z := ii % 4) xnm0 xnm0 (by omega) (by decide) (by decide) (rfl)) ?_
                  refine xg_t (xg_imul (u := 8) (v := ii % 4) (z := 8 * (ii % 4)) xnm0 xnm0 (by omega)) ?_
                  refine xg_t (xg_isub (u := 24) (v := 8 * (ii % 4)) (z := 24 - (8 * (ii % 4))) xnm0 xnm0 (by omega)) ?_
                  refine xg_kE (xg_ishrG (u := fd) (v := 24 - (8 * (ii % 4))) xnm0 xnm0) (xpt_lt _) (fun z179 hz180 hE181 => ?_)
                  refine xg_t (xg_sip) ?_
                  refine xg_kE (xg_iand (z := Nat.land z179 255) (u := z179) (v := 255) xnm0 xnm0 rfl) (xland_lt (by omega)) (fun z182 hz183 hE184 => ?_)
                  refine xg_iastK (n := 400 + u175) (u := z182) h83_53 xnm0 xnm0 rfl (by omega) (fun w185 hr186 hb187 => ?_)
                  have hx188 : okA (fun j => if j = 400 + u175 then z182 else g83_52 j) := hx55.upd (by omega) (by omega) (by omega) (fun _ => by omega) (by omega) (fun _ => by omega) (fun _ => by omega) (fun _ => by omega) (fun _ => by omega) (by omega) (fun _ _ => by omega)
                  have hb189 : ∀ j, (fun j => if j = 400 + u175 then z182 else g83_52 j) j ≤ 4294967295 := xrb (by omega) (hb54)
                  obtain ⟨g190, hg191⟩ : ∃ g : Nat → Nat, g = (fun j => if j = 400 + u175 then z182 else g83_52 j) := ⟨_, rfl⟩
                  rw [← hg191] at hr186
                  have he192 : g190 (400 + u175) = z182 := by rw [hg191]; exact if_pos rfl
                  have hk193 : ∀ j, j ≠ 400 + u175 → g190 j = g83_52 j := fun j hj => by rw [hg191]; exact if_neg hj
                  rw [← hg191] at hx188
                  rw [← hg191] at hb189
                  have hk194 : g190 15 = g83_52 15 := hk193 15 (by omega)
                  refine xg_t (xg_aload (va := (2, 82)) rfl rfl) ?_
                  refine xg_t (xg_getf (va := (2, 83)) (hb187.get (by decide) (hF48.get (by decide) h82_31)) rfl) ?_
                  refine xg_t (xg_bip) ?_
                  refine xg_t (xg_dup2 rfl) ?_
                  refine xg_ialdB (n := 15) (B := 4294967295) hr186 (hb189) xnm0 (by first | decide | omega) (fun u195 hu196 he197 => ?_)
                  have hl198 : u195 ≤ 500 := by rw [← he197]; exact hx188.l15
                  refine xg_t (xg_const) ?_
                  refine xg_t (xg_iadd (u := u195) (v := 1) (z := u195 + 1) xnm0 xnm0 (by omega)) ?_
                  refine xg_iastK (n := 15) (u := u195 + 1) hr186 xnm0 xnm0 rfl (by first | decide | omega) (fun w199 hr200 hb201 => ?_)
                  have hx202 : okA (fun j => if j = 15 then u195 + 1 else g190 j) := hx188.upd (by omega) (by omega) (by omega) (fun _ => by omega) (by omega) (fun _ => by omega) (fun _ => by omega) (fun _ => by omega) (fun _ => by omega) (by omega) (fun _ _ => by omega)
                  have hb203 : ∀ j, (fun j => if j = 15 then u195 + 1 else g190 j) j ≤ 4294967295 := xrb (by omega) (hb189)
                  obtain ⟨g204, hg205⟩ : ∃ g : Nat → Nat, g = (fun j => if j = 15 then u195 + 1 else g190 j) := ⟨_, rfl⟩
                  rw [← hg205] at hr200
                  have he206 : g204 15 = u195 + 1 := by rw [hg205]; exact if_pos rfl
                  have hk207 : ∀ j, j ≠ 15 → g204 j = g190 j := fun j hj => by rw [hg205]; exact if_neg hj
                  rw [← hg205] at hx202
                  rw [← hg205] at hb203
                  refine xg_t (xg_iinc (u := ii) (z := ii + 1) (l1 := [(7, (0, fd)), (0, (2, 82)), (1, (0, fa)), (2, (0, fb)), (3, (0, fc_)), (4, (0, fd)), (5, (0, fe))]) rfl rfl (by omega) rfl) ?_
                  refine xg_t (xg_goto) ?_
                  refine xg_t (xg_drop (l1 := [(0, (2, 82)), (1, (0, fa)), (2, (0, fb)), (3, (0, fc_)), (4, (0, fd)), (5, (0, fe)), (6, (0, ii + 1))]) (List.forall_mem_cons.mpr ⟨List.mem_cons_of_mem _ (List.mem_cons_of_mem _ (List.mem_cons_self)), List.forall_mem_cons.mpr ⟨List.mem_cons_of_mem _ (List.mem_cons_of_mem _ (List.mem_cons_of_mem _ (List.mem_cons_self))), List.forall_mem_cons.mpr ⟨List.mem_cons_of_mem _ (List.mem_cons_of_mem _ (List.mem_cons_of_mem _ (List.mem_cons_of_mem _ (List.mem_cons_self)))), List.forall_mem_cons.mpr ⟨List.mem_cons_of_mem _ (List.mem_cons_of_mem _ (List.mem_cons_of_mem _ (List.mem_cons_of_mem _ (List.mem_cons_of_mem _ (List.mem_cons_self))))), List.forall_mem_cons.mpr ⟨List.mem_cons_of_mem _ (List.mem_cons_of_mem _ (List.mem_cons_of_mem _ (List.mem_cons_of_mem _ (List.mem_cons_of_mem _ (List.mem_cons_of_mem _ (List.mem_cons_self)))))), List.forall_mem_cons.mpr ⟨List.mem_cons_of_mem _ (List.mem_cons_of_mem _ (List.mem_cons_of_mem _ (List.mem_cons_of_mem _ (List.mem_cons_of_mem _ (List.mem_cons_of_mem _ (List.mem_cons_of_mem _ (List.mem_cons_self))))))), List.forall_mem_cons.mpr ⟨List.mem_cons_self, fun _ h => absurd h List.not_mem_nil⟩⟩⟩⟩⟩⟩⟩)) ?_
                  have hv208 : z182 = fdB fa fb fc_ fd fe ii := by
                    unfold fdB
                    rw [if_neg (by omega), if_neg (by omega), if_neg (by omega), if_pos (by omega), ← hE184, xland255, ← hE181, xpt_shr (by omega)]
                  have hb209 : ∀ i, i < ii + 1 → g204 (400 + g83_33 15 + i) = fdB fa fb fc_ fd fe i := fun i hi => by
                    by_cases e : i = ii
                    · rw [e, show 400 + g83_33 15 + ii = 400 + u175 by omega, hk207 _ (by omega), he192]
                      exact hv208
                    · rw [hk207 _ (by omega), hk193 _ (by omega)]
                      exact hk64 i (by omega)
                  exact ih44 (ii + 1) w199 (by omega) (by omega) (xMnv.up (S := [83]) hI47 ((xFr.of (S := [83]) hb187 (by decide)).tr (xFr.of (S := [83]) hb201 (by decide))) (List.forall_mem_cons.mpr ⟨xqu83 (show cpx83 (wget w199 83) from ⟨_, hr200, hb203, hx202⟩), fun _ h => absurd h List.not_mem_nil⟩)) ((hF48.tr ((xFr.of (S := [83]) hb187 (by decide)).tr (xFr.of (S := [83]) hb201 (by decide))))) (⟨_, hr200, by omega, by omega, hb209, fun j hl hj => by rw [hk207 j (by omega), hk193 j (by omega)]; exact hk63 j hl hj⟩)
                · refine xg_t (xg_icT (u := ii) (v := 16) rfl xnm0 xnm0 (xj_geT (by omega) (by omega))) ?_
                  refine xg_t (xg_blq rfl) ?_
                  refine xg_t (xg_iload (va := (0, fe)) rfl rfl) ?_
                  refine xg_t (xg_blq rfl) ?_
                  refine xg_t (xg_istore (l1 := [(0, (2, 82)), (1, (0, fa)), (2, (0, fb)), (3, (0, fc_)), (4, (0, fd)), (5, (0, fe)), (6, (0, ii))]) rfl rfl rfl) ?_
                  refine xg_t (xg_aload (va := (2, 82)) rfl rfl) ?_
                  refine xg_t (xg_getf (va := (2, 83)) (hF48.get (by decide) h82_31) rfl) ?_
                  refine xg_t (xg_sip) ?_
                  refine xg_t (xg_aload (va := (2, 82)) rfl rfl) ?_
                  refine xg_t (xg_getf (va := (2, 83)) (hF48.get (by decide) h82_31) rfl) ?_
                  refine xg_t (xg_bip) ?_
                  refine xg_ialdB (n := 15) (B := 4294967295) h83_53 (hb54) xnm0 (by first | decide | omega) (fun u210 hu211 he212 => ?_)
                  have hl213 : u210 ≤ 500 := by rw [← he212]; exact hx55.l15
                  refine xg_t (xg_iadd (u := 400) (v := u210) (z := 400 + u210) xnm0 xnm0 (by omega)) ?_
                  refine xg_t (xg_iload (va := (0, fe)) rfl rfl) ?_
                  refine xg_t (xg_bip) ?_
                  refine xg_t (xg_bip) ?_
                  refine xg_t (xg_iload (va := (0, ii)) rfl rfl) ?_
                  refine xg_t (xg_const) ?_
                  refine xg_t (xg_irem (u := ii) (v := 4) (z := ii % 4) xnm0 xnm0 (by omega) (by decide) (by decide) (rfl)) ?_
                  refine xg_t (xg_imul (u := 8) (v := ii % 4) (z := 8 * (ii % 4)) xnm0 xnm0 (by omega)) ?_
                  refine xg_t (xg_isub (u := 24) (v := 8 * (ii % 4)) (z := 24 - (8 * (ii % 4))) xnm0 xnm0 (by omega)) ?_
                  refine xg_kE (xg_ishrG (u := fe) (v := 24 - (8 * (ii % 4))) xnm0 xnm0) (xpt_lt _) (fun z214 hz215 hE216 => ?_)
                  refine xg_t (xg_sip) ?_
                  refine xg_kE (xg_iand (z := Nat.land z214 255) (u := z214) (v := 255) xnm0 xnm0 rfl) (xland_lt (by omega)) (fun z217 hz218 hE219 => ?_)
                  refine xg_iastK (n := 400 + u210) (u := z217) h83_53 xnm0 xnm0 rfl (by omega) (fun w220 hr221 hb222 => ?_)
                  have hx223 : okA (fun j => if j = 400 + u210 then z217 else g83_52 j) := hx55.upd (by omega) (by omega) (by omega) (fun _ => by omega) (by omega) (fun _ => by omega) (fun _ => by omega) (fun _ => by omega) (fun _ => by omega) (by omega) (fun _ _ => by omega)
                  have hb224 : ∀ j, (fun j => if j = 400 + u210 then z217 else g83_52 j) j ≤ 4294967295 := xrb (by omega) (hb54)
                  obtain ⟨g225, hg226⟩ : ∃ g : Nat → Nat, g = (fun j => if j = 400 + u210 then z217 else g83_52 j) := ⟨_, rfl⟩
                  rw [← hg226] at hr221
                  have he227 : g225 (400 + u210) = z217 := by rw [hg226]; exact if_pos rfl
                  have hk228 : ∀ j, j ≠ 400 + u210 → g225 j = g83_52 j := fun j hj => by rw [hg226]; exact if_neg hj
                  rw [← hg226] at hx223
                  rw [← hg226] at hb224
                  have hk229 : g225 15 = g83_52 15 := hk228 15 (by omega)
                  refine xg_t (xg_aload (va := (2, 82)) rfl rfl) ?_
                  refine xg_t (xg_getf (va := (2, 83)) (hb222.get (by decide) (hF48.get (by decide) h82_31)) rfl) ?_
                  refine xg_t (xg_bip) ?_
                  refine xg_t (xg_dup2 rfl) ?_
                  refine xg_ialdB (n := 15) (B := 4294967295) hr221 (hb224) xnm0 (by first | decide | omega) (fun u230 hu231 he232 => ?_)
                  have hl233 : u230 ≤ 500 := by rw [← he232]; exact hx223.l15
                  refine xg_t (xg_const) ?_
                  refine xg_t (xg_iadd (u := u230) (v := 1) (z := u230 + 1) xnm0 xnm0 (by omega)) ?_
                  refine xg_iastK (n := 15) (u := u230 + 1) hr221 xnm0 xnm0 rfl (by first | decide | omega) (fun w234 hr235 hb236 => ?_)
                  have hx237 : okA (fun j => if j = 15 then u230 + 1 else g225 j) := hx223.upd (by omega) (by omega) (by omega) (fun _ => by omega) (by omega) (fun _ => by omega) (fun _ => by omega) (fun _ => by omega) (fun _ => by omega) (by omega) (fun _ _ => by omega)
                  have hb238 : ∀ j, (fun j => if j = 15 then u230 + 1 else g225 j) j ≤ 4294967295 := xrb (by omega) (hb224)
                  obtain ⟨g239, hg240⟩ : ∃ g : Nat → Nat, g = (fun j => if j = 15 then u230 + 1 else g225 j) := ⟨_, rfl⟩
                  rw [← hg240] at hr235
                  have he241 : g239 15 = u230 + 1 := by rw [hg240]; exact if_pos rfl
                  have hk242 : ∀ j, j ≠ 15 → g239 j = g225 j := fun j hj => by rw [hg240]; exact if_neg hj
                  rw [← hg240] at hx237
                  rw [← hg240] at hb238
                  refine xg_t (xg_iinc (u := ii) (z := ii + 1) (l1 := [(7, (0, fe)), (0, (2, 82)), (1, (0, fa)), (2, (0, fb)), (3, (0, fc_)), (4, (0, fd)), (5, (0, fe))]) rfl rfl (by omega) rfl) ?_
                  refine xg_t (xg_goto) ?_
                  refine xg_t (xg_drop (l1 := [(0, (2, 82)), (1, (0, fa)), (2, (0, fb)), (3, (0, fc_)), (4, (0, fd)), (5, (0, fe)), (6, (0, ii + 1))]) (List.forall_mem_cons.mpr ⟨List.mem_cons_of_mem _ (List.mem_cons_of_mem _ (List.mem_cons_self)), List.forall_mem_cons.mpr ⟨List.mem_cons_of_mem _ (List.mem_cons_of_mem _ (List.mem_cons_of_mem _ (List.mem_cons_self))), List.forall_mem_cons.mpr ⟨List.mem_cons_of_mem _ (List.mem_cons_of_mem _ (List.mem_cons_of_mem _ (List.mem_cons_of_mem _ (List.mem_cons_self)))), List.forall_mem_cons.mpr ⟨List.mem_cons_of_mem _ (List.mem_cons_of_mem _ (List.mem_cons_of_mem _ (List.mem_cons_of_mem _ (List.mem_cons_of_mem _ (List.mem_cons_self))))), List.forall_mem_cons.mpr ⟨List.mem_cons_of_mem _ (List.mem_cons_of_mem _ (List.mem_cons_of_mem _ (List.mem_cons_of_mem _ (List.mem_cons_of_mem _ (List.mem_cons_of_mem _ (List.mem_cons_self)))))), List.forall_mem_cons.mpr ⟨List.mem_cons_of_mem _ (List.mem_cons_of_mem _ (List.mem_cons_of_mem _ (List.mem_cons_of_mem _ (List.mem_cons_of_mem _ (List.mem_cons_of_mem _ (List.mem_cons_of_mem _ (List.mem_cons_self))))))), List.forall_mem_cons.mpr ⟨List.mem_cons_self, fun _ h => absurd h List.not_mem_nil⟩⟩⟩⟩⟩⟩⟩)) ?_
                  have hv243 : z217 = fdB fa fb fc_ fd fe ii := by
                    unfold fdB
                    rw [if_neg (by omega), if_neg (by omega), if_neg (by omega), if_neg (by omega), ← hE219, xland255, ← hE216, xpt_shr (by omega)]
                  have hb244 : ∀ i, i < ii + 1 → g239 (400 + g83_33 15 + i) = fdB fa fb fc_ fd fe i := fun i hi => by
                    by_cases e : i = ii
                    · rw [e, show 400 + g83_33 15 + ii = 400 + u210 by omega, hk242 _ (by omega), he227]
                      exact hv243
                    · rw [hk242 _ (by omega), hk228 _ (by omega)]
                      exact hk64 i (by omega)
                  exact ih44 (ii + 1) w234 (by omega) (by omega) (xMnv.up (S := [83]) hI47 ((xFr.of (S := [83]) hb222 (by decide)).tr (xFr.of (S := [83]) hb236 (by decide))) (List.forall_mem_cons.mpr ⟨xqu83 (show cpx83 (wget w234 83) from ⟨_, hr235, hb238, hx237⟩), fun _ h => absurd h List.not_mem_nil⟩)) ((hF48.tr ((xFr.of (S := [83]) hb222 (by decide)).tr (xFr.of (S := [83]) hb236 (by decide))))) (⟨_, hr235, by omega, by omega, hb244, fun j hl hj => by rw [hk242 j (by omega), hk228 j (by omega)]; exact hk63 j hl hj⟩)
        · refine xg_t (xg_icT (u := ii) (v := 20) rfl xnm0 xnm0 (xj_geT (by omega) (by omega))) ?_
          refine xg_t (xg_blq rfl) ?_
          refine xg_t (xg_aload (va := (2, 82)) rfl rfl) ?_
          refine xg_t (xg_getf (va := (2, 83)) (hF48.get (by decide) h82_31) rfl) ?_
          refine xg_t (xg_bip) ?_
          refine xg_ialdB (n := 15) (B := 4294967295) h83_53 (hb54) xnm0 (by first | decide | omega) (fun u245 hu246 he247 => ?_)
          have hl248 : u245 ≤ 500 := by rw [← he247]; exact hx55.l15
          have hq249 : rwv w 83 15 = g83_33 15 := rwv_of h83_34 (by decide)
          have hq250 : rwv w46 83 15 = g83_52 15 := rwv_of h83_53 (by decide)
          exact xg_e ⟨u245, w46, ⟨rfl, rfl⟩, ⟨Or.inl ⟨by omega, by omega, by omega, fun i hi => (rwv_of h83_53 (by omega)).trans (by rw [show rwv w 83 15 = g83_33 15 by omega]; exact hk64 i (by omega))⟩, fun j h hj => (rwv_of h83_53 h).trans ((hk63 j h (by omega)).trans (rwv_of h83_34 h).symm)⟩, hI47, hF48⟩
    exact key43 _ 0 w (Nat.lt_succ_self _) (by omega) (hI) (xFr.rf) (⟨_, h83_34, by omega, by omega, fun i hi => absurd hi (Nat.not_lt_zero _), fun j _ _ => rfl⟩)
end XFDM
end
section
/-! the class: the whole text of a film -/
section XFCE
variable {B : Nat → Nat} {n k : Nat} {w w' : List (List xE)}
noncomputable def XF (w : List (List xE)) : Nat → Nat → Nat → Nat := fun s m t => if s = 0 then rwv w 5 (4 * m + t) else if s = 1 then rwv w 7 (2 * m + t) else if s = 2 then rwv w 9 (2 * m + t) else if s = 3 then rwv w 11 (3 * m + t) else if s = 4 then rwv w 13 (2 * m + t) else if s = 5 then fld w 3 (5 + t) else if s = 6 then fld w 3 (7 + t) else 0
/-- the film told is that of k lines -/
def FLM (B : Nat → Nat) (n : Nat) (w : List (List xE)) (k : Nat) : Prop := (fld w 4 3 = lnC B n 0 k ∧ fld w 6 3 = lnC B n 1 k ∧ fld w 8 3 = lnC B n 2 k ∧ fld w 10 3 = lnC B n 3 k ∧ fld w 12 3 = lnC B n 4 k ∧ fld w 3 9 = k ∧ (flA B n k).1 = 0) ∧ RCN B n k (XF w)
theorem nin27 {c : Nat} (h : c < 27) : c ∉ [27, 28, 29, 30, 31, 32, 33, 34, 35, 36, 37, 38, 39, 40, 41, 42] := fun z => by
  have q : ∀ x ∈ [27, 28, 29, 30, 31, 32, 33, 34, 35, 36, 37, 38, 39, 40, 41, 42], 27 ≤ x := by decide
  exact absurd (q c z) (by omega)
theorem nin313 {c : Nat} (h : 18 ≤ c) : c ∉ [3, 4, 5, 6, 7, 8, 9, 10, 11, 12, 13] := fun z => by
  have q : ∀ x ∈ [3, 4, 5, 6, 7, 8, 9, 10, 11, 12, 13], x < 18 := by decide
  exact absurd (q c z) (by omega)
theorem nin27s {c : Nat} (h : c < 27) : c ∉ [27] := fun z => by
  have q := List.mem_singleton.mp z
  omega
theorem nin42s {c : Nat} (h : c < 27) : c ∉ [42] := fun z => by
  have q := List.mem_singleton.mp z
  omega
theorem nin27d {c : Nat} (h : c < 27) : c ∉ [28, 29, 31, 33, 35, 37] := fun z => by
  have q : ∀ x ∈ [28, 29, 31, 33, 35, 37], 27 ≤ x := by decide
  exact absurd (q c z) (by omega)
theorem FLM.cp {wd : List (List xE)} (hE : fmE w' 3 wd 28) (z0 : fld wd 29 3 = lnC B n 0 k) (z1 : fld wd 31 3 = lnC B n 1 k) (z2 : fld wd 33 3 = lnC B n 2 k) (z3 : fld wd 35 3 = lnC B n 3 k) (z4 : fld wd 37 3 = lnC B n 4 k) (hR : RCN B n k (XC wd)) (h0 : (flA B n k).1 = 0) (hl : fld wd 28 9 = k) : FLM B n w' k := by
  obtain ⟨⟨e5, e6, e7, e8, e9⟩, ⟨r1, q1⟩, ⟨r2, q2⟩, ⟨r3, q3⟩, ⟨r4, q4⟩, ⟨r5, q5⟩⟩ := hE
  have r1 : fld w' 4 3 = fld wd 29 3 := r1
  have q1 : ∀ j, j < fld wd 29 3 * 4 → rwv w' 5 j = rwv wd 30 j := q1
  have r2 : fld w' 6 3 = fld wd 31 3 := r2
  have q2 : ∀ j, j < fld wd 31 3 * 2 → rwv w' 7 j = rwv wd 32 j := q2
  have r3 : fld w' 8 3 = fld wd 33 3 := r3
  have q3 : ∀ j, j < fld wd 33 3 * 2 → rwv w' 9 j = rwv wd 34 j := q3
  have r4 : fld w' 10 3 = fld wd 35 3 := r4
  have q4 : ∀ j, j < fld wd 35 3 * 3 → rwv w' 11 j = rwv wd 36 j := q4
  have r5 : fld w' 12 3 = fld wd 37 3 := r5
  have q5 : ∀ j, j < fld wd 37 3 * 2 → rwv w' 13 j = rwv wd 38 j := q5
  refine ⟨⟨r1.trans z0, r2.trans z1, r3.trans z2, r4.trans z3, r5.trans z4, e9.trans hl, h0⟩, hR.cg (fun s m t hm ht => ?_) (fun s h56 => ?_)⟩
  · unfold XF XC
    by_cases x0 : s = 0
    · subst x0
      rw [if_pos rfl, if_pos rfl]
      have ht : t < 4 := ht
      exact q1 _ (by omega)
    by_cases x1 : s = 1
    · subst x1
      rw [if_neg (show ¬ 1 = 0 by decide), if_neg (show ¬ 1 = 0 by decide), if_pos rfl, if_pos rfl]
      have ht : t < 2 := ht
      exact q2 _ (by omega)
    by_cases x2 : s = 2
    · subst x2
      rw [if_neg (show ¬ 2 = 0 by decide), if_neg (show ¬ 2 = 0 by decide), if_neg (show ¬ 2 = 1 by decide), if_neg (show ¬ 2 = 1 by decide), if_pos rfl, if_pos rfl]
      have ht : t < 2 := ht
      exact q3 _ (by omega)
    by_cases x3 : s = 3
    · subst x3
      rw [if_neg (show ¬ 3 = 0 by decide), if_neg (show ¬ 3 = 0 by decide), if_neg (show ¬ 3 = 1 by decide), if_neg (show ¬ 3 = 1 by decide), if_neg (show ¬ 3 = 2 by decide), if_neg (show ¬ 3 = 2 by decide), if_pos rfl, if_pos rfl]
      have ht : t < 3 := ht
      exact q4 _ (by omega)
    by_cases x4 : s = 4
    · subst x4
      rw [if_neg (show ¬ 4 = 0 by decide), if_neg (show ¬ 4 = 0 by decide), if_neg (show ¬ 4 = 1 by decide), if_neg (show ¬ 4 = 1 by decide), if_neg (show ¬ 4 = 2 by decide), if_neg (show ¬ 4 = 2 by decide), if_neg (show ¬ 4 = 3 by decide), if_neg (show ¬ 4 = 3 by decide), if_pos rfl, if_pos rfl]
      have ht : t < 2 := ht
      exact q5 _ (by omega)
    by_cases x5 : s = 5
    · subst x5
      rw [if_neg (show ¬ 5 = 0 by decide), if_neg (show ¬ 5 = 0 by decide), if_neg (show ¬ 5 = 1 by decide), if_neg (show ¬ 5 = 1 by decide), if_neg (show ¬ 5 = 2 by decide), if_neg (show ¬ 5 = 2 by decide), if_neg (show ¬ 5 = 3 by decide), if_neg (show ¬ 5 = 3 by decide), if_neg (show ¬ 5 = 4 by decide), if_neg (show ¬ 5 = 4 by decide), if_pos rfl, if_pos rfl]
      rcases (show t = 0 ∨ t = 1 by have ht : t < 2 := ht; omega) with rfl | rfl
      · exact e5
      · exact e6
    by_cases x6 : s = 6
    · subst x6
      rw [if_neg (show ¬ 6 = 0 by decide), if_neg (show ¬ 6 = 0 by decide), if_neg (show ¬ 6 = 1 by decide), if_neg (show ¬ 6 = 1 by decide), if_neg (show ¬ 6 = 2 by decide), if_neg (show ¬ 6 = 2 by decide), if_neg (show ¬ 6 = 3 by decide), if_neg (show ¬ 6 = 3 by decide), if_neg (show ¬ 6 = 4 by decide), if_neg (show ¬ 6 = 4 by decide), if_neg (show ¬ 6 = 5 by decide), if_neg (show ¬ 6 = 5 by decide), if_pos rfl, if_pos rfl]
      rcases (show t = 0 ∨ t = 1 by have ht : t < 2 := ht; omega) with rfl | rfl
      · exact e7
      · exact e8
    · rw [if_neg x0, if_neg x0, if_neg x1, if_neg x1, if_neg x2, if_neg x2, if_neg x3, if_neg x3, if_neg x4, if_neg x4, if_neg x5, if_neg x5, if_neg x6, if_neg x6]
  · unfold XF XC
    rcases h56 with rfl | rfl
    · rw [if_neg (show ¬ 5 = 0 by decide), if_neg (show ¬ 5 = 1 by decide), if_neg (show ¬ 5 = 2 by decide), if_neg (show ¬ 5 = 3 by decide), if_neg (show ¬ 5 = 4 by decide), if_pos rfl, if_neg (show ¬ 5 = 0 by decide), if_neg (show ¬ 5 = 1 by decide), if_neg (show ¬ 5 = 2 by decide), if_neg (show ¬ 5 = 3 by decide), if_neg (show ¬ 5 = 4 by decide), if_pos rfl, if_neg (show ¬ 5 = 0 by decide), if_neg (show ¬ 5 = 1 by decide), if_neg (show ¬ 5 = 2 by decide), if_neg (show ¬ 5 = 3 by decide), if_neg (show ¬ 5 = 4 by decide), if_pos rfl, if_neg (show ¬ 5 = 0 by decide), if_neg (show ¬ 5 = 1 by decide), if_neg (show ¬ 5 = 2 by decide), if_neg (show ¬ 5 = 3 by decide), if_neg (show ¬ 5 = 4 by decide), if_pos rfl]
      exact ⟨e5, e6⟩
    · rw [if_neg (show ¬ 6 = 0 by decide), if_neg (show ¬ 6 = 1 by decide), if_neg (show ¬ 6 = 2 by decide), if_neg (show ¬ 6 = 3 by decide), if_neg (show ¬ 6 = 4 by decide), if_neg (show ¬ 6 = 5 by decide), if_pos rfl, if_neg (show ¬ 6 = 0 by decide), if_neg (show ¬ 6 = 1 by decide), if_neg (show ¬ 6 = 2 by decide), if_neg (show ¬ 6 = 3 by decide), if_neg (show ¬ 6 = 4 by decide), if_neg (show ¬ 6 = 5 by decide), if_pos rfl, if_neg (show ¬ 6 = 0 by decide), if_neg (show ¬ 6 = 1 by decide), if_neg (show ¬ 6 = 2 by decide), if_neg (show ¬ 6 = 3 by decide), if_neg (show ¬ 6 = 4 by decide), if_neg (show ¬ 6 = 5 by decide), if_pos rfl, if_neg (show ¬ 6 = 0 by decide), if_neg (show ¬ 6 = 1 by decide), if_neg (show ¬ 6 = 2 by decide), if_neg (show ¬ 6 = 3 by decide), if_neg (show ¬ 6 = 4 by decide), if_neg (show ¬ 6 = 5 by decide), if_pos rfl]
      exact ⟨e7, e8⟩
theorem CST.w28 (h : CST B n w k) (hb : xBut 28 w w') (e5 : fld w' 28 5 = fld w 28 5) (e6 : fld w' 28 6 = fld w 28 6) (e7 : fld w' 28 7 = fld w 28 7) (e8 : fld w' 28 8 = fld w 28 8) : CST B n w' k := by
  unfold CST
  rw [fld_but hb (show 27 ≠ 28 by decide), fld_but hb (show 27 ≠ 28 by decide), fld_but hb (show 29 ≠ 28 by decide), fld_but hb (show 31 ≠ 28 by decide), fld_but hb (show 33 ≠ 28 by decide), fld_but hb (show 35 ≠ 28 by decide), fld_but hb (show 37 ≠ 28 by decide), fld_but hb (show 27 ≠ 28 by decide), fld_but hb (show 27 ≠ 28 by decide)]
  refine ⟨h.1, h.2.1, fun h0 => ?_⟩
  obtain ⟨hz, hR, hP⟩ := h.2.2 h0
  refine ⟨hz, hR.cg (fun s m t hm ht => ?_) (fun s h56 => ?_), fun i hi hs => (rwv_eq (hb.1 41 (by decide))).trans (hP i hi hs)⟩
  · unfold XC
    rw [rwv_eq (hb.1 30 (by decide)), rwv_eq (hb.1 32 (by decide)), rwv_eq (hb.1 34 (by decide)), rwv_eq (hb.1 36 (by decide)), rwv_eq (hb.1 38 (by decide))]
    by_cases x5 : s = 5
    · subst x5
      rcases (show t = 0 ∨ t = 1 by have ht : t < 2 := ht; omega) with rfl | rfl
      · rw [if_neg (show ¬ 5 = 0 by decide), if_neg (show ¬ 5 = 0 by decide), if_neg (show ¬ 5 = 1 by decide), if_neg (show ¬ 5 = 1 by decide), if_neg (show ¬ 5 = 2 by decide), if_neg (show ¬ 5 = 2 by decide), if_neg (show ¬ 5 = 3 by decide), if_neg (show ¬ 5 = 3 by decide), if_neg (show ¬ 5 = 4 by decide), if_neg (show ¬ 5 = 4 by decide), if_pos rfl, if_pos rfl]
        exact e5
      · rw [if_neg (show ¬ 5 = 0 by decide), if_neg (show ¬ 5 = 0 by decide), if_neg (show ¬ 5 = 1 by decide), if_neg (show ¬ 5 = 1 by decide), if_neg (show ¬ 5 = 2 by decide), if_neg (show ¬ 5 = 2 by decide), if_neg (show ¬ 5 = 3 by decide), if_neg (show ¬ 5 = 3 by decide), if_neg (show ¬ 5 = 4 by decide), if_neg (show ¬ 5 = 4 by decide), if_pos rfl, if_pos rfl]
        exact e6
    · by_cases x6 : s = 6
      · subst x6
        rcases (show t = 0 ∨ t = 1 by have ht : t < 2 := ht; omega) with rfl | rfl
        · rw [if_neg (show ¬ 6 = 0 by decide), if_neg (show ¬ 6 = 0 by decide), if_neg (show ¬ 6 = 1 by decide), if_neg (show ¬ 6 = 1 by decide), if_neg (show ¬ 6 = 2 by decide), if_neg (show ¬ 6 = 2 by decide), if_neg (show ¬ 6 = 3 by decide), if_neg (show ¬ 6 = 3 by decide), if_neg (show ¬ 6 = 4 by decide), if_neg (show ¬ 6 = 4 by decide), if_neg (show ¬ 6 = 5 by decide), if_neg (show ¬ 6 = 5 by decide), if_pos rfl, if_pos rfl]
          exact e7
        · rw [if_neg (show ¬ 6 = 0 by decide), if_neg (show ¬ 6 = 0 by decide), if_neg (show ¬ 6 = 1 by decide), if_neg (show ¬ 6 = 1 by decide), if_neg (show ¬ 6 = 2 by decide), if_neg (show ¬ 6 = 2 by decide), if_neg (show ¬ 6 = 3 by decide), if_neg (show ¬ 6 = 3 by decide), if_neg (show ¬ 6 = 4 by decide), if_neg (show ¬ 6 = 4 by decide), if_neg (show ¬ 6 = 5 by decide), if_neg (show ¬ 6 = 5 by decide), if_pos rfl, if_pos rfl]
          exact e8
      · rw [if_neg x5, if_neg x5, if_neg x6, if_neg x6]
  · unfold XC
    rcases h56 with rfl | rfl
    · exact ⟨e5, e6⟩
    · exact ⟨e7, e8⟩
theorem CST.fl9 (h : CST B n w k) (h0 : (flA B n k).1 = 0) : ∀ j, j < 2 * fld w 37 3 → rwv w 38 j ≤ 9 := by
  intro j hj
  obtain ⟨⟨z0, z1, z2, z3, z4, z5, z6⟩, hR, hP⟩ := h.2.2 h0
  obtain ⟨i, i1, i2, i3⟩ := lnC_hit (B := B) (n := n) (s := 4) (m := j / 2) k (by omega)
  have q := hR.1 i i1 (j % 2) (by rw [i2]; exact Nat.mod_lt _ (by decide))
  rw [i2, i3] at q
  have q : rwv w 38 (2 * (j / 2) + j % 2) = vln B n (lnP B n i) (j % 2) := q
  rw [Nat.div_add_mod] at q
  obtain ⟨-, ⟨-, a⟩, ⟨-, b⟩, -⟩ := flt_v i2 (flA_all h0 i i1)
  have a : vln B n (lnP B n i) 0 ≤ 9 := a
  have b : vln B n (lnP B n i) 1 ≤ 9 := b
  rw [q]
  rcases (show j % 2 = 0 ∨ j % 2 = 1 by omega) with e | e
  · rw [e]
    exact a
  · rw [e]
    exact b
end XFCE
section XFCF
variable {d : Nat} {w : List (List xE)} {bd : List (Nat × Nat)} {fc : List (Nat × Nat × Bool)} {rr : Nat × Nat}
theorem ftBesX (hI : xInv w) (hv : ∀ j, j < 2 * fld w 37 3 → rwv w 38 j ≤ 9) : xPq (d + 1) mX2_findFlawBeside [(2, 27)] w bd fc rr [] (fun w' => xInv w' ∧ xFr [27] w w' ∧ ((fld w 27 9 ≠ 0 ∧ fld w' 27 9 = fld w 27 9 ∧ fld w' 27 10 = fld w 27 10) ∨ (fld w 27 9 = 0 ∧ fld w' 27 9 = 0 ∧ ∀ j, j < fld w 37 3 → ¬ (fld w 28 5 ≤ rwv w 38 (2 * j) ∨ fld w 28 6 ≤ rwv w 38 (2 * j + 1))) ∨ (fld w 27 9 = 0 ∧ fld w' 27 9 = 4 ∧ ∃ m, m < fld w 37 3 ∧ (fld w 28 5 ≤ rwv w 38 (2 * m) ∨ fld w 28 6 ≤ rwv w 38 (2 * m + 1)) ∧ (∀ j, j < m → ¬ (fld w 28 5 ≤ rwv w 38 (2 * j) ∨ fld w 28 6 ≤ rwv w 38 (2 * j + 1))) ∧ fld w' 27 10 = rwv w 41 m))) := by
  refine xPq.of ?_
  show xTo (d + 1) mX2_findFlawBeside (0, [], [(0, (2, 27))], [], (w, bd, fc, 0, 0, rr)) (fun φ => ∃ w', xEnd 0 [] (w', bd, fc, 0, 0, rr) φ ∧ xInv w' ∧ xFr [27] w w' ∧ ((fld w 27 9 ≠ 0 ∧ fld w' 27 9 = fld w 27 9 ∧ fld w' 27 10 = fld w 27 10) ∨ (fld w 27 9 = 0 ∧ fld w' 27 9 = 0 ∧ ∀ j, j < fld w 37 3 → ¬ (fld w 28 5 ≤ rwv w 38 (2 * j) ∨ fld w 28 6 ≤ rwv w 38 (2 * j + 1))) ∨ (fld w 27 9 = 0 ∧ fld w' 27 9 = 4 ∧ ∃ m, m < fld w 37 3 ∧ (fld w 28 5 ≤ rwv w 38 (2 * m) ∨ fld w 28 6 ≤ rwv w 38 (2 * m + 1)) ∧ (∀ j, j < m → ¬ (fld w 28 5 ≤ rwv w 38 (2 * j) ∨ fld w 28 6 ≤ rwv w 38 (2 * j + 1))) ∧ fld w' 27 10 = rwv w 41 m)))
  refine xoC27 (xqc27 hI : cp27 (wget w 27)) (fun f27_1 f27_3 f27_5 f27_7 f27_9 h27_11 hb2 hb4 hb6 hb8 hb10 => ?_)
  refine xoC28 (xqc28 hI : cp28 (wget w 28)) (fun f28_12 f28_14 f28_16 f28_18 f28_20 h28_22 hb13 hb15 hb17 hb19 hb21 => ?_)
  obtain ⟨f37_23, h37_25, hb24⟩ := (xqc37 hI : cp37 (wget w 37))
  refine xoI (xqc38 hI : cpI 40 17 4294967295 (wget w 38)) (fun g38_26 h38_27 hb28 => ?_)
  refine xoI (xqc41 hI : cpI 20 20 4294967295 (wget w 41)) (fun g41_29 h41_30 hb31 => ?_)
  have hq32 : fld w 27 9 = f27_7 := fld_of h27_11
  have hq33 : fld w 27 10 = f27_9 := fld_of h27_11
  have hq34 : fld w 28 5 = f28_12 := fld_of h28_22
  have hq35 : fld w 28 6 = f28_14 := fld_of h28_22
  have hsz : fld w 37 3 = f37_23 := fld_of h37_25
  refine xg_t (xg_blq rfl) ?_
  refine xg_t (xg_const) ?_
  refine xg_t (xg_istore (l1 := [(0, (2, 27))]) rfl rfl rfl) ?_
  refine xg_t (xg_drop (l1 := [(0, (2, 27)), (1, (0, 0))]) (List.forall_mem_cons.mpr ⟨List.mem_cons_of_mem _ (List.mem_cons_self), List.forall_mem_cons.mpr ⟨List.mem_cons_self, fun _ h => absurd h List.not_mem_nil⟩⟩)) ?_
  have key36 : ∀ (m38 : Nat) (ki : Nat) (w39 : List (List xE)), 20 - ki < m38 → ki ≤ 20 → xInv w39 → xFr [27] w w39 → ((fld w39 27 9 = fld w 27 9 ∧ fld w39 27 10 = fld w 27 10 ∧ ∀ j, j < ki → ¬ (fld w 28 5 ≤ rwv w 38 (2 * j) ∨ fld w 28 6 ≤ rwv w 38 (2 * j + 1))) ∨ (fld w 27 9 = 0 ∧ fld w39 27 9 = 4 ∧ ∃ m, m < fld w 37 3 ∧ (fld w 28 5 ≤ rwv w 38 (2 * m) ∨ fld w 28 6 ≤ rwv w 38 (2 * m + 1)) ∧ (∀ j, j < m → ¬ (fld w 28 5 ≤ rwv w 38 (2 * j) ∨ fld w 28 6 ≤ rwv w 38 (2 * j + 1))) ∧ fld w39 27 10 = rwv w 41 m)) → xTo (d + 1) mX2_findFlawBeside (2, [], [(0, (2, 27)), (1, (0, ki))], [], (w39, bd, fc, 0, 0, rr)) (fun φ => ∃ w', xEnd 0 [] (w', bd, fc, 0, 0, rr) φ ∧ xInv w' ∧ xFr [27] w w' ∧ ((fld w 27 9 ≠ 0 ∧ fld w' 27 9 = fld w 27 9 ∧ fld w' 27 10 = fld w 27 10) ∨ (fld w 27 9 = 0 ∧ fld w' 27 9 = 0 ∧ ∀ j, j < fld w 37 3 → ¬ (fld w 28 5 ≤ rwv w 38 (2 * j) ∨ fld w 28 6 ≤ rwv w 38 (2 * j + 1))) ∨ (fld w 27 9 = 0 ∧ fld w' 27 9 = 4 ∧ ∃ m, m < fld w 37 3 ∧ (fld w 28 5 ≤ rwv w 38 (2 * m) ∨ fld w 28 6 ≤ rwv w 38 (2 * m + 1)) ∧ (∀ j, j < m → ¬ (fld w 28 5 ≤ rwv w 38 (2 * j) ∨ fld w 28 6 ≤ rwv w 38 (2 * j + 1))) ∧ fld w' 27 10 = rwv w 41 m))) := by
    intro m38
    induction m38 with
    | zero => intro ki w39 hz; exact absurd hz (Nat.not_lt_zero _)
    | succ m38 ih37 =>
      intro ki w39 hm44 hn42 hI40 hF41 he43
      refine xoC27 (xqc27 hI40 : cp27 (wget w39 27)) (fun f27_45 f27_47 f27_49 f27_51 f27_53 h27_55 hb46 hb48 hb50 hb52 hb54 => ?_)
      have hq56 : fld w39 27 9 = f27_51 := fld_of h27_55
      have hq57 : fld w39 27 10 = f27_53 := fld_of h27_55
      refine xg_t (xg_blq rfl) ?_
      refine xg_t (xg_aload (va := (2, 27)) rfl rfl) ?_
      refine xg_t (xg_getf (va := (0, f27_51)) h27_55 rfl) ?_
      by_cases hc58 : f27_51 = 0
      · refine xg_t (xg_ifF (u := f27_51) rfl xnm0 (xj_neF hc58)) ?_
        have hnb : fld w 27 9 = 0 ∧ ∀ j, j < ki → ¬ (fld w 28 5 ≤ rwv w 38 (2 * j) ∨ fld w 28 6 ≤ rwv w 38 (2 * j + 1)) := by
          rcases he43 with ⟨z1, z2, z3⟩ | ⟨z1, z2, z3⟩
          · exact ⟨by omega, z3⟩
          · exact absurd z2 (by omega)
        refine xg_t (xg_iload (va := (0, ki)) rfl rfl) ?_
        refine xg_t (xg_aload (va := (2, 27)) rfl rfl) ?_
        refine xg_t (xg_getf (va := (2, 28)) h27_55 rfl) ?_
        refine xg_t (xg_getf (va := (2, 37)) (hF41.get (by decide) h28_22) rfl) ?_
        refine xg_t (xg_getf (va := (0, f37_23)) (hF41.get (by decide) h37_25) rfl) ?_
        by_cases hc59 : ki < f37_23
        · refine xg_t (xg_icF (u := ki) (v := f37_23) rfl xnm0 xnm0 (xj_geF hc59 (by omega))) ?_
          refine xg_t (xg_iload (va := (0, ki)) rfl rfl) ?_
          refine xg_t (xg_aload (va := (2, 27)) rfl rfl) ?_
          refine xg_t (xg_getf (va := (2, 41)) h27_55 rfl) ?_
          obtain ⟨us60, ha61, ha62⟩ := id (h41_30.fr hF41 (by decide))
          refine xg_t (xg_alen ha61) ?_
          refine xg_t (xg_icF (u := ki) (v := 20) rfl xnm0 xnm0 (xj_geF (by omega) (by omega))) ?_
          refine xg_t (xg_aload (va := (2, 27)) rfl rfl) ?_
          refine xg_t (xg_getf (va := (2, 28)) h27_55 rfl) ?_
          refine xg_t (xg_getf (va := (2, 37)) (hF41.get (by decide) h28_22) rfl) ?_
          refine xg_t (xg_iload (va := (0, ki)) rfl rfl) ?_
          refine xg_t (xg_const) ?_
          refine xg_kE (xg_cVr mX5_get (vs := [(0, ki), (0, 0)]) (rest := []) (rs := [(0, g38_26 (ki * 2 + 0))]) (cn1 := 0) (sl1 := 0) rfl (rgetX (lim := 20) (wd := 2) (sz := f37_23) (hF41.get (by decide) h37_25) (h38_27.fr hF41 (by decide)) (by decide) (by omega) (by decide) (by decide) (by omega) (by decide)) rfl (hF41.get (by decide) h37_25) rfl rfl rfl rfl rfl rfl rfl) (Nat.lt_succ_of_le ((hb28) _)) (fun z63 hz64 he65 => ?_)
          have ht66 : rwv w 38 (2 * ki) = z63 := by
            rw [show 2 * ki = ki * 2 + 0 by omega]
            exact (rwv_of h38_27 (by omega)).trans he65
          have ht67 : z63 ≤ 9 := by rw [← ht66]; exact hv _ (by omega)
          refine xg_t (xg_aload (va := (2, 27)) rfl rfl) ?_
          refine xg_t (xg_getf (va := (2, 28)) h27_55 rfl) ?_
          refine xg_t (xg_getf (va := (0, f28_12)) (hF41.get (by decide) h28_22) rfl) ?_
          by_cases hc68 : z63 < f28_12
          · refine xg_t (xg_icF (u := z63) (v := f28_12) rfl xnm0 xnm0 (xj_geF hc68 (by omega))) ?_
            refine xg_t (xg_aload (va := (2, 27)) rfl rfl) ?_
            refine xg_t (xg_getf (va := (2, 28)) h27_55 rfl) ?_
            refine xg_t (xg_getf (va := (2, 37)) (hF41.get (by decide) h28_22) rfl) ?_
            refine xg_t (xg_iload (va := (0, ki)) rfl rfl) ?_
            refine xg_t (xg_const) ?_
            refine xg_kE (xg_cVr mX5_get (vs := [(0, ki), (0, 1)]) (rest := []) (rs := [(0, g38_26 (ki * 2 + 1))]) (cn1 := 0) (sl1 := 0) rfl (rgetX (lim := 20) (wd := 2) (sz := f37_23) (hF41.get (by decide) h37_25) (h38_27.fr hF41 (by decide)) (by decide) (by omega) (by decide) (by decide) (by omega) (by decide)) rfl (hF41.get (by decide) h37_25) rfl rfl rfl rfl rfl rfl rfl) (Nat.lt_succ_of_le ((hb28) _)) (fun z69 hz70 he71 => ?_)
            have ht72 : rwv w 38 (2 * ki + 1) = z69 := by
              rw [show 2 * ki + 1 = ki * 2 + 1 by omega]
              exact (rwv_of h38_27 (by omega)).trans he71
            have ht73 : z69 ≤ 9 := by rw [← ht72]; exact hv _ (by omega)
            refine xg_t (xg_aload (va := (2, 27)) rfl rfl) ?_
            refine xg_t (xg_getf (va := (2, 28)) h27_55 rfl) ?_
            refine xg_t (xg_getf (va := (0, f28_14)) (hF41.get (by decide) h28_22) rfl) ?_
            by_cases hc74 : z69 < f28_14
            · refine xg_t (xg_icT (u := z69) (v := f28_14) rfl xnm0 xnm0 (xj_ltT hc74 (by omega))) ?_
              refine xg_t (xg_blq rfl) ?_
              refine xg_t (xg_iinc (u := ki) (z := ki + 1) (l1 := [(0, (2, 27))]) rfl rfl (by omega) rfl) ?_
              refine xg_t (xg_goto) ?_
              refine xg_t (xg_drop (l1 := [(0, (2, 27)), (1, (0, ki + 1))]) (List.forall_mem_cons.mpr ⟨List.mem_cons_of_mem _ (List.mem_cons_self), List.forall_mem_cons.mpr ⟨List.mem_cons_self, fun _ h => absurd h List.not_mem_nil⟩⟩)) ?_
              have hq75 : fld w39 27 9 = f27_51 := fld_of h27_55
              have hq76 : fld w39 27 10 = f27_53 := fld_of h27_55
              exact ih37 (ki + 1) w39 (by omega) (by omega) (hI40) (hF41) (Or.inl ⟨by omega, by omega, fun j hj => (Nat.lt_or_eq_of_le (Nat.le_of_lt_succ hj)).elim (fun z => hnb.2 j z) (fun z => by rw [z]; omega)⟩)
            · refine xg_t (xg_icF (u := z69) (v := f28_14) rfl xnm0 xnm0 (xj_ltF (by omega) (by omega))) ?_
              refine xg_t (xg_blq rfl) ?_
              refine xg_t (xg_aload (va := (2, 27)) rfl rfl) ?_
              refine xg_t (xg_const) ?_
              refine xg_putI (fl1 := [(2, 1), (2, 42), (2, 28), (2, 39), (2, 40), (2, 41), (0, f27_45), (0, f27_47), (0, f27_49), (0, 4), (0, f27_53)]) h27_55 rfl rfl rfl (fun w77 hk78 hb79 => ?_)
              refine xg_t (xg_aload (va := (2, 27)) rfl rfl) ?_
              refine xg_t (xg_aload (va := (2, 27)) rfl rfl) ?_
              refine xg_t (xg_getf (va := (2, 41)) hk78 rfl) ?_
              refine xg_t (xg_iload (va := (0, ki)) rfl rfl) ?_
              refine xg_ialdB (n := ki) (B := 4294967295) ((h41_30.fr hF41 (by decide)).but hb79 (by decide)) (hb31) xnm0 (by omega) (fun u80 hu81 he82 => ?_)
              have hp83 : rwv w 41 ki = u80 := (rwv_of h41_30 (by omega)).trans he82
              refine xg_putI (fl1 := [(2, 1), (2, 42), (2, 28), (2, 39), (2, 40), (2, 41), (0, f27_45), (0, f27_47), (0, f27_49), (0, 4), (0, u80)]) hk78 rfl rfl rfl (fun w84 hk85 hb86 => ?_)
              refine xg_t (xg_blq rfl) ?_
              refine xg_t (xg_iinc (u := ki) (z := ki + 1) (l1 := [(0, (2, 27))]) rfl rfl (by omega) rfl) ?_
              refine xg_t (xg_goto) ?_
              refine xg_t (xg_drop (l1 := [(0, (2, 27)), (1, (0, ki + 1))]) (List.forall_mem_cons.mpr ⟨List.mem_cons_of_mem _ (List.mem_cons_self), List.forall_mem_cons.mpr ⟨List.mem_cons_self, fun _ h => absurd h List.not_mem_nil⟩⟩)) ?_
              have hq87 : fld w84 27 9 = 4 := fld_of hk85
              have hq88 : fld w84 27 10 = u80 := fld_of hk85
              exact ih37 (ki + 1) w84 (by omega) (by omega) (xInv.up (S := [27]) hI40 ((xFr.of (S := [27]) hb79 (by decide)).tr (xFr.of (S := [27]) hb86 (by decide))) (List.forall_mem_cons.mpr ⟨xqu27 (show cp27 (wget w84 27) from xmC27 f27_45 f27_47 f27_49 4 u80 hk85 hb46 hb48 hb50 (by decide) (by omega)), fun _ h => absurd h List.not_mem_nil⟩)) ((hF41.tr ((xFr.of (S := [27]) hb79 (by decide)).tr (xFr.of (S := [27]) hb86 (by decide))))) (Or.inr ⟨hnb.1, hq87, ki, by omega, by omega, hnb.2, hq88.trans hp83.symm⟩)
          · refine xg_t (xg_icT (u := z63) (v := f28_12) rfl xnm0 xnm0 (xj_geT (by omega) (by omega))) ?_
            refine xg_t (xg_blq rfl) ?_
            refine xg_t (xg_aload (va := (2, 27)) rfl rfl) ?_
            refine xg_t (xg_const) ?_
            refine xg_putI (fl1 := [(2, 1), (2, 42), (2, 28), (2, 39), (2, 40), (2, 41), (0, f27_45), (0, f27_47), (0, f27_49), (0, 4), (0, f27_53)]) h27_55 rfl rfl rfl (fun w89 hk90 hb91 => ?_)
            refine xg_t (xg_aload (va := (2, 27)) rfl rfl) ?_
            refine xg_t (xg_aload (va := (2, 27)) rfl rfl) ?_
            refine xg_t (xg_getf (va := (2, 41)) hk90 rfl) ?_
            refine xg_t (xg_iload (va := (0, ki)) rfl rfl) ?_
            refine xg_ialdB (n := ki) (B := 4294967295) ((h41_30.fr hF41 (by decide)).but hb91 (by decide)) (hb31) xnm0 (by omega) (fun u92 hu93 he94 => ?_)
            have hp95 : rwv w 41 ki = u92 := (rwv_of h41_30 (by omega)).trans he94
            refine xg_putI (fl1 := [(2, 1), (2, 42), (2, 28), (2, 39), (2, 40), (2, 41), (0, f27_45), (0, f27_47), (0, f27_49), (0, 4), (0, u92)]) hk90 rfl rfl rfl (fun w96 hk97 hb98 => ?_)
            refine xg_t (xg_blq rfl) ?_
            refine xg_t (xg_iinc (u := ki) (z := ki + 1) (l1 := [(0, (2, 27))]) rfl rfl (by omega) rfl) ?_
            refine xg_t (xg_goto) ?_
            refine xg_t (xg_drop (l1 := [(0, (2, 27)), (1, (0, ki + 1))]) (List.forall_mem_cons.mpr ⟨List.mem_cons_of_mem _ (List.mem_cons_self), List.forall_mem_cons.mpr ⟨List.mem_cons_self, fun _ h => absurd h List.not_mem_nil⟩⟩)) ?_
            have hq99 : fld w96 27 9 = 4 := fld_of hk97
            have hq100 : fld w96 27 10 = u92 := fld_of hk97
            exact ih37 (ki + 1) w96 (by omega) (by omega) (xInv.up (S := [27]) hI40 ((xFr.of (S := [27]) hb91 (by decide)).tr (xFr.of (S := [27]) hb98 (by decide))) (List.forall_mem_cons.mpr ⟨xqu27 (show cp27 (wget w96 27) from xmC27 f27_45 f27_47 f27_49 4 u92 hk97 hb46 hb48 hb50 (by decide) (by omega)), fun _ h => absurd h List.not_mem_nil⟩)) ((hF41.tr ((xFr.of (S := [27]) hb91 (by decide)).tr (xFr.of (S := [27]) hb98 (by decide))))) (Or.inr ⟨hnb.1, hq99, ki, by omega, by omega, hnb.2, hq100.trans hp95.symm⟩)
        · refine xg_t (xg_icT (u := ki) (v := f37_23) rfl xnm0 xnm0 (xj_geT (by omega) (by omega))) ?_
          refine xg_t (xg_blq rfl) ?_
          have hq101 : fld w39 27 9 = f27_51 := fld_of h27_55
          have hq102 : fld w39 27 10 = f27_53 := fld_of h27_55
          exact xg_e ⟨w39, ⟨rfl, rfl⟩, hI40, hF41, Or.inr (Or.inl ⟨hnb.1, by omega, fun j hj => hnb.2 j (by omega)⟩)⟩
      · refine xg_t (xg_ifT (u := f27_51) rfl xnm0 (xj_neT hc58)) ?_
        refine xg_t (xg_blq rfl) ?_
        have hq103 : fld w39 27 9 = f27_51 := fld_of h27_55
        have hq104 : fld w39 27 10 = f27_53 := fld_of h27_55
        have hz105 : (fld w 27 9 ≠ 0 ∧ fld w39 27 9 = fld w 27 9 ∧ fld w39 27 10 = fld w 27 10) ∨ (fld w 27 9 = 0 ∧ fld w39 27 9 = 0 ∧ ∀ j, j < fld w 37 3 → ¬ (fld w 28 5 ≤ rwv w 38 (2 * j) ∨ fld w 28 6 ≤ rwv w 38 (2 * j + 1))) ∨ (fld w 27 9 = 0 ∧ fld w39 27 9 = 4 ∧ ∃ m, m < fld w 37 3 ∧ (fld w 28 5 ≤ rwv w 38 (2 * m) ∨ fld w 28 6 ≤ rwv w 38 (2 * m + 1)) ∧ (∀ j, j < m → ¬ (fld w 28 5 ≤ rwv w 38 (2 * j) ∨ fld w 28 6 ≤ rwv w 38 (2 * j + 1))) ∧ fld w39 27 10 = rwv w 41 m) := by
          rcases he43 with ⟨z1, z2, z3⟩ | ⟨z1, z2, z3⟩
          · exact Or.inl ⟨by omega, z1, z2⟩
          · exact Or.inr (Or.inr ⟨z1, z2, z3⟩)
        exact xg_e ⟨w39, ⟨rfl, rfl⟩, hI40, hF41, hz105⟩
  exact key36 _ 0 w (Nat.lt_succ_self _) (by omega) (hI) (xFr.rf) (Or.inl ⟨rfl, rfl, fun j hj => absurd hj (Nat.not_lt_zero _)⟩)
theorem tdTakeF {fa pl : Nat} (hI : xInv w) (h1 : fa ≤ 4294967295) (h2 : pl ≤ 4294967295) : xPq d mX9_take [(2, 1), (0, fa), (0, pl)] w bd fc rr [] (fun w' => xInv w' ∧ xFr [1] w w' ∧ (fld w' 1 1 = 0 ∧ fld w' 1 2 = fa ∧ fld w' 1 3 = (if fa = 0 then 4294967295 else pl) ∧ fld w' 1 6 = fld w 1 6 ∧ fld w' 1 7 = fld w 1 7 ∧ fld w' 1 9 = fld w 1 9)) := by
  refine xPq.of ?_
  show xTo d mX9_take (0, [], [(0, (2, 1)), (1, (0, fa)), (2, (0, pl))], [], (w, bd, fc, 0, 0, rr)) (fun φ => ∃ w', xEnd 0 [] (w', bd, fc, 0, 0, rr) φ ∧ xInv w' ∧ xFr [1] w w' ∧ (fld w' 1 1 = 0 ∧ fld w' 1 2 = fa ∧ fld w' 1 3 = (if fa = 0 then 4294967295 else pl) ∧ fld w' 1 6 = fld w 1 6 ∧ fld w' 1 7 = fld w 1 7 ∧ fld w' 1 9 = fld w 1 9))
  refine xoC1 (xqc1 hI : cp1 (wget w 1)) (fun f1_1 f1_3 f1_5 f1_7 f1_9 f1_11 h1_13 hb2 hb4 hb6 hb8 hb10 hb12 => ?_)
  refine xg_t (xg_blq rfl) ?_
  refine xg_t (xg_aload (va := (2, 1)) rfl rfl) ?_
  refine xg_t (xg_const) ?_
  refine xg_putI (fl1 := [(2, 2), (0, 0), (0, f1_3), (0, f1_5), (2, 3), (2, 14), (0, f1_7), (0, f1_9), (2, 16), (0, f1_11), (2, 18), (2, 20), (2, 22), (2, 24)]) h1_13 rfl rfl rfl (fun w14 hk15 hb16 => ?_)
  refine xg_t (xg_aload (va := (2, 1)) rfl rfl) ?_
  refine xg_t (xg_iload (va := (0, fa)) rfl rfl) ?_
  refine xg_putI (fl1 := [(2, 2), (0, 0), (0, fa), (0, f1_5), (2, 3), (2, 14), (0, f1_7), (0, f1_9), (2, 16), (0, f1_11), (2, 18), (2, 20), (2, 22), (2, 24)]) hk15 rfl rfl rfl (fun w17 hk18 hb19 => ?_)
  refine xg_t (xg_aload (va := (2, 1)) rfl rfl) ?_
  refine xg_t (xg_iload (va := (0, fa)) rfl rfl) ?_
  by_cases hc20 : fa = 0
  · refine xg_t (xg_ifF (u := fa) rfl xnm0 (xj_neF hc20)) ?_
    refine xg_t (xg_const) ?_
    refine xg_t (xg_goto) ?_
    refine xg_t (xg_blq rfl) ?_
    refine xg_putI (fl1 := [(2, 2), (0, 0), (0, fa), (0, 4294967295), (2, 3), (2, 14), (0, f1_7), (0, f1_9), (2, 16), (0, f1_11), (2, 18), (2, 20), (2, 22), (2, 24)]) hk18 rfl rfl rfl (fun w21 hk22 hb23 => ?_)
    have hq24 : fld w 1 1 = f1_1 := fld_of h1_13
    have hq25 : fld w21 1 1 = 0 := fld_of hk22
    have hq26 : fld w 1 2 = f1_3 := fld_of h1_13
    have hq27 : fld w21 1 2 = fa := fld_of hk22
    have hq28 : fld w 1 3 = f1_5 := fld_of h1_13
    have hq29 : fld w21 1 3 = 4294967295 := fld_of hk22
    have hq30 : fld w 1 6 = f1_7 := fld_of h1_13
    have hq31 : fld w21 1 6 = f1_7 := fld_of hk22
    have hq32 : fld w 1 7 = f1_9 := fld_of h1_13
    have hq33 : fld w21 1 7 = f1_9 := fld_of hk22
    have hq34 : fld w 1 9 = f1_11 := fld_of h1_13
    have hq35 : fld w21 1 9 = f1_11 := fld_of hk22
    exact xg_e ⟨w21, ⟨rfl, rfl⟩, xInv.up (S := [1]) hI (((xFr.of (S := [1]) hb16 (by decide)).tr (xFr.of (S := [1]) hb19 (by decide))).tr (xFr.of (S := [1]) hb23 (by decide))) (List.forall_mem_cons.mpr ⟨xqu1 (show cp1 (wget w21 1) from xmC1 0 fa 4294967295 f1_7 f1_9 f1_11 hk22 (by decide) (by omega) (by decide) hb8 hb10 hb12), fun _ h => absurd h List.not_mem_nil⟩), (((xFr.of (S := [1]) hb16 (by decide)).tr (xFr.of (S := [1]) hb19 (by decide))).tr (xFr.of (S := [1]) hb23 (by decide))), ⟨by omega, by omega, by rw [if_pos (by omega)]; omega, by omega, by omega, by omega⟩⟩
  · refine xg_t (xg_ifT (u := fa) rfl xnm0 (xj_neT hc20)) ?_
    refine xg_t (xg_blq rfl) ?_
    refine xg_t (xg_iload (va := (0, pl)) rfl rfl) ?_
    refine xg_t (xg_blq rfl) ?_
    refine xg_putI (fl1 := [(2, 2), (0, 0), (0, fa), (0, pl), (2, 3), (2, 14), (0, f1_7), (0, f1_9), (2, 16), (0, f1_11), (2, 18), (2, 20), (2, 22), (2, 24)]) hk18 rfl rfl rfl (fun w36 hk37 hb38 => ?_)
    have hq39 : fld w 1 1 = f1_1 := fld_of h1_13
    have hq40 : fld w36 1 1 = 0 := fld_of hk37
    have hq41 : fld w 1 2 = f1_3 := fld_of h1_13
    have hq42 : fld w36 1 2 = fa := fld_of hk37
    have hq43 : fld w 1 3 = f1_5 := fld_of h1_13
    have hq44 : fld w36 1 3 = pl := fld_of hk37
    have hq45 : fld w 1 6 = f1_7 := fld_of h1_13
    have hq46 : fld w36 1 6 = f1_7 := fld_of hk37
    have hq47 : fld w 1 7 = f1_9 := fld_of h1_13
    have hq48 : fld w36 1 7 = f1_9 := fld_of hk37
    have hq49 : fld w 1 9 = f1_11 := fld_of h1_13
    have hq50 : fld w36 1 9 = f1_11 := fld_of hk37
    exact xg_e ⟨w36, ⟨rfl, rfl⟩, xInv.up (S := [1]) hI (((xFr.of (S := [1]) hb16 (by decide)).tr (xFr.of (S := [1]) hb19 (by decide))).tr (xFr.of (S := [1]) hb38 (by decide))) (List.forall_mem_cons.mpr ⟨xqu1 (show cp1 (wget w36 1) from xmC1 0 fa pl f1_7 f1_9 f1_11 hk37 (by decide) (by omega) (by omega) hb8 hb10 hb12), fun _ h => absurd h List.not_mem_nil⟩), (((xFr.of (S := [1]) hb16 (by decide)).tr (xFr.of (S := [1]) hb19 (by decide))).tr (xFr.of (S := [1]) hb38 (by decide))), ⟨by omega, by omega, by rw [if_neg (by omega)]; omega, by omega, by omega, by omega⟩⟩
theorem fmCopyE (hI : xInv w)  : xPq (d + 2) mX1_copy [(2, 3), (2, 28)] w bd fc rr [] (fun w' => xInv w' ∧ xFr [3, 4, 5, 6, 7, 8, 9, 10, 11, 12, 13] w w' ∧ (fmE w' 3 w 28)) := by
  refine xPq.of ?_
  show xTo (d + 2) mX1_copy (0, [], [(0, (2, 3)), (1, (2, 28))], [], (w, bd, fc, 0, 0, rr)) (fun φ => ∃ w', xEnd 0 [] (w', bd, fc, 0, 0, rr) φ ∧ xInv w' ∧ xFr [3, 4, 5, 6, 7, 8, 9, 10, 11, 12, 13] w w' ∧ (fmE w' 3 w 28))
  refine xoC3 (xqc3 hI : cp3 (wget w 3)) (fun f3_1 f3_3 f3_5 f3_7 f3_9 h3_11 hb2 hb4 hb6 hb8 hb10 => ?_)
  refine xoC28 (xqc28 hI : cp28 (wget w 28)) (fun f28_12 f28_14 f28_16 f28_18 f28_20 h28_22 hb13 hb15 hb17 hb19 hb21 => ?_)
  obtain ⟨f4_23, h4_25, hb24⟩ := (xqc4 hI : cp4 (wget w 4))
  refine xoI (xqc5 hI : cpI 24 1 4294967295 (wget w 5)) (fun g5_26 h5_27 hb28 => ?_)
  obtain ⟨f29_29, h29_31, hb30⟩ := (xqc29 hI : cp29 (wget w 29))
  refine xoI (xqc30 hI : cpI 24 13 4294967295 (wget w 30)) (fun g30_32 h30_33 hb34 => ?_)
  obtain ⟨f6_35, h6_37, hb36⟩ := (xqc6 hI : cp6 (wget w 6))
  refine xoI (xqc7 hI : cpI 8 2 4294967295 (wget w 7)) (fun g7_38 h7_39 hb40 => ?_)
  obtain ⟨f31_41, h31_43, hb42⟩ := (xqc31 hI : cp31 (wget w 31))
  refine xoI (xqc32 hI : cpI 8 14 4294967295 (wget w 32)) (fun g32_44 h32_45 hb46 => ?_)
  obtain ⟨f8_47, h8_49, hb48⟩ := (xqc8 hI : cp8 (wget w 8))
  refine xoI (xqc9 hI : cpI 12 3 4294967295 (wget w 9)) (fun g9_50 h9_51 hb52 => ?_)
  obtain ⟨f33_53, h33_55, hb54⟩ := (xqc33 hI : cp33 (wget w 33))
  refine xoI (xqc34 hI : cpI 12 15 4294967295 (wget w 34)) (fun g34_56 h34_57 hb58 => ?_)
  obtain ⟨f10_59, h10_61, hb60⟩ := (xqc10 hI : cp10 (wget w 10))
  refine xoI (xqc11 hI : cpI 12 4 4294967295 (wget w 11)) (fun g11_62 h11_63 hb64 => ?_)
  obtain ⟨f35_65, h35_67, hb66⟩ := (xqc35 hI : cp35 (wget w 35))
  refine xoI (xqc36 hI : cpI 12 16 4294967295 (wget w 36)) (fun g36_68 h36_69 hb70 => ?_)
  obtain ⟨f12_71, h12_73, hb72⟩ := (xqc12 hI : cp12 (wget w 12))
  refine xoI (xqc13 hI : cpI 40 5 4294967295 (wget w 13)) (fun g13_74 h13_75 hb76 => ?_)
  obtain ⟨f37_77, h37_79, hb78⟩ := (xqc37 hI : cp37 (wget w 37))
  refine xoI (xqc38 hI : cpI 40 17 4294967295 (wget w 38)) (fun g38_80 h38_81 hb82 => ?_)
  refine xg_t (xg_blq rfl) ?_
  refine xg_t (xg_aload (va := (2, 3)) rfl rfl) ?_
  refine xg_t (xg_getf (va := (2, 4)) h3_11 rfl) ?_
  refine xg_t (xg_aload (va := (2, 28)) rfl rfl) ?_
  refine xg_t (xg_getf (va := (2, 29)) h28_22 rfl) ?_
  refine xg_cVv mX5_copy (vs := [(2, 29)]) (rest := []) (cn1 := 0) (sl1 := 0) rfl (rcopyX (lim := 6) (wd := 4) (B := 4294967295) h4_25 h29_31 h5_27 h30_33 (hb28) (hb34) (by decide) (by omega) (by decide) (by decide) (by decide) (by decide) (by decide) (by decide)) rfl h4_25 rfl rfl rfl rfl rfl rfl (fun w83 hq84 => ?_)
  obtain ⟨hk85, g86, hr87, hb88, hx90, hF89⟩ := hq84
  refine xg_t (xg_aload (va := (2, 3)) rfl rfl) ?_
  refine xg_t (xg_getf (va := (2, 6)) (hF89.get (by decide) h3_11) rfl) ?_
  refine xg_t (xg_aload (va := (2, 28)) rfl rfl) ?_
  refine xg_t (xg_getf (va := (2, 31)) (hF89.get (by decide) h28_22) rfl) ?_
  refine xg_cVv mX5_copy (vs := [(2, 31)]) (rest := []) (cn1 := 0) (sl1 := 0) rfl (rcopyX (lim := 4) (wd := 2) (B := 4294967295) (hF89.get (by decide) h6_37) (hF89.get (by decide) h31_43) (h7_39.fr hF89 (by decide)) (h32_45.fr hF89 (by decide)) (hb40) (hb46) (by decide) (by omega) (by decide) (by decide) (by decide) (by decide) (by decide) (by decide)) rfl (hF89.get (by decide) h6_37) rfl rfl rfl rfl rfl rfl (fun w91 hq92 => ?_)
  obtain ⟨hk93, g94, hr95, hb96, hx98, hF97⟩ := hq92
  refine xg_t (xg_aload (va := (2, 3)) rfl rfl) ?_
  refine xg_t (xg_getf (va := (2, 8)) (hF97.get (by decide) (hF89.get (by decide) h3_11)) rfl) ?_
  refine xg_t (xg_aload (va := (2, 28)) rfl rfl) ?_
  refine xg_t (xg_getf (va := (2, 33)) (hF97.get (by decide) (hF89.get (by decide) h28_22)) rfl) ?_
  refine xg_cVv mX5_copy (vs := [(2, 33)]) (rest := []) (cn1 := 0) (sl1 := 0) rfl (rcopyX (lim := 6) (wd := 2) (B := 4294967295) (hF97.get (by decide) (hF89.get (by decide) h8_49)) (hF97.get (by decide) (hF89.get (by decide) h33_55)) ((h9_51.fr hF89 (by decide)).fr hF97 (by decide)) ((h34_57.fr hF89 (by decide)).fr hF97 (by decide)) (hb52) (hb58) (by decide) (by omega) (by decide) (by decide) (by decide) (by decide) (by decide) (by decide)) rfl (hF97.get (by decide) (hF89.get (by decide) h8_49)) rfl rfl rfl rfl rfl rfl (fun w99 hq100 => ?_)
  obtain ⟨hk101, g102, hr103, hb104, hx106, hF105⟩ := hq100
  refine xg_t (xg_aload (va := (2, 3)) rfl rfl) ?_
  refine xg_t (xg_getf (va := (2, 10)) (hF105.get (by decide) (hF97.get (by decide) (hF89.get (by decide) h3_11))) rfl) ?_
  refine xg_t (xg_aload (va := (2, 28)) rfl rfl) ?_
  refine xg_t (xg_getf (va := (2, 35)) (hF105.get (by decide) (hF97.get (by decide) (hF89.get (by decide) h28_22))) rfl) ?_
  refine xg_cVv mX5_copy (vs := [(2, 35)]) (rest := []) (cn1 := 0) (sl1 := 0) rfl (rcopyX (lim := 4) (wd := 3) (B := 4294967295) (hF105.get (by decide) (hF97.get (by decide) (hF89.get (by decide) h10_61))) (hF105.get (by decide) (hF97.get (by decide) (hF89.get (by decide) h35_67))) (((h11_63.fr hF89 (by decide)).fr hF97 (by decide)).fr hF105 (by decide)) (((h36_69.fr hF89 (by decide)).fr hF97 (by decide)).fr hF105 (by decide)) (hb64) (hb70) (by decide) (by omega) (by decide) (by decide) (by decide) (by decide) (by decide) (by decide)) rfl (hF105.get (by decide) (hF97.get (by decide) (hF89.get (by decide) h10_61))) rfl rfl rfl rfl rfl rfl (fun w107 hq108 => ?_)
  obtain ⟨hk109, g110, hr111, hb112, hx114, hF113⟩ := hq108
  refine xg_t (xg_aload (va := (2, 3)) rfl rfl) ?_
  refine xg_t (xg_getf (va := (2, 12)) (hF113.get (by decide) (hF105.get (by decide) (hF97.get (by decide) (hF89.get (by decide) h3_11)))) rfl) ?_
  refine xg_t (xg_aload (va := (2, 28)) rfl rfl) ?_
  refine xg_t (xg_getf (va := (2, 37)) (hF113.get (by decide) (hF105.get (by decide) (hF97.get (by decide) (hF89.get (by decide) h28_22)))) rfl) ?_
  refine xg_cVv mX5_copy (vs := [(2, 37)]) (rest := []) (cn1 := 0) (sl1 := 0) rfl (rcopyX (lim := 20) (wd := 2) (B := 4294967295) (hF113.get (by decide) (hF105.get (by decide) (hF97.get (by decide) (hF89.get (by decide) h12_73)))) (hF113.get (by decide) (hF105.get (by decide) (hF97.get (by decide) (hF89.get (by decide) h37_79)))) ((((h13_75.fr hF89 (by decide)).fr hF97 (by decide)).fr hF105 (by decide)).fr hF113 (by decide)) ((((h38_81.fr hF89 (by decide)).fr hF97 (by decide)).fr hF105 (by decide)).fr hF113 (by decide)) (hb76) (hb82) (by decide) (by omega) (by decide) (by decide) (by decide) (by decide) (by decide) (by decide)) rfl (hF113.get (by decide) (hF105.get (by decide) (hF97.get (by decide) (hF89.get (by decide) h12_73)))) rfl rfl rfl rfl rfl rfl (fun w115 hq116 => ?_)
  obtain ⟨hk117, g118, hr119, hb120, hx122, hF121⟩ := hq116
  refine xg_t (xg_aload (va := (2, 3)) rfl rfl) ?_
  refine xg_t (xg_aload (va := (2, 28)) rfl rfl) ?_
  refine xg_t (xg_getf (va := (0, f28_12)) (hF121.get (by decide) (hF113.get (by decide) (hF105.get (by decide) (hF97.get (by decide) (hF89.get (by decide) h28_22))))) rfl) ?_
  refine xg_putI (fl1 := [(2, 4), (2, 6), (2, 8), (2, 10), (2, 12), (0, f28_12), (0, f3_3), (0, f3_5), (0, f3_7), (0, f3_9)]) (hF121.get (by decide) (hF113.get (by decide) (hF105.get (by decide) (hF97.get (by decide) (hF89.get (by decide) h3_11))))) rfl rfl rfl (fun w123 hk124 hb125 => ?_)
  refine xg_t (xg_aload (va := (2, 3)) rfl rfl) ?_
  refine xg_t (xg_aload (va := (2, 28)) rfl rfl) ?_
  refine xg_t (xg_getf (va := (0, f28_14)) (hb125.get (by decide) (hF121.get (by decide) (hF113.get (by decide) (hF105.get (by decide) (hF97.get (by decide) (hF89.get (by decide) h28_22)))))) rfl) ?_
  refine xg_putI (fl1 := [(2, 4), (2, 6), (2, 8), (2, 10), (2, 12), (0, f28_12), (0, f28_14), (0, f3_5), (0, f3_7), (0, f3_9)]) hk124 rfl rfl rfl (fun w126 hk127 hb128 => ?_)
  refine xg_t (xg_aload (va := (2, 3)) rfl rfl) ?_
  refine xg_t (xg_aload (va := (2, 28)) rfl rfl) ?_
  refine xg_t (xg_getf (va := (0, f28_16)) (hb128.get (by decide) (hb125.get (by decide) (hF121.get (by decide) (hF113.get (by decide) (hF105.get (by decide) (hF97.get (by decide) (hF89.get (by decide) h28_22))))))) rfl) ?_
  refine xg_putI (fl1 := [(2, 4), (2, 6), (2, 8), (2, 10), (2, 12), (0, f28_12), (0, f28_14), (0, f28_16), (0, f3_7), (0, f3_9)]) hk127 rfl rfl rfl (fun w129 hk130 hb131 => ?_)
  refine xg_t (xg_aload (va := (2, 3)) rfl rfl) ?_
  refine xg_t (xg_aload (va := (2, 28)) rfl rfl) ?_
  refine xg_t (xg_getf (va := (0, f28_18)) (hb131.get (by decide) (hb128.get (by decide) (hb125.get (by decide) (hF121.get (by decide) (hF113.get (by decide) (hF105.get (by decide) (hF97.get (by decide) (hF89.get (by decide) h28_22)))))))) rfl) ?_
  refine xg_putI (fl1 := [(2, 4), (2, 6), (2, 8), (2, 10), (2, 12), (0, f28_12), (0, f28_14), (0, f28_16), (0, f28_18), (0, f3_9)]) hk130 rfl rfl rfl (fun w132 hk133 hb134 => ?_)
  refine xg_t (xg_aload (va := (2, 3)) rfl rfl) ?_
  refine xg_t (xg_aload (va := (2, 28)) rfl rfl) ?_
  refine xg_t (xg_getf (va := (0, f28_20)) (hb134.get (by decide) (hb131.get (by decide) (hb128.get (by decide) (hb125.get (by decide) (hF121.get (by decide) (hF113.get (by decide) (hF105.get (by decide) (hF97.get (by decide) (hF89.get (by decide) h28_22))))))))) rfl) ?_
  refine xg_putI (fl1 := [(2, 4), (2, 6), (2, 8), (2, 10), (2, 12), (0, f28_12), (0, f28_14), (0, f28_16), (0, f28_18), (0, f28_20)]) hk133 rfl rfl rfl (fun w135 hk136 hb137 => ?_)
  have hq139 : fld w 29 3 = f29_29 := fld_of h29_31
  have hq138 : rwE w135 4 w 29 4 := ⟨((show fld w135 4 3 = f29_29 from fld_of (hb137.get (by decide) (hb134.get (by decide) (hb131.get (by decide) (hb128.get (by decide) (hb125.get (by decide) (hF121.get (by decide) (hF113.get (by decide) (hF105.get (by decide) (hF97.get (by decide) hk85)))))))))).trans (show fld w 29 3 = f29_29 from fld_of h29_31).symm), fun j hj => by
    rw [hq139] at hj
    exact (rwv_of (((((((((hr87.fr hF97 (by decide)).fr hF105 (by decide)).fr hF113 (by decide)).fr hF121 (by decide)).but hb125 (by decide)).but hb128 (by decide)).but hb131 (by decide)).but hb134 (by decide)).but hb137 (by decide)) (by omega)).trans ((hx90 j hj).trans (rwv_of h30_33 (by omega)).symm)⟩
  have hq141 : fld w 31 3 = f31_41 := fld_of h31_43
  have hq140 : rwE w135 6 w 31 2 := ⟨((show fld w135 6 3 = f31_41 from fld_of (hb137.get (by decide) (hb134.get (by decide) (hb131.get (by decide) (hb128.get (by decide) (hb125.get (by decide) (hF121.get (by decide) (hF113.get (by decide) (hF105.get (by decide) hk93))))))))).trans (show fld w 31 3 = f31_41 from fld_of h31_43).symm), fun j hj => by
    rw [hq141] at hj
    exact (rwv_of ((((((((hr95.fr hF105 (by decide)).fr hF113 (by decide)).fr hF121 (by decide)).but hb125 (by decide)).but hb128 (by decide)).but hb131 (by decide)).but hb134 (by decide)).but hb137 (by decide)) (by omega)).trans ((hx98 j hj).trans (rwv_of h32_45 (by omega)).symm)⟩
  have hq143 : fld w 33 3 = f33_53 := fld_of h33_55
  have hq142 : rwE w135 8 w 33 2 := ⟨((show fld w135 8 3 = f33_53 from fld_of (hb137.get (by decide) (hb134.get (by decide) (hb131.get (by decide) (hb128.get (by decide) (hb125.get (by decide) (hF121.get (by decide) (hF113.get (by decide) hk101)))))))).trans (show fld w 33 3 = f33_53 from fld_of h33_55).symm), fun j hj => by
    rw [hq143] at hj
    exact (rwv_of (((((((hr103.fr hF113 (by decide)).fr hF121 (by decide)).but hb125 (by decide)).but hb128 (by decide)).but hb131 (by decide)).but hb134 (by decide)).but hb137 (by decide)) (by omega)).trans ((hx106 j hj).trans (rwv_of h34_57 (by omega)).symm)⟩
  have hq145 : fld w 35 3 = f35_65 := fld_of h35_67
  have hq144 : rwE w135 10 w 35 3 := ⟨((show fld w135 10 3 = f35_65 from fld_of (hb137.get (by decide) (hb134.get (by decide) (hb131.get (by decide) (hb128.get (by decide) (hb125.get (by decide) (hF121.get (by decide) hk109))))))).trans (show fld w 35 3 = f35_65 from fld_of h35_67).symm), fun j hj => by
    rw [hq145] at hj
    exact (rwv_of ((((((hr111.fr hF121 (by decide)).but hb125 (by decide)).but hb128 (by decide)).but hb131 (by decide)).but hb134 (by decide)).but hb137 (by decide)) (by omega)).trans ((hx114 j hj).trans (rwv_of h36_69 (by omega)).symm)⟩
  have hq147 : fld w 37 3 = f37_77 := fld_of h37_79
  have hq146 : rwE w135 12 w 37 2 := ⟨((show fld w135 12 3 = f37_77 from fld_of (hb137.get (by decide) (hb134.get (by decide) (hb131.get (by decide) (hb128.get (by decide) (hb125.get (by decide) hk117)))))).trans (show fld w 37 3 = f37_77 from fld_of h37_79).symm), fun j hj => by
    rw [hq147] at hj
    exact (rwv_of (((((hr119.but hb125 (by decide)).but hb128 (by decide)).but hb131 (by decide)).but hb134 (by decide)).but hb137 (by decide)) (by omega)).trans ((hx122 j hj).trans (rwv_of h38_81 (by omega)).symm)⟩
  exact xg_e ⟨w135, ⟨rfl, rfl⟩, xInv.up (S := [4, 5, 6, 7, 8, 9, 10, 11, 12, 13, 3]) hI ((((((((((hF89.up (T := [4, 5, 6, 7, 8, 9, 10, 11, 12, 13, 3]) (by decide)).tr (hF97.up (T := [4, 5, 6, 7, 8, 9, 10, 11, 12, 13, 3]) (by decide))).tr (hF105.up (T := [4, 5, 6, 7, 8, 9, 10, 11, 12, 13, 3]) (by decide))).tr (hF113.up (T := [4, 5, 6, 7, 8, 9, 10, 11, 12, 13, 3]) (by decide))).tr (hF121.up (T := [4, 5, 6, 7, 8, 9, 10, 11, 12, 13, 3]) (by decide))).tr (xFr.of (S := [4, 5, 6, 7, 8, 9, 10, 11, 12, 13, 3]) hb125 (by decide))).tr (xFr.of (S := [4, 5, 6, 7, 8, 9, 10, 11, 12, 13, 3]) hb128 (by decide))).tr (xFr.of (S := [4, 5, 6, 7, 8, 9, 10, 11, 12, 13, 3]) hb131 (by decide))).tr (xFr.of (S := [4, 5, 6, 7, 8, 9, 10, 11, 12, 13, 3]) hb134 (by decide))).tr (xFr.of (S := [4, 5, 6, 7, 8, 9, 10, 11, 12, 13, 3]) hb137 (by decide))) (List.forall_mem_cons.mpr ⟨xqu4 (show cp4 (wget w135 4) from ⟨f29_29, (hb137.get (by decide) (hb134.get (by decide) (hb131.get (by decide) (hb128.get (by decide) (hb125.get (by decide) (hF121.get (by decide) (hF113.get (by decide) (hF105.get (by decide) (hF97.get (by decide) hk85))))))))), hb30⟩), List.forall_mem_cons.mpr ⟨xqu5 (show cpI 24 1 4294967295 (wget w135 5) from ⟨_, (((((((((hr87.fr hF97 (by decide)).fr hF105 (by decide)).fr hF113 (by decide)).fr hF121 (by decide)).but hb125 (by decide)).but hb128 (by decide)).but hb131 (by decide)).but hb134 (by decide)).but hb137 (by decide)), hb88⟩), List.forall_mem_cons.mpr ⟨xqu6 (show cp6 (wget w135 6) from ⟨f31_41, (hb137.get (by decide) (hb134.get (by decide) (hb131.get (by decide) (hb128.get (by decide) (hb125.get (by decide) (hF121.get (by decide) (hF113.get (by decide) (hF105.get (by decide) hk93)))))))), hb42⟩), List.forall_mem_cons.mpr ⟨xqu7 (show cpI 8 2 4294967295 (wget w135 7) from ⟨_, ((((((((hr95.fr hF105 (by decide)).fr hF113 (by decide)).fr hF121 (by decide)).but hb125 (by decide)).but hb128 (by decide)).but hb131 (by decide)).but hb134 (by decide)).but hb137 (by decide)), hb96⟩), List.forall_mem_cons.mpr ⟨xqu8 (show cp8 (wget w135 8) from ⟨f33_53, (hb137.get (by decide) (hb134.get (by decide) (hb131.get (by decide) (hb128.get (by decide) (hb125.get (by decide) (hF121.get (by decide) (hF113.get (by decide) hk101))))))), hb54⟩), List.forall_mem_cons.mpr ⟨xqu9 (show cpI 12 3 4294967295 (wget w135 9) from ⟨_, (((((((hr103.fr hF113 (by decide)).fr hF121 (by decide)).but hb125 (by decide)).but hb128 (by decide)).but hb131 (by decide)).but hb134 (by decide)).but hb137 (by decide)), hb104⟩), List.forall_mem_cons.mpr ⟨xqu10 (show cp10 (wget w135 10) from ⟨f35_65, (hb137.get (by decide) (hb134.get (by decide) (hb131.get (by decide) (hb128.get (by decide) (hb125.get (by decide) (hF121.get (by decide) hk109)))))), hb66⟩), List.forall_mem_cons.mpr ⟨xqu11 (show cpI 12 4 4294967295 (wget w135 11) from ⟨_, ((((((hr111.fr hF121 (by decide)).but hb125 (by decide)).but hb128 (by decide)).but hb131 (by decide)).but hb134 (by decide)).but hb137 (by decide)), hb112⟩), List.forall_mem_cons.mpr ⟨xqu12 (show cp12 (wget w135 12) from ⟨f37_77, (hb137.get (by decide) (hb134.get (by decide) (hb131.get (by decide) (hb128.get (by decide) (hb125.get (by decide) hk117))))), hb78⟩), List.forall_mem_cons.mpr ⟨xqu13 (show cpI 40 5 4294967295 (wget w135 13) from ⟨_, (((((hr119.but hb125 (by decide)).but hb128 (by decide)).but hb131 (by decide)).but hb134 (by decide)).but hb137 (by decide)), hb120⟩), List.forall_mem_cons.mpr ⟨xqu3 (show cp3 (wget w135 3) from xmC3 f28_12 f28_14 f28_16 f28_18 f28_20 hk136 hb13 hb15 hb17 hb19 hb21), fun _ h => absurd h List.not_mem_nil⟩⟩⟩⟩⟩⟩⟩⟩⟩⟩⟩), ((((((((((hF89.up (T := [3, 4, 5, 6, 7, 8, 9, 10, 11, 12, 13]) (by decide)).tr (hF97.up (T := [3, 4, 5, 6, 7, 8, 9, 10, 11, 12, 13]) (by decide))).tr (hF105.up (T := [3, 4, 5, 6, 7, 8, 9, 10, 11, 12, 13]) (by decide))).tr (hF113.up (T := [3, 4, 5, 6, 7, 8, 9, 10, 11, 12, 13]) (by decide))).tr (hF121.up (T := [3, 4, 5, 6, 7, 8, 9, 10, 11, 12, 13]) (by decide))).tr (xFr.of (S := [3, 4, 5, 6, 7, 8, 9, 10, 11, 12, 13]) hb125 (by decide))).tr (xFr.of (S := [3, 4, 5, 6, 7, 8, 9, 10, 11, 12, 13]) hb128 (by decide))).tr (xFr.of (S := [3, 4, 5, 6, 7, 8, 9, 10, 11, 12, 13]) hb131 (by decide))).tr (xFr.of (S := [3, 4, 5, 6, 7, 8, 9, 10, 11, 12, 13]) hb134 (by decide))).tr (xFr.of (S := [3, 4, 5, 6, 7, 8, 9, 10, 11, 12, 13]) hb137 (by decide))), ⟨⟨((show fld w135 3 5 = f28_12 from fld_of hk136).trans (show fld w 28 5 = f28_12 from fld_of h28_22).symm), ((show fld w135 3 6 = f28_14 from fld_of hk136).trans (show fld w 28 6 = f28_14 from fld_of h28_22).symm), ((show fld w135 3 7 = f28_16 from fld_of hk136).trans (show fld w 28 7 = f28_16 from fld_of h28_22).symm), ((show fld w135 3 8 = f28_18 from fld_of hk136).trans (show fld w 28 8 = f28_18 from fld_of h28_22).symm), ((show fld w135 3 9 = f28_20 from fld_of hk136).trans (show fld w 28 9 = f28_20 from fld_of h28_22).symm)⟩, hq138, hq140, hq142, hq144, hq146⟩⟩
theorem fmClearX (hI : xInv w)  : xPq (d + 1) mX1_clear [(2, 28)] w bd fc rr [] (fun w' => xInv w' ∧ xFr [28, 29, 31, 33, 35, 37] w w' ∧ (fld w' 29 3 = 0 ∧ fld w' 31 3 = 0 ∧ fld w' 33 3 = 0 ∧ fld w' 35 3 = 0 ∧ fld w' 37 3 = 0 ∧ fld w' 28 5 = 1 ∧ fld w' 28 6 = 1 ∧ fld w' 28 7 = 1 ∧ fld w' 28 8 = 1 ∧ fld w' 28 9 = 0)) := by
  refine xPq.of ?_
  show xTo (d + 1) mX1_clear (0, [], [(0, (2, 28))], [], (w, bd, fc, 0, 0, rr)) (fun φ => ∃ w', xEnd 0 [] (w', bd, fc, 0, 0, rr) φ ∧ xInv w' ∧ xFr [28, 29, 31, 33, 35, 37] w w' ∧ (fld w' 29 3 = 0 ∧ fld w' 31 3 = 0 ∧ fld w' 33 3 = 0 ∧ fld w' 35 3 = 0 ∧ fld w' 37 3 = 0 ∧ fld w' 28 5 = 1 ∧ fld w' 28 6 = 1 ∧ fld w' 28 7 = 1 ∧ fld w' 28 8 = 1 ∧ fld w' 28 9 = 0))
  refine xoC28 (xqc28 hI : cp28 (wget w 28)) (fun f28_1 f28_3 f28_5 f28_7 f28_9 h28_11 hb2 hb4 hb6 hb8 hb10 => ?_)
  obtain ⟨f29_12, h29_14, hb13⟩ := (xqc29 hI : cp29 (wget w 29))
  obtain ⟨f31_15, h31_17, hb16⟩ := (xqc31 hI : cp31 (wget w 31))
  obtain ⟨f33_18, h33_20, hb19⟩ := (xqc33 hI : cp33 (wget w 33))
  obtain ⟨f35_21, h35_23, hb22⟩ := (xqc35 hI : cp35 (wget w 35))
  obtain ⟨f37_24, h37_26, hb25⟩ := (xqc37 hI : cp37 (wget w 37))
  refine xg_t (xg_blq rfl) ?_
  refine xg_t (xg_aload (va := (2, 28)) rfl rfl) ?_
  refine xg_t (xg_getf (va := (2, 29)) h28_11 rfl) ?_
  refine xg_cV mX5_clear (vs := []) (rest := []) (rs := []) (cn1 := 0) (sl1 := 0) rfl (rclear_ok h29_14) rfl h29_14 rfl rfl rfl rfl rfl rfl rfl (fun w27 hq28 => ?_)
  refine xg_t (xg_aload (va := (2, 28)) rfl rfl) ?_
  refine xg_t (xg_getf (va := (2, 31)) (hq28.2.get (by decide) h28_11) rfl) ?_
  refine xg_cV mX5_clear (vs := []) (rest := []) (rs := []) (cn1 := 0) (sl1 := 0) rfl (rclear_ok (hq28.2.get (by decide) h31_17)) rfl (hq28.2.get (by decide) h31_17) rfl rfl rfl rfl rfl rfl rfl (fun w29 hq30 => ?_)
  refine xg_t (xg_aload (va := (2, 28)) rfl rfl) ?_
  refine xg_t (xg_getf (va := (2, 33)) (hq30.2.get (by decide) (hq28.2.get (by decide) h28_11)) rfl) ?_
  refine xg_cV mX5_clear (vs := []) (rest := []) (rs := []) (cn1 := 0) (sl1 := 0) rfl (rclear_ok (hq30.2.get (by decide) (hq28.2.get (by decide) h33_20))) rfl (hq30.2.get (by decide) (hq28.2.get (by decide) h33_20)) rfl rfl rfl rfl rfl rfl rfl (fun w31 hq32 => ?_)
  refine xg_t (xg_aload (va := (2, 28)) rfl rfl) ?_
  refine xg_t (xg_getf (va := (2, 35)) (hq32.2.get (by decide) (hq30.2.get (by decide) (hq28.2.get (by decide) h28_11))) rfl) ?_
  refine xg_cV mX5_clear (vs := []) (rest := []) (rs := []) (cn1 := 0) (sl1 := 0) rfl (rclear_ok (hq32.2.get (by decide) (hq30.2.get (by decide) (hq28.2.get (by decide) h35_23)))) rfl (hq32.2.get (by decide) (hq30.2.get (by decide) (hq28.2.get (by decide) h35_23))) rfl rfl rfl rfl rfl rfl rfl (fun w33 hq34 => ?_)
  refine xg_t (xg_aload (va := (2, 28)) rfl rfl) ?_
  refine xg_t (xg_getf (va := (2, 37)) (hq34.2.get (by decide) (hq32.2.get (by decide) (hq30.2.get (by decide) (hq28.2.get (by decide) h28_11)))) rfl) ?_
  refine xg_cV mX5_clear (vs := []) (rest := []) (rs := []) (cn1 := 0) (sl1 := 0) rfl (rclear_ok (hq34.2.get (by decide) (hq32.2.get (by decide) (hq30.2.get (by decide) (hq28.2.get (by decide) h37_26))))) rfl (hq34.2.get (by decide) (hq32.2.get (by decide) (hq30.2.get (by decide) (hq28.2.get (by decide) h37_26)))) rfl rfl rfl rfl rfl rfl rfl (fun w35 hq36 => ?_)
  refine xg_t (xg_aload (va := (2, 28)) rfl rfl) ?_
  refine xg_t (xg_const) ?_
  refine xg_putI (fl1 := [(2, 29), (2, 31), (2, 33), (2, 35), (2, 37), (0, 1), (0, f28_3), (0, f28_5), (0, f28_7), (0, f28_9)]) (hq36.2.get (by decide) (hq34.2.get (by decide) (hq32.2.get (by decide) (hq30.2.get (by decide) (hq28.2.get (by decide) h28_11))))) rfl rfl rfl (fun w37 hk38 hb39 => ?_)
  refine xg_t (xg_aload (va := (2, 28)) rfl rfl) ?_
  refine xg_t (xg_const) ?_
  refine xg_putI (fl1 := [(2, 29), (2, 31), (2, 33), (2, 35), (2, 37), (0, 1), (0, 1), (0, f28_5), (0, f28_7), (0, f28_9)]) hk38 rfl rfl rfl (fun w40 hk41 hb42 => ?_)
  refine xg_t (xg_aload (va := (2, 28)) rfl rfl) ?_
  refine xg_t (xg_const) ?_
  refine xg_putI (fl1 := [(2, 29), (2, 31), (2, 33), (2, 35), (2, 37), (0, 1), (0, 1), (0, 1), (0, f28_7), (0, f28_9)]) hk41 rfl rfl rfl (fun w43 hk44 hb45 => ?_)
  refine xg_t (xg_aload (va := (2, 28)) rfl rfl) ?_
  refine xg_t (xg_const) ?_
  refine xg_putI (fl1 := [(2, 29), (2, 31), (2, 33), (2, 35), (2, 37), (0, 1), (0, 1), (0, 1), (0, 1), (0, f28_9)]) hk44 rfl rfl rfl (fun w46 hk47 hb48 => ?_)
  refine xg_t (xg_aload (va := (2, 28)) rfl rfl) ?_
  refine xg_t (xg_const) ?_
  refine xg_putI (fl1 := [(2, 29), (2, 31), (2, 33), (2, 35), (2, 37), (0, 1), (0, 1), (0, 1), (0, 1), (0, 0)]) hk47 rfl rfl rfl (fun w49 hk50 hb51 => ?_)
  exact xg_e ⟨w49, ⟨rfl, rfl⟩, xInv.up (S := [29, 31, 33, 35, 37, 28]) hI ((((((((((xFr.of (S := [29, 31, 33, 35, 37, 28]) hq28.2 (by decide)).tr (xFr.of (S := [29, 31, 33, 35, 37, 28]) hq30.2 (by decide))).tr (xFr.of (S := [29, 31, 33, 35, 37, 28]) hq32.2 (by decide))).tr (xFr.of (S := [29, 31, 33, 35, 37, 28]) hq34.2 (by decide))).tr (xFr.of (S := [29, 31, 33, 35, 37, 28]) hq36.2 (by decide))).tr (xFr.of (S := [29, 31, 33, 35, 37, 28]) hb39 (by decide))).tr (xFr.of (S := [29, 31, 33, 35, 37, 28]) hb42 (by decide))).tr (xFr.of (S := [29, 31, 33, 35, 37, 28]) hb45 (by decide))).tr (xFr.of (S := [29, 31, 33, 35, 37, 28]) hb48 (by decide))).tr (xFr.of (S := [29, 31, 33, 35, 37, 28]) hb51 (by decide))) (List.forall_mem_cons.mpr ⟨xqu29 (show cp29 (wget w49 29) from ⟨0, (hb51.get (by decide) (hb48.get (by decide) (hb45.get (by decide) (hb42.get (by decide) (hb39.get (by decide) (hq36.2.get (by decide) (hq34.2.get (by decide) (hq32.2.get (by decide) (hq30.2.get (by decide) hq28.1))))))))), by decide⟩), List.forall_mem_cons.mpr ⟨xqu31 (show cp31 (wget w49 31) from ⟨0, (hb51.get (by decide) (hb48.get (by decide) (hb45.get (by decide) (hb42.get (by decide) (hb39.get (by decide) (hq36.2.get (by decide) (hq34.2.get (by decide) (hq32.2.get (by decide) hq30.1)))))))), by decide⟩), List.forall_mem_cons.mpr ⟨xqu33 (show cp33 (wget w49 33) from ⟨0, (hb51.get (by decide) (hb48.get (by decide) (hb45.get (by decide) (hb42.get (by decide) (hb39.get (by decide) (hq36.2.get (by decide) (hq34.2.get (by decide) hq32.1))))))), by decide⟩), List.forall_mem_cons.mpr ⟨xqu35 (show cp35 (wget w49 35) from ⟨0, (hb51.get (by decide) (hb48.get (by decide) (hb45.get (by decide) (hb42.get (by decide) (hb39.get (by decide) (hq36.2.get (by decide) hq34.1)))))), by decide⟩), List.forall_mem_cons.mpr ⟨xqu37 (show cp37 (wget w49 37) from ⟨0, (hb51.get (by decide) (hb48.get (by decide) (hb45.get (by decide) (hb42.get (by decide) (hb39.get (by decide) hq36.1))))), by decide⟩), List.forall_mem_cons.mpr ⟨xqu28 (show cp28 (wget w49 28) from xmC28 1 1 1 1 0 hk50 (by decide) (by decide) (by decide) (by decide) (by decide)), fun _ h => absurd h List.not_mem_nil⟩⟩⟩⟩⟩⟩), ((((((((((xFr.of (S := [28, 29, 31, 33, 35, 37]) hq28.2 (by decide)).tr (xFr.of (S := [28, 29, 31, 33, 35, 37]) hq30.2 (by decide))).tr (xFr.of (S := [28, 29, 31, 33, 35, 37]) hq32.2 (by decide))).tr (xFr.of (S := [28, 29, 31, 33, 35, 37]) hq34.2 (by decide))).tr (xFr.of (S := [28, 29, 31, 33, 35, 37]) hq36.2 (by decide))).tr (xFr.of (S := [28, 29, 31, 33, 35, 37]) hb39 (by decide))).tr (xFr.of (S := [28, 29, 31, 33, 35, 37]) hb42 (by decide))).tr (xFr.of (S := [28, 29, 31, 33, 35, 37]) hb45 (by decide))).tr (xFr.of (S := [28, 29, 31, 33, 35, 37]) hb48 (by decide))).tr (xFr.of (S := [28, 29, 31, 33, 35, 37]) hb51 (by decide))), ⟨fld_of (hb51.get (by decide) (hb48.get (by decide) (hb45.get (by decide) (hb42.get (by decide) (hb39.get (by decide) (hq36.2.get (by decide) (hq34.2.get (by decide) (hq32.2.get (by decide) (hq30.2.get (by decide) hq28.1))))))))), fld_of (hb51.get (by decide) (hb48.get (by decide) (hb45.get (by decide) (hb42.get (by decide) (hb39.get (by decide) (hq36.2.get (by decide) (hq34.2.get (by decide) (hq32.2.get (by decide) hq30.1)))))))), fld_of (hb51.get (by decide) (hb48.get (by decide) (hb45.get (by decide) (hb42.get (by decide) (hb39.get (by decide) (hq36.2.get (by decide) (hq34.2.get (by decide) hq32.1))))))), fld_of (hb51.get (by decide) (hb48.get (by decide) (hb45.get (by decide) (hb42.get (by decide) (hb39.get (by decide) (hq36.2.get (by decide) hq34.1)))))), fld_of (hb51.get (by decide) (hb48.get (by decide) (hb45.get (by decide) (hb42.get (by decide) (hb39.get (by decide) hq36.1))))), fld_of hk50, fld_of hk50, fld_of hk50, fld_of hk50, fld_of hk50⟩⟩
theorem ftBesZ (hI : xInv w) (hv : fld w 27 9 ≠ 0) : xPq (d + 1) mX2_findFlawBeside [(2, 27)] w bd fc rr [] (fun w' => xInv w' ∧ xFr [27] w w' ∧ (fld w' 27 9 = fld w 27 9 ∧ fld w' 27 10 = fld w 27 10)) := by
  refine xPq.of ?_
  show xTo (d + 1) mX2_findFlawBeside (0, [], [(0, (2, 27))], [], (w, bd, fc, 0, 0, rr)) (fun φ => ∃ w', xEnd 0 [] (w', bd, fc, 0, 0, rr) φ ∧ xInv w' ∧ xFr [27] w w' ∧ (fld w' 27 9 = fld w 27 9 ∧ fld w' 27 10 = fld w 27 10))
  refine xoC27 (xqc27 hI : cp27 (wget w 27)) (fun f27_1 f27_3 f27_5 f27_7 f27_9 h27_11 hb2 hb4 hb6 hb8 hb10 => ?_)
  have hq12 : fld w 27 9 = f27_7 := fld_of h27_11
  have hq13 : fld w 27 10 = f27_9 := fld_of h27_11
  refine xg_t (xg_blq rfl) ?_
  refine xg_t (xg_const) ?_
  refine xg_t (xg_istore (l1 := [(0, (2, 27))]) rfl rfl rfl) ?_
  refine xg_t (xg_blq rfl) ?_
  refine xg_t (xg_aload (va := (2, 27)) rfl rfl) ?_
  refine xg_t (xg_getf (va := (0, f27_7)) h27_11 rfl) ?_
  refine xg_t (xg_ifT (u := f27_7) rfl xnm0 (xj_neT (by omega))) ?_
  refine xg_t (xg_blq rfl) ?_
  exact xg_e ⟨w, ⟨rfl, rfl⟩, hI, xFr.rf, ⟨rfl, rfl⟩⟩
set_option maxHeartbeats 60000000 in
theorem ftReadF {B : Nat → Nat} {nn : Nat} (hI : xInv w) (hB : bsr w B nn) (hnn : fld w 1 1 = nn) : xPi (d + 7) mX2_readFilm [(2, 27)] w bd fc rr (fun n w' => (FRes B nn n (fld w' 1 2) (fld w' 1 3) ∧ fld w' 1 1 = 0 ∧ fld w' 1 6 = fld w 1 6 ∧ fld w' 1 7 = fld w 1 7 ∧ fld w' 1 9 = fld w 1 9 ∧ (n = 4294967295 → ∀ c, 3 ≤ c → c < 26 → wget w' c = wget w c) ∧ (n ≠ 4294967295 → FLM B nn w' n ∧ fld w' 14 3 = 0 ∧ fld w' 16 3 = 0 ∧ ∀ c, 18 ≤ c → c < 26 → wget w' c = wget w c)) ∧ xInv w' ∧ xFr [1, 3, 4, 5, 6, 7, 8, 9, 10, 11, 12, 13, 14, 15, 16, 17, 27, 28, 29, 30, 31, 32, 33, 34, 35, 36, 37, 38, 39, 40, 41, 42] w w') := by
  refine xPi.of ?_
  show xTo (d + 7) mX2_readFilm (0, [], [(0, (2, 27))], [], (w, bd, fc, 0, 0, rr)) (fun φ => ∃ n w', xEnd 1 [(0, n)] (w', bd, fc, 0, 0, rr) φ ∧ (FRes B nn n (fld w' 1 2) (fld w' 1 3) ∧ fld w' 1 1 = 0 ∧ fld w' 1 6 = fld w 1 6 ∧ fld w' 1 7 = fld w 1 7 ∧ fld w' 1 9 = fld w 1 9 ∧ (n = 4294967295 → ∀ c, 3 ≤ c → c < 26 → wget w' c = wget w c) ∧ (n ≠ 4294967295 → FLM B nn w' n ∧ fld w' 14 3 = 0 ∧ fld w' 16 3 = 0 ∧ ∀ c, 18 ≤ c → c < 26 → wget w' c = wget w c)) ∧ xInv w' ∧ xFr [1, 3, 4, 5, 6, 7, 8, 9, 10, 11, 12, 13, 14, 15, 16, 17, 27, 28, 29, 30, 31, 32, 33, 34, 35, 36, 37, 38, 39, 40, 41, 42] w w')
  refine xoC27 (xqc27 hI : cp27 (wget w 27)) (fun f27_1 f27_3 f27_5 f27_7 f27_9 h27_11 hb2 hb4 hb6 hb8 hb10 => ?_)
  refine xoC1 (xqc1 hI : cp1 (wget w 1)) (fun f1_12 f1_14 f1_16 f1_18 f1_20 f1_22 h1_24 hb13 hb15 hb17 hb19 hb21 hb23 => ?_)
  have hq25 : fld w 1 1 = f1_12 := fld_of h1_24
  refine xg_t (xg_blq rfl) ?_
  refine xg_t (xg_aload (va := (2, 27)) rfl rfl) ?_
  refine xg_t (xg_getf (va := (2, 28)) h27_11 rfl) ?_
  refine xoC28 (xqc28 hI : cp28 (wget w 28)) (fun f28_26 f28_28 f28_30 f28_32 f28_34 h28_36 hb27 hb29 hb31 hb33 hb35 => ?_)
  refine xg_cVv mX1_clear (vs := []) (rest := []) (cn1 := 0) (sl1 := 0) rfl (fmClearX (hI)) rfl h28_36 rfl rfl rfl rfl rfl rfl (fun w37 hq38 => ?_)
  obtain ⟨hI39, hF40, hx41⟩ := hq38
  obtain ⟨hc42, hc43, hc44, hc45, hc46, hc47, hc48, hc49, hc50, hc51⟩ := hx41
  refine xg_t (xg_aload (va := (2, 27)) rfl rfl) ?_
  refine xg_t (xg_const) ?_
  refine xg_putZ (fl1 := [(2, 1), (2, 42), (2, 28), (2, 39), (2, 40), (2, 41), (0, f27_1), (0, 0), (0, f27_5), (0, f27_7), (0, f27_9)]) (hF40.get (by decide) h27_11) rfl rfl rfl (fun w52 hk53 hb54 => ?_)
  refine xg_t (xg_aload (va := (2, 27)) rfl rfl) ?_
  refine xg_t (xg_const) ?_
  refine xg_putZ (fl1 := [(2, 1), (2, 42), (2, 28), (2, 39), (2, 40), (2, 41), (0, f27_1), (0, 0), (0, 0), (0, f27_7), (0, f27_9)]) hk53 rfl rfl rfl (fun w55 hk56 hb57 => ?_)
  refine xg_t (xg_aload (va := (2, 27)) rfl rfl) ?_
  refine xg_t (xg_const) ?_
  refine xg_putI (fl1 := [(2, 1), (2, 42), (2, 28), (2, 39), (2, 40), (2, 41), (0, f27_1), (0, 0), (0, 0), (0, 0), (0, f27_9)]) hk56 rfl rfl rfl (fun w58 hk59 hb60 => ?_)
  refine xg_t (xg_aload (va := (2, 27)) rfl rfl) ?_
  refine xg_t (xg_getf (va := (2, 42)) hk59 rfl) ?_
  refine xg_t (xg_aload (va := (2, 27)) rfl rfl) ?_
  refine xg_t (xg_getf (va := (2, 1)) hk59 rfl) ?_
  refine xg_t (xg_getf (va := (0, f1_12)) (hb60.get (by decide) (hb57.get (by decide) (hb54.get (by decide) (hF40.get (by decide) h1_24)))) rfl) ?_
  have he61 : f1_12 = nn := by omega
  have hB62 : bsr w58 B f1_12 := by rw [he61]; exact (hB.fr ((hb60.1 2 (by decide)).trans ((hb57.1 2 (by decide)).trans ((hb54.1 2 (by decide)).trans (hF40.1 2 (by decide))))))
  refine xoC42 (xqc42 hI39 : cp42 (wget w37 42)) (fun f42_63 f42_65 f42_67 f42_69 f42_71 h42_73 hb64 hb66 hb68 hb70 hb72 hb74 => ?_)
  refine xg_cVv mX8_start (vs := [(0, f1_12)]) (rest := []) (cn1 := 0) (sl1 := 0) rfl (tkStaX42 (xInv.up (S := [27]) hI39 (((xFr.of (S := [27]) hb54 (by decide)).tr (xFr.of (S := [27]) hb57 (by decide))).tr (xFr.of (S := [27]) hb60 (by decide))) (List.forall_mem_cons.mpr ⟨xqu27 (show cp27 (wget w58 27) from xmC27 f27_1 0 0 0 f27_9 hk59 hb2 (by decide) (by decide) (by decide) hb10), fun _ h => absurd h List.not_mem_nil⟩)) (by have := hB.1; omega) hB62) rfl (hb60.get (by decide) (hb57.get (by decide) (hb54.get (by decide) h42_73))) rfl rfl rfl rfl rfl rfl (fun w75 hq76 => ?_)
  obtain ⟨hI77, hF78, hx79⟩ := hq76
  rw [he61] at hx79
  refine xoC28 (xqc28 hI77 : cp28 (wget w75 28)) (fun f28_80 f28_82 f28_84 f28_86 f28_88 h28_90 hb81 hb83 hb85 hb87 hb89 => ?_)
  have hS97 : CST B nn w75 0 := by
    refine ⟨show fld w75 27 9 = 0 from fld_of (hF78.get (by decide) hk59), fun z => absurd rfl z, fun _ => ⟨⟨((fld_eq (j := 3) ((hF78.1 29 (by decide)).trans ((hb60.1 29 (by decide)).trans ((hb57.1 29 (by decide)).trans (hb54.1 29 (by decide)))))).trans hc42), ((fld_eq (j := 3) ((hF78.1 31 (by decide)).trans ((hb60.1 31 (by decide)).trans ((hb57.1 31 (by decide)).trans (hb54.1 31 (by decide)))))).trans hc43), ((fld_eq (j := 3) ((hF78.1 33 (by decide)).trans ((hb60.1 33 (by decide)).trans ((hb57.1 33 (by decide)).trans (hb54.1 33 (by decide)))))).trans hc44), ((fld_eq (j := 3) ((hF78.1 35 (by decide)).trans ((hb60.1 35 (by decide)).trans ((hb57.1 35 (by decide)).trans (hb54.1 35 (by decide)))))).trans hc45), ((fld_eq (j := 3) ((hF78.1 37 (by decide)).trans ((hb60.1 37 (by decide)).trans ((hb57.1 37 (by decide)).trans (hb54.1 37 (by decide)))))).trans hc46), show fld w75 27 7 = 0 from fld_of (hF78.get (by decide) hk59), show fld w75 27 8 = 0 from fld_of (hF78.get (by decide) hk59)⟩, RCN.zero (fun s h56 => ?_), fun i hi => absurd hi (Nat.not_lt_zero _)⟩⟩
    rcases h56 with rfl | rfl
    · exact ⟨((fld_eq (j := 5) ((hF78.1 28 (by decide)).trans ((hb60.1 28 (by decide)).trans ((hb57.1 28 (by decide)).trans (hb54.1 28 (by decide)))))).trans hc47), ((fld_eq (j := 6) ((hF78.1 28 (by decide)).trans ((hb60.1 28 (by decide)).trans ((hb57.1 28 (by decide)).trans (hb54.1 28 (by decide)))))).trans hc48)⟩
    · exact ⟨((fld_eq (j := 7) ((hF78.1 28 (by decide)).trans ((hb60.1 28 (by decide)).trans ((hb57.1 28 (by decide)).trans (hb54.1 28 (by decide)))))).trans hc49), ((fld_eq (j := 8) ((hF78.1 28 (by decide)).trans ((hb60.1 28 (by decide)).trans ((hb57.1 28 (by decide)).trans (hb54.1 28 (by decide)))))).trans hc50)⟩
  have h098 : f28_88 = 0 := (fld_of h28_90 : fld w75 28 9 = f28_88).symm.trans ((fld_eq (j := 9) ((hF78.1 28 (by decide)).trans ((hb60.1 28 (by decide)).trans ((hb57.1 28 (by decide)).trans (hb54.1 28 (by decide)))))).trans hc51)
  have key91 : ∀ (m93 : Nat) (p5 p6 p7 p8 lf : Nat) (w94 : List (List xE)), 500 - lf < m93 → p5 ≤ 10 → p6 ≤ 10 → p7 ≤ 6 → p8 ≤ 6 → lf ≤ 500 → wget w94 28 = some (.inl (1, [(2, 29), (2, 31), (2, 33), (2, 35), (2, 37), (0, p5), (0, p6), (0, p7), (0, p8), (0, lf)])) → xInv w94 → xFr [1, 3, 4, 5, 6, 7, 8, 9, 10, 11, 12, 13, 14, 15, 16, 17, 27, 28, 29, 30, 31, 32, 33, 34, 35, 36, 37, 38, 39, 40, 41, 42] w w94 → (TKw 42 B nn w94 (lnP B nn lf) ∧ CST B nn w94 lf ∧ (∀ i, i < lf → (lnR B nn (lnP B nn i)).1 = true) ∧ (∀ c, c < 27 → wget w94 c = wget w c)) → xTo (d + 7) mX2_readFilm (36, [], [(0, (2, 27))], [], (w94, bd, fc, 0, 0, rr)) (fun φ => ∃ n w', xEnd 1 [(0, n)] (w', bd, fc, 0, 0, rr) φ ∧ (FRes B nn n (fld w' 1 2) (fld w' 1 3) ∧ fld w' 1 1 = 0 ∧ fld w' 1 6 = fld w 1 6 ∧ fld w' 1 7 = fld w 1 7 ∧ fld w' 1 9 = fld w 1 9 ∧ (n = 4294967295 → ∀ c, 3 ≤ c → c < 26 → wget w' c = wget w c) ∧ (n ≠ 4294967295 → FLM B nn w' n ∧ fld w' 14 3 = 0 ∧ fld w' 16 3 = 0 ∧ ∀ c, 18 ≤ c → c < 26 → wget w' c = wget w c)) ∧ xInv w' ∧ xFr [1, 3, 4, 5, 6, 7, 8, 9, 10, 11, 12, 13, 14, 15, 16, 17, 27, 28, 29, 30, 31, 32, 33, 34, 35, 36, 37, 38, 39, 40, 41, 42] w w') := by
    intro m93
    induction m93 with
    | zero => intro p5 p6 p7 p8 lf w94 hz; exact absurd hz (Nat.not_lt_zero _)
    | succ m93 ih92 =>
      intro p5 p6 p7 p8 lf w94 hm106 hn99 hn100 hn101 hn102 hn103 hcl104 hI95 hF96 he105
      obtain ⟨he107, he108, he109, he110⟩ := he105
      obtain ⟨⟨ht111, ht112, ht113, ht114, ht115⟩, ht116⟩ := id he107
      refine xoC42 (xqc42 hI95 : cp42 (wget w94 42)) (fun f42_117 f42_119 f42_121 f42_123 f42_125 h42_127 hb118 hb120 hb122 hb124 hb126 hb128 => ?_)
      have hq129 : fld w94 42 2 = f42_119 := fld_of h42_127
      refine xg_t (xg_blq rfl) ?_
      refine xg_t (xg_aload (va := (2, 27)) rfl rfl) ?_
      refine xoC27 (xqc27 hI95 : cp27 (wget w94 27)) (fun f27_130 f27_132 f27_134 f27_136 f27_138 h27_140 hb131 hb133 hb135 hb137 hb139 => ?_)
      refine xg_t (xg_getf (va := (2, 28)) h27_140 rfl) ?_
      refine xg_t (xg_getf (va := (0, lf)) hcl104 rfl) ?_
      refine xg_t (xg_sip) ?_
      by_cases hc141 : lf < 500
      · refine xg_t (xg_icF (u := lf) (v := 500) rfl xnm0 xnm0 (xj_geF hc141 (by omega))) ?_
        refine xg_t (xg_aload (va := (2, 27)) rfl rfl) ?_
        refine xg_t (xg_getf (va := (2, 42)) h27_140 rfl) ?_
        refine xg_t (xg_getf (va := (0, f42_119)) h42_127 rfl) ?_
        by_cases hc142 : f42_119 = 0
        · refine xg_t (xg_ifT (u := f42_119) rfl xnm0 (xj_eqT hc142)) ?_
          refine xg_t (xg_blq rfl) ?_
          have hend : tkd B nn (lnP B nn lf) = 0 := by
            by_cases z : tkd B nn (lnP B nn lf) = 0
            · exact z
            · have z1 := (tf_gt z).1
              have z2 := tq_ge (B := B) (n := nn) (p := lnP B nn lf)
              have z3 := lnP_ge he109
              have z4 := hB.1
              omega
          have hnok : ¬ (lnR B nn (lnP B nn lf)).1 = true := by rw [lnR_0 hend]; exact Bool.false_ne_true
          refine xg_t (xg_aload (va := (2, 27)) rfl rfl) ?_
          have hS1 := he108.1
          have hv9 : (flA B nn lf).1 = 0 → ∀ j, j < 2 * fld w94 37 3 → rwv w94 38 j ≤ 9 := fun z => he108.fl9 z
          by_cases h0144 : (flA B nn lf).1 = 0
          · refine xg_cVv mX2_findFlawBeside (vs := []) (rest := []) (cn1 := 0) (sl1 := 0) rfl (ftBesX (hI95) (hv9 h0144)) rfl h27_140 rfl rfl rfl rfl rfl rfl (fun w145 hq146 => ?_)
            obtain ⟨hI147, hF148, hx149⟩ := hq146
            rcases hx149 with ⟨z1, -⟩ | ⟨-, z2, z3⟩ | ⟨-, z2, z3⟩
            · exact absurd (he108.1.trans h0144) z1
            · refine xoC27 (xqc27 hI147 : cp27 (wget w145 27)) (fun f27_150 f27_152 f27_154 f27_156 f27_158 h27_160 hb151 hb153 hb155 hb157 hb159 => ?_)
              have hq161 : fld w145 27 9 = f27_156 := fld_of h27_160
              have hq162 : fld w145 27 10 = f27_158 := fld_of h27_160
              have kw163 : ∀ c, c < 27 → wget w145 c = wget w c := fun c hc => (hF148.1 c (nin27s hc)).trans (he110 c hc)
              refine xg_t (xg_aload (va := (2, 27)) rfl rfl) ?_
              refine xg_t (xg_getf (va := (2, 1)) h27_160 rfl) ?_
              refine xg_t (xg_aload (va := (2, 27)) rfl rfl) ?_
              refine xg_t (xg_getf (va := (0, f27_156)) h27_160 rfl) ?_
              refine xg_t (xg_aload (va := (2, 27)) rfl rfl) ?_
              refine xg_t (xg_getf (va := (0, f27_158)) h27_160 rfl) ?_
              refine xoC1 (xqc1 hI147 : cp1 (wget w145 1)) (fun f1_164 f1_166 f1_168 f1_170 f1_172 f1_174 h1_176 hb165 hb167 hb169 hb171 hb173 hb175 => ?_)
              refine xg_cVv mX9_take (vs := [(0, f27_156), (0, f27_158)]) (rest := []) (cn1 := 0) (sl1 := 0) rfl (tdTakeF (hI147) (by omega) (by omega)) rfl h1_176 rfl rfl rfl rfl rfl rfl (fun w177 hq178 => ?_)
              obtain ⟨hI179, hF180, hx181⟩ := hq178
              obtain ⟨ht182, ht183, ht184, ht185, ht186, ht187⟩ := hx181
              have k188 : fld w177 1 6 = fld w 1 6 := ht185.trans (fld_eq (j := 6) (kw163 1 (by decide)))
              have k189 : fld w177 1 7 = fld w 1 7 := ht186.trans (fld_eq (j := 7) (kw163 1 (by decide)))
              have k190 : fld w177 1 9 = fld w 1 9 := ht187.trans (fld_eq (j := 9) (kw163 1 (by decide)))
              refine xg_t (xg_aload (va := (2, 27)) rfl rfl) ?_
              refine xg_t (xg_getf (va := (0, f27_156)) (hF180.get (by decide) h27_160) rfl) ?_
              refine xg_t (xg_ifT (u := f27_156) rfl xnm0 (xj_eqT (by omega))) ?_
              refine xg_t (xg_blq rfl) ?_
              refine xg_t (xg_aload (va := (2, 27)) rfl rfl) ?_
              refine xg_t (xg_getf (va := (2, 1)) (hF180.get (by decide) h27_160) rfl) ?_
              refine xoC1 (xqc1 hI179 : cp1 (wget w177 1)) (fun f1_191 f1_193 f1_195 f1_197 f1_199 f1_201 h1_203 hb192 hb194 hb196 hb198 hb200 hb202 => ?_)
              refine xg_t (xg_getf (va := (2, 3)) h1_203 rfl) ?_
              refine xg_t (xg_aload (va := (2, 27)) rfl rfl) ?_
              refine xg_t (xg_getf (va := (2, 28)) (hF180.get (by decide) h27_160) rfl) ?_
              refine xoC3 (xqc3 hI179 : cp3 (wget w177 3)) (fun f3_204 f3_206 f3_208 f3_210 f3_212 h3_214 hb205 hb207 hb209 hb211 hb213 => ?_)
              refine xg_cVv mX1_copy (vs := [(2, 28)]) (rest := []) (cn1 := 0) (sl1 := 0) rfl (fmCopyE (hI179)) rfl h3_214 rfl rfl rfl rfl rfl rfl (fun w215 hq216 => ?_)
              obtain ⟨hI217, hF218, hx219⟩ := hq216
              refine xg_t (xg_aload (va := (2, 27)) rfl rfl) ?_
              refine xg_t (xg_getf (va := (2, 1)) (hF218.get (by decide) (hF180.get (by decide) h27_160)) rfl) ?_
              refine xg_t (xg_getf (va := (2, 14)) (hF218.get (by decide) h1_203) rfl) ?_
              obtain ⟨f14_220, h14_222, hb221⟩ := (xqc14 hI217 : cp14 (wget w215 14))
              refine xg_cV mX5_clear (vs := []) (rest := []) (rs := []) (cn1 := 0) (sl1 := 0) rfl (rclear_ok h14_222) rfl h14_222 rfl rfl rfl rfl rfl rfl rfl (fun w223 hq224 => ?_)
              refine xg_t (xg_aload (va := (2, 27)) rfl rfl) ?_
              refine xg_t (xg_getf (va := (2, 1)) (hq224.2.get (by decide) (hF218.get (by decide) (hF180.get (by decide) h27_160))) rfl) ?_
              refine xg_t (xg_getf (va := (2, 16)) (hq224.2.get (by decide) (hF218.get (by decide) h1_203)) rfl) ?_
              obtain ⟨f16_225, h16_227, hb226⟩ := (xqc16 hI217 : cp16 (wget w215 16))
              refine xg_cV mX5_clear (vs := []) (rest := []) (rs := []) (cn1 := 0) (sl1 := 0) rfl (rclear_ok (hq224.2.get (by decide) h16_227)) rfl (hq224.2.get (by decide) h16_227) rfl rfl rfl rfl rfl rfl rfl (fun w228 hq229 => ?_)
              refine xg_t (xg_aload (va := (2, 27)) rfl rfl) ?_
              refine xg_t (xg_getf (va := (2, 28)) (hq229.2.get (by decide) (hq224.2.get (by decide) (hF218.get (by decide) (hF180.get (by decide) h27_160)))) rfl) ?_
              refine xg_t (xg_getf (va := (0, lf)) (hq229.2.get (by decide) (hq224.2.get (by decide) (hF218.get (by decide) (hF180.get (by decide) (hF148.get (by decide) hcl104))))) rfl) ?_
              have hR230 : FRes B nn lf (fld w228 1 2) (fld w228 1 3) := by
                rw [((fld_eq (j := 2) ((hq229.2.1 1 (by decide)).trans ((hq224.2.1 1 (by decide)).trans (hF218.1 1 (by decide))))).trans ht183), ((fld_eq (j := 3) ((hq229.2.1 1 (by decide)).trans ((hq224.2.1 1 (by decide)).trans (hF218.1 1 (by decide))))).trans ht184)]
                obtain ⟨-, hR_, hP_⟩ := he108.2.2 h0144
                obtain ⟨hz_, -, -⟩ := he108.2.2 h0144
                obtain ⟨-, -, -, -, z4_, -, -⟩ := hz_
                refine ⟨lf, he109, hnok, Or.inr (Or.inr ⟨hend, h0144, XC w94, rwv w94 41, hR_, hP_, Or.inr ⟨rfl, by omega, ?_, by omega, fun j hj => z3 j (by omega)⟩⟩)⟩
                rw [if_pos (by omega)]
              obtain ⟨⟨zz232, zz233, zz234, zz235, zz236, -, -⟩, hR237, -⟩ := he108.2.2 h0144
              have hR238 : RCN B nn lf (XC w177) := by rw [((XC_fr hF180 (by decide)).trans (XC_fr hF148 (by decide)))]; exact hR237
              have hE231 : fmE w228 3 w177 28 := hx219.tr0 (fun o ho => (hq229.2.1 (3 + o) (by omega)).trans (hq224.2.1 (3 + o) (by omega))) (fun _ _ => rfl)
              exact xg_e ⟨lf, w228, ⟨rfl, rfl⟩, ⟨hR230, ((fld_eq (j := 1) ((hq229.2.1 1 (by decide)).trans ((hq224.2.1 1 (by decide)).trans (hF218.1 1 (by decide))))).trans ht182), ((fld_eq (j := 6) ((hq229.2.1 1 (by decide)).trans ((hq224.2.1 1 (by decide)).trans (hF218.1 1 (by decide))))).trans k188), ((fld_eq (j := 7) ((hq229.2.1 1 (by decide)).trans ((hq224.2.1 1 (by decide)).trans (hF218.1 1 (by decide))))).trans k189), ((fld_eq (j := 9) ((hq229.2.1 1 (by decide)).trans ((hq224.2.1 1 (by decide)).trans (hF218.1 1 (by decide))))).trans k190), fun y => absurd y (by have := hB.1; omega), fun _ => ⟨FLM.cp hE231 ((fld_eq (j := 3) ((hF180.1 29 (by decide)).trans (hF148.1 29 (by decide)))).trans zz232) ((fld_eq (j := 3) ((hF180.1 31 (by decide)).trans (hF148.1 31 (by decide)))).trans zz233) ((fld_eq (j := 3) ((hF180.1 33 (by decide)).trans (hF148.1 33 (by decide)))).trans zz234) ((fld_eq (j := 3) ((hF180.1 35 (by decide)).trans (hF148.1 35 (by decide)))).trans zz235) ((fld_eq (j := 3) ((hF180.1 37 (by decide)).trans (hF148.1 37 (by decide)))).trans zz236) hR238 h0144 ((fld_eq (j := 9) ((hF180.1 28 (by decide)).trans (hF148.1 28 (by decide)))).trans (fld_of hcl104)), fld_of (hq229.2.get (by decide) hq224.1), fld_of hq229.1, fun c h18 h26 => (hq229.2.1 c (by omega)).trans ((hq224.2.1 c (by omega)).trans ((hF218.1 c (nin313 h18)).trans ((hF180.1 c (fun y => by have q := List.mem_singleton.mp y; omega)).trans (kw163 c (by omega)))))⟩⟩, xInv.up (S := [14, 16]) hI217 ((xFr.of (S := [14, 16]) hq224.2 (by decide)).tr (xFr.of (S := [14, 16]) hq229.2 (by decide))) (List.forall_mem_cons.mpr ⟨xqu14 (show cp14 (wget w228 14) from ⟨0, (hq229.2.get (by decide) hq224.1), by decide⟩), List.forall_mem_cons.mpr ⟨xqu16 (show cp16 (wget w228 16) from ⟨0, hq229.1, by decide⟩), fun _ h => absurd h List.not_mem_nil⟩⟩), ((((hF96.tr (hF148.up (by decide))).tr (hF180.up (by decide))).tr (hF218.up (by decide))).tr ((xFr.of (S := [1, 3, 4, 5, 6, 7, 8, 9, 10, 11, 12, 13, 14, 15, 16, 17, 27, 28, 29, 30, 31, 32, 33, 34, 35, 36, 37, 38, 39, 40, 41, 42]) hq224.2 (by decide)).tr (xFr.of (S := [1, 3, 4, 5, 6, 7, 8, 9, 10, 11, 12, 13, 14, 15, 16, 17, 27, 28, 29, 30, 31, 32, 33, 34, 35, 36, 37, 38, 39, 40, 41, 42]) hq229.2 (by decide))))⟩
            · refine xoC27 (xqc27 hI147 : cp27 (wget w145 27)) (fun f27_239 f27_241 f27_243 f27_245 f27_247 h27_249 hb240 hb242 hb244 hb246 hb248 => ?_)
              have hq250 : fld w145 27 9 = f27_245 := fld_of h27_249
              have hq251 : fld w145 27 10 = f27_247 := fld_of h27_249
              have kw252 : ∀ c, c < 27 → wget w145 c = wget w c := fun c hc => (hF148.1 c (nin27s hc)).trans (he110 c hc)
              refine xg_t (xg_aload (va := (2, 27)) rfl rfl) ?_
              refine xg_t (xg_getf (va := (2, 1)) h27_249 rfl) ?_
              refine xg_t (xg_aload (va := (2, 27)) rfl rfl) ?_
              refine xg_t (xg_getf (va := (0, f27_245)) h27_249 rfl) ?_
              refine xg_t (xg_aload (va := (2, 27)) rfl rfl) ?_
              refine xg_t (xg_getf (va := (0, f27_247)) h27_249 rfl) ?_
              refine xoC1 (xqc1 hI147 : cp1 (wget w145 1)) (fun f1_253 f1_255 f1_257 f1_259 f1_261 f1_263 h1_265 hb254 hb256 hb258 hb260 hb262 hb264 => ?_)
              refine xg_cVv mX9_take (vs := [(0, f27_245), (0, f27_247)]) (rest := []) (cn1 := 0) (sl1 := 0) rfl (tdTakeF (hI147) (by omega) (by omega)) rfl h1_265 rfl rfl rfl rfl rfl rfl (fun w266 hq267 => ?_)
              obtain ⟨hI268, hF269, hx270⟩ := hq267
              obtain ⟨ht271, ht272, ht273, ht274, ht275, ht276⟩ := hx270
              have k277 : fld w266 1 6 = fld w 1 6 := ht274.trans (fld_eq (j := 6) (kw252 1 (by decide)))
              have k278 : fld w266 1 7 = fld w 1 7 := ht275.trans (fld_eq (j := 7) (kw252 1 (by decide)))
              have k279 : fld w266 1 9 = fld w 1 9 := ht276.trans (fld_eq (j := 9) (kw252 1 (by decide)))
              refine xg_t (xg_aload (va := (2, 27)) rfl rfl) ?_
              refine xg_t (xg_getf (va := (0, f27_245)) (hF269.get (by decide) h27_249) rfl) ?_
              refine xg_t (xg_ifF (u := f27_245) rfl xnm0 (xj_eqF (by omega))) ?_
              refine xg_t (xg_const) ?_
              have hR280 : FRes B nn 4294967295 (fld w266 1 2) (fld w266 1 3) := by
                rw [ht272, ht273]
                obtain ⟨-, hR_, hP_⟩ := he108.2.2 h0144
                obtain ⟨hz_, -, -⟩ := he108.2.2 h0144
                obtain ⟨-, -, -, -, z4_, -, -⟩ := hz_
                obtain ⟨m, m1, m2, m3, m4⟩ := z3
                refine ⟨lf, he109, hnok, Or.inr (Or.inr ⟨hend, h0144, XC w94, rwv w94 41, hR_, hP_, Or.inl ⟨rfl, by omega, m, by omega, m2, m3, ?_⟩⟩)⟩
                rw [if_neg (by omega)]
                omega
              exact xg_e ⟨4294967295, w266, ⟨rfl, rfl⟩, ⟨hR280, ht271, k277, k278, k279, fun _ c h3 h26 => (hF269.1 c (fun z => by have q := List.mem_singleton.mp z; omega)).trans (kw252 c (by omega)), fun z => absurd rfl z⟩, hI268, ((hF96.tr (hF148.up (by decide))).tr (hF269.up (by decide)))⟩
          · refine xg_cVv mX2_findFlawBeside (vs := []) (rest := []) (cn1 := 0) (sl1 := 0) rfl (ftBesZ (hI95) (by omega)) rfl h27_140 rfl rfl rfl rfl rfl rfl (fun w281 hq282 => ?_)
            obtain ⟨hI283, hF284, hx285⟩ := hq282
            obtain ⟨z2, z3⟩ := hx285
            refine xoC27 (xqc27 hI283 : cp27 (wget w281 27)) (fun f27_286 f27_288 f27_290 f27_292 f27_294 h27_296 hb287 hb289 hb291 hb293 hb295 => ?_)
            have hq297 : fld w281 27 9 = f27_292 := fld_of h27_296
            have hq298 : fld w281 27 10 = f27_294 := fld_of h27_296
            have kw299 : ∀ c, c < 27 → wget w281 c = wget w c := fun c hc => (hF284.1 c (nin27s hc)).trans (he110 c hc)
            refine xg_t (xg_aload (va := (2, 27)) rfl rfl) ?_
            refine xg_t (xg_getf (va := (2, 1)) h27_296 rfl) ?_
            refine xg_t (xg_aload (va := (2, 27)) rfl rfl) ?_
            refine xg_t (xg_getf (va := (0, f27_292)) h27_296 rfl) ?_
            refine xg_t (xg_aload (va := (2, 27)) rfl rfl) ?_
            refine xg_t (xg_getf (va := (0, f27_294)) h27_296 rfl) ?_
            refine xoC1 (xqc1 hI283 : cp1 (wget w281 1)) (fun f1_300 f1_302 f1_304 f1_306 f1_308 f1_310 h1_312 hb301 hb303 hb305 hb307 hb309 hb311 => ?_)
            refine xg_cVv mX9_take (vs := [(0, f27_292), (0, f27_294)]) (rest := []) (cn1 := 0) (sl1 := 0) rfl (tdTakeF (hI283) (by omega) (by omega)) rfl h1_312 rfl rfl rfl rfl rfl rfl (fun w313 hq314 => ?_)
            obtain ⟨hI315, hF316, hx317⟩ := hq314
            obtain ⟨ht318, ht319, ht320, ht321, ht322, ht323⟩ := hx317
            have k324 : fld w313 1 6 = fld w 1 6 := ht321.trans (fld_eq (j := 6) (kw299 1 (by decide)))
            have k325 : fld w313 1 7 = fld w 1 7 := ht322.trans (fld_eq (j := 7) (kw299 1 (by decide)))
            have k326 : fld w313 1 9 = fld w 1 9 := ht323.trans (fld_eq (j := 9) (kw299 1 (by decide)))
            refine xg_t (xg_aload (va := (2, 27)) rfl rfl) ?_
            refine xg_t (xg_getf (va := (0, f27_292)) (hF316.get (by decide) h27_296) rfl) ?_
            refine xg_t (xg_ifF (u := f27_292) rfl xnm0 (xj_eqF (by omega))) ?_
            refine xg_t (xg_const) ?_
            have hR327 : FRes B nn 4294967295 (fld w313 1 2) (fld w313 1 3) := by
              rw [ht319, ht320]
              refine ⟨lf, he109, hnok, Or.inr (Or.inl ⟨hend, h0144, rfl, by omega, ?_⟩)⟩
              rw [if_neg (by omega)]
              have q := he108.2.1 h0144
              omega
            exact xg_e ⟨4294967295, w313, ⟨rfl, rfl⟩, ⟨hR327, ht318, k324, k325, k326, fun _ c h3 h26 => (hF316.1 c (fun z => by have q := List.mem_singleton.mp z; omega)).trans (kw299 c (by omega)), fun z => absurd rfl z⟩, hI315, ((hF96.tr (hF284.up (by decide))).tr (hF316.up (by decide)))⟩
        · refine xg_t (xg_ifF (u := f42_119) rfl xnm0 (xj_eqF hc142)) ?_
          refine xg_t (xg_aload (va := (2, 27)) rfl rfl) ?_
          refine xg_cVi mX2_readLine (vs := []) (rest := []) (cn1 := 0) (sl1 := 0) rfl (ftLineX (k := lf) (hI95) (hB.fr (hF96.1 2 (by decide))) rfl he107 he108) rfl h27_140 rfl rfl rfl rfl rfl rfl (fun n332 w328 hq329 => ?_)
          obtain ⟨hn333, hI330, hF331⟩ := hq329
          obtain ⟨hl338, l9334⟩ := hn333
          rcases hl338 with ⟨rfl, hok335, hT_336, hS_337⟩ | ⟨rfl, hok335, hT_336⟩
          · refine xoC28 (xqc28 hI330 : cp28 (wget w328 28)) (fun f28_339 f28_341 f28_343 f28_345 f28_347 h28_349 hb340 hb342 hb344 hb346 hb348 => ?_)
            have hq350 : fld w328 28 9 = f28_347 := fld_of h28_349
            have hq351 : f28_347 = lf := hq350.symm.trans (l9334.trans (fld_of hcl104))
            refine xg_t (xg_ifT (u := 1) rfl xnm0 (by decide)) ?_
            refine xg_t (xg_blq rfl) ?_
            refine xg_t (xg_aload (va := (2, 27)) rfl rfl) ?_
            refine xoC27 (xqc27 hI330 : cp27 (wget w328 27)) (fun f27_352 f27_354 f27_356 f27_358 f27_360 h27_362 hb353 hb355 hb357 hb359 hb361 => ?_)
            refine xg_t (xg_getf (va := (2, 28)) h27_362 rfl) ?_
            refine xg_t (xg_dup rfl) ?_
            refine xg_t (xg_getf (va := (0, f28_347)) h28_349 rfl) ?_
            refine xg_t (xg_const) ?_
            refine xg_t (xg_iadd (u := f28_347) (v := 1) (z := f28_347 + 1) xnm0 xnm0 (by omega)) ?_
            refine xg_putI (fl1 := [(2, 29), (2, 31), (2, 33), (2, 35), (2, 37), (0, f28_339), (0, f28_341), (0, f28_343), (0, f28_345), (0, f28_347 + 1)]) h28_349 rfl rfl rfl (fun w363 hk364 hb365 => ?_)
            refine xg_t (xg_goto) ?_
            have hq366 : fld w363 28 5 = fld w328 28 5 := (fld_of hk364 : fld w363 28 5 = f28_339).trans (fld_of h28_349 : fld w328 28 5 = f28_339).symm
            have hq367 : fld w363 28 6 = fld w328 28 6 := (fld_of hk364 : fld w363 28 6 = f28_341).trans (fld_of h28_349 : fld w328 28 6 = f28_341).symm
            have hq368 : fld w363 28 7 = fld w328 28 7 := (fld_of hk364 : fld w363 28 7 = f28_343).trans (fld_of h28_349 : fld w328 28 7 = f28_343).symm
            have hq369 : fld w363 28 8 = fld w328 28 8 := (fld_of hk364 : fld w363 28 8 = f28_345).trans (fld_of h28_349 : fld w328 28 8 = f28_345).symm
            have hS370 := hS_337.w28 hb365 hq366 hq367 hq368 hq369
            exact ih92 f28_339 f28_341 f28_343 f28_345 (f28_347 + 1) w363 (by omega) (hb340) (hb342) (hb344) (hb346) (by omega) hk364 (xInv.up (S := [28]) hI330 (xFr.of (S := [28]) hb365 (by decide)) (List.forall_mem_cons.mpr ⟨xqu28 (show cp28 (wget w363 28) from xmC28 f28_339 f28_341 f28_343 f28_345 (f28_347 + 1) hk364 hb340 hb342 hb344 hb346 (by omega)), fun _ h => absurd h List.not_mem_nil⟩)) (((hF96.tr (hF331.up (by decide))).tr (xFr.of (S := [1, 3, 4, 5, 6, 7, 8, 9, 10, 11, 12, 13, 14, 15, 16, 17, 27, 28, 29, 30, 31, 32, 33, 34, 35, 36, 37, 38, 39, 40, 41, 42]) hb365 (by decide)))) (⟨by rw [hq351]; exact (hT_336.fr (hb365.1 42 (by decide))), by rw [hq351]; exact hS370, fun i hi => (Nat.lt_or_eq_of_le (show i ≤ lf by omega)).elim (fun z => he109 i z) (fun z => by rw [z]; exact hok335), fun c hc => ((hb365.1 c (by omega)).trans (hF331.1 c (nin27 hc))).trans (he110 c hc)⟩)
          · refine xoC42 (xqc42 hI330 : cp42 (wget w328 42)) (fun f42_371 f42_373 f42_375 f42_377 f42_379 h42_381 hb372 hb374 hb376 hb378 hb380 hb382 => ?_)
            have hq383 : fld w328 42 3 = f42_375 := fld_of h42_381
            refine xg_t (xg_ifF (u := 0) rfl xnm0 (by decide)) ?_
            have kw384 : ∀ c, c < 27 → wget w328 c = wget w c := fun c hc => (hF331.1 c (nin27 hc)).trans (he110 c hc)
            refine xg_t (xg_aload (va := (2, 27)) rfl rfl) ?_
            refine xoC27 (xqc27 hI330 : cp27 (wget w328 27)) (fun f27_385 f27_387 f27_389 f27_391 f27_393 h27_395 hb386 hb388 hb390 hb392 hb394 => ?_)
            refine xg_t (xg_getf (va := (2, 1)) h27_395 rfl) ?_
            refine xg_t (xg_const) ?_
            refine xg_t (xg_aload (va := (2, 27)) rfl rfl) ?_
            refine xg_t (xg_getf (va := (2, 42)) h27_395 rfl) ?_
            refine xg_t (xg_getf (va := (0, f42_375)) h42_381 rfl) ?_
            refine xoC1 (xqc1 hI330 : cp1 (wget w328 1)) (fun f1_396 f1_398 f1_400 f1_402 f1_404 f1_406 h1_408 hb397 hb399 hb401 hb403 hb405 hb407 => ?_)
            refine xg_cVv mX9_take (vs := [(0, 1), (0, f42_375)]) (rest := []) (cn1 := 0) (sl1 := 0) rfl (tdTakeF (hI330) (by omega) (by omega)) rfl h1_408 rfl rfl rfl rfl rfl rfl (fun w409 hq410 => ?_)
            obtain ⟨hI411, hF412, hx413⟩ := hq410
            obtain ⟨ht414, ht415, ht416, ht417, ht418, ht419⟩ := hx413
            have k420 : fld w409 1 6 = fld w 1 6 := ht417.trans (fld_eq (j := 6) (kw384 1 (by decide)))
            have k421 : fld w409 1 7 = fld w 1 7 := ht418.trans (fld_eq (j := 7) (kw384 1 (by decide)))
            have k422 : fld w409 1 9 = fld w 1 9 := ht419.trans (fld_eq (j := 9) (kw384 1 (by decide)))
            refine xg_t (xg_const) ?_
            have hR423 : FRes B nn 4294967295 (fld w409 1 2) (fld w409 1 3) := by
              rw [ht415, ht416]
              refine ⟨lf, he109, hok335, Or.inl ⟨by omega, rfl, rfl, ?_⟩⟩
              rw [if_neg (by decide)]
              omega
            exact xg_e ⟨4294967295, w409, ⟨rfl, rfl⟩, ⟨hR423, ht414, k420, k421, k422, fun _ c h3 h26 => (hF412.1 c (fun z => by have q := List.mem_singleton.mp z; omega)).trans (kw384 c (by omega)), fun z => absurd rfl z⟩, hI411, ((hF96.tr (hF331.up (by decide))).tr (hF412.up (by decide)))⟩
      · refine xg_t (xg_icT (u := lf) (v := 500) rfl xnm0 xnm0 (xj_geT (by omega) (by omega))) ?_
        refine xg_t (xg_blq rfl) ?_
        have hend : tkd B nn (lnP B nn lf) = 0 := by
          by_cases z : tkd B nn (lnP B nn lf) = 0
          · exact z
          · have z1 := (tf_gt z).1
            have z2 := tq_ge (B := B) (n := nn) (p := lnP B nn lf)
            have z3 := lnP_ge he109
            have z4 := hB.1
            omega
        have hnok : ¬ (lnR B nn (lnP B nn lf)).1 = true := by rw [lnR_0 hend]; exact Bool.false_ne_true
        refine xg_t (xg_aload (va := (2, 27)) rfl rfl) ?_
        have hS1 := he108.1
        have hv9 : (flA B nn lf).1 = 0 → ∀ j, j < 2 * fld w94 37 3 → rwv w94 38 j ≤ 9 := fun z => he108.fl9 z
        by_cases h0425 : (flA B nn lf).1 = 0
        · refine xg_cVv mX2_findFlawBeside (vs := []) (rest := []) (cn1 := 0) (sl1 := 0) rfl (ftBesX (hI95) (hv9 h0425)) rfl h27_140 rfl rfl rfl rfl rfl rfl (fun w426 hq427 => ?_)
          obtain ⟨hI428, hF429, hx430⟩ := hq427
          rcases hx430 with ⟨z1, -⟩ | ⟨-, z2, z3⟩ | ⟨-, z2, z3⟩
          · exact absurd (he108.1.trans h0425) z1
          · refine xoC27 (xqc27 hI428 : cp27 (wget w426 27)) (fun f27_431 f27_433 f27_435 f27_437 f27_439 h27_441 hb432 hb434 hb436 hb438 hb440 => ?_)
            have hq442 : fld w426 27 9 = f27_437 := fld_of h27_441
            have hq443 : fld w426 27 10 = f27_439 := fld_of h27_441
            have kw444 : ∀ c, c < 27 → wget w426 c = wget w c := fun c hc => (hF429.1 c (nin27s hc)).trans (he110 c hc)
            refine xg_t (xg_aload (va := (2, 27)) rfl rfl) ?_
            refine xg_t (xg_getf (va := (2, 1)) h27_441 rfl) ?_
            refine xg_t (xg_aload (va := (2, 27)) rfl rfl) ?_
            refine xg_t (xg_getf (va := (0, f27_437)) h27_441 rfl) ?_
            refine xg_t (xg_aload (va := (2, 27)) rfl rfl) ?_
            refine xg_t (xg_getf (va := (0, f27_439)) h27_441 rfl) ?_
            refine xoC1 (xqc1 hI428 : cp1 (wget w426 1)) (fun f1_445 f1_447 f1_449 f1_451 f1_453 f1_455 h1_457 hb446 hb448 hb450 hb452 hb454 hb456 => ?_)
            refine xg_cVv mX9_take (vs := [(0, f27_437), (0, f27_439)]) (rest := []) (cn1 := 0) (sl1 := 0) rfl (tdTakeF (hI428) (by omega) (by omega)) rfl h1_457 rfl rfl rfl rfl rfl rfl (fun w458 hq459 => ?_)
            obtain ⟨hI460, hF461, hx462⟩ := hq459
            obtain ⟨ht463, ht464, ht465, ht466, ht467, ht468⟩ := hx462
            have k469 : fld w458 1 6 = fld w 1 6 := ht466.trans (fld_eq (j := 6) (kw444 1 (by decide)))
            have k470 : fld w458 1 7 = fld w 1 7 := ht467.trans (fld_eq (j := 7) (kw444 1 (by decide)))
            have k471 : fld w458 1 9 = fld w 1 9 := ht468.trans (fld_eq (j := 9) (kw444 1 (by decide)))
            refine xg_t (xg_aload (va := (2, 27)) rfl rfl) ?_
            refine xg_t (xg_getf (va := (0, f27_437)) (hF461.get (by decide) h27_441) rfl) ?_
            refine xg_t (xg_ifT (u := f27_437) rfl xnm0 (xj_eqT (by omega))) ?_
            refine xg_t (xg_blq rfl) ?_
            refine xg_t (xg_aload (va := (2, 27)) rfl rfl) ?_
            refine xg_t (xg_getf (va := (2, 1)) (hF461.get (by decide) h27_441) rfl) ?_
            refine xoC1 (xqc1 hI460 : cp1 (wget w458 1)) (fun f1_472 f1_474 f1_476 f1_478 f1_480 f1_482 h1_484 hb473 hb475 hb477 hb479 hb481 hb483 => ?_)
            refine xg_t (xg_getf (va := (2, 3)) h1_484 rfl) ?_
            refine xg_t (xg_aload (va := (2, 27)) rfl rfl) ?_
            refine xg_t (xg_getf (va := (2, 28)) (hF461.get (by decide) h27_441) rfl) ?_
            refine xoC3 (xqc3 hI460 : cp3 (wget w458 3)) (fun f3_485 f3_487 f3_489 f3_491 f3_493 h3_495 hb486 hb488 hb490 hb492 hb494 => ?_)
            refine xg_cVv mX1_copy (vs := [(2, 28)]) (rest := []) (cn1 := 0) (sl1 := 0) rfl (fmCopyE (hI460)) rfl h3_495 rfl rfl rfl rfl rfl rfl (fun w496 hq497 => ?_)
            obtain ⟨hI498, hF499, hx500⟩ := hq497
            refine xg_t (xg_aload (va := (2, 27)) rfl rfl) ?_
            refine xg_t (xg_getf (va := (2, 1)) (hF499.get (by decide) (hF461.get (by decide) h27_441)) rfl) ?_
            refine xg_t (xg_getf (va := (2, 14)) (hF499.get (by decide) h1_484) rfl) ?_
            obtain ⟨f14_501, h14_503, hb502⟩ := (xqc14 hI498 : cp14 (wget w496 14))
            refine xg_cV mX5_clear (vs := []) (rest := []) (rs := []) (cn1 := 0) (sl1 := 0) rfl (rclear_ok h14_503) rfl h14_503 rfl rfl rfl rfl rfl rfl rfl (fun w504 hq505 => ?_)
            refine xg_t (xg_aload (va := (2, 27)) rfl rfl) ?_
            refine xg_t (xg_getf (va := (2, 1)) (hq505.2.get (by decide) (hF499.get (by decide) (hF461.get (by decide) h27_441))) rfl) ?_
            refine xg_t (xg_getf (va := (2, 16)) (hq505.2.get (by decide) (hF499.get (by decide) h1_484)) rfl) ?_
            obtain ⟨f16_506, h16_508, hb507⟩ := (xqc16 hI498 : cp16 (wget w496 16))
            refine xg_cV mX5_clear (vs := []) (rest := []) (rs := []) (cn1 := 0) (sl1 := 0) rfl (rclear_ok (hq505.2.get (by decide) h16_508)) rfl (hq505.2.get (by decide) h16_508) rfl rfl rfl rfl rfl rfl rfl (fun w509 hq510 => ?_)
            refine xg_t (xg_aload (va := (2, 27)) rfl rfl) ?_
            refine xg_t (xg_getf (va := (2, 28)) (hq510.2.get (by decide) (hq505.2.get (by decide) (hF499.get (by decide) (hF461.get (by decide) h27_441)))) rfl) ?_
            refine xg_t (xg_getf (va := (0, lf)) (hq510.2.get (by decide) (hq505.2.get (by decide) (hF499.get (by decide) (hF461.get (by decide) (hF429.get (by decide) hcl104))))) rfl) ?_
            have hR511 : FRes B nn lf (fld w509 1 2) (fld w509 1 3) := by
              rw [((fld_eq (j := 2) ((hq510.2.1 1 (by decide)).trans ((hq505.2.1 1 (by decide)).trans (hF499.1 1 (by decide))))).trans ht464), ((fld_eq (j := 3) ((hq510.2.1 1 (by decide)).trans ((hq505.2.1 1 (by decide)).trans (hF499.1 1 (by decide))))).trans ht465)]
              obtain ⟨-, hR_, hP_⟩ := he108.2.2 h0425
              obtain ⟨hz_, -, -⟩ := he108.2.2 h0425
              obtain ⟨-, -, -, -, z4_, -, -⟩ := hz_
              refine ⟨lf, he109, hnok, Or.inr (Or.inr ⟨hend, h0425, XC w94, rwv w94 41, hR_, hP_, Or.inr ⟨rfl, by omega, ?_, by omega, fun j hj => z3 j (by omega)⟩⟩)⟩
              rw [if_pos (by omega)]
            obtain ⟨⟨zz513, zz514, zz515, zz516, zz517, -, -⟩, hR518, -⟩ := he108.2.2 h0425
            have hR519 : RCN B nn lf (XC w458) := by rw [((XC_fr hF461 (by decide)).trans (XC_fr hF429 (by decide)))]; exact hR518
            have hE512 : fmE w509 3 w458 28 := hx500.tr0 (fun o ho => (hq510.2.1 (3 + o) (by omega)).trans (hq505.2.1 (3 + o) (by omega))) (fun _ _ => rfl)
            exact xg_e ⟨lf, w509, ⟨rfl, rfl⟩, ⟨hR511, ((fld_eq (j := 1) ((hq510.2.1 1 (by decide)).trans ((hq505.2.1 1 (by decide)).trans (hF499.1 1 (by decide))))).trans ht463), ((fld_eq (j := 6) ((hq510.2.1 1 (by decide)).trans ((hq505.2.1 1 (by decide)).trans (hF499.1 1 (by decide))))).trans k469), ((fld_eq (j := 7) ((hq510.2.1 1 (by decide)).trans ((hq505.2.1 1 (by decide)).trans (hF499.1 1 (by decide))))).trans k470), ((fld_eq (j := 9) ((hq510.2.1 1 (by decide)).trans ((hq505.2.1 1 (by decide)).trans (hF499.1 1 (by decide))))).trans k471), fun y => absurd y (by have := hB.1; omega), fun _ => ⟨FLM.cp hE512 ((fld_eq (j := 3) ((hF461.1 29 (by decide)).trans (hF429.1 29 (by decide)))).trans zz513) ((fld_eq (j := 3) ((hF461.1 31 (by decide)).trans (hF429.1 31 (by decide)))).trans zz514) ((fld_eq (j := 3) ((hF461.1 33 (by decide)).trans (hF429.1 33 (by decide)))).trans zz515) ((fld_eq (j := 3) ((hF461.1 35 (by decide)).trans (hF429.1 35 (by decide)))).trans zz516) ((fld_eq (j := 3) ((hF461.1 37 (by decide)).trans (hF429.1 37 (by decide)))).trans zz517) hR519 h0425 ((fld_eq (j := 9) ((hF461.1 28 (by decide)).trans (hF429.1 28 (by decide)))).trans (fld_of hcl104)), fld_of (hq510.2.get (by decide) hq505.1), fld_of hq510.1, fun c h18 h26 => (hq510.2.1 c (by omega)).trans ((hq505.2.1 c (by omega)).trans ((hF499.1 c (nin313 h18)).trans ((hF461.1 c (fun y => by have q := List.mem_singleton.mp y; omega)).trans (kw444 c (by omega)))))⟩⟩, xInv.up (S := [14, 16]) hI498 ((xFr.of (S := [14, 16]) hq505.2 (by decide)).tr (xFr.of (S := [14, 16]) hq510.2 (by decide))) (List.forall_mem_cons.mpr ⟨xqu14 (show cp14 (wget w509 14) from ⟨0, (hq510.2.get (by decide) hq505.1), by decide⟩), List.forall_mem_cons.mpr ⟨xqu16 (show cp16 (wget w509 16) from ⟨0, hq510.1, by decide⟩), fun _ h => absurd h List.not_mem_nil⟩⟩), ((((hF96.tr (hF429.up (by decide))).tr (hF461.up (by decide))).tr (hF499.up (by decide))).tr ((xFr.of (S := [1, 3, 4, 5, 6, 7, 8, 9, 10, 11, 12, 13, 14, 15, 16, 17, 27, 28, 29, 30, 31, 32, 33, 34, 35, 36, 37, 38, 39, 40, 41, 42]) hq505.2 (by decide)).tr (xFr.of (S := [1, 3, 4, 5, 6, 7, 8, 9, 10, 11, 12, 13, 14, 15, 16, 17, 27, 28, 29, 30, 31, 32, 33, 34, 35, 36, 37, 38, 39, 40, 41, 42]) hq510.2 (by decide))))⟩
          · refine xoC27 (xqc27 hI428 : cp27 (wget w426 27)) (fun f27_520 f27_522 f27_524 f27_526 f27_528 h27_530 hb521 hb523 hb525 hb527 hb529 => ?_)
            have hq531 : fld w426 27 9 = f27_526 := fld_of h27_530
            have hq532 : fld w426 27 10 = f27_528 := fld_of h27_530
            have kw533 : ∀ c, c < 27 → wget w426 c = wget w c := fun c hc => (hF429.1 c (nin27s hc)).trans (he110 c hc)
            refine xg_t (xg_aload (va := (2, 27)) rfl rfl) ?_
            refine xg_t (xg_getf (va := (2, 1)) h27_530 rfl) ?_
            refine xg_t (xg_aload (va := (2, 27)) rfl rfl) ?_
            refine xg_t (xg_getf (va := (0, f27_526)) h27_530 rfl) ?_
            refine xg_t (xg_aload (va := (2, 27)) rfl rfl) ?_
            refine xg_t (xg_getf (va := (0, f27_528)) h27_530 rfl) ?_
            refine xoC1 (xqc1 hI428 : cp1 (wget w426 1)) (fun f1_534 f1_536 f1_538 f1_540 f1_542 f1_544 h1_546 hb535 hb537 hb539 hb541 hb543 hb545 => ?_)
            refine xg_cVv mX9_take (vs := [(0, f27_526), (0, f27_528)]) (rest := []) (cn1 := 0) (sl1 := 0) rfl (tdTakeF (hI428) (by omega) (by omega)) rfl h1_546 rfl rfl rfl rfl rfl rfl (fun w547 hq548 => ?_)
            obtain ⟨hI549, hF550, hx551⟩ := hq548
            obtain ⟨ht552, ht553, ht554, ht555, ht556, ht557⟩ := hx551
            have k558 : fld w547 1 6 = fld w 1 6 := ht555.trans (fld_eq (j := 6) (kw533 1 (by decide)))
            have k559 : fld w547 1 7 = fld w 1 7 := ht556.trans (fld_eq (j := 7) (kw533 1 (by decide)))
            have k560 : fld w547 1 9 = fld w 1 9 := ht557.trans (fld_eq (j := 9) (kw533 1 (by decide)))
            refine xg_t (xg_aload (va := (2, 27)) rfl rfl) ?_
            refine xg_t (xg_getf (va := (0, f27_526)) (hF550.get (by decide) h27_530) rfl) ?_
            refine xg_t (xg_ifF (u := f27_526) rfl xnm0 (xj_eqF (by omega))) ?_
            refine xg_t (xg_const) ?_
            have hR561 : FRes B nn 4294967295 (fld w547 1 2) (fld w547 1 3) := by
              rw [ht553, ht554]
              obtain ⟨-, hR_, hP_⟩ := he108.2.2 h0425
              obtain ⟨hz_, -, -⟩ := he108.2.2 h0425
              obtain ⟨-, -, -, -, z4_, -, -⟩ := hz_
              obtain ⟨m, m1, m2, m3, m4⟩ := z3
              refine ⟨lf, he109, hnok, Or.inr (Or.inr ⟨hend, h0425, XC w94, rwv w94 41, hR_, hP_, Or.inl ⟨rfl, by omega, m, by omega, m2, m3, ?_⟩⟩)⟩
              rw [if_neg (by omega)]
              omega
            exact xg_e ⟨4294967295, w547, ⟨rfl, rfl⟩, ⟨hR561, ht552, k558, k559, k560, fun _ c h3 h26 => (hF550.1 c (fun z => by have q := List.mem_singleton.mp z; omega)).trans (kw533 c (by omega)), fun z => absurd rfl z⟩, hI549, ((hF96.tr (hF429.up (by decide))).tr (hF550.up (by decide)))⟩
        · refine xg_cVv mX2_findFlawBeside (vs := []) (rest := []) (cn1 := 0) (sl1 := 0) rfl (ftBesZ (hI95) (by omega)) rfl h27_140 rfl rfl rfl rfl rfl rfl (fun w562 hq563 => ?_)
          obtain ⟨hI564, hF565, hx566⟩ := hq563
          obtain ⟨z2, z3⟩ := hx566
          refine xoC27 (xqc27 hI564 : cp27 (wget w562 27)) (fun f27_567 f27_569 f27_571 f27_573 f27_575 h27_577 hb568 hb570 hb572 hb574 hb576 => ?_)
          have hq578 : fld w562 27 9 = f27_573 := fld_of h27_577
          have hq579 : fld w562 27 10 = f27_575 := fld_of h27_577
          have kw580 : ∀ c, c < 27 → wget w562 c = wget w c := fun c hc => (hF565.1 c (nin27s hc)).trans (he110 c hc)
          refine xg_t (xg_aload (va := (2, 27)) rfl rfl) ?_
          refine xg_t (xg_getf (va := (2, 1)) h27_577 rfl) ?_
          refine xg_t (xg_aload (va := (2, 27)) rfl rfl) ?_
          refine xg_t (xg_getf (va := (0, f27_573)) h27_577 rfl) ?_
          refine xg_t (xg_aload (va := (2, 27)) rfl rfl) ?_
          refine xg_t (xg_getf (va := (0, f27_575)) h27_577 rfl) ?_
          refine xoC1 (xqc1 hI564 : cp1 (wget w562 1)) (fun f1_581 f1_583 f1_585 f1_587 f1_589 f1_591 h1_593 hb582 hb584 hb586 hb588 hb590 hb592 => ?_)
          refine xg_cVv mX9_take (vs := [(0, f27_573), (0, f27_575)]) (rest := []) (cn1 := 0) (sl1 := 0) rfl (tdTakeF (hI564) (by omega) (by omega)) rfl h1_593 rfl rfl rfl rfl rfl rfl (fun w594 hq595 => ?_)
          obtain ⟨hI596, hF597, hx598⟩ := hq595
          obtain ⟨ht599, ht600, ht601, ht602, ht603, ht604⟩ := hx598
          have k605 : fld w594 1 6 = fld w 1 6 := ht602.trans (fld_eq (j := 6) (kw580 1 (by decide)))
          have k606 : fld w594 1 7 = fld w 1 7 := ht603.trans (fld_eq (j := 7) (kw580 1 (by decide)))
          have k607 : fld w594 1 9 = fld w 1 9 := ht604.trans (fld_eq (j := 9) (kw580 1 (by decide)))
          refine xg_t (xg_aload (va := (2, 27)) rfl rfl) ?_
          refine xg_t (xg_getf (va := (0, f27_573)) (hF597.get (by decide) h27_577) rfl) ?_
          refine xg_t (xg_ifF (u := f27_573) rfl xnm0 (xj_eqF (by omega))) ?_
          refine xg_t (xg_const) ?_
          have hR608 : FRes B nn 4294967295 (fld w594 1 2) (fld w594 1 3) := by
            rw [ht600, ht601]
            refine ⟨lf, he109, hnok, Or.inr (Or.inl ⟨hend, h0425, rfl, by omega, ?_⟩)⟩
            rw [if_neg (by omega)]
            have q := he108.2.1 h0425
            omega
          exact xg_e ⟨4294967295, w594, ⟨rfl, rfl⟩, ⟨hR608, ht599, k605, k606, k607, fun _ c h3 h26 => (hF597.1 c (fun z => by have q := List.mem_singleton.mp z; omega)).trans (kw580 c (by omega)), fun z => absurd rfl z⟩, hI596, ((hF96.tr (hF565.up (by decide))).tr (hF597.up (by decide)))⟩
  exact key91 _ f28_80 f28_82 f28_84 f28_86 f28_88 w75 (Nat.lt_succ_self _) (hb81) (hb83) (hb85) (hb87) (hb89) h28_90 (hI77) ((((hF40.up (by decide)).tr (((xFr.of (S := [1, 3, 4, 5, 6, 7, 8, 9, 10, 11, 12, 13, 14, 15, 16, 17, 27, 28, 29, 30, 31, 32, 33, 34, 35, 36, 37, 38, 39, 40, 41, 42]) hb54 (by decide)).tr (xFr.of (S := [1, 3, 4, 5, 6, 7, 8, 9, 10, 11, 12, 13, 14, 15, 16, 17, 27, 28, 29, 30, 31, 32, 33, 34, 35, 36, 37, 38, 39, 40, 41, 42]) hb57 (by decide))).tr (xFr.of (S := [1, 3, 4, 5, 6, 7, 8, 9, 10, 11, 12, 13, 14, 15, 16, 17, 27, 28, 29, 30, 31, 32, 33, 34, 35, 36, 37, 38, 39, 40, 41, 42]) hb60 (by decide)))).tr (hF78.up (by decide)))) (⟨by rw [h098]; exact hx79, by rw [h098]; exact hS97, fun i hi => absurd hi (by omega), fun c hc => ((hF78.1 c (nin42s hc)).trans ((hb60.1 c (by omega)).trans ((hb57.1 c (by omega)).trans ((hb54.1 c (by omega)).trans (hF40.1 c (nin27d hc))))))⟩)
theorem FLM.kp {B : Nat → Nat} {n k : Nat} {w w' : List (List xE)} (h : FLM B n w k) (hk : ∀ c, c < 27 → wget w' c = wget w c) : FLM B n w' k := by
  have e : XF w' = XF w := by
    funext s m t
    unfold XF
    rw [rwv_eq (hk 5 (by decide)), rwv_eq (hk 7 (by decide)), rwv_eq (hk 9 (by decide)), rwv_eq (hk 11 (by decide)), rwv_eq (hk 13 (by decide)), fld_eq (hk 3 (by decide)), fld_eq (hk 3 (by decide))]
  unfold FLM
  rw [e, fld_eq (hk 4 (by decide)), fld_eq (hk 6 (by decide)), fld_eq (hk 8 (by decide)), fld_eq (hk 10 (by decide)), fld_eq (hk 12 (by decide)), fld_eq (hk 3 (by decide))]
  exact h
theorem bsFilmF {B : Nat → Nat} {nn : Nat} (hI : xInv w) (hB : bsr w B nn) (hnn : fld w 1 1 = nn) : xPi (d + 8) mX11_film [(2, 0)] w bd fc rr (fun n w' => (FRes B nn n (fld w' 1 2) (fld w' 1 3) ∧ fld w' 1 1 = 0 ∧ fld w' 1 6 = fld w 1 6 ∧ fld w' 1 7 = fld w 1 7 ∧ fld w' 1 9 = fld w 1 9 ∧ (n = 4294967295 → ∀ c, 3 ≤ c → c < 26 → wget w' c = wget w c) ∧ (n ≠ 4294967295 → FLM B nn w' n ∧ fld w' 14 3 = 0 ∧ fld w' 16 3 = 0 ∧ ∀ c, 18 ≤ c → c < 26 → wget w' c = wget w c)) ∧ xInv w' ∧ xFr [1, 3, 4, 5, 6, 7, 8, 9, 10, 11, 12, 13, 14, 15, 16, 17, 27, 28, 29, 30, 31, 32, 33, 34, 35, 36, 37, 38, 39, 40, 41, 42, 49, 58, 68, 72] w w') := by
  refine xPi.of ?_
  show xTo (d + 8) mX11_film (0, [], [(0, (2, 0))], [], (w, bd, fc, 0, 0, rr)) (fun φ => ∃ n w', xEnd 1 [(0, n)] (w', bd, fc, 0, 0, rr) φ ∧ (FRes B nn n (fld w' 1 2) (fld w' 1 3) ∧ fld w' 1 1 = 0 ∧ fld w' 1 6 = fld w 1 6 ∧ fld w' 1 7 = fld w 1 7 ∧ fld w' 1 9 = fld w 1 9 ∧ (n = 4294967295 → ∀ c, 3 ≤ c → c < 26 → wget w' c = wget w c) ∧ (n ≠ 4294967295 → FLM B nn w' n ∧ fld w' 14 3 = 0 ∧ fld w' 16 3 = 0 ∧ ∀ c, 18 ≤ c → c < 26 → wget w' c = wget w c)) ∧ xInv w' ∧ xFr [1, 3, 4, 5, 6, 7, 8, 9, 10, 11, 12, 13, 14, 15, 16, 17, 27, 28, 29, 30, 31, 32, 33, 34, 35, 36, 37, 38, 39, 40, 41, 42, 49, 58, 68, 72] w w')
  have h0_1 := (xqc0 hI : cp0 (wget w 0))
  refine xg_t (xg_blq rfl) ?_
  refine xg_t (xg_aload (va := (2, 0)) rfl rfl) ?_
  refine xg_t (xg_getf (va := (2, 27)) h0_1 rfl) ?_
  refine xoC27 (xqc27 hI : cp27 (wget w 27)) (fun f27_2 f27_4 f27_6 f27_8 f27_10 h27_12 hb3 hb5 hb7 hb9 hb11 => ?_)
  refine xg_cVi mX2_readFilm (vs := []) (rest := []) (cn1 := 0) (sl1 := 0) rfl (ftReadF (hI) hB hnn) rfl h27_12 rfl rfl rfl rfl rfl rfl (fun n17 w13 hq14 => ?_)
  obtain ⟨hn18, hI15, hF16⟩ := hq14
  refine xg_t (xg_istore (l1 := [(0, (2, 0))]) rfl rfl rfl) ?_
  refine xg_t (xg_iload (va := (0, n17)) rfl rfl) ?_
  refine xg_t (xg_const) ?_
  by_cases hc19 : n17 = 4294967295
  · refine xg_t (xg_icT (u := n17) (v := 4294967295) rfl xnm0 xnm0 (xj_eqT hc19)) ?_
    refine xg_t (xg_blq rfl) ?_
    refine xg_t (xg_iload (va := (0, n17)) rfl rfl) ?_
    exact xg_e ⟨n17, w13, ⟨rfl, rfl⟩, hn18, hI15, (hF16.up (by decide))⟩
  · refine xg_t (xg_icF (u := n17) (v := 4294967295) rfl xnm0 xnm0 (xj_eqF hc19)) ?_
    refine xg_t (xg_aload (va := (2, 0)) rfl rfl) ?_
    refine xg_cVv mX11_forgetFilm (vs := []) (rest := []) (cn1 := 0) (sl1 := 0) rfl (scForgetFilmE (hI15)) rfl (hF16.get (by decide) h0_1) rfl rfl rfl rfl rfl rfl (fun w20 hq21 => ?_)
    obtain ⟨hI22, hF23, hx24⟩ := hq21
    refine xg_t (xg_blq rfl) ?_
    refine xg_t (xg_iload (va := (0, n17)) rfl rfl) ?_
    obtain ⟨ha25, ha26, ha27, ha28, ha29, ha30, ha31⟩ := hn18
    have hk32 : ∀ c, c < 27 → wget w20 c = wget w13 c := fun c hc => hF23.1 c (fun z => by have q : ∀ x ∈ [49, 58, 68, 72], 27 ≤ x := (by decide); exact absurd (q c z) (by omega))
    exact xg_e ⟨n17, w20, ⟨rfl, rfl⟩, ⟨by rw [(fld_eq (j := 2) (hk32 1 (by decide))), (fld_eq (j := 3) (hk32 1 (by decide)))]; exact ha25, (fld_eq (j := 1) (hk32 1 (by decide))).trans ha26, (fld_eq (j := 6) (hk32 1 (by decide))).trans ha27, (fld_eq (j := 7) (hk32 1 (by decide))).trans ha28, (fld_eq (j := 9) (hk32 1 (by decide))).trans ha29, fun y c h3 h26 => (hk32 c (by omega)).trans (ha30 y c h3 h26), fun y => (ha31 y).elim (fun b1 b2 => ⟨b1.kp hk32, (fld_eq (j := 3) (hk32 14 (by decide))).trans b2.1, (fld_eq (j := 3) (hk32 16 (by decide))).trans b2.2.1, fun c h18 h26 => (hk32 c (by omega)).trans (b2.2.2 c h18 h26)⟩)⟩, hI22, ((hF16.up (by decide)).tr (hF23.up (by decide)))⟩
end XFCF
end
