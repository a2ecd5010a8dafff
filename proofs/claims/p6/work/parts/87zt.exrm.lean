section
/-! the model: a picture, a hand, a test told -/
section XEM3
variable {d : Nat} {w : List (List xE)} {bd : List (Nat × Nat)} {fc : List (Nat × Nat × Bool)} {rr : Nat × Nat}
theorem mPictureX {pa pb pc_ pd pl ph : Nat} (hI : xMnv w) (hpa : pa ≤ 4294967295) (hpb : pb ≤ 4294967295) (hpc_ : pc_ ≤ 4294967295) (hpd : pd ≤ 4294967295) (hpl : pl ≤ 4294967295) (hph : ph ≤ 4294967295) : xPi (d + 1) mX12_picture [(2, 82), (0, pa), (0, pb), (0, pc_), (0, pd), (0, pl), (0, ph)] w bd fc rr (fun n w' => (((n = rwv w 83 10 + 1 ∧ rwv w 83 10 < 12 ∧ ((pa ≤ pb ∧ pb < rwv w 83 5) ∧ (pc_ ≤ pd ∧ pd < rwv w 83 6) ∧ (1 ≤ pl ∧ pl ≤ 9) ∧ (1 ≤ ph ∧ ph ≤ 999)) ∧ rwv w' 83 10 = rwv w 83 10 + 1) ∨ (n = 4294967295 ∧ ¬ (rwv w 83 10 < 12 ∧ ((pa ≤ pb ∧ pb < rwv w 83 5) ∧ (pc_ ≤ pd ∧ pd < rwv w 83 6) ∧ (1 ≤ pl ∧ pl ≤ 9) ∧ (1 ≤ ph ∧ ph ≤ 999))) ∧ rwv w' 83 10 = rwv w 83 10)) ∧ (n ≠ 4294967295 → rwv w' 83 (300 + 6 * rwv w 83 10) = pa ∧ rwv w' 83 (300 + 6 * rwv w 83 10 + 1) = pb ∧ rwv w' 83 (300 + 6 * rwv w 83 10 + 2) = pc_ ∧ rwv w' 83 (300 + 6 * rwv w 83 10 + 3) = pd ∧ rwv w' 83 (300 + 6 * rwv w 83 10 + 4) = pl ∧ rwv w' 83 (300 + 6 * rwv w 83 10 + 5) = ph) ∧ (∀ j, (j ≠ 10 ∧ (j < 300 + 6 * rwv w 83 10 ∨ 306 + 6 * rwv w 83 10 ≤ j)) → j < 5360 → rwv w' 83 j = rwv w 83 j)) ∧ xMnv w' ∧ xFr [83] w w') := by
  refine xPi.of ?_
  show xTo (d + 1) mX12_picture (0, [], [(0, (2, 82)), (1, (0, pa)), (2, (0, pb)), (3, (0, pc_)), (4, (0, pd)), (5, (0, pl)), (6, (0, ph))], [], (w, bd, fc, 0, 0, rr)) (fun φ => ∃ n w', xEnd 1 [(0, n)] (w', bd, fc, 0, 0, rr) φ ∧ (((n = rwv w 83 10 + 1 ∧ rwv w 83 10 < 12 ∧ ((pa ≤ pb ∧ pb < rwv w 83 5) ∧ (pc_ ≤ pd ∧ pd < rwv w 83 6) ∧ (1 ≤ pl ∧ pl ≤ 9) ∧ (1 ≤ ph ∧ ph ≤ 999)) ∧ rwv w' 83 10 = rwv w 83 10 + 1) ∨ (n = 4294967295 ∧ ¬ (rwv w 83 10 < 12 ∧ ((pa ≤ pb ∧ pb < rwv w 83 5) ∧ (pc_ ≤ pd ∧ pd < rwv w 83 6) ∧ (1 ≤ pl ∧ pl ≤ 9) ∧ (1 ≤ ph ∧ ph ≤ 999))) ∧ rwv w' 83 10 = rwv w 83 10)) ∧ (n ≠ 4294967295 → rwv w' 83 (300 + 6 * rwv w 83 10) = pa ∧ rwv w' 83 (300 + 6 * rwv w 83 10 + 1) = pb ∧ rwv w' 83 (300 + 6 * rwv w 83 10 + 2) = pc_ ∧ rwv w' 83 (300 + 6 * rwv w 83 10 + 3) = pd ∧ rwv w' 83 (300 + 6 * rwv w 83 10 + 4) = pl ∧ rwv w' 83 (300 + 6 * rwv w 83 10 + 5) = ph) ∧ (∀ j, (j ≠ 10 ∧ (j < 300 + 6 * rwv w 83 10 ∨ 306 + 6 * rwv w 83 10 ≤ j)) → j < 5360 → rwv w' 83 j = rwv w 83 j)) ∧ xMnv w' ∧ xFr [83] w w')
  refine xoCh82 (xqc82 hI : cp82 (wget w 82)) (fun f82_1 f82_3 f82_5 f82_7 f82_9 f82_11 f82_13 f82_15 f82_17 f82_19 f82_21 f82_22 f82_23 f82_25 f82_27 f82_29 h82_31 hb2 hb4 hb6 hb8 hb10 hb12 hb14 hb16 hb18 hb20 hb24 hb26 hb28 hb30 hb32 => ?_)
  refine xoX83 (xqc83 hI : cpx83 (wget w 83)) (fun g83_33 h83_34 hb35 hx36 => ?_)
  refine xg_t (xg_blq rfl) ?_
  refine xg_t (xg_aload (va := (2, 82)) rfl rfl) ?_
  refine xg_t (xg_getf (va := (2, 83)) h82_31 rfl) ?_
  refine xg_t (xg_bip) ?_
  refine xg_ialdB (n := 10) (B := 4294967295) h83_34 (hb35) xnm0 (by first | decide | omega) (fun u37 hu38 he39 => ?_)
  have hl40 : u37 ≤ 12 := by rw [← he39]; exact hx36.l10
  refine xg_t (xg_bip) ?_
  by_cases hc41 : u37 = 12
  · refine xg_t (xg_icT (u := u37) (v := 12) rfl xnm0 xnm0 (xj_eqT hc41)) ?_
    refine xg_t (xg_blq rfl) ?_
    refine xg_t (xg_const) ?_
    have hq42 : rwv w 83 10 = g83_33 10 := rwv_of h83_34 (by decide)
    have hq43 : g83_33 10 ≤ 12 := hx36.l10
    have hq44 : rwv w 83 10 = g83_33 10 := rwv_of h83_34 (by decide)
    have hq45 : rwv w 83 5 = g83_33 5 := rwv_of h83_34 (by decide)
    have hq46 : g83_33 5 ≤ 6 := hx36.l5
    have hq47 : rwv w 83 5 = g83_33 5 := rwv_of h83_34 (by decide)
    have hq48 : rwv w 83 6 = g83_33 6 := rwv_of h83_34 (by decide)
    have hq49 : g83_33 6 ≤ 6 := hx36.l6
    have hq50 : rwv w 83 6 = g83_33 6 := rwv_of h83_34 (by decide)
    exact xg_e ⟨4294967295, w, ⟨rfl, rfl⟩, ⟨by omega, fun h => absurd h (by omega), fun j _ h => (rwv_of h83_34 h).trans (rwv_of h83_34 h).symm⟩, hI, xFr.rf⟩
  · refine xg_t (xg_icF (u := u37) (v := 12) rfl xnm0 xnm0 (xj_eqF hc41)) ?_
    refine xg_t (xg_iload (va := (0, pa)) rfl rfl) ?_
    refine xg_t (xg_const) ?_
    refine xg_t (xg_aload (va := (2, 82)) rfl rfl) ?_
    refine xg_t (xg_getf (va := (2, 83)) h82_31 rfl) ?_
    refine xg_t (xg_const) ?_
    refine xg_ialdB (n := 5) (B := 4294967295) h83_34 (hb35) xnm0 (by first | decide | omega) (fun u51 hu52 he53 => ?_)
    have hl54 : u51 ≤ 6 := by rw [← he53]; exact hx36.l5
    refine xg_t (xg_const) ?_
    by_cases hc55 : 1 ≤ u51
    · refine xg_t (xg_isub (u := u51) (v := 1) (z := u51 - 1) xnm0 xnm0 (by omega)) ?_
      refine xg_t (xg_cSr mX12_isIn (vs := [(0, pa), (0, 0), (0, u51 - 1)]) (rest := []) (rs := [(0, if 0 ≤ pa ∧ pa ≤ u51 - 1 then 1 else 0)]) (cn1 := 0) (sl1 := 0) rfl (mIsIn (by omega) (by omega) (by omega)) rfl rfl rfl rfl rfl rfl rfl rfl) ?_
      by_cases hc56 : 0 ≤ pa ∧ pa ≤ u51 - 1
      · refine xg_t (xg_ifF (u := (if 0 ≤ pa ∧ pa ≤ u51 - 1 then 1 else 0)) rfl xnm0 (xj_eqF (xite1 hc56))) ?_
        refine xg_t (xg_iload (va := (0, pb)) rfl rfl) ?_
        refine xg_t (xg_iload (va := (0, pa)) rfl rfl) ?_
        refine xg_t (xg_aload (va := (2, 82)) rfl rfl) ?_
        refine xg_t (xg_getf (va := (2, 83)) h82_31 rfl) ?_
        refine xg_t (xg_const) ?_
        refine xg_ialdB (n := 5) (B := 4294967295) h83_34 (hb35) xnm0 (by first | decide | omega) (fun u57 hu58 he59 => ?_)
        have hl60 : u57 ≤ 6 := by rw [← he59]; exact hx36.l5
        refine xg_t (xg_const) ?_
        by_cases hc61 : 1 ≤ u57
        · refine xg_t (xg_isub (u := u57) (v := 1) (z := u57 - 1) xnm0 xnm0 (by omega)) ?_
          refine xg_t (xg_cSr mX12_isIn (vs := [(0, pb), (0, pa), (0, u57 - 1)]) (rest := []) (rs := [(0, if pa ≤ pb ∧ pb ≤ u57 - 1 then 1 else 0)]) (cn1 := 0) (sl1 := 0) rfl (mIsIn (by omega) (by omega) (by omega)) rfl rfl rfl rfl rfl rfl rfl rfl) ?_
          by_cases hc62 : pa ≤ pb ∧ pb ≤ u57 - 1
          · refine xg_t (xg_ifF (u := (if pa ≤ pb ∧ pb ≤ u57 - 1 then 1 else 0)) rfl xnm0 (xj_eqF (xite1 hc62))) ?_
            refine xg_t (xg_iload (va := (0, pc_)) rfl rfl) ?_
            refine xg_t (xg_const) ?_
            refine xg_t (xg_aload (va := (2, 82)) rfl rfl) ?_
            refine xg_t (xg_getf (va := (2, 83)) h82_31 rfl) ?_
            refine xg_t (xg_bip) ?_
            refine xg_ialdB (n := 6) (B := 4294967295) h83_34 (hb35) xnm0 (by first | decide | omega) (fun u63 hu64 he65 => ?_)
            have hl66 : u63 ≤ 6 := by rw [← he65]; exact hx36.l6
            refine xg_t (xg_const) ?_
            by_cases hc67 : 1 ≤ u63
            · refine xg_t (xg_isub (u := u63) (v := 1) (z := u63 - 1) xnm0 xnm0 (by omega)) ?_
              refine xg_t (xg_cSr mX12_isIn (vs := [(0, pc_), (0, 0), (0, u63 - 1)]) (rest := []) (rs := [(0, if 0 ≤ pc_ ∧ pc_ ≤ u63 - 1 then 1 else 0)]) (cn1 := 0) (sl1 := 0) rfl (mIsIn (by omega) (by omega) (by omega)) rfl rfl rfl rfl rfl rfl rfl rfl) ?_
              by_cases hc68 : 0 ≤ pc_ ∧ pc_ ≤ u63 - 1
              · refine xg_t (xg_ifF (u := (if 0 ≤ pc_ ∧ pc_ ≤ u63 - 1 then 1 else 0)) rfl xnm0 (xj_eqF (xite1 hc68))) ?_
                refine xg_t (xg_iload (va := (0, pd)) rfl rfl) ?_
                refine xg_t (xg_iload (va := (0, pc_)) rfl rfl) ?_
                refine xg_t (xg_aload (va := (2, 82)) rfl rfl) ?_
                refine xg_t (xg_getf (va := (2, 83)) h82_31 rfl) ?_
                refine xg_t (xg_bip) ?_
                refine xg_ialdB (n := 6) (B := 4294967295) h83_34 (hb35) xnm0 (by first | decide | omega) (fun u69 hu70 he71 => ?_)
                have hl72 : u69 ≤ 6 := by rw [← he71]; exact hx36.l6
                refine xg_t (xg_const) ?_
                by_cases hc73 : 1 ≤ u69
                · refine xg_t (xg_isub (u := u69) (v := 1) (z := u69 - 1) xnm0 xnm0 (by omega)) ?_
                  refine xg_t (xg_cSr mX12_isIn (vs := [(0, pd), (0, pc_), (0, u69 - 1)]) (rest := []) (rs := [(0, if pc_ ≤ pd ∧ pd ≤ u69 - 1 then 1 else 0)]) (cn1 := 0) (sl1 := 0) rfl (mIsIn (by omega) (by omega) (by omega)) rfl rfl rfl rfl rfl rfl rfl rfl) ?_
                  by_cases hc74 : pc_ ≤ pd ∧ pd ≤ u69 - 1
                  · refine xg_t (xg_ifF (u := (if pc_ ≤ pd ∧ pd ≤ u69 - 1 then 1 else 0)) rfl xnm0 (xj_eqF (xite1 hc74))) ?_
                    refine xg_t (xg_iload (va := (0, pl)) rfl rfl) ?_
                    refine xg_t (xg_const) ?_
                    refine xg_t (xg_bip) ?_
                    refine xg_t (xg_cSr mX12_isIn (vs := [(0, pl), (0, 1), (0, 9)]) (rest := []) (rs := [(0, if 1 ≤ pl ∧ pl ≤ 9 then 1 else 0)]) (cn1 := 0) (sl1 := 0) rfl (mIsIn (by omega) (by omega) (by omega)) rfl rfl rfl rfl rfl rfl rfl rfl) ?_
                    by_cases hc75 : 1 ≤ pl ∧ pl ≤ 9
                    · refine xg_t (xg_ifF (u := (if 1 ≤ pl ∧ pl ≤ 9 then 1 else 0)) rfl xnm0 (xj_eqF (xite1 hc75))) ?_
                      refine xg_t (xg_iload (va := (0, ph)) rfl rfl) ?_
                      refine xg_t (xg_const) ?_
                      refine xg_t (xg_sip) ?_
                      refine xg_t (xg_cSr mX12_isIn (vs := [(0, ph), (0, 1), (0, 999)]) (rest := []) (rs := [(0, if 1 ≤ ph ∧ ph ≤ 999 then 1 else 0)]) (cn1 := 0) (sl1 := 0) rfl (mIsIn (by omega) (by omega) (by omega)) rfl rfl rfl rfl rfl rfl rfl rfl) ?_
                      by_cases hc76 : 1 ≤ ph ∧ ph ≤ 999
                      · refine xg_t (xg_ifT (u := (if 1 ≤ ph ∧ ph ≤ 999 then 1 else 0)) rfl xnm0 (xj_neT (xite1 hc76))) ?_
                        refine xg_t (xg_blq rfl) ?_
                        refine xg_t (xg_sip) ?_
                        refine xg_t (xg_bip) ?_
                        refine xg_t (xg_aload (va := (2, 82)) rfl rfl) ?_
                        refine xg_t (xg_getf (va := (2, 83)) h82_31 rfl) ?_
                        refine xg_t (xg_bip) ?_
                        refine xg_ialdB (n := 10) (B := 4294967295) h83_34 (hb35) xnm0 (by first | decide | omega) (fun u77 hu78 he79 => ?_)
                        have hl80 : u77 ≤ 12 := by rw [← he79]; exact hx36.l10
                        refine xg_t (xg_imul (u := 6) (v := u77) (z := 6 * u77) xnm0 xnm0 (by omega)) ?_
                        refine xg_t (xg_iadd (u := 300) (v := 6 * u77) (z := 300 + (6 * u77)) xnm0 xnm0 (by omega)) ?_
                        refine xg_t (xg_istore (l1 := [(0, (2, 82)), (1, (0, pa)), (2, (0, pb)), (3, (0, pc_)), (4, (0, pd)), (5, (0, pl)), (6, (0, ph))]) rfl rfl rfl) ?_
                        refine xg_t (xg_aload (va := (2, 82)) rfl rfl) ?_
                        refine xg_t (xg_getf (va := (2, 83)) h82_31 rfl) ?_
                        refine xg_t (xg_iload (va := (0, 300 + (6 * u77))) rfl rfl) ?_
                        refine xg_t (xg_iload (va := (0, pa)) rfl rfl) ?_
                        refine xg_iastK (n := 300 + (6 * u77)) (u := pa) h83_34 xnm0 xnm0 rfl (by omega) (fun w81 hr82 hb83 => ?_)
                        have hx84 : okA (fun j => if j = 300 + (6 * u77) then pa else g83_33 j) := hx36.upd (by omega) (by omega) (by omega) (fun _ => by omega) (by omega) (fun _ => by omega) (fun _ => by omega) (fun _ => by omega) (fun _ => by omega) (by omega) (fun _ _ => by omega)
                        have hb85 : ∀ j, (fun j => if j = 300 + (6 * u77) then pa else g83_33 j) j ≤ 4294967295 := xrb (by omega) (hb35)
                        obtain ⟨g86, hg87⟩ : ∃ g : Nat → Nat, g = (fun j => if j = 300 + (6 * u77) then pa else g83_33 j) := ⟨_, rfl⟩
                        rw [← hg87] at hr82
                        have he88 : g86 (300 + (6 * u77)) = pa := by rw [hg87]; exact if_pos rfl
                        have hk89 : ∀ j, j ≠ 300 + (6 * u77) → g86 j = g83_33 j := fun j hj => by rw [hg87]; exact if_neg hj
                        rw [← hg87] at hx84
                        rw [← hg87] at hb85
                        have hk90 : g86 10 = g83_33 10 := hk89 10 (by omega)
                        refine xg_t (xg_aload (va := (2, 82)) rfl rfl) ?_
                        refine xg_t (xg_getf (va := (2, 83)) (hb83.get (by decide) h82_31) rfl) ?_
                        refine xg_t (xg_iload (va := (0, 300 + (6 * u77))) rfl rfl) ?_
                        refine xg_t (xg_const) ?_
                        refine xg_t (xg_iadd (u := 300 + (6 * u77)) (v := 1) (z := (300 + (6 * u77)) + 1) xnm0 xnm0 (by omega)) ?_
                        refine xg_t (xg_iload (va := (0, pb)) rfl rfl) ?_
                        refine xg_iastK (n := (300 + (6 * u77)) + 1) (u := pb) hr82 xnm0 xnm0 rfl (by omega) (fun w91 hr92 hb93 => ?_)
                        have hx94 : okA (fun j => if j = (300 + (6 * u77)) + 1 then pb else g86 j) := hx84.upd (by omega) (by omega) (by omega) (fun _ => by omega) (by omega) (fun _ => by omega) (fun _ => by omega) (fun _ => by omega) (fun _ => by omega) (by omega) (fun _ _ => by omega)
                        have hb95 : ∀ j, (fun j => if j = (300 + (6 * u77)) + 1 then pb else g86 j) j ≤ 4294967295 := xrb (by omega) (hb85)
                        obtain ⟨g96, hg97⟩ : ∃ g : Nat → Nat, g = (fun j => if j = (300 + (6 * u77)) + 1 then pb else g86 j) := ⟨_, rfl⟩
                        rw [← hg97] at hr92
                        have he98 : g96 ((300 + (6 * u77)) + 1) = pb := by rw [hg97]; exact if_pos rfl
                        have hk99 : ∀ j, j ≠ (300 + (6 * u77)) + 1 → g96 j = g86 j := fun j hj => by rw [hg97]; exact if_neg hj
                        rw [← hg97] at hx94
                        rw [← hg97] at hb95
                        have hk100 : g96 10 = g86 10 := hk99 10 (by omega)
                        refine xg_t (xg_aload (va := (2, 82)) rfl rfl) ?_
                        refine xg_t (xg_getf (va := (2, 83)) (hb93.get (by decide) (hb83.get (by decide) h82_31)) rfl) ?_
                        refine xg_t (xg_iload (va := (0, 300 + (6 * u77))) rfl rfl) ?_
                        refine xg_t (xg_const) ?_
                        refine xg_t (xg_iadd (u := 300 + (6 * u77)) (v := 2) (z := (300 + (6 * u77)) + 2) xnm0 xnm0 (by omega)) ?_
                        refine xg_t (xg_iload (va := (0, pc_)) rfl rfl) ?_
                        refine xg_iastK (n := (300 + (6 * u77)) + 2) (u := pc_) hr92 xnm0 xnm0 rfl (by omega) (fun w101 hr102 hb103 => ?_)
                        have hx104 : okA (fun j => if j = (300 + (6 * u77)) + 2 then pc_ else g96 j) := hx94.upd (by omega) (by omega) (by omega) (fun _ => by omega) (by omega) (fun _ => by omega) (fun _ => by omega) (fun _ => by omega) (fun _ => by omega) (by omega) (fun _ _ => by omega)
                        have hb105 : ∀ j, (fun j => if j = (300 + (6 * u77)) + 2 then pc_ else g96 j) j ≤ 4294967295 := xrb (by omega) (hb95)
                        obtain ⟨g106, hg107⟩ : ∃ g : Nat → Nat, g = (fun j => if j = (300 + (6 * u77)) + 2 then pc_ else g96 j) := ⟨_, rfl⟩
                        rw [← hg107] at hr102
                        have he108 : g106 ((300 + (6 * u77)) + 2) = pc_ := by rw [hg107]; exact if_pos rfl
                        have hk109 : ∀ j, j ≠ (300 + (6 * u77)) + 2 → g106 j = g96 j := fun j hj => by rw [hg107]; exact if_neg hj
                        rw [← hg107] at hx104
                        rw [← hg107] at hb105
                        have hk110 : g106 10 = g96 10 := hk109 10 (by omega)
                        refine xg_t (xg_aload (va := (2, 82)) rfl rfl) ?_
                        refine xg_t (xg_getf (va := (2, 83)) (hb103.get (by decide) (hb93.get (by decide) (hb83.get (by decide) h82_31))) rfl) ?_
                        refine xg_t (xg_iload (va := (0, 300 + (6 * u77))) rfl rfl) ?_
                        refine xg_t (xg_const) ?_
                        refine xg_t (xg_iadd (u := 300 + (6 * u77)) (v := 3) (z := (300 + (6 * u77)) + 3) xnm0 xnm0 (by omega)) ?_
                        refine xg_t (xg_iload (va := (0, pd)) rfl rfl) ?_
                        refine xg_iastK (n := (300 + (6 * u77)) + 3) (u := pd) hr102 xnm0 xnm0 rfl (by omega) (fun w111 hr112 hb113 => ?_)
                        have hx114 : okA (fun j => if j = (300 + (6 * u77)) + 3 then pd else g106 j) := hx104.upd (by omega) (by omega) (by omega) (fun _ => by omega) (by omega) (fun _ => by omega) (fun _ => by omega) (fun _ => by omega) (fun _ => by omega) (by omega) (fun _ _ => by omega)
                        have hb115 : ∀ j, (fun j => if j = (300 + (6 * u77)) + 3 then pd else g106 j) j ≤ 4294967295 := xrb (by omega) (hb105)
                        obtain ⟨g116, hg117⟩ : ∃ g : Nat → Nat, g = (fun j => if j = (300 + (6 * u77)) + 3 then pd else g106 j) := ⟨_, rfl⟩
                        rw [← hg117] at hr112
                        have he118 : g116 ((300 + (6 * u77)) + 3) = pd := by rw [hg117]; exact if_pos rfl
                        have hk119 : ∀ j, j ≠ (300 + (6 * u77)) + 3 → g116 j = g106 j := fun j hj => by rw [hg117]; exact if_neg hj
                        rw [← hg117] at hx114
                        rw [← hg117] at hb115
                        have hk120 : g116 10 = g106 10 := hk119 10 (by omega)
                        refine xg_t (xg_aload (va := (2, 82)) rfl rfl) ?_
                        refine xg_t (xg_getf (va := (2, 83)) (hb113.get (by decide) (hb103.get (by decide) (hb93.get (by decide) (hb83.get (by decide) h82_31)))) rfl) ?_
                        refine xg_t (xg_iload (va := (0, 300 + (6 * u77))) rfl rfl) ?_
                        refine xg_t (xg_const) ?_
                        refine xg_t (xg_iadd (u := 300 + (6 * u77)) (v := 4) (z := (300 + (6 * u77)) + 4) xnm0 xnm0 (by omega)) ?_
                        refine xg_t (xg_iload (va := (0, pl)) rfl rfl) ?_
                        refine xg_iastK (n := (300 + (6 * u77)) + 4) (u := pl) hr112 xnm0 xnm0 rfl (by omega) (fun w121 hr122 hb123 => ?_)
                        have hx124 : okA (fun j => if j = (300 + (6 * u77)) + 4 then pl else g116 j) := hx114.upd (by omega) (by omega) (by omega) (fun _ => by omega) (by omega) (fun _ => by omega) (fun _ => by omega) (fun _ => by omega) (fun _ => by omega) (by omega) (fun _ _ => by omega)
                        have hb125 : ∀ j, (fun j => if j = (300 + (6 * u77)) + 4 then pl else g116 j) j ≤ 4294967295 := xrb (by omega) (hb115)
                        obtain ⟨g126, hg127⟩ : ∃ g : Nat → Nat, g = (fun j => if j = (300 + (6 * u77)) + 4 then pl else g116 j) := ⟨_, rfl⟩
                        rw [← hg127] at hr122
                        have he128 : g126 ((300 + (6 * u77)) + 4) = pl := by rw [hg127]; exact if_pos rfl
                        have hk129 : ∀ j, j ≠ (300 + (6 * u77)) + 4 → g126 j = g116 j := fun j hj => by rw [hg127]; exact if_neg hj
                        rw [← hg127] at hx124
                        rw [← hg127] at hb125
                        have hk130 : g126 10 = g116 10 := hk129 10 (by omega)
                        refine xg_t (xg_aload (va := (2, 82)) rfl rfl) ?_
                        refine xg_t (xg_getf (va := (2, 83)) (hb123.get (by decide) (hb113.get (by decide) (hb103.get (by decide) (hb93.get (by decide) (hb83.get (by decide) h82_31))))) rfl) ?_
                        refine xg_t (xg_iload (va := (0, 300 + (6 * u77))) rfl rfl) ?_
                        refine xg_t (xg_const) ?_
                        refine xg_t (xg_iadd (u := 300 + (6 * u77)) (v := 5) (z := (300 + (6 * u77)) + 5) xnm0 xnm0 (by omega)) ?_
                        refine xg_t (xg_iload (va := (0, ph)) rfl rfl) ?_
                        refine xg_iastK (n := (300 + (6 * u77)) + 5) (u := ph) hr122 xnm0 xnm0 rfl (by omega) (fun w131 hr132 hb133 => ?_)
                        have hx134 : okA (fun j => if j = (300 + (6 * u77)) + 5 then ph else g126 j) := hx124.upd (by omega) (by omega) (by omega) (fun _ => by omega) (by omega) (fun _ => by omega) (fun _ => by omega) (fun _ => by omega) (fun _ => by omega) (by omega) (fun _ _ => by omega)
                        have hb135 : ∀ j, (fun j => if j = (300 + (6 * u77)) + 5 then ph else g126 j) j ≤ 4294967295 := xrb (by omega) (hb125)
                        obtain ⟨g136, hg137⟩ : ∃ g : Nat → Nat, g = (fun j => if j = (300 + (6 * u77)) + 5 then ph else g126 j) := ⟨_, rfl⟩
                        rw [← hg137] at hr132
                        have he138 : g136 ((300 + (6 * u77)) + 5) = ph := by rw [hg137]; exact if_pos rfl
                        have hk139 : ∀ j, j ≠ (300 + (6 * u77)) + 5 → g136 j = g126 j := fun j hj => by rw [hg137]; exact if_neg hj
                        rw [← hg137] at hx134
                        rw [← hg137] at hb135
                        have hk140 : g136 10 = g126 10 := hk139 10 (by omega)
                        refine xg_t (xg_aload (va := (2, 82)) rfl rfl) ?_
                        refine xg_t (xg_getf (va := (2, 83)) (hb133.get (by decide) (hb123.get (by decide) (hb113.get (by decide) (hb103.get (by decide) (hb93.get (by decide) (hb83.get (by decide) h82_31)))))) rfl) ?_
                        refine xg_t (xg_bip) ?_
                        refine xg_t (xg_dup2 rfl) ?_
                        refine xg_ialdB (n := 10) (B := 4294967295) hr132 (hb135) xnm0 (by first | decide | omega) (fun u141 hu142 he143 => ?_)
                        have hl144 : u141 ≤ 12 := by rw [← he143]; exact hx134.l10
                        refine xg_t (xg_const) ?_
                        refine xg_t (xg_iadd (u := u141) (v := 1) (z := u141 + 1) xnm0 xnm0 (by omega)) ?_
                        refine xg_iastK (n := 10) (u := u141 + 1) hr132 xnm0 xnm0 rfl (by first | decide | omega) (fun w145 hr146 hb147 => ?_)
                        have hp149 : g136 (300 + 6 * u77 + 0) ≤ 5 := by
                          have e : 300 + 6 * u77 + 0 = 300 + (6 * u77) := by omega
                          rw [e, hk139 _ (by omega), hk129 _ (by omega), hk119 _ (by omega), hk109 _ (by omega), hk99 _ (by omega), he88]; omega
                        have hp150 : g136 (300 + 6 * u77 + 1) ≤ 5 := by
                          have e : 300 + 6 * u77 + 1 = (300 + (6 * u77)) + 1 := by omega
                          rw [e, hk139 _ (by omega), hk129 _ (by omega), hk119 _ (by omega), hk109 _ (by omega), he98]; omega
                        have hp151 : g136 (300 + 6 * u77 + 2) ≤ 5 := by
                          have e : 300 + 6 * u77 + 2 = (300 + (6 * u77)) + 2 := by omega
                          rw [e, hk139 _ (by omega), hk129 _ (by omega), hk119 _ (by omega), he108]; omega
                        have hp152 : g136 (300 + 6 * u77 + 3) ≤ 5 := by
                          have e : 300 + 6 * u77 + 3 = (300 + (6 * u77)) + 3 := by omega
                          rw [e, hk139 _ (by omega), hk129 _ (by omega), he118]; omega
                        have hp153 : g136 10 = u77 := by rw [hk139 10 (by omega), hk129 10 (by omega), hk119 10 (by omega), hk109 10 (by omega), hk99 10 (by omega), hk89 10 (by omega)]; omega
                        have hp154 : ∀ p t, p < u141 + 1 → t < 4 → g136 (300 + 6 * p + t) ≤ 5 := by
                          intro p t hp ht
                          by_cases z : p < u77
                          · exact hx134.pic (by omega) ht
                          · have e : p = u77 := by omega
                            subst e
                            rcases (show t = 0 ∨ t = 1 ∨ t = 2 ∨ t = 3 by omega) with rfl | rfl | rfl | rfl
                            · exact hp149
                            · exact hp150
                            · exact hp151
                            · exact hp152
                        have hx148 : okA (fun j => if j = 10 then u141 + 1 else g136 j) := hx134.updP (by omega) hp154
                        have hb155 : ∀ j, (fun j => if j = 10 then u141 + 1 else g136 j) j ≤ 4294967295 := xrb (by omega) (hb135)
                        obtain ⟨g156, hg157⟩ : ∃ g : Nat → Nat, g = (fun j => if j = 10 then u141 + 1 else g136 j) := ⟨_, rfl⟩
                        rw [← hg157] at hr146
                        have he158 : g156 10 = u141 + 1 := by rw [hg157]; exact if_pos rfl
                        have hk159 : ∀ j, j ≠ 10 → g156 j = g136 j := fun j hj => by rw [hg157]; exact if_neg hj
                        rw [← hg157] at hx148
                        rw [← hg157] at hb155
                        refine xg_t (xg_aload (va := (2, 82)) rfl rfl) ?_
                        refine xg_t (xg_getf (va := (2, 83)) (hb147.get (by decide) (hb133.get (by decide) (hb123.get (by decide) (hb113.get (by decide) (hb103.get (by decide) (hb93.get (by decide) (hb83.get (by decide) h82_31))))))) rfl) ?_
                        refine xg_t (xg_bip) ?_
                        refine xg_ialdB (n := 10) (B := 4294967295) hr146 (hb155) xnm0 (by first | decide | omega) (fun u160 hu161 he162 => ?_)
                        have hl163 : u160 ≤ 12 := by rw [← he162]; exact hx148.l10
                        have hq164 : rwv w 83 10 = g83_33 10 := rwv_of h83_34 (by decide)
                        have hq165 : g83_33 10 ≤ 12 := hx36.l10
                        have hq166 : g86 10 = g83_33 10 := hk89 10 (by omega)
                        have hq167 : g96 10 = g86 10 := hk99 10 (by omega)
                        have hq168 : g106 10 = g96 10 := hk109 10 (by omega)
                        have hq169 : g116 10 = g106 10 := hk119 10 (by omega)
                        have hq170 : g126 10 = g116 10 := hk129 10 (by omega)
                        have hq171 : g136 10 = g126 10 := hk139 10 (by omega)
                        have hq172 : g156 10 = u141 + 1 := he158
                        have hq173 : rwv w145 83 10 = g156 10 := rwv_of hr146 (by decide)
                        have hq174 : rwv w 83 5 = g83_33 5 := rwv_of h83_34 (by decide)
                        have hq175 : g83_33 5 ≤ 6 := hx36.l5
                        have hq176 : g86 5 = g83_33 5 := hk89 5 (by omega)
                        have hq177 : g96 5 = g86 5 := hk99 5 (by omega)
                        have hq178 : g106 5 = g96 5 := hk109 5 (by omega)
                        have hq179 : g116 5 = g106 5 := hk119 5 (by omega)
                        have hq180 : g126 5 = g116 5 := hk129 5 (by omega)
                        have hq181 : g136 5 = g126 5 := hk139 5 (by omega)
                        have hq182 : g156 5 = g136 5 := hk159 5 (by omega)
                        have hq183 : rwv w145 83 5 = g156 5 := rwv_of hr146 (by decide)
                        have hq184 : rwv w 83 6 = g83_33 6 := rwv_of h83_34 (by decide)
                        have hq185 : g83_33 6 ≤ 6 := hx36.l6
                        have hq186 : g86 6 = g83_33 6 := hk89 6 (by omega)
                        have hq187 : g96 6 = g86 6 := hk99 6 (by omega)
                        have hq188 : g106 6 = g96 6 := hk109 6 (by omega)
                        have hq189 : g116 6 = g106 6 := hk119 6 (by omega)
                        have hq190 : g126 6 = g116 6 := hk129 6 (by omega)
                        have hq191 : g136 6 = g126 6 := hk139 6 (by omega)
                        have hq192 : g156 6 = g136 6 := hk159 6 (by omega)
                        have hq193 : rwv w145 83 6 = g156 6 := rwv_of hr146 (by decide)
                        have hq195 : 300 + 6 * rwv w 83 10 = 300 + (6 * u77) := by omega
                        have hq194 : rwv w145 83 (300 + 6 * rwv w 83 10) = pa := by
                          rw [hq195, rwv_of hr146 (by omega), hk159 _ (by omega), hk139 _ (by omega), hk129 _ (by omega), hk119 _ (by omega), hk109 _ (by omega), hk99 _ (by omega), he88]
                        have hq197 : 300 + 6 * rwv w 83 10 + 1 = (300 + (6 * u77)) + 1 := by omega
                        have hq196 : rwv w145 83 (300 + 6 * rwv w 83 10 + 1) = pb := by
                          rw [hq197, rwv_of hr146 (by omega), hk159 _ (by omega), hk139 _ (by omega), hk129 _ (by omega), hk119 _ (by omega), hk109 _ (by omega), he98]
                        have hq199 : 300 + 6 * rwv w 83 10 + 2 = (300 + (6 * u77)) + 2 := by omega
                        have hq198 : rwv w145 83 (300 + 6 * rwv w 83 10 + 2) = pc_ := by
                          rw [hq199, rwv_of hr146 (by omega), hk159 _ (by omega), hk139 _ (by omega), hk129 _ (by omega), hk119 _ (by omega), he108]
                        have hq201 : 300 + 6 * rwv w 83 10 + 3 = (300 + (6 * u77)) + 3 := by omega
                        have hq200 : rwv w145 83 (300 + 6 * rwv w 83 10 + 3) = pd := by
                          rw [hq201, rwv_of hr146 (by omega), hk159 _ (by omega), hk139 _ (by omega), hk129 _ (by omega), he118]
                        have hq203 : 300 + 6 * rwv w 83 10 + 4 = (300 + (6 * u77)) + 4 := by omega
                        have hq202 : rwv w145 83 (300 + 6 * rwv w 83 10 + 4) = pl := by
                          rw [hq203, rwv_of hr146 (by omega), hk159 _ (by omega), hk139 _ (by omega), he128]
                        have hq205 : 300 + 6 * rwv w 83 10 + 5 = (300 + (6 * u77)) + 5 := by omega
                        have hq204 : rwv w145 83 (300 + 6 * rwv w 83 10 + 5) = ph := by
                          rw [hq205, rwv_of hr146 (by omega), hk159 _ (by omega), he138]
                        exact xg_e ⟨u160, w145, ⟨rfl, rfl⟩, ⟨by omega, fun _ => ⟨hq194, hq196, hq198, hq200, hq202, hq204⟩, fun j hj h => (rwv_of hr146 h).trans (Eq.trans (by rw [hk159 j (by omega), hk139 j (by omega), hk129 j (by omega), hk119 j (by omega), hk109 j (by omega), hk99 j (by omega), hk89 j (by omega)]) (rwv_of h83_34 h).symm)⟩, xMnv.up (S := [83]) hI (((((((xFr.of (S := [83]) hb83 (by decide)).tr (xFr.of (S := [83]) hb93 (by decide))).tr (xFr.of (S := [83]) hb103 (by decide))).tr (xFr.of (S := [83]) hb113 (by decide))).tr (xFr.of (S := [83]) hb123 (by decide))).tr (xFr.of (S := [83]) hb133 (by decide))).tr (xFr.of (S := [83]) hb147 (by decide))) (List.forall_mem_cons.mpr ⟨xqu83 (show cpx83 (wget w145 83) from ⟨_, hr146, hb155, hx148⟩), fun _ h => absurd h List.not_mem_nil⟩), (((((((xFr.of (S := [83]) hb83 (by decide)).tr (xFr.of (S := [83]) hb93 (by decide))).tr (xFr.of (S := [83]) hb103 (by decide))).tr (xFr.of (S := [83]) hb113 (by decide))).tr (xFr.of (S := [83]) hb123 (by decide))).tr (xFr.of (S := [83]) hb133 (by decide))).tr (xFr.of (S := [83]) hb147 (by decide)))⟩
                      · refine xg_t (xg_ifF (u := (if 1 ≤ ph ∧ ph ≤ 999 then 1 else 0)) rfl xnm0 (xj_neF (xite0 hc76))) ?_
                        refine xg_t (xg_blq rfl) ?_
                        refine xg_t (xg_const) ?_
                        have hq206 : rwv w 83 10 = g83_33 10 := rwv_of h83_34 (by decide)
                        have hq207 : g83_33 10 ≤ 12 := hx36.l10
                        have hq208 : rwv w 83 10 = g83_33 10 := rwv_of h83_34 (by decide)
                        have hq209 : rwv w 83 5 = g83_33 5 := rwv_of h83_34 (by decide)
                        have hq210 : g83_33 5 ≤ 6 := hx36.l5
                        have hq211 : rwv w 83 5 = g83_33 5 := rwv_of h83_34 (by decide)
                        have hq212 : rwv w 83 6 = g83_33 6 := rwv_of h83_34 (by decide)
                        have hq213 : g83_33 6 ≤ 6 := hx36.l6
                        have hq214 : rwv w 83 6 = g83_33 6 := rwv_of h83_34 (by decide)
                        exact xg_e ⟨4294967295, w, ⟨rfl, rfl⟩, ⟨by omega, fun h => absurd h (by omega), fun j _ h => (rwv_of h83_34 h).trans (rwv_of h83_34 h).symm⟩, hI, xFr.rf⟩
                    · refine xg_t (xg_ifT (u := (if 1 ≤ pl ∧ pl ≤ 9 then 1 else 0)) rfl xnm0 (xj_eqT (xite0 hc75))) ?_
                      refine xg_t (xg_blq rfl) ?_
                      refine xg_t (xg_const) ?_
                      have hq215 : rwv w 83 10 = g83_33 10 := rwv_of h83_34 (by decide)
                      have hq216 : g83_33 10 ≤ 12 := hx36.l10
                      have hq217 : rwv w 83 10 = g83_33 10 := rwv_of h83_34 (by decide)
                      have hq218 : rwv w 83 5 = g83_33 5 := rwv_of h83_34 (by decide)
                      have hq219 : g83_33 5 ≤ 6 := hx36.l5
                      have hq220 : rwv w 83 5 = g83_33 5 := rwv_of h83_34 (by decide)
                      have hq221 : rwv w 83 6 = g83_33 6 := rwv_of h83_34 (by decide)
                      have hq222 : g83_33 6 ≤ 6 := hx36.l6
                      have hq223 : rwv w 83 6 = g83_33 6 := rwv_of h83_34 (by decide)
                      exact xg_e ⟨4294967295, w, ⟨rfl, rfl⟩, ⟨by omega, fun h => absurd h (by omega), fun j _ h => (rwv_of h83_34 h).trans (rwv_of h83_34 h).symm⟩, hI, xFr.rf⟩
                  · refine xg_t (xg_ifT (u := (if pc_ ≤ pd ∧ pd ≤ u69 - 1 then 1 else 0)) rfl xnm0 (xj_eqT (xite0 hc74))) ?_
                    refine xg_t (xg_blq rfl) ?_
                    refine xg_t (xg_const) ?_
                    have hq224 : rwv w 83 10 = g83_33 10 := rwv_of h83_34 (by decide)
                    have hq225 : g83_33 10 ≤ 12 := hx36.l10
                    have hq226 : rwv w 83 10 = g83_33 10 := rwv_of h83_34 (by decide)
                    have hq227 : rwv w 83 5 = g83_33 5 := rwv_of h83_34 (by decide)
                    have hq228 : g83_33 5 ≤ 6 := hx36.l5
                    have hq229 : rwv w 83 5 = g83_33 5 := rwv_of h83_34 (by decide)
                    have hq230 : rwv w 83 6 = g83_33 6 := rwv_of h83_34 (by decide)
                    have hq231 : g83_33 6 ≤ 6 := hx36.l6
                    have hq232 : rwv w 83 6 = g83_33 6 := rwv_of h83_34 (by decide)
                    exact xg_e ⟨4294967295, w, ⟨rfl, rfl⟩, ⟨by omega, fun h => absurd h (by omega), fun j _ h => (rwv_of h83_34 h).trans (rwv_of h83_34 h).symm⟩, hI, xFr.rf⟩
                · have hz235 : 4294967295 ≤ (u69 + (4294967296 - 1)) % 4294967296 := by omega
                  refine xg_t (xg_isub (u := u69) (v := 1) (z := (u69 + (4294967296 - 1)) % 4294967296) xnm0 xnm0 rfl) ?_
                  have hz234 : (u69 + (4294967296 - 1)) % 4294967296 < 4294967296 := Nat.mod_lt _ (by decide)
                  generalize (u69 + (4294967296 - 1)) % 4294967296 = z233 at hz235 hz234 ⊢
                  refine xg_t (xg_cSr mX12_isIn (vs := [(0, pd), (0, pc_), (0, z233)]) (rest := []) (rs := [(0, 0)]) (cn1 := 0) (sl1 := 0) rfl (mIsInN (by omega) (by omega) (by omega) (by omega)) rfl rfl rfl rfl rfl rfl rfl rfl) ?_
                  refine xg_t (xg_ifT (u := 0) rfl xnm0 (by decide)) ?_
                  refine xg_t (xg_blq rfl) ?_
                  refine xg_t (xg_const) ?_
                  have hq236 : rwv w 83 10 = g83_33 10 := rwv_of h83_34 (by decide)
                  have hq237 : g83_33 10 ≤ 12 := hx36.l10
                  have hq238 : rwv w 83 10 = g83_33 10 := rwv_of h83_34 (by decide)
                  have hq239 : rwv w 83 5 = g83_33 5 := rwv_of h83_34 (by decide)
                  have hq240 : g83_33 5 ≤ 6 := hx36.l5
                  have hq241 : rwv w 83 5 = g83_33 5 := rwv_of h83_34 (by decide)
                  have hq242 : rwv w 83 6 = g83_33 6 := rwv_of h83_34 (by decide)
                  have hq243 : g83_33 6 ≤ 6 := hx36.l6
                  have hq244 : rwv w 83 6 = g83_33 6 := rwv_of h83_34 (by decide)
                  exact xg_e ⟨4294967295, w, ⟨rfl, rfl⟩, ⟨by omega, fun h => absurd h (by omega), fun j _ h => (rwv_of h83_34 h).trans (rwv_of h83_34 h).symm⟩, hI, xFr.rf⟩
              · refine xg_t (xg_ifT (u := (if 0 ≤ pc_ ∧ pc_ ≤ u63 - 1 then 1 else 0)) rfl xnm0 (xj_eqT (xite0 hc68))) ?_
                refine xg_t (xg_blq rfl) ?_
                refine xg_t (xg_const) ?_
                have hq245 : rwv w 83 10 = g83_33 10 := rwv_of h83_34 (by decide)
                have hq246 : g83_33 10 ≤ 12 := hx36.l10
                have hq247 : rwv w 83 10 = g83_33 10 := rwv_of h83_34 (by decide)
                have hq248 : rwv w 83 5 = g83_33 5 := rwv_of h83_34 (by decide)
                have hq249 : g83_33 5 ≤ 6 := hx36.l5
                have hq250 : rwv w 83 5 = g83_33 5 := rwv_of h83_34 (by decide)
                have hq251 : rwv w 83 6 = g83_33 6 := rwv_of h83_34 (by decide)
                have hq252 : g83_33 6 ≤ 6 := hx36.l6
                have hq253 : rwv w 83 6 = g83_33 6 := rwv_of h83_34 (by decide)
                exact xg_e ⟨4294967295, w, ⟨rfl, rfl⟩, ⟨by omega, fun h => absurd h (by omega), fun j _ h => (rwv_of h83_34 h).trans (rwv_of h83_34 h).symm⟩, hI, xFr.rf⟩
            · have hz256 : 4294967295 ≤ (u63 + (4294967296 - 1)) % 4294967296 := by omega
              refine xg_t (xg_isub (u := u63) (v := 1) (z := (u63 + (4294967296 - 1)) % 4294967296) xnm0 xnm0 rfl) ?_
              have hz255 : (u63 + (4294967296 - 1)) % 4294967296 < 4294967296 := Nat.mod_lt _ (by decide)
              generalize (u63 + (4294967296 - 1)) % 4294967296 = z254 at hz256 hz255 ⊢
              refine xg_t (xg_cSr mX12_isIn (vs := [(0, pc_), (0, 0), (0, z254)]) (rest := []) (rs := [(0, 0)]) (cn1 := 0) (sl1 := 0) rfl (mIsInN (by omega) (by omega) (by omega) (by omega)) rfl rfl rfl rfl rfl rfl rfl rfl) ?_
              refine xg_t (xg_ifT (u := 0) rfl xnm0 (by decide)) ?_
              refine xg_t (xg_blq rfl) ?_
              refine xg_t (xg_const) ?_
              have hq257 : rwv w 83 10 = g83_33 10 := rwv_of h83_34 (by decide)
              have hq258 : g83_33 10 ≤ 12 := hx36.l10
              have hq259 : rwv w 83 10 = g83_33 10 := rwv_of h83_34 (by decide)
              have hq260 : rwv w 83 5 = g83_33 5 := rwv_of h83_34 (by decide)
              have hq261 : g83_33 5 ≤ 6 := hx36.l5
              have hq262 : rwv w 83 5 = g83_33 5 := rwv_of h83_34 (by decide)
              have hq263 : rwv w 83 6 = g83_33 6 := rwv_of h83_34 (by decide)
              have hq264 : g83_33 6 ≤ 6 := hx36.l6
              have hq265 : rwv w 83 6 = g83_33 6 := rwv_of h83_34 (by decide)
              exact xg_e ⟨4294967295, w, ⟨rfl, rfl⟩, ⟨by omega, fun h => absurd h (by omega), fun j _ h => (rwv_of h83_34 h).trans (rwv_of h83_34 h).symm⟩, hI, xFr.rf⟩
          · refine xg_t (xg_ifT (u := (if pa ≤ pb ∧ pb ≤ u57 - 1 then 1 else 0)) rfl xnm0 (xj_eqT (xite0 hc62))) ?_
            refine xg_t (xg_blq rfl) ?_
            refine xg_t (xg_const) ?_
            have hq266 : rwv w 83 10 = g83_33 10 := rwv_of h83_34 (by decide)
            have hq267 : g83_33 10 ≤ 12 := hx36.l10
            have hq268 : rwv w 83 10 = g83_33 10 := rwv_of h83_34 (by decide)
            have hq269 : rwv w 83 5 = g83_33 5 := rwv_of h83_34 (by decide)
            have hq270 : g83_33 5 ≤ 6 := hx36.l5
            have hq271 : rwv w 83 5 = g83_33 5 := rwv_of h83_34 (by decide)
            have hq272 : rwv w 83 6 = g83_33 6 := rwv_of h83_34 (by decide)
            have hq273 : g83_33 6 ≤ 6 := hx36.l6
            have hq274 : rwv w 83 6 = g83_33 6 := rwv_of h83_34 (by decide)
            exact xg_e ⟨4294967295, w, ⟨rfl, rfl⟩, ⟨by omega, fun h => absurd h (by omega), fun j _ h => (rwv_of h83_34 h).trans (rwv_of h83_34 h).symm⟩, hI, xFr.rf⟩
        · have hz277 : 4294967295 ≤ (u57 + (4294967296 - 1)) % 4294967296 := by omega
          refine xg_t (xg_isub (u := u57) (v := 1) (z := (u57 + (4294967296 - 1)) % 4294967296) xnm0 xnm0 rfl) ?_
          have hz276 : (u57 + (4294967296 - 1)) % 4294967296 < 4294967296 := Nat.mod_lt _ (by decide)
          generalize (u57 + (4294967296 - 1)) % 4294967296 = z275 at hz277 hz276 ⊢
          refine xg_t (xg_cSr mX12_isIn (vs := [(0, pb), (0, pa), (0, z275)]) (rest := []) (rs := [(0, 0)]) (cn1 := 0) (sl1 := 0) rfl (mIsInN (by omega) (by omega) (by omega) (by omega)) rfl rfl rfl rfl rfl rfl rfl rfl) ?_
          refine xg_t (xg_ifT (u := 0) rfl xnm0 (by decide)) ?_
          refine xg_t (xg_blq rfl) ?_
          refine xg_t (xg_const) ?_
          have hq278 : rwv w 83 10 = g83_33 10 := rwv_of h83_34 (by decide)
          have hq279 : g83_33 10 ≤ 12 := hx36.l10
          have hq280 : rwv w 83 10 = g83_33 10 := rwv_of h83_34 (by decide)
          have hq281 : rwv w 83 5 = g83_33 5 := rwv_of h83_34 (by decide)
          have hq282 : g83_33 5 ≤ 6 := hx36.l5
          have hq283 : rwv w 83 5 = g83_33 5 := rwv_of h83_34 (by decide)
          have hq284 : rwv w 83 6 = g83_33 6 := rwv_of h83_34 (by decide)
          have hq285 : g83_33 6 ≤ 6 := hx36.l6
          have hq286 : rwv w 83 6 = g83_33 6 := rwv_of h83_34 (by decide)
          exact xg_e ⟨4294967295, w, ⟨rfl, rfl⟩, ⟨by omega, fun h => absurd h (by omega), fun j _ h => (rwv_of h83_34 h).trans (rwv_of h83_34 h).symm⟩, hI, xFr.rf⟩
      · refine xg_t (xg_ifT (u := (if 0 ≤ pa ∧ pa ≤ u51 - 1 then 1 else 0)) rfl xnm0 (xj_eqT (xite0 hc56))) ?_
        refine xg_t (xg_blq rfl) ?_
        refine xg_t (xg_const) ?_
        have hq287 : rwv w 83 10 = g83_33 10 := rwv_of h83_34 (by decide)
        have hq288 : g83_33 10 ≤ 12 := hx36.l10
        have hq289 : rwv w 83 10 = g83_33 10 := rwv_of h83_34 (by decide)
        have hq290 : rwv w 83 5 = g83_33 5 := rwv_of h83_34 (by decide)
        have hq291 : g83_33 5 ≤ 6 := hx36.l5
        have hq292 : rwv w 83 5 = g83_33 5 := rwv_of h83_34 (by decide)
        have hq293 : rwv w 83 6 = g83_33 6 := rwv_of h83_34 (by decide)
        have hq294 : g83_33 6 ≤ 6 := hx36.l6
        have hq295 : rwv w 83 6 = g83_33 6 := rwv_of h83_34 (by decide)
        exact xg_e ⟨4294967295, w, ⟨rfl, rfl⟩, ⟨by omega, fun h => absurd h (by omega), fun j _ h => (rwv_of h83_34 h).trans (rwv_of h83_34 h).symm⟩, hI, xFr.rf⟩
    · have hz298 : 4294967295 ≤ (u51 + (4294967296 - 1)) % 4294967296 := by omega
      refine xg_t (xg_isub (u := u51) (v := 1) (z := (u51 + (4294967296 - 1)) % 4294967296) xnm0 xnm0 rfl) ?_
      have hz297 : (u51 + (4294967296 - 1)) % 4294967296 < 4294967296 := Nat.mod_lt _ (by decide)
      generalize (u51 + (4294967296 - 1)) % 4294967296 = z296 at hz298 hz297 ⊢
      refine xg_t (xg_cSr mX12_isIn (vs := [(0, pa), (0, 0), (0, z296)]) (rest := []) (rs := [(0, 0)]) (cn1 := 0) (sl1 := 0) rfl (mIsInN (by omega) (by omega) (by omega) (by omega)) rfl rfl rfl rfl rfl rfl rfl rfl) ?_
      refine xg_t (xg_ifT (u := 0) rfl xnm0 (by decide)) ?_
      refine xg_t (xg_blq rfl) ?_
      refine xg_t (xg_const) ?_
      have hq299 : rwv w 83 10 = g83_33 10 := rwv_of h83_34 (by decide)
      have hq300 : g83_33 10 ≤ 12 := hx36.l10
      have hq301 : rwv w 83 10 = g83_33 10 := rwv_of h83_34 (by decide)
      have hq302 : rwv w 83 5 = g83_33 5 := rwv_of h83_34 (by decide)
      have hq303 : g83_33 5 ≤ 6 := hx36.l5
      have hq304 : rwv w 83 5 = g83_33 5 := rwv_of h83_34 (by decide)
      have hq305 : rwv w 83 6 = g83_33 6 := rwv_of h83_34 (by decide)
      have hq306 : g83_33 6 ≤ 6 := hx36.l6
      have hq307 : rwv w 83 6 = g83_33 6 := rwv_of h83_34 (by decide)
      exact xg_e ⟨4294967295, w, ⟨rfl, rfl⟩, ⟨by omega, fun h => absurd h (by omega), fun j _ h => (rwv_of h83_34 h).trans (rwv_of h83_34 h).symm⟩, hI, xFr.rf⟩
theorem mHandY {fi fo ro : Nat} (hI : xMnv w) (hfi : fi ≤ 4294967295) (hfo : fo ≤ 4294967295) (hro : ro ≤ 4294967295) : xPi (d + 2) mX12_hand [(2, 82), (0, fi), (0, fo), (0, ro)] w bd fc rr (fun n w' => (((n = rwv w 83 900 ∧ rwv w 83 900 < 4 ∧ ((1 ≤ fi ∧ fi ≤ 999) ∧ (1 ≤ fo ∧ fo ≤ 999) ∧ (1 ≤ ro ∧ ro ≤ 9999)) ∧ rwv w' 83 900 = rwv w 83 900 + 1) ∨ (n = 4294967295 ∧ ¬ (rwv w 83 900 < 4 ∧ ((1 ≤ fi ∧ fi ≤ 999) ∧ (1 ≤ fo ∧ fo ≤ 999) ∧ (1 ≤ ro ∧ ro ≤ 9999))) ∧ rwv w' 83 900 = rwv w 83 900)) ∧ (n ≠ 4294967295 → rwv w' 83 (950 + 3 * rwv w 83 900) = fi ∧ rwv w' 83 (950 + 3 * rwv w 83 900 + 1) = fo ∧ rwv w' 83 (950 + 3 * rwv w 83 900 + 2) = ro) ∧ (∀ j, (j ≠ 900 ∧ (j < 950 + 3 * rwv w 83 900 ∨ 953 + 3 * rwv w 83 900 ≤ j)) → j < 5360 → rwv w' 83 j = rwv w 83 j)) ∧ xMnv w' ∧ xFr [83] w w') := by
  refine xPi.of ?_
  show xTo (d + 2) mX12_hand (0, [], [(0, (2, 82)), (1, (0, fi)), (2, (0, fo)), (3, (0, ro))], [], (w, bd, fc, 0, 0, rr)) (fun φ => ∃ n w', xEnd 1 [(0, n)] (w', bd, fc, 0, 0, rr) φ ∧ (((n = rwv w 83 900 ∧ rwv w 83 900 < 4 ∧ ((1 ≤ fi ∧ fi ≤ 999) ∧ (1 ≤ fo ∧ fo ≤ 999) ∧ (1 ≤ ro ∧ ro ≤ 9999)) ∧ rwv w' 83 900 = rwv w 83 900 + 1) ∨ (n = 4294967295 ∧ ¬ (rwv w 83 900 < 4 ∧ ((1 ≤ fi ∧ fi ≤ 999) ∧ (1 ≤ fo ∧ fo ≤ 999) ∧ (1 ≤ ro ∧ ro ≤ 9999))) ∧ rwv w' 83 900 = rwv w 83 900)) ∧ (n ≠ 4294967295 → rwv w' 83 (950 + 3 * rwv w 83 900) = fi ∧ rwv w' 83 (950 + 3 * rwv w 83 900 + 1) = fo ∧ rwv w' 83 (950 + 3 * rwv w 83 900 + 2) = ro) ∧ (∀ j, (j ≠ 900 ∧ (j < 950 + 3 * rwv w 83 900 ∨ 953 + 3 * rwv w 83 900 ≤ j)) → j < 5360 → rwv w' 83 j = rwv w 83 j)) ∧ xMnv w' ∧ xFr [83] w w')
  refine xoCh82 (xqc82 hI : cp82 (wget w 82)) (fun f82_1 f82_3 f82_5 f82_7 f82_9 f82_11 f82_13 f82_15 f82_17 f82_19 f82_21 f82_22 f82_23 f82_25 f82_27 f82_29 h82_31 hb2 hb4 hb6 hb8 hb10 hb12 hb14 hb16 hb18 hb20 hb24 hb26 hb28 hb30 hb32 => ?_)
  refine xoX83 (xqc83 hI : cpx83 (wget w 83)) (fun g83_33 h83_34 hb35 hx36 => ?_)
  refine xg_t (xg_blq rfl) ?_
  refine xg_t (xg_aload (va := (2, 82)) rfl rfl) ?_
  refine xg_t (xg_getf (va := (2, 83)) h82_31 rfl) ?_
  refine xg_t (xg_sip) ?_
  refine xg_ialdB (n := 900) (B := 4294967295) h83_34 (hb35) xnm0 (by first | decide | omega) (fun u37 hu38 he39 => ?_)
  have hl40 : u37 ≤ 4 := by rw [← he39]; exact hx36.l900
  refine xg_t (xg_const) ?_
  by_cases hc41 : u37 = 4
  · refine xg_t (xg_icT (u := u37) (v := 4) rfl xnm0 xnm0 (xj_eqT hc41)) ?_
    refine xg_t (xg_blq rfl) ?_
    refine xg_t (xg_const) ?_
    have hq42 : rwv w 83 900 = g83_33 900 := rwv_of h83_34 (by decide)
    have hq43 : g83_33 900 ≤ 4 := hx36.l900
    have hq44 : rwv w 83 900 = g83_33 900 := rwv_of h83_34 (by decide)
    exact xg_e ⟨4294967295, w, ⟨rfl, rfl⟩, ⟨by omega, fun h => absurd h (by omega), fun j _ h => (rwv_of h83_34 h).trans (rwv_of h83_34 h).symm⟩, hI, xFr.rf⟩
  · refine xg_t (xg_icF (u := u37) (v := 4) rfl xnm0 xnm0 (xj_eqF hc41)) ?_
    refine xg_t (xg_iload (va := (0, fi)) rfl rfl) ?_
    refine xg_t (xg_const) ?_
    refine xg_t (xg_sip) ?_
    refine xg_t (xg_cSr mX12_isIn (vs := [(0, fi), (0, 1), (0, 999)]) (rest := []) (rs := [(0, if 1 ≤ fi ∧ fi ≤ 999 then 1 else 0)]) (cn1 := 0) (sl1 := 0) rfl (mIsIn (by omega) (by omega) (by omega)) rfl rfl rfl rfl rfl rfl rfl rfl) ?_
    by_cases hc45 : 1 ≤ fi ∧ fi ≤ 999
    · refine xg_t (xg_ifF (u := (if 1 ≤ fi ∧ fi ≤ 999 then 1 else 0)) rfl xnm0 (xj_eqF (xite1 hc45))) ?_
      refine xg_t (xg_iload (va := (0, fo)) rfl rfl) ?_
      refine xg_t (xg_const) ?_
      refine xg_t (xg_sip) ?_
      refine xg_t (xg_cSr mX12_isIn (vs := [(0, fo), (0, 1), (0, 999)]) (rest := []) (rs := [(0, if 1 ≤ fo ∧ fo ≤ 999 then 1 else 0)]) (cn1 := 0) (sl1 := 0) rfl (mIsIn (by omega) (by omega) (by omega)) rfl rfl rfl rfl rfl rfl rfl rfl) ?_
      by_cases hc46 : 1 ≤ fo ∧ fo ≤ 999
      · refine xg_t (xg_ifF (u := (if 1 ≤ fo ∧ fo ≤ 999 then 1 else 0)) rfl xnm0 (xj_eqF (xite1 hc46))) ?_
        refine xg_t (xg_aload (va := (2, 82)) rfl rfl) ?_
        refine xg_t (xg_iload (va := (0, ro)) rfl rfl) ?_
        refine xg_cVi mX12_isRound (vs := [(0, ro)]) (rest := []) (cn1 := 0) (sl1 := 0) rfl (mIsRoundX (hI) (by omega)) rfl h82_31 rfl rfl rfl rfl rfl rfl (fun n51 w47 hq48 => ?_)
        obtain ⟨hn52, hI49, hF50⟩ := hq48
        by_cases hc53 : n51 = 0
        · refine xg_t (xg_ifF (u := n51) rfl xnm0 (xj_neF hc53)) ?_
          refine xg_t (xg_blq rfl) ?_
          refine xg_t (xg_const) ?_
          have hq54 : rwv w 83 900 = g83_33 900 := rwv_of h83_34 (by decide)
          have hq55 : g83_33 900 ≤ 4 := hx36.l900
          have hq56 : rwv w47 83 900 = g83_33 900 := rwv_of (h83_34.fr hF50 (by decide)) (by decide)
          exact xg_e ⟨4294967295, w47, ⟨rfl, rfl⟩, ⟨by omega, fun h => absurd h (by omega), fun j _ h => (rwv_of (h83_34.fr hF50 (by decide)) h).trans (rwv_of h83_34 h).symm⟩, hI49, (hF50.up (by decide))⟩
        · refine xg_t (xg_ifT (u := n51) rfl xnm0 (xj_neT hc53)) ?_
          refine xg_t (xg_blq rfl) ?_
          refine xg_t (xg_sip) ?_
          refine xg_t (xg_const) ?_
          refine xg_t (xg_aload (va := (2, 82)) rfl rfl) ?_
          refine xg_t (xg_getf (va := (2, 83)) (hF50.get (by decide) h82_31) rfl) ?_
          refine xg_t (xg_sip) ?_
          refine xg_ialdB (n := 900) (B := 4294967295) (h83_34.fr hF50 (by decide)) (hb35) xnm0 (by first | decide | omega) (fun u57 hu58 he59 => ?_)
          have hl60 : u57 ≤ 4 := by rw [← he59]; exact hx36.l900
          refine xg_t (xg_imul (u := 3) (v := u57) (z := 3 * u57) xnm0 xnm0 (by omega)) ?_
          refine xg_t (xg_iadd (u := 950) (v := 3 * u57) (z := 950 + (3 * u57)) xnm0 xnm0 (by omega)) ?_
          refine xg_t (xg_istore (l1 := [(0, (2, 82)), (1, (0, fi)), (2, (0, fo)), (3, (0, ro))]) rfl rfl rfl) ?_
          refine xg_t (xg_aload (va := (2, 82)) rfl rfl) ?_
          refine xg_t (xg_getf (va := (2, 83)) (hF50.get (by decide) h82_31) rfl) ?_
          refine xg_t (xg_iload (va := (0, 950 + (3 * u57))) rfl rfl) ?_
          refine xg_t (xg_iload (va := (0, fi)) rfl rfl) ?_
          refine xg_iastK (n := 950 + (3 * u57)) (u := fi) (h83_34.fr hF50 (by decide)) xnm0 xnm0 rfl (by omega) (fun w61 hr62 hb63 => ?_)
          have hx64 : okA (fun j => if j = 950 + (3 * u57) then fi else g83_33 j) := hx36.upd (by omega) (by omega) (by omega) (fun _ => by omega) (by omega) (fun _ => by omega) (fun _ => by omega) (fun _ => by omega) (fun _ => by omega) (by omega) (fun _ _ => by omega)
          have hb65 : ∀ j, (fun j => if j = 950 + (3 * u57) then fi else g83_33 j) j ≤ 4294967295 := xrb (by omega) (hb35)
          obtain ⟨g66, hg67⟩ : ∃ g : Nat → Nat, g = (fun j => if j = 950 + (3 * u57) then fi else g83_33 j) := ⟨_, rfl⟩
          rw [← hg67] at hr62
          have he68 : g66 (950 + (3 * u57)) = fi := by rw [hg67]; exact if_pos rfl
          have hk69 : ∀ j, j ≠ 950 + (3 * u57) → g66 j = g83_33 j := fun j hj => by rw [hg67]; exact if_neg hj
          rw [← hg67] at hx64
          rw [← hg67] at hb65
          have hk70 : g66 900 = g83_33 900 := hk69 900 (by omega)
          refine xg_t (xg_aload (va := (2, 82)) rfl rfl) ?_
          refine xg_t (xg_getf (va := (2, 83)) (hb63.get (by decide) (hF50.get (by decide) h82_31)) rfl) ?_
          refine xg_t (xg_iload (va := (0, 950 + (3 * u57))) rfl rfl) ?_
          refine xg_t (xg_const) ?_
          refine xg_t (xg_iadd (u := 950 + (3 * u57)) (v := 1) (z := (950 + (3 * u57)) + 1) xnm0 xnm0 (by omega)) ?_
          refine xg_t (xg_iload (va := (0, fo)) rfl rfl) ?_
          refine xg_iastK (n := (950 + (3 * u57)) + 1) (u := fo) hr62 xnm0 xnm0 rfl (by omega) (fun w71 hr72 hb73 => ?_)
          have hx74 : okA (fun j => if j = (950 + (3 * u57)) + 1 then fo else g66 j) := hx64.upd (by omega) (by omega) (by omega) (fun _ => by omega) (by omega) (fun _ => by omega) (fun _ => by omega) (fun _ => by omega) (fun _ => by omega) (by omega) (fun _ _ => by omega)
          have hb75 : ∀ j, (fun j => if j = (950 + (3 * u57)) + 1 then fo else g66 j) j ≤ 4294967295 := xrb (by omega) (hb65)
          obtain ⟨g76, hg77⟩ : ∃ g : Nat → Nat, g = (fun j => if j = (950 + (3 * u57)) + 1 then fo else g66 j) := ⟨_, rfl⟩
          rw [← hg77] at hr72
          have he78 : g76 ((950 + (3 * u57)) + 1) = fo := by rw [hg77]; exact if_pos rfl
          have hk79 : ∀ j, j ≠ (950 + (3 * u57)) + 1 → g76 j = g66 j := fun j hj => by rw [hg77]; exact if_neg hj
          rw [← hg77] at hx74
          rw [← hg77] at hb75
          have hk80 : g76 900 = g66 900 := hk79 900 (by omega)
          refine xg_t (xg_aload (va := (2, 82)) rfl rfl) ?_
          refine xg_t (xg_getf (va := (2, 83)) (hb73.get (by decide) (hb63.get (by decide) (hF50.get (by decide) h82_31))) rfl) ?_
          refine xg_t (xg_iload (va := (0, 950 + (3 * u57))) rfl rfl) ?_
          refine xg_t (xg_const) ?_
          refine xg_t (xg_iadd (u := 950 + (3 * u57)) (v := 2) (z := (950 + (3 * u57)) + 2) xnm0 xnm0 (by omega)) ?_
          refine xg_t (xg_iload (va := (0, ro)) rfl rfl) ?_
          refine xg_iastK (n := (950 + (3 * u57)) + 2) (u := ro) hr72 xnm0 xnm0 rfl (by omega) (fun w81 hr82 hb83 => ?_)
          have hx84 : okA (fun j => if j = (950 + (3 * u57)) + 2 then ro else g76 j) := hx74.upd (by omega) (by omega) (by omega) (fun _ => by omega) (by omega) (fun _ => by omega) (fun _ => by omega) (fun _ => by omega) (fun _ => by omega) (by omega) (fun _ _ => by omega)
          have hb85 : ∀ j, (fun j => if j = (950 + (3 * u57)) + 2 then ro else g76 j) j ≤ 4294967295 := xrb (by omega) (hb75)
          obtain ⟨g86, hg87⟩ : ∃ g : Nat → Nat, g = (fun j => if j = (950 + (3 * u57)) + 2 then ro else g76 j) := ⟨_, rfl⟩
          rw [← hg87] at hr82
          have he88 : g86 ((950 + (3 * u57)) + 2) = ro := by rw [hg87]; exact if_pos rfl
          have hk89 : ∀ j, j ≠ (950 + (3 * u57)) + 2 → g86 j = g76 j := fun j hj => by rw [hg87]; exact if_neg hj
          rw [← hg87] at hx84
          rw [← hg87] at hb85
          have hk90 : g86 900 = g76 900 := hk89 900 (by omega)
          refine xg_t (xg_aload (va := (2, 82)) rfl rfl) ?_
          refine xg_t (xg_getf (va := (2, 83)) (hb83.get (by decide) (hb73.get (by decide) (hb63.get (by decide) (hF50.get (by decide) h82_31)))) rfl) ?_
          refine xg_t (xg_sip) ?_
          refine xg_t (xg_dup2 rfl) ?_
          refine xg_ialdB (n := 900) (B := 4294967295) hr82 (hb85) xnm0 (by first | decide | omega) (fun u91 hu92 he93 => ?_)
          have hl94 : u91 ≤ 4 := by rw [← he93]; exact hx84.l900
          refine xg_t (xg_const) ?_
          refine xg_t (xg_iadd (u := u91) (v := 1) (z := u91 + 1) xnm0 xnm0 (by omega)) ?_
          refine xg_iastK (n := 900) (u := u91 + 1) hr82 xnm0 xnm0 rfl (by first | decide | omega) (fun w95 hr96 hb97 => ?_)
          have hx98 : okA (fun j => if j = 900 then u91 + 1 else g86 j) := hx84.upd (by omega) (by omega) (by omega) (fun _ => by omega) (by omega) (fun _ => by omega) (fun _ => by omega) (fun _ => by omega) (fun _ => by omega) (by omega) (fun _ _ => by omega)
          have hb99 : ∀ j, (fun j => if j = 900 then u91 + 1 else g86 j) j ≤ 4294967295 := xrb (by omega) (hb85)
          obtain ⟨g100, hg101⟩ : ∃ g : Nat → Nat, g = (fun j => if j = 900 then u91 + 1 else g86 j) := ⟨_, rfl⟩
          rw [← hg101] at hr96
          have he102 : g100 900 = u91 + 1 := by rw [hg101]; exact if_pos rfl
          have hk103 : ∀ j, j ≠ 900 → g100 j = g86 j := fun j hj => by rw [hg101]; exact if_neg hj
          rw [← hg101] at hx98
          rw [← hg101] at hb99
          refine xg_t (xg_aload (va := (2, 82)) rfl rfl) ?_
          refine xg_t (xg_getf (va := (2, 83)) (hb97.get (by decide) (hb83.get (by decide) (hb73.get (by decide) (hb63.get (by decide) (hF50.get (by decide) h82_31))))) rfl) ?_
          refine xg_t (xg_sip) ?_
          refine xg_ialdB (n := 900) (B := 4294967295) hr96 (hb99) xnm0 (by first | decide | omega) (fun u104 hu105 he106 => ?_)
          have hl107 : u104 ≤ 4 := by rw [← he106]; exact hx98.l900
          refine xg_t (xg_const) ?_
          by_cases hc108 : 1 ≤ u104
          · refine xg_t (xg_isub (u := u104) (v := 1) (z := u104 - 1) xnm0 xnm0 (by omega)) ?_
            have hq109 : rwv w 83 900 = g83_33 900 := rwv_of h83_34 (by decide)
            have hq110 : g83_33 900 ≤ 4 := hx36.l900
            have hq111 : g66 900 = g83_33 900 := hk69 900 (by omega)
            have hq112 : g76 900 = g66 900 := hk79 900 (by omega)
            have hq113 : g86 900 = g76 900 := hk89 900 (by omega)
            have hq114 : g100 900 = u91 + 1 := he102
            have hq115 : rwv w95 83 900 = g100 900 := rwv_of hr96 (by decide)
            have hq117 : 950 + 3 * rwv w 83 900 = 950 + (3 * u57) := by omega
            have hq116 : rwv w95 83 (950 + 3 * rwv w 83 900) = fi := by
              rw [hq117, rwv_of hr96 (by omega), hk103 _ (by omega), hk89 _ (by omega), hk79 _ (by omega), he68]
            have hq119 : 950 + 3 * rwv w 83 900 + 1 = (950 + (3 * u57)) + 1 := by omega
            have hq118 : rwv w95 83 (950 + 3 * rwv w 83 900 + 1) = fo := by
              rw [hq119, rwv_of hr96 (by omega), hk103 _ (by omega), hk89 _ (by omega), he78]
            have hq121 : 950 + 3 * rwv w 83 900 + 2 = (950 + (3 * u57)) + 2 := by omega
            have hq120 : rwv w95 83 (950 + 3 * rwv w 83 900 + 2) = ro := by
              rw [hq121, rwv_of hr96 (by omega), hk103 _ (by omega), he88]
            exact xg_e ⟨u104 - 1, w95, ⟨rfl, rfl⟩, ⟨by omega, fun _ => ⟨hq116, hq118, hq120⟩, fun j hj h => (rwv_of hr96 h).trans (Eq.trans (by rw [hk103 j (by omega), hk89 j (by omega), hk79 j (by omega), hk69 j (by omega)]) (rwv_of h83_34 h).symm)⟩, xMnv.up (S := [83]) hI49 ((((xFr.of (S := [83]) hb63 (by decide)).tr (xFr.of (S := [83]) hb73 (by decide))).tr (xFr.of (S := [83]) hb83 (by decide))).tr (xFr.of (S := [83]) hb97 (by decide))) (List.forall_mem_cons.mpr ⟨xqu83 (show cpx83 (wget w95 83) from ⟨_, hr96, hb99, hx98⟩), fun _ h => absurd h List.not_mem_nil⟩), ((hF50.up (by decide)).tr ((((xFr.of (S := [83]) hb63 (by decide)).tr (xFr.of (S := [83]) hb73 (by decide))).tr (xFr.of (S := [83]) hb83 (by decide))).tr (xFr.of (S := [83]) hb97 (by decide))))⟩
          · have hz124 : 4294967295 ≤ (u104 + (4294967296 - 1)) % 4294967296 := by omega
            refine xg_t (xg_isub (u := u104) (v := 1) (z := (u104 + (4294967296 - 1)) % 4294967296) xnm0 xnm0 rfl) ?_
            have hz123 : (u104 + (4294967296 - 1)) % 4294967296 < 4294967296 := Nat.mod_lt _ (by decide)
            generalize (u104 + (4294967296 - 1)) % 4294967296 = z122 at hz124 hz123 ⊢
            have hq125 : rwv w 83 900 = g83_33 900 := rwv_of h83_34 (by decide)
            have hq126 : g83_33 900 ≤ 4 := hx36.l900
            have hq127 : g66 900 = g83_33 900 := hk69 900 (by omega)
            have hq128 : g76 900 = g66 900 := hk79 900 (by omega)
            have hq129 : g86 900 = g76 900 := hk89 900 (by omega)
            have hq130 : g100 900 = u91 + 1 := he102
            have hq131 : rwv w95 83 900 = g100 900 := rwv_of hr96 (by decide)
            have hq133 : 950 + 3 * rwv w 83 900 = 950 + (3 * u57) := by omega
            have hq132 : rwv w95 83 (950 + 3 * rwv w 83 900) = fi := by
              rw [hq133, rwv_of hr96 (by omega), hk103 _ (by omega), hk89 _ (by omega), hk79 _ (by omega), he68]
            have hq135 : 950 + 3 * rwv w 83 900 + 1 = (950 + (3 * u57)) + 1 := by omega
            have hq134 : rwv w95 83 (950 + 3 * rwv w 83 900 + 1) = fo := by
              rw [hq135, rwv_of hr96 (by omega), hk103 _ (by omega), hk89 _ (by omega), he78]
            have hq137 : 950 + 3 * rwv w 83 900 + 2 = (950 + (3 * u57)) + 2 := by omega
            have hq136 : rwv w95 83 (950 + 3 * rwv w 83 900 + 2) = ro := by
              rw [hq137, rwv_of hr96 (by omega), hk103 _ (by omega), he88]
            exact xg_e ⟨z122, w95, ⟨rfl, rfl⟩, ⟨by omega, fun _ => ⟨hq132, hq134, hq136⟩, fun j hj h => (rwv_of hr96 h).trans (Eq.trans (by rw [hk103 j (by omega), hk89 j (by omega), hk79 j (by omega), hk69 j (by omega)]) (rwv_of h83_34 h).symm)⟩, xMnv.up (S := [83]) hI49 ((((xFr.of (S := [83]) hb63 (by decide)).tr (xFr.of (S := [83]) hb73 (by decide))).tr (xFr.of (S := [83]) hb83 (by decide))).tr (xFr.of (S := [83]) hb97 (by decide))) (List.forall_mem_cons.mpr ⟨xqu83 (show cpx83 (wget w95 83) from ⟨_, hr96, hb99, hx98⟩), fun _ h => absurd h List.not_mem_nil⟩), ((hF50.up (by decide)).tr ((((xFr.of (S := [83]) hb63 (by decide)).tr (xFr.of (S := [83]) hb73 (by decide))).tr (xFr.of (S := [83]) hb83 (by decide))).tr (xFr.of (S := [83]) hb97 (by decide))))⟩
      · refine xg_t (xg_ifT (u := (if 1 ≤ fo ∧ fo ≤ 999 then 1 else 0)) rfl xnm0 (xj_eqT (xite0 hc46))) ?_
        refine xg_t (xg_blq rfl) ?_
        refine xg_t (xg_const) ?_
        have hq138 : rwv w 83 900 = g83_33 900 := rwv_of h83_34 (by decide)
        have hq139 : g83_33 900 ≤ 4 := hx36.l900
        have hq140 : rwv w 83 900 = g83_33 900 := rwv_of h83_34 (by decide)
        exact xg_e ⟨4294967295, w, ⟨rfl, rfl⟩, ⟨by omega, fun h => absurd h (by omega), fun j _ h => (rwv_of h83_34 h).trans (rwv_of h83_34 h).symm⟩, hI, xFr.rf⟩
    · refine xg_t (xg_ifT (u := (if 1 ≤ fi ∧ fi ≤ 999 then 1 else 0)) rfl xnm0 (xj_eqT (xite0 hc45))) ?_
      refine xg_t (xg_blq rfl) ?_
      refine xg_t (xg_const) ?_
      have hq141 : rwv w 83 900 = g83_33 900 := rwv_of h83_34 (by decide)
      have hq142 : g83_33 900 ≤ 4 := hx36.l900
      have hq143 : rwv w 83 900 = g83_33 900 := rwv_of h83_34 (by decide)
      exact xg_e ⟨4294967295, w, ⟨rfl, rfl⟩, ⟨by omega, fun h => absurd h (by omega), fun j _ h => (rwv_of h83_34 h).trans (rwv_of h83_34 h).symm⟩, hI, xFr.rf⟩
end XEM3
end
section
/-! rows told in both -/
theorem rq.hand {w w1 w2 : List (List xE)} {S : List Nat} {n n2 fi fo ro : Nat} (h : rq w 18 900 950 3 4 0) (hF : ((n = fld w 18 3 ∧ fld w 18 3 < 4 ∧ ((1 ≤ fi ∧ fi ≤ 999) ∧ (1 ≤ fo ∧ fo ≤ 999) ∧ (1 ≤ ro ∧ ro ≤ 9999)) ∧ fld w1 18 3 = fld w 18 3 + 1) ∨ (n = 4294967295 ∧ ¬ (fld w 18 3 < 4 ∧ ((1 ≤ fi ∧ fi ≤ 999) ∧ (1 ≤ fo ∧ fo ≤ 999) ∧ (1 ≤ ro ∧ ro ≤ 9999))) ∧ w1 = w)) ∧ (n ≠ 4294967295 → rwv w1 19 (3 * fld w 18 3) = fi ∧ rwv w1 19 (3 * fld w 18 3 + 1) = fo ∧ rwv w1 19 (3 * fld w 18 3 + 2) = ro) ∧ (∀ j, (j < 3 * fld w 18 3 ∨ 3 * fld w 18 3 + 3 ≤ j) → j < 12 → rwv w1 19 j = rwv w 19 j)) (hR : xFr S w w1) (hS : 83 ∉ S) (hG : ((n2 = rwv w1 83 900 ∧ rwv w1 83 900 < 4 ∧ ((1 ≤ fi ∧ fi ≤ 999) ∧ (1 ≤ fo ∧ fo ≤ 999) ∧ (1 ≤ ro ∧ ro ≤ 9999)) ∧ rwv w2 83 900 = rwv w1 83 900 + 1) ∨ (n2 = 4294967295 ∧ ¬ (rwv w1 83 900 < 4 ∧ ((1 ≤ fi ∧ fi ≤ 999) ∧ (1 ≤ fo ∧ fo ≤ 999) ∧ (1 ≤ ro ∧ ro ≤ 9999))) ∧ rwv w2 83 900 = rwv w1 83 900)) ∧ (n2 ≠ 4294967295 → rwv w2 83 (950 + 3 * rwv w1 83 900) = fi ∧ rwv w2 83 (950 + 3 * rwv w1 83 900 + 1) = fo ∧ rwv w2 83 (950 + 3 * rwv w1 83 900 + 2) = ro) ∧ (∀ j, (j ≠ 900 ∧ (j < 950 + 3 * rwv w1 83 900 ∨ 953 + 3 * rwv w1 83 900 ≤ j)) → j < 5360 → rwv w2 83 j = rwv w1 83 j)) (hR2 : xFr [83] w1 w2) : n = n2 ∧ rq w2 18 900 950 3 4 0 := by
  have hz := h.sz
  have hlm := h.2.1
  obtain ⟨f1, f2, f3⟩ := hF
  obtain ⟨g1, g2, g3⟩ := hG
  have b : ∀ j, rwv w1 83 j = rwv w 83 j := fun j => rwv_fr hR hS
  have bm := b 900
  have c18 : fld w2 18 3 = fld w1 18 3 := fld_fr hR2 (by decide)
  have c19 : ∀ j, rwv w2 19 j = rwv w1 19 j := fun j => rwv_fr hR2 (by decide)
  rcases f1 with ⟨x1, x2, x3, x4⟩ | ⟨x1, x2, x3⟩
  · rcases g1 with ⟨z1, z2, z3, z4⟩ | ⟨-, z2, -⟩
    · obtain ⟨u0, u1, u2⟩ := f2 (by omega)
      obtain ⟨v0, v1, v2⟩ := g2 (by omega)
      refine ⟨by omega, h.push (by omega) x2 (by omega) (fun j hj => (c19 j).trans (f3 j (by omega) (by omega))) (fun j hj => (g3 (950 + j) (by omega) (by omega)).trans (b _)) (fun t ht => ?_)⟩
      show rwv w2 19 _ = _
      rcases (show t = 0 ∨ t = 1 ∨ t = 2 by omega) with rfl | rfl | rfl
      · rw [show fld w 18 3 * 3 + 0 = 3 * fld w 18 3 by omega, c19, u0, show 950 + (3 * fld w 18 3) = 950 + 3 * rwv w1 83 900 by omega, v0]
      · rw [show fld w 18 3 * 3 + 1 = 3 * fld w 18 3 + 1 by omega, c19, u1, show 950 + (3 * fld w 18 3 + 1) = 950 + 3 * rwv w1 83 900 + 1 by omega, v1]
      · rw [show fld w 18 3 * 3 + 2 = 3 * fld w 18 3 + 2 by omega, c19, u2, show 950 + (3 * fld w 18 3 + 2) = 950 + 3 * rwv w1 83 900 + 2 by omega, v2]
    · exact absurd ⟨by omega, x3⟩ z2
  · rcases g1 with ⟨-, z2, z3, -⟩ | ⟨z1, -, z3⟩
    · exact absurd ⟨by omega, z3⟩ x2
    · exact ⟨by omega, h.kq ((hR2.1 18 (by decide)).trans (by rw [x3])) ((hR2.1 19 (by decide)).trans (by rw [x3])) (by omega) (fun j hj => (g3 (950 + j) (by omega) (by omega)).trans (b _))⟩
theorem rq.test {w w1 w2 : List (List xE)} {S : List Nat} {n n2 sp fo fi cr : Nat} (h : rq w 20 901 970 4 12 0) (hF : ((n = fld w 20 3 ∧ fld w 20 3 < 12 ∧ ((1 ≤ sp ∧ sp ≤ 9) ∧ (1 ≤ fo ∧ fo ≤ 999999) ∧ (1 ≤ fi ∧ fi ≤ 99) ∧ cr ≤ fi) ∧ fld w1 20 3 = fld w 20 3 + 1 ∧ fld w1 76 9 = 0 ∧ fld w1 76 10 = 0 ∧ fld w1 76 11 = 0) ∨ (n = 4294967295 ∧ ¬ (fld w 20 3 < 12 ∧ ((1 ≤ sp ∧ sp ≤ 9) ∧ (1 ≤ fo ∧ fo ≤ 999999) ∧ (1 ≤ fi ∧ fi ≤ 99) ∧ cr ≤ fi)) ∧ w1 = w)) ∧ (n ≠ 4294967295 → rwv w1 21 (4 * fld w 20 3) = sp ∧ rwv w1 21 (4 * fld w 20 3 + 1) = fo ∧ rwv w1 21 (4 * fld w 20 3 + 2) = fi ∧ rwv w1 21 (4 * fld w 20 3 + 3) = cr) ∧ (∀ j, (j < 4 * fld w 20 3 ∨ 4 * fld w 20 3 + 4 ≤ j) → j < 48 → rwv w1 21 j = rwv w 21 j)) (hR : xFr S w w1) (hS : 83 ∉ S) (hG : ((n2 = rwv w1 83 901 ∧ rwv w1 83 901 < 12 ∧ ((1 ≤ sp ∧ sp ≤ 9) ∧ (1 ≤ fo ∧ fo ≤ 999999) ∧ (1 ≤ fi ∧ fi ≤ 99) ∧ cr ≤ fi) ∧ rwv w2 83 901 = rwv w1 83 901 + 1) ∨ (n2 = 4294967295 ∧ ¬ (rwv w1 83 901 < 12 ∧ ((1 ≤ sp ∧ sp ≤ 9) ∧ (1 ≤ fo ∧ fo ≤ 999999) ∧ (1 ≤ fi ∧ fi ≤ 99) ∧ cr ≤ fi)) ∧ rwv w2 83 901 = rwv w1 83 901)) ∧ (n2 ≠ 4294967295 → rwv w2 83 (970 + 4 * rwv w1 83 901) = sp ∧ rwv w2 83 (970 + 4 * rwv w1 83 901 + 1) = fo ∧ rwv w2 83 (970 + 4 * rwv w1 83 901 + 2) = fi ∧ rwv w2 83 (970 + 4 * rwv w1 83 901 + 3) = cr) ∧ (∀ j, (j ≠ 901 ∧ (j < 970 + 4 * rwv w1 83 901 ∨ 974 + 4 * rwv w1 83 901 ≤ j)) → j < 5360 → rwv w2 83 j = rwv w1 83 j)) (hR2 : xFr [83] w1 w2) : n = n2 ∧ rq w2 20 901 970 4 12 0 := by
  have hz := h.sz
  have hlm := h.2.1
  obtain ⟨f1, f2, f3⟩ := hF
  obtain ⟨g1, g2, g3⟩ := hG
  have b : ∀ j, rwv w1 83 j = rwv w 83 j := fun j => rwv_fr hR hS
  have bm := b 901
  have c18 : fld w2 20 3 = fld w1 20 3 := fld_fr hR2 (by decide)
  have c19 : ∀ j, rwv w2 21 j = rwv w1 21 j := fun j => rwv_fr hR2 (by decide)
  rcases f1 with ⟨x1, x2, x3, x4, -, -, -⟩ | ⟨x1, x2, x3⟩
  · rcases g1 with ⟨z1, z2, z3, z4⟩ | ⟨-, z2, -⟩
    · obtain ⟨u0, u1, u2, u3⟩ := f2 (by omega)
      obtain ⟨v0, v1, v2, v3⟩ := g2 (by omega)
      refine ⟨by omega, h.push (by omega) x2 (by omega) (fun j hj => (c19 j).trans (f3 j (by omega) (by omega))) (fun j hj => (g3 (970 + j) (by omega) (by omega)).trans (b _)) (fun t ht => ?_)⟩
      show rwv w2 21 _ = _
      rcases (show t = 0 ∨ t = 1 ∨ t = 2 ∨ t = 3 by omega) with rfl | rfl | rfl | rfl
      · rw [show fld w 20 3 * 4 + 0 = 4 * fld w 20 3 by omega, c19, u0, show 970 + (4 * fld w 20 3) = 970 + 4 * rwv w1 83 901 by omega, v0]
      · rw [show fld w 20 3 * 4 + 1 = 4 * fld w 20 3 + 1 by omega, c19, u1, show 970 + (4 * fld w 20 3 + 1) = 970 + 4 * rwv w1 83 901 + 1 by omega, v1]
      · rw [show fld w 20 3 * 4 + 2 = 4 * fld w 20 3 + 2 by omega, c19, u2, show 970 + (4 * fld w 20 3 + 2) = 970 + 4 * rwv w1 83 901 + 2 by omega, v2]
      · rw [show fld w 20 3 * 4 + 3 = 4 * fld w 20 3 + 3 by omega, c19, u3, show 970 + (4 * fld w 20 3 + 3) = 970 + 4 * rwv w1 83 901 + 3 by omega, v3]
    · exact absurd ⟨by omega, x3⟩ z2
  · rcases g1 with ⟨-, z2, z3, -⟩ | ⟨z1, -, z3⟩
    · exact absurd ⟨by omega, z3⟩ x2
    · exact ⟨by omega, h.kq ((hR2.1 20 (by decide)).trans (by rw [x3])) ((hR2.1 21 (by decide)).trans (by rw [x3])) (by omega) (fun j hj => (g3 (970 + j) (by omega) (by omega)).trans (b _))⟩
theorem aqP.pic {w w1 w2 : List (List xE)} {S : List Nat} {n n2 pa pb pc_ pd li ho : Nat} (h : aqP w 1 0) (hN : fld w 3 7 = rwv w 83 5 ∧ fld w 3 8 = rwv w 83 6) (hF : ((n = fld w 16 3 + 1 ∧ fld w 16 3 < 12 ∧ ((pa ≤ pb ∧ pb < fld w 3 7) ∧ (pc_ ≤ pd ∧ pd < fld w 3 8) ∧ (1 ≤ li ∧ li ≤ 9) ∧ (1 ≤ ho ∧ ho ≤ 999)) ∧ fld w1 16 3 = fld w 16 3 + 1 ∧ fld w1 68 4 = 0) ∨ (n = 4294967295 ∧ ¬ (fld w 16 3 < 12 ∧ ((pa ≤ pb ∧ pb < fld w 3 7) ∧ (pc_ ≤ pd ∧ pd < fld w 3 8) ∧ (1 ≤ li ∧ li ≤ 9) ∧ (1 ≤ ho ∧ ho ≤ 999))) ∧ w1 = w)) ∧ (n ≠ 4294967295 → rwv w1 17 (5 * fld w 16 3) = pa ∧ rwv w1 17 (5 * fld w 16 3 + 1) = pb ∧ rwv w1 17 (5 * fld w 16 3 + 2) = pc_ ∧ rwv w1 17 (5 * fld w 16 3 + 3) = pd ∧ rwv w1 17 (5 * fld w 16 3 + 4) = li * ho) ∧ (∀ j, (j < 5 * fld w 16 3 ∨ 5 * fld w 16 3 + 5 ≤ j) → j < 60 → rwv w1 17 j = rwv w 17 j)) (hR : xFr S w w1) (hS : 83 ∉ S) (hG : ((n2 = rwv w1 83 10 + 1 ∧ rwv w1 83 10 < 12 ∧ ((pa ≤ pb ∧ pb < rwv w1 83 5) ∧ (pc_ ≤ pd ∧ pd < rwv w1 83 6) ∧ (1 ≤ li ∧ li ≤ 9) ∧ (1 ≤ ho ∧ ho ≤ 999)) ∧ rwv w2 83 10 = rwv w1 83 10 + 1) ∨ (n2 = 4294967295 ∧ ¬ (rwv w1 83 10 < 12 ∧ ((pa ≤ pb ∧ pb < rwv w1 83 5) ∧ (pc_ ≤ pd ∧ pd < rwv w1 83 6) ∧ (1 ≤ li ∧ li ≤ 9) ∧ (1 ≤ ho ∧ ho ≤ 999))) ∧ rwv w2 83 10 = rwv w1 83 10)) ∧ (n2 ≠ 4294967295 → rwv w2 83 (300 + 6 * rwv w1 83 10) = pa ∧ rwv w2 83 (300 + 6 * rwv w1 83 10 + 1) = pb ∧ rwv w2 83 (300 + 6 * rwv w1 83 10 + 2) = pc_ ∧ rwv w2 83 (300 + 6 * rwv w1 83 10 + 3) = pd ∧ rwv w2 83 (300 + 6 * rwv w1 83 10 + 4) = li ∧ rwv w2 83 (300 + 6 * rwv w1 83 10 + 5) = ho) ∧ (∀ j, (j ≠ 10 ∧ (j < 300 + 6 * rwv w1 83 10 ∨ 306 + 6 * rwv w1 83 10 ≤ j)) → j < 5360 → rwv w2 83 j = rwv w1 83 j)) (hR2 : xFr [83] w1 w2) : n = n2 ∧ aqP w2 1 0 := by
  obtain ⟨h1, hlm, h3⟩ := h
  obtain ⟨hn1, hn2⟩ := hN
  have hz : fld w 16 3 = rwv w 83 10 := h1
  have hlm : fld w 16 3 ≤ 12 := hlm
  have h3 : ∀ i, i < fld w 16 3 → (∀ t, t < 4 → rwv w 17 (5 * i + t) = rwv w 83 (1340 * 0 + (300 + 6 * i + t))) ∧ rwv w 17 (5 * i + 4) = rwv w 83 (1340 * 0 + (304 + 6 * i)) * rwv w 83 (1340 * 0 + (305 + 6 * i)) := h3
  obtain ⟨f1, f2, f3⟩ := hF
  obtain ⟨g1, g2, g3⟩ := hG
  have b : ∀ j, rwv w1 83 j = rwv w 83 j := fun j => rwv_fr hR hS
  have b10 := b 10
  have b5 := b 5
  have b6 := b 6
  have c16 : fld w2 16 3 = fld w1 16 3 := fld_fr hR2 (by decide)
  have c17 : ∀ j, rwv w2 17 j = rwv w1 17 j := fun j => rwv_fr hR2 (by decide)
  have old : ∀ i, i < fld w 16 3 → (∀ j, j < 5 * fld w 16 3 → rwv w1 17 j = rwv w 17 j) → (∀ t, t < 4 → rwv w2 17 (5 * i + t) = rwv w2 83 (1340 * 0 + (300 + 6 * i + t))) ∧ rwv w2 17 (5 * i + 4) = rwv w2 83 (1340 * 0 + (304 + 6 * i)) * rwv w2 83 (1340 * 0 + (305 + 6 * i)) := by
    intro i hi hk
    obtain ⟨q1, q2⟩ := h3 i hi
    refine ⟨fun t ht => ?_, ?_⟩
    · have q := q1 t ht
      rw [Nat.mul_zero, Nat.zero_add] at q ⊢
      rw [c17, hk _ (by omega), q, g3 (300 + 6 * i + t) (by omega) (by omega), b]
    · rw [Nat.mul_zero, Nat.zero_add, Nat.zero_add] at q2 ⊢
      rw [c17, hk _ (by omega), q2, g3 (304 + 6 * i) (by omega) (by omega), g3 (305 + 6 * i) (by omega) (by omega), b, b]
  rcases f1 with ⟨x1, x2, x3, x4, -⟩ | ⟨x1, x2, x3⟩
  · rcases g1 with ⟨z1, z2, z3, z4⟩ | ⟨-, z2, -⟩
    · obtain ⟨u0, u1, u2, u3, u4⟩ := f2 (by omega)
      obtain ⟨v0, v1, v2, v3, v4, v5⟩ := g2 (by omega)
      refine ⟨by omega, (show fld w2 16 3 = rwv w2 83 10 by omega), (show fld w2 16 3 ≤ 12 by omega), fun i hi => ?_⟩
      have hi : i < fld w2 16 3 := hi
      show (∀ t, t < 4 → rwv w2 17 (5 * i + t) = rwv w2 83 (1340 * 0 + (300 + 6 * i + t))) ∧ rwv w2 17 (5 * i + 4) = rwv w2 83 (1340 * 0 + (304 + 6 * i)) * rwv w2 83 (1340 * 0 + (305 + 6 * i))
      by_cases y : i < fld w 16 3
      · exact old i y (fun j hj => f3 j (by omega) (by omega))
      · have e : i = fld w 16 3 := by omega
        subst e
        refine ⟨fun t ht => ?_, ?_⟩
        · rw [Nat.mul_zero, Nat.zero_add, c17]
          rcases (show t = 0 ∨ t = 1 ∨ t = 2 ∨ t = 3 by omega) with rfl | rfl | rfl | rfl
          · rw [Nat.add_zero, Nat.add_zero, u0, show 300 + 6 * fld w 16 3 = 300 + 6 * rwv w1 83 10 by omega, v0]
          · rw [u1, show 300 + 6 * fld w 16 3 + 1 = 300 + 6 * rwv w1 83 10 + 1 by omega, v1]
          · rw [u2, show 300 + 6 * fld w 16 3 + 2 = 300 + 6 * rwv w1 83 10 + 2 by omega, v2]
          · rw [u3, show 300 + 6 * fld w 16 3 + 3 = 300 + 6 * rwv w1 83 10 + 3 by omega, v3]
        · rw [Nat.mul_zero, Nat.zero_add, Nat.zero_add, c17, u4, show 304 + 6 * fld w 16 3 = 300 + 6 * rwv w1 83 10 + 4 by omega, v4, show 305 + 6 * fld w 16 3 = 300 + 6 * rwv w1 83 10 + 5 by omega, v5]
    · exact absurd ⟨by omega, by omega⟩ z2
  · rcases g1 with ⟨-, z2, z3, -⟩ | ⟨z1, -, z3⟩
    · exact absurd ⟨by omega, by omega⟩ x2
    · have e16 : fld w1 16 3 = fld w 16 3 := by rw [x3]
      have e17 : ∀ j, rwv w1 17 j = rwv w 17 j := fun j => by rw [x3]
      refine ⟨by omega, (show fld w2 16 3 = rwv w2 83 10 by omega), (show fld w2 16 3 ≤ 12 by omega), fun i hi => ?_⟩
      have hi : i < fld w2 16 3 := hi
      exact old i (by omega) (fun j _ => e17 j)
end
section
/-! the bend: layers laid in an order, numbers alone -/
theorem xpt_one : xpt 1 = 1 := by
  have h : nI (xpt 1) = nI 1 := xpt_eq 1
  exact (xeq_iff (xpt_lt 1) (by decide)).mp h
theorem xpt_neg1 : xpt (-1) = 4294967295 := by
  have h : nI (xpt (-1)) = nI 4294967295 := (xpt_eq (-1)).trans (by decide)
  exact (xeq_iff (xpt_lt (-1)) (by decide)).mp h
theorem xlq_gt {u v : Nat} (h : lN v < lN u) : xpt (lg_cmp (lN u) (lN v)) = 1 := by
  have e : lg_cmp (lN u) (lN v) = 1 := if_pos h
  rw [e]
  exact xpt_one
theorem xlq_eq {u v : Nat} (h : lN u = lN v) : xpt (lg_cmp (lN u) (lN v)) = 0 := by
  have e : lg_cmp (lN u) (lN v) = 0 := by
    unfold lg_cmp
    rw [h, if_neg Int64.lt_irrefl, if_pos rfl]
  rw [e]
  exact xpt_zero
theorem xlq_lt {u v : Nat} (h : lN u < lN v) : xpt (lg_cmp (lN u) (lN v)) = 4294967295 := by
  have e : lg_cmp (lN u) (lN v) = -1 := by
    unfold lg_cmp
    rw [if_neg (Int64.lt_asymm h), if_neg (fun z => by rw [z] at h; exact Int64.lt_irrefl h)]
  rw [e]
  exact xpt_neg1
theorem xlc_tri (u v : Nat) : lN u < lN v ∨ lN u = lN v ∨ lN v < lN u := by
  have a := @Int64.lt_iff_toInt_lt (lN u) (lN v)
  have b := @Int64.lt_iff_toInt_lt (lN v) (lN u)
  have c := @Int64.toInt_inj (lN u) (lN v)
  rw [a, b, ← c]
  omega
theorem xlj_ltT {u v : Nat} (h : lN u < lN v) : xjmp 2 (xpt (lg_cmp (lN u) (lN v))) 0 = true := by rw [xlq_lt h]; decide
theorem xlj_geF {u v : Nat} (h : lN u < lN v) : xjmp 3 (xpt (lg_cmp (lN u) (lN v))) 0 = false := by rw [xlq_lt h]; decide
theorem xlj_ltF {u v : Nat} (h : ¬ lN u < lN v) : xjmp 2 (xpt (lg_cmp (lN u) (lN v))) 0 = false := by
  rcases xlc_tri u v with z | z | z
  · exact absurd z h
  · rw [xlq_eq z]; decide
  · rw [xlq_gt z]; decide
theorem xlj_geT {u v : Nat} (h : ¬ lN u < lN v) : xjmp 3 (xpt (lg_cmp (lN u) (lN v))) 0 = true := by
  rcases xlc_tri u v with z | z | z
  · exact absurd z h
  · rw [xlq_eq z]; decide
  · rw [xlq_gt z]; decide
theorem xlj_leF {u v : Nat} (h : lN v < lN u) : xjmp 5 (xpt (lg_cmp (lN u) (lN v))) 0 = false := by rw [xlq_gt h]; decide
theorem xlj_leT {u v : Nat} (h : ¬ lN v < lN u) : xjmp 5 (xpt (lg_cmp (lN u) (lN v))) 0 = true := by
  rcases xlc_tri u v with z | z | z
  · rw [xlq_lt z]; decide
  · rw [xlq_eq z]; decide
  · exact absurd z h
theorem xg_klE {d p0 p1 : Nat} {M : xM} {cs cs1 : List xI} {lo l1 : xLo} {st st1 : List xV} {hp : xH} {P : xS → Prop} {v : Int64} (h : xLd d M (p0, cs, lo, st, hp) [(p1, cs1, l1, (4, xlp v) :: st1, hp)]) (K : ∀ z, lN z = v → xTo d M (p1, cs1, l1, (4, z) :: st1, hp) P) : xTo d M (p0, cs, lo, st, hp) P := xg_t h (K _ (xlp_eq v))
/-- without sign -/
def iab (x : Int64) : Int64 := if 0 < x then x else -x
theorem iab_neg {x : Int64} (h : x < 0) : iab x = -x := if_neg (Int64.lt_asymm h)
theorem iab_nn {x : Int64} (h : ¬ x < 0) : iab x = x := by
  unfold iab
  by_cases z : 0 < x
  · rw [if_pos z]
  · have e : x = 0 := by
      rw [← Int64.toInt_inj]
      rw [Int64.lt_iff_toInt_lt] at h z
      omega
    rw [if_neg z, e, Int64.neg_zero]
section XBD
variable {r o r' o' : Nat → Nat} {n p q : Nat}
def bT (r o : Nat → Nat) (p : Nat) : Nat := r (4 * o p)
def bS (r o : Nat → Nat) (p : Nat) : Nat := r (4 * o p + 1)
def bM (r o : Nat → Nat) (p : Nat) : Nat := r (4 * o p + 2)
/-- the first layer of the block -/
def bfs (r : Nat → Nat) : Nat → Nat
  | 0 => 0
  | p + 1 => if r (4 * p + 3) = 1 then p + 1 else bfs r p
/-- heights -/
def bhg (r o : Nat → Nat) : Nat → Nat
  | 0 => 0
  | p + 1 => bhg r o p + bT r o p
def bt1 (r o : Nat → Nat) (p : Nat) : Nat := bT r o p * bS r o p * (2 * bhg r o p + bT r o p)
def bt2 (r o : Nat → Nat) (p : Nat) : Nat := 2 * (bT r o p * bS r o p)
/-- the sums of a block, up to a layer -/
def bsm' (r : Nat → Nat) (f : Nat → Nat) : Nat → Nat
  | 0 => 0 + f 0
  | p + 1 => (if r (4 * p + 3) = 1 then 0 else bsm' r f p) + f (p + 1)
/-- the rows of sums behind p layers -/
def bA (r : Nat → Nat) (f : Nat → Nat) : Nat → Nat → Nat
  | 0, _ => 0
  | p + 1, s => if s = bfs r p then bsm' r f p else bA r f p s
def bO (r o : Nat → Nat) (n p : Nat) : Nat := bA r (bt1 r o) n (bfs r p)
def bU (r o : Nat → Nat) (n p : Nat) : Nat := bA r (bt2 r o) n (bfs r p)
def blo (r o : Nat → Nat) (n p : Nat) : Int64 := lN (bhg r o p * bU r o n p) - lN (bO r o n p)
def bhi (r o : Nat → Nat) (n p : Nat) : Int64 := blo r o n p + lN (bT r o p * bU r o n p)
/-- how far the further face is -/
def bfr (r o : Nat → Nat) (n p : Nat) : Int64 := if iab (bhi r o n p) < iab (blo r o n p) then blo r o n p else bhi r o n p
theorem bhi_eq : lN ((bhg r o p + bT r o p) * bU r o n p) - lN (bO r o n p) = bhi r o n p := by
  unfold bhi blo
  rw [Nat.add_mul, ← lN_add, Int64.sub_eq_add_neg, Int64.sub_eq_add_neg, Int64.add_assoc, Int64.add_assoc, Int64.add_comm (lN (bT r o p * bU r o n p))]
theorem bhg_le (h : ∀ q, q < p → bT r o q ≤ 99) : bhg r o p ≤ 99 * p := by
  induction p with
  | zero => exact Nat.le_refl _
  | succ p ih =>
    have a := ih (fun q hq => h q (by omega))
    have b := h p (by omega)
    show bhg r o p + bT r o p ≤ 99 * (p + 1)
    omega
theorem bfs_le : bfs r p ≤ p := by
  induction p with
  | zero => exact Nat.le_refl _
  | succ p ih =>
    show (if r (4 * p + 3) = 1 then p + 1 else bfs r p) ≤ p + 1
    split
    · exact Nat.le_refl _
    · omega
theorem bfs_y (h : r (4 * p + 3) = 1) : bfs r (p + 1) = p + 1 := if_pos h
theorem bfs_n (h : ¬ r (4 * p + 3) = 1) : bfs r (p + 1) = bfs r p := if_neg h
theorem bA_p {f : Nat → Nat} : bA r f (p + 1) (bfs r p) = bsm' r f p := if_pos rfl
/-- a layer more: what holds of the rows of first layers, heights, sums -/
theorem bd_step {F H O U F' H' O' U' : Nat → Nat} (h : ∀ q, q < p → F q = bfs r q ∧ H q = bhg r o q ∧ O (bfs r q) = bA r (bt1 r o) p (bfs r q) ∧ U (bfs r q) = bA r (bt2 r o) p (bfs r q)) (f1 : F' p = bfs r p) (f2 : ∀ q, q < p → F' q = F q) (h1 : H' p = bhg r o p) (h2 : ∀ q, q < p → H' q = H q) (o1 : O' (bfs r p) = bsm' r (bt1 r o) p) (o2 : ∀ s, s < p → s ≠ bfs r p → O' s = O s) (u1 : U' (bfs r p) = bsm' r (bt2 r o) p) (u2 : ∀ s, s < p → s ≠ bfs r p → U' s = U s) : ∀ q, q < p + 1 → F' q = bfs r q ∧ H' q = bhg r o q ∧ O' (bfs r q) = bA r (bt1 r o) (p + 1) (bfs r q) ∧ U' (bfs r q) = bA r (bt2 r o) (p + 1) (bfs r q) := by
  intro q hq
  by_cases e : q = p
  · subst e
    exact ⟨f1, h1, o1.trans bA_p.symm, u1.trans bA_p.symm⟩
  · obtain ⟨a1, a2, a3, a4⟩ := h q (by omega)
    refine ⟨(f2 q (by omega)).trans a1, (h2 q (by omega)).trans a2, ?_, ?_⟩
    · by_cases y : bfs r q = bfs r p
      · rw [y]
        exact o1.trans bA_p.symm
      · have hl := bfs_le (r := r) (p := q)
        rw [o2 _ (by omega) y, a3]
        exact (if_neg y).symm
    · by_cases y : bfs r q = bfs r p
      · rw [y]
        exact u1.trans bA_p.symm
      · have hl := bfs_le (r := r) (p := q)
        rw [u2 _ (by omega) y, a4]
        exact (if_neg y).symm
/-- the sum where a block begins, and where it goes on -/
theorem bs_0 {f : Nat → Nat} {z t : Nat} (hp : p = 0) (hz : z = 0) (ht : t = f p) : z + t = bsm' r f p := by
  subst hp hz ht
  rfl
theorem bs_y {f : Nat → Nat} {z t : Nat} (hp : ¬ p = 0) (h : r (4 * (p - 1) + 3) = 1) (hz : z = 0) (ht : t = f p) : z + t = bsm' r f p ∧ bfs r p = p := by
  obtain ⟨k, rfl⟩ : ∃ k, p = k + 1 := ⟨p - 1, by omega⟩
  rw [Nat.add_sub_cancel] at h
  subst hz ht
  refine ⟨?_, bfs_y h⟩
  show _ = (if r (4 * k + 3) = 1 then 0 else bsm' r f k) + f (k + 1)
  rw [if_pos h]
theorem bs_n {f : Nat → Nat} {z t : Nat} (hp : ¬ p = 0) (h : ¬ r (4 * (p - 1) + 3) = 1) (hz : z = bA r f p (bfs r (p - 1))) (ht : t = f p) : z + t = bsm' r f p ∧ bfs r p = bfs r (p - 1) := by
  obtain ⟨k, rfl⟩ : ∃ k, p = k + 1 := ⟨p - 1, by omega⟩
  rw [Nat.add_sub_cancel] at h hz ⊢
  subst hz ht
  refine ⟨?_, bfs_n h⟩
  show _ = (if r (4 * k + 3) = 1 then 0 else bsm' r f k) + f (k + 1)
  rw [if_neg h, bA_p]
theorem bfs_idem : bfs r (bfs r p) = bfs r p := by
  induction p with
  | zero => rfl
  | succ p ih =>
    by_cases h : r (4 * p + 3) = 1
    · rw [bfs_y h, bfs_y h]
    · rw [bfs_n h]
      exact ih
theorem bd_copy {f : Nat → Nat} {A A' : Nat → Nat} (h : ∀ q, q < n → A (bfs r q) = bA r f n (bfs r q)) (hp : p < n) (e1 : A' p = A (bfs r p)) (e2 : ∀ s, s < n → s ≠ p → A' s = A s) : ∀ q, q < n → A' (bfs r q) = bA r f n (bfs r q) := by
  intro q hq
  by_cases y : bfs r q = p
  · have z : bfs r p = p := by
      rw [← y]
      exact bfs_idem
    rw [y, e1, h p hp, z]
  · have hl := bfs_le (r := r) (p := q)
    rw [e2 _ (by omega) y]
    exact h q hq
/-! the same layers in the same order: the same sums -/
def bEq (r o r' o' : Nat → Nat) (n : Nat) : Prop := (∀ j, j < 4 * n → r' j = r j) ∧ ∀ q, q < n → o' q = o q ∧ o q < n
theorem bT_cg (h : bEq r o r' o' n) (hp : p < n) : bT r' o' p = bT r o p ∧ bS r' o' p = bS r o p ∧ bM r' o' p = bM r o p := by
  obtain ⟨h1, h2⟩ := h
  obtain ⟨a, b⟩ := h2 p hp
  unfold bT bS bM
  rw [a]
  exact ⟨h1 _ (by omega), h1 _ (by omega), h1 _ (by omega)⟩
theorem bfs_cg (h : bEq r o r' o' n) (hp : p < n) : bfs r' p = bfs r p := by
  induction p with
  | zero => rfl
  | succ p ih =>
    show (if r' (4 * p + 3) = 1 then p + 1 else bfs r' p) = (if r (4 * p + 3) = 1 then p + 1 else bfs r p)
    rw [h.1 _ (by omega), ih (by omega)]
theorem bhg_cg (h : bEq r o r' o' n) (hp : p ≤ n) : bhg r' o' p = bhg r o p := by
  induction p with
  | zero => rfl
  | succ p ih =>
    show bhg r' o' p + bT r' o' p = bhg r o p + bT r o p
    rw [ih (by omega), (bT_cg h (by omega)).1]
theorem bt_cg (h : bEq r o r' o' n) (hp : p < n) : bt1 r' o' p = bt1 r o p ∧ bt2 r' o' p = bt2 r o p := by
  obtain ⟨a, b, -⟩ := bT_cg h hp
  unfold bt1 bt2
  rw [a, b, bhg_cg h (by omega)]
  exact ⟨rfl, rfl⟩
theorem bsm_cg {f f' : Nat → Nat} (h : bEq r o r' o' n) (hf : ∀ q, q < n → f' q = f q) (hp : p < n) : bsm' r' f' p = bsm' r f p := by
  induction p with
  | zero =>
    show 0 + f' 0 = 0 + f 0
    rw [hf 0 hp]
  | succ p ih =>
    show (if r' (4 * p + 3) = 1 then 0 else bsm' r' f' p) + f' (p + 1) = (if r (4 * p + 3) = 1 then 0 else bsm' r f p) + f (p + 1)
    rw [h.1 _ (by omega), ih (by omega), hf _ hp]
theorem bA_cg {f f' : Nat → Nat} {k s : Nat} (h : bEq r o r' o' n) (hf : ∀ q, q < n → f' q = f q) (hk : k ≤ n) : bA r' f' k s = bA r f k s := by
  induction k with
  | zero => rfl
  | succ k ih =>
    show (if s = bfs r' k then bsm' r' f' k else bA r' f' k s) = (if s = bfs r k then bsm' r f k else bA r f k s)
    rw [bfs_cg h (by omega), bsm_cg h hf (by omega), ih (by omega)]
theorem bOU_cg (h : bEq r o r' o' n) (hp : p < n) : bO r' o' n p = bO r o n p ∧ bU r' o' n p = bU r o n p := by
  unfold bO bU
  rw [bfs_cg h hp]
  exact ⟨bA_cg h (fun q hq => (bt_cg h hq).1) (Nat.le_refl _), bA_cg h (fun q hq => (bt_cg h hq).2) (Nat.le_refl _)⟩
theorem bfr_cg (h : bEq r o r' o' n) (hp : p < n) : bfr r' o' n p = bfr r o n p := by
  have a : blo r' o' n p = blo r o n p := by
    unfold blo
    rw [bhg_cg h (by omega), (bOU_cg h hp).1, (bOU_cg h hp).2]
  have b : bhi r' o' n p = bhi r o n p := by
    unfold bhi
    rw [a, (bT_cg h hp).1, (bOU_cg h hp).2]
  unfold bfr
  rw [a, b]
end XBD
/-! what is asked of the bend -/
def bdw (w : List (List xE)) (r o : Nat → Nat) (n : Nat) : Prop := ∀ q, q < n → rwv w 52 q = bfs r q ∧ rwv w 51 q = bhg r o q ∧ rwk w 53 (bfs r q) = bO r o n q ∧ rwk w 54 (bfs r q) = bU r o n q ∧ lN (rwk w 55 q) = bfr r o n q
def bdm (w : List (List xE)) (r o : Nat → Nat) (n : Nat) : Prop := ∀ q, q < n → rwv w 91 q = bfs r q ∧ rwv w 90 q = bhg r o q ∧ rwk w 92 q = bO r o n q ∧ rwk w 93 q = bU r o n q ∧ lN (rwk w 94 q) = bfr r o n q
section XBQ
variable {M U M' U' : Nat → Nat} {F F' : Nat → Int64} {n p : Nat}
end XBQ
theorem bdw.kp {w w' : List (List xE)} {r o : Nat → Nat} {n : Nat} (h : bdw w r o n) (e : ∀ c, 50 ≤ c → c < 56 → wget w' c = wget w c) : bdw w' r o n := by
  intro q hq
  obtain ⟨a1, a2, a3, a4, a5⟩ := h q hq
  exact ⟨(rwv_eq (e 52 (by decide) (by decide))).trans a1, (rwv_eq (e 51 (by decide) (by decide))).trans a2, (rwk_eq (e 53 (by decide) (by decide))).trans a3, (rwk_eq (e 54 (by decide) (by decide))).trans a4, by rw [rwk_eq (e 55 (by decide) (by decide))]; exact a5⟩
theorem bdm.kp {w w' : List (List xE)} {r o : Nat → Nat} {n : Nat} (h : bdm w r o n) (e : ∀ c, 88 ≤ c → c < 95 → wget w' c = wget w c) : bdm w' r o n := by
  intro q hq
  obtain ⟨a1, a2, a3, a4, a5⟩ := h q hq
  exact ⟨(rwv_eq (e 91 (by decide) (by decide))).trans a1, (rwv_eq (e 90 (by decide) (by decide))).trans a2, (rwk_eq (e 92 (by decide) (by decide))).trans a3, (rwk_eq (e 93 (by decide) (by decide))).trans a4, by rw [rwk_eq (e 94 (by decide) (by decide))]; exact a5⟩
end
section
/-! the class: layers laid -/
section XBC
variable {d : Nat} {w : List (List xE)} {bd : List (Nat × Nat)} {fc : List (Nat × Nat × Bool)} {rr : Nat × Nat}
set_option maxHeartbeats 60000000 in
theorem bdLayX (hI : xInv w) (hb : ∀ q, q < fld w 4 3 → rwv w 50 q < fld w 4 3 ∧ bT (rwv w 5) (rwv w 50) q ≤ 99 ∧ bS (rwv w 5) (rwv w 50) q ≤ 99) : xPq (d + 2) mX0_lay [(2, 49)] w bd fc rr [] (fun w' => xInv w' ∧ xFr [51, 52, 53, 54, 55] w w' ∧ (∀ q, q < fld w 4 3 → rwv w' 52 q = bfs (rwv w 5) q ∧ rwv w' 51 q = bhg (rwv w 5) (rwv w 50) q ∧ rwk w' 53 (bfs (rwv w 5) q) = bO (rwv w 5) (rwv w 50) (fld w 4 3) q ∧ rwk w' 54 (bfs (rwv w 5) q) = bU (rwv w 5) (rwv w 50) (fld w 4 3) q ∧ lN (rwk w' 55 q) = bfr (rwv w 5) (rwv w 50) (fld w 4 3) q)) := by
  refine xPq.of ?_
  show xTo (d + 2) mX0_lay (0, [], [(0, (2, 49))], [], (w, bd, fc, 0, 0, rr)) (fun φ => ∃ w', xEnd 0 [] (w', bd, fc, 0, 0, rr) φ ∧ xInv w' ∧ xFr [51, 52, 53, 54, 55] w w' ∧ (∀ q, q < fld w 4 3 → rwv w' 52 q = bfs (rwv w 5) q ∧ rwv w' 51 q = bhg (rwv w 5) (rwv w 50) q ∧ rwk w' 53 (bfs (rwv w 5) q) = bO (rwv w 5) (rwv w 50) (fld w 4 3) q ∧ rwk w' 54 (bfs (rwv w 5) q) = bU (rwv w 5) (rwv w 50) (fld w 4 3) q ∧ lN (rwk w' 55 q) = bfr (rwv w 5) (rwv w 50) (fld w 4 3) q))
  refine xoC49 (xqc49 hI : cp49 (wget w 49)) (fun f49_1 f49_3 h49_5 hb2 hb4 => ?_)
  refine xoC3 (xqc3 hI : cp3 (wget w 3)) (fun f3_6 f3_8 f3_10 f3_12 f3_14 h3_16 hb7 hb9 hb11 hb13 hb15 => ?_)
  obtain ⟨f4_17, h4_19, hb18⟩ := (xqc4 hI : cp4 (wget w 4))
  refine xoI (xqc5 hI : cpI 24 1 4294967295 (wget w 5)) (fun g5_20 h5_21 hb22 => ?_)
  refine xoI (xqc50 hI : cpI 6 23 4294967295 (wget w 50)) (fun g50_23 h50_24 hb25 => ?_)
  have q43 : fld w 4 3 = f4_17 := fld_of h4_19
  rw [q43] at hb
  refine xg_t (xg_blq rfl) ?_
  refine xg_t (xg_aload (va := (2, 49)) rfl rfl) ?_
  refine xg_t (xg_getf (va := (2, 3)) h49_5 rfl) ?_
  refine xg_t (xg_getf (va := (2, 4)) h3_16 rfl) ?_
  refine xg_t (xg_getf (va := (0, f4_17)) h4_19 rfl) ?_
  refine xg_t (xg_istore (l1 := [(0, (2, 49))]) rfl rfl rfl) ?_
  refine xg_t (xg_const) ?_
  refine xg_t (xg_istore (l1 := [(1, (0, f4_17)), (0, (2, 49))]) rfl rfl rfl) ?_
  refine xg_t (xg_const) ?_
  refine xg_t (xg_istore (l1 := [(2, (0, 0)), (1, (0, f4_17)), (0, (2, 49))]) rfl rfl rfl) ?_
  refine xg_t (xg_const) ?_
  refine xg_t (xg_istore (l1 := [(3, (0, 0)), (2, (0, 0)), (1, (0, f4_17)), (0, (2, 49))]) rfl rfl rfl) ?_
  refine xg_t (xg_drop (l1 := [(0, (2, 49)), (1, (0, f4_17)), (2, (0, 0)), (3, (0, 0)), (4, (0, 0))]) (List.forall_mem_cons.mpr ⟨List.mem_cons_of_mem _ (List.mem_cons_of_mem _ (List.mem_cons_of_mem _ (List.mem_cons_of_mem _ (List.mem_cons_self)))), List.forall_mem_cons.mpr ⟨List.mem_cons_of_mem _ (List.mem_cons_of_mem _ (List.mem_cons_of_mem _ (List.mem_cons_self))), List.forall_mem_cons.mpr ⟨List.mem_cons_of_mem _ (List.mem_cons_of_mem _ (List.mem_cons_self)), List.forall_mem_cons.mpr ⟨List.mem_cons_of_mem _ (List.mem_cons_self), List.forall_mem_cons.mpr ⟨List.mem_cons_self, fun _ h => absurd h List.not_mem_nil⟩⟩⟩⟩⟩)) ?_
  have key26 : ∀ (m28 : Nat) (he sa pl : Nat) (w29 : List (List xE)), 6 - pl < m28 → he ≤ 594 → sa ≤ 5 → pl ≤ 6 → xInv w29 → xFr [51, 52, 53, 54, 55] w w29 → (∀ q, q < pl → rwv w29 52 q = bfs (rwv w 5) q ∧ rwv w29 51 q = bhg (rwv w 5) (rwv w 50) q ∧ rwk w29 53 (bfs (rwv w 5) q) = bA (rwv w 5) (bt1 (rwv w 5) (rwv w 50)) pl (bfs (rwv w 5) q) ∧ rwk w29 54 (bfs (rwv w 5) q) = bA (rwv w 5) (bt2 (rwv w 5) (rwv w 50)) pl (bfs (rwv w 5) q)) ∧ (he = bhg (rwv w 5) (rwv w 50) pl ∧ he ≤ 99 * pl) ∧ (pl ≠ 0 → sa = bfs (rwv w 5) (pl - 1)) ∧ pl ≤ f4_17 → xTo (d + 2) mX0_lay (18, [], [(0, (2, 49)), (1, (0, f4_17)), (2, (0, he)), (3, (0, sa)), (4, (0, pl))], [], (w29, bd, fc, 0, 0, rr)) (fun φ => ∃ w', xEnd 0 [] (w', bd, fc, 0, 0, rr) φ ∧ xInv w' ∧ xFr [51, 52, 53, 54, 55] w w' ∧ (∀ q, q < fld w 4 3 → rwv w' 52 q = bfs (rwv w 5) q ∧ rwv w' 51 q = bhg (rwv w 5) (rwv w 50) q ∧ rwk w' 53 (bfs (rwv w 5) q) = bO (rwv w 5) (rwv w 50) (fld w 4 3) q ∧ rwk w' 54 (bfs (rwv w 5) q) = bU (rwv w 5) (rwv w 50) (fld w 4 3) q ∧ lN (rwk w' 55 q) = bfr (rwv w 5) (rwv w 50) (fld w 4 3) q)) := by
    intro m28
    induction m28 with
    | zero => intro he sa pl w29 hz; exact absurd hz (Nat.not_lt_zero _)
    | succ m28 ih27 =>
      intro he sa pl w29 hm36 hn32 hn33 hn34 hI30 hF31 he35
      obtain ⟨hq37, ⟨hh38, hl39⟩, hs40, hn41⟩ := he35
      refine xoI (xqc51 hI30 : cpI 6 24 4294967295 (wget w29 51)) (fun g51_42 h51_43 hb44 => ?_)
      refine xoI (xqc52 hI30 : cpI 6 25 5 (wget w29 52)) (fun g52_45 h52_46 hb47 => ?_)
      obtain ⟨g53_48, h53_49⟩ := (xqc53 hI30 : cpJ 6 26 (wget w29 53))
      have h53_49 : xRk 3 4 w29 53 6 26 g53_48 := h53_49
      obtain ⟨g54_51, h54_52⟩ := (xqc54 hI30 : cpJ 6 27 (wget w29 54))
      have h54_52 : xRk 3 4 w29 54 6 27 g54_51 := h54_52
      refine xg_t (xg_blq rfl) ?_
      refine xg_t (xg_iload (va := (0, pl)) rfl rfl) ?_
      refine xg_t (xg_iload (va := (0, f4_17)) rfl rfl) ?_
      by_cases hc54 : pl < f4_17
      · refine xg_t (xg_icF (u := pl) (v := f4_17) rfl xnm0 xnm0 (xj_geF hc54 (by omega))) ?_
        refine xg_t (xg_iload (va := (0, pl)) rfl rfl) ?_
        by_cases hc55 : pl = 0
        · refine xg_t (xg_ifT (u := pl) rfl xnm0 (xj_eqT hc55)) ?_
          refine xg_t (xg_blq rfl) ?_
          refine xg_t (xg_iload (va := (0, pl)) rfl rfl) ?_
          refine xg_t (xg_istore (l1 := [(0, (2, 49)), (1, (0, f4_17)), (2, (0, he)), (4, (0, pl))]) rfl rfl rfl) ?_
          refine xg_t (xg_aload (va := (2, 49)) rfl rfl) ?_
          refine xg_t (xg_getf (va := (2, 53)) (hF31.get (by decide) h49_5) rfl) ?_
          refine xg_t (xg_iload (va := (0, pl)) rfl rfl) ?_
          refine xg_t (xg_lconst) ?_
          refine xg_last (n := pl) (u := 0) h53_49 xnm0 (by omega) (fun w56 hr57 hb58 => ?_)
          obtain ⟨g59, hg60⟩ : ∃ g : Nat → Nat, g = (fun j => if j = pl then 0 else g53_48 j) := ⟨_, rfl⟩
          rw [← hg60] at hr57
          have he61 : g59 pl = 0 := by rw [hg60]; exact if_pos rfl
          have hk62 : ∀ j, j ≠ pl → g59 j = g53_48 j := fun j hj => by rw [hg60]; exact if_neg hj
          refine xg_t (xg_aload (va := (2, 49)) rfl rfl) ?_
          refine xg_t (xg_getf (va := (2, 54)) (hb58.get (by decide) (hF31.get (by decide) h49_5)) rfl) ?_
          refine xg_t (xg_iload (va := (0, pl)) rfl rfl) ?_
          refine xg_t (xg_lconst) ?_
          refine xg_last (n := pl) (u := 0) (h54_52.but hb58 (by decide)) xnm0 (by omega) (fun w63 hr64 hb65 => ?_)
          obtain ⟨g66, hg67⟩ : ∃ g : Nat → Nat, g = (fun j => if j = pl then 0 else g54_51 j) := ⟨_, rfl⟩
          rw [← hg67] at hr64
          have he68 : g66 pl = 0 := by rw [hg67]; exact if_pos rfl
          have hk69 : ∀ j, j ≠ pl → g66 j = g54_51 j := fun j hj => by rw [hg67]; exact if_neg hj
          refine xg_t (xg_blq rfl) ?_
          refine xg_t (xg_aload (va := (2, 49)) rfl rfl) ?_
          refine xg_t (xg_getf (va := (2, 3)) (hb65.get (by decide) (hb58.get (by decide) (hF31.get (by decide) h49_5))) rfl) ?_
          refine xg_t (xg_getf (va := (2, 4)) (hb65.get (by decide) (hb58.get (by decide) (hF31.get (by decide) h3_16))) rfl) ?_
          refine xg_t (xg_aload (va := (2, 49)) rfl rfl) ?_
          refine xg_t (xg_getf (va := (2, 50)) (hb65.get (by decide) (hb58.get (by decide) (hF31.get (by decide) h49_5))) rfl) ?_
          refine xg_t (xg_iload (va := (0, pl)) rfl rfl) ?_
          refine xg_ialdB (n := pl) (B := 4294967295) (((h50_24.fr hF31 (by decide)).but hb58 (by decide)).but hb65 (by decide)) (hb25) xnm0 (by omega) (fun u70 hu71 he72 => ?_)
          have hu73 : rwv w 50 pl = u70 := (rwv_of h50_24 (by omega)).trans he72
          have hl74 : u70 < f4_17 := by have q := (hb pl (by omega)).1; omega
          refine xg_t (xg_const) ?_
          refine xg_kE (xg_cVr mX5_get (vs := [(0, u70), (0, 0)]) (rest := []) (rs := [(0, g5_20 (u70 * 4 + 0))]) (cn1 := 0) (sl1 := 0) rfl (rgetX (lim := 6) (wd := 4) (sz := f4_17) (hb65.get (by decide) (hb58.get (by decide) (hF31.get (by decide) h4_19))) (((h5_21.fr hF31 (by decide)).but hb58 (by decide)).but hb65 (by decide)) (by decide) (by omega) (by decide) (by decide) (by omega) (by decide)) rfl (hb65.get (by decide) (hb58.get (by decide) (hF31.get (by decide) h4_19))) rfl rfl rfl rfl rfl rfl rfl) (Nat.lt_succ_of_le ((hb22) _)) (fun z75 hz76 he77 => ?_)
          have hT78 : bT (rwv w 5) (rwv w 50) pl = z75 := by
            show rwv w 5 (4 * rwv w 50 pl) = z75
            rw [hu73, rwv_of (j := 4 * u70) h5_21 (by omega), show 4 * u70 = u70 * 4 + 0 by omega]
            exact he77
          have hl79 : z75 ≤ 99 := by have q := (hb pl (by omega)).2.1; omega
          refine xg_t (xg_istore (l1 := [(3, (0, pl)), (0, (2, 49)), (1, (0, f4_17)), (2, (0, he)), (4, (0, pl))]) rfl rfl rfl) ?_
          refine xg_t (xg_iload (va := (0, z75)) rfl rfl) ?_
          refine xg_t (xg_i2l (u := z75) xnm0) ?_
          refine xg_t (xg_lre (b := z75) (by rw [xlp_eq]; exact nI_l (by omega))) ?_
          refine xg_t (xg_aload (va := (2, 49)) rfl rfl) ?_
          refine xg_t (xg_getf (va := (2, 3)) (hb65.get (by decide) (hb58.get (by decide) (hF31.get (by decide) h49_5))) rfl) ?_
          refine xg_t (xg_getf (va := (2, 4)) (hb65.get (by decide) (hb58.get (by decide) (hF31.get (by decide) h3_16))) rfl) ?_
          refine xg_t (xg_aload (va := (2, 49)) rfl rfl) ?_
          refine xg_t (xg_getf (va := (2, 50)) (hb65.get (by decide) (hb58.get (by decide) (hF31.get (by decide) h49_5))) rfl) ?_
          refine xg_t (xg_iload (va := (0, pl)) rfl rfl) ?_
          refine xg_ialdB (n := pl) (B := 4294967295) (((h50_24.fr hF31 (by decide)).but hb58 (by decide)).but hb65 (by decide)) (hb25) xnm0 (by omega) (fun u80 hu81 he82 => ?_)
          have hu83 : rwv w 50 pl = u80 := (rwv_of h50_24 (by omega)).trans he82
          have hl84 : u80 < f4_17 := by have q := (hb pl (by omega)).1; omega
          refine xg_t (xg_const) ?_
          refine xg_kE (xg_cVr mX5_get (vs := [(0, u80), (0, 1)]) (rest := [(4, z75)]) (rs := [(0, g5_20 (u80 * 4 + 1)), (4, z75)]) (cn1 := 0) (sl1 := 0) rfl (rgetX (lim := 6) (wd := 4) (sz := f4_17) (hb65.get (by decide) (hb58.get (by decide) (hF31.get (by decide) h4_19))) (((h5_21.fr hF31 (by decide)).but hb58 (by decide)).but hb65 (by decide)) (by decide) (by omega) (by decide) (by decide) (by omega) (by decide)) rfl (hb65.get (by decide) (hb58.get (by decide) (hF31.get (by decide) h4_19))) rfl rfl rfl rfl rfl rfl rfl) (Nat.lt_succ_of_le ((hb22) _)) (fun z85 hz86 he87 => ?_)
          have hT88 : bS (rwv w 5) (rwv w 50) pl = z85 := by
            show rwv w 5 (4 * rwv w 50 pl + 1) = z85
            rw [hu83, rwv_of (j := 4 * u80 + 1) h5_21 (by omega), show 4 * u80 + 1 = u80 * 4 + 1 by omega]
            exact he87
          have hl89 : z85 ≤ 99 := by have q := (hb pl (by omega)).2.2; omega
          refine xg_t (xg_i2l (u := z85) xnm0) ?_
          refine xg_t (xg_lre (b := z85) (by rw [xlp_eq]; exact nI_l (by omega))) ?_
          refine xg_t (xg_lmul (u := z75) (v := z85)) ?_
          refine xg_t (xg_lre (b := z75 * z85) (by rw [xlp_eq]; exact lN_mul _ _)) ?_
          refine xg_t (xg_lstore (l1 := [(5, (0, z75)), (3, (0, pl)), (0, (2, 49)), (1, (0, f4_17)), (2, (0, he)), (4, (0, pl))]) rfl rfl) ?_
          refine xg_t (xg_aload (va := (2, 49)) rfl rfl) ?_
          refine xg_t (xg_getf (va := (2, 53)) (hb65.get (by decide) (hb58.get (by decide) (hF31.get (by decide) h49_5))) rfl) ?_
          refine xg_t (xg_iload (va := (0, pl)) rfl rfl) ?_
          refine xg_t (xg_dup2 rfl) ?_
          obtain ⟨l90, hz91⟩ : ∃ z, g59 pl = z := ⟨_, rfl⟩
          refine xg_t (xg_lald (n := pl) (hr57.but hb65 (by decide)) xnm0 (by omega) hz91) ?_
          refine xg_t (xg_lload (u := z75 * z85) rfl) ?_
          refine xg_t (xg_const) ?_
          refine xg_t (xg_iload (va := (0, he)) rfl rfl) ?_
          refine xg_t (xg_imul (u := 2) (v := he) (z := 2 * he) xnm0 xnm0 (by omega)) ?_
          refine xg_t (xg_iload (va := (0, z75)) rfl rfl) ?_
          refine xg_t (xg_iadd (u := 2 * he) (v := z75) (z := (2 * he) + z75) xnm0 xnm0 (by omega)) ?_
          refine xg_t (xg_i2l (u := (2 * he) + z75) xnm0) ?_
          refine xg_t (xg_lre (b := (2 * he) + z75) (by rw [xlp_eq]; exact nI_l (by omega))) ?_
          refine xg_t (xg_lmul (u := z75 * z85) (v := (2 * he) + z75)) ?_
          refine xg_t (xg_lre (b := (z75 * z85) * ((2 * he) + z75)) (by rw [xlp_eq]; exact lN_mul _ _)) ?_
          refine xg_t (xg_ladd (u := l90) (v := (z75 * z85) * ((2 * he) + z75))) ?_
          refine xg_t (xg_lre (b := l90 + ((z75 * z85) * ((2 * he) + z75))) (by rw [xlp_eq]; exact lN_add _ _)) ?_
          refine xg_last (n := pl) (u := l90 + ((z75 * z85) * ((2 * he) + z75))) (hr57.but hb65 (by decide)) xnm0 (by omega) (fun w92 hr93 hb94 => ?_)
          obtain ⟨g95, hg96⟩ : ∃ g : Nat → Nat, g = (fun j => if j = pl then l90 + ((z75 * z85) * ((2 * he) + z75)) else g59 j) := ⟨_, rfl⟩
          rw [← hg96] at hr93
          have he97 : g95 pl = l90 + ((z75 * z85) * ((2 * he) + z75)) := by rw [hg96]; exact if_pos rfl
          have hk98 : ∀ j, j ≠ pl → g95 j = g59 j := fun j hj => by rw [hg96]; exact if_neg hj
          refine xg_t (xg_aload (va := (2, 49)) rfl rfl) ?_
          refine xg_t (xg_getf (va := (2, 54)) (hb94.get (by decide) (hb65.get (by decide) (hb58.get (by decide) (hF31.get (by decide) h49_5)))) rfl) ?_
          refine xg_t (xg_iload (va := (0, pl)) rfl rfl) ?_
          refine xg_t (xg_dup2 rfl) ?_
          obtain ⟨l99, hz100⟩ : ∃ z, g66 pl = z := ⟨_, rfl⟩
          refine xg_t (xg_lald (n := pl) (hr64.but hb94 (by decide)) xnm0 (by omega) hz100) ?_
          refine xg_t (xg_ldc2) ?_
          refine xg_t (xg_lload (u := z75 * z85) rfl) ?_
          refine xg_t (xg_lmul (u := 2) (v := z75 * z85)) ?_
          refine xg_t (xg_lre (b := 2 * (z75 * z85)) (by rw [xlp_eq]; exact lN_mul _ _)) ?_
          refine xg_t (xg_ladd (u := l99) (v := 2 * (z75 * z85))) ?_
          refine xg_t (xg_lre (b := l99 + (2 * (z75 * z85))) (by rw [xlp_eq]; exact lN_add _ _)) ?_
          refine xg_last (n := pl) (u := l99 + (2 * (z75 * z85))) (hr64.but hb94 (by decide)) xnm0 (by omega) (fun w101 hr102 hb103 => ?_)
          obtain ⟨g104, hg105⟩ : ∃ g : Nat → Nat, g = (fun j => if j = pl then l99 + (2 * (z75 * z85)) else g66 j) := ⟨_, rfl⟩
          rw [← hg105] at hr102
          have he106 : g104 pl = l99 + (2 * (z75 * z85)) := by rw [hg105]; exact if_pos rfl
          have hk107 : ∀ j, j ≠ pl → g104 j = g66 j := fun j hj => by rw [hg105]; exact if_neg hj
          refine xg_t (xg_aload (va := (2, 49)) rfl rfl) ?_
          refine xg_t (xg_getf (va := (2, 52)) (hb103.get (by decide) (hb94.get (by decide) (hb65.get (by decide) (hb58.get (by decide) (hF31.get (by decide) h49_5))))) rfl) ?_
          refine xg_t (xg_iload (va := (0, pl)) rfl rfl) ?_
          refine xg_t (xg_iload (va := (0, pl)) rfl rfl) ?_
          refine xg_iastK (n := pl) (u := pl) ((((h52_46.but hb58 (by decide)).but hb65 (by decide)).but hb94 (by decide)).but hb103 (by decide)) xnm0 xnm0 rfl (by omega) (fun w108 hr109 hb110 => ?_)
          obtain ⟨g111, hg112⟩ : ∃ g : Nat → Nat, g = (fun j => if j = pl then pl else g52_45 j) := ⟨_, rfl⟩
          rw [← hg112] at hr109
          have he113 : g111 pl = pl := by rw [hg112]; exact if_pos rfl
          have hk114 : ∀ j, j ≠ pl → g111 j = g52_45 j := fun j hj => by rw [hg112]; exact if_neg hj
          have hb115 : ∀ j, g111 j ≤ 5 := fun j => by rw [hg112]; exact xrb (by omega) (hb47) j
          refine xg_t (xg_aload (va := (2, 49)) rfl rfl) ?_
          refine xg_t (xg_getf (va := (2, 51)) (hb110.get (by decide) (hb103.get (by decide) (hb94.get (by decide) (hb65.get (by decide) (hb58.get (by decide) (hF31.get (by decide) h49_5)))))) rfl) ?_
          refine xg_t (xg_iload (va := (0, pl)) rfl rfl) ?_
          refine xg_t (xg_iload (va := (0, he)) rfl rfl) ?_
          refine xg_iastK (n := pl) (u := he) (((((h51_43.but hb58 (by decide)).but hb65 (by decide)).but hb94 (by decide)).but hb103 (by decide)).but hb110 (by decide)) xnm0 xnm0 rfl (by omega) (fun w116 hr117 hb118 => ?_)
          obtain ⟨g119, hg120⟩ : ∃ g : Nat → Nat, g = (fun j => if j = pl then he else g51_42 j) := ⟨_, rfl⟩
          rw [← hg120] at hr117
          have he121 : g119 pl = he := by rw [hg120]; exact if_pos rfl
          have hk122 : ∀ j, j ≠ pl → g119 j = g51_42 j := fun j hj => by rw [hg120]; exact if_neg hj
          have hb123 : ∀ j, g119 j ≤ 4294967295 := fun j => by rw [hg120]; exact xrb (by omega) (hb44) j
          refine xg_t (xg_iload (va := (0, he)) rfl rfl) ?_
          refine xg_t (xg_iload (va := (0, z75)) rfl rfl) ?_
          refine xg_t (xg_iadd (u := he) (v := z75) (z := he + z75) xnm0 xnm0 (by omega)) ?_
          refine xg_t (xg_istore (l1 := [(6, (4, z75 * z85)), (5, (0, z75)), (3, (0, pl)), (0, (2, 49)), (1, (0, f4_17)), (4, (0, pl))]) rfl rfl rfl) ?_
          refine xg_t (xg_iinc (u := pl) (z := pl + 1) (l1 := [(2, (0, he + z75)), (6, (4, z75 * z85)), (5, (0, z75)), (3, (0, pl)), (0, (2, 49)), (1, (0, f4_17))]) rfl rfl (by omega) rfl) ?_
          refine xg_t (xg_goto) ?_
          refine xg_t (xg_drop (l1 := [(0, (2, 49)), (1, (0, f4_17)), (2, (0, he + z75)), (3, (0, pl)), (4, (0, pl + 1))]) (List.forall_mem_cons.mpr ⟨List.mem_cons_of_mem _ (List.mem_cons_of_mem _ (List.mem_cons_of_mem _ (List.mem_cons_of_mem _ (List.mem_cons_of_mem _ (List.mem_cons_self))))), List.forall_mem_cons.mpr ⟨List.mem_cons_of_mem _ (List.mem_cons_of_mem _ (List.mem_cons_of_mem _ (List.mem_cons_of_mem _ (List.mem_cons_of_mem _ (List.mem_cons_of_mem _ (List.mem_cons_self)))))), List.forall_mem_cons.mpr ⟨List.mem_cons_of_mem _ (List.mem_cons_self), List.forall_mem_cons.mpr ⟨List.mem_cons_of_mem _ (List.mem_cons_of_mem _ (List.mem_cons_of_mem _ (List.mem_cons_of_mem _ (List.mem_cons_self)))), List.forall_mem_cons.mpr ⟨List.mem_cons_self, fun _ h => absurd h List.not_mem_nil⟩⟩⟩⟩⟩)) ?_
          have ht124 : (z75 * z85) * ((2 * he) + z75) = bt1 (rwv w 5) (rwv w 50) pl := by
            unfold bt1
            rw [hT78, hT88, ← hh38]
          have ht125 : 2 * (z75 * z85) = bt2 (rwv w 5) (rwv w 50) pl := by
            unfold bt2
            rw [hT78, hT88]
          have hz126 : l90 = 0 := hz91.symm.trans he61
          have hz127 : l99 = 0 := hz100.symm.trans he68
          have hbs129 := bs_0 (r := (rwv w 5)) (f := (bt1 (rwv w 5) (rwv w 50))) (p := pl) (z := l90) (t := (z75 * z85) * ((2 * he) + z75)) (by omega) hz126 ht124
          have hbs130 := bs_0 (r := (rwv w 5)) (f := (bt2 (rwv w 5) (rwv w 50))) (p := pl) (z := l99) (t := 2 * (z75 * z85)) (by omega) hz127 ht125
          have hfs128 : bfs (rwv w 5) pl = pl := by rw [show pl = 0 by omega]; rfl
          have hst131 := bd_step (r := (rwv w 5)) (o := (rwv w 50)) (p := pl) (F := rwv w29 52) (H := rwv w29 51) (O := rwk w29 53) (U := rwk w29 54) (F' := rwv w116 52) (H' := rwv w116 51) (O' := rwk w116 53) (U' := rwk w116 54) hq37 ((rwv_of (hr109.but hb118 (by decide)) (by omega)).trans (he113.trans hfs128.symm)) (fun q hq => by rw [rwv_of (j := q) (hr109.but hb118 (by decide)) (by omega), hk114 q (by omega), ← rwv_of (j := q) h52_46 (by omega)]) ((rwv_of hr117 (by omega)).trans (he121.trans hh38)) (fun q hq => by rw [rwv_of (j := q) hr117 (by omega), hk122 q (by omega), ← rwv_of (j := q) h51_43 (by omega)]) (by rw [hfs128]; exact (rwk_of (((hr93.but hb103 (by decide)).but hb110 (by decide)).but hb118 (by decide)) (by omega)).trans (he97.trans hbs129)) (fun s hs hn => by rw [hfs128] at hn; rw [rwk_of (j := s) (((hr93.but hb103 (by decide)).but hb110 (by decide)).but hb118 (by decide)) (by omega), hk98 s hn, hk62 s hn, ← rwk_of (j := s) h53_49 (by omega)]) (by rw [hfs128]; exact (rwk_of ((hr102.but hb110 (by decide)).but hb118 (by decide)) (by omega)).trans (he106.trans hbs130)) (fun s hs hn => by rw [hfs128] at hn; rw [rwk_of (j := s) ((hr102.but hb110 (by decide)).but hb118 (by decide)) (by omega), hk107 s hn, hk69 s hn, ← rwk_of (j := s) h54_52 (by omega)])
          have hp132 : bhg (rwv w 5) (rwv w 50) (pl + 1) = bhg (rwv w 5) (rwv w 50) pl + bT (rwv w 5) (rwv w 50) pl := rfl
          exact ih27 (he + z75) pl (pl + 1) w116 (by omega) (by omega) (by omega) (by omega) (xInv.up (S := [53, 54, 52, 51]) hI30 ((((((xFr.of (S := [53, 54, 52, 51]) hb58 (by decide)).tr (xFr.of (S := [53, 54, 52, 51]) hb65 (by decide))).tr (xFr.of (S := [53, 54, 52, 51]) hb94 (by decide))).tr (xFr.of (S := [53, 54, 52, 51]) hb103 (by decide))).tr (xFr.of (S := [53, 54, 52, 51]) hb110 (by decide))).tr (xFr.of (S := [53, 54, 52, 51]) hb118 (by decide))) (List.forall_mem_cons.mpr ⟨xqu53 (show cpJ 6 26 (wget w116 53) from ⟨_, (((hr93.but hb103 (by decide)).but hb110 (by decide)).but hb118 (by decide))⟩), List.forall_mem_cons.mpr ⟨xqu54 (show cpJ 6 27 (wget w116 54) from ⟨_, ((hr102.but hb110 (by decide)).but hb118 (by decide))⟩), List.forall_mem_cons.mpr ⟨xqu52 (show cpI 6 25 5 (wget w116 52) from ⟨_, (hr109.but hb118 (by decide)), hb115⟩), List.forall_mem_cons.mpr ⟨xqu51 (show cpI 6 24 4294967295 (wget w116 51) from ⟨_, hr117, hb123⟩), fun _ h => absurd h List.not_mem_nil⟩⟩⟩⟩)) ((hF31.tr ((((((xFr.of (S := [51, 52, 53, 54, 55]) hb58 (by decide)).tr (xFr.of (S := [51, 52, 53, 54, 55]) hb65 (by decide))).tr (xFr.of (S := [51, 52, 53, 54, 55]) hb94 (by decide))).tr (xFr.of (S := [51, 52, 53, 54, 55]) hb103 (by decide))).tr (xFr.of (S := [51, 52, 53, 54, 55]) hb110 (by decide))).tr (xFr.of (S := [51, 52, 53, 54, 55]) hb118 (by decide))))) (⟨hst131, ⟨by omega, by omega⟩, fun _ => hfs128.symm, by omega⟩)
        · refine xg_t (xg_ifF (u := pl) rfl xnm0 (xj_eqF hc55)) ?_
          refine xg_t (xg_aload (va := (2, 49)) rfl rfl) ?_
          refine xg_t (xg_getf (va := (2, 3)) (hF31.get (by decide) h49_5) rfl) ?_
          refine xg_t (xg_getf (va := (2, 4)) (hF31.get (by decide) h3_16) rfl) ?_
          refine xg_t (xg_iload (va := (0, pl)) rfl rfl) ?_
          refine xg_t (xg_const) ?_
          refine xg_t (xg_isub (u := pl) (v := 1) (z := pl - 1) xnm0 xnm0 (by omega)) ?_
          refine xg_t (xg_const) ?_
          refine xg_kE (xg_cVr mX5_get (vs := [(0, pl - 1), (0, 3)]) (rest := []) (rs := [(0, g5_20 ((pl - 1) * 4 + 3))]) (cn1 := 0) (sl1 := 0) rfl (rgetX (lim := 6) (wd := 4) (sz := f4_17) (hF31.get (by decide) h4_19) (h5_21.fr hF31 (by decide)) (by decide) (by omega) (by decide) (by decide) (by omega) (by decide)) rfl (hF31.get (by decide) h4_19) rfl rfl rfl rfl rfl rfl rfl) (Nat.lt_succ_of_le ((hb22) _)) (fun z133 hz134 he135 => ?_)
          have hT136 : rwv w 5 (4 * (pl - 1) + 3) = z133 := by
            rw [rwv_of (j := 4 * (pl - 1) + 3) h5_21 (by omega), show 4 * (pl - 1) + 3 = (pl - 1) * 4 + 3 by omega]
            exact he135
          refine xg_t (xg_const) ?_
          by_cases hc137 : z133 = 1
          · refine xg_t (xg_icF (u := z133) (v := 1) rfl xnm0 xnm0 (xj_neF hc137)) ?_
            refine xg_t (xg_blq rfl) ?_
            refine xg_t (xg_iload (va := (0, pl)) rfl rfl) ?_
            refine xg_t (xg_istore (l1 := [(0, (2, 49)), (1, (0, f4_17)), (2, (0, he)), (4, (0, pl))]) rfl rfl rfl) ?_
            refine xg_t (xg_aload (va := (2, 49)) rfl rfl) ?_
            refine xg_t (xg_getf (va := (2, 53)) (hF31.get (by decide) h49_5) rfl) ?_
            refine xg_t (xg_iload (va := (0, pl)) rfl rfl) ?_
            refine xg_t (xg_lconst) ?_
            refine xg_last (n := pl) (u := 0) h53_49 xnm0 (by omega) (fun w138 hr139 hb140 => ?_)
            obtain ⟨g141, hg142⟩ : ∃ g : Nat → Nat, g = (fun j => if j = pl then 0 else g53_48 j) := ⟨_, rfl⟩
            rw [← hg142] at hr139
            have he143 : g141 pl = 0 := by rw [hg142]; exact if_pos rfl
            have hk144 : ∀ j, j ≠ pl → g141 j = g53_48 j := fun j hj => by rw [hg142]; exact if_neg hj
            refine xg_t (xg_aload (va := (2, 49)) rfl rfl) ?_
            refine xg_t (xg_getf (va := (2, 54)) (hb140.get (by decide) (hF31.get (by decide) h49_5)) rfl) ?_
            refine xg_t (xg_iload (va := (0, pl)) rfl rfl) ?_
            refine xg_t (xg_lconst) ?_
            refine xg_last (n := pl) (u := 0) (h54_52.but hb140 (by decide)) xnm0 (by omega) (fun w145 hr146 hb147 => ?_)
            obtain ⟨g148, hg149⟩ : ∃ g : Nat → Nat, g = (fun j => if j = pl then 0 else g54_51 j) := ⟨_, rfl⟩
            rw [← hg149] at hr146
            have he150 : g148 pl = 0 := by rw [hg149]; exact if_pos rfl
            have hk151 : ∀ j, j ≠ pl → g148 j = g54_51 j := fun j hj => by rw [hg149]; exact if_neg hj
            refine xg_t (xg_blq rfl) ?_
            refine xg_t (xg_aload (va := (2, 49)) rfl rfl) ?_
            refine xg_t (xg_getf (va := (2, 3)) (hb147.get (by decide) (hb140.get (by decide) (hF31.get (by decide) h49_5))) rfl) ?_
            refine xg_t (xg_getf (va := (2, 4)) (hb147.get (by decide) (hb140.get (by decide) (hF31.get (by decide) h3_16))) rfl) ?_
            refine xg_t (xg_aload (va := (2, 49)) rfl rfl) ?_
            refine xg_t (xg_getf (va := (2, 50)) (hb147.get (by decide) (hb140.get (by decide) (hF31.get (by decide) h49_5))) rfl) ?_
            refine xg_t (xg_iload (va := (0, pl)) rfl rfl) ?_
            refine xg_ialdB (n := pl) (B := 4294967295) (((h50_24.fr hF31 (by decide)).but hb140 (by decide)).but hb147 (by decide)) (hb25) xnm0 (by omega) (fun u152 hu153 he154 => ?_)
            have hu155 : rwv w 50 pl = u152 := (rwv_of h50_24 (by omega)).trans he154
            have hl156 : u152 < f4_17 := by have q := (hb pl (by omega)).1; omega
            refine xg_t (xg_const) ?_
            refine xg_kE (xg_cVr mX5_get (vs := [(0, u152), (0, 0)]) (rest := []) (rs := [(0, g5_20 (u152 * 4 + 0))]) (cn1 := 0) (sl1 := 0) rfl (rgetX (lim := 6) (wd := 4) (sz := f4_17) (hb147.get (by decide) (hb140.get (by decide) (hF31.get (by decide) h4_19))) (((h5_21.fr hF31 (by decide)).but hb140 (by decide)).but hb147 (by decide)) (by decide) (by omega) (by decide) (by decide) (by omega) (by decide)) rfl (hb147.get (by decide) (hb140.get (by decide) (hF31.get (by decide) h4_19))) rfl rfl rfl rfl rfl rfl rfl) (Nat.lt_succ_of_le ((hb22) _)) (fun z157 hz158 he159 => ?_)
            have hT160 : bT (rwv w 5) (rwv w 50) pl = z157 := by
              show rwv w 5 (4 * rwv w 50 pl) = z157
              rw [hu155, rwv_of (j := 4 * u152) h5_21 (by omega), show 4 * u152 = u152 * 4 + 0 by omega]
              exact he159
            have hl161 : z157 ≤ 99 := by have q := (hb pl (by omega)).2.1; omega
            refine xg_t (xg_istore (l1 := [(3, (0, pl)), (0, (2, 49)), (1, (0, f4_17)), (2, (0, he)), (4, (0, pl))]) rfl rfl rfl) ?_
            refine xg_t (xg_iload (va := (0, z157)) rfl rfl) ?_
            refine xg_t (xg_i2l (u := z157) xnm0) ?_
            refine xg_t (xg_lre (b := z157) (by rw [xlp_eq]; exact nI_l (by omega))) ?_
            refine xg_t (xg_aload (va := (2, 49)) rfl rfl) ?_
            refine xg_t (xg_getf (va := (2, 3)) (hb147.get (by decide) (hb140.get (by decide) (hF31.get (by decide) h49_5))) rfl) ?_
            refine xg_t (xg_getf (va := (2, 4)) (hb147.get (by decide) (hb140.get (by decide) (hF31.get (by decide) h3_16))) rfl) ?_
            refine xg_t (xg_aload (va := (2, 49)) rfl rfl) ?_
            refine xg_t (xg_getf (va := (2, 50)) (hb147.get (by decide) (hb140.get (by decide) (hF31.get (by decide) h49_5))) rfl) ?_
            refine xg_t (xg_iload (va := (0, pl)) rfl rfl) ?_
            refine xg_ialdB (n := pl) (B := 4294967295) (((h50_24.fr hF31 (by decide)).but hb140 (by decide)).but hb147 (by decide)) (hb25) xnm0 (by omega) (fun u162 hu163 he164 => ?_)
            have hu165 : rwv w 50 pl = u162 := (rwv_of h50_24 (by omega)).trans he164
            have hl166 : u162 < f4_17 := by have q := (hb pl (by omega)).1; omega
            refine xg_t (xg_const) ?_
            refine xg_kE (xg_cVr mX5_get (vs := [(0, u162), (0, 1)]) (rest := [(4, z157)]) (rs := [(0, g5_20 (u162 * 4 + 1)), (4, z157)]) (cn1 := 0) (sl1 := 0) rfl (rgetX (lim := 6) (wd := 4) (sz := f4_17) (hb147.get (by decide) (hb140.get (by decide) (hF31.get (by decide) h4_19))) (((h5_21.fr hF31 (by decide)).but hb140 (by decide)).but hb147 (by decide)) (by decide) (by omega) (by decide) (by decide) (by omega) (by decide)) rfl (hb147.get (by decide) (hb140.get (by decide) (hF31.get (by decide) h4_19))) rfl rfl rfl rfl rfl rfl rfl) (Nat.lt_succ_of_le ((hb22) _)) (fun z167 hz168 he169 => ?_)
            have hT170 : bS (rwv w 5) (rwv w 50) pl = z167 := by
              show rwv w 5 (4 * rwv w 50 pl + 1) = z167
              rw [hu165, rwv_of (j := 4 * u162 + 1) h5_21 (by omega), show 4 * u162 + 1 = u162 * 4 + 1 by omega]
              exact he169
            have hl171 : z167 ≤ 99 := by have q := (hb pl (by omega)).2.2; omega
            refine xg_t (xg_i2l (u := z167) xnm0) ?_
            refine xg_t (xg_lre (b := z167) (by rw [xlp_eq]; exact nI_l (by omega))) ?_
            refine xg_t (xg_lmul (u := z157) (v := z167)) ?_
            refine xg_t (xg_lre (b := z157 * z167) (by rw [xlp_eq]; exact lN_mul _ _)) ?_
            refine xg_t (xg_lstore (l1 := [(5, (0, z157)), (3, (0, pl)), (0, (2, 49)), (1, (0, f4_17)), (2, (0, he)), (4, (0, pl))]) rfl rfl) ?_
            refine xg_t (xg_aload (va := (2, 49)) rfl rfl) ?_
            refine xg_t (xg_getf (va := (2, 53)) (hb147.get (by decide) (hb140.get (by decide) (hF31.get (by decide) h49_5))) rfl) ?_
            refine xg_t (xg_iload (va := (0, pl)) rfl rfl) ?_
            refine xg_t (xg_dup2 rfl) ?_
            obtain ⟨l172, hz173⟩ : ∃ z, g141 pl = z := ⟨_, rfl⟩
            refine xg_t (xg_lald (n := pl) (hr139.but hb147 (by decide)) xnm0 (by omega) hz173) ?_
            refine xg_t (xg_lload (u := z157 * z167) rfl) ?_
            refine xg_t (xg_const) ?_
            refine xg_t (xg_iload (va := (0, he)) rfl rfl) ?_
            refine xg_t (xg_imul (u := 2) (v := he) (z := 2 * he) xnm0 xnm0 (by omega)) ?_
            refine xg_t (xg_iload (va := (0, z157)) rfl rfl) ?_
            refine xg_t (xg_iadd (u := 2 * he) (v := z157) (z := (2 * he) + z157) xnm0 xnm0 (by omega)) ?_
            refine xg_t (xg_i2l (u := (2 * he) + z157) xnm0) ?_
            refine xg_t (xg_lre (b := (2 * he) + z157) (by rw [xlp_eq]; exact nI_l (by omega))) ?_
            refine xg_t (xg_lmul (u := z157 * z167) (v := (2 * he) + z157)) ?_
            refine xg_t (xg_lre (b := (z157 * z167) * ((2 * he) + z157)) (by rw [xlp_eq]; exact lN_mul _ _)) ?_
            refine xg_t (xg_ladd (u := l172) (v := (z157 * z167) * ((2 * he) + z157))) ?_
            refine xg_t (xg_lre (b := l172 + ((z157 * z167) * ((2 * he) + z157))) (by rw [xlp_eq]; exact lN_add _ _)) ?_
            refine xg_last (n := pl) (u := l172 + ((z157 * z167) * ((2 * he) + z157))) (hr139.but hb147 (by decide)) xnm0 (by omega) (fun w174 hr175 hb176 => ?_)
            obtain ⟨g177, hg178⟩ : ∃ g : Nat → Nat, g = (fun j => if j = pl then l172 + ((z157 * z167) * ((2 * he) + z157)) else g141 j) := ⟨_, rfl⟩
            rw [← hg178] at hr175
            have he179 : g177 pl = l172 + ((z157 * z167) * ((2 * he) + z157)) := by rw [hg178]; exact if_pos rfl
            have hk180 : ∀ j, j ≠ pl → g177 j = g141 j := fun j hj => by rw [hg178]; exact if_neg hj
            refine xg_t (xg_aload (va := (2, 49)) rfl rfl) ?_
            refine xg_t (xg_getf (va := (2, 54)) (hb176.get (by decide) (hb147.get (by decide) (hb140.get (by decide) (hF31.get (by decide) h49_5)))) rfl) ?_
            refine xg_t (xg_iload (va := (0, pl)) rfl rfl) ?_
            refine xg_t (xg_dup2 rfl) ?_
            obtain ⟨l181, hz182⟩ : ∃ z, g148 pl = z := ⟨_, rfl⟩
            refine xg_t (xg_lald (n := pl) (hr146.but hb176 (by decide)) xnm0 (by omega) hz182) ?_
            refine xg_t (xg_ldc2) ?_
            refine xg_t (xg_lload (u := z157 * z167) rfl) ?_
            refine xg_t (xg_lmul (u := 2) (v := z157 * z167)) ?_
            refine xg_t (xg_lre (b := 2 * (z157 * z167)) (by rw [xlp_eq]; exact lN_mul _ _)) ?_
            refine xg_t (xg_ladd (u := l181) (v := 2 * (z157 * z167))) ?_
            refine xg_t (xg_lre (b := l181 + (2 * (z157 * z167))) (by rw [xlp_eq]; exact lN_add _ _)) ?_
            refine xg_last (n := pl) (u := l181 + (2 * (z157 * z167))) (hr146.but hb176 (by decide)) xnm0 (by omega) (fun w183 hr184 hb185 => ?_)
            obtain ⟨g186, hg187⟩ : ∃ g : Nat → Nat, g = (fun j => if j = pl then l181 + (2 * (z157 * z167)) else g148 j) := ⟨_, rfl⟩
            rw [← hg187] at hr184
            have he188 : g186 pl = l181 + (2 * (z157 * z167)) := by rw [hg187]; exact if_pos rfl
            have hk189 : ∀ j, j ≠ pl → g186 j = g148 j := fun j hj => by rw [hg187]; exact if_neg hj
            refine xg_t (xg_aload (va := (2, 49)) rfl rfl) ?_
            refine xg_t (xg_getf (va := (2, 52)) (hb185.get (by decide) (hb176.get (by decide) (hb147.get (by decide) (hb140.get (by decide) (hF31.get (by decide) h49_5))))) rfl) ?_
            refine xg_t (xg_iload (va := (0, pl)) rfl rfl) ?_
            refine xg_t (xg_iload (va := (0, pl)) rfl rfl) ?_
            refine xg_iastK (n := pl) (u := pl) ((((h52_46.but hb140 (by decide)).but hb147 (by decide)).but hb176 (by decide)).but hb185 (by decide)) xnm0 xnm0 rfl (by omega) (fun w190 hr191 hb192 => ?_)
            obtain ⟨g193, hg194⟩ : ∃ g : Nat → Nat, g = (fun j => if j = pl then pl else g52_45 j) := ⟨_, rfl⟩
            rw [← hg194] at hr191
            have he195 : g193 pl = pl := by rw [hg194]; exact if_pos rfl
            have hk196 : ∀ j, j ≠ pl → g193 j = g52_45 j := fun j hj => by rw [hg194]; exact if_neg hj
            have hb197 : ∀ j, g193 j ≤ 5 := fun j => by rw [hg194]; exact xrb (by omega) (hb47) j
            refine xg_t (xg_aload (va := (2, 49)) rfl rfl) ?_
            refine xg_t (xg_getf (va := (2, 51)) (hb192.get (by decide) (hb185.get (by decide) (hb176.get (by decide) (hb147.get (by decide) (hb140.get (by decide) (hF31.get (by decide) h49_5)))))) rfl) ?_
            refine xg_t (xg_iload (va := (0, pl)) rfl rfl) ?_
            refine xg_t (xg_iload (va := (0, he)) rfl rfl) ?_
            refine xg_iastK (n := pl) (u := he) (((((h51_43.but hb140 (by decide)).but hb147 (by decide)).but hb176 (by decide)).but hb185 (by decide)).but hb192 (by decide)) xnm0 xnm0 rfl (by omega) (fun w198 hr199 hb200 => ?_)
            obtain ⟨g201, hg202⟩ : ∃ g : Nat → Nat, g = (fun j => if j = pl then he else g51_42 j) := ⟨_, rfl⟩
            rw [← hg202] at hr199
            have he203 : g201 pl = he := by rw [hg202]; exact if_pos rfl
            have hk204 : ∀ j, j ≠ pl → g201 j = g51_42 j := fun j hj => by rw [hg202]; exact if_neg hj
            have hb205 : ∀ j, g201 j ≤ 4294967295 := fun j => by rw [hg202]; exact xrb (by omega) (hb44) j
            refine xg_t (xg_iload (va := (0, he)) rfl rfl) ?_
            refine xg_t (xg_iload (va := (0, z157)) rfl rfl) ?_
            refine xg_t (xg_iadd (u := he) (v := z157) (z := he + z157) xnm0 xnm0 (by omega)) ?_
            refine xg_t (xg_istore (l1 := [(6, (4, z157 * z167)), (5, (0, z157)), (3, (0, pl)), (0, (2, 49)), (1, (0, f4_17)), (4, (0, pl))]) rfl rfl rfl) ?_
            refine xg_t (xg_iinc (u := pl) (z := pl + 1) (l1 := [(2, (0, he + z157)), (6, (4, z157 * z167)), (5, (0, z157)), (3, (0, pl)), (0, (2, 49)), (1, (0, f4_17))]) rfl rfl (by omega) rfl) ?_
            refine xg_t (xg_goto) ?_
            refine xg_t (xg_drop (l1 := [(0, (2, 49)), (1, (0, f4_17)), (2, (0, he + z157)), (3, (0, pl)), (4, (0, pl + 1))]) (List.forall_mem_cons.mpr ⟨List.mem_cons_of_mem _ (List.mem_cons_of_mem _ (List.mem_cons_of_mem _ (List.mem_cons_of_mem _ (List.mem_cons_of_mem _ (List.mem_cons_self))))), List.forall_mem_cons.mpr ⟨List.mem_cons_of_mem _ (List.mem_cons_of_mem _ (List.mem_cons_of_mem _ (List.mem_cons_of_mem _ (List.mem_cons_of_mem _ (List.mem_cons_of_mem _ (List.mem_cons_self)))))), List.forall_mem_cons.mpr ⟨List.mem_cons_of_mem _ (List.mem_cons_self), List.forall_mem_cons.mpr ⟨List.mem_cons_of_mem _ (List.mem_cons_of_mem _ (List.mem_cons_of_mem _ (List.mem_cons_of_mem _ (List.mem_cons_self)))), List.forall_mem_cons.mpr ⟨List.mem_cons_self, fun _ h => absurd h List.not_mem_nil⟩⟩⟩⟩⟩)) ?_
            have ht206 : (z157 * z167) * ((2 * he) + z157) = bt1 (rwv w 5) (rwv w 50) pl := by
              unfold bt1
              rw [hT160, hT170, ← hh38]
            have ht207 : 2 * (z157 * z167) = bt2 (rwv w 5) (rwv w 50) pl := by
              unfold bt2
              rw [hT160, hT170]
            have hz208 : l172 = 0 := hz173.symm.trans he143
            have hz209 : l181 = 0 := hz182.symm.trans he150
            have hbs211 := bs_y (r := (rwv w 5)) (f := (bt1 (rwv w 5) (rwv w 50))) (p := pl) (z := l172) (t := (z157 * z167) * ((2 * he) + z157)) (by omega) (by rw [hT136]; omega) hz208 ht206
            have hbs212 := bs_y (r := (rwv w 5)) (f := (bt2 (rwv w 5) (rwv w 50))) (p := pl) (z := l181) (t := 2 * (z157 * z167)) (by omega) (by rw [hT136]; omega) hz209 ht207
            have hfs210 : bfs (rwv w 5) pl = pl := hbs211.2
            have hst213 := bd_step (r := (rwv w 5)) (o := (rwv w 50)) (p := pl) (F := rwv w29 52) (H := rwv w29 51) (O := rwk w29 53) (U := rwk w29 54) (F' := rwv w198 52) (H' := rwv w198 51) (O' := rwk w198 53) (U' := rwk w198 54) hq37 ((rwv_of (hr191.but hb200 (by decide)) (by omega)).trans (he195.trans hfs210.symm)) (fun q hq => by rw [rwv_of (j := q) (hr191.but hb200 (by decide)) (by omega), hk196 q (by omega), ← rwv_of (j := q) h52_46 (by omega)]) ((rwv_of hr199 (by omega)).trans (he203.trans hh38)) (fun q hq => by rw [rwv_of (j := q) hr199 (by omega), hk204 q (by omega), ← rwv_of (j := q) h51_43 (by omega)]) (by rw [hfs210]; exact (rwk_of (((hr175.but hb185 (by decide)).but hb192 (by decide)).but hb200 (by decide)) (by omega)).trans (he179.trans hbs211.1)) (fun s hs hn => by rw [hfs210] at hn; rw [rwk_of (j := s) (((hr175.but hb185 (by decide)).but hb192 (by decide)).but hb200 (by decide)) (by omega), hk180 s hn, hk144 s hn, ← rwk_of (j := s) h53_49 (by omega)]) (by rw [hfs210]; exact (rwk_of ((hr184.but hb192 (by decide)).but hb200 (by decide)) (by omega)).trans (he188.trans hbs212.1)) (fun s hs hn => by rw [hfs210] at hn; rw [rwk_of (j := s) ((hr184.but hb192 (by decide)).but hb200 (by decide)) (by omega), hk189 s hn, hk151 s hn, ← rwk_of (j := s) h54_52 (by omega)])
            have hp214 : bhg (rwv w 5) (rwv w 50) (pl + 1) = bhg (rwv w 5) (rwv w 50) pl + bT (rwv w 5) (rwv w 50) pl := rfl
            exact ih27 (he + z157) pl (pl + 1) w198 (by omega) (by omega) (by omega) (by omega) (xInv.up (S := [53, 54, 52, 51]) hI30 ((((((xFr.of (S := [53, 54, 52, 51]) hb140 (by decide)).tr (xFr.of (S := [53, 54, 52, 51]) hb147 (by decide))).tr (xFr.of (S := [53, 54, 52, 51]) hb176 (by decide))).tr (xFr.of (S := [53, 54, 52, 51]) hb185 (by decide))).tr (xFr.of (S := [53, 54, 52, 51]) hb192 (by decide))).tr (xFr.of (S := [53, 54, 52, 51]) hb200 (by decide))) (List.forall_mem_cons.mpr ⟨xqu53 (show cpJ 6 26 (wget w198 53) from ⟨_, (((hr175.but hb185 (by decide)).but hb192 (by decide)).but hb200 (by decide))⟩), List.forall_mem_cons.mpr ⟨xqu54 (show cpJ 6 27 (wget w198 54) from ⟨_, ((hr184.but hb192 (by decide)).but hb200 (by decide))⟩), List.forall_mem_cons.mpr ⟨xqu52 (show cpI 6 25 5 (wget w198 52) from ⟨_, (hr191.but hb200 (by decide)), hb197⟩), List.forall_mem_cons.mpr ⟨xqu51 (show cpI 6 24 4294967295 (wget w198 51) from ⟨_, hr199, hb205⟩), fun _ h => absurd h List.not_mem_nil⟩⟩⟩⟩)) ((hF31.tr ((((((xFr.of (S := [51, 52, 53, 54, 55]) hb140 (by decide)).tr (xFr.of (S := [51, 52, 53, 54, 55]) hb147 (by decide))).tr (xFr.of (S := [51, 52, 53, 54, 55]) hb176 (by decide))).tr (xFr.of (S := [51, 52, 53, 54, 55]) hb185 (by decide))).tr (xFr.of (S := [51, 52, 53, 54, 55]) hb192 (by decide))).tr (xFr.of (S := [51, 52, 53, 54, 55]) hb200 (by decide))))) (⟨hst213, ⟨by omega, by omega⟩, fun _ => hfs210.symm, by omega⟩)
          · refine xg_t (xg_icT (u := z133) (v := 1) rfl xnm0 xnm0 (xj_neT hc137)) ?_
            refine xg_t (xg_blq rfl) ?_
            refine xg_t (xg_aload (va := (2, 49)) rfl rfl) ?_
            refine xg_t (xg_getf (va := (2, 3)) (hF31.get (by decide) h49_5) rfl) ?_
            refine xg_t (xg_getf (va := (2, 4)) (hF31.get (by decide) h3_16) rfl) ?_
            refine xg_t (xg_aload (va := (2, 49)) rfl rfl) ?_
            refine xg_t (xg_getf (va := (2, 50)) (hF31.get (by decide) h49_5) rfl) ?_
            refine xg_t (xg_iload (va := (0, pl)) rfl rfl) ?_
            refine xg_ialdB (n := pl) (B := 4294967295) (h50_24.fr hF31 (by decide)) (hb25) xnm0 (by omega) (fun u215 hu216 he217 => ?_)
            have hu218 : rwv w 50 pl = u215 := (rwv_of h50_24 (by omega)).trans he217
            have hl219 : u215 < f4_17 := by have q := (hb pl (by omega)).1; omega
            refine xg_t (xg_const) ?_
            refine xg_kE (xg_cVr mX5_get (vs := [(0, u215), (0, 0)]) (rest := []) (rs := [(0, g5_20 (u215 * 4 + 0))]) (cn1 := 0) (sl1 := 0) rfl (rgetX (lim := 6) (wd := 4) (sz := f4_17) (hF31.get (by decide) h4_19) (h5_21.fr hF31 (by decide)) (by decide) (by omega) (by decide) (by decide) (by omega) (by decide)) rfl (hF31.get (by decide) h4_19) rfl rfl rfl rfl rfl rfl rfl) (Nat.lt_succ_of_le ((hb22) _)) (fun z220 hz221 he222 => ?_)
            have hT223 : bT (rwv w 5) (rwv w 50) pl = z220 := by
              show rwv w 5 (4 * rwv w 50 pl) = z220
              rw [hu218, rwv_of (j := 4 * u215) h5_21 (by omega), show 4 * u215 = u215 * 4 + 0 by omega]
              exact he222
            have hl224 : z220 ≤ 99 := by have q := (hb pl (by omega)).2.1; omega
            refine xg_t (xg_istore (l1 := [(0, (2, 49)), (1, (0, f4_17)), (2, (0, he)), (3, (0, sa)), (4, (0, pl))]) rfl rfl rfl) ?_
            refine xg_t (xg_iload (va := (0, z220)) rfl rfl) ?_
            refine xg_t (xg_i2l (u := z220) xnm0) ?_
            refine xg_t (xg_lre (b := z220) (by rw [xlp_eq]; exact nI_l (by omega))) ?_
            refine xg_t (xg_aload (va := (2, 49)) rfl rfl) ?_
            refine xg_t (xg_getf (va := (2, 3)) (hF31.get (by decide) h49_5) rfl) ?_
            refine xg_t (xg_getf (va := (2, 4)) (hF31.get (by decide) h3_16) rfl) ?_
            refine xg_t (xg_aload (va := (2, 49)) rfl rfl) ?_
            refine xg_t (xg_getf (va := (2, 50)) (hF31.get (by decide) h49_5) rfl) ?_
            refine xg_t (xg_iload (va := (0, pl)) rfl rfl) ?_
            refine xg_ialdB (n := pl) (B := 4294967295) (h50_24.fr hF31 (by decide)) (hb25) xnm0 (by omega) (fun u225 hu226 he227 => ?_)
            have hu228 : rwv w 50 pl = u225 := (rwv_of h50_24 (by omega)).trans he227
            have hl229 : u225 < f4_17 := by have q := (hb pl (by omega)).1; omega
            refine xg_t (xg_const) ?_
            refine xg_kE (xg_cVr mX5_get (vs := [(0, u225), (0, 1)]) (rest := [(4, z220)]) (rs := [(0, g5_20 (u225 * 4 + 1)), (4, z220)]) (cn1 := 0) (sl1 := 0) rfl (rgetX (lim := 6) (wd := 4) (sz := f4_17) (hF31.get (by decide) h4_19) (h5_21.fr hF31 (by decide)) (by decide) (by omega) (by decide) (by decide) (by omega) (by decide)) rfl (hF31.get (by decide) h4_19) rfl rfl rfl rfl rfl rfl rfl) (Nat.lt_succ_of_le ((hb22) _)) (fun z230 hz231 he232 => ?_)
            have hT233 : bS (rwv w 5) (rwv w 50) pl = z230 := by
              show rwv w 5 (4 * rwv w 50 pl + 1) = z230
              rw [hu228, rwv_of (j := 4 * u225 + 1) h5_21 (by omega), show 4 * u225 + 1 = u225 * 4 + 1 by omega]
              exact he232
            have hl234 : z230 ≤ 99 := by have q := (hb pl (by omega)).2.2; omega
            refine xg_t (xg_i2l (u := z230) xnm0) ?_
            refine xg_t (xg_lre (b := z230) (by rw [xlp_eq]; exact nI_l (by omega))) ?_
            refine xg_t (xg_lmul (u := z220) (v := z230)) ?_
            refine xg_t (xg_lre (b := z220 * z230) (by rw [xlp_eq]; exact lN_mul _ _)) ?_
            refine xg_t (xg_lstore (l1 := [(5, (0, z220)), (0, (2, 49)), (1, (0, f4_17)), (2, (0, he)), (3, (0, sa)), (4, (0, pl))]) rfl rfl) ?_
            refine xg_t (xg_aload (va := (2, 49)) rfl rfl) ?_
            refine xg_t (xg_getf (va := (2, 53)) (hF31.get (by decide) h49_5) rfl) ?_
            refine xg_t (xg_iload (va := (0, sa)) rfl rfl) ?_
            refine xg_t (xg_dup2 rfl) ?_
            obtain ⟨l235, hz236⟩ : ∃ z, g53_48 sa = z := ⟨_, rfl⟩
            refine xg_t (xg_lald (n := sa) h53_49 xnm0 (by omega) hz236) ?_
            refine xg_t (xg_lload (u := z220 * z230) rfl) ?_
            refine xg_t (xg_const) ?_
            refine xg_t (xg_iload (va := (0, he)) rfl rfl) ?_
            refine xg_t (xg_imul (u := 2) (v := he) (z := 2 * he) xnm0 xnm0 (by omega)) ?_
            refine xg_t (xg_iload (va := (0, z220)) rfl rfl) ?_
            refine xg_t (xg_iadd (u := 2 * he) (v := z220) (z := (2 * he) + z220) xnm0 xnm0 (by omega)) ?_
            refine xg_t (xg_i2l (u := (2 * he) + z220) xnm0) ?_
            refine xg_t (xg_lre (b := (2 * he) + z220) (by rw [xlp_eq]; exact nI_l (by omega))) ?_
            refine xg_t (xg_lmul (u := z220 * z230) (v := (2 * he) + z220)) ?_
            refine xg_t (xg_lre (b := (z220 * z230) * ((2 * he) + z220)) (by rw [xlp_eq]; exact lN_mul _ _)) ?_
            refine xg_t (xg_ladd (u := l235) (v := (z220 * z230) * ((2 * he) + z220))) ?_
            refine xg_t (xg_lre (b := l235 + ((z220 * z230) * ((2 * he) + z220))) (by rw [xlp_eq]; exact lN_add _ _)) ?_
            refine xg_last (n := sa) (u := l235 + ((z220 * z230) * ((2 * he) + z220))) h53_49 xnm0 (by omega) (fun w237 hr238 hb239 => ?_)
            obtain ⟨g240, hg241⟩ : ∃ g : Nat → Nat, g = (fun j => if j = sa then l235 + ((z220 * z230) * ((2 * he) + z220)) else g53_48 j) := ⟨_, rfl⟩
            rw [← hg241] at hr238
            have he242 : g240 sa = l235 + ((z220 * z230) * ((2 * he) + z220)) := by rw [hg241]; exact if_pos rfl
            have hk243 : ∀ j, j ≠ sa → g240 j = g53_48 j := fun j hj => by rw [hg241]; exact if_neg hj
            refine xg_t (xg_aload (va := (2, 49)) rfl rfl) ?_
            refine xg_t (xg_getf (va := (2, 54)) (hb239.get (by decide) (hF31.get (by decide) h49_5)) rfl) ?_
            refine xg_t (xg_iload (va := (0, sa)) rfl rfl) ?_
            refine xg_t (xg_dup2 rfl) ?_
            obtain ⟨l244, hz245⟩ : ∃ z, g54_51 sa = z := ⟨_, rfl⟩
            refine xg_t (xg_lald (n := sa) (h54_52.but hb239 (by decide)) xnm0 (by omega) hz245) ?_
            refine xg_t (xg_ldc2) ?_
            refine xg_t (xg_lload (u := z220 * z230) rfl) ?_
            refine xg_t (xg_lmul (u := 2) (v := z220 * z230)) ?_
            refine xg_t (xg_lre (b := 2 * (z220 * z230)) (by rw [xlp_eq]; exact lN_mul _ _)) ?_
            refine xg_t (xg_ladd (u := l244) (v := 2 * (z220 * z230))) ?_
            refine xg_t (xg_lre (b := l244 + (2 * (z220 * z230))) (by rw [xlp_eq]; exact lN_add _ _)) ?_
            refine xg_last (n := sa) (u := l244 + (2 * (z220 * z230))) (h54_52.but hb239 (by decide)) xnm0 (by omega) (fun w246 hr247 hb248 => ?_)
            obtain ⟨g249, hg250⟩ : ∃ g : Nat → Nat, g = (fun j => if j = sa then l244 + (2 * (z220 * z230)) else g54_51 j) := ⟨_, rfl⟩
            rw [← hg250] at hr247
            have he251 : g249 sa = l244 + (2 * (z220 * z230)) := by rw [hg250]; exact if_pos rfl
            have hk252 : ∀ j, j ≠ sa → g249 j = g54_51 j := fun j hj => by rw [hg250]; exact if_neg hj
            refine xg_t (xg_aload (va := (2, 49)) rfl rfl) ?_
            refine xg_t (xg_getf (va := (2, 52)) (hb248.get (by decide) (hb239.get (by decide) (hF31.get (by decide) h49_5))) rfl) ?_
            refine xg_t (xg_iload (va := (0, pl)) rfl rfl) ?_
            refine xg_t (xg_iload (va := (0, sa)) rfl rfl) ?_
            refine xg_iastK (n := pl) (u := sa) ((h52_46.but hb239 (by decide)).but hb248 (by decide)) xnm0 xnm0 rfl (by omega) (fun w253 hr254 hb255 => ?_)
            obtain ⟨g256, hg257⟩ : ∃ g : Nat → Nat, g = (fun j => if j = pl then sa else g52_45 j) := ⟨_, rfl⟩
            rw [← hg257] at hr254
            have he258 : g256 pl = sa := by rw [hg257]; exact if_pos rfl
            have hk259 : ∀ j, j ≠ pl → g256 j = g52_45 j := fun j hj => by rw [hg257]; exact if_neg hj
            have hb260 : ∀ j, g256 j ≤ 5 := fun j => by rw [hg257]; exact xrb (by omega) (hb47) j
            refine xg_t (xg_aload (va := (2, 49)) rfl rfl) ?_
            refine xg_t (xg_getf (va := (2, 51)) (hb255.get (by decide) (hb248.get (by decide) (hb239.get (by decide) (hF31.get (by decide) h49_5)))) rfl) ?_
            refine xg_t (xg_iload (va := (0, pl)) rfl rfl) ?_
            refine xg_t (xg_iload (va := (0, he)) rfl rfl) ?_
            refine xg_iastK (n := pl) (u := he) (((h51_43.but hb239 (by decide)).but hb248 (by decide)).but hb255 (by decide)) xnm0 xnm0 rfl (by omega) (fun w261 hr262 hb263 => ?_)
            obtain ⟨g264, hg265⟩ : ∃ g : Nat → Nat, g = (fun j => if j = pl then he else g51_42 j) := ⟨_, rfl⟩
            rw [← hg265] at hr262
            have he266 : g264 pl = he := by rw [hg265]; exact if_pos rfl
            have hk267 : ∀ j, j ≠ pl → g264 j = g51_42 j := fun j hj => by rw [hg265]; exact if_neg hj
            have hb268 : ∀ j, g264 j ≤ 4294967295 := fun j => by rw [hg265]; exact xrb (by omega) (hb44) j
            refine xg_t (xg_iload (va := (0, he)) rfl rfl) ?_
            refine xg_t (xg_iload (va := (0, z220)) rfl rfl) ?_
            refine xg_t (xg_iadd (u := he) (v := z220) (z := he + z220) xnm0 xnm0 (by omega)) ?_
            refine xg_t (xg_istore (l1 := [(6, (4, z220 * z230)), (5, (0, z220)), (0, (2, 49)), (1, (0, f4_17)), (3, (0, sa)), (4, (0, pl))]) rfl rfl rfl) ?_
            refine xg_t (xg_iinc (u := pl) (z := pl + 1) (l1 := [(2, (0, he + z220)), (6, (4, z220 * z230)), (5, (0, z220)), (0, (2, 49)), (1, (0, f4_17)), (3, (0, sa))]) rfl rfl (by omega) rfl) ?_
            refine xg_t (xg_goto) ?_
            refine xg_t (xg_drop (l1 := [(0, (2, 49)), (1, (0, f4_17)), (2, (0, he + z220)), (3, (0, sa)), (4, (0, pl + 1))]) (List.forall_mem_cons.mpr ⟨List.mem_cons_of_mem _ (List.mem_cons_of_mem _ (List.mem_cons_of_mem _ (List.mem_cons_of_mem _ (List.mem_cons_self)))), List.forall_mem_cons.mpr ⟨List.mem_cons_of_mem _ (List.mem_cons_of_mem _ (List.mem_cons_of_mem _ (List.mem_cons_of_mem _ (List.mem_cons_of_mem _ (List.mem_cons_self))))), List.forall_mem_cons.mpr ⟨List.mem_cons_of_mem _ (List.mem_cons_self), List.forall_mem_cons.mpr ⟨List.mem_cons_of_mem _ (List.mem_cons_of_mem _ (List.mem_cons_of_mem _ (List.mem_cons_of_mem _ (List.mem_cons_of_mem _ (List.mem_cons_of_mem _ (List.mem_cons_self)))))), List.forall_mem_cons.mpr ⟨List.mem_cons_self, fun _ h => absurd h List.not_mem_nil⟩⟩⟩⟩⟩)) ?_
            have ht269 : (z220 * z230) * ((2 * he) + z220) = bt1 (rwv w 5) (rwv w 50) pl := by
              unfold bt1
              rw [hT223, hT233, ← hh38]
            have ht270 : 2 * (z220 * z230) = bt2 (rwv w 5) (rwv w 50) pl := by
              unfold bt2
              rw [hT223, hT233]
            have hsa271 : sa = bfs (rwv w 5) (pl - 1) := hs40 (by omega)
            have hz272 : l235 = bA (rwv w 5) (bt1 (rwv w 5) (rwv w 50)) pl (bfs (rwv w 5) (pl - 1)) := by
              have q := (hq37 (pl - 1) (by omega)).2.2.1
              rw [← hsa271] at q ⊢
              exact hz236.symm.trans ((rwk_of h53_49 (by omega)).symm.trans q)
            have hz273 : l244 = bA (rwv w 5) (bt2 (rwv w 5) (rwv w 50)) pl (bfs (rwv w 5) (pl - 1)) := by
              have q := (hq37 (pl - 1) (by omega)).2.2.2
              rw [← hsa271] at q ⊢
              exact hz245.symm.trans ((rwk_of h54_52 (by omega)).symm.trans q)
            have hbs275 := bs_n (r := (rwv w 5)) (f := (bt1 (rwv w 5) (rwv w 50))) (p := pl) (z := l235) (t := (z220 * z230) * ((2 * he) + z220)) (by omega) (by rw [hT136]; omega) hz272 ht269
            have hbs276 := bs_n (r := (rwv w 5)) (f := (bt2 (rwv w 5) (rwv w 50))) (p := pl) (z := l244) (t := 2 * (z220 * z230)) (by omega) (by rw [hT136]; omega) hz273 ht270
            have hfs274 : bfs (rwv w 5) pl = sa := hbs275.2.trans hsa271.symm
            have hst277 := bd_step (r := (rwv w 5)) (o := (rwv w 50)) (p := pl) (F := rwv w29 52) (H := rwv w29 51) (O := rwk w29 53) (U := rwk w29 54) (F' := rwv w261 52) (H' := rwv w261 51) (O' := rwk w261 53) (U' := rwk w261 54) hq37 ((rwv_of (hr254.but hb263 (by decide)) (by omega)).trans (he258.trans hfs274.symm)) (fun q hq => by rw [rwv_of (j := q) (hr254.but hb263 (by decide)) (by omega), hk259 q (by omega), ← rwv_of (j := q) h52_46 (by omega)]) ((rwv_of hr262 (by omega)).trans (he266.trans hh38)) (fun q hq => by rw [rwv_of (j := q) hr262 (by omega), hk267 q (by omega), ← rwv_of (j := q) h51_43 (by omega)]) (by rw [hfs274]; exact (rwk_of (((hr238.but hb248 (by decide)).but hb255 (by decide)).but hb263 (by decide)) (by omega)).trans (he242.trans hbs275.1)) (fun s hs hn => by rw [hfs274] at hn; rw [rwk_of (j := s) (((hr238.but hb248 (by decide)).but hb255 (by decide)).but hb263 (by decide)) (by omega), hk243 s hn, ← rwk_of (j := s) h53_49 (by omega)]) (by rw [hfs274]; exact (rwk_of ((hr247.but hb255 (by decide)).but hb263 (by decide)) (by omega)).trans (he251.trans hbs276.1)) (fun s hs hn => by rw [hfs274] at hn; rw [rwk_of (j := s) ((hr247.but hb255 (by decide)).but hb263 (by decide)) (by omega), hk252 s hn, ← rwk_of (j := s) h54_52 (by omega)])
            have hp278 : bhg (rwv w 5) (rwv w 50) (pl + 1) = bhg (rwv w 5) (rwv w 50) pl + bT (rwv w 5) (rwv w 50) pl := rfl
            exact ih27 (he + z220) sa (pl + 1) w261 (by omega) (by omega) (by omega) (by omega) (xInv.up (S := [53, 54, 52, 51]) hI30 ((((xFr.of (S := [53, 54, 52, 51]) hb239 (by decide)).tr (xFr.of (S := [53, 54, 52, 51]) hb248 (by decide))).tr (xFr.of (S := [53, 54, 52, 51]) hb255 (by decide))).tr (xFr.of (S := [53, 54, 52, 51]) hb263 (by decide))) (List.forall_mem_cons.mpr ⟨xqu53 (show cpJ 6 26 (wget w261 53) from ⟨_, (((hr238.but hb248 (by decide)).but hb255 (by decide)).but hb263 (by decide))⟩), List.forall_mem_cons.mpr ⟨xqu54 (show cpJ 6 27 (wget w261 54) from ⟨_, ((hr247.but hb255 (by decide)).but hb263 (by decide))⟩), List.forall_mem_cons.mpr ⟨xqu52 (show cpI 6 25 5 (wget w261 52) from ⟨_, (hr254.but hb263 (by decide)), hb260⟩), List.forall_mem_cons.mpr ⟨xqu51 (show cpI 6 24 4294967295 (wget w261 51) from ⟨_, hr262, hb268⟩), fun _ h => absurd h List.not_mem_nil⟩⟩⟩⟩)) ((hF31.tr ((((xFr.of (S := [51, 52, 53, 54, 55]) hb239 (by decide)).tr (xFr.of (S := [51, 52, 53, 54, 55]) hb248 (by decide))).tr (xFr.of (S := [51, 52, 53, 54, 55]) hb255 (by decide))).tr (xFr.of (S := [51, 52, 53, 54, 55]) hb263 (by decide))))) (⟨hst277, ⟨by omega, by omega⟩, fun _ => hfs274.symm, by omega⟩)
      · refine xg_t (xg_icT (u := pl) (v := f4_17) rfl xnm0 xnm0 (xj_geT (by omega) (by omega))) ?_
        refine xg_t (xg_blq rfl) ?_
        refine xg_t (xg_const) ?_
        refine xg_t (xg_istore (l1 := [(0, (2, 49)), (1, (0, f4_17)), (2, (0, he)), (3, (0, sa))]) rfl rfl rfl) ?_
        refine xg_t (xg_drop (l1 := [(0, (2, 49)), (1, (0, f4_17)), (2, (0, he)), (3, (0, sa)), (4, (0, 0))]) (List.forall_mem_cons.mpr ⟨List.mem_cons_of_mem _ (List.mem_cons_self), List.forall_mem_cons.mpr ⟨List.mem_cons_of_mem _ (List.mem_cons_of_mem _ (List.mem_cons_self)), List.forall_mem_cons.mpr ⟨List.mem_cons_of_mem _ (List.mem_cons_of_mem _ (List.mem_cons_of_mem _ (List.mem_cons_self))), List.forall_mem_cons.mpr ⟨List.mem_cons_of_mem _ (List.mem_cons_of_mem _ (List.mem_cons_of_mem _ (List.mem_cons_of_mem _ (List.mem_cons_self)))), List.forall_mem_cons.mpr ⟨List.mem_cons_self, fun _ h => absurd h List.not_mem_nil⟩⟩⟩⟩⟩)) ?_
        have hpn285 : pl = f4_17 := by omega
        have hq286 := hq37
        rw [hpn285] at hq286
        have key279 : ∀ (m281 : Nat) (pm : Nat) (w282 : List (List xE)), 6 - pm < m281 → pm ≤ 6 → xInv w282 → xFr [51, 52, 53, 54, 55] w w282 → (∀ q, q < f4_17 → rwv w282 52 q = bfs (rwv w 5) q ∧ rwv w282 51 q = bhg (rwv w 5) (rwv w 50) q ∧ rwk w282 53 (bfs (rwv w 5) q) = bA (rwv w 5) (bt1 (rwv w 5) (rwv w 50)) f4_17 (bfs (rwv w 5) q) ∧ rwk w282 54 (bfs (rwv w 5) q) = bA (rwv w 5) (bt2 (rwv w 5) (rwv w 50)) f4_17 (bfs (rwv w 5) q)) ∧ (∀ q, q < pm → lN (rwk w282 55 q) = bfr (rwv w 5) (rwv w 50) f4_17 q) ∧ pm ≤ f4_17 → xTo (d + 2) mX0_lay (174, [], [(0, (2, 49)), (1, (0, f4_17)), (2, (0, he)), (3, (0, sa)), (4, (0, pm))], [], (w282, bd, fc, 0, 0, rr)) (fun φ => ∃ w', xEnd 0 [] (w', bd, fc, 0, 0, rr) φ ∧ xInv w' ∧ xFr [51, 52, 53, 54, 55] w w' ∧ (∀ q, q < fld w 4 3 → rwv w' 52 q = bfs (rwv w 5) q ∧ rwv w' 51 q = bhg (rwv w 5) (rwv w 50) q ∧ rwk w' 53 (bfs (rwv w 5) q) = bO (rwv w 5) (rwv w 50) (fld w 4 3) q ∧ rwk w' 54 (bfs (rwv w 5) q) = bU (rwv w 5) (rwv w 50) (fld w 4 3) q ∧ lN (rwk w' 55 q) = bfr (rwv w 5) (rwv w 50) (fld w 4 3) q)) := by
          intro m281
          induction m281 with
          | zero => intro pm w282 hz; exact absurd hz (Nat.not_lt_zero _)
          | succ m281 ih280 =>
            intro pm w282 hm289 hn287 hI283 hF284 he288
            obtain ⟨hq290, hf291, hn292⟩ := he288
            refine xoI (xqc51 hI283 : cpI 6 24 4294967295 (wget w282 51)) (fun g51_293 h51_294 hb295 => ?_)
            refine xoI (xqc52 hI283 : cpI 6 25 5 (wget w282 52)) (fun g52_296 h52_297 hb298 => ?_)
            obtain ⟨g53_299, h53_300⟩ := (xqc53 hI283 : cpJ 6 26 (wget w282 53))
            have h53_300 : xRk 3 4 w282 53 6 26 g53_299 := h53_300
            obtain ⟨g54_302, h54_303⟩ := (xqc54 hI283 : cpJ 6 27 (wget w282 54))
            have h54_303 : xRk 3 4 w282 54 6 27 g54_302 := h54_303
            obtain ⟨g55_305, h55_306⟩ := (xqc55 hI283 : cpJ 6 28 (wget w282 55))
            have h55_306 : xRk 3 4 w282 55 6 28 g55_305 := h55_306
            refine xg_t (xg_blq rfl) ?_
            refine xg_t (xg_iload (va := (0, pm)) rfl rfl) ?_
            refine xg_t (xg_iload (va := (0, f4_17)) rfl rfl) ?_
            by_cases hc308 : pm < f4_17
            · refine xg_t (xg_icF (u := pm) (v := f4_17) rfl xnm0 xnm0 (xj_geF hc308 (by omega))) ?_
              refine xg_t (xg_aload (va := (2, 49)) rfl rfl) ?_
              refine xg_t (xg_getf (va := (2, 51)) (hF284.get (by decide) h49_5) rfl) ?_
              refine xg_t (xg_iload (va := (0, pm)) rfl rfl) ?_
              refine xg_ialdB (n := pm) (B := 4294967295) h51_294 (hb295) xnm0 (by omega) (fun u309 hu310 he311 => ?_)
              have hB312 : bhg (rwv w 5) (rwv w 50) pm = u309 := (hq290 pm (by omega)).2.1.symm.trans ((rwv_of h51_294 (by omega)).trans he311)
              have hl313 : u309 ≤ 594 := by have q := bhg_le (r := (rwv w 5)) (o := (rwv w 50)) (p := pm) (fun q h => (hb q (by omega)).2.1); omega
              refine xg_t (xg_i2l (u := u309) xnm0) ?_
              refine xg_t (xg_lre (b := u309) (by rw [xlp_eq]; exact nI_l (by omega))) ?_
              refine xg_t (xg_aload (va := (2, 49)) rfl rfl) ?_
              refine xg_t (xg_getf (va := (2, 54)) (hF284.get (by decide) h49_5) rfl) ?_
              refine xg_t (xg_aload (va := (2, 49)) rfl rfl) ?_
              refine xg_t (xg_getf (va := (2, 52)) (hF284.get (by decide) h49_5) rfl) ?_
              refine xg_t (xg_iload (va := (0, pm)) rfl rfl) ?_
              refine xg_ialdB (n := pm) (B := 5) h52_297 (hb298) xnm0 (by omega) (fun u314 hu315 he316 => ?_)
              have hf317 : bfs (rwv w 5) pm = u314 := (hq290 pm (by omega)).1.symm.trans ((rwv_of h52_297 (by omega)).trans he316)
              obtain ⟨l318, hz319⟩ : ∃ z, g54_302 u314 = z := ⟨_, rfl⟩
              refine xg_t (xg_lald (n := u314) h54_303 xnm0 (by omega) hz319) ?_
              have hU320 : bU (rwv w 5) (rwv w 50) f4_17 pm = l318 := by
                have q := (hq290 pm (by omega)).2.2.2
                rw [hf317, rwk_of (j := u314) h54_303 (by omega), hz319] at q
                unfold bU
                rw [hf317]
                exact q.symm
              refine xg_t (xg_lmul (u := u309) (v := l318)) ?_
              refine xg_t (xg_lre (b := u309 * l318) (by rw [xlp_eq]; exact lN_mul _ _)) ?_
              refine xg_t (xg_aload (va := (2, 49)) rfl rfl) ?_
              refine xg_t (xg_getf (va := (2, 53)) (hF284.get (by decide) h49_5) rfl) ?_
              refine xg_t (xg_aload (va := (2, 49)) rfl rfl) ?_
              refine xg_t (xg_getf (va := (2, 52)) (hF284.get (by decide) h49_5) rfl) ?_
              refine xg_t (xg_iload (va := (0, pm)) rfl rfl) ?_
              refine xg_ialdB (n := pm) (B := 5) h52_297 (hb298) xnm0 (by omega) (fun u321 hu322 he323 => ?_)
              have hf324 : bfs (rwv w 5) pm = u321 := (hq290 pm (by omega)).1.symm.trans ((rwv_of h52_297 (by omega)).trans he323)
              obtain ⟨l325, hz326⟩ : ∃ z, g53_299 u321 = z := ⟨_, rfl⟩
              refine xg_t (xg_lald (n := u321) h53_300 xnm0 (by omega) hz326) ?_
              have hU327 : bO (rwv w 5) (rwv w 50) f4_17 pm = l325 := by
                have q := (hq290 pm (by omega)).2.2.1
                rw [hf324, rwk_of (j := u321) h53_300 (by omega), hz326] at q
                unfold bO
                rw [hf324]
                exact q.symm
              refine xg_klE (xg_lsub (u := u309 * l318) (v := l325)) (fun l328 hz329 => ?_)
              refine xg_t (xg_lstore (l1 := [(0, (2, 49)), (1, (0, f4_17)), (2, (0, he)), (3, (0, sa)), (4, (0, pm))]) rfl rfl) ?_
              refine xg_t (xg_lload (u := l328) rfl) ?_
              refine xg_t (xg_aload (va := (2, 49)) rfl rfl) ?_
              refine xg_t (xg_getf (va := (2, 3)) (hF284.get (by decide) h49_5) rfl) ?_
              refine xg_t (xg_getf (va := (2, 4)) (hF284.get (by decide) h3_16) rfl) ?_
              refine xg_t (xg_aload (va := (2, 49)) rfl rfl) ?_
              refine xg_t (xg_getf (va := (2, 50)) (hF284.get (by decide) h49_5) rfl) ?_
              refine xg_t (xg_iload (va := (0, pm)) rfl rfl) ?_
              refine xg_ialdB (n := pm) (B := 4294967295) (h50_24.fr hF284 (by decide)) (hb25) xnm0 (by omega) (fun u330 hu331 he332 => ?_)
              have hu333 : rwv w 50 pm = u330 := (rwv_of h50_24 (by omega)).trans he332
              have hl334 : u330 < f4_17 := by have q := (hb pm (by omega)).1; omega
              refine xg_t (xg_const) ?_
              refine xg_kE (xg_cVr mX5_get (vs := [(0, u330), (0, 0)]) (rest := [(4, l328)]) (rs := [(0, g5_20 (u330 * 4 + 0)), (4, l328)]) (cn1 := 0) (sl1 := 0) rfl (rgetX (lim := 6) (wd := 4) (sz := f4_17) (hF284.get (by decide) h4_19) (h5_21.fr hF284 (by decide)) (by decide) (by omega) (by decide) (by decide) (by omega) (by decide)) rfl (hF284.get (by decide) h4_19) rfl rfl rfl rfl rfl rfl rfl) (Nat.lt_succ_of_le ((hb22) _)) (fun z335 hz336 he337 => ?_)
              have hT338 : bT (rwv w 5) (rwv w 50) pm = z335 := by
                show rwv w 5 (4 * rwv w 50 pm) = z335
                rw [hu333, rwv_of (j := 4 * u330) h5_21 (by omega), show 4 * u330 = u330 * 4 + 0 by omega]
                exact he337
              have hl339 : z335 ≤ 99 := by have q := (hb pm (by omega)).2.1; omega
              refine xg_t (xg_i2l (u := z335) xnm0) ?_
              refine xg_t (xg_lre (b := z335) (by rw [xlp_eq]; exact nI_l (by omega))) ?_
              refine xg_t (xg_aload (va := (2, 49)) rfl rfl) ?_
              refine xg_t (xg_getf (va := (2, 54)) (hF284.get (by decide) h49_5) rfl) ?_
              refine xg_t (xg_aload (va := (2, 49)) rfl rfl) ?_
              refine xg_t (xg_getf (va := (2, 52)) (hF284.get (by decide) h49_5) rfl) ?_
              refine xg_t (xg_iload (va := (0, pm)) rfl rfl) ?_
              refine xg_ialdB (n := pm) (B := 5) h52_297 (hb298) xnm0 (by omega) (fun u340 hu341 he342 => ?_)
              have hf343 : bfs (rwv w 5) pm = u340 := (hq290 pm (by omega)).1.symm.trans ((rwv_of h52_297 (by omega)).trans he342)
              obtain ⟨l344, hz345⟩ : ∃ z, g54_302 u340 = z := ⟨_, rfl⟩
              refine xg_t (xg_lald (n := u340) h54_303 xnm0 (by omega) hz345) ?_
              have hU346 : bU (rwv w 5) (rwv w 50) f4_17 pm = l344 := by
                have q := (hq290 pm (by omega)).2.2.2
                rw [hf343, rwk_of (j := u340) h54_303 (by omega), hz345] at q
                unfold bU
                rw [hf343]
                exact q.symm
              refine xg_t (xg_lmul (u := z335) (v := l344)) ?_
              refine xg_t (xg_lre (b := z335 * l344) (by rw [xlp_eq]; exact lN_mul _ _)) ?_
              refine xg_klE (xg_ladd (u := l328) (v := z335 * l344)) (fun l347 hz348 => ?_)
              refine xg_t (xg_lstore (l1 := [(5, (4, l328)), (0, (2, 49)), (1, (0, f4_17)), (2, (0, he)), (3, (0, sa)), (4, (0, pm))]) rfl rfl) ?_
              refine xg_t (xg_aload (va := (2, 49)) rfl rfl) ?_
              refine xg_t (xg_getf (va := (2, 55)) (hF284.get (by decide) h49_5) rfl) ?_
              refine xg_t (xg_iload (va := (0, pm)) rfl rfl) ?_
              refine xg_t (xg_lload (u := l347) rfl) ?_
              refine xg_klE (xg_labs (u := l347) (Nat.zero_le _) (Nat.zero_le _) (Nat.le_of_ble_eq_true rfl)) (fun l349 hz350 => ?_)
              refine xg_t (xg_lload (u := l328) rfl) ?_
              refine xg_klE (xg_labs (u := l328) (Nat.zero_le _) (Nat.zero_le _) (Nat.le_of_ble_eq_true rfl)) (fun l351 hz352 => ?_)
              refine xg_t (xg_lcmp (u := l349) (v := l351)) ?_
              by_cases hc353 : lN l349 < lN l351
              · refine xg_t (xg_ifT (u := xpt (lg_cmp (lN l349) (lN l351))) rfl xnm0 (xlj_ltT hc353)) ?_
                refine xg_t (xg_blq rfl) ?_
                refine xg_t (xg_lload (u := l328) rfl) ?_
                refine xg_t (xg_blq rfl) ?_
                refine xg_last (n := pm) (u := l328) h55_306 xnm0 (by omega) (fun w354 hr355 hb356 => ?_)
                obtain ⟨g357, hg358⟩ : ∃ g : Nat → Nat, g = (fun j => if j = pm then l328 else g55_305 j) := ⟨_, rfl⟩
                rw [← hg358] at hr355
                have he359 : g357 pm = l328 := by rw [hg358]; exact if_pos rfl
                have hk360 : ∀ j, j ≠ pm → g357 j = g55_305 j := fun j hj => by rw [hg358]; exact if_neg hj
                refine xg_t (xg_iinc (u := pm) (z := pm + 1) (l1 := [(7, (4, l347)), (5, (4, l328)), (0, (2, 49)), (1, (0, f4_17)), (2, (0, he)), (3, (0, sa))]) rfl rfl (by omega) rfl) ?_
                refine xg_t (xg_goto) ?_
                refine xg_t (xg_drop (l1 := [(0, (2, 49)), (1, (0, f4_17)), (2, (0, he)), (3, (0, sa)), (4, (0, pm + 1))]) (List.forall_mem_cons.mpr ⟨List.mem_cons_of_mem _ (List.mem_cons_of_mem _ (List.mem_cons_of_mem _ (List.mem_cons_self))), List.forall_mem_cons.mpr ⟨List.mem_cons_of_mem _ (List.mem_cons_of_mem _ (List.mem_cons_of_mem _ (List.mem_cons_of_mem _ (List.mem_cons_self)))), List.forall_mem_cons.mpr ⟨List.mem_cons_of_mem _ (List.mem_cons_of_mem _ (List.mem_cons_of_mem _ (List.mem_cons_of_mem _ (List.mem_cons_of_mem _ (List.mem_cons_self))))), List.forall_mem_cons.mpr ⟨List.mem_cons_of_mem _ (List.mem_cons_of_mem _ (List.mem_cons_of_mem _ (List.mem_cons_of_mem _ (List.mem_cons_of_mem _ (List.mem_cons_of_mem _ (List.mem_cons_self)))))), List.forall_mem_cons.mpr ⟨List.mem_cons_self, fun _ h => absurd h List.not_mem_nil⟩⟩⟩⟩⟩)) ?_
                have hx361 : lN l328 = blo (rwv w 5) (rwv w 50) f4_17 pm := by
                  unfold blo
                  rw [hB312, hU320, hU327]
                  exact hz329
                have hx362 : lN l347 = bhi (rwv w 5) (rwv w 50) f4_17 pm := by
                  unfold bhi
                  rw [← hx361, hT338, hU346]
                  exact hz348
                have hx363 : lN l328 = bfr (rwv w 5) (rwv w 50) f4_17 pm := by
                  unfold bfr
                  rw [← hx362, ← hx361]
                  have q1 : lN l349 = iab (lN l347) := hz350
                  have q2 : lN l351 = iab (lN l328) := hz352
                  rw [← q1, ← q2, if_pos hc353]
                have hk364 : ∀ q, q < f4_17 → rwv w354 52 q = bfs (rwv w 5) q ∧ rwv w354 51 q = bhg (rwv w 5) (rwv w 50) q ∧ rwk w354 53 (bfs (rwv w 5) q) = bA (rwv w 5) (bt1 (rwv w 5) (rwv w 50)) f4_17 (bfs (rwv w 5) q) ∧ rwk w354 54 (bfs (rwv w 5) q) = bA (rwv w 5) (bt2 (rwv w 5) (rwv w 50)) f4_17 (bfs (rwv w 5) q) := fun q hq => by
                  rw [rwv_eq (hb356.1 52 (by decide)), rwv_eq (hb356.1 51 (by decide)), rwk_eq (hb356.1 53 (by decide)), rwk_eq (hb356.1 54 (by decide))]
                  exact hq290 q hq
                have hm365 : ∀ q, q < pm + 1 → lN (rwk w354 55 q) = bfr (rwv w 5) (rwv w 50) f4_17 q := fun q hq => by
                  by_cases e : q = pm
                  · rw [e, rwk_of (j := pm) hr355 (by omega), he359]
                    exact hx363
                  · rw [rwk_of (j := q) hr355 (by omega), hk360 q e, ← rwk_of (j := q) h55_306 (by omega)]
                    exact hf291 q (by omega)
                exact ih280 (pm + 1) w354 (by omega) (by omega) (xInv.up (S := [55]) hI283 (xFr.of (S := [55]) hb356 (by decide)) (List.forall_mem_cons.mpr ⟨xqu55 (show cpJ 6 28 (wget w354 55) from ⟨_, hr355⟩), fun _ h => absurd h List.not_mem_nil⟩)) ((hF284.tr (xFr.of (S := [51, 52, 53, 54, 55]) hb356 (by decide)))) (⟨hk364, hm365, by omega⟩)
              · refine xg_t (xg_ifF (u := xpt (lg_cmp (lN l349) (lN l351))) rfl xnm0 (xlj_ltF hc353)) ?_
                refine xg_t (xg_lload (u := l347) rfl) ?_
                refine xg_t (xg_goto) ?_
                refine xg_t (xg_blq rfl) ?_
                refine xg_last (n := pm) (u := l347) h55_306 xnm0 (by omega) (fun w366 hr367 hb368 => ?_)
                obtain ⟨g369, hg370⟩ : ∃ g : Nat → Nat, g = (fun j => if j = pm then l347 else g55_305 j) := ⟨_, rfl⟩
                rw [← hg370] at hr367
                have he371 : g369 pm = l347 := by rw [hg370]; exact if_pos rfl
                have hk372 : ∀ j, j ≠ pm → g369 j = g55_305 j := fun j hj => by rw [hg370]; exact if_neg hj
                refine xg_t (xg_iinc (u := pm) (z := pm + 1) (l1 := [(7, (4, l347)), (5, (4, l328)), (0, (2, 49)), (1, (0, f4_17)), (2, (0, he)), (3, (0, sa))]) rfl rfl (by omega) rfl) ?_
                refine xg_t (xg_goto) ?_
                refine xg_t (xg_drop (l1 := [(0, (2, 49)), (1, (0, f4_17)), (2, (0, he)), (3, (0, sa)), (4, (0, pm + 1))]) (List.forall_mem_cons.mpr ⟨List.mem_cons_of_mem _ (List.mem_cons_of_mem _ (List.mem_cons_of_mem _ (List.mem_cons_self))), List.forall_mem_cons.mpr ⟨List.mem_cons_of_mem _ (List.mem_cons_of_mem _ (List.mem_cons_of_mem _ (List.mem_cons_of_mem _ (List.mem_cons_self)))), List.forall_mem_cons.mpr ⟨List.mem_cons_of_mem _ (List.mem_cons_of_mem _ (List.mem_cons_of_mem _ (List.mem_cons_of_mem _ (List.mem_cons_of_mem _ (List.mem_cons_self))))), List.forall_mem_cons.mpr ⟨List.mem_cons_of_mem _ (List.mem_cons_of_mem _ (List.mem_cons_of_mem _ (List.mem_cons_of_mem _ (List.mem_cons_of_mem _ (List.mem_cons_of_mem _ (List.mem_cons_self)))))), List.forall_mem_cons.mpr ⟨List.mem_cons_self, fun _ h => absurd h List.not_mem_nil⟩⟩⟩⟩⟩)) ?_
                have hx373 : lN l328 = blo (rwv w 5) (rwv w 50) f4_17 pm := by
                  unfold blo
                  rw [hB312, hU320, hU327]
                  exact hz329
                have hx374 : lN l347 = bhi (rwv w 5) (rwv w 50) f4_17 pm := by
                  unfold bhi
                  rw [← hx373, hT338, hU346]
                  exact hz348
                have hx375 : lN l347 = bfr (rwv w 5) (rwv w 50) f4_17 pm := by
                  unfold bfr
                  rw [← hx374, ← hx373]
                  have q1 : lN l349 = iab (lN l347) := hz350
                  have q2 : lN l351 = iab (lN l328) := hz352
                  rw [← q1, ← q2, if_neg hc353]
                have hk376 : ∀ q, q < f4_17 → rwv w366 52 q = bfs (rwv w 5) q ∧ rwv w366 51 q = bhg (rwv w 5) (rwv w 50) q ∧ rwk w366 53 (bfs (rwv w 5) q) = bA (rwv w 5) (bt1 (rwv w 5) (rwv w 50)) f4_17 (bfs (rwv w 5) q) ∧ rwk w366 54 (bfs (rwv w 5) q) = bA (rwv w 5) (bt2 (rwv w 5) (rwv w 50)) f4_17 (bfs (rwv w 5) q) := fun q hq => by
                  rw [rwv_eq (hb368.1 52 (by decide)), rwv_eq (hb368.1 51 (by decide)), rwk_eq (hb368.1 53 (by decide)), rwk_eq (hb368.1 54 (by decide))]
                  exact hq290 q hq
                have hm377 : ∀ q, q < pm + 1 → lN (rwk w366 55 q) = bfr (rwv w 5) (rwv w 50) f4_17 q := fun q hq => by
                  by_cases e : q = pm
                  · rw [e, rwk_of (j := pm) hr367 (by omega), he371]
                    exact hx375
                  · rw [rwk_of (j := q) hr367 (by omega), hk372 q e, ← rwk_of (j := q) h55_306 (by omega)]
                    exact hf291 q (by omega)
                exact ih280 (pm + 1) w366 (by omega) (by omega) (xInv.up (S := [55]) hI283 (xFr.of (S := [55]) hb368 (by decide)) (List.forall_mem_cons.mpr ⟨xqu55 (show cpJ 6 28 (wget w366 55) from ⟨_, hr367⟩), fun _ h => absurd h List.not_mem_nil⟩)) ((hF284.tr (xFr.of (S := [51, 52, 53, 54, 55]) hb368 (by decide)))) (⟨hk376, hm377, by omega⟩)
            · refine xg_t (xg_icT (u := pm) (v := f4_17) rfl xnm0 xnm0 (xj_geT (by omega) (by omega))) ?_
              refine xg_t (xg_blq rfl) ?_
              have hk378 : ∀ q, q < fld w 4 3 → rwv w282 52 q = bfs (rwv w 5) q ∧ rwv w282 51 q = bhg (rwv w 5) (rwv w 50) q ∧ rwk w282 53 (bfs (rwv w 5) q) = bO (rwv w 5) (rwv w 50) (fld w 4 3) q ∧ rwk w282 54 (bfs (rwv w 5) q) = bU (rwv w 5) (rwv w 50) (fld w 4 3) q ∧ lN (rwk w282 55 q) = bfr (rwv w 5) (rwv w 50) (fld w 4 3) q := fun q hq => by
                rw [q43] at hq ⊢
                have a := hq290 q hq
                exact ⟨a.1, a.2.1, a.2.2.1, a.2.2.2, hf291 q (by omega)⟩
              exact xg_e ⟨w282, ⟨rfl, rfl⟩, hI283, hF284, hk378⟩
        exact key279 _ 0 w29 (Nat.lt_succ_self _) (by omega) (hI30) (hF31) (⟨hq286, fun q hq => absurd hq (Nat.not_lt_zero _), Nat.zero_le _⟩)
  exact key26 _ 0 0 0 w (Nat.lt_succ_self _) (by omega) (by omega) (by omega) (hI) (xFr.rf) (⟨fun q hq => absurd hq (Nat.not_lt_zero _), ⟨rfl, by omega⟩, fun h => absurd rfl h, by omega⟩)
theorem bdToldX (hI : xInv w) (ht : ∀ k i, k < fld w 4 3 → i < 3 → 1 ≤ rwv w 5 (4 * k + i) ∧ rwv w 5 (4 * k + i) ≤ 99) : xPq (d + 3) mX0_layAsTold [(2, 49)] w bd fc rr [] (fun w' => xInv w' ∧ xFr [50, 51, 52, 53, 54, 55] w w' ∧ ((∀ q, q < fld w 4 3 → rwv w' 52 q = bfs (rwv w 5) q ∧ rwv w' 51 q = bhg (rwv w 5) (fun q => q) q ∧ rwk w' 53 (bfs (rwv w 5) q) = bO (rwv w 5) (fun q => q) (fld w 4 3) q ∧ rwk w' 54 (bfs (rwv w 5) q) = bU (rwv w 5) (fun q => q) (fld w 4 3) q ∧ lN (rwk w' 55 q) = bfr (rwv w 5) (fun q => q) (fld w 4 3) q) ∧ ∀ q, q < 6 → rwv w' 50 q = q)) := by
  refine xPq.of ?_
  show xTo (d + 3) mX0_layAsTold (0, [], [(0, (2, 49))], [], (w, bd, fc, 0, 0, rr)) (fun φ => ∃ w', xEnd 0 [] (w', bd, fc, 0, 0, rr) φ ∧ xInv w' ∧ xFr [50, 51, 52, 53, 54, 55] w w' ∧ ((∀ q, q < fld w 4 3 → rwv w' 52 q = bfs (rwv w 5) q ∧ rwv w' 51 q = bhg (rwv w 5) (fun q => q) q ∧ rwk w' 53 (bfs (rwv w 5) q) = bO (rwv w 5) (fun q => q) (fld w 4 3) q ∧ rwk w' 54 (bfs (rwv w 5) q) = bU (rwv w 5) (fun q => q) (fld w 4 3) q ∧ lN (rwk w' 55 q) = bfr (rwv w 5) (fun q => q) (fld w 4 3) q) ∧ ∀ q, q < 6 → rwv w' 50 q = q))
  refine xoC49 (xqc49 hI : cp49 (wget w 49)) (fun f49_1 f49_3 h49_5 hb2 hb4 => ?_)
  refine xoC3 (xqc3 hI : cp3 (wget w 3)) (fun f3_6 f3_8 f3_10 f3_12 f3_14 h3_16 hb7 hb9 hb11 hb13 hb15 => ?_)
  obtain ⟨f4_17, h4_19, hb18⟩ := (xqc4 hI : cp4 (wget w 4))
  refine xoI (xqc5 hI : cpI 24 1 4294967295 (wget w 5)) (fun g5_20 h5_21 hb22 => ?_)
  have q43 : fld w 4 3 = f4_17 := fld_of h4_19
  refine xg_t (xg_blq rfl) ?_
  refine xg_t (xg_const) ?_
  refine xg_t (xg_istore (l1 := [(0, (2, 49))]) rfl rfl rfl) ?_
  refine xg_t (xg_drop (l1 := [(0, (2, 49)), (1, (0, 0))]) (List.forall_mem_cons.mpr ⟨List.mem_cons_of_mem _ (List.mem_cons_self), List.forall_mem_cons.mpr ⟨List.mem_cons_self, fun _ h => absurd h List.not_mem_nil⟩⟩)) ?_
  have key23 : ∀ (m25 : Nat) (pl : Nat) (w26 : List (List xE)), 6 - pl < m25 → pl ≤ 6 → xInv w26 → xFr [50, 51, 52, 53, 54, 55] w w26 → (∀ q, q < pl → rwv w26 50 q = q) → xTo (d + 3) mX0_layAsTold (2, [], [(0, (2, 49)), (1, (0, pl))], [], (w26, bd, fc, 0, 0, rr)) (fun φ => ∃ w', xEnd 0 [] (w', bd, fc, 0, 0, rr) φ ∧ xInv w' ∧ xFr [50, 51, 52, 53, 54, 55] w w' ∧ ((∀ q, q < fld w 4 3 → rwv w' 52 q = bfs (rwv w 5) q ∧ rwv w' 51 q = bhg (rwv w 5) (fun q => q) q ∧ rwk w' 53 (bfs (rwv w 5) q) = bO (rwv w 5) (fun q => q) (fld w 4 3) q ∧ rwk w' 54 (bfs (rwv w 5) q) = bU (rwv w 5) (fun q => q) (fld w 4 3) q ∧ lN (rwk w' 55 q) = bfr (rwv w 5) (fun q => q) (fld w 4 3) q) ∧ ∀ q, q < 6 → rwv w' 50 q = q)) := by
    intro m25
    induction m25 with
    | zero => intro pl w26 hz; exact absurd hz (Nat.not_lt_zero _)
    | succ m25 ih24 =>
      intro pl w26 hm31 hn29 hI27 hF28 he30
      refine xoI (xqc50 hI27 : cpI 6 23 4294967295 (wget w26 50)) (fun g50_32 h50_33 hb34 => ?_)
      refine xg_t (xg_blq rfl) ?_
      refine xg_t (xg_iload (va := (0, pl)) rfl rfl) ?_
      refine xg_t (xg_aload (va := (2, 49)) rfl rfl) ?_
      refine xg_t (xg_getf (va := (2, 50)) (hF28.get (by decide) h49_5) rfl) ?_
      obtain ⟨us35, ha36, ha37⟩ := id h50_33
      refine xg_t (xg_alen ha36) ?_
      by_cases hc38 : pl < 6
      · refine xg_t (xg_icF (u := pl) (v := 6) rfl xnm0 xnm0 (xj_geF hc38 (by omega))) ?_
        refine xg_t (xg_aload (va := (2, 49)) rfl rfl) ?_
        refine xg_t (xg_getf (va := (2, 50)) (hF28.get (by decide) h49_5) rfl) ?_
        refine xg_t (xg_iload (va := (0, pl)) rfl rfl) ?_
        refine xg_t (xg_iload (va := (0, pl)) rfl rfl) ?_
        refine xg_iastK (n := pl) (u := pl) h50_33 xnm0 xnm0 rfl (by omega) (fun w39 hr40 hb41 => ?_)
        obtain ⟨g42, hg43⟩ : ∃ g : Nat → Nat, g = (fun j => if j = pl then pl else g50_32 j) := ⟨_, rfl⟩
        rw [← hg43] at hr40
        have he44 : g42 pl = pl := by rw [hg43]; exact if_pos rfl
        have hk45 : ∀ j, j ≠ pl → g42 j = g50_32 j := fun j hj => by rw [hg43]; exact if_neg hj
        have hb46 : ∀ j, g42 j ≤ 4294967295 := fun j => by rw [hg43]; exact xrb (by omega) (hb34) j
        refine xg_t (xg_iinc (u := pl) (z := pl + 1) (l1 := [(0, (2, 49))]) rfl rfl (by omega) rfl) ?_
        refine xg_t (xg_goto) ?_
        refine xg_t (xg_drop (l1 := [(0, (2, 49)), (1, (0, pl + 1))]) (List.forall_mem_cons.mpr ⟨List.mem_cons_of_mem _ (List.mem_cons_self), List.forall_mem_cons.mpr ⟨List.mem_cons_self, fun _ h => absurd h List.not_mem_nil⟩⟩)) ?_
        have hk47 : ∀ q, q < pl + 1 → rwv w39 50 q = q := fun q hq => by
          by_cases e : q = pl
          · rw [e, rwv_of (j := pl) hr40 (by omega)]
            exact he44
          · rw [rwv_of (j := q) hr40 (by omega), hk45 q e, ← rwv_of (j := q) h50_33 (by omega)]
            exact he30 q (by omega)
        exact ih24 (pl + 1) w39 (by omega) (by omega) (xInv.up (S := [50]) hI27 (xFr.of (S := [50]) hb41 (by decide)) (List.forall_mem_cons.mpr ⟨xqu50 (show cpI 6 23 4294967295 (wget w39 50) from ⟨_, hr40, hb46⟩), fun _ h => absurd h List.not_mem_nil⟩)) ((hF28.tr (xFr.of (S := [50, 51, 52, 53, 54, 55]) hb41 (by decide)))) (hk47)
      · refine xg_t (xg_icT (u := pl) (v := 6) rfl xnm0 xnm0 (xj_geT (by omega) (by omega))) ?_
        refine xg_t (xg_blq rfl) ?_
        refine xg_t (xg_aload (va := (2, 49)) rfl rfl) ?_
        have e448 : fld w26 4 3 = fld w 4 3 := fld_fr hF28 (by decide)
        have e549 : rwv w26 5 = rwv w 5 := rwf_eq (hF28.1 5 (by decide))
        have hb50 : ∀ q, q < fld w26 4 3 → rwv w26 50 q < fld w26 4 3 ∧ bT (rwv w26 5) (rwv w26 50) q ≤ 99 ∧ bS (rwv w26 5) (rwv w26 50) q ≤ 99 := fun q hq => by
          rw [e448] at hq ⊢
          have q1 := ht q 0 hq (by decide)
          have q2 := ht q 1 hq (by decide)
          unfold bT bS
          rw [e549, he30 q (by omega)]
          exact ⟨hq, q1.2, q2.2⟩
        refine xg_cVv mX0_lay (vs := []) (rest := []) (cn1 := 0) (sl1 := 0) rfl (bdLayX (hI27) hb50) rfl (hF28.get (by decide) h49_5) rfl rfl rfl rfl rfl rfl (fun w51 hq52 => ?_)
        obtain ⟨hI53, hF54, hx55⟩ := hq52
        have hk56 : ∀ q, q < fld w 4 3 → rwv w51 52 q = bfs (rwv w 5) q ∧ rwv w51 51 q = bhg (rwv w 5) (fun q => q) q ∧ rwk w51 53 (bfs (rwv w 5) q) = bO (rwv w 5) (fun q => q) (fld w 4 3) q ∧ rwk w51 54 (bfs (rwv w 5) q) = bU (rwv w 5) (fun q => q) (fld w 4 3) q ∧ lN (rwk w51 55 q) = bfr (rwv w 5) (fun q => q) (fld w 4 3) q := fun q hq => by
          have a := hx55 q (by rw [e448]; exact hq)
          rw [e448, e549] at a
          have z : bEq (rwv w 5) (fun q => q) (rwv w 5) (rwv w26 50) (fld w 4 3) := ⟨fun _ _ => rfl, fun q hq => ⟨he30 q (by omega), hq⟩⟩
          rw [bhg_cg z (by omega), (bOU_cg z hq).1, (bOU_cg z hq).2, bfr_cg z hq] at a
          exact a
        have hk57 : ∀ q, q < 6 → rwv w51 50 q = q := fun q hq => (rwv_fr hF54 (by decide)).trans (he30 q (by omega))
        exact xg_e ⟨w51, ⟨rfl, rfl⟩, hI53, (hF28.tr (hF54.up (by decide))), ⟨hk56, hk57⟩⟩
  exact key23 _ 0 w (Nat.lt_succ_self _) (by omega) (hI) (xFr.rf) (fun q hq => absurd hq (Nat.not_lt_zero _))
end XBC
end
