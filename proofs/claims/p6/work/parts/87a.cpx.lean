/-! copies of what is told, to the last number -/
theorem fld_but {k c j : Nat} {w w' : List (List xE)} (h : xBut k w w') (hc : c ≠ k) : fld w' c j = fld w c j := by
  unfold fld
  rw [h.1 c hc]
theorem fld_eq {w w' : List (List xE)} {c c' j : Nat} (h : wget w' c' = wget w c) : fld w' c' j = fld w c j := by
  unfold fld
  rw [h]
theorem rwv_eq {w w' : List (List xE)} {c c' j : Nat} (h : wget w' c' = wget w c) : rwv w' c' j = rwv w c j := by
  unfold rwv
  rw [h]
/-- rows alike, as far as they go -/
def rwE (w' : List (List xE)) (D : Nat) (w : List (List xE)) (S wd : Nat) : Prop := fld w' D 3 = fld w S 3 ∧ ∀ j, j < fld w S 3 * wd → rwv w' (D + 1) j = rwv w (S + 1) j
def fmE (w' : List (List xE)) (D : Nat) (w : List (List xE)) (S : Nat) : Prop := (fld w' D 5 = fld w S 5 ∧ fld w' D 6 = fld w S 6 ∧ fld w' D 7 = fld w S 7 ∧ fld w' D 8 = fld w S 8 ∧ fld w' D 9 = fld w S 9) ∧ rwE w' (D + 1) w (S + 1) 4 ∧ rwE w' (D + 3) w (S + 3) 2 ∧ rwE w' (D + 5) w (S + 5) 2 ∧ rwE w' (D + 7) w (S + 7) 3 ∧ rwE w' (D + 9) w (S + 9) 2
def tdE (w' : List (List xE)) (D : Nat) (w : List (List xE)) (S : Nat) : Prop := (fld w' D 1 = fld w S 1 ∧ fld w' D 2 = fld w S 2 ∧ fld w' D 3 = fld w S 3 ∧ fld w' D 6 = fld w S 6 ∧ fld w' D 7 = fld w S 7 ∧ fld w' D 9 = fld w S 9) ∧ (∀ j, j < 500 → rwv w' (D + 1) j = rwv w (S + 1) j) ∧ fmE w' (D + 2) w (S + 2) ∧ rwE w' (D + 13) w (S + 13) 5 ∧ rwE w' (D + 15) w (S + 15) 5 ∧ rwE w' (D + 17) w (S + 17) 3 ∧ rwE w' (D + 19) w (S + 19) 4 ∧ rwE w' (D + 21) w (S + 21) 2 ∧ rwE w' (D + 23) w (S + 23) 5
theorem rwE.tr {w w0 w1 w' : List (List xE)} {D S wd : Nat} (h : rwE w1 D w0 S wd) (a0 : wget w' D = wget w1 D) (a1 : wget w' (D + 1) = wget w1 (D + 1)) (b0 : wget w0 S = wget w S) (b1 : wget w0 (S + 1) = wget w (S + 1)) : rwE w' D w S wd := by
  obtain ⟨h1, h2⟩ := h
  refine ⟨(fld_eq a0).trans (h1.trans (fld_eq b0)), fun j hj => (rwv_eq a1).trans ((h2 j ?_).trans (rwv_eq b1))⟩
  rw [fld_eq b0]
  exact hj
theorem fmE.tr0 {w w0 w1 w' : List (List xE)} {D S : Nat} (h : fmE w1 D w0 S) (a : ∀ o, o < 11 → wget w' (D + o) = wget w1 (D + o)) (b : ∀ o, o < 11 → wget w0 (S + o) = wget w (S + o)) : fmE w' D w S := by
  obtain ⟨⟨h1, h2, h3, h4, h5⟩, r1, r2, r3, r4, r5⟩ := h
  have a0 := a 0 (by decide)
  have b0 := b 0 (by decide)
  exact ⟨⟨(fld_eq a0).trans (h1.trans (fld_eq b0)), (fld_eq a0).trans (h2.trans (fld_eq b0)), (fld_eq a0).trans (h3.trans (fld_eq b0)), (fld_eq a0).trans (h4.trans (fld_eq b0)), (fld_eq a0).trans (h5.trans (fld_eq b0))⟩, r1.tr (a 1 (by decide)) (a 2 (by decide)) (b 1 (by decide)) (b 2 (by decide)), r2.tr (a 3 (by decide)) (a 4 (by decide)) (b 3 (by decide)) (b 4 (by decide)), r3.tr (a 5 (by decide)) (a 6 (by decide)) (b 5 (by decide)) (b 6 (by decide)), r4.tr (a 7 (by decide)) (a 8 (by decide)) (b 7 (by decide)) (b 8 (by decide)), r5.tr (a 9 (by decide)) (a 10 (by decide)) (b 9 (by decide)) (b 10 (by decide))⟩
theorem fmE.tr {w w0 w1 w' : List (List xE)} {D S : Nat} {T U : List Nat} (h : fmE w1 D w0 S) (hf : xFr T w1 w') (ht : ∀ k ∈ T, k < D ∨ D + 11 ≤ k) (hg : xFr U w w0) (hu : ∀ k ∈ U, k < S ∨ S + 11 ≤ k) : fmE w' D w S := h.tr0 (fun o ho => hf.1 _ (fun z => by have := ht _ z; omega)) (fun o ho => hg.1 _ (fun z => by have := hu _ z; omega))
theorem tdE.tr0 {w w0 w1 w' : List (List xE)} {D S : Nat} (h : tdE w1 D w0 S) (a : ∀ o, o < 25 → wget w' (D + o) = wget w1 (D + o)) (b : ∀ o, o < 25 → wget w0 (S + o) = wget w (S + o)) : tdE w' D w S := by
  obtain ⟨⟨h1, h2, h3, h4, h5, h6⟩, t, f, r1, r2, r3, r4, r5, r6⟩ := h
  have a0 := a 0 (by decide)
  have b0 := b 0 (by decide)
  exact ⟨⟨(fld_eq a0).trans (h1.trans (fld_eq b0)), (fld_eq a0).trans (h2.trans (fld_eq b0)), (fld_eq a0).trans (h3.trans (fld_eq b0)), (fld_eq a0).trans (h4.trans (fld_eq b0)), (fld_eq a0).trans (h5.trans (fld_eq b0)), (fld_eq a0).trans (h6.trans (fld_eq b0))⟩, fun j hj => (rwv_eq (a 1 (by decide))).trans ((t j hj).trans (rwv_eq (b 1 (by decide)))), f.tr0 (fun o ho => by have := a (2 + o) (by omega); rw [← Nat.add_assoc] at this; exact this) (fun o ho => by have := b (2 + o) (by omega); rw [← Nat.add_assoc] at this; exact this), r1.tr (a 13 (by decide)) (a 14 (by decide)) (b 13 (by decide)) (b 14 (by decide)), r2.tr (a 15 (by decide)) (a 16 (by decide)) (b 15 (by decide)) (b 16 (by decide)), r3.tr (a 17 (by decide)) (a 18 (by decide)) (b 17 (by decide)) (b 18 (by decide)), r4.tr (a 19 (by decide)) (a 20 (by decide)) (b 19 (by decide)) (b 20 (by decide)), r5.tr (a 21 (by decide)) (a 22 (by decide)) (b 21 (by decide)) (b 22 (by decide)), r6.tr (a 23 (by decide)) (a 24 (by decide)) (b 23 (by decide)) (b 24 (by decide))⟩
theorem tdE.tr {w w0 w1 w' : List (List xE)} {D S : Nat} {T U : List Nat} (h : tdE w1 D w0 S) (hf : xFr T w1 w') (ht : ∀ k ∈ T, k < D ∨ D + 25 ≤ k) (hg : xFr U w w0) (hu : ∀ k ∈ U, k < S ∨ S + 25 ≤ k) : tdE w' D w S := h.tr0 (fun o ho => hf.1 _ (fun z => by have := ht _ z; omega)) (fun o ho => hg.1 _ (fun z => by have := hu _ z; omega))
theorem rwE.rf {w : List (List xE)} {S wd : Nat} : rwE w S w S wd := ⟨rfl, fun _ _ => rfl⟩
theorem tdE.rf {w : List (List xE)} {S : Nat} : tdE w S w S := ⟨⟨rfl, rfl, rfl, rfl, rfl, rfl⟩, fun _ _ => rfl, ⟨⟨rfl, rfl, rfl, rfl, rfl⟩, rwE.rf, rwE.rf, rwE.rf, rwE.rf, rwE.rf⟩, rwE.rf, rwE.rf, rwE.rf, rwE.rf, rwE.rf, rwE.rf⟩
/-- nothing that was found out is held for true -/
def fgE (w : List (List xE)) : Prop := fld w 49 10 = 0 ∧ fld w 58 12 = 0 ∧ (fld w 68 4 = 0 ∧ fld w 68 5 = 0) ∧ fld w 72 3 = 0 ∧ fld w 72 4 = 0
section XRX
variable {d r a r2 a2 lim wd sz sz2 t t2 B : Nat} {w : List (List xE)} {bd : List (Nat × Nat)} {fc : List (Nat × Nat × Bool)} {rr : Nat × Nat} {f f2 : Nat → Nat}
theorem rcopyX (h : xRs w r a lim wd sz) (h2 : xRs w r2 a2 lim wd sz2) (hf : xRow w a (lim * wd) t f) (hf2 : xRow w a2 (lim * wd) t2 f2) (hB : ∀ j, f j ≤ B) (hB2 : ∀ j, f2 j ≤ B) (hl : lim < 2147483648) (hsz : sz2 ≤ lim) (hw : wd < 2147483648) (hL : lim * wd < 2147483648) (n1 : r2 ≠ r) (n2 : a ≠ r) (n3 : a2 ≠ r) (n4 : r ≠ a) : xPq (d + 1) mX5_copy [(2, r), (2, r2)] w bd fc rr [] (fun w' => xRs w' r a lim wd sz2 ∧ ∃ g, xRow w' a (lim * wd) t g ∧ (∀ j, g j ≤ B) ∧ (∀ j, j < sz2 * wd → g j = f2 j) ∧ xFr [r, a] w w') := by
  refine xPq.of ?_
  show xTo (d + 1) mX5_copy (0, [], [(0, (2, r)), (1, (2, r2))], [], (w, bd, fc, 0, 0, rr)) (fun φ => ∃ w', xEnd 0 [] (w', bd, fc, 0, 0, rr) φ ∧ xRs w' r a lim wd sz2 ∧ ∃ g, xRow w' a (lim * wd) t g ∧ (∀ j, g j ≤ B) ∧ (∀ j, j < sz2 * wd → g j = f2 j) ∧ xFr [r, a] w w')
  refine xg_t (xg_blq rfl) ?_
  refine xg_t (xg_aload (va := (2, r2)) rfl rfl) ?_
  refine xg_t (xg_getf (va := (0, lim)) h2 rfl) ?_
  refine xg_t (xg_aload (va := (2, r)) rfl rfl) ?_
  refine xg_t (xg_getf (va := (0, lim)) h rfl) ?_
  refine xg_t (xg_icF (u := lim) (v := lim) rfl xnm0 xnm0 (xj_neF rfl)) ?_
  refine xg_t (xg_aload (va := (2, r2)) rfl rfl) ?_
  refine xg_t (xg_getf (va := (0, wd)) h2 rfl) ?_
  refine xg_t (xg_aload (va := (2, r)) rfl rfl) ?_
  refine xg_t (xg_getf (va := (0, wd)) h rfl) ?_
  refine xg_t (xg_icF (u := wd) (v := wd) rfl xnm0 xnm0 (xj_neF rfl)) ?_
  refine xg_t (xg_aload (va := (2, r)) rfl rfl) ?_
  refine xg_t (xg_aload (va := (2, r2)) rfl rfl) ?_
  refine xg_t (xg_getf (va := (0, sz2)) h2 rfl) ?_
  refine xg_putI (fl1 := [(0, lim), (0, wd), (2, a), (0, sz2)]) h rfl rfl rfl (fun w1 hk2 hb3 => ?_)
  refine xg_t (xg_aload (va := (2, r2)) rfl rfl) ?_
  refine xg_t (xg_getf (va := (2, a2)) (hb3.get (by omega) h2) rfl) ?_
  refine xg_t (xg_const) ?_
  refine xg_t (xg_aload (va := (2, r)) rfl rfl) ?_
  refine xg_t (xg_getf (va := (2, a)) hk2 rfl) ?_
  refine xg_t (xg_const) ?_
  refine xg_t (xg_aload (va := (2, r)) rfl rfl) ?_
  refine xg_t (xg_getf (va := (0, sz2)) hk2 rfl) ?_
  refine xg_t (xg_aload (va := (2, r)) rfl rfl) ?_
  refine xg_t (xg_getf (va := (0, wd)) hk2 rfl) ?_
  have hm9 : sz2 * wd ≤ lim * wd := Nat.mul_le_mul_right wd hsz
  refine xg_t (xg_imul (u := sz2) (v := wd) (z := sz2 * wd) xnm0 xnm0 (Nat.mod_eq_of_lt (by omega))) ?_
  refine xg_copyI (n := sz2 * wd) (hf2.but hb3 (by omega)) (hf.but hb3 (by omega)) xnm0 (by omega) (by omega) (Nat.le_of_ble_eq_true rfl) (fun w9 hr9 hb9 => ?_)
  refine xg_t (xg_blq rfl) ?_
  exact xg_e ⟨w9, ⟨rfl, rfl⟩, (hb9.get (by omega) hk2), _, hr9, xcb2 hB2 hB, fun j hj => if_pos hj, (xFr.of (S := [r, a]) hb3 List.mem_cons_self).tr (xFr.of (S := [r, a]) hb9 (List.mem_cons_of_mem _ List.mem_cons_self))⟩
end XRX
section XCX
variable {d : Nat} {w : List (List xE)} {bd : List (Nat × Nat)} {fc : List (Nat × Nat × Bool)} {rr : Nat × Nat}
set_option maxRecDepth 100000 in
theorem imFilmE01 (hI : xInv w) (hJ : xIm 114 139 w) : xPq (d + 2) mX1_copy [(2, 116), (2, 3)] w bd fc rr [] (fun w' => xInv w' ∧ xFr [116, 117, 118, 119, 120, 121, 122, 123, 124, 125, 126] w w' ∧ (xIm 114 139 w' ∧ fmE w' 116 w 3)) := by
  refine xPq.of ?_
  show xTo (d + 2) mX1_copy (0, [], [(0, (2, 116)), (1, (2, 3))], [], (w, bd, fc, 0, 0, rr)) (fun φ => ∃ w', xEnd 0 [] (w', bd, fc, 0, 0, rr) φ ∧ xInv w' ∧ xFr [116, 117, 118, 119, 120, 121, 122, 123, 124, 125, 126] w w' ∧ (xIm 114 139 w' ∧ fmE w' 116 w 3))
  refine xoC3 (xqc3 hI : cp3 (wget w 3)) (fun f3_1 f3_3 f3_5 f3_7 f3_9 h3_11 hb2 hb4 hb6 hb8 hb10 => ?_)
  obtain ⟨f116_12, f116_14, f116_16, f116_18, f116_20, h116_22, hb13, hb15, hb17, hb19, hb21⟩ := (hJ 116 (by decide) (by decide) : cp116 (wget w 116))
  obtain ⟨f4_23, h4_25, hb24⟩ := (xqc4 hI : cp4 (wget w 4))
  refine xoI (xqc5 hI : cpI 24 1 4294967295 (wget w 5)) (fun g5_26 h5_27 hb28 => ?_)
  obtain ⟨f117_29, h117_31, hb30⟩ := (hJ 117 (by decide) (by decide) : cp117 (wget w 117))
  refine xoI (hJ 118 (by decide) (by decide) : cpI 24 82 4294967295 (wget w 118)) (fun g118_32 h118_33 hb34 => ?_)
  obtain ⟨f6_35, h6_37, hb36⟩ := (xqc6 hI : cp6 (wget w 6))
  refine xoI (xqc7 hI : cpI 8 2 4294967295 (wget w 7)) (fun g7_38 h7_39 hb40 => ?_)
  obtain ⟨f119_41, h119_43, hb42⟩ := (hJ 119 (by decide) (by decide) : cp119 (wget w 119))
  refine xoI (hJ 120 (by decide) (by decide) : cpI 8 83 4294967295 (wget w 120)) (fun g120_44 h120_45 hb46 => ?_)
  obtain ⟨f8_47, h8_49, hb48⟩ := (xqc8 hI : cp8 (wget w 8))
  refine xoI (xqc9 hI : cpI 12 3 4294967295 (wget w 9)) (fun g9_50 h9_51 hb52 => ?_)
  obtain ⟨f121_53, h121_55, hb54⟩ := (hJ 121 (by decide) (by decide) : cp121 (wget w 121))
  refine xoI (hJ 122 (by decide) (by decide) : cpI 12 84 4294967295 (wget w 122)) (fun g122_56 h122_57 hb58 => ?_)
  obtain ⟨f10_59, h10_61, hb60⟩ := (xqc10 hI : cp10 (wget w 10))
  refine xoI (xqc11 hI : cpI 12 4 4294967295 (wget w 11)) (fun g11_62 h11_63 hb64 => ?_)
  obtain ⟨f123_65, h123_67, hb66⟩ := (hJ 123 (by decide) (by decide) : cp123 (wget w 123))
  refine xoI (hJ 124 (by decide) (by decide) : cpI 12 85 4294967295 (wget w 124)) (fun g124_68 h124_69 hb70 => ?_)
  obtain ⟨f12_71, h12_73, hb72⟩ := (xqc12 hI : cp12 (wget w 12))
  refine xoI (xqc13 hI : cpI 40 5 4294967295 (wget w 13)) (fun g13_74 h13_75 hb76 => ?_)
  obtain ⟨f125_77, h125_79, hb78⟩ := (hJ 125 (by decide) (by decide) : cp125 (wget w 125))
  refine xoI (hJ 126 (by decide) (by decide) : cpI 40 86 4294967295 (wget w 126)) (fun g126_80 h126_81 hb82 => ?_)
  refine xg_t (xg_blq rfl) ?_
  refine xg_t (xg_aload (va := (2, 116)) rfl rfl) ?_
  refine xg_t (xg_getf (va := (2, 117)) h116_22 rfl) ?_
  refine xg_t (xg_aload (va := (2, 3)) rfl rfl) ?_
  refine xg_t (xg_getf (va := (2, 4)) h3_11 rfl) ?_
  refine xg_cVv mX5_copy (vs := [(2, 4)]) (rest := []) (cn1 := 0) (sl1 := 0) rfl (rcopyX (lim := 6) (wd := 4) (B := 4294967295) h117_31 h4_25 h118_33 h5_27 (hb34) (hb28) (by decide) (by omega) (by decide) (by decide) (by decide) (by decide) (by decide) (by decide)) rfl h117_31 rfl rfl rfl rfl rfl rfl (fun w83 hq84 => ?_)
  obtain ⟨hk85, g86, hr87, hb88, hx90, hF89⟩ := hq84
  refine xg_t (xg_aload (va := (2, 116)) rfl rfl) ?_
  refine xg_t (xg_getf (va := (2, 119)) (hF89.get (by decide) h116_22) rfl) ?_
  refine xg_t (xg_aload (va := (2, 3)) rfl rfl) ?_
  refine xg_t (xg_getf (va := (2, 6)) (hF89.get (by decide) h3_11) rfl) ?_
  refine xg_cVv mX5_copy (vs := [(2, 6)]) (rest := []) (cn1 := 0) (sl1 := 0) rfl (rcopyX (lim := 4) (wd := 2) (B := 4294967295) (hF89.get (by decide) h119_43) (hF89.get (by decide) h6_37) (h120_45.fr hF89 (by decide)) (h7_39.fr hF89 (by decide)) (hb46) (hb40) (by decide) (by omega) (by decide) (by decide) (by decide) (by decide) (by decide) (by decide)) rfl (hF89.get (by decide) h119_43) rfl rfl rfl rfl rfl rfl (fun w91 hq92 => ?_)
  obtain ⟨hk93, g94, hr95, hb96, hx98, hF97⟩ := hq92
  refine xg_t (xg_aload (va := (2, 116)) rfl rfl) ?_
  refine xg_t (xg_getf (va := (2, 121)) (hF97.get (by decide) (hF89.get (by decide) h116_22)) rfl) ?_
  refine xg_t (xg_aload (va := (2, 3)) rfl rfl) ?_
  refine xg_t (xg_getf (va := (2, 8)) (hF97.get (by decide) (hF89.get (by decide) h3_11)) rfl) ?_
  refine xg_cVv mX5_copy (vs := [(2, 8)]) (rest := []) (cn1 := 0) (sl1 := 0) rfl (rcopyX (lim := 6) (wd := 2) (B := 4294967295) (hF97.get (by decide) (hF89.get (by decide) h121_55)) (hF97.get (by decide) (hF89.get (by decide) h8_49)) ((h122_57.fr hF89 (by decide)).fr hF97 (by decide)) ((h9_51.fr hF89 (by decide)).fr hF97 (by decide)) (hb58) (hb52) (by decide) (by omega) (by decide) (by decide) (by decide) (by decide) (by decide) (by decide)) rfl (hF97.get (by decide) (hF89.get (by decide) h121_55)) rfl rfl rfl rfl rfl rfl (fun w99 hq100 => ?_)
  obtain ⟨hk101, g102, hr103, hb104, hx106, hF105⟩ := hq100
  refine xg_t (xg_aload (va := (2, 116)) rfl rfl) ?_
  refine xg_t (xg_getf (va := (2, 123)) (hF105.get (by decide) (hF97.get (by decide) (hF89.get (by decide) h116_22))) rfl) ?_
  refine xg_t (xg_aload (va := (2, 3)) rfl rfl) ?_
  refine xg_t (xg_getf (va := (2, 10)) (hF105.get (by decide) (hF97.get (by decide) (hF89.get (by decide) h3_11))) rfl) ?_
  refine xg_cVv mX5_copy (vs := [(2, 10)]) (rest := []) (cn1 := 0) (sl1 := 0) rfl (rcopyX (lim := 4) (wd := 3) (B := 4294967295) (hF105.get (by decide) (hF97.get (by decide) (hF89.get (by decide) h123_67))) (hF105.get (by decide) (hF97.get (by decide) (hF89.get (by decide) h10_61))) (((h124_69.fr hF89 (by decide)).fr hF97 (by decide)).fr hF105 (by decide)) (((h11_63.fr hF89 (by decide)).fr hF97 (by decide)).fr hF105 (by decide)) (hb70) (hb64) (by decide) (by omega) (by decide) (by decide) (by decide) (by decide) (by decide) (by decide)) rfl (hF105.get (by decide) (hF97.get (by decide) (hF89.get (by decide) h123_67))) rfl rfl rfl rfl rfl rfl (fun w107 hq108 => ?_)
  obtain ⟨hk109, g110, hr111, hb112, hx114, hF113⟩ := hq108
  refine xg_t (xg_aload (va := (2, 116)) rfl rfl) ?_
  refine xg_t (xg_getf (va := (2, 125)) (hF113.get (by decide) (hF105.get (by decide) (hF97.get (by decide) (hF89.get (by decide) h116_22)))) rfl) ?_
  refine xg_t (xg_aload (va := (2, 3)) rfl rfl) ?_
  refine xg_t (xg_getf (va := (2, 12)) (hF113.get (by decide) (hF105.get (by decide) (hF97.get (by decide) (hF89.get (by decide) h3_11)))) rfl) ?_
  refine xg_cVv mX5_copy (vs := [(2, 12)]) (rest := []) (cn1 := 0) (sl1 := 0) rfl (rcopyX (lim := 20) (wd := 2) (B := 4294967295) (hF113.get (by decide) (hF105.get (by decide) (hF97.get (by decide) (hF89.get (by decide) h125_79)))) (hF113.get (by decide) (hF105.get (by decide) (hF97.get (by decide) (hF89.get (by decide) h12_73)))) ((((h126_81.fr hF89 (by decide)).fr hF97 (by decide)).fr hF105 (by decide)).fr hF113 (by decide)) ((((h13_75.fr hF89 (by decide)).fr hF97 (by decide)).fr hF105 (by decide)).fr hF113 (by decide)) (hb82) (hb76) (by decide) (by omega) (by decide) (by decide) (by decide) (by decide) (by decide) (by decide)) rfl (hF113.get (by decide) (hF105.get (by decide) (hF97.get (by decide) (hF89.get (by decide) h125_79)))) rfl rfl rfl rfl rfl rfl (fun w115 hq116 => ?_)
  obtain ⟨hk117, g118, hr119, hb120, hx122, hF121⟩ := hq116
  refine xg_t (xg_aload (va := (2, 116)) rfl rfl) ?_
  refine xg_t (xg_aload (va := (2, 3)) rfl rfl) ?_
  refine xg_t (xg_getf (va := (0, f3_1)) (hF121.get (by decide) (hF113.get (by decide) (hF105.get (by decide) (hF97.get (by decide) (hF89.get (by decide) h3_11))))) rfl) ?_
  refine xg_putI (fl1 := [(2, 117), (2, 119), (2, 121), (2, 123), (2, 125), (0, f3_1), (0, f116_14), (0, f116_16), (0, f116_18), (0, f116_20)]) (hF121.get (by decide) (hF113.get (by decide) (hF105.get (by decide) (hF97.get (by decide) (hF89.get (by decide) h116_22))))) rfl rfl rfl (fun w123 hk124 hb125 => ?_)
  refine xg_t (xg_aload (va := (2, 116)) rfl rfl) ?_
  refine xg_t (xg_aload (va := (2, 3)) rfl rfl) ?_
  refine xg_t (xg_getf (va := (0, f3_3)) (hb125.get (by decide) (hF121.get (by decide) (hF113.get (by decide) (hF105.get (by decide) (hF97.get (by decide) (hF89.get (by decide) h3_11)))))) rfl) ?_
  refine xg_putI (fl1 := [(2, 117), (2, 119), (2, 121), (2, 123), (2, 125), (0, f3_1), (0, f3_3), (0, f116_16), (0, f116_18), (0, f116_20)]) hk124 rfl rfl rfl (fun w126 hk127 hb128 => ?_)
  refine xg_t (xg_aload (va := (2, 116)) rfl rfl) ?_
  refine xg_t (xg_aload (va := (2, 3)) rfl rfl) ?_
  refine xg_t (xg_getf (va := (0, f3_5)) (hb128.get (by decide) (hb125.get (by decide) (hF121.get (by decide) (hF113.get (by decide) (hF105.get (by decide) (hF97.get (by decide) (hF89.get (by decide) h3_11))))))) rfl) ?_
  refine xg_putI (fl1 := [(2, 117), (2, 119), (2, 121), (2, 123), (2, 125), (0, f3_1), (0, f3_3), (0, f3_5), (0, f116_18), (0, f116_20)]) hk127 rfl rfl rfl (fun w129 hk130 hb131 => ?_)
  refine xg_t (xg_aload (va := (2, 116)) rfl rfl) ?_
  refine xg_t (xg_aload (va := (2, 3)) rfl rfl) ?_
  refine xg_t (xg_getf (va := (0, f3_7)) (hb131.get (by decide) (hb128.get (by decide) (hb125.get (by decide) (hF121.get (by decide) (hF113.get (by decide) (hF105.get (by decide) (hF97.get (by decide) (hF89.get (by decide) h3_11)))))))) rfl) ?_
  refine xg_putI (fl1 := [(2, 117), (2, 119), (2, 121), (2, 123), (2, 125), (0, f3_1), (0, f3_3), (0, f3_5), (0, f3_7), (0, f116_20)]) hk130 rfl rfl rfl (fun w132 hk133 hb134 => ?_)
  refine xg_t (xg_aload (va := (2, 116)) rfl rfl) ?_
  refine xg_t (xg_aload (va := (2, 3)) rfl rfl) ?_
  refine xg_t (xg_getf (va := (0, f3_9)) (hb134.get (by decide) (hb131.get (by decide) (hb128.get (by decide) (hb125.get (by decide) (hF121.get (by decide) (hF113.get (by decide) (hF105.get (by decide) (hF97.get (by decide) (hF89.get (by decide) h3_11))))))))) rfl) ?_
  refine xg_putI (fl1 := [(2, 117), (2, 119), (2, 121), (2, 123), (2, 125), (0, f3_1), (0, f3_3), (0, f3_5), (0, f3_7), (0, f3_9)]) hk133 rfl rfl rfl (fun w135 hk136 hb137 => ?_)
  have hq139 : fld w 4 3 = f4_23 := fld_of h4_25
  have hq138 : rwE w135 117 w 4 4 := ⟨((show fld w135 117 3 = f4_23 from fld_of (hb137.get (by decide) (hb134.get (by decide) (hb131.get (by decide) (hb128.get (by decide) (hb125.get (by decide) (hF121.get (by decide) (hF113.get (by decide) (hF105.get (by decide) (hF97.get (by decide) hk85)))))))))).trans (show fld w 4 3 = f4_23 from fld_of h4_25).symm), fun j hj => by
    rw [hq139] at hj
    exact (rwv_of (((((((((hr87.fr hF97 (by decide)).fr hF105 (by decide)).fr hF113 (by decide)).fr hF121 (by decide)).but hb125 (by decide)).but hb128 (by decide)).but hb131 (by decide)).but hb134 (by decide)).but hb137 (by decide)) (by omega)).trans ((hx90 j hj).trans (rwv_of h5_27 (by omega)).symm)⟩
  have hq141 : fld w 6 3 = f6_35 := fld_of h6_37
  have hq140 : rwE w135 119 w 6 2 := ⟨((show fld w135 119 3 = f6_35 from fld_of (hb137.get (by decide) (hb134.get (by decide) (hb131.get (by decide) (hb128.get (by decide) (hb125.get (by decide) (hF121.get (by decide) (hF113.get (by decide) (hF105.get (by decide) hk93))))))))).trans (show fld w 6 3 = f6_35 from fld_of h6_37).symm), fun j hj => by
    rw [hq141] at hj
    exact (rwv_of ((((((((hr95.fr hF105 (by decide)).fr hF113 (by decide)).fr hF121 (by decide)).but hb125 (by decide)).but hb128 (by decide)).but hb131 (by decide)).but hb134 (by decide)).but hb137 (by decide)) (by omega)).trans ((hx98 j hj).trans (rwv_of h7_39 (by omega)).symm)⟩
  have hq143 : fld w 8 3 = f8_47 := fld_of h8_49
  have hq142 : rwE w135 121 w 8 2 := ⟨((show fld w135 121 3 = f8_47 from fld_of (hb137.get (by decide) (hb134.get (by decide) (hb131.get (by decide) (hb128.get (by decide) (hb125.get (by decide) (hF121.get (by decide) (hF113.get (by decide) hk101)))))))).trans (show fld w 8 3 = f8_47 from fld_of h8_49).symm), fun j hj => by
    rw [hq143] at hj
    exact (rwv_of (((((((hr103.fr hF113 (by decide)).fr hF121 (by decide)).but hb125 (by decide)).but hb128 (by decide)).but hb131 (by decide)).but hb134 (by decide)).but hb137 (by decide)) (by omega)).trans ((hx106 j hj).trans (rwv_of h9_51 (by omega)).symm)⟩
  have hq145 : fld w 10 3 = f10_59 := fld_of h10_61
  have hq144 : rwE w135 123 w 10 3 := ⟨((show fld w135 123 3 = f10_59 from fld_of (hb137.get (by decide) (hb134.get (by decide) (hb131.get (by decide) (hb128.get (by decide) (hb125.get (by decide) (hF121.get (by decide) hk109))))))).trans (show fld w 10 3 = f10_59 from fld_of h10_61).symm), fun j hj => by
    rw [hq145] at hj
    exact (rwv_of ((((((hr111.fr hF121 (by decide)).but hb125 (by decide)).but hb128 (by decide)).but hb131 (by decide)).but hb134 (by decide)).but hb137 (by decide)) (by omega)).trans ((hx114 j hj).trans (rwv_of h11_63 (by omega)).symm)⟩
  have hq147 : fld w 12 3 = f12_71 := fld_of h12_73
  have hq146 : rwE w135 125 w 12 2 := ⟨((show fld w135 125 3 = f12_71 from fld_of (hb137.get (by decide) (hb134.get (by decide) (hb131.get (by decide) (hb128.get (by decide) (hb125.get (by decide) hk117)))))).trans (show fld w 12 3 = f12_71 from fld_of h12_73).symm), fun j hj => by
    rw [hq147] at hj
    exact (rwv_of (((((hr119.but hb125 (by decide)).but hb128 (by decide)).but hb131 (by decide)).but hb134 (by decide)).but hb137 (by decide)) (by omega)).trans ((hx122 j hj).trans (rwv_of h13_75 (by omega)).symm)⟩
  exact xg_e ⟨w135, ⟨rfl, rfl⟩, xInv.up (S := [117, 118, 119, 120, 121, 122, 123, 124, 125, 126, 116]) hI ((((((((((hF89.up (T := [117, 118, 119, 120, 121, 122, 123, 124, 125, 126, 116]) (by decide)).tr (hF97.up (T := [117, 118, 119, 120, 121, 122, 123, 124, 125, 126, 116]) (by decide))).tr (hF105.up (T := [117, 118, 119, 120, 121, 122, 123, 124, 125, 126, 116]) (by decide))).tr (hF113.up (T := [117, 118, 119, 120, 121, 122, 123, 124, 125, 126, 116]) (by decide))).tr (hF121.up (T := [117, 118, 119, 120, 121, 122, 123, 124, 125, 126, 116]) (by decide))).tr (xFr.of (S := [117, 118, 119, 120, 121, 122, 123, 124, 125, 126, 116]) hb125 (by decide))).tr (xFr.of (S := [117, 118, 119, 120, 121, 122, 123, 124, 125, 126, 116]) hb128 (by decide))).tr (xFr.of (S := [117, 118, 119, 120, 121, 122, 123, 124, 125, 126, 116]) hb131 (by decide))).tr (xFr.of (S := [117, 118, 119, 120, 121, 122, 123, 124, 125, 126, 116]) hb134 (by decide))).tr (xFr.of (S := [117, 118, 119, 120, 121, 122, 123, 124, 125, 126, 116]) hb137 (by decide))) (List.forall_mem_cons.mpr ⟨(show True from trivial), List.forall_mem_cons.mpr ⟨(show True from trivial), List.forall_mem_cons.mpr ⟨(show True from trivial), List.forall_mem_cons.mpr ⟨(show True from trivial), List.forall_mem_cons.mpr ⟨(show True from trivial), List.forall_mem_cons.mpr ⟨(show True from trivial), List.forall_mem_cons.mpr ⟨(show True from trivial), List.forall_mem_cons.mpr ⟨(show True from trivial), List.forall_mem_cons.mpr ⟨(show True from trivial), List.forall_mem_cons.mpr ⟨(show True from trivial), List.forall_mem_cons.mpr ⟨(show True from trivial), fun _ h => absurd h List.not_mem_nil⟩⟩⟩⟩⟩⟩⟩⟩⟩⟩⟩), ((((((((((hF89.up (T := [116, 117, 118, 119, 120, 121, 122, 123, 124, 125, 126]) (by decide)).tr (hF97.up (T := [116, 117, 118, 119, 120, 121, 122, 123, 124, 125, 126]) (by decide))).tr (hF105.up (T := [116, 117, 118, 119, 120, 121, 122, 123, 124, 125, 126]) (by decide))).tr (hF113.up (T := [116, 117, 118, 119, 120, 121, 122, 123, 124, 125, 126]) (by decide))).tr (hF121.up (T := [116, 117, 118, 119, 120, 121, 122, 123, 124, 125, 126]) (by decide))).tr (xFr.of (S := [116, 117, 118, 119, 120, 121, 122, 123, 124, 125, 126]) hb125 (by decide))).tr (xFr.of (S := [116, 117, 118, 119, 120, 121, 122, 123, 124, 125, 126]) hb128 (by decide))).tr (xFr.of (S := [116, 117, 118, 119, 120, 121, 122, 123, 124, 125, 126]) hb131 (by decide))).tr (xFr.of (S := [116, 117, 118, 119, 120, 121, 122, 123, 124, 125, 126]) hb134 (by decide))).tr (xFr.of (S := [116, 117, 118, 119, 120, 121, 122, 123, 124, 125, 126]) hb137 (by decide))), ⟨xIm.up (S := [117, 118, 119, 120, 121, 122, 123, 124, 125, 126, 116]) hJ ((((((((((hF89.up (T := [117, 118, 119, 120, 121, 122, 123, 124, 125, 126, 116]) (by decide)).tr (hF97.up (T := [117, 118, 119, 120, 121, 122, 123, 124, 125, 126, 116]) (by decide))).tr (hF105.up (T := [117, 118, 119, 120, 121, 122, 123, 124, 125, 126, 116]) (by decide))).tr (hF113.up (T := [117, 118, 119, 120, 121, 122, 123, 124, 125, 126, 116]) (by decide))).tr (hF121.up (T := [117, 118, 119, 120, 121, 122, 123, 124, 125, 126, 116]) (by decide))).tr (xFr.of (S := [117, 118, 119, 120, 121, 122, 123, 124, 125, 126, 116]) hb125 (by decide))).tr (xFr.of (S := [117, 118, 119, 120, 121, 122, 123, 124, 125, 126, 116]) hb128 (by decide))).tr (xFr.of (S := [117, 118, 119, 120, 121, 122, 123, 124, 125, 126, 116]) hb131 (by decide))).tr (xFr.of (S := [117, 118, 119, 120, 121, 122, 123, 124, 125, 126, 116]) hb134 (by decide))).tr (xFr.of (S := [117, 118, 119, 120, 121, 122, 123, 124, 125, 126, 116]) hb137 (by decide))) (List.forall_mem_cons.mpr ⟨(fun _ => show cp117 (wget w135 117) from ⟨f4_23, (hb137.get (by decide) (hb134.get (by decide) (hb131.get (by decide) (hb128.get (by decide) (hb125.get (by decide) (hF121.get (by decide) (hF113.get (by decide) (hF105.get (by decide) (hF97.get (by decide) hk85))))))))), by omega⟩), List.forall_mem_cons.mpr ⟨(fun _ => show cpI 24 82 4294967295 (wget w135 118) from ⟨_, (((((((((hr87.fr hF97 (by decide)).fr hF105 (by decide)).fr hF113 (by decide)).fr hF121 (by decide)).but hb125 (by decide)).but hb128 (by decide)).but hb131 (by decide)).but hb134 (by decide)).but hb137 (by decide)), hb88⟩), List.forall_mem_cons.mpr ⟨(fun _ => show cp119 (wget w135 119) from ⟨f6_35, (hb137.get (by decide) (hb134.get (by decide) (hb131.get (by decide) (hb128.get (by decide) (hb125.get (by decide) (hF121.get (by decide) (hF113.get (by decide) (hF105.get (by decide) hk93)))))))), by omega⟩), List.forall_mem_cons.mpr ⟨(fun _ => show cpI 8 83 4294967295 (wget w135 120) from ⟨_, ((((((((hr95.fr hF105 (by decide)).fr hF113 (by decide)).fr hF121 (by decide)).but hb125 (by decide)).but hb128 (by decide)).but hb131 (by decide)).but hb134 (by decide)).but hb137 (by decide)), hb96⟩), List.forall_mem_cons.mpr ⟨(fun _ => show cp121 (wget w135 121) from ⟨f8_47, (hb137.get (by decide) (hb134.get (by decide) (hb131.get (by decide) (hb128.get (by decide) (hb125.get (by decide) (hF121.get (by decide) (hF113.get (by decide) hk101))))))), by omega⟩), List.forall_mem_cons.mpr ⟨(fun _ => show cpI 12 84 4294967295 (wget w135 122) from ⟨_, (((((((hr103.fr hF113 (by decide)).fr hF121 (by decide)).but hb125 (by decide)).but hb128 (by decide)).but hb131 (by decide)).but hb134 (by decide)).but hb137 (by decide)), hb104⟩), List.forall_mem_cons.mpr ⟨(fun _ => show cp123 (wget w135 123) from ⟨f10_59, (hb137.get (by decide) (hb134.get (by decide) (hb131.get (by decide) (hb128.get (by decide) (hb125.get (by decide) (hF121.get (by decide) hk109)))))), by omega⟩), List.forall_mem_cons.mpr ⟨(fun _ => show cpI 12 85 4294967295 (wget w135 124) from ⟨_, ((((((hr111.fr hF121 (by decide)).but hb125 (by decide)).but hb128 (by decide)).but hb131 (by decide)).but hb134 (by decide)).but hb137 (by decide)), hb112⟩), List.forall_mem_cons.mpr ⟨(fun _ => show cp125 (wget w135 125) from ⟨f12_71, (hb137.get (by decide) (hb134.get (by decide) (hb131.get (by decide) (hb128.get (by decide) (hb125.get (by decide) hk117))))), by omega⟩), List.forall_mem_cons.mpr ⟨(fun _ => show cpI 40 86 4294967295 (wget w135 126) from ⟨_, (((((hr119.but hb125 (by decide)).but hb128 (by decide)).but hb131 (by decide)).but hb134 (by decide)).but hb137 (by decide)), hb120⟩), List.forall_mem_cons.mpr ⟨(fun _ => show cp116 (wget w135 116) from ⟨f3_1, f3_3, f3_5, f3_7, f3_9, hk136, by omega, by omega, by omega, by omega, by omega⟩), fun _ h => absurd h List.not_mem_nil⟩⟩⟩⟩⟩⟩⟩⟩⟩⟩⟩), ⟨⟨((show fld w135 116 5 = f3_1 from fld_of hk136).trans (show fld w 3 5 = f3_1 from fld_of h3_11).symm), ((show fld w135 116 6 = f3_3 from fld_of hk136).trans (show fld w 3 6 = f3_3 from fld_of h3_11).symm), ((show fld w135 116 7 = f3_5 from fld_of hk136).trans (show fld w 3 7 = f3_5 from fld_of h3_11).symm), ((show fld w135 116 8 = f3_7 from fld_of hk136).trans (show fld w 3 8 = f3_7 from fld_of h3_11).symm), ((show fld w135 116 9 = f3_9 from fld_of hk136).trans (show fld w 3 9 = f3_9 from fld_of h3_11).symm)⟩, hq138, hq140, hq142, hq144, hq146⟩⟩⟩
set_option maxRecDepth 100000 in
theorem imFilmE00 (hI : xInv w) (hJ : xIm 114 139 w) : xPq (d + 2) mX1_copy [(2, 3), (2, 116)] w bd fc rr [] (fun w' => xInv w' ∧ xFr [3, 4, 5, 6, 7, 8, 9, 10, 11, 12, 13] w w' ∧ (xIm 114 139 w' ∧ fmE w' 3 w 116)) := by
  refine xPq.of ?_
  show xTo (d + 2) mX1_copy (0, [], [(0, (2, 3)), (1, (2, 116))], [], (w, bd, fc, 0, 0, rr)) (fun φ => ∃ w', xEnd 0 [] (w', bd, fc, 0, 0, rr) φ ∧ xInv w' ∧ xFr [3, 4, 5, 6, 7, 8, 9, 10, 11, 12, 13] w w' ∧ (xIm 114 139 w' ∧ fmE w' 3 w 116))
  refine xoC3 (xqc3 hI : cp3 (wget w 3)) (fun f3_1 f3_3 f3_5 f3_7 f3_9 h3_11 hb2 hb4 hb6 hb8 hb10 => ?_)
  obtain ⟨f116_12, f116_14, f116_16, f116_18, f116_20, h116_22, hb13, hb15, hb17, hb19, hb21⟩ := (hJ 116 (by decide) (by decide) : cp116 (wget w 116))
  obtain ⟨f4_23, h4_25, hb24⟩ := (xqc4 hI : cp4 (wget w 4))
  refine xoI (xqc5 hI : cpI 24 1 4294967295 (wget w 5)) (fun g5_26 h5_27 hb28 => ?_)
  obtain ⟨f117_29, h117_31, hb30⟩ := (hJ 117 (by decide) (by decide) : cp117 (wget w 117))
  refine xoI (hJ 118 (by decide) (by decide) : cpI 24 82 4294967295 (wget w 118)) (fun g118_32 h118_33 hb34 => ?_)
  obtain ⟨f6_35, h6_37, hb36⟩ := (xqc6 hI : cp6 (wget w 6))
  refine xoI (xqc7 hI : cpI 8 2 4294967295 (wget w 7)) (fun g7_38 h7_39 hb40 => ?_)
  obtain ⟨f119_41, h119_43, hb42⟩ := (hJ 119 (by decide) (by decide) : cp119 (wget w 119))
  refine xoI (hJ 120 (by decide) (by decide) : cpI 8 83 4294967295 (wget w 120)) (fun g120_44 h120_45 hb46 => ?_)
  obtain ⟨f8_47, h8_49, hb48⟩ := (xqc8 hI : cp8 (wget w 8))
  refine xoI (xqc9 hI : cpI 12 3 4294967295 (wget w 9)) (fun g9_50 h9_51 hb52 => ?_)
  obtain ⟨f121_53, h121_55, hb54⟩ := (hJ 121 (by decide) (by decide) : cp121 (wget w 121))
  refine xoI (hJ 122 (by decide) (by decide) : cpI 12 84 4294967295 (wget w 122)) (fun g122_56 h122_57 hb58 => ?_)
  obtain ⟨f10_59, h10_61, hb60⟩ := (xqc10 hI : cp10 (wget w 10))
  refine xoI (xqc11 hI : cpI 12 4 4294967295 (wget w 11)) (fun g11_62 h11_63 hb64 => ?_)
  obtain ⟨f123_65, h123_67, hb66⟩ := (hJ 123 (by decide) (by decide) : cp123 (wget w 123))
  refine xoI (hJ 124 (by decide) (by decide) : cpI 12 85 4294967295 (wget w 124)) (fun g124_68 h124_69 hb70 => ?_)
  obtain ⟨f12_71, h12_73, hb72⟩ := (xqc12 hI : cp12 (wget w 12))
  refine xoI (xqc13 hI : cpI 40 5 4294967295 (wget w 13)) (fun g13_74 h13_75 hb76 => ?_)
  obtain ⟨f125_77, h125_79, hb78⟩ := (hJ 125 (by decide) (by decide) : cp125 (wget w 125))
  refine xoI (hJ 126 (by decide) (by decide) : cpI 40 86 4294967295 (wget w 126)) (fun g126_80 h126_81 hb82 => ?_)
  refine xg_t (xg_blq rfl) ?_
  refine xg_t (xg_aload (va := (2, 3)) rfl rfl) ?_
  refine xg_t (xg_getf (va := (2, 4)) h3_11 rfl) ?_
  refine xg_t (xg_aload (va := (2, 116)) rfl rfl) ?_
  refine xg_t (xg_getf (va := (2, 117)) h116_22 rfl) ?_
  refine xg_cVv mX5_copy (vs := [(2, 117)]) (rest := []) (cn1 := 0) (sl1 := 0) rfl (rcopyX (lim := 6) (wd := 4) (B := 4294967295) h4_25 h117_31 h5_27 h118_33 (hb28) (hb34) (by decide) (by omega) (by decide) (by decide) (by decide) (by decide) (by decide) (by decide)) rfl h4_25 rfl rfl rfl rfl rfl rfl (fun w83 hq84 => ?_)
  obtain ⟨hk85, g86, hr87, hb88, hx90, hF89⟩ := hq84
  refine xg_t (xg_aload (va := (2, 3)) rfl rfl) ?_
  refine xg_t (xg_getf (va := (2, 6)) (hF89.get (by decide) h3_11) rfl) ?_
  refine xg_t (xg_aload (va := (2, 116)) rfl rfl) ?_
  refine xg_t (xg_getf (va := (2, 119)) (hF89.get (by decide) h116_22) rfl) ?_
  refine xg_cVv mX5_copy (vs := [(2, 119)]) (rest := []) (cn1 := 0) (sl1 := 0) rfl (rcopyX (lim := 4) (wd := 2) (B := 4294967295) (hF89.get (by decide) h6_37) (hF89.get (by decide) h119_43) (h7_39.fr hF89 (by decide)) (h120_45.fr hF89 (by decide)) (hb40) (hb46) (by decide) (by omega) (by decide) (by decide) (by decide) (by decide) (by decide) (by decide)) rfl (hF89.get (by decide) h6_37) rfl rfl rfl rfl rfl rfl (fun w91 hq92 => ?_)
  obtain ⟨hk93, g94, hr95, hb96, hx98, hF97⟩ := hq92
  refine xg_t (xg_aload (va := (2, 3)) rfl rfl) ?_
  refine xg_t (xg_getf (va := (2, 8)) (hF97.get (by decide) (hF89.get (by decide) h3_11)) rfl) ?_
  refine xg_t (xg_aload (va := (2, 116)) rfl rfl) ?_
  refine xg_t (xg_getf (va := (2, 121)) (hF97.get (by decide) (hF89.get (by decide) h116_22)) rfl) ?_
  refine xg_cVv mX5_copy (vs := [(2, 121)]) (rest := []) (cn1 := 0) (sl1 := 0) rfl (rcopyX (lim := 6) (wd := 2) (B := 4294967295) (hF97.get (by decide) (hF89.get (by decide) h8_49)) (hF97.get (by decide) (hF89.get (by decide) h121_55)) ((h9_51.fr hF89 (by decide)).fr hF97 (by decide)) ((h122_57.fr hF89 (by decide)).fr hF97 (by decide)) (hb52) (hb58) (by decide) (by omega) (by decide) (by decide) (by decide) (by decide) (by decide) (by decide)) rfl (hF97.get (by decide) (hF89.get (by decide) h8_49)) rfl rfl rfl rfl rfl rfl (fun w99 hq100 => ?_)
  obtain ⟨hk101, g102, hr103, hb104, hx106, hF105⟩ := hq100
  refine xg_t (xg_aload (va := (2, 3)) rfl rfl) ?_
  refine xg_t (xg_getf (va := (2, 10)) (hF105.get (by decide) (hF97.get (by decide) (hF89.get (by decide) h3_11))) rfl) ?_
  refine xg_t (xg_aload (va := (2, 116)) rfl rfl) ?_
  refine xg_t (xg_getf (va := (2, 123)) (hF105.get (by decide) (hF97.get (by decide) (hF89.get (by decide) h116_22))) rfl) ?_
  refine xg_cVv mX5_copy (vs := [(2, 123)]) (rest := []) (cn1 := 0) (sl1 := 0) rfl (rcopyX (lim := 4) (wd := 3) (B := 4294967295) (hF105.get (by decide) (hF97.get (by decide) (hF89.get (by decide) h10_61))) (hF105.get (by decide) (hF97.get (by decide) (hF89.get (by decide) h123_67))) (((h11_63.fr hF89 (by decide)).fr hF97 (by decide)).fr hF105 (by decide)) (((h124_69.fr hF89 (by decide)).fr hF97 (by decide)).fr hF105 (by decide)) (hb64) (hb70) (by decide) (by omega) (by decide) (by decide) (by decide) (by decide) (by decide) (by decide)) rfl (hF105.get (by decide) (hF97.get (by decide) (hF89.get (by decide) h10_61))) rfl rfl rfl rfl rfl rfl (fun w107 hq108 => ?_)
  obtain ⟨hk109, g110, hr111, hb112, hx114, hF113⟩ := hq108
  refine xg_t (xg_aload (va := (2, 3)) rfl rfl) ?_
  refine xg_t (xg_getf (va := (2, 12)) (hF113.get (by decide) (hF105.get (by decide) (hF97.get (by decide) (hF89.get (by decide) h3_11)))) rfl) ?_
  refine xg_t (xg_aload (va := (2, 116)) rfl rfl) ?_
  refine xg_t (xg_getf (va := (2, 125)) (hF113.get (by decide) (hF105.get (by decide) (hF97.get (by decide) (hF89.get (by decide) h116_22)))) rfl) ?_
  refine xg_cVv mX5_copy (vs := [(2, 125)]) (rest := []) (cn1 := 0) (sl1 := 0) rfl (rcopyX (lim := 20) (wd := 2) (B := 4294967295) (hF113.get (by decide) (hF105.get (by decide) (hF97.get (by decide) (hF89.get (by decide) h12_73)))) (hF113.get (by decide) (hF105.get (by decide) (hF97.get (by decide) (hF89.get (by decide) h125_79)))) ((((h13_75.fr hF89 (by decide)).fr hF97 (by decide)).fr hF105 (by decide)).fr hF113 (by decide)) ((((h126_81.fr hF89 (by decide)).fr hF97 (by decide)).fr hF105 (by decide)).fr hF113 (by decide)) (hb76) (hb82) (by decide) (by omega) (by decide) (by decide) (by decide) (by decide) (by decide) (by decide)) rfl (hF113.get (by decide) (hF105.get (by decide) (hF97.get (by decide) (hF89.get (by decide) h12_73)))) rfl rfl rfl rfl rfl rfl (fun w115 hq116 => ?_)
  obtain ⟨hk117, g118, hr119, hb120, hx122, hF121⟩ := hq116
  refine xg_t (xg_aload (va := (2, 3)) rfl rfl) ?_
  refine xg_t (xg_aload (va := (2, 116)) rfl rfl) ?_
  refine xg_t (xg_getf (va := (0, f116_12)) (hF121.get (by decide) (hF113.get (by decide) (hF105.get (by decide) (hF97.get (by decide) (hF89.get (by decide) h116_22))))) rfl) ?_
  refine xg_putI (fl1 := [(2, 4), (2, 6), (2, 8), (2, 10), (2, 12), (0, f116_12), (0, f3_3), (0, f3_5), (0, f3_7), (0, f3_9)]) (hF121.get (by decide) (hF113.get (by decide) (hF105.get (by decide) (hF97.get (by decide) (hF89.get (by decide) h3_11))))) rfl rfl rfl (fun w123 hk124 hb125 => ?_)
  refine xg_t (xg_aload (va := (2, 3)) rfl rfl) ?_
  refine xg_t (xg_aload (va := (2, 116)) rfl rfl) ?_
  refine xg_t (xg_getf (va := (0, f116_14)) (hb125.get (by decide) (hF121.get (by decide) (hF113.get (by decide) (hF105.get (by decide) (hF97.get (by decide) (hF89.get (by decide) h116_22)))))) rfl) ?_
  refine xg_putI (fl1 := [(2, 4), (2, 6), (2, 8), (2, 10), (2, 12), (0, f116_12), (0, f116_14), (0, f3_5), (0, f3_7), (0, f3_9)]) hk124 rfl rfl rfl (fun w126 hk127 hb128 => ?_)
  refine xg_t (xg_aload (va := (2, 3)) rfl rfl) ?_
  refine xg_t (xg_aload (va := (2, 116)) rfl rfl) ?_
  refine xg_t (xg_getf (va := (0, f116_16)) (hb128.get (by decide) (hb125.get (by decide) (hF121.get (by decide) (hF113.get (by decide) (hF105.get (by decide) (hF97.get (by decide) (hF89.get (by decide) h116_22))))))) rfl) ?_
  refine xg_putI (fl1 := [(2, 4), (2, 6), (2, 8), (2, 10), (2, 12), (0, f116_12), (0, f116_14), (0, f116_16), (0, f3_7), (0, f3_9)]) hk127 rfl rfl rfl (fun w129 hk130 hb131 => ?_)
  refine xg_t (xg_aload (va := (2, 3)) rfl rfl) ?_
  refine xg_t (xg_aload (va := (2, 116)) rfl rfl) ?_
  refine xg_t (xg_getf (va := (0, f116_18)) (hb131.get (by decide) (hb128.get (by decide) (hb125.get (by decide) (hF121.get (by decide) (hF113.get (by decide) (hF105.get (by decide) (hF97.get (by decide) (hF89.get (by decide) h116_22)))))))) rfl) ?_
  refine xg_putI (fl1 := [(2, 4), (2, 6), (2, 8), (2, 10), (2, 12), (0, f116_12), (0, f116_14), (0, f116_16), (0, f116_18), (0, f3_9)]) hk130 rfl rfl rfl (fun w132 hk133 hb134 => ?_)
  refine xg_t (xg_aload (va := (2, 3)) rfl rfl) ?_
  refine xg_t (xg_aload (va := (2, 116)) rfl rfl) ?_
  refine xg_t (xg_getf (va := (0, f116_20)) (hb134.get (by decide) (hb131.get (by decide) (hb128.get (by decide) (hb125.get (by decide) (hF121.get (by decide) (hF113.get (by decide) (hF105.get (by decide) (hF97.get (by decide) (hF89.get (by decide) h116_22))))))))) rfl) ?_
  refine xg_putI (fl1 := [(2, 4), (2, 6), (2, 8), (2, 10), (2, 12), (0, f116_12), (0, f116_14), (0, f116_16), (0, f116_18), (0, f116_20)]) hk133 rfl rfl rfl (fun w135 hk136 hb137 => ?_)
  have hq139 : fld w 117 3 = f117_29 := fld_of h117_31
  have hq138 : rwE w135 4 w 117 4 := ⟨((show fld w135 4 3 = f117_29 from fld_of (hb137.get (by decide) (hb134.get (by decide) (hb131.get (by decide) (hb128.get (by decide) (hb125.get (by decide) (hF121.get (by decide) (hF113.get (by decide) (hF105.get (by decide) (hF97.get (by decide) hk85)))))))))).trans (show fld w 117 3 = f117_29 from fld_of h117_31).symm), fun j hj => by
    rw [hq139] at hj
    exact (rwv_of (((((((((hr87.fr hF97 (by decide)).fr hF105 (by decide)).fr hF113 (by decide)).fr hF121 (by decide)).but hb125 (by decide)).but hb128 (by decide)).but hb131 (by decide)).but hb134 (by decide)).but hb137 (by decide)) (by omega)).trans ((hx90 j hj).trans (rwv_of h118_33 (by omega)).symm)⟩
  have hq141 : fld w 119 3 = f119_41 := fld_of h119_43
  have hq140 : rwE w135 6 w 119 2 := ⟨((show fld w135 6 3 = f119_41 from fld_of (hb137.get (by decide) (hb134.get (by decide) (hb131.get (by decide) (hb128.get (by decide) (hb125.get (by decide) (hF121.get (by decide) (hF113.get (by decide) (hF105.get (by decide) hk93))))))))).trans (show fld w 119 3 = f119_41 from fld_of h119_43).symm), fun j hj => by
    rw [hq141] at hj
    exact (rwv_of ((((((((hr95.fr hF105 (by decide)).fr hF113 (by decide)).fr hF121 (by decide)).but hb125 (by decide)).but hb128 (by decide)).but hb131 (by decide)).but hb134 (by decide)).but hb137 (by decide)) (by omega)).trans ((hx98 j hj).trans (rwv_of h120_45 (by omega)).symm)⟩
  have hq143 : fld w 121 3 = f121_53 := fld_of h121_55
  have hq142 : rwE w135 8 w 121 2 := ⟨((show fld w135 8 3 = f121_53 from fld_of (hb137.get (by decide) (hb134.get (by decide) (hb131.get (by decide) (hb128.get (by decide) (hb125.get (by decide) (hF121.get (by decide) (hF113.get (by decide) hk101)))))))).trans (show fld w 121 3 = f121_53 from fld_of h121_55).symm), fun j hj => by
    rw [hq143] at hj
    exact (rwv_of (((((((hr103.fr hF113 (by decide)).fr hF121 (by decide)).but hb125 (by decide)).but hb128 (by decide)).but hb131 (by decide)).but hb134 (by decide)).but hb137 (by decide)) (by omega)).trans ((hx106 j hj).trans (rwv_of h122_57 (by omega)).symm)⟩
  have hq145 : fld w 123 3 = f123_65 := fld_of h123_67
  have hq144 : rwE w135 10 w 123 3 := ⟨((show fld w135 10 3 = f123_65 from fld_of (hb137.get (by decide) (hb134.get (by decide) (hb131.get (by decide) (hb128.get (by decide) (hb125.get (by decide) (hF121.get (by decide) hk109))))))).trans (show fld w 123 3 = f123_65 from fld_of h123_67).symm), fun j hj => by
    rw [hq145] at hj
    exact (rwv_of ((((((hr111.fr hF121 (by decide)).but hb125 (by decide)).but hb128 (by decide)).but hb131 (by decide)).but hb134 (by decide)).but hb137 (by decide)) (by omega)).trans ((hx114 j hj).trans (rwv_of h124_69 (by omega)).symm)⟩
  have hq147 : fld w 125 3 = f125_77 := fld_of h125_79
  have hq146 : rwE w135 12 w 125 2 := ⟨((show fld w135 12 3 = f125_77 from fld_of (hb137.get (by decide) (hb134.get (by decide) (hb131.get (by decide) (hb128.get (by decide) (hb125.get (by decide) hk117)))))).trans (show fld w 125 3 = f125_77 from fld_of h125_79).symm), fun j hj => by
    rw [hq147] at hj
    exact (rwv_of (((((hr119.but hb125 (by decide)).but hb128 (by decide)).but hb131 (by decide)).but hb134 (by decide)).but hb137 (by decide)) (by omega)).trans ((hx122 j hj).trans (rwv_of h126_81 (by omega)).symm)⟩
  exact xg_e ⟨w135, ⟨rfl, rfl⟩, xInv.up (S := [4, 5, 6, 7, 8, 9, 10, 11, 12, 13, 3]) hI ((((((((((hF89.up (T := [4, 5, 6, 7, 8, 9, 10, 11, 12, 13, 3]) (by decide)).tr (hF97.up (T := [4, 5, 6, 7, 8, 9, 10, 11, 12, 13, 3]) (by decide))).tr (hF105.up (T := [4, 5, 6, 7, 8, 9, 10, 11, 12, 13, 3]) (by decide))).tr (hF113.up (T := [4, 5, 6, 7, 8, 9, 10, 11, 12, 13, 3]) (by decide))).tr (hF121.up (T := [4, 5, 6, 7, 8, 9, 10, 11, 12, 13, 3]) (by decide))).tr (xFr.of (S := [4, 5, 6, 7, 8, 9, 10, 11, 12, 13, 3]) hb125 (by decide))).tr (xFr.of (S := [4, 5, 6, 7, 8, 9, 10, 11, 12, 13, 3]) hb128 (by decide))).tr (xFr.of (S := [4, 5, 6, 7, 8, 9, 10, 11, 12, 13, 3]) hb131 (by decide))).tr (xFr.of (S := [4, 5, 6, 7, 8, 9, 10, 11, 12, 13, 3]) hb134 (by decide))).tr (xFr.of (S := [4, 5, 6, 7, 8, 9, 10, 11, 12, 13, 3]) hb137 (by decide))) (List.forall_mem_cons.mpr ⟨xqu4 (show cp4 (wget w135 4) from ⟨f117_29, (hb137.get (by decide) (hb134.get (by decide) (hb131.get (by decide) (hb128.get (by decide) (hb125.get (by decide) (hF121.get (by decide) (hF113.get (by decide) (hF105.get (by decide) (hF97.get (by decide) hk85))))))))), hb30⟩), List.forall_mem_cons.mpr ⟨xqu5 (show cpI 24 1 4294967295 (wget w135 5) from ⟨_, (((((((((hr87.fr hF97 (by decide)).fr hF105 (by decide)).fr hF113 (by decide)).fr hF121 (by decide)).but hb125 (by decide)).but hb128 (by decide)).but hb131 (by decide)).but hb134 (by decide)).but hb137 (by decide)), hb88⟩), List.forall_mem_cons.mpr ⟨xqu6 (show cp6 (wget w135 6) from ⟨f119_41, (hb137.get (by decide) (hb134.get (by decide) (hb131.get (by decide) (hb128.get (by decide) (hb125.get (by decide) (hF121.get (by decide) (hF113.get (by decide) (hF105.get (by decide) hk93)))))))), hb42⟩), List.forall_mem_cons.mpr ⟨xqu7 (show cpI 8 2 4294967295 (wget w135 7) from ⟨_, ((((((((hr95.fr hF105 (by decide)).fr hF113 (by decide)).fr hF121 (by decide)).but hb125 (by decide)).but hb128 (by decide)).but hb131 (by decide)).but hb134 (by decide)).but hb137 (by decide)), hb96⟩), List.forall_mem_cons.mpr ⟨xqu8 (show cp8 (wget w135 8) from ⟨f121_53, (hb137.get (by decide) (hb134.get (by decide) (hb131.get (by decide) (hb128.get (by decide) (hb125.get (by decide) (hF121.get (by decide) (hF113.get (by decide) hk101))))))), hb54⟩), List.forall_mem_cons.mpr ⟨xqu9 (show cpI 12 3 4294967295 (wget w135 9) from ⟨_, (((((((hr103.fr hF113 (by decide)).fr hF121 (by decide)).but hb125 (by decide)).but hb128 (by decide)).but hb131 (by decide)).but hb134 (by decide)).but hb137 (by decide)), hb104⟩), List.forall_mem_cons.mpr ⟨xqu10 (show cp10 (wget w135 10) from ⟨f123_65, (hb137.get (by decide) (hb134.get (by decide) (hb131.get (by decide) (hb128.get (by decide) (hb125.get (by decide) (hF121.get (by decide) hk109)))))), hb66⟩), List.forall_mem_cons.mpr ⟨xqu11 (show cpI 12 4 4294967295 (wget w135 11) from ⟨_, ((((((hr111.fr hF121 (by decide)).but hb125 (by decide)).but hb128 (by decide)).but hb131 (by decide)).but hb134 (by decide)).but hb137 (by decide)), hb112⟩), List.forall_mem_cons.mpr ⟨xqu12 (show cp12 (wget w135 12) from ⟨f125_77, (hb137.get (by decide) (hb134.get (by decide) (hb131.get (by decide) (hb128.get (by decide) (hb125.get (by decide) hk117))))), hb78⟩), List.forall_mem_cons.mpr ⟨xqu13 (show cpI 40 5 4294967295 (wget w135 13) from ⟨_, (((((hr119.but hb125 (by decide)).but hb128 (by decide)).but hb131 (by decide)).but hb134 (by decide)).but hb137 (by decide)), hb120⟩), List.forall_mem_cons.mpr ⟨xqu3 (show cp3 (wget w135 3) from xmC3 f116_12 f116_14 f116_16 f116_18 f116_20 hk136 hb13 hb15 hb17 hb19 hb21), fun _ h => absurd h List.not_mem_nil⟩⟩⟩⟩⟩⟩⟩⟩⟩⟩⟩), ((((((((((hF89.up (T := [3, 4, 5, 6, 7, 8, 9, 10, 11, 12, 13]) (by decide)).tr (hF97.up (T := [3, 4, 5, 6, 7, 8, 9, 10, 11, 12, 13]) (by decide))).tr (hF105.up (T := [3, 4, 5, 6, 7, 8, 9, 10, 11, 12, 13]) (by decide))).tr (hF113.up (T := [3, 4, 5, 6, 7, 8, 9, 10, 11, 12, 13]) (by decide))).tr (hF121.up (T := [3, 4, 5, 6, 7, 8, 9, 10, 11, 12, 13]) (by decide))).tr (xFr.of (S := [3, 4, 5, 6, 7, 8, 9, 10, 11, 12, 13]) hb125 (by decide))).tr (xFr.of (S := [3, 4, 5, 6, 7, 8, 9, 10, 11, 12, 13]) hb128 (by decide))).tr (xFr.of (S := [3, 4, 5, 6, 7, 8, 9, 10, 11, 12, 13]) hb131 (by decide))).tr (xFr.of (S := [3, 4, 5, 6, 7, 8, 9, 10, 11, 12, 13]) hb134 (by decide))).tr (xFr.of (S := [3, 4, 5, 6, 7, 8, 9, 10, 11, 12, 13]) hb137 (by decide))), ⟨xIm.up (S := [4, 5, 6, 7, 8, 9, 10, 11, 12, 13, 3]) hJ ((((((((((hF89.up (T := [4, 5, 6, 7, 8, 9, 10, 11, 12, 13, 3]) (by decide)).tr (hF97.up (T := [4, 5, 6, 7, 8, 9, 10, 11, 12, 13, 3]) (by decide))).tr (hF105.up (T := [4, 5, 6, 7, 8, 9, 10, 11, 12, 13, 3]) (by decide))).tr (hF113.up (T := [4, 5, 6, 7, 8, 9, 10, 11, 12, 13, 3]) (by decide))).tr (hF121.up (T := [4, 5, 6, 7, 8, 9, 10, 11, 12, 13, 3]) (by decide))).tr (xFr.of (S := [4, 5, 6, 7, 8, 9, 10, 11, 12, 13, 3]) hb125 (by decide))).tr (xFr.of (S := [4, 5, 6, 7, 8, 9, 10, 11, 12, 13, 3]) hb128 (by decide))).tr (xFr.of (S := [4, 5, 6, 7, 8, 9, 10, 11, 12, 13, 3]) hb131 (by decide))).tr (xFr.of (S := [4, 5, 6, 7, 8, 9, 10, 11, 12, 13, 3]) hb134 (by decide))).tr (xFr.of (S := [4, 5, 6, 7, 8, 9, 10, 11, 12, 13, 3]) hb137 (by decide))) (List.forall_mem_cons.mpr ⟨(fun h => absurd h (by omega)), List.forall_mem_cons.mpr ⟨(fun h => absurd h (by omega)), List.forall_mem_cons.mpr ⟨(fun h => absurd h (by omega)), List.forall_mem_cons.mpr ⟨(fun h => absurd h (by omega)), List.forall_mem_cons.mpr ⟨(fun h => absurd h (by omega)), List.forall_mem_cons.mpr ⟨(fun h => absurd h (by omega)), List.forall_mem_cons.mpr ⟨(fun h => absurd h (by omega)), List.forall_mem_cons.mpr ⟨(fun h => absurd h (by omega)), List.forall_mem_cons.mpr ⟨(fun h => absurd h (by omega)), List.forall_mem_cons.mpr ⟨(fun h => absurd h (by omega)), List.forall_mem_cons.mpr ⟨(fun h => absurd h (by omega)), fun _ h => absurd h List.not_mem_nil⟩⟩⟩⟩⟩⟩⟩⟩⟩⟩⟩), ⟨⟨((show fld w135 3 5 = f116_12 from fld_of hk136).trans (show fld w 116 5 = f116_12 from fld_of h116_22).symm), ((show fld w135 3 6 = f116_14 from fld_of hk136).trans (show fld w 116 6 = f116_14 from fld_of h116_22).symm), ((show fld w135 3 7 = f116_16 from fld_of hk136).trans (show fld w 116 7 = f116_16 from fld_of h116_22).symm), ((show fld w135 3 8 = f116_18 from fld_of hk136).trans (show fld w 116 8 = f116_18 from fld_of h116_22).symm), ((show fld w135 3 9 = f116_20 from fld_of hk136).trans (show fld w 116 9 = f116_20 from fld_of h116_22).symm)⟩, hq138, hq140, hq142, hq144, hq146⟩⟩⟩
set_option maxRecDepth 100000 in
theorem imFilmE11 (hI : xInv w) (hJ : xIm 139 164 w) : xPq (d + 2) mX1_copy [(2, 141), (2, 3)] w bd fc rr [] (fun w' => xInv w' ∧ xFr [141, 142, 143, 144, 145, 146, 147, 148, 149, 150, 151] w w' ∧ (xIm 139 164 w' ∧ fmE w' 141 w 3)) := by
  refine xPq.of ?_
  show xTo (d + 2) mX1_copy (0, [], [(0, (2, 141)), (1, (2, 3))], [], (w, bd, fc, 0, 0, rr)) (fun φ => ∃ w', xEnd 0 [] (w', bd, fc, 0, 0, rr) φ ∧ xInv w' ∧ xFr [141, 142, 143, 144, 145, 146, 147, 148, 149, 150, 151] w w' ∧ (xIm 139 164 w' ∧ fmE w' 141 w 3))
  refine xoC3 (xqc3 hI : cp3 (wget w 3)) (fun f3_1 f3_3 f3_5 f3_7 f3_9 h3_11 hb2 hb4 hb6 hb8 hb10 => ?_)
  obtain ⟨f141_12, f141_14, f141_16, f141_18, f141_20, h141_22, hb13, hb15, hb17, hb19, hb21⟩ := (hJ 141 (by decide) (by decide) : cp141 (wget w 141))
  obtain ⟨f4_23, h4_25, hb24⟩ := (xqc4 hI : cp4 (wget w 4))
  refine xoI (xqc5 hI : cpI 24 1 4294967295 (wget w 5)) (fun g5_26 h5_27 hb28 => ?_)
  obtain ⟨f142_29, h142_31, hb30⟩ := (hJ 142 (by decide) (by decide) : cp142 (wget w 142))
  refine xoI (hJ 143 (by decide) (by decide) : cpI 24 94 4294967295 (wget w 143)) (fun g143_32 h143_33 hb34 => ?_)
  obtain ⟨f6_35, h6_37, hb36⟩ := (xqc6 hI : cp6 (wget w 6))
  refine xoI (xqc7 hI : cpI 8 2 4294967295 (wget w 7)) (fun g7_38 h7_39 hb40 => ?_)
  obtain ⟨f144_41, h144_43, hb42⟩ := (hJ 144 (by decide) (by decide) : cp144 (wget w 144))
  refine xoI (hJ 145 (by decide) (by decide) : cpI 8 95 4294967295 (wget w 145)) (fun g145_44 h145_45 hb46 => ?_)
  obtain ⟨f8_47, h8_49, hb48⟩ := (xqc8 hI : cp8 (wget w 8))
  refine xoI (xqc9 hI : cpI 12 3 4294967295 (wget w 9)) (fun g9_50 h9_51 hb52 => ?_)
  obtain ⟨f146_53, h146_55, hb54⟩ := (hJ 146 (by decide) (by decide) : cp146 (wget w 146))
  refine xoI (hJ 147 (by decide) (by decide) : cpI 12 96 4294967295 (wget w 147)) (fun g147_56 h147_57 hb58 => ?_)
  obtain ⟨f10_59, h10_61, hb60⟩ := (xqc10 hI : cp10 (wget w 10))
  refine xoI (xqc11 hI : cpI 12 4 4294967295 (wget w 11)) (fun g11_62 h11_63 hb64 => ?_)
  obtain ⟨f148_65, h148_67, hb66⟩ := (hJ 148 (by decide) (by decide) : cp148 (wget w 148))
  refine xoI (hJ 149 (by decide) (by decide) : cpI 12 97 4294967295 (wget w 149)) (fun g149_68 h149_69 hb70 => ?_)
  obtain ⟨f12_71, h12_73, hb72⟩ := (xqc12 hI : cp12 (wget w 12))
  refine xoI (xqc13 hI : cpI 40 5 4294967295 (wget w 13)) (fun g13_74 h13_75 hb76 => ?_)
  obtain ⟨f150_77, h150_79, hb78⟩ := (hJ 150 (by decide) (by decide) : cp150 (wget w 150))
  refine xoI (hJ 151 (by decide) (by decide) : cpI 40 98 4294967295 (wget w 151)) (fun g151_80 h151_81 hb82 => ?_)
  refine xg_t (xg_blq rfl) ?_
  refine xg_t (xg_aload (va := (2, 141)) rfl rfl) ?_
  refine xg_t (xg_getf (va := (2, 142)) h141_22 rfl) ?_
  refine xg_t (xg_aload (va := (2, 3)) rfl rfl) ?_
  refine xg_t (xg_getf (va := (2, 4)) h3_11 rfl) ?_
  refine xg_cVv mX5_copy (vs := [(2, 4)]) (rest := []) (cn1 := 0) (sl1 := 0) rfl (rcopyX (lim := 6) (wd := 4) (B := 4294967295) h142_31 h4_25 h143_33 h5_27 (hb34) (hb28) (by decide) (by omega) (by decide) (by decide) (by decide) (by decide) (by decide) (by decide)) rfl h142_31 rfl rfl rfl rfl rfl rfl (fun w83 hq84 => ?_)
  obtain ⟨hk85, g86, hr87, hb88, hx90, hF89⟩ := hq84
  refine xg_t (xg_aload (va := (2, 141)) rfl rfl) ?_
  refine xg_t (xg_getf (va := (2, 144)) (hF89.get (by decide) h141_22) rfl) ?_
  refine xg_t (xg_aload (va := (2, 3)) rfl rfl) ?_
  refine xg_t (xg_getf (va := (2, 6)) (hF89.get (by decide) h3_11) rfl) ?_
  refine xg_cVv mX5_copy (vs := [(2, 6)]) (rest := []) (cn1 := 0) (sl1 := 0) rfl (rcopyX (lim := 4) (wd := 2) (B := 4294967295) (hF89.get (by decide) h144_43) (hF89.get (by decide) h6_37) (h145_45.fr hF89 (by decide)) (h7_39.fr hF89 (by decide)) (hb46) (hb40) (by decide) (by omega) (by decide) (by decide) (by decide) (by decide) (by decide) (by decide)) rfl (hF89.get (by decide) h144_43) rfl rfl rfl rfl rfl rfl (fun w91 hq92 => ?_)
  obtain ⟨hk93, g94, hr95, hb96, hx98, hF97⟩ := hq92
  refine xg_t (xg_aload (va := (2, 141)) rfl rfl) ?_
  refine xg_t (xg_getf (va := (2, 146)) (hF97.get (by decide) (hF89.get (by decide) h141_22)) rfl) ?_
  refine xg_t (xg_aload (va := (2, 3)) rfl rfl) ?_
  refine xg_t (xg_getf (va := (2, 8)) (hF97.get (by decide) (hF89.get (by decide) h3_11)) rfl) ?_
  refine xg_cVv mX5_copy (vs := [(2, 8)]) (rest := []) (cn1 := 0) (sl1 := 0) rfl (rcopyX (lim := 6) (wd := 2) (B := 4294967295) (hF97.get (by decide) (hF89.get (by decide) h146_55)) (hF97.get (by decide) (hF89.get (by decide) h8_49)) ((h147_57.fr hF89 (by decide)).fr hF97 (by decide)) ((h9_51.fr hF89 (by decide)).fr hF97 (by decide)) (hb58) (hb52) (by decide) (by omega) (by decide) (by decide) (by decide) (by decide) (by decide) (by decide)) rfl (hF97.get (by decide) (hF89.get (by decide) h146_55)) rfl rfl rfl rfl rfl rfl (fun w99 hq100 => ?_)
  obtain ⟨hk101, g102, hr103, hb104, hx106, hF105⟩ := hq100
  refine xg_t (xg_aload (va := (2, 141)) rfl rfl) ?_
  refine xg_t (xg_getf (va := (2, 148)) (hF105.get (by decide) (hF97.get (by decide) (hF89.get (by decide) h141_22))) rfl) ?_
  refine xg_t (xg_aload (va := (2, 3)) rfl rfl) ?_
  refine xg_t (xg_getf (va := (2, 10)) (hF105.get (by decide) (hF97.get (by decide) (hF89.get (by decide) h3_11))) rfl) ?_
  refine xg_cVv mX5_copy (vs := [(2, 10)]) (rest := []) (cn1 := 0) (sl1 := 0) rfl (rcopyX (lim := 4) (wd := 3) (B := 4294967295) (hF105.get (by decide) (hF97.get (by decide) (hF89.get (by decide) h148_67))) (hF105.get (by decide) (hF97.get (by decide) (hF89.get (by decide) h10_61))) (((h149_69.fr hF89 (by decide)).fr hF97 (by decide)).fr hF105 (by decide)) (((h11_63.fr hF89 (by decide)).fr hF97 (by decide)).fr hF105 (by decide)) (hb70) (hb64) (by decide) (by omega) (by decide) (by decide) (by decide) (by decide) (by decide) (by decide)) rfl (hF105.get (by decide) (hF97.get (by decide) (hF89.get (by decide) h148_67))) rfl rfl rfl rfl rfl rfl (fun w107 hq108 => ?_)
  obtain ⟨hk109, g110, hr111, hb112, hx114, hF113⟩ := hq108
  refine xg_t (xg_aload (va := (2, 141)) rfl rfl) ?_
  refine xg_t (xg_getf (va := (2, 150)) (hF113.get (by decide) (hF105.get (by decide) (hF97.get (by decide) (hF89.get (by decide) h141_22)))) rfl) ?_
  refine xg_t (xg_aload (va := (2, 3)) rfl rfl) ?_
  refine xg_t (xg_getf (va := (2, 12)) (hF113.get (by decide) (hF105.get (by decide) (hF97.get (by decide) (hF89.get (by decide) h3_11)))) rfl) ?_
  refine xg_cVv mX5_copy (vs := [(2, 12)]) (rest := []) (cn1 := 0) (sl1 := 0) rfl (rcopyX (lim := 20) (wd := 2) (B := 4294967295) (hF113.get (by decide) (hF105.get (by decide) (hF97.get (by decide) (hF89.get (by decide) h150_79)))) (hF113.get (by decide) (hF105.get (by decide) (hF97.get (by decide) (hF89.get (by decide) h12_73)))) ((((h151_81.fr hF89 (by decide)).fr hF97 (by decide)).fr hF105 (by decide)).fr hF113 (by decide)) ((((h13_75.fr hF89 (by decide)).fr hF97 (by decide)).fr hF105 (by decide)).fr hF113 (by decide)) (hb82) (hb76) (by decide) (by omega) (by decide) (by decide) (by decide) (by decide) (by decide) (by decide)) rfl (hF113.get (by decide) (hF105.get (by decide) (hF97.get (by decide) (hF89.get (by decide) h150_79)))) rfl rfl rfl rfl rfl rfl (fun w115 hq116 => ?_)
  obtain ⟨hk117, g118, hr119, hb120, hx122, hF121⟩ := hq116
  refine xg_t (xg_aload (va := (2, 141)) rfl rfl) ?_
  refine xg_t (xg_aload (va := (2, 3)) rfl rfl) ?_
  refine xg_t (xg_getf (va := (0, f3_1)) (hF121.get (by decide) (hF113.get (by decide) (hF105.get (by decide) (hF97.get (by decide) (hF89.get (by decide) h3_11))))) rfl) ?_
  refine xg_putI (fl1 := [(2, 142), (2, 144), (2, 146), (2, 148), (2, 150), (0, f3_1), (0, f141_14), (0, f141_16), (0, f141_18), (0, f141_20)]) (hF121.get (by decide) (hF113.get (by decide) (hF105.get (by decide) (hF97.get (by decide) (hF89.get (by decide) h141_22))))) rfl rfl rfl (fun w123 hk124 hb125 => ?_)
  refine xg_t (xg_aload (va := (2, 141)) rfl rfl) ?_
  refine xg_t (xg_aload (va := (2, 3)) rfl rfl) ?_
  refine xg_t (xg_getf (va := (0, f3_3)) (hb125.get (by decide) (hF121.get (by decide) (hF113.get (by decide) (hF105.get (by decide) (hF97.get (by decide) (hF89.get (by decide) h3_11)))))) rfl) ?_
  refine xg_putI (fl1 := [(2, 142), (2, 144), (2, 146), (2, 148), (2, 150), (0, f3_1), (0, f3_3), (0, f141_16), (0, f141_18), (0, f141_20)]) hk124 rfl rfl rfl (fun w126 hk127 hb128 => ?_)
  refine xg_t (xg_aload (va := (2, 141)) rfl rfl) ?_
  refine xg_t (xg_aload (va := (2, 3)) rfl rfl) ?_
  refine xg_t (xg_getf (va := (0, f3_5)) (hb128.get (by decide) (hb125.get (by decide) (hF121.get (by decide) (hF113.get (by decide) (hF105.get (by decide) (hF97.get (by decide) (hF89.get (by decide) h3_11))))))) rfl) ?_
  refine xg_putI (fl1 := [(2, 142), (2, 144), (2, 146), (2, 148), (2, 150), (0, f3_1), (0, f3_3), (0, f3_5), (0, f141_18), (0, f141_20)]) hk127 rfl rfl rfl (fun w129 hk130 hb131 => ?_)
  refine xg_t (xg_aload (va := (2, 141)) rfl rfl) ?_
  refine xg_t (xg_aload (va := (2, 3)) rfl rfl) ?_
  refine xg_t (xg_getf (va := (0, f3_7)) (hb131.get (by decide) (hb128.get (by decide) (hb125.get (by decide) (hF121.get (by decide) (hF113.get (by decide) (hF105.get (by decide) (hF97.get (by decide) (hF89.get (by decide) h3_11)))))))) rfl) ?_
  refine xg_putI (fl1 := [(2, 142), (2, 144), (2, 146), (2, 148), (2, 150), (0, f3_1), (0, f3_3), (0, f3_5), (0, f3_7), (0, f141_20)]) hk130 rfl rfl rfl (fun w132 hk133 hb134 => ?_)
  refine xg_t (xg_aload (va := (2, 141)) rfl rfl) ?_
  refine xg_t (xg_aload (va := (2, 3)) rfl rfl) ?_
  refine xg_t (xg_getf (va := (0, f3_9)) (hb134.get (by decide) (hb131.get (by decide) (hb128.get (by decide) (hb125.get (by decide) (hF121.get (by decide) (hF113.get (by decide) (hF105.get (by decide) (hF97.get (by decide) (hF89.get (by decide) h3_11))))))))) rfl) ?_
  refine xg_putI (fl1 := [(2, 142), (2, 144), (2, 146), (2, 148), (2, 150), (0, f3_1), (0, f3_3), (0, f3_5), (0, f3_7), (0, f3_9)]) hk133 rfl rfl rfl (fun w135 hk136 hb137 => ?_)
  have hq139 : fld w 4 3 = f4_23 := fld_of h4_25
  have hq138 : rwE w135 142 w 4 4 := ⟨((show fld w135 142 3 = f4_23 from fld_of (hb137.get (by decide) (hb134.get (by decide) (hb131.get (by decide) (hb128.get (by decide) (hb125.get (by decide) (hF121.get (by decide) (hF113.get (by decide) (hF105.get (by decide) (hF97.get (by decide) hk85)))))))))).trans (show fld w 4 3 = f4_23 from fld_of h4_25).symm), fun j hj => by
    rw [hq139] at hj
    exact (rwv_of (((((((((hr87.fr hF97 (by decide)).fr hF105 (by decide)).fr hF113 (by decide)).fr hF121 (by decide)).but hb125 (by decide)).but hb128 (by decide)).but hb131 (by decide)).but hb134 (by decide)).but hb137 (by decide)) (by omega)).trans ((hx90 j hj).trans (rwv_of h5_27 (by omega)).symm)⟩
  have hq141 : fld w 6 3 = f6_35 := fld_of h6_37
  have hq140 : rwE w135 144 w 6 2 := ⟨((show fld w135 144 3 = f6_35 from fld_of (hb137.get (by decide) (hb134.get (by decide) (hb131.get (by decide) (hb128.get (by decide) (hb125.get (by decide) (hF121.get (by decide) (hF113.get (by decide) (hF105.get (by decide) hk93))))))))).trans (show fld w 6 3 = f6_35 from fld_of h6_37).symm), fun j hj => by
    rw [hq141] at hj
    exact (rwv_of ((((((((hr95.fr hF105 (by decide)).fr hF113 (by decide)).fr hF121 (by decide)).but hb125 (by decide)).but hb128 (by decide)).but hb131 (by decide)).but hb134 (by decide)).but hb137 (by decide)) (by omega)).trans ((hx98 j hj).trans (rwv_of h7_39 (by omega)).symm)⟩
  have hq143 : fld w 8 3 = f8_47 := fld_of h8_49
  have hq142 : rwE w135 146 w 8 2 := ⟨((show fld w135 146 3 = f8_47 from fld_of (hb137.get (by decide) (hb134.get (by decide) (hb131.get (by decide) (hb128.get (by decide) (hb125.get (by decide) (hF121.get (by decide) (hF113.get (by decide) hk101)))))))).trans (show fld w 8 3 = f8_47 from fld_of h8_49).symm), fun j hj => by
    rw [hq143] at hj
    exact (rwv_of (((((((hr103.fr hF113 (by decide)).fr hF121 (by decide)).but hb125 (by decide)).but hb128 (by decide)).but hb131 (by decide)).but hb134 (by decide)).but hb137 (by decide)) (by omega)).trans ((hx106 j hj).trans (rwv_of h9_51 (by omega)).symm)⟩
  have hq145 : fld w 10 3 = f10_59 := fld_of h10_61
  have hq144 : rwE w135 148 w 10 3 := ⟨((show fld w135 148 3 = f10_59 from fld_of (hb137.get (by decide) (hb134.get (by decide) (hb131.get (by decide) (hb128.get (by decide) (hb125.get (by decide) (hF121.get (by decide) hk109))))))).trans (show fld w 10 3 = f10_59 from fld_of h10_61).symm), fun j hj => by
    rw [hq145] at hj
    exact (rwv_of ((((((hr111.fr hF121 (by decide)).but hb125 (by decide)).but hb128 (by decide)).but hb131 (by decide)).but hb134 (by decide)).but hb137 (by decide)) (by omega)).trans ((hx114 j hj).trans (rwv_of h11_63 (by omega)).symm)⟩
  have hq147 : fld w 12 3 = f12_71 := fld_of h12_73
  have hq146 : rwE w135 150 w 12 2 := ⟨((show fld w135 150 3 = f12_71 from fld_of (hb137.get (by decide) (hb134.get (by decide) (hb131.get (by decide) (hb128.get (by decide) (hb125.get (by decide) hk117)))))).trans (show fld w 12 3 = f12_71 from fld_of h12_73).symm), fun j hj => by
    rw [hq147] at hj
    exact (rwv_of (((((hr119.but hb125 (by decide)).but hb128 (by decide)).but hb131 (by decide)).but hb134 (by decide)).but hb137 (by decide)) (by omega)).trans ((hx122 j hj).trans (rwv_of h13_75 (by omega)).symm)⟩
  exact xg_e ⟨w135, ⟨rfl, rfl⟩, xInv.up (S := [142, 143, 144, 145, 146, 147, 148, 149, 150, 151, 141]) hI ((((((((((hF89.up (T := [142, 143, 144, 145, 146, 147, 148, 149, 150, 151, 141]) (by decide)).tr (hF97.up (T := [142, 143, 144, 145, 146, 147, 148, 149, 150, 151, 141]) (by decide))).tr (hF105.up (T := [142, 143, 144, 145, 146, 147, 148, 149, 150, 151, 141]) (by decide))).tr (hF113.up (T := [142, 143, 144, 145, 146, 147, 148, 149, 150, 151, 141]) (by decide))).tr (hF121.up (T := [142, 143, 144, 145, 146, 147, 148, 149, 150, 151, 141]) (by decide))).tr (xFr.of (S := [142, 143, 144, 145, 146, 147, 148, 149, 150, 151, 141]) hb125 (by decide))).tr (xFr.of (S := [142, 143, 144, 145, 146, 147, 148, 149, 150, 151, 141]) hb128 (by decide))).tr (xFr.of (S := [142, 143, 144, 145, 146, 147, 148, 149, 150, 151, 141]) hb131 (by decide))).tr (xFr.of (S := [142, 143, 144, 145, 146, 147, 148, 149, 150, 151, 141]) hb134 (by decide))).tr (xFr.of (S := [142, 143, 144, 145, 146, 147, 148, 149, 150, 151, 141]) hb137 (by decide))) (List.forall_mem_cons.mpr ⟨(show True from trivial), List.forall_mem_cons.mpr ⟨(show True from trivial), List.forall_mem_cons.mpr ⟨(show True from trivial), List.forall_mem_cons.mpr ⟨(show True from trivial), List.forall_mem_cons.mpr ⟨(show True from trivial), List.forall_mem_cons.mpr ⟨(show True from trivial), List.forall_mem_cons.mpr ⟨(show True from trivial), List.forall_mem_cons.mpr ⟨(show True from trivial), List.forall_mem_cons.mpr ⟨(show True from trivial), List.forall_mem_cons.mpr ⟨(show True from trivial), List.forall_mem_cons.mpr ⟨(show True from trivial), fun _ h => absurd h List.not_mem_nil⟩⟩⟩⟩⟩⟩⟩⟩⟩⟩⟩), ((((((((((hF89.up (T := [141, 142, 143, 144, 145, 146, 147, 148, 149, 150, 151]) (by decide)).tr (hF97.up (T := [141, 142, 143, 144, 145, 146, 147, 148, 149, 150, 151]) (by decide))).tr (hF105.up (T := [141, 142, 143, 144, 145, 146, 147, 148, 149, 150, 151]) (by decide))).tr (hF113.up (T := [141, 142, 143, 144, 145, 146, 147, 148, 149, 150, 151]) (by decide))).tr (hF121.up (T := [141, 142, 143, 144, 145, 146, 147, 148, 149, 150, 151]) (by decide))).tr (xFr.of (S := [141, 142, 143, 144, 145, 146, 147, 148, 149, 150, 151]) hb125 (by decide))).tr (xFr.of (S := [141, 142, 143, 144, 145, 146, 147, 148, 149, 150, 151]) hb128 (by decide))).tr (xFr.of (S := [141, 142, 143, 144, 145, 146, 147, 148, 149, 150, 151]) hb131 (by decide))).tr (xFr.of (S := [141, 142, 143, 144, 145, 146, 147, 148, 149, 150, 151]) hb134 (by decide))).tr (xFr.of (S := [141, 142, 143, 144, 145, 146, 147, 148, 149, 150, 151]) hb137 (by decide))), ⟨xIm.up (S := [142, 143, 144, 145, 146, 147, 148, 149, 150, 151, 141]) hJ ((((((((((hF89.up (T := [142, 143, 144, 145, 146, 147, 148, 149, 150, 151, 141]) (by decide)).tr (hF97.up (T := [142, 143, 144, 145, 146, 147, 148, 149, 150, 151, 141]) (by decide))).tr (hF105.up (T := [142, 143, 144, 145, 146, 147, 148, 149, 150, 151, 141]) (by decide))).tr (hF113.up (T := [142, 143, 144, 145, 146, 147, 148, 149, 150, 151, 141]) (by decide))).tr (hF121.up (T := [142, 143, 144, 145, 146, 147, 148, 149, 150, 151, 141]) (by decide))).tr (xFr.of (S := [142, 143, 144, 145, 146, 147, 148, 149, 150, 151, 141]) hb125 (by decide))).tr (xFr.of (S := [142, 143, 144, 145, 146, 147, 148, 149, 150, 151, 141]) hb128 (by decide))).tr (xFr.of (S := [142, 143, 144, 145, 146, 147, 148, 149, 150, 151, 141]) hb131 (by decide))).tr (xFr.of (S := [142, 143, 144, 145, 146, 147, 148, 149, 150, 151, 141]) hb134 (by decide))).tr (xFr.of (S := [142, 143, 144, 145, 146, 147, 148, 149, 150, 151, 141]) hb137 (by decide))) (List.forall_mem_cons.mpr ⟨(fun _ => show cp142 (wget w135 142) from ⟨f4_23, (hb137.get (by decide) (hb134.get (by decide) (hb131.get (by decide) (hb128.get (by decide) (hb125.get (by decide) (hF121.get (by decide) (hF113.get (by decide) (hF105.get (by decide) (hF97.get (by decide) hk85))))))))), by omega⟩), List.forall_mem_cons.mpr ⟨(fun _ => show cpI 24 94 4294967295 (wget w135 143) from ⟨_, (((((((((hr87.fr hF97 (by decide)).fr hF105 (by decide)).fr hF113 (by decide)).fr hF121 (by decide)).but hb125 (by decide)).but hb128 (by decide)).but hb131 (by decide)).but hb134 (by decide)).but hb137 (by decide)), hb88⟩), List.forall_mem_cons.mpr ⟨(fun _ => show cp144 (wget w135 144) from ⟨f6_35, (hb137.get (by decide) (hb134.get (by decide) (hb131.get (by decide) (hb128.get (by decide) (hb125.get (by decide) (hF121.get (by decide) (hF113.get (by decide) (hF105.get (by decide) hk93)))))))), by omega⟩), List.forall_mem_cons.mpr ⟨(fun _ => show cpI 8 95 4294967295 (wget w135 145) from ⟨_, ((((((((hr95.fr hF105 (by decide)).fr hF113 (by decide)).fr hF121 (by decide)).but hb125 (by decide)).but hb128 (by decide)).but hb131 (by decide)).but hb134 (by decide)).but hb137 (by decide)), hb96⟩), List.forall_mem_cons.mpr ⟨(fun _ => show cp146 (wget w135 146) from ⟨f8_47, (hb137.get (by decide) (hb134.get (by decide) (hb131.get (by decide) (hb128.get (by decide) (hb125.get (by decide) (hF121.get (by decide) (hF113.get (by decide) hk101))))))), by omega⟩), List.forall_mem_cons.mpr ⟨(fun _ => show cpI 12 96 4294967295 (wget w135 147) from ⟨_, (((((((hr103.fr hF113 (by decide)).fr hF121 (by decide)).but hb125 (by decide)).but hb128 (by decide)).but hb131 (by decide)).but hb134 (by decide)).but hb137 (by decide)), hb104⟩), List.forall_mem_cons.mpr ⟨(fun _ => show cp148 (wget w135 148) from ⟨f10_59, (hb137.get (by decide) (hb134.get (by decide) (hb131.get (by decide) (hb128.get (by decide) (hb125.get (by decide) (hF121.get (by decide) hk109)))))), by omega⟩), List.forall_mem_cons.mpr ⟨(fun _ => show cpI 12 97 4294967295 (wget w135 149) from ⟨_, ((((((hr111.fr hF121 (by decide)).but hb125 (by decide)).but hb128 (by decide)).but hb131 (by decide)).but hb134 (by decide)).but hb137 (by decide)), hb112⟩), List.forall_mem_cons.mpr ⟨(fun _ => show cp150 (wget w135 150) from ⟨f12_71, (hb137.get (by decide) (hb134.get (by decide) (hb131.get (by decide) (hb128.get (by decide) (hb125.get (by decide) hk117))))), by omega⟩), List.forall_mem_cons.mpr ⟨(fun _ => show cpI 40 98 4294967295 (wget w135 151) from ⟨_, (((((hr119.but hb125 (by decide)).but hb128 (by decide)).but hb131 (by decide)).but hb134 (by decide)).but hb137 (by decide)), hb120⟩), List.forall_mem_cons.mpr ⟨(fun _ => show cp141 (wget w135 141) from ⟨f3_1, f3_3, f3_5, f3_7, f3_9, hk136, by omega, by omega, by omega, by omega, by omega⟩), fun _ h => absurd h List.not_mem_nil⟩⟩⟩⟩⟩⟩⟩⟩⟩⟩⟩), ⟨⟨((show fld w135 141 5 = f3_1 from fld_of hk136).trans (show fld w 3 5 = f3_1 from fld_of h3_11).symm), ((show fld w135 141 6 = f3_3 from fld_of hk136).trans (show fld w 3 6 = f3_3 from fld_of h3_11).symm), ((show fld w135 141 7 = f3_5 from fld_of hk136).trans (show fld w 3 7 = f3_5 from fld_of h3_11).symm), ((show fld w135 141 8 = f3_7 from fld_of hk136).trans (show fld w 3 8 = f3_7 from fld_of h3_11).symm), ((show fld w135 141 9 = f3_9 from fld_of hk136).trans (show fld w 3 9 = f3_9 from fld_of h3_11).symm)⟩, hq138, hq140, hq142, hq144, hq146⟩⟩⟩
set_option maxRecDepth 100000 in
theorem imFilmE10 (hI : xInv w) (hJ : xIm 139 164 w) : xPq (d + 2) mX1_copy [(2, 3), (2, 141)] w bd fc rr [] (fun w' => xInv w' ∧ xFr [3, 4, 5, 6, 7, 8, 9, 10, 11, 12, 13] w w' ∧ (xIm 139 164 w' ∧ fmE w' 3 w 141)) := by
  refine xPq.of ?_
  show xTo (d + 2) mX1_copy (0, [], [(0, (2, 3)), (1, (2, 141))], [], (w, bd, fc, 0, 0, rr)) (fun φ => ∃ w', xEnd 0 [] (w', bd, fc, 0, 0, rr) φ ∧ xInv w' ∧ xFr [3, 4, 5, 6, 7, 8, 9, 10, 11, 12, 13] w w' ∧ (xIm 139 164 w' ∧ fmE w' 3 w 141))
  refine xoC3 (xqc3 hI : cp3 (wget w 3)) (fun f3_1 f3_3 f3_5 f3_7 f3_9 h3_11 hb2 hb4 hb6 hb8 hb10 => ?_)
  obtain ⟨f141_12, f141_14, f141_16, f141_18, f141_20, h141_22, hb13, hb15, hb17, hb19, hb21⟩ := (hJ 141 (by decide) (by decide) : cp141 (wget w 141))
  obtain ⟨f4_23, h4_25, hb24⟩ := (xqc4 hI : cp4 (wget w 4))
  refine xoI (xqc5 hI : cpI 24 1 4294967295 (wget w 5)) (fun g5_26 h5_27 hb28 => ?_)
  obtain ⟨f142_29, h142_31, hb30⟩ := (hJ 142 (by decide) (by decide) : cp142 (wget w 142))
  refine xoI (hJ 143 (by decide) (by decide) : cpI 24 94 4294967295 (wget w 143)) (fun g143_32 h143_33 hb34 => ?_)
  obtain ⟨f6_35, h6_37, hb36⟩ := (xqc6 hI : cp6 (wget w 6))
  refine xoI (xqc7 hI : cpI 8 2 4294967295 (wget w 7)) (fun g7_38 h7_39 hb40 => ?_)
  obtain ⟨f144_41, h144_43, hb42⟩ := (hJ 144 (by decide) (by decide) : cp144 (wget w 144))
  refine xoI (hJ 145 (by decide) (by decide) : cpI 8 95 4294967295 (wget w 145)) (fun g145_44 h145_45 hb46 => ?_)
  obtain ⟨f8_47, h8_49, hb48⟩ := (xqc8 hI : cp8 (wget w 8))
  refine xoI (xqc9 hI : cpI 12 3 4294967295 (wget w 9)) (fun g9_50 h9_51 hb52 => ?_)
  obtain ⟨f146_53, h146_55, hb54⟩ := (hJ 146 (by decide) (by decide) : cp146 (wget w 146))
  refine xoI (hJ 147 (by decide) (by decide) : cpI 12 96 4294967295 (wget w 147)) (fun g147_56 h147_57 hb58 => ?_)
  obtain ⟨f10_59, h10_61, hb60⟩ := (xqc10 hI : cp10 (wget w 10))
  refine xoI (xqc11 hI : cpI 12 4 4294967295 (wget w 11)) (fun g11_62 h11_63 hb64 => ?_)
  obtain ⟨f148_65, h148_67, hb66⟩ := (hJ 148 (by decide) (by decide) : cp148 (wget w 148))
  refine xoI (hJ 149 (by decide) (by decide) : cpI 12 97 4294967295 (wget w 149)) (fun g149_68 h149_69 hb70 => ?_)
  obtain ⟨f12_71, h12_73, hb72⟩ := (xqc12 hI : cp12 (wget w 12))
  refine xoI (xqc13 hI : cpI 40 5 4294967295 (wget w 13)) (fun g13_74 h13_75 hb76 => ?_)
  obtain ⟨f150_77, h150_79, hb78⟩ := (hJ 150 (by decide) (by decide) : cp150 (wget w 150))
  refine xoI (hJ 151 (by decide) (by decide) : cpI 40 98 4294967295 (wget w 151)) (fun g151_80 h151_81 hb82 => ?_)
  refine xg_t (xg_blq rfl) ?_
  refine xg_t (xg_aload (va := (2, 3)) rfl rfl) ?_
  refine xg_t (xg_getf (va := (2, 4)) h3_11 rfl) ?_
  refine xg_t (xg_aload (va := (2, 141)) rfl rfl) ?_
  refine xg_t (xg_getf (va := (2, 142)) h141_22 rfl) ?_
  refine xg_cVv mX5_copy (vs := [(2, 142)]) (rest := []) (cn1 := 0) (sl1 := 0) rfl (rcopyX (lim := 6) (wd := 4) (B := 4294967295) h4_25 h142_31 h5_27 h143_33 (hb28) (hb34) (by decide) (by omega) (by decide) (by decide) (by decide) (by decide) (by decide) (by decide)) rfl h4_25 rfl rfl rfl rfl rfl rfl (fun w83 hq84 => ?_)
  obtain ⟨hk85, g86, hr87, hb88, hx90, hF89⟩ := hq84
  refine xg_t (xg_aload (va := (2, 3)) rfl rfl) ?_
  refine xg_t (xg_getf (va := (2, 6)) (hF89.get (by decide) h3_11) rfl) ?_
  refine xg_t (xg_aload (va := (2, 141)) rfl rfl) ?_
  refine xg_t (xg_getf (va := (2, 144)) (hF89.get (by decide) h141_22) rfl) ?_
  refine xg_cVv mX5_copy (vs := [(2, 144)]) (rest := []) (cn1 := 0) (sl1 := 0) rfl (rcopyX (lim := 4) (wd := 2) (B := 4294967295) (hF89.get (by decide) h6_37) (hF89.get (by decide) h144_43) (h7_39.fr hF89 (by decide)) (h145_45.fr hF89 (by decide)) (hb40) (hb46) (by decide) (by omega) (by decide) (by decide) (by decide) (by decide) (by decide) (by decide)) rfl (hF89.get (by decide) h6_37) rfl rfl rfl rfl rfl rfl (fun w91 hq92 => ?_)
  obtain ⟨hk93, g94, hr95, hb96, hx98, hF97⟩ := hq92
  refine xg_t (xg_aload (va := (2, 3)) rfl rfl) ?_
  refine xg_t (xg_getf (va := (2, 8)) (hF97.get (by decide) (hF89.get (by decide) h3_11)) rfl) ?_
  refine xg_t (xg_aload (va := (2, 141)) rfl rfl) ?_
  refine xg_t (xg_getf (va := (2, 146)) (hF97.get (by decide) (hF89.get (by decide) h141_22)) rfl) ?_
  refine xg_cVv mX5_copy (vs := [(2, 146)]) (rest := []) (cn1 := 0) (sl1 := 0) rfl (rcopyX (lim := 6) (wd := 2) (B := 4294967295) (hF97.get (by decide) (hF89.get (by decide) h8_49)) (hF97.get (by decide) (hF89.get (by decide) h146_55)) ((h9_51.fr hF89 (by decide)).fr hF97 (by decide)) ((h147_57.fr hF89 (by decide)).fr hF97 (by decide)) (hb52) (hb58) (by decide) (by omega) (by decide) (by decide) (by decide) (by decide) (by decide) (by decide)) rfl (hF97.get (by decide) (hF89.get (by decide) h8_49)) rfl rfl rfl rfl rfl rfl (fun w99 hq100 => ?_)
  obtain ⟨hk101, g102, hr103, hb104, hx106, hF105⟩ := hq100
  refine xg_t (xg_aload (va := (2, 3)) rfl rfl) ?_
  refine xg_t (xg_getf (va := (2, 10)) (hF105.get (by decide) (hF97.get (by decide) (hF89.get (by decide) h3_11))) rfl) ?_
  refine xg_t (xg_aload (va := (2, 141)) rfl rfl) ?_
  refine xg_t (xg_getf (va := (2, 148)) (hF105.get (by decide) (hF97.get (by decide) (hF89.get (by decide) h141_22))) rfl) ?_
  refine xg_cVv mX5_copy (vs := [(2, 148)]) (rest := []) (cn1 := 0) (sl1 := 0) rfl (rcopyX (lim := 4) (wd := 3) (B := 4294967295) (hF105.get (by decide) (hF97.get (by decide) (hF89.get (by decide) h10_61))) (hF105.get (by decide) (hF97.get (by decide) (hF89.get (by decide) h148_67))) (((h11_63.fr hF89 (by decide)).fr hF97 (by decide)).fr hF105 (by decide)) (((h149_69.fr hF89 (by decide)).fr hF97 (by decide)).fr hF105 (by decide)) (hb64) (hb70) (by decide) (by omega) (by decide) (by decide) (by decide) (by decide) (by decide) (by decide)) rfl (hF105.get (by decide) (hF97.get (by decide) (hF89.get (by decide) h10_61))) rfl rfl rfl rfl rfl rfl (fun w107 hq108 => ?_)
  obtain ⟨hk109, g110, hr111, hb112, hx114, hF113⟩ := hq108
  refine xg_t (xg_aload (va := (2, 3)) rfl rfl) ?_
  refine xg_t (xg_getf (va := (2, 12)) (hF113.get (by decide) (hF105.get (by decide) (hF97.get (by decide) (hF89.get (by decide) h3_11)))) rfl) ?_
  refine xg_t (xg_aload (va := (2, 141)) rfl rfl) ?_
  refine xg_t (xg_getf (va := (2, 150)) (hF113.get (by decide) (hF105.get (by decide) (hF97.get (by decide) (hF89.get (by decide) h141_22)))) rfl) ?_
  refine xg_cVv mX5_copy (vs := [(2, 150)]) (rest := []) (cn1 := 0) (sl1 := 0) rfl (rcopyX (lim := 20) (wd := 2) (B := 4294967295) (hF113.get (by decide) (hF105.get (by decide) (hF97.get (by decide) (hF89.get (by decide) h12_73)))) (hF113.get (by decide) (hF105.get (by decide) (hF97.get (by decide) (hF89.get (by decide) h150_79)))) ((((h13_75.fr hF89 (by decide)).fr hF97 (by decide)).fr hF105 (by decide)).fr hF113 (by decide)) ((((h151_81.fr hF89 (by decide)).fr hF97 (by decide)).fr hF105 (by decide)).fr hF113 (by decide)) (hb76) (hb82) (by decide) (by omega) (by decide) (by decide) (by decide) (by decide) (by decide) (by decide)) rfl (hF113.get (by decide) (hF105.get (by decide) (hF97.get (by decide) (hF89.get (by decide) h12_73)))) rfl rfl rfl rfl rfl rfl (fun w115 hq116 => ?_)
  obtain ⟨hk117, g118, hr119, hb120, hx122, hF121⟩ := hq116
  refine xg_t (xg_aload (va := (2, 3)) rfl rfl) ?_
  refine xg_t (xg_aload (va := (2, 141)) rfl rfl) ?_
  refine xg_t (xg_getf (va := (0, f141_12)) (hF121.get (by decide) (hF113.get (by decide) (hF105.get (by decide) (hF97.get (by decide) (hF89.get (by decide) h141_22))))) rfl) ?_
  refine xg_putI (fl1 := [(2, 4), (2, 6), (2, 8), (2, 10), (2, 12), (0, f141_12), (0, f3_3), (0, f3_5), (0, f3_7), (0, f3_9)]) (hF121.get (by decide) (hF113.get (by decide) (hF105.get (by decide) (hF97.get (by decide) (hF89.get (by decide) h3_11))))) rfl rfl rfl (fun w123 hk124 hb125 => ?_)
  refine xg_t (xg_aload (va := (2, 3)) rfl rfl) ?_
  refine xg_t (xg_aload (va := (2, 141)) rfl rfl) ?_
  refine xg_t (xg_getf (va := (0, f141_14)) (hb125.get (by decide) (hF121.get (by decide) (hF113.get (by decide) (hF105.get (by decide) (hF97.get (by decide) (hF89.get (by decide) h141_22)))))) rfl) ?_
  refine xg_putI (fl1 := [(2, 4), (2, 6), (2, 8), (2, 10), (2, 12), (0, f141_12), (0, f141_14), (0, f3_5), (0, f3_7), (0, f3_9)]) hk124 rfl rfl rfl (fun w126 hk127 hb128 => ?_)
  refine xg_t (xg_aload (va := (2, 3)) rfl rfl) ?_
  refine xg_t (xg_aload (va := (2, 141)) rfl rfl) ?_
  refine xg_t (xg_getf (va := (0, f141_16)) (hb128.get (by decide) (hb125.get (by decide) (hF121.get (by decide) (hF113.get (by decide) (hF105.get (by decide) (hF97.get (by decide) (hF89.get (by decide) h141_22))))))) rfl) ?_
  refine xg_putI (fl1 := [(2, 4), (2, 6), (2, 8), (2, 10), (2, 12), (0, f141_12), (0, f141_14), (0, f141_16), (0, f3_7), (0, f3_9)]) hk127 rfl rfl rfl (fun w129 hk130 hb131 => ?_)
  refine xg_t (xg_aload (va := (2, 3)) rfl rfl) ?_
  refine xg_t (xg_aload (va := (2, 141)) rfl rfl) ?_
  refine xg_t (xg_getf (va := (0, f141_18)) (hb131.get (by decide) (hb128.get (by decide) (hb125.get (by decide) (hF121.get (by decide) (hF113.get (by decide) (hF105.get (by decide) (hF97.get (by decide) (hF89.get (by decide) h141_22)))))))) rfl) ?_
  refine xg_putI (fl1 := [(2, 4), (2, 6), (2, 8), (2, 10), (2, 12), (0, f141_12), (0, f141_14), (0, f141_16), (0, f141_18), (0, f3_9)]) hk130 rfl rfl rfl (fun w132 hk133 hb134 => ?_)
  refine xg_t (xg_aload (va := (2, 3)) rfl rfl) ?_
  refine xg_t (xg_aload (va := (2, 141)) rfl rfl) ?_
  refine xg_t (xg_getf (va := (0, f141_20)) (hb134.get (by decide) (hb131.get (by decide) (hb128.get (by decide) (hb125.get (by decide) (hF121.get (by decide) (hF113.get (by decide) (hF105.get (by decide) (hF97.get (by decide) (hF89.get (by decide) h141_22))))))))) rfl) ?_
  refine xg_putI (fl1 := [(2, 4), (2, 6), (2, 8), (2, 10), (2, 12), (0, f141_12), (0, f141_14), (0, f141_16), (0, f141_18), (0, f141_20)]) hk133 rfl rfl rfl (fun w135 hk136 hb137 => ?_)
  have hq139 : fld w 142 3 = f142_29 := fld_of h142_31
  have hq138 : rwE w135 4 w 142 4 := ⟨((show fld w135 4 3 = f142_29 from fld_of (hb137.get (by decide) (hb134.get (by decide) (hb131.get (by decide) (hb128.get (by decide) (hb125.get (by decide) (hF121.get (by decide) (hF113.get (by decide) (hF105.get (by decide) (hF97.get (by decide) hk85)))))))))).trans (show fld w 142 3 = f142_29 from fld_of h142_31).symm), fun j hj => by
    rw [hq139] at hj
    exact (rwv_of (((((((((hr87.fr hF97 (by decide)).fr hF105 (by decide)).fr hF113 (by decide)).fr hF121 (by decide)).but hb125 (by decide)).but hb128 (by decide)).but hb131 (by decide)).but hb134 (by decide)).but hb137 (by decide)) (by omega)).trans ((hx90 j hj).trans (rwv_of h143_33 (by omega)).symm)⟩
  have hq141 : fld w 144 3 = f144_41 := fld_of h144_43
  have hq140 : rwE w135 6 w 144 2 := ⟨((show fld w135 6 3 = f144_41 from fld_of (hb137.get (by decide) (hb134.get (by decide) (hb131.get (by decide) (hb128.get (by decide) (hb125.get (by decide) (hF121.get (by decide) (hF113.get (by decide) (hF105.get (by decide) hk93))))))))).trans (show fld w 144 3 = f144_41 from fld_of h144_43).symm), fun j hj => by
    rw [hq141] at hj
    exact (rwv_of ((((((((hr95.fr hF105 (by decide)).fr hF113 (by decide)).fr hF121 (by decide)).but hb125 (by decide)).but hb128 (by decide)).but hb131 (by decide)).but hb134 (by decide)).but hb137 (by decide)) (by omega)).trans ((hx98 j hj).trans (rwv_of h145_45 (by omega)).symm)⟩
  have hq143 : fld w 146 3 = f146_53 := fld_of h146_55
  have hq142 : rwE w135 8 w 146 2 := ⟨((show fld w135 8 3 = f146_53 from fld_of (hb137.get (by decide) (hb134.get (by decide) (hb131.get (by decide) (hb128.get (by decide) (hb125.get (by decide) (hF121.get (by decide) (hF113.get (by decide) hk101)))))))).trans (show fld w 146 3 = f146_53 from fld_of h146_55).symm), fun j hj => by
    rw [hq143] at hj
    exact (rwv_of (((((((hr103.fr hF113 (by decide)).fr hF121 (by decide)).but hb125 (by decide)).but hb128 (by decide)).but hb131 (by decide)).but hb134 (by decide)).but hb137 (by decide)) (by omega)).trans ((hx106 j hj).trans (rwv_of h147_57 (by omega)).symm)⟩
  have hq145 : fld w 148 3 = f148_65 := fld_of h148_67
  have hq144 : rwE w135 10 w 148 3 := ⟨((show fld w135 10 3 = f148_65 from fld_of (hb137.get (by decide) (hb134.get (by decide) (hb131.get (by decide) (hb128.get (by decide) (hb125.get (by decide) (hF121.get (by decide) hk109))))))).trans (show fld w 148 3 = f148_65 from fld_of h148_67).symm), fun j hj => by
    rw [hq145] at hj
    exact (rwv_of ((((((hr111.fr hF121 (by decide)).but hb125 (by decide)).but hb128 (by decide)).but hb131 (by decide)).but hb134 (by decide)).but hb137 (by decide)) (by omega)).trans ((hx114 j hj).trans (rwv_of h149_69 (by omega)).symm)⟩
  have hq147 : fld w 150 3 = f150_77 := fld_of h150_79
  have hq146 : rwE w135 12 w 150 2 := ⟨((show fld w135 12 3 = f150_77 from fld_of (hb137.get (by decide) (hb134.get (by decide) (hb131.get (by decide) (hb128.get (by decide) (hb125.get (by decide) hk117)))))).trans (show fld w 150 3 = f150_77 from fld_of h150_79).symm), fun j hj => by
    rw [hq147] at hj
    exact (rwv_of (((((hr119.but hb125 (by decide)).but hb128 (by decide)).but hb131 (by decide)).but hb134 (by decide)).but hb137 (by decide)) (by omega)).trans ((hx122 j hj).trans (rwv_of h151_81 (by omega)).symm)⟩
  exact xg_e ⟨w135, ⟨rfl, rfl⟩, xInv.up (S := [4, 5, 6, 7, 8, 9, 10, 11, 12, 13, 3]) hI ((((((((((hF89.up (T := [4, 5, 6, 7, 8, 9, 10, 11, 12, 13, 3]) (by decide)).tr (hF97.up (T := [4, 5, 6, 7, 8, 9, 10, 11, 12, 13, 3]) (by decide))).tr (hF105.up (T := [4, 5, 6, 7, 8, 9, 10, 11, 12, 13, 3]) (by decide))).tr (hF113.up (T := [4, 5, 6, 7, 8, 9, 10, 11, 12, 13, 3]) (by decide))).tr (hF121.up (T := [4, 5, 6, 7, 8, 9, 10, 11, 12, 13, 3]) (by decide))).tr (xFr.of (S := [4, 5, 6, 7, 8, 9, 10, 11, 12, 13, 3]) hb125 (by decide))).tr (xFr.of (S := [4, 5, 6, 7, 8, 9, 10, 11, 12, 13, 3]) hb128 (by decide))).tr (xFr.of (S := [4, 5, 6, 7, 8, 9, 10, 11, 12, 13, 3]) hb131 (by decide))).tr (xFr.of (S := [4, 5, 6, 7, 8, 9, 10, 11, 12, 13, 3]) hb134 (by decide))).tr (xFr.of (S := [4, 5, 6, 7, 8, 9, 10, 11, 12, 13, 3]) hb137 (by decide))) (List.forall_mem_cons.mpr ⟨xqu4 (show cp4 (wget w135 4) from ⟨f142_29, (hb137.get (by decide) (hb134.get (by decide) (hb131.get (by decide) (hb128.get (by decide) (hb125.get (by decide) (hF121.get (by decide) (hF113.get (by decide) (hF105.get (by decide) (hF97.get (by decide) hk85))))))))), hb30⟩), List.forall_mem_cons.mpr ⟨xqu5 (show cpI 24 1 4294967295 (wget w135 5) from ⟨_, (((((((((hr87.fr hF97 (by decide)).fr hF105 (by decide)).fr hF113 (by decide)).fr hF121 (by decide)).but hb125 (by decide)).but hb128 (by decide)).but hb131 (by decide)).but hb134 (by decide)).but hb137 (by decide)), hb88⟩), List.forall_mem_cons.mpr ⟨xqu6 (show cp6 (wget w135 6) from ⟨f144_41, (hb137.get (by decide) (hb134.get (by decide) (hb131.get (by decide) (hb128.get (by decide) (hb125.get (by decide) (hF121.get (by decide) (hF113.get (by decide) (hF105.get (by decide) hk93)))))))), hb42⟩), List.forall_mem_cons.mpr ⟨xqu7 (show cpI 8 2 4294967295 (wget w135 7) from ⟨_, ((((((((hr95.fr hF105 (by decide)).fr hF113 (by decide)).fr hF121 (by decide)).but hb125 (by decide)).but hb128 (by decide)).but hb131 (by decide)).but hb134 (by decide)).but hb137 (by decide)), hb96⟩), List.forall_mem_cons.mpr ⟨xqu8 (show cp8 (wget w135 8) from ⟨f146_53, (hb137.get (by decide) (hb134.get (by decide) (hb131.get (by decide) (hb128.get (by decide) (hb125.get (by decide) (hF121.get (by decide) (hF113.get (by decide) hk101))))))), hb54⟩), List.forall_mem_cons.mpr ⟨xqu9 (show cpI 12 3 4294967295 (wget w135 9) from ⟨_, (((((((hr103.fr hF113 (by decide)).fr hF121 (by decide)).but hb125 (by decide)).but hb128 (by decide)).but hb131 (by decide)).but hb134 (by decide)).but hb137 (by decide)), hb104⟩), List.forall_mem_cons.mpr ⟨xqu10 (show cp10 (wget w135 10) from ⟨f148_65, (hb137.get (by decide) (hb134.get (by decide) (hb131.get (by decide) (hb128.get (by decide) (hb125.get (by decide) (hF121.get (by decide) hk109)))))), hb66⟩), List.forall_mem_cons.mpr ⟨xqu11 (show cpI 12 4 4294967295 (wget w135 11) from ⟨_, ((((((hr111.fr hF121 (by decide)).but hb125 (by decide)).but hb128 (by decide)).but hb131 (by decide)).but hb134 (by decide)).but hb137 (by decide)), hb112⟩), List.forall_mem_cons.mpr ⟨xqu12 (show cp12 (wget w135 12) from ⟨f150_77, (hb137.get (by decide) (hb134.get (by decide) (hb131.get (by decide) (hb128.get (by decide) (hb125.get (by decide) hk117))))), hb78⟩), List.forall_mem_cons.mpr ⟨xqu13 (show cpI 40 5 4294967295 (wget w135 13) from ⟨_, (((((hr119.but hb125 (by decide)).but hb128 (by decide)).but hb131 (by decide)).but hb134 (by decide)).but hb137 (by decide)), hb120⟩), List.forall_mem_cons.mpr ⟨xqu3 (show cp3 (wget w135 3) from xmC3 f141_12 f141_14 f141_16 f141_18 f141_20 hk136 hb13 hb15 hb17 hb19 hb21), fun _ h => absurd h List.not_mem_nil⟩⟩⟩⟩⟩⟩⟩⟩⟩⟩⟩), ((((((((((hF89.up (T := [3, 4, 5, 6, 7, 8, 9, 10, 11, 12, 13]) (by decide)).tr (hF97.up (T := [3, 4, 5, 6, 7, 8, 9, 10, 11, 12, 13]) (by decide))).tr (hF105.up (T := [3, 4, 5, 6, 7, 8, 9, 10, 11, 12, 13]) (by decide))).tr (hF113.up (T := [3, 4, 5, 6, 7, 8, 9, 10, 11, 12, 13]) (by decide))).tr (hF121.up (T := [3, 4, 5, 6, 7, 8, 9, 10, 11, 12, 13]) (by decide))).tr (xFr.of (S := [3, 4, 5, 6, 7, 8, 9, 10, 11, 12, 13]) hb125 (by decide))).tr (xFr.of (S := [3, 4, 5, 6, 7, 8, 9, 10, 11, 12, 13]) hb128 (by decide))).tr (xFr.of (S := [3, 4, 5, 6, 7, 8, 9, 10, 11, 12, 13]) hb131 (by decide))).tr (xFr.of (S := [3, 4, 5, 6, 7, 8, 9, 10, 11, 12, 13]) hb134 (by decide))).tr (xFr.of (S := [3, 4, 5, 6, 7, 8, 9, 10, 11, 12, 13]) hb137 (by decide))), ⟨xIm.up (S := [4, 5, 6, 7, 8, 9, 10, 11, 12, 13, 3]) hJ ((((((((((hF89.up (T := [4, 5, 6, 7, 8, 9, 10, 11, 12, 13, 3]) (by decide)).tr (hF97.up (T := [4, 5, 6, 7, 8, 9, 10, 11, 12, 13, 3]) (by decide))).tr (hF105.up (T := [4, 5, 6, 7, 8, 9, 10, 11, 12, 13, 3]) (by decide))).tr (hF113.up (T := [4, 5, 6, 7, 8, 9, 10, 11, 12, 13, 3]) (by decide))).tr (hF121.up (T := [4, 5, 6, 7, 8, 9, 10, 11, 12, 13, 3]) (by decide))).tr (xFr.of (S := [4, 5, 6, 7, 8, 9, 10, 11, 12, 13, 3]) hb125 (by decide))).tr (xFr.of (S := [4, 5, 6, 7, 8, 9, 10, 11, 12, 13, 3]) hb128 (by decide))).tr (xFr.of (S := [4, 5, 6, 7, 8, 9, 10, 11, 12, 13, 3]) hb131 (by decide))).tr (xFr.of (S := [4, 5, 6, 7, 8, 9, 10, 11, 12, 13, 3]) hb134 (by decide))).tr (xFr.of (S := [4, 5, 6, 7, 8, 9, 10, 11, 12, 13, 3]) hb137 (by decide))) (List.forall_mem_cons.mpr ⟨(fun h => absurd h (by omega)), List.forall_mem_cons.mpr ⟨(fun h => absurd h (by omega)), List.forall_mem_cons.mpr ⟨(fun h => absurd h (by omega)), List.forall_mem_cons.mpr ⟨(fun h => absurd h (by omega)), List.forall_mem_cons.mpr ⟨(fun h => absurd h (by omega)), List.forall_mem_cons.mpr ⟨(fun h => absurd h (by omega)), List.forall_mem_cons.mpr ⟨(fun h => absurd h (by omega)), List.forall_mem_cons.mpr ⟨(fun h => absurd h (by omega)), List.forall_mem_cons.mpr ⟨(fun h => absurd h (by omega)), List.forall_mem_cons.mpr ⟨(fun h => absurd h (by omega)), List.forall_mem_cons.mpr ⟨(fun h => absurd h (by omega)), fun _ h => absurd h List.not_mem_nil⟩⟩⟩⟩⟩⟩⟩⟩⟩⟩⟩), ⟨⟨((show fld w135 3 5 = f141_12 from fld_of hk136).trans (show fld w 141 5 = f141_12 from fld_of h141_22).symm), ((show fld w135 3 6 = f141_14 from fld_of hk136).trans (show fld w 141 6 = f141_14 from fld_of h141_22).symm), ((show fld w135 3 7 = f141_16 from fld_of hk136).trans (show fld w 141 7 = f141_16 from fld_of h141_22).symm), ((show fld w135 3 8 = f141_18 from fld_of hk136).trans (show fld w 141 8 = f141_18 from fld_of h141_22).symm), ((show fld w135 3 9 = f141_20 from fld_of hk136).trans (show fld w 141 9 = f141_20 from fld_of h141_22).symm)⟩, hq138, hq140, hq142, hq144, hq146⟩⟩⟩
set_option maxRecDepth 100000 in
theorem imFilmE21 (hI : xInv w) (hJ : xIm 164 189 w) : xPq (d + 2) mX1_copy [(2, 166), (2, 3)] w bd fc rr [] (fun w' => xInv w' ∧ xFr [166, 167, 168, 169, 170, 171, 172, 173, 174, 175, 176] w w' ∧ (xIm 164 189 w' ∧ fmE w' 166 w 3)) := by
  refine xPq.of ?_
  show xTo (d + 2) mX1_copy (0, [], [(0, (2, 166)), (1, (2, 3))], [], (w, bd, fc, 0, 0, rr)) (fun φ => ∃ w', xEnd 0 [] (w', bd, fc, 0, 0, rr) φ ∧ xInv w' ∧ xFr [166, 167, 168, 169, 170, 171, 172, 173, 174, 175, 176] w w' ∧ (xIm 164 189 w' ∧ fmE w' 166 w 3))
  refine xoC3 (xqc3 hI : cp3 (wget w 3)) (fun f3_1 f3_3 f3_5 f3_7 f3_9 h3_11 hb2 hb4 hb6 hb8 hb10 => ?_)
  obtain ⟨f166_12, f166_14, f166_16, f166_18, f166_20, h166_22, hb13, hb15, hb17, hb19, hb21⟩ := (hJ 166 (by decide) (by decide) : cp166 (wget w 166))
  obtain ⟨f4_23, h4_25, hb24⟩ := (xqc4 hI : cp4 (wget w 4))
  refine xoI (xqc5 hI : cpI 24 1 4294967295 (wget w 5)) (fun g5_26 h5_27 hb28 => ?_)
  obtain ⟨f167_29, h167_31, hb30⟩ := (hJ 167 (by decide) (by decide) : cp167 (wget w 167))
  refine xoI (hJ 168 (by decide) (by decide) : cpI 24 106 4294967295 (wget w 168)) (fun g168_32 h168_33 hb34 => ?_)
  obtain ⟨f6_35, h6_37, hb36⟩ := (xqc6 hI : cp6 (wget w 6))
  refine xoI (xqc7 hI : cpI 8 2 4294967295 (wget w 7)) (fun g7_38 h7_39 hb40 => ?_)
  obtain ⟨f169_41, h169_43, hb42⟩ := (hJ 169 (by decide) (by decide) : cp169 (wget w 169))
  refine xoI (hJ 170 (by decide) (by decide) : cpI 8 107 4294967295 (wget w 170)) (fun g170_44 h170_45 hb46 => ?_)
  obtain ⟨f8_47, h8_49, hb48⟩ := (xqc8 hI : cp8 (wget w 8))
  refine xoI (xqc9 hI : cpI 12 3 4294967295 (wget w 9)) (fun g9_50 h9_51 hb52 => ?_)
  obtain ⟨f171_53, h171_55, hb54⟩ := (hJ 171 (by decide) (by decide) : cp171 (wget w 171))
  refine xoI (hJ 172 (by decide) (by decide) : cpI 12 108 4294967295 (wget w 172)) (fun g172_56 h172_57 hb58 => ?_)
  obtain ⟨f10_59, h10_61, hb60⟩ := (xqc10 hI : cp10 (wget w 10))
  refine xoI (xqc11 hI : cpI 12 4 4294967295 (wget w 11)) (fun g11_62 h11_63 hb64 => ?_)
  obtain ⟨f173_65, h173_67, hb66⟩ := (hJ 173 (by decide) (by decide) : cp173 (wget w 173))
  refine xoI (hJ 174 (by decide) (by decide) : cpI 12 109 4294967295 (wget w 174)) (fun g174_68 h174_69 hb70 => ?_)
  obtain ⟨f12_71, h12_73, hb72⟩ := (xqc12 hI : cp12 (wget w 12))
  refine xoI (xqc13 hI : cpI 40 5 4294967295 (wget w 13)) (fun g13_74 h13_75 hb76 => ?_)
  obtain ⟨f175_77, h175_79, hb78⟩ := (hJ 175 (by decide) (by decide) : cp175 (wget w 175))
  refine xoI (hJ 176 (by decide) (by decide) : cpI 40 110 4294967295 (wget w 176)) (fun g176_80 h176_81 hb82 => ?_)
  refine xg_t (xg_blq rfl) ?_
  refine xg_t (xg_aload (va := (2, 166)) rfl rfl) ?_
  refine xg_t (xg_getf (va := (2, 167)) h166_22 rfl) ?_
  refine xg_t (xg_aload (va := (2, 3)) rfl rfl) ?_
  refine xg_t (xg_getf (va := (2, 4)) h3_11 rfl) ?_
  refine xg_cVv mX5_copy (vs := [(2, 4)]) (rest := []) (cn1 := 0) (sl1 := 0) rfl (rcopyX (lim := 6) (wd := 4) (B := 4294967295) h167_31 h4_25 h168_33 h5_27 (hb34) (hb28) (by decide) (by omega) (by decide) (by decide) (by decide) (by decide) (by decide) (by decide)) rfl h167_31 rfl rfl rfl rfl rfl rfl (fun w83 hq84 => ?_)
  obtain ⟨hk85, g86, hr87, hb88, hx90, hF89⟩ := hq84
  refine xg_t (xg_aload (va := (2, 166)) rfl rfl) ?_
  refine xg_t (xg_getf (va := (2, 169)) (hF89.get (by decide) h166_22) rfl) ?_
  refine xg_t (xg_aload (va := (2, 3)) rfl rfl) ?_
  refine xg_t (xg_getf (va := (2, 6)) (hF89.get (by decide) h3_11) rfl) ?_
  refine xg_cVv mX5_copy (vs := [(2, 6)]) (rest := []) (cn1 := 0) (sl1 := 0) rfl (rcopyX (lim := 4) (wd := 2) (B := 4294967295) (hF89.get (by decide) h169_43) (hF89.get (by decide) h6_37) (h170_45.fr hF89 (by decide)) (h7_39.fr hF89 (by decide)) (hb46) (hb40) (by decide) (by omega) (by decide) (by decide) (by decide) (by decide) (by decide) (by decide)) rfl (hF89.get (by decide) h169_43) rfl rfl rfl rfl rfl rfl (fun w91 hq92 => ?_)
  obtain ⟨hk93, g94, hr95, hb96, hx98, hF97⟩ := hq92
  refine xg_t (xg_aload (va := (2, 166)) rfl rfl) ?_
  refine xg_t (xg_getf (va := (2, 171)) (hF97.get (by decide) (hF89.get (by decide) h166_22)) rfl) ?_
  refine xg_t (xg_aload (va := (2, 3)) rfl rfl) ?_
  refine xg_t (xg_getf (va := (2, 8)) (hF97.get (by decide) (hF89.get (by decide) h3_11)) rfl) ?_
  refine xg_cVv mX5_copy (vs := [(2, 8)]) (rest := []) (cn1 := 0) (sl1 := 0) rfl (rcopyX (lim := 6) (wd := 2) (B := 4294967295) (hF97.get (by decide) (hF89.get (by decide) h171_55)) (hF97.get (by decide) (hF89.get (by decide) h8_49)) ((h172_57.fr hF89 (by decide)).fr hF97 (by decide)) ((h9_51.fr hF89 (by decide)).fr hF97 (by decide)) (hb58) (hb52) (by decide) (by omega) (by decide) (by decide) (by decide) (by decide) (by decide) (by decide)) rfl (hF97.get (by decide) (hF89.get (by decide) h171_55)) rfl rfl rfl rfl rfl rfl (fun w99 hq100 => ?_)
  obtain ⟨hk101, g102, hr103, hb104, hx106, hF105⟩ := hq100
  refine xg_t (xg_aload (va := (2, 166)) rfl rfl) ?_
  refine xg_t (xg_getf (va := (2, 173)) (hF105.get (by decide) (hF97.get (by decide) (hF89.get (by decide) h166_22))) rfl) ?_
  refine xg_t (xg_aload (va := (2, 3)) rfl rfl) ?_
  refine xg_t (xg_getf (va := (2, 10)) (hF105.get (by decide) (hF97.get (by decide) (hF89.get (by decide) h3_11))) rfl) ?_
  refine xg_cVv mX5_copy (vs := [(2, 10)]) (rest := []) (cn1 := 0) (sl1 := 0) rfl (rcopyX (lim := 4) (wd := 3) (B := 4294967295) (hF105.get (by decide) (hF97.get (by decide) (hF89.get (by decide) h173_67))) (hF105.get (by decide) (hF97.get (by decide) (hF89.get (by decide) h10_61))) (((h174_69.fr hF89 (by decide)).fr hF97 (by decide)).fr hF105 (by decide)) (((h11_63.fr hF89 (by decide)).fr hF97 (by decide)).fr hF105 (by decide)) (hb70) (hb64) (by decide) (by omega) (by decide) (by decide) (by decide) (by decide) (by decide) (by decide)) rfl (hF105.get (by decide) (hF97.get (by decide) (hF89.get (by decide) h173_67))) rfl rfl rfl rfl rfl rfl (fun w107 hq108 => ?_)
  obtain ⟨hk109, g110, hr111, hb112, hx114, hF113⟩ := hq108
  refine xg_t (xg_aload (va := (2, 166)) rfl rfl) ?_
  refine xg_t (xg_getf (va := (2, 175)) (hF113.get (by decide) (hF105.get (by decide) (hF97.get (by decide) (hF89.get (by decide) h166_22)))) rfl) ?_
  refine xg_t (xg_aload (va := (2, 3)) rfl rfl) ?_
  refine xg_t (xg_getf (va := (2, 12)) (hF113.get (by decide) (hF105.get (by decide) (hF97.get (by decide) (hF89.get (by decide) h3_11)))) rfl) ?_
  refine xg_cVv mX5_copy (vs := [(2, 12)]) (rest := []) (cn1 := 0) (sl1 := 0) rfl (rcopyX (lim := 20) (wd := 2) (B := 4294967295) (hF113.get (by decide) (hF105.get (by decide) (hF97.get (by decide) (hF89.get (by decide) h175_79)))) (hF113.get (by decide) (hF105.get (by decide) (hF97.get (by decide) (hF89.get (by decide) h12_73)))) ((((h176_81.fr hF89 (by decide)).fr hF97 (by decide)).fr hF105 (by decide)).fr hF113 (by decide)) ((((h13_75.fr hF89 (by decide)).fr hF97 (by decide)).fr hF105 (by decide)).fr hF113 (by decide)) (hb82) (hb76) (by decide) (by omega) (by decide) (by decide) (by decide) (by decide) (by decide) (by decide)) rfl (hF113.get (by decide) (hF105.get (by decide) (hF97.get (by decide) (hF89.get (by decide) h175_79)))) rfl rfl rfl rfl rfl rfl (fun w115 hq116 => ?_)
  obtain ⟨hk117, g118, hr119, hb120, hx122, hF121⟩ := hq116
  refine xg_t (xg_aload (va := (2, 166)) rfl rfl) ?_
  refine xg_t (xg_aload (va := (2, 3)) rfl rfl) ?_
  refine xg_t (xg_getf (va := (0, f3_1)) (hF121.get (by decide) (hF113.get (by decide) (hF105.get (by decide) (hF97.get (by decide) (hF89.get (by decide) h3_11))))) rfl) ?_
  refine xg_putI (fl1 := [(2, 167), (2, 169), (2, 171), (2, 173), (2, 175), (0, f3_1), (0, f166_14), (0, f166_16), (0, f166_18), (0, f166_20)]) (hF121.get (by decide) (hF113.get (by decide) (hF105.get (by decide) (hF97.get (by decide) (hF89.get (by decide) h166_22))))) rfl rfl rfl (fun w123 hk124 hb125 => ?_)
  refine xg_t (xg_aload (va := (2, 166)) rfl rfl) ?_
  refine xg_t (xg_aload (va := (2, 3)) rfl rfl) ?_
  refine xg_t (xg_getf (va := (0, f3_3)) (hb125.get (by decide) (hF121.get (by decide) (hF113.get (by decide) (hF105.get (by decide) (hF97.get (by decide) (hF89.get (by decide) h3_11)))))) rfl) ?_
  refine xg_putI (fl1 := [(2, 167), (2, 169), (2, 171), (2, 173), (2, 175), (0, f3_1), (0, f3_3), (0, f166_16), (0, f166_18), (0, f166_20)]) hk124 rfl rfl rfl (fun w126 hk127 hb128 => ?_)
  refine xg_t (xg_aload (va := (2, 166)) rfl rfl) ?_
  refine xg_t (xg_aload (va := (2, 3)) rfl rfl) ?_
  refine xg_t (xg_getf (va := (0, f3_5)) (hb128.get (by decide) (hb125.get (by decide) (hF121.get (by decide) (hF113.get (by decide) (hF105.get (by decide) (hF97.get (by decide) (hF89.get (by decide) h3_11))))))) rfl) ?_
  refine xg_putI (fl1 := [(2, 167), (2, 169), (2, 171), (2, 173), (2, 175), (0, f3_1), (0, f3_3), (0, f3_5), (0, f166_18), (0, f166_20)]) hk127 rfl rfl rfl (fun w129 hk130 hb131 => ?_)
  refine xg_t (xg_aload (va := (2, 166)) rfl rfl) ?_
  refine xg_t (xg_aload (va := (2, 3)) rfl rfl) ?_
  refine xg_t (xg_getf (va := (0, f3_7)) (hb131.get (by decide) (hb128.get (by decide) (hb125.get (by decide) (hF121.get (by decide) (hF113.get (by decide) (hF105.get (by decide) (hF97.get (by decide) (hF89.get (by decide) h3_11)))))))) rfl) ?_
  refine xg_putI (fl1 := [(2, 167), (2, 169), (2, 171), (2, 173), (2, 175), (0, f3_1), (0, f3_3), (0, f3_5), (0, f3_7), (0, f166_20)]) hk130 rfl rfl rfl (fun w132 hk133 hb134 => ?_)
  refine xg_t (xg_aload (va := (2, 166)) rfl rfl) ?_
  refine xg_t (xg_aload (va := (2, 3)) rfl rfl) ?_
  refine xg_t (xg_getf (va := (0, f3_9)) (hb134.get (by decide) (hb131.get (by decide) (hb128.get (by decide) (hb125.get (by decide) (hF121.get (by decide) (hF113.get (by decide) (hF105.get (by decide) (hF97.get (by decide) (hF89.get (by decide) h3_11))))))))) rfl) ?_
  refine xg_putI (fl1 := [(2, 167), (2, 169), (2, 171), (2, 173), (2, 175), (0, f3_1), (0, f3_3), (0, f3_5), (0, f3_7), (0, f3_9)]) hk133 rfl rfl rfl (fun w135 hk136 hb137 => ?_)
  have hq139 : fld w 4 3 = f4_23 := fld_of h4_25
  have hq138 : rwE w135 167 w 4 4 := ⟨((show fld w135 167 3 = f4_23 from fld_of (hb137.get (by decide) (hb134.get (by decide) (hb131.get (by decide) (hb128.get (by decide) (hb125.get (by decide) (hF121.get (by decide) (hF113.get (by decide) (hF105.get (by decide) (hF97.get (by decide) hk85)))))))))).trans (show fld w 4 3 = f4_23 from fld_of h4_25).symm), fun j hj => by
    rw [hq139] at hj
    exact (rwv_of (((((((((hr87.fr hF97 (by decide)).fr hF105 (by decide)).fr hF113 (by decide)).fr hF121 (by decide)).but hb125 (by decide)).but hb128 (by decide)).but hb131 (by decide)).but hb134 (by decide)).but hb137 (by decide)) (by omega)).trans ((hx90 j hj).trans (rwv_of h5_27 (by omega)).symm)⟩
  have hq141 : fld w 6 3 = f6_35 := fld_of h6_37
  have hq140 : rwE w135 169 w 6 2 := ⟨((show fld w135 169 3 = f6_35 from fld_of (hb137.get (by decide) (hb134.get (by decide) (hb131.get (by decide) (hb128.get (by decide) (hb125.get (by decide) (hF121.get (by decide) (hF113.get (by decide) (hF105.get (by decide) hk93))))))))).trans (show fld w 6 3 = f6_35 from fld_of h6_37).symm), fun j hj => by
    rw [hq141] at hj
    exact (rwv_of ((((((((hr95.fr hF105 (by decide)).fr hF113 (by decide)).fr hF121 (by decide)).but hb125 (by decide)).but hb128 (by decide)).but hb131 (by decide)).but hb134 (by decide)).but hb137 (by decide)) (by omega)).trans ((hx98 j hj).trans (rwv_of h7_39 (by omega)).symm)⟩
  have hq143 : fld w 8 3 = f8_47 := fld_of h8_49
  have hq142 : rwE w135 171 w 8 2 := ⟨((show fld w135 171 3 = f8_47 from fld_of (hb137.get (by decide) (hb134.get (by decide) (hb131.get (by decide) (hb128.get (by decide) (hb125.get (by decide) (hF121.get (by decide) (hF113.get (by decide) hk101)))))))).trans (show fld w 8 3 = f8_47 from fld_of h8_49).symm), fun j hj => by
    rw [hq143] at hj
    exact (rwv_of (((((((hr103.fr hF113 (by decide)).fr hF121 (by decide)).but hb125 (by decide)).but hb128 (by decide)).but hb131 (by decide)).but hb134 (by decide)).but hb137 (by decide)) (by omega)).trans ((hx106 j hj).trans (rwv_of h9_51 (by omega)).symm)⟩
  have hq145 : fld w 10 3 = f10_59 := fld_of h10_61
  have hq144 : rwE w135 173 w 10 3 := ⟨((show fld w135 173 3 = f10_59 from fld_of (hb137.get (by decide) (hb134.get (by decide) (hb131.get (by decide) (hb128.get (by decide) (hb125.get (by decide) (hF121.get (by decide) hk109))))))).trans (show fld w 10 3 = f10_59 from fld_of h10_61).symm), fun j hj => by
    rw [hq145] at hj
    exact (rwv_of ((((((hr111.fr hF121 (by decide)).but hb125 (by decide)).but hb128 (by decide)).but hb131 (by decide)).but hb134 (by decide)).but hb137 (by decide)) (by omega)).trans ((hx114 j hj).trans (rwv_of h11_63 (by omega)).symm)⟩
  have hq147 : fld w 12 3 = f12_71 := fld_of h12_73
  have hq146 : rwE w135 175 w 12 2 := ⟨((show fld w135 175 3 = f12_71 from fld_of (hb137.get (by decide) (hb134.get (by decide) (hb131.get (by decide) (hb128.get (by decide) (hb125.get (by decide) hk117)))))).trans (show fld w 12 3 = f12_71 from fld_of h12_73).symm), fun j hj => by
    rw [hq147] at hj
    exact (rwv_of (((((hr119.but hb125 (by decide)).but hb128 (by decide)).but hb131 (by decide)).but hb134 (by decide)).but hb137 (by decide)) (by omega)).trans ((hx122 j hj).trans (rwv_of h13_75 (by omega)).symm)⟩
  exact xg_e ⟨w135, ⟨rfl, rfl⟩, xInv.up (S := [167, 168, 169, 170, 171, 172, 173, 174, 175, 176, 166]) hI ((((((((((hF89.up (T := [167, 168, 169, 170, 171, 172, 173, 174, 175, 176, 166]) (by decide)).tr (hF97.up (T := [167, 168, 169, 170, 171, 172, 173, 174, 175, 176, 166]) (by decide))).tr (hF105.up (T := [167, 168, 169, 170, 171, 172, 173, 174, 175, 176, 166]) (by decide))).tr (hF113.up (T := [167, 168, 169, 170, 171, 172, 173, 174, 175, 176, 166]) (by decide))).tr (hF121.up (T := [167, 168, 169, 170, 171, 172, 173, 174, 175, 176, 166]) (by decide))).tr (xFr.of (S := [167, 168, 169, 170, 171, 172, 173, 174, 175, 176, 166]) hb125 (by decide))).tr (xFr.of (S := [167, 168, 169, 170, 171, 172, 173, 174, 175, 176, 166]) hb128 (by decide))).tr (xFr.of (S := [167, 168, 169, 170, 171, 172, 173, 174, 175, 176, 166]) hb131 (by decide))).tr (xFr.of (S := [167, 168, 169, 170, 171, 172, 173, 174, 175, 176, 166]) hb134 (by decide))).tr (xFr.of (S := [167, 168, 169, 170, 171, 172, 173, 174, 175, 176, 166]) hb137 (by decide))) (List.forall_mem_cons.mpr ⟨(show True from trivial), List.forall_mem_cons.mpr ⟨(show True from trivial), List.forall_mem_cons.mpr ⟨(show True from trivial), List.forall_mem_cons.mpr ⟨(show True from trivial), List.forall_mem_cons.mpr ⟨(show True from trivial), List.forall_mem_cons.mpr ⟨(show True from trivial), List.forall_mem_cons.mpr ⟨(show True from trivial), List.forall_mem_cons.mpr ⟨(show True from trivial), List.forall_mem_cons.mpr ⟨(show True from trivial), List.forall_mem_cons.mpr ⟨(show True from trivial), List.forall_mem_cons.mpr ⟨(show True from trivial), fun _ h => absurd h List.not_mem_nil⟩⟩⟩⟩⟩⟩⟩⟩⟩⟩⟩), ((((((((((hF89.up (T := [166, 167, 168, 169, 170, 171, 172, 173, 174, 175, 176]) (by decide)).tr (hF97.up (T := [166, 167, 168, 169, 170, 171, 172, 173, 174, 175, 176]) (by decide))).tr (hF105.up (T := [166, 167, 168, 169, 170, 171, 172, 173, 174, 175, 176]) (by decide))).tr (hF113.up (T := [166, 167, 168, 169, 170, 171, 172, 173, 174, 175, 176]) (by decide))).tr (hF121.up (T := [166, 167, 168, 169, 170, 171, 172, 173, 174, 175, 176]) (by decide))).tr (xFr.of (S := [166, 167, 168, 169, 170, 171, 172, 173, 174, 175, 176]) hb125 (by decide))).tr (xFr.of (S := [166, 167, 168, 169, 170, 171, 172, 173, 174, 175, 176]) hb128 (by decide))).tr (xFr.of (S := [166, 167, 168, 169, 170, 171, 172, 173, 174, 175, 176]) hb131 (by decide))).tr (xFr.of (S := [166, 167, 168, 169, 170, 171, 172, 173, 174, 175, 176]) hb134 (by decide))).tr (xFr.of (S := [166, 167, 168, 169, 170, 171, 172, 173, 174, 175, 176]) hb137 (by decide))), ⟨xIm.up (S := [167, 168, 169, 170, 171, 172, 173, 174, 175, 176, 166]) hJ ((((((((((hF89.up (T := [167, 168, 169, 170, 171, 172, 173, 174, 175, 176, 166]) (by decide)).tr (hF97.up (T := [167, 168, 169, 170, 171, 172, 173, 174, 175, 176, 166]) (by decide))).tr (hF105.up (T := [167, 168, 169, 170, 171, 172, 173, 174, 175, 176, 166]) (by decide))).tr (hF113.up (T := [167, 168, 169, 170, 171, 172, 173, 174, 175, 176, 166]) (by decide))).tr (hF121.up (T := [167, 168, 169, 170, 171, 172, 173, 174, 175, 176, 166]) (by decide))).tr (xFr.of (S := [167, 168, 169, 170, 171, 172, 173, 174, 175, 176, 166]) hb125 (by decide))).tr (xFr.of (S := [167, 168, 169, 170, 171, 172, 173, 174, 175, 176, 166]) hb128 (by decide))).tr (xFr.of (S := [167, 168, 169, 170, 171, 172, 173, 174, 175, 176, 166]) hb131 (by decide))).tr (xFr.of (S := [167, 168, 169, 170, 171, 172, 173, 174, 175, 176, 166]) hb134 (by decide))).tr (xFr.of (S := [167, 168, 169, 170, 171, 172, 173, 174, 175, 176, 166]) hb137 (by decide))) (List.forall_mem_cons.mpr ⟨(fun _ => show cp167 (wget w135 167) from ⟨f4_23, (hb137.get (by decide) (hb134.get (by decide) (hb131.get (by decide) (hb128.get (by decide) (hb125.get (by decide) (hF121.get (by decide) (hF113.get (by decide) (hF105.get (by decide) (hF97.get (by decide) hk85))))))))), by omega⟩), List.forall_mem_cons.mpr ⟨(fun _ => show cpI 24 106 4294967295 (wget w135 168) from ⟨_, (((((((((hr87.fr hF97 (by decide)).fr hF105 (by decide)).fr hF113 (by decide)).fr hF121 (by decide)).but hb125 (by decide)).but hb128 (by decide)).but hb131 (by decide)).but hb134 (by decide)).but hb137 (by decide)), hb88⟩), List.forall_mem_cons.mpr ⟨(fun _ => show cp169 (wget w135 169) from ⟨f6_35, (hb137.get (by decide) (hb134.get (by decide) (hb131.get (by decide) (hb128.get (by decide) (hb125.get (by decide) (hF121.get (by decide) (hF113.get (by decide) (hF105.get (by decide) hk93)))))))), by omega⟩), List.forall_mem_cons.mpr ⟨(fun _ => show cpI 8 107 4294967295 (wget w135 170) from ⟨_, ((((((((hr95.fr hF105 (by decide)).fr hF113 (by decide)).fr hF121 (by decide)).but hb125 (by decide)).but hb128 (by decide)).but hb131 (by decide)).but hb134 (by decide)).but hb137 (by decide)), hb96⟩), List.forall_mem_cons.mpr ⟨(fun _ => show cp171 (wget w135 171) from ⟨f8_47, (hb137.get (by decide) (hb134.get (by decide) (hb131.get (by decide) (hb128.get (by decide) (hb125.get (by decide) (hF121.get (by decide) (hF113.get (by decide) hk101))))))), by omega⟩), List.forall_mem_cons.mpr ⟨(fun _ => show cpI 12 108 4294967295 (wget w135 172) from ⟨_, (((((((hr103.fr hF113 (by decide)).fr hF121 (by decide)).but hb125 (by decide)).but hb128 (by decide)).but hb131 (by decide)).but hb134 (by decide)).but hb137 (by decide)), hb104⟩), List.forall_mem_cons.mpr ⟨(fun _ => show cp173 (wget w135 173) from ⟨f10_59, (hb137.get (by decide) (hb134.get (by decide) (hb131.get (by decide) (hb128.get (by decide) (hb125.get (by decide) (hF121.get (by decide) hk109)))))), by omega⟩), List.forall_mem_cons.mpr ⟨(fun _ => show cpI 12 109 4294967295 (wget w135 174) from ⟨_, ((((((hr111.fr hF121 (by decide)).but hb125 (by decide)).but hb128 (by decide)).but hb131 (by decide)).but hb134 (by decide)).but hb137 (by decide)), hb112⟩), List.forall_mem_cons.mpr ⟨(fun _ => show cp175 (wget w135 175) from ⟨f12_71, (hb137.get (by decide) (hb134.get (by decide) (hb131.get (by decide) (hb128.get (by decide) (hb125.get (by decide) hk117))))), by omega⟩), List.forall_mem_cons.mpr ⟨(fun _ => show cpI 40 110 4294967295 (wget w135 176) from ⟨_, (((((hr119.but hb125 (by decide)).but hb128 (by decide)).but hb131 (by decide)).but hb134 (by decide)).but hb137 (by decide)), hb120⟩), List.forall_mem_cons.mpr ⟨(fun _ => show cp166 (wget w135 166) from ⟨f3_1, f3_3, f3_5, f3_7, f3_9, hk136, by omega, by omega, by omega, by omega, by omega⟩), fun _ h => absurd h List.not_mem_nil⟩⟩⟩⟩⟩⟩⟩⟩⟩⟩⟩), ⟨⟨((show fld w135 166 5 = f3_1 from fld_of hk136).trans (show fld w 3 5 = f3_1 from fld_of h3_11).symm), ((show fld w135 166 6 = f3_3 from fld_of hk136).trans (show fld w 3 6 = f3_3 from fld_of h3_11).symm), ((show fld w135 166 7 = f3_5 from fld_of hk136).trans (show fld w 3 7 = f3_5 from fld_of h3_11).symm), ((show fld w135 166 8 = f3_7 from fld_of hk136).trans (show fld w 3 8 = f3_7 from fld_of h3_11).symm), ((show fld w135 166 9 = f3_9 from fld_of hk136).trans (show fld w 3 9 = f3_9 from fld_of h3_11).symm)⟩, hq138, hq140, hq142, hq144, hq146⟩⟩⟩
set_option maxRecDepth 100000 in
theorem imFilmE20 (hI : xInv w) (hJ : xIm 164 189 w) : xPq (d + 2) mX1_copy [(2, 3), (2, 166)] w bd fc rr [] (fun w' => xInv w' ∧ xFr [3, 4, 5, 6, 7, 8, 9, 10, 11, 12, 13] w w' ∧ (xIm 164 189 w' ∧ fmE w' 3 w 166)) := by
  refine xPq.of ?_
  show xTo (d + 2) mX1_copy (0, [], [(0, (2, 3)), (1, (2, 166))], [], (w, bd, fc, 0, 0, rr)) (fun φ => ∃ w', xEnd 0 [] (w', bd, fc, 0, 0, rr) φ ∧ xInv w' ∧ xFr [3, 4, 5, 6, 7, 8, 9, 10, 11, 12, 13] w w' ∧ (xIm 164 189 w' ∧ fmE w' 3 w 166))
  refine xoC3 (xqc3 hI : cp3 (wget w 3)) (fun f3_1 f3_3 f3_5 f3_7 f3_9 h3_11 hb2 hb4 hb6 hb8 hb10 => ?_)
  obtain ⟨f166_12, f166_14, f166_16, f166_18, f166_20, h166_22, hb13, hb15, hb17, hb19, hb21⟩ := (hJ 166 (by decide) (by decide) : cp166 (wget w 166))
  obtain ⟨f4_23, h4_25, hb24⟩ := (xqc4 hI : cp4 (wget w 4))
  refine xoI (xqc5 hI : cpI 24 1 4294967295 (wget w 5)) (fun g5_26 h5_27 hb28 => ?_)
  obtain ⟨f167_29, h167_31, hb30⟩ := (hJ 167 (by decide) (by decide) : cp167 (wget w 167))
  refine xoI (hJ 168 (by decide) (by decide) : cpI 24 106 4294967295 (wget w 168)) (fun g168_32 h168_33 hb34 => ?_)
  obtain ⟨f6_35, h6_37, hb36⟩ := (xqc6 hI : cp6 (wget w 6))
  refine xoI (xqc7 hI : cpI 8 2 4294967295 (wget w 7)) (fun g7_38 h7_39 hb40 => ?_)
  obtain ⟨f169_41, h169_43, hb42⟩ := (hJ 169 (by decide) (by decide) : cp169 (wget w 169))
  refine xoI (hJ 170 (by decide) (by decide) : cpI 8 107 4294967295 (wget w 170)) (fun g170_44 h170_45 hb46 => ?_)
  obtain ⟨f8_47, h8_49, hb48⟩ := (xqc8 hI : cp8 (wget w 8))
  refine xoI (xqc9 hI : cpI 12 3 4294967295 (wget w 9)) (fun g9_50 h9_51 hb52 => ?_)
  obtain ⟨f171_53, h171_55, hb54⟩ := (hJ 171 (by decide) (by decide) : cp171 (wget w 171))
  refine xoI (hJ 172 (by decide) (by decide) : cpI 12 108 4294967295 (wget w 172)) (fun g172_56 h172_57 hb58 => ?_)
  obtain ⟨f10_59, h10_61, hb60⟩ := (xqc10 hI : cp10 (wget w 10))
  refine xoI (xqc11 hI : cpI 12 4 4294967295 (wget w 11)) (fun g11_62 h11_63 hb64 => ?_)
  obtain ⟨f173_65, h173_67, hb66⟩ := (hJ 173 (by decide) (by decide) : cp173 (wget w 173))
  refine xoI (hJ 174 (by decide) (by decide) : cpI 12 109 4294967295 (wget w 174)) (fun g174_68 h174_69 hb70 => ?_)
  obtain ⟨f12_71, h12_73, hb72⟩ := (xqc12 hI : cp12 (wget w 12))
  refine xoI (xqc13 hI : cpI 40 5 4294967295 (wget w 13)) (fun g13_74 h13_75 hb76 => ?_)
  obtain ⟨f175_77, h175_79, hb78⟩ := (hJ 175 (by decide) (by decide) : cp175 (wget w 175))
  refine xoI (hJ 176 (by decide) (by decide) : cpI 40 110 4294967295 (wget w 176)) (fun g176_80 h176_81 hb82 => ?_)
  refine xg_t (xg_blq rfl) ?_
  refine xg_t (xg_aload (va := (2, 3)) rfl rfl) ?_
  refine xg_t (xg_getf (va := (2, 4)) h3_11 rfl) ?_
  refine xg_t (xg_aload (va := (2, 166)) rfl rfl) ?_
  refine xg_t (xg_getf (va := (2, 167)) h166_22 rfl) ?_
  refine xg_cVv mX5_copy (vs := [(2, 167)]) (rest := []) (cn1 := 0) (sl1 := 0) rfl (rcopyX (lim := 6) (wd := 4) (B := 4294967295) h4_25 h167_31 h5_27 h168_33 (hb28) (hb34) (by decide) (by omega) (by decide) (by decide) (by decide) (by decide) (by decide) (by decide)) rfl h4_25 rfl rfl rfl rfl rfl rfl (fun w83 hq84 => ?_)
  obtain ⟨hk85, g86, hr87, hb88, hx90, hF89⟩ := hq84
  refine xg_t (xg_aload (va := (2, 3)) rfl rfl) ?_
  refine xg_t (xg_getf (va := (2, 6)) (hF89.get (by decide) h3_11) rfl) ?_
  refine xg_t (xg_aload (va := (2, 166)) rfl rfl) ?_
  refine xg_t (xg_getf (va := (2, 169)) (hF89.get (by decide) h166_22) rfl) ?_
  refine xg_cVv mX5_copy (vs := [(2, 169)]) (rest := []) (cn1 := 0) (sl1 := 0) rfl (rcopyX (lim := 4) (wd := 2) (B := 4294967295) (hF89.get (by decide) h6_37) (hF89.get (by decide) h169_43) (h7_39.fr hF89 (by decide)) (h170_45.fr hF89 (by decide)) (hb40) (hb46) (by decide) (by omega) (by decide) (by decide) (by decide) (by decide) (by decide) (by decide)) rfl (hF89.get (by decide) h6_37) rfl rfl rfl rfl rfl rfl (fun w91 hq92 => ?_)
  obtain ⟨hk93, g94, hr95, hb96, hx98, hF97⟩ := hq92
  refine xg_t (xg_aload (va := (2, 3)) rfl rfl) ?_
  refine xg_t (xg_getf (va := (2, 8)) (hF97.get (by decide) (hF89.get (by decide) h3_11)) rfl) ?_
  refine xg_t (xg_aload (va := (2, 166)) rfl rfl) ?_
  refine xg_t (xg_getf (va := (2, 171)) (hF97.get (by decide) (hF89.get (by decide) h166_22)) rfl) ?_
  refine xg_cVv mX5_copy (vs := [(2, 171)]) (rest := []) (cn1 := 0) (sl1 := 0) rfl (rcopyX (lim := 6) (wd := 2) (B := 4294967295) (hF97.get (by decide) (hF89.get (by decide) h8_49)) (hF97.get (by decide) (hF89.get (by decide) h171_55)) ((h9_51.fr hF89 (by decide)).fr hF97 (by decide)) ((h172_57.fr hF89 (by decide)).fr hF97 (by decide)) (hb52) (hb58) (by decide) (by omega) (by decide) (by decide) (by decide) (by decide) (by decide) (by decide)) rfl (hF97.get (by decide) (hF89.get (by decide) h8_49)) rfl rfl rfl rfl rfl rfl (fun w99 hq100 => ?_)
  obtain ⟨hk101, g102, hr103, hb104, hx106, hF105⟩ := hq100
  refine xg_t (xg_aload (va := (2, 3)) rfl rfl) ?_
  refine xg_t (xg_getf (va := (2, 10)) (hF105.get (by decide) (hF97.get (by decide) (hF89.get (by decide) h3_11))) rfl) ?_
  refine xg_t (xg_aload (va := (2, 166)) rfl rfl) ?_
  refine xg_t (xg_getf (va := (2, 173)) (hF105.get (by decide) (hF97.get (by decide) (hF89.get (by decide) h166_22))) rfl) ?_
  refine xg_cVv mX5_copy (vs := [(2, 173)]) (rest := []) (cn1 := 0) (sl1 := 0) rfl (rcopyX (lim := 4) (wd := 3) (B := 4294967295) (hF105.get (by decide) (hF97.get (by decide) (hF89.get (by decide) h10_61))) (hF105.get (by decide) (hF97.get (by decide) (hF89.get (by decide) h173_67))) (((h11_63.fr hF89 (by decide)).fr hF97 (by decide)).fr hF105 (by decide)) (((h174_69.fr hF89 (by decide)).fr hF97 (by decide)).fr hF105 (by decide)) (hb64) (hb70) (by decide) (by omega) (by decide) (by decide) (by decide) (by decide) (by decide) (by decide)) rfl (hF105.get (by decide) (hF97.get (by decide) (hF89.get (by decide) h10_61))) rfl rfl rfl rfl rfl rfl (fun w107 hq108 => ?_)
  obtain ⟨hk109, g110, hr111, hb112, hx114, hF113⟩ := hq108
  refine xg_t (xg_aload (va := (2, 3)) rfl rfl) ?_
  refine xg_t (xg_getf (va := (2, 12)) (hF113.get (by decide) (hF105.get (by decide) (hF97.get (by decide) (hF89.get (by decide) h3_11)))) rfl) ?_
  refine xg_t (xg_aload (va := (2, 166)) rfl rfl) ?_
  refine xg_t (xg_getf (va := (2, 175)) (hF113.get (by decide) (hF105.get (by decide) (hF97.get (by decide) (hF89.get (by decide) h166_22)))) rfl) ?_
  refine xg_cVv mX5_copy (vs := [(2, 175)]) (rest := []) (cn1 := 0) (sl1 := 0) rfl (rcopyX (lim := 20) (wd := 2) (B := 4294967295) (hF113.get (by decide) (hF105.get (by decide) (hF97.get (by decide) (hF89.get (by decide) h12_73)))) (hF113.get (by decide) (hF105.get (by decide) (hF97.get (by decide) (hF89.get (by decide) h175_79)))) ((((h13_75.fr hF89 (by decide)).fr hF97 (by decide)).fr hF105 (by decide)).fr hF113 (by decide)) ((((h176_81.fr hF89 (by decide)).fr hF97 (by decide)).fr hF105 (by decide)).fr hF113 (by decide)) (hb76) (hb82) (by decide) (by omega) (by decide) (by decide) (by decide) (by decide) (by decide) (by decide)) rfl (hF113.get (by decide) (hF105.get (by decide) (hF97.get (by decide) (hF89.get (by decide) h12_73)))) rfl rfl rfl rfl rfl rfl (fun w115 hq116 => ?_)
  obtain ⟨hk117, g118, hr119, hb120, hx122, hF121⟩ := hq116
  refine xg_t (xg_aload (va := (2, 3)) rfl rfl) ?_
  refine xg_t (xg_aload (va := (2, 166)) rfl rfl) ?_
  refine xg_t (xg_getf (va := (0, f166_12)) (hF121.get (by decide) (hF113.get (by decide) (hF105.get (by decide) (hF97.get (by decide) (hF89.get (by decide) h166_22))))) rfl) ?_
  refine xg_putI (fl1 := [(2, 4), (2, 6), (2, 8), (2, 10), (2, 12), (0, f166_12), (0, f3_3), (0, f3_5), (0, f3_7), (0, f3_9)]) (hF121.get (by decide) (hF113.get (by decide) (hF105.get (by decide) (hF97.get (by decide) (hF89.get (by decide) h3_11))))) rfl rfl rfl (fun w123 hk124 hb125 => ?_)
  refine xg_t (xg_aload (va := (2, 3)) rfl rfl) ?_
  refine xg_t (xg_aload (va := (2, 166)) rfl rfl) ?_
  refine xg_t (xg_getf (va := (0, f166_14)) (hb125.get (by decide) (hF121.get (by decide) (hF113.get (by decide) (hF105.get (by decide) (hF97.get (by decide) (hF89.get (by decide) h166_22)))))) rfl) ?_
  refine xg_putI (fl1 := [(2, 4), (2, 6), (2, 8), (2, 10), (2, 12), (0, f166_12), (0, f166_14), (0, f3_5), (0, f3_7), (0, f3_9)]) hk124 rfl rfl rfl (fun w126 hk127 hb128 => ?_)
  refine xg_t (xg_aload (va := (2, 3)) rfl rfl) ?_
  refine xg_t (xg_aload (va := (2, 166)) rfl rfl) ?_
  refine xg_t (xg_getf (va := (0, f166_16)) (hb128.get (by decide) (hb125.get (by decide) (hF121.get (by decide) (hF113.get (by decide) (hF105.get (by decide) (hF97.get (by decide) (hF89.get (by decide) h166_22))))))) rfl) ?_
  refine xg_putI (fl1 := [(2, 4), (2, 6), (2, 8), (2, 10), (2, 12), (0, f166_12), (0, f166_14), (0, f166_16), (0, f3_7), (0, f3_9)]) hk127 rfl rfl rfl (fun w129 hk130 hb131 => ?_)
  refine xg_t (xg_aload (va := (2, 3)) rfl rfl) ?_
  refine xg_t (xg_aload (va := (2, 166)) rfl rfl) ?_
  refine xg_t (xg_getf (va := (0, f166_18)) (hb131.get (by decide) (hb128.get (by decide) (hb125.get (by decide) (hF121.get (by decide) (hF113.get (by decide) (hF105.get (by decide) (hF97.get (by decide) (hF89.get (by decide) h166_22)))))))) rfl) ?_
  refine xg_putI (fl1 := [(2, 4), (2, 6), (2, 8), (2, 10), (2, 12), (0, f166_12), (0, f166_14), (0, f166_16), (0, f166_18), (0, f3_9)]) hk130 rfl rfl rfl (fun w132 hk133 hb134 => ?_)
  refine xg_t (xg_aload (va := (2, 3)) rfl rfl) ?_
  refine xg_t (xg_aload (va := (2, 166)) rfl rfl) ?_
  refine xg_t (xg_getf (va := (0, f166_20)) (hb134.get (by decide) (hb131.get (by decide) (hb128.get (by decide) (hb125.get (by decide) (hF121.get (by decide) (hF113.get (by decide) (hF105.get (by decide) (hF97.get (by decide) (hF89.get (by decide) h166_22))))))))) rfl) ?_
  refine xg_putI (fl1 := [(2, 4), (2, 6), (2, 8), (2, 10), (2, 12), (0, f166_12), (0, f166_14), (0, f166_16), (0, f166_18), (0, f166_20)]) hk133 rfl rfl rfl (fun w135 hk136 hb137 => ?_)
  have hq139 : fld w 167 3 = f167_29 := fld_of h167_31
  have hq138 : rwE w135 4 w 167 4 := ⟨((show fld w135 4 3 = f167_29 from fld_of (hb137.get (by decide) (hb134.get (by decide) (hb131.get (by decide) (hb128.get (by decide) (hb125.get (by decide) (hF121.get (by decide) (hF113.get (by decide) (hF105.get (by decide) (hF97.get (by decide) hk85)))))))))).trans (show fld w 167 3 = f167_29 from fld_of h167_31).symm), fun j hj => by
    rw [hq139] at hj
    exact (rwv_of (((((((((hr87.fr hF97 (by decide)).fr hF105 (by decide)).fr hF113 (by decide)).fr hF121 (by decide)).but hb125 (by decide)).but hb128 (by decide)).but hb131 (by decide)).but hb134 (by decide)).but hb137 (by decide)) (by omega)).trans ((hx90 j hj).trans (rwv_of h168_33 (by omega)).symm)⟩
  have hq141 : fld w 169 3 = f169_41 := fld_of h169_43
  have hq140 : rwE w135 6 w 169 2 := ⟨((show fld w135 6 3 = f169_41 from fld_of (hb137.get (by decide) (hb134.get (by decide) (hb131.get (by decide) (hb128.get (by decide) (hb125.get (by decide) (hF121.get (by decide) (hF113.get (by decide) (hF105.get (by decide) hk93))))))))).trans (show fld w 169 3 = f169_41 from fld_of h169_43).symm), fun j hj => by
    rw [hq141] at hj
    exact (rwv_of ((((((((hr95.fr hF105 (by decide)).fr hF113 (by decide)).fr hF121 (by decide)).but hb125 (by decide)).but hb128 (by decide)).but hb131 (by decide)).but hb134 (by decide)).but hb137 (by decide)) (by omega)).trans ((hx98 j hj).trans (rwv_of h170_45 (by omega)).symm)⟩
  have hq143 : fld w 171 3 = f171_53 := fld_of h171_55
  have hq142 : rwE w135 8 w 171 2 := ⟨((show fld w135 8 3 = f171_53 from fld_of (hb137.get (by decide) (hb134.get (by decide) (hb131.get (by decide) (hb128.get (by decide) (hb125.get (by decide) (hF121.get (by decide) (hF113.get (by decide) hk101)))))))).trans (show fld w 171 3 = f171_53 from fld_of h171_55).symm), fun j hj => by
    rw [hq143] at hj
    exact (rwv_of (((((((hr103.fr hF113 (by decide)).fr hF121 (by decide)).but hb125 (by decide)).but hb128 (by decide)).but hb131 (by decide)).but hb134 (by decide)).but hb137 (by decide)) (by omega)).trans ((hx106 j hj).trans (rwv_of h172_57 (by omega)).symm)⟩
  have hq145 : fld w 173 3 = f173_65 := fld_of h173_67
  have hq144 : rwE w135 10 w 173 3 := ⟨((show fld w135 10 3 = f173_65 from fld_of (hb137.get (by decide) (hb134.get (by decide) (hb131.get (by decide) (hb128.get (by decide) (hb125.get (by decide) (hF121.get (by decide) hk109))))))).trans (show fld w 173 3 = f173_65 from fld_of h173_67).symm), fun j hj => by
    rw [hq145] at hj
    exact (rwv_of ((((((hr111.fr hF121 (by decide)).but hb125 (by decide)).but hb128 (by decide)).but hb131 (by decide)).but hb134 (by decide)).but hb137 (by decide)) (by omega)).trans ((hx114 j hj).trans (rwv_of h174_69 (by omega)).symm)⟩
  have hq147 : fld w 175 3 = f175_77 := fld_of h175_79
  have hq146 : rwE w135 12 w 175 2 := ⟨((show fld w135 12 3 = f175_77 from fld_of (hb137.get (by decide) (hb134.get (by decide) (hb131.get (by decide) (hb128.get (by decide) (hb125.get (by decide) hk117)))))).trans (show fld w 175 3 = f175_77 from fld_of h175_79).symm), fun j hj => by
    rw [hq147] at hj
    exact (rwv_of (((((hr119.but hb125 (by decide)).but hb128 (by decide)).but hb131 (by decide)).but hb134 (by decide)).but hb137 (by decide)) (by omega)).trans ((hx122 j hj).trans (rwv_of h176_81 (by omega)).symm)⟩
  exact xg_e ⟨w135, ⟨rfl, rfl⟩, xInv.up (S := [4, 5, 6, 7, 8, 9, 10, 11, 12, 13, 3]) hI ((((((((((hF89.up (T := [4, 5, 6, 7, 8, 9, 10, 11, 12, 13, 3]) (by decide)).tr (hF97.up (T := [4, 5, 6, 7, 8, 9, 10, 11, 12, 13, 3]) (by decide))).tr (hF105.up (T := [4, 5, 6, 7, 8, 9, 10, 11, 12, 13, 3]) (by decide))).tr (hF113.up (T := [4, 5, 6, 7, 8, 9, 10, 11, 12, 13, 3]) (by decide))).tr (hF121.up (T := [4, 5, 6, 7, 8, 9, 10, 11, 12, 13, 3]) (by decide))).tr (xFr.of (S := [4, 5, 6, 7, 8, 9, 10, 11, 12, 13, 3]) hb125 (by decide))).tr (xFr.of (S := [4, 5, 6, 7, 8, 9, 10, 11, 12, 13, 3]) hb128 (by decide))).tr (xFr.of (S := [4, 5, 6, 7, 8, 9, 10, 11, 12, 13, 3]) hb131 (by decide))).tr (xFr.of (S := [4, 5, 6, 7, 8, 9, 10, 11, 12, 13, 3]) hb134 (by decide))).tr (xFr.of (S := [4, 5, 6, 7, 8, 9, 10, 11, 12, 13, 3]) hb137 (by decide))) (List.forall_mem_cons.mpr ⟨xqu4 (show cp4 (wget w135 4) from ⟨f167_29, (hb137.get (by decide) (hb134.get (by decide) (hb131.get (by decide) (hb128.get (by decide) (hb125.get (by decide) (hF121.get (by decide) (hF113.get (by decide) (hF105.get (by decide) (hF97.get (by decide) hk85))))))))), hb30⟩), List.forall_mem_cons.mpr ⟨xqu5 (show cpI 24 1 4294967295 (wget w135 5) from ⟨_, (((((((((hr87.fr hF97 (by decide)).fr hF105 (by decide)).fr hF113 (by decide)).fr hF121 (by decide)).but hb125 (by decide)).but hb128 (by decide)).but hb131 (by decide)).but hb134 (by decide)).but hb137 (by decide)), hb88⟩), List.forall_mem_cons.mpr ⟨xqu6 (show cp6 (wget w135 6) from ⟨f169_41, (hb137.get (by decide) (hb134.get (by decide) (hb131.get (by decide) (hb128.get (by decide) (hb125.get (by decide) (hF121.get (by decide) (hF113.get (by decide) (hF105.get (by decide) hk93)))))))), hb42⟩), List.forall_mem_cons.mpr ⟨xqu7 (show cpI 8 2 4294967295 (wget w135 7) from ⟨_, ((((((((hr95.fr hF105 (by decide)).fr hF113 (by decide)).fr hF121 (by decide)).but hb125 (by decide)).but hb128 (by decide)).but hb131 (by decide)).but hb134 (by decide)).but hb137 (by decide)), hb96⟩), List.forall_mem_cons.mpr ⟨xqu8 (show cp8 (wget w135 8) from ⟨f171_53, (hb137.get (by decide) (hb134.get (by decide) (hb131.get (by decide) (hb128.get (by decide) (hb125.get (by decide) (hF121.get (by decide) (hF113.get (by decide) hk101))))))), hb54⟩), List.forall_mem_cons.mpr ⟨xqu9 (show cpI 12 3 4294967295 (wget w135 9) from ⟨_, (((((((hr103.fr hF113 (by decide)).fr hF121 (by decide)).but hb125 (by decide)).but hb128 (by decide)).but hb131 (by decide)).but hb134 (by decide)).but hb137 (by decide)), hb104⟩), List.forall_mem_cons.mpr ⟨xqu10 (show cp10 (wget w135 10) from ⟨f173_65, (hb137.get (by decide) (hb134.get (by decide) (hb131.get (by decide) (hb128.get (by decide) (hb125.get (by decide) (hF121.get (by decide) hk109)))))), hb66⟩), List.forall_mem_cons.mpr ⟨xqu11 (show cpI 12 4 4294967295 (wget w135 11) from ⟨_, ((((((hr111.fr hF121 (by decide)).but hb125 (by decide)).but hb128 (by decide)).but hb131 (by decide)).but hb134 (by decide)).but hb137 (by decide)), hb112⟩), List.forall_mem_cons.mpr ⟨xqu12 (show cp12 (wget w135 12) from ⟨f175_77, (hb137.get (by decide) (hb134.get (by decide) (hb131.get (by decide) (hb128.get (by decide) (hb125.get (by decide) hk117))))), hb78⟩), List.forall_mem_cons.mpr ⟨xqu13 (show cpI 40 5 4294967295 (wget w135 13) from ⟨_, (((((hr119.but hb125 (by decide)).but hb128 (by decide)).but hb131 (by decide)).but hb134 (by decide)).but hb137 (by decide)), hb120⟩), List.forall_mem_cons.mpr ⟨xqu3 (show cp3 (wget w135 3) from xmC3 f166_12 f166_14 f166_16 f166_18 f166_20 hk136 hb13 hb15 hb17 hb19 hb21), fun _ h => absurd h List.not_mem_nil⟩⟩⟩⟩⟩⟩⟩⟩⟩⟩⟩), ((((((((((hF89.up (T := [3, 4, 5, 6, 7, 8, 9, 10, 11, 12, 13]) (by decide)).tr (hF97.up (T := [3, 4, 5, 6, 7, 8, 9, 10, 11, 12, 13]) (by decide))).tr (hF105.up (T := [3, 4, 5, 6, 7, 8, 9, 10, 11, 12, 13]) (by decide))).tr (hF113.up (T := [3, 4, 5, 6, 7, 8, 9, 10, 11, 12, 13]) (by decide))).tr (hF121.up (T := [3, 4, 5, 6, 7, 8, 9, 10, 11, 12, 13]) (by decide))).tr (xFr.of (S := [3, 4, 5, 6, 7, 8, 9, 10, 11, 12, 13]) hb125 (by decide))).tr (xFr.of (S := [3, 4, 5, 6, 7, 8, 9, 10, 11, 12, 13]) hb128 (by decide))).tr (xFr.of (S := [3, 4, 5, 6, 7, 8, 9, 10, 11, 12, 13]) hb131 (by decide))).tr (xFr.of (S := [3, 4, 5, 6, 7, 8, 9, 10, 11, 12, 13]) hb134 (by decide))).tr (xFr.of (S := [3, 4, 5, 6, 7, 8, 9, 10, 11, 12, 13]) hb137 (by decide))), ⟨xIm.up (S := [4, 5, 6, 7, 8, 9, 10, 11, 12, 13, 3]) hJ ((((((((((hF89.up (T := [4, 5, 6, 7, 8, 9, 10, 11, 12, 13, 3]) (by decide)).tr (hF97.up (T := [4, 5, 6, 7, 8, 9, 10, 11, 12, 13, 3]) (by decide))).tr (hF105.up (T := [4, 5, 6, 7, 8, 9, 10, 11, 12, 13, 3]) (by decide))).tr (hF113.up (T := [4, 5, 6, 7, 8, 9, 10, 11, 12, 13, 3]) (by decide))).tr (hF121.up (T := [4, 5, 6, 7, 8, 9, 10, 11, 12, 13, 3]) (by decide))).tr (xFr.of (S := [4, 5, 6, 7, 8, 9, 10, 11, 12, 13, 3]) hb125 (by decide))).tr (xFr.of (S := [4, 5, 6, 7, 8, 9, 10, 11, 12, 13, 3]) hb128 (by decide))).tr (xFr.of (S := [4, 5, 6, 7, 8, 9, 10, 11, 12, 13, 3]) hb131 (by decide))).tr (xFr.of (S := [4, 5, 6, 7, 8, 9, 10, 11, 12, 13, 3]) hb134 (by decide))).tr (xFr.of (S := [4, 5, 6, 7, 8, 9, 10, 11, 12, 13, 3]) hb137 (by decide))) (List.forall_mem_cons.mpr ⟨(fun h => absurd h (by omega)), List.forall_mem_cons.mpr ⟨(fun h => absurd h (by omega)), List.forall_mem_cons.mpr ⟨(fun h => absurd h (by omega)), List.forall_mem_cons.mpr ⟨(fun h => absurd h (by omega)), List.forall_mem_cons.mpr ⟨(fun h => absurd h (by omega)), List.forall_mem_cons.mpr ⟨(fun h => absurd h (by omega)), List.forall_mem_cons.mpr ⟨(fun h => absurd h (by omega)), List.forall_mem_cons.mpr ⟨(fun h => absurd h (by omega)), List.forall_mem_cons.mpr ⟨(fun h => absurd h (by omega)), List.forall_mem_cons.mpr ⟨(fun h => absurd h (by omega)), List.forall_mem_cons.mpr ⟨(fun h => absurd h (by omega)), fun _ h => absurd h List.not_mem_nil⟩⟩⟩⟩⟩⟩⟩⟩⟩⟩⟩), ⟨⟨((show fld w135 3 5 = f166_12 from fld_of hk136).trans (show fld w 166 5 = f166_12 from fld_of h166_22).symm), ((show fld w135 3 6 = f166_14 from fld_of hk136).trans (show fld w 166 6 = f166_14 from fld_of h166_22).symm), ((show fld w135 3 7 = f166_16 from fld_of hk136).trans (show fld w 166 7 = f166_16 from fld_of h166_22).symm), ((show fld w135 3 8 = f166_18 from fld_of hk136).trans (show fld w 166 8 = f166_18 from fld_of h166_22).symm), ((show fld w135 3 9 = f166_20 from fld_of hk136).trans (show fld w 166 9 = f166_20 from fld_of h166_22).symm)⟩, hq138, hq140, hq142, hq144, hq146⟩⟩⟩
set_option maxRecDepth 100000 in
theorem imToldE01 (hI : xInv w) (hJ : xIm 114 139 w) : xPq (d + 3) mX9_copy [(2, 114), (2, 1)] w bd fc rr [] (fun w' => xInv w' ∧ xFr [114, 115, 116, 117, 118, 119, 120, 121, 122, 123, 124, 125, 126, 127, 128, 129, 130, 131, 132, 133, 134, 135, 136, 137, 138] w w' ∧ (xIm 114 139 w' ∧ tdE w' 114 w 1)) := by
  refine xPq.of ?_
  show xTo (d + 3) mX9_copy (0, [], [(0, (2, 114)), (1, (2, 1))], [], (w, bd, fc, 0, 0, rr)) (fun φ => ∃ w', xEnd 0 [] (w', bd, fc, 0, 0, rr) φ ∧ xInv w' ∧ xFr [114, 115, 116, 117, 118, 119, 120, 121, 122, 123, 124, 125, 126, 127, 128, 129, 130, 131, 132, 133, 134, 135, 136, 137, 138] w w' ∧ (xIm 114 139 w' ∧ tdE w' 114 w 1))
  refine xoC1 (xqc1 hI : cp1 (wget w 1)) (fun f1_1 f1_3 f1_5 f1_7 f1_9 f1_11 h1_13 hb2 hb4 hb6 hb8 hb10 hb12 => ?_)
  obtain ⟨f114_14, f114_16, f114_18, f114_20, f114_22, f114_24, h114_26, hb15, hb17, hb19, hb21, hb23, hb25⟩ := (hJ 114 (by decide) (by decide) : cp114 (wget w 114))
  obtain ⟨g2_27, h2_28, hb29⟩ := (xqc2 hI : cpY 500 0 (wget w 2))
  have h2_28 : xRk 1 0 w 2 500 0 g2_27 := h2_28
  obtain ⟨g115_30, h115_31, hb32⟩ := (hJ 115 (by decide) (by decide) : cpY 500 81 (wget w 115))
  have h115_31 : xRk 1 0 w 115 500 81 g115_30 := h115_31
  obtain ⟨f14_33, h14_35, hb34⟩ := (xqc14 hI : cp14 (wget w 14))
  obtain ⟨f16_36, h16_38, hb37⟩ := (xqc16 hI : cp16 (wget w 16))
  obtain ⟨f18_39, h18_41, hb40⟩ := (xqc18 hI : cp18 (wget w 18))
  obtain ⟨f20_42, h20_44, hb43⟩ := (xqc20 hI : cp20 (wget w 20))
  obtain ⟨f22_45, h22_47, hb46⟩ := (xqc22 hI : cp22 (wget w 22))
  obtain ⟨f24_48, h24_50, hb49⟩ := (xqc24 hI : cp24 (wget w 24))
  refine xoI (xqc15 hI : cpI 200 6 4294967295 (wget w 15)) (fun g15_51 h15_52 hb53 => ?_)
  refine xoI (xqc17 hI : cpI 60 7 4294967295 (wget w 17)) (fun g17_54 h17_55 hb56 => ?_)
  refine xoI (xqc19 hI : cpI 12 8 4294967295 (wget w 19)) (fun g19_57 h19_58 hb59 => ?_)
  refine xoI (xqc21 hI : cpI 48 9 4294967295 (wget w 21)) (fun g21_60 h21_61 hb62 => ?_)
  refine xoI (xqc23 hI : cpI 32 10 4294967295 (wget w 23)) (fun g23_63 h23_64 hb65 => ?_)
  refine xoI (xqc25 hI : cpI 320 11 4294967295 (wget w 25)) (fun g25_66 h25_67 hb68 => ?_)
  refine xg_t (xg_blq rfl) ?_
  refine xg_t (xg_aload (va := (2, 1)) rfl rfl) ?_
  refine xg_t (xg_getf (va := (2, 2)) h1_13 rfl) ?_
  refine xg_t (xg_const) ?_
  refine xg_t (xg_aload (va := (2, 114)) rfl rfl) ?_
  refine xg_t (xg_getf (va := (2, 115)) h114_26 rfl) ?_
  refine xg_t (xg_const) ?_
  refine xg_t (xg_sip) ?_
  refine xg_copyY (n := 500) h2_28 h115_31 (hb29) xnm0 (by omega) (by omega) (Nat.le_of_ble_eq_true rfl) (fun w69 hr70 hb71 => ?_)
  have rb72 : ∀ j, xby ((fun j => if j < 500 then g2_27 j else g115_30 j) j) := fun j => by
    show xby (if j < 500 then g2_27 j else g115_30 j)
    split
    · exact (hb29) j
    · exact (hb32) j
  refine xg_t (xg_aload (va := (2, 114)) rfl rfl) ?_
  refine xg_t (xg_aload (va := (2, 1)) rfl rfl) ?_
  refine xg_t (xg_getf (va := (0, f1_1)) (hb71.get (by decide) h1_13) rfl) ?_
  refine xg_putI (fl1 := [(2, 115), (0, f1_1), (0, f114_16), (0, f114_18), (2, 116), (2, 127), (0, f114_20), (0, f114_22), (2, 129), (0, f114_24), (2, 131), (2, 133), (2, 135), (2, 137)]) (hb71.get (by decide) h114_26) rfl rfl rfl (fun w73 hk74 hb75 => ?_)
  refine xg_t (xg_aload (va := (2, 114)) rfl rfl) ?_
  refine xg_t (xg_aload (va := (2, 1)) rfl rfl) ?_
  refine xg_t (xg_getf (va := (0, f1_3)) (hb75.get (by decide) (hb71.get (by decide) h1_13)) rfl) ?_
  refine xg_putI (fl1 := [(2, 115), (0, f1_1), (0, f1_3), (0, f114_18), (2, 116), (2, 127), (0, f114_20), (0, f114_22), (2, 129), (0, f114_24), (2, 131), (2, 133), (2, 135), (2, 137)]) hk74 rfl rfl rfl (fun w76 hk77 hb78 => ?_)
  refine xg_t (xg_aload (va := (2, 114)) rfl rfl) ?_
  refine xg_t (xg_aload (va := (2, 1)) rfl rfl) ?_
  refine xg_t (xg_getf (va := (0, f1_5)) (hb78.get (by decide) (hb75.get (by decide) (hb71.get (by decide) h1_13))) rfl) ?_
  refine xg_putI (fl1 := [(2, 115), (0, f1_1), (0, f1_3), (0, f1_5), (2, 116), (2, 127), (0, f114_20), (0, f114_22), (2, 129), (0, f114_24), (2, 131), (2, 133), (2, 135), (2, 137)]) hk77 rfl rfl rfl (fun w79 hk80 hb81 => ?_)
  refine xg_t (xg_aload (va := (2, 114)) rfl rfl) ?_
  refine xg_t (xg_getf (va := (2, 116)) hk80 rfl) ?_
  refine xg_t (xg_aload (va := (2, 1)) rfl rfl) ?_
  refine xg_t (xg_getf (va := (2, 3)) (hb81.get (by decide) (hb78.get (by decide) (hb75.get (by decide) (hb71.get (by decide) h1_13)))) rfl) ?_
  obtain ⟨f116_82, f116_84, f116_86, f116_88, f116_90, h116_92, hb83, hb85, hb87, hb89, hb91⟩ := (hJ 116 (by decide) (by decide) : cp116 (wget w 116))
  refine xg_cVv mX1_copy (vs := [(2, 3)]) (rest := []) (cn1 := 0) (sl1 := 0) rfl (imFilmE01 (xInv.up (S := [115, 114]) hI ((((xFr.of (S := [115, 114]) hb71 (by decide)).tr (xFr.of (S := [115, 114]) hb75 (by decide))).tr (xFr.of (S := [115, 114]) hb78 (by decide))).tr (xFr.of (S := [115, 114]) hb81 (by decide))) (List.forall_mem_cons.mpr ⟨(show True from trivial), List.forall_mem_cons.mpr ⟨(show True from trivial), fun _ h => absurd h List.not_mem_nil⟩⟩)) (xIm.up (S := [115, 114]) hJ ((((xFr.of (S := [115, 114]) hb71 (by decide)).tr (xFr.of (S := [115, 114]) hb75 (by decide))).tr (xFr.of (S := [115, 114]) hb78 (by decide))).tr (xFr.of (S := [115, 114]) hb81 (by decide))) (List.forall_mem_cons.mpr ⟨(fun _ => show cpY 500 81 (wget w79 115) from ⟨_, (((hr70.but hb75 (by decide)).but hb78 (by decide)).but hb81 (by decide)), rb72⟩), List.forall_mem_cons.mpr ⟨(fun _ => show cp114 (wget w79 114) from ⟨f1_1, f1_3, f1_5, f114_20, f114_22, f114_24, hk80, by omega, by omega, by omega, by omega, by omega, by omega⟩), fun _ h => absurd h List.not_mem_nil⟩⟩))) rfl (hb81.get (by decide) (hb78.get (by decide) (hb75.get (by decide) (hb71.get (by decide) h116_92)))) rfl rfl rfl rfl rfl rfl (fun w93 hq94 => ?_)
  obtain ⟨hI95, hF96, hx97⟩ := hq94
  obtain ⟨hJ98, hE99⟩ := hx97
  refine xg_t (xg_aload (va := (2, 114)) rfl rfl) ?_
  refine xg_t (xg_getf (va := (2, 127)) (hF96.get (by decide) hk80) rfl) ?_
  refine xg_t (xg_aload (va := (2, 1)) rfl rfl) ?_
  refine xg_t (xg_getf (va := (2, 14)) (hF96.get (by decide) (hb81.get (by decide) (hb78.get (by decide) (hb75.get (by decide) (hb71.get (by decide) h1_13))))) rfl) ?_
  obtain ⟨f127_100, h127_102, hb101⟩ := (hJ98 127 (by decide) (by decide) : cp127 (wget w93 127))
  refine xoI (hJ98 128 (by decide) (by decide) : cpI 200 87 4294967295 (wget w93 128)) (fun g128_103 h128_104 hb105 => ?_)
  refine xg_cVv mX5_copy (vs := [(2, 14)]) (rest := []) (cn1 := 0) (sl1 := 0) rfl (rcopyX (lim := 40) (wd := 5) (B := 4294967295) h127_102 (hF96.get (by decide) (hb81.get (by decide) (hb78.get (by decide) (hb75.get (by decide) (hb71.get (by decide) h14_35))))) h128_104 (((((h15_52.but hb71 (by decide)).but hb75 (by decide)).but hb78 (by decide)).but hb81 (by decide)).fr hF96 (by decide)) (hb105) (hb53) (by decide) (by omega) (by decide) (by decide) (by decide) (by decide) (by decide) (by decide)) rfl h127_102 rfl rfl rfl rfl rfl rfl (fun w106 hq107 => ?_)
  obtain ⟨hk108, g109, hr110, hb111, hx113, hF112⟩ := hq107
  refine xg_t (xg_aload (va := (2, 114)) rfl rfl) ?_
  refine xg_t (xg_aload (va := (2, 1)) rfl rfl) ?_
  refine xg_t (xg_getf (va := (0, f1_7)) (hF112.get (by decide) (hF96.get (by decide) (hb81.get (by decide) (hb78.get (by decide) (hb75.get (by decide) (hb71.get (by decide) h1_13)))))) rfl) ?_
  refine xg_putI (fl1 := [(2, 115), (0, f1_1), (0, f1_3), (0, f1_5), (2, 116), (2, 127), (0, f1_7), (0, f114_22), (2, 129), (0, f114_24), (2, 131), (2, 133), (2, 135), (2, 137)]) (hF112.get (by decide) (hF96.get (by decide) hk80)) rfl rfl rfl (fun w114 hk115 hb116 => ?_)
  refine xg_t (xg_aload (va := (2, 114)) rfl rfl) ?_
  refine xg_t (xg_aload (va := (2, 1)) rfl rfl) ?_
  refine xg_t (xg_getf (va := (0, f1_9)) (hb116.get (by decide) (hF112.get (by decide) (hF96.get (by decide) (hb81.get (by decide) (hb78.get (by decide) (hb75.get (by decide) (hb71.get (by decide) h1_13))))))) rfl) ?_
  refine xg_putI (fl1 := [(2, 115), (0, f1_1), (0, f1_3), (0, f1_5), (2, 116), (2, 127), (0, f1_7), (0, f1_9), (2, 129), (0, f114_24), (2, 131), (2, 133), (2, 135), (2, 137)]) hk115 rfl rfl rfl (fun w117 hk118 hb119 => ?_)
  refine xg_t (xg_aload (va := (2, 114)) rfl rfl) ?_
  refine xg_t (xg_getf (va := (2, 129)) hk118 rfl) ?_
  refine xg_t (xg_aload (va := (2, 1)) rfl rfl) ?_
  refine xg_t (xg_getf (va := (2, 16)) (hb119.get (by decide) (hb116.get (by decide) (hF112.get (by decide) (hF96.get (by decide) (hb81.get (by decide) (hb78.get (by decide) (hb75.get (by decide) (hb71.get (by decide) h1_13)))))))) rfl) ?_
  obtain ⟨f129_120, h129_122, hb121⟩ := (hJ98 129 (by decide) (by decide) : cp129 (wget w93 129))
  refine xoI (hJ98 130 (by decide) (by decide) : cpI 60 88 4294967295 (wget w93 130)) (fun g130_123 h130_124 hb125 => ?_)
  refine xg_cVv mX5_copy (vs := [(2, 16)]) (rest := []) (cn1 := 0) (sl1 := 0) rfl (rcopyX (lim := 12) (wd := 5) (B := 4294967295) (hb119.get (by decide) (hb116.get (by decide) (hF112.get (by decide) h129_122))) (hb119.get (by decide) (hb116.get (by decide) (hF112.get (by decide) (hF96.get (by decide) (hb81.get (by decide) (hb78.get (by decide) (hb75.get (by decide) (hb71.get (by decide) h16_38)))))))) (((h130_124.fr hF112 (by decide)).but hb116 (by decide)).but hb119 (by decide)) ((((((((h17_55.but hb71 (by decide)).but hb75 (by decide)).but hb78 (by decide)).but hb81 (by decide)).fr hF96 (by decide)).fr hF112 (by decide)).but hb116 (by decide)).but hb119 (by decide)) (hb125) (hb56) (by decide) (by omega) (by decide) (by decide) (by decide) (by decide) (by decide) (by decide)) rfl (hb119.get (by decide) (hb116.get (by decide) (hF112.get (by decide) h129_122))) rfl rfl rfl rfl rfl rfl (fun w126 hq127 => ?_)
  obtain ⟨hk128, g129, hr130, hb131, hx133, hF132⟩ := hq127
  refine xg_t (xg_aload (va := (2, 114)) rfl rfl) ?_
  refine xg_t (xg_aload (va := (2, 1)) rfl rfl) ?_
  refine xg_t (xg_getf (va := (0, f1_11)) (hF132.get (by decide) (hb119.get (by decide) (hb116.get (by decide) (hF112.get (by decide) (hF96.get (by decide) (hb81.get (by decide) (hb78.get (by decide) (hb75.get (by decide) (hb71.get (by decide) h1_13))))))))) rfl) ?_
  refine xg_putI (fl1 := [(2, 115), (0, f1_1), (0, f1_3), (0, f1_5), (2, 116), (2, 127), (0, f1_7), (0, f1_9), (2, 129), (0, f1_11), (2, 131), (2, 133), (2, 135), (2, 137)]) (hF132.get (by decide) hk118) rfl rfl rfl (fun w134 hk135 hb136 => ?_)
  refine xg_t (xg_aload (va := (2, 114)) rfl rfl) ?_
  refine xg_t (xg_getf (va := (2, 131)) hk135 rfl) ?_
  refine xg_t (xg_aload (va := (2, 1)) rfl rfl) ?_
  refine xg_t (xg_getf (va := (2, 18)) (hb136.get (by decide) (hF132.get (by decide) (hb119.get (by decide) (hb116.get (by decide) (hF112.get (by decide) (hF96.get (by decide) (hb81.get (by decide) (hb78.get (by decide) (hb75.get (by decide) (hb71.get (by decide) h1_13)))))))))) rfl) ?_
  obtain ⟨f131_137, h131_139, hb138⟩ := (hJ98 131 (by decide) (by decide) : cp131 (wget w93 131))
  refine xoI (hJ98 132 (by decide) (by decide) : cpI 12 89 4294967295 (wget w93 132)) (fun g132_140 h132_141 hb142 => ?_)
  refine xg_cVv mX5_copy (vs := [(2, 18)]) (rest := []) (cn1 := 0) (sl1 := 0) rfl (rcopyX (lim := 4) (wd := 3) (B := 4294967295) (hb136.get (by decide) (hF132.get (by decide) (hb119.get (by decide) (hb116.get (by decide) (hF112.get (by decide) h131_139))))) (hb136.get (by decide) (hF132.get (by decide) (hb119.get (by decide) (hb116.get (by decide) (hF112.get (by decide) (hF96.get (by decide) (hb81.get (by decide) (hb78.get (by decide) (hb75.get (by decide) (hb71.get (by decide) h18_41)))))))))) (((((h132_141.fr hF112 (by decide)).but hb116 (by decide)).but hb119 (by decide)).fr hF132 (by decide)).but hb136 (by decide)) ((((((((((h19_58.but hb71 (by decide)).but hb75 (by decide)).but hb78 (by decide)).but hb81 (by decide)).fr hF96 (by decide)).fr hF112 (by decide)).but hb116 (by decide)).but hb119 (by decide)).fr hF132 (by decide)).but hb136 (by decide)) (hb142) (hb59) (by decide) (by omega) (by decide) (by decide) (by decide) (by decide) (by decide) (by decide)) rfl (hb136.get (by decide) (hF132.get (by decide) (hb119.get (by decide) (hb116.get (by decide) (hF112.get (by decide) h131_139))))) rfl rfl rfl rfl rfl rfl (fun w143 hq144 => ?_)
  obtain ⟨hk145, g146, hr147, hb148, hx150, hF149⟩ := hq144
  refine xg_t (xg_aload (va := (2, 114)) rfl rfl) ?_
  refine xg_t (xg_getf (va := (2, 133)) (hF149.get (by decide) hk135) rfl) ?_
  refine xg_t (xg_aload (va := (2, 1)) rfl rfl) ?_
  refine xg_t (xg_getf (va := (2, 20)) (hF149.get (by decide) (hb136.get (by decide) (hF132.get (by decide) (hb119.get (by decide) (hb116.get (by decide) (hF112.get (by decide) (hF96.get (by decide) (hb81.get (by decide) (hb78.get (by decide) (hb75.get (by decide) (hb71.get (by decide) h1_13))))))))))) rfl) ?_
  obtain ⟨f133_151, h133_153, hb152⟩ := (hJ98 133 (by decide) (by decide) : cp133 (wget w93 133))
  refine xoI (hJ98 134 (by decide) (by decide) : cpI 48 90 4294967295 (wget w93 134)) (fun g134_154 h134_155 hb156 => ?_)
  refine xg_cVv mX5_copy (vs := [(2, 20)]) (rest := []) (cn1 := 0) (sl1 := 0) rfl (rcopyX (lim := 12) (wd := 4) (B := 4294967295) (hF149.get (by decide) (hb136.get (by decide) (hF132.get (by decide) (hb119.get (by decide) (hb116.get (by decide) (hF112.get (by decide) h133_153)))))) (hF149.get (by decide) (hb136.get (by decide) (hF132.get (by decide) (hb119.get (by decide) (hb116.get (by decide) (hF112.get (by decide) (hF96.get (by decide) (hb81.get (by decide) (hb78.get (by decide) (hb75.get (by decide) (hb71.get (by decide) h20_44))))))))))) ((((((h134_155.fr hF112 (by decide)).but hb116 (by decide)).but hb119 (by decide)).fr hF132 (by decide)).but hb136 (by decide)).fr hF149 (by decide)) (((((((((((h21_61.but hb71 (by decide)).but hb75 (by decide)).but hb78 (by decide)).but hb81 (by decide)).fr hF96 (by decide)).fr hF112 (by decide)).but hb116 (by decide)).but hb119 (by decide)).fr hF132 (by decide)).but hb136 (by decide)).fr hF149 (by decide)) (hb156) (hb62) (by decide) (by omega) (by decide) (by decide) (by decide) (by decide) (by decide) (by decide)) rfl (hF149.get (by decide) (hb136.get (by decide) (hF132.get (by decide) (hb119.get (by decide) (hb116.get (by decide) (hF112.get (by decide) h133_153)))))) rfl rfl rfl rfl rfl rfl (fun w157 hq158 => ?_)
  obtain ⟨hk159, g160, hr161, hb162, hx164, hF163⟩ := hq158
  refine xg_t (xg_aload (va := (2, 114)) rfl rfl) ?_
  refine xg_t (xg_getf (va := (2, 135)) (hF163.get (by decide) (hF149.get (by decide) hk135)) rfl) ?_
  refine xg_t (xg_aload (va := (2, 1)) rfl rfl) ?_
  refine xg_t (xg_getf (va := (2, 22)) (hF163.get (by decide) (hF149.get (by decide) (hb136.get (by decide) (hF132.get (by decide) (hb119.get (by decide) (hb116.get (by decide) (hF112.get (by decide) (hF96.get (by decide) (hb81.get (by decide) (hb78.get (by decide) (hb75.get (by decide) (hb71.get (by decide) h1_13)))))))))))) rfl) ?_
  obtain ⟨f135_165, h135_167, hb166⟩ := (hJ98 135 (by decide) (by decide) : cp135 (wget w93 135))
  refine xoI (hJ98 136 (by decide) (by decide) : cpI 32 91 4294967295 (wget w93 136)) (fun g136_168 h136_169 hb170 => ?_)
  refine xg_cVv mX5_copy (vs := [(2, 22)]) (rest := []) (cn1 := 0) (sl1 := 0) rfl (rcopyX (lim := 16) (wd := 2) (B := 4294967295) (hF163.get (by decide) (hF149.get (by decide) (hb136.get (by decide) (hF132.get (by decide) (hb119.get (by decide) (hb116.get (by decide) (hF112.get (by decide) h135_167))))))) (hF163.get (by decide) (hF149.get (by decide) (hb136.get (by decide) (hF132.get (by decide) (hb119.get (by decide) (hb116.get (by decide) (hF112.get (by decide) (hF96.get (by decide) (hb81.get (by decide) (hb78.get (by decide) (hb75.get (by decide) (hb71.get (by decide) h22_47)))))))))))) (((((((h136_169.fr hF112 (by decide)).but hb116 (by decide)).but hb119 (by decide)).fr hF132 (by decide)).but hb136 (by decide)).fr hF149 (by decide)).fr hF163 (by decide)) ((((((((((((h23_64.but hb71 (by decide)).but hb75 (by decide)).but hb78 (by decide)).but hb81 (by decide)).fr hF96 (by decide)).fr hF112 (by decide)).but hb116 (by decide)).but hb119 (by decide)).fr hF132 (by decide)).but hb136 (by decide)).fr hF149 (by decide)).fr hF163 (by decide)) (hb170) (hb65) (by decide) (by omega) (by decide) (by decide) (by decide) (by decide) (by decide) (by decide)) rfl (hF163.get (by decide) (hF149.get (by decide) (hb136.get (by decide) (hF132.get (by decide) (hb119.get (by decide) (hb116.get (by decide) (hF112.get (by decide) h135_167))))))) rfl rfl rfl rfl rfl rfl (fun w171 hq172 => ?_)
  obtain ⟨hk173, g174, hr175, hb176, hx178, hF177⟩ := hq172
  refine xg_t (xg_aload (va := (2, 114)) rfl rfl) ?_
  refine xg_t (xg_getf (va := (2, 137)) (hF177.get (by decide) (hF163.get (by decide) (hF149.get (by decide) hk135))) rfl) ?_
  refine xg_t (xg_aload (va := (2, 1)) rfl rfl) ?_
  refine xg_t (xg_getf (va := (2, 24)) (hF177.get (by decide) (hF163.get (by decide) (hF149.get (by decide) (hb136.get (by decide) (hF132.get (by decide) (hb119.get (by decide) (hb116.get (by decide) (hF112.get (by decide) (hF96.get (by decide) (hb81.get (by decide) (hb78.get (by decide) (hb75.get (by decide) (hb71.get (by decide) h1_13))))))))))))) rfl) ?_
  obtain ⟨f137_179, h137_181, hb180⟩ := (hJ98 137 (by decide) (by decide) : cp137 (wget w93 137))
  refine xoI (hJ98 138 (by decide) (by decide) : cpI 320 92 4294967295 (wget w93 138)) (fun g138_182 h138_183 hb184 => ?_)
  refine xg_cVv mX5_copy (vs := [(2, 24)]) (rest := []) (cn1 := 0) (sl1 := 0) rfl (rcopyX (lim := 64) (wd := 5) (B := 4294967295) (hF177.get (by decide) (hF163.get (by decide) (hF149.get (by decide) (hb136.get (by decide) (hF132.get (by decide) (hb119.get (by decide) (hb116.get (by decide) (hF112.get (by decide) h137_181)))))))) (hF177.get (by decide) (hF163.get (by decide) (hF149.get (by decide) (hb136.get (by decide) (hF132.get (by decide) (hb119.get (by decide) (hb116.get (by decide) (hF112.get (by decide) (hF96.get (by decide) (hb81.get (by decide) (hb78.get (by decide) (hb75.get (by decide) (hb71.get (by decide) h24_50))))))))))))) ((((((((h138_183.fr hF112 (by decide)).but hb116 (by decide)).but hb119 (by decide)).fr hF132 (by decide)).but hb136 (by decide)).fr hF149 (by decide)).fr hF163 (by decide)).fr hF177 (by decide)) (((((((((((((h25_67.but hb71 (by decide)).but hb75 (by decide)).but hb78 (by decide)).but hb81 (by decide)).fr hF96 (by decide)).fr hF112 (by decide)).but hb116 (by decide)).but hb119 (by decide)).fr hF132 (by decide)).but hb136 (by decide)).fr hF149 (by decide)).fr hF163 (by decide)).fr hF177 (by decide)) (hb184) (hb68) (by decide) (by omega) (by decide) (by decide) (by decide) (by decide) (by decide) (by decide)) rfl (hF177.get (by decide) (hF163.get (by decide) (hF149.get (by decide) (hb136.get (by decide) (hF132.get (by decide) (hb119.get (by decide) (hb116.get (by decide) (hF112.get (by decide) h137_181)))))))) rfl rfl rfl rfl rfl rfl (fun w185 hq186 => ?_)
  obtain ⟨hk187, g188, hr189, hb190, hx192, hF191⟩ := hq186
  have hq194 : fld w 14 3 = f14_33 := fld_of h14_35
  have hq193 : rwE w185 127 w 14 5 := ⟨((show fld w185 127 3 = f14_33 from fld_of (hF191.get (by decide) (hF177.get (by decide) (hF163.get (by decide) (hF149.get (by decide) (hb136.get (by decide) (hF132.get (by decide) (hb119.get (by decide) (hb116.get (by decide) hk108))))))))).trans (show fld w 14 3 = f14_33 from fld_of h14_35).symm), fun j hj => by
    rw [hq194] at hj
    exact (rwv_of ((((((((hr110.but hb116 (by decide)).but hb119 (by decide)).fr hF132 (by decide)).but hb136 (by decide)).fr hF149 (by decide)).fr hF163 (by decide)).fr hF177 (by decide)).fr hF191 (by decide)) (by omega)).trans ((hx113 j hj).trans (rwv_of h15_52 (by omega)).symm)⟩
  have hq196 : fld w 16 3 = f16_36 := fld_of h16_38
  have hq195 : rwE w185 129 w 16 5 := ⟨((show fld w185 129 3 = f16_36 from fld_of (hF191.get (by decide) (hF177.get (by decide) (hF163.get (by decide) (hF149.get (by decide) (hb136.get (by decide) hk128)))))).trans (show fld w 16 3 = f16_36 from fld_of h16_38).symm), fun j hj => by
    rw [hq196] at hj
    exact (rwv_of (((((hr130.but hb136 (by decide)).fr hF149 (by decide)).fr hF163 (by decide)).fr hF177 (by decide)).fr hF191 (by decide)) (by omega)).trans ((hx133 j hj).trans (rwv_of h17_55 (by omega)).symm)⟩
  have hq198 : fld w 18 3 = f18_39 := fld_of h18_41
  have hq197 : rwE w185 131 w 18 3 := ⟨((show fld w185 131 3 = f18_39 from fld_of (hF191.get (by decide) (hF177.get (by decide) (hF163.get (by decide) hk145)))).trans (show fld w 18 3 = f18_39 from fld_of h18_41).symm), fun j hj => by
    rw [hq198] at hj
    exact (rwv_of (((hr147.fr hF163 (by decide)).fr hF177 (by decide)).fr hF191 (by decide)) (by omega)).trans ((hx150 j hj).trans (rwv_of h19_58 (by omega)).symm)⟩
  have hq200 : fld w 20 3 = f20_42 := fld_of h20_44
  have hq199 : rwE w185 133 w 20 4 := ⟨((show fld w185 133 3 = f20_42 from fld_of (hF191.get (by decide) (hF177.get (by decide) hk159))).trans (show fld w 20 3 = f20_42 from fld_of h20_44).symm), fun j hj => by
    rw [hq200] at hj
    exact (rwv_of ((hr161.fr hF177 (by decide)).fr hF191 (by decide)) (by omega)).trans ((hx164 j hj).trans (rwv_of h21_61 (by omega)).symm)⟩
  have hq202 : fld w 22 3 = f22_45 := fld_of h22_47
  have hq201 : rwE w185 135 w 22 2 := ⟨((show fld w185 135 3 = f22_45 from fld_of (hF191.get (by decide) hk173)).trans (show fld w 22 3 = f22_45 from fld_of h22_47).symm), fun j hj => by
    rw [hq202] at hj
    exact (rwv_of (hr175.fr hF191 (by decide)) (by omega)).trans ((hx178 j hj).trans (rwv_of h23_64 (by omega)).symm)⟩
  have hq204 : fld w 24 3 = f24_48 := fld_of h24_50
  have hq203 : rwE w185 137 w 24 5 := ⟨((show fld w185 137 3 = f24_48 from fld_of hk187).trans (show fld w 24 3 = f24_48 from fld_of h24_50).symm), fun j hj => by
    rw [hq204] at hj
    exact (rwv_of hr189 (by omega)).trans ((hx192 j hj).trans (rwv_of h25_67 (by omega)).symm)⟩
  have hq205 : fmE w185 116 w 3 := hE99.tr (((((((((hF112.up (T := [127, 128, 114, 129, 130, 131, 132, 133, 134, 135, 136, 137, 138]) (by decide)).tr (xFr.of (S := [127, 128, 114, 129, 130, 131, 132, 133, 134, 135, 136, 137, 138]) hb116 (by decide))).tr (xFr.of (S := [127, 128, 114, 129, 130, 131, 132, 133, 134, 135, 136, 137, 138]) hb119 (by decide))).tr (hF132.up (T := [127, 128, 114, 129, 130, 131, 132, 133, 134, 135, 136, 137, 138]) (by decide))).tr (xFr.of (S := [127, 128, 114, 129, 130, 131, 132, 133, 134, 135, 136, 137, 138]) hb136 (by decide))).tr (hF149.up (T := [127, 128, 114, 129, 130, 131, 132, 133, 134, 135, 136, 137, 138]) (by decide))).tr (hF163.up (T := [127, 128, 114, 129, 130, 131, 132, 133, 134, 135, 136, 137, 138]) (by decide))).tr (hF177.up (T := [127, 128, 114, 129, 130, 131, 132, 133, 134, 135, 136, 137, 138]) (by decide))).tr (hF191.up (T := [127, 128, 114, 129, 130, 131, 132, 133, 134, 135, 136, 137, 138]) (by decide))) (by decide) ((((xFr.of (S := [114, 115, 116, 117, 118, 119, 120, 121, 122, 123, 124, 125, 126, 127, 128, 129, 130, 131, 132, 133, 134, 135, 136, 137, 138]) hb71 (by decide)).tr (xFr.of (S := [114, 115, 116, 117, 118, 119, 120, 121, 122, 123, 124, 125, 126, 127, 128, 129, 130, 131, 132, 133, 134, 135, 136, 137, 138]) hb75 (by decide))).tr (xFr.of (S := [114, 115, 116, 117, 118, 119, 120, 121, 122, 123, 124, 125, 126, 127, 128, 129, 130, 131, 132, 133, 134, 135, 136, 137, 138]) hb78 (by decide))).tr (xFr.of (S := [114, 115, 116, 117, 118, 119, 120, 121, 122, 123, 124, 125, 126, 127, 128, 129, 130, 131, 132, 133, 134, 135, 136, 137, 138]) hb81 (by decide))) (by decide)
  have hq206 : ∀ j, j < 500 → rwv w185 115 j = rwv w 2 j := fun j hj => (rwk_of (((((((((((((hr70.but hb75 (by decide)).but hb78 (by decide)).but hb81 (by decide)).fr hF96 (by decide)).fr hF112 (by decide)).but hb116 (by decide)).but hb119 (by decide)).fr hF132 (by decide)).but hb136 (by decide)).fr hF149 (by decide)).fr hF163 (by decide)).fr hF177 (by decide)).fr hF191 (by decide)) hj).trans ((if_pos hj).trans (rwk_of h2_28 hj).symm)
  exact xg_e ⟨w185, ⟨rfl, rfl⟩, xInv.up (S := [127, 128, 114, 129, 130, 131, 132, 133, 134, 135, 136, 137, 138]) hI95 (((((((((hF112.up (T := [127, 128, 114, 129, 130, 131, 132, 133, 134, 135, 136, 137, 138]) (by decide)).tr (xFr.of (S := [127, 128, 114, 129, 130, 131, 132, 133, 134, 135, 136, 137, 138]) hb116 (by decide))).tr (xFr.of (S := [127, 128, 114, 129, 130, 131, 132, 133, 134, 135, 136, 137, 138]) hb119 (by decide))).tr (hF132.up (T := [127, 128, 114, 129, 130, 131, 132, 133, 134, 135, 136, 137, 138]) (by decide))).tr (xFr.of (S := [127, 128, 114, 129, 130, 131, 132, 133, 134, 135, 136, 137, 138]) hb136 (by decide))).tr (hF149.up (T := [127, 128, 114, 129, 130, 131, 132, 133, 134, 135, 136, 137, 138]) (by decide))).tr (hF163.up (T := [127, 128, 114, 129, 130, 131, 132, 133, 134, 135, 136, 137, 138]) (by decide))).tr (hF177.up (T := [127, 128, 114, 129, 130, 131, 132, 133, 134, 135, 136, 137, 138]) (by decide))).tr (hF191.up (T := [127, 128, 114, 129, 130, 131, 132, 133, 134, 135, 136, 137, 138]) (by decide))) (List.forall_mem_cons.mpr ⟨(show True from trivial), List.forall_mem_cons.mpr ⟨(show True from trivial), List.forall_mem_cons.mpr ⟨(show True from trivial), List.forall_mem_cons.mpr ⟨(show True from trivial), List.forall_mem_cons.mpr ⟨(show True from trivial), List.forall_mem_cons.mpr ⟨(show True from trivial), List.forall_mem_cons.mpr ⟨(show True from trivial), List.forall_mem_cons.mpr ⟨(show True from trivial), List.forall_mem_cons.mpr ⟨(show True from trivial), List.forall_mem_cons.mpr ⟨(show True from trivial), List.forall_mem_cons.mpr ⟨(show True from trivial), List.forall_mem_cons.mpr ⟨(show True from trivial), List.forall_mem_cons.mpr ⟨(show True from trivial), fun _ h => absurd h List.not_mem_nil⟩⟩⟩⟩⟩⟩⟩⟩⟩⟩⟩⟩⟩), ((((((xFr.of (S := [114, 115, 116, 117, 118, 119, 120, 121, 122, 123, 124, 125, 126, 127, 128, 129, 130, 131, 132, 133, 134, 135, 136, 137, 138]) hb71 (by decide)).tr (xFr.of (S := [114, 115, 116, 117, 118, 119, 120, 121, 122, 123, 124, 125, 126, 127, 128, 129, 130, 131, 132, 133, 134, 135, 136, 137, 138]) hb75 (by decide))).tr (xFr.of (S := [114, 115, 116, 117, 118, 119, 120, 121, 122, 123, 124, 125, 126, 127, 128, 129, 130, 131, 132, 133, 134, 135, 136, 137, 138]) hb78 (by decide))).tr (xFr.of (S := [114, 115, 116, 117, 118, 119, 120, 121, 122, 123, 124, 125, 126, 127, 128, 129, 130, 131, 132, 133, 134, 135, 136, 137, 138]) hb81 (by decide))).tr (hF96.up (by decide))).tr (((((((((hF112.up (T := [114, 115, 116, 117, 118, 119, 120, 121, 122, 123, 124, 125, 126, 127, 128, 129, 130, 131, 132, 133, 134, 135, 136, 137, 138]) (by decide)).tr (xFr.of (S := [114, 115, 116, 117, 118, 119, 120, 121, 122, 123, 124, 125, 126, 127, 128, 129, 130, 131, 132, 133, 134, 135, 136, 137, 138]) hb116 (by decide))).tr (xFr.of (S := [114, 115, 116, 117, 118, 119, 120, 121, 122, 123, 124, 125, 126, 127, 128, 129, 130, 131, 132, 133, 134, 135, 136, 137, 138]) hb119 (by decide))).tr (hF132.up (T := [114, 115, 116, 117, 118, 119, 120, 121, 122, 123, 124, 125, 126, 127, 128, 129, 130, 131, 132, 133, 134, 135, 136, 137, 138]) (by decide))).tr (xFr.of (S := [114, 115, 116, 117, 118, 119, 120, 121, 122, 123, 124, 125, 126, 127, 128, 129, 130, 131, 132, 133, 134, 135, 136, 137, 138]) hb136 (by decide))).tr (hF149.up (T := [114, 115, 116, 117, 118, 119, 120, 121, 122, 123, 124, 125, 126, 127, 128, 129, 130, 131, 132, 133, 134, 135, 136, 137, 138]) (by decide))).tr (hF163.up (T := [114, 115, 116, 117, 118, 119, 120, 121, 122, 123, 124, 125, 126, 127, 128, 129, 130, 131, 132, 133, 134, 135, 136, 137, 138]) (by decide))).tr (hF177.up (T := [114, 115, 116, 117, 118, 119, 120, 121, 122, 123, 124, 125, 126, 127, 128, 129, 130, 131, 132, 133, 134, 135, 136, 137, 138]) (by decide))).tr (hF191.up (T := [114, 115, 116, 117, 118, 119, 120, 121, 122, 123, 124, 125, 126, 127, 128, 129, 130, 131, 132, 133, 134, 135, 136, 137, 138]) (by decide)))), ⟨xIm.up (S := [127, 128, 114, 129, 130, 131, 132, 133, 134, 135, 136, 137, 138]) hJ98 (((((((((hF112.up (T := [127, 128, 114, 129, 130, 131, 132, 133, 134, 135, 136, 137, 138]) (by decide)).tr (xFr.of (S := [127, 128, 114, 129, 130, 131, 132, 133, 134, 135, 136, 137, 138]) hb116 (by decide))).tr (xFr.of (S := [127, 128, 114, 129, 130, 131, 132, 133, 134, 135, 136, 137, 138]) hb119 (by decide))).tr (hF132.up (T := [127, 128, 114, 129, 130, 131, 132, 133, 134, 135, 136, 137, 138]) (by decide))).tr (xFr.of (S := [127, 128, 114, 129, 130, 131, 132, 133, 134, 135, 136, 137, 138]) hb136 (by decide))).tr (hF149.up (T := [127, 128, 114, 129, 130, 131, 132, 133, 134, 135, 136, 137, 138]) (by decide))).tr (hF163.up (T := [127, 128, 114, 129, 130, 131, 132, 133, 134, 135, 136, 137, 138]) (by decide))).tr (hF177.up (T := [127, 128, 114, 129, 130, 131, 132, 133, 134, 135, 136, 137, 138]) (by decide))).tr (hF191.up (T := [127, 128, 114, 129, 130, 131, 132, 133, 134, 135, 136, 137, 138]) (by decide))) (List.forall_mem_cons.mpr ⟨(fun _ => show cp127 (wget w185 127) from ⟨f14_33, (hF191.get (by decide) (hF177.get (by decide) (hF163.get (by decide) (hF149.get (by decide) (hb136.get (by decide) (hF132.get (by decide) (hb119.get (by decide) (hb116.get (by decide) hk108)))))))), by omega⟩), List.forall_mem_cons.mpr ⟨(fun _ => show cpI 200 87 4294967295 (wget w185 128) from ⟨_, ((((((((hr110.but hb116 (by decide)).but hb119 (by decide)).fr hF132 (by decide)).but hb136 (by decide)).fr hF149 (by decide)).fr hF163 (by decide)).fr hF177 (by decide)).fr hF191 (by decide)), hb111⟩), List.forall_mem_cons.mpr ⟨(fun _ => show cp114 (wget w185 114) from ⟨f1_1, f1_3, f1_5, f1_7, f1_9, f1_11, (hF191.get (by decide) (hF177.get (by decide) (hF163.get (by decide) (hF149.get (by decide) hk135)))), by omega, by omega, by omega, by omega, by omega, by omega⟩), List.forall_mem_cons.mpr ⟨(fun _ => show cp129 (wget w185 129) from ⟨f16_36, (hF191.get (by decide) (hF177.get (by decide) (hF163.get (by decide) (hF149.get (by decide) (hb136.get (by decide) hk128))))), by omega⟩), List.forall_mem_cons.mpr ⟨(fun _ => show cpI 60 88 4294967295 (wget w185 130) from ⟨_, (((((hr130.but hb136 (by decide)).fr hF149 (by decide)).fr hF163 (by decide)).fr hF177 (by decide)).fr hF191 (by decide)), hb131⟩), List.forall_mem_cons.mpr ⟨(fun _ => show cp131 (wget w185 131) from ⟨f18_39, (hF191.get (by decide) (hF177.get (by decide) (hF163.get (by decide) hk145))), by omega⟩), List.forall_mem_cons.mpr ⟨(fun _ => show cpI 12 89 4294967295 (wget w185 132) from ⟨_, (((hr147.fr hF163 (by decide)).fr hF177 (by decide)).fr hF191 (by decide)), hb148⟩), List.forall_mem_cons.mpr ⟨(fun _ => show cp133 (wget w185 133) from ⟨f20_42, (hF191.get (by decide) (hF177.get (by decide) hk159)), by omega⟩), List.forall_mem_cons.mpr ⟨(fun _ => show cpI 48 90 4294967295 (wget w185 134) from ⟨_, ((hr161.fr hF177 (by decide)).fr hF191 (by decide)), hb162⟩), List.forall_mem_cons.mpr ⟨(fun _ => show cp135 (wget w185 135) from ⟨f22_45, (hF191.get (by decide) hk173), by omega⟩), List.forall_mem_cons.mpr ⟨(fun _ => show cpI 32 91 4294967295 (wget w185 136) from ⟨_, (hr175.fr hF191 (by decide)), hb176⟩), List.forall_mem_cons.mpr ⟨(fun _ => show cp137 (wget w185 137) from ⟨f24_48, hk187, by omega⟩), List.forall_mem_cons.mpr ⟨(fun _ => show cpI 320 92 4294967295 (wget w185 138) from ⟨_, hr189, hb190⟩), fun _ h => absurd h List.not_mem_nil⟩⟩⟩⟩⟩⟩⟩⟩⟩⟩⟩⟩⟩), ⟨((show fld w185 114 1 = f1_1 from fld_of (hF191.get (by decide) (hF177.get (by decide) (hF163.get (by decide) (hF149.get (by decide) hk135))))).trans (show fld w 1 1 = f1_1 from fld_of h1_13).symm), ((show fld w185 114 2 = f1_3 from fld_of (hF191.get (by decide) (hF177.get (by decide) (hF163.get (by decide) (hF149.get (by decide) hk135))))).trans (show fld w 1 2 = f1_3 from fld_of h1_13).symm), ((show fld w185 114 3 = f1_5 from fld_of (hF191.get (by decide) (hF177.get (by decide) (hF163.get (by decide) (hF149.get (by decide) hk135))))).trans (show fld w 1 3 = f1_5 from fld_of h1_13).symm), ((show fld w185 114 6 = f1_7 from fld_of (hF191.get (by decide) (hF177.get (by decide) (hF163.get (by decide) (hF149.get (by decide) hk135))))).trans (show fld w 1 6 = f1_7 from fld_of h1_13).symm), ((show fld w185 114 7 = f1_9 from fld_of (hF191.get (by decide) (hF177.get (by decide) (hF163.get (by decide) (hF149.get (by decide) hk135))))).trans (show fld w 1 7 = f1_9 from fld_of h1_13).symm), ((show fld w185 114 9 = f1_11 from fld_of (hF191.get (by decide) (hF177.get (by decide) (hF163.get (by decide) (hF149.get (by decide) hk135))))).trans (show fld w 1 9 = f1_11 from fld_of h1_13).symm)⟩, hq206, hq205, hq193, hq195, hq197, hq199, hq201, hq203⟩⟩
set_option maxRecDepth 100000 in
theorem imToldE00 (hI : xInv w) (hJ : xIm 114 139 w) : xPq (d + 3) mX9_copy [(2, 1), (2, 114)] w bd fc rr [] (fun w' => xInv w' ∧ xFr [1, 2, 3, 4, 5, 6, 7, 8, 9, 10, 11, 12, 13, 14, 15, 16, 17, 18, 19, 20, 21, 22, 23, 24, 25] w w' ∧ (xIm 114 139 w' ∧ tdE w' 1 w 114)) := by
  refine xPq.of ?_
  show xTo (d + 3) mX9_copy (0, [], [(0, (2, 1)), (1, (2, 114))], [], (w, bd, fc, 0, 0, rr)) (fun φ => ∃ w', xEnd 0 [] (w', bd, fc, 0, 0, rr) φ ∧ xInv w' ∧ xFr [1, 2, 3, 4, 5, 6, 7, 8, 9, 10, 11, 12, 13, 14, 15, 16, 17, 18, 19, 20, 21, 22, 23, 24, 25] w w' ∧ (xIm 114 139 w' ∧ tdE w' 1 w 114))
  refine xoC1 (xqc1 hI : cp1 (wget w 1)) (fun f1_1 f1_3 f1_5 f1_7 f1_9 f1_11 h1_13 hb2 hb4 hb6 hb8 hb10 hb12 => ?_)
  obtain ⟨f114_14, f114_16, f114_18, f114_20, f114_22, f114_24, h114_26, hb15, hb17, hb19, hb21, hb23, hb25⟩ := (hJ 114 (by decide) (by decide) : cp114 (wget w 114))
  obtain ⟨g2_27, h2_28, hb29⟩ := (xqc2 hI : cpY 500 0 (wget w 2))
  have h2_28 : xRk 1 0 w 2 500 0 g2_27 := h2_28
  obtain ⟨g115_30, h115_31, hb32⟩ := (hJ 115 (by decide) (by decide) : cpY 500 81 (wget w 115))
  have h115_31 : xRk 1 0 w 115 500 81 g115_30 := h115_31
  obtain ⟨f127_33, h127_35, hb34⟩ := (hJ 127 (by decide) (by decide) : cp127 (wget w 127))
  obtain ⟨f129_36, h129_38, hb37⟩ := (hJ 129 (by decide) (by decide) : cp129 (wget w 129))
  obtain ⟨f131_39, h131_41, hb40⟩ := (hJ 131 (by decide) (by decide) : cp131 (wget w 131))
  obtain ⟨f133_42, h133_44, hb43⟩ := (hJ 133 (by decide) (by decide) : cp133 (wget w 133))
  obtain ⟨f135_45, h135_47, hb46⟩ := (hJ 135 (by decide) (by decide) : cp135 (wget w 135))
  obtain ⟨f137_48, h137_50, hb49⟩ := (hJ 137 (by decide) (by decide) : cp137 (wget w 137))
  refine xoI (hJ 128 (by decide) (by decide) : cpI 200 87 4294967295 (wget w 128)) (fun g128_51 h128_52 hb53 => ?_)
  refine xoI (hJ 130 (by decide) (by decide) : cpI 60 88 4294967295 (wget w 130)) (fun g130_54 h130_55 hb56 => ?_)
  refine xoI (hJ 132 (by decide) (by decide) : cpI 12 89 4294967295 (wget w 132)) (fun g132_57 h132_58 hb59 => ?_)
  refine xoI (hJ 134 (by decide) (by decide) : cpI 48 90 4294967295 (wget w 134)) (fun g134_60 h134_61 hb62 => ?_)
  refine xoI (hJ 136 (by decide) (by decide) : cpI 32 91 4294967295 (wget w 136)) (fun g136_63 h136_64 hb65 => ?_)
  refine xoI (hJ 138 (by decide) (by decide) : cpI 320 92 4294967295 (wget w 138)) (fun g138_66 h138_67 hb68 => ?_)
  refine xg_t (xg_blq rfl) ?_
  refine xg_t (xg_aload (va := (2, 114)) rfl rfl) ?_
  refine xg_t (xg_getf (va := (2, 115)) h114_26 rfl) ?_
  refine xg_t (xg_const) ?_
  refine xg_t (xg_aload (va := (2, 1)) rfl rfl) ?_
  refine xg_t (xg_getf (va := (2, 2)) h1_13 rfl) ?_
  refine xg_t (xg_const) ?_
  refine xg_t (xg_sip) ?_
  refine xg_copyY (n := 500) h115_31 h2_28 (hb32) xnm0 (by omega) (by omega) (Nat.le_of_ble_eq_true rfl) (fun w69 hr70 hb71 => ?_)
  have rb72 : ∀ j, xby ((fun j => if j < 500 then g115_30 j else g2_27 j) j) := fun j => by
    show xby (if j < 500 then g115_30 j else g2_27 j)
    split
    · exact (hb32) j
    · exact (hb29) j
  refine xg_t (xg_aload (va := (2, 1)) rfl rfl) ?_
  refine xg_t (xg_aload (va := (2, 114)) rfl rfl) ?_
  refine xg_t (xg_getf (va := (0, f114_14)) (hb71.get (by decide) h114_26) rfl) ?_
  refine xg_putI (fl1 := [(2, 2), (0, f114_14), (0, f1_3), (0, f1_5), (2, 3), (2, 14), (0, f1_7), (0, f1_9), (2, 16), (0, f1_11), (2, 18), (2, 20), (2, 22), (2, 24)]) (hb71.get (by decide) h1_13) rfl rfl rfl (fun w73 hk74 hb75 => ?_)
  refine xg_t (xg_aload (va := (2, 1)) rfl rfl) ?_
  refine xg_t (xg_aload (va := (2, 114)) rfl rfl) ?_
  refine xg_t (xg_getf (va := (0, f114_16)) (hb75.get (by decide) (hb71.get (by decide) h114_26)) rfl) ?_
  refine xg_putI (fl1 := [(2, 2), (0, f114_14), (0, f114_16), (0, f1_5), (2, 3), (2, 14), (0, f1_7), (0, f1_9), (2, 16), (0, f1_11), (2, 18), (2, 20), (2, 22), (2, 24)]) hk74 rfl rfl rfl (fun w76 hk77 hb78 => ?_)
  refine xg_t (xg_aload (va := (2, 1)) rfl rfl) ?_
  refine xg_t (xg_aload (va := (2, 114)) rfl rfl) ?_
  refine xg_t (xg_getf (va := (0, f114_18)) (hb78.get (by decide) (hb75.get (by decide) (hb71.get (by decide) h114_26))) rfl) ?_
  refine xg_putI (fl1 := [(2, 2), (0, f114_14), (0, f114_16), (0, f114_18), (2, 3), (2, 14), (0, f1_7), (0, f1_9), (2, 16), (0, f1_11), (2, 18), (2, 20), (2, 22), (2, 24)]) hk77 rfl rfl rfl (fun w79 hk80 hb81 => ?_)
  refine xg_t (xg_aload (va := (2, 1)) rfl rfl) ?_
  refine xg_t (xg_getf (va := (2, 3)) hk80 rfl) ?_
  refine xg_t (xg_aload (va := (2, 114)) rfl rfl) ?_
  refine xg_t (xg_getf (va := (2, 116)) (hb81.get (by decide) (hb78.get (by decide) (hb75.get (by decide) (hb71.get (by decide) h114_26)))) rfl) ?_
  refine xoC3 (xqc3 hI : cp3 (wget w 3)) (fun f3_82 f3_84 f3_86 f3_88 f3_90 h3_92 hb83 hb85 hb87 hb89 hb91 => ?_)
  refine xg_cVv mX1_copy (vs := [(2, 116)]) (rest := []) (cn1 := 0) (sl1 := 0) rfl (imFilmE00 (xInv.up (S := [2, 1]) hI ((((xFr.of (S := [2, 1]) hb71 (by decide)).tr (xFr.of (S := [2, 1]) hb75 (by decide))).tr (xFr.of (S := [2, 1]) hb78 (by decide))).tr (xFr.of (S := [2, 1]) hb81 (by decide))) (List.forall_mem_cons.mpr ⟨xqu2 (show cpY 500 0 (wget w79 2) from ⟨_, (((hr70.but hb75 (by decide)).but hb78 (by decide)).but hb81 (by decide)), rb72⟩), List.forall_mem_cons.mpr ⟨xqu1 (show cp1 (wget w79 1) from xmC1 f114_14 f114_16 f114_18 f1_7 f1_9 f1_11 hk80 hb15 hb17 hb19 hb8 hb10 hb12), fun _ h => absurd h List.not_mem_nil⟩⟩)) (xIm.up (S := [2, 1]) hJ ((((xFr.of (S := [2, 1]) hb71 (by decide)).tr (xFr.of (S := [2, 1]) hb75 (by decide))).tr (xFr.of (S := [2, 1]) hb78 (by decide))).tr (xFr.of (S := [2, 1]) hb81 (by decide))) (List.forall_mem_cons.mpr ⟨(fun h => absurd h (by omega)), List.forall_mem_cons.mpr ⟨(fun h => absurd h (by omega)), fun _ h => absurd h List.not_mem_nil⟩⟩))) rfl (hb81.get (by decide) (hb78.get (by decide) (hb75.get (by decide) (hb71.get (by decide) h3_92)))) rfl rfl rfl rfl rfl rfl (fun w93 hq94 => ?_)
  obtain ⟨hI95, hF96, hx97⟩ := hq94
  obtain ⟨hJ98, hE99⟩ := hx97
  refine xg_t (xg_aload (va := (2, 1)) rfl rfl) ?_
  refine xg_t (xg_getf (va := (2, 14)) (hF96.get (by decide) hk80) rfl) ?_
  refine xg_t (xg_aload (va := (2, 114)) rfl rfl) ?_
  refine xg_t (xg_getf (va := (2, 127)) (hF96.get (by decide) (hb81.get (by decide) (hb78.get (by decide) (hb75.get (by decide) (hb71.get (by decide) h114_26))))) rfl) ?_
  obtain ⟨f14_100, h14_102, hb101⟩ := (xqc14 hI95 : cp14 (wget w93 14))
  refine xoI (xqc15 hI95 : cpI 200 6 4294967295 (wget w93 15)) (fun g15_103 h15_104 hb105 => ?_)
  refine xg_cVv mX5_copy (vs := [(2, 127)]) (rest := []) (cn1 := 0) (sl1 := 0) rfl (rcopyX (lim := 40) (wd := 5) (B := 4294967295) h14_102 (hF96.get (by decide) (hb81.get (by decide) (hb78.get (by decide) (hb75.get (by decide) (hb71.get (by decide) h127_35))))) h15_104 (((((h128_52.but hb71 (by decide)).but hb75 (by decide)).but hb78 (by decide)).but hb81 (by decide)).fr hF96 (by decide)) (hb105) (hb53) (by decide) (by omega) (by decide) (by decide) (by decide) (by decide) (by decide) (by decide)) rfl h14_102 rfl rfl rfl rfl rfl rfl (fun w106 hq107 => ?_)
  obtain ⟨hk108, g109, hr110, hb111, hx113, hF112⟩ := hq107
  refine xg_t (xg_aload (va := (2, 1)) rfl rfl) ?_
  refine xg_t (xg_aload (va := (2, 114)) rfl rfl) ?_
  refine xg_t (xg_getf (va := (0, f114_20)) (hF112.get (by decide) (hF96.get (by decide) (hb81.get (by decide) (hb78.get (by decide) (hb75.get (by decide) (hb71.get (by decide) h114_26)))))) rfl) ?_
  refine xg_putI (fl1 := [(2, 2), (0, f114_14), (0, f114_16), (0, f114_18), (2, 3), (2, 14), (0, f114_20), (0, f1_9), (2, 16), (0, f1_11), (2, 18), (2, 20), (2, 22), (2, 24)]) (hF112.get (by decide) (hF96.get (by decide) hk80)) rfl rfl rfl (fun w114 hk115 hb116 => ?_)
  refine xg_t (xg_aload (va := (2, 1)) rfl rfl) ?_
  refine xg_t (xg_aload (va := (2, 114)) rfl rfl) ?_
  refine xg_t (xg_getf (va := (0, f114_22)) (hb116.get (by decide) (hF112.get (by decide) (hF96.get (by decide) (hb81.get (by decide) (hb78.get (by decide) (hb75.get (by decide) (hb71.get (by decide) h114_26))))))) rfl) ?_
  refine xg_putI (fl1 := [(2, 2), (0, f114_14), (0, f114_16), (0, f114_18), (2, 3), (2, 14), (0, f114_20), (0, f114_22), (2, 16), (0, f1_11), (2, 18), (2, 20), (2, 22), (2, 24)]) hk115 rfl rfl rfl (fun w117 hk118 hb119 => ?_)
  refine xg_t (xg_aload (va := (2, 1)) rfl rfl) ?_
  refine xg_t (xg_getf (va := (2, 16)) hk118 rfl) ?_
  refine xg_t (xg_aload (va := (2, 114)) rfl rfl) ?_
  refine xg_t (xg_getf (va := (2, 129)) (hb119.get (by decide) (hb116.get (by decide) (hF112.get (by decide) (hF96.get (by decide) (hb81.get (by decide) (hb78.get (by decide) (hb75.get (by decide) (hb71.get (by decide) h114_26)))))))) rfl) ?_
  obtain ⟨f16_120, h16_122, hb121⟩ := (xqc16 hI95 : cp16 (wget w93 16))
  refine xoI (xqc17 hI95 : cpI 60 7 4294967295 (wget w93 17)) (fun g17_123 h17_124 hb125 => ?_)
  refine xg_cVv mX5_copy (vs := [(2, 129)]) (rest := []) (cn1 := 0) (sl1 := 0) rfl (rcopyX (lim := 12) (wd := 5) (B := 4294967295) (hb119.get (by decide) (hb116.get (by decide) (hF112.get (by decide) h16_122))) (hb119.get (by decide) (hb116.get (by decide) (hF112.get (by decide) (hF96.get (by decide) (hb81.get (by decide) (hb78.get (by decide) (hb75.get (by decide) (hb71.get (by decide) h129_38)))))))) (((h17_124.fr hF112 (by decide)).but hb116 (by decide)).but hb119 (by decide)) ((((((((h130_55.but hb71 (by decide)).but hb75 (by decide)).but hb78 (by decide)).but hb81 (by decide)).fr hF96 (by decide)).fr hF112 (by decide)).but hb116 (by decide)).but hb119 (by decide)) (hb125) (hb56) (by decide) (by omega) (by decide) (by decide) (by decide) (by decide) (by decide) (by decide)) rfl (hb119.get (by decide) (hb116.get (by decide) (hF112.get (by decide) h16_122))) rfl rfl rfl rfl rfl rfl (fun w126 hq127 => ?_)
  obtain ⟨hk128, g129, hr130, hb131, hx133, hF132⟩ := hq127
  refine xg_t (xg_aload (va := (2, 1)) rfl rfl) ?_
  refine xg_t (xg_aload (va := (2, 114)) rfl rfl) ?_
  refine xg_t (xg_getf (va := (0, f114_24)) (hF132.get (by decide) (hb119.get (by decide) (hb116.get (by decide) (hF112.get (by decide) (hF96.get (by decide) (hb81.get (by decide) (hb78.get (by decide) (hb75.get (by decide) (hb71.get (by decide) h114_26))))))))) rfl) ?_
  refine xg_putI (fl1 := [(2, 2), (0, f114_14), (0, f114_16), (0, f114_18), (2, 3), (2, 14), (0, f114_20), (0, f114_22), (2, 16), (0, f114_24), (2, 18), (2, 20), (2, 22), (2, 24)]) (hF132.get (by decide) hk118) rfl rfl rfl (fun w134 hk135 hb136 => ?_)
  refine xg_t (xg_aload (va := (2, 1)) rfl rfl) ?_
  refine xg_t (xg_getf (va := (2, 18)) hk135 rfl) ?_
  refine xg_t (xg_aload (va := (2, 114)) rfl rfl) ?_
  refine xg_t (xg_getf (va := (2, 131)) (hb136.get (by decide) (hF132.get (by decide) (hb119.get (by decide) (hb116.get (by decide) (hF112.get (by decide) (hF96.get (by decide) (hb81.get (by decide) (hb78.get (by decide) (hb75.get (by decide) (hb71.get (by decide) h114_26)))))))))) rfl) ?_
  obtain ⟨f18_137, h18_139, hb138⟩ := (xqc18 hI95 : cp18 (wget w93 18))
  refine xoI (xqc19 hI95 : cpI 12 8 4294967295 (wget w93 19)) (fun g19_140 h19_141 hb142 => ?_)
  refine xg_cVv mX5_copy (vs := [(2, 131)]) (rest := []) (cn1 := 0) (sl1 := 0) rfl (rcopyX (lim := 4) (wd := 3) (B := 4294967295) (hb136.get (by decide) (hF132.get (by decide) (hb119.get (by decide) (hb116.get (by decide) (hF112.get (by decide) h18_139))))) (hb136.get (by decide) (hF132.get (by decide) (hb119.get (by decide) (hb116.get (by decide) (hF112.get (by decide) (hF96.get (by decide) (hb81.get (by decide) (hb78.get (by decide) (hb75.get (by decide) (hb71.get (by decide) h131_41)))))))))) (((((h19_141.fr hF112 (by decide)).but hb116 (by decide)).but hb119 (by decide)).fr hF132 (by decide)).but hb136 (by decide)) ((((((((((h132_58.but hb71 (by decide)).but hb75 (by decide)).but hb78 (by decide)).but hb81 (by decide)).fr hF96 (by decide)).fr hF112 (by decide)).but hb116 (by decide)).but hb119 (by decide)).fr hF132 (by decide)).but hb136 (by decide)) (hb142) (hb59) (by decide) (by omega) (by decide) (by decide) (by decide) (by decide) (by decide) (by decide)) rfl (hb136.get (by decide) (hF132.get (by decide) (hb119.get (by decide) (hb116.get (by decide) (hF112.get (by decide) h18_139))))) rfl rfl rfl rfl rfl rfl (fun w143 hq144 => ?_)
  obtain ⟨hk145, g146, hr147, hb148, hx150, hF149⟩ := hq144
  refine xg_t (xg_aload (va := (2, 1)) rfl rfl) ?_
  refine xg_t (xg_getf (va := (2, 20)) (hF149.get (by decide) hk135) rfl) ?_
  refine xg_t (xg_aload (va := (2, 114)) rfl rfl) ?_
  refine xg_t (xg_getf (va := (2, 133)) (hF149.get (by decide) (hb136.get (by decide) (hF132.get (by decide) (hb119.get (by decide) (hb116.get (by decide) (hF112.get (by decide) (hF96.get (by decide) (hb81.get (by decide) (hb78.get (by decide) (hb75.get (by decide) (hb71.get (by decide) h114_26))))))))))) rfl) ?_
  obtain ⟨f20_151, h20_153, hb152⟩ := (xqc20 hI95 : cp20 (wget w93 20))
  refine xoI (xqc21 hI95 : cpI 48 9 4294967295 (wget w93 21)) (fun g21_154 h21_155 hb156 => ?_)
  refine xg_cVv mX5_copy (vs := [(2, 133)]) (rest := []) (cn1 := 0) (sl1 := 0) rfl (rcopyX (lim := 12) (wd := 4) (B := 4294967295) (hF149.get (by decide) (hb136.get (by decide) (hF132.get (by decide) (hb119.get (by decide) (hb116.get (by decide) (hF112.get (by decide) h20_153)))))) (hF149.get (by decide) (hb136.get (by decide) (hF132.get (by decide) (hb119.get (by decide) (hb116.get (by decide) (hF112.get (by decide) (hF96.get (by decide) (hb81.get (by decide) (hb78.get (by decide) (hb75.get (by decide) (hb71.get (by decide) h133_44))))))))))) ((((((h21_155.fr hF112 (by decide)).but hb116 (by decide)).but hb119 (by decide)).fr hF132 (by decide)).but hb136 (by decide)).fr hF149 (by decide)) (((((((((((h134_61.but hb71 (by decide)).but hb75 (by decide)).but hb78 (by decide)).but hb81 (by decide)).fr hF96 (by decide)).fr hF112 (by decide)).but hb116 (by decide)).but hb119 (by decide)).fr hF132 (by decide)).but hb136 (by decide)).fr hF149 (by decide)) (hb156) (hb62) (by decide) (by omega) (by decide) (by decide) (by decide) (by decide) (by decide) (by decide)) rfl (hF149.get (by decide) (hb136.get (by decide) (hF132.get (by decide) (hb119.get (by decide) (hb116.get (by decide) (hF112.get (by decide) h20_153)))))) rfl rfl rfl rfl rfl rfl (fun w157 hq158 => ?_)
  obtain ⟨hk159, g160, hr161, hb162, hx164, hF163⟩ := hq158
  refine xg_t (xg_aload (va := (2, 1)) rfl rfl) ?_
  refine xg_t (xg_getf (va := (2, 22)) (hF163.get (by decide) (hF149.get (by decide) hk135)) rfl) ?_
  refine xg_t (xg_aload (va := (2, 114)) rfl rfl) ?_
  refine xg_t (xg_getf (va := (2, 135)) (hF163.get (by decide) (hF149.get (by decide) (hb136.get (by decide) (hF132.get (by decide) (hb119.get (by decide) (hb116.get (by decide) (hF112.get (by decide) (hF96.get (by decide) (hb81.get (by decide) (hb78.get (by decide) (hb75.get (by decide) (hb71.get (by decide) h114_26)))))))))))) rfl) ?_
  obtain ⟨f22_165, h22_167, hb166⟩ := (xqc22 hI95 : cp22 (wget w93 22))
  refine xoI (xqc23 hI95 : cpI 32 10 4294967295 (wget w93 23)) (fun g23_168 h23_169 hb170 => ?_)
  refine xg_cVv mX5_copy (vs := [(2, 135)]) (rest := []) (cn1 := 0) (sl1 := 0) rfl (rcopyX (lim := 16) (wd := 2) (B := 4294967295) (hF163.get (by decide) (hF149.get (by decide) (hb136.get (by decide) (hF132.get (by decide) (hb119.get (by decide) (hb116.get (by decide) (hF112.get (by decide) h22_167))))))) (hF163.get (by decide) (hF149.get (by decide) (hb136.get (by decide) (hF132.get (by decide) (hb119.get (by decide) (hb116.get (by decide) (hF112.get (by decide) (hF96.get (by decide) (hb81.get (by decide) (hb78.get (by decide) (hb75.get (by decide) (hb71.get (by decide) h135_47)))))))))))) (((((((h23_169.fr hF112 (by decide)).but hb116 (by decide)).but hb119 (by decide)).fr hF132 (by decide)).but hb136 (by decide)).fr hF149 (by decide)).fr hF163 (by decide)) ((((((((((((h136_64.but hb71 (by decide)).but hb75 (by decide)).but hb78 (by decide)).but hb81 (by decide)).fr hF96 (by decide)).fr hF112 (by decide)).but hb116 (by decide)).but hb119 (by decide)).fr hF132 (by decide)).but hb136 (by decide)).fr hF149 (by decide)).fr hF163 (by decide)) (hb170) (hb65) (by decide) (by omega) (by decide) (by decide) (by decide) (by decide) (by decide) (by decide)) rfl (hF163.get (by decide) (hF149.get (by decide) (hb136.get (by decide) (hF132.get (by decide) (hb119.get (by decide) (hb116.get (by decide) (hF112.get (by decide) h22_167))))))) rfl rfl rfl rfl rfl rfl (fun w171 hq172 => ?_)
  obtain ⟨hk173, g174, hr175, hb176, hx178, hF177⟩ := hq172
  refine xg_t (xg_aload (va := (2, 1)) rfl rfl) ?_
  refine xg_t (xg_getf (va := (2, 24)) (hF177.get (by decide) (hF163.get (by decide) (hF149.get (by decide) hk135))) rfl) ?_
  refine xg_t (xg_aload (va := (2, 114)) rfl rfl) ?_
  refine xg_t (xg_getf (va := (2, 137)) (hF177.get (by decide) (hF163.get (by decide) (hF149.get (by decide) (hb136.get (by decide) (hF132.get (by decide) (hb119.get (by decide) (hb116.get (by decide) (hF112.get (by decide) (hF96.get (by decide) (hb81.get (by decide) (hb78.get (by decide) (hb75.get (by decide) (hb71.get (by decide) h114_26))))))))))))) rfl) ?_
  obtain ⟨f24_179, h24_181, hb180⟩ := (xqc24 hI95 : cp24 (wget w93 24))
  refine xoI (xqc25 hI95 : cpI 320 11 4294967295 (wget w93 25)) (fun g25_182 h25_183 hb184 => ?_)
  refine xg_cVv mX5_copy (vs := [(2, 137)]) (rest := []) (cn1 := 0) (sl1 := 0) rfl (rcopyX (lim := 64) (wd := 5) (B := 4294967295) (hF177.get (by decide) (hF163.get (by decide) (hF149.get (by decide) (hb136.get (by decide) (hF132.get (by decide) (hb119.get (by decide) (hb116.get (by decide) (hF112.get (by decide) h24_181)))))))) (hF177.get (by decide) (hF163.get (by decide) (hF149.get (by decide) (hb136.get (by decide) (hF132.get (by decide) (hb119.get (by decide) (hb116.get (by decide) (hF112.get (by decide) (hF96.get (by decide) (hb81.get (by decide) (hb78.get (by decide) (hb75.get (by decide) (hb71.get (by decide) h137_50))))))))))))) ((((((((h25_183.fr hF112 (by decide)).but hb116 (by decide)).but hb119 (by decide)).fr hF132 (by decide)).but hb136 (by decide)).fr hF149 (by decide)).fr hF163 (by decide)).fr hF177 (by decide)) (((((((((((((h138_67.but hb71 (by decide)).but hb75 (by decide)).but hb78 (by decide)).but hb81 (by decide)).fr hF96 (by decide)).fr hF112 (by decide)).but hb116 (by decide)).but hb119 (by decide)).fr hF132 (by decide)).but hb136 (by decide)).fr hF149 (by decide)).fr hF163 (by decide)).fr hF177 (by decide)) (hb184) (hb68) (by decide) (by omega) (by decide) (by decide) (by decide) (by decide) (by decide) (by decide)) rfl (hF177.get (by decide) (hF163.get (by decide) (hF149.get (by decide) (hb136.get (by decide) (hF132.get (by decide) (hb119.get (by decide) (hb116.get (by decide) (hF112.get (by decide) h24_181)))))))) rfl rfl rfl rfl rfl rfl (fun w185 hq186 => ?_)
  obtain ⟨hk187, g188, hr189, hb190, hx192, hF191⟩ := hq186
  have hq194 : fld w 127 3 = f127_33 := fld_of h127_35
  have hq193 : rwE w185 14 w 127 5 := ⟨((show fld w185 14 3 = f127_33 from fld_of (hF191.get (by decide) (hF177.get (by decide) (hF163.get (by decide) (hF149.get (by decide) (hb136.get (by decide) (hF132.get (by decide) (hb119.get (by decide) (hb116.get (by decide) hk108))))))))).trans (show fld w 127 3 = f127_33 from fld_of h127_35).symm), fun j hj => by
    rw [hq194] at hj
    exact (rwv_of ((((((((hr110.but hb116 (by decide)).but hb119 (by decide)).fr hF132 (by decide)).but hb136 (by decide)).fr hF149 (by decide)).fr hF163 (by decide)).fr hF177 (by decide)).fr hF191 (by decide)) (by omega)).trans ((hx113 j hj).trans (rwv_of h128_52 (by omega)).symm)⟩
  have hq196 : fld w 129 3 = f129_36 := fld_of h129_38
  have hq195 : rwE w185 16 w 129 5 := ⟨((show fld w185 16 3 = f129_36 from fld_of (hF191.get (by decide) (hF177.get (by decide) (hF163.get (by decide) (hF149.get (by decide) (hb136.get (by decide) hk128)))))).trans (show fld w 129 3 = f129_36 from fld_of h129_38).symm), fun j hj => by
    rw [hq196] at hj
    exact (rwv_of (((((hr130.but hb136 (by decide)).fr hF149 (by decide)).fr hF163 (by decide)).fr hF177 (by decide)).fr hF191 (by decide)) (by omega)).trans ((hx133 j hj).trans (rwv_of h130_55 (by omega)).symm)⟩
  have hq198 : fld w 131 3 = f131_39 := fld_of h131_41
  have hq197 : rwE w185 18 w 131 3 := ⟨((show fld w185 18 3 = f131_39 from fld_of (hF191.get (by decide) (hF177.get (by decide) (hF163.get (by decide) hk145)))).trans (show fld w 131 3 = f131_39 from fld_of h131_41).symm), fun j hj => by
    rw [hq198] at hj
    exact (rwv_of (((hr147.fr hF163 (by decide)).fr hF177 (by decide)).fr hF191 (by decide)) (by omega)).trans ((hx150 j hj).trans (rwv_of h132_58 (by omega)).symm)⟩
  have hq200 : fld w 133 3 = f133_42 := fld_of h133_44
  have hq199 : rwE w185 20 w 133 4 := ⟨((show fld w185 20 3 = f133_42 from fld_of (hF191.get (by decide) (hF177.get (by decide) hk159))).trans (show fld w 133 3 = f133_42 from fld_of h133_44).symm), fun j hj => by
    rw [hq200] at hj
    exact (rwv_of ((hr161.fr hF177 (by decide)).fr hF191 (by decide)) (by omega)).trans ((hx164 j hj).trans (rwv_of h134_61 (by omega)).symm)⟩
  have hq202 : fld w 135 3 = f135_45 := fld_of h135_47
  have hq201 : rwE w185 22 w 135 2 := ⟨((show fld w185 22 3 = f135_45 from fld_of (hF191.get (by decide) hk173)).trans (show fld w 135 3 = f135_45 from fld_of h135_47).symm), fun j hj => by
    rw [hq202] at hj
    exact (rwv_of (hr175.fr hF191 (by decide)) (by omega)).trans ((hx178 j hj).trans (rwv_of h136_64 (by omega)).symm)⟩
  have hq204 : fld w 137 3 = f137_48 := fld_of h137_50
  have hq203 : rwE w185 24 w 137 5 := ⟨((show fld w185 24 3 = f137_48 from fld_of hk187).trans (show fld w 137 3 = f137_48 from fld_of h137_50).symm), fun j hj => by
    rw [hq204] at hj
    exact (rwv_of hr189 (by omega)).trans ((hx192 j hj).trans (rwv_of h138_67 (by omega)).symm)⟩
  have hq205 : fmE w185 3 w 116 := hE99.tr (((((((((hF112.up (T := [14, 15, 1, 16, 17, 18, 19, 20, 21, 22, 23, 24, 25]) (by decide)).tr (xFr.of (S := [14, 15, 1, 16, 17, 18, 19, 20, 21, 22, 23, 24, 25]) hb116 (by decide))).tr (xFr.of (S := [14, 15, 1, 16, 17, 18, 19, 20, 21, 22, 23, 24, 25]) hb119 (by decide))).tr (hF132.up (T := [14, 15, 1, 16, 17, 18, 19, 20, 21, 22, 23, 24, 25]) (by decide))).tr (xFr.of (S := [14, 15, 1, 16, 17, 18, 19, 20, 21, 22, 23, 24, 25]) hb136 (by decide))).tr (hF149.up (T := [14, 15, 1, 16, 17, 18, 19, 20, 21, 22, 23, 24, 25]) (by decide))).tr (hF163.up (T := [14, 15, 1, 16, 17, 18, 19, 20, 21, 22, 23, 24, 25]) (by decide))).tr (hF177.up (T := [14, 15, 1, 16, 17, 18, 19, 20, 21, 22, 23, 24, 25]) (by decide))).tr (hF191.up (T := [14, 15, 1, 16, 17, 18, 19, 20, 21, 22, 23, 24, 25]) (by decide))) (by decide) ((((xFr.of (S := [1, 2, 3, 4, 5, 6, 7, 8, 9, 10, 11, 12, 13, 14, 15, 16, 17, 18, 19, 20, 21, 22, 23, 24, 25]) hb71 (by decide)).tr (xFr.of (S := [1, 2, 3, 4, 5, 6, 7, 8, 9, 10, 11, 12, 13, 14, 15, 16, 17, 18, 19, 20, 21, 22, 23, 24, 25]) hb75 (by decide))).tr (xFr.of (S := [1, 2, 3, 4, 5, 6, 7, 8, 9, 10, 11, 12, 13, 14, 15, 16, 17, 18, 19, 20, 21, 22, 23, 24, 25]) hb78 (by decide))).tr (xFr.of (S := [1, 2, 3, 4, 5, 6, 7, 8, 9, 10, 11, 12, 13, 14, 15, 16, 17, 18, 19, 20, 21, 22, 23, 24, 25]) hb81 (by decide))) (by decide)
  have hq206 : ∀ j, j < 500 → rwv w185 2 j = rwv w 115 j := fun j hj => (rwk_of (((((((((((((hr70.but hb75 (by decide)).but hb78 (by decide)).but hb81 (by decide)).fr hF96 (by decide)).fr hF112 (by decide)).but hb116 (by decide)).but hb119 (by decide)).fr hF132 (by decide)).but hb136 (by decide)).fr hF149 (by decide)).fr hF163 (by decide)).fr hF177 (by decide)).fr hF191 (by decide)) hj).trans ((if_pos hj).trans (rwk_of h115_31 hj).symm)
  exact xg_e ⟨w185, ⟨rfl, rfl⟩, xInv.up (S := [14, 15, 1, 16, 17, 18, 19, 20, 21, 22, 23, 24, 25]) hI95 (((((((((hF112.up (T := [14, 15, 1, 16, 17, 18, 19, 20, 21, 22, 23, 24, 25]) (by decide)).tr (xFr.of (S := [14, 15, 1, 16, 17, 18, 19, 20, 21, 22, 23, 24, 25]) hb116 (by decide))).tr (xFr.of (S := [14, 15, 1, 16, 17, 18, 19, 20, 21, 22, 23, 24, 25]) hb119 (by decide))).tr (hF132.up (T := [14, 15, 1, 16, 17, 18, 19, 20, 21, 22, 23, 24, 25]) (by decide))).tr (xFr.of (S := [14, 15, 1, 16, 17, 18, 19, 20, 21, 22, 23, 24, 25]) hb136 (by decide))).tr (hF149.up (T := [14, 15, 1, 16, 17, 18, 19, 20, 21, 22, 23, 24, 25]) (by decide))).tr (hF163.up (T := [14, 15, 1, 16, 17, 18, 19, 20, 21, 22, 23, 24, 25]) (by decide))).tr (hF177.up (T := [14, 15, 1, 16, 17, 18, 19, 20, 21, 22, 23, 24, 25]) (by decide))).tr (hF191.up (T := [14, 15, 1, 16, 17, 18, 19, 20, 21, 22, 23, 24, 25]) (by decide))) (List.forall_mem_cons.mpr ⟨xqu14 (show cp14 (wget w185 14) from ⟨f127_33, (hF191.get (by decide) (hF177.get (by decide) (hF163.get (by decide) (hF149.get (by decide) (hb136.get (by decide) (hF132.get (by decide) (hb119.get (by decide) (hb116.get (by decide) hk108)))))))), hb34⟩), List.forall_mem_cons.mpr ⟨xqu15 (show cpI 200 6 4294967295 (wget w185 15) from ⟨_, ((((((((hr110.but hb116 (by decide)).but hb119 (by decide)).fr hF132 (by decide)).but hb136 (by decide)).fr hF149 (by decide)).fr hF163 (by decide)).fr hF177 (by decide)).fr hF191 (by decide)), hb111⟩), List.forall_mem_cons.mpr ⟨xqu1 (show cp1 (wget w185 1) from xmC1 f114_14 f114_16 f114_18 f114_20 f114_22 f114_24 (hF191.get (by decide) (hF177.get (by decide) (hF163.get (by decide) (hF149.get (by decide) hk135)))) hb15 hb17 hb19 hb21 hb23 hb25), List.forall_mem_cons.mpr ⟨xqu16 (show cp16 (wget w185 16) from ⟨f129_36, (hF191.get (by decide) (hF177.get (by decide) (hF163.get (by decide) (hF149.get (by decide) (hb136.get (by decide) hk128))))), hb37⟩), List.forall_mem_cons.mpr ⟨xqu17 (show cpI 60 7 4294967295 (wget w185 17) from ⟨_, (((((hr130.but hb136 (by decide)).fr hF149 (by decide)).fr hF163 (by decide)).fr hF177 (by decide)).fr hF191 (by decide)), hb131⟩), List.forall_mem_cons.mpr ⟨xqu18 (show cp18 (wget w185 18) from ⟨f131_39, (hF191.get (by decide) (hF177.get (by decide) (hF163.get (by decide) hk145))), hb40⟩), List.forall_mem_cons.mpr ⟨xqu19 (show cpI 12 8 4294967295 (wget w185 19) from ⟨_, (((hr147.fr hF163 (by decide)).fr hF177 (by decide)).fr hF191 (by decide)), hb148⟩), List.forall_mem_cons.mpr ⟨xqu20 (show cp20 (wget w185 20) from ⟨f133_42, (hF191.get (by decide) (hF177.get (by decide) hk159)), hb43⟩), List.forall_mem_cons.mpr ⟨xqu21 (show cpI 48 9 4294967295 (wget w185 21) from ⟨_, ((hr161.fr hF177 (by decide)).fr hF191 (by decide)), hb162⟩), List.forall_mem_cons.mpr ⟨xqu22 (show cp22 (wget w185 22) from ⟨f135_45, (hF191.get (by decide) hk173), hb46⟩), List.forall_mem_cons.mpr ⟨xqu23 (show cpI 32 10 4294967295 (wget w185 23) from ⟨_, (hr175.fr hF191 (by decide)), hb176⟩), List.forall_mem_cons.mpr ⟨xqu24 (show cp24 (wget w185 24) from ⟨f137_48, hk187, hb49⟩), List.forall_mem_cons.mpr ⟨xqu25 (show cpI 320 11 4294967295 (wget w185 25) from ⟨_, hr189, hb190⟩), fun _ h => absurd h List.not_mem_nil⟩⟩⟩⟩⟩⟩⟩⟩⟩⟩⟩⟩⟩), ((((((xFr.of (S := [1, 2, 3, 4, 5, 6, 7, 8, 9, 10, 11, 12, 13, 14, 15, 16, 17, 18, 19, 20, 21, 22, 23, 24, 25]) hb71 (by decide)).tr (xFr.of (S := [1, 2, 3, 4, 5, 6, 7, 8, 9, 10, 11, 12, 13, 14, 15, 16, 17, 18, 19, 20, 21, 22, 23, 24, 25]) hb75 (by decide))).tr (xFr.of (S := [1, 2, 3, 4, 5, 6, 7, 8, 9, 10, 11, 12, 13, 14, 15, 16, 17, 18, 19, 20, 21, 22, 23, 24, 25]) hb78 (by decide))).tr (xFr.of (S := [1, 2, 3, 4, 5, 6, 7, 8, 9, 10, 11, 12, 13, 14, 15, 16, 17, 18, 19, 20, 21, 22, 23, 24, 25]) hb81 (by decide))).tr (hF96.up (by decide))).tr (((((((((hF112.up (T := [1, 2, 3, 4, 5, 6, 7, 8, 9, 10, 11, 12, 13, 14, 15, 16, 17, 18, 19, 20, 21, 22, 23, 24, 25]) (by decide)).tr (xFr.of (S := [1, 2, 3, 4, 5, 6, 7, 8, 9, 10, 11, 12, 13, 14, 15, 16, 17, 18, 19, 20, 21, 22, 23, 24, 25]) hb116 (by decide))).tr (xFr.of (S := [1, 2, 3, 4, 5, 6, 7, 8, 9, 10, 11, 12, 13, 14, 15, 16, 17, 18, 19, 20, 21, 22, 23, 24, 25]) hb119 (by decide))).tr (hF132.up (T := [1, 2, 3, 4, 5, 6, 7, 8, 9, 10, 11, 12, 13, 14, 15, 16, 17, 18, 19, 20, 21, 22, 23, 24, 25]) (by decide))).tr (xFr.of (S := [1, 2, 3, 4, 5, 6, 7, 8, 9, 10, 11, 12, 13, 14, 15, 16, 17, 18, 19, 20, 21, 22, 23, 24, 25]) hb136 (by decide))).tr (hF149.up (T := [1, 2, 3, 4, 5, 6, 7, 8, 9, 10, 11, 12, 13, 14, 15, 16, 17, 18, 19, 20, 21, 22, 23, 24, 25]) (by decide))).tr (hF163.up (T := [1, 2, 3, 4, 5, 6, 7, 8, 9, 10, 11, 12, 13, 14, 15, 16, 17, 18, 19, 20, 21, 22, 23, 24, 25]) (by decide))).tr (hF177.up (T := [1, 2, 3, 4, 5, 6, 7, 8, 9, 10, 11, 12, 13, 14, 15, 16, 17, 18, 19, 20, 21, 22, 23, 24, 25]) (by decide))).tr (hF191.up (T := [1, 2, 3, 4, 5, 6, 7, 8, 9, 10, 11, 12, 13, 14, 15, 16, 17, 18, 19, 20, 21, 22, 23, 24, 25]) (by decide)))), ⟨xIm.up (S := [14, 15, 1, 16, 17, 18, 19, 20, 21, 22, 23, 24, 25]) hJ98 (((((((((hF112.up (T := [14, 15, 1, 16, 17, 18, 19, 20, 21, 22, 23, 24, 25]) (by decide)).tr (xFr.of (S := [14, 15, 1, 16, 17, 18, 19, 20, 21, 22, 23, 24, 25]) hb116 (by decide))).tr (xFr.of (S := [14, 15, 1, 16, 17, 18, 19, 20, 21, 22, 23, 24, 25]) hb119 (by decide))).tr (hF132.up (T := [14, 15, 1, 16, 17, 18, 19, 20, 21, 22, 23, 24, 25]) (by decide))).tr (xFr.of (S := [14, 15, 1, 16, 17, 18, 19, 20, 21, 22, 23, 24, 25]) hb136 (by decide))).tr (hF149.up (T := [14, 15, 1, 16, 17, 18, 19, 20, 21, 22, 23, 24, 25]) (by decide))).tr (hF163.up (T := [14, 15, 1, 16, 17, 18, 19, 20, 21, 22, 23, 24, 25]) (by decide))).tr (hF177.up (T := [14, 15, 1, 16, 17, 18, 19, 20, 21, 22, 23, 24, 25]) (by decide))).tr (hF191.up (T := [14, 15, 1, 16, 17, 18, 19, 20, 21, 22, 23, 24, 25]) (by decide))) (List.forall_mem_cons.mpr ⟨(fun h => absurd h (by omega)), List.forall_mem_cons.mpr ⟨(fun h => absurd h (by omega)), List.forall_mem_cons.mpr ⟨(fun h => absurd h (by omega)), List.forall_mem_cons.mpr ⟨(fun h => absurd h (by omega)), List.forall_mem_cons.mpr ⟨(fun h => absurd h (by omega)), List.forall_mem_cons.mpr ⟨(fun h => absurd h (by omega)), List.forall_mem_cons.mpr ⟨(fun h => absurd h (by omega)), List.forall_mem_cons.mpr ⟨(fun h => absurd h (by omega)), List.forall_mem_cons.mpr ⟨(fun h => absurd h (by omega)), List.forall_mem_cons.mpr ⟨(fun h => absurd h (by omega)), List.forall_mem_cons.mpr ⟨(fun h => absurd h (by omega)), List.forall_mem_cons.mpr ⟨(fun h => absurd h (by omega)), List.forall_mem_cons.mpr ⟨(fun h => absurd h (by omega)), fun _ h => absurd h List.not_mem_nil⟩⟩⟩⟩⟩⟩⟩⟩⟩⟩⟩⟩⟩), ⟨((show fld w185 1 1 = f114_14 from fld_of (hF191.get (by decide) (hF177.get (by decide) (hF163.get (by decide) (hF149.get (by decide) hk135))))).trans (show fld w 114 1 = f114_14 from fld_of h114_26).symm), ((show fld w185 1 2 = f114_16 from fld_of (hF191.get (by decide) (hF177.get (by decide) (hF163.get (by decide) (hF149.get (by decide) hk135))))).trans (show fld w 114 2 = f114_16 from fld_of h114_26).symm), ((show fld w185 1 3 = f114_18 from fld_of (hF191.get (by decide) (hF177.get (by decide) (hF163.get (by decide) (hF149.get (by decide) hk135))))).trans (show fld w 114 3 = f114_18 from fld_of h114_26).symm), ((show fld w185 1 6 = f114_20 from fld_of (hF191.get (by decide) (hF177.get (by decide) (hF163.get (by decide) (hF149.get (by decide) hk135))))).trans (show fld w 114 6 = f114_20 from fld_of h114_26).symm), ((show fld w185 1 7 = f114_22 from fld_of (hF191.get (by decide) (hF177.get (by decide) (hF163.get (by decide) (hF149.get (by decide) hk135))))).trans (show fld w 114 7 = f114_22 from fld_of h114_26).symm), ((show fld w185 1 9 = f114_24 from fld_of (hF191.get (by decide) (hF177.get (by decide) (hF163.get (by decide) (hF149.get (by decide) hk135))))).trans (show fld w 114 9 = f114_24 from fld_of h114_26).symm)⟩, hq206, hq205, hq193, hq195, hq197, hq199, hq201, hq203⟩⟩
set_option maxRecDepth 100000 in
theorem imToldE11 (hI : xInv w) (hJ : xIm 139 164 w) : xPq (d + 3) mX9_copy [(2, 139), (2, 1)] w bd fc rr [] (fun w' => xInv w' ∧ xFr [139, 140, 141, 142, 143, 144, 145, 146, 147, 148, 149, 150, 151, 152, 153, 154, 155, 156, 157, 158, 159, 160, 161, 162, 163] w w' ∧ (xIm 139 164 w' ∧ tdE w' 139 w 1)) := by
  refine xPq.of ?_
  show xTo (d + 3) mX9_copy (0, [], [(0, (2, 139)), (1, (2, 1))], [], (w, bd, fc, 0, 0, rr)) (fun φ => ∃ w', xEnd 0 [] (w', bd, fc, 0, 0, rr) φ ∧ xInv w' ∧ xFr [139, 140, 141, 142, 143, 144, 145, 146, 147, 148, 149, 150, 151, 152, 153, 154, 155, 156, 157, 158, 159, 160, 161, 162, 163] w w' ∧ (xIm 139 164 w' ∧ tdE w' 139 w 1))
  refine xoC1 (xqc1 hI : cp1 (wget w 1)) (fun f1_1 f1_3 f1_5 f1_7 f1_9 f1_11 h1_13 hb2 hb4 hb6 hb8 hb10 hb12 => ?_)
  obtain ⟨f139_14, f139_16, f139_18, f139_20, f139_22, f139_24, h139_26, hb15, hb17, hb19, hb21, hb23, hb25⟩ := (hJ 139 (by decide) (by decide) : cp139 (wget w 139))
  obtain ⟨g2_27, h2_28, hb29⟩ := (xqc2 hI : cpY 500 0 (wget w 2))
  have h2_28 : xRk 1 0 w 2 500 0 g2_27 := h2_28
  obtain ⟨g140_30, h140_31, hb32⟩ := (hJ 140 (by decide) (by decide) : cpY 500 93 (wget w 140))
  have h140_31 : xRk 1 0 w 140 500 93 g140_30 := h140_31
  obtain ⟨f14_33, h14_35, hb34⟩ := (xqc14 hI : cp14 (wget w 14))
  obtain ⟨f16_36, h16_38, hb37⟩ := (xqc16 hI : cp16 (wget w 16))
  obtain ⟨f18_39, h18_41, hb40⟩ := (xqc18 hI : cp18 (wget w 18))
  obtain ⟨f20_42, h20_44, hb43⟩ := (xqc20 hI : cp20 (wget w 20))
  obtain ⟨f22_45, h22_47, hb46⟩ := (xqc22 hI : cp22 (wget w 22))
  obtain ⟨f24_48, h24_50, hb49⟩ := (xqc24 hI : cp24 (wget w 24))
  refine xoI (xqc15 hI : cpI 200 6 4294967295 (wget w 15)) (fun g15_51 h15_52 hb53 => ?_)
  refine xoI (xqc17 hI : cpI 60 7 4294967295 (wget w 17)) (fun g17_54 h17_55 hb56 => ?_)
  refine xoI (xqc19 hI : cpI 12 8 4294967295 (wget w 19)) (fun g19_57 h19_58 hb59 => ?_)
  refine xoI (xqc21 hI : cpI 48 9 4294967295 (wget w 21)) (fun g21_60 h21_61 hb62 => ?_)
  refine xoI (xqc23 hI : cpI 32 10 4294967295 (wget w 23)) (fun g23_63 h23_64 hb65 => ?_)
  refine xoI (xqc25 hI : cpI 320 11 4294967295 (wget w 25)) (fun g25_66 h25_67 hb68 => ?_)
  refine xg_t (xg_blq rfl) ?_
  refine xg_t (xg_aload (va := (2, 1)) rfl rfl) ?_
  refine xg_t (xg_getf (va := (2, 2)) h1_13 rfl) ?_
  refine xg_t (xg_const) ?_
  refine xg_t (xg_aload (va := (2, 139)) rfl rfl) ?_
  refine xg_t (xg_getf (va := (2, 140)) h139_26 rfl) ?_
  refine xg_t (xg_const) ?_
  refine xg_t (xg_sip) ?_
  refine xg_copyY (n := 500) h2_28 h140_31 (hb29) xnm0 (by omega) (by omega) (Nat.le_of_ble_eq_true rfl) (fun w69 hr70 hb71 => ?_)
  have rb72 : ∀ j, xby ((fun j => if j < 500 then g2_27 j else g140_30 j) j) := fun j => by
    show xby (if j < 500 then g2_27 j else g140_30 j)
    split
    · exact (hb29) j
    · exact (hb32) j
  refine xg_t (xg_aload (va := (2, 139)) rfl rfl) ?_
  refine xg_t (xg_aload (va := (2, 1)) rfl rfl) ?_
  refine xg_t (xg_getf (va := (0, f1_1)) (hb71.get (by decide) h1_13) rfl) ?_
  refine xg_putI (fl1 := [(2, 140), (0, f1_1), (0, f139_16), (0, f139_18), (2, 141), (2, 152), (0, f139_20), (0, f139_22), (2, 154), (0, f139_24), (2, 156), (2, 158), (2, 160), (2, 162)]) (hb71.get (by decide) h139_26) rfl rfl rfl (fun w73 hk74 hb75 => ?_)
  refine xg_t (xg_aload (va := (2, 139)) rfl rfl) ?_
  refine xg_t (xg_aload (va := (2, 1)) rfl rfl) ?_
  refine xg_t (xg_getf (va := (0, f1_3)) (hb75.get (by decide) (hb71.get (by decide) h1_13)) rfl) ?_
  refine xg_putI (fl1 := [(2, 140), (0, f1_1), (0, f1_3), (0, f139_18), (2, 141), (2, 152), (0, f139_20), (0, f139_22), (2, 154), (0, f139_24), (2, 156), (2, 158), (2, 160), (2, 162)]) hk74 rfl rfl rfl (fun w76 hk77 hb78 => ?_)
  refine xg_t (xg_aload (va := (2, 139)) rfl rfl) ?_
  refine xg_t (xg_aload (va := (2, 1)) rfl rfl) ?_
  refine xg_t (xg_getf (va := (0, f1_5)) (hb78.get (by decide) (hb75.get (by decide) (hb71.get (by decide) h1_13))) rfl) ?_
  refine xg_putI (fl1 := [(2, 140), (0, f1_1), (0, f1_3), (0, f1_5), (2, 141), (2, 152), (0, f139_20), (0, f139_22), (2, 154), (0, f139_24), (2, 156), (2, 158), (2, 160), (2, 162)]) hk77 rfl rfl rfl (fun w79 hk80 hb81 => ?_)
  refine xg_t (xg_aload (va := (2, 139)) rfl rfl) ?_
  refine xg_t (xg_getf (va := (2, 141)) hk80 rfl) ?_
  refine xg_t (xg_aload (va := (2, 1)) rfl rfl) ?_
  refine xg_t (xg_getf (va := (2, 3)) (hb81.get (by decide) (hb78.get (by decide) (hb75.get (by decide) (hb71.get (by decide) h1_13)))) rfl) ?_
  obtain ⟨f141_82, f141_84, f141_86, f141_88, f141_90, h141_92, hb83, hb85, hb87, hb89, hb91⟩ := (hJ 141 (by decide) (by decide) : cp141 (wget w 141))
  refine xg_cVv mX1_copy (vs := [(2, 3)]) (rest := []) (cn1 := 0) (sl1 := 0) rfl (imFilmE11 (xInv.up (S := [140, 139]) hI ((((xFr.of (S := [140, 139]) hb71 (by decide)).tr (xFr.of (S := [140, 139]) hb75 (by decide))).tr (xFr.of (S := [140, 139]) hb78 (by decide))).tr (xFr.of (S := [140, 139]) hb81 (by decide))) (List.forall_mem_cons.mpr ⟨(show True from trivial), List.forall_mem_cons.mpr ⟨(show True from trivial), fun _ h => absurd h List.not_mem_nil⟩⟩)) (xIm.up (S := [140, 139]) hJ ((((xFr.of (S := [140, 139]) hb71 (by decide)).tr (xFr.of (S := [140, 139]) hb75 (by decide))).tr (xFr.of (S := [140, 139]) hb78 (by decide))).tr (xFr.of (S := [140, 139]) hb81 (by decide))) (List.forall_mem_cons.mpr ⟨(fun _ => show cpY 500 93 (wget w79 140) from ⟨_, (((hr70.but hb75 (by decide)).but hb78 (by decide)).but hb81 (by decide)), rb72⟩), List.forall_mem_cons.mpr ⟨(fun _ => show cp139 (wget w79 139) from ⟨f1_1, f1_3, f1_5, f139_20, f139_22, f139_24, hk80, by omega, by omega, by omega, by omega, by omega, by omega⟩), fun _ h => absurd h List.not_mem_nil⟩⟩))) rfl (hb81.get (by decide) (hb78.get (by decide) (hb75.get (by decide) (hb71.get (by decide) h141_92)))) rfl rfl rfl rfl rfl rfl (fun w93 hq94 => ?_)
  obtain ⟨hI95, hF96, hx97⟩ := hq94
  obtain ⟨hJ98, hE99⟩ := hx97
  refine xg_t (xg_aload (va := (2, 139)) rfl rfl) ?_
  refine xg_t (xg_getf (va := (2, 152)) (hF96.get (by decide) hk80) rfl) ?_
  refine xg_t (xg_aload (va := (2, 1)) rfl rfl) ?_
  refine xg_t (xg_getf (va := (2, 14)) (hF96.get (by decide) (hb81.get (by decide) (hb78.get (by decide) (hb75.get (by decide) (hb71.get (by decide) h1_13))))) rfl) ?_
  obtain ⟨f152_100, h152_102, hb101⟩ := (hJ98 152 (by decide) (by decide) : cp152 (wget w93 152))
  refine xoI (hJ98 153 (by decide) (by decide) : cpI 200 99 4294967295 (wget w93 153)) (fun g153_103 h153_104 hb105 => ?_)
  refine xg_cVv mX5_copy (vs := [(2, 14)]) (rest := []) (cn1 := 0) (sl1 := 0) rfl (rcopyX (lim := 40) (wd := 5) (B := 4294967295) h152_102 (hF96.get (by decide) (hb81.get (by decide) (hb78.get (by decide) (hb75.get (by decide) (hb71.get (by decide) h14_35))))) h153_104 (((((h15_52.but hb71 (by decide)).but hb75 (by decide)).but hb78 (by decide)).but hb81 (by decide)).fr hF96 (by decide)) (hb105) (hb53) (by decide) (by omega) (by decide) (by decide) (by decide) (by decide) (by decide) (by decide)) rfl h152_102 rfl rfl rfl rfl rfl rfl (fun w106 hq107 => ?_)
  obtain ⟨hk108, g109, hr110, hb111, hx113, hF112⟩ := hq107
  refine xg_t (xg_aload (va := (2, 139)) rfl rfl) ?_
  refine xg_t (xg_aload (va := (2, 1)) rfl rfl) ?_
  refine xg_t (xg_getf (va := (0, f1_7)) (hF112.get (by decide) (hF96.get (by decide) (hb81.get (by decide) (hb78.get (by decide) (hb75.get (by decide) (hb71.get (by decide) h1_13)))))) rfl) ?_
  refine xg_putI (fl1 := [(2, 140), (0, f1_1), (0, f1_3), (0, f1_5), (2, 141), (2, 152), (0, f1_7), (0, f139_22), (2, 154), (0, f139_24), (2, 156), (2, 158), (2, 160), (2, 162)]) (hF112.get (by decide) (hF96.get (by decide) hk80)) rfl rfl rfl (fun w114 hk115 hb116 => ?_)
  refine xg_t (xg_aload (va := (2, 139)) rfl rfl) ?_
  refine xg_t (xg_aload (va := (2, 1)) rfl rfl) ?_
  refine xg_t (xg_getf (va := (0, f1_9)) (hb116.get (by decide) (hF112.get (by decide) (hF96.get (by decide) (hb81.get (by decide) (hb78.get (by decide) (hb75.get (by decide) (hb71.get (by decide) h1_13))))))) rfl) ?_
  refine xg_putI (fl1 := [(2, 140), (0, f1_1), (0, f1_3), (0, f1_5), (2, 141), (2, 152), (0, f1_7), (0, f1_9), (2, 154), (0, f139_24), (2, 156), (2, 158), (2, 160), (2, 162)]) hk115 rfl rfl rfl (fun w117 hk118 hb119 => ?_)
  refine xg_t (xg_aload (va := (2, 139)) rfl rfl) ?_
  refine xg_t (xg_getf (va := (2, 154)) hk118 rfl) ?_
  refine xg_t (xg_aload (va := (2, 1)) rfl rfl) ?_
  refine xg_t (xg_getf (va := (2, 16)) (hb119.get (by decide) (hb116.get (by decide) (hF112.get (by decide) (hF96.get (by decide) (hb81.get (by decide) (hb78.get (by decide) (hb75.get (by decide) (hb71.get (by decide) h1_13)))))))) rfl) ?_
  obtain ⟨f154_120, h154_122, hb121⟩ := (hJ98 154 (by decide) (by decide) : cp154 (wget w93 154))
  refine xoI (hJ98 155 (by decide) (by decide) : cpI 60 100 4294967295 (wget w93 155)) (fun g155_123 h155_124 hb125 => ?_)
  refine xg_cVv mX5_copy (vs := [(2, 16)]) (rest := []) (cn1 := 0) (sl1 := 0) rfl (rcopyX (lim := 12) (wd := 5) (B := 4294967295) (hb119.get (by decide) (hb116.get (by decide) (hF112.get (by decide) h154_122))) (hb119.get (by decide) (hb116.get (by decide) (hF112.get (by decide) (hF96.get (by decide) (hb81.get (by decide) (hb78.get (by decide) (hb75.get (by decide) (hb71.get (by decide) h16_38)))))))) (((h155_124.fr hF112 (by decide)).but hb116 (by decide)).but hb119 (by decide)) ((((((((h17_55.but hb71 (by decide)).but hb75 (by decide)).but hb78 (by decide)).but hb81 (by decide)).fr hF96 (by decide)).fr hF112 (by decide)).but hb116 (by decide)).but hb119 (by decide)) (hb125) (hb56) (by decide) (by omega) (by decide) (by decide) (by decide) (by decide) (by decide) (by decide)) rfl (hb119.get (by decide) (hb116.get (by decide) (hF112.get (by decide) h154_122))) rfl rfl rfl rfl rfl rfl (fun w126 hq127 => ?_)
  obtain ⟨hk128, g129, hr130, hb131, hx133, hF132⟩ := hq127
  refine xg_t (xg_aload (va := (2, 139)) rfl rfl) ?_
  refine xg_t (xg_aload (va := (2, 1)) rfl rfl) ?_
  refine xg_t (xg_getf (va := (0, f1_11)) (hF132.get (by decide) (hb119.get (by decide) (hb116.get (by decide) (hF112.get (by decide) (hF96.get (by decide) (hb81.get (by decide) (hb78.get (by decide) (hb75.get (by decide) (hb71.get (by decide) h1_13))))))))) rfl) ?_
  refine xg_putI (fl1 := [(2, 140), (0, f1_1), (0, f1_3), (0, f1_5), (2, 141), (2, 152), (0, f1_7), (0, f1_9), (2, 154), (0, f1_11), (2, 156), (2, 158), (2, 160), (2, 162)]) (hF132.get (by decide) hk118) rfl rfl rfl (fun w134 hk135 hb136 => ?_)
  refine xg_t (xg_aload (va := (2, 139)) rfl rfl) ?_
  refine xg_t (xg_getf (va := (2, 156)) hk135 rfl) ?_
  refine xg_t (xg_aload (va := (2, 1)) rfl rfl) ?_
  refine xg_t (xg_getf (va := (2, 18)) (hb136.get (by decide) (hF132.get (by decide) (hb119.get (by decide) (hb116.get (by decide) (hF112.get (by decide) (hF96.get (by decide) (hb81.get (by decide) (hb78.get (by decide) (hb75.get (by decide) (hb71.get (by decide) h1_13)))))))))) rfl) ?_
  obtain ⟨f156_137, h156_139, hb138⟩ := (hJ98 156 (by decide) (by decide) : cp156 (wget w93 156))
  refine xoI (hJ98 157 (by decide) (by decide) : cpI 12 101 4294967295 (wget w93 157)) (fun g157_140 h157_141 hb142 => ?_)
  refine xg_cVv mX5_copy (vs := [(2, 18)]) (rest := []) (cn1 := 0) (sl1 := 0) rfl (rcopyX (lim := 4) (wd := 3) (B := 4294967295) (hb136.get (by decide) (hF132.get (by decide) (hb119.get (by decide) (hb116.get (by decide) (hF112.get (by decide) h156_139))))) (hb136.get (by decide) (hF132.get (by decide) (hb119.get (by decide) (hb116.get (by decide) (hF112.get (by decide) (hF96.get (by decide) (hb81.get (by decide) (hb78.get (by decide) (hb75.get (by decide) (hb71.get (by decide) h18_41)))))))))) (((((h157_141.fr hF112 (by decide)).but hb116 (by decide)).but hb119 (by decide)).fr hF132 (by decide)).but hb136 (by decide)) ((((((((((h19_58.but hb71 (by decide)).but hb75 (by decide)).but hb78 (by decide)).but hb81 (by decide)).fr hF96 (by decide)).fr hF112 (by decide)).but hb116 (by decide)).but hb119 (by decide)).fr hF132 (by decide)).but hb136 (by decide)) (hb142) (hb59) (by decide) (by omega) (by decide) (by decide) (by decide) (by decide) (by decide) (by decide)) rfl (hb136.get (by decide) (hF132.get (by decide) (hb119.get (by decide) (hb116.get (by decide) (hF112.get (by decide) h156_139))))) rfl rfl rfl rfl rfl rfl (fun w143 hq144 => ?_)
  obtain ⟨hk145, g146, hr147, hb148, hx150, hF149⟩ := hq144
  refine xg_t (xg_aload (va := (2, 139)) rfl rfl) ?_
  refine xg_t (xg_getf (va := (2, 158)) (hF149.get (by decide) hk135) rfl) ?_
  refine xg_t (xg_aload (va := (2, 1)) rfl rfl) ?_
  refine xg_t (xg_getf (va := (2, 20)) (hF149.get (by decide) (hb136.get (by decide) (hF132.get (by decide) (hb119.get (by decide) (hb116.get (by decide) (hF112.get (by decide) (hF96.get (by decide) (hb81.get (by decide) (hb78.get (by decide) (hb75.get (by decide) (hb71.get (by decide) h1_13))))))))))) rfl) ?_
  obtain ⟨f158_151, h158_153, hb152⟩ := (hJ98 158 (by decide) (by decide) : cp158 (wget w93 158))
  refine xoI (hJ98 159 (by decide) (by decide) : cpI 48 102 4294967295 (wget w93 159)) (fun g159_154 h159_155 hb156 => ?_)
  refine xg_cVv mX5_copy (vs := [(2, 20)]) (rest := []) (cn1 := 0) (sl1 := 0) rfl (rcopyX (lim := 12) (wd := 4) (B := 4294967295) (hF149.get (by decide) (hb136.get (by decide) (hF132.get (by decide) (hb119.get (by decide) (hb116.get (by decide) (hF112.get (by decide) h158_153)))))) (hF149.get (by decide) (hb136.get (by decide) (hF132.get (by decide) (hb119.get (by decide) (hb116.get (by decide) (hF112.get (by decide) (hF96.get (by decide) (hb81.get (by decide) (hb78.get (by decide) (hb75.get (by decide) (hb71.get (by decide) h20_44))))))))))) ((((((h159_155.fr hF112 (by decide)).but hb116 (by decide)).but hb119 (by decide)).fr hF132 (by decide)).but hb136 (by decide)).fr hF149 (by decide)) (((((((((((h21_61.but hb71 (by decide)).but hb75 (by decide)).but hb78 (by decide)).but hb81 (by decide)).fr hF96 (by decide)).fr hF112 (by decide)).but hb116 (by decide)).but hb119 (by decide)).fr hF132 (by decide)).but hb136 (by decide)).fr hF149 (by decide)) (hb156) (hb62) (by decide) (by omega) (by decide) (by decide) (by decide) (by decide) (by decide) (by decide)) rfl (hF149.get (by decide) (hb136.get (by decide) (hF132.get (by decide) (hb119.get (by decide) (hb116.get (by decide) (hF112.get (by decide) h158_153)))))) rfl rfl rfl rfl rfl rfl (fun w157 hq158 => ?_)
  obtain ⟨hk159, g160, hr161, hb162, hx164, hF163⟩ := hq158
  refine xg_t (xg_aload (va := (2, 139)) rfl rfl) ?_
  refine xg_t (xg_getf (va := (2, 160)) (hF163.get (by decide) (hF149.get (by decide) hk135)) rfl) ?_
  refine xg_t (xg_aload (va := (2, 1)) rfl rfl) ?_
  refine xg_t (xg_getf (va := (2, 22)) (hF163.get (by decide) (hF149.get (by decide) (hb136.get (by decide) (hF132.get (by decide) (hb119.get (by decide) (hb116.get (by decide) (hF112.get (by decide) (hF96.get (by decide) (hb81.get (by decide) (hb78.get (by decide) (hb75.get (by decide) (hb71.get (by decide) h1_13)))))))))))) rfl) ?_
  obtain ⟨f160_165, h160_167, hb166⟩ := (hJ98 160 (by decide) (by decide) : cp160 (wget w93 160))
  refine xoI (hJ98 161 (by decide) (by decide) : cpI 32 103 4294967295 (wget w93 161)) (fun g161_168 h161_169 hb170 => ?_)
  refine xg_cVv mX5_copy (vs := [(2, 22)]) (rest := []) (cn1 := 0) (sl1 := 0) rfl (rcopyX (lim := 16) (wd := 2) (B := 4294967295) (hF163.get (by decide) (hF149.get (by decide) (hb136.get (by decide) (hF132.get (by decide) (hb119.get (by decide) (hb116.get (by decide) (hF112.get (by decide) h160_167))))))) (hF163.get (by decide) (hF149.get (by decide) (hb136.get (by decide) (hF132.get (by decide) (hb119.get (by decide) (hb116.get (by decide) (hF112.get (by decide) (hF96.get (by decide) (hb81.get (by decide) (hb78.get (by decide) (hb75.get (by decide) (hb71.get (by decide) h22_47)))))))))))) (((((((h161_169.fr hF112 (by decide)).but hb116 (by decide)).but hb119 (by decide)).fr hF132 (by decide)).but hb136 (by decide)).fr hF149 (by decide)).fr hF163 (by decide)) ((((((((((((h23_64.but hb71 (by decide)).but hb75 (by decide)).but hb78 (by decide)).but hb81 (by decide)).fr hF96 (by decide)).fr hF112 (by decide)).but hb116 (by decide)).but hb119 (by decide)).fr hF132 (by decide)).but hb136 (by decide)).fr hF149 (by decide)).fr hF163 (by decide)) (hb170) (hb65) (by decide) (by omega) (by decide) (by decide) (by decide) (by decide) (by decide) (by decide)) rfl (hF163.get (by decide) (hF149.get (by decide) (hb136.get (by decide) (hF132.get (by decide) (hb119.get (by decide) (hb116.get (by decide) (hF112.get (by decide) h160_167))))))) rfl rfl rfl rfl rfl rfl (fun w171 hq172 => ?_)
  obtain ⟨hk173, g174, hr175, hb176, hx178, hF177⟩ := hq172
  refine xg_t (xg_aload (va := (2, 139)) rfl rfl) ?_
  refine xg_t (xg_getf (va := (2, 162)) (hF177.get (by decide) (hF163.get (by decide) (hF149.get (by decide) hk135))) rfl) ?_
  refine xg_t (xg_aload (va := (2, 1)) rfl rfl) ?_
  refine xg_t (xg_getf (va := (2, 24)) (hF177.get (by decide) (hF163.get (by decide) (hF149.get (by decide) (hb136.get (by decide) (hF132.get (by decide) (hb119.get (by decide) (hb116.get (by decide) (hF112.get (by decide) (hF96.get (by decide) (hb81.get (by decide) (hb78.get (by decide) (hb75.get (by decide) (hb71.get (by decide) h1_13))))))))))))) rfl) ?_
  obtain ⟨f162_179, h162_181, hb180⟩ := (hJ98 162 (by decide) (by decide) : cp162 (wget w93 162))
  refine xoI (hJ98 163 (by decide) (by decide) : cpI 320 104 4294967295 (wget w93 163)) (fun g163_182 h163_183 hb184 => ?_)
  refine xg_cVv mX5_copy (vs := [(2, 24)]) (rest := []) (cn1 := 0) (sl1 := 0) rfl (rcopyX (lim := 64) (wd := 5) (B := 4294967295) (hF177.get (by decide) (hF163.get (by decide) (hF149.get (by decide) (hb136.get (by decide) (hF132.get (by decide) (hb119.get (by decide) (hb116.get (by decide) (hF112.get (by decide) h162_181)))))))) (hF177.get (by decide) (hF163.get (by decide) (hF149.get (by decide) (hb136.get (by decide) (hF132.get (by decide) (hb119.get (by decide) (hb116.get (by decide) (hF112.get (by decide) (hF96.get (by decide) (hb81.get (by decide) (hb78.get (by decide) (hb75.get (by decide) (hb71.get (by decide) h24_50))))))))))))) ((((((((h163_183.fr hF112 (by decide)).but hb116 (by decide)).but hb119 (by decide)).fr hF132 (by decide)).but hb136 (by decide)).fr hF149 (by decide)).fr hF163 (by decide)).fr hF177 (by decide)) (((((((((((((h25_67.but hb71 (by decide)).but hb75 (by decide)).but hb78 (by decide)).but hb81 (by decide)).fr hF96 (by decide)).fr hF112 (by decide)).but hb116 (by decide)).but hb119 (by decide)).fr hF132 (by decide)).but hb136 (by decide)).fr hF149 (by decide)).fr hF163 (by decide)).fr hF177 (by decide)) (hb184) (hb68) (by decide) (by omega) (by decide) (by decide) (by decide) (by decide) (by decide) (by decide)) rfl (hF177.get (by decide) (hF163.get (by decide) (hF149.get (by decide) (hb136.get (by decide) (hF132.get (by decide) (hb119.get (by decide) (hb116.get (by decide) (hF112.get (by decide) h162_181)))))))) rfl rfl rfl rfl rfl rfl (fun w185 hq186 => ?_)
  obtain ⟨hk187, g188, hr189, hb190, hx192, hF191⟩ := hq186
  have hq194 : fld w 14 3 = f14_33 := fld_of h14_35
  have hq193 : rwE w185 152 w 14 5 := ⟨((show fld w185 152 3 = f14_33 from fld_of (hF191.get (by decide) (hF177.get (by decide) (hF163.get (by decide) (hF149.get (by decide) (hb136.get (by decide) (hF132.get (by decide) (hb119.get (by decide) (hb116.get (by decide) hk108))))))))).trans (show fld w 14 3 = f14_33 from fld_of h14_35).symm), fun j hj => by
    rw [hq194] at hj
    exact (rwv_of ((((((((hr110.but hb116 (by decide)).but hb119 (by decide)).fr hF132 (by decide)).but hb136 (by decide)).fr hF149 (by decide)).fr hF163 (by decide)).fr hF177 (by decide)).fr hF191 (by decide)) (by omega)).trans ((hx113 j hj).trans (rwv_of h15_52 (by omega)).symm)⟩
  have hq196 : fld w 16 3 = f16_36 := fld_of h16_38
  have hq195 : rwE w185 154 w 16 5 := ⟨((show fld w185 154 3 = f16_36 from fld_of (hF191.get (by decide) (hF177.get (by decide) (hF163.get (by decide) (hF149.get (by decide) (hb136.get (by decide) hk128)))))).trans (show fld w 16 3 = f16_36 from fld_of h16_38).symm), fun j hj => by
    rw [hq196] at hj
    exact (rwv_of (((((hr130.but hb136 (by decide)).fr hF149 (by decide)).fr hF163 (by decide)).fr hF177 (by decide)).fr hF191 (by decide)) (by omega)).trans ((hx133 j hj).trans (rwv_of h17_55 (by omega)).symm)⟩
  have hq198 : fld w 18 3 = f18_39 := fld_of h18_41
  have hq197 : rwE w185 156 w 18 3 := ⟨((show fld w185 156 3 = f18_39 from fld_of (hF191.get (by decide) (hF177.get (by decide) (hF163.get (by decide) hk145)))).trans (show fld w 18 3 = f18_39 from fld_of h18_41).symm), fun j hj => by
    rw [hq198] at hj
    exact (rwv_of (((hr147.fr hF163 (by decide)).fr hF177 (by decide)).fr hF191 (by decide)) (by omega)).trans ((hx150 j hj).trans (rwv_of h19_58 (by omega)).symm)⟩
  have hq200 : fld w 20 3 = f20_42 := fld_of h20_44
  have hq199 : rwE w185 158 w 20 4 := ⟨((show fld w185 158 3 = f20_42 from fld_of (hF191.get (by decide) (hF177.get (by decide) hk159))).trans (show fld w 20 3 = f20_42 from fld_of h20_44).symm), fun j hj => by
    rw [hq200] at hj
    exact (rwv_of ((hr161.fr hF177 (by decide)).fr hF191 (by decide)) (by omega)).trans ((hx164 j hj).trans (rwv_of h21_61 (by omega)).symm)⟩
  have hq202 : fld w 22 3 = f22_45 := fld_of h22_47
  have hq201 : rwE w185 160 w 22 2 := ⟨((show fld w185 160 3 = f22_45 from fld_of (hF191.get (by decide) hk173)).trans (show fld w 22 3 = f22_45 from fld_of h22_47).symm), fun j hj => by
    rw [hq202] at hj
    exact (rwv_of (hr175.fr hF191 (by decide)) (by omega)).trans ((hx178 j hj).trans (rwv_of h23_64 (by omega)).symm)⟩
  have hq204 : fld w 24 3 = f24_48 := fld_of h24_50
  have hq203 : rwE w185 162 w 24 5 := ⟨((show fld w185 162 3 = f24_48 from fld_of hk187).trans (show fld w 24 3 = f24_48 from fld_of h24_50).symm), fun j hj => by
    rw [hq204] at hj
    exact (rwv_of hr189 (by omega)).trans ((hx192 j hj).trans (rwv_of h25_67 (by omega)).symm)⟩
  have hq205 : fmE w185 141 w 3 := hE99.tr (((((((((hF112.up (T := [152, 153, 139, 154, 155, 156, 157, 158, 159, 160, 161, 162, 163]) (by decide)).tr (xFr.of (S := [152, 153, 139, 154, 155, 156, 157, 158, 159, 160, 161, 162, 163]) hb116 (by decide))).tr (xFr.of (S := [152, 153, 139, 154, 155, 156, 157, 158, 159, 160, 161, 162, 163]) hb119 (by decide))).tr (hF132.up (T := [152, 153, 139, 154, 155, 156, 157, 158, 159, 160, 161, 162, 163]) (by decide))).tr (xFr.of (S := [152, 153, 139, 154, 155, 156, 157, 158, 159, 160, 161, 162, 163]) hb136 (by decide))).tr (hF149.up (T := [152, 153, 139, 154, 155, 156, 157, 158, 159, 160, 161, 162, 163]) (by decide))).tr (hF163.up (T := [152, 153, 139, 154, 155, 156, 157, 158, 159, 160, 161, 162, 163]) (by decide))).tr (hF177.up (T := [152, 153, 139, 154, 155, 156, 157, 158, 159, 160, 161, 162, 163]) (by decide))).tr (hF191.up (T := [152, 153, 139, 154, 155, 156, 157, 158, 159, 160, 161, 162, 163]) (by decide))) (by decide) ((((xFr.of (S := [139, 140, 141, 142, 143, 144, 145, 146, 147, 148, 149, 150, 151, 152, 153, 154, 155, 156, 157, 158, 159, 160, 161, 162, 163]) hb71 (by decide)).tr (xFr.of (S := [139, 140, 141, 142, 143, 144, 145, 146, 147, 148, 149, 150, 151, 152, 153, 154, 155, 156, 157, 158, 159, 160, 161, 162, 163]) hb75 (by decide))).tr (xFr.of (S := [139, 140, 141, 142, 143, 144, 145, 146, 147, 148, 149, 150, 151, 152, 153, 154, 155, 156, 157, 158, 159, 160, 161, 162, 163]) hb78 (by decide))).tr (xFr.of (S := [139, 140, 141, 142, 143, 144, 145, 146, 147, 148, 149, 150, 151, 152, 153, 154, 155, 156, 157, 158, 159, 160, 161, 162, 163]) hb81 (by decide))) (by decide)
  have hq206 : ∀ j, j < 500 → rwv w185 140 j = rwv w 2 j := fun j hj => (rwk_of (((((((((((((hr70.but hb75 (by decide)).but hb78 (by decide)).but hb81 (by decide)).fr hF96 (by decide)).fr hF112 (by decide)).but hb116 (by decide)).but hb119 (by decide)).fr hF132 (by decide)).but hb136 (by decide)).fr hF149 (by decide)).fr hF163 (by decide)).fr hF177 (by decide)).fr hF191 (by decide)) hj).trans ((if_pos hj).trans (rwk_of h2_28 hj).symm)
  exact xg_e ⟨w185, ⟨rfl, rfl⟩, xInv.up (S := [152, 153, 139, 154, 155, 156, 157, 158, 159, 160, 161, 162, 163]) hI95 (((((((((hF112.up (T := [152, 153, 139, 154, 155, 156, 157, 158, 159, 160, 161, 162, 163]) (by decide)).tr (xFr.of (S := [152, 153, 139, 154, 155, 156, 157, 158, 159, 160, 161, 162, 163]) hb116 (by decide))).tr (xFr.of (S := [152, 153, 139, 154, 155, 156, 157, 158, 159, 160, 161, 162, 163]) hb119 (by decide))).tr (hF132.up (T := [152, 153, 139, 154, 155, 156, 157, 158, 159, 160, 161, 162, 163]) (by decide))).tr (xFr.of (S := [152, 153, 139, 154, 155, 156, 157, 158, 159, 160, 161, 162, 163]) hb136 (by decide))).tr (hF149.up (T := [152, 153, 139, 154, 155, 156, 157, 158, 159, 160, 161, 162, 163]) (by decide))).tr (hF163.up (T := [152, 153, 139, 154, 155, 156, 157, 158, 159, 160, 161, 162, 163]) (by decide))).tr (hF177.up (T := [152, 153, 139, 154, 155, 156, 157, 158, 159, 160, 161, 162, 163]) (by decide))).tr (hF191.up (T := [152, 153, 139, 154, 155, 156, 157, 158, 159, 160, 161, 162, 163]) (by decide))) (List.forall_mem_cons.mpr ⟨(show True from trivial), List.forall_mem_cons.mpr ⟨(show True from trivial), List.forall_mem_cons.mpr ⟨(show True from trivial), List.forall_mem_cons.mpr ⟨(show True from trivial), List.forall_mem_cons.mpr ⟨(show True from trivial), List.forall_mem_cons.mpr ⟨(show True from trivial), List.forall_mem_cons.mpr ⟨(show True from trivial), List.forall_mem_cons.mpr ⟨(show True from trivial), List.forall_mem_cons.mpr ⟨(show True from trivial), List.forall_mem_cons.mpr ⟨(show True from trivial), List.forall_mem_cons.mpr ⟨(show True from trivial), List.forall_mem_cons.mpr ⟨(show True from trivial), List.forall_mem_cons.mpr ⟨(show True from trivial), fun _ h => absurd h List.not_mem_nil⟩⟩⟩⟩⟩⟩⟩⟩⟩⟩⟩⟩⟩), ((((((xFr.of (S := [139, 140, 141, 142, 143, 144, 145, 146, 147, 148, 149, 150, 151, 152, 153, 154, 155, 156, 157, 158, 159, 160, 161, 162, 163]) hb71 (by decide)).tr (xFr.of (S := [139, 140, 141, 142, 143, 144, 145, 146, 147, 148, 149, 150, 151, 152, 153, 154, 155, 156, 157, 158, 159, 160, 161, 162, 163]) hb75 (by decide))).tr (xFr.of (S := [139, 140, 141, 142, 143, 144, 145, 146, 147, 148, 149, 150, 151, 152, 153, 154, 155, 156, 157, 158, 159, 160, 161, 162, 163]) hb78 (by decide))).tr (xFr.of (S := [139, 140, 141, 142, 143, 144, 145, 146, 147, 148, 149, 150, 151, 152, 153, 154, 155, 156, 157, 158, 159, 160, 161, 162, 163]) hb81 (by decide))).tr (hF96.up (by decide))).tr (((((((((hF112.up (T := [139, 140, 141, 142, 143, 144, 145, 146, 147, 148, 149, 150, 151, 152, 153, 154, 155, 156, 157, 158, 159, 160, 161, 162, 163]) (by decide)).tr (xFr.of (S := [139, 140, 141, 142, 143, 144, 145, 146, 147, 148, 149, 150, 151, 152, 153, 154, 155, 156, 157, 158, 159, 160, 161, 162, 163]) hb116 (by decide))).tr (xFr.of (S := [139, 140, 141, 142, 143, 144, 145, 146, 147, 148, 149, 150, 151, 152, 153, 154, 155, 156, 157, 158, 159, 160, 161, 162, 163]) hb119 (by decide))).tr (hF132.up (T := [139, 140, 141, 142, 143, 144, 145, 146, 147, 148, 149, 150, 151, 152, 153, 154, 155, 156, 157, 158, 159, 160, 161, 162, 163]) (by decide))).tr (xFr.of (S := [139, 140, 141, 142, 143, 144, 145, 146, 147, 148, 149, 150, 151, 152, 153, 154, 155, 156, 157, 158, 159, 160, 161, 162, 163]) hb136 (by decide))).tr (hF149.up (T := [139, 140, 141, 142, 143, 144, 145, 146, 147, 148, 149, 150, 151, 152, 153, 154, 155, 156, 157, 158, 159, 160, 161, 162, 163]) (by decide))).tr (hF163.up (T := [139, 140, 141, 142, 143, 144, 145, 146, 147, 148, 149, 150, 151, 152, 153, 154, 155, 156, 157, 158, 159, 160, 161, 162, 163]) (by decide))).tr (hF177.up (T := [139, 140, 141, 142, 143, 144, 145, 146, 147, 148, 149, 150, 151, 152, 153, 154, 155, 156, 157, 158, 159, 160, 161, 162, 163]) (by decide))).tr (hF191.up (T := [139, 140, 141, 142, 143, 144, 145, 146, 147, 148, 149, 150, 151, 152, 153, 154, 155, 156, 157, 158, 159, 160, 161, 162, 163]) (by decide)))), ⟨xIm.up (S := [152, 153, 139, 154, 155, 156, 157, 158, 159, 160, 161, 162, 163]) hJ98 (((((((((hF112.up (T := [152, 153, 139, 154, 155, 156, 157, 158, 159, 160, 161, 162, 163]) (by decide)).tr (xFr.of (S := [152, 153, 139, 154, 155, 156, 157, 158, 159, 160, 161, 162, 163]) hb116 (by decide))).tr (xFr.of (S := [152, 153, 139, 154, 155, 156, 157, 158, 159, 160, 161, 162, 163]) hb119 (by decide))).tr (hF132.up (T := [152, 153, 139, 154, 155, 156, 157, 158, 159, 160, 161, 162, 163]) (by decide))).tr (xFr.of (S := [152, 153, 139, 154, 155, 156, 157, 158, 159, 160, 161, 162, 163]) hb136 (by decide))).tr (hF149.up (T := [152, 153, 139, 154, 155, 156, 157, 158, 159, 160, 161, 162, 163]) (by decide))).tr (hF163.up (T := [152, 153, 139, 154, 155, 156, 157, 158, 159, 160, 161, 162, 163]) (by decide))).tr (hF177.up (T := [152, 153, 139, 154, 155, 156, 157, 158, 159, 160, 161, 162, 163]) (by decide))).tr (hF191.up (T := [152, 153, 139, 154, 155, 156, 157, 158, 159, 160, 161, 162, 163]) (by decide))) (List.forall_mem_cons.mpr ⟨(fun _ => show cp152 (wget w185 152) from ⟨f14_33, (hF191.get (by decide) (hF177.get (by decide) (hF163.get (by decide) (hF149.get (by decide) (hb136.get (by decide) (hF132.get (by decide) (hb119.get (by decide) (hb116.get (by decide) hk108)))))))), by omega⟩), List.forall_mem_cons.mpr ⟨(fun _ => show cpI 200 99 4294967295 (wget w185 153) from ⟨_, ((((((((hr110.but hb116 (by decide)).but hb119 (by decide)).fr hF132 (by decide)).but hb136 (by decide)).fr hF149 (by decide)).fr hF163 (by decide)).fr hF177 (by decide)).fr hF191 (by decide)), hb111⟩), List.forall_mem_cons.mpr ⟨(fun _ => show cp139 (wget w185 139) from ⟨f1_1, f1_3, f1_5, f1_7, f1_9, f1_11, (hF191.get (by decide) (hF177.get (by decide) (hF163.get (by decide) (hF149.get (by decide) hk135)))), by omega, by omega, by omega, by omega, by omega, by omega⟩), List.forall_mem_cons.mpr ⟨(fun _ => show cp154 (wget w185 154) from ⟨f16_36, (hF191.get (by decide) (hF177.get (by decide) (hF163.get (by decide) (hF149.get (by decide) (hb136.get (by decide) hk128))))), by omega⟩), List.forall_mem_cons.mpr ⟨(fun _ => show cpI 60 100 4294967295 (wget w185 155) from ⟨_, (((((hr130.but hb136 (by decide)).fr hF149 (by decide)).fr hF163 (by decide)).fr hF177 (by decide)).fr hF191 (by decide)), hb131⟩), List.forall_mem_cons.mpr ⟨(fun _ => show cp156 (wget w185 156) from ⟨f18_39, (hF191.get (by decide) (hF177.get (by decide) (hF163.get (by decide) hk145))), by omega⟩), List.forall_mem_cons.mpr ⟨(fun _ => show cpI 12 101 4294967295 (wget w185 157) from ⟨_, (((hr147.fr hF163 (by decide)).fr hF177 (by decide)).fr hF191 (by decide)), hb148⟩), List.forall_mem_cons.mpr ⟨(fun _ => show cp158 (wget w185 158) from ⟨f20_42, (hF191.get (by decide) (hF177.get (by decide) hk159)), by omega⟩), List.forall_mem_cons.mpr ⟨(fun _ => show cpI 48 102 4294967295 (wget w185 159) from ⟨_, ((hr161.fr hF177 (by decide)).fr hF191 (by decide)), hb162⟩), List.forall_mem_cons.mpr ⟨(fun _ => show cp160 (wget w185 160) from ⟨f22_45, (hF191.get (by decide) hk173), by omega⟩), List.forall_mem_cons.mpr ⟨(fun _ => show cpI 32 103 4294967295 (wget w185 161) from ⟨_, (hr175.fr hF191 (by decide)), hb176⟩), List.forall_mem_cons.mpr ⟨(fun _ => show cp162 (wget w185 162) from ⟨f24_48, hk187, by omega⟩), List.forall_mem_cons.mpr ⟨(fun _ => show cpI 320 104 4294967295 (wget w185 163) from ⟨_, hr189, hb190⟩), fun _ h => absurd h List.not_mem_nil⟩⟩⟩⟩⟩⟩⟩⟩⟩⟩⟩⟩⟩), ⟨((show fld w185 139 1 = f1_1 from fld_of (hF191.get (by decide) (hF177.get (by decide) (hF163.get (by decide) (hF149.get (by decide) hk135))))).trans (show fld w 1 1 = f1_1 from fld_of h1_13).symm), ((show fld w185 139 2 = f1_3 from fld_of (hF191.get (by decide) (hF177.get (by decide) (hF163.get (by decide) (hF149.get (by decide) hk135))))).trans (show fld w 1 2 = f1_3 from fld_of h1_13).symm), ((show fld w185 139 3 = f1_5 from fld_of (hF191.get (by decide) (hF177.get (by decide) (hF163.get (by decide) (hF149.get (by decide) hk135))))).trans (show fld w 1 3 = f1_5 from fld_of h1_13).symm), ((show fld w185 139 6 = f1_7 from fld_of (hF191.get (by decide) (hF177.get (by decide) (hF163.get (by decide) (hF149.get (by decide) hk135))))).trans (show fld w 1 6 = f1_7 from fld_of h1_13).symm), ((show fld w185 139 7 = f1_9 from fld_of (hF191.get (by decide) (hF177.get (by decide) (hF163.get (by decide) (hF149.get (by decide) hk135))))).trans (show fld w 1 7 = f1_9 from fld_of h1_13).symm), ((show fld w185 139 9 = f1_11 from fld_of (hF191.get (by decide) (hF177.get (by decide) (hF163.get (by decide) (hF149.get (by decide) hk135))))).trans (show fld w 1 9 = f1_11 from fld_of h1_13).symm)⟩, hq206, hq205, hq193, hq195, hq197, hq199, hq201, hq203⟩⟩
set_option maxRecDepth 100000 in
theorem imToldE10 (hI : xInv w) (hJ : xIm 139 164 w) : xPq (d + 3) mX9_copy [(2, 1), (2, 139)] w bd fc rr [] (fun w' => xInv w' ∧ xFr [1, 2, 3, 4, 5, 6, 7, 8, 9, 10, 11, 12, 13, 14, 15, 16, 17, 18, 19, 20, 21, 22, 23, 24, 25] w w' ∧ (xIm 139 164 w' ∧ tdE w' 1 w 139)) := by
  refine xPq.of ?_
  show xTo (d + 3) mX9_copy (0, [], [(0, (2, 1)), (1, (2, 139))], [], (w, bd, fc, 0, 0, rr)) (fun φ => ∃ w', xEnd 0 [] (w', bd, fc, 0, 0, rr) φ ∧ xInv w' ∧ xFr [1, 2, 3, 4, 5, 6, 7, 8, 9, 10, 11, 12, 13, 14, 15, 16, 17, 18, 19, 20, 21, 22, 23, 24, 25] w w' ∧ (xIm 139 164 w' ∧ tdE w' 1 w 139))
  refine xoC1 (xqc1 hI : cp1 (wget w 1)) (fun f1_1 f1_3 f1_5 f1_7 f1_9 f1_11 h1_13 hb2 hb4 hb6 hb8 hb10 hb12 => ?_)
  obtain ⟨f139_14, f139_16, f139_18, f139_20, f139_22, f139_24, h139_26, hb15, hb17, hb19, hb21, hb23, hb25⟩ := (hJ 139 (by decide) (by decide) : cp139 (wget w 139))
  obtain ⟨g2_27, h2_28, hb29⟩ := (xqc2 hI : cpY 500 0 (wget w 2))
  have h2_28 : xRk 1 0 w 2 500 0 g2_27 := h2_28
  obtain ⟨g140_30, h140_31, hb32⟩ := (hJ 140 (by decide) (by decide) : cpY 500 93 (wget w 140))
  have h140_31 : xRk 1 0 w 140 500 93 g140_30 := h140_31
  obtain ⟨f152_33, h152_35, hb34⟩ := (hJ 152 (by decide) (by decide) : cp152 (wget w 152))
  obtain ⟨f154_36, h154_38, hb37⟩ := (hJ 154 (by decide) (by decide) : cp154 (wget w 154))
  obtain ⟨f156_39, h156_41, hb40⟩ := (hJ 156 (by decide) (by decide) : cp156 (wget w 156))
  obtain ⟨f158_42, h158_44, hb43⟩ := (hJ 158 (by decide) (by decide) : cp158 (wget w 158))
  obtain ⟨f160_45, h160_47, hb46⟩ := (hJ 160 (by decide) (by decide) : cp160 (wget w 160))
  obtain ⟨f162_48, h162_50, hb49⟩ := (hJ 162 (by decide) (by decide) : cp162 (wget w 162))
  refine xoI (hJ 153 (by decide) (by decide) : cpI 200 99 4294967295 (wget w 153)) (fun g153_51 h153_52 hb53 => ?_)
  refine xoI (hJ 155 (by decide) (by decide) : cpI 60 100 4294967295 (wget w 155)) (fun g155_54 h155_55 hb56 => ?_)
  refine xoI (hJ 157 (by decide) (by decide) : cpI 12 101 4294967295 (wget w 157)) (fun g157_57 h157_58 hb59 => ?_)
  refine xoI (hJ 159 (by decide) (by decide) : cpI 48 102 4294967295 (wget w 159)) (fun g159_60 h159_61 hb62 => ?_)
  refine xoI (hJ 161 (by decide) (by decide) : cpI 32 103 4294967295 (wget w 161)) (fun g161_63 h161_64 hb65 => ?_)
  refine xoI (hJ 163 (by decide) (by decide) : cpI 320 104 4294967295 (wget w 163)) (fun g163_66 h163_67 hb68 => ?_)
  refine xg_t (xg_blq rfl) ?_
  refine xg_t (xg_aload (va := (2, 139)) rfl rfl) ?_
  refine xg_t (xg_getf (va := (2, 140)) h139_26 rfl) ?_
  refine xg_t (xg_const) ?_
  refine xg_t (xg_aload (va := (2, 1)) rfl rfl) ?_
  refine xg_t (xg_getf (va := (2, 2)) h1_13 rfl) ?_
  refine xg_t (xg_const) ?_
  refine xg_t (xg_sip) ?_
  refine xg_copyY (n := 500) h140_31 h2_28 (hb32) xnm0 (by omega) (by omega) (Nat.le_of_ble_eq_true rfl) (fun w69 hr70 hb71 => ?_)
  have rb72 : ∀ j, xby ((fun j => if j < 500 then g140_30 j else g2_27 j) j) := fun j => by
    show xby (if j < 500 then g140_30 j else g2_27 j)
    split
    · exact (hb32) j
    · exact (hb29) j
  refine xg_t (xg_aload (va := (2, 1)) rfl rfl) ?_
  refine xg_t (xg_aload (va := (2, 139)) rfl rfl) ?_
  refine xg_t (xg_getf (va := (0, f139_14)) (hb71.get (by decide) h139_26) rfl) ?_
  refine xg_putI (fl1 := [(2, 2), (0, f139_14), (0, f1_3), (0, f1_5), (2, 3), (2, 14), (0, f1_7), (0, f1_9), (2, 16), (0, f1_11), (2, 18), (2, 20), (2, 22), (2, 24)]) (hb71.get (by decide) h1_13) rfl rfl rfl (fun w73 hk74 hb75 => ?_)
  refine xg_t (xg_aload (va := (2, 1)) rfl rfl) ?_
  refine xg_t (xg_aload (va := (2, 139)) rfl rfl) ?_
  refine xg_t (xg_getf (va := (0, f139_16)) (hb75.get (by decide) (hb71.get (by decide) h139_26)) rfl) ?_
  refine xg_putI (fl1 := [(2, 2), (0, f139_14), (0, f139_16), (0, f1_5), (2, 3), (2, 14), (0, f1_7), (0, f1_9), (2, 16), (0, f1_11), (2, 18), (2, 20), (2, 22), (2, 24)]) hk74 rfl rfl rfl (fun w76 hk77 hb78 => ?_)
  refine xg_t (xg_aload (va := (2, 1)) rfl rfl) ?_
  refine xg_t (xg_aload (va := (2, 139)) rfl rfl) ?_
  refine xg_t (xg_getf (va := (0, f139_18)) (hb78.get (by decide) (hb75.get (by decide) (hb71.get (by decide) h139_26))) rfl) ?_
  refine xg_putI (fl1 := [(2, 2), (0, f139_14), (0, f139_16), (0, f139_18), (2, 3), (2, 14), (0, f1_7), (0, f1_9), (2, 16), (0, f1_11), (2, 18), (2, 20), (2, 22), (2, 24)]) hk77 rfl rfl rfl (fun w79 hk80 hb81 => ?_)
  refine xg_t (xg_aload (va := (2, 1)) rfl rfl) ?_
  refine xg_t (xg_getf (va := (2, 3)) hk80 rfl) ?_
  refine xg_t (xg_aload (va := (2, 139)) rfl rfl) ?_
  refine xg_t (xg_getf (va := (2, 141)) (hb81.get (by decide) (hb78.get (by decide) (hb75.get (by decide) (hb71.get (by decide) h139_26)))) rfl) ?_
  refine xoC3 (xqc3 hI : cp3 (wget w 3)) (fun f3_82 f3_84 f3_86 f3_88 f3_90 h3_92 hb83 hb85 hb87 hb89 hb91 => ?_)
  refine xg_cVv mX1_copy (vs := [(2, 141)]) (rest := []) (cn1 := 0) (sl1 := 0) rfl (imFilmE10 (xInv.up (S := [2, 1]) hI ((((xFr.of (S := [2, 1]) hb71 (by decide)).tr (xFr.of (S := [2, 1]) hb75 (by decide))).tr (xFr.of (S := [2, 1]) hb78 (by decide))).tr (xFr.of (S := [2, 1]) hb81 (by decide))) (List.forall_mem_cons.mpr ⟨xqu2 (show cpY 500 0 (wget w79 2) from ⟨_, (((hr70.but hb75 (by decide)).but hb78 (by decide)).but hb81 (by decide)), rb72⟩), List.forall_mem_cons.mpr ⟨xqu1 (show cp1 (wget w79 1) from xmC1 f139_14 f139_16 f139_18 f1_7 f1_9 f1_11 hk80 hb15 hb17 hb19 hb8 hb10 hb12), fun _ h => absurd h List.not_mem_nil⟩⟩)) (xIm.up (S := [2, 1]) hJ ((((xFr.of (S := [2, 1]) hb71 (by decide)).tr (xFr.of (S := [2, 1]) hb75 (by decide))).tr (xFr.of (S := [2, 1]) hb78 (by decide))).tr (xFr.of (S := [2, 1]) hb81 (by decide))) (List.forall_mem_cons.mpr ⟨(fun h => absurd h (by omega)), List.forall_mem_cons.mpr ⟨(fun h => absurd h (by omega)), fun _ h => absurd h List.not_mem_nil⟩⟩))) rfl (hb81.get (by decide) (hb78.get (by decide) (hb75.get (by decide) (hb71.get (by decide) h3_92)))) rfl rfl rfl rfl rfl rfl (fun w93 hq94 => ?_)
  obtain ⟨hI95, hF96, hx97⟩ := hq94
  obtain ⟨hJ98, hE99⟩ := hx97
  refine xg_t (xg_aload (va := (2, 1)) rfl rfl) ?_
  refine xg_t (xg_getf (va := (2, 14)) (hF96.get (by decide) hk80) rfl) ?_
  refine xg_t (xg_aload (va := (2, 139)) rfl rfl) ?_
  refine xg_t (xg_getf (va := (2, 152)) (hF96.get (by decide) (hb81.get (by decide) (hb78.get (by decide) (hb75.get (by decide) (hb71.get (by decide) h139_26))))) rfl) ?_
  obtain ⟨f14_100, h14_102, hb101⟩ := (xqc14 hI95 : cp14 (wget w93 14))
  refine xoI (xqc15 hI95 : cpI 200 6 4294967295 (wget w93 15)) (fun g15_103 h15_104 hb105 => ?_)
  refine xg_cVv mX5_copy (vs := [(2, 152)]) (rest := []) (cn1 := 0) (sl1 := 0) rfl (rcopyX (lim := 40) (wd := 5) (B := 4294967295) h14_102 (hF96.get (by decide) (hb81.get (by decide) (hb78.get (by decide) (hb75.get (by decide) (hb71.get (by decide) h152_35))))) h15_104 (((((h153_52.but hb71 (by decide)).but hb75 (by decide)).but hb78 (by decide)).but hb81 (by decide)).fr hF96 (by decide)) (hb105) (hb53) (by decide) (by omega) (by decide) (by decide) (by decide) (by decide) (by decide) (by decide)) rfl h14_102 rfl rfl rfl rfl rfl rfl (fun w106 hq107 => ?_)
  obtain ⟨hk108, g109, hr110, hb111, hx113, hF112⟩ := hq107
  refine xg_t (xg_aload (va := (2, 1)) rfl rfl) ?_
  refine xg_t (xg_aload (va := (2, 139)) rfl rfl) ?_
  refine xg_t (xg_getf (va := (0, f139_20)) (hF112.get (by decide) (hF96.get (by decide) (hb81.get (by decide) (hb78.get (by decide) (hb75.get (by decide) (hb71.get (by decide) h139_26)))))) rfl) ?_
  refine xg_putI (fl1 := [(2, 2), (0, f139_14), (0, f139_16), (0, f139_18), (2, 3), (2, 14), (0, f139_20), (0, f1_9), (2, 16), (0, f1_11), (2, 18), (2, 20), (2, 22), (2, 24)]) (hF112.get (by decide) (hF96.get (by decide) hk80)) rfl rfl rfl (fun w114 hk115 hb116 => ?_)
  refine xg_t (xg_aload (va := (2, 1)) rfl rfl) ?_
  refine xg_t (xg_aload (va := (2, 139)) rfl rfl) ?_
  refine xg_t (xg_getf (va := (0, f139_22)) (hb116.get (by decide) (hF112.get (by decide) (hF96.get (by decide) (hb81.get (by decide) (hb78.get (by decide) (hb75.get (by decide) (hb71.get (by decide) h139_26))))))) rfl) ?_
  refine xg_putI (fl1 := [(2, 2), (0, f139_14), (0, f139_16), (0, f139_18), (2, 3), (2, 14), (0, f139_20), (0, f139_22), (2, 16), (0, f1_11), (2, 18), (2, 20), (2, 22), (2, 24)]) hk115 rfl rfl rfl (fun w117 hk118 hb119 => ?_)
  refine xg_t (xg_aload (va := (2, 1)) rfl rfl) ?_
  refine xg_t (xg_getf (va := (2, 16)) hk118 rfl) ?_
  refine xg_t (xg_aload (va := (2, 139)) rfl rfl) ?_
  refine xg_t (xg_getf (va := (2, 154)) (hb119.get (by decide) (hb116.get (by decide) (hF112.get (by decide) (hF96.get (by decide) (hb81.get (by decide) (hb78.get (by decide) (hb75.get (by decide) (hb71.get (by decide) h139_26)))))))) rfl) ?_
  obtain ⟨f16_120, h16_122, hb121⟩ := (xqc16 hI95 : cp16 (wget w93 16))
  refine xoI (xqc17 hI95 : cpI 60 7 4294967295 (wget w93 17)) (fun g17_123 h17_124 hb125 => ?_)
  refine xg_cVv mX5_copy (vs := [(2, 154)]) (rest := []) (cn1 := 0) (sl1 := 0) rfl (rcopyX (lim := 12) (wd := 5) (B := 4294967295) (hb119.get (by decide) (hb116.get (by decide) (hF112.get (by decide) h16_122))) (hb119.get (by decide) (hb116.get (by decide) (hF112.get (by decide) (hF96.get (by decide) (hb81.get (by decide) (hb78.get (by decide) (hb75.get (by decide) (hb71.get (by decide) h154_38)))))))) (((h17_124.fr hF112 (by decide)).but hb116 (by decide)).but hb119 (by decide)) ((((((((h155_55.but hb71 (by decide)).but hb75 (by decide)).but hb78 (by decide)).but hb81 (by decide)).fr hF96 (by decide)).fr hF112 (by decide)).but hb116 (by decide)).but hb119 (by decide)) (hb125) (hb56) (by decide) (by omega) (by decide) (by decide) (by decide) (by decide) (by decide) (by decide)) rfl (hb119.get (by decide) (hb116.get (by decide) (hF112.get (by decide) h16_122))) rfl rfl rfl rfl rfl rfl (fun w126 hq127 => ?_)
  obtain ⟨hk128, g129, hr130, hb131, hx133, hF132⟩ := hq127
  refine xg_t (xg_aload (va := (2, 1)) rfl rfl) ?_
  refine xg_t (xg_aload (va := (2, 139)) rfl rfl) ?_
  refine xg_t (xg_getf (va := (0, f139_24)) (hF132.get (by decide) (hb119.get (by decide) (hb116.get (by decide) (hF112.get (by decide) (hF96.get (by decide) (hb81.get (by decide) (hb78.get (by decide) (hb75.get (by decide) (hb71.get (by decide) h139_26))))))))) rfl) ?_
  refine xg_putI (fl1 := [(2, 2), (0, f139_14), (0, f139_16), (0, f139_18), (2, 3), (2, 14), (0, f139_20), (0, f139_22), (2, 16), (0, f139_24), (2, 18), (2, 20), (2, 22), (2, 24)]) (hF132.get (by decide) hk118) rfl rfl rfl (fun w134 hk135 hb136 => ?_)
  refine xg_t (xg_aload (va := (2, 1)) rfl rfl) ?_
  refine xg_t (xg_getf (va := (2, 18)) hk135 rfl) ?_
  refine xg_t (xg_aload (va := (2, 139)) rfl rfl) ?_
  refine xg_t (xg_getf (va := (2, 156)) (hb136.get (by decide) (hF132.get (by decide) (hb119.get (by decide) (hb116.get (by decide) (hF112.get (by decide) (hF96.get (by decide) (hb81.get (by decide) (hb78.get (by decide) (hb75.get (by decide) (hb71.get (by decide) h139_26)))))))))) rfl) ?_
  obtain ⟨f18_137, h18_139, hb138⟩ := (xqc18 hI95 : cp18 (wget w93 18))
  refine xoI (xqc19 hI95 : cpI 12 8 4294967295 (wget w93 19)) (fun g19_140 h19_141 hb142 => ?_)
  refine xg_cVv mX5_copy (vs := [(2, 156)]) (rest := []) (cn1 := 0) (sl1 := 0) rfl (rcopyX (lim := 4) (wd := 3) (B := 4294967295) (hb136.get (by decide) (hF132.get (by decide) (hb119.get (by decide) (hb116.get (by decide) (hF112.get (by decide) h18_139))))) (hb136.get (by decide) (hF132.get (by decide) (hb119.get (by decide) (hb116.get (by decide) (hF112.get (by decide) (hF96.get (by decide) (hb81.get (by decide) (hb78.get (by decide) (hb75.get (by decide) (hb71.get (by decide) h156_41)))))))))) (((((h19_141.fr hF112 (by decide)).but hb116 (by decide)).but hb119 (by decide)).fr hF132 (by decide)).but hb136 (by decide)) ((((((((((h157_58.but hb71 (by decide)).but hb75 (by decide)).but hb78 (by decide)).but hb81 (by decide)).fr hF96 (by decide)).fr hF112 (by decide)).but hb116 (by decide)).but hb119 (by decide)).fr hF132 (by decide)).but hb136 (by decide)) (hb142) (hb59) (by decide) (by omega) (by decide) (by decide) (by decide) (by decide) (by decide) (by decide)) rfl (hb136.get (by decide) (hF132.get (by decide) (hb119.get (by decide) (hb116.get (by decide) (hF112.get (by decide) h18_139))))) rfl rfl rfl rfl rfl rfl (fun w143 hq144 => ?_)
  obtain ⟨hk145, g146, hr147, hb148, hx150, hF149⟩ := hq144
  refine xg_t (xg_aload (va := (2, 1)) rfl rfl) ?_
  refine xg_t (xg_getf (va := (2, 20)) (hF149.get (by decide) hk135) rfl) ?_
  refine xg_t (xg_aload (va := (2, 139)) rfl rfl) ?_
  refine xg_t (xg_getf (va := (2, 158)) (hF149.get (by decide) (hb136.get (by decide) (hF132.get (by decide) (hb119.get (by decide) (hb116.get (by decide) (hF112.get (by decide) (hF96.get (by decide) (hb81.get (by decide) (hb78.get (by decide) (hb75.get (by decide) (hb71.get (by decide) h139_26))))))))))) rfl) ?_
  obtain ⟨f20_151, h20_153, hb152⟩ := (xqc20 hI95 : cp20 (wget w93 20))
  refine xoI (xqc21 hI95 : cpI 48 9 4294967295 (wget w93 21)) (fun g21_154 h21_155 hb156 => ?_)
  refine xg_cVv mX5_copy (vs := [(2, 158)]) (rest := []) (cn1 := 0) (sl1 := 0) rfl (rcopyX (lim := 12) (wd := 4) (B := 4294967295) (hF149.get (by decide) (hb136.get (by decide) (hF132.get (by decide) (hb119.get (by decide) (hb116.get (by decide) (hF112.get (by decide) h20_153)))))) (hF149.get (by decide) (hb136.get (by decide) (hF132.get (by decide) (hb119.get (by decide) (hb116.get (by decide) (hF112.get (by decide) (hF96.get (by decide) (hb81.get (by decide) (hb78.get (by decide) (hb75.get (by decide) (hb71.get (by decide) h158_44))))))))))) ((((((h21_155.fr hF112 (by decide)).but hb116 (by decide)).but hb119 (by decide)).fr hF132 (by decide)).but hb136 (by decide)).fr hF149 (by decide)) (((((((((((h159_61.but hb71 (by decide)).but hb75 (by decide)).but hb78 (by decide)).but hb81 (by decide)).fr hF96 (by decide)).fr hF112 (by decide)).but hb116 (by decide)).but hb119 (by decide)).fr hF132 (by decide)).but hb136 (by decide)).fr hF149 (by decide)) (hb156) (hb62) (by decide) (by omega) (by decide) (by decide) (by decide) (by decide) (by decide) (by decide)) rfl (hF149.get (by decide) (hb136.get (by decide) (hF132.get (by decide) (hb119.get (by decide) (hb116.get (by decide) (hF112.get (by decide) h20_153)))))) rfl rfl rfl rfl rfl rfl (fun w157 hq158 => ?_)
  obtain ⟨hk159, g160, hr161, hb162, hx164, hF163⟩ := hq158
  refine xg_t (xg_aload (va := (2, 1)) rfl rfl) ?_
  refine xg_t (xg_getf (va := (2, 22)) (hF163.get (by decide) (hF149.get (by decide) hk135)) rfl) ?_
  refine xg_t (xg_aload (va := (2, 139)) rfl rfl) ?_
  refine xg_t (xg_getf (va := (2, 160)) (hF163.get (by decide) (hF149.get (by decide) (hb136.get (by decide) (hF132.get (by decide) (hb119.get (by decide) (hb116.get (by decide) (hF112.get (by decide) (hF96.get (by decide) (hb81.get (by decide) (hb78.get (by decide) (hb75.get (by decide) (hb71.get (by decide) h139_26)))))))))))) rfl) ?_
  obtain ⟨f22_165, h22_167, hb166⟩ := (xqc22 hI95 : cp22 (wget w93 22))
  refine xoI (xqc23 hI95 : cpI 32 10 4294967295 (wget w93 23)) (fun g23_168 h23_169 hb170 => ?_)
  refine xg_cVv mX5_copy (vs := [(2, 160)]) (rest := []) (cn1 := 0) (sl1 := 0) rfl (rcopyX (lim := 16) (wd := 2) (B := 4294967295) (hF163.get (by decide) (hF149.get (by decide) (hb136.get (by decide) (hF132.get (by decide) (hb119.get (by decide) (hb116.get (by decide) (hF112.get (by decide) h22_167))))))) (hF163.get (by decide) (hF149.get (by decide) (hb136.get (by decide) (hF132.get (by decide) (hb119.get (by decide) (hb116.get (by decide) (hF112.get (by decide) (hF96.get (by decide) (hb81.get (by decide) (hb78.get (by decide) (hb75.get (by decide) (hb71.get (by decide) h160_47)))))))))))) (((((((h23_169.fr hF112 (by decide)).but hb116 (by decide)).but hb119 (by decide)).fr hF132 (by decide)).but hb136 (by decide)).fr hF149 (by decide)).fr hF163 (by decide)) ((((((((((((h161_64.but hb71 (by decide)).but hb75 (by decide)).but hb78 (by decide)).but hb81 (by decide)).fr hF96 (by decide)).fr hF112 (by decide)).but hb116 (by decide)).but hb119 (by decide)).fr hF132 (by decide)).but hb136 (by decide)).fr hF149 (by decide)).fr hF163 (by decide)) (hb170) (hb65) (by decide) (by omega) (by decide) (by decide) (by decide) (by decide) (by decide) (by decide)) rfl (hF163.get (by decide) (hF149.get (by decide) (hb136.get (by decide) (hF132.get (by decide) (hb119.get (by decide) (hb116.get (by decide) (hF112.get (by decide) h22_167))))))) rfl rfl rfl rfl rfl rfl (fun w171 hq172 => ?_)
  obtain ⟨hk173, g174, hr175, hb176, hx178, hF177⟩ := hq172
  refine xg_t (xg_aload (va := (2, 1)) rfl rfl) ?_
  refine xg_t (xg_getf (va := (2, 24)) (hF177.get (by decide) (hF163.get (by decide) (hF149.get (by decide) hk135))) rfl) ?_
  refine xg_t (xg_aload (va := (2, 139)) rfl rfl) ?_
  refine xg_t (xg_getf (va := (2, 162)) (hF177.get (by decide) (hF163.get (by decide) (hF149.get (by decide) (hb136.get (by decide) (hF132.get (by decide) (hb119.get (by decide) (hb116.get (by decide) (hF112.get (by decide) (hF96.get (by decide) (hb81.get (by decide) (hb78.get (by decide) (hb75.get (by decide) (hb71.get (by decide) h139_26))))))))))))) rfl) ?_
  obtain ⟨f24_179, h24_181, hb180⟩ := (xqc24 hI95 : cp24 (wget w93 24))
  refine xoI (xqc25 hI95 : cpI 320 11 4294967295 (wget w93 25)) (fun g25_182 h25_183 hb184 => ?_)
  refine xg_cVv mX5_copy (vs := [(2, 162)]) (rest := []) (cn1 := 0) (sl1 := 0) rfl (rcopyX (lim := 64) (wd := 5) (B := 4294967295) (hF177.get (by decide) (hF163.get (by decide) (hF149.get (by decide) (hb136.get (by decide) (hF132.get (by decide) (hb119.get (by decide) (hb116.get (by decide) (hF112.get (by decide) h24_181)))))))) (hF177.get (by decide) (hF163.get (by decide) (hF149.get (by decide) (hb136.get (by decide) (hF132.get (by decide) (hb119.get (by decide) (hb116.get (by decide) (hF112.get (by decide) (hF96.get (by decide) (hb81.get (by decide) (hb78.get (by decide) (hb75.get (by decide) (hb71.get (by decide) h162_50))))))))))))) ((((((((h25_183.fr hF112 (by decide)).but hb116 (by decide)).but hb119 (by decide)).fr hF132 (by decide)).but hb136 (by decide)).fr hF149 (by decide)).fr hF163 (by decide)).fr hF177 (by decide)) (((((((((((((h163_67.but hb71 (by decide)).but hb75 (by decide)).but hb78 (by decide)).but hb81 (by decide)).fr hF96 (by decide)).fr hF112 (by decide)).but hb116 (by decide)).but hb119 (by decide)).fr hF132 (by decide)).but hb136 (by decide)).fr hF149 (by decide)).fr hF163 (by decide)).fr hF177 (by decide)) (hb184) (hb68) (by decide) (by omega) (by decide) (by decide) (by decide) (by decide) (by decide) (by decide)) rfl (hF177.get (by decide) (hF163.get (by decide) (hF149.get (by decide) (hb136.get (by decide) (hF132.get (by decide) (hb119.get (by decide) (hb116.get (by decide) (hF112.get (by decide) h24_181)))))))) rfl rfl rfl rfl rfl rfl (fun w185 hq186 => ?_)
  obtain ⟨hk187, g188, hr189, hb190, hx192, hF191⟩ := hq186
  have hq194 : fld w 152 3 = f152_33 := fld_of h152_35
  have hq193 : rwE w185 14 w 152 5 := ⟨((show fld w185 14 3 = f152_33 from fld_of (hF191.get (by decide) (hF177.get (by decide) (hF163.get (by decide) (hF149.get (by decide) (hb136.get (by decide) (hF132.get (by decide) (hb119.get (by decide) (hb116.get (by decide) hk108))))))))).trans (show fld w 152 3 = f152_33 from fld_of h152_35).symm), fun j hj => by
    rw [hq194] at hj
    exact (rwv_of ((((((((hr110.but hb116 (by decide)).but hb119 (by decide)).fr hF132 (by decide)).but hb136 (by decide)).fr hF149 (by decide)).fr hF163 (by decide)).fr hF177 (by decide)).fr hF191 (by decide)) (by omega)).trans ((hx113 j hj).trans (rwv_of h153_52 (by omega)).symm)⟩
  have hq196 : fld w 154 3 = f154_36 := fld_of h154_38
  have hq195 : rwE w185 16 w 154 5 := ⟨((show fld w185 16 3 = f154_36 from fld_of (hF191.get (by decide) (hF177.get (by decide) (hF163.get (by decide) (hF149.get (by decide) (hb136.get (by decide) hk128)))))).trans (show fld w 154 3 = f154_36 from fld_of h154_38).symm), fun j hj => by
    rw [hq196] at hj
    exact (rwv_of (((((hr130.but hb136 (by decide)).fr hF149 (by decide)).fr hF163 (by decide)).fr hF177 (by decide)).fr hF191 (by decide)) (by omega)).trans ((hx133 j hj).trans (rwv_of h155_55 (by omega)).symm)⟩
  have hq198 : fld w 156 3 = f156_39 := fld_of h156_41
  have hq197 : rwE w185 18 w 156 3 := ⟨((show fld w185 18 3 = f156_39 from fld_of (hF191.get (by decide) (hF177.get (by decide) (hF163.get (by decide) hk145)))).trans (show fld w 156 3 = f156_39 from fld_of h156_41).symm), fun j hj => by
    rw [hq198] at hj
    exact (rwv_of (((hr147.fr hF163 (by decide)).fr hF177 (by decide)).fr hF191 (by decide)) (by omega)).trans ((hx150 j hj).trans (rwv_of h157_58 (by omega)).symm)⟩
  have hq200 : fld w 158 3 = f158_42 := fld_of h158_44
  have hq199 : rwE w185 20 w 158 4 := ⟨((show fld w185 20 3 = f158_42 from fld_of (hF191.get (by decide) (hF177.get (by decide) hk159))).trans (show fld w 158 3 = f158_42 from fld_of h158_44).symm), fun j hj => by
    rw [hq200] at hj
    exact (rwv_of ((hr161.fr hF177 (by decide)).fr hF191 (by decide)) (by omega)).trans ((hx164 j hj).trans (rwv_of h159_61 (by omega)).symm)⟩
  have hq202 : fld w 160 3 = f160_45 := fld_of h160_47
  have hq201 : rwE w185 22 w 160 2 := ⟨((show fld w185 22 3 = f160_45 from fld_of (hF191.get (by decide) hk173)).trans (show fld w 160 3 = f160_45 from fld_of h160_47).symm), fun j hj => by
    rw [hq202] at hj
    exact (rwv_of (hr175.fr hF191 (by decide)) (by omega)).trans ((hx178 j hj).trans (rwv_of h161_64 (by omega)).symm)⟩
  have hq204 : fld w 162 3 = f162_48 := fld_of h162_50
  have hq203 : rwE w185 24 w 162 5 := ⟨((show fld w185 24 3 = f162_48 from fld_of hk187).trans (show fld w 162 3 = f162_48 from fld_of h162_50).symm), fun j hj => by
    rw [hq204] at hj
    exact (rwv_of hr189 (by omega)).trans ((hx192 j hj).trans (rwv_of h163_67 (by omega)).symm)⟩
  have hq205 : fmE w185 3 w 141 := hE99.tr (((((((((hF112.up (T := [14, 15, 1, 16, 17, 18, 19, 20, 21, 22, 23, 24, 25]) (by decide)).tr (xFr.of (S := [14, 15, 1, 16, 17, 18, 19, 20, 21, 22, 23, 24, 25]) hb116 (by decide))).tr (xFr.of (S := [14, 15, 1, 16, 17, 18, 19, 20, 21, 22, 23, 24, 25]) hb119 (by decide))).tr (hF132.up (T := [14, 15, 1, 16, 17, 18, 19, 20, 21, 22, 23, 24, 25]) (by decide))).tr (xFr.of (S := [14, 15, 1, 16, 17, 18, 19, 20, 21, 22, 23, 24, 25]) hb136 (by decide))).tr (hF149.up (T := [14, 15, 1, 16, 17, 18, 19, 20, 21, 22, 23, 24, 25]) (by decide))).tr (hF163.up (T := [14, 15, 1, 16, 17, 18, 19, 20, 21, 22, 23, 24, 25]) (by decide))).tr (hF177.up (T := [14, 15, 1, 16, 17, 18, 19, 20, 21, 22, 23, 24, 25]) (by decide))).tr (hF191.up (T := [14, 15, 1, 16, 17, 18, 19, 20, 21, 22, 23, 24, 25]) (by decide))) (by decide) ((((xFr.of (S := [1, 2, 3, 4, 5, 6, 7, 8, 9, 10, 11, 12, 13, 14, 15, 16, 17, 18, 19, 20, 21, 22, 23, 24, 25]) hb71 (by decide)).tr (xFr.of (S := [1, 2, 3, 4, 5, 6, 7, 8, 9, 10, 11, 12, 13, 14, 15, 16, 17, 18, 19, 20, 21, 22, 23, 24, 25]) hb75 (by decide))).tr (xFr.of (S := [1, 2, 3, 4, 5, 6, 7, 8, 9, 10, 11, 12, 13, 14, 15, 16, 17, 18, 19, 20, 21, 22, 23, 24, 25]) hb78 (by decide))).tr (xFr.of (S := [1, 2, 3, 4, 5, 6, 7, 8, 9, 10, 11, 12, 13, 14, 15, 16, 17, 18, 19, 20, 21, 22, 23, 24, 25]) hb81 (by decide))) (by decide)
  have hq206 : ∀ j, j < 500 → rwv w185 2 j = rwv w 140 j := fun j hj => (rwk_of (((((((((((((hr70.but hb75 (by decide)).but hb78 (by decide)).but hb81 (by decide)).fr hF96 (by decide)).fr hF112 (by decide)).but hb116 (by decide)).but hb119 (by decide)).fr hF132 (by decide)).but hb136 (by decide)).fr hF149 (by decide)).fr hF163 (by decide)).fr hF177 (by decide)).fr hF191 (by decide)) hj).trans ((if_pos hj).trans (rwk_of h140_31 hj).symm)
  exact xg_e ⟨w185, ⟨rfl, rfl⟩, xInv.up (S := [14, 15, 1, 16, 17, 18, 19, 20, 21, 22, 23, 24, 25]) hI95 (((((((((hF112.up (T := [14, 15, 1, 16, 17, 18, 19, 20, 21, 22, 23, 24, 25]) (by decide)).tr (xFr.of (S := [14, 15, 1, 16, 17, 18, 19, 20, 21, 22, 23, 24, 25]) hb116 (by decide))).tr (xFr.of (S := [14, 15, 1, 16, 17, 18, 19, 20, 21, 22, 23, 24, 25]) hb119 (by decide))).tr (hF132.up (T := [14, 15, 1, 16, 17, 18, 19, 20, 21, 22, 23, 24, 25]) (by decide))).tr (xFr.of (S := [14, 15, 1, 16, 17, 18, 19, 20, 21, 22, 23, 24, 25]) hb136 (by decide))).tr (hF149.up (T := [14, 15, 1, 16, 17, 18, 19, 20, 21, 22, 23, 24, 25]) (by decide))).tr (hF163.up (T := [14, 15, 1, 16, 17, 18, 19, 20, 21, 22, 23, 24, 25]) (by decide))).tr (hF177.up (T := [14, 15, 1, 16, 17, 18, 19, 20, 21, 22, 23, 24, 25]) (by decide))).tr (hF191.up (T := [14, 15, 1, 16, 17, 18, 19, 20, 21, 22, 23, 24, 25]) (by decide))) (List.forall_mem_cons.mpr ⟨xqu14 (show cp14 (wget w185 14) from ⟨f152_33, (hF191.get (by decide) (hF177.get (by decide) (hF163.get (by decide) (hF149.get (by decide) (hb136.get (by decide) (hF132.get (by decide) (hb119.get (by decide) (hb116.get (by decide) hk108)))))))), hb34⟩), List.forall_mem_cons.mpr ⟨xqu15 (show cpI 200 6 4294967295 (wget w185 15) from ⟨_, ((((((((hr110.but hb116 (by decide)).but hb119 (by decide)).fr hF132 (by decide)).but hb136 (by decide)).fr hF149 (by decide)).fr hF163 (by decide)).fr hF177 (by decide)).fr hF191 (by decide)), hb111⟩), List.forall_mem_cons.mpr ⟨xqu1 (show cp1 (wget w185 1) from xmC1 f139_14 f139_16 f139_18 f139_20 f139_22 f139_24 (hF191.get (by decide) (hF177.get (by decide) (hF163.get (by decide) (hF149.get (by decide) hk135)))) hb15 hb17 hb19 hb21 hb23 hb25), List.forall_mem_cons.mpr ⟨xqu16 (show cp16 (wget w185 16) from ⟨f154_36, (hF191.get (by decide) (hF177.get (by decide) (hF163.get (by decide) (hF149.get (by decide) (hb136.get (by decide) hk128))))), hb37⟩), List.forall_mem_cons.mpr ⟨xqu17 (show cpI 60 7 4294967295 (wget w185 17) from ⟨_, (((((hr130.but hb136 (by decide)).fr hF149 (by decide)).fr hF163 (by decide)).fr hF177 (by decide)).fr hF191 (by decide)), hb131⟩), List.forall_mem_cons.mpr ⟨xqu18 (show cp18 (wget w185 18) from ⟨f156_39, (hF191.get (by decide) (hF177.get (by decide) (hF163.get (by decide) hk145))), hb40⟩), List.forall_mem_cons.mpr ⟨xqu19 (show cpI 12 8 4294967295 (wget w185 19) from ⟨_, (((hr147.fr hF163 (by decide)).fr hF177 (by decide)).fr hF191 (by decide)), hb148⟩), List.forall_mem_cons.mpr ⟨xqu20 (show cp20 (wget w185 20) from ⟨f158_42, (hF191.get (by decide) (hF177.get (by decide) hk159)), hb43⟩), List.forall_mem_cons.mpr ⟨xqu21 (show cpI 48 9 4294967295 (wget w185 21) from ⟨_, ((hr161.fr hF177 (by decide)).fr hF191 (by decide)), hb162⟩), List.forall_mem_cons.mpr ⟨xqu22 (show cp22 (wget w185 22) from ⟨f160_45, (hF191.get (by decide) hk173), hb46⟩), List.forall_mem_cons.mpr ⟨xqu23 (show cpI 32 10 4294967295 (wget w185 23) from ⟨_, (hr175.fr hF191 (by decide)), hb176⟩), List.forall_mem_cons.mpr ⟨xqu24 (show cp24 (wget w185 24) from ⟨f162_48, hk187, hb49⟩), List.forall_mem_cons.mpr ⟨xqu25 (show cpI 320 11 4294967295 (wget w185 25) from ⟨_, hr189, hb190⟩), fun _ h => absurd h List.not_mem_nil⟩⟩⟩⟩⟩⟩⟩⟩⟩⟩⟩⟩⟩), ((((((xFr.of (S := [1, 2, 3, 4, 5, 6, 7, 8, 9, 10, 11, 12, 13, 14, 15, 16, 17, 18, 19, 20, 21, 22, 23, 24, 25]) hb71 (by decide)).tr (xFr.of (S := [1, 2, 3, 4, 5, 6, 7, 8, 9, 10, 11, 12, 13, 14, 15, 16, 17, 18, 19, 20, 21, 22, 23, 24, 25]) hb75 (by decide))).tr (xFr.of (S := [1, 2, 3, 4, 5, 6, 7, 8, 9, 10, 11, 12, 13, 14, 15, 16, 17, 18, 19, 20, 21, 22, 23, 24, 25]) hb78 (by decide))).tr (xFr.of (S := [1, 2, 3, 4, 5, 6, 7, 8, 9, 10, 11, 12, 13, 14, 15, 16, 17, 18, 19, 20, 21, 22, 23, 24, 25]) hb81 (by decide))).tr (hF96.up (by decide))).tr (((((((((hF112.up (T := [1, 2, 3, 4, 5, 6, 7, 8, 9, 10, 11, 12, 13, 14, 15, 16, 17, 18, 19, 20, 21, 22, 23, 24, 25]) (by decide)).tr (xFr.of (S := [1, 2, 3, 4, 5, 6, 7, 8, 9, 10, 11, 12, 13, 14, 15, 16, 17, 18, 19, 20, 21, 22, 23, 24, 25]) hb116 (by decide))).tr (xFr.of (S := [1, 2, 3, 4, 5, 6, 7, 8, 9, 10, 11, 12, 13, 14, 15, 16, 17, 18, 19, 20, 21, 22, 23, 24, 25]) hb119 (by decide))).tr (hF132.up (T := [1, 2, 3, 4, 5, 6, 7, 8, 9, 10, 11, 12, 13, 14, 15, 16, 17, 18, 19, 20, 21, 22, 23, 24, 25]) (by decide))).tr (xFr.of (S := [1, 2, 3, 4, 5, 6, 7, 8, 9, 10, 11, 12, 13, 14, 15, 16, 17, 18, 19, 20, 21, 22, 23, 24, 25]) hb136 (by decide))).tr (hF149.up (T := [1, 2, 3, 4, 5, 6, 7, 8, 9, 10, 11, 12, 13, 14, 15, 16, 17, 18, 19, 20, 21, 22, 23, 24, 25]) (by decide))).tr (hF163.up (T := [1, 2, 3, 4, 5, 6, 7, 8, 9, 10, 11, 12, 13, 14, 15, 16, 17, 18, 19, 20, 21, 22, 23, 24, 25]) (by decide))).tr (hF177.up (T := [1, 2, 3, 4, 5, 6, 7, 8, 9, 10, 11, 12, 13, 14, 15, 16, 17, 18, 19, 20, 21, 22, 23, 24, 25]) (by decide))).tr (hF191.up (T := [1, 2, 3, 4, 5, 6, 7, 8, 9, 10, 11, 12, 13, 14, 15, 16, 17, 18, 19, 20, 21, 22, 23, 24, 25]) (by decide)))), ⟨xIm.up (S := [14, 15, 1, 16, 17, 18, 19, 20, 21, 22, 23, 24, 25]) hJ98 (((((((((hF112.up (T := [14, 15, 1, 16, 17, 18, 19, 20, 21, 22, 23, 24, 25]) (by decide)).tr (xFr.of (S := [14, 15, 1, 16, 17, 18, 19, 20, 21, 22, 23, 24, 25]) hb116 (by decide))).tr (xFr.of (S := [14, 15, 1, 16, 17, 18, 19, 20, 21, 22, 23, 24, 25]) hb119 (by decide))).tr (hF132.up (T := [14, 15, 1, 16, 17, 18, 19, 20, 21, 22, 23, 24, 25]) (by decide))).tr (xFr.of (S := [14, 15, 1, 16, 17, 18, 19, 20, 21, 22, 23, 24, 25]) hb136 (by decide))).tr (hF149.up (T := [14, 15, 1, 16, 17, 18, 19, 20, 21, 22, 23, 24, 25]) (by decide))).tr (hF163.up (T := [14, 15, 1, 16, 17, 18, 19, 20, 21, 22, 23, 24, 25]) (by decide))).tr (hF177.up (T := [14, 15, 1, 16, 17, 18, 19, 20, 21, 22, 23, 24, 25]) (by decide))).tr (hF191.up (T := [14, 15, 1, 16, 17, 18, 19, 20, 21, 22, 23, 24, 25]) (by decide))) (List.forall_mem_cons.mpr ⟨(fun h => absurd h (by omega)), List.forall_mem_cons.mpr ⟨(fun h => absurd h (by omega)), List.forall_mem_cons.mpr ⟨(fun h => absurd h (by omega)), List.forall_mem_cons.mpr ⟨(fun h => absurd h (by omega)), List.forall_mem_cons.mpr ⟨(fun h => absurd h (by omega)), List.forall_mem_cons.mpr ⟨(fun h => absurd h (by omega)), List.forall_mem_cons.mpr ⟨(fun h => absurd h (by omega)), List.forall_mem_cons.mpr ⟨(fun h => absurd h (by omega)), List.forall_mem_cons.mpr ⟨(fun h => absurd h (by omega)), List.forall_mem_cons.mpr ⟨(fun h => absurd h (by omega)), List.forall_mem_cons.mpr ⟨(fun h => absurd h (by omega)), List.forall_mem_cons.mpr ⟨(fun h => absurd h (by omega)), List.forall_mem_cons.mpr ⟨(fun h => absurd h (by omega)), fun _ h => absurd h List.not_mem_nil⟩⟩⟩⟩⟩⟩⟩⟩⟩⟩⟩⟩⟩), ⟨((show fld w185 1 1 = f139_14 from fld_of (hF191.get (by decide) (hF177.get (by decide) (hF163.get (by decide) (hF149.get (by decide) hk135))))).trans (show fld w 139 1 = f139_14 from fld_of h139_26).symm), ((show fld w185 1 2 = f139_16 from fld_of (hF191.get (by decide) (hF177.get (by decide) (hF163.get (by decide) (hF149.get (by decide) hk135))))).trans (show fld w 139 2 = f139_16 from fld_of h139_26).symm), ((show fld w185 1 3 = f139_18 from fld_of (hF191.get (by decide) (hF177.get (by decide) (hF163.get (by decide) (hF149.get (by decide) hk135))))).trans (show fld w 139 3 = f139_18 from fld_of h139_26).symm), ((show fld w185 1 6 = f139_20 from fld_of (hF191.get (by decide) (hF177.get (by decide) (hF163.get (by decide) (hF149.get (by decide) hk135))))).trans (show fld w 139 6 = f139_20 from fld_of h139_26).symm), ((show fld w185 1 7 = f139_22 from fld_of (hF191.get (by decide) (hF177.get (by decide) (hF163.get (by decide) (hF149.get (by decide) hk135))))).trans (show fld w 139 7 = f139_22 from fld_of h139_26).symm), ((show fld w185 1 9 = f139_24 from fld_of (hF191.get (by decide) (hF177.get (by decide) (hF163.get (by decide) (hF149.get (by decide) hk135))))).trans (show fld w 139 9 = f139_24 from fld_of h139_26).symm)⟩, hq206, hq205, hq193, hq195, hq197, hq199, hq201, hq203⟩⟩
set_option maxRecDepth 100000 in
theorem imToldE21 (hI : xInv w) (hJ : xIm 164 189 w) : xPq (d + 3) mX9_copy [(2, 164), (2, 1)] w bd fc rr [] (fun w' => xInv w' ∧ xFr [164, 165, 166, 167, 168, 169, 170, 171, 172, 173, 174, 175, 176, 177, 178, 179, 180, 181, 182, 183, 184, 185, 186, 187, 188] w w' ∧ (xIm 164 189 w' ∧ tdE w' 164 w 1)) := by
  refine xPq.of ?_
  show xTo (d + 3) mX9_copy (0, [], [(0, (2, 164)), (1, (2, 1))], [], (w, bd, fc, 0, 0, rr)) (fun φ => ∃ w', xEnd 0 [] (w', bd, fc, 0, 0, rr) φ ∧ xInv w' ∧ xFr [164, 165, 166, 167, 168, 169, 170, 171, 172, 173, 174, 175, 176, 177, 178, 179, 180, 181, 182, 183, 184, 185, 186, 187, 188] w w' ∧ (xIm 164 189 w' ∧ tdE w' 164 w 1))
  refine xoC1 (xqc1 hI : cp1 (wget w 1)) (fun f1_1 f1_3 f1_5 f1_7 f1_9 f1_11 h1_13 hb2 hb4 hb6 hb8 hb10 hb12 => ?_)
  obtain ⟨f164_14, f164_16, f164_18, f164_20, f164_22, f164_24, h164_26, hb15, hb17, hb19, hb21, hb23, hb25⟩ := (hJ 164 (by decide) (by decide) : cp164 (wget w 164))
  obtain ⟨g2_27, h2_28, hb29⟩ := (xqc2 hI : cpY 500 0 (wget w 2))
  have h2_28 : xRk 1 0 w 2 500 0 g2_27 := h2_28
  obtain ⟨g165_30, h165_31, hb32⟩ := (hJ 165 (by decide) (by decide) : cpY 500 105 (wget w 165))
  have h165_31 : xRk 1 0 w 165 500 105 g165_30 := h165_31
  obtain ⟨f14_33, h14_35, hb34⟩ := (xqc14 hI : cp14 (wget w 14))
  obtain ⟨f16_36, h16_38, hb37⟩ := (xqc16 hI : cp16 (wget w 16))
  obtain ⟨f18_39, h18_41, hb40⟩ := (xqc18 hI : cp18 (wget w 18))
  obtain ⟨f20_42, h20_44, hb43⟩ := (xqc20 hI : cp20 (wget w 20))
  obtain ⟨f22_45, h22_47, hb46⟩ := (xqc22 hI : cp22 (wget w 22))
  obtain ⟨f24_48, h24_50, hb49⟩ := (xqc24 hI : cp24 (wget w 24))
  refine xoI (xqc15 hI : cpI 200 6 4294967295 (wget w 15)) (fun g15_51 h15_52 hb53 => ?_)
  refine xoI (xqc17 hI : cpI 60 7 4294967295 (wget w 17)) (fun g17_54 h17_55 hb56 => ?_)
  refine xoI (xqc19 hI : cpI 12 8 4294967295 (wget w 19)) (fun g19_57 h19_58 hb59 => ?_)
  refine xoI (xqc21 hI : cpI 48 9 4294967295 (wget w 21)) (fun g21_60 h21_61 hb62 => ?_)
  refine xoI (xqc23 hI : cpI 32 10 4294967295 (wget w 23)) (fun g23_63 h23_64 hb65 => ?_)
  refine xoI (xqc25 hI : cpI 320 11 4294967295 (wget w 25)) (fun g25_66 h25_67 hb68 => ?_)
  refine xg_t (xg_blq rfl) ?_
  refine xg_t (xg_aload (va := (2, 1)) rfl rfl) ?_
  refine xg_t (xg_getf (va := (2, 2)) h1_13 rfl) ?_
  refine xg_t (xg_const) ?_
  refine xg_t (xg_aload (va := (2, 164)) rfl rfl) ?_
  refine xg_t (xg_getf (va := (2, 165)) h164_26 rfl) ?_
  refine xg_t (xg_const) ?_
  refine xg_t (xg_sip) ?_
  refine xg_copyY (n := 500) h2_28 h165_31 (hb29) xnm0 (by omega) (by omega) (Nat.le_of_ble_eq_true rfl) (fun w69 hr70 hb71 => ?_)
  have rb72 : ∀ j, xby ((fun j => if j < 500 then g2_27 j else g165_30 j) j) := fun j => by
    show xby (if j < 500 then g2_27 j else g165_30 j)
    split
    · exact (hb29) j
    · exact (hb32) j
  refine xg_t (xg_aload (va := (2, 164)) rfl rfl) ?_
  refine xg_t (xg_aload (va := (2, 1)) rfl rfl) ?_
  refine xg_t (xg_getf (va := (0, f1_1)) (hb71.get (by decide) h1_13) rfl) ?_
  refine xg_putI (fl1 := [(2, 165), (0, f1_1), (0, f164_16), (0, f164_18), (2, 166), (2, 177), (0, f164_20), (0, f164_22), (2, 179), (0, f164_24), (2, 181), (2, 183), (2, 185), (2, 187)]) (hb71.get (by decide) h164_26) rfl rfl rfl (fun w73 hk74 hb75 => ?_)
  refine xg_t (xg_aload (va := (2, 164)) rfl rfl) ?_
  refine xg_t (xg_aload (va := (2, 1)) rfl rfl) ?_
  refine xg_t (xg_getf (va := (0, f1_3)) (hb75.get (by decide) (hb71.get (by decide) h1_13)) rfl) ?_
  refine xg_putI (fl1 := [(2, 165), (0, f1_1), (0, f1_3), (0, f164_18), (2, 166), (2, 177), (0, f164_20), (0, f164_22), (2, 179), (0, f164_24), (2, 181), (2, 183), (2, 185), (2, 187)]) hk74 rfl rfl rfl (fun w76 hk77 hb78 => ?_)
  refine xg_t (xg_aload (va := (2, 164)) rfl rfl) ?_
  refine xg_t (xg_aload (va := (2, 1)) rfl rfl) ?_
  refine xg_t (xg_getf (va := (0, f1_5)) (hb78.get (by decide) (hb75.get (by decide) (hb71.get (by decide) h1_13))) rfl) ?_
  refine xg_putI (fl1 := [(2, 165), (0, f1_1), (0, f1_3), (0, f1_5), (2, 166), (2, 177), (0, f164_20), (0, f164_22), (2, 179), (0, f164_24), (2, 181), (2, 183), (2, 185), (2, 187)]) hk77 rfl rfl rfl (fun w79 hk80 hb81 => ?_)
  refine xg_t (xg_aload (va := (2, 164)) rfl rfl) ?_
  refine xg_t (xg_getf (va := (2, 166)) hk80 rfl) ?_
  refine xg_t (xg_aload (va := (2, 1)) rfl rfl) ?_
  refine xg_t (xg_getf (va := (2, 3)) (hb81.get (by decide) (hb78.get (by decide) (hb75.get (by decide) (hb71.get (by decide) h1_13)))) rfl) ?_
  obtain ⟨f166_82, f166_84, f166_86, f166_88, f166_90, h166_92, hb83, hb85, hb87, hb89, hb91⟩ := (hJ 166 (by decide) (by decide) : cp166 (wget w 166))
  refine xg_cVv mX1_copy (vs := [(2, 3)]) (rest := []) (cn1 := 0) (sl1 := 0) rfl (imFilmE21 (xInv.up (S := [165, 164]) hI ((((xFr.of (S := [165, 164]) hb71 (by decide)).tr (xFr.of (S := [165, 164]) hb75 (by decide))).tr (xFr.of (S := [165, 164]) hb78 (by decide))).tr (xFr.of (S := [165, 164]) hb81 (by decide))) (List.forall_mem_cons.mpr ⟨(show True from trivial), List.forall_mem_cons.mpr ⟨(show True from trivial), fun _ h => absurd h List.not_mem_nil⟩⟩)) (xIm.up (S := [165, 164]) hJ ((((xFr.of (S := [165, 164]) hb71 (by decide)).tr (xFr.of (S := [165, 164]) hb75 (by decide))).tr (xFr.of (S := [165, 164]) hb78 (by decide))).tr (xFr.of (S := [165, 164]) hb81 (by decide))) (List.forall_mem_cons.mpr ⟨(fun _ => show cpY 500 105 (wget w79 165) from ⟨_, (((hr70.but hb75 (by decide)).but hb78 (by decide)).but hb81 (by decide)), rb72⟩), List.forall_mem_cons.mpr ⟨(fun _ => show cp164 (wget w79 164) from ⟨f1_1, f1_3, f1_5, f164_20, f164_22, f164_24, hk80, by omega, by omega, by omega, by omega, by omega, by omega⟩), fun _ h => absurd h List.not_mem_nil⟩⟩))) rfl (hb81.get (by decide) (hb78.get (by decide) (hb75.get (by decide) (hb71.get (by decide) h166_92)))) rfl rfl rfl rfl rfl rfl (fun w93 hq94 => ?_)
  obtain ⟨hI95, hF96, hx97⟩ := hq94
  obtain ⟨hJ98, hE99⟩ := hx97
  refine xg_t (xg_aload (va := (2, 164)) rfl rfl) ?_
  refine xg_t (xg_getf (va := (2, 177)) (hF96.get (by decide) hk80) rfl) ?_
  refine xg_t (xg_aload (va := (2, 1)) rfl rfl) ?_
  refine xg_t (xg_getf (va := (2, 14)) (hF96.get (by decide) (hb81.get (by decide) (hb78.get (by decide) (hb75.get (by decide) (hb71.get (by decide) h1_13))))) rfl) ?_
  obtain ⟨f177_100, h177_102, hb101⟩ := (hJ98 177 (by decide) (by decide) : cp177 (wget w93 177))
  refine xoI (hJ98 178 (by decide) (by decide) : cpI 200 111 4294967295 (wget w93 178)) (fun g178_103 h178_104 hb105 => ?_)
  refine xg_cVv mX5_copy (vs := [(2, 14)]) (rest := []) (cn1 := 0) (sl1 := 0) rfl (rcopyX (lim := 40) (wd := 5) (B := 4294967295) h177_102 (hF96.get (by decide) (hb81.get (by decide) (hb78.get (by decide) (hb75.get (by decide) (hb71.get (by decide) h14_35))))) h178_104 (((((h15_52.but hb71 (by decide)).but hb75 (by decide)).but hb78 (by decide)).but hb81 (by decide)).fr hF96 (by decide)) (hb105) (hb53) (by decide) (by omega) (by decide) (by decide) (by decide) (by decide) (by decide) (by decide)) rfl h177_102 rfl rfl rfl rfl rfl rfl (fun w106 hq107 => ?_)
  obtain ⟨hk108, g109, hr110, hb111, hx113, hF112⟩ := hq107
  refine xg_t (xg_aload (va := (2, 164)) rfl rfl) ?_
  refine xg_t (xg_aload (va := (2, 1)) rfl rfl) ?_
  refine xg_t (xg_getf (va := (0, f1_7)) (hF112.get (by decide) (hF96.get (by decide) (hb81.get (by decide) (hb78.get (by decide) (hb75.get (by decide) (hb71.get (by decide) h1_13)))))) rfl) ?_
  refine xg_putI (fl1 := [(2, 165), (0, f1_1), (0, f1_3), (0, f1_5), (2, 166), (2, 177), (0, f1_7), (0, f164_22), (2, 179), (0, f164_24), (2, 181), (2, 183), (2, 185), (2, 187)]) (hF112.get (by decide) (hF96.get (by decide) hk80)) rfl rfl rfl (fun w114 hk115 hb116 => ?_)
  refine xg_t (xg_aload (va := (2, 164)) rfl rfl) ?_
  refine xg_t (xg_aload (va := (2, 1)) rfl rfl) ?_
  refine xg_t (xg_getf (va := (0, f1_9)) (hb116.get (by decide) (hF112.get (by decide) (hF96.get (by decide) (hb81.get (by decide) (hb78.get (by decide) (hb75.get (by decide) (hb71.get (by decide) h1_13))))))) rfl) ?_
  refine xg_putI (fl1 := [(2, 165), (0, f1_1), (0, f1_3), (0, f1_5), (2, 166), (2, 177), (0, f1_7), (0, f1_9), (2, 179), (0, f164_24), (2, 181), (2, 183), (2, 185), (2, 187)]) hk115 rfl rfl rfl (fun w117 hk118 hb119 => ?_)
  refine xg_t (xg_aload (va := (2, 164)) rfl rfl) ?_
  refine xg_t (xg_getf (va := (2, 179)) hk118 rfl) ?_
  refine xg_t (xg_aload (va := (2, 1)) rfl rfl) ?_
  refine xg_t (xg_getf (va := (2, 16)) (hb119.get (by decide) (hb116.get (by decide) (hF112.get (by decide) (hF96.get (by decide) (hb81.get (by decide) (hb78.get (by decide) (hb75.get (by decide) (hb71.get (by decide) h1_13)))))))) rfl) ?_
  obtain ⟨f179_120, h179_122, hb121⟩ := (hJ98 179 (by decide) (by decide) : cp179 (wget w93 179))
  refine xoI (hJ98 180 (by decide) (by decide) : cpI 60 112 4294967295 (wget w93 180)) (fun g180_123 h180_124 hb125 => ?_)
  refine xg_cVv mX5_copy (vs := [(2, 16)]) (rest := []) (cn1 := 0) (sl1 := 0) rfl (rcopyX (lim := 12) (wd := 5) (B := 4294967295) (hb119.get (by decide) (hb116.get (by decide) (hF112.get (by decide) h179_122))) (hb119.get (by decide) (hb116.get (by decide) (hF112.get (by decide) (hF96.get (by decide) (hb81.get (by decide) (hb78.get (by decide) (hb75.get (by decide) (hb71.get (by decide) h16_38)))))))) (((h180_124.fr hF112 (by decide)).but hb116 (by decide)).but hb119 (by decide)) ((((((((h17_55.but hb71 (by decide)).but hb75 (by decide)).but hb78 (by decide)).but hb81 (by decide)).fr hF96 (by decide)).fr hF112 (by decide)).but hb116 (by decide)).but hb119 (by decide)) (hb125) (hb56) (by decide) (by omega) (by decide) (by decide) (by decide) (by decide) (by decide) (by decide)) rfl (hb119.get (by decide) (hb116.get (by decide) (hF112.get (by decide) h179_122))) rfl rfl rfl rfl rfl rfl (fun w126 hq127 => ?_)
  obtain ⟨hk128, g129, hr130, hb131, hx133, hF132⟩ := hq127
  refine xg_t (xg_aload (va := (2, 164)) rfl rfl) ?_
  refine xg_t (xg_aload (va := (2, 1)) rfl rfl) ?_
  refine xg_t (xg_getf (va := (0, f1_11)) (hF132.get (by decide) (hb119.get (by decide) (hb116.get (by decide) (hF112.get (by decide) (hF96.get (by decide) (hb81.get (by decide) (hb78.get (by decide) (hb75.get (by decide) (hb71.get (by decide) h1_13))))))))) rfl) ?_
  refine xg_putI (fl1 := [(2, 165), (0, f1_1), (0, f1_3), (0, f1_5), (2, 166), (2, 177), (0, f1_7), (0, f1_9), (2, 179), (0, f1_11), (2, 181), (2, 183), (2, 185), (2, 187)]) (hF132.get (by decide) hk118) rfl rfl rfl (fun w134 hk135 hb136 => ?_)
  refine xg_t (xg_aload (va := (2, 164)) rfl rfl) ?_
  refine xg_t (xg_getf (va := (2, 181)) hk135 rfl) ?_
  refine xg_t (xg_aload (va := (2, 1)) rfl rfl) ?_
  refine xg_t (xg_getf (va := (2, 18)) (hb136.get (by decide) (hF132.get (by decide) (hb119.get (by decide) (hb116.get (by decide) (hF112.get (by decide) (hF96.get (by decide) (hb81.get (by decide) (hb78.get (by decide) (hb75.get (by decide) (hb71.get (by decide) h1_13)))))))))) rfl) ?_
  obtain ⟨f181_137, h181_139, hb138⟩ := (hJ98 181 (by decide) (by decide) : cp181 (wget w93 181))
  refine xoI (hJ98 182 (by decide) (by decide) : cpI 12 113 4294967295 (wget w93 182)) (fun g182_140 h182_141 hb142 => ?_)
  refine xg_cVv mX5_copy (vs := [(2, 18)]) (rest := []) (cn1 := 0) (sl1 := 0) rfl (rcopyX (lim := 4) (wd := 3) (B := 4294967295) (hb136.get (by decide) (hF132.get (by decide) (hb119.get (by decide) (hb116.get (by decide) (hF112.get (by decide) h181_139))))) (hb136.get (by decide) (hF132.get (by decide) (hb119.get (by decide) (hb116.get (by decide) (hF112.get (by decide) (hF96.get (by decide) (hb81.get (by decide) (hb78.get (by decide) (hb75.get (by decide) (hb71.get (by decide) h18_41)))))))))) (((((h182_141.fr hF112 (by decide)).but hb116 (by decide)).but hb119 (by decide)).fr hF132 (by decide)).but hb136 (by decide)) ((((((((((h19_58.but hb71 (by decide)).but hb75 (by decide)).but hb78 (by decide)).but hb81 (by decide)).fr hF96 (by decide)).fr hF112 (by decide)).but hb116 (by decide)).but hb119 (by decide)).fr hF132 (by decide)).but hb136 (by decide)) (hb142) (hb59) (by decide) (by omega) (by decide) (by decide) (by decide) (by decide) (by decide) (by decide)) rfl (hb136.get (by decide) (hF132.get (by decide) (hb119.get (by decide) (hb116.get (by decide) (hF112.get (by decide) h181_139))))) rfl rfl rfl rfl rfl rfl (fun w143 hq144 => ?_)
  obtain ⟨hk145, g146, hr147, hb148, hx150, hF149⟩ := hq144
  refine xg_t (xg_aload (va := (2, 164)) rfl rfl) ?_
  refine xg_t (xg_getf (va := (2, 183)) (hF149.get (by decide) hk135) rfl) ?_
  refine xg_t (xg_aload (va := (2, 1)) rfl rfl) ?_
  refine xg_t (xg_getf (va := (2, 20)) (hF149.get (by decide) (hb136.get (by decide) (hF132.get (by decide) (hb119.get (by decide) (hb116.get (by decide) (hF112.get (by decide) (hF96.get (by decide) (hb81.get (by decide) (hb78.get (by decide) (hb75.get (by decide) (hb71.get (by decide) h1_13))))))))))) rfl) ?_
  obtain ⟨f183_151, h183_153, hb152⟩ := (hJ98 183 (by decide) (by decide) : cp183 (wget w93 183))
  refine xoI (hJ98 184 (by decide) (by decide) : cpI 48 114 4294967295 (wget w93 184)) (fun g184_154 h184_155 hb156 => ?_)
  refine xg_cVv mX5_copy (vs := [(2, 20)]) (rest := []) (cn1 := 0) (sl1 := 0) rfl (rcopyX (lim := 12) (wd := 4) (B := 4294967295) (hF149.get (by decide) (hb136.get (by decide) (hF132.get (by decide) (hb119.get (by decide) (hb116.get (by decide) (hF112.get (by decide) h183_153)))))) (hF149.get (by decide) (hb136.get (by decide) (hF132.get (by decide) (hb119.get (by decide) (hb116.get (by decide) (hF112.get (by decide) (hF96.get (by decide) (hb81.get (by decide) (hb78.get (by decide) (hb75.get (by decide) (hb71.get (by decide) h20_44))))))))))) ((((((h184_155.fr hF112 (by decide)).but hb116 (by decide)).but hb119 (by decide)).fr hF132 (by decide)).but hb136 (by decide)).fr hF149 (by decide)) (((((((((((h21_61.but hb71 (by decide)).but hb75 (by decide)).but hb78 (by decide)).but hb81 (by decide)).fr hF96 (by decide)).fr hF112 (by decide)).but hb116 (by decide)).but hb119 (by decide)).fr hF132 (by decide)).but hb136 (by decide)).fr hF149 (by decide)) (hb156) (hb62) (by decide) (by omega) (by decide) (by decide) (by decide) (by decide) (by decide) (by decide)) rfl (hF149.get (by decide) (hb136.get (by decide) (hF132.get (by decide) (hb119.get (by decide) (hb116.get (by decide) (hF112.get (by decide) h183_153)))))) rfl rfl rfl rfl rfl rfl (fun w157 hq158 => ?_)
  obtain ⟨hk159, g160, hr161, hb162, hx164, hF163⟩ := hq158
  refine xg_t (xg_aload (va := (2, 164)) rfl rfl) ?_
  refine xg_t (xg_getf (va := (2, 185)) (hF163.get (by decide) (hF149.get (by decide) hk135)) rfl) ?_
  refine xg_t (xg_aload (va := (2, 1)) rfl rfl) ?_
  refine xg_t (xg_getf (va := (2, 22)) (hF163.get (by decide) (hF149.get (by decide) (hb136.get (by decide) (hF132.get (by decide) (hb119.get (by decide) (hb116.get (by decide) (hF112.get (by decide) (hF96.get (by decide) (hb81.get (by decide) (hb78.get (by decide) (hb75.get (by decide) (hb71.get (by decide) h1_13)))))))))))) rfl) ?_
  obtain ⟨f185_165, h185_167, hb166⟩ := (hJ98 185 (by decide) (by decide) : cp185 (wget w93 185))
  refine xoI (hJ98 186 (by decide) (by decide) : cpI 32 115 4294967295 (wget w93 186)) (fun g186_168 h186_169 hb170 => ?_)
  refine xg_cVv mX5_copy (vs := [(2, 22)]) (rest := []) (cn1 := 0) (sl1 := 0) rfl (rcopyX (lim := 16) (wd := 2) (B := 4294967295) (hF163.get (by decide) (hF149.get (by decide) (hb136.get (by decide) (hF132.get (by decide) (hb119.get (by decide) (hb116.get (by decide) (hF112.get (by decide) h185_167))))))) (hF163.get (by decide) (hF149.get (by decide) (hb136.get (by decide) (hF132.get (by decide) (hb119.get (by decide) (hb116.get (by decide) (hF112.get (by decide) (hF96.get (by decide) (hb81.get (by decide) (hb78.get (by decide) (hb75.get (by decide) (hb71.get (by decide) h22_47)))))))))))) (((((((h186_169.fr hF112 (by decide)).but hb116 (by decide)).but hb119 (by decide)).fr hF132 (by decide)).but hb136 (by decide)).fr hF149 (by decide)).fr hF163 (by decide)) ((((((((((((h23_64.but hb71 (by decide)).but hb75 (by decide)).but hb78 (by decide)).but hb81 (by decide)).fr hF96 (by decide)).fr hF112 (by decide)).but hb116 (by decide)).but hb119 (by decide)).fr hF132 (by decide)).but hb136 (by decide)).fr hF149 (by decide)).fr hF163 (by decide)) (hb170) (hb65) (by decide) (by omega) (by decide) (by decide) (by decide) (by decide) (by decide) (by decide)) rfl (hF163.get (by decide) (hF149.get (by decide) (hb136.get (by decide) (hF132.get (by decide) (hb119.get (by decide) (hb116.get (by decide) (hF112.get (by decide) h185_167))))))) rfl rfl rfl rfl rfl rfl (fun w171 hq172 => ?_)
  obtain ⟨hk173, g174, hr175, hb176, hx178, hF177⟩ := hq172
  refine xg_t (xg_aload (va := (2, 164)) rfl rfl) ?_
  refine xg_t (xg_getf (va := (2, 187)) (hF177.get (by decide) (hF163.get (by decide) (hF149.get (by decide) hk135))) rfl) ?_
  refine xg_t (xg_aload (va := (2, 1)) rfl rfl) ?_
  refine xg_t (xg_getf (va := (2, 24)) (hF177.get (by decide) (hF163.get (by decide) (hF149.get (by decide) (hb136.get (by decide) (hF132.get (by decide) (hb119.get (by decide) (hb116.get (by decide) (hF112.get (by decide) (hF96.get (by decide) (hb81.get (by decide) (hb78.get (by decide) (hb75.get (by decide) (hb71.get (by decide) h1_13))))))))))))) rfl) ?_
  obtain ⟨f187_179, h187_181, hb180⟩ := (hJ98 187 (by decide) (by decide) : cp187 (wget w93 187))
  refine xoI (hJ98 188 (by decide) (by decide) : cpI 320 116 4294967295 (wget w93 188)) (fun g188_182 h188_183 hb184 => ?_)
  refine xg_cVv mX5_copy (vs := [(2, 24)]) (rest := []) (cn1 := 0) (sl1 := 0) rfl (rcopyX (lim := 64) (wd := 5) (B := 4294967295) (hF177.get (by decide) (hF163.get (by decide) (hF149.get (by decide) (hb136.get (by decide) (hF132.get (by decide) (hb119.get (by decide) (hb116.get (by decide) (hF112.get (by decide) h187_181)))))))) (hF177.get (by decide) (hF163.get (by decide) (hF149.get (by decide) (hb136.get (by decide) (hF132.get (by decide) (hb119.get (by decide) (hb116.get (by decide) (hF112.get (by decide) (hF96.get (by decide) (hb81.get (by decide) (hb78.get (by decide) (hb75.get (by decide) (hb71.get (by decide) h24_50))))))))))))) ((((((((h188_183.fr hF112 (by decide)).but hb116 (by decide)).but hb119 (by decide)).fr hF132 (by decide)).but hb136 (by decide)).fr hF149 (by decide)).fr hF163 (by decide)).fr hF177 (by decide)) (((((((((((((h25_67.but hb71 (by decide)).but hb75 (by decide)).but hb78 (by decide)).but hb81 (by decide)).fr hF96 (by decide)).fr hF112 (by decide)).but hb116 (by decide)).but hb119 (by decide)).fr hF132 (by decide)).but hb136 (by decide)).fr hF149 (by decide)).fr hF163 (by decide)).fr hF177 (by decide)) (hb184) (hb68) (by decide) (by omega) (by decide) (by decide) (by decide) (by decide) (by decide) (by decide)) rfl (hF177.get (by decide) (hF163.get (by decide) (hF149.get (by decide) (hb136.get (by decide) (hF132.get (by decide) (hb119.get (by decide) (hb116.get (by decide) (hF112.get (by decide) h187_181)))))))) rfl rfl rfl rfl rfl rfl (fun w185 hq186 => ?_)
  obtain ⟨hk187, g188, hr189, hb190, hx192, hF191⟩ := hq186
  have hq194 : fld w 14 3 = f14_33 := fld_of h14_35
  have hq193 : rwE w185 177 w 14 5 := ⟨((show fld w185 177 3 = f14_33 from fld_of (hF191.get (by decide) (hF177.get (by decide) (hF163.get (by decide) (hF149.get (by decide) (hb136.get (by decide) (hF132.get (by decide) (hb119.get (by decide) (hb116.get (by decide) hk108))))))))).trans (show fld w 14 3 = f14_33 from fld_of h14_35).symm), fun j hj => by
    rw [hq194] at hj
    exact (rwv_of ((((((((hr110.but hb116 (by decide)).but hb119 (by decide)).fr hF132 (by decide)).but hb136 (by decide)).fr hF149 (by decide)).fr hF163 (by decide)).fr hF177 (by decide)).fr hF191 (by decide)) (by omega)).trans ((hx113 j hj).trans (rwv_of h15_52 (by omega)).symm)⟩
  have hq196 : fld w 16 3 = f16_36 := fld_of h16_38
  have hq195 : rwE w185 179 w 16 5 := ⟨((show fld w185 179 3 = f16_36 from fld_of (hF191.get (by decide) (hF177.get (by decide) (hF163.get (by decide) (hF149.get (by decide) (hb136.get (by decide) hk128)))))).trans (show fld w 16 3 = f16_36 from fld_of h16_38).symm), fun j hj => by
    rw [hq196] at hj
    exact (rwv_of (((((hr130.but hb136 (by decide)).fr hF149 (by decide)).fr hF163 (by decide)).fr hF177 (by decide)).fr hF191 (by decide)) (by omega)).trans ((hx133 j hj).trans (rwv_of h17_55 (by omega)).symm)⟩
  have hq198 : fld w 18 3 = f18_39 := fld_of h18_41
  have hq197 : rwE w185 181 w 18 3 := ⟨((show fld w185 181 3 = f18_39 from fld_of (hF191.get (by decide) (hF177.get (by decide) (hF163.get (by decide) hk145)))).trans (show fld w 18 3 = f18_39 from fld_of h18_41).symm), fun j hj => by
    rw [hq198] at hj
    exact (rwv_of (((hr147.fr hF163 (by decide)).fr hF177 (by decide)).fr hF191 (by decide)) (by omega)).trans ((hx150 j hj).trans (rwv_of h19_58 (by omega)).symm)⟩
  have hq200 : fld w 20 3 = f20_42 := fld_of h20_44
  have hq199 : rwE w185 183 w 20 4 := ⟨((show fld w185 183 3 = f20_42 from fld_of (hF191.get (by decide) (hF177.get (by decide) hk159))).trans (show fld w 20 3 = f20_42 from fld_of h20_44).symm), fun j hj => by
    rw [hq200] at hj
    exact (rwv_of ((hr161.fr hF177 (by decide)).fr hF191 (by decide)) (by omega)).trans ((hx164 j hj).trans (rwv_of h21_61 (by omega)).symm)⟩
  have hq202 : fld w 22 3 = f22_45 := fld_of h22_47
  have hq201 : rwE w185 185 w 22 2 := ⟨((show fld w185 185 3 = f22_45 from fld_of (hF191.get (by decide) hk173)).trans (show fld w 22 3 = f22_45 from fld_of h22_47).symm), fun j hj => by
    rw [hq202] at hj
    exact (rwv_of (hr175.fr hF191 (by decide)) (by omega)).trans ((hx178 j hj).trans (rwv_of h23_64 (by omega)).symm)⟩
  have hq204 : fld w 24 3 = f24_48 := fld_of h24_50
  have hq203 : rwE w185 187 w 24 5 := ⟨((show fld w185 187 3 = f24_48 from fld_of hk187).trans (show fld w 24 3 = f24_48 from fld_of h24_50).symm), fun j hj => by
    rw [hq204] at hj
    exact (rwv_of hr189 (by omega)).trans ((hx192 j hj).trans (rwv_of h25_67 (by omega)).symm)⟩
  have hq205 : fmE w185 166 w 3 := hE99.tr (((((((((hF112.up (T := [177, 178, 164, 179, 180, 181, 182, 183, 184, 185, 186, 187, 188]) (by decide)).tr (xFr.of (S := [177, 178, 164, 179, 180, 181, 182, 183, 184, 185, 186, 187, 188]) hb116 (by decide))).tr (xFr.of (S := [177, 178, 164, 179, 180, 181, 182, 183, 184, 185, 186, 187, 188]) hb119 (by decide))).tr (hF132.up (T := [177, 178, 164, 179, 180, 181, 182, 183, 184, 185, 186, 187, 188]) (by decide))).tr (xFr.of (S := [177, 178, 164, 179, 180, 181, 182, 183, 184, 185, 186, 187, 188]) hb136 (by decide))).tr (hF149.up (T := [177, 178, 164, 179, 180, 181, 182, 183, 184, 185, 186, 187, 188]) (by decide))).tr (hF163.up (T := [177, 178, 164, 179, 180, 181, 182, 183, 184, 185, 186, 187, 188]) (by decide))).tr (hF177.up (T := [177, 178, 164, 179, 180, 181, 182, 183, 184, 185, 186, 187, 188]) (by decide))).tr (hF191.up (T := [177, 178, 164, 179, 180, 181, 182, 183, 184, 185, 186, 187, 188]) (by decide))) (by decide) ((((xFr.of (S := [164, 165, 166, 167, 168, 169, 170, 171, 172, 173, 174, 175, 176, 177, 178, 179, 180, 181, 182, 183, 184, 185, 186, 187, 188]) hb71 (by decide)).tr (xFr.of (S := [164, 165, 166, 167, 168, 169, 170, 171, 172, 173, 174, 175, 176, 177, 178, 179, 180, 181, 182, 183, 184, 185, 186, 187, 188]) hb75 (by decide))).tr (xFr.of (S := [164, 165, 166, 167, 168, 169, 170, 171, 172, 173, 174, 175, 176, 177, 178, 179, 180, 181, 182, 183, 184, 185, 186, 187, 188]) hb78 (by decide))).tr (xFr.of (S := [164, 165, 166, 167, 168, 169, 170, 171, 172, 173, 174, 175, 176, 177, 178, 179, 180, 181, 182, 183, 184, 185, 186, 187, 188]) hb81 (by decide))) (by decide)
  have hq206 : ∀ j, j < 500 → rwv w185 165 j = rwv w 2 j := fun j hj => (rwk_of (((((((((((((hr70.but hb75 (by decide)).but hb78 (by decide)).but hb81 (by decide)).fr hF96 (by decide)).fr hF112 (by decide)).but hb116 (by decide)).but hb119 (by decide)).fr hF132 (by decide)).but hb136 (by decide)).fr hF149 (by decide)).fr hF163 (by decide)).fr hF177 (by decide)).fr hF191 (by decide)) hj).trans ((if_pos hj).trans (rwk_of h2_28 hj).symm)
  exact xg_e ⟨w185, ⟨rfl, rfl⟩, xInv.up (S := [177, 178, 164, 179, 180, 181, 182, 183, 184, 185, 186, 187, 188]) hI95 (((((((((hF112.up (T := [177, 178, 164, 179, 180, 181, 182, 183, 184, 185, 186, 187, 188]) (by decide)).tr (xFr.of (S := [177, 178, 164, 179, 180, 181, 182, 183, 184, 185, 186, 187, 188]) hb116 (by decide))).tr (xFr.of (S := [177, 178, 164, 179, 180, 181, 182, 183, 184, 185, 186, 187, 188]) hb119 (by decide))).tr (hF132.up (T := [177, 178, 164, 179, 180, 181, 182, 183, 184, 185, 186, 187, 188]) (by decide))).tr (xFr.of (S := [177, 178, 164, 179, 180, 181, 182, 183, 184, 185, 186, 187, 188]) hb136 (by decide))).tr (hF149.up (T := [177, 178, 164, 179, 180, 181, 182, 183, 184, 185, 186, 187, 188]) (by decide))).tr (hF163.up (T := [177, 178, 164, 179, 180, 181, 182, 183, 184, 185, 186, 187, 188]) (by decide))).tr (hF177.up (T := [177, 178, 164, 179, 180, 181, 182, 183, 184, 185, 186, 187, 188]) (by decide))).tr (hF191.up (T := [177, 178, 164, 179, 180, 181, 182, 183, 184, 185, 186, 187, 188]) (by decide))) (List.forall_mem_cons.mpr ⟨(show True from trivial), List.forall_mem_cons.mpr ⟨(show True from trivial), List.forall_mem_cons.mpr ⟨(show True from trivial), List.forall_mem_cons.mpr ⟨(show True from trivial), List.forall_mem_cons.mpr ⟨(show True from trivial), List.forall_mem_cons.mpr ⟨(show True from trivial), List.forall_mem_cons.mpr ⟨(show True from trivial), List.forall_mem_cons.mpr ⟨(show True from trivial), List.forall_mem_cons.mpr ⟨(show True from trivial), List.forall_mem_cons.mpr ⟨(show True from trivial), List.forall_mem_cons.mpr ⟨(show True from trivial), List.forall_mem_cons.mpr ⟨(show True from trivial), List.forall_mem_cons.mpr ⟨(show True from trivial), fun _ h => absurd h List.not_mem_nil⟩⟩⟩⟩⟩⟩⟩⟩⟩⟩⟩⟩⟩), ((((((xFr.of (S := [164, 165, 166, 167, 168, 169, 170, 171, 172, 173, 174, 175, 176, 177, 178, 179, 180, 181, 182, 183, 184, 185, 186, 187, 188]) hb71 (by decide)).tr (xFr.of (S := [164, 165, 166, 167, 168, 169, 170, 171, 172, 173, 174, 175, 176, 177, 178, 179, 180, 181, 182, 183, 184, 185, 186, 187, 188]) hb75 (by decide))).tr (xFr.of (S := [164, 165, 166, 167, 168, 169, 170, 171, 172, 173, 174, 175, 176, 177, 178, 179, 180, 181, 182, 183, 184, 185, 186, 187, 188]) hb78 (by decide))).tr (xFr.of (S := [164, 165, 166, 167, 168, 169, 170, 171, 172, 173, 174, 175, 176, 177, 178, 179, 180, 181, 182, 183, 184, 185, 186, 187, 188]) hb81 (by decide))).tr (hF96.up (by decide))).tr (((((((((hF112.up (T := [164, 165, 166, 167, 168, 169, 170, 171, 172, 173, 174, 175, 176, 177, 178, 179, 180, 181, 182, 183, 184, 185, 186, 187, 188]) (by decide)).tr (xFr.of (S := [164, 165, 166, 167, 168, 169, 170, 171, 172, 173, 174, 175, 176, 177, 178, 179, 180, 181, 182, 183, 184, 185, 186, 187, 188]) hb116 (by decide))).tr (xFr.of (S := [164, 165, 166, 167, 168, 169, 170, 171, 172, 173, 174, 175, 176, 177, 178, 179, 180, 181, 182, 183, 184, 185, 186, 187, 188]) hb119 (by decide))).tr (hF132.up (T := [164, 165, 166, 167, 168, 169, 170, 171, 172, 173, 174, 175, 176, 177, 178, 179, 180, 181, 182, 183, 184, 185, 186, 187, 188]) (by decide))).tr (xFr.of (S := [164, 165, 166, 167, 168, 169, 170, 171, 172, 173, 174, 175, 176, 177, 178, 179, 180, 181, 182, 183, 184, 185, 186, 187, 188]) hb136 (by decide))).tr (hF149.up (T := [164, 165, 166, 167, 168, 169, 170, 171, 172, 173, 174, 175, 176, 177, 178, 179, 180, 181, 182, 183, 184, 185, 186, 187, 188]) (by decide))).tr (hF163.up (T := [164, 165, 166, 167, 168, 169, 170, 171, 172, 173, 174, 175, 176, 177, 178, 179, 180, 181, 182, 183, 184, 185, 186, 187, 188]) (by decide))).tr (hF177.up (T := [164, 165, 166, 167, 168, 169, 170, 171, 172, 173, 174, 175, 176, 177, 178, 179, 180, 181, 182, 183, 184, 185, 186, 187, 188]) (by decide))).tr (hF191.up (T := [164, 165, 166, 167, 168, 169, 170, 171, 172, 173, 174, 175, 176, 177, 178, 179, 180, 181, 182, 183, 184, 185, 186, 187, 188]) (by decide)))), ⟨xIm.up (S := [177, 178, 164, 179, 180, 181, 182, 183, 184, 185, 186, 187, 188]) hJ98 (((((((((hF112.up (T := [177, 178, 164, 179, 180, 181, 182, 183, 184, 185, 186, 187, 188]) (by decide)).tr (xFr.of (S := [177, 178, 164, 179, 180, 181, 182, 183, 184, 185, 186, 187, 188]) hb116 (by decide))).tr (xFr.of (S := [177, 178, 164, 179, 180, 181, 182, 183, 184, 185, 186, 187, 188]) hb119 (by decide))).tr (hF132.up (T := [177, 178, 164, 179, 180, 181, 182, 183, 184, 185, 186, 187, 188]) (by decide))).tr (xFr.of (S := [177, 178, 164, 179, 180, 181, 182, 183, 184, 185, 186, 187, 188]) hb136 (by decide))).tr (hF149.up (T := [177, 178, 164, 179, 180, 181, 182, 183, 184, 185, 186, 187, 188]) (by decide))).tr (hF163.up (T := [177, 178, 164, 179, 180, 181, 182, 183, 184, 185, 186, 187, 188]) (by decide))).tr (hF177.up (T := [177, 178, 164, 179, 180, 181, 182, 183, 184, 185, 186, 187, 188]) (by decide))).tr (hF191.up (T := [177, 178, 164, 179, 180, 181, 182, 183, 184, 185, 186, 187, 188]) (by decide))) (List.forall_mem_cons.mpr ⟨(fun _ => show cp177 (wget w185 177) from ⟨f14_33, (hF191.get (by decide) (hF177.get (by decide) (hF163.get (by decide) (hF149.get (by decide) (hb136.get (by decide) (hF132.get (by decide) (hb119.get (by decide) (hb116.get (by decide) hk108)))))))), by omega⟩), List.forall_mem_cons.mpr ⟨(fun _ => show cpI 200 111 4294967295 (wget w185 178) from ⟨_, ((((((((hr110.but hb116 (by decide)).but hb119 (by decide)).fr hF132 (by decide)).but hb136 (by decide)).fr hF149 (by decide)).fr hF163 (by decide)).fr hF177 (by decide)).fr hF191 (by decide)), hb111⟩), List.forall_mem_cons.mpr ⟨(fun _ => show cp164 (wget w185 164) from ⟨f1_1, f1_3, f1_5, f1_7, f1_9, f1_11, (hF191.get (by decide) (hF177.get (by decide) (hF163.get (by decide) (hF149.get (by decide) hk135)))), by omega, by omega, by omega, by omega, by omega, by omega⟩), List.forall_mem_cons.mpr ⟨(fun _ => show cp179 (wget w185 179) from ⟨f16_36, (hF191.get (by decide) (hF177.get (by decide) (hF163.get (by decide) (hF149.get (by decide) (hb136.get (by decide) hk128))))), by omega⟩), List.forall_mem_cons.mpr ⟨(fun _ => show cpI 60 112 4294967295 (wget w185 180) from ⟨_, (((((hr130.but hb136 (by decide)).fr hF149 (by decide)).fr hF163 (by decide)).fr hF177 (by decide)).fr hF191 (by decide)), hb131⟩), List.forall_mem_cons.mpr ⟨(fun _ => show cp181 (wget w185 181) from ⟨f18_39, (hF191.get (by decide) (hF177.get (by decide) (hF163.get (by decide) hk145))), by omega⟩), List.forall_mem_cons.mpr ⟨(fun _ => show cpI 12 113 4294967295 (wget w185 182) from ⟨_, (((hr147.fr hF163 (by decide)).fr hF177 (by decide)).fr hF191 (by decide)), hb148⟩), List.forall_mem_cons.mpr ⟨(fun _ => show cp183 (wget w185 183) from ⟨f20_42, (hF191.get (by decide) (hF177.get (by decide) hk159)), by omega⟩), List.forall_mem_cons.mpr ⟨(fun _ => show cpI 48 114 4294967295 (wget w185 184) from ⟨_, ((hr161.fr hF177 (by decide)).fr hF191 (by decide)), hb162⟩), List.forall_mem_cons.mpr ⟨(fun _ => show cp185 (wget w185 185) from ⟨f22_45, (hF191.get (by decide) hk173), by omega⟩), List.forall_mem_cons.mpr ⟨(fun _ => show cpI 32 115 4294967295 (wget w185 186) from ⟨_, (hr175.fr hF191 (by decide)), hb176⟩), List.forall_mem_cons.mpr ⟨(fun _ => show cp187 (wget w185 187) from ⟨f24_48, hk187, by omega⟩), List.forall_mem_cons.mpr ⟨(fun _ => show cpI 320 116 4294967295 (wget w185 188) from ⟨_, hr189, hb190⟩), fun _ h => absurd h List.not_mem_nil⟩⟩⟩⟩⟩⟩⟩⟩⟩⟩⟩⟩⟩), ⟨((show fld w185 164 1 = f1_1 from fld_of (hF191.get (by decide) (hF177.get (by decide) (hF163.get (by decide) (hF149.get (by decide) hk135))))).trans (show fld w 1 1 = f1_1 from fld_of h1_13).symm), ((show fld w185 164 2 = f1_3 from fld_of (hF191.get (by decide) (hF177.get (by decide) (hF163.get (by decide) (hF149.get (by decide) hk135))))).trans (show fld w 1 2 = f1_3 from fld_of h1_13).symm), ((show fld w185 164 3 = f1_5 from fld_of (hF191.get (by decide) (hF177.get (by decide) (hF163.get (by decide) (hF149.get (by decide) hk135))))).trans (show fld w 1 3 = f1_5 from fld_of h1_13).symm), ((show fld w185 164 6 = f1_7 from fld_of (hF191.get (by decide) (hF177.get (by decide) (hF163.get (by decide) (hF149.get (by decide) hk135))))).trans (show fld w 1 6 = f1_7 from fld_of h1_13).symm), ((show fld w185 164 7 = f1_9 from fld_of (hF191.get (by decide) (hF177.get (by decide) (hF163.get (by decide) (hF149.get (by decide) hk135))))).trans (show fld w 1 7 = f1_9 from fld_of h1_13).symm), ((show fld w185 164 9 = f1_11 from fld_of (hF191.get (by decide) (hF177.get (by decide) (hF163.get (by decide) (hF149.get (by decide) hk135))))).trans (show fld w 1 9 = f1_11 from fld_of h1_13).symm)⟩, hq206, hq205, hq193, hq195, hq197, hq199, hq201, hq203⟩⟩
set_option maxRecDepth 100000 in
theorem imToldE20 (hI : xInv w) (hJ : xIm 164 189 w) : xPq (d + 3) mX9_copy [(2, 1), (2, 164)] w bd fc rr [] (fun w' => xInv w' ∧ xFr [1, 2, 3, 4, 5, 6, 7, 8, 9, 10, 11, 12, 13, 14, 15, 16, 17, 18, 19, 20, 21, 22, 23, 24, 25] w w' ∧ (xIm 164 189 w' ∧ tdE w' 1 w 164)) := by
  refine xPq.of ?_
  show xTo (d + 3) mX9_copy (0, [], [(0, (2, 1)), (1, (2, 164))], [], (w, bd, fc, 0, 0, rr)) (fun φ => ∃ w', xEnd 0 [] (w', bd, fc, 0, 0, rr) φ ∧ xInv w' ∧ xFr [1, 2, 3, 4, 5, 6, 7, 8, 9, 10, 11, 12, 13, 14, 15, 16, 17, 18, 19, 20, 21, 22, 23, 24, 25] w w' ∧ (xIm 164 189 w' ∧ tdE w' 1 w 164))
  refine xoC1 (xqc1 hI : cp1 (wget w 1)) (fun f1_1 f1_3 f1_5 f1_7 f1_9 f1_11 h1_13 hb2 hb4 hb6 hb8 hb10 hb12 => ?_)
  obtain ⟨f164_14, f164_16, f164_18, f164_20, f164_22, f164_24, h164_26, hb15, hb17, hb19, hb21, hb23, hb25⟩ := (hJ 164 (by decide) (by decide) : cp164 (wget w 164))
  obtain ⟨g2_27, h2_28, hb29⟩ := (xqc2 hI : cpY 500 0 (wget w 2))
  have h2_28 : xRk 1 0 w 2 500 0 g2_27 := h2_28
  obtain ⟨g165_30, h165_31, hb32⟩ := (hJ 165 (by decide) (by decide) : cpY 500 105 (wget w 165))
  have h165_31 : xRk 1 0 w 165 500 105 g165_30 := h165_31
  obtain ⟨f177_33, h177_35, hb34⟩ := (hJ 177 (by decide) (by decide) : cp177 (wget w 177))
  obtain ⟨f179_36, h179_38, hb37⟩ := (hJ 179 (by decide) (by decide) : cp179 (wget w 179))
  obtain ⟨f181_39, h181_41, hb40⟩ := (hJ 181 (by decide) (by decide) : cp181 (wget w 181))
  obtain ⟨f183_42, h183_44, hb43⟩ := (hJ 183 (by decide) (by decide) : cp183 (wget w 183))
  obtain ⟨f185_45, h185_47, hb46⟩ := (hJ 185 (by decide) (by decide) : cp185 (wget w 185))
  obtain ⟨f187_48, h187_50, hb49⟩ := (hJ 187 (by decide) (by decide) : cp187 (wget w 187))
  refine xoI (hJ 178 (by decide) (by decide) : cpI 200 111 4294967295 (wget w 178)) (fun g178_51 h178_52 hb53 => ?_)
  refine xoI (hJ 180 (by decide) (by decide) : cpI 60 112 4294967295 (wget w 180)) (fun g180_54 h180_55 hb56 => ?_)
  refine xoI (hJ 182 (by decide) (by decide) : cpI 12 113 4294967295 (wget w 182)) (fun g182_57 h182_58 hb59 => ?_)
  refine xoI (hJ 184 (by decide) (by decide) : cpI 48 114 4294967295 (wget w 184)) (fun g184_60 h184_61 hb62 => ?_)
  refine xoI (hJ 186 (by decide) (by decide) : cpI 32 115 4294967295 (wget w 186)) (fun g186_63 h186_64 hb65 => ?_)
  refine xoI (hJ 188 (by decide) (by decide) : cpI 320 116 4294967295 (wget w 188)) (fun g188_66 h188_67 hb68 => ?_)
  refine xg_t (xg_blq rfl) ?_
  refine xg_t (xg_aload (va := (2, 164)) rfl rfl) ?_
  refine xg_t (xg_getf (va := (2, 165)) h164_26 rfl) ?_
  refine xg_t (xg_const) ?_
  refine xg_t (xg_aload (va := (2, 1)) rfl rfl) ?_
  refine xg_t (xg_getf (va := (2, 2)) h1_13 rfl) ?_
  refine xg_t (xg_const) ?_
  refine xg_t (xg_sip) ?_
  refine xg_copyY (n := 500) h165_31 h2_28 (hb32) xnm0 (by omega) (by omega) (Nat.le_of_ble_eq_true rfl) (fun w69 hr70 hb71 => ?_)
  have rb72 : ∀ j, xby ((fun j => if j < 500 then g165_30 j else g2_27 j) j) := fun j => by
    show xby (if j < 500 then g165_30 j else g2_27 j)
    split
    · exact (hb32) j
    · exact (hb29) j
  refine xg_t (xg_aload (va := (2, 1)) rfl rfl) ?_
  refine xg_t (xg_aload (va := (2, 164)) rfl rfl) ?_
  refine xg_t (xg_getf (va := (0, f164_14)) (hb71.get (by decide) h164_26) rfl) ?_
  refine xg_putI (fl1 := [(2, 2), (0, f164_14), (0, f1_3), (0, f1_5), (2, 3), (2, 14), (0, f1_7), (0, f1_9), (2, 16), (0, f1_11), (2, 18), (2, 20), (2, 22), (2, 24)]) (hb71.get (by decide) h1_13) rfl rfl rfl (fun w73 hk74 hb75 => ?_)
  refine xg_t (xg_aload (va := (2, 1)) rfl rfl) ?_
  refine xg_t (xg_aload (va := (2, 164)) rfl rfl) ?_
  refine xg_t (xg_getf (va := (0, f164_16)) (hb75.get (by decide) (hb71.get (by decide) h164_26)) rfl) ?_
  refine xg_putI (fl1 := [(2, 2), (0, f164_14), (0, f164_16), (0, f1_5), (2, 3), (2, 14), (0, f1_7), (0, f1_9), (2, 16), (0, f1_11), (2, 18), (2, 20), (2, 22), (2, 24)]) hk74 rfl rfl rfl (fun w76 hk77 hb78 => ?_)
  refine xg_t (xg_aload (va := (2, 1)) rfl rfl) ?_
  refine xg_t (xg_aload (va := (2, 164)) rfl rfl) ?_
  refine xg_t (xg_getf (va := (0, f164_18)) (hb78.get (by decide) (hb75.get (by decide) (hb71.get (by decide) h164_26))) rfl) ?_
  refine xg_putI (fl1 := [(2, 2), (0, f164_14), (0, f164_16), (0, f164_18), (2, 3), (2, 14), (0, f1_7), (0, f1_9), (2, 16), (0, f1_11), (2, 18), (2, 20), (2, 22), (2, 24)]) hk77 rfl rfl rfl (fun w79 hk80 hb81 => ?_)
  refine xg_t (xg_aload (va := (2, 1)) rfl rfl) ?_
  refine xg_t (xg_getf (va := (2, 3)) hk80 rfl) ?_
  refine xg_t (xg_aload (va := (2, 164)) rfl rfl) ?_
  refine xg_t (xg_getf (va := (2, 166)) (hb81.get (by decide) (hb78.get (by decide) (hb75.get (by decide) (hb71.get (by decide) h164_26)))) rfl) ?_
  refine xoC3 (xqc3 hI : cp3 (wget w 3)) (fun f3_82 f3_84 f3_86 f3_88 f3_90 h3_92 hb83 hb85 hb87 hb89 hb91 => ?_)
  refine xg_cVv mX1_copy (vs := [(2, 166)]) (rest := []) (cn1 := 0) (sl1 := 0) rfl (imFilmE20 (xInv.up (S := [2, 1]) hI ((((xFr.of (S := [2, 1]) hb71 (by decide)).tr (xFr.of (S := [2, 1]) hb75 (by decide))).tr (xFr.of (S := [2, 1]) hb78 (by decide))).tr (xFr.of (S := [2, 1]) hb81 (by decide))) (List.forall_mem_cons.mpr ⟨xqu2 (show cpY 500 0 (wget w79 2) from ⟨_, (((hr70.but hb75 (by decide)).but hb78 (by decide)).but hb81 (by decide)), rb72⟩), List.forall_mem_cons.mpr ⟨xqu1 (show cp1 (wget w79 1) from xmC1 f164_14 f164_16 f164_18 f1_7 f1_9 f1_11 hk80 hb15 hb17 hb19 hb8 hb10 hb12), fun _ h => absurd h List.not_mem_nil⟩⟩)) (xIm.up (S := [2, 1]) hJ ((((xFr.of (S := [2, 1]) hb71 (by decide)).tr (xFr.of (S := [2, 1]) hb75 (by decide))).tr (xFr.of (S := [2, 1]) hb78 (by decide))).tr (xFr.of (S := [2, 1]) hb81 (by decide))) (List.forall_mem_cons.mpr ⟨(fun h => absurd h (by omega)), List.forall_mem_cons.mpr ⟨(fun h => absurd h (by omega)), fun _ h => absurd h List.not_mem_nil⟩⟩))) rfl (hb81.get (by decide) (hb78.get (by decide) (hb75.get (by decide) (hb71.get (by decide) h3_92)))) rfl rfl rfl rfl rfl rfl (fun w93 hq94 => ?_)
  obtain ⟨hI95, hF96, hx97⟩ := hq94
  obtain ⟨hJ98, hE99⟩ := hx97
  refine xg_t (xg_aload (va := (2, 1)) rfl rfl) ?_
  refine xg_t (xg_getf (va := (2, 14)) (hF96.get (by decide) hk80) rfl) ?_
  refine xg_t (xg_aload (va := (2, 164)) rfl rfl) ?_
  refine xg_t (xg_getf (va := (2, 177)) (hF96.get (by decide) (hb81.get (by decide) (hb78.get (by decide) (hb75.get (by decide) (hb71.get (by decide) h164_26))))) rfl) ?_
  obtain ⟨f14_100, h14_102, hb101⟩ := (xqc14 hI95 : cp14 (wget w93 14))
  refine xoI (xqc15 hI95 : cpI 200 6 4294967295 (wget w93 15)) (fun g15_103 h15_104 hb105 => ?_)
  refine xg_cVv mX5_copy (vs := [(2, 177)]) (rest := []) (cn1 := 0) (sl1 := 0) rfl (rcopyX (lim := 40) (wd := 5) (B := 4294967295) h14_102 (hF96.get (by decide) (hb81.get (by decide) (hb78.get (by decide) (hb75.get (by decide) (hb71.get (by decide) h177_35))))) h15_104 (((((h178_52.but hb71 (by decide)).but hb75 (by decide)).but hb78 (by decide)).but hb81 (by decide)).fr hF96 (by decide)) (hb105) (hb53) (by decide) (by omega) (by decide) (by decide) (by decide) (by decide) (by decide) (by decide)) rfl h14_102 rfl rfl rfl rfl rfl rfl (fun w106 hq107 => ?_)
  obtain ⟨hk108, g109, hr110, hb111, hx113, hF112⟩ := hq107
  refine xg_t (xg_aload (va := (2, 1)) rfl rfl) ?_
  refine xg_t (xg_aload (va := (2, 164)) rfl rfl) ?_
  refine xg_t (xg_getf (va := (0, f164_20)) (hF112.get (by decide) (hF96.get (by decide) (hb81.get (by decide) (hb78.get (by decide) (hb75.get (by decide) (hb71.get (by decide) h164_26)))))) rfl) ?_
  refine xg_putI (fl1 := [(2, 2), (0, f164_14), (0, f164_16), (0, f164_18), (2, 3), (2, 14), (0, f164_20), (0, f1_9), (2, 16), (0, f1_11), (2, 18), (2, 20), (2, 22), (2, 24)]) (hF112.get (by decide) (hF96.get (by decide) hk80)) rfl rfl rfl (fun w114 hk115 hb116 => ?_)
  refine xg_t (xg_aload (va := (2, 1)) rfl rfl) ?_
  refine xg_t (xg_aload (va := (2, 164)) rfl rfl) ?_
  refine xg_t (xg_getf (va := (0, f164_22)) (hb116.get (by decide) (hF112.get (by decide) (hF96.get (by decide) (hb81.get (by decide) (hb78.get (by decide) (hb75.get (by decide) (hb71.get (by decide) h164_26))))))) rfl) ?_
  refine xg_putI (fl1 := [(2, 2), (0, f164_14), (0, f164_16), (0, f164_18), (2, 3), (2, 14), (0, f164_20), (0, f164_22), (2, 16), (0, f1_11), (2, 18), (2, 20), (2, 22), (2, 24)]) hk115 rfl rfl rfl (fun w117 hk118 hb119 => ?_)
  refine xg_t (xg_aload (va := (2, 1)) rfl rfl) ?_
  refine xg_t (xg_getf (va := (2, 16)) hk118 rfl) ?_
  refine xg_t (xg_aload (va := (2, 164)) rfl rfl) ?_
  refine xg_t (xg_getf (va := (2, 179)) (hb119.get (by decide) (hb116.get (by decide) (hF112.get (by decide) (hF96.get (by decide) (hb81.get (by decide) (hb78.get (by decide) (hb75.get (by decide) (hb71.get (by decide) h164_26)))))))) rfl) ?_
  obtain ⟨f16_120, h16_122, hb121⟩ := (xqc16 hI95 : cp16 (wget w93 16))
  refine xoI (xqc17 hI95 : cpI 60 7 4294967295 (wget w93 17)) (fun g17_123 h17_124 hb125 => ?_)
  refine xg_cVv mX5_copy (vs := [(2, 179)]) (rest := []) (cn1 := 0) (sl1 := 0) rfl (rcopyX (lim := 12) (wd := 5) (B := 4294967295) (hb119.get (by decide) (hb116.get (by decide) (hF112.get (by decide) h16_122))) (hb119.get (by decide) (hb116.get (by decide) (hF112.get (by decide) (hF96.get (by decide) (hb81.get (by decide) (hb78.get (by decide) (hb75.get (by decide) (hb71.get (by decide) h179_38)))))))) (((h17_124.fr hF112 (by decide)).but hb116 (by decide)).but hb119 (by decide)) ((((((((h180_55.but hb71 (by decide)).but hb75 (by decide)).but hb78 (by decide)).but hb81 (by decide)).fr hF96 (by decide)).fr hF112 (by decide)).but hb116 (by decide)).but hb119 (by decide)) (hb125) (hb56) (by decide) (by omega) (by decide) (by decide) (by decide) (by decide) (by decide) (by decide)) rfl (hb119.get (by decide) (hb116.get (by decide) (hF112.get (by decide) h16_122))) rfl rfl rfl rfl rfl rfl (fun w126 hq127 => ?_)
  obtain ⟨hk128, g129, hr130, hb131, hx133, hF132⟩ := hq127
  refine xg_t (xg_aload (va := (2, 1)) rfl rfl) ?_
  refine xg_t (xg_aload (va := (2, 164)) rfl rfl) ?_
  refine xg_t (xg_getf (va := (0, f164_24)) (hF132.get (by decide) (hb119.get (by decide) (hb116.get (by decide) (hF112.get (by decide) (hF96.get (by decide) (hb81.get (by decide) (hb78.get (by decide) (hb75.get (by decide) (hb71.get (by decide) h164_26))))))))) rfl) ?_
  refine xg_putI (fl1 := [(2, 2), (0, f164_14), (0, f164_16), (0, f164_18), (2, 3), (2, 14), (0, f164_20), (0, f164_22), (2, 16), (0, f164_24), (2, 18), (2, 20), (2, 22), (2, 24)]) (hF132.get (by decide) hk118) rfl rfl rfl (fun w134 hk135 hb136 => ?_)
  refine xg_t (xg_aload (va := (2, 1)) rfl rfl) ?_
  refine xg_t (xg_getf (va := (2, 18)) hk135 rfl) ?_
  refine xg_t (xg_aload (va := (2, 164)) rfl rfl) ?_
  refine xg_t (xg_getf (va := (2, 181)) (hb136.get (by decide) (hF132.get (by decide) (hb119.get (by decide) (hb116.get (by decide) (hF112.get (by decide) (hF96.get (by decide) (hb81.get (by decide) (hb78.get (by decide) (hb75.get (by decide) (hb71.get (by decide) h164_26)))))))))) rfl) ?_
  obtain ⟨f18_137, h18_139, hb138⟩ := (xqc18 hI95 : cp18 (wget w93 18))
  refine xoI (xqc19 hI95 : cpI 12 8 4294967295 (wget w93 19)) (fun g19_140 h19_141 hb142 => ?_)
  refine xg_cVv mX5_copy (vs := [(2, 181)]) (rest := []) (cn1 := 0) (sl1 := 0) rfl (rcopyX (lim := 4) (wd := 3) (B := 4294967295) (hb136.get (by decide) (hF132.get (by decide) (hb119.get (by decide) (hb116.get (by decide) (hF112.get (by decide) h18_139))))) (hb136.get (by decide) (hF132.get (by decide) (hb119.get (by decide) (hb116.get (by decide) (hF112.get (by decide) (hF96.get (by decide) (hb81.get (by decide) (hb78.get (by decide) (hb75.get (by decide) (hb71.get (by decide) h181_41)))))))))) (((((h19_141.fr hF112 (by decide)).but hb116 (by decide)).but hb119 (by decide)).fr hF132 (by decide)).but hb136 (by decide)) ((((((((((h182_58.but hb71 (by decide)).but hb75 (by decide)).but hb78 (by decide)).but hb81 (by decide)).fr hF96 (by decide)).fr hF112 (by decide)).but hb116 (by decide)).but hb119 (by decide)).fr hF132 (by decide)).but hb136 (by decide)) (hb142) (hb59) (by decide) (by omega) (by decide) (by decide) (by decide) (by decide) (by decide) (by decide)) rfl (hb136.get (by decide) (hF132.get (by decide) (hb119.get (by decide) (hb116.get (by decide) (hF112.get (by decide) h18_139))))) rfl rfl rfl rfl rfl rfl (fun w143 hq144 => ?_)
  obtain ⟨hk145, g146, hr147, hb148, hx150, hF149⟩ := hq144
  refine xg_t (xg_aload (va := (2, 1)) rfl rfl) ?_
  refine xg_t (xg_getf (va := (2, 20)) (hF149.get (by decide) hk135) rfl) ?_
  refine xg_t (xg_aload (va := (2, 164)) rfl rfl) ?_
  refine xg_t (xg_getf (va := (2, 183)) (hF149.get (by decide) (hb136.get (by decide) (hF132.get (by decide) (hb119.get (by decide) (hb116.get (by decide) (hF112.get (by decide) (hF96.get (by decide) (hb81.get (by decide) (hb78.get (by decide) (hb75.get (by decide) (hb71.get (by decide) h164_26))))))))))) rfl) ?_
  obtain ⟨f20_151, h20_153, hb152⟩ := (xqc20 hI95 : cp20 (wget w93 20))
  refine xoI (xqc21 hI95 : cpI 48 9 4294967295 (wget w93 21)) (fun g21_154 h21_155 hb156 => ?_)
  refine xg_cVv mX5_copy (vs := [(2, 183)]) (rest := []) (cn1 := 0) (sl1 := 0) rfl (rcopyX (lim := 12) (wd := 4) (B := 4294967295) (hF149.get (by decide) (hb136.get (by decide) (hF132.get (by decide) (hb119.get (by decide) (hb116.get (by decide) (hF112.get (by decide) h20_153)))))) (hF149.get (by decide) (hb136.get (by decide) (hF132.get (by decide) (hb119.get (by decide) (hb116.get (by decide) (hF112.get (by decide) (hF96.get (by decide) (hb81.get (by decide) (hb78.get (by decide) (hb75.get (by decide) (hb71.get (by decide) h183_44))))))))))) ((((((h21_155.fr hF112 (by decide)).but hb116 (by decide)).but hb119 (by decide)).fr hF132 (by decide)).but hb136 (by decide)).fr hF149 (by decide)) (((((((((((h184_61.but hb71 (by decide)).but hb75 (by decide)).but hb78 (by decide)).but hb81 (by decide)).fr hF96 (by decide)).fr hF112 (by decide)).but hb116 (by decide)).but hb119 (by decide)).fr hF132 (by decide)).but hb136 (by decide)).fr hF149 (by decide)) (hb156) (hb62) (by decide) (by omega) (by decide) (by decide) (by decide) (by decide) (by decide) (by decide)) rfl (hF149.get (by decide) (hb136.get (by decide) (hF132.get (by decide) (hb119.get (by decide) (hb116.get (by decide) (hF112.get (by decide) h20_153)))))) rfl rfl rfl rfl rfl rfl (fun w157 hq158 => ?_)
  obtain ⟨hk159, g160, hr161, hb162, hx164, hF163⟩ := hq158
  refine xg_t (xg_aload (va := (2, 1)) rfl rfl) ?_
  refine xg_t (xg_getf (va := (2, 22)) (hF163.get (by decide) (hF149.get (by decide) hk135)) rfl) ?_
  refine xg_t (xg_aload (va := (2, 164)) rfl rfl) ?_
  refine xg_t (xg_getf (va := (2, 185)) (hF163.get (by decide) (hF149.get (by decide) (hb136.get (by decide) (hF132.get (by decide) (hb119.get (by decide) (hb116.get (by decide) (hF112.get (by decide) (hF96.get (by decide) (hb81.get (by decide) (hb78.get (by decide) (hb75.get (by decide) (hb71.get (by decide) h164_26)))))))))))) rfl) ?_
  obtain ⟨f22_165, h22_167, hb166⟩ := (xqc22 hI95 : cp22 (wget w93 22))
  refine xoI (xqc23 hI95 : cpI 32 10 4294967295 (wget w93 23)) (fun g23_168 h23_169 hb170 => ?_)
  refine xg_cVv mX5_copy (vs := [(2, 185)]) (rest := []) (cn1 := 0) (sl1 := 0) rfl (rcopyX (lim := 16) (wd := 2) (B := 4294967295) (hF163.get (by decide) (hF149.get (by decide) (hb136.get (by decide) (hF132.get (by decide) (hb119.get (by decide) (hb116.get (by decide) (hF112.get (by decide) h22_167))))))) (hF163.get (by decide) (hF149.get (by decide) (hb136.get (by decide) (hF132.get (by decide) (hb119.get (by decide) (hb116.get (by decide) (hF112.get (by decide) (hF96.get (by decide) (hb81.get (by decide) (hb78.get (by decide) (hb75.get (by decide) (hb71.get (by decide) h185_47)))))))))))) (((((((h23_169.fr hF112 (by decide)).but hb116 (by decide)).but hb119 (by decide)).fr hF132 (by decide)).but hb136 (by decide)).fr hF149 (by decide)).fr hF163 (by decide)) ((((((((((((h186_64.but hb71 (by decide)).but hb75 (by decide)).but hb78 (by decide)).but hb81 (by decide)).fr hF96 (by decide)).fr hF112 (by decide)).but hb116 (by decide)).but hb119 (by decide)).fr hF132 (by decide)).but hb136 (by decide)).fr hF149 (by decide)).fr hF163 (by decide)) (hb170) (hb65) (by decide) (by omega) (by decide) (by decide) (by decide) (by decide) (by decide) (by decide)) rfl (hF163.get (by decide) (hF149.get (by decide) (hb136.get (by decide) (hF132.get (by decide) (hb119.get (by decide) (hb116.get (by decide) (hF112.get (by decide) h22_167))))))) rfl rfl rfl rfl rfl rfl (fun w171 hq172 => ?_)
  obtain ⟨hk173, g174, hr175, hb176, hx178, hF177⟩ := hq172
  refine xg_t (xg_aload (va := (2, 1)) rfl rfl) ?_
  refine xg_t (xg_getf (va := (2, 24)) (hF177.get (by decide) (hF163.get (by decide) (hF149.get (by decide) hk135))) rfl) ?_
  refine xg_t (xg_aload (va := (2, 164)) rfl rfl) ?_
  refine xg_t (xg_getf (va := (2, 187)) (hF177.get (by decide) (hF163.get (by decide) (hF149.get (by decide) (hb136.get (by decide) (hF132.get (by decide) (hb119.get (by decide) (hb116.get (by decide) (hF112.get (by decide) (hF96.get (by decide) (hb81.get (by decide) (hb78.get (by decide) (hb75.get (by decide) (hb71.get (by decide) h164_26))))))))))))) rfl) ?_
  obtain ⟨f24_179, h24_181, hb180⟩ := (xqc24 hI95 : cp24 (wget w93 24))
  refine xoI (xqc25 hI95 : cpI 320 11 4294967295 (wget w93 25)) (fun g25_182 h25_183 hb184 => ?_)
  refine xg_cVv mX5_copy (vs := [(2, 187)]) (rest := []) (cn1 := 0) (sl1 := 0) rfl (rcopyX (lim := 64) (wd := 5) (B := 4294967295) (hF177.get (by decide) (hF163.get (by decide) (hF149.get (by decide) (hb136.get (by decide) (hF132.get (by decide) (hb119.get (by decide) (hb116.get (by decide) (hF112.get (by decide) h24_181)))))))) (hF177.get (by decide) (hF163.get (by decide) (hF149.get (by decide) (hb136.get (by decide) (hF132.get (by decide) (hb119.get (by decide) (hb116.get (by decide) (hF112.get (by decide) (hF96.get (by decide) (hb81.get (by decide) (hb78.get (by decide) (hb75.get (by decide) (hb71.get (by decide) h187_50))))))))))))) ((((((((h25_183.fr hF112 (by decide)).but hb116 (by decide)).but hb119 (by decide)).fr hF132 (by decide)).but hb136 (by decide)).fr hF149 (by decide)).fr hF163 (by decide)).fr hF177 (by decide)) (((((((((((((h188_67.but hb71 (by decide)).but hb75 (by decide)).but hb78 (by decide)).but hb81 (by decide)).fr hF96 (by decide)).fr hF112 (by decide)).but hb116 (by decide)).but hb119 (by decide)).fr hF132 (by decide)).but hb136 (by decide)).fr hF149 (by decide)).fr hF163 (by decide)).fr hF177 (by decide)) (hb184) (hb68) (by decide) (by omega) (by decide) (by decide) (by decide) (by decide) (by decide) (by decide)) rfl (hF177.get (by decide) (hF163.get (by decide) (hF149.get (by decide) (hb136.get (by decide) (hF132.get (by decide) (hb119.get (by decide) (hb116.get (by decide) (hF112.get (by decide) h24_181)))))))) rfl rfl rfl rfl rfl rfl (fun w185 hq186 => ?_)
  obtain ⟨hk187, g188, hr189, hb190, hx192, hF191⟩ := hq186
  have hq194 : fld w 177 3 = f177_33 := fld_of h177_35
  have hq193 : rwE w185 14 w 177 5 := ⟨((show fld w185 14 3 = f177_33 from fld_of (hF191.get (by decide) (hF177.get (by decide) (hF163.get (by decide) (hF149.get (by decide) (hb136.get (by decide) (hF132.get (by decide) (hb119.get (by decide) (hb116.get (by decide) hk108))))))))).trans (show fld w 177 3 = f177_33 from fld_of h177_35).symm), fun j hj => by
    rw [hq194] at hj
    exact (rwv_of ((((((((hr110.but hb116 (by decide)).but hb119 (by decide)).fr hF132 (by decide)).but hb136 (by decide)).fr hF149 (by decide)).fr hF163 (by decide)).fr hF177 (by decide)).fr hF191 (by decide)) (by omega)).trans ((hx113 j hj).trans (rwv_of h178_52 (by omega)).symm)⟩
  have hq196 : fld w 179 3 = f179_36 := fld_of h179_38
  have hq195 : rwE w185 16 w 179 5 := ⟨((show fld w185 16 3 = f179_36 from fld_of (hF191.get (by decide) (hF177.get (by decide) (hF163.get (by decide) (hF149.get (by decide) (hb136.get (by decide) hk128)))))).trans (show fld w 179 3 = f179_36 from fld_of h179_38).symm), fun j hj => by
    rw [hq196] at hj
    exact (rwv_of (((((hr130.but hb136 (by decide)).fr hF149 (by decide)).fr hF163 (by decide)).fr hF177 (by decide)).fr hF191 (by decide)) (by omega)).trans ((hx133 j hj).trans (rwv_of h180_55 (by omega)).symm)⟩
  have hq198 : fld w 181 3 = f181_39 := fld_of h181_41
  have hq197 : rwE w185 18 w 181 3 := ⟨((show fld w185 18 3 = f181_39 from fld_of (hF191.get (by decide) (hF177.get (by decide) (hF163.get (by decide) hk145)))).trans (show fld w 181 3 = f181_39 from fld_of h181_41).symm), fun j hj => by
    rw [hq198] at hj
    exact (rwv_of (((hr147.fr hF163 (by decide)).fr hF177 (by decide)).fr hF191 (by decide)) (by omega)).trans ((hx150 j hj).trans (rwv_of h182_58 (by omega)).symm)⟩
  have hq200 : fld w 183 3 = f183_42 := fld_of h183_44
  have hq199 : rwE w185 20 w 183 4 := ⟨((show fld w185 20 3 = f183_42 from fld_of (hF191.get (by decide) (hF177.get (by decide) hk159))).trans (show fld w 183 3 = f183_42 from fld_of h183_44).symm), fun j hj => by
    rw [hq200] at hj
    exact (rwv_of ((hr161.fr hF177 (by decide)).fr hF191 (by decide)) (by omega)).trans ((hx164 j hj).trans (rwv_of h184_61 (by omega)).symm)⟩
  have hq202 : fld w 185 3 = f185_45 := fld_of h185_47
  have hq201 : rwE w185 22 w 185 2 := ⟨((show fld w185 22 3 = f185_45 from fld_of (hF191.get (by decide) hk173)).trans (show fld w 185 3 = f185_45 from fld_of h185_47).symm), fun j hj => by
    rw [hq202] at hj
    exact (rwv_of (hr175.fr hF191 (by decide)) (by omega)).trans ((hx178 j hj).trans (rwv_of h186_64 (by omega)).symm)⟩
  have hq204 : fld w 187 3 = f187_48 := fld_of h187_50
  have hq203 : rwE w185 24 w 187 5 := ⟨((show fld w185 24 3 = f187_48 from fld_of hk187).trans (show fld w 187 3 = f187_48 from fld_of h187_50).symm), fun j hj => by
    rw [hq204] at hj
    exact (rwv_of hr189 (by omega)).trans ((hx192 j hj).trans (rwv_of h188_67 (by omega)).symm)⟩
  have hq205 : fmE w185 3 w 166 := hE99.tr (((((((((hF112.up (T := [14, 15, 1, 16, 17, 18, 19, 20, 21, 22, 23, 24, 25]) (by decide)).tr (xFr.of (S := [14, 15, 1, 16, 17, 18, 19, 20, 21, 22, 23, 24, 25]) hb116 (by decide))).tr (xFr.of (S := [14, 15, 1, 16, 17, 18, 19, 20, 21, 22, 23, 24, 25]) hb119 (by decide))).tr (hF132.up (T := [14, 15, 1, 16, 17, 18, 19, 20, 21, 22, 23, 24, 25]) (by decide))).tr (xFr.of (S := [14, 15, 1, 16, 17, 18, 19, 20, 21, 22, 23, 24, 25]) hb136 (by decide))).tr (hF149.up (T := [14, 15, 1, 16, 17, 18, 19, 20, 21, 22, 23, 24, 25]) (by decide))).tr (hF163.up (T := [14, 15, 1, 16, 17, 18, 19, 20, 21, 22, 23, 24, 25]) (by decide))).tr (hF177.up (T := [14, 15, 1, 16, 17, 18, 19, 20, 21, 22, 23, 24, 25]) (by decide))).tr (hF191.up (T := [14, 15, 1, 16, 17, 18, 19, 20, 21, 22, 23, 24, 25]) (by decide))) (by decide) ((((xFr.of (S := [1, 2, 3, 4, 5, 6, 7, 8, 9, 10, 11, 12, 13, 14, 15, 16, 17, 18, 19, 20, 21, 22, 23, 24, 25]) hb71 (by decide)).tr (xFr.of (S := [1, 2, 3, 4, 5, 6, 7, 8, 9, 10, 11, 12, 13, 14, 15, 16, 17, 18, 19, 20, 21, 22, 23, 24, 25]) hb75 (by decide))).tr (xFr.of (S := [1, 2, 3, 4, 5, 6, 7, 8, 9, 10, 11, 12, 13, 14, 15, 16, 17, 18, 19, 20, 21, 22, 23, 24, 25]) hb78 (by decide))).tr (xFr.of (S := [1, 2, 3, 4, 5, 6, 7, 8, 9, 10, 11, 12, 13, 14, 15, 16, 17, 18, 19, 20, 21, 22, 23, 24, 25]) hb81 (by decide))) (by decide)
  have hq206 : ∀ j, j < 500 → rwv w185 2 j = rwv w 165 j := fun j hj => (rwk_of (((((((((((((hr70.but hb75 (by decide)).but hb78 (by decide)).but hb81 (by decide)).fr hF96 (by decide)).fr hF112 (by decide)).but hb116 (by decide)).but hb119 (by decide)).fr hF132 (by decide)).but hb136 (by decide)).fr hF149 (by decide)).fr hF163 (by decide)).fr hF177 (by decide)).fr hF191 (by decide)) hj).trans ((if_pos hj).trans (rwk_of h165_31 hj).symm)
  exact xg_e ⟨w185, ⟨rfl, rfl⟩, xInv.up (S := [14, 15, 1, 16, 17, 18, 19, 20, 21, 22, 23, 24, 25]) hI95 (((((((((hF112.up (T := [14, 15, 1, 16, 17, 18, 19, 20, 21, 22, 23, 24, 25]) (by decide)).tr (xFr.of (S := [14, 15, 1, 16, 17, 18, 19, 20, 21, 22, 23, 24, 25]) hb116 (by decide))).tr (xFr.of (S := [14, 15, 1, 16, 17, 18, 19, 20, 21, 22, 23, 24, 25]) hb119 (by decide))).tr (hF132.up (T := [14, 15, 1, 16, 17, 18, 19, 20, 21, 22, 23, 24, 25]) (by decide))).tr (xFr.of (S := [14, 15, 1, 16, 17, 18, 19, 20, 21, 22, 23, 24, 25]) hb136 (by decide))).tr (hF149.up (T := [14, 15, 1, 16, 17, 18, 19, 20, 21, 22, 23, 24, 25]) (by decide))).tr (hF163.up (T := [14, 15, 1, 16, 17, 18, 19, 20, 21, 22, 23, 24, 25]) (by decide))).tr (hF177.up (T := [14, 15, 1, 16, 17, 18, 19, 20, 21, 22, 23, 24, 25]) (by decide))).tr (hF191.up (T := [14, 15, 1, 16, 17, 18, 19, 20, 21, 22, 23, 24, 25]) (by decide))) (List.forall_mem_cons.mpr ⟨xqu14 (show cp14 (wget w185 14) from ⟨f177_33, (hF191.get (by decide) (hF177.get (by decide) (hF163.get (by decide) (hF149.get (by decide) (hb136.get (by decide) (hF132.get (by decide) (hb119.get (by decide) (hb116.get (by decide) hk108)))))))), hb34⟩), List.forall_mem_cons.mpr ⟨xqu15 (show cpI 200 6 4294967295 (wget w185 15) from ⟨_, ((((((((hr110.but hb116 (by decide)).but hb119 (by decide)).fr hF132 (by decide)).but hb136 (by decide)).fr hF149 (by decide)).fr hF163 (by decide)).fr hF177 (by decide)).fr hF191 (by decide)), hb111⟩), List.forall_mem_cons.mpr ⟨xqu1 (show cp1 (wget w185 1) from xmC1 f164_14 f164_16 f164_18 f164_20 f164_22 f164_24 (hF191.get (by decide) (hF177.get (by decide) (hF163.get (by decide) (hF149.get (by decide) hk135)))) hb15 hb17 hb19 hb21 hb23 hb25), List.forall_mem_cons.mpr ⟨xqu16 (show cp16 (wget w185 16) from ⟨f179_36, (hF191.get (by decide) (hF177.get (by decide) (hF163.get (by decide) (hF149.get (by decide) (hb136.get (by decide) hk128))))), hb37⟩), List.forall_mem_cons.mpr ⟨xqu17 (show cpI 60 7 4294967295 (wget w185 17) from ⟨_, (((((hr130.but hb136 (by decide)).fr hF149 (by decide)).fr hF163 (by decide)).fr hF177 (by decide)).fr hF191 (by decide)), hb131⟩), List.forall_mem_cons.mpr ⟨xqu18 (show cp18 (wget w185 18) from ⟨f181_39, (hF191.get (by decide) (hF177.get (by decide) (hF163.get (by decide) hk145))), hb40⟩), List.forall_mem_cons.mpr ⟨xqu19 (show cpI 12 8 4294967295 (wget w185 19) from ⟨_, (((hr147.fr hF163 (by decide)).fr hF177 (by decide)).fr hF191 (by decide)), hb148⟩), List.forall_mem_cons.mpr ⟨xqu20 (show cp20 (wget w185 20) from ⟨f183_42, (hF191.get (by decide) (hF177.get (by decide) hk159)), hb43⟩), List.forall_mem_cons.mpr ⟨xqu21 (show cpI 48 9 4294967295 (wget w185 21) from ⟨_, ((hr161.fr hF177 (by decide)).fr hF191 (by decide)), hb162⟩), List.forall_mem_cons.mpr ⟨xqu22 (show cp22 (wget w185 22) from ⟨f185_45, (hF191.get (by decide) hk173), hb46⟩), List.forall_mem_cons.mpr ⟨xqu23 (show cpI 32 10 4294967295 (wget w185 23) from ⟨_, (hr175.fr hF191 (by decide)), hb176⟩), List.forall_mem_cons.mpr ⟨xqu24 (show cp24 (wget w185 24) from ⟨f187_48, hk187, hb49⟩), List.forall_mem_cons.mpr ⟨xqu25 (show cpI 320 11 4294967295 (wget w185 25) from ⟨_, hr189, hb190⟩), fun _ h => absurd h List.not_mem_nil⟩⟩⟩⟩⟩⟩⟩⟩⟩⟩⟩⟩⟩), ((((((xFr.of (S := [1, 2, 3, 4, 5, 6, 7, 8, 9, 10, 11, 12, 13, 14, 15, 16, 17, 18, 19, 20, 21, 22, 23, 24, 25]) hb71 (by decide)).tr (xFr.of (S := [1, 2, 3, 4, 5, 6, 7, 8, 9, 10, 11, 12, 13, 14, 15, 16, 17, 18, 19, 20, 21, 22, 23, 24, 25]) hb75 (by decide))).tr (xFr.of (S := [1, 2, 3, 4, 5, 6, 7, 8, 9, 10, 11, 12, 13, 14, 15, 16, 17, 18, 19, 20, 21, 22, 23, 24, 25]) hb78 (by decide))).tr (xFr.of (S := [1, 2, 3, 4, 5, 6, 7, 8, 9, 10, 11, 12, 13, 14, 15, 16, 17, 18, 19, 20, 21, 22, 23, 24, 25]) hb81 (by decide))).tr (hF96.up (by decide))).tr (((((((((hF112.up (T := [1, 2, 3, 4, 5, 6, 7, 8, 9, 10, 11, 12, 13, 14, 15, 16, 17, 18, 19, 20, 21, 22, 23, 24, 25]) (by decide)).tr (xFr.of (S := [1, 2, 3, 4, 5, 6, 7, 8, 9, 10, 11, 12, 13, 14, 15, 16, 17, 18, 19, 20, 21, 22, 23, 24, 25]) hb116 (by decide))).tr (xFr.of (S := [1, 2, 3, 4, 5, 6, 7, 8, 9, 10, 11, 12, 13, 14, 15, 16, 17, 18, 19, 20, 21, 22, 23, 24, 25]) hb119 (by decide))).tr (hF132.up (T := [1, 2, 3, 4, 5, 6, 7, 8, 9, 10, 11, 12, 13, 14, 15, 16, 17, 18, 19, 20, 21, 22, 23, 24, 25]) (by decide))).tr (xFr.of (S := [1, 2, 3, 4, 5, 6, 7, 8, 9, 10, 11, 12, 13, 14, 15, 16, 17, 18, 19, 20, 21, 22, 23, 24, 25]) hb136 (by decide))).tr (hF149.up (T := [1, 2, 3, 4, 5, 6, 7, 8, 9, 10, 11, 12, 13, 14, 15, 16, 17, 18, 19, 20, 21, 22, 23, 24, 25]) (by decide))).tr (hF163.up (T := [1, 2, 3, 4, 5, 6, 7, 8, 9, 10, 11, 12, 13, 14, 15, 16, 17, 18, 19, 20, 21, 22, 23, 24, 25]) (by decide))).tr (hF177.up (T := [1, 2, 3, 4, 5, 6, 7, 8, 9, 10, 11, 12, 13, 14, 15, 16, 17, 18, 19, 20, 21, 22, 23, 24, 25]) (by decide))).tr (hF191.up (T := [1, 2, 3, 4, 5, 6, 7, 8, 9, 10, 11, 12, 13, 14, 15, 16, 17, 18, 19, 20, 21, 22, 23, 24, 25]) (by decide)))), ⟨xIm.up (S := [14, 15, 1, 16, 17, 18, 19, 20, 21, 22, 23, 24, 25]) hJ98 (((((((((hF112.up (T := [14, 15, 1, 16, 17, 18, 19, 20, 21, 22, 23, 24, 25]) (by decide)).tr (xFr.of (S := [14, 15, 1, 16, 17, 18, 19, 20, 21, 22, 23, 24, 25]) hb116 (by decide))).tr (xFr.of (S := [14, 15, 1, 16, 17, 18, 19, 20, 21, 22, 23, 24, 25]) hb119 (by decide))).tr (hF132.up (T := [14, 15, 1, 16, 17, 18, 19, 20, 21, 22, 23, 24, 25]) (by decide))).tr (xFr.of (S := [14, 15, 1, 16, 17, 18, 19, 20, 21, 22, 23, 24, 25]) hb136 (by decide))).tr (hF149.up (T := [14, 15, 1, 16, 17, 18, 19, 20, 21, 22, 23, 24, 25]) (by decide))).tr (hF163.up (T := [14, 15, 1, 16, 17, 18, 19, 20, 21, 22, 23, 24, 25]) (by decide))).tr (hF177.up (T := [14, 15, 1, 16, 17, 18, 19, 20, 21, 22, 23, 24, 25]) (by decide))).tr (hF191.up (T := [14, 15, 1, 16, 17, 18, 19, 20, 21, 22, 23, 24, 25]) (by decide))) (List.forall_mem_cons.mpr ⟨(fun h => absurd h (by omega)), List.forall_mem_cons.mpr ⟨(fun h => absurd h (by omega)), List.forall_mem_cons.mpr ⟨(fun h => absurd h (by omega)), List.forall_mem_cons.mpr ⟨(fun h => absurd h (by omega)), List.forall_mem_cons.mpr ⟨(fun h => absurd h (by omega)), List.forall_mem_cons.mpr ⟨(fun h => absurd h (by omega)), List.forall_mem_cons.mpr ⟨(fun h => absurd h (by omega)), List.forall_mem_cons.mpr ⟨(fun h => absurd h (by omega)), List.forall_mem_cons.mpr ⟨(fun h => absurd h (by omega)), List.forall_mem_cons.mpr ⟨(fun h => absurd h (by omega)), List.forall_mem_cons.mpr ⟨(fun h => absurd h (by omega)), List.forall_mem_cons.mpr ⟨(fun h => absurd h (by omega)), List.forall_mem_cons.mpr ⟨(fun h => absurd h (by omega)), fun _ h => absurd h List.not_mem_nil⟩⟩⟩⟩⟩⟩⟩⟩⟩⟩⟩⟩⟩), ⟨((show fld w185 1 1 = f164_14 from fld_of (hF191.get (by decide) (hF177.get (by decide) (hF163.get (by decide) (hF149.get (by decide) hk135))))).trans (show fld w 164 1 = f164_14 from fld_of h164_26).symm), ((show fld w185 1 2 = f164_16 from fld_of (hF191.get (by decide) (hF177.get (by decide) (hF163.get (by decide) (hF149.get (by decide) hk135))))).trans (show fld w 164 2 = f164_16 from fld_of h164_26).symm), ((show fld w185 1 3 = f164_18 from fld_of (hF191.get (by decide) (hF177.get (by decide) (hF163.get (by decide) (hF149.get (by decide) hk135))))).trans (show fld w 164 3 = f164_18 from fld_of h164_26).symm), ((show fld w185 1 6 = f164_20 from fld_of (hF191.get (by decide) (hF177.get (by decide) (hF163.get (by decide) (hF149.get (by decide) hk135))))).trans (show fld w 164 6 = f164_20 from fld_of h164_26).symm), ((show fld w185 1 7 = f164_22 from fld_of (hF191.get (by decide) (hF177.get (by decide) (hF163.get (by decide) (hF149.get (by decide) hk135))))).trans (show fld w 164 7 = f164_22 from fld_of h164_26).symm), ((show fld w185 1 9 = f164_24 from fld_of (hF191.get (by decide) (hF177.get (by decide) (hF163.get (by decide) (hF149.get (by decide) hk135))))).trans (show fld w 164 9 = f164_24 from fld_of h164_26).symm)⟩, hq206, hq205, hq193, hq195, hq197, hq199, hq201, hq203⟩⟩
theorem lwForgetE (hI : xInv w)  : xPq d mX4_forget [(2, 76)] w bd fc rr [] (fun w' => xInv w' ∧ xFr [76] w w' ∧ (fld w' 76 9 = 0 ∧ fld w' 76 10 = 0 ∧ fld w' 76 11 = 0)) := by
  refine xPq.of ?_
  show xTo d mX4_forget (0, [], [(0, (2, 76))], [], (w, bd, fc, 0, 0, rr)) (fun φ => ∃ w', xEnd 0 [] (w', bd, fc, 0, 0, rr) φ ∧ xInv w' ∧ xFr [76] w w' ∧ (fld w' 76 9 = 0 ∧ fld w' 76 10 = 0 ∧ fld w' 76 11 = 0))
  refine xg_t (xg_blq rfl) ?_
  refine xg_t (xg_aload (va := (2, 76)) rfl rfl) ?_
  refine xg_t (xg_const) ?_
  refine xoC76 (xqc76 hI : cp76 (wget w 76)) (fun f76_1 f76_3 f76_5 f76_7 f76_9 f76_11 f76_13 f76_15 h76_17 hb2 hb4 hb6 hb8 hb10 hb12 hb14 hb16 => ?_)
  refine xg_putZ (fl1 := [(2, 20), (2, 77), (2, 78), (2, 79), (0, f76_1), (0, f76_3), (0, f76_5), (0, f76_7), (0, f76_9), (0, 0), (0, f76_13), (0, f76_15)]) h76_17 rfl rfl rfl (fun w18 hk19 hb20 => ?_)
  refine xg_t (xg_aload (va := (2, 76)) rfl rfl) ?_
  refine xg_t (xg_const) ?_
  refine xg_putZ (fl1 := [(2, 20), (2, 77), (2, 78), (2, 79), (0, f76_1), (0, f76_3), (0, f76_5), (0, f76_7), (0, f76_9), (0, 0), (0, 0), (0, f76_15)]) hk19 rfl rfl rfl (fun w21 hk22 hb23 => ?_)
  refine xg_t (xg_aload (va := (2, 76)) rfl rfl) ?_
  refine xg_t (xg_const) ?_
  refine xg_putZ (fl1 := [(2, 20), (2, 77), (2, 78), (2, 79), (0, f76_1), (0, f76_3), (0, f76_5), (0, f76_7), (0, f76_9), (0, 0), (0, 0), (0, 0)]) hk22 rfl rfl rfl (fun w24 hk25 hb26 => ?_)
  exact xg_e ⟨w24, ⟨rfl, rfl⟩, xInv.up (S := [76]) hI (((xFr.of (S := [76]) hb20 (by decide)).tr (xFr.of (S := [76]) hb23 (by decide))).tr (xFr.of (S := [76]) hb26 (by decide))) (List.forall_mem_cons.mpr ⟨xqu76 (show cp76 (wget w24 76) from xmC76 f76_1 f76_3 f76_5 f76_7 f76_9 0 0 0 hk25 hb2 hb4 hb6 hb8 hb10 (by decide) (by decide) (by decide)), fun _ h => absurd h List.not_mem_nil⟩), (((xFr.of (S := [76]) hb20 (by decide)).tr (xFr.of (S := [76]) hb23 (by decide))).tr (xFr.of (S := [76]) hb26 (by decide))), ⟨fld_of hk25, fld_of hk25, fld_of hk25⟩⟩
theorem bdForgetE (hI : xInv w)  : xPq d mX0_forgetOrder [(2, 49)] w bd fc rr [] (fun w' => xInv w' ∧ xFr [49] w w' ∧ (fld w' 49 10 = 0)) := by
  refine xPq.of ?_
  show xTo d mX0_forgetOrder (0, [], [(0, (2, 49))], [], (w, bd, fc, 0, 0, rr)) (fun φ => ∃ w', xEnd 0 [] (w', bd, fc, 0, 0, rr) φ ∧ xInv w' ∧ xFr [49] w w' ∧ (fld w' 49 10 = 0))
  refine xg_t (xg_blq rfl) ?_
  refine xg_t (xg_aload (va := (2, 49)) rfl rfl) ?_
  refine xg_t (xg_const) ?_
  refine xoC49 (xqc49 hI : cp49 (wget w 49)) (fun f49_1 f49_3 h49_5 hb2 hb4 => ?_)
  refine xg_putZ (fl1 := [(2, 3), (2, 50), (2, 51), (2, 52), (2, 53), (2, 54), (2, 55), (2, 56), (2, 57), (0, f49_1), (0, 0)]) h49_5 rfl rfl rfl (fun w6 hk7 hb8 => ?_)
  exact xg_e ⟨w6, ⟨rfl, rfl⟩, xInv.up (S := [49]) hI (xFr.of (S := [49]) hb8 (by decide)) (List.forall_mem_cons.mpr ⟨xqu49 (show cp49 (wget w6 49) from ⟨f49_1, 0, hk7, hb2, by decide⟩), fun _ h => absurd h List.not_mem_nil⟩), (xFr.of (S := [49]) hb8 (by decide)), fld_of hk7⟩
theorem wyForgetE (hI : xInv w)  : xPq d mX10_forget [(2, 58)] w bd fc rr [] (fun w' => xInv w' ∧ xFr [58] w w' ∧ (fld w' 58 12 = 0)) := by
  refine xPq.of ?_
  show xTo d mX10_forget (0, [], [(0, (2, 58))], [], (w, bd, fc, 0, 0, rr)) (fun φ => ∃ w', xEnd 0 [] (w', bd, fc, 0, 0, rr) φ ∧ xInv w' ∧ xFr [58] w w' ∧ (fld w' 58 12 = 0))
  refine xg_t (xg_blq rfl) ?_
  refine xg_t (xg_aload (va := (2, 58)) rfl rfl) ?_
  refine xg_t (xg_const) ?_
  refine xoC58 (xqc58 hI : cp58 (wget w 58)) (fun f58_1 f58_3 f58_5 h58_7 hb2 hb4 hb6 => ?_)
  refine xg_putZ (fl1 := [(2, 1), (2, 59), (2, 60), (2, 61), (2, 62), (2, 63), (2, 64), (2, 65), (2, 66), (2, 67), (0, f58_1), (0, f58_3), (0, 0)]) h58_7 rfl rfl rfl (fun w8 hk9 hb10 => ?_)
  exact xg_e ⟨w8, ⟨rfl, rfl⟩, xInv.up (S := [58]) hI (xFr.of (S := [58]) hb10 (by decide)) (List.forall_mem_cons.mpr ⟨xqu58 (show cp58 (wget w8 58) from xmC58 f58_1 f58_3 0 hk9 hb2 hb4 (by decide)), fun _ h => absurd h List.not_mem_nil⟩), (xFr.of (S := [58]) hb10 (by decide)), fld_of hk9⟩
theorem lmForgetAE (hI : xInv w)  : xPq d mX3_forgetAges [(2, 68)] w bd fc rr [] (fun w' => xInv w' ∧ xFr [68] w w' ∧ (fld w' 68 4 = 0)) := by
  refine xPq.of ?_
  show xTo d mX3_forgetAges (0, [], [(0, (2, 68))], [], (w, bd, fc, 0, 0, rr)) (fun φ => ∃ w', xEnd 0 [] (w', bd, fc, 0, 0, rr) φ ∧ xInv w' ∧ xFr [68] w w' ∧ (fld w' 68 4 = 0))
  refine xg_t (xg_blq rfl) ?_
  refine xg_t (xg_aload (va := (2, 68)) rfl rfl) ?_
  refine xg_t (xg_const) ?_
  refine xoC68 (xqc68 hI : cp68 (wget w 68)) (fun f68_1 f68_3 h68_5 hb2 hb4 => ?_)
  refine xg_putZ (fl1 := [(2, 1), (2, 69), (2, 70), (2, 71), (0, 0), (0, f68_3)]) h68_5 rfl rfl rfl (fun w6 hk7 hb8 => ?_)
  exact xg_e ⟨w6, ⟨rfl, rfl⟩, xInv.up (S := [68]) hI (xFr.of (S := [68]) hb8 (by decide)) (List.forall_mem_cons.mpr ⟨xqu68 (show cp68 (wget w6 68) from ⟨0, f68_3, hk7, by decide, hb4⟩), fun _ h => absurd h List.not_mem_nil⟩), (xFr.of (S := [68]) hb8 (by decide)), fld_of hk7⟩
theorem lmForgetDE (hI : xInv w)  : xPq d mX3_forgetDamp [(2, 68)] w bd fc rr [] (fun w' => xInv w' ∧ xFr [68] w w' ∧ (fld w' 68 5 = 0 ∧ fld w' 68 4 = fld w 68 4)) := by
  refine xPq.of ?_
  show xTo d mX3_forgetDamp (0, [], [(0, (2, 68))], [], (w, bd, fc, 0, 0, rr)) (fun φ => ∃ w', xEnd 0 [] (w', bd, fc, 0, 0, rr) φ ∧ xInv w' ∧ xFr [68] w w' ∧ (fld w' 68 5 = 0 ∧ fld w' 68 4 = fld w 68 4))
  refine xoC68 (xqc68 hI : cp68 (wget w 68)) (fun f68_1 f68_3 h68_5 hb2 hb4 => ?_)
  refine xg_t (xg_blq rfl) ?_
  refine xg_t (xg_aload (va := (2, 68)) rfl rfl) ?_
  refine xg_t (xg_const) ?_
  refine xg_putZ (fl1 := [(2, 1), (2, 69), (2, 70), (2, 71), (0, f68_1), (0, 0)]) h68_5 rfl rfl rfl (fun w6 hk7 hb8 => ?_)
  exact xg_e ⟨w6, ⟨rfl, rfl⟩, xInv.up (S := [68]) hI (xFr.of (S := [68]) hb8 (by decide)) (List.forall_mem_cons.mpr ⟨xqu68 (show cp68 (wget w6 68) from ⟨f68_1, 0, hk7, hb2, by decide⟩), fun _ h => absurd h List.not_mem_nil⟩), (xFr.of (S := [68]) hb8 (by decide)), ⟨fld_of hk7, ((show fld w6 68 4 = f68_1 from fld_of hk7).trans (show fld w 68 4 = f68_1 from fld_of h68_5).symm)⟩⟩
theorem shForgetE (hI : xInv w)  : xPq d mX7_forget [(2, 72)] w bd fc rr [] (fun w' => xInv w' ∧ xFr [72] w w' ∧ (fld w' 72 3 = 0 ∧ fld w' 72 4 = 0)) := by
  refine xPq.of ?_
  show xTo d mX7_forget (0, [], [(0, (2, 72))], [], (w, bd, fc, 0, 0, rr)) (fun φ => ∃ w', xEnd 0 [] (w', bd, fc, 0, 0, rr) φ ∧ xInv w' ∧ xFr [72] w w' ∧ (fld w' 72 3 = 0 ∧ fld w' 72 4 = 0))
  refine xg_t (xg_blq rfl) ?_
  refine xg_t (xg_aload (va := (2, 72)) rfl rfl) ?_
  refine xg_t (xg_const) ?_
  refine xoC72 (xqc72 hI : cp72 (wget w 72)) (fun f72_1 f72_3 h72_5 hb2 hb4 => ?_)
  refine xg_putZ (fl1 := [(2, 3), (2, 73), (2, 74), (0, 0), (0, f72_3)]) h72_5 rfl rfl rfl (fun w6 hk7 hb8 => ?_)
  refine xg_t (xg_aload (va := (2, 72)) rfl rfl) ?_
  refine xg_t (xg_const) ?_
  refine xg_putZ (fl1 := [(2, 3), (2, 73), (2, 74), (0, 0), (0, 0)]) hk7 rfl rfl rfl (fun w9 hk10 hb11 => ?_)
  exact xg_e ⟨w9, ⟨rfl, rfl⟩, xInv.up (S := [72]) hI ((xFr.of (S := [72]) hb8 (by decide)).tr (xFr.of (S := [72]) hb11 (by decide))) (List.forall_mem_cons.mpr ⟨xqu72 (show cp72 (wget w9 72) from ⟨0, 0, hk10, by decide, by decide⟩), fun _ h => absurd h List.not_mem_nil⟩), ((xFr.of (S := [72]) hb8 (by decide)).tr (xFr.of (S := [72]) hb11 (by decide))), ⟨fld_of hk10, fld_of hk10⟩⟩
theorem scForgetFilmE (hI : xInv w)  : xPq (d + 1) mX11_forgetFilm [(2, 0)] w bd fc rr [] (fun w' => xInv w' ∧ xFr [49, 58, 68, 72] w w' ∧ (fgE w')) := by
  refine xPq.of ?_
  show xTo (d + 1) mX11_forgetFilm (0, [], [(0, (2, 0))], [], (w, bd, fc, 0, 0, rr)) (fun φ => ∃ w', xEnd 0 [] (w', bd, fc, 0, 0, rr) φ ∧ xInv w' ∧ xFr [49, 58, 68, 72] w w' ∧ (fgE w'))
  have h0_1 := (xqc0 hI : cp0 (wget w 0))
  refine xg_t (xg_blq rfl) ?_
  refine xg_t (xg_aload (va := (2, 0)) rfl rfl) ?_
  refine xg_t (xg_getf (va := (2, 49)) h0_1 rfl) ?_
  refine xoC49 (xqc49 hI : cp49 (wget w 49)) (fun f49_2 f49_4 h49_6 hb3 hb5 => ?_)
  refine xg_cVv mX0_forgetOrder (vs := []) (rest := []) (cn1 := 0) (sl1 := 0) rfl (bdForgetE (hI)) rfl h49_6 rfl rfl rfl rfl rfl rfl (fun w7 hq8 => ?_)
  obtain ⟨hI9, hF10, hx11⟩ := hq8
  refine xg_t (xg_aload (va := (2, 0)) rfl rfl) ?_
  refine xg_t (xg_getf (va := (2, 58)) (hF10.get (by decide) h0_1) rfl) ?_
  refine xoC58 (xqc58 hI9 : cp58 (wget w7 58)) (fun f58_12 f58_14 f58_16 h58_18 hb13 hb15 hb17 => ?_)
  refine xg_cVv mX10_forget (vs := []) (rest := []) (cn1 := 0) (sl1 := 0) rfl (wyForgetE (hI9)) rfl h58_18 rfl rfl rfl rfl rfl rfl (fun w19 hq20 => ?_)
  obtain ⟨hI21, hF22, hx23⟩ := hq20
  refine xg_t (xg_aload (va := (2, 0)) rfl rfl) ?_
  refine xg_t (xg_getf (va := (2, 68)) (hF22.get (by decide) (hF10.get (by decide) h0_1)) rfl) ?_
  refine xoC68 (xqc68 hI21 : cp68 (wget w19 68)) (fun f68_24 f68_26 h68_28 hb25 hb27 => ?_)
  refine xg_cVv mX3_forgetAges (vs := []) (rest := []) (cn1 := 0) (sl1 := 0) rfl (lmForgetAE (hI21)) rfl h68_28 rfl rfl rfl rfl rfl rfl (fun w29 hq30 => ?_)
  obtain ⟨hI31, hF32, hx33⟩ := hq30
  refine xg_t (xg_aload (va := (2, 0)) rfl rfl) ?_
  refine xg_t (xg_getf (va := (2, 68)) (hF32.get (by decide) (hF22.get (by decide) (hF10.get (by decide) h0_1))) rfl) ?_
  refine xoC68 (xqc68 hI31 : cp68 (wget w29 68)) (fun f68_34 f68_36 h68_38 hb35 hb37 => ?_)
  refine xg_cVv mX3_forgetDamp (vs := []) (rest := []) (cn1 := 0) (sl1 := 0) rfl (lmForgetDE (hI31)) rfl h68_38 rfl rfl rfl rfl rfl rfl (fun w39 hq40 => ?_)
  obtain ⟨hI41, hF42, hx43⟩ := hq40
  obtain ⟨hg44, hg45⟩ := hx43
  refine xg_t (xg_aload (va := (2, 0)) rfl rfl) ?_
  refine xg_t (xg_getf (va := (2, 72)) (hF42.get (by decide) (hF32.get (by decide) (hF22.get (by decide) (hF10.get (by decide) h0_1)))) rfl) ?_
  refine xoC72 (xqc72 hI41 : cp72 (wget w39 72)) (fun f72_46 f72_48 h72_50 hb47 hb49 => ?_)
  refine xg_cVv mX7_forget (vs := []) (rest := []) (cn1 := 0) (sl1 := 0) rfl (shForgetE (hI41)) rfl h72_50 rfl rfl rfl rfl rfl rfl (fun w51 hq52 => ?_)
  obtain ⟨hI53, hF54, hx55⟩ := hq52
  obtain ⟨hg56, hg57⟩ := hx55
  exact xg_e ⟨w51, ⟨rfl, rfl⟩, hI53, (((((hF10.up (by decide)).tr (hF22.up (by decide))).tr (hF32.up (by decide))).tr (hF42.up (by decide))).tr (hF54.up (by decide))), ⟨(((fld_fr hF54 (by decide)).trans ((fld_fr hF42 (by decide)).trans ((fld_fr hF32 (by decide)).trans (fld_fr hF22 (by decide))))).trans hx11), (((fld_fr hF54 (by decide)).trans ((fld_fr hF42 (by decide)).trans (fld_fr hF32 (by decide)))).trans hx23), ⟨((fld_fr hF54 (by decide)).trans (hg45.trans hx33)), ((fld_fr hF54 (by decide)).trans hg44)⟩, hg56, hg57⟩⟩
set_option maxRecDepth 100000 in
theorem scAgainE {us0 : List (Nat × xV)} {mm : Nat} {kk : Nat} (hI : xInv w) (hkk : kk ≤ 4294967295) (h26 : wget w 26 = some (.inr (4, 3, 12, us0))) (hv : xR26 mm us0) (hmm : mm ≤ 3) (hM : xIm 114 (114 + 25 * mm) w) : xPi (d + 4) mX11_again [(2, 0), (0, kk)] w bd fc rr (fun n w' => ((n = 1 ∧ kk ≤ 2 ∧ ∃ q, q < mm ∧ xat 4 us0 kk = (2, 114 + 25 * q) ∧ tdE w' 1 w (114 + 25 * q) ∧ fgE w' ∧ fld w' 76 9 = 0 ∧ fld w' 76 10 = 0 ∧ fld w' 76 11 = 0) ∨ (n = 0 ∧ ¬ (kk ≤ 2 ∧ xat 4 us0 kk ≠ (3, 0)) ∧ w' = w)) ∧ xInv w' ∧ xFr [1, 2, 3, 4, 5, 6, 7, 8, 9, 10, 11, 12, 13, 14, 15, 16, 17, 18, 19, 20, 21, 22, 23, 24, 25, 49, 58, 68, 72, 76] w w') := by
  refine xPi.of ?_
  show xTo (d + 4) mX11_again (0, [], [(0, (2, 0)), (1, (0, kk))], [], (w, bd, fc, 0, 0, rr)) (fun φ => ∃ n w', xEnd 4 [(0, n)] (w', bd, fc, 0, 0, rr) φ ∧ ((n = 1 ∧ kk ≤ 2 ∧ ∃ q, q < mm ∧ xat 4 us0 kk = (2, 114 + 25 * q) ∧ tdE w' 1 w (114 + 25 * q) ∧ fgE w' ∧ fld w' 76 9 = 0 ∧ fld w' 76 10 = 0 ∧ fld w' 76 11 = 0) ∨ (n = 0 ∧ ¬ (kk ≤ 2 ∧ xat 4 us0 kk ≠ (3, 0)) ∧ w' = w)) ∧ xInv w' ∧ xFr [1, 2, 3, 4, 5, 6, 7, 8, 9, 10, 11, 12, 13, 14, 15, 16, 17, 18, 19, 20, 21, 22, 23, 24, 25, 49, 58, 68, 72, 76] w w')
  have h0_1 := (xqc0 hI : cp0 (wget w 0))
  refine xg_t (xg_blq rfl) ?_
  refine xg_t (xg_iload (va := (0, kk)) rfl rfl) ?_
  refine xg_t (xg_const) ?_
  refine xg_t (xg_const) ?_
  refine xg_t (xg_cSr mX11_isIn (vs := [(0, kk), (0, 0), (0, 2)]) (rest := []) (rs := [(0, if 0 ≤ kk ∧ kk ≤ 2 then 1 else 0)]) (cn1 := 0) (sl1 := 0) rfl (isIn_ok (by omega) (by omega) (by omega)) rfl rfl rfl rfl rfl rfl rfl rfl) ?_
  by_cases hc2 : 0 ≤ kk ∧ kk ≤ 2
  · refine xg_t (xg_ifF (u := (if 0 ≤ kk ∧ kk ≤ 2 then 1 else 0)) rfl xnm0 (xj_eqF (xite1 hc2))) ?_
    refine xg_t (xg_aload (va := (2, 0)) rfl rfl) ?_
    refine xg_t (xg_getf (va := (2, 26)) h0_1 rfl) ?_
    refine xg_t (xg_iload (va := (0, kk)) rfl rfl) ?_
    rcases hv kk (by omega) with hz3 | ⟨q4, hq5, hz3⟩
    · refine xg_t (xg_aald (n := kk) (vb := (3, 0)) h26 xnm0 (by omega) hz3) ?_
      refine xg_t (xg_ifnnF) ?_
      refine xg_t (xg_blq rfl) ?_
      refine xg_t (xg_const) ?_
      exact xg_e ⟨0, w, ⟨rfl, rfl⟩, Or.inr ⟨rfl, fun z => z.2 hz3, rfl⟩, hI, xFr.rf⟩
    · rcases (show q4 = 0 ∨ q4 = 1 ∨ q4 = 2 by omega) with rfl | rfl | rfl
      · refine xg_t (xg_aald (n := kk) (vb := (2, 114)) h26 xnm0 (by omega) hz3) ?_
        refine xg_t (xg_ifnnT) ?_
        refine xg_t (xg_blq rfl) ?_
        refine xg_t (xg_aload (va := (2, 0)) rfl rfl) ?_
        refine xg_t (xg_getf (va := (2, 1)) h0_1 rfl) ?_
        refine xg_t (xg_aload (va := (2, 0)) rfl rfl) ?_
        refine xg_t (xg_getf (va := (2, 26)) h0_1 rfl) ?_
        refine xg_t (xg_iload (va := (0, kk)) rfl rfl) ?_
        refine xg_t (xg_aald (n := kk) (vb := (2, 114)) h26 xnm0 (by omega) hz3) ?_
        refine xoC1 (xqc1 hI : cp1 (wget w 1)) (fun f1_6 f1_8 f1_10 f1_12 f1_14 f1_16 h1_18 hb7 hb9 hb11 hb13 hb15 hb17 => ?_)
        refine xg_cVv mX9_copy (vs := [(2, 114)]) (rest := []) (cn1 := 0) (sl1 := 0) rfl (imToldE00 (hI) (xIm.sub hM (by omega) (by omega))) rfl h1_18 rfl rfl rfl rfl rfl rfl (fun w19 hq20 => ?_)
        obtain ⟨hI21, hF22, hx23⟩ := hq20
        obtain ⟨hJ24, hE25⟩ := hx23
        refine xg_t (xg_aload (va := (2, 0)) rfl rfl) ?_
        refine xg_cVv mX11_forgetFilm (vs := []) (rest := []) (cn1 := 0) (sl1 := 0) rfl (scForgetFilmE (hI21)) rfl (hF22.get (by decide) h0_1) rfl rfl rfl rfl rfl rfl (fun w26 hq27 => ?_)
        obtain ⟨hI28, hF29, hx30⟩ := hq27
        refine xg_t (xg_aload (va := (2, 0)) rfl rfl) ?_
        refine xg_t (xg_getf (va := (2, 76)) (hF29.get (by decide) (hF22.get (by decide) h0_1)) rfl) ?_
        refine xoC76 (xqc76 hI28 : cp76 (wget w26 76)) (fun f76_31 f76_33 f76_35 f76_37 f76_39 f76_41 f76_43 f76_45 h76_47 hb32 hb34 hb36 hb38 hb40 hb42 hb44 hb46 => ?_)
        refine xg_cVv mX4_forget (vs := []) (rest := []) (cn1 := 0) (sl1 := 0) rfl (lwForgetE (hI28)) rfl h76_47 rfl rfl rfl rfl rfl rfl (fun w48 hq49 => ?_)
        obtain ⟨hI50, hF51, hx52⟩ := hq49
        obtain ⟨hg53, hg54, hg55⟩ := hx52
        refine xg_t (xg_const) ?_
        have hq56 : fgE w48 := by
          obtain ⟨g1, g2, ⟨g3, g4⟩, g5, g6⟩ := hx30
          exact ⟨(fld_fr hF51 (by decide)).trans g1, (fld_fr hF51 (by decide)).trans g2, ⟨(fld_fr hF51 (by decide)).trans g3, (fld_fr hF51 (by decide)).trans g4⟩, (fld_fr hF51 (by decide)).trans g5, (fld_fr hF51 (by decide)).trans g6⟩
        exact xg_e ⟨1, w48, ⟨rfl, rfl⟩, Or.inl ⟨rfl, by omega, 0, by omega, hz3, hE25.tr ((hF29.up (T := [49, 58, 68, 72, 76]) (by decide)).tr (hF51.up (T := [49, 58, 68, 72, 76]) (by decide))) (by decide) (xFr.rf (S := [])) (by decide), hq56, hg53, hg54, hg55⟩, hI50, (((hF22.up (by decide)).tr (hF29.up (by decide))).tr (hF51.up (by decide)))⟩
      · refine xg_t (xg_aald (n := kk) (vb := (2, 139)) h26 xnm0 (by omega) hz3) ?_
        refine xg_t (xg_ifnnT) ?_
        refine xg_t (xg_blq rfl) ?_
        refine xg_t (xg_aload (va := (2, 0)) rfl rfl) ?_
        refine xg_t (xg_getf (va := (2, 1)) h0_1 rfl) ?_
        refine xg_t (xg_aload (va := (2, 0)) rfl rfl) ?_
        refine xg_t (xg_getf (va := (2, 26)) h0_1 rfl) ?_
        refine xg_t (xg_iload (va := (0, kk)) rfl rfl) ?_
        refine xg_t (xg_aald (n := kk) (vb := (2, 139)) h26 xnm0 (by omega) hz3) ?_
        refine xoC1 (xqc1 hI : cp1 (wget w 1)) (fun f1_57 f1_59 f1_61 f1_63 f1_65 f1_67 h1_69 hb58 hb60 hb62 hb64 hb66 hb68 => ?_)
        refine xg_cVv mX9_copy (vs := [(2, 139)]) (rest := []) (cn1 := 0) (sl1 := 0) rfl (imToldE10 (hI) (xIm.sub hM (by omega) (by omega))) rfl h1_69 rfl rfl rfl rfl rfl rfl (fun w70 hq71 => ?_)
        obtain ⟨hI72, hF73, hx74⟩ := hq71
        obtain ⟨hJ75, hE76⟩ := hx74
        refine xg_t (xg_aload (va := (2, 0)) rfl rfl) ?_
        refine xg_cVv mX11_forgetFilm (vs := []) (rest := []) (cn1 := 0) (sl1 := 0) rfl (scForgetFilmE (hI72)) rfl (hF73.get (by decide) h0_1) rfl rfl rfl rfl rfl rfl (fun w77 hq78 => ?_)
        obtain ⟨hI79, hF80, hx81⟩ := hq78
        refine xg_t (xg_aload (va := (2, 0)) rfl rfl) ?_
        refine xg_t (xg_getf (va := (2, 76)) (hF80.get (by decide) (hF73.get (by decide) h0_1)) rfl) ?_
        refine xoC76 (xqc76 hI79 : cp76 (wget w77 76)) (fun f76_82 f76_84 f76_86 f76_88 f76_90 f76_92 f76_94 f76_96 h76_98 hb83 hb85 hb87 hb89 hb91 hb93 hb95 hb97 => ?_)
        refine xg_cVv mX4_forget (vs := []) (rest := []) (cn1 := 0) (sl1 := 0) rfl (lwForgetE (hI79)) rfl h76_98 rfl rfl rfl rfl rfl rfl (fun w99 hq100 => ?_)
        obtain ⟨hI101, hF102, hx103⟩ := hq100
        obtain ⟨hg104, hg105, hg106⟩ := hx103
        refine xg_t (xg_const) ?_
        have hq107 : fgE w99 := by
          obtain ⟨g1, g2, ⟨g3, g4⟩, g5, g6⟩ := hx81
          exact ⟨(fld_fr hF102 (by decide)).trans g1, (fld_fr hF102 (by decide)).trans g2, ⟨(fld_fr hF102 (by decide)).trans g3, (fld_fr hF102 (by decide)).trans g4⟩, (fld_fr hF102 (by decide)).trans g5, (fld_fr hF102 (by decide)).trans g6⟩
        exact xg_e ⟨1, w99, ⟨rfl, rfl⟩, Or.inl ⟨rfl, by omega, 1, by omega, hz3, hE76.tr ((hF80.up (T := [49, 58, 68, 72, 76]) (by decide)).tr (hF102.up (T := [49, 58, 68, 72, 76]) (by decide))) (by decide) (xFr.rf (S := [])) (by decide), hq107, hg104, hg105, hg106⟩, hI101, (((hF73.up (by decide)).tr (hF80.up (by decide))).tr (hF102.up (by decide)))⟩
      · refine xg_t (xg_aald (n := kk) (vb := (2, 164)) h26 xnm0 (by omega) hz3) ?_
        refine xg_t (xg_ifnnT) ?_
        refine xg_t (xg_blq rfl) ?_
        refine xg_t (xg_aload (va := (2, 0)) rfl rfl) ?_
        refine xg_t (xg_getf (va := (2, 1)) h0_1 rfl) ?_
        refine xg_t (xg_aload (va := (2, 0)) rfl rfl) ?_
        refine xg_t (xg_getf (va := (2, 26)) h0_1 rfl) ?_
        refine xg_t (xg_iload (va := (0, kk)) rfl rfl) ?_
        refine xg_t (xg_aald (n := kk) (vb := (2, 164)) h26 xnm0 (by omega) hz3) ?_
        refine xoC1 (xqc1 hI : cp1 (wget w 1)) (fun f1_108 f1_110 f1_112 f1_114 f1_116 f1_118 h1_120 hb109 hb111 hb113 hb115 hb117 hb119 => ?_)
        refine xg_cVv mX9_copy (vs := [(2, 164)]) (rest := []) (cn1 := 0) (sl1 := 0) rfl (imToldE20 (hI) (xIm.sub hM (by omega) (by omega))) rfl h1_120 rfl rfl rfl rfl rfl rfl (fun w121 hq122 => ?_)
        obtain ⟨hI123, hF124, hx125⟩ := hq122
        obtain ⟨hJ126, hE127⟩ := hx125
        refine xg_t (xg_aload (va := (2, 0)) rfl rfl) ?_
        refine xg_cVv mX11_forgetFilm (vs := []) (rest := []) (cn1 := 0) (sl1 := 0) rfl (scForgetFilmE (hI123)) rfl (hF124.get (by decide) h0_1) rfl rfl rfl rfl rfl rfl (fun w128 hq129 => ?_)
        obtain ⟨hI130, hF131, hx132⟩ := hq129
        refine xg_t (xg_aload (va := (2, 0)) rfl rfl) ?_
        refine xg_t (xg_getf (va := (2, 76)) (hF131.get (by decide) (hF124.get (by decide) h0_1)) rfl) ?_
        refine xoC76 (xqc76 hI130 : cp76 (wget w128 76)) (fun f76_133 f76_135 f76_137 f76_139 f76_141 f76_143 f76_145 f76_147 h76_149 hb134 hb136 hb138 hb140 hb142 hb144 hb146 hb148 => ?_)
        refine xg_cVv mX4_forget (vs := []) (rest := []) (cn1 := 0) (sl1 := 0) rfl (lwForgetE (hI130)) rfl h76_149 rfl rfl rfl rfl rfl rfl (fun w150 hq151 => ?_)
        obtain ⟨hI152, hF153, hx154⟩ := hq151
        obtain ⟨hg155, hg156, hg157⟩ := hx154
        refine xg_t (xg_const) ?_
        have hq158 : fgE w150 := by
          obtain ⟨g1, g2, ⟨g3, g4⟩, g5, g6⟩ := hx132
          exact ⟨(fld_fr hF153 (by decide)).trans g1, (fld_fr hF153 (by decide)).trans g2, ⟨(fld_fr hF153 (by decide)).trans g3, (fld_fr hF153 (by decide)).trans g4⟩, (fld_fr hF153 (by decide)).trans g5, (fld_fr hF153 (by decide)).trans g6⟩
        exact xg_e ⟨1, w150, ⟨rfl, rfl⟩, Or.inl ⟨rfl, by omega, 2, by omega, hz3, hE127.tr ((hF131.up (T := [49, 58, 68, 72, 76]) (by decide)).tr (hF153.up (T := [49, 58, 68, 72, 76]) (by decide))) (by decide) (xFr.rf (S := [])) (by decide), hq158, hg155, hg156, hg157⟩, hI152, (((hF124.up (by decide)).tr (hF131.up (by decide))).tr (hF153.up (by decide)))⟩
  · refine xg_t (xg_ifT (u := (if 0 ≤ kk ∧ kk ≤ 2 then 1 else 0)) rfl xnm0 (xj_eqT (xite0 hc2))) ?_
    refine xg_t (xg_blq rfl) ?_
    refine xg_t (xg_const) ?_
    exact xg_e ⟨0, w, ⟨rfl, rfl⟩, Or.inr ⟨rfl, fun z => absurd z.1 (by omega), rfl⟩, hI, xFr.rf⟩
end XCX
