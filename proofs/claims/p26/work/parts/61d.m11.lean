/-! the model: lines of films, more -/
section XMB
variable {d : Nat} {w : List (List xE)} {bd : List (Nat × Nat)} {fc : List (Nat × Nat × Bool)} {rr : Nat × Nat}
set_option maxHeartbeats 60000000 in
theorem mALineS4 {at_ : Nat} (hI : xMnv w) (hps : PS w) (hmb : ∀ s, s < 7 → rwv w 85 s ≤ 1000) (hln : fld w 82 14 ≤ 1000) (h7 : fld w 82 7 = 3) (hat : at_ ≤ 4294967295) : xTo (d + 7) mX12_aLine (43, [], [(2, (0, at_)), (1, (0, 4)), (0, (2, 82))], [], (w, bd, fc, 0, 0, rr)) (fun φ => ∃ w', xEnd 0 [] (w', bd, fc, 0, 0, rr) φ ∧ xMnv w' ∧ xFr [82, 83, 85, 86, 87] w w' ∧ ((FA w ≠ 0 → FA w' ≠ 0) ∧ PS w' ∧ ((fld w' 82 10 = 1 ∧ mu w' = mu w ∧ fld w' 82 14 = fld w 82 14 ∧ ∀ s, s < 7 → rwv w' 85 s = rwv w 85 s) ∨ (mu w' < mu w ∧ fld w' 82 14 = fld w 82 14 + 1 ∧ ∀ s, s < 7 → rwv w' 85 s ≤ rwv w 85 s + 1)) ∧ (FA w' ≠ 0 ∨ (DATA w → DATA w')))) := by
  obtain ⟨f82_1, f82_3, f82_5, f82_7, f82_9, f82_11, f82_13, f82_15, f82_17, f82_19, f82_21, f82_22, f82_23, f82_25, f82_27, f82_29, h82_31, hb2, hb4, hb6, hb8, hb10, hb12, hb14, hb16, hb18, hb20, hb24, hb26, hb28, hb30, hb32⟩ := (hI 82 (by decide) (by decide) : cp82 (wget w 82))
  have hf33 : fld w 82 7 = f82_11 := fld_of h82_31
  have hf34 : fld w 82 10 = f82_17 := fld_of h82_31
  have hf35 : fld w 82 14 = f82_19 := fld_of h82_31
  have hps_ : fld w 82 10 = 0 ∨ FA w ≠ 0 := hps
  obtain ⟨g85_36, h85_37, hb38⟩ := (hI 85 (by decide) (by decide) : cpI 7 52 4294967295 (wget w 85))
  have h85_37 : xRow w 85 7 52 g85_36 := h85_37
  obtain ⟨g86_39, h86_40, hb41⟩ := (hI 86 (by decide) (by decide) : cpI 140 53 4294967295 (wget w 86))
  have h86_40 : xRow w 86 140 53 g86_39 := h86_40
  obtain ⟨g87_42, h87_43, hb44⟩ := (hI 87 (by decide) (by decide) : cpI 20 54 4294967295 (wget w 87))
  have h87_43 : xRow w 87 20 54 g87_42 := h87_43
  refine xg_t (xg_blk (b := [(43, 1, 0, 0, 0, 0), (44, 3, 1, 12, 11, 17), (47, 1, 2, 1, 0, 0), (48, 1, 10, 0, 0, 0), (49, 1, 15, 3, 0, 0), (50, 1, 2, 3, 0, 0), (51, 1, 2, 1, 0, 0), (52, 3, 13, 194, 98, 193), (55, 3, 6, 64, 2, 0), (58, 1, 0, 0, 0, 0), (59, 1, 3, 3, 0, 0), (60, 1, 2, 2, 0, 0), (61, 3, 13, 115, 96, 186)]) rfl) ?_
  refine xg_t (xg_aload (va := (2, 82)) rfl rfl) ?_
  refine xg_t (xg_getf (va := (2, 85)) h82_31 rfl) ?_
  refine xg_t (xg_iload (va := (0, 4)) rfl rfl) ?_
  refine xg_ialdB (n := 4) (B := 4294967295) h85_37 (hb38) xnm0 (by omega) (fun u45 hu46 he47 => ?_)
  have hK48 : rwv w 85 4 = u45 := (rwv_of h85_37 (by decide)).trans he47
  have hm49 := hmb 4 (by decide)
  have hl50 : u45 ≤ 1000 := by omega
  refine xg_t (xg_istore (l1 := [(2, (0, at_)), (1, (0, 4)), (0, (2, 82))]) rfl rfl rfl) ?_
  refine xg_t (xg_iload (va := (0, u45)) rfl rfl) ?_
  refine xg_t (xg_iload (va := (0, 4)) rfl rfl) ?_
  refine xg_t (xg_cSr mX12_mostOf (vs := [(0, 4)]) (rest := [(0, u45)]) (rs := [(0, 20), (0, u45)]) (cn1 := 0) (sl1 := 0) rfl (mMostR4) rfl rfl rfl rfl rfl rfl rfl rfl) ?_
  by_cases hc51 : u45 < 20
  · refine xg_t (xg_icT (u := u45) (v := 20) rfl xnm0 xnm0 (xj_ltT hc51 (by omega))) ?_
    refine xg_t (xg_blk (b := [(64, 1, 0, 0, 0, 0), (65, 3, 13, 110, 96, 190), (68, 1, 2, 1, 0, 0), (69, 39, 33, 362, 0, 9)]) rfl) ?_
    refine xg_t (xg_aload (va := (2, 82)) rfl rfl) ?_
    refine xg_cVv mX12_advance (vs := []) (rest := []) (cn1 := 0) (sl1 := 0) rfl (mAdvance (hI)) rfl h82_31 rfl rfl rfl rfl rfl rfl (fun w52 hq53 => ?_)
    obtain ⟨hI54, hF55, hx56⟩ := hq53
    clear hb2 hb4 hb6 hb8 hb10 hb12 hb14 hb16 hb18 hb20 hb24 hb26 hb28 hb30
    obtain ⟨hv57, hv58, hv59, hv60⟩ := hx56
    have hf62 := FA_fr hF55 (by decide)
    have hs63 := (PK.rf hps).2.2.2
    unfold PS at hs63
    have pk61 : PK w w52 := ⟨fun _ => by omega, hv57, hv60, (show fld w52 82 10 = 0 ∨ FA w52 ≠ 0 by omega)⟩
    clear hs63
    have pk64 : PK w w52 := PK.tr (PK.rf hps) pk61
    have os65 : ∀ j, (j < 100 + 2 * u45 ∨ 102 + 2 * u45 ≤ j) → j < 140 → rwv w52 86 j = rwv w 86 j := fun j hj hl => (rwv_fr hF55 (by decide)).trans ((fun j _ _ => rfl) j hj hl)
    have ms66 : mu w52 < mu w := Nat.lt_of_lt_of_le (hv58 (by omega)) (PK.rf hps).2.1
    clear hv58
    refine xg_t (xg_iload (va := (0, 4)) rfl rfl) ?_
    refine xg_t (xg_swt (ks := [(0, 108), (1, 116), (2, 180), (3, 221), (4, 273), (5, 326)]) (u := 4) (z := 273) rfl rfl rfl xnm0 (xsw_n (by omega) (xsw_n (by omega) (xsw_n (by omega) (xsw_n (by omega) (xsw_y rfl)))))) ?_
    refine xg_t (xg_blk (b := [(273, 1, 2, 3, 0, 0), (274, 2, 4, 20, 0, 0), (276, 3, 6, 286, 3, 0), (279, 1, 0, 0, 0, 0), (280, 3, 1, 12, 13, 23), (283, 1, 2, 3, 0, 0), (284, 1, 2, 2, 0, 0), (285, 1, 17, 0, 0, 0)]) rfl) ?_
    refine xg_t (xg_iload (va := (0, u45)) rfl rfl) ?_
    refine xg_t (xg_bip) ?_
    refine xg_t (xg_icF (u := u45) (v := 20) rfl xnm0 xnm0 (xj_geF (by omega) (by omega))) ?_
    refine xg_t (xg_aload (va := (2, 82)) rfl rfl) ?_
    obtain ⟨f82_67, f82_69, f82_71, f82_73, f82_75, f82_77, f82_79, f82_81, f82_83, f82_85, f82_87, f82_88, f82_89, f82_91, f82_93, f82_95, h82_97, hb68, hb70, hb72, hb74, hb76, hb78, hb80, hb82, hb84, hb86, hb90, hb92, hb94, hb96, hb98⟩ := (hI54 82 (by decide) (by decide) : cp82 (wget w52 82))
    refine xg_t (xg_getf (va := (2, 87)) h82_97 rfl) ?_
    refine xg_t (xg_iload (va := (0, u45)) rfl rfl) ?_
    refine xg_t (xg_iload (va := (0, at_)) rfl rfl) ?_
    refine xg_iastK (n := u45) (u := at_) (h87_43.fr hF55 (by decide)) xnm0 xnm0 rfl (by omega) (fun w99 hr100 hb101 => ?_)
    refine xg_t (xg_blk (b := [(286, 1, 3, 0, 0, 0), (287, 2, 15, 4, 0, 0)]) rfl) ?_
    refine xg_t (xg_const) ?_
    refine xg_t (xg_istore (l1 := [(3, (0, u45)), (2, (0, at_)), (1, (0, 4)), (0, (2, 82))]) rfl rfl rfl) ?_
    refine xg_t (xg_blk (b := [(289, 2, 2, 4, 0, 0), (291, 1, 3, 2, 0, 0), (292, 3, 6, 323, 3, 0), (295, 1, 0, 0, 0, 0), (296, 1, 2, 1, 0, 0), (297, 1, 2, 3, 0, 0), (298, 2, 4, 100, 0, 0), (300, 1, 3, 2, 0, 0), (301, 1, 2, 3, 0, 0), (302, 1, 16, 0, 0, 0), (303, 1, 11, 0, 0, 0), (304, 2, 2, 4, 0, 0), (306, 1, 11, 0, 0, 0), (307, 1, 0, 0, 0, 0), (308, 1, 3, 0, 0, 0), (309, 2, 4, 9, 0, 0), (311, 3, 13, 199, 96, 196), (314, 3, 13, 211, 96, 200), (317, 3, 9, 4, 1, 0), (320, 3, 8, 289, 0, 0)]) rfl) ?_
    refine xg_t (xg_iload (va := (0, 0)) rfl rfl) ?_
    refine xg_t (xg_const) ?_
    refine xg_t (xg_icF (u := 0) (v := 2) rfl xnm0 xnm0 (by decide)) ?_
    refine xg_t (xg_aload (va := (2, 82)) rfl rfl) ?_
    refine xg_t (xg_iload (va := (0, 4)) rfl rfl) ?_
    refine xg_t (xg_iload (va := (0, u45)) rfl rfl) ?_
    refine xg_t (xg_bip) ?_
    refine xg_t (xg_const) ?_
    refine xg_t (xg_iload (va := (0, u45)) rfl rfl) ?_
    refine xg_t (xg_imul (u := 2) (v := u45) (z := 2 * u45) xnm0 xnm0 (by omega)) ?_
    refine xg_t (xg_iadd (u := 100) (v := 2 * u45) (z := 100 + (2 * u45)) xnm0 xnm0 (by omega)) ?_
    refine xg_t (xg_iload (va := (0, 0)) rfl rfl) ?_
    refine xg_t (xg_iadd (u := 100 + (2 * u45)) (v := 0) (z := (100 + (2 * u45)) + 0) xnm0 xnm0 (by omega)) ?_
    refine xg_t (xg_aload (va := (2, 82)) rfl rfl) ?_
    refine xg_t (xg_const) ?_
    refine xg_t (xg_bip) ?_
    refine xg_cVi mX12_numbered (vs := [(0, 0), (0, 9)]) (rest := [(0, (100 + (2 * u45)) + 0), (0, u45), (0, 4), (2, 82)]) (cn1 := 0) (sl1 := 0) rfl (mNumbered (xMnv.up (S := [87]) hI54 (xFr.of (S := [87]) hb101 (by decide)) (List.forall_mem_cons.mpr ⟨(show cpI 20 54 4294967295 (wget w99 87) from ⟨_, hr100, xrb (by omega) (hb44)⟩), fun _ h => absurd h List.not_mem_nil⟩)) (by omega) (by omega) pk64.2.2.2) rfl (hb101.get (by decide) h82_97) rfl rfl rfl rfl rfl rfl (fun n106 w102 hq103 => ?_)
    obtain ⟨hn107, hI104, hF105⟩ := hq103
    clear hb68 hb70 hb72 hb74 hb76 hb78 hb80 hb82 hb84 hb86 hb90 hb92 hb94 hb96
    obtain ⟨hn108, hn109, hn110⟩ := hn107
    have pk111 : PK w w102 := PK.tr pk64 hn109
    have os112 : ∀ j, (j < 100 + 2 * u45 ∨ 102 + 2 * u45 ≤ j) → j < 140 → rwv w102 86 j = rwv w 86 j := fun j hj hl => (rwv_fr hF105 (by decide)).trans (os65 j hj hl)
    have ms113 : mu w102 < mu w := Nat.lt_of_le_of_lt hn109.2.1 ms66
    obtain ⟨f82_114, f82_116, f82_118, f82_120, f82_122, f82_124, f82_126, f82_128, f82_130, f82_132, f82_134, f82_135, f82_136, f82_138, f82_140, f82_142, h82_144, hb115, hb117, hb119, hb121, hb123, hb125, hb127, hb129, hb131, hb133, hb137, hb139, hb141, hb143, hb145⟩ := (hI104 82 (by decide) (by decide) : cp82 (wget w102 82))
    refine xg_cVv mX12_puts (vs := [(0, 4), (0, u45), (0, (100 + (2 * u45)) + 0), (0, n106)]) (rest := []) (cn1 := 0) (sl1 := 0) rfl (mPuts4 (hI104) (by omega) (by omega) (by omega) (fun _ => by omega)) rfl h82_144 rfl rfl rfl rfl rfl rfl (fun w146 hq147 => ?_)
    obtain ⟨hI148, hF149, hx150⟩ := hq147
    obtain ⟨hp151, hp152⟩ := hx150
    have pk153 : PK w w146 := PK.tr pk111 (PK.fr hF149 (by decide) (by decide) pk111.2.2.2)
    have os154 : ∀ j, (j < 100 + 2 * u45 ∨ 102 + 2 * u45 ≤ j) → j < 140 → rwv w146 86 j = rwv w 86 j := fun j hj hl => (hp152 j (by omega) hl).trans (os112 j hj hl)
    have rg155 : FA w146 ≠ 0 ∨ (0 ≤ n106 ∧ n106 ≤ 9) := hn110.imp_left (PK.fr hF149 (by decide) (by decide) pk111.2.2.2).1
    have ms156 : mu w146 < mu w := Nat.lt_of_le_of_lt (PK.fr hF149 (by decide) (by decide) pk111.2.2.2).2.1 ms113
    clear hn110
    refine xg_t (xg_iinc (u := 0) (z := 1) (l1 := [(3, (0, u45)), (2, (0, at_)), (1, (0, 4)), (0, (2, 82))]) rfl rfl (by decide) rfl) ?_
    refine xg_t (xg_goto) ?_
    refine xg_t (xg_blk (b := [(289, 2, 2, 4, 0, 0), (291, 1, 3, 2, 0, 0), (292, 3, 6, 323, 3, 0), (295, 1, 0, 0, 0, 0), (296, 1, 2, 1, 0, 0), (297, 1, 2, 3, 0, 0), (298, 2, 4, 100, 0, 0), (300, 1, 3, 2, 0, 0), (301, 1, 2, 3, 0, 0), (302, 1, 16, 0, 0, 0), (303, 1, 11, 0, 0, 0), (304, 2, 2, 4, 0, 0), (306, 1, 11, 0, 0, 0), (307, 1, 0, 0, 0, 0), (308, 1, 3, 0, 0, 0), (309, 2, 4, 9, 0, 0), (311, 3, 13, 199, 96, 196), (314, 3, 13, 211, 96, 200), (317, 3, 9, 4, 1, 0), (320, 3, 8, 289, 0, 0)]) rfl) ?_
    refine xg_t (xg_iload (va := (0, 1)) rfl rfl) ?_
    refine xg_t (xg_const) ?_
    refine xg_t (xg_icF (u := 1) (v := 2) rfl xnm0 xnm0 (by decide)) ?_
    refine xg_t (xg_aload (va := (2, 82)) rfl rfl) ?_
    refine xg_t (xg_iload (va := (0, 4)) rfl rfl) ?_
    refine xg_t (xg_iload (va := (0, u45)) rfl rfl) ?_
    refine xg_t (xg_bip) ?_
    refine xg_t (xg_const) ?_
    refine xg_t (xg_iload (va := (0, u45)) rfl rfl) ?_
    refine xg_t (xg_imul (u := 2) (v := u45) (z := 2 * u45) xnm0 xnm0 (by omega)) ?_
    refine xg_t (xg_iadd (u := 100) (v := 2 * u45) (z := 100 + (2 * u45)) xnm0 xnm0 (by omega)) ?_
    refine xg_t (xg_iload (va := (0, 1)) rfl rfl) ?_
    refine xg_t (xg_iadd (u := 100 + (2 * u45)) (v := 1) (z := (100 + (2 * u45)) + 1) xnm0 xnm0 (by omega)) ?_
    refine xg_t (xg_aload (va := (2, 82)) rfl rfl) ?_
    refine xg_t (xg_const) ?_
    refine xg_t (xg_bip) ?_
    refine xg_cVi mX12_numbered (vs := [(0, 0), (0, 9)]) (rest := [(0, (100 + (2 * u45)) + 1), (0, u45), (0, 4), (2, 82)]) (cn1 := 0) (sl1 := 0) rfl (mNumbered (hI148) (by omega) (by omega) pk153.2.2.2) rfl (hF149.get (by decide) h82_144) rfl rfl rfl rfl rfl rfl (fun n161 w157 hq158 => ?_)
    obtain ⟨hn162, hI159, hF160⟩ := hq158
    clear hb115 hb117 hb119 hb121 hb123 hb125 hb127 hb129 hb131 hb133 hb137 hb139 hb141 hb143
    obtain ⟨hn163, hn164, hn165⟩ := hn162
    have pk166 : PK w w157 := PK.tr pk153 hn164
    have os167 : ∀ j, (j < 100 + 2 * u45 ∨ 102 + 2 * u45 ≤ j) → j < 140 → rwv w157 86 j = rwv w 86 j := fun j hj hl => (rwv_fr hF160 (by decide)).trans (os154 j hj hl)
    have ix168 : u45 < 20 → rwv w157 86 ((100 + (2 * u45)) + 0) = n106 := fun h => (rwv_fr hF160 (by decide)).trans (hp151 h)
    have rg169 : FA w157 ≠ 0 ∨ (0 ≤ n106 ∧ n106 ≤ 9) := rg155.imp_left hn164.1
    have ms170 : mu w157 < mu w := Nat.lt_of_le_of_lt hn164.2.1 ms156
    clear hp151 rg155
    obtain ⟨f82_171, f82_173, f82_175, f82_177, f82_179, f82_181, f82_183, f82_185, f82_187, f82_189, f82_191, f82_192, f82_193, f82_195, f82_197, f82_199, h82_201, hb172, hb174, hb176, hb178, hb180, hb182, hb184, hb186, hb188, hb190, hb194, hb196, hb198, hb200, hb202⟩ := (hI159 82 (by decide) (by decide) : cp82 (wget w157 82))
    refine xg_cVv mX12_puts (vs := [(0, 4), (0, u45), (0, (100 + (2 * u45)) + 1), (0, n161)]) (rest := []) (cn1 := 0) (sl1 := 0) rfl (mPuts4 (hI159) (by omega) (by omega) (by omega) (fun _ => by omega)) rfl h82_201 rfl rfl rfl rfl rfl rfl (fun w203 hq204 => ?_)
    obtain ⟨hI205, hF206, hx207⟩ := hq204
    obtain ⟨hp208, hp209⟩ := hx207
    have pk210 : PK w w203 := PK.tr pk166 (PK.fr hF206 (by decide) (by decide) pk166.2.2.2)
    have os211 : ∀ j, (j < 100 + 2 * u45 ∨ 102 + 2 * u45 ≤ j) → j < 140 → rwv w203 86 j = rwv w 86 j := fun j hj hl => (hp209 j (by omega) hl).trans (os167 j hj hl)
    have ix212 : u45 < 20 → rwv w203 86 ((100 + (2 * u45)) + 0) = n106 := fun h => (hp209 _ (by omega) (by omega)).trans (ix168 h)
    have rg213 : FA w203 ≠ 0 ∨ (0 ≤ n106 ∧ n106 ≤ 9) := rg169.imp_left (PK.fr hF206 (by decide) (by decide) pk166.2.2.2).1
    have rg214 : FA w203 ≠ 0 ∨ (0 ≤ n161 ∧ n161 ≤ 9) := hn165.imp_left (PK.fr hF206 (by decide) (by decide) pk166.2.2.2).1
    have ms215 : mu w203 < mu w := Nat.lt_of_le_of_lt (PK.fr hF206 (by decide) (by decide) pk166.2.2.2).2.1 ms170
    clear ix168 rg169 hn165
    refine xg_t (xg_iinc (u := 1) (z := 2) (l1 := [(3, (0, u45)), (2, (0, at_)), (1, (0, 4)), (0, (2, 82))]) rfl rfl (by decide) rfl) ?_
    refine xg_t (xg_goto) ?_
    refine xg_t (xg_blk (b := [(289, 2, 2, 4, 0, 0), (291, 1, 3, 2, 0, 0), (292, 3, 6, 323, 3, 0), (295, 1, 0, 0, 0, 0), (296, 1, 2, 1, 0, 0), (297, 1, 2, 3, 0, 0), (298, 2, 4, 100, 0, 0), (300, 1, 3, 2, 0, 0), (301, 1, 2, 3, 0, 0), (302, 1, 16, 0, 0, 0), (303, 1, 11, 0, 0, 0), (304, 2, 2, 4, 0, 0), (306, 1, 11, 0, 0, 0), (307, 1, 0, 0, 0, 0), (308, 1, 3, 0, 0, 0), (309, 2, 4, 9, 0, 0), (311, 3, 13, 199, 96, 196), (314, 3, 13, 211, 96, 200), (317, 3, 9, 4, 1, 0), (320, 3, 8, 289, 0, 0)]) rfl) ?_
    refine xg_t (xg_iload (va := (0, 2)) rfl rfl) ?_
    refine xg_t (xg_const) ?_
    refine xg_t (xg_icT (u := 2) (v := 2) rfl xnm0 xnm0 (by decide)) ?_
    refine xg_t (xg_blk (b := [(323, 3, 8, 394, 0, 0)]) rfl) ?_
    refine xg_t (xg_goto) ?_
    refine xg_t (xg_blk (b := [(394, 1, 0, 0, 0, 0), (395, 3, 1, 12, 10, 180), (398, 3, 7, 416, 1, 0), (401, 1, 0, 0, 0, 0), (402, 3, 1, 12, 7, 151), (405, 1, 3, 2, 0, 0), (406, 3, 6, 416, 1, 0), (409, 1, 0, 0, 0, 0), (410, 3, 13, 110, 96, 190), (413, 3, 8, 420, 0, 0)]) rfl) ?_
    refine xg_t (xg_aload (va := (2, 82)) rfl rfl) ?_
    refine xg_t (xg_getf (va := (0, f82_187)) (hF206.get (by decide) h82_201) rfl) ?_
    by_cases hc216 : f82_187 = 0
    · refine xg_t (xg_ifF (u := f82_187) rfl xnm0 (xj_neF hc216)) ?_
      refine xg_t (xg_aload (va := (2, 82)) rfl rfl) ?_
      refine xg_t (xg_getf (va := (0, f82_181)) (hF206.get (by decide) h82_201) rfl) ?_
      refine xg_t (xg_const) ?_
      by_cases hc217 : f82_181 = 2
      · refine xg_t (xg_icF (u := f82_181) (v := 2) rfl xnm0 xnm0 (xj_neF hc217)) ?_
        refine xg_t (xg_aload (va := (2, 82)) rfl rfl) ?_
        refine xg_cVv mX12_advance (vs := []) (rest := []) (cn1 := 0) (sl1 := 0) rfl (mAdvance (hI205)) rfl (hF206.get (by decide) h82_201) rfl rfl rfl rfl rfl rfl (fun w218 hq219 => ?_)
        obtain ⟨hI220, hF221, hx222⟩ := hq219
        clear hb172 hb174 hb176 hb178 hb180 hb182 hb184 hb186 hb188 hb190 hb194 hb196 hb198 hb200
        obtain ⟨hv223, hv224, hv225, hv226⟩ := hx222
        have hf228 := FA_fr hF221 (by decide)
        have hs229 := pk210.2.2.2
        unfold PS at hs229
        have pk227 : PK w203 w218 := ⟨fun _ => by omega, hv223, hv226, (show fld w218 82 10 = 0 ∨ FA w218 ≠ 0 by omega)⟩
        clear hs229
        clear hv224
        have pk230 : PK w w218 := PK.tr pk210 pk227
        have os231 : ∀ j, (j < 100 + 2 * u45 ∨ 102 + 2 * u45 ≤ j) → j < 140 → rwv w218 86 j = rwv w 86 j := fun j hj hl => (rwv_fr hF221 (by decide)).trans (os211 j hj hl)
        have ix232 : u45 < 20 → rwv w218 86 ((100 + (2 * u45)) + 0) = n106 := fun h => (rwv_fr hF221 (by decide)).trans (ix212 h)
        have ix233 : u45 < 20 → rwv w218 86 ((100 + (2 * u45)) + 1) = n161 := fun h => (rwv_fr hF221 (by decide)).trans (hp208 h)
        have rg234 : FA w218 ≠ 0 ∨ (0 ≤ n106 ∧ n106 ≤ 9) := rg213.imp_left pk227.1
        have rg235 : FA w218 ≠ 0 ∨ (0 ≤ n161 ∧ n161 ≤ 9) := rg214.imp_left pk227.1
        have ms236 : mu w218 < mu w := Nat.lt_of_le_of_lt pk227.2.1 ms215
        clear ix212 hp208 rg213 rg214
        refine xg_t (xg_goto) ?_
        refine xg_t (xg_blk (b := [(420, 1, 0, 0, 0, 0), (421, 3, 1, 12, 11, 17), (424, 1, 2, 1, 0, 0), (425, 1, 39, 0, 0, 0), (426, 1, 10, 0, 0, 0), (427, 1, 3, 1, 0, 0), (428, 1, 11, 0, 0, 0), (429, 1, 17, 0, 0, 0), (430, 1, 0, 0, 0, 0), (431, 1, 19, 0, 0, 0), (432, 3, 1, 12, 14, 212), (435, 1, 3, 1, 0, 0), (436, 1, 11, 0, 0, 0), (437, 3, 14, 12, 14, 212), (440, 1, 12, 0, 0, 0)]) rfl) ?_
        obtain ⟨f82_237, f82_239, f82_241, f82_243, f82_245, f82_247, f82_249, f82_251, f82_253, f82_255, f82_257, f82_258, f82_259, f82_261, f82_263, f82_265, h82_267, hb238, hb240, hb242, hb244, hb246, hb248, hb250, hb252, hb254, hb256, hb260, hb262, hb264, hb266, hb268⟩ := (hI220 82 (by decide) (by decide) : cp82 (wget w218 82))
        have hf269 : fld w218 82 4 = f82_241 := fld_of h82_267
        have hf270 : fld w218 82 5 = f82_243 := fld_of h82_267
        have hf271 : fld w218 82 7 = f82_247 := fld_of h82_267
        have hf272 : fld w218 82 10 = f82_253 := fld_of h82_267
        have hf273 : fld w218 82 14 = f82_255 := fld_of h82_267
        have hu274 : mu w218 = 2 * (fld w218 82 4 - fld w218 82 5) + min 1 (fld w218 82 7) := rfl
        have hf275 := pk230.2.2.1
        have hl276 : f82_255 ≤ 1000 := by omega
        refine xg_t (xg_aload (va := (2, 82)) rfl rfl) ?_
        refine xg_t (xg_getf (va := (2, 85)) h82_267 rfl) ?_
        refine xg_t (xg_iload (va := (0, 4)) rfl rfl) ?_
        refine xg_t (xg_dup2 rfl) ?_
        refine xg_ialdB (n := 4) (B := 4294967295) (((((((h85_37.fr hF55 (by decide)).but hb101 (by decide)).fr hF105 (by decide)).fr hF149 (by decide)).fr hF160 (by decide)).fr hF206 (by decide)).fr hF221 (by decide)) (hb38) xnm0 (by omega) (fun u277 hu278 he279 => ?_)
        have hl280 : u277 = u45 := by omega
        refine xg_t (xg_const) ?_
        refine xg_t (xg_iadd (u := u277) (v := 1) (z := u277 + 1) xnm0 xnm0 (by omega)) ?_
        refine xg_iastK (n := 4) (u := u277 + 1) (((((((h85_37.fr hF55 (by decide)).but hb101 (by decide)).fr hF105 (by decide)).fr hF149 (by decide)).fr hF160 (by decide)).fr hF206 (by decide)).fr hF221 (by decide)) xnm0 xnm0 rfl (by omega) (fun w281 hr282 hb283 => ?_)
        refine xg_t (xg_aload (va := (2, 82)) rfl rfl) ?_
        refine xg_t (xg_dup rfl) ?_
        refine xg_t (xg_getf (va := (0, f82_255)) (hb283.get (by decide) h82_267) rfl) ?_
        refine xg_t (xg_const) ?_
        refine xg_t (xg_iadd (u := f82_255) (v := 1) (z := f82_255 + 1) xnm0 xnm0 (by omega)) ?_
        refine xg_putI (fl1 := [(2, 83), (2, 84), (0, f82_237), (0, f82_239), (0, f82_241), (0, f82_243), (0, f82_245), (0, f82_247), (0, f82_249), (0, f82_251), (0, f82_253), (2, 85), (2, 86), (2, 87), (0, f82_255 + 1), (2, 88), (2, 89), (2, 90), (2, 91), (2, 92), (2, 93), (2, 94), (4, f82_257), (4, f82_258), (0, f82_259), (2, 95), (2, 96), (2, 97), (2, 98), (2, 99), (2, 100), (2, 101), (2, 102), (0, f82_261), (2, 103), (2, 104), (2, 105), (2, 106), (2, 107), (2, 108), (2, 109), (0, f82_263), (0, f82_265), (2, 110), (2, 111), (2, 112), (2, 113)]) (hb283.get (by decide) h82_267) rfl rfl rfl (fun w284 hk285 hb286 => ?_)
        have hF287 : xFr [82, 85] w218 w284 := ((xFr.of (S := [82, 85]) hb283 (by decide)).tr (xFr.of (S := [82, 85]) hb286 (by decide)))
        have hA288 := FA_fr hF287 (by decide)
        have hf289 : fld w284 82 4 = f82_241 := fld_of hk285
        have hf290 : fld w284 82 5 = f82_243 := fld_of hk285
        have hf291 : fld w284 82 7 = f82_247 := fld_of hk285
        have hf292 : fld w284 82 10 = f82_253 := fld_of hk285
        have hf293 : fld w284 82 14 = f82_255 + 1 := fld_of hk285
        have hu294 : mu w284 = 2 * (fld w284 82 4 - fld w284 82 5) + min 1 (fld w284 82 7) := rfl
        have pq295 := pk230
        unfold PK PS at pq295
        have hM296 : ∀ s, s < 7 → s ≠ 4 → rwv w284 85 s = rwv w 85 s := fun s hs hn => (rwv_of (hr282.but hb286 (by decide)) hs).trans ((if_neg hn).trans (rwv_of h85_37 hs).symm)
        have hM297 : rwv w284 85 4 = u45 + 1 := (rwv_of (hr282.but hb286 (by decide)) (by decide)).trans ((if_pos rfl).trans (by omega))
        have hM298 : ∀ s, s < 7 → rwv w284 85 s ≤ rwv w 85 s + 1 := fun s hs => by
          by_cases z : s = 4
          · subst z; omega
          · rw [hM296 s hs z]; omega
        have hO299 : ∀ j, (j < 100 + 2 * u45 ∨ 102 + 2 * u45 ≤ j) → j < 140 → rwv w284 86 j = rwv w 86 j := fun j hj hl => (rwv_fr hF287 (by decide)).trans (os231 j hj hl)
        have hN300 : FA w284 ≠ 0 ∨ 20 ≤ u45 ∨ True := Or.inr (Or.inr trivial)
        have hX301 : FA w284 ≠ 0 ∨ u45 < 20 := by omega
        have hD302 : FA w284 ≠ 0 ∨ (DATA w → DATA w284) := by
          by_cases z : FA w284 ≠ 0
          · exact Or.inl z
          · exact Or.inr (fun hd => hd.s4 hM296 hK48 hM297 (hX301.resolve_left z) hO299 ((hN300.resolve_left z).resolve_left (by have := hX301.resolve_left z; omega)))
        exact xg_e ⟨w284, ⟨rfl, rfl⟩, xMnv.up (S := [85, 82]) hI220 ((xFr.of (S := [85, 82]) hb283 (by decide)).tr (xFr.of (S := [85, 82]) hb286 (by decide))) (List.forall_mem_cons.mpr ⟨(show cpI 7 52 4294967295 (wget w284 85) from ⟨_, (hr282.but hb286 (by decide)), xrb (by omega) (hb38)⟩), List.forall_mem_cons.mpr ⟨(show cp82 (wget w284 82) from ⟨f82_237, f82_239, f82_241, f82_243, f82_245, f82_247, f82_249, f82_251, f82_253, f82_255 + 1, f82_257, f82_258, f82_259, f82_261, f82_263, f82_265, hk285, hb238, hb240, hb242, hb244, hb246, hb248, hb250, hb252, hb254, by omega, hb260, hb262, hb264, hb266, by omega⟩), fun _ h => absurd h List.not_mem_nil⟩⟩), ((((((((hF55.up (by decide)).tr (xFr.of (S := [82, 83, 85, 86, 87]) hb101 (by decide))).tr (hF105.up (by decide))).tr (hF149.up (by decide))).tr (hF160.up (by decide))).tr (hF206.up (by decide))).tr (hF221.up (by decide))).tr ((xFr.of (S := [82, 83, 85, 86, 87]) hb283 (by decide)).tr (xFr.of (S := [82, 83, 85, 86, 87]) hb286 (by decide)))), ⟨fun h => by have := pq295.1 h; omega, (show fld w284 82 10 = 0 ∨ FA w284 ≠ 0 by omega), Or.inr ⟨by have := ms236; omega, by omega, hM298⟩, hD302⟩⟩
      · refine xg_t (xg_icT (u := f82_181) (v := 2) rfl xnm0 xnm0 (xj_neT hc217)) ?_
        refine xg_t (xg_blk (b := [(416, 1, 0, 0, 0, 0), (417, 3, 13, 140, 96, 183)]) rfl) ?_
        refine xg_t (xg_aload (va := (2, 82)) rfl rfl) ?_
        refine xg_cVv mX12_ends (vs := []) (rest := []) (cn1 := 0) (sl1 := 0) rfl (mEnds (hI205) pk210.2.2.2) rfl (hF206.get (by decide) h82_201) rfl rfl rfl rfl rfl rfl (fun w303 hq304 => ?_)
        obtain ⟨hI305, hF306, hx307⟩ := hq304
        clear hb172 hb174 hb176 hb178 hb180 hb182 hb184 hb186 hb188 hb190 hb194 hb196 hb198 hb200
        obtain ⟨hv308, hv309, hv310, hv311⟩ := hx307
        have pk312 : PK w203 w303 := ⟨fun _ => hv308, by omega, by omega, Or.inr hv308⟩
        have pk313 : PK w w303 := PK.tr pk210 pk312
        have os314 : ∀ j, (j < 100 + 2 * u45 ∨ 102 + 2 * u45 ≤ j) → j < 140 → rwv w303 86 j = rwv w 86 j := fun j hj hl => (rwv_fr hF306 (by decide)).trans (os211 j hj hl)
        have ix315 : u45 < 20 → rwv w303 86 ((100 + (2 * u45)) + 0) = n106 := fun h => (rwv_fr hF306 (by decide)).trans (ix212 h)
        have ix316 : u45 < 20 → rwv w303 86 ((100 + (2 * u45)) + 1) = n161 := fun h => (rwv_fr hF306 (by decide)).trans (hp208 h)
        have rg317 : FA w303 ≠ 0 ∨ (0 ≤ n106 ∧ n106 ≤ 9) := rg213.imp_left pk312.1
        have rg318 : FA w303 ≠ 0 ∨ (0 ≤ n161 ∧ n161 ≤ 9) := rg214.imp_left pk312.1
        have ms319 : mu w303 < mu w := Nat.lt_of_le_of_lt pk312.2.1 ms215
        clear ix212 hp208 rg213 rg214
        refine xg_t (xg_blk (b := [(420, 1, 0, 0, 0, 0), (421, 3, 1, 12, 11, 17), (424, 1, 2, 1, 0, 0), (425, 1, 39, 0, 0, 0), (426, 1, 10, 0, 0, 0), (427, 1, 3, 1, 0, 0), (428, 1, 11, 0, 0, 0), (429, 1, 17, 0, 0, 0), (430, 1, 0, 0, 0, 0), (431, 1, 19, 0, 0, 0), (432, 3, 1, 12, 14, 212), (435, 1, 3, 1, 0, 0), (436, 1, 11, 0, 0, 0), (437, 3, 14, 12, 14, 212), (440, 1, 12, 0, 0, 0)]) rfl) ?_
        obtain ⟨f82_320, f82_322, f82_324, f82_326, f82_328, f82_330, f82_332, f82_334, f82_336, f82_338, f82_340, f82_341, f82_342, f82_344, f82_346, f82_348, h82_350, hb321, hb323, hb325, hb327, hb329, hb331, hb333, hb335, hb337, hb339, hb343, hb345, hb347, hb349, hb351⟩ := (hI305 82 (by decide) (by decide) : cp82 (wget w303 82))
        have hf352 : fld w303 82 4 = f82_324 := fld_of h82_350
        have hf353 : fld w303 82 5 = f82_326 := fld_of h82_350
        have hf354 : fld w303 82 7 = f82_330 := fld_of h82_350
        have hf355 : fld w303 82 10 = f82_336 := fld_of h82_350
        have hf356 : fld w303 82 14 = f82_338 := fld_of h82_350
        have hu357 : mu w303 = 2 * (fld w303 82 4 - fld w303 82 5) + min 1 (fld w303 82 7) := rfl
        have hf358 := pk313.2.2.1
        have hl359 : f82_338 ≤ 1000 := by omega
        refine xg_t (xg_aload (va := (2, 82)) rfl rfl) ?_
        refine xg_t (xg_getf (va := (2, 85)) h82_350 rfl) ?_
        refine xg_t (xg_iload (va := (0, 4)) rfl rfl) ?_
        refine xg_t (xg_dup2 rfl) ?_
        refine xg_ialdB (n := 4) (B := 4294967295) (((((((h85_37.fr hF55 (by decide)).but hb101 (by decide)).fr hF105 (by decide)).fr hF149 (by decide)).fr hF160 (by decide)).fr hF206 (by decide)).fr hF306 (by decide)) (hb38) xnm0 (by omega) (fun u360 hu361 he362 => ?_)
        have hl363 : u360 = u45 := by omega
        refine xg_t (xg_const) ?_
        refine xg_t (xg_iadd (u := u360) (v := 1) (z := u360 + 1) xnm0 xnm0 (by omega)) ?_
        refine xg_iastK (n := 4) (u := u360 + 1) (((((((h85_37.fr hF55 (by decide)).but hb101 (by decide)).fr hF105 (by decide)).fr hF149 (by decide)).fr hF160 (by decide)).fr hF206 (by decide)).fr hF306 (by decide)) xnm0 xnm0 rfl (by omega) (fun w364 hr365 hb366 => ?_)
        refine xg_t (xg_aload (va := (2, 82)) rfl rfl) ?_
        refine xg_t (xg_dup rfl) ?_
        refine xg_t (xg_getf (va := (0, f82_338)) (hb366.get (by decide) h82_350) rfl) ?_
        refine xg_t (xg_const) ?_
        refine xg_t (xg_iadd (u := f82_338) (v := 1) (z := f82_338 + 1) xnm0 xnm0 (by omega)) ?_
        refine xg_putI (fl1 := [(2, 83), (2, 84), (0, f82_320), (0, f82_322), (0, f82_324), (0, f82_326), (0, f82_328), (0, f82_330), (0, f82_332), (0, f82_334), (0, f82_336), (2, 85), (2, 86), (2, 87), (0, f82_338 + 1), (2, 88), (2, 89), (2, 90), (2, 91), (2, 92), (2, 93), (2, 94), (4, f82_340), (4, f82_341), (0, f82_342), (2, 95), (2, 96), (2, 97), (2, 98), (2, 99), (2, 100), (2, 101), (2, 102), (0, f82_344), (2, 103), (2, 104), (2, 105), (2, 106), (2, 107), (2, 108), (2, 109), (0, f82_346), (0, f82_348), (2, 110), (2, 111), (2, 112), (2, 113)]) (hb366.get (by decide) h82_350) rfl rfl rfl (fun w367 hk368 hb369 => ?_)
        have hF370 : xFr [82, 85] w303 w367 := ((xFr.of (S := [82, 85]) hb366 (by decide)).tr (xFr.of (S := [82, 85]) hb369 (by decide)))
        have hA371 := FA_fr hF370 (by decide)
        have hf372 : fld w367 82 4 = f82_324 := fld_of hk368
        have hf373 : fld w367 82 5 = f82_326 := fld_of hk368
        have hf374 : fld w367 82 7 = f82_330 := fld_of hk368
        have hf375 : fld w367 82 10 = f82_336 := fld_of hk368
        have hf376 : fld w367 82 14 = f82_338 + 1 := fld_of hk368
        have hu377 : mu w367 = 2 * (fld w367 82 4 - fld w367 82 5) + min 1 (fld w367 82 7) := rfl
        have pq378 := pk313
        unfold PK PS at pq378
        have hM379 : ∀ s, s < 7 → s ≠ 4 → rwv w367 85 s = rwv w 85 s := fun s hs hn => (rwv_of (hr365.but hb369 (by decide)) hs).trans ((if_neg hn).trans (rwv_of h85_37 hs).symm)
        have hM380 : rwv w367 85 4 = u45 + 1 := (rwv_of (hr365.but hb369 (by decide)) (by decide)).trans ((if_pos rfl).trans (by omega))
        have hM381 : ∀ s, s < 7 → rwv w367 85 s ≤ rwv w 85 s + 1 := fun s hs => by
          by_cases z : s = 4
          · subst z; omega
          · rw [hM379 s hs z]; omega
        have hO382 : ∀ j, (j < 100 + 2 * u45 ∨ 102 + 2 * u45 ≤ j) → j < 140 → rwv w367 86 j = rwv w 86 j := fun j hj hl => (rwv_fr hF370 (by decide)).trans (os314 j hj hl)
        have hN383 : FA w367 ≠ 0 ∨ 20 ≤ u45 ∨ True := Or.inr (Or.inr trivial)
        have hX384 : FA w367 ≠ 0 ∨ u45 < 20 := by omega
        have hD385 : FA w367 ≠ 0 ∨ (DATA w → DATA w367) := by
          by_cases z : FA w367 ≠ 0
          · exact Or.inl z
          · exact Or.inr (fun hd => hd.s4 hM379 hK48 hM380 (hX384.resolve_left z) hO382 ((hN383.resolve_left z).resolve_left (by have := hX384.resolve_left z; omega)))
        exact xg_e ⟨w367, ⟨rfl, rfl⟩, xMnv.up (S := [85, 82]) hI305 ((xFr.of (S := [85, 82]) hb366 (by decide)).tr (xFr.of (S := [85, 82]) hb369 (by decide))) (List.forall_mem_cons.mpr ⟨(show cpI 7 52 4294967295 (wget w367 85) from ⟨_, (hr365.but hb369 (by decide)), xrb (by omega) (hb38)⟩), List.forall_mem_cons.mpr ⟨(show cp82 (wget w367 82) from ⟨f82_320, f82_322, f82_324, f82_326, f82_328, f82_330, f82_332, f82_334, f82_336, f82_338 + 1, f82_340, f82_341, f82_342, f82_344, f82_346, f82_348, hk368, hb321, hb323, hb325, hb327, hb329, hb331, hb333, hb335, hb337, by omega, hb343, hb345, hb347, hb349, by omega⟩), fun _ h => absurd h List.not_mem_nil⟩⟩), ((((((((hF55.up (by decide)).tr (xFr.of (S := [82, 83, 85, 86, 87]) hb101 (by decide))).tr (hF105.up (by decide))).tr (hF149.up (by decide))).tr (hF160.up (by decide))).tr (hF206.up (by decide))).tr (hF306.up (by decide))).tr ((xFr.of (S := [82, 83, 85, 86, 87]) hb366 (by decide)).tr (xFr.of (S := [82, 83, 85, 86, 87]) hb369 (by decide)))), ⟨fun h => by have := pq378.1 h; omega, (show fld w367 82 10 = 0 ∨ FA w367 ≠ 0 by omega), Or.inr ⟨by have := ms319; omega, by omega, hM381⟩, hD385⟩⟩
    · refine xg_t (xg_ifT (u := f82_187) rfl xnm0 (xj_neT hc216)) ?_
      refine xg_t (xg_blk (b := [(416, 1, 0, 0, 0, 0), (417, 3, 13, 140, 96, 183)]) rfl) ?_
      refine xg_t (xg_aload (va := (2, 82)) rfl rfl) ?_
      refine xg_cVv mX12_ends (vs := []) (rest := []) (cn1 := 0) (sl1 := 0) rfl (mEnds (hI205) pk210.2.2.2) rfl (hF206.get (by decide) h82_201) rfl rfl rfl rfl rfl rfl (fun w386 hq387 => ?_)
      obtain ⟨hI388, hF389, hx390⟩ := hq387
      clear hb172 hb174 hb176 hb178 hb180 hb182 hb184 hb186 hb188 hb190 hb194 hb196 hb198 hb200
      obtain ⟨hv391, hv392, hv393, hv394⟩ := hx390
      have pk395 : PK w203 w386 := ⟨fun _ => hv391, by omega, by omega, Or.inr hv391⟩
      have pk396 : PK w w386 := PK.tr pk210 pk395
      have os397 : ∀ j, (j < 100 + 2 * u45 ∨ 102 + 2 * u45 ≤ j) → j < 140 → rwv w386 86 j = rwv w 86 j := fun j hj hl => (rwv_fr hF389 (by decide)).trans (os211 j hj hl)
      have ix398 : u45 < 20 → rwv w386 86 ((100 + (2 * u45)) + 0) = n106 := fun h => (rwv_fr hF389 (by decide)).trans (ix212 h)
      have ix399 : u45 < 20 → rwv w386 86 ((100 + (2 * u45)) + 1) = n161 := fun h => (rwv_fr hF389 (by decide)).trans (hp208 h)
      have rg400 : FA w386 ≠ 0 ∨ (0 ≤ n106 ∧ n106 ≤ 9) := rg213.imp_left pk395.1
      have rg401 : FA w386 ≠ 0 ∨ (0 ≤ n161 ∧ n161 ≤ 9) := rg214.imp_left pk395.1
      have ms402 : mu w386 < mu w := Nat.lt_of_le_of_lt pk395.2.1 ms215
      clear ix212 hp208 rg213 rg214
      refine xg_t (xg_blk (b := [(420, 1, 0, 0, 0, 0), (421, 3, 1, 12, 11, 17), (424, 1, 2, 1, 0, 0), (425, 1, 39, 0, 0, 0), (426, 1, 10, 0, 0, 0), (427, 1, 3, 1, 0, 0), (428, 1, 11, 0, 0, 0), (429, 1, 17, 0, 0, 0), (430, 1, 0, 0, 0, 0), (431, 1, 19, 0, 0, 0), (432, 3, 1, 12, 14, 212), (435, 1, 3, 1, 0, 0), (436, 1, 11, 0, 0, 0), (437, 3, 14, 12, 14, 212), (440, 1, 12, 0, 0, 0)]) rfl) ?_
      obtain ⟨f82_403, f82_405, f82_407, f82_409, f82_411, f82_413, f82_415, f82_417, f82_419, f82_421, f82_423, f82_424, f82_425, f82_427, f82_429, f82_431, h82_433, hb404, hb406, hb408, hb410, hb412, hb414, hb416, hb418, hb420, hb422, hb426, hb428, hb430, hb432, hb434⟩ := (hI388 82 (by decide) (by decide) : cp82 (wget w386 82))
      have hf435 : fld w386 82 4 = f82_407 := fld_of h82_433
      have hf436 : fld w386 82 5 = f82_409 := fld_of h82_433
      have hf437 : fld w386 82 7 = f82_413 := fld_of h82_433
      have hf438 : fld w386 82 10 = f82_419 := fld_of h82_433
      have hf439 : fld w386 82 14 = f82_421 := fld_of h82_433
      have hu440 : mu w386 = 2 * (fld w386 82 4 - fld w386 82 5) + min 1 (fld w386 82 7) := rfl
      have hf441 := pk396.2.2.1
      have hl442 : f82_421 ≤ 1000 := by omega
      refine xg_t (xg_aload (va := (2, 82)) rfl rfl) ?_
      refine xg_t (xg_getf (va := (2, 85)) h82_433 rfl) ?_
      refine xg_t (xg_iload (va := (0, 4)) rfl rfl) ?_
      refine xg_t (xg_dup2 rfl) ?_
      refine xg_ialdB (n := 4) (B := 4294967295) (((((((h85_37.fr hF55 (by decide)).but hb101 (by decide)).fr hF105 (by decide)).fr hF149 (by decide)).fr hF160 (by decide)).fr hF206 (by decide)).fr hF389 (by decide)) (hb38) xnm0 (by omega) (fun u443 hu444 he445 => ?_)
      have hl446 : u443 = u45 := by omega
      refine xg_t (xg_const) ?_
      refine xg_t (xg_iadd (u := u443) (v := 1) (z := u443 + 1) xnm0 xnm0 (by omega)) ?_
      refine xg_iastK (n := 4) (u := u443 + 1) (((((((h85_37.fr hF55 (by decide)).but hb101 (by decide)).fr hF105 (by decide)).fr hF149 (by decide)).fr hF160 (by decide)).fr hF206 (by decide)).fr hF389 (by decide)) xnm0 xnm0 rfl (by omega) (fun w447 hr448 hb449 => ?_)
      refine xg_t (xg_aload (va := (2, 82)) rfl rfl) ?_
      refine xg_t (xg_dup rfl) ?_
      refine xg_t (xg_getf (va := (0, f82_421)) (hb449.get (by decide) h82_433) rfl) ?_
      refine xg_t (xg_const) ?_
      refine xg_t (xg_iadd (u := f82_421) (v := 1) (z := f82_421 + 1) xnm0 xnm0 (by omega)) ?_
      refine xg_putI (fl1 := [(2, 83), (2, 84), (0, f82_403), (0, f82_405), (0, f82_407), (0, f82_409), (0, f82_411), (0, f82_413), (0, f82_415), (0, f82_417), (0, f82_419), (2, 85), (2, 86), (2, 87), (0, f82_421 + 1), (2, 88), (2, 89), (2, 90), (2, 91), (2, 92), (2, 93), (2, 94), (4, f82_423), (4, f82_424), (0, f82_425), (2, 95), (2, 96), (2, 97), (2, 98), (2, 99), (2, 100), (2, 101), (2, 102), (0, f82_427), (2, 103), (2, 104), (2, 105), (2, 106), (2, 107), (2, 108), (2, 109), (0, f82_429), (0, f82_431), (2, 110), (2, 111), (2, 112), (2, 113)]) (hb449.get (by decide) h82_433) rfl rfl rfl (fun w450 hk451 hb452 => ?_)
      have hF453 : xFr [82, 85] w386 w450 := ((xFr.of (S := [82, 85]) hb449 (by decide)).tr (xFr.of (S := [82, 85]) hb452 (by decide)))
      have hA454 := FA_fr hF453 (by decide)
      have hf455 : fld w450 82 4 = f82_407 := fld_of hk451
      have hf456 : fld w450 82 5 = f82_409 := fld_of hk451
      have hf457 : fld w450 82 7 = f82_413 := fld_of hk451
      have hf458 : fld w450 82 10 = f82_419 := fld_of hk451
      have hf459 : fld w450 82 14 = f82_421 + 1 := fld_of hk451
      have hu460 : mu w450 = 2 * (fld w450 82 4 - fld w450 82 5) + min 1 (fld w450 82 7) := rfl
      have pq461 := pk396
      unfold PK PS at pq461
      have hM462 : ∀ s, s < 7 → s ≠ 4 → rwv w450 85 s = rwv w 85 s := fun s hs hn => (rwv_of (hr448.but hb452 (by decide)) hs).trans ((if_neg hn).trans (rwv_of h85_37 hs).symm)
      have hM463 : rwv w450 85 4 = u45 + 1 := (rwv_of (hr448.but hb452 (by decide)) (by decide)).trans ((if_pos rfl).trans (by omega))
      have hM464 : ∀ s, s < 7 → rwv w450 85 s ≤ rwv w 85 s + 1 := fun s hs => by
        by_cases z : s = 4
        · subst z; omega
        · rw [hM462 s hs z]; omega
      have hO465 : ∀ j, (j < 100 + 2 * u45 ∨ 102 + 2 * u45 ≤ j) → j < 140 → rwv w450 86 j = rwv w 86 j := fun j hj hl => (rwv_fr hF453 (by decide)).trans (os397 j hj hl)
      have hN466 : FA w450 ≠ 0 ∨ 20 ≤ u45 ∨ True := Or.inr (Or.inr trivial)
      have hX467 : FA w450 ≠ 0 ∨ u45 < 20 := by omega
      have hD468 : FA w450 ≠ 0 ∨ (DATA w → DATA w450) := by
        by_cases z : FA w450 ≠ 0
        · exact Or.inl z
        · exact Or.inr (fun hd => hd.s4 hM462 hK48 hM463 (hX467.resolve_left z) hO465 ((hN466.resolve_left z).resolve_left (by have := hX467.resolve_left z; omega)))
      exact xg_e ⟨w450, ⟨rfl, rfl⟩, xMnv.up (S := [85, 82]) hI388 ((xFr.of (S := [85, 82]) hb449 (by decide)).tr (xFr.of (S := [85, 82]) hb452 (by decide))) (List.forall_mem_cons.mpr ⟨(show cpI 7 52 4294967295 (wget w450 85) from ⟨_, (hr448.but hb452 (by decide)), xrb (by omega) (hb38)⟩), List.forall_mem_cons.mpr ⟨(show cp82 (wget w450 82) from ⟨f82_403, f82_405, f82_407, f82_409, f82_411, f82_413, f82_415, f82_417, f82_419, f82_421 + 1, f82_423, f82_424, f82_425, f82_427, f82_429, f82_431, hk451, hb404, hb406, hb408, hb410, hb412, hb414, hb416, hb418, hb420, by omega, hb426, hb428, hb430, hb432, by omega⟩), fun _ h => absurd h List.not_mem_nil⟩⟩), ((((((((hF55.up (by decide)).tr (xFr.of (S := [82, 83, 85, 86, 87]) hb101 (by decide))).tr (hF105.up (by decide))).tr (hF149.up (by decide))).tr (hF160.up (by decide))).tr (hF206.up (by decide))).tr (hF389.up (by decide))).tr ((xFr.of (S := [82, 83, 85, 86, 87]) hb449 (by decide)).tr (xFr.of (S := [82, 83, 85, 86, 87]) hb452 (by decide)))), ⟨fun h => by have := pq461.1 h; omega, (show fld w450 82 10 = 0 ∨ FA w450 ≠ 0 by omega), Or.inr ⟨by have := ms402; omega, by omega, hM464⟩, hD468⟩⟩
  · refine xg_t (xg_icF (u := u45) (v := 20) rfl xnm0 xnm0 (xj_ltF (by omega) (by omega))) ?_
    refine xg_t (xg_aload (va := (2, 82)) rfl rfl) ?_
    refine xg_t (xg_const) ?_
    refine xg_t (xg_iload (va := (0, at_)) rfl rfl) ?_
    refine xg_cVv mX12_also (vs := [(0, 3), (0, at_)]) (rest := []) (cn1 := 0) (sl1 := 0) rfl (mAlso (hI) (by omega) (by omega) (by omega) (PK.rf hps).2.2.2) rfl h82_31 rfl rfl rfl rfl rfl rfl (fun w469 hq470 => ?_)
    obtain ⟨hI471, hF472, hx473⟩ := hq470
    have pk474 : PK w w469 := ⟨fun _ => hx473, Nat.le_of_eq (mu_fr hF472 (by decide)), fld_fr hF472 (by decide), Or.inr hx473⟩
    have pk475 : PK w w469 := PK.tr (PK.rf hps) pk474
    have os476 : ∀ j, (j < 100 + 2 * u45 ∨ 102 + 2 * u45 ≤ j) → j < 140 → rwv w469 86 j = rwv w 86 j := fun j hj hl => (rwv_fr hF472 (by decide)).trans ((fun j _ _ => rfl) j hj hl)
    have hf477 := fld_fr (c := 82) (j := 7) hF472 (by decide)
    refine xg_t (xg_blk (b := [(64, 1, 0, 0, 0, 0), (65, 3, 13, 110, 96, 190), (68, 1, 2, 1, 0, 0), (69, 39, 33, 362, 0, 9)]) rfl) ?_
    refine xg_t (xg_aload (va := (2, 82)) rfl rfl) ?_
    refine xg_cVv mX12_advance (vs := []) (rest := []) (cn1 := 0) (sl1 := 0) rfl (mAdvance (hI471)) rfl (hF472.get (by decide) h82_31) rfl rfl rfl rfl rfl rfl (fun w478 hq479 => ?_)
    obtain ⟨hI480, hF481, hx482⟩ := hq479
    clear hb2 hb4 hb6 hb8 hb10 hb12 hb14 hb16 hb18 hb20 hb24 hb26 hb28 hb30
    obtain ⟨hv483, hv484, hv485, hv486⟩ := hx482
    have hf488 := FA_fr hF481 (by decide)
    have hs489 := pk475.2.2.2
    unfold PS at hs489
    have pk487 : PK w469 w478 := ⟨fun _ => by omega, hv483, hv486, (show fld w478 82 10 = 0 ∨ FA w478 ≠ 0 by omega)⟩
    clear hs489
    have pk490 : PK w w478 := PK.tr pk475 pk487
    have os491 : ∀ j, (j < 100 + 2 * u45 ∨ 102 + 2 * u45 ≤ j) → j < 140 → rwv w478 86 j = rwv w 86 j := fun j hj hl => (rwv_fr hF481 (by decide)).trans (os476 j hj hl)
    have rg492 : FA w478 ≠ 0 ∨ 0 = 1 := (Or.inl hx473 : FA w469 ≠ 0 ∨ 0 = 1).imp_left pk487.1
    have ms493 : mu w478 < mu w := Nat.lt_of_lt_of_le (hv484 (by omega)) pk475.2.1
    clear hv484
    refine xg_t (xg_iload (va := (0, 4)) rfl rfl) ?_
    refine xg_t (xg_swt (ks := [(0, 108), (1, 116), (2, 180), (3, 221), (4, 273), (5, 326)]) (u := 4) (z := 273) rfl rfl rfl xnm0 (xsw_n (by omega) (xsw_n (by omega) (xsw_n (by omega) (xsw_n (by omega) (xsw_y rfl)))))) ?_
    refine xg_t (xg_blk (b := [(273, 1, 2, 3, 0, 0), (274, 2, 4, 20, 0, 0), (276, 3, 6, 286, 3, 0), (279, 1, 0, 0, 0, 0), (280, 3, 1, 12, 13, 23), (283, 1, 2, 3, 0, 0), (284, 1, 2, 2, 0, 0), (285, 1, 17, 0, 0, 0)]) rfl) ?_
    refine xg_t (xg_iload (va := (0, u45)) rfl rfl) ?_
    refine xg_t (xg_bip) ?_
    refine xg_t (xg_icT (u := u45) (v := 20) rfl xnm0 xnm0 (xj_geT (by omega) (by omega))) ?_
    refine xg_t (xg_blk (b := [(286, 1, 3, 0, 0, 0), (287, 2, 15, 4, 0, 0)]) rfl) ?_
    refine xg_t (xg_const) ?_
    refine xg_t (xg_istore (l1 := [(3, (0, u45)), (2, (0, at_)), (1, (0, 4)), (0, (2, 82))]) rfl rfl rfl) ?_
    refine xg_t (xg_blk (b := [(289, 2, 2, 4, 0, 0), (291, 1, 3, 2, 0, 0), (292, 3, 6, 323, 3, 0), (295, 1, 0, 0, 0, 0), (296, 1, 2, 1, 0, 0), (297, 1, 2, 3, 0, 0), (298, 2, 4, 100, 0, 0), (300, 1, 3, 2, 0, 0), (301, 1, 2, 3, 0, 0), (302, 1, 16, 0, 0, 0), (303, 1, 11, 0, 0, 0), (304, 2, 2, 4, 0, 0), (306, 1, 11, 0, 0, 0), (307, 1, 0, 0, 0, 0), (308, 1, 3, 0, 0, 0), (309, 2, 4, 9, 0, 0), (311, 3, 13, 199, 96, 196), (314, 3, 13, 211, 96, 200), (317, 3, 9, 4, 1, 0), (320, 3, 8, 289, 0, 0)]) rfl) ?_
    refine xg_t (xg_iload (va := (0, 0)) rfl rfl) ?_
    refine xg_t (xg_const) ?_
    refine xg_t (xg_icF (u := 0) (v := 2) rfl xnm0 xnm0 (by decide)) ?_
    refine xg_t (xg_aload (va := (2, 82)) rfl rfl) ?_
    refine xg_t (xg_iload (va := (0, 4)) rfl rfl) ?_
    refine xg_t (xg_iload (va := (0, u45)) rfl rfl) ?_
    refine xg_t (xg_bip) ?_
    refine xg_t (xg_const) ?_
    refine xg_t (xg_iload (va := (0, u45)) rfl rfl) ?_
    refine xg_t (xg_imul (u := 2) (v := u45) (z := 2 * u45) xnm0 xnm0 (by omega)) ?_
    refine xg_t (xg_iadd (u := 100) (v := 2 * u45) (z := 100 + (2 * u45)) xnm0 xnm0 (by omega)) ?_
    refine xg_t (xg_iload (va := (0, 0)) rfl rfl) ?_
    refine xg_t (xg_iadd (u := 100 + (2 * u45)) (v := 0) (z := (100 + (2 * u45)) + 0) xnm0 xnm0 (by omega)) ?_
    refine xg_t (xg_aload (va := (2, 82)) rfl rfl) ?_
    refine xg_t (xg_const) ?_
    refine xg_t (xg_bip) ?_
    obtain ⟨f82_494, f82_496, f82_498, f82_500, f82_502, f82_504, f82_506, f82_508, f82_510, f82_512, f82_514, f82_515, f82_516, f82_518, f82_520, f82_522, h82_524, hb495, hb497, hb499, hb501, hb503, hb505, hb507, hb509, hb511, hb513, hb517, hb519, hb521, hb523, hb525⟩ := (hI480 82 (by decide) (by decide) : cp82 (wget w478 82))
    refine xg_cVi mX12_numbered (vs := [(0, 0), (0, 9)]) (rest := [(0, (100 + (2 * u45)) + 0), (0, u45), (0, 4), (2, 82)]) (cn1 := 0) (sl1 := 0) rfl (mNumbered (hI480) (by omega) (by omega) pk490.2.2.2) rfl h82_524 rfl rfl rfl rfl rfl rfl (fun n530 w526 hq527 => ?_)
    obtain ⟨hn531, hI528, hF529⟩ := hq527
    clear hb495 hb497 hb499 hb501 hb503 hb505 hb507 hb509 hb511 hb513 hb517 hb519 hb521 hb523
    obtain ⟨hn532, hn533, hn534⟩ := hn531
    have pk535 : PK w w526 := PK.tr pk490 hn533
    have os536 : ∀ j, (j < 100 + 2 * u45 ∨ 102 + 2 * u45 ≤ j) → j < 140 → rwv w526 86 j = rwv w 86 j := fun j hj hl => (rwv_fr hF529 (by decide)).trans (os491 j hj hl)
    have rg537 : FA w526 ≠ 0 ∨ 0 = 1 := rg492.imp_left hn533.1
    have ms538 : mu w526 < mu w := Nat.lt_of_le_of_lt hn533.2.1 ms493
    clear rg492
    obtain ⟨f82_539, f82_541, f82_543, f82_545, f82_547, f82_549, f82_551, f82_553, f82_555, f82_557, f82_559, f82_560, f82_561, f82_563, f82_565, f82_567, h82_569, hb540, hb542, hb544, hb546, hb548, hb550, hb552, hb554, hb556, hb558, hb562, hb564, hb566, hb568, hb570⟩ := (hI528 82 (by decide) (by decide) : cp82 (wget w526 82))
    refine xg_cVv mX12_puts (vs := [(0, 4), (0, u45), (0, (100 + (2 * u45)) + 0), (0, n530)]) (rest := []) (cn1 := 0) (sl1 := 0) rfl (mPuts4 (hI528) (by omega) (by omega) (by omega) (fun _ => by omega)) rfl h82_569 rfl rfl rfl rfl rfl rfl (fun w571 hq572 => ?_)
    obtain ⟨hI573, hF574, hx575⟩ := hq572
    obtain ⟨hp576, hp577⟩ := hx575
    have pk578 : PK w w571 := PK.tr pk535 (PK.fr hF574 (by decide) (by decide) pk535.2.2.2)
    have os579 : ∀ j, (j < 100 + 2 * u45 ∨ 102 + 2 * u45 ≤ j) → j < 140 → rwv w571 86 j = rwv w 86 j := fun j hj hl => (hp577 j (by omega) hl).trans (os536 j hj hl)
    have rg580 : FA w571 ≠ 0 ∨ 0 = 1 := rg537.imp_left (PK.fr hF574 (by decide) (by decide) pk535.2.2.2).1
    have rg581 : FA w571 ≠ 0 ∨ (0 ≤ n530 ∧ n530 ≤ 9) := hn534.imp_left (PK.fr hF574 (by decide) (by decide) pk535.2.2.2).1
    have ms582 : mu w571 < mu w := Nat.lt_of_le_of_lt (PK.fr hF574 (by decide) (by decide) pk535.2.2.2).2.1 ms538
    clear rg537 hn534
    refine xg_t (xg_iinc (u := 0) (z := 1) (l1 := [(3, (0, u45)), (2, (0, at_)), (1, (0, 4)), (0, (2, 82))]) rfl rfl (by decide) rfl) ?_
    refine xg_t (xg_goto) ?_
    refine xg_t (xg_blk (b := [(289, 2, 2, 4, 0, 0), (291, 1, 3, 2, 0, 0), (292, 3, 6, 323, 3, 0), (295, 1, 0, 0, 0, 0), (296, 1, 2, 1, 0, 0), (297, 1, 2, 3, 0, 0), (298, 2, 4, 100, 0, 0), (300, 1, 3, 2, 0, 0), (301, 1, 2, 3, 0, 0), (302, 1, 16, 0, 0, 0), (303, 1, 11, 0, 0, 0), (304, 2, 2, 4, 0, 0), (306, 1, 11, 0, 0, 0), (307, 1, 0, 0, 0, 0), (308, 1, 3, 0, 0, 0), (309, 2, 4, 9, 0, 0), (311, 3, 13, 199, 96, 196), (314, 3, 13, 211, 96, 200), (317, 3, 9, 4, 1, 0), (320, 3, 8, 289, 0, 0)]) rfl) ?_
    refine xg_t (xg_iload (va := (0, 1)) rfl rfl) ?_
    refine xg_t (xg_const) ?_
    refine xg_t (xg_icF (u := 1) (v := 2) rfl xnm0 xnm0 (by decide)) ?_
    refine xg_t (xg_aload (va := (2, 82)) rfl rfl) ?_
    refine xg_t (xg_iload (va := (0, 4)) rfl rfl) ?_
    refine xg_t (xg_iload (va := (0, u45)) rfl rfl) ?_
    refine xg_t (xg_bip) ?_
    refine xg_t (xg_const) ?_
    refine xg_t (xg_iload (va := (0, u45)) rfl rfl) ?_
    refine xg_t (xg_imul (u := 2) (v := u45) (z := 2 * u45) xnm0 xnm0 (by omega)) ?_
    refine xg_t (xg_iadd (u := 100) (v := 2 * u45) (z := 100 + (2 * u45)) xnm0 xnm0 (by omega)) ?_
    refine xg_t (xg_iload (va := (0, 1)) rfl rfl) ?_
    refine xg_t (xg_iadd (u := 100 + (2 * u45)) (v := 1) (z := (100 + (2 * u45)) + 1) xnm0 xnm0 (by omega)) ?_
    refine xg_t (xg_aload (va := (2, 82)) rfl rfl) ?_
    refine xg_t (xg_const) ?_
    refine xg_t (xg_bip) ?_
    refine xg_cVi mX12_numbered (vs := [(0, 0), (0, 9)]) (rest := [(0, (100 + (2 * u45)) + 1), (0, u45), (0, 4), (2, 82)]) (cn1 := 0) (sl1 := 0) rfl (mNumbered (hI573) (by omega) (by omega) pk578.2.2.2) rfl (hF574.get (by decide) h82_569) rfl rfl rfl rfl rfl rfl (fun n587 w583 hq584 => ?_)
    obtain ⟨hn588, hI585, hF586⟩ := hq584
    clear hb540 hb542 hb544 hb546 hb548 hb550 hb552 hb554 hb556 hb558 hb562 hb564 hb566 hb568
    obtain ⟨hn589, hn590, hn591⟩ := hn588
    have pk592 : PK w w583 := PK.tr pk578 hn590
    have os593 : ∀ j, (j < 100 + 2 * u45 ∨ 102 + 2 * u45 ≤ j) → j < 140 → rwv w583 86 j = rwv w 86 j := fun j hj hl => (rwv_fr hF586 (by decide)).trans (os579 j hj hl)
    have ix594 : u45 < 20 → rwv w583 86 ((100 + (2 * u45)) + 0) = n530 := fun h => (rwv_fr hF586 (by decide)).trans (hp576 h)
    have rg595 : FA w583 ≠ 0 ∨ 0 = 1 := rg580.imp_left hn590.1
    have rg596 : FA w583 ≠ 0 ∨ (0 ≤ n530 ∧ n530 ≤ 9) := rg581.imp_left hn590.1
    have ms597 : mu w583 < mu w := Nat.lt_of_le_of_lt hn590.2.1 ms582
    clear hp576 rg580 rg581
    obtain ⟨f82_598, f82_600, f82_602, f82_604, f82_606, f82_608, f82_610, f82_612, f82_614, f82_616, f82_618, f82_619, f82_620, f82_622, f82_624, f82_626, h82_628, hb599, hb601, hb603, hb605, hb607, hb609, hb611, hb613, hb615, hb617, hb621, hb623, hb625, hb627, hb629⟩ := (hI585 82 (by decide) (by decide) : cp82 (wget w583 82))
    refine xg_cVv mX12_puts (vs := [(0, 4), (0, u45), (0, (100 + (2 * u45)) + 1), (0, n587)]) (rest := []) (cn1 := 0) (sl1 := 0) rfl (mPuts4 (hI585) (by omega) (by omega) (by omega) (fun _ => by omega)) rfl h82_628 rfl rfl rfl rfl rfl rfl (fun w630 hq631 => ?_)
    obtain ⟨hI632, hF633, hx634⟩ := hq631
    obtain ⟨hp635, hp636⟩ := hx634
    have pk637 : PK w w630 := PK.tr pk592 (PK.fr hF633 (by decide) (by decide) pk592.2.2.2)
    have os638 : ∀ j, (j < 100 + 2 * u45 ∨ 102 + 2 * u45 ≤ j) → j < 140 → rwv w630 86 j = rwv w 86 j := fun j hj hl => (hp636 j (by omega) hl).trans (os593 j hj hl)
    have ix639 : u45 < 20 → rwv w630 86 ((100 + (2 * u45)) + 0) = n530 := fun h => (hp636 _ (by omega) (by omega)).trans (ix594 h)
    have rg640 : FA w630 ≠ 0 ∨ 0 = 1 := rg595.imp_left (PK.fr hF633 (by decide) (by decide) pk592.2.2.2).1
    have rg641 : FA w630 ≠ 0 ∨ (0 ≤ n530 ∧ n530 ≤ 9) := rg596.imp_left (PK.fr hF633 (by decide) (by decide) pk592.2.2.2).1
    have rg642 : FA w630 ≠ 0 ∨ (0 ≤ n587 ∧ n587 ≤ 9) := hn591.imp_left (PK.fr hF633 (by decide) (by decide) pk592.2.2.2).1
    have ms643 : mu w630 < mu w := Nat.lt_of_le_of_lt (PK.fr hF633 (by decide) (by decide) pk592.2.2.2).2.1 ms597
    clear ix594 rg595 rg596 hn591
    refine xg_t (xg_iinc (u := 1) (z := 2) (l1 := [(3, (0, u45)), (2, (0, at_)), (1, (0, 4)), (0, (2, 82))]) rfl rfl (by decide) rfl) ?_
    refine xg_t (xg_goto) ?_
    refine xg_t (xg_blk (b := [(289, 2, 2, 4, 0, 0), (291, 1, 3, 2, 0, 0), (292, 3, 6, 323, 3, 0), (295, 1, 0, 0, 0, 0), (296, 1, 2, 1, 0, 0), (297, 1, 2, 3, 0, 0), (298, 2, 4, 100, 0, 0), (300, 1, 3, 2, 0, 0), (301, 1, 2, 3, 0, 0), (302, 1, 16, 0, 0, 0), (303, 1, 11, 0, 0, 0), (304, 2, 2, 4, 0, 0), (306, 1, 11, 0, 0, 0), (307, 1, 0, 0, 0, 0), (308, 1, 3, 0, 0, 0), (309, 2, 4, 9, 0, 0), (311, 3, 13, 199, 96, 196), (314, 3, 13, 211, 96, 200), (317, 3, 9, 4, 1, 0), (320, 3, 8, 289, 0, 0)]) rfl) ?_
    refine xg_t (xg_iload (va := (0, 2)) rfl rfl) ?_
    refine xg_t (xg_const) ?_
    refine xg_t (xg_icT (u := 2) (v := 2) rfl xnm0 xnm0 (by decide)) ?_
    refine xg_t (xg_blk (b := [(323, 3, 8, 394, 0, 0)]) rfl) ?_
    refine xg_t (xg_goto) ?_
    refine xg_t (xg_blk (b := [(394, 1, 0, 0, 0, 0), (395, 3, 1, 12, 10, 180), (398, 3, 7, 416, 1, 0), (401, 1, 0, 0, 0, 0), (402, 3, 1, 12, 7, 151), (405, 1, 3, 2, 0, 0), (406, 3, 6, 416, 1, 0), (409, 1, 0, 0, 0, 0), (410, 3, 13, 110, 96, 190), (413, 3, 8, 420, 0, 0)]) rfl) ?_
    refine xg_t (xg_aload (va := (2, 82)) rfl rfl) ?_
    refine xg_t (xg_getf (va := (0, f82_614)) (hF633.get (by decide) h82_628) rfl) ?_
    by_cases hc644 : f82_614 = 0
    · refine xg_t (xg_ifF (u := f82_614) rfl xnm0 (xj_neF hc644)) ?_
      refine xg_t (xg_aload (va := (2, 82)) rfl rfl) ?_
      refine xg_t (xg_getf (va := (0, f82_608)) (hF633.get (by decide) h82_628) rfl) ?_
      refine xg_t (xg_const) ?_
      by_cases hc645 : f82_608 = 2
      · refine xg_t (xg_icF (u := f82_608) (v := 2) rfl xnm0 xnm0 (xj_neF hc645)) ?_
        refine xg_t (xg_aload (va := (2, 82)) rfl rfl) ?_
        refine xg_cVv mX12_advance (vs := []) (rest := []) (cn1 := 0) (sl1 := 0) rfl (mAdvance (hI632)) rfl (hF633.get (by decide) h82_628) rfl rfl rfl rfl rfl rfl (fun w646 hq647 => ?_)
        obtain ⟨hI648, hF649, hx650⟩ := hq647
        clear hb599 hb601 hb603 hb605 hb607 hb609 hb611 hb613 hb615 hb617 hb621 hb623 hb625 hb627
        obtain ⟨hv651, hv652, hv653, hv654⟩ := hx650
        have hf656 := FA_fr hF649 (by decide)
        have hs657 := pk637.2.2.2
        unfold PS at hs657
        have pk655 : PK w630 w646 := ⟨fun _ => by omega, hv651, hv654, (show fld w646 82 10 = 0 ∨ FA w646 ≠ 0 by omega)⟩
        clear hs657
        clear hv652
        have pk658 : PK w w646 := PK.tr pk637 pk655
        have os659 : ∀ j, (j < 100 + 2 * u45 ∨ 102 + 2 * u45 ≤ j) → j < 140 → rwv w646 86 j = rwv w 86 j := fun j hj hl => (rwv_fr hF649 (by decide)).trans (os638 j hj hl)
        have ix660 : u45 < 20 → rwv w646 86 ((100 + (2 * u45)) + 0) = n530 := fun h => (rwv_fr hF649 (by decide)).trans (ix639 h)
        have ix661 : u45 < 20 → rwv w646 86 ((100 + (2 * u45)) + 1) = n587 := fun h => (rwv_fr hF649 (by decide)).trans (hp635 h)
        have rg662 : FA w646 ≠ 0 ∨ 0 = 1 := rg640.imp_left pk655.1
        have rg663 : FA w646 ≠ 0 ∨ (0 ≤ n530 ∧ n530 ≤ 9) := rg641.imp_left pk655.1
        have rg664 : FA w646 ≠ 0 ∨ (0 ≤ n587 ∧ n587 ≤ 9) := rg642.imp_left pk655.1
        have ms665 : mu w646 < mu w := Nat.lt_of_le_of_lt pk655.2.1 ms643
        clear ix639 hp635 rg640 rg641 rg642
        refine xg_t (xg_goto) ?_
        refine xg_t (xg_blk (b := [(420, 1, 0, 0, 0, 0), (421, 3, 1, 12, 11, 17), (424, 1, 2, 1, 0, 0), (425, 1, 39, 0, 0, 0), (426, 1, 10, 0, 0, 0), (427, 1, 3, 1, 0, 0), (428, 1, 11, 0, 0, 0), (429, 1, 17, 0, 0, 0), (430, 1, 0, 0, 0, 0), (431, 1, 19, 0, 0, 0), (432, 3, 1, 12, 14, 212), (435, 1, 3, 1, 0, 0), (436, 1, 11, 0, 0, 0), (437, 3, 14, 12, 14, 212), (440, 1, 12, 0, 0, 0)]) rfl) ?_
        obtain ⟨f82_666, f82_668, f82_670, f82_672, f82_674, f82_676, f82_678, f82_680, f82_682, f82_684, f82_686, f82_687, f82_688, f82_690, f82_692, f82_694, h82_696, hb667, hb669, hb671, hb673, hb675, hb677, hb679, hb681, hb683, hb685, hb689, hb691, hb693, hb695, hb697⟩ := (hI648 82 (by decide) (by decide) : cp82 (wget w646 82))
        have hf698 : fld w646 82 4 = f82_670 := fld_of h82_696
        have hf699 : fld w646 82 5 = f82_672 := fld_of h82_696
        have hf700 : fld w646 82 7 = f82_676 := fld_of h82_696
        have hf701 : fld w646 82 10 = f82_682 := fld_of h82_696
        have hf702 : fld w646 82 14 = f82_684 := fld_of h82_696
        have hu703 : mu w646 = 2 * (fld w646 82 4 - fld w646 82 5) + min 1 (fld w646 82 7) := rfl
        have hf704 := pk658.2.2.1
        have hl705 : f82_684 ≤ 1000 := by omega
        refine xg_t (xg_aload (va := (2, 82)) rfl rfl) ?_
        refine xg_t (xg_getf (va := (2, 85)) h82_696 rfl) ?_
        refine xg_t (xg_iload (va := (0, 4)) rfl rfl) ?_
        refine xg_t (xg_dup2 rfl) ?_
        refine xg_ialdB (n := 4) (B := 4294967295) (((((((h85_37.fr hF472 (by decide)).fr hF481 (by decide)).fr hF529 (by decide)).fr hF574 (by decide)).fr hF586 (by decide)).fr hF633 (by decide)).fr hF649 (by decide)) (hb38) xnm0 (by omega) (fun u706 hu707 he708 => ?_)
        have hl709 : u706 = u45 := by omega
        refine xg_t (xg_const) ?_
        refine xg_t (xg_iadd (u := u706) (v := 1) (z := u706 + 1) xnm0 xnm0 (by omega)) ?_
        refine xg_iastK (n := 4) (u := u706 + 1) (((((((h85_37.fr hF472 (by decide)).fr hF481 (by decide)).fr hF529 (by decide)).fr hF574 (by decide)).fr hF586 (by decide)).fr hF633 (by decide)).fr hF649 (by decide)) xnm0 xnm0 rfl (by omega) (fun w710 hr711 hb712 => ?_)
        refine xg_t (xg_aload (va := (2, 82)) rfl rfl) ?_
        refine xg_t (xg_dup rfl) ?_
        refine xg_t (xg_getf (va := (0, f82_684)) (hb712.get (by decide) h82_696) rfl) ?_
        refine xg_t (xg_const) ?_
        refine xg_t (xg_iadd (u := f82_684) (v := 1) (z := f82_684 + 1) xnm0 xnm0 (by omega)) ?_
        refine xg_putI (fl1 := [(2, 83), (2, 84), (0, f82_666), (0, f82_668), (0, f82_670), (0, f82_672), (0, f82_674), (0, f82_676), (0, f82_678), (0, f82_680), (0, f82_682), (2, 85), (2, 86), (2, 87), (0, f82_684 + 1), (2, 88), (2, 89), (2, 90), (2, 91), (2, 92), (2, 93), (2, 94), (4, f82_686), (4, f82_687), (0, f82_688), (2, 95), (2, 96), (2, 97), (2, 98), (2, 99), (2, 100), (2, 101), (2, 102), (0, f82_690), (2, 103), (2, 104), (2, 105), (2, 106), (2, 107), (2, 108), (2, 109), (0, f82_692), (0, f82_694), (2, 110), (2, 111), (2, 112), (2, 113)]) (hb712.get (by decide) h82_696) rfl rfl rfl (fun w713 hk714 hb715 => ?_)
        have hF716 : xFr [82, 85] w646 w713 := ((xFr.of (S := [82, 85]) hb712 (by decide)).tr (xFr.of (S := [82, 85]) hb715 (by decide)))
        have hA717 := FA_fr hF716 (by decide)
        have hf718 : fld w713 82 4 = f82_670 := fld_of hk714
        have hf719 : fld w713 82 5 = f82_672 := fld_of hk714
        have hf720 : fld w713 82 7 = f82_676 := fld_of hk714
        have hf721 : fld w713 82 10 = f82_682 := fld_of hk714
        have hf722 : fld w713 82 14 = f82_684 + 1 := fld_of hk714
        have hu723 : mu w713 = 2 * (fld w713 82 4 - fld w713 82 5) + min 1 (fld w713 82 7) := rfl
        have pq724 := pk658
        unfold PK PS at pq724
        have hM725 : ∀ s, s < 7 → s ≠ 4 → rwv w713 85 s = rwv w 85 s := fun s hs hn => (rwv_of (hr711.but hb715 (by decide)) hs).trans ((if_neg hn).trans (rwv_of h85_37 hs).symm)
        have hM726 : rwv w713 85 4 = u45 + 1 := (rwv_of (hr711.but hb715 (by decide)) (by decide)).trans ((if_pos rfl).trans (by omega))
        have hM727 : ∀ s, s < 7 → rwv w713 85 s ≤ rwv w 85 s + 1 := fun s hs => by
          by_cases z : s = 4
          · subst z; omega
          · rw [hM725 s hs z]; omega
        have hO728 : ∀ j, (j < 100 + 2 * u45 ∨ 102 + 2 * u45 ≤ j) → j < 140 → rwv w713 86 j = rwv w 86 j := fun j hj hl => (rwv_fr hF716 (by decide)).trans (os659 j hj hl)
        have hl730 : FA w646 ≠ 0 ∨ 0 = 1 := rg662
        have hN729 : FA w713 ≠ 0 ∨ 20 ≤ u45 ∨ True := Or.inr (Or.inr trivial)
        have hX731 : FA w713 ≠ 0 ∨ u45 < 20 := by omega
        have hD732 : FA w713 ≠ 0 ∨ (DATA w → DATA w713) := by
          by_cases z : FA w713 ≠ 0
          · exact Or.inl z
          · exact Or.inr (fun hd => hd.s4 hM725 hK48 hM726 (hX731.resolve_left z) hO728 ((hN729.resolve_left z).resolve_left (by have := hX731.resolve_left z; omega)))
        exact xg_e ⟨w713, ⟨rfl, rfl⟩, xMnv.up (S := [85, 82]) hI648 ((xFr.of (S := [85, 82]) hb712 (by decide)).tr (xFr.of (S := [85, 82]) hb715 (by decide))) (List.forall_mem_cons.mpr ⟨(show cpI 7 52 4294967295 (wget w713 85) from ⟨_, (hr711.but hb715 (by decide)), xrb (by omega) (hb38)⟩), List.forall_mem_cons.mpr ⟨(show cp82 (wget w713 82) from ⟨f82_666, f82_668, f82_670, f82_672, f82_674, f82_676, f82_678, f82_680, f82_682, f82_684 + 1, f82_686, f82_687, f82_688, f82_690, f82_692, f82_694, hk714, hb667, hb669, hb671, hb673, hb675, hb677, hb679, hb681, hb683, by omega, hb689, hb691, hb693, hb695, by omega⟩), fun _ h => absurd h List.not_mem_nil⟩⟩), ((((((((hF472.up (by decide)).tr (hF481.up (by decide))).tr (hF529.up (by decide))).tr (hF574.up (by decide))).tr (hF586.up (by decide))).tr (hF633.up (by decide))).tr (hF649.up (by decide))).tr ((xFr.of (S := [82, 83, 85, 86, 87]) hb712 (by decide)).tr (xFr.of (S := [82, 83, 85, 86, 87]) hb715 (by decide)))), ⟨fun h => by have := pq724.1 h; omega, (show fld w713 82 10 = 0 ∨ FA w713 ≠ 0 by omega), Or.inr ⟨by have := ms665; omega, by omega, hM727⟩, hD732⟩⟩
      · refine xg_t (xg_icT (u := f82_608) (v := 2) rfl xnm0 xnm0 (xj_neT hc645)) ?_
        refine xg_t (xg_blk (b := [(416, 1, 0, 0, 0, 0), (417, 3, 13, 140, 96, 183)]) rfl) ?_
        refine xg_t (xg_aload (va := (2, 82)) rfl rfl) ?_
        refine xg_cVv mX12_ends (vs := []) (rest := []) (cn1 := 0) (sl1 := 0) rfl (mEnds (hI632) pk637.2.2.2) rfl (hF633.get (by decide) h82_628) rfl rfl rfl rfl rfl rfl (fun w733 hq734 => ?_)
        obtain ⟨hI735, hF736, hx737⟩ := hq734
        clear hb599 hb601 hb603 hb605 hb607 hb609 hb611 hb613 hb615 hb617 hb621 hb623 hb625 hb627
        obtain ⟨hv738, hv739, hv740, hv741⟩ := hx737
        have pk742 : PK w630 w733 := ⟨fun _ => hv738, by omega, by omega, Or.inr hv738⟩
        have pk743 : PK w w733 := PK.tr pk637 pk742
        have os744 : ∀ j, (j < 100 + 2 * u45 ∨ 102 + 2 * u45 ≤ j) → j < 140 → rwv w733 86 j = rwv w 86 j := fun j hj hl => (rwv_fr hF736 (by decide)).trans (os638 j hj hl)
        have ix745 : u45 < 20 → rwv w733 86 ((100 + (2 * u45)) + 0) = n530 := fun h => (rwv_fr hF736 (by decide)).trans (ix639 h)
        have ix746 : u45 < 20 → rwv w733 86 ((100 + (2 * u45)) + 1) = n587 := fun h => (rwv_fr hF736 (by decide)).trans (hp635 h)
        have rg747 : FA w733 ≠ 0 ∨ 0 = 1 := rg640.imp_left pk742.1
        have rg748 : FA w733 ≠ 0 ∨ (0 ≤ n530 ∧ n530 ≤ 9) := rg641.imp_left pk742.1
        have rg749 : FA w733 ≠ 0 ∨ (0 ≤ n587 ∧ n587 ≤ 9) := rg642.imp_left pk742.1
        have ms750 : mu w733 < mu w := Nat.lt_of_le_of_lt pk742.2.1 ms643
        clear ix639 hp635 rg640 rg641 rg642
        refine xg_t (xg_blk (b := [(420, 1, 0, 0, 0, 0), (421, 3, 1, 12, 11, 17), (424, 1, 2, 1, 0, 0), (425, 1, 39, 0, 0, 0), (426, 1, 10, 0, 0, 0), (427, 1, 3, 1, 0, 0), (428, 1, 11, 0, 0, 0), (429, 1, 17, 0, 0, 0), (430, 1, 0, 0, 0, 0), (431, 1, 19, 0, 0, 0), (432, 3, 1, 12, 14, 212), (435, 1, 3, 1, 0, 0), (436, 1, 11, 0, 0, 0), (437, 3, 14, 12, 14, 212), (440, 1, 12, 0, 0, 0)]) rfl) ?_
        obtain ⟨f82_751, f82_753, f82_755, f82_757, f82_759, f82_761, f82_763, f82_765, f82_767, f82_769, f82_771, f82_772, f82_773, f82_775, f82_777, f82_779, h82_781, hb752, hb754, hb756, hb758, hb760, hb762, hb764, hb766, hb768, hb770, hb774, hb776, hb778, hb780, hb782⟩ := (hI735 82 (by decide) (by decide) : cp82 (wget w733 82))
        have hf783 : fld w733 82 4 = f82_755 := fld_of h82_781
        have hf784 : fld w733 82 5 = f82_757 := fld_of h82_781
        have hf785 : fld w733 82 7 = f82_761 := fld_of h82_781
        have hf786 : fld w733 82 10 = f82_767 := fld_of h82_781
        have hf787 : fld w733 82 14 = f82_769 := fld_of h82_781
        have hu788 : mu w733 = 2 * (fld w733 82 4 - fld w733 82 5) + min 1 (fld w733 82 7) := rfl
        have hf789 := pk743.2.2.1
        have hl790 : f82_769 ≤ 1000 := by omega
        refine xg_t (xg_aload (va := (2, 82)) rfl rfl) ?_
        refine xg_t (xg_getf (va := (2, 85)) h82_781 rfl) ?_
        refine xg_t (xg_iload (va := (0, 4)) rfl rfl) ?_
        refine xg_t (xg_dup2 rfl) ?_
        refine xg_ialdB (n := 4) (B := 4294967295) (((((((h85_37.fr hF472 (by decide)).fr hF481 (by decide)).fr hF529 (by decide)).fr hF574 (by decide)).fr hF586 (by decide)).fr hF633 (by decide)).fr hF736 (by decide)) (hb38) xnm0 (by omega) (fun u791 hu792 he793 => ?_)
        have hl794 : u791 = u45 := by omega
        refine xg_t (xg_const) ?_
        refine xg_t (xg_iadd (u := u791) (v := 1) (z := u791 + 1) xnm0 xnm0 (by omega)) ?_
        refine xg_iastK (n := 4) (u := u791 + 1) (((((((h85_37.fr hF472 (by decide)).fr hF481 (by decide)).fr hF529 (by decide)).fr hF574 (by decide)).fr hF586 (by decide)).fr hF633 (by decide)).fr hF736 (by decide)) xnm0 xnm0 rfl (by omega) (fun w795 hr796 hb797 => ?_)
        refine xg_t (xg_aload (va := (2, 82)) rfl rfl) ?_
        refine xg_t (xg_dup rfl) ?_
        refine xg_t (xg_getf (va := (0, f82_769)) (hb797.get (by decide) h82_781) rfl) ?_
        refine xg_t (xg_const) ?_
        refine xg_t (xg_iadd (u := f82_769) (v := 1) (z := f82_769 + 1) xnm0 xnm0 (by omega)) ?_
        refine xg_putI (fl1 := [(2, 83), (2, 84), (0, f82_751), (0, f82_753), (0, f82_755), (0, f82_757), (0, f82_759), (0, f82_761), (0, f82_763), (0, f82_765), (0, f82_767), (2, 85), (2, 86), (2, 87), (0, f82_769 + 1), (2, 88), (2, 89), (2, 90), (2, 91), (2, 92), (2, 93), (2, 94), (4, f82_771), (4, f82_772), (0, f82_773), (2, 95), (2, 96), (2, 97), (2, 98), (2, 99), (2, 100), (2, 101), (2, 102), (0, f82_775), (2, 103), (2, 104), (2, 105), (2, 106), (2, 107), (2, 108), (2, 109), (0, f82_777), (0, f82_779), (2, 110), (2, 111), (2, 112), (2, 113)]) (hb797.get (by decide) h82_781) rfl rfl rfl (fun w798 hk799 hb800 => ?_)
        have hF801 : xFr [82, 85] w733 w798 := ((xFr.of (S := [82, 85]) hb797 (by decide)).tr (xFr.of (S := [82, 85]) hb800 (by decide)))
        have hA802 := FA_fr hF801 (by decide)
        have hf803 : fld w798 82 4 = f82_755 := fld_of hk799
        have hf804 : fld w798 82 5 = f82_757 := fld_of hk799
        have hf805 : fld w798 82 7 = f82_761 := fld_of hk799
        have hf806 : fld w798 82 10 = f82_767 := fld_of hk799
        have hf807 : fld w798 82 14 = f82_769 + 1 := fld_of hk799
        have hu808 : mu w798 = 2 * (fld w798 82 4 - fld w798 82 5) + min 1 (fld w798 82 7) := rfl
        have pq809 := pk743
        unfold PK PS at pq809
        have hM810 : ∀ s, s < 7 → s ≠ 4 → rwv w798 85 s = rwv w 85 s := fun s hs hn => (rwv_of (hr796.but hb800 (by decide)) hs).trans ((if_neg hn).trans (rwv_of h85_37 hs).symm)
        have hM811 : rwv w798 85 4 = u45 + 1 := (rwv_of (hr796.but hb800 (by decide)) (by decide)).trans ((if_pos rfl).trans (by omega))
        have hM812 : ∀ s, s < 7 → rwv w798 85 s ≤ rwv w 85 s + 1 := fun s hs => by
          by_cases z : s = 4
          · subst z; omega
          · rw [hM810 s hs z]; omega
        have hO813 : ∀ j, (j < 100 + 2 * u45 ∨ 102 + 2 * u45 ≤ j) → j < 140 → rwv w798 86 j = rwv w 86 j := fun j hj hl => (rwv_fr hF801 (by decide)).trans (os744 j hj hl)
        have hl815 : FA w733 ≠ 0 ∨ 0 = 1 := rg747
        have hN814 : FA w798 ≠ 0 ∨ 20 ≤ u45 ∨ True := Or.inr (Or.inr trivial)
        have hX816 : FA w798 ≠ 0 ∨ u45 < 20 := by omega
        have hD817 : FA w798 ≠ 0 ∨ (DATA w → DATA w798) := by
          by_cases z : FA w798 ≠ 0
          · exact Or.inl z
          · exact Or.inr (fun hd => hd.s4 hM810 hK48 hM811 (hX816.resolve_left z) hO813 ((hN814.resolve_left z).resolve_left (by have := hX816.resolve_left z; omega)))
        exact xg_e ⟨w798, ⟨rfl, rfl⟩, xMnv.up (S := [85, 82]) hI735 ((xFr.of (S := [85, 82]) hb797 (by decide)).tr (xFr.of (S := [85, 82]) hb800 (by decide))) (List.forall_mem_cons.mpr ⟨(show cpI 7 52 4294967295 (wget w798 85) from ⟨_, (hr796.but hb800 (by decide)), xrb (by omega) (hb38)⟩), List.forall_mem_cons.mpr ⟨(show cp82 (wget w798 82) from ⟨f82_751, f82_753, f82_755, f82_757, f82_759, f82_761, f82_763, f82_765, f82_767, f82_769 + 1, f82_771, f82_772, f82_773, f82_775, f82_777, f82_779, hk799, hb752, hb754, hb756, hb758, hb760, hb762, hb764, hb766, hb768, by omega, hb774, hb776, hb778, hb780, by omega⟩), fun _ h => absurd h List.not_mem_nil⟩⟩), ((((((((hF472.up (by decide)).tr (hF481.up (by decide))).tr (hF529.up (by decide))).tr (hF574.up (by decide))).tr (hF586.up (by decide))).tr (hF633.up (by decide))).tr (hF736.up (by decide))).tr ((xFr.of (S := [82, 83, 85, 86, 87]) hb797 (by decide)).tr (xFr.of (S := [82, 83, 85, 86, 87]) hb800 (by decide)))), ⟨fun h => by have := pq809.1 h; omega, (show fld w798 82 10 = 0 ∨ FA w798 ≠ 0 by omega), Or.inr ⟨by have := ms750; omega, by omega, hM812⟩, hD817⟩⟩
    · refine xg_t (xg_ifT (u := f82_614) rfl xnm0 (xj_neT hc644)) ?_
      refine xg_t (xg_blk (b := [(416, 1, 0, 0, 0, 0), (417, 3, 13, 140, 96, 183)]) rfl) ?_
      refine xg_t (xg_aload (va := (2, 82)) rfl rfl) ?_
      refine xg_cVv mX12_ends (vs := []) (rest := []) (cn1 := 0) (sl1 := 0) rfl (mEnds (hI632) pk637.2.2.2) rfl (hF633.get (by decide) h82_628) rfl rfl rfl rfl rfl rfl (fun w818 hq819 => ?_)
      obtain ⟨hI820, hF821, hx822⟩ := hq819
      clear hb599 hb601 hb603 hb605 hb607 hb609 hb611 hb613 hb615 hb617 hb621 hb623 hb625 hb627
      obtain ⟨hv823, hv824, hv825, hv826⟩ := hx822
      have pk827 : PK w630 w818 := ⟨fun _ => hv823, by omega, by omega, Or.inr hv823⟩
      have pk828 : PK w w818 := PK.tr pk637 pk827
      have os829 : ∀ j, (j < 100 + 2 * u45 ∨ 102 + 2 * u45 ≤ j) → j < 140 → rwv w818 86 j = rwv w 86 j := fun j hj hl => (rwv_fr hF821 (by decide)).trans (os638 j hj hl)
      have ix830 : u45 < 20 → rwv w818 86 ((100 + (2 * u45)) + 0) = n530 := fun h => (rwv_fr hF821 (by decide)).trans (ix639 h)
      have ix831 : u45 < 20 → rwv w818 86 ((100 + (2 * u45)) + 1) = n587 := fun h => (rwv_fr hF821 (by decide)).trans (hp635 h)
      have rg832 : FA w818 ≠ 0 ∨ 0 = 1 := rg640.imp_left pk827.1
      have rg833 : FA w818 ≠ 0 ∨ (0 ≤ n530 ∧ n530 ≤ 9) := rg641.imp_left pk827.1
      have rg834 : FA w818 ≠ 0 ∨ (0 ≤ n587 ∧ n587 ≤ 9) := rg642.imp_left pk827.1
      have ms835 : mu w818 < mu w := Nat.lt_of_le_of_lt pk827.2.1 ms643
      clear ix639 hp635 rg640 rg641 rg642
      refine xg_t (xg_blk (b := [(420, 1, 0, 0, 0, 0), (421, 3, 1, 12, 11, 17), (424, 1, 2, 1, 0, 0), (425, 1, 39, 0, 0, 0), (426, 1, 10, 0, 0, 0), (427, 1, 3, 1, 0, 0), (428, 1, 11, 0, 0, 0), (429, 1, 17, 0, 0, 0), (430, 1, 0, 0, 0, 0), (431, 1, 19, 0, 0, 0), (432, 3, 1, 12, 14, 212), (435, 1, 3, 1, 0, 0), (436, 1, 11, 0, 0, 0), (437, 3, 14, 12, 14, 212), (440, 1, 12, 0, 0, 0)]) rfl) ?_
      obtain ⟨f82_836, f82_838, f82_840, f82_842, f82_844, f82_846, f82_848, f82_850, f82_852, f82_854, f82_856, f82_857, f82_858, f82_860, f82_862, f82_864, h82_866, hb837, hb839, hb841, hb843, hb845, hb847, hb849, hb851, hb853, hb855, hb859, hb861, hb863, hb865, hb867⟩ := (hI820 82 (by decide) (by decide) : cp82 (wget w818 82))
      have hf868 : fld w818 82 4 = f82_840 := fld_of h82_866
      have hf869 : fld w818 82 5 = f82_842 := fld_of h82_866
      have hf870 : fld w818 82 7 = f82_846 := fld_of h82_866
      have hf871 : fld w818 82 10 = f82_852 := fld_of h82_866
      have hf872 : fld w818 82 14 = f82_854 := fld_of h82_866
      have hu873 : mu w818 = 2 * (fld w818 82 4 - fld w818 82 5) + min 1 (fld w818 82 7) := rfl
      have hf874 := pk828.2.2.1
      have hl875 : f82_854 ≤ 1000 := by omega
      refine xg_t (xg_aload (va := (2, 82)) rfl rfl) ?_
      refine xg_t (xg_getf (va := (2, 85)) h82_866 rfl) ?_
      refine xg_t (xg_iload (va := (0, 4)) rfl rfl) ?_
      refine xg_t (xg_dup2 rfl) ?_
      refine xg_ialdB (n := 4) (B := 4294967295) (((((((h85_37.fr hF472 (by decide)).fr hF481 (by decide)).fr hF529 (by decide)).fr hF574 (by decide)).fr hF586 (by decide)).fr hF633 (by decide)).fr hF821 (by decide)) (hb38) xnm0 (by omega) (fun u876 hu877 he878 => ?_)
      have hl879 : u876 = u45 := by omega
      refine xg_t (xg_const) ?_
      refine xg_t (xg_iadd (u := u876) (v := 1) (z := u876 + 1) xnm0 xnm0 (by omega)) ?_
      refine xg_iastK (n := 4) (u := u876 + 1) (((((((h85_37.fr hF472 (by decide)).fr hF481 (by decide)).fr hF529 (by decide)).fr hF574 (by decide)).fr hF586 (by decide)).fr hF633 (by decide)).fr hF821 (by decide)) xnm0 xnm0 rfl (by omega) (fun w880 hr881 hb882 => ?_)
      refine xg_t (xg_aload (va := (2, 82)) rfl rfl) ?_
      refine xg_t (xg_dup rfl) ?_
      refine xg_t (xg_getf (va := (0, f82_854)) (hb882.get (by decide) h82_866) rfl) ?_
      refine xg_t (xg_const) ?_
      refine xg_t (xg_iadd (u := f82_854) (v := 1) (z := f82_854 + 1) xnm0 xnm0 (by omega)) ?_
      refine xg_putI (fl1 := [(2, 83), (2, 84), (0, f82_836), (0, f82_838), (0, f82_840), (0, f82_842), (0, f82_844), (0, f82_846), (0, f82_848), (0, f82_850), (0, f82_852), (2, 85), (2, 86), (2, 87), (0, f82_854 + 1), (2, 88), (2, 89), (2, 90), (2, 91), (2, 92), (2, 93), (2, 94), (4, f82_856), (4, f82_857), (0, f82_858), (2, 95), (2, 96), (2, 97), (2, 98), (2, 99), (2, 100), (2, 101), (2, 102), (0, f82_860), (2, 103), (2, 104), (2, 105), (2, 106), (2, 107), (2, 108), (2, 109), (0, f82_862), (0, f82_864), (2, 110), (2, 111), (2, 112), (2, 113)]) (hb882.get (by decide) h82_866) rfl rfl rfl (fun w883 hk884 hb885 => ?_)
      have hF886 : xFr [82, 85] w818 w883 := ((xFr.of (S := [82, 85]) hb882 (by decide)).tr (xFr.of (S := [82, 85]) hb885 (by decide)))
      have hA887 := FA_fr hF886 (by decide)
      have hf888 : fld w883 82 4 = f82_840 := fld_of hk884
      have hf889 : fld w883 82 5 = f82_842 := fld_of hk884
      have hf890 : fld w883 82 7 = f82_846 := fld_of hk884
      have hf891 : fld w883 82 10 = f82_852 := fld_of hk884
      have hf892 : fld w883 82 14 = f82_854 + 1 := fld_of hk884
      have hu893 : mu w883 = 2 * (fld w883 82 4 - fld w883 82 5) + min 1 (fld w883 82 7) := rfl
      have pq894 := pk828
      unfold PK PS at pq894
      have hM895 : ∀ s, s < 7 → s ≠ 4 → rwv w883 85 s = rwv w 85 s := fun s hs hn => (rwv_of (hr881.but hb885 (by decide)) hs).trans ((if_neg hn).trans (rwv_of h85_37 hs).symm)
      have hM896 : rwv w883 85 4 = u45 + 1 := (rwv_of (hr881.but hb885 (by decide)) (by decide)).trans ((if_pos rfl).trans (by omega))
      have hM897 : ∀ s, s < 7 → rwv w883 85 s ≤ rwv w 85 s + 1 := fun s hs => by
        by_cases z : s = 4
        · subst z; omega
        · rw [hM895 s hs z]; omega
      have hO898 : ∀ j, (j < 100 + 2 * u45 ∨ 102 + 2 * u45 ≤ j) → j < 140 → rwv w883 86 j = rwv w 86 j := fun j hj hl => (rwv_fr hF886 (by decide)).trans (os829 j hj hl)
      have hl900 : FA w818 ≠ 0 ∨ 0 = 1 := rg832
      have hN899 : FA w883 ≠ 0 ∨ 20 ≤ u45 ∨ True := Or.inr (Or.inr trivial)
      have hX901 : FA w883 ≠ 0 ∨ u45 < 20 := by omega
      have hD902 : FA w883 ≠ 0 ∨ (DATA w → DATA w883) := by
        by_cases z : FA w883 ≠ 0
        · exact Or.inl z
        · exact Or.inr (fun hd => hd.s4 hM895 hK48 hM896 (hX901.resolve_left z) hO898 ((hN899.resolve_left z).resolve_left (by have := hX901.resolve_left z; omega)))
      exact xg_e ⟨w883, ⟨rfl, rfl⟩, xMnv.up (S := [85, 82]) hI820 ((xFr.of (S := [85, 82]) hb882 (by decide)).tr (xFr.of (S := [85, 82]) hb885 (by decide))) (List.forall_mem_cons.mpr ⟨(show cpI 7 52 4294967295 (wget w883 85) from ⟨_, (hr881.but hb885 (by decide)), xrb (by omega) (hb38)⟩), List.forall_mem_cons.mpr ⟨(show cp82 (wget w883 82) from ⟨f82_836, f82_838, f82_840, f82_842, f82_844, f82_846, f82_848, f82_850, f82_852, f82_854 + 1, f82_856, f82_857, f82_858, f82_860, f82_862, f82_864, hk884, hb837, hb839, hb841, hb843, hb845, hb847, hb849, hb851, hb853, by omega, hb859, hb861, hb863, hb865, by omega⟩), fun _ h => absurd h List.not_mem_nil⟩⟩), ((((((((hF472.up (by decide)).tr (hF481.up (by decide))).tr (hF529.up (by decide))).tr (hF574.up (by decide))).tr (hF586.up (by decide))).tr (hF633.up (by decide))).tr (hF821.up (by decide))).tr ((xFr.of (S := [82, 83, 85, 86, 87]) hb882 (by decide)).tr (xFr.of (S := [82, 83, 85, 86, 87]) hb885 (by decide)))), ⟨fun h => by have := pq894.1 h; omega, (show fld w883 82 10 = 0 ∨ FA w883 ≠ 0 by omega), Or.inr ⟨by have := ms835; omega, by omega, hM897⟩, hD902⟩⟩
set_option maxHeartbeats 60000000 in
theorem mALineS5 {at_ : Nat} (hI : xMnv w) (hps : PS w) (hmb : ∀ s, s < 7 → rwv w 85 s ≤ 1000) (hln : fld w 82 14 ≤ 1000) (h7 : fld w 82 7 = 3) (hat : at_ ≤ 4294967295) : xTo (d + 7) mX12_aLine (43, [], [(2, (0, at_)), (1, (0, 5)), (0, (2, 82))], [], (w, bd, fc, 0, 0, rr)) (fun φ => ∃ w', xEnd 0 [] (w', bd, fc, 0, 0, rr) φ ∧ xMnv w' ∧ xFr [82, 83, 85, 86, 87] w w' ∧ ((FA w ≠ 0 → FA w' ≠ 0) ∧ PS w' ∧ ((fld w' 82 10 = 1 ∧ mu w' = mu w ∧ fld w' 82 14 = fld w 82 14 ∧ ∀ s, s < 7 → rwv w' 85 s = rwv w 85 s) ∨ (mu w' < mu w ∧ fld w' 82 14 = fld w 82 14 + 1 ∧ ∀ s, s < 7 → rwv w' 85 s ≤ rwv w 85 s + 1)) ∧ (FA w' ≠ 0 ∨ (DATA w → DATA w')))) := by
  obtain ⟨f82_1, f82_3, f82_5, f82_7, f82_9, f82_11, f82_13, f82_15, f82_17, f82_19, f82_21, f82_22, f82_23, f82_25, f82_27, f82_29, h82_31, hb2, hb4, hb6, hb8, hb10, hb12, hb14, hb16, hb18, hb20, hb24, hb26, hb28, hb30, hb32⟩ := (hI 82 (by decide) (by decide) : cp82 (wget w 82))
  have hf33 : fld w 82 7 = f82_11 := fld_of h82_31
  have hf34 : fld w 82 10 = f82_17 := fld_of h82_31
  have hf35 : fld w 82 14 = f82_19 := fld_of h82_31
  have hps_ : fld w 82 10 = 0 ∨ FA w ≠ 0 := hps
  obtain ⟨g85_36, h85_37, hb38⟩ := (hI 85 (by decide) (by decide) : cpI 7 52 4294967295 (wget w 85))
  have h85_37 : xRow w 85 7 52 g85_36 := h85_37
  obtain ⟨g86_39, h86_40, hb41⟩ := (hI 86 (by decide) (by decide) : cpI 140 53 4294967295 (wget w 86))
  have h86_40 : xRow w 86 140 53 g86_39 := h86_40
  obtain ⟨g87_42, h87_43, hb44⟩ := (hI 87 (by decide) (by decide) : cpI 20 54 4294967295 (wget w 87))
  have h87_43 : xRow w 87 20 54 g87_42 := h87_43
  refine xg_t (xg_blk (b := [(43, 1, 0, 0, 0, 0), (44, 3, 1, 12, 11, 17), (47, 1, 2, 1, 0, 0), (48, 1, 10, 0, 0, 0), (49, 1, 15, 3, 0, 0), (50, 1, 2, 3, 0, 0), (51, 1, 2, 1, 0, 0), (52, 3, 13, 194, 98, 193), (55, 3, 6, 64, 2, 0), (58, 1, 0, 0, 0, 0), (59, 1, 3, 3, 0, 0), (60, 1, 2, 2, 0, 0), (61, 3, 13, 115, 96, 186)]) rfl) ?_
  refine xg_t (xg_aload (va := (2, 82)) rfl rfl) ?_
  refine xg_t (xg_getf (va := (2, 85)) h82_31 rfl) ?_
  refine xg_t (xg_iload (va := (0, 5)) rfl rfl) ?_
  refine xg_ialdB (n := 5) (B := 4294967295) h85_37 (hb38) xnm0 (by omega) (fun u45 hu46 he47 => ?_)
  have hK48 : rwv w 85 5 = u45 := (rwv_of h85_37 (by decide)).trans he47
  have hm49 := hmb 5 (by decide)
  have hl50 : u45 ≤ 1000 := by omega
  refine xg_t (xg_istore (l1 := [(2, (0, at_)), (1, (0, 5)), (0, (2, 82))]) rfl rfl rfl) ?_
  refine xg_t (xg_iload (va := (0, u45)) rfl rfl) ?_
  refine xg_t (xg_iload (va := (0, 5)) rfl rfl) ?_
  refine xg_t (xg_cSr mX12_mostOf (vs := [(0, 5)]) (rest := [(0, u45)]) (rs := [(0, 1), (0, u45)]) (cn1 := 0) (sl1 := 0) rfl (mMostR5) rfl rfl rfl rfl rfl rfl rfl rfl) ?_
  by_cases hc51 : u45 < 1
  · refine xg_t (xg_icT (u := u45) (v := 1) rfl xnm0 xnm0 (xj_ltT hc51 (by omega))) ?_
    refine xg_t (xg_blk (b := [(64, 1, 0, 0, 0, 0), (65, 3, 13, 110, 96, 190), (68, 1, 2, 1, 0, 0), (69, 39, 33, 362, 0, 9)]) rfl) ?_
    refine xg_t (xg_aload (va := (2, 82)) rfl rfl) ?_
    refine xg_cVv mX12_advance (vs := []) (rest := []) (cn1 := 0) (sl1 := 0) rfl (mAdvance (hI)) rfl h82_31 rfl rfl rfl rfl rfl rfl (fun w52 hq53 => ?_)
    obtain ⟨hI54, hF55, hx56⟩ := hq53
    clear hb2 hb4 hb6 hb8 hb10 hb12 hb14 hb16 hb18 hb20 hb24 hb26 hb28 hb30
    obtain ⟨hv57, hv58, hv59, hv60⟩ := hx56
    have hf62 := FA_fr hF55 (by decide)
    have hs63 := (PK.rf hps).2.2.2
    unfold PS at hs63
    have pk61 : PK w w52 := ⟨fun _ => by omega, hv57, hv60, (show fld w52 82 10 = 0 ∨ FA w52 ≠ 0 by omega)⟩
    clear hs63
    have pk64 : PK w w52 := PK.tr (PK.rf hps) pk61
    have os65 : ∀ j, (j < 7 ∨ 9 ≤ j) → j < 140 → rwv w52 86 j = rwv w 86 j := fun j hj hl => (rwv_fr hF55 (by decide)).trans ((fun j _ _ => rfl) j hj hl)
    have ms66 : mu w52 < mu w := Nat.lt_of_lt_of_le (hv58 (by omega)) (PK.rf hps).2.1
    clear hv58
    refine xg_t (xg_iload (va := (0, 5)) rfl rfl) ?_
    refine xg_t (xg_swt (ks := [(0, 108), (1, 116), (2, 180), (3, 221), (4, 273), (5, 326)]) (u := 5) (z := 326) rfl rfl rfl xnm0 (xsw_n (by omega) (xsw_n (by omega) (xsw_n (by omega) (xsw_n (by omega) (xsw_n (by omega) (xsw_y rfl))))))) ?_
    refine xg_t (xg_blk (b := [(326, 1, 3, 0, 0, 0), (327, 2, 15, 4, 0, 0)]) rfl) ?_
    refine xg_t (xg_const) ?_
    refine xg_t (xg_istore (l1 := [(3, (0, u45)), (2, (0, at_)), (1, (0, 5)), (0, (2, 82))]) rfl rfl rfl) ?_
    refine xg_t (xg_blk (b := [(329, 2, 2, 4, 0, 0), (331, 1, 3, 2, 0, 0), (332, 3, 6, 359, 3, 0), (335, 1, 0, 0, 0, 0), (336, 1, 2, 1, 0, 0), (337, 1, 2, 3, 0, 0), (338, 2, 4, 7, 0, 0), (340, 2, 2, 4, 0, 0), (342, 1, 11, 0, 0, 0), (343, 1, 0, 0, 0, 0), (344, 1, 3, 1, 0, 0), (345, 2, 4, 10, 0, 0), (347, 3, 13, 199, 96, 196), (350, 3, 13, 211, 96, 200), (353, 3, 9, 4, 1, 0), (356, 3, 8, 329, 0, 0)]) rfl) ?_
    refine xg_t (xg_iload (va := (0, 0)) rfl rfl) ?_
    refine xg_t (xg_const) ?_
    refine xg_t (xg_icF (u := 0) (v := 2) rfl xnm0 xnm0 (by decide)) ?_
    refine xg_t (xg_aload (va := (2, 82)) rfl rfl) ?_
    refine xg_t (xg_iload (va := (0, 5)) rfl rfl) ?_
    refine xg_t (xg_iload (va := (0, u45)) rfl rfl) ?_
    refine xg_t (xg_bip) ?_
    refine xg_t (xg_iload (va := (0, 0)) rfl rfl) ?_
    refine xg_t (xg_iadd (u := 7) (v := 0) (z := 7) xnm0 xnm0 (by decide)) ?_
    refine xg_t (xg_aload (va := (2, 82)) rfl rfl) ?_
    refine xg_t (xg_const) ?_
    refine xg_t (xg_bip) ?_
    obtain ⟨f82_67, f82_69, f82_71, f82_73, f82_75, f82_77, f82_79, f82_81, f82_83, f82_85, f82_87, f82_88, f82_89, f82_91, f82_93, f82_95, h82_97, hb68, hb70, hb72, hb74, hb76, hb78, hb80, hb82, hb84, hb86, hb90, hb92, hb94, hb96, hb98⟩ := (hI54 82 (by decide) (by decide) : cp82 (wget w52 82))
    refine xg_cVi mX12_numbered (vs := [(0, 1), (0, 10)]) (rest := [(0, 7), (0, u45), (0, 5), (2, 82)]) (cn1 := 0) (sl1 := 0) rfl (mNumbered (hI54) (by omega) (by omega) pk64.2.2.2) rfl h82_97 rfl rfl rfl rfl rfl rfl (fun n103 w99 hq100 => ?_)
    obtain ⟨hn104, hI101, hF102⟩ := hq100
    clear hb68 hb70 hb72 hb74 hb76 hb78 hb80 hb82 hb84 hb86 hb90 hb92 hb94 hb96
    obtain ⟨hn105, hn106, hn107⟩ := hn104
    have pk108 : PK w w99 := PK.tr pk64 hn106
    have os109 : ∀ j, (j < 7 ∨ 9 ≤ j) → j < 140 → rwv w99 86 j = rwv w 86 j := fun j hj hl => (rwv_fr hF102 (by decide)).trans (os65 j hj hl)
    have ms110 : mu w99 < mu w := Nat.lt_of_le_of_lt hn106.2.1 ms66
    obtain ⟨f82_111, f82_113, f82_115, f82_117, f82_119, f82_121, f82_123, f82_125, f82_127, f82_129, f82_131, f82_132, f82_133, f82_135, f82_137, f82_139, h82_141, hb112, hb114, hb116, hb118, hb120, hb122, hb124, hb126, hb128, hb130, hb134, hb136, hb138, hb140, hb142⟩ := (hI101 82 (by decide) (by decide) : cp82 (wget w99 82))
    refine xg_cVv mX12_puts (vs := [(0, 5), (0, u45), (0, 7), (0, n103)]) (rest := []) (cn1 := 0) (sl1 := 0) rfl (mPuts5 (hI101) (by omega) (by omega) (by omega) (fun _ => by omega)) rfl h82_141 rfl rfl rfl rfl rfl rfl (fun w143 hq144 => ?_)
    obtain ⟨hI145, hF146, hx147⟩ := hq144
    obtain ⟨hp148, hp149⟩ := hx147
    have pk150 : PK w w143 := PK.tr pk108 (PK.fr hF146 (by decide) (by decide) pk108.2.2.2)
    have os151 : ∀ j, (j < 7 ∨ 9 ≤ j) → j < 140 → rwv w143 86 j = rwv w 86 j := fun j hj hl => (hp149 j (by omega) hl).trans (os109 j hj hl)
    have rg152 : FA w143 ≠ 0 ∨ (1 ≤ n103 ∧ n103 ≤ 10) := hn107.imp_left (PK.fr hF146 (by decide) (by decide) pk108.2.2.2).1
    have ms153 : mu w143 < mu w := Nat.lt_of_le_of_lt (PK.fr hF146 (by decide) (by decide) pk108.2.2.2).2.1 ms110
    clear hn107
    refine xg_t (xg_iinc (u := 0) (z := 1) (l1 := [(3, (0, u45)), (2, (0, at_)), (1, (0, 5)), (0, (2, 82))]) rfl rfl (by decide) rfl) ?_
    refine xg_t (xg_goto) ?_
    refine xg_t (xg_blk (b := [(329, 2, 2, 4, 0, 0), (331, 1, 3, 2, 0, 0), (332, 3, 6, 359, 3, 0), (335, 1, 0, 0, 0, 0), (336, 1, 2, 1, 0, 0), (337, 1, 2, 3, 0, 0), (338, 2, 4, 7, 0, 0), (340, 2, 2, 4, 0, 0), (342, 1, 11, 0, 0, 0), (343, 1, 0, 0, 0, 0), (344, 1, 3, 1, 0, 0), (345, 2, 4, 10, 0, 0), (347, 3, 13, 199, 96, 196), (350, 3, 13, 211, 96, 200), (353, 3, 9, 4, 1, 0), (356, 3, 8, 329, 0, 0)]) rfl) ?_
    refine xg_t (xg_iload (va := (0, 1)) rfl rfl) ?_
    refine xg_t (xg_const) ?_
    refine xg_t (xg_icF (u := 1) (v := 2) rfl xnm0 xnm0 (by decide)) ?_
    refine xg_t (xg_aload (va := (2, 82)) rfl rfl) ?_
    refine xg_t (xg_iload (va := (0, 5)) rfl rfl) ?_
    refine xg_t (xg_iload (va := (0, u45)) rfl rfl) ?_
    refine xg_t (xg_bip) ?_
    refine xg_t (xg_iload (va := (0, 1)) rfl rfl) ?_
    refine xg_t (xg_iadd (u := 7) (v := 1) (z := 8) xnm0 xnm0 (by decide)) ?_
    refine xg_t (xg_aload (va := (2, 82)) rfl rfl) ?_
    refine xg_t (xg_const) ?_
    refine xg_t (xg_bip) ?_
    refine xg_cVi mX12_numbered (vs := [(0, 1), (0, 10)]) (rest := [(0, 8), (0, u45), (0, 5), (2, 82)]) (cn1 := 0) (sl1 := 0) rfl (mNumbered (hI145) (by omega) (by omega) pk150.2.2.2) rfl (hF146.get (by decide) h82_141) rfl rfl rfl rfl rfl rfl (fun n158 w154 hq155 => ?_)
    obtain ⟨hn159, hI156, hF157⟩ := hq155
    clear hb112 hb114 hb116 hb118 hb120 hb122 hb124 hb126 hb128 hb130 hb134 hb136 hb138 hb140
    obtain ⟨hn160, hn161, hn162⟩ := hn159
    have pk163 : PK w w154 := PK.tr pk150 hn161
    have os164 : ∀ j, (j < 7 ∨ 9 ≤ j) → j < 140 → rwv w154 86 j = rwv w 86 j := fun j hj hl => (rwv_fr hF157 (by decide)).trans (os151 j hj hl)
    have ix165 : u45 < 1 → rwv w154 86 (7) = n103 := fun h => (rwv_fr hF157 (by decide)).trans (hp148 h)
    have rg166 : FA w154 ≠ 0 ∨ (1 ≤ n103 ∧ n103 ≤ 10) := rg152.imp_left hn161.1
    have ms167 : mu w154 < mu w := Nat.lt_of_le_of_lt hn161.2.1 ms153
    clear hp148 rg152
    obtain ⟨f82_168, f82_170, f82_172, f82_174, f82_176, f82_178, f82_180, f82_182, f82_184, f82_186, f82_188, f82_189, f82_190, f82_192, f82_194, f82_196, h82_198, hb169, hb171, hb173, hb175, hb177, hb179, hb181, hb183, hb185, hb187, hb191, hb193, hb195, hb197, hb199⟩ := (hI156 82 (by decide) (by decide) : cp82 (wget w154 82))
    refine xg_cVv mX12_puts (vs := [(0, 5), (0, u45), (0, 8), (0, n158)]) (rest := []) (cn1 := 0) (sl1 := 0) rfl (mPuts5 (hI156) (by omega) (by omega) (by omega) (fun _ => by omega)) rfl h82_198 rfl rfl rfl rfl rfl rfl (fun w200 hq201 => ?_)
    obtain ⟨hI202, hF203, hx204⟩ := hq201
    obtain ⟨hp205, hp206⟩ := hx204
    have pk207 : PK w w200 := PK.tr pk163 (PK.fr hF203 (by decide) (by decide) pk163.2.2.2)
    have os208 : ∀ j, (j < 7 ∨ 9 ≤ j) → j < 140 → rwv w200 86 j = rwv w 86 j := fun j hj hl => (hp206 j (by omega) hl).trans (os164 j hj hl)
    have ix209 : u45 < 1 → rwv w200 86 (7) = n103 := fun h => (hp206 _ (by omega) (by omega)).trans (ix165 h)
    have rg210 : FA w200 ≠ 0 ∨ (1 ≤ n103 ∧ n103 ≤ 10) := rg166.imp_left (PK.fr hF203 (by decide) (by decide) pk163.2.2.2).1
    have rg211 : FA w200 ≠ 0 ∨ (1 ≤ n158 ∧ n158 ≤ 10) := hn162.imp_left (PK.fr hF203 (by decide) (by decide) pk163.2.2.2).1
    have ms212 : mu w200 < mu w := Nat.lt_of_le_of_lt (PK.fr hF203 (by decide) (by decide) pk163.2.2.2).2.1 ms167
    clear ix165 rg166 hn162
    refine xg_t (xg_iinc (u := 1) (z := 2) (l1 := [(3, (0, u45)), (2, (0, at_)), (1, (0, 5)), (0, (2, 82))]) rfl rfl (by decide) rfl) ?_
    refine xg_t (xg_goto) ?_
    refine xg_t (xg_blk (b := [(329, 2, 2, 4, 0, 0), (331, 1, 3, 2, 0, 0), (332, 3, 6, 359, 3, 0), (335, 1, 0, 0, 0, 0), (336, 1, 2, 1, 0, 0), (337, 1, 2, 3, 0, 0), (338, 2, 4, 7, 0, 0), (340, 2, 2, 4, 0, 0), (342, 1, 11, 0, 0, 0), (343, 1, 0, 0, 0, 0), (344, 1, 3, 1, 0, 0), (345, 2, 4, 10, 0, 0), (347, 3, 13, 199, 96, 196), (350, 3, 13, 211, 96, 200), (353, 3, 9, 4, 1, 0), (356, 3, 8, 329, 0, 0)]) rfl) ?_
    refine xg_t (xg_iload (va := (0, 2)) rfl rfl) ?_
    refine xg_t (xg_const) ?_
    refine xg_t (xg_icT (u := 2) (v := 2) rfl xnm0 xnm0 (by decide)) ?_
    refine xg_t (xg_blk (b := [(359, 3, 8, 394, 0, 0)]) rfl) ?_
    refine xg_t (xg_goto) ?_
    refine xg_t (xg_blk (b := [(394, 1, 0, 0, 0, 0), (395, 3, 1, 12, 10, 180), (398, 3, 7, 416, 1, 0), (401, 1, 0, 0, 0, 0), (402, 3, 1, 12, 7, 151), (405, 1, 3, 2, 0, 0), (406, 3, 6, 416, 1, 0), (409, 1, 0, 0, 0, 0), (410, 3, 13, 110, 96, 190), (413, 3, 8, 420, 0, 0)]) rfl) ?_
    refine xg_t (xg_aload (va := (2, 82)) rfl rfl) ?_
    refine xg_t (xg_getf (va := (0, f82_184)) (hF203.get (by decide) h82_198) rfl) ?_
    by_cases hc213 : f82_184 = 0
    · refine xg_t (xg_ifF (u := f82_184) rfl xnm0 (xj_neF hc213)) ?_
      refine xg_t (xg_aload (va := (2, 82)) rfl rfl) ?_
      refine xg_t (xg_getf (va := (0, f82_178)) (hF203.get (by decide) h82_198) rfl) ?_
      refine xg_t (xg_const) ?_
      by_cases hc214 : f82_178 = 2
      · refine xg_t (xg_icF (u := f82_178) (v := 2) rfl xnm0 xnm0 (xj_neF hc214)) ?_
        refine xg_t (xg_aload (va := (2, 82)) rfl rfl) ?_
        refine xg_cVv mX12_advance (vs := []) (rest := []) (cn1 := 0) (sl1 := 0) rfl (mAdvance (hI202)) rfl (hF203.get (by decide) h82_198) rfl rfl rfl rfl rfl rfl (fun w215 hq216 => ?_)
        obtain ⟨hI217, hF218, hx219⟩ := hq216
        clear hb169 hb171 hb173 hb175 hb177 hb179 hb181 hb183 hb185 hb187 hb191 hb193 hb195 hb197
        obtain ⟨hv220, hv221, hv222, hv223⟩ := hx219
        have hf225 := FA_fr hF218 (by decide)
        have hs226 := pk207.2.2.2
        unfold PS at hs226
        have pk224 : PK w200 w215 := ⟨fun _ => by omega, hv220, hv223, (show fld w215 82 10 = 0 ∨ FA w215 ≠ 0 by omega)⟩
        clear hs226
        clear hv221
        have pk227 : PK w w215 := PK.tr pk207 pk224
        have os228 : ∀ j, (j < 7 ∨ 9 ≤ j) → j < 140 → rwv w215 86 j = rwv w 86 j := fun j hj hl => (rwv_fr hF218 (by decide)).trans (os208 j hj hl)
        have ix229 : u45 < 1 → rwv w215 86 (7) = n103 := fun h => (rwv_fr hF218 (by decide)).trans (ix209 h)
        have ix230 : u45 < 1 → rwv w215 86 (8) = n158 := fun h => (rwv_fr hF218 (by decide)).trans (hp205 h)
        have rg231 : FA w215 ≠ 0 ∨ (1 ≤ n103 ∧ n103 ≤ 10) := rg210.imp_left pk224.1
        have rg232 : FA w215 ≠ 0 ∨ (1 ≤ n158 ∧ n158 ≤ 10) := rg211.imp_left pk224.1
        have ms233 : mu w215 < mu w := Nat.lt_of_le_of_lt pk224.2.1 ms212
        clear ix209 hp205 rg210 rg211
        refine xg_t (xg_goto) ?_
        refine xg_t (xg_blk (b := [(420, 1, 0, 0, 0, 0), (421, 3, 1, 12, 11, 17), (424, 1, 2, 1, 0, 0), (425, 1, 39, 0, 0, 0), (426, 1, 10, 0, 0, 0), (427, 1, 3, 1, 0, 0), (428, 1, 11, 0, 0, 0), (429, 1, 17, 0, 0, 0), (430, 1, 0, 0, 0, 0), (431, 1, 19, 0, 0, 0), (432, 3, 1, 12, 14, 212), (435, 1, 3, 1, 0, 0), (436, 1, 11, 0, 0, 0), (437, 3, 14, 12, 14, 212), (440, 1, 12, 0, 0, 0)]) rfl) ?_
        obtain ⟨f82_234, f82_236, f82_238, f82_240, f82_242, f82_244, f82_246, f82_248, f82_250, f82_252, f82_254, f82_255, f82_256, f82_258, f82_260, f82_262, h82_264, hb235, hb237, hb239, hb241, hb243, hb245, hb247, hb249, hb251, hb253, hb257, hb259, hb261, hb263, hb265⟩ := (hI217 82 (by decide) (by decide) : cp82 (wget w215 82))
        have hf266 : fld w215 82 4 = f82_238 := fld_of h82_264
        have hf267 : fld w215 82 5 = f82_240 := fld_of h82_264
        have hf268 : fld w215 82 7 = f82_244 := fld_of h82_264
        have hf269 : fld w215 82 10 = f82_250 := fld_of h82_264
        have hf270 : fld w215 82 14 = f82_252 := fld_of h82_264
        have hu271 : mu w215 = 2 * (fld w215 82 4 - fld w215 82 5) + min 1 (fld w215 82 7) := rfl
        have hf272 := pk227.2.2.1
        have hl273 : f82_252 ≤ 1000 := by omega
        refine xg_t (xg_aload (va := (2, 82)) rfl rfl) ?_
        refine xg_t (xg_getf (va := (2, 85)) h82_264 rfl) ?_
        refine xg_t (xg_iload (va := (0, 5)) rfl rfl) ?_
        refine xg_t (xg_dup2 rfl) ?_
        refine xg_ialdB (n := 5) (B := 4294967295) ((((((h85_37.fr hF55 (by decide)).fr hF102 (by decide)).fr hF146 (by decide)).fr hF157 (by decide)).fr hF203 (by decide)).fr hF218 (by decide)) (hb38) xnm0 (by omega) (fun u274 hu275 he276 => ?_)
        have hl277 : u274 = u45 := by omega
        refine xg_t (xg_const) ?_
        refine xg_t (xg_iadd (u := u274) (v := 1) (z := u274 + 1) xnm0 xnm0 (by omega)) ?_
        refine xg_iastK (n := 5) (u := u274 + 1) ((((((h85_37.fr hF55 (by decide)).fr hF102 (by decide)).fr hF146 (by decide)).fr hF157 (by decide)).fr hF203 (by decide)).fr hF218 (by decide)) xnm0 xnm0 rfl (by omega) (fun w278 hr279 hb280 => ?_)
        refine xg_t (xg_aload (va := (2, 82)) rfl rfl) ?_
        refine xg_t (xg_dup rfl) ?_
        refine xg_t (xg_getf (va := (0, f82_252)) (hb280.get (by decide) h82_264) rfl) ?_
        refine xg_t (xg_const) ?_
        refine xg_t (xg_iadd (u := f82_252) (v := 1) (z := f82_252 + 1) xnm0 xnm0 (by omega)) ?_
        refine xg_putI (fl1 := [(2, 83), (2, 84), (0, f82_234), (0, f82_236), (0, f82_238), (0, f82_240), (0, f82_242), (0, f82_244), (0, f82_246), (0, f82_248), (0, f82_250), (2, 85), (2, 86), (2, 87), (0, f82_252 + 1), (2, 88), (2, 89), (2, 90), (2, 91), (2, 92), (2, 93), (2, 94), (4, f82_254), (4, f82_255), (0, f82_256), (2, 95), (2, 96), (2, 97), (2, 98), (2, 99), (2, 100), (2, 101), (2, 102), (0, f82_258), (2, 103), (2, 104), (2, 105), (2, 106), (2, 107), (2, 108), (2, 109), (0, f82_260), (0, f82_262), (2, 110), (2, 111), (2, 112), (2, 113)]) (hb280.get (by decide) h82_264) rfl rfl rfl (fun w281 hk282 hb283 => ?_)
        have hF284 : xFr [82, 85] w215 w281 := ((xFr.of (S := [82, 85]) hb280 (by decide)).tr (xFr.of (S := [82, 85]) hb283 (by decide)))
        have hA285 := FA_fr hF284 (by decide)
        have hf286 : fld w281 82 4 = f82_238 := fld_of hk282
        have hf287 : fld w281 82 5 = f82_240 := fld_of hk282
        have hf288 : fld w281 82 7 = f82_244 := fld_of hk282
        have hf289 : fld w281 82 10 = f82_250 := fld_of hk282
        have hf290 : fld w281 82 14 = f82_252 + 1 := fld_of hk282
        have hu291 : mu w281 = 2 * (fld w281 82 4 - fld w281 82 5) + min 1 (fld w281 82 7) := rfl
        have pq292 := pk227
        unfold PK PS at pq292
        have hM293 : ∀ s, s < 7 → s ≠ 5 → rwv w281 85 s = rwv w 85 s := fun s hs hn => (rwv_of (hr279.but hb283 (by decide)) hs).trans ((if_neg hn).trans (rwv_of h85_37 hs).symm)
        have hM294 : rwv w281 85 5 = u45 + 1 := (rwv_of (hr279.but hb283 (by decide)) (by decide)).trans ((if_pos rfl).trans (by omega))
        have hM295 : ∀ s, s < 7 → rwv w281 85 s ≤ rwv w 85 s + 1 := fun s hs => by
          by_cases z : s = 5
          · subst z; omega
          · rw [hM293 s hs z]; omega
        have hO296 : ∀ j, (j < 7 ∨ 9 ≤ j) → j < 140 → rwv w281 86 j = rwv w 86 j := fun j hj hl => (rwv_fr hF284 (by decide)).trans (os228 j hj hl)
        have hl298 : u45 < 1 → rwv w281 86 (7) = n103 := fun h => (rwv_fr hF284 (by decide)).trans (ix229 h)
        have hl299 : u45 < 1 → rwv w281 86 (8) = n158 := fun h => (rwv_fr hF284 (by decide)).trans (ix230 h)
        have hl300 : FA w215 ≠ 0 ∨ (1 ≤ n103 ∧ n103 ≤ 10) := rg231
        have hl301 : FA w215 ≠ 0 ∨ (1 ≤ n158 ∧ n158 ≤ 10) := rg232
        have hN297 : FA w281 ≠ 0 ∨ 1 ≤ u45 ∨ (1 ≤ rwv w281 86 7 ∧ rwv w281 86 7 ≤ 10 ∧ 1 ≤ rwv w281 86 8 ∧ rwv w281 86 8 ≤ 10) := by omega
        have hX302 : FA w281 ≠ 0 ∨ u45 < 1 := by omega
        have hD303 : FA w281 ≠ 0 ∨ (DATA w → DATA w281) := by
          by_cases z : FA w281 ≠ 0
          · exact Or.inl z
          · exact Or.inr (fun hd => hd.s5 hM293 hK48 hM294 (hX302.resolve_left z) hO296 ((hN297.resolve_left z).resolve_left (by have := hX302.resolve_left z; omega)))
        exact xg_e ⟨w281, ⟨rfl, rfl⟩, xMnv.up (S := [85, 82]) hI217 ((xFr.of (S := [85, 82]) hb280 (by decide)).tr (xFr.of (S := [85, 82]) hb283 (by decide))) (List.forall_mem_cons.mpr ⟨(show cpI 7 52 4294967295 (wget w281 85) from ⟨_, (hr279.but hb283 (by decide)), xrb (by omega) (hb38)⟩), List.forall_mem_cons.mpr ⟨(show cp82 (wget w281 82) from ⟨f82_234, f82_236, f82_238, f82_240, f82_242, f82_244, f82_246, f82_248, f82_250, f82_252 + 1, f82_254, f82_255, f82_256, f82_258, f82_260, f82_262, hk282, hb235, hb237, hb239, hb241, hb243, hb245, hb247, hb249, hb251, by omega, hb257, hb259, hb261, hb263, by omega⟩), fun _ h => absurd h List.not_mem_nil⟩⟩), (((((((hF55.up (by decide)).tr (hF102.up (by decide))).tr (hF146.up (by decide))).tr (hF157.up (by decide))).tr (hF203.up (by decide))).tr (hF218.up (by decide))).tr ((xFr.of (S := [82, 83, 85, 86, 87]) hb280 (by decide)).tr (xFr.of (S := [82, 83, 85, 86, 87]) hb283 (by decide)))), ⟨fun h => by have := pq292.1 h; omega, (show fld w281 82 10 = 0 ∨ FA w281 ≠ 0 by omega), Or.inr ⟨by have := ms233; omega, by omega, hM295⟩, hD303⟩⟩
      · refine xg_t (xg_icT (u := f82_178) (v := 2) rfl xnm0 xnm0 (xj_neT hc214)) ?_
        refine xg_t (xg_blk (b := [(416, 1, 0, 0, 0, 0), (417, 3, 13, 140, 96, 183)]) rfl) ?_
        refine xg_t (xg_aload (va := (2, 82)) rfl rfl) ?_
        refine xg_cVv mX12_ends (vs := []) (rest := []) (cn1 := 0) (sl1 := 0) rfl (mEnds (hI202) pk207.2.2.2) rfl (hF203.get (by decide) h82_198) rfl rfl rfl rfl rfl rfl (fun w304 hq305 => ?_)
        obtain ⟨hI306, hF307, hx308⟩ := hq305
        clear hb169 hb171 hb173 hb175 hb177 hb179 hb181 hb183 hb185 hb187 hb191 hb193 hb195 hb197
        obtain ⟨hv309, hv310, hv311, hv312⟩ := hx308
        have pk313 : PK w200 w304 := ⟨fun _ => hv309, by omega, by omega, Or.inr hv309⟩
        have pk314 : PK w w304 := PK.tr pk207 pk313
        have os315 : ∀ j, (j < 7 ∨ 9 ≤ j) → j < 140 → rwv w304 86 j = rwv w 86 j := fun j hj hl => (rwv_fr hF307 (by decide)).trans (os208 j hj hl)
        have ix316 : u45 < 1 → rwv w304 86 (7) = n103 := fun h => (rwv_fr hF307 (by decide)).trans (ix209 h)
        have ix317 : u45 < 1 → rwv w304 86 (8) = n158 := fun h => (rwv_fr hF307 (by decide)).trans (hp205 h)
        have rg318 : FA w304 ≠ 0 ∨ (1 ≤ n103 ∧ n103 ≤ 10) := rg210.imp_left pk313.1
        have rg319 : FA w304 ≠ 0 ∨ (1 ≤ n158 ∧ n158 ≤ 10) := rg211.imp_left pk313.1
        have ms320 : mu w304 < mu w := Nat.lt_of_le_of_lt pk313.2.1 ms212
        clear ix209 hp205 rg210 rg211
        refine xg_t (xg_blk (b := [(420, 1, 0, 0, 0, 0), (421, 3, 1, 12, 11, 17), (424, 1, 2, 1, 0, 0), (425, 1, 39, 0, 0, 0), (426, 1, 10, 0, 0, 0), (427, 1, 3, 1, 0, 0), (428, 1, 11, 0, 0, 0), (429, 1, 17, 0, 0, 0), (430, 1, 0, 0, 0, 0), (431, 1, 19, 0, 0, 0), (432, 3, 1, 12, 14, 212), (435, 1, 3, 1, 0, 0), (436, 1, 11, 0, 0, 0), (437, 3, 14, 12, 14, 212), (440, 1, 12, 0, 0, 0)]) rfl) ?_
        obtain ⟨f82_321, f82_323, f82_325, f82_327, f82_329, f82_331, f82_333, f82_335, f82_337, f82_339, f82_341, f82_342, f82_343, f82_345, f82_347, f82_349, h82_351, hb322, hb324, hb326, hb328, hb330, hb332, hb334, hb336, hb338, hb340, hb344, hb346, hb348, hb350, hb352⟩ := (hI306 82 (by decide) (by decide) : cp82 (wget w304 82))
        have hf353 : fld w304 82 4 = f82_325 := fld_of h82_351
        have hf354 : fld w304 82 5 = f82_327 := fld_of h82_351
        have hf355 : fld w304 82 7 = f82_331 := fld_of h82_351
        have hf356 : fld w304 82 10 = f82_337 := fld_of h82_351
        have hf357 : fld w304 82 14 = f82_339 := fld_of h82_351
        have hu358 : mu w304 = 2 * (fld w304 82 4 - fld w304 82 5) + min 1 (fld w304 82 7) := rfl
        have hf359 := pk314.2.2.1
        have hl360 : f82_339 ≤ 1000 := by omega
        refine xg_t (xg_aload (va := (2, 82)) rfl rfl) ?_
        refine xg_t (xg_getf (va := (2, 85)) h82_351 rfl) ?_
        refine xg_t (xg_iload (va := (0, 5)) rfl rfl) ?_
        refine xg_t (xg_dup2 rfl) ?_
        refine xg_ialdB (n := 5) (B := 4294967295) ((((((h85_37.fr hF55 (by decide)).fr hF102 (by decide)).fr hF146 (by decide)).fr hF157 (by decide)).fr hF203 (by decide)).fr hF307 (by decide)) (hb38) xnm0 (by omega) (fun u361 hu362 he363 => ?_)
        have hl364 : u361 = u45 := by omega
        refine xg_t (xg_const) ?_
        refine xg_t (xg_iadd (u := u361) (v := 1) (z := u361 + 1) xnm0 xnm0 (by omega)) ?_
        refine xg_iastK (n := 5) (u := u361 + 1) ((((((h85_37.fr hF55 (by decide)).fr hF102 (by decide)).fr hF146 (by decide)).fr hF157 (by decide)).fr hF203 (by decide)).fr hF307 (by decide)) xnm0 xnm0 rfl (by omega) (fun w365 hr366 hb367 => ?_)
        refine xg_t (xg_aload (va := (2, 82)) rfl rfl) ?_
        refine xg_t (xg_dup rfl) ?_
        refine xg_t (xg_getf (va := (0, f82_339)) (hb367.get (by decide) h82_351) rfl) ?_
        refine xg_t (xg_const) ?_
        refine xg_t (xg_iadd (u := f82_339) (v := 1) (z := f82_339 + 1) xnm0 xnm0 (by omega)) ?_
        refine xg_putI (fl1 := [(2, 83), (2, 84), (0, f82_321), (0, f82_323), (0, f82_325), (0, f82_327), (0, f82_329), (0, f82_331), (0, f82_333), (0, f82_335), (0, f82_337), (2, 85), (2, 86), (2, 87), (0, f82_339 + 1), (2, 88), (2, 89), (2, 90), (2, 91), (2, 92), (2, 93), (2, 94), (4, f82_341), (4, f82_342), (0, f82_343), (2, 95), (2, 96), (2, 97), (2, 98), (2, 99), (2, 100), (2, 101), (2, 102), (0, f82_345), (2, 103), (2, 104), (2, 105), (2, 106), (2, 107), (2, 108), (2, 109), (0, f82_347), (0, f82_349), (2, 110), (2, 111), (2, 112), (2, 113)]) (hb367.get (by decide) h82_351) rfl rfl rfl (fun w368 hk369 hb370 => ?_)
        have hF371 : xFr [82, 85] w304 w368 := ((xFr.of (S := [82, 85]) hb367 (by decide)).tr (xFr.of (S := [82, 85]) hb370 (by decide)))
        have hA372 := FA_fr hF371 (by decide)
        have hf373 : fld w368 82 4 = f82_325 := fld_of hk369
        have hf374 : fld w368 82 5 = f82_327 := fld_of hk369
        have hf375 : fld w368 82 7 = f82_331 := fld_of hk369
        have hf376 : fld w368 82 10 = f82_337 := fld_of hk369
        have hf377 : fld w368 82 14 = f82_339 + 1 := fld_of hk369
        have hu378 : mu w368 = 2 * (fld w368 82 4 - fld w368 82 5) + min 1 (fld w368 82 7) := rfl
        have pq379 := pk314
        unfold PK PS at pq379
        have hM380 : ∀ s, s < 7 → s ≠ 5 → rwv w368 85 s = rwv w 85 s := fun s hs hn => (rwv_of (hr366.but hb370 (by decide)) hs).trans ((if_neg hn).trans (rwv_of h85_37 hs).symm)
        have hM381 : rwv w368 85 5 = u45 + 1 := (rwv_of (hr366.but hb370 (by decide)) (by decide)).trans ((if_pos rfl).trans (by omega))
        have hM382 : ∀ s, s < 7 → rwv w368 85 s ≤ rwv w 85 s + 1 := fun s hs => by
          by_cases z : s = 5
          · subst z; omega
          · rw [hM380 s hs z]; omega
        have hO383 : ∀ j, (j < 7 ∨ 9 ≤ j) → j < 140 → rwv w368 86 j = rwv w 86 j := fun j hj hl => (rwv_fr hF371 (by decide)).trans (os315 j hj hl)
        have hl385 : u45 < 1 → rwv w368 86 (7) = n103 := fun h => (rwv_fr hF371 (by decide)).trans (ix316 h)
        have hl386 : u45 < 1 → rwv w368 86 (8) = n158 := fun h => (rwv_fr hF371 (by decide)).trans (ix317 h)
        have hl387 : FA w304 ≠ 0 ∨ (1 ≤ n103 ∧ n103 ≤ 10) := rg318
        have hl388 : FA w304 ≠ 0 ∨ (1 ≤ n158 ∧ n158 ≤ 10) := rg319
        have hN384 : FA w368 ≠ 0 ∨ 1 ≤ u45 ∨ (1 ≤ rwv w368 86 7 ∧ rwv w368 86 7 ≤ 10 ∧ 1 ≤ rwv w368 86 8 ∧ rwv w368 86 8 ≤ 10) := by omega
        have hX389 : FA w368 ≠ 0 ∨ u45 < 1 := by omega
        have hD390 : FA w368 ≠ 0 ∨ (DATA w → DATA w368) := by
          by_cases z : FA w368 ≠ 0
          · exact Or.inl z
          · exact Or.inr (fun hd => hd.s5 hM380 hK48 hM381 (hX389.resolve_left z) hO383 ((hN384.resolve_left z).resolve_left (by have := hX389.resolve_left z; omega)))
        exact xg_e ⟨w368, ⟨rfl, rfl⟩, xMnv.up (S := [85, 82]) hI306 ((xFr.of (S := [85, 82]) hb367 (by decide)).tr (xFr.of (S := [85, 82]) hb370 (by decide))) (List.forall_mem_cons.mpr ⟨(show cpI 7 52 4294967295 (wget w368 85) from ⟨_, (hr366.but hb370 (by decide)), xrb (by omega) (hb38)⟩), List.forall_mem_cons.mpr ⟨(show cp82 (wget w368 82) from ⟨f82_321, f82_323, f82_325, f82_327, f82_329, f82_331, f82_333, f82_335, f82_337, f82_339 + 1, f82_341, f82_342, f82_343, f82_345, f82_347, f82_349, hk369, hb322, hb324, hb326, hb328, hb330, hb332, hb334, hb336, hb338, by omega, hb344, hb346, hb348, hb350, by omega⟩), fun _ h => absurd h List.not_mem_nil⟩⟩), (((((((hF55.up (by decide)).tr (hF102.up (by decide))).tr (hF146.up (by decide))).tr (hF157.up (by decide))).tr (hF203.up (by decide))).tr (hF307.up (by decide))).tr ((xFr.of (S := [82, 83, 85, 86, 87]) hb367 (by decide)).tr (xFr.of (S := [82, 83, 85, 86, 87]) hb370 (by decide)))), ⟨fun h => by have := pq379.1 h; omega, (show fld w368 82 10 = 0 ∨ FA w368 ≠ 0 by omega), Or.inr ⟨by have := ms320; omega, by omega, hM382⟩, hD390⟩⟩
    · refine xg_t (xg_ifT (u := f82_184) rfl xnm0 (xj_neT hc213)) ?_
      refine xg_t (xg_blk (b := [(416, 1, 0, 0, 0, 0), (417, 3, 13, 140, 96, 183)]) rfl) ?_
      refine xg_t (xg_aload (va := (2, 82)) rfl rfl) ?_
      refine xg_cVv mX12_ends (vs := []) (rest := []) (cn1 := 0) (sl1 := 0) rfl (mEnds (hI202) pk207.2.2.2) rfl (hF203.get (by decide) h82_198) rfl rfl rfl rfl rfl rfl (fun w391 hq392 => ?_)
      obtain ⟨hI393, hF394, hx395⟩ := hq392
      clear hb169 hb171 hb173 hb175 hb177 hb179 hb181 hb183 hb185 hb187 hb191 hb193 hb195 hb197
      obtain ⟨hv396, hv397, hv398, hv399⟩ := hx395
      have pk400 : PK w200 w391 := ⟨fun _ => hv396, by omega, by omega, Or.inr hv396⟩
      have pk401 : PK w w391 := PK.tr pk207 pk400
      have os402 : ∀ j, (j < 7 ∨ 9 ≤ j) → j < 140 → rwv w391 86 j = rwv w 86 j := fun j hj hl => (rwv_fr hF394 (by decide)).trans (os208 j hj hl)
      have ix403 : u45 < 1 → rwv w391 86 (7) = n103 := fun h => (rwv_fr hF394 (by decide)).trans (ix209 h)
      have ix404 : u45 < 1 → rwv w391 86 (8) = n158 := fun h => (rwv_fr hF394 (by decide)).trans (hp205 h)
      have rg405 : FA w391 ≠ 0 ∨ (1 ≤ n103 ∧ n103 ≤ 10) := rg210.imp_left pk400.1
      have rg406 : FA w391 ≠ 0 ∨ (1 ≤ n158 ∧ n158 ≤ 10) := rg211.imp_left pk400.1
      have ms407 : mu w391 < mu w := Nat.lt_of_le_of_lt pk400.2.1 ms212
      clear ix209 hp205 rg210 rg211
      refine xg_t (xg_blk (b := [(420, 1, 0, 0, 0, 0), (421, 3, 1, 12, 11, 17), (424, 1, 2, 1, 0, 0), (425, 1, 39, 0, 0, 0), (426, 1, 10, 0, 0, 0), (427, 1, 3, 1, 0, 0), (428, 1, 11, 0, 0, 0), (429, 1, 17, 0, 0, 0), (430, 1, 0, 0, 0, 0), (431, 1, 19, 0, 0, 0), (432, 3, 1, 12, 14, 212), (435, 1, 3, 1, 0, 0), (436, 1, 11, 0, 0, 0), (437, 3, 14, 12, 14, 212), (440, 1, 12, 0, 0, 0)]) rfl) ?_
      obtain ⟨f82_408, f82_410, f82_412, f82_414, f82_416, f82_418, f82_420, f82_422, f82_424, f82_426, f82_428, f82_429, f82_430, f82_432, f82_434, f82_436, h82_438, hb409, hb411, hb413, hb415, hb417, hb419, hb421, hb423, hb425, hb427, hb431, hb433, hb435, hb437, hb439⟩ := (hI393 82 (by decide) (by decide) : cp82 (wget w391 82))
      have hf440 : fld w391 82 4 = f82_412 := fld_of h82_438
      have hf441 : fld w391 82 5 = f82_414 := fld_of h82_438
      have hf442 : fld w391 82 7 = f82_418 := fld_of h82_438
      have hf443 : fld w391 82 10 = f82_424 := fld_of h82_438
      have hf444 : fld w391 82 14 = f82_426 := fld_of h82_438
      have hu445 : mu w391 = 2 * (fld w391 82 4 - fld w391 82 5) + min 1 (fld w391 82 7) := rfl
      have hf446 := pk401.2.2.1
      have hl447 : f82_426 ≤ 1000 := by omega
      refine xg_t (xg_aload (va := (2, 82)) rfl rfl) ?_
      refine xg_t (xg_getf (va := (2, 85)) h82_438 rfl) ?_
      refine xg_t (xg_iload (va := (0, 5)) rfl rfl) ?_
      refine xg_t (xg_dup2 rfl) ?_
      refine xg_ialdB (n := 5) (B := 4294967295) ((((((h85_37.fr hF55 (by decide)).fr hF102 (by decide)).fr hF146 (by decide)).fr hF157 (by decide)).fr hF203 (by decide)).fr hF394 (by decide)) (hb38) xnm0 (by omega) (fun u448 hu449 he450 => ?_)
      have hl451 : u448 = u45 := by omega
      refine xg_t (xg_const) ?_
      refine xg_t (xg_iadd (u := u448) (v := 1) (z := u448 + 1) xnm0 xnm0 (by omega)) ?_
      refine xg_iastK (n := 5) (u := u448 + 1) ((((((h85_37.fr hF55 (by decide)).fr hF102 (by decide)).fr hF146 (by decide)).fr hF157 (by decide)).fr hF203 (by decide)).fr hF394 (by decide)) xnm0 xnm0 rfl (by omega) (fun w452 hr453 hb454 => ?_)
      refine xg_t (xg_aload (va := (2, 82)) rfl rfl) ?_
      refine xg_t (xg_dup rfl) ?_
      refine xg_t (xg_getf (va := (0, f82_426)) (hb454.get (by decide) h82_438) rfl) ?_
      refine xg_t (xg_const) ?_
      refine xg_t (xg_iadd (u := f82_426) (v := 1) (z := f82_426 + 1) xnm0 xnm0 (by omega)) ?_
      refine xg_putI (fl1 := [(2, 83), (2, 84), (0, f82_408), (0, f82_410), (0, f82_412), (0, f82_414), (0, f82_416), (0, f82_418), (0, f82_420), (0, f82_422), (0, f82_424), (2, 85), (2, 86), (2, 87), (0, f82_426 + 1), (2, 88), (2, 89), (2, 90), (2, 91), (2, 92), (2, 93), (2, 94), (4, f82_428), (4, f82_429), (0, f82_430), (2, 95), (2, 96), (2, 97), (2, 98), (2, 99), (2, 100), (2, 101), (2, 102), (0, f82_432), (2, 103), (2, 104), (2, 105), (2, 106), (2, 107), (2, 108), (2, 109), (0, f82_434), (0, f82_436), (2, 110), (2, 111), (2, 112), (2, 113)]) (hb454.get (by decide) h82_438) rfl rfl rfl (fun w455 hk456 hb457 => ?_)
      have hF458 : xFr [82, 85] w391 w455 := ((xFr.of (S := [82, 85]) hb454 (by decide)).tr (xFr.of (S := [82, 85]) hb457 (by decide)))
      have hA459 := FA_fr hF458 (by decide)
      have hf460 : fld w455 82 4 = f82_412 := fld_of hk456
      have hf461 : fld w455 82 5 = f82_414 := fld_of hk456
      have hf462 : fld w455 82 7 = f82_418 := fld_of hk456
      have hf463 : fld w455 82 10 = f82_424 := fld_of hk456
      have hf464 : fld w455 82 14 = f82_426 + 1 := fld_of hk456
      have hu465 : mu w455 = 2 * (fld w455 82 4 - fld w455 82 5) + min 1 (fld w455 82 7) := rfl
      have pq466 := pk401
      unfold PK PS at pq466
      have hM467 : ∀ s, s < 7 → s ≠ 5 → rwv w455 85 s = rwv w 85 s := fun s hs hn => (rwv_of (hr453.but hb457 (by decide)) hs).trans ((if_neg hn).trans (rwv_of h85_37 hs).symm)
      have hM468 : rwv w455 85 5 = u45 + 1 := (rwv_of (hr453.but hb457 (by decide)) (by decide)).trans ((if_pos rfl).trans (by omega))
      have hM469 : ∀ s, s < 7 → rwv w455 85 s ≤ rwv w 85 s + 1 := fun s hs => by
        by_cases z : s = 5
        · subst z; omega
        · rw [hM467 s hs z]; omega
      have hO470 : ∀ j, (j < 7 ∨ 9 ≤ j) → j < 140 → rwv w455 86 j = rwv w 86 j := fun j hj hl => (rwv_fr hF458 (by decide)).trans (os402 j hj hl)
      have hl472 : u45 < 1 → rwv w455 86 (7) = n103 := fun h => (rwv_fr hF458 (by decide)).trans (ix403 h)
      have hl473 : u45 < 1 → rwv w455 86 (8) = n158 := fun h => (rwv_fr hF458 (by decide)).trans (ix404 h)
      have hl474 : FA w391 ≠ 0 ∨ (1 ≤ n103 ∧ n103 ≤ 10) := rg405
      have hl475 : FA w391 ≠ 0 ∨ (1 ≤ n158 ∧ n158 ≤ 10) := rg406
      have hN471 : FA w455 ≠ 0 ∨ 1 ≤ u45 ∨ (1 ≤ rwv w455 86 7 ∧ rwv w455 86 7 ≤ 10 ∧ 1 ≤ rwv w455 86 8 ∧ rwv w455 86 8 ≤ 10) := by omega
      have hX476 : FA w455 ≠ 0 ∨ u45 < 1 := by omega
      have hD477 : FA w455 ≠ 0 ∨ (DATA w → DATA w455) := by
        by_cases z : FA w455 ≠ 0
        · exact Or.inl z
        · exact Or.inr (fun hd => hd.s5 hM467 hK48 hM468 (hX476.resolve_left z) hO470 ((hN471.resolve_left z).resolve_left (by have := hX476.resolve_left z; omega)))
      exact xg_e ⟨w455, ⟨rfl, rfl⟩, xMnv.up (S := [85, 82]) hI393 ((xFr.of (S := [85, 82]) hb454 (by decide)).tr (xFr.of (S := [85, 82]) hb457 (by decide))) (List.forall_mem_cons.mpr ⟨(show cpI 7 52 4294967295 (wget w455 85) from ⟨_, (hr453.but hb457 (by decide)), xrb (by omega) (hb38)⟩), List.forall_mem_cons.mpr ⟨(show cp82 (wget w455 82) from ⟨f82_408, f82_410, f82_412, f82_414, f82_416, f82_418, f82_420, f82_422, f82_424, f82_426 + 1, f82_428, f82_429, f82_430, f82_432, f82_434, f82_436, hk456, hb409, hb411, hb413, hb415, hb417, hb419, hb421, hb423, hb425, by omega, hb431, hb433, hb435, hb437, by omega⟩), fun _ h => absurd h List.not_mem_nil⟩⟩), (((((((hF55.up (by decide)).tr (hF102.up (by decide))).tr (hF146.up (by decide))).tr (hF157.up (by decide))).tr (hF203.up (by decide))).tr (hF394.up (by decide))).tr ((xFr.of (S := [82, 83, 85, 86, 87]) hb454 (by decide)).tr (xFr.of (S := [82, 83, 85, 86, 87]) hb457 (by decide)))), ⟨fun h => by have := pq466.1 h; omega, (show fld w455 82 10 = 0 ∨ FA w455 ≠ 0 by omega), Or.inr ⟨by have := ms407; omega, by omega, hM469⟩, hD477⟩⟩
  · refine xg_t (xg_icF (u := u45) (v := 1) rfl xnm0 xnm0 (xj_ltF (by omega) (by omega))) ?_
    refine xg_t (xg_aload (va := (2, 82)) rfl rfl) ?_
    refine xg_t (xg_const) ?_
    refine xg_t (xg_iload (va := (0, at_)) rfl rfl) ?_
    refine xg_cVv mX12_also (vs := [(0, 3), (0, at_)]) (rest := []) (cn1 := 0) (sl1 := 0) rfl (mAlso (hI) (by omega) (by omega) (by omega) (PK.rf hps).2.2.2) rfl h82_31 rfl rfl rfl rfl rfl rfl (fun w478 hq479 => ?_)
    obtain ⟨hI480, hF481, hx482⟩ := hq479
    have pk483 : PK w w478 := ⟨fun _ => hx482, Nat.le_of_eq (mu_fr hF481 (by decide)), fld_fr hF481 (by decide), Or.inr hx482⟩
    have pk484 : PK w w478 := PK.tr (PK.rf hps) pk483
    have os485 : ∀ j, (j < 7 ∨ 9 ≤ j) → j < 140 → rwv w478 86 j = rwv w 86 j := fun j hj hl => (rwv_fr hF481 (by decide)).trans ((fun j _ _ => rfl) j hj hl)
    have hf486 := fld_fr (c := 82) (j := 7) hF481 (by decide)
    refine xg_t (xg_blk (b := [(64, 1, 0, 0, 0, 0), (65, 3, 13, 110, 96, 190), (68, 1, 2, 1, 0, 0), (69, 39, 33, 362, 0, 9)]) rfl) ?_
    refine xg_t (xg_aload (va := (2, 82)) rfl rfl) ?_
    refine xg_cVv mX12_advance (vs := []) (rest := []) (cn1 := 0) (sl1 := 0) rfl (mAdvance (hI480)) rfl (hF481.get (by decide) h82_31) rfl rfl rfl rfl rfl rfl (fun w487 hq488 => ?_)
    obtain ⟨hI489, hF490, hx491⟩ := hq488
    clear hb2 hb4 hb6 hb8 hb10 hb12 hb14 hb16 hb18 hb20 hb24 hb26 hb28 hb30
    obtain ⟨hv492, hv493, hv494, hv495⟩ := hx491
    have hf497 := FA_fr hF490 (by decide)
    have hs498 := pk484.2.2.2
    unfold PS at hs498
    have pk496 : PK w478 w487 := ⟨fun _ => by omega, hv492, hv495, (show fld w487 82 10 = 0 ∨ FA w487 ≠ 0 by omega)⟩
    clear hs498
    have pk499 : PK w w487 := PK.tr pk484 pk496
    have os500 : ∀ j, (j < 7 ∨ 9 ≤ j) → j < 140 → rwv w487 86 j = rwv w 86 j := fun j hj hl => (rwv_fr hF490 (by decide)).trans (os485 j hj hl)
    have rg501 : FA w487 ≠ 0 ∨ 0 = 1 := (Or.inl hx482 : FA w478 ≠ 0 ∨ 0 = 1).imp_left pk496.1
    have ms502 : mu w487 < mu w := Nat.lt_of_lt_of_le (hv493 (by omega)) pk484.2.1
    clear hv493
    refine xg_t (xg_iload (va := (0, 5)) rfl rfl) ?_
    refine xg_t (xg_swt (ks := [(0, 108), (1, 116), (2, 180), (3, 221), (4, 273), (5, 326)]) (u := 5) (z := 326) rfl rfl rfl xnm0 (xsw_n (by omega) (xsw_n (by omega) (xsw_n (by omega) (xsw_n (by omega) (xsw_n (by omega) (xsw_y rfl))))))) ?_
    refine xg_t (xg_blk (b := [(326, 1, 3, 0, 0, 0), (327, 2, 15, 4, 0, 0)]) rfl) ?_
    refine xg_t (xg_const) ?_
    refine xg_t (xg_istore (l1 := [(3, (0, u45)), (2, (0, at_)), (1, (0, 5)), (0, (2, 82))]) rfl rfl rfl) ?_
    refine xg_t (xg_blk (b := [(329, 2, 2, 4, 0, 0), (331, 1, 3, 2, 0, 0), (332, 3, 6, 359, 3, 0), (335, 1, 0, 0, 0, 0), (336, 1, 2, 1, 0, 0), (337, 1, 2, 3, 0, 0), (338, 2, 4, 7, 0, 0), (340, 2, 2, 4, 0, 0), (342, 1, 11, 0, 0, 0), (343, 1, 0, 0, 0, 0), (344, 1, 3, 1, 0, 0), (345, 2, 4, 10, 0, 0), (347, 3, 13, 199, 96, 196), (350, 3, 13, 211, 96, 200), (353, 3, 9, 4, 1, 0), (356, 3, 8, 329, 0, 0)]) rfl) ?_
    refine xg_t (xg_iload (va := (0, 0)) rfl rfl) ?_
    refine xg_t (xg_const) ?_
    refine xg_t (xg_icF (u := 0) (v := 2) rfl xnm0 xnm0 (by decide)) ?_
    refine xg_t (xg_aload (va := (2, 82)) rfl rfl) ?_
    refine xg_t (xg_iload (va := (0, 5)) rfl rfl) ?_
    refine xg_t (xg_iload (va := (0, u45)) rfl rfl) ?_
    refine xg_t (xg_bip) ?_
    refine xg_t (xg_iload (va := (0, 0)) rfl rfl) ?_
    refine xg_t (xg_iadd (u := 7) (v := 0) (z := 7) xnm0 xnm0 (by decide)) ?_
    refine xg_t (xg_aload (va := (2, 82)) rfl rfl) ?_
    refine xg_t (xg_const) ?_
    refine xg_t (xg_bip) ?_
    obtain ⟨f82_503, f82_505, f82_507, f82_509, f82_511, f82_513, f82_515, f82_517, f82_519, f82_521, f82_523, f82_524, f82_525, f82_527, f82_529, f82_531, h82_533, hb504, hb506, hb508, hb510, hb512, hb514, hb516, hb518, hb520, hb522, hb526, hb528, hb530, hb532, hb534⟩ := (hI489 82 (by decide) (by decide) : cp82 (wget w487 82))
    refine xg_cVi mX12_numbered (vs := [(0, 1), (0, 10)]) (rest := [(0, 7), (0, u45), (0, 5), (2, 82)]) (cn1 := 0) (sl1 := 0) rfl (mNumbered (hI489) (by omega) (by omega) pk499.2.2.2) rfl h82_533 rfl rfl rfl rfl rfl rfl (fun n539 w535 hq536 => ?_)
    obtain ⟨hn540, hI537, hF538⟩ := hq536
    clear hb504 hb506 hb508 hb510 hb512 hb514 hb516 hb518 hb520 hb522 hb526 hb528 hb530 hb532
    obtain ⟨hn541, hn542, hn543⟩ := hn540
    have pk544 : PK w w535 := PK.tr pk499 hn542
    have os545 : ∀ j, (j < 7 ∨ 9 ≤ j) → j < 140 → rwv w535 86 j = rwv w 86 j := fun j hj hl => (rwv_fr hF538 (by decide)).trans (os500 j hj hl)
    have rg546 : FA w535 ≠ 0 ∨ 0 = 1 := rg501.imp_left hn542.1
    have ms547 : mu w535 < mu w := Nat.lt_of_le_of_lt hn542.2.1 ms502
    clear rg501
    obtain ⟨f82_548, f82_550, f82_552, f82_554, f82_556, f82_558, f82_560, f82_562, f82_564, f82_566, f82_568, f82_569, f82_570, f82_572, f82_574, f82_576, h82_578, hb549, hb551, hb553, hb555, hb557, hb559, hb561, hb563, hb565, hb567, hb571, hb573, hb575, hb577, hb579⟩ := (hI537 82 (by decide) (by decide) : cp82 (wget w535 82))
    refine xg_cVv mX12_puts (vs := [(0, 5), (0, u45), (0, 7), (0, n539)]) (rest := []) (cn1 := 0) (sl1 := 0) rfl (mPuts5 (hI537) (by omega) (by omega) (by omega) (fun _ => by omega)) rfl h82_578 rfl rfl rfl rfl rfl rfl (fun w580 hq581 => ?_)
    obtain ⟨hI582, hF583, hx584⟩ := hq581
    obtain ⟨hp585, hp586⟩ := hx584
    have pk587 : PK w w580 := PK.tr pk544 (PK.fr hF583 (by decide) (by decide) pk544.2.2.2)
    have os588 : ∀ j, (j < 7 ∨ 9 ≤ j) → j < 140 → rwv w580 86 j = rwv w 86 j := fun j hj hl => (hp586 j (by omega) hl).trans (os545 j hj hl)
    have rg589 : FA w580 ≠ 0 ∨ 0 = 1 := rg546.imp_left (PK.fr hF583 (by decide) (by decide) pk544.2.2.2).1
    have rg590 : FA w580 ≠ 0 ∨ (1 ≤ n539 ∧ n539 ≤ 10) := hn543.imp_left (PK.fr hF583 (by decide) (by decide) pk544.2.2.2).1
    have ms591 : mu w580 < mu w := Nat.lt_of_le_of_lt (PK.fr hF583 (by decide) (by decide) pk544.2.2.2).2.1 ms547
    clear rg546 hn543
    refine xg_t (xg_iinc (u := 0) (z := 1) (l1 := [(3, (0, u45)), (2, (0, at_)), (1, (0, 5)), (0, (2, 82))]) rfl rfl (by decide) rfl) ?_
    refine xg_t (xg_goto) ?_
    refine xg_t (xg_blk (b := [(329, 2, 2, 4, 0, 0), (331, 1, 3, 2, 0, 0), (332, 3, 6, 359, 3, 0), (335, 1, 0, 0, 0, 0), (336, 1, 2, 1, 0, 0), (337, 1, 2, 3, 0, 0), (338, 2, 4, 7, 0, 0), (340, 2, 2, 4, 0, 0), (342, 1, 11, 0, 0, 0), (343, 1, 0, 0, 0, 0), (344, 1, 3, 1, 0, 0), (345, 2, 4, 10, 0, 0), (347, 3, 13, 199, 96, 196), (350, 3, 13, 211, 96, 200), (353, 3, 9, 4, 1, 0), (356, 3, 8, 329, 0, 0)]) rfl) ?_
    refine xg_t (xg_iload (va := (0, 1)) rfl rfl) ?_
    refine xg_t (xg_const) ?_
    refine xg_t (xg_icF (u := 1) (v := 2) rfl xnm0 xnm0 (by decide)) ?_
    refine xg_t (xg_aload (va := (2, 82)) rfl rfl) ?_
    refine xg_t (xg_iload (va := (0, 5)) rfl rfl) ?_
    refine xg_t (xg_iload (va := (0, u45)) rfl rfl) ?_
    refine xg_t (xg_bip) ?_
    refine xg_t (xg_iload (va := (0, 1)) rfl rfl) ?_
    refine xg_t (xg_iadd (u := 7) (v := 1) (z := 8) xnm0 xnm0 (by decide)) ?_
    refine xg_t (xg_aload (va := (2, 82)) rfl rfl) ?_
    refine xg_t (xg_const) ?_
    refine xg_t (xg_bip) ?_
    refine xg_cVi mX12_numbered (vs := [(0, 1), (0, 10)]) (rest := [(0, 8), (0, u45), (0, 5), (2, 82)]) (cn1 := 0) (sl1 := 0) rfl (mNumbered (hI582) (by omega) (by omega) pk587.2.2.2) rfl (hF583.get (by decide) h82_578) rfl rfl rfl rfl rfl rfl (fun n596 w592 hq593 => ?_)
    obtain ⟨hn597, hI594, hF595⟩ := hq593
    clear hb549 hb551 hb553 hb555 hb557 hb559 hb561 hb563 hb565 hb567 hb571 hb573 hb575 hb577
    obtain ⟨hn598, hn599, hn600⟩ := hn597
    have pk601 : PK w w592 := PK.tr pk587 hn599
    have os602 : ∀ j, (j < 7 ∨ 9 ≤ j) → j < 140 → rwv w592 86 j = rwv w 86 j := fun j hj hl => (rwv_fr hF595 (by decide)).trans (os588 j hj hl)
    have ix603 : u45 < 1 → rwv w592 86 (7) = n539 := fun h => (rwv_fr hF595 (by decide)).trans (hp585 h)
    have rg604 : FA w592 ≠ 0 ∨ 0 = 1 := rg589.imp_left hn599.1
    have rg605 : FA w592 ≠ 0 ∨ (1 ≤ n539 ∧ n539 ≤ 10) := rg590.imp_left hn599.1
    have ms606 : mu w592 < mu w := Nat.lt_of_le_of_lt hn599.2.1 ms591
    clear hp585 rg589 rg590
    obtain ⟨f82_607, f82_609, f82_611, f82_613, f82_615, f82_617, f82_619, f82_621, f82_623, f82_625, f82_627, f82_628, f82_629, f82_631, f82_633, f82_635, h82_637, hb608, hb610, hb612, hb614, hb616, hb618, hb620, hb622, hb624, hb626, hb630, hb632, hb634, hb636, hb638⟩ := (hI594 82 (by decide) (by decide) : cp82 (wget w592 82))
    refine xg_cVv mX12_puts (vs := [(0, 5), (0, u45), (0, 8), (0, n596)]) (rest := []) (cn1 := 0) (sl1 := 0) rfl (mPuts5 (hI594) (by omega) (by omega) (by omega) (fun _ => by omega)) rfl h82_637 rfl rfl rfl rfl rfl rfl (fun w639 hq640 => ?_)
    obtain ⟨hI641, hF642, hx643⟩ := hq640
    obtain ⟨hp644, hp645⟩ := hx643
    have pk646 : PK w w639 := PK.tr pk601 (PK.fr hF642 (by decide) (by decide) pk601.2.2.2)
    have os647 : ∀ j, (j < 7 ∨ 9 ≤ j) → j < 140 → rwv w639 86 j = rwv w 86 j := fun j hj hl => (hp645 j (by omega) hl).trans (os602 j hj hl)
    have ix648 : u45 < 1 → rwv w639 86 (7) = n539 := fun h => (hp645 _ (by omega) (by omega)).trans (ix603 h)
    have rg649 : FA w639 ≠ 0 ∨ 0 = 1 := rg604.imp_left (PK.fr hF642 (by decide) (by decide) pk601.2.2.2).1
    have rg650 : FA w639 ≠ 0 ∨ (1 ≤ n539 ∧ n539 ≤ 10) := rg605.imp_left (PK.fr hF642 (by decide) (by decide) pk601.2.2.2).1
    have rg651 : FA w639 ≠ 0 ∨ (1 ≤ n596 ∧ n596 ≤ 10) := hn600.imp_left (PK.fr hF642 (by decide) (by decide) pk601.2.2.2).1
    have ms652 : mu w639 < mu w := Nat.lt_of_le_of_lt (PK.fr hF642 (by decide) (by decide) pk601.2.2.2).2.1 ms606
    clear ix603 rg604 rg605 hn600
    refine xg_t (xg_iinc (u := 1) (z := 2) (l1 := [(3, (0, u45)), (2, (0, at_)), (1, (0, 5)), (0, (2, 82))]) rfl rfl (by decide) rfl) ?_
    refine xg_t (xg_goto) ?_
    refine xg_t (xg_blk (b := [(329, 2, 2, 4, 0, 0), (331, 1, 3, 2, 0, 0), (332, 3, 6, 359, 3, 0), (335, 1, 0, 0, 0, 0), (336, 1, 2, 1, 0, 0), (337, 1, 2, 3, 0, 0), (338, 2, 4, 7, 0, 0), (340, 2, 2, 4, 0, 0), (342, 1, 11, 0, 0, 0), (343, 1, 0, 0, 0, 0), (344, 1, 3, 1, 0, 0), (345, 2, 4, 10, 0, 0), (347, 3, 13, 199, 96, 196), (350, 3, 13, 211, 96, 200), (353, 3, 9, 4, 1, 0), (356, 3, 8, 329, 0, 0)]) rfl) ?_
    refine xg_t (xg_iload (va := (0, 2)) rfl rfl) ?_
    refine xg_t (xg_const) ?_
    refine xg_t (xg_icT (u := 2) (v := 2) rfl xnm0 xnm0 (by decide)) ?_
    refine xg_t (xg_blk (b := [(359, 3, 8, 394, 0, 0)]) rfl) ?_
    refine xg_t (xg_goto) ?_
    refine xg_t (xg_blk (b := [(394, 1, 0, 0, 0, 0), (395, 3, 1, 12, 10, 180), (398, 3, 7, 416, 1, 0), (401, 1, 0, 0, 0, 0), (402, 3, 1, 12, 7, 151), (405, 1, 3, 2, 0, 0), (406, 3, 6, 416, 1, 0), (409, 1, 0, 0, 0, 0), (410, 3, 13, 110, 96, 190), (413, 3, 8, 420, 0, 0)]) rfl) ?_
    refine xg_t (xg_aload (va := (2, 82)) rfl rfl) ?_
    refine xg_t (xg_getf (va := (0, f82_623)) (hF642.get (by decide) h82_637) rfl) ?_
    by_cases hc653 : f82_623 = 0
    · refine xg_t (xg_ifF (u := f82_623) rfl xnm0 (xj_neF hc653)) ?_
      refine xg_t (xg_aload (va := (2, 82)) rfl rfl) ?_
      refine xg_t (xg_getf (va := (0, f82_617)) (hF642.get (by decide) h82_637) rfl) ?_
      refine xg_t (xg_const) ?_
      by_cases hc654 : f82_617 = 2
      · refine xg_t (xg_icF (u := f82_617) (v := 2) rfl xnm0 xnm0 (xj_neF hc654)) ?_
        refine xg_t (xg_aload (va := (2, 82)) rfl rfl) ?_
        refine xg_cVv mX12_advance (vs := []) (rest := []) (cn1 := 0) (sl1 := 0) rfl (mAdvance (hI641)) rfl (hF642.get (by decide) h82_637) rfl rfl rfl rfl rfl rfl (fun w655 hq656 => ?_)
        obtain ⟨hI657, hF658, hx659⟩ := hq656
        clear hb608 hb610 hb612 hb614 hb616 hb618 hb620 hb622 hb624 hb626 hb630 hb632 hb634 hb636
        obtain ⟨hv660, hv661, hv662, hv663⟩ := hx659
        have hf665 := FA_fr hF658 (by decide)
        have hs666 := pk646.2.2.2
        unfold PS at hs666
        have pk664 : PK w639 w655 := ⟨fun _ => by omega, hv660, hv663, (show fld w655 82 10 = 0 ∨ FA w655 ≠ 0 by omega)⟩
        clear hs666
        clear hv661
        have pk667 : PK w w655 := PK.tr pk646 pk664
        have os668 : ∀ j, (j < 7 ∨ 9 ≤ j) → j < 140 → rwv w655 86 j = rwv w 86 j := fun j hj hl => (rwv_fr hF658 (by decide)).trans (os647 j hj hl)
        have ix669 : u45 < 1 → rwv w655 86 (7) = n539 := fun h => (rwv_fr hF658 (by decide)).trans (ix648 h)
        have ix670 : u45 < 1 → rwv w655 86 (8) = n596 := fun h => (rwv_fr hF658 (by decide)).trans (hp644 h)
        have rg671 : FA w655 ≠ 0 ∨ 0 = 1 := rg649.imp_left pk664.1
        have rg672 : FA w655 ≠ 0 ∨ (1 ≤ n539 ∧ n539 ≤ 10) := rg650.imp_left pk664.1
        have rg673 : FA w655 ≠ 0 ∨ (1 ≤ n596 ∧ n596 ≤ 10) := rg651.imp_left pk664.1
        have ms674 : mu w655 < mu w := Nat.lt_of_le_of_lt pk664.2.1 ms652
        clear ix648 hp644 rg649 rg650 rg651
        refine xg_t (xg_goto) ?_
        refine xg_t (xg_blk (b := [(420, 1, 0, 0, 0, 0), (421, 3, 1, 12, 11, 17), (424, 1, 2, 1, 0, 0), (425, 1, 39, 0, 0, 0), (426, 1, 10, 0, 0, 0), (427, 1, 3, 1, 0, 0), (428, 1, 11, 0, 0, 0), (429, 1, 17, 0, 0, 0), (430, 1, 0, 0, 0, 0), (431, 1, 19, 0, 0, 0), (432, 3, 1, 12, 14, 212), (435, 1, 3, 1, 0, 0), (436, 1, 11, 0, 0, 0), (437, 3, 14, 12, 14, 212), (440, 1, 12, 0, 0, 0)]) rfl) ?_
        obtain ⟨f82_675, f82_677, f82_679, f82_681, f82_683, f82_685, f82_687, f82_689, f82_691, f82_693, f82_695, f82_696, f82_697, f82_699, f82_701, f82_703, h82_705, hb676, hb678, hb680, hb682, hb684, hb686, hb688, hb690, hb692, hb694, hb698, hb700, hb702, hb704, hb706⟩ := (hI657 82 (by decide) (by decide) : cp82 (wget w655 82))
        have hf707 : fld w655 82 4 = f82_679 := fld_of h82_705
        have hf708 : fld w655 82 5 = f82_681 := fld_of h82_705
        have hf709 : fld w655 82 7 = f82_685 := fld_of h82_705
        have hf710 : fld w655 82 10 = f82_691 := fld_of h82_705
        have hf711 : fld w655 82 14 = f82_693 := fld_of h82_705
        have hu712 : mu w655 = 2 * (fld w655 82 4 - fld w655 82 5) + min 1 (fld w655 82 7) := rfl
        have hf713 := pk667.2.2.1
        have hl714 : f82_693 ≤ 1000 := by omega
        refine xg_t (xg_aload (va := (2, 82)) rfl rfl) ?_
        refine xg_t (xg_getf (va := (2, 85)) h82_705 rfl) ?_
        refine xg_t (xg_iload (va := (0, 5)) rfl rfl) ?_
        refine xg_t (xg_dup2 rfl) ?_
        refine xg_ialdB (n := 5) (B := 4294967295) (((((((h85_37.fr hF481 (by decide)).fr hF490 (by decide)).fr hF538 (by decide)).fr hF583 (by decide)).fr hF595 (by decide)).fr hF642 (by decide)).fr hF658 (by decide)) (hb38) xnm0 (by omega) (fun u715 hu716 he717 => ?_)
        have hl718 : u715 = u45 := by omega
        refine xg_t (xg_const) ?_
        refine xg_t (xg_iadd (u := u715) (v := 1) (z := u715 + 1) xnm0 xnm0 (by omega)) ?_
        refine xg_iastK (n := 5) (u := u715 + 1) (((((((h85_37.fr hF481 (by decide)).fr hF490 (by decide)).fr hF538 (by decide)).fr hF583 (by decide)).fr hF595 (by decide)).fr hF642 (by decide)).fr hF658 (by decide)) xnm0 xnm0 rfl (by omega) (fun w719 hr720 hb721 => ?_)
        refine xg_t (xg_aload (va := (2, 82)) rfl rfl) ?_
        refine xg_t (xg_dup rfl) ?_
        refine xg_t (xg_getf (va := (0, f82_693)) (hb721.get (by decide) h82_705) rfl) ?_
        refine xg_t (xg_const) ?_
        refine xg_t (xg_iadd (u := f82_693) (v := 1) (z := f82_693 + 1) xnm0 xnm0 (by omega)) ?_
        refine xg_putI (fl1 := [(2, 83), (2, 84), (0, f82_675), (0, f82_677), (0, f82_679), (0, f82_681), (0, f82_683), (0, f82_685), (0, f82_687), (0, f82_689), (0, f82_691), (2, 85), (2, 86), (2, 87), (0, f82_693 + 1), (2, 88), (2, 89), (2, 90), (2, 91), (2, 92), (2, 93), (2, 94), (4, f82_695), (4, f82_696), (0, f82_697), (2, 95), (2, 96), (2, 97), (2, 98), (2, 99), (2, 100), (2, 101), (2, 102), (0, f82_699), (2, 103), (2, 104), (2, 105), (2, 106), (2, 107), (2, 108), (2, 109), (0, f82_701), (0, f82_703), (2, 110), (2, 111), (2, 112), (2, 113)]) (hb721.get (by decide) h82_705) rfl rfl rfl (fun w722 hk723 hb724 => ?_)
        have hF725 : xFr [82, 85] w655 w722 := ((xFr.of (S := [82, 85]) hb721 (by decide)).tr (xFr.of (S := [82, 85]) hb724 (by decide)))
        have hA726 := FA_fr hF725 (by decide)
        have hf727 : fld w722 82 4 = f82_679 := fld_of hk723
        have hf728 : fld w722 82 5 = f82_681 := fld_of hk723
        have hf729 : fld w722 82 7 = f82_685 := fld_of hk723
        have hf730 : fld w722 82 10 = f82_691 := fld_of hk723
        have hf731 : fld w722 82 14 = f82_693 + 1 := fld_of hk723
        have hu732 : mu w722 = 2 * (fld w722 82 4 - fld w722 82 5) + min 1 (fld w722 82 7) := rfl
        have pq733 := pk667
        unfold PK PS at pq733
        have hM734 : ∀ s, s < 7 → s ≠ 5 → rwv w722 85 s = rwv w 85 s := fun s hs hn => (rwv_of (hr720.but hb724 (by decide)) hs).trans ((if_neg hn).trans (rwv_of h85_37 hs).symm)
        have hM735 : rwv w722 85 5 = u45 + 1 := (rwv_of (hr720.but hb724 (by decide)) (by decide)).trans ((if_pos rfl).trans (by omega))
        have hM736 : ∀ s, s < 7 → rwv w722 85 s ≤ rwv w 85 s + 1 := fun s hs => by
          by_cases z : s = 5
          · subst z; omega
          · rw [hM734 s hs z]; omega
        have hO737 : ∀ j, (j < 7 ∨ 9 ≤ j) → j < 140 → rwv w722 86 j = rwv w 86 j := fun j hj hl => (rwv_fr hF725 (by decide)).trans (os668 j hj hl)
        have hl739 : FA w655 ≠ 0 ∨ 0 = 1 := rg671
        have hl740 : u45 < 1 → rwv w722 86 (7) = n539 := fun h => (rwv_fr hF725 (by decide)).trans (ix669 h)
        have hl741 : u45 < 1 → rwv w722 86 (8) = n596 := fun h => (rwv_fr hF725 (by decide)).trans (ix670 h)
        have hl742 : FA w655 ≠ 0 ∨ (1 ≤ n539 ∧ n539 ≤ 10) := rg672
        have hl743 : FA w655 ≠ 0 ∨ (1 ≤ n596 ∧ n596 ≤ 10) := rg673
        have hN738 : FA w722 ≠ 0 ∨ 1 ≤ u45 ∨ (1 ≤ rwv w722 86 7 ∧ rwv w722 86 7 ≤ 10 ∧ 1 ≤ rwv w722 86 8 ∧ rwv w722 86 8 ≤ 10) := by omega
        have hX744 : FA w722 ≠ 0 ∨ u45 < 1 := by omega
        have hD745 : FA w722 ≠ 0 ∨ (DATA w → DATA w722) := by
          by_cases z : FA w722 ≠ 0
          · exact Or.inl z
          · exact Or.inr (fun hd => hd.s5 hM734 hK48 hM735 (hX744.resolve_left z) hO737 ((hN738.resolve_left z).resolve_left (by have := hX744.resolve_left z; omega)))
        exact xg_e ⟨w722, ⟨rfl, rfl⟩, xMnv.up (S := [85, 82]) hI657 ((xFr.of (S := [85, 82]) hb721 (by decide)).tr (xFr.of (S := [85, 82]) hb724 (by decide))) (List.forall_mem_cons.mpr ⟨(show cpI 7 52 4294967295 (wget w722 85) from ⟨_, (hr720.but hb724 (by decide)), xrb (by omega) (hb38)⟩), List.forall_mem_cons.mpr ⟨(show cp82 (wget w722 82) from ⟨f82_675, f82_677, f82_679, f82_681, f82_683, f82_685, f82_687, f82_689, f82_691, f82_693 + 1, f82_695, f82_696, f82_697, f82_699, f82_701, f82_703, hk723, hb676, hb678, hb680, hb682, hb684, hb686, hb688, hb690, hb692, by omega, hb698, hb700, hb702, hb704, by omega⟩), fun _ h => absurd h List.not_mem_nil⟩⟩), ((((((((hF481.up (by decide)).tr (hF490.up (by decide))).tr (hF538.up (by decide))).tr (hF583.up (by decide))).tr (hF595.up (by decide))).tr (hF642.up (by decide))).tr (hF658.up (by decide))).tr ((xFr.of (S := [82, 83, 85, 86, 87]) hb721 (by decide)).tr (xFr.of (S := [82, 83, 85, 86, 87]) hb724 (by decide)))), ⟨fun h => by have := pq733.1 h; omega, (show fld w722 82 10 = 0 ∨ FA w722 ≠ 0 by omega), Or.inr ⟨by have := ms674; omega, by omega, hM736⟩, hD745⟩⟩
      · refine xg_t (xg_icT (u := f82_617) (v := 2) rfl xnm0 xnm0 (xj_neT hc654)) ?_
        refine xg_t (xg_blk (b := [(416, 1, 0, 0, 0, 0), (417, 3, 13, 140, 96, 183)]) rfl) ?_
        refine xg_t (xg_aload (va := (2, 82)) rfl rfl) ?_
        refine xg_cVv mX12_ends (vs := []) (rest := []) (cn1 := 0) (sl1 := 0) rfl (mEnds (hI641) pk646.2.2.2) rfl (hF642.get (by decide) h82_637) rfl rfl rfl rfl rfl rfl (fun w746 hq747 => ?_)
        obtain ⟨hI748, hF749, hx750⟩ := hq747
        clear hb608 hb610 hb612 hb614 hb616 hb618 hb620 hb622 hb624 hb626 hb630 hb632 hb634 hb636
        obtain ⟨hv751, hv752, hv753, hv754⟩ := hx750
        have pk755 : PK w639 w746 := ⟨fun _ => hv751, by omega, by omega, Or.inr hv751⟩
        have pk756 : PK w w746 := PK.tr pk646 pk755
        have os757 : ∀ j, (j < 7 ∨ 9 ≤ j) → j < 140 → rwv w746 86 j = rwv w 86 j := fun j hj hl => (rwv_fr hF749 (by decide)).trans (os647 j hj hl)
        have ix758 : u45 < 1 → rwv w746 86 (7) = n539 := fun h => (rwv_fr hF749 (by decide)).trans (ix648 h)
        have ix759 : u45 < 1 → rwv w746 86 (8) = n596 := fun h => (rwv_fr hF749 (by decide)).trans (hp644 h)
        have rg760 : FA w746 ≠ 0 ∨ 0 = 1 := rg649.imp_left pk755.1
        have rg761 : FA w746 ≠ 0 ∨ (1 ≤ n539 ∧ n539 ≤ 10) := rg650.imp_left pk755.1
        have rg762 : FA w746 ≠ 0 ∨ (1 ≤ n596 ∧ n596 ≤ 10) := rg651.imp_left pk755.1
        have ms763 : mu w746 < mu w := Nat.lt_of_le_of_lt pk755.2.1 ms652
        clear ix648 hp644 rg649 rg650 rg651
        refine xg_t (xg_blk (b := [(420, 1, 0, 0, 0, 0), (421, 3, 1, 12, 11, 17), (424, 1, 2, 1, 0, 0), (425, 1, 39, 0, 0, 0), (426, 1, 10, 0, 0, 0), (427, 1, 3, 1, 0, 0), (428, 1, 11, 0, 0, 0), (429, 1, 17, 0, 0, 0), (430, 1, 0, 0, 0, 0), (431, 1, 19, 0, 0, 0), (432, 3, 1, 12, 14, 212), (435, 1, 3, 1, 0, 0), (436, 1, 11, 0, 0, 0), (437, 3, 14, 12, 14, 212), (440, 1, 12, 0, 0, 0)]) rfl) ?_
        obtain ⟨f82_764, f82_766, f82_768, f82_770, f82_772, f82_774, f82_776, f82_778, f82_780, f82_782, f82_784, f82_785, f82_786, f82_788, f82_790, f82_792, h82_794, hb765, hb767, hb769, hb771, hb773, hb775, hb777, hb779, hb781, hb783, hb787, hb789, hb791, hb793, hb795⟩ := (hI748 82 (by decide) (by decide) : cp82 (wget w746 82))
        have hf796 : fld w746 82 4 = f82_768 := fld_of h82_794
        have hf797 : fld w746 82 5 = f82_770 := fld_of h82_794
        have hf798 : fld w746 82 7 = f82_774 := fld_of h82_794
        have hf799 : fld w746 82 10 = f82_780 := fld_of h82_794
        have hf800 : fld w746 82 14 = f82_782 := fld_of h82_794
        have hu801 : mu w746 = 2 * (fld w746 82 4 - fld w746 82 5) + min 1 (fld w746 82 7) := rfl
        have hf802 := pk756.2.2.1
        have hl803 : f82_782 ≤ 1000 := by omega
        refine xg_t (xg_aload (va := (2, 82)) rfl rfl) ?_
        refine xg_t (xg_getf (va := (2, 85)) h82_794 rfl) ?_
        refine xg_t (xg_iload (va := (0, 5)) rfl rfl) ?_
        refine xg_t (xg_dup2 rfl) ?_
        refine xg_ialdB (n := 5) (B := 4294967295) (((((((h85_37.fr hF481 (by decide)).fr hF490 (by decide)).fr hF538 (by decide)).fr hF583 (by decide)).fr hF595 (by decide)).fr hF642 (by decide)).fr hF749 (by decide)) (hb38) xnm0 (by omega) (fun u804 hu805 he806 => ?_)
        have hl807 : u804 = u45 := by omega
        refine xg_t (xg_const) ?_
        refine xg_t (xg_iadd (u := u804) (v := 1) (z := u804 + 1) xnm0 xnm0 (by omega)) ?_
        refine xg_iastK (n := 5) (u := u804 + 1) (((((((h85_37.fr hF481 (by decide)).fr hF490 (by decide)).fr hF538 (by decide)).fr hF583 (by decide)).fr hF595 (by decide)).fr hF642 (by decide)).fr hF749 (by decide)) xnm0 xnm0 rfl (by omega) (fun w808 hr809 hb810 => ?_)
        refine xg_t (xg_aload (va := (2, 82)) rfl rfl) ?_
        refine xg_t (xg_dup rfl) ?_
        refine xg_t (xg_getf (va := (0, f82_782)) (hb810.get (by decide) h82_794) rfl) ?_
        refine xg_t (xg_const) ?_
        refine xg_t (xg_iadd (u := f82_782) (v := 1) (z := f82_782 + 1) xnm0 xnm0 (by omega)) ?_
        refine xg_putI (fl1 := [(2, 83), (2, 84), (0, f82_764), (0, f82_766), (0, f82_768), (0, f82_770), (0, f82_772), (0, f82_774), (0, f82_776), (0, f82_778), (0, f82_780), (2, 85), (2, 86), (2, 87), (0, f82_782 + 1), (2, 88), (2, 89), (2, 90), (2, 91), (2, 92), (2, 93), (2, 94), (4, f82_784), (4, f82_785), (0, f82_786), (2, 95), (2, 96), (2, 97), (2, 98), (2, 99), (2, 100), (2, 101), (2, 102), (0, f82_788), (2, 103), (2, 104), (2, 105), (2, 106), (2, 107), (2, 108), (2, 109), (0, f82_790), (0, f82_792), (2, 110), (2, 111), (2, 112), (2, 113)]) (hb810.get (by decide) h82_794) rfl rfl rfl (fun w811 hk812 hb813 => ?_)
        have hF814 : xFr [82, 85] w746 w811 := ((xFr.of (S := [82, 85]) hb810 (by decide)).tr (xFr.of (S := [82, 85]) hb813 (by decide)))
        have hA815 := FA_fr hF814 (by decide)
        have hf816 : fld w811 82 4 = f82_768 := fld_of hk812
        have hf817 : fld w811 82 5 = f82_770 := fld_of hk812
        have hf818 : fld w811 82 7 = f82_774 := fld_of hk812
        have hf819 : fld w811 82 10 = f82_780 := fld_of hk812
        have hf820 : fld w811 82 14 = f82_782 + 1 := fld_of hk812
        have hu821 : mu w811 = 2 * (fld w811 82 4 - fld w811 82 5) + min 1 (fld w811 82 7) := rfl
        have pq822 := pk756
        unfold PK PS at pq822
        have hM823 : ∀ s, s < 7 → s ≠ 5 → rwv w811 85 s = rwv w 85 s := fun s hs hn => (rwv_of (hr809.but hb813 (by decide)) hs).trans ((if_neg hn).trans (rwv_of h85_37 hs).symm)
        have hM824 : rwv w811 85 5 = u45 + 1 := (rwv_of (hr809.but hb813 (by decide)) (by decide)).trans ((if_pos rfl).trans (by omega))
        have hM825 : ∀ s, s < 7 → rwv w811 85 s ≤ rwv w 85 s + 1 := fun s hs => by
          by_cases z : s = 5
          · subst z; omega
          · rw [hM823 s hs z]; omega
        have hO826 : ∀ j, (j < 7 ∨ 9 ≤ j) → j < 140 → rwv w811 86 j = rwv w 86 j := fun j hj hl => (rwv_fr hF814 (by decide)).trans (os757 j hj hl)
        have hl828 : FA w746 ≠ 0 ∨ 0 = 1 := rg760
        have hl829 : u45 < 1 → rwv w811 86 (7) = n539 := fun h => (rwv_fr hF814 (by decide)).trans (ix758 h)
        have hl830 : u45 < 1 → rwv w811 86 (8) = n596 := fun h => (rwv_fr hF814 (by decide)).trans (ix759 h)
        have hl831 : FA w746 ≠ 0 ∨ (1 ≤ n539 ∧ n539 ≤ 10) := rg761
        have hl832 : FA w746 ≠ 0 ∨ (1 ≤ n596 ∧ n596 ≤ 10) := rg762
        have hN827 : FA w811 ≠ 0 ∨ 1 ≤ u45 ∨ (1 ≤ rwv w811 86 7 ∧ rwv w811 86 7 ≤ 10 ∧ 1 ≤ rwv w811 86 8 ∧ rwv w811 86 8 ≤ 10) := by omega
        have hX833 : FA w811 ≠ 0 ∨ u45 < 1 := by omega
        have hD834 : FA w811 ≠ 0 ∨ (DATA w → DATA w811) := by
          by_cases z : FA w811 ≠ 0
          · exact Or.inl z
          · exact Or.inr (fun hd => hd.s5 hM823 hK48 hM824 (hX833.resolve_left z) hO826 ((hN827.resolve_left z).resolve_left (by have := hX833.resolve_left z; omega)))
        exact xg_e ⟨w811, ⟨rfl, rfl⟩, xMnv.up (S := [85, 82]) hI748 ((xFr.of (S := [85, 82]) hb810 (by decide)).tr (xFr.of (S := [85, 82]) hb813 (by decide))) (List.forall_mem_cons.mpr ⟨(show cpI 7 52 4294967295 (wget w811 85) from ⟨_, (hr809.but hb813 (by decide)), xrb (by omega) (hb38)⟩), List.forall_mem_cons.mpr ⟨(show cp82 (wget w811 82) from ⟨f82_764, f82_766, f82_768, f82_770, f82_772, f82_774, f82_776, f82_778, f82_780, f82_782 + 1, f82_784, f82_785, f82_786, f82_788, f82_790, f82_792, hk812, hb765, hb767, hb769, hb771, hb773, hb775, hb777, hb779, hb781, by omega, hb787, hb789, hb791, hb793, by omega⟩), fun _ h => absurd h List.not_mem_nil⟩⟩), ((((((((hF481.up (by decide)).tr (hF490.up (by decide))).tr (hF538.up (by decide))).tr (hF583.up (by decide))).tr (hF595.up (by decide))).tr (hF642.up (by decide))).tr (hF749.up (by decide))).tr ((xFr.of (S := [82, 83, 85, 86, 87]) hb810 (by decide)).tr (xFr.of (S := [82, 83, 85, 86, 87]) hb813 (by decide)))), ⟨fun h => by have := pq822.1 h; omega, (show fld w811 82 10 = 0 ∨ FA w811 ≠ 0 by omega), Or.inr ⟨by have := ms763; omega, by omega, hM825⟩, hD834⟩⟩
    · refine xg_t (xg_ifT (u := f82_623) rfl xnm0 (xj_neT hc653)) ?_
      refine xg_t (xg_blk (b := [(416, 1, 0, 0, 0, 0), (417, 3, 13, 140, 96, 183)]) rfl) ?_
      refine xg_t (xg_aload (va := (2, 82)) rfl rfl) ?_
      refine xg_cVv mX12_ends (vs := []) (rest := []) (cn1 := 0) (sl1 := 0) rfl (mEnds (hI641) pk646.2.2.2) rfl (hF642.get (by decide) h82_637) rfl rfl rfl rfl rfl rfl (fun w835 hq836 => ?_)
      obtain ⟨hI837, hF838, hx839⟩ := hq836
      clear hb608 hb610 hb612 hb614 hb616 hb618 hb620 hb622 hb624 hb626 hb630 hb632 hb634 hb636
      obtain ⟨hv840, hv841, hv842, hv843⟩ := hx839
      have pk844 : PK w639 w835 := ⟨fun _ => hv840, by omega, by omega, Or.inr hv840⟩
      have pk845 : PK w w835 := PK.tr pk646 pk844
      have os846 : ∀ j, (j < 7 ∨ 9 ≤ j) → j < 140 → rwv w835 86 j = rwv w 86 j := fun j hj hl => (rwv_fr hF838 (by decide)).trans (os647 j hj hl)
      have ix847 : u45 < 1 → rwv w835 86 (7) = n539 := fun h => (rwv_fr hF838 (by decide)).trans (ix648 h)
      have ix848 : u45 < 1 → rwv w835 86 (8) = n596 := fun h => (rwv_fr hF838 (by decide)).trans (hp644 h)
      have rg849 : FA w835 ≠ 0 ∨ 0 = 1 := rg649.imp_left pk844.1
      have rg850 : FA w835 ≠ 0 ∨ (1 ≤ n539 ∧ n539 ≤ 10) := rg650.imp_left pk844.1
      have rg851 : FA w835 ≠ 0 ∨ (1 ≤ n596 ∧ n596 ≤ 10) := rg651.imp_left pk844.1
      have ms852 : mu w835 < mu w := Nat.lt_of_le_of_lt pk844.2.1 ms652
      clear ix648 hp644 rg649 rg650 rg651
      refine xg_t (xg_blk (b := [(420, 1, 0, 0, 0, 0), (421, 3, 1, 12, 11, 17), (424, 1, 2, 1, 0, 0), (425, 1, 39, 0, 0, 0), (426, 1, 10, 0, 0, 0), (427, 1, 3, 1, 0, 0), (428, 1, 11, 0, 0, 0), (429, 1, 17, 0, 0, 0), (430, 1, 0, 0, 0, 0), (431, 1, 19, 0, 0, 0), (432, 3, 1, 12, 14, 212), (435, 1, 3, 1, 0, 0), (436, 1, 11, 0, 0, 0), (437, 3, 14, 12, 14, 212), (440, 1, 12, 0, 0, 0)]) rfl) ?_
      obtain ⟨f82_853, f82_855, f82_857, f82_859, f82_861, f82_863, f82_865, f82_867, f82_869, f82_871, f82_873, f82_874, f82_875, f82_877, f82_879, f82_881, h82_883, hb854, hb856, hb858, hb860, hb862, hb864, hb866, hb868, hb870, hb872, hb876, hb878, hb880, hb882, hb884⟩ := (hI837 82 (by decide) (by decide) : cp82 (wget w835 82))
      have hf885 : fld w835 82 4 = f82_857 := fld_of h82_883
      have hf886 : fld w835 82 5 = f82_859 := fld_of h82_883
      have hf887 : fld w835 82 7 = f82_863 := fld_of h82_883
      have hf888 : fld w835 82 10 = f82_869 := fld_of h82_883
      have hf889 : fld w835 82 14 = f82_871 := fld_of h82_883
      have hu890 : mu w835 = 2 * (fld w835 82 4 - fld w835 82 5) + min 1 (fld w835 82 7) := rfl
      have hf891 := pk845.2.2.1
      have hl892 : f82_871 ≤ 1000 := by omega
      refine xg_t (xg_aload (va := (2, 82)) rfl rfl) ?_
      refine xg_t (xg_getf (va := (2, 85)) h82_883 rfl) ?_
      refine xg_t (xg_iload (va := (0, 5)) rfl rfl) ?_
      refine xg_t (xg_dup2 rfl) ?_
      refine xg_ialdB (n := 5) (B := 4294967295) (((((((h85_37.fr hF481 (by decide)).fr hF490 (by decide)).fr hF538 (by decide)).fr hF583 (by decide)).fr hF595 (by decide)).fr hF642 (by decide)).fr hF838 (by decide)) (hb38) xnm0 (by omega) (fun u893 hu894 he895 => ?_)
      have hl896 : u893 = u45 := by omega
      refine xg_t (xg_const) ?_
      refine xg_t (xg_iadd (u := u893) (v := 1) (z := u893 + 1) xnm0 xnm0 (by omega)) ?_
      refine xg_iastK (n := 5) (u := u893 + 1) (((((((h85_37.fr hF481 (by decide)).fr hF490 (by decide)).fr hF538 (by decide)).fr hF583 (by decide)).fr hF595 (by decide)).fr hF642 (by decide)).fr hF838 (by decide)) xnm0 xnm0 rfl (by omega) (fun w897 hr898 hb899 => ?_)
      refine xg_t (xg_aload (va := (2, 82)) rfl rfl) ?_
      refine xg_t (xg_dup rfl) ?_
      refine xg_t (xg_getf (va := (0, f82_871)) (hb899.get (by decide) h82_883) rfl) ?_
      refine xg_t (xg_const) ?_
      refine xg_t (xg_iadd (u := f82_871) (v := 1) (z := f82_871 + 1) xnm0 xnm0 (by omega)) ?_
      refine xg_putI (fl1 := [(2, 83), (2, 84), (0, f82_853), (0, f82_855), (0, f82_857), (0, f82_859), (0, f82_861), (0, f82_863), (0, f82_865), (0, f82_867), (0, f82_869), (2, 85), (2, 86), (2, 87), (0, f82_871 + 1), (2, 88), (2, 89), (2, 90), (2, 91), (2, 92), (2, 93), (2, 94), (4, f82_873), (4, f82_874), (0, f82_875), (2, 95), (2, 96), (2, 97), (2, 98), (2, 99), (2, 100), (2, 101), (2, 102), (0, f82_877), (2, 103), (2, 104), (2, 105), (2, 106), (2, 107), (2, 108), (2, 109), (0, f82_879), (0, f82_881), (2, 110), (2, 111), (2, 112), (2, 113)]) (hb899.get (by decide) h82_883) rfl rfl rfl (fun w900 hk901 hb902 => ?_)
      have hF903 : xFr [82, 85] w835 w900 := ((xFr.of (S := [82, 85]) hb899 (by decide)).tr (xFr.of (S := [82, 85]) hb902 (by decide)))
      have hA904 := FA_fr hF903 (by decide)
      have hf905 : fld w900 82 4 = f82_857 := fld_of hk901
      have hf906 : fld w900 82 5 = f82_859 := fld_of hk901
      have hf907 : fld w900 82 7 = f82_863 := fld_of hk901
      have hf908 : fld w900 82 10 = f82_869 := fld_of hk901
      have hf909 : fld w900 82 14 = f82_871 + 1 := fld_of hk901
      have hu910 : mu w900 = 2 * (fld w900 82 4 - fld w900 82 5) + min 1 (fld w900 82 7) := rfl
      have pq911 := pk845
      unfold PK PS at pq911
      have hM912 : ∀ s, s < 7 → s ≠ 5 → rwv w900 85 s = rwv w 85 s := fun s hs hn => (rwv_of (hr898.but hb902 (by decide)) hs).trans ((if_neg hn).trans (rwv_of h85_37 hs).symm)
      have hM913 : rwv w900 85 5 = u45 + 1 := (rwv_of (hr898.but hb902 (by decide)) (by decide)).trans ((if_pos rfl).trans (by omega))
      have hM914 : ∀ s, s < 7 → rwv w900 85 s ≤ rwv w 85 s + 1 := fun s hs => by
        by_cases z : s = 5
        · subst z; omega
        · rw [hM912 s hs z]; omega
      have hO915 : ∀ j, (j < 7 ∨ 9 ≤ j) → j < 140 → rwv w900 86 j = rwv w 86 j := fun j hj hl => (rwv_fr hF903 (by decide)).trans (os846 j hj hl)
      have hl917 : FA w835 ≠ 0 ∨ 0 = 1 := rg849
      have hl918 : u45 < 1 → rwv w900 86 (7) = n539 := fun h => (rwv_fr hF903 (by decide)).trans (ix847 h)
      have hl919 : u45 < 1 → rwv w900 86 (8) = n596 := fun h => (rwv_fr hF903 (by decide)).trans (ix848 h)
      have hl920 : FA w835 ≠ 0 ∨ (1 ≤ n539 ∧ n539 ≤ 10) := rg850
      have hl921 : FA w835 ≠ 0 ∨ (1 ≤ n596 ∧ n596 ≤ 10) := rg851
      have hN916 : FA w900 ≠ 0 ∨ 1 ≤ u45 ∨ (1 ≤ rwv w900 86 7 ∧ rwv w900 86 7 ≤ 10 ∧ 1 ≤ rwv w900 86 8 ∧ rwv w900 86 8 ≤ 10) := by omega
      have hX922 : FA w900 ≠ 0 ∨ u45 < 1 := by omega
      have hD923 : FA w900 ≠ 0 ∨ (DATA w → DATA w900) := by
        by_cases z : FA w900 ≠ 0
        · exact Or.inl z
        · exact Or.inr (fun hd => hd.s5 hM912 hK48 hM913 (hX922.resolve_left z) hO915 ((hN916.resolve_left z).resolve_left (by have := hX922.resolve_left z; omega)))
      exact xg_e ⟨w900, ⟨rfl, rfl⟩, xMnv.up (S := [85, 82]) hI837 ((xFr.of (S := [85, 82]) hb899 (by decide)).tr (xFr.of (S := [85, 82]) hb902 (by decide))) (List.forall_mem_cons.mpr ⟨(show cpI 7 52 4294967295 (wget w900 85) from ⟨_, (hr898.but hb902 (by decide)), xrb (by omega) (hb38)⟩), List.forall_mem_cons.mpr ⟨(show cp82 (wget w900 82) from ⟨f82_853, f82_855, f82_857, f82_859, f82_861, f82_863, f82_865, f82_867, f82_869, f82_871 + 1, f82_873, f82_874, f82_875, f82_877, f82_879, f82_881, hk901, hb854, hb856, hb858, hb860, hb862, hb864, hb866, hb868, hb870, by omega, hb876, hb878, hb880, hb882, by omega⟩), fun _ h => absurd h List.not_mem_nil⟩⟩), ((((((((hF481.up (by decide)).tr (hF490.up (by decide))).tr (hF538.up (by decide))).tr (hF583.up (by decide))).tr (hF595.up (by decide))).tr (hF642.up (by decide))).tr (hF838.up (by decide))).tr ((xFr.of (S := [82, 83, 85, 86, 87]) hb899 (by decide)).tr (xFr.of (S := [82, 83, 85, 86, 87]) hb902 (by decide)))), ⟨fun h => by have := pq911.1 h; omega, (show fld w900 82 10 = 0 ∨ FA w900 ≠ 0 by omega), Or.inr ⟨by have := ms852; omega, by omega, hM914⟩, hD923⟩⟩
set_option maxHeartbeats 60000000 in
theorem mALineS6 {at_ : Nat} (hI : xMnv w) (hps : PS w) (hmb : ∀ s, s < 7 → rwv w 85 s ≤ 1000) (hln : fld w 82 14 ≤ 1000) (h7 : fld w 82 7 = 3) (hat : at_ ≤ 4294967295) : xTo (d + 7) mX12_aLine (43, [], [(2, (0, at_)), (1, (0, 6)), (0, (2, 82))], [], (w, bd, fc, 0, 0, rr)) (fun φ => ∃ w', xEnd 0 [] (w', bd, fc, 0, 0, rr) φ ∧ xMnv w' ∧ xFr [82, 83, 85, 86, 87] w w' ∧ ((FA w ≠ 0 → FA w' ≠ 0) ∧ PS w' ∧ ((fld w' 82 10 = 1 ∧ mu w' = mu w ∧ fld w' 82 14 = fld w 82 14 ∧ ∀ s, s < 7 → rwv w' 85 s = rwv w 85 s) ∨ (mu w' < mu w ∧ fld w' 82 14 = fld w 82 14 + 1 ∧ ∀ s, s < 7 → rwv w' 85 s ≤ rwv w 85 s + 1)) ∧ (FA w' ≠ 0 ∨ (DATA w → DATA w')))) := by
  obtain ⟨f82_1, f82_3, f82_5, f82_7, f82_9, f82_11, f82_13, f82_15, f82_17, f82_19, f82_21, f82_22, f82_23, f82_25, f82_27, f82_29, h82_31, hb2, hb4, hb6, hb8, hb10, hb12, hb14, hb16, hb18, hb20, hb24, hb26, hb28, hb30, hb32⟩ := (hI 82 (by decide) (by decide) : cp82 (wget w 82))
  have hf33 : fld w 82 7 = f82_11 := fld_of h82_31
  have hf34 : fld w 82 10 = f82_17 := fld_of h82_31
  have hf35 : fld w 82 14 = f82_19 := fld_of h82_31
  have hps_ : fld w 82 10 = 0 ∨ FA w ≠ 0 := hps
  obtain ⟨g85_36, h85_37, hb38⟩ := (hI 85 (by decide) (by decide) : cpI 7 52 4294967295 (wget w 85))
  have h85_37 : xRow w 85 7 52 g85_36 := h85_37
  obtain ⟨g86_39, h86_40, hb41⟩ := (hI 86 (by decide) (by decide) : cpI 140 53 4294967295 (wget w 86))
  have h86_40 : xRow w 86 140 53 g86_39 := h86_40
  obtain ⟨g87_42, h87_43, hb44⟩ := (hI 87 (by decide) (by decide) : cpI 20 54 4294967295 (wget w 87))
  have h87_43 : xRow w 87 20 54 g87_42 := h87_43
  refine xg_t (xg_blk (b := [(43, 1, 0, 0, 0, 0), (44, 3, 1, 12, 11, 17), (47, 1, 2, 1, 0, 0), (48, 1, 10, 0, 0, 0), (49, 1, 15, 3, 0, 0), (50, 1, 2, 3, 0, 0), (51, 1, 2, 1, 0, 0), (52, 3, 13, 194, 98, 193), (55, 3, 6, 64, 2, 0), (58, 1, 0, 0, 0, 0), (59, 1, 3, 3, 0, 0), (60, 1, 2, 2, 0, 0), (61, 3, 13, 115, 96, 186)]) rfl) ?_
  refine xg_t (xg_aload (va := (2, 82)) rfl rfl) ?_
  refine xg_t (xg_getf (va := (2, 85)) h82_31 rfl) ?_
  refine xg_t (xg_iload (va := (0, 6)) rfl rfl) ?_
  refine xg_ialdB (n := 6) (B := 4294967295) h85_37 (hb38) xnm0 (by omega) (fun u45 hu46 he47 => ?_)
  have hK48 : rwv w 85 6 = u45 := (rwv_of h85_37 (by decide)).trans he47
  have hm49 := hmb 6 (by decide)
  have hl50 : u45 ≤ 1000 := by omega
  refine xg_t (xg_istore (l1 := [(2, (0, at_)), (1, (0, 6)), (0, (2, 82))]) rfl rfl rfl) ?_
  refine xg_t (xg_iload (va := (0, u45)) rfl rfl) ?_
  refine xg_t (xg_iload (va := (0, 6)) rfl rfl) ?_
  refine xg_t (xg_cSr mX12_mostOf (vs := [(0, 6)]) (rest := [(0, u45)]) (rs := [(0, 1), (0, u45)]) (cn1 := 0) (sl1 := 0) rfl (mMostR6) rfl rfl rfl rfl rfl rfl rfl rfl) ?_
  by_cases hc51 : u45 < 1
  · refine xg_t (xg_icT (u := u45) (v := 1) rfl xnm0 xnm0 (xj_ltT hc51 (by omega))) ?_
    refine xg_t (xg_blk (b := [(64, 1, 0, 0, 0, 0), (65, 3, 13, 110, 96, 190), (68, 1, 2, 1, 0, 0), (69, 39, 33, 362, 0, 9)]) rfl) ?_
    refine xg_t (xg_aload (va := (2, 82)) rfl rfl) ?_
    refine xg_cVv mX12_advance (vs := []) (rest := []) (cn1 := 0) (sl1 := 0) rfl (mAdvance (hI)) rfl h82_31 rfl rfl rfl rfl rfl rfl (fun w52 hq53 => ?_)
    obtain ⟨hI54, hF55, hx56⟩ := hq53
    clear hb2 hb4 hb6 hb8 hb10 hb12 hb14 hb16 hb18 hb20 hb24 hb26 hb28 hb30
    obtain ⟨hv57, hv58, hv59, hv60⟩ := hx56
    have hf62 := FA_fr hF55 (by decide)
    have hs63 := (PK.rf hps).2.2.2
    unfold PS at hs63
    have pk61 : PK w w52 := ⟨fun _ => by omega, hv57, hv60, (show fld w52 82 10 = 0 ∨ FA w52 ≠ 0 by omega)⟩
    clear hs63
    have pk64 : PK w w52 := PK.tr (PK.rf hps) pk61
    have os65 : ∀ j, (j < 5 ∨ 7 ≤ j) → j < 140 → rwv w52 86 j = rwv w 86 j := fun j hj hl => (rwv_fr hF55 (by decide)).trans ((fun j _ _ => rfl) j hj hl)
    have ms66 : mu w52 < mu w := Nat.lt_of_lt_of_le (hv58 (by omega)) (PK.rf hps).2.1
    clear hv58
    refine xg_t (xg_iload (va := (0, 6)) rfl rfl) ?_
    refine xg_t (xg_swt (ks := [(0, 108), (1, 116), (2, 180), (3, 221), (4, 273), (5, 326)]) (u := 6) (z := 362) rfl rfl rfl xnm0 (xsw_n (by omega) (xsw_n (by omega) (xsw_n (by omega) (xsw_n (by omega) (xsw_n (by omega) (xsw_n (by omega) (xsw_d)))))))) ?_
    refine xg_t (xg_blk (b := [(362, 1, 3, 0, 0, 0), (363, 2, 15, 4, 0, 0)]) rfl) ?_
    refine xg_t (xg_const) ?_
    refine xg_t (xg_istore (l1 := [(3, (0, u45)), (2, (0, at_)), (1, (0, 6)), (0, (2, 82))]) rfl rfl rfl) ?_
    refine xg_t (xg_blk (b := [(365, 2, 2, 4, 0, 0), (367, 1, 3, 2, 0, 0), (368, 3, 6, 394, 3, 0), (371, 1, 0, 0, 0, 0), (372, 1, 2, 1, 0, 0), (373, 1, 2, 3, 0, 0), (374, 1, 3, 5, 0, 0), (375, 2, 2, 4, 0, 0), (377, 1, 11, 0, 0, 0), (378, 1, 0, 0, 0, 0), (379, 1, 3, 1, 0, 0), (380, 2, 4, 6, 0, 0), (382, 3, 13, 199, 96, 196), (385, 3, 13, 211, 96, 200), (388, 3, 9, 4, 1, 0), (391, 3, 8, 365, 0, 0)]) rfl) ?_
    refine xg_t (xg_iload (va := (0, 0)) rfl rfl) ?_
    refine xg_t (xg_const) ?_
    refine xg_t (xg_icF (u := 0) (v := 2) rfl xnm0 xnm0 (by decide)) ?_
    refine xg_t (xg_aload (va := (2, 82)) rfl rfl) ?_
    refine xg_t (xg_iload (va := (0, 6)) rfl rfl) ?_
    refine xg_t (xg_iload (va := (0, u45)) rfl rfl) ?_
    refine xg_t (xg_const) ?_
    refine xg_t (xg_iload (va := (0, 0)) rfl rfl) ?_
    refine xg_t (xg_iadd (u := 5) (v := 0) (z := 5) xnm0 xnm0 (by decide)) ?_
    refine xg_t (xg_aload (va := (2, 82)) rfl rfl) ?_
    refine xg_t (xg_const) ?_
    refine xg_t (xg_bip) ?_
    obtain ⟨f82_67, f82_69, f82_71, f82_73, f82_75, f82_77, f82_79, f82_81, f82_83, f82_85, f82_87, f82_88, f82_89, f82_91, f82_93, f82_95, h82_97, hb68, hb70, hb72, hb74, hb76, hb78, hb80, hb82, hb84, hb86, hb90, hb92, hb94, hb96, hb98⟩ := (hI54 82 (by decide) (by decide) : cp82 (wget w52 82))
    refine xg_cVi mX12_numbered (vs := [(0, 1), (0, 6)]) (rest := [(0, 5), (0, u45), (0, 6), (2, 82)]) (cn1 := 0) (sl1 := 0) rfl (mNumbered (hI54) (by omega) (by omega) pk64.2.2.2) rfl h82_97 rfl rfl rfl rfl rfl rfl (fun n103 w99 hq100 => ?_)
    obtain ⟨hn104, hI101, hF102⟩ := hq100
    clear hb68 hb70 hb72 hb74 hb76 hb78 hb80 hb82 hb84 hb86 hb90 hb92 hb94 hb96
    obtain ⟨hn105, hn106, hn107⟩ := hn104
    have pk108 : PK w w99 := PK.tr pk64 hn106
    have os109 : ∀ j, (j < 5 ∨ 7 ≤ j) → j < 140 → rwv w99 86 j = rwv w 86 j := fun j hj hl => (rwv_fr hF102 (by decide)).trans (os65 j hj hl)
    have ms110 : mu w99 < mu w := Nat.lt_of_le_of_lt hn106.2.1 ms66
    obtain ⟨f82_111, f82_113, f82_115, f82_117, f82_119, f82_121, f82_123, f82_125, f82_127, f82_129, f82_131, f82_132, f82_133, f82_135, f82_137, f82_139, h82_141, hb112, hb114, hb116, hb118, hb120, hb122, hb124, hb126, hb128, hb130, hb134, hb136, hb138, hb140, hb142⟩ := (hI101 82 (by decide) (by decide) : cp82 (wget w99 82))
    refine xg_cVv mX12_puts (vs := [(0, 6), (0, u45), (0, 5), (0, n103)]) (rest := []) (cn1 := 0) (sl1 := 0) rfl (mPuts6 (hI101) (by omega) (by omega) (by omega) (fun _ => by omega)) rfl h82_141 rfl rfl rfl rfl rfl rfl (fun w143 hq144 => ?_)
    obtain ⟨hI145, hF146, hx147⟩ := hq144
    obtain ⟨hp148, hp149⟩ := hx147
    have pk150 : PK w w143 := PK.tr pk108 (PK.fr hF146 (by decide) (by decide) pk108.2.2.2)
    have os151 : ∀ j, (j < 5 ∨ 7 ≤ j) → j < 140 → rwv w143 86 j = rwv w 86 j := fun j hj hl => (hp149 j (by omega) hl).trans (os109 j hj hl)
    have rg152 : FA w143 ≠ 0 ∨ (1 ≤ n103 ∧ n103 ≤ 6) := hn107.imp_left (PK.fr hF146 (by decide) (by decide) pk108.2.2.2).1
    have ms153 : mu w143 < mu w := Nat.lt_of_le_of_lt (PK.fr hF146 (by decide) (by decide) pk108.2.2.2).2.1 ms110
    clear hn107
    refine xg_t (xg_iinc (u := 0) (z := 1) (l1 := [(3, (0, u45)), (2, (0, at_)), (1, (0, 6)), (0, (2, 82))]) rfl rfl (by decide) rfl) ?_
    refine xg_t (xg_goto) ?_
    refine xg_t (xg_blk (b := [(365, 2, 2, 4, 0, 0), (367, 1, 3, 2, 0, 0), (368, 3, 6, 394, 3, 0), (371, 1, 0, 0, 0, 0), (372, 1, 2, 1, 0, 0), (373, 1, 2, 3, 0, 0), (374, 1, 3, 5, 0, 0), (375, 2, 2, 4, 0, 0), (377, 1, 11, 0, 0, 0), (378, 1, 0, 0, 0, 0), (379, 1, 3, 1, 0, 0), (380, 2, 4, 6, 0, 0), (382, 3, 13, 199, 96, 196), (385, 3, 13, 211, 96, 200), (388, 3, 9, 4, 1, 0), (391, 3, 8, 365, 0, 0)]) rfl) ?_
    refine xg_t (xg_iload (va := (0, 1)) rfl rfl) ?_
    refine xg_t (xg_const) ?_
    refine xg_t (xg_icF (u := 1) (v := 2) rfl xnm0 xnm0 (by decide)) ?_
    refine xg_t (xg_aload (va := (2, 82)) rfl rfl) ?_
    refine xg_t (xg_iload (va := (0, 6)) rfl rfl) ?_
    refine xg_t (xg_iload (va := (0, u45)) rfl rfl) ?_
    refine xg_t (xg_const) ?_
    refine xg_t (xg_iload (va := (0, 1)) rfl rfl) ?_
    refine xg_t (xg_iadd (u := 5) (v := 1) (z := 6) xnm0 xnm0 (by decide)) ?_
    refine xg_t (xg_aload (va := (2, 82)) rfl rfl) ?_
    refine xg_t (xg_const) ?_
    refine xg_t (xg_bip) ?_
    refine xg_cVi mX12_numbered (vs := [(0, 1), (0, 6)]) (rest := [(0, 6), (0, u45), (0, 6), (2, 82)]) (cn1 := 0) (sl1 := 0) rfl (mNumbered (hI145) (by omega) (by omega) pk150.2.2.2) rfl (hF146.get (by decide) h82_141) rfl rfl rfl rfl rfl rfl (fun n158 w154 hq155 => ?_)
    obtain ⟨hn159, hI156, hF157⟩ := hq155
    clear hb112 hb114 hb116 hb118 hb120 hb122 hb124 hb126 hb128 hb130 hb134 hb136 hb138 hb140
    obtain ⟨hn160, hn161, hn162⟩ := hn159
    have pk163 : PK w w154 := PK.tr pk150 hn161
    have os164 : ∀ j, (j < 5 ∨ 7 ≤ j) → j < 140 → rwv w154 86 j = rwv w 86 j := fun j hj hl => (rwv_fr hF157 (by decide)).trans (os151 j hj hl)
    have ix165 : u45 < 1 → rwv w154 86 (5) = n103 := fun h => (rwv_fr hF157 (by decide)).trans (hp148 h)
    have rg166 : FA w154 ≠ 0 ∨ (1 ≤ n103 ∧ n103 ≤ 6) := rg152.imp_left hn161.1
    have ms167 : mu w154 < mu w := Nat.lt_of_le_of_lt hn161.2.1 ms153
    clear hp148 rg152
    obtain ⟨f82_168, f82_170, f82_172, f82_174, f82_176, f82_178, f82_180, f82_182, f82_184, f82_186, f82_188, f82_189, f82_190, f82_192, f82_194, f82_196, h82_198, hb169, hb171, hb173, hb175, hb177, hb179, hb181, hb183, hb185, hb187, hb191, hb193, hb195, hb197, hb199⟩ := (hI156 82 (by decide) (by decide) : cp82 (wget w154 82))
    refine xg_cVv mX12_puts (vs := [(0, 6), (0, u45), (0, 6), (0, n158)]) (rest := []) (cn1 := 0) (sl1 := 0) rfl (mPuts6 (hI156) (by omega) (by omega) (by omega) (fun _ => by omega)) rfl h82_198 rfl rfl rfl rfl rfl rfl (fun w200 hq201 => ?_)
    obtain ⟨hI202, hF203, hx204⟩ := hq201
    obtain ⟨hp205, hp206⟩ := hx204
    have pk207 : PK w w200 := PK.tr pk163 (PK.fr hF203 (by decide) (by decide) pk163.2.2.2)
    have os208 : ∀ j, (j < 5 ∨ 7 ≤ j) → j < 140 → rwv w200 86 j = rwv w 86 j := fun j hj hl => (hp206 j (by omega) hl).trans (os164 j hj hl)
    have ix209 : u45 < 1 → rwv w200 86 (5) = n103 := fun h => (hp206 _ (by omega) (by omega)).trans (ix165 h)
    have rg210 : FA w200 ≠ 0 ∨ (1 ≤ n103 ∧ n103 ≤ 6) := rg166.imp_left (PK.fr hF203 (by decide) (by decide) pk163.2.2.2).1
    have rg211 : FA w200 ≠ 0 ∨ (1 ≤ n158 ∧ n158 ≤ 6) := hn162.imp_left (PK.fr hF203 (by decide) (by decide) pk163.2.2.2).1
    have ms212 : mu w200 < mu w := Nat.lt_of_le_of_lt (PK.fr hF203 (by decide) (by decide) pk163.2.2.2).2.1 ms167
    clear ix165 rg166 hn162
    refine xg_t (xg_iinc (u := 1) (z := 2) (l1 := [(3, (0, u45)), (2, (0, at_)), (1, (0, 6)), (0, (2, 82))]) rfl rfl (by decide) rfl) ?_
    refine xg_t (xg_goto) ?_
    refine xg_t (xg_blk (b := [(365, 2, 2, 4, 0, 0), (367, 1, 3, 2, 0, 0), (368, 3, 6, 394, 3, 0), (371, 1, 0, 0, 0, 0), (372, 1, 2, 1, 0, 0), (373, 1, 2, 3, 0, 0), (374, 1, 3, 5, 0, 0), (375, 2, 2, 4, 0, 0), (377, 1, 11, 0, 0, 0), (378, 1, 0, 0, 0, 0), (379, 1, 3, 1, 0, 0), (380, 2, 4, 6, 0, 0), (382, 3, 13, 199, 96, 196), (385, 3, 13, 211, 96, 200), (388, 3, 9, 4, 1, 0), (391, 3, 8, 365, 0, 0)]) rfl) ?_
    refine xg_t (xg_iload (va := (0, 2)) rfl rfl) ?_
    refine xg_t (xg_const) ?_
    refine xg_t (xg_icT (u := 2) (v := 2) rfl xnm0 xnm0 (by decide)) ?_
    refine xg_t (xg_blk (b := [(394, 1, 0, 0, 0, 0), (395, 3, 1, 12, 10, 180), (398, 3, 7, 416, 1, 0), (401, 1, 0, 0, 0, 0), (402, 3, 1, 12, 7, 151), (405, 1, 3, 2, 0, 0), (406, 3, 6, 416, 1, 0), (409, 1, 0, 0, 0, 0), (410, 3, 13, 110, 96, 190), (413, 3, 8, 420, 0, 0)]) rfl) ?_
    refine xg_t (xg_aload (va := (2, 82)) rfl rfl) ?_
    refine xg_t (xg_getf (va := (0, f82_184)) (hF203.get (by decide) h82_198) rfl) ?_
    by_cases hc213 : f82_184 = 0
    · refine xg_t (xg_ifF (u := f82_184) rfl xnm0 (xj_neF hc213)) ?_
      refine xg_t (xg_aload (va := (2, 82)) rfl rfl) ?_
      refine xg_t (xg_getf (va := (0, f82_178)) (hF203.get (by decide) h82_198) rfl) ?_
      refine xg_t (xg_const) ?_
      by_cases hc214 : f82_178 = 2
      · refine xg_t (xg_icF (u := f82_178) (v := 2) rfl xnm0 xnm0 (xj_neF hc214)) ?_
        refine xg_t (xg_aload (va := (2, 82)) rfl rfl) ?_
        refine xg_cVv mX12_advance (vs := []) (rest := []) (cn1 := 0) (sl1 := 0) rfl (mAdvance (hI202)) rfl (hF203.get (by decide) h82_198) rfl rfl rfl rfl rfl rfl (fun w215 hq216 => ?_)
        obtain ⟨hI217, hF218, hx219⟩ := hq216
        clear hb169 hb171 hb173 hb175 hb177 hb179 hb181 hb183 hb185 hb187 hb191 hb193 hb195 hb197
        obtain ⟨hv220, hv221, hv222, hv223⟩ := hx219
        have hf225 := FA_fr hF218 (by decide)
        have hs226 := pk207.2.2.2
        unfold PS at hs226
        have pk224 : PK w200 w215 := ⟨fun _ => by omega, hv220, hv223, (show fld w215 82 10 = 0 ∨ FA w215 ≠ 0 by omega)⟩
        clear hs226
        clear hv221
        have pk227 : PK w w215 := PK.tr pk207 pk224
        have os228 : ∀ j, (j < 5 ∨ 7 ≤ j) → j < 140 → rwv w215 86 j = rwv w 86 j := fun j hj hl => (rwv_fr hF218 (by decide)).trans (os208 j hj hl)
        have ix229 : u45 < 1 → rwv w215 86 (5) = n103 := fun h => (rwv_fr hF218 (by decide)).trans (ix209 h)
        have ix230 : u45 < 1 → rwv w215 86 (6) = n158 := fun h => (rwv_fr hF218 (by decide)).trans (hp205 h)
        have rg231 : FA w215 ≠ 0 ∨ (1 ≤ n103 ∧ n103 ≤ 6) := rg210.imp_left pk224.1
        have rg232 : FA w215 ≠ 0 ∨ (1 ≤ n158 ∧ n158 ≤ 6) := rg211.imp_left pk224.1
        have ms233 : mu w215 < mu w := Nat.lt_of_le_of_lt pk224.2.1 ms212
        clear ix209 hp205 rg210 rg211
        refine xg_t (xg_goto) ?_
        refine xg_t (xg_blk (b := [(420, 1, 0, 0, 0, 0), (421, 3, 1, 12, 11, 17), (424, 1, 2, 1, 0, 0), (425, 1, 39, 0, 0, 0), (426, 1, 10, 0, 0, 0), (427, 1, 3, 1, 0, 0), (428, 1, 11, 0, 0, 0), (429, 1, 17, 0, 0, 0), (430, 1, 0, 0, 0, 0), (431, 1, 19, 0, 0, 0), (432, 3, 1, 12, 14, 212), (435, 1, 3, 1, 0, 0), (436, 1, 11, 0, 0, 0), (437, 3, 14, 12, 14, 212), (440, 1, 12, 0, 0, 0)]) rfl) ?_
        obtain ⟨f82_234, f82_236, f82_238, f82_240, f82_242, f82_244, f82_246, f82_248, f82_250, f82_252, f82_254, f82_255, f82_256, f82_258, f82_260, f82_262, h82_264, hb235, hb237, hb239, hb241, hb243, hb245, hb247, hb249, hb251, hb253, hb257, hb259, hb261, hb263, hb265⟩ := (hI217 82 (by decide) (by decide) : cp82 (wget w215 82))
        have hf266 : fld w215 82 4 = f82_238 := fld_of h82_264
        have hf267 : fld w215 82 5 = f82_240 := fld_of h82_264
        have hf268 : fld w215 82 7 = f82_244 := fld_of h82_264
        have hf269 : fld w215 82 10 = f82_250 := fld_of h82_264
        have hf270 : fld w215 82 14 = f82_252 := fld_of h82_264
        have hu271 : mu w215 = 2 * (fld w215 82 4 - fld w215 82 5) + min 1 (fld w215 82 7) := rfl
        have hf272 := pk227.2.2.1
        have hl273 : f82_252 ≤ 1000 := by omega
        refine xg_t (xg_aload (va := (2, 82)) rfl rfl) ?_
        refine xg_t (xg_getf (va := (2, 85)) h82_264 rfl) ?_
        refine xg_t (xg_iload (va := (0, 6)) rfl rfl) ?_
        refine xg_t (xg_dup2 rfl) ?_
        refine xg_ialdB (n := 6) (B := 4294967295) ((((((h85_37.fr hF55 (by decide)).fr hF102 (by decide)).fr hF146 (by decide)).fr hF157 (by decide)).fr hF203 (by decide)).fr hF218 (by decide)) (hb38) xnm0 (by omega) (fun u274 hu275 he276 => ?_)
        have hl277 : u274 = u45 := by omega
        refine xg_t (xg_const) ?_
        refine xg_t (xg_iadd (u := u274) (v := 1) (z := u274 + 1) xnm0 xnm0 (by omega)) ?_
        refine xg_iastK (n := 6) (u := u274 + 1) ((((((h85_37.fr hF55 (by decide)).fr hF102 (by decide)).fr hF146 (by decide)).fr hF157 (by decide)).fr hF203 (by decide)).fr hF218 (by decide)) xnm0 xnm0 rfl (by omega) (fun w278 hr279 hb280 => ?_)
        refine xg_t (xg_aload (va := (2, 82)) rfl rfl) ?_
        refine xg_t (xg_dup rfl) ?_
        refine xg_t (xg_getf (va := (0, f82_252)) (hb280.get (by decide) h82_264) rfl) ?_
        refine xg_t (xg_const) ?_
        refine xg_t (xg_iadd (u := f82_252) (v := 1) (z := f82_252 + 1) xnm0 xnm0 (by omega)) ?_
        refine xg_putI (fl1 := [(2, 83), (2, 84), (0, f82_234), (0, f82_236), (0, f82_238), (0, f82_240), (0, f82_242), (0, f82_244), (0, f82_246), (0, f82_248), (0, f82_250), (2, 85), (2, 86), (2, 87), (0, f82_252 + 1), (2, 88), (2, 89), (2, 90), (2, 91), (2, 92), (2, 93), (2, 94), (4, f82_254), (4, f82_255), (0, f82_256), (2, 95), (2, 96), (2, 97), (2, 98), (2, 99), (2, 100), (2, 101), (2, 102), (0, f82_258), (2, 103), (2, 104), (2, 105), (2, 106), (2, 107), (2, 108), (2, 109), (0, f82_260), (0, f82_262), (2, 110), (2, 111), (2, 112), (2, 113)]) (hb280.get (by decide) h82_264) rfl rfl rfl (fun w281 hk282 hb283 => ?_)
        have hF284 : xFr [82, 85] w215 w281 := ((xFr.of (S := [82, 85]) hb280 (by decide)).tr (xFr.of (S := [82, 85]) hb283 (by decide)))
        have hA285 := FA_fr hF284 (by decide)
        have hf286 : fld w281 82 4 = f82_238 := fld_of hk282
        have hf287 : fld w281 82 5 = f82_240 := fld_of hk282
        have hf288 : fld w281 82 7 = f82_244 := fld_of hk282
        have hf289 : fld w281 82 10 = f82_250 := fld_of hk282
        have hf290 : fld w281 82 14 = f82_252 + 1 := fld_of hk282
        have hu291 : mu w281 = 2 * (fld w281 82 4 - fld w281 82 5) + min 1 (fld w281 82 7) := rfl
        have pq292 := pk227
        unfold PK PS at pq292
        have hM293 : ∀ s, s < 7 → s ≠ 6 → rwv w281 85 s = rwv w 85 s := fun s hs hn => (rwv_of (hr279.but hb283 (by decide)) hs).trans ((if_neg hn).trans (rwv_of h85_37 hs).symm)
        have hM294 : rwv w281 85 6 = u45 + 1 := (rwv_of (hr279.but hb283 (by decide)) (by decide)).trans ((if_pos rfl).trans (by omega))
        have hM295 : ∀ s, s < 7 → rwv w281 85 s ≤ rwv w 85 s + 1 := fun s hs => by
          by_cases z : s = 6
          · subst z; omega
          · rw [hM293 s hs z]; omega
        have hO296 : ∀ j, (j < 5 ∨ 7 ≤ j) → j < 140 → rwv w281 86 j = rwv w 86 j := fun j hj hl => (rwv_fr hF284 (by decide)).trans (os228 j hj hl)
        have hl298 : u45 < 1 → rwv w281 86 (5) = n103 := fun h => (rwv_fr hF284 (by decide)).trans (ix229 h)
        have hl299 : u45 < 1 → rwv w281 86 (6) = n158 := fun h => (rwv_fr hF284 (by decide)).trans (ix230 h)
        have hl300 : FA w215 ≠ 0 ∨ (1 ≤ n103 ∧ n103 ≤ 6) := rg231
        have hl301 : FA w215 ≠ 0 ∨ (1 ≤ n158 ∧ n158 ≤ 6) := rg232
        have hN297 : FA w281 ≠ 0 ∨ 1 ≤ u45 ∨ (1 ≤ rwv w281 86 5 ∧ rwv w281 86 5 ≤ 6 ∧ 1 ≤ rwv w281 86 6 ∧ rwv w281 86 6 ≤ 6) := by omega
        have hX302 : FA w281 ≠ 0 ∨ u45 < 1 := by omega
        have hD303 : FA w281 ≠ 0 ∨ (DATA w → DATA w281) := by
          by_cases z : FA w281 ≠ 0
          · exact Or.inl z
          · exact Or.inr (fun hd => hd.s6 hM293 hK48 hM294 (hX302.resolve_left z) hO296 ((hN297.resolve_left z).resolve_left (by have := hX302.resolve_left z; omega)))
        exact xg_e ⟨w281, ⟨rfl, rfl⟩, xMnv.up (S := [85, 82]) hI217 ((xFr.of (S := [85, 82]) hb280 (by decide)).tr (xFr.of (S := [85, 82]) hb283 (by decide))) (List.forall_mem_cons.mpr ⟨(show cpI 7 52 4294967295 (wget w281 85) from ⟨_, (hr279.but hb283 (by decide)), xrb (by omega) (hb38)⟩), List.forall_mem_cons.mpr ⟨(show cp82 (wget w281 82) from ⟨f82_234, f82_236, f82_238, f82_240, f82_242, f82_244, f82_246, f82_248, f82_250, f82_252 + 1, f82_254, f82_255, f82_256, f82_258, f82_260, f82_262, hk282, hb235, hb237, hb239, hb241, hb243, hb245, hb247, hb249, hb251, by omega, hb257, hb259, hb261, hb263, by omega⟩), fun _ h => absurd h List.not_mem_nil⟩⟩), (((((((hF55.up (by decide)).tr (hF102.up (by decide))).tr (hF146.up (by decide))).tr (hF157.up (by decide))).tr (hF203.up (by decide))).tr (hF218.up (by decide))).tr ((xFr.of (S := [82, 83, 85, 86, 87]) hb280 (by decide)).tr (xFr.of (S := [82, 83, 85, 86, 87]) hb283 (by decide)))), ⟨fun h => by have := pq292.1 h; omega, (show fld w281 82 10 = 0 ∨ FA w281 ≠ 0 by omega), Or.inr ⟨by have := ms233; omega, by omega, hM295⟩, hD303⟩⟩
      · refine xg_t (xg_icT (u := f82_178) (v := 2) rfl xnm0 xnm0 (xj_neT hc214)) ?_
        refine xg_t (xg_blk (b := [(416, 1, 0, 0, 0, 0), (417, 3, 13, 140, 96, 183)]) rfl) ?_
        refine xg_t (xg_aload (va := (2, 82)) rfl rfl) ?_
        refine xg_cVv mX12_ends (vs := []) (rest := []) (cn1 := 0) (sl1 := 0) rfl (mEnds (hI202) pk207.2.2.2) rfl (hF203.get (by decide) h82_198) rfl rfl rfl rfl rfl rfl (fun w304 hq305 => ?_)
        obtain ⟨hI306, hF307, hx308⟩ := hq305
        clear hb169 hb171 hb173 hb175 hb177 hb179 hb181 hb183 hb185 hb187 hb191 hb193 hb195 hb197
        obtain ⟨hv309, hv310, hv311, hv312⟩ := hx308
        have pk313 : PK w200 w304 := ⟨fun _ => hv309, by omega, by omega, Or.inr hv309⟩
        have pk314 : PK w w304 := PK.tr pk207 pk313
        have os315 : ∀ j, (j < 5 ∨ 7 ≤ j) → j < 140 → rwv w304 86 j = rwv w 86 j := fun j hj hl => (rwv_fr hF307 (by decide)).trans (os208 j hj hl)
        have ix316 : u45 < 1 → rwv w304 86 (5) = n103 := fun h => (rwv_fr hF307 (by decide)).trans (ix209 h)
        have ix317 : u45 < 1 → rwv w304 86 (6) = n158 := fun h => (rwv_fr hF307 (by decide)).trans (hp205 h)
        have rg318 : FA w304 ≠ 0 ∨ (1 ≤ n103 ∧ n103 ≤ 6) := rg210.imp_left pk313.1
        have rg319 : FA w304 ≠ 0 ∨ (1 ≤ n158 ∧ n158 ≤ 6) := rg211.imp_left pk313.1
        have ms320 : mu w304 < mu w := Nat.lt_of_le_of_lt pk313.2.1 ms212
        clear ix209 hp205 rg210 rg211
        refine xg_t (xg_blk (b := [(420, 1, 0, 0, 0, 0), (421, 3, 1, 12, 11, 17), (424, 1, 2, 1, 0, 0), (425, 1, 39, 0, 0, 0), (426, 1, 10, 0, 0, 0), (427, 1, 3, 1, 0, 0), (428, 1, 11, 0, 0, 0), (429, 1, 17, 0, 0, 0), (430, 1, 0, 0, 0, 0), (431, 1, 19, 0, 0, 0), (432, 3, 1, 12, 14, 212), (435, 1, 3, 1, 0, 0), (436, 1, 11, 0, 0, 0), (437, 3, 14, 12, 14, 212), (440, 1, 12, 0, 0, 0)]) rfl) ?_
        obtain ⟨f82_321, f82_323, f82_325, f82_327, f82_329, f82_331, f82_333, f82_335, f82_337, f82_339, f82_341, f82_342, f82_343, f82_345, f82_347, f82_349, h82_351, hb322, hb324, hb326, hb328, hb330, hb332, hb334, hb336, hb338, hb340, hb344, hb346, hb348, hb350, hb352⟩ := (hI306 82 (by decide) (by decide) : cp82 (wget w304 82))
        have hf353 : fld w304 82 4 = f82_325 := fld_of h82_351
        have hf354 : fld w304 82 5 = f82_327 := fld_of h82_351
        have hf355 : fld w304 82 7 = f82_331 := fld_of h82_351
        have hf356 : fld w304 82 10 = f82_337 := fld_of h82_351
        have hf357 : fld w304 82 14 = f82_339 := fld_of h82_351
        have hu358 : mu w304 = 2 * (fld w304 82 4 - fld w304 82 5) + min 1 (fld w304 82 7) := rfl
        have hf359 := pk314.2.2.1
        have hl360 : f82_339 ≤ 1000 := by omega
        refine xg_t (xg_aload (va := (2, 82)) rfl rfl) ?_
        refine xg_t (xg_getf (va := (2, 85)) h82_351 rfl) ?_
        refine xg_t (xg_iload (va := (0, 6)) rfl rfl) ?_
        refine xg_t (xg_dup2 rfl) ?_
        refine xg_ialdB (n := 6) (B := 4294967295) ((((((h85_37.fr hF55 (by decide)).fr hF102 (by decide)).fr hF146 (by decide)).fr hF157 (by decide)).fr hF203 (by decide)).fr hF307 (by decide)) (hb38) xnm0 (by omega) (fun u361 hu362 he363 => ?_)
        have hl364 : u361 = u45 := by omega
        refine xg_t (xg_const) ?_
        refine xg_t (xg_iadd (u := u361) (v := 1) (z := u361 + 1) xnm0 xnm0 (by omega)) ?_
        refine xg_iastK (n := 6) (u := u361 + 1) ((((((h85_37.fr hF55 (by decide)).fr hF102 (by decide)).fr hF146 (by decide)).fr hF157 (by decide)).fr hF203 (by decide)).fr hF307 (by decide)) xnm0 xnm0 rfl (by omega) (fun w365 hr366 hb367 => ?_)
        refine xg_t (xg_aload (va := (2, 82)) rfl rfl) ?_
        refine xg_t (xg_dup rfl) ?_
        refine xg_t (xg_getf (va := (0, f82_339)) (hb367.get (by decide) h82_351) rfl) ?_
        refine xg_t (xg_const) ?_
        refine xg_t (xg_iadd (u := f82_339) (v := 1) (z := f82_339 + 1) xnm0 xnm0 (by omega)) ?_
        refine xg_putI (fl1 := [(2, 83), (2, 84), (0, f82_321), (0, f82_323), (0, f82_325), (0, f82_327), (0, f82_329), (0, f82_331), (0, f82_333), (0, f82_335), (0, f82_337), (2, 85), (2, 86), (2, 87), (0, f82_339 + 1), (2, 88), (2, 89), (2, 90), (2, 91), (2, 92), (2, 93), (2, 94), (4, f82_341), (4, f82_342), (0, f82_343), (2, 95), (2, 96), (2, 97), (2, 98), (2, 99), (2, 100), (2, 101), (2, 102), (0, f82_345), (2, 103), (2, 104), (2, 105), (2, 106), (2, 107), (2, 108), (2, 109), (0, f82_347), (0, f82_349), (2, 110), (2, 111), (2, 112), (2, 113)]) (hb367.get (by decide) h82_351) rfl rfl rfl (fun w368 hk369 hb370 => ?_)
        have hF371 : xFr [82, 85] w304 w368 := ((xFr.of (S := [82, 85]) hb367 (by decide)).tr (xFr.of (S := [82, 85]) hb370 (by decide)))
        have hA372 := FA_fr hF371 (by decide)
        have hf373 : fld w368 82 4 = f82_325 := fld_of hk369
        have hf374 : fld w368 82 5 = f82_327 := fld_of hk369
        have hf375 : fld w368 82 7 = f82_331 := fld_of hk369
        have hf376 : fld w368 82 10 = f82_337 := fld_of hk369
        have hf377 : fld w368 82 14 = f82_339 + 1 := fld_of hk369
        have hu378 : mu w368 = 2 * (fld w368 82 4 - fld w368 82 5) + min 1 (fld w368 82 7) := rfl
        have pq379 := pk314
        unfold PK PS at pq379
        have hM380 : ∀ s, s < 7 → s ≠ 6 → rwv w368 85 s = rwv w 85 s := fun s hs hn => (rwv_of (hr366.but hb370 (by decide)) hs).trans ((if_neg hn).trans (rwv_of h85_37 hs).symm)
        have hM381 : rwv w368 85 6 = u45 + 1 := (rwv_of (hr366.but hb370 (by decide)) (by decide)).trans ((if_pos rfl).trans (by omega))
        have hM382 : ∀ s, s < 7 → rwv w368 85 s ≤ rwv w 85 s + 1 := fun s hs => by
          by_cases z : s = 6
          · subst z; omega
          · rw [hM380 s hs z]; omega
        have hO383 : ∀ j, (j < 5 ∨ 7 ≤ j) → j < 140 → rwv w368 86 j = rwv w 86 j := fun j hj hl => (rwv_fr hF371 (by decide)).trans (os315 j hj hl)
        have hl385 : u45 < 1 → rwv w368 86 (5) = n103 := fun h => (rwv_fr hF371 (by decide)).trans (ix316 h)
        have hl386 : u45 < 1 → rwv w368 86 (6) = n158 := fun h => (rwv_fr hF371 (by decide)).trans (ix317 h)
        have hl387 : FA w304 ≠ 0 ∨ (1 ≤ n103 ∧ n103 ≤ 6) := rg318
        have hl388 : FA w304 ≠ 0 ∨ (1 ≤ n158 ∧ n158 ≤ 6) := rg319
        have hN384 : FA w368 ≠ 0 ∨ 1 ≤ u45 ∨ (1 ≤ rwv w368 86 5 ∧ rwv w368 86 5 ≤ 6 ∧ 1 ≤ rwv w368 86 6 ∧ rwv w368 86 6 ≤ 6) := by omega
        have hX389 : FA w368 ≠ 0 ∨ u45 < 1 := by omega
        have hD390 : FA w368 ≠ 0 ∨ (DATA w → DATA w368) := by
          by_cases z : FA w368 ≠ 0
          · exact Or.inl z
          · exact Or.inr (fun hd => hd.s6 hM380 hK48 hM381 (hX389.resolve_left z) hO383 ((hN384.resolve_left z).resolve_left (by have := hX389.resolve_left z; omega)))
        exact xg_e ⟨w368, ⟨rfl, rfl⟩, xMnv.up (S := [85, 82]) hI306 ((xFr.of (S := [85, 82]) hb367 (by decide)).tr (xFr.of (S := [85, 82]) hb370 (by decide))) (List.forall_mem_cons.mpr ⟨(show cpI 7 52 4294967295 (wget w368 85) from ⟨_, (hr366.but hb370 (by decide)), xrb (by omega) (hb38)⟩), List.forall_mem_cons.mpr ⟨(show cp82 (wget w368 82) from ⟨f82_321, f82_323, f82_325, f82_327, f82_329, f82_331, f82_333, f82_335, f82_337, f82_339 + 1, f82_341, f82_342, f82_343, f82_345, f82_347, f82_349, hk369, hb322, hb324, hb326, hb328, hb330, hb332, hb334, hb336, hb338, by omega, hb344, hb346, hb348, hb350, by omega⟩), fun _ h => absurd h List.not_mem_nil⟩⟩), (((((((hF55.up (by decide)).tr (hF102.up (by decide))).tr (hF146.up (by decide))).tr (hF157.up (by decide))).tr (hF203.up (by decide))).tr (hF307.up (by decide))).tr ((xFr.of (S := [82, 83, 85, 86, 87]) hb367 (by decide)).tr (xFr.of (S := [82, 83, 85, 86, 87]) hb370 (by decide)))), ⟨fun h => by have := pq379.1 h; omega, (show fld w368 82 10 = 0 ∨ FA w368 ≠ 0 by omega), Or.inr ⟨by have := ms320; omega, by omega, hM382⟩, hD390⟩⟩
    · refine xg_t (xg_ifT (u := f82_184) rfl xnm0 (xj_neT hc213)) ?_
      refine xg_t (xg_blk (b := [(416, 1, 0, 0, 0, 0), (417, 3, 13, 140, 96, 183)]) rfl) ?_
      refine xg_t (xg_aload (va := (2, 82)) rfl rfl) ?_
      refine xg_cVv mX12_ends (vs := []) (rest := []) (cn1 := 0) (sl1 := 0) rfl (mEnds (hI202) pk207.2.2.2) rfl (hF203.get (by decide) h82_198) rfl rfl rfl rfl rfl rfl (fun w391 hq392 => ?_)
      obtain ⟨hI393, hF394, hx395⟩ := hq392
      clear hb169 hb171 hb173 hb175 hb177 hb179 hb181 hb183 hb185 hb187 hb191 hb193 hb195 hb197
      obtain ⟨hv396, hv397, hv398, hv399⟩ := hx395
      have pk400 : PK w200 w391 := ⟨fun _ => hv396, by omega, by omega, Or.inr hv396⟩
      have pk401 : PK w w391 := PK.tr pk207 pk400
      have os402 : ∀ j, (j < 5 ∨ 7 ≤ j) → j < 140 → rwv w391 86 j = rwv w 86 j := fun j hj hl => (rwv_fr hF394 (by decide)).trans (os208 j hj hl)
      have ix403 : u45 < 1 → rwv w391 86 (5) = n103 := fun h => (rwv_fr hF394 (by decide)).trans (ix209 h)
      have ix404 : u45 < 1 → rwv w391 86 (6) = n158 := fun h => (rwv_fr hF394 (by decide)).trans (hp205 h)
      have rg405 : FA w391 ≠ 0 ∨ (1 ≤ n103 ∧ n103 ≤ 6) := rg210.imp_left pk400.1
      have rg406 : FA w391 ≠ 0 ∨ (1 ≤ n158 ∧ n158 ≤ 6) := rg211.imp_left pk400.1
      have ms407 : mu w391 < mu w := Nat.lt_of_le_of_lt pk400.2.1 ms212
      clear ix209 hp205 rg210 rg211
      refine xg_t (xg_blk (b := [(420, 1, 0, 0, 0, 0), (421, 3, 1, 12, 11, 17), (424, 1, 2, 1, 0, 0), (425, 1, 39, 0, 0, 0), (426, 1, 10, 0, 0, 0), (427, 1, 3, 1, 0, 0), (428, 1, 11, 0, 0, 0), (429, 1, 17, 0, 0, 0), (430, 1, 0, 0, 0, 0), (431, 1, 19, 0, 0, 0), (432, 3, 1, 12, 14, 212), (435, 1, 3, 1, 0, 0), (436, 1, 11, 0, 0, 0), (437, 3, 14, 12, 14, 212), (440, 1, 12, 0, 0, 0)]) rfl) ?_
      obtain ⟨f82_408, f82_410, f82_412, f82_414, f82_416, f82_418, f82_420, f82_422, f82_424, f82_426, f82_428, f82_429, f82_430, f82_432, f82_434, f82_436, h82_438, hb409, hb411, hb413, hb415, hb417, hb419, hb421, hb423, hb425, hb427, hb431, hb433, hb435, hb437, hb439⟩ := (hI393 82 (by decide) (by decide) : cp82 (wget w391 82))
      have hf440 : fld w391 82 4 = f82_412 := fld_of h82_438
      have hf441 : fld w391 82 5 = f82_414 := fld_of h82_438
      have hf442 : fld w391 82 7 = f82_418 := fld_of h82_438
      have hf443 : fld w391 82 10 = f82_424 := fld_of h82_438
      have hf444 : fld w391 82 14 = f82_426 := fld_of h82_438
      have hu445 : mu w391 = 2 * (fld w391 82 4 - fld w391 82 5) + min 1 (fld w391 82 7) := rfl
      have hf446 := pk401.2.2.1
      have hl447 : f82_426 ≤ 1000 := by omega
      refine xg_t (xg_aload (va := (2, 82)) rfl rfl) ?_
      refine xg_t (xg_getf (va := (2, 85)) h82_438 rfl) ?_
      refine xg_t (xg_iload (va := (0, 6)) rfl rfl) ?_
      refine xg_t (xg_dup2 rfl) ?_
      refine xg_ialdB (n := 6) (B := 4294967295) ((((((h85_37.fr hF55 (by decide)).fr hF102 (by decide)).fr hF146 (by decide)).fr hF157 (by decide)).fr hF203 (by decide)).fr hF394 (by decide)) (hb38) xnm0 (by omega) (fun u448 hu449 he450 => ?_)
      have hl451 : u448 = u45 := by omega
      refine xg_t (xg_const) ?_
      refine xg_t (xg_iadd (u := u448) (v := 1) (z := u448 + 1) xnm0 xnm0 (by omega)) ?_
      refine xg_iastK (n := 6) (u := u448 + 1) ((((((h85_37.fr hF55 (by decide)).fr hF102 (by decide)).fr hF146 (by decide)).fr hF157 (by decide)).fr hF203 (by decide)).fr hF394 (by decide)) xnm0 xnm0 rfl (by omega) (fun w452 hr453 hb454 => ?_)
      refine xg_t (xg_aload (va := (2, 82)) rfl rfl) ?_
      refine xg_t (xg_dup rfl) ?_
      refine xg_t (xg_getf (va := (0, f82_426)) (hb454.get (by decide) h82_438) rfl) ?_
      refine xg_t (xg_const) ?_
      refine xg_t (xg_iadd (u := f82_426) (v := 1) (z := f82_426 + 1) xnm0 xnm0 (by omega)) ?_
      refine xg_putI (fl1 := [(2, 83), (2, 84), (0, f82_408), (0, f82_410), (0, f82_412), (0, f82_414), (0, f82_416), (0, f82_418), (0, f82_420), (0, f82_422), (0, f82_424), (2, 85), (2, 86), (2, 87), (0, f82_426 + 1), (2, 88), (2, 89), (2, 90), (2, 91), (2, 92), (2, 93), (2, 94), (4, f82_428), (4, f82_429), (0, f82_430), (2, 95), (2, 96), (2, 97), (2, 98), (2, 99), (2, 100), (2, 101), (2, 102), (0, f82_432), (2, 103), (2, 104), (2, 105), (2, 106), (2, 107), (2, 108), (2, 109), (0, f82_434), (0, f82_436), (2, 110), (2, 111), (2, 112), (2, 113)]) (hb454.get (by decide) h82_438) rfl rfl rfl (fun w455 hk456 hb457 => ?_)
      have hF458 : xFr [82, 85] w391 w455 := ((xFr.of (S := [82, 85]) hb454 (by decide)).tr (xFr.of (S := [82, 85]) hb457 (by decide)))
      have hA459 := FA_fr hF458 (by decide)
      have hf460 : fld w455 82 4 = f82_412 := fld_of hk456
      have hf461 : fld w455 82 5 = f82_414 := fld_of hk456
      have hf462 : fld w455 82 7 = f82_418 := fld_of hk456
      have hf463 : fld w455 82 10 = f82_424 := fld_of hk456
      have hf464 : fld w455 82 14 = f82_426 + 1 := fld_of hk456
      have hu465 : mu w455 = 2 * (fld w455 82 4 - fld w455 82 5) + min 1 (fld w455 82 7) := rfl
      have pq466 := pk401
      unfold PK PS at pq466
      have hM467 : ∀ s, s < 7 → s ≠ 6 → rwv w455 85 s = rwv w 85 s := fun s hs hn => (rwv_of (hr453.but hb457 (by decide)) hs).trans ((if_neg hn).trans (rwv_of h85_37 hs).symm)
      have hM468 : rwv w455 85 6 = u45 + 1 := (rwv_of (hr453.but hb457 (by decide)) (by decide)).trans ((if_pos rfl).trans (by omega))
      have hM469 : ∀ s, s < 7 → rwv w455 85 s ≤ rwv w 85 s + 1 := fun s hs => by
        by_cases z : s = 6
        · subst z; omega
        · rw [hM467 s hs z]; omega
      have hO470 : ∀ j, (j < 5 ∨ 7 ≤ j) → j < 140 → rwv w455 86 j = rwv w 86 j := fun j hj hl => (rwv_fr hF458 (by decide)).trans (os402 j hj hl)
      have hl472 : u45 < 1 → rwv w455 86 (5) = n103 := fun h => (rwv_fr hF458 (by decide)).trans (ix403 h)
      have hl473 : u45 < 1 → rwv w455 86 (6) = n158 := fun h => (rwv_fr hF458 (by decide)).trans (ix404 h)
      have hl474 : FA w391 ≠ 0 ∨ (1 ≤ n103 ∧ n103 ≤ 6) := rg405
      have hl475 : FA w391 ≠ 0 ∨ (1 ≤ n158 ∧ n158 ≤ 6) := rg406
      have hN471 : FA w455 ≠ 0 ∨ 1 ≤ u45 ∨ (1 ≤ rwv w455 86 5 ∧ rwv w455 86 5 ≤ 6 ∧ 1 ≤ rwv w455 86 6 ∧ rwv w455 86 6 ≤ 6) := by omega
      have hX476 : FA w455 ≠ 0 ∨ u45 < 1 := by omega
      have hD477 : FA w455 ≠ 0 ∨ (DATA w → DATA w455) := by
        by_cases z : FA w455 ≠ 0
        · exact Or.inl z
        · exact Or.inr (fun hd => hd.s6 hM467 hK48 hM468 (hX476.resolve_left z) hO470 ((hN471.resolve_left z).resolve_left (by have := hX476.resolve_left z; omega)))
      exact xg_e ⟨w455, ⟨rfl, rfl⟩, xMnv.up (S := [85, 82]) hI393 ((xFr.of (S := [85, 82]) hb454 (by decide)).tr (xFr.of (S := [85, 82]) hb457 (by decide))) (List.forall_mem_cons.mpr ⟨(show cpI 7 52 4294967295 (wget w455 85) from ⟨_, (hr453.but hb457 (by decide)), xrb (by omega) (hb38)⟩), List.forall_mem_cons.mpr ⟨(show cp82 (wget w455 82) from ⟨f82_408, f82_410, f82_412, f82_414, f82_416, f82_418, f82_420, f82_422, f82_424, f82_426 + 1, f82_428, f82_429, f82_430, f82_432, f82_434, f82_436, hk456, hb409, hb411, hb413, hb415, hb417, hb419, hb421, hb423, hb425, by omega, hb431, hb433, hb435, hb437, by omega⟩), fun _ h => absurd h List.not_mem_nil⟩⟩), (((((((hF55.up (by decide)).tr (hF102.up (by decide))).tr (hF146.up (by decide))).tr (hF157.up (by decide))).tr (hF203.up (by decide))).tr (hF394.up (by decide))).tr ((xFr.of (S := [82, 83, 85, 86, 87]) hb454 (by decide)).tr (xFr.of (S := [82, 83, 85, 86, 87]) hb457 (by decide)))), ⟨fun h => by have := pq466.1 h; omega, (show fld w455 82 10 = 0 ∨ FA w455 ≠ 0 by omega), Or.inr ⟨by have := ms407; omega, by omega, hM469⟩, hD477⟩⟩
  · refine xg_t (xg_icF (u := u45) (v := 1) rfl xnm0 xnm0 (xj_ltF (by omega) (by omega))) ?_
    refine xg_t (xg_aload (va := (2, 82)) rfl rfl) ?_
    refine xg_t (xg_const) ?_
    refine xg_t (xg_iload (va := (0, at_)) rfl rfl) ?_
    refine xg_cVv mX12_also (vs := [(0, 3), (0, at_)]) (rest := []) (cn1 := 0) (sl1 := 0) rfl (mAlso (hI) (by omega) (by omega) (by omega) (PK.rf hps).2.2.2) rfl h82_31 rfl rfl rfl rfl rfl rfl (fun w478 hq479 => ?_)
    obtain ⟨hI480, hF481, hx482⟩ := hq479
    have pk483 : PK w w478 := ⟨fun _ => hx482, Nat.le_of_eq (mu_fr hF481 (by decide)), fld_fr hF481 (by decide), Or.inr hx482⟩
    have pk484 : PK w w478 := PK.tr (PK.rf hps) pk483
    have os485 : ∀ j, (j < 5 ∨ 7 ≤ j) → j < 140 → rwv w478 86 j = rwv w 86 j := fun j hj hl => (rwv_fr hF481 (by decide)).trans ((fun j _ _ => rfl) j hj hl)
    have hf486 := fld_fr (c := 82) (j := 7) hF481 (by decide)
    refine xg_t (xg_blk (b := [(64, 1, 0, 0, 0, 0), (65, 3, 13, 110, 96, 190), (68, 1, 2, 1, 0, 0), (69, 39, 33, 362, 0, 9)]) rfl) ?_
    refine xg_t (xg_aload (va := (2, 82)) rfl rfl) ?_
    refine xg_cVv mX12_advance (vs := []) (rest := []) (cn1 := 0) (sl1 := 0) rfl (mAdvance (hI480)) rfl (hF481.get (by decide) h82_31) rfl rfl rfl rfl rfl rfl (fun w487 hq488 => ?_)
    obtain ⟨hI489, hF490, hx491⟩ := hq488
    clear hb2 hb4 hb6 hb8 hb10 hb12 hb14 hb16 hb18 hb20 hb24 hb26 hb28 hb30
    obtain ⟨hv492, hv493, hv494, hv495⟩ := hx491
    have hf497 := FA_fr hF490 (by decide)
    have hs498 := pk484.2.2.2
    unfold PS at hs498
    have pk496 : PK w478 w487 := ⟨fun _ => by omega, hv492, hv495, (show fld w487 82 10 = 0 ∨ FA w487 ≠ 0 by omega)⟩
    clear hs498
    have pk499 : PK w w487 := PK.tr pk484 pk496
    have os500 : ∀ j, (j < 5 ∨ 7 ≤ j) → j < 140 → rwv w487 86 j = rwv w 86 j := fun j hj hl => (rwv_fr hF490 (by decide)).trans (os485 j hj hl)
    have rg501 : FA w487 ≠ 0 ∨ 0 = 1 := (Or.inl hx482 : FA w478 ≠ 0 ∨ 0 = 1).imp_left pk496.1
    have ms502 : mu w487 < mu w := Nat.lt_of_lt_of_le (hv493 (by omega)) pk484.2.1
    clear hv493
    refine xg_t (xg_iload (va := (0, 6)) rfl rfl) ?_
    refine xg_t (xg_swt (ks := [(0, 108), (1, 116), (2, 180), (3, 221), (4, 273), (5, 326)]) (u := 6) (z := 362) rfl rfl rfl xnm0 (xsw_n (by omega) (xsw_n (by omega) (xsw_n (by omega) (xsw_n (by omega) (xsw_n (by omega) (xsw_n (by omega) (xsw_d)))))))) ?_
    refine xg_t (xg_blk (b := [(362, 1, 3, 0, 0, 0), (363, 2, 15, 4, 0, 0)]) rfl) ?_
    refine xg_t (xg_const) ?_
    refine xg_t (xg_istore (l1 := [(3, (0, u45)), (2, (0, at_)), (1, (0, 6)), (0, (2, 82))]) rfl rfl rfl) ?_
    refine xg_t (xg_blk (b := [(365, 2, 2, 4, 0, 0), (367, 1, 3, 2, 0, 0), (368, 3, 6, 394, 3, 0), (371, 1, 0, 0, 0, 0), (372, 1, 2, 1, 0, 0), (373, 1, 2, 3, 0, 0), (374, 1, 3, 5, 0, 0), (375, 2, 2, 4, 0, 0), (377, 1, 11, 0, 0, 0), (378, 1, 0, 0, 0, 0), (379, 1, 3, 1, 0, 0), (380, 2, 4, 6, 0, 0), (382, 3, 13, 199, 96, 196), (385, 3, 13, 211, 96, 200), (388, 3, 9, 4, 1, 0), (391, 3, 8, 365, 0, 0)]) rfl) ?_
    refine xg_t (xg_iload (va := (0, 0)) rfl rfl) ?_
    refine xg_t (xg_const) ?_
    refine xg_t (xg_icF (u := 0) (v := 2) rfl xnm0 xnm0 (by decide)) ?_
    refine xg_t (xg_aload (va := (2, 82)) rfl rfl) ?_
    refine xg_t (xg_iload (va := (0, 6)) rfl rfl) ?_
    refine xg_t (xg_iload (va := (0, u45)) rfl rfl) ?_
    refine xg_t (xg_const) ?_
    refine xg_t (xg_iload (va := (0, 0)) rfl rfl) ?_
    refine xg_t (xg_iadd (u := 5) (v := 0) (z := 5) xnm0 xnm0 (by decide)) ?_
    refine xg_t (xg_aload (va := (2, 82)) rfl rfl) ?_
    refine xg_t (xg_const) ?_
    refine xg_t (xg_bip) ?_
    obtain ⟨f82_503, f82_505, f82_507, f82_509, f82_511, f82_513, f82_515, f82_517, f82_519, f82_521, f82_523, f82_524, f82_525, f82_527, f82_529, f82_531, h82_533, hb504, hb506, hb508, hb510, hb512, hb514, hb516, hb518, hb520, hb522, hb526, hb528, hb530, hb532, hb534⟩ := (hI489 82 (by decide) (by decide) : cp82 (wget w487 82))
    refine xg_cVi mX12_numbered (vs := [(0, 1), (0, 6)]) (rest := [(0, 5), (0, u45), (0, 6), (2, 82)]) (cn1 := 0) (sl1 := 0) rfl (mNumbered (hI489) (by omega) (by omega) pk499.2.2.2) rfl h82_533 rfl rfl rfl rfl rfl rfl (fun n539 w535 hq536 => ?_)
    obtain ⟨hn540, hI537, hF538⟩ := hq536
    clear hb504 hb506 hb508 hb510 hb512 hb514 hb516 hb518 hb520 hb522 hb526 hb528 hb530 hb532
    obtain ⟨hn541, hn542, hn543⟩ := hn540
    have pk544 : PK w w535 := PK.tr pk499 hn542
    have os545 : ∀ j, (j < 5 ∨ 7 ≤ j) → j < 140 → rwv w535 86 j = rwv w 86 j := fun j hj hl => (rwv_fr hF538 (by decide)).trans (os500 j hj hl)
    have rg546 : FA w535 ≠ 0 ∨ 0 = 1 := rg501.imp_left hn542.1
    have ms547 : mu w535 < mu w := Nat.lt_of_le_of_lt hn542.2.1 ms502
    clear rg501
    obtain ⟨f82_548, f82_550, f82_552, f82_554, f82_556, f82_558, f82_560, f82_562, f82_564, f82_566, f82_568, f82_569, f82_570, f82_572, f82_574, f82_576, h82_578, hb549, hb551, hb553, hb555, hb557, hb559, hb561, hb563, hb565, hb567, hb571, hb573, hb575, hb577, hb579⟩ := (hI537 82 (by decide) (by decide) : cp82 (wget w535 82))
    refine xg_cVv mX12_puts (vs := [(0, 6), (0, u45), (0, 5), (0, n539)]) (rest := []) (cn1 := 0) (sl1 := 0) rfl (mPuts6 (hI537) (by omega) (by omega) (by omega) (fun _ => by omega)) rfl h82_578 rfl rfl rfl rfl rfl rfl (fun w580 hq581 => ?_)
    obtain ⟨hI582, hF583, hx584⟩ := hq581
    obtain ⟨hp585, hp586⟩ := hx584
    have pk587 : PK w w580 := PK.tr pk544 (PK.fr hF583 (by decide) (by decide) pk544.2.2.2)
    have os588 : ∀ j, (j < 5 ∨ 7 ≤ j) → j < 140 → rwv w580 86 j = rwv w 86 j := fun j hj hl => (hp586 j (by omega) hl).trans (os545 j hj hl)
    have rg589 : FA w580 ≠ 0 ∨ 0 = 1 := rg546.imp_left (PK.fr hF583 (by decide) (by decide) pk544.2.2.2).1
    have rg590 : FA w580 ≠ 0 ∨ (1 ≤ n539 ∧ n539 ≤ 6) := hn543.imp_left (PK.fr hF583 (by decide) (by decide) pk544.2.2.2).1
    have ms591 : mu w580 < mu w := Nat.lt_of_le_of_lt (PK.fr hF583 (by decide) (by decide) pk544.2.2.2).2.1 ms547
    clear rg546 hn543
    refine xg_t (xg_iinc (u := 0) (z := 1) (l1 := [(3, (0, u45)), (2, (0, at_)), (1, (0, 6)), (0, (2, 82))]) rfl rfl (by decide) rfl) ?_
    refine xg_t (xg_goto) ?_
    refine xg_t (xg_blk (b := [(365, 2, 2, 4, 0, 0), (367, 1, 3, 2, 0, 0), (368, 3, 6, 394, 3, 0), (371, 1, 0, 0, 0, 0), (372, 1, 2, 1, 0, 0), (373, 1, 2, 3, 0, 0), (374, 1, 3, 5, 0, 0), (375, 2, 2, 4, 0, 0), (377, 1, 11, 0, 0, 0), (378, 1, 0, 0, 0, 0), (379, 1, 3, 1, 0, 0), (380, 2, 4, 6, 0, 0), (382, 3, 13, 199, 96, 196), (385, 3, 13, 211, 96, 200), (388, 3, 9, 4, 1, 0), (391, 3, 8, 365, 0, 0)]) rfl) ?_
    refine xg_t (xg_iload (va := (0, 1)) rfl rfl) ?_
    refine xg_t (xg_const) ?_
    refine xg_t (xg_icF (u := 1) (v := 2) rfl xnm0 xnm0 (by decide)) ?_
    refine xg_t (xg_aload (va := (2, 82)) rfl rfl) ?_
    refine xg_t (xg_iload (va := (0, 6)) rfl rfl) ?_
    refine xg_t (xg_iload (va := (0, u45)) rfl rfl) ?_
    refine xg_t (xg_const) ?_
    refine xg_t (xg_iload (va := (0, 1)) rfl rfl) ?_
    refine xg_t (xg_iadd (u := 5) (v := 1) (z := 6) xnm0 xnm0 (by decide)) ?_
    refine xg_t (xg_aload (va := (2, 82)) rfl rfl) ?_
    refine xg_t (xg_const) ?_
    refine xg_t (xg_bip) ?_
    refine xg_cVi mX12_numbered (vs := [(0, 1), (0, 6)]) (rest := [(0, 6), (0, u45), (0, 6), (2, 82)]) (cn1 := 0) (sl1 := 0) rfl (mNumbered (hI582) (by omega) (by omega) pk587.2.2.2) rfl (hF583.get (by decide) h82_578) rfl rfl rfl rfl rfl rfl (fun n596 w592 hq593 => ?_)
    obtain ⟨hn597, hI594, hF595⟩ := hq593
    clear hb549 hb551 hb553 hb555 hb557 hb559 hb561 hb563 hb565 hb567 hb571 hb573 hb575 hb577
    obtain ⟨hn598, hn599, hn600⟩ := hn597
    have pk601 : PK w w592 := PK.tr pk587 hn599
    have os602 : ∀ j, (j < 5 ∨ 7 ≤ j) → j < 140 → rwv w592 86 j = rwv w 86 j := fun j hj hl => (rwv_fr hF595 (by decide)).trans (os588 j hj hl)
    have ix603 : u45 < 1 → rwv w592 86 (5) = n539 := fun h => (rwv_fr hF595 (by decide)).trans (hp585 h)
    have rg604 : FA w592 ≠ 0 ∨ 0 = 1 := rg589.imp_left hn599.1
    have rg605 : FA w592 ≠ 0 ∨ (1 ≤ n539 ∧ n539 ≤ 6) := rg590.imp_left hn599.1
    have ms606 : mu w592 < mu w := Nat.lt_of_le_of_lt hn599.2.1 ms591
    clear hp585 rg589 rg590
    obtain ⟨f82_607, f82_609, f82_611, f82_613, f82_615, f82_617, f82_619, f82_621, f82_623, f82_625, f82_627, f82_628, f82_629, f82_631, f82_633, f82_635, h82_637, hb608, hb610, hb612, hb614, hb616, hb618, hb620, hb622, hb624, hb626, hb630, hb632, hb634, hb636, hb638⟩ := (hI594 82 (by decide) (by decide) : cp82 (wget w592 82))
    refine xg_cVv mX12_puts (vs := [(0, 6), (0, u45), (0, 6), (0, n596)]) (rest := []) (cn1 := 0) (sl1 := 0) rfl (mPuts6 (hI594) (by omega) (by omega) (by omega) (fun _ => by omega)) rfl h82_637 rfl rfl rfl rfl rfl rfl (fun w639 hq640 => ?_)
    obtain ⟨hI641, hF642, hx643⟩ := hq640
    obtain ⟨hp644, hp645⟩ := hx643
    have pk646 : PK w w639 := PK.tr pk601 (PK.fr hF642 (by decide) (by decide) pk601.2.2.2)
    have os647 : ∀ j, (j < 5 ∨ 7 ≤ j) → j < 140 → rwv w639 86 j = rwv w 86 j := fun j hj hl => (hp645 j (by omega) hl).trans (os602 j hj hl)
    have ix648 : u45 < 1 → rwv w639 86 (5) = n539 := fun h => (hp645 _ (by omega) (by omega)).trans (ix603 h)
    have rg649 : FA w639 ≠ 0 ∨ 0 = 1 := rg604.imp_left (PK.fr hF642 (by decide) (by decide) pk601.2.2.2).1
    have rg650 : FA w639 ≠ 0 ∨ (1 ≤ n539 ∧ n539 ≤ 6) := rg605.imp_left (PK.fr hF642 (by decide) (by decide) pk601.2.2.2).1
    have rg651 : FA w639 ≠ 0 ∨ (1 ≤ n596 ∧ n596 ≤ 6) := hn600.imp_left (PK.fr hF642 (by decide) (by decide) pk601.2.2.2).1
    have ms652 : mu w639 < mu w := Nat.lt_of_le_of_lt (PK.fr hF642 (by decide) (by decide) pk601.2.2.2).2.1 ms606
    clear ix603 rg604 rg605 hn600
    refine xg_t (xg_iinc (u := 1) (z := 2) (l1 := [(3, (0, u45)), (2, (0, at_)), (1, (0, 6)), (0, (2, 82))]) rfl rfl (by decide) rfl) ?_
    refine xg_t (xg_goto) ?_
    refine xg_t (xg_blk (b := [(365, 2, 2, 4, 0, 0), (367, 1, 3, 2, 0, 0), (368, 3, 6, 394, 3, 0), (371, 1, 0, 0, 0, 0), (372, 1, 2, 1, 0, 0), (373, 1, 2, 3, 0, 0), (374, 1, 3, 5, 0, 0), (375, 2, 2, 4, 0, 0), (377, 1, 11, 0, 0, 0), (378, 1, 0, 0, 0, 0), (379, 1, 3, 1, 0, 0), (380, 2, 4, 6, 0, 0), (382, 3, 13, 199, 96, 196), (385, 3, 13, 211, 96, 200), (388, 3, 9, 4, 1, 0), (391, 3, 8, 365, 0, 0)]) rfl) ?_
    refine xg_t (xg_iload (va := (0, 2)) rfl rfl) ?_
    refine xg_t (xg_const) ?_
    refine xg_t (xg_icT (u := 2) (v := 2) rfl xnm0 xnm0 (by decide)) ?_
    refine xg_t (xg_blk (b := [(394, 1, 0, 0, 0, 0), (395, 3, 1, 12, 10, 180), (398, 3, 7, 416, 1, 0), (401, 1, 0, 0, 0, 0), (402, 3, 1, 12, 7, 151), (405, 1, 3, 2, 0, 0), (406, 3, 6, 416, 1, 0), (409, 1, 0, 0, 0, 0), (410, 3, 13, 110, 96, 190), (413, 3, 8, 420, 0, 0)]) rfl) ?_
    refine xg_t (xg_aload (va := (2, 82)) rfl rfl) ?_
    refine xg_t (xg_getf (va := (0, f82_623)) (hF642.get (by decide) h82_637) rfl) ?_
    by_cases hc653 : f82_623 = 0
    · refine xg_t (xg_ifF (u := f82_623) rfl xnm0 (xj_neF hc653)) ?_
      refine xg_t (xg_aload (va := (2, 82)) rfl rfl) ?_
      refine xg_t (xg_getf (va := (0, f82_617)) (hF642.get (by decide) h82_637) rfl) ?_
      refine xg_t (xg_const) ?_
      by_cases hc654 : f82_617 = 2
      · refine xg_t (xg_icF (u := f82_617) (v := 2) rfl xnm0 xnm0 (xj_neF hc654)) ?_
        refine xg_t (xg_aload (va := (2, 82)) rfl rfl) ?_
        refine xg_cVv mX12_advance (vs := []) (rest := []) (cn1 := 0) (sl1 := 0) rfl (mAdvance (hI641)) rfl (hF642.get (by decide) h82_637) rfl rfl rfl rfl rfl rfl (fun w655 hq656 => ?_)
        obtain ⟨hI657, hF658, hx659⟩ := hq656
        clear hb608 hb610 hb612 hb614 hb616 hb618 hb620 hb622 hb624 hb626 hb630 hb632 hb634 hb636
        obtain ⟨hv660, hv661, hv662, hv663⟩ := hx659
        have hf665 := FA_fr hF658 (by decide)
        have hs666 := pk646.2.2.2
        unfold PS at hs666
        have pk664 : PK w639 w655 := ⟨fun _ => by omega, hv660, hv663, (show fld w655 82 10 = 0 ∨ FA w655 ≠ 0 by omega)⟩
        clear hs666
        clear hv661
        have pk667 : PK w w655 := PK.tr pk646 pk664
        have os668 : ∀ j, (j < 5 ∨ 7 ≤ j) → j < 140 → rwv w655 86 j = rwv w 86 j := fun j hj hl => (rwv_fr hF658 (by decide)).trans (os647 j hj hl)
        have ix669 : u45 < 1 → rwv w655 86 (5) = n539 := fun h => (rwv_fr hF658 (by decide)).trans (ix648 h)
        have ix670 : u45 < 1 → rwv w655 86 (6) = n596 := fun h => (rwv_fr hF658 (by decide)).trans (hp644 h)
        have rg671 : FA w655 ≠ 0 ∨ 0 = 1 := rg649.imp_left pk664.1
        have rg672 : FA w655 ≠ 0 ∨ (1 ≤ n539 ∧ n539 ≤ 6) := rg650.imp_left pk664.1
        have rg673 : FA w655 ≠ 0 ∨ (1 ≤ n596 ∧ n596 ≤ 6) := rg651.imp_left pk664.1
        have ms674 : mu w655 < mu w := Nat.lt_of_le_of_lt pk664.2.1 ms652
        clear ix648 hp644 rg649 rg650 rg651
        refine xg_t (xg_goto) ?_
        refine xg_t (xg_blk (b := [(420, 1, 0, 0, 0, 0), (421, 3, 1, 12, 11, 17), (424, 1, 2, 1, 0, 0), (425, 1, 39, 0, 0, 0), (426, 1, 10, 0, 0, 0), (427, 1, 3, 1, 0, 0), (428, 1, 11, 0, 0, 0), (429, 1, 17, 0, 0, 0), (430, 1, 0, 0, 0, 0), (431, 1, 19, 0, 0, 0), (432, 3, 1, 12, 14, 212), (435, 1, 3, 1, 0, 0), (436, 1, 11, 0, 0, 0), (437, 3, 14, 12, 14, 212), (440, 1, 12, 0, 0, 0)]) rfl) ?_
        obtain ⟨f82_675, f82_677, f82_679, f82_681, f82_683, f82_685, f82_687, f82_689, f82_691, f82_693, f82_695, f82_696, f82_697, f82_699, f82_701, f82_703, h82_705, hb676, hb678, hb680, hb682, hb684, hb686, hb688, hb690, hb692, hb694, hb698, hb700, hb702, hb704, hb706⟩ := (hI657 82 (by decide) (by decide) : cp82 (wget w655 82))
        have hf707 : fld w655 82 4 = f82_679 := fld_of h82_705
        have hf708 : fld w655 82 5 = f82_681 := fld_of h82_705
        have hf709 : fld w655 82 7 = f82_685 := fld_of h82_705
        have hf710 : fld w655 82 10 = f82_691 := fld_of h82_705
        have hf711 : fld w655 82 14 = f82_693 := fld_of h82_705
        have hu712 : mu w655 = 2 * (fld w655 82 4 - fld w655 82 5) + min 1 (fld w655 82 7) := rfl
        have hf713 := pk667.2.2.1
        have hl714 : f82_693 ≤ 1000 := by omega
        refine xg_t (xg_aload (va := (2, 82)) rfl rfl) ?_
        refine xg_t (xg_getf (va := (2, 85)) h82_705 rfl) ?_
        refine xg_t (xg_iload (va := (0, 6)) rfl rfl) ?_
        refine xg_t (xg_dup2 rfl) ?_
        refine xg_ialdB (n := 6) (B := 4294967295) (((((((h85_37.fr hF481 (by decide)).fr hF490 (by decide)).fr hF538 (by decide)).fr hF583 (by decide)).fr hF595 (by decide)).fr hF642 (by decide)).fr hF658 (by decide)) (hb38) xnm0 (by omega) (fun u715 hu716 he717 => ?_)
        have hl718 : u715 = u45 := by omega
        refine xg_t (xg_const) ?_
        refine xg_t (xg_iadd (u := u715) (v := 1) (z := u715 + 1) xnm0 xnm0 (by omega)) ?_
        refine xg_iastK (n := 6) (u := u715 + 1) (((((((h85_37.fr hF481 (by decide)).fr hF490 (by decide)).fr hF538 (by decide)).fr hF583 (by decide)).fr hF595 (by decide)).fr hF642 (by decide)).fr hF658 (by decide)) xnm0 xnm0 rfl (by omega) (fun w719 hr720 hb721 => ?_)
        refine xg_t (xg_aload (va := (2, 82)) rfl rfl) ?_
        refine xg_t (xg_dup rfl) ?_
        refine xg_t (xg_getf (va := (0, f82_693)) (hb721.get (by decide) h82_705) rfl) ?_
        refine xg_t (xg_const) ?_
        refine xg_t (xg_iadd (u := f82_693) (v := 1) (z := f82_693 + 1) xnm0 xnm0 (by omega)) ?_
        refine xg_putI (fl1 := [(2, 83), (2, 84), (0, f82_675), (0, f82_677), (0, f82_679), (0, f82_681), (0, f82_683), (0, f82_685), (0, f82_687), (0, f82_689), (0, f82_691), (2, 85), (2, 86), (2, 87), (0, f82_693 + 1), (2, 88), (2, 89), (2, 90), (2, 91), (2, 92), (2, 93), (2, 94), (4, f82_695), (4, f82_696), (0, f82_697), (2, 95), (2, 96), (2, 97), (2, 98), (2, 99), (2, 100), (2, 101), (2, 102), (0, f82_699), (2, 103), (2, 104), (2, 105), (2, 106), (2, 107), (2, 108), (2, 109), (0, f82_701), (0, f82_703), (2, 110), (2, 111), (2, 112), (2, 113)]) (hb721.get (by decide) h82_705) rfl rfl rfl (fun w722 hk723 hb724 => ?_)
        have hF725 : xFr [82, 85] w655 w722 := ((xFr.of (S := [82, 85]) hb721 (by decide)).tr (xFr.of (S := [82, 85]) hb724 (by decide)))
        have hA726 := FA_fr hF725 (by decide)
        have hf727 : fld w722 82 4 = f82_679 := fld_of hk723
        have hf728 : fld w722 82 5 = f82_681 := fld_of hk723
        have hf729 : fld w722 82 7 = f82_685 := fld_of hk723
        have hf730 : fld w722 82 10 = f82_691 := fld_of hk723
        have hf731 : fld w722 82 14 = f82_693 + 1 := fld_of hk723
        have hu732 : mu w722 = 2 * (fld w722 82 4 - fld w722 82 5) + min 1 (fld w722 82 7) := rfl
        have pq733 := pk667
        unfold PK PS at pq733
        have hM734 : ∀ s, s < 7 → s ≠ 6 → rwv w722 85 s = rwv w 85 s := fun s hs hn => (rwv_of (hr720.but hb724 (by decide)) hs).trans ((if_neg hn).trans (rwv_of h85_37 hs).symm)
        have hM735 : rwv w722 85 6 = u45 + 1 := (rwv_of (hr720.but hb724 (by decide)) (by decide)).trans ((if_pos rfl).trans (by omega))
        have hM736 : ∀ s, s < 7 → rwv w722 85 s ≤ rwv w 85 s + 1 := fun s hs => by
          by_cases z : s = 6
          · subst z; omega
          · rw [hM734 s hs z]; omega
        have hO737 : ∀ j, (j < 5 ∨ 7 ≤ j) → j < 140 → rwv w722 86 j = rwv w 86 j := fun j hj hl => (rwv_fr hF725 (by decide)).trans (os668 j hj hl)
        have hl739 : FA w655 ≠ 0 ∨ 0 = 1 := rg671
        have hl740 : u45 < 1 → rwv w722 86 (5) = n539 := fun h => (rwv_fr hF725 (by decide)).trans (ix669 h)
        have hl741 : u45 < 1 → rwv w722 86 (6) = n596 := fun h => (rwv_fr hF725 (by decide)).trans (ix670 h)
        have hl742 : FA w655 ≠ 0 ∨ (1 ≤ n539 ∧ n539 ≤ 6) := rg672
        have hl743 : FA w655 ≠ 0 ∨ (1 ≤ n596 ∧ n596 ≤ 6) := rg673
        have hN738 : FA w722 ≠ 0 ∨ 1 ≤ u45 ∨ (1 ≤ rwv w722 86 5 ∧ rwv w722 86 5 ≤ 6 ∧ 1 ≤ rwv w722 86 6 ∧ rwv w722 86 6 ≤ 6) := by omega
        have hX744 : FA w722 ≠ 0 ∨ u45 < 1 := by omega
        have hD745 : FA w722 ≠ 0 ∨ (DATA w → DATA w722) := by
          by_cases z : FA w722 ≠ 0
          · exact Or.inl z
          · exact Or.inr (fun hd => hd.s6 hM734 hK48 hM735 (hX744.resolve_left z) hO737 ((hN738.resolve_left z).resolve_left (by have := hX744.resolve_left z; omega)))
        exact xg_e ⟨w722, ⟨rfl, rfl⟩, xMnv.up (S := [85, 82]) hI657 ((xFr.of (S := [85, 82]) hb721 (by decide)).tr (xFr.of (S := [85, 82]) hb724 (by decide))) (List.forall_mem_cons.mpr ⟨(show cpI 7 52 4294967295 (wget w722 85) from ⟨_, (hr720.but hb724 (by decide)), xrb (by omega) (hb38)⟩), List.forall_mem_cons.mpr ⟨(show cp82 (wget w722 82) from ⟨f82_675, f82_677, f82_679, f82_681, f82_683, f82_685, f82_687, f82_689, f82_691, f82_693 + 1, f82_695, f82_696, f82_697, f82_699, f82_701, f82_703, hk723, hb676, hb678, hb680, hb682, hb684, hb686, hb688, hb690, hb692, by omega, hb698, hb700, hb702, hb704, by omega⟩), fun _ h => absurd h List.not_mem_nil⟩⟩), ((((((((hF481.up (by decide)).tr (hF490.up (by decide))).tr (hF538.up (by decide))).tr (hF583.up (by decide))).tr (hF595.up (by decide))).tr (hF642.up (by decide))).tr (hF658.up (by decide))).tr ((xFr.of (S := [82, 83, 85, 86, 87]) hb721 (by decide)).tr (xFr.of (S := [82, 83, 85, 86, 87]) hb724 (by decide)))), ⟨fun h => by have := pq733.1 h; omega, (show fld w722 82 10 = 0 ∨ FA w722 ≠ 0 by omega), Or.inr ⟨by have := ms674; omega, by omega, hM736⟩, hD745⟩⟩
      · refine xg_t (xg_icT (u := f82_617) (v := 2) rfl xnm0 xnm0 (xj_neT hc654)) ?_
        refine xg_t (xg_blk (b := [(416, 1, 0, 0, 0, 0), (417, 3, 13, 140, 96, 183)]) rfl) ?_
        refine xg_t (xg_aload (va := (2, 82)) rfl rfl) ?_
        refine xg_cVv mX12_ends (vs := []) (rest := []) (cn1 := 0) (sl1 := 0) rfl (mEnds (hI641) pk646.2.2.2) rfl (hF642.get (by decide) h82_637) rfl rfl rfl rfl rfl rfl (fun w746 hq747 => ?_)
        obtain ⟨hI748, hF749, hx750⟩ := hq747
        clear hb608 hb610 hb612 hb614 hb616 hb618 hb620 hb622 hb624 hb626 hb630 hb632 hb634 hb636
        obtain ⟨hv751, hv752, hv753, hv754⟩ := hx750
        have pk755 : PK w639 w746 := ⟨fun _ => hv751, by omega, by omega, Or.inr hv751⟩
        have pk756 : PK w w746 := PK.tr pk646 pk755
        have os757 : ∀ j, (j < 5 ∨ 7 ≤ j) → j < 140 → rwv w746 86 j = rwv w 86 j := fun j hj hl => (rwv_fr hF749 (by decide)).trans (os647 j hj hl)
        have ix758 : u45 < 1 → rwv w746 86 (5) = n539 := fun h => (rwv_fr hF749 (by decide)).trans (ix648 h)
        have ix759 : u45 < 1 → rwv w746 86 (6) = n596 := fun h => (rwv_fr hF749 (by decide)).trans (hp644 h)
        have rg760 : FA w746 ≠ 0 ∨ 0 = 1 := rg649.imp_left pk755.1
        have rg761 : FA w746 ≠ 0 ∨ (1 ≤ n539 ∧ n539 ≤ 6) := rg650.imp_left pk755.1
        have rg762 : FA w746 ≠ 0 ∨ (1 ≤ n596 ∧ n596 ≤ 6) := rg651.imp_left pk755.1
        have ms763 : mu w746 < mu w := Nat.lt_of_le_of_lt pk755.2.1 ms652
        clear ix648 hp644 rg649 rg650 rg651
        refine xg_t (xg_blk (b := [(420, 1, 0, 0, 0, 0), (421, 3, 1, 12, 11, 17), (424, 1, 2, 1, 0, 0), (425, 1, 39, 0, 0, 0), (426, 1, 10, 0, 0, 0), (427, 1, 3, 1, 0, 0), (428, 1, 11, 0, 0, 0), (429, 1, 17, 0, 0, 0), (430, 1, 0, 0, 0, 0), (431, 1, 19, 0, 0, 0), (432, 3, 1, 12, 14, 212), (435, 1, 3, 1, 0, 0), (436, 1, 11, 0, 0, 0), (437, 3, 14, 12, 14, 212), (440, 1, 12, 0, 0, 0)]) rfl) ?_
        obtain ⟨f82_764, f82_766, f82_768, f82_770, f82_772, f82_774, f82_776, f82_778, f82_780, f82_782, f82_784, f82_785, f82_786, f82_788, f82_790, f82_792, h82_794, hb765, hb767, hb769, hb771, hb773, hb775, hb777, hb779, hb781, hb783, hb787, hb789, hb791, hb793, hb795⟩ := (hI748 82 (by decide) (by decide) : cp82 (wget w746 82))
        have hf796 : fld w746 82 4 = f82_768 := fld_of h82_794
        have hf797 : fld w746 82 5 = f82_770 := fld_of h82_794
        have hf798 : fld w746 82 7 = f82_774 := fld_of h82_794
        have hf799 : fld w746 82 10 = f82_780 := fld_of h82_794
        have hf800 : fld w746 82 14 = f82_782 := fld_of h82_794
        have hu801 : mu w746 = 2 * (fld w746 82 4 - fld w746 82 5) + min 1 (fld w746 82 7) := rfl
        have hf802 := pk756.2.2.1
        have hl803 : f82_782 ≤ 1000 := by omega
        refine xg_t (xg_aload (va := (2, 82)) rfl rfl) ?_
        refine xg_t (xg_getf (va := (2, 85)) h82_794 rfl) ?_
        refine xg_t (xg_iload (va := (0, 6)) rfl rfl) ?_
        refine xg_t (xg_dup2 rfl) ?_
        refine xg_ialdB (n := 6) (B := 4294967295) (((((((h85_37.fr hF481 (by decide)).fr hF490 (by decide)).fr hF538 (by decide)).fr hF583 (by decide)).fr hF595 (by decide)).fr hF642 (by decide)).fr hF749 (by decide)) (hb38) xnm0 (by omega) (fun u804 hu805 he806 => ?_)
        have hl807 : u804 = u45 := by omega
        refine xg_t (xg_const) ?_
        refine xg_t (xg_iadd (u := u804) (v := 1) (z := u804 + 1) xnm0 xnm0 (by omega)) ?_
        refine xg_iastK (n := 6) (u := u804 + 1) (((((((h85_37.fr hF481 (by decide)).fr hF490 (by decide)).fr hF538 (by decide)).fr hF583 (by decide)).fr hF595 (by decide)).fr hF642 (by decide)).fr hF749 (by decide)) xnm0 xnm0 rfl (by omega) (fun w808 hr809 hb810 => ?_)
        refine xg_t (xg_aload (va := (2, 82)) rfl rfl) ?_
        refine xg_t (xg_dup rfl) ?_
        refine xg_t (xg_getf (va := (0, f82_782)) (hb810.get (by decide) h82_794) rfl) ?_
        refine xg_t (xg_const) ?_
        refine xg_t (xg_iadd (u := f82_782) (v := 1) (z := f82_782 + 1) xnm0 xnm0 (by omega)) ?_
        refine xg_putI (fl1 := [(2, 83), (2, 84), (0, f82_764), (0, f82_766), (0, f82_768), (0, f82_770), (0, f82_772), (0, f82_774), (0, f82_776), (0, f82_778), (0, f82_780), (2, 85), (2, 86), (2, 87), (0, f82_782 + 1), (2, 88), (2, 89), (2, 90), (2, 91), (2, 92), (2, 93), (2, 94), (4, f82_784), (4, f82_785), (0, f82_786), (2, 95), (2, 96), (2, 97), (2, 98), (2, 99), (2, 100), (2, 101), (2, 102), (0, f82_788), (2, 103), (2, 104), (2, 105), (2, 106), (2, 107), (2, 108), (2, 109), (0, f82_790), (0, f82_792), (2, 110), (2, 111), (2, 112), (2, 113)]) (hb810.get (by decide) h82_794) rfl rfl rfl (fun w811 hk812 hb813 => ?_)
        have hF814 : xFr [82, 85] w746 w811 := ((xFr.of (S := [82, 85]) hb810 (by decide)).tr (xFr.of (S := [82, 85]) hb813 (by decide)))
        have hA815 := FA_fr hF814 (by decide)
        have hf816 : fld w811 82 4 = f82_768 := fld_of hk812
        have hf817 : fld w811 82 5 = f82_770 := fld_of hk812
        have hf818 : fld w811 82 7 = f82_774 := fld_of hk812
        have hf819 : fld w811 82 10 = f82_780 := fld_of hk812
        have hf820 : fld w811 82 14 = f82_782 + 1 := fld_of hk812
        have hu821 : mu w811 = 2 * (fld w811 82 4 - fld w811 82 5) + min 1 (fld w811 82 7) := rfl
        have pq822 := pk756
        unfold PK PS at pq822
        have hM823 : ∀ s, s < 7 → s ≠ 6 → rwv w811 85 s = rwv w 85 s := fun s hs hn => (rwv_of (hr809.but hb813 (by decide)) hs).trans ((if_neg hn).trans (rwv_of h85_37 hs).symm)
        have hM824 : rwv w811 85 6 = u45 + 1 := (rwv_of (hr809.but hb813 (by decide)) (by decide)).trans ((if_pos rfl).trans (by omega))
        have hM825 : ∀ s, s < 7 → rwv w811 85 s ≤ rwv w 85 s + 1 := fun s hs => by
          by_cases z : s = 6
          · subst z; omega
          · rw [hM823 s hs z]; omega
        have hO826 : ∀ j, (j < 5 ∨ 7 ≤ j) → j < 140 → rwv w811 86 j = rwv w 86 j := fun j hj hl => (rwv_fr hF814 (by decide)).trans (os757 j hj hl)
        have hl828 : FA w746 ≠ 0 ∨ 0 = 1 := rg760
        have hl829 : u45 < 1 → rwv w811 86 (5) = n539 := fun h => (rwv_fr hF814 (by decide)).trans (ix758 h)
        have hl830 : u45 < 1 → rwv w811 86 (6) = n596 := fun h => (rwv_fr hF814 (by decide)).trans (ix759 h)
        have hl831 : FA w746 ≠ 0 ∨ (1 ≤ n539 ∧ n539 ≤ 6) := rg761
        have hl832 : FA w746 ≠ 0 ∨ (1 ≤ n596 ∧ n596 ≤ 6) := rg762
        have hN827 : FA w811 ≠ 0 ∨ 1 ≤ u45 ∨ (1 ≤ rwv w811 86 5 ∧ rwv w811 86 5 ≤ 6 ∧ 1 ≤ rwv w811 86 6 ∧ rwv w811 86 6 ≤ 6) := by omega
        have hX833 : FA w811 ≠ 0 ∨ u45 < 1 := by omega
        have hD834 : FA w811 ≠ 0 ∨ (DATA w → DATA w811) := by
          by_cases z : FA w811 ≠ 0
          · exact Or.inl z
          · exact Or.inr (fun hd => hd.s6 hM823 hK48 hM824 (hX833.resolve_left z) hO826 ((hN827.resolve_left z).resolve_left (by have := hX833.resolve_left z; omega)))
        exact xg_e ⟨w811, ⟨rfl, rfl⟩, xMnv.up (S := [85, 82]) hI748 ((xFr.of (S := [85, 82]) hb810 (by decide)).tr (xFr.of (S := [85, 82]) hb813 (by decide))) (List.forall_mem_cons.mpr ⟨(show cpI 7 52 4294967295 (wget w811 85) from ⟨_, (hr809.but hb813 (by decide)), xrb (by omega) (hb38)⟩), List.forall_mem_cons.mpr ⟨(show cp82 (wget w811 82) from ⟨f82_764, f82_766, f82_768, f82_770, f82_772, f82_774, f82_776, f82_778, f82_780, f82_782 + 1, f82_784, f82_785, f82_786, f82_788, f82_790, f82_792, hk812, hb765, hb767, hb769, hb771, hb773, hb775, hb777, hb779, hb781, by omega, hb787, hb789, hb791, hb793, by omega⟩), fun _ h => absurd h List.not_mem_nil⟩⟩), ((((((((hF481.up (by decide)).tr (hF490.up (by decide))).tr (hF538.up (by decide))).tr (hF583.up (by decide))).tr (hF595.up (by decide))).tr (hF642.up (by decide))).tr (hF749.up (by decide))).tr ((xFr.of (S := [82, 83, 85, 86, 87]) hb810 (by decide)).tr (xFr.of (S := [82, 83, 85, 86, 87]) hb813 (by decide)))), ⟨fun h => by have := pq822.1 h; omega, (show fld w811 82 10 = 0 ∨ FA w811 ≠ 0 by omega), Or.inr ⟨by have := ms763; omega, by omega, hM825⟩, hD834⟩⟩
    · refine xg_t (xg_ifT (u := f82_623) rfl xnm0 (xj_neT hc653)) ?_
      refine xg_t (xg_blk (b := [(416, 1, 0, 0, 0, 0), (417, 3, 13, 140, 96, 183)]) rfl) ?_
      refine xg_t (xg_aload (va := (2, 82)) rfl rfl) ?_
      refine xg_cVv mX12_ends (vs := []) (rest := []) (cn1 := 0) (sl1 := 0) rfl (mEnds (hI641) pk646.2.2.2) rfl (hF642.get (by decide) h82_637) rfl rfl rfl rfl rfl rfl (fun w835 hq836 => ?_)
      obtain ⟨hI837, hF838, hx839⟩ := hq836
      clear hb608 hb610 hb612 hb614 hb616 hb618 hb620 hb622 hb624 hb626 hb630 hb632 hb634 hb636
      obtain ⟨hv840, hv841, hv842, hv843⟩ := hx839
      have pk844 : PK w639 w835 := ⟨fun _ => hv840, by omega, by omega, Or.inr hv840⟩
      have pk845 : PK w w835 := PK.tr pk646 pk844
      have os846 : ∀ j, (j < 5 ∨ 7 ≤ j) → j < 140 → rwv w835 86 j = rwv w 86 j := fun j hj hl => (rwv_fr hF838 (by decide)).trans (os647 j hj hl)
      have ix847 : u45 < 1 → rwv w835 86 (5) = n539 := fun h => (rwv_fr hF838 (by decide)).trans (ix648 h)
      have ix848 : u45 < 1 → rwv w835 86 (6) = n596 := fun h => (rwv_fr hF838 (by decide)).trans (hp644 h)
      have rg849 : FA w835 ≠ 0 ∨ 0 = 1 := rg649.imp_left pk844.1
      have rg850 : FA w835 ≠ 0 ∨ (1 ≤ n539 ∧ n539 ≤ 6) := rg650.imp_left pk844.1
      have rg851 : FA w835 ≠ 0 ∨ (1 ≤ n596 ∧ n596 ≤ 6) := rg651.imp_left pk844.1
      have ms852 : mu w835 < mu w := Nat.lt_of_le_of_lt pk844.2.1 ms652
      clear ix648 hp644 rg649 rg650 rg651
      refine xg_t (xg_blk (b := [(420, 1, 0, 0, 0, 0), (421, 3, 1, 12, 11, 17), (424, 1, 2, 1, 0, 0), (425, 1, 39, 0, 0, 0), (426, 1, 10, 0, 0, 0), (427, 1, 3, 1, 0, 0), (428, 1, 11, 0, 0, 0), (429, 1, 17, 0, 0, 0), (430, 1, 0, 0, 0, 0), (431, 1, 19, 0, 0, 0), (432, 3, 1, 12, 14, 212), (435, 1, 3, 1, 0, 0), (436, 1, 11, 0, 0, 0), (437, 3, 14, 12, 14, 212), (440, 1, 12, 0, 0, 0)]) rfl) ?_
      obtain ⟨f82_853, f82_855, f82_857, f82_859, f82_861, f82_863, f82_865, f82_867, f82_869, f82_871, f82_873, f82_874, f82_875, f82_877, f82_879, f82_881, h82_883, hb854, hb856, hb858, hb860, hb862, hb864, hb866, hb868, hb870, hb872, hb876, hb878, hb880, hb882, hb884⟩ := (hI837 82 (by decide) (by decide) : cp82 (wget w835 82))
      have hf885 : fld w835 82 4 = f82_857 := fld_of h82_883
      have hf886 : fld w835 82 5 = f82_859 := fld_of h82_883
      have hf887 : fld w835 82 7 = f82_863 := fld_of h82_883
      have hf888 : fld w835 82 10 = f82_869 := fld_of h82_883
      have hf889 : fld w835 82 14 = f82_871 := fld_of h82_883
      have hu890 : mu w835 = 2 * (fld w835 82 4 - fld w835 82 5) + min 1 (fld w835 82 7) := rfl
      have hf891 := pk845.2.2.1
      have hl892 : f82_871 ≤ 1000 := by omega
      refine xg_t (xg_aload (va := (2, 82)) rfl rfl) ?_
      refine xg_t (xg_getf (va := (2, 85)) h82_883 rfl) ?_
      refine xg_t (xg_iload (va := (0, 6)) rfl rfl) ?_
      refine xg_t (xg_dup2 rfl) ?_
      refine xg_ialdB (n := 6) (B := 4294967295) (((((((h85_37.fr hF481 (by decide)).fr hF490 (by decide)).fr hF538 (by decide)).fr hF583 (by decide)).fr hF595 (by decide)).fr hF642 (by decide)).fr hF838 (by decide)) (hb38) xnm0 (by omega) (fun u893 hu894 he895 => ?_)
      have hl896 : u893 = u45 := by omega
      refine xg_t (xg_const) ?_
      refine xg_t (xg_iadd (u := u893) (v := 1) (z := u893 + 1) xnm0 xnm0 (by omega)) ?_
      refine xg_iastK (n := 6) (u := u893 + 1) (((((((h85_37.fr hF481 (by decide)).fr hF490 (by decide)).fr hF538 (by decide)).fr hF583 (by decide)).fr hF595 (by decide)).fr hF642 (by decide)).fr hF838 (by decide)) xnm0 xnm0 rfl (by omega) (fun w897 hr898 hb899 => ?_)
      refine xg_t (xg_aload (va := (2, 82)) rfl rfl) ?_
      refine xg_t (xg_dup rfl) ?_
      refine xg_t (xg_getf (va := (0, f82_871)) (hb899.get (by decide) h82_883) rfl) ?_
      refine xg_t (xg_const) ?_
      refine xg_t (xg_iadd (u := f82_871) (v := 1) (z := f82_871 + 1) xnm0 xnm0 (by omega)) ?_
      refine xg_putI (fl1 := [(2, 83), (2, 84), (0, f82_853), (0, f82_855), (0, f82_857), (0, f82_859), (0, f82_861), (0, f82_863), (0, f82_865), (0, f82_867), (0, f82_869), (2, 85), (2, 86), (2, 87), (0, f82_871 + 1), (2, 88), (2, 89), (2, 90), (2, 91), (2, 92), (2, 93), (2, 94), (4, f82_873), (4, f82_874), (0, f82_875), (2, 95), (2, 96), (2, 97), (2, 98), (2, 99), (2, 100), (2, 101), (2, 102), (0, f82_877), (2, 103), (2, 104), (2, 105), (2, 106), (2, 107), (2, 108), (2, 109), (0, f82_879), (0, f82_881), (2, 110), (2, 111), (2, 112), (2, 113)]) (hb899.get (by decide) h82_883) rfl rfl rfl (fun w900 hk901 hb902 => ?_)
      have hF903 : xFr [82, 85] w835 w900 := ((xFr.of (S := [82, 85]) hb899 (by decide)).tr (xFr.of (S := [82, 85]) hb902 (by decide)))
      have hA904 := FA_fr hF903 (by decide)
      have hf905 : fld w900 82 4 = f82_857 := fld_of hk901
      have hf906 : fld w900 82 5 = f82_859 := fld_of hk901
      have hf907 : fld w900 82 7 = f82_863 := fld_of hk901
      have hf908 : fld w900 82 10 = f82_869 := fld_of hk901
      have hf909 : fld w900 82 14 = f82_871 + 1 := fld_of hk901
      have hu910 : mu w900 = 2 * (fld w900 82 4 - fld w900 82 5) + min 1 (fld w900 82 7) := rfl
      have pq911 := pk845
      unfold PK PS at pq911
      have hM912 : ∀ s, s < 7 → s ≠ 6 → rwv w900 85 s = rwv w 85 s := fun s hs hn => (rwv_of (hr898.but hb902 (by decide)) hs).trans ((if_neg hn).trans (rwv_of h85_37 hs).symm)
      have hM913 : rwv w900 85 6 = u45 + 1 := (rwv_of (hr898.but hb902 (by decide)) (by decide)).trans ((if_pos rfl).trans (by omega))
      have hM914 : ∀ s, s < 7 → rwv w900 85 s ≤ rwv w 85 s + 1 := fun s hs => by
        by_cases z : s = 6
        · subst z; omega
        · rw [hM912 s hs z]; omega
      have hO915 : ∀ j, (j < 5 ∨ 7 ≤ j) → j < 140 → rwv w900 86 j = rwv w 86 j := fun j hj hl => (rwv_fr hF903 (by decide)).trans (os846 j hj hl)
      have hl917 : FA w835 ≠ 0 ∨ 0 = 1 := rg849
      have hl918 : u45 < 1 → rwv w900 86 (5) = n539 := fun h => (rwv_fr hF903 (by decide)).trans (ix847 h)
      have hl919 : u45 < 1 → rwv w900 86 (6) = n596 := fun h => (rwv_fr hF903 (by decide)).trans (ix848 h)
      have hl920 : FA w835 ≠ 0 ∨ (1 ≤ n539 ∧ n539 ≤ 6) := rg850
      have hl921 : FA w835 ≠ 0 ∨ (1 ≤ n596 ∧ n596 ≤ 6) := rg851
      have hN916 : FA w900 ≠ 0 ∨ 1 ≤ u45 ∨ (1 ≤ rwv w900 86 5 ∧ rwv w900 86 5 ≤ 6 ∧ 1 ≤ rwv w900 86 6 ∧ rwv w900 86 6 ≤ 6) := by omega
      have hX922 : FA w900 ≠ 0 ∨ u45 < 1 := by omega
      have hD923 : FA w900 ≠ 0 ∨ (DATA w → DATA w900) := by
        by_cases z : FA w900 ≠ 0
        · exact Or.inl z
        · exact Or.inr (fun hd => hd.s6 hM912 hK48 hM913 (hX922.resolve_left z) hO915 ((hN916.resolve_left z).resolve_left (by have := hX922.resolve_left z; omega)))
      exact xg_e ⟨w900, ⟨rfl, rfl⟩, xMnv.up (S := [85, 82]) hI837 ((xFr.of (S := [85, 82]) hb899 (by decide)).tr (xFr.of (S := [85, 82]) hb902 (by decide))) (List.forall_mem_cons.mpr ⟨(show cpI 7 52 4294967295 (wget w900 85) from ⟨_, (hr898.but hb902 (by decide)), xrb (by omega) (hb38)⟩), List.forall_mem_cons.mpr ⟨(show cp82 (wget w900 82) from ⟨f82_853, f82_855, f82_857, f82_859, f82_861, f82_863, f82_865, f82_867, f82_869, f82_871 + 1, f82_873, f82_874, f82_875, f82_877, f82_879, f82_881, hk901, hb854, hb856, hb858, hb860, hb862, hb864, hb866, hb868, hb870, by omega, hb876, hb878, hb880, hb882, by omega⟩), fun _ h => absurd h List.not_mem_nil⟩⟩), ((((((((hF481.up (by decide)).tr (hF490.up (by decide))).tr (hF538.up (by decide))).tr (hF583.up (by decide))).tr (hF595.up (by decide))).tr (hF642.up (by decide))).tr (hF838.up (by decide))).tr ((xFr.of (S := [82, 83, 85, 86, 87]) hb899 (by decide)).tr (xFr.of (S := [82, 83, 85, 86, 87]) hb902 (by decide)))), ⟨fun h => by have := pq911.1 h; omega, (show fld w900 82 10 = 0 ∨ FA w900 ≠ 0 by omega), Or.inr ⟨by have := ms852; omega, by omega, hM914⟩, hD923⟩⟩
set_option maxHeartbeats 60000000 in
theorem mALine (hI : xMnv w) (hps : PS w) (hmb : ∀ s, s < 7 → rwv w 85 s ≤ 1000) (hln : fld w 82 14 ≤ 1000) : xPq (d + 7) mX12_aLine [(2, 82)] w bd fc rr [] (fun w' => xMnv w' ∧ xFr [82, 83, 85, 86, 87] w w' ∧ ((FA w ≠ 0 → FA w' ≠ 0) ∧ PS w' ∧ ((fld w' 82 10 = 1 ∧ mu w' = mu w ∧ fld w' 82 14 = fld w 82 14 ∧ ∀ s, s < 7 → rwv w' 85 s = rwv w 85 s) ∨ (mu w' < mu w ∧ fld w' 82 14 = fld w 82 14 + 1 ∧ ∀ s, s < 7 → rwv w' 85 s ≤ rwv w 85 s + 1)) ∧ (FA w' ≠ 0 ∨ (DATA w → DATA w')))) := by
  refine xPq.of ?_
  show xTo (d + 7) mX12_aLine (0, [], [(0, (2, 82))], [], (w, bd, fc, 0, 0, rr)) (fun φ => ∃ w', xEnd 0 [] (w', bd, fc, 0, 0, rr) φ ∧ xMnv w' ∧ xFr [82, 83, 85, 86, 87] w w' ∧ ((FA w ≠ 0 → FA w' ≠ 0) ∧ PS w' ∧ ((fld w' 82 10 = 1 ∧ mu w' = mu w ∧ fld w' 82 14 = fld w 82 14 ∧ ∀ s, s < 7 → rwv w' 85 s = rwv w 85 s) ∨ (mu w' < mu w ∧ fld w' 82 14 = fld w 82 14 + 1 ∧ ∀ s, s < 7 → rwv w' 85 s ≤ rwv w 85 s + 1)) ∧ (FA w' ≠ 0 ∨ (DATA w → DATA w'))))
  obtain ⟨f82_1, f82_3, f82_5, f82_7, f82_9, f82_11, f82_13, f82_15, f82_17, f82_19, f82_21, f82_22, f82_23, f82_25, f82_27, f82_29, h82_31, hb2, hb4, hb6, hb8, hb10, hb12, hb14, hb16, hb18, hb20, hb24, hb26, hb28, hb30, hb32⟩ := (hI 82 (by decide) (by decide) : cp82 (wget w 82))
  have hf33 : fld w 82 7 = f82_11 := fld_of h82_31
  have hf34 : fld w 82 10 = f82_17 := fld_of h82_31
  have hf35 : fld w 82 14 = f82_19 := fld_of h82_31
  have hps_ : fld w 82 10 = 0 ∨ FA w ≠ 0 := hps
  obtain ⟨g85_36, h85_37, hb38⟩ := (hI 85 (by decide) (by decide) : cpI 7 52 4294967295 (wget w 85))
  have h85_37 : xRow w 85 7 52 g85_36 := h85_37
  obtain ⟨g86_39, h86_40, hb41⟩ := (hI 86 (by decide) (by decide) : cpI 140 53 4294967295 (wget w 86))
  have h86_40 : xRow w 86 140 53 g86_39 := h86_40
  obtain ⟨g87_42, h87_43, hb44⟩ := (hI 87 (by decide) (by decide) : cpI 20 54 4294967295 (wget w 87))
  have h87_43 : xRow w 87 20 54 g87_42 := h87_43
  refine xg_t (xg_blk (b := [(0, 1, 0, 0, 0, 0), (1, 3, 1, 12, 9, 165), (4, 1, 15, 1, 0, 0), (5, 1, 0, 0, 0, 0), (6, 3, 1, 12, 6, 148), (9, 1, 15, 2, 0, 0), (10, 1, 0, 0, 0, 0), (11, 3, 1, 12, 10, 180), (14, 3, 7, 38, 1, 0), (17, 1, 0, 0, 0, 0), (18, 3, 1, 12, 7, 151), (21, 1, 3, 3, 0, 0), (22, 3, 6, 38, 1, 0), (25, 1, 0, 0, 0, 0), (26, 3, 1, 12, 9, 165), (29, 1, 3, 0, 0, 0), (30, 2, 4, 6, 0, 0), (32, 3, 13, 161, 98, 105), (35, 3, 7, 43, 1, 0)]) rfl) ?_
  refine xg_t (xg_aload (va := (2, 82)) rfl rfl) ?_
  refine xg_t (xg_getf (va := (0, f82_15)) h82_31 rfl) ?_
  refine xg_t (xg_istore (l1 := [(0, (2, 82))]) rfl rfl rfl) ?_
  refine xg_t (xg_aload (va := (2, 82)) rfl rfl) ?_
  refine xg_t (xg_getf (va := (0, f82_9)) h82_31 rfl) ?_
  refine xg_t (xg_istore (l1 := [(1, (0, f82_15)), (0, (2, 82))]) rfl rfl rfl) ?_
  refine xg_t (xg_aload (va := (2, 82)) rfl rfl) ?_
  refine xg_t (xg_getf (va := (0, f82_17)) h82_31 rfl) ?_
  by_cases hc45 : f82_17 = 0
  · refine xg_t (xg_ifF (u := f82_17) rfl xnm0 (xj_neF hc45)) ?_
    refine xg_t (xg_aload (va := (2, 82)) rfl rfl) ?_
    refine xg_t (xg_getf (va := (0, f82_11)) h82_31 rfl) ?_
    refine xg_t (xg_const) ?_
    by_cases hc46 : f82_11 = 3
    · refine xg_t (xg_icF (u := f82_11) (v := 3) rfl xnm0 xnm0 (xj_neF hc46)) ?_
      refine xg_t (xg_aload (va := (2, 82)) rfl rfl) ?_
      refine xg_t (xg_getf (va := (0, f82_15)) h82_31 rfl) ?_
      refine xg_t (xg_const) ?_
      refine xg_t (xg_bip) ?_
      refine xg_t (xg_cSr mX12_isIn (vs := [(0, f82_15), (0, 0), (0, 6)]) (rest := []) (rs := [(0, if 0 ≤ f82_15 ∧ f82_15 ≤ 6 then 1 else 0)]) (cn1 := 0) (sl1 := 0) rfl (mIsIn (by omega) (by omega) (by omega)) rfl rfl rfl rfl rfl rfl rfl rfl) ?_
      by_cases hc47 : 0 ≤ f82_15 ∧ f82_15 ≤ 6
      · refine xg_t (xg_ifT (u := (if 0 ≤ f82_15 ∧ f82_15 ≤ 6 then 1 else 0)) rfl xnm0 (xj_neT (xite1 hc47))) ?_
        rcases (show f82_15 = 0 ∨ f82_15 = 1 ∨ f82_15 = 2 ∨ f82_15 = 3 ∨ f82_15 = 4 ∨ f82_15 = 5 ∨ f82_15 = 6 by omega) with rfl | rfl | rfl | rfl | rfl | rfl | rfl
        · exact mALineS0 hI hps hmb hln (by omega) (by omega)
        · exact mALineS1 hI hps hmb hln (by omega) (by omega)
        · exact mALineS2 hI hps hmb hln (by omega) (by omega)
        · exact mALineS3 hI hps hmb hln (by omega) (by omega)
        · exact mALineS4 hI hps hmb hln (by omega) (by omega)
        · exact mALineS5 hI hps hmb hln (by omega) (by omega)
        · exact mALineS6 hI hps hmb hln (by omega) (by omega)
      · refine xg_t (xg_ifF (u := (if 0 ≤ f82_15 ∧ f82_15 ≤ 6 then 1 else 0)) rfl xnm0 (xj_neF (xite0 hc47))) ?_
        refine xg_t (xg_blk (b := [(38, 1, 0, 0, 0, 0), (39, 3, 13, 140, 96, 183), (42, 1, 12, 0, 0, 0)]) rfl) ?_
        refine xg_t (xg_aload (va := (2, 82)) rfl rfl) ?_
        refine xg_cVv mX12_ends (vs := []) (rest := []) (cn1 := 0) (sl1 := 0) rfl (mEnds (hI) hps) rfl h82_31 rfl rfl rfl rfl rfl rfl (fun w48 hq49 => ?_)
        obtain ⟨hI50, hF51, hx52⟩ := hq49
        obtain ⟨hv53, hv54, hv55, hv56⟩ := hx52
        obtain ⟨f82_57, f82_59, f82_61, f82_63, f82_65, f82_67, f82_69, f82_71, f82_73, f82_75, f82_77, f82_78, f82_79, f82_81, f82_83, f82_85, h82_87, hb58, hb60, hb62, hb64, hb66, hb68, hb70, hb72, hb74, hb76, hb80, hb82, hb84, hb86, hb88⟩ := (hI50 82 (by decide) (by decide) : cp82 (wget w48 82))
        exact xg_e ⟨w48, ⟨rfl, rfl⟩, hI50, (hF51.up (by decide)), ⟨fun _ => hv53, Or.inr hv53, Or.inl ⟨hv54, hv55, hv56, fun s hs => rwv_fr hF51 (by decide)⟩, Or.inl hv53⟩⟩
    · refine xg_t (xg_icT (u := f82_11) (v := 3) rfl xnm0 xnm0 (xj_neT hc46)) ?_
      refine xg_t (xg_blk (b := [(38, 1, 0, 0, 0, 0), (39, 3, 13, 140, 96, 183), (42, 1, 12, 0, 0, 0)]) rfl) ?_
      refine xg_t (xg_aload (va := (2, 82)) rfl rfl) ?_
      refine xg_cVv mX12_ends (vs := []) (rest := []) (cn1 := 0) (sl1 := 0) rfl (mEnds (hI) hps) rfl h82_31 rfl rfl rfl rfl rfl rfl (fun w89 hq90 => ?_)
      obtain ⟨hI91, hF92, hx93⟩ := hq90
      obtain ⟨hv94, hv95, hv96, hv97⟩ := hx93
      obtain ⟨f82_98, f82_100, f82_102, f82_104, f82_106, f82_108, f82_110, f82_112, f82_114, f82_116, f82_118, f82_119, f82_120, f82_122, f82_124, f82_126, h82_128, hb99, hb101, hb103, hb105, hb107, hb109, hb111, hb113, hb115, hb117, hb121, hb123, hb125, hb127, hb129⟩ := (hI91 82 (by decide) (by decide) : cp82 (wget w89 82))
      exact xg_e ⟨w89, ⟨rfl, rfl⟩, hI91, (hF92.up (by decide)), ⟨fun _ => hv94, Or.inr hv94, Or.inl ⟨hv95, hv96, hv97, fun s hs => rwv_fr hF92 (by decide)⟩, Or.inl hv94⟩⟩
  · refine xg_t (xg_ifT (u := f82_17) rfl xnm0 (xj_neT hc45)) ?_
    refine xg_t (xg_blk (b := [(38, 1, 0, 0, 0, 0), (39, 3, 13, 140, 96, 183), (42, 1, 12, 0, 0, 0)]) rfl) ?_
    refine xg_t (xg_aload (va := (2, 82)) rfl rfl) ?_
    refine xg_cVv mX12_ends (vs := []) (rest := []) (cn1 := 0) (sl1 := 0) rfl (mEnds (hI) hps) rfl h82_31 rfl rfl rfl rfl rfl rfl (fun w130 hq131 => ?_)
    obtain ⟨hI132, hF133, hx134⟩ := hq131
    obtain ⟨hv135, hv136, hv137, hv138⟩ := hx134
    obtain ⟨f82_139, f82_141, f82_143, f82_145, f82_147, f82_149, f82_151, f82_153, f82_155, f82_157, f82_159, f82_160, f82_161, f82_163, f82_165, f82_167, h82_169, hb140, hb142, hb144, hb146, hb148, hb150, hb152, hb154, hb156, hb158, hb162, hb164, hb166, hb168, hb170⟩ := (hI132 82 (by decide) (by decide) : cp82 (wget w130 82))
    exact xg_e ⟨w130, ⟨rfl, rfl⟩, hI132, (hF133.up (by decide)), ⟨fun _ => hv135, Or.inr hv135, Or.inl ⟨hv136, hv137, hv138, fun s hs => rwv_fr hF133 (by decide)⟩, Or.inl hv135⟩⟩
end XMB
