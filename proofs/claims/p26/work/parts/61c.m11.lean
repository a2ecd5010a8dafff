/-! the model: lines of films, more -/
section XMB
variable {d : Nat} {w : List (List xE)} {bd : List (Nat × Nat)} {fc : List (Nat × Nat × Bool)} {rr : Nat × Nat}
set_option maxHeartbeats 60000000 in
theorem mALineS2 {at_ : Nat} (hI : xMnv w) (hps : PS w) (hmb : ∀ s, s < 7 → rwv w 85 s ≤ 1000) (hln : fld w 82 14 ≤ 1000) (h7 : fld w 82 7 = 3) (hat : at_ ≤ 4294967295) : xTo (d + 7) mX12_aLine (43, [], [(2, (0, at_)), (1, (0, 2)), (0, (2, 82))], [], (w, bd, fc, 0, 0, rr)) (fun φ => ∃ w', xEnd 0 [] (w', bd, fc, 0, 0, rr) φ ∧ xMnv w' ∧ xFr [82, 83, 85, 86, 87] w w' ∧ ((FA w ≠ 0 → FA w' ≠ 0) ∧ PS w' ∧ ((fld w' 82 10 = 1 ∧ mu w' = mu w ∧ fld w' 82 14 = fld w 82 14 ∧ ∀ s, s < 7 → rwv w' 85 s = rwv w 85 s) ∨ (mu w' < mu w ∧ fld w' 82 14 = fld w 82 14 + 1 ∧ ∀ s, s < 7 → rwv w' 85 s ≤ rwv w 85 s + 1)) ∧ (FA w' ≠ 0 ∨ (DATA w → DATA w')))) := by
  obtain ⟨f82_1, f82_3, f82_5, f82_7, f82_9, f82_11, f82_13, f82_15, f82_17, f82_19, f82_21, f82_22, f82_23, f82_25, f82_27, f82_29, h82_31, hb2, hb4, hb6, hb8, hb10, hb12, hb14, hb16, hb18, hb20, hb24, hb26, hb28, hb30, hb32⟩ := (hI 82 (by decide) (by decide) : cp82 (wget w 82))
  have hf33 : fld w 82 7 = f82_11 := fld_of h82_31
  have hf34 : fld w 82 10 = f82_17 := fld_of h82_31
  have hf35 : fld w 82 14 = f82_19 := fld_of h82_31
  have hps_ : fld w 82 10 = 0 ∨ FA w ≠ 0 := hps
  obtain ⟨g85_36, h85_37, hb38⟩ := (hI 85 (by decide) (by decide) : cpI 7 52 4294967295 (wget w 85))
  have h85_37 : xRow w 85 7 52 g85_36 := h85_37
  obtain ⟨g86_39, h86_40, hb41⟩ := (hI 86 (by decide) (by decide) : cpI 140 53 4294967295 (wget w 86))
  have h86_40 : xRow w 86 140 53 g86_39 := h86_40
  obtain ⟨g87_42, h87_43, hb44⟩ := (hI 87 (by decide) (by decide) : cpI 20 54 4294967295 (wget w 87))
  have h87_43 : xRow w 87 20 54 g87_42 := h87_43
  refine xg_t (xg_blk (b := [(43, 1, 0, 0, 0, 0), (44, 3, 1, 12, 11, 17), (47, 1, 2, 1, 0, 0), (48, 1, 10, 0, 0, 0), (49, 1, 15, 3, 0, 0), (50, 1, 2, 3, 0, 0), (51, 1, 2, 1, 0, 0), (52, 3, 13, 194, 98, 193), (55, 3, 6, 64, 2, 0), (58, 1, 0, 0, 0, 0), (59, 1, 3, 3, 0, 0), (60, 1, 2, 2, 0, 0), (61, 3, 13, 115, 96, 186)]) rfl) ?_
  refine xg_t (xg_aload (va := (2, 82)) rfl rfl) ?_
  refine xg_t (xg_getf (va := (2, 85)) h82_31 rfl) ?_
  refine xg_t (xg_iload (va := (0, 2)) rfl rfl) ?_
  refine xg_ialdB (n := 2) (B := 4294967295) h85_37 (hb38) xnm0 (by omega) (fun u45 hu46 he47 => ?_)
  have hK48 : rwv w 85 2 = u45 := (rwv_of h85_37 (by decide)).trans he47
  have hm49 := hmb 2 (by decide)
  have hl50 : u45 ≤ 1000 := by omega
  refine xg_t (xg_istore (l1 := [(2, (0, at_)), (1, (0, 2)), (0, (2, 82))]) rfl rfl rfl) ?_
  refine xg_t (xg_iload (va := (0, u45)) rfl rfl) ?_
  refine xg_t (xg_iload (va := (0, 2)) rfl rfl) ?_
  refine xg_t (xg_cSr mX12_mostOf (vs := [(0, 2)]) (rest := [(0, u45)]) (rs := [(0, 6), (0, u45)]) (cn1 := 0) (sl1 := 0) rfl (mMostR2) rfl rfl rfl rfl rfl rfl rfl rfl) ?_
  by_cases hc51 : u45 < 6
  · refine xg_t (xg_icT (u := u45) (v := 6) rfl xnm0 xnm0 (xj_ltT hc51 (by omega))) ?_
    refine xg_t (xg_blk (b := [(64, 1, 0, 0, 0, 0), (65, 3, 13, 110, 96, 190), (68, 1, 2, 1, 0, 0), (69, 39, 33, 362, 0, 9)]) rfl) ?_
    refine xg_t (xg_aload (va := (2, 82)) rfl rfl) ?_
    refine xg_cVv mX12_advance (vs := []) (rest := []) (cn1 := 0) (sl1 := 0) rfl (mAdvance (hI)) rfl h82_31 rfl rfl rfl rfl rfl rfl (fun w52 hq53 => ?_)
    obtain ⟨hI54, hF55, hx56⟩ := hq53
    clear hb2 hb4 hb6 hb8 hb10 hb12 hb14 hb16 hb18 hb20 hb24 hb26 hb28 hb30
    obtain ⟨hv57, hv58, hv59, hv60⟩ := hx56
    have hf62 := FA_fr hF55 (by decide)
    have hs63 := (PK.rf hps).2.2.2
    unfold PS at hs63
    have pk61 : PK w w52 := ⟨fun _ => by omega, hv57, hv60, (show fld w52 82 10 = 0 ∨ FA w52 ≠ 0 by omega)⟩
    clear hs63
    have pk64 : PK w w52 := PK.tr (PK.rf hps) pk61
    have os65 : ∀ j, (j < 60 + 2 * u45 ∨ 62 + 2 * u45 ≤ j) → j < 140 → rwv w52 86 j = rwv w 86 j := fun j hj hl => (rwv_fr hF55 (by decide)).trans ((fun j _ _ => rfl) j hj hl)
    have ms66 : mu w52 < mu w := Nat.lt_of_lt_of_le (hv58 (by omega)) (PK.rf hps).2.1
    clear hv58
    refine xg_t (xg_iload (va := (0, 2)) rfl rfl) ?_
    refine xg_t (xg_swt (ks := [(0, 108), (1, 116), (2, 180), (3, 221), (4, 273), (5, 326)]) (u := 2) (z := 180) rfl rfl rfl xnm0 (xsw_n (by omega) (xsw_n (by omega) (xsw_y rfl)))) ?_
    refine xg_t (xg_blk (b := [(180, 1, 3, 0, 0, 0), (181, 2, 15, 4, 0, 0)]) rfl) ?_
    refine xg_t (xg_const) ?_
    refine xg_t (xg_istore (l1 := [(3, (0, u45)), (2, (0, at_)), (1, (0, 2)), (0, (2, 82))]) rfl rfl rfl) ?_
    refine xg_t (xg_blk (b := [(183, 2, 2, 4, 0, 0), (185, 1, 3, 2, 0, 0), (186, 3, 6, 218, 3, 0), (189, 1, 0, 0, 0, 0), (190, 1, 2, 1, 0, 0), (191, 1, 2, 3, 0, 0), (192, 2, 4, 60, 0, 0), (194, 1, 3, 2, 0, 0), (195, 1, 2, 3, 0, 0), (196, 1, 16, 0, 0, 0), (197, 1, 11, 0, 0, 0), (198, 2, 2, 4, 0, 0), (200, 1, 11, 0, 0, 0), (201, 1, 0, 0, 0, 0), (202, 1, 3, 1, 0, 0), (203, 3, 5, 9999, 0, 0), (206, 3, 13, 199, 96, 196), (209, 3, 13, 211, 96, 200), (212, 3, 9, 4, 1, 0), (215, 3, 8, 183, 0, 0)]) rfl) ?_
    refine xg_t (xg_iload (va := (0, 0)) rfl rfl) ?_
    refine xg_t (xg_const) ?_
    refine xg_t (xg_icF (u := 0) (v := 2) rfl xnm0 xnm0 (by decide)) ?_
    refine xg_t (xg_aload (va := (2, 82)) rfl rfl) ?_
    refine xg_t (xg_iload (va := (0, 2)) rfl rfl) ?_
    refine xg_t (xg_iload (va := (0, u45)) rfl rfl) ?_
    refine xg_t (xg_bip) ?_
    refine xg_t (xg_const) ?_
    refine xg_t (xg_iload (va := (0, u45)) rfl rfl) ?_
    refine xg_t (xg_imul (u := 2) (v := u45) (z := 2 * u45) xnm0 xnm0 (by omega)) ?_
    refine xg_t (xg_iadd (u := 60) (v := 2 * u45) (z := 60 + (2 * u45)) xnm0 xnm0 (by omega)) ?_
    refine xg_t (xg_iload (va := (0, 0)) rfl rfl) ?_
    refine xg_t (xg_iadd (u := 60 + (2 * u45)) (v := 0) (z := (60 + (2 * u45)) + 0) xnm0 xnm0 (by omega)) ?_
    refine xg_t (xg_aload (va := (2, 82)) rfl rfl) ?_
    refine xg_t (xg_const) ?_
    refine xg_t (xg_sip) ?_
    obtain ⟨f82_67, f82_69, f82_71, f82_73, f82_75, f82_77, f82_79, f82_81, f82_83, f82_85, f82_87, f82_88, f82_89, f82_91, f82_93, f82_95, h82_97, hb68, hb70, hb72, hb74, hb76, hb78, hb80, hb82, hb84, hb86, hb90, hb92, hb94, hb96, hb98⟩ := (hI54 82 (by decide) (by decide) : cp82 (wget w52 82))
    refine xg_cVi mX12_numbered (vs := [(0, 1), (0, 9999)]) (rest := [(0, (60 + (2 * u45)) + 0), (0, u45), (0, 2), (2, 82)]) (cn1 := 0) (sl1 := 0) rfl (mNumbered (hI54) (by omega) (by omega) pk64.2.2.2) rfl h82_97 rfl rfl rfl rfl rfl rfl (fun n103 w99 hq100 => ?_)
    obtain ⟨hn104, hI101, hF102⟩ := hq100
    clear hb68 hb70 hb72 hb74 hb76 hb78 hb80 hb82 hb84 hb86 hb90 hb92 hb94 hb96
    obtain ⟨hn105, hn106, hn107⟩ := hn104
    have pk108 : PK w w99 := PK.tr pk64 hn106
    have os109 : ∀ j, (j < 60 + 2 * u45 ∨ 62 + 2 * u45 ≤ j) → j < 140 → rwv w99 86 j = rwv w 86 j := fun j hj hl => (rwv_fr hF102 (by decide)).trans (os65 j hj hl)
    have ms110 : mu w99 < mu w := Nat.lt_of_le_of_lt hn106.2.1 ms66
    obtain ⟨f82_111, f82_113, f82_115, f82_117, f82_119, f82_121, f82_123, f82_125, f82_127, f82_129, f82_131, f82_132, f82_133, f82_135, f82_137, f82_139, h82_141, hb112, hb114, hb116, hb118, hb120, hb122, hb124, hb126, hb128, hb130, hb134, hb136, hb138, hb140, hb142⟩ := (hI101 82 (by decide) (by decide) : cp82 (wget w99 82))
    refine xg_cVv mX12_puts (vs := [(0, 2), (0, u45), (0, (60 + (2 * u45)) + 0), (0, n103)]) (rest := []) (cn1 := 0) (sl1 := 0) rfl (mPuts2 (hI101) (by omega) (by omega) (by omega) (fun _ => by omega)) rfl h82_141 rfl rfl rfl rfl rfl rfl (fun w143 hq144 => ?_)
    obtain ⟨hI145, hF146, hx147⟩ := hq144
    obtain ⟨hp148, hp149⟩ := hx147
    have pk150 : PK w w143 := PK.tr pk108 (PK.fr hF146 (by decide) (by decide) pk108.2.2.2)
    have os151 : ∀ j, (j < 60 + 2 * u45 ∨ 62 + 2 * u45 ≤ j) → j < 140 → rwv w143 86 j = rwv w 86 j := fun j hj hl => (hp149 j (by omega) hl).trans (os109 j hj hl)
    have rg152 : FA w143 ≠ 0 ∨ (1 ≤ n103 ∧ n103 ≤ 9999) := hn107.imp_left (PK.fr hF146 (by decide) (by decide) pk108.2.2.2).1
    have ms153 : mu w143 < mu w := Nat.lt_of_le_of_lt (PK.fr hF146 (by decide) (by decide) pk108.2.2.2).2.1 ms110
    clear hn107
    refine xg_t (xg_iinc (u := 0) (z := 1) (l1 := [(3, (0, u45)), (2, (0, at_)), (1, (0, 2)), (0, (2, 82))]) rfl rfl (by decide) rfl) ?_
    refine xg_t (xg_goto) ?_
    refine xg_t (xg_blk (b := [(183, 2, 2, 4, 0, 0), (185, 1, 3, 2, 0, 0), (186, 3, 6, 218, 3, 0), (189, 1, 0, 0, 0, 0), (190, 1, 2, 1, 0, 0), (191, 1, 2, 3, 0, 0), (192, 2, 4, 60, 0, 0), (194, 1, 3, 2, 0, 0), (195, 1, 2, 3, 0, 0), (196, 1, 16, 0, 0, 0), (197, 1, 11, 0, 0, 0), (198, 2, 2, 4, 0, 0), (200, 1, 11, 0, 0, 0), (201, 1, 0, 0, 0, 0), (202, 1, 3, 1, 0, 0), (203, 3, 5, 9999, 0, 0), (206, 3, 13, 199, 96, 196), (209, 3, 13, 211, 96, 200), (212, 3, 9, 4, 1, 0), (215, 3, 8, 183, 0, 0)]) rfl) ?_
    refine xg_t (xg_iload (va := (0, 1)) rfl rfl) ?_
    refine xg_t (xg_const) ?_
    refine xg_t (xg_icF (u := 1) (v := 2) rfl xnm0 xnm0 (by decide)) ?_
    refine xg_t (xg_aload (va := (2, 82)) rfl rfl) ?_
    refine xg_t (xg_iload (va := (0, 2)) rfl rfl) ?_
    refine xg_t (xg_iload (va := (0, u45)) rfl rfl) ?_
    refine xg_t (xg_bip) ?_
    refine xg_t (xg_const) ?_
    refine xg_t (xg_iload (va := (0, u45)) rfl rfl) ?_
    refine xg_t (xg_imul (u := 2) (v := u45) (z := 2 * u45) xnm0 xnm0 (by omega)) ?_
    refine xg_t (xg_iadd (u := 60) (v := 2 * u45) (z := 60 + (2 * u45)) xnm0 xnm0 (by omega)) ?_
    refine xg_t (xg_iload (va := (0, 1)) rfl rfl) ?_
    refine xg_t (xg_iadd (u := 60 + (2 * u45)) (v := 1) (z := (60 + (2 * u45)) + 1) xnm0 xnm0 (by omega)) ?_
    refine xg_t (xg_aload (va := (2, 82)) rfl rfl) ?_
    refine xg_t (xg_const) ?_
    refine xg_t (xg_sip) ?_
    refine xg_cVi mX12_numbered (vs := [(0, 1), (0, 9999)]) (rest := [(0, (60 + (2 * u45)) + 1), (0, u45), (0, 2), (2, 82)]) (cn1 := 0) (sl1 := 0) rfl (mNumbered (hI145) (by omega) (by omega) pk150.2.2.2) rfl (hF146.get (by decide) h82_141) rfl rfl rfl rfl rfl rfl (fun n158 w154 hq155 => ?_)
    obtain ⟨hn159, hI156, hF157⟩ := hq155
    clear hb112 hb114 hb116 hb118 hb120 hb122 hb124 hb126 hb128 hb130 hb134 hb136 hb138 hb140
    obtain ⟨hn160, hn161, hn162⟩ := hn159
    have pk163 : PK w w154 := PK.tr pk150 hn161
    have os164 : ∀ j, (j < 60 + 2 * u45 ∨ 62 + 2 * u45 ≤ j) → j < 140 → rwv w154 86 j = rwv w 86 j := fun j hj hl => (rwv_fr hF157 (by decide)).trans (os151 j hj hl)
    have ix165 : u45 < 6 → rwv w154 86 ((60 + (2 * u45)) + 0) = n103 := fun h => (rwv_fr hF157 (by decide)).trans (hp148 h)
    have rg166 : FA w154 ≠ 0 ∨ (1 ≤ n103 ∧ n103 ≤ 9999) := rg152.imp_left hn161.1
    have ms167 : mu w154 < mu w := Nat.lt_of_le_of_lt hn161.2.1 ms153
    clear hp148 rg152
    obtain ⟨f82_168, f82_170, f82_172, f82_174, f82_176, f82_178, f82_180, f82_182, f82_184, f82_186, f82_188, f82_189, f82_190, f82_192, f82_194, f82_196, h82_198, hb169, hb171, hb173, hb175, hb177, hb179, hb181, hb183, hb185, hb187, hb191, hb193, hb195, hb197, hb199⟩ := (hI156 82 (by decide) (by decide) : cp82 (wget w154 82))
    refine xg_cVv mX12_puts (vs := [(0, 2), (0, u45), (0, (60 + (2 * u45)) + 1), (0, n158)]) (rest := []) (cn1 := 0) (sl1 := 0) rfl (mPuts2 (hI156) (by omega) (by omega) (by omega) (fun _ => by omega)) rfl h82_198 rfl rfl rfl rfl rfl rfl (fun w200 hq201 => ?_)
    obtain ⟨hI202, hF203, hx204⟩ := hq201
    obtain ⟨hp205, hp206⟩ := hx204
    have pk207 : PK w w200 := PK.tr pk163 (PK.fr hF203 (by decide) (by decide) pk163.2.2.2)
    have os208 : ∀ j, (j < 60 + 2 * u45 ∨ 62 + 2 * u45 ≤ j) → j < 140 → rwv w200 86 j = rwv w 86 j := fun j hj hl => (hp206 j (by omega) hl).trans (os164 j hj hl)
    have ix209 : u45 < 6 → rwv w200 86 ((60 + (2 * u45)) + 0) = n103 := fun h => (hp206 _ (by omega) (by omega)).trans (ix165 h)
    have rg210 : FA w200 ≠ 0 ∨ (1 ≤ n103 ∧ n103 ≤ 9999) := rg166.imp_left (PK.fr hF203 (by decide) (by decide) pk163.2.2.2).1
    have rg211 : FA w200 ≠ 0 ∨ (1 ≤ n158 ∧ n158 ≤ 9999) := hn162.imp_left (PK.fr hF203 (by decide) (by decide) pk163.2.2.2).1
    have ms212 : mu w200 < mu w := Nat.lt_of_le_of_lt (PK.fr hF203 (by decide) (by decide) pk163.2.2.2).2.1 ms167
    clear ix165 rg166 hn162
    refine xg_t (xg_iinc (u := 1) (z := 2) (l1 := [(3, (0, u45)), (2, (0, at_)), (1, (0, 2)), (0, (2, 82))]) rfl rfl (by decide) rfl) ?_
    refine xg_t (xg_goto) ?_
    refine xg_t (xg_blk (b := [(183, 2, 2, 4, 0, 0), (185, 1, 3, 2, 0, 0), (186, 3, 6, 218, 3, 0), (189, 1, 0, 0, 0, 0), (190, 1, 2, 1, 0, 0), (191, 1, 2, 3, 0, 0), (192, 2, 4, 60, 0, 0), (194, 1, 3, 2, 0, 0), (195, 1, 2, 3, 0, 0), (196, 1, 16, 0, 0, 0), (197, 1, 11, 0, 0, 0), (198, 2, 2, 4, 0, 0), (200, 1, 11, 0, 0, 0), (201, 1, 0, 0, 0, 0), (202, 1, 3, 1, 0, 0), (203, 3, 5, 9999, 0, 0), (206, 3, 13, 199, 96, 196), (209, 3, 13, 211, 96, 200), (212, 3, 9, 4, 1, 0), (215, 3, 8, 183, 0, 0)]) rfl) ?_
    refine xg_t (xg_iload (va := (0, 2)) rfl rfl) ?_
    refine xg_t (xg_const) ?_
    refine xg_t (xg_icT (u := 2) (v := 2) rfl xnm0 xnm0 (by decide)) ?_
    refine xg_t (xg_blk (b := [(218, 3, 8, 394, 0, 0)]) rfl) ?_
    refine xg_t (xg_goto) ?_
    refine xg_t (xg_blk (b := [(394, 1, 0, 0, 0, 0), (395, 3, 1, 12, 10, 180), (398, 3, 7, 416, 1, 0), (401, 1, 0, 0, 0, 0), (402, 3, 1, 12, 7, 151), (405, 1, 3, 2, 0, 0), (406, 3, 6, 416, 1, 0), (409, 1, 0, 0, 0, 0), (410, 3, 13, 110, 96, 190), (413, 3, 8, 420, 0, 0)]) rfl) ?_
    refine xg_t (xg_aload (va := (2, 82)) rfl rfl) ?_
    refine xg_t (xg_getf (va := (0, f82_184)) (hF203.get (by decide) h82_198) rfl) ?_
    by_cases hc213 : f82_184 = 0
    · refine xg_t (xg_ifF (u := f82_184) rfl xnm0 (xj_neF hc213)) ?_
      refine xg_t (xg_aload (va := (2, 82)) rfl rfl) ?_
      refine xg_t (xg_getf (va := (0, f82_178)) (hF203.get (by decide) h82_198) rfl) ?_
      refine xg_t (xg_const) ?_
      by_cases hc214 : f82_178 = 2
      · refine xg_t (xg_icF (u := f82_178) (v := 2) rfl xnm0 xnm0 (xj_neF hc214)) ?_
        refine xg_t (xg_aload (va := (2, 82)) rfl rfl) ?_
        refine xg_cVv mX12_advance (vs := []) (rest := []) (cn1 := 0) (sl1 := 0) rfl (mAdvance (hI202)) rfl (hF203.get (by decide) h82_198) rfl rfl rfl rfl rfl rfl (fun w215 hq216 => ?_)
        obtain ⟨hI217, hF218, hx219⟩ := hq216
        clear hb169 hb171 hb173 hb175 hb177 hb179 hb181 hb183 hb185 hb187 hb191 hb193 hb195 hb197
        obtain ⟨hv220, hv221, hv222, hv223⟩ := hx219
        have hf225 := FA_fr hF218 (by decide)
        have hs226 := pk207.2.2.2
        unfold PS at hs226
        have pk224 : PK w200 w215 := ⟨fun _ => by omega, hv220, hv223, (show fld w215 82 10 = 0 ∨ FA w215 ≠ 0 by omega)⟩
        clear hs226
        clear hv221
        have pk227 : PK w w215 := PK.tr pk207 pk224
        have os228 : ∀ j, (j < 60 + 2 * u45 ∨ 62 + 2 * u45 ≤ j) → j < 140 → rwv w215 86 j = rwv w 86 j := fun j hj hl => (rwv_fr hF218 (by decide)).trans (os208 j hj hl)
        have ix229 : u45 < 6 → rwv w215 86 ((60 + (2 * u45)) + 0) = n103 := fun h => (rwv_fr hF218 (by decide)).trans (ix209 h)
        have ix230 : u45 < 6 → rwv w215 86 ((60 + (2 * u45)) + 1) = n158 := fun h => (rwv_fr hF218 (by decide)).trans (hp205 h)
        have rg231 : FA w215 ≠ 0 ∨ (1 ≤ n103 ∧ n103 ≤ 9999) := rg210.imp_left pk224.1
        have rg232 : FA w215 ≠ 0 ∨ (1 ≤ n158 ∧ n158 ≤ 9999) := rg211.imp_left pk224.1
        have ms233 : mu w215 < mu w := Nat.lt_of_le_of_lt pk224.2.1 ms212
        clear ix209 hp205 rg210 rg211
        refine xg_t (xg_goto) ?_
        refine xg_t (xg_blk (b := [(420, 1, 0, 0, 0, 0), (421, 3, 1, 12, 11, 17), (424, 1, 2, 1, 0, 0), (425, 1, 39, 0, 0, 0), (426, 1, 10, 0, 0, 0), (427, 1, 3, 1, 0, 0), (428, 1, 11, 0, 0, 0), (429, 1, 17, 0, 0, 0), (430, 1, 0, 0, 0, 0), (431, 1, 19, 0, 0, 0), (432, 3, 1, 12, 14, 212), (435, 1, 3, 1, 0, 0), (436, 1, 11, 0, 0, 0), (437, 3, 14, 12, 14, 212), (440, 1, 12, 0, 0, 0)]) rfl) ?_
        obtain ⟨f82_234, f82_236, f82_238, f82_240, f82_242, f82_244, f82_246, f82_248, f82_250, f82_252, f82_254, f82_255, f82_256, f82_258, f82_260, f82_262, h82_264, hb235, hb237, hb239, hb241, hb243, hb245, hb247, hb249, hb251, hb253, hb257, hb259, hb261, hb263, hb265⟩ := (hI217 82 (by decide) (by decide) : cp82 (wget w215 82))
        have hf266 : fld w215 82 4 = f82_238 := fld_of h82_264
        have hf267 : fld w215 82 5 = f82_240 := fld_of h82_264
        have hf268 : fld w215 82 7 = f82_244 := fld_of h82_264
        have hf269 : fld w215 82 10 = f82_250 := fld_of h82_264
        have hf270 : fld w215 82 14 = f82_252 := fld_of h82_264
        have hu271 : mu w215 = 2 * (fld w215 82 4 - fld w215 82 5) + min 1 (fld w215 82 7) := rfl
        have hf272 := pk227.2.2.1
        have hl273 : f82_252 ≤ 1000 := by omega
        refine xg_t (xg_aload (va := (2, 82)) rfl rfl) ?_
        refine xg_t (xg_getf (va := (2, 85)) h82_264 rfl) ?_
        refine xg_t (xg_iload (va := (0, 2)) rfl rfl) ?_
        refine xg_t (xg_dup2 rfl) ?_
        refine xg_ialdB (n := 2) (B := 4294967295) ((((((h85_37.fr hF55 (by decide)).fr hF102 (by decide)).fr hF146 (by decide)).fr hF157 (by decide)).fr hF203 (by decide)).fr hF218 (by decide)) (hb38) xnm0 (by omega) (fun u274 hu275 he276 => ?_)
        have hl277 : u274 = u45 := by omega
        refine xg_t (xg_const) ?_
        refine xg_t (xg_iadd (u := u274) (v := 1) (z := u274 + 1) xnm0 xnm0 (by omega)) ?_
        refine xg_iastK (n := 2) (u := u274 + 1) ((((((h85_37.fr hF55 (by decide)).fr hF102 (by decide)).fr hF146 (by decide)).fr hF157 (by decide)).fr hF203 (by decide)).fr hF218 (by decide)) xnm0 xnm0 rfl (by omega) (fun w278 hr279 hb280 => ?_)
        refine xg_t (xg_aload (va := (2, 82)) rfl rfl) ?_
        refine xg_t (xg_dup rfl) ?_
        refine xg_t (xg_getf (va := (0, f82_252)) (hb280.get (by decide) h82_264) rfl) ?_
        refine xg_t (xg_const) ?_
        refine xg_t (xg_iadd (u := f82_252) (v := 1) (z := f82_252 + 1) xnm0 xnm0 (by omega)) ?_
        refine xg_putI (fl1 := [(2, 83), (2, 84), (0, f82_234), (0, f82_236), (0, f82_238), (0, f82_240), (0, f82_242), (0, f82_244), (0, f82_246), (0, f82_248), (0, f82_250), (2, 85), (2, 86), (2, 87), (0, f82_252 + 1), (2, 88), (2, 89), (2, 90), (2, 91), (2, 92), (2, 93), (2, 94), (4, f82_254), (4, f82_255), (0, f82_256), (2, 95), (2, 96), (2, 97), (2, 98), (2, 99), (2, 100), (2, 101), (2, 102), (0, f82_258), (2, 103), (2, 104), (2, 105), (2, 106), (2, 107), (2, 108), (2, 109), (0, f82_260), (0, f82_262), (2, 110), (2, 111), (2, 112), (2, 113)]) (hb280.get (by decide) h82_264) rfl rfl rfl (fun w281 hk282 hb283 => ?_)
        have hF284 : xFr [82, 85] w215 w281 := ((xFr.of (S := [82, 85]) hb280 (by decide)).tr (xFr.of (S := [82, 85]) hb283 (by decide)))
        have hA285 := FA_fr hF284 (by decide)
        have hf286 : fld w281 82 4 = f82_238 := fld_of hk282
        have hf287 : fld w281 82 5 = f82_240 := fld_of hk282
        have hf288 : fld w281 82 7 = f82_244 := fld_of hk282
        have hf289 : fld w281 82 10 = f82_250 := fld_of hk282
        have hf290 : fld w281 82 14 = f82_252 + 1 := fld_of hk282
        have hu291 : mu w281 = 2 * (fld w281 82 4 - fld w281 82 5) + min 1 (fld w281 82 7) := rfl
        have pq292 := pk227
        unfold PK PS at pq292
        have hM293 : ∀ s, s < 7 → s ≠ 2 → rwv w281 85 s = rwv w 85 s := fun s hs hn => (rwv_of (hr279.but hb283 (by decide)) hs).trans ((if_neg hn).trans (rwv_of h85_37 hs).symm)
        have hM294 : rwv w281 85 2 = u45 + 1 := (rwv_of (hr279.but hb283 (by decide)) (by decide)).trans ((if_pos rfl).trans (by omega))
        have hM295 : ∀ s, s < 7 → rwv w281 85 s ≤ rwv w 85 s + 1 := fun s hs => by
          by_cases z : s = 2
          · subst z; omega
          · rw [hM293 s hs z]; omega
        have hO296 : ∀ j, (j < 60 + 2 * u45 ∨ 62 + 2 * u45 ≤ j) → j < 140 → rwv w281 86 j = rwv w 86 j := fun j hj hl => (rwv_fr hF284 (by decide)).trans (os228 j hj hl)
        have hN297 : FA w281 ≠ 0 ∨ 6 ≤ u45 ∨ True := Or.inr (Or.inr trivial)
        have hX298 : FA w281 ≠ 0 ∨ u45 < 6 := by omega
        have hD299 : FA w281 ≠ 0 ∨ (DATA w → DATA w281) := by
          by_cases z : FA w281 ≠ 0
          · exact Or.inl z
          · exact Or.inr (fun hd => hd.s2 hM293 hK48 hM294 (hX298.resolve_left z) hO296 ((hN297.resolve_left z).resolve_left (by have := hX298.resolve_left z; omega)))
        exact xg_e ⟨w281, ⟨rfl, rfl⟩, xMnv.up (S := [85, 82]) hI217 ((xFr.of (S := [85, 82]) hb280 (by decide)).tr (xFr.of (S := [85, 82]) hb283 (by decide))) (List.forall_mem_cons.mpr ⟨(show cpI 7 52 4294967295 (wget w281 85) from ⟨_, (hr279.but hb283 (by decide)), xrb (by omega) (hb38)⟩), List.forall_mem_cons.mpr ⟨(show cp82 (wget w281 82) from ⟨f82_234, f82_236, f82_238, f82_240, f82_242, f82_244, f82_246, f82_248, f82_250, f82_252 + 1, f82_254, f82_255, f82_256, f82_258, f82_260, f82_262, hk282, hb235, hb237, hb239, hb241, hb243, hb245, hb247, hb249, hb251, by omega, hb257, hb259, hb261, hb263, by omega⟩), fun _ h => absurd h List.not_mem_nil⟩⟩), (((((((hF55.up (by decide)).tr (hF102.up (by decide))).tr (hF146.up (by decide))).tr (hF157.up (by decide))).tr (hF203.up (by decide))).tr (hF218.up (by decide))).tr ((xFr.of (S := [82, 83, 85, 86, 87]) hb280 (by decide)).tr (xFr.of (S := [82, 83, 85, 86, 87]) hb283 (by decide)))), ⟨fun h => by have := pq292.1 h; omega, (show fld w281 82 10 = 0 ∨ FA w281 ≠ 0 by omega), Or.inr ⟨by have := ms233; omega, by omega, hM295⟩, hD299⟩⟩
      · refine xg_t (xg_icT (u := f82_178) (v := 2) rfl xnm0 xnm0 (xj_neT hc214)) ?_
        refine xg_t (xg_blk (b := [(416, 1, 0, 0, 0, 0), (417, 3, 13, 140, 96, 183)]) rfl) ?_
        refine xg_t (xg_aload (va := (2, 82)) rfl rfl) ?_
        refine xg_cVv mX12_ends (vs := []) (rest := []) (cn1 := 0) (sl1 := 0) rfl (mEnds (hI202) pk207.2.2.2) rfl (hF203.get (by decide) h82_198) rfl rfl rfl rfl rfl rfl (fun w300 hq301 => ?_)
        obtain ⟨hI302, hF303, hx304⟩ := hq301
        clear hb169 hb171 hb173 hb175 hb177 hb179 hb181 hb183 hb185 hb187 hb191 hb193 hb195 hb197
        obtain ⟨hv305, hv306, hv307, hv308⟩ := hx304
        have pk309 : PK w200 w300 := ⟨fun _ => hv305, by omega, by omega, Or.inr hv305⟩
        have pk310 : PK w w300 := PK.tr pk207 pk309
        have os311 : ∀ j, (j < 60 + 2 * u45 ∨ 62 + 2 * u45 ≤ j) → j < 140 → rwv w300 86 j = rwv w 86 j := fun j hj hl => (rwv_fr hF303 (by decide)).trans (os208 j hj hl)
        have ix312 : u45 < 6 → rwv w300 86 ((60 + (2 * u45)) + 0) = n103 := fun h => (rwv_fr hF303 (by decide)).trans (ix209 h)
        have ix313 : u45 < 6 → rwv w300 86 ((60 + (2 * u45)) + 1) = n158 := fun h => (rwv_fr hF303 (by decide)).trans (hp205 h)
        have rg314 : FA w300 ≠ 0 ∨ (1 ≤ n103 ∧ n103 ≤ 9999) := rg210.imp_left pk309.1
        have rg315 : FA w300 ≠ 0 ∨ (1 ≤ n158 ∧ n158 ≤ 9999) := rg211.imp_left pk309.1
        have ms316 : mu w300 < mu w := Nat.lt_of_le_of_lt pk309.2.1 ms212
        clear ix209 hp205 rg210 rg211
        refine xg_t (xg_blk (b := [(420, 1, 0, 0, 0, 0), (421, 3, 1, 12, 11, 17), (424, 1, 2, 1, 0, 0), (425, 1, 39, 0, 0, 0), (426, 1, 10, 0, 0, 0), (427, 1, 3, 1, 0, 0), (428, 1, 11, 0, 0, 0), (429, 1, 17, 0, 0, 0), (430, 1, 0, 0, 0, 0), (431, 1, 19, 0, 0, 0), (432, 3, 1, 12, 14, 212), (435, 1, 3, 1, 0, 0), (436, 1, 11, 0, 0, 0), (437, 3, 14, 12, 14, 212), (440, 1, 12, 0, 0, 0)]) rfl) ?_
        obtain ⟨f82_317, f82_319, f82_321, f82_323, f82_325, f82_327, f82_329, f82_331, f82_333, f82_335, f82_337, f82_338, f82_339, f82_341, f82_343, f82_345, h82_347, hb318, hb320, hb322, hb324, hb326, hb328, hb330, hb332, hb334, hb336, hb340, hb342, hb344, hb346, hb348⟩ := (hI302 82 (by decide) (by decide) : cp82 (wget w300 82))
        have hf349 : fld w300 82 4 = f82_321 := fld_of h82_347
        have hf350 : fld w300 82 5 = f82_323 := fld_of h82_347
        have hf351 : fld w300 82 7 = f82_327 := fld_of h82_347
        have hf352 : fld w300 82 10 = f82_333 := fld_of h82_347
        have hf353 : fld w300 82 14 = f82_335 := fld_of h82_347
        have hu354 : mu w300 = 2 * (fld w300 82 4 - fld w300 82 5) + min 1 (fld w300 82 7) := rfl
        have hf355 := pk310.2.2.1
        have hl356 : f82_335 ≤ 1000 := by omega
        refine xg_t (xg_aload (va := (2, 82)) rfl rfl) ?_
        refine xg_t (xg_getf (va := (2, 85)) h82_347 rfl) ?_
        refine xg_t (xg_iload (va := (0, 2)) rfl rfl) ?_
        refine xg_t (xg_dup2 rfl) ?_
        refine xg_ialdB (n := 2) (B := 4294967295) ((((((h85_37.fr hF55 (by decide)).fr hF102 (by decide)).fr hF146 (by decide)).fr hF157 (by decide)).fr hF203 (by decide)).fr hF303 (by decide)) (hb38) xnm0 (by omega) (fun u357 hu358 he359 => ?_)
        have hl360 : u357 = u45 := by omega
        refine xg_t (xg_const) ?_
        refine xg_t (xg_iadd (u := u357) (v := 1) (z := u357 + 1) xnm0 xnm0 (by omega)) ?_
        refine xg_iastK (n := 2) (u := u357 + 1) ((((((h85_37.fr hF55 (by decide)).fr hF102 (by decide)).fr hF146 (by decide)).fr hF157 (by decide)).fr hF203 (by decide)).fr hF303 (by decide)) xnm0 xnm0 rfl (by omega) (fun w361 hr362 hb363 => ?_)
        refine xg_t (xg_aload (va := (2, 82)) rfl rfl) ?_
        refine xg_t (xg_dup rfl) ?_
        refine xg_t (xg_getf (va := (0, f82_335)) (hb363.get (by decide) h82_347) rfl) ?_
        refine xg_t (xg_const) ?_
        refine xg_t (xg_iadd (u := f82_335) (v := 1) (z := f82_335 + 1) xnm0 xnm0 (by omega)) ?_
        refine xg_putI (fl1 := [(2, 83), (2, 84), (0, f82_317), (0, f82_319), (0, f82_321), (0, f82_323), (0, f82_325), (0, f82_327), (0, f82_329), (0, f82_331), (0, f82_333), (2, 85), (2, 86), (2, 87), (0, f82_335 + 1), (2, 88), (2, 89), (2, 90), (2, 91), (2, 92), (2, 93), (2, 94), (4, f82_337), (4, f82_338), (0, f82_339), (2, 95), (2, 96), (2, 97), (2, 98), (2, 99), (2, 100), (2, 101), (2, 102), (0, f82_341), (2, 103), (2, 104), (2, 105), (2, 106), (2, 107), (2, 108), (2, 109), (0, f82_343), (0, f82_345), (2, 110), (2, 111), (2, 112), (2, 113)]) (hb363.get (by decide) h82_347) rfl rfl rfl (fun w364 hk365 hb366 => ?_)
        have hF367 : xFr [82, 85] w300 w364 := ((xFr.of (S := [82, 85]) hb363 (by decide)).tr (xFr.of (S := [82, 85]) hb366 (by decide)))
        have hA368 := FA_fr hF367 (by decide)
        have hf369 : fld w364 82 4 = f82_321 := fld_of hk365
        have hf370 : fld w364 82 5 = f82_323 := fld_of hk365
        have hf371 : fld w364 82 7 = f82_327 := fld_of hk365
        have hf372 : fld w364 82 10 = f82_333 := fld_of hk365
        have hf373 : fld w364 82 14 = f82_335 + 1 := fld_of hk365
        have hu374 : mu w364 = 2 * (fld w364 82 4 - fld w364 82 5) + min 1 (fld w364 82 7) := rfl
        have pq375 := pk310
        unfold PK PS at pq375
        have hM376 : ∀ s, s < 7 → s ≠ 2 → rwv w364 85 s = rwv w 85 s := fun s hs hn => (rwv_of (hr362.but hb366 (by decide)) hs).trans ((if_neg hn).trans (rwv_of h85_37 hs).symm)
        have hM377 : rwv w364 85 2 = u45 + 1 := (rwv_of (hr362.but hb366 (by decide)) (by decide)).trans ((if_pos rfl).trans (by omega))
        have hM378 : ∀ s, s < 7 → rwv w364 85 s ≤ rwv w 85 s + 1 := fun s hs => by
          by_cases z : s = 2
          · subst z; omega
          · rw [hM376 s hs z]; omega
        have hO379 : ∀ j, (j < 60 + 2 * u45 ∨ 62 + 2 * u45 ≤ j) → j < 140 → rwv w364 86 j = rwv w 86 j := fun j hj hl => (rwv_fr hF367 (by decide)).trans (os311 j hj hl)
        have hN380 : FA w364 ≠ 0 ∨ 6 ≤ u45 ∨ True := Or.inr (Or.inr trivial)
        have hX381 : FA w364 ≠ 0 ∨ u45 < 6 := by omega
        have hD382 : FA w364 ≠ 0 ∨ (DATA w → DATA w364) := by
          by_cases z : FA w364 ≠ 0
          · exact Or.inl z
          · exact Or.inr (fun hd => hd.s2 hM376 hK48 hM377 (hX381.resolve_left z) hO379 ((hN380.resolve_left z).resolve_left (by have := hX381.resolve_left z; omega)))
        exact xg_e ⟨w364, ⟨rfl, rfl⟩, xMnv.up (S := [85, 82]) hI302 ((xFr.of (S := [85, 82]) hb363 (by decide)).tr (xFr.of (S := [85, 82]) hb366 (by decide))) (List.forall_mem_cons.mpr ⟨(show cpI 7 52 4294967295 (wget w364 85) from ⟨_, (hr362.but hb366 (by decide)), xrb (by omega) (hb38)⟩), List.forall_mem_cons.mpr ⟨(show cp82 (wget w364 82) from ⟨f82_317, f82_319, f82_321, f82_323, f82_325, f82_327, f82_329, f82_331, f82_333, f82_335 + 1, f82_337, f82_338, f82_339, f82_341, f82_343, f82_345, hk365, hb318, hb320, hb322, hb324, hb326, hb328, hb330, hb332, hb334, by omega, hb340, hb342, hb344, hb346, by omega⟩), fun _ h => absurd h List.not_mem_nil⟩⟩), (((((((hF55.up (by decide)).tr (hF102.up (by decide))).tr (hF146.up (by decide))).tr (hF157.up (by decide))).tr (hF203.up (by decide))).tr (hF303.up (by decide))).tr ((xFr.of (S := [82, 83, 85, 86, 87]) hb363 (by decide)).tr (xFr.of (S := [82, 83, 85, 86, 87]) hb366 (by decide)))), ⟨fun h => by have := pq375.1 h; omega, (show fld w364 82 10 = 0 ∨ FA w364 ≠ 0 by omega), Or.inr ⟨by have := ms316; omega, by omega, hM378⟩, hD382⟩⟩
    · refine xg_t (xg_ifT (u := f82_184) rfl xnm0 (xj_neT hc213)) ?_
      refine xg_t (xg_blk (b := [(416, 1, 0, 0, 0, 0), (417, 3, 13, 140, 96, 183)]) rfl) ?_
      refine xg_t (xg_aload (va := (2, 82)) rfl rfl) ?_
      refine xg_cVv mX12_ends (vs := []) (rest := []) (cn1 := 0) (sl1 := 0) rfl (mEnds (hI202) pk207.2.2.2) rfl (hF203.get (by decide) h82_198) rfl rfl rfl rfl rfl rfl (fun w383 hq384 => ?_)
      obtain ⟨hI385, hF386, hx387⟩ := hq384
      clear hb169 hb171 hb173 hb175 hb177 hb179 hb181 hb183 hb185 hb187 hb191 hb193 hb195 hb197
      obtain ⟨hv388, hv389, hv390, hv391⟩ := hx387
      have pk392 : PK w200 w383 := ⟨fun _ => hv388, by omega, by omega, Or.inr hv388⟩
      have pk393 : PK w w383 := PK.tr pk207 pk392
      have os394 : ∀ j, (j < 60 + 2 * u45 ∨ 62 + 2 * u45 ≤ j) → j < 140 → rwv w383 86 j = rwv w 86 j := fun j hj hl => (rwv_fr hF386 (by decide)).trans (os208 j hj hl)
      have ix395 : u45 < 6 → rwv w383 86 ((60 + (2 * u45)) + 0) = n103 := fun h => (rwv_fr hF386 (by decide)).trans (ix209 h)
      have ix396 : u45 < 6 → rwv w383 86 ((60 + (2 * u45)) + 1) = n158 := fun h => (rwv_fr hF386 (by decide)).trans (hp205 h)
      have rg397 : FA w383 ≠ 0 ∨ (1 ≤ n103 ∧ n103 ≤ 9999) := rg210.imp_left pk392.1
      have rg398 : FA w383 ≠ 0 ∨ (1 ≤ n158 ∧ n158 ≤ 9999) := rg211.imp_left pk392.1
      have ms399 : mu w383 < mu w := Nat.lt_of_le_of_lt pk392.2.1 ms212
      clear ix209 hp205 rg210 rg211
      refine xg_t (xg_blk (b := [(420, 1, 0, 0, 0, 0), (421, 3, 1, 12, 11, 17), (424, 1, 2, 1, 0, 0), (425, 1, 39, 0, 0, 0), (426, 1, 10, 0, 0, 0), (427, 1, 3, 1, 0, 0), (428, 1, 11, 0, 0, 0), (429, 1, 17, 0, 0, 0), (430, 1, 0, 0, 0, 0), (431, 1, 19, 0, 0, 0), (432, 3, 1, 12, 14, 212), (435, 1, 3, 1, 0, 0), (436, 1, 11, 0, 0, 0), (437, 3, 14, 12, 14, 212), (440, 1, 12, 0, 0, 0)]) rfl) ?_
      obtain ⟨f82_400, f82_402, f82_404, f82_406, f82_408, f82_410, f82_412, f82_414, f82_416, f82_418, f82_420, f82_421, f82_422, f82_424, f82_426, f82_428, h82_430, hb401, hb403, hb405, hb407, hb409, hb411, hb413, hb415, hb417, hb419, hb423, hb425, hb427, hb429, hb431⟩ := (hI385 82 (by decide) (by decide) : cp82 (wget w383 82))
      have hf432 : fld w383 82 4 = f82_404 := fld_of h82_430
      have hf433 : fld w383 82 5 = f82_406 := fld_of h82_430
      have hf434 : fld w383 82 7 = f82_410 := fld_of h82_430
      have hf435 : fld w383 82 10 = f82_416 := fld_of h82_430
      have hf436 : fld w383 82 14 = f82_418 := fld_of h82_430
      have hu437 : mu w383 = 2 * (fld w383 82 4 - fld w383 82 5) + min 1 (fld w383 82 7) := rfl
      have hf438 := pk393.2.2.1
      have hl439 : f82_418 ≤ 1000 := by omega
      refine xg_t (xg_aload (va := (2, 82)) rfl rfl) ?_
      refine xg_t (xg_getf (va := (2, 85)) h82_430 rfl) ?_
      refine xg_t (xg_iload (va := (0, 2)) rfl rfl) ?_
      refine xg_t (xg_dup2 rfl) ?_
      refine xg_ialdB (n := 2) (B := 4294967295) ((((((h85_37.fr hF55 (by decide)).fr hF102 (by decide)).fr hF146 (by decide)).fr hF157 (by decide)).fr hF203 (by decide)).fr hF386 (by decide)) (hb38) xnm0 (by omega) (fun u440 hu441 he442 => ?_)
      have hl443 : u440 = u45 := by omega
      refine xg_t (xg_const) ?_
      refine xg_t (xg_iadd (u := u440) (v := 1) (z := u440 + 1) xnm0 xnm0 (by omega)) ?_
      refine xg_iastK (n := 2) (u := u440 + 1) ((((((h85_37.fr hF55 (by decide)).fr hF102 (by decide)).fr hF146 (by decide)).fr hF157 (by decide)).fr hF203 (by decide)).fr hF386 (by decide)) xnm0 xnm0 rfl (by omega) (fun w444 hr445 hb446 => ?_)
      refine xg_t (xg_aload (va := (2, 82)) rfl rfl) ?_
      refine xg_t (xg_dup rfl) ?_
      refine xg_t (xg_getf (va := (0, f82_418)) (hb446.get (by decide) h82_430) rfl) ?_
      refine xg_t (xg_const) ?_
      refine xg_t (xg_iadd (u := f82_418) (v := 1) (z := f82_418 + 1) xnm0 xnm0 (by omega)) ?_
      refine xg_putI (fl1 := [(2, 83), (2, 84), (0, f82_400), (0, f82_402), (0, f82_404), (0, f82_406), (0, f82_408), (0, f82_410), (0, f82_412), (0, f82_414), (0, f82_416), (2, 85), (2, 86), (2, 87), (0, f82_418 + 1), (2, 88), (2, 89), (2, 90), (2, 91), (2, 92), (2, 93), (2, 94), (4, f82_420), (4, f82_421), (0, f82_422), (2, 95), (2, 96), (2, 97), (2, 98), (2, 99), (2, 100), (2, 101), (2, 102), (0, f82_424), (2, 103), (2, 104), (2, 105), (2, 106), (2, 107), (2, 108), (2, 109), (0, f82_426), (0, f82_428), (2, 110), (2, 111), (2, 112), (2, 113)]) (hb446.get (by decide) h82_430) rfl rfl rfl (fun w447 hk448 hb449 => ?_)
      have hF450 : xFr [82, 85] w383 w447 := ((xFr.of (S := [82, 85]) hb446 (by decide)).tr (xFr.of (S := [82, 85]) hb449 (by decide)))
      have hA451 := FA_fr hF450 (by decide)
      have hf452 : fld w447 82 4 = f82_404 := fld_of hk448
      have hf453 : fld w447 82 5 = f82_406 := fld_of hk448
      have hf454 : fld w447 82 7 = f82_410 := fld_of hk448
      have hf455 : fld w447 82 10 = f82_416 := fld_of hk448
      have hf456 : fld w447 82 14 = f82_418 + 1 := fld_of hk448
      have hu457 : mu w447 = 2 * (fld w447 82 4 - fld w447 82 5) + min 1 (fld w447 82 7) := rfl
      have pq458 := pk393
      unfold PK PS at pq458
      have hM459 : ∀ s, s < 7 → s ≠ 2 → rwv w447 85 s = rwv w 85 s := fun s hs hn => (rwv_of (hr445.but hb449 (by decide)) hs).trans ((if_neg hn).trans (rwv_of h85_37 hs).symm)
      have hM460 : rwv w447 85 2 = u45 + 1 := (rwv_of (hr445.but hb449 (by decide)) (by decide)).trans ((if_pos rfl).trans (by omega))
      have hM461 : ∀ s, s < 7 → rwv w447 85 s ≤ rwv w 85 s + 1 := fun s hs => by
        by_cases z : s = 2
        · subst z; omega
        · rw [hM459 s hs z]; omega
      have hO462 : ∀ j, (j < 60 + 2 * u45 ∨ 62 + 2 * u45 ≤ j) → j < 140 → rwv w447 86 j = rwv w 86 j := fun j hj hl => (rwv_fr hF450 (by decide)).trans (os394 j hj hl)
      have hN463 : FA w447 ≠ 0 ∨ 6 ≤ u45 ∨ True := Or.inr (Or.inr trivial)
      have hX464 : FA w447 ≠ 0 ∨ u45 < 6 := by omega
      have hD465 : FA w447 ≠ 0 ∨ (DATA w → DATA w447) := by
        by_cases z : FA w447 ≠ 0
        · exact Or.inl z
        · exact Or.inr (fun hd => hd.s2 hM459 hK48 hM460 (hX464.resolve_left z) hO462 ((hN463.resolve_left z).resolve_left (by have := hX464.resolve_left z; omega)))
      exact xg_e ⟨w447, ⟨rfl, rfl⟩, xMnv.up (S := [85, 82]) hI385 ((xFr.of (S := [85, 82]) hb446 (by decide)).tr (xFr.of (S := [85, 82]) hb449 (by decide))) (List.forall_mem_cons.mpr ⟨(show cpI 7 52 4294967295 (wget w447 85) from ⟨_, (hr445.but hb449 (by decide)), xrb (by omega) (hb38)⟩), List.forall_mem_cons.mpr ⟨(show cp82 (wget w447 82) from ⟨f82_400, f82_402, f82_404, f82_406, f82_408, f82_410, f82_412, f82_414, f82_416, f82_418 + 1, f82_420, f82_421, f82_422, f82_424, f82_426, f82_428, hk448, hb401, hb403, hb405, hb407, hb409, hb411, hb413, hb415, hb417, by omega, hb423, hb425, hb427, hb429, by omega⟩), fun _ h => absurd h List.not_mem_nil⟩⟩), (((((((hF55.up (by decide)).tr (hF102.up (by decide))).tr (hF146.up (by decide))).tr (hF157.up (by decide))).tr (hF203.up (by decide))).tr (hF386.up (by decide))).tr ((xFr.of (S := [82, 83, 85, 86, 87]) hb446 (by decide)).tr (xFr.of (S := [82, 83, 85, 86, 87]) hb449 (by decide)))), ⟨fun h => by have := pq458.1 h; omega, (show fld w447 82 10 = 0 ∨ FA w447 ≠ 0 by omega), Or.inr ⟨by have := ms399; omega, by omega, hM461⟩, hD465⟩⟩
  · refine xg_t (xg_icF (u := u45) (v := 6) rfl xnm0 xnm0 (xj_ltF (by omega) (by omega))) ?_
    refine xg_t (xg_aload (va := (2, 82)) rfl rfl) ?_
    refine xg_t (xg_const) ?_
    refine xg_t (xg_iload (va := (0, at_)) rfl rfl) ?_
    refine xg_cVv mX12_also (vs := [(0, 3), (0, at_)]) (rest := []) (cn1 := 0) (sl1 := 0) rfl (mAlso (hI) (by omega) (by omega) (by omega) (PK.rf hps).2.2.2) rfl h82_31 rfl rfl rfl rfl rfl rfl (fun w466 hq467 => ?_)
    obtain ⟨hI468, hF469, hx470⟩ := hq467
    have pk471 : PK w w466 := ⟨fun _ => hx470, Nat.le_of_eq (mu_fr hF469 (by decide)), fld_fr hF469 (by decide), Or.inr hx470⟩
    have pk472 : PK w w466 := PK.tr (PK.rf hps) pk471
    have os473 : ∀ j, (j < 60 + 2 * u45 ∨ 62 + 2 * u45 ≤ j) → j < 140 → rwv w466 86 j = rwv w 86 j := fun j hj hl => (rwv_fr hF469 (by decide)).trans ((fun j _ _ => rfl) j hj hl)
    have hf474 := fld_fr (c := 82) (j := 7) hF469 (by decide)
    refine xg_t (xg_blk (b := [(64, 1, 0, 0, 0, 0), (65, 3, 13, 110, 96, 190), (68, 1, 2, 1, 0, 0), (69, 39, 33, 362, 0, 9)]) rfl) ?_
    refine xg_t (xg_aload (va := (2, 82)) rfl rfl) ?_
    refine xg_cVv mX12_advance (vs := []) (rest := []) (cn1 := 0) (sl1 := 0) rfl (mAdvance (hI468)) rfl (hF469.get (by decide) h82_31) rfl rfl rfl rfl rfl rfl (fun w475 hq476 => ?_)
    obtain ⟨hI477, hF478, hx479⟩ := hq476
    clear hb2 hb4 hb6 hb8 hb10 hb12 hb14 hb16 hb18 hb20 hb24 hb26 hb28 hb30
    obtain ⟨hv480, hv481, hv482, hv483⟩ := hx479
    have hf485 := FA_fr hF478 (by decide)
    have hs486 := pk472.2.2.2
    unfold PS at hs486
    have pk484 : PK w466 w475 := ⟨fun _ => by omega, hv480, hv483, (show fld w475 82 10 = 0 ∨ FA w475 ≠ 0 by omega)⟩
    clear hs486
    have pk487 : PK w w475 := PK.tr pk472 pk484
    have os488 : ∀ j, (j < 60 + 2 * u45 ∨ 62 + 2 * u45 ≤ j) → j < 140 → rwv w475 86 j = rwv w 86 j := fun j hj hl => (rwv_fr hF478 (by decide)).trans (os473 j hj hl)
    have rg489 : FA w475 ≠ 0 ∨ 0 = 1 := (Or.inl hx470 : FA w466 ≠ 0 ∨ 0 = 1).imp_left pk484.1
    have ms490 : mu w475 < mu w := Nat.lt_of_lt_of_le (hv481 (by omega)) pk472.2.1
    clear hv481
    refine xg_t (xg_iload (va := (0, 2)) rfl rfl) ?_
    refine xg_t (xg_swt (ks := [(0, 108), (1, 116), (2, 180), (3, 221), (4, 273), (5, 326)]) (u := 2) (z := 180) rfl rfl rfl xnm0 (xsw_n (by omega) (xsw_n (by omega) (xsw_y rfl)))) ?_
    refine xg_t (xg_blk (b := [(180, 1, 3, 0, 0, 0), (181, 2, 15, 4, 0, 0)]) rfl) ?_
    refine xg_t (xg_const) ?_
    refine xg_t (xg_istore (l1 := [(3, (0, u45)), (2, (0, at_)), (1, (0, 2)), (0, (2, 82))]) rfl rfl rfl) ?_
    refine xg_t (xg_blk (b := [(183, 2, 2, 4, 0, 0), (185, 1, 3, 2, 0, 0), (186, 3, 6, 218, 3, 0), (189, 1, 0, 0, 0, 0), (190, 1, 2, 1, 0, 0), (191, 1, 2, 3, 0, 0), (192, 2, 4, 60, 0, 0), (194, 1, 3, 2, 0, 0), (195, 1, 2, 3, 0, 0), (196, 1, 16, 0, 0, 0), (197, 1, 11, 0, 0, 0), (198, 2, 2, 4, 0, 0), (200, 1, 11, 0, 0, 0), (201, 1, 0, 0, 0, 0), (202, 1, 3, 1, 0, 0), (203, 3, 5, 9999, 0, 0), (206, 3, 13, 199, 96, 196), (209, 3, 13, 211, 96, 200), (212, 3, 9, 4, 1, 0), (215, 3, 8, 183, 0, 0)]) rfl) ?_
    refine xg_t (xg_iload (va := (0, 0)) rfl rfl) ?_
    refine xg_t (xg_const) ?_
    refine xg_t (xg_icF (u := 0) (v := 2) rfl xnm0 xnm0 (by decide)) ?_
    refine xg_t (xg_aload (va := (2, 82)) rfl rfl) ?_
    refine xg_t (xg_iload (va := (0, 2)) rfl rfl) ?_
    refine xg_t (xg_iload (va := (0, u45)) rfl rfl) ?_
    refine xg_t (xg_bip) ?_
    refine xg_t (xg_const) ?_
    refine xg_t (xg_iload (va := (0, u45)) rfl rfl) ?_
    refine xg_t (xg_imul (u := 2) (v := u45) (z := 2 * u45) xnm0 xnm0 (by omega)) ?_
    refine xg_t (xg_iadd (u := 60) (v := 2 * u45) (z := 60 + (2 * u45)) xnm0 xnm0 (by omega)) ?_
    refine xg_t (xg_iload (va := (0, 0)) rfl rfl) ?_
    refine xg_t (xg_iadd (u := 60 + (2 * u45)) (v := 0) (z := (60 + (2 * u45)) + 0) xnm0 xnm0 (by omega)) ?_
    refine xg_t (xg_aload (va := (2, 82)) rfl rfl) ?_
    refine xg_t (xg_const) ?_
    refine xg_t (xg_sip) ?_
    obtain ⟨f82_491, f82_493, f82_495, f82_497, f82_499, f82_501, f82_503, f82_505, f82_507, f82_509, f82_511, f82_512, f82_513, f82_515, f82_517, f82_519, h82_521, hb492, hb494, hb496, hb498, hb500, hb502, hb504, hb506, hb508, hb510, hb514, hb516, hb518, hb520, hb522⟩ := (hI477 82 (by decide) (by decide) : cp82 (wget w475 82))
    refine xg_cVi mX12_numbered (vs := [(0, 1), (0, 9999)]) (rest := [(0, (60 + (2 * u45)) + 0), (0, u45), (0, 2), (2, 82)]) (cn1 := 0) (sl1 := 0) rfl (mNumbered (hI477) (by omega) (by omega) pk487.2.2.2) rfl h82_521 rfl rfl rfl rfl rfl rfl (fun n527 w523 hq524 => ?_)
    obtain ⟨hn528, hI525, hF526⟩ := hq524
    clear hb492 hb494 hb496 hb498 hb500 hb502 hb504 hb506 hb508 hb510 hb514 hb516 hb518 hb520
    obtain ⟨hn529, hn530, hn531⟩ := hn528
    have pk532 : PK w w523 := PK.tr pk487 hn530
    have os533 : ∀ j, (j < 60 + 2 * u45 ∨ 62 + 2 * u45 ≤ j) → j < 140 → rwv w523 86 j = rwv w 86 j := fun j hj hl => (rwv_fr hF526 (by decide)).trans (os488 j hj hl)
    have rg534 : FA w523 ≠ 0 ∨ 0 = 1 := rg489.imp_left hn530.1
    have ms535 : mu w523 < mu w := Nat.lt_of_le_of_lt hn530.2.1 ms490
    clear rg489
    obtain ⟨f82_536, f82_538, f82_540, f82_542, f82_544, f82_546, f82_548, f82_550, f82_552, f82_554, f82_556, f82_557, f82_558, f82_560, f82_562, f82_564, h82_566, hb537, hb539, hb541, hb543, hb545, hb547, hb549, hb551, hb553, hb555, hb559, hb561, hb563, hb565, hb567⟩ := (hI525 82 (by decide) (by decide) : cp82 (wget w523 82))
    refine xg_cVv mX12_puts (vs := [(0, 2), (0, u45), (0, (60 + (2 * u45)) + 0), (0, n527)]) (rest := []) (cn1 := 0) (sl1 := 0) rfl (mPuts2 (hI525) (by omega) (by omega) (by omega) (fun _ => by omega)) rfl h82_566 rfl rfl rfl rfl rfl rfl (fun w568 hq569 => ?_)
    obtain ⟨hI570, hF571, hx572⟩ := hq569
    obtain ⟨hp573, hp574⟩ := hx572
    have pk575 : PK w w568 := PK.tr pk532 (PK.fr hF571 (by decide) (by decide) pk532.2.2.2)
    have os576 : ∀ j, (j < 60 + 2 * u45 ∨ 62 + 2 * u45 ≤ j) → j < 140 → rwv w568 86 j = rwv w 86 j := fun j hj hl => (hp574 j (by omega) hl).trans (os533 j hj hl)
    have rg577 : FA w568 ≠ 0 ∨ 0 = 1 := rg534.imp_left (PK.fr hF571 (by decide) (by decide) pk532.2.2.2).1
    have rg578 : FA w568 ≠ 0 ∨ (1 ≤ n527 ∧ n527 ≤ 9999) := hn531.imp_left (PK.fr hF571 (by decide) (by decide) pk532.2.2.2).1
    have ms579 : mu w568 < mu w := Nat.lt_of_le_of_lt (PK.fr hF571 (by decide) (by decide) pk532.2.2.2).2.1 ms535
    clear rg534 hn531
    refine xg_t (xg_iinc (u := 0) (z := 1) (l1 := [(3, (0, u45)), (2, (0, at_)), (1, (0, 2)), (0, (2, 82))]) rfl rfl (by decide) rfl) ?_
    refine xg_t (xg_goto) ?_
    refine xg_t (xg_blk (b := [(183, 2, 2, 4, 0, 0), (185, 1, 3, 2, 0, 0), (186, 3, 6, 218, 3, 0), (189, 1, 0, 0, 0, 0), (190, 1, 2, 1, 0, 0), (191, 1, 2, 3, 0, 0), (192, 2, 4, 60, 0, 0), (194, 1, 3, 2, 0, 0), (195, 1, 2, 3, 0, 0), (196, 1, 16, 0, 0, 0), (197, 1, 11, 0, 0, 0), (198, 2, 2, 4, 0, 0), (200, 1, 11, 0, 0, 0), (201, 1, 0, 0, 0, 0), (202, 1, 3, 1, 0, 0), (203, 3, 5, 9999, 0, 0), (206, 3, 13, 199, 96, 196), (209, 3, 13, 211, 96, 200), (212, 3, 9, 4, 1, 0), (215, 3, 8, 183, 0, 0)]) rfl) ?_
    refine xg_t (xg_iload (va := (0, 1)) rfl rfl) ?_
    refine xg_t (xg_const) ?_
    refine xg_t (xg_icF (u := 1) (v := 2) rfl xnm0 xnm0 (by decide)) ?_
    refine xg_t (xg_aload (va := (2, 82)) rfl rfl) ?_
    refine xg_t (xg_iload (va := (0, 2)) rfl rfl) ?_
    refine xg_t (xg_iload (va := (0, u45)) rfl rfl) ?_
    refine xg_t (xg_bip) ?_
    refine xg_t (xg_const) ?_
    refine xg_t (xg_iload (va := (0, u45)) rfl rfl) ?_
    refine xg_t (xg_imul (u := 2) (v := u45) (z := 2 * u45) xnm0 xnm0 (by omega)) ?_
    refine xg_t (xg_iadd (u := 60) (v := 2 * u45) (z := 60 + (2 * u45)) xnm0 xnm0 (by omega)) ?_
    refine xg_t (xg_iload (va := (0, 1)) rfl rfl) ?_
    refine xg_t (xg_iadd (u := 60 + (2 * u45)) (v := 1) (z := (60 + (2 * u45)) + 1) xnm0 xnm0 (by omega)) ?_
    refine xg_t (xg_aload (va := (2, 82)) rfl rfl) ?_
    refine xg_t (xg_const) ?_
    refine xg_t (xg_sip) ?_
    refine xg_cVi mX12_numbered (vs := [(0, 1), (0, 9999)]) (rest := [(0, (60 + (2 * u45)) + 1), (0, u45), (0, 2), (2, 82)]) (cn1 := 0) (sl1 := 0) rfl (mNumbered (hI570) (by omega) (by omega) pk575.2.2.2) rfl (hF571.get (by decide) h82_566) rfl rfl rfl rfl rfl rfl (fun n584 w580 hq581 => ?_)
    obtain ⟨hn585, hI582, hF583⟩ := hq581
    clear hb537 hb539 hb541 hb543 hb545 hb547 hb549 hb551 hb553 hb555 hb559 hb561 hb563 hb565
    obtain ⟨hn586, hn587, hn588⟩ := hn585
    have pk589 : PK w w580 := PK.tr pk575 hn587
    have os590 : ∀ j, (j < 60 + 2 * u45 ∨ 62 + 2 * u45 ≤ j) → j < 140 → rwv w580 86 j = rwv w 86 j := fun j hj hl => (rwv_fr hF583 (by decide)).trans (os576 j hj hl)
    have ix591 : u45 < 6 → rwv w580 86 ((60 + (2 * u45)) + 0) = n527 := fun h => (rwv_fr hF583 (by decide)).trans (hp573 h)
    have rg592 : FA w580 ≠ 0 ∨ 0 = 1 := rg577.imp_left hn587.1
    have rg593 : FA w580 ≠ 0 ∨ (1 ≤ n527 ∧ n527 ≤ 9999) := rg578.imp_left hn587.1
    have ms594 : mu w580 < mu w := Nat.lt_of_le_of_lt hn587.2.1 ms579
    clear hp573 rg577 rg578
    obtain ⟨f82_595, f82_597, f82_599, f82_601, f82_603, f82_605, f82_607, f82_609, f82_611, f82_613, f82_615, f82_616, f82_617, f82_619, f82_621, f82_623, h82_625, hb596, hb598, hb600, hb602, hb604, hb606, hb608, hb610, hb612, hb614, hb618, hb620, hb622, hb624, hb626⟩ := (hI582 82 (by decide) (by decide) : cp82 (wget w580 82))
    refine xg_cVv mX12_puts (vs := [(0, 2), (0, u45), (0, (60 + (2 * u45)) + 1), (0, n584)]) (rest := []) (cn1 := 0) (sl1 := 0) rfl (mPuts2 (hI582) (by omega) (by omega) (by omega) (fun _ => by omega)) rfl h82_625 rfl rfl rfl rfl rfl rfl (fun w627 hq628 => ?_)
    obtain ⟨hI629, hF630, hx631⟩ := hq628
    obtain ⟨hp632, hp633⟩ := hx631
    have pk634 : PK w w627 := PK.tr pk589 (PK.fr hF630 (by decide) (by decide) pk589.2.2.2)
    have os635 : ∀ j, (j < 60 + 2 * u45 ∨ 62 + 2 * u45 ≤ j) → j < 140 → rwv w627 86 j = rwv w 86 j := fun j hj hl => (hp633 j (by omega) hl).trans (os590 j hj hl)
    have ix636 : u45 < 6 → rwv w627 86 ((60 + (2 * u45)) + 0) = n527 := fun h => (hp633 _ (by omega) (by omega)).trans (ix591 h)
    have rg637 : FA w627 ≠ 0 ∨ 0 = 1 := rg592.imp_left (PK.fr hF630 (by decide) (by decide) pk589.2.2.2).1
    have rg638 : FA w627 ≠ 0 ∨ (1 ≤ n527 ∧ n527 ≤ 9999) := rg593.imp_left (PK.fr hF630 (by decide) (by decide) pk589.2.2.2).1
    have rg639 : FA w627 ≠ 0 ∨ (1 ≤ n584 ∧ n584 ≤ 9999) := hn588.imp_left (PK.fr hF630 (by decide) (by decide) pk589.2.2.2).1
    have ms640 : mu w627 < mu w := Nat.lt_of_le_of_lt (PK.fr hF630 (by decide) (by decide) pk589.2.2.2).2.1 ms594
    clear ix591 rg592 rg593 hn588
    refine xg_t (xg_iinc (u := 1) (z := 2) (l1 := [(3, (0, u45)), (2, (0, at_)), (1, (0, 2)), (0, (2, 82))]) rfl rfl (by decide) rfl) ?_
    refine xg_t (xg_goto) ?_
    refine xg_t (xg_blk (b := [(183, 2, 2, 4, 0, 0), (185, 1, 3, 2, 0, 0), (186, 3, 6, 218, 3, 0), (189, 1, 0, 0, 0, 0), (190, 1, 2, 1, 0, 0), (191, 1, 2, 3, 0, 0), (192, 2, 4, 60, 0, 0), (194, 1, 3, 2, 0, 0), (195, 1, 2, 3, 0, 0), (196, 1, 16, 0, 0, 0), (197, 1, 11, 0, 0, 0), (198, 2, 2, 4, 0, 0), (200, 1, 11, 0, 0, 0), (201, 1, 0, 0, 0, 0), (202, 1, 3, 1, 0, 0), (203, 3, 5, 9999, 0, 0), (206, 3, 13, 199, 96, 196), (209, 3, 13, 211, 96, 200), (212, 3, 9, 4, 1, 0), (215, 3, 8, 183, 0, 0)]) rfl) ?_
    refine xg_t (xg_iload (va := (0, 2)) rfl rfl) ?_
    refine xg_t (xg_const) ?_
    refine xg_t (xg_icT (u := 2) (v := 2) rfl xnm0 xnm0 (by decide)) ?_
    refine xg_t (xg_blk (b := [(218, 3, 8, 394, 0, 0)]) rfl) ?_
    refine xg_t (xg_goto) ?_
    refine xg_t (xg_blk (b := [(394, 1, 0, 0, 0, 0), (395, 3, 1, 12, 10, 180), (398, 3, 7, 416, 1, 0), (401, 1, 0, 0, 0, 0), (402, 3, 1, 12, 7, 151), (405, 1, 3, 2, 0, 0), (406, 3, 6, 416, 1, 0), (409, 1, 0, 0, 0, 0), (410, 3, 13, 110, 96, 190), (413, 3, 8, 420, 0, 0)]) rfl) ?_
    refine xg_t (xg_aload (va := (2, 82)) rfl rfl) ?_
    refine xg_t (xg_getf (va := (0, f82_611)) (hF630.get (by decide) h82_625) rfl) ?_
    by_cases hc641 : f82_611 = 0
    · refine xg_t (xg_ifF (u := f82_611) rfl xnm0 (xj_neF hc641)) ?_
      refine xg_t (xg_aload (va := (2, 82)) rfl rfl) ?_
      refine xg_t (xg_getf (va := (0, f82_605)) (hF630.get (by decide) h82_625) rfl) ?_
      refine xg_t (xg_const) ?_
      by_cases hc642 : f82_605 = 2
      · refine xg_t (xg_icF (u := f82_605) (v := 2) rfl xnm0 xnm0 (xj_neF hc642)) ?_
        refine xg_t (xg_aload (va := (2, 82)) rfl rfl) ?_
        refine xg_cVv mX12_advance (vs := []) (rest := []) (cn1 := 0) (sl1 := 0) rfl (mAdvance (hI629)) rfl (hF630.get (by decide) h82_625) rfl rfl rfl rfl rfl rfl (fun w643 hq644 => ?_)
        obtain ⟨hI645, hF646, hx647⟩ := hq644
        clear hb596 hb598 hb600 hb602 hb604 hb606 hb608 hb610 hb612 hb614 hb618 hb620 hb622 hb624
        obtain ⟨hv648, hv649, hv650, hv651⟩ := hx647
        have hf653 := FA_fr hF646 (by decide)
        have hs654 := pk634.2.2.2
        unfold PS at hs654
        have pk652 : PK w627 w643 := ⟨fun _ => by omega, hv648, hv651, (show fld w643 82 10 = 0 ∨ FA w643 ≠ 0 by omega)⟩
        clear hs654
        clear hv649
        have pk655 : PK w w643 := PK.tr pk634 pk652
        have os656 : ∀ j, (j < 60 + 2 * u45 ∨ 62 + 2 * u45 ≤ j) → j < 140 → rwv w643 86 j = rwv w 86 j := fun j hj hl => (rwv_fr hF646 (by decide)).trans (os635 j hj hl)
        have ix657 : u45 < 6 → rwv w643 86 ((60 + (2 * u45)) + 0) = n527 := fun h => (rwv_fr hF646 (by decide)).trans (ix636 h)
        have ix658 : u45 < 6 → rwv w643 86 ((60 + (2 * u45)) + 1) = n584 := fun h => (rwv_fr hF646 (by decide)).trans (hp632 h)
        have rg659 : FA w643 ≠ 0 ∨ 0 = 1 := rg637.imp_left pk652.1
        have rg660 : FA w643 ≠ 0 ∨ (1 ≤ n527 ∧ n527 ≤ 9999) := rg638.imp_left pk652.1
        have rg661 : FA w643 ≠ 0 ∨ (1 ≤ n584 ∧ n584 ≤ 9999) := rg639.imp_left pk652.1
        have ms662 : mu w643 < mu w := Nat.lt_of_le_of_lt pk652.2.1 ms640
        clear ix636 hp632 rg637 rg638 rg639
        refine xg_t (xg_goto) ?_
        refine xg_t (xg_blk (b := [(420, 1, 0, 0, 0, 0), (421, 3, 1, 12, 11, 17), (424, 1, 2, 1, 0, 0), (425, 1, 39, 0, 0, 0), (426, 1, 10, 0, 0, 0), (427, 1, 3, 1, 0, 0), (428, 1, 11, 0, 0, 0), (429, 1, 17, 0, 0, 0), (430, 1, 0, 0, 0, 0), (431, 1, 19, 0, 0, 0), (432, 3, 1, 12, 14, 212), (435, 1, 3, 1, 0, 0), (436, 1, 11, 0, 0, 0), (437, 3, 14, 12, 14, 212), (440, 1, 12, 0, 0, 0)]) rfl) ?_
        obtain ⟨f82_663, f82_665, f82_667, f82_669, f82_671, f82_673, f82_675, f82_677, f82_679, f82_681, f82_683, f82_684, f82_685, f82_687, f82_689, f82_691, h82_693, hb664, hb666, hb668, hb670, hb672, hb674, hb676, hb678, hb680, hb682, hb686, hb688, hb690, hb692, hb694⟩ := (hI645 82 (by decide) (by decide) : cp82 (wget w643 82))
        have hf695 : fld w643 82 4 = f82_667 := fld_of h82_693
        have hf696 : fld w643 82 5 = f82_669 := fld_of h82_693
        have hf697 : fld w643 82 7 = f82_673 := fld_of h82_693
        have hf698 : fld w643 82 10 = f82_679 := fld_of h82_693
        have hf699 : fld w643 82 14 = f82_681 := fld_of h82_693
        have hu700 : mu w643 = 2 * (fld w643 82 4 - fld w643 82 5) + min 1 (fld w643 82 7) := rfl
        have hf701 := pk655.2.2.1
        have hl702 : f82_681 ≤ 1000 := by omega
        refine xg_t (xg_aload (va := (2, 82)) rfl rfl) ?_
        refine xg_t (xg_getf (va := (2, 85)) h82_693 rfl) ?_
        refine xg_t (xg_iload (va := (0, 2)) rfl rfl) ?_
        refine xg_t (xg_dup2 rfl) ?_
        refine xg_ialdB (n := 2) (B := 4294967295) (((((((h85_37.fr hF469 (by decide)).fr hF478 (by decide)).fr hF526 (by decide)).fr hF571 (by decide)).fr hF583 (by decide)).fr hF630 (by decide)).fr hF646 (by decide)) (hb38) xnm0 (by omega) (fun u703 hu704 he705 => ?_)
        have hl706 : u703 = u45 := by omega
        refine xg_t (xg_const) ?_
        refine xg_t (xg_iadd (u := u703) (v := 1) (z := u703 + 1) xnm0 xnm0 (by omega)) ?_
        refine xg_iastK (n := 2) (u := u703 + 1) (((((((h85_37.fr hF469 (by decide)).fr hF478 (by decide)).fr hF526 (by decide)).fr hF571 (by decide)).fr hF583 (by decide)).fr hF630 (by decide)).fr hF646 (by decide)) xnm0 xnm0 rfl (by omega) (fun w707 hr708 hb709 => ?_)
        refine xg_t (xg_aload (va := (2, 82)) rfl rfl) ?_
        refine xg_t (xg_dup rfl) ?_
        refine xg_t (xg_getf (va := (0, f82_681)) (hb709.get (by decide) h82_693) rfl) ?_
        refine xg_t (xg_const) ?_
        refine xg_t (xg_iadd (u := f82_681) (v := 1) (z := f82_681 + 1) xnm0 xnm0 (by omega)) ?_
        refine xg_putI (fl1 := [(2, 83), (2, 84), (0, f82_663), (0, f82_665), (0, f82_667), (0, f82_669), (0, f82_671), (0, f82_673), (0, f82_675), (0, f82_677), (0, f82_679), (2, 85), (2, 86), (2, 87), (0, f82_681 + 1), (2, 88), (2, 89), (2, 90), (2, 91), (2, 92), (2, 93), (2, 94), (4, f82_683), (4, f82_684), (0, f82_685), (2, 95), (2, 96), (2, 97), (2, 98), (2, 99), (2, 100), (2, 101), (2, 102), (0, f82_687), (2, 103), (2, 104), (2, 105), (2, 106), (2, 107), (2, 108), (2, 109), (0, f82_689), (0, f82_691), (2, 110), (2, 111), (2, 112), (2, 113)]) (hb709.get (by decide) h82_693) rfl rfl rfl (fun w710 hk711 hb712 => ?_)
        have hF713 : xFr [82, 85] w643 w710 := ((xFr.of (S := [82, 85]) hb709 (by decide)).tr (xFr.of (S := [82, 85]) hb712 (by decide)))
        have hA714 := FA_fr hF713 (by decide)
        have hf715 : fld w710 82 4 = f82_667 := fld_of hk711
        have hf716 : fld w710 82 5 = f82_669 := fld_of hk711
        have hf717 : fld w710 82 7 = f82_673 := fld_of hk711
        have hf718 : fld w710 82 10 = f82_679 := fld_of hk711
        have hf719 : fld w710 82 14 = f82_681 + 1 := fld_of hk711
        have hu720 : mu w710 = 2 * (fld w710 82 4 - fld w710 82 5) + min 1 (fld w710 82 7) := rfl
        have pq721 := pk655
        unfold PK PS at pq721
        have hM722 : ∀ s, s < 7 → s ≠ 2 → rwv w710 85 s = rwv w 85 s := fun s hs hn => (rwv_of (hr708.but hb712 (by decide)) hs).trans ((if_neg hn).trans (rwv_of h85_37 hs).symm)
        have hM723 : rwv w710 85 2 = u45 + 1 := (rwv_of (hr708.but hb712 (by decide)) (by decide)).trans ((if_pos rfl).trans (by omega))
        have hM724 : ∀ s, s < 7 → rwv w710 85 s ≤ rwv w 85 s + 1 := fun s hs => by
          by_cases z : s = 2
          · subst z; omega
          · rw [hM722 s hs z]; omega
        have hO725 : ∀ j, (j < 60 + 2 * u45 ∨ 62 + 2 * u45 ≤ j) → j < 140 → rwv w710 86 j = rwv w 86 j := fun j hj hl => (rwv_fr hF713 (by decide)).trans (os656 j hj hl)
        have hl727 : FA w643 ≠ 0 ∨ 0 = 1 := rg659
        have hN726 : FA w710 ≠ 0 ∨ 6 ≤ u45 ∨ True := Or.inr (Or.inr trivial)
        have hX728 : FA w710 ≠ 0 ∨ u45 < 6 := by omega
        have hD729 : FA w710 ≠ 0 ∨ (DATA w → DATA w710) := by
          by_cases z : FA w710 ≠ 0
          · exact Or.inl z
          · exact Or.inr (fun hd => hd.s2 hM722 hK48 hM723 (hX728.resolve_left z) hO725 ((hN726.resolve_left z).resolve_left (by have := hX728.resolve_left z; omega)))
        exact xg_e ⟨w710, ⟨rfl, rfl⟩, xMnv.up (S := [85, 82]) hI645 ((xFr.of (S := [85, 82]) hb709 (by decide)).tr (xFr.of (S := [85, 82]) hb712 (by decide))) (List.forall_mem_cons.mpr ⟨(show cpI 7 52 4294967295 (wget w710 85) from ⟨_, (hr708.but hb712 (by decide)), xrb (by omega) (hb38)⟩), List.forall_mem_cons.mpr ⟨(show cp82 (wget w710 82) from ⟨f82_663, f82_665, f82_667, f82_669, f82_671, f82_673, f82_675, f82_677, f82_679, f82_681 + 1, f82_683, f82_684, f82_685, f82_687, f82_689, f82_691, hk711, hb664, hb666, hb668, hb670, hb672, hb674, hb676, hb678, hb680, by omega, hb686, hb688, hb690, hb692, by omega⟩), fun _ h => absurd h List.not_mem_nil⟩⟩), ((((((((hF469.up (by decide)).tr (hF478.up (by decide))).tr (hF526.up (by decide))).tr (hF571.up (by decide))).tr (hF583.up (by decide))).tr (hF630.up (by decide))).tr (hF646.up (by decide))).tr ((xFr.of (S := [82, 83, 85, 86, 87]) hb709 (by decide)).tr (xFr.of (S := [82, 83, 85, 86, 87]) hb712 (by decide)))), ⟨fun h => by have := pq721.1 h; omega, (show fld w710 82 10 = 0 ∨ FA w710 ≠ 0 by omega), Or.inr ⟨by have := ms662; omega, by omega, hM724⟩, hD729⟩⟩
      · refine xg_t (xg_icT (u := f82_605) (v := 2) rfl xnm0 xnm0 (xj_neT hc642)) ?_
        refine xg_t (xg_blk (b := [(416, 1, 0, 0, 0, 0), (417, 3, 13, 140, 96, 183)]) rfl) ?_
        refine xg_t (xg_aload (va := (2, 82)) rfl rfl) ?_
        refine xg_cVv mX12_ends (vs := []) (rest := []) (cn1 := 0) (sl1 := 0) rfl (mEnds (hI629) pk634.2.2.2) rfl (hF630.get (by decide) h82_625) rfl rfl rfl rfl rfl rfl (fun w730 hq731 => ?_)
        obtain ⟨hI732, hF733, hx734⟩ := hq731
        clear hb596 hb598 hb600 hb602 hb604 hb606 hb608 hb610 hb612 hb614 hb618 hb620 hb622 hb624
        obtain ⟨hv735, hv736, hv737, hv738⟩ := hx734
        have pk739 : PK w627 w730 := ⟨fun _ => hv735, by omega, by omega, Or.inr hv735⟩
        have pk740 : PK w w730 := PK.tr pk634 pk739
        have os741 : ∀ j, (j < 60 + 2 * u45 ∨ 62 + 2 * u45 ≤ j) → j < 140 → rwv w730 86 j = rwv w 86 j := fun j hj hl => (rwv_fr hF733 (by decide)).trans (os635 j hj hl)
        have ix742 : u45 < 6 → rwv w730 86 ((60 + (2 * u45)) + 0) = n527 := fun h => (rwv_fr hF733 (by decide)).trans (ix636 h)
        have ix743 : u45 < 6 → rwv w730 86 ((60 + (2 * u45)) + 1) = n584 := fun h => (rwv_fr hF733 (by decide)).trans (hp632 h)
        have rg744 : FA w730 ≠ 0 ∨ 0 = 1 := rg637.imp_left pk739.1
        have rg745 : FA w730 ≠ 0 ∨ (1 ≤ n527 ∧ n527 ≤ 9999) := rg638.imp_left pk739.1
        have rg746 : FA w730 ≠ 0 ∨ (1 ≤ n584 ∧ n584 ≤ 9999) := rg639.imp_left pk739.1
        have ms747 : mu w730 < mu w := Nat.lt_of_le_of_lt pk739.2.1 ms640
        clear ix636 hp632 rg637 rg638 rg639
        refine xg_t (xg_blk (b := [(420, 1, 0, 0, 0, 0), (421, 3, 1, 12, 11, 17), (424, 1, 2, 1, 0, 0), (425, 1, 39, 0, 0, 0), (426, 1, 10, 0, 0, 0), (427, 1, 3, 1, 0, 0), (428, 1, 11, 0, 0, 0), (429, 1, 17, 0, 0, 0), (430, 1, 0, 0, 0, 0), (431, 1, 19, 0, 0, 0), (432, 3, 1, 12, 14, 212), (435, 1, 3, 1, 0, 0), (436, 1, 11, 0, 0, 0), (437, 3, 14, 12, 14, 212), (440, 1, 12, 0, 0, 0)]) rfl) ?_
        obtain ⟨f82_748, f82_750, f82_752, f82_754, f82_756, f82_758, f82_760, f82_762, f82_764, f82_766, f82_768, f82_769, f82_770, f82_772, f82_774, f82_776, h82_778, hb749, hb751, hb753, hb755, hb757, hb759, hb761, hb763, hb765, hb767, hb771, hb773, hb775, hb777, hb779⟩ := (hI732 82 (by decide) (by decide) : cp82 (wget w730 82))
        have hf780 : fld w730 82 4 = f82_752 := fld_of h82_778
        have hf781 : fld w730 82 5 = f82_754 := fld_of h82_778
        have hf782 : fld w730 82 7 = f82_758 := fld_of h82_778
        have hf783 : fld w730 82 10 = f82_764 := fld_of h82_778
        have hf784 : fld w730 82 14 = f82_766 := fld_of h82_778
        have hu785 : mu w730 = 2 * (fld w730 82 4 - fld w730 82 5) + min 1 (fld w730 82 7) := rfl
        have hf786 := pk740.2.2.1
        have hl787 : f82_766 ≤ 1000 := by omega
        refine xg_t (xg_aload (va := (2, 82)) rfl rfl) ?_
        refine xg_t (xg_getf (va := (2, 85)) h82_778 rfl) ?_
        refine xg_t (xg_iload (va := (0, 2)) rfl rfl) ?_
        refine xg_t (xg_dup2 rfl) ?_
        refine xg_ialdB (n := 2) (B := 4294967295) (((((((h85_37.fr hF469 (by decide)).fr hF478 (by decide)).fr hF526 (by decide)).fr hF571 (by decide)).fr hF583 (by decide)).fr hF630 (by decide)).fr hF733 (by decide)) (hb38) xnm0 (by omega) (fun u788 hu789 he790 => ?_)
        have hl791 : u788 = u45 := by omega
        refine xg_t (xg_const) ?_
        refine xg_t (xg_iadd (u := u788) (v := 1) (z := u788 + 1) xnm0 xnm0 (by omega)) ?_
        refine xg_iastK (n := 2) (u := u788 + 1) (((((((h85_37.fr hF469 (by decide)).fr hF478 (by decide)).fr hF526 (by decide)).fr hF571 (by decide)).fr hF583 (by decide)).fr hF630 (by decide)).fr hF733 (by decide)) xnm0 xnm0 rfl (by omega) (fun w792 hr793 hb794 => ?_)
        refine xg_t (xg_aload (va := (2, 82)) rfl rfl) ?_
        refine xg_t (xg_dup rfl) ?_
        refine xg_t (xg_getf (va := (0, f82_766)) (hb794.get (by decide) h82_778) rfl) ?_
        refine xg_t (xg_const) ?_
        refine xg_t (xg_iadd (u := f82_766) (v := 1) (z := f82_766 + 1) xnm0 xnm0 (by omega)) ?_
        refine xg_putI (fl1 := [(2, 83), (2, 84), (0, f82_748), (0, f82_750), (0, f82_752), (0, f82_754), (0, f82_756), (0, f82_758), (0, f82_760), (0, f82_762), (0, f82_764), (2, 85), (2, 86), (2, 87), (0, f82_766 + 1), (2, 88), (2, 89), (2, 90), (2, 91), (2, 92), (2, 93), (2, 94), (4, f82_768), (4, f82_769), (0, f82_770), (2, 95), (2, 96), (2, 97), (2, 98), (2, 99), (2, 100), (2, 101), (2, 102), (0, f82_772), (2, 103), (2, 104), (2, 105), (2, 106), (2, 107), (2, 108), (2, 109), (0, f82_774), (0, f82_776), (2, 110), (2, 111), (2, 112), (2, 113)]) (hb794.get (by decide) h82_778) rfl rfl rfl (fun w795 hk796 hb797 => ?_)
        have hF798 : xFr [82, 85] w730 w795 := ((xFr.of (S := [82, 85]) hb794 (by decide)).tr (xFr.of (S := [82, 85]) hb797 (by decide)))
        have hA799 := FA_fr hF798 (by decide)
        have hf800 : fld w795 82 4 = f82_752 := fld_of hk796
        have hf801 : fld w795 82 5 = f82_754 := fld_of hk796
        have hf802 : fld w795 82 7 = f82_758 := fld_of hk796
        have hf803 : fld w795 82 10 = f82_764 := fld_of hk796
        have hf804 : fld w795 82 14 = f82_766 + 1 := fld_of hk796
        have hu805 : mu w795 = 2 * (fld w795 82 4 - fld w795 82 5) + min 1 (fld w795 82 7) := rfl
        have pq806 := pk740
        unfold PK PS at pq806
        have hM807 : ∀ s, s < 7 → s ≠ 2 → rwv w795 85 s = rwv w 85 s := fun s hs hn => (rwv_of (hr793.but hb797 (by decide)) hs).trans ((if_neg hn).trans (rwv_of h85_37 hs).symm)
        have hM808 : rwv w795 85 2 = u45 + 1 := (rwv_of (hr793.but hb797 (by decide)) (by decide)).trans ((if_pos rfl).trans (by omega))
        have hM809 : ∀ s, s < 7 → rwv w795 85 s ≤ rwv w 85 s + 1 := fun s hs => by
          by_cases z : s = 2
          · subst z; omega
          · rw [hM807 s hs z]; omega
        have hO810 : ∀ j, (j < 60 + 2 * u45 ∨ 62 + 2 * u45 ≤ j) → j < 140 → rwv w795 86 j = rwv w 86 j := fun j hj hl => (rwv_fr hF798 (by decide)).trans (os741 j hj hl)
        have hl812 : FA w730 ≠ 0 ∨ 0 = 1 := rg744
        have hN811 : FA w795 ≠ 0 ∨ 6 ≤ u45 ∨ True := Or.inr (Or.inr trivial)
        have hX813 : FA w795 ≠ 0 ∨ u45 < 6 := by omega
        have hD814 : FA w795 ≠ 0 ∨ (DATA w → DATA w795) := by
          by_cases z : FA w795 ≠ 0
          · exact Or.inl z
          · exact Or.inr (fun hd => hd.s2 hM807 hK48 hM808 (hX813.resolve_left z) hO810 ((hN811.resolve_left z).resolve_left (by have := hX813.resolve_left z; omega)))
        exact xg_e ⟨w795, ⟨rfl, rfl⟩, xMnv.up (S := [85, 82]) hI732 ((xFr.of (S := [85, 82]) hb794 (by decide)).tr (xFr.of (S := [85, 82]) hb797 (by decide))) (List.forall_mem_cons.mpr ⟨(show cpI 7 52 4294967295 (wget w795 85) from ⟨_, (hr793.but hb797 (by decide)), xrb (by omega) (hb38)⟩), List.forall_mem_cons.mpr ⟨(show cp82 (wget w795 82) from ⟨f82_748, f82_750, f82_752, f82_754, f82_756, f82_758, f82_760, f82_762, f82_764, f82_766 + 1, f82_768, f82_769, f82_770, f82_772, f82_774, f82_776, hk796, hb749, hb751, hb753, hb755, hb757, hb759, hb761, hb763, hb765, by omega, hb771, hb773, hb775, hb777, by omega⟩), fun _ h => absurd h List.not_mem_nil⟩⟩), ((((((((hF469.up (by decide)).tr (hF478.up (by decide))).tr (hF526.up (by decide))).tr (hF571.up (by decide))).tr (hF583.up (by decide))).tr (hF630.up (by decide))).tr (hF733.up (by decide))).tr ((xFr.of (S := [82, 83, 85, 86, 87]) hb794 (by decide)).tr (xFr.of (S := [82, 83, 85, 86, 87]) hb797 (by decide)))), ⟨fun h => by have := pq806.1 h; omega, (show fld w795 82 10 = 0 ∨ FA w795 ≠ 0 by omega), Or.inr ⟨by have := ms747; omega, by omega, hM809⟩, hD814⟩⟩
    · refine xg_t (xg_ifT (u := f82_611) rfl xnm0 (xj_neT hc641)) ?_
      refine xg_t (xg_blk (b := [(416, 1, 0, 0, 0, 0), (417, 3, 13, 140, 96, 183)]) rfl) ?_
      refine xg_t (xg_aload (va := (2, 82)) rfl rfl) ?_
      refine xg_cVv mX12_ends (vs := []) (rest := []) (cn1 := 0) (sl1 := 0) rfl (mEnds (hI629) pk634.2.2.2) rfl (hF630.get (by decide) h82_625) rfl rfl rfl rfl rfl rfl (fun w815 hq816 => ?_)
      obtain ⟨hI817, hF818, hx819⟩ := hq816
      clear hb596 hb598 hb600 hb602 hb604 hb606 hb608 hb610 hb612 hb614 hb618 hb620 hb622 hb624
      obtain ⟨hv820, hv821, hv822, hv823⟩ := hx819
      have pk824 : PK w627 w815 := ⟨fun _ => hv820, by omega, by omega, Or.inr hv820⟩
      have pk825 : PK w w815 := PK.tr pk634 pk824
      have os826 : ∀ j, (j < 60 + 2 * u45 ∨ 62 + 2 * u45 ≤ j) → j < 140 → rwv w815 86 j = rwv w 86 j := fun j hj hl => (rwv_fr hF818 (by decide)).trans (os635 j hj hl)
      have ix827 : u45 < 6 → rwv w815 86 ((60 + (2 * u45)) + 0) = n527 := fun h => (rwv_fr hF818 (by decide)).trans (ix636 h)
      have ix828 : u45 < 6 → rwv w815 86 ((60 + (2 * u45)) + 1) = n584 := fun h => (rwv_fr hF818 (by decide)).trans (hp632 h)
      have rg829 : FA w815 ≠ 0 ∨ 0 = 1 := rg637.imp_left pk824.1
      have rg830 : FA w815 ≠ 0 ∨ (1 ≤ n527 ∧ n527 ≤ 9999) := rg638.imp_left pk824.1
      have rg831 : FA w815 ≠ 0 ∨ (1 ≤ n584 ∧ n584 ≤ 9999) := rg639.imp_left pk824.1
      have ms832 : mu w815 < mu w := Nat.lt_of_le_of_lt pk824.2.1 ms640
      clear ix636 hp632 rg637 rg638 rg639
      refine xg_t (xg_blk (b := [(420, 1, 0, 0, 0, 0), (421, 3, 1, 12, 11, 17), (424, 1, 2, 1, 0, 0), (425, 1, 39, 0, 0, 0), (426, 1, 10, 0, 0, 0), (427, 1, 3, 1, 0, 0), (428, 1, 11, 0, 0, 0), (429, 1, 17, 0, 0, 0), (430, 1, 0, 0, 0, 0), (431, 1, 19, 0, 0, 0), (432, 3, 1, 12, 14, 212), (435, 1, 3, 1, 0, 0), (436, 1, 11, 0, 0, 0), (437, 3, 14, 12, 14, 212), (440, 1, 12, 0, 0, 0)]) rfl) ?_
      obtain ⟨f82_833, f82_835, f82_837, f82_839, f82_841, f82_843, f82_845, f82_847, f82_849, f82_851, f82_853, f82_854, f82_855, f82_857, f82_859, f82_861, h82_863, hb834, hb836, hb838, hb840, hb842, hb844, hb846, hb848, hb850, hb852, hb856, hb858, hb860, hb862, hb864⟩ := (hI817 82 (by decide) (by decide) : cp82 (wget w815 82))
      have hf865 : fld w815 82 4 = f82_837 := fld_of h82_863
      have hf866 : fld w815 82 5 = f82_839 := fld_of h82_863
      have hf867 : fld w815 82 7 = f82_843 := fld_of h82_863
      have hf868 : fld w815 82 10 = f82_849 := fld_of h82_863
      have hf869 : fld w815 82 14 = f82_851 := fld_of h82_863
      have hu870 : mu w815 = 2 * (fld w815 82 4 - fld w815 82 5) + min 1 (fld w815 82 7) := rfl
      have hf871 := pk825.2.2.1
      have hl872 : f82_851 ≤ 1000 := by omega
      refine xg_t (xg_aload (va := (2, 82)) rfl rfl) ?_
      refine xg_t (xg_getf (va := (2, 85)) h82_863 rfl) ?_
      refine xg_t (xg_iload (va := (0, 2)) rfl rfl) ?_
      refine xg_t (xg_dup2 rfl) ?_
      refine xg_ialdB (n := 2) (B := 4294967295) (((((((h85_37.fr hF469 (by decide)).fr hF478 (by decide)).fr hF526 (by decide)).fr hF571 (by decide)).fr hF583 (by decide)).fr hF630 (by decide)).fr hF818 (by decide)) (hb38) xnm0 (by omega) (fun u873 hu874 he875 => ?_)
      have hl876 : u873 = u45 := by omega
      refine xg_t (xg_const) ?_
      refine xg_t (xg_iadd (u := u873) (v := 1) (z := u873 + 1) xnm0 xnm0 (by omega)) ?_
      refine xg_iastK (n := 2) (u := u873 + 1) (((((((h85_37.fr hF469 (by decide)).fr hF478 (by decide)).fr hF526 (by decide)).fr hF571 (by decide)).fr hF583 (by decide)).fr hF630 (by decide)).fr hF818 (by decide)) xnm0 xnm0 rfl (by omega) (fun w877 hr878 hb879 => ?_)
      refine xg_t (xg_aload (va := (2, 82)) rfl rfl) ?_
      refine xg_t (xg_dup rfl) ?_
      refine xg_t (xg_getf (va := (0, f82_851)) (hb879.get (by decide) h82_863) rfl) ?_
      refine xg_t (xg_const) ?_
      refine xg_t (xg_iadd (u := f82_851) (v := 1) (z := f82_851 + 1) xnm0 xnm0 (by omega)) ?_
      refine xg_putI (fl1 := [(2, 83), (2, 84), (0, f82_833), (0, f82_835), (0, f82_837), (0, f82_839), (0, f82_841), (0, f82_843), (0, f82_845), (0, f82_847), (0, f82_849), (2, 85), (2, 86), (2, 87), (0, f82_851 + 1), (2, 88), (2, 89), (2, 90), (2, 91), (2, 92), (2, 93), (2, 94), (4, f82_853), (4, f82_854), (0, f82_855), (2, 95), (2, 96), (2, 97), (2, 98), (2, 99), (2, 100), (2, 101), (2, 102), (0, f82_857), (2, 103), (2, 104), (2, 105), (2, 106), (2, 107), (2, 108), (2, 109), (0, f82_859), (0, f82_861), (2, 110), (2, 111), (2, 112), (2, 113)]) (hb879.get (by decide) h82_863) rfl rfl rfl (fun w880 hk881 hb882 => ?_)
      have hF883 : xFr [82, 85] w815 w880 := ((xFr.of (S := [82, 85]) hb879 (by decide)).tr (xFr.of (S := [82, 85]) hb882 (by decide)))
      have hA884 := FA_fr hF883 (by decide)
      have hf885 : fld w880 82 4 = f82_837 := fld_of hk881
      have hf886 : fld w880 82 5 = f82_839 := fld_of hk881
      have hf887 : fld w880 82 7 = f82_843 := fld_of hk881
      have hf888 : fld w880 82 10 = f82_849 := fld_of hk881
      have hf889 : fld w880 82 14 = f82_851 + 1 := fld_of hk881
      have hu890 : mu w880 = 2 * (fld w880 82 4 - fld w880 82 5) + min 1 (fld w880 82 7) := rfl
      have pq891 := pk825
      unfold PK PS at pq891
      have hM892 : ∀ s, s < 7 → s ≠ 2 → rwv w880 85 s = rwv w 85 s := fun s hs hn => (rwv_of (hr878.but hb882 (by decide)) hs).trans ((if_neg hn).trans (rwv_of h85_37 hs).symm)
      have hM893 : rwv w880 85 2 = u45 + 1 := (rwv_of (hr878.but hb882 (by decide)) (by decide)).trans ((if_pos rfl).trans (by omega))
      have hM894 : ∀ s, s < 7 → rwv w880 85 s ≤ rwv w 85 s + 1 := fun s hs => by
        by_cases z : s = 2
        · subst z; omega
        · rw [hM892 s hs z]; omega
      have hO895 : ∀ j, (j < 60 + 2 * u45 ∨ 62 + 2 * u45 ≤ j) → j < 140 → rwv w880 86 j = rwv w 86 j := fun j hj hl => (rwv_fr hF883 (by decide)).trans (os826 j hj hl)
      have hl897 : FA w815 ≠ 0 ∨ 0 = 1 := rg829
      have hN896 : FA w880 ≠ 0 ∨ 6 ≤ u45 ∨ True := Or.inr (Or.inr trivial)
      have hX898 : FA w880 ≠ 0 ∨ u45 < 6 := by omega
      have hD899 : FA w880 ≠ 0 ∨ (DATA w → DATA w880) := by
        by_cases z : FA w880 ≠ 0
        · exact Or.inl z
        · exact Or.inr (fun hd => hd.s2 hM892 hK48 hM893 (hX898.resolve_left z) hO895 ((hN896.resolve_left z).resolve_left (by have := hX898.resolve_left z; omega)))
      exact xg_e ⟨w880, ⟨rfl, rfl⟩, xMnv.up (S := [85, 82]) hI817 ((xFr.of (S := [85, 82]) hb879 (by decide)).tr (xFr.of (S := [85, 82]) hb882 (by decide))) (List.forall_mem_cons.mpr ⟨(show cpI 7 52 4294967295 (wget w880 85) from ⟨_, (hr878.but hb882 (by decide)), xrb (by omega) (hb38)⟩), List.forall_mem_cons.mpr ⟨(show cp82 (wget w880 82) from ⟨f82_833, f82_835, f82_837, f82_839, f82_841, f82_843, f82_845, f82_847, f82_849, f82_851 + 1, f82_853, f82_854, f82_855, f82_857, f82_859, f82_861, hk881, hb834, hb836, hb838, hb840, hb842, hb844, hb846, hb848, hb850, by omega, hb856, hb858, hb860, hb862, by omega⟩), fun _ h => absurd h List.not_mem_nil⟩⟩), ((((((((hF469.up (by decide)).tr (hF478.up (by decide))).tr (hF526.up (by decide))).tr (hF571.up (by decide))).tr (hF583.up (by decide))).tr (hF630.up (by decide))).tr (hF818.up (by decide))).tr ((xFr.of (S := [82, 83, 85, 86, 87]) hb879 (by decide)).tr (xFr.of (S := [82, 83, 85, 86, 87]) hb882 (by decide)))), ⟨fun h => by have := pq891.1 h; omega, (show fld w880 82 10 = 0 ∨ FA w880 ≠ 0 by omega), Or.inr ⟨by have := ms832; omega, by omega, hM894⟩, hD899⟩⟩
set_option maxHeartbeats 60000000 in
theorem mALineS3 {at_ : Nat} (hI : xMnv w) (hps : PS w) (hmb : ∀ s, s < 7 → rwv w 85 s ≤ 1000) (hln : fld w 82 14 ≤ 1000) (h7 : fld w 82 7 = 3) (hat : at_ ≤ 4294967295) : xTo (d + 7) mX12_aLine (43, [], [(2, (0, at_)), (1, (0, 3)), (0, (2, 82))], [], (w, bd, fc, 0, 0, rr)) (fun φ => ∃ w', xEnd 0 [] (w', bd, fc, 0, 0, rr) φ ∧ xMnv w' ∧ xFr [82, 83, 85, 86, 87] w w' ∧ ((FA w ≠ 0 → FA w' ≠ 0) ∧ PS w' ∧ ((fld w' 82 10 = 1 ∧ mu w' = mu w ∧ fld w' 82 14 = fld w 82 14 ∧ ∀ s, s < 7 → rwv w' 85 s = rwv w 85 s) ∨ (mu w' < mu w ∧ fld w' 82 14 = fld w 82 14 + 1 ∧ ∀ s, s < 7 → rwv w' 85 s ≤ rwv w 85 s + 1)) ∧ (FA w' ≠ 0 ∨ (DATA w → DATA w')))) := by
  obtain ⟨f82_1, f82_3, f82_5, f82_7, f82_9, f82_11, f82_13, f82_15, f82_17, f82_19, f82_21, f82_22, f82_23, f82_25, f82_27, f82_29, h82_31, hb2, hb4, hb6, hb8, hb10, hb12, hb14, hb16, hb18, hb20, hb24, hb26, hb28, hb30, hb32⟩ := (hI 82 (by decide) (by decide) : cp82 (wget w 82))
  have hf33 : fld w 82 7 = f82_11 := fld_of h82_31
  have hf34 : fld w 82 10 = f82_17 := fld_of h82_31
  have hf35 : fld w 82 14 = f82_19 := fld_of h82_31
  have hps_ : fld w 82 10 = 0 ∨ FA w ≠ 0 := hps
  obtain ⟨g85_36, h85_37, hb38⟩ := (hI 85 (by decide) (by decide) : cpI 7 52 4294967295 (wget w 85))
  have h85_37 : xRow w 85 7 52 g85_36 := h85_37
  obtain ⟨g86_39, h86_40, hb41⟩ := (hI 86 (by decide) (by decide) : cpI 140 53 4294967295 (wget w 86))
  have h86_40 : xRow w 86 140 53 g86_39 := h86_40
  obtain ⟨g87_42, h87_43, hb44⟩ := (hI 87 (by decide) (by decide) : cpI 20 54 4294967295 (wget w 87))
  have h87_43 : xRow w 87 20 54 g87_42 := h87_43
  refine xg_t (xg_blk (b := [(43, 1, 0, 0, 0, 0), (44, 3, 1, 12, 11, 17), (47, 1, 2, 1, 0, 0), (48, 1, 10, 0, 0, 0), (49, 1, 15, 3, 0, 0), (50, 1, 2, 3, 0, 0), (51, 1, 2, 1, 0, 0), (52, 3, 13, 194, 98, 193), (55, 3, 6, 64, 2, 0), (58, 1, 0, 0, 0, 0), (59, 1, 3, 3, 0, 0), (60, 1, 2, 2, 0, 0), (61, 3, 13, 115, 96, 186)]) rfl) ?_
  refine xg_t (xg_aload (va := (2, 82)) rfl rfl) ?_
  refine xg_t (xg_getf (va := (2, 85)) h82_31 rfl) ?_
  refine xg_t (xg_iload (va := (0, 3)) rfl rfl) ?_
  refine xg_ialdB (n := 3) (B := 4294967295) h85_37 (hb38) xnm0 (by omega) (fun u45 hu46 he47 => ?_)
  have hK48 : rwv w 85 3 = u45 := (rwv_of h85_37 (by decide)).trans he47
  have hm49 := hmb 3 (by decide)
  have hl50 : u45 ≤ 1000 := by omega
  refine xg_t (xg_istore (l1 := [(2, (0, at_)), (1, (0, 3)), (0, (2, 82))]) rfl rfl rfl) ?_
  refine xg_t (xg_iload (va := (0, u45)) rfl rfl) ?_
  refine xg_t (xg_iload (va := (0, 3)) rfl rfl) ?_
  refine xg_t (xg_cSr mX12_mostOf (vs := [(0, 3)]) (rest := [(0, u45)]) (rs := [(0, 4), (0, u45)]) (cn1 := 0) (sl1 := 0) rfl (mMostR3) rfl rfl rfl rfl rfl rfl rfl rfl) ?_
  by_cases hc51 : u45 < 4
  · refine xg_t (xg_icT (u := u45) (v := 4) rfl xnm0 xnm0 (xj_ltT hc51 (by omega))) ?_
    refine xg_t (xg_blk (b := [(64, 1, 0, 0, 0, 0), (65, 3, 13, 110, 96, 190), (68, 1, 2, 1, 0, 0), (69, 39, 33, 362, 0, 9)]) rfl) ?_
    refine xg_t (xg_aload (va := (2, 82)) rfl rfl) ?_
    refine xg_cVv mX12_advance (vs := []) (rest := []) (cn1 := 0) (sl1 := 0) rfl (mAdvance (hI)) rfl h82_31 rfl rfl rfl rfl rfl rfl (fun w52 hq53 => ?_)
    obtain ⟨hI54, hF55, hx56⟩ := hq53
    clear hb2 hb4 hb6 hb8 hb10 hb12 hb14 hb16 hb18 hb20 hb24 hb26 hb28 hb30
    obtain ⟨hv57, hv58, hv59, hv60⟩ := hx56
    have hf62 := FA_fr hF55 (by decide)
    have hs63 := (PK.rf hps).2.2.2
    unfold PS at hs63
    have pk61 : PK w w52 := ⟨fun _ => by omega, hv57, hv60, (show fld w52 82 10 = 0 ∨ FA w52 ≠ 0 by omega)⟩
    clear hs63
    have pk64 : PK w w52 := PK.tr (PK.rf hps) pk61
    have os65 : ∀ j, (j < 80 + 3 * u45 ∨ 83 + 3 * u45 ≤ j) → j < 140 → rwv w52 86 j = rwv w 86 j := fun j hj hl => (rwv_fr hF55 (by decide)).trans ((fun j _ _ => rfl) j hj hl)
    have ms66 : mu w52 < mu w := Nat.lt_of_lt_of_le (hv58 (by omega)) (PK.rf hps).2.1
    clear hv58
    refine xg_t (xg_iload (va := (0, 3)) rfl rfl) ?_
    refine xg_t (xg_swt (ks := [(0, 108), (1, 116), (2, 180), (3, 221), (4, 273), (5, 326)]) (u := 3) (z := 221) rfl rfl rfl xnm0 (xsw_n (by omega) (xsw_n (by omega) (xsw_n (by omega) (xsw_y rfl))))) ?_
    refine xg_t (xg_blk (b := [(221, 1, 3, 0, 0, 0), (222, 2, 15, 4, 0, 0)]) rfl) ?_
    refine xg_t (xg_const) ?_
    refine xg_t (xg_istore (l1 := [(3, (0, u45)), (2, (0, at_)), (1, (0, 3)), (0, (2, 82))]) rfl rfl rfl) ?_
    refine xg_t (xg_blk (b := [(224, 2, 2, 4, 0, 0), (226, 1, 3, 3, 0, 0), (227, 3, 6, 270, 3, 0), (230, 1, 0, 0, 0, 0), (231, 1, 2, 1, 0, 0), (232, 1, 2, 3, 0, 0), (233, 2, 4, 80, 0, 0), (235, 1, 3, 3, 0, 0), (236, 1, 2, 3, 0, 0), (237, 1, 16, 0, 0, 0), (238, 1, 11, 0, 0, 0), (239, 2, 2, 4, 0, 0), (241, 1, 11, 0, 0, 0), (242, 1, 0, 0, 0, 0), (243, 1, 3, 1, 0, 0), (244, 2, 2, 4, 0, 0), (246, 1, 3, 2, 0, 0), (247, 3, 6, 255, 3, 0), (250, 2, 4, 10, 0, 0), (252, 3, 8, 258, 0, 0)]) rfl) ?_
    refine xg_t (xg_iload (va := (0, 0)) rfl rfl) ?_
    refine xg_t (xg_const) ?_
    refine xg_t (xg_icF (u := 0) (v := 3) rfl xnm0 xnm0 (by decide)) ?_
    refine xg_t (xg_aload (va := (2, 82)) rfl rfl) ?_
    refine xg_t (xg_iload (va := (0, 3)) rfl rfl) ?_
    refine xg_t (xg_iload (va := (0, u45)) rfl rfl) ?_
    refine xg_t (xg_bip) ?_
    refine xg_t (xg_const) ?_
    refine xg_t (xg_iload (va := (0, u45)) rfl rfl) ?_
    refine xg_t (xg_imul (u := 3) (v := u45) (z := 3 * u45) xnm0 xnm0 (by omega)) ?_
    refine xg_t (xg_iadd (u := 80) (v := 3 * u45) (z := 80 + (3 * u45)) xnm0 xnm0 (by omega)) ?_
    refine xg_t (xg_iload (va := (0, 0)) rfl rfl) ?_
    refine xg_t (xg_iadd (u := 80 + (3 * u45)) (v := 0) (z := (80 + (3 * u45)) + 0) xnm0 xnm0 (by omega)) ?_
    refine xg_t (xg_aload (va := (2, 82)) rfl rfl) ?_
    refine xg_t (xg_const) ?_
    refine xg_t (xg_iload (va := (0, 0)) rfl rfl) ?_
    refine xg_t (xg_const) ?_
    refine xg_t (xg_icF (u := 0) (v := 2) rfl xnm0 xnm0 (by decide)) ?_
    refine xg_t (xg_bip) ?_
    refine xg_t (xg_goto) ?_
    refine xg_t (xg_blk (b := [(258, 3, 13, 199, 96, 196), (261, 3, 13, 211, 96, 200), (264, 3, 9, 4, 1, 0), (267, 3, 8, 224, 0, 0)]) rfl) ?_
    obtain ⟨f82_67, f82_69, f82_71, f82_73, f82_75, f82_77, f82_79, f82_81, f82_83, f82_85, f82_87, f82_88, f82_89, f82_91, f82_93, f82_95, h82_97, hb68, hb70, hb72, hb74, hb76, hb78, hb80, hb82, hb84, hb86, hb90, hb92, hb94, hb96, hb98⟩ := (hI54 82 (by decide) (by decide) : cp82 (wget w52 82))
    refine xg_cVi mX12_numbered (vs := [(0, 1), (0, 10)]) (rest := [(0, (80 + (3 * u45)) + 0), (0, u45), (0, 3), (2, 82)]) (cn1 := 0) (sl1 := 0) rfl (mNumbered (hI54) (by omega) (by omega) pk64.2.2.2) rfl h82_97 rfl rfl rfl rfl rfl rfl (fun n103 w99 hq100 => ?_)
    obtain ⟨hn104, hI101, hF102⟩ := hq100
    clear hb68 hb70 hb72 hb74 hb76 hb78 hb80 hb82 hb84 hb86 hb90 hb92 hb94 hb96
    obtain ⟨hn105, hn106, hn107⟩ := hn104
    have pk108 : PK w w99 := PK.tr pk64 hn106
    have os109 : ∀ j, (j < 80 + 3 * u45 ∨ 83 + 3 * u45 ≤ j) → j < 140 → rwv w99 86 j = rwv w 86 j := fun j hj hl => (rwv_fr hF102 (by decide)).trans (os65 j hj hl)
    have ms110 : mu w99 < mu w := Nat.lt_of_le_of_lt hn106.2.1 ms66
    obtain ⟨f82_111, f82_113, f82_115, f82_117, f82_119, f82_121, f82_123, f82_125, f82_127, f82_129, f82_131, f82_132, f82_133, f82_135, f82_137, f82_139, h82_141, hb112, hb114, hb116, hb118, hb120, hb122, hb124, hb126, hb128, hb130, hb134, hb136, hb138, hb140, hb142⟩ := (hI101 82 (by decide) (by decide) : cp82 (wget w99 82))
    refine xg_cVv mX12_puts (vs := [(0, 3), (0, u45), (0, (80 + (3 * u45)) + 0), (0, n103)]) (rest := []) (cn1 := 0) (sl1 := 0) rfl (mPuts3 (hI101) (by omega) (by omega) (by omega) (fun _ => by omega)) rfl h82_141 rfl rfl rfl rfl rfl rfl (fun w143 hq144 => ?_)
    obtain ⟨hI145, hF146, hx147⟩ := hq144
    obtain ⟨hp148, hp149⟩ := hx147
    have pk150 : PK w w143 := PK.tr pk108 (PK.fr hF146 (by decide) (by decide) pk108.2.2.2)
    have os151 : ∀ j, (j < 80 + 3 * u45 ∨ 83 + 3 * u45 ≤ j) → j < 140 → rwv w143 86 j = rwv w 86 j := fun j hj hl => (hp149 j (by omega) hl).trans (os109 j hj hl)
    have rg152 : FA w143 ≠ 0 ∨ (1 ≤ n103 ∧ n103 ≤ 10) := hn107.imp_left (PK.fr hF146 (by decide) (by decide) pk108.2.2.2).1
    have ms153 : mu w143 < mu w := Nat.lt_of_le_of_lt (PK.fr hF146 (by decide) (by decide) pk108.2.2.2).2.1 ms110
    clear hn107
    refine xg_t (xg_iinc (u := 0) (z := 1) (l1 := [(3, (0, u45)), (2, (0, at_)), (1, (0, 3)), (0, (2, 82))]) rfl rfl (by decide) rfl) ?_
    refine xg_t (xg_goto) ?_
    refine xg_t (xg_blk (b := [(224, 2, 2, 4, 0, 0), (226, 1, 3, 3, 0, 0), (227, 3, 6, 270, 3, 0), (230, 1, 0, 0, 0, 0), (231, 1, 2, 1, 0, 0), (232, 1, 2, 3, 0, 0), (233, 2, 4, 80, 0, 0), (235, 1, 3, 3, 0, 0), (236, 1, 2, 3, 0, 0), (237, 1, 16, 0, 0, 0), (238, 1, 11, 0, 0, 0), (239, 2, 2, 4, 0, 0), (241, 1, 11, 0, 0, 0), (242, 1, 0, 0, 0, 0), (243, 1, 3, 1, 0, 0), (244, 2, 2, 4, 0, 0), (246, 1, 3, 2, 0, 0), (247, 3, 6, 255, 3, 0), (250, 2, 4, 10, 0, 0), (252, 3, 8, 258, 0, 0)]) rfl) ?_
    refine xg_t (xg_iload (va := (0, 1)) rfl rfl) ?_
    refine xg_t (xg_const) ?_
    refine xg_t (xg_icF (u := 1) (v := 3) rfl xnm0 xnm0 (by decide)) ?_
    refine xg_t (xg_aload (va := (2, 82)) rfl rfl) ?_
    refine xg_t (xg_iload (va := (0, 3)) rfl rfl) ?_
    refine xg_t (xg_iload (va := (0, u45)) rfl rfl) ?_
    refine xg_t (xg_bip) ?_
    refine xg_t (xg_const) ?_
    refine xg_t (xg_iload (va := (0, u45)) rfl rfl) ?_
    refine xg_t (xg_imul (u := 3) (v := u45) (z := 3 * u45) xnm0 xnm0 (by omega)) ?_
    refine xg_t (xg_iadd (u := 80) (v := 3 * u45) (z := 80 + (3 * u45)) xnm0 xnm0 (by omega)) ?_
    refine xg_t (xg_iload (va := (0, 1)) rfl rfl) ?_
    refine xg_t (xg_iadd (u := 80 + (3 * u45)) (v := 1) (z := (80 + (3 * u45)) + 1) xnm0 xnm0 (by omega)) ?_
    refine xg_t (xg_aload (va := (2, 82)) rfl rfl) ?_
    refine xg_t (xg_const) ?_
    refine xg_t (xg_iload (va := (0, 1)) rfl rfl) ?_
    refine xg_t (xg_const) ?_
    refine xg_t (xg_icF (u := 1) (v := 2) rfl xnm0 xnm0 (by decide)) ?_
    refine xg_t (xg_bip) ?_
    refine xg_t (xg_goto) ?_
    refine xg_t (xg_blk (b := [(258, 3, 13, 199, 96, 196), (261, 3, 13, 211, 96, 200), (264, 3, 9, 4, 1, 0), (267, 3, 8, 224, 0, 0)]) rfl) ?_
    refine xg_cVi mX12_numbered (vs := [(0, 1), (0, 10)]) (rest := [(0, (80 + (3 * u45)) + 1), (0, u45), (0, 3), (2, 82)]) (cn1 := 0) (sl1 := 0) rfl (mNumbered (hI145) (by omega) (by omega) pk150.2.2.2) rfl (hF146.get (by decide) h82_141) rfl rfl rfl rfl rfl rfl (fun n158 w154 hq155 => ?_)
    obtain ⟨hn159, hI156, hF157⟩ := hq155
    clear hb112 hb114 hb116 hb118 hb120 hb122 hb124 hb126 hb128 hb130 hb134 hb136 hb138 hb140
    obtain ⟨hn160, hn161, hn162⟩ := hn159
    have pk163 : PK w w154 := PK.tr pk150 hn161
    have os164 : ∀ j, (j < 80 + 3 * u45 ∨ 83 + 3 * u45 ≤ j) → j < 140 → rwv w154 86 j = rwv w 86 j := fun j hj hl => (rwv_fr hF157 (by decide)).trans (os151 j hj hl)
    have ix165 : u45 < 4 → rwv w154 86 ((80 + (3 * u45)) + 0) = n103 := fun h => (rwv_fr hF157 (by decide)).trans (hp148 h)
    have rg166 : FA w154 ≠ 0 ∨ (1 ≤ n103 ∧ n103 ≤ 10) := rg152.imp_left hn161.1
    have ms167 : mu w154 < mu w := Nat.lt_of_le_of_lt hn161.2.1 ms153
    clear hp148 rg152
    obtain ⟨f82_168, f82_170, f82_172, f82_174, f82_176, f82_178, f82_180, f82_182, f82_184, f82_186, f82_188, f82_189, f82_190, f82_192, f82_194, f82_196, h82_198, hb169, hb171, hb173, hb175, hb177, hb179, hb181, hb183, hb185, hb187, hb191, hb193, hb195, hb197, hb199⟩ := (hI156 82 (by decide) (by decide) : cp82 (wget w154 82))
    refine xg_cVv mX12_puts (vs := [(0, 3), (0, u45), (0, (80 + (3 * u45)) + 1), (0, n158)]) (rest := []) (cn1 := 0) (sl1 := 0) rfl (mPuts3 (hI156) (by omega) (by omega) (by omega) (fun _ => by omega)) rfl h82_198 rfl rfl rfl rfl rfl rfl (fun w200 hq201 => ?_)
    obtain ⟨hI202, hF203, hx204⟩ := hq201
    obtain ⟨hp205, hp206⟩ := hx204
    have pk207 : PK w w200 := PK.tr pk163 (PK.fr hF203 (by decide) (by decide) pk163.2.2.2)
    have os208 : ∀ j, (j < 80 + 3 * u45 ∨ 83 + 3 * u45 ≤ j) → j < 140 → rwv w200 86 j = rwv w 86 j := fun j hj hl => (hp206 j (by omega) hl).trans (os164 j hj hl)
    have ix209 : u45 < 4 → rwv w200 86 ((80 + (3 * u45)) + 0) = n103 := fun h => (hp206 _ (by omega) (by omega)).trans (ix165 h)
    have rg210 : FA w200 ≠ 0 ∨ (1 ≤ n103 ∧ n103 ≤ 10) := rg166.imp_left (PK.fr hF203 (by decide) (by decide) pk163.2.2.2).1
    have rg211 : FA w200 ≠ 0 ∨ (1 ≤ n158 ∧ n158 ≤ 10) := hn162.imp_left (PK.fr hF203 (by decide) (by decide) pk163.2.2.2).1
    have ms212 : mu w200 < mu w := Nat.lt_of_le_of_lt (PK.fr hF203 (by decide) (by decide) pk163.2.2.2).2.1 ms167
    clear ix165 rg166 hn162
    refine xg_t (xg_iinc (u := 1) (z := 2) (l1 := [(3, (0, u45)), (2, (0, at_)), (1, (0, 3)), (0, (2, 82))]) rfl rfl (by decide) rfl) ?_
    refine xg_t (xg_goto) ?_
    refine xg_t (xg_blk (b := [(224, 2, 2, 4, 0, 0), (226, 1, 3, 3, 0, 0), (227, 3, 6, 270, 3, 0), (230, 1, 0, 0, 0, 0), (231, 1, 2, 1, 0, 0), (232, 1, 2, 3, 0, 0), (233, 2, 4, 80, 0, 0), (235, 1, 3, 3, 0, 0), (236, 1, 2, 3, 0, 0), (237, 1, 16, 0, 0, 0), (238, 1, 11, 0, 0, 0), (239, 2, 2, 4, 0, 0), (241, 1, 11, 0, 0, 0), (242, 1, 0, 0, 0, 0), (243, 1, 3, 1, 0, 0), (244, 2, 2, 4, 0, 0), (246, 1, 3, 2, 0, 0), (247, 3, 6, 255, 3, 0), (250, 2, 4, 10, 0, 0), (252, 3, 8, 258, 0, 0)]) rfl) ?_
    refine xg_t (xg_iload (va := (0, 2)) rfl rfl) ?_
    refine xg_t (xg_const) ?_
    refine xg_t (xg_icF (u := 2) (v := 3) rfl xnm0 xnm0 (by decide)) ?_
    refine xg_t (xg_aload (va := (2, 82)) rfl rfl) ?_
    refine xg_t (xg_iload (va := (0, 3)) rfl rfl) ?_
    refine xg_t (xg_iload (va := (0, u45)) rfl rfl) ?_
    refine xg_t (xg_bip) ?_
    refine xg_t (xg_const) ?_
    refine xg_t (xg_iload (va := (0, u45)) rfl rfl) ?_
    refine xg_t (xg_imul (u := 3) (v := u45) (z := 3 * u45) xnm0 xnm0 (by omega)) ?_
    refine xg_t (xg_iadd (u := 80) (v := 3 * u45) (z := 80 + (3 * u45)) xnm0 xnm0 (by omega)) ?_
    refine xg_t (xg_iload (va := (0, 2)) rfl rfl) ?_
    refine xg_t (xg_iadd (u := 80 + (3 * u45)) (v := 2) (z := (80 + (3 * u45)) + 2) xnm0 xnm0 (by omega)) ?_
    refine xg_t (xg_aload (va := (2, 82)) rfl rfl) ?_
    refine xg_t (xg_const) ?_
    refine xg_t (xg_iload (va := (0, 2)) rfl rfl) ?_
    refine xg_t (xg_const) ?_
    refine xg_t (xg_icT (u := 2) (v := 2) rfl xnm0 xnm0 (by decide)) ?_
    refine xg_t (xg_blk (b := [(255, 3, 5, 999, 0, 0)]) rfl) ?_
    refine xg_t (xg_sip) ?_
    refine xg_t (xg_blk (b := [(258, 3, 13, 199, 96, 196), (261, 3, 13, 211, 96, 200), (264, 3, 9, 4, 1, 0), (267, 3, 8, 224, 0, 0)]) rfl) ?_
    refine xg_cVi mX12_numbered (vs := [(0, 1), (0, 999)]) (rest := [(0, (80 + (3 * u45)) + 2), (0, u45), (0, 3), (2, 82)]) (cn1 := 0) (sl1 := 0) rfl (mNumbered (hI202) (by omega) (by omega) pk207.2.2.2) rfl (hF203.get (by decide) h82_198) rfl rfl rfl rfl rfl rfl (fun n217 w213 hq214 => ?_)
    obtain ⟨hn218, hI215, hF216⟩ := hq214
    clear hb169 hb171 hb173 hb175 hb177 hb179 hb181 hb183 hb185 hb187 hb191 hb193 hb195 hb197
    obtain ⟨hn219, hn220, hn221⟩ := hn218
    have pk222 : PK w w213 := PK.tr pk207 hn220
    have os223 : ∀ j, (j < 80 + 3 * u45 ∨ 83 + 3 * u45 ≤ j) → j < 140 → rwv w213 86 j = rwv w 86 j := fun j hj hl => (rwv_fr hF216 (by decide)).trans (os208 j hj hl)
    have ix224 : u45 < 4 → rwv w213 86 ((80 + (3 * u45)) + 0) = n103 := fun h => (rwv_fr hF216 (by decide)).trans (ix209 h)
    have ix225 : u45 < 4 → rwv w213 86 ((80 + (3 * u45)) + 1) = n158 := fun h => (rwv_fr hF216 (by decide)).trans (hp205 h)
    have rg226 : FA w213 ≠ 0 ∨ (1 ≤ n103 ∧ n103 ≤ 10) := rg210.imp_left hn220.1
    have rg227 : FA w213 ≠ 0 ∨ (1 ≤ n158 ∧ n158 ≤ 10) := rg211.imp_left hn220.1
    have ms228 : mu w213 < mu w := Nat.lt_of_le_of_lt hn220.2.1 ms212
    clear ix209 hp205 rg210 rg211
    obtain ⟨f82_229, f82_231, f82_233, f82_235, f82_237, f82_239, f82_241, f82_243, f82_245, f82_247, f82_249, f82_250, f82_251, f82_253, f82_255, f82_257, h82_259, hb230, hb232, hb234, hb236, hb238, hb240, hb242, hb244, hb246, hb248, hb252, hb254, hb256, hb258, hb260⟩ := (hI215 82 (by decide) (by decide) : cp82 (wget w213 82))
    refine xg_cVv mX12_puts (vs := [(0, 3), (0, u45), (0, (80 + (3 * u45)) + 2), (0, n217)]) (rest := []) (cn1 := 0) (sl1 := 0) rfl (mPuts3 (hI215) (by omega) (by omega) (by omega) (fun _ => by omega)) rfl h82_259 rfl rfl rfl rfl rfl rfl (fun w261 hq262 => ?_)
    obtain ⟨hI263, hF264, hx265⟩ := hq262
    obtain ⟨hp266, hp267⟩ := hx265
    have pk268 : PK w w261 := PK.tr pk222 (PK.fr hF264 (by decide) (by decide) pk222.2.2.2)
    have os269 : ∀ j, (j < 80 + 3 * u45 ∨ 83 + 3 * u45 ≤ j) → j < 140 → rwv w261 86 j = rwv w 86 j := fun j hj hl => (hp267 j (by omega) hl).trans (os223 j hj hl)
    have ix270 : u45 < 4 → rwv w261 86 ((80 + (3 * u45)) + 0) = n103 := fun h => (hp267 _ (by omega) (by omega)).trans (ix224 h)
    have ix271 : u45 < 4 → rwv w261 86 ((80 + (3 * u45)) + 1) = n158 := fun h => (hp267 _ (by omega) (by omega)).trans (ix225 h)
    have rg272 : FA w261 ≠ 0 ∨ (1 ≤ n103 ∧ n103 ≤ 10) := rg226.imp_left (PK.fr hF264 (by decide) (by decide) pk222.2.2.2).1
    have rg273 : FA w261 ≠ 0 ∨ (1 ≤ n158 ∧ n158 ≤ 10) := rg227.imp_left (PK.fr hF264 (by decide) (by decide) pk222.2.2.2).1
    have rg274 : FA w261 ≠ 0 ∨ (1 ≤ n217 ∧ n217 ≤ 999) := hn221.imp_left (PK.fr hF264 (by decide) (by decide) pk222.2.2.2).1
    have ms275 : mu w261 < mu w := Nat.lt_of_le_of_lt (PK.fr hF264 (by decide) (by decide) pk222.2.2.2).2.1 ms228
    clear ix224 ix225 rg226 rg227 hn221
    refine xg_t (xg_iinc (u := 2) (z := 3) (l1 := [(3, (0, u45)), (2, (0, at_)), (1, (0, 3)), (0, (2, 82))]) rfl rfl (by decide) rfl) ?_
    refine xg_t (xg_goto) ?_
    refine xg_t (xg_blk (b := [(224, 2, 2, 4, 0, 0), (226, 1, 3, 3, 0, 0), (227, 3, 6, 270, 3, 0), (230, 1, 0, 0, 0, 0), (231, 1, 2, 1, 0, 0), (232, 1, 2, 3, 0, 0), (233, 2, 4, 80, 0, 0), (235, 1, 3, 3, 0, 0), (236, 1, 2, 3, 0, 0), (237, 1, 16, 0, 0, 0), (238, 1, 11, 0, 0, 0), (239, 2, 2, 4, 0, 0), (241, 1, 11, 0, 0, 0), (242, 1, 0, 0, 0, 0), (243, 1, 3, 1, 0, 0), (244, 2, 2, 4, 0, 0), (246, 1, 3, 2, 0, 0), (247, 3, 6, 255, 3, 0), (250, 2, 4, 10, 0, 0), (252, 3, 8, 258, 0, 0)]) rfl) ?_
    refine xg_t (xg_iload (va := (0, 3)) rfl rfl) ?_
    refine xg_t (xg_const) ?_
    refine xg_t (xg_icT (u := 3) (v := 3) rfl xnm0 xnm0 (by decide)) ?_
    refine xg_t (xg_blk (b := [(270, 3, 8, 394, 0, 0)]) rfl) ?_
    refine xg_t (xg_goto) ?_
    refine xg_t (xg_blk (b := [(394, 1, 0, 0, 0, 0), (395, 3, 1, 12, 10, 180), (398, 3, 7, 416, 1, 0), (401, 1, 0, 0, 0, 0), (402, 3, 1, 12, 7, 151), (405, 1, 3, 2, 0, 0), (406, 3, 6, 416, 1, 0), (409, 1, 0, 0, 0, 0), (410, 3, 13, 110, 96, 190), (413, 3, 8, 420, 0, 0)]) rfl) ?_
    refine xg_t (xg_aload (va := (2, 82)) rfl rfl) ?_
    refine xg_t (xg_getf (va := (0, f82_245)) (hF264.get (by decide) h82_259) rfl) ?_
    by_cases hc276 : f82_245 = 0
    · refine xg_t (xg_ifF (u := f82_245) rfl xnm0 (xj_neF hc276)) ?_
      refine xg_t (xg_aload (va := (2, 82)) rfl rfl) ?_
      refine xg_t (xg_getf (va := (0, f82_239)) (hF264.get (by decide) h82_259) rfl) ?_
      refine xg_t (xg_const) ?_
      by_cases hc277 : f82_239 = 2
      · refine xg_t (xg_icF (u := f82_239) (v := 2) rfl xnm0 xnm0 (xj_neF hc277)) ?_
        refine xg_t (xg_aload (va := (2, 82)) rfl rfl) ?_
        refine xg_cVv mX12_advance (vs := []) (rest := []) (cn1 := 0) (sl1 := 0) rfl (mAdvance (hI263)) rfl (hF264.get (by decide) h82_259) rfl rfl rfl rfl rfl rfl (fun w278 hq279 => ?_)
        obtain ⟨hI280, hF281, hx282⟩ := hq279
        clear hb230 hb232 hb234 hb236 hb238 hb240 hb242 hb244 hb246 hb248 hb252 hb254 hb256 hb258
        obtain ⟨hv283, hv284, hv285, hv286⟩ := hx282
        have hf288 := FA_fr hF281 (by decide)
        have hs289 := pk268.2.2.2
        unfold PS at hs289
        have pk287 : PK w261 w278 := ⟨fun _ => by omega, hv283, hv286, (show fld w278 82 10 = 0 ∨ FA w278 ≠ 0 by omega)⟩
        clear hs289
        clear hv284
        have pk290 : PK w w278 := PK.tr pk268 pk287
        have os291 : ∀ j, (j < 80 + 3 * u45 ∨ 83 + 3 * u45 ≤ j) → j < 140 → rwv w278 86 j = rwv w 86 j := fun j hj hl => (rwv_fr hF281 (by decide)).trans (os269 j hj hl)
        have ix292 : u45 < 4 → rwv w278 86 ((80 + (3 * u45)) + 0) = n103 := fun h => (rwv_fr hF281 (by decide)).trans (ix270 h)
        have ix293 : u45 < 4 → rwv w278 86 ((80 + (3 * u45)) + 1) = n158 := fun h => (rwv_fr hF281 (by decide)).trans (ix271 h)
        have ix294 : u45 < 4 → rwv w278 86 ((80 + (3 * u45)) + 2) = n217 := fun h => (rwv_fr hF281 (by decide)).trans (hp266 h)
        have rg295 : FA w278 ≠ 0 ∨ (1 ≤ n103 ∧ n103 ≤ 10) := rg272.imp_left pk287.1
        have rg296 : FA w278 ≠ 0 ∨ (1 ≤ n158 ∧ n158 ≤ 10) := rg273.imp_left pk287.1
        have rg297 : FA w278 ≠ 0 ∨ (1 ≤ n217 ∧ n217 ≤ 999) := rg274.imp_left pk287.1
        have ms298 : mu w278 < mu w := Nat.lt_of_le_of_lt pk287.2.1 ms275
        clear ix270 ix271 hp266 rg272 rg273 rg274
        refine xg_t (xg_goto) ?_
        refine xg_t (xg_blk (b := [(420, 1, 0, 0, 0, 0), (421, 3, 1, 12, 11, 17), (424, 1, 2, 1, 0, 0), (425, 1, 39, 0, 0, 0), (426, 1, 10, 0, 0, 0), (427, 1, 3, 1, 0, 0), (428, 1, 11, 0, 0, 0), (429, 1, 17, 0, 0, 0), (430, 1, 0, 0, 0, 0), (431, 1, 19, 0, 0, 0), (432, 3, 1, 12, 14, 212), (435, 1, 3, 1, 0, 0), (436, 1, 11, 0, 0, 0), (437, 3, 14, 12, 14, 212), (440, 1, 12, 0, 0, 0)]) rfl) ?_
        obtain ⟨f82_299, f82_301, f82_303, f82_305, f82_307, f82_309, f82_311, f82_313, f82_315, f82_317, f82_319, f82_320, f82_321, f82_323, f82_325, f82_327, h82_329, hb300, hb302, hb304, hb306, hb308, hb310, hb312, hb314, hb316, hb318, hb322, hb324, hb326, hb328, hb330⟩ := (hI280 82 (by decide) (by decide) : cp82 (wget w278 82))
        have hf331 : fld w278 82 4 = f82_303 := fld_of h82_329
        have hf332 : fld w278 82 5 = f82_305 := fld_of h82_329
        have hf333 : fld w278 82 7 = f82_309 := fld_of h82_329
        have hf334 : fld w278 82 10 = f82_315 := fld_of h82_329
        have hf335 : fld w278 82 14 = f82_317 := fld_of h82_329
        have hu336 : mu w278 = 2 * (fld w278 82 4 - fld w278 82 5) + min 1 (fld w278 82 7) := rfl
        have hf337 := pk290.2.2.1
        have hl338 : f82_317 ≤ 1000 := by omega
        refine xg_t (xg_aload (va := (2, 82)) rfl rfl) ?_
        refine xg_t (xg_getf (va := (2, 85)) h82_329 rfl) ?_
        refine xg_t (xg_iload (va := (0, 3)) rfl rfl) ?_
        refine xg_t (xg_dup2 rfl) ?_
        refine xg_ialdB (n := 3) (B := 4294967295) ((((((((h85_37.fr hF55 (by decide)).fr hF102 (by decide)).fr hF146 (by decide)).fr hF157 (by decide)).fr hF203 (by decide)).fr hF216 (by decide)).fr hF264 (by decide)).fr hF281 (by decide)) (hb38) xnm0 (by omega) (fun u339 hu340 he341 => ?_)
        have hl342 : u339 = u45 := by omega
        refine xg_t (xg_const) ?_
        refine xg_t (xg_iadd (u := u339) (v := 1) (z := u339 + 1) xnm0 xnm0 (by omega)) ?_
        refine xg_iastK (n := 3) (u := u339 + 1) ((((((((h85_37.fr hF55 (by decide)).fr hF102 (by decide)).fr hF146 (by decide)).fr hF157 (by decide)).fr hF203 (by decide)).fr hF216 (by decide)).fr hF264 (by decide)).fr hF281 (by decide)) xnm0 xnm0 rfl (by omega) (fun w343 hr344 hb345 => ?_)
        refine xg_t (xg_aload (va := (2, 82)) rfl rfl) ?_
        refine xg_t (xg_dup rfl) ?_
        refine xg_t (xg_getf (va := (0, f82_317)) (hb345.get (by decide) h82_329) rfl) ?_
        refine xg_t (xg_const) ?_
        refine xg_t (xg_iadd (u := f82_317) (v := 1) (z := f82_317 + 1) xnm0 xnm0 (by omega)) ?_
        refine xg_putI (fl1 := [(2, 83), (2, 84), (0, f82_299), (0, f82_301), (0, f82_303), (0, f82_305), (0, f82_307), (0, f82_309), (0, f82_311), (0, f82_313), (0, f82_315), (2, 85), (2, 86), (2, 87), (0, f82_317 + 1), (2, 88), (2, 89), (2, 90), (2, 91), (2, 92), (2, 93), (2, 94), (4, f82_319), (4, f82_320), (0, f82_321), (2, 95), (2, 96), (2, 97), (2, 98), (2, 99), (2, 100), (2, 101), (2, 102), (0, f82_323), (2, 103), (2, 104), (2, 105), (2, 106), (2, 107), (2, 108), (2, 109), (0, f82_325), (0, f82_327), (2, 110), (2, 111), (2, 112), (2, 113)]) (hb345.get (by decide) h82_329) rfl rfl rfl (fun w346 hk347 hb348 => ?_)
        have hF349 : xFr [82, 85] w278 w346 := ((xFr.of (S := [82, 85]) hb345 (by decide)).tr (xFr.of (S := [82, 85]) hb348 (by decide)))
        have hA350 := FA_fr hF349 (by decide)
        have hf351 : fld w346 82 4 = f82_303 := fld_of hk347
        have hf352 : fld w346 82 5 = f82_305 := fld_of hk347
        have hf353 : fld w346 82 7 = f82_309 := fld_of hk347
        have hf354 : fld w346 82 10 = f82_315 := fld_of hk347
        have hf355 : fld w346 82 14 = f82_317 + 1 := fld_of hk347
        have hu356 : mu w346 = 2 * (fld w346 82 4 - fld w346 82 5) + min 1 (fld w346 82 7) := rfl
        have pq357 := pk290
        unfold PK PS at pq357
        have hM358 : ∀ s, s < 7 → s ≠ 3 → rwv w346 85 s = rwv w 85 s := fun s hs hn => (rwv_of (hr344.but hb348 (by decide)) hs).trans ((if_neg hn).trans (rwv_of h85_37 hs).symm)
        have hM359 : rwv w346 85 3 = u45 + 1 := (rwv_of (hr344.but hb348 (by decide)) (by decide)).trans ((if_pos rfl).trans (by omega))
        have hM360 : ∀ s, s < 7 → rwv w346 85 s ≤ rwv w 85 s + 1 := fun s hs => by
          by_cases z : s = 3
          · subst z; omega
          · rw [hM358 s hs z]; omega
        have hO361 : ∀ j, (j < 80 + 3 * u45 ∨ 83 + 3 * u45 ≤ j) → j < 140 → rwv w346 86 j = rwv w 86 j := fun j hj hl => (rwv_fr hF349 (by decide)).trans (os291 j hj hl)
        have hN362 : FA w346 ≠ 0 ∨ 4 ≤ u45 ∨ True := Or.inr (Or.inr trivial)
        have hX363 : FA w346 ≠ 0 ∨ u45 < 4 := by omega
        have hD364 : FA w346 ≠ 0 ∨ (DATA w → DATA w346) := by
          by_cases z : FA w346 ≠ 0
          · exact Or.inl z
          · exact Or.inr (fun hd => hd.s3 hM358 hK48 hM359 (hX363.resolve_left z) hO361 ((hN362.resolve_left z).resolve_left (by have := hX363.resolve_left z; omega)))
        exact xg_e ⟨w346, ⟨rfl, rfl⟩, xMnv.up (S := [85, 82]) hI280 ((xFr.of (S := [85, 82]) hb345 (by decide)).tr (xFr.of (S := [85, 82]) hb348 (by decide))) (List.forall_mem_cons.mpr ⟨(show cpI 7 52 4294967295 (wget w346 85) from ⟨_, (hr344.but hb348 (by decide)), xrb (by omega) (hb38)⟩), List.forall_mem_cons.mpr ⟨(show cp82 (wget w346 82) from ⟨f82_299, f82_301, f82_303, f82_305, f82_307, f82_309, f82_311, f82_313, f82_315, f82_317 + 1, f82_319, f82_320, f82_321, f82_323, f82_325, f82_327, hk347, hb300, hb302, hb304, hb306, hb308, hb310, hb312, hb314, hb316, by omega, hb322, hb324, hb326, hb328, by omega⟩), fun _ h => absurd h List.not_mem_nil⟩⟩), (((((((((hF55.up (by decide)).tr (hF102.up (by decide))).tr (hF146.up (by decide))).tr (hF157.up (by decide))).tr (hF203.up (by decide))).tr (hF216.up (by decide))).tr (hF264.up (by decide))).tr (hF281.up (by decide))).tr ((xFr.of (S := [82, 83, 85, 86, 87]) hb345 (by decide)).tr (xFr.of (S := [82, 83, 85, 86, 87]) hb348 (by decide)))), ⟨fun h => by have := pq357.1 h; omega, (show fld w346 82 10 = 0 ∨ FA w346 ≠ 0 by omega), Or.inr ⟨by have := ms298; omega, by omega, hM360⟩, hD364⟩⟩
      · refine xg_t (xg_icT (u := f82_239) (v := 2) rfl xnm0 xnm0 (xj_neT hc277)) ?_
        refine xg_t (xg_blk (b := [(416, 1, 0, 0, 0, 0), (417, 3, 13, 140, 96, 183)]) rfl) ?_
        refine xg_t (xg_aload (va := (2, 82)) rfl rfl) ?_
        refine xg_cVv mX12_ends (vs := []) (rest := []) (cn1 := 0) (sl1 := 0) rfl (mEnds (hI263) pk268.2.2.2) rfl (hF264.get (by decide) h82_259) rfl rfl rfl rfl rfl rfl (fun w365 hq366 => ?_)
        obtain ⟨hI367, hF368, hx369⟩ := hq366
        clear hb230 hb232 hb234 hb236 hb238 hb240 hb242 hb244 hb246 hb248 hb252 hb254 hb256 hb258
        obtain ⟨hv370, hv371, hv372, hv373⟩ := hx369
        have pk374 : PK w261 w365 := ⟨fun _ => hv370, by omega, by omega, Or.inr hv370⟩
        have pk375 : PK w w365 := PK.tr pk268 pk374
        have os376 : ∀ j, (j < 80 + 3 * u45 ∨ 83 + 3 * u45 ≤ j) → j < 140 → rwv w365 86 j = rwv w 86 j := fun j hj hl => (rwv_fr hF368 (by decide)).trans (os269 j hj hl)
        have ix377 : u45 < 4 → rwv w365 86 ((80 + (3 * u45)) + 0) = n103 := fun h => (rwv_fr hF368 (by decide)).trans (ix270 h)
        have ix378 : u45 < 4 → rwv w365 86 ((80 + (3 * u45)) + 1) = n158 := fun h => (rwv_fr hF368 (by decide)).trans (ix271 h)
        have ix379 : u45 < 4 → rwv w365 86 ((80 + (3 * u45)) + 2) = n217 := fun h => (rwv_fr hF368 (by decide)).trans (hp266 h)
        have rg380 : FA w365 ≠ 0 ∨ (1 ≤ n103 ∧ n103 ≤ 10) := rg272.imp_left pk374.1
        have rg381 : FA w365 ≠ 0 ∨ (1 ≤ n158 ∧ n158 ≤ 10) := rg273.imp_left pk374.1
        have rg382 : FA w365 ≠ 0 ∨ (1 ≤ n217 ∧ n217 ≤ 999) := rg274.imp_left pk374.1
        have ms383 : mu w365 < mu w := Nat.lt_of_le_of_lt pk374.2.1 ms275
        clear ix270 ix271 hp266 rg272 rg273 rg274
        refine xg_t (xg_blk (b := [(420, 1, 0, 0, 0, 0), (421, 3, 1, 12, 11, 17), (424, 1, 2, 1, 0, 0), (425, 1, 39, 0, 0, 0), (426, 1, 10, 0, 0, 0), (427, 1, 3, 1, 0, 0), (428, 1, 11, 0, 0, 0), (429, 1, 17, 0, 0, 0), (430, 1, 0, 0, 0, 0), (431, 1, 19, 0, 0, 0), (432, 3, 1, 12, 14, 212), (435, 1, 3, 1, 0, 0), (436, 1, 11, 0, 0, 0), (437, 3, 14, 12, 14, 212), (440, 1, 12, 0, 0, 0)]) rfl) ?_
        obtain ⟨f82_384, f82_386, f82_388, f82_390, f82_392, f82_394, f82_396, f82_398, f82_400, f82_402, f82_404, f82_405, f82_406, f82_408, f82_410, f82_412, h82_414, hb385, hb387, hb389, hb391, hb393, hb395, hb397, hb399, hb401, hb403, hb407, hb409, hb411, hb413, hb415⟩ := (hI367 82 (by decide) (by decide) : cp82 (wget w365 82))
        have hf416 : fld w365 82 4 = f82_388 := fld_of h82_414
        have hf417 : fld w365 82 5 = f82_390 := fld_of h82_414
        have hf418 : fld w365 82 7 = f82_394 := fld_of h82_414
        have hf419 : fld w365 82 10 = f82_400 := fld_of h82_414
        have hf420 : fld w365 82 14 = f82_402 := fld_of h82_414
        have hu421 : mu w365 = 2 * (fld w365 82 4 - fld w365 82 5) + min 1 (fld w365 82 7) := rfl
        have hf422 := pk375.2.2.1
        have hl423 : f82_402 ≤ 1000 := by omega
        refine xg_t (xg_aload (va := (2, 82)) rfl rfl) ?_
        refine xg_t (xg_getf (va := (2, 85)) h82_414 rfl) ?_
        refine xg_t (xg_iload (va := (0, 3)) rfl rfl) ?_
        refine xg_t (xg_dup2 rfl) ?_
        refine xg_ialdB (n := 3) (B := 4294967295) ((((((((h85_37.fr hF55 (by decide)).fr hF102 (by decide)).fr hF146 (by decide)).fr hF157 (by decide)).fr hF203 (by decide)).fr hF216 (by decide)).fr hF264 (by decide)).fr hF368 (by decide)) (hb38) xnm0 (by omega) (fun u424 hu425 he426 => ?_)
        have hl427 : u424 = u45 := by omega
        refine xg_t (xg_const) ?_
        refine xg_t (xg_iadd (u := u424) (v := 1) (z := u424 + 1) xnm0 xnm0 (by omega)) ?_
        refine xg_iastK (n := 3) (u := u424 + 1) ((((((((h85_37.fr hF55 (by decide)).fr hF102 (by decide)).fr hF146 (by decide)).fr hF157 (by decide)).fr hF203 (by decide)).fr hF216 (by decide)).fr hF264 (by decide)).fr hF368 (by decide)) xnm0 xnm0 rfl (by omega) (fun w428 hr429 hb430 => ?_)
        refine xg_t (xg_aload (va := (2, 82)) rfl rfl) ?_
        refine xg_t (xg_dup rfl) ?_
        refine xg_t (xg_getf (va := (0, f82_402)) (hb430.get (by decide) h82_414) rfl) ?_
        refine xg_t (xg_const) ?_
        refine xg_t (xg_iadd (u := f82_402) (v := 1) (z := f82_402 + 1) xnm0 xnm0 (by omega)) ?_
        refine xg_putI (fl1 := [(2, 83), (2, 84), (0, f82_384), (0, f82_386), (0, f82_388), (0, f82_390), (0, f82_392), (0, f82_394), (0, f82_396), (0, f82_398), (0, f82_400), (2, 85), (2, 86), (2, 87), (0, f82_402 + 1), (2, 88), (2, 89), (2, 90), (2, 91), (2, 92), (2, 93), (2, 94), (4, f82_404), (4, f82_405), (0, f82_406), (2, 95), (2, 96), (2, 97), (2, 98), (2, 99), (2, 100), (2, 101), (2, 102), (0, f82_408), (2, 103), (2, 104), (2, 105), (2, 106), (2, 107), (2, 108), (2, 109), (0, f82_410), (0, f82_412), (2, 110), (2, 111), (2, 112), (2, 113)]) (hb430.get (by decide) h82_414) rfl rfl rfl (fun w431 hk432 hb433 => ?_)
        have hF434 : xFr [82, 85] w365 w431 := ((xFr.of (S := [82, 85]) hb430 (by decide)).tr (xFr.of (S := [82, 85]) hb433 (by decide)))
        have hA435 := FA_fr hF434 (by decide)
        have hf436 : fld w431 82 4 = f82_388 := fld_of hk432
        have hf437 : fld w431 82 5 = f82_390 := fld_of hk432
        have hf438 : fld w431 82 7 = f82_394 := fld_of hk432
        have hf439 : fld w431 82 10 = f82_400 := fld_of hk432
        have hf440 : fld w431 82 14 = f82_402 + 1 := fld_of hk432
        have hu441 : mu w431 = 2 * (fld w431 82 4 - fld w431 82 5) + min 1 (fld w431 82 7) := rfl
        have pq442 := pk375
        unfold PK PS at pq442
        have hM443 : ∀ s, s < 7 → s ≠ 3 → rwv w431 85 s = rwv w 85 s := fun s hs hn => (rwv_of (hr429.but hb433 (by decide)) hs).trans ((if_neg hn).trans (rwv_of h85_37 hs).symm)
        have hM444 : rwv w431 85 3 = u45 + 1 := (rwv_of (hr429.but hb433 (by decide)) (by decide)).trans ((if_pos rfl).trans (by omega))
        have hM445 : ∀ s, s < 7 → rwv w431 85 s ≤ rwv w 85 s + 1 := fun s hs => by
          by_cases z : s = 3
          · subst z; omega
          · rw [hM443 s hs z]; omega
        have hO446 : ∀ j, (j < 80 + 3 * u45 ∨ 83 + 3 * u45 ≤ j) → j < 140 → rwv w431 86 j = rwv w 86 j := fun j hj hl => (rwv_fr hF434 (by decide)).trans (os376 j hj hl)
        have hN447 : FA w431 ≠ 0 ∨ 4 ≤ u45 ∨ True := Or.inr (Or.inr trivial)
        have hX448 : FA w431 ≠ 0 ∨ u45 < 4 := by omega
        have hD449 : FA w431 ≠ 0 ∨ (DATA w → DATA w431) := by
          by_cases z : FA w431 ≠ 0
          · exact Or.inl z
          · exact Or.inr (fun hd => hd.s3 hM443 hK48 hM444 (hX448.resolve_left z) hO446 ((hN447.resolve_left z).resolve_left (by have := hX448.resolve_left z; omega)))
        exact xg_e ⟨w431, ⟨rfl, rfl⟩, xMnv.up (S := [85, 82]) hI367 ((xFr.of (S := [85, 82]) hb430 (by decide)).tr (xFr.of (S := [85, 82]) hb433 (by decide))) (List.forall_mem_cons.mpr ⟨(show cpI 7 52 4294967295 (wget w431 85) from ⟨_, (hr429.but hb433 (by decide)), xrb (by omega) (hb38)⟩), List.forall_mem_cons.mpr ⟨(show cp82 (wget w431 82) from ⟨f82_384, f82_386, f82_388, f82_390, f82_392, f82_394, f82_396, f82_398, f82_400, f82_402 + 1, f82_404, f82_405, f82_406, f82_408, f82_410, f82_412, hk432, hb385, hb387, hb389, hb391, hb393, hb395, hb397, hb399, hb401, by omega, hb407, hb409, hb411, hb413, by omega⟩), fun _ h => absurd h List.not_mem_nil⟩⟩), (((((((((hF55.up (by decide)).tr (hF102.up (by decide))).tr (hF146.up (by decide))).tr (hF157.up (by decide))).tr (hF203.up (by decide))).tr (hF216.up (by decide))).tr (hF264.up (by decide))).tr (hF368.up (by decide))).tr ((xFr.of (S := [82, 83, 85, 86, 87]) hb430 (by decide)).tr (xFr.of (S := [82, 83, 85, 86, 87]) hb433 (by decide)))), ⟨fun h => by have := pq442.1 h; omega, (show fld w431 82 10 = 0 ∨ FA w431 ≠ 0 by omega), Or.inr ⟨by have := ms383; omega, by omega, hM445⟩, hD449⟩⟩
    · refine xg_t (xg_ifT (u := f82_245) rfl xnm0 (xj_neT hc276)) ?_
      refine xg_t (xg_blk (b := [(416, 1, 0, 0, 0, 0), (417, 3, 13, 140, 96, 183)]) rfl) ?_
      refine xg_t (xg_aload (va := (2, 82)) rfl rfl) ?_
      refine xg_cVv mX12_ends (vs := []) (rest := []) (cn1 := 0) (sl1 := 0) rfl (mEnds (hI263) pk268.2.2.2) rfl (hF264.get (by decide) h82_259) rfl rfl rfl rfl rfl rfl (fun w450 hq451 => ?_)
      obtain ⟨hI452, hF453, hx454⟩ := hq451
      clear hb230 hb232 hb234 hb236 hb238 hb240 hb242 hb244 hb246 hb248 hb252 hb254 hb256 hb258
      obtain ⟨hv455, hv456, hv457, hv458⟩ := hx454
      have pk459 : PK w261 w450 := ⟨fun _ => hv455, by omega, by omega, Or.inr hv455⟩
      have pk460 : PK w w450 := PK.tr pk268 pk459
      have os461 : ∀ j, (j < 80 + 3 * u45 ∨ 83 + 3 * u45 ≤ j) → j < 140 → rwv w450 86 j = rwv w 86 j := fun j hj hl => (rwv_fr hF453 (by decide)).trans (os269 j hj hl)
      have ix462 : u45 < 4 → rwv w450 86 ((80 + (3 * u45)) + 0) = n103 := fun h => (rwv_fr hF453 (by decide)).trans (ix270 h)
      have ix463 : u45 < 4 → rwv w450 86 ((80 + (3 * u45)) + 1) = n158 := fun h => (rwv_fr hF453 (by decide)).trans (ix271 h)
      have ix464 : u45 < 4 → rwv w450 86 ((80 + (3 * u45)) + 2) = n217 := fun h => (rwv_fr hF453 (by decide)).trans (hp266 h)
      have rg465 : FA w450 ≠ 0 ∨ (1 ≤ n103 ∧ n103 ≤ 10) := rg272.imp_left pk459.1
      have rg466 : FA w450 ≠ 0 ∨ (1 ≤ n158 ∧ n158 ≤ 10) := rg273.imp_left pk459.1
      have rg467 : FA w450 ≠ 0 ∨ (1 ≤ n217 ∧ n217 ≤ 999) := rg274.imp_left pk459.1
      have ms468 : mu w450 < mu w := Nat.lt_of_le_of_lt pk459.2.1 ms275
      clear ix270 ix271 hp266 rg272 rg273 rg274
      refine xg_t (xg_blk (b := [(420, 1, 0, 0, 0, 0), (421, 3, 1, 12, 11, 17), (424, 1, 2, 1, 0, 0), (425, 1, 39, 0, 0, 0), (426, 1, 10, 0, 0, 0), (427, 1, 3, 1, 0, 0), (428, 1, 11, 0, 0, 0), (429, 1, 17, 0, 0, 0), (430, 1, 0, 0, 0, 0), (431, 1, 19, 0, 0, 0), (432, 3, 1, 12, 14, 212), (435, 1, 3, 1, 0, 0), (436, 1, 11, 0, 0, 0), (437, 3, 14, 12, 14, 212), (440, 1, 12, 0, 0, 0)]) rfl) ?_
      obtain ⟨f82_469, f82_471, f82_473, f82_475, f82_477, f82_479, f82_481, f82_483, f82_485, f82_487, f82_489, f82_490, f82_491, f82_493, f82_495, f82_497, h82_499, hb470, hb472, hb474, hb476, hb478, hb480, hb482, hb484, hb486, hb488, hb492, hb494, hb496, hb498, hb500⟩ := (hI452 82 (by decide) (by decide) : cp82 (wget w450 82))
      have hf501 : fld w450 82 4 = f82_473 := fld_of h82_499
      have hf502 : fld w450 82 5 = f82_475 := fld_of h82_499
      have hf503 : fld w450 82 7 = f82_479 := fld_of h82_499
      have hf504 : fld w450 82 10 = f82_485 := fld_of h82_499
      have hf505 : fld w450 82 14 = f82_487 := fld_of h82_499
      have hu506 : mu w450 = 2 * (fld w450 82 4 - fld w450 82 5) + min 1 (fld w450 82 7) := rfl
      have hf507 := pk460.2.2.1
      have hl508 : f82_487 ≤ 1000 := by omega
      refine xg_t (xg_aload (va := (2, 82)) rfl rfl) ?_
      refine xg_t (xg_getf (va := (2, 85)) h82_499 rfl) ?_
      refine xg_t (xg_iload (va := (0, 3)) rfl rfl) ?_
      refine xg_t (xg_dup2 rfl) ?_
      refine xg_ialdB (n := 3) (B := 4294967295) ((((((((h85_37.fr hF55 (by decide)).fr hF102 (by decide)).fr hF146 (by decide)).fr hF157 (by decide)).fr hF203 (by decide)).fr hF216 (by decide)).fr hF264 (by decide)).fr hF453 (by decide)) (hb38) xnm0 (by omega) (fun u509 hu510 he511 => ?_)
      have hl512 : u509 = u45 := by omega
      refine xg_t (xg_const) ?_
      refine xg_t (xg_iadd (u := u509) (v := 1) (z := u509 + 1) xnm0 xnm0 (by omega)) ?_
      refine xg_iastK (n := 3) (u := u509 + 1) ((((((((h85_37.fr hF55 (by decide)).fr hF102 (by decide)).fr hF146 (by decide)).fr hF157 (by decide)).fr hF203 (by decide)).fr hF216 (by decide)).fr hF264 (by decide)).fr hF453 (by decide)) xnm0 xnm0 rfl (by omega) (fun w513 hr514 hb515 => ?_)
      refine xg_t (xg_aload (va := (2, 82)) rfl rfl) ?_
      refine xg_t (xg_dup rfl) ?_
      refine xg_t (xg_getf (va := (0, f82_487)) (hb515.get (by decide) h82_499) rfl) ?_
      refine xg_t (xg_const) ?_
      refine xg_t (xg_iadd (u := f82_487) (v := 1) (z := f82_487 + 1) xnm0 xnm0 (by omega)) ?_
      refine xg_putI (fl1 := [(2, 83), (2, 84), (0, f82_469), (0, f82_471), (0, f82_473), (0, f82_475), (0, f82_477), (0, f82_479), (0, f82_481), (0, f82_483), (0, f82_485), (2, 85), (2, 86), (2, 87), (0, f82_487 + 1), (2, 88), (2, 89), (2, 90), (2, 91), (2, 92), (2, 93), (2, 94), (4, f82_489), (4, f82_490), (0, f82_491), (2, 95), (2, 96), (2, 97), (2, 98), (2, 99), (2, 100), (2, 101), (2, 102), (0, f82_493), (2, 103), (2, 104), (2, 105), (2, 106), (2, 107), (2, 108), (2, 109), (0, f82_495), (0, f82_497), (2, 110), (2, 111), (2, 112), (2, 113)]) (hb515.get (by decide) h82_499) rfl rfl rfl (fun w516 hk517 hb518 => ?_)
      have hF519 : xFr [82, 85] w450 w516 := ((xFr.of (S := [82, 85]) hb515 (by decide)).tr (xFr.of (S := [82, 85]) hb518 (by decide)))
      have hA520 := FA_fr hF519 (by decide)
      have hf521 : fld w516 82 4 = f82_473 := fld_of hk517
      have hf522 : fld w516 82 5 = f82_475 := fld_of hk517
      have hf523 : fld w516 82 7 = f82_479 := fld_of hk517
      have hf524 : fld w516 82 10 = f82_485 := fld_of hk517
      have hf525 : fld w516 82 14 = f82_487 + 1 := fld_of hk517
      have hu526 : mu w516 = 2 * (fld w516 82 4 - fld w516 82 5) + min 1 (fld w516 82 7) := rfl
      have pq527 := pk460
      unfold PK PS at pq527
      have hM528 : ∀ s, s < 7 → s ≠ 3 → rwv w516 85 s = rwv w 85 s := fun s hs hn => (rwv_of (hr514.but hb518 (by decide)) hs).trans ((if_neg hn).trans (rwv_of h85_37 hs).symm)
      have hM529 : rwv w516 85 3 = u45 + 1 := (rwv_of (hr514.but hb518 (by decide)) (by decide)).trans ((if_pos rfl).trans (by omega))
      have hM530 : ∀ s, s < 7 → rwv w516 85 s ≤ rwv w 85 s + 1 := fun s hs => by
        by_cases z : s = 3
        · subst z; omega
        · rw [hM528 s hs z]; omega
      have hO531 : ∀ j, (j < 80 + 3 * u45 ∨ 83 + 3 * u45 ≤ j) → j < 140 → rwv w516 86 j = rwv w 86 j := fun j hj hl => (rwv_fr hF519 (by decide)).trans (os461 j hj hl)
      have hN532 : FA w516 ≠ 0 ∨ 4 ≤ u45 ∨ True := Or.inr (Or.inr trivial)
      have hX533 : FA w516 ≠ 0 ∨ u45 < 4 := by omega
      have hD534 : FA w516 ≠ 0 ∨ (DATA w → DATA w516) := by
        by_cases z : FA w516 ≠ 0
        · exact Or.inl z
        · exact Or.inr (fun hd => hd.s3 hM528 hK48 hM529 (hX533.resolve_left z) hO531 ((hN532.resolve_left z).resolve_left (by have := hX533.resolve_left z; omega)))
      exact xg_e ⟨w516, ⟨rfl, rfl⟩, xMnv.up (S := [85, 82]) hI452 ((xFr.of (S := [85, 82]) hb515 (by decide)).tr (xFr.of (S := [85, 82]) hb518 (by decide))) (List.forall_mem_cons.mpr ⟨(show cpI 7 52 4294967295 (wget w516 85) from ⟨_, (hr514.but hb518 (by decide)), xrb (by omega) (hb38)⟩), List.forall_mem_cons.mpr ⟨(show cp82 (wget w516 82) from ⟨f82_469, f82_471, f82_473, f82_475, f82_477, f82_479, f82_481, f82_483, f82_485, f82_487 + 1, f82_489, f82_490, f82_491, f82_493, f82_495, f82_497, hk517, hb470, hb472, hb474, hb476, hb478, hb480, hb482, hb484, hb486, by omega, hb492, hb494, hb496, hb498, by omega⟩), fun _ h => absurd h List.not_mem_nil⟩⟩), (((((((((hF55.up (by decide)).tr (hF102.up (by decide))).tr (hF146.up (by decide))).tr (hF157.up (by decide))).tr (hF203.up (by decide))).tr (hF216.up (by decide))).tr (hF264.up (by decide))).tr (hF453.up (by decide))).tr ((xFr.of (S := [82, 83, 85, 86, 87]) hb515 (by decide)).tr (xFr.of (S := [82, 83, 85, 86, 87]) hb518 (by decide)))), ⟨fun h => by have := pq527.1 h; omega, (show fld w516 82 10 = 0 ∨ FA w516 ≠ 0 by omega), Or.inr ⟨by have := ms468; omega, by omega, hM530⟩, hD534⟩⟩
  · refine xg_t (xg_icF (u := u45) (v := 4) rfl xnm0 xnm0 (xj_ltF (by omega) (by omega))) ?_
    refine xg_t (xg_aload (va := (2, 82)) rfl rfl) ?_
    refine xg_t (xg_const) ?_
    refine xg_t (xg_iload (va := (0, at_)) rfl rfl) ?_
    refine xg_cVv mX12_also (vs := [(0, 3), (0, at_)]) (rest := []) (cn1 := 0) (sl1 := 0) rfl (mAlso (hI) (by omega) (by omega) (by omega) (PK.rf hps).2.2.2) rfl h82_31 rfl rfl rfl rfl rfl rfl (fun w535 hq536 => ?_)
    obtain ⟨hI537, hF538, hx539⟩ := hq536
    have pk540 : PK w w535 := ⟨fun _ => hx539, Nat.le_of_eq (mu_fr hF538 (by decide)), fld_fr hF538 (by decide), Or.inr hx539⟩
    have pk541 : PK w w535 := PK.tr (PK.rf hps) pk540
    have os542 : ∀ j, (j < 80 + 3 * u45 ∨ 83 + 3 * u45 ≤ j) → j < 140 → rwv w535 86 j = rwv w 86 j := fun j hj hl => (rwv_fr hF538 (by decide)).trans ((fun j _ _ => rfl) j hj hl)
    have hf543 := fld_fr (c := 82) (j := 7) hF538 (by decide)
    refine xg_t (xg_blk (b := [(64, 1, 0, 0, 0, 0), (65, 3, 13, 110, 96, 190), (68, 1, 2, 1, 0, 0), (69, 39, 33, 362, 0, 9)]) rfl) ?_
    refine xg_t (xg_aload (va := (2, 82)) rfl rfl) ?_
    refine xg_cVv mX12_advance (vs := []) (rest := []) (cn1 := 0) (sl1 := 0) rfl (mAdvance (hI537)) rfl (hF538.get (by decide) h82_31) rfl rfl rfl rfl rfl rfl (fun w544 hq545 => ?_)
    obtain ⟨hI546, hF547, hx548⟩ := hq545
    clear hb2 hb4 hb6 hb8 hb10 hb12 hb14 hb16 hb18 hb20 hb24 hb26 hb28 hb30
    obtain ⟨hv549, hv550, hv551, hv552⟩ := hx548
    have hf554 := FA_fr hF547 (by decide)
    have hs555 := pk541.2.2.2
    unfold PS at hs555
    have pk553 : PK w535 w544 := ⟨fun _ => by omega, hv549, hv552, (show fld w544 82 10 = 0 ∨ FA w544 ≠ 0 by omega)⟩
    clear hs555
    have pk556 : PK w w544 := PK.tr pk541 pk553
    have os557 : ∀ j, (j < 80 + 3 * u45 ∨ 83 + 3 * u45 ≤ j) → j < 140 → rwv w544 86 j = rwv w 86 j := fun j hj hl => (rwv_fr hF547 (by decide)).trans (os542 j hj hl)
    have rg558 : FA w544 ≠ 0 ∨ 0 = 1 := (Or.inl hx539 : FA w535 ≠ 0 ∨ 0 = 1).imp_left pk553.1
    have ms559 : mu w544 < mu w := Nat.lt_of_lt_of_le (hv550 (by omega)) pk541.2.1
    clear hv550
    refine xg_t (xg_iload (va := (0, 3)) rfl rfl) ?_
    refine xg_t (xg_swt (ks := [(0, 108), (1, 116), (2, 180), (3, 221), (4, 273), (5, 326)]) (u := 3) (z := 221) rfl rfl rfl xnm0 (xsw_n (by omega) (xsw_n (by omega) (xsw_n (by omega) (xsw_y rfl))))) ?_
    refine xg_t (xg_blk (b := [(221, 1, 3, 0, 0, 0), (222, 2, 15, 4, 0, 0)]) rfl) ?_
    refine xg_t (xg_const) ?_
    refine xg_t (xg_istore (l1 := [(3, (0, u45)), (2, (0, at_)), (1, (0, 3)), (0, (2, 82))]) rfl rfl rfl) ?_
    refine xg_t (xg_blk (b := [(224, 2, 2, 4, 0, 0), (226, 1, 3, 3, 0, 0), (227, 3, 6, 270, 3, 0), (230, 1, 0, 0, 0, 0), (231, 1, 2, 1, 0, 0), (232, 1, 2, 3, 0, 0), (233, 2, 4, 80, 0, 0), (235, 1, 3, 3, 0, 0), (236, 1, 2, 3, 0, 0), (237, 1, 16, 0, 0, 0), (238, 1, 11, 0, 0, 0), (239, 2, 2, 4, 0, 0), (241, 1, 11, 0, 0, 0), (242, 1, 0, 0, 0, 0), (243, 1, 3, 1, 0, 0), (244, 2, 2, 4, 0, 0), (246, 1, 3, 2, 0, 0), (247, 3, 6, 255, 3, 0), (250, 2, 4, 10, 0, 0), (252, 3, 8, 258, 0, 0)]) rfl) ?_
    refine xg_t (xg_iload (va := (0, 0)) rfl rfl) ?_
    refine xg_t (xg_const) ?_
    refine xg_t (xg_icF (u := 0) (v := 3) rfl xnm0 xnm0 (by decide)) ?_
    refine xg_t (xg_aload (va := (2, 82)) rfl rfl) ?_
    refine xg_t (xg_iload (va := (0, 3)) rfl rfl) ?_
    refine xg_t (xg_iload (va := (0, u45)) rfl rfl) ?_
    refine xg_t (xg_bip) ?_
    refine xg_t (xg_const) ?_
    refine xg_t (xg_iload (va := (0, u45)) rfl rfl) ?_
    refine xg_t (xg_imul (u := 3) (v := u45) (z := 3 * u45) xnm0 xnm0 (by omega)) ?_
    refine xg_t (xg_iadd (u := 80) (v := 3 * u45) (z := 80 + (3 * u45)) xnm0 xnm0 (by omega)) ?_
    refine xg_t (xg_iload (va := (0, 0)) rfl rfl) ?_
    refine xg_t (xg_iadd (u := 80 + (3 * u45)) (v := 0) (z := (80 + (3 * u45)) + 0) xnm0 xnm0 (by omega)) ?_
    refine xg_t (xg_aload (va := (2, 82)) rfl rfl) ?_
    refine xg_t (xg_const) ?_
    refine xg_t (xg_iload (va := (0, 0)) rfl rfl) ?_
    refine xg_t (xg_const) ?_
    refine xg_t (xg_icF (u := 0) (v := 2) rfl xnm0 xnm0 (by decide)) ?_
    refine xg_t (xg_bip) ?_
    refine xg_t (xg_goto) ?_
    refine xg_t (xg_blk (b := [(258, 3, 13, 199, 96, 196), (261, 3, 13, 211, 96, 200), (264, 3, 9, 4, 1, 0), (267, 3, 8, 224, 0, 0)]) rfl) ?_
    obtain ⟨f82_560, f82_562, f82_564, f82_566, f82_568, f82_570, f82_572, f82_574, f82_576, f82_578, f82_580, f82_581, f82_582, f82_584, f82_586, f82_588, h82_590, hb561, hb563, hb565, hb567, hb569, hb571, hb573, hb575, hb577, hb579, hb583, hb585, hb587, hb589, hb591⟩ := (hI546 82 (by decide) (by decide) : cp82 (wget w544 82))
    refine xg_cVi mX12_numbered (vs := [(0, 1), (0, 10)]) (rest := [(0, (80 + (3 * u45)) + 0), (0, u45), (0, 3), (2, 82)]) (cn1 := 0) (sl1 := 0) rfl (mNumbered (hI546) (by omega) (by omega) pk556.2.2.2) rfl h82_590 rfl rfl rfl rfl rfl rfl (fun n596 w592 hq593 => ?_)
    obtain ⟨hn597, hI594, hF595⟩ := hq593
    clear hb561 hb563 hb565 hb567 hb569 hb571 hb573 hb575 hb577 hb579 hb583 hb585 hb587 hb589
    obtain ⟨hn598, hn599, hn600⟩ := hn597
    have pk601 : PK w w592 := PK.tr pk556 hn599
    have os602 : ∀ j, (j < 80 + 3 * u45 ∨ 83 + 3 * u45 ≤ j) → j < 140 → rwv w592 86 j = rwv w 86 j := fun j hj hl => (rwv_fr hF595 (by decide)).trans (os557 j hj hl)
    have rg603 : FA w592 ≠ 0 ∨ 0 = 1 := rg558.imp_left hn599.1
    have ms604 : mu w592 < mu w := Nat.lt_of_le_of_lt hn599.2.1 ms559
    clear rg558
    obtain ⟨f82_605, f82_607, f82_609, f82_611, f82_613, f82_615, f82_617, f82_619, f82_621, f82_623, f82_625, f82_626, f82_627, f82_629, f82_631, f82_633, h82_635, hb606, hb608, hb610, hb612, hb614, hb616, hb618, hb620, hb622, hb624, hb628, hb630, hb632, hb634, hb636⟩ := (hI594 82 (by decide) (by decide) : cp82 (wget w592 82))
    refine xg_cVv mX12_puts (vs := [(0, 3), (0, u45), (0, (80 + (3 * u45)) + 0), (0, n596)]) (rest := []) (cn1 := 0) (sl1 := 0) rfl (mPuts3 (hI594) (by omega) (by omega) (by omega) (fun _ => by omega)) rfl h82_635 rfl rfl rfl rfl rfl rfl (fun w637 hq638 => ?_)
    obtain ⟨hI639, hF640, hx641⟩ := hq638
    obtain ⟨hp642, hp643⟩ := hx641
    have pk644 : PK w w637 := PK.tr pk601 (PK.fr hF640 (by decide) (by decide) pk601.2.2.2)
    have os645 : ∀ j, (j < 80 + 3 * u45 ∨ 83 + 3 * u45 ≤ j) → j < 140 → rwv w637 86 j = rwv w 86 j := fun j hj hl => (hp643 j (by omega) hl).trans (os602 j hj hl)
    have rg646 : FA w637 ≠ 0 ∨ 0 = 1 := rg603.imp_left (PK.fr hF640 (by decide) (by decide) pk601.2.2.2).1
    have rg647 : FA w637 ≠ 0 ∨ (1 ≤ n596 ∧ n596 ≤ 10) := hn600.imp_left (PK.fr hF640 (by decide) (by decide) pk601.2.2.2).1
    have ms648 : mu w637 < mu w := Nat.lt_of_le_of_lt (PK.fr hF640 (by decide) (by decide) pk601.2.2.2).2.1 ms604
    clear rg603 hn600
    refine xg_t (xg_iinc (u := 0) (z := 1) (l1 := [(3, (0, u45)), (2, (0, at_)), (1, (0, 3)), (0, (2, 82))]) rfl rfl (by decide) rfl) ?_
    refine xg_t (xg_goto) ?_
    refine xg_t (xg_blk (b := [(224, 2, 2, 4, 0, 0), (226, 1, 3, 3, 0, 0), (227, 3, 6, 270, 3, 0), (230, 1, 0, 0, 0, 0), (231, 1, 2, 1, 0, 0), (232, 1, 2, 3, 0, 0), (233, 2, 4, 80, 0, 0), (235, 1, 3, 3, 0, 0), (236, 1, 2, 3, 0, 0), (237, 1, 16, 0, 0, 0), (238, 1, 11, 0, 0, 0), (239, 2, 2, 4, 0, 0), (241, 1, 11, 0, 0, 0), (242, 1, 0, 0, 0, 0), (243, 1, 3, 1, 0, 0), (244, 2, 2, 4, 0, 0), (246, 1, 3, 2, 0, 0), (247, 3, 6, 255, 3, 0), (250, 2, 4, 10, 0, 0), (252, 3, 8, 258, 0, 0)]) rfl) ?_
    refine xg_t (xg_iload (va := (0, 1)) rfl rfl) ?_
    refine xg_t (xg_const) ?_
    refine xg_t (xg_icF (u := 1) (v := 3) rfl xnm0 xnm0 (by decide)) ?_
    refine xg_t (xg_aload (va := (2, 82)) rfl rfl) ?_
    refine xg_t (xg_iload (va := (0, 3)) rfl rfl) ?_
    refine xg_t (xg_iload (va := (0, u45)) rfl rfl) ?_
    refine xg_t (xg_bip) ?_
    refine xg_t (xg_const) ?_
    refine xg_t (xg_iload (va := (0, u45)) rfl rfl) ?_
    refine xg_t (xg_imul (u := 3) (v := u45) (z := 3 * u45) xnm0 xnm0 (by omega)) ?_
    refine xg_t (xg_iadd (u := 80) (v := 3 * u45) (z := 80 + (3 * u45)) xnm0 xnm0 (by omega)) ?_
    refine xg_t (xg_iload (va := (0, 1)) rfl rfl) ?_
    refine xg_t (xg_iadd (u := 80 + (3 * u45)) (v := 1) (z := (80 + (3 * u45)) + 1) xnm0 xnm0 (by omega)) ?_
    refine xg_t (xg_aload (va := (2, 82)) rfl rfl) ?_
    refine xg_t (xg_const) ?_
    refine xg_t (xg_iload (va := (0, 1)) rfl rfl) ?_
    refine xg_t (xg_const) ?_
    refine xg_t (xg_icF (u := 1) (v := 2) rfl xnm0 xnm0 (by decide)) ?_
    refine xg_t (xg_bip) ?_
    refine xg_t (xg_goto) ?_
    refine xg_t (xg_blk (b := [(258, 3, 13, 199, 96, 196), (261, 3, 13, 211, 96, 200), (264, 3, 9, 4, 1, 0), (267, 3, 8, 224, 0, 0)]) rfl) ?_
    refine xg_cVi mX12_numbered (vs := [(0, 1), (0, 10)]) (rest := [(0, (80 + (3 * u45)) + 1), (0, u45), (0, 3), (2, 82)]) (cn1 := 0) (sl1 := 0) rfl (mNumbered (hI639) (by omega) (by omega) pk644.2.2.2) rfl (hF640.get (by decide) h82_635) rfl rfl rfl rfl rfl rfl (fun n653 w649 hq650 => ?_)
    obtain ⟨hn654, hI651, hF652⟩ := hq650
    clear hb606 hb608 hb610 hb612 hb614 hb616 hb618 hb620 hb622 hb624 hb628 hb630 hb632 hb634
    obtain ⟨hn655, hn656, hn657⟩ := hn654
    have pk658 : PK w w649 := PK.tr pk644 hn656
    have os659 : ∀ j, (j < 80 + 3 * u45 ∨ 83 + 3 * u45 ≤ j) → j < 140 → rwv w649 86 j = rwv w 86 j := fun j hj hl => (rwv_fr hF652 (by decide)).trans (os645 j hj hl)
    have ix660 : u45 < 4 → rwv w649 86 ((80 + (3 * u45)) + 0) = n596 := fun h => (rwv_fr hF652 (by decide)).trans (hp642 h)
    have rg661 : FA w649 ≠ 0 ∨ 0 = 1 := rg646.imp_left hn656.1
    have rg662 : FA w649 ≠ 0 ∨ (1 ≤ n596 ∧ n596 ≤ 10) := rg647.imp_left hn656.1
    have ms663 : mu w649 < mu w := Nat.lt_of_le_of_lt hn656.2.1 ms648
    clear hp642 rg646 rg647
    obtain ⟨f82_664, f82_666, f82_668, f82_670, f82_672, f82_674, f82_676, f82_678, f82_680, f82_682, f82_684, f82_685, f82_686, f82_688, f82_690, f82_692, h82_694, hb665, hb667, hb669, hb671, hb673, hb675, hb677, hb679, hb681, hb683, hb687, hb689, hb691, hb693, hb695⟩ := (hI651 82 (by decide) (by decide) : cp82 (wget w649 82))
    refine xg_cVv mX12_puts (vs := [(0, 3), (0, u45), (0, (80 + (3 * u45)) + 1), (0, n653)]) (rest := []) (cn1 := 0) (sl1 := 0) rfl (mPuts3 (hI651) (by omega) (by omega) (by omega) (fun _ => by omega)) rfl h82_694 rfl rfl rfl rfl rfl rfl (fun w696 hq697 => ?_)
    obtain ⟨hI698, hF699, hx700⟩ := hq697
    obtain ⟨hp701, hp702⟩ := hx700
    have pk703 : PK w w696 := PK.tr pk658 (PK.fr hF699 (by decide) (by decide) pk658.2.2.2)
    have os704 : ∀ j, (j < 80 + 3 * u45 ∨ 83 + 3 * u45 ≤ j) → j < 140 → rwv w696 86 j = rwv w 86 j := fun j hj hl => (hp702 j (by omega) hl).trans (os659 j hj hl)
    have ix705 : u45 < 4 → rwv w696 86 ((80 + (3 * u45)) + 0) = n596 := fun h => (hp702 _ (by omega) (by omega)).trans (ix660 h)
    have rg706 : FA w696 ≠ 0 ∨ 0 = 1 := rg661.imp_left (PK.fr hF699 (by decide) (by decide) pk658.2.2.2).1
    have rg707 : FA w696 ≠ 0 ∨ (1 ≤ n596 ∧ n596 ≤ 10) := rg662.imp_left (PK.fr hF699 (by decide) (by decide) pk658.2.2.2).1
    have rg708 : FA w696 ≠ 0 ∨ (1 ≤ n653 ∧ n653 ≤ 10) := hn657.imp_left (PK.fr hF699 (by decide) (by decide) pk658.2.2.2).1
    have ms709 : mu w696 < mu w := Nat.lt_of_le_of_lt (PK.fr hF699 (by decide) (by decide) pk658.2.2.2).2.1 ms663
    clear ix660 rg661 rg662 hn657
    refine xg_t (xg_iinc (u := 1) (z := 2) (l1 := [(3, (0, u45)), (2, (0, at_)), (1, (0, 3)), (0, (2, 82))]) rfl rfl (by decide) rfl) ?_
    refine xg_t (xg_goto) ?_
    refine xg_t (xg_blk (b := [(224, 2, 2, 4, 0, 0), (226, 1, 3, 3, 0, 0), (227, 3, 6, 270, 3, 0), (230, 1, 0, 0, 0, 0), (231, 1, 2, 1, 0, 0), (232, 1, 2, 3, 0, 0), (233, 2, 4, 80, 0, 0), (235, 1, 3, 3, 0, 0), (236, 1, 2, 3, 0, 0), (237, 1, 16, 0, 0, 0), (238, 1, 11, 0, 0, 0), (239, 2, 2, 4, 0, 0), (241, 1, 11, 0, 0, 0), (242, 1, 0, 0, 0, 0), (243, 1, 3, 1, 0, 0), (244, 2, 2, 4, 0, 0), (246, 1, 3, 2, 0, 0), (247, 3, 6, 255, 3, 0), (250, 2, 4, 10, 0, 0), (252, 3, 8, 258, 0, 0)]) rfl) ?_
    refine xg_t (xg_iload (va := (0, 2)) rfl rfl) ?_
    refine xg_t (xg_const) ?_
    refine xg_t (xg_icF (u := 2) (v := 3) rfl xnm0 xnm0 (by decide)) ?_
    refine xg_t (xg_aload (va := (2, 82)) rfl rfl) ?_
    refine xg_t (xg_iload (va := (0, 3)) rfl rfl) ?_
    refine xg_t (xg_iload (va := (0, u45)) rfl rfl) ?_
    refine xg_t (xg_bip) ?_
    refine xg_t (xg_const) ?_
    refine xg_t (xg_iload (va := (0, u45)) rfl rfl) ?_
    refine xg_t (xg_imul (u := 3) (v := u45) (z := 3 * u45) xnm0 xnm0 (by omega)) ?_
    refine xg_t (xg_iadd (u := 80) (v := 3 * u45) (z := 80 + (3 * u45)) xnm0 xnm0 (by omega)) ?_
    refine xg_t (xg_iload (va := (0, 2)) rfl rfl) ?_
    refine xg_t (xg_iadd (u := 80 + (3 * u45)) (v := 2) (z := (80 + (3 * u45)) + 2) xnm0 xnm0 (by omega)) ?_
    refine xg_t (xg_aload (va := (2, 82)) rfl rfl) ?_
    refine xg_t (xg_const) ?_
    refine xg_t (xg_iload (va := (0, 2)) rfl rfl) ?_
    refine xg_t (xg_const) ?_
    refine xg_t (xg_icT (u := 2) (v := 2) rfl xnm0 xnm0 (by decide)) ?_
    refine xg_t (xg_blk (b := [(255, 3, 5, 999, 0, 0)]) rfl) ?_
    refine xg_t (xg_sip) ?_
    refine xg_t (xg_blk (b := [(258, 3, 13, 199, 96, 196), (261, 3, 13, 211, 96, 200), (264, 3, 9, 4, 1, 0), (267, 3, 8, 224, 0, 0)]) rfl) ?_
    refine xg_cVi mX12_numbered (vs := [(0, 1), (0, 999)]) (rest := [(0, (80 + (3 * u45)) + 2), (0, u45), (0, 3), (2, 82)]) (cn1 := 0) (sl1 := 0) rfl (mNumbered (hI698) (by omega) (by omega) pk703.2.2.2) rfl (hF699.get (by decide) h82_694) rfl rfl rfl rfl rfl rfl (fun n714 w710 hq711 => ?_)
    obtain ⟨hn715, hI712, hF713⟩ := hq711
    clear hb665 hb667 hb669 hb671 hb673 hb675 hb677 hb679 hb681 hb683 hb687 hb689 hb691 hb693
    obtain ⟨hn716, hn717, hn718⟩ := hn715
    have pk719 : PK w w710 := PK.tr pk703 hn717
    have os720 : ∀ j, (j < 80 + 3 * u45 ∨ 83 + 3 * u45 ≤ j) → j < 140 → rwv w710 86 j = rwv w 86 j := fun j hj hl => (rwv_fr hF713 (by decide)).trans (os704 j hj hl)
    have ix721 : u45 < 4 → rwv w710 86 ((80 + (3 * u45)) + 0) = n596 := fun h => (rwv_fr hF713 (by decide)).trans (ix705 h)
    have ix722 : u45 < 4 → rwv w710 86 ((80 + (3 * u45)) + 1) = n653 := fun h => (rwv_fr hF713 (by decide)).trans (hp701 h)
    have rg723 : FA w710 ≠ 0 ∨ 0 = 1 := rg706.imp_left hn717.1
    have rg724 : FA w710 ≠ 0 ∨ (1 ≤ n596 ∧ n596 ≤ 10) := rg707.imp_left hn717.1
    have rg725 : FA w710 ≠ 0 ∨ (1 ≤ n653 ∧ n653 ≤ 10) := rg708.imp_left hn717.1
    have ms726 : mu w710 < mu w := Nat.lt_of_le_of_lt hn717.2.1 ms709
    clear ix705 hp701 rg706 rg707 rg708
    obtain ⟨f82_727, f82_729, f82_731, f82_733, f82_735, f82_737, f82_739, f82_741, f82_743, f82_745, f82_747, f82_748, f82_749, f82_751, f82_753, f82_755, h82_757, hb728, hb730, hb732, hb734, hb736, hb738, hb740, hb742, hb744, hb746, hb750, hb752, hb754, hb756, hb758⟩ := (hI712 82 (by decide) (by decide) : cp82 (wget w710 82))
    refine xg_cVv mX12_puts (vs := [(0, 3), (0, u45), (0, (80 + (3 * u45)) + 2), (0, n714)]) (rest := []) (cn1 := 0) (sl1 := 0) rfl (mPuts3 (hI712) (by omega) (by omega) (by omega) (fun _ => by omega)) rfl h82_757 rfl rfl rfl rfl rfl rfl (fun w759 hq760 => ?_)
    obtain ⟨hI761, hF762, hx763⟩ := hq760
    obtain ⟨hp764, hp765⟩ := hx763
    have pk766 : PK w w759 := PK.tr pk719 (PK.fr hF762 (by decide) (by decide) pk719.2.2.2)
    have os767 : ∀ j, (j < 80 + 3 * u45 ∨ 83 + 3 * u45 ≤ j) → j < 140 → rwv w759 86 j = rwv w 86 j := fun j hj hl => (hp765 j (by omega) hl).trans (os720 j hj hl)
    have ix768 : u45 < 4 → rwv w759 86 ((80 + (3 * u45)) + 0) = n596 := fun h => (hp765 _ (by omega) (by omega)).trans (ix721 h)
    have ix769 : u45 < 4 → rwv w759 86 ((80 + (3 * u45)) + 1) = n653 := fun h => (hp765 _ (by omega) (by omega)).trans (ix722 h)
    have rg770 : FA w759 ≠ 0 ∨ 0 = 1 := rg723.imp_left (PK.fr hF762 (by decide) (by decide) pk719.2.2.2).1
    have rg771 : FA w759 ≠ 0 ∨ (1 ≤ n596 ∧ n596 ≤ 10) := rg724.imp_left (PK.fr hF762 (by decide) (by decide) pk719.2.2.2).1
    have rg772 : FA w759 ≠ 0 ∨ (1 ≤ n653 ∧ n653 ≤ 10) := rg725.imp_left (PK.fr hF762 (by decide) (by decide) pk719.2.2.2).1
    have rg773 : FA w759 ≠ 0 ∨ (1 ≤ n714 ∧ n714 ≤ 999) := hn718.imp_left (PK.fr hF762 (by decide) (by decide) pk719.2.2.2).1
    have ms774 : mu w759 < mu w := Nat.lt_of_le_of_lt (PK.fr hF762 (by decide) (by decide) pk719.2.2.2).2.1 ms726
    clear ix721 ix722 rg723 rg724 rg725 hn718
    refine xg_t (xg_iinc (u := 2) (z := 3) (l1 := [(3, (0, u45)), (2, (0, at_)), (1, (0, 3)), (0, (2, 82))]) rfl rfl (by decide) rfl) ?_
    refine xg_t (xg_goto) ?_
    refine xg_t (xg_blk (b := [(224, 2, 2, 4, 0, 0), (226, 1, 3, 3, 0, 0), (227, 3, 6, 270, 3, 0), (230, 1, 0, 0, 0, 0), (231, 1, 2, 1, 0, 0), (232, 1, 2, 3, 0, 0), (233, 2, 4, 80, 0, 0), (235, 1, 3, 3, 0, 0), (236, 1, 2, 3, 0, 0), (237, 1, 16, 0, 0, 0), (238, 1, 11, 0, 0, 0), (239, 2, 2, 4, 0, 0), (241, 1, 11, 0, 0, 0), (242, 1, 0, 0, 0, 0), (243, 1, 3, 1, 0, 0), (244, 2, 2, 4, 0, 0), (246, 1, 3, 2, 0, 0), (247, 3, 6, 255, 3, 0), (250, 2, 4, 10, 0, 0), (252, 3, 8, 258, 0, 0)]) rfl) ?_
    refine xg_t (xg_iload (va := (0, 3)) rfl rfl) ?_
    refine xg_t (xg_const) ?_
    refine xg_t (xg_icT (u := 3) (v := 3) rfl xnm0 xnm0 (by decide)) ?_
    refine xg_t (xg_blk (b := [(270, 3, 8, 394, 0, 0)]) rfl) ?_
    refine xg_t (xg_goto) ?_
    refine xg_t (xg_blk (b := [(394, 1, 0, 0, 0, 0), (395, 3, 1, 12, 10, 180), (398, 3, 7, 416, 1, 0), (401, 1, 0, 0, 0, 0), (402, 3, 1, 12, 7, 151), (405, 1, 3, 2, 0, 0), (406, 3, 6, 416, 1, 0), (409, 1, 0, 0, 0, 0), (410, 3, 13, 110, 96, 190), (413, 3, 8, 420, 0, 0)]) rfl) ?_
    refine xg_t (xg_aload (va := (2, 82)) rfl rfl) ?_
    refine xg_t (xg_getf (va := (0, f82_743)) (hF762.get (by decide) h82_757) rfl) ?_
    by_cases hc775 : f82_743 = 0
    · refine xg_t (xg_ifF (u := f82_743) rfl xnm0 (xj_neF hc775)) ?_
      refine xg_t (xg_aload (va := (2, 82)) rfl rfl) ?_
      refine xg_t (xg_getf (va := (0, f82_737)) (hF762.get (by decide) h82_757) rfl) ?_
      refine xg_t (xg_const) ?_
      by_cases hc776 : f82_737 = 2
      · refine xg_t (xg_icF (u := f82_737) (v := 2) rfl xnm0 xnm0 (xj_neF hc776)) ?_
        refine xg_t (xg_aload (va := (2, 82)) rfl rfl) ?_
        refine xg_cVv mX12_advance (vs := []) (rest := []) (cn1 := 0) (sl1 := 0) rfl (mAdvance (hI761)) rfl (hF762.get (by decide) h82_757) rfl rfl rfl rfl rfl rfl (fun w777 hq778 => ?_)
        obtain ⟨hI779, hF780, hx781⟩ := hq778
        clear hb728 hb730 hb732 hb734 hb736 hb738 hb740 hb742 hb744 hb746 hb750 hb752 hb754 hb756
        obtain ⟨hv782, hv783, hv784, hv785⟩ := hx781
        have hf787 := FA_fr hF780 (by decide)
        have hs788 := pk766.2.2.2
        unfold PS at hs788
        have pk786 : PK w759 w777 := ⟨fun _ => by omega, hv782, hv785, (show fld w777 82 10 = 0 ∨ FA w777 ≠ 0 by omega)⟩
        clear hs788
        clear hv783
        have pk789 : PK w w777 := PK.tr pk766 pk786
        have os790 : ∀ j, (j < 80 + 3 * u45 ∨ 83 + 3 * u45 ≤ j) → j < 140 → rwv w777 86 j = rwv w 86 j := fun j hj hl => (rwv_fr hF780 (by decide)).trans (os767 j hj hl)
        have ix791 : u45 < 4 → rwv w777 86 ((80 + (3 * u45)) + 0) = n596 := fun h => (rwv_fr hF780 (by decide)).trans (ix768 h)
        have ix792 : u45 < 4 → rwv w777 86 ((80 + (3 * u45)) + 1) = n653 := fun h => (rwv_fr hF780 (by decide)).trans (ix769 h)
        have ix793 : u45 < 4 → rwv w777 86 ((80 + (3 * u45)) + 2) = n714 := fun h => (rwv_fr hF780 (by decide)).trans (hp764 h)
        have rg794 : FA w777 ≠ 0 ∨ 0 = 1 := rg770.imp_left pk786.1
        have rg795 : FA w777 ≠ 0 ∨ (1 ≤ n596 ∧ n596 ≤ 10) := rg771.imp_left pk786.1
        have rg796 : FA w777 ≠ 0 ∨ (1 ≤ n653 ∧ n653 ≤ 10) := rg772.imp_left pk786.1
        have rg797 : FA w777 ≠ 0 ∨ (1 ≤ n714 ∧ n714 ≤ 999) := rg773.imp_left pk786.1
        have ms798 : mu w777 < mu w := Nat.lt_of_le_of_lt pk786.2.1 ms774
        clear ix768 ix769 hp764 rg770 rg771 rg772 rg773
        refine xg_t (xg_goto) ?_
        refine xg_t (xg_blk (b := [(420, 1, 0, 0, 0, 0), (421, 3, 1, 12, 11, 17), (424, 1, 2, 1, 0, 0), (425, 1, 39, 0, 0, 0), (426, 1, 10, 0, 0, 0), (427, 1, 3, 1, 0, 0), (428, 1, 11, 0, 0, 0), (429, 1, 17, 0, 0, 0), (430, 1, 0, 0, 0, 0), (431, 1, 19, 0, 0, 0), (432, 3, 1, 12, 14, 212), (435, 1, 3, 1, 0, 0), (436, 1, 11, 0, 0, 0), (437, 3, 14, 12, 14, 212), (440, 1, 12, 0, 0, 0)]) rfl) ?_
        obtain ⟨f82_799, f82_801, f82_803, f82_805, f82_807, f82_809, f82_811, f82_813, f82_815, f82_817, f82_819, f82_820, f82_821, f82_823, f82_825, f82_827, h82_829, hb800, hb802, hb804, hb806, hb808, hb810, hb812, hb814, hb816, hb818, hb822, hb824, hb826, hb828, hb830⟩ := (hI779 82 (by decide) (by decide) : cp82 (wget w777 82))
        have hf831 : fld w777 82 4 = f82_803 := fld_of h82_829
        have hf832 : fld w777 82 5 = f82_805 := fld_of h82_829
        have hf833 : fld w777 82 7 = f82_809 := fld_of h82_829
        have hf834 : fld w777 82 10 = f82_815 := fld_of h82_829
        have hf835 : fld w777 82 14 = f82_817 := fld_of h82_829
        have hu836 : mu w777 = 2 * (fld w777 82 4 - fld w777 82 5) + min 1 (fld w777 82 7) := rfl
        have hf837 := pk789.2.2.1
        have hl838 : f82_817 ≤ 1000 := by omega
        refine xg_t (xg_aload (va := (2, 82)) rfl rfl) ?_
        refine xg_t (xg_getf (va := (2, 85)) h82_829 rfl) ?_
        refine xg_t (xg_iload (va := (0, 3)) rfl rfl) ?_
        refine xg_t (xg_dup2 rfl) ?_
        refine xg_ialdB (n := 3) (B := 4294967295) (((((((((h85_37.fr hF538 (by decide)).fr hF547 (by decide)).fr hF595 (by decide)).fr hF640 (by decide)).fr hF652 (by decide)).fr hF699 (by decide)).fr hF713 (by decide)).fr hF762 (by decide)).fr hF780 (by decide)) (hb38) xnm0 (by omega) (fun u839 hu840 he841 => ?_)
        have hl842 : u839 = u45 := by omega
        refine xg_t (xg_const) ?_
        refine xg_t (xg_iadd (u := u839) (v := 1) (z := u839 + 1) xnm0 xnm0 (by omega)) ?_
        refine xg_iastK (n := 3) (u := u839 + 1) (((((((((h85_37.fr hF538 (by decide)).fr hF547 (by decide)).fr hF595 (by decide)).fr hF640 (by decide)).fr hF652 (by decide)).fr hF699 (by decide)).fr hF713 (by decide)).fr hF762 (by decide)).fr hF780 (by decide)) xnm0 xnm0 rfl (by omega) (fun w843 hr844 hb845 => ?_)
        refine xg_t (xg_aload (va := (2, 82)) rfl rfl) ?_
        refine xg_t (xg_dup rfl) ?_
        refine xg_t (xg_getf (va := (0, f82_817)) (hb845.get (by decide) h82_829) rfl) ?_
        refine xg_t (xg_const) ?_
        refine xg_t (xg_iadd (u := f82_817) (v := 1) (z := f82_817 + 1) xnm0 xnm0 (by omega)) ?_
        refine xg_putI (fl1 := [(2, 83), (2, 84), (0, f82_799), (0, f82_801), (0, f82_803), (0, f82_805), (0, f82_807), (0, f82_809), (0, f82_811), (0, f82_813), (0, f82_815), (2, 85), (2, 86), (2, 87), (0, f82_817 + 1), (2, 88), (2, 89), (2, 90), (2, 91), (2, 92), (2, 93), (2, 94), (4, f82_819), (4, f82_820), (0, f82_821), (2, 95), (2, 96), (2, 97), (2, 98), (2, 99), (2, 100), (2, 101), (2, 102), (0, f82_823), (2, 103), (2, 104), (2, 105), (2, 106), (2, 107), (2, 108), (2, 109), (0, f82_825), (0, f82_827), (2, 110), (2, 111), (2, 112), (2, 113)]) (hb845.get (by decide) h82_829) rfl rfl rfl (fun w846 hk847 hb848 => ?_)
        have hF849 : xFr [82, 85] w777 w846 := ((xFr.of (S := [82, 85]) hb845 (by decide)).tr (xFr.of (S := [82, 85]) hb848 (by decide)))
        have hA850 := FA_fr hF849 (by decide)
        have hf851 : fld w846 82 4 = f82_803 := fld_of hk847
        have hf852 : fld w846 82 5 = f82_805 := fld_of hk847
        have hf853 : fld w846 82 7 = f82_809 := fld_of hk847
        have hf854 : fld w846 82 10 = f82_815 := fld_of hk847
        have hf855 : fld w846 82 14 = f82_817 + 1 := fld_of hk847
        have hu856 : mu w846 = 2 * (fld w846 82 4 - fld w846 82 5) + min 1 (fld w846 82 7) := rfl
        have pq857 := pk789
        unfold PK PS at pq857
        have hM858 : ∀ s, s < 7 → s ≠ 3 → rwv w846 85 s = rwv w 85 s := fun s hs hn => (rwv_of (hr844.but hb848 (by decide)) hs).trans ((if_neg hn).trans (rwv_of h85_37 hs).symm)
        have hM859 : rwv w846 85 3 = u45 + 1 := (rwv_of (hr844.but hb848 (by decide)) (by decide)).trans ((if_pos rfl).trans (by omega))
        have hM860 : ∀ s, s < 7 → rwv w846 85 s ≤ rwv w 85 s + 1 := fun s hs => by
          by_cases z : s = 3
          · subst z; omega
          · rw [hM858 s hs z]; omega
        have hO861 : ∀ j, (j < 80 + 3 * u45 ∨ 83 + 3 * u45 ≤ j) → j < 140 → rwv w846 86 j = rwv w 86 j := fun j hj hl => (rwv_fr hF849 (by decide)).trans (os790 j hj hl)
        have hl863 : FA w777 ≠ 0 ∨ 0 = 1 := rg794
        have hN862 : FA w846 ≠ 0 ∨ 4 ≤ u45 ∨ True := Or.inr (Or.inr trivial)
        have hX864 : FA w846 ≠ 0 ∨ u45 < 4 := by omega
        have hD865 : FA w846 ≠ 0 ∨ (DATA w → DATA w846) := by
          by_cases z : FA w846 ≠ 0
          · exact Or.inl z
          · exact Or.inr (fun hd => hd.s3 hM858 hK48 hM859 (hX864.resolve_left z) hO861 ((hN862.resolve_left z).resolve_left (by have := hX864.resolve_left z; omega)))
        exact xg_e ⟨w846, ⟨rfl, rfl⟩, xMnv.up (S := [85, 82]) hI779 ((xFr.of (S := [85, 82]) hb845 (by decide)).tr (xFr.of (S := [85, 82]) hb848 (by decide))) (List.forall_mem_cons.mpr ⟨(show cpI 7 52 4294967295 (wget w846 85) from ⟨_, (hr844.but hb848 (by decide)), xrb (by omega) (hb38)⟩), List.forall_mem_cons.mpr ⟨(show cp82 (wget w846 82) from ⟨f82_799, f82_801, f82_803, f82_805, f82_807, f82_809, f82_811, f82_813, f82_815, f82_817 + 1, f82_819, f82_820, f82_821, f82_823, f82_825, f82_827, hk847, hb800, hb802, hb804, hb806, hb808, hb810, hb812, hb814, hb816, by omega, hb822, hb824, hb826, hb828, by omega⟩), fun _ h => absurd h List.not_mem_nil⟩⟩), ((((((((((hF538.up (by decide)).tr (hF547.up (by decide))).tr (hF595.up (by decide))).tr (hF640.up (by decide))).tr (hF652.up (by decide))).tr (hF699.up (by decide))).tr (hF713.up (by decide))).tr (hF762.up (by decide))).tr (hF780.up (by decide))).tr ((xFr.of (S := [82, 83, 85, 86, 87]) hb845 (by decide)).tr (xFr.of (S := [82, 83, 85, 86, 87]) hb848 (by decide)))), ⟨fun h => by have := pq857.1 h; omega, (show fld w846 82 10 = 0 ∨ FA w846 ≠ 0 by omega), Or.inr ⟨by have := ms798; omega, by omega, hM860⟩, hD865⟩⟩
      · refine xg_t (xg_icT (u := f82_737) (v := 2) rfl xnm0 xnm0 (xj_neT hc776)) ?_
        refine xg_t (xg_blk (b := [(416, 1, 0, 0, 0, 0), (417, 3, 13, 140, 96, 183)]) rfl) ?_
        refine xg_t (xg_aload (va := (2, 82)) rfl rfl) ?_
        refine xg_cVv mX12_ends (vs := []) (rest := []) (cn1 := 0) (sl1 := 0) rfl (mEnds (hI761) pk766.2.2.2) rfl (hF762.get (by decide) h82_757) rfl rfl rfl rfl rfl rfl (fun w866 hq867 => ?_)
        obtain ⟨hI868, hF869, hx870⟩ := hq867
        clear hb728 hb730 hb732 hb734 hb736 hb738 hb740 hb742 hb744 hb746 hb750 hb752 hb754 hb756
        obtain ⟨hv871, hv872, hv873, hv874⟩ := hx870
        have pk875 : PK w759 w866 := ⟨fun _ => hv871, by omega, by omega, Or.inr hv871⟩
        have pk876 : PK w w866 := PK.tr pk766 pk875
        have os877 : ∀ j, (j < 80 + 3 * u45 ∨ 83 + 3 * u45 ≤ j) → j < 140 → rwv w866 86 j = rwv w 86 j := fun j hj hl => (rwv_fr hF869 (by decide)).trans (os767 j hj hl)
        have ix878 : u45 < 4 → rwv w866 86 ((80 + (3 * u45)) + 0) = n596 := fun h => (rwv_fr hF869 (by decide)).trans (ix768 h)
        have ix879 : u45 < 4 → rwv w866 86 ((80 + (3 * u45)) + 1) = n653 := fun h => (rwv_fr hF869 (by decide)).trans (ix769 h)
        have ix880 : u45 < 4 → rwv w866 86 ((80 + (3 * u45)) + 2) = n714 := fun h => (rwv_fr hF869 (by decide)).trans (hp764 h)
        have rg881 : FA w866 ≠ 0 ∨ 0 = 1 := rg770.imp_left pk875.1
        have rg882 : FA w866 ≠ 0 ∨ (1 ≤ n596 ∧ n596 ≤ 10) := rg771.imp_left pk875.1
        have rg883 : FA w866 ≠ 0 ∨ (1 ≤ n653 ∧ n653 ≤ 10) := rg772.imp_left pk875.1
        have rg884 : FA w866 ≠ 0 ∨ (1 ≤ n714 ∧ n714 ≤ 999) := rg773.imp_left pk875.1
        have ms885 : mu w866 < mu w := Nat.lt_of_le_of_lt pk875.2.1 ms774
        clear ix768 ix769 hp764 rg770 rg771 rg772 rg773
        refine xg_t (xg_blk (b := [(420, 1, 0, 0, 0, 0), (421, 3, 1, 12, 11, 17), (424, 1, 2, 1, 0, 0), (425, 1, 39, 0, 0, 0), (426, 1, 10, 0, 0, 0), (427, 1, 3, 1, 0, 0), (428, 1, 11, 0, 0, 0), (429, 1, 17, 0, 0, 0), (430, 1, 0, 0, 0, 0), (431, 1, 19, 0, 0, 0), (432, 3, 1, 12, 14, 212), (435, 1, 3, 1, 0, 0), (436, 1, 11, 0, 0, 0), (437, 3, 14, 12, 14, 212), (440, 1, 12, 0, 0, 0)]) rfl) ?_
        obtain ⟨f82_886, f82_888, f82_890, f82_892, f82_894, f82_896, f82_898, f82_900, f82_902, f82_904, f82_906, f82_907, f82_908, f82_910, f82_912, f82_914, h82_916, hb887, hb889, hb891, hb893, hb895, hb897, hb899, hb901, hb903, hb905, hb909, hb911, hb913, hb915, hb917⟩ := (hI868 82 (by decide) (by decide) : cp82 (wget w866 82))
        have hf918 : fld w866 82 4 = f82_890 := fld_of h82_916
        have hf919 : fld w866 82 5 = f82_892 := fld_of h82_916
        have hf920 : fld w866 82 7 = f82_896 := fld_of h82_916
        have hf921 : fld w866 82 10 = f82_902 := fld_of h82_916
        have hf922 : fld w866 82 14 = f82_904 := fld_of h82_916
        have hu923 : mu w866 = 2 * (fld w866 82 4 - fld w866 82 5) + min 1 (fld w866 82 7) := rfl
        have hf924 := pk876.2.2.1
        have hl925 : f82_904 ≤ 1000 := by omega
        refine xg_t (xg_aload (va := (2, 82)) rfl rfl) ?_
        refine xg_t (xg_getf (va := (2, 85)) h82_916 rfl) ?_
        refine xg_t (xg_iload (va := (0, 3)) rfl rfl) ?_
        refine xg_t (xg_dup2 rfl) ?_
        refine xg_ialdB (n := 3) (B := 4294967295) (((((((((h85_37.fr hF538 (by decide)).fr hF547 (by decide)).fr hF595 (by decide)).fr hF640 (by decide)).fr hF652 (by decide)).fr hF699 (by decide)).fr hF713 (by decide)).fr hF762 (by decide)).fr hF869 (by decide)) (hb38) xnm0 (by omega) (fun u926 hu927 he928 => ?_)
        have hl929 : u926 = u45 := by omega
        refine xg_t (xg_const) ?_
        refine xg_t (xg_iadd (u := u926) (v := 1) (z := u926 + 1) xnm0 xnm0 (by omega)) ?_
        refine xg_iastK (n := 3) (u := u926 + 1) (((((((((h85_37.fr hF538 (by decide)).fr hF547 (by decide)).fr hF595 (by decide)).fr hF640 (by decide)).fr hF652 (by decide)).fr hF699 (by decide)).fr hF713 (by decide)).fr hF762 (by decide)).fr hF869 (by decide)) xnm0 xnm0 rfl (by omega) (fun w930 hr931 hb932 => ?_)
        refine xg_t (xg_aload (va := (2, 82)) rfl rfl) ?_
        refine xg_t (xg_dup rfl) ?_
        refine xg_t (xg_getf (va := (0, f82_904)) (hb932.get (by decide) h82_916) rfl) ?_
        refine xg_t (xg_const) ?_
        refine xg_t (xg_iadd (u := f82_904) (v := 1) (z := f82_904 + 1) xnm0 xnm0 (by omega)) ?_
        refine xg_putI (fl1 := [(2, 83), (2, 84), (0, f82_886), (0, f82_888), (0, f82_890), (0, f82_892), (0, f82_894), (0, f82_896), (0, f82_898), (0, f82_900), (0, f82_902), (2, 85), (2, 86), (2, 87), (0, f82_904 + 1), (2, 88), (2, 89), (2, 90), (2, 91), (2, 92), (2, 93), (2, 94), (4, f82_906), (4, f82_907), (0, f82_908), (2, 95), (2, 96), (2, 97), (2, 98), (2, 99), (2, 100), (2, 101), (2, 102), (0, f82_910), (2, 103), (2, 104), (2, 105), (2, 106), (2, 107), (2, 108), (2, 109), (0, f82_912), (0, f82_914), (2, 110), (2, 111), (2, 112), (2, 113)]) (hb932.get (by decide) h82_916) rfl rfl rfl (fun w933 hk934 hb935 => ?_)
        have hF936 : xFr [82, 85] w866 w933 := ((xFr.of (S := [82, 85]) hb932 (by decide)).tr (xFr.of (S := [82, 85]) hb935 (by decide)))
        have hA937 := FA_fr hF936 (by decide)
        have hf938 : fld w933 82 4 = f82_890 := fld_of hk934
        have hf939 : fld w933 82 5 = f82_892 := fld_of hk934
        have hf940 : fld w933 82 7 = f82_896 := fld_of hk934
        have hf941 : fld w933 82 10 = f82_902 := fld_of hk934
        have hf942 : fld w933 82 14 = f82_904 + 1 := fld_of hk934
        have hu943 : mu w933 = 2 * (fld w933 82 4 - fld w933 82 5) + min 1 (fld w933 82 7) := rfl
        have pq944 := pk876
        unfold PK PS at pq944
        have hM945 : ∀ s, s < 7 → s ≠ 3 → rwv w933 85 s = rwv w 85 s := fun s hs hn => (rwv_of (hr931.but hb935 (by decide)) hs).trans ((if_neg hn).trans (rwv_of h85_37 hs).symm)
        have hM946 : rwv w933 85 3 = u45 + 1 := (rwv_of (hr931.but hb935 (by decide)) (by decide)).trans ((if_pos rfl).trans (by omega))
        have hM947 : ∀ s, s < 7 → rwv w933 85 s ≤ rwv w 85 s + 1 := fun s hs => by
          by_cases z : s = 3
          · subst z; omega
          · rw [hM945 s hs z]; omega
        have hO948 : ∀ j, (j < 80 + 3 * u45 ∨ 83 + 3 * u45 ≤ j) → j < 140 → rwv w933 86 j = rwv w 86 j := fun j hj hl => (rwv_fr hF936 (by decide)).trans (os877 j hj hl)
        have hl950 : FA w866 ≠ 0 ∨ 0 = 1 := rg881
        have hN949 : FA w933 ≠ 0 ∨ 4 ≤ u45 ∨ True := Or.inr (Or.inr trivial)
        have hX951 : FA w933 ≠ 0 ∨ u45 < 4 := by omega
        have hD952 : FA w933 ≠ 0 ∨ (DATA w → DATA w933) := by
          by_cases z : FA w933 ≠ 0
          · exact Or.inl z
          · exact Or.inr (fun hd => hd.s3 hM945 hK48 hM946 (hX951.resolve_left z) hO948 ((hN949.resolve_left z).resolve_left (by have := hX951.resolve_left z; omega)))
        exact xg_e ⟨w933, ⟨rfl, rfl⟩, xMnv.up (S := [85, 82]) hI868 ((xFr.of (S := [85, 82]) hb932 (by decide)).tr (xFr.of (S := [85, 82]) hb935 (by decide))) (List.forall_mem_cons.mpr ⟨(show cpI 7 52 4294967295 (wget w933 85) from ⟨_, (hr931.but hb935 (by decide)), xrb (by omega) (hb38)⟩), List.forall_mem_cons.mpr ⟨(show cp82 (wget w933 82) from ⟨f82_886, f82_888, f82_890, f82_892, f82_894, f82_896, f82_898, f82_900, f82_902, f82_904 + 1, f82_906, f82_907, f82_908, f82_910, f82_912, f82_914, hk934, hb887, hb889, hb891, hb893, hb895, hb897, hb899, hb901, hb903, by omega, hb909, hb911, hb913, hb915, by omega⟩), fun _ h => absurd h List.not_mem_nil⟩⟩), ((((((((((hF538.up (by decide)).tr (hF547.up (by decide))).tr (hF595.up (by decide))).tr (hF640.up (by decide))).tr (hF652.up (by decide))).tr (hF699.up (by decide))).tr (hF713.up (by decide))).tr (hF762.up (by decide))).tr (hF869.up (by decide))).tr ((xFr.of (S := [82, 83, 85, 86, 87]) hb932 (by decide)).tr (xFr.of (S := [82, 83, 85, 86, 87]) hb935 (by decide)))), ⟨fun h => by have := pq944.1 h; omega, (show fld w933 82 10 = 0 ∨ FA w933 ≠ 0 by omega), Or.inr ⟨by have := ms885; omega, by omega, hM947⟩, hD952⟩⟩
    · refine xg_t (xg_ifT (u := f82_743) rfl xnm0 (xj_neT hc775)) ?_
      refine xg_t (xg_blk (b := [(416, 1, 0, 0, 0, 0), (417, 3, 13, 140, 96, 183)]) rfl) ?_
      refine xg_t (xg_aload (va := (2, 82)) rfl rfl) ?_
      refine xg_cVv mX12_ends (vs := []) (rest := []) (cn1 := 0) (sl1 := 0) rfl (mEnds (hI761) pk766.2.2.2) rfl (hF762.get (by decide) h82_757) rfl rfl rfl rfl rfl rfl (fun w953 hq954 => ?_)
      obtain ⟨hI955, hF956, hx957⟩ := hq954
      clear hb728 hb730 hb732 hb734 hb736 hb738 hb740 hb742 hb744 hb746 hb750 hb752 hb754 hb756
      obtain ⟨hv958, hv959, hv960, hv961⟩ := hx957
      have pk962 : PK w759 w953 := ⟨fun _ => hv958, by omega, by omega, Or.inr hv958⟩
      have pk963 : PK w w953 := PK.tr pk766 pk962
      have os964 : ∀ j, (j < 80 + 3 * u45 ∨ 83 + 3 * u45 ≤ j) → j < 140 → rwv w953 86 j = rwv w 86 j := fun j hj hl => (rwv_fr hF956 (by decide)).trans (os767 j hj hl)
      have ix965 : u45 < 4 → rwv w953 86 ((80 + (3 * u45)) + 0) = n596 := fun h => (rwv_fr hF956 (by decide)).trans (ix768 h)
      have ix966 : u45 < 4 → rwv w953 86 ((80 + (3 * u45)) + 1) = n653 := fun h => (rwv_fr hF956 (by decide)).trans (ix769 h)
      have ix967 : u45 < 4 → rwv w953 86 ((80 + (3 * u45)) + 2) = n714 := fun h => (rwv_fr hF956 (by decide)).trans (hp764 h)
      have rg968 : FA w953 ≠ 0 ∨ 0 = 1 := rg770.imp_left pk962.1
      have rg969 : FA w953 ≠ 0 ∨ (1 ≤ n596 ∧ n596 ≤ 10) := rg771.imp_left pk962.1
      have rg970 : FA w953 ≠ 0 ∨ (1 ≤ n653 ∧ n653 ≤ 10) := rg772.imp_left pk962.1
      have rg971 : FA w953 ≠ 0 ∨ (1 ≤ n714 ∧ n714 ≤ 999) := rg773.imp_left pk962.1
      have ms972 : mu w953 < mu w := Nat.lt_of_le_of_lt pk962.2.1 ms774
      clear ix768 ix769 hp764 rg770 rg771 rg772 rg773
      refine xg_t (xg_blk (b := [(420, 1, 0, 0, 0, 0), (421, 3, 1, 12, 11, 17), (424, 1, 2, 1, 0, 0), (425, 1, 39, 0, 0, 0), (426, 1, 10, 0, 0, 0), (427, 1, 3, 1, 0, 0), (428, 1, 11, 0, 0, 0), (429, 1, 17, 0, 0, 0), (430, 1, 0, 0, 0, 0), (431, 1, 19, 0, 0, 0), (432, 3, 1, 12, 14, 212), (435, 1, 3, 1, 0, 0), (436, 1, 11, 0, 0, 0), (437, 3, 14, 12, 14, 212), (440, 1, 12, 0, 0, 0)]) rfl) ?_
      obtain ⟨f82_973, f82_975, f82_977, f82_979, f82_981, f82_983, f82_985, f82_987, f82_989, f82_991, f82_993, f82_994, f82_995, f82_997, f82_999, f82_1001, h82_1003, hb974, hb976, hb978, hb980, hb982, hb984, hb986, hb988, hb990, hb992, hb996, hb998, hb1000, hb1002, hb1004⟩ := (hI955 82 (by decide) (by decide) : cp82 (wget w953 82))
      have hf1005 : fld w953 82 4 = f82_977 := fld_of h82_1003
      have hf1006 : fld w953 82 5 = f82_979 := fld_of h82_1003
      have hf1007 : fld w953 82 7 = f82_983 := fld_of h82_1003
      have hf1008 : fld w953 82 10 = f82_989 := fld_of h82_1003
      have hf1009 : fld w953 82 14 = f82_991 := fld_of h82_1003
      have hu1010 : mu w953 = 2 * (fld w953 82 4 - fld w953 82 5) + min 1 (fld w953 82 7) := rfl
      have hf1011 := pk963.2.2.1
      have hl1012 : f82_991 ≤ 1000 := by omega
      refine xg_t (xg_aload (va := (2, 82)) rfl rfl) ?_
      refine xg_t (xg_getf (va := (2, 85)) h82_1003 rfl) ?_
      refine xg_t (xg_iload (va := (0, 3)) rfl rfl) ?_
      refine xg_t (xg_dup2 rfl) ?_
      refine xg_ialdB (n := 3) (B := 4294967295) (((((((((h85_37.fr hF538 (by decide)).fr hF547 (by decide)).fr hF595 (by decide)).fr hF640 (by decide)).fr hF652 (by decide)).fr hF699 (by decide)).fr hF713 (by decide)).fr hF762 (by decide)).fr hF956 (by decide)) (hb38) xnm0 (by omega) (fun u1013 hu1014 he1015 => ?_)
      have hl1016 : u1013 = u45 := by omega
      refine xg_t (xg_const) ?_
      refine xg_t (xg_iadd (u := u1013) (v := 1) (z := u1013 + 1) xnm0 xnm0 (by omega)) ?_
      refine xg_iastK (n := 3) (u := u1013 + 1) (((((((((h85_37.fr hF538 (by decide)).fr hF547 (by decide)).fr hF595 (by decide)).fr hF640 (by decide)).fr hF652 (by decide)).fr hF699 (by decide)).fr hF713 (by decide)).fr hF762 (by decide)).fr hF956 (by decide)) xnm0 xnm0 rfl (by omega) (fun w1017 hr1018 hb1019 => ?_)
      refine xg_t (xg_aload (va := (2, 82)) rfl rfl) ?_
      refine xg_t (xg_dup rfl) ?_
      refine xg_t (xg_getf (va := (0, f82_991)) (hb1019.get (by decide) h82_1003) rfl) ?_
      refine xg_t (xg_const) ?_
      refine xg_t (xg_iadd (u := f82_991) (v := 1) (z := f82_991 + 1) xnm0 xnm0 (by omega)) ?_
      refine xg_putI (fl1 := [(2, 83), (2, 84), (0, f82_973), (0, f82_975), (0, f82_977), (0, f82_979), (0, f82_981), (0, f82_983), (0, f82_985), (0, f82_987), (0, f82_989), (2, 85), (2, 86), (2, 87), (0, f82_991 + 1), (2, 88), (2, 89), (2, 90), (2, 91), (2, 92), (2, 93), (2, 94), (4, f82_993), (4, f82_994), (0, f82_995), (2, 95), (2, 96), (2, 97), (2, 98), (2, 99), (2, 100), (2, 101), (2, 102), (0, f82_997), (2, 103), (2, 104), (2, 105), (2, 106), (2, 107), (2, 108), (2, 109), (0, f82_999), (0, f82_1001), (2, 110), (2, 111), (2, 112), (2, 113)]) (hb1019.get (by decide) h82_1003) rfl rfl rfl (fun w1020 hk1021 hb1022 => ?_)
      have hF1023 : xFr [82, 85] w953 w1020 := ((xFr.of (S := [82, 85]) hb1019 (by decide)).tr (xFr.of (S := [82, 85]) hb1022 (by decide)))
      have hA1024 := FA_fr hF1023 (by decide)
      have hf1025 : fld w1020 82 4 = f82_977 := fld_of hk1021
      have hf1026 : fld w1020 82 5 = f82_979 := fld_of hk1021
      have hf1027 : fld w1020 82 7 = f82_983 := fld_of hk1021
      have hf1028 : fld w1020 82 10 = f82_989 := fld_of hk1021
      have hf1029 : fld w1020 82 14 = f82_991 + 1 := fld_of hk1021
      have hu1030 : mu w1020 = 2 * (fld w1020 82 4 - fld w1020 82 5) + min 1 (fld w1020 82 7) := rfl
      have pq1031 := pk963
      unfold PK PS at pq1031
      have hM1032 : ∀ s, s < 7 → s ≠ 3 → rwv w1020 85 s = rwv w 85 s := fun s hs hn => (rwv_of (hr1018.but hb1022 (by decide)) hs).trans ((if_neg hn).trans (rwv_of h85_37 hs).symm)
      have hM1033 : rwv w1020 85 3 = u45 + 1 := (rwv_of (hr1018.but hb1022 (by decide)) (by decide)).trans ((if_pos rfl).trans (by omega))
      have hM1034 : ∀ s, s < 7 → rwv w1020 85 s ≤ rwv w 85 s + 1 := fun s hs => by
        by_cases z : s = 3
        · subst z; omega
        · rw [hM1032 s hs z]; omega
      have hO1035 : ∀ j, (j < 80 + 3 * u45 ∨ 83 + 3 * u45 ≤ j) → j < 140 → rwv w1020 86 j = rwv w 86 j := fun j hj hl => (rwv_fr hF1023 (by decide)).trans (os964 j hj hl)
      have hl1037 : FA w953 ≠ 0 ∨ 0 = 1 := rg968
      have hN1036 : FA w1020 ≠ 0 ∨ 4 ≤ u45 ∨ True := Or.inr (Or.inr trivial)
      have hX1038 : FA w1020 ≠ 0 ∨ u45 < 4 := by omega
      have hD1039 : FA w1020 ≠ 0 ∨ (DATA w → DATA w1020) := by
        by_cases z : FA w1020 ≠ 0
        · exact Or.inl z
        · exact Or.inr (fun hd => hd.s3 hM1032 hK48 hM1033 (hX1038.resolve_left z) hO1035 ((hN1036.resolve_left z).resolve_left (by have := hX1038.resolve_left z; omega)))
      exact xg_e ⟨w1020, ⟨rfl, rfl⟩, xMnv.up (S := [85, 82]) hI955 ((xFr.of (S := [85, 82]) hb1019 (by decide)).tr (xFr.of (S := [85, 82]) hb1022 (by decide))) (List.forall_mem_cons.mpr ⟨(show cpI 7 52 4294967295 (wget w1020 85) from ⟨_, (hr1018.but hb1022 (by decide)), xrb (by omega) (hb38)⟩), List.forall_mem_cons.mpr ⟨(show cp82 (wget w1020 82) from ⟨f82_973, f82_975, f82_977, f82_979, f82_981, f82_983, f82_985, f82_987, f82_989, f82_991 + 1, f82_993, f82_994, f82_995, f82_997, f82_999, f82_1001, hk1021, hb974, hb976, hb978, hb980, hb982, hb984, hb986, hb988, hb990, by omega, hb996, hb998, hb1000, hb1002, by omega⟩), fun _ h => absurd h List.not_mem_nil⟩⟩), ((((((((((hF538.up (by decide)).tr (hF547.up (by decide))).tr (hF595.up (by decide))).tr (hF640.up (by decide))).tr (hF652.up (by decide))).tr (hF699.up (by decide))).tr (hF713.up (by decide))).tr (hF762.up (by decide))).tr (hF956.up (by decide))).tr ((xFr.of (S := [82, 83, 85, 86, 87]) hb1019 (by decide)).tr (xFr.of (S := [82, 83, 85, 86, 87]) hb1022 (by decide)))), ⟨fun h => by have := pq1031.1 h; omega, (show fld w1020 82 10 = 0 ∨ FA w1020 ≠ 0 by omega), Or.inr ⟨by have := ms972; omega, by omega, hM1034⟩, hD1039⟩⟩
end XMB
