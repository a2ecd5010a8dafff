/-! the model: lines of films, more -/
section XMB
variable {d : Nat} {w : List (List xE)} {bd : List (Nat × Nat)} {fc : List (Nat × Nat × Bool)} {rr : Nat × Nat}
set_option maxHeartbeats 60000000 in
theorem mALineS1 {at_ : Nat} (hI : xMnv w) (hps : PS w) (hmb : ∀ s, s < 7 → rwv w 85 s ≤ 1000) (hln : fld w 82 14 ≤ 1000) (h7 : fld w 82 7 = 3) (hat : at_ ≤ 4294967295) : xTo (d + 7) mX12_aLine (43, [], [(2, (0, at_)), (1, (0, 1)), (0, (2, 82))], [], (w, bd, fc, 0, 0, rr)) (fun φ => ∃ w', xEnd 0 [] (w', bd, fc, 0, 0, rr) φ ∧ xMnv w' ∧ xFr [82, 83, 85, 86, 87] w w' ∧ ((FA w ≠ 0 → FA w' ≠ 0) ∧ PS w' ∧ ((fld w' 82 10 = 1 ∧ mu w' = mu w ∧ fld w' 82 14 = fld w 82 14 ∧ ∀ s, s < 7 → rwv w' 85 s = rwv w 85 s) ∨ (mu w' < mu w ∧ fld w' 82 14 = fld w 82 14 + 1 ∧ ∀ s, s < 7 → rwv w' 85 s ≤ rwv w 85 s + 1)) ∧ (FA w' ≠ 0 ∨ (DATA w → DATA w')))) := by
  obtain ⟨f82_1, f82_3, f82_5, f82_7, f82_9, f82_11, f82_13, f82_15, f82_17, f82_19, f82_21, f82_22, f82_23, f82_25, f82_27, f82_29, h82_31, hb2, hb4, hb6, hb8, hb10, hb12, hb14, hb16, hb18, hb20, hb24, hb26, hb28, hb30, hb32⟩ := (hI 82 (by decide) (by decide) : cp82 (wget w 82))
  have hf33 : fld w 82 7 = f82_11 := fld_of h82_31
  have hf34 : fld w 82 10 = f82_17 := fld_of h82_31
  have hf35 : fld w 82 14 = f82_19 := fld_of h82_31
  have hps_ : fld w 82 10 = 0 ∨ FA w ≠ 0 := hps
  obtain ⟨g85_36, h85_37, hb38⟩ := (hI 85 (by decide) (by decide) : cpI 7 52 4294967295 (wget w 85))
  have h85_37 : xRow w 85 7 52 g85_36 := h85_37
  obtain ⟨g86_39, h86_40, hb41⟩ := (hI 86 (by decide) (by decide) : cpI 140 53 4294967295 (wget w 86))
  have h86_40 : xRow w 86 140 53 g86_39 := h86_40
  obtain ⟨g87_42, h87_43, hb44⟩ := (hI 87 (by decide) (by decide) : cpI 20 54 4294967295 (wget w 87))
  have h87_43 : xRow w 87 20 54 g87_42 := h87_43
  refine xg_t (xg_blk (b := [(43, 1, 0, 0, 0, 0), (44, 3, 1, 12, 11, 17), (47, 1, 2, 1, 0, 0), (48, 1, 10, 0, 0, 0), (49, 1, 15, 3, 0, 0), (50, 1, 2, 3, 0, 0), (51, 1, 2, 1, 0, 0), (52, 3, 13, 194, 98, 193), (55, 3, 6, 64, 2, 0), (58, 1, 0, 0, 0, 0), (59, 1, 3, 3, 0, 0), (60, 1, 2, 2, 0, 0), (61, 3, 13, 115, 96, 186)]) rfl) ?_
  refine xg_t (xg_aload (va := (2, 82)) rfl rfl) ?_
  refine xg_t (xg_getf (va := (2, 85)) h82_31 rfl) ?_
  refine xg_t (xg_iload (va := (0, 1)) rfl rfl) ?_
  refine xg_ialdB (n := 1) (B := 4294967295) h85_37 (hb38) xnm0 (by omega) (fun u45 hu46 he47 => ?_)
  have hK48 : rwv w 85 1 = u45 := (rwv_of h85_37 (by decide)).trans he47
  have hm49 := hmb 1 (by decide)
  have hl50 : u45 ≤ 1000 := by omega
  refine xg_t (xg_istore (l1 := [(2, (0, at_)), (1, (0, 1)), (0, (2, 82))]) rfl rfl rfl) ?_
  refine xg_t (xg_iload (va := (0, u45)) rfl rfl) ?_
  refine xg_t (xg_iload (va := (0, 1)) rfl rfl) ?_
  refine xg_t (xg_cSr mX12_mostOf (vs := [(0, 1)]) (rest := [(0, u45)]) (rs := [(0, 4), (0, u45)]) (cn1 := 0) (sl1 := 0) rfl (mMostR1) rfl rfl rfl rfl rfl rfl rfl rfl) ?_
  by_cases hc51 : u45 < 4
  · refine xg_t (xg_icT (u := u45) (v := 4) rfl xnm0 xnm0 (xj_ltT hc51 (by omega))) ?_
    refine xg_t (xg_blk (b := [(64, 1, 0, 0, 0, 0), (65, 3, 13, 110, 96, 190), (68, 1, 2, 1, 0, 0), (69, 39, 33, 362, 0, 9)]) rfl) ?_
    refine xg_t (xg_aload (va := (2, 82)) rfl rfl) ?_
    refine xg_cVv mX12_advance (vs := []) (rest := []) (cn1 := 0) (sl1 := 0) rfl (mAdvance (hI)) rfl h82_31 rfl rfl rfl rfl rfl rfl (fun w52 hq53 => ?_)
    obtain ⟨hI54, hF55, hx56⟩ := hq53
    clear hb2 hb4 hb6 hb8 hb10 hb12 hb14 hb16 hb18 hb20 hb24 hb26 hb28 hb30
    obtain ⟨hv57, hv58, hv59, hv60⟩ := hx56
    have hf62 := FA_fr hF55 (by decide)
    have hs63 := (PK.rf hps).2.2.2
    unfold PS at hs63
    have pk61 : PK w w52 := ⟨fun _ => by omega, hv57, hv60, (show fld w52 82 10 = 0 ∨ FA w52 ≠ 0 by omega)⟩
    clear hs63
    have pk64 : PK w w52 := PK.tr (PK.rf hps) pk61
    have os65 : ∀ j, (j < 50 + 2 * u45 ∨ 52 + 2 * u45 ≤ j) → j < 140 → rwv w52 86 j = rwv w 86 j := fun j hj hl => (rwv_fr hF55 (by decide)).trans ((fun j _ _ => rfl) j hj hl)
    have ms66 : mu w52 < mu w := Nat.lt_of_lt_of_le (hv58 (by omega)) (PK.rf hps).2.1
    clear hv58
    refine xg_t (xg_iload (va := (0, 1)) rfl rfl) ?_
    refine xg_t (xg_swt (ks := [(0, 108), (1, 116), (2, 180), (3, 221), (4, 273), (5, 326)]) (u := 1) (z := 116) rfl rfl rfl xnm0 (xsw_n (by omega) (xsw_y rfl))) ?_
    refine xg_t (xg_blk (b := [(116, 1, 0, 0, 0, 0), (117, 1, 3, 0, 0, 0), (118, 2, 4, 99, 0, 0), (120, 3, 13, 199, 96, 196), (123, 2, 15, 4, 0, 0), (125, 1, 0, 0, 0, 0), (126, 2, 2, 4, 0, 0), (128, 1, 2, 3, 0, 0), (129, 3, 13, 167, 96, 208), (132, 3, 7, 141, 0, 0), (135, 1, 0, 0, 0, 0), (136, 1, 3, 3, 0, 0), (137, 1, 2, 2, 0, 0), (138, 3, 13, 115, 96, 186)]) rfl) ?_
    refine xg_t (xg_aload (va := (2, 82)) rfl rfl) ?_
    refine xg_t (xg_const) ?_
    refine xg_t (xg_bip) ?_
    obtain ⟨f82_67, f82_69, f82_71, f82_73, f82_75, f82_77, f82_79, f82_81, f82_83, f82_85, f82_87, f82_88, f82_89, f82_91, f82_93, f82_95, h82_97, hb68, hb70, hb72, hb74, hb76, hb78, hb80, hb82, hb84, hb86, hb90, hb92, hb94, hb96, hb98⟩ := (hI54 82 (by decide) (by decide) : cp82 (wget w52 82))
    refine xg_cVi mX12_numbered (vs := [(0, 0), (0, 99)]) (rest := []) (cn1 := 0) (sl1 := 0) rfl (mNumbered (hI54) (by omega) (by omega) pk64.2.2.2) rfl h82_97 rfl rfl rfl rfl rfl rfl (fun n103 w99 hq100 => ?_)
    obtain ⟨hn104, hI101, hF102⟩ := hq100
    clear hb68 hb70 hb72 hb74 hb76 hb78 hb80 hb82 hb84 hb86 hb90 hb92 hb94 hb96
    obtain ⟨hn105, hn106, hn107⟩ := hn104
    have pk108 : PK w w99 := PK.tr pk64 hn106
    have os109 : ∀ j, (j < 50 + 2 * u45 ∨ 52 + 2 * u45 ≤ j) → j < 140 → rwv w99 86 j = rwv w 86 j := fun j hj hl => (rwv_fr hF102 (by decide)).trans (os65 j hj hl)
    have ms110 : mu w99 < mu w := Nat.lt_of_le_of_lt hn106.2.1 ms66
    refine xg_t (xg_istore (l1 := [(3, (0, u45)), (2, (0, at_)), (1, (0, 1)), (0, (2, 82))]) rfl rfl rfl) ?_
    refine xg_t (xg_aload (va := (2, 82)) rfl rfl) ?_
    refine xg_t (xg_iload (va := (0, n103)) rfl rfl) ?_
    refine xg_t (xg_iload (va := (0, u45)) rfl rfl) ?_
    obtain ⟨f82_111, f82_113, f82_115, f82_117, f82_119, f82_121, f82_123, f82_125, f82_127, f82_129, f82_131, f82_132, f82_133, f82_135, f82_137, f82_139, h82_141, hb112, hb114, hb116, hb118, hb120, hb122, hb124, hb126, hb128, hb130, hb134, hb136, hb138, hb140, hb142⟩ := (hI101 82 (by decide) (by decide) : cp82 (wget w99 82))
    refine xg_cVi mX12_isLifeTold (vs := [(0, n103), (0, u45)]) (rest := []) (cn1 := 0) (sl1 := 0) rfl (mLifeTold (hI101) (by omega) (by omega)) rfl h82_141 rfl rfl rfl rfl rfl rfl (fun n147 w143 hq144 => ?_)
    obtain ⟨hn148, hI145, hF146⟩ := hq144
    have pk149 : PK w w143 := PK.tr pk108 (PK.fr hF146 (by decide) (by decide) pk108.2.2.2)
    have os150 : ∀ j, (j < 50 + 2 * u45 ∨ 52 + 2 * u45 ≤ j) → j < 140 → rwv w143 86 j = rwv w 86 j := fun j hj hl => (rwv_fr hF146 (by decide)).trans (os109 j hj hl)
    have rg151 : FA w143 ≠ 0 ∨ (0 ≤ n103 ∧ n103 ≤ 99) := hn107.imp_left (PK.fr hF146 (by decide) (by decide) pk108.2.2.2).1
    have ms152 : mu w143 < mu w := Nat.lt_of_le_of_lt (PK.fr hF146 (by decide) (by decide) pk108.2.2.2).2.1 ms110
    clear hn107
    by_cases hc153 : n147 = 0
    · refine xg_t (xg_ifT (u := n147) rfl xnm0 (xj_eqT hc153)) ?_
      refine xg_t (xg_blk (b := [(141, 1, 0, 0, 0, 0), (142, 1, 2, 1, 0, 0), (143, 1, 2, 3, 0, 0), (144, 2, 4, 50, 0, 0), (146, 1, 3, 2, 0, 0), (147, 1, 2, 3, 0, 0), (148, 1, 16, 0, 0, 0), (149, 1, 11, 0, 0, 0), (150, 2, 2, 4, 0, 0), (152, 3, 13, 211, 96, 200), (155, 1, 0, 0, 0, 0), (156, 1, 2, 1, 0, 0), (157, 1, 2, 3, 0, 0), (158, 2, 4, 50, 0, 0), (160, 1, 3, 2, 0, 0), (161, 1, 2, 3, 0, 0), (162, 1, 16, 0, 0, 0), (163, 1, 11, 0, 0, 0), (164, 1, 3, 1, 0, 0), (165, 1, 11, 0, 0, 0), (166, 1, 0, 0, 0, 0), (167, 1, 3, 1, 0, 0), (168, 3, 5, 999, 0, 0), (171, 3, 13, 199, 96, 196), (174, 3, 13, 211, 96, 200), (177, 3, 8, 394, 0, 0)]) rfl) ?_
      refine xg_t (xg_aload (va := (2, 82)) rfl rfl) ?_
      refine xg_t (xg_iload (va := (0, 1)) rfl rfl) ?_
      refine xg_t (xg_iload (va := (0, u45)) rfl rfl) ?_
      refine xg_t (xg_bip) ?_
      refine xg_t (xg_const) ?_
      refine xg_t (xg_iload (va := (0, u45)) rfl rfl) ?_
      refine xg_t (xg_imul (u := 2) (v := u45) (z := 2 * u45) xnm0 xnm0 (by omega)) ?_
      refine xg_t (xg_iadd (u := 50) (v := 2 * u45) (z := 50 + (2 * u45)) xnm0 xnm0 (by omega)) ?_
      refine xg_t (xg_iload (va := (0, n103)) rfl rfl) ?_
      refine xg_cVv mX12_puts (vs := [(0, 1), (0, u45), (0, 50 + (2 * u45)), (0, n103)]) (rest := []) (cn1 := 0) (sl1 := 0) rfl (mPuts1 (hI145) (by omega) (by omega) (by omega) (fun _ => by omega)) rfl (hF146.get (by decide) h82_141) rfl rfl rfl rfl rfl rfl (fun w154 hq155 => ?_)
      obtain ⟨hI156, hF157, hx158⟩ := hq155
      obtain ⟨hp159, hp160⟩ := hx158
      have pk161 : PK w w154 := PK.tr pk149 (PK.fr hF157 (by decide) (by decide) pk149.2.2.2)
      have os162 : ∀ j, (j < 50 + 2 * u45 ∨ 52 + 2 * u45 ≤ j) → j < 140 → rwv w154 86 j = rwv w 86 j := fun j hj hl => (hp160 j (by omega) hl).trans (os150 j hj hl)
      have rg163 : FA w154 ≠ 0 ∨ (0 ≤ n103 ∧ n103 ≤ 99) := rg151.imp_left (PK.fr hF157 (by decide) (by decide) pk149.2.2.2).1
      have ms164 : mu w154 < mu w := Nat.lt_of_le_of_lt (PK.fr hF157 (by decide) (by decide) pk149.2.2.2).2.1 ms152
      clear rg151
      refine xg_t (xg_aload (va := (2, 82)) rfl rfl) ?_
      refine xg_t (xg_iload (va := (0, 1)) rfl rfl) ?_
      refine xg_t (xg_iload (va := (0, u45)) rfl rfl) ?_
      refine xg_t (xg_bip) ?_
      refine xg_t (xg_const) ?_
      refine xg_t (xg_iload (va := (0, u45)) rfl rfl) ?_
      refine xg_t (xg_imul (u := 2) (v := u45) (z := 2 * u45) xnm0 xnm0 (by omega)) ?_
      refine xg_t (xg_iadd (u := 50) (v := 2 * u45) (z := 50 + (2 * u45)) xnm0 xnm0 (by omega)) ?_
      refine xg_t (xg_const) ?_
      refine xg_t (xg_iadd (u := 50 + (2 * u45)) (v := 1) (z := (50 + (2 * u45)) + 1) xnm0 xnm0 (by omega)) ?_
      refine xg_t (xg_aload (va := (2, 82)) rfl rfl) ?_
      refine xg_t (xg_const) ?_
      refine xg_t (xg_sip) ?_
      refine xg_cVi mX12_numbered (vs := [(0, 1), (0, 999)]) (rest := [(0, (50 + (2 * u45)) + 1), (0, u45), (0, 1), (2, 82)]) (cn1 := 0) (sl1 := 0) rfl (mNumbered (hI156) (by omega) (by omega) pk161.2.2.2) rfl (hF157.get (by decide) (hF146.get (by decide) h82_141)) rfl rfl rfl rfl rfl rfl (fun n169 w165 hq166 => ?_)
      obtain ⟨hn170, hI167, hF168⟩ := hq166
      clear hb112 hb114 hb116 hb118 hb120 hb122 hb124 hb126 hb128 hb130 hb134 hb136 hb138 hb140
      obtain ⟨hn171, hn172, hn173⟩ := hn170
      have pk174 : PK w w165 := PK.tr pk161 hn172
      have os175 : ∀ j, (j < 50 + 2 * u45 ∨ 52 + 2 * u45 ≤ j) → j < 140 → rwv w165 86 j = rwv w 86 j := fun j hj hl => (rwv_fr hF168 (by decide)).trans (os162 j hj hl)
      have ix176 : u45 < 4 → rwv w165 86 (50 + (2 * u45)) = n103 := fun h => (rwv_fr hF168 (by decide)).trans (hp159 h)
      have rg177 : FA w165 ≠ 0 ∨ (0 ≤ n103 ∧ n103 ≤ 99) := rg163.imp_left hn172.1
      have ms178 : mu w165 < mu w := Nat.lt_of_le_of_lt hn172.2.1 ms164
      clear hp159 rg163
      obtain ⟨f82_179, f82_181, f82_183, f82_185, f82_187, f82_189, f82_191, f82_193, f82_195, f82_197, f82_199, f82_200, f82_201, f82_203, f82_205, f82_207, h82_209, hb180, hb182, hb184, hb186, hb188, hb190, hb192, hb194, hb196, hb198, hb202, hb204, hb206, hb208, hb210⟩ := (hI167 82 (by decide) (by decide) : cp82 (wget w165 82))
      refine xg_cVv mX12_puts (vs := [(0, 1), (0, u45), (0, (50 + (2 * u45)) + 1), (0, n169)]) (rest := []) (cn1 := 0) (sl1 := 0) rfl (mPuts1 (hI167) (by omega) (by omega) (by omega) (fun _ => by omega)) rfl h82_209 rfl rfl rfl rfl rfl rfl (fun w211 hq212 => ?_)
      obtain ⟨hI213, hF214, hx215⟩ := hq212
      obtain ⟨hp216, hp217⟩ := hx215
      have pk218 : PK w w211 := PK.tr pk174 (PK.fr hF214 (by decide) (by decide) pk174.2.2.2)
      have os219 : ∀ j, (j < 50 + 2 * u45 ∨ 52 + 2 * u45 ≤ j) → j < 140 → rwv w211 86 j = rwv w 86 j := fun j hj hl => (hp217 j (by omega) hl).trans (os175 j hj hl)
      have ix220 : u45 < 4 → rwv w211 86 (50 + (2 * u45)) = n103 := fun h => (hp217 _ (by omega) (by omega)).trans (ix176 h)
      have rg221 : FA w211 ≠ 0 ∨ (0 ≤ n103 ∧ n103 ≤ 99) := rg177.imp_left (PK.fr hF214 (by decide) (by decide) pk174.2.2.2).1
      have rg222 : FA w211 ≠ 0 ∨ (1 ≤ n169 ∧ n169 ≤ 999) := hn173.imp_left (PK.fr hF214 (by decide) (by decide) pk174.2.2.2).1
      have ms223 : mu w211 < mu w := Nat.lt_of_le_of_lt (PK.fr hF214 (by decide) (by decide) pk174.2.2.2).2.1 ms178
      clear ix176 rg177 hn173
      refine xg_t (xg_goto) ?_
      refine xg_t (xg_blk (b := [(394, 1, 0, 0, 0, 0), (395, 3, 1, 12, 10, 180), (398, 3, 7, 416, 1, 0), (401, 1, 0, 0, 0, 0), (402, 3, 1, 12, 7, 151), (405, 1, 3, 2, 0, 0), (406, 3, 6, 416, 1, 0), (409, 1, 0, 0, 0, 0), (410, 3, 13, 110, 96, 190), (413, 3, 8, 420, 0, 0)]) rfl) ?_
      refine xg_t (xg_aload (va := (2, 82)) rfl rfl) ?_
      refine xg_t (xg_getf (va := (0, f82_195)) (hF214.get (by decide) h82_209) rfl) ?_
      by_cases hc224 : f82_195 = 0
      · refine xg_t (xg_ifF (u := f82_195) rfl xnm0 (xj_neF hc224)) ?_
        refine xg_t (xg_aload (va := (2, 82)) rfl rfl) ?_
        refine xg_t (xg_getf (va := (0, f82_189)) (hF214.get (by decide) h82_209) rfl) ?_
        refine xg_t (xg_const) ?_
        by_cases hc225 : f82_189 = 2
        · refine xg_t (xg_icF (u := f82_189) (v := 2) rfl xnm0 xnm0 (xj_neF hc225)) ?_
          refine xg_t (xg_aload (va := (2, 82)) rfl rfl) ?_
          refine xg_cVv mX12_advance (vs := []) (rest := []) (cn1 := 0) (sl1 := 0) rfl (mAdvance (hI213)) rfl (hF214.get (by decide) h82_209) rfl rfl rfl rfl rfl rfl (fun w226 hq227 => ?_)
          obtain ⟨hI228, hF229, hx230⟩ := hq227
          clear hb180 hb182 hb184 hb186 hb188 hb190 hb192 hb194 hb196 hb198 hb202 hb204 hb206 hb208
          obtain ⟨hv231, hv232, hv233, hv234⟩ := hx230
          have hf236 := FA_fr hF229 (by decide)
          have hs237 := pk218.2.2.2
          unfold PS at hs237
          have pk235 : PK w211 w226 := ⟨fun _ => by omega, hv231, hv234, (show fld w226 82 10 = 0 ∨ FA w226 ≠ 0 by omega)⟩
          clear hs237
          clear hv232
          have pk238 : PK w w226 := PK.tr pk218 pk235
          have os239 : ∀ j, (j < 50 + 2 * u45 ∨ 52 + 2 * u45 ≤ j) → j < 140 → rwv w226 86 j = rwv w 86 j := fun j hj hl => (rwv_fr hF229 (by decide)).trans (os219 j hj hl)
          have ix240 : u45 < 4 → rwv w226 86 (50 + (2 * u45)) = n103 := fun h => (rwv_fr hF229 (by decide)).trans (ix220 h)
          have ix241 : u45 < 4 → rwv w226 86 ((50 + (2 * u45)) + 1) = n169 := fun h => (rwv_fr hF229 (by decide)).trans (hp216 h)
          have rg242 : FA w226 ≠ 0 ∨ (0 ≤ n103 ∧ n103 ≤ 99) := rg221.imp_left pk235.1
          have rg243 : FA w226 ≠ 0 ∨ (1 ≤ n169 ∧ n169 ≤ 999) := rg222.imp_left pk235.1
          have ms244 : mu w226 < mu w := Nat.lt_of_le_of_lt pk235.2.1 ms223
          clear ix220 hp216 rg221 rg222
          refine xg_t (xg_goto) ?_
          refine xg_t (xg_blk (b := [(420, 1, 0, 0, 0, 0), (421, 3, 1, 12, 11, 17), (424, 1, 2, 1, 0, 0), (425, 1, 39, 0, 0, 0), (426, 1, 10, 0, 0, 0), (427, 1, 3, 1, 0, 0), (428, 1, 11, 0, 0, 0), (429, 1, 17, 0, 0, 0), (430, 1, 0, 0, 0, 0), (431, 1, 19, 0, 0, 0), (432, 3, 1, 12, 14, 212), (435, 1, 3, 1, 0, 0), (436, 1, 11, 0, 0, 0), (437, 3, 14, 12, 14, 212), (440, 1, 12, 0, 0, 0)]) rfl) ?_
          obtain ⟨f82_245, f82_247, f82_249, f82_251, f82_253, f82_255, f82_257, f82_259, f82_261, f82_263, f82_265, f82_266, f82_267, f82_269, f82_271, f82_273, h82_275, hb246, hb248, hb250, hb252, hb254, hb256, hb258, hb260, hb262, hb264, hb268, hb270, hb272, hb274, hb276⟩ := (hI228 82 (by decide) (by decide) : cp82 (wget w226 82))
          have hf277 : fld w226 82 4 = f82_249 := fld_of h82_275
          have hf278 : fld w226 82 5 = f82_251 := fld_of h82_275
          have hf279 : fld w226 82 7 = f82_255 := fld_of h82_275
          have hf280 : fld w226 82 10 = f82_261 := fld_of h82_275
          have hf281 : fld w226 82 14 = f82_263 := fld_of h82_275
          have hu282 : mu w226 = 2 * (fld w226 82 4 - fld w226 82 5) + min 1 (fld w226 82 7) := rfl
          have hf283 := pk238.2.2.1
          have hl284 : f82_263 ≤ 1000 := by omega
          refine xg_t (xg_aload (va := (2, 82)) rfl rfl) ?_
          refine xg_t (xg_getf (va := (2, 85)) h82_275 rfl) ?_
          refine xg_t (xg_iload (va := (0, 1)) rfl rfl) ?_
          refine xg_t (xg_dup2 rfl) ?_
          refine xg_ialdB (n := 1) (B := 4294967295) (((((((h85_37.fr hF55 (by decide)).fr hF102 (by decide)).fr hF146 (by decide)).fr hF157 (by decide)).fr hF168 (by decide)).fr hF214 (by decide)).fr hF229 (by decide)) (hb38) xnm0 (by omega) (fun u285 hu286 he287 => ?_)
          have hl288 : u285 = u45 := by omega
          refine xg_t (xg_const) ?_
          refine xg_t (xg_iadd (u := u285) (v := 1) (z := u285 + 1) xnm0 xnm0 (by omega)) ?_
          refine xg_iastK (n := 1) (u := u285 + 1) (((((((h85_37.fr hF55 (by decide)).fr hF102 (by decide)).fr hF146 (by decide)).fr hF157 (by decide)).fr hF168 (by decide)).fr hF214 (by decide)).fr hF229 (by decide)) xnm0 xnm0 rfl (by omega) (fun w289 hr290 hb291 => ?_)
          refine xg_t (xg_aload (va := (2, 82)) rfl rfl) ?_
          refine xg_t (xg_dup rfl) ?_
          refine xg_t (xg_getf (va := (0, f82_263)) (hb291.get (by decide) h82_275) rfl) ?_
          refine xg_t (xg_const) ?_
          refine xg_t (xg_iadd (u := f82_263) (v := 1) (z := f82_263 + 1) xnm0 xnm0 (by omega)) ?_
          refine xg_putI (fl1 := [(2, 83), (2, 84), (0, f82_245), (0, f82_247), (0, f82_249), (0, f82_251), (0, f82_253), (0, f82_255), (0, f82_257), (0, f82_259), (0, f82_261), (2, 85), (2, 86), (2, 87), (0, f82_263 + 1), (2, 88), (2, 89), (2, 90), (2, 91), (2, 92), (2, 93), (2, 94), (4, f82_265), (4, f82_266), (0, f82_267), (2, 95), (2, 96), (2, 97), (2, 98), (2, 99), (2, 100), (2, 101), (2, 102), (0, f82_269), (2, 103), (2, 104), (2, 105), (2, 106), (2, 107), (2, 108), (2, 109), (0, f82_271), (0, f82_273), (2, 110), (2, 111), (2, 112), (2, 113)]) (hb291.get (by decide) h82_275) rfl rfl rfl (fun w292 hk293 hb294 => ?_)
          have hF295 : xFr [82, 85] w226 w292 := ((xFr.of (S := [82, 85]) hb291 (by decide)).tr (xFr.of (S := [82, 85]) hb294 (by decide)))
          have hA296 := FA_fr hF295 (by decide)
          have hf297 : fld w292 82 4 = f82_249 := fld_of hk293
          have hf298 : fld w292 82 5 = f82_251 := fld_of hk293
          have hf299 : fld w292 82 7 = f82_255 := fld_of hk293
          have hf300 : fld w292 82 10 = f82_261 := fld_of hk293
          have hf301 : fld w292 82 14 = f82_263 + 1 := fld_of hk293
          have hu302 : mu w292 = 2 * (fld w292 82 4 - fld w292 82 5) + min 1 (fld w292 82 7) := rfl
          have pq303 := pk238
          unfold PK PS at pq303
          have hM304 : ∀ s, s < 7 → s ≠ 1 → rwv w292 85 s = rwv w 85 s := fun s hs hn => (rwv_of (hr290.but hb294 (by decide)) hs).trans ((if_neg hn).trans (rwv_of h85_37 hs).symm)
          have hM305 : rwv w292 85 1 = u45 + 1 := (rwv_of (hr290.but hb294 (by decide)) (by decide)).trans ((if_pos rfl).trans (by omega))
          have hM306 : ∀ s, s < 7 → rwv w292 85 s ≤ rwv w 85 s + 1 := fun s hs => by
            by_cases z : s = 1
            · subst z; omega
            · rw [hM304 s hs z]; omega
          have hO307 : ∀ j, (j < 50 + 2 * u45 ∨ 52 + 2 * u45 ≤ j) → j < 140 → rwv w292 86 j = rwv w 86 j := fun j hj hl => (rwv_fr hF295 (by decide)).trans (os239 j hj hl)
          have hl309 : u45 < 4 → rwv w292 86 (50 + (2 * u45)) = n103 := fun h => (rwv_fr hF295 (by decide)).trans (ix240 h)
          have hl310 : u45 < 4 → rwv w292 86 ((50 + (2 * u45)) + 1) = n169 := fun h => (rwv_fr hF295 (by decide)).trans (ix241 h)
          have hl311 : FA w226 ≠ 0 ∨ (0 ≤ n103 ∧ n103 ≤ 99) := rg242
          have hl312 : FA w226 ≠ 0 ∨ (1 ≤ n169 ∧ n169 ≤ 999) := rg243
          have hN308 : FA w292 ≠ 0 ∨ 4 ≤ u45 ∨ (1 ≤ rwv w292 86 (50 + 2 * u45 + 1) ∧ rwv w292 86 (50 + 2 * u45 + 1) ≤ 999) := by omega
          have hX313 : FA w292 ≠ 0 ∨ u45 < 4 := by omega
          have hD314 : FA w292 ≠ 0 ∨ (DATA w → DATA w292) := by
            by_cases z : FA w292 ≠ 0
            · exact Or.inl z
            · exact Or.inr (fun hd => hd.s1 hM304 hK48 hM305 (hX313.resolve_left z) hO307 ((hN308.resolve_left z).resolve_left (by have := hX313.resolve_left z; omega)))
          exact xg_e ⟨w292, ⟨rfl, rfl⟩, xMnv.up (S := [85, 82]) hI228 ((xFr.of (S := [85, 82]) hb291 (by decide)).tr (xFr.of (S := [85, 82]) hb294 (by decide))) (List.forall_mem_cons.mpr ⟨(show cpI 7 52 4294967295 (wget w292 85) from ⟨_, (hr290.but hb294 (by decide)), xrb (by omega) (hb38)⟩), List.forall_mem_cons.mpr ⟨(show cp82 (wget w292 82) from ⟨f82_245, f82_247, f82_249, f82_251, f82_253, f82_255, f82_257, f82_259, f82_261, f82_263 + 1, f82_265, f82_266, f82_267, f82_269, f82_271, f82_273, hk293, hb246, hb248, hb250, hb252, hb254, hb256, hb258, hb260, hb262, by omega, hb268, hb270, hb272, hb274, by omega⟩), fun _ h => absurd h List.not_mem_nil⟩⟩), ((((((((hF55.up (by decide)).tr (hF102.up (by decide))).tr (hF146.up (by decide))).tr (hF157.up (by decide))).tr (hF168.up (by decide))).tr (hF214.up (by decide))).tr (hF229.up (by decide))).tr ((xFr.of (S := [82, 83, 85, 86, 87]) hb291 (by decide)).tr (xFr.of (S := [82, 83, 85, 86, 87]) hb294 (by decide)))), ⟨fun h => by have := pq303.1 h; omega, (show fld w292 82 10 = 0 ∨ FA w292 ≠ 0 by omega), Or.inr ⟨by have := ms244; omega, by omega, hM306⟩, hD314⟩⟩
        · refine xg_t (xg_icT (u := f82_189) (v := 2) rfl xnm0 xnm0 (xj_neT hc225)) ?_
          refine xg_t (xg_blk (b := [(416, 1, 0, 0, 0, 0), (417, 3, 13, 140, 96, 183)]) rfl) ?_
          refine xg_t (xg_aload (va := (2, 82)) rfl rfl) ?_
          refine xg_cVv mX12_ends (vs := []) (rest := []) (cn1 := 0) (sl1 := 0) rfl (mEnds (hI213) pk218.2.2.2) rfl (hF214.get (by decide) h82_209) rfl rfl rfl rfl rfl rfl (fun w315 hq316 => ?_)
          obtain ⟨hI317, hF318, hx319⟩ := hq316
          clear hb180 hb182 hb184 hb186 hb188 hb190 hb192 hb194 hb196 hb198 hb202 hb204 hb206 hb208
          obtain ⟨hv320, hv321, hv322, hv323⟩ := hx319
          have pk324 : PK w211 w315 := ⟨fun _ => hv320, by omega, by omega, Or.inr hv320⟩
          have pk325 : PK w w315 := PK.tr pk218 pk324
          have os326 : ∀ j, (j < 50 + 2 * u45 ∨ 52 + 2 * u45 ≤ j) → j < 140 → rwv w315 86 j = rwv w 86 j := fun j hj hl => (rwv_fr hF318 (by decide)).trans (os219 j hj hl)
          have ix327 : u45 < 4 → rwv w315 86 (50 + (2 * u45)) = n103 := fun h => (rwv_fr hF318 (by decide)).trans (ix220 h)
          have ix328 : u45 < 4 → rwv w315 86 ((50 + (2 * u45)) + 1) = n169 := fun h => (rwv_fr hF318 (by decide)).trans (hp216 h)
          have rg329 : FA w315 ≠ 0 ∨ (0 ≤ n103 ∧ n103 ≤ 99) := rg221.imp_left pk324.1
          have rg330 : FA w315 ≠ 0 ∨ (1 ≤ n169 ∧ n169 ≤ 999) := rg222.imp_left pk324.1
          have ms331 : mu w315 < mu w := Nat.lt_of_le_of_lt pk324.2.1 ms223
          clear ix220 hp216 rg221 rg222
          refine xg_t (xg_blk (b := [(420, 1, 0, 0, 0, 0), (421, 3, 1, 12, 11, 17), (424, 1, 2, 1, 0, 0), (425, 1, 39, 0, 0, 0), (426, 1, 10, 0, 0, 0), (427, 1, 3, 1, 0, 0), (428, 1, 11, 0, 0, 0), (429, 1, 17, 0, 0, 0), (430, 1, 0, 0, 0, 0), (431, 1, 19, 0, 0, 0), (432, 3, 1, 12, 14, 212), (435, 1, 3, 1, 0, 0), (436, 1, 11, 0, 0, 0), (437, 3, 14, 12, 14, 212), (440, 1, 12, 0, 0, 0)]) rfl) ?_
          obtain ⟨f82_332, f82_334, f82_336, f82_338, f82_340, f82_342, f82_344, f82_346, f82_348, f82_350, f82_352, f82_353, f82_354, f82_356, f82_358, f82_360, h82_362, hb333, hb335, hb337, hb339, hb341, hb343, hb345, hb347, hb349, hb351, hb355, hb357, hb359, hb361, hb363⟩ := (hI317 82 (by decide) (by decide) : cp82 (wget w315 82))
          have hf364 : fld w315 82 4 = f82_336 := fld_of h82_362
          have hf365 : fld w315 82 5 = f82_338 := fld_of h82_362
          have hf366 : fld w315 82 7 = f82_342 := fld_of h82_362
          have hf367 : fld w315 82 10 = f82_348 := fld_of h82_362
          have hf368 : fld w315 82 14 = f82_350 := fld_of h82_362
          have hu369 : mu w315 = 2 * (fld w315 82 4 - fld w315 82 5) + min 1 (fld w315 82 7) := rfl
          have hf370 := pk325.2.2.1
          have hl371 : f82_350 ≤ 1000 := by omega
          refine xg_t (xg_aload (va := (2, 82)) rfl rfl) ?_
          refine xg_t (xg_getf (va := (2, 85)) h82_362 rfl) ?_
          refine xg_t (xg_iload (va := (0, 1)) rfl rfl) ?_
          refine xg_t (xg_dup2 rfl) ?_
          refine xg_ialdB (n := 1) (B := 4294967295) (((((((h85_37.fr hF55 (by decide)).fr hF102 (by decide)).fr hF146 (by decide)).fr hF157 (by decide)).fr hF168 (by decide)).fr hF214 (by decide)).fr hF318 (by decide)) (hb38) xnm0 (by omega) (fun u372 hu373 he374 => ?_)
          have hl375 : u372 = u45 := by omega
          refine xg_t (xg_const) ?_
          refine xg_t (xg_iadd (u := u372) (v := 1) (z := u372 + 1) xnm0 xnm0 (by omega)) ?_
          refine xg_iastK (n := 1) (u := u372 + 1) (((((((h85_37.fr hF55 (by decide)).fr hF102 (by decide)).fr hF146 (by decide)).fr hF157 (by decide)).fr hF168 (by decide)).fr hF214 (by decide)).fr hF318 (by decide)) xnm0 xnm0 rfl (by omega) (fun w376 hr377 hb378 => ?_)
          refine xg_t (xg_aload (va := (2, 82)) rfl rfl) ?_
          refine xg_t (xg_dup rfl) ?_
          refine xg_t (xg_getf (va := (0, f82_350)) (hb378.get (by decide) h82_362) rfl) ?_
          refine xg_t (xg_const) ?_
          refine xg_t (xg_iadd (u := f82_350) (v := 1) (z := f82_350 + 1) xnm0 xnm0 (by omega)) ?_
          refine xg_putI (fl1 := [(2, 83), (2, 84), (0, f82_332), (0, f82_334), (0, f82_336), (0, f82_338), (0, f82_340), (0, f82_342), (0, f82_344), (0, f82_346), (0, f82_348), (2, 85), (2, 86), (2, 87), (0, f82_350 + 1), (2, 88), (2, 89), (2, 90), (2, 91), (2, 92), (2, 93), (2, 94), (4, f82_352), (4, f82_353), (0, f82_354), (2, 95), (2, 96), (2, 97), (2, 98), (2, 99), (2, 100), (2, 101), (2, 102), (0, f82_356), (2, 103), (2, 104), (2, 105), (2, 106), (2, 107), (2, 108), (2, 109), (0, f82_358), (0, f82_360), (2, 110), (2, 111), (2, 112), (2, 113)]) (hb378.get (by decide) h82_362) rfl rfl rfl (fun w379 hk380 hb381 => ?_)
          have hF382 : xFr [82, 85] w315 w379 := ((xFr.of (S := [82, 85]) hb378 (by decide)).tr (xFr.of (S := [82, 85]) hb381 (by decide)))
          have hA383 := FA_fr hF382 (by decide)
          have hf384 : fld w379 82 4 = f82_336 := fld_of hk380
          have hf385 : fld w379 82 5 = f82_338 := fld_of hk380
          have hf386 : fld w379 82 7 = f82_342 := fld_of hk380
          have hf387 : fld w379 82 10 = f82_348 := fld_of hk380
          have hf388 : fld w379 82 14 = f82_350 + 1 := fld_of hk380
          have hu389 : mu w379 = 2 * (fld w379 82 4 - fld w379 82 5) + min 1 (fld w379 82 7) := rfl
          have pq390 := pk325
          unfold PK PS at pq390
          have hM391 : ∀ s, s < 7 → s ≠ 1 → rwv w379 85 s = rwv w 85 s := fun s hs hn => (rwv_of (hr377.but hb381 (by decide)) hs).trans ((if_neg hn).trans (rwv_of h85_37 hs).symm)
          have hM392 : rwv w379 85 1 = u45 + 1 := (rwv_of (hr377.but hb381 (by decide)) (by decide)).trans ((if_pos rfl).trans (by omega))
          have hM393 : ∀ s, s < 7 → rwv w379 85 s ≤ rwv w 85 s + 1 := fun s hs => by
            by_cases z : s = 1
            · subst z; omega
            · rw [hM391 s hs z]; omega
          have hO394 : ∀ j, (j < 50 + 2 * u45 ∨ 52 + 2 * u45 ≤ j) → j < 140 → rwv w379 86 j = rwv w 86 j := fun j hj hl => (rwv_fr hF382 (by decide)).trans (os326 j hj hl)
          have hl396 : u45 < 4 → rwv w379 86 (50 + (2 * u45)) = n103 := fun h => (rwv_fr hF382 (by decide)).trans (ix327 h)
          have hl397 : u45 < 4 → rwv w379 86 ((50 + (2 * u45)) + 1) = n169 := fun h => (rwv_fr hF382 (by decide)).trans (ix328 h)
          have hl398 : FA w315 ≠ 0 ∨ (0 ≤ n103 ∧ n103 ≤ 99) := rg329
          have hl399 : FA w315 ≠ 0 ∨ (1 ≤ n169 ∧ n169 ≤ 999) := rg330
          have hN395 : FA w379 ≠ 0 ∨ 4 ≤ u45 ∨ (1 ≤ rwv w379 86 (50 + 2 * u45 + 1) ∧ rwv w379 86 (50 + 2 * u45 + 1) ≤ 999) := by omega
          have hX400 : FA w379 ≠ 0 ∨ u45 < 4 := by omega
          have hD401 : FA w379 ≠ 0 ∨ (DATA w → DATA w379) := by
            by_cases z : FA w379 ≠ 0
            · exact Or.inl z
            · exact Or.inr (fun hd => hd.s1 hM391 hK48 hM392 (hX400.resolve_left z) hO394 ((hN395.resolve_left z).resolve_left (by have := hX400.resolve_left z; omega)))
          exact xg_e ⟨w379, ⟨rfl, rfl⟩, xMnv.up (S := [85, 82]) hI317 ((xFr.of (S := [85, 82]) hb378 (by decide)).tr (xFr.of (S := [85, 82]) hb381 (by decide))) (List.forall_mem_cons.mpr ⟨(show cpI 7 52 4294967295 (wget w379 85) from ⟨_, (hr377.but hb381 (by decide)), xrb (by omega) (hb38)⟩), List.forall_mem_cons.mpr ⟨(show cp82 (wget w379 82) from ⟨f82_332, f82_334, f82_336, f82_338, f82_340, f82_342, f82_344, f82_346, f82_348, f82_350 + 1, f82_352, f82_353, f82_354, f82_356, f82_358, f82_360, hk380, hb333, hb335, hb337, hb339, hb341, hb343, hb345, hb347, hb349, by omega, hb355, hb357, hb359, hb361, by omega⟩), fun _ h => absurd h List.not_mem_nil⟩⟩), ((((((((hF55.up (by decide)).tr (hF102.up (by decide))).tr (hF146.up (by decide))).tr (hF157.up (by decide))).tr (hF168.up (by decide))).tr (hF214.up (by decide))).tr (hF318.up (by decide))).tr ((xFr.of (S := [82, 83, 85, 86, 87]) hb378 (by decide)).tr (xFr.of (S := [82, 83, 85, 86, 87]) hb381 (by decide)))), ⟨fun h => by have := pq390.1 h; omega, (show fld w379 82 10 = 0 ∨ FA w379 ≠ 0 by omega), Or.inr ⟨by have := ms331; omega, by omega, hM393⟩, hD401⟩⟩
      · refine xg_t (xg_ifT (u := f82_195) rfl xnm0 (xj_neT hc224)) ?_
        refine xg_t (xg_blk (b := [(416, 1, 0, 0, 0, 0), (417, 3, 13, 140, 96, 183)]) rfl) ?_
        refine xg_t (xg_aload (va := (2, 82)) rfl rfl) ?_
        refine xg_cVv mX12_ends (vs := []) (rest := []) (cn1 := 0) (sl1 := 0) rfl (mEnds (hI213) pk218.2.2.2) rfl (hF214.get (by decide) h82_209) rfl rfl rfl rfl rfl rfl (fun w402 hq403 => ?_)
        obtain ⟨hI404, hF405, hx406⟩ := hq403
        clear hb180 hb182 hb184 hb186 hb188 hb190 hb192 hb194 hb196 hb198 hb202 hb204 hb206 hb208
        obtain ⟨hv407, hv408, hv409, hv410⟩ := hx406
        have pk411 : PK w211 w402 := ⟨fun _ => hv407, by omega, by omega, Or.inr hv407⟩
        have pk412 : PK w w402 := PK.tr pk218 pk411
        have os413 : ∀ j, (j < 50 + 2 * u45 ∨ 52 + 2 * u45 ≤ j) → j < 140 → rwv w402 86 j = rwv w 86 j := fun j hj hl => (rwv_fr hF405 (by decide)).trans (os219 j hj hl)
        have ix414 : u45 < 4 → rwv w402 86 (50 + (2 * u45)) = n103 := fun h => (rwv_fr hF405 (by decide)).trans (ix220 h)
        have ix415 : u45 < 4 → rwv w402 86 ((50 + (2 * u45)) + 1) = n169 := fun h => (rwv_fr hF405 (by decide)).trans (hp216 h)
        have rg416 : FA w402 ≠ 0 ∨ (0 ≤ n103 ∧ n103 ≤ 99) := rg221.imp_left pk411.1
        have rg417 : FA w402 ≠ 0 ∨ (1 ≤ n169 ∧ n169 ≤ 999) := rg222.imp_left pk411.1
        have ms418 : mu w402 < mu w := Nat.lt_of_le_of_lt pk411.2.1 ms223
        clear ix220 hp216 rg221 rg222
        refine xg_t (xg_blk (b := [(420, 1, 0, 0, 0, 0), (421, 3, 1, 12, 11, 17), (424, 1, 2, 1, 0, 0), (425, 1, 39, 0, 0, 0), (426, 1, 10, 0, 0, 0), (427, 1, 3, 1, 0, 0), (428, 1, 11, 0, 0, 0), (429, 1, 17, 0, 0, 0), (430, 1, 0, 0, 0, 0), (431, 1, 19, 0, 0, 0), (432, 3, 1, 12, 14, 212), (435, 1, 3, 1, 0, 0), (436, 1, 11, 0, 0, 0), (437, 3, 14, 12, 14, 212), (440, 1, 12, 0, 0, 0)]) rfl) ?_
        obtain ⟨f82_419, f82_421, f82_423, f82_425, f82_427, f82_429, f82_431, f82_433, f82_435, f82_437, f82_439, f82_440, f82_441, f82_443, f82_445, f82_447, h82_449, hb420, hb422, hb424, hb426, hb428, hb430, hb432, hb434, hb436, hb438, hb442, hb444, hb446, hb448, hb450⟩ := (hI404 82 (by decide) (by decide) : cp82 (wget w402 82))
        have hf451 : fld w402 82 4 = f82_423 := fld_of h82_449
        have hf452 : fld w402 82 5 = f82_425 := fld_of h82_449
        have hf453 : fld w402 82 7 = f82_429 := fld_of h82_449
        have hf454 : fld w402 82 10 = f82_435 := fld_of h82_449
        have hf455 : fld w402 82 14 = f82_437 := fld_of h82_449
        have hu456 : mu w402 = 2 * (fld w402 82 4 - fld w402 82 5) + min 1 (fld w402 82 7) := rfl
        have hf457 := pk412.2.2.1
        have hl458 : f82_437 ≤ 1000 := by omega
        refine xg_t (xg_aload (va := (2, 82)) rfl rfl) ?_
        refine xg_t (xg_getf (va := (2, 85)) h82_449 rfl) ?_
        refine xg_t (xg_iload (va := (0, 1)) rfl rfl) ?_
        refine xg_t (xg_dup2 rfl) ?_
        refine xg_ialdB (n := 1) (B := 4294967295) (((((((h85_37.fr hF55 (by decide)).fr hF102 (by decide)).fr hF146 (by decide)).fr hF157 (by decide)).fr hF168 (by decide)).fr hF214 (by decide)).fr hF405 (by decide)) (hb38) xnm0 (by omega) (fun u459 hu460 he461 => ?_)
        have hl462 : u459 = u45 := by omega
        refine xg_t (xg_const) ?_
        refine xg_t (xg_iadd (u := u459) (v := 1) (z := u459 + 1) xnm0 xnm0 (by omega)) ?_
        refine xg_iastK (n := 1) (u := u459 + 1) (((((((h85_37.fr hF55 (by decide)).fr hF102 (by decide)).fr hF146 (by decide)).fr hF157 (by decide)).fr hF168 (by decide)).fr hF214 (by decide)).fr hF405 (by decide)) xnm0 xnm0 rfl (by omega) (fun w463 hr464 hb465 => ?_)
        refine xg_t (xg_aload (va := (2, 82)) rfl rfl) ?_
        refine xg_t (xg_dup rfl) ?_
        refine xg_t (xg_getf (va := (0, f82_437)) (hb465.get (by decide) h82_449) rfl) ?_
        refine xg_t (xg_const) ?_
        refine xg_t (xg_iadd (u := f82_437) (v := 1) (z := f82_437 + 1) xnm0 xnm0 (by omega)) ?_
        refine xg_putI (fl1 := [(2, 83), (2, 84), (0, f82_419), (0, f82_421), (0, f82_423), (0, f82_425), (0, f82_427), (0, f82_429), (0, f82_431), (0, f82_433), (0, f82_435), (2, 85), (2, 86), (2, 87), (0, f82_437 + 1), (2, 88), (2, 89), (2, 90), (2, 91), (2, 92), (2, 93), (2, 94), (4, f82_439), (4, f82_440), (0, f82_441), (2, 95), (2, 96), (2, 97), (2, 98), (2, 99), (2, 100), (2, 101), (2, 102), (0, f82_443), (2, 103), (2, 104), (2, 105), (2, 106), (2, 107), (2, 108), (2, 109), (0, f82_445), (0, f82_447), (2, 110), (2, 111), (2, 112), (2, 113)]) (hb465.get (by decide) h82_449) rfl rfl rfl (fun w466 hk467 hb468 => ?_)
        have hF469 : xFr [82, 85] w402 w466 := ((xFr.of (S := [82, 85]) hb465 (by decide)).tr (xFr.of (S := [82, 85]) hb468 (by decide)))
        have hA470 := FA_fr hF469 (by decide)
        have hf471 : fld w466 82 4 = f82_423 := fld_of hk467
        have hf472 : fld w466 82 5 = f82_425 := fld_of hk467
        have hf473 : fld w466 82 7 = f82_429 := fld_of hk467
        have hf474 : fld w466 82 10 = f82_435 := fld_of hk467
        have hf475 : fld w466 82 14 = f82_437 + 1 := fld_of hk467
        have hu476 : mu w466 = 2 * (fld w466 82 4 - fld w466 82 5) + min 1 (fld w466 82 7) := rfl
        have pq477 := pk412
        unfold PK PS at pq477
        have hM478 : ∀ s, s < 7 → s ≠ 1 → rwv w466 85 s = rwv w 85 s := fun s hs hn => (rwv_of (hr464.but hb468 (by decide)) hs).trans ((if_neg hn).trans (rwv_of h85_37 hs).symm)
        have hM479 : rwv w466 85 1 = u45 + 1 := (rwv_of (hr464.but hb468 (by decide)) (by decide)).trans ((if_pos rfl).trans (by omega))
        have hM480 : ∀ s, s < 7 → rwv w466 85 s ≤ rwv w 85 s + 1 := fun s hs => by
          by_cases z : s = 1
          · subst z; omega
          · rw [hM478 s hs z]; omega
        have hO481 : ∀ j, (j < 50 + 2 * u45 ∨ 52 + 2 * u45 ≤ j) → j < 140 → rwv w466 86 j = rwv w 86 j := fun j hj hl => (rwv_fr hF469 (by decide)).trans (os413 j hj hl)
        have hl483 : u45 < 4 → rwv w466 86 (50 + (2 * u45)) = n103 := fun h => (rwv_fr hF469 (by decide)).trans (ix414 h)
        have hl484 : u45 < 4 → rwv w466 86 ((50 + (2 * u45)) + 1) = n169 := fun h => (rwv_fr hF469 (by decide)).trans (ix415 h)
        have hl485 : FA w402 ≠ 0 ∨ (0 ≤ n103 ∧ n103 ≤ 99) := rg416
        have hl486 : FA w402 ≠ 0 ∨ (1 ≤ n169 ∧ n169 ≤ 999) := rg417
        have hN482 : FA w466 ≠ 0 ∨ 4 ≤ u45 ∨ (1 ≤ rwv w466 86 (50 + 2 * u45 + 1) ∧ rwv w466 86 (50 + 2 * u45 + 1) ≤ 999) := by omega
        have hX487 : FA w466 ≠ 0 ∨ u45 < 4 := by omega
        have hD488 : FA w466 ≠ 0 ∨ (DATA w → DATA w466) := by
          by_cases z : FA w466 ≠ 0
          · exact Or.inl z
          · exact Or.inr (fun hd => hd.s1 hM478 hK48 hM479 (hX487.resolve_left z) hO481 ((hN482.resolve_left z).resolve_left (by have := hX487.resolve_left z; omega)))
        exact xg_e ⟨w466, ⟨rfl, rfl⟩, xMnv.up (S := [85, 82]) hI404 ((xFr.of (S := [85, 82]) hb465 (by decide)).tr (xFr.of (S := [85, 82]) hb468 (by decide))) (List.forall_mem_cons.mpr ⟨(show cpI 7 52 4294967295 (wget w466 85) from ⟨_, (hr464.but hb468 (by decide)), xrb (by omega) (hb38)⟩), List.forall_mem_cons.mpr ⟨(show cp82 (wget w466 82) from ⟨f82_419, f82_421, f82_423, f82_425, f82_427, f82_429, f82_431, f82_433, f82_435, f82_437 + 1, f82_439, f82_440, f82_441, f82_443, f82_445, f82_447, hk467, hb420, hb422, hb424, hb426, hb428, hb430, hb432, hb434, hb436, by omega, hb442, hb444, hb446, hb448, by omega⟩), fun _ h => absurd h List.not_mem_nil⟩⟩), ((((((((hF55.up (by decide)).tr (hF102.up (by decide))).tr (hF146.up (by decide))).tr (hF157.up (by decide))).tr (hF168.up (by decide))).tr (hF214.up (by decide))).tr (hF405.up (by decide))).tr ((xFr.of (S := [82, 83, 85, 86, 87]) hb465 (by decide)).tr (xFr.of (S := [82, 83, 85, 86, 87]) hb468 (by decide)))), ⟨fun h => by have := pq477.1 h; omega, (show fld w466 82 10 = 0 ∨ FA w466 ≠ 0 by omega), Or.inr ⟨by have := ms418; omega, by omega, hM480⟩, hD488⟩⟩
    · refine xg_t (xg_ifF (u := n147) rfl xnm0 (xj_eqF hc153)) ?_
      refine xg_t (xg_aload (va := (2, 82)) rfl rfl) ?_
      refine xg_t (xg_const) ?_
      refine xg_t (xg_iload (va := (0, at_)) rfl rfl) ?_
      refine xg_cVv mX12_also (vs := [(0, 3), (0, at_)]) (rest := []) (cn1 := 0) (sl1 := 0) rfl (mAlso (hI145) (by omega) (by omega) (by omega) pk149.2.2.2) rfl (hF146.get (by decide) h82_141) rfl rfl rfl rfl rfl rfl (fun w489 hq490 => ?_)
      obtain ⟨hI491, hF492, hx493⟩ := hq490
      have pk494 : PK w143 w489 := ⟨fun _ => hx493, Nat.le_of_eq (mu_fr hF492 (by decide)), fld_fr hF492 (by decide), Or.inr hx493⟩
      have pk495 : PK w w489 := PK.tr pk149 pk494
      have os496 : ∀ j, (j < 50 + 2 * u45 ∨ 52 + 2 * u45 ≤ j) → j < 140 → rwv w489 86 j = rwv w 86 j := fun j hj hl => (rwv_fr hF492 (by decide)).trans (os150 j hj hl)
      have rg497 : FA w489 ≠ 0 ∨ (0 ≤ n103 ∧ n103 ≤ 99) := rg151.imp_left pk494.1
      have ms498 : mu w489 < mu w := Nat.lt_of_le_of_lt pk494.2.1 ms152
      clear rg151
      refine xg_t (xg_blk (b := [(141, 1, 0, 0, 0, 0), (142, 1, 2, 1, 0, 0), (143, 1, 2, 3, 0, 0), (144, 2, 4, 50, 0, 0), (146, 1, 3, 2, 0, 0), (147, 1, 2, 3, 0, 0), (148, 1, 16, 0, 0, 0), (149, 1, 11, 0, 0, 0), (150, 2, 2, 4, 0, 0), (152, 3, 13, 211, 96, 200), (155, 1, 0, 0, 0, 0), (156, 1, 2, 1, 0, 0), (157, 1, 2, 3, 0, 0), (158, 2, 4, 50, 0, 0), (160, 1, 3, 2, 0, 0), (161, 1, 2, 3, 0, 0), (162, 1, 16, 0, 0, 0), (163, 1, 11, 0, 0, 0), (164, 1, 3, 1, 0, 0), (165, 1, 11, 0, 0, 0), (166, 1, 0, 0, 0, 0), (167, 1, 3, 1, 0, 0), (168, 3, 5, 999, 0, 0), (171, 3, 13, 199, 96, 196), (174, 3, 13, 211, 96, 200), (177, 3, 8, 394, 0, 0)]) rfl) ?_
      refine xg_t (xg_aload (va := (2, 82)) rfl rfl) ?_
      refine xg_t (xg_iload (va := (0, 1)) rfl rfl) ?_
      refine xg_t (xg_iload (va := (0, u45)) rfl rfl) ?_
      refine xg_t (xg_bip) ?_
      refine xg_t (xg_const) ?_
      refine xg_t (xg_iload (va := (0, u45)) rfl rfl) ?_
      refine xg_t (xg_imul (u := 2) (v := u45) (z := 2 * u45) xnm0 xnm0 (by omega)) ?_
      refine xg_t (xg_iadd (u := 50) (v := 2 * u45) (z := 50 + (2 * u45)) xnm0 xnm0 (by omega)) ?_
      refine xg_t (xg_iload (va := (0, n103)) rfl rfl) ?_
      refine xg_cVv mX12_puts (vs := [(0, 1), (0, u45), (0, 50 + (2 * u45)), (0, n103)]) (rest := []) (cn1 := 0) (sl1 := 0) rfl (mPuts1 (hI491) (by omega) (by omega) (by omega) (fun _ => by omega)) rfl (hF492.get (by decide) (hF146.get (by decide) h82_141)) rfl rfl rfl rfl rfl rfl (fun w499 hq500 => ?_)
      obtain ⟨hI501, hF502, hx503⟩ := hq500
      obtain ⟨hp504, hp505⟩ := hx503
      have pk506 : PK w w499 := PK.tr pk495 (PK.fr hF502 (by decide) (by decide) pk495.2.2.2)
      have os507 : ∀ j, (j < 50 + 2 * u45 ∨ 52 + 2 * u45 ≤ j) → j < 140 → rwv w499 86 j = rwv w 86 j := fun j hj hl => (hp505 j (by omega) hl).trans (os496 j hj hl)
      have rg508 : FA w499 ≠ 0 ∨ (0 ≤ n103 ∧ n103 ≤ 99) := rg497.imp_left (PK.fr hF502 (by decide) (by decide) pk495.2.2.2).1
      have rg509 : FA w499 ≠ 0 ∨ 0 = 1 := (Or.inl hx493 : FA w489 ≠ 0 ∨ 0 = 1).imp_left (PK.fr hF502 (by decide) (by decide) pk495.2.2.2).1
      have ms510 : mu w499 < mu w := Nat.lt_of_le_of_lt (PK.fr hF502 (by decide) (by decide) pk495.2.2.2).2.1 ms498
      clear rg497
      refine xg_t (xg_aload (va := (2, 82)) rfl rfl) ?_
      refine xg_t (xg_iload (va := (0, 1)) rfl rfl) ?_
      refine xg_t (xg_iload (va := (0, u45)) rfl rfl) ?_
      refine xg_t (xg_bip) ?_
      refine xg_t (xg_const) ?_
      refine xg_t (xg_iload (va := (0, u45)) rfl rfl) ?_
      refine xg_t (xg_imul (u := 2) (v := u45) (z := 2 * u45) xnm0 xnm0 (by omega)) ?_
      refine xg_t (xg_iadd (u := 50) (v := 2 * u45) (z := 50 + (2 * u45)) xnm0 xnm0 (by omega)) ?_
      refine xg_t (xg_const) ?_
      refine xg_t (xg_iadd (u := 50 + (2 * u45)) (v := 1) (z := (50 + (2 * u45)) + 1) xnm0 xnm0 (by omega)) ?_
      refine xg_t (xg_aload (va := (2, 82)) rfl rfl) ?_
      refine xg_t (xg_const) ?_
      refine xg_t (xg_sip) ?_
      refine xg_cVi mX12_numbered (vs := [(0, 1), (0, 999)]) (rest := [(0, (50 + (2 * u45)) + 1), (0, u45), (0, 1), (2, 82)]) (cn1 := 0) (sl1 := 0) rfl (mNumbered (hI501) (by omega) (by omega) pk506.2.2.2) rfl (hF502.get (by decide) (hF492.get (by decide) (hF146.get (by decide) h82_141))) rfl rfl rfl rfl rfl rfl (fun n515 w511 hq512 => ?_)
      obtain ⟨hn516, hI513, hF514⟩ := hq512
      clear hb112 hb114 hb116 hb118 hb120 hb122 hb124 hb126 hb128 hb130 hb134 hb136 hb138 hb140
      obtain ⟨hn517, hn518, hn519⟩ := hn516
      have pk520 : PK w w511 := PK.tr pk506 hn518
      have os521 : ∀ j, (j < 50 + 2 * u45 ∨ 52 + 2 * u45 ≤ j) → j < 140 → rwv w511 86 j = rwv w 86 j := fun j hj hl => (rwv_fr hF514 (by decide)).trans (os507 j hj hl)
      have ix522 : u45 < 4 → rwv w511 86 (50 + (2 * u45)) = n103 := fun h => (rwv_fr hF514 (by decide)).trans (hp504 h)
      have rg523 : FA w511 ≠ 0 ∨ (0 ≤ n103 ∧ n103 ≤ 99) := rg508.imp_left hn518.1
      have rg524 : FA w511 ≠ 0 ∨ 0 = 1 := rg509.imp_left hn518.1
      have ms525 : mu w511 < mu w := Nat.lt_of_le_of_lt hn518.2.1 ms510
      clear hp504 rg508 rg509
      obtain ⟨f82_526, f82_528, f82_530, f82_532, f82_534, f82_536, f82_538, f82_540, f82_542, f82_544, f82_546, f82_547, f82_548, f82_550, f82_552, f82_554, h82_556, hb527, hb529, hb531, hb533, hb535, hb537, hb539, hb541, hb543, hb545, hb549, hb551, hb553, hb555, hb557⟩ := (hI513 82 (by decide) (by decide) : cp82 (wget w511 82))
      refine xg_cVv mX12_puts (vs := [(0, 1), (0, u45), (0, (50 + (2 * u45)) + 1), (0, n515)]) (rest := []) (cn1 := 0) (sl1 := 0) rfl (mPuts1 (hI513) (by omega) (by omega) (by omega) (fun _ => by omega)) rfl h82_556 rfl rfl rfl rfl rfl rfl (fun w558 hq559 => ?_)
      obtain ⟨hI560, hF561, hx562⟩ := hq559
      obtain ⟨hp563, hp564⟩ := hx562
      have pk565 : PK w w558 := PK.tr pk520 (PK.fr hF561 (by decide) (by decide) pk520.2.2.2)
      have os566 : ∀ j, (j < 50 + 2 * u45 ∨ 52 + 2 * u45 ≤ j) → j < 140 → rwv w558 86 j = rwv w 86 j := fun j hj hl => (hp564 j (by omega) hl).trans (os521 j hj hl)
      have ix567 : u45 < 4 → rwv w558 86 (50 + (2 * u45)) = n103 := fun h => (hp564 _ (by omega) (by omega)).trans (ix522 h)
      have rg568 : FA w558 ≠ 0 ∨ (0 ≤ n103 ∧ n103 ≤ 99) := rg523.imp_left (PK.fr hF561 (by decide) (by decide) pk520.2.2.2).1
      have rg569 : FA w558 ≠ 0 ∨ 0 = 1 := rg524.imp_left (PK.fr hF561 (by decide) (by decide) pk520.2.2.2).1
      have rg570 : FA w558 ≠ 0 ∨ (1 ≤ n515 ∧ n515 ≤ 999) := hn519.imp_left (PK.fr hF561 (by decide) (by decide) pk520.2.2.2).1
      have ms571 : mu w558 < mu w := Nat.lt_of_le_of_lt (PK.fr hF561 (by decide) (by decide) pk520.2.2.2).2.1 ms525
      clear ix522 rg523 rg524 hn519
      refine xg_t (xg_goto) ?_
      refine xg_t (xg_blk (b := [(394, 1, 0, 0, 0, 0), (395, 3, 1, 12, 10, 180), (398, 3, 7, 416, 1, 0), (401, 1, 0, 0, 0, 0), (402, 3, 1, 12, 7, 151), (405, 1, 3, 2, 0, 0), (406, 3, 6, 416, 1, 0), (409, 1, 0, 0, 0, 0), (410, 3, 13, 110, 96, 190), (413, 3, 8, 420, 0, 0)]) rfl) ?_
      refine xg_t (xg_aload (va := (2, 82)) rfl rfl) ?_
      refine xg_t (xg_getf (va := (0, f82_542)) (hF561.get (by decide) h82_556) rfl) ?_
      by_cases hc572 : f82_542 = 0
      · refine xg_t (xg_ifF (u := f82_542) rfl xnm0 (xj_neF hc572)) ?_
        refine xg_t (xg_aload (va := (2, 82)) rfl rfl) ?_
        refine xg_t (xg_getf (va := (0, f82_536)) (hF561.get (by decide) h82_556) rfl) ?_
        refine xg_t (xg_const) ?_
        by_cases hc573 : f82_536 = 2
        · refine xg_t (xg_icF (u := f82_536) (v := 2) rfl xnm0 xnm0 (xj_neF hc573)) ?_
          refine xg_t (xg_aload (va := (2, 82)) rfl rfl) ?_
          refine xg_cVv mX12_advance (vs := []) (rest := []) (cn1 := 0) (sl1 := 0) rfl (mAdvance (hI560)) rfl (hF561.get (by decide) h82_556) rfl rfl rfl rfl rfl rfl (fun w574 hq575 => ?_)
          obtain ⟨hI576, hF577, hx578⟩ := hq575
          clear hb527 hb529 hb531 hb533 hb535 hb537 hb539 hb541 hb543 hb545 hb549 hb551 hb553 hb555
          obtain ⟨hv579, hv580, hv581, hv582⟩ := hx578
          have hf584 := FA_fr hF577 (by decide)
          have hs585 := pk565.2.2.2
          unfold PS at hs585
          have pk583 : PK w558 w574 := ⟨fun _ => by omega, hv579, hv582, (show fld w574 82 10 = 0 ∨ FA w574 ≠ 0 by omega)⟩
          clear hs585
          clear hv580
          have pk586 : PK w w574 := PK.tr pk565 pk583
          have os587 : ∀ j, (j < 50 + 2 * u45 ∨ 52 + 2 * u45 ≤ j) → j < 140 → rwv w574 86 j = rwv w 86 j := fun j hj hl => (rwv_fr hF577 (by decide)).trans (os566 j hj hl)
          have ix588 : u45 < 4 → rwv w574 86 (50 + (2 * u45)) = n103 := fun h => (rwv_fr hF577 (by decide)).trans (ix567 h)
          have ix589 : u45 < 4 → rwv w574 86 ((50 + (2 * u45)) + 1) = n515 := fun h => (rwv_fr hF577 (by decide)).trans (hp563 h)
          have rg590 : FA w574 ≠ 0 ∨ (0 ≤ n103 ∧ n103 ≤ 99) := rg568.imp_left pk583.1
          have rg591 : FA w574 ≠ 0 ∨ 0 = 1 := rg569.imp_left pk583.1
          have rg592 : FA w574 ≠ 0 ∨ (1 ≤ n515 ∧ n515 ≤ 999) := rg570.imp_left pk583.1
          have ms593 : mu w574 < mu w := Nat.lt_of_le_of_lt pk583.2.1 ms571
          clear ix567 hp563 rg568 rg569 rg570
          refine xg_t (xg_goto) ?_
          refine xg_t (xg_blk (b := [(420, 1, 0, 0, 0, 0), (421, 3, 1, 12, 11, 17), (424, 1, 2, 1, 0, 0), (425, 1, 39, 0, 0, 0), (426, 1, 10, 0, 0, 0), (427, 1, 3, 1, 0, 0), (428, 1, 11, 0, 0, 0), (429, 1, 17, 0, 0, 0), (430, 1, 0, 0, 0, 0), (431, 1, 19, 0, 0, 0), (432, 3, 1, 12, 14, 212), (435, 1, 3, 1, 0, 0), (436, 1, 11, 0, 0, 0), (437, 3, 14, 12, 14, 212), (440, 1, 12, 0, 0, 0)]) rfl) ?_
          obtain ⟨f82_594, f82_596, f82_598, f82_600, f82_602, f82_604, f82_606, f82_608, f82_610, f82_612, f82_614, f82_615, f82_616, f82_618, f82_620, f82_622, h82_624, hb595, hb597, hb599, hb601, hb603, hb605, hb607, hb609, hb611, hb613, hb617, hb619, hb621, hb623, hb625⟩ := (hI576 82 (by decide) (by decide) : cp82 (wget w574 82))
          have hf626 : fld w574 82 4 = f82_598 := fld_of h82_624
          have hf627 : fld w574 82 5 = f82_600 := fld_of h82_624
          have hf628 : fld w574 82 7 = f82_604 := fld_of h82_624
          have hf629 : fld w574 82 10 = f82_610 := fld_of h82_624
          have hf630 : fld w574 82 14 = f82_612 := fld_of h82_624
          have hu631 : mu w574 = 2 * (fld w574 82 4 - fld w574 82 5) + min 1 (fld w574 82 7) := rfl
          have hf632 := pk586.2.2.1
          have hl633 : f82_612 ≤ 1000 := by omega
          refine xg_t (xg_aload (va := (2, 82)) rfl rfl) ?_
          refine xg_t (xg_getf (va := (2, 85)) h82_624 rfl) ?_
          refine xg_t (xg_iload (va := (0, 1)) rfl rfl) ?_
          refine xg_t (xg_dup2 rfl) ?_
          refine xg_ialdB (n := 1) (B := 4294967295) ((((((((h85_37.fr hF55 (by decide)).fr hF102 (by decide)).fr hF146 (by decide)).fr hF492 (by decide)).fr hF502 (by decide)).fr hF514 (by decide)).fr hF561 (by decide)).fr hF577 (by decide)) (hb38) xnm0 (by omega) (fun u634 hu635 he636 => ?_)
          have hl637 : u634 = u45 := by omega
          refine xg_t (xg_const) ?_
          refine xg_t (xg_iadd (u := u634) (v := 1) (z := u634 + 1) xnm0 xnm0 (by omega)) ?_
          refine xg_iastK (n := 1) (u := u634 + 1) ((((((((h85_37.fr hF55 (by decide)).fr hF102 (by decide)).fr hF146 (by decide)).fr hF492 (by decide)).fr hF502 (by decide)).fr hF514 (by decide)).fr hF561 (by decide)).fr hF577 (by decide)) xnm0 xnm0 rfl (by omega) (fun w638 hr639 hb640 => ?_)
          refine xg_t (xg_aload (va := (2, 82)) rfl rfl) ?_
          refine xg_t (xg_dup rfl) ?_
          refine xg_t (xg_getf (va := (0, f82_612)) (hb640.get (by decide) h82_624) rfl) ?_
          refine xg_t (xg_const) ?_
          refine xg_t (xg_iadd (u := f82_612) (v := 1) (z := f82_612 + 1) xnm0 xnm0 (by omega)) ?_
          refine xg_putI (fl1 := [(2, 83), (2, 84), (0, f82_594), (0, f82_596), (0, f82_598), (0, f82_600), (0, f82_602), (0, f82_604), (0, f82_606), (0, f82_608), (0, f82_610), (2, 85), (2, 86), (2, 87), (0, f82_612 + 1), (2, 88), (2, 89), (2, 90), (2, 91), (2, 92), (2, 93), (2, 94), (4, f82_614), (4, f82_615), (0, f82_616), (2, 95), (2, 96), (2, 97), (2, 98), (2, 99), (2, 100), (2, 101), (2, 102), (0, f82_618), (2, 103), (2, 104), (2, 105), (2, 106), (2, 107), (2, 108), (2, 109), (0, f82_620), (0, f82_622), (2, 110), (2, 111), (2, 112), (2, 113)]) (hb640.get (by decide) h82_624) rfl rfl rfl (fun w641 hk642 hb643 => ?_)
          have hF644 : xFr [82, 85] w574 w641 := ((xFr.of (S := [82, 85]) hb640 (by decide)).tr (xFr.of (S := [82, 85]) hb643 (by decide)))
          have hA645 := FA_fr hF644 (by decide)
          have hf646 : fld w641 82 4 = f82_598 := fld_of hk642
          have hf647 : fld w641 82 5 = f82_600 := fld_of hk642
          have hf648 : fld w641 82 7 = f82_604 := fld_of hk642
          have hf649 : fld w641 82 10 = f82_610 := fld_of hk642
          have hf650 : fld w641 82 14 = f82_612 + 1 := fld_of hk642
          have hu651 : mu w641 = 2 * (fld w641 82 4 - fld w641 82 5) + min 1 (fld w641 82 7) := rfl
          have pq652 := pk586
          unfold PK PS at pq652
          have hM653 : ∀ s, s < 7 → s ≠ 1 → rwv w641 85 s = rwv w 85 s := fun s hs hn => (rwv_of (hr639.but hb643 (by decide)) hs).trans ((if_neg hn).trans (rwv_of h85_37 hs).symm)
          have hM654 : rwv w641 85 1 = u45 + 1 := (rwv_of (hr639.but hb643 (by decide)) (by decide)).trans ((if_pos rfl).trans (by omega))
          have hM655 : ∀ s, s < 7 → rwv w641 85 s ≤ rwv w 85 s + 1 := fun s hs => by
            by_cases z : s = 1
            · subst z; omega
            · rw [hM653 s hs z]; omega
          have hO656 : ∀ j, (j < 50 + 2 * u45 ∨ 52 + 2 * u45 ≤ j) → j < 140 → rwv w641 86 j = rwv w 86 j := fun j hj hl => (rwv_fr hF644 (by decide)).trans (os587 j hj hl)
          have hl658 : FA w574 ≠ 0 ∨ 0 = 1 := rg591
          have hl659 : u45 < 4 → rwv w641 86 (50 + (2 * u45)) = n103 := fun h => (rwv_fr hF644 (by decide)).trans (ix588 h)
          have hl660 : u45 < 4 → rwv w641 86 ((50 + (2 * u45)) + 1) = n515 := fun h => (rwv_fr hF644 (by decide)).trans (ix589 h)
          have hl661 : FA w574 ≠ 0 ∨ (0 ≤ n103 ∧ n103 ≤ 99) := rg590
          have hl662 : FA w574 ≠ 0 ∨ (1 ≤ n515 ∧ n515 ≤ 999) := rg592
          have hN657 : FA w641 ≠ 0 ∨ 4 ≤ u45 ∨ (1 ≤ rwv w641 86 (50 + 2 * u45 + 1) ∧ rwv w641 86 (50 + 2 * u45 + 1) ≤ 999) := by omega
          have hX663 : FA w641 ≠ 0 ∨ u45 < 4 := by omega
          have hD664 : FA w641 ≠ 0 ∨ (DATA w → DATA w641) := by
            by_cases z : FA w641 ≠ 0
            · exact Or.inl z
            · exact Or.inr (fun hd => hd.s1 hM653 hK48 hM654 (hX663.resolve_left z) hO656 ((hN657.resolve_left z).resolve_left (by have := hX663.resolve_left z; omega)))
          exact xg_e ⟨w641, ⟨rfl, rfl⟩, xMnv.up (S := [85, 82]) hI576 ((xFr.of (S := [85, 82]) hb640 (by decide)).tr (xFr.of (S := [85, 82]) hb643 (by decide))) (List.forall_mem_cons.mpr ⟨(show cpI 7 52 4294967295 (wget w641 85) from ⟨_, (hr639.but hb643 (by decide)), xrb (by omega) (hb38)⟩), List.forall_mem_cons.mpr ⟨(show cp82 (wget w641 82) from ⟨f82_594, f82_596, f82_598, f82_600, f82_602, f82_604, f82_606, f82_608, f82_610, f82_612 + 1, f82_614, f82_615, f82_616, f82_618, f82_620, f82_622, hk642, hb595, hb597, hb599, hb601, hb603, hb605, hb607, hb609, hb611, by omega, hb617, hb619, hb621, hb623, by omega⟩), fun _ h => absurd h List.not_mem_nil⟩⟩), (((((((((hF55.up (by decide)).tr (hF102.up (by decide))).tr (hF146.up (by decide))).tr (hF492.up (by decide))).tr (hF502.up (by decide))).tr (hF514.up (by decide))).tr (hF561.up (by decide))).tr (hF577.up (by decide))).tr ((xFr.of (S := [82, 83, 85, 86, 87]) hb640 (by decide)).tr (xFr.of (S := [82, 83, 85, 86, 87]) hb643 (by decide)))), ⟨fun h => by have := pq652.1 h; omega, (show fld w641 82 10 = 0 ∨ FA w641 ≠ 0 by omega), Or.inr ⟨by have := ms593; omega, by omega, hM655⟩, hD664⟩⟩
        · refine xg_t (xg_icT (u := f82_536) (v := 2) rfl xnm0 xnm0 (xj_neT hc573)) ?_
          refine xg_t (xg_blk (b := [(416, 1, 0, 0, 0, 0), (417, 3, 13, 140, 96, 183)]) rfl) ?_
          refine xg_t (xg_aload (va := (2, 82)) rfl rfl) ?_
          refine xg_cVv mX12_ends (vs := []) (rest := []) (cn1 := 0) (sl1 := 0) rfl (mEnds (hI560) pk565.2.2.2) rfl (hF561.get (by decide) h82_556) rfl rfl rfl rfl rfl rfl (fun w665 hq666 => ?_)
          obtain ⟨hI667, hF668, hx669⟩ := hq666
          clear hb527 hb529 hb531 hb533 hb535 hb537 hb539 hb541 hb543 hb545 hb549 hb551 hb553 hb555
          obtain ⟨hv670, hv671, hv672, hv673⟩ := hx669
          have pk674 : PK w558 w665 := ⟨fun _ => hv670, by omega, by omega, Or.inr hv670⟩
          have pk675 : PK w w665 := PK.tr pk565 pk674
          have os676 : ∀ j, (j < 50 + 2 * u45 ∨ 52 + 2 * u45 ≤ j) → j < 140 → rwv w665 86 j = rwv w 86 j := fun j hj hl => (rwv_fr hF668 (by decide)).trans (os566 j hj hl)
          have ix677 : u45 < 4 → rwv w665 86 (50 + (2 * u45)) = n103 := fun h => (rwv_fr hF668 (by decide)).trans (ix567 h)
          have ix678 : u45 < 4 → rwv w665 86 ((50 + (2 * u45)) + 1) = n515 := fun h => (rwv_fr hF668 (by decide)).trans (hp563 h)
          have rg679 : FA w665 ≠ 0 ∨ (0 ≤ n103 ∧ n103 ≤ 99) := rg568.imp_left pk674.1
          have rg680 : FA w665 ≠ 0 ∨ 0 = 1 := rg569.imp_left pk674.1
          have rg681 : FA w665 ≠ 0 ∨ (1 ≤ n515 ∧ n515 ≤ 999) := rg570.imp_left pk674.1
          have ms682 : mu w665 < mu w := Nat.lt_of_le_of_lt pk674.2.1 ms571
          clear ix567 hp563 rg568 rg569 rg570
          refine xg_t (xg_blk (b := [(420, 1, 0, 0, 0, 0), (421, 3, 1, 12, 11, 17), (424, 1, 2, 1, 0, 0), (425, 1, 39, 0, 0, 0), (426, 1, 10, 0, 0, 0), (427, 1, 3, 1, 0, 0), (428, 1, 11, 0, 0, 0), (429, 1, 17, 0, 0, 0), (430, 1, 0, 0, 0, 0), (431, 1, 19, 0, 0, 0), (432, 3, 1, 12, 14, 212), (435, 1, 3, 1, 0, 0), (436, 1, 11, 0, 0, 0), (437, 3, 14, 12, 14, 212), (440, 1, 12, 0, 0, 0)]) rfl) ?_
          obtain ⟨f82_683, f82_685, f82_687, f82_689, f82_691, f82_693, f82_695, f82_697, f82_699, f82_701, f82_703, f82_704, f82_705, f82_707, f82_709, f82_711, h82_713, hb684, hb686, hb688, hb690, hb692, hb694, hb696, hb698, hb700, hb702, hb706, hb708, hb710, hb712, hb714⟩ := (hI667 82 (by decide) (by decide) : cp82 (wget w665 82))
          have hf715 : fld w665 82 4 = f82_687 := fld_of h82_713
          have hf716 : fld w665 82 5 = f82_689 := fld_of h82_713
          have hf717 : fld w665 82 7 = f82_693 := fld_of h82_713
          have hf718 : fld w665 82 10 = f82_699 := fld_of h82_713
          have hf719 : fld w665 82 14 = f82_701 := fld_of h82_713
          have hu720 : mu w665 = 2 * (fld w665 82 4 - fld w665 82 5) + min 1 (fld w665 82 7) := rfl
          have hf721 := pk675.2.2.1
          have hl722 : f82_701 ≤ 1000 := by omega
          refine xg_t (xg_aload (va := (2, 82)) rfl rfl) ?_
          refine xg_t (xg_getf (va := (2, 85)) h82_713 rfl) ?_
          refine xg_t (xg_iload (va := (0, 1)) rfl rfl) ?_
          refine xg_t (xg_dup2 rfl) ?_
          refine xg_ialdB (n := 1) (B := 4294967295) ((((((((h85_37.fr hF55 (by decide)).fr hF102 (by decide)).fr hF146 (by decide)).fr hF492 (by decide)).fr hF502 (by decide)).fr hF514 (by decide)).fr hF561 (by decide)).fr hF668 (by decide)) (hb38) xnm0 (by omega) (fun u723 hu724 he725 => ?_)
          have hl726 : u723 = u45 := by omega
          refine xg_t (xg_const) ?_
          refine xg_t (xg_iadd (u := u723) (v := 1) (z := u723 + 1) xnm0 xnm0 (by omega)) ?_
          refine xg_iastK (n := 1) (u := u723 + 1) ((((((((h85_37.fr hF55 (by decide)).fr hF102 (by decide)).fr hF146 (by decide)).fr hF492 (by decide)).fr hF502 (by decide)).fr hF514 (by decide)).fr hF561 (by decide)).fr hF668 (by decide)) xnm0 xnm0 rfl (by omega) (fun w727 hr728 hb729 => ?_)
          refine xg_t (xg_aload (va := (2, 82)) rfl rfl) ?_
          refine xg_t (xg_dup rfl) ?_
          refine xg_t (xg_getf (va := (0, f82_701)) (hb729.get (by decide) h82_713) rfl) ?_
          refine xg_t (xg_const) ?_
          refine xg_t (xg_iadd (u := f82_701) (v := 1) (z := f82_701 + 1) xnm0 xnm0 (by omega)) ?_
          refine xg_putI (fl1 := [(2, 83), (2, 84), (0, f82_683), (0, f82_685), (0, f82_687), (0, f82_689), (0, f82_691), (0, f82_693), (0, f82_695), (0, f82_697), (0, f82_699), (2, 85), (2, 86), (2, 87), (0, f82_701 + 1), (2, 88), (2, 89), (2, 90), (2, 91), (2, 92), (2, 93), (2, 94), (4, f82_703), (4, f82_704), (0, f82_705), (2, 95), (2, 96), (2, 97), (2, 98), (2, 99), (2, 100), (2, 101), (2, 102), (0, f82_707), (2, 103), (2, 104), (2, 105), (2, 106), (2, 107), (2, 108), (2, 109), (0, f82_709), (0, f82_711), (2, 110), (2, 111), (2, 112), (2, 113)]) (hb729.get (by decide) h82_713) rfl rfl rfl (fun w730 hk731 hb732 => ?_)
          have hF733 : xFr [82, 85] w665 w730 := ((xFr.of (S := [82, 85]) hb729 (by decide)).tr (xFr.of (S := [82, 85]) hb732 (by decide)))
          have hA734 := FA_fr hF733 (by decide)
          have hf735 : fld w730 82 4 = f82_687 := fld_of hk731
          have hf736 : fld w730 82 5 = f82_689 := fld_of hk731
          have hf737 : fld w730 82 7 = f82_693 := fld_of hk731
          have hf738 : fld w730 82 10 = f82_699 := fld_of hk731
          have hf739 : fld w730 82 14 = f82_701 + 1 := fld_of hk731
          have hu740 : mu w730 = 2 * (fld w730 82 4 - fld w730 82 5) + min 1 (fld w730 82 7) := rfl
          have pq741 := pk675
          unfold PK PS at pq741
          have hM742 : ∀ s, s < 7 → s ≠ 1 → rwv w730 85 s = rwv w 85 s := fun s hs hn => (rwv_of (hr728.but hb732 (by decide)) hs).trans ((if_neg hn).trans (rwv_of h85_37 hs).symm)
          have hM743 : rwv w730 85 1 = u45 + 1 := (rwv_of (hr728.but hb732 (by decide)) (by decide)).trans ((if_pos rfl).trans (by omega))
          have hM744 : ∀ s, s < 7 → rwv w730 85 s ≤ rwv w 85 s + 1 := fun s hs => by
            by_cases z : s = 1
            · subst z; omega
            · rw [hM742 s hs z]; omega
          have hO745 : ∀ j, (j < 50 + 2 * u45 ∨ 52 + 2 * u45 ≤ j) → j < 140 → rwv w730 86 j = rwv w 86 j := fun j hj hl => (rwv_fr hF733 (by decide)).trans (os676 j hj hl)
          have hl747 : FA w665 ≠ 0 ∨ 0 = 1 := rg680
          have hl748 : u45 < 4 → rwv w730 86 (50 + (2 * u45)) = n103 := fun h => (rwv_fr hF733 (by decide)).trans (ix677 h)
          have hl749 : u45 < 4 → rwv w730 86 ((50 + (2 * u45)) + 1) = n515 := fun h => (rwv_fr hF733 (by decide)).trans (ix678 h)
          have hl750 : FA w665 ≠ 0 ∨ (0 ≤ n103 ∧ n103 ≤ 99) := rg679
          have hl751 : FA w665 ≠ 0 ∨ (1 ≤ n515 ∧ n515 ≤ 999) := rg681
          have hN746 : FA w730 ≠ 0 ∨ 4 ≤ u45 ∨ (1 ≤ rwv w730 86 (50 + 2 * u45 + 1) ∧ rwv w730 86 (50 + 2 * u45 + 1) ≤ 999) := by omega
          have hX752 : FA w730 ≠ 0 ∨ u45 < 4 := by omega
          have hD753 : FA w730 ≠ 0 ∨ (DATA w → DATA w730) := by
            by_cases z : FA w730 ≠ 0
            · exact Or.inl z
            · exact Or.inr (fun hd => hd.s1 hM742 hK48 hM743 (hX752.resolve_left z) hO745 ((hN746.resolve_left z).resolve_left (by have := hX752.resolve_left z; omega)))
          exact xg_e ⟨w730, ⟨rfl, rfl⟩, xMnv.up (S := [85, 82]) hI667 ((xFr.of (S := [85, 82]) hb729 (by decide)).tr (xFr.of (S := [85, 82]) hb732 (by decide))) (List.forall_mem_cons.mpr ⟨(show cpI 7 52 4294967295 (wget w730 85) from ⟨_, (hr728.but hb732 (by decide)), xrb (by omega) (hb38)⟩), List.forall_mem_cons.mpr ⟨(show cp82 (wget w730 82) from ⟨f82_683, f82_685, f82_687, f82_689, f82_691, f82_693, f82_695, f82_697, f82_699, f82_701 + 1, f82_703, f82_704, f82_705, f82_707, f82_709, f82_711, hk731, hb684, hb686, hb688, hb690, hb692, hb694, hb696, hb698, hb700, by omega, hb706, hb708, hb710, hb712, by omega⟩), fun _ h => absurd h List.not_mem_nil⟩⟩), (((((((((hF55.up (by decide)).tr (hF102.up (by decide))).tr (hF146.up (by decide))).tr (hF492.up (by decide))).tr (hF502.up (by decide))).tr (hF514.up (by decide))).tr (hF561.up (by decide))).tr (hF668.up (by decide))).tr ((xFr.of (S := [82, 83, 85, 86, 87]) hb729 (by decide)).tr (xFr.of (S := [82, 83, 85, 86, 87]) hb732 (by decide)))), ⟨fun h => by have := pq741.1 h; omega, (show fld w730 82 10 = 0 ∨ FA w730 ≠ 0 by omega), Or.inr ⟨by have := ms682; omega, by omega, hM744⟩, hD753⟩⟩
      · refine xg_t (xg_ifT (u := f82_542) rfl xnm0 (xj_neT hc572)) ?_
        refine xg_t (xg_blk (b := [(416, 1, 0, 0, 0, 0), (417, 3, 13, 140, 96, 183)]) rfl) ?_
        refine xg_t (xg_aload (va := (2, 82)) rfl rfl) ?_
        refine xg_cVv mX12_ends (vs := []) (rest := []) (cn1 := 0) (sl1 := 0) rfl (mEnds (hI560) pk565.2.2.2) rfl (hF561.get (by decide) h82_556) rfl rfl rfl rfl rfl rfl (fun w754 hq755 => ?_)
        obtain ⟨hI756, hF757, hx758⟩ := hq755
        clear hb527 hb529 hb531 hb533 hb535 hb537 hb539 hb541 hb543 hb545 hb549 hb551 hb553 hb555
        obtain ⟨hv759, hv760, hv761, hv762⟩ := hx758
        have pk763 : PK w558 w754 := ⟨fun _ => hv759, by omega, by omega, Or.inr hv759⟩
        have pk764 : PK w w754 := PK.tr pk565 pk763
        have os765 : ∀ j, (j < 50 + 2 * u45 ∨ 52 + 2 * u45 ≤ j) → j < 140 → rwv w754 86 j = rwv w 86 j := fun j hj hl => (rwv_fr hF757 (by decide)).trans (os566 j hj hl)
        have ix766 : u45 < 4 → rwv w754 86 (50 + (2 * u45)) = n103 := fun h => (rwv_fr hF757 (by decide)).trans (ix567 h)
        have ix767 : u45 < 4 → rwv w754 86 ((50 + (2 * u45)) + 1) = n515 := fun h => (rwv_fr hF757 (by decide)).trans (hp563 h)
        have rg768 : FA w754 ≠ 0 ∨ (0 ≤ n103 ∧ n103 ≤ 99) := rg568.imp_left pk763.1
        have rg769 : FA w754 ≠ 0 ∨ 0 = 1 := rg569.imp_left pk763.1
        have rg770 : FA w754 ≠ 0 ∨ (1 ≤ n515 ∧ n515 ≤ 999) := rg570.imp_left pk763.1
        have ms771 : mu w754 < mu w := Nat.lt_of_le_of_lt pk763.2.1 ms571
        clear ix567 hp563 rg568 rg569 rg570
        refine xg_t (xg_blk (b := [(420, 1, 0, 0, 0, 0), (421, 3, 1, 12, 11, 17), (424, 1, 2, 1, 0, 0), (425, 1, 39, 0, 0, 0), (426, 1, 10, 0, 0, 0), (427, 1, 3, 1, 0, 0), (428, 1, 11, 0, 0, 0), (429, 1, 17, 0, 0, 0), (430, 1, 0, 0, 0, 0), (431, 1, 19, 0, 0, 0), (432, 3, 1, 12, 14, 212), (435, 1, 3, 1, 0, 0), (436, 1, 11, 0, 0, 0), (437, 3, 14, 12, 14, 212), (440, 1, 12, 0, 0, 0)]) rfl) ?_
        obtain ⟨f82_772, f82_774, f82_776, f82_778, f82_780, f82_782, f82_784, f82_786, f82_788, f82_790, f82_792, f82_793, f82_794, f82_796, f82_798, f82_800, h82_802, hb773, hb775, hb777, hb779, hb781, hb783, hb785, hb787, hb789, hb791, hb795, hb797, hb799, hb801, hb803⟩ := (hI756 82 (by decide) (by decide) : cp82 (wget w754 82))
        have hf804 : fld w754 82 4 = f82_776 := fld_of h82_802
        have hf805 : fld w754 82 5 = f82_778 := fld_of h82_802
        have hf806 : fld w754 82 7 = f82_782 := fld_of h82_802
        have hf807 : fld w754 82 10 = f82_788 := fld_of h82_802
        have hf808 : fld w754 82 14 = f82_790 := fld_of h82_802
        have hu809 : mu w754 = 2 * (fld w754 82 4 - fld w754 82 5) + min 1 (fld w754 82 7) := rfl
        have hf810 := pk764.2.2.1
        have hl811 : f82_790 ≤ 1000 := by omega
        refine xg_t (xg_aload (va := (2, 82)) rfl rfl) ?_
        refine xg_t (xg_getf (va := (2, 85)) h82_802 rfl) ?_
        refine xg_t (xg_iload (va := (0, 1)) rfl rfl) ?_
        refine xg_t (xg_dup2 rfl) ?_
        refine xg_ialdB (n := 1) (B := 4294967295) ((((((((h85_37.fr hF55 (by decide)).fr hF102 (by decide)).fr hF146 (by decide)).fr hF492 (by decide)).fr hF502 (by decide)).fr hF514 (by decide)).fr hF561 (by decide)).fr hF757 (by decide)) (hb38) xnm0 (by omega) (fun u812 hu813 he814 => ?_)
        have hl815 : u812 = u45 := by omega
        refine xg_t (xg_const) ?_
        refine xg_t (xg_iadd (u := u812) (v := 1) (z := u812 + 1) xnm0 xnm0 (by omega)) ?_
        refine xg_iastK (n := 1) (u := u812 + 1) ((((((((h85_37.fr hF55 (by decide)).fr hF102 (by decide)).fr hF146 (by decide)).fr hF492 (by decide)).fr hF502 (by decide)).fr hF514 (by decide)).fr hF561 (by decide)).fr hF757 (by decide)) xnm0 xnm0 rfl (by omega) (fun w816 hr817 hb818 => ?_)
        refine xg_t (xg_aload (va := (2, 82)) rfl rfl) ?_
        refine xg_t (xg_dup rfl) ?_
        refine xg_t (xg_getf (va := (0, f82_790)) (hb818.get (by decide) h82_802) rfl) ?_
        refine xg_t (xg_const) ?_
        refine xg_t (xg_iadd (u := f82_790) (v := 1) (z := f82_790 + 1) xnm0 xnm0 (by omega)) ?_
        refine xg_putI (fl1 := [(2, 83), (2, 84), (0, f82_772), (0, f82_774), (0, f82_776), (0, f82_778), (0, f82_780), (0, f82_782), (0, f82_784), (0, f82_786), (0, f82_788), (2, 85), (2, 86), (2, 87), (0, f82_790 + 1), (2, 88), (2, 89), (2, 90), (2, 91), (2, 92), (2, 93), (2, 94), (4, f82_792), (4, f82_793), (0, f82_794), (2, 95), (2, 96), (2, 97), (2, 98), (2, 99), (2, 100), (2, 101), (2, 102), (0, f82_796), (2, 103), (2, 104), (2, 105), (2, 106), (2, 107), (2, 108), (2, 109), (0, f82_798), (0, f82_800), (2, 110), (2, 111), (2, 112), (2, 113)]) (hb818.get (by decide) h82_802) rfl rfl rfl (fun w819 hk820 hb821 => ?_)
        have hF822 : xFr [82, 85] w754 w819 := ((xFr.of (S := [82, 85]) hb818 (by decide)).tr (xFr.of (S := [82, 85]) hb821 (by decide)))
        have hA823 := FA_fr hF822 (by decide)
        have hf824 : fld w819 82 4 = f82_776 := fld_of hk820
        have hf825 : fld w819 82 5 = f82_778 := fld_of hk820
        have hf826 : fld w819 82 7 = f82_782 := fld_of hk820
        have hf827 : fld w819 82 10 = f82_788 := fld_of hk820
        have hf828 : fld w819 82 14 = f82_790 + 1 := fld_of hk820
        have hu829 : mu w819 = 2 * (fld w819 82 4 - fld w819 82 5) + min 1 (fld w819 82 7) := rfl
        have pq830 := pk764
        unfold PK PS at pq830
        have hM831 : ∀ s, s < 7 → s ≠ 1 → rwv w819 85 s = rwv w 85 s := fun s hs hn => (rwv_of (hr817.but hb821 (by decide)) hs).trans ((if_neg hn).trans (rwv_of h85_37 hs).symm)
        have hM832 : rwv w819 85 1 = u45 + 1 := (rwv_of (hr817.but hb821 (by decide)) (by decide)).trans ((if_pos rfl).trans (by omega))
        have hM833 : ∀ s, s < 7 → rwv w819 85 s ≤ rwv w 85 s + 1 := fun s hs => by
          by_cases z : s = 1
          · subst z; omega
          · rw [hM831 s hs z]; omega
        have hO834 : ∀ j, (j < 50 + 2 * u45 ∨ 52 + 2 * u45 ≤ j) → j < 140 → rwv w819 86 j = rwv w 86 j := fun j hj hl => (rwv_fr hF822 (by decide)).trans (os765 j hj hl)
        have hl836 : FA w754 ≠ 0 ∨ 0 = 1 := rg769
        have hl837 : u45 < 4 → rwv w819 86 (50 + (2 * u45)) = n103 := fun h => (rwv_fr hF822 (by decide)).trans (ix766 h)
        have hl838 : u45 < 4 → rwv w819 86 ((50 + (2 * u45)) + 1) = n515 := fun h => (rwv_fr hF822 (by decide)).trans (ix767 h)
        have hl839 : FA w754 ≠ 0 ∨ (0 ≤ n103 ∧ n103 ≤ 99) := rg768
        have hl840 : FA w754 ≠ 0 ∨ (1 ≤ n515 ∧ n515 ≤ 999) := rg770
        have hN835 : FA w819 ≠ 0 ∨ 4 ≤ u45 ∨ (1 ≤ rwv w819 86 (50 + 2 * u45 + 1) ∧ rwv w819 86 (50 + 2 * u45 + 1) ≤ 999) := by omega
        have hX841 : FA w819 ≠ 0 ∨ u45 < 4 := by omega
        have hD842 : FA w819 ≠ 0 ∨ (DATA w → DATA w819) := by
          by_cases z : FA w819 ≠ 0
          · exact Or.inl z
          · exact Or.inr (fun hd => hd.s1 hM831 hK48 hM832 (hX841.resolve_left z) hO834 ((hN835.resolve_left z).resolve_left (by have := hX841.resolve_left z; omega)))
        exact xg_e ⟨w819, ⟨rfl, rfl⟩, xMnv.up (S := [85, 82]) hI756 ((xFr.of (S := [85, 82]) hb818 (by decide)).tr (xFr.of (S := [85, 82]) hb821 (by decide))) (List.forall_mem_cons.mpr ⟨(show cpI 7 52 4294967295 (wget w819 85) from ⟨_, (hr817.but hb821 (by decide)), xrb (by omega) (hb38)⟩), List.forall_mem_cons.mpr ⟨(show cp82 (wget w819 82) from ⟨f82_772, f82_774, f82_776, f82_778, f82_780, f82_782, f82_784, f82_786, f82_788, f82_790 + 1, f82_792, f82_793, f82_794, f82_796, f82_798, f82_800, hk820, hb773, hb775, hb777, hb779, hb781, hb783, hb785, hb787, hb789, by omega, hb795, hb797, hb799, hb801, by omega⟩), fun _ h => absurd h List.not_mem_nil⟩⟩), (((((((((hF55.up (by decide)).tr (hF102.up (by decide))).tr (hF146.up (by decide))).tr (hF492.up (by decide))).tr (hF502.up (by decide))).tr (hF514.up (by decide))).tr (hF561.up (by decide))).tr (hF757.up (by decide))).tr ((xFr.of (S := [82, 83, 85, 86, 87]) hb818 (by decide)).tr (xFr.of (S := [82, 83, 85, 86, 87]) hb821 (by decide)))), ⟨fun h => by have := pq830.1 h; omega, (show fld w819 82 10 = 0 ∨ FA w819 ≠ 0 by omega), Or.inr ⟨by have := ms771; omega, by omega, hM833⟩, hD842⟩⟩
  · refine xg_t (xg_icF (u := u45) (v := 4) rfl xnm0 xnm0 (xj_ltF (by omega) (by omega))) ?_
    refine xg_t (xg_aload (va := (2, 82)) rfl rfl) ?_
    refine xg_t (xg_const) ?_
    refine xg_t (xg_iload (va := (0, at_)) rfl rfl) ?_
    refine xg_cVv mX12_also (vs := [(0, 3), (0, at_)]) (rest := []) (cn1 := 0) (sl1 := 0) rfl (mAlso (hI) (by omega) (by omega) (by omega) (PK.rf hps).2.2.2) rfl h82_31 rfl rfl rfl rfl rfl rfl (fun w843 hq844 => ?_)
    obtain ⟨hI845, hF846, hx847⟩ := hq844
    have pk848 : PK w w843 := ⟨fun _ => hx847, Nat.le_of_eq (mu_fr hF846 (by decide)), fld_fr hF846 (by decide), Or.inr hx847⟩
    have pk849 : PK w w843 := PK.tr (PK.rf hps) pk848
    have os850 : ∀ j, (j < 50 + 2 * u45 ∨ 52 + 2 * u45 ≤ j) → j < 140 → rwv w843 86 j = rwv w 86 j := fun j hj hl => (rwv_fr hF846 (by decide)).trans ((fun j _ _ => rfl) j hj hl)
    have hf851 := fld_fr (c := 82) (j := 7) hF846 (by decide)
    refine xg_t (xg_blk (b := [(64, 1, 0, 0, 0, 0), (65, 3, 13, 110, 96, 190), (68, 1, 2, 1, 0, 0), (69, 39, 33, 362, 0, 9)]) rfl) ?_
    refine xg_t (xg_aload (va := (2, 82)) rfl rfl) ?_
    refine xg_cVv mX12_advance (vs := []) (rest := []) (cn1 := 0) (sl1 := 0) rfl (mAdvance (hI845)) rfl (hF846.get (by decide) h82_31) rfl rfl rfl rfl rfl rfl (fun w852 hq853 => ?_)
    obtain ⟨hI854, hF855, hx856⟩ := hq853
    clear hb2 hb4 hb6 hb8 hb10 hb12 hb14 hb16 hb18 hb20 hb24 hb26 hb28 hb30
    obtain ⟨hv857, hv858, hv859, hv860⟩ := hx856
    have hf862 := FA_fr hF855 (by decide)
    have hs863 := pk849.2.2.2
    unfold PS at hs863
    have pk861 : PK w843 w852 := ⟨fun _ => by omega, hv857, hv860, (show fld w852 82 10 = 0 ∨ FA w852 ≠ 0 by omega)⟩
    clear hs863
    have pk864 : PK w w852 := PK.tr pk849 pk861
    have os865 : ∀ j, (j < 50 + 2 * u45 ∨ 52 + 2 * u45 ≤ j) → j < 140 → rwv w852 86 j = rwv w 86 j := fun j hj hl => (rwv_fr hF855 (by decide)).trans (os850 j hj hl)
    have rg866 : FA w852 ≠ 0 ∨ 0 = 1 := (Or.inl hx847 : FA w843 ≠ 0 ∨ 0 = 1).imp_left pk861.1
    have ms867 : mu w852 < mu w := Nat.lt_of_lt_of_le (hv858 (by omega)) pk849.2.1
    clear hv858
    refine xg_t (xg_iload (va := (0, 1)) rfl rfl) ?_
    refine xg_t (xg_swt (ks := [(0, 108), (1, 116), (2, 180), (3, 221), (4, 273), (5, 326)]) (u := 1) (z := 116) rfl rfl rfl xnm0 (xsw_n (by omega) (xsw_y rfl))) ?_
    refine xg_t (xg_blk (b := [(116, 1, 0, 0, 0, 0), (117, 1, 3, 0, 0, 0), (118, 2, 4, 99, 0, 0), (120, 3, 13, 199, 96, 196), (123, 2, 15, 4, 0, 0), (125, 1, 0, 0, 0, 0), (126, 2, 2, 4, 0, 0), (128, 1, 2, 3, 0, 0), (129, 3, 13, 167, 96, 208), (132, 3, 7, 141, 0, 0), (135, 1, 0, 0, 0, 0), (136, 1, 3, 3, 0, 0), (137, 1, 2, 2, 0, 0), (138, 3, 13, 115, 96, 186)]) rfl) ?_
    refine xg_t (xg_aload (va := (2, 82)) rfl rfl) ?_
    refine xg_t (xg_const) ?_
    refine xg_t (xg_bip) ?_
    obtain ⟨f82_868, f82_870, f82_872, f82_874, f82_876, f82_878, f82_880, f82_882, f82_884, f82_886, f82_888, f82_889, f82_890, f82_892, f82_894, f82_896, h82_898, hb869, hb871, hb873, hb875, hb877, hb879, hb881, hb883, hb885, hb887, hb891, hb893, hb895, hb897, hb899⟩ := (hI854 82 (by decide) (by decide) : cp82 (wget w852 82))
    refine xg_cVi mX12_numbered (vs := [(0, 0), (0, 99)]) (rest := []) (cn1 := 0) (sl1 := 0) rfl (mNumbered (hI854) (by omega) (by omega) pk864.2.2.2) rfl h82_898 rfl rfl rfl rfl rfl rfl (fun n904 w900 hq901 => ?_)
    obtain ⟨hn905, hI902, hF903⟩ := hq901
    clear hb869 hb871 hb873 hb875 hb877 hb879 hb881 hb883 hb885 hb887 hb891 hb893 hb895 hb897
    obtain ⟨hn906, hn907, hn908⟩ := hn905
    have pk909 : PK w w900 := PK.tr pk864 hn907
    have os910 : ∀ j, (j < 50 + 2 * u45 ∨ 52 + 2 * u45 ≤ j) → j < 140 → rwv w900 86 j = rwv w 86 j := fun j hj hl => (rwv_fr hF903 (by decide)).trans (os865 j hj hl)
    have rg911 : FA w900 ≠ 0 ∨ 0 = 1 := rg866.imp_left hn907.1
    have ms912 : mu w900 < mu w := Nat.lt_of_le_of_lt hn907.2.1 ms867
    clear rg866
    refine xg_t (xg_istore (l1 := [(3, (0, u45)), (2, (0, at_)), (1, (0, 1)), (0, (2, 82))]) rfl rfl rfl) ?_
    refine xg_t (xg_aload (va := (2, 82)) rfl rfl) ?_
    refine xg_t (xg_iload (va := (0, n904)) rfl rfl) ?_
    refine xg_t (xg_iload (va := (0, u45)) rfl rfl) ?_
    obtain ⟨f82_913, f82_915, f82_917, f82_919, f82_921, f82_923, f82_925, f82_927, f82_929, f82_931, f82_933, f82_934, f82_935, f82_937, f82_939, f82_941, h82_943, hb914, hb916, hb918, hb920, hb922, hb924, hb926, hb928, hb930, hb932, hb936, hb938, hb940, hb942, hb944⟩ := (hI902 82 (by decide) (by decide) : cp82 (wget w900 82))
    refine xg_cVi mX12_isLifeTold (vs := [(0, n904), (0, u45)]) (rest := []) (cn1 := 0) (sl1 := 0) rfl (mLifeTold (hI902) (by omega) (by omega)) rfl h82_943 rfl rfl rfl rfl rfl rfl (fun n949 w945 hq946 => ?_)
    obtain ⟨hn950, hI947, hF948⟩ := hq946
    have pk951 : PK w w945 := PK.tr pk909 (PK.fr hF948 (by decide) (by decide) pk909.2.2.2)
    have os952 : ∀ j, (j < 50 + 2 * u45 ∨ 52 + 2 * u45 ≤ j) → j < 140 → rwv w945 86 j = rwv w 86 j := fun j hj hl => (rwv_fr hF948 (by decide)).trans (os910 j hj hl)
    have rg953 : FA w945 ≠ 0 ∨ 0 = 1 := rg911.imp_left (PK.fr hF948 (by decide) (by decide) pk909.2.2.2).1
    have rg954 : FA w945 ≠ 0 ∨ (0 ≤ n904 ∧ n904 ≤ 99) := hn908.imp_left (PK.fr hF948 (by decide) (by decide) pk909.2.2.2).1
    have ms955 : mu w945 < mu w := Nat.lt_of_le_of_lt (PK.fr hF948 (by decide) (by decide) pk909.2.2.2).2.1 ms912
    clear rg911 hn908
    by_cases hc956 : n949 = 0
    · refine xg_t (xg_ifT (u := n949) rfl xnm0 (xj_eqT hc956)) ?_
      refine xg_t (xg_blk (b := [(141, 1, 0, 0, 0, 0), (142, 1, 2, 1, 0, 0), (143, 1, 2, 3, 0, 0), (144, 2, 4, 50, 0, 0), (146, 1, 3, 2, 0, 0), (147, 1, 2, 3, 0, 0), (148, 1, 16, 0, 0, 0), (149, 1, 11, 0, 0, 0), (150, 2, 2, 4, 0, 0), (152, 3, 13, 211, 96, 200), (155, 1, 0, 0, 0, 0), (156, 1, 2, 1, 0, 0), (157, 1, 2, 3, 0, 0), (158, 2, 4, 50, 0, 0), (160, 1, 3, 2, 0, 0), (161, 1, 2, 3, 0, 0), (162, 1, 16, 0, 0, 0), (163, 1, 11, 0, 0, 0), (164, 1, 3, 1, 0, 0), (165, 1, 11, 0, 0, 0), (166, 1, 0, 0, 0, 0), (167, 1, 3, 1, 0, 0), (168, 3, 5, 999, 0, 0), (171, 3, 13, 199, 96, 196), (174, 3, 13, 211, 96, 200), (177, 3, 8, 394, 0, 0)]) rfl) ?_
      refine xg_t (xg_aload (va := (2, 82)) rfl rfl) ?_
      refine xg_t (xg_iload (va := (0, 1)) rfl rfl) ?_
      refine xg_t (xg_iload (va := (0, u45)) rfl rfl) ?_
      refine xg_t (xg_bip) ?_
      refine xg_t (xg_const) ?_
      refine xg_t (xg_iload (va := (0, u45)) rfl rfl) ?_
      refine xg_t (xg_imul (u := 2) (v := u45) (z := 2 * u45) xnm0 xnm0 (by omega)) ?_
      refine xg_t (xg_iadd (u := 50) (v := 2 * u45) (z := 50 + (2 * u45)) xnm0 xnm0 (by omega)) ?_
      refine xg_t (xg_iload (va := (0, n904)) rfl rfl) ?_
      refine xg_cVv mX12_puts (vs := [(0, 1), (0, u45), (0, 50 + (2 * u45)), (0, n904)]) (rest := []) (cn1 := 0) (sl1 := 0) rfl (mPuts1 (hI947) (by omega) (by omega) (by omega) (fun _ => by omega)) rfl (hF948.get (by decide) h82_943) rfl rfl rfl rfl rfl rfl (fun w957 hq958 => ?_)
      obtain ⟨hI959, hF960, hx961⟩ := hq958
      obtain ⟨hp962, hp963⟩ := hx961
      have pk964 : PK w w957 := PK.tr pk951 (PK.fr hF960 (by decide) (by decide) pk951.2.2.2)
      have os965 : ∀ j, (j < 50 + 2 * u45 ∨ 52 + 2 * u45 ≤ j) → j < 140 → rwv w957 86 j = rwv w 86 j := fun j hj hl => (hp963 j (by omega) hl).trans (os952 j hj hl)
      have rg966 : FA w957 ≠ 0 ∨ 0 = 1 := rg953.imp_left (PK.fr hF960 (by decide) (by decide) pk951.2.2.2).1
      have rg967 : FA w957 ≠ 0 ∨ (0 ≤ n904 ∧ n904 ≤ 99) := rg954.imp_left (PK.fr hF960 (by decide) (by decide) pk951.2.2.2).1
      have ms968 : mu w957 < mu w := Nat.lt_of_le_of_lt (PK.fr hF960 (by decide) (by decide) pk951.2.2.2).2.1 ms955
      clear rg953 rg954
      refine xg_t (xg_aload (va := (2, 82)) rfl rfl) ?_
      refine xg_t (xg_iload (va := (0, 1)) rfl rfl) ?_
      refine xg_t (xg_iload (va := (0, u45)) rfl rfl) ?_
      refine xg_t (xg_bip) ?_
      refine xg_t (xg_const) ?_
      refine xg_t (xg_iload (va := (0, u45)) rfl rfl) ?_
      refine xg_t (xg_imul (u := 2) (v := u45) (z := 2 * u45) xnm0 xnm0 (by omega)) ?_
      refine xg_t (xg_iadd (u := 50) (v := 2 * u45) (z := 50 + (2 * u45)) xnm0 xnm0 (by omega)) ?_
      refine xg_t (xg_const) ?_
      refine xg_t (xg_iadd (u := 50 + (2 * u45)) (v := 1) (z := (50 + (2 * u45)) + 1) xnm0 xnm0 (by omega)) ?_
      refine xg_t (xg_aload (va := (2, 82)) rfl rfl) ?_
      refine xg_t (xg_const) ?_
      refine xg_t (xg_sip) ?_
      refine xg_cVi mX12_numbered (vs := [(0, 1), (0, 999)]) (rest := [(0, (50 + (2 * u45)) + 1), (0, u45), (0, 1), (2, 82)]) (cn1 := 0) (sl1 := 0) rfl (mNumbered (hI959) (by omega) (by omega) pk964.2.2.2) rfl (hF960.get (by decide) (hF948.get (by decide) h82_943)) rfl rfl rfl rfl rfl rfl (fun n973 w969 hq970 => ?_)
      obtain ⟨hn974, hI971, hF972⟩ := hq970
      clear hb914 hb916 hb918 hb920 hb922 hb924 hb926 hb928 hb930 hb932 hb936 hb938 hb940 hb942
      obtain ⟨hn975, hn976, hn977⟩ := hn974
      have pk978 : PK w w969 := PK.tr pk964 hn976
      have os979 : ∀ j, (j < 50 + 2 * u45 ∨ 52 + 2 * u45 ≤ j) → j < 140 → rwv w969 86 j = rwv w 86 j := fun j hj hl => (rwv_fr hF972 (by decide)).trans (os965 j hj hl)
      have ix980 : u45 < 4 → rwv w969 86 (50 + (2 * u45)) = n904 := fun h => (rwv_fr hF972 (by decide)).trans (hp962 h)
      have rg981 : FA w969 ≠ 0 ∨ 0 = 1 := rg966.imp_left hn976.1
      have rg982 : FA w969 ≠ 0 ∨ (0 ≤ n904 ∧ n904 ≤ 99) := rg967.imp_left hn976.1
      have ms983 : mu w969 < mu w := Nat.lt_of_le_of_lt hn976.2.1 ms968
      clear hp962 rg966 rg967
      obtain ⟨f82_984, f82_986, f82_988, f82_990, f82_992, f82_994, f82_996, f82_998, f82_1000, f82_1002, f82_1004, f82_1005, f82_1006, f82_1008, f82_1010, f82_1012, h82_1014, hb985, hb987, hb989, hb991, hb993, hb995, hb997, hb999, hb1001, hb1003, hb1007, hb1009, hb1011, hb1013, hb1015⟩ := (hI971 82 (by decide) (by decide) : cp82 (wget w969 82))
      refine xg_cVv mX12_puts (vs := [(0, 1), (0, u45), (0, (50 + (2 * u45)) + 1), (0, n973)]) (rest := []) (cn1 := 0) (sl1 := 0) rfl (mPuts1 (hI971) (by omega) (by omega) (by omega) (fun _ => by omega)) rfl h82_1014 rfl rfl rfl rfl rfl rfl (fun w1016 hq1017 => ?_)
      obtain ⟨hI1018, hF1019, hx1020⟩ := hq1017
      obtain ⟨hp1021, hp1022⟩ := hx1020
      have pk1023 : PK w w1016 := PK.tr pk978 (PK.fr hF1019 (by decide) (by decide) pk978.2.2.2)
      have os1024 : ∀ j, (j < 50 + 2 * u45 ∨ 52 + 2 * u45 ≤ j) → j < 140 → rwv w1016 86 j = rwv w 86 j := fun j hj hl => (hp1022 j (by omega) hl).trans (os979 j hj hl)
      have ix1025 : u45 < 4 → rwv w1016 86 (50 + (2 * u45)) = n904 := fun h => (hp1022 _ (by omega) (by omega)).trans (ix980 h)
      have rg1026 : FA w1016 ≠ 0 ∨ 0 = 1 := rg981.imp_left (PK.fr hF1019 (by decide) (by decide) pk978.2.2.2).1
      have rg1027 : FA w1016 ≠ 0 ∨ (0 ≤ n904 ∧ n904 ≤ 99) := rg982.imp_left (PK.fr hF1019 (by decide) (by decide) pk978.2.2.2).1
      have rg1028 : FA w1016 ≠ 0 ∨ (1 ≤ n973 ∧ n973 ≤ 999) := hn977.imp_left (PK.fr hF1019 (by decide) (by decide) pk978.2.2.2).1
      have ms1029 : mu w1016 < mu w := Nat.lt_of_le_of_lt (PK.fr hF1019 (by decide) (by decide) pk978.2.2.2).2.1 ms983
      clear ix980 rg981 rg982 hn977
      refine xg_t (xg_goto) ?_
      refine xg_t (xg_blk (b := [(394, 1, 0, 0, 0, 0), (395, 3, 1, 12, 10, 180), (398, 3, 7, 416, 1, 0), (401, 1, 0, 0, 0, 0), (402, 3, 1, 12, 7, 151), (405, 1, 3, 2, 0, 0), (406, 3, 6, 416, 1, 0), (409, 1, 0, 0, 0, 0), (410, 3, 13, 110, 96, 190), (413, 3, 8, 420, 0, 0)]) rfl) ?_
      refine xg_t (xg_aload (va := (2, 82)) rfl rfl) ?_
      refine xg_t (xg_getf (va := (0, f82_1000)) (hF1019.get (by decide) h82_1014) rfl) ?_
      by_cases hc1030 : f82_1000 = 0
      · refine xg_t (xg_ifF (u := f82_1000) rfl xnm0 (xj_neF hc1030)) ?_
        refine xg_t (xg_aload (va := (2, 82)) rfl rfl) ?_
        refine xg_t (xg_getf (va := (0, f82_994)) (hF1019.get (by decide) h82_1014) rfl) ?_
        refine xg_t (xg_const) ?_
        by_cases hc1031 : f82_994 = 2
        · refine xg_t (xg_icF (u := f82_994) (v := 2) rfl xnm0 xnm0 (xj_neF hc1031)) ?_
          refine xg_t (xg_aload (va := (2, 82)) rfl rfl) ?_
          refine xg_cVv mX12_advance (vs := []) (rest := []) (cn1 := 0) (sl1 := 0) rfl (mAdvance (hI1018)) rfl (hF1019.get (by decide) h82_1014) rfl rfl rfl rfl rfl rfl (fun w1032 hq1033 => ?_)
          obtain ⟨hI1034, hF1035, hx1036⟩ := hq1033
          clear hb985 hb987 hb989 hb991 hb993 hb995 hb997 hb999 hb1001 hb1003 hb1007 hb1009 hb1011 hb1013
          obtain ⟨hv1037, hv1038, hv1039, hv1040⟩ := hx1036
          have hf1042 := FA_fr hF1035 (by decide)
          have hs1043 := pk1023.2.2.2
          unfold PS at hs1043
          have pk1041 : PK w1016 w1032 := ⟨fun _ => by omega, hv1037, hv1040, (show fld w1032 82 10 = 0 ∨ FA w1032 ≠ 0 by omega)⟩
          clear hs1043
          clear hv1038
          have pk1044 : PK w w1032 := PK.tr pk1023 pk1041
          have os1045 : ∀ j, (j < 50 + 2 * u45 ∨ 52 + 2 * u45 ≤ j) → j < 140 → rwv w1032 86 j = rwv w 86 j := fun j hj hl => (rwv_fr hF1035 (by decide)).trans (os1024 j hj hl)
          have ix1046 : u45 < 4 → rwv w1032 86 (50 + (2 * u45)) = n904 := fun h => (rwv_fr hF1035 (by decide)).trans (ix1025 h)
          have ix1047 : u45 < 4 → rwv w1032 86 ((50 + (2 * u45)) + 1) = n973 := fun h => (rwv_fr hF1035 (by decide)).trans (hp1021 h)
          have rg1048 : FA w1032 ≠ 0 ∨ 0 = 1 := rg1026.imp_left pk1041.1
          have rg1049 : FA w1032 ≠ 0 ∨ (0 ≤ n904 ∧ n904 ≤ 99) := rg1027.imp_left pk1041.1
          have rg1050 : FA w1032 ≠ 0 ∨ (1 ≤ n973 ∧ n973 ≤ 999) := rg1028.imp_left pk1041.1
          have ms1051 : mu w1032 < mu w := Nat.lt_of_le_of_lt pk1041.2.1 ms1029
          clear ix1025 hp1021 rg1026 rg1027 rg1028
          refine xg_t (xg_goto) ?_
          refine xg_t (xg_blk (b := [(420, 1, 0, 0, 0, 0), (421, 3, 1, 12, 11, 17), (424, 1, 2, 1, 0, 0), (425, 1, 39, 0, 0, 0), (426, 1, 10, 0, 0, 0), (427, 1, 3, 1, 0, 0), (428, 1, 11, 0, 0, 0), (429, 1, 17, 0, 0, 0), (430, 1, 0, 0, 0, 0), (431, 1, 19, 0, 0, 0), (432, 3, 1, 12, 14, 212), (435, 1, 3, 1, 0, 0), (436, 1, 11, 0, 0, 0), (437, 3, 14, 12, 14, 212), (440, 1, 12, 0, 0, 0)]) rfl) ?_
          obtain ⟨f82_1052, f82_1054, f82_1056, f82_1058, f82_1060, f82_1062, f82_1064, f82_1066, f82_1068, f82_1070, f82_1072, f82_1073, f82_1074, f82_1076, f82_1078, f82_1080, h82_1082, hb1053, hb1055, hb1057, hb1059, hb1061, hb1063, hb1065, hb1067, hb1069, hb1071, hb1075, hb1077, hb1079, hb1081, hb1083⟩ := (hI1034 82 (by decide) (by decide) : cp82 (wget w1032 82))
          have hf1084 : fld w1032 82 4 = f82_1056 := fld_of h82_1082
          have hf1085 : fld w1032 82 5 = f82_1058 := fld_of h82_1082
          have hf1086 : fld w1032 82 7 = f82_1062 := fld_of h82_1082
          have hf1087 : fld w1032 82 10 = f82_1068 := fld_of h82_1082
          have hf1088 : fld w1032 82 14 = f82_1070 := fld_of h82_1082
          have hu1089 : mu w1032 = 2 * (fld w1032 82 4 - fld w1032 82 5) + min 1 (fld w1032 82 7) := rfl
          have hf1090 := pk1044.2.2.1
          have hl1091 : f82_1070 ≤ 1000 := by omega
          refine xg_t (xg_aload (va := (2, 82)) rfl rfl) ?_
          refine xg_t (xg_getf (va := (2, 85)) h82_1082 rfl) ?_
          refine xg_t (xg_iload (va := (0, 1)) rfl rfl) ?_
          refine xg_t (xg_dup2 rfl) ?_
          refine xg_ialdB (n := 1) (B := 4294967295) ((((((((h85_37.fr hF846 (by decide)).fr hF855 (by decide)).fr hF903 (by decide)).fr hF948 (by decide)).fr hF960 (by decide)).fr hF972 (by decide)).fr hF1019 (by decide)).fr hF1035 (by decide)) (hb38) xnm0 (by omega) (fun u1092 hu1093 he1094 => ?_)
          have hl1095 : u1092 = u45 := by omega
          refine xg_t (xg_const) ?_
          refine xg_t (xg_iadd (u := u1092) (v := 1) (z := u1092 + 1) xnm0 xnm0 (by omega)) ?_
          refine xg_iastK (n := 1) (u := u1092 + 1) ((((((((h85_37.fr hF846 (by decide)).fr hF855 (by decide)).fr hF903 (by decide)).fr hF948 (by decide)).fr hF960 (by decide)).fr hF972 (by decide)).fr hF1019 (by decide)).fr hF1035 (by decide)) xnm0 xnm0 rfl (by omega) (fun w1096 hr1097 hb1098 => ?_)
          refine xg_t (xg_aload (va := (2, 82)) rfl rfl) ?_
          refine xg_t (xg_dup rfl) ?_
          refine xg_t (xg_getf (va := (0, f82_1070)) (hb1098.get (by decide) h82_1082) rfl) ?_
          refine xg_t (xg_const) ?_
          refine xg_t (xg_iadd (u := f82_1070) (v := 1) (z := f82_1070 + 1) xnm0 xnm0 (by omega)) ?_
          refine xg_putI (fl1 := [(2, 83), (2, 84), (0, f82_1052), (0, f82_1054), (0, f82_1056), (0, f82_1058), (0, f82_1060), (0, f82_1062), (0, f82_1064), (0, f82_1066), (0, f82_1068), (2, 85), (2, 86), (2, 87), (0, f82_1070 + 1), (2, 88), (2, 89), (2, 90), (2, 91), (2, 92), (2, 93), (2, 94), (4, f82_1072), (4, f82_1073), (0, f82_1074), (2, 95), (2, 96), (2, 97), (2, 98), (2, 99), (2, 100), (2, 101), (2, 102), (0, f82_1076), (2, 103), (2, 104), (2, 105), (2, 106), (2, 107), (2, 108), (2, 109), (0, f82_1078), (0, f82_1080), (2, 110), (2, 111), (2, 112), (2, 113)]) (hb1098.get (by decide) h82_1082) rfl rfl rfl (fun w1099 hk1100 hb1101 => ?_)
          have hF1102 : xFr [82, 85] w1032 w1099 := ((xFr.of (S := [82, 85]) hb1098 (by decide)).tr (xFr.of (S := [82, 85]) hb1101 (by decide)))
          have hA1103 := FA_fr hF1102 (by decide)
          have hf1104 : fld w1099 82 4 = f82_1056 := fld_of hk1100
          have hf1105 : fld w1099 82 5 = f82_1058 := fld_of hk1100
          have hf1106 : fld w1099 82 7 = f82_1062 := fld_of hk1100
          have hf1107 : fld w1099 82 10 = f82_1068 := fld_of hk1100
          have hf1108 : fld w1099 82 14 = f82_1070 + 1 := fld_of hk1100
          have hu1109 : mu w1099 = 2 * (fld w1099 82 4 - fld w1099 82 5) + min 1 (fld w1099 82 7) := rfl
          have pq1110 := pk1044
          unfold PK PS at pq1110
          have hM1111 : ∀ s, s < 7 → s ≠ 1 → rwv w1099 85 s = rwv w 85 s := fun s hs hn => (rwv_of (hr1097.but hb1101 (by decide)) hs).trans ((if_neg hn).trans (rwv_of h85_37 hs).symm)
          have hM1112 : rwv w1099 85 1 = u45 + 1 := (rwv_of (hr1097.but hb1101 (by decide)) (by decide)).trans ((if_pos rfl).trans (by omega))
          have hM1113 : ∀ s, s < 7 → rwv w1099 85 s ≤ rwv w 85 s + 1 := fun s hs => by
            by_cases z : s = 1
            · subst z; omega
            · rw [hM1111 s hs z]; omega
          have hO1114 : ∀ j, (j < 50 + 2 * u45 ∨ 52 + 2 * u45 ≤ j) → j < 140 → rwv w1099 86 j = rwv w 86 j := fun j hj hl => (rwv_fr hF1102 (by decide)).trans (os1045 j hj hl)
          have hl1116 : FA w1032 ≠ 0 ∨ 0 = 1 := rg1048
          have hl1117 : u45 < 4 → rwv w1099 86 (50 + (2 * u45)) = n904 := fun h => (rwv_fr hF1102 (by decide)).trans (ix1046 h)
          have hl1118 : u45 < 4 → rwv w1099 86 ((50 + (2 * u45)) + 1) = n973 := fun h => (rwv_fr hF1102 (by decide)).trans (ix1047 h)
          have hl1119 : FA w1032 ≠ 0 ∨ (0 ≤ n904 ∧ n904 ≤ 99) := rg1049
          have hl1120 : FA w1032 ≠ 0 ∨ (1 ≤ n973 ∧ n973 ≤ 999) := rg1050
          have hN1115 : FA w1099 ≠ 0 ∨ 4 ≤ u45 ∨ (1 ≤ rwv w1099 86 (50 + 2 * u45 + 1) ∧ rwv w1099 86 (50 + 2 * u45 + 1) ≤ 999) := by omega
          have hX1121 : FA w1099 ≠ 0 ∨ u45 < 4 := by omega
          have hD1122 : FA w1099 ≠ 0 ∨ (DATA w → DATA w1099) := by
            by_cases z : FA w1099 ≠ 0
            · exact Or.inl z
            · exact Or.inr (fun hd => hd.s1 hM1111 hK48 hM1112 (hX1121.resolve_left z) hO1114 ((hN1115.resolve_left z).resolve_left (by have := hX1121.resolve_left z; omega)))
          exact xg_e ⟨w1099, ⟨rfl, rfl⟩, xMnv.up (S := [85, 82]) hI1034 ((xFr.of (S := [85, 82]) hb1098 (by decide)).tr (xFr.of (S := [85, 82]) hb1101 (by decide))) (List.forall_mem_cons.mpr ⟨(show cpI 7 52 4294967295 (wget w1099 85) from ⟨_, (hr1097.but hb1101 (by decide)), xrb (by omega) (hb38)⟩), List.forall_mem_cons.mpr ⟨(show cp82 (wget w1099 82) from ⟨f82_1052, f82_1054, f82_1056, f82_1058, f82_1060, f82_1062, f82_1064, f82_1066, f82_1068, f82_1070 + 1, f82_1072, f82_1073, f82_1074, f82_1076, f82_1078, f82_1080, hk1100, hb1053, hb1055, hb1057, hb1059, hb1061, hb1063, hb1065, hb1067, hb1069, by omega, hb1075, hb1077, hb1079, hb1081, by omega⟩), fun _ h => absurd h List.not_mem_nil⟩⟩), (((((((((hF846.up (by decide)).tr (hF855.up (by decide))).tr (hF903.up (by decide))).tr (hF948.up (by decide))).tr (hF960.up (by decide))).tr (hF972.up (by decide))).tr (hF1019.up (by decide))).tr (hF1035.up (by decide))).tr ((xFr.of (S := [82, 83, 85, 86, 87]) hb1098 (by decide)).tr (xFr.of (S := [82, 83, 85, 86, 87]) hb1101 (by decide)))), ⟨fun h => by have := pq1110.1 h; omega, (show fld w1099 82 10 = 0 ∨ FA w1099 ≠ 0 by omega), Or.inr ⟨by have := ms1051; omega, by omega, hM1113⟩, hD1122⟩⟩
        · refine xg_t (xg_icT (u := f82_994) (v := 2) rfl xnm0 xnm0 (xj_neT hc1031)) ?_
          refine xg_t (xg_blk (b := [(416, 1, 0, 0, 0, 0), (417, 3, 13, 140, 96, 183)]) rfl) ?_
          refine xg_t (xg_aload (va := (2, 82)) rfl rfl) ?_
          refine xg_cVv mX12_ends (vs := []) (rest := []) (cn1 := 0) (sl1 := 0) rfl (mEnds (hI1018) pk1023.2.2.2) rfl (hF1019.get (by decide) h82_1014) rfl rfl rfl rfl rfl rfl (fun w1123 hq1124 => ?_)
          obtain ⟨hI1125, hF1126, hx1127⟩ := hq1124
          clear hb985 hb987 hb989 hb991 hb993 hb995 hb997 hb999 hb1001 hb1003 hb1007 hb1009 hb1011 hb1013
          obtain ⟨hv1128, hv1129, hv1130, hv1131⟩ := hx1127
          have pk1132 : PK w1016 w1123 := ⟨fun _ => hv1128, by omega, by omega, Or.inr hv1128⟩
          have pk1133 : PK w w1123 := PK.tr pk1023 pk1132
          have os1134 : ∀ j, (j < 50 + 2 * u45 ∨ 52 + 2 * u45 ≤ j) → j < 140 → rwv w1123 86 j = rwv w 86 j := fun j hj hl => (rwv_fr hF1126 (by decide)).trans (os1024 j hj hl)
          have ix1135 : u45 < 4 → rwv w1123 86 (50 + (2 * u45)) = n904 := fun h => (rwv_fr hF1126 (by decide)).trans (ix1025 h)
          have ix1136 : u45 < 4 → rwv w1123 86 ((50 + (2 * u45)) + 1) = n973 := fun h => (rwv_fr hF1126 (by decide)).trans (hp1021 h)
          have rg1137 : FA w1123 ≠ 0 ∨ 0 = 1 := rg1026.imp_left pk1132.1
          have rg1138 : FA w1123 ≠ 0 ∨ (0 ≤ n904 ∧ n904 ≤ 99) := rg1027.imp_left pk1132.1
          have rg1139 : FA w1123 ≠ 0 ∨ (1 ≤ n973 ∧ n973 ≤ 999) := rg1028.imp_left pk1132.1
          have ms1140 : mu w1123 < mu w := Nat.lt_of_le_of_lt pk1132.2.1 ms1029
          clear ix1025 hp1021 rg1026 rg1027 rg1028
          refine xg_t (xg_blk (b := [(420, 1, 0, 0, 0, 0), (421, 3, 1, 12, 11, 17), (424, 1, 2, 1, 0, 0), (425, 1, 39, 0, 0, 0), (426, 1, 10, 0, 0, 0), (427, 1, 3, 1, 0, 0), (428, 1, 11, 0, 0, 0), (429, 1, 17, 0, 0, 0), (430, 1, 0, 0, 0, 0), (431, 1, 19, 0, 0, 0), (432, 3, 1, 12, 14, 212), (435, 1, 3, 1, 0, 0), (436, 1, 11, 0, 0, 0), (437, 3, 14, 12, 14, 212), (440, 1, 12, 0, 0, 0)]) rfl) ?_
          obtain ⟨f82_1141, f82_1143, f82_1145, f82_1147, f82_1149, f82_1151, f82_1153, f82_1155, f82_1157, f82_1159, f82_1161, f82_1162, f82_1163, f82_1165, f82_1167, f82_1169, h82_1171, hb1142, hb1144, hb1146, hb1148, hb1150, hb1152, hb1154, hb1156, hb1158, hb1160, hb1164, hb1166, hb1168, hb1170, hb1172⟩ := (hI1125 82 (by decide) (by decide) : cp82 (wget w1123 82))
          have hf1173 : fld w1123 82 4 = f82_1145 := fld_of h82_1171
          have hf1174 : fld w1123 82 5 = f82_1147 := fld_of h82_1171
          have hf1175 : fld w1123 82 7 = f82_1151 := fld_of h82_1171
          have hf1176 : fld w1123 82 10 = f82_1157 := fld_of h82_1171
          have hf1177 : fld w1123 82 14 = f82_1159 := fld_of h82_1171
          have hu1178 : mu w1123 = 2 * (fld w1123 82 4 - fld w1123 82 5) + min 1 (fld w1123 82 7) := rfl
          have hf1179 := pk1133.2.2.1
          have hl1180 : f82_1159 ≤ 1000 := by omega
          refine xg_t (xg_aload (va := (2, 82)) rfl rfl) ?_
          refine xg_t (xg_getf (va := (2, 85)) h82_1171 rfl) ?_
          refine xg_t (xg_iload (va := (0, 1)) rfl rfl) ?_
          refine xg_t (xg_dup2 rfl) ?_
          refine xg_ialdB (n := 1) (B := 4294967295) ((((((((h85_37.fr hF846 (by decide)).fr hF855 (by decide)).fr hF903 (by decide)).fr hF948 (by decide)).fr hF960 (by decide)).fr hF972 (by decide)).fr hF1019 (by decide)).fr hF1126 (by decide)) (hb38) xnm0 (by omega) (fun u1181 hu1182 he1183 => ?_)
          have hl1184 : u1181 = u45 := by omega
          refine xg_t (xg_const) ?_
          refine xg_t (xg_iadd (u := u1181) (v := 1) (z := u1181 + 1) xnm0 xnm0 (by omega)) ?_
          refine xg_iastK (n := 1) (u := u1181 + 1) ((((((((h85_37.fr hF846 (by decide)).fr hF855 (by decide)).fr hF903 (by decide)).fr hF948 (by decide)).fr hF960 (by decide)).fr hF972 (by decide)).fr hF1019 (by decide)).fr hF1126 (by decide)) xnm0 xnm0 rfl (by omega) (fun w1185 hr1186 hb1187 => ?_)
          refine xg_t (xg_aload (va := (2, 82)) rfl rfl) ?_
          refine xg_t (xg_dup rfl) ?_
          refine xg_t (xg_getf (va := (0, f82_1159)) (hb1187.get (by decide) h82_1171) rfl) ?_
          refine xg_t (xg_const) ?_
          refine xg_t (xg_iadd (u := f82_1159) (v := 1) (z := f82_1159 + 1) xnm0 xnm0 (by omega)) ?_
          refine xg_putI (fl1 := [(2, 83), (2, 84), (0, f82_1141), (0, f82_1143), (0, f82_1145), (0, f82_1147), (0, f82_1149), (0, f82_1151), (0, f82_1153), (0, f82_1155), (0, f82_1157), (2, 85), (2, 86), (2, 87), (0, f82_1159 + 1), (2, 88), (2, 89), (2, 90), (2, 91), (2, 92), (2, 93), (2, 94), (4, f82_1161), (4, f82_1162), (0, f82_1163), (2, 95), (2, 96), (2, 97), (2, 98), (2, 99), (2, 100), (2, 101), (2, 102), (0, f82_1165), (2, 103), (2, 104), (2, 105), (2, 106), (2, 107), (2, 108), (2, 109), (0, f82_1167), (0, f82_1169), (2, 110), (2, 111), (2, 112), (2, 113)]) (hb1187.get (by decide) h82_1171) rfl rfl rfl (fun w1188 hk1189 hb1190 => ?_)
          have hF1191 : xFr [82, 85] w1123 w1188 := ((xFr.of (S := [82, 85]) hb1187 (by decide)).tr (xFr.of (S := [82, 85]) hb1190 (by decide)))
          have hA1192 := FA_fr hF1191 (by decide)
          have hf1193 : fld w1188 82 4 = f82_1145 := fld_of hk1189
          have hf1194 : fld w1188 82 5 = f82_1147 := fld_of hk1189
          have hf1195 : fld w1188 82 7 = f82_1151 := fld_of hk1189
          have hf1196 : fld w1188 82 10 = f82_1157 := fld_of hk1189
          have hf1197 : fld w1188 82 14 = f82_1159 + 1 := fld_of hk1189
          have hu1198 : mu w1188 = 2 * (fld w1188 82 4 - fld w1188 82 5) + min 1 (fld w1188 82 7) := rfl
          have pq1199 := pk1133
          unfold PK PS at pq1199
          have hM1200 : ∀ s, s < 7 → s ≠ 1 → rwv w1188 85 s = rwv w 85 s := fun s hs hn => (rwv_of (hr1186.but hb1190 (by decide)) hs).trans ((if_neg hn).trans (rwv_of h85_37 hs).symm)
          have hM1201 : rwv w1188 85 1 = u45 + 1 := (rwv_of (hr1186.but hb1190 (by decide)) (by decide)).trans ((if_pos rfl).trans (by omega))
          have hM1202 : ∀ s, s < 7 → rwv w1188 85 s ≤ rwv w 85 s + 1 := fun s hs => by
            by_cases z : s = 1
            · subst z; omega
            · rw [hM1200 s hs z]; omega
          have hO1203 : ∀ j, (j < 50 + 2 * u45 ∨ 52 + 2 * u45 ≤ j) → j < 140 → rwv w1188 86 j = rwv w 86 j := fun j hj hl => (rwv_fr hF1191 (by decide)).trans (os1134 j hj hl)
          have hl1205 : FA w1123 ≠ 0 ∨ 0 = 1 := rg1137
          have hl1206 : u45 < 4 → rwv w1188 86 (50 + (2 * u45)) = n904 := fun h => (rwv_fr hF1191 (by decide)).trans (ix1135 h)
          have hl1207 : u45 < 4 → rwv w1188 86 ((50 + (2 * u45)) + 1) = n973 := fun h => (rwv_fr hF1191 (by decide)).trans (ix1136 h)
          have hl1208 : FA w1123 ≠ 0 ∨ (0 ≤ n904 ∧ n904 ≤ 99) := rg1138
          have hl1209 : FA w1123 ≠ 0 ∨ (1 ≤ n973 ∧ n973 ≤ 999) := rg1139
          have hN1204 : FA w1188 ≠ 0 ∨ 4 ≤ u45 ∨ (1 ≤ rwv w1188 86 (50 + 2 * u45 + 1) ∧ rwv w1188 86 (50 + 2 * u45 + 1) ≤ 999) := by omega
          have hX1210 : FA w1188 ≠ 0 ∨ u45 < 4 := by omega
          have hD1211 : FA w1188 ≠ 0 ∨ (DATA w → DATA w1188) := by
            by_cases z : FA w1188 ≠ 0
            · exact Or.inl z
            · exact Or.inr (fun hd => hd.s1 hM1200 hK48 hM1201 (hX1210.resolve_left z) hO1203 ((hN1204.resolve_left z).resolve_left (by have := hX1210.resolve_left z; omega)))
          exact xg_e ⟨w1188, ⟨rfl, rfl⟩, xMnv.up (S := [85, 82]) hI1125 ((xFr.of (S := [85, 82]) hb1187 (by decide)).tr (xFr.of (S := [85, 82]) hb1190 (by decide))) (List.forall_mem_cons.mpr ⟨(show cpI 7 52 4294967295 (wget w1188 85) from ⟨_, (hr1186.but hb1190 (by decide)), xrb (by omega) (hb38)⟩), List.forall_mem_cons.mpr ⟨(show cp82 (wget w1188 82) from ⟨f82_1141, f82_1143, f82_1145, f82_1147, f82_1149, f82_1151, f82_1153, f82_1155, f82_1157, f82_1159 + 1, f82_1161, f82_1162, f82_1163, f82_1165, f82_1167, f82_1169, hk1189, hb1142, hb1144, hb1146, hb1148, hb1150, hb1152, hb1154, hb1156, hb1158, by omega, hb1164, hb1166, hb1168, hb1170, by omega⟩), fun _ h => absurd h List.not_mem_nil⟩⟩), (((((((((hF846.up (by decide)).tr (hF855.up (by decide))).tr (hF903.up (by decide))).tr (hF948.up (by decide))).tr (hF960.up (by decide))).tr (hF972.up (by decide))).tr (hF1019.up (by decide))).tr (hF1126.up (by decide))).tr ((xFr.of (S := [82, 83, 85, 86, 87]) hb1187 (by decide)).tr (xFr.of (S := [82, 83, 85, 86, 87]) hb1190 (by decide)))), ⟨fun h => by have := pq1199.1 h; omega, (show fld w1188 82 10 = 0 ∨ FA w1188 ≠ 0 by omega), Or.inr ⟨by have := ms1140; omega, by omega, hM1202⟩, hD1211⟩⟩
      · refine xg_t (xg_ifT (u := f82_1000) rfl xnm0 (xj_neT hc1030)) ?_
        refine xg_t (xg_blk (b := [(416, 1, 0, 0, 0, 0), (417, 3, 13, 140, 96, 183)]) rfl) ?_
        refine xg_t (xg_aload (va := (2, 82)) rfl rfl) ?_
        refine xg_cVv mX12_ends (vs := []) (rest := []) (cn1 := 0) (sl1 := 0) rfl (mEnds (hI1018) pk1023.2.2.2) rfl (hF1019.get (by decide) h82_1014) rfl rfl rfl rfl rfl rfl (fun w1212 hq1213 => ?_)
        obtain ⟨hI1214, hF1215, hx1216⟩ := hq1213
        clear hb985 hb987 hb989 hb991 hb993 hb995 hb997 hb999 hb1001 hb1003 hb1007 hb1009 hb1011 hb1013
        obtain ⟨hv1217, hv1218, hv1219, hv1220⟩ := hx1216
        have pk1221 : PK w1016 w1212 := ⟨fun _ => hv1217, by omega, by omega, Or.inr hv1217⟩
        have pk1222 : PK w w1212 := PK.tr pk1023 pk1221
        have os1223 : ∀ j, (j < 50 + 2 * u45 ∨ 52 + 2 * u45 ≤ j) → j < 140 → rwv w1212 86 j = rwv w 86 j := fun j hj hl => (rwv_fr hF1215 (by decide)).trans (os1024 j hj hl)
        have ix1224 : u45 < 4 → rwv w1212 86 (50 + (2 * u45)) = n904 := fun h => (rwv_fr hF1215 (by decide)).trans (ix1025 h)
        have ix1225 : u45 < 4 → rwv w1212 86 ((50 + (2 * u45)) + 1) = n973 := fun h => (rwv_fr hF1215 (by decide)).trans (hp1021 h)
        have rg1226 : FA w1212 ≠ 0 ∨ 0 = 1 := rg1026.imp_left pk1221.1
        have rg1227 : FA w1212 ≠ 0 ∨ (0 ≤ n904 ∧ n904 ≤ 99) := rg1027.imp_left pk1221.1
        have rg1228 : FA w1212 ≠ 0 ∨ (1 ≤ n973 ∧ n973 ≤ 999) := rg1028.imp_left pk1221.1
        have ms1229 : mu w1212 < mu w := Nat.lt_of_le_of_lt pk1221.2.1 ms1029
        clear ix1025 hp1021 rg1026 rg1027 rg1028
        refine xg_t (xg_blk (b := [(420, 1, 0, 0, 0, 0), (421, 3, 1, 12, 11, 17), (424, 1, 2, 1, 0, 0), (425, 1, 39, 0, 0, 0), (426, 1, 10, 0, 0, 0), (427, 1, 3, 1, 0, 0), (428, 1, 11, 0, 0, 0), (429, 1, 17, 0, 0, 0), (430, 1, 0, 0, 0, 0), (431, 1, 19, 0, 0, 0), (432, 3, 1, 12, 14, 212), (435, 1, 3, 1, 0, 0), (436, 1, 11, 0, 0, 0), (437, 3, 14, 12, 14, 212), (440, 1, 12, 0, 0, 0)]) rfl) ?_
        obtain ⟨f82_1230, f82_1232, f82_1234, f82_1236, f82_1238, f82_1240, f82_1242, f82_1244, f82_1246, f82_1248, f82_1250, f82_1251, f82_1252, f82_1254, f82_1256, f82_1258, h82_1260, hb1231, hb1233, hb1235, hb1237, hb1239, hb1241, hb1243, hb1245, hb1247, hb1249, hb1253, hb1255, hb1257, hb1259, hb1261⟩ := (hI1214 82 (by decide) (by decide) : cp82 (wget w1212 82))
        have hf1262 : fld w1212 82 4 = f82_1234 := fld_of h82_1260
        have hf1263 : fld w1212 82 5 = f82_1236 := fld_of h82_1260
        have hf1264 : fld w1212 82 7 = f82_1240 := fld_of h82_1260
        have hf1265 : fld w1212 82 10 = f82_1246 := fld_of h82_1260
        have hf1266 : fld w1212 82 14 = f82_1248 := fld_of h82_1260
        have hu1267 : mu w1212 = 2 * (fld w1212 82 4 - fld w1212 82 5) + min 1 (fld w1212 82 7) := rfl
        have hf1268 := pk1222.2.2.1
        have hl1269 : f82_1248 ≤ 1000 := by omega
        refine xg_t (xg_aload (va := (2, 82)) rfl rfl) ?_
        refine xg_t (xg_getf (va := (2, 85)) h82_1260 rfl) ?_
        refine xg_t (xg_iload (va := (0, 1)) rfl rfl) ?_
        refine xg_t (xg_dup2 rfl) ?_
        refine xg_ialdB (n := 1) (B := 4294967295) ((((((((h85_37.fr hF846 (by decide)).fr hF855 (by decide)).fr hF903 (by decide)).fr hF948 (by decide)).fr hF960 (by decide)).fr hF972 (by decide)).fr hF1019 (by decide)).fr hF1215 (by decide)) (hb38) xnm0 (by omega) (fun u1270 hu1271 he1272 => ?_)
        have hl1273 : u1270 = u45 := by omega
        refine xg_t (xg_const) ?_
        refine xg_t (xg_iadd (u := u1270) (v := 1) (z := u1270 + 1) xnm0 xnm0 (by omega)) ?_
        refine xg_iastK (n := 1) (u := u1270 + 1) ((((((((h85_37.fr hF846 (by decide)).fr hF855 (by decide)).fr hF903 (by decide)).fr hF948 (by decide)).fr hF960 (by decide)).fr hF972 (by decide)).fr hF1019 (by decide)).fr hF1215 (by decide)) xnm0 xnm0 rfl (by omega) (fun w1274 hr1275 hb1276 => ?_)
        refine xg_t (xg_aload (va := (2, 82)) rfl rfl) ?_
        refine xg_t (xg_dup rfl) ?_
        refine xg_t (xg_getf (va := (0, f82_1248)) (hb1276.get (by decide) h82_1260) rfl) ?_
        refine xg_t (xg_const) ?_
        refine xg_t (xg_iadd (u := f82_1248) (v := 1) (z := f82_1248 + 1) xnm0 xnm0 (by omega)) ?_
        refine xg_putI (fl1 := [(2, 83), (2, 84), (0, f82_1230), (0, f82_1232), (0, f82_1234), (0, f82_1236), (0, f82_1238), (0, f82_1240), (0, f82_1242), (0, f82_1244), (0, f82_1246), (2, 85), (2, 86), (2, 87), (0, f82_1248 + 1), (2, 88), (2, 89), (2, 90), (2, 91), (2, 92), (2, 93), (2, 94), (4, f82_1250), (4, f82_1251), (0, f82_1252), (2, 95), (2, 96), (2, 97), (2, 98), (2, 99), (2, 100), (2, 101), (2, 102), (0, f82_1254), (2, 103), (2, 104), (2, 105), (2, 106), (2, 107), (2, 108), (2, 109), (0, f82_1256), (0, f82_1258), (2, 110), (2, 111), (2, 112), (2, 113)]) (hb1276.get (by decide) h82_1260) rfl rfl rfl (fun w1277 hk1278 hb1279 => ?_)
        have hF1280 : xFr [82, 85] w1212 w1277 := ((xFr.of (S := [82, 85]) hb1276 (by decide)).tr (xFr.of (S := [82, 85]) hb1279 (by decide)))
        have hA1281 := FA_fr hF1280 (by decide)
        have hf1282 : fld w1277 82 4 = f82_1234 := fld_of hk1278
        have hf1283 : fld w1277 82 5 = f82_1236 := fld_of hk1278
        have hf1284 : fld w1277 82 7 = f82_1240 := fld_of hk1278
        have hf1285 : fld w1277 82 10 = f82_1246 := fld_of hk1278
        have hf1286 : fld w1277 82 14 = f82_1248 + 1 := fld_of hk1278
        have hu1287 : mu w1277 = 2 * (fld w1277 82 4 - fld w1277 82 5) + min 1 (fld w1277 82 7) := rfl
        have pq1288 := pk1222
        unfold PK PS at pq1288
        have hM1289 : ∀ s, s < 7 → s ≠ 1 → rwv w1277 85 s = rwv w 85 s := fun s hs hn => (rwv_of (hr1275.but hb1279 (by decide)) hs).trans ((if_neg hn).trans (rwv_of h85_37 hs).symm)
        have hM1290 : rwv w1277 85 1 = u45 + 1 := (rwv_of (hr1275.but hb1279 (by decide)) (by decide)).trans ((if_pos rfl).trans (by omega))
        have hM1291 : ∀ s, s < 7 → rwv w1277 85 s ≤ rwv w 85 s + 1 := fun s hs => by
          by_cases z : s = 1
          · subst z; omega
          · rw [hM1289 s hs z]; omega
        have hO1292 : ∀ j, (j < 50 + 2 * u45 ∨ 52 + 2 * u45 ≤ j) → j < 140 → rwv w1277 86 j = rwv w 86 j := fun j hj hl => (rwv_fr hF1280 (by decide)).trans (os1223 j hj hl)
        have hl1294 : FA w1212 ≠ 0 ∨ 0 = 1 := rg1226
        have hl1295 : u45 < 4 → rwv w1277 86 (50 + (2 * u45)) = n904 := fun h => (rwv_fr hF1280 (by decide)).trans (ix1224 h)
        have hl1296 : u45 < 4 → rwv w1277 86 ((50 + (2 * u45)) + 1) = n973 := fun h => (rwv_fr hF1280 (by decide)).trans (ix1225 h)
        have hl1297 : FA w1212 ≠ 0 ∨ (0 ≤ n904 ∧ n904 ≤ 99) := rg1227
        have hl1298 : FA w1212 ≠ 0 ∨ (1 ≤ n973 ∧ n973 ≤ 999) := rg1228
        have hN1293 : FA w1277 ≠ 0 ∨ 4 ≤ u45 ∨ (1 ≤ rwv w1277 86 (50 + 2 * u45 + 1) ∧ rwv w1277 86 (50 + 2 * u45 + 1) ≤ 999) := by omega
        have hX1299 : FA w1277 ≠ 0 ∨ u45 < 4 := by omega
        have hD1300 : FA w1277 ≠ 0 ∨ (DATA w → DATA w1277) := by
          by_cases z : FA w1277 ≠ 0
          · exact Or.inl z
          · exact Or.inr (fun hd => hd.s1 hM1289 hK48 hM1290 (hX1299.resolve_left z) hO1292 ((hN1293.resolve_left z).resolve_left (by have := hX1299.resolve_left z; omega)))
        exact xg_e ⟨w1277, ⟨rfl, rfl⟩, xMnv.up (S := [85, 82]) hI1214 ((xFr.of (S := [85, 82]) hb1276 (by decide)).tr (xFr.of (S := [85, 82]) hb1279 (by decide))) (List.forall_mem_cons.mpr ⟨(show cpI 7 52 4294967295 (wget w1277 85) from ⟨_, (hr1275.but hb1279 (by decide)), xrb (by omega) (hb38)⟩), List.forall_mem_cons.mpr ⟨(show cp82 (wget w1277 82) from ⟨f82_1230, f82_1232, f82_1234, f82_1236, f82_1238, f82_1240, f82_1242, f82_1244, f82_1246, f82_1248 + 1, f82_1250, f82_1251, f82_1252, f82_1254, f82_1256, f82_1258, hk1278, hb1231, hb1233, hb1235, hb1237, hb1239, hb1241, hb1243, hb1245, hb1247, by omega, hb1253, hb1255, hb1257, hb1259, by omega⟩), fun _ h => absurd h List.not_mem_nil⟩⟩), (((((((((hF846.up (by decide)).tr (hF855.up (by decide))).tr (hF903.up (by decide))).tr (hF948.up (by decide))).tr (hF960.up (by decide))).tr (hF972.up (by decide))).tr (hF1019.up (by decide))).tr (hF1215.up (by decide))).tr ((xFr.of (S := [82, 83, 85, 86, 87]) hb1276 (by decide)).tr (xFr.of (S := [82, 83, 85, 86, 87]) hb1279 (by decide)))), ⟨fun h => by have := pq1288.1 h; omega, (show fld w1277 82 10 = 0 ∨ FA w1277 ≠ 0 by omega), Or.inr ⟨by have := ms1229; omega, by omega, hM1291⟩, hD1300⟩⟩
    · refine xg_t (xg_ifF (u := n949) rfl xnm0 (xj_eqF hc956)) ?_
      refine xg_t (xg_aload (va := (2, 82)) rfl rfl) ?_
      refine xg_t (xg_const) ?_
      refine xg_t (xg_iload (va := (0, at_)) rfl rfl) ?_
      refine xg_cVv mX12_also (vs := [(0, 3), (0, at_)]) (rest := []) (cn1 := 0) (sl1 := 0) rfl (mAlso (hI947) (by omega) (by omega) (by omega) pk951.2.2.2) rfl (hF948.get (by decide) h82_943) rfl rfl rfl rfl rfl rfl (fun w1301 hq1302 => ?_)
      obtain ⟨hI1303, hF1304, hx1305⟩ := hq1302
      have pk1306 : PK w945 w1301 := ⟨fun _ => hx1305, Nat.le_of_eq (mu_fr hF1304 (by decide)), fld_fr hF1304 (by decide), Or.inr hx1305⟩
      have pk1307 : PK w w1301 := PK.tr pk951 pk1306
      have os1308 : ∀ j, (j < 50 + 2 * u45 ∨ 52 + 2 * u45 ≤ j) → j < 140 → rwv w1301 86 j = rwv w 86 j := fun j hj hl => (rwv_fr hF1304 (by decide)).trans (os952 j hj hl)
      have rg1309 : FA w1301 ≠ 0 ∨ 0 = 1 := rg953.imp_left pk1306.1
      have rg1310 : FA w1301 ≠ 0 ∨ (0 ≤ n904 ∧ n904 ≤ 99) := rg954.imp_left pk1306.1
      have ms1311 : mu w1301 < mu w := Nat.lt_of_le_of_lt pk1306.2.1 ms955
      clear rg953 rg954
      refine xg_t (xg_blk (b := [(141, 1, 0, 0, 0, 0), (142, 1, 2, 1, 0, 0), (143, 1, 2, 3, 0, 0), (144, 2, 4, 50, 0, 0), (146, 1, 3, 2, 0, 0), (147, 1, 2, 3, 0, 0), (148, 1, 16, 0, 0, 0), (149, 1, 11, 0, 0, 0), (150, 2, 2, 4, 0, 0), (152, 3, 13, 211, 96, 200), (155, 1, 0, 0, 0, 0), (156, 1, 2, 1, 0, 0), (157, 1, 2, 3, 0, 0), (158, 2, 4, 50, 0, 0), (160, 1, 3, 2, 0, 0), (161, 1, 2, 3, 0, 0), (162, 1, 16, 0, 0, 0), (163, 1, 11, 0, 0, 0), (164, 1, 3, 1, 0, 0), (165, 1, 11, 0, 0, 0), (166, 1, 0, 0, 0, 0), (167, 1, 3, 1, 0, 0), (168, 3, 5, 999, 0, 0), (171, 3, 13, 199, 96, 196), (174, 3, 13, 211, 96, 200), (177, 3, 8, 394, 0, 0)]) rfl) ?_
      refine xg_t (xg_aload (va := (2, 82)) rfl rfl) ?_
      refine xg_t (xg_iload (va := (0, 1)) rfl rfl) ?_
      refine xg_t (xg_iload (va := (0, u45)) rfl rfl) ?_
      refine xg_t (xg_bip) ?_
      refine xg_t (xg_const) ?_
      refine xg_t (xg_iload (va := (0, u45)) rfl rfl) ?_
      refine xg_t (xg_imul (u := 2) (v := u45) (z := 2 * u45) xnm0 xnm0 (by omega)) ?_
      refine xg_t (xg_iadd (u := 50) (v := 2 * u45) (z := 50 + (2 * u45)) xnm0 xnm0 (by omega)) ?_
      refine xg_t (xg_iload (va := (0, n904)) rfl rfl) ?_
      refine xg_cVv mX12_puts (vs := [(0, 1), (0, u45), (0, 50 + (2 * u45)), (0, n904)]) (rest := []) (cn1 := 0) (sl1 := 0) rfl (mPuts1 (hI1303) (by omega) (by omega) (by omega) (fun _ => by omega)) rfl (hF1304.get (by decide) (hF948.get (by decide) h82_943)) rfl rfl rfl rfl rfl rfl (fun w1312 hq1313 => ?_)
      obtain ⟨hI1314, hF1315, hx1316⟩ := hq1313
      obtain ⟨hp1317, hp1318⟩ := hx1316
      have pk1319 : PK w w1312 := PK.tr pk1307 (PK.fr hF1315 (by decide) (by decide) pk1307.2.2.2)
      have os1320 : ∀ j, (j < 50 + 2 * u45 ∨ 52 + 2 * u45 ≤ j) → j < 140 → rwv w1312 86 j = rwv w 86 j := fun j hj hl => (hp1318 j (by omega) hl).trans (os1308 j hj hl)
      have rg1321 : FA w1312 ≠ 0 ∨ 0 = 1 := rg1309.imp_left (PK.fr hF1315 (by decide) (by decide) pk1307.2.2.2).1
      have rg1322 : FA w1312 ≠ 0 ∨ (0 ≤ n904 ∧ n904 ≤ 99) := rg1310.imp_left (PK.fr hF1315 (by decide) (by decide) pk1307.2.2.2).1
      have rg1323 : FA w1312 ≠ 0 ∨ 0 = 1 := (Or.inl hx1305 : FA w1301 ≠ 0 ∨ 0 = 1).imp_left (PK.fr hF1315 (by decide) (by decide) pk1307.2.2.2).1
      have ms1324 : mu w1312 < mu w := Nat.lt_of_le_of_lt (PK.fr hF1315 (by decide) (by decide) pk1307.2.2.2).2.1 ms1311
      clear rg1309 rg1310
      refine xg_t (xg_aload (va := (2, 82)) rfl rfl) ?_
      refine xg_t (xg_iload (va := (0, 1)) rfl rfl) ?_
      refine xg_t (xg_iload (va := (0, u45)) rfl rfl) ?_
      refine xg_t (xg_bip) ?_
      refine xg_t (xg_const) ?_
      refine xg_t (xg_iload (va := (0, u45)) rfl rfl) ?_
      refine xg_t (xg_imul (u := 2) (v := u45) (z := 2 * u45) xnm0 xnm0 (by omega)) ?_
      refine xg_t (xg_iadd (u := 50) (v := 2 * u45) (z := 50 + (2 * u45)) xnm0 xnm0 (by omega)) ?_
      refine xg_t (xg_const) ?_
      refine xg_t (xg_iadd (u := 50 + (2 * u45)) (v := 1) (z := (50 + (2 * u45)) + 1) xnm0 xnm0 (by omega)) ?_
      refine xg_t (xg_aload (va := (2, 82)) rfl rfl) ?_
      refine xg_t (xg_const) ?_
      refine xg_t (xg_sip) ?_
      refine xg_cVi mX12_numbered (vs := [(0, 1), (0, 999)]) (rest := [(0, (50 + (2 * u45)) + 1), (0, u45), (0, 1), (2, 82)]) (cn1 := 0) (sl1 := 0) rfl (mNumbered (hI1314) (by omega) (by omega) pk1319.2.2.2) rfl (hF1315.get (by decide) (hF1304.get (by decide) (hF948.get (by decide) h82_943))) rfl rfl rfl rfl rfl rfl (fun n1329 w1325 hq1326 => ?_)
      obtain ⟨hn1330, hI1327, hF1328⟩ := hq1326
      clear hb914 hb916 hb918 hb920 hb922 hb924 hb926 hb928 hb930 hb932 hb936 hb938 hb940 hb942
      obtain ⟨hn1331, hn1332, hn1333⟩ := hn1330
      have pk1334 : PK w w1325 := PK.tr pk1319 hn1332
      have os1335 : ∀ j, (j < 50 + 2 * u45 ∨ 52 + 2 * u45 ≤ j) → j < 140 → rwv w1325 86 j = rwv w 86 j := fun j hj hl => (rwv_fr hF1328 (by decide)).trans (os1320 j hj hl)
      have ix1336 : u45 < 4 → rwv w1325 86 (50 + (2 * u45)) = n904 := fun h => (rwv_fr hF1328 (by decide)).trans (hp1317 h)
      have rg1337 : FA w1325 ≠ 0 ∨ 0 = 1 := rg1321.imp_left hn1332.1
      have rg1338 : FA w1325 ≠ 0 ∨ (0 ≤ n904 ∧ n904 ≤ 99) := rg1322.imp_left hn1332.1
      have rg1339 : FA w1325 ≠ 0 ∨ 0 = 1 := rg1323.imp_left hn1332.1
      have ms1340 : mu w1325 < mu w := Nat.lt_of_le_of_lt hn1332.2.1 ms1324
      clear hp1317 rg1321 rg1322 rg1323
      obtain ⟨f82_1341, f82_1343, f82_1345, f82_1347, f82_1349, f82_1351, f82_1353, f82_1355, f82_1357, f82_1359, f82_1361, f82_1362, f82_1363, f82_1365, f82_1367, f82_1369, h82_1371, hb1342, hb1344, hb1346, hb1348, hb1350, hb1352, hb1354, hb1356, hb1358, hb1360, hb1364, hb1366, hb1368, hb1370, hb1372⟩ := (hI1327 82 (by decide) (by decide) : cp82 (wget w1325 82))
      refine xg_cVv mX12_puts (vs := [(0, 1), (0, u45), (0, (50 + (2 * u45)) + 1), (0, n1329)]) (rest := []) (cn1 := 0) (sl1 := 0) rfl (mPuts1 (hI1327) (by omega) (by omega) (by omega) (fun _ => by omega)) rfl h82_1371 rfl rfl rfl rfl rfl rfl (fun w1373 hq1374 => ?_)
      obtain ⟨hI1375, hF1376, hx1377⟩ := hq1374
      obtain ⟨hp1378, hp1379⟩ := hx1377
      have pk1380 : PK w w1373 := PK.tr pk1334 (PK.fr hF1376 (by decide) (by decide) pk1334.2.2.2)
      have os1381 : ∀ j, (j < 50 + 2 * u45 ∨ 52 + 2 * u45 ≤ j) → j < 140 → rwv w1373 86 j = rwv w 86 j := fun j hj hl => (hp1379 j (by omega) hl).trans (os1335 j hj hl)
      have ix1382 : u45 < 4 → rwv w1373 86 (50 + (2 * u45)) = n904 := fun h => (hp1379 _ (by omega) (by omega)).trans (ix1336 h)
      have rg1383 : FA w1373 ≠ 0 ∨ 0 = 1 := rg1337.imp_left (PK.fr hF1376 (by decide) (by decide) pk1334.2.2.2).1
      have rg1384 : FA w1373 ≠ 0 ∨ (0 ≤ n904 ∧ n904 ≤ 99) := rg1338.imp_left (PK.fr hF1376 (by decide) (by decide) pk1334.2.2.2).1
      have rg1385 : FA w1373 ≠ 0 ∨ 0 = 1 := rg1339.imp_left (PK.fr hF1376 (by decide) (by decide) pk1334.2.2.2).1
      have rg1386 : FA w1373 ≠ 0 ∨ (1 ≤ n1329 ∧ n1329 ≤ 999) := hn1333.imp_left (PK.fr hF1376 (by decide) (by decide) pk1334.2.2.2).1
      have ms1387 : mu w1373 < mu w := Nat.lt_of_le_of_lt (PK.fr hF1376 (by decide) (by decide) pk1334.2.2.2).2.1 ms1340
      clear ix1336 rg1337 rg1338 rg1339 hn1333
      refine xg_t (xg_goto) ?_
      refine xg_t (xg_blk (b := [(394, 1, 0, 0, 0, 0), (395, 3, 1, 12, 10, 180), (398, 3, 7, 416, 1, 0), (401, 1, 0, 0, 0, 0), (402, 3, 1, 12, 7, 151), (405, 1, 3, 2, 0, 0), (406, 3, 6, 416, 1, 0), (409, 1, 0, 0, 0, 0), (410, 3, 13, 110, 96, 190), (413, 3, 8, 420, 0, 0)]) rfl) ?_
      refine xg_t (xg_aload (va := (2, 82)) rfl rfl) ?_
      refine xg_t (xg_getf (va := (0, f82_1357)) (hF1376.get (by decide) h82_1371) rfl) ?_
      by_cases hc1388 : f82_1357 = 0
      · refine xg_t (xg_ifF (u := f82_1357) rfl xnm0 (xj_neF hc1388)) ?_
        refine xg_t (xg_aload (va := (2, 82)) rfl rfl) ?_
        refine xg_t (xg_getf (va := (0, f82_1351)) (hF1376.get (by decide) h82_1371) rfl) ?_
        refine xg_t (xg_const) ?_
        by_cases hc1389 : f82_1351 = 2
        · refine xg_t (xg_icF (u := f82_1351) (v := 2) rfl xnm0 xnm0 (xj_neF hc1389)) ?_
          refine xg_t (xg_aload (va := (2, 82)) rfl rfl) ?_
          refine xg_cVv mX12_advance (vs := []) (rest := []) (cn1 := 0) (sl1 := 0) rfl (mAdvance (hI1375)) rfl (hF1376.get (by decide) h82_1371) rfl rfl rfl rfl rfl rfl (fun w1390 hq1391 => ?_)
          obtain ⟨hI1392, hF1393, hx1394⟩ := hq1391
          clear hb1342 hb1344 hb1346 hb1348 hb1350 hb1352 hb1354 hb1356 hb1358 hb1360 hb1364 hb1366 hb1368 hb1370
          obtain ⟨hv1395, hv1396, hv1397, hv1398⟩ := hx1394
          have hf1400 := FA_fr hF1393 (by decide)
          have hs1401 := pk1380.2.2.2
          unfold PS at hs1401
          have pk1399 : PK w1373 w1390 := ⟨fun _ => by omega, hv1395, hv1398, (show fld w1390 82 10 = 0 ∨ FA w1390 ≠ 0 by omega)⟩
          clear hs1401
          clear hv1396
          have pk1402 : PK w w1390 := PK.tr pk1380 pk1399
          have os1403 : ∀ j, (j < 50 + 2 * u45 ∨ 52 + 2 * u45 ≤ j) → j < 140 → rwv w1390 86 j = rwv w 86 j := fun j hj hl => (rwv_fr hF1393 (by decide)).trans (os1381 j hj hl)
          have ix1404 : u45 < 4 → rwv w1390 86 (50 + (2 * u45)) = n904 := fun h => (rwv_fr hF1393 (by decide)).trans (ix1382 h)
          have ix1405 : u45 < 4 → rwv w1390 86 ((50 + (2 * u45)) + 1) = n1329 := fun h => (rwv_fr hF1393 (by decide)).trans (hp1378 h)
          have rg1406 : FA w1390 ≠ 0 ∨ 0 = 1 := rg1383.imp_left pk1399.1
          have rg1407 : FA w1390 ≠ 0 ∨ (0 ≤ n904 ∧ n904 ≤ 99) := rg1384.imp_left pk1399.1
          have rg1408 : FA w1390 ≠ 0 ∨ 0 = 1 := rg1385.imp_left pk1399.1
          have rg1409 : FA w1390 ≠ 0 ∨ (1 ≤ n1329 ∧ n1329 ≤ 999) := rg1386.imp_left pk1399.1
          have ms1410 : mu w1390 < mu w := Nat.lt_of_le_of_lt pk1399.2.1 ms1387
          clear ix1382 hp1378 rg1383 rg1384 rg1385 rg1386
          refine xg_t (xg_goto) ?_
          refine xg_t (xg_blk (b := [(420, 1, 0, 0, 0, 0), (421, 3, 1, 12, 11, 17), (424, 1, 2, 1, 0, 0), (425, 1, 39, 0, 0, 0), (426, 1, 10, 0, 0, 0), (427, 1, 3, 1, 0, 0), (428, 1, 11, 0, 0, 0), (429, 1, 17, 0, 0, 0), (430, 1, 0, 0, 0, 0), (431, 1, 19, 0, 0, 0), (432, 3, 1, 12, 14, 212), (435, 1, 3, 1, 0, 0), (436, 1, 11, 0, 0, 0), (437, 3, 14, 12, 14, 212), (440, 1, 12, 0, 0, 0)]) rfl) ?_
          obtain ⟨f82_1411, f82_1413, f82_1415, f82_1417, f82_1419, f82_1421, f82_1423, f82_1425, f82_1427, f82_1429, f82_1431, f82_1432, f82_1433, f82_1435, f82_1437, f82_1439, h82_1441, hb1412, hb1414, hb1416, hb1418, hb1420, hb1422, hb1424, hb1426, hb1428, hb1430, hb1434, hb1436, hb1438, hb1440, hb1442⟩ := (hI1392 82 (by decide) (by decide) : cp82 (wget w1390 82))
          have hf1443 : fld w1390 82 4 = f82_1415 := fld_of h82_1441
          have hf1444 : fld w1390 82 5 = f82_1417 := fld_of h82_1441
          have hf1445 : fld w1390 82 7 = f82_1421 := fld_of h82_1441
          have hf1446 : fld w1390 82 10 = f82_1427 := fld_of h82_1441
          have hf1447 : fld w1390 82 14 = f82_1429 := fld_of h82_1441
          have hu1448 : mu w1390 = 2 * (fld w1390 82 4 - fld w1390 82 5) + min 1 (fld w1390 82 7) := rfl
          have hf1449 := pk1402.2.2.1
          have hl1450 : f82_1429 ≤ 1000 := by omega
          refine xg_t (xg_aload (va := (2, 82)) rfl rfl) ?_
          refine xg_t (xg_getf (va := (2, 85)) h82_1441 rfl) ?_
          refine xg_t (xg_iload (va := (0, 1)) rfl rfl) ?_
          refine xg_t (xg_dup2 rfl) ?_
          refine xg_ialdB (n := 1) (B := 4294967295) (((((((((h85_37.fr hF846 (by decide)).fr hF855 (by decide)).fr hF903 (by decide)).fr hF948 (by decide)).fr hF1304 (by decide)).fr hF1315 (by decide)).fr hF1328 (by decide)).fr hF1376 (by decide)).fr hF1393 (by decide)) (hb38) xnm0 (by omega) (fun u1451 hu1452 he1453 => ?_)
          have hl1454 : u1451 = u45 := by omega
          refine xg_t (xg_const) ?_
          refine xg_t (xg_iadd (u := u1451) (v := 1) (z := u1451 + 1) xnm0 xnm0 (by omega)) ?_
          refine xg_iastK (n := 1) (u := u1451 + 1) (((((((((h85_37.fr hF846 (by decide)).fr hF855 (by decide)).fr hF903 (by decide)).fr hF948 (by decide)).fr hF1304 (by decide)).fr hF1315 (by decide)).fr hF1328 (by decide)).fr hF1376 (by decide)).fr hF1393 (by decide)) xnm0 xnm0 rfl (by omega) (fun w1455 hr1456 hb1457 => ?_)
          refine xg_t (xg_aload (va := (2, 82)) rfl rfl) ?_
          refine xg_t (xg_dup rfl) ?_
          refine xg_t (xg_getf (va := (0, f82_1429)) (hb1457.get (by decide) h82_1441) rfl) ?_
          refine xg_t (xg_const) ?_
          refine xg_t (xg_iadd (u := f82_1429) (v := 1) (z := f82_1429 + 1) xnm0 xnm0 (by omega)) ?_
          refine xg_putI (fl1 := [(2, 83), (2, 84), (0, f82_1411), (0, f82_1413), (0, f82_1415), (0, f82_1417), (0, f82_1419), (0, f82_1421), (0, f82_1423), (0, f82_1425), (0, f82_1427), (2, 85), (2, 86), (2, 87), (0, f82_1429 + 1), (2, 88), (2, 89), (2, 90), (2, 91), (2, 92), (2, 93), (2, 94), (4, f82_1431), (4, f82_1432), (0, f82_1433), (2, 95), (2, 96), (2, 97), (2, 98), (2, 99), (2, 100), (2, 101), (2, 102), (0, f82_1435), (2, 103), (2, 104), (2, 105), (2, 106), (2, 107), (2, 108), (2, 109), (0, f82_1437), (0, f82_1439), (2, 110), (2, 111), (2, 112), (2, 113)]) (hb1457.get (by decide) h82_1441) rfl rfl rfl (fun w1458 hk1459 hb1460 => ?_)
          have hF1461 : xFr [82, 85] w1390 w1458 := ((xFr.of (S := [82, 85]) hb1457 (by decide)).tr (xFr.of (S := [82, 85]) hb1460 (by decide)))
          have hA1462 := FA_fr hF1461 (by decide)
          have hf1463 : fld w1458 82 4 = f82_1415 := fld_of hk1459
          have hf1464 : fld w1458 82 5 = f82_1417 := fld_of hk1459
          have hf1465 : fld w1458 82 7 = f82_1421 := fld_of hk1459
          have hf1466 : fld w1458 82 10 = f82_1427 := fld_of hk1459
          have hf1467 : fld w1458 82 14 = f82_1429 + 1 := fld_of hk1459
          have hu1468 : mu w1458 = 2 * (fld w1458 82 4 - fld w1458 82 5) + min 1 (fld w1458 82 7) := rfl
          have pq1469 := pk1402
          unfold PK PS at pq1469
          have hM1470 : ∀ s, s < 7 → s ≠ 1 → rwv w1458 85 s = rwv w 85 s := fun s hs hn => (rwv_of (hr1456.but hb1460 (by decide)) hs).trans ((if_neg hn).trans (rwv_of h85_37 hs).symm)
          have hM1471 : rwv w1458 85 1 = u45 + 1 := (rwv_of (hr1456.but hb1460 (by decide)) (by decide)).trans ((if_pos rfl).trans (by omega))
          have hM1472 : ∀ s, s < 7 → rwv w1458 85 s ≤ rwv w 85 s + 1 := fun s hs => by
            by_cases z : s = 1
            · subst z; omega
            · rw [hM1470 s hs z]; omega
          have hO1473 : ∀ j, (j < 50 + 2 * u45 ∨ 52 + 2 * u45 ≤ j) → j < 140 → rwv w1458 86 j = rwv w 86 j := fun j hj hl => (rwv_fr hF1461 (by decide)).trans (os1403 j hj hl)
          have hl1475 : FA w1390 ≠ 0 ∨ 0 = 1 := rg1406
          have hl1476 : FA w1390 ≠ 0 ∨ 0 = 1 := rg1408
          have hl1477 : u45 < 4 → rwv w1458 86 (50 + (2 * u45)) = n904 := fun h => (rwv_fr hF1461 (by decide)).trans (ix1404 h)
          have hl1478 : u45 < 4 → rwv w1458 86 ((50 + (2 * u45)) + 1) = n1329 := fun h => (rwv_fr hF1461 (by decide)).trans (ix1405 h)
          have hl1479 : FA w1390 ≠ 0 ∨ (0 ≤ n904 ∧ n904 ≤ 99) := rg1407
          have hl1480 : FA w1390 ≠ 0 ∨ (1 ≤ n1329 ∧ n1329 ≤ 999) := rg1409
          have hN1474 : FA w1458 ≠ 0 ∨ 4 ≤ u45 ∨ (1 ≤ rwv w1458 86 (50 + 2 * u45 + 1) ∧ rwv w1458 86 (50 + 2 * u45 + 1) ≤ 999) := by omega
          have hX1481 : FA w1458 ≠ 0 ∨ u45 < 4 := by omega
          have hD1482 : FA w1458 ≠ 0 ∨ (DATA w → DATA w1458) := by
            by_cases z : FA w1458 ≠ 0
            · exact Or.inl z
            · exact Or.inr (fun hd => hd.s1 hM1470 hK48 hM1471 (hX1481.resolve_left z) hO1473 ((hN1474.resolve_left z).resolve_left (by have := hX1481.resolve_left z; omega)))
          exact xg_e ⟨w1458, ⟨rfl, rfl⟩, xMnv.up (S := [85, 82]) hI1392 ((xFr.of (S := [85, 82]) hb1457 (by decide)).tr (xFr.of (S := [85, 82]) hb1460 (by decide))) (List.forall_mem_cons.mpr ⟨(show cpI 7 52 4294967295 (wget w1458 85) from ⟨_, (hr1456.but hb1460 (by decide)), xrb (by omega) (hb38)⟩), List.forall_mem_cons.mpr ⟨(show cp82 (wget w1458 82) from ⟨f82_1411, f82_1413, f82_1415, f82_1417, f82_1419, f82_1421, f82_1423, f82_1425, f82_1427, f82_1429 + 1, f82_1431, f82_1432, f82_1433, f82_1435, f82_1437, f82_1439, hk1459, hb1412, hb1414, hb1416, hb1418, hb1420, hb1422, hb1424, hb1426, hb1428, by omega, hb1434, hb1436, hb1438, hb1440, by omega⟩), fun _ h => absurd h List.not_mem_nil⟩⟩), ((((((((((hF846.up (by decide)).tr (hF855.up (by decide))).tr (hF903.up (by decide))).tr (hF948.up (by decide))).tr (hF1304.up (by decide))).tr (hF1315.up (by decide))).tr (hF1328.up (by decide))).tr (hF1376.up (by decide))).tr (hF1393.up (by decide))).tr ((xFr.of (S := [82, 83, 85, 86, 87]) hb1457 (by decide)).tr (xFr.of (S := [82, 83, 85, 86, 87]) hb1460 (by decide)))), ⟨fun h => by have := pq1469.1 h; omega, (show fld w1458 82 10 = 0 ∨ FA w1458 ≠ 0 by omega), Or.inr ⟨by have := ms1410; omega, by omega, hM1472⟩, hD1482⟩⟩
        · refine xg_t (xg_icT (u := f82_1351) (v := 2) rfl xnm0 xnm0 (xj_neT hc1389)) ?_
          refine xg_t (xg_blk (b := [(416, 1, 0, 0, 0, 0), (417, 3, 13, 140, 96, 183)]) rfl) ?_
          refine xg_t (xg_aload (va := (2, 82)) rfl rfl) ?_
          refine xg_cVv mX12_ends (vs := []) (rest := []) (cn1 := 0) (sl1 := 0) rfl (mEnds (hI1375) pk1380.2.2.2) rfl (hF1376.get (by decide) h82_1371) rfl rfl rfl rfl rfl rfl (fun w1483 hq1484 => ?_)
          obtain ⟨hI1485, hF1486, hx1487⟩ := hq1484
          clear hb1342 hb1344 hb1346 hb1348 hb1350 hb1352 hb1354 hb1356 hb1358 hb1360 hb1364 hb1366 hb1368 hb1370
          obtain ⟨hv1488, hv1489, hv1490, hv1491⟩ := hx1487
          have pk1492 : PK w1373 w1483 := ⟨fun _ => hv1488, by omega, by omega, Or.inr hv1488⟩
          have pk1493 : PK w w1483 := PK.tr pk1380 pk1492
          have os1494 : ∀ j, (j < 50 + 2 * u45 ∨ 52 + 2 * u45 ≤ j) → j < 140 → rwv w1483 86 j = rwv w 86 j := fun j hj hl => (rwv_fr hF1486 (by decide)).trans (os1381 j hj hl)
          have ix1495 : u45 < 4 → rwv w1483 86 (50 + (2 * u45)) = n904 := fun h => (rwv_fr hF1486 (by decide)).trans (ix1382 h)
          have ix1496 : u45 < 4 → rwv w1483 86 ((50 + (2 * u45)) + 1) = n1329 := fun h => (rwv_fr hF1486 (by decide)).trans (hp1378 h)
          have rg1497 : FA w1483 ≠ 0 ∨ 0 = 1 := rg1383.imp_left pk1492.1
          have rg1498 : FA w1483 ≠ 0 ∨ (0 ≤ n904 ∧ n904 ≤ 99) := rg1384.imp_left pk1492.1
          have rg1499 : FA w1483 ≠ 0 ∨ 0 = 1 := rg1385.imp_left pk1492.1
          have rg1500 : FA w1483 ≠ 0 ∨ (1 ≤ n1329 ∧ n1329 ≤ 999) := rg1386.imp_left pk1492.1
          have ms1501 : mu w1483 < mu w := Nat.lt_of_le_of_lt pk1492.2.1 ms1387
          clear ix1382 hp1378 rg1383 rg1384 rg1385 rg1386
          refine xg_t (xg_blk (b := [(420, 1, 0, 0, 0, 0), (421, 3, 1, 12, 11, 17), (424, 1, 2, 1, 0, 0), (425, 1, 39, 0, 0, 0), (426, 1, 10, 0, 0, 0), (427, 1, 3, 1, 0, 0), (428, 1, 11, 0, 0, 0), (429, 1, 17, 0, 0, 0), (430, 1, 0, 0, 0, 0), (431, 1, 19, 0, 0, 0), (432, 3, 1, 12, 14, 212), (435, 1, 3, 1, 0, 0), (436, 1, 11, 0, 0, 0), (437, 3, 14, 12, 14, 212), (440, 1, 12, 0, 0, 0)]) rfl) ?_
          obtain ⟨f82_1502, f82_1504, f82_1506, f82_1508, f82_1510, f82_1512, f82_1514, f82_1516, f82_1518, f82_1520, f82_1522, f82_1523, f82_1524, f82_1526, f82_1528, f82_1530, h82_1532, hb1503, hb1505, hb1507, hb1509, hb1511, hb1513, hb1515, hb1517, hb1519, hb1521, hb1525, hb1527, hb1529, hb1531, hb1533⟩ := (hI1485 82 (by decide) (by decide) : cp82 (wget w1483 82))
          have hf1534 : fld w1483 82 4 = f82_1506 := fld_of h82_1532
          have hf1535 : fld w1483 82 5 = f82_1508 := fld_of h82_1532
          have hf1536 : fld w1483 82 7 = f82_1512 := fld_of h82_1532
          have hf1537 : fld w1483 82 10 = f82_1518 := fld_of h82_1532
          have hf1538 : fld w1483 82 14 = f82_1520 := fld_of h82_1532
          have hu1539 : mu w1483 = 2 * (fld w1483 82 4 - fld w1483 82 5) + min 1 (fld w1483 82 7) := rfl
          have hf1540 := pk1493.2.2.1
          have hl1541 : f82_1520 ≤ 1000 := by omega
          refine xg_t (xg_aload (va := (2, 82)) rfl rfl) ?_
          refine xg_t (xg_getf (va := (2, 85)) h82_1532 rfl) ?_
          refine xg_t (xg_iload (va := (0, 1)) rfl rfl) ?_
          refine xg_t (xg_dup2 rfl) ?_
          refine xg_ialdB (n := 1) (B := 4294967295) (((((((((h85_37.fr hF846 (by decide)).fr hF855 (by decide)).fr hF903 (by decide)).fr hF948 (by decide)).fr hF1304 (by decide)).fr hF1315 (by decide)).fr hF1328 (by decide)).fr hF1376 (by decide)).fr hF1486 (by decide)) (hb38) xnm0 (by omega) (fun u1542 hu1543 he1544 => ?_)
          have hl1545 : u1542 = u45 := by omega
          refine xg_t (xg_const) ?_
          refine xg_t (xg_iadd (u := u1542) (v := 1) (z := u1542 + 1) xnm0 xnm0 (by omega)) ?_
          refine xg_iastK (n := 1) (u := u1542 + 1) (((((((((h85_37.fr hF846 (by decide)).fr hF855 (by decide)).fr hF903 (by decide)).fr hF948 (by decide)).fr hF1304 (by decide)).fr hF1315 (by decide)).fr hF1328 (by decide)).fr hF1376 (by decide)).fr hF1486 (by decide)) xnm0 xnm0 rfl (by omega) (fun w1546 hr1547 hb1548 => ?_)
          refine xg_t (xg_aload (va := (2, 82)) rfl rfl) ?_
          refine xg_t (xg_dup rfl) ?_
          refine xg_t (xg_getf (va := (0, f82_1520)) (hb1548.get (by decide) h82_1532) rfl) ?_
          refine xg_t (xg_const) ?_
          refine xg_t (xg_iadd (u := f82_1520) (v := 1) (z := f82_1520 + 1) xnm0 xnm0 (by omega)) ?_
          refine xg_putI (fl1 := [(2, 83), (2, 84), (0, f82_1502), (0, f82_1504), (0, f82_1506), (0, f82_1508), (0, f82_1510), (0, f82_1512), (0, f82_1514), (0, f82_1516), (0, f82_1518), (2, 85), (2, 86), (2, 87), (0, f82_1520 + 1), (2, 88), (2, 89), (2, 90), (2, 91), (2, 92), (2, 93), (2, 94), (4, f82_1522), (4, f82_1523), (0, f82_1524), (2, 95), (2, 96), (2, 97), (2, 98), (2, 99), (2, 100), (2, 101), (2, 102), (0, f82_1526), (2, 103), (2, 104), (2, 105), (2, 106), (2, 107), (2, 108), (2, 109), (0, f82_1528), (0, f82_1530), (2, 110), (2, 111), (2, 112), (2, 113)]) (hb1548.get (by decide) h82_1532) rfl rfl rfl (fun w1549 hk1550 hb1551 => ?_)
          have hF1552 : xFr [82, 85] w1483 w1549 := ((xFr.of (S := [82, 85]) hb1548 (by decide)).tr (xFr.of (S := [82, 85]) hb1551 (by decide)))
          have hA1553 := FA_fr hF1552 (by decide)
          have hf1554 : fld w1549 82 4 = f82_1506 := fld_of hk1550
          have hf1555 : fld w1549 82 5 = f82_1508 := fld_of hk1550
          have hf1556 : fld w1549 82 7 = f82_1512 := fld_of hk1550
          have hf1557 : fld w1549 82 10 = f82_1518 := fld_of hk1550
          have hf1558 : fld w1549 82 14 = f82_1520 + 1 := fld_of hk1550
          have hu1559 : mu w1549 = 2 * (fld w1549 82 4 - fld w1549 82 5) + min 1 (fld w1549 82 7) := rfl
          have pq1560 := pk1493
          unfold PK PS at pq1560
          have hM1561 : ∀ s, s < 7 → s ≠ 1 → rwv w1549 85 s = rwv w 85 s := fun s hs hn => (rwv_of (hr1547.but hb1551 (by decide)) hs).trans ((if_neg hn).trans (rwv_of h85_37 hs).symm)
          have hM1562 : rwv w1549 85 1 = u45 + 1 := (rwv_of (hr1547.but hb1551 (by decide)) (by decide)).trans ((if_pos rfl).trans (by omega))
          have hM1563 : ∀ s, s < 7 → rwv w1549 85 s ≤ rwv w 85 s + 1 := fun s hs => by
            by_cases z : s = 1
            · subst z; omega
            · rw [hM1561 s hs z]; omega
          have hO1564 : ∀ j, (j < 50 + 2 * u45 ∨ 52 + 2 * u45 ≤ j) → j < 140 → rwv w1549 86 j = rwv w 86 j := fun j hj hl => (rwv_fr hF1552 (by decide)).trans (os1494 j hj hl)
          have hl1566 : FA w1483 ≠ 0 ∨ 0 = 1 := rg1497
          have hl1567 : FA w1483 ≠ 0 ∨ 0 = 1 := rg1499
          have hl1568 : u45 < 4 → rwv w1549 86 (50 + (2 * u45)) = n904 := fun h => (rwv_fr hF1552 (by decide)).trans (ix1495 h)
          have hl1569 : u45 < 4 → rwv w1549 86 ((50 + (2 * u45)) + 1) = n1329 := fun h => (rwv_fr hF1552 (by decide)).trans (ix1496 h)
          have hl1570 : FA w1483 ≠ 0 ∨ (0 ≤ n904 ∧ n904 ≤ 99) := rg1498
          have hl1571 : FA w1483 ≠ 0 ∨ (1 ≤ n1329 ∧ n1329 ≤ 999) := rg1500
          have hN1565 : FA w1549 ≠ 0 ∨ 4 ≤ u45 ∨ (1 ≤ rwv w1549 86 (50 + 2 * u45 + 1) ∧ rwv w1549 86 (50 + 2 * u45 + 1) ≤ 999) := by omega
          have hX1572 : FA w1549 ≠ 0 ∨ u45 < 4 := by omega
          have hD1573 : FA w1549 ≠ 0 ∨ (DATA w → DATA w1549) := by
            by_cases z : FA w1549 ≠ 0
            · exact Or.inl z
            · exact Or.inr (fun hd => hd.s1 hM1561 hK48 hM1562 (hX1572.resolve_left z) hO1564 ((hN1565.resolve_left z).resolve_left (by have := hX1572.resolve_left z; omega)))
          exact xg_e ⟨w1549, ⟨rfl, rfl⟩, xMnv.up (S := [85, 82]) hI1485 ((xFr.of (S := [85, 82]) hb1548 (by decide)).tr (xFr.of (S := [85, 82]) hb1551 (by decide))) (List.forall_mem_cons.mpr ⟨(show cpI 7 52 4294967295 (wget w1549 85) from ⟨_, (hr1547.but hb1551 (by decide)), xrb (by omega) (hb38)⟩), List.forall_mem_cons.mpr ⟨(show cp82 (wget w1549 82) from ⟨f82_1502, f82_1504, f82_1506, f82_1508, f82_1510, f82_1512, f82_1514, f82_1516, f82_1518, f82_1520 + 1, f82_1522, f82_1523, f82_1524, f82_1526, f82_1528, f82_1530, hk1550, hb1503, hb1505, hb1507, hb1509, hb1511, hb1513, hb1515, hb1517, hb1519, by omega, hb1525, hb1527, hb1529, hb1531, by omega⟩), fun _ h => absurd h List.not_mem_nil⟩⟩), ((((((((((hF846.up (by decide)).tr (hF855.up (by decide))).tr (hF903.up (by decide))).tr (hF948.up (by decide))).tr (hF1304.up (by decide))).tr (hF1315.up (by decide))).tr (hF1328.up (by decide))).tr (hF1376.up (by decide))).tr (hF1486.up (by decide))).tr ((xFr.of (S := [82, 83, 85, 86, 87]) hb1548 (by decide)).tr (xFr.of (S := [82, 83, 85, 86, 87]) hb1551 (by decide)))), ⟨fun h => by have := pq1560.1 h; omega, (show fld w1549 82 10 = 0 ∨ FA w1549 ≠ 0 by omega), Or.inr ⟨by have := ms1501; omega, by omega, hM1563⟩, hD1573⟩⟩
      · refine xg_t (xg_ifT (u := f82_1357) rfl xnm0 (xj_neT hc1388)) ?_
        refine xg_t (xg_blk (b := [(416, 1, 0, 0, 0, 0), (417, 3, 13, 140, 96, 183)]) rfl) ?_
        refine xg_t (xg_aload (va := (2, 82)) rfl rfl) ?_
        refine xg_cVv mX12_ends (vs := []) (rest := []) (cn1 := 0) (sl1 := 0) rfl (mEnds (hI1375) pk1380.2.2.2) rfl (hF1376.get (by decide) h82_1371) rfl rfl rfl rfl rfl rfl (fun w1574 hq1575 => ?_)
        obtain ⟨hI1576, hF1577, hx1578⟩ := hq1575
        clear hb1342 hb1344 hb1346 hb1348 hb1350 hb1352 hb1354 hb1356 hb1358 hb1360 hb1364 hb1366 hb1368 hb1370
        obtain ⟨hv1579, hv1580, hv1581, hv1582⟩ := hx1578
        have pk1583 : PK w1373 w1574 := ⟨fun _ => hv1579, by omega, by omega, Or.inr hv1579⟩
        have pk1584 : PK w w1574 := PK.tr pk1380 pk1583
        have os1585 : ∀ j, (j < 50 + 2 * u45 ∨ 52 + 2 * u45 ≤ j) → j < 140 → rwv w1574 86 j = rwv w 86 j := fun j hj hl => (rwv_fr hF1577 (by decide)).trans (os1381 j hj hl)
        have ix1586 : u45 < 4 → rwv w1574 86 (50 + (2 * u45)) = n904 := fun h => (rwv_fr hF1577 (by decide)).trans (ix1382 h)
        have ix1587 : u45 < 4 → rwv w1574 86 ((50 + (2 * u45)) + 1) = n1329 := fun h => (rwv_fr hF1577 (by decide)).trans (hp1378 h)
        have rg1588 : FA w1574 ≠ 0 ∨ 0 = 1 := rg1383.imp_left pk1583.1
        have rg1589 : FA w1574 ≠ 0 ∨ (0 ≤ n904 ∧ n904 ≤ 99) := rg1384.imp_left pk1583.1
        have rg1590 : FA w1574 ≠ 0 ∨ 0 = 1 := rg1385.imp_left pk1583.1
        have rg1591 : FA w1574 ≠ 0 ∨ (1 ≤ n1329 ∧ n1329 ≤ 999) := rg1386.imp_left pk1583.1
        have ms1592 : mu w1574 < mu w := Nat.lt_of_le_of_lt pk1583.2.1 ms1387
        clear ix1382 hp1378 rg1383 rg1384 rg1385 rg1386
        refine xg_t (xg_blk (b := [(420, 1, 0, 0, 0, 0), (421, 3, 1, 12, 11, 17), (424, 1, 2, 1, 0, 0), (425, 1, 39, 0, 0, 0), (426, 1, 10, 0, 0, 0), (427, 1, 3, 1, 0, 0), (428, 1, 11, 0, 0, 0), (429, 1, 17, 0, 0, 0), (430, 1, 0, 0, 0, 0), (431, 1, 19, 0, 0, 0), (432, 3, 1, 12, 14, 212), (435, 1, 3, 1, 0, 0), (436, 1, 11, 0, 0, 0), (437, 3, 14, 12, 14, 212), (440, 1, 12, 0, 0, 0)]) rfl) ?_
        obtain ⟨f82_1593, f82_1595, f82_1597, f82_1599, f82_1601, f82_1603, f82_1605, f82_1607, f82_1609, f82_1611, f82_1613, f82_1614, f82_1615, f82_1617, f82_1619, f82_1621, h82_1623, hb1594, hb1596, hb1598, hb1600, hb1602, hb1604, hb1606, hb1608, hb1610, hb1612, hb1616, hb1618, hb1620, hb1622, hb1624⟩ := (hI1576 82 (by decide) (by decide) : cp82 (wget w1574 82))
        have hf1625 : fld w1574 82 4 = f82_1597 := fld_of h82_1623
        have hf1626 : fld w1574 82 5 = f82_1599 := fld_of h82_1623
        have hf1627 : fld w1574 82 7 = f82_1603 := fld_of h82_1623
        have hf1628 : fld w1574 82 10 = f82_1609 := fld_of h82_1623
        have hf1629 : fld w1574 82 14 = f82_1611 := fld_of h82_1623
        have hu1630 : mu w1574 = 2 * (fld w1574 82 4 - fld w1574 82 5) + min 1 (fld w1574 82 7) := rfl
        have hf1631 := pk1584.2.2.1
        have hl1632 : f82_1611 ≤ 1000 := by omega
        refine xg_t (xg_aload (va := (2, 82)) rfl rfl) ?_
        refine xg_t (xg_getf (va := (2, 85)) h82_1623 rfl) ?_
        refine xg_t (xg_iload (va := (0, 1)) rfl rfl) ?_
        refine xg_t (xg_dup2 rfl) ?_
        refine xg_ialdB (n := 1) (B := 4294967295) (((((((((h85_37.fr hF846 (by decide)).fr hF855 (by decide)).fr hF903 (by decide)).fr hF948 (by decide)).fr hF1304 (by decide)).fr hF1315 (by decide)).fr hF1328 (by decide)).fr hF1376 (by decide)).fr hF1577 (by decide)) (hb38) xnm0 (by omega) (fun u1633 hu1634 he1635 => ?_)
        have hl1636 : u1633 = u45 := by omega
        refine xg_t (xg_const) ?_
        refine xg_t (xg_iadd (u := u1633) (v := 1) (z := u1633 + 1) xnm0 xnm0 (by omega)) ?_
        refine xg_iastK (n := 1) (u := u1633 + 1) (((((((((h85_37.fr hF846 (by decide)).fr hF855 (by decide)).fr hF903 (by decide)).fr hF948 (by decide)).fr hF1304 (by decide)).fr hF1315 (by decide)).fr hF1328 (by decide)).fr hF1376 (by decide)).fr hF1577 (by decide)) xnm0 xnm0 rfl (by omega) (fun w1637 hr1638 hb1639 => ?_)
        refine xg_t (xg_aload (va := (2, 82)) rfl rfl) ?_
        refine xg_t (xg_dup rfl) ?_
        refine xg_t (xg_getf (va := (0, f82_1611)) (hb1639.get (by decide) h82_1623) rfl) ?_
        refine xg_t (xg_const) ?_
        refine xg_t (xg_iadd (u := f82_1611) (v := 1) (z := f82_1611 + 1) xnm0 xnm0 (by omega)) ?_
        refine xg_putI (fl1 := [(2, 83), (2, 84), (0, f82_1593), (0, f82_1595), (0, f82_1597), (0, f82_1599), (0, f82_1601), (0, f82_1603), (0, f82_1605), (0, f82_1607), (0, f82_1609), (2, 85), (2, 86), (2, 87), (0, f82_1611 + 1), (2, 88), (2, 89), (2, 90), (2, 91), (2, 92), (2, 93), (2, 94), (4, f82_1613), (4, f82_1614), (0, f82_1615), (2, 95), (2, 96), (2, 97), (2, 98), (2, 99), (2, 100), (2, 101), (2, 102), (0, f82_1617), (2, 103), (2, 104), (2, 105), (2, 106), (2, 107), (2, 108), (2, 109), (0, f82_1619), (0, f82_1621), (2, 110), (2, 111), (2, 112), (2, 113)]) (hb1639.get (by decide) h82_1623) rfl rfl rfl (fun w1640 hk1641 hb1642 => ?_)
        have hF1643 : xFr [82, 85] w1574 w1640 := ((xFr.of (S := [82, 85]) hb1639 (by decide)).tr (xFr.of (S := [82, 85]) hb1642 (by decide)))
        have hA1644 := FA_fr hF1643 (by decide)
        have hf1645 : fld w1640 82 4 = f82_1597 := fld_of hk1641
        have hf1646 : fld w1640 82 5 = f82_1599 := fld_of hk1641
        have hf1647 : fld w1640 82 7 = f82_1603 := fld_of hk1641
        have hf1648 : fld w1640 82 10 = f82_1609 := fld_of hk1641
        have hf1649 : fld w1640 82 14 = f82_1611 + 1 := fld_of hk1641
        have hu1650 : mu w1640 = 2 * (fld w1640 82 4 - fld w1640 82 5) + min 1 (fld w1640 82 7) := rfl
        have pq1651 := pk1584
        unfold PK PS at pq1651
        have hM1652 : ∀ s, s < 7 → s ≠ 1 → rwv w1640 85 s = rwv w 85 s := fun s hs hn => (rwv_of (hr1638.but hb1642 (by decide)) hs).trans ((if_neg hn).trans (rwv_of h85_37 hs).symm)
        have hM1653 : rwv w1640 85 1 = u45 + 1 := (rwv_of (hr1638.but hb1642 (by decide)) (by decide)).trans ((if_pos rfl).trans (by omega))
        have hM1654 : ∀ s, s < 7 → rwv w1640 85 s ≤ rwv w 85 s + 1 := fun s hs => by
          by_cases z : s = 1
          · subst z; omega
          · rw [hM1652 s hs z]; omega
        have hO1655 : ∀ j, (j < 50 + 2 * u45 ∨ 52 + 2 * u45 ≤ j) → j < 140 → rwv w1640 86 j = rwv w 86 j := fun j hj hl => (rwv_fr hF1643 (by decide)).trans (os1585 j hj hl)
        have hl1657 : FA w1574 ≠ 0 ∨ 0 = 1 := rg1588
        have hl1658 : FA w1574 ≠ 0 ∨ 0 = 1 := rg1590
        have hl1659 : u45 < 4 → rwv w1640 86 (50 + (2 * u45)) = n904 := fun h => (rwv_fr hF1643 (by decide)).trans (ix1586 h)
        have hl1660 : u45 < 4 → rwv w1640 86 ((50 + (2 * u45)) + 1) = n1329 := fun h => (rwv_fr hF1643 (by decide)).trans (ix1587 h)
        have hl1661 : FA w1574 ≠ 0 ∨ (0 ≤ n904 ∧ n904 ≤ 99) := rg1589
        have hl1662 : FA w1574 ≠ 0 ∨ (1 ≤ n1329 ∧ n1329 ≤ 999) := rg1591
        have hN1656 : FA w1640 ≠ 0 ∨ 4 ≤ u45 ∨ (1 ≤ rwv w1640 86 (50 + 2 * u45 + 1) ∧ rwv w1640 86 (50 + 2 * u45 + 1) ≤ 999) := by omega
        have hX1663 : FA w1640 ≠ 0 ∨ u45 < 4 := by omega
        have hD1664 : FA w1640 ≠ 0 ∨ (DATA w → DATA w1640) := by
          by_cases z : FA w1640 ≠ 0
          · exact Or.inl z
          · exact Or.inr (fun hd => hd.s1 hM1652 hK48 hM1653 (hX1663.resolve_left z) hO1655 ((hN1656.resolve_left z).resolve_left (by have := hX1663.resolve_left z; omega)))
        exact xg_e ⟨w1640, ⟨rfl, rfl⟩, xMnv.up (S := [85, 82]) hI1576 ((xFr.of (S := [85, 82]) hb1639 (by decide)).tr (xFr.of (S := [85, 82]) hb1642 (by decide))) (List.forall_mem_cons.mpr ⟨(show cpI 7 52 4294967295 (wget w1640 85) from ⟨_, (hr1638.but hb1642 (by decide)), xrb (by omega) (hb38)⟩), List.forall_mem_cons.mpr ⟨(show cp82 (wget w1640 82) from ⟨f82_1593, f82_1595, f82_1597, f82_1599, f82_1601, f82_1603, f82_1605, f82_1607, f82_1609, f82_1611 + 1, f82_1613, f82_1614, f82_1615, f82_1617, f82_1619, f82_1621, hk1641, hb1594, hb1596, hb1598, hb1600, hb1602, hb1604, hb1606, hb1608, hb1610, by omega, hb1616, hb1618, hb1620, hb1622, by omega⟩), fun _ h => absurd h List.not_mem_nil⟩⟩), ((((((((((hF846.up (by decide)).tr (hF855.up (by decide))).tr (hF903.up (by decide))).tr (hF948.up (by decide))).tr (hF1304.up (by decide))).tr (hF1315.up (by decide))).tr (hF1328.up (by decide))).tr (hF1376.up (by decide))).tr (hF1577.up (by decide))).tr ((xFr.of (S := [82, 83, 85, 86, 87]) hb1639 (by decide)).tr (xFr.of (S := [82, 83, 85, 86, 87]) hb1642 (by decide)))), ⟨fun h => by have := pq1651.1 h; omega, (show fld w1640 82 10 = 0 ∨ FA w1640 ≠ 0 by omega), Or.inr ⟨by have := ms1592; omega, by omega, hM1654⟩, hD1664⟩⟩
end XMB
