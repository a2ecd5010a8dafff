/-! the model: lines of films, more -/
section XMB
variable {d : Nat} {w : List (List xE)} {bd : List (Nat × Nat)} {fc : List (Nat × Nat × Bool)} {rr : Nat × Nat}
set_option maxHeartbeats 60000000 in
theorem mALineS5 {at_ : Nat} (hI : xMnv w) (hps : PS w) (hmb : ∀ s, s < 7 → rwv w 85 s ≤ 1000) (hln : fld w 82 14 ≤ 1000) (h7 : fld w 82 7 = 3) (hat : at_ ≤ 4294967295) : xTo (d + 7) mX12_aLine (43, [], [(2, (0, at_)), (1, (0, 5)), (0, (2, 82))], [], (w, bd, fc, 0, 0, rr)) (fun φ => ∃ w', xEnd 0 [] (w', bd, fc, 0, 0, rr) φ ∧ xMnv w' ∧ xFr [82, 83, 85, 86, 87] w w' ∧ ((FA w ≠ 0 → FA w' ≠ 0) ∧ PS w' ∧ ((fld w' 82 10 = 1 ∧ mu w' = mu w ∧ fld w' 82 14 = fld w 82 14 ∧ ∀ s, s < 7 → rwv w' 85 s = rwv w 85 s) ∨ (mu w' < mu w ∧ fld w' 82 14 = fld w 82 14 + 1 ∧ ∀ s, s < 7 → rwv w' 85 s ≤ rwv w 85 s + 1)) ∧ (FA w' ≠ 0 ∨ (DATA w → DATA w')))) := by
  obtain ⟨f82_1, f82_3, f82_5, f82_7, f82_9, f82_11, f82_13, f82_15, f82_17, f82_19, f82_21, f82_22, f82_23, f82_25, f82_27, f82_29, h82_31, hb2, hb4, hb6, hb8, hb10, hb12, hb14, hb16, hb18, hb20, hb24, hb26, hb28, hb30, hb32⟩ := (hI 82 (by decide) (by decide) : cp82 (wget w 82))
  have hf33 : fld w 82 7 = f82_11 := fld_of h82_31
  have hf34 : fld w 82 10 = f82_17 := fld_of h82_31
  have hf35 : fld w 82 14 = f82_19 := fld_of h82_31
  have hps_ : fld w 82 10 = 0 ∨ FA w ≠ 0 := hps
  obtain ⟨g85_36, h85_37, hb38⟩ := (hI 85 (by decide) (by decide) : cpI 7 52 4294967295 (wget w 85))
  have h85_37 : xRow w 85 7 52 g85_36 := h85_37
  obtain ⟨g86_39, h86_40, hb41⟩ := (hI 86 (by decide) (by decide) : cpI 140 53 4294967295 (wget w 86))
  have h86_40 : xRow w 86 140 53 g86_39 := h86_40
  obtain ⟨g87_42, h87_43, hb44⟩ := (hI 87 (by decide) (by decide) : cpI 20 54 4294967295 (wget w 87))
  have h87_43 : xRow w 87 20 54 g87_42 := h87_43
  refine xg_t (xg_blk (b := [(43, 1, 0, 0, 0, 0), (44, 3, 1, 12, 11, 17), (47, 1, 2, 1, 0, 0), (48, 1, 10, 0, 0, 0), (49, 1, 15, 3, 0, 0), (50, 1, 2, 3, 0, 0), (51, 1, 2, 1, 0, 0), (52, 3, 13, 194, 98, 193), (55, 3, 6, 64, 2, 0), (58, 1, 0, 0, 0, 0), (59, 1, 3, 3, 0, 0), (60, 1, 2, 2, 0, 0), (61, 3, 13, 115, 96, 186)]) rfl) ?_
  refine xg_t (xg_aload (va := (2, 82)) rfl rfl) ?_
  refine xg_t (xg_getf (va := (2, 85)) h82_31 rfl) ?_
  refine xg_t (xg_iload (va := (0, 5)) rfl rfl) ?_
  refine xg_ialdB (n := 5) (B := 4294967295) h85_37 (hb38) xnm0 (by omega) (fun u45 hu46 he47 => ?_)
  have hK48 : rwv w 85 5 = u45 := (rwv_of h85_37 (by decide)).trans he47
  have hm49 := hmb 5 (by decide)
  have hl50 : u45 ≤ 1000 := by omega
  refine xg_t (xg_istore (l1 := [(2, (0, at_)), (1, (0, 5)), (0, (2, 82))]) rfl rfl rfl) ?_
  refine xg_t (xg_iload (va := (0, u45)) rfl rfl) ?_
  refine xg_t (xg_iload (va := (0, 5)) rfl rfl) ?_
  refine xg_t (xg_cSr mX12_mostOf (vs := [(0, 5)]) (rest := [(0, u45)]) (rs := [(0, 1), (0, u45)]) (cn1 := 0) (sl1 := 0) rfl (mMostR5) rfl rfl rfl rfl rfl rfl rfl rfl) ?_
  by_cases hc51 : u45 < 1
  · refine xg_t (xg_icT (u := u45) (v := 1) rfl xnm0 xnm0 (xj_ltT hc51 (by omega))) ?_
    refine xg_t (xg_blk (b := [(64, 1, 0, 0, 0, 0), (65, 3, 13, 110, 96, 190), (68, 1, 2, 1, 0, 0), (69, 39, 33, 362, 0, 9)]) rfl) ?_
    refine xg_t (xg_aload (va := (2, 82)) rfl rfl) ?_
    refine xg_cVv mX12_advance (vs := []) (rest := []) (cn1 := 0) (sl1 := 0) rfl (mAdvance (hI)) rfl h82_31 rfl rfl rfl rfl rfl rfl (fun w52 hq53 => ?_)
    obtain ⟨hI54, hF55, hx56⟩ := hq53
    clear hb2 hb4 hb6 hb8 hb10 hb12 hb14 hb16 hb18 hb20 hb24 hb26 hb28 hb30
    obtain ⟨hv57, hv58, hv59, hv60⟩ := hx56
    have hf62 := FA_fr hF55 (by decide)
    have hs63 := (PK.rf hps).2.2.2
    unfold PS at hs63
    have pk61 : PK w w52 := ⟨fun _ => by omega, hv57, hv60, (show fld w52 82 10 = 0 ∨ FA w52 ≠ 0 by omega)⟩
    clear hs63
    have pk64 : PK w w52 := PK.tr (PK.rf hps) pk61
    have os65 : ∀ j, (j < 7 ∨ 9 ≤ j) → j < 140 → rwv w52 86 j = rwv w 86 j := fun j hj hl => (rwv_fr hF55 (by decide)).trans ((fun j _ _ => rfl) j hj hl)
    have ms66 : mu w52 < mu w := Nat.lt_of_lt_of_le (hv58 (by omega)) (PK.rf hps).2.1
    clear hv58
    have jn67 : ∀ (w68 : List (List xE)), xMnv w68 → xFr [82, 83, 85, 86, 87] w w68 → (PK w w68 ∧ (∀ j, (j < 7 ∨ 9 ≤ j) → j < 140 → rwv w68 86 j = rwv w 86 j) ∧ mu w68 < mu w ∧ (FA w68 ≠ 0 ∨ u45 < 1) ∧ (FA w68 ≠ 0 ∨ 1 ≤ u45 ∨ (1 ≤ rwv w68 86 7 ∧ rwv w68 86 7 ≤ 10 ∧ 1 ≤ rwv w68 86 8 ∧ rwv w68 86 8 ≤ 10))) → xTo (d + 7) mX12_aLine (394, [], [(0, (2, 82)), (1, (0, 5)), (3, (0, u45))], [], (w68, bd, fc, 0, 0, rr)) (fun φ => ∃ w', xEnd 0 [] (w', bd, fc, 0, 0, rr) φ ∧ xMnv w' ∧ xFr [82, 83, 85, 86, 87] w w' ∧ ((FA w ≠ 0 → FA w' ≠ 0) ∧ PS w' ∧ ((fld w' 82 10 = 1 ∧ mu w' = mu w ∧ fld w' 82 14 = fld w 82 14 ∧ ∀ s, s < 7 → rwv w' 85 s = rwv w 85 s) ∨ (mu w' < mu w ∧ fld w' 82 14 = fld w 82 14 + 1 ∧ ∀ s, s < 7 → rwv w' 85 s ≤ rwv w 85 s + 1)) ∧ (FA w' ≠ 0 ∨ (DATA w → DATA w')))) := by
      intro w68 hI69 hF70 he71
      obtain ⟨hj72, hj73, hj74, hj75, hj76⟩ := he71
      refine xg_t (xg_blk (b := [(394, 1, 0, 0, 0, 0), (395, 3, 1, 12, 10, 180), (398, 3, 7, 416, 1, 0), (401, 1, 0, 0, 0, 0), (402, 3, 1, 12, 7, 151), (405, 1, 3, 2, 0, 0), (406, 3, 6, 416, 1, 0), (409, 1, 0, 0, 0, 0), (410, 3, 13, 110, 96, 190), (413, 3, 8, 420, 0, 0)]) rfl) ?_
      refine xg_t (xg_aload (va := (2, 82)) rfl rfl) ?_
      obtain ⟨f82_77, f82_79, f82_81, f82_83, f82_85, f82_87, f82_89, f82_91, f82_93, f82_95, f82_97, f82_98, f82_99, f82_101, f82_103, f82_105, h82_107, hb78, hb80, hb82, hb84, hb86, hb88, hb90, hb92, hb94, hb96, hb100, hb102, hb104, hb106, hb108⟩ := (hI69 82 (by decide) (by decide) : cp82 (wget w68 82))
      refine xg_t (xg_getf (va := (0, f82_93)) h82_107 rfl) ?_
      by_cases hc109 : f82_93 = 0
      · refine xg_t (xg_ifF (u := f82_93) rfl xnm0 (xj_neF hc109)) ?_
        refine xg_t (xg_aload (va := (2, 82)) rfl rfl) ?_
        refine xg_t (xg_getf (va := (0, f82_87)) h82_107 rfl) ?_
        refine xg_t (xg_const) ?_
        by_cases hc110 : f82_87 = 2
        · refine xg_t (xg_icF (u := f82_87) (v := 2) rfl xnm0 xnm0 (xj_neF hc110)) ?_
          refine xg_t (xg_aload (va := (2, 82)) rfl rfl) ?_
          refine xg_cVv mX12_advance (vs := []) (rest := []) (cn1 := 0) (sl1 := 0) rfl (mAdvance (hI69)) rfl h82_107 rfl rfl rfl rfl rfl rfl (fun w111 hq112 => ?_)
          obtain ⟨hI113, hF114, hx115⟩ := hq112
          clear hb78 hb80 hb82 hb84 hb86 hb88 hb90 hb92 hb94 hb96 hb100 hb102 hb104 hb106
          obtain ⟨hv116, hv117, hv118, hv119⟩ := hx115
          have hf121 := FA_fr hF114 (by decide)
          have hs122 := hj72.2.2.2
          unfold PS at hs122
          have pk120 : PK w68 w111 := ⟨fun _ => by omega, hv116, hv119, (show fld w111 82 10 = 0 ∨ FA w111 ≠ 0 by omega)⟩
          clear hs122
          clear hv117
          have pk123 : PK w w111 := PK.tr hj72 pk120
          have os124 : ∀ j, (j < 7 ∨ 9 ≤ j) → j < 140 → rwv w111 86 j = rwv w 86 j := fun j hj hl => (rwv_fr hF114 (by decide)).trans (hj73 j hj hl)
          have rg125 : FA w111 ≠ 0 ∨ u45 < 1 := hj75.imp_left pk120.1
          have hl126 : rwv w111 86 (7) = rwv w68 86 (7) := rwv_fr hF114 (by decide)
          have hl127 : rwv w111 86 (8) = rwv w68 86 (8) := rwv_fr hF114 (by decide)
          have nw128 : FA w111 ≠ 0 ∨ 1 ≤ u45 ∨ (1 ≤ rwv w111 86 7 ∧ rwv w111 86 7 ≤ 10 ∧ 1 ≤ rwv w111 86 8 ∧ rwv w111 86 8 ≤ 10) := by have q := hj76; have q1 := pk120.1; omega
          clear hj76
          have ms129 : mu w111 < mu w := Nat.lt_of_le_of_lt pk120.2.1 hj74
          clear hj75
          refine xg_t (xg_goto) ?_
          refine xg_t (xg_blk (b := [(420, 1, 0, 0, 0, 0), (421, 3, 1, 12, 11, 17), (424, 1, 2, 1, 0, 0), (425, 1, 39, 0, 0, 0), (426, 1, 10, 0, 0, 0), (427, 1, 3, 1, 0, 0), (428, 1, 11, 0, 0, 0), (429, 1, 17, 0, 0, 0), (430, 1, 0, 0, 0, 0), (431, 1, 19, 0, 0, 0), (432, 3, 1, 12, 14, 212), (435, 1, 3, 1, 0, 0), (436, 1, 11, 0, 0, 0), (437, 3, 14, 12, 14, 212), (440, 1, 12, 0, 0, 0)]) rfl) ?_
          obtain ⟨f82_130, f82_132, f82_134, f82_136, f82_138, f82_140, f82_142, f82_144, f82_146, f82_148, f82_150, f82_151, f82_152, f82_154, f82_156, f82_158, h82_160, hb131, hb133, hb135, hb137, hb139, hb141, hb143, hb145, hb147, hb149, hb153, hb155, hb157, hb159, hb161⟩ := (hI113 82 (by decide) (by decide) : cp82 (wget w111 82))
          have hf162 : fld w111 82 4 = f82_134 := fld_of h82_160
          have hf163 : fld w111 82 5 = f82_136 := fld_of h82_160
          have hf164 : fld w111 82 7 = f82_140 := fld_of h82_160
          have hf165 : fld w111 82 10 = f82_146 := fld_of h82_160
          have hf166 : fld w111 82 14 = f82_148 := fld_of h82_160
          have hu167 : mu w111 = 2 * (fld w111 82 4 - fld w111 82 5) + min 1 (fld w111 82 7) := rfl
          have hf168 := pk123.2.2.1
          have hl169 : f82_148 ≤ 1000 := by omega
          refine xg_t (xg_aload (va := (2, 82)) rfl rfl) ?_
          refine xg_t (xg_getf (va := (2, 85)) h82_160 rfl) ?_
          refine xg_t (xg_iload (va := (0, 5)) rfl rfl) ?_
          refine xg_t (xg_dup2 rfl) ?_
          obtain ⟨g85_170, h85_171, hb172⟩ := (hI113 85 (by decide) (by decide) : cpI 7 52 4294967295 (wget w111 85))
          have h85_171 : xRow w111 85 7 52 g85_170 := h85_171
          refine xg_ialdB (n := 5) (B := 4294967295) h85_171 (hb172) xnm0 (by omega) (fun u173 hu174 he175 => ?_)
          have hl176 : u173 = u45 := by omega
          refine xg_t (xg_const) ?_
          refine xg_t (xg_iadd (u := u173) (v := 1) (z := u173 + 1) xnm0 xnm0 (by omega)) ?_
          refine xg_iastK (n := 5) (u := u173 + 1) h85_171 xnm0 xnm0 rfl (by omega) (fun w177 hr178 hb179 => ?_)
          refine xg_t (xg_aload (va := (2, 82)) rfl rfl) ?_
          refine xg_t (xg_dup rfl) ?_
          refine xg_t (xg_getf (va := (0, f82_148)) (hb179.get (by decide) h82_160) rfl) ?_
          refine xg_t (xg_const) ?_
          refine xg_t (xg_iadd (u := f82_148) (v := 1) (z := f82_148 + 1) xnm0 xnm0 (by omega)) ?_
          refine xg_putI (fl1 := [(2, 83), (2, 84), (0, f82_130), (0, f82_132), (0, f82_134), (0, f82_136), (0, f82_138), (0, f82_140), (0, f82_142), (0, f82_144), (0, f82_146), (2, 85), (2, 86), (2, 87), (0, f82_148 + 1), (2, 88), (2, 89), (2, 90), (2, 91), (2, 92), (2, 93), (2, 94), (4, f82_150), (4, f82_151), (0, f82_152), (2, 95), (2, 96), (2, 97), (2, 98), (2, 99), (2, 100), (2, 101), (2, 102), (0, f82_154), (2, 103), (2, 104), (2, 105), (2, 106), (2, 107), (2, 108), (2, 109), (0, f82_156), (0, f82_158), (2, 110), (2, 111), (2, 112), (2, 113)]) (hb179.get (by decide) h82_160) rfl rfl rfl (fun w180 hk181 hb182 => ?_)
          have hF183 : xFr [82, 85] w111 w180 := ((xFr.of (S := [82, 85]) hb179 (by decide)).tr (xFr.of (S := [82, 85]) hb182 (by decide)))
          have hA184 := FA_fr hF183 (by decide)
          have hf185 : fld w180 82 4 = f82_134 := fld_of hk181
          have hf186 : fld w180 82 5 = f82_136 := fld_of hk181
          have hf187 : fld w180 82 7 = f82_140 := fld_of hk181
          have hf188 : fld w180 82 10 = f82_146 := fld_of hk181
          have hf189 : fld w180 82 14 = f82_148 + 1 := fld_of hk181
          have hu190 : mu w180 = 2 * (fld w180 82 4 - fld w180 82 5) + min 1 (fld w180 82 7) := rfl
          have pq191 := pk123
          unfold PK PS at pq191
          have hM192 : ∀ s, s < 7 → s ≠ 5 → rwv w180 85 s = rwv w 85 s := fun s hs hn => (rwv_of (hr178.but hb182 (by decide)) hs).trans ((if_neg hn).trans (rwv_of h85_37 hs).symm)
          have hM193 : rwv w180 85 5 = u45 + 1 := (rwv_of (hr178.but hb182 (by decide)) (by decide)).trans ((if_pos rfl).trans (by omega))
          have hM194 : ∀ s, s < 7 → rwv w180 85 s ≤ rwv w 85 s + 1 := fun s hs => by
            by_cases z : s = 5
            · subst z; omega
            · rw [hM192 s hs z]; omega
          have hO195 : ∀ j, (j < 7 ∨ 9 ≤ j) → j < 140 → rwv w180 86 j = rwv w 86 j := fun j hj hl => (rwv_fr hF183 (by decide)).trans (os124 j hj hl)
          have hl197 : FA w111 ≠ 0 ∨ u45 < 1 := rg125
          have hl198 : rwv w180 86 (7) = rwv w111 86 (7) := rwv_fr hF183 (by decide)
          have hl199 : rwv w180 86 (8) = rwv w111 86 (8) := rwv_fr hF183 (by decide)
          have hN196 : FA w180 ≠ 0 ∨ 1 ≤ u45 ∨ (1 ≤ rwv w180 86 7 ∧ rwv w180 86 7 ≤ 10 ∧ 1 ≤ rwv w180 86 8 ∧ rwv w180 86 8 ≤ 10) := by have q := nw128; omega
          have hX200 : FA w180 ≠ 0 ∨ u45 < 1 := by omega
          have hD201 : FA w180 ≠ 0 ∨ (DATA w → DATA w180) := by
            by_cases z : FA w180 ≠ 0
            · exact Or.inl z
            · exact Or.inr (fun hd => hd.s5 hM192 hK48 hM193 (hX200.resolve_left z) hO195 ((hN196.resolve_left z).resolve_left (by have := hX200.resolve_left z; omega)))
          exact xg_e ⟨w180, ⟨rfl, rfl⟩, xMnv.up (S := [85, 82]) hI113 ((xFr.of (S := [85, 82]) hb179 (by decide)).tr (xFr.of (S := [85, 82]) hb182 (by decide))) (List.forall_mem_cons.mpr ⟨(show cpI 7 52 4294967295 (wget w180 85) from ⟨_, (hr178.but hb182 (by decide)), xrb (by omega) (hb172)⟩), List.forall_mem_cons.mpr ⟨(show cp82 (wget w180 82) from ⟨f82_130, f82_132, f82_134, f82_136, f82_138, f82_140, f82_142, f82_144, f82_146, f82_148 + 1, f82_150, f82_151, f82_152, f82_154, f82_156, f82_158, hk181, hb131, hb133, hb135, hb137, hb139, hb141, hb143, hb145, hb147, by omega, hb153, hb155, hb157, hb159, by omega⟩), fun _ h => absurd h List.not_mem_nil⟩⟩), ((hF70.tr (hF114.up (by decide))).tr ((xFr.of (S := [82, 83, 85, 86, 87]) hb179 (by decide)).tr (xFr.of (S := [82, 83, 85, 86, 87]) hb182 (by decide)))), ⟨fun h => by have := pq191.1 h; omega, (show fld w180 82 10 = 0 ∨ FA w180 ≠ 0 by omega), Or.inr ⟨by have := ms129; omega, by omega, hM194⟩, hD201⟩⟩
        · refine xg_t (xg_icT (u := f82_87) (v := 2) rfl xnm0 xnm0 (xj_neT hc110)) ?_
          refine xg_t (xg_blk (b := [(416, 1, 0, 0, 0, 0), (417, 3, 13, 140, 96, 183)]) rfl) ?_
          refine xg_t (xg_aload (va := (2, 82)) rfl rfl) ?_
          refine xg_cVv mX12_ends (vs := []) (rest := []) (cn1 := 0) (sl1 := 0) rfl (mEnds (hI69) hj72.2.2.2) rfl h82_107 rfl rfl rfl rfl rfl rfl (fun w202 hq203 => ?_)
          obtain ⟨hI204, hF205, hx206⟩ := hq203
          clear hb78 hb80 hb82 hb84 hb86 hb88 hb90 hb92 hb94 hb96 hb100 hb102 hb104 hb106
          obtain ⟨hv207, hv208, hv209, hv210⟩ := hx206
          have pk211 : PK w68 w202 := ⟨fun _ => hv207, by omega, by omega, Or.inr hv207⟩
          have pk212 : PK w w202 := PK.tr hj72 pk211
          have os213 : ∀ j, (j < 7 ∨ 9 ≤ j) → j < 140 → rwv w202 86 j = rwv w 86 j := fun j hj hl => (rwv_fr hF205 (by decide)).trans (hj73 j hj hl)
          have rg214 : FA w202 ≠ 0 ∨ u45 < 1 := hj75.imp_left pk211.1
          have hl215 : rwv w202 86 (7) = rwv w68 86 (7) := rwv_fr hF205 (by decide)
          have hl216 : rwv w202 86 (8) = rwv w68 86 (8) := rwv_fr hF205 (by decide)
          have nw217 : FA w202 ≠ 0 ∨ 1 ≤ u45 ∨ (1 ≤ rwv w202 86 7 ∧ rwv w202 86 7 ≤ 10 ∧ 1 ≤ rwv w202 86 8 ∧ rwv w202 86 8 ≤ 10) := by have q := hj76; have q1 := pk211.1; omega
          clear hj76
          have ms218 : mu w202 < mu w := Nat.lt_of_le_of_lt pk211.2.1 hj74
          clear hj75
          refine xg_t (xg_blk (b := [(420, 1, 0, 0, 0, 0), (421, 3, 1, 12, 11, 17), (424, 1, 2, 1, 0, 0), (425, 1, 39, 0, 0, 0), (426, 1, 10, 0, 0, 0), (427, 1, 3, 1, 0, 0), (428, 1, 11, 0, 0, 0), (429, 1, 17, 0, 0, 0), (430, 1, 0, 0, 0, 0), (431, 1, 19, 0, 0, 0), (432, 3, 1, 12, 14, 212), (435, 1, 3, 1, 0, 0), (436, 1, 11, 0, 0, 0), (437, 3, 14, 12, 14, 212), (440, 1, 12, 0, 0, 0)]) rfl) ?_
          obtain ⟨f82_219, f82_221, f82_223, f82_225, f82_227, f82_229, f82_231, f82_233, f82_235, f82_237, f82_239, f82_240, f82_241, f82_243, f82_245, f82_247, h82_249, hb220, hb222, hb224, hb226, hb228, hb230, hb232, hb234, hb236, hb238, hb242, hb244, hb246, hb248, hb250⟩ := (hI204 82 (by decide) (by decide) : cp82 (wget w202 82))
          have hf251 : fld w202 82 4 = f82_223 := fld_of h82_249
          have hf252 : fld w202 82 5 = f82_225 := fld_of h82_249
          have hf253 : fld w202 82 7 = f82_229 := fld_of h82_249
          have hf254 : fld w202 82 10 = f82_235 := fld_of h82_249
          have hf255 : fld w202 82 14 = f82_237 := fld_of h82_249
          have hu256 : mu w202 = 2 * (fld w202 82 4 - fld w202 82 5) + min 1 (fld w202 82 7) := rfl
          have hf257 := pk212.2.2.1
          have hl258 : f82_237 ≤ 1000 := by omega
          refine xg_t (xg_aload (va := (2, 82)) rfl rfl) ?_
          refine xg_t (xg_getf (va := (2, 85)) h82_249 rfl) ?_
          refine xg_t (xg_iload (va := (0, 5)) rfl rfl) ?_
          refine xg_t (xg_dup2 rfl) ?_
          obtain ⟨g85_259, h85_260, hb261⟩ := (hI204 85 (by decide) (by decide) : cpI 7 52 4294967295 (wget w202 85))
          have h85_260 : xRow w202 85 7 52 g85_259 := h85_260
          refine xg_ialdB (n := 5) (B := 4294967295) h85_260 (hb261) xnm0 (by omega) (fun u262 hu263 he264 => ?_)
          have hl265 : u262 = u45 := by omega
          refine xg_t (xg_const) ?_
          refine xg_t (xg_iadd (u := u262) (v := 1) (z := u262 + 1) xnm0 xnm0 (by omega)) ?_
          refine xg_iastK (n := 5) (u := u262 + 1) h85_260 xnm0 xnm0 rfl (by omega) (fun w266 hr267 hb268 => ?_)
          refine xg_t (xg_aload (va := (2, 82)) rfl rfl) ?_
          refine xg_t (xg_dup rfl) ?_
          refine xg_t (xg_getf (va := (0, f82_237)) (hb268.get (by decide) h82_249) rfl) ?_
          refine xg_t (xg_const) ?_
          refine xg_t (xg_iadd (u := f82_237) (v := 1) (z := f82_237 + 1) xnm0 xnm0 (by omega)) ?_
          refine xg_putI (fl1 := [(2, 83), (2, 84), (0, f82_219), (0, f82_221), (0, f82_223), (0, f82_225), (0, f82_227), (0, f82_229), (0, f82_231), (0, f82_233), (0, f82_235), (2, 85), (2, 86), (2, 87), (0, f82_237 + 1), (2, 88), (2, 89), (2, 90), (2, 91), (2, 92), (2, 93), (2, 94), (4, f82_239), (4, f82_240), (0, f82_241), (2, 95), (2, 96), (2, 97), (2, 98), (2, 99), (2, 100), (2, 101), (2, 102), (0, f82_243), (2, 103), (2, 104), (2, 105), (2, 106), (2, 107), (2, 108), (2, 109), (0, f82_245), (0, f82_247), (2, 110), (2, 111), (2, 112), (2, 113)]) (hb268.get (by decide) h82_249) rfl rfl rfl (fun w269 hk270 hb271 => ?_)
          have hF272 : xFr [82, 85] w202 w269 := ((xFr.of (S := [82, 85]) hb268 (by decide)).tr (xFr.of (S := [82, 85]) hb271 (by decide)))
          have hA273 := FA_fr hF272 (by decide)
          have hf274 : fld w269 82 4 = f82_223 := fld_of hk270
          have hf275 : fld w269 82 5 = f82_225 := fld_of hk270
          have hf276 : fld w269 82 7 = f82_229 := fld_of hk270
          have hf277 : fld w269 82 10 = f82_235 := fld_of hk270
          have hf278 : fld w269 82 14 = f82_237 + 1 := fld_of hk270
          have hu279 : mu w269 = 2 * (fld w269 82 4 - fld w269 82 5) + min 1 (fld w269 82 7) := rfl
          have pq280 := pk212
          unfold PK PS at pq280
          have hM281 : ∀ s, s < 7 → s ≠ 5 → rwv w269 85 s = rwv w 85 s := fun s hs hn => (rwv_of (hr267.but hb271 (by decide)) hs).trans ((if_neg hn).trans (rwv_of h85_37 hs).symm)
          have hM282 : rwv w269 85 5 = u45 + 1 := (rwv_of (hr267.but hb271 (by decide)) (by decide)).trans ((if_pos rfl).trans (by omega))
          have hM283 : ∀ s, s < 7 → rwv w269 85 s ≤ rwv w 85 s + 1 := fun s hs => by
            by_cases z : s = 5
            · subst z; omega
            · rw [hM281 s hs z]; omega
          have hO284 : ∀ j, (j < 7 ∨ 9 ≤ j) → j < 140 → rwv w269 86 j = rwv w 86 j := fun j hj hl => (rwv_fr hF272 (by decide)).trans (os213 j hj hl)
          have hl286 : FA w202 ≠ 0 ∨ u45 < 1 := rg214
          have hl287 : rwv w269 86 (7) = rwv w202 86 (7) := rwv_fr hF272 (by decide)
          have hl288 : rwv w269 86 (8) = rwv w202 86 (8) := rwv_fr hF272 (by decide)
          have hN285 : FA w269 ≠ 0 ∨ 1 ≤ u45 ∨ (1 ≤ rwv w269 86 7 ∧ rwv w269 86 7 ≤ 10 ∧ 1 ≤ rwv w269 86 8 ∧ rwv w269 86 8 ≤ 10) := by have q := nw217; omega
          have hX289 : FA w269 ≠ 0 ∨ u45 < 1 := by omega
          have hD290 : FA w269 ≠ 0 ∨ (DATA w → DATA w269) := by
            by_cases z : FA w269 ≠ 0
            · exact Or.inl z
            · exact Or.inr (fun hd => hd.s5 hM281 hK48 hM282 (hX289.resolve_left z) hO284 ((hN285.resolve_left z).resolve_left (by have := hX289.resolve_left z; omega)))
          exact xg_e ⟨w269, ⟨rfl, rfl⟩, xMnv.up (S := [85, 82]) hI204 ((xFr.of (S := [85, 82]) hb268 (by decide)).tr (xFr.of (S := [85, 82]) hb271 (by decide))) (List.forall_mem_cons.mpr ⟨(show cpI 7 52 4294967295 (wget w269 85) from ⟨_, (hr267.but hb271 (by decide)), xrb (by omega) (hb261)⟩), List.forall_mem_cons.mpr ⟨(show cp82 (wget w269 82) from ⟨f82_219, f82_221, f82_223, f82_225, f82_227, f82_229, f82_231, f82_233, f82_235, f82_237 + 1, f82_239, f82_240, f82_241, f82_243, f82_245, f82_247, hk270, hb220, hb222, hb224, hb226, hb228, hb230, hb232, hb234, hb236, by omega, hb242, hb244, hb246, hb248, by omega⟩), fun _ h => absurd h List.not_mem_nil⟩⟩), ((hF70.tr (hF205.up (by decide))).tr ((xFr.of (S := [82, 83, 85, 86, 87]) hb268 (by decide)).tr (xFr.of (S := [82, 83, 85, 86, 87]) hb271 (by decide)))), ⟨fun h => by have := pq280.1 h; omega, (show fld w269 82 10 = 0 ∨ FA w269 ≠ 0 by omega), Or.inr ⟨by have := ms218; omega, by omega, hM283⟩, hD290⟩⟩
      · refine xg_t (xg_ifT (u := f82_93) rfl xnm0 (xj_neT hc109)) ?_
        refine xg_t (xg_blk (b := [(416, 1, 0, 0, 0, 0), (417, 3, 13, 140, 96, 183)]) rfl) ?_
        refine xg_t (xg_aload (va := (2, 82)) rfl rfl) ?_
        refine xg_cVv mX12_ends (vs := []) (rest := []) (cn1 := 0) (sl1 := 0) rfl (mEnds (hI69) hj72.2.2.2) rfl h82_107 rfl rfl rfl rfl rfl rfl (fun w291 hq292 => ?_)
        obtain ⟨hI293, hF294, hx295⟩ := hq292
        clear hb78 hb80 hb82 hb84 hb86 hb88 hb90 hb92 hb94 hb96 hb100 hb102 hb104 hb106
        obtain ⟨hv296, hv297, hv298, hv299⟩ := hx295
        have pk300 : PK w68 w291 := ⟨fun _ => hv296, by omega, by omega, Or.inr hv296⟩
        have pk301 : PK w w291 := PK.tr hj72 pk300
        have os302 : ∀ j, (j < 7 ∨ 9 ≤ j) → j < 140 → rwv w291 86 j = rwv w 86 j := fun j hj hl => (rwv_fr hF294 (by decide)).trans (hj73 j hj hl)
        have rg303 : FA w291 ≠ 0 ∨ u45 < 1 := hj75.imp_left pk300.1
        have hl304 : rwv w291 86 (7) = rwv w68 86 (7) := rwv_fr hF294 (by decide)
        have hl305 : rwv w291 86 (8) = rwv w68 86 (8) := rwv_fr hF294 (by decide)
        have nw306 : FA w291 ≠ 0 ∨ 1 ≤ u45 ∨ (1 ≤ rwv w291 86 7 ∧ rwv w291 86 7 ≤ 10 ∧ 1 ≤ rwv w291 86 8 ∧ rwv w291 86 8 ≤ 10) := by have q := hj76; have q1 := pk300.1; omega
        clear hj76
        have ms307 : mu w291 < mu w := Nat.lt_of_le_of_lt pk300.2.1 hj74
        clear hj75
        refine xg_t (xg_blk (b := [(420, 1, 0, 0, 0, 0), (421, 3, 1, 12, 11, 17), (424, 1, 2, 1, 0, 0), (425, 1, 39, 0, 0, 0), (426, 1, 10, 0, 0, 0), (427, 1, 3, 1, 0, 0), (428, 1, 11, 0, 0, 0), (429, 1, 17, 0, 0, 0), (430, 1, 0, 0, 0, 0), (431, 1, 19, 0, 0, 0), (432, 3, 1, 12, 14, 212), (435, 1, 3, 1, 0, 0), (436, 1, 11, 0, 0, 0), (437, 3, 14, 12, 14, 212), (440, 1, 12, 0, 0, 0)]) rfl) ?_
        obtain ⟨f82_308, f82_310, f82_312, f82_314, f82_316, f82_318, f82_320, f82_322, f82_324, f82_326, f82_328, f82_329, f82_330, f82_332, f82_334, f82_336, h82_338, hb309, hb311, hb313, hb315, hb317, hb319, hb321, hb323, hb325, hb327, hb331, hb333, hb335, hb337, hb339⟩ := (hI293 82 (by decide) (by decide) : cp82 (wget w291 82))
        have hf340 : fld w291 82 4 = f82_312 := fld_of h82_338
        have hf341 : fld w291 82 5 = f82_314 := fld_of h82_338
        have hf342 : fld w291 82 7 = f82_318 := fld_of h82_338
        have hf343 : fld w291 82 10 = f82_324 := fld_of h82_338
        have hf344 : fld w291 82 14 = f82_326 := fld_of h82_338
        have hu345 : mu w291 = 2 * (fld w291 82 4 - fld w291 82 5) + min 1 (fld w291 82 7) := rfl
        have hf346 := pk301.2.2.1
        have hl347 : f82_326 ≤ 1000 := by omega
        refine xg_t (xg_aload (va := (2, 82)) rfl rfl) ?_
        refine xg_t (xg_getf (va := (2, 85)) h82_338 rfl) ?_
        refine xg_t (xg_iload (va := (0, 5)) rfl rfl) ?_
        refine xg_t (xg_dup2 rfl) ?_
        obtain ⟨g85_348, h85_349, hb350⟩ := (hI293 85 (by decide) (by decide) : cpI 7 52 4294967295 (wget w291 85))
        have h85_349 : xRow w291 85 7 52 g85_348 := h85_349
        refine xg_ialdB (n := 5) (B := 4294967295) h85_349 (hb350) xnm0 (by omega) (fun u351 hu352 he353 => ?_)
        have hl354 : u351 = u45 := by omega
        refine xg_t (xg_const) ?_
        refine xg_t (xg_iadd (u := u351) (v := 1) (z := u351 + 1) xnm0 xnm0 (by omega)) ?_
        refine xg_iastK (n := 5) (u := u351 + 1) h85_349 xnm0 xnm0 rfl (by omega) (fun w355 hr356 hb357 => ?_)
        refine xg_t (xg_aload (va := (2, 82)) rfl rfl) ?_
        refine xg_t (xg_dup rfl) ?_
        refine xg_t (xg_getf (va := (0, f82_326)) (hb357.get (by decide) h82_338) rfl) ?_
        refine xg_t (xg_const) ?_
        refine xg_t (xg_iadd (u := f82_326) (v := 1) (z := f82_326 + 1) xnm0 xnm0 (by omega)) ?_
        refine xg_putI (fl1 := [(2, 83), (2, 84), (0, f82_308), (0, f82_310), (0, f82_312), (0, f82_314), (0, f82_316), (0, f82_318), (0, f82_320), (0, f82_322), (0, f82_324), (2, 85), (2, 86), (2, 87), (0, f82_326 + 1), (2, 88), (2, 89), (2, 90), (2, 91), (2, 92), (2, 93), (2, 94), (4, f82_328), (4, f82_329), (0, f82_330), (2, 95), (2, 96), (2, 97), (2, 98), (2, 99), (2, 100), (2, 101), (2, 102), (0, f82_332), (2, 103), (2, 104), (2, 105), (2, 106), (2, 107), (2, 108), (2, 109), (0, f82_334), (0, f82_336), (2, 110), (2, 111), (2, 112), (2, 113)]) (hb357.get (by decide) h82_338) rfl rfl rfl (fun w358 hk359 hb360 => ?_)
        have hF361 : xFr [82, 85] w291 w358 := ((xFr.of (S := [82, 85]) hb357 (by decide)).tr (xFr.of (S := [82, 85]) hb360 (by decide)))
        have hA362 := FA_fr hF361 (by decide)
        have hf363 : fld w358 82 4 = f82_312 := fld_of hk359
        have hf364 : fld w358 82 5 = f82_314 := fld_of hk359
        have hf365 : fld w358 82 7 = f82_318 := fld_of hk359
        have hf366 : fld w358 82 10 = f82_324 := fld_of hk359
        have hf367 : fld w358 82 14 = f82_326 + 1 := fld_of hk359
        have hu368 : mu w358 = 2 * (fld w358 82 4 - fld w358 82 5) + min 1 (fld w358 82 7) := rfl
        have pq369 := pk301
        unfold PK PS at pq369
        have hM370 : ∀ s, s < 7 → s ≠ 5 → rwv w358 85 s = rwv w 85 s := fun s hs hn => (rwv_of (hr356.but hb360 (by decide)) hs).trans ((if_neg hn).trans (rwv_of h85_37 hs).symm)
        have hM371 : rwv w358 85 5 = u45 + 1 := (rwv_of (hr356.but hb360 (by decide)) (by decide)).trans ((if_pos rfl).trans (by omega))
        have hM372 : ∀ s, s < 7 → rwv w358 85 s ≤ rwv w 85 s + 1 := fun s hs => by
          by_cases z : s = 5
          · subst z; omega
          · rw [hM370 s hs z]; omega
        have hO373 : ∀ j, (j < 7 ∨ 9 ≤ j) → j < 140 → rwv w358 86 j = rwv w 86 j := fun j hj hl => (rwv_fr hF361 (by decide)).trans (os302 j hj hl)
        have hl375 : FA w291 ≠ 0 ∨ u45 < 1 := rg303
        have hl376 : rwv w358 86 (7) = rwv w291 86 (7) := rwv_fr hF361 (by decide)
        have hl377 : rwv w358 86 (8) = rwv w291 86 (8) := rwv_fr hF361 (by decide)
        have hN374 : FA w358 ≠ 0 ∨ 1 ≤ u45 ∨ (1 ≤ rwv w358 86 7 ∧ rwv w358 86 7 ≤ 10 ∧ 1 ≤ rwv w358 86 8 ∧ rwv w358 86 8 ≤ 10) := by have q := nw306; omega
        have hX378 : FA w358 ≠ 0 ∨ u45 < 1 := by omega
        have hD379 : FA w358 ≠ 0 ∨ (DATA w → DATA w358) := by
          by_cases z : FA w358 ≠ 0
          · exact Or.inl z
          · exact Or.inr (fun hd => hd.s5 hM370 hK48 hM371 (hX378.resolve_left z) hO373 ((hN374.resolve_left z).resolve_left (by have := hX378.resolve_left z; omega)))
        exact xg_e ⟨w358, ⟨rfl, rfl⟩, xMnv.up (S := [85, 82]) hI293 ((xFr.of (S := [85, 82]) hb357 (by decide)).tr (xFr.of (S := [85, 82]) hb360 (by decide))) (List.forall_mem_cons.mpr ⟨(show cpI 7 52 4294967295 (wget w358 85) from ⟨_, (hr356.but hb360 (by decide)), xrb (by omega) (hb350)⟩), List.forall_mem_cons.mpr ⟨(show cp82 (wget w358 82) from ⟨f82_308, f82_310, f82_312, f82_314, f82_316, f82_318, f82_320, f82_322, f82_324, f82_326 + 1, f82_328, f82_329, f82_330, f82_332, f82_334, f82_336, hk359, hb309, hb311, hb313, hb315, hb317, hb319, hb321, hb323, hb325, by omega, hb331, hb333, hb335, hb337, by omega⟩), fun _ h => absurd h List.not_mem_nil⟩⟩), ((hF70.tr (hF294.up (by decide))).tr ((xFr.of (S := [82, 83, 85, 86, 87]) hb357 (by decide)).tr (xFr.of (S := [82, 83, 85, 86, 87]) hb360 (by decide)))), ⟨fun h => by have := pq369.1 h; omega, (show fld w358 82 10 = 0 ∨ FA w358 ≠ 0 by omega), Or.inr ⟨by have := ms307; omega, by omega, hM372⟩, hD379⟩⟩
    refine xg_t (xg_iload (va := (0, 5)) rfl rfl) ?_
    refine xg_t (xg_swt (ks := [(0, 108), (1, 116), (2, 180), (3, 221), (4, 273), (5, 326)]) (u := 5) (z := 326) rfl rfl rfl xnm0 (xsw_n (by omega) (xsw_n (by omega) (xsw_n (by omega) (xsw_n (by omega) (xsw_n (by omega) (xsw_y rfl))))))) ?_
    refine xg_t (xg_blk (b := [(326, 1, 3, 0, 0, 0), (327, 2, 15, 4, 0, 0)]) rfl) ?_
    refine xg_t (xg_const) ?_
    refine xg_t (xg_istore (l1 := [(3, (0, u45)), (2, (0, at_)), (1, (0, 5)), (0, (2, 82))]) rfl rfl rfl) ?_
    refine xg_t (xg_blk (b := [(329, 2, 2, 4, 0, 0), (331, 1, 3, 2, 0, 0), (332, 3, 6, 359, 3, 0), (335, 1, 0, 0, 0, 0), (336, 1, 2, 1, 0, 0), (337, 1, 2, 3, 0, 0), (338, 2, 4, 7, 0, 0), (340, 2, 2, 4, 0, 0), (342, 1, 11, 0, 0, 0), (343, 1, 0, 0, 0, 0), (344, 1, 3, 1, 0, 0), (345, 2, 4, 10, 0, 0), (347, 3, 13, 199, 96, 196), (350, 3, 13, 211, 96, 200), (353, 3, 9, 4, 1, 0), (356, 3, 8, 329, 0, 0)]) rfl) ?_
    refine xg_t (xg_iload (va := (0, 0)) rfl rfl) ?_
    refine xg_t (xg_const) ?_
    refine xg_t (xg_icF (u := 0) (v := 2) rfl xnm0 xnm0 (by decide)) ?_
    refine xg_t (xg_aload (va := (2, 82)) rfl rfl) ?_
    refine xg_t (xg_iload (va := (0, 5)) rfl rfl) ?_
    refine xg_t (xg_iload (va := (0, u45)) rfl rfl) ?_
    refine xg_t (xg_bip) ?_
    refine xg_t (xg_iload (va := (0, 0)) rfl rfl) ?_
    refine xg_t (xg_iadd (u := 7) (v := 0) (z := 7) xnm0 xnm0 (by decide)) ?_
    refine xg_t (xg_aload (va := (2, 82)) rfl rfl) ?_
    refine xg_t (xg_const) ?_
    refine xg_t (xg_bip) ?_
    obtain ⟨f82_380, f82_382, f82_384, f82_386, f82_388, f82_390, f82_392, f82_394, f82_396, f82_398, f82_400, f82_401, f82_402, f82_404, f82_406, f82_408, h82_410, hb381, hb383, hb385, hb387, hb389, hb391, hb393, hb395, hb397, hb399, hb403, hb405, hb407, hb409, hb411⟩ := (hI54 82 (by decide) (by decide) : cp82 (wget w52 82))
    refine xg_cVi mX12_numbered (vs := [(0, 1), (0, 10)]) (rest := [(0, 7), (0, u45), (0, 5), (2, 82)]) (cn1 := 0) (sl1 := 0) rfl (mNumbered (hI54) (by omega) (by omega) pk64.2.2.2) rfl h82_410 rfl rfl rfl rfl rfl rfl (fun n416 w412 hq413 => ?_)
    obtain ⟨hn417, hI414, hF415⟩ := hq413
    clear hb381 hb383 hb385 hb387 hb389 hb391 hb393 hb395 hb397 hb399 hb403 hb405 hb407 hb409
    obtain ⟨hn418, hn419, hn420⟩ := hn417
    have pk421 : PK w w412 := PK.tr pk64 hn419
    have os422 : ∀ j, (j < 7 ∨ 9 ≤ j) → j < 140 → rwv w412 86 j = rwv w 86 j := fun j hj hl => (rwv_fr hF415 (by decide)).trans (os65 j hj hl)
    have ms423 : mu w412 < mu w := Nat.lt_of_le_of_lt hn419.2.1 ms66
    obtain ⟨f82_424, f82_426, f82_428, f82_430, f82_432, f82_434, f82_436, f82_438, f82_440, f82_442, f82_444, f82_445, f82_446, f82_448, f82_450, f82_452, h82_454, hb425, hb427, hb429, hb431, hb433, hb435, hb437, hb439, hb441, hb443, hb447, hb449, hb451, hb453, hb455⟩ := (hI414 82 (by decide) (by decide) : cp82 (wget w412 82))
    refine xg_cVv mX12_puts (vs := [(0, 5), (0, u45), (0, 7), (0, n416)]) (rest := []) (cn1 := 0) (sl1 := 0) rfl (mPuts5 (hI414) (by omega) (by omega) (by omega) (fun _ => by omega)) rfl h82_454 rfl rfl rfl rfl rfl rfl (fun w456 hq457 => ?_)
    obtain ⟨hI458, hF459, hx460⟩ := hq457
    obtain ⟨hp461, hp462⟩ := hx460
    have pk463 : PK w w456 := PK.tr pk421 (PK.fr hF459 (by decide) (by decide) pk421.2.2.2)
    have os464 : ∀ j, (j < 7 ∨ 9 ≤ j) → j < 140 → rwv w456 86 j = rwv w 86 j := fun j hj hl => (hp462 j (by omega) hl).trans (os422 j hj hl)
    have rg465 : FA w456 ≠ 0 ∨ (1 ≤ n416 ∧ n416 ≤ 10) := hn420.imp_left (PK.fr hF459 (by decide) (by decide) pk421.2.2.2).1
    have ms466 : mu w456 < mu w := Nat.lt_of_le_of_lt (PK.fr hF459 (by decide) (by decide) pk421.2.2.2).2.1 ms423
    clear hn420
    refine xg_t (xg_iinc (u := 0) (z := 1) (l1 := [(3, (0, u45)), (2, (0, at_)), (1, (0, 5)), (0, (2, 82))]) rfl rfl (by decide) rfl) ?_
    refine xg_t (xg_goto) ?_
    refine xg_t (xg_blk (b := [(329, 2, 2, 4, 0, 0), (331, 1, 3, 2, 0, 0), (332, 3, 6, 359, 3, 0), (335, 1, 0, 0, 0, 0), (336, 1, 2, 1, 0, 0), (337, 1, 2, 3, 0, 0), (338, 2, 4, 7, 0, 0), (340, 2, 2, 4, 0, 0), (342, 1, 11, 0, 0, 0), (343, 1, 0, 0, 0, 0), (344, 1, 3, 1, 0, 0), (345, 2, 4, 10, 0, 0), (347, 3, 13, 199, 96, 196), (350, 3, 13, 211, 96, 200), (353, 3, 9, 4, 1, 0), (356, 3, 8, 329, 0, 0)]) rfl) ?_
    refine xg_t (xg_iload (va := (0, 1)) rfl rfl) ?_
    refine xg_t (xg_const) ?_
    refine xg_t (xg_icF (u := 1) (v := 2) rfl xnm0 xnm0 (by decide)) ?_
    refine xg_t (xg_aload (va := (2, 82)) rfl rfl) ?_
    refine xg_t (xg_iload (va := (0, 5)) rfl rfl) ?_
    refine xg_t (xg_iload (va := (0, u45)) rfl rfl) ?_
    refine xg_t (xg_bip) ?_
    refine xg_t (xg_iload (va := (0, 1)) rfl rfl) ?_
    refine xg_t (xg_iadd (u := 7) (v := 1) (z := 8) xnm0 xnm0 (by decide)) ?_
    refine xg_t (xg_aload (va := (2, 82)) rfl rfl) ?_
    refine xg_t (xg_const) ?_
    refine xg_t (xg_bip) ?_
    refine xg_cVi mX12_numbered (vs := [(0, 1), (0, 10)]) (rest := [(0, 8), (0, u45), (0, 5), (2, 82)]) (cn1 := 0) (sl1 := 0) rfl (mNumbered (hI458) (by omega) (by omega) pk463.2.2.2) rfl (hF459.get (by decide) h82_454) rfl rfl rfl rfl rfl rfl (fun n471 w467 hq468 => ?_)
    obtain ⟨hn472, hI469, hF470⟩ := hq468
    clear hb425 hb427 hb429 hb431 hb433 hb435 hb437 hb439 hb441 hb443 hb447 hb449 hb451 hb453
    obtain ⟨hn473, hn474, hn475⟩ := hn472
    have pk476 : PK w w467 := PK.tr pk463 hn474
    have os477 : ∀ j, (j < 7 ∨ 9 ≤ j) → j < 140 → rwv w467 86 j = rwv w 86 j := fun j hj hl => (rwv_fr hF470 (by decide)).trans (os464 j hj hl)
    have ix478 : u45 < 1 → rwv w467 86 (7) = n416 := fun h => (rwv_fr hF470 (by decide)).trans (hp461 h)
    have rg479 : FA w467 ≠ 0 ∨ (1 ≤ n416 ∧ n416 ≤ 10) := rg465.imp_left hn474.1
    have ms480 : mu w467 < mu w := Nat.lt_of_le_of_lt hn474.2.1 ms466
    clear hp461 rg465
    obtain ⟨f82_481, f82_483, f82_485, f82_487, f82_489, f82_491, f82_493, f82_495, f82_497, f82_499, f82_501, f82_502, f82_503, f82_505, f82_507, f82_509, h82_511, hb482, hb484, hb486, hb488, hb490, hb492, hb494, hb496, hb498, hb500, hb504, hb506, hb508, hb510, hb512⟩ := (hI469 82 (by decide) (by decide) : cp82 (wget w467 82))
    refine xg_cVv mX12_puts (vs := [(0, 5), (0, u45), (0, 8), (0, n471)]) (rest := []) (cn1 := 0) (sl1 := 0) rfl (mPuts5 (hI469) (by omega) (by omega) (by omega) (fun _ => by omega)) rfl h82_511 rfl rfl rfl rfl rfl rfl (fun w513 hq514 => ?_)
    obtain ⟨hI515, hF516, hx517⟩ := hq514
    obtain ⟨hp518, hp519⟩ := hx517
    have pk520 : PK w w513 := PK.tr pk476 (PK.fr hF516 (by decide) (by decide) pk476.2.2.2)
    have os521 : ∀ j, (j < 7 ∨ 9 ≤ j) → j < 140 → rwv w513 86 j = rwv w 86 j := fun j hj hl => (hp519 j (by omega) hl).trans (os477 j hj hl)
    have ix522 : u45 < 1 → rwv w513 86 (7) = n416 := fun h => (hp519 _ (by omega) (by omega)).trans (ix478 h)
    have rg523 : FA w513 ≠ 0 ∨ (1 ≤ n416 ∧ n416 ≤ 10) := rg479.imp_left (PK.fr hF516 (by decide) (by decide) pk476.2.2.2).1
    have rg524 : FA w513 ≠ 0 ∨ (1 ≤ n471 ∧ n471 ≤ 10) := hn475.imp_left (PK.fr hF516 (by decide) (by decide) pk476.2.2.2).1
    have ms525 : mu w513 < mu w := Nat.lt_of_le_of_lt (PK.fr hF516 (by decide) (by decide) pk476.2.2.2).2.1 ms480
    clear ix478 rg479 hn475
    refine xg_t (xg_iinc (u := 1) (z := 2) (l1 := [(3, (0, u45)), (2, (0, at_)), (1, (0, 5)), (0, (2, 82))]) rfl rfl (by decide) rfl) ?_
    refine xg_t (xg_goto) ?_
    refine xg_t (xg_blk (b := [(329, 2, 2, 4, 0, 0), (331, 1, 3, 2, 0, 0), (332, 3, 6, 359, 3, 0), (335, 1, 0, 0, 0, 0), (336, 1, 2, 1, 0, 0), (337, 1, 2, 3, 0, 0), (338, 2, 4, 7, 0, 0), (340, 2, 2, 4, 0, 0), (342, 1, 11, 0, 0, 0), (343, 1, 0, 0, 0, 0), (344, 1, 3, 1, 0, 0), (345, 2, 4, 10, 0, 0), (347, 3, 13, 199, 96, 196), (350, 3, 13, 211, 96, 200), (353, 3, 9, 4, 1, 0), (356, 3, 8, 329, 0, 0)]) rfl) ?_
    refine xg_t (xg_iload (va := (0, 2)) rfl rfl) ?_
    refine xg_t (xg_const) ?_
    refine xg_t (xg_icT (u := 2) (v := 2) rfl xnm0 xnm0 (by decide)) ?_
    refine xg_t (xg_blk (b := [(359, 3, 8, 394, 0, 0)]) rfl) ?_
    refine xg_t (xg_goto) ?_
    refine xg_t (xg_drop (l1 := [(0, (2, 82)), (1, (0, 5)), (3, (0, u45))]) (List.forall_mem_cons.mpr ⟨List.mem_cons_of_mem _ (List.mem_cons_of_mem _ (List.mem_cons_of_mem _ (List.mem_cons_of_mem _ (List.mem_cons_self)))), List.forall_mem_cons.mpr ⟨List.mem_cons_of_mem _ (List.mem_cons_of_mem _ (List.mem_cons_of_mem _ (List.mem_cons_self))), List.forall_mem_cons.mpr ⟨List.mem_cons_of_mem _ (List.mem_cons_self), fun _ h => absurd h List.not_mem_nil⟩⟩⟩)) ?_
    have hX526 : FA w513 ≠ 0 ∨ u45 < 1 := Or.inr (by omega)
    have hN527 : FA w513 ≠ 0 ∨ 1 ≤ u45 ∨ (1 ≤ rwv w513 86 7 ∧ rwv w513 86 7 ≤ 10 ∧ 1 ≤ rwv w513 86 8 ∧ rwv w513 86 8 ≤ 10) := by
      have hl528 : u45 < 1 → rwv w513 86 (7) = n416 := ix522
      have hl529 : u45 < 1 → rwv w513 86 (8) = n471 := hp518
      have hl530 := rg523
      have hl531 := rg524
      omega
    exact jn67 w513 (hI515) ((((((hF55.up (by decide)).tr (hF415.up (by decide))).tr (hF459.up (by decide))).tr (hF470.up (by decide))).tr (hF516.up (by decide)))) (⟨pk520, os521, ms525, hX526, hN527⟩)
  · refine xg_t (xg_icF (u := u45) (v := 1) rfl xnm0 xnm0 (xj_ltF (by omega) (by omega))) ?_
    refine xg_t (xg_aload (va := (2, 82)) rfl rfl) ?_
    refine xg_t (xg_const) ?_
    refine xg_t (xg_iload (va := (0, at_)) rfl rfl) ?_
    refine xg_cVv mX12_also (vs := [(0, 3), (0, at_)]) (rest := []) (cn1 := 0) (sl1 := 0) rfl (mAlso (hI) (by omega) (by omega) (by omega) (PK.rf hps).2.2.2) rfl h82_31 rfl rfl rfl rfl rfl rfl (fun w532 hq533 => ?_)
    obtain ⟨hI534, hF535, hx536⟩ := hq533
    have pk537 : PK w w532 := ⟨fun _ => hx536, Nat.le_of_eq (mu_fr hF535 (by decide)), fld_fr hF535 (by decide), Or.inr hx536⟩
    have pk538 : PK w w532 := PK.tr (PK.rf hps) pk537
    have os539 : ∀ j, (j < 7 ∨ 9 ≤ j) → j < 140 → rwv w532 86 j = rwv w 86 j := fun j hj hl => (rwv_fr hF535 (by decide)).trans ((fun j _ _ => rfl) j hj hl)
    have hf540 := fld_fr (c := 82) (j := 7) hF535 (by decide)
    refine xg_t (xg_blk (b := [(64, 1, 0, 0, 0, 0), (65, 3, 13, 110, 96, 190), (68, 1, 2, 1, 0, 0), (69, 39, 33, 362, 0, 9)]) rfl) ?_
    refine xg_t (xg_aload (va := (2, 82)) rfl rfl) ?_
    refine xg_cVv mX12_advance (vs := []) (rest := []) (cn1 := 0) (sl1 := 0) rfl (mAdvance (hI534)) rfl (hF535.get (by decide) h82_31) rfl rfl rfl rfl rfl rfl (fun w541 hq542 => ?_)
    obtain ⟨hI543, hF544, hx545⟩ := hq542
    clear hb2 hb4 hb6 hb8 hb10 hb12 hb14 hb16 hb18 hb20 hb24 hb26 hb28 hb30
    obtain ⟨hv546, hv547, hv548, hv549⟩ := hx545
    have hf551 := FA_fr hF544 (by decide)
    have hs552 := pk538.2.2.2
    unfold PS at hs552
    have pk550 : PK w532 w541 := ⟨fun _ => by omega, hv546, hv549, (show fld w541 82 10 = 0 ∨ FA w541 ≠ 0 by omega)⟩
    clear hs552
    have pk553 : PK w w541 := PK.tr pk538 pk550
    have os554 : ∀ j, (j < 7 ∨ 9 ≤ j) → j < 140 → rwv w541 86 j = rwv w 86 j := fun j hj hl => (rwv_fr hF544 (by decide)).trans (os539 j hj hl)
    have rg555 : FA w541 ≠ 0 ∨ 0 = 1 := (Or.inl hx536 : FA w532 ≠ 0 ∨ 0 = 1).imp_left pk550.1
    have ms556 : mu w541 < mu w := Nat.lt_of_lt_of_le (hv547 (by omega)) pk538.2.1
    clear hv547
    have jn557 : ∀ (w558 : List (List xE)), xMnv w558 → xFr [82, 83, 85, 86, 87] w w558 → (PK w w558 ∧ (∀ j, (j < 7 ∨ 9 ≤ j) → j < 140 → rwv w558 86 j = rwv w 86 j) ∧ mu w558 < mu w ∧ (FA w558 ≠ 0 ∨ u45 < 1) ∧ (FA w558 ≠ 0 ∨ 1 ≤ u45 ∨ (1 ≤ rwv w558 86 7 ∧ rwv w558 86 7 ≤ 10 ∧ 1 ≤ rwv w558 86 8 ∧ rwv w558 86 8 ≤ 10))) → xTo (d + 7) mX12_aLine (394, [], [(0, (2, 82)), (1, (0, 5)), (3, (0, u45))], [], (w558, bd, fc, 0, 0, rr)) (fun φ => ∃ w', xEnd 0 [] (w', bd, fc, 0, 0, rr) φ ∧ xMnv w' ∧ xFr [82, 83, 85, 86, 87] w w' ∧ ((FA w ≠ 0 → FA w' ≠ 0) ∧ PS w' ∧ ((fld w' 82 10 = 1 ∧ mu w' = mu w ∧ fld w' 82 14 = fld w 82 14 ∧ ∀ s, s < 7 → rwv w' 85 s = rwv w 85 s) ∨ (mu w' < mu w ∧ fld w' 82 14 = fld w 82 14 + 1 ∧ ∀ s, s < 7 → rwv w' 85 s ≤ rwv w 85 s + 1)) ∧ (FA w' ≠ 0 ∨ (DATA w → DATA w')))) := by
      intro w558 hI559 hF560 he561
      obtain ⟨hj562, hj563, hj564, hj565, hj566⟩ := he561
      refine xg_t (xg_blk (b := [(394, 1, 0, 0, 0, 0), (395, 3, 1, 12, 10, 180), (398, 3, 7, 416, 1, 0), (401, 1, 0, 0, 0, 0), (402, 3, 1, 12, 7, 151), (405, 1, 3, 2, 0, 0), (406, 3, 6, 416, 1, 0), (409, 1, 0, 0, 0, 0), (410, 3, 13, 110, 96, 190), (413, 3, 8, 420, 0, 0)]) rfl) ?_
      refine xg_t (xg_aload (va := (2, 82)) rfl rfl) ?_
      obtain ⟨f82_567, f82_569, f82_571, f82_573, f82_575, f82_577, f82_579, f82_581, f82_583, f82_585, f82_587, f82_588, f82_589, f82_591, f82_593, f82_595, h82_597, hb568, hb570, hb572, hb574, hb576, hb578, hb580, hb582, hb584, hb586, hb590, hb592, hb594, hb596, hb598⟩ := (hI559 82 (by decide) (by decide) : cp82 (wget w558 82))
      refine xg_t (xg_getf (va := (0, f82_583)) h82_597 rfl) ?_
      by_cases hc599 : f82_583 = 0
      · refine xg_t (xg_ifF (u := f82_583) rfl xnm0 (xj_neF hc599)) ?_
        refine xg_t (xg_aload (va := (2, 82)) rfl rfl) ?_
        refine xg_t (xg_getf (va := (0, f82_577)) h82_597 rfl) ?_
        refine xg_t (xg_const) ?_
        by_cases hc600 : f82_577 = 2
        · refine xg_t (xg_icF (u := f82_577) (v := 2) rfl xnm0 xnm0 (xj_neF hc600)) ?_
          refine xg_t (xg_aload (va := (2, 82)) rfl rfl) ?_
          refine xg_cVv mX12_advance (vs := []) (rest := []) (cn1 := 0) (sl1 := 0) rfl (mAdvance (hI559)) rfl h82_597 rfl rfl rfl rfl rfl rfl (fun w601 hq602 => ?_)
          obtain ⟨hI603, hF604, hx605⟩ := hq602
          clear hb568 hb570 hb572 hb574 hb576 hb578 hb580 hb582 hb584 hb586 hb590 hb592 hb594 hb596
          obtain ⟨hv606, hv607, hv608, hv609⟩ := hx605
          have hf611 := FA_fr hF604 (by decide)
          have hs612 := hj562.2.2.2
          unfold PS at hs612
          have pk610 : PK w558 w601 := ⟨fun _ => by omega, hv606, hv609, (show fld w601 82 10 = 0 ∨ FA w601 ≠ 0 by omega)⟩
          clear hs612
          clear hv607
          have pk613 : PK w w601 := PK.tr hj562 pk610
          have os614 : ∀ j, (j < 7 ∨ 9 ≤ j) → j < 140 → rwv w601 86 j = rwv w 86 j := fun j hj hl => (rwv_fr hF604 (by decide)).trans (hj563 j hj hl)
          have rg615 : FA w601 ≠ 0 ∨ u45 < 1 := hj565.imp_left pk610.1
          have hl616 : rwv w601 86 (7) = rwv w558 86 (7) := rwv_fr hF604 (by decide)
          have hl617 : rwv w601 86 (8) = rwv w558 86 (8) := rwv_fr hF604 (by decide)
          have nw618 : FA w601 ≠ 0 ∨ 1 ≤ u45 ∨ (1 ≤ rwv w601 86 7 ∧ rwv w601 86 7 ≤ 10 ∧ 1 ≤ rwv w601 86 8 ∧ rwv w601 86 8 ≤ 10) := by have q := hj566; have q1 := pk610.1; omega
          clear hj566
          have ms619 : mu w601 < mu w := Nat.lt_of_le_of_lt pk610.2.1 hj564
          clear hj565
          refine xg_t (xg_goto) ?_
          refine xg_t (xg_blk (b := [(420, 1, 0, 0, 0, 0), (421, 3, 1, 12, 11, 17), (424, 1, 2, 1, 0, 0), (425, 1, 39, 0, 0, 0), (426, 1, 10, 0, 0, 0), (427, 1, 3, 1, 0, 0), (428, 1, 11, 0, 0, 0), (429, 1, 17, 0, 0, 0), (430, 1, 0, 0, 0, 0), (431, 1, 19, 0, 0, 0), (432, 3, 1, 12, 14, 212), (435, 1, 3, 1, 0, 0), (436, 1, 11, 0, 0, 0), (437, 3, 14, 12, 14, 212), (440, 1, 12, 0, 0, 0)]) rfl) ?_
          obtain ⟨f82_620, f82_622, f82_624, f82_626, f82_628, f82_630, f82_632, f82_634, f82_636, f82_638, f82_640, f82_641, f82_642, f82_644, f82_646, f82_648, h82_650, hb621, hb623, hb625, hb627, hb629, hb631, hb633, hb635, hb637, hb639, hb643, hb645, hb647, hb649, hb651⟩ := (hI603 82 (by decide) (by decide) : cp82 (wget w601 82))
          have hf652 : fld w601 82 4 = f82_624 := fld_of h82_650
          have hf653 : fld w601 82 5 = f82_626 := fld_of h82_650
          have hf654 : fld w601 82 7 = f82_630 := fld_of h82_650
          have hf655 : fld w601 82 10 = f82_636 := fld_of h82_650
          have hf656 : fld w601 82 14 = f82_638 := fld_of h82_650
          have hu657 : mu w601 = 2 * (fld w601 82 4 - fld w601 82 5) + min 1 (fld w601 82 7) := rfl
          have hf658 := pk613.2.2.1
          have hl659 : f82_638 ≤ 1000 := by omega
          refine xg_t (xg_aload (va := (2, 82)) rfl rfl) ?_
          refine xg_t (xg_getf (va := (2, 85)) h82_650 rfl) ?_
          refine xg_t (xg_iload (va := (0, 5)) rfl rfl) ?_
          refine xg_t (xg_dup2 rfl) ?_
          obtain ⟨g85_660, h85_661, hb662⟩ := (hI603 85 (by decide) (by decide) : cpI 7 52 4294967295 (wget w601 85))
          have h85_661 : xRow w601 85 7 52 g85_660 := h85_661
          refine xg_ialdB (n := 5) (B := 4294967295) h85_661 (hb662) xnm0 (by omega) (fun u663 hu664 he665 => ?_)
          have hl666 : u663 = u45 := by omega
          refine xg_t (xg_const) ?_
          refine xg_t (xg_iadd (u := u663) (v := 1) (z := u663 + 1) xnm0 xnm0 (by omega)) ?_
          refine xg_iastK (n := 5) (u := u663 + 1) h85_661 xnm0 xnm0 rfl (by omega) (fun w667 hr668 hb669 => ?_)
          refine xg_t (xg_aload (va := (2, 82)) rfl rfl) ?_
          refine xg_t (xg_dup rfl) ?_
          refine xg_t (xg_getf (va := (0, f82_638)) (hb669.get (by decide) h82_650) rfl) ?_
          refine xg_t (xg_const) ?_
          refine xg_t (xg_iadd (u := f82_638) (v := 1) (z := f82_638 + 1) xnm0 xnm0 (by omega)) ?_
          refine xg_putI (fl1 := [(2, 83), (2, 84), (0, f82_620), (0, f82_622), (0, f82_624), (0, f82_626), (0, f82_628), (0, f82_630), (0, f82_632), (0, f82_634), (0, f82_636), (2, 85), (2, 86), (2, 87), (0, f82_638 + 1), (2, 88), (2, 89), (2, 90), (2, 91), (2, 92), (2, 93), (2, 94), (4, f82_640), (4, f82_641), (0, f82_642), (2, 95), (2, 96), (2, 97), (2, 98), (2, 99), (2, 100), (2, 101), (2, 102), (0, f82_644), (2, 103), (2, 104), (2, 105), (2, 106), (2, 107), (2, 108), (2, 109), (0, f82_646), (0, f82_648), (2, 110), (2, 111), (2, 112), (2, 113)]) (hb669.get (by decide) h82_650) rfl rfl rfl (fun w670 hk671 hb672 => ?_)
          have hF673 : xFr [82, 85] w601 w670 := ((xFr.of (S := [82, 85]) hb669 (by decide)).tr (xFr.of (S := [82, 85]) hb672 (by decide)))
          have hA674 := FA_fr hF673 (by decide)
          have hf675 : fld w670 82 4 = f82_624 := fld_of hk671
          have hf676 : fld w670 82 5 = f82_626 := fld_of hk671
          have hf677 : fld w670 82 7 = f82_630 := fld_of hk671
          have hf678 : fld w670 82 10 = f82_636 := fld_of hk671
          have hf679 : fld w670 82 14 = f82_638 + 1 := fld_of hk671
          have hu680 : mu w670 = 2 * (fld w670 82 4 - fld w670 82 5) + min 1 (fld w670 82 7) := rfl
          have pq681 := pk613
          unfold PK PS at pq681
          have hM682 : ∀ s, s < 7 → s ≠ 5 → rwv w670 85 s = rwv w 85 s := fun s hs hn => (rwv_of (hr668.but hb672 (by decide)) hs).trans ((if_neg hn).trans (rwv_of h85_37 hs).symm)
          have hM683 : rwv w670 85 5 = u45 + 1 := (rwv_of (hr668.but hb672 (by decide)) (by decide)).trans ((if_pos rfl).trans (by omega))
          have hM684 : ∀ s, s < 7 → rwv w670 85 s ≤ rwv w 85 s + 1 := fun s hs => by
            by_cases z : s = 5
            · subst z; omega
            · rw [hM682 s hs z]; omega
          have hO685 : ∀ j, (j < 7 ∨ 9 ≤ j) → j < 140 → rwv w670 86 j = rwv w 86 j := fun j hj hl => (rwv_fr hF673 (by decide)).trans (os614 j hj hl)
          have hl687 : FA w601 ≠ 0 ∨ u45 < 1 := rg615
          have hl688 : rwv w670 86 (7) = rwv w601 86 (7) := rwv_fr hF673 (by decide)
          have hl689 : rwv w670 86 (8) = rwv w601 86 (8) := rwv_fr hF673 (by decide)
          have hN686 : FA w670 ≠ 0 ∨ 1 ≤ u45 ∨ (1 ≤ rwv w670 86 7 ∧ rwv w670 86 7 ≤ 10 ∧ 1 ≤ rwv w670 86 8 ∧ rwv w670 86 8 ≤ 10) := by have q := nw618; omega
          have hX690 : FA w670 ≠ 0 ∨ u45 < 1 := by omega
          have hD691 : FA w670 ≠ 0 ∨ (DATA w → DATA w670) := by
            by_cases z : FA w670 ≠ 0
            · exact Or.inl z
            · exact Or.inr (fun hd => hd.s5 hM682 hK48 hM683 (hX690.resolve_left z) hO685 ((hN686.resolve_left z).resolve_left (by have := hX690.resolve_left z; omega)))
          exact xg_e ⟨w670, ⟨rfl, rfl⟩, xMnv.up (S := [85, 82]) hI603 ((xFr.of (S := [85, 82]) hb669 (by decide)).tr (xFr.of (S := [85, 82]) hb672 (by decide))) (List.forall_mem_cons.mpr ⟨(show cpI 7 52 4294967295 (wget w670 85) from ⟨_, (hr668.but hb672 (by decide)), xrb (by omega) (hb662)⟩), List.forall_mem_cons.mpr ⟨(show cp82 (wget w670 82) from ⟨f82_620, f82_622, f82_624, f82_626, f82_628, f82_630, f82_632, f82_634, f82_636, f82_638 + 1, f82_640, f82_641, f82_642, f82_644, f82_646, f82_648, hk671, hb621, hb623, hb625, hb627, hb629, hb631, hb633, hb635, hb637, by omega, hb643, hb645, hb647, hb649, by omega⟩), fun _ h => absurd h List.not_mem_nil⟩⟩), ((hF560.tr (hF604.up (by decide))).tr ((xFr.of (S := [82, 83, 85, 86, 87]) hb669 (by decide)).tr (xFr.of (S := [82, 83, 85, 86, 87]) hb672 (by decide)))), ⟨fun h => by have := pq681.1 h; omega, (show fld w670 82 10 = 0 ∨ FA w670 ≠ 0 by omega), Or.inr ⟨by have := ms619; omega, by omega, hM684⟩, hD691⟩⟩
        · refine xg_t (xg_icT (u := f82_577) (v := 2) rfl xnm0 xnm0 (xj_neT hc600)) ?_
          refine xg_t (xg_blk (b := [(416, 1, 0, 0, 0, 0), (417, 3, 13, 140, 96, 183)]) rfl) ?_
          refine xg_t (xg_aload (va := (2, 82)) rfl rfl) ?_
          refine xg_cVv mX12_ends (vs := []) (rest := []) (cn1 := 0) (sl1 := 0) rfl (mEnds (hI559) hj562.2.2.2) rfl h82_597 rfl rfl rfl rfl rfl rfl (fun w692 hq693 => ?_)
          obtain ⟨hI694, hF695, hx696⟩ := hq693
          clear hb568 hb570 hb572 hb574 hb576 hb578 hb580 hb582 hb584 hb586 hb590 hb592 hb594 hb596
          obtain ⟨hv697, hv698, hv699, hv700⟩ := hx696
          have pk701 : PK w558 w692 := ⟨fun _ => hv697, by omega, by omega, Or.inr hv697⟩
          have pk702 : PK w w692 := PK.tr hj562 pk701
          have os703 : ∀ j, (j < 7 ∨ 9 ≤ j) → j < 140 → rwv w692 86 j = rwv w 86 j := fun j hj hl => (rwv_fr hF695 (by decide)).trans (hj563 j hj hl)
          have rg704 : FA w692 ≠ 0 ∨ u45 < 1 := hj565.imp_left pk701.1
          have hl705 : rwv w692 86 (7) = rwv w558 86 (7) := rwv_fr hF695 (by decide)
          have hl706 : rwv w692 86 (8) = rwv w558 86 (8) := rwv_fr hF695 (by decide)
          have nw707 : FA w692 ≠ 0 ∨ 1 ≤ u45 ∨ (1 ≤ rwv w692 86 7 ∧ rwv w692 86 7 ≤ 10 ∧ 1 ≤ rwv w692 86 8 ∧ rwv w692 86 8 ≤ 10) := by have q := hj566; have q1 := pk701.1; omega
          clear hj566
          have ms708 : mu w692 < mu w := Nat.lt_of_le_of_lt pk701.2.1 hj564
          clear hj565
          refine xg_t (xg_blk (b := [(420, 1, 0, 0, 0, 0), (421, 3, 1, 12, 11, 17), (424, 1, 2, 1, 0, 0), (425, 1, 39, 0, 0, 0), (426, 1, 10, 0, 0, 0), (427, 1, 3, 1, 0, 0), (428, 1, 11, 0, 0, 0), (429, 1, 17, 0, 0, 0), (430, 1, 0, 0, 0, 0), (431, 1, 19, 0, 0, 0), (432, 3, 1, 12, 14, 212), (435, 1, 3, 1, 0, 0), (436, 1, 11, 0, 0, 0), (437, 3, 14, 12, 14, 212), (440, 1, 12, 0, 0, 0)]) rfl) ?_
          obtain ⟨f82_709, f82_711, f82_713, f82_715, f82_717, f82_719, f82_721, f82_723, f82_725, f82_727, f82_729, f82_730, f82_731, f82_733, f82_735, f82_737, h82_739, hb710, hb712, hb714, hb716, hb718, hb720, hb722, hb724, hb726, hb728, hb732, hb734, hb736, hb738, hb740⟩ := (hI694 82 (by decide) (by decide) : cp82 (wget w692 82))
          have hf741 : fld w692 82 4 = f82_713 := fld_of h82_739
          have hf742 : fld w692 82 5 = f82_715 := fld_of h82_739
          have hf743 : fld w692 82 7 = f82_719 := fld_of h82_739
          have hf744 : fld w692 82 10 = f82_725 := fld_of h82_739
          have hf745 : fld w692 82 14 = f82_727 := fld_of h82_739
          have hu746 : mu w692 = 2 * (fld w692 82 4 - fld w692 82 5) + min 1 (fld w692 82 7) := rfl
          have hf747 := pk702.2.2.1
          have hl748 : f82_727 ≤ 1000 := by omega
          refine xg_t (xg_aload (va := (2, 82)) rfl rfl) ?_
          refine xg_t (xg_getf (va := (2, 85)) h82_739 rfl) ?_
          refine xg_t (xg_iload (va := (0, 5)) rfl rfl) ?_
          refine xg_t (xg_dup2 rfl) ?_
          obtain ⟨g85_749, h85_750, hb751⟩ := (hI694 85 (by decide) (by decide) : cpI 7 52 4294967295 (wget w692 85))
          have h85_750 : xRow w692 85 7 52 g85_749 := h85_750
          refine xg_ialdB (n := 5) (B := 4294967295) h85_750 (hb751) xnm0 (by omega) (fun u752 hu753 he754 => ?_)
          have hl755 : u752 = u45 := by omega
          refine xg_t (xg_const) ?_
          refine xg_t (xg_iadd (u := u752) (v := 1) (z := u752 + 1) xnm0 xnm0 (by omega)) ?_
          refine xg_iastK (n := 5) (u := u752 + 1) h85_750 xnm0 xnm0 rfl (by omega) (fun w756 hr757 hb758 => ?_)
          refine xg_t (xg_aload (va := (2, 82)) rfl rfl) ?_
          refine xg_t (xg_dup rfl) ?_
          refine xg_t (xg_getf (va := (0, f82_727)) (hb758.get (by decide) h82_739) rfl) ?_
          refine xg_t (xg_const) ?_
          refine xg_t (xg_iadd (u := f82_727) (v := 1) (z := f82_727 + 1) xnm0 xnm0 (by omega)) ?_
          refine xg_putI (fl1 := [(2, 83), (2, 84), (0, f82_709), (0, f82_711), (0, f82_713), (0, f82_715), (0, f82_717), (0, f82_719), (0, f82_721), (0, f82_723), (0, f82_725), (2, 85), (2, 86), (2, 87), (0, f82_727 + 1), (2, 88), (2, 89), (2, 90), (2, 91), (2, 92), (2, 93), (2, 94), (4, f82_729), (4, f82_730), (0, f82_731), (2, 95), (2, 96), (2, 97), (2, 98), (2, 99), (2, 100), (2, 101), (2, 102), (0, f82_733), (2, 103), (2, 104), (2, 105), (2, 106), (2, 107), (2, 108), (2, 109), (0, f82_735), (0, f82_737), (2, 110), (2, 111), (2, 112), (2, 113)]) (hb758.get (by decide) h82_739) rfl rfl rfl (fun w759 hk760 hb761 => ?_)
          have hF762 : xFr [82, 85] w692 w759 := ((xFr.of (S := [82, 85]) hb758 (by decide)).tr (xFr.of (S := [82, 85]) hb761 (by decide)))
          have hA763 := FA_fr hF762 (by decide)
          have hf764 : fld w759 82 4 = f82_713 := fld_of hk760
          have hf765 : fld w759 82 5 = f82_715 := fld_of hk760
          have hf766 : fld w759 82 7 = f82_719 := fld_of hk760
          have hf767 : fld w759 82 10 = f82_725 := fld_of hk760
          have hf768 : fld w759 82 14 = f82_727 + 1 := fld_of hk760
          have hu769 : mu w759 = 2 * (fld w759 82 4 - fld w759 82 5) + min 1 (fld w759 82 7) := rfl
          have pq770 := pk702
          unfold PK PS at pq770
          have hM771 : ∀ s, s < 7 → s ≠ 5 → rwv w759 85 s = rwv w 85 s := fun s hs hn => (rwv_of (hr757.but hb761 (by decide)) hs).trans ((if_neg hn).trans (rwv_of h85_37 hs).symm)
          have hM772 : rwv w759 85 5 = u45 + 1 := (rwv_of (hr757.but hb761 (by decide)) (by decide)).trans ((if_pos rfl).trans (by omega))
          have hM773 : ∀ s, s < 7 → rwv w759 85 s ≤ rwv w 85 s + 1 := fun s hs => by
            by_cases z : s = 5
            · subst z; omega
            · rw [hM771 s hs z]; omega
          have hO774 : ∀ j, (j < 7 ∨ 9 ≤ j) → j < 140 → rwv w759 86 j = rwv w 86 j := fun j hj hl => (rwv_fr hF762 (by decide)).trans (os703 j hj hl)
          have hl776 : FA w692 ≠ 0 ∨ u45 < 1 := rg704
          have hl777 : rwv w759 86 (7) = rwv w692 86 (7) := rwv_fr hF762 (by decide)
          have hl778 : rwv w759 86 (8) = rwv w692 86 (8) := rwv_fr hF762 (by decide)
          have hN775 : FA w759 ≠ 0 ∨ 1 ≤ u45 ∨ (1 ≤ rwv w759 86 7 ∧ rwv w759 86 7 ≤ 10 ∧ 1 ≤ rwv w759 86 8 ∧ rwv w759 86 8 ≤ 10) := by have q := nw707; omega
          have hX779 : FA w759 ≠ 0 ∨ u45 < 1 := by omega
          have hD780 : FA w759 ≠ 0 ∨ (DATA w → DATA w759) := by
            by_cases z : FA w759 ≠ 0
            · exact Or.inl z
            · exact Or.inr (fun hd => hd.s5 hM771 hK48 hM772 (hX779.resolve_left z) hO774 ((hN775.resolve_left z).resolve_left (by have := hX779.resolve_left z; omega)))
          exact xg_e ⟨w759, ⟨rfl, rfl⟩, xMnv.up (S := [85, 82]) hI694 ((xFr.of (S := [85, 82]) hb758 (by decide)).tr (xFr.of (S := [85, 82]) hb761 (by decide))) (List.forall_mem_cons.mpr ⟨(show cpI 7 52 4294967295 (wget w759 85) from ⟨_, (hr757.but hb761 (by decide)), xrb (by omega) (hb751)⟩), List.forall_mem_cons.mpr ⟨(show cp82 (wget w759 82) from ⟨f82_709, f82_711, f82_713, f82_715, f82_717, f82_719, f82_721, f82_723, f82_725, f82_727 + 1, f82_729, f82_730, f82_731, f82_733, f82_735, f82_737, hk760, hb710, hb712, hb714, hb716, hb718, hb720, hb722, hb724, hb726, by omega, hb732, hb734, hb736, hb738, by omega⟩), fun _ h => absurd h List.not_mem_nil⟩⟩), ((hF560.tr (hF695.up (by decide))).tr ((xFr.of (S := [82, 83, 85, 86, 87]) hb758 (by decide)).tr (xFr.of (S := [82, 83, 85, 86, 87]) hb761 (by decide)))), ⟨fun h => by have := pq770.1 h; omega, (show fld w759 82 10 = 0 ∨ FA w759 ≠ 0 by omega), Or.inr ⟨by have := ms708; omega, by omega, hM773⟩, hD780⟩⟩
      · refine xg_t (xg_ifT (u := f82_583) rfl xnm0 (xj_neT hc599)) ?_
        refine xg_t (xg_blk (b := [(416, 1, 0, 0, 0, 0), (417, 3, 13, 140, 96, 183)]) rfl) ?_
        refine xg_t (xg_aload (va := (2, 82)) rfl rfl) ?_
        refine xg_cVv mX12_ends (vs := []) (rest := []) (cn1 := 0) (sl1 := 0) rfl (mEnds (hI559) hj562.2.2.2) rfl h82_597 rfl rfl rfl rfl rfl rfl (fun w781 hq782 => ?_)
        obtain ⟨hI783, hF784, hx785⟩ := hq782
        clear hb568 hb570 hb572 hb574 hb576 hb578 hb580 hb582 hb584 hb586 hb590 hb592 hb594 hb596
        obtain ⟨hv786, hv787, hv788, hv789⟩ := hx785
        have pk790 : PK w558 w781 := ⟨fun _ => hv786, by omega, by omega, Or.inr hv786⟩
        have pk791 : PK w w781 := PK.tr hj562 pk790
        have os792 : ∀ j, (j < 7 ∨ 9 ≤ j) → j < 140 → rwv w781 86 j = rwv w 86 j := fun j hj hl => (rwv_fr hF784 (by decide)).trans (hj563 j hj hl)
        have rg793 : FA w781 ≠ 0 ∨ u45 < 1 := hj565.imp_left pk790.1
        have hl794 : rwv w781 86 (7) = rwv w558 86 (7) := rwv_fr hF784 (by decide)
        have hl795 : rwv w781 86 (8) = rwv w558 86 (8) := rwv_fr hF784 (by decide)
        have nw796 : FA w781 ≠ 0 ∨ 1 ≤ u45 ∨ (1 ≤ rwv w781 86 7 ∧ rwv w781 86 7 ≤ 10 ∧ 1 ≤ rwv w781 86 8 ∧ rwv w781 86 8 ≤ 10) := by have q := hj566; have q1 := pk790.1; omega
        clear hj566
        have ms797 : mu w781 < mu w := Nat.lt_of_le_of_lt pk790.2.1 hj564
        clear hj565
        refine xg_t (xg_blk (b := [(420, 1, 0, 0, 0, 0), (421, 3, 1, 12, 11, 17), (424, 1, 2, 1, 0, 0), (425, 1, 39, 0, 0, 0), (426, 1, 10, 0, 0, 0), (427, 1, 3, 1, 0, 0), (428, 1, 11, 0, 0, 0), (429, 1, 17, 0, 0, 0), (430, 1, 0, 0, 0, 0), (431, 1, 19, 0, 0, 0), (432, 3, 1, 12, 14, 212), (435, 1, 3, 1, 0, 0), (436, 1, 11, 0, 0, 0), (437, 3, 14, 12, 14, 212), (440, 1, 12, 0, 0, 0)]) rfl) ?_
        obtain ⟨f82_798, f82_800, f82_802, f82_804, f82_806, f82_808, f82_810, f82_812, f82_814, f82_816, f82_818, f82_819, f82_820, f82_822, f82_824, f82_826, h82_828, hb799, hb801, hb803, hb805, hb807, hb809, hb811, hb813, hb815, hb817, hb821, hb823, hb825, hb827, hb829⟩ := (hI783 82 (by decide) (by decide) : cp82 (wget w781 82))
        have hf830 : fld w781 82 4 = f82_802 := fld_of h82_828
        have hf831 : fld w781 82 5 = f82_804 := fld_of h82_828
        have hf832 : fld w781 82 7 = f82_808 := fld_of h82_828
        have hf833 : fld w781 82 10 = f82_814 := fld_of h82_828
        have hf834 : fld w781 82 14 = f82_816 := fld_of h82_828
        have hu835 : mu w781 = 2 * (fld w781 82 4 - fld w781 82 5) + min 1 (fld w781 82 7) := rfl
        have hf836 := pk791.2.2.1
        have hl837 : f82_816 ≤ 1000 := by omega
        refine xg_t (xg_aload (va := (2, 82)) rfl rfl) ?_
        refine xg_t (xg_getf (va := (2, 85)) h82_828 rfl) ?_
        refine xg_t (xg_iload (va := (0, 5)) rfl rfl) ?_
        refine xg_t (xg_dup2 rfl) ?_
        obtain ⟨g85_838, h85_839, hb840⟩ := (hI783 85 (by decide) (by decide) : cpI 7 52 4294967295 (wget w781 85))
        have h85_839 : xRow w781 85 7 52 g85_838 := h85_839
        refine xg_ialdB (n := 5) (B := 4294967295) h85_839 (hb840) xnm0 (by omega) (fun u841 hu842 he843 => ?_)
        have hl844 : u841 = u45 := by omega
        refine xg_t (xg_const) ?_
        refine xg_t (xg_iadd (u := u841) (v := 1) (z := u841 + 1) xnm0 xnm0 (by omega)) ?_
        refine xg_iastK (n := 5) (u := u841 + 1) h85_839 xnm0 xnm0 rfl (by omega) (fun w845 hr846 hb847 => ?_)
        refine xg_t (xg_aload (va := (2, 82)) rfl rfl) ?_
        refine xg_t (xg_dup rfl) ?_
        refine xg_t (xg_getf (va := (0, f82_816)) (hb847.get (by decide) h82_828) rfl) ?_
        refine xg_t (xg_const) ?_
        refine xg_t (xg_iadd (u := f82_816) (v := 1) (z := f82_816 + 1) xnm0 xnm0 (by omega)) ?_
        refine xg_putI (fl1 := [(2, 83), (2, 84), (0, f82_798), (0, f82_800), (0, f82_802), (0, f82_804), (0, f82_806), (0, f82_808), (0, f82_810), (0, f82_812), (0, f82_814), (2, 85), (2, 86), (2, 87), (0, f82_816 + 1), (2, 88), (2, 89), (2, 90), (2, 91), (2, 92), (2, 93), (2, 94), (4, f82_818), (4, f82_819), (0, f82_820), (2, 95), (2, 96), (2, 97), (2, 98), (2, 99), (2, 100), (2, 101), (2, 102), (0, f82_822), (2, 103), (2, 104), (2, 105), (2, 106), (2, 107), (2, 108), (2, 109), (0, f82_824), (0, f82_826), (2, 110), (2, 111), (2, 112), (2, 113)]) (hb847.get (by decide) h82_828) rfl rfl rfl (fun w848 hk849 hb850 => ?_)
        have hF851 : xFr [82, 85] w781 w848 := ((xFr.of (S := [82, 85]) hb847 (by decide)).tr (xFr.of (S := [82, 85]) hb850 (by decide)))
        have hA852 := FA_fr hF851 (by decide)
        have hf853 : fld w848 82 4 = f82_802 := fld_of hk849
        have hf854 : fld w848 82 5 = f82_804 := fld_of hk849
        have hf855 : fld w848 82 7 = f82_808 := fld_of hk849
        have hf856 : fld w848 82 10 = f82_814 := fld_of hk849
        have hf857 : fld w848 82 14 = f82_816 + 1 := fld_of hk849
        have hu858 : mu w848 = 2 * (fld w848 82 4 - fld w848 82 5) + min 1 (fld w848 82 7) := rfl
        have pq859 := pk791
        unfold PK PS at pq859
        have hM860 : ∀ s, s < 7 → s ≠ 5 → rwv w848 85 s = rwv w 85 s := fun s hs hn => (rwv_of (hr846.but hb850 (by decide)) hs).trans ((if_neg hn).trans (rwv_of h85_37 hs).symm)
        have hM861 : rwv w848 85 5 = u45 + 1 := (rwv_of (hr846.but hb850 (by decide)) (by decide)).trans ((if_pos rfl).trans (by omega))
        have hM862 : ∀ s, s < 7 → rwv w848 85 s ≤ rwv w 85 s + 1 := fun s hs => by
          by_cases z : s = 5
          · subst z; omega
          · rw [hM860 s hs z]; omega
        have hO863 : ∀ j, (j < 7 ∨ 9 ≤ j) → j < 140 → rwv w848 86 j = rwv w 86 j := fun j hj hl => (rwv_fr hF851 (by decide)).trans (os792 j hj hl)
        have hl865 : FA w781 ≠ 0 ∨ u45 < 1 := rg793
        have hl866 : rwv w848 86 (7) = rwv w781 86 (7) := rwv_fr hF851 (by decide)
        have hl867 : rwv w848 86 (8) = rwv w781 86 (8) := rwv_fr hF851 (by decide)
        have hN864 : FA w848 ≠ 0 ∨ 1 ≤ u45 ∨ (1 ≤ rwv w848 86 7 ∧ rwv w848 86 7 ≤ 10 ∧ 1 ≤ rwv w848 86 8 ∧ rwv w848 86 8 ≤ 10) := by have q := nw796; omega
        have hX868 : FA w848 ≠ 0 ∨ u45 < 1 := by omega
        have hD869 : FA w848 ≠ 0 ∨ (DATA w → DATA w848) := by
          by_cases z : FA w848 ≠ 0
          · exact Or.inl z
          · exact Or.inr (fun hd => hd.s5 hM860 hK48 hM861 (hX868.resolve_left z) hO863 ((hN864.resolve_left z).resolve_left (by have := hX868.resolve_left z; omega)))
        exact xg_e ⟨w848, ⟨rfl, rfl⟩, xMnv.up (S := [85, 82]) hI783 ((xFr.of (S := [85, 82]) hb847 (by decide)).tr (xFr.of (S := [85, 82]) hb850 (by decide))) (List.forall_mem_cons.mpr ⟨(show cpI 7 52 4294967295 (wget w848 85) from ⟨_, (hr846.but hb850 (by decide)), xrb (by omega) (hb840)⟩), List.forall_mem_cons.mpr ⟨(show cp82 (wget w848 82) from ⟨f82_798, f82_800, f82_802, f82_804, f82_806, f82_808, f82_810, f82_812, f82_814, f82_816 + 1, f82_818, f82_819, f82_820, f82_822, f82_824, f82_826, hk849, hb799, hb801, hb803, hb805, hb807, hb809, hb811, hb813, hb815, by omega, hb821, hb823, hb825, hb827, by omega⟩), fun _ h => absurd h List.not_mem_nil⟩⟩), ((hF560.tr (hF784.up (by decide))).tr ((xFr.of (S := [82, 83, 85, 86, 87]) hb847 (by decide)).tr (xFr.of (S := [82, 83, 85, 86, 87]) hb850 (by decide)))), ⟨fun h => by have := pq859.1 h; omega, (show fld w848 82 10 = 0 ∨ FA w848 ≠ 0 by omega), Or.inr ⟨by have := ms797; omega, by omega, hM862⟩, hD869⟩⟩
    refine xg_t (xg_iload (va := (0, 5)) rfl rfl) ?_
    refine xg_t (xg_swt (ks := [(0, 108), (1, 116), (2, 180), (3, 221), (4, 273), (5, 326)]) (u := 5) (z := 326) rfl rfl rfl xnm0 (xsw_n (by omega) (xsw_n (by omega) (xsw_n (by omega) (xsw_n (by omega) (xsw_n (by omega) (xsw_y rfl))))))) ?_
    refine xg_t (xg_blk (b := [(326, 1, 3, 0, 0, 0), (327, 2, 15, 4, 0, 0)]) rfl) ?_
    refine xg_t (xg_const) ?_
    refine xg_t (xg_istore (l1 := [(3, (0, u45)), (2, (0, at_)), (1, (0, 5)), (0, (2, 82))]) rfl rfl rfl) ?_
    refine xg_t (xg_blk (b := [(329, 2, 2, 4, 0, 0), (331, 1, 3, 2, 0, 0), (332, 3, 6, 359, 3, 0), (335, 1, 0, 0, 0, 0), (336, 1, 2, 1, 0, 0), (337, 1, 2, 3, 0, 0), (338, 2, 4, 7, 0, 0), (340, 2, 2, 4, 0, 0), (342, 1, 11, 0, 0, 0), (343, 1, 0, 0, 0, 0), (344, 1, 3, 1, 0, 0), (345, 2, 4, 10, 0, 0), (347, 3, 13, 199, 96, 196), (350, 3, 13, 211, 96, 200), (353, 3, 9, 4, 1, 0), (356, 3, 8, 329, 0, 0)]) rfl) ?_
    refine xg_t (xg_iload (va := (0, 0)) rfl rfl) ?_
    refine xg_t (xg_const) ?_
    refine xg_t (xg_icF (u := 0) (v := 2) rfl xnm0 xnm0 (by decide)) ?_
    refine xg_t (xg_aload (va := (2, 82)) rfl rfl) ?_
    refine xg_t (xg_iload (va := (0, 5)) rfl rfl) ?_
    refine xg_t (xg_iload (va := (0, u45)) rfl rfl) ?_
    refine xg_t (xg_bip) ?_
    refine xg_t (xg_iload (va := (0, 0)) rfl rfl) ?_
    refine xg_t (xg_iadd (u := 7) (v := 0) (z := 7) xnm0 xnm0 (by decide)) ?_
    refine xg_t (xg_aload (va := (2, 82)) rfl rfl) ?_
    refine xg_t (xg_const) ?_
    refine xg_t (xg_bip) ?_
    obtain ⟨f82_870, f82_872, f82_874, f82_876, f82_878, f82_880, f82_882, f82_884, f82_886, f82_888, f82_890, f82_891, f82_892, f82_894, f82_896, f82_898, h82_900, hb871, hb873, hb875, hb877, hb879, hb881, hb883, hb885, hb887, hb889, hb893, hb895, hb897, hb899, hb901⟩ := (hI543 82 (by decide) (by decide) : cp82 (wget w541 82))
    refine xg_cVi mX12_numbered (vs := [(0, 1), (0, 10)]) (rest := [(0, 7), (0, u45), (0, 5), (2, 82)]) (cn1 := 0) (sl1 := 0) rfl (mNumbered (hI543) (by omega) (by omega) pk553.2.2.2) rfl h82_900 rfl rfl rfl rfl rfl rfl (fun n906 w902 hq903 => ?_)
    obtain ⟨hn907, hI904, hF905⟩ := hq903
    clear hb871 hb873 hb875 hb877 hb879 hb881 hb883 hb885 hb887 hb889 hb893 hb895 hb897 hb899
    obtain ⟨hn908, hn909, hn910⟩ := hn907
    have pk911 : PK w w902 := PK.tr pk553 hn909
    have os912 : ∀ j, (j < 7 ∨ 9 ≤ j) → j < 140 → rwv w902 86 j = rwv w 86 j := fun j hj hl => (rwv_fr hF905 (by decide)).trans (os554 j hj hl)
    have rg913 : FA w902 ≠ 0 ∨ 0 = 1 := rg555.imp_left hn909.1
    have ms914 : mu w902 < mu w := Nat.lt_of_le_of_lt hn909.2.1 ms556
    clear rg555
    obtain ⟨f82_915, f82_917, f82_919, f82_921, f82_923, f82_925, f82_927, f82_929, f82_931, f82_933, f82_935, f82_936, f82_937, f82_939, f82_941, f82_943, h82_945, hb916, hb918, hb920, hb922, hb924, hb926, hb928, hb930, hb932, hb934, hb938, hb940, hb942, hb944, hb946⟩ := (hI904 82 (by decide) (by decide) : cp82 (wget w902 82))
    refine xg_cVv mX12_puts (vs := [(0, 5), (0, u45), (0, 7), (0, n906)]) (rest := []) (cn1 := 0) (sl1 := 0) rfl (mPuts5 (hI904) (by omega) (by omega) (by omega) (fun _ => by omega)) rfl h82_945 rfl rfl rfl rfl rfl rfl (fun w947 hq948 => ?_)
    obtain ⟨hI949, hF950, hx951⟩ := hq948
    obtain ⟨hp952, hp953⟩ := hx951
    have pk954 : PK w w947 := PK.tr pk911 (PK.fr hF950 (by decide) (by decide) pk911.2.2.2)
    have os955 : ∀ j, (j < 7 ∨ 9 ≤ j) → j < 140 → rwv w947 86 j = rwv w 86 j := fun j hj hl => (hp953 j (by omega) hl).trans (os912 j hj hl)
    have rg956 : FA w947 ≠ 0 ∨ 0 = 1 := rg913.imp_left (PK.fr hF950 (by decide) (by decide) pk911.2.2.2).1
    have rg957 : FA w947 ≠ 0 ∨ (1 ≤ n906 ∧ n906 ≤ 10) := hn910.imp_left (PK.fr hF950 (by decide) (by decide) pk911.2.2.2).1
    have ms958 : mu w947 < mu w := Nat.lt_of_le_of_lt (PK.fr hF950 (by decide) (by decide) pk911.2.2.2).2.1 ms914
    clear rg913 hn910
    refine xg_t (xg_iinc (u := 0) (z := 1) (l1 := [(3, (0, u45)), (2, (0, at_)), (1, (0, 5)), (0, (2, 82))]) rfl rfl (by decide) rfl) ?_
    refine xg_t (xg_goto) ?_
    refine xg_t (xg_blk (b := [(329, 2, 2, 4, 0, 0), (331, 1, 3, 2, 0, 0), (332, 3, 6, 359, 3, 0), (335, 1, 0, 0, 0, 0), (336, 1, 2, 1, 0, 0), (337, 1, 2, 3, 0, 0), (338, 2, 4, 7, 0, 0), (340, 2, 2, 4, 0, 0), (342, 1, 11, 0, 0, 0), (343, 1, 0, 0, 0, 0), (344, 1, 3, 1, 0, 0), (345, 2, 4, 10, 0, 0), (347, 3, 13, 199, 96, 196), (350, 3, 13, 211, 96, 200), (353, 3, 9, 4, 1, 0), (356, 3, 8, 329, 0, 0)]) rfl) ?_
    refine xg_t (xg_iload (va := (0, 1)) rfl rfl) ?_
    refine xg_t (xg_const) ?_
    refine xg_t (xg_icF (u := 1) (v := 2) rfl xnm0 xnm0 (by decide)) ?_
    refine xg_t (xg_aload (va := (2, 82)) rfl rfl) ?_
    refine xg_t (xg_iload (va := (0, 5)) rfl rfl) ?_
    refine xg_t (xg_iload (va := (0, u45)) rfl rfl) ?_
    refine xg_t (xg_bip) ?_
    refine xg_t (xg_iload (va := (0, 1)) rfl rfl) ?_
    refine xg_t (xg_iadd (u := 7) (v := 1) (z := 8) xnm0 xnm0 (by decide)) ?_
    refine xg_t (xg_aload (va := (2, 82)) rfl rfl) ?_
    refine xg_t (xg_const) ?_
    refine xg_t (xg_bip) ?_
    refine xg_cVi mX12_numbered (vs := [(0, 1), (0, 10)]) (rest := [(0, 8), (0, u45), (0, 5), (2, 82)]) (cn1 := 0) (sl1 := 0) rfl (mNumbered (hI949) (by omega) (by omega) pk954.2.2.2) rfl (hF950.get (by decide) h82_945) rfl rfl rfl rfl rfl rfl (fun n963 w959 hq960 => ?_)
    obtain ⟨hn964, hI961, hF962⟩ := hq960
    clear hb916 hb918 hb920 hb922 hb924 hb926 hb928 hb930 hb932 hb934 hb938 hb940 hb942 hb944
    obtain ⟨hn965, hn966, hn967⟩ := hn964
    have pk968 : PK w w959 := PK.tr pk954 hn966
    have os969 : ∀ j, (j < 7 ∨ 9 ≤ j) → j < 140 → rwv w959 86 j = rwv w 86 j := fun j hj hl => (rwv_fr hF962 (by decide)).trans (os955 j hj hl)
    have ix970 : u45 < 1 → rwv w959 86 (7) = n906 := fun h => (rwv_fr hF962 (by decide)).trans (hp952 h)
    have rg971 : FA w959 ≠ 0 ∨ 0 = 1 := rg956.imp_left hn966.1
    have rg972 : FA w959 ≠ 0 ∨ (1 ≤ n906 ∧ n906 ≤ 10) := rg957.imp_left hn966.1
    have ms973 : mu w959 < mu w := Nat.lt_of_le_of_lt hn966.2.1 ms958
    clear hp952 rg956 rg957
    obtain ⟨f82_974, f82_976, f82_978, f82_980, f82_982, f82_984, f82_986, f82_988, f82_990, f82_992, f82_994, f82_995, f82_996, f82_998, f82_1000, f82_1002, h82_1004, hb975, hb977, hb979, hb981, hb983, hb985, hb987, hb989, hb991, hb993, hb997, hb999, hb1001, hb1003, hb1005⟩ := (hI961 82 (by decide) (by decide) : cp82 (wget w959 82))
    refine xg_cVv mX12_puts (vs := [(0, 5), (0, u45), (0, 8), (0, n963)]) (rest := []) (cn1 := 0) (sl1 := 0) rfl (mPuts5 (hI961) (by omega) (by omega) (by omega) (fun _ => by omega)) rfl h82_1004 rfl rfl rfl rfl rfl rfl (fun w1006 hq1007 => ?_)
    obtain ⟨hI1008, hF1009, hx1010⟩ := hq1007
    obtain ⟨hp1011, hp1012⟩ := hx1010
    have pk1013 : PK w w1006 := PK.tr pk968 (PK.fr hF1009 (by decide) (by decide) pk968.2.2.2)
    have os1014 : ∀ j, (j < 7 ∨ 9 ≤ j) → j < 140 → rwv w1006 86 j = rwv w 86 j := fun j hj hl => (hp1012 j (by omega) hl).trans (os969 j hj hl)
    have ix1015 : u45 < 1 → rwv w1006 86 (7) = n906 := fun h => (hp1012 _ (by omega) (by omega)).trans (ix970 h)
    have rg1016 : FA w1006 ≠ 0 ∨ 0 = 1 := rg971.imp_left (PK.fr hF1009 (by decide) (by decide) pk968.2.2.2).1
    have rg1017 : FA w1006 ≠ 0 ∨ (1 ≤ n906 ∧ n906 ≤ 10) := rg972.imp_left (PK.fr hF1009 (by decide) (by decide) pk968.2.2.2).1
    have rg1018 : FA w1006 ≠ 0 ∨ (1 ≤ n963 ∧ n963 ≤ 10) := hn967.imp_left (PK.fr hF1009 (by decide) (by decide) pk968.2.2.2).1
    have ms1019 : mu w1006 < mu w := Nat.lt_of_le_of_lt (PK.fr hF1009 (by decide) (by decide) pk968.2.2.2).2.1 ms973
    clear ix970 rg971 rg972 hn967
    refine xg_t (xg_iinc (u := 1) (z := 2) (l1 := [(3, (0, u45)), (2, (0, at_)), (1, (0, 5)), (0, (2, 82))]) rfl rfl (by decide) rfl) ?_
    refine xg_t (xg_goto) ?_
    refine xg_t (xg_blk (b := [(329, 2, 2, 4, 0, 0), (331, 1, 3, 2, 0, 0), (332, 3, 6, 359, 3, 0), (335, 1, 0, 0, 0, 0), (336, 1, 2, 1, 0, 0), (337, 1, 2, 3, 0, 0), (338, 2, 4, 7, 0, 0), (340, 2, 2, 4, 0, 0), (342, 1, 11, 0, 0, 0), (343, 1, 0, 0, 0, 0), (344, 1, 3, 1, 0, 0), (345, 2, 4, 10, 0, 0), (347, 3, 13, 199, 96, 196), (350, 3, 13, 211, 96, 200), (353, 3, 9, 4, 1, 0), (356, 3, 8, 329, 0, 0)]) rfl) ?_
    refine xg_t (xg_iload (va := (0, 2)) rfl rfl) ?_
    refine xg_t (xg_const) ?_
    refine xg_t (xg_icT (u := 2) (v := 2) rfl xnm0 xnm0 (by decide)) ?_
    refine xg_t (xg_blk (b := [(359, 3, 8, 394, 0, 0)]) rfl) ?_
    refine xg_t (xg_goto) ?_
    refine xg_t (xg_drop (l1 := [(0, (2, 82)), (1, (0, 5)), (3, (0, u45))]) (List.forall_mem_cons.mpr ⟨List.mem_cons_of_mem _ (List.mem_cons_of_mem _ (List.mem_cons_of_mem _ (List.mem_cons_of_mem _ (List.mem_cons_self)))), List.forall_mem_cons.mpr ⟨List.mem_cons_of_mem _ (List.mem_cons_of_mem _ (List.mem_cons_of_mem _ (List.mem_cons_self))), List.forall_mem_cons.mpr ⟨List.mem_cons_of_mem _ (List.mem_cons_self), fun _ h => absurd h List.not_mem_nil⟩⟩⟩)) ?_
    have hX1020 : FA w1006 ≠ 0 ∨ u45 < 1 := Or.inl (by have q := rg1016; omega)
    have hN1021 : FA w1006 ≠ 0 ∨ 1 ≤ u45 ∨ (1 ≤ rwv w1006 86 7 ∧ rwv w1006 86 7 ≤ 10 ∧ 1 ≤ rwv w1006 86 8 ∧ rwv w1006 86 8 ≤ 10) := by
      have hl1022 : u45 < 1 → rwv w1006 86 (7) = n906 := ix1015
      have hl1023 : u45 < 1 → rwv w1006 86 (8) = n963 := hp1011
      have hl1024 := rg1017
      have hl1025 := rg1018
      omega
    exact jn557 w1006 (hI1008) (((((((hF535.up (by decide)).tr (hF544.up (by decide))).tr (hF905.up (by decide))).tr (hF950.up (by decide))).tr (hF962.up (by decide))).tr (hF1009.up (by decide)))) (⟨pk1013, os1014, ms1019, hX1020, hN1021⟩)
set_option maxHeartbeats 60000000 in
theorem mALineS6 {at_ : Nat} (hI : xMnv w) (hps : PS w) (hmb : ∀ s, s < 7 → rwv w 85 s ≤ 1000) (hln : fld w 82 14 ≤ 1000) (h7 : fld w 82 7 = 3) (hat : at_ ≤ 4294967295) : xTo (d + 7) mX12_aLine (43, [], [(2, (0, at_)), (1, (0, 6)), (0, (2, 82))], [], (w, bd, fc, 0, 0, rr)) (fun φ => ∃ w', xEnd 0 [] (w', bd, fc, 0, 0, rr) φ ∧ xMnv w' ∧ xFr [82, 83, 85, 86, 87] w w' ∧ ((FA w ≠ 0 → FA w' ≠ 0) ∧ PS w' ∧ ((fld w' 82 10 = 1 ∧ mu w' = mu w ∧ fld w' 82 14 = fld w 82 14 ∧ ∀ s, s < 7 → rwv w' 85 s = rwv w 85 s) ∨ (mu w' < mu w ∧ fld w' 82 14 = fld w 82 14 + 1 ∧ ∀ s, s < 7 → rwv w' 85 s ≤ rwv w 85 s + 1)) ∧ (FA w' ≠ 0 ∨ (DATA w → DATA w')))) := by
  obtain ⟨f82_1, f82_3, f82_5, f82_7, f82_9, f82_11, f82_13, f82_15, f82_17, f82_19, f82_21, f82_22, f82_23, f82_25, f82_27, f82_29, h82_31, hb2, hb4, hb6, hb8, hb10, hb12, hb14, hb16, hb18, hb20, hb24, hb26, hb28, hb30, hb32⟩ := (hI 82 (by decide) (by decide) : cp82 (wget w 82))
  have hf33 : fld w 82 7 = f82_11 := fld_of h82_31
  have hf34 : fld w 82 10 = f82_17 := fld_of h82_31
  have hf35 : fld w 82 14 = f82_19 := fld_of h82_31
  have hps_ : fld w 82 10 = 0 ∨ FA w ≠ 0 := hps
  obtain ⟨g85_36, h85_37, hb38⟩ := (hI 85 (by decide) (by decide) : cpI 7 52 4294967295 (wget w 85))
  have h85_37 : xRow w 85 7 52 g85_36 := h85_37
  obtain ⟨g86_39, h86_40, hb41⟩ := (hI 86 (by decide) (by decide) : cpI 140 53 4294967295 (wget w 86))
  have h86_40 : xRow w 86 140 53 g86_39 := h86_40
  obtain ⟨g87_42, h87_43, hb44⟩ := (hI 87 (by decide) (by decide) : cpI 20 54 4294967295 (wget w 87))
  have h87_43 : xRow w 87 20 54 g87_42 := h87_43
  refine xg_t (xg_blk (b := [(43, 1, 0, 0, 0, 0), (44, 3, 1, 12, 11, 17), (47, 1, 2, 1, 0, 0), (48, 1, 10, 0, 0, 0), (49, 1, 15, 3, 0, 0), (50, 1, 2, 3, 0, 0), (51, 1, 2, 1, 0, 0), (52, 3, 13, 194, 98, 193), (55, 3, 6, 64, 2, 0), (58, 1, 0, 0, 0, 0), (59, 1, 3, 3, 0, 0), (60, 1, 2, 2, 0, 0), (61, 3, 13, 115, 96, 186)]) rfl) ?_
  refine xg_t (xg_aload (va := (2, 82)) rfl rfl) ?_
  refine xg_t (xg_getf (va := (2, 85)) h82_31 rfl) ?_
  refine xg_t (xg_iload (va := (0, 6)) rfl rfl) ?_
  refine xg_ialdB (n := 6) (B := 4294967295) h85_37 (hb38) xnm0 (by omega) (fun u45 hu46 he47 => ?_)
  have hK48 : rwv w 85 6 = u45 := (rwv_of h85_37 (by decide)).trans he47
  have hm49 := hmb 6 (by decide)
  have hl50 : u45 ≤ 1000 := by omega
  refine xg_t (xg_istore (l1 := [(2, (0, at_)), (1, (0, 6)), (0, (2, 82))]) rfl rfl rfl) ?_
  refine xg_t (xg_iload (va := (0, u45)) rfl rfl) ?_
  refine xg_t (xg_iload (va := (0, 6)) rfl rfl) ?_
  refine xg_t (xg_cSr mX12_mostOf (vs := [(0, 6)]) (rest := [(0, u45)]) (rs := [(0, 1), (0, u45)]) (cn1 := 0) (sl1 := 0) rfl (mMostR6) rfl rfl rfl rfl rfl rfl rfl rfl) ?_
  by_cases hc51 : u45 < 1
  · refine xg_t (xg_icT (u := u45) (v := 1) rfl xnm0 xnm0 (xj_ltT hc51 (by omega))) ?_
    refine xg_t (xg_blk (b := [(64, 1, 0, 0, 0, 0), (65, 3, 13, 110, 96, 190), (68, 1, 2, 1, 0, 0), (69, 39, 33, 362, 0, 9)]) rfl) ?_
    refine xg_t (xg_aload (va := (2, 82)) rfl rfl) ?_
    refine xg_cVv mX12_advance (vs := []) (rest := []) (cn1 := 0) (sl1 := 0) rfl (mAdvance (hI)) rfl h82_31 rfl rfl rfl rfl rfl rfl (fun w52 hq53 => ?_)
    obtain ⟨hI54, hF55, hx56⟩ := hq53
    clear hb2 hb4 hb6 hb8 hb10 hb12 hb14 hb16 hb18 hb20 hb24 hb26 hb28 hb30
    obtain ⟨hv57, hv58, hv59, hv60⟩ := hx56
    have hf62 := FA_fr hF55 (by decide)
    have hs63 := (PK.rf hps).2.2.2
    unfold PS at hs63
    have pk61 : PK w w52 := ⟨fun _ => by omega, hv57, hv60, (show fld w52 82 10 = 0 ∨ FA w52 ≠ 0 by omega)⟩
    clear hs63
    have pk64 : PK w w52 := PK.tr (PK.rf hps) pk61
    have os65 : ∀ j, (j < 5 ∨ 7 ≤ j) → j < 140 → rwv w52 86 j = rwv w 86 j := fun j hj hl => (rwv_fr hF55 (by decide)).trans ((fun j _ _ => rfl) j hj hl)
    have ms66 : mu w52 < mu w := Nat.lt_of_lt_of_le (hv58 (by omega)) (PK.rf hps).2.1
    clear hv58
    have jn67 : ∀ (w68 : List (List xE)), xMnv w68 → xFr [82, 83, 85, 86, 87] w w68 → (PK w w68 ∧ (∀ j, (j < 5 ∨ 7 ≤ j) → j < 140 → rwv w68 86 j = rwv w 86 j) ∧ mu w68 < mu w ∧ (FA w68 ≠ 0 ∨ u45 < 1) ∧ (FA w68 ≠ 0 ∨ 1 ≤ u45 ∨ (1 ≤ rwv w68 86 5 ∧ rwv w68 86 5 ≤ 6 ∧ 1 ≤ rwv w68 86 6 ∧ rwv w68 86 6 ≤ 6))) → xTo (d + 7) mX12_aLine (394, [], [(0, (2, 82)), (1, (0, 6)), (3, (0, u45))], [], (w68, bd, fc, 0, 0, rr)) (fun φ => ∃ w', xEnd 0 [] (w', bd, fc, 0, 0, rr) φ ∧ xMnv w' ∧ xFr [82, 83, 85, 86, 87] w w' ∧ ((FA w ≠ 0 → FA w' ≠ 0) ∧ PS w' ∧ ((fld w' 82 10 = 1 ∧ mu w' = mu w ∧ fld w' 82 14 = fld w 82 14 ∧ ∀ s, s < 7 → rwv w' 85 s = rwv w 85 s) ∨ (mu w' < mu w ∧ fld w' 82 14 = fld w 82 14 + 1 ∧ ∀ s, s < 7 → rwv w' 85 s ≤ rwv w 85 s + 1)) ∧ (FA w' ≠ 0 ∨ (DATA w → DATA w')))) := by
      intro w68 hI69 hF70 he71
      obtain ⟨hj72, hj73, hj74, hj75, hj76⟩ := he71
      refine xg_t (xg_blk (b := [(394, 1, 0, 0, 0, 0), (395, 3, 1, 12, 10, 180), (398, 3, 7, 416, 1, 0), (401, 1, 0, 0, 0, 0), (402, 3, 1, 12, 7, 151), (405, 1, 3, 2, 0, 0), (406, 3, 6, 416, 1, 0), (409, 1, 0, 0, 0, 0), (410, 3, 13, 110, 96, 190), (413, 3, 8, 420, 0, 0)]) rfl) ?_
      refine xg_t (xg_aload (va := (2, 82)) rfl rfl) ?_
      obtain ⟨f82_77, f82_79, f82_81, f82_83, f82_85, f82_87, f82_89, f82_91, f82_93, f82_95, f82_97, f82_98, f82_99, f82_101, f82_103, f82_105, h82_107, hb78, hb80, hb82, hb84, hb86, hb88, hb90, hb92, hb94, hb96, hb100, hb102, hb104, hb106, hb108⟩ := (hI69 82 (by decide) (by decide) : cp82 (wget w68 82))
      refine xg_t (xg_getf (va := (0, f82_93)) h82_107 rfl) ?_
      by_cases hc109 : f82_93 = 0
      · refine xg_t (xg_ifF (u := f82_93) rfl xnm0 (xj_neF hc109)) ?_
        refine xg_t (xg_aload (va := (2, 82)) rfl rfl) ?_
        refine xg_t (xg_getf (va := (0, f82_87)) h82_107 rfl) ?_
        refine xg_t (xg_const) ?_
        by_cases hc110 : f82_87 = 2
        · refine xg_t (xg_icF (u := f82_87) (v := 2) rfl xnm0 xnm0 (xj_neF hc110)) ?_
          refine xg_t (xg_aload (va := (2, 82)) rfl rfl) ?_
          refine xg_cVv mX12_advance (vs := []) (rest := []) (cn1 := 0) (sl1 := 0) rfl (mAdvance (hI69)) rfl h82_107 rfl rfl rfl rfl rfl rfl (fun w111 hq112 => ?_)
          obtain ⟨hI113, hF114, hx115⟩ := hq112
          clear hb78 hb80 hb82 hb84 hb86 hb88 hb90 hb92 hb94 hb96 hb100 hb102 hb104 hb106
          obtain ⟨hv116, hv117, hv118, hv119⟩ := hx115
          have hf121 := FA_fr hF114 (by decide)
          have hs122 := hj72.2.2.2
          unfold PS at hs122
          have pk120 : PK w68 w111 := ⟨fun _ => by omega, hv116, hv119, (show fld w111 82 10 = 0 ∨ FA w111 ≠ 0 by omega)⟩
          clear hs122
          clear hv117
          have pk123 : PK w w111 := PK.tr hj72 pk120
          have os124 : ∀ j, (j < 5 ∨ 7 ≤ j) → j < 140 → rwv w111 86 j = rwv w 86 j := fun j hj hl => (rwv_fr hF114 (by decide)).trans (hj73 j hj hl)
          have rg125 : FA w111 ≠ 0 ∨ u45 < 1 := hj75.imp_left pk120.1
          have hl126 : rwv w111 86 (5) = rwv w68 86 (5) := rwv_fr hF114 (by decide)
          have hl127 : rwv w111 86 (6) = rwv w68 86 (6) := rwv_fr hF114 (by decide)
          have nw128 : FA w111 ≠ 0 ∨ 1 ≤ u45 ∨ (1 ≤ rwv w111 86 5 ∧ rwv w111 86 5 ≤ 6 ∧ 1 ≤ rwv w111 86 6 ∧ rwv w111 86 6 ≤ 6) := by have q := hj76; have q1 := pk120.1; omega
          clear hj76
          have ms129 : mu w111 < mu w := Nat.lt_of_le_of_lt pk120.2.1 hj74
          clear hj75
          refine xg_t (xg_goto) ?_
          refine xg_t (xg_blk (b := [(420, 1, 0, 0, 0, 0), (421, 3, 1, 12, 11, 17), (424, 1, 2, 1, 0, 0), (425, 1, 39, 0, 0, 0), (426, 1, 10, 0, 0, 0), (427, 1, 3, 1, 0, 0), (428, 1, 11, 0, 0, 0), (429, 1, 17, 0, 0, 0), (430, 1, 0, 0, 0, 0), (431, 1, 19, 0, 0, 0), (432, 3, 1, 12, 14, 212), (435, 1, 3, 1, 0, 0), (436, 1, 11, 0, 0, 0), (437, 3, 14, 12, 14, 212), (440, 1, 12, 0, 0, 0)]) rfl) ?_
          obtain ⟨f82_130, f82_132, f82_134, f82_136, f82_138, f82_140, f82_142, f82_144, f82_146, f82_148, f82_150, f82_151, f82_152, f82_154, f82_156, f82_158, h82_160, hb131, hb133, hb135, hb137, hb139, hb141, hb143, hb145, hb147, hb149, hb153, hb155, hb157, hb159, hb161⟩ := (hI113 82 (by decide) (by decide) : cp82 (wget w111 82))
          have hf162 : fld w111 82 4 = f82_134 := fld_of h82_160
          have hf163 : fld w111 82 5 = f82_136 := fld_of h82_160
          have hf164 : fld w111 82 7 = f82_140 := fld_of h82_160
          have hf165 : fld w111 82 10 = f82_146 := fld_of h82_160
          have hf166 : fld w111 82 14 = f82_148 := fld_of h82_160
          have hu167 : mu w111 = 2 * (fld w111 82 4 - fld w111 82 5) + min 1 (fld w111 82 7) := rfl
          have hf168 := pk123.2.2.1
          have hl169 : f82_148 ≤ 1000 := by omega
          refine xg_t (xg_aload (va := (2, 82)) rfl rfl) ?_
          refine xg_t (xg_getf (va := (2, 85)) h82_160 rfl) ?_
          refine xg_t (xg_iload (va := (0, 6)) rfl rfl) ?_
          refine xg_t (xg_dup2 rfl) ?_
          obtain ⟨g85_170, h85_171, hb172⟩ := (hI113 85 (by decide) (by decide) : cpI 7 52 4294967295 (wget w111 85))
          have h85_171 : xRow w111 85 7 52 g85_170 := h85_171
          refine xg_ialdB (n := 6) (B := 4294967295) h85_171 (hb172) xnm0 (by omega) (fun u173 hu174 he175 => ?_)
          have hl176 : u173 = u45 := by omega
          refine xg_t (xg_const) ?_
          refine xg_t (xg_iadd (u := u173) (v := 1) (z := u173 + 1) xnm0 xnm0 (by omega)) ?_
          refine xg_iastK (n := 6) (u := u173 + 1) h85_171 xnm0 xnm0 rfl (by omega) (fun w177 hr178 hb179 => ?_)
          refine xg_t (xg_aload (va := (2, 82)) rfl rfl) ?_
          refine xg_t (xg_dup rfl) ?_
          refine xg_t (xg_getf (va := (0, f82_148)) (hb179.get (by decide) h82_160) rfl) ?_
          refine xg_t (xg_const) ?_
          refine xg_t (xg_iadd (u := f82_148) (v := 1) (z := f82_148 + 1) xnm0 xnm0 (by omega)) ?_
          refine xg_putI (fl1 := [(2, 83), (2, 84), (0, f82_130), (0, f82_132), (0, f82_134), (0, f82_136), (0, f82_138), (0, f82_140), (0, f82_142), (0, f82_144), (0, f82_146), (2, 85), (2, 86), (2, 87), (0, f82_148 + 1), (2, 88), (2, 89), (2, 90), (2, 91), (2, 92), (2, 93), (2, 94), (4, f82_150), (4, f82_151), (0, f82_152), (2, 95), (2, 96), (2, 97), (2, 98), (2, 99), (2, 100), (2, 101), (2, 102), (0, f82_154), (2, 103), (2, 104), (2, 105), (2, 106), (2, 107), (2, 108), (2, 109), (0, f82_156), (0, f82_158), (2, 110), (2, 111), (2, 112), (2, 113)]) (hb179.get (by decide) h82_160) rfl rfl rfl (fun w180 hk181 hb182 => ?_)
          have hF183 : xFr [82, 85] w111 w180 := ((xFr.of (S := [82, 85]) hb179 (by decide)).tr (xFr.of (S := [82, 85]) hb182 (by decide)))
          have hA184 := FA_fr hF183 (by decide)
          have hf185 : fld w180 82 4 = f82_134 := fld_of hk181
          have hf186 : fld w180 82 5 = f82_136 := fld_of hk181
          have hf187 : fld w180 82 7 = f82_140 := fld_of hk181
          have hf188 : fld w180 82 10 = f82_146 := fld_of hk181
          have hf189 : fld w180 82 14 = f82_148 + 1 := fld_of hk181
          have hu190 : mu w180 = 2 * (fld w180 82 4 - fld w180 82 5) + min 1 (fld w180 82 7) := rfl
          have pq191 := pk123
          unfold PK PS at pq191
          have hM192 : ∀ s, s < 7 → s ≠ 6 → rwv w180 85 s = rwv w 85 s := fun s hs hn => (rwv_of (hr178.but hb182 (by decide)) hs).trans ((if_neg hn).trans (rwv_of h85_37 hs).symm)
          have hM193 : rwv w180 85 6 = u45 + 1 := (rwv_of (hr178.but hb182 (by decide)) (by decide)).trans ((if_pos rfl).trans (by omega))
          have hM194 : ∀ s, s < 7 → rwv w180 85 s ≤ rwv w 85 s + 1 := fun s hs => by
            by_cases z : s = 6
            · subst z; omega
            · rw [hM192 s hs z]; omega
          have hO195 : ∀ j, (j < 5 ∨ 7 ≤ j) → j < 140 → rwv w180 86 j = rwv w 86 j := fun j hj hl => (rwv_fr hF183 (by decide)).trans (os124 j hj hl)
          have hl197 : FA w111 ≠ 0 ∨ u45 < 1 := rg125
          have hl198 : rwv w180 86 (5) = rwv w111 86 (5) := rwv_fr hF183 (by decide)
          have hl199 : rwv w180 86 (6) = rwv w111 86 (6) := rwv_fr hF183 (by decide)
          have hN196 : FA w180 ≠ 0 ∨ 1 ≤ u45 ∨ (1 ≤ rwv w180 86 5 ∧ rwv w180 86 5 ≤ 6 ∧ 1 ≤ rwv w180 86 6 ∧ rwv w180 86 6 ≤ 6) := by have q := nw128; omega
          have hX200 : FA w180 ≠ 0 ∨ u45 < 1 := by omega
          have hD201 : FA w180 ≠ 0 ∨ (DATA w → DATA w180) := by
            by_cases z : FA w180 ≠ 0
            · exact Or.inl z
            · exact Or.inr (fun hd => hd.s6 hM192 hK48 hM193 (hX200.resolve_left z) hO195 ((hN196.resolve_left z).resolve_left (by have := hX200.resolve_left z; omega)))
          exact xg_e ⟨w180, ⟨rfl, rfl⟩, xMnv.up (S := [85, 82]) hI113 ((xFr.of (S := [85, 82]) hb179 (by decide)).tr (xFr.of (S := [85, 82]) hb182 (by decide))) (List.forall_mem_cons.mpr ⟨(show cpI 7 52 4294967295 (wget w180 85) from ⟨_, (hr178.but hb182 (by decide)), xrb (by omega) (hb172)⟩), List.forall_mem_cons.mpr ⟨(show cp82 (wget w180 82) from ⟨f82_130, f82_132, f82_134, f82_136, f82_138, f82_140, f82_142, f82_144, f82_146, f82_148 + 1, f82_150, f82_151, f82_152, f82_154, f82_156, f82_158, hk181, hb131, hb133, hb135, hb137, hb139, hb141, hb143, hb145, hb147, by omega, hb153, hb155, hb157, hb159, by omega⟩), fun _ h => absurd h List.not_mem_nil⟩⟩), ((hF70.tr (hF114.up (by decide))).tr ((xFr.of (S := [82, 83, 85, 86, 87]) hb179 (by decide)).tr (xFr.of (S := [82, 83, 85, 86, 87]) hb182 (by decide)))), ⟨fun h => by have := pq191.1 h; omega, (show fld w180 82 10 = 0 ∨ FA w180 ≠ 0 by omega), Or.inr ⟨by have := ms129; omega, by omega, hM194⟩, hD201⟩⟩
        · refine xg_t (xg_icT (u := f82_87) (v := 2) rfl xnm0 xnm0 (xj_neT hc110)) ?_
          refine xg_t (xg_blk (b := [(416, 1, 0, 0, 0, 0), (417, 3, 13, 140, 96, 183)]) rfl) ?_
          refine xg_t (xg_aload (va := (2, 82)) rfl rfl) ?_
          refine xg_cVv mX12_ends (vs := []) (rest := []) (cn1 := 0) (sl1 := 0) rfl (mEnds (hI69) hj72.2.2.2) rfl h82_107 rfl rfl rfl rfl rfl rfl (fun w202 hq203 => ?_)
          obtain ⟨hI204, hF205, hx206⟩ := hq203
          clear hb78 hb80 hb82 hb84 hb86 hb88 hb90 hb92 hb94 hb96 hb100 hb102 hb104 hb106
          obtain ⟨hv207, hv208, hv209, hv210⟩ := hx206
          have pk211 : PK w68 w202 := ⟨fun _ => hv207, by omega, by omega, Or.inr hv207⟩
          have pk212 : PK w w202 := PK.tr hj72 pk211
          have os213 : ∀ j, (j < 5 ∨ 7 ≤ j) → j < 140 → rwv w202 86 j = rwv w 86 j := fun j hj hl => (rwv_fr hF205 (by decide)).trans (hj73 j hj hl)
          have rg214 : FA w202 ≠ 0 ∨ u45 < 1 := hj75.imp_left pk211.1
          have hl215 : rwv w202 86 (5) = rwv w68 86 (5) := rwv_fr hF205 (by decide)
          have hl216 : rwv w202 86 (6) = rwv w68 86 (6) := rwv_fr hF205 (by decide)
          have nw217 : FA w202 ≠ 0 ∨ 1 ≤ u45 ∨ (1 ≤ rwv w202 86 5 ∧ rwv w202 86 5 ≤ 6 ∧ 1 ≤ rwv w202 86 6 ∧ rwv w202 86 6 ≤ 6) := by have q := hj76; have q1 := pk211.1; omega
          clear hj76
          have ms218 : mu w202 < mu w := Nat.lt_of_le_of_lt pk211.2.1 hj74
          clear hj75
          refine xg_t (xg_blk (b := [(420, 1, 0, 0, 0, 0), (421, 3, 1, 12, 11, 17), (424, 1, 2, 1, 0, 0), (425, 1, 39, 0, 0, 0), (426, 1, 10, 0, 0, 0), (427, 1, 3, 1, 0, 0), (428, 1, 11, 0, 0, 0), (429, 1, 17, 0, 0, 0), (430, 1, 0, 0, 0, 0), (431, 1, 19, 0, 0, 0), (432, 3, 1, 12, 14, 212), (435, 1, 3, 1, 0, 0), (436, 1, 11, 0, 0, 0), (437, 3, 14, 12, 14, 212), (440, 1, 12, 0, 0, 0)]) rfl) ?_
          obtain ⟨f82_219, f82_221, f82_223, f82_225, f82_227, f82_229, f82_231, f82_233, f82_235, f82_237, f82_239, f82_240, f82_241, f82_243, f82_245, f82_247, h82_249, hb220, hb222, hb224, hb226, hb228, hb230, hb232, hb234, hb236, hb238, hb242, hb244, hb246, hb248, hb250⟩ := (hI204 82 (by decide) (by decide) : cp82 (wget w202 82))
          have hf251 : fld w202 82 4 = f82_223 := fld_of h82_249
          have hf252 : fld w202 82 5 = f82_225 := fld_of h82_249
          have hf253 : fld w202 82 7 = f82_229 := fld_of h82_249
          have hf254 : fld w202 82 10 = f82_235 := fld_of h82_249
          have hf255 : fld w202 82 14 = f82_237 := fld_of h82_249
          have hu256 : mu w202 = 2 * (fld w202 82 4 - fld w202 82 5) + min 1 (fld w202 82 7) := rfl
          have hf257 := pk212.2.2.1
          have hl258 : f82_237 ≤ 1000 := by omega
          refine xg_t (xg_aload (va := (2, 82)) rfl rfl) ?_
          refine xg_t (xg_getf (va := (2, 85)) h82_249 rfl) ?_
          refine xg_t (xg_iload (va := (0, 6)) rfl rfl) ?_
          refine xg_t (xg_dup2 rfl) ?_
          obtain ⟨g85_259, h85_260, hb261⟩ := (hI204 85 (by decide) (by decide) : cpI 7 52 4294967295 (wget w202 85))
          have h85_260 : xRow w202 85 7 52 g85_259 := h85_260
          refine xg_ialdB (n := 6) (B := 4294967295) h85_260 (hb261) xnm0 (by omega) (fun u262 hu263 he264 => ?_)
          have hl265 : u262 = u45 := by omega
          refine xg_t (xg_const) ?_
          refine xg_t (xg_iadd (u := u262) (v := 1) (z := u262 + 1) xnm0 xnm0 (by omega)) ?_
          refine xg_iastK (n := 6) (u := u262 + 1) h85_260 xnm0 xnm0 rfl (by omega) (fun w266 hr267 hb268 => ?_)
          refine xg_t (xg_aload (va := (2, 82)) rfl rfl) ?_
          refine xg_t (xg_dup rfl) ?_
          refine xg_t (xg_getf (va := (0, f82_237)) (hb268.get (by decide) h82_249) rfl) ?_
          refine xg_t (xg_const) ?_
          refine xg_t (xg_iadd (u := f82_237) (v := 1) (z := f82_237 + 1) xnm0 xnm0 (by omega)) ?_
          refine xg_putI (fl1 := [(2, 83), (2, 84), (0, f82_219), (0, f82_221), (0, f82_223), (0, f82_225), (0, f82_227), (0, f82_229), (0, f82_231), (0, f82_233), (0, f82_235), (2, 85), (2, 86), (2, 87), (0, f82_237 + 1), (2, 88), (2, 89), (2, 90), (2, 91), (2, 92), (2, 93), (2, 94), (4, f82_239), (4, f82_240), (0, f82_241), (2, 95), (2, 96), (2, 97), (2, 98), (2, 99), (2, 100), (2, 101), (2, 102), (0, f82_243), (2, 103), (2, 104), (2, 105), (2, 106), (2, 107), (2, 108), (2, 109), (0, f82_245), (0, f82_247), (2, 110), (2, 111), (2, 112), (2, 113)]) (hb268.get (by decide) h82_249) rfl rfl rfl (fun w269 hk270 hb271 => ?_)
          have hF272 : xFr [82, 85] w202 w269 := ((xFr.of (S := [82, 85]) hb268 (by decide)).tr (xFr.of (S := [82, 85]) hb271 (by decide)))
          have hA273 := FA_fr hF272 (by decide)
          have hf274 : fld w269 82 4 = f82_223 := fld_of hk270
          have hf275 : fld w269 82 5 = f82_225 := fld_of hk270
          have hf276 : fld w269 82 7 = f82_229 := fld_of hk270
          have hf277 : fld w269 82 10 = f82_235 := fld_of hk270
          have hf278 : fld w269 82 14 = f82_237 + 1 := fld_of hk270
          have hu279 : mu w269 = 2 * (fld w269 82 4 - fld w269 82 5) + min 1 (fld w269 82 7) := rfl
          have pq280 := pk212
          unfold PK PS at pq280
          have hM281 : ∀ s, s < 7 → s ≠ 6 → rwv w269 85 s = rwv w 85 s := fun s hs hn => (rwv_of (hr267.but hb271 (by decide)) hs).trans ((if_neg hn).trans (rwv_of h85_37 hs).symm)
          have hM282 : rwv w269 85 6 = u45 + 1 := (rwv_of (hr267.but hb271 (by decide)) (by decide)).trans ((if_pos rfl).trans (by omega))
          have hM283 : ∀ s, s < 7 → rwv w269 85 s ≤ rwv w 85 s + 1 := fun s hs => by
            by_cases z : s = 6
            · subst z; omega
            · rw [hM281 s hs z]; omega
          have hO284 : ∀ j, (j < 5 ∨ 7 ≤ j) → j < 140 → rwv w269 86 j = rwv w 86 j := fun j hj hl => (rwv_fr hF272 (by decide)).trans (os213 j hj hl)
          have hl286 : FA w202 ≠ 0 ∨ u45 < 1 := rg214
          have hl287 : rwv w269 86 (5) = rwv w202 86 (5) := rwv_fr hF272 (by decide)
          have hl288 : rwv w269 86 (6) = rwv w202 86 (6) := rwv_fr hF272 (by decide)
          have hN285 : FA w269 ≠ 0 ∨ 1 ≤ u45 ∨ (1 ≤ rwv w269 86 5 ∧ rwv w269 86 5 ≤ 6 ∧ 1 ≤ rwv w269 86 6 ∧ rwv w269 86 6 ≤ 6) := by have q := nw217; omega
          have hX289 : FA w269 ≠ 0 ∨ u45 < 1 := by omega
          have hD290 : FA w269 ≠ 0 ∨ (DATA w → DATA w269) := by
            by_cases z : FA w269 ≠ 0
            · exact Or.inl z
            · exact Or.inr (fun hd => hd.s6 hM281 hK48 hM282 (hX289.resolve_left z) hO284 ((hN285.resolve_left z).resolve_left (by have := hX289.resolve_left z; omega)))
          exact xg_e ⟨w269, ⟨rfl, rfl⟩, xMnv.up (S := [85, 82]) hI204 ((xFr.of (S := [85, 82]) hb268 (by decide)).tr (xFr.of (S := [85, 82]) hb271 (by decide))) (List.forall_mem_cons.mpr ⟨(show cpI 7 52 4294967295 (wget w269 85) from ⟨_, (hr267.but hb271 (by decide)), xrb (by omega) (hb261)⟩), List.forall_mem_cons.mpr ⟨(show cp82 (wget w269 82) from ⟨f82_219, f82_221, f82_223, f82_225, f82_227, f82_229, f82_231, f82_233, f82_235, f82_237 + 1, f82_239, f82_240, f82_241, f82_243, f82_245, f82_247, hk270, hb220, hb222, hb224, hb226, hb228, hb230, hb232, hb234, hb236, by omega, hb242, hb244, hb246, hb248, by omega⟩), fun _ h => absurd h List.not_mem_nil⟩⟩), ((hF70.tr (hF205.up (by decide))).tr ((xFr.of (S := [82, 83, 85, 86, 87]) hb268 (by decide)).tr (xFr.of (S := [82, 83, 85, 86, 87]) hb271 (by decide)))), ⟨fun h => by have := pq280.1 h; omega, (show fld w269 82 10 = 0 ∨ FA w269 ≠ 0 by omega), Or.inr ⟨by have := ms218; omega, by omega, hM283⟩, hD290⟩⟩
      · refine xg_t (xg_ifT (u := f82_93) rfl xnm0 (xj_neT hc109)) ?_
        refine xg_t (xg_blk (b := [(416, 1, 0, 0, 0, 0), (417, 3, 13, 140, 96, 183)]) rfl) ?_
        refine xg_t (xg_aload (va := (2, 82)) rfl rfl) ?_
        refine xg_cVv mX12_ends (vs := []) (rest := []) (cn1 := 0) (sl1 := 0) rfl (mEnds (hI69) hj72.2.2.2) rfl h82_107 rfl rfl rfl rfl rfl rfl (fun w291 hq292 => ?_)
        obtain ⟨hI293, hF294, hx295⟩ := hq292
        clear hb78 hb80 hb82 hb84 hb86 hb88 hb90 hb92 hb94 hb96 hb100 hb102 hb104 hb106
        obtain ⟨hv296, hv297, hv298, hv299⟩ := hx295
        have pk300 : PK w68 w291 := ⟨fun _ => hv296, by omega, by omega, Or.inr hv296⟩
        have pk301 : PK w w291 := PK.tr hj72 pk300
        have os302 : ∀ j, (j < 5 ∨ 7 ≤ j) → j < 140 → rwv w291 86 j = rwv w 86 j := fun j hj hl => (rwv_fr hF294 (by decide)).trans (hj73 j hj hl)
        have rg303 : FA w291 ≠ 0 ∨ u45 < 1 := hj75.imp_left pk300.1
        have hl304 : rwv w291 86 (5) = rwv w68 86 (5) := rwv_fr hF294 (by decide)
        have hl305 : rwv w291 86 (6) = rwv w68 86 (6) := rwv_fr hF294 (by decide)
        have nw306 : FA w291 ≠ 0 ∨ 1 ≤ u45 ∨ (1 ≤ rwv w291 86 5 ∧ rwv w291 86 5 ≤ 6 ∧ 1 ≤ rwv w291 86 6 ∧ rwv w291 86 6 ≤ 6) := by have q := hj76; have q1 := pk300.1; omega
        clear hj76
        have ms307 : mu w291 < mu w := Nat.lt_of_le_of_lt pk300.2.1 hj74
        clear hj75
        refine xg_t (xg_blk (b := [(420, 1, 0, 0, 0, 0), (421, 3, 1, 12, 11, 17), (424, 1, 2, 1, 0, 0), (425, 1, 39, 0, 0, 0), (426, 1, 10, 0, 0, 0), (427, 1, 3, 1, 0, 0), (428, 1, 11, 0, 0, 0), (429, 1, 17, 0, 0, 0), (430, 1, 0, 0, 0, 0), (431, 1, 19, 0, 0, 0), (432, 3, 1, 12, 14, 212), (435, 1, 3, 1, 0, 0), (436, 1, 11, 0, 0, 0), (437, 3, 14, 12, 14, 212), (440, 1, 12, 0, 0, 0)]) rfl) ?_
        obtain ⟨f82_308, f82_310, f82_312, f82_314, f82_316, f82_318, f82_320, f82_322, f82_324, f82_326, f82_328, f82_329, f82_330, f82_332, f82_334, f82_336, h82_338, hb309, hb311, hb313, hb315, hb317, hb319, hb321, hb323, hb325, hb327, hb331, hb333, hb335, hb337, hb339⟩ := (hI293 82 (by decide) (by decide) : cp82 (wget w291 82))
        have hf340 : fld w291 82 4 = f82_312 := fld_of h82_338
        have hf341 : fld w291 82 5 = f82_314 := fld_of h82_338
        have hf342 : fld w291 82 7 = f82_318 := fld_of h82_338
        have hf343 : fld w291 82 10 = f82_324 := fld_of h82_338
        have hf344 : fld w291 82 14 = f82_326 := fld_of h82_338
        have hu345 : mu w291 = 2 * (fld w291 82 4 - fld w291 82 5) + min 1 (fld w291 82 7) := rfl
        have hf346 := pk301.2.2.1
        have hl347 : f82_326 ≤ 1000 := by omega
        refine xg_t (xg_aload (va := (2, 82)) rfl rfl) ?_
        refine xg_t (xg_getf (va := (2, 85)) h82_338 rfl) ?_
        refine xg_t (xg_iload (va := (0, 6)) rfl rfl) ?_
        refine xg_t (xg_dup2 rfl) ?_
        obtain ⟨g85_348, h85_349, hb350⟩ := (hI293 85 (by decide) (by decide) : cpI 7 52 4294967295 (wget w291 85))
        have h85_349 : xRow w291 85 7 52 g85_348 := h85_349
        refine xg_ialdB (n := 6) (B := 4294967295) h85_349 (hb350) xnm0 (by omega) (fun u351 hu352 he353 => ?_)
        have hl354 : u351 = u45 := by omega
        refine xg_t (xg_const) ?_
        refine xg_t (xg_iadd (u := u351) (v := 1) (z := u351 + 1) xnm0 xnm0 (by omega)) ?_
        refine xg_iastK (n := 6) (u := u351 + 1) h85_349 xnm0 xnm0 rfl (by omega) (fun w355 hr356 hb357 => ?_)
        refine xg_t (xg_aload (va := (2, 82)) rfl rfl) ?_
        refine xg_t (xg_dup rfl) ?_
        refine xg_t (xg_getf (va := (0, f82_326)) (hb357.get (by decide) h82_338) rfl) ?_
        refine xg_t (xg_const) ?_
        refine xg_t (xg_iadd (u := f82_326) (v := 1) (z := f82_326 + 1) xnm0 xnm0 (by omega)) ?_
        refine xg_putI (fl1 := [(2, 83), (2, 84), (0, f82_308), (0, f82_310), (0, f82_312), (0, f82_314), (0, f82_316), (0, f82_318), (0, f82_320), (0, f82_322), (0, f82_324), (2, 85), (2, 86), (2, 87), (0, f82_326 + 1), (2, 88), (2, 89), (2, 90), (2, 91), (2, 92), (2, 93), (2, 94), (4, f82_328), (4, f82_329), (0, f82_330), (2, 95), (2, 96), (2, 97), (2, 98), (2, 99), (2, 100), (2, 101), (2, 102), (0, f82_332), (2, 103), (2, 104), (2, 105), (2, 106), (2, 107), (2, 108), (2, 109), (0, f82_334), (0, f82_336), (2, 110), (2, 111), (2, 112), (2, 113)]) (hb357.get (by decide) h82_338) rfl rfl rfl (fun w358 hk359 hb360 => ?_)
        have hF361 : xFr [82, 85] w291 w358 := ((xFr.of (S := [82, 85]) hb357 (by decide)).tr (xFr.of (S := [82, 85]) hb360 (by decide)))
        have hA362 := FA_fr hF361 (by decide)
        have hf363 : fld w358 82 4 = f82_312 := fld_of hk359
        have hf364 : fld w358 82 5 = f82_314 := fld_of hk359
        have hf365 : fld w358 82 7 = f82_318 := fld_of hk359
        have hf366 : fld w358 82 10 = f82_324 := fld_of hk359
        have hf367 : fld w358 82 14 = f82_326 + 1 := fld_of hk359
        have hu368 : mu w358 = 2 * (fld w358 82 4 - fld w358 82 5) + min 1 (fld w358 82 7) := rfl
        have pq369 := pk301
        unfold PK PS at pq369
        have hM370 : ∀ s, s < 7 → s ≠ 6 → rwv w358 85 s = rwv w 85 s := fun s hs hn => (rwv_of (hr356.but hb360 (by decide)) hs).trans ((if_neg hn).trans (rwv_of h85_37 hs).symm)
        have hM371 : rwv w358 85 6 = u45 + 1 := (rwv_of (hr356.but hb360 (by decide)) (by decide)).trans ((if_pos rfl).trans (by omega))
        have hM372 : ∀ s, s < 7 → rwv w358 85 s ≤ rwv w 85 s + 1 := fun s hs => by
          by_cases z : s = 6
          · subst z; omega
          · rw [hM370 s hs z]; omega
        have hO373 : ∀ j, (j < 5 ∨ 7 ≤ j) → j < 140 → rwv w358 86 j = rwv w 86 j := fun j hj hl => (rwv_fr hF361 (by decide)).trans (os302 j hj hl)
        have hl375 : FA w291 ≠ 0 ∨ u45 < 1 := rg303
        have hl376 : rwv w358 86 (5) = rwv w291 86 (5) := rwv_fr hF361 (by decide)
        have hl377 : rwv w358 86 (6) = rwv w291 86 (6) := rwv_fr hF361 (by decide)
        have hN374 : FA w358 ≠ 0 ∨ 1 ≤ u45 ∨ (1 ≤ rwv w358 86 5 ∧ rwv w358 86 5 ≤ 6 ∧ 1 ≤ rwv w358 86 6 ∧ rwv w358 86 6 ≤ 6) := by have q := nw306; omega
        have hX378 : FA w358 ≠ 0 ∨ u45 < 1 := by omega
        have hD379 : FA w358 ≠ 0 ∨ (DATA w → DATA w358) := by
          by_cases z : FA w358 ≠ 0
          · exact Or.inl z
          · exact Or.inr (fun hd => hd.s6 hM370 hK48 hM371 (hX378.resolve_left z) hO373 ((hN374.resolve_left z).resolve_left (by have := hX378.resolve_left z; omega)))
        exact xg_e ⟨w358, ⟨rfl, rfl⟩, xMnv.up (S := [85, 82]) hI293 ((xFr.of (S := [85, 82]) hb357 (by decide)).tr (xFr.of (S := [85, 82]) hb360 (by decide))) (List.forall_mem_cons.mpr ⟨(show cpI 7 52 4294967295 (wget w358 85) from ⟨_, (hr356.but hb360 (by decide)), xrb (by omega) (hb350)⟩), List.forall_mem_cons.mpr ⟨(show cp82 (wget w358 82) from ⟨f82_308, f82_310, f82_312, f82_314, f82_316, f82_318, f82_320, f82_322, f82_324, f82_326 + 1, f82_328, f82_329, f82_330, f82_332, f82_334, f82_336, hk359, hb309, hb311, hb313, hb315, hb317, hb319, hb321, hb323, hb325, by omega, hb331, hb333, hb335, hb337, by omega⟩), fun _ h => absurd h List.not_mem_nil⟩⟩), ((hF70.tr (hF294.up (by decide))).tr ((xFr.of (S := [82, 83, 85, 86, 87]) hb357 (by decide)).tr (xFr.of (S := [82, 83, 85, 86, 87]) hb360 (by decide)))), ⟨fun h => by have := pq369.1 h; omega, (show fld w358 82 10 = 0 ∨ FA w358 ≠ 0 by omega), Or.inr ⟨by have := ms307; omega, by omega, hM372⟩, hD379⟩⟩
    refine xg_t (xg_iload (va := (0, 6)) rfl rfl) ?_
    refine xg_t (xg_swt (ks := [(0, 108), (1, 116), (2, 180), (3, 221), (4, 273), (5, 326)]) (u := 6) (z := 362) rfl rfl rfl xnm0 (xsw_n (by omega) (xsw_n (by omega) (xsw_n (by omega) (xsw_n (by omega) (xsw_n (by omega) (xsw_n (by omega) (xsw_d)))))))) ?_
    refine xg_t (xg_blk (b := [(362, 1, 3, 0, 0, 0), (363, 2, 15, 4, 0, 0)]) rfl) ?_
    refine xg_t (xg_const) ?_
    refine xg_t (xg_istore (l1 := [(3, (0, u45)), (2, (0, at_)), (1, (0, 6)), (0, (2, 82))]) rfl rfl rfl) ?_
    refine xg_t (xg_blk (b := [(365, 2, 2, 4, 0, 0), (367, 1, 3, 2, 0, 0), (368, 3, 6, 394, 3, 0), (371, 1, 0, 0, 0, 0), (372, 1, 2, 1, 0, 0), (373, 1, 2, 3, 0, 0), (374, 1, 3, 5, 0, 0), (375, 2, 2, 4, 0, 0), (377, 1, 11, 0, 0, 0), (378, 1, 0, 0, 0, 0), (379, 1, 3, 1, 0, 0), (380, 2, 4, 6, 0, 0), (382, 3, 13, 199, 96, 196), (385, 3, 13, 211, 96, 200), (388, 3, 9, 4, 1, 0), (391, 3, 8, 365, 0, 0)]) rfl) ?_
    refine xg_t (xg_iload (va := (0, 0)) rfl rfl) ?_
    refine xg_t (xg_const) ?_
    refine xg_t (xg_icF (u := 0) (v := 2) rfl xnm0 xnm0 (by decide)) ?_
    refine xg_t (xg_aload (va := (2, 82)) rfl rfl) ?_
    refine xg_t (xg_iload (va := (0, 6)) rfl rfl) ?_
    refine xg_t (xg_iload (va := (0, u45)) rfl rfl) ?_
    refine xg_t (xg_const) ?_
    refine xg_t (xg_iload (va := (0, 0)) rfl rfl) ?_
    refine xg_t (xg_iadd (u := 5) (v := 0) (z := 5) xnm0 xnm0 (by decide)) ?_
    refine xg_t (xg_aload (va := (2, 82)) rfl rfl) ?_
    refine xg_t (xg_const) ?_
    refine xg_t (xg_bip) ?_
    obtain ⟨f82_380, f82_382, f82_384, f82_386, f82_388, f82_390, f82_392, f82_394, f82_396, f82_398, f82_400, f82_401, f82_402, f82_404, f82_406, f82_408, h82_410, hb381, hb383, hb385, hb387, hb389, hb391, hb393, hb395, hb397, hb399, hb403, hb405, hb407, hb409, hb411⟩ := (hI54 82 (by decide) (by decide) : cp82 (wget w52 82))
    refine xg_cVi mX12_numbered (vs := [(0, 1), (0, 6)]) (rest := [(0, 5), (0, u45), (0, 6), (2, 82)]) (cn1 := 0) (sl1 := 0) rfl (mNumbered (hI54) (by omega) (by omega) pk64.2.2.2) rfl h82_410 rfl rfl rfl rfl rfl rfl (fun n416 w412 hq413 => ?_)
    obtain ⟨hn417, hI414, hF415⟩ := hq413
    clear hb381 hb383 hb385 hb387 hb389 hb391 hb393 hb395 hb397 hb399 hb403 hb405 hb407 hb409
    obtain ⟨hn418, hn419, hn420⟩ := hn417
    have pk421 : PK w w412 := PK.tr pk64 hn419
    have os422 : ∀ j, (j < 5 ∨ 7 ≤ j) → j < 140 → rwv w412 86 j = rwv w 86 j := fun j hj hl => (rwv_fr hF415 (by decide)).trans (os65 j hj hl)
    have ms423 : mu w412 < mu w := Nat.lt_of_le_of_lt hn419.2.1 ms66
    obtain ⟨f82_424, f82_426, f82_428, f82_430, f82_432, f82_434, f82_436, f82_438, f82_440, f82_442, f82_444, f82_445, f82_446, f82_448, f82_450, f82_452, h82_454, hb425, hb427, hb429, hb431, hb433, hb435, hb437, hb439, hb441, hb443, hb447, hb449, hb451, hb453, hb455⟩ := (hI414 82 (by decide) (by decide) : cp82 (wget w412 82))
    refine xg_cVv mX12_puts (vs := [(0, 6), (0, u45), (0, 5), (0, n416)]) (rest := []) (cn1 := 0) (sl1 := 0) rfl (mPuts6 (hI414) (by omega) (by omega) (by omega) (fun _ => by omega)) rfl h82_454 rfl rfl rfl rfl rfl rfl (fun w456 hq457 => ?_)
    obtain ⟨hI458, hF459, hx460⟩ := hq457
    obtain ⟨hp461, hp462⟩ := hx460
    have pk463 : PK w w456 := PK.tr pk421 (PK.fr hF459 (by decide) (by decide) pk421.2.2.2)
    have os464 : ∀ j, (j < 5 ∨ 7 ≤ j) → j < 140 → rwv w456 86 j = rwv w 86 j := fun j hj hl => (hp462 j (by omega) hl).trans (os422 j hj hl)
    have rg465 : FA w456 ≠ 0 ∨ (1 ≤ n416 ∧ n416 ≤ 6) := hn420.imp_left (PK.fr hF459 (by decide) (by decide) pk421.2.2.2).1
    have ms466 : mu w456 < mu w := Nat.lt_of_le_of_lt (PK.fr hF459 (by decide) (by decide) pk421.2.2.2).2.1 ms423
    clear hn420
    refine xg_t (xg_iinc (u := 0) (z := 1) (l1 := [(3, (0, u45)), (2, (0, at_)), (1, (0, 6)), (0, (2, 82))]) rfl rfl (by decide) rfl) ?_
    refine xg_t (xg_goto) ?_
    refine xg_t (xg_blk (b := [(365, 2, 2, 4, 0, 0), (367, 1, 3, 2, 0, 0), (368, 3, 6, 394, 3, 0), (371, 1, 0, 0, 0, 0), (372, 1, 2, 1, 0, 0), (373, 1, 2, 3, 0, 0), (374, 1, 3, 5, 0, 0), (375, 2, 2, 4, 0, 0), (377, 1, 11, 0, 0, 0), (378, 1, 0, 0, 0, 0), (379, 1, 3, 1, 0, 0), (380, 2, 4, 6, 0, 0), (382, 3, 13, 199, 96, 196), (385, 3, 13, 211, 96, 200), (388, 3, 9, 4, 1, 0), (391, 3, 8, 365, 0, 0)]) rfl) ?_
    refine xg_t (xg_iload (va := (0, 1)) rfl rfl) ?_
    refine xg_t (xg_const) ?_
    refine xg_t (xg_icF (u := 1) (v := 2) rfl xnm0 xnm0 (by decide)) ?_
    refine xg_t (xg_aload (va := (2, 82)) rfl rfl) ?_
    refine xg_t (xg_iload (va := (0, 6)) rfl rfl) ?_
    refine xg_t (xg_iload (va := (0, u45)) rfl rfl) ?_
    refine xg_t (xg_const) ?_
    refine xg_t (xg_iload (va := (0, 1)) rfl rfl) ?_
    refine xg_t (xg_iadd (u := 5) (v := 1) (z := 6) xnm0 xnm0 (by decide)) ?_
    refine xg_t (xg_aload (va := (2, 82)) rfl rfl) ?_
    refine xg_t (xg_const) ?_
    refine xg_t (xg_bip) ?_
    refine xg_cVi mX12_numbered (vs := [(0, 1), (0, 6)]) (rest := [(0, 6), (0, u45), (0, 6), (2, 82)]) (cn1 := 0) (sl1 := 0) rfl (mNumbered (hI458) (by omega) (by omega) pk463.2.2.2) rfl (hF459.get (by decide) h82_454) rfl rfl rfl rfl rfl rfl (fun n471 w467 hq468 => ?_)
    obtain ⟨hn472, hI469, hF470⟩ := hq468
    clear hb425 hb427 hb429 hb431 hb433 hb435 hb437 hb439 hb441 hb443 hb447 hb449 hb451 hb453
    obtain ⟨hn473, hn474, hn475⟩ := hn472
    have pk476 : PK w w467 := PK.tr pk463 hn474
    have os477 : ∀ j, (j < 5 ∨ 7 ≤ j) → j < 140 → rwv w467 86 j = rwv w 86 j := fun j hj hl => (rwv_fr hF470 (by decide)).trans (os464 j hj hl)
    have ix478 : u45 < 1 → rwv w467 86 (5) = n416 := fun h => (rwv_fr hF470 (by decide)).trans (hp461 h)
    have rg479 : FA w467 ≠ 0 ∨ (1 ≤ n416 ∧ n416 ≤ 6) := rg465.imp_left hn474.1
    have ms480 : mu w467 < mu w := Nat.lt_of_le_of_lt hn474.2.1 ms466
    clear hp461 rg465
    obtain ⟨f82_481, f82_483, f82_485, f82_487, f82_489, f82_491, f82_493, f82_495, f82_497, f82_499, f82_501, f82_502, f82_503, f82_505, f82_507, f82_509, h82_511, hb482, hb484, hb486, hb488, hb490, hb492, hb494, hb496, hb498, hb500, hb504, hb506, hb508, hb510, hb512⟩ := (hI469 82 (by decide) (by decide) : cp82 (wget w467 82))
    refine xg_cVv mX12_puts (vs := [(0, 6), (0, u45), (0, 6), (0, n471)]) (rest := []) (cn1 := 0) (sl1 := 0) rfl (mPuts6 (hI469) (by omega) (by omega) (by omega) (fun _ => by omega)) rfl h82_511 rfl rfl rfl rfl rfl rfl (fun w513 hq514 => ?_)
    obtain ⟨hI515, hF516, hx517⟩ := hq514
    obtain ⟨hp518, hp519⟩ := hx517
    have pk520 : PK w w513 := PK.tr pk476 (PK.fr hF516 (by decide) (by decide) pk476.2.2.2)
    have os521 : ∀ j, (j < 5 ∨ 7 ≤ j) → j < 140 → rwv w513 86 j = rwv w 86 j := fun j hj hl => (hp519 j (by omega) hl).trans (os477 j hj hl)
    have ix522 : u45 < 1 → rwv w513 86 (5) = n416 := fun h => (hp519 _ (by omega) (by omega)).trans (ix478 h)
    have rg523 : FA w513 ≠ 0 ∨ (1 ≤ n416 ∧ n416 ≤ 6) := rg479.imp_left (PK.fr hF516 (by decide) (by decide) pk476.2.2.2).1
    have rg524 : FA w513 ≠ 0 ∨ (1 ≤ n471 ∧ n471 ≤ 6) := hn475.imp_left (PK.fr hF516 (by decide) (by decide) pk476.2.2.2).1
    have ms525 : mu w513 < mu w := Nat.lt_of_le_of_lt (PK.fr hF516 (by decide) (by decide) pk476.2.2.2).2.1 ms480
    clear ix478 rg479 hn475
    refine xg_t (xg_iinc (u := 1) (z := 2) (l1 := [(3, (0, u45)), (2, (0, at_)), (1, (0, 6)), (0, (2, 82))]) rfl rfl (by decide) rfl) ?_
    refine xg_t (xg_goto) ?_
    refine xg_t (xg_blk (b := [(365, 2, 2, 4, 0, 0), (367, 1, 3, 2, 0, 0), (368, 3, 6, 394, 3, 0), (371, 1, 0, 0, 0, 0), (372, 1, 2, 1, 0, 0), (373, 1, 2, 3, 0, 0), (374, 1, 3, 5, 0, 0), (375, 2, 2, 4, 0, 0), (377, 1, 11, 0, 0, 0), (378, 1, 0, 0, 0, 0), (379, 1, 3, 1, 0, 0), (380, 2, 4, 6, 0, 0), (382, 3, 13, 199, 96, 196), (385, 3, 13, 211, 96, 200), (388, 3, 9, 4, 1, 0), (391, 3, 8, 365, 0, 0)]) rfl) ?_
    refine xg_t (xg_iload (va := (0, 2)) rfl rfl) ?_
    refine xg_t (xg_const) ?_
    refine xg_t (xg_icT (u := 2) (v := 2) rfl xnm0 xnm0 (by decide)) ?_
    refine xg_t (xg_drop (l1 := [(0, (2, 82)), (1, (0, 6)), (3, (0, u45))]) (List.forall_mem_cons.mpr ⟨List.mem_cons_of_mem _ (List.mem_cons_of_mem _ (List.mem_cons_of_mem _ (List.mem_cons_of_mem _ (List.mem_cons_self)))), List.forall_mem_cons.mpr ⟨List.mem_cons_of_mem _ (List.mem_cons_of_mem _ (List.mem_cons_of_mem _ (List.mem_cons_self))), List.forall_mem_cons.mpr ⟨List.mem_cons_of_mem _ (List.mem_cons_self), fun _ h => absurd h List.not_mem_nil⟩⟩⟩)) ?_
    have hX526 : FA w513 ≠ 0 ∨ u45 < 1 := Or.inr (by omega)
    have hN527 : FA w513 ≠ 0 ∨ 1 ≤ u45 ∨ (1 ≤ rwv w513 86 5 ∧ rwv w513 86 5 ≤ 6 ∧ 1 ≤ rwv w513 86 6 ∧ rwv w513 86 6 ≤ 6) := by
      have hl528 : u45 < 1 → rwv w513 86 (5) = n416 := ix522
      have hl529 : u45 < 1 → rwv w513 86 (6) = n471 := hp518
      have hl530 := rg523
      have hl531 := rg524
      omega
    exact jn67 w513 (hI515) ((((((hF55.up (by decide)).tr (hF415.up (by decide))).tr (hF459.up (by decide))).tr (hF470.up (by decide))).tr (hF516.up (by decide)))) (⟨pk520, os521, ms525, hX526, hN527⟩)
  · refine xg_t (xg_icF (u := u45) (v := 1) rfl xnm0 xnm0 (xj_ltF (by omega) (by omega))) ?_
    refine xg_t (xg_aload (va := (2, 82)) rfl rfl) ?_
    refine xg_t (xg_const) ?_
    refine xg_t (xg_iload (va := (0, at_)) rfl rfl) ?_
    refine xg_cVv mX12_also (vs := [(0, 3), (0, at_)]) (rest := []) (cn1 := 0) (sl1 := 0) rfl (mAlso (hI) (by omega) (by omega) (by omega) (PK.rf hps).2.2.2) rfl h82_31 rfl rfl rfl rfl rfl rfl (fun w532 hq533 => ?_)
    obtain ⟨hI534, hF535, hx536⟩ := hq533
    have pk537 : PK w w532 := ⟨fun _ => hx536, Nat.le_of_eq (mu_fr hF535 (by decide)), fld_fr hF535 (by decide), Or.inr hx536⟩
    have pk538 : PK w w532 := PK.tr (PK.rf hps) pk537
    have os539 : ∀ j, (j < 5 ∨ 7 ≤ j) → j < 140 → rwv w532 86 j = rwv w 86 j := fun j hj hl => (rwv_fr hF535 (by decide)).trans ((fun j _ _ => rfl) j hj hl)
    have hf540 := fld_fr (c := 82) (j := 7) hF535 (by decide)
    refine xg_t (xg_blk (b := [(64, 1, 0, 0, 0, 0), (65, 3, 13, 110, 96, 190), (68, 1, 2, 1, 0, 0), (69, 39, 33, 362, 0, 9)]) rfl) ?_
    refine xg_t (xg_aload (va := (2, 82)) rfl rfl) ?_
    refine xg_cVv mX12_advance (vs := []) (rest := []) (cn1 := 0) (sl1 := 0) rfl (mAdvance (hI534)) rfl (hF535.get (by decide) h82_31) rfl rfl rfl rfl rfl rfl (fun w541 hq542 => ?_)
    obtain ⟨hI543, hF544, hx545⟩ := hq542
    clear hb2 hb4 hb6 hb8 hb10 hb12 hb14 hb16 hb18 hb20 hb24 hb26 hb28 hb30
    obtain ⟨hv546, hv547, hv548, hv549⟩ := hx545
    have hf551 := FA_fr hF544 (by decide)
    have hs552 := pk538.2.2.2
    unfold PS at hs552
    have pk550 : PK w532 w541 := ⟨fun _ => by omega, hv546, hv549, (show fld w541 82 10 = 0 ∨ FA w541 ≠ 0 by omega)⟩
    clear hs552
    have pk553 : PK w w541 := PK.tr pk538 pk550
    have os554 : ∀ j, (j < 5 ∨ 7 ≤ j) → j < 140 → rwv w541 86 j = rwv w 86 j := fun j hj hl => (rwv_fr hF544 (by decide)).trans (os539 j hj hl)
    have rg555 : FA w541 ≠ 0 ∨ 0 = 1 := (Or.inl hx536 : FA w532 ≠ 0 ∨ 0 = 1).imp_left pk550.1
    have ms556 : mu w541 < mu w := Nat.lt_of_lt_of_le (hv547 (by omega)) pk538.2.1
    clear hv547
    have jn557 : ∀ (w558 : List (List xE)), xMnv w558 → xFr [82, 83, 85, 86, 87] w w558 → (PK w w558 ∧ (∀ j, (j < 5 ∨ 7 ≤ j) → j < 140 → rwv w558 86 j = rwv w 86 j) ∧ mu w558 < mu w ∧ (FA w558 ≠ 0 ∨ u45 < 1) ∧ (FA w558 ≠ 0 ∨ 1 ≤ u45 ∨ (1 ≤ rwv w558 86 5 ∧ rwv w558 86 5 ≤ 6 ∧ 1 ≤ rwv w558 86 6 ∧ rwv w558 86 6 ≤ 6))) → xTo (d + 7) mX12_aLine (394, [], [(0, (2, 82)), (1, (0, 6)), (3, (0, u45))], [], (w558, bd, fc, 0, 0, rr)) (fun φ => ∃ w', xEnd 0 [] (w', bd, fc, 0, 0, rr) φ ∧ xMnv w' ∧ xFr [82, 83, 85, 86, 87] w w' ∧ ((FA w ≠ 0 → FA w' ≠ 0) ∧ PS w' ∧ ((fld w' 82 10 = 1 ∧ mu w' = mu w ∧ fld w' 82 14 = fld w 82 14 ∧ ∀ s, s < 7 → rwv w' 85 s = rwv w 85 s) ∨ (mu w' < mu w ∧ fld w' 82 14 = fld w 82 14 + 1 ∧ ∀ s, s < 7 → rwv w' 85 s ≤ rwv w 85 s + 1)) ∧ (FA w' ≠ 0 ∨ (DATA w → DATA w')))) := by
      intro w558 hI559 hF560 he561
      obtain ⟨hj562, hj563, hj564, hj565, hj566⟩ := he561
      refine xg_t (xg_blk (b := [(394, 1, 0, 0, 0, 0), (395, 3, 1, 12, 10, 180), (398, 3, 7, 416, 1, 0), (401, 1, 0, 0, 0, 0), (402, 3, 1, 12, 7, 151), (405, 1, 3, 2, 0, 0), (406, 3, 6, 416, 1, 0), (409, 1, 0, 0, 0, 0), (410, 3, 13, 110, 96, 190), (413, 3, 8, 420, 0, 0)]) rfl) ?_
      refine xg_t (xg_aload (va := (2, 82)) rfl rfl) ?_
      obtain ⟨f82_567, f82_569, f82_571, f82_573, f82_575, f82_577, f82_579, f82_581, f82_583, f82_585, f82_587, f82_588, f82_589, f82_591, f82_593, f82_595, h82_597, hb568, hb570, hb572, hb574, hb576, hb578, hb580, hb582, hb584, hb586, hb590, hb592, hb594, hb596, hb598⟩ := (hI559 82 (by decide) (by decide) : cp82 (wget w558 82))
      refine xg_t (xg_getf (va := (0, f82_583)) h82_597 rfl) ?_
      by_cases hc599 : f82_583 = 0
      · refine xg_t (xg_ifF (u := f82_583) rfl xnm0 (xj_neF hc599)) ?_
        refine xg_t (xg_aload (va := (2, 82)) rfl rfl) ?_
        refine xg_t (xg_getf (va := (0, f82_577)) h82_597 rfl) ?_
        refine xg_t (xg_const) ?_
        by_cases hc600 : f82_577 = 2
        · refine xg_t (xg_icF (u := f82_577) (v := 2) rfl xnm0 xnm0 (xj_neF hc600)) ?_
          refine xg_t (xg_aload (va := (2, 82)) rfl rfl) ?_
          refine xg_cVv mX12_advance (vs := []) (rest := []) (cn1 := 0) (sl1 := 0) rfl (mAdvance (hI559)) rfl h82_597 rfl rfl rfl rfl rfl rfl (fun w601 hq602 => ?_)
          obtain ⟨hI603, hF604, hx605⟩ := hq602
          clear hb568 hb570 hb572 hb574 hb576 hb578 hb580 hb582 hb584 hb586 hb590 hb592 hb594 hb596
          obtain ⟨hv606, hv607, hv608, hv609⟩ := hx605
          have hf611 := FA_fr hF604 (by decide)
          have hs612 := hj562.2.2.2
          unfold PS at hs612
          have pk610 : PK w558 w601 := ⟨fun _ => by omega, hv606, hv609, (show fld w601 82 10 = 0 ∨ FA w601 ≠ 0 by omega)⟩
          clear hs612
          clear hv607
          have pk613 : PK w w601 := PK.tr hj562 pk610
          have os614 : ∀ j, (j < 5 ∨ 7 ≤ j) → j < 140 → rwv w601 86 j = rwv w 86 j := fun j hj hl => (rwv_fr hF604 (by decide)).trans (hj563 j hj hl)
          have rg615 : FA w601 ≠ 0 ∨ u45 < 1 := hj565.imp_left pk610.1
          have hl616 : rwv w601 86 (5) = rwv w558 86 (5) := rwv_fr hF604 (by decide)
          have hl617 : rwv w601 86 (6) = rwv w558 86 (6) := rwv_fr hF604 (by decide)
          have nw618 : FA w601 ≠ 0 ∨ 1 ≤ u45 ∨ (1 ≤ rwv w601 86 5 ∧ rwv w601 86 5 ≤ 6 ∧ 1 ≤ rwv w601 86 6 ∧ rwv w601 86 6 ≤ 6) := by have q := hj566; have q1 := pk610.1; omega
          clear hj566
          have ms619 : mu w601 < mu w := Nat.lt_of_le_of_lt pk610.2.1 hj564
          clear hj565
          refine xg_t (xg_goto) ?_
          refine xg_t (xg_blk (b := [(420, 1, 0, 0, 0, 0), (421, 3, 1, 12, 11, 17), (424, 1, 2, 1, 0, 0), (425, 1, 39, 0, 0, 0), (426, 1, 10, 0, 0, 0), (427, 1, 3, 1, 0, 0), (428, 1, 11, 0, 0, 0), (429, 1, 17, 0, 0, 0), (430, 1, 0, 0, 0, 0), (431, 1, 19, 0, 0, 0), (432, 3, 1, 12, 14, 212), (435, 1, 3, 1, 0, 0), (436, 1, 11, 0, 0, 0), (437, 3, 14, 12, 14, 212), (440, 1, 12, 0, 0, 0)]) rfl) ?_
          obtain ⟨f82_620, f82_622, f82_624, f82_626, f82_628, f82_630, f82_632, f82_634, f82_636, f82_638, f82_640, f82_641, f82_642, f82_644, f82_646, f82_648, h82_650, hb621, hb623, hb625, hb627, hb629, hb631, hb633, hb635, hb637, hb639, hb643, hb645, hb647, hb649, hb651⟩ := (hI603 82 (by decide) (by decide) : cp82 (wget w601 82))
          have hf652 : fld w601 82 4 = f82_624 := fld_of h82_650
          have hf653 : fld w601 82 5 = f82_626 := fld_of h82_650
          have hf654 : fld w601 82 7 = f82_630 := fld_of h82_650
          have hf655 : fld w601 82 10 = f82_636 := fld_of h82_650
          have hf656 : fld w601 82 14 = f82_638 := fld_of h82_650
          have hu657 : mu w601 = 2 * (fld w601 82 4 - fld w601 82 5) + min 1 (fld w601 82 7) := rfl
          have hf658 := pk613.2.2.1
          have hl659 : f82_638 ≤ 1000 := by omega
          refine xg_t (xg_aload (va := (2, 82)) rfl rfl) ?_
          refine xg_t (xg_getf (va := (2, 85)) h82_650 rfl) ?_
          refine xg_t (xg_iload (va := (0, 6)) rfl rfl) ?_
          refine xg_t (xg_dup2 rfl) ?_
          obtain ⟨g85_660, h85_661, hb662⟩ := (hI603 85 (by decide) (by decide) : cpI 7 52 4294967295 (wget w601 85))
          have h85_661 : xRow w601 85 7 52 g85_660 := h85_661
          refine xg_ialdB (n := 6) (B := 4294967295) h85_661 (hb662) xnm0 (by omega) (fun u663 hu664 he665 => ?_)
          have hl666 : u663 = u45 := by omega
          refine xg_t (xg_const) ?_
          refine xg_t (xg_iadd (u := u663) (v := 1) (z := u663 + 1) xnm0 xnm0 (by omega)) ?_
          refine xg_iastK (n := 6) (u := u663 + 1) h85_661 xnm0 xnm0 rfl (by omega) (fun w667 hr668 hb669 => ?_)
          refine xg_t (xg_aload (va := (2, 82)) rfl rfl) ?_
          refine xg_t (xg_dup rfl) ?_
          refine xg_t (xg_getf (va := (0, f82_638)) (hb669.get (by decide) h82_650) rfl) ?_
          refine xg_t (xg_const) ?_
          refine xg_t (xg_iadd (u := f82_638) (v := 1) (z := f82_638 + 1) xnm0 xnm0 (by omega)) ?_
          refine xg_putI (fl1 := [(2, 83), (2, 84), (0, f82_620), (0, f82_622), (0, f82_624), (0, f82_626), (0, f82_628), (0, f82_630), (0, f82_632), (0, f82_634), (0, f82_636), (2, 85), (2, 86), (2, 87), (0, f82_638 + 1), (2, 88), (2, 89), (2, 90), (2, 91), (2, 92), (2, 93), (2, 94), (4, f82_640), (4, f82_641), (0, f82_642), (2, 95), (2, 96), (2, 97), (2, 98), (2, 99), (2, 100), (2, 101), (2, 102), (0, f82_644), (2, 103), (2, 104), (2, 105), (2, 106), (2, 107), (2, 108), (2, 109), (0, f82_646), (0, f82_648), (2, 110), (2, 111), (2, 112), (2, 113)]) (hb669.get (by decide) h82_650) rfl rfl rfl (fun w670 hk671 hb672 => ?_)
          have hF673 : xFr [82, 85] w601 w670 := ((xFr.of (S := [82, 85]) hb669 (by decide)).tr (xFr.of (S := [82, 85]) hb672 (by decide)))
          have hA674 := FA_fr hF673 (by decide)
          have hf675 : fld w670 82 4 = f82_624 := fld_of hk671
          have hf676 : fld w670 82 5 = f82_626 := fld_of hk671
          have hf677 : fld w670 82 7 = f82_630 := fld_of hk671
          have hf678 : fld w670 82 10 = f82_636 := fld_of hk671
          have hf679 : fld w670 82 14 = f82_638 + 1 := fld_of hk671
          have hu680 : mu w670 = 2 * (fld w670 82 4 - fld w670 82 5) + min 1 (fld w670 82 7) := rfl
          have pq681 := pk613
          unfold PK PS at pq681
          have hM682 : ∀ s, s < 7 → s ≠ 6 → rwv w670 85 s = rwv w 85 s := fun s hs hn => (rwv_of (hr668.but hb672 (by decide)) hs).trans ((if_neg hn).trans (rwv_of h85_37 hs).symm)
          have hM683 : rwv w670 85 6 = u45 + 1 := (rwv_of (hr668.but hb672 (by decide)) (by decide)).trans ((if_pos rfl).trans (by omega))
          have hM684 : ∀ s, s < 7 → rwv w670 85 s ≤ rwv w 85 s + 1 := fun s hs => by
            by_cases z : s = 6
            · subst z; omega
            · rw [hM682 s hs z]; omega
          have hO685 : ∀ j, (j < 5 ∨ 7 ≤ j) → j < 140 → rwv w670 86 j = rwv w 86 j := fun j hj hl => (rwv_fr hF673 (by decide)).trans (os614 j hj hl)
          have hl687 : FA w601 ≠ 0 ∨ u45 < 1 := rg615
          have hl688 : rwv w670 86 (5) = rwv w601 86 (5) := rwv_fr hF673 (by decide)
          have hl689 : rwv w670 86 (6) = rwv w601 86 (6) := rwv_fr hF673 (by decide)
          have hN686 : FA w670 ≠ 0 ∨ 1 ≤ u45 ∨ (1 ≤ rwv w670 86 5 ∧ rwv w670 86 5 ≤ 6 ∧ 1 ≤ rwv w670 86 6 ∧ rwv w670 86 6 ≤ 6) := by have q := nw618; omega
          have hX690 : FA w670 ≠ 0 ∨ u45 < 1 := by omega
          have hD691 : FA w670 ≠ 0 ∨ (DATA w → DATA w670) := by
            by_cases z : FA w670 ≠ 0
            · exact Or.inl z
            · exact Or.inr (fun hd => hd.s6 hM682 hK48 hM683 (hX690.resolve_left z) hO685 ((hN686.resolve_left z).resolve_left (by have := hX690.resolve_left z; omega)))
          exact xg_e ⟨w670, ⟨rfl, rfl⟩, xMnv.up (S := [85, 82]) hI603 ((xFr.of (S := [85, 82]) hb669 (by decide)).tr (xFr.of (S := [85, 82]) hb672 (by decide))) (List.forall_mem_cons.mpr ⟨(show cpI 7 52 4294967295 (wget w670 85) from ⟨_, (hr668.but hb672 (by decide)), xrb (by omega) (hb662)⟩), List.forall_mem_cons.mpr ⟨(show cp82 (wget w670 82) from ⟨f82_620, f82_622, f82_624, f82_626, f82_628, f82_630, f82_632, f82_634, f82_636, f82_638 + 1, f82_640, f82_641, f82_642, f82_644, f82_646, f82_648, hk671, hb621, hb623, hb625, hb627, hb629, hb631, hb633, hb635, hb637, by omega, hb643, hb645, hb647, hb649, by omega⟩), fun _ h => absurd h List.not_mem_nil⟩⟩), ((hF560.tr (hF604.up (by decide))).tr ((xFr.of (S := [82, 83, 85, 86, 87]) hb669 (by decide)).tr (xFr.of (S := [82, 83, 85, 86, 87]) hb672 (by decide)))), ⟨fun h => by have := pq681.1 h; omega, (show fld w670 82 10 = 0 ∨ FA w670 ≠ 0 by omega), Or.inr ⟨by have := ms619; omega, by omega, hM684⟩, hD691⟩⟩
        · refine xg_t (xg_icT (u := f82_577) (v := 2) rfl xnm0 xnm0 (xj_neT hc600)) ?_
          refine xg_t (xg_blk (b := [(416, 1, 0, 0, 0, 0), (417, 3, 13, 140, 96, 183)]) rfl) ?_
          refine xg_t (xg_aload (va := (2, 82)) rfl rfl) ?_
          refine xg_cVv mX12_ends (vs := []) (rest := []) (cn1 := 0) (sl1 := 0) rfl (mEnds (hI559) hj562.2.2.2) rfl h82_597 rfl rfl rfl rfl rfl rfl (fun w692 hq693 => ?_)
          obtain ⟨hI694, hF695, hx696⟩ := hq693
          clear hb568 hb570 hb572 hb574 hb576 hb578 hb580 hb582 hb584 hb586 hb590 hb592 hb594 hb596
          obtain ⟨hv697, hv698, hv699, hv700⟩ := hx696
          have pk701 : PK w558 w692 := ⟨fun _ => hv697, by omega, by omega, Or.inr hv697⟩
          have pk702 : PK w w692 := PK.tr hj562 pk701
          have os703 : ∀ j, (j < 5 ∨ 7 ≤ j) → j < 140 → rwv w692 86 j = rwv w 86 j := fun j hj hl => (rwv_fr hF695 (by decide)).trans (hj563 j hj hl)
          have rg704 : FA w692 ≠ 0 ∨ u45 < 1 := hj565.imp_left pk701.1
          have hl705 : rwv w692 86 (5) = rwv w558 86 (5) := rwv_fr hF695 (by decide)
          have hl706 : rwv w692 86 (6) = rwv w558 86 (6) := rwv_fr hF695 (by decide)
          have nw707 : FA w692 ≠ 0 ∨ 1 ≤ u45 ∨ (1 ≤ rwv w692 86 5 ∧ rwv w692 86 5 ≤ 6 ∧ 1 ≤ rwv w692 86 6 ∧ rwv w692 86 6 ≤ 6) := by have q := hj566; have q1 := pk701.1; omega
          clear hj566
          have ms708 : mu w692 < mu w := Nat.lt_of_le_of_lt pk701.2.1 hj564
          clear hj565
          refine xg_t (xg_blk (b := [(420, 1, 0, 0, 0, 0), (421, 3, 1, 12, 11, 17), (424, 1, 2, 1, 0, 0), (425, 1, 39, 0, 0, 0), (426, 1, 10, 0, 0, 0), (427, 1, 3, 1, 0, 0), (428, 1, 11, 0, 0, 0), (429, 1, 17, 0, 0, 0), (430, 1, 0, 0, 0, 0), (431, 1, 19, 0, 0, 0), (432, 3, 1, 12, 14, 212), (435, 1, 3, 1, 0, 0), (436, 1, 11, 0, 0, 0), (437, 3, 14, 12, 14, 212), (440, 1, 12, 0, 0, 0)]) rfl) ?_
          obtain ⟨f82_709, f82_711, f82_713, f82_715, f82_717, f82_719, f82_721, f82_723, f82_725, f82_727, f82_729, f82_730, f82_731, f82_733, f82_735, f82_737, h82_739, hb710, hb712, hb714, hb716, hb718, hb720, hb722, hb724, hb726, hb728, hb732, hb734, hb736, hb738, hb740⟩ := (hI694 82 (by decide) (by decide) : cp82 (wget w692 82))
          have hf741 : fld w692 82 4 = f82_713 := fld_of h82_739
          have hf742 : fld w692 82 5 = f82_715 := fld_of h82_739
          have hf743 : fld w692 82 7 = f82_719 := fld_of h82_739
          have hf744 : fld w692 82 10 = f82_725 := fld_of h82_739
          have hf745 : fld w692 82 14 = f82_727 := fld_of h82_739
          have hu746 : mu w692 = 2 * (fld w692 82 4 - fld w692 82 5) + min 1 (fld w692 82 7) := rfl
          have hf747 := pk702.2.2.1
          have hl748 : f82_727 ≤ 1000 := by omega
          refine xg_t (xg_aload (va := (2, 82)) rfl rfl) ?_
          refine xg_t (xg_getf (va := (2, 85)) h82_739 rfl) ?_
          refine xg_t (xg_iload (va := (0, 6)) rfl rfl) ?_
          refine xg_t (xg_dup2 rfl) ?_
          obtain ⟨g85_749, h85_750, hb751⟩ := (hI694 85 (by decide) (by decide) : cpI 7 52 4294967295 (wget w692 85))
          have h85_750 : xRow w692 85 7 52 g85_749 := h85_750
          refine xg_ialdB (n := 6) (B := 4294967295) h85_750 (hb751) xnm0 (by omega) (fun u752 hu753 he754 => ?_)
          have hl755 : u752 = u45 := by omega
          refine xg_t (xg_const) ?_
          refine xg_t (xg_iadd (u := u752) (v := 1) (z := u752 + 1) xnm0 xnm0 (by omega)) ?_
          refine xg_iastK (n := 6) (u := u752 + 1) h85_750 xnm0 xnm0 rfl (by omega) (fun w756 hr757 hb758 => ?_)
          refine xg_t (xg_aload (va := (2, 82)) rfl rfl) ?_
          refine xg_t (xg_dup rfl) ?_
          refine xg_t (xg_getf (va := (0, f82_727)) (hb758.get (by decide) h82_739) rfl) ?_
          refine xg_t (xg_const) ?_
          refine xg_t (xg_iadd (u := f82_727) (v := 1) (z := f82_727 + 1) xnm0 xnm0 (by omega)) ?_
          refine xg_putI (fl1 := [(2, 83), (2, 84), (0, f82_709), (0, f82_711), (0, f82_713), (0, f82_715), (0, f82_717), (0, f82_719), (0, f82_721), (0, f82_723), (0, f82_725), (2, 85), (2, 86), (2, 87), (0, f82_727 + 1), (2, 88), (2, 89), (2, 90), (2, 91), (2, 92), (2, 93), (2, 94), (4, f82_729), (4, f82_730), (0, f82_731), (2, 95), (2, 96), (2, 97), (2, 98), (2, 99), (2, 100), (2, 101), (2, 102), (0, f82_733), (2, 103), (2, 104), (2, 105), (2, 106), (2, 107), (2, 108), (2, 109), (0, f82_735), (0, f82_737), (2, 110), (2, 111), (2, 112), (2, 113)]) (hb758.get (by decide) h82_739) rfl rfl rfl (fun w759 hk760 hb761 => ?_)
          have hF762 : xFr [82, 85] w692 w759 := ((xFr.of (S := [82, 85]) hb758 (by decide)).tr (xFr.of (S := [82, 85]) hb761 (by decide)))
          have hA763 := FA_fr hF762 (by decide)
          have hf764 : fld w759 82 4 = f82_713 := fld_of hk760
          have hf765 : fld w759 82 5 = f82_715 := fld_of hk760
          have hf766 : fld w759 82 7 = f82_719 := fld_of hk760
          have hf767 : fld w759 82 10 = f82_725 := fld_of hk760
          have hf768 : fld w759 82 14 = f82_727 + 1 := fld_of hk760
          have hu769 : mu w759 = 2 * (fld w759 82 4 - fld w759 82 5) + min 1 (fld w759 82 7) := rfl
          have pq770 := pk702
          unfold PK PS at pq770
          have hM771 : ∀ s, s < 7 → s ≠ 6 → rwv w759 85 s = rwv w 85 s := fun s hs hn => (rwv_of (hr757.but hb761 (by decide)) hs).trans ((if_neg hn).trans (rwv_of h85_37 hs).symm)
          have hM772 : rwv w759 85 6 = u45 + 1 := (rwv_of (hr757.but hb761 (by decide)) (by decide)).trans ((if_pos rfl).trans (by omega))
          have hM773 : ∀ s, s < 7 → rwv w759 85 s ≤ rwv w 85 s + 1 := fun s hs => by
            by_cases z : s = 6
            · subst z; omega
            · rw [hM771 s hs z]; omega
          have hO774 : ∀ j, (j < 5 ∨ 7 ≤ j) → j < 140 → rwv w759 86 j = rwv w 86 j := fun j hj hl => (rwv_fr hF762 (by decide)).trans (os703 j hj hl)
          have hl776 : FA w692 ≠ 0 ∨ u45 < 1 := rg704
          have hl777 : rwv w759 86 (5) = rwv w692 86 (5) := rwv_fr hF762 (by decide)
          have hl778 : rwv w759 86 (6) = rwv w692 86 (6) := rwv_fr hF762 (by decide)
          have hN775 : FA w759 ≠ 0 ∨ 1 ≤ u45 ∨ (1 ≤ rwv w759 86 5 ∧ rwv w759 86 5 ≤ 6 ∧ 1 ≤ rwv w759 86 6 ∧ rwv w759 86 6 ≤ 6) := by have q := nw707; omega
          have hX779 : FA w759 ≠ 0 ∨ u45 < 1 := by omega
          have hD780 : FA w759 ≠ 0 ∨ (DATA w → DATA w759) := by
            by_cases z : FA w759 ≠ 0
            · exact Or.inl z
            · exact Or.inr (fun hd => hd.s6 hM771 hK48 hM772 (hX779.resolve_left z) hO774 ((hN775.resolve_left z).resolve_left (by have := hX779.resolve_left z; omega)))
          exact xg_e ⟨w759, ⟨rfl, rfl⟩, xMnv.up (S := [85, 82]) hI694 ((xFr.of (S := [85, 82]) hb758 (by decide)).tr (xFr.of (S := [85, 82]) hb761 (by decide))) (List.forall_mem_cons.mpr ⟨(show cpI 7 52 4294967295 (wget w759 85) from ⟨_, (hr757.but hb761 (by decide)), xrb (by omega) (hb751)⟩), List.forall_mem_cons.mpr ⟨(show cp82 (wget w759 82) from ⟨f82_709, f82_711, f82_713, f82_715, f82_717, f82_719, f82_721, f82_723, f82_725, f82_727 + 1, f82_729, f82_730, f82_731, f82_733, f82_735, f82_737, hk760, hb710, hb712, hb714, hb716, hb718, hb720, hb722, hb724, hb726, by omega, hb732, hb734, hb736, hb738, by omega⟩), fun _ h => absurd h List.not_mem_nil⟩⟩), ((hF560.tr (hF695.up (by decide))).tr ((xFr.of (S := [82, 83, 85, 86, 87]) hb758 (by decide)).tr (xFr.of (S := [82, 83, 85, 86, 87]) hb761 (by decide)))), ⟨fun h => by have := pq770.1 h; omega, (show fld w759 82 10 = 0 ∨ FA w759 ≠ 0 by omega), Or.inr ⟨by have := ms708; omega, by omega, hM773⟩, hD780⟩⟩
      · refine xg_t (xg_ifT (u := f82_583) rfl xnm0 (xj_neT hc599)) ?_
        refine xg_t (xg_blk (b := [(416, 1, 0, 0, 0, 0), (417, 3, 13, 140, 96, 183)]) rfl) ?_
        refine xg_t (xg_aload (va := (2, 82)) rfl rfl) ?_
        refine xg_cVv mX12_ends (vs := []) (rest := []) (cn1 := 0) (sl1 := 0) rfl (mEnds (hI559) hj562.2.2.2) rfl h82_597 rfl rfl rfl rfl rfl rfl (fun w781 hq782 => ?_)
        obtain ⟨hI783, hF784, hx785⟩ := hq782
        clear hb568 hb570 hb572 hb574 hb576 hb578 hb580 hb582 hb584 hb586 hb590 hb592 hb594 hb596
        obtain ⟨hv786, hv787, hv788, hv789⟩ := hx785
        have pk790 : PK w558 w781 := ⟨fun _ => hv786, by omega, by omega, Or.inr hv786⟩
        have pk791 : PK w w781 := PK.tr hj562 pk790
        have os792 : ∀ j, (j < 5 ∨ 7 ≤ j) → j < 140 → rwv w781 86 j = rwv w 86 j := fun j hj hl => (rwv_fr hF784 (by decide)).trans (hj563 j hj hl)
        have rg793 : FA w781 ≠ 0 ∨ u45 < 1 := hj565.imp_left pk790.1
        have hl794 : rwv w781 86 (5) = rwv w558 86 (5) := rwv_fr hF784 (by decide)
        have hl795 : rwv w781 86 (6) = rwv w558 86 (6) := rwv_fr hF784 (by decide)
        have nw796 : FA w781 ≠ 0 ∨ 1 ≤ u45 ∨ (1 ≤ rwv w781 86 5 ∧ rwv w781 86 5 ≤ 6 ∧ 1 ≤ rwv w781 86 6 ∧ rwv w781 86 6 ≤ 6) := by have q := hj566; have q1 := pk790.1; omega
        clear hj566
        have ms797 : mu w781 < mu w := Nat.lt_of_le_of_lt pk790.2.1 hj564
        clear hj565
        refine xg_t (xg_blk (b := [(420, 1, 0, 0, 0, 0), (421, 3, 1, 12, 11, 17), (424, 1, 2, 1, 0, 0), (425, 1, 39, 0, 0, 0), (426, 1, 10, 0, 0, 0), (427, 1, 3, 1, 0, 0), (428, 1, 11, 0, 0, 0), (429, 1, 17, 0, 0, 0), (430, 1, 0, 0, 0, 0), (431, 1, 19, 0, 0, 0), (432, 3, 1, 12, 14, 212), (435, 1, 3, 1, 0, 0), (436, 1, 11, 0, 0, 0), (437, 3, 14, 12, 14, 212), (440, 1, 12, 0, 0, 0)]) rfl) ?_
        obtain ⟨f82_798, f82_800, f82_802, f82_804, f82_806, f82_808, f82_810, f82_812, f82_814, f82_816, f82_818, f82_819, f82_820, f82_822, f82_824, f82_826, h82_828, hb799, hb801, hb803, hb805, hb807, hb809, hb811, hb813, hb815, hb817, hb821, hb823, hb825, hb827, hb829⟩ := (hI783 82 (by decide) (by decide) : cp82 (wget w781 82))
        have hf830 : fld w781 82 4 = f82_802 := fld_of h82_828
        have hf831 : fld w781 82 5 = f82_804 := fld_of h82_828
        have hf832 : fld w781 82 7 = f82_808 := fld_of h82_828
        have hf833 : fld w781 82 10 = f82_814 := fld_of h82_828
        have hf834 : fld w781 82 14 = f82_816 := fld_of h82_828
        have hu835 : mu w781 = 2 * (fld w781 82 4 - fld w781 82 5) + min 1 (fld w781 82 7) := rfl
        have hf836 := pk791.2.2.1
        have hl837 : f82_816 ≤ 1000 := by omega
        refine xg_t (xg_aload (va := (2, 82)) rfl rfl) ?_
        refine xg_t (xg_getf (va := (2, 85)) h82_828 rfl) ?_
        refine xg_t (xg_iload (va := (0, 6)) rfl rfl) ?_
        refine xg_t (xg_dup2 rfl) ?_
        obtain ⟨g85_838, h85_839, hb840⟩ := (hI783 85 (by decide) (by decide) : cpI 7 52 4294967295 (wget w781 85))
        have h85_839 : xRow w781 85 7 52 g85_838 := h85_839
        refine xg_ialdB (n := 6) (B := 4294967295) h85_839 (hb840) xnm0 (by omega) (fun u841 hu842 he843 => ?_)
        have hl844 : u841 = u45 := by omega
        refine xg_t (xg_const) ?_
        refine xg_t (xg_iadd (u := u841) (v := 1) (z := u841 + 1) xnm0 xnm0 (by omega)) ?_
        refine xg_iastK (n := 6) (u := u841 + 1) h85_839 xnm0 xnm0 rfl (by omega) (fun w845 hr846 hb847 => ?_)
        refine xg_t (xg_aload (va := (2, 82)) rfl rfl) ?_
        refine xg_t (xg_dup rfl) ?_
        refine xg_t (xg_getf (va := (0, f82_816)) (hb847.get (by decide) h82_828) rfl) ?_
        refine xg_t (xg_const) ?_
        refine xg_t (xg_iadd (u := f82_816) (v := 1) (z := f82_816 + 1) xnm0 xnm0 (by omega)) ?_
        refine xg_putI (fl1 := [(2, 83), (2, 84), (0, f82_798), (0, f82_800), (0, f82_802), (0, f82_804), (0, f82_806), (0, f82_808), (0, f82_810), (0, f82_812), (0, f82_814), (2, 85), (2, 86), (2, 87), (0, f82_816 + 1), (2, 88), (2, 89), (2, 90), (2, 91), (2, 92), (2, 93), (2, 94), (4, f82_818), (4, f82_819), (0, f82_820), (2, 95), (2, 96), (2, 97), (2, 98), (2, 99), (2, 100), (2, 101), (2, 102), (0, f82_822), (2, 103), (2, 104), (2, 105), (2, 106), (2, 107), (2, 108), (2, 109), (0, f82_824), (0, f82_826), (2, 110), (2, 111), (2, 112), (2, 113)]) (hb847.get (by decide) h82_828) rfl rfl rfl (fun w848 hk849 hb850 => ?_)
        have hF851 : xFr [82, 85] w781 w848 := ((xFr.of (S := [82, 85]) hb847 (by decide)).tr (xFr.of (S := [82, 85]) hb850 (by decide)))
        have hA852 := FA_fr hF851 (by decide)
        have hf853 : fld w848 82 4 = f82_802 := fld_of hk849
        have hf854 : fld w848 82 5 = f82_804 := fld_of hk849
        have hf855 : fld w848 82 7 = f82_808 := fld_of hk849
        have hf856 : fld w848 82 10 = f82_814 := fld_of hk849
        have hf857 : fld w848 82 14 = f82_816 + 1 := fld_of hk849
        have hu858 : mu w848 = 2 * (fld w848 82 4 - fld w848 82 5) + min 1 (fld w848 82 7) := rfl
        have pq859 := pk791
        unfold PK PS at pq859
        have hM860 : ∀ s, s < 7 → s ≠ 6 → rwv w848 85 s = rwv w 85 s := fun s hs hn => (rwv_of (hr846.but hb850 (by decide)) hs).trans ((if_neg hn).trans (rwv_of h85_37 hs).symm)
        have hM861 : rwv w848 85 6 = u45 + 1 := (rwv_of (hr846.but hb850 (by decide)) (by decide)).trans ((if_pos rfl).trans (by omega))
        have hM862 : ∀ s, s < 7 → rwv w848 85 s ≤ rwv w 85 s + 1 := fun s hs => by
          by_cases z : s = 6
          · subst z; omega
          · rw [hM860 s hs z]; omega
        have hO863 : ∀ j, (j < 5 ∨ 7 ≤ j) → j < 140 → rwv w848 86 j = rwv w 86 j := fun j hj hl => (rwv_fr hF851 (by decide)).trans (os792 j hj hl)
        have hl865 : FA w781 ≠ 0 ∨ u45 < 1 := rg793
        have hl866 : rwv w848 86 (5) = rwv w781 86 (5) := rwv_fr hF851 (by decide)
        have hl867 : rwv w848 86 (6) = rwv w781 86 (6) := rwv_fr hF851 (by decide)
        have hN864 : FA w848 ≠ 0 ∨ 1 ≤ u45 ∨ (1 ≤ rwv w848 86 5 ∧ rwv w848 86 5 ≤ 6 ∧ 1 ≤ rwv w848 86 6 ∧ rwv w848 86 6 ≤ 6) := by have q := nw796; omega
        have hX868 : FA w848 ≠ 0 ∨ u45 < 1 := by omega
        have hD869 : FA w848 ≠ 0 ∨ (DATA w → DATA w848) := by
          by_cases z : FA w848 ≠ 0
          · exact Or.inl z
          · exact Or.inr (fun hd => hd.s6 hM860 hK48 hM861 (hX868.resolve_left z) hO863 ((hN864.resolve_left z).resolve_left (by have := hX868.resolve_left z; omega)))
        exact xg_e ⟨w848, ⟨rfl, rfl⟩, xMnv.up (S := [85, 82]) hI783 ((xFr.of (S := [85, 82]) hb847 (by decide)).tr (xFr.of (S := [85, 82]) hb850 (by decide))) (List.forall_mem_cons.mpr ⟨(show cpI 7 52 4294967295 (wget w848 85) from ⟨_, (hr846.but hb850 (by decide)), xrb (by omega) (hb840)⟩), List.forall_mem_cons.mpr ⟨(show cp82 (wget w848 82) from ⟨f82_798, f82_800, f82_802, f82_804, f82_806, f82_808, f82_810, f82_812, f82_814, f82_816 + 1, f82_818, f82_819, f82_820, f82_822, f82_824, f82_826, hk849, hb799, hb801, hb803, hb805, hb807, hb809, hb811, hb813, hb815, by omega, hb821, hb823, hb825, hb827, by omega⟩), fun _ h => absurd h List.not_mem_nil⟩⟩), ((hF560.tr (hF784.up (by decide))).tr ((xFr.of (S := [82, 83, 85, 86, 87]) hb847 (by decide)).tr (xFr.of (S := [82, 83, 85, 86, 87]) hb850 (by decide)))), ⟨fun h => by have := pq859.1 h; omega, (show fld w848 82 10 = 0 ∨ FA w848 ≠ 0 by omega), Or.inr ⟨by have := ms797; omega, by omega, hM862⟩, hD869⟩⟩
    refine xg_t (xg_iload (va := (0, 6)) rfl rfl) ?_
    refine xg_t (xg_swt (ks := [(0, 108), (1, 116), (2, 180), (3, 221), (4, 273), (5, 326)]) (u := 6) (z := 362) rfl rfl rfl xnm0 (xsw_n (by omega) (xsw_n (by omega) (xsw_n (by omega) (xsw_n (by omega) (xsw_n (by omega) (xsw_n (by omega) (xsw_d)))))))) ?_
    refine xg_t (xg_blk (b := [(362, 1, 3, 0, 0, 0), (363, 2, 15, 4, 0, 0)]) rfl) ?_
    refine xg_t (xg_const) ?_
    refine xg_t (xg_istore (l1 := [(3, (0, u45)), (2, (0, at_)), (1, (0, 6)), (0, (2, 82))]) rfl rfl rfl) ?_
    refine xg_t (xg_blk (b := [(365, 2, 2, 4, 0, 0), (367, 1, 3, 2, 0, 0), (368, 3, 6, 394, 3, 0), (371, 1, 0, 0, 0, 0), (372, 1, 2, 1, 0, 0), (373, 1, 2, 3, 0, 0), (374, 1, 3, 5, 0, 0), (375, 2, 2, 4, 0, 0), (377, 1, 11, 0, 0, 0), (378, 1, 0, 0, 0, 0), (379, 1, 3, 1, 0, 0), (380, 2, 4, 6, 0, 0), (382, 3, 13, 199, 96, 196), (385, 3, 13, 211, 96, 200), (388, 3, 9, 4, 1, 0), (391, 3, 8, 365, 0, 0)]) rfl) ?_
    refine xg_t (xg_iload (va := (0, 0)) rfl rfl) ?_
    refine xg_t (xg_const) ?_
    refine xg_t (xg_icF (u := 0) (v := 2) rfl xnm0 xnm0 (by decide)) ?_
    refine xg_t (xg_aload (va := (2, 82)) rfl rfl) ?_
    refine xg_t (xg_iload (va := (0, 6)) rfl rfl) ?_
    refine xg_t (xg_iload (va := (0, u45)) rfl rfl) ?_
    refine xg_t (xg_const) ?_
    refine xg_t (xg_iload (va := (0, 0)) rfl rfl) ?_
    refine xg_t (xg_iadd (u := 5) (v := 0) (z := 5) xnm0 xnm0 (by decide)) ?_
    refine xg_t (xg_aload (va := (2, 82)) rfl rfl) ?_
    refine xg_t (xg_const) ?_
    refine xg_t (xg_bip) ?_
    obtain ⟨f82_870, f82_872, f82_874, f82_876, f82_878, f82_880, f82_882, f82_884, f82_886, f82_888, f82_890, f82_891, f82_892, f82_894, f82_896, f82_898, h82_900, hb871, hb873, hb875, hb877, hb879, hb881, hb883, hb885, hb887, hb889, hb893, hb895, hb897, hb899, hb901⟩ := (hI543 82 (by decide) (by decide) : cp82 (wget w541 82))
    refine xg_cVi mX12_numbered (vs := [(0, 1), (0, 6)]) (rest := [(0, 5), (0, u45), (0, 6), (2, 82)]) (cn1 := 0) (sl1 := 0) rfl (mNumbered (hI543) (by omega) (by omega) pk553.2.2.2) rfl h82_900 rfl rfl rfl rfl rfl rfl (fun n906 w902 hq903 => ?_)
    obtain ⟨hn907, hI904, hF905⟩ := hq903
    clear hb871 hb873 hb875 hb877 hb879 hb881 hb883 hb885 hb887 hb889 hb893 hb895 hb897 hb899
    obtain ⟨hn908, hn909, hn910⟩ := hn907
    have pk911 : PK w w902 := PK.tr pk553 hn909
    have os912 : ∀ j, (j < 5 ∨ 7 ≤ j) → j < 140 → rwv w902 86 j = rwv w 86 j := fun j hj hl => (rwv_fr hF905 (by decide)).trans (os554 j hj hl)
    have rg913 : FA w902 ≠ 0 ∨ 0 = 1 := rg555.imp_left hn909.1
    have ms914 : mu w902 < mu w := Nat.lt_of_le_of_lt hn909.2.1 ms556
    clear rg555
    obtain ⟨f82_915, f82_917, f82_919, f82_921, f82_923, f82_925, f82_927, f82_929, f82_931, f82_933, f82_935, f82_936, f82_937, f82_939, f82_941, f82_943, h82_945, hb916, hb918, hb920, hb922, hb924, hb926, hb928, hb930, hb932, hb934, hb938, hb940, hb942, hb944, hb946⟩ := (hI904 82 (by decide) (by decide) : cp82 (wget w902 82))
    refine xg_cVv mX12_puts (vs := [(0, 6), (0, u45), (0, 5), (0, n906)]) (rest := []) (cn1 := 0) (sl1 := 0) rfl (mPuts6 (hI904) (by omega) (by omega) (by omega) (fun _ => by omega)) rfl h82_945 rfl rfl rfl rfl rfl rfl (fun w947 hq948 => ?_)
    obtain ⟨hI949, hF950, hx951⟩ := hq948
    obtain ⟨hp952, hp953⟩ := hx951
    have pk954 : PK w w947 := PK.tr pk911 (PK.fr hF950 (by decide) (by decide) pk911.2.2.2)
    have os955 : ∀ j, (j < 5 ∨ 7 ≤ j) → j < 140 → rwv w947 86 j = rwv w 86 j := fun j hj hl => (hp953 j (by omega) hl).trans (os912 j hj hl)
    have rg956 : FA w947 ≠ 0 ∨ 0 = 1 := rg913.imp_left (PK.fr hF950 (by decide) (by decide) pk911.2.2.2).1
    have rg957 : FA w947 ≠ 0 ∨ (1 ≤ n906 ∧ n906 ≤ 6) := hn910.imp_left (PK.fr hF950 (by decide) (by decide) pk911.2.2.2).1
    have ms958 : mu w947 < mu w := Nat.lt_of_le_of_lt (PK.fr hF950 (by decide) (by decide) pk911.2.2.2).2.1 ms914
    clear rg913 hn910
    refine xg_t (xg_iinc (u := 0) (z := 1) (l1 := [(3, (0, u45)), (2, (0, at_)), (1, (0, 6)), (0, (2, 82))]) rfl rfl (by decide) rfl) ?_
    refine xg_t (xg_goto) ?_
    refine xg_t (xg_blk (b := [(365, 2, 2, 4, 0, 0), (367, 1, 3, 2, 0, 0), (368, 3, 6, 394, 3, 0), (371, 1, 0, 0, 0, 0), (372, 1, 2, 1, 0, 0), (373, 1, 2, 3, 0, 0), (374, 1, 3, 5, 0, 0), (375, 2, 2, 4, 0, 0), (377, 1, 11, 0, 0, 0), (378, 1, 0, 0, 0, 0), (379, 1, 3, 1, 0, 0), (380, 2, 4, 6, 0, 0), (382, 3, 13, 199, 96, 196), (385, 3, 13, 211, 96, 200), (388, 3, 9, 4, 1, 0), (391, 3, 8, 365, 0, 0)]) rfl) ?_
    refine xg_t (xg_iload (va := (0, 1)) rfl rfl) ?_
    refine xg_t (xg_const) ?_
    refine xg_t (xg_icF (u := 1) (v := 2) rfl xnm0 xnm0 (by decide)) ?_
    refine xg_t (xg_aload (va := (2, 82)) rfl rfl) ?_
    refine xg_t (xg_iload (va := (0, 6)) rfl rfl) ?_
    refine xg_t (xg_iload (va := (0, u45)) rfl rfl) ?_
    refine xg_t (xg_const) ?_
    refine xg_t (xg_iload (va := (0, 1)) rfl rfl) ?_
    refine xg_t (xg_iadd (u := 5) (v := 1) (z := 6) xnm0 xnm0 (by decide)) ?_
    refine xg_t (xg_aload (va := (2, 82)) rfl rfl) ?_
    refine xg_t (xg_const) ?_
    refine xg_t (xg_bip) ?_
    refine xg_cVi mX12_numbered (vs := [(0, 1), (0, 6)]) (rest := [(0, 6), (0, u45), (0, 6), (2, 82)]) (cn1 := 0) (sl1 := 0) rfl (mNumbered (hI949) (by omega) (by omega) pk954.2.2.2) rfl (hF950.get (by decide) h82_945) rfl rfl rfl rfl rfl rfl (fun n963 w959 hq960 => ?_)
    obtain ⟨hn964, hI961, hF962⟩ := hq960
    clear hb916 hb918 hb920 hb922 hb924 hb926 hb928 hb930 hb932 hb934 hb938 hb940 hb942 hb944
    obtain ⟨hn965, hn966, hn967⟩ := hn964
    have pk968 : PK w w959 := PK.tr pk954 hn966
    have os969 : ∀ j, (j < 5 ∨ 7 ≤ j) → j < 140 → rwv w959 86 j = rwv w 86 j := fun j hj hl => (rwv_fr hF962 (by decide)).trans (os955 j hj hl)
    have ix970 : u45 < 1 → rwv w959 86 (5) = n906 := fun h => (rwv_fr hF962 (by decide)).trans (hp952 h)
    have rg971 : FA w959 ≠ 0 ∨ 0 = 1 := rg956.imp_left hn966.1
    have rg972 : FA w959 ≠ 0 ∨ (1 ≤ n906 ∧ n906 ≤ 6) := rg957.imp_left hn966.1
    have ms973 : mu w959 < mu w := Nat.lt_of_le_of_lt hn966.2.1 ms958
    clear hp952 rg956 rg957
    obtain ⟨f82_974, f82_976, f82_978, f82_980, f82_982, f82_984, f82_986, f82_988, f82_990, f82_992, f82_994, f82_995, f82_996, f82_998, f82_1000, f82_1002, h82_1004, hb975, hb977, hb979, hb981, hb983, hb985, hb987, hb989, hb991, hb993, hb997, hb999, hb1001, hb1003, hb1005⟩ := (hI961 82 (by decide) (by decide) : cp82 (wget w959 82))
    refine xg_cVv mX12_puts (vs := [(0, 6), (0, u45), (0, 6), (0, n963)]) (rest := []) (cn1 := 0) (sl1 := 0) rfl (mPuts6 (hI961) (by omega) (by omega) (by omega) (fun _ => by omega)) rfl h82_1004 rfl rfl rfl rfl rfl rfl (fun w1006 hq1007 => ?_)
    obtain ⟨hI1008, hF1009, hx1010⟩ := hq1007
    obtain ⟨hp1011, hp1012⟩ := hx1010
    have pk1013 : PK w w1006 := PK.tr pk968 (PK.fr hF1009 (by decide) (by decide) pk968.2.2.2)
    have os1014 : ∀ j, (j < 5 ∨ 7 ≤ j) → j < 140 → rwv w1006 86 j = rwv w 86 j := fun j hj hl => (hp1012 j (by omega) hl).trans (os969 j hj hl)
    have ix1015 : u45 < 1 → rwv w1006 86 (5) = n906 := fun h => (hp1012 _ (by omega) (by omega)).trans (ix970 h)
    have rg1016 : FA w1006 ≠ 0 ∨ 0 = 1 := rg971.imp_left (PK.fr hF1009 (by decide) (by decide) pk968.2.2.2).1
    have rg1017 : FA w1006 ≠ 0 ∨ (1 ≤ n906 ∧ n906 ≤ 6) := rg972.imp_left (PK.fr hF1009 (by decide) (by decide) pk968.2.2.2).1
    have rg1018 : FA w1006 ≠ 0 ∨ (1 ≤ n963 ∧ n963 ≤ 6) := hn967.imp_left (PK.fr hF1009 (by decide) (by decide) pk968.2.2.2).1
    have ms1019 : mu w1006 < mu w := Nat.lt_of_le_of_lt (PK.fr hF1009 (by decide) (by decide) pk968.2.2.2).2.1 ms973
    clear ix970 rg971 rg972 hn967
    refine xg_t (xg_iinc (u := 1) (z := 2) (l1 := [(3, (0, u45)), (2, (0, at_)), (1, (0, 6)), (0, (2, 82))]) rfl rfl (by decide) rfl) ?_
    refine xg_t (xg_goto) ?_
    refine xg_t (xg_blk (b := [(365, 2, 2, 4, 0, 0), (367, 1, 3, 2, 0, 0), (368, 3, 6, 394, 3, 0), (371, 1, 0, 0, 0, 0), (372, 1, 2, 1, 0, 0), (373, 1, 2, 3, 0, 0), (374, 1, 3, 5, 0, 0), (375, 2, 2, 4, 0, 0), (377, 1, 11, 0, 0, 0), (378, 1, 0, 0, 0, 0), (379, 1, 3, 1, 0, 0), (380, 2, 4, 6, 0, 0), (382, 3, 13, 199, 96, 196), (385, 3, 13, 211, 96, 200), (388, 3, 9, 4, 1, 0), (391, 3, 8, 365, 0, 0)]) rfl) ?_
    refine xg_t (xg_iload (va := (0, 2)) rfl rfl) ?_
    refine xg_t (xg_const) ?_
    refine xg_t (xg_icT (u := 2) (v := 2) rfl xnm0 xnm0 (by decide)) ?_
    refine xg_t (xg_drop (l1 := [(0, (2, 82)), (1, (0, 6)), (3, (0, u45))]) (List.forall_mem_cons.mpr ⟨List.mem_cons_of_mem _ (List.mem_cons_of_mem _ (List.mem_cons_of_mem _ (List.mem_cons_of_mem _ (List.mem_cons_self)))), List.forall_mem_cons.mpr ⟨List.mem_cons_of_mem _ (List.mem_cons_of_mem _ (List.mem_cons_of_mem _ (List.mem_cons_self))), List.forall_mem_cons.mpr ⟨List.mem_cons_of_mem _ (List.mem_cons_self), fun _ h => absurd h List.not_mem_nil⟩⟩⟩)) ?_
    have hX1020 : FA w1006 ≠ 0 ∨ u45 < 1 := Or.inl (by have q := rg1016; omega)
    have hN1021 : FA w1006 ≠ 0 ∨ 1 ≤ u45 ∨ (1 ≤ rwv w1006 86 5 ∧ rwv w1006 86 5 ≤ 6 ∧ 1 ≤ rwv w1006 86 6 ∧ rwv w1006 86 6 ≤ 6) := by
      have hl1022 : u45 < 1 → rwv w1006 86 (5) = n906 := ix1015
      have hl1023 : u45 < 1 → rwv w1006 86 (6) = n963 := hp1011
      have hl1024 := rg1017
      have hl1025 := rg1018
      omega
    exact jn557 w1006 (hI1008) (((((((hF535.up (by decide)).tr (hF544.up (by decide))).tr (hF905.up (by decide))).tr (hF950.up (by decide))).tr (hF962.up (by decide))).tr (hF1009.up (by decide)))) (⟨pk1013, os1014, ms1019, hX1020, hN1021⟩)
set_option maxHeartbeats 60000000 in
theorem mALine (hI : xMnv w) (hps : PS w) (hmb : ∀ s, s < 7 → rwv w 85 s ≤ 1000) (hln : fld w 82 14 ≤ 1000) : xPq (d + 7) mX12_aLine [(2, 82)] w bd fc rr [] (fun w' => xMnv w' ∧ xFr [82, 83, 85, 86, 87] w w' ∧ ((FA w ≠ 0 → FA w' ≠ 0) ∧ PS w' ∧ ((fld w' 82 10 = 1 ∧ mu w' = mu w ∧ fld w' 82 14 = fld w 82 14 ∧ ∀ s, s < 7 → rwv w' 85 s = rwv w 85 s) ∨ (mu w' < mu w ∧ fld w' 82 14 = fld w 82 14 + 1 ∧ ∀ s, s < 7 → rwv w' 85 s ≤ rwv w 85 s + 1)) ∧ (FA w' ≠ 0 ∨ (DATA w → DATA w')))) := by
  refine xPq.of ?_
  show xTo (d + 7) mX12_aLine (0, [], [(0, (2, 82))], [], (w, bd, fc, 0, 0, rr)) (fun φ => ∃ w', xEnd 0 [] (w', bd, fc, 0, 0, rr) φ ∧ xMnv w' ∧ xFr [82, 83, 85, 86, 87] w w' ∧ ((FA w ≠ 0 → FA w' ≠ 0) ∧ PS w' ∧ ((fld w' 82 10 = 1 ∧ mu w' = mu w ∧ fld w' 82 14 = fld w 82 14 ∧ ∀ s, s < 7 → rwv w' 85 s = rwv w 85 s) ∨ (mu w' < mu w ∧ fld w' 82 14 = fld w 82 14 + 1 ∧ ∀ s, s < 7 → rwv w' 85 s ≤ rwv w 85 s + 1)) ∧ (FA w' ≠ 0 ∨ (DATA w → DATA w'))))
  obtain ⟨f82_1, f82_3, f82_5, f82_7, f82_9, f82_11, f82_13, f82_15, f82_17, f82_19, f82_21, f82_22, f82_23, f82_25, f82_27, f82_29, h82_31, hb2, hb4, hb6, hb8, hb10, hb12, hb14, hb16, hb18, hb20, hb24, hb26, hb28, hb30, hb32⟩ := (hI 82 (by decide) (by decide) : cp82 (wget w 82))
  have hf33 : fld w 82 7 = f82_11 := fld_of h82_31
  have hf34 : fld w 82 10 = f82_17 := fld_of h82_31
  have hf35 : fld w 82 14 = f82_19 := fld_of h82_31
  have hps_ : fld w 82 10 = 0 ∨ FA w ≠ 0 := hps
  obtain ⟨g85_36, h85_37, hb38⟩ := (hI 85 (by decide) (by decide) : cpI 7 52 4294967295 (wget w 85))
  have h85_37 : xRow w 85 7 52 g85_36 := h85_37
  obtain ⟨g86_39, h86_40, hb41⟩ := (hI 86 (by decide) (by decide) : cpI 140 53 4294967295 (wget w 86))
  have h86_40 : xRow w 86 140 53 g86_39 := h86_40
  obtain ⟨g87_42, h87_43, hb44⟩ := (hI 87 (by decide) (by decide) : cpI 20 54 4294967295 (wget w 87))
  have h87_43 : xRow w 87 20 54 g87_42 := h87_43
  refine xg_t (xg_blk (b := [(0, 1, 0, 0, 0, 0), (1, 3, 1, 12, 9, 165), (4, 1, 15, 1, 0, 0), (5, 1, 0, 0, 0, 0), (6, 3, 1, 12, 6, 148), (9, 1, 15, 2, 0, 0), (10, 1, 0, 0, 0, 0), (11, 3, 1, 12, 10, 180), (14, 3, 7, 38, 1, 0), (17, 1, 0, 0, 0, 0), (18, 3, 1, 12, 7, 151), (21, 1, 3, 3, 0, 0), (22, 3, 6, 38, 1, 0), (25, 1, 0, 0, 0, 0), (26, 3, 1, 12, 9, 165), (29, 1, 3, 0, 0, 0), (30, 2, 4, 6, 0, 0), (32, 3, 13, 161, 98, 105), (35, 3, 7, 43, 1, 0)]) rfl) ?_
  refine xg_t (xg_aload (va := (2, 82)) rfl rfl) ?_
  refine xg_t (xg_getf (va := (0, f82_15)) h82_31 rfl) ?_
  refine xg_t (xg_istore (l1 := [(0, (2, 82))]) rfl rfl rfl) ?_
  refine xg_t (xg_aload (va := (2, 82)) rfl rfl) ?_
  refine xg_t (xg_getf (va := (0, f82_9)) h82_31 rfl) ?_
  refine xg_t (xg_istore (l1 := [(1, (0, f82_15)), (0, (2, 82))]) rfl rfl rfl) ?_
  refine xg_t (xg_aload (va := (2, 82)) rfl rfl) ?_
  refine xg_t (xg_getf (va := (0, f82_17)) h82_31 rfl) ?_
  by_cases hc45 : f82_17 = 0
  · refine xg_t (xg_ifF (u := f82_17) rfl xnm0 (xj_neF hc45)) ?_
    refine xg_t (xg_aload (va := (2, 82)) rfl rfl) ?_
    refine xg_t (xg_getf (va := (0, f82_11)) h82_31 rfl) ?_
    refine xg_t (xg_const) ?_
    by_cases hc46 : f82_11 = 3
    · refine xg_t (xg_icF (u := f82_11) (v := 3) rfl xnm0 xnm0 (xj_neF hc46)) ?_
      refine xg_t (xg_aload (va := (2, 82)) rfl rfl) ?_
      refine xg_t (xg_getf (va := (0, f82_15)) h82_31 rfl) ?_
      refine xg_t (xg_const) ?_
      refine xg_t (xg_bip) ?_
      refine xg_t (xg_cSr mX12_isIn (vs := [(0, f82_15), (0, 0), (0, 6)]) (rest := []) (rs := [(0, if 0 ≤ f82_15 ∧ f82_15 ≤ 6 then 1 else 0)]) (cn1 := 0) (sl1 := 0) rfl (mIsIn (by omega) (by omega) (by omega)) rfl rfl rfl rfl rfl rfl rfl rfl) ?_
      by_cases hc47 : 0 ≤ f82_15 ∧ f82_15 ≤ 6
      · refine xg_t (xg_ifT (u := (if 0 ≤ f82_15 ∧ f82_15 ≤ 6 then 1 else 0)) rfl xnm0 (xj_neT (xite1 hc47))) ?_
        rcases (show f82_15 = 0 ∨ f82_15 = 1 ∨ f82_15 = 2 ∨ f82_15 = 3 ∨ f82_15 = 4 ∨ f82_15 = 5 ∨ f82_15 = 6 by omega) with rfl | rfl | rfl | rfl | rfl | rfl | rfl
        · exact mALineS0 hI hps hmb hln (by omega) (by omega)
        · exact mALineS1 hI hps hmb hln (by omega) (by omega)
        · exact mALineS2 hI hps hmb hln (by omega) (by omega)
        · exact mALineS3 hI hps hmb hln (by omega) (by omega)
        · exact mALineS4 hI hps hmb hln (by omega) (by omega)
        · exact mALineS5 hI hps hmb hln (by omega) (by omega)
        · exact mALineS6 hI hps hmb hln (by omega) (by omega)
      · refine xg_t (xg_ifF (u := (if 0 ≤ f82_15 ∧ f82_15 ≤ 6 then 1 else 0)) rfl xnm0 (xj_neF (xite0 hc47))) ?_
        refine xg_t (xg_blk (b := [(38, 1, 0, 0, 0, 0), (39, 3, 13, 140, 96, 183), (42, 1, 12, 0, 0, 0)]) rfl) ?_
        refine xg_t (xg_aload (va := (2, 82)) rfl rfl) ?_
        refine xg_cVv mX12_ends (vs := []) (rest := []) (cn1 := 0) (sl1 := 0) rfl (mEnds (hI) hps) rfl h82_31 rfl rfl rfl rfl rfl rfl (fun w48 hq49 => ?_)
        obtain ⟨hI50, hF51, hx52⟩ := hq49
        obtain ⟨hv53, hv54, hv55, hv56⟩ := hx52
        obtain ⟨f82_57, f82_59, f82_61, f82_63, f82_65, f82_67, f82_69, f82_71, f82_73, f82_75, f82_77, f82_78, f82_79, f82_81, f82_83, f82_85, h82_87, hb58, hb60, hb62, hb64, hb66, hb68, hb70, hb72, hb74, hb76, hb80, hb82, hb84, hb86, hb88⟩ := (hI50 82 (by decide) (by decide) : cp82 (wget w48 82))
        exact xg_e ⟨w48, ⟨rfl, rfl⟩, hI50, (hF51.up (by decide)), ⟨fun _ => hv53, Or.inr hv53, Or.inl ⟨hv54, hv55, hv56, fun s hs => rwv_fr hF51 (by decide)⟩, Or.inl hv53⟩⟩
    · refine xg_t (xg_icT (u := f82_11) (v := 3) rfl xnm0 xnm0 (xj_neT hc46)) ?_
      refine xg_t (xg_blk (b := [(38, 1, 0, 0, 0, 0), (39, 3, 13, 140, 96, 183), (42, 1, 12, 0, 0, 0)]) rfl) ?_
      refine xg_t (xg_aload (va := (2, 82)) rfl rfl) ?_
      refine xg_cVv mX12_ends (vs := []) (rest := []) (cn1 := 0) (sl1 := 0) rfl (mEnds (hI) hps) rfl h82_31 rfl rfl rfl rfl rfl rfl (fun w89 hq90 => ?_)
      obtain ⟨hI91, hF92, hx93⟩ := hq90
      obtain ⟨hv94, hv95, hv96, hv97⟩ := hx93
      obtain ⟨f82_98, f82_100, f82_102, f82_104, f82_106, f82_108, f82_110, f82_112, f82_114, f82_116, f82_118, f82_119, f82_120, f82_122, f82_124, f82_126, h82_128, hb99, hb101, hb103, hb105, hb107, hb109, hb111, hb113, hb115, hb117, hb121, hb123, hb125, hb127, hb129⟩ := (hI91 82 (by decide) (by decide) : cp82 (wget w89 82))
      exact xg_e ⟨w89, ⟨rfl, rfl⟩, hI91, (hF92.up (by decide)), ⟨fun _ => hv94, Or.inr hv94, Or.inl ⟨hv95, hv96, hv97, fun s hs => rwv_fr hF92 (by decide)⟩, Or.inl hv94⟩⟩
  · refine xg_t (xg_ifT (u := f82_17) rfl xnm0 (xj_neT hc45)) ?_
    refine xg_t (xg_blk (b := [(38, 1, 0, 0, 0, 0), (39, 3, 13, 140, 96, 183), (42, 1, 12, 0, 0, 0)]) rfl) ?_
    refine xg_t (xg_aload (va := (2, 82)) rfl rfl) ?_
    refine xg_cVv mX12_ends (vs := []) (rest := []) (cn1 := 0) (sl1 := 0) rfl (mEnds (hI) hps) rfl h82_31 rfl rfl rfl rfl rfl rfl (fun w130 hq131 => ?_)
    obtain ⟨hI132, hF133, hx134⟩ := hq131
    obtain ⟨hv135, hv136, hv137, hv138⟩ := hx134
    obtain ⟨f82_139, f82_141, f82_143, f82_145, f82_147, f82_149, f82_151, f82_153, f82_155, f82_157, f82_159, f82_160, f82_161, f82_163, f82_165, f82_167, h82_169, hb140, hb142, hb144, hb146, hb148, hb150, hb152, hb154, hb156, hb158, hb162, hb164, hb166, hb168, hb170⟩ := (hI132 82 (by decide) (by decide) : cp82 (wget w130 82))
    exact xg_e ⟨w130, ⟨rfl, rfl⟩, hI132, (hF133.up (by decide)), ⟨fun _ => hv135, Or.inr hv135, Or.inl ⟨hv136, hv137, hv138, fun s hs => rwv_fr hF133 (by decide)⟩, Or.inl hv135⟩⟩
end XMB
